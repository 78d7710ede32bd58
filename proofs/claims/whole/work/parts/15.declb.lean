theorem d_LAW_law_156 : decode mi_LAW_law.2.1 156 = .ok (.iaload, 1) := by decide +kernel
theorem d_LAW_law_157 : decode mi_LAW_law.2.1 157 = .ok (.invokevirtual 25, 3) := by decide +kernel
theorem d_LAW_law_160 : decode mi_LAW_law.2.1 160 = .ok (.if_icmp .eq (615), 3) := by decide +kernel
theorem d_LAW_law_163 : decode mi_LAW_law.2.1 163 = .ok (.iconst 0, 1) := by decide +kernel
theorem d_LAW_law_164 : decode mi_LAW_law.2.1 164 = .ok (.ireturn, 1) := by decide +kernel
theorem d_LAW_law_165 : decode mi_LAW_law.2.1 165 = .ok (.aload_n 1, 1) := by decide +kernel
theorem d_LAW_law_166 : decode mi_LAW_law.2.1 166 = .ok (.aload_n 0, 1) := by decide +kernel
theorem d_LAW_law_167 : decode mi_LAW_law.2.1 167 = .ok (.iload_n 3, 1) := by decide +kernel
theorem d_LAW_law_168 : decode mi_LAW_law.2.1 168 = .ok (.iconst 1, 1) := by decide +kernel
theorem d_LAW_law_169 : decode mi_LAW_law.2.1 169 = .ok (.iadd, 1) := by decide +kernel
theorem d_LAW_law_170 : decode mi_LAW_law.2.1 170 = .ok (.iaload, 1) := by decide +kernel
theorem d_LAW_law_171 : decode mi_LAW_law.2.1 171 = .ok (.invokevirtual 26, 3) := by decide +kernel
theorem d_LAW_law_174 : decode mi_LAW_law.2.1 174 = .ok (.aload_n 2, 1) := by decide +kernel
theorem d_LAW_law_175 : decode mi_LAW_law.2.1 175 = .ok (.aload_n 0, 1) := by decide +kernel
theorem d_LAW_law_176 : decode mi_LAW_law.2.1 176 = .ok (.iload_n 3, 1) := by decide +kernel
theorem d_LAW_law_177 : decode mi_LAW_law.2.1 177 = .ok (.iconst 1, 1) := by decide +kernel
theorem d_LAW_law_178 : decode mi_LAW_law.2.1 178 = .ok (.iadd, 1) := by decide +kernel
theorem d_LAW_law_179 : decode mi_LAW_law.2.1 179 = .ok (.iaload, 1) := by decide +kernel
theorem d_LAW_law_180 : decode mi_LAW_law.2.1 180 = .ok (.invokevirtual 30, 3) := by decide +kernel
theorem d_LAW_law_183 : decode mi_LAW_law.2.1 183 = .ok (.if_icmp .eq (592), 3) := by decide +kernel
theorem d_LAW_law_186 : decode mi_LAW_law.2.1 186 = .ok (.iconst 0, 1) := by decide +kernel
theorem d_LAW_law_187 : decode mi_LAW_law.2.1 187 = .ok (.ireturn, 1) := by decide +kernel
theorem d_LAW_law_188 : decode mi_LAW_law.2.1 188 = .ok (.aload_n 1, 1) := by decide +kernel
theorem d_LAW_law_189 : decode mi_LAW_law.2.1 189 = .ok (.aload_n 0, 1) := by decide +kernel
theorem d_LAW_law_190 : decode mi_LAW_law.2.1 190 = .ok (.iload_n 3, 1) := by decide +kernel
theorem d_LAW_law_191 : decode mi_LAW_law.2.1 191 = .ok (.iconst 1, 1) := by decide +kernel
theorem d_LAW_law_192 : decode mi_LAW_law.2.1 192 = .ok (.iadd, 1) := by decide +kernel
theorem d_LAW_law_193 : decode mi_LAW_law.2.1 193 = .ok (.iaload, 1) := by decide +kernel
theorem d_LAW_law_194 : decode mi_LAW_law.2.1 194 = .ok (.aload_n 0, 1) := by decide +kernel
theorem d_LAW_law_195 : decode mi_LAW_law.2.1 195 = .ok (.iload_n 3, 1) := by decide +kernel
theorem d_LAW_law_196 : decode mi_LAW_law.2.1 196 = .ok (.iconst 2, 1) := by decide +kernel
theorem d_LAW_law_197 : decode mi_LAW_law.2.1 197 = .ok (.iadd, 1) := by decide +kernel
theorem d_LAW_law_198 : decode mi_LAW_law.2.1 198 = .ok (.iaload, 1) := by decide +kernel
theorem d_LAW_law_199 : decode mi_LAW_law.2.1 199 = .ok (.invokevirtual 31, 3) := by decide +kernel
theorem d_LAW_law_202 : decode mi_LAW_law.2.1 202 = .ok (.aload_n 2, 1) := by decide +kernel
theorem d_LAW_law_203 : decode mi_LAW_law.2.1 203 = .ok (.aload_n 0, 1) := by decide +kernel
theorem d_LAW_law_204 : decode mi_LAW_law.2.1 204 = .ok (.iload_n 3, 1) := by decide +kernel
theorem d_LAW_law_205 : decode mi_LAW_law.2.1 205 = .ok (.iconst 1, 1) := by decide +kernel
theorem d_LAW_law_206 : decode mi_LAW_law.2.1 206 = .ok (.iadd, 1) := by decide +kernel
theorem d_LAW_law_207 : decode mi_LAW_law.2.1 207 = .ok (.iaload, 1) := by decide +kernel
theorem d_LAW_law_208 : decode mi_LAW_law.2.1 208 = .ok (.aload_n 0, 1) := by decide +kernel
theorem d_LAW_law_209 : decode mi_LAW_law.2.1 209 = .ok (.iload_n 3, 1) := by decide +kernel
theorem d_LAW_law_210 : decode mi_LAW_law.2.1 210 = .ok (.iconst 2, 1) := by decide +kernel
theorem d_LAW_law_211 : decode mi_LAW_law.2.1 211 = .ok (.iadd, 1) := by decide +kernel
theorem d_LAW_law_212 : decode mi_LAW_law.2.1 212 = .ok (.iaload, 1) := by decide +kernel
theorem d_LAW_law_213 : decode mi_LAW_law.2.1 213 = .ok (.invokevirtual 34, 3) := by decide +kernel
theorem d_LAW_law_216 : decode mi_LAW_law.2.1 216 = .ok (.if_icmp .eq (559), 3) := by decide +kernel
theorem d_LAW_law_219 : decode mi_LAW_law.2.1 219 = .ok (.iconst 0, 1) := by decide +kernel
theorem d_LAW_law_220 : decode mi_LAW_law.2.1 220 = .ok (.ireturn, 1) := by decide +kernel
theorem d_LAW_law_221 : decode mi_LAW_law.2.1 221 = .ok (.aload_n 1, 1) := by decide +kernel
theorem d_LAW_law_222 : decode mi_LAW_law.2.1 222 = .ok (.aload_n 0, 1) := by decide +kernel
theorem d_LAW_law_223 : decode mi_LAW_law.2.1 223 = .ok (.iload_n 3, 1) := by decide +kernel
theorem d_LAW_law_224 : decode mi_LAW_law.2.1 224 = .ok (.iconst 1, 1) := by decide +kernel
theorem d_LAW_law_225 : decode mi_LAW_law.2.1 225 = .ok (.iadd, 1) := by decide +kernel
theorem d_LAW_law_226 : decode mi_LAW_law.2.1 226 = .ok (.iaload, 1) := by decide +kernel
theorem d_LAW_law_227 : decode mi_LAW_law.2.1 227 = .ok (.aload_n 0, 1) := by decide +kernel
theorem d_LAW_law_228 : decode mi_LAW_law.2.1 228 = .ok (.iload_n 3, 1) := by decide +kernel
theorem d_LAW_law_229 : decode mi_LAW_law.2.1 229 = .ok (.iconst 2, 1) := by decide +kernel
theorem d_LAW_law_230 : decode mi_LAW_law.2.1 230 = .ok (.iadd, 1) := by decide +kernel
theorem d_LAW_law_231 : decode mi_LAW_law.2.1 231 = .ok (.iaload, 1) := by decide +kernel
