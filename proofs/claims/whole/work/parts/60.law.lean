theorem ex_sldN {G : xC} {X : xS} {y : mI} {cb sb pc : Nat} {L : List (Option Value)} {st : List Value} {ws : va_W} {Q : Option Value → va_W → Prop} {b ln j : Nat} {f : Nat → Int32} {a : Int32} (n : Nat) (hd : decode y.2.1 pc = .ok (.iaload, 1)) (hn : pc + 1 = n) (hx : X = some (b, ln, f)) (ha : a = nI j) (hj : j < ln) (hl : ln < 2 ^ 31)
    (kk : Ex G X y cb sb n L (.int (f j) :: st) ws Q) : Ex G X y cb sb pc L (.int a :: .ref b :: st) ws Q := by
  subst ha
  refine ex_sld n hd hn hx (vp_in_nI hj hl) ?_
  rw [nI_clamp (Nat.lt_trans hj hl)]
  exact kk
section LW
variable {G : xC} {ad : Nat → Nat} {N : Nat} {S M : sT}
set_option maxRecDepth 100000 in
set_option maxHeartbeats 4000000 in
theorem law_0 {b ln i : Nat} {xs : Nat → Int32} (hln : ln ≤ 2049) (hi : i + 4 ≤ ln) (hJ : JJ N S M) (kk : ∀ S M, JJ N S M → Ex G (some (b, ln, xs)) mi_LAW_law 0 0 775 [some (.ref b), some (.ref (ad 0)), some (.ref (ad (rp N 0))), some (.int (nI i))] [] (LR G ad N S M) (xI (fun v w => v = 1))) : Ex G (some (b, ln, xs)) mi_LAW_law 0 0 132 [some (.ref b), some (.ref (ad 0)), some (.ref (ad (rp N 0))), some (.int (nI i))] [] (LR G ad N S M) (xI (fun v w => v = 1)) := by
  refine ex_aload_n (a := ad 0) 133 d_LAW_law_132 rfl rfl ?_
  refine ex_aload_n (a := b) 134 d_LAW_law_133 rfl rfl ?_
  refine ex_iload_n (a := nI i) 135 d_LAW_law_134 rfl rfl ?_
  refine ex_iconst (v := 1) 136 d_LAW_law_135 rfl (by decide) ?_
  refine ex_iaddN (i + 1) 137 d_LAW_law_136 rfl rfl (xn_lit 1) (by omega) ?_
  refine ex_sldN 138 d_LAW_law_137 rfl rfl rfl (by omega) (by omega) ?_
  refine ex_aload_n (a := b) 139 d_LAW_law_138 rfl rfl ?_
  refine ex_iload_n (a := nI i) 140 d_LAW_law_139 rfl rfl ?_
  refine ex_iconst (v := 2) 141 d_LAW_law_140 rfl (by decide) ?_
  refine ex_iaddN (i + 2) 142 d_LAW_law_141 rfl rfl (xn_lit 2) (by omega) ?_
  refine ex_sldN 143 d_LAW_law_142 rfl rfl rfl (by omega) (by omega) ?_
  obtain ⟨v, S1, M1, hc, hr, hJ1⟩ := sim_ask (G := G) (ad := ad) hJ (xs (i + 1)) (xs (i + 2))
  refine xl_callVi [.int (xs (i + 1)), .int (xs (i + 2))] [] 146 d_LAW_law_143 rfl zv_SL_ask ⟨(Nat.le_of_ble_eq_true rfl), (Nat.le_of_ble_eq_true rfl)⟩ m_LAW_21 (kp0 (by decide)) sh_SL rfl rfl (Nat.le_of_ble_eq_true rfl) rfl (Nat.le_of_ble_eq_true rfl) hc (fun v' w hw => ?_)
  rw [hw.1, hw.2]
  refine ex_aload_n (a := ad (rp N 0)) 147 d_LAW_law_146 rfl rfl ?_
  refine ex_aload_n (a := b) 148 d_LAW_law_147 rfl rfl ?_
  refine ex_iload_n (a := nI i) 149 d_LAW_law_148 rfl rfl ?_
  refine ex_iconst (v := 1) 150 d_LAW_law_149 rfl (by decide) ?_
  refine ex_iaddN (i + 1) 151 d_LAW_law_150 rfl rfl (xn_lit 1) (by omega) ?_
  refine ex_sldN 152 d_LAW_law_151 rfl rfl rfl (by omega) (by omega) ?_
  refine ex_aload_n (a := b) 153 d_LAW_law_152 rfl rfl ?_
  refine ex_iload_n (a := nI i) 154 d_LAW_law_153 rfl rfl ?_
  refine ex_iconst (v := 2) 155 d_LAW_law_154 rfl (by decide) ?_
  refine ex_iaddN (i + 2) 156 d_LAW_law_155 rfl rfl (xn_lit 2) (by omega) ?_
  refine ex_sldN 157 d_LAW_law_156 rfl rfl rfl (by omega) (by omega) ?_
  refine xr_callVi [.int (xs (i + 1)), .int (xs (i + 2))] [.int v] 160 d_LAW_law_157 rfl zv_MO_ask ⟨(Nat.le_of_ble_eq_true rfl), (Nat.le_of_ble_eq_true rfl)⟩ m_LAW_25 (by decide) rfl rfl rfl (Nat.le_of_ble_eq_true rfl) rfl (Nat.le_of_ble_eq_true rfl) hr (fun v'' w hw => ?_)
  rw [hw.1, hw.2]
  refine ex_icmpeq 775 163 d_LAW_law_160 rfl rfl (fun _ => ?_) (fun h => absurd rfl h)
  exact kk S1 M1 hJ1
set_option maxRecDepth 100000 in
set_option maxHeartbeats 4000000 in
theorem law_1 {b ln i : Nat} {xs : Nat → Int32} (hln : ln ≤ 2049) (hi : i + 4 ≤ ln) (hJ : JJ N S M) (kk : ∀ S M, JJ N S M → Ex G (some (b, ln, xs)) mi_LAW_law 0 0 775 [some (.ref b), some (.ref (ad 0)), some (.ref (ad (rp N 0))), some (.int (nI i))] [] (LR G ad N S M) (xI (fun v w => v = 1))) : Ex G (some (b, ln, xs)) mi_LAW_law 0 0 165 [some (.ref b), some (.ref (ad 0)), some (.ref (ad (rp N 0))), some (.int (nI i))] [] (LR G ad N S M) (xI (fun v w => v = 1)) := by
  refine ex_aload_n (a := ad 0) 166 d_LAW_law_165 rfl rfl ?_
  refine ex_aload_n (a := b) 167 d_LAW_law_166 rfl rfl ?_
  refine ex_iload_n (a := nI i) 168 d_LAW_law_167 rfl rfl ?_
  refine ex_iconst (v := 1) 169 d_LAW_law_168 rfl (by decide) ?_
  refine ex_iaddN (i + 1) 170 d_LAW_law_169 rfl rfl (xn_lit 1) (by omega) ?_
  refine ex_sldN 171 d_LAW_law_170 rfl rfl rfl (by omega) (by omega) ?_
  obtain ⟨v, S1, M1, hc, hr, hJ1⟩ := sim_lead (G := G) (ad := ad) hJ (xs (i + 1))
  refine xl_callVi [.int (xs (i + 1))] [] 174 d_LAW_law_171 rfl zv_SL_lead ⟨(Nat.le_of_ble_eq_true rfl), (Nat.le_of_ble_eq_true rfl)⟩ m_LAW_26 (kp0 (by decide)) sh_SL rfl rfl (Nat.le_of_ble_eq_true rfl) rfl (Nat.le_of_ble_eq_true rfl) hc (fun v' w hw => ?_)
  rw [hw.1, hw.2]
  refine ex_aload_n (a := ad (rp N 0)) 175 d_LAW_law_174 rfl rfl ?_
  refine ex_aload_n (a := b) 176 d_LAW_law_175 rfl rfl ?_
  refine ex_iload_n (a := nI i) 177 d_LAW_law_176 rfl rfl ?_
  refine ex_iconst (v := 1) 178 d_LAW_law_177 rfl (by decide) ?_
  refine ex_iaddN (i + 1) 179 d_LAW_law_178 rfl rfl (xn_lit 1) (by omega) ?_
  refine ex_sldN 180 d_LAW_law_179 rfl rfl rfl (by omega) (by omega) ?_
  refine xr_callVi [.int (xs (i + 1))] [.int v] 183 d_LAW_law_180 rfl zv_MO_lead ⟨(Nat.le_of_ble_eq_true rfl), (Nat.le_of_ble_eq_true rfl)⟩ m_LAW_30 (by decide) rfl rfl rfl (Nat.le_of_ble_eq_true rfl) rfl (Nat.le_of_ble_eq_true rfl) hr (fun v'' w hw => ?_)
  rw [hw.1, hw.2]
  refine ex_icmpeq 775 186 d_LAW_law_183 rfl rfl (fun _ => ?_) (fun h => absurd rfl h)
  exact kk S1 M1 hJ1
set_option maxRecDepth 100000 in
set_option maxHeartbeats 4000000 in
theorem law_2 {b ln i : Nat} {xs : Nat → Int32} (hln : ln ≤ 2049) (hi : i + 4 ≤ ln) (hJ : JJ N S M) (kk : ∀ S M, JJ N S M → Ex G (some (b, ln, xs)) mi_LAW_law 0 0 775 [some (.ref b), some (.ref (ad 0)), some (.ref (ad (rp N 0))), some (.int (nI i))] [] (LR G ad N S M) (xI (fun v w => v = 1))) : Ex G (some (b, ln, xs)) mi_LAW_law 0 0 188 [some (.ref b), some (.ref (ad 0)), some (.ref (ad (rp N 0))), some (.int (nI i))] [] (LR G ad N S M) (xI (fun v w => v = 1)) := by
  refine ex_aload_n (a := ad 0) 189 d_LAW_law_188 rfl rfl ?_
  refine ex_aload_n (a := b) 190 d_LAW_law_189 rfl rfl ?_
  refine ex_iload_n (a := nI i) 191 d_LAW_law_190 rfl rfl ?_
  refine ex_iconst (v := 1) 192 d_LAW_law_191 rfl (by decide) ?_
  refine ex_iaddN (i + 1) 193 d_LAW_law_192 rfl rfl (xn_lit 1) (by omega) ?_
  refine ex_sldN 194 d_LAW_law_193 rfl rfl rfl (by omega) (by omega) ?_
  refine ex_aload_n (a := b) 195 d_LAW_law_194 rfl rfl ?_
  refine ex_iload_n (a := nI i) 196 d_LAW_law_195 rfl rfl ?_
  refine ex_iconst (v := 2) 197 d_LAW_law_196 rfl (by decide) ?_
  refine ex_iaddN (i + 2) 198 d_LAW_law_197 rfl rfl (xn_lit 2) (by omega) ?_
  refine ex_sldN 199 d_LAW_law_198 rfl rfl rfl (by omega) (by omega) ?_
  obtain ⟨v, S1, M1, hc, hr, hJ1⟩ := sim_promise (G := G) (ad := ad) hJ (xs (i + 1)) (xs (i + 2))
  refine xl_callVi [.int (xs (i + 1)), .int (xs (i + 2))] [] 202 d_LAW_law_199 rfl zv_SL_promise ⟨(Nat.le_of_ble_eq_true rfl), (Nat.le_of_ble_eq_true rfl)⟩ m_LAW_31 (kp0 (by decide)) sh_SL rfl rfl (Nat.le_of_ble_eq_true rfl) rfl (Nat.le_of_ble_eq_true rfl) hc (fun v' w hw => ?_)
  rw [hw.1, hw.2]
  refine ex_aload_n (a := ad (rp N 0)) 203 d_LAW_law_202 rfl rfl ?_
  refine ex_aload_n (a := b) 204 d_LAW_law_203 rfl rfl ?_
  refine ex_iload_n (a := nI i) 205 d_LAW_law_204 rfl rfl ?_
  refine ex_iconst (v := 1) 206 d_LAW_law_205 rfl (by decide) ?_
  refine ex_iaddN (i + 1) 207 d_LAW_law_206 rfl rfl (xn_lit 1) (by omega) ?_
  refine ex_sldN 208 d_LAW_law_207 rfl rfl rfl (by omega) (by omega) ?_
  refine ex_aload_n (a := b) 209 d_LAW_law_208 rfl rfl ?_
  refine ex_iload_n (a := nI i) 210 d_LAW_law_209 rfl rfl ?_
  refine ex_iconst (v := 2) 211 d_LAW_law_210 rfl (by decide) ?_
  refine ex_iaddN (i + 2) 212 d_LAW_law_211 rfl rfl (xn_lit 2) (by omega) ?_
  refine ex_sldN 213 d_LAW_law_212 rfl rfl rfl (by omega) (by omega) ?_
  refine xr_callVi [.int (xs (i + 1)), .int (xs (i + 2))] [.int v] 216 d_LAW_law_213 rfl zv_MO_promise ⟨(Nat.le_of_ble_eq_true rfl), (Nat.le_of_ble_eq_true rfl)⟩ m_LAW_34 (by decide) rfl rfl rfl (Nat.le_of_ble_eq_true rfl) rfl (Nat.le_of_ble_eq_true rfl) hr (fun v'' w hw => ?_)
  rw [hw.1, hw.2]
  refine ex_icmpeq 775 219 d_LAW_law_216 rfl rfl (fun _ => ?_) (fun h => absurd rfl h)
  exact kk S1 M1 hJ1
set_option maxRecDepth 100000 in
set_option maxHeartbeats 4000000 in
theorem law_3 {b ln i : Nat} {xs : Nat → Int32} (hln : ln ≤ 2049) (hi : i + 4 ≤ ln) (hJ : JJ N S M) (kk : ∀ S M, JJ N S M → Ex G (some (b, ln, xs)) mi_LAW_law 0 0 775 [some (.ref b), some (.ref (ad 0)), some (.ref (ad (rp N 0))), some (.int (nI i))] [] (LR G ad N S M) (xI (fun v w => v = 1))) : Ex G (some (b, ln, xs)) mi_LAW_law 0 0 221 [some (.ref b), some (.ref (ad 0)), some (.ref (ad (rp N 0))), some (.int (nI i))] [] (LR G ad N S M) (xI (fun v w => v = 1)) := by
  refine ex_aload_n (a := ad 0) 222 d_LAW_law_221 rfl rfl ?_
  refine ex_aload_n (a := b) 223 d_LAW_law_222 rfl rfl ?_
  refine ex_iload_n (a := nI i) 224 d_LAW_law_223 rfl rfl ?_
  refine ex_iconst (v := 1) 225 d_LAW_law_224 rfl (by decide) ?_
  refine ex_iaddN (i + 1) 226 d_LAW_law_225 rfl rfl (xn_lit 1) (by omega) ?_
  refine ex_sldN 227 d_LAW_law_226 rfl rfl rfl (by omega) (by omega) ?_
  refine ex_aload_n (a := b) 228 d_LAW_law_227 rfl rfl ?_
  refine ex_iload_n (a := nI i) 229 d_LAW_law_228 rfl rfl ?_
  refine ex_iconst (v := 2) 230 d_LAW_law_229 rfl (by decide) ?_
  refine ex_iaddN (i + 2) 231 d_LAW_law_230 rfl rfl (xn_lit 2) (by omega) ?_
  refine ex_sldN 232 d_LAW_law_231 rfl rfl rfl (by omega) (by omega) ?_
  obtain ⟨v, S1, M1, hc, hr, hJ1⟩ := sim_route (G := G) (ad := ad) hJ (xs (i + 1)) (xs (i + 2))
  refine xl_callVi [.int (xs (i + 1)), .int (xs (i + 2))] [] 235 d_LAW_law_232 rfl zv_SL_route ⟨(Nat.le_of_ble_eq_true rfl), (Nat.le_of_ble_eq_true rfl)⟩ m_LAW_35 (kp0 (by decide)) sh_SL rfl rfl (Nat.le_of_ble_eq_true rfl) rfl (Nat.le_of_ble_eq_true rfl) hc (fun v' w hw => ?_)
  rw [hw.1, hw.2]
  refine ex_aload_n (a := ad (rp N 0)) 236 d_LAW_law_235 rfl rfl ?_
  refine ex_aload_n (a := b) 237 d_LAW_law_236 rfl rfl ?_
  refine ex_iload_n (a := nI i) 238 d_LAW_law_237 rfl rfl ?_
  refine ex_iconst (v := 1) 239 d_LAW_law_238 rfl (by decide) ?_
  refine ex_iaddN (i + 1) 240 d_LAW_law_239 rfl rfl (xn_lit 1) (by omega) ?_
  refine ex_sldN 241 d_LAW_law_240 rfl rfl rfl (by omega) (by omega) ?_
  refine ex_aload_n (a := b) 242 d_LAW_law_241 rfl rfl ?_
  refine ex_iload_n (a := nI i) 243 d_LAW_law_242 rfl rfl ?_
  refine ex_iconst (v := 2) 244 d_LAW_law_243 rfl (by decide) ?_
  refine ex_iaddN (i + 2) 245 d_LAW_law_244 rfl rfl (xn_lit 2) (by omega) ?_
  refine ex_sldN 246 d_LAW_law_245 rfl rfl rfl (by omega) (by omega) ?_
  refine xr_callVi [.int (xs (i + 1)), .int (xs (i + 2))] [.int v] 249 d_LAW_law_246 rfl zv_MO_route ⟨(Nat.le_of_ble_eq_true rfl), (Nat.le_of_ble_eq_true rfl)⟩ m_LAW_38 (by decide) rfl rfl rfl (Nat.le_of_ble_eq_true rfl) rfl (Nat.le_of_ble_eq_true rfl) hr (fun v'' w hw => ?_)
  rw [hw.1, hw.2]
  refine ex_icmpeq 775 252 d_LAW_law_249 rfl rfl (fun _ => ?_) (fun h => absurd rfl h)
  exact kk S1 M1 hJ1
set_option maxRecDepth 100000 in
set_option maxHeartbeats 4000000 in
theorem law_4 {b ln i : Nat} {xs : Nat → Int32} (hln : ln ≤ 2049) (hi : i + 4 ≤ ln) (hJ : JJ N S M) (kk : ∀ S M, JJ N S M → Ex G (some (b, ln, xs)) mi_LAW_law 0 0 775 [some (.ref b), some (.ref (ad 0)), some (.ref (ad (rp N 0))), some (.int (nI i))] [] (LR G ad N S M) (xI (fun v w => v = 1))) : Ex G (some (b, ln, xs)) mi_LAW_law 0 0 254 [some (.ref b), some (.ref (ad 0)), some (.ref (ad (rp N 0))), some (.int (nI i))] [] (LR G ad N S M) (xI (fun v w => v = 1)) := by
  refine ex_aload_n (a := ad 0) 255 d_LAW_law_254 rfl rfl ?_
  refine ex_aload_n (a := b) 256 d_LAW_law_255 rfl rfl ?_
  refine ex_iload_n (a := nI i) 257 d_LAW_law_256 rfl rfl ?_
  refine ex_iconst (v := 1) 258 d_LAW_law_257 rfl (by decide) ?_
  refine ex_iaddN (i + 1) 259 d_LAW_law_258 rfl rfl (xn_lit 1) (by omega) ?_
  refine ex_sldN 260 d_LAW_law_259 rfl rfl rfl (by omega) (by omega) ?_
  refine ex_aload_n (a := b) 261 d_LAW_law_260 rfl rfl ?_
  refine ex_iload_n (a := nI i) 262 d_LAW_law_261 rfl rfl ?_
  refine ex_iconst (v := 2) 263 d_LAW_law_262 rfl (by decide) ?_
  refine ex_iaddN (i + 2) 264 d_LAW_law_263 rfl rfl (xn_lit 2) (by omega) ?_
  refine ex_sldN 265 d_LAW_law_264 rfl rfl rfl (by omega) (by omega) ?_
  refine ex_aload_n (a := b) 266 d_LAW_law_265 rfl rfl ?_
  refine ex_iload_n (a := nI i) 267 d_LAW_law_266 rfl rfl ?_
  refine ex_iconst (v := 3) 268 d_LAW_law_267 rfl (by decide) ?_
  refine ex_iaddN (i + 3) 269 d_LAW_law_268 rfl rfl (xn_lit 3) (by omega) ?_
  refine ex_sldN 270 d_LAW_law_269 rfl rfl rfl (by omega) (by omega) ?_
  obtain ⟨v, S1, M1, hc, hr, hJ1⟩ := sim_vote (G := G) (ad := ad) hJ (xs (i + 1)) (xs (i + 2)) (xs (i + 3))
  refine xl_callVi [.int (xs (i + 1)), .int (xs (i + 2)), .int (xs (i + 3))] [] 273 d_LAW_law_270 rfl zv_SL_vote ⟨(Nat.le_of_ble_eq_true rfl), (Nat.le_of_ble_eq_true rfl)⟩ m_LAW_39 (kp0 (by decide)) sh_SL rfl rfl (Nat.le_of_ble_eq_true rfl) rfl (Nat.le_of_ble_eq_true rfl) hc (fun v' w hw => ?_)
  rw [hw.1, hw.2]
  refine ex_aload_n (a := ad (rp N 0)) 274 d_LAW_law_273 rfl rfl ?_
  refine ex_aload_n (a := b) 275 d_LAW_law_274 rfl rfl ?_
  refine ex_iload_n (a := nI i) 276 d_LAW_law_275 rfl rfl ?_
  refine ex_iconst (v := 1) 277 d_LAW_law_276 rfl (by decide) ?_
  refine ex_iaddN (i + 1) 278 d_LAW_law_277 rfl rfl (xn_lit 1) (by omega) ?_
  refine ex_sldN 279 d_LAW_law_278 rfl rfl rfl (by omega) (by omega) ?_
  refine ex_aload_n (a := b) 280 d_LAW_law_279 rfl rfl ?_
  refine ex_iload_n (a := nI i) 281 d_LAW_law_280 rfl rfl ?_
  refine ex_iconst (v := 2) 282 d_LAW_law_281 rfl (by decide) ?_
  refine ex_iaddN (i + 2) 283 d_LAW_law_282 rfl rfl (xn_lit 2) (by omega) ?_
  refine ex_sldN 284 d_LAW_law_283 rfl rfl rfl (by omega) (by omega) ?_
  refine ex_aload_n (a := b) 285 d_LAW_law_284 rfl rfl ?_
  refine ex_iload_n (a := nI i) 286 d_LAW_law_285 rfl rfl ?_
  refine ex_iconst (v := 3) 287 d_LAW_law_286 rfl (by decide) ?_
  refine ex_iaddN (i + 3) 288 d_LAW_law_287 rfl rfl (xn_lit 3) (by omega) ?_
  refine ex_sldN 289 d_LAW_law_288 rfl rfl rfl (by omega) (by omega) ?_
  refine xr_callVi [.int (xs (i + 1)), .int (xs (i + 2)), .int (xs (i + 3))] [.int v] 292 d_LAW_law_289 rfl zv_MO_vote ⟨(Nat.le_of_ble_eq_true rfl), (Nat.le_of_ble_eq_true rfl)⟩ m_LAW_43 (by decide) rfl rfl rfl (Nat.le_of_ble_eq_true rfl) rfl (Nat.le_of_ble_eq_true rfl) hr (fun v'' w hw => ?_)
  rw [hw.1, hw.2]
  refine ex_icmpeq 775 295 d_LAW_law_292 rfl rfl (fun _ => ?_) (fun h => absurd rfl h)
  exact kk S1 M1 hJ1
set_option maxRecDepth 100000 in
set_option maxHeartbeats 4000000 in
theorem law_5 {b ln i : Nat} {xs : Nat → Int32} (hln : ln ≤ 2049) (hi : i + 4 ≤ ln) (hJ : JJ N S M) (kk : ∀ S M, JJ N S M → Ex G (some (b, ln, xs)) mi_LAW_law 0 0 775 [some (.ref b), some (.ref (ad 0)), some (.ref (ad (rp N 0))), some (.int (nI i))] [] (LR G ad N S M) (xI (fun v w => v = 1))) : Ex G (some (b, ln, xs)) mi_LAW_law 0 0 297 [some (.ref b), some (.ref (ad 0)), some (.ref (ad (rp N 0))), some (.int (nI i))] [] (LR G ad N S M) (xI (fun v w => v = 1)) := by
  refine ex_aload_n (a := ad 0) 298 d_LAW_law_297 rfl rfl ?_
  refine ex_aload_n (a := b) 299 d_LAW_law_298 rfl rfl ?_
  refine ex_iload_n (a := nI i) 300 d_LAW_law_299 rfl rfl ?_
  refine ex_iconst (v := 1) 301 d_LAW_law_300 rfl (by decide) ?_
  refine ex_iaddN (i + 1) 302 d_LAW_law_301 rfl rfl (xn_lit 1) (by omega) ?_
  refine ex_sldN 303 d_LAW_law_302 rfl rfl rfl (by omega) (by omega) ?_
  refine ex_aload_n (a := b) 304 d_LAW_law_303 rfl rfl ?_
  refine ex_iload_n (a := nI i) 305 d_LAW_law_304 rfl rfl ?_
  refine ex_iconst (v := 2) 306 d_LAW_law_305 rfl (by decide) ?_
  refine ex_iaddN (i + 2) 307 d_LAW_law_306 rfl rfl (xn_lit 2) (by omega) ?_
  refine ex_sldN 308 d_LAW_law_307 rfl rfl rfl (by omega) (by omega) ?_
  obtain ⟨v, S1, M1, hc, hr, hJ1⟩ := sim_tell (G := G) (ad := ad) hJ (xs (i + 1)) (xs (i + 2))
  refine xl_callVi [.int (xs (i + 1)), .int (xs (i + 2))] [] 311 d_LAW_law_308 rfl zv_SL_tell ⟨(Nat.le_of_ble_eq_true rfl), (Nat.le_of_ble_eq_true rfl)⟩ m_LAW_44 (kp0 (by decide)) sh_SL rfl rfl (Nat.le_of_ble_eq_true rfl) rfl (Nat.le_of_ble_eq_true rfl) hc (fun v' w hw => ?_)
  rw [hw.1, hw.2]
  refine ex_aload_n (a := ad (rp N 0)) 312 d_LAW_law_311 rfl rfl ?_
  refine ex_aload_n (a := b) 313 d_LAW_law_312 rfl rfl ?_
  refine ex_iload_n (a := nI i) 314 d_LAW_law_313 rfl rfl ?_
  refine ex_iconst (v := 1) 315 d_LAW_law_314 rfl (by decide) ?_
  refine ex_iaddN (i + 1) 316 d_LAW_law_315 rfl rfl (xn_lit 1) (by omega) ?_
  refine ex_sldN 317 d_LAW_law_316 rfl rfl rfl (by omega) (by omega) ?_
  refine ex_aload_n (a := b) 318 d_LAW_law_317 rfl rfl ?_
  refine ex_iload_n (a := nI i) 319 d_LAW_law_318 rfl rfl ?_
  refine ex_iconst (v := 2) 320 d_LAW_law_319 rfl (by decide) ?_
  refine ex_iaddN (i + 2) 321 d_LAW_law_320 rfl rfl (xn_lit 2) (by omega) ?_
  refine ex_sldN 322 d_LAW_law_321 rfl rfl rfl (by omega) (by omega) ?_
  refine xr_callVi [.int (xs (i + 1)), .int (xs (i + 2))] [.int v] 325 d_LAW_law_322 rfl zv_MO_tell ⟨(Nat.le_of_ble_eq_true rfl), (Nat.le_of_ble_eq_true rfl)⟩ m_LAW_47 (by decide) rfl rfl rfl (Nat.le_of_ble_eq_true rfl) rfl (Nat.le_of_ble_eq_true rfl) hr (fun v'' w hw => ?_)
  rw [hw.1, hw.2]
  refine ex_icmpeq 775 328 d_LAW_law_325 rfl rfl (fun _ => ?_) (fun h => absurd rfl h)
  exact kk S1 M1 hJ1
set_option maxRecDepth 100000 in
set_option maxHeartbeats 4000000 in
theorem law_6 {b ln i : Nat} {xs : Nat → Int32} (hln : ln ≤ 2049) (hi : i + 4 ≤ ln) (hJ : JJ N S M) (kk : ∀ S M, JJ N S M → Ex G (some (b, ln, xs)) mi_LAW_law 0 0 775 [some (.ref b), some (.ref (ad 0)), some (.ref (ad (rp N 0))), some (.int (nI i))] [] (LR G ad N S M) (xI (fun v w => v = 1))) : Ex G (some (b, ln, xs)) mi_LAW_law 0 0 330 [some (.ref b), some (.ref (ad 0)), some (.ref (ad (rp N 0))), some (.int (nI i))] [] (LR G ad N S M) (xI (fun v w => v = 1)) := by
  refine ex_aload_n (a := ad 0) 331 d_LAW_law_330 rfl rfl ?_
  refine ex_aload_n (a := b) 332 d_LAW_law_331 rfl rfl ?_
  refine ex_iload_n (a := nI i) 333 d_LAW_law_332 rfl rfl ?_
  refine ex_iconst (v := 1) 334 d_LAW_law_333 rfl (by decide) ?_
  refine ex_iaddN (i + 1) 335 d_LAW_law_334 rfl rfl (xn_lit 1) (by omega) ?_
  refine ex_sldN 336 d_LAW_law_335 rfl rfl rfl (by omega) (by omega) ?_
  refine ex_aload_n (a := b) 337 d_LAW_law_336 rfl rfl ?_
  refine ex_iload_n (a := nI i) 338 d_LAW_law_337 rfl rfl ?_
  refine ex_iconst (v := 2) 339 d_LAW_law_338 rfl (by decide) ?_
  refine ex_iaddN (i + 2) 340 d_LAW_law_339 rfl rfl (xn_lit 2) (by omega) ?_
  refine ex_sldN 341 d_LAW_law_340 rfl rfl rfl (by omega) (by omega) ?_
  refine ex_aload_n (a := b) 342 d_LAW_law_341 rfl rfl ?_
  refine ex_iload_n (a := nI i) 343 d_LAW_law_342 rfl rfl ?_
  refine ex_iconst (v := 3) 344 d_LAW_law_343 rfl (by decide) ?_
  refine ex_iaddN (i + 3) 345 d_LAW_law_344 rfl rfl (xn_lit 3) (by omega) ?_
  refine ex_sldN 346 d_LAW_law_345 rfl rfl rfl (by omega) (by omega) ?_
  obtain ⟨v, S1, M1, hc, hr, hJ1⟩ := sim_mend (G := G) (ad := ad) hJ (xs (i + 1)) (xs (i + 2)) (xs (i + 3))
  refine xl_callVi [.int (xs (i + 1)), .int (xs (i + 2)), .int (xs (i + 3))] [] 349 d_LAW_law_346 rfl zv_SL_mend ⟨(Nat.le_of_ble_eq_true rfl), (Nat.le_of_ble_eq_true rfl)⟩ m_LAW_48 (kp0 (by decide)) sh_SL rfl rfl (Nat.le_of_ble_eq_true rfl) rfl (Nat.le_of_ble_eq_true rfl) hc (fun v' w hw => ?_)
  rw [hw.1, hw.2]
  refine ex_aload_n (a := ad (rp N 0)) 350 d_LAW_law_349 rfl rfl ?_
  refine ex_aload_n (a := b) 351 d_LAW_law_350 rfl rfl ?_
  refine ex_iload_n (a := nI i) 352 d_LAW_law_351 rfl rfl ?_
  refine ex_iconst (v := 1) 353 d_LAW_law_352 rfl (by decide) ?_
  refine ex_iaddN (i + 1) 354 d_LAW_law_353 rfl rfl (xn_lit 1) (by omega) ?_
  refine ex_sldN 355 d_LAW_law_354 rfl rfl rfl (by omega) (by omega) ?_
  refine ex_aload_n (a := b) 356 d_LAW_law_355 rfl rfl ?_
  refine ex_iload_n (a := nI i) 357 d_LAW_law_356 rfl rfl ?_
  refine ex_iconst (v := 2) 358 d_LAW_law_357 rfl (by decide) ?_
  refine ex_iaddN (i + 2) 359 d_LAW_law_358 rfl rfl (xn_lit 2) (by omega) ?_
  refine ex_sldN 360 d_LAW_law_359 rfl rfl rfl (by omega) (by omega) ?_
  refine ex_aload_n (a := b) 361 d_LAW_law_360 rfl rfl ?_
  refine ex_iload_n (a := nI i) 362 d_LAW_law_361 rfl rfl ?_
  refine ex_iconst (v := 3) 363 d_LAW_law_362 rfl (by decide) ?_
  refine ex_iaddN (i + 3) 364 d_LAW_law_363 rfl rfl (xn_lit 3) (by omega) ?_
  refine ex_sldN 365 d_LAW_law_364 rfl rfl rfl (by omega) (by omega) ?_
  refine xr_callVi [.int (xs (i + 1)), .int (xs (i + 2)), .int (xs (i + 3))] [.int v] 368 d_LAW_law_365 rfl zv_MO_mend ⟨(Nat.le_of_ble_eq_true rfl), (Nat.le_of_ble_eq_true rfl)⟩ m_LAW_51 (by decide) rfl rfl rfl (Nat.le_of_ble_eq_true rfl) rfl (Nat.le_of_ble_eq_true rfl) hr (fun v'' w hw => ?_)
  rw [hw.1, hw.2]
  refine ex_icmpeq 775 371 d_LAW_law_368 rfl rfl (fun _ => ?_) (fun h => absurd rfl h)
  exact kk S1 M1 hJ1
set_option maxRecDepth 100000 in
set_option maxHeartbeats 4000000 in
theorem law_7 {b ln i : Nat} {xs : Nat → Int32} (hln : ln ≤ 2049) (hi : i + 4 ≤ ln) (hJ : JJ N S M) (kk : ∀ S M, JJ N S M → Ex G (some (b, ln, xs)) mi_LAW_law 0 0 775 [some (.ref b), some (.ref (ad 0)), some (.ref (ad (rp N 0))), some (.int (nI i))] [] (LR G ad N S M) (xI (fun v w => v = 1))) : Ex G (some (b, ln, xs)) mi_LAW_law 0 0 373 [some (.ref b), some (.ref (ad 0)), some (.ref (ad (rp N 0))), some (.int (nI i))] [] (LR G ad N S M) (xI (fun v w => v = 1)) := by
  refine ex_aload_n (a := ad 0) 374 d_LAW_law_373 rfl rfl ?_
  refine ex_aload_n (a := b) 375 d_LAW_law_374 rfl rfl ?_
  refine ex_iload_n (a := nI i) 376 d_LAW_law_375 rfl rfl ?_
  refine ex_iconst (v := 1) 377 d_LAW_law_376 rfl (by decide) ?_
  refine ex_iaddN (i + 1) 378 d_LAW_law_377 rfl rfl (xn_lit 1) (by omega) ?_
  refine ex_sldN 379 d_LAW_law_378 rfl rfl rfl (by omega) (by omega) ?_
  obtain ⟨v, S1, M1, hc, hr, hJ1⟩ := sim_crash (G := G) (ad := ad) hJ (xs (i + 1))
  refine xl_callVi [.int (xs (i + 1))] [] 382 d_LAW_law_379 rfl zv_SL_crash ⟨(Nat.le_of_ble_eq_true rfl), (Nat.le_of_ble_eq_true rfl)⟩ m_LAW_52 (kp0 (by decide)) sh_SL rfl rfl (Nat.le_of_ble_eq_true rfl) rfl (Nat.le_of_ble_eq_true rfl) hc (fun v' w hw => ?_)
  rw [hw.1, hw.2]
  refine ex_aload_n (a := ad (rp N 0)) 383 d_LAW_law_382 rfl rfl ?_
  refine ex_aload_n (a := b) 384 d_LAW_law_383 rfl rfl ?_
  refine ex_iload_n (a := nI i) 385 d_LAW_law_384 rfl rfl ?_
  refine ex_iconst (v := 1) 386 d_LAW_law_385 rfl (by decide) ?_
  refine ex_iaddN (i + 1) 387 d_LAW_law_386 rfl rfl (xn_lit 1) (by omega) ?_
  refine ex_sldN 388 d_LAW_law_387 rfl rfl rfl (by omega) (by omega) ?_
  refine xr_callVi [.int (xs (i + 1))] [.int v] 391 d_LAW_law_388 rfl zv_MO_crash ⟨(Nat.le_of_ble_eq_true rfl), (Nat.le_of_ble_eq_true rfl)⟩ m_LAW_56 (by decide) rfl rfl rfl (Nat.le_of_ble_eq_true rfl) rfl (Nat.le_of_ble_eq_true rfl) hr (fun v'' w hw => ?_)
  rw [hw.1, hw.2]
  refine ex_icmpeq 775 394 d_LAW_law_391 rfl rfl (fun _ => ?_) (fun h => absurd rfl h)
  exact kk S1 M1 hJ1
set_option maxRecDepth 100000 in
set_option maxHeartbeats 4000000 in
theorem law_8 {b ln i : Nat} {xs : Nat → Int32} (hln : ln ≤ 2049) (hi : i + 4 ≤ ln) (hJ : JJ N S M) (kk : ∀ S M, JJ N S M → Ex G (some (b, ln, xs)) mi_LAW_law 0 0 775 [some (.ref b), some (.ref (ad 0)), some (.ref (ad (rp N 0))), some (.int (nI i))] [] (LR G ad N S M) (xI (fun v w => v = 1))) : Ex G (some (b, ln, xs)) mi_LAW_law 0 0 396 [some (.ref b), some (.ref (ad 0)), some (.ref (ad (rp N 0))), some (.int (nI i))] [] (LR G ad N S M) (xI (fun v w => v = 1)) := by
  refine ex_aload_n (a := ad 0) 397 d_LAW_law_396 rfl rfl ?_
  refine ex_aload_n (a := b) 398 d_LAW_law_397 rfl rfl ?_
  refine ex_iload_n (a := nI i) 399 d_LAW_law_398 rfl rfl ?_
  refine ex_iconst (v := 1) 400 d_LAW_law_399 rfl (by decide) ?_
  refine ex_iaddN (i + 1) 401 d_LAW_law_400 rfl rfl (xn_lit 1) (by omega) ?_
  refine ex_sldN 402 d_LAW_law_401 rfl rfl rfl (by omega) (by omega) ?_
  obtain ⟨v, S1, M1, hc, hr, hJ1⟩ := sim_restart (G := G) (ad := ad) hJ (xs (i + 1))
  refine xl_callVi [.int (xs (i + 1))] [] 405 d_LAW_law_402 rfl zv_SL_restart ⟨(Nat.le_of_ble_eq_true rfl), (Nat.le_of_ble_eq_true rfl)⟩ m_LAW_57 (kp0 (by decide)) sh_SL rfl rfl (Nat.le_of_ble_eq_true rfl) rfl (Nat.le_of_ble_eq_true rfl) hc (fun v' w hw => ?_)
  rw [hw.1, hw.2]
  refine ex_aload_n (a := ad (rp N 0)) 406 d_LAW_law_405 rfl rfl ?_
  refine ex_aload_n (a := b) 407 d_LAW_law_406 rfl rfl ?_
  refine ex_iload_n (a := nI i) 408 d_LAW_law_407 rfl rfl ?_
  refine ex_iconst (v := 1) 409 d_LAW_law_408 rfl (by decide) ?_
  refine ex_iaddN (i + 1) 410 d_LAW_law_409 rfl rfl (xn_lit 1) (by omega) ?_
  refine ex_sldN 411 d_LAW_law_410 rfl rfl rfl (by omega) (by omega) ?_
  refine xr_callVi [.int (xs (i + 1))] [.int v] 414 d_LAW_law_411 rfl zv_MO_restart ⟨(Nat.le_of_ble_eq_true rfl), (Nat.le_of_ble_eq_true rfl)⟩ m_LAW_60 (by decide) rfl rfl rfl (Nat.le_of_ble_eq_true rfl) rfl (Nat.le_of_ble_eq_true rfl) hr (fun v'' w hw => ?_)
  rw [hw.1, hw.2]
  refine ex_icmpeq 775 417 d_LAW_law_414 rfl rfl (fun _ => ?_) (fun h => absurd rfl h)
  exact kk S1 M1 hJ1
set_option maxRecDepth 100000 in
set_option maxHeartbeats 4000000 in
theorem law_9 {b ln i : Nat} {xs : Nat → Int32} (hln : ln ≤ 2049) (hi : i + 4 ≤ ln) (hJ : JJ N S M) (kk : ∀ S M, JJ N S M → Ex G (some (b, ln, xs)) mi_LAW_law 0 0 775 [some (.ref b), some (.ref (ad 0)), some (.ref (ad (rp N 0))), some (.int (nI i))] [] (LR G ad N S M) (xI (fun v w => v = 1))) : Ex G (some (b, ln, xs)) mi_LAW_law 0 0 419 [some (.ref b), some (.ref (ad 0)), some (.ref (ad (rp N 0))), some (.int (nI i))] [] (LR G ad N S M) (xI (fun v w => v = 1)) := by
  refine ex_aload_n (a := ad 0) 420 d_LAW_law_419 rfl rfl ?_
  refine ex_aload_n (a := b) 421 d_LAW_law_420 rfl rfl ?_
  refine ex_iload_n (a := nI i) 422 d_LAW_law_421 rfl rfl ?_
  refine ex_iconst (v := 1) 423 d_LAW_law_422 rfl (by decide) ?_
  refine ex_iaddN (i + 1) 424 d_LAW_law_423 rfl rfl (xn_lit 1) (by omega) ?_
  refine ex_sldN 425 d_LAW_law_424 rfl rfl rfl (by omega) (by omega) ?_
  refine ex_aload_n (a := b) 426 d_LAW_law_425 rfl rfl ?_
  refine ex_iload_n (a := nI i) 427 d_LAW_law_426 rfl rfl ?_
  refine ex_iconst (v := 2) 428 d_LAW_law_427 rfl (by decide) ?_
  refine ex_iaddN (i + 2) 429 d_LAW_law_428 rfl rfl (xn_lit 2) (by omega) ?_
  refine ex_sldN 430 d_LAW_law_429 rfl rfl rfl (by omega) (by omega) ?_
  obtain ⟨v, S1, M1, hc, hr, hJ1⟩ := sim_arm (G := G) (ad := ad) hJ (xs (i + 1)) (xs (i + 2))
  refine xl_callVi [.int (xs (i + 1)), .int (xs (i + 2))] [] 433 d_LAW_law_430 rfl zv_SL_arm ⟨(Nat.le_of_ble_eq_true rfl), (Nat.le_of_ble_eq_true rfl)⟩ m_LAW_61 (kp0 (by decide)) sh_SL rfl rfl (Nat.le_of_ble_eq_true rfl) rfl (Nat.le_of_ble_eq_true rfl) hc (fun v' w hw => ?_)
  rw [hw.1, hw.2]
  refine ex_aload_n (a := ad (rp N 0)) 434 d_LAW_law_433 rfl rfl ?_
  refine ex_aload_n (a := b) 435 d_LAW_law_434 rfl rfl ?_
  refine ex_iload_n (a := nI i) 436 d_LAW_law_435 rfl rfl ?_
  refine ex_iconst (v := 1) 437 d_LAW_law_436 rfl (by decide) ?_
  refine ex_iaddN (i + 1) 438 d_LAW_law_437 rfl rfl (xn_lit 1) (by omega) ?_
  refine ex_sldN 439 d_LAW_law_438 rfl rfl rfl (by omega) (by omega) ?_
  refine ex_aload_n (a := b) 440 d_LAW_law_439 rfl rfl ?_
  refine ex_iload_n (a := nI i) 441 d_LAW_law_440 rfl rfl ?_
  refine ex_iconst (v := 2) 442 d_LAW_law_441 rfl (by decide) ?_
  refine ex_iaddN (i + 2) 443 d_LAW_law_442 rfl rfl (xn_lit 2) (by omega) ?_
  refine ex_sldN 444 d_LAW_law_443 rfl rfl rfl (by omega) (by omega) ?_
  refine xr_callVi [.int (xs (i + 1)), .int (xs (i + 2))] [.int v] 447 d_LAW_law_444 rfl zv_MO_arm ⟨(Nat.le_of_ble_eq_true rfl), (Nat.le_of_ble_eq_true rfl)⟩ m_LAW_65 (by decide) rfl rfl rfl (Nat.le_of_ble_eq_true rfl) rfl (Nat.le_of_ble_eq_true rfl) hr (fun v'' w hw => ?_)
  rw [hw.1, hw.2]
  refine ex_icmpeq 775 450 d_LAW_law_447 rfl rfl (fun _ => ?_) (fun h => absurd rfl h)
  exact kk S1 M1 hJ1
set_option maxRecDepth 100000 in
set_option maxHeartbeats 4000000 in
theorem law_10 {b ln i : Nat} {xs : Nat → Int32} (hln : ln ≤ 2049) (hi : i + 4 ≤ ln) (hJ : JJ N S M) (kk : ∀ S M, JJ N S M → Ex G (some (b, ln, xs)) mi_LAW_law 0 0 775 [some (.ref b), some (.ref (ad 0)), some (.ref (ad (rp N 0))), some (.int (nI i))] [] (LR G ad N S M) (xI (fun v w => v = 1))) : Ex G (some (b, ln, xs)) mi_LAW_law 0 0 452 [some (.ref b), some (.ref (ad 0)), some (.ref (ad (rp N 0))), some (.int (nI i))] [] (LR G ad N S M) (xI (fun v w => v = 1)) := by
  refine ex_aload_n (a := ad 0) 453 d_LAW_law_452 rfl rfl ?_
  refine ex_aload_n (a := b) 454 d_LAW_law_453 rfl rfl ?_
  refine ex_iload_n (a := nI i) 455 d_LAW_law_454 rfl rfl ?_
  refine ex_iconst (v := 1) 456 d_LAW_law_455 rfl (by decide) ?_
  refine ex_iaddN (i + 1) 457 d_LAW_law_456 rfl rfl (xn_lit 1) (by omega) ?_
  refine ex_sldN 458 d_LAW_law_457 rfl rfl rfl (by omega) (by omega) ?_
  refine ex_aload_n (a := b) 459 d_LAW_law_458 rfl rfl ?_
  refine ex_iload_n (a := nI i) 460 d_LAW_law_459 rfl rfl ?_
  refine ex_iconst (v := 2) 461 d_LAW_law_460 rfl (by decide) ?_
  refine ex_iaddN (i + 2) 462 d_LAW_law_461 rfl rfl (xn_lit 2) (by omega) ?_
  refine ex_sldN 463 d_LAW_law_462 rfl rfl rfl (by omega) (by omega) ?_
  refine ex_aload_n (a := b) 464 d_LAW_law_463 rfl rfl ?_
  refine ex_iload_n (a := nI i) 465 d_LAW_law_464 rfl rfl ?_
  refine ex_iconst (v := 3) 466 d_LAW_law_465 rfl (by decide) ?_
  refine ex_iaddN (i + 3) 467 d_LAW_law_466 rfl rfl (xn_lit 3) (by omega) ?_
  refine ex_sldN 468 d_LAW_law_467 rfl rfl rfl (by omega) (by omega) ?_
  obtain ⟨v, S1, M1, hc, hr, hJ1⟩ := sim_flip (G := G) (ad := ad) hJ (xs (i + 1)) (xs (i + 2)) (xs (i + 3))
  refine xl_callVi [.int (xs (i + 1)), .int (xs (i + 2)), .int (xs (i + 3))] [] 471 d_LAW_law_468 rfl zv_SL_flip ⟨(Nat.le_of_ble_eq_true rfl), (Nat.le_of_ble_eq_true rfl)⟩ m_LAW_66 (kp0 (by decide)) sh_SL rfl rfl (Nat.le_of_ble_eq_true rfl) rfl (Nat.le_of_ble_eq_true rfl) hc (fun v' w hw => ?_)
  rw [hw.1, hw.2]
  refine ex_aload_n (a := ad (rp N 0)) 472 d_LAW_law_471 rfl rfl ?_
  refine ex_aload_n (a := b) 473 d_LAW_law_472 rfl rfl ?_
  refine ex_iload_n (a := nI i) 474 d_LAW_law_473 rfl rfl ?_
  refine ex_iconst (v := 1) 475 d_LAW_law_474 rfl (by decide) ?_
  refine ex_iaddN (i + 1) 476 d_LAW_law_475 rfl rfl (xn_lit 1) (by omega) ?_
  refine ex_sldN 477 d_LAW_law_476 rfl rfl rfl (by omega) (by omega) ?_
  refine ex_aload_n (a := b) 478 d_LAW_law_477 rfl rfl ?_
  refine ex_iload_n (a := nI i) 479 d_LAW_law_478 rfl rfl ?_
  refine ex_iconst (v := 2) 480 d_LAW_law_479 rfl (by decide) ?_
  refine ex_iaddN (i + 2) 481 d_LAW_law_480 rfl rfl (xn_lit 2) (by omega) ?_
  refine ex_sldN 482 d_LAW_law_481 rfl rfl rfl (by omega) (by omega) ?_
  refine ex_aload_n (a := b) 483 d_LAW_law_482 rfl rfl ?_
  refine ex_iload_n (a := nI i) 484 d_LAW_law_483 rfl rfl ?_
  refine ex_iconst (v := 3) 485 d_LAW_law_484 rfl (by decide) ?_
  refine ex_iaddN (i + 3) 486 d_LAW_law_485 rfl rfl (xn_lit 3) (by omega) ?_
  refine ex_sldN 487 d_LAW_law_486 rfl rfl rfl (by omega) (by omega) ?_
  refine xr_callVi [.int (xs (i + 1)), .int (xs (i + 2)), .int (xs (i + 3))] [.int v] 490 d_LAW_law_487 rfl zv_MO_flip ⟨(Nat.le_of_ble_eq_true rfl), (Nat.le_of_ble_eq_true rfl)⟩ m_LAW_70 (by decide) rfl rfl rfl (Nat.le_of_ble_eq_true rfl) rfl (Nat.le_of_ble_eq_true rfl) hr (fun v'' w hw => ?_)
  rw [hw.1, hw.2]
  refine ex_icmpeq 775 493 d_LAW_law_490 rfl rfl (fun _ => ?_) (fun h => absurd rfl h)
  exact kk S1 M1 hJ1
set_option maxRecDepth 100000 in
set_option maxHeartbeats 4000000 in
theorem law_11 {b ln i : Nat} {xs : Nat → Int32} (hln : ln ≤ 2049) (hi : i + 4 ≤ ln) (hJ : JJ N S M) (kk : ∀ S M, JJ N S M → Ex G (some (b, ln, xs)) mi_LAW_law 0 0 775 [some (.ref b), some (.ref (ad 0)), some (.ref (ad (rp N 0))), some (.int (nI i))] [] (LR G ad N S M) (xI (fun v w => v = 1))) : Ex G (some (b, ln, xs)) mi_LAW_law 0 0 495 [some (.ref b), some (.ref (ad 0)), some (.ref (ad (rp N 0))), some (.int (nI i))] [] (LR G ad N S M) (xI (fun v w => v = 1)) := by
  refine ex_aload_n (a := ad 0) 496 d_LAW_law_495 rfl rfl ?_
  refine ex_aload_n (a := b) 497 d_LAW_law_496 rfl rfl ?_
  refine ex_iload_n (a := nI i) 498 d_LAW_law_497 rfl rfl ?_
  refine ex_iconst (v := 1) 499 d_LAW_law_498 rfl (by decide) ?_
  refine ex_iaddN (i + 1) 500 d_LAW_law_499 rfl rfl (xn_lit 1) (by omega) ?_
  refine ex_sldN 501 d_LAW_law_500 rfl rfl rfl (by omega) (by omega) ?_
  refine ex_aload_n (a := b) 502 d_LAW_law_501 rfl rfl ?_
  refine ex_iload_n (a := nI i) 503 d_LAW_law_502 rfl rfl ?_
  refine ex_iconst (v := 2) 504 d_LAW_law_503 rfl (by decide) ?_
  refine ex_iaddN (i + 2) 505 d_LAW_law_504 rfl rfl (xn_lit 2) (by omega) ?_
  refine ex_sldN 506 d_LAW_law_505 rfl rfl rfl (by omega) (by omega) ?_
  obtain ⟨v, S1, M1, hc, hr, hJ1⟩ := sim_wipe (G := G) (ad := ad) hJ (xs (i + 1)) (xs (i + 2))
  refine xl_callVi [.int (xs (i + 1)), .int (xs (i + 2))] [] 509 d_LAW_law_506 rfl zv_SL_wipe ⟨(Nat.le_of_ble_eq_true rfl), (Nat.le_of_ble_eq_true rfl)⟩ m_LAW_71 (kp0 (by decide)) sh_SL rfl rfl (Nat.le_of_ble_eq_true rfl) rfl (Nat.le_of_ble_eq_true rfl) hc (fun v' w hw => ?_)
  rw [hw.1, hw.2]
  refine ex_aload_n (a := ad (rp N 0)) 510 d_LAW_law_509 rfl rfl ?_
  refine ex_aload_n (a := b) 511 d_LAW_law_510 rfl rfl ?_
  refine ex_iload_n (a := nI i) 512 d_LAW_law_511 rfl rfl ?_
  refine ex_iconst (v := 1) 513 d_LAW_law_512 rfl (by decide) ?_
  refine ex_iaddN (i + 1) 514 d_LAW_law_513 rfl rfl (xn_lit 1) (by omega) ?_
  refine ex_sldN 515 d_LAW_law_514 rfl rfl rfl (by omega) (by omega) ?_
  refine ex_aload_n (a := b) 516 d_LAW_law_515 rfl rfl ?_
  refine ex_iload_n (a := nI i) 517 d_LAW_law_516 rfl rfl ?_
  refine ex_iconst (v := 2) 518 d_LAW_law_517 rfl (by decide) ?_
  refine ex_iaddN (i + 2) 519 d_LAW_law_518 rfl rfl (xn_lit 2) (by omega) ?_
  refine ex_sldN 520 d_LAW_law_519 rfl rfl rfl (by omega) (by omega) ?_
  refine xr_callVi [.int (xs (i + 1)), .int (xs (i + 2))] [.int v] 523 d_LAW_law_520 rfl zv_MO_wipe ⟨(Nat.le_of_ble_eq_true rfl), (Nat.le_of_ble_eq_true rfl)⟩ m_LAW_74 (by decide) rfl rfl rfl (Nat.le_of_ble_eq_true rfl) rfl (Nat.le_of_ble_eq_true rfl) hr (fun v'' w hw => ?_)
  rw [hw.1, hw.2]
  refine ex_icmpeq 775 526 d_LAW_law_523 rfl rfl (fun _ => ?_) (fun h => absurd rfl h)
  exact kk S1 M1 hJ1
set_option maxRecDepth 100000 in
set_option maxHeartbeats 4000000 in
theorem law_12 {b ln i : Nat} {xs : Nat → Int32} (hln : ln ≤ 2049) (hi : i + 4 ≤ ln) (hJ : JJ N S M) (kk : ∀ S M, JJ N S M → Ex G (some (b, ln, xs)) mi_LAW_law 0 0 775 [some (.ref b), some (.ref (ad 0)), some (.ref (ad (rp N 0))), some (.int (nI i))] [] (LR G ad N S M) (xI (fun v w => v = 1))) : Ex G (some (b, ln, xs)) mi_LAW_law 0 0 528 [some (.ref b), some (.ref (ad 0)), some (.ref (ad (rp N 0))), some (.int (nI i))] [] (LR G ad N S M) (xI (fun v w => v = 1)) := by
  refine ex_aload_n (a := ad 0) 529 d_LAW_law_528 rfl rfl ?_
  refine ex_aload_n (a := b) 530 d_LAW_law_529 rfl rfl ?_
  refine ex_iload_n (a := nI i) 531 d_LAW_law_530 rfl rfl ?_
  refine ex_iconst (v := 1) 532 d_LAW_law_531 rfl (by decide) ?_
  refine ex_iaddN (i + 1) 533 d_LAW_law_532 rfl rfl (xn_lit 1) (by omega) ?_
  refine ex_sldN 534 d_LAW_law_533 rfl rfl rfl (by omega) (by omega) ?_
  refine ex_aload_n (a := b) 535 d_LAW_law_534 rfl rfl ?_
  refine ex_iload_n (a := nI i) 536 d_LAW_law_535 rfl rfl ?_
  refine ex_iconst (v := 2) 537 d_LAW_law_536 rfl (by decide) ?_
  refine ex_iaddN (i + 2) 538 d_LAW_law_537 rfl rfl (xn_lit 2) (by omega) ?_
  refine ex_sldN 539 d_LAW_law_538 rfl rfl rfl (by omega) (by omega) ?_
  obtain ⟨v, S1, M1, hc, hr, hJ1⟩ := sim_look (G := G) (ad := ad) hJ (xs (i + 1)) (xs (i + 2))
  refine xl_callVi [.int (xs (i + 1)), .int (xs (i + 2))] [] 542 d_LAW_law_539 rfl zv_SL_look ⟨(Nat.le_of_ble_eq_true rfl), (Nat.le_of_ble_eq_true rfl)⟩ m_LAW_75 (kp0 (by decide)) sh_SL rfl rfl (Nat.le_of_ble_eq_true rfl) rfl (Nat.le_of_ble_eq_true rfl) hc (fun v' w hw => ?_)
  rw [hw.1, hw.2]
  refine ex_aload_n (a := ad (rp N 0)) 543 d_LAW_law_542 rfl rfl ?_
  refine ex_aload_n (a := b) 544 d_LAW_law_543 rfl rfl ?_
  refine ex_iload_n (a := nI i) 545 d_LAW_law_544 rfl rfl ?_
  refine ex_iconst (v := 1) 546 d_LAW_law_545 rfl (by decide) ?_
  refine ex_iaddN (i + 1) 547 d_LAW_law_546 rfl rfl (xn_lit 1) (by omega) ?_
  refine ex_sldN 548 d_LAW_law_547 rfl rfl rfl (by omega) (by omega) ?_
  refine ex_aload_n (a := b) 549 d_LAW_law_548 rfl rfl ?_
  refine ex_iload_n (a := nI i) 550 d_LAW_law_549 rfl rfl ?_
  refine ex_iconst (v := 2) 551 d_LAW_law_550 rfl (by decide) ?_
  refine ex_iaddN (i + 2) 552 d_LAW_law_551 rfl rfl (xn_lit 2) (by omega) ?_
  refine ex_sldN 553 d_LAW_law_552 rfl rfl rfl (by omega) (by omega) ?_
  refine xr_callVi [.int (xs (i + 1)), .int (xs (i + 2))] [.int v] 556 d_LAW_law_553 rfl zv_MO_look ⟨(Nat.le_of_ble_eq_true rfl), (Nat.le_of_ble_eq_true rfl)⟩ m_LAW_78 (by decide) rfl rfl rfl (Nat.le_of_ble_eq_true rfl) rfl (Nat.le_of_ble_eq_true rfl) hr (fun v'' w hw => ?_)
  rw [hw.1, hw.2]
  refine ex_icmpeq 775 559 d_LAW_law_556 rfl rfl (fun _ => ?_) (fun h => absurd rfl h)
  exact kk S1 M1 hJ1
set_option maxRecDepth 100000 in
set_option maxHeartbeats 4000000 in
theorem law_13 {b ln i : Nat} {xs : Nat → Int32} (hln : ln ≤ 2049) (hi : i + 4 ≤ ln) (hJ : JJ N S M) (kk : ∀ S M, JJ N S M → Ex G (some (b, ln, xs)) mi_LAW_law 0 0 775 [some (.ref b), some (.ref (ad 0)), some (.ref (ad (rp N 0))), some (.int (nI i))] [] (LR G ad N S M) (xI (fun v w => v = 1))) : Ex G (some (b, ln, xs)) mi_LAW_law 0 0 561 [some (.ref b), some (.ref (ad 0)), some (.ref (ad (rp N 0))), some (.int (nI i))] [] (LR G ad N S M) (xI (fun v w => v = 1)) := by
  refine ex_aload_n (a := ad 0) 562 d_LAW_law_561 rfl rfl ?_
  refine ex_aload_n (a := b) 563 d_LAW_law_562 rfl rfl ?_
  refine ex_iload_n (a := nI i) 564 d_LAW_law_563 rfl rfl ?_
  refine ex_iconst (v := 1) 565 d_LAW_law_564 rfl (by decide) ?_
  refine ex_iaddN (i + 1) 566 d_LAW_law_565 rfl rfl (xn_lit 1) (by omega) ?_
  refine ex_sldN 567 d_LAW_law_566 rfl rfl rfl (by omega) (by omega) ?_
  refine ex_aload_n (a := b) 568 d_LAW_law_567 rfl rfl ?_
  refine ex_iload_n (a := nI i) 569 d_LAW_law_568 rfl rfl ?_
  refine ex_iconst (v := 2) 570 d_LAW_law_569 rfl (by decide) ?_
  refine ex_iaddN (i + 2) 571 d_LAW_law_570 rfl rfl (xn_lit 2) (by omega) ?_
  refine ex_sldN 572 d_LAW_law_571 rfl rfl rfl (by omega) (by omega) ?_
  obtain ⟨v, S1, M1, hc, hr, hJ1⟩ := sim_slot (G := G) (ad := ad) hJ (xs (i + 1)) (xs (i + 2))
  refine xl_callVi [.int (xs (i + 1)), .int (xs (i + 2))] [] 575 d_LAW_law_572 rfl zv_SL_slot ⟨(Nat.le_of_ble_eq_true rfl), (Nat.le_of_ble_eq_true rfl)⟩ m_LAW_79 (kp0 (by decide)) sh_SL rfl rfl (Nat.le_of_ble_eq_true rfl) rfl (Nat.le_of_ble_eq_true rfl) hc (fun v' w hw => ?_)
  rw [hw.1, hw.2]
  refine ex_aload_n (a := ad (rp N 0)) 576 d_LAW_law_575 rfl rfl ?_
  refine ex_aload_n (a := b) 577 d_LAW_law_576 rfl rfl ?_
  refine ex_iload_n (a := nI i) 578 d_LAW_law_577 rfl rfl ?_
  refine ex_iconst (v := 1) 579 d_LAW_law_578 rfl (by decide) ?_
  refine ex_iaddN (i + 1) 580 d_LAW_law_579 rfl rfl (xn_lit 1) (by omega) ?_
  refine ex_sldN 581 d_LAW_law_580 rfl rfl rfl (by omega) (by omega) ?_
  refine ex_aload_n (a := b) 582 d_LAW_law_581 rfl rfl ?_
  refine ex_iload_n (a := nI i) 583 d_LAW_law_582 rfl rfl ?_
  refine ex_iconst (v := 2) 584 d_LAW_law_583 rfl (by decide) ?_
  refine ex_iaddN (i + 2) 585 d_LAW_law_584 rfl rfl (xn_lit 2) (by omega) ?_
  refine ex_sldN 586 d_LAW_law_585 rfl rfl rfl (by omega) (by omega) ?_
  refine xr_callVi [.int (xs (i + 1)), .int (xs (i + 2))] [.int v] 589 d_LAW_law_586 rfl zv_MO_slot ⟨(Nat.le_of_ble_eq_true rfl), (Nat.le_of_ble_eq_true rfl)⟩ m_LAW_82 (by decide) rfl rfl rfl (Nat.le_of_ble_eq_true rfl) rfl (Nat.le_of_ble_eq_true rfl) hr (fun v'' w hw => ?_)
  rw [hw.1, hw.2]
  refine ex_icmpeq 775 592 d_LAW_law_589 rfl rfl (fun _ => ?_) (fun h => absurd rfl h)
  exact kk S1 M1 hJ1
set_option maxRecDepth 100000 in
set_option maxHeartbeats 4000000 in
theorem law_14 {b ln i : Nat} {xs : Nat → Int32} (hln : ln ≤ 2049) (hi : i + 4 ≤ ln) (hJ : JJ N S M) (kk : ∀ S M, JJ N S M → Ex G (some (b, ln, xs)) mi_LAW_law 0 0 775 [some (.ref b), some (.ref (ad 0)), some (.ref (ad (rp N 0))), some (.int (nI i))] [] (LR G ad N S M) (xI (fun v w => v = 1))) : Ex G (some (b, ln, xs)) mi_LAW_law 0 0 594 [some (.ref b), some (.ref (ad 0)), some (.ref (ad (rp N 0))), some (.int (nI i))] [] (LR G ad N S M) (xI (fun v w => v = 1)) := by
  refine ex_aload_n (a := ad 0) 595 d_LAW_law_594 rfl rfl ?_
  refine ex_aload_n (a := b) 596 d_LAW_law_595 rfl rfl ?_
  refine ex_iload_n (a := nI i) 597 d_LAW_law_596 rfl rfl ?_
  refine ex_iconst (v := 1) 598 d_LAW_law_597 rfl (by decide) ?_
  refine ex_iaddN (i + 1) 599 d_LAW_law_598 rfl rfl (xn_lit 1) (by omega) ?_
  refine ex_sldN 600 d_LAW_law_599 rfl rfl rfl (by omega) (by omega) ?_
  refine ex_aload_n (a := b) 601 d_LAW_law_600 rfl rfl ?_
  refine ex_iload_n (a := nI i) 602 d_LAW_law_601 rfl rfl ?_
  refine ex_iconst (v := 2) 603 d_LAW_law_602 rfl (by decide) ?_
  refine ex_iaddN (i + 2) 604 d_LAW_law_603 rfl rfl (xn_lit 2) (by omega) ?_
  refine ex_sldN 605 d_LAW_law_604 rfl rfl rfl (by omega) (by omega) ?_
  obtain ⟨v, S1, M1, hc, hr, hJ1⟩ := sim_plan (G := G) (ad := ad) hJ (xs (i + 1)) (xs (i + 2))
  refine xl_callVi [.int (xs (i + 1)), .int (xs (i + 2))] [] 608 d_LAW_law_605 rfl zv_SL_plan ⟨(Nat.le_of_ble_eq_true rfl), (Nat.le_of_ble_eq_true rfl)⟩ m_LAW_83 (kp0 (by decide)) sh_SL rfl rfl (Nat.le_of_ble_eq_true rfl) rfl (Nat.le_of_ble_eq_true rfl) hc (fun v' w hw => ?_)
  rw [hw.1, hw.2]
  refine ex_aload_n (a := ad (rp N 0)) 609 d_LAW_law_608 rfl rfl ?_
  refine ex_aload_n (a := b) 610 d_LAW_law_609 rfl rfl ?_
  refine ex_iload_n (a := nI i) 611 d_LAW_law_610 rfl rfl ?_
  refine ex_iconst (v := 1) 612 d_LAW_law_611 rfl (by decide) ?_
  refine ex_iaddN (i + 1) 613 d_LAW_law_612 rfl rfl (xn_lit 1) (by omega) ?_
  refine ex_sldN 614 d_LAW_law_613 rfl rfl rfl (by omega) (by omega) ?_
  refine ex_aload_n (a := b) 615 d_LAW_law_614 rfl rfl ?_
  refine ex_iload_n (a := nI i) 616 d_LAW_law_615 rfl rfl ?_
  refine ex_iconst (v := 2) 617 d_LAW_law_616 rfl (by decide) ?_
  refine ex_iaddN (i + 2) 618 d_LAW_law_617 rfl rfl (xn_lit 2) (by omega) ?_
  refine ex_sldN 619 d_LAW_law_618 rfl rfl rfl (by omega) (by omega) ?_
  refine xr_callVi [.int (xs (i + 1)), .int (xs (i + 2))] [.int v] 622 d_LAW_law_619 rfl zv_MO_plan ⟨(Nat.le_of_ble_eq_true rfl), (Nat.le_of_ble_eq_true rfl)⟩ m_LAW_86 (by decide) rfl rfl rfl (Nat.le_of_ble_eq_true rfl) rfl (Nat.le_of_ble_eq_true rfl) hr (fun v'' w hw => ?_)
  rw [hw.1, hw.2]
  refine ex_icmpeq 775 625 d_LAW_law_622 rfl rfl (fun _ => ?_) (fun h => absurd rfl h)
  exact kk S1 M1 hJ1
set_option maxRecDepth 100000 in
set_option maxHeartbeats 4000000 in
theorem law_15 {b ln i : Nat} {xs : Nat → Int32} (hln : ln ≤ 2049) (hi : i + 4 ≤ ln) (hJ : JJ N S M) (kk : ∀ S M, JJ N S M → Ex G (some (b, ln, xs)) mi_LAW_law 0 0 775 [some (.ref b), some (.ref (ad 0)), some (.ref (ad (rp N 0))), some (.int (nI i))] [] (LR G ad N S M) (xI (fun v w => v = 1))) : Ex G (some (b, ln, xs)) mi_LAW_law 0 0 627 [some (.ref b), some (.ref (ad 0)), some (.ref (ad (rp N 0))), some (.int (nI i))] [] (LR G ad N S M) (xI (fun v w => v = 1)) := by
  refine ex_aload_n (a := ad 0) 628 d_LAW_law_627 rfl rfl ?_
  refine ex_aload_n (a := b) 629 d_LAW_law_628 rfl rfl ?_
  refine ex_iload_n (a := nI i) 630 d_LAW_law_629 rfl rfl ?_
  refine ex_iconst (v := 1) 631 d_LAW_law_630 rfl (by decide) ?_
  refine ex_iaddN (i + 1) 632 d_LAW_law_631 rfl rfl (xn_lit 1) (by omega) ?_
  refine ex_sldN 633 d_LAW_law_632 rfl rfl rfl (by omega) (by omega) ?_
  refine ex_aload_n (a := b) 634 d_LAW_law_633 rfl rfl ?_
  refine ex_iload_n (a := nI i) 635 d_LAW_law_634 rfl rfl ?_
  refine ex_iconst (v := 2) 636 d_LAW_law_635 rfl (by decide) ?_
  refine ex_iaddN (i + 2) 637 d_LAW_law_636 rfl rfl (xn_lit 2) (by omega) ?_
  refine ex_sldN 638 d_LAW_law_637 rfl rfl rfl (by omega) (by omega) ?_
  obtain ⟨v, S1, M1, hc, hr, hJ1⟩ := sim_chosen (G := G) (ad := ad) hJ (xs (i + 1)) (xs (i + 2))
  refine xl_callVi [.int (xs (i + 1)), .int (xs (i + 2))] [] 641 d_LAW_law_638 rfl zv_SL_chosen ⟨(Nat.le_of_ble_eq_true rfl), (Nat.le_of_ble_eq_true rfl)⟩ m_LAW_87 (kp0 (by decide)) sh_SL rfl rfl (Nat.le_of_ble_eq_true rfl) rfl (Nat.le_of_ble_eq_true rfl) hc (fun v' w hw => ?_)
  rw [hw.1, hw.2]
  refine ex_aload_n (a := ad (rp N 0)) 642 d_LAW_law_641 rfl rfl ?_
  refine ex_aload_n (a := b) 643 d_LAW_law_642 rfl rfl ?_
  refine ex_iload_n (a := nI i) 644 d_LAW_law_643 rfl rfl ?_
  refine ex_iconst (v := 1) 645 d_LAW_law_644 rfl (by decide) ?_
  refine ex_iaddN (i + 1) 646 d_LAW_law_645 rfl rfl (xn_lit 1) (by omega) ?_
  refine ex_sldN 647 d_LAW_law_646 rfl rfl rfl (by omega) (by omega) ?_
  refine ex_aload_n (a := b) 648 d_LAW_law_647 rfl rfl ?_
  refine ex_iload_n (a := nI i) 649 d_LAW_law_648 rfl rfl ?_
  refine ex_iconst (v := 2) 650 d_LAW_law_649 rfl (by decide) ?_
  refine ex_iaddN (i + 2) 651 d_LAW_law_650 rfl rfl (xn_lit 2) (by omega) ?_
  refine ex_sldN 652 d_LAW_law_651 rfl rfl rfl (by omega) (by omega) ?_
  refine xr_callVi [.int (xs (i + 1)), .int (xs (i + 2))] [.int v] 655 d_LAW_law_652 rfl zv_MO_chosen ⟨(Nat.le_of_ble_eq_true rfl), (Nat.le_of_ble_eq_true rfl)⟩ m_LAW_90 (by decide) rfl rfl rfl (Nat.le_of_ble_eq_true rfl) rfl (Nat.le_of_ble_eq_true rfl) hr (fun v'' w hw => ?_)
  rw [hw.1, hw.2]
  refine ex_icmpeq 775 658 d_LAW_law_655 rfl rfl (fun _ => ?_) (fun h => absurd rfl h)
  exact kk S1 M1 hJ1
set_option maxRecDepth 100000 in
set_option maxHeartbeats 4000000 in
theorem law_16 {b ln i : Nat} {xs : Nat → Int32} (hln : ln ≤ 2049) (hi : i + 4 ≤ ln) (hJ : JJ N S M) (kk : ∀ S M, JJ N S M → Ex G (some (b, ln, xs)) mi_LAW_law 0 0 775 [some (.ref b), some (.ref (ad 0)), some (.ref (ad (rp N 0))), some (.int (nI i))] [] (LR G ad N S M) (xI (fun v w => v = 1))) : Ex G (some (b, ln, xs)) mi_LAW_law 0 0 660 [some (.ref b), some (.ref (ad 0)), some (.ref (ad (rp N 0))), some (.int (nI i))] [] (LR G ad N S M) (xI (fun v w => v = 1)) := by
  refine ex_aload_n (a := ad 0) 661 d_LAW_law_660 rfl rfl ?_
  refine ex_aload_n (a := b) 662 d_LAW_law_661 rfl rfl ?_
  refine ex_iload_n (a := nI i) 663 d_LAW_law_662 rfl rfl ?_
  refine ex_iconst (v := 1) 664 d_LAW_law_663 rfl (by decide) ?_
  refine ex_iaddN (i + 1) 665 d_LAW_law_664 rfl rfl (xn_lit 1) (by omega) ?_
  refine ex_sldN 666 d_LAW_law_665 rfl rfl rfl (by omega) (by omega) ?_
  refine ex_aload_n (a := b) 667 d_LAW_law_666 rfl rfl ?_
  refine ex_iload_n (a := nI i) 668 d_LAW_law_667 rfl rfl ?_
  refine ex_iconst (v := 2) 669 d_LAW_law_668 rfl (by decide) ?_
  refine ex_iaddN (i + 2) 670 d_LAW_law_669 rfl rfl (xn_lit 2) (by omega) ?_
  refine ex_sldN 671 d_LAW_law_670 rfl rfl rfl (by omega) (by omega) ?_
  obtain ⟨v, S1, M1, hc, hr, hJ1⟩ := sim_value (G := G) (ad := ad) hJ (xs (i + 1)) (xs (i + 2))
  refine xl_callVi [.int (xs (i + 1)), .int (xs (i + 2))] [] 674 d_LAW_law_671 rfl zv_SL_value ⟨(Nat.le_of_ble_eq_true rfl), (Nat.le_of_ble_eq_true rfl)⟩ m_LAW_91 (kp0 (by decide)) sh_SL rfl rfl (Nat.le_of_ble_eq_true rfl) rfl (Nat.le_of_ble_eq_true rfl) hc (fun v' w hw => ?_)
  rw [hw.1, hw.2]
  refine ex_aload_n (a := ad (rp N 0)) 675 d_LAW_law_674 rfl rfl ?_
  refine ex_aload_n (a := b) 676 d_LAW_law_675 rfl rfl ?_
  refine ex_iload_n (a := nI i) 677 d_LAW_law_676 rfl rfl ?_
  refine ex_iconst (v := 1) 678 d_LAW_law_677 rfl (by decide) ?_
  refine ex_iaddN (i + 1) 679 d_LAW_law_678 rfl rfl (xn_lit 1) (by omega) ?_
  refine ex_sldN 680 d_LAW_law_679 rfl rfl rfl (by omega) (by omega) ?_
  refine ex_aload_n (a := b) 681 d_LAW_law_680 rfl rfl ?_
  refine ex_iload_n (a := nI i) 682 d_LAW_law_681 rfl rfl ?_
  refine ex_iconst (v := 2) 683 d_LAW_law_682 rfl (by decide) ?_
  refine ex_iaddN (i + 2) 684 d_LAW_law_683 rfl rfl (xn_lit 2) (by omega) ?_
  refine ex_sldN 685 d_LAW_law_684 rfl rfl rfl (by omega) (by omega) ?_
  refine xr_callVi [.int (xs (i + 1)), .int (xs (i + 2))] [.int v] 688 d_LAW_law_685 rfl zv_MO_value ⟨(Nat.le_of_ble_eq_true rfl), (Nat.le_of_ble_eq_true rfl)⟩ m_LAW_94 (by decide) rfl rfl rfl (Nat.le_of_ble_eq_true rfl) rfl (Nat.le_of_ble_eq_true rfl) hr (fun v'' w hw => ?_)
  rw [hw.1, hw.2]
  refine ex_icmpeq 775 691 d_LAW_law_688 rfl rfl (fun _ => ?_) (fun h => absurd rfl h)
  exact kk S1 M1 hJ1
set_option maxRecDepth 100000 in
set_option maxHeartbeats 4000000 in
theorem law_17 {b ln i : Nat} {xs : Nat → Int32} (hln : ln ≤ 2049) (hi : i + 4 ≤ ln) (hJ : JJ N S M) (kk : ∀ S M, JJ N S M → Ex G (some (b, ln, xs)) mi_LAW_law 0 0 775 [some (.ref b), some (.ref (ad 0)), some (.ref (ad (rp N 0))), some (.int (nI i))] [] (LR G ad N S M) (xI (fun v w => v = 1))) : Ex G (some (b, ln, xs)) mi_LAW_law 0 0 693 [some (.ref b), some (.ref (ad 0)), some (.ref (ad (rp N 0))), some (.int (nI i))] [] (LR G ad N S M) (xI (fun v w => v = 1)) := by
  refine ex_aload_n (a := ad 0) 694 d_LAW_law_693 rfl rfl ?_
  refine ex_aload_n (a := b) 695 d_LAW_law_694 rfl rfl ?_
  refine ex_iload_n (a := nI i) 696 d_LAW_law_695 rfl rfl ?_
  refine ex_iconst (v := 1) 697 d_LAW_law_696 rfl (by decide) ?_
  refine ex_iaddN (i + 1) 698 d_LAW_law_697 rfl rfl (xn_lit 1) (by omega) ?_
  refine ex_sldN 699 d_LAW_law_698 rfl rfl rfl (by omega) (by omega) ?_
  refine ex_aload_n (a := b) 700 d_LAW_law_699 rfl rfl ?_
  refine ex_iload_n (a := nI i) 701 d_LAW_law_700 rfl rfl ?_
  refine ex_iconst (v := 2) 702 d_LAW_law_701 rfl (by decide) ?_
  refine ex_iaddN (i + 2) 703 d_LAW_law_702 rfl rfl (xn_lit 2) (by omega) ?_
  refine ex_sldN 704 d_LAW_law_703 rfl rfl rfl (by omega) (by omega) ?_
  obtain ⟨v, S1, M1, hc, hr, hJ1⟩ := sim_octet (G := G) (ad := ad) hJ (xs (i + 1)) (xs (i + 2))
  refine xl_callVi [.int (xs (i + 1)), .int (xs (i + 2))] [] 707 d_LAW_law_704 rfl zv_SL_octet ⟨(Nat.le_of_ble_eq_true rfl), (Nat.le_of_ble_eq_true rfl)⟩ m_LAW_95 (kp0 (by decide)) sh_SL rfl rfl (Nat.le_of_ble_eq_true rfl) rfl (Nat.le_of_ble_eq_true rfl) hc (fun v' w hw => ?_)
  rw [hw.1, hw.2]
  refine ex_aload_n (a := ad (rp N 0)) 708 d_LAW_law_707 rfl rfl ?_
  refine ex_aload_n (a := b) 709 d_LAW_law_708 rfl rfl ?_
  refine ex_iload_n (a := nI i) 710 d_LAW_law_709 rfl rfl ?_
  refine ex_iconst (v := 1) 711 d_LAW_law_710 rfl (by decide) ?_
  refine ex_iaddN (i + 1) 712 d_LAW_law_711 rfl rfl (xn_lit 1) (by omega) ?_
  refine ex_sldN 713 d_LAW_law_712 rfl rfl rfl (by omega) (by omega) ?_
  refine ex_aload_n (a := b) 714 d_LAW_law_713 rfl rfl ?_
  refine ex_iload_n (a := nI i) 715 d_LAW_law_714 rfl rfl ?_
  refine ex_iconst (v := 2) 716 d_LAW_law_715 rfl (by decide) ?_
  refine ex_iaddN (i + 2) 717 d_LAW_law_716 rfl rfl (xn_lit 2) (by omega) ?_
  refine ex_sldN 718 d_LAW_law_717 rfl rfl rfl (by omega) (by omega) ?_
  refine xr_callVi [.int (xs (i + 1)), .int (xs (i + 2))] [.int v] 721 d_LAW_law_718 rfl zv_MO_octet ⟨(Nat.le_of_ble_eq_true rfl), (Nat.le_of_ble_eq_true rfl)⟩ m_LAW_98 (by decide) rfl rfl rfl (Nat.le_of_ble_eq_true rfl) rfl (Nat.le_of_ble_eq_true rfl) hr (fun v'' w hw => ?_)
  rw [hw.1, hw.2]
  refine ex_icmpeq 775 724 d_LAW_law_721 rfl rfl (fun _ => ?_) (fun h => absurd rfl h)
  exact kk S1 M1 hJ1
set_option maxRecDepth 100000 in
set_option maxHeartbeats 4000000 in
theorem law_18 {b ln i : Nat} {xs : Nat → Int32} (hln : ln ≤ 2049) (hi : i + 4 ≤ ln) (hJ : JJ N S M) (kk : ∀ S M, JJ N S M → Ex G (some (b, ln, xs)) mi_LAW_law 0 0 775 [some (.ref b), some (.ref (ad 0)), some (.ref (ad (rp N 0))), some (.int (nI i))] [] (LR G ad N S M) (xI (fun v w => v = 1))) : Ex G (some (b, ln, xs)) mi_LAW_law 0 0 726 [some (.ref b), some (.ref (ad 0)), some (.ref (ad (rp N 0))), some (.int (nI i))] [] (LR G ad N S M) (xI (fun v w => v = 1)) := by
  refine ex_aload_n (a := ad 0) 727 d_LAW_law_726 rfl rfl ?_
  refine ex_aload_n (a := b) 728 d_LAW_law_727 rfl rfl ?_
  refine ex_iload_n (a := nI i) 729 d_LAW_law_728 rfl rfl ?_
  refine ex_iconst (v := 1) 730 d_LAW_law_729 rfl (by decide) ?_
  refine ex_iaddN (i + 1) 731 d_LAW_law_730 rfl rfl (xn_lit 1) (by omega) ?_
  refine ex_sldN 732 d_LAW_law_731 rfl rfl rfl (by omega) (by omega) ?_
  refine ex_aload_n (a := b) 733 d_LAW_law_732 rfl rfl ?_
  refine ex_iload_n (a := nI i) 734 d_LAW_law_733 rfl rfl ?_
  refine ex_iconst (v := 2) 735 d_LAW_law_734 rfl (by decide) ?_
  refine ex_iaddN (i + 2) 736 d_LAW_law_735 rfl rfl (xn_lit 2) (by omega) ?_
  refine ex_sldN 737 d_LAW_law_736 rfl rfl rfl (by omega) (by omega) ?_
  refine ex_ifeq 744 740 d_LAW_law_737 rfl rfl (fun hz => ?_) (fun hz => ?_)
  · refine ex_iconst (v := 0) 745 d_LAW_law_744 rfl (by decide) ?_
    obtain ⟨v, S1, M1, hc, hr, hJ1⟩ := sim_reply (G := G) (ad := ad) hJ (xs (i + 1)) (0)
    refine xl_callVi [.int (xs (i + 1)), .int 0] [] 748 d_LAW_law_745 rfl zv_SL_reply ⟨(Nat.le_of_ble_eq_true rfl), (Nat.le_of_ble_eq_true rfl)⟩ m_LAW_99 (kp0 (by decide)) sh_SL rfl rfl (Nat.le_of_ble_eq_true rfl) rfl (Nat.le_of_ble_eq_true rfl) hc (fun v' w hw => ?_)
    rw [hw.1, hw.2]
    refine ex_aload_n (a := ad (rp N 0)) 749 d_LAW_law_748 rfl rfl ?_
    refine ex_aload_n (a := b) 750 d_LAW_law_749 rfl rfl ?_
    refine ex_iload_n (a := nI i) 751 d_LAW_law_750 rfl rfl ?_
    refine ex_iconst (v := 1) 752 d_LAW_law_751 rfl (by decide) ?_
    refine ex_iaddN (i + 1) 753 d_LAW_law_752 rfl rfl (xn_lit 1) (by omega) ?_
    refine ex_sldN 754 d_LAW_law_753 rfl rfl rfl (by omega) (by omega) ?_
    refine ex_aload_n (a := b) 755 d_LAW_law_754 rfl rfl ?_
    refine ex_iload_n (a := nI i) 756 d_LAW_law_755 rfl rfl ?_
    refine ex_iconst (v := 2) 757 d_LAW_law_756 rfl (by decide) ?_
    refine ex_iaddN (i + 2) 758 d_LAW_law_757 rfl rfl (xn_lit 2) (by omega) ?_
    refine ex_sldN 759 d_LAW_law_758 rfl rfl rfl (by omega) (by omega) ?_
    refine ex_ifeq 766 762 d_LAW_law_759 rfl rfl (fun _ => ?_) (fun h => absurd hz h)
    refine ex_iconst (v := 0) 767 d_LAW_law_766 rfl (by decide) ?_
    refine xr_callVi [.int (xs (i + 1)), .int 0] [.int v] 770 d_LAW_law_767 rfl zv_MO_reply ⟨(Nat.le_of_ble_eq_true rfl), (Nat.le_of_ble_eq_true rfl)⟩ m_LAW_103 (by decide) rfl rfl rfl (Nat.le_of_ble_eq_true rfl) rfl (Nat.le_of_ble_eq_true rfl) hr (fun v'' w hw => ?_)
    rw [hw.1, hw.2]
    refine ex_icmpeq 775 773 d_LAW_law_770 rfl rfl (fun _ => ?_) (fun h => absurd rfl h)
    exact kk S1 M1 hJ1
  · refine ex_iconst (v := 1) 741 d_LAW_law_740 rfl (by decide) ?_
    refine ex_goto 745 d_LAW_law_741 rfl ?_
    obtain ⟨v, S1, M1, hc, hr, hJ1⟩ := sim_reply (G := G) (ad := ad) hJ (xs (i + 1)) (1)
    refine xl_callVi [.int (xs (i + 1)), .int 1] [] 748 d_LAW_law_745 rfl zv_SL_reply ⟨(Nat.le_of_ble_eq_true rfl), (Nat.le_of_ble_eq_true rfl)⟩ m_LAW_99 (kp0 (by decide)) sh_SL rfl rfl (Nat.le_of_ble_eq_true rfl) rfl (Nat.le_of_ble_eq_true rfl) hc (fun v' w hw => ?_)
    rw [hw.1, hw.2]
    refine ex_aload_n (a := ad (rp N 0)) 749 d_LAW_law_748 rfl rfl ?_
    refine ex_aload_n (a := b) 750 d_LAW_law_749 rfl rfl ?_
    refine ex_iload_n (a := nI i) 751 d_LAW_law_750 rfl rfl ?_
    refine ex_iconst (v := 1) 752 d_LAW_law_751 rfl (by decide) ?_
    refine ex_iaddN (i + 1) 753 d_LAW_law_752 rfl rfl (xn_lit 1) (by omega) ?_
    refine ex_sldN 754 d_LAW_law_753 rfl rfl rfl (by omega) (by omega) ?_
    refine ex_aload_n (a := b) 755 d_LAW_law_754 rfl rfl ?_
    refine ex_iload_n (a := nI i) 756 d_LAW_law_755 rfl rfl ?_
    refine ex_iconst (v := 2) 757 d_LAW_law_756 rfl (by decide) ?_
    refine ex_iaddN (i + 2) 758 d_LAW_law_757 rfl rfl (xn_lit 2) (by omega) ?_
    refine ex_sldN 759 d_LAW_law_758 rfl rfl rfl (by omega) (by omega) ?_
    refine ex_ifeq 766 762 d_LAW_law_759 rfl rfl (fun h => absurd h hz) (fun _ => ?_)
    refine ex_iconst (v := 1) 763 d_LAW_law_762 rfl (by decide) ?_
    refine ex_goto 767 d_LAW_law_763 rfl ?_
    refine xr_callVi [.int (xs (i + 1)), .int 1] [.int v] 770 d_LAW_law_767 rfl zv_MO_reply ⟨(Nat.le_of_ble_eq_true rfl), (Nat.le_of_ble_eq_true rfl)⟩ m_LAW_103 (by decide) rfl rfl rfl (Nat.le_of_ble_eq_true rfl) rfl (Nat.le_of_ble_eq_true rfl) hr (fun v'' w hw => ?_)
    rw [hw.1, hw.2]
    refine ex_icmpeq 775 773 d_LAW_law_770 rfl rfl (fun _ => ?_) (fun h => absurd rfl h)
    exact kk S1 M1 hJ1
end LW
