-- numbers
def zb (c : Prop) [Decidable c] : Int32 := if c then 1 else 0
theorem zb_t {c : Prop} [Decidable c] (h : c) : zb c = 1 := if_pos h
theorem zb_f {c : Prop} [Decidable c] (h : ¬ c) : zb c = 0 := if_neg h
theorem zb_nar (c : Prop) [Decidable c] : narrow .boolean (.int (zb c)) = .int (zb c) := by
  by_cases h : c
  · rw [zb_t h]; rfl
  · rw [zb_f h]; rfl
theorem zb_eq {c d : Prop} [Decidable c] [Decidable d] (h : c ↔ d) : zb c = zb d := by
  by_cases hc : c
  · rw [zb_t hc, zb_t (h.mp hc)]
  · rw [zb_f hc, zb_f (fun z => hc (h.mpr z))]
section XN
variable {a b : Int32} {j k : Nat}
theorem xn_lit (n : Nat) : (OfNat.ofNat n : Int32) = nI n := rfl
theorem xn_to (k : Nat) (h : j = k) (ha : a = nI j) : a = nI k := h ▸ ha
theorem xn_add (ha : a = nI j) (hb : b = nI k) : a + b = nI (j + k) := by rw [ha, hb, nI_add]
theorem xn_mul (ha : a = nI j) (hb : b = nI k) : a * b = nI (j * k) := by
  rw [ha, hb]
  exact (Int32.ofNat_mul j k).symm
theorem xn_inc (ha : a = nI j) : a + Int32.ofInt 1 = nI (j + 1) := by
  rw [ha]
  exact nI_1 j
theorem xn_inc4 (ha : a = nI j) : a + Int32.ofInt 4 = nI (j + 4) := by
  rw [ha, show Int32.ofInt 4 = nI 4 by decide, nI_add]
theorem xn_inc8 (ha : a = nI j) : a + Int32.ofInt 8 = nI (j + 8) := by
  rw [ha, show Int32.ofInt 8 = nI 8 by decide, nI_add]
theorem xn_dec (ha : a = nI (j + 1)) : a + Int32.ofInt (-1) = nI j := by
  rw [ha, ← nI_pred j, Int32.sub_eq_add_neg]
  rfl
theorem xn_eq (ha : a = nI j) (hb : b = nI k) (h : j = k) : a = b := by rw [ha, hb, h]
theorem xn_ne (ha : a = nI j) (hb : b = nI k) (h : j ≠ k) (h1 : j < 2147483648) (h2 : k < 2147483648) : ¬ a = b := by
  rw [ha, hb]
  exact fun z => h ((nI_eq h1 h2).mp z)
theorem xn_lt (ha : a = nI j) (hb : b = nI k) (h : j < k) (h1 : j < 2147483648) (h2 : k < 2147483648) : a < b := by
  rw [ha, hb]
  exact (nI_ltI h1 h2).mpr h
theorem xn_nlt (ha : a = nI j) (hb : b = nI k) (h : ¬ j < k) (h1 : j < 2147483648) (h2 : k < 2147483648) : ¬ a < b := by
  rw [ha, hb]
  exact fun z => h ((nI_ltI h1 h2).mp z)
theorem xn_le (ha : a = nI j) (hb : b = nI k) (h : j ≤ k) (h1 : j < 2147483648) (h2 : k < 2147483648) : a ≤ b := by
  rw [ha, hb]
  exact (nI_leI h1 h2).mpr h
theorem xn_nle (ha : a = nI j) (hb : b = nI k) (h : ¬ j ≤ k) (h1 : j < 2147483648) (h2 : k < 2147483648) : ¬ a ≤ b := by
  rw [ha, hb]
  exact fun z => h ((nI_leI h1 h2).mp z)
theorem xn_div (ha : a = nI j) (hb : b = nI k) (h : 0 < k) (h1 : j < 2147483648) (h2 : k < 2147483648) : a / b = nI (j / k) := by
  rw [ha, hb]
  apply Int32.toInt_inj.mp
  rw [nI_toInt (Nat.lt_of_le_of_lt (Nat.div_le_self j k) h1)]
  rw [Int32.toInt_div_of_ne_left]
  · rw [nI_toInt h1, nI_toInt h2]
    rfl
  · intro z
    have := congrArg Int32.toInt z
    rw [nI_toInt h1] at this
    have e : Int32.minValue.toInt = -2147483648 := by decide
    omega
theorem xn_rem (ha : a = nI j) (hb : b = nI k) (h : 0 < k) (h1 : j < 2147483648) (h2 : k < 2147483648) : a - a / b * b = nI (j % k) := by
  rw [xn_div ha hb h h1 h2, ha, hb]
  rw [show nI (j / k) * nI k = nI (j / k * k) from (Int32.ofNat_mul _ _).symm]
  have e : j = j / k * k + j % k := by rw [Nat.mul_comm]; exact (Nat.div_add_mod j k).symm
  have e2 : nI j = nI (j / k * k) + nI (j % k) := by rw [nI_add, ← e]
  rw [e2, Int32.add_comm, Int32.add_sub_cancel]
end XN
-- sums of naturals on the stack
section EXN
variable {G : xC} {X : xS} {y : mI} {cb sb pc : Nat} {L : List (Option Value)} {st : List Value} {ws : va_W} {Q : Option Value → va_W → Prop} {a b : Int32} {j k : Nat}
theorem ex_iaddN (r : Nat) (n : Nat) (hd : decode y.2.1 pc = .ok (.iadd, 1)) (hn : pc + 1 = n) (ha : a = nI j) (hb : b = nI k) (h : j + k = r) (kk : Ex G X y cb sb n L (.int (nI r) :: st) ws Q) : Ex G X y cb sb pc L (.int b :: .int a :: st) ws Q :=
  ex_iadd n hd hn (by rw [xn_to r h (xn_add ha hb)]; exact kk)
theorem ex_isubN (r : Nat) (n : Nat) (hd : decode y.2.1 pc = .ok (.isub, 1)) (hn : pc + 1 = n) (ha : a = nI j) (hb : b = nI k) (h : j = r + k) (kk : Ex G X y cb sb n L (.int (nI r) :: st) ws Q) : Ex G X y cb sb pc L (.int b :: .int a :: st) ws Q :=
  ex_isub n hd hn (by rw [show a - b = nI r by rw [ha, hb, h, ← nI_add, Int32.add_sub_cancel]]; exact kk)
theorem ex_imulN (r : Nat) (n : Nat) (hd : decode y.2.1 pc = .ok (.imul, 1)) (hn : pc + 1 = n) (ha : a = nI j) (hb : b = nI k) (h : j * k = r) (kk : Ex G X y cb sb n L (.int (nI r) :: st) ws Q) : Ex G X y cb sb pc L (.int b :: .int a :: st) ws Q :=
  ex_imul n hd hn (by rw [xn_to r h (xn_mul ha hb)]; exact kk)
theorem ex_idivN (n : Nat) (hd : decode y.2.1 pc = .ok (.idiv, 1)) (hn : pc + 1 = n) (ha : a = nI j) (hb : b = nI k) (h0 : ¬ b = 0) (h : 0 < k) (h1 : j < 2147483648) (h2 : k < 2147483648) (kk : Ex G X y cb sb n L (.int (nI (j / k)) :: st) ws Q) : Ex G X y cb sb pc L (.int b :: .int a :: st) ws Q :=
  ex_idiv n hd hn h0 (by rw [xn_div ha hb h h1 h2]; exact kk)
theorem ex_iremN (n : Nat) (hd : decode y.2.1 pc = .ok (.irem, 1)) (hn : pc + 1 = n) (ha : a = nI j) (hb : b = nI k) (h0 : ¬ b = 0) (h : 0 < k) (h1 : j < 2147483648) (h2 : k < 2147483648) (kk : Ex G X y cb sb n L (.int (nI (j % k)) :: st) ws Q) : Ex G X y cb sb pc L (.int b :: .int a :: st) ws Q :=
  ex_irem n hd hn h0 (by rw [xn_rem ha hb h h1 h2]; exact kk)
end EXN
theorem loop_down {P : Nat → Prop} (n : Nat) (h0 : P n) (hs : ∀ k, k < n → P (k + 1) → P k) : ∀ k, k ≤ n → P k := by
  have h : ∀ m k, k + m = n → P k := by
    intro m
    induction m with
    | zero => intro k hk; rw [Nat.add_zero] at hk; rw [hk]; exact h0
    | succ m ih => intro k hk; exact hs k (by omega) (ih (k + 1) (by omega))
  intro k hk
  exact h (n - k) k (by omega)
theorem ltsuc {P : Nat → Prop} {k : Nat} (h : ∀ j, j < k → P j) (hk : P k) : ∀ j, j < k + 1 → P j := by
  intro j hj
  by_cases e : j = k
  · rw [e]; exact hk
  · exact h j (by omega)
-- the JDK's count of bits, as its code goes
abbrev ushF (a b : Int32) : Int32 := (a.toUInt32 >>> (b.toUInt32 &&& Int32.toUInt32 31)).toInt32
def bcA (a : Int32) : Int32 := a - (ushF a 1 &&& 1431655765)
def bcB (a : Int32) : Int32 := (a &&& 858993459) + (ushF a 2 &&& 858993459)
def bcC (a : Int32) : Int32 := (a + ushF a 4) &&& 252645135
def bcD (a : Int32) : Int32 := a + ushF a 8
def bcE (a : Int32) : Int32 := a + ushF a 16
def bcF (a : Int32) : Int32 := bcE (bcD (bcC (bcB (bcA a)))) &&& 63
