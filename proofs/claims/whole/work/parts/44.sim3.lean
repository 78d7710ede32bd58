-- numbers of slots' states
theorem i_nI {a : Nat} (h : a < 2147483648) : (nI a).toInt = (a : Int) := nI_toInt h
theorem i_neg {b : Nat} (h : b < 65536) : ((-2) - nI b : Int32).toInt = -2 - (b : Int) := by
  rw [Int32.toInt_sub, i_nI (by omega)]
  have e : (-2 : Int32).toInt = -2 := by decide
  rw [e]
  rw [Int.bmod_eq_of_le (by omega) (by omega)]
theorem bl_0 : blOf 0 = 0 := by decide
theorem bl_u : blOf (-1000000) = 1000000 := by decide
theorem neg_lt {b : Nat} (h : b < 65536) : ((-2) - nI b : Int32) < 0 := by
  rw [Int32.lt_iff_toInt_lt, i_neg h]
  have e : (0 : Int32).toInt = 0 := by decide
  omega
theorem neg_ne {b : Nat} (h : b < 65536) : ¬ ((-2) - nI b : Int32) = (-1000000) := by
  intro z
  have z := congrArg Int32.toInt z
  rw [i_neg h] at z
  have e : (-1000000 : Int32).toInt = -1000000 := by decide
  omega
theorem neg_neg {b : Nat} : ((-2) - ((-2) - nI b) : Int32) = nI b := by
  have h := Int32.add_sub_cancel (nI b) ((-2) - nI b)
  rw [Int32.add_comm (nI b), Int32.sub_add_cancel] at h
  exact h
theorem bl_d {b : Nat} (h : b < 65536) : blOf ((-2) - nI b) = nI b := by
  unfold blOf
  rw [if_neg (neg_ne h), if_pos (neg_lt h), neg_neg]
theorem w_lt {b c : Nat} (hb : b ≤ 60000) (hc : c ≤ 30) : ¬ nI (64 * b + c) < 0 := nI_pos (by omega)
theorem w_ne {b c : Nat} (hb : b ≤ 60000) (hc : c ≤ 30) : ¬ nI (64 * b + c) = (-1000000) := by
  intro z
  have z := congrArg Int32.toInt z
  rw [i_nI (by omega)] at z
  have e : (-1000000 : Int32).toInt = -1000000 := by decide
  omega
theorem w_div {b c : Nat} (hb : b ≤ 60000) (hc : c ≤ 30) : nI (64 * b + c) / 64 = nI b := by
  rw [xn_div (b := 64) (k := 64) rfl rfl (by decide) (by omega) (by decide)]
  congr 1
  omega
theorem w_rem {b c : Nat} (hb : b ≤ 60000) (hc : c ≤ 30) : nI (64 * b + c) - nI (64 * b + c) / 64 * 64 = nI c := by
  rw [xn_rem (b := 64) (k := 64) rfl rfl (by decide) (by omega) (by decide)]
  congr 1
  omega
theorem bl_w {b c : Nat} (hb : b ≤ 60000) (hc : c ≤ 30) : blOf (nI (64 * b + c)) = nI b := by
  unfold blOf
  rw [if_neg (w_ne hb hc), if_neg (w_lt hb hc), w_div hb hc]
-- what the promisers told: both sides alike
def PLR (U : uT) (s k : Nat) (x y : Int32 × Int32 × Int32) : Prop :=
  x.1 = y.1 ∧ (y.1 = 0 ∨ ∃ b c, U b s c ∧ y.1 = nI (64 * b + c)) ∧ (∃ m w, x.2.1 = nI m ∧ m ≤ k ∧ w < 2 ^ k ∧ y.2.1 = nI w ∧ rSum (nI w) 5 = nI m) ∧
  ((x.2.2 = 0 ∧ y.2.2 = 0) ∨ (x.2.2 = 1000000 ∧ y.2.2 = (-1000000)) ∨ ∃ b, 1 ≤ b ∧ b < 65536 ∧ x.2.2 = nI b ∧ y.2.2 = (-2) - nI b)
theorem set_bit : ∀ k, k < 5 → ∀ w, w < 2 ^ k → nI w ||| (1 <<< (nI k &&& 31)) = nI (w + 2 ^ k) ∧ rSum (nI (w + 2 ^ k)) 5 = rSum (nI w) 5 + 1 := by decide +kernel
theorem or_0 {w : Nat} : nI w ||| 0 = nI w := Int32.or_zero
section PLA
variable {N cnt : Nat} {U : uT} {mx : Nat → Nat}
theorem PLR.step {s k : Nat} {m t : Int32} {x y : Int32 × Int32 × Int32} (hu : UOK U mx N cnt) (hc : cnt ≤ 30) (hk : k < 5) (h : PLR U s k x y) (ht : okS U s t) : PLR U s (k + 1) (plStep m t x) (rPlS m k t y) := by
  have h2 : 2 ^ (k + 1) = 2 ^ k + 2 ^ k := by rw [Nat.pow_succ]; omega
  obtain ⟨h3, h4, ⟨n, w, h5, h6, h7, h8, h9⟩, h10⟩ := h
  unfold plStep rPlS
  by_cases hm : m = 0
  · rw [if_pos hm, if_pos hm]
    exact ⟨h3, h4, ⟨n, w, h5, by omega, by omega, h8, h9⟩, h10⟩
  · rw [if_neg hm, if_neg hm]
    have e0 : (0 : Int32).toInt = 0 := by decide
    have em : (-1000000 : Int32).toInt = -1000000 := by decide
    have ep : (1000000 : Int32).toInt = 1000000 := by decide
    -- the best so far is no less than 0
    have hbest : ∃ v : Nat, v ≤ 64 * 60000 + 30 ∧ y.1 = nI v := by
      rcases h4 with z | ⟨b, c, z1, z2⟩
      · exact ⟨0, by omega, z⟩
      · obtain ⟨q1, q2, q3, -⟩ := hu.2 _ _ _ z1
        exact ⟨64 * b + c, by omega, z2⟩
    obtain ⟨v, hv, hyv⟩ := hbest
    rcases ht with rfl | rfl | ⟨b, b1, b2, rfl⟩ | ⟨b, c, b1, rfl⟩
    · -- empty
      rw [if_neg (show ¬ (0 : Int32) < 0 by decide), if_neg (show ¬ (0 : Int32) < 0 by decide)]
      have hle : (0 : Int32) ≤ y.1 := by rw [hyv]; exact nI_pos' (by omega)
      rw [if_pos hle]
      have hnb : ¬ blOf x.1 < blOf 0 := by
        rw [bl_0, h3]
        rcases h4 with z | ⟨b, c, z1, z2⟩
        · rw [z, bl_0]; decide
        · obtain ⟨q1, q2, q3, -⟩ := hu.2 _ _ _ z1
          rw [z2, bl_w q2 (by omega)]
          exact nI_pos (by omega)
      rw [if_neg hnb]
      obtain ⟨s1, s2⟩ := set_bit k hk w h7
      refine ⟨h3, h4, ⟨n + 1, w + 2 ^ k, ?_, by omega, by omega, ?_, ?_⟩, ?_⟩
      · show x.2.1 + 1 = _; rw [h5]; exact nI_add n 1
      · show y.2.1 ||| _ = _; rw [h8]; exact s1
      · rw [s2, h9]; exact nI_add n 1
      · show (x.2.2 = 0 ∧ (if y.2.2 ≤ 0 then y.2.2 else 0) = 0) ∨ _
        rcases h10 with ⟨z1, z2⟩ | ⟨z1, z2⟩ | ⟨b, z1, z2, z3, z4⟩
        · exact Or.inl ⟨z1, by rw [z2]; rfl⟩
        · refine Or.inr (Or.inl ⟨z1, ?_⟩)
          show (if y.2.2 ≤ 0 then y.2.2 else 0) = _
          rw [z2, if_pos (by decide)]
        · refine Or.inr (Or.inr ⟨b, z1, z2, z3, ?_⟩)
          show (if y.2.2 ≤ 0 then y.2.2 else 0) = _
          rw [z4, if_pos (Int32.le_of_lt (neg_lt z2))]
    · -- damaged, unknown
      rw [if_pos (show (-1000000 : Int32) < 0 by decide), if_pos (show (-1000000 : Int32) < 0 by decide)]
      have hle : (-1000000 : Int32) ≤ y.1 := by rw [hyv, Int32.le_iff_toInt_le, i_nI (by omega), em]; omega
      rw [if_pos hle]
      refine ⟨h3, h4, ⟨n, w, h5, by omega, by omega, ?_, h9⟩, ?_⟩
      · show y.2.1 ||| 0 = _; rw [h8]; exact or_0
      · refine Or.inr (Or.inl ⟨?_, ?_⟩)
        · show mxF x.2.2 (blOf (-1000000)) = _
          unfold mxF
          rw [bl_u]
          rcases h10 with ⟨z1, z2⟩ | ⟨z1, z2⟩ | ⟨b, z1, z2, z3, z4⟩
          · rw [z1]; rfl
          · rw [z1]; rfl
          · rw [z3, if_neg]
            rw [Int32.le_iff_toInt_le, i_nI (by omega), ep]
            omega
        · show (if y.2.2 ≤ -1000000 then y.2.2 else -1000000) = _
          rcases h10 with ⟨z1, z2⟩ | ⟨z1, z2⟩ | ⟨b, z1, z2, z3, z4⟩
          · rw [z2]; rfl
          · rw [z2]; rfl
          · rw [z4, if_neg]
            rw [Int32.le_iff_toInt_le, i_neg z2, em]
            omega
    · -- damaged, of ballot b
      rw [if_pos (neg_lt b2), if_pos (neg_lt b2)]
      have hle : ((-2) - nI b : Int32) ≤ y.1 := by rw [hyv, Int32.le_iff_toInt_le, i_nI (by omega), i_neg b2]; omega
      rw [if_pos hle]
      refine ⟨h3, h4, ⟨n, w, h5, by omega, by omega, ?_, h9⟩, ?_⟩
      · show y.2.1 ||| 0 = _; rw [h8]; exact or_0
      · dsimp only
        rw [bl_d b2]
        unfold mxF
        rcases h10 with ⟨z1, z2⟩ | ⟨z1, z2⟩ | ⟨b', z1, z2, z3, z4⟩
        · rw [z1, z2]
          refine Or.inr (Or.inr ⟨b, b1, b2, ?_, ?_⟩)
          · rw [if_neg]
            rw [Int32.le_iff_toInt_le, i_nI (by omega), e0]
            omega
          · rw [if_neg]
            rw [Int32.le_iff_toInt_le, i_neg b2, e0]
            omega
        · rw [z1, z2]
          refine Or.inr (Or.inl ⟨?_, ?_⟩)
          · rw [if_pos]
            rw [Int32.le_iff_toInt_le, i_nI (by omega), ep]
            omega
          · rw [if_pos]
            rw [Int32.le_iff_toInt_le, i_neg b2, em]
            omega
        · rw [z3, z4]
          by_cases hbb : b ≤ b'
          · refine Or.inr (Or.inr ⟨b', z1, z2, ?_, ?_⟩)
            · rw [if_pos]
              exact (nI_leI (by omega) (by omega)).mpr hbb
            · rw [if_pos]
              rw [Int32.le_iff_toInt_le, i_neg b2, i_neg z2]
              omega
          · refine Or.inr (Or.inr ⟨b, b1, b2, ?_, ?_⟩)
            · rw [if_neg]
              exact fun z => hbb ((nI_leI (by omega) (by omega)).mp z)
            · rw [if_neg]
              rw [Int32.le_iff_toInt_le, i_neg b2, i_neg z2]
              omega
    · -- whole
      obtain ⟨p1, p2, p3, -⟩ := hu.2 _ _ _ b1
      rw [if_neg (w_lt p2 (by omega)), if_neg (w_lt p2 (by omega))]
      obtain ⟨s1, s2⟩ := set_bit k hk w h7
      have hb1 : (if blOf x.1 < blOf (nI (64 * b + c)) then nI (64 * b + c) else x.1) = (if nI (64 * b + c) ≤ y.1 then y.1 else nI (64 * b + c)) := by
        rw [bl_w p2 (by omega), h3]
        rcases h4 with z | ⟨b', c', z1, z2⟩
        · rw [z, bl_0, if_pos, if_neg]
          · exact fun q => absurd ((nI_leI (b := 0) (by omega) (by decide)).mp q) (by omega)
          · exact (nI_ltI (a := 0) (by decide) (by omega)).mpr (by omega)
        · obtain ⟨q1, q2, q3, -⟩ := hu.2 _ _ _ z1
          rw [z2, bl_w q2 (by omega)]
          by_cases hbb : b' < b
          · rw [if_pos ((nI_ltI (by omega) (by omega)).mpr hbb), if_neg]
            exact fun q => absurd ((nI_leI (by omega) (by omega)).mp q) (by omega)
          · rw [if_neg (fun q => hbb ((nI_ltI (by omega) (by omega)).mp q)), if_pos]
            refine (nI_leI (by omega) (by omega)).mpr ?_
            by_cases e : b = b'
            · subst e
              rw [hu.1 _ _ _ _ b1 z1]
              omega
            · omega
      refine ⟨hb1, ?_, ⟨n + 1, w + 2 ^ k, ?_, by omega, by omega, ?_, ?_⟩, ?_⟩
      · show (if nI (64 * b + c) ≤ y.1 then y.1 else nI (64 * b + c)) = 0 ∨ _
        split
        · rcases h4 with z | z
          · exact Or.inl z
          · right
            obtain ⟨b', c', z1, z2⟩ := z
            exact ⟨b', c', z1, z2⟩
        · right
          exact ⟨b, c, b1, rfl⟩
      · show x.2.1 + 1 = _; rw [h5]; exact nI_add n 1
      · show y.2.1 ||| _ = _; rw [h8]; exact s1
      · rw [s2, h9]; exact nI_add n 1
      · have hle : ∀ v : Int32, v ≤ 0 → v ≤ nI (64 * b + c) := by
          intro v hv
          rw [Int32.le_iff_toInt_le] at hv ⊢
          rw [i_nI (by omega)]
          omega
        show (x.2.2 = 0 ∧ (if y.2.2 ≤ nI (64 * b + c) then y.2.2 else nI (64 * b + c)) = 0) ∨ (x.2.2 = 1000000 ∧ (if y.2.2 ≤ nI (64 * b + c) then y.2.2 else nI (64 * b + c)) = (-1000000)) ∨ ∃ b', 1 ≤ b' ∧ b' < 65536 ∧ x.2.2 = nI b' ∧ (if y.2.2 ≤ nI (64 * b + c) then y.2.2 else nI (64 * b + c)) = (-2) - nI b'
        have hy0 : y.2.2 ≤ 0 := by
          rcases h10 with ⟨z1, z2⟩ | ⟨z1, z2⟩ | ⟨b', z1, z2, z3, z4⟩
          · rw [z2]; decide
          · rw [z2]; decide
          · rw [z4]; exact Int32.le_of_lt (neg_lt z2)
        rw [if_pos (hle _ hy0)]
        exact h10
end PLA
section PLB
variable {N i cnt : Nat} {F : sT} {U : uT} {mx : Nat → Nat} {T M : sT}
theorem KI.plr {s : Nat} (h : KI N F U mx cnt T M) (hi : i < N) (hs : s < 8) : ∀ k, k ≤ N → PLR U (s + 1) k (plL i (s + 1) T k) (rPlL i s M k)
  | 0, _ => ⟨rfl, Or.inl rfl, ⟨0, 0, rfl, by decide, by decide, rfl, by decide⟩, Or.inl ⟨rfl, rfl⟩⟩
  | k + 1, hk => by
    have ih := h.plr hi hs k (by omega)
    obtain ⟨-, -, -, -, -, -, a7, -, -, -, a11⟩ := h.rn hi
    have e1 : M 17 (8 * k + 40 * i + s) = T (pl i 8) (9 * k + (s + 1)) := by
      rw [show 8 * k + 40 * i + s = 40 * i + 8 * k + s by omega]
      exact a11 k (by omega) s hs
    rw [show plL i (s + 1) T (k + 1) = plStep (T (pl i 4) 6 >>> (nI k &&& 31) &&& 1) (T (pl i 8) (9 * k + (s + 1))) (plL i (s + 1) T k) from rfl]
    rw [show rPlL i s M (k + 1) = rPlS (M 11 i >>> (nI k &&& 31) &&& 1) k (M 17 (8 * k + 40 * i + s)) (rPlL i s M k) from rfl, e1, a7]
    have hN := h.1.2
    exact ih.step h.2.2.1 h.2.2.2.1.1 (by omega) ((h.nk hi).2.2.1 k (by omega) (s + 1) (by omega) (by omega))
theorem KI.plan {s : Nat} (h : KI N F U mx cnt T M) (hi : i < N) (hs : s < 8) : rPlan N i s M = planF N i (s + 1) T := by
  have hN := h.1.2
  have hcnt := h.2.2.2.1.1
  obtain ⟨h3, h4, ⟨n, w, h5, h6, h7, h8, h9⟩, h10⟩ := h.plr hi hs N (Nat.le_refl _)
  have e00 : M 0 0 = nI N := h.2.2.2.2.1.1
  have e40 : T (pl i 4) 0 = nI N := (h.nk hi).2.2.2.2.1.1
  unfold rPlan planF
  have hmaj : rMany M (rPlL i s M N).2.1 ↔ majF i T (plL i (s + 1) T N).2.1 := by
    unfold rMany majF
    rw [h8, h9, h5, e00, e40]
  have hcov : ((rPlL i s M N).2.2 = 0 ∨ (¬ (rPlL i s M N).2.2 = (-1000000) ∧ (-2) - (rPlL i s M N).2.2 ≤ (rPlL i s M N).1 / 64)) ↔ ¬ blOf (plL i (s + 1) T N).1 < (plL i (s + 1) T N).2.2 := by
    have hb : ∃ b, b ≤ 60000 ∧ blOf (plL i (s + 1) T N).1 = nI b ∧ (rPlL i s M N).1 / 64 = nI b := by
      rw [h3]
      rcases h4 with z | ⟨b, c, z1, z2⟩
      · rw [z]
        exact ⟨0, by decide, bl_0, by decide⟩
      · obtain ⟨q1, q2, q3, -⟩ := h.2.2.1.2 _ _ _ z1
        rw [z2]
        exact ⟨b, q2, bl_w q2 (by omega), w_div q2 (by omega)⟩
    obtain ⟨b, b1, b2, b3⟩ := hb
    rw [b2, b3]
    rcases h10 with ⟨z1, z2⟩ | ⟨z1, z2⟩ | ⟨b', z1, z2, z3, z4⟩
    · rw [z1, z2]
      exact ⟨fun _ => nI_pos (by omega), fun _ => Or.inl rfl⟩
    · rw [z1, z2]
      constructor
      · rintro (q | ⟨q, -⟩)
        · exact absurd q (by decide)
        · exact absurd rfl q
      · intro q
        exfalso
        apply q
        rw [Int32.lt_iff_toInt_lt, i_nI (by omega)]
        have ep : (1000000 : Int32).toInt = 1000000 := by decide
        omega
    · rw [z3, z4, neg_neg]
      constructor
      · rintro (q | ⟨-, q⟩)
        · have q2 := neg_lt (b := b') z2
          rw [q] at q2
          exact absurd q2 (by decide)
        · exact Int32.not_lt.mpr q
      · intro q
        exact Or.inr ⟨neg_ne z2, Int32.not_lt.mp q⟩
  by_cases c1 : ¬ majF i T (plL i (s + 1) T N).2.1 ∧ blOf (plL i (s + 1) T N).1 < (plL i (s + 1) T N).2.2
  · rw [if_pos c1, if_pos ⟨fun z => c1.1 (hmaj.mp z), fun z => hcov.mp z c1.2⟩]
  · rw [if_neg c1, if_neg (fun z => c1 ⟨fun q => z.1 (hmaj.mpr q), Classical.not_not.mp (fun q => z.2 (hcov.mpr q))⟩), h3]
    rcases h4 with z | ⟨b, c, z1, z2⟩
    · rw [z]; rfl
    · obtain ⟨q1, q2, q3, -⟩ := h.2.2.1.2 _ _ _ z1
      rw [z2, if_neg, if_pos]
      · rfl
      · exact (nI_ltI (a := 0) (by decide) (by omega)).mpr (by omega)
      · intro q
        exact absurd ((nI_eq (b := 0) (by omega) (by decide)).mp q) (by omega)
end PLB
