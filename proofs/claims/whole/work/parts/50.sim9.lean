-- each call, on both sides
section SIM
variable {G : xC} {ad : Nat → Nat} {N cnt : Nat} {S M : sT} {F F' : sT} {U : uT} {mx : Nat → Nat} {T T' T1 M1 : sT}
theorem emb_fr (h : ∀ j, T1 (rp N j) = M j) : emb N T1 M = T1 := by
  funext p x
  unfold emb
  by_cases hp : p < 7 + 14 * N
  · rw [if_pos hp]
  · rw [if_neg hp, ← h]
    unfold rp
    rw [show 7 + 14 * N + (p - (7 + 14 * N)) = p by omega]
theorem KI.cong (h : KI N F U mx cnt T M) (hp : ∀ p, p < 7 + 14 * N → T' p = T p) (hf : ∀ j, T' (rp N j) = F' j) : KI N F' U mx cnt T' M := by
  obtain ⟨k1, k2, k3, k4, k5, k6⟩ := h
  refine ⟨k1, hf, k3, ?_, ?_, fun x hx => ⟨?_, ?_⟩⟩
  · unfold CLk at *
    rw [hp 1 (by omega), hp 2 (by omega)]
    exact k4
  · unfold RC at *
    rw [hp 1 (by omega), hp 2 (by omega), hp 3 (by omega), hp 4 (by omega), hp 5 (by omega)]
    exact k5
  · have e : ∀ j, j < 14 → T' (pl x j) = T (pl x j) := fun j hj => hp _ (by unfold pl; omega)
    have hh := (k6 x hx).1
    unfold NK at *
    rw [e 0 (by decide), e 2 (by decide), e 3 (by decide), e 4 (by decide), e 5 (by decide), e 6 (by decide), e 7 (by decide), e 8 (by decide), e 9 (by decide), e 10 (by decide), e 11 (by decide), e 12 (by decide), e 13 (by decide), hp 2 (by omega), hp 3 (by omega)]
    exact hh
  · have e : ∀ j, j < 14 → T' (pl x j) = T (pl x j) := fun j hj => hp _ (by unfold pl; omega)
    have hh := (k6 x hx).2
    unfold RN at *
    rw [e 0 (by decide), e 2 (by decide), e 3 (by decide), e 4 (by decide), e 5 (by decide), e 6 (by decide), e 7 (by decide), e 8 (by decide), e 10 (by decide)]
    exact hh
theorem KI.jj (h : KI N F U mx cnt T M1) : JJ N T M1 := by
  refine ⟨U, mx, cnt, h.cong (fun p hp => ?_) (fun j => ?_)⟩
  · funext x; exact if_pos hp
  · funext x; exact emb_at
theorem KI.iok (h : KI N F U mx cnt T M) : Iok N T := by
  refine ⟨h.cl, fun i hi => h.lg hi, fun i hi => (h.nk hi).2.2.2.2.1.1, fun i hi q hq => ?_⟩
  obtain ⟨D, d1, d2, d3, d4, d5, d6, d7⟩ := (h.nk hi).2.2.2.2.2.2.1
  rw [d7 q hq]
  have g : ∀ d, (plyL (T 2) (T 3) (T (pl i 10)) d).2.2 q = 0 ∨ (plyL (T 2) (T 3) (T (pl i 10)) d).2.2 q = 1 := by
    intro d
    induction d with
    | zero => exact Or.inl rfl
    | succ d ih =>
      rw [show plyL (T 2) (T 3) (T (pl i 10)) (d + 1) = plyS (T 2) (T 3) (T (pl i 10) (d + 1)) (plyL (T 2) (T 3) (T (pl i 10)) d) from rfl]
      unfold plyS
      split
      · dsimp only
        by_cases e : q = (T (pl i 10) (d + 1)).toNatClampNeg
        · rw [e, upd_at]; exact Or.inr rfl
        · rw [upd_off e]; exact ih
      · exact ih
  exact g D
def SimR (G : xC) (ad : Nat → Nat) (N : Nat) (S M : sT) (y z : mI) (as : List Value) : Prop :=
  ∃ v S1 M1, Ex G none y 0 0 0 (xEn y (.ref (ad 0) :: as)) [] (LR G ad N S M) (xI (fun r w => r = v ∧ w = LR G ad N S1 M)) ∧ Ex G none z 0 0 0 (xEn z (.ref (ad (rp N 0)) :: as)) [] (LR G ad N S1 M) (xI (fun r w => r = v ∧ w = LR G ad N S1 M1)) ∧ JJ N S1 M1
theorem sim_go {y z : mI} {as : List Value} {v v' : Int32} (h : KE N M T1 M1) (hc : Ex G none y 0 0 0 (xEn y (.ref (ad 0) :: as)) [] (LR G ad N S M) (xI (fun r w => w = LY G ad N T1 ∧ r = v))) (hr : Ex G none z 0 0 0 (xEn z (.ref (ad (rp N 0)) :: as)) [] (LR G ad N T1 M) (xI (fun r w => w = LR G ad N T1 M1 ∧ r = v'))) (hv : v' = v) : ∃ v S1 M1, Ex G none y 0 0 0 (xEn y (.ref (ad 0) :: as)) [] (LR G ad N S M) (xI (fun r w => r = v ∧ w = LR G ad N S1 M)) ∧ Ex G none z 0 0 0 (xEn z (.ref (ad (rp N 0)) :: as)) [] (LR G ad N S1 M) (xI (fun r w => r = v ∧ w = LR G ad N S1 M1)) ∧ JJ N S1 M1 := by
  obtain ⟨U, mx, cnt, h⟩ := h
  refine ⟨v, T1, M1, hc.mono ?_, hr.mono ?_, h.jj⟩
  · rintro r w ⟨x, hx, hw, hx2⟩
    refine ⟨x, hx, hx2, ?_⟩
    show w = LY G ad N (emb N T1 M)
    rw [emb_fr h.2.1]
    exact hw
  · rintro r w ⟨x, hx, hw, hx2⟩
    exact ⟨x, hx, hx2.trans hv, hw⟩
theorem isN_of {n : Int32} (hN : N ≤ 5) (h : isN N n) : ∃ k, k < N ∧ n = nI k := by
  obtain ⟨k, hk, rfl⟩ := nI_of (Int32.not_lt.mpr h.1)
  exact ⟨k, (nI_ltI hk (by omega)).mp h.2, rfl⟩
theorem isSl_of {n : Int32} (h : isSl n) : ∃ t, t < 8 ∧ n = nI (t + 1) := by
  have h0 : ¬ n < 0 := by
    intro z
    have h1 := h.1
    rw [Int32.le_iff_toInt_le] at h1
    rw [Int32.lt_iff_toInt_lt] at z
    have e : (1 : Int32).toInt = 1 := by decide
    have e0 : (0 : Int32).toInt = 0 := by decide
    omega
  obtain ⟨k, hk, rfl⟩ := nI_of h0
  have h1 : 1 ≤ k := (nI_leI (a := 1) (by decide) hk).mp h.1
  have h2 : k ≤ 8 := (nI_leI (b := 8) hk (by decide)).mp h.2
  exact ⟨k - 1, by omega, by rw [show k - 1 + 1 = k by omega]⟩
theorem isKy_of {n : Int32} (h : isKy n) : ∃ t, t < 4 ∧ n = nI t := by
  obtain ⟨k, hk, rfl⟩ := nI_of (Int32.not_lt.mpr h.1)
  exact ⟨k, (nI_ltI (b := 4) hk (by decide)).mp h.2, rfl⟩
theorem in_of {m : Nat} (hm : m < 2147483648) {n : Int32} (h1 : ¬ n < 0) (h2 : n < nI m) : ∃ t, t < m ∧ n = nI t := by
  obtain ⟨k, hk, rfl⟩ := nI_of h1
  exact ⟨k, (nI_ltI hk hm).mp h2, rfl⟩
end SIM
