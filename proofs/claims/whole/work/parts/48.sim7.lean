-- restart, mend, tell, vote, ask
section OPU
variable {N i n a cnt : Nat} {F : sT} {U : uT} {mx : Nat → Nat} {T T' M M' : sT}
theorem KI.bal {s : Nat} (h : KI N F U mx cnt T M) (hi : i < N) (hs : s < 18) : rBal (M 5) (144 * i + 8 * s) = balF (T (pl i 2)) s := by
  unfold rBal balF
  rw [Nat.add_assoc, Nat.add_assoc, (h.rn hi).1 _ (by omega), (h.rn hi).1 _ (by omega), Int32.mul_comm]
theorem KI.found {s : Nat} (h : KI N F U mx cnt T M) (hi : i < N) (hs : s < 8) : rFound i s M = sfF (T (pl i 2)) (s + 1) ∧ okS U (s + 1) (sfF (T (pl i 2)) (s + 1)) := by
  have hk := (h.nk hi).1
  have hcnt := h.2.2.2.1.1
  have e1 : 2 * (s + 1) = 2 * s + 2 := by omega
  have e2 : 2 * (s + 1) + 1 = 2 * s + 3 := by omega
  have w1 := h.wr hi (s := 2 * s + 2) (by omega)
  have w2 := h.wr hi (s := 2 * s + 3) (by omega)
  have b1 := h.bal hi (s := 2 * s + 2) (by omega)
  have b2 := h.bal hi (s := 2 * s + 3) (by omega)
  have hb : ∀ t, t < 18 → ∃ b, b < 65536 ∧ balF (T (pl i 2)) t = nI b := by
    intro t ht
    obtain ⟨x, x1, x2⟩ := hk.1 (8 * t + 2) (by omega)
    obtain ⟨y, y1, y2⟩ := hk.1 (8 * t + 3) (by omega)
    refine ⟨256 * x + y, by omega, ?_⟩
    unfold balF
    rw [x2, y2, show (256 : Int32) = nI 256 from rfl, xn_mul rfl rfl, nI_add]
  have hd : M 5 (144 * i + 16 * s + 17) = T (pl i 2) (8 * (2 * s + 2) + 1) := by
    rw [show 144 * i + 16 * s + 17 = 144 * i + (8 * (2 * s + 2) + 1) by omega]
    exact (h.rn hi).1 _ (by omega)
  have hen := hk.2.1 (s + 1) (by omega) (by omega)
  rw [e1] at hen
  unfold rFound sfF
  rw [e2, e1, b1, b2, hd]
  by_cases c1 : wrongF (T (pl i 2)) (8 * (2 * s + 2))
  · rw [if_pos c1, if_pos (w1.mpr c1)]
    by_cases c2 : wrongF (T (pl i 2)) (8 * (2 * s + 3))
    · rw [if_pos c2, if_pos (w2.mpr c2)]
      exact ⟨rfl, Or.inr (Or.inl rfl)⟩
    · rw [if_neg c2, if_neg (fun z => c2 (w2.mp z))]
      obtain ⟨b, q1, q2⟩ := hb (2 * s + 3) (by omega)
      rw [q2]
      by_cases c3 : nI b = 0
      · rw [if_pos c3]; exact ⟨rfl, Or.inl rfl⟩
      · rw [if_neg c3]
        exact ⟨rfl, Or.inr (Or.inr (Or.inl ⟨b, by have : b ≠ 0 := fun z => c3 (by rw [z]; rfl)
                                                  omega, q1, rfl⟩))⟩
  · rw [if_neg c1, if_neg (fun z => c1 (w1.mp z))]
    by_cases c3 : balF (T (pl i 2)) (2 * s + 2) = 0
    · rw [if_pos c3]; exact ⟨rfl, Or.inl rfl⟩
    · rw [if_neg c3]
      obtain ⟨b, c, u1, u2, u3⟩ := (hen c1).resolve_left c3
      refine ⟨rfl, Or.inr (Or.inr (Or.inr ⟨b, c, u1, ?_⟩))⟩
      rw [u2, u3, show (64 : Int32) = nI 64 from rfl, xn_mul rfl rfl, nI_add]
theorem KI.pf {t : Nat} (h : KI N F U mx cnt T M) (hi : i < N) (ht : t < 2) : rPf i t M = pfF (T (pl i 2)) t ∧ ∃ p, p < 65536 ∧ pfF (T (pl i 2)) t = nI p ∧ (¬ wrongF (T (pl i 2)) (8 * t) → mx i ≤ p) := by
  have w := h.wr hi (s := t) (by omega)
  have b := h.bal hi (s := t) (by omega)
  unfold rPf pfF
  rw [b]
  by_cases c : wrongF (T (pl i 2)) (8 * t)
  · rw [if_pos c, if_pos (w.mpr c)]
    exact ⟨rfl, 0, by decide, rfl, fun z => absurd c z⟩
  · rw [if_neg c, if_neg (fun z => c (w.mp z))]
    obtain ⟨p, p1, p2, p3⟩ := (h.nk hi).1.2.2 t ht c
    exact ⟨rfl, p, p1, p2, fun _ => p3⟩
theorem KI.up0 (h : KI N F U mx cnt T M) (hi : i < N) (hu : T (pl i 0) 5 = 0) : KI N F U mx cnt (upL i T 0) (rUpL i M 0) := by
  obtain ⟨b1, b2, b3, b4, b5, b6, b7, b8⟩ := h.nk hi
  obtain ⟨a1, a2, a3, a4, a5, a⟩ := h.rn hi
  obtain ⟨z1, z2, z3, z4⟩ := b8 hu
  have w0 := h.wr hi (s := 0) (by decide)
  have w1 := h.wr hi (s := 1) (by decide)
  obtain ⟨f0, p0, q1, q2, q3⟩ := h.pf hi (t := 0) (by decide)
  obtain ⟨f1, p1, r1, r2, r3⟩ := h.pf hi (t := 1) (by decide)
  have e5 : (u2 (u2 M 6 i 1) 7 i (zb (rWrF (M 5) (144 * i + 8 * 0) ∧ rWrF (M 5) (144 * i + 8 * 1)))) 5 = M 5 := by rw [u2_row (by decide), u2_row (by decide)]
  have e9 : (u2 (u2 M 6 i 1) 7 i (zb (rWrF (M 5) (144 * i + 8 * 0) ∧ rWrF (M 5) (144 * i + 8 * 1)))) 9 i = 0 := by rw [u2_row (by decide), u2_row (by decide), a4, z2]
  -- the promise that is found
  have hM : rUpL i M 0 = u2 (u2 (u2 (u2 M 6 i 1) 7 i (zb (wrongF (T (pl i 2)) 0 ∧ wrongF (T (pl i 2)) 8))) 9 i (nI p0)) 9 i (mxF (nI p0) (nI p1)) := by
    rw [show rUpL i M 0 = rPr i 1 (rPr i 0 (rUp0 i M)) from rfl]
    unfold rPr rUp0
    rw [e9]
    have g0 : rPf i 0 (u2 (u2 M 6 i 1) 7 i (zb (rWrF (M 5) (144 * i + 8 * 0) ∧ rWrF (M 5) (144 * i + 8 * 1)))) = nI p0 := by
      rw [← q2, ← f0]
      unfold rPf
      rw [e5]
    rw [g0]
    have g2 : (if nI p0 ≤ 0 then 0 else nI p0) = nI p0 := by
      by_cases c : nI p0 ≤ 0
      · rw [if_pos c]
        have : p0 ≤ 0 := (nI_leI (b := 0) (by omega) (by decide)).mp c
        rw [show p0 = 0 by omega]; rfl
      · rw [if_neg c]
    rw [g2]
    have g1 : rPf i 1 (u2 (u2 (u2 M 6 i 1) 7 i (zb (rWrF (M 5) (144 * i + 8 * 0) ∧ rWrF (M 5) (144 * i + 8 * 1)))) 9 i (nI p0)) = nI p1 := by
      rw [← r2, ← f1]
      unfold rPf
      rw [u2_row (by decide), e5]
    rw [g1, u2_at, zb_eq (and_congr w0 w1)]
    rfl
  have hT : upL i T 0 = u2 (u2 (u2 T (pl i 0) 5 1) (pl i 0) 6 (zb (wrongF (T (pl i 2)) 0 ∧ wrongF (T (pl i 2)) 8))) (pl i 0) 7 (mxF (nI p0) (nI p1)) := by
    rw [← q2, ← r2]; rfl
  rw [hM, hT]
  have hmx : ∃ p, p < 65536 ∧ mxF (nI p0) (nI p1) = nI p ∧ p0 ≤ p ∧ p1 ≤ p := by
    unfold mxF
    by_cases c : nI p1 ≤ nI p0
    · rw [if_pos c]
      exact ⟨p0, q1, rfl, Nat.le_refl _, (nI_leI (by omega) (by omega)).mp c⟩
    · rw [if_neg c]
      refine ⟨p1, r1, rfl, ?_, Nat.le_refl _⟩
      have : ¬ p1 ≤ p0 := fun y => c ((nI_leI (by omega) (by omega)).mpr y)
      omega
  obtain ⟨p, m1, m2, m3, m4⟩ := hmx
  rw [m2]
  generalize hz : zb (wrongF (T (pl i 2)) 0 ∧ wrongF (T (pl i 2)) 8) = z
  have row : u2 (u2 (u2 T (pl i 0) 5 1) (pl i 0) 6 z) (pl i 0) 7 (nI p) (pl i 0) = upd (upd (upd (T (pl i 0)) 5 1) 6 z) 7 (nI p) := by rw [u2_up, u2_up, u2_up]
  have e : ∀ j, j ≠ 0 → u2 (u2 (u2 T (pl i 0) 5 1) (pl i 0) 6 z) (pl i 0) 7 (nI p) (pl i j) = T (pl i j) := fun j hj => by rw [u2_row (pln hj), u2_row (pln hj), u2_row (pln hj)]
  have cc : ∀ q, q < 7 → u2 (u2 (u2 T (pl i 0) 5 1) (pl i 0) 6 z) (pl i 0) 7 (nI p) q = T q := fun q hq => by rw [u2_row (by unfold pl; omega), u2_row (by unfold pl; omega), u2_row (by unfold pl; omega)]
  have mo : ∀ x y, ¬ ((x = 6 ∨ x = 7 ∨ x = 9) ∧ y = i) → u2 (u2 (u2 (u2 M 6 i 1) 7 i z) 9 i (nI p0)) 9 i (nI p) x y = M x y := fun x y hh => by rw [u2_off (by omega), u2_off (by omega), u2_off (by omega), u2_off (by omega)]
  have v5 : upd (upd (upd (T (pl i 0)) 5 1) 6 z) 7 (nI p) 5 = 1 := by rw [upd_off (by decide), upd_off (by decide), upd_at]
  have v6 : upd (upd (upd (T (pl i 0)) 5 1) 6 z) 7 (nI p) 6 = z := by rw [upd_off (by decide), upd_at]
  refine h.step hi (((Eff.rf.u hi (by decide)).u hi (by decide)).u hi (by decide)) ((((EfM.rf.u (by unfold ownM; omega)).u (by unfold ownM; omega)).u (by unfold ownM; omega)).u (by unfold ownM; omega)) ?_ ?_
  · unfold NK
    rw [row, e 2 (by decide), e 3 (by decide), e 4 (by decide), e 5 (by decide), e 6 (by decide), e 7 (by decide), e 8 (by decide), e 9 (by decide), e 10 (by decide), e 11 (by decide), e 12 (by decide), e 13 (by decide), cc 2 (by decide), cc 3 (by decide)]
    refine ⟨b1, b2, b3, ⟨?_, ⟨p, m1, upd_at, fun _ y => ?_⟩, ?_⟩, b5, b6, b7, fun y => absurd (v5.symm.trans y) (by decide)⟩
    · rw [upd_off (by decide), upd_off (by decide), upd_off (by decide)]; exact b4.1
    · rw [v6, ← hz] at y
      by_cases c0 : wrongF (T (pl i 2)) 0
      · by_cases c1 : wrongF (T (pl i 2)) 8
        · rw [zb_t ⟨c0, c1⟩] at y
          exact absurd y (by decide)
        · have := r3 c1
          omega
      · have := q3 c0
        omega
    · rw [upd_off (by decide), upd_off (by decide), upd_off (by decide)]; exact b4.2.2
  · unfold RN
    rw [row, e 2 (by decide), e 3 (by decide), e 4 (by decide), e 5 (by decide), e 6 (by decide), e 7 (by decide), e 8 (by decide), e 10 (by decide)]
    refine ⟨fun k hk => ?_, ?_, ?_, ?_, ?_, ?_, ?_, fun s hs => ?_, fun s hs => ?_, fun hb s hs => ?_, fun b hb s hs => ?_⟩
    · rw [mo _ _ (by omega)]; exact a1 k hk
    · rw [v5, u2_off (by omega), u2_off (by omega), u2_off (by omega), u2_at]
    · rw [v6, u2_off (by omega), u2_off (by omega), u2_at]
    · rw [upd_at, u2_at]
    · rw [upd_off (by decide), upd_off (by decide), upd_off (by decide), mo _ _ (by omega)]; exact a5
    · rw [mo _ _ (by omega)]; exact a.1
    · rw [mo _ _ (by omega)]; exact a.2.1
    · rw [mo _ _ (by omega)]; exact a.2.2.1 s hs
    · rw [mo _ _ (by omega)]; exact a.2.2.2.1 s hs
    · rw [mo _ _ (by omega), mo _ _ (by omega), mo _ _ (by omega)]; exact a.2.2.2.2.1 hb s hs
    · rw [mo _ _ (by omega)]; exact a.2.2.2.2.2 b hb s hs
theorem up_5 : ∀ k, upL i T k (pl i 0) 5 = 1
  | 0 => by
    rw [show upL i T 0 = u2 (u2 (u2 T (pl i 0) 5 1) (pl i 0) 6 (zb (wrongF (T (pl i 2)) 0 ∧ wrongF (T (pl i 2)) 8))) (pl i 0) 7 (mxF (pfF (T (pl i 2)) 0) (pfF (T (pl i 2)) 1)) from rfl, u2_off (fun z => absurd z.2 (by decide)), u2_off (fun z => absurd z.2 (by decide)), u2_at]
  | k + 1 => by
    rw [show upL i T (k + 1) = u2 (upL i T k) (pl i 3) (k + 1) (sfF (T (pl i 2)) (k + 1)) from rfl, u2_row (pln (by decide)), up_5 k]
theorem KI.up (h : KI N F U mx cnt T M) (hi : i < N) (hu : T (pl i 0) 5 = 0) : ∀ k, k ≤ 8 → KI N F U mx cnt (upL i T k) (rUpL i M k)
  | 0, _ => h.up0 hi hu
  | k + 1, hk => by
    have ih := h.up hi hu k (by omega)
    obtain ⟨g1, g2⟩ := ih.found hi (s := k) (by omega)
    rw [upL_2] at g1 g2
    rw [show upL i T (k + 1) = u2 (upL i T k) (pl i 3) (k + 1) (sfF (T (pl i 2)) (k + 1)) from rfl, show rUpL i M (k + 1) = u2 (rUpL i M k) 12 (k + 8 * i) (rFound i k (rUpL i M k)) from rfl, g1, show k + 8 * i = 8 * i + k by omega]
    exact ih.u3 hi (by omega) (by rw [up_5]; decide) g2
theorem KI.restart (h : KI N F U mx cnt T M) (hi : i < N) : rRestR i M = restR i T ∧ KE N F (restS i T) (rRestS i M) := by
  unfold rRestR restR rRestS restS
  rw [(h.rn hi).2.1]
  by_cases hu : T (pl i 0) 5 = 0
  · rw [if_pos hu, if_pos hu, if_pos hu]
    exact ⟨rfl, (h.up hi hu 8 (by decide)).e⟩
  · rw [if_neg hu, if_neg hu, if_neg hu]
    exact ⟨rfl, h.e⟩
-- mend
theorem KI.mend {s : Nat} (h : KI N F U mx cnt T M) (hn : n < N) (ha : a < N) (hs : s < 8) : rMendR n a s M = mendR n a (s + 1) T ∧ KE N F (mendS n a (s + 1) T) (rMendS n a s M) := by
  have hcnt := h.2.2.2.1.1
  have e1 := (h.rn hn).2.2.2.2.2.2.2.1 s hs
  have e2 := (h.rn ha).2.2.2.2.2.2.2.1 s hs
  have o1 := (h.nk hn).2.1 (s + 1) (by omega) (by omega)
  have o2 := (h.nk ha).2.1 (s + 1) (by omega) (by omega)
  have hm : rMok n a s M ↔ (canF n T ∧ canF a T ∧ T (pl n 3) (s + 1) < 0 ∧ ¬ T (pl n 3) (s + 1) = (-1000000) ∧ 0 < T (pl a 3) (s + 1) ∧ T (pl a 3) (s + 1) / 64 = (-2) - T (pl n 3) (s + 1)) := by
    unfold rMok
    rw [e1, e2]
    exact and_congr (h.can hn) (and_congr (h.can ha) Iff.rfl)
  unfold rMendR mendR rMendS mendS
  by_cases c1 : canF n T
  · rw [if_pos c1, if_pos c1]
    by_cases c2 : canF a T
    · rw [if_pos c2, if_pos c2]
      by_cases c3 : T (pl n 3) (s + 1) < 0
      · rw [if_pos c3, if_pos c3]
        by_cases c4 : 0 < T (pl a 3) (s + 1)
        · rw [if_pos c4, if_pos c4]
          -- the helper's slot is whole
          obtain ⟨b, c, u1, u2⟩ : ∃ b c, U b (s + 1) c ∧ T (pl a 3) (s + 1) = nI (64 * b + c) := by
            rcases o2 with z | z | ⟨b, z1, z2, z3⟩ | z
            · rw [z] at c4; exact absurd c4 (by decide)
            · rw [z] at c4; exact absurd c4 (by decide)
            · rw [z3] at c4
              exact absurd (Int32.lt_trans c4 (neg_lt z2)) (by decide)
            · exact z
          obtain ⟨q1, q2, q3, -⟩ := h.2.2.1.2 _ _ _ u1
          have k := h.wv (s := s) hn hs c1.1 u1
          rw [u2] at hm
          rw [w_div q2 (by omega)] at hm
          rw [u2, bl_w q2 (by omega), show cmOf (nI (64 * b + c)) = nI c from w_rem q2 (by omega)]
          have hq : (¬ T (pl n 3) (s + 1) = (-1000000) ∧ nI b = (-2) - T (pl n 3) (s + 1)) ↔ blOf (T (pl n 3) (s + 1)) = nI b := by
            rcases o1 with z | z | ⟨b', z1, z2, z3⟩ | ⟨b', c', z1, z2⟩
            · rw [z] at c3; exact absurd c3 (by decide)
            · rw [z, bl_u]
              refine ⟨fun y => absurd rfl y.1, fun y => ?_⟩
              exfalso
              have y := congrArg Int32.toInt y
              rw [i_nI (by omega)] at y
              have ep : (1000000 : Int32).toInt = 1000000 := by decide
              omega
            · rw [z3, bl_d z2, neg_neg]
              exact ⟨fun y => y.2.symm, fun y => ⟨neg_ne z2, y.symm⟩⟩
            · obtain ⟨-, q2', q3', -⟩ := h.2.2.1.2 _ _ _ z1
              rw [z2] at c3
              exact absurd c3 (w_lt q2' (by omega))
          have hpos : 0 < nI (64 * b + c) := (nI_ltI (a := 0) (by decide) (by omega)).mpr (by omega)
          by_cases c5 : blOf (T (pl n 3) (s + 1)) = nI b
          · have g : canF n T ∧ canF a T ∧ T (pl n 3) (s + 1) < 0 ∧ ¬ T (pl n 3) (s + 1) = (-1000000) ∧ 0 < nI (64 * b + c) ∧ nI b = (-2) - T (pl n 3) (s + 1) := ⟨c1, c2, c3, (hq.mpr c5).1, hpos, (hq.mpr c5).2⟩
            rw [if_pos c5, if_pos c5, if_pos (hm.mpr g), if_pos (hm.mpr g)]
            rw [e2, u2, w_rem q2 (by omega), w_div q2 (by omega)]
            refine ⟨?_, k.1.e⟩
            by_cases c6 : wvOk n (s + 1) (nI c) (nI b) T
            · rw [if_pos c6, if_pos (k.2.mpr c6)]
            · rw [if_neg c6, if_neg (fun z => c6 (k.2.mp z))]
          · have g : ¬ (canF n T ∧ canF a T ∧ T (pl n 3) (s + 1) < 0 ∧ ¬ T (pl n 3) (s + 1) = (-1000000) ∧ 0 < nI (64 * b + c) ∧ nI b = (-2) - T (pl n 3) (s + 1)) := fun z => c5 (hq.mp ⟨z.2.2.2.1, z.2.2.2.2.2⟩)
            rw [if_neg c5, if_neg c5, if_neg (fun z => g (hm.mp z)), if_neg (fun z => g (hm.mp z))]
            exact ⟨rfl, h.e⟩
        · rw [if_neg c4, if_neg c4, if_neg (fun z => c4 (hm.mp z).2.2.2.2.1), if_neg (fun z => c4 (hm.mp z).2.2.2.2.1)]
          exact ⟨rfl, h.e⟩
      · rw [if_neg c3, if_neg c3, if_neg (fun z => c3 (hm.mp z).2.2.1), if_neg (fun z => c3 (hm.mp z).2.2.1)]
        exact ⟨rfl, h.e⟩
    · rw [if_neg c2, if_neg c2, if_neg (fun z => c2 (hm.mp z).2.1), if_neg (fun z => c2 (hm.mp z).2.1)]
      exact ⟨rfl, h.e⟩
  · rw [if_neg c1, if_neg c1, if_neg (fun z => c1 (hm.mp z).1), if_neg (fun z => c1 (hm.mp z).1)]
    exact ⟨rfl, h.e⟩
-- tell
theorem learn_0 {s : Nat} {c : Int32} (hC : CLok T) (hG : LGok i T) {p : Nat} (h9 : p ≠ pl i 9) (h10 : p ≠ pl i 10) (h11 : p ≠ pl i 11) (h12 : p ≠ pl i 12) (h13 : p ≠ pl i 13) : learnS i s c T p = T p := by
  have g : ∀ m d (S : sT), dwL i m d S p = S p := by
    intro m
    induction m with
    | zero => intro d S; rfl
    | succ m ih =>
      intro d S
      unfold dwL
      split
      · rfl
      · rw [ih, u2_row h9, perf_o h11 h12 h13]
  unfold learnS dwS
  split
  · rw [g, u2_row h10]
  · rfl
theorem KI.cl (h : KI N F U mx cnt T M) : CLok T := ⟨cnt, h.2.2.2.1.1, h.2.2.2.1.2.1, fun q _ h2 => h.2.2.2.1.2.2 q h2⟩
theorem KI.lg (h : KI N F U mx cnt T M) (hi : i < N) : LGok i T := by
  obtain ⟨D, d1, d2, -⟩ := (h.nk hi).2.2.2.2.2.2.1
  exact ⟨D, d1, d2⟩
theorem KI.tl {m : Nat} (h : KI N F U mx cnt T M) (hn : n < N) (hm : m < N) (hu : ¬ T (pl m 0) 5 = 0) : ∀ k, k ≤ 8 → KI N F U mx cnt (laL m n T k).2 (rTl n m M k).2 ∧ (laL m n T k).1 = (rTl n m M k).1 ∧ ¬ (laL m n T k).2 (pl m 0) 5 = 0
  | 0, _ => ⟨h, rfl, hu⟩
  | k + 1, hk => by
    obtain ⟨k1, k2, k3⟩ := h.tl hn hm hu k (by omega)
    have hcnt := h.2.2.2.1.1
    have e1 := (k1.rn hn).2.2.2.2.2.2.2.2.1 k (by omega)
    have e2 := (k1.rn hm).2.2.2.2.2.2.2.2.1 k (by omega)
    have neg : ∀ x, x < N → ((laL m n T k).2 (pl x 10) (k + 1) < 0 ↔ (laL m n T k).2 (pl x 10) (k + 1) = (-1)) := by
      intro x hx
      rcases (k1.nk hx).2.2.2.2.2.1 (k + 1) (by omega) (by omega) with z | ⟨c, z1, z2⟩
      · rw [z]; exact ⟨fun _ => rfl, fun _ => by decide⟩
      · rw [z2]
        exact ⟨fun y => absurd y (nI_pos (by omega)), fun y => absurd y (nI_m1 (by omega))⟩
    rw [show laL m n T (k + 1) = (if (laL m n T k).2 (pl n 10) (k + 1) = (-1) then laL m n T k else if (laL m n T k).2 (pl m 10) (k + 1) = (-1) then ((laL m n T k).1 + 1, learnS m (k + 1) ((laL m n T k).2 (pl n 10) (k + 1)) (laL m n T k).2) else laL m n T k) from rfl]
    rw [show rTl n m M (k + 1) = (if (rTl n m M k).2 15 (k + 8 * n) < 0 then rTl n m M k else if (rTl n m M k).2 15 (k + 8 * m) < 0 then ((rTl n m M k).1 + 1, u2 (rTl n m M k).2 15 (k + 8 * m) ((rTl n m M k).2 15 (k + 8 * n))) else rTl n m M k) from rfl]
    rw [show k + 8 * n = 8 * n + k by omega, show k + 8 * m = 8 * m + k by omega, e1, e2]
    by_cases c1 : (laL m n T k).2 (pl n 10) (k + 1) = (-1)
    · rw [if_pos c1, if_pos ((neg n hn).mpr c1)]
      exact ⟨k1, k2, k3⟩
    · rw [if_neg c1, if_neg (fun z => c1 ((neg n hn).mp z))]
      by_cases c2 : (laL m n T k).2 (pl m 10) (k + 1) = (-1)
      · rw [if_pos c2, if_pos ((neg m hm).mpr c2)]
        obtain ⟨c, z1, z2⟩ := ((k1.nk hn).2.2.2.2.2.1 (k + 1) (by omega) (by omega)).resolve_left c1
        dsimp only
        rw [z2]
        refine ⟨k1.learn hm (by omega) z1 k3 c2, by rw [k2], ?_⟩
        rw [learn_0 k1.cl (k1.lg hm) (pln (by decide)) (pln (by decide)) (pln (by decide)) (pln (by decide)) (pln (by decide))]
        exact k3
      · rw [if_neg c2, if_neg (fun z => c2 ((neg m hm).mp z))]
        exact ⟨k1, k2, k3⟩
theorem KI.tell {m : Nat} (h : KI N F U mx cnt T M) (hn : n < N) (hm : m < N) : rTellR n m M = tellR n m T ∧ KE N F (tellS n m T) (rTellS n m M) := by
  unfold rTellR tellR rTellS tellS
  rw [(h.rn hn).2.1, (h.rn hm).2.1]
  by_cases c1 : T (pl n 0) 5 = 0
  · rw [if_pos c1, if_pos c1, if_pos c1, if_pos c1]; exact ⟨rfl, h.e⟩
  · rw [if_neg c1, if_neg c1, if_neg c1, if_neg c1]
    by_cases c2 : T (pl m 0) 5 = 0
    · rw [if_pos c2, if_pos c2, if_pos c2, if_pos c2]; exact ⟨rfl, h.e⟩
    · rw [if_neg c2, if_neg c2, if_neg c2, if_neg c2]
      obtain ⟨k1, k2, -⟩ := h.tl hn hm c2 8 (by decide)
      exact ⟨k2.symm, k1.e⟩
end OPU
