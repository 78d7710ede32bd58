-- the calls that change nodes
theorem bc_eq : ∀ v, v < 32 → bcF (nI v) = rSum (nI v) 5 := by decide +kernel
section OPS
variable {N i n a cnt : Nat} {F : sT} {U : uT} {mx : Nat → Nat} {T M : sT}
theorem KI.can (h : KI N F U mx cnt T M) (hi : i < N) : rWk i M ↔ canF i T := by
  unfold rWk canF
  rw [(h.rn hi).2.1, (h.rn hi).2.2.1]
theorem KI.maj (h : KI N F U mx cnt T M) (hi : i < N) {v : Nat} (hv : v < 32) : rMany M (nI v) ↔ majF i T (bcF (nI v)) := by
  unfold rMany majF
  rw [bc_eq v hv, h.2.2.2.2.1.1, (h.nk hi).2.2.2.2.1.1]
theorem KI.has (h : KI N F U mx cnt T M) (hi : i < N) : rLds i M ↔ hasM i T := by
  obtain ⟨b1, b2, b3, b4, ⟨d0, b, w, d1, d2, d3, d4, d5, d6⟩, b6, b7, b8⟩ := h.nk hi
  have hN := h.1.2
  unfold rLds hasM
  rw [(h.rn hi).2.1, (h.rn hi).2.2.2.2.2.1, (h.rn hi).2.2.2.2.2.2.1, d1, d2, h.maj hi d3]
  constructor
  · exact fun z => z.2.2
  · intro z
    have hw : w ≠ 0 := by
      rintro rfl
      unfold majF at z
      rw [d0, show bcF (nI 0) = 0 by decide] at z
      exact absurd z (nI_pos (by omega))
    have hb : b ≠ 0 := fun q => hw (d5 q)
    refine ⟨fun q => hb ?_, (nI_ltI (a := 0) (by decide) (by omega)).mpr (by omega), z⟩
    have q2 := (b8 q).2.2.2.1
    rw [d1] at q2
    exact (nI_eq (b := 0) (by omega) (by decide)).mp q2
theorem KI.upc (h : KI N F U mx cnt T M) (hi : i < N) (hc : canF i T) : ∃ p, p < 65536 ∧ T (pl i 0) 7 = nI p ∧ mx i ≤ p := by
  obtain ⟨-, -, -, ⟨-, ⟨p, h1, h2, h3⟩, -⟩, -⟩ := h.nk hi
  exact ⟨p, h1, h2, h3 hc.1 hc.2⟩
theorem rp_keep {j : Nat} {b : Int32} (hr : rpOk a b T) (ha : a < N) (hn : n < N) (h0 : j ≠ 0) (h2 : j ≠ 2) (hj : j < 14) : rpS a b T (pl n j) = T (pl n j) := by
  by_cases e : n = a
  · subst e; exact rp_okj hr h0 h2
  · exact Eff.rpr (N := N) ha _ (Or.inr (Or.inl ⟨n, j, hn, e, hj, rfl⟩))
theorem wv_keep {j s : Nat} {c b : Int32} (hr : wvOk a s c b T) (ha : a < N) (hn : n < N) (h0 : j ≠ 0) (h2 : j ≠ 2) (h3 : j ≠ 3) (hj : j < 14) : wvS a s c b T (pl n j) = T (pl n j) := by
  by_cases e : n = a
  · subst e; exact wv_okj hr h0 h2 h3
  · exact Eff.wv (N := N) ha _ (Or.inr (Or.inl ⟨n, j, hn, e, hj, rfl⟩))
-- lead
theorem KI.sd (h : KI N F U mx cnt T M) (hi : i < N) : ∀ k, k ≤ 8 → rSd i M k = (decide (canF i T) && !(damL i T k))
  | 0, _ => by
    rw [show rSd i M 0 = decide (rWk i M) from rfl, show damL i T 0 = false from rfl, Bool.not_false, Bool.and_true]
    exact decide_eq_decide.mpr (h.can hi)
  | k + 1, hk => by
    have ih := h.sd hi k (by omega)
    have e := (h.rn hi).2.2.2.2.2.2.2.1 k (by omega)
    rw [show rSd i M (k + 1) = (rSd i M k && decide (¬ M 12 (8 * i + k) < 0)) from rfl, show damL i T (k + 1) = (damL i T k || decide (T (pl i 3) (k + 1) < 0)) from rfl, ih, e]
    by_cases hz : T (pl i 3) (k + 1) < 0
    · rw [decide_eq_true hz, decide_eq_false (show ¬ ¬ T (pl i 3) (k + 1) < 0 from fun q => q hz)]
      simp
    · rw [decide_eq_false hz, decide_eq_true hz]
      simp
theorem next_eq {p : Nat} (hp : p < 65536) (h7 : T (pl i 0) 7 = nI p) (h0 : T (pl i 0) 0 = nI i) (hi : i < 5) : nextF i T = nI (rNb p (i + 8)) ∧ p < rNb p (i + 8) ∧ rNb p (i + 8) < 65560 ∧ rNb p (i + 8) % 8 = i ∧ 8 ≤ rNb p (i + 8) := by
  have hr : rNb p (i + 8) = (if p < p - p % 8 + i ∧ 8 ≤ p - p % 8 + i then p - p % 8 + i else p - p % 8 + i + 8) := by
    unfold rNb
    split <;> split <;> omega
  have e1 : nI p - (nI p - nI p / 8 * 8) + nI i = nI (p - p % 8 + i) := by
    rw [xn_rem (b := 8) (k := 8) rfl rfl (by decide) (by omega) (by decide)]
    rw [← nI_add]
    congr 1
    have e : nI p = nI (p - p % 8) + nI (p % 8) := by rw [nI_add]; congr 1; omega
    rw [e, Int32.add_sub_cancel]
  refine ⟨?_, ?_, ?_, ?_, ?_⟩
  · unfold nextF
    dsimp only
    rw [h7, h0, e1, hr]
    by_cases hc : p < p - p % 8 + i ∧ 8 ≤ p - p % 8 + i
    · rw [if_pos hc, if_pos ⟨(nI_ltI (by omega) (by omega)).mpr hc.1, (nI_leI (a := 8) (by decide) (by omega)).mpr hc.2⟩]
    · rw [if_neg hc, if_neg]
      · exact nI_add _ 8
      · exact fun z => hc ⟨(nI_ltI (by omega) (by omega)).mp z.1, (nI_leI (a := 8) (by decide) (by omega)).mp z.2⟩
  · rw [hr]; split <;> omega
  · rw [hr]; split <;> omega
  · rw [hr]; split <;> omega
  · rw [hr]; split <;> omega
theorem beg_o {b : Int32} {p : Nat} (h4 : p ≠ pl i 4) (h5 : p ≠ pl i 5) (h6 : p ≠ pl i 6) (h7 : p ≠ pl i 7) : ∀ k, beginL i b T k p = T p
  | 0 => by rw [show beginL i b T 0 = u2 (u2 T (pl i 4) 5 b) (pl i 4) 6 0 from rfl, u2_row h4, u2_row h4]
  | k + 1 => by rw [show beginL i b T (k + 1) = u2 (u2 (u2 (beginL i b T k) (pl i 5) (k + 1) 0) (pl i 6) (k + 1) (-1)) (pl i 7) (k + 1) 0 from rfl, u2_row h7, u2_row h6, u2_row h5, beg_o h4 h5 h6 h7 k]
theorem beg_4 {b : Int32} : ∀ k, beginL i b T k (pl i 4) = upd (upd (T (pl i 4)) 5 b) 6 0
  | 0 => by rw [show beginL i b T 0 = u2 (u2 T (pl i 4) 5 b) (pl i 4) 6 0 from rfl, u2_up, u2_up]
  | k + 1 => by rw [show beginL i b T (k + 1) = u2 (u2 (u2 (beginL i b T k) (pl i 5) (k + 1) 0) (pl i 6) (k + 1) (-1)) (pl i 7) (k + 1) 0 from rfl, u2_row (pln (by decide)), u2_row (pln (by decide)), u2_row (pln (by decide)), beg_4 k]
theorem beg_a {b : Int32} {t : Nat} (ht : 1 ≤ t) : ∀ k, t ≤ k → beginL i b T k (pl i 5) t = 0 ∧ beginL i b T k (pl i 6) t = (-1) ∧ beginL i b T k (pl i 7) t = 0
  | 0, h => absurd h (by omega)
  | k + 1, h => by
    rw [show beginL i b T (k + 1) = u2 (u2 (u2 (beginL i b T k) (pl i 5) (k + 1) 0) (pl i 6) (k + 1) (-1)) (pl i 7) (k + 1) 0 from rfl]
    rw [u2_row (S := u2 (u2 (beginL i b T k) (pl i 5) (k + 1) 0) (pl i 6) (k + 1) (-1)) (pln (show 5 ≠ 7 by decide)), u2_row (S := u2 (beginL i b T k) (pl i 5) (k + 1) 0) (pln (show 5 ≠ 6 by decide)), u2_row (S := u2 (u2 (beginL i b T k) (pl i 5) (k + 1) 0) (pl i 6) (k + 1) (-1)) (pln (show 6 ≠ 7 by decide))]
    by_cases e : t = k + 1
    · subst e
      exact ⟨u2_at, u2_at, u2_at⟩
    · rw [u2_off (fun z => e z.2), u2_off (fun z => e z.2), u2_off (fun z => e z.2)]
      rw [u2_off (fun z => e z.2), u2_off (fun z => e z.2), u2_off (fun z => e z.2)]
      exact beg_a ht k (by omega)
theorem Eff.beg {b : Int32} (hi : i < N) : ∀ k, Eff N i T (beginL i b T k)
  | 0 => (Eff.rf.u hi (by decide)).u hi (by decide)
  | k + 1 => (((Eff.beg hi k).u hi (by decide)).u hi (by decide)).u hi (by decide)
theorem EfM.beg : EfM i M (rBegL i M 8) := fun j k hn => rBegL_o (by unfold ownM at hn; omega) 8 (by unfold ownM at hn; omega)
theorem rp_row2 {b : Int32} (hr : rpOk i b T) (hlt : T (pl i 0) 7 < b) : rpS i b T (pl i 2) = wholF (wholF (T (pl i 2)) (8 * 0) 0 0 b) (8 * 1) 0 0 b ∧ rpS i b T (pl i 0) 7 = b := by
  unfold rpS
  rw [if_pos hlt, if_pos (hr hlt).1, if_pos (hr hlt).2]
  refine ⟨?_, u2_at⟩
  rw [u2_row (pln (by decide)), ws_ok2 (hr hlt).2, ws_ok2 (hr hlt).1]
theorem KI.begin {b : Nat} (h : KI N F U mx cnt T M) (hi : i < N) (hup : ¬ T (pl i 0) 5 = 0) (hb8 : 8 ≤ b) (hb6 : b ≤ 60000) (hbi : b % 8 = i) (hm : mx i < b) (h7 : T (pl i 0) 7 = nI b) (hs : ∀ t, t < 2 → balF (T (pl i 2)) t = nI b) :
    KI N F U (fun x => if x = i then b else mx x) cnt (beginL i (nI b) T 8) (rBegL i (u2 M 10 i (nI b)) 8) := by
  have hN := h.1.2
  obtain ⟨hu1, hu2⟩ := h.2.2.1
  refine h.stepU hi (Eff.beg hi 8) ((EfM.rf.u (by unfold ownM; omega)).tr EfM.beg) ⟨hu1, fun x t y hx => ?_⟩ (fun x hx hxi => ?_) ?_ ?_
  · obtain ⟨q1, q2, q3, q4⟩ := hu2 x t y hx
    refine ⟨q1, q2, q3, fun j hj he => ?_⟩
    dsimp only
    split
    · rename_i z
      have := q4 j hj he
      rw [z] at this
      omega
    · exact q4 j hj he
  · have hh := h.nk hx
    unfold NK at *
    dsimp only
    rw [if_neg hxi]
    exact hh
  · obtain ⟨b1, b2, b3, b4, ⟨d0, b', w, d1, d2, d3, d4, d5, d6⟩, b6, b7, b8⟩ := h.nk hi
    have c2 : beginL i (nI b) T 8 2 = T 2 := Eff.beg hi 8 2 (Or.inl (by decide))
    have c3 : beginL i (nI b) T 8 3 = T 3 := Eff.beg hi 8 3 (Or.inl (by decide))
    have e : ∀ j, j ≠ 4 → j ≠ 5 → j ≠ 6 → j ≠ 7 → beginL i (nI b) T 8 (pl i j) = T (pl i j) := fun j j1 j2 j3 j4 => beg_o (pln j1) (pln j2) (pln j3) (pln j4) 8
    unfold NK
    dsimp only
    rw [if_pos rfl, e 0 (by decide) (by decide) (by decide) (by decide), e 2 (by decide) (by decide) (by decide) (by decide), e 3 (by decide) (by decide) (by decide) (by decide), e 8 (by decide) (by decide) (by decide) (by decide), e 9 (by decide) (by decide) (by decide) (by decide), e 10 (by decide) (by decide) (by decide) (by decide), e 11 (by decide) (by decide) (by decide) (by decide), e 12 (by decide) (by decide) (by decide) (by decide), e 13 (by decide) (by decide) (by decide) (by decide), c2, c3, beg_4]
    refine ⟨⟨b1.1, b1.2.1, fun t ht hw => ⟨b, by omega, hs t ht, Nat.le_refl _⟩⟩, b2, b3, ⟨b4.1, ⟨b, by omega, h7, fun _ _ => Nat.le_refl _⟩, b4.2.2⟩, ⟨?_, b, 0, ?_, upd_at, by decide, hb6, fun z => absurd z (by omega), fun _ => ⟨hb8, hbi, Nat.le_refl _, fun t h1 h2 => ?_⟩⟩, b6, b7, fun z => absurd z hup⟩
    · rw [upd_off (by decide), upd_off (by decide)]; exact d0
    · rw [upd_off (by decide), upd_at]
    · obtain ⟨x1, x2, x3⟩ := beg_a (i := i) (b := nI b) (T := T) h1 8 (by omega)
      refine ⟨⟨0, Nat.zero_le _, x1⟩, Or.inl ⟨x2, fun c hc => ?_⟩, ⟨0, by decide, x3⟩⟩
      have := (hu2 b t c hc).2.2.2 i hi hbi
      omega
  · obtain ⟨a1, a2, a3, a4, a5, a6, a7, a8, a9, a10, a11⟩ := h.rn hi
    have e : ∀ j, j ≠ 4 → j ≠ 5 → j ≠ 6 → j ≠ 7 → beginL i (nI b) T 8 (pl i j) = T (pl i j) := fun j j1 j2 j3 j4 => beg_o (pln j1) (pln j2) (pln j3) (pln j4) 8
    have ro : ∀ j x, ¬ (j = 11 ∧ x = i) → ¬ (j = 10 ∧ x = i) → ¬ ((j = 13 ∨ j = 14 ∨ j = 16) ∧ 8 * i ≤ x ∧ x < 8 * i + 8) → rBegL i (u2 M 10 i (nI b)) 8 j x = M j x := fun j x h1 h2 h3 => by rw [rBegL_o h1 8 h3, u2_off h2]
    unfold RN
    rw [e 0 (by decide) (by decide) (by decide) (by decide), e 2 (by decide) (by decide) (by decide) (by decide), e 3 (by decide) (by decide) (by decide) (by decide), e 8 (by decide) (by decide) (by decide) (by decide), e 10 (by decide) (by decide) (by decide) (by decide), beg_4]
    refine ⟨fun k hk => ?_, ?_, ?_, ?_, ?_, ?_, ?_, fun s hs => ?_, fun s hs => ?_, fun hb s hs => ?_, fun x hx s hs => ?_⟩
    · rw [ro _ _ (by omega) (by omega) (by omega)]; exact a1 k hk
    · rw [ro _ _ (by omega) (by omega) (by omega)]; exact a2
    · rw [ro _ _ (by omega) (by omega) (by omega)]; exact a3
    · rw [ro _ _ (by omega) (by omega) (by omega)]; exact a4
    · rw [ro _ _ (by omega) (by omega) (by omega)]; exact a5
    · rw [rBegL_o (by omega) 8 (by omega), u2_at, upd_off (by decide), upd_at]
    · rw [rBegL_11, upd_at]
    · rw [ro _ _ (by omega) (by omega) (by omega)]; exact a8 s hs
    · rw [ro _ _ (by omega) (by omega) (by omega)]; exact a9 s hs
    · obtain ⟨x1, x2, x3⟩ := beg_a (i := i) (b := nI b) (T := T) (t := s + 1) (by omega) 8 (by omega)
      obtain ⟨y1, y2, y3⟩ := rBegL_a (n := i) (x := 8 * i + s) (M := u2 M 10 i (nI b)) (by omega) 8 (by omega)
      rw [x1, x2, x3, y1, y2, y3]
      exact ⟨rfl, rfl, rfl⟩
    · rw [ro _ _ (by omega) (by omega) (by omega)]; exact a11 x hx s hs
def KE (N : Nat) (F T M : sT) : Prop := ∃ U mx cnt, KI N F U mx cnt T M
theorem KI.e (h : KI N F U mx cnt T M) : KE N F T M := ⟨U, mx, cnt, h⟩
theorem KI.lead (h : KI N F U mx cnt T M) (hi : i < N) : ∃ p, p < 65536 ∧ M 9 i = nI p ∧ rLeadR i p M = leadR i T ∧ KE N F (leadS i T) (rLeadS i p M) := by
  have hN := h.1.2
  obtain ⟨-, -, -, ⟨g0, ⟨p, g1, g2, g3⟩, -⟩, -⟩ := h.nk hi
  obtain ⟨n1, n2, n3, n4, n5⟩ := next_eq (i := i) (T := T) g1 g2 g0 (by omega)
  refine ⟨p, g1, by rw [(h.rn hi).2.2.2.1]; exact g2, ?_⟩
  have sd := h.sd hi 8 (by decide)
  unfold leadR leadS rLeadR rLeadS
  rw [n1]
  by_cases hc : canF i T
  · rw [if_pos hc, if_pos hc]
    by_cases hd : damF i T
    · rw [if_pos hd, if_pos hd]
      have hs : ¬ rSd i M 8 = true := by
        rw [sd, show damL i T 8 = true from hd]
        simp
      rw [if_neg hs, if_neg hs]
      exact ⟨rfl, h.e⟩
    · rw [if_neg hd, if_neg hd]
      have hs : rSd i M 8 = true := by
        rw [sd, decide_eq_true hc, show damL i T 8 = false by simpa using hd]
        rfl
      rw [if_pos hs, if_pos hs]
      by_cases h6 : nI (rNb p (i + 8)) ≤ 60000
      · have h6' : rNb p (i + 8) ≤ 60000 := (nI_leI (b := 60000) (by omega) (by decide)).mp h6
        have hmx : mx i ≤ p := g3 hc.1 hc.2
        have hlt : T (pl i 0) 7 < nI (rNb p (i + 8)) := by
          rw [g2]
          exact (nI_ltI (by omega) (by omega)).mpr n2
        obtain ⟨k1, k2⟩ := h.rpr (b := rNb p (i + 8)) hi hc.1 (by omega) (by omega) hlt
        rw [if_pos h6, if_pos h6, if_pos h6, if_pos h6]
        by_cases ho : rpOk i (nI (rNb p (i + 8))) T
        · rw [if_pos ho, if_pos ho, if_pos (k2.mpr ho), if_pos (k2.mpr ho)]
          refine ⟨rfl, ?_⟩
          obtain ⟨r1, r2⟩ := rp_row2 ho hlt
          refine (k1.begin hi ?_ n5 h6' n4 (by omega) r2 ?_).e
          · rw [rp_ok0 ho (by decide) (by decide)]; exact hc.1
          · intro t ht
            rw [r1]
            refine bal_of (by omega) ?_ ?_
            · unfold wholF
              rcases (show t = 0 ∨ t = 1 by omega) with rfl | rfl <;> simp
            · unfold wholF
              rcases (show t = 0 ∨ t = 1 by omega) with rfl | rfl <;> simp
        · rw [if_neg ho, if_neg ho, if_neg (fun z => ho (k2.mp z)), if_neg (fun z => ho (k2.mp z))]
          exact ⟨rfl, k1.e⟩
      · rw [if_neg h6, if_neg h6, if_neg h6, if_neg h6]
        exact ⟨rfl, h.e⟩
  · rw [if_neg hc, if_neg hc]
    have hs : ¬ rSd i M 8 = true := by
      rw [sd, decide_eq_false hc]
      simp
    rw [if_neg hs, if_neg hs]
    exact ⟨rfl, h.e⟩
-- promise
theorem KI.addP (h : KI N F U mx cnt T M) (hn : n < N) (ha : a < N) (hb : ¬ T (pl n 4) 5 = 0) : ∀ k, k ≤ 8 → KI N F U mx cnt (addPL n a T k) (rPmL n a M k)
  | 0, _ => by
    have hN := h.1.2
    obtain ⟨-, -, -, -, ⟨-, b, w, -, d2, d3, -⟩, -⟩ := h.nk hn
    obtain ⟨v, v1, v2⟩ := two_lt (a := a) d3 (by omega)
    rw [show addPL n a T 0 = u2 T (pl n 4) 6 (T (pl n 4) 6 ||| (1 <<< (nI a &&& 31))) from rfl, show rPmL n a M 0 = u2 M 11 n (M 11 n ||| (1 <<< (nI a &&& 31))) from rfl, (h.rn hn).2.2.2.2.2.2.1, d2, v2]
    exact h.u46 hn hb v1
  | k + 1, hk => by
    have ih := h.addP hn ha hb k (by omega)
    rw [show addPL n a T (k + 1) = u2 (addPL n a T k) (pl n 8) (9 * a + (k + 1)) (addPL n a T k (pl a 3) (k + 1)) from rfl, show rPmL n a M (k + 1) = u2 (rPmL n a M k) 17 (8 * a + k + 40 * n) (rPmL n a M k 12 (8 * a + k)) from rfl, (ih.rn ha).2.2.2.2.2.2.2.1 k (by omega), show 8 * a + k + 40 * n = 40 * n + 8 * a + k by omega]
    exact ih.u8 hn ha (by omega) ((ih.nk ha).2.1 (k + 1) (by omega) (by omega))
theorem KI.term (h : KI N F U mx cnt T M) (hi : i < N) : ∃ b, b ≤ 60000 ∧ T (pl i 4) 5 = nI b ∧ M 10 i = nI b := by
  obtain ⟨-, -, -, -, ⟨-, b, w, d1, d2, d3, d4, -⟩, -⟩ := h.nk hi
  exact ⟨b, d4, d1, by rw [(h.rn hi).2.2.2.2.2.1]; exact d1⟩
theorem KI.prom_op (h : KI N F U mx cnt T M) (hn : n < N) (ha : a < N) : rPromR n a M = promR n a T ∧ KE N F (promS n a T) (rPromS n a M) := by
  obtain ⟨b, b1, b2, b3⟩ := h.term hn
  have e6 := (h.rn hn).2.1
  have e9 := (h.rn ha).2.2.2.1
  unfold promR promS rPromR rPromS
  rw [b2, b3, e6, e9]
  by_cases hb : nI b = 0
  · rw [if_neg (show ¬ ¬ nI b = 0 from fun z => z hb), if_neg (show ¬ ¬ nI b = 0 from fun z => z hb)]
    by_cases hu : T (pl n 0) 5 = 0
    · rw [if_pos hu, if_pos hu]; exact ⟨rfl, h.e⟩
    · rw [if_neg hu, if_neg hu, if_pos hb, if_pos hb]; exact ⟨rfl, h.e⟩
  · rw [if_pos hb, if_pos hb]
    have hb5 : ¬ T (pl n 4) 5 = 0 := by rw [b2]; exact hb
    have hu : ¬ T (pl n 0) 5 = 0 := fun z => hb5 (((h.nk hn).2.2.2.2.2.2.2 z).2.2.2.1)
    rw [if_neg hu, if_neg hu, if_neg hb, if_neg hb]
    unfold hindF
    by_cases hc : canF a T
    · rw [if_pos ((h.can ha).mpr hc), if_pos ((h.can ha).mpr hc), if_pos hc]
      by_cases hle : T (pl a 0) 7 ≤ nI b
      · rw [if_pos hle, if_pos hle, if_pos hle, if_pos rfl, if_pos rfl]
        by_cases hge : nI b ≤ T (pl a 0) 7
        · rw [if_pos hge, if_pos hge]
          have hno : ¬ T (pl a 0) 7 < nI b := Int32.not_lt.mpr hge
          have ho : rpOk a (nI b) T := fun z => absurd z hno
          rw [if_pos ho, if_pos ho, show rpS a (nI b) T = T from if_neg hno]
          exact ⟨rfl, (h.addP hn ha hb5 8 (by decide)).e⟩
        · rw [if_neg hge, if_neg hge]
          have hlt : T (pl a 0) 7 < nI b := Int32.not_le.mp hge
          obtain ⟨p, p1, p2, p3⟩ := h.upc ha hc
          have hpb : p < b := by
            rw [p2] at hlt
            exact (nI_ltI (by omega) (by omega)).mp hlt
          obtain ⟨k1, k2⟩ := h.rpr (b := b) ha hc.1 (by omega) (by omega) hlt
          by_cases ho : rpOk a (nI b) T
          · rw [if_pos ho, if_pos ho, if_pos (k2.mpr ho), if_pos (k2.mpr ho)]
            refine ⟨rfl, (k1.addP hn ha ?_ 8 (by decide)).e⟩
            rw [rp_keep ho ha hn (by decide) (by decide) (by decide)]
            exact hb5
          · rw [if_neg ho, if_neg ho, if_neg (fun z => ho (k2.mp z)), if_neg (fun z => ho (k2.mp z))]
            exact ⟨rfl, k1.e⟩
      · rw [if_neg hle, if_neg hle, if_neg hle, if_neg (by decide), if_neg (by decide)]
        exact ⟨rfl, h.e⟩
    · rw [if_neg (fun z => hc ((h.can ha).mp z)), if_neg (fun z => hc ((h.can ha).mp z)), if_neg hc, if_neg (by decide), if_neg (by decide)]
      exact ⟨rfl, h.e⟩
end OPS
