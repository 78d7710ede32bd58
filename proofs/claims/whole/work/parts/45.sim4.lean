-- play: both sides alike
theorem plyS_cg {ky nm ky' nm' : Nat → Int32} {q : Nat} {x : (Nat → Int32) × (Nat → Int32) × (Nat → Int32)} (hq : q < 31) (h1 : ky q = ky' q) (h2 : nm q = nm' q) : plyS ky nm (nI q) x = plyS ky' nm' (nI q) x := by
  unfold plyS
  rw [nI_clamp (by omega), h1, h2]
theorem plyS_m1 {ky nm : Nat → Int32} {x : (Nat → Int32) × (Nat → Int32) × (Nat → Int32)} : plyS ky nm (-1) x = x := by
  unfold plyS
  rw [if_neg (fun z => absurd z.1 (by decide))]
theorem plyL_cg {ky nm cm cm' : Nat → Int32} : ∀ d, (∀ s, 1 ≤ s → s ≤ d → cm s = cm' s) → plyL ky nm cm d = plyL ky nm cm' d
  | 0, _ => rfl
  | d + 1, h => by
    rw [show plyL ky nm cm (d + 1) = plyS ky nm (cm (d + 1)) (plyL ky nm cm d) from rfl, show plyL ky nm cm' (d + 1) = plyS ky nm (cm' (d + 1)) (plyL ky nm cm' d) from rfl, h (d + 1) (by omega) (by omega), plyL_cg d (fun s h1 h2 => h s h1 (by omega))]
theorem plyL_ck {ky nm ky' nm' cm : Nat → Int32} {cnt : Nat} (hc : cnt ≤ 30) (hk : ∀ q, q ≤ cnt → 1 ≤ q → ky q = ky' q ∧ nm q = nm' q) : ∀ d, d ≤ 8 → (∀ s, 1 ≤ s → s < 9 → cm s = (-1) ∨ ∃ c, c ≤ cnt ∧ cm s = nI c) → plyL ky nm cm d = plyL ky' nm' cm d
  | 0, _, _ => rfl
  | d + 1, hd, h => by
    rw [show plyL ky nm cm (d + 1) = plyS ky nm (cm (d + 1)) (plyL ky nm cm d) from rfl, show plyL ky' nm' cm (d + 1) = plyS ky' nm' (cm (d + 1)) (plyL ky' nm' cm d) from rfl, plyL_ck hc hk d (by omega) h]
    rcases h (d + 1) (by omega) (by omega) with z | ⟨c, z1, z2⟩
    · rw [z, plyS_m1, plyS_m1]
    · rw [z2]
      by_cases c0 : c = 0
      · subst c0
        unfold plyS
        rw [if_neg (fun z => absurd z.1 (by decide)), if_neg (fun z => absurd z.1 (by decide))]
      · exact plyS_cg (by omega) (hk c z1 (by omega)).1 (hk c z1 (by omega)).2
section PLY
variable {N i cnt : Nat} {F : sT} {U : uT} {mx : Nat → Nat} {T M : sT}
theorem KI.pok (h : KI N F U mx cnt T M) (hi : i < N) : rPok i M := by
  intro d hd
  obtain ⟨-, -, -, -, -, -, -, -, a9, -, -⟩ := h.rn hi
  have hcnt := h.2.2.2.1.1
  rw [show d + 8 * i = 8 * i + d by omega, a9 d hd]
  rcases (h.nk hi).2.2.2.2.2.1 (d + 1) (by omega) (by omega) with z | ⟨c, z1, z2⟩
  · left; rw [z]; decide
  · right
    obtain ⟨y, y1, y2⟩ := h.2.2.2.1.2.2 c z1
    exact ⟨c, by omega, z2, y, y1, by rw [(h.2.2.2.2.1.2.2 c (by omega)).1]; exact y2⟩
-- the other side's state while it plays
def PS (T M M' : sT) (i d : Nat) : Prop := M' 0 19 = nI d ∧ (∀ k, k < 4 → M' 18 k = (plyL (T 2) (T 3) (T (pl i 10)) d).1 k) ∧ (∀ q, q < 31 → M' 19 q = (plyL (T 2) (T 3) (T (pl i 10)) d).2.2 q) ∧ (∀ q, q < 31 → ¬ (plyL (T 2) (T 3) (T (pl i 10)) d).2.2 q = 0 → M' 20 q = (plyL (T 2) (T 3) (T (pl i 10)) d).2.1 q) ∧ ∀ j k, j < 18 → ¬ (j = 0 ∧ k = 19) → M' j k = M j k
theorem rMap_o {j x : Nat} (h : j ≠ 18) : ∀ k, rMapL M k j x = M j x
  | 0 => rfl
  | k + 1 => by rw [show rMapL M (k + 1) = u2 (rMapL M k) 18 k 0 from rfl, u2_off (fun z => h z.1), rMap_o h k]
theorem rMap_a {x : Nat} : ∀ k, x < k → rMapL M k 18 x = 0
  | 0, h => absurd h (Nat.not_lt_zero _)
  | k + 1, h => by
    rw [show rMapL M (k + 1) = u2 (rMapL M k) 18 k 0 from rfl]
    by_cases e : x = k
    · subst e; exact u2_at
    · rw [u2_off (fun z => e z.2), rMap_a k (by omega)]
theorem rDid_o {j x : Nat} (h : j ≠ 19) : ∀ k, rDidL M k j x = M j x
  | 0 => rfl
  | k + 1 => by rw [show rDidL M (k + 1) = u2 (rDidL M k) 19 k 0 from rfl, u2_off (fun z => h z.1), rDid_o h k]
theorem rDid_a {x : Nat} : ∀ k, x < k → rDidL M k 19 x = 0
  | 0, h => absurd h (Nat.not_lt_zero _)
  | k + 1, h => by
    rw [show rDidL M (k + 1) = u2 (rDidL M k) 19 k 0 from rfl]
    by_cases e : x = k
    · subst e; exact u2_at
    · rw [u2_off (fun z => e z.2), rDid_a k (by omega)]
theorem PS.start : PS T M (u2 (rDidL (rMapL M 4) 31) 0 19 0) i 0 := by
  refine ⟨u2_at, fun k hk => ?_, fun q hq => ?_, fun q hq z => absurd rfl z, fun j k hj hn => ?_⟩
  · rw [u2_off (by omega), rDid_o (by decide), rMap_a 4 hk]; rfl
  · rw [u2_off (by omega), rDid_a 31 hq]; rfl
  · rw [u2_off (fun z => hn z), rDid_o (by omega), rMap_o (by omega)]
theorem PS.step {M' : sT} {d c y : Nat} (h : PS T M M' i d) (hc : T (pl i 10) (d + 1) = nI c) (hc31 : c < 31) (hy : T 2 c = nI y) (hy4 : y < 4) (hk1 : M 1 c = T 2 c) (hn1 : M 2 c = T 3 c) : PS T M (u2 (rDo (nI c) M') 0 19 (nI (d + 1))) i (d + 1) := by
  obtain ⟨h1, h2, h3, h4, h5⟩ := h
  have e : plyL (T 2) (T 3) (T (pl i 10)) (d + 1) = plyS (T 2) (T 3) (nI c) (plyL (T 2) (T 3) (T (pl i 10)) d) := by
    rw [show plyL (T 2) (T 3) (T (pl i 10)) (d + 1) = plyS (T 2) (T 3) (T (pl i 10) (d + 1)) (plyL (T 2) (T 3) (T (pl i 10)) d) from rfl, hc]
  unfold PS
  rw [e]
  unfold plyS rDo
  rw [nI_clamp (by omega), h3 c hc31, h5 1 c (by decide) (by omega), hk1, hy, nI_clamp (by omega)]
  by_cases hh : 0 < nI c ∧ (plyL (T 2) (T 3) (T (pl i 10)) d).2.2 c = 0
  · rw [if_pos hh, if_pos hh]
    unfold rDoQ
    dsimp only
    refine ⟨u2_at, fun k hk => ?_, fun q hq => ?_, fun q hq z => ?_, fun j k hj hn => ?_⟩
    · rw [u2_off (by omega)]
      by_cases e : k = y
      · subst e
        rw [u2_at, upd_at, h5 2 c (by decide) (by omega), hn1]
      · rw [u2_off (fun z => e z.2), upd_off e, u2_off (by omega), u2_off (by omega)]
        exact h2 k hk
    · rw [u2_off (by omega), u2_off (by omega), u2_off (by omega)]
      by_cases e : q = c
      · subst e
        rw [u2_at, upd_at]
      · rw [u2_off (fun z => e z.2), upd_off e]
        exact h3 q hq
    · rw [u2_off (by omega), u2_off (by omega)]
      by_cases e : q = c
      · subst e
        rw [u2_at, upd_at]
        exact h2 y hy4
      · rw [u2_off (fun z => e z.2), upd_off e, u2_off (by omega)]
        rw [upd_off e] at z
        exact h4 q hq z
    · rw [u2_off (fun z => hn z), u2_off (by omega), u2_off (by omega), u2_off (by omega)]
      exact h5 j k hj hn
  · rw [if_neg hh, if_neg hh]
    refine ⟨u2_at, fun k hk => ?_, fun q hq => ?_, fun q hq z => ?_, fun j k hj hn => ?_⟩
    · rw [u2_off (by omega)]; exact h2 k hk
    · rw [u2_off (by omega)]; exact h3 q hq
    · rw [u2_off (by omega)]; exact h4 q hq z
    · rw [u2_off (fun z => hn z)]; exact h5 j k hj hn
theorem KI.play0 (h : KI N F U mx cnt T M) (hi : i < N) : ∃ D, D ≤ 8 ∧ T (pl i 9) 5 = nI D ∧ PS T M (rPlay i M) i D ∧ (∀ k, k < 4 → T (pl i 11) k = (plyL (T 2) (T 3) (T (pl i 10)) D).1 k) ∧ (∀ q, q < 31 → T (pl i 12) q = (plyL (T 2) (T 3) (T (pl i 10)) D).2.1 q) ∧ ∀ q, q < 31 → T (pl i 13) q = (plyL (T 2) (T 3) (T (pl i 10)) D).2.2 q := by
  obtain ⟨D, d1, d2, d3, d4, d5, d6, d7⟩ := (h.nk hi).2.2.2.2.2.2.1
  refine ⟨D, d1, d2, ?_, d5, d6, d7⟩
  have a9 := (h.rn hi).2.2.2.2.2.2.2.2.1
  have hcm := (h.nk hi).2.2.2.2.2.1
  have hcnt := h.2.2.2.1.1
  have go : ∀ m d (M' : sT), d + m = 8 → d ≤ D → PS T M M' i d → PS T M (rPlayL i m d M') i D := by
    intro m
    induction m with
    | zero =>
      intro d M' h1 h2 h3
      rw [show D = d by omega]
      exact h3
    | succ m ih =>
      intro d M' h1 h2 h3
      have e15 : M' 15 (d + 8 * i) = T (pl i 10) (d + 1) := by
        rw [h3.2.2.2.2 15 _ (by decide) (by omega), show d + 8 * i = 8 * i + d by omega]
        exact a9 d (by omega)
      by_cases hd : d = D
      · rw [show rPlayL i (m + 1) d M' = M' from if_pos (by rw [e15, hd, d4 (by omega)]; decide), ← hd]
        exact h3
      · have hne : ¬ T (pl i 10) (d + 1) = (-1) := d3 (d + 1) (by omega) (by omega)
        obtain ⟨c, c1, c2⟩ := (hcm (d + 1) (by omega) (by omega)).resolve_left hne
        obtain ⟨y, y1, y2⟩ := h.2.2.2.1.2.2 c c1
        obtain ⟨r1, r2, -⟩ := h.2.2.2.2.1.2.2 c (by omega)
        rw [show rPlayL i (m + 1) d M' = rPlayL i m (d + 1) (u2 (rDo (M' 15 (d + 8 * i)) M') 0 19 (nI (d + 1))) from if_neg (by rw [e15, c2]; exact nI_pos (by omega)), e15, c2]
        exact ih (d + 1) _ (by omega) (by omega) (h3.step c2 (by omega) y2 y1 r1 r2)
  exact go 8 0 _ rfl (Nat.zero_le _) PS.start
theorem KI.scr {M' : sT} (h : KI N F U mx cnt T M) (he : ∀ j k, j < 18 → ¬ (j = 0 ∧ k = 19) → M' j k = M j k) : KI N F U mx cnt T M' := by
  obtain ⟨a, b, c, d, e, f⟩ := h
  refine ⟨a, b, c, d, ?_, fun i hi => ⟨(f i hi).1, ?_⟩⟩
  · unfold RC at *
    rw [he 0 0 (by decide) (by omega), he 0 1 (by decide) (by omega)]
    refine ⟨e.1, e.2.1, fun q hq => ?_⟩
    rw [he 1 q (by decide) (by omega), he 2 q (by decide) (by omega), he 3 q (by decide) (by omega), he 4 q (by decide) (by omega)]
    exact e.2.2 q hq
  · obtain ⟨a1, a2, a3, a4, a5, a6, a7, a8, a9, a10, a11⟩ := (f i hi).2
    refine ⟨fun k hk => ?_, ?_, ?_, ?_, ?_, ?_, ?_, fun s hs => ?_, fun s hs => ?_, fun hb s hs => ?_, fun b hb s hs => ?_⟩
    · rw [he _ _ (by decide) (by omega)]; exact a1 k hk
    · rw [he _ _ (by decide) (by omega)]; exact a2
    · rw [he _ _ (by decide) (by omega)]; exact a3
    · rw [he _ _ (by decide) (by omega)]; exact a4
    · rw [he _ _ (by decide) (by omega)]; exact a5
    · rw [he _ _ (by decide) (by omega)]; exact a6
    · rw [he _ _ (by decide) (by omega)]; exact a7
    · rw [he _ _ (by decide) (by omega)]; exact a8 s hs
    · rw [he _ _ (by decide) (by omega)]; exact a9 s hs
    · rw [he _ _ (by decide) (by omega), he _ _ (by decide) (by omega), he _ _ (by decide) (by omega)]; exact a10 hb s hs
    · rw [he _ _ (by decide) (by omega)]; exact a11 b hb s hs
theorem KI.play (h : KI N F U mx cnt T M) (hi : i < N) : KI N F U mx cnt T (rPlay i M) ∧ rPlay i M 0 19 = T (pl i 9) 5 ∧ (∀ k, k < 4 → rPlay i M 18 k = T (pl i 11) k) ∧ ∀ q, q < 31 → rPlay i M 19 q = T (pl i 13) q ∧ (¬ T (pl i 13) q = 0 → rPlay i M 20 q = T (pl i 12) q) := by
  obtain ⟨D, d1, d2, ⟨p1, p2, p3, p4, p5⟩, d3, d4, d5⟩ := h.play0 hi
  refine ⟨h.scr p5, by rw [p1, d2], fun k hk => by rw [p2 k hk, d3 k hk], fun q hq => ⟨by rw [p3 q hq, d5 q hq], fun z => ?_⟩⟩
  rw [d5 q hq] at z
  rw [p4 q hq z, d4 q hq]
-- a command is learnt
theorem perf_o {p : Nat} {c : Int32} (h11 : p ≠ pl i 11) (h12 : p ≠ pl i 12) (h13 : p ≠ pl i 13) : perfS i c T p = T p := by
  unfold perfS
  split
  · unfold perfD
    rw [u2_row h13, u2_row h11, u2_row h12]
  · rfl
theorem perf_eq {c y d : Nat} (hcnt : cnt ≤ 30) (hcn : T 1 4 = nI cnt) (hc : c ≤ cnt) (hy : T 2 c = nI y) (hy4 : y < 4) (cm : Nat → Int32) (hcm : cm (d + 1) = nI c)
    (h1 : ∀ k, k < 4 → T (pl i 11) k = (plyL (T 2) (T 3) cm d).1 k) (h2 : ∀ q, q < 31 → T (pl i 12) q = (plyL (T 2) (T 3) cm d).2.1 q) (h3 : ∀ q, q < 31 → T (pl i 13) q = (plyL (T 2) (T 3) cm d).2.2 q) :
    (∀ k, k < 4 → perfS i (nI c) T (pl i 11) k = (plyL (T 2) (T 3) cm (d + 1)).1 k) ∧ (∀ q, q < 31 → perfS i (nI c) T (pl i 12) q = (plyL (T 2) (T 3) cm (d + 1)).2.1 q) ∧ ∀ q, q < 31 → perfS i (nI c) T (pl i 13) q = (plyL (T 2) (T 3) cm (d + 1)).2.2 q := by
  have e : plyL (T 2) (T 3) cm (d + 1) = plyS (T 2) (T 3) (nI c) (plyL (T 2) (T 3) cm d) := by
    rw [show plyL (T 2) (T 3) cm (d + 1) = plyS (T 2) (T 3) (cm (d + 1)) (plyL (T 2) (T 3) cm d) from rfl, hcm]
  rw [e]
  unfold perfS plyS perfD
  rw [nI_clamp (by omega), hy, nI_clamp (by omega), ← h3 c (by omega)]
  have hq : (isReq T (nI c) ∧ T (pl i 13) c = 0) ↔ (0 < nI c ∧ T (pl i 13) c = 0) := by
    constructor
    · rintro ⟨⟨r1, -⟩, z⟩
      exact ⟨(nI_ltI (a := 0) (by decide) (by omega)).mpr ((nI_leI (a := 1) (by decide) (by omega)).mp r1), z⟩
    · rintro ⟨r1, z⟩
      refine ⟨⟨(nI_leI (a := 1) (by decide) (by omega)).mpr ((nI_ltI (a := 0) (by decide) (by omega)).mp r1), ?_⟩, z⟩
      rw [hcn]
      exact (nI_leI (by omega) (by omega)).mpr hc
  by_cases hh : 0 < nI c ∧ T (pl i 13) c = 0
  · rw [if_pos (hq.mpr hh), if_pos hh]
    dsimp only
    refine ⟨fun k hk => ?_, fun q hq => ?_, fun q hq => ?_⟩
    · rw [u2_row (pln (by decide)), u2_up, u2_row (pln (by decide))]
      by_cases e : k = y
      · subst e; rw [upd_at, upd_at]
      · rw [upd_off e, upd_off e]; exact h1 k hk
    · rw [u2_row (pln (by decide)), u2_row (pln (by decide)), u2_up]
      by_cases e : q = c
      · subst e; rw [upd_at, upd_at]; exact h1 y hy4
      · rw [upd_off e, upd_off e]; exact h2 q hq
    · rw [u2_up, u2_row (pln (by decide)), u2_row (pln (by decide))]
      by_cases e : q = c
      · subst e; rw [upd_at, upd_at]
      · rw [upd_off e, upd_off e]; exact h3 q hq
  · rw [if_neg (fun z => hh (hq.mp z)), if_neg hh]
    exact ⟨h1, h2, h3⟩
theorem dwL_lg (hcl : CLk cnt T) {cm : Nat → Int32} (hcm : nkCm cnt cm) : ∀ m d (T' : sT), d + m = 8 → T' 1 4 = T 1 4 → T' 2 = T 2 → T' 3 = T 3 → T' (pl i 10) = cm → T' (pl i 9) 5 = nI d → (∀ s, 1 ≤ s → s ≤ d → ¬ cm s = (-1)) →
    (∀ k, k < 4 → T' (pl i 11) k = (plyL (T 2) (T 3) cm d).1 k) → (∀ q, q < 31 → T' (pl i 12) q = (plyL (T 2) (T 3) cm d).2.1 q) → (∀ q, q < 31 → T' (pl i 13) q = (plyL (T 2) (T 3) cm d).2.2 q) →
    nkLg (T 2) (T 3) (dwL i m d T' (pl i 9)) cm (dwL i m d T' (pl i 11)) (dwL i m d T' (pl i 12)) (dwL i m d T' (pl i 13)) ∧ ∀ p, p ≠ pl i 9 → p ≠ pl i 11 → p ≠ pl i 12 → p ≠ pl i 13 → dwL i m d T' p = T' p := by
  intro m
  induction m with
  | zero =>
    intro d T' h1 h2 h3 h4 h5 h6 h7 h8 h9 h10
    exact ⟨⟨d, by omega, h6, h7, fun z => absurd z (by omega), h8, h9, h10⟩, fun p _ _ _ _ => rfl⟩
  | succ m ih =>
    intro d T' h1 h2 h3 h4 h5 h6 h7 h8 h9 h10
    by_cases hd : cm (d + 1) = (-1)
    · rw [show dwL i (m + 1) d T' = T' from if_pos (by rw [h5]; exact hd)]
      exact ⟨⟨d, by omega, h6, h7, fun _ => hd, h8, h9, h10⟩, fun p _ _ _ _ => rfl⟩
    · obtain ⟨c, c1, c2⟩ := (hcm (d + 1) (by omega) (by omega)).resolve_left hd
      rw [show dwL i (m + 1) d T' = dwL i m (d + 1) (u2 (perfS i (T' (pl i 10) (d + 1)) T') (pl i 9) 5 (nI (d + 1))) from if_neg (by rw [h5]; exact hd), h5, c2]
      obtain ⟨y, y1, y2⟩ := hcl.2.2 c c1
      obtain ⟨q1, q2, q3⟩ := perf_eq (i := i) (T := T') (cnt := cnt) (d := d) hcl.1 (by rw [h2]; exact hcl.2.1) c1 (by rw [h3]; exact y2) y1 cm c2 (by rw [h3, h4]; exact h8) (by rw [h3, h4]; exact h9) (by rw [h3, h4]; exact h10)
      rw [h3, h4] at q1 q2 q3
      have po : ∀ p, p ≠ pl i 9 → p ≠ pl i 11 → p ≠ pl i 12 → p ≠ pl i 13 → u2 (perfS i (nI c) T') (pl i 9) 5 (nI (d + 1)) p = T' p := fun p p1 p2 p3 p4 => by rw [u2_row p1, perf_o p2 p3 p4]
      obtain ⟨g1, g2⟩ := ih (d + 1) (u2 (perfS i (nI c) T') (pl i 9) 5 (nI (d + 1))) (by omega)
        (by rw [po 1 (by unfold pl; omega) (by unfold pl; omega) (by unfold pl; omega) (by unfold pl; omega)]; exact h2)
        (by rw [po 2 (by unfold pl; omega) (by unfold pl; omega) (by unfold pl; omega) (by unfold pl; omega)]; exact h3)
        (by rw [po 3 (by unfold pl; omega) (by unfold pl; omega) (by unfold pl; omega) (by unfold pl; omega)]; exact h4)
        (by rw [po _ (pln (by decide)) (pln (by decide)) (pln (by decide)) (pln (by decide))]; exact h5)
        u2_at
        (fun s s1 s2 => by
          by_cases e : s = d + 1
          · rw [e]; exact hd
          · exact h7 s s1 (by omega))
        (by rw [u2_row (pln (by decide))]; exact q1) (by rw [u2_row (pln (by decide))]; exact q2) (by rw [u2_row (pln (by decide))]; exact q3)
      exact ⟨g1, fun p p1 p2 p3 p4 => by rw [g2 p p1 p2 p3 p4, po p p1 p2 p3 p4]⟩
theorem KI.learn {s c : Nat} (h : KI N F U mx cnt T M) (hi : i < N) (hs : s < 8) (hc : c ≤ cnt) (hup : ¬ T (pl i 0) 5 = 0) (hm : T (pl i 10) (s + 1) = (-1)) : KI N F U mx cnt (learnS i (s + 1) (nI c) T) (u2 M 15 (8 * i + s) (nI c)) := by
  obtain ⟨b1, b2, b3, b4, b5, b6, ⟨D, d1, d2, d3, d4, d5, d6, d7⟩, b8⟩ := h.nk hi
  have hcl := h.2.2.2.1
  have hN := h.1.2
  have hcnt := hcl.1
  have hsD : D < s + 1 := by
    apply Classical.byContradiction
    intro z
    exact d3 (s + 1) (by omega) (by omega) hm
  have hcm : nkCm cnt (upd (T (pl i 10)) (s + 1) (nI c)) := by
    intro t h1 h2
    by_cases e : t = s + 1
    · subst e; rw [upd_at]; exact Or.inr ⟨c, hc, rfl⟩
    · rw [upd_off e]; exact b6 t h1 h2
  have hpl : plyL (T 2) (T 3) (upd (T (pl i 10)) (s + 1) (nI c)) D = plyL (T 2) (T 3) (T (pl i 10)) D := plyL_cg D (fun t h1 h2 => upd_off (by omega))
  unfold learnS
  rw [if_pos hm]
  unfold dwS
  have e95 : u2 T (pl i 10) (s + 1) (nI c) (pl i 9) 5 = nI D := by rw [u2_row (pln (by decide))]; exact d2
  rw [e95, nI_clamp (by omega)]
  have e : ∀ j, j ≠ 10 → u2 T (pl i 10) (s + 1) (nI c) (pl i j) = T (pl i j) := fun j hj => u2_row (pln hj)
  have cc : ∀ p, p < 7 → u2 T (pl i 10) (s + 1) (nI c) p = T p := fun p hp => u2_row (by unfold pl; omega)
  obtain ⟨g1, g2⟩ := dwL_lg (i := i) hcl hcm (8 - D) D (u2 T (pl i 10) (s + 1) (nI c)) (by omega) (by rw [cc 1 (by decide)]) (cc 2 (by decide)) (cc 3 (by decide)) u2_up e95
    (fun t h1 h2 => by rw [upd_off (by omega)]; exact d3 t h1 h2) (by rw [e 11 (by decide), hpl]; exact d5) (by rw [e 12 (by decide), hpl]; exact d6) (by rw [e 13 (by decide), hpl]; exact d7)
  have gj : ∀ j, j ≠ 9 → j ≠ 11 → j ≠ 12 → j ≠ 13 → j ≠ 10 → dwL i (8 - D) D (u2 T (pl i 10) (s + 1) (nI c)) (pl i j) = T (pl i j) := fun j j1 j2 j3 j4 j5 => by rw [g2 _ (pln j1) (pln j2) (pln j3) (pln j4), e j j5]
  have g10 : dwL i (8 - D) D (u2 T (pl i 10) (s + 1) (nI c)) (pl i 10) = upd (T (pl i 10)) (s + 1) (nI c) := by rw [g2 _ (pln (by decide)) (pln (by decide)) (pln (by decide)) (pln (by decide)), u2_up]
  have gp : ∀ p, p < 7 → dwL i (8 - D) D (u2 T (pl i 10) (s + 1) (nI c)) p = T p := fun p hp => by rw [g2 _ (by unfold pl; omega) (by unfold pl; omega) (by unfold pl; omega) (by unfold pl; omega), cc p hp]
  refine h.step hi (fun p hp => ?_) (EfM.rf.u (by unfold ownM; omega)) ?_ ?_
  · have hh : ∀ j, j < 14 → p ≠ pl i j := by
      intro j hj
      rcases hp with hp | ⟨a, j', h1, h2, h3, rfl⟩ | ⟨j', rfl⟩
      · unfold pl; omega
      · exact pl_ne h3 hj (fun z => h2 z.1)
      · unfold rp pl; omega
    rw [g2 p (hh 9 (by decide)) (hh 11 (by decide)) (hh 12 (by decide)) (hh 13 (by decide)), u2_row (hh 10 (by decide))]
  · unfold NK
    rw [gj 0 (by decide) (by decide) (by decide) (by decide) (by decide), gj 2 (by decide) (by decide) (by decide) (by decide) (by decide), gj 3 (by decide) (by decide) (by decide) (by decide) (by decide), gj 4 (by decide) (by decide) (by decide) (by decide) (by decide), gj 5 (by decide) (by decide) (by decide) (by decide) (by decide), gj 6 (by decide) (by decide) (by decide) (by decide) (by decide), gj 7 (by decide) (by decide) (by decide) (by decide) (by decide), gj 8 (by decide) (by decide) (by decide) (by decide) (by decide), g10, gp 2 (by decide), gp 3 (by decide)]
    exact ⟨b1, b2, b3, b4, b5, hcm, g1, fun z => absurd z hup⟩
  · have hr := (h.rn hi).set (j := 10) (k := s + 1) (j' := 15) (k' := 8 * i + s) (a := 0) (s := s) (v := nI c) hN (by omega) hs (by omega)
    unfold RN at *
    rw [gj 0 (by decide) (by decide) (by decide) (by decide) (by decide), gj 2 (by decide) (by decide) (by decide) (by decide) (by decide), gj 3 (by decide) (by decide) (by decide) (by decide) (by decide), gj 4 (by decide) (by decide) (by decide) (by decide) (by decide), gj 5 (by decide) (by decide) (by decide) (by decide) (by decide), gj 6 (by decide) (by decide) (by decide) (by decide) (by decide), gj 7 (by decide) (by decide) (by decide) (by decide) (by decide), gj 8 (by decide) (by decide) (by decide) (by decide) (by decide), g10]
    rw [e 0 (by decide), e 2 (by decide), e 3 (by decide), e 4 (by decide), e 5 (by decide), e 6 (by decide), e 7 (by decide), e 8 (by decide), u2_up (S := T) (p := pl i 10)] at hr
    exact hr
end PLY
