-- vote, ask
section OPV
variable {N i n a cnt : Nat} {F : sT} {U : uT} {mx : Nat → Nat} {T T' M M' : sT}
theorem KI.plan_r {s : Nat} (h : KI N F U mx cnt T M) (hi : i < N) (hs : s < 8) : planF N i (s + 1) T = (-2) ∨ planF N i (s + 1) T = (-3) ∨ ∃ c, c ≤ cnt ∧ planF N i (s + 1) T = nI c := by
  obtain ⟨h3, h4, -⟩ := h.plr hi hs N (Nat.le_refl _)
  have hcnt := h.2.2.2.1.1
  unfold planF
  split
  · exact Or.inl rfl
  · split
    · right; right
      rw [h3]
      rcases h4 with z | ⟨b, c, z1, z2⟩
      · rename_i q
        rw [h3, z] at q
        exact absurd q (by decide)
      · obtain ⟨q1, q2, q3, -⟩ := h.2.2.1.2 _ _ _ z1
        exact ⟨c, q3, by rw [z2]; exact w_rem q2 (by omega)⟩
    · exact Or.inr (Or.inl rfl)
theorem fix_o {p s : Nat} (h : p ≠ pl n 6) : fixS N n s T p = T p := by
  unfold fixS
  split
  · rfl
  · split
    · rfl
    · rw [u2_row h]
theorem KI.fxd {s b : Nat} (h : KI N F U mx cnt T M) (hn : n < N) (hs : s < 8) (hb : T (pl n 4) 5 = nI b) (hb6 : b ≤ 60000) (hb0 : b ≠ 0) :
    (¬ fixOk N n (s + 1) T ∧ rVp N n s M = (-2)) ∨ (fixOk N n (s + 1) T ∧ ¬ rVp N n s M = (-2) ∧ ∃ U' c, KI N F U' mx cnt (fixS N n (s + 1) T) (rVf n s (rVp N n s M) M) ∧ fixS N n (s + 1) T (pl n 6) (s + 1) = nI c ∧ U' b (s + 1) c ∧ rVf n s (rVp N n s M) M 14 (8 * n + s) = nI c) := by
  have hcnt := h.2.2.2.1.1
  have hb5 : ¬ T (pl n 4) 5 = 0 := by
    rw [hb]
    exact fun z => hb0 ((nI_eq (b := 0) (by omega) (by decide)).mp z)
  obtain ⟨e13, e14, e16⟩ := (h.rn hn).2.2.2.2.2.2.2.2.2.1 hb5 s hs
  obtain ⟨-, -, -, -, ⟨-, b', w, d1, d2, d3, d4, d5, d6⟩, -⟩ := h.nk hn
  have hbb : b' = b := (nI_eq (by omega) (by omega)).mp (d1.symm.trans hb)
  subst hbb
  obtain ⟨⟨q, q1, q2⟩, x2, -⟩ := (d6 hb0).2.2.2 (s + 1) (by omega) (by omega)
  have hpl := h.plan hn hs
  unfold rVp rVf fixOk
  rw [e14, e13, hpl]
  rcases x2 with ⟨y1, y2⟩ | ⟨c, y1, y2⟩
  · -- nothing is fixed yet
    rw [y1, if_pos (by decide)]
    rcases h.plan_r hn hs with z | z | ⟨c, z1, z2⟩
    · exact Or.inl ⟨fun g => g.elim (fun g => g rfl) (fun g => g z), z⟩
    · right
      refine ⟨Or.inr (by rw [z]; decide), by rw [z]; decide, ?_⟩
      rw [if_pos z, q2]
      have k := h.fix hn hs hb hb6 hb0 y1 q1
      have e : fixS N n (s + 1) T = u2 T (pl n 6) (s + 1) (nI q) := by
        unfold fixS
        rw [if_neg (fun g => g y1), if_neg (by rw [z]; decide), if_pos z, q2]
      rw [e]
      exact ⟨_, q, k, u2_at, Or.inr ⟨rfl, rfl, rfl⟩, u2_at⟩
    · right
      have g2 : ¬ nI c = (-2) := by
        intro g
        have g := congrArg Int32.toInt g
        rw [i_nI (by omega)] at g
        have ep : (-2 : Int32).toInt = -2 := by decide
        omega
      have g3 : ¬ nI c = (-3) := by
        intro g
        have g := congrArg Int32.toInt g
        rw [i_nI (by omega)] at g
        have ep : (-3 : Int32).toInt = -3 := by decide
        omega
      refine ⟨Or.inr (by rw [z2]; exact g2), by rw [z2]; exact g2, ?_⟩
      rw [z2, if_neg g3]
      have k := h.fix hn hs hb hb6 hb0 y1 z1
      have e : fixS N n (s + 1) T = u2 T (pl n 6) (s + 1) (nI c) := by
        unfold fixS
        rw [if_neg (fun g => g y1), z2, if_neg g2, if_neg g3]
      rw [e]
      exact ⟨_, c, k, u2_at, Or.inr ⟨rfl, rfl, rfl⟩, u2_at⟩
  · right
    have hc := (h.2.2.1.2 _ _ _ y2).2.2.1
    have g1 := nI_m1 (a := c) (by omega)
    have g0 : ¬ nI c < 0 := nI_pos (by omega)
    have g2 : ¬ nI c = (-2) := fun g => g0 (by rw [g]; decide)
    have g3 : ¬ nI c = (-3) := fun g => g0 (by rw [g]; decide)
    rw [y1, if_neg g0]
    refine ⟨Or.inl g1, g2, ?_⟩
    rw [if_neg g3]
    have e : fixS N n (s + 1) T = T := by
      unfold fixS
      rw [if_pos (by rw [y1]; exact g1)]
    rw [e, u2_self (by rw [e14, y1])]
    exact ⟨U, c, h, y1, y2, by rw [e14, y1]⟩
-- the vote behind the promise
theorem KI.v2 {s b c : Nat} (h : KI N F U mx cnt T M) (hn : n < N) (ha : a < N) (hs : s < 8) (hup : ¬ T (pl a 0) 5 = 0) (hun : ¬ T (pl n 0) 5 = 0) (hb : ¬ T (pl n 4) 5 = 0) (hu : U b (s + 1) c) :
    rV2R n a s (nI c) (nI b) M = (if wvOk a (s + 1) (nI c) (nI b) T then (if majF n (addVS n (s + 1) a (wvS a (s + 1) (nI c) (nI b) T)) (bcF (addVS n (s + 1) a (wvS a (s + 1) (nI c) (nI b) T) (pl n 7) (s + 1))) then (if addVS n (s + 1) a (wvS a (s + 1) (nI c) (nI b) T) (pl n 10) (s + 1) = (-1) then 2 else 1) else 1) else (-4)) ∧
    KE N F (if wvOk a (s + 1) (nI c) (nI b) T then (if majF n (addVS n (s + 1) a (wvS a (s + 1) (nI c) (nI b) T)) (bcF (addVS n (s + 1) a (wvS a (s + 1) (nI c) (nI b) T) (pl n 7) (s + 1))) then learnS n (s + 1) (nI c) (addVS n (s + 1) a (wvS a (s + 1) (nI c) (nI b) T)) else addVS n (s + 1) a (wvS a (s + 1) (nI c) (nI b) T)) else wvS a (s + 1) (nI c) (nI b) T) (rV2S n a s (nI c) (nI b) M) := by
  have hcnt := h.2.2.2.1.1
  have hN := h.1.2
  have hc := (h.2.2.1.2 _ _ _ hu).2.2.1
  obtain ⟨k1, k2⟩ := h.wv ha hs hup hu
  unfold rV2R rV2S
  by_cases hw : wvOk a (s + 1) (nI c) (nI b) T
  · rw [if_pos hw, if_pos hw, if_pos (k2.mpr hw), if_pos (k2.mpr hw)]
    have hb2 : ¬ wvS a (s + 1) (nI c) (nI b) T (pl n 4) 5 = 0 := by
      rw [wv_keep hw ha hn (by decide) (by decide) (by decide) (by decide)]; exact hb
    have hun2 : ¬ wvS a (s + 1) (nI c) (nI b) T (pl n 0) 5 = 0 := by
      by_cases e : n = a
      · subst e; rw [wv_ok0 hw (by decide)]; exact hun
      · rw [Eff.wv (N := N) ha _ (Or.inr (Or.inl ⟨n, 0, hn, e, by decide, rfl⟩))]; exact hun
    obtain ⟨-, -, -, -, ⟨-, b', w, d1, d2, d3, d4, d5, d6⟩, -⟩ := k1.nk hn
    have hb0 : b' ≠ 0 := fun z => hb2 (by rw [d1, z]; rfl)
    obtain ⟨-, -, v, v1, v2⟩ := (d6 hb0).2.2.2 (s + 1) (by omega) (by omega)
    obtain ⟨e13, e14, e16⟩ := (k1.rn hn).2.2.2.2.2.2.2.2.2.1 hb2 s hs
    obtain ⟨v', w1, w2⟩ := two_lt (a := a) v1 (by omega)
    have k3 := k1.u7 (v := v') hn hs w1
    have eT : addVS n (s + 1) a (wvS a (s + 1) (nI c) (nI b) T) = u2 (wvS a (s + 1) (nI c) (nI b) T) (pl n 7) (s + 1) (nI v') := by
      unfold addVS
      rw [v2, w2]
    have eM : rVa n a s (rWV a s (nI c) (nI b) M) = u2 (rWV a s (nI c) (nI b) M) 16 (8 * n + s) (nI v') := by
      unfold rVa
      rw [e16, v2, w2]
    rw [← eT, ← eM] at k3
    have m1 : addVS n (s + 1) a (wvS a (s + 1) (nI c) (nI b) T) (pl n 7) (s + 1) = nI v' := by rw [eT, u2_at]
    have m2 : rVa n a s (rWV a s (nI c) (nI b) M) 16 (8 * n + s) = nI v' := by rw [eM, u2_at]
    have m3 := (k3.rn hn).2.2.2.2.2.2.2.2.1 s hs
    have m4 := k3.maj hn w1
    have hun3 : ¬ addVS n (s + 1) a (wvS a (s + 1) (nI c) (nI b) T) (pl n 0) 5 = 0 := by
      rw [eT, u2_row (pln (by decide))]; exact hun2
    rw [m1, m2, m3]
    generalize hX : addVS n (s + 1) a (wvS a (s + 1) (nI c) (nI b) T) = X at *
    generalize hY : rVa n a s (rWV a s (nI c) (nI b) M) = Y at *
    have neg : X (pl n 10) (s + 1) < 0 ↔ X (pl n 10) (s + 1) = (-1) := by
      rcases (k3.nk hn).2.2.2.2.2.1 (s + 1) (by omega) (by omega) with z | ⟨x, z1, z2⟩
      · rw [z]; exact ⟨fun _ => rfl, fun _ => by decide⟩
      · rw [z2]
        exact ⟨fun y => absurd y (nI_pos (by omega)), fun y => absurd y (nI_m1 (by omega))⟩
    by_cases c1 : X (pl n 10) (s + 1) = (-1)
    · rw [if_pos (neg.mpr c1), if_pos (neg.mpr c1), if_pos c1]
      by_cases c2 : majF n X (bcF (nI v'))
      · rw [if_pos c2, if_pos c2, if_pos (m4.mpr c2), if_pos (m4.mpr c2)]
        exact ⟨rfl, (k3.learn hn hs hc hun3 c1).e⟩
      · rw [if_neg c2, if_neg c2, if_neg (fun z => c2 (m4.mp z)), if_neg (fun z => c2 (m4.mp z))]
        exact ⟨rfl, k3.e⟩
    · rw [if_neg (fun z => c1 (neg.mp z)), if_neg (fun z => c1 (neg.mp z)), if_neg c1]
      by_cases c2 : majF n X (bcF (nI v'))
      · rw [if_pos c2, if_pos c2]
        refine ⟨rfl, ?_⟩
        rw [show learnS n (s + 1) (nI c) X = X from if_neg c1]
        exact k3.e
      · rw [if_neg c2, if_neg c2]
        exact ⟨rfl, k3.e⟩
  · rw [if_neg hw, if_neg hw, if_neg (fun z => hw (k2.mp z)), if_neg (fun z => hw (k2.mp z))]
    exact ⟨rfl, k1.e⟩
theorem KI.vote {s : Nat} (h : KI N F U mx cnt T M) (hn : n < N) (ha : a < N) (hs : s < 8) : rVoteR N n a s M = voteR N n a (s + 1) T ∧ KE N F (voteS N n a (s + 1) T) (rVoteS N n a s M) := by
  have hN := h.1.2
  unfold rVoteR voteR rVoteS voteS
  have hh := h.has hn
  by_cases c1 : hasM n T
  · rw [if_pos c1, if_pos c1, if_pos (hh.mpr c1), if_pos (hh.mpr c1)]
    obtain ⟨b, b1, b2, b3⟩ := h.term hn
    have hb0 : b ≠ 0 := by
      intro z
      have y := (hh.mpr c1).2.1
      rw [b3, z] at y
      exact absurd y (by decide)
    have hun : ¬ T (pl n 0) 5 = 0 := by
      have y := (hh.mpr c1).1
      rw [(h.rn hn).2.1] at y
      exact y
    have e9 := (h.rn ha).2.2.2.1
    unfold hindF
    rw [b2, b3, e9]
    by_cases c2 : canF a T
    · rw [if_pos c2, if_pos ((h.can ha).mpr c2), if_pos ((h.can ha).mpr c2)]
      by_cases c3 : T (pl a 0) 7 ≤ nI b
      · rw [if_pos c3, if_pos c3, if_pos c3, if_pos rfl, if_pos rfl]
        rcases h.fxd hn hs b2 b1 hb0 with ⟨f1, f2⟩ | ⟨f1, f2, U', c, k, f3, f4, f5⟩
        · rw [if_neg f1, if_neg f1, if_pos f2, if_pos f2]
          refine ⟨rfl, ?_⟩
          have e : fixS N n (s + 1) T = T := by
            unfold fixS
            split
            · rfl
            · rename_i z1
              split
              · rfl
              · rename_i z2
                exact absurd (Or.inr z2) f1
          rw [e]
          exact h.e
        · rw [if_pos f1, if_pos f1, if_neg f2, if_neg f2, f3]
          generalize hX : fixS N n (s + 1) T = X at *
          generalize hY : rVf n s (rVp N n s M) M = Y at *
          have xo : ∀ p, p ≠ pl n 6 → X p = T p := fun p hp => by rw [← hX]; exact fix_o hp
          have x45 : X (pl n 4) 5 = nI b := by rw [xo _ (pln (by decide))]; exact b2
          have xb : ¬ X (pl n 4) 5 = 0 := by
            rw [x45]
            exact fun z => hb0 ((nI_eq (b := 0) (by omega) (by decide)).mp z)
          have xa0 : X (pl a 0) = T (pl a 0) := xo _ (by unfold pl; omega)
          have xn0 : X (pl n 0) = T (pl n 0) := xo _ (by unfold pl; omega)
          rw [x45]
          unfold rV1R rV1S
          rw [f5, (k.rn ha).2.2.2.1]
          by_cases hge : nI b ≤ X (pl a 0) 7
          · rw [if_pos hge, if_pos hge]
            have hno : ¬ X (pl a 0) 7 < nI b := Int32.not_lt.mpr hge
            have ho : rpOk a (nI b) X := fun z => absurd z hno
            rw [if_pos ho, if_pos ho, show rpS a (nI b) X = X from if_neg hno]
            exact k.v2 hn ha hs (by rw [xa0]; exact c2.1) (by rw [xn0]; exact hun) xb f4
          · rw [if_neg hge, if_neg hge]
            have hlt : X (pl a 0) 7 < nI b := Int32.not_le.mp hge
            obtain ⟨p, p1, p2, p3⟩ := h.upc ha c2
            have hpb : p < b := by
              have hl2 := hlt
              rw [xa0, p2] at hl2
              exact (nI_ltI (by omega) (by omega)).mp hl2
            obtain ⟨r1, r2⟩ := k.rpr (b := b) ha (by rw [xa0]; exact c2.1) (by omega) (by omega) hlt
            by_cases ho : rpOk a (nI b) X
            · rw [if_pos ho, if_pos ho, if_pos (r2.mpr ho), if_pos (r2.mpr ho)]
              refine r1.v2 hn ha hs ?_ ?_ ?_ f4
              · rw [rp_ok0 ho (by decide) (by decide), xa0]; exact c2.1
              · by_cases e : n = a
                · subst e; rw [rp_ok0 ho (by decide) (by decide), xn0]; exact hun
                · rw [Eff.rpr (N := N) ha _ (Or.inr (Or.inl ⟨n, 0, hn, e, by decide, rfl⟩)), xn0]; exact hun
              · rw [rp_keep ho ha hn (by decide) (by decide) (by decide)]; exact xb
            · rw [if_neg ho, if_neg ho, if_neg (fun z => ho (r2.mp z)), if_neg (fun z => ho (r2.mp z))]
              exact ⟨rfl, r1.e⟩
      · rw [if_neg c3, if_neg c3, if_neg c3, if_neg (by decide), if_neg (by decide)]
        exact ⟨rfl, h.e⟩
    · rw [if_neg c2, if_neg (fun z => c2 ((h.can ha).mp z)), if_neg (fun z => c2 ((h.can ha).mp z)), if_neg (by decide), if_neg (by decide)]
      exact ⟨rfl, h.e⟩
  · rw [if_neg c1, if_neg c1, if_neg (fun z => c1 (hh.mp z)), if_neg (fun z => c1 (hh.mp z))]
    exact ⟨rfl, h.e⟩
-- ask
theorem KI.ask {k : Nat} {v : Int32} (h : KI N F U mx cnt T M) (hk : k < 4) : rAskR cnt = askR cnt ∧ KE N F (askS cnt (nI k) v T) (rAskS cnt (nI k) v M) := by
  have hcnt := h.2.2.2.1.1
  refine ⟨rfl, ?_⟩
  unfold askS rAskS addR
  by_cases c : nI cnt = 30
  · rw [if_pos c, if_pos c]; exact h.e
  · rw [if_neg c, if_neg c]
    have hlt : cnt < 30 := by
      have : cnt ≠ 30 := fun z => c (by rw [z]; rfl)
      omega
    obtain ⟨k1, k2, ⟨k3, k3'⟩, k4, k5, k6⟩ := h
    have tp : ∀ p, p ≠ 1 → p ≠ 2 → p ≠ 3 → u2 (u2 (u2 T 1 4 (nI (cnt + 1))) 2 (cnt + 1) (nI k)) 3 (cnt + 1) v p = T p := fun p h1 h2 h3 => by rw [u2_row h3, u2_row h2, u2_row h1]
    have t2 : u2 (u2 (u2 T 1 4 (nI (cnt + 1))) 2 (cnt + 1) (nI k)) 3 (cnt + 1) v 2 = upd (T 2) (cnt + 1) (nI k) := by rw [u2_row (by decide), u2_up, u2_row (by decide)]
    have t3 : u2 (u2 (u2 T 1 4 (nI (cnt + 1))) 2 (cnt + 1) (nI k)) 3 (cnt + 1) v 3 = upd (T 3) (cnt + 1) v := by rw [u2_up, u2_row (by decide), u2_row (by decide)]
    have mp : ∀ x y, x ≠ 1 → x ≠ 2 → ¬ (x = 0 ∧ y = 1) → u2 (u2 (u2 M 0 1 (nI (cnt + 1))) 1 (cnt + 1) (nI k)) 2 (cnt + 1) v x y = M x y := fun x y h1 h2 h3 => by rw [u2_off (fun z => h2 z.1), u2_off (fun z => h1 z.1), u2_off h3]
    have pp : ∀ x j, pl x j ≠ 1 ∧ pl x j ≠ 2 ∧ pl x j ≠ 3 := fun x j => by unfold pl; omega
    refine ⟨U, mx, cnt + 1, k1, fun j => ?_, ⟨k3, fun b s c hc => ?_⟩, ⟨by omega, ?_, fun q hq => ?_⟩, ⟨?_, ?_, fun q hq => ⟨?_, ?_, ?_, ?_⟩⟩, fun x hx => ⟨?_, ?_⟩⟩
    · rw [tp _ (by unfold rp; omega) (by unfold rp; omega) (by unfold rp; omega)]; exact k2 j
    · obtain ⟨q1, q2, q3, q4⟩ := k3' b s c hc
      exact ⟨q1, q2, by omega, q4⟩
    · rw [u2_row (by decide), u2_row (by decide), u2_at]
    · rw [t2]
      by_cases e : q = cnt + 1
      · subst e; rw [upd_at]; exact ⟨k, hk, rfl⟩
      · rw [upd_off e]; exact k4.2.2 q (by omega)
    · rw [mp _ _ (by decide) (by decide) (by decide)]; exact k5.1
    · rw [u2_row (by decide), u2_row (by decide), u2_at, u2_off (by omega), u2_off (by omega), u2_at]
    · rw [t2, u2_off (by omega)]
      by_cases e : q = cnt + 1
      · subst e; rw [upd_at, u2_at]
      · rw [upd_off e, u2_off (fun z => e z.2), u2_off (by omega)]; exact (k5.2.2 q hq).1
    · rw [t3]
      by_cases e : q = cnt + 1
      · subst e; rw [upd_at, u2_at]
      · rw [upd_off e, u2_off (fun z => e z.2), u2_off (by omega), u2_off (by omega)]; exact (k5.2.2 q hq).2.1
    · rw [mp _ _ (by decide) (by decide) (by omega), tp _ (by decide) (by decide) (by decide)]; exact (k5.2.2 q hq).2.2.1
    · rw [mp _ _ (by decide) (by decide) (by omega), tp _ (by decide) (by decide) (by decide)]; exact (k5.2.2 q hq).2.2.2
    · have e : ∀ j, u2 (u2 (u2 T 1 4 (nI (cnt + 1))) 2 (cnt + 1) (nI k)) 3 (cnt + 1) v (pl x j) = T (pl x j) := fun j => tp _ (pp x j).1 (pp x j).2.1 (pp x j).2.2
      obtain ⟨b1, b2, b3, b4, ⟨d0, b, w, d1, d2, d3, d4, d5, d6⟩, b6, ⟨D, g1, g2, g3, g4, g5, g6, g7⟩, b8⟩ := (k6 x hx).1
      have hpl : plyL (upd (T 2) (cnt + 1) (nI k)) (upd (T 3) (cnt + 1) v) (T (pl x 10)) D = plyL (T 2) (T 3) (T (pl x 10)) D := plyL_ck hcnt (fun q q1 q2 => ⟨upd_off (by omega), upd_off (by omega)⟩) D g1 b6
      unfold NK
      rw [e 0, e 2, e 3, e 4, e 5, e 6, e 7, e 8, e 9, e 10, e 11, e 12, e 13, t2, t3]
      refine ⟨b1, b2, b3, b4, ⟨d0, b, w, d1, d2, d3, d4, d5, fun z => ⟨(d6 z).1, (d6 z).2.1, (d6 z).2.2.1, fun t h1 h2 => ?_⟩⟩, fun t h1 h2 => ?_, ⟨D, g1, g2, g3, g4, by rw [hpl]; exact g5, by rw [hpl]; exact g6, by rw [hpl]; exact g7⟩, b8⟩
      · obtain ⟨⟨q, q1, q2⟩, x2, x3⟩ := (d6 z).2.2.2 t h1 h2
        exact ⟨⟨q, by omega, q2⟩, x2, x3⟩
      · rcases b6 t h1 h2 with z | ⟨c, z1, z2⟩
        · exact Or.inl z
        · exact Or.inr ⟨c, by omega, z2⟩
    · have e : ∀ j, u2 (u2 (u2 T 1 4 (nI (cnt + 1))) 2 (cnt + 1) (nI k)) 3 (cnt + 1) v (pl x j) = T (pl x j) := fun j => tp _ (pp x j).1 (pp x j).2.1 (pp x j).2.2
      obtain ⟨a1, a2, a3, a4, a5, a6, a7, a8, a9, a10, a11⟩ := (k6 x hx).2
      unfold RN
      rw [e 0, e 2, e 3, e 4, e 5, e 6, e 7, e 8, e 10]
      refine ⟨fun k hk => ?_, ?_, ?_, ?_, ?_, ?_, ?_, fun s hs => ?_, fun s hs => ?_, fun hb s hs => ?_, fun b hb s hs => ?_⟩
      · rw [mp _ _ (by decide) (by decide) (by omega)]; exact a1 k hk
      · rw [mp _ _ (by decide) (by decide) (by omega)]; exact a2
      · rw [mp _ _ (by decide) (by decide) (by omega)]; exact a3
      · rw [mp _ _ (by decide) (by decide) (by omega)]; exact a4
      · rw [mp _ _ (by decide) (by decide) (by omega)]; exact a5
      · rw [mp _ _ (by decide) (by decide) (by omega)]; exact a6
      · rw [mp _ _ (by decide) (by decide) (by omega)]; exact a7
      · rw [mp _ _ (by decide) (by decide) (by omega)]; exact a8 s hs
      · rw [mp _ _ (by decide) (by decide) (by omega)]; exact a9 s hs
      · rw [mp _ _ (by decide) (by decide) (by omega), mp _ _ (by decide) (by decide) (by omega), mp _ _ (by decide) (by decide) (by omega)]; exact a10 hb s hs
      · rw [mp _ _ (by decide) (by decide) (by omega)]; exact a11 b hb s hs
end OPV
