-- the other calls
section OPT
variable {N i n a cnt : Nat} {F : sT} {U : uT} {mx : Nat → Nat} {T T' M M' : sT}
-- what the clients heard
theorem KI.glob (h : KI N F U mx cnt T M) (hT : ∀ p, p ≠ 4 → p ≠ 5 → T' p = T p) (hM : ∀ j k, j ≠ 3 → j ≠ 4 → M' j k = M j k) (hq : ∀ q, q < 31 → M' 3 q = T' 4 q ∧ M' 4 q = T' 5 q) : KI N F U mx cnt T' M' := by
  obtain ⟨k1, k2, k3, k4, k5, k6⟩ := h
  refine ⟨k1, fun j => ?_, k3, ?_, ?_, fun x hx => ⟨?_, ?_⟩⟩
  · rw [hT _ (by unfold rp; omega) (by unfold rp; omega)]; exact k2 j
  · unfold CLk at *
    rw [hT 1 (by decide) (by decide), hT 2 (by decide) (by decide)]
    exact k4
  · unfold RC at *
    rw [hM 0 0 (by decide) (by decide), hM 0 1 (by decide) (by decide), hT 1 (by decide) (by decide), hT 2 (by decide) (by decide), hT 3 (by decide) (by decide)]
    refine ⟨k5.1, k5.2.1, fun q hq' => ?_⟩
    rw [hM 1 q (by decide) (by decide), hM 2 q (by decide) (by decide)]
    exact ⟨(k5.2.2 q hq').1, (k5.2.2 q hq').2.1, hq q hq'⟩
  · have e : ∀ j, T' (pl x j) = T (pl x j) := fun j => hT _ (by unfold pl; omega) (by unfold pl; omega)
    have hh := (k6 x hx).1
    unfold NK at *
    rw [e 0, e 2, e 3, e 4, e 5, e 6, e 7, e 8, e 9, e 10, e 11, e 12, e 13, hT 2 (by decide) (by decide), hT 3 (by decide) (by decide)]
    exact hh
  · have e : ∀ j, T' (pl x j) = T (pl x j) := fun j => hT _ (by unfold pl; omega) (by unfold pl; omega)
    obtain ⟨a1, a2, a3, a4, a5, a6, a7, a8, a9, a10, a11⟩ := (k6 x hx).2
    unfold RN
    rw [e 0, e 2, e 3, e 4, e 5, e 6, e 7, e 8, e 10]
    refine ⟨fun k hk => ?_, ?_, ?_, ?_, ?_, ?_, ?_, fun s hs => ?_, fun s hs => ?_, fun hb s hs => ?_, fun b hb s hs => ?_⟩
    · rw [hM _ _ (by decide) (by decide)]; exact a1 k hk
    · rw [hM _ _ (by decide) (by decide)]; exact a2
    · rw [hM _ _ (by decide) (by decide)]; exact a3
    · rw [hM _ _ (by decide) (by decide)]; exact a4
    · rw [hM _ _ (by decide) (by decide)]; exact a5
    · rw [hM _ _ (by decide) (by decide)]; exact a6
    · rw [hM _ _ (by decide) (by decide)]; exact a7
    · rw [hM _ _ (by decide) (by decide)]; exact a8 s hs
    · rw [hM _ _ (by decide) (by decide)]; exact a9 s hs
    · rw [hM _ _ (by decide) (by decide), hM _ _ (by decide) (by decide), hM _ _ (by decide) (by decide)]; exact a10 hb s hs
    · rw [hM _ _ (by decide) (by decide)]; exact a11 b hb s hs
theorem KI.hear {q : Nat} (h : KI N F U mx cnt T M) {v : Int32} (hq : q < 31) (hv : M 20 q = v) : KI N F U mx cnt (hearS T q v) (rHear q M) := by
  obtain ⟨-, -, r⟩ := h.2.2.2.2.1
  unfold hearS rHear
  rw [hv]
  refine h.glob (fun p h4 h5 => by rw [u2_row h5, u2_row h4]) (fun j k h3 h4 => by rw [u2_off (fun z => h4 z.1), u2_off (fun z => h3 z.1)]) (fun x hx => ⟨?_, ?_⟩)
  · rw [u2_row (S := u2 M 3 q v) (show 3 ≠ 4 by decide), u2_row (S := u2 T 4 q v) (show 4 ≠ 5 by decide)]
    by_cases e : x = q
    · subst e; rw [u2_at, u2_at]
    · rw [u2_off (fun z => e z.2), u2_off (fun z => e z.2)]; exact (r x hx).2.2.1
  · by_cases e : x = q
    · subst e
      rw [u2_at, u2_at, u2_off (by omega), u2_off (by omega), (r x hx).2.2.2]
    · rw [u2_off (fun z => e z.2), u2_off (fun z => e z.2), u2_off (by omega), u2_off (by omega)]; exact (r x hx).2.2.2
-- route
theorem KI.asg (h : KI N F U mx cnt T M) (hi : i < N) (hb : ¬ T (pl i 4) 5 = 0) (q : Int32) : ∀ m k, k + m ≤ 8 → rAsg i M q m k = asgL i T q m k
  | 0, _, _ => rfl
  | m + 1, k, hk => by
    have e := ((h.rn hi).2.2.2.2.2.2.2.2.2.1 hb k (by omega)).1
    rw [show rAsg i M q (m + 1) k = (if M 13 (k + 8 * i) = q then k + 1 else rAsg i M q m (k + 1)) from rfl, show asgL i T q (m + 1) k = (if T (pl i 5) (k + 1) = q then k + 1 else asgL i T q m (k + 1)) from rfl, show k + 8 * i = 8 * i + k by omega, e, h.asg hi hb q m (k + 1) (by omega)]
theorem KI.used {s : Nat} (h : KI N F U mx cnt T M) (hi : i < N) (hs : s < 8) (hb : ¬ T (pl i 4) 5 = 0) : rUsed N i s M ↔ ¬ unusedF N i (s + 1) T := by
  obtain ⟨e1, e2, -⟩ := (h.rn hi).2.2.2.2.2.2.2.2.2.1 hb s hs
  have hcnt := h.2.2.2.1.1
  obtain ⟨-, -, -, -, ⟨-, b, w, d1, d2, d3, d4, d5, d6⟩, -⟩ := h.nk hi
  have hb0 : b ≠ 0 := fun z => hb (by rw [d1, z]; rfl)
  obtain ⟨⟨q, q1, q2⟩, x2, -⟩ := (d6 hb0).2.2.2 (s + 1) (by omega) (by omega)
  unfold rUsed unusedF
  rw [h.plan hi hs, e1, e2]
  refine not_congr ⟨fun z => ⟨?_, ?_, z.1⟩, fun z => ⟨z.2.2, ?_, ?_⟩⟩
  · rw [q2] at z ⊢
    have : ¬ 0 < q := fun y => z.2.1 ((nI_ltI (a := 0) (by decide) (by omega)).mpr y)
    rw [show q = 0 by omega]; rfl
  · rcases x2 with ⟨y, -⟩ | ⟨c, y1, y2⟩
    · exact y
    · exfalso
      have := (h.2.2.1.2 _ _ _ y2).2.2.1
      rw [y1] at z
      exact nI_pos (by omega) z.2.2
  · rw [z.1]; decide
  · rw [z.2.1]; decide
theorem KI.low (h : KI N F U mx cnt T M) (hi : i < N) (hb : ¬ T (pl i 4) 5 = 0) : ∀ k r, k ≤ 8 → lowL N i T k r = if rLast N i M k = k then r else rLast N i M k + 1
  | 0, r, _ => rfl
  | k + 1, r, hk => by
    have hl := rLast_le N i M k
    have hu := h.used hi (s := k) (by omega) hb
    rw [show lowL N i T (k + 1) r = (if unusedF N i (k + 1) T then lowL N i T k (k + 1) else r) from rfl, show rLast N i M (k + 1) = (if rUsed N i k M then k + 1 else rLast N i M k) from rfl]
    by_cases hh : unusedF N i (k + 1) T
    · rw [if_pos hh, if_neg (fun z => hu.mp z hh), h.low hi hb k (k + 1) (by omega), if_neg (by omega : ¬ rLast N i M k = k + 1)]
      split
      · rename_i z; rw [z]
      · rfl
    · rw [if_neg hh, if_pos (hu.mpr hh), if_pos rfl]
theorem KI.done0 (h : KI N F U mx cnt T M) (hi : i < N) (hu : T (pl i 0) 5 = 0) {q : Nat} (hq : q < 31) : T (pl i 13) q = 0 := by
  obtain ⟨b1, b2, b3, b4, b5, b6, ⟨D, d1, d2, d3, d4, d5, d6, d7⟩, b8⟩ := h.nk hi
  have hD : D = 0 := by
    apply Classical.byContradiction
    intro z
    exact d3 1 (by decide) (by omega) ((b8 hu).2.2.2.2.2 1 (by decide) (by decide)).2
  subst hD
  rw [d7 q hq]; rfl
theorem KI.route {q : Nat} (h : KI N F U mx cnt T M) (hi : i < N) (hq1 : 1 ≤ q) (hq : q ≤ cnt) : rRouteR N q i M = routeR N q i T ∧ KE N F (routeS N q i T) (rRouteS N q i M) := by
  have hcnt := h.2.2.2.1.1
  have hN := h.1.2
  unfold rRouteR routeR rRouteS routeS
  rw [(h.rn hi).2.1]
  by_cases hu : T (pl i 0) 5 = 0
  · have hno : ¬ hasM i T := fun z => ((h.has hi).mpr z).1 (by rw [(h.rn hi).2.1]; exact hu)
    rw [if_pos hu, if_pos hu, if_pos (h.done0 hi hu (by omega)), if_pos (h.done0 hi hu (by omega)), if_neg hno, if_neg hno]
    exact ⟨rfl, h.e⟩
  · obtain ⟨k, -, -, p⟩ := h.play hi
    rw [if_neg hu, if_neg hu, (p q (by omega)).1]
    by_cases hd : T (pl i 13) q = 0
    · rw [if_pos hd, if_pos hd, if_pos hd, if_pos hd]
      have hh := k.has hi
      by_cases hm : hasM i T
      · rw [if_pos hm, if_pos hm, if_pos (hh.mpr hm), if_pos (hh.mpr hm)]
        have hb : ¬ T (pl i 4) 5 = 0 := by
          have z := (hh.mpr hm).2.1
          rw [(k.rn hi).2.2.2.2.2.1] at z
          intro y
          rw [y] at z
          exact absurd z (by decide)
        have ha := k.asg hi hb (nI q) 8 0 (by decide)
        have hl : lowF N i T = if rLast N i (rPlay i M) 8 = 8 then 0 else rLast N i (rPlay i M) 8 + 1 := k.low hi hb 8 0 (by decide)
        have hll := rLast_le N i (rPlay i M) 8
        unfold rRtR slotForR rRtS slotForS
        rw [ha]
        by_cases h0 : asgL i T (nI q) 8 0 = 0
        · rw [if_pos h0, if_pos h0, if_pos h0, hl]
          by_cases h8 : rLast N i (rPlay i M) 8 = 8
          · rw [if_pos h8, if_pos h8, if_pos h8, if_pos (show nI 0 = (0 : Int32) from rfl), if_neg (show ¬ (asgL i T (nI q) 8 0 = 0 ∧ ¬ (0 : Nat) = 0) from fun z => z.2 rfl)]
            exact ⟨rfl, k.e⟩
          · have hz : ¬ nI (rLast N i (rPlay i M) 8 + 1) = 0 := fun z => absurd ((nI_eq (b := 0) (by omega) (by decide)).mp z) (by omega)
            rw [if_neg h8, if_neg h8, if_neg h8, if_neg hz, if_pos (show asgL i T (nI q) 8 0 = 0 ∧ ¬ rLast N i (rPlay i M) 8 + 1 = 0 from ⟨h0, by omega⟩)]
            refine ⟨rfl, ?_⟩
            rw [show rLast N i (rPlay i M) 8 + 8 * i = 8 * i + rLast N i (rPlay i M) 8 by omega]
            exact (k.u5 hi (by omega) hq).e
        · have hle : asgL i T (nI q) 8 0 ≤ 8 := by
            have g : ∀ m k, asgL i T (nI q) m k ≤ k + m := by
              intro m
              induction m with
              | zero => intro k; exact Nat.zero_le _
              | succ m ih =>
                intro k
                rw [show asgL i T (nI q) (m + 1) k = (if T (pl i 5) (k + 1) = nI q then k + 1 else asgL i T (nI q) m (k + 1)) from rfl]
                split
                · omega
                · have := ih (k + 1); omega
            exact g 8 0
          have hz : ¬ nI (asgL i T (nI q) 8 0) = 0 := fun z => h0 ((nI_eq (b := 0) (by omega) (by decide)).mp z)
          rw [if_neg h0, if_neg h0, if_neg h0, if_neg hz, if_neg (show ¬ (asgL i T (nI q) 8 0 = 0 ∧ ¬ lowF N i T = 0) from fun z => h0 z.1)]
          exact ⟨rfl, k.e⟩
      · rw [if_neg hm, if_neg hm, if_neg (fun z => hm (hh.mp z)), if_neg (fun z => hm (hh.mp z))]
        exact ⟨rfl, k.e⟩
    · rw [if_neg hd, if_neg hd, if_neg hd, if_neg hd]
      exact ⟨rfl, (k.hear (by omega) ((p q (by omega)).2 hd)).e⟩
-- crash, arm, flip, wipe
theorem KI.crash (h : KI N F U mx cnt T M) (hi : i < N) : rCrashR i M = crashR i T ∧ KE N F (crashS i T) (rCrashS i M) := by
  unfold rCrashR crashR rCrashS crashS
  rw [(h.rn hi).2.1]
  by_cases hu : T (pl i 0) 5 = 0
  · rw [if_pos hu, if_pos hu, if_pos hu]; exact ⟨rfl, h.e⟩
  · rw [if_neg hu, if_neg hu, if_neg hu]; exact ⟨rfl, (h.down hi).e⟩
theorem KI.arm_op {k : Int32} (h : KI N F U mx cnt T M) (hi : i < N) : rArmR i k M = armR i k T ∧ KE N F (armS i k T) (rArmS i k M) := by
  unfold rArmR armR rArmS armS
  rw [(h.rn hi).2.1]
  by_cases hu : T (pl i 0) 5 = 0
  · rw [if_pos hu, if_pos hu, if_pos hu]; exact ⟨rfl, h.e⟩
  · rw [if_neg hu, if_neg hu, if_neg hu]
    by_cases h1 : k < 0
    · rw [if_pos h1, if_pos h1, if_pos h1]; exact ⟨rfl, h.e⟩
    · rw [if_neg h1, if_neg h1, if_neg h1]
      by_cases h2 : k ≤ 40
      · rw [if_pos h2, if_pos h2, if_pos h2]
        obtain ⟨x, hx, rfl⟩ := nI_of h1
        have := (nI_leI (b := 40) hx (by decide)).mp h2
        exact ⟨rfl, (h.arm hi (Or.inr ⟨x, this, rfl⟩) (fun z => absurd z hu)).e⟩
      · rw [if_neg h2, if_neg h2, if_neg h2]; exact ⟨rfl, h.e⟩
theorem KI.wr {s : Nat} (h : KI N F U mx cnt T M) (hi : i < N) (hs : s < 18) : rWrF (M 5) (144 * i + 8 * s) ↔ wrongF (T (pl i 2)) (8 * s) :=
  wr_eq (fun j hj => by rw [Nat.add_assoc]; exact (h.rn hi).1 _ (by omega))
theorem xor_inj {x y : Int32} (h : x ^^^ 255 = y ^^^ 255) : x = y := by
  have h := congrArg (fun z => z ^^^ 255) h
  rwa [Int32.xor_assoc, Int32.xor_assoc, Int32.xor_self, Int32.xor_zero, Int32.xor_zero] at h
theorem flip_wrong {f : Nat → Int32} {b j : Nat} {v : Int32} (hw : ¬ wrongF f b) (hj : j < 8) (hv : ¬ v = f (b + j)) : wrongF (upd f (b + j) v) b := by
  have hw := Classical.not_not.mp hw
  obtain ⟨w0, w1, w2, w3⟩ := hw
  intro z
  obtain ⟨z0, z1, z2, z3⟩ := z
  have u : ∀ x, x ≠ j → upd f (b + j) v (b + x) = f (b + x) := fun x hx => upd_off (by omega)
  have u0 : 0 ≠ j → upd f (b + j) v b = f b := fun hx => upd_off (by omega)
  rcases (show j = 0 ∨ j = 1 ∨ j = 2 ∨ j = 3 ∨ j = 4 ∨ j = 5 ∨ j = 6 ∨ j = 7 by omega) with rfl | rfl | rfl | rfl | rfl | rfl | rfl | rfl
  · have q : upd f (b + 0) v b = v := upd_at (f := f) (k := b)
    rw [u 4 (by decide), q, w0] at z0
    exact hv (xor_inj z0.symm)
  · rw [u 5 (by decide), upd_at, w1] at z1
    exact hv (xor_inj z1.symm)
  · rw [u 6 (by decide), upd_at, w2] at z2
    exact hv (xor_inj z2.symm)
  · rw [u 7 (by decide), upd_at, w3] at z3
    exact hv (xor_inj z3.symm)
  · rw [upd_at, u0 (by decide), ← w0] at z0
    exact hv z0
  · rw [upd_at, u 1 (by decide), ← w1] at z1
    exact hv z1
  · rw [upd_at, u 2 (by decide), ← w2] at z2
    exact hv z2
  · rw [upd_at, u 3 (by decide), ← w3] at z3
    exact hv z3
theorem KI.flip {s b : Nat} (h : KI N F U mx cnt T M) (hi : i < N) (hs : s < 18) (hb : b < 64) : rFlipR i s M = flipR i s T ∧ KE N F (flipT i s b T) (rFlipS i s b M) := by
  have hw := h.wr hi hs
  unfold rFlipR flipR rFlipS flipT
  by_cases hh : wrongF (T (pl i 2)) (8 * s)
  · rw [if_pos hh, if_pos hh, if_pos (hw.mpr hh), if_pos (hw.mpr hh)]
    exact ⟨rfl, h.e⟩
  · rw [if_neg hh, if_neg hh, if_neg (fun z => hh (hw.mp z)), if_neg (fun z => hh (hw.mp z))]
    refine ⟨rfl, ?_⟩
    have a1 := (h.rn hi).1
    have hk := (h.nk hi).1
    obtain ⟨x, hx, hx2⟩ := hk.1 (8 * s + b / 8) (by omega)
    obtain ⟨f1, f2, f3⟩ := by_flip x hx (b % 8) (by omega)
    unfold flipS rFlip
    rw [show b / 8 + 144 * i + 8 * s = 144 * i + (8 * s + b / 8) by omega, show b / 8 + 8 * s = 8 * s + b / 8 by omega, a1 _ (by omega), hx2]
    refine (h.disk hi (fun p hp => u2_row hp) (fun j k hn => u2_off (by omega)) (fun k hk => ?_) ?_).e
    · by_cases e : k = 8 * s + b / 8
      · subst e; rw [u2_at, u2_at]
      · rw [u2_off (by omega), u2_off (fun z => e z.2)]; exact a1 k hk
    · rw [u2_up]
      refine hk.spoil (s := s) (fun k hk => upd_off (by omega)) (flip_wrong hh (by omega) ?_) (fun k hk' => ?_)
      · rw [hx2]; exact f3
      · by_cases e : k = 8 * s + b / 8
        · subst e; rw [upd_at]; exact ⟨_, f1, f2⟩
        · rw [upd_off e]; exact hk.1 k hk'
theorem clr_o {p q b : Nat} (h : q ≠ p) : ∀ k, clearL T p b k q = T q
  | 0 => rfl
  | k + 1 => by rw [show clearL T p b (k + 1) = u2 (clearL T p b k) p (b + k) 0 from rfl, u2_row h, clr_o h k]
theorem clr_a {p b x : Nat} : ∀ k, clearL T p b k p x = if b ≤ x ∧ x < b + k then 0 else T p x
  | 0 => by rw [if_neg (by omega)]; rfl
  | k + 1 => by
    rw [show clearL T p b (k + 1) = u2 (clearL T p b k) p (b + k) 0 from rfl]
    by_cases e : x = b + k
    · subst e; rw [u2_at, if_pos (by omega)]
    · rw [u2_off (fun z => e z.2), clr_a k]
      by_cases hh : b ≤ x ∧ x < b + k
      · rw [if_pos hh, if_pos (by omega)]
      · rw [if_neg hh, if_neg (by omega)]
theorem rClr_a {b j x : Nat} : ∀ k, rClr b M k j x = if j = 5 ∧ b ≤ x ∧ x < b + k then 0 else M j x
  | 0 => by rw [if_neg (by omega)]; rfl
  | k + 1 => by
    rw [show rClr b M (k + 1) = u2 (rClr b M k) 5 (b + k) 0 from rfl]
    by_cases e : j = 5 ∧ x = b + k
    · obtain ⟨rfl, rfl⟩ := e; rw [u2_at, if_pos (by omega)]
    · rw [u2_off e, rClr_a k]
      by_cases hh : j = 5 ∧ b ≤ x ∧ x < b + k
      · rw [if_pos hh, if_pos (by omega)]
      · rw [if_neg hh, if_neg (by omega)]
theorem KI.wipe {s : Nat} (h : KI N F U mx cnt T M) (hi : i < N) (hs : s < 18) : rFlipR i s M = flipR i s T ∧ KE N F (wipeT i s T) (rWipeS i s M) := by
  have hw := h.wr hi hs
  unfold rFlipR flipR rWipeS wipeT
  by_cases hh : wrongF (T (pl i 2)) (8 * s)
  · rw [if_pos hh, if_pos hh, if_pos (hw.mpr hh), if_pos (hw.mpr hh)]
    exact ⟨rfl, h.e⟩
  · rw [if_neg hh, if_neg hh, if_neg (fun z => hh (hw.mp z)), if_neg (fun z => hh (hw.mp z))]
    refine ⟨rfl, ?_⟩
    have a1 := (h.rn hi).1
    have hk := (h.nk hi).1
    unfold clearS
    refine (h.disk hi (fun p hp => clr_o hp 8) (fun j k hn => ?_) (fun k hk => ?_) ?_).e
    · rw [rClr_a, if_neg (by omega)]
    · rw [rClr_a, clr_a]
      by_cases e : 8 * s ≤ k ∧ k < 8 * s + 8
      · rw [if_pos (by omega), if_pos e]
      · rw [if_neg (by omega), if_neg e]; exact a1 k hk
    · refine hk.spoil (s := s) (fun k hk => ?_) (fun z => ?_) (fun k hk' => ?_)
      · rw [clr_a, if_neg hk]
      · have z0 := z.1
        rw [clr_a, clr_a, if_pos (by omega), if_pos (by omega)] at z0
        exact absurd z0 (by decide)
      · rw [clr_a]
        split
        · exact ⟨0, by decide, rfl⟩
        · exact hk.1 k hk'
end OPT
