-- single changes that both sides make
theorem by255 : ∀ x, x < 256 → (255 : Int32) - nI x = nI x ^^^ 255 := by decide +kernel
theorem by_xor : ∀ x, x < 256 → nI x ^^^ 255 = nI (255 - x) := by decide +kernel
theorem by_flip : ∀ x, x < 256 → ∀ k, k < 8 → (nI x ^^^ (1 <<< (nI k &&& 31))).toNatClampNeg < 256 ∧ nI x ^^^ (1 <<< (nI k &&& 31)) = nI (nI x ^^^ (1 <<< (nI k &&& 31))).toNatClampNeg ∧ ¬ nI x ^^^ (1 <<< (nI k &&& 31)) = nI x := by decide +kernel
theorem xor_c {a b : Int32} : a ^^^ b = 255 ↔ b = a ^^^ 255 := by
  constructor
  · intro h
    rw [← h, ← Int32.xor_assoc, Int32.xor_self, Int32.zero_xor]
  · intro h
    rw [h, ← Int32.xor_assoc, Int32.xor_self, Int32.zero_xor]
theorem wr_eq {f g : Nat → Int32} {b B : Nat} (h : ∀ j, j < 8 → g (B + j) = f (b + j)) : rWrF g B ↔ wrongF f b := by
  have h0 := h 0 (by decide)
  rw [Nat.add_zero, Nat.add_zero] at h0
  unfold rWrF wrongF
  rw [h0, h 1 (by decide), h 2 (by decide), h 3 (by decide), h 4 (by decide), h 5 (by decide), h 6 (by decide), h 7 (by decide), xor_c, xor_c, xor_c, xor_c]
theorem wrong_cg {f g : Nat → Int32} {b : Nat} (h : ∀ j, j < 8 → g (b + j) = f (b + j)) : wrongF g b ↔ wrongF f b := by
  have h0 := h 0 (by decide)
  rw [Nat.add_zero] at h0
  unfold wrongF
  rw [h0, h 1 (by decide), h 2 (by decide), h 3 (by decide), h 4 (by decide), h 5 (by decide), h 6 (by decide), h 7 (by decide)]
theorem nI_b {c : Nat} (h : c < 65536) : nI c / 256 = nI (c / 256) ∧ nI c - nI c / 256 * 256 = nI (c % 256) :=
  ⟨xn_div (b := 256) rfl rfl (by decide) (by omega) (by decide), xn_rem (b := 256) rfl rfl (by decide) (by omega) (by decide)⟩
theorem bal_of {f : Nat → Int32} {s c : Nat} (h : c < 65536) (h2 : f (8 * s + 2) = nI c / 256) (h3 : f (8 * s + 3) = nI c - nI c / 256 * 256) : balF f s = nI c := by
  unfold balF
  rw [h2, h3, (nI_b h).2, (nI_b h).1]
  rw [show (256 : Int32) = nI 256 from rfl, xn_mul rfl rfl, nI_add]
  congr 1
  omega
-- a sector's content written: what is in the disk's first half is what was written
theorem nkDk.write {U : uT} {m : Nat} {f g : Nat → Int32} {s x y c : Nat} (h : nkDk U m f) (hs : s < 18) (hx : x < 256) (hy : y < 256) (hc : c < 65536) (h01 : s < 2 → m ≤ c) (hen : ∀ s', s = 2 * s' → 1 ≤ s' → U c s' y)
    (ho : ∀ k, ¬ (8 * s ≤ k ∧ k < 8 * s + 8) → g k = f k) (h0 : g (8 * s) = nI x) (h1 : g (8 * s + 1) = nI y) (h2 : g (8 * s + 2) = nI c / 256) (h3 : g (8 * s + 3) = nI c - nI c / 256 * 256) (hb : ∀ k, k < 144 → ∃ x, x < 256 ∧ g k = nI x) : nkDk U m g := by
  have hbal : balF g s = nI c := bal_of hc h2 h3
  obtain ⟨a1, a2, a3⟩ := h
  refine ⟨hb, fun t ht1 ht2 hw => ?_, fun t ht hw => ?_⟩
  · by_cases e : s = 2 * t
    · right
      exact ⟨c, y, hen t e ht1, by rw [← e]; exact hbal, by rw [← e]; exact h1⟩
    · have hcg : ∀ j, j < 8 → g (8 * (2 * t) + j) = f (8 * (2 * t) + j) := fun j hj => ho _ (by omega)
      rw [wrong_cg hcg] at hw
      have e2 : balF g (2 * t) = balF f (2 * t) := by unfold balF; rw [hcg 2 (by decide), hcg 3 (by decide)]
      rw [e2, hcg 1 (by decide)]
      exact a2 t ht1 ht2 hw
  · by_cases e : s = t
    · subst e
      exact ⟨c, hc, hbal, h01 ht⟩
    · have hcg : ∀ j, j < 8 → g (8 * t + j) = f (8 * t + j) := fun j hj => ho _ (by omega)
      rw [wrong_cg hcg] at hw
      have e2 : balF g t = balF f t := by unfold balF; rw [hcg 2 (by decide), hcg 3 (by decide)]
      rw [e2]
      exact a3 t ht hw
theorem nkDk.spoil {U : uT} {m : Nat} {f g : Nat → Int32} {s : Nat} (h : nkDk U m f) (ho : ∀ k, ¬ (8 * s ≤ k ∧ k < 8 * s + 8) → g k = f k) (hw : wrongF g (8 * s)) (hb : ∀ k, k < 144 → ∃ x, x < 256 ∧ g k = nI x) : nkDk U m g := by
  obtain ⟨a1, a2, a3⟩ := h
  refine ⟨hb, fun t ht1 ht2 hw' => ?_, fun t ht hw' => ?_⟩
  · by_cases e : s = 2 * t
    · rw [e] at hw
      exact absurd hw hw'
    · have hcg : ∀ j, j < 8 → g (8 * (2 * t) + j) = f (8 * (2 * t) + j) := fun j hj => ho _ (by omega)
      rw [wrong_cg hcg] at hw'
      have e2 : balF g (2 * t) = balF f (2 * t) := by unfold balF; rw [hcg 2 (by decide), hcg 3 (by decide)]
      rw [e2, hcg 1 (by decide)]
      exact a2 t ht1 ht2 hw'
  · by_cases e : s = t
    · subst e
      exact absurd hw hw'
    · have hcg : ∀ j, j < 8 → g (8 * t + j) = f (8 * t + j) := fun j hj => ho _ (by omega)
      rw [wrong_cg hcg] at hw'
      have e2 : balF g t = balF f t := by unfold balF; rw [hcg 2 (by decide), hcg 3 (by decide)]
      rw [e2]
      exact a3 t ht hw'
section KIS
variable {N i cnt : Nat} {F : sT} {U : uT} {mx : Nat → Nat} {T T' M M' : sT}
theorem KI.nk (h : KI N F U mx cnt T M) (hi : i < N) : NK U mx N cnt i T := (h.2.2.2.2.2 i hi).1
theorem KI.rn (h : KI N F U mx cnt T M) (hi : i < N) : RN N i T M := (h.2.2.2.2.2 i hi).2
-- only the disk of a node changes
theorem KI.disk (h : KI N F U mx cnt T M) (hi : i < N) (hT : ∀ p, p ≠ pl i 2 → T' p = T p) (hM : ∀ j k, ¬ (j = 5 ∧ 144 * i ≤ k ∧ k < 144 * i + 144) → M' j k = M j k)
    (hr : ∀ k, k < 144 → M' 5 (144 * i + k) = T' (pl i 2) k) (hk : nkDk U (mx i) (T' (pl i 2))) : KI N F U mx cnt T' M' := by
  have e : ∀ j, j ≠ 2 → T' (pl i j) = T (pl i j) := fun j hj => hT _ (pln hj)
  have c2 : T' 2 = T 2 := hT 2 (by unfold pl; omega)
  have c3 : T' 3 = T 3 := hT 3 (by unfold pl; omega)
  refine h.step hi (fun p hp => hT p ?_) (fun j k hn => hM j k (fun z => hn (Or.inl z))) ?_ ?_
  · rcases hp with hp | ⟨a, j, h1, h2, h3, rfl⟩ | ⟨j, rfl⟩
    · unfold pl; omega
    · exact pl_ne h3 (by decide) (fun z => h2 z.1)
    · unfold rp pl; omega
  · have a := h.nk hi
    unfold NK at *
    rw [e 0 (by decide), e 3 (by decide), e 4 (by decide), e 5 (by decide), e 6 (by decide), e 7 (by decide), e 8 (by decide), e 9 (by decide), e 10 (by decide), e 11 (by decide), e 12 (by decide), e 13 (by decide), c2, c3]
    exact ⟨hk, a.2⟩
  · obtain ⟨a1, a⟩ := h.rn hi
    refine ⟨hr, ?_⟩
    rw [e 0 (by decide), e 3 (by decide), e 4 (by decide), e 5 (by decide), e 6 (by decide), e 7 (by decide), e 8 (by decide), e 10 (by decide)]
    rw [hM 6 i (by omega), hM 7 i (by omega), hM 8 i (by omega), hM 9 i (by omega), hM 10 i (by omega), hM 11 i (by omega)]
    refine ⟨a.1, a.2.1, a.2.2.1, a.2.2.2.1, a.2.2.2.2.1, a.2.2.2.2.2.1, fun s hs => ?_, fun s hs => ?_, fun hb s hs => ?_, fun b hb s hs => ?_⟩
    · rw [hM _ _ (by omega)]; exact a.2.2.2.2.2.2.1 s hs
    · rw [hM _ _ (by omega)]; exact a.2.2.2.2.2.2.2.1 s hs
    · rw [hM _ _ (by omega), hM _ _ (by omega), hM _ _ (by omega)]; exact a.2.2.2.2.2.2.2.2.1 hb s hs
    · rw [hM _ _ (by omega)]; exact a.2.2.2.2.2.2.2.2.2 b hb s hs
-- the first row of a node changes
theorem KI.row0 {k j : Nat} {v : Int32} (h : KI N F U mx cnt T M) (hi : i < N) (hkj : (k = 5 ∧ j = 6) ∨ (k = 6 ∧ j = 7) ∨ (k = 7 ∧ j = 9) ∨ (k = 8 ∧ j = 8)) (h1 : nkNd (mx i) i (upd (T (pl i 0)) k v)) (h2 : nkDn (upd (T (pl i 0)) k v) (T (pl i 3)) (T (pl i 4)) (T (pl i 10))) : KI N F U mx cnt (u2 T (pl i 0) k v) (u2 M j i v) := by
  have e : ∀ j, j ≠ 0 → u2 T (pl i 0) k v (pl i j) = T (pl i j) := fun j hj => u2_row (pln hj)
  have c2 : u2 T (pl i 0) k v 2 = T 2 := u2_row (by unfold pl; omega)
  have c3 : u2 T (pl i 0) k v 3 = T 3 := u2_row (by unfold pl; omega)
  refine h.step hi (Eff.rf.u hi (by decide)) (EfM.rf.u (by unfold ownM; omega)) ?_ ?_
  · have a := h.nk hi
    unfold NK at *
    rw [e 2 (by decide), e 3 (by decide), e 4 (by decide), e 5 (by decide), e 6 (by decide), e 7 (by decide), e 8 (by decide), e 9 (by decide), e 10 (by decide), e 11 (by decide), e 12 (by decide), e 13 (by decide), c2, c3, u2_up]
    exact ⟨a.1, a.2.1, a.2.2.1, h1, a.2.2.2.2.1, a.2.2.2.2.2.1, a.2.2.2.2.2.2.1, h2⟩
  · obtain ⟨a1, a2, a3, a4, a5, a⟩ := h.rn hi
    unfold RN
    rw [e 2 (by decide), e 3 (by decide), e 4 (by decide), e 5 (by decide), e 6 (by decide), e 7 (by decide), e 8 (by decide), e 10 (by decide), u2_up]
    have m : ∀ x y, ¬ (x = j ∧ y = i) → u2 M j i v x y = M x y := fun x y hh => u2_off hh
    refine ⟨fun k hk => ?_, ?_, ?_, ?_, ?_, ?_, ?_, fun s hs => ?_, fun s hs => ?_, fun hb s hs => ?_, fun b hb s hs => ?_⟩
    · rw [m _ _ (by omega)]; exact a1 k hk
    · rcases hkj with ⟨rfl, rfl⟩ | ⟨rfl, rfl⟩ | ⟨rfl, rfl⟩ | ⟨rfl, rfl⟩
      · rw [upd_at]; exact u2_at
      · rw [upd_off (by decide), m _ _ (by omega)]; exact a2
      · rw [upd_off (by decide), m _ _ (by omega)]; exact a2
      · rw [upd_off (by decide), m _ _ (by omega)]; exact a2
    · rcases hkj with ⟨rfl, rfl⟩ | ⟨rfl, rfl⟩ | ⟨rfl, rfl⟩ | ⟨rfl, rfl⟩
      · rw [upd_off (by decide), m _ _ (by omega)]; exact a3
      · rw [upd_at]; exact u2_at
      · rw [upd_off (by decide), m _ _ (by omega)]; exact a3
      · rw [upd_off (by decide), m _ _ (by omega)]; exact a3
    · rcases hkj with ⟨rfl, rfl⟩ | ⟨rfl, rfl⟩ | ⟨rfl, rfl⟩ | ⟨rfl, rfl⟩
      · rw [upd_off (by decide), m _ _ (by omega)]; exact a4
      · rw [upd_off (by decide), m _ _ (by omega)]; exact a4
      · rw [upd_at]; exact u2_at
      · rw [upd_off (by decide), m _ _ (by omega)]; exact a4
    · rcases hkj with ⟨rfl, rfl⟩ | ⟨rfl, rfl⟩ | ⟨rfl, rfl⟩ | ⟨rfl, rfl⟩
      · rw [upd_off (by decide), m _ _ (by omega)]; exact a5
      · rw [upd_off (by decide), m _ _ (by omega)]; exact a5
      · rw [upd_off (by decide), m _ _ (by omega)]; exact a5
      · rw [upd_at]; exact u2_at
    · rw [m _ _ (by omega)]; exact a.1
    · rw [m _ _ (by omega)]; exact a.2.1
    · rw [m _ _ (by omega)]; exact a.2.2.1 s hs
    · rw [m _ _ (by omega)]; exact a.2.2.2.1 s hs
    · rw [m _ _ (by omega), m _ _ (by omega), m _ _ (by omega)]; exact a.2.2.2.2.1 hb s hs
    · rw [m _ _ (by omega)]; exact a.2.2.2.2.2 b hb s hs
-- a node goes down
theorem KI.down (h : KI N F U mx cnt T M) (hi : i < N) : KI N F U mx cnt (downS i T) (rFalls i M) := by
  refine h.step hi (Eff.down hi) EfM.falls ?_ ?_
  · obtain ⟨a1, a2, a3, a4, a5, a6, a7, a8⟩ := h.nk hi
    have c2 : downS i T 2 = T 2 := Eff.down hi 2 (Or.inl (by decide))
    have c3 : downS i T 3 = T 3 := Eff.down hi 3 (Or.inl (by decide))
    unfold NK
    rw [down_o (j := 2) (by omega), down_o (j := 5) (by omega), down_o (j := 6) (by omega), down_o (j := 7) (by omega), down_o (j := 8) (by omega), c2, c3, down_0, down_4]
    have u5 : upd (upd (upd (upd (T (pl i 0)) 5 0) 6 0) 7 0) 8 (-1) 5 = 0 := by rw [upd_off (by decide), upd_off (by decide), upd_off (by decide), upd_at]
    have u6 : upd (upd (upd (upd (T (pl i 0)) 5 0) 6 0) 7 0) 8 (-1) 6 = 0 := by rw [upd_off (by decide), upd_off (by decide), upd_at]
    have u7 : upd (upd (upd (upd (T (pl i 0)) 5 0) 6 0) 7 0) 8 (-1) 7 = 0 := by rw [upd_off (by decide), upd_at]
    have w5 : upd (upd (T (pl i 4)) 5 0) 6 0 5 = 0 := by rw [upd_off (by decide), upd_at]
    refine ⟨a1, fun s h1 h2 => Or.inl (down_3 h1 h2), a3, ⟨?_, ⟨0, by decide, u7, fun z => absurd u5 z⟩, Or.inl upd_at⟩, ⟨?_, 0, 0, w5, upd_at, by decide, by decide, fun _ => rfl, fun z => absurd rfl z⟩, fun s h1 h2 => Or.inl (down_10 h2), ?_, fun _ => ⟨u6, u7, upd_at, w5, upd_at, fun s h1 h2 => ⟨down_3 h1 h2, down_10 h2⟩⟩⟩
    · rw [upd_off (by decide), upd_off (by decide), upd_off (by decide), upd_off (by decide)]; exact a4.1
    · rw [upd_off (by decide), upd_off (by decide)]; exact a5.1
    · exact ⟨0, by decide, down_9, fun s h1 h2 => absurd h1 (by omega), fun _ => down_10 (by decide), fun k hk => down_11 hk, fun q hq => down_12 hq, fun q hq => down_13 hq⟩
  · obtain ⟨a1, a2, a3, a4, a5, a6, a7, a8, a9, a10, a11⟩ := h.rn hi
    unfold RN
    rw [down_o (j := 2) (by omega), down_o (j := 5) (by omega), down_o (j := 6) (by omega), down_o (j := 7) (by omega), down_o (j := 8) (by omega), down_0, down_4]
    have w5 : upd (upd (T (pl i 4)) 5 0) 6 0 5 = 0 := by rw [upd_off (by decide), upd_at]
    refine ⟨fun k hk => ?_, ?_, ?_, ?_, ?_, ?_, ?_, fun s hs => ?_, fun s hs => ?_, fun hb => absurd w5 hb, fun b hb s hs => ?_⟩
    · rw [rFalls_o (by omega) (by omega)]; exact a1 k hk
    · rw [rFalls_6, upd_off (by decide), upd_off (by decide), upd_off (by decide), upd_at]
    · rw [rFalls_n (by omega), upd_off (by decide), upd_off (by decide), upd_at]
    · rw [rFalls_n (by omega), upd_off (by decide), upd_at]
    · rw [rFalls_8, upd_at]
    · rw [rFalls_n (by omega), w5]
    · rw [rFalls_11, upd_at]
    · rw [(rFalls_12 (by omega) (by omega)).1, down_3 (by omega) (by omega)]
    · rw [(rFalls_12 (by omega) (by omega)).2, down_10 (by omega)]
    · rw [rFalls_o (by omega) (by omega)]; exact a11 b hb s hs
-- a sector is written
theorem KI.put {s x y c : Nat} (h : KI N F U mx cnt T M) (hi : i < N) (hs : s < 18) (hx : x < 256) (hy : y < 256) (hc : c < 65536) (h01 : s < 2 → mx i ≤ c) (hen : ∀ s', s = 2 * s' → 1 ≤ s' → U c s' y) :
    KI N F U mx cnt (putC T (pl i 2) (8 * s) (nI x) (nI y) (nI c)) (rT (144 * i + 8 * s) (nI x) (nI y) (nI c) M) := by
  obtain ⟨a1, -⟩ := h.rn hi
  have hb := (h.nk hi).1.1
  have c1 := (nI_b hc).1
  have c2 := (nI_b hc).2
  refine h.disk hi (fun p hp => putC_off hp) (fun j k hn => ?_) (fun k hk => ?_) ?_
  · by_cases hj : j = 5
    · subst hj
      rw [rT_5]
      unfold tornF
      rw [if_neg (by omega), if_neg (by omega), if_neg (by omega), if_neg (by omega)]
    · rw [rT_o hj]
  · rw [rT_5, putC_row]
    unfold tornF
    rw [← a1 k hk]
    by_cases e0 : k = 8 * s
    · rw [if_pos e0, if_pos (by omega)]
    · rw [if_neg e0, if_neg (by omega)]
      by_cases e1 : k = 8 * s + 1
      · rw [if_pos e1, if_pos (by omega)]
      · rw [if_neg e1, if_neg (by omega)]
        by_cases e2 : k = 8 * s + 2
        · rw [if_pos e2, if_pos (by omega)]
        · rw [if_neg e2, if_neg (by omega)]
          by_cases e3 : k = 8 * s + 3
          · rw [if_pos e3, if_pos (by omega)]
          · rw [if_neg e3, if_neg (by omega)]
  · rw [putC_row]
    refine (h.nk hi).1.write (c := c) hs hx hy hc h01 hen (fun k hk => ?_) ?_ ?_ ?_ ?_ (fun k hk => ?_)
    · unfold tornF; rw [if_neg (by omega), if_neg (by omega), if_neg (by omega), if_neg (by omega)]
    · unfold tornF; rw [if_pos rfl]
    · unfold tornF; rw [if_neg (by omega), if_pos rfl]
    · unfold tornF; rw [if_neg (by omega), if_neg (by omega), if_pos rfl]
    · unfold tornF; rw [if_neg (by omega), if_neg (by omega), if_neg (by omega), if_pos rfl]
    · unfold tornF
      split
      · exact ⟨x, hx, rfl⟩
      · split
        · exact ⟨y, hy, rfl⟩
        · split
          · exact ⟨c / 256, by omega, c1⟩
          · split
            · exact ⟨c % 256, by omega, c2⟩
            · exact hb k hk
theorem KI.whole {s x y c : Nat} (h : KI N F U mx cnt T M) (hi : i < N) (hs : s < 18) (hx : x < 256) (hy : y < 256) (hc : c < 65536) (h01 : s < 2 → mx i ≤ c) (hen : ∀ s', s = 2 * s' → 1 ≤ s' → U c s' y) :
    KI N F U mx cnt (sealS (putC T (pl i 2) (8 * s) (nI x) (nI y) (nI c)) (pl i 2) (8 * s)) (rS4 (144 * i + 8 * s) (nI x) (nI y) (nI c) M) := by
  obtain ⟨a1, -⟩ := h.rn hi
  have hb := (h.nk hi).1.1
  have c1 := (nI_b hc).1
  have c2 := (nI_b hc).2
  have q1 := by255 x hx
  have q2 := by255 y hy
  have q3 := by255 (c / 256) (by omega)
  have q4 := by255 (c % 256) (by omega)
  rw [← c1] at q3
  rw [← c2] at q4
  refine h.disk hi (fun p hp => by rw [seal_off hp, putC_off hp]) (fun j k hn => ?_) (fun k hk => ?_) ?_
  · by_cases hj : j = 5
    · subst hj
      rw [rS4_5 q1 q2 q3 q4]
      unfold wholF
      rw [if_neg (by omega), if_neg (by omega), if_neg (by omega), if_neg (by omega), if_neg (by omega), if_neg (by omega), if_neg (by omega), if_neg (by omega)]
    · rw [rS4_o hj]
  · rw [rS4_5 q1 q2 q3 q4, seal_row]
    unfold wholF
    rw [← a1 k hk]
    by_cases e0 : k = 8 * s
    · rw [if_pos e0, if_pos (by omega)]
    · rw [if_neg e0, if_neg (by omega)]
      by_cases e1 : k = 8 * s + 1
      · rw [if_pos e1, if_pos (by omega)]
      · rw [if_neg e1, if_neg (by omega)]
        by_cases e2 : k = 8 * s + 2
        · rw [if_pos e2, if_pos (by omega)]
        · rw [if_neg e2, if_neg (by omega)]
          by_cases e3 : k = 8 * s + 3
          · rw [if_pos e3, if_pos (by omega)]
          · rw [if_neg e3, if_neg (by omega)]
            by_cases e4 : k = 8 * s + 4
            · rw [if_pos e4, if_pos (by omega)]
            · rw [if_neg e4, if_neg (by omega)]
              by_cases e5 : k = 8 * s + 5
              · rw [if_pos e5, if_pos (by omega)]
              · rw [if_neg e5, if_neg (by omega)]
                by_cases e6 : k = 8 * s + 6
                · rw [if_pos e6, if_pos (by omega)]
                · rw [if_neg e6, if_neg (by omega)]
                  by_cases e7 : k = 8 * s + 7
                  · rw [if_pos e7, if_pos (by omega)]
                  · rw [if_neg e7, if_neg (by omega)]
  · rw [seal_row]
    refine (h.nk hi).1.write (c := c) hs hx hy hc h01 hen (fun k hk => ?_) ?_ ?_ ?_ ?_ (fun k hk => ?_)
    · unfold wholF; rw [if_neg (by omega), if_neg (by omega), if_neg (by omega), if_neg (by omega), if_neg (by omega), if_neg (by omega), if_neg (by omega), if_neg (by omega)]
    · unfold wholF; rw [if_pos rfl]
    · unfold wholF; rw [if_neg (by omega), if_pos rfl]
    · unfold wholF; rw [if_neg (by omega), if_neg (by omega), if_pos rfl]
    · unfold wholF; rw [if_neg (by omega), if_neg (by omega), if_neg (by omega), if_pos rfl]
    · unfold wholF
      split
      · exact ⟨x, hx, rfl⟩
      · split
        · exact ⟨y, hy, rfl⟩
        · split
          · exact ⟨c / 256, by omega, c1⟩
          · split
            · exact ⟨c % 256, by omega, c2⟩
            · split
              · exact ⟨_, by omega, by_xor x hx⟩
              · split
                · exact ⟨_, by omega, by_xor y hy⟩
                · split
                  · rw [c1]; exact ⟨255 - c / 256, by omega, by_xor _ (by omega)⟩
                  · split
                    · rw [c2]; exact ⟨255 - c % 256, by omega, by_xor _ (by omega)⟩
                    · exact hb k hk
theorem u2_self {p k : Nat} {v : Int32} (h : M p k = v) : u2 M p k v = M := by
  funext q j
  unfold u2
  split
  · rename_i z; rw [z.1, z.2, h]
  · rfl
theorem rS4_8 {b : Nat} {x y c v : Int32} : rS4 b x y c (u2 M 8 i v) = u2 (rS4 b x y c M) 8 i v := by
  funext j k
  unfold rS4
  by_cases hj : j = 8 ∧ k = i
  · simp [u2, hj]
  · simp [u2, hj]
-- armed changes
theorem KI.arm {v : Int32} (h : KI N F U mx cnt T M) (hi : i < N) (hv : v = (-1) ∨ ∃ a, a ≤ 40 ∧ v = nI a) (hu : T (pl i 0) 5 = 0 → v = (-1)) : KI N F U mx cnt (u2 T (pl i 0) 8 v) (u2 M 8 i v) := by
  obtain ⟨-, -, -, ⟨b1, ⟨p, b2, b3, b4⟩, -⟩, -, -, -, b8⟩ := h.nk hi
  refine h.row0 hi (by omega) ⟨?_, ⟨p, b2, ?_, ?_⟩, ?_⟩ ?_
  · rw [upd_off (by decide)]; exact b1
  · rw [upd_off (by decide)]; exact b3
  · rw [upd_off (by decide), upd_off (by decide)]; exact b4
  · rw [upd_at]; exact hv
  · intro z
    rw [upd_off (by decide)] at z
    obtain ⟨z1, z2, z3, z4⟩ := b8 z
    rw [upd_off (by decide), upd_off (by decide), upd_at]
    exact ⟨z1, z2, hu z, z4⟩
theorem sub1 {a : Nat} (h : a ≤ 40) (h0 : a ≠ 0) : nI a - 1 = nI (a - 1) := by
  obtain ⟨b, rfl⟩ : ∃ b, a = b + 1 := ⟨a - 1, by omega⟩
  rw [nI_pred]
  rfl
-- a sector written by either side
theorem KI.ws {s x y c : Nat} (h : KI N F U mx cnt T M) (hi : i < N) (hup : ¬ T (pl i 0) 5 = 0) (hs : s < 18) (hx : x < 256) (hy : y < 256) (hc : c < 65536) (h01 : s < 2 → mx i ≤ c) (hen : ∀ s', s = 2 * s' → 1 ≤ s' → U c s' y) :
    KI N F U mx cnt (wsecS i s (nI x) (nI y) (nI c) T) (rWr i s (nI x) (nI y) (nI c) M) := by
  have e8 : M 8 i = T (pl i 0) 8 := (h.rn hi).2.2.2.2.1
  have ha := (h.nk hi).2.2.2.1.2.2
  unfold wsecS rWr
  rw [e8]
  by_cases h0 : T (pl i 0) 8 = 0
  · rw [if_pos h0, if_pos h0, u2_self (by rw [e8, Int32.sub_zero])]
    exact (h.put hi hs hx hy hc h01 hen).down hi
  · rw [if_neg h0, if_neg h0]
    rcases ha with h1 | ⟨a, ha, h1⟩
    · rw [if_pos h1, if_pos (by rw [h1]; decide), u2_self (by rw [e8, Int32.sub_zero])]
      exact h.whole hi hs hx hy hc h01 hen
    · have hne : a ≠ 0 := fun z => h0 (by rw [h1, z]; rfl)
      have hn1 : ¬ T (pl i 0) 8 = (-1) := by
        rw [h1]
        intro z
        have z := congrArg Int32.toInt z
        rw [nI_toInt (by omega)] at z
        have e : (-1 : Int32).toInt = -1 := by decide
        omega
      have hle : ¬ T (pl i 0) 8 ≤ 0 := by
        rw [h1]
        exact fun z => absurd ((nI_leI (b := 0) (by omega) (by decide)).mp z) (by omega)
      rw [if_neg hn1, if_neg hle, rS4_8]
      have hw := h.whole hi hs hx hy hc h01 hen
      refine hw.arm hi ?_ ?_
      · rw [h1, sub1 ha hne]
        exact Or.inr ⟨a - 1, by omega, rfl⟩
      · intro z
        rw [seal_n, putC_n] at z
        exact absurd z hup
end KIS
