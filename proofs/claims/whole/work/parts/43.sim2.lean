-- matched changes of one row
section KIT
variable {N i cnt : Nat} {F : sT} {U : uT} {mx : Nat → Nat} {T T' M M' : sT}
theorem u2_eq {j k j' k' X Y J K : Nat} {v : Int32} (h : (X = j' ∧ Y = k') ↔ (J = j ∧ K = k)) (he : M X Y = T (pl i J) K) : u2 M j' k' v X Y = u2 T (pl i j) k v (pl i J) K := by
  by_cases hh : X = j' ∧ Y = k'
  · obtain ⟨h1, h2⟩ := h.mp hh
    rw [hh.1, hh.2, h1, h2, u2_at, u2_at]
  · rw [u2_off hh, u2_off (fun z => hh (h.mpr ⟨by have := z.1; unfold pl at this; omega, z.2⟩)), he]
theorem RN.set {j k j' k' a s : Nat} {v : Int32} (h : RN N i T M) (hN : N ≤ 5) (ha : a < N) (hs : s < 8)
    (hc : (j = 3 ∧ k = s + 1 ∧ j' = 12 ∧ k' = 8 * i + s) ∨ (j = 10 ∧ k = s + 1 ∧ j' = 15 ∧ k' = 8 * i + s) ∨ (j = 5 ∧ k = s + 1 ∧ j' = 13 ∧ k' = 8 * i + s) ∨ (j = 6 ∧ k = s + 1 ∧ j' = 14 ∧ k' = 8 * i + s) ∨ (j = 7 ∧ k = s + 1 ∧ j' = 16 ∧ k' = 8 * i + s) ∨ (j = 8 ∧ k = 9 * a + (s + 1) ∧ j' = 17 ∧ k' = 40 * i + 8 * a + s) ∨ (j = 4 ∧ k = 6 ∧ j' = 11 ∧ k' = i)) : RN N i (u2 T (pl i j) k v) (u2 M j' k' v) := by
  obtain ⟨a1, a2, a3, a4, a5, a6, a7, a8, a9, a10, a11⟩ := h
  refine ⟨fun x hx => u2_eq (by omega) (a1 x hx), u2_eq (by omega) a2, u2_eq (by omega) a3, u2_eq (by omega) a4, u2_eq (by omega) a5, u2_eq (by omega) a6, u2_eq (by omega) a7, fun x hx => u2_eq (by omega) (a8 x hx), fun x hx => u2_eq (by omega) (a9 x hx), fun hb x hx => ?_, fun b hb x hx => u2_eq (by omega) (a11 b hb x hx)⟩
  rw [u2_off (fun z => by have := z.1; have := z.2; unfold pl at *; omega)] at hb
  exact ⟨u2_eq (by omega) (a10 hb x hx).1, u2_eq (by omega) (a10 hb x hx).2.1, u2_eq (by omega) (a10 hb x hx).2.2⟩
theorem KI.set {j k j' k' a s : Nat} {v : Int32} (h : KI N F U mx cnt T M) (hi : i < N) (ha : a < N) (hs : s < 8)
    (hc : (j = 3 ∧ k = s + 1 ∧ j' = 12 ∧ k' = 8 * i + s) ∨ (j = 10 ∧ k = s + 1 ∧ j' = 15 ∧ k' = 8 * i + s) ∨ (j = 5 ∧ k = s + 1 ∧ j' = 13 ∧ k' = 8 * i + s) ∨ (j = 6 ∧ k = s + 1 ∧ j' = 14 ∧ k' = 8 * i + s) ∨ (j = 7 ∧ k = s + 1 ∧ j' = 16 ∧ k' = 8 * i + s) ∨ (j = 8 ∧ k = 9 * a + (s + 1) ∧ j' = 17 ∧ k' = 40 * i + 8 * a + s) ∨ (j = 4 ∧ k = 6 ∧ j' = 11 ∧ k' = i))
    (hn : NK U mx N cnt i (u2 T (pl i j) k v)) : KI N F U mx cnt (u2 T (pl i j) k v) (u2 M j' k' v) :=
  h.step hi (Eff.rf.u hi (by omega)) (EfM.rf.u (by have := h.1.2; unfold ownM; omega)) hn ((h.rn hi).set h.1.2 ha hs hc)
theorem two_lt {v a : Nat} (hv : v < 32) (ha : a < 5) : ∃ w, w < 32 ∧ nI v ||| (1 <<< (nI a &&& 31)) = nI w := by
  have h : ∀ v, v < 32 → ∀ a, a < 5 → (nI v ||| (1 <<< (nI a &&& 31))).toNatClampNeg < 32 ∧ nI v ||| (1 <<< (nI a &&& 31)) = nI (nI v ||| (1 <<< (nI a &&& 31))).toNatClampNeg := by decide +kernel
  exact ⟨_, (h v hv a ha).1, (h v hv a ha).2⟩
-- slots
theorem KI.u3 {s : Nat} {v : Int32} (h : KI N F U mx cnt T M) (hi : i < N) (hs : s < 8) (hup : ¬ T (pl i 0) 5 = 0) (hv : okS U (s + 1) v) : KI N F U mx cnt (u2 T (pl i 3) (s + 1) v) (u2 M 12 (8 * i + s) v) := by
  refine h.set hi (a := 0) (by have := h.1.1; omega) hs (by omega) ?_
  have e : ∀ j, j ≠ 3 → u2 T (pl i 3) (s + 1) v (pl i j) = T (pl i j) := fun j hj => u2_row (pln hj)
  have c2 : u2 T (pl i 3) (s + 1) v 2 = T 2 := u2_row (by unfold pl; omega)
  have c3 : u2 T (pl i 3) (s + 1) v 3 = T 3 := u2_row (by unfold pl; omega)
  obtain ⟨b1, b2, b3, b4, b5, b6, b7, b8⟩ := h.nk hi
  unfold NK
  rw [e 0 (by decide), e 2 (by decide), e 4 (by decide), e 5 (by decide), e 6 (by decide), e 7 (by decide), e 8 (by decide), e 9 (by decide), e 10 (by decide), e 11 (by decide), e 12 (by decide), e 13 (by decide), c2, c3, u2_up]
  refine ⟨b1, fun t h1 h2 => ?_, b3, b4, b5, b6, b7, fun z => absurd z hup⟩
  by_cases ht : t = s + 1
  · subst ht; rw [upd_at]; exact hv
  · rw [upd_off ht]; exact b2 t h1 h2
-- told
theorem KI.u8 {a s : Nat} {v : Int32} (h : KI N F U mx cnt T M) (hi : i < N) (ha : a < N) (hs : s < 8) (hv : okS U (s + 1) v) : KI N F U mx cnt (u2 T (pl i 8) (9 * a + (s + 1)) v) (u2 M 17 (40 * i + 8 * a + s) v) := by
  refine h.set hi ha hs (by omega) ?_
  have e : ∀ j, j ≠ 8 → u2 T (pl i 8) (9 * a + (s + 1)) v (pl i j) = T (pl i j) := fun j hj => u2_row (pln hj)
  have c2 : u2 T (pl i 8) (9 * a + (s + 1)) v 2 = T 2 := u2_row (by unfold pl; omega)
  have c3 : u2 T (pl i 8) (9 * a + (s + 1)) v 3 = T 3 := u2_row (by unfold pl; omega)
  obtain ⟨b1, b2, b3, b4, b5, b6, b7, b8⟩ := h.nk hi
  unfold NK
  rw [e 0 (by decide), e 2 (by decide), e 3 (by decide), e 4 (by decide), e 5 (by decide), e 6 (by decide), e 7 (by decide), e 9 (by decide), e 10 (by decide), e 11 (by decide), e 12 (by decide), e 13 (by decide), c2, c3, u2_up]
  refine ⟨b1, b2, fun x hx t h1 h2 => ?_, b4, b5, b6, b7, b8⟩
  by_cases ht : 9 * x + t = 9 * a + (s + 1)
  · rw [ht, upd_at, show t = s + 1 by omega]; exact hv
  · rw [upd_off ht]; exact b3 x hx t h1 h2
-- promisers
theorem KI.u46 {v : Nat} (h : KI N F U mx cnt T M) (hi : i < N) (hb : ¬ T (pl i 4) 5 = 0) (hv : v < 32) : KI N F U mx cnt (u2 T (pl i 4) 6 (nI v)) (u2 M 11 i (nI v)) := by
  refine h.set hi (a := 0) (s := 0) (by have := h.1.1; omega) (by decide) (by omega) ?_
  have e : ∀ j, j ≠ 4 → u2 T (pl i 4) 6 (nI v) (pl i j) = T (pl i j) := fun j hj => u2_row (pln hj)
  have c2 : u2 T (pl i 4) 6 (nI v) 2 = T 2 := u2_row (by unfold pl; omega)
  have c3 : u2 T (pl i 4) 6 (nI v) 3 = T 3 := u2_row (by unfold pl; omega)
  obtain ⟨b1, b2, b3, b4, ⟨d0, b, w, d1, d2, d3, d4, d5, d6⟩, b6, b7, b8⟩ := h.nk hi
  unfold NK
  rw [e 0 (by decide), e 2 (by decide), e 3 (by decide), e 5 (by decide), e 6 (by decide), e 7 (by decide), e 8 (by decide), e 9 (by decide), e 10 (by decide), e 11 (by decide), e 12 (by decide), e 13 (by decide), c2, c3, u2_up]
  have hb0 : b ≠ 0 := fun z => hb (by rw [d1, z]; rfl)
  refine ⟨b1, b2, b3, b4, ⟨?_, b, v, ?_, upd_at, hv, d4, fun z => absurd z hb0, d6⟩, b6, b7, fun z => absurd (b8 z).2.2.2.1 hb⟩
  · rw [upd_off (by decide)]; exact d0
  · rw [upd_off (by decide)]; exact d1
-- assigned
theorem KI.u5 {s q : Nat} (h : KI N F U mx cnt T M) (hi : i < N) (hs : s < 8) (hq : q ≤ cnt) : KI N F U mx cnt (u2 T (pl i 5) (s + 1) (nI q)) (u2 M 13 (8 * i + s) (nI q)) := by
  refine h.set hi (a := 0) (by have := h.1.1; omega) hs (by omega) ?_
  have e : ∀ j, j ≠ 5 → u2 T (pl i 5) (s + 1) (nI q) (pl i j) = T (pl i j) := fun j hj => u2_row (pln hj)
  have c2 : u2 T (pl i 5) (s + 1) (nI q) 2 = T 2 := u2_row (by unfold pl; omega)
  have c3 : u2 T (pl i 5) (s + 1) (nI q) 3 = T 3 := u2_row (by unfold pl; omega)
  obtain ⟨b1, b2, b3, b4, ⟨d0, b, w, d1, d2, d3, d4, d5, d6⟩, b6, b7, b8⟩ := h.nk hi
  unfold NK
  rw [e 0 (by decide), e 2 (by decide), e 3 (by decide), e 4 (by decide), e 6 (by decide), e 7 (by decide), e 8 (by decide), e 9 (by decide), e 10 (by decide), e 11 (by decide), e 12 (by decide), e 13 (by decide), c2, c3, u2_up]
  refine ⟨b1, b2, b3, b4, ⟨d0, b, w, d1, d2, d3, d4, d5, fun z => ⟨(d6 z).1, (d6 z).2.1, (d6 z).2.2.1, fun t h1 h2 => ?_⟩⟩, b6, b7, b8⟩
  obtain ⟨x1, x2⟩ := (d6 z).2.2.2 t h1 h2
  refine ⟨?_, x2⟩
  by_cases ht : t = s + 1
  · subst ht; rw [upd_at]; exact ⟨q, hq, rfl⟩
  · rw [upd_off ht]; exact x1
-- voters
theorem KI.u7 {s v : Nat} (h : KI N F U mx cnt T M) (hi : i < N) (hs : s < 8) (hv : v < 32) : KI N F U mx cnt (u2 T (pl i 7) (s + 1) (nI v)) (u2 M 16 (8 * i + s) (nI v)) := by
  refine h.set hi (a := 0) (by have := h.1.1; omega) hs (by omega) ?_
  have e : ∀ j, j ≠ 7 → u2 T (pl i 7) (s + 1) (nI v) (pl i j) = T (pl i j) := fun j hj => u2_row (pln hj)
  have c2 : u2 T (pl i 7) (s + 1) (nI v) 2 = T 2 := u2_row (by unfold pl; omega)
  have c3 : u2 T (pl i 7) (s + 1) (nI v) 3 = T 3 := u2_row (by unfold pl; omega)
  obtain ⟨b1, b2, b3, b4, ⟨d0, b, w, d1, d2, d3, d4, d5, d6⟩, b6, b7, b8⟩ := h.nk hi
  unfold NK
  rw [e 0 (by decide), e 2 (by decide), e 3 (by decide), e 4 (by decide), e 5 (by decide), e 6 (by decide), e 8 (by decide), e 9 (by decide), e 10 (by decide), e 11 (by decide), e 12 (by decide), e 13 (by decide), c2, c3, u2_up]
  refine ⟨b1, b2, b3, b4, ⟨d0, b, w, d1, d2, d3, d4, d5, fun z => ⟨(d6 z).1, (d6 z).2.1, (d6 z).2.2.1, fun t h1 h2 => ?_⟩⟩, b6, b7, b8⟩
  obtain ⟨x1, x2, x3⟩ := (d6 z).2.2.2 t h1 h2
  refine ⟨x1, x2, ?_⟩
  by_cases ht : t = s + 1
  · subst ht; rw [upd_at]; exact ⟨v, hv, rfl⟩
  · rw [upd_off ht]; exact x3
-- a command is fixed
theorem okS.mono {U' : uT} {s : Nat} {t : Int32} (hU : ∀ b s c, U b s c → U' b s c) (h : okS U s t) : okS U' s t := by
  rcases h with h | h | h | ⟨b, c, h1, h2⟩
  · exact Or.inl h
  · exact Or.inr (Or.inl h)
  · exact Or.inr (Or.inr (Or.inl h))
  · exact Or.inr (Or.inr (Or.inr ⟨b, c, hU _ _ _ h1, h2⟩))
theorem nkDk.mono {U' : uT} {m : Nat} {f : Nat → Int32} (hU : ∀ b s c, U b s c → U' b s c) (h : nkDk U m f) : nkDk U' m f := by
  refine ⟨h.1, fun s h1 h2 h3 => ?_, h.2.2⟩
  rcases h.2.1 s h1 h2 h3 with h | ⟨b, c, h4, h5⟩
  · exact Or.inl h
  · exact Or.inr ⟨b, c, hU _ _ _ h4, h5⟩
def Uadd (U : uT) (b s c : Nat) : uT := fun b' s' c' => U b' s' c' ∨ (b' = b ∧ s' = s ∧ c' = c)
theorem nI_m1 {a : Nat} (h : a < 2147483648) : ¬ nI a = (-1) := by
  intro z
  have z := congrArg Int32.toInt z
  rw [nI_toInt h] at z
  have e : (-1 : Int32).toInt = -1 := by decide
  omega
theorem KI.fix {s b c : Nat} (h : KI N F U mx cnt T M) (hi : i < N) (hs : s < 8) (hb : T (pl i 4) 5 = nI b) (hb6 : b ≤ 60000) (hb0 : b ≠ 0) (hf : T (pl i 6) (s + 1) = (-1)) (hc : c ≤ cnt) :
    KI N F (Uadd U b (s + 1) c) mx cnt (u2 T (pl i 6) (s + 1) (nI c)) (u2 M 14 (8 * i + s) (nI c)) := by
  have hN := h.1.2
  have hcnt : cnt ≤ 30 := h.2.2.2.1.1
  obtain ⟨hu1, hu2⟩ := h.2.2.1
  have hU : ∀ b' s' c', U b' s' c' → Uadd U b (s + 1) c b' s' c' := fun _ _ _ z => Or.inl z
  obtain ⟨b1, b2, b3, b4, ⟨d0, b', w, d1, d2, d3, d4, d5, d6⟩, b6, b7, b8⟩ := h.nk hi
  have hbb : b' = b := (nI_eq (by omega) (by omega)).mp (d1.symm.trans hb)
  subst hbb
  obtain ⟨d7, d8, d9, d10⟩ := d6 hb0
  have hno : ∀ c, ¬ U b' (s + 1) c := by
    rcases (d10 (s + 1) (by omega) (by omega)).2.1 with z | ⟨c', z, z2⟩
    · exact z.2
    · have := (hu2 _ _ _ z2).2.2.1
      exact absurd (z.symm.trans hf) (nI_m1 (by omega))
  have e : ∀ j, j ≠ 6 → u2 T (pl i 6) (s + 1) (nI c) (pl i j) = T (pl i j) := fun j hj => u2_row (pln hj)
  have c2 : u2 T (pl i 6) (s + 1) (nI c) 2 = T 2 := u2_row (by unfold pl; omega)
  have c3 : u2 T (pl i 6) (s + 1) (nI c) 3 = T 3 := u2_row (by unfold pl; omega)
  refine h.stepU hi (Eff.rf.u hi (by decide)) (EfM.rf.u (by unfold ownM; omega)) ⟨?_, ?_⟩ (fun a ha hai => ?_) ?_ ((h.rn hi).set (a := 0) hN (by omega) hs (by omega))
  · rintro x t y y' (h1 | ⟨h1, h2, h3⟩) (h4 | ⟨h4, h5, h6⟩)
    · exact hu1 x t y y' h1 h4
    · subst h4 h5
      exact absurd h1 (hno y)
    · subst h1 h2
      exact absurd h4 (hno y')
    · rw [h3, h6]
  · rintro x t y (h1 | ⟨h1, h2, h3⟩)
    · exact hu2 x t y h1
    · subst h1 h3
      refine ⟨d7, hb6, hc, fun a ha hm => ?_⟩
      rw [show a = i by omega]
      exact d9
  · obtain ⟨e1, e2, e3, e4, ⟨f0, b2', w', f1, f2, f3, f4, f5, f6⟩, e6, e7, e8⟩ := h.nk ha
    refine ⟨e1.mono hU, fun t h1 h2 => (e2 t h1 h2).mono hU, fun x hx t h1 h2 => (e3 x hx t h1 h2).mono hU, e4, ⟨f0, b2', w', f1, f2, f3, f4, f5, fun z => ?_⟩, e6, e7, e8⟩
    obtain ⟨g1, g2, g3, g4⟩ := f6 z
    refine ⟨g1, g2, g3, fun t h1 h2 => ?_⟩
    obtain ⟨x1, x2, x3⟩ := g4 t h1 h2
    refine ⟨x1, ?_, x3⟩
    rcases x2 with ⟨y1, y2⟩ | ⟨c', y1, y2⟩
    · left
      refine ⟨y1, ?_⟩
      rintro c'' (q | ⟨q, -, -⟩)
      · exact y2 c'' q
      · omega
    · exact Or.inr ⟨c', y1, hU _ _ _ y2⟩
  · unfold NK
    rw [e 0 (by decide), e 2 (by decide), e 3 (by decide), e 4 (by decide), e 5 (by decide), e 7 (by decide), e 8 (by decide), e 9 (by decide), e 10 (by decide), e 11 (by decide), e 12 (by decide), e 13 (by decide), c2, c3, u2_up]
    refine ⟨b1.mono hU, fun t h1 h2 => (b2 t h1 h2).mono hU, fun x hx t h1 h2 => (b3 x hx t h1 h2).mono hU, b4, ⟨d0, b', w, d1, d2, d3, d4, d5, fun z => ⟨d7, d8, d9, fun t h1 h2 => ?_⟩⟩, b6, b7, b8⟩
    obtain ⟨x1, x2, x3⟩ := d10 t h1 h2
    refine ⟨x1, ?_, x3⟩
    by_cases ht : t = s + 1
    · subst ht
      rw [upd_at]
      exact Or.inr ⟨c, rfl, Or.inr ⟨rfl, rfl, rfl⟩⟩
    · rw [upd_off ht]
      rcases x2 with ⟨y1, y2⟩ | ⟨c', y1, y2⟩
      · left
        refine ⟨y1, ?_⟩
        rintro c'' (q | ⟨-, q, -⟩)
        · exact y2 c'' q
        · exact ht q
      · exact Or.inr ⟨c', y1, hU _ _ _ y2⟩
-- a node raises its promise, writes a vote
theorem ws_ok0 {s k : Nat} {x y c : Int32} (hw : wsOk i T) (hk : k ≠ 8) : wsecS i s x y c T (pl i 0) k = T (pl i 0) k := by
  unfold wsecS
  rw [if_neg hw]
  split
  · rw [seal_n, putC_n]
  · rw [u2_off (fun z => hk z.2), seal_n, putC_n]
theorem ws_okj {s j : Nat} {x y c : Int32} (hw : wsOk i T) (h0 : j ≠ 0) (h2 : j ≠ 2) : wsecS i s x y c T (pl i j) = T (pl i j) := by
  unfold wsecS
  rw [if_neg hw]
  split
  · rw [seal_off (pln h2), putC_off (pln h2)]
  · rw [u2_row (pln h0), seal_off (pln h2), putC_off (pln h2)]
theorem ws_ok2 {s : Nat} {x y c : Int32} (hw : wsOk i T) : wsecS i s x y c T (pl i 2) = wholF (T (pl i 2)) (8 * s) x y c := by
  unfold wsecS
  rw [if_neg hw]
  split
  · rw [seal_row]
  · rw [u2_row (pln (by decide)), seal_row]
theorem KI.wok (h : KI N F U mx cnt T M) (hi : i < N) : rWrOk i M ↔ wsOk i T := by
  unfold rWrOk wsOk
  rw [(h.rn hi).2.2.2.2.1]
theorem KI.prom {b : Nat} (h : KI N F U mx cnt T M) (hi : i < N) (hb : b < 65536) (hm : mx i ≤ b) (hup : ¬ T (pl i 0) 5 = 0) : KI N F U mx cnt (u2 T (pl i 0) 7 (nI b)) (u2 M 9 i (nI b)) := by
  obtain ⟨-, -, -, ⟨b1, -, b5⟩, -, -, -, b8⟩ := h.nk hi
  refine h.row0 hi (by omega) ⟨?_, ⟨b, hb, upd_at, fun _ _ => hm⟩, ?_⟩ ?_
  · rw [upd_off (by decide)]; exact b1
  · rw [upd_off (by decide)]; exact b5
  · intro z
    rw [upd_off (by decide)] at z
    exact absurd z hup
theorem KI.rpr {b : Nat} (h : KI N F U mx cnt T M) (hi : i < N) (hup : ¬ T (pl i 0) 5 = 0) (hb : b < 65536) (hm : mx i ≤ b) (hlt : T (pl i 0) 7 < nI b) :
    KI N F U mx cnt (rpS i (nI b) T) (rWP i (nI b) M) ∧ (rWPok i (nI b) M ↔ rpOk i (nI b) T) := by
  have w1 := h.wok hi
  have k1 := h.ws (s := 0) (x := 0) (y := 0) hi hup (by decide) (by decide) (by decide) hb (fun _ => hm) (fun s' h1 h2 => absurd h1 (by omega))
  have e0 : nI 0 = (0 : Int32) := rfl
  rw [e0] at k1
  have w2 := k1.wok hi
  unfold rpS rWP rWPok rpOk
  rw [if_pos hlt]
  by_cases hw : wsOk i T
  · have u1 : ¬ wsecS i 0 0 0 (nI b) T (pl i 0) 5 = 0 := by rw [ws_ok0 hw (by decide)]; exact hup
    have k2 := k1.ws (s := 1) (x := 0) (y := 0) hi u1 (by decide) (by decide) (by decide) hb (fun _ => hm) (fun s' h1 h2 => absurd h1 (by omega))
    rw [e0] at k2
    rw [if_pos hw, if_pos (w1.mpr hw)]
    by_cases hw2 : wsOk i (wsecS i 0 0 0 (nI b) T)
    · rw [if_pos hw2, if_pos (w2.mpr hw2)]
      refine ⟨k2.prom hi hb hm ?_, fun _ _ => ⟨hw, hw2⟩, fun _ => ⟨w1.mpr hw, w2.mpr hw2⟩⟩
      rw [ws_ok0 hw2 (by decide)]
      exact u1
    · rw [if_neg hw2, if_neg (fun z => hw2 (w2.mp z))]
      exact ⟨k2, fun z => absurd (w2.mp z.2) hw2, fun z => absurd (z hlt).2 hw2⟩
  · rw [if_neg hw, if_neg (fun z => hw (w1.mp z))]
    exact ⟨k1, fun z => absurd (w1.mp z.1) hw, fun z => absurd (z hlt).1 hw⟩
theorem rp_ok0 {b : Int32} {k : Nat} (hr : rpOk i b T) (hk : k ≠ 8) (hk7 : k ≠ 7) : rpS i b T (pl i 0) k = T (pl i 0) k := by
  unfold rpS
  split
  · rename_i hlt
    rw [if_pos (hr hlt).1, if_pos (hr hlt).2, u2_off (fun z => hk7 z.2), ws_ok0 (hr hlt).2 hk, ws_ok0 (hr hlt).1 hk]
  · rfl
theorem rp_okj {b : Int32} {j : Nat} (hr : rpOk i b T) (h0 : j ≠ 0) (h2 : j ≠ 2) : rpS i b T (pl i j) = T (pl i j) := by
  unfold rpS
  split
  · rename_i hlt
    rw [if_pos (hr hlt).1, if_pos (hr hlt).2, u2_row (pln h0), ws_okj (hr hlt).2 h0 h2, ws_okj (hr hlt).1 h0 h2]
  · rfl
theorem Eff.rpr {b : Int32} (hi : i < N) : Eff N i T (rpS i b T) := by
  unfold rpS
  split
  · split
    · split
      · exact ((Eff.ws hi).tr (Eff.ws hi)).u hi (by decide)
      · exact (Eff.ws hi).tr (Eff.ws hi)
    · exact Eff.ws hi
  · exact Eff.rf
theorem KI.wv {s b c : Nat} (h : KI N F U mx cnt T M) (hi : i < N) (hs : s < 8) (hup : ¬ T (pl i 0) 5 = 0) (hu : U b (s + 1) c) :
    KI N F U mx cnt (wvS i (s + 1) (nI c) (nI b) T) (rWV i s (nI c) (nI b) M) ∧ (rWVok i s (nI c) (nI b) M ↔ wvOk i (s + 1) (nI c) (nI b) T) := by
  obtain ⟨q1, q2, q3, -⟩ := h.2.2.1.2 _ _ _ hu
  have hcnt : cnt ≤ 30 := h.2.2.2.1.1
  have w1 := h.wok hi
  have k1 := h.ws (s := 2 * s + 2) (x := s + 1) (y := c) (c := b) hi hup (by omega) (by omega) (by omega) (by omega) (fun z => absurd z (by omega)) (fun s' h1 h2 => by rw [show s' = s + 1 by omega]; exact hu)
  have w2 := k1.wok hi
  have e1 : 2 * (s + 1) = 2 * s + 2 := by omega
  unfold wvS rWV rWVok wvOk
  rw [e1]
  by_cases hw : wsOk i T
  · have u1 : ¬ wsecS i (2 * s + 2) (nI (s + 1)) (nI c) (nI b) T (pl i 0) 5 = 0 := by rw [ws_ok0 hw (by decide)]; exact hup
    have k2 := k1.ws (s := 2 * s + 2 + 1) (x := s + 1) (y := 0) (c := b) hi u1 (by omega) (by omega) (by decide) (by omega) (fun z => absurd z (by omega)) (fun s' h1 h2 => absurd h1 (by omega))
    rw [if_pos hw, if_pos (w1.mpr hw)]
    by_cases hw2 : wsOk i (wsecS i (2 * s + 2) (nI (s + 1)) (nI c) (nI b) T)
    · rw [if_pos hw2, if_pos (w2.mpr hw2)]
      refine ⟨?_, fun _ => ⟨hw, hw2⟩, fun _ => ⟨w1.mpr hw, w2.mpr hw2⟩⟩
      have e64 : (64 : Int32) * nI b + nI c = nI (64 * b + c) := by rw [show (64 : Int32) = nI 64 from rfl, xn_mul rfl rfl, nI_add]
      refine k2.u3 hi hs ?_ ?_
      · rw [ws_ok0 hw2 (by decide)]; exact u1
      · rw [e64]; exact Or.inr (Or.inr (Or.inr ⟨b, c, hu, rfl⟩))
    · rw [if_neg hw2, if_neg (fun z => hw2 (w2.mp z))]
      exact ⟨k2, fun z => absurd (w2.mp z.2) hw2, fun z => absurd z.2 hw2⟩
  · rw [if_neg hw, if_neg (fun z => hw (w1.mp z))]
    exact ⟨k1, fun z => absurd (w1.mp z.1) hw, fun z => absurd z.1 hw⟩
theorem wv_ok0 {s k : Nat} {c b : Int32} (hr : wvOk i s c b T) (hk : k ≠ 8) : wvS i s c b T (pl i 0) k = T (pl i 0) k := by
  unfold wvS
  rw [if_pos hr.1, if_pos hr.2, u2_row (pln (by decide)), ws_ok0 hr.2 hk, ws_ok0 hr.1 hk]
theorem wv_okj {s j : Nat} {c b : Int32} (hr : wvOk i s c b T) (h0 : j ≠ 0) (h2 : j ≠ 2) (h3 : j ≠ 3) : wvS i s c b T (pl i j) = T (pl i j) := by
  unfold wvS
  rw [if_pos hr.1, if_pos hr.2, u2_row (pln h3), ws_okj hr.2 h0 h2, ws_okj hr.1 h0 h2]
theorem Eff.wv {s : Nat} {c b : Int32} (hi : i < N) : Eff N i T (wvS i s c b T) := by
  unfold wvS
  split
  · split
    · exact ((Eff.ws hi).tr (Eff.ws hi)).u hi (by decide)
    · exact (Eff.ws hi).tr (Eff.ws hi)
  · exact Eff.ws hi
end KIT
