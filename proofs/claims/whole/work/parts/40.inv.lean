-- what holds between the calls: of the system's state T, of the other side's state M, and between them
-- U b s c: command c was ever fixed for slot s under ballot b; mx i: the greatest ballot that node i ever led with
abbrev uT : Type := Nat → Nat → Nat → Prop
def okS (U : uT) (s : Nat) (t : Int32) : Prop := t = 0 ∨ t = (-1000000) ∨ (∃ b, 1 ≤ b ∧ b < 65536 ∧ t = (-2) - nI b) ∨ ∃ b c, U b s c ∧ t = nI (64 * b + c)
def UOK (U : uT) (mx : Nat → Nat) (N cnt : Nat) : Prop := (∀ b s c c', U b s c → U b s c' → c = c') ∧ ∀ b s c, U b s c → 8 ≤ b ∧ b ≤ 60000 ∧ c ≤ cnt ∧ ∀ i, i < N → b % 8 = i → b ≤ mx i
-- play
def plyS (ky nm : Nat → Int32) (c : Int32) (x : (Nat → Int32) × (Nat → Int32) × (Nat → Int32)) : (Nat → Int32) × (Nat → Int32) × (Nat → Int32) :=
  if 0 < c ∧ x.2.2 c.toNatClampNeg = 0 then (upd x.1 (ky c.toNatClampNeg).toNatClampNeg (nm c.toNatClampNeg), upd x.2.1 c.toNatClampNeg (x.1 (ky c.toNatClampNeg).toNatClampNeg), upd x.2.2 c.toNatClampNeg 1) else x
def plyL (ky nm cm : Nat → Int32) : Nat → (Nat → Int32) × (Nat → Int32) × (Nat → Int32)
  | 0 => (fun _ => 0, fun _ => 0, fun _ => 0)
  | k + 1 => plyS ky nm (cm (k + 1)) (plyL ky nm cm k)
-- a node, by its rows
def nkDk (U : uT) (m : Nat) (f : Nat → Int32) : Prop :=
  (∀ k, k < 144 → ∃ x, x < 256 ∧ f k = nI x) ∧
  (∀ s, 1 ≤ s → s < 9 → ¬ wrongF f (8 * (2 * s)) → balF f (2 * s) = 0 ∨ ∃ b c, U b s c ∧ balF f (2 * s) = nI b ∧ f (8 * (2 * s) + 1) = nI c) ∧
  ∀ t, t < 2 → ¬ wrongF f (8 * t) → ∃ b, b < 65536 ∧ balF f t = nI b ∧ m ≤ b
def nkSl (U : uT) (f : Nat → Int32) : Prop := ∀ s, 1 ≤ s → s < 9 → okS U s (f s)
def nkTd (U : uT) (N : Nat) (f : Nat → Int32) : Prop := ∀ a, a < N → ∀ s, 1 ≤ s → s < 9 → okS U s (f (9 * a + s))
def nkNd (m i : Nat) (f : Nat → Int32) : Prop := f 0 = nI i ∧ (∃ p, p < 65536 ∧ f 7 = nI p ∧ (¬ f 5 = 0 → f 6 = 0 → m ≤ p)) ∧ (f 8 = (-1) ∨ ∃ a, a ≤ 40 ∧ f 8 = nI a)
def nkTs (U : uT) (cnt b s : Nat) (f5 f6 f7 : Nat → Int32) : Prop := (∃ q, q ≤ cnt ∧ f5 s = nI q) ∧ ((f6 s = (-1) ∧ ∀ c, ¬ U b s c) ∨ ∃ c, f6 s = nI c ∧ U b s c) ∧ ∃ v, v < 32 ∧ f7 s = nI v
def nkTm (U : uT) (m N cnt i : Nat) (f4 f5 f6 f7 : Nat → Int32) : Prop := f4 0 = nI N ∧ ∃ b v, f4 5 = nI b ∧ f4 6 = nI v ∧ v < 32 ∧ b ≤ 60000 ∧ (b = 0 → v = 0) ∧ (b ≠ 0 → 8 ≤ b ∧ b % 8 = i ∧ b ≤ m ∧ ∀ s, 1 ≤ s → s < 9 → nkTs U cnt b s f5 f6 f7)
def nkCm (cnt : Nat) (f : Nat → Int32) : Prop := ∀ s, 1 ≤ s → s < 9 → f s = (-1) ∨ ∃ c, c ≤ cnt ∧ f s = nI c
def nkLg (ky nm f9 f10 f11 f12 f13 : Nat → Int32) : Prop := ∃ d, d ≤ 8 ∧ f9 5 = nI d ∧ (∀ s, 1 ≤ s → s ≤ d → ¬ f10 s = (-1)) ∧ (d < 8 → f10 (d + 1) = (-1)) ∧ (∀ k, k < 4 → f11 k = (plyL ky nm f10 d).1 k) ∧ (∀ q, q < 31 → f12 q = (plyL ky nm f10 d).2.1 q) ∧ ∀ q, q < 31 → f13 q = (plyL ky nm f10 d).2.2 q
def nkDn (f0 f3 f4 f10 : Nat → Int32) : Prop := f0 5 = 0 → f0 6 = 0 ∧ f0 7 = 0 ∧ f0 8 = (-1) ∧ f4 5 = 0 ∧ f4 6 = 0 ∧ ∀ s, 1 ≤ s → s < 9 → f3 s = 0 ∧ f10 s = (-1)
def NK (U : uT) (mx : Nat → Nat) (N cnt i : Nat) (T : sT) : Prop :=
  nkDk U (mx i) (T (pl i 2)) ∧ nkSl U (T (pl i 3)) ∧ nkTd U N (T (pl i 8)) ∧ nkNd (mx i) i (T (pl i 0)) ∧ nkTm U (mx i) N cnt i (T (pl i 4)) (T (pl i 5)) (T (pl i 6)) (T (pl i 7)) ∧ nkCm cnt (T (pl i 10)) ∧ nkLg (T 2) (T 3) (T (pl i 9)) (T (pl i 10)) (T (pl i 11)) (T (pl i 12)) (T (pl i 13)) ∧ nkDn (T (pl i 0)) (T (pl i 3)) (T (pl i 4)) (T (pl i 10))
-- the two sides
def RN (N i : Nat) (T M : sT) : Prop :=
  (∀ k, k < 144 → M 5 (144 * i + k) = T (pl i 2) k) ∧ M 6 i = T (pl i 0) 5 ∧ M 7 i = T (pl i 0) 6 ∧ M 9 i = T (pl i 0) 7 ∧ M 8 i = T (pl i 0) 8 ∧ M 10 i = T (pl i 4) 5 ∧ M 11 i = T (pl i 4) 6 ∧
  (∀ s, s < 8 → M 12 (8 * i + s) = T (pl i 3) (s + 1)) ∧ (∀ s, s < 8 → M 15 (8 * i + s) = T (pl i 10) (s + 1)) ∧
  (¬ T (pl i 4) 5 = 0 → ∀ s, s < 8 → M 13 (8 * i + s) = T (pl i 5) (s + 1) ∧ M 14 (8 * i + s) = T (pl i 6) (s + 1) ∧ M 16 (8 * i + s) = T (pl i 7) (s + 1)) ∧
  ∀ a, a < N → ∀ s, s < 8 → M 17 (40 * i + 8 * a + s) = T (pl i 8) (9 * a + (s + 1))
def CLk (cnt : Nat) (T : sT) : Prop := cnt ≤ 30 ∧ T 1 4 = nI cnt ∧ ∀ q, q ≤ cnt → ∃ y, y < 4 ∧ T 2 q = nI y
def RC (N : Nat) (T M : sT) : Prop := M 0 0 = nI N ∧ M 0 1 = T 1 4 ∧ ∀ q, q < 31 → M 1 q = T 2 q ∧ M 2 q = T 3 q ∧ M 3 q = T 4 q ∧ M 4 q = T 5 q
def KI (N : Nat) (F : sT) (U : uT) (mx : Nat → Nat) (cnt : Nat) (T M : sT) : Prop :=
  (3 ≤ N ∧ N ≤ 5) ∧ (∀ j, T (rp N j) = F j) ∧ UOK U mx N cnt ∧ CLk cnt T ∧ RC N T M ∧ ∀ i, i < N → NK U mx N cnt i T ∧ RN N i T M
def JJ (N : Nat) (S M : sT) : Prop := ∃ U mx cnt, KI N M U mx cnt (emb N S M) M
-- changes of one node
def Eff (N i : Nat) (T T' : sT) : Prop := ∀ p, (p < 7 ∨ (∃ a j, a < N ∧ a ≠ i ∧ j < 14 ∧ p = pl a j) ∨ ∃ j, p = rp N j) → T' p = T p
def ownM (i j k : Nat) : Prop := (j = 5 ∧ 144 * i ≤ k ∧ k < 144 * i + 144) ∨ (6 ≤ j ∧ j ≤ 11 ∧ k = i) ∨ (12 ≤ j ∧ j ≤ 16 ∧ 8 * i ≤ k ∧ k < 8 * i + 8) ∨ (j = 17 ∧ 40 * i ≤ k ∧ k < 40 * i + 40) ∨ (18 ≤ j) ∨ (j = 0 ∧ k = 19)
def EfM (i : Nat) (M M' : sT) : Prop := ∀ j k, ¬ ownM i j k → M' j k = M j k
theorem Eff.rf {N i : Nat} {T : sT} : Eff N i T T := fun _ _ => rfl
theorem Eff.tr {N i : Nat} {T T' T'' : sT} (h : Eff N i T T') (h' : Eff N i T' T'') : Eff N i T T'' := fun p hp => (h' p hp).trans (h p hp)
theorem Eff.u {N i j k : Nat} {v : Int32} {T T' : sT} (h : Eff N i T T') (hi : i < N) (hj : j < 14) : Eff N i T (u2 T' (pl i j) k v) := by
  intro p hp
  rw [← h p hp]
  apply u2_row
  rcases hp with hp | ⟨a, j', h1, h2, h3, rfl⟩ | ⟨j', rfl⟩
  · intro z; unfold pl at z; omega
  · exact pl_ne h3 hj (fun z => h2 z.1)
  · intro z; unfold pl rp at z; omega
theorem EfM.rf {i : Nat} {M : sT} : EfM i M M := fun _ _ _ => rfl
theorem EfM.tr {i : Nat} {M M' M'' : sT} (h : EfM i M M') (h' : EfM i M' M'') : EfM i M M'' := fun j k hn => (h' j k hn).trans (h j k hn)
theorem EfM.u {i j k : Nat} {v : Int32} {M M' : sT} (h : EfM i M M') (ho : ownM i j k) : EfM i M (u2 M' j k v) := by
  intro j' k' hn
  rw [← h j' k' hn]
  apply u2_off
  rintro ⟨rfl, rfl⟩
  exact hn ho
theorem NK.other {U : uT} {mx : Nat → Nat} {N cnt i a : Nat} {T T' : sT} (h : NK U mx N cnt a T) (he : Eff N i T T') (ha : a < N) (hi : a ≠ i) : NK U mx N cnt a T' := by
  have e : ∀ j, j < 14 → T' (pl a j) = T (pl a j) := fun j hj => he _ (Or.inr (Or.inl ⟨a, j, ha, hi, hj, rfl⟩))
  unfold NK at *
  rw [e 0 (by decide), e 2 (by decide), e 3 (by decide), e 4 (by decide), e 5 (by decide), e 6 (by decide), e 7 (by decide), e 8 (by decide), e 9 (by decide), e 10 (by decide), e 11 (by decide), e 12 (by decide), e 13 (by decide), he 2 (Or.inl (by decide)), he 3 (Or.inl (by decide))]
  exact h
theorem RN.other {N i a : Nat} {T T' M M' : sT} (h : RN N a T M) (he : Eff N i T T') (hm : EfM i M M') (ha : a < N) (hi : a ≠ i) (hN : N ≤ 5) : RN N a T' M' := by
  have e : ∀ j, j < 14 → T' (pl a j) = T (pl a j) := fun j hj => he _ (Or.inr (Or.inl ⟨a, j, ha, hi, hj, rfl⟩))
  unfold RN at *
  rw [e 0 (by decide), e 2 (by decide), e 3 (by decide), e 4 (by decide), e 5 (by decide), e 6 (by decide), e 7 (by decide), e 8 (by decide), e 10 (by decide)]
  obtain ⟨h1, h2, h3, h4, h5, h6, h7, h8, h9, h10, h11⟩ := h
  refine ⟨fun k hk => ?_, ?_, ?_, ?_, ?_, ?_, ?_, fun s hs => ?_, fun s hs => ?_, fun hb s hs => ⟨?_, ?_, ?_⟩, fun b hb s hs => ?_⟩
  · rw [hm _ _ (by unfold ownM; omega)]; exact h1 k hk
  · rw [hm _ _ (by unfold ownM; omega)]; exact h2
  · rw [hm _ _ (by unfold ownM; omega)]; exact h3
  · rw [hm _ _ (by unfold ownM; omega)]; exact h4
  · rw [hm _ _ (by unfold ownM; omega)]; exact h5
  · rw [hm _ _ (by unfold ownM; omega)]; exact h6
  · rw [hm _ _ (by unfold ownM; omega)]; exact h7
  · rw [hm _ _ (by unfold ownM; omega)]; exact h8 s hs
  · rw [hm _ _ (by unfold ownM; omega)]; exact h9 s hs
  · rw [hm _ _ (by unfold ownM; omega)]; exact (h10 hb s hs).1
  · rw [hm _ _ (by unfold ownM; omega)]; exact (h10 hb s hs).2.1
  · rw [hm _ _ (by unfold ownM; omega)]; exact (h10 hb s hs).2.2
  · rw [hm _ _ (by unfold ownM; omega)]; exact h11 b hb s hs
theorem KI.stepU {N i cnt : Nat} {F : sT} {U U' : uT} {mx mx' : Nat → Nat} {T T' M M' : sT} (h : KI N F U mx cnt T M) (hi : i < N) (he : Eff N i T T') (hm : EfM i M M') (hu : UOK U' mx' N cnt) (ho : ∀ a, a < N → a ≠ i → NK U' mx' N cnt a T) (h1 : NK U' mx' N cnt i T') (h2 : RN N i T' M') : KI N F U' mx' cnt T' M' := by
  obtain ⟨a, b, c, d, e, f⟩ := h
  refine ⟨a, fun j => (he _ (Or.inr (Or.inr ⟨j, rfl⟩))).trans (b j), hu, ?_, ?_, fun x hx => ?_⟩
  · unfold CLk at *
    rw [he 1 (Or.inl (by decide)), he 2 (Or.inl (by decide))]
    exact d
  · unfold RC at *
    rw [hm 0 0 (by unfold ownM; omega), hm 0 1 (by unfold ownM; omega), he 1 (Or.inl (by decide)), he 2 (Or.inl (by decide)), he 3 (Or.inl (by decide)), he 4 (Or.inl (by decide)), he 5 (Or.inl (by decide))]
    refine ⟨e.1, e.2.1, fun q hq => ?_⟩
    rw [hm 1 q (by unfold ownM; omega), hm 2 q (by unfold ownM; omega), hm 3 q (by unfold ownM; omega), hm 4 q (by unfold ownM; omega)]
    exact e.2.2 q hq
  · by_cases hx2 : x = i
    · subst hx2
      exact ⟨h1, h2⟩
    · exact ⟨(ho x hx hx2).other he hx hx2, (f x hx).2.other he hm hx hx2 a.2⟩
theorem KI.step {N i cnt : Nat} {F : sT} {U : uT} {mx : Nat → Nat} {T T' M M' : sT} (h : KI N F U mx cnt T M) (hi : i < N) (he : Eff N i T T') (hm : EfM i M M') (h1 : NK U mx N cnt i T') (h2 : RN N i T' M') : KI N F U mx cnt T' M' :=
  h.stepU hi he hm h.2.2.1 (fun a ha _ => (h.2.2.2.2.2 a ha).1) h1 h2
