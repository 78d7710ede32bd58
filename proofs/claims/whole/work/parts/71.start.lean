-- the other side's constructor: the disk's bytes, a node, all five
def rDkL (a : Nat) (M : sT) : Nat → sT
  | 0 => M
  | k + 1 => u2 (rDkL a M k) 5 (144 * a + k) (if k % 8 < 4 then 0 else 255)
def rIn1 (N a : Nat) (M : sT) : sT := rDkL a (rForget a (u2 (u2 M 6 a (if a < N then 1 else 0)) 8 a (-1))) 144
def rInL (N : Nat) (M : sT) : Nat → sT
  | 0 => M
  | k + 1 => rIn1 N k (rInL N M k)
theorem rDk_o {a j x : Nat} {M : sT} : ∀ k, ¬ (j = 5 ∧ 144 * a ≤ x ∧ x < 144 * a + k) → rDkL a M k j x = M j x
  | 0, _ => rfl
  | k + 1, h => by
    rw [show rDkL a M (k + 1) = u2 (rDkL a M k) 5 (144 * a + k) (if k % 8 < 4 then 0 else 255) from rfl, u2_off (by omega), rDk_o k (by omega)]
theorem rDk_a {a x : Nat} {M : sT} : ∀ k, x < k → rDkL a M k 5 (144 * a + x) = if x % 8 < 4 then 0 else 255
  | 0, h => absurd h (Nat.not_lt_zero _)
  | k + 1, h => by
    rw [show rDkL a M (k + 1) = u2 (rDkL a M k) 5 (144 * a + k) (if k % 8 < 4 then 0 else 255) from rfl]
    by_cases e : x = k
    · subst e; exact u2_at
    · rw [u2_off (by omega), rDk_a k (by omega)]
theorem EfM.in1 {N a : Nat} {M : sT} : EfM a M (rIn1 N a M) := by
  intro j k hn
  unfold ownM at hn
  unfold rIn1 rForget
  rw [rDk_o 144 (by omega), rBegL_o (by omega) 8 (by omega), rFgL_o (by omega) 8 (by omega), u2_off (by omega), u2_off (by omega)]
theorem in1_5 {N a x : Nat} {M : sT} (h : x < 144) : rIn1 N a M 5 (144 * a + x) = if x % 8 < 4 then 0 else 255 := rDk_a 144 h
theorem in1_6 {N a : Nat} {M : sT} (h : a < N) : rIn1 N a M 6 a = 1 := by
  unfold rIn1 rForget
  rw [rDk_o 144 (by omega), rBegL_o (by omega) 8 (by omega), rFgL_o (by omega) 8 (by omega), u2_off (by omega), u2_at, if_pos h]
theorem in1_8 {N a : Nat} {M : sT} : rIn1 N a M 8 a = (-1) := by
  unfold rIn1 rForget
  rw [rDk_o 144 (by omega), rBegL_o (by omega) 8 (by omega), rFgL_o (by omega) 8 (by omega), u2_at]
theorem in1_n {N a j : Nat} {M : sT} (h : j = 7 ∨ j = 9 ∨ j = 10) : rIn1 N a M j a = 0 := by
  unfold rIn1 rForget
  rw [rDk_o 144 (by omega), rBegL_o (by omega) 8 (by omega), rFgL_n (by omega) 8]
theorem in1_11 {N a : Nat} {M : sT} : rIn1 N a M 11 a = 0 := by
  unfold rIn1 rForget
  rw [rDk_o 144 (by omega), rBegL_11 8]
theorem in1_12 {N a x : Nat} {M : sT} (h : 8 * a ≤ x) (h2 : x < 8 * a + 8) : rIn1 N a M 12 x = 0 ∧ rIn1 N a M 15 x = (-1) := by
  unfold rIn1 rForget
  rw [rDk_o 144 (by omega), rDk_o 144 (by omega), rBegL_o (by omega) 8 (by omega), rBegL_o (by omega) 8 (by omega)]
  exact rFgL_a h 8 h2
theorem in1_17 {N a x : Nat} {M : sT} : rIn1 N a M 17 x = M 17 x := by
  unfold rIn1 rForget
  rw [rDk_o 144 (by omega), rBegL_o (by omega) 8 (by omega), rFgL_o (by omega) 8 (by omega), u2_off (by omega), u2_off (by omega)]
-- what stands at a node's own places behind all five turns is what its own turn left
theorem inL_late {N i j x : Nat} {M : sT} (hi : i < 5) (ho : ownM i j x) (hj : 5 ≤ j) (hj2 : j < 18) : ∀ k, i < k → k ≤ 5 → rInL N M k j x = rIn1 N i (rInL N M i) j x
  | 0, h, _ => absurd h (Nat.not_lt_zero _)
  | k + 1, h, h5 => by
    rw [show rInL N M (k + 1) = rIn1 N k (rInL N M k) from rfl]
    by_cases e : i = k
    · subst e; rfl
    · rw [EfM.in1 j x (by unfold ownM at *; omega), inL_late hi ho hj hj2 k (by omega) (by omega)]
theorem inL_0 {N x : Nat} {j : Nat} {M : sT} (hj : j < 5) : ∀ k, rInL N M k j x = if j = 0 ∧ x = 19 then rInL N M k 0 19 else M j x
  | 0 => by
    split
    · rename_i h; rw [h.1, h.2]
    · rfl
  | k + 1 => by
    rw [show rInL N M (k + 1) = rIn1 N k (rInL N M k) from rfl]
    split
    · rename_i h; rw [h.1, h.2]
    · rename_i h
      rw [EfM.in1 j x (by unfold ownM; omega), inL_0 hj k, if_neg h]
theorem inL_17 {N x : Nat} {M : sT} : ∀ k, rInL N M k 17 x = M 17 x
  | 0 => rfl
  | k + 1 => by rw [show rInL N M (k + 1) = rIn1 N k (rInL N M k) from rfl, in1_17, inL_17 k]
theorem inL_00 {N : Nat} {M : sT} (k : Nat) : rInL N M k 0 0 = M 0 0 := by rw [inL_0 (by decide) k, if_neg (by omega)]
-- the start: the system's state, the other side's
def S0n (N i : Nat) : Nat → Nat → Int32
  | 0 => fun k => if k = 0 then nI i else if k = 5 then 1 else if k = 8 then (-1) else 0
  | 2 => dk0 18
  | 4 => fun k => if k = 0 then nI N else 0
  | 10 => fT (fun _ => 0) (-1) 9
  | 11 => fT (fun _ => 0) 0 4
  | 12 => fT (fun _ => 0) 0 31
  | 13 => fT (fun _ => 0) 0 31
  | _ => fun _ => 0
def S0 (N : Nat) : sT := fun p => if p < 7 then (fun _ => 0) else S0n N ((p - 7) / 14) ((p - 7) % 14)
def M0 (N : Nat) : sT := fun j k => if j = 0 ∧ k = 0 then nI N else 0
theorem S0_at {N i j : Nat} (hj : j < 14) : S0 N (pl i j) = S0n N i j := by
  have h2 : (14 * i + j) / 14 = i := by omega
  have h3 : (14 * i + j) % 14 = j := by omega
  unfold S0
  rw [if_neg (by unfold pl; omega), show pl i j - 7 = 14 * i + j by unfold pl; omega, h2, h3]
theorem dk_all : ∀ k, k < 144 → dk0 18 k = if k % 8 < 4 then 0 else 255 := by decide +kernel
theorem dk_bal : ∀ s, s < 18 → balF (dk0 18) s = 0 := by
  intro s hs
  unfold balF
  rw [dk_all _ (by omega), dk_all _ (by omega), if_pos (by omega), if_pos (by omega)]
  rfl
theorem fT_c : ∀ s, s < 9 → fT (fun _ => 0) (-1) 9 s = (-1 : Int32) := by decide +kernel
theorem fT_n : ∀ s, s < 4 → fT (fun _ => 0) 0 4 s = (0 : Int32) := by decide +kernel
theorem fT_q : ∀ s, s < 31 → fT (fun _ => 0) 0 31 s = (0 : Int32) := by decide +kernel
theorem JJ_start {N : Nat} (hN3 : 3 ≤ N) (hN : N ≤ 5) : JJ N (S0 N) (rInL N (M0 N) 5) := by
  have e : ∀ i, i < N → ∀ j, j < 14 → emb N (S0 N) (rInL N (M0 N) 5) (pl i j) = S0n N i j := by
    intro i hi j hj
    rw [← S0_at hj]
    funext x
    exact if_pos (by unfold pl; omega)
  have c : ∀ p, p < 7 → ∀ x, emb N (S0 N) (rInL N (M0 N) 5) p x = 0 := by
    intro p hp x
    rw [show emb N (S0 N) (rInL N (M0 N) 5) p x = S0 N p x from if_pos (by omega)]
    unfold S0
    rw [if_pos hp]
  refine ⟨fun _ _ _ => False, fun _ => 0, 0, ⟨hN3, hN⟩, fun j => ?_, ⟨fun _ _ _ _ h => absurd h id, fun _ _ _ h => absurd h id⟩, ⟨by decide, c 1 (by decide) 4, fun q hq => ⟨0, by decide, c 2 (by decide) q⟩⟩, ⟨?_, ?_, fun q hq => ⟨?_, ?_, ?_, ?_⟩⟩, fun i hi => ⟨?_, ?_⟩⟩
  · funext x; exact emb_at
  · rw [inL_00]; rfl
  · rw [inL_0 (by decide) 5, if_neg (by omega), c 1 (by decide) 4]; rfl
  · rw [inL_0 (by decide) 5, if_neg (by omega), c 2 (by decide) q]; rfl
  · rw [inL_0 (by decide) 5, if_neg (by omega), c 3 (by decide) q]; rfl
  · rw [inL_0 (by decide) 5, if_neg (by omega), c 4 (by decide) q]; rfl
  · rw [inL_0 (by decide) 5, if_neg (by omega), c 5 (by decide) q]; rfl
  · have e := e i hi
    unfold NK
    rw [e 0 (by decide), e 2 (by decide), e 3 (by decide), e 4 (by decide), e 5 (by decide), e 6 (by decide), e 7 (by decide), e 8 (by decide), e 9 (by decide), e 10 (by decide), e 11 (by decide), e 12 (by decide), e 13 (by decide)]
    refine ⟨⟨fun k hk => ?_, fun s h1 h2 _ => Or.inl (dk_bal _ (by omega)), fun t ht _ => ⟨0, by decide, dk_bal t (by omega), Nat.le_refl _⟩⟩, fun s h1 h2 => Or.inl rfl, fun a ha s h1 h2 => Or.inl rfl, ⟨rfl, ⟨0, by decide, rfl, fun _ _ => Nat.le_refl _⟩, Or.inl rfl⟩, ⟨rfl, 0, 0, rfl, rfl, by decide, by decide, fun _ => rfl, fun z => absurd rfl z⟩, fun s h1 h2 => Or.inl (fT_c s h2), ⟨0, by decide, rfl, fun s h1 h2 => absurd h1 (by omega), fun _ => fT_c 1 (by decide), fun k hk => fT_n k hk, fun q hq => fT_q q hq, fun q hq => fT_q q hq⟩, fun z => absurd z (by show ¬ (1 : Int32) = 0; decide)⟩
    show ∃ x, x < 256 ∧ dk0 18 k = nI x
    rw [dk_all k hk]
    split
    · exact ⟨0, by decide, rfl⟩
    · exact ⟨255, by decide, rfl⟩
  · have e := e i hi
    have l : ∀ j x, ownM i j x → 5 ≤ j → j < 18 → rInL N (M0 N) 5 j x = rIn1 N i (rInL N (M0 N) i) j x := fun j x h1 h2 h3 => inL_late (by omega) h1 h2 h3 5 (by omega) (by decide)
    unfold RN
    rw [e 0 (by decide), e 2 (by decide), e 3 (by decide), e 4 (by decide), e 5 (by decide), e 6 (by decide), e 7 (by decide), e 8 (by decide), e 10 (by decide)]
    refine ⟨fun k hk => ?_, ?_, ?_, ?_, ?_, ?_, ?_, fun s hs => ?_, fun s hs => ?_, fun z => absurd rfl z, fun a ha s hs => ?_⟩
    · rw [l _ _ (by unfold ownM; omega) (by decide) (by decide), in1_5 hk]; exact (dk_all k hk).symm
    · rw [l _ _ (by unfold ownM; omega) (by decide) (by decide), in1_6 hi]; rfl
    · rw [l _ _ (by unfold ownM; omega) (by decide) (by decide), in1_n (by omega)]; rfl
    · rw [l _ _ (by unfold ownM; omega) (by decide) (by decide), in1_n (by omega)]; rfl
    · rw [l _ _ (by unfold ownM; omega) (by decide) (by decide), in1_8]; rfl
    · rw [l _ _ (by unfold ownM; omega) (by decide) (by decide), in1_n (by omega)]; rfl
    · rw [l _ _ (by unfold ownM; omega) (by decide) (by decide), in1_11]; rfl
    · rw [l _ _ (by unfold ownM; omega) (by decide) (by decide), (in1_12 (by omega) (by omega)).1]; rfl
    · rw [l _ _ (by unfold ownM; omega) (by decide) (by decide), (in1_12 (by omega) (by omega)).2]; exact (fT_c _ (by omega)).symm
    · rw [inL_17]; rfl
