-- what the functions of both sides do to the rows
theorem pln {i j j' : Nat} (h : j ≠ j') : pl i j ≠ pl i j' := by
  unfold pl
  omega
theorem u2_up {S : sT} {p k : Nat} {v : Int32} : u2 S p k v p = upd (S p) k v := u2_upd.symm
theorem upd_at {f : Nat → Int32} {k : Nat} {v : Int32} : upd f k v k = v := by simp [upd]
theorem upd_off {f : Nat → Int32} {k j : Nat} {v : Int32} (h : j ≠ k) : upd f k v j = f j := by simp [upd, h]
-- sectors
def tornF (f : Nat → Int32) (b : Nat) (x y c : Int32) : Nat → Int32 := fun k =>
  if k = b then x else if k = b + 1 then y else if k = b + 2 then c / 256 else if k = b + 3 then c - c / 256 * 256 else f k
def wholF (f : Nat → Int32) (b : Nat) (x y c : Int32) : Nat → Int32 := fun k =>
  if k = b then x else if k = b + 1 then y else if k = b + 2 then c / 256 else if k = b + 3 then c - c / 256 * 256 else
  if k = b + 4 then x ^^^ 255 else if k = b + 5 then y ^^^ 255 else if k = b + 6 then (c / 256) ^^^ 255 else if k = b + 7 then (c - c / 256 * 256) ^^^ 255 else f k
theorem putC_row {S : sT} {p b : Nat} {x y c : Int32} : putC S p b x y c p = tornF (S p) b x y c := by
  funext k
  unfold putC tornF
  by_cases h3 : k = b + 3
  · subst h3; simp [u2]
  · by_cases h2 : k = b + 2
    · subst h2; simp [u2]
    · by_cases h1 : k = b + 1
      · subst h1; simp [u2]
      · by_cases h0 : k = b
        · subst h0; simp [u2]
        · simp [u2, h0, h1, h2, h3]
theorem putC_off {S : sT} {p q b : Nat} {x y c : Int32} (h : q ≠ p) : putC S p b x y c q = S q := by
  unfold putC
  rw [u2_row h, u2_row h, u2_row h, u2_row h]
theorem seal_off {S : sT} {p q b : Nat} (h : q ≠ p) : sealS S p b q = S q := by
  unfold sealS seal1
  rw [u2_row h, u2_row h, u2_row h, u2_row h]
theorem seal_row {S : sT} {p b : Nat} {x y c : Int32} : sealS (putC S p b x y c) p b p = wholF (S p) b x y c := by
  funext k
  unfold sealS seal1 wholF
  rw [show putC S p b x y c = u2 (u2 (u2 (u2 S p b x) p (b + 1) y) p (b + 2) (c / 256)) p (b + 3) (c - c / 256 * 256) from rfl]
  by_cases h7 : k = b + 7
  · subst h7; simp [u2]
  · by_cases h6 : k = b + 6
    · subst h6; simp [u2]
    · by_cases h5 : k = b + 5
      · subst h5; simp [u2]
      · by_cases h4 : k = b + 4
        · subst h4; simp [u2]
        · by_cases h3 : k = b + 3
          · subst h3; simp [u2]
          · by_cases h2 : k = b + 2
            · subst h2; simp [u2]
            · by_cases h1 : k = b + 1
              · subst h1; simp [u2]
              · by_cases h0 : k = b
                · subst h0; simp [u2]; rw [if_neg (by omega), if_neg (by omega), if_neg (by omega)]
                · simp [u2, h0, h1, h2, h3, h4, h5, h6, h7]
-- a ledger forgotten
theorem fgC_o {i p : Nat} {S : sT} (h : p ≠ pl i 10) : ∀ n, fgC i S n p = S p
  | 0 => rfl
  | n + 1 => by rw [show fgC i S (n + 1) = u2 (fgC i S n) (pl i 10) n (-1) from rfl, u2_row h, fgC_o h n]
theorem fgC_a {i k : Nat} {S : sT} : ∀ n, k < n → fgC i S n (pl i 10) k = (-1)
  | 0, h => absurd h (Nat.not_lt_zero _)
  | n + 1, h => by
    rw [show fgC i S (n + 1) = u2 (fgC i S n) (pl i 10) n (-1) from rfl]
    by_cases e : k = n
    · subst e; exact u2_at
    · rw [u2_off (fun z => e z.2), fgC_a n (by omega)]
theorem fgN_o {i p : Nat} {S : sT} (h : p ≠ pl i 11) : ∀ n, fgN i S n p = S p
  | 0 => rfl
  | n + 1 => by rw [show fgN i S (n + 1) = u2 (fgN i S n) (pl i 11) n 0 from rfl, u2_row h, fgN_o h n]
theorem fgN_a {i k : Nat} {S : sT} : ∀ n, k < n → fgN i S n (pl i 11) k = 0
  | 0, h => absurd h (Nat.not_lt_zero _)
  | n + 1, h => by
    rw [show fgN i S (n + 1) = u2 (fgN i S n) (pl i 11) n 0 from rfl]
    by_cases e : k = n
    · subst e; exact u2_at
    · rw [u2_off (fun z => e z.2), fgN_a n (by omega)]
theorem fgA_o {i p : Nat} {S : sT} (h : p ≠ pl i 12) (h2 : p ≠ pl i 13) : ∀ n, fgA i S n p = S p
  | 0 => rfl
  | n + 1 => by rw [show fgA i S (n + 1) = u2 (u2 (fgA i S n) (pl i 12) n 0) (pl i 13) n 0 from rfl, u2_row h2, u2_row h, fgA_o h h2 n]
theorem fgA_a {i k : Nat} {S : sT} : ∀ n, k < n → fgA i S n (pl i 12) k = 0 ∧ fgA i S n (pl i 13) k = 0
  | 0, h => absurd h (Nat.not_lt_zero _)
  | n + 1, h => by
    rw [show fgA i S (n + 1) = u2 (u2 (fgA i S n) (pl i 12) n 0) (pl i 13) n 0 from rfl]
    have n1 : pl i 12 ≠ pl i 13 := pln (by decide)
    rw [u2_row n1]
    by_cases e : k = n
    · subst e
      refine ⟨u2_at, u2_at⟩
    · rw [u2_off (fun z => e z.2), u2_off (fun z => e z.2), u2_row (fun z => n1 z.symm)]
      exact fgA_a n (by omega)
theorem forget_o {i p : Nat} {S : sT} (h9 : p ≠ pl i 9) (h10 : p ≠ pl i 10) (h11 : p ≠ pl i 11) (h12 : p ≠ pl i 12) (h13 : p ≠ pl i 13) : forgetS i S p = S p := by
  unfold forgetS
  rw [u2_row h9, fgA_o h12 h13, fgN_o h11, fgC_o h10]
theorem forget_9 {i : Nat} {S : sT} : forgetS i S (pl i 9) 5 = 0 := u2_at
theorem forget_10 {i k : Nat} {S : sT} (h : k < 9) : forgetS i S (pl i 10) k = (-1) := by
  unfold forgetS
  rw [u2_row (pln (by decide)), fgA_o (pln (by decide)) (pln (by decide)), fgN_o (pln (by decide)), fgC_a 9 h]
theorem forget_11 {i k : Nat} {S : sT} (h : k < 4) : forgetS i S (pl i 11) k = 0 := by
  unfold forgetS
  rw [u2_row (pln (by decide)), fgA_o (pln (by decide)) (pln (by decide)), fgN_a 4 h]
theorem forget_12 {i k : Nat} {S : sT} (h : k < 31) : forgetS i S (pl i 12) k = 0 := by
  unfold forgetS
  rw [u2_row (pln (by decide)), (fgA_a 31 h).1]
theorem forget_13 {i k : Nat} {S : sT} (h : k < 31) : forgetS i S (pl i 13) k = 0 := by
  unfold forgetS
  rw [u2_row (pln (by decide)), (fgA_a 31 h).2]
-- a node that goes down
theorem downL_o {i p : Nat} {S : sT} (h : p ≠ pl i 3) : ∀ n, downL i S n p = downL i S 0 p
  | 0 => rfl
  | n + 1 => by rw [show downL i S (n + 1) = u2 (downL i S n) (pl i 3) (n + 1) 0 from rfl, u2_row h, downL_o h n]
theorem downL_3 {i k : Nat} {S : sT} : ∀ n, 1 ≤ k → k ≤ n → downL i S n (pl i 3) k = 0
  | 0, h, h' => absurd h' (by omega)
  | n + 1, h, h' => by
    rw [show downL i S (n + 1) = u2 (downL i S n) (pl i 3) (n + 1) 0 from rfl]
    by_cases e : k = n + 1
    · subst e; exact u2_at
    · rw [u2_off (fun z => e z.2), downL_3 n h (by omega)]
theorem down_3 {i k : Nat} {S : sT} (h : 1 ≤ k) (h' : k < 9) : downS i S (pl i 3) k = 0 := downL_3 8 h (by omega)
theorem down_b {i p : Nat} {S : sT} (h : p ≠ pl i 3) : downS i S p = forgetS i (endS i (u2 (u2 (u2 (u2 S (pl i 0) 5 0) (pl i 0) 6 0) (pl i 0) 7 0) (pl i 0) 8 (-1))) p := downL_o h 8
theorem down_o {i j : Nat} {S : sT} (h : j = 1 ∨ j = 2 ∨ j = 5 ∨ j = 6 ∨ j = 7 ∨ j = 8) : downS i S (pl i j) = S (pl i j) := by
  rw [down_b (pln (by omega)), forget_o (pln (by omega)) (pln (by omega)) (pln (by omega)) (pln (by omega)) (pln (by omega))]
  unfold endS
  rw [u2_row (pln (by omega)), u2_row (pln (by omega)), u2_row (pln (by omega)), u2_row (pln (by omega)), u2_row (pln (by omega)), u2_row (pln (by omega))]
theorem down_0 {i : Nat} {S : sT} : downS i S (pl i 0) = upd (upd (upd (upd (S (pl i 0)) 5 0) 6 0) 7 0) 8 (-1) := by
  rw [down_b (pln (by omega)), forget_o (pln (by omega)) (pln (by omega)) (pln (by omega)) (pln (by omega)) (pln (by omega))]
  unfold endS
  rw [u2_row (pln (by omega)), u2_row (pln (by omega)), u2_up, u2_up, u2_up, u2_up]
theorem down_4 {i : Nat} {S : sT} : downS i S (pl i 4) = upd (upd (S (pl i 4)) 5 0) 6 0 := by
  rw [down_b (pln (by omega)), forget_o (pln (by omega)) (pln (by omega)) (pln (by omega)) (pln (by omega)) (pln (by omega))]
  unfold endS
  rw [u2_up, u2_up, u2_row (pln (by omega)), u2_row (pln (by omega)), u2_row (pln (by omega)), u2_row (pln (by omega))]
theorem down_9 {i : Nat} {S : sT} : downS i S (pl i 9) 5 = 0 := by rw [down_b (pln (by omega))]; exact forget_9
theorem down_10 {i k : Nat} {S : sT} (h : k < 9) : downS i S (pl i 10) k = (-1) := by rw [down_b (pln (by omega))]; exact forget_10 h
theorem down_11 {i k : Nat} {S : sT} (h : k < 4) : downS i S (pl i 11) k = 0 := by rw [down_b (pln (by omega))]; exact forget_11 h
theorem down_12 {i k : Nat} {S : sT} (h : k < 31) : downS i S (pl i 12) k = 0 := by rw [down_b (pln (by omega))]; exact forget_12 h
theorem down_13 {i k : Nat} {S : sT} (h : k < 31) : downS i S (pl i 13) k = 0 := by rw [down_b (pln (by omega))]; exact forget_13 h
-- a change of one node, for each function
section EFF
variable {N i : Nat} {S : sT}
theorem Eff.fgC (hi : i < N) : ∀ n, Eff N i S (fgC i S n)
  | 0 => Eff.rf
  | n + 1 => (Eff.fgC hi n).u hi (by decide)
theorem Eff.fgN (hi : i < N) : ∀ n, Eff N i S (fgN i S n)
  | 0 => Eff.rf
  | n + 1 => (Eff.fgN hi n).u hi (by decide)
theorem Eff.fgA (hi : i < N) : ∀ n, Eff N i S (fgA i S n)
  | 0 => Eff.rf
  | n + 1 => ((Eff.fgA hi n).u hi (by decide)).u hi (by decide)
theorem Eff.forget (hi : i < N) : Eff N i S (forgetS i S) := (((Eff.fgC hi 9).tr (Eff.fgN hi 4)).tr (Eff.fgA hi 31)).u hi (by decide)
theorem Eff.down (hi : i < N) : Eff N i S (downS i S) := by
  have h : ∀ n, Eff N i S (downL i S n) := by
    intro n
    induction n with
    | zero => exact ((((((Eff.rf.u hi (by decide)).u hi (by decide)).u hi (by decide)).u hi (by decide)).u hi (by decide)).u hi (by decide)).tr (Eff.forget hi)
    | succ n ih => exact ih.u hi (by decide)
  exact h 8
theorem Eff.putC {b : Nat} {x y c : Int32} (hi : i < N) : Eff N i S (putC S (pl i 2) b x y c) := (((Eff.rf.u hi (by decide)).u hi (by decide)).u hi (by decide)).u hi (by decide)
theorem Eff.seal {b : Nat} (hi : i < N) : Eff N i S (sealS S (pl i 2) b) := by
  unfold sealS seal1
  exact (((Eff.rf.u hi (by decide)).u hi (by decide)).u hi (by decide)).u hi (by decide)
theorem Eff.ws {s : Nat} {x y c : Int32} (hi : i < N) : Eff N i S (wsecS i s x y c S) := by
  unfold wsecS
  split
  · exact (Eff.putC hi).tr (Eff.down hi)
  · split
    · exact (Eff.putC hi).tr (Eff.seal hi)
    · exact ((Eff.putC hi).tr (Eff.seal hi)).u hi (by decide)
end EFF
-- the other side
theorem rBegL_o {n j x : Nat} {M : sT} (h : ¬ (j = 11 ∧ x = n)) : ∀ k, ¬ ((j = 13 ∨ j = 14 ∨ j = 16) ∧ 8 * n ≤ x ∧ x < 8 * n + k) → rBegL n M k j x = M j x
  | 0, _ => u2_off h
  | k + 1, h2 => by
    rw [show rBegL n M (k + 1) = u2 (u2 (u2 (rBegL n M k) 13 (8 * n + k) 0) 14 (8 * n + k) (-1)) 16 (8 * n + k) 0 from rfl, u2_off (by omega), u2_off (by omega), u2_off (by omega)]
    exact rBegL_o h k (by omega)
theorem rBegL_11 {n : Nat} {M : sT} : ∀ k, rBegL n M k 11 n = 0
  | 0 => u2_at
  | k + 1 => by
    rw [show rBegL n M (k + 1) = u2 (u2 (u2 (rBegL n M k) 13 (8 * n + k) 0) 14 (8 * n + k) (-1)) 16 (8 * n + k) 0 from rfl, u2_off (by omega), u2_off (by omega), u2_off (by omega)]
    exact rBegL_11 k
theorem rBegL_a {n x : Nat} {M : sT} (h : 8 * n ≤ x) : ∀ k, x < 8 * n + k → rBegL n M k 13 x = 0 ∧ rBegL n M k 14 x = (-1) ∧ rBegL n M k 16 x = 0
  | 0, h2 => absurd h2 (by omega)
  | k + 1, h2 => by
    rw [show rBegL n M (k + 1) = u2 (u2 (u2 (rBegL n M k) 13 (8 * n + k) 0) 14 (8 * n + k) (-1)) 16 (8 * n + k) 0 from rfl]
    by_cases e : x = 8 * n + k
    · subst e
      refine ⟨?_, ?_, u2_at⟩
      · rw [u2_off (by omega), u2_off (by omega)]; exact u2_at
      · rw [u2_off (by omega)]; exact u2_at
    · rw [u2_off (by omega), u2_off (by omega), u2_off (by omega), u2_off (by omega), u2_off (by omega), u2_off (by omega), u2_off (by omega), u2_off (by omega), u2_off (by omega)]
      exact rBegL_a h k (by omega)
theorem rFgL_o {n j x : Nat} {M : sT} (h : ¬ ((j = 7 ∨ j = 9 ∨ j = 10 ∨ j = 11) ∧ x = n)) : ∀ k, ¬ ((j = 12 ∨ j = 15) ∧ 8 * n ≤ x ∧ x < 8 * n + k) → rFgL n M k j x = M j x
  | 0, _ => by
    rw [show rFgL n M 0 = u2 (u2 (u2 (u2 M 10 n 0) 9 n 0) 11 n 0) 7 n 0 from rfl, u2_off (by omega), u2_off (by omega), u2_off (by omega), u2_off (by omega)]
  | k + 1, h2 => by
    rw [show rFgL n M (k + 1) = u2 (u2 (rFgL n M k) 12 (8 * n + k) 0) 15 (8 * n + k) (-1) from rfl, u2_off (by omega), u2_off (by omega)]
    exact rFgL_o h k (by omega)
theorem rFgL_n {n j : Nat} {M : sT} (h : j = 7 ∨ j = 9 ∨ j = 10 ∨ j = 11) : ∀ k, rFgL n M k j n = 0
  | 0 => by
    rw [show rFgL n M 0 = u2 (u2 (u2 (u2 M 10 n 0) 9 n 0) 11 n 0) 7 n 0 from rfl]
    rcases h with rfl | rfl | rfl | rfl
    · exact u2_at
    · rw [u2_off (by omega), u2_off (by omega)]; exact u2_at
    · rw [u2_off (by omega), u2_off (by omega), u2_off (by omega)]; exact u2_at
    · rw [u2_off (by omega)]; exact u2_at
  | k + 1 => by
    rw [show rFgL n M (k + 1) = u2 (u2 (rFgL n M k) 12 (8 * n + k) 0) 15 (8 * n + k) (-1) from rfl, u2_off (by omega), u2_off (by omega)]
    exact rFgL_n h k
theorem rFgL_a {n x : Nat} {M : sT} (h : 8 * n ≤ x) : ∀ k, x < 8 * n + k → rFgL n M k 12 x = 0 ∧ rFgL n M k 15 x = (-1)
  | 0, h2 => absurd h2 (by omega)
  | k + 1, h2 => by
    rw [show rFgL n M (k + 1) = u2 (u2 (rFgL n M k) 12 (8 * n + k) 0) 15 (8 * n + k) (-1) from rfl]
    by_cases e : x = 8 * n + k
    · subst e
      exact ⟨by rw [u2_off (by omega)]; exact u2_at, u2_at⟩
    · rw [u2_off (by omega), u2_off (by omega), u2_off (by omega), u2_off (by omega)]
      exact rFgL_a h k (by omega)
-- behind falls
theorem rFalls_o {n j x : Nat} {M : sT} (h : ¬ ((6 ≤ j ∧ j ≤ 11) ∧ x = n)) (h2 : ¬ (12 ≤ j ∧ j ≤ 16 ∧ 8 * n ≤ x ∧ x < 8 * n + 8)) : rFalls n M j x = M j x := by
  unfold rFalls rForget
  rw [rBegL_o (by omega) 8 (by omega), rFgL_o (by omega) 8 (by omega), u2_off (by omega), u2_off (by omega)]
theorem rFalls_6 {n : Nat} {M : sT} : rFalls n M 6 n = 0 := by
  unfold rFalls rForget
  rw [rBegL_o (by omega) 8 (by omega), rFgL_o (by omega) 8 (by omega), u2_off (by omega)]
  exact u2_at
theorem rFalls_8 {n : Nat} {M : sT} : rFalls n M 8 n = (-1) := by
  unfold rFalls rForget
  rw [rBegL_o (by omega) 8 (by omega), rFgL_o (by omega) 8 (by omega)]
  exact u2_at
theorem rFalls_n {n j : Nat} {M : sT} (h : j = 7 ∨ j = 9 ∨ j = 10) : rFalls n M j n = 0 := by
  unfold rFalls rForget
  rw [rBegL_o (by omega) 8 (by omega)]
  exact rFgL_n (by omega) 8
theorem rFalls_11 {n : Nat} {M : sT} : rFalls n M 11 n = 0 := rBegL_11 8
theorem rFalls_12 {n x : Nat} {M : sT} (h : 8 * n ≤ x) (h2 : x < 8 * n + 8) : rFalls n M 12 x = 0 ∧ rFalls n M 15 x = (-1) := by
  unfold rFalls rForget
  rw [rBegL_o (by omega) 8 (by omega), rBegL_o (by omega) 8 (by omega)]
  exact rFgL_a h 8 h2
theorem EfM.falls {n : Nat} {M : sT} : EfM n M (rFalls n M) := fun j k hn => rFalls_o (by unfold ownM at hn; omega) (by unfold ownM at hn; omega)
theorem rT_5 {b x : Nat} {u v c : Int32} {M : sT} : rT b u v c M 5 x = tornF (M 5) b u v c x := by
  unfold rT tornF
  by_cases h3 : x = b + 3
  · subst h3; simp [u2]
  · by_cases h2 : x = b + 2
    · subst h2; simp [u2]
    · by_cases h1 : x = b + 1
      · subst h1; simp [u2]
      · by_cases h0 : x = b
        · subst h0; simp [u2]
        · by_cases h4 : x = b + 4
          · subst h4; simp [u2]
          · by_cases h5 : x = b + 5
            · subst h5; simp [u2]
            · by_cases h6 : x = b + 6
              · subst h6; simp [u2]
              · by_cases h7 : x = b + 7
                · subst h7; simp [u2]
                · simp [u2, h0, h1, h2, h3, h4, h5, h6, h7]
theorem rT_o {b j : Nat} {u v c : Int32} {M : sT} (h : j ≠ 5) : rT b u v c M j = M j := by
  unfold rT
  rw [u2_row h, u2_row h, u2_row h, u2_row h, u2_row h, u2_row h, u2_row h, u2_row h]
theorem rS4_o {b j : Nat} {u v c : Int32} {M : sT} (h : j ≠ 5) : rS4 b u v c M j = M j := by
  unfold rS4
  rw [u2_row h, u2_row h, u2_row h, u2_row h, u2_row h, u2_row h, u2_row h, u2_row h]
theorem rS4_5 {b x : Nat} {u v c : Int32} {M : sT} (hu : 255 - u = u ^^^ 255) (hv : 255 - v = v ^^^ 255) (hc : 255 - c / 256 = (c / 256) ^^^ 255) (hd : 255 - (c - c / 256 * 256) = (c - c / 256 * 256) ^^^ 255) : rS4 b u v c M 5 x = wholF (M 5) b u v c x := by
  unfold rS4 wholF
  rw [hu, hv, hc, hd]
  by_cases h3 : x = b + 3
  · subst h3; simp [u2]
  · by_cases h2 : x = b + 2
    · subst h2; simp [u2]
    · by_cases h1 : x = b + 1
      · subst h1; simp [u2]
      · by_cases h0 : x = b
        · subst h0; simp [u2]
        · by_cases h4 : x = b + 4
          · subst h4; simp [u2]
          · by_cases h5 : x = b + 5
            · subst h5; simp [u2]
            · by_cases h6 : x = b + 6
              · subst h6; simp [u2]
              · by_cases h7 : x = b + 7
                · subst h7; simp [u2]
                · simp [u2, h0, h1, h2, h3, h4, h5, h6, h7]
