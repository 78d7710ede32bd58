-- the other side's functions, a method each, over its state
abbrev rWk (n : Nat) (M : sT) : Prop := ¬ M 6 n = 0 ∧ M 7 n = 0
def rSum (x : Int32) : Nat → Int32
  | 0 => 0
  | k + 1 => rSum x k + (x >>> (nI k &&& 31) &&& 1)
abbrev rMany (M : sT) (x : Int32) : Prop := M 0 0 < 2 * rSum x 5
def rFgL (n : Nat) (M : sT) : Nat → sT
  | 0 => u2 (u2 (u2 (u2 M 10 n 0) 9 n 0) 11 n 0) 7 n 0
  | k + 1 => u2 (u2 (rFgL n M k) 12 (8 * n + k) 0) 15 (8 * n + k) (-1)
def rBegL (n : Nat) (M : sT) : Nat → sT
  | 0 => u2 M 11 n 0
  | k + 1 => u2 (u2 (u2 (rBegL n M k) 13 (8 * n + k) 0) 14 (8 * n + k) (-1)) 16 (8 * n + k) 0
def rForget (n : Nat) (M : sT) : sT := rBegL n (rFgL n M 8) 8
def rFalls (n : Nat) (M : sT) : sT := rForget n (u2 (u2 M 6 n 0) 8 n (-1))
abbrev rWrF (f : Nat → Int32) (b : Nat) : Prop := ¬ (f b ^^^ f (b + 4) = 255 ∧ f (b + 1) ^^^ f (b + 5) = 255 ∧ f (b + 2) ^^^ f (b + 6) = 255 ∧ f (b + 3) ^^^ f (b + 7) = 255)
def rBal (f : Nat → Int32) (b : Nat) : Int32 := f (b + 2) * 256 + f (b + 3)
-- a sector written: torn, whole
def rT (b : Nat) (x y c : Int32) (M : sT) : sT :=
  let M1 := u2 M 5 b x
  let M2 := u2 M1 5 (b + 4) (M1 5 (b + 4))
  let M3 := u2 M2 5 (b + 1) y
  let M4 := u2 M3 5 (b + 5) (M3 5 (b + 5))
  let M5 := u2 M4 5 (b + 2) (c / 256)
  let M6 := u2 M5 5 (b + 6) (M5 5 (b + 6))
  let M7 := u2 M6 5 (b + 3) (c - c / 256 * 256)
  u2 M7 5 (b + 7) (M7 5 (b + 7))
def rS4 (b : Nat) (x y c : Int32) (M : sT) : sT := u2 (u2 (u2 (u2 (u2 (u2 (u2 (u2 M 5 b x) 5 (b + 4) (255 - x)) 5 (b + 1) y) 5 (b + 5) (255 - y)) 5 (b + 2) (c / 256)) 5 (b + 6) (255 - c / 256)) 5 (b + 3) (c - c / 256 * 256)) 5 (b + 7) (255 - (c - c / 256 * 256))
def rWr (n s : Nat) (x y c : Int32) (M : sT) : sT :=
  if M 8 n = 0 then rFalls n (rT (144 * n + 8 * s) x y c (u2 M 8 n (M 8 n - 0)))
  else if M 8 n ≤ 0 then rS4 (144 * n + 8 * s) x y c (u2 M 8 n (M 8 n - 0)) else rS4 (144 * n + 8 * s) x y c (u2 M 8 n (M 8 n - 1))
abbrev rWrOk (n : Nat) (M : sT) : Prop := ¬ M 8 n = 0
abbrev rWPok (n : Nat) (b : Int32) (M : sT) : Prop := rWrOk n M ∧ rWrOk n (rWr n 0 0 0 b M)
def rWP (n : Nat) (b : Int32) (M : sT) : sT :=
  if rWrOk n M then (if rWrOk n (rWr n 0 0 0 b M) then u2 (rWr n 1 0 0 b (rWr n 0 0 0 b M)) 9 n b else rWr n 1 0 0 b (rWr n 0 0 0 b M)) else rWr n 0 0 0 b M
abbrev rWVok (n t : Nat) (c b : Int32) (M : sT) : Prop := rWrOk n M ∧ rWrOk n (rWr n (2 * t + 2) (nI (t + 1)) c b M)
def rWV (n t : Nat) (c b : Int32) (M : sT) : sT :=
  if rWrOk n M then (if rWrOk n (rWr n (2 * t + 2) (nI (t + 1)) c b M) then u2 (rWr n (2 * t + 3) (nI (t + 1)) 0 b (rWr n (2 * t + 2) (nI (t + 1)) c b M)) 12 (8 * n + t) (64 * b + c) else rWr n (2 * t + 3) (nI (t + 1)) 0 b (rWr n (2 * t + 2) (nI (t + 1)) c b M)) else rWr n (2 * t + 2) (nI (t + 1)) c b M
def rFound (n t : Nat) (M : sT) : Int32 :=
  if rWrF (M 5) (144 * n + 8 * (2 * t + 2)) then (if rWrF (M 5) (144 * n + 8 * (2 * t + 3)) then (-1000000) else if rBal (M 5) (144 * n + 8 * (2 * t + 3)) = 0 then 0 else (-2) - rBal (M 5) (144 * n + 8 * (2 * t + 3)))
  else if rBal (M 5) (144 * n + 8 * (2 * t + 2)) = 0 then 0 else 64 * rBal (M 5) (144 * n + 8 * (2 * t + 2)) + M 5 (144 * n + 16 * t + 17)
def rPf (n s : Nat) (M : sT) : Int32 := if rWrF (M 5) (144 * n + 8 * s) then 0 else rBal (M 5) (144 * n + 8 * s)
def rPr (n s : Nat) (M : sT) : sT := u2 M 9 n (if rPf n s M ≤ M 9 n then M 9 n else rPf n s M)
def rUp0 (n : Nat) (M : sT) : sT := u2 (u2 M 6 n 1) 7 n (zb (rWrF (M 5) (144 * n + 8 * 0) ∧ rWrF (M 5) (144 * n + 8 * 1)))
def rUpL (n : Nat) (M : sT) : Nat → sT
  | 0 => rPr n 1 (rPr n 0 (rUp0 n M))
  | k + 1 => u2 (rUpL n M k) 12 (k + 8 * n) (rFound n k (rUpL n M k))
def rFlip (n s t : Nat) (M : sT) : sT := u2 M 5 ((t / 8) + 144 * n + 8 * s) (M 5 ((t / 8) + 144 * n + 8 * s) ^^^ (1 <<< (nI (t % 8) &&& 31)))
def rClr (b : Nat) (M : sT) : Nat → sT
  | 0 => M
  | k + 1 => u2 (rClr b M k) 5 (b + k) 0
-- lead
def rSd (n : Nat) (M : sT) : Nat → Bool
  | 0 => decide (rWk n M)
  | k + 1 => rSd n M k && decide (¬ M 12 (8 * n + k) < 0)
def rNb (p b : Nat) : Nat := if p < b then b else b + 8 * ((p - b) / 8 + 1)
theorem rNb_lt {p b : Nat} (h : p < b) : rNb p b = b := if_pos h
theorem rNb_ge {p b : Nat} (h : ¬ p < b) : rNb p b = rNb p (b + 8) := by
  unfold rNb
  rw [if_neg h]
  split <;> omega
theorem rNb_le {p b : Nat} : rNb p b ≤ p + b + 8 := by
  unfold rNb
  split <;> omega
def rLeadR (n p : Nat) (M : sT) : Int32 := if rSd n M 8 = true then (if nI (rNb p (n + 8)) ≤ 60000 then (if rWPok n (nI (rNb p (n + 8))) M then nI (rNb p (n + 8)) else (-4)) else 0) else 0
def rLeadS (n p : Nat) (M : sT) : sT := if rSd n M 8 = true then (if nI (rNb p (n + 8)) ≤ 60000 then (if rWPok n (nI (rNb p (n + 8))) M then rBegL n (u2 (rWP n (nI (rNb p (n + 8))) M) 10 n (nI (rNb p (n + 8)))) 8 else rWP n (nI (rNb p (n + 8))) M) else M) else M
-- promise
def rPmL (n a : Nat) (M : sT) : Nat → sT
  | 0 => u2 M 11 n (M 11 n ||| (1 <<< (nI a &&& 31)))
  | k + 1 => u2 (rPmL n a M k) 17 (8 * a + k + 40 * n) (rPmL n a M k 12 (8 * a + k))
def rPromR (n a : Nat) (M : sT) : Int32 := if M 6 n = 0 then 0 else if M 10 n = 0 then 0 else if rWk a M then (if M 9 a ≤ M 10 n then (if M 10 n ≤ M 9 a then 1 else if rWPok a (M 10 n) M then 1 else (-4)) else (-3)) else (-2)
def rPromS (n a : Nat) (M : sT) : sT := if M 6 n = 0 then M else if M 10 n = 0 then M else if rWk a M then (if M 9 a ≤ M 10 n then (if M 10 n ≤ M 9 a then rPmL n a M 8 else if rWPok a (M 10 n) M then rPmL n a (rWP a (M 10 n) M) 8 else rWP a (M 10 n) M) else M) else M
abbrev rLds (n : Nat) (M : sT) : Prop := ¬ M 6 n = 0 ∧ 0 < M 10 n ∧ rMany M (M 11 n)
-- plans
def rPlS (m : Int32) (a : Nat) (t : Int32) (x : Int32 × Int32 × Int32) : Int32 × Int32 × Int32 :=
  if m = 0 then x else ((if t ≤ x.1 then x.1 else t), x.2.1 ||| (if t < 0 then (0 : Int32) else 1 <<< (nI a &&& 31)), (if x.2.2 ≤ t then x.2.2 else t))
def rPlL (n t : Nat) (M : sT) : Nat → Int32 × Int32 × Int32
  | 0 => (0, 0, 0)
  | k + 1 => rPlS (M 11 n >>> (nI k &&& 31) &&& 1) k (M 17 (8 * k + 40 * n + t)) (rPlL n t M k)
def rPlan (N n t : Nat) (M : sT) : Int32 :=
  if ¬ rMany M (rPlL n t M N).2.1 ∧ ¬ ((rPlL n t M N).2.2 = 0 ∨ (¬ (rPlL n t M N).2.2 = (-1000000) ∧ (-2) - (rPlL n t M N).2.2 ≤ (rPlL n t M N).1 / 64)) then (-2) else if (rPlL n t M N).1 = 0 then (-3) else (rPlL n t M N).1 - (rPlL n t M N).1 / 64 * 64
abbrev rUsed (N n t : Nat) (M : sT) : Prop := ¬ (rPlan N n t M = (-3) ∧ ¬ 0 < M 13 (8 * n + t) ∧ M 14 (8 * n + t) < 0)
-- play
def rMapL (M : sT) : Nat → sT
  | 0 => M
  | k + 1 => u2 (rMapL M k) 18 k 0
def rDidL (M : sT) : Nat → sT
  | 0 => M
  | k + 1 => u2 (rDidL M k) 19 k 0
def rDoQ (q y : Nat) (M : sT) : sT := u2 (u2 (u2 M 19 q 1) 20 q (M 18 y)) 18 y (M 2 q)
def rDo (c : Int32) (M : sT) : sT := if 0 < c ∧ M 19 c.toNatClampNeg = 0 then rDoQ c.toNatClampNeg (M 1 c.toNatClampNeg).toNatClampNeg M else M
def rPlayL (n : Nat) : Nat → Nat → sT → sT
  | 0, _, M => M
  | m + 1, d, M => if M 15 (d + 8 * n) < 0 then M else rPlayL n m (d + 1) (u2 (rDo (M 15 (d + 8 * n)) M) 0 19 (nI (d + 1)))
def rPlay (n : Nat) (M : sT) : sT := rPlayL n 8 0 (u2 (rDidL (rMapL M 4) 31) 0 19 0)
-- what play needs: chosen commands are no more than 30, keys less than 4
def rPok (n : Nat) (M : sT) : Prop := ∀ d, d < 8 → M 15 (d + 8 * n) < 0 ∨ ∃ q, q < 31 ∧ M 15 (d + 8 * n) = nI q ∧ ∃ y, y < 4 ∧ M 1 q = nI y
-- route
def rAsg (n : Nat) (M : sT) (q : Int32) : Nat → Nat → Nat
  | 0, _ => 0
  | m + 1, k => if M 13 (k + 8 * n) = q then k + 1 else rAsg n M q m (k + 1)
def rLast (N n : Nat) (M : sT) : Nat → Nat
  | 0 => 0
  | k + 1 => if rUsed N n k M then k + 1 else rLast N n M k
def rRtR (N n : Nat) (q : Int32) (M : sT) : Int32 := if rAsg n M q 8 0 = 0 then (if rLast N n M 8 = 8 then (-2) else nI (rLast N n M 8 + 1)) else nI (rAsg n M q 8 0)
def rRtS (N n : Nat) (q : Int32) (M : sT) : sT := if rAsg n M q 8 0 = 0 then (if rLast N n M 8 = 8 then M else u2 M 13 (rLast N n M 8 + 8 * n) q) else M
def rHear (q : Nat) (M : sT) : sT := u2 (u2 M 3 q (M 20 q)) 4 q (u2 M 3 q (M 20 q) 4 q + 1)
def rRouteR (N q n : Nat) (M : sT) : Int32 := if M 6 n = 0 then 0 else if rPlay n M 19 q = 0 then (if rLds n (rPlay n M) then rRtR N n (nI q) (rPlay n M) else 0) else 100
def rRouteS (N q n : Nat) (M : sT) : sT := if M 6 n = 0 then M else if rPlay n M 19 q = 0 then (if rLds n (rPlay n M) then rRtS N n (nI q) (rPlay n M) else rPlay n M) else rHear q (rPlay n M)
-- vote
def rVp (N n t : Nat) (M : sT) : Int32 := if M 14 (8 * n + t) < 0 then rPlan N n t M else M 14 (8 * n + t)
def rVf (n t : Nat) (p : Int32) (M : sT) : sT := u2 M 14 (8 * n + t) (if p = (-3) then M 13 (8 * n + t) else p)
def rVa (n a t : Nat) (M : sT) : sT := u2 M 16 (8 * n + t) (M 16 (8 * n + t) ||| (1 <<< (nI a &&& 31)))
-- behind the promise: the vote itself
def rV2R (n a t : Nat) (c b : Int32) (M : sT) : Int32 := if rWVok a t c b M then (if rVa n a t (rWV a t c b M) 15 (8 * n + t) < 0 then (if rMany (rVa n a t (rWV a t c b M)) (rVa n a t (rWV a t c b M) 16 (8 * n + t)) then 2 else 1) else 1) else (-4)
def rV2S (n a t : Nat) (c b : Int32) (M : sT) : sT := if rWVok a t c b M then (if rVa n a t (rWV a t c b M) 15 (8 * n + t) < 0 then (if rMany (rVa n a t (rWV a t c b M)) (rVa n a t (rWV a t c b M) 16 (8 * n + t)) then u2 (rVa n a t (rWV a t c b M)) 15 (8 * n + t) c else rVa n a t (rWV a t c b M)) else rVa n a t (rWV a t c b M)) else rWV a t c b M
def rV1R (n a t : Nat) (b : Int32) (M : sT) : Int32 := if b ≤ M 9 a then rV2R n a t (M 14 (8 * n + t)) b M else if rWPok a b M then rV2R n a t (M 14 (8 * n + t)) b (rWP a b M) else (-4)
def rV1S (n a t : Nat) (b : Int32) (M : sT) : sT := if b ≤ M 9 a then rV2S n a t (M 14 (8 * n + t)) b M else if rWPok a b M then rV2S n a t (M 14 (8 * n + t)) b (rWP a b M) else rWP a b M
def rVoteR (N n a t : Nat) (M : sT) : Int32 := if rLds n M then (if rWk a M then (if M 9 a ≤ M 10 n then (if rVp N n t M = (-2) then (-5) else rV1R n a t (M 10 n) (rVf n t (rVp N n t M) M)) else (-3)) else (-2)) else 0
def rVoteS (N n a t : Nat) (M : sT) : sT := if rLds n M then (if rWk a M then (if M 9 a ≤ M 10 n then (if rVp N n t M = (-2) then M else rV1S n a t (M 10 n) (rVf n t (rVp N n t M) M)) else M) else M) else M
-- tell
def rTl (n m : Nat) (M : sT) : Nat → Int32 × sT
  | 0 => (0, M)
  | k + 1 => if (rTl n m M k).2 15 (k + 8 * n) < 0 then rTl n m M k else if (rTl n m M k).2 15 (k + 8 * m) < 0 then ((rTl n m M k).1 + 1, u2 (rTl n m M k).2 15 (k + 8 * m) ((rTl n m M k).2 15 (k + 8 * n))) else rTl n m M k
def rTellR (n m : Nat) (M : sT) : Int32 := if M 6 n = 0 then (-2) else if M 6 m = 0 then (-2) else (rTl n m M 8).1
def rTellS (n m : Nat) (M : sT) : sT := if M 6 n = 0 then M else if M 6 m = 0 then M else (rTl n m M 8).2
-- mend
abbrev rMok (n a t : Nat) (M : sT) : Prop := rWk n M ∧ rWk a M ∧ M 12 (8 * n + t) < 0 ∧ ¬ M 12 (8 * n + t) = (-1000000) ∧ 0 < M 12 (8 * a + t) ∧ M 12 (8 * a + t) / 64 = (-2) - M 12 (8 * n + t)
def rMendR (n a t : Nat) (M : sT) : Int32 := if rMok n a t M then (if rWVok n t (M 12 (8 * a + t) - M 12 (8 * a + t) / 64 * 64) (M 12 (8 * a + t) / 64) M then 1 else (-4)) else 0
def rMendS (n a t : Nat) (M : sT) : sT := if rMok n a t M then rWV n t (M 12 (8 * a + t) - M 12 (8 * a + t) / 64 * 64) (M 12 (8 * a + t) / 64) M else M
-- the rest
def rCrashR (n : Nat) (M : sT) : Int32 := if M 6 n = 0 then 0 else 1
def rCrashS (n : Nat) (M : sT) : sT := if M 6 n = 0 then M else rFalls n M
def rRestR (n : Nat) (M : sT) : Int32 := if M 6 n = 0 then 1 else 0
def rRestS (n : Nat) (M : sT) : sT := if M 6 n = 0 then rUpL n M 8 else M
def rArmR (n : Nat) (k : Int32) (M : sT) : Int32 := if M 6 n = 0 then 0 else if k < 0 then 0 else if k ≤ 40 then 1 else 0
def rArmS (n : Nat) (k : Int32) (M : sT) : sT := if M 6 n = 0 then M else if k < 0 then M else if k ≤ 40 then u2 M 8 n k else M
def rFlipR (n s : Nat) (M : sT) : Int32 := if rWrF (M 5) (144 * n + 8 * s) then 0 else 1
def rFlipS (n s b : Nat) (M : sT) : sT := if rWrF (M 5) (144 * n + 8 * s) then M else rFlip n s b M
def rWipeS (n s : Nat) (M : sT) : sT := if rWrF (M 5) (144 * n + 8 * s) then M else rClr (144 * n + 8 * s) M 8
def rSlotR (n t : Nat) (M : sT) : Int32 := if M 6 n = 0 then (-1) else M 12 (8 * n + t)
def rPlanR (N n t : Nat) (M : sT) : Int32 := if rLds n M then rPlan N n t M else (-1)
def rChosR (n t : Nat) (M : sT) : Int32 := if M 6 n = 0 then (-1) else M 15 (8 * n + t)
def rValR (n k : Nat) (M : sT) : Int32 := if M 6 n = 0 then 0 else rPlay n M 18 k
def rValS (n : Nat) (M : sT) : sT := if M 6 n = 0 then M else rPlay n M
def rReplyR (q : Nat) (c : Int32) (M : sT) : Int32 := if c = 0 then M 3 q else M 4 q
def rAskR (q : Nat) : Int32 := if nI q = 30 then (-1) else nI (q + 1)
def rAskS (q : Nat) (k v : Int32) (M : sT) : sT := if nI q = 30 then M else u2 (u2 (u2 M 0 1 (nI (q + 1))) 1 (q + 1) k) 2 (q + 1) v
theorem zb_1 {c : Prop} [Decidable c] (h : ¬ zb c = 0) : c := Classical.not_not.mp (fun z => h (zb_f z))
theorem rPok_u2 {n j k : Nat} {v : Int32} {M : sT} (h1 : j ≠ 15) (h2 : j ≠ 1) (h : rPok n M) : rPok n (u2 M j k v) := by
  intro d hd
  rw [u2_off (fun z => h1 z.1.symm)]
  rcases h d hd with h | ⟨q, a, b, y, c, e⟩
  · exact Or.inl h
  · exact Or.inr ⟨q, a, b, y, c, by rw [u2_off (fun z => h2 z.1.symm)]; exact e⟩
theorem rPok_do {n q y k : Nat} {v : Int32} {M : sT} (h : rPok n M) : rPok n (u2 (rDoQ q y M) 0 k v) :=
  rPok_u2 (by decide) (by decide) (rPok_u2 (by decide) (by decide) (rPok_u2 (by decide) (by decide) (rPok_u2 (by decide) (by decide) h)))
theorem rPok_map {n : Nat} {M : sT} (h : rPok n M) : ∀ k, rPok n (rMapL M k)
  | 0 => h
  | k + 1 => rPok_u2 (by decide) (by decide) (rPok_map h k)
theorem rPok_did {n : Nat} {M : sT} (h : rPok n M) : ∀ k, rPok n (rDidL M k)
  | 0 => h
  | k + 1 => rPok_u2 (by decide) (by decide) (rPok_did h k)
theorem rDo_eq {M : sT} {j q y : Nat} (hc : M 15 j = nI q) (hk : M 1 q = nI y) (hq : q < 31) (hy : y < 4) : rDo (M 15 j) M = if 0 < nI q ∧ M 19 q = 0 then rDoQ q y M else M := by
  unfold rDo
  rw [hc, nI_clamp (by omega), hk, nI_clamp (by omega)]
