-- places: 0 the system, 1 the clients, 2 .. 5 their arrays, 6 the nodes; fourteen a node; then those of the other side
def pl (i j : Nat) : Nat := 7 + 14 * i + j
-- the specification's functions, a method each, over the ints of a state
def blOf (a : Int32) : Int32 := if a = (-1000000) then 1000000 else if a < 0 then (-2) - a else a / 64
def cmOf (a : Int32) : Int32 := a - a / 64 * 64
def mxF (a b : Int32) : Int32 := if b ≤ a then a else b
abbrev wrongF (f : Nat → Int32) (b : Nat) : Prop := ¬ (f (b + 4) = f b ^^^ 255 ∧ f (b + 5) = f (b + 1) ^^^ 255 ∧ f (b + 6) = f (b + 2) ^^^ 255 ∧ f (b + 7) = f (b + 3) ^^^ 255)
def putC (S : sT) (p b : Nat) (x y c : Int32) : sT := u2 (u2 (u2 (u2 S p b x) p (b + 1) y) p (b + 2) (c / 256)) p (b + 3) (c - c / 256 * 256)
def seal1 (S : sT) (p b k : Nat) : sT := u2 S p (b + 4 + k) (S p (b + k) ^^^ 255)
def sealS (S : sT) (p b : Nat) : sT := seal1 (seal1 (seal1 (seal1 S p b 0) p b 1) p b 2) p b 3
def flipS (S : sT) (p b t : Nat) : sT := u2 S p (t / 8 + b) (S p (t / 8 + b) ^^^ (1 <<< (nI (t % 8) &&& 31)))
def clearL (S : sT) (p b : Nat) : Nat → sT
  | 0 => S
  | k + 1 => u2 (clearL S p b k) p (b + k) 0
def clearS (S : sT) (p b : Nat) : sT := clearL S p b 8
def addR (S : sT) (q : Nat) (a b : Int32) : sT := u2 (u2 (u2 S 1 4 (nI (q + 1))) 2 (q + 1) a) 3 (q + 1) b
def hearS (S : sT) (q : Nat) (a : Int32) : sT := u2 (u2 S 4 q a) 5 q (u2 S 4 q a 5 q + 1)
-- a term
def beginL (i : Nat) (b : Int32) (S : sT) : Nat → sT
  | 0 => u2 (u2 S (pl i 4) 5 b) (pl i 4) 6 0
  | k + 1 => u2 (u2 (u2 (beginL i b S k) (pl i 5) (k + 1) 0) (pl i 6) (k + 1) (-1)) (pl i 7) (k + 1) 0
def endS (i : Nat) (S : sT) : sT := u2 (u2 S (pl i 4) 5 0) (pl i 4) 6 0
abbrev majF (i : Nat) (S : sT) (c : Int32) : Prop := S (pl i 4) 0 < 2 * c
abbrev hasM (i : Nat) (S : sT) : Prop := majF i S (bcF (S (pl i 4) 6))
def addPL (i a : Nat) (S : sT) : Nat → sT
  | 0 => u2 S (pl i 4) 6 (S (pl i 4) 6 ||| (1 <<< (nI a &&& 31)))
  | k + 1 => u2 (addPL i a S k) (pl i 8) (9 * a + (k + 1)) (addPL i a S k (pl a 3) (k + 1))
def plStep (m t : Int32) (x : Int32 × Int32 × Int32) : Int32 × Int32 × Int32 :=
  if m = 0 then x else if t < 0 then (x.1, x.2.1, mxF x.2.2 (blOf t)) else (if blOf x.1 < blOf t then t else x.1, x.2.1 + 1, x.2.2)
def plL (i s : Nat) (S : sT) : Nat → Int32 × Int32 × Int32
  | 0 => (0, 0, 0)
  | k + 1 => plStep (S (pl i 4) 6 >>> (nI k &&& 31) &&& 1) (S (pl i 8) (9 * k + s)) (plL i s S k)
def planF (N i s : Nat) (S : sT) : Int32 :=
  if ¬ majF i S (plL i s S N).2.1 ∧ blOf (plL i s S N).1 < (plL i s S N).2.2 then (-2) else if 0 < (plL i s S N).1 then cmOf (plL i s S N).1 else (-3)
abbrev unusedF (N i s : Nat) (S : sT) : Prop := S (pl i 5) s = 0 ∧ S (pl i 6) s = (-1) ∧ planF N i s S = (-3)
-- the lowest slot that is unused with all behind it, of the slots above k (0: none); from slot 8 down
def lowL (N i : Nat) (S : sT) : Nat → Nat → Nat
  | 0, r => r
  | k + 1, r => if unusedF N i (k + 1) S then lowL N i S k (k + 1) else r
def lowF (N i : Nat) (S : sT) : Nat := lowL N i S 8 0
-- the first slot from k + 1 on (m of them) that has q
def asgL (i : Nat) (S : sT) (q : Int32) : Nat → Nat → Nat
  | 0, _ => 0
  | m + 1, k => if S (pl i 5) (k + 1) = q then k + 1 else asgL i S q m (k + 1)
def slotForR (N i : Nat) (S : sT) (q : Int32) : Nat := if asgL i S q 8 0 = 0 then lowF N i S else asgL i S q 8 0
def slotForS (N i : Nat) (S : sT) (q : Int32) : sT := if asgL i S q 8 0 = 0 ∧ ¬ lowF N i S = 0 then u2 S (pl i 5) (lowF N i S) q else S
abbrev fixOk (N i s : Nat) (S : sT) : Prop := ¬ S (pl i 6) s = (-1) ∨ ¬ planF N i s S = (-2)
def fixS (N i s : Nat) (S : sT) : sT := if ¬ S (pl i 6) s = (-1) then S else if planF N i s S = (-2) then S else u2 S (pl i 6) s (if planF N i s S = (-3) then S (pl i 5) s else planF N i s S)
def addVS (i s a : Nat) (S : sT) : sT := u2 S (pl i 7) s (S (pl i 7) s ||| (1 <<< (nI a &&& 31)))
-- a ledger
def fgC (i : Nat) (S : sT) : Nat → sT
  | 0 => S
  | k + 1 => u2 (fgC i S k) (pl i 10) k (-1)
def fgN (i : Nat) (S : sT) : Nat → sT
  | 0 => S
  | k + 1 => u2 (fgN i S k) (pl i 11) k 0
def fgA (i : Nat) (S : sT) : Nat → sT
  | 0 => S
  | k + 1 => u2 (u2 (fgA i S k) (pl i 12) k 0) (pl i 13) k 0
def forgetS (i : Nat) (S : sT) : sT := u2 (fgA i (fgN i (fgC i S 9) 4) 31) (pl i 9) 5 0
abbrev isReq (S : sT) (q : Int32) : Prop := 1 ≤ q ∧ q ≤ S 1 4
def perfD (i q : Nat) (S : sT) : sT := u2 (u2 (u2 S (pl i 12) q (S (pl i 11) (S 2 q).toNatClampNeg)) (pl i 11) (S 2 q).toNatClampNeg (S 3 q)) (pl i 13) q 1
def perfS (i : Nat) (c : Int32) (S : sT) : sT := if isReq S c ∧ S (pl i 13) c.toNatClampNeg = 0 then perfD i c.toNatClampNeg S else S
def dwL (i : Nat) : Nat → Nat → sT → sT
  | 0, _, S => S
  | m + 1, d, S => if S (pl i 10) (d + 1) = (-1) then S else dwL i m (d + 1) (u2 (perfS i (S (pl i 10) (d + 1)) S) (pl i 9) 5 (nI (d + 1)))
def dwS (i : Nat) (S : sT) : sT := dwL i (8 - (S (pl i 9) 5).toNatClampNeg) (S (pl i 9) 5).toNatClampNeg S
def learnS (i s : Nat) (c : Int32) (S : sT) : sT := if S (pl i 10) s = (-1) then dwS i (u2 S (pl i 10) s c) else S
def laL (i j : Nat) (S : sT) : Nat → Int32 × sT
  | 0 => (0, S)
  | k + 1 => if (laL i j S k).2 (pl j 10) (k + 1) = (-1) then laL i j S k
    else if (laL i j S k).2 (pl i 10) (k + 1) = (-1) then ((laL i j S k).1 + 1, learnS i (k + 1) ((laL i j S k).2 (pl j 10) (k + 1)) (laL i j S k).2) else laL i j S k
-- a node
abbrev canF (i : Nat) (S : sT) : Prop := ¬ S (pl i 0) 5 = 0 ∧ S (pl i 0) 6 = 0
def damL (i : Nat) (S : sT) : Nat → Bool
  | 0 => false
  | k + 1 => damL i S k || decide (S (pl i 3) (k + 1) < 0)
abbrev damF (i : Nat) (S : sT) : Prop := damL i S 8 = true
def downL (i : Nat) (S : sT) : Nat → sT
  | 0 => forgetS i (endS i (u2 (u2 (u2 (u2 S (pl i 0) 5 0) (pl i 0) 6 0) (pl i 0) 7 0) (pl i 0) 8 (-1)))
  | k + 1 => u2 (downL i S k) (pl i 3) (k + 1) 0
def downS (i : Nat) (S : sT) : sT := downL i S 8
def nextF (i : Nat) (S : sT) : Int32 :=
  let b := S (pl i 0) 7 - (S (pl i 0) 7 - S (pl i 0) 7 / 8 * 8) + S (pl i 0) 0
  if S (pl i 0) 7 < b ∧ 8 ≤ b then b else b + 8
def wsecS (i s : Nat) (x y c : Int32) (S : sT) : sT :=
  if S (pl i 0) 8 = 0 then downS i (putC S (pl i 2) (8 * s) x y c)
  else if S (pl i 0) 8 = (-1) then sealS (putC S (pl i 2) (8 * s) x y c) (pl i 2) (8 * s)
  else u2 (sealS (putC S (pl i 2) (8 * s) x y c) (pl i 2) (8 * s)) (pl i 0) 8 (S (pl i 0) 8 - 1)
abbrev wsOk (i : Nat) (S : sT) : Prop := ¬ S (pl i 0) 8 = 0
abbrev rpOk (i : Nat) (b : Int32) (S : sT) : Prop := S (pl i 0) 7 < b → wsOk i S ∧ wsOk i (wsecS i 0 0 0 b S)
def rpS (i : Nat) (b : Int32) (S : sT) : sT :=
  if S (pl i 0) 7 < b then (if wsOk i S then (if wsOk i (wsecS i 0 0 0 b S) then u2 (wsecS i 1 0 0 b (wsecS i 0 0 0 b S)) (pl i 0) 7 b else wsecS i 1 0 0 b (wsecS i 0 0 0 b S)) else wsecS i 0 0 0 b S) else S
abbrev wvOk (i s : Nat) (c b : Int32) (S : sT) : Prop := wsOk i S ∧ wsOk i (wsecS i (2 * s) (nI s) c b S)
def wvS (i s : Nat) (c b : Int32) (S : sT) : sT :=
  if wsOk i S then (if wsOk i (wsecS i (2 * s) (nI s) c b S) then u2 (wsecS i (2 * s + 1) (nI s) 0 b (wsecS i (2 * s) (nI s) c b S)) (pl i 3) s (64 * b + c) else wsecS i (2 * s + 1) (nI s) 0 b (wsecS i (2 * s) (nI s) c b S)) else wsecS i (2 * s) (nI s) c b S
def balF (f : Nat → Int32) (s : Nat) : Int32 := 256 * f (8 * s + 2) + f (8 * s + 3)
def pfF (f : Nat → Int32) (s : Nat) : Int32 := if wrongF f (8 * s) then 0 else balF f s
def sfF (f : Nat → Int32) (s : Nat) : Int32 :=
  if wrongF f (8 * (2 * s)) then (if wrongF f (8 * (2 * s + 1)) then (-1000000) else if balF f (2 * s + 1) = 0 then 0 else (-2) - balF f (2 * s + 1))
  else if balF f (2 * s) = 0 then 0 else 64 * balF f (2 * s) + f (8 * (2 * s) + 1)
def upL (i : Nat) (S : sT) : Nat → sT
  | 0 => u2 (u2 (u2 S (pl i 0) 5 1) (pl i 0) 6 (zb (wrongF (S (pl i 2)) 0 ∧ wrongF (S (pl i 2)) 8))) (pl i 0) 7 (mxF (pfF (S (pl i 2)) 0) (pfF (S (pl i 2)) 1))
  | k + 1 => u2 (upL i S k) (pl i 3) (k + 1) (sfF (S (pl i 2)) (k + 1))
def upS (i : Nat) (S : sT) : sT := upL i S 8
theorem pl_ne {i i' j j' : Nat} (hj : j < 14) (hj' : j' < 14) (h : ¬ (i = i' ∧ j = j')) : pl i j ≠ pl i' j' := by
  unfold pl
  omega
theorem pl_gt (i j p : Nat) (hp : p < 7) : pl i j ≠ p := by
  unfold pl
  omega
def CLok (S : sT) : Prop := ∃ cnt, cnt ≤ 30 ∧ S 1 4 = nI cnt ∧ ∀ q, 1 ≤ q → q ≤ cnt → ∃ y, y < 4 ∧ S 2 q = nI y
theorem CLok.k2 {S : sT} {i j k : Nat} {v : Int32} (h : CLok S) : CLok (u2 S (pl i j) k v) := by
  obtain ⟨cnt, h1, h2, h3⟩ := h
  refine ⟨cnt, h1, ?_, fun q h4 h5 => ?_⟩
  · rw [u2_off (fun z => pl_gt i j 1 (by decide) z.1.symm)]
    exact h2
  · rw [u2_off (fun z => pl_gt i j 2 (by decide) z.1.symm)]
    exact h3 q h4 h5
theorem CLok.perf {S : sT} {i : Nat} {c : Int32} (h : CLok S) : CLok (perfS i c S) := by
  unfold perfS
  split
  · exact h.k2.k2.k2
  · exact h
theorem CLok.req {S : sT} {c : Int32} (h : CLok S) (hr : isReq S c) : ∃ q, q < 31 ∧ 1 ≤ q ∧ c = nI q ∧ ∃ y, y < 4 ∧ S 2 q = nI y := by
  obtain ⟨cnt, h1, h2, h3⟩ := h
  obtain ⟨r1, r2⟩ := hr
  rw [h2] at r2
  have hc : ¬ c < 0 := by
    simp only [Int32.lt_iff_toInt_lt, Int32.le_iff_toInt_le] at *
    have e : (1 : Int32).toInt = 1 := by decide
    have e0 : (0 : Int32).toInt = 0 := by decide
    omega
  obtain ⟨q, hq, rfl⟩ := nI_of hc
  have k1 : 1 ≤ q := (nI_leI (a := 1) (by decide) hq).mp r1
  have k2 : q ≤ cnt := (nI_leI hq (by omega)).mp r2
  exact ⟨q, by omega, k1, rfl, h3 q k1 k2⟩
theorem pf_eq (i q y : Nat) (S : sT) : u2 (u2 (u2 S (pl i 12) q (S (pl i 11) y)) (pl i 11) y (u2 S (pl i 12) q (S (pl i 11) y) 3 q)) (pl i 13) q 1 = u2 (u2 (u2 S (pl i 12) q (S (pl i 11) y)) (pl i 11) y (S 3 q)) (pl i 13) q 1 := by
  rw [u2_off (fun z => pl_gt i 12 3 (by decide) z.1.symm)]
theorem lowL_le (N i : Nat) (S : sT) : ∀ k r, r ≤ 8 → k ≤ 8 → lowL N i S k r ≤ 8
  | 0, r, h, _ => h
  | k + 1, r, h, hk => by
    unfold lowL
    split
    · exact lowL_le N i S k (k + 1) hk (by omega)
    · exact h
theorem lowF_le (N i : Nat) (S : sT) : lowF N i S ≤ 8 := lowL_le N i S 8 0 (by decide) (by decide)
theorem lowF_0 {N i : Nat} {S : sT} (h : nI (lowF N i S) = 0) : lowF N i S = 0 := by
  have h1 := lowF_le N i S
  exact (nI_eq (b := 0) (by omega) (by decide)).mp h
theorem lowF_n {N i : Nat} {S : sT} (h : ¬ nI (lowF N i S) = 0) : ¬ lowF N i S = 0 := fun z => h (by rw [z]; rfl)
theorem damL_f {i : Nat} {S : sT} : ∀ {n : Nat}, (∀ j, j < n → ¬ S (pl i 3) (j + 1) < 0) → damL i S n = false
  | 0, _ => rfl
  | n + 1, h => by
    unfold damL
    rw [damL_f (fun j hj => h j (by omega)), decide_eq_false (h n (by omega))]
    rfl
theorem damL_t {i : Nat} {S : sT} : ∀ {n k : Nat}, k < n → S (pl i 3) (k + 1) < 0 → damL i S n = true
  | 0, _, h, _ => absurd h (Nat.not_lt_zero _)
  | n + 1, k, h, hk => by
    unfold damL
    by_cases e : k = n
    · subst e
      rw [decide_eq_true hk, Bool.or_true]
    · rw [damL_t (n := n) (k := k) (by omega) hk, Bool.true_or]
def LGok (i : Nat) (S : sT) : Prop := ∃ d, d ≤ 8 ∧ S (pl i 9) 5 = nI d
theorem LGok.k2 {S : sT} {i p k : Nat} {v : Int32} (h : LGok i S) (hp : p ≠ pl i 9) : LGok i (u2 S p k v) := by
  obtain ⟨d, h1, h2⟩ := h
  exact ⟨d, h1, by rw [u2_off (fun z => hp z.1.symm)]; exact h2⟩
theorem LGok.cmd {S : sT} {i s : Nat} {c : Int32} (h : LGok i S) : LGok i (u2 S (pl i 10) s c) := h.k2 (pl_ne (by decide) (by decide) (by omega))
theorem LGok.perf {S : sT} {i : Nat} {c : Int32} (h : LGok i S) : LGok i (perfS i c S) := by
  unfold perfS
  split
  · exact ((h.k2 (pl_ne (by decide) (by decide) (by omega))).k2 (pl_ne (by decide) (by decide) (by omega))).k2 (pl_ne (by decide) (by decide) (by omega))
  · exact h
theorem dwL_ok {i : Nat} : ∀ (m d : Nat) (S : sT), d + m ≤ 8 → CLok S → LGok i S → CLok (dwL i m d S) ∧ LGok i (dwL i m d S)
  | 0, d, S, _, h1, h2 => ⟨h1, h2⟩
  | m + 1, d, S, hd, h1, h2 => by
    unfold dwL
    split
    · exact ⟨h1, h2⟩
    · exact dwL_ok m (d + 1) _ (by omega) h1.perf.k2 ⟨d + 1, by omega, u2_at⟩
theorem learn_ok {i s : Nat} {c : Int32} {S : sT} (h1 : CLok S) (h2 : LGok i S) : CLok (learnS i s c S) ∧ LGok i (learnS i s c S) := by
  unfold learnS
  split
  · obtain ⟨d, h3, h4⟩ := h2.cmd (s := s) (c := c)
    unfold dwS
    rw [h4, nI_clamp (by omega)]
    exact dwL_ok _ _ _ (by omega) h1.k2 ⟨d, h3, h4⟩
  · exact ⟨h1, h2⟩
theorem laL_ok {i j : Nat} {S : sT} (h1 : CLok S) (h2 : LGok i S) : ∀ k, CLok (laL i j S k).2 ∧ LGok i (laL i j S k).2
  | 0 => ⟨h1, h2⟩
  | k + 1 => by
    have h := laL_ok (j := j) h1 h2 k
    unfold laL
    split
    · exact h
    · split
      · exact learn_ok h.1 h.2
      · exact h
theorem putC_n {S : sT} {i b k : Nat} {x y c : Int32} : putC S (pl i 2) b x y c (pl i 0) k = S (pl i 0) k := by
  have h : pl i 0 ≠ pl i 2 := pl_ne (by decide) (by decide) (by omega)
  unfold putC
  rw [u2_off (fun z => h z.1), u2_off (fun z => h z.1), u2_off (fun z => h z.1), u2_off (fun z => h z.1)]
theorem seal_n {S : sT} {i b k : Nat} : sealS S (pl i 2) b (pl i 0) k = S (pl i 0) k := by
  have h : pl i 0 ≠ pl i 2 := pl_ne (by decide) (by decide) (by omega)
  unfold sealS seal1
  rw [u2_off (fun z => h z.1), u2_off (fun z => h z.1), u2_off (fun z => h z.1), u2_off (fun z => h z.1)]
theorem u2_row {S : sT} {p k q : Nat} {v : Int32} (h : q ≠ p) : u2 S p k v q = S q := funext (fun _ => u2_off (fun z => h z.1))
theorem u2_02 {S : sT} {i k : Nat} {v : Int32} : u2 S (pl i 0) k v (pl i 2) = S (pl i 2) := u2_row (pl_ne (by decide) (by decide) (by omega))
theorem upL_2 {S : sT} {i : Nat} : ∀ k, upL i S k (pl i 2) = S (pl i 2)
  | 0 => by
    unfold upL
    rw [u2_02, u2_02, u2_02]
  | k + 1 => by
    unfold upL
    rw [u2_row (pl_ne (by decide) (by decide) (by omega)), upL_2 k]
-- the system
abbrev isN (N : Nat) (n : Int32) : Prop := 0 ≤ n ∧ n < nI N
abbrev isSl (s : Int32) : Prop := 1 ≤ s ∧ s ≤ 8
abbrev isKy (k : Int32) : Prop := 0 ≤ k ∧ k < 4
def hindF (a : Nat) (b : Int32) (S : sT) : Int32 := if canF a S then (if S (pl a 0) 7 ≤ b then 0 else (-3)) else (-2)
def leadR (n : Nat) (S : sT) : Int32 := if canF n S then (if damF n S then 0 else if nextF n S ≤ 60000 then (if rpOk n (nextF n S) S then nextF n S else (-4)) else 0) else 0
def leadS (n : Nat) (S : sT) : sT := if canF n S then (if damF n S then S else if nextF n S ≤ 60000 then (if rpOk n (nextF n S) S then beginL n (nextF n S) (rpS n (nextF n S) S) 8 else rpS n (nextF n S) S) else S) else S
def promR (n a : Nat) (S : sT) : Int32 := if ¬ S (pl n 4) 5 = 0 then (if hindF a (S (pl n 4) 5) S = 0 then (if rpOk a (S (pl n 4) 5) S then 1 else (-4)) else hindF a (S (pl n 4) 5) S) else 0
def promS (n a : Nat) (S : sT) : sT := if ¬ S (pl n 4) 5 = 0 then (if hindF a (S (pl n 4) 5) S = 0 then (if rpOk a (S (pl n 4) 5) S then addPL n a (rpS a (S (pl n 4) 5) S) 8 else rpS a (S (pl n 4) 5) S) else S) else S
def routeR (N q n : Nat) (S : sT) : Int32 := if S (pl n 13) q = 0 then (if hasM n S then (if nI (slotForR N n S (nI q)) = 0 then (-2) else nI (slotForR N n S (nI q))) else 0) else 100
def routeS (N q n : Nat) (S : sT) : sT := if S (pl n 13) q = 0 then (if hasM n S then slotForS N n S (nI q) else S) else hearS S q (S (pl n 12) q)
def voteR (N n a s : Nat) (S : sT) : Int32 :=
  if hasM n S then (if hindF a (S (pl n 4) 5) S = 0 then (if fixOk N n s S then
    (if rpOk a (fixS N n s S (pl n 4) 5) (fixS N n s S) then (if wvOk a s (fixS N n s S (pl n 6) s) (fixS N n s S (pl n 4) 5) (rpS a (fixS N n s S (pl n 4) 5) (fixS N n s S)) then
      (if majF n (addVS n s a (wvS a s (fixS N n s S (pl n 6) s) (fixS N n s S (pl n 4) 5) (rpS a (fixS N n s S (pl n 4) 5) (fixS N n s S)))) (bcF (addVS n s a (wvS a s (fixS N n s S (pl n 6) s) (fixS N n s S (pl n 4) 5) (rpS a (fixS N n s S (pl n 4) 5) (fixS N n s S))) (pl n 7) s)) then
        (if addVS n s a (wvS a s (fixS N n s S (pl n 6) s) (fixS N n s S (pl n 4) 5) (rpS a (fixS N n s S (pl n 4) 5) (fixS N n s S))) (pl n 10) s = (-1) then 2 else 1) else 1) else (-4)) else (-4)) else (-5)) else hindF a (S (pl n 4) 5) S) else 0
def voteS (N n a s : Nat) (S : sT) : sT :=
  if hasM n S then (if hindF a (S (pl n 4) 5) S = 0 then (if fixOk N n s S then
    (if rpOk a (fixS N n s S (pl n 4) 5) (fixS N n s S) then (if wvOk a s (fixS N n s S (pl n 6) s) (fixS N n s S (pl n 4) 5) (rpS a (fixS N n s S (pl n 4) 5) (fixS N n s S)) then
      (if majF n (addVS n s a (wvS a s (fixS N n s S (pl n 6) s) (fixS N n s S (pl n 4) 5) (rpS a (fixS N n s S (pl n 4) 5) (fixS N n s S)))) (bcF (addVS n s a (wvS a s (fixS N n s S (pl n 6) s) (fixS N n s S (pl n 4) 5) (rpS a (fixS N n s S (pl n 4) 5) (fixS N n s S))) (pl n 7) s)) then
        learnS n s (fixS N n s S (pl n 6) s) (addVS n s a (wvS a s (fixS N n s S (pl n 6) s) (fixS N n s S (pl n 4) 5) (rpS a (fixS N n s S (pl n 4) 5) (fixS N n s S))))
      else addVS n s a (wvS a s (fixS N n s S (pl n 6) s) (fixS N n s S (pl n 4) 5) (rpS a (fixS N n s S (pl n 4) 5) (fixS N n s S))))
      else wvS a s (fixS N n s S (pl n 6) s) (fixS N n s S (pl n 4) 5) (rpS a (fixS N n s S (pl n 4) 5) (fixS N n s S))) else rpS a (fixS N n s S (pl n 4) 5) (fixS N n s S)) else fixS N n s S) else S) else S
def tellR (n m : Nat) (S : sT) : Int32 := if S (pl n 0) 5 = 0 then (-2) else if S (pl m 0) 5 = 0 then (-2) else (laL m n S 8).1
def tellS (n m : Nat) (S : sT) : sT := if S (pl n 0) 5 = 0 then S else if S (pl m 0) 5 = 0 then S else (laL m n S 8).2
def mendR (n a s : Nat) (S : sT) : Int32 :=
  if canF n S then (if canF a S then (if S (pl n 3) s < 0 then (if 0 < S (pl a 3) s then (if blOf (S (pl n 3) s) = blOf (S (pl a 3) s) then
    (if wvOk n s (cmOf (S (pl a 3) s)) (blOf (S (pl a 3) s)) S then 1 else (-4)) else 0) else 0) else 0) else 0) else 0
def mendS (n a s : Nat) (S : sT) : sT :=
  if canF n S then (if canF a S then (if S (pl n 3) s < 0 then (if 0 < S (pl a 3) s then (if blOf (S (pl n 3) s) = blOf (S (pl a 3) s) then
    wvS n s (cmOf (S (pl a 3) s)) (blOf (S (pl a 3) s)) S else S) else S) else S) else S) else S
abbrev zbc (a : Int32) : Int32 := zb (¬ a = 0)
def crashR (n : Nat) (S : sT) : Int32 := if S (pl n 0) 5 = 0 then 0 else 1
def crashS (n : Nat) (S : sT) : sT := if S (pl n 0) 5 = 0 then S else downS n S
def restR (n : Nat) (S : sT) : Int32 := if S (pl n 0) 5 = 0 then 1 else 0
def restS (n : Nat) (S : sT) : sT := if S (pl n 0) 5 = 0 then upS n S else S
def armR (n : Nat) (k : Int32) (S : sT) : Int32 := if S (pl n 0) 5 = 0 then 0 else if k < 0 then 0 else if k ≤ 40 then 1 else 0
def armS (n : Nat) (k : Int32) (S : sT) : sT := if S (pl n 0) 5 = 0 then S else if k < 0 then S else if k ≤ 40 then u2 S (pl n 0) 8 k else S
def flipR (n s : Nat) (S : sT) : Int32 := if wrongF (S (pl n 2)) (8 * s) then 0 else 1
def flipT (n s b : Nat) (S : sT) : sT := if wrongF (S (pl n 2)) (8 * s) then S else flipS S (pl n 2) (8 * s) b
def wipeT (n s : Nat) (S : sT) : sT := if wrongF (S (pl n 2)) (8 * s) then S else clearS S (pl n 2) (8 * s)
def slotR (n s : Nat) (S : sT) : Int32 := if S (pl n 0) 5 = 0 then (-1) else S (pl n 3) s
def planR (N n s : Nat) (S : sT) : Int32 := if hasM n S then planF N n s S else (-1)
def replyR (q : Nat) (c : Int32) (S : sT) : Int32 := if c = 0 then S 4 q else S 5 q
def askR (q : Nat) : Int32 := if nI q = 30 then (-1) else nI (q + 1)
def askS (q : Nat) (k v : Int32) (S : sT) : sT := if nI q = 30 then S else addR S q k v
theorem isN_nI {N n : Nat} (h : n < N) (hN : N ≤ 5) : isN N (nI n) := ⟨nI_pos' (by omega), (nI_ltI (by omega) (by omega)).mpr h⟩
-- what holds of a state between calls
def Iok (N : Nat) (S : sT) : Prop := CLok S ∧ (∀ i, i < N → LGok i S) ∧ (∀ i, i < N → S (pl i 4) 0 = nI N) ∧ ∀ i, i < N → ∀ q, q < 31 → S (pl i 13) q = 0 ∨ S (pl i 13) q = 1
theorem isSl_nI {s : Nat} (h1 : 1 ≤ s) (h : s < 9) : isSl (nI s) := ⟨(nI_leI (a := 1) (by decide) (by omega)).mpr h1, (nI_leI (b := 8) (by omega) (by decide)).mpr (by omega)⟩
theorem isKy_nI {k : Nat} (h : k < 4) : isKy (nI k) := ⟨nI_pos' (by omega), (nI_ltI (b := 4) (by omega) (by decide)).mpr h⟩
theorem ask_lt {q : Nat} {a : Int32} (h : q ≤ 30) (h2 : ¬ a = 30) : a = nI q → q < 30 := by
  intro e
  have : q ≠ 30 := fun z => h2 (by rw [e, z]; rfl)
  omega
