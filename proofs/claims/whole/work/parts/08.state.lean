-- the other side's cells: behind those of the system; its state is M, by number of the cell
def rp (N j : Nat) : Nat := 7 + 14 * N + j
def KR : Nat := 21
def shR (N : Nat) : Nat → shT
  | 0 => .inl (6, [none, none, some (rp N 1), some (rp N 2), some (rp N 3), some (rp N 4), some (rp N 5), some (rp N 6), some (rp N 7), some (rp N 8), some (rp N 9), some (rp N 10), some (rp N 11), some (rp N 12), some (rp N 13), some (rp N 14), some (rp N 15), some (rp N 16), some (rp N 17), none, some (rp N 18), some (rp N 19), some (rp N 20)])
  | 1 => .inr (.inl (0, 31))
  | 2 => .inr (.inl (0, 31))
  | 3 => .inr (.inl (0, 31))
  | 4 => .inr (.inl (0, 31))
  | 5 => .inr (.inl (0, 720))
  | 6 => .inr (.inl (1, 5))
  | 7 => .inr (.inl (1, 5))
  | 8 => .inr (.inl (0, 5))
  | 9 => .inr (.inl (0, 5))
  | 10 => .inr (.inl (0, 5))
  | 11 => .inr (.inl (0, 5))
  | 12 => .inr (.inl (0, 40))
  | 13 => .inr (.inl (0, 40))
  | 14 => .inr (.inl (0, 40))
  | 15 => .inr (.inl (0, 40))
  | 16 => .inr (.inl (0, 40))
  | 17 => .inr (.inl (0, 200))
  | 18 => .inr (.inl (0, 4))
  | 19 => .inr (.inl (1, 31))
  | _ => .inr (.inl (0, 31))
-- the shapes of all cells: the system's by place; behind them those of the other side (shR, KR: its own part)
def shN (N i : Nat) : Nat → shT
  | 0 => .inl (3, [none, some (pl i 1), some (pl i 3), some (pl i 4), some (pl i 9), none, none, none, none])
  | 1 => .inl (1, [some (pl i 2)])
  | 2 => .inr (.inl (0, 144))
  | 3 => .inr (.inl (0, 9))
  | 4 => .inl (4, [none, some (pl i 8), some (pl i 5), some (pl i 6), some (pl i 7), none, none])
  | 5 => .inr (.inl (0, 9))
  | 6 => .inr (.inl (0, 9))
  | 7 => .inr (.inl (0, 9))
  | 8 => .inr (.inl (0, 9 * N))
  | 9 => .inl (2, [some 1, some (pl i 10), some (pl i 11), some (pl i 12), some (pl i 13), none])
  | 10 => .inr (.inl (0, 9))
  | 11 => .inr (.inl (0, 4))
  | 12 => .inr (.inl (0, 31))
  | _ => .inr (.inl (1, 31))
def sh (N : Nat) (p : Nat) : shT :=
  if p = 0 then .inl (5, [some 1, some 6])
  else if p = 1 then .inl (0, [some 2, some 3, some 4, some 5, none])
  else if p < 6 then .inr (.inl (0, 31))
  else if p = 6 then .inr (.inr (N, fun j => pl j 0))
  else if p < 7 + 14 * N then shN N ((p - 7) / 14) ((p - 7) % 14)
  else shR N (p - (7 + 14 * N))
def KK (N : Nat) : Nat := 7 + 14 * N + KR
abbrev LY (G : xC) (ad : Nat → Nat) (N : Nat) (S : sT) : va_W := lay (sh N) (KK N) G ad S
section SHP
variable {N i : Nat}
theorem kp0 {p : Nat} (h : p < 7) : p < KK N := by
  unfold KK
  omega
theorem kpl {j : Nat} (hi : i < N) (hj : j < 14) : pl i j < KK N := by
  unfold KK pl
  omega
theorem sh_at {j : Nat} (hi : i < N) (hj : j < 14) : sh N (pl i j) = shN N i j := by
  have h1 : pl i j = 7 + (14 * i + j) := by unfold pl; omega
  have h2 : (14 * i + j) / 14 = i := by omega
  have h3 : (14 * i + j) % 14 = j := by omega
  unfold sh
  rw [if_neg (by omega), if_neg (by omega), if_neg (by omega), if_neg (by omega), if_pos (by omega), h1, Nat.add_sub_cancel_left, h2, h3]
theorem sh_SL : sh N 0 = .inl (5, [some 1, some 6]) := rfl
theorem sh_CL : sh N 1 = .inl (0, [some 2, some 3, some 4, some 5, none]) := rfl
theorem sh_C2 : sh N 2 = .inr (.inl (0, 31)) := rfl
theorem sh_C3 : sh N 3 = .inr (.inl (0, 31)) := rfl
theorem sh_C4 : sh N 4 = .inr (.inl (0, 31)) := rfl
theorem sh_C5 : sh N 5 = .inr (.inl (0, 31)) := rfl
theorem sh_NA : sh N 6 = .inr (.inr (N, fun j => pl j 0)) := rfl
theorem sh_Node (hi : i < N) : sh N (pl i 0) = .inl (3, [none, some (pl i 1), some (pl i 3), some (pl i 4), some (pl i 9), none, none, none, none]) := sh_at hi (by decide)
theorem sh_Disk (hi : i < N) : sh N (pl i 1) = .inl (1, [some (pl i 2)]) := sh_at hi (by decide)
theorem sh_Bytes (hi : i < N) : sh N (pl i 2) = .inr (.inl (0, 144)) := sh_at hi (by decide)
theorem sh_Nslots (hi : i < N) : sh N (pl i 3) = .inr (.inl (0, 9)) := sh_at hi (by decide)
theorem sh_Term (hi : i < N) : sh N (pl i 4) = .inl (4, [none, some (pl i 8), some (pl i 5), some (pl i 6), some (pl i 7), none, none]) := sh_at hi (by decide)
theorem sh_Assigned (hi : i < N) : sh N (pl i 5) = .inr (.inl (0, 9)) := sh_at hi (by decide)
theorem sh_Fixed (hi : i < N) : sh N (pl i 6) = .inr (.inl (0, 9)) := sh_at hi (by decide)
theorem sh_Voters (hi : i < N) : sh N (pl i 7) = .inr (.inl (0, 9)) := sh_at hi (by decide)
theorem sh_Told (hi : i < N) : sh N (pl i 8) = .inr (.inl (0, 9 * N)) := sh_at hi (by decide)
theorem sh_Ledger (hi : i < N) : sh N (pl i 9) = .inl (2, [some 1, some (pl i 10), some (pl i 11), some (pl i 12), some (pl i 13), none]) := sh_at hi (by decide)
theorem sh_Commands (hi : i < N) : sh N (pl i 10) = .inr (.inl (0, 9)) := sh_at hi (by decide)
theorem sh_Numbers (hi : i < N) : sh N (pl i 11) = .inr (.inl (0, 4)) := sh_at hi (by decide)
theorem sh_Answers (hi : i < N) : sh N (pl i 12) = .inr (.inl (0, 31)) := sh_at hi (by decide)
theorem sh_Done (hi : i < N) : sh N (pl i 13) = .inr (.inl (1, 31)) := sh_at hi (by decide)
end SHP
-- the world with the system's state S and the other side's state M
def emb (N : Nat) (S M : sT) : sT := fun p k => if p < 7 + 14 * N then S p k else M (p - (7 + 14 * N)) k
abbrev LR (G : xC) (ad : Nat → Nat) (N : Nat) (S M : sT) : va_W := LY G ad N (emb N S M)
section XR
variable {N : Nat} {G : xC} {ad : Nat → Nat} {S M : sT} {j : Nat}
variable {X : xS} {y : mI} {cb sb pc : Nat} {L : List (Option Value)} {st : List Value} {Q : Option Value → va_W → Prop}
variable {ci k i : Nat} {fl : List (Option Nat)}
theorem emb_at : emb N S M (rp N j) k = M j k := by
  unfold emb rp
  rw [if_neg (by omega), Nat.add_sub_cancel_left]
theorem emb_u2 {v : Int32} : u2 (emb N S M) (rp N j) k v = emb N S (u2 M j k v) := by
  funext p x
  unfold emb u2 rp
  dsimp only
  by_cases h : p < 7 + 14 * N
  · rw [if_pos h, if_pos h, if_neg (by omega)]
  · rw [if_neg h, if_neg h]
    by_cases h2 : p = 7 + 14 * N + j ∧ x = k
    · rw [if_pos h2, if_pos ⟨by omega, h2.2⟩]
    · rw [if_neg h2, if_neg (fun z => h2 ⟨by omega, z.2⟩)]
theorem emb_of : emb N S (fun j => S (rp N j)) = S := by
  funext p x
  unfold emb rp
  by_cases h : p < 7 + 14 * N
  · rw [if_pos h]
  · rw [if_neg h]
    dsimp only
    rw [show 7 + 14 * N + (p - (7 + 14 * N)) = p by omega]
theorem krp (h : j < 21) : rp N j < KK N := by
  unfold KK KR rp
  omega
theorem sh_rp : sh N (rp N j) = shR N j := by
  unfold sh rp
  rw [if_neg (by omega), if_neg (by omega), if_neg (by omega), if_neg (by omega), if_neg (by omega), Nat.add_sub_cancel_left]
theorem Ex.toM {M' : sT} (h : M = M') (k : Ex G X y cb sb pc L st (LR G ad N S M') Q) : Ex G X y cb sb pc L st (LR G ad N S M) Q := h ▸ k
theorem xr_get (n : Nat) (hd : decode y.2.1 pc = .ok (.getfield i, 3)) (hn : pc + 3 = n) (hg : xGf y.1.cls i ci k) (hp : j < 21) (hsh : shR N j = .inl (ci, fl)) (hk : fl[k]? = some none)
    (kk : Ex G X y cb sb n L (.int (M j k) :: st) (LR G ad N S M) Q) : Ex G X y cb sb pc L (.ref (ad (rp N j)) :: st) (LR G ad N S M) Q := by
  refine xl_get n hd hn hg (krp hp) (sh_rp.trans hsh) hk ?_
  rw [emb_at]
  exact kk
theorem xr_getR {q : Nat} (n : Nat) (hd : decode y.2.1 pc = .ok (.getfield i, 3)) (hn : pc + 3 = n) (hg : xGf y.1.cls i ci k) (hp : j < 21) (hsh : shR N j = .inl (ci, fl)) (hk : fl[k]? = some (some q))
    (kk : Ex G X y cb sb n L (.ref (ad q) :: st) (LR G ad N S M) Q) : Ex G X y cb sb pc L (.ref (ad (rp N j)) :: st) (LR G ad N S M) Q :=
  xl_getR n hd hn hg (krp hp) (sh_rp.trans hsh) hk kk
theorem xr_put {v : Int32} {t : FieldType} (n : Nat) (hd : decode y.2.1 pc = .ok (.putfield i, 3)) (hn : pc + 3 = n) (hg : xPf y.1.cls i ci k t) (hnr : narrow t (.int v) = .int v) (hft : fits t (.int v) = true) (hp : j < 21) (hsh : shR N j = .inl (ci, fl)) (hk : fl[k]? = some none)
    (kk : Ex G X y cb sb n L st (LR G ad N S (u2 M j k v)) Q) : Ex G X y cb sb pc L (.int v :: .ref (ad (rp N j)) :: st) (LR G ad N S M) Q := by
  refine xl_put n hd hn hg hnr hft (krp hp) (sh_rp.trans hsh) hk ?_
  rw [emb_u2]
  exact kk
theorem xr_iald {a : Int32} {b ln : Nat} (n : Nat) (hd : decode y.2.1 pc = .ok (.iaload, 1)) (hn : pc + 1 = n) (hp : j < 21) (hsh : shR N j = .inr (.inl (0, ln))) (ha : a = nI b) (hj : b < ln) (hln : ln < 2 ^ 31)
    (kk : Ex G X y cb sb n L (.int (M j b) :: st) (LR G ad N S M) Q) : Ex G X y cb sb pc L (.int a :: .ref (ad (rp N j)) :: st) (LR G ad N S M) Q := by
  refine xl_iald n hd hn (krp hp) (sh_rp.trans hsh) ha hj hln ?_
  rw [emb_at]
  exact kk
theorem xr_zald {a : Int32} {b ln : Nat} (n : Nat) (hd : decode y.2.1 pc = .ok (.baload, 1)) (hn : pc + 1 = n) (hp : j < 21) (hsh : shR N j = .inr (.inl (1, ln))) (ha : a = nI b) (hj : b < ln) (hln : ln < 2 ^ 31)
    (kk : Ex G X y cb sb n L (.int (M j b) :: st) (LR G ad N S M) Q) : Ex G X y cb sb pc L (.int a :: .ref (ad (rp N j)) :: st) (LR G ad N S M) Q := by
  refine xl_zald n hd hn (krp hp) (sh_rp.trans hsh) ha hj hln ?_
  rw [emb_at]
  exact kk
theorem xr_iast {a x : Int32} {b ln : Nat} (n : Nat) (hd : decode y.2.1 pc = .ok (.iastore, 1)) (hn : pc + 1 = n) (hp : j < 21) (hsh : shR N j = .inr (.inl (0, ln))) (ha : a = nI b) (hj : b < ln) (hln : ln < 2 ^ 31)
    (kk : Ex G X y cb sb n L st (LR G ad N S (u2 M j b x)) Q) : Ex G X y cb sb pc L (.int x :: .int a :: .ref (ad (rp N j)) :: st) (LR G ad N S M) Q := by
  refine xl_iast n hd hn (krp hp) (sh_rp.trans hsh) ha hj hln ?_
  rw [emb_u2]
  exact kk
theorem xr_zast {a x : Int32} {b ln : Nat} (n : Nat) (hd : decode y.2.1 pc = .ok (.bastore, 1)) (hn : pc + 1 = n) (hp : j < 21) (hsh : shR N j = .inr (.inl (1, ln))) (ha : a = nI b) (hj : b < ln) (hln : ln < 2 ^ 31) (hx : vp_nar .boolean x = x)
    (kk : Ex G X y cb sb n L st (LR G ad N S (u2 M j b x)) Q) : Ex G X y cb sb pc L (.int x :: .int a :: .ref (ad (rp N j)) :: st) (LR G ad N S M) Q := by
  refine xl_zast n hd hn (krp hp) (sh_rp.trans hsh) ha hj hln hx ?_
  rw [emb_u2]
  exact kk
variable {z : mI} {nA : Nat}
theorem xr_callVi {P : Int32 → va_W → Prop} (as : List Value) (rest : List Value) (n : Nat) (hd : decode y.2.1 pc = .ok (.invokevirtual i, 3)) (hn : pc + 3 = n) (hz : xVi z nA ci) (hm : xRm y z) (hk : xLk y.1.cls i z) (hp : j < 21) (hsh : shR N j = .inl (ci, fl)) (hl : as.length = nA) (hst : st = as.reverse ++ .ref (ad (rp N j)) :: rest) (hw : (rest.map fun v => v.category).sum ≤ 8) (hca : as.all (fun v => v.category == 1) = true) (hlen : as.length + 1 ≤ z.2.2.1)
    (hS : Ex G none z 0 0 0 (xEn z (.ref (ad (rp N j)) :: as)) [] (LR G ad N S M) (xI P)) (kk : ∀ v w, P v w → Ex G X y cb sb n L (.int v :: rest) w Q) : Ex G X y cb sb pc L st (LR G ad N S M) Q :=
  xl_callVi as rest n hd hn hz hm hk (krp hp) (sh_rp.trans hsh) hl hst hw hca hlen hS kk
theorem xr_callVv {P : va_W → Prop} (as : List Value) (rest : List Value) (n : Nat) (hd : decode y.2.1 pc = .ok (.invokevirtual i, 3)) (hn : pc + 3 = n) (hz : xVi z nA ci) (hm : xRm y z) (hk : xLk y.1.cls i z) (hp : j < 21) (hsh : shR N j = .inl (ci, fl)) (hl : as.length = nA) (hst : st = as.reverse ++ .ref (ad (rp N j)) :: rest) (hw : (rest.map fun v => v.category).sum ≤ 8) (hca : as.all (fun v => v.category == 1) = true) (hlen : as.length + 1 ≤ z.2.2.1)
    (hS : Ex G none z 0 0 0 (xEn z (.ref (ad (rp N j)) :: as)) [] (LR G ad N S M) (xV P)) (kk : ∀ w, P w → Ex G X y cb sb n L rest w Q) : Ex G X y cb sb pc L st (LR G ad N S M) Q :=
  xl_callVv as rest n hd hn hz hm hk (krp hp) (sh_rp.trans hsh) hl hst hw hca hlen hS kk
end XR
