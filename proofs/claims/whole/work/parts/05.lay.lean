-- shapes of cells: an object (its number, its fields: an int, or a reference to a place); an array of ints (0) or booleans (1) and its length; an array of references
abbrev shT : Type := (Nat × List (Option Nat)) ⊕ ((Nat × Nat) ⊕ (Nat × (Nat → Nat)))
-- the ints of a state: place, number within the cell
abbrev sT : Type := Nat → Nat → Int32
def cid (G : xC) (t : Nat) : ClassId := if t = 0 then G.2.1 else G.2.2.1
def fv (ad : Nat → Nat) (S : sT) (p k : Nat) (o : Option Nat) : Value := match o with
  | none => .int (S p k)
  | some q => .ref (ad q)
def cellOf (G : xC) (ad : Nat → Nat) (S : sT) (p : Nat) (h : shT) : va_E := match h with
  | .inl a => .inr (a.1, a.2.mapIdx (fun k o => fv ad S p k o))
  | .inr (.inl a) => .inl (cid G a.1, a.2, .inl (S p))
  | .inr (.inr a) => .inl (G.2.2.2, a.1, .inr (.inr (.inr (.inr (fun j => if j < a.1 then some (ad (a.2 j)) else none)))))
def lay (sh : Nat → shT) (K : Nat) (G : xC) (ad : Nat → Nat) (S : sT) : va_W := (List.range K).map (fun p => (ad p, cellOf G ad S p (sh p)))
def u2 (S : sT) (p k : Nat) (v : Int32) : sT := fun q j => if q = p ∧ j = k then v else S q j
section LAY
variable {sh : Nat → shT} {K : Nat} {G : xC} {ad : Nat → Nat} {S S' : sT} {p : Nat}
theorem lay_at (hp : p < K) : (lay sh K G ad S)[p]? = some (ad p, cellOf G ad S p (sh p)) := by
  simp [lay, hp]
theorem cellOf_congr {h : shT} (hS : ∀ j, S' p j = S p j) : cellOf G ad S' p h = cellOf G ad S p h := by
  have e : S' p = S p := funext hS
  rcases h with a | a | a
  · simp only [cellOf, fv, e]
  · simp only [cellOf, e]
  · rfl
theorem lay_set {e : va_E} (hp : p < K) (he : e = cellOf G ad S' p (sh p)) (hS : ∀ q j, q ≠ p → S' q j = S q j) : (lay sh K G ad S).set p (ad p, e) = lay sh K G ad S' := by
  subst he
  apply List.ext_getElem?
  intro i
  rw [List.getElem?_set]
  have hl : (lay sh K G ad S).length = K := by simp [lay]
  by_cases hi : p = i
  · subst hi
    rw [if_pos rfl, hl, if_pos hp, lay_at hp]
  · rw [if_neg hi]
    by_cases hk : i < K
    · rw [lay_at hk, lay_at hk, cellOf_congr (hS i · (fun z => hi z.symm))]
    · simp [lay, hk]
theorem u2_at {k : Nat} {v : Int32} : u2 S p k v p k = v := if_pos ⟨rfl, rfl⟩
theorem u2_off {k q j : Nat} {v : Int32} (h : ¬ (q = p ∧ j = k)) : u2 S p k v q j = S q j := if_neg h
end LAY
section XL
variable {sh : Nat → shT} {K : Nat} {G : xC} {ad : Nat → Nat} {S : sT} {p : Nat}
variable {X : xS} {y : mI} {cb sb pc : Nat} {L : List (Option Value)} {st : List Value} {Q : Option Value → va_W → Prop}
variable {ci k N i : Nat} {C host : String} {T : u_T} {ty : Nat → FieldType} {fl : List (Option Nat)}
theorem Ex.toS {S' : sT} (h : S = S') (k : Ex G X y cb sb pc L st (lay sh K G ad S') Q) : Ex G X y cb sb pc L st (lay sh K G ad S) Q := h ▸ k
theorem fl_at {o : Option Nat} (hk : fl[k]? = some o) : (fl.mapIdx (fun k o => fv ad S p k o))[k]? = some (fv ad S p k o) := by
  simp [List.getElem?_mapIdx, hk]
theorem fl_set {v : Int32} (hk : fl[k]? = some none) : (fl.mapIdx (fun k o => fv ad S p k o)).set k (.int v) = fl.mapIdx (fun j o => fv ad (u2 S p k v) p j o) := by
  apply List.ext_getElem?
  intro j
  rw [List.getElem?_set]
  by_cases hj : k = j
  · subst hj
    have hl : k < fl.length := (List.getElem?_eq_some_iff.mp hk).1
    rw [if_pos rfl, List.length_mapIdx, if_pos hl, List.getElem?_mapIdx, hk]
    show some (Value.int v) = some (Value.int (u2 S p k v p k))
    rw [u2_at]
  · rw [if_neg hj, List.getElem?_mapIdx, List.getElem?_mapIdx]
    cases hf : fl[j]? with
    | none => rfl
    | some o =>
      cases o with
      | none =>
        show some (Value.int (S p j)) = some (Value.int (u2 S p k v p j))
        rw [u2_off (fun z => hj z.2.symm)]
      | some q => rfl
-- what an instruction that reads or writes a field, or calls, needs of the tables
def xLf (own : String) (i : Nat) (C nm d : String) : Prop := Cond.fieldLink own i C nm d ∈ xTb ∨ ∃ host, Cond.fieldLinkNest own i C nm d host ∈ xNest
def xGf (own : String) (i ci k : Nat) : Prop := ∃ (C : String) (T : u_T) (N : Nat) (ty : Nat → FieldType), xFd ci C T N ty ∧ k < N ∧ (T k).1 = C ∧ xLf own i C (T k).2.1 (T k).2.2.1
def xPf (own : String) (i ci k : Nat) (t : FieldType) : Prop := ∃ (C : String) (T : u_T) (N : Nat) (ty : Nat → FieldType), xFd ci C T N ty ∧ k < N ∧ (T k).1 = C ∧ xLf own i C (T k).2.1 (T k).2.2.1 ∧ (T k).2.2.2 = false ∧ ty k = t
def xLk (own : String) (i : Nat) (z : mI) : Prop := Cond.methodLink own i z.1 ∈ xTb ∨ ∃ host, Cond.methodLinkNest own i z.1 host ∈ xNest
def xVi (z : mI) (nA ci : Nat) : Prop := xOk z nA ∧ Cond.instanceMethod z.1 ∈ xTb ∧ Cond.selects z.1.cls z.1 z.1 ∈ xTb ∧ ∃ r0 : vw_C, xCl[ci]? = some r0 ∧ r0.1 = z.1.cls
def xSi (z : mI) (nA : Nat) : Prop := xOk z nA ∧ Cond.static z.1 ∈ xTb
theorem xl_get (n : Nat) (hd : decode y.2.1 pc = .ok (.getfield i, 3)) (hn : pc + 3 = n) (hg : xGf y.1.cls i ci k) (hp : p < K) (hsh : sh p = .inl (ci, fl)) (hk : fl[k]? = some none)
    (kk : Ex G X y cb sb n L (.int (S p k) :: st) (lay sh K G ad S) Q) : Ex G X y cb sb pc L (.ref (ad p) :: st) (lay sh K G ad S) Q := by
  obtain ⟨C, T, N, ty, h1, h2, h3, h4⟩ := hg
  have he := lay_at (G := G) (ad := ad) (S := S) (sh := sh) hp
  rw [hsh] at he
  rcases h4 with h4 | ⟨host, h4⟩
  · exact ex_get n hd hn h1 h2 h3 h4 he (fl_at hk) kk
  · exact ex_getN n hd hn h1 h2 h3 h4 he (fl_at hk) kk
theorem xl_getR {q : Nat} (n : Nat) (hd : decode y.2.1 pc = .ok (.getfield i, 3)) (hn : pc + 3 = n) (hg : xGf y.1.cls i ci k) (hp : p < K) (hsh : sh p = .inl (ci, fl)) (hk : fl[k]? = some (some q))
    (kk : Ex G X y cb sb n L (.ref (ad q) :: st) (lay sh K G ad S) Q) : Ex G X y cb sb pc L (.ref (ad p) :: st) (lay sh K G ad S) Q := by
  obtain ⟨C, T, N, ty, h1, h2, h3, h4⟩ := hg
  have he := lay_at (G := G) (ad := ad) (S := S) (sh := sh) hp
  rw [hsh] at he
  rcases h4 with h4 | ⟨host, h4⟩
  · exact ex_get n hd hn h1 h2 h3 h4 he (fl_at hk) kk
  · exact ex_getN n hd hn h1 h2 h3 h4 he (fl_at hk) kk
theorem xl_put {v : Int32} {t : FieldType} (n : Nat) (hd : decode y.2.1 pc = .ok (.putfield i, 3)) (hn : pc + 3 = n) (hg : xPf y.1.cls i ci k t) (hnr : narrow t (.int v) = .int v) (hft : fits t (.int v) = true) (hp : p < K) (hsh : sh p = .inl (ci, fl)) (hk : fl[k]? = some none)
    (kk : Ex G X y cb sb n L st (lay sh K G ad (u2 S p k v)) Q) : Ex G X y cb sb pc L (.int v :: .ref (ad p) :: st) (lay sh K G ad S) Q := by
  obtain ⟨C, T, N, ty, h1, h2, h3, h4, h5, h6⟩ := hg
  have he := lay_at (G := G) (ad := ad) (S := S) (sh := sh) hp
  rw [hsh] at he
  have hlen : k < (fl.mapIdx (fun k o => fv ad S p k o)).length := by rw [List.length_mapIdx]; exact (List.getElem?_eq_some_iff.mp hk).1
  have e : (lay sh K G ad S).set p (ad p, .inr (ci, (fl.mapIdx (fun k o => fv ad S p k o)).set k (.int v))) = lay sh K G ad (u2 S p k v) := by
    refine lay_set hp ?_ (fun q j hq => u2_off (fun z => hq z.1))
    rw [hsh, fl_set hk]
    rfl
  rw [← e] at kk
  rcases h4 with h4 | ⟨host, h4⟩
  · exact ex_put n hd hn h1 h2 h3 h4 h5 he (by rw [h6]; exact hnr) (by rw [h6]; exact hft) hlen kk
  · exact ex_putN n hd hn h1 h2 h3 h4 h5 he (by rw [h6]; exact hnr) (by rw [h6]; exact hft) hlen kk
theorem xl_iald {a : Int32} {j ln : Nat} (n : Nat) (hd : decode y.2.1 pc = .ok (.iaload, 1)) (hn : pc + 1 = n) (hp : p < K) (hsh : sh p = .inr (.inl (0, ln))) (ha : a = nI j) (hj : j < ln) (hln : ln < 2 ^ 31)
    (kk : Ex G X y cb sb n L (.int (S p j) :: st) (lay sh K G ad S) Q) : Ex G X y cb sb pc L (.int a :: .ref (ad p) :: st) (lay sh K G ad S) Q := by
  subst ha
  have he := lay_at (G := G) (ad := ad) (S := S) (sh := sh) hp
  rw [hsh] at he
  refine ex_iald n hd hn he (vp_in_nI hj hln) ?_
  rw [nI_clamp (Nat.lt_trans hj hln)]
  exact kk
theorem xl_zald {a : Int32} {j ln : Nat} (n : Nat) (hd : decode y.2.1 pc = .ok (.baload, 1)) (hn : pc + 1 = n) (hp : p < K) (hsh : sh p = .inr (.inl (1, ln))) (ha : a = nI j) (hj : j < ln) (hln : ln < 2 ^ 31)
    (kk : Ex G X y cb sb n L (.int (S p j) :: st) (lay sh K G ad S) Q) : Ex G X y cb sb pc L (.int a :: .ref (ad p) :: st) (lay sh K G ad S) Q := by
  subst ha
  have he := lay_at (G := G) (ad := ad) (S := S) (sh := sh) hp
  rw [hsh] at he
  refine ex_zald n hd hn he (vp_in_nI hj hln) ?_
  rw [nI_clamp (Nat.lt_trans hj hln)]
  exact kk
theorem u2_upd {j : Nat} {x : Int32} : upd (S p) j x = u2 S p j x p := by
  funext q
  simp [upd, u2]
theorem xl_iast {a x : Int32} {j ln : Nat} (n : Nat) (hd : decode y.2.1 pc = .ok (.iastore, 1)) (hn : pc + 1 = n) (hp : p < K) (hsh : sh p = .inr (.inl (0, ln))) (ha : a = nI j) (hj : j < ln) (hln : ln < 2 ^ 31)
    (kk : Ex G X y cb sb n L st (lay sh K G ad (u2 S p j x)) Q) : Ex G X y cb sb pc L (.int x :: .int a :: .ref (ad p) :: st) (lay sh K G ad S) Q := by
  subst ha
  have he := lay_at (G := G) (ad := ad) (S := S) (sh := sh) hp
  rw [hsh] at he
  refine ex_iast n hd hn he (vp_in_nI hj hln) ?_
  rw [nI_clamp (Nat.lt_trans hj hln)]
  have e : (lay sh K G ad S).set p (ad p, .inl (G.2.1, ln, .inl (upd (S p) j x))) = lay sh K G ad (u2 S p j x) := by
    refine lay_set hp ?_ (fun q j hq => u2_off (fun z => hq z.1))
    rw [hsh, u2_upd]
    rfl
  rw [e]
  exact kk
theorem xl_zast {a x : Int32} {j ln : Nat} (n : Nat) (hd : decode y.2.1 pc = .ok (.bastore, 1)) (hn : pc + 1 = n) (hp : p < K) (hsh : sh p = .inr (.inl (1, ln))) (ha : a = nI j) (hj : j < ln) (hln : ln < 2 ^ 31) (hx : vp_nar .boolean x = x)
    (kk : Ex G X y cb sb n L st (lay sh K G ad (u2 S p j x)) Q) : Ex G X y cb sb pc L (.int x :: .int a :: .ref (ad p) :: st) (lay sh K G ad S) Q := by
  subst ha
  have he := lay_at (G := G) (ad := ad) (S := S) (sh := sh) hp
  rw [hsh] at he
  refine ex_zast n hd hn he (vp_in_nI hj hln) ?_
  rw [nI_clamp (Nat.lt_trans hj hln), hx]
  have e : (lay sh K G ad S).set p (ad p, .inl (G.2.2.1, ln, .inl (upd (S p) j x))) = lay sh K G ad (u2 S p j x) := by
    refine lay_set hp ?_ (fun q j hq => u2_off (fun z => hq z.1))
    rw [hsh, u2_upd]
    rfl
  rw [e]
  exact kk
theorem xl_aald {a : Int32} {j ln : Nat} {f : Nat → Nat} (n : Nat) (hd : decode y.2.1 pc = .ok (.aaload, 1)) (hn : pc + 1 = n) (hp : p < K) (hsh : sh p = .inr (.inr (ln, f))) (ha : a = nI j) (hj : j < ln) (hln : ln < 2 ^ 31)
    (kk : Ex G X y cb sb n L (.ref (ad (f j)) :: st) (lay sh K G ad S) Q) : Ex G X y cb sb pc L (.int a :: .ref (ad p) :: st) (lay sh K G ad S) Q := by
  subst ha
  have he := lay_at (G := G) (ad := ad) (S := S) (sh := sh) hp
  rw [hsh] at he
  refine ex_aald n hd hn he (vp_in_nI hj hln) ?_ kk
  rw [nI_clamp (Nat.lt_trans hj hln), if_pos hj]
theorem xl_alen {ln : Nat} {f : Nat → Nat} (n : Nat) (hd : decode y.2.1 pc = .ok (.arraylength, 1)) (hn : pc + 1 = n) (hp : p < K) (hsh : sh p = .inr (.inr (ln, f)))
    (kk : Ex G X y cb sb n L (.int (nI ln) :: st) (lay sh K G ad S) Q) : Ex G X y cb sb pc L (.ref (ad p) :: st) (lay sh K G ad S) Q := by
  have he := lay_at (G := G) (ad := ad) (S := S) (sh := sh) hp
  rw [hsh] at he
  exact ex_alen 2 n hd hn he rfl rfl kk
variable {z : mI} {nA : Nat} {rest : List Value}
theorem xl_callVi {P : Int32 → va_W → Prop} (as : List Value) (rest : List Value) (n : Nat) (hd : decode y.2.1 pc = .ok (.invokevirtual i, 3)) (hn : pc + 3 = n) (hz : xVi z nA ci) (hm : xRm y z) (hk : xLk y.1.cls i z) (hp : p < K) (hsh : sh p = .inl (ci, fl)) (hl : as.length = nA) (hst : st = as.reverse ++ .ref (ad p) :: rest) (hw : (rest.map fun v => v.category).sum ≤ 8) (hca : as.all (fun v => v.category == 1) = true) (hlen : as.length + 1 ≤ z.2.2.1)
    (hS : Ex G none z 0 0 0 (xEn z (.ref (ad p) :: as)) [] (lay sh K G ad S) (xI P)) (kk : ∀ v w, P v w → Ex G X y cb sb n L (.int v :: rest) w Q) : Ex G X y cb sb pc L st (lay sh K G ad S) Q := by
  obtain ⟨h1, h2, h3, r0, h4, h5⟩ := hz
  have he := lay_at (G := G) (ad := ad) (S := S) (sh := sh) hp
  rw [hsh] at he
  rcases hk with hk | ⟨host, hk⟩
  · exact ex_callVi n hd hn h1 hm hk h2 h3 he h4 h5 hl hst hw hca hlen hS kk
  · exact ex_callVNi n hd hn h1 hm hk h2 h3 he h4 h5 hl hst hw hca hlen hS kk
theorem xl_callVv {P : va_W → Prop} (as : List Value) (rest : List Value) (n : Nat) (hd : decode y.2.1 pc = .ok (.invokevirtual i, 3)) (hn : pc + 3 = n) (hz : xVi z nA ci) (hm : xRm y z) (hk : xLk y.1.cls i z) (hp : p < K) (hsh : sh p = .inl (ci, fl)) (hl : as.length = nA) (hst : st = as.reverse ++ .ref (ad p) :: rest) (hw : (rest.map fun v => v.category).sum ≤ 8) (hca : as.all (fun v => v.category == 1) = true) (hlen : as.length + 1 ≤ z.2.2.1)
    (hS : Ex G none z 0 0 0 (xEn z (.ref (ad p) :: as)) [] (lay sh K G ad S) (xV P)) (kk : ∀ w, P w → Ex G X y cb sb n L rest w Q) : Ex G X y cb sb pc L st (lay sh K G ad S) Q := by
  obtain ⟨h1, h2, h3, r0, h4, h5⟩ := hz
  have he := lay_at (G := G) (ad := ad) (S := S) (sh := sh) hp
  rw [hsh] at he
  rcases hk with hk | ⟨host, hk⟩
  · exact ex_callVv n hd hn h1 hm hk h2 h3 he h4 h5 hl hst hw hca hlen hS kk
  · exact ex_callVNv n hd hn h1 hm hk h2 h3 he h4 h5 hl hst hw hca hlen hS kk
theorem xl_callSi {ws : va_W} {P : Int32 → va_W → Prop} (as : List Value) (rest : List Value) (n : Nat) (hd : decode y.2.1 pc = .ok (.invokestatic i, 3)) (hn : pc + 3 = n) (hz : xSi z nA) (hm : xRm y z) (hk : xLk y.1.cls i z) (hl : as.length = nA) (hst : st = as.reverse ++ rest) (hw : (rest.map fun v => v.category).sum ≤ 8) (hca : as.all (fun v => v.category == 1) = true) (hlen : as.length ≤ z.2.2.1)
    (hS : Ex G none z 0 0 0 (xEn z as) [] ws (xI P)) (kk : ∀ v w, P v w → Ex G X y cb sb n L (.int v :: rest) w Q) : Ex G X y cb sb pc L st ws Q := by
  rcases hk with hk | ⟨host, hk⟩
  · exact ex_callSi n hd hn hz.1 hm hk hz.2 hl hst hw hca hlen hS kk
  · exact ex_callSNi n hd hn hz.1 hm hk hz.2 hl hst hw hca hlen hS kk
end XL
