-- constructors: the world is what was there, and the cells of the object that is made, behind it
theorem tl_at {ws tl : va_W} {k : Nat} {x : Nat × va_E} (h : tl[k]? = some x) : (ws ++ tl)[ws.length + k]? = some x := by
  rw [List.getElem?_append_right (Nat.le_add_right _ _), Nat.add_sub_cancel_left]
  exact h
theorem tl_set {ws tl : va_W} {k : Nat} {x : Nat × va_E} : (ws ++ tl).set (ws.length + k) x = ws ++ tl.set k x := by
  rw [List.set_append_right _ _ (Nat.le_add_right _ _), Nat.add_sub_cancel_left]
def xPn (own : String) (i ci k : Nat) (t : FieldType) : Prop := ∃ (C : String) (T : u_T) (N : Nat) (ty : Nat → FieldType), xFd ci C T N ty ∧ k < N ∧ (T k).1 = C ∧ Cond.fieldLink own i C (T k).2.1 (T k).2.2.1 ∈ xTb ∧ (T k).2.2.2 = true ∧ ty k = t ∧ C = own
def xNw (own : String) (i ci : Nat) (n : Nat) (fs : List Value) : Prop := ∃ (C : String) (T : u_T) (ty : Nat → FieldType), xFd ci C T n ty ∧ Cond.classLink own i C ∈ xTb ∧ Cond.instantiable C n ∈ xTb ∧ Cond.initialized C ∈ xTb ∧ ∀ j, j < n → defaultValue (ty j) = vp_V fs j
section XT
variable {G : xC} {X : xS} {y z : mI} {cb sb cb' sb' cb2 sb2 pc : Nat} {L : List (Option Value)} {st : List Value} {ws tl : va_W} {Q : Option Value → va_W → Prop} {ci k i a : Nat} {fs : List Value} {v : Value} {t : FieldType}
theorem xt_get (j : Nat) (n : Nat) (hd : decode y.2.1 pc = .ok (.getfield i, 3)) (hn : pc + 3 = n) (hg : xGf y.1.cls i ci k) (he : tl[j]? = some (a, .inr (ci, fs))) (hv : fs[k]? = some v)
    (kk : Ex G X y cb sb n L (v :: st) (ws ++ tl) Q) : Ex G X y cb sb pc L (.ref a :: st) (ws ++ tl) Q := by
  obtain ⟨C, T, N, ty, h1, h2, h3, h4⟩ := hg
  rcases h4 with h4 | ⟨host, h4⟩
  · exact ex_get n hd hn h1 h2 h3 h4 (tl_at he) hv kk
  · exact ex_getN n hd hn h1 h2 h3 h4 (tl_at he) hv kk
theorem xt_put (j : Nat) (n : Nat) (hd : decode y.2.1 pc = .ok (.putfield i, 3)) (hn : pc + 3 = n) (hg : xPf y.1.cls i ci k t) (hnr : narrow t v = v) (hft : fits t v = true) (he : tl[j]? = some (a, .inr (ci, fs))) (hlen : k < fs.length)
    (kk : Ex G X y cb sb n L st (ws ++ tl.set j (a, .inr (ci, fs.set k v))) Q) : Ex G X y cb sb pc L (v :: .ref a :: st) (ws ++ tl) Q := by
  obtain ⟨C, T, N, ty, h1, h2, h3, h4, h5, h6⟩ := hg
  rw [← tl_set] at kk
  rcases h4 with h4 | ⟨host, h4⟩
  · exact ex_put n hd hn h1 h2 h3 h4 h5 (tl_at he) (by rw [h6]; exact hnr) (by rw [h6]; exact hft) hlen kk
  · exact ex_putN n hd hn h1 h2 h3 h4 h5 (tl_at he) (by rw [h6]; exact hnr) (by rw [h6]; exact hft) hlen kk
theorem xt_putF (j : Nat) (n : Nat) (hd : decode y.2.1 pc = .ok (.putfield i, 3)) (hn : pc + 3 = n) (hg : xPn y.1.cls i ci k t) (hi : y.1.name = "<init>") (hnr : narrow t v = v) (hft : fits t v = true) (he : tl[j]? = some (a, .inr (ci, fs))) (hlen : k < fs.length)
    (kk : Ex G X y cb sb n L st (ws ++ tl.set j (a, .inr (ci, fs.set k v))) Q) : Ex G X y cb sb pc L (v :: .ref a :: st) (ws ++ tl) Q := by
  obtain ⟨C, T, N, ty, h1, h2, h3, h4, h5, h6, h7⟩ := hg
  rw [← tl_set] at kk
  exact ex_putF n hd hn h1 h2 h3 h4 h5 hi h7 (tl_at he) (by rw [h6]; exact hnr) (by rw [h6]; exact hft) hlen kk
theorem xt_iald {ln b : Nat} {f : Nat → Int32} {x : Int32} (j : Nat) (n : Nat) (hd : decode y.2.1 pc = .ok (.iaload, 1)) (hn : pc + 1 = n) (he : tl[j]? = some (a, .inl (G.2.1, ln, .inl f))) (hx : x = nI b) (hb : b < ln) (hl : ln < 2 ^ 31)
    (kk : Ex G X y cb sb n L (.int (f b) :: st) (ws ++ tl) Q) : Ex G X y cb sb pc L (.int x :: .ref a :: st) (ws ++ tl) Q := by
  subst hx
  refine ex_iald n hd hn (tl_at he) (vp_in_nI hb hl) ?_
  rw [nI_clamp (Nat.lt_trans hb hl)]
  exact kk
theorem xt_iast {ln b : Nat} {f : Nat → Int32} {x w : Int32} (j : Nat) (n : Nat) (hd : decode y.2.1 pc = .ok (.iastore, 1)) (hn : pc + 1 = n) (he : tl[j]? = some (a, .inl (G.2.1, ln, .inl f))) (hx : x = nI b) (hb : b < ln) (hl : ln < 2 ^ 31)
    (kk : Ex G X y cb sb n L st (ws ++ tl.set j (a, .inl (G.2.1, ln, .inl (upd f b w)))) Q) : Ex G X y cb sb pc L (.int w :: .int x :: .ref a :: st) (ws ++ tl) Q := by
  subst hx
  refine ex_iast n hd hn (tl_at he) (vp_in_nI hb hl) ?_
  rw [nI_clamp (Nat.lt_trans hb hl), tl_set]
  exact kk
theorem xt_zast {ln b : Nat} {f : Nat → Int32} {x w : Int32} (j : Nat) (n : Nat) (hd : decode y.2.1 pc = .ok (.bastore, 1)) (hn : pc + 1 = n) (he : tl[j]? = some (a, .inl (G.2.2.1, ln, .inl f))) (hx : x = nI b) (hb : b < ln) (hl : ln < 2 ^ 31) (hw : vp_nar .boolean w = w)
    (kk : Ex G X y cb sb n L st (ws ++ tl.set j (a, .inl (G.2.2.1, ln, .inl (upd f b w)))) Q) : Ex G X y cb sb pc L (.int w :: .int x :: .ref a :: st) (ws ++ tl) Q := by
  subst hx
  refine ex_zast n hd hn (tl_at he) (vp_in_nI hb hl) ?_
  rw [nI_clamp (Nat.lt_trans hb hl), tl_set, hw]
  exact kk
theorem xt_aast {ln c b : Nat} {f : Nat → Option Nat} {x : Int32} {vs : List Value} {r : vw_C} (j j1 : Nat) (n : Nat) (hd : decode y.2.1 pc = .ok (.aastore, 1)) (hn : pc + 1 = n) (he : tl[j]? = some (a, .inl (G.2.2.2, ln, .inr (.inr (.inr (.inr f)))))) (hb : tl[j1]? = some (c, .inr (3, vs))) (hr : xCl[3]? = some r) (hr1 : r.1 = R_Node) (hx : x = nI b) (hbl : b < ln) (hl : ln < 2 ^ 31)
    (kk : Ex G X y cb sb n L st (ws ++ tl.set j (a, .inl (G.2.2.2, ln, .inr (.inr (.inr (.inr (va_up f b (some c)))))))) Q) : Ex G X y cb sb pc L (.ref c :: .int x :: .ref a :: st) (ws ++ tl) Q := by
  subst hx
  refine ex_aast n hd hn (tl_at he) (tl_at hb) hr hr1 (vp_in_nI hbl hl) ?_
  rw [nI_clamp (Nat.lt_trans hbl hl), tl_set]
  exact kk
theorem xt_new {N : Nat} (fs : List Value) (n : Nat) (hd : decode y.2.1 pc = .ok (.new i, 3)) (hn : pc + 3 = n) (hg : xNw y.1.cls i ci N fs) (hc : cb + 1 ≤ cb2 ∧ sb + N ≤ sb2)
    (kk : ∀ q : Nat, Ex G X y cb sb n L (.ref q :: st) (ws ++ (tl ++ [(q, .inr (ci, fs))])) Q) : Ex G X y cb2 sb2 pc L st (ws ++ tl) Q := by
  obtain ⟨C, T, ty, h1, h2, h3, h4, h5⟩ := hg
  refine Ex.less (ex_new fs n hd hn h1 h2 h3 h4 h5 (fun q => ?_)) hc.1 hc.2
  rw [List.append_assoc]
  exact kk q
theorem xt_newI {x : Int32} (N : Nat) (n : Nat) (hd : decode y.2.1 pc = .ok (.newarray .int, 2)) (hn : pc + 2 = n) (h1 : Cond.arrayClass .int ∈ xTb) (hv : ¬ x < 0) (hN : x.toNatClampNeg = N) (hb : N ≤ 100000) (hc : cb + 1 ≤ cb2 ∧ sb + N ≤ sb2)
    (kk : ∀ q : Nat, Ex G X y cb sb n L (.ref q :: st) (ws ++ (tl ++ [(q, .inl (G.2.1, N, .inl (fun _ => 0)))])) Q) : Ex G X y cb2 sb2 pc L (.int x :: st) (ws ++ tl) Q := by
  refine Ex.less (ex_newI N n hd hn h1 hv hN hb (fun q => ?_)) hc.1 hc.2
  rw [List.append_assoc]
  exact kk q
theorem xt_newZ {x : Int32} (N : Nat) (n : Nat) (hd : decode y.2.1 pc = .ok (.newarray .boolean, 2)) (hn : pc + 2 = n) (h1 : Cond.arrayClass .boolean ∈ xTb) (hv : ¬ x < 0) (hN : x.toNatClampNeg = N) (hb : N ≤ 100000) (hc : cb + 1 ≤ cb2 ∧ sb + N ≤ sb2)
    (kk : ∀ q : Nat, Ex G X y cb sb n L (.ref q :: st) (ws ++ (tl ++ [(q, .inl (G.2.2.1, N, .inl (fun _ => 0)))])) Q) : Ex G X y cb2 sb2 pc L (.int x :: st) (ws ++ tl) Q := by
  refine Ex.less (ex_newZ N n hd hn h1 hv hN hb (fun q => ?_)) hc.1 hc.2
  rw [List.append_assoc]
  exact kk q
theorem xt_newQ {x : Int32} (N : Nat) (n : Nat) (hd : decode y.2.1 pc = .ok (.anewarray i, 3)) (hn : pc + 3 = n) (h1 : Cond.classLink y.1.cls i R_Node ∈ xTb) (hv : ¬ x < 0) (hN : x.toNatClampNeg = N) (hb : N ≤ 100000) (hc : cb + 1 ≤ cb2 ∧ sb + N ≤ sb2)
    (kk : ∀ q : Nat, Ex G X y cb sb n L (.ref q :: st) (ws ++ (tl ++ [(q, .inl (G.2.2.2, N, .inr (.inr (.inr (.inr (fun _ => none))))))])) Q) : Ex G X y cb2 sb2 pc L (.int x :: st) (ws ++ tl) Q := by
  refine Ex.less (ex_newQ N n hd hn h1 hv hN hb (fun q => ?_)) hc.1 hc.2
  rw [List.append_assoc]
  exact kk q
-- a constructor called: its object is the last cell; behind it the world is ws ++ tl'
theorem xt_callI {nA : Nat} {P : va_W → Prop} (as : List Value) (rest : List Value) (n : Nat) (hd : decode y.2.1 pc = .ok (.invokespecial i, 3)) (hn : pc + 3 = n) (hz : xOk z nA) (hm : xRm y z) (hk : xLk y.1.cls i z) (hi1 : Cond.instanceMethod z.1 ∈ xTb) (hi2 : z.1.name = "<init>") (hi3 : z.2.2.2.1 = none) (hl : as.length = nA) (hst : st = as.reverse ++ .ref a :: rest) (hw : (rest.map fun v => v.category).sum ≤ 8) (hca : as.all (fun v => v.category == 1) = true) (hlen : as.length + 1 ≤ z.2.2.1)
    (hS : Ex G none z cb' sb' 0 (xEn z (.ref a :: as)) [] (ws ++ tl) (xV P)) (hcb : cb' + cb ≤ cb2 ∧ sb' + sb ≤ sb2) (kk : ∀ w, P w → Ex G X y cb sb n L rest w Q) : Ex G X y cb2 sb2 pc L st (ws ++ tl) Q := by
  rcases hk with hk | ⟨host, hk⟩
  · exact ex_callIv n hd hn hz hm hk hi1 hi2 hi3 hl hst hw hca hlen hS hcb kk
  · exact ex_callINv n hd hn hz hm hk hi1 hi2 hi3 hl hst hw hca hlen hS hcb kk
theorem xt_callVv {nA : Nat} {P : va_W → Prop} (j : Nat) (as : List Value) (rest : List Value) (n : Nat) (hd : decode y.2.1 pc = .ok (.invokevirtual i, 3)) (hn : pc + 3 = n) (hz : xVi z nA ci) (hm : xRm y z) (hk : xLk y.1.cls i z) (he : tl[j]? = some (a, .inr (ci, fs))) (hl : as.length = nA) (hst : st = as.reverse ++ .ref a :: rest) (hw : (rest.map fun v => v.category).sum ≤ 8) (hca : as.all (fun v => v.category == 1) = true) (hlen : as.length + 1 ≤ z.2.2.1)
    (hS : Ex G none z 0 0 0 (xEn z (.ref a :: as)) [] (ws ++ tl) (xV P)) (kk : ∀ w, P w → Ex G X y cb sb n L rest w Q) : Ex G X y cb sb pc L st (ws ++ tl) Q := by
  obtain ⟨h1, h2, h3, r0, h4, h5⟩ := hz
  rcases hk with hk | ⟨host, hk⟩
  · exact ex_callVv n hd hn h1 hm hk h2 h3 (tl_at he) h4 h5 hl hst hw hca hlen hS kk
  · exact ex_callVNv n hd hn h1 hm hk h2 h3 (tl_at he) h4 h5 hl hst hw hca hlen hS kk
end XT
-- contents behind the constructors
def seal1T (f : Nat → Int32) (b k : Nat) : Nat → Int32 := upd f (b + 4 + k) (f (b + k) ^^^ 255)
def sealT (f : Nat → Int32) (b : Nat) : Nat → Int32 := seal1T (seal1T (seal1T (seal1T f b 0) b 1) b 2) b 3
def dk0 : Nat → (Nat → Int32)
  | 0 => fun _ => 0
  | k + 1 => sealT (dk0 k) (8 * k)
def fT (f : Nat → Int32) (v : Int32) : Nat → (Nat → Int32)
  | 0 => f
  | k + 1 => upd (fT f v k) k v
