-- the words of the tables that a call carries on, and those of the nest
def xIsA : Cond → Bool
  | .arrayClass _ => true
  | _ => false
def xIsN : Cond → Bool
  | .fieldLinkNest .. => true
  | .methodLinkNest .. => true
  | _ => false
def xTb : List Cond := lw_tbl.filter (fun w => (w.onTables && w.keeps) || xIsA w)
def xNest : List Cond := lw_tbl.filter xIsN
theorem xGood : ∀ w ∈ xTb, (w.onTables && w.keeps) = true ∨ ∃ ty, w = .arrayClass ty := by
  intro w hw
  have h := (List.mem_filter.mp hw).2
  rcases (Bool.or_eq_true _ _).mp h with h | h
  · exact Or.inl h
  · right
    cases w <;> first | exact ⟨_, rfl⟩ | (exact absurd h (by simp [xIsA]))
theorem xNest_on : ∀ w ∈ xNest, w.onTables = true := by
  intro w hw
  have h := (List.mem_filter.mp hw).2
  cases w <;> first | rfl | (exact absurd h (by simp [xIsN]))
theorem xNest_warm : ∀ w ∈ xNest, ∀ {s U : State}, s.WarmedH U.vm → va_Nw w s → va_Nw w U := by
  intro w hw s U hW hZ
  have h := (List.mem_filter.mp hw).2
  cases w <;> first | exact va_Nw.warmF hW hZ | exact va_Nw.warmM hW hZ | (exact absurd h (by simp [xIsN]))
-- a method: its name, code, number of slots, answer, frames and words of room
abbrev mI : Type := MethodName × ByteArray × Nat × Option FieldType × Nat × Nat
-- the numbers of the kinds of cells: objects and their fields; int[], boolean[], Node[]
abbrev xC : Type := va_G × ClassId × ClassId × ClassId
-- the script: address, length, contents
abbrev xS : Type := Option (Nat × Nat × (Nat → Int32))
abbrev xTys (G : xC) : List (ClassId × FieldType) := [(G.2.1, .int), (G.2.2.1, .boolean), (G.2.2.2, .object R_Node)]
def xCx (y : mI) (p : Program) (R : Room) (s : State) (m : MethodId) (args : Array Value) (meth : Method) (c : Code) : Prop :=
  p.tables.exec = Jvm.exec ∧ c.code = y.2.1 ∧ c.maxLocals = y.2.2.1 ∧ s.vm.findClass y.1.cls = some m.cls ∧ (∀ w ∈ xTb, w.before args s = true) ∧ (∀ w ∈ xNest, va_Nw w s) ∧ va_AO R_Node s ∧ meth.sig.returnType = y.2.2.2.1 ∧ meth.locks = false ∧ meth.name = y.1.name ∧ y.2.2.2.2.1 ≤ R.frames ∧ y.2.2.2.2.2 ≤ R.locals
def xSc (X : xS) (s : State) (A : Nat → Prop) : Prop := ∀ (b n : Nat) (f : Nat → Int32), X = some (b, n, f) → va_X b n f s s.heap ∧ b < s.heap.size ∧ ¬ A b
-- the slots of a frame: by place, where known
def xl (L : List (Option Value)) : List (Nat × Value) := (List.range L.length).filterMap (fun j => match L[j]? with | some (some v) => some (j, v) | _ => none)
theorem xl_mem {L : List (Option Value)} {q : Nat × Value} : q ∈ xl L ↔ L[q.1]? = some (some q.2) := by
  obtain ⟨i, v⟩ := q
  unfold xl
  simp only [List.mem_filterMap, List.mem_range]
  constructor
  · rintro ⟨j, hj, h⟩
    split at h
    · rename_i w hw
      cases h
      exact hw
    · cases h
  · intro h
    refine ⟨i, (List.getElem?_eq_some_iff.mp h).1, ?_⟩
    rw [h]
def xLs (L : List (Option Value)) (ls : Array Slot) (n : Nat) : Prop := L.length = n ∧ lv_has ls n (xl L) ∧ ∀ q ∈ xl L, q.2.category = 1
theorem xLs.at {L : List (Option Value)} {ls : Array Slot} {n i : Nat} {v : Value} (h : xLs L ls n) (hi : L[i]? = some (some v)) : ls[i]? = some (.val v) :=
  h.2.1.2.2 (i, v) (xl_mem.mpr hi)
theorem xLs.store {L : List (Option Value)} {ls ls' : Array Slot} {n i : Nat} {v : Value} (h : xLs L ls n) (hi : i < n) (hv : v.category = 1)
    (h' : lv_has ls' n ((i, v) :: (xl L).filter (fun q => !(q.1 == i) && !(q.1 + 1 == i && q.2.category == 2)))) : xLs (L.set i (some v)) ls' n := by
  have key : ∀ q ∈ xl (L.set i (some v)), q = (i, v) ∨ (q ∈ xl L ∧ q.1 ≠ i) := by
    intro q hq
    have hq := xl_mem.mp hq
    rw [List.getElem?_set] at hq
    by_cases e : i = q.1
    · rw [if_pos e] at hq
      split at hq
      · have := Option.some.inj (Option.some.inj hq)
        left
        exact Prod.ext e.symm this.symm
      · cases hq
    · rw [if_neg e] at hq
      exact Or.inr ⟨xl_mem.mpr hq, fun z => e z.symm⟩
  refine ⟨by rw [List.length_set]; exact h.1, ⟨h'.1, h'.2.1, fun q hq => ?_⟩, fun q hq => ?_⟩
  · rcases key q hq with rfl | ⟨h1, h2⟩
    · exact h'.2.2 _ List.mem_cons_self
    · refine h'.2.2 _ (List.mem_cons_of_mem _ (List.mem_filter.mpr ⟨h1, ?_⟩))
      have h3 := h.2.2 q h1
      simp [h2, h3]
  · rcases key q hq with rfl | ⟨h1, -⟩
    · exact hv
    · exact h.2.2 q h1
-- the answers of a method at an instruction that returns
def xRet (y : mI) (pc : Nat) : Option Value → Prop
  | none => decode y.2.1 pc = .ok (.return_, 1) ∧ y.2.2.2.1 = none
  | some (.int v) => decode y.2.1 pc = .ok (.ireturn, 1) ∧ (y.2.2.2.1 = some .int ∨ (y.2.2.2.1 = some .boolean ∧ narrow .boolean (.int v) = .int v))
  | _ => False
def Ex (G : xC) (X : xS) (y : mI) (cb sb pc : Nat) (L : List (Option Value)) (st : List Value) (ws : va_W) (Q : Option Value → va_W → Prop) : Prop :=
  ∀ (p : Program) (l : Launch) (e : Env) (R : Room) (s : State) (m : MethodId) (args : Array Value) (below : List Frame) (meth : Method) (c : Code) (H : Heap) (locs : List Loc) (cells slots : Nat) (A : Nat → Prop) (ls : Array Slot) (Qw : State → Prop),
    xCx y p R s m args meth c → xSc X s A → va_K G.1 xCl (xTys G) s → va_P G.1 xCl ws H → va_D A ws → va_S A s.heap H locs → (∀ q, s.heap.size ≤ q → A q) → xLs L ls y.2.2.1 → cells + cb ≤ R.cells → slots + sb ≤ R.slots →
    (∀ (r : Option Value) (w : va_W) (H : Heap) (locs : List Loc) (cells slots pc : Nat) (ls : Array Slot), Q r w → va_P G.1 xCl w H → va_D A w → va_S A s.heap H locs → cells ≤ R.cells → slots ≤ R.slots → xRet y pc r → W p l e R s m args below meth c H locs cells slots Qw (F0 m pc ls r.toList)) →
    W p l e R s m args below meth c H locs cells slots Qw (F0 m pc ls st)
section EX
variable {G : xC} {X : xS} {y : mI} {cb sb pc : Nat} {L : List (Option Value)} {st : List Value} {ws : va_W} {Q : Option Value → va_W → Prop}
theorem Ex.mono {Q' : Option Value → va_W → Prop} (h : Ex G X y cb sb pc L st ws Q') (hq : ∀ r w, Q' r w → Q r w) : Ex G X y cb sb pc L st ws Q := by
  intro p l e R s m args below meth c H locs cells slots A ls Qw hC hX hK hP hD hS hA hL hc hs hE
  exact h p l e R s m args below meth c H locs cells slots A ls Qw hC hX hK hP hD hS hA hL hc hs (fun r w H locs cells slots pc ls h1 => hE r w H locs cells slots pc ls (hq r w h1))
theorem Ex.less {cb' sb' : Nat} (h : Ex G X y cb' sb' pc L st ws Q) (h1 : cb' ≤ cb) (h2 : sb' ≤ sb) : Ex G X y cb sb pc L st ws Q := by
  intro p l e R s m args below meth c H locs cells slots A ls Qw hC hX hK hP hD hS hA hL hc hs hE
  exact h p l e R s m args below meth c H locs cells slots A ls Qw hC hX hK hP hD hS hA hL (by omega) (by omega) hE
-- fewer slots known
def xSub : List (Option Value) → List (Option Value) → Prop
  | [], [] => True
  | none :: t, _ :: u => xSub t u
  | some v :: t, w :: u => w = some v ∧ xSub t u
  | _, _ => False
theorem xSub_at : ∀ (a b : List (Option Value)), xSub a b → a.length = b.length ∧ ∀ (i : Nat) (v : Value), a[i]? = some (some v) → b[i]? = some (some v)
  | [], [], _ => ⟨rfl, fun i v h => h⟩
  | none :: t, w :: u, h => by
    obtain ⟨h1, h2⟩ := xSub_at t u h
    refine ⟨by simp [h1], fun i v hi => ?_⟩
    cases i with
    | zero => simp at hi
    | succ i => simpa using h2 i v (by simpa using hi)
  | some x :: t, w :: u, h => by
    obtain ⟨h1, h2⟩ := xSub_at t u h.2
    refine ⟨by simp [h1], fun i v hi => ?_⟩
    cases i with
    | zero => rw [h.1]; exact hi
    | succ i => simpa using h2 i v (by simpa using hi)
theorem Ex.weakL {L' : List (Option Value)} (hl : xSub L' L) (h : Ex G X y cb sb pc L' st ws Q) : Ex G X y cb sb pc L st ws Q := by
  intro p l e R s m args below meth c H locs cells slots A ls Qw hC hX hK hP hD hS hA hL hc hs hE
  obtain ⟨h1, h2⟩ := xSub_at L' L hl
  have key : ∀ q ∈ xl L', q ∈ xl L := fun q hq => xl_mem.mpr (h2 q.1 q.2 (xl_mem.mp hq))
  exact h p l e R s m args below meth c H locs cells slots A ls Qw hC hX hK hP hD hS hA ⟨h1.trans hL.1, ⟨hL.2.1.1, hL.2.1.2.1, fun q hq => hL.2.1.2.2 q (key q hq)⟩, fun q hq => hL.2.2 q (key q hq)⟩ hc hs hE
theorem ex_iconst {v : Int32} {i : Int} (n : Nat) (hd : decode y.2.1 pc = .ok (.iconst i, 1)) (hn : pc + 1 = n) (hv : Int32.ofInt i = v) (k : Ex G X y cb sb n L (.int v :: st) ws Q) : Ex G X y cb sb pc L st ws Q := by
  subst hn
  intro p l e R s m args below meth c H locs cells slots A ls Qw hC hX hK hP hD hS hA hL hc hs hE
  exact lv_iconst hC.1 hC.2.1 hd hv (k p l e R s m args below meth c H locs cells slots A ls Qw hC hX hK hP hD hS hA hL hc hs hE)
theorem ex_bipush {v : Int32} {i : Int} (n : Nat) (hd : decode y.2.1 pc = .ok (.bipush i, 2)) (hn : pc + 2 = n) (hv : (Int8.ofInt i).toInt32 = v) (k : Ex G X y cb sb n L (.int v :: st) ws Q) : Ex G X y cb sb pc L st ws Q := by
  subst hn
  intro p l e R s m args below meth c H locs cells slots A ls Qw hC hX hK hP hD hS hA hL hc hs hE
  exact lv_bipush hC.1 hC.2.1 hd hv (k p l e R s m args below meth c H locs cells slots A ls Qw hC hX hK hP hD hS hA hL hc hs hE)
theorem ex_sipush {v : Int32} {i : Int} (n : Nat) (hd : decode y.2.1 pc = .ok (.sipush i, 3)) (hn : pc + 3 = n) (hv : (Int16.ofInt i).toInt32 = v) (k : Ex G X y cb sb n L (.int v :: st) ws Q) : Ex G X y cb sb pc L st ws Q := by
  subst hn
  intro p l e R s m args below meth c H locs cells slots A ls Qw hC hX hK hP hD hS hA hL hc hs hE
  exact lv_sipush hC.1 hC.2.1 hd hv (k p l e R s m args below meth c H locs cells slots A ls Qw hC hX hK hP hD hS hA hL hc hs hE)
theorem ex_ldc {v : Int32} {i : Nat} (n : Nat) (hd : decode y.2.1 pc = .ok (.ldc i, 2)) (hn : pc + 2 = n) (hv : Cond.constant y.1.cls i v ∈ xTb) (k : Ex G X y cb sb n L (.int v :: st) ws Q) : Ex G X y cb sb pc L st ws Q := by
  subst hn
  intro p l e R s m args below meth c H locs cells slots A ls Qw hC hX hK hP hD hS hA hL hc hs hE
  exact lv_ldc hC.1 hC.2.1 hC.2.2.2.1 (hC.2.2.2.2.1 _ hv) hd (k p l e R s m args below meth c H locs cells slots A ls Qw hC hX hK hP hD hS hA hL hc hs hE)
theorem ex_ldcw {v : Int32} {i : Nat} (n : Nat) (hd : decode y.2.1 pc = .ok (.ldc_w i, 3)) (hn : pc + 3 = n) (hv : Cond.constant y.1.cls i v ∈ xTb) (k : Ex G X y cb sb n L (.int v :: st) ws Q) : Ex G X y cb sb pc L st ws Q := by
  subst hn
  intro p l e R s m args below meth c H locs cells slots A ls Qw hC hX hK hP hD hS hA hL hc hs hE
  exact lv_ldcw hC.1 hC.2.1 hC.2.2.2.1 (hC.2.2.2.2.1 _ hv) hd (k p l e R s m args below meth c H locs cells slots A ls Qw hC hX hK hP hD hS hA hL hc hs hE)
theorem ex_iload_n {a : Int32} {i : Fin 4} (n : Nat) (hd : decode y.2.1 pc = .ok (.iload_n i, 1)) (hn : pc + 1 = n) (hl : L[(i : Nat)]? = some (some (.int a))) (k : Ex G X y cb sb n L (.int a :: st) ws Q) : Ex G X y cb sb pc L st ws Q := by
  subst hn
  intro p l e R s m args below meth c H locs cells slots A ls Qw hC hX hK hP hD hS hA hL hc hs hE
  exact lv_iload_n hC.1 hC.2.1 hd rfl (hL.at hl) (k p l e R s m args below meth c H locs cells slots A ls Qw hC hX hK hP hD hS hA hL hc hs hE)
theorem ex_iload {a : Int32} {i : Nat} (n : Nat) (hd : decode y.2.1 pc = .ok (.iload i, 2)) (hn : pc + 2 = n) (hl : L[i]? = some (some (.int a))) (k : Ex G X y cb sb n L (.int a :: st) ws Q) : Ex G X y cb sb pc L st ws Q := by
  subst hn
  intro p l e R s m args below meth c H locs cells slots A ls Qw hC hX hK hP hD hS hA hL hc hs hE
  exact lv_iload hC.1 hC.2.1 hd (hL.at hl) (k p l e R s m args below meth c H locs cells slots A ls Qw hC hX hK hP hD hS hA hL hc hs hE)
theorem ex_aload_n {a : Nat} {i : Fin 4} (n : Nat) (hd : decode y.2.1 pc = .ok (.aload_n i, 1)) (hn : pc + 1 = n) (hl : L[(i : Nat)]? = some (some (.ref a))) (k : Ex G X y cb sb n L (.ref a :: st) ws Q) : Ex G X y cb sb pc L st ws Q := by
  subst hn
  intro p l e R s m args below meth c H locs cells slots A ls Qw hC hX hK hP hD hS hA hL hc hs hE
  exact lv_aload_n hC.1 hC.2.1 hd rfl (hL.at hl) (k p l e R s m args below meth c H locs cells slots A ls Qw hC hX hK hP hD hS hA hL hc hs hE)
theorem ex_aload {a : Nat} {i : Nat} (n : Nat) (hd : decode y.2.1 pc = .ok (.aload i, 2)) (hn : pc + 2 = n) (hl : L[i]? = some (some (.ref a))) (k : Ex G X y cb sb n L (.ref a :: st) ws Q) : Ex G X y cb sb pc L st ws Q := by
  subst hn
  intro p l e R s m args below meth c H locs cells slots A ls Qw hC hX hK hP hD hS hA hL hc hs hE
  exact lv_aload hC.1 hC.2.1 hd (hL.at hl) (k p l e R s m args below meth c H locs cells slots A ls Qw hC hX hK hP hD hS hA hL hc hs hE)
theorem ex_istore_n {a : Int32} {i : Fin 4} (n : Nat) (hd : decode y.2.1 pc = .ok (.istore_n i, 1)) (hn : pc + 1 = n) (hi : (i : Nat) < y.2.2.1) (k : Ex G X y cb sb n (L.set (i : Nat) (some (.int a))) st ws Q) : Ex G X y cb sb pc L (.int a :: st) ws Q := by
  subst hn
  intro p l e R s m args below meth c H locs cells slots A ls Qw hC hX hK hP hD hS hA hL hc hs hE
  refine lv_istore_n hC.1 hC.2.1 hd rfl hL.2.1 hi rfl (fun ls' h' => ?_)
  exact (k p l e R s m args below meth c H locs cells slots A ls' Qw hC hX hK hP hD hS hA (hL.store hi rfl h') hc hs hE)
theorem ex_istore {a : Int32} {i : Nat} (n : Nat) (hd : decode y.2.1 pc = .ok (.istore i, 2)) (hn : pc + 2 = n) (hi : i < y.2.2.1) (k : Ex G X y cb sb n (L.set i (some (.int a))) st ws Q) : Ex G X y cb sb pc L (.int a :: st) ws Q := by
  subst hn
  intro p l e R s m args below meth c H locs cells slots A ls Qw hC hX hK hP hD hS hA hL hc hs hE
  refine lv_istore hC.1 hC.2.1 hd hL.2.1 hi rfl (fun ls' h' => ?_)
  exact (k p l e R s m args below meth c H locs cells slots A ls' Qw hC hX hK hP hD hS hA (hL.store hi rfl h') hc hs hE)
theorem ex_astore_n {a : Nat} {i : Fin 4} (n : Nat) (hd : decode y.2.1 pc = .ok (.astore_n i, 1)) (hn : pc + 1 = n) (hi : (i : Nat) < y.2.2.1) (k : Ex G X y cb sb n (L.set (i : Nat) (some (.ref a))) st ws Q) : Ex G X y cb sb pc L (.ref a :: st) ws Q := by
  subst hn
  intro p l e R s m args below meth c H locs cells slots A ls Qw hC hX hK hP hD hS hA hL hc hs hE
  refine lv_astore_n hC.1 hC.2.1 hd rfl hL.2.1 hi rfl (fun ls' h' => ?_)
  exact (k p l e R s m args below meth c H locs cells slots A ls' Qw hC hX hK hP hD hS hA (hL.store hi rfl h') hc hs hE)
theorem ex_astore {a : Nat} {i : Nat} (n : Nat) (hd : decode y.2.1 pc = .ok (.astore i, 2)) (hn : pc + 2 = n) (hi : i < y.2.2.1) (k : Ex G X y cb sb n (L.set i (some (.ref a))) st ws Q) : Ex G X y cb sb pc L (.ref a :: st) ws Q := by
  subst hn
  intro p l e R s m args below meth c H locs cells slots A ls Qw hC hX hK hP hD hS hA hL hc hs hE
  refine lv_astore hC.1 hC.2.1 hd hL.2.1 hi rfl (fun ls' h' => ?_)
  exact (k p l e R s m args below meth c H locs cells slots A ls' Qw hC hX hK hP hD hS hA (hL.store hi rfl h') hc hs hE)
theorem ex_iinc {a v : Int32} {i : Nat} {d : Int} (n : Nat) (hd : decode y.2.1 pc = .ok (.iinc i d, 3)) (hn : pc + 3 = n) (hl : L[i]? = some (some (.int a))) (hv : a + Int32.ofInt d = v) (k : Ex G X y cb sb n (L.set i (some (.int v))) st ws Q) : Ex G X y cb sb pc L st ws Q := by
  subst hn
  intro p l e R s m args below meth c H locs cells slots A ls Qw hC hX hK hP hD hS hA hL hc hs hE
  have hi : i < y.2.2.1 := by rw [← hL.1]; exact (List.getElem?_eq_some_iff.mp hl).1
  obtain ⟨j, hj⟩ := List.getElem?_of_mem (xl_mem.mpr hl : (i, Value.int a) ∈ xl L)
  refine lv_iinc hC.1 hC.2.1 hd hL.2.1 hj hv hi rfl (fun ls' h' => ?_)
  exact (k p l e R s m args below meth c H locs cells slots A ls' Qw hC hX hK hP hD hS hA (hL.store hi rfl h') hc hs hE)
theorem ex_iadd {a b : Int32} (n : Nat) (hd : decode y.2.1 pc = .ok (.iadd, 1)) (hn : pc + 1 = n) (k : Ex G X y cb sb n L (.int (a + b) :: st) ws Q) : Ex G X y cb sb pc L (.int b :: .int a :: st) ws Q := by
  subst hn
  intro p l e R s m args below meth c H locs cells slots A ls Qw hC hX hK hP hD hS hA hL hc hs hE
  exact lv_iadd hC.1 hC.2.1 hd (k p l e R s m args below meth c H locs cells slots A ls Qw hC hX hK hP hD hS hA hL hc hs hE)
theorem ex_isub {a b : Int32} (n : Nat) (hd : decode y.2.1 pc = .ok (.isub, 1)) (hn : pc + 1 = n) (k : Ex G X y cb sb n L (.int (a - b) :: st) ws Q) : Ex G X y cb sb pc L (.int b :: .int a :: st) ws Q := by
  subst hn
  intro p l e R s m args below meth c H locs cells slots A ls Qw hC hX hK hP hD hS hA hL hc hs hE
  exact lv_isub hC.1 hC.2.1 hd (k p l e R s m args below meth c H locs cells slots A ls Qw hC hX hK hP hD hS hA hL hc hs hE)
theorem ex_imul {a b : Int32} (n : Nat) (hd : decode y.2.1 pc = .ok (.imul, 1)) (hn : pc + 1 = n) (k : Ex G X y cb sb n L (.int (a * b) :: st) ws Q) : Ex G X y cb sb pc L (.int b :: .int a :: st) ws Q := by
  subst hn
  intro p l e R s m args below meth c H locs cells slots A ls Qw hC hX hK hP hD hS hA hL hc hs hE
  exact lv_imul hC.1 hC.2.1 hd (k p l e R s m args below meth c H locs cells slots A ls Qw hC hX hK hP hD hS hA hL hc hs hE)
theorem ex_iand {a b : Int32} (n : Nat) (hd : decode y.2.1 pc = .ok (.iand, 1)) (hn : pc + 1 = n) (k : Ex G X y cb sb n L (.int (a &&& b) :: st) ws Q) : Ex G X y cb sb pc L (.int b :: .int a :: st) ws Q := by
  subst hn
  intro p l e R s m args below meth c H locs cells slots A ls Qw hC hX hK hP hD hS hA hL hc hs hE
  exact lv_iand hC.1 hC.2.1 hd (k p l e R s m args below meth c H locs cells slots A ls Qw hC hX hK hP hD hS hA hL hc hs hE)
theorem ex_ior {a b : Int32} (n : Nat) (hd : decode y.2.1 pc = .ok (.ior, 1)) (hn : pc + 1 = n) (k : Ex G X y cb sb n L (.int (a ||| b) :: st) ws Q) : Ex G X y cb sb pc L (.int b :: .int a :: st) ws Q := by
  subst hn
  intro p l e R s m args below meth c H locs cells slots A ls Qw hC hX hK hP hD hS hA hL hc hs hE
  exact lv_ior hC.1 hC.2.1 hd (k p l e R s m args below meth c H locs cells slots A ls Qw hC hX hK hP hD hS hA hL hc hs hE)
theorem ex_ixor {a b : Int32} (n : Nat) (hd : decode y.2.1 pc = .ok (.ixor, 1)) (hn : pc + 1 = n) (k : Ex G X y cb sb n L (.int (a ^^^ b) :: st) ws Q) : Ex G X y cb sb pc L (.int b :: .int a :: st) ws Q := by
  subst hn
  intro p l e R s m args below meth c H locs cells slots A ls Qw hC hX hK hP hD hS hA hL hc hs hE
  exact lv_ixor hC.1 hC.2.1 hd (k p l e R s m args below meth c H locs cells slots A ls Qw hC hX hK hP hD hS hA hL hc hs hE)
theorem ex_ishl {a b : Int32} (n : Nat) (hd : decode y.2.1 pc = .ok (.ishl, 1)) (hn : pc + 1 = n) (k : Ex G X y cb sb n L (.int (a <<< (b &&& 31)) :: st) ws Q) : Ex G X y cb sb pc L (.int b :: .int a :: st) ws Q := by
  subst hn
  intro p l e R s m args below meth c H locs cells slots A ls Qw hC hX hK hP hD hS hA hL hc hs hE
  exact lv_ishl hC.1 hC.2.1 hd (k p l e R s m args below meth c H locs cells slots A ls Qw hC hX hK hP hD hS hA hL hc hs hE)
theorem ex_ishr {a b : Int32} (n : Nat) (hd : decode y.2.1 pc = .ok (.ishr, 1)) (hn : pc + 1 = n) (k : Ex G X y cb sb n L (.int (a >>> (b &&& 31)) :: st) ws Q) : Ex G X y cb sb pc L (.int b :: .int a :: st) ws Q := by
  subst hn
  intro p l e R s m args below meth c H locs cells slots A ls Qw hC hX hK hP hD hS hA hL hc hs hE
  exact lv_ishr hC.1 hC.2.1 hd (k p l e R s m args below meth c H locs cells slots A ls Qw hC hX hK hP hD hS hA hL hc hs hE)
theorem ex_idiv {a b : Int32} (n : Nat) (hd : decode y.2.1 pc = .ok (.idiv, 1)) (hn : pc + 1 = n) (h0 : ¬ b = 0) (k : Ex G X y cb sb n L (.int (a / b) :: st) ws Q) : Ex G X y cb sb pc L (.int b :: .int a :: st) ws Q := by
  subst hn
  intro p l e R s m args below meth c H locs cells slots A ls Qw hC hX hK hP hD hS hA hL hc hs hE
  exact lv_idiv hC.1 hC.2.1 hd h0 (k p l e R s m args below meth c H locs cells slots A ls Qw hC hX hK hP hD hS hA hL hc hs hE)
theorem ex_irem {a b : Int32} (n : Nat) (hd : decode y.2.1 pc = .ok (.irem, 1)) (hn : pc + 1 = n) (h0 : ¬ b = 0) (k : Ex G X y cb sb n L (.int (a - a / b * b) :: st) ws Q) : Ex G X y cb sb pc L (.int b :: .int a :: st) ws Q := by
  subst hn
  intro p l e R s m args below meth c H locs cells slots A ls Qw hC hX hK hP hD hS hA hL hc hs hE
  exact lv_irem hC.1 hC.2.1 hd h0 (k p l e R s m args below meth c H locs cells slots A ls Qw hC hX hK hP hD hS hA hL hc hs hE)
theorem ex_iushr {a b v : Int32} (n : Nat) (hd : decode y.2.1 pc = .ok (.iushr, 1)) (hn : pc + 1 = n) (hv : (a.toUInt32 >>> (b.toUInt32 &&& Int32.toUInt32 31)).toInt32 = v) (k : Ex G X y cb sb n L (.int v :: st) ws Q) : Ex G X y cb sb pc L (.int b :: .int a :: st) ws Q := by
  subst hn
  intro p l e R s m args below meth c H locs cells slots A ls Qw hC hX hK hP hD hS hA hL hc hs hE
  exact lv_iushr hC.1 hC.2.1 hd hv (k p l e R s m args below meth c H locs cells slots A ls Qw hC hX hK hP hD hS hA hL hc hs hE)
theorem ex_dup {v : Value} (n : Nat) (hd : decode y.2.1 pc = .ok (.dup, 1)) (hn : pc + 1 = n) (hv : v.category = 1) (k : Ex G X y cb sb n L (v :: v :: st) ws Q) : Ex G X y cb sb pc L (v :: st) ws Q := by
  subst hn
  intro p l e R s m args below meth c H locs cells slots A ls Qw hC hX hK hP hD hS hA hL hc hs hE
  exact lv_dup hC.1 hC.2.1 hd hv (k p l e R s m args below meth c H locs cells slots A ls Qw hC hX hK hP hD hS hA hL hc hs hE)
theorem ex_dup2 {v u : Value} (n : Nat) (hd : decode y.2.1 pc = .ok (.dup2, 1)) (hn : pc + 1 = n) (hv : v.category = 1) (hu : u.category = 1) (k : Ex G X y cb sb n L (v :: u :: v :: u :: st) ws Q) : Ex G X y cb sb pc L (v :: u :: st) ws Q := by
  subst hn
  intro p l e R s m args below meth c H locs cells slots A ls Qw hC hX hK hP hD hS hA hL hc hs hE
  exact lv_dup2_11 hC.1 hC.2.1 hd hv hu (k p l e R s m args below meth c H locs cells slots A ls Qw hC hX hK hP hD hS hA hL hc hs hE)
theorem ex_pop {v : Value} (n : Nat) (hd : decode y.2.1 pc = .ok (.pop, 1)) (hn : pc + 1 = n) (hv : v.category = 1) (k : Ex G X y cb sb n L st ws Q) : Ex G X y cb sb pc L (v :: st) ws Q := by
  subst hn
  intro p l e R s m args below meth c H locs cells slots A ls Qw hC hX hK hP hD hS hA hL hc hs hE
  exact lv_pop hC.1 hC.2.1 hd hv (k p l e R s m args below meth c H locs cells slots A ls Qw hC hX hK hP hD hS hA hL hc hs hE)
theorem ex_goto {off : Int} (tgt : Nat) (hd : decode y.2.1 pc = .ok (.goto off, 3)) (ht : (pc : Int) + off = (tgt : Int)) (k : Ex G X y cb sb tgt L st ws Q) : Ex G X y cb sb pc L st ws Q := by
  intro p l e R s m args below meth c H locs cells slots A ls Qw hC hX hK hP hD hS hA hL hc hs hE
  exact lv_goto hC.1 hC.2.1 hd ht (k p l e R s m args below meth c H locs cells slots A ls Qw hC hX hK hP hD hS hA hL hc hs hE)
theorem ex_ifeq {a : Int32} {off : Int} (tgt n : Nat) (hd : decode y.2.1 pc = .ok (.ifCond .eq off, 3)) (ht : (pc : Int) + off = (tgt : Int)) (hn : pc + 3 = n) (kt : a = 0 → Ex G X y cb sb tgt L st ws Q) (kf : ¬ a = 0 → Ex G X y cb sb n L st ws Q) : Ex G X y cb sb pc L (.int a :: st) ws Q := by
  subst hn
  intro p l e R s m args below meth c H locs cells slots A ls Qw hC hX hK hP hD hS hA hL hc hs hE
  exact lv_if_eq hC.1 hC.2.1 hd ht (fun h => (kt h p l e R s m args below meth c H locs cells slots A ls Qw hC hX hK hP hD hS hA hL hc hs hE)) (fun h => (kf h p l e R s m args below meth c H locs cells slots A ls Qw hC hX hK hP hD hS hA hL hc hs hE))
theorem ex_ifne {a : Int32} {off : Int} (tgt n : Nat) (hd : decode y.2.1 pc = .ok (.ifCond .ne off, 3)) (ht : (pc : Int) + off = (tgt : Int)) (hn : pc + 3 = n) (kt : ¬ a = 0 → Ex G X y cb sb tgt L st ws Q) (kf : a = 0 → Ex G X y cb sb n L st ws Q) : Ex G X y cb sb pc L (.int a :: st) ws Q := by
  subst hn
  intro p l e R s m args below meth c H locs cells slots A ls Qw hC hX hK hP hD hS hA hL hc hs hE
  exact lv_if_ne hC.1 hC.2.1 hd ht (fun h => (kt h p l e R s m args below meth c H locs cells slots A ls Qw hC hX hK hP hD hS hA hL hc hs hE)) (fun h => (kf h p l e R s m args below meth c H locs cells slots A ls Qw hC hX hK hP hD hS hA hL hc hs hE))
theorem ex_iflt {a : Int32} {off : Int} (tgt n : Nat) (hd : decode y.2.1 pc = .ok (.ifCond .lt off, 3)) (ht : (pc : Int) + off = (tgt : Int)) (hn : pc + 3 = n) (kt : a < 0 → Ex G X y cb sb tgt L st ws Q) (kf : ¬ a < 0 → Ex G X y cb sb n L st ws Q) : Ex G X y cb sb pc L (.int a :: st) ws Q := by
  subst hn
  intro p l e R s m args below meth c H locs cells slots A ls Qw hC hX hK hP hD hS hA hL hc hs hE
  exact lv_if_lt hC.1 hC.2.1 hd ht (fun h => (kt h p l e R s m args below meth c H locs cells slots A ls Qw hC hX hK hP hD hS hA hL hc hs hE)) (fun h => (kf h p l e R s m args below meth c H locs cells slots A ls Qw hC hX hK hP hD hS hA hL hc hs hE))
theorem ex_ifge {a : Int32} {off : Int} (tgt n : Nat) (hd : decode y.2.1 pc = .ok (.ifCond .ge off, 3)) (ht : (pc : Int) + off = (tgt : Int)) (hn : pc + 3 = n) (kt : 0 ≤ a → Ex G X y cb sb tgt L st ws Q) (kf : ¬ 0 ≤ a → Ex G X y cb sb n L st ws Q) : Ex G X y cb sb pc L (.int a :: st) ws Q := by
  subst hn
  intro p l e R s m args below meth c H locs cells slots A ls Qw hC hX hK hP hD hS hA hL hc hs hE
  exact lv_if_ge hC.1 hC.2.1 hd ht (fun h => (kt h p l e R s m args below meth c H locs cells slots A ls Qw hC hX hK hP hD hS hA hL hc hs hE)) (fun h => (kf h p l e R s m args below meth c H locs cells slots A ls Qw hC hX hK hP hD hS hA hL hc hs hE))
theorem ex_ifgt {a : Int32} {off : Int} (tgt n : Nat) (hd : decode y.2.1 pc = .ok (.ifCond .gt off, 3)) (ht : (pc : Int) + off = (tgt : Int)) (hn : pc + 3 = n) (kt : 0 < a → Ex G X y cb sb tgt L st ws Q) (kf : ¬ 0 < a → Ex G X y cb sb n L st ws Q) : Ex G X y cb sb pc L (.int a :: st) ws Q := by
  subst hn
  intro p l e R s m args below meth c H locs cells slots A ls Qw hC hX hK hP hD hS hA hL hc hs hE
  exact lv_if_gt hC.1 hC.2.1 hd ht (fun h => (kt h p l e R s m args below meth c H locs cells slots A ls Qw hC hX hK hP hD hS hA hL hc hs hE)) (fun h => (kf h p l e R s m args below meth c H locs cells slots A ls Qw hC hX hK hP hD hS hA hL hc hs hE))
theorem ex_ifle {a : Int32} {off : Int} (tgt n : Nat) (hd : decode y.2.1 pc = .ok (.ifCond .le off, 3)) (ht : (pc : Int) + off = (tgt : Int)) (hn : pc + 3 = n) (kt : a ≤ 0 → Ex G X y cb sb tgt L st ws Q) (kf : ¬ a ≤ 0 → Ex G X y cb sb n L st ws Q) : Ex G X y cb sb pc L (.int a :: st) ws Q := by
  subst hn
  intro p l e R s m args below meth c H locs cells slots A ls Qw hC hX hK hP hD hS hA hL hc hs hE
  exact lv_if_le hC.1 hC.2.1 hd ht (fun h => (kt h p l e R s m args below meth c H locs cells slots A ls Qw hC hX hK hP hD hS hA hL hc hs hE)) (fun h => (kf h p l e R s m args below meth c H locs cells slots A ls Qw hC hX hK hP hD hS hA hL hc hs hE))
theorem ex_icmpeq {a b : Int32} {off : Int} (tgt n : Nat) (hd : decode y.2.1 pc = .ok (.if_icmp .eq off, 3)) (ht : (pc : Int) + off = (tgt : Int)) (hn : pc + 3 = n) (kt : a = b → Ex G X y cb sb tgt L st ws Q) (kf : ¬ a = b → Ex G X y cb sb n L st ws Q) : Ex G X y cb sb pc L (.int b :: .int a :: st) ws Q := by
  subst hn
  intro p l e R s m args below meth c H locs cells slots A ls Qw hC hX hK hP hD hS hA hL hc hs hE
  exact lv_icmp_eq hC.1 hC.2.1 hd ht (fun h => (kt h p l e R s m args below meth c H locs cells slots A ls Qw hC hX hK hP hD hS hA hL hc hs hE)) (fun h => (kf h p l e R s m args below meth c H locs cells slots A ls Qw hC hX hK hP hD hS hA hL hc hs hE))
theorem ex_icmpne {a b : Int32} {off : Int} (tgt n : Nat) (hd : decode y.2.1 pc = .ok (.if_icmp .ne off, 3)) (ht : (pc : Int) + off = (tgt : Int)) (hn : pc + 3 = n) (kt : ¬ a = b → Ex G X y cb sb tgt L st ws Q) (kf : a = b → Ex G X y cb sb n L st ws Q) : Ex G X y cb sb pc L (.int b :: .int a :: st) ws Q := by
  subst hn
  intro p l e R s m args below meth c H locs cells slots A ls Qw hC hX hK hP hD hS hA hL hc hs hE
  exact lv_icmp_ne hC.1 hC.2.1 hd ht (fun h => (kt h p l e R s m args below meth c H locs cells slots A ls Qw hC hX hK hP hD hS hA hL hc hs hE)) (fun h => (kf h p l e R s m args below meth c H locs cells slots A ls Qw hC hX hK hP hD hS hA hL hc hs hE))
theorem ex_icmplt {a b : Int32} {off : Int} (tgt n : Nat) (hd : decode y.2.1 pc = .ok (.if_icmp .lt off, 3)) (ht : (pc : Int) + off = (tgt : Int)) (hn : pc + 3 = n) (kt : a < b → Ex G X y cb sb tgt L st ws Q) (kf : ¬ a < b → Ex G X y cb sb n L st ws Q) : Ex G X y cb sb pc L (.int b :: .int a :: st) ws Q := by
  subst hn
  intro p l e R s m args below meth c H locs cells slots A ls Qw hC hX hK hP hD hS hA hL hc hs hE
  exact lv_icmp_lt hC.1 hC.2.1 hd ht (fun h => (kt h p l e R s m args below meth c H locs cells slots A ls Qw hC hX hK hP hD hS hA hL hc hs hE)) (fun h => (kf h p l e R s m args below meth c H locs cells slots A ls Qw hC hX hK hP hD hS hA hL hc hs hE))
theorem ex_icmpge {a b : Int32} {off : Int} (tgt n : Nat) (hd : decode y.2.1 pc = .ok (.if_icmp .ge off, 3)) (ht : (pc : Int) + off = (tgt : Int)) (hn : pc + 3 = n) (kt : b ≤ a → Ex G X y cb sb tgt L st ws Q) (kf : ¬ b ≤ a → Ex G X y cb sb n L st ws Q) : Ex G X y cb sb pc L (.int b :: .int a :: st) ws Q := by
  subst hn
  intro p l e R s m args below meth c H locs cells slots A ls Qw hC hX hK hP hD hS hA hL hc hs hE
  exact lv_icmp_ge hC.1 hC.2.1 hd ht (fun h => (kt h p l e R s m args below meth c H locs cells slots A ls Qw hC hX hK hP hD hS hA hL hc hs hE)) (fun h => (kf h p l e R s m args below meth c H locs cells slots A ls Qw hC hX hK hP hD hS hA hL hc hs hE))
theorem ex_icmpgt {a b : Int32} {off : Int} (tgt n : Nat) (hd : decode y.2.1 pc = .ok (.if_icmp .gt off, 3)) (ht : (pc : Int) + off = (tgt : Int)) (hn : pc + 3 = n) (kt : b < a → Ex G X y cb sb tgt L st ws Q) (kf : ¬ b < a → Ex G X y cb sb n L st ws Q) : Ex G X y cb sb pc L (.int b :: .int a :: st) ws Q := by
  subst hn
  intro p l e R s m args below meth c H locs cells slots A ls Qw hC hX hK hP hD hS hA hL hc hs hE
  exact lv_icmp_gt hC.1 hC.2.1 hd ht (fun h => (kt h p l e R s m args below meth c H locs cells slots A ls Qw hC hX hK hP hD hS hA hL hc hs hE)) (fun h => (kf h p l e R s m args below meth c H locs cells slots A ls Qw hC hX hK hP hD hS hA hL hc hs hE))
theorem ex_icmple {a b : Int32} {off : Int} (tgt n : Nat) (hd : decode y.2.1 pc = .ok (.if_icmp .le off, 3)) (ht : (pc : Int) + off = (tgt : Int)) (hn : pc + 3 = n) (kt : a ≤ b → Ex G X y cb sb tgt L st ws Q) (kf : ¬ a ≤ b → Ex G X y cb sb n L st ws Q) : Ex G X y cb sb pc L (.int b :: .int a :: st) ws Q := by
  subst hn
  intro p l e R s m args below meth c H locs cells slots A ls Qw hC hX hK hP hD hS hA hL hc hs hE
  exact lv_icmp_le hC.1 hC.2.1 hd ht (fun h => (kt h p l e R s m args below meth c H locs cells slots A ls Qw hC hX hK hP hD hS hA hL hc hs hE)) (fun h => (kf h p l e R s m args below meth c H locs cells slots A ls Qw hC hX hK hP hD hS hA hL hc hs hE))
theorem ex_tableOut {dflt lo hi : Int} {offs : Array Int} {len : Nat} {a : Int32} (tgt : Nat) (hd : decode y.2.1 pc = .ok (.tableswitch dflt lo hi offs, len)) (h : a.toInt < lo ∨ hi < a.toInt) (ht : (pc : Int) + dflt = (tgt : Int)) (k : Ex G X y cb sb tgt L st ws Q) : Ex G X y cb sb pc L (.int a :: st) ws Q := by
  intro p l e R s m args below meth c H locs cells slots A ls Qw hC hX hK hP hD hS hA hL hc hs hE
  exact lv_tableOut hC.1 hC.2.1 hd h ht (k p l e R s m args below meth c H locs cells slots A ls Qw hC hX hK hP hD hS hA hL hc hs hE)
theorem ex_tableIn {dflt lo hi off : Int} {offs : Array Int} {len : Nat} {a : Int32} (tgt : Nat) (hd : decode y.2.1 pc = .ok (.tableswitch dflt lo hi offs, len)) (h1 : ¬ a.toInt < lo) (h2 : ¬ hi < a.toInt) (ho : offs[(a.toInt - lo).toNat]? = some off) (ht : (pc : Int) + off = (tgt : Int)) (k : Ex G X y cb sb tgt L st ws Q) : Ex G X y cb sb pc L (.int a :: st) ws Q := by
  intro p l e R s m args below meth c H locs cells slots A ls Qw hC hX hK hP hD hS hA hL hc hs hE
  exact lv_tableIn hC.1 hC.2.1 hd h1 h2 ho ht (k p l e R s m args below meth c H locs cells slots A ls Qw hC hX hK hP hD hS hA hL hc hs hE)
-- what the tables say of the fields of objects of number ci
def xFd (ci : Nat) (C : String) (T : u_T) (N : Nat) (ty : Nat → FieldType) : Prop := xCl[ci]? = some (C, T, N) ∧ (∀ w ∈ u_ws C T N, w ∈ xTb) ∧ (∀ k, k < N → parseFieldDescriptor (T k).2.2.1 = some (ty k)) ∧ (∀ a, a < N → ∀ b, b < N → a ≠ b → (T a).2.1 ≠ (T b).2.1)
theorem ex_get {a q0 ci k N i : Nat} {C : String} {T : u_T} {ty : Nat → FieldType} {fs : List Value} {v : Value} (n : Nat) (hd : decode y.2.1 pc = .ok (.getfield i, 3)) (hn : pc + 3 = n) (hf : xFd ci C T N ty) (hk : k < N) (ho : (T k).1 = C) (hk2 : Cond.fieldLink y.1.cls i C (T k).2.1 (T k).2.2.1 ∈ xTb) (he : ws[q0]? = some (a, .inr (ci, fs))) (hv : fs[k]? = some v) (kk : Ex G X y cb sb n L (v :: st) ws Q) : Ex G X y cb sb pc L (.ref a :: st) ws Q := by
  subst hn
  intro p l e R s m args below meth c H locs cells slots A ls Qw hC hX hK hP hD hS hA hL hc hs hE
  exact va_get (ref := C) hC.1 hC.2.1 hC.2.2.2.2.1 hf.2.1 hC.2.2.2.1 hK hP q0 he hf.1 k hk (hC.2.2.2.2.1 _ hk2) (fun _ h9 => by rw [ho] at h9; exact h9) hv hd (kk p l e R s m args below meth c H locs cells slots A ls Qw hC hX hK hP hD hS hA hL hc hs hE)
theorem ex_getN {a q0 ci k N i : Nat} {C : String} {T : u_T} {ty : Nat → FieldType} {fs : List Value} {v : Value} {host : String} (n : Nat) (hd : decode y.2.1 pc = .ok (.getfield i, 3)) (hn : pc + 3 = n) (hf : xFd ci C T N ty) (hk : k < N) (ho : (T k).1 = C) (hk2 : Cond.fieldLinkNest y.1.cls i C (T k).2.1 (T k).2.2.1 host ∈ xNest) (he : ws[q0]? = some (a, .inr (ci, fs))) (hv : fs[k]? = some v) (kk : Ex G X y cb sb n L (v :: st) ws Q) : Ex G X y cb sb pc L (.ref a :: st) ws Q := by
  subst hn
  intro p l e R s m args below meth c H locs cells slots A ls Qw hC hX hK hP hD hS hA hL hc hs hE
  exact va_getN (ref := C) hC.1 hC.2.1 hC.2.2.2.2.1 hf.2.1 hC.2.2.2.1 hK hP q0 he hf.1 k hk (va_Nw.use rfl (hC.2.2.2.2.2.1 _ hk2)) (fun _ h9 => by rw [ho] at h9; exact h9) hv hd (kk p l e R s m args below meth c H locs cells slots A ls Qw hC hX hK hP hD hS hA hL hc hs hE)
theorem ex_put {a q0 ci k N i : Nat} {C : String} {T : u_T} {ty : Nat → FieldType} {fs : List Value} {v : Value} (n : Nat) (hd : decode y.2.1 pc = .ok (.putfield i, 3)) (hn : pc + 3 = n) (hf : xFd ci C T N ty) (hk : k < N) (ho : (T k).1 = C) (hk2 : Cond.fieldLink y.1.cls i C (T k).2.1 (T k).2.2.1 ∈ xTb) (hfin : (T k).2.2.2 = false) (he : ws[q0]? = some (a, .inr (ci, fs))) (hnr : narrow (ty k) v = v) (hft : fits (ty k) v = true) (hlen : k < fs.length) (kk : Ex G X y cb sb n L st (ws.set q0 (a, .inr (ci, fs.set k v))) Q) : Ex G X y cb sb pc L (v :: .ref a :: st) ws Q := by
  subst hn
  intro p l e R s m args below meth c H locs cells slots A ls Qw hC hX hK hP hD hS hA hL hc hs hE
  exact va_put (ref := C) hC.1 hC.2.1 hC.2.2.2.2.1 hf.2.1 ty hf.2.2.1 hf.2.2.2 hC.2.2.2.1 hK hP hD hS q0 he hf.1 k hk (hC.2.2.2.2.1 _ hk2) (fun _ h9 => by rw [ho] at h9; exact h9) hfin (hf.2.2.1 k hk) hnr hft hlen hd (fun H locs hP hD hS => (kk p l e R s m args below meth c H locs cells slots A ls Qw hC hX hK hP hD hS hA hL hc hs hE))
theorem ex_putN {a q0 ci k N i : Nat} {C : String} {T : u_T} {ty : Nat → FieldType} {fs : List Value} {v : Value} {host : String} (n : Nat) (hd : decode y.2.1 pc = .ok (.putfield i, 3)) (hn : pc + 3 = n) (hf : xFd ci C T N ty) (hk : k < N) (ho : (T k).1 = C) (hk2 : Cond.fieldLinkNest y.1.cls i C (T k).2.1 (T k).2.2.1 host ∈ xNest) (hfin : (T k).2.2.2 = false) (he : ws[q0]? = some (a, .inr (ci, fs))) (hnr : narrow (ty k) v = v) (hft : fits (ty k) v = true) (hlen : k < fs.length) (kk : Ex G X y cb sb n L st (ws.set q0 (a, .inr (ci, fs.set k v))) Q) : Ex G X y cb sb pc L (v :: .ref a :: st) ws Q := by
  subst hn
  intro p l e R s m args below meth c H locs cells slots A ls Qw hC hX hK hP hD hS hA hL hc hs hE
  exact va_putN (ref := C) hC.1 hC.2.1 hC.2.2.2.2.1 hf.2.1 ty hf.2.2.1 hf.2.2.2 hC.2.2.2.1 hK hP hD hS q0 he hf.1 k hk (va_Nw.use rfl (hC.2.2.2.2.2.1 _ hk2)) (fun _ h9 => by rw [ho] at h9; exact h9) hfin (hf.2.2.1 k hk) hnr hft hlen hd (fun H locs hP hD hS => (kk p l e R s m args below meth c H locs cells slots A ls Qw hC hX hK hP hD hS hA hL hc hs hE))
theorem ex_putF {a q0 ci k N i : Nat} {C : String} {T : u_T} {ty : Nat → FieldType} {fs : List Value} {v : Value} (n : Nat) (hd : decode y.2.1 pc = .ok (.putfield i, 3)) (hn : pc + 3 = n) (hf : xFd ci C T N ty) (hk : k < N) (ho : (T k).1 = C) (hk2 : Cond.fieldLink y.1.cls i C (T k).2.1 (T k).2.2.1 ∈ xTb) (hfin : (T k).2.2.2 = true) (hin2 : y.1.name = "<init>") (hdecl : C = y.1.cls) (he : ws[q0]? = some (a, .inr (ci, fs))) (hnr : narrow (ty k) v = v) (hft : fits (ty k) v = true) (hlen : k < fs.length) (kk : Ex G X y cb sb n L st (ws.set q0 (a, .inr (ci, fs.set k v))) Q) : Ex G X y cb sb pc L (v :: .ref a :: st) ws Q := by
  subst hn
  intro p l e R s m args below meth c H locs cells slots A ls Qw hC hX hK hP hD hS hA hL hc hs hE
  exact va_putF (ref := C) hC.1 hC.2.1 hC.2.2.2.2.1 hf.2.1 ty hf.2.2.1 hf.2.2.2 hC.2.2.2.1 hK hP hD hS q0 he hf.1 k hk (hC.2.2.2.2.1 _ hk2) (fun _ h9 => by rw [ho] at h9; exact h9) hfin (hC.2.2.2.2.2.2.2.2.2.1.trans hin2) (ho.trans hdecl) (hf.2.2.1 k hk) hnr hft hlen hd (fun H locs hP hD hS => (kk p l e R s m args below meth c H locs cells slots A ls Qw hC hX hK hP hD hS hA hL hc hs hE))
theorem ex_iald {a q0 ln : Nat} {f : Nat → Int32} {i : Int32} (n : Nat) (hd : decode y.2.1 pc = .ok (.iaload, 1)) (hn : pc + 1 = n) (he : ws[q0]? = some (a, .inl (G.2.1, ln, .inl f))) (hin : vp_in i ln) (kk : Ex G X y cb sb n L (.int (f i.toNatClampNeg) :: st) ws Q) : Ex G X y cb sb pc L (.int i :: .ref a :: st) ws Q := by
  subst hn
  intro p l e R s m args below meth c H locs cells slots A ls Qw hC hX hK hP hD hS hA hL hc hs hE
  exact va_iald hC.1 hC.2.1 hK hP q0 0 he rfl hin hd (kk p l e R s m args below meth c H locs cells slots A ls Qw hC hX hK hP hD hS hA hL hc hs hE)
theorem ex_zald {a q0 ln : Nat} {f : Nat → Int32} {i : Int32} (n : Nat) (hd : decode y.2.1 pc = .ok (.baload, 1)) (hn : pc + 1 = n) (he : ws[q0]? = some (a, .inl (G.2.2.1, ln, .inl f))) (hin : vp_in i ln) (kk : Ex G X y cb sb n L (.int (f i.toNatClampNeg) :: st) ws Q) : Ex G X y cb sb pc L (.int i :: .ref a :: st) ws Q := by
  subst hn
  intro p l e R s m args below meth c H locs cells slots A ls Qw hC hX hK hP hD hS hA hL hc hs hE
  exact va_zald hC.1 hC.2.1 hK hP q0 1 he rfl hin hd (kk p l e R s m args below meth c H locs cells slots A ls Qw hC hX hK hP hD hS hA hL hc hs hE)
theorem ex_iast {a q0 ln : Nat} {f : Nat → Int32} {i x : Int32} (n : Nat) (hd : decode y.2.1 pc = .ok (.iastore, 1)) (hn : pc + 1 = n) (he : ws[q0]? = some (a, .inl (G.2.1, ln, .inl f))) (hin : vp_in i ln) (kk : Ex G X y cb sb n L st (ws.set q0 (a, .inl (G.2.1, ln, .inl (upd f i.toNatClampNeg x)))) Q) : Ex G X y cb sb pc L (.int x :: .int i :: .ref a :: st) ws Q := by
  subst hn
  intro p l e R s m args below meth c H locs cells slots A ls Qw hC hX hK hP hD hS hA hL hc hs hE
  exact va_iast hC.1 hC.2.1 hK hP hD hS q0 0 he rfl hin hd (fun H locs hP hD hS => (kk p l e R s m args below meth c H locs cells slots A ls Qw hC hX hK hP hD hS hA hL hc hs hE))
theorem ex_zast {a q0 ln : Nat} {f : Nat → Int32} {i x : Int32} (n : Nat) (hd : decode y.2.1 pc = .ok (.bastore, 1)) (hn : pc + 1 = n) (he : ws[q0]? = some (a, .inl (G.2.2.1, ln, .inl f))) (hin : vp_in i ln) (kk : Ex G X y cb sb n L st (ws.set q0 (a, .inl (G.2.2.1, ln, .inl (upd f i.toNatClampNeg (vp_nar .boolean x))))) Q) : Ex G X y cb sb pc L (.int x :: .int i :: .ref a :: st) ws Q := by
  subst hn
  intro p l e R s m args below meth c H locs cells slots A ls Qw hC hX hK hP hD hS hA hL hc hs hE
  exact va_zast hC.1 hC.2.1 hK hP hD hS q0 1 he rfl hin hd (fun H locs hP hD hS => (kk p l e R s m args below meth c H locs cells slots A ls Qw hC hX hK hP hD hS hA hL hc hs hE))
theorem ex_aald {a q0 ln b : Nat} {f : Nat → Option Nat} {i : Int32} (n : Nat) (hd : decode y.2.1 pc = .ok (.aaload, 1)) (hn : pc + 1 = n) (he : ws[q0]? = some (a, .inl (G.2.2.2, ln, .inr (.inr (.inr (.inr f)))))) (hin : vp_in i ln) (hb : f i.toNatClampNeg = some b) (kk : Ex G X y cb sb n L (.ref b :: st) ws Q) : Ex G X y cb sb pc L (.int i :: .ref a :: st) ws Q := by
  subst hn
  intro p l e R s m args below meth c H locs cells slots A ls Qw hC hX hK hP hD hS hA hL hc hs hE
  refine va_aldq (C := R_Node) hC.1 hC.2.1 hK hP q0 2 he rfl hin hd ?_
  rw [hb]
  exact (kk p l e R s m args below meth c H locs cells slots A ls Qw hC hX hK hP hD hS hA hL hc hs hE)
theorem ex_aast {a q0 q1 ln b : Nat} {f : Nat → Option Nat} {i : Int32} {vs : List Value} {r : vw_C} (n : Nat) (hd : decode y.2.1 pc = .ok (.aastore, 1)) (hn : pc + 1 = n) (he : ws[q0]? = some (a, .inl (G.2.2.2, ln, .inr (.inr (.inr (.inr f)))))) (hb : ws[q1]? = some (b, .inr (3, vs))) (hr : xCl[3]? = some r) (hr1 : r.1 = R_Node) (hin : vp_in i ln) (kk : Ex G X y cb sb n L st (ws.set q0 (a, .inl (G.2.2.2, ln, .inr (.inr (.inr (.inr (va_up f i.toNatClampNeg (some b)))))))) Q) : Ex G X y cb sb pc L (.ref b :: .int i :: .ref a :: st) ws Q := by
  subst hn
  intro p l e R s m args below meth c H locs cells slots A ls Qw hC hX hK hP hD hS hA hL hc hs hE
  exact va_astq (r := r) hC.1 hC.2.1 hK hP hD hS q0 2 q1 3 he (by rw [hr1]; rfl) hb hr hin hd (fun H locs hP hD hS => (kk p l e R s m args below meth c H locs cells slots A ls Qw hC hX hK hP hD hS hA hL hc hs hE))
theorem ex_alen {a q0 : Nat} {cA : ClassId} {x : vp_A} {v : Int32} {ty : FieldType} (t0 : Nat) (n : Nat) (hd : decode y.2.1 pc = .ok (.arraylength, 1)) (hn : pc + 1 = n) (he : ws[q0]? = some (a, .inl (cA, x))) (ht : (xTys G)[t0]? = some (cA, ty)) (hv : Int32.ofNat x.1 = v) (kk : Ex G X y cb sb n L (.int v :: st) ws Q) : Ex G X y cb sb pc L (.ref a :: st) ws Q := by
  subst hn
  intro p l e R s m args below meth c H locs cells slots A ls Qw hC hX hK hP hD hS hA hL hc hs hE
  exact va_alen hC.1 hC.2.1 hK hP q0 t0 he ht hv hd (kk p l e R s m args below meth c H locs cells slots A ls Qw hC hX hK hP hD hS hA hL hc hs hE)
theorem ex_sld {b ln : Nat} {f : Nat → Int32} {i : Int32} (n : Nat) (hd : decode y.2.1 pc = .ok (.iaload, 1)) (hn : pc + 1 = n) (hx : X = some (b, ln, f)) (hin : vp_in i ln) (kk : Ex G X y cb sb n L (.int (f i.toNatClampNeg) :: st) ws Q) : Ex G X y cb sb pc L (.int i :: .ref b :: st) ws Q := by
  subst hn
  intro p l e R s m args below meth c H locs cells slots A ls Qw hC hX hK hP hD hS hA hL hc hs hE
  exact va_sld hC.1 hC.2.1 (hX b ln f hx).1 (hX b ln f hx).2.1 (hX b ln f hx).2.2 hS hin hd (kk p l e R s m args below meth c H locs cells slots A ls Qw hC hX hK hP hD hS hA hL hc hs hE)
theorem ex_slen {b ln : Nat} {f : Nat → Int32} (n : Nat) (hd : decode y.2.1 pc = .ok (.arraylength, 1)) (hn : pc + 1 = n) (hx : X = some (b, ln, f)) (kk : Ex G X y cb sb n L (.int (Int32.ofNat ln) :: st) ws Q) : Ex G X y cb sb pc L (.ref b :: st) ws Q := by
  subst hn
  intro p l e R s m args below meth c H locs cells slots A ls Qw hC hX hK hP hD hS hA hL hc hs hE
  exact va_slen hC.1 hC.2.1 (hX b ln f hx).1 (hX b ln f hx).2.1 (hX b ln f hx).2.2 hS hd (kk p l e R s m args below meth c H locs cells slots A ls Qw hC hX hK hP hD hS hA hL hc hs hE)
theorem ex_new {ci N i : Nat} {C : String} {T : u_T} {ty : Nat → FieldType} (fs : List Value) (n : Nat) (hd : decode y.2.1 pc = .ok (.new i, 3)) (hn : pc + 3 = n) (hf : xFd ci C T N ty) (h1 : Cond.classLink y.1.cls i C ∈ xTb) (h2 : Cond.instantiable C N ∈ xTb) (h3 : Cond.initialized C ∈ xTb) (hfs : ∀ j, j < N → defaultValue (ty j) = vp_V fs j)
    (kk : ∀ q : Nat, Ex G X y cb sb n L (.ref q :: st) (ws ++ [(q, .inr (ci, fs))]) Q) : Ex G X y (cb + 1) (sb + N) pc L st ws Q := by
  subst hn
  intro p l e R s m args below meth c H locs cells slots A ls Qw hC hX hK hP hD hS hA hL hc hs hE
  exact va_new hC.1 hC.2.1 hC.2.2.2.2.1 hf.2.1 ty hf.2.2.1 hC.2.2.2.1 (hC.2.2.2.2.1 _ h1) (hC.2.2.2.2.1 _ h2) (hC.2.2.2.2.1 _ h3) hK hP hD hS hA hf.1 hfs (by omega) (by omega) hd (fun q H hP hD hS => (kk q p l e R s m args below meth c H locs (cells + 1) (slots + N) A ls Qw hC hX hK hP hD hS hA hL (by omega) (by omega) hE))
theorem ex_newI {v : Int32} (N : Nat) (n : Nat) (hd : decode y.2.1 pc = .ok (.newarray .int, 2)) (hn : pc + 2 = n) (h1 : Cond.arrayClass .int ∈ xTb) (hv : ¬ v < 0) (hN : v.toNatClampNeg = N) (hb : N ≤ 100000)
    (kk : ∀ q : Nat, Ex G X y cb sb n L (.ref q :: st) (ws ++ [(q, .inl (G.2.1, N, .inl (fun _ => 0)))]) Q) : Ex G X y (cb + 1) (sb + N) pc L (.int v :: st) ws Q := by
  subst hn
  intro p l e R s m args below meth c H locs cells slots A ls Qw hC hX hK hP hD hS hA hL hc hs hE
  refine va_newa (atype := .int) (ty := .int) (a0 := (N, .inl (fun _ => 0))) hC.1 hC.2.1 (hC.2.2.2.2.1 _ h1) rfl hK hP hD hS hA (fun _ => rfl) hv hN (by simp only [componentBytes]; omega) (by omega) (by omega) hd (fun q cA H hK' hP hD hS => ?_)
  have e : cA = G.2.1 := Option.some.inj (((hK'.2 3 _ rfl).2).symm.trans ((hK.2 0 _ rfl).2))
  subst e
  exact (kk q p l e R s m args below meth c H locs (cells + 1) (slots + N) A ls Qw hC hX hK hP hD hS hA hL (by omega) (by omega) hE)
theorem ex_newZ {v : Int32} (N : Nat) (n : Nat) (hd : decode y.2.1 pc = .ok (.newarray .boolean, 2)) (hn : pc + 2 = n) (h1 : Cond.arrayClass .boolean ∈ xTb) (hv : ¬ v < 0) (hN : v.toNatClampNeg = N) (hb : N ≤ 100000)
    (kk : ∀ q : Nat, Ex G X y cb sb n L (.ref q :: st) (ws ++ [(q, .inl (G.2.2.1, N, .inl (fun _ => 0)))]) Q) : Ex G X y (cb + 1) (sb + N) pc L (.int v :: st) ws Q := by
  subst hn
  intro p l e R s m args below meth c H locs cells slots A ls Qw hC hX hK hP hD hS hA hL hc hs hE
  refine va_newa (atype := .boolean) (ty := .boolean) (a0 := (N, .inl (fun _ => 0))) hC.1 hC.2.1 (hC.2.2.2.2.1 _ h1) rfl hK hP hD hS hA (fun _ => rfl) hv hN (by simp only [componentBytes]; omega) (by omega) (by omega) hd (fun q cA H hK' hP hD hS => ?_)
  have e : cA = G.2.2.1 := Option.some.inj (((hK'.2 3 _ rfl).2).symm.trans ((hK.2 1 _ rfl).2))
  subst e
  exact (kk q p l e R s m args below meth c H locs (cells + 1) (slots + N) A ls Qw hC hX hK hP hD hS hA hL (by omega) (by omega) hE)
theorem ex_newQ {v : Int32} {i : Nat} (N : Nat) (n : Nat) (hd : decode y.2.1 pc = .ok (.anewarray i, 3)) (hn : pc + 3 = n) (h1 : Cond.classLink y.1.cls i R_Node ∈ xTb) (hv : ¬ v < 0) (hN : v.toNatClampNeg = N) (hb : N ≤ 100000)
    (kk : ∀ q : Nat, Ex G X y cb sb n L (.ref q :: st) (ws ++ [(q, .inl (G.2.2.2, N, .inr (.inr (.inr (.inr (fun _ => none))))))]) Q) : Ex G X y (cb + 1) (sb + N) pc L (.int v :: st) ws Q := by
  subst hn
  intro p l e R s m args below meth c H locs cells slots A ls Qw hC hX hK hP hD hS hA hL hc hs hE
  refine va_newq (C := R_Node) hC.1 hC.2.1 hC.2.2.2.1 (hC.2.2.2.2.1 _ h1) hC.2.2.2.2.2.2.1 hK hP hD hS hA hv hN (by omega) (by omega) (by omega) hd (fun q cA H hK' hP hD hS => ?_)
  obtain ⟨_, _, -, -, -, h4⟩ := (hK'.2 3 _ rfl).2
  obtain ⟨_, _, -, -, -, h5⟩ := (hK.2 2 _ rfl).2
  have e : cA = G.2.2.2 := Option.some.inj (h4.symm.trans h5)
  subst e
  exact (kk q p l e R s m args below meth c H locs (cells + 1) (slots + N) A ls Qw hC hX hK hP hD hS hA hL (by omega) (by omega) hE)
theorem ex_iret {v : Int32} (hd : decode y.2.1 pc = .ok (.ireturn, 1)) (hr : y.2.2.2.1 = some .int) (hq : Q (some (.int v)) ws) : Ex G X y cb sb pc L [.int v] ws Q := by
  intro p l e R s m args below meth c H locs cells slots A ls Qw hC hX hK hP hD hS hA hL hc hs hE
  exact hE (some (.int v)) ws H locs cells slots pc ls hq hP hD hS (by omega) (by omega) ⟨hd, Or.inl hr⟩
theorem ex_zret {v : Int32} (hd : decode y.2.1 pc = .ok (.ireturn, 1)) (hr : y.2.2.2.1 = some .boolean) (hv : narrow .boolean (.int v) = .int v) (hq : Q (some (.int v)) ws) : Ex G X y cb sb pc L [.int v] ws Q := by
  intro p l e R s m args below meth c H locs cells slots A ls Qw hC hX hK hP hD hS hA hL hc hs hE
  exact hE (some (.int v)) ws H locs cells slots pc ls hq hP hD hS (by omega) (by omega) ⟨hd, Or.inr ⟨hr, hv⟩⟩
theorem ex_vret (hd : decode y.2.1 pc = .ok (.return_, 1)) (hr : y.2.2.2.1 = none) (hq : Q none ws) : Ex G X y cb sb pc L [] ws Q := by
  intro p l e R s m args below meth c H locs cells slots A ls Qw hC hX hK hP hD hS hA hL hc hs hE
  exact hE none ws H locs cells slots pc ls hq hP hD hS (by omega) (by omega) ⟨hd, hr⟩
theorem ex_objInit {a i : Nat} (n : Nat) (hd : decode y.2.1 pc = .ok (.invokespecial i, 3)) (hn : pc + 3 = n) (h1 : Cond.methodLink y.1.cls i objectInit ∈ xTb) (h2 : Cond.instanceMethod objectInit ∈ xTb) (h3 : Cond.code objectInit ⟨#[0xb1]⟩ 1 none ∈ xTb) (hm : 1 ≤ y.2.2.2.2.1 ∧ (st.map fun v => v.category).sum + 12 ≤ y.2.2.2.2.2) (k : Ex G X y cb sb n L st ws Q) : Ex G X y cb sb pc L (.ref a :: st) ws Q := by
  subst hn
  intro p l e R s m args below meth c H locs cells slots A ls Qw hC hX hK hP hD hS hA hL hc hs hE
  have r1 := hC.2.2.2.2.2.2.2.2.2.2.1
  have r2 := hC.2.2.2.2.2.2.2.2.2.2.2
  refine W.objInit hC.1 hC.2.1 hC.2.2.2.1 (hC.2.2.2.2.1 _ h1) (hC.2.2.2.2.1 _ h2) (hC.2.2.2.2.1 _ h3) rfl (by rw [hC.2.2.1]; exact hL.2.1.1) rfl hd (Nat.le_trans hm.1 r1) (by show 2 * 0 + _ + 12 ≤ _; omega) ?_
  exact (k p l e R s m args below meth c H locs cells slots A ls Qw hC hX hK hP hD hS hA hL hc hs hE)
end EX
-- a call
abbrev xEn (y : mI) (as : List Value) : List (Option Value) := as.map some ++ List.replicate (y.2.2.1 - as.length) none
def xPre (G : xC) (X : xS) (ws : va_W) (sz : Nat) (U : State) : Prop := U.heap.size = sz ∧ va_P G.1 xCl ws U.heap ∧ va_K G.1 xCl (xTys G) U ∧ va_D (fun _ => True) ws ∧ (∀ w ∈ xNest, va_Nw w U) ∧ va_AO R_Node U ∧ xSc X U (va_A ws sz)
def xQc (G : xC) (Q : Option Value → va_W → Prop) (A : Nat → Prop) : Array Value → State → Outcome → State → Prop := fun _ st oc t => ∃ (r : Option Value) (w : va_W), oc = .returned r ∧ Q r w ∧ va_P G.1 xCl w t.heap ∧ va_D A w ∧ va_F A st t
abbrev xWs (z : mI) : List Cond := Cond.code z.1 z.2.1 z.2.2.1 z.2.2.2.1 :: xTb
theorem lg_sl_one : ∀ (as : List Value), (∀ v ∈ as, v.category = 1) → lg_sl as = as.map Slot.val
  | [], _ => rfl
  | v :: t, h => by
    have h1 := h v List.mem_cons_self
    have h2 := lg_sl_one t (fun u hu => h u (List.mem_cons_of_mem _ hu))
    unfold lg_sl at h2 ⊢
    rw [List.flatMap_cons, h2, if_neg (by omega)]
    rfl
theorem lv_args_one : ∀ (as : List Value) (j i : Nat) (v : Value), (∀ v ∈ as, v.category = 1) → as[i]? = some v → (j + i, v) ∈ lv_args j as
  | [], _, _, _, _, h => by simp at h
  | u :: t, j, 0, v, hc, h => by
    simp at h
    subst h
    unfold lv_args
    exact List.mem_cons_self
  | u :: t, j, i + 1, v, hc, h => by
    have h1 := hc u List.mem_cons_self
    have h2 := lv_args_one t (j + 1) i v (fun x hx => hc x (List.mem_cons_of_mem _ hx)) (by simpa using h)
    unfold lv_args
    rw [if_neg (by omega)]
    refine List.mem_cons_of_mem _ ?_
    rw [show j + (i + 1) = j + 1 + i by omega]
    exact h2
theorem xEn_at {y : mI} {as : List Value} {i : Nat} {v : Value} (h : (xEn y as)[i]? = some (some v)) : as[i]? = some v := by
  unfold xEn at h
  by_cases hi : i < as.length
  · rw [List.getElem?_append_left (by simpa using hi), List.getElem?_map] at h
    cases ha : as[i]? with
    | none => rw [ha] at h; cases h
    | some u => rw [ha] at h; simp at h; rw [h]
  · rw [List.getElem?_append_right (by simpa using hi), List.getElem?_replicate] at h
    split at h
    · cases h
    · cases h
theorem xMet {l : Launch} {G : xC} {X : xS} {z : mI} {cb sb : Nat} {as : List Value} {ws : va_W} {Q : Option Value → va_W → Prop} (hp : plainName z.1.cls = true) (hc : ∀ v ∈ as, v.category = 1) (hn : as.length ≤ z.2.2.1) (h : Ex G X z cb sb 0 (xEn z as) [] ws Q) (sz : Nat) :
    Met l z.1 (xWs z) { frames := z.2.2.2.2.1, cells := cb, slots := sb, locals := z.2.2.2.2.2 } (va_Pc as (xPre G X ws sz)) (xQc G Q (va_A ws sz)) cb sb (va_A ws sz) := by
  refine Met.ofW (cc := z.2.1) (maxL := z.2.2.1) (ret := z.2.2.2.1) hp rfl ?_
  intro p e s m args below meth c s₁ B hml hv
  obtain ⟨rfl, hsz, hP, hK, hD0, hN, hO, hX⟩ := hv
  have hts := atoms_spec (ws := xWs z) B.pre
  subst hsz
  have hD := hD0.self (sz := s.heap.size)
  have hlg := lg_sl_one as hc
  have hl := lv_entry as (n := z.2.2.1) (by rw [hlg, List.length_map]; exact hn)
  rw [lg_entry_eq]
  refine h p l e { frames := z.2.2.2.2.1, cells := cb, slots := sb, locals := z.2.2.2.2.2 } s m _ below meth c s.heap [] 0 0 (va_A ws s.heap.size) _ _ ⟨B.exec, B.bytes, hml, findClass_of_methodNamed B.named, fun w hw => hts w (List.mem_cons_of_mem _ hw), hN, hO, B.returns, B.notSynchronized, (name_of_methodNamed B.named B.method).1, Nat.le_refl _, Nat.le_refl _⟩ hX hK hP hD va_S.rf (fun q hq => Or.inr hq) ⟨?_, ⟨hl.1, hl.2.1, fun q hq => ?_⟩, fun q hq => ?_⟩ (Nat.le_of_eq (Nat.zero_add _)) (Nat.le_of_eq (Nat.zero_add _)) ?_
  · simp [xEn]; omega
  · have h1 := lv_args_one as 0 q.1 q.2 hc (xEn_at (xl_mem.mp hq))
    rw [Nat.zero_add] at h1
    exact hl.2.2 _ h1
  · exact hc _ (List.mem_of_getElem? (xEn_at (xl_mem.mp hq)))
  · intro r w H locs cells slots pc ls hQ hP' hD' hS' hce hsl hR
    refine W.widen (k := cb) (n := sb) hce hsl ?_
    have hq : ∀ t : State, t.heap = H → s.WarmedH t.vm → xQc G Q (va_A ws s.heap.size) as.toArray s (.returned r) t := fun t ht _ => ⟨r, w, rfl, hQ, by rw [ht]; exact hP', hD', hS'.F ht⟩
    match r, hR, hq with
    | none, hR, hq => exact W.vret B.exec B.bytes (B.returns.trans hR.2) hq hS'.2.2 hR.1 B.notSynchronized
    | some (.int v), ⟨hd, Or.inl h1⟩, hq => exact W.iret B.exec B.bytes (B.returns.trans h1) hq hS'.2.2 hd B.notSynchronized
    | some (.int v), ⟨hd, Or.inr ⟨h1, h2⟩⟩, hq => exact W.zret B.exec B.bytes (B.returns.trans h1) h2 hq hS'.2.2 hd B.notSynchronized
theorem xBlind {G : xC} {X : xS} {ws : va_W} {sz : Nat} {as : List Value} : FrameBlind (va_Pc as (xPre G X ws sz)) := by
  intro a U g mk q
  obtain ⟨q0, q1, qP, qK, qD, qN, qO, qX⟩ := q
  exact ⟨q0, q1, qP, va_K.moved (u := U) (U := U.calling g mk a) (Vm.Alike.refl U.vm) qK, qD, fun w hw => va_Nw.same (u := U) (U := U.calling g mk a) (xNest_on w hw) rfl (qN w hw), va_AO.moved (u := U) (U := U.calling g mk a) (Vm.Alike.refl U.vm) qO, fun b n f e => ⟨va_X.moved (u := U) (U := U.calling g mk a) (Vm.Alike.refl U.vm) (qX b n f e).1, (qX b n f e).2⟩⟩
section EXC
variable {G : xC} {X X' : xS} {y z : mI} {cb sb cb' sb' cb2 sb2 pc : Nat} {L : List (Option Value)} {st rest : List Value} {ws : va_W} {Q Q' : Option Value → va_W → Prop} {p : Program} {l : Launch} {e : Env} {R : Room} {s : State} {m : MethodId} {args : Array Value} {below : List Frame} {meth : Method} {c : Code} {H : Heap} {locs : List Loc} {cells slots : Nat} {A : Nat → Prop} {ls : Array Slot} {a : Array Value} {Qw : State → Prop}
theorem xPost (hr : va_Run p l e R s m args below meth c H locs cells slots cb' sb' (F0 m pc ls st) rest (xQc G Q' (va_A ws H.size) a) (va_A ws H.size)) (hS : va_S A s.heap H locs) (hD : va_D A ws) (hA : ∀ q, s.heap.size ≤ q → A q)
    (kk : ∀ (r : Option Value) (w : va_W) (H1 : Heap) (locs1 : List Loc), Q' r w → va_P G.1 xCl w H1 → va_D A w → va_S A s.heap H1 locs1 → W p l e R s m args below meth c H1 locs1 (cells + cb') (slots + sb') Qw (F0 m (pc + 3) ls (r.toList ++ rest))) : W p l e R s m args below meth c H locs cells slots Qw (F0 m pc ls st) := by
  have hfr : ∀ q, va_A ws H.size q → A q := by
    intro q hq
    rcases hq with ⟨k, e, h⟩ | h
    · exact hD.2 k (q, e) h
    · exact hA q (Nat.le_trans hS.1 h)
  intro T hT Z
  obtain ⟨v, st₀, t, T', L, h0, X', hL, e1, e2, ⟨r, w, hv, hQ, hP1, hD1, hz, hk⟩, st⟩ := hr T hT Z
  cases hv
  rw [h0] at hz hk
  obtain ⟨t2, a1, b1⟩ := kk v w T'.heap (locs ++ L) hQ (by rw [e1]; exact hP1) (hD1.weaken (fun _ q _ h => hfr q.1 h))
    ⟨Nat.le_trans hS.1 (by rw [e1]; exact hz), fun q h1 h2 => by rw [e1, hk q (Nat.lt_of_lt_of_le h1 hS.1) (fun z => h2 (hfr q z))]; exact hS.2.1 q h1 h2, fun q hq => by
      rcases List.mem_append.mp hq with h | h
      · exact hS.2.2 q h
      · exact hfr _ (hL q h)⟩ T' rfl X'
  exact ⟨t2, st t2 a1, b1⟩
-- what a call needs of the method called: its words, its name, its number of arguments n
def xOk (z : mI) (n : Nat) : Prop := plainName z.1.cls = true ∧ Cond.code z.1 z.2.1 z.2.2.1 z.2.2.2.1 ∈ xTb ∧ Cond.initialized z.1.cls ∈ xTb ∧ (z.1.cls ≠ "java/lang/invoke/MethodHandle" ∧ z.1.cls ≠ "java/lang/invoke/VarHandle" ∧ (parseMethodDescriptor z.1.desc).map (fun d => d.parameters.length) = some n)
def xRm (y z : mI) : Prop := z.2.2.2.2.1 + 1 ≤ y.2.2.2.2.1 ∧ 8 + (z.2.2.1 + 11) + z.2.2.2.2.2 ≤ y.2.2.2.2.2
theorem xRm.to (h : xRm y z) (hC : xCx y p R s m args meth c) : z.2.2.2.2.1 + 1 ≤ R.frames ∧ 8 + (z.2.2.1 + 11) + z.2.2.2.2.2 ≤ R.locals :=
  ⟨Nat.le_trans h.1 hC.2.2.2.2.2.2.2.2.2.2.1, Nat.le_trans h.2 hC.2.2.2.2.2.2.2.2.2.2.2⟩
theorem xGI (h : Cond.code z.1 z.2.1 z.2.2.1 z.2.2.2.1 ∈ xTb) : GoodIn xTb (xWs z) := by
  intro w hw
  rcases List.mem_cons.mp hw with rfl | hw
  · exact ⟨h, xGood _ h⟩
  · exact ⟨hw, xGood _ hw⟩
theorem xPreS {as : List Value} (hC : xCx y p R s m args meth c) (hX : xSc X s A) (hX' : X' = none ∨ X' = X) (hS : va_S A s.heap H locs) (hK : va_K G.1 xCl (xTys G) s) (hP : va_P G.1 xCl ws H) (hD : va_D A ws) : PreS s H (va_Pc as (xPre G X' ws H.size)) as := by
  refine ⟨xBlind, fun U hU hW => ⟨rfl, by rw [hU], by rw [hU]; exact hP, va_K.moved hW.alike hK, hD.weaken (fun _ _ _ _ => trivial), fun w hw => xNest_warm w hw hW (hC.2.2.2.2.2.1 w hw), va_AO.moved hW.alike hC.2.2.2.2.2.2.1, ?_⟩⟩
  rcases hX' with rfl | rfl
  · exact fun _ _ _ h9 => by cases h9
  · intro b n f e
    obtain ⟨h1, h2, h3⟩ := hX b n f e
    refine ⟨?_, by rw [hU]; exact Nat.lt_of_lt_of_le h2 hS.1, ?_⟩
    · rw [hU]
      exact (h1.kept (hS.2.1 b h2 h3)).moved hW.alike
    · intro hb
      rcases hb with ⟨k, e, hk⟩ | hb
      · exact h3 (hD.2 k (b, e) hk)
      · exact absurd (Nat.lt_of_lt_of_le h2 hS.1) (Nat.not_lt.mpr hb)
-- answers: an int, or nothing
def xI (P : Int32 → va_W → Prop) : Option Value → va_W → Prop := fun r w => ∃ v, r = some (.int v) ∧ P v w
def xV (P : va_W → Prop) : Option Value → va_W → Prop := fun r w => r = none ∧ P w
theorem ex_callV {as : List Value} {i : Nat} {nA : Nat} (n : Nat) {b q0 ci : Nat} {fs : List Value} {r0 : vw_C} (hd : decode y.2.1 pc = .ok (.invokevirtual i, 3)) (hn : pc + 3 = n) (hz : xOk z nA) (hm : xRm y z) (hk : Cond.methodLink y.1.cls i z.1 ∈ xTb) (hi1 : Cond.instanceMethod z.1 ∈ xTb) (hi2 : Cond.selects z.1.cls z.1 z.1 ∈ xTb) (he : ws[q0]? = some (b, .inr (ci, fs))) (hr0 : xCl[ci]? = some r0) (hr1 : r0.1 = z.1.cls) (hl : as.length = nA) (hst : st = as.reverse ++ .ref b :: rest) (hw : (rest.map fun v => v.category).sum ≤ 8) (hca0 : as.all (fun v => v.category == 1) = true) (hlen : (.ref b :: as).length ≤ z.2.2.1) (hX' : X' = none ∨ X' = X) (hS' : Ex G X' z cb' sb' 0 (xEn z (.ref b :: as)) [] ws Q') (hcb : cb' + cb ≤ cb2 ∧ sb' + sb ≤ sb2) (kk : ∀ r w, Q' r w → Ex G X y cb sb n L (r.toList ++ rest) w Q) : Ex G X y cb2 sb2 pc L st ws Q := by
  subst hn
  intro p l e R s m args below meth c H locs cells slots A ls Qw hC hX hK hP hD hS hA hL hc hs hE
  have hca : ∀ v ∈ as, v.category = 1 := fun v hv => by simpa using List.all_eq_true.mp hca0 v hv
  have hM := xMet (l := l) hz.1 (fun v hv => by rcases List.mem_cons.mp hv with rfl | hv; exact rfl; exact hca v hv) hlen hS' H.size
  refine xPost (va_runV (C := z.1.cls) (As := as) (rest := rest) ⟨hC.1, hC.2.1, hC.2.2.1, hC.2.2.2.1, hC.2.2.2.2.1⟩ hM ⟨(callB_of nA hC.2.2.2.2.1 (xGI hz.2.1) rfl rfl rfl (hC.2.2.2.2.1 _ hz.2.2.1) (hC.2.2.2.2.1 _ hk) hz.2.2.2 (hm.to hC)), hC.2.2.2.2.1 _ hi1, hC.2.2.2.2.1 _ hi2⟩ ⟨(xPreS hC hX hX' hS hK hP hD).1, by rw [← hr1]; exact va_recv hK hP hr0 he, (xPreS hC hX hX' hS hK hP hD).2⟩ rfl hl hL.2.1.1 hst (lv_room hw) hd ⟨by omega, by omega⟩) hS hD hA (fun r w H locs hQ hP hD hS => ?_)
  exact kk r w hQ p l e R s m args below meth c H locs (cells + cb') (slots + sb') A ls Qw hC hX hK hP hD hS hA hL (by omega) (by omega) hE
theorem ex_callVN {as : List Value} {i : Nat} {nA : Nat} (n : Nat) {b q0 ci : Nat} {fs : List Value} {r0 : vw_C} {host : String} (hd : decode y.2.1 pc = .ok (.invokevirtual i, 3)) (hn : pc + 3 = n) (hz : xOk z nA) (hm : xRm y z) (hk : Cond.methodLinkNest y.1.cls i z.1 host ∈ xNest) (hi1 : Cond.instanceMethod z.1 ∈ xTb) (hi2 : Cond.selects z.1.cls z.1 z.1 ∈ xTb) (he : ws[q0]? = some (b, .inr (ci, fs))) (hr0 : xCl[ci]? = some r0) (hr1 : r0.1 = z.1.cls) (hl : as.length = nA) (hst : st = as.reverse ++ .ref b :: rest) (hw : (rest.map fun v => v.category).sum ≤ 8) (hca0 : as.all (fun v => v.category == 1) = true) (hlen : (.ref b :: as).length ≤ z.2.2.1) (hX' : X' = none ∨ X' = X) (hS' : Ex G X' z cb' sb' 0 (xEn z (.ref b :: as)) [] ws Q') (hcb : cb' + cb ≤ cb2 ∧ sb' + sb ≤ sb2) (kk : ∀ r w, Q' r w → Ex G X y cb sb n L (r.toList ++ rest) w Q) : Ex G X y cb2 sb2 pc L st ws Q := by
  subst hn
  intro p l e R s m args below meth c H locs cells slots A ls Qw hC hX hK hP hD hS hA hL hc hs hE
  have hca : ∀ v ∈ as, v.category = 1 := fun v hv => by simpa using List.all_eq_true.mp hca0 v hv
  have hM := xMet (l := l) hz.1 (fun v hv => by rcases List.mem_cons.mp hv with rfl | hv; exact rfl; exact hca v hv) hlen hS' H.size
  refine xPost (va_runVN (C := z.1.cls) (As := as) (rest := rest) ⟨hC.1, hC.2.1, hC.2.2.1, hC.2.2.2.1, hC.2.2.2.2.1⟩ hM ⟨(va_cnB nA hC.2.2.2.2.1 (xGI hz.2.1) rfl rfl rfl (hC.2.2.2.2.2.1 _ hk) (hC.2.2.2.2.1 _ hz.2.2.1) hz.2.2.2 (hm.to hC)), hC.2.2.2.2.1 _ hi1, hC.2.2.2.2.1 _ hi2⟩ ⟨(xPreS hC hX hX' hS hK hP hD).1, by rw [← hr1]; exact va_recv hK hP hr0 he, (xPreS hC hX hX' hS hK hP hD).2⟩ rfl hl hL.2.1.1 hst (lv_room hw) hd ⟨by omega, by omega⟩) hS hD hA (fun r w H locs hQ hP hD hS => ?_)
  exact kk r w hQ p l e R s m args below meth c H locs (cells + cb') (slots + sb') A ls Qw hC hX hK hP hD hS hA hL (by omega) (by omega) hE
theorem ex_callS {as : List Value} {i : Nat} {nA : Nat} (n : Nat) (hd : decode y.2.1 pc = .ok (.invokestatic i, 3)) (hn : pc + 3 = n) (hz : xOk z nA) (hm : xRm y z) (hk : Cond.methodLink y.1.cls i z.1 ∈ xTb) (hi1 : Cond.static z.1 ∈ xTb) (hl : as.length = nA) (hst : st = as.reverse ++ rest) (hw : (rest.map fun v => v.category).sum ≤ 8) (hca0 : as.all (fun v => v.category == 1) = true) (hlen : as.length ≤ z.2.2.1) (hX' : X' = none ∨ X' = X) (hS' : Ex G X' z cb' sb' 0 (xEn z as) [] ws Q') (hcb : cb' + cb ≤ cb2 ∧ sb' + sb ≤ sb2) (kk : ∀ r w, Q' r w → Ex G X y cb sb n L (r.toList ++ rest) w Q) : Ex G X y cb2 sb2 pc L st ws Q := by
  subst hn
  intro p l e R s m args below meth c H locs cells slots A ls Qw hC hX hK hP hD hS hA hL hc hs hE
  have hca : ∀ v ∈ as, v.category = 1 := fun v hv => by simpa using List.all_eq_true.mp hca0 v hv
  have hM := xMet (l := l) hz.1 (hca) hlen hS' H.size
  refine xPost (va_runS (As := as) (rest := rest) ⟨hC.1, hC.2.1, hC.2.2.1, hC.2.2.2.1, hC.2.2.2.2.1⟩ hM ⟨(callB_of nA hC.2.2.2.2.1 (xGI hz.2.1) rfl rfl rfl (hC.2.2.2.2.1 _ hz.2.2.1) (hC.2.2.2.2.1 _ hk) hz.2.2.2 (hm.to hC)), hC.2.2.2.2.1 _ hi1⟩ (xPreS hC hX hX' hS hK hP hD) rfl hl hL.2.1.1 hst (lv_room hw) hd ⟨by omega, by omega⟩) hS hD hA (fun r w H locs hQ hP hD hS => ?_)
  exact kk r w hQ p l e R s m args below meth c H locs (cells + cb') (slots + sb') A ls Qw hC hX hK hP hD hS hA hL (by omega) (by omega) hE
theorem ex_callSN {as : List Value} {i : Nat} {nA : Nat} (n : Nat) {host : String} (hd : decode y.2.1 pc = .ok (.invokestatic i, 3)) (hn : pc + 3 = n) (hz : xOk z nA) (hm : xRm y z) (hk : Cond.methodLinkNest y.1.cls i z.1 host ∈ xNest) (hi1 : Cond.static z.1 ∈ xTb) (hl : as.length = nA) (hst : st = as.reverse ++ rest) (hw : (rest.map fun v => v.category).sum ≤ 8) (hca0 : as.all (fun v => v.category == 1) = true) (hlen : as.length ≤ z.2.2.1) (hX' : X' = none ∨ X' = X) (hS' : Ex G X' z cb' sb' 0 (xEn z as) [] ws Q') (hcb : cb' + cb ≤ cb2 ∧ sb' + sb ≤ sb2) (kk : ∀ r w, Q' r w → Ex G X y cb sb n L (r.toList ++ rest) w Q) : Ex G X y cb2 sb2 pc L st ws Q := by
  subst hn
  intro p l e R s m args below meth c H locs cells slots A ls Qw hC hX hK hP hD hS hA hL hc hs hE
  have hca : ∀ v ∈ as, v.category = 1 := fun v hv => by simpa using List.all_eq_true.mp hca0 v hv
  have hM := xMet (l := l) hz.1 (hca) hlen hS' H.size
  refine xPost (va_runSN (As := as) (rest := rest) ⟨hC.1, hC.2.1, hC.2.2.1, hC.2.2.2.1, hC.2.2.2.2.1⟩ hM ⟨(va_cnB nA hC.2.2.2.2.1 (xGI hz.2.1) rfl rfl rfl (hC.2.2.2.2.2.1 _ hk) (hC.2.2.2.2.1 _ hz.2.2.1) hz.2.2.2 (hm.to hC)), hC.2.2.2.2.1 _ hi1, trivial⟩ (xPreS hC hX hX' hS hK hP hD) rfl hl hL.2.1.1 hst (lv_room hw) hd ⟨by omega, by omega⟩) hS hD hA (fun r w H locs hQ hP hD hS => ?_)
  exact kk r w hQ p l e R s m args below meth c H locs (cells + cb') (slots + sb') A ls Qw hC hX hK hP hD hS hA hL (by omega) (by omega) hE
theorem ex_callI {as : List Value} {i : Nat} {nA : Nat} (n : Nat) {b : Nat} (hd : decode y.2.1 pc = .ok (.invokespecial i, 3)) (hn : pc + 3 = n) (hz : xOk z nA) (hm : xRm y z) (hk : Cond.methodLink y.1.cls i z.1 ∈ xTb) (hi1 : Cond.instanceMethod z.1 ∈ xTb) (hi2 : z.1.name = "<init>") (hi3 : z.2.2.2.1 = none) (hl : as.length = nA) (hst : st = as.reverse ++ .ref b :: rest) (hw : (rest.map fun v => v.category).sum ≤ 8) (hca0 : as.all (fun v => v.category == 1) = true) (hlen : (.ref b :: as).length ≤ z.2.2.1) (hX' : X' = none ∨ X' = X) (hS' : Ex G X' z cb' sb' 0 (xEn z (.ref b :: as)) [] ws Q') (hcb : cb' + cb ≤ cb2 ∧ sb' + sb ≤ sb2) (kk : ∀ r w, Q' r w → Ex G X y cb sb n L (r.toList ++ rest) w Q) : Ex G X y cb2 sb2 pc L st ws Q := by
  subst hn
  intro p l e R s m args below meth c H locs cells slots A ls Qw hC hX hK hP hD hS hA hL hc hs hE
  have hca : ∀ v ∈ as, v.category = 1 := fun v hv => by simpa using List.all_eq_true.mp hca0 v hv
  have hM := xMet (l := l) hz.1 (fun v hv => by rcases List.mem_cons.mp hv with rfl | hv; exact rfl; exact hca v hv) hlen hS' H.size
  refine xPost (va_runI (As := as) (rest := rest) ⟨hC.1, hC.2.1, hC.2.2.1, hC.2.2.2.1, hC.2.2.2.2.1⟩ hM ⟨by rw [← hi3]; exact (callB_of nA hC.2.2.2.2.1 (xGI hz.2.1) rfl rfl rfl (hC.2.2.2.2.1 _ hz.2.2.1) (hC.2.2.2.2.1 _ hk) hz.2.2.2 (hm.to hC)), hi2, hC.2.2.2.2.1 _ hi1⟩ (xPreS hC hX hX' hS hK hP hD) rfl hl hL.2.1.1 hst (lv_room hw) hd ⟨by omega, by omega⟩) hS hD hA (fun r w H locs hQ hP hD hS => ?_)
  exact kk r w hQ p l e R s m args below meth c H locs (cells + cb') (slots + sb') A ls Qw hC hX hK hP hD hS hA hL (by omega) (by omega) hE
theorem ex_callIN {as : List Value} {i : Nat} {nA : Nat} (n : Nat) {b : Nat} {host : String} (hd : decode y.2.1 pc = .ok (.invokespecial i, 3)) (hn : pc + 3 = n) (hz : xOk z nA) (hm : xRm y z) (hk : Cond.methodLinkNest y.1.cls i z.1 host ∈ xNest) (hi1 : Cond.instanceMethod z.1 ∈ xTb) (hi2 : z.1.name = "<init>") (hi3 : z.2.2.2.1 = none) (hl : as.length = nA) (hst : st = as.reverse ++ .ref b :: rest) (hw : (rest.map fun v => v.category).sum ≤ 8) (hca0 : as.all (fun v => v.category == 1) = true) (hlen : (.ref b :: as).length ≤ z.2.2.1) (hX' : X' = none ∨ X' = X) (hS' : Ex G X' z cb' sb' 0 (xEn z (.ref b :: as)) [] ws Q') (hcb : cb' + cb ≤ cb2 ∧ sb' + sb ≤ sb2) (kk : ∀ r w, Q' r w → Ex G X y cb sb n L (r.toList ++ rest) w Q) : Ex G X y cb2 sb2 pc L st ws Q := by
  subst hn
  intro p l e R s m args below meth c H locs cells slots A ls Qw hC hX hK hP hD hS hA hL hc hs hE
  have hca : ∀ v ∈ as, v.category = 1 := fun v hv => by simpa using List.all_eq_true.mp hca0 v hv
  have hM := xMet (l := l) hz.1 (fun v hv => by rcases List.mem_cons.mp hv with rfl | hv; exact rfl; exact hca v hv) hlen hS' H.size
  refine xPost (va_runIN (As := as) (rest := rest) ⟨hC.1, hC.2.1, hC.2.2.1, hC.2.2.2.1, hC.2.2.2.2.1⟩ hM ⟨by rw [← hi3]; exact (va_cnB nA hC.2.2.2.2.1 (xGI hz.2.1) rfl rfl rfl (hC.2.2.2.2.2.1 _ hk) (hC.2.2.2.2.1 _ hz.2.2.1) hz.2.2.2 (hm.to hC)), hi2, hC.2.2.2.2.1 _ hi1⟩ (xPreS hC hX hX' hS hK hP hD) rfl hl hL.2.1.1 hst (lv_room hw) hd ⟨by omega, by omega⟩) hS hD hA (fun r w H locs hQ hP hD hS => ?_)
  exact kk r w hQ p l e R s m args below meth c H locs (cells + cb') (slots + sb') A ls Qw hC hX hK hP hD hS hA hL (by omega) (by omega) hE
theorem ex_callVi {P' : Int32 → va_W → Prop} {as : List Value} {i : Nat} {nA : Nat} (n : Nat) {b q0 ci : Nat} {fs : List Value} {r0 : vw_C} (hd : decode y.2.1 pc = .ok (.invokevirtual i, 3)) (hn : pc + 3 = n) (hz : xOk z nA) (hm : xRm y z) (hk : Cond.methodLink y.1.cls i z.1 ∈ xTb) (hi1 : Cond.instanceMethod z.1 ∈ xTb) (hi2 : Cond.selects z.1.cls z.1 z.1 ∈ xTb) (he : ws[q0]? = some (b, .inr (ci, fs))) (hr0 : xCl[ci]? = some r0) (hr1 : r0.1 = z.1.cls) (hl : as.length = nA) (hst : st = as.reverse ++ .ref b :: rest) (hw : (rest.map fun v => v.category).sum ≤ 8) (hca0 : as.all (fun v => v.category == 1) = true) (hlen : (.ref b :: as).length ≤ z.2.2.1) (hS' : Ex G none z 0 0 0 (xEn z (.ref b :: as)) [] ws (xI P')) (kk : ∀ v w, P' v w → Ex G X y cb sb n L (.int v :: rest) w Q) : Ex G X y cb sb pc L st ws Q :=
  ex_callV (cb := cb) (sb := sb) (cb2 := cb) (sb2 := sb) (cb' := 0) (sb' := 0) n hd hn hz hm hk hi1 hi2 he hr0 hr1 hl hst hw hca0 hlen (Or.inl rfl) hS' ⟨by omega, by omega⟩ (fun r w h => by obtain ⟨v, rfl, h⟩ := h; exact kk v w h)
theorem ex_callVv {P' : va_W → Prop} {as : List Value} {i : Nat} {nA : Nat} (n : Nat) {b q0 ci : Nat} {fs : List Value} {r0 : vw_C} (hd : decode y.2.1 pc = .ok (.invokevirtual i, 3)) (hn : pc + 3 = n) (hz : xOk z nA) (hm : xRm y z) (hk : Cond.methodLink y.1.cls i z.1 ∈ xTb) (hi1 : Cond.instanceMethod z.1 ∈ xTb) (hi2 : Cond.selects z.1.cls z.1 z.1 ∈ xTb) (he : ws[q0]? = some (b, .inr (ci, fs))) (hr0 : xCl[ci]? = some r0) (hr1 : r0.1 = z.1.cls) (hl : as.length = nA) (hst : st = as.reverse ++ .ref b :: rest) (hw : (rest.map fun v => v.category).sum ≤ 8) (hca0 : as.all (fun v => v.category == 1) = true) (hlen : (.ref b :: as).length ≤ z.2.2.1) (hS' : Ex G none z 0 0 0 (xEn z (.ref b :: as)) [] ws (xV P')) (kk : ∀ w, P' w → Ex G X y cb sb n L rest w Q) : Ex G X y cb sb pc L st ws Q :=
  ex_callV (cb := cb) (sb := sb) (cb2 := cb) (sb2 := sb) (cb' := 0) (sb' := 0) n hd hn hz hm hk hi1 hi2 he hr0 hr1 hl hst hw hca0 hlen (Or.inl rfl) hS' ⟨by omega, by omega⟩ (fun r w h => by obtain ⟨rfl, h⟩ := h; exact kk w h)
theorem ex_callVNi {P' : Int32 → va_W → Prop} {as : List Value} {i : Nat} {nA : Nat} (n : Nat) {b q0 ci : Nat} {fs : List Value} {r0 : vw_C} {host : String} (hd : decode y.2.1 pc = .ok (.invokevirtual i, 3)) (hn : pc + 3 = n) (hz : xOk z nA) (hm : xRm y z) (hk : Cond.methodLinkNest y.1.cls i z.1 host ∈ xNest) (hi1 : Cond.instanceMethod z.1 ∈ xTb) (hi2 : Cond.selects z.1.cls z.1 z.1 ∈ xTb) (he : ws[q0]? = some (b, .inr (ci, fs))) (hr0 : xCl[ci]? = some r0) (hr1 : r0.1 = z.1.cls) (hl : as.length = nA) (hst : st = as.reverse ++ .ref b :: rest) (hw : (rest.map fun v => v.category).sum ≤ 8) (hca0 : as.all (fun v => v.category == 1) = true) (hlen : (.ref b :: as).length ≤ z.2.2.1) (hS' : Ex G none z 0 0 0 (xEn z (.ref b :: as)) [] ws (xI P')) (kk : ∀ v w, P' v w → Ex G X y cb sb n L (.int v :: rest) w Q) : Ex G X y cb sb pc L st ws Q :=
  ex_callVN (cb := cb) (sb := sb) (cb2 := cb) (sb2 := sb) (cb' := 0) (sb' := 0) n hd hn hz hm hk hi1 hi2 he hr0 hr1 hl hst hw hca0 hlen (Or.inl rfl) hS' ⟨by omega, by omega⟩ (fun r w h => by obtain ⟨v, rfl, h⟩ := h; exact kk v w h)
theorem ex_callVNv {P' : va_W → Prop} {as : List Value} {i : Nat} {nA : Nat} (n : Nat) {b q0 ci : Nat} {fs : List Value} {r0 : vw_C} {host : String} (hd : decode y.2.1 pc = .ok (.invokevirtual i, 3)) (hn : pc + 3 = n) (hz : xOk z nA) (hm : xRm y z) (hk : Cond.methodLinkNest y.1.cls i z.1 host ∈ xNest) (hi1 : Cond.instanceMethod z.1 ∈ xTb) (hi2 : Cond.selects z.1.cls z.1 z.1 ∈ xTb) (he : ws[q0]? = some (b, .inr (ci, fs))) (hr0 : xCl[ci]? = some r0) (hr1 : r0.1 = z.1.cls) (hl : as.length = nA) (hst : st = as.reverse ++ .ref b :: rest) (hw : (rest.map fun v => v.category).sum ≤ 8) (hca0 : as.all (fun v => v.category == 1) = true) (hlen : (.ref b :: as).length ≤ z.2.2.1) (hS' : Ex G none z 0 0 0 (xEn z (.ref b :: as)) [] ws (xV P')) (kk : ∀ w, P' w → Ex G X y cb sb n L rest w Q) : Ex G X y cb sb pc L st ws Q :=
  ex_callVN (cb := cb) (sb := sb) (cb2 := cb) (sb2 := sb) (cb' := 0) (sb' := 0) n hd hn hz hm hk hi1 hi2 he hr0 hr1 hl hst hw hca0 hlen (Or.inl rfl) hS' ⟨by omega, by omega⟩ (fun r w h => by obtain ⟨rfl, h⟩ := h; exact kk w h)
theorem ex_callSi {P' : Int32 → va_W → Prop} {as : List Value} {i : Nat} {nA : Nat} (n : Nat) (hd : decode y.2.1 pc = .ok (.invokestatic i, 3)) (hn : pc + 3 = n) (hz : xOk z nA) (hm : xRm y z) (hk : Cond.methodLink y.1.cls i z.1 ∈ xTb) (hi1 : Cond.static z.1 ∈ xTb) (hl : as.length = nA) (hst : st = as.reverse ++ rest) (hw : (rest.map fun v => v.category).sum ≤ 8) (hca0 : as.all (fun v => v.category == 1) = true) (hlen : as.length ≤ z.2.2.1) (hS' : Ex G none z 0 0 0 (xEn z as) [] ws (xI P')) (kk : ∀ v w, P' v w → Ex G X y cb sb n L (.int v :: rest) w Q) : Ex G X y cb sb pc L st ws Q :=
  ex_callS (cb := cb) (sb := sb) (cb2 := cb) (sb2 := sb) (cb' := 0) (sb' := 0) n hd hn hz hm hk hi1 hl hst hw hca0 hlen (Or.inl rfl) hS' ⟨by omega, by omega⟩ (fun r w h => by obtain ⟨v, rfl, h⟩ := h; exact kk v w h)
theorem ex_callSv {P' : va_W → Prop} {as : List Value} {i : Nat} {nA : Nat} (n : Nat) (hd : decode y.2.1 pc = .ok (.invokestatic i, 3)) (hn : pc + 3 = n) (hz : xOk z nA) (hm : xRm y z) (hk : Cond.methodLink y.1.cls i z.1 ∈ xTb) (hi1 : Cond.static z.1 ∈ xTb) (hl : as.length = nA) (hst : st = as.reverse ++ rest) (hw : (rest.map fun v => v.category).sum ≤ 8) (hca0 : as.all (fun v => v.category == 1) = true) (hlen : as.length ≤ z.2.2.1) (hS' : Ex G none z 0 0 0 (xEn z as) [] ws (xV P')) (kk : ∀ w, P' w → Ex G X y cb sb n L rest w Q) : Ex G X y cb sb pc L st ws Q :=
  ex_callS (cb := cb) (sb := sb) (cb2 := cb) (sb2 := sb) (cb' := 0) (sb' := 0) n hd hn hz hm hk hi1 hl hst hw hca0 hlen (Or.inl rfl) hS' ⟨by omega, by omega⟩ (fun r w h => by obtain ⟨rfl, h⟩ := h; exact kk w h)
theorem ex_callSNi {P' : Int32 → va_W → Prop} {as : List Value} {i : Nat} {nA : Nat} (n : Nat) {host : String} (hd : decode y.2.1 pc = .ok (.invokestatic i, 3)) (hn : pc + 3 = n) (hz : xOk z nA) (hm : xRm y z) (hk : Cond.methodLinkNest y.1.cls i z.1 host ∈ xNest) (hi1 : Cond.static z.1 ∈ xTb) (hl : as.length = nA) (hst : st = as.reverse ++ rest) (hw : (rest.map fun v => v.category).sum ≤ 8) (hca0 : as.all (fun v => v.category == 1) = true) (hlen : as.length ≤ z.2.2.1) (hS' : Ex G none z 0 0 0 (xEn z as) [] ws (xI P')) (kk : ∀ v w, P' v w → Ex G X y cb sb n L (.int v :: rest) w Q) : Ex G X y cb sb pc L st ws Q :=
  ex_callSN (cb := cb) (sb := sb) (cb2 := cb) (sb2 := sb) (cb' := 0) (sb' := 0) n hd hn hz hm hk hi1 hl hst hw hca0 hlen (Or.inl rfl) hS' ⟨by omega, by omega⟩ (fun r w h => by obtain ⟨v, rfl, h⟩ := h; exact kk v w h)
theorem ex_callSNv {P' : va_W → Prop} {as : List Value} {i : Nat} {nA : Nat} (n : Nat) {host : String} (hd : decode y.2.1 pc = .ok (.invokestatic i, 3)) (hn : pc + 3 = n) (hz : xOk z nA) (hm : xRm y z) (hk : Cond.methodLinkNest y.1.cls i z.1 host ∈ xNest) (hi1 : Cond.static z.1 ∈ xTb) (hl : as.length = nA) (hst : st = as.reverse ++ rest) (hw : (rest.map fun v => v.category).sum ≤ 8) (hca0 : as.all (fun v => v.category == 1) = true) (hlen : as.length ≤ z.2.2.1) (hS' : Ex G none z 0 0 0 (xEn z as) [] ws (xV P')) (kk : ∀ w, P' w → Ex G X y cb sb n L rest w Q) : Ex G X y cb sb pc L st ws Q :=
  ex_callSN (cb := cb) (sb := sb) (cb2 := cb) (sb2 := sb) (cb' := 0) (sb' := 0) n hd hn hz hm hk hi1 hl hst hw hca0 hlen (Or.inl rfl) hS' ⟨by omega, by omega⟩ (fun r w h => by obtain ⟨rfl, h⟩ := h; exact kk w h)
theorem ex_callIv {P' : va_W → Prop} {as : List Value} {i : Nat} {nA : Nat} (n : Nat) {b : Nat} (hd : decode y.2.1 pc = .ok (.invokespecial i, 3)) (hn : pc + 3 = n) (hz : xOk z nA) (hm : xRm y z) (hk : Cond.methodLink y.1.cls i z.1 ∈ xTb) (hi1 : Cond.instanceMethod z.1 ∈ xTb) (hi2 : z.1.name = "<init>") (hi3 : z.2.2.2.1 = none) (hl : as.length = nA) (hst : st = as.reverse ++ .ref b :: rest) (hw : (rest.map fun v => v.category).sum ≤ 8) (hca0 : as.all (fun v => v.category == 1) = true) (hlen : (.ref b :: as).length ≤ z.2.2.1) (hS' : Ex G none z cb' sb' 0 (xEn z (.ref b :: as)) [] ws (xV P')) (hcb : cb' + cb ≤ cb2 ∧ sb' + sb ≤ sb2) (kk : ∀ w, P' w → Ex G X y cb sb n L rest w Q) : Ex G X y cb2 sb2 pc L st ws Q :=
  ex_callI n hd hn hz hm hk hi1 hi2 hi3 hl hst hw hca0 hlen (Or.inl rfl) hS' hcb (fun r w h => by obtain ⟨rfl, h⟩ := h; exact kk w h)
theorem ex_callINv {P' : va_W → Prop} {as : List Value} {i : Nat} {nA : Nat} (n : Nat) {b : Nat} {host : String} (hd : decode y.2.1 pc = .ok (.invokespecial i, 3)) (hn : pc + 3 = n) (hz : xOk z nA) (hm : xRm y z) (hk : Cond.methodLinkNest y.1.cls i z.1 host ∈ xNest) (hi1 : Cond.instanceMethod z.1 ∈ xTb) (hi2 : z.1.name = "<init>") (hi3 : z.2.2.2.1 = none) (hl : as.length = nA) (hst : st = as.reverse ++ .ref b :: rest) (hw : (rest.map fun v => v.category).sum ≤ 8) (hca0 : as.all (fun v => v.category == 1) = true) (hlen : (.ref b :: as).length ≤ z.2.2.1) (hS' : Ex G none z cb' sb' 0 (xEn z (.ref b :: as)) [] ws (xV P')) (hcb : cb' + cb ≤ cb2 ∧ sb' + sb ≤ sb2) (kk : ∀ w, P' w → Ex G X y cb sb n L rest w Q) : Ex G X y cb2 sb2 pc L st ws Q :=
  ex_callIN n hd hn hz hm hk hi1 hi2 hi3 hl hst hw hca0 hlen (Or.inl rfl) hS' hcb (fun r w h => by obtain ⟨rfl, h⟩ := h; exact kk w h)
end EXC
