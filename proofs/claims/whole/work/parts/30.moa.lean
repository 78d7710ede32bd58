section WK
variable {G : xC} {ad : Nat → Nat} {N : Nat} {S M : sT}
set_option maxRecDepth 100000 in
set_option maxHeartbeats 4000000 in
theorem c_MO_isNode (n : Int32) (hn : M 0 0 = nI N) : Ex G none mi_MO_isNode 0 0 0 (xEn mi_MO_isNode [.ref (ad (rp N 0)), .int n]) [] (LR G ad N S M) (xI (fun v w => w = LR G ad N S M ∧ v = zb (isN N n))) := by
  refine ex_iload_n (a := n) 1 d_MO_isNode_0 rfl rfl ?_
  refine ex_iflt 16 4 d_MO_isNode_1 rfl rfl (fun h1 => ?_) (fun h1 => ?_)
  · refine ex_iconst (v := 0) 17 d_MO_isNode_16 rfl (by decide) ?_
    refine ex_zret d_MO_isNode_17 rfl rfl ⟨_, rfl, ?_⟩
    refine ⟨rfl, ?_⟩
    exact Eq.symm (zb_f (fun z => absurd h1 (Int32.not_lt.mpr z.1)))
  · refine ex_iload_n (a := n) 5 d_MO_isNode_4 rfl rfl ?_
    refine ex_aload_n (a := ad (rp N 0)) 6 d_MO_isNode_5 rfl rfl ?_
    refine xr_get 9 d_MO_isNode_6 rfl g_MO_71 (by decide) rfl rfl ?_
    refine ex_icmpge 16 12 d_MO_isNode_9 rfl rfl (fun h2 => ?_) (fun h2 => ?_)
    · refine ex_iconst (v := 0) 17 d_MO_isNode_16 rfl (by decide) ?_
      refine ex_zret d_MO_isNode_17 rfl rfl ⟨_, rfl, ?_⟩
      refine ⟨rfl, ?_⟩
      have h9 := h2
      rw [hn] at h9
      exact Eq.symm (zb_f (fun z => absurd z.2 (Int32.not_lt.mpr h9)))
    · refine ex_iconst (v := 1) 13 d_MO_isNode_12 rfl (by decide) ?_
      refine ex_goto 17 d_MO_isNode_13 rfl ?_
      refine ex_zret d_MO_isNode_17 rfl rfl ⟨_, rfl, ?_⟩
      refine ⟨rfl, ?_⟩
      have h9 := h2
      rw [hn] at h9
      exact Eq.symm (zb_t ⟨Int32.not_lt.mp h1, Int32.not_le.mp h9⟩)
set_option maxRecDepth 100000 in
set_option maxHeartbeats 4000000 in
theorem c_MO_isWorking (n : Nat) (hn5 : n < 5) : Ex G none mi_MO_isWorking 0 0 0 (xEn mi_MO_isWorking [.ref (ad (rp N 0)), .int (nI n)]) [] (LR G ad N S M) (xI (fun v w => w = LR G ad N S M ∧ v = zb (rWk n M))) := by
  refine ex_aload_n (a := ad (rp N 0)) 1 d_MO_isWorking_0 rfl rfl ?_
  refine xr_getR 4 d_MO_isWorking_1 rfl g_MO_25 (by decide) rfl rfl ?_
  refine ex_iload_n (a := nI n) 5 d_MO_isWorking_4 rfl rfl ?_
  refine xr_zald 6 d_MO_isWorking_5 rfl (by decide) rfl rfl (by omega) (by omega) ?_
  refine ex_ifeq 22 9 d_MO_isWorking_6 rfl rfl (fun h1 => ?_) (fun h1 => ?_)
  · refine ex_iconst (v := 0) 23 d_MO_isWorking_22 rfl (by decide) ?_
    refine ex_zret d_MO_isWorking_23 rfl rfl ⟨_, rfl, ?_⟩
    refine ⟨rfl, ?_⟩
    exact (Eq.symm (zb_f (fun z => z.1 h1)))
  · refine ex_aload_n (a := ad (rp N 0)) 10 d_MO_isWorking_9 rfl rfl ?_
    refine xr_getR 13 d_MO_isWorking_10 rfl g_MO_29 (by decide) rfl rfl ?_
    refine ex_iload_n (a := nI n) 14 d_MO_isWorking_13 rfl rfl ?_
    refine xr_zald 15 d_MO_isWorking_14 rfl (by decide) rfl rfl (by omega) (by omega) ?_
    refine ex_ifne 22 18 d_MO_isWorking_15 rfl rfl (fun h2 => ?_) (fun h2 => ?_)
    · refine ex_iconst (v := 0) 23 d_MO_isWorking_22 rfl (by decide) ?_
      refine ex_zret d_MO_isWorking_23 rfl rfl ⟨_, rfl, ?_⟩
      refine ⟨rfl, ?_⟩
      exact (Eq.symm (zb_f (fun z => h2 z.2)))
    · refine ex_iconst (v := 1) 19 d_MO_isWorking_18 rfl (by decide) ?_
      refine ex_goto 23 d_MO_isWorking_19 rfl ?_
      refine ex_zret d_MO_isWorking_23 rfl rfl ⟨_, rfl, ?_⟩
      refine ⟨rfl, ?_⟩
      exact (Eq.symm (zb_t ⟨h1, h2⟩))
set_option maxRecDepth 100000 in
set_option maxHeartbeats 4000000 in
theorem c_MO_isSlot (n : Int32) : Ex G none mi_MO_isSlot 0 0 0 (xEn mi_MO_isSlot [.int n]) [] (LR G ad N S M) (xI (fun v w => w = LR G ad N S M ∧ v = zb (isSl n))) := by
  refine ex_iload_n (a := n) 1 d_MO_isSlot_0 rfl rfl ?_
  refine ex_iconst (v := 1) 2 d_MO_isSlot_1 rfl (by decide) ?_
  refine ex_icmplt 15 5 d_MO_isSlot_2 rfl rfl (fun h1 => ?_) (fun h1 => ?_)
  · refine ex_iconst (v := 0) 16 d_MO_isSlot_15 rfl (by decide) ?_
    refine ex_zret d_MO_isSlot_16 rfl rfl ⟨_, rfl, ?_⟩
    refine ⟨rfl, ?_⟩
    exact Eq.symm (zb_f (fun z => absurd h1 (Int32.not_lt.mpr z.1)))
  · refine ex_iload_n (a := n) 6 d_MO_isSlot_5 rfl rfl ?_
    refine ex_bipush (v := 8) 8 d_MO_isSlot_6 rfl (by decide) ?_
    refine ex_icmpgt 15 11 d_MO_isSlot_8 rfl rfl (fun h2 => ?_) (fun h2 => ?_)
    · refine ex_iconst (v := 0) 16 d_MO_isSlot_15 rfl (by decide) ?_
      refine ex_zret d_MO_isSlot_16 rfl rfl ⟨_, rfl, ?_⟩
      refine ⟨rfl, ?_⟩
      exact Eq.symm (zb_f (fun z => absurd z.2 (Int32.not_le.mpr h2)))
    · refine ex_iconst (v := 1) 12 d_MO_isSlot_11 rfl (by decide) ?_
      refine ex_goto 16 d_MO_isSlot_12 rfl ?_
      refine ex_zret d_MO_isSlot_16 rfl rfl ⟨_, rfl, ?_⟩
      refine ⟨rfl, ?_⟩
      exact Eq.symm (zb_t ⟨Int32.not_lt.mp h1, Int32.not_lt.mp h2⟩)
set_option maxRecDepth 100000 in
set_option maxHeartbeats 4000000 in
theorem c_MO_isMany (x : Int32) : Ex G none mi_MO_isMany 0 0 0 (xEn mi_MO_isMany [.ref (ad (rp N 0)), .int x]) [] (LR G ad N S M) (xI (fun v w => w = LR G ad N S M ∧ v = zb (rMany M x))) := by
  have hloop0 : ∀ k, k ≤ 5 → Ex G none mi_MO_isMany 0 0 4 [some (.ref (ad (rp N 0))), some (.int x), some (.int ((rSum x k))), some (.int (nI k))] [] (LR G ad N S M) (xI (fun v w => w = LR G ad N S M ∧ v = zb (rMany M x))) := by
    refine loop_down 5 ?_ ?_
    · skip
      refine ex_iload_n (a := nI 5) 5 d_MO_isMany_4 rfl rfl ?_
      refine ex_iconst (v := 5) 6 d_MO_isMany_5 rfl (by decide) ?_
      refine ex_icmpge 23 9 d_MO_isMany_6 rfl rfl (fun _ => ?_) (fun h => absurd (xn_le (xn_lit 5) rfl (by omega) (by omega) (by omega)) h)
      refine ex_iconst (v := 2) 24 d_MO_isMany_23 rfl (by decide) ?_
      refine ex_iload_n (a := (rSum x 5)) 25 d_MO_isMany_24 rfl rfl ?_
      refine ex_imul 26 d_MO_isMany_25 rfl ?_
      refine ex_aload_n (a := ad (rp N 0)) 27 d_MO_isMany_26 rfl rfl ?_
      refine xr_get 30 d_MO_isMany_27 rfl g_MO_71 (by decide) rfl rfl ?_
      refine ex_icmple 37 33 d_MO_isMany_30 rfl rfl (fun h1 => ?_) (fun h1 => ?_)
      · refine ex_iconst (v := 0) 38 d_MO_isMany_37 rfl (by decide) ?_
        refine ex_zret d_MO_isMany_38 rfl rfl ⟨_, rfl, ?_⟩
        exact ⟨rfl, (Eq.symm (zb_f (Int32.not_lt.mpr h1)))⟩
      · refine ex_iconst (v := 1) 34 d_MO_isMany_33 rfl (by decide) ?_
        refine ex_goto 38 d_MO_isMany_34 rfl ?_
        refine ex_zret d_MO_isMany_38 rfl rfl ⟨_, rfl, ?_⟩
        exact ⟨rfl, (Eq.symm (zb_t (Int32.not_le.mp h1)))⟩
    · intro k hk ih
      refine ex_iload_n (a := nI k) 5 d_MO_isMany_4 rfl rfl ?_
      refine ex_iconst (v := 5) 6 d_MO_isMany_5 rfl (by decide) ?_
      refine ex_icmpge 23 9 d_MO_isMany_6 rfl rfl (fun h => absurd h (xn_nle (xn_lit 5) rfl (by omega) (by omega) (by omega))) (fun _ => ?_)
      refine ex_iload_n (a := (rSum x k)) 10 d_MO_isMany_9 rfl rfl ?_
      refine ex_iload_n (a := x) 11 d_MO_isMany_10 rfl rfl ?_
      refine ex_iload_n (a := nI k) 12 d_MO_isMany_11 rfl rfl ?_
      refine ex_ishr 13 d_MO_isMany_12 rfl ?_
      refine ex_iconst (v := 1) 14 d_MO_isMany_13 rfl (by decide) ?_
      refine ex_iand 15 d_MO_isMany_14 rfl ?_
      refine ex_iadd 16 d_MO_isMany_15 rfl ?_
      refine ex_istore_n 17 d_MO_isMany_16 rfl (Nat.le_of_ble_eq_true rfl) ?_
      refine ex_iinc (a := nI k) (v := nI (k + 1)) 20 d_MO_isMany_17 rfl rfl (xn_inc rfl) ?_
      refine ex_goto 4 d_MO_isMany_20 rfl ?_
      exact Ex.wk ih (by repeat (first | exact xs_nil | refine xs_s ?_ | refine xs_n ?_))
  refine ex_iconst (v := 0) 1 d_MO_isMany_0 rfl (by decide) ?_
  refine ex_istore_n 2 d_MO_isMany_1 rfl (Nat.le_of_ble_eq_true rfl) ?_
  refine ex_iconst (v := 0) 3 d_MO_isMany_2 rfl (by decide) ?_
  refine ex_istore_n 4 d_MO_isMany_3 rfl (Nat.le_of_ble_eq_true rfl) ?_
  exact Ex.wk (hloop0 0 (Nat.zero_le _)) (by repeat (first | exact xs_nil | refine xs_s ?_ | refine xs_n ?_))
set_option maxRecDepth 100000 in
set_option maxHeartbeats 4000000 in
theorem c_MO_begin (n : Nat) (hn5 : n < 5) : Ex G none mi_MO_begin 0 0 0 (xEn mi_MO_begin [.ref (ad (rp N 0)), .int (nI n)]) [] (LR G ad N S M) (xV (fun w => w = LR G ad N S (rBegL n M 8))) := by
  have hloop0 : ∀ x, x ≤ 8 → Ex G none mi_MO_begin 0 0 12 [some (.ref (ad (rp N 0))), some (.int (nI n)), some (.int (nI (8 * n + x)))] [] (LR G ad N S (rBegL n M x)) (xV (fun w => w = LR G ad N S (rBegL n M 8))) := by
    refine loop_down 8 ?_ ?_
    · skip
      refine ex_iload_n (a := nI (8 * n + 8)) 13 d_MO_begin_12 rfl rfl ?_
      refine ex_bipush (v := 8) 15 d_MO_begin_13 rfl (by decide) ?_
      refine ex_iload_n (a := nI n) 16 d_MO_begin_15 rfl rfl ?_
      refine ex_imulN (8 * n) 17 d_MO_begin_16 rfl (xn_lit 8) rfl (by omega) ?_
      refine ex_bipush (v := 8) 19 d_MO_begin_17 rfl (by decide) ?_
      refine ex_iaddN (8 * n + 8) 20 d_MO_begin_19 rfl rfl (xn_lit 8) (by omega) ?_
      refine ex_icmpge 50 23 d_MO_begin_20 rfl rfl (fun _ => ?_) (fun h => absurd (xn_le rfl rfl (by omega) (by omega) (by omega)) h)
      refine ex_vret d_MO_begin_50 rfl ⟨rfl, ?_⟩
      exact rfl
    · intro x hk ih
      refine ex_iload_n (a := nI (8 * n + x)) 13 d_MO_begin_12 rfl rfl ?_
      refine ex_bipush (v := 8) 15 d_MO_begin_13 rfl (by decide) ?_
      refine ex_iload_n (a := nI n) 16 d_MO_begin_15 rfl rfl ?_
      refine ex_imulN (8 * n) 17 d_MO_begin_16 rfl (xn_lit 8) rfl (by omega) ?_
      refine ex_bipush (v := 8) 19 d_MO_begin_17 rfl (by decide) ?_
      refine ex_iaddN (8 * n + 8) 20 d_MO_begin_19 rfl rfl (xn_lit 8) (by omega) ?_
      refine ex_icmpge 50 23 d_MO_begin_20 rfl rfl (fun h => absurd h (xn_nle rfl rfl (by omega) (by omega) (by omega))) (fun _ => ?_)
      refine ex_aload_n (a := ad (rp N 0)) 24 d_MO_begin_23 rfl rfl ?_
      refine xr_getR 27 d_MO_begin_24 rfl g_MO_47 (by decide) rfl rfl ?_
      refine ex_iload_n (a := nI (8 * n + x)) 28 d_MO_begin_27 rfl rfl ?_
      refine ex_iconst (v := 0) 29 d_MO_begin_28 rfl (by decide) ?_
      refine xr_iast 30 d_MO_begin_29 rfl (by decide) rfl rfl (by omega) (by omega) ?_
      refine ex_aload_n (a := ad (rp N 0)) 31 d_MO_begin_30 rfl rfl ?_
      refine xr_getR 34 d_MO_begin_31 rfl g_MO_50 (by decide) rfl rfl ?_
      refine ex_iload_n (a := nI (8 * n + x)) 35 d_MO_begin_34 rfl rfl ?_
      refine ex_iconst (v := (-1)) 36 d_MO_begin_35 rfl (by decide) ?_
      refine xr_iast 37 d_MO_begin_36 rfl (by decide) rfl rfl (by omega) (by omega) ?_
      refine ex_aload_n (a := ad (rp N 0)) 38 d_MO_begin_37 rfl rfl ?_
      refine xr_getR 41 d_MO_begin_38 rfl g_MO_56 (by decide) rfl rfl ?_
      refine ex_iload_n (a := nI (8 * n + x)) 42 d_MO_begin_41 rfl rfl ?_
      refine ex_iconst (v := 0) 43 d_MO_begin_42 rfl (by decide) ?_
      refine xr_iast 44 d_MO_begin_43 rfl (by decide) rfl rfl (by omega) (by omega) ?_
      refine ex_iinc (a := nI (8 * n + x)) (v := nI (8 * n + x + 1)) 47 d_MO_begin_44 rfl rfl (xn_inc rfl) ?_
      refine ex_goto 12 d_MO_begin_47 rfl ?_
      exact Ex.wk ih (by repeat (first | exact xs_nil | refine xs_s ?_ | refine xs_n ?_))
  refine ex_aload_n (a := ad (rp N 0)) 1 d_MO_begin_0 rfl rfl ?_
  refine xr_getR 4 d_MO_begin_1 rfl g_MO_41 (by decide) rfl rfl ?_
  refine ex_iload_n (a := nI n) 5 d_MO_begin_4 rfl rfl ?_
  refine ex_iconst (v := 0) 6 d_MO_begin_5 rfl (by decide) ?_
  refine xr_iast 7 d_MO_begin_6 rfl (by decide) rfl rfl (by omega) (by omega) ?_
  refine ex_bipush (v := 8) 9 d_MO_begin_7 rfl (by decide) ?_
  refine ex_iload_n (a := nI n) 10 d_MO_begin_9 rfl rfl ?_
  refine ex_imulN (8 * n) 11 d_MO_begin_10 rfl (xn_lit 8) rfl (by omega) ?_
  refine ex_istore_n 12 d_MO_begin_11 rfl (Nat.le_of_ble_eq_true rfl) ?_
  exact Ex.wk (hloop0 0 (Nat.zero_le _)) (by repeat (first | exact xs_nil | refine xs_s ?_ | refine xs_n ?_))
set_option maxRecDepth 100000 in
set_option maxHeartbeats 4000000 in
theorem c_MO_forget (n : Nat) (hn5 : n < 5) : Ex G none mi_MO_forget 0 0 0 (xEn mi_MO_forget [.ref (ad (rp N 0)), .int (nI n)]) [] (LR G ad N S M) (xV (fun w => w = LR G ad N S (rForget n M))) := by
  have hloop0 : ∀ x, x ≤ 8 → Ex G none mi_MO_forget 0 0 33 [some (.ref (ad (rp N 0))), some (.int (nI n)), some (.int (nI (8 * n + x)))] [] (LR G ad N S (rFgL n M x)) (xV (fun w => w = LR G ad N S (rForget n M))) := by
    refine loop_down 8 ?_ ?_
    · skip
      refine ex_iload_n (a := nI (8 * n + 8)) 34 d_MO_forget_33 rfl rfl ?_
      refine ex_bipush (v := 8) 36 d_MO_forget_34 rfl (by decide) ?_
      refine ex_iload_n (a := nI n) 37 d_MO_forget_36 rfl rfl ?_
      refine ex_imulN (8 * n) 38 d_MO_forget_37 rfl (xn_lit 8) rfl (by omega) ?_
      refine ex_bipush (v := 8) 40 d_MO_forget_38 rfl (by decide) ?_
      refine ex_iaddN (8 * n + 8) 41 d_MO_forget_40 rfl rfl (xn_lit 8) (by omega) ?_
      refine ex_icmpge 64 44 d_MO_forget_41 rfl rfl (fun _ => ?_) (fun h => absurd (xn_le rfl rfl (by omega) (by omega) (by omega)) h)
      refine ex_aload_n (a := ad (rp N 0)) 65 d_MO_forget_64 rfl rfl ?_
      refine ex_iload_n (a := nI n) 66 d_MO_forget_65 rfl rfl ?_
      refine xr_callVv [.int (nI n)] [] 69 d_MO_forget_66 rfl zv_MO_begin ⟨(Nat.le_of_ble_eq_true rfl), (Nat.le_of_ble_eq_true rfl)⟩ m_MO_79 (by decide) rfl rfl rfl (Nat.le_of_ble_eq_true rfl) rfl (Nat.le_of_ble_eq_true rfl) (c_MO_begin (S := S) (M := (rFgL n M 8)) n (by omega)) (fun ww q1 => ?_)
      rw [q1]
      refine ex_vret d_MO_forget_69 rfl ⟨rfl, ?_⟩
      exact rfl
    · intro x hk ih
      refine ex_iload_n (a := nI (8 * n + x)) 34 d_MO_forget_33 rfl rfl ?_
      refine ex_bipush (v := 8) 36 d_MO_forget_34 rfl (by decide) ?_
      refine ex_iload_n (a := nI n) 37 d_MO_forget_36 rfl rfl ?_
      refine ex_imulN (8 * n) 38 d_MO_forget_37 rfl (xn_lit 8) rfl (by omega) ?_
      refine ex_bipush (v := 8) 40 d_MO_forget_38 rfl (by decide) ?_
      refine ex_iaddN (8 * n + 8) 41 d_MO_forget_40 rfl rfl (xn_lit 8) (by omega) ?_
      refine ex_icmpge 64 44 d_MO_forget_41 rfl rfl (fun h => absurd h (xn_nle rfl rfl (by omega) (by omega) (by omega))) (fun _ => ?_)
      refine ex_aload_n (a := ad (rp N 0)) 45 d_MO_forget_44 rfl rfl ?_
      refine xr_getR 48 d_MO_forget_45 rfl g_MO_44 (by decide) rfl rfl ?_
      refine ex_iload_n (a := nI (8 * n + x)) 49 d_MO_forget_48 rfl rfl ?_
      refine ex_iconst (v := 0) 50 d_MO_forget_49 rfl (by decide) ?_
      refine xr_iast 51 d_MO_forget_50 rfl (by decide) rfl rfl (by omega) (by omega) ?_
      refine ex_aload_n (a := ad (rp N 0)) 52 d_MO_forget_51 rfl rfl ?_
      refine xr_getR 55 d_MO_forget_52 rfl g_MO_53 (by decide) rfl rfl ?_
      refine ex_iload_n (a := nI (8 * n + x)) 56 d_MO_forget_55 rfl rfl ?_
      refine ex_iconst (v := (-1)) 57 d_MO_forget_56 rfl (by decide) ?_
      refine xr_iast 58 d_MO_forget_57 rfl (by decide) rfl rfl (by omega) (by omega) ?_
      refine ex_iinc (a := nI (8 * n + x)) (v := nI (8 * n + x + 1)) 61 d_MO_forget_58 rfl rfl (xn_inc rfl) ?_
      refine ex_goto 33 d_MO_forget_61 rfl ?_
      exact Ex.wk ih (by repeat (first | exact xs_nil | refine xs_s ?_ | refine xs_n ?_))
  refine ex_aload_n (a := ad (rp N 0)) 1 d_MO_forget_0 rfl rfl ?_
  refine xr_getR 4 d_MO_forget_1 rfl g_MO_38 (by decide) rfl rfl ?_
  refine ex_iload_n (a := nI n) 5 d_MO_forget_4 rfl rfl ?_
  refine ex_iconst (v := 0) 6 d_MO_forget_5 rfl (by decide) ?_
  refine xr_iast 7 d_MO_forget_6 rfl (by decide) rfl rfl (by omega) (by omega) ?_
  refine ex_aload_n (a := ad (rp N 0)) 8 d_MO_forget_7 rfl rfl ?_
  refine xr_getR 11 d_MO_forget_8 rfl g_MO_35 (by decide) rfl rfl ?_
  refine ex_iload_n (a := nI n) 12 d_MO_forget_11 rfl rfl ?_
  refine ex_iconst (v := 0) 13 d_MO_forget_12 rfl (by decide) ?_
  refine xr_iast 14 d_MO_forget_13 rfl (by decide) rfl rfl (by omega) (by omega) ?_
  refine ex_aload_n (a := ad (rp N 0)) 15 d_MO_forget_14 rfl rfl ?_
  refine xr_getR 18 d_MO_forget_15 rfl g_MO_41 (by decide) rfl rfl ?_
  refine ex_iload_n (a := nI n) 19 d_MO_forget_18 rfl rfl ?_
  refine ex_iconst (v := 0) 20 d_MO_forget_19 rfl (by decide) ?_
  refine xr_iast 21 d_MO_forget_20 rfl (by decide) rfl rfl (by omega) (by omega) ?_
  refine ex_aload_n (a := ad (rp N 0)) 22 d_MO_forget_21 rfl rfl ?_
  refine xr_getR 25 d_MO_forget_22 rfl g_MO_29 (by decide) rfl rfl ?_
  refine ex_iload_n (a := nI n) 26 d_MO_forget_25 rfl rfl ?_
  refine ex_iconst (v := 0) 27 d_MO_forget_26 rfl (by decide) ?_
  refine xr_zast 28 d_MO_forget_27 rfl (by decide) rfl rfl (by omega) (by omega) (by decide) ?_
  refine ex_bipush (v := 8) 30 d_MO_forget_28 rfl (by decide) ?_
  refine ex_iload_n (a := nI n) 31 d_MO_forget_30 rfl rfl ?_
  refine ex_imulN (8 * n) 32 d_MO_forget_31 rfl (xn_lit 8) rfl (by omega) ?_
  refine ex_istore_n 33 d_MO_forget_32 rfl (Nat.le_of_ble_eq_true rfl) ?_
  exact Ex.wk (hloop0 0 (Nat.zero_le _)) (by repeat (first | exact xs_nil | refine xs_s ?_ | refine xs_n ?_))
set_option maxRecDepth 100000 in
set_option maxHeartbeats 4000000 in
theorem c_MO_falls (n : Nat) (hn5 : n < 5) : Ex G none mi_MO_falls 0 0 0 (xEn mi_MO_falls [.ref (ad (rp N 0)), .int (nI n)]) [] (LR G ad N S M) (xV (fun w => w = LR G ad N S (rFalls n M))) := by
  refine ex_aload_n (a := ad (rp N 0)) 1 d_MO_falls_0 rfl rfl ?_
  refine xr_getR 4 d_MO_falls_1 rfl g_MO_25 (by decide) rfl rfl ?_
  refine ex_iload_n (a := nI n) 5 d_MO_falls_4 rfl rfl ?_
  refine ex_iconst (v := 0) 6 d_MO_falls_5 rfl (by decide) ?_
  refine xr_zast 7 d_MO_falls_6 rfl (by decide) rfl rfl (by omega) (by omega) (by decide) ?_
  refine ex_aload_n (a := ad (rp N 0)) 8 d_MO_falls_7 rfl rfl ?_
  refine xr_getR 11 d_MO_falls_8 rfl g_MO_32 (by decide) rfl rfl ?_
  refine ex_iload_n (a := nI n) 12 d_MO_falls_11 rfl rfl ?_
  refine ex_iconst (v := (-1)) 13 d_MO_falls_12 rfl (by decide) ?_
  refine xr_iast 14 d_MO_falls_13 rfl (by decide) rfl rfl (by omega) (by omega) ?_
  refine ex_aload_n (a := ad (rp N 0)) 15 d_MO_falls_14 rfl rfl ?_
  refine ex_iload_n (a := nI n) 16 d_MO_falls_15 rfl rfl ?_
  refine xr_callVv [.int (nI n)] [] 19 d_MO_falls_16 rfl zv_MO_forget ⟨(Nat.le_of_ble_eq_true rfl), (Nat.le_of_ble_eq_true rfl)⟩ m_MO_75 (by decide) rfl rfl rfl (Nat.le_of_ble_eq_true rfl) rfl (Nat.le_of_ble_eq_true rfl) (c_MO_forget (S := S) (M := (u2 (u2 M 6 (n) (0)) 8 (n) ((-1)))) n (by omega)) (fun ww q1 => ?_)
  rw [q1]
  refine ex_vret d_MO_falls_19 rfl ⟨rfl, ?_⟩
  exact rfl
set_option maxRecDepth 100000 in
set_option maxHeartbeats 4000000 in
theorem c_MO_isWrong (n s : Nat) (hn5 : n < 5) (hs : s < 18) : Ex G none mi_MO_isWrong 0 0 0 (xEn mi_MO_isWrong [.ref (ad (rp N 0)), .int (nI n), .int (nI s)]) [] (LR G ad N S M) (xI (fun v w => w = LR G ad N S M ∧ v = zb (rWrF (M 5) (144 * n + 8 * s)))) := by
  refine ex_sipush (v := 144) 3 d_MO_isWrong_0 rfl (by decide) ?_
  refine ex_iload_n (a := nI n) 4 d_MO_isWrong_3 rfl rfl ?_
  refine ex_imulN (144 * n) 5 d_MO_isWrong_4 rfl (xn_lit 144) rfl (by omega) ?_
  refine ex_bipush (v := 8) 7 d_MO_isWrong_5 rfl (by decide) ?_
  refine ex_iload_n (a := nI s) 8 d_MO_isWrong_7 rfl rfl ?_
  refine ex_imulN (8 * s) 9 d_MO_isWrong_8 rfl (xn_lit 8) rfl (by omega) ?_
  refine ex_iaddN (144 * n + 8 * s) 10 d_MO_isWrong_9 rfl rfl rfl (by omega) ?_
  refine ex_istore_n 11 d_MO_isWrong_10 rfl (Nat.le_of_ble_eq_true rfl) ?_
  refine ex_iconst (v := 0) 12 d_MO_isWrong_11 rfl (by decide) ?_
  refine ex_istore 14 d_MO_isWrong_12 rfl (Nat.le_of_ble_eq_true rfl) ?_
  refine ex_iload_n (a := nI (144 * n + 8 * s)) 15 d_MO_isWrong_14 rfl rfl ?_
  refine ex_istore 17 d_MO_isWrong_15 rfl (Nat.le_of_ble_eq_true rfl) ?_
  refine ex_iload (a := nI (144 * n + 8 * s)) 19 d_MO_isWrong_17 rfl rfl ?_
  refine ex_iload_n (a := nI (144 * n + 8 * s)) 20 d_MO_isWrong_19 rfl rfl ?_
  refine ex_iconst (v := 4) 21 d_MO_isWrong_20 rfl (by decide) ?_
  refine ex_iaddN (144 * n + 8 * s + 4) 22 d_MO_isWrong_21 rfl rfl (xn_lit 4) (by omega) ?_
  refine ex_icmpge 66 25 d_MO_isWrong_22 rfl rfl (fun h => absurd h (xn_nle rfl rfl (by omega) (by omega) (by omega))) (fun _ => ?_)
  refine ex_iload (a := 0) 27 d_MO_isWrong_25 rfl rfl ?_
  refine ex_ifne 53 30 d_MO_isWrong_27 rfl rfl (fun h => absurd (by decide) h) (fun _ => ?_)
  refine ex_aload_n (a := ad (rp N 0)) 31 d_MO_isWrong_30 rfl rfl ?_
  refine xr_getR 34 d_MO_isWrong_31 rfl g_MO_22 (by decide) rfl rfl ?_
  refine ex_iload (a := nI (144 * n + 8 * s)) 36 d_MO_isWrong_34 rfl rfl ?_
  refine xr_iald 37 d_MO_isWrong_36 rfl (by decide) rfl rfl (by omega) (by omega) ?_
  refine ex_aload_n (a := ad (rp N 0)) 38 d_MO_isWrong_37 rfl rfl ?_
  refine xr_getR 41 d_MO_isWrong_38 rfl g_MO_22 (by decide) rfl rfl ?_
  refine ex_iload (a := nI (144 * n + 8 * s)) 43 d_MO_isWrong_41 rfl rfl ?_
  refine ex_iconst (v := 4) 44 d_MO_isWrong_43 rfl (by decide) ?_
  refine ex_iaddN (144 * n + 8 * s + 4) 45 d_MO_isWrong_44 rfl rfl (xn_lit 4) (by omega) ?_
  refine xr_iald 46 d_MO_isWrong_45 rfl (by decide) rfl rfl (by omega) (by omega) ?_
  refine ex_ixor 47 d_MO_isWrong_46 rfl ?_
  refine ex_sipush (v := 255) 50 d_MO_isWrong_47 rfl (by decide) ?_
  refine ex_icmpeq 57 53 d_MO_isWrong_50 rfl rfl (fun h1 => ?_) (fun h1 => ?_)
  · refine ex_iconst (v := 0) 58 d_MO_isWrong_57 rfl (by decide) ?_
    refine ex_istore 60 d_MO_isWrong_58 rfl (Nat.le_of_ble_eq_true rfl) ?_
    refine ex_iinc (a := nI (144 * n + 8 * s)) (v := nI (144 * n + 8 * s + 1)) 63 d_MO_isWrong_60 rfl rfl (xn_inc rfl) ?_
    refine ex_goto 17 d_MO_isWrong_63 rfl ?_
    refine ex_iload (a := nI (144 * n + 8 * s + 1)) 19 d_MO_isWrong_17 rfl rfl ?_
    refine ex_iload_n (a := nI (144 * n + 8 * s)) 20 d_MO_isWrong_19 rfl rfl ?_
    refine ex_iconst (v := 4) 21 d_MO_isWrong_20 rfl (by decide) ?_
    refine ex_iaddN (144 * n + 8 * s + 4) 22 d_MO_isWrong_21 rfl rfl (xn_lit 4) (by omega) ?_
    refine ex_icmpge 66 25 d_MO_isWrong_22 rfl rfl (fun h => absurd h (xn_nle rfl rfl (by omega) (by omega) (by omega))) (fun _ => ?_)
    refine ex_iload (a := 0) 27 d_MO_isWrong_25 rfl rfl ?_
    refine ex_ifne 53 30 d_MO_isWrong_27 rfl rfl (fun h => absurd (by decide) h) (fun _ => ?_)
    refine ex_aload_n (a := ad (rp N 0)) 31 d_MO_isWrong_30 rfl rfl ?_
    refine xr_getR 34 d_MO_isWrong_31 rfl g_MO_22 (by decide) rfl rfl ?_
    refine ex_iload (a := nI (144 * n + 8 * s + 1)) 36 d_MO_isWrong_34 rfl rfl ?_
    refine xr_iald 37 d_MO_isWrong_36 rfl (by decide) rfl rfl (by omega) (by omega) ?_
    refine ex_aload_n (a := ad (rp N 0)) 38 d_MO_isWrong_37 rfl rfl ?_
    refine xr_getR 41 d_MO_isWrong_38 rfl g_MO_22 (by decide) rfl rfl ?_
    refine ex_iload (a := nI (144 * n + 8 * s + 1)) 43 d_MO_isWrong_41 rfl rfl ?_
    refine ex_iconst (v := 4) 44 d_MO_isWrong_43 rfl (by decide) ?_
    refine ex_iaddN (144 * n + 8 * s + 5) 45 d_MO_isWrong_44 rfl rfl (xn_lit 4) (by omega) ?_
    refine xr_iald 46 d_MO_isWrong_45 rfl (by decide) rfl rfl (by omega) (by omega) ?_
    refine ex_ixor 47 d_MO_isWrong_46 rfl ?_
    refine ex_sipush (v := 255) 50 d_MO_isWrong_47 rfl (by decide) ?_
    refine ex_icmpeq 57 53 d_MO_isWrong_50 rfl rfl (fun h2 => ?_) (fun h2 => ?_)
    · refine ex_iconst (v := 0) 58 d_MO_isWrong_57 rfl (by decide) ?_
      refine ex_istore 60 d_MO_isWrong_58 rfl (Nat.le_of_ble_eq_true rfl) ?_
      refine ex_iinc (a := nI (144 * n + 8 * s + 1)) (v := nI (144 * n + 8 * s + 2)) 63 d_MO_isWrong_60 rfl rfl (xn_inc rfl) ?_
      refine ex_goto 17 d_MO_isWrong_63 rfl ?_
      refine ex_iload (a := nI (144 * n + 8 * s + 2)) 19 d_MO_isWrong_17 rfl rfl ?_
      refine ex_iload_n (a := nI (144 * n + 8 * s)) 20 d_MO_isWrong_19 rfl rfl ?_
      refine ex_iconst (v := 4) 21 d_MO_isWrong_20 rfl (by decide) ?_
      refine ex_iaddN (144 * n + 8 * s + 4) 22 d_MO_isWrong_21 rfl rfl (xn_lit 4) (by omega) ?_
      refine ex_icmpge 66 25 d_MO_isWrong_22 rfl rfl (fun h => absurd h (xn_nle rfl rfl (by omega) (by omega) (by omega))) (fun _ => ?_)
      refine ex_iload (a := 0) 27 d_MO_isWrong_25 rfl rfl ?_
      refine ex_ifne 53 30 d_MO_isWrong_27 rfl rfl (fun h => absurd (by decide) h) (fun _ => ?_)
      refine ex_aload_n (a := ad (rp N 0)) 31 d_MO_isWrong_30 rfl rfl ?_
      refine xr_getR 34 d_MO_isWrong_31 rfl g_MO_22 (by decide) rfl rfl ?_
      refine ex_iload (a := nI (144 * n + 8 * s + 2)) 36 d_MO_isWrong_34 rfl rfl ?_
      refine xr_iald 37 d_MO_isWrong_36 rfl (by decide) rfl rfl (by omega) (by omega) ?_
      refine ex_aload_n (a := ad (rp N 0)) 38 d_MO_isWrong_37 rfl rfl ?_
      refine xr_getR 41 d_MO_isWrong_38 rfl g_MO_22 (by decide) rfl rfl ?_
      refine ex_iload (a := nI (144 * n + 8 * s + 2)) 43 d_MO_isWrong_41 rfl rfl ?_
      refine ex_iconst (v := 4) 44 d_MO_isWrong_43 rfl (by decide) ?_
      refine ex_iaddN (144 * n + 8 * s + 6) 45 d_MO_isWrong_44 rfl rfl (xn_lit 4) (by omega) ?_
      refine xr_iald 46 d_MO_isWrong_45 rfl (by decide) rfl rfl (by omega) (by omega) ?_
      refine ex_ixor 47 d_MO_isWrong_46 rfl ?_
      refine ex_sipush (v := 255) 50 d_MO_isWrong_47 rfl (by decide) ?_
      refine ex_icmpeq 57 53 d_MO_isWrong_50 rfl rfl (fun h3 => ?_) (fun h3 => ?_)
      · refine ex_iconst (v := 0) 58 d_MO_isWrong_57 rfl (by decide) ?_
        refine ex_istore 60 d_MO_isWrong_58 rfl (Nat.le_of_ble_eq_true rfl) ?_
        refine ex_iinc (a := nI (144 * n + 8 * s + 2)) (v := nI (144 * n + 8 * s + 3)) 63 d_MO_isWrong_60 rfl rfl (xn_inc rfl) ?_
        refine ex_goto 17 d_MO_isWrong_63 rfl ?_
        refine ex_iload (a := nI (144 * n + 8 * s + 3)) 19 d_MO_isWrong_17 rfl rfl ?_
        refine ex_iload_n (a := nI (144 * n + 8 * s)) 20 d_MO_isWrong_19 rfl rfl ?_
        refine ex_iconst (v := 4) 21 d_MO_isWrong_20 rfl (by decide) ?_
        refine ex_iaddN (144 * n + 8 * s + 4) 22 d_MO_isWrong_21 rfl rfl (xn_lit 4) (by omega) ?_
        refine ex_icmpge 66 25 d_MO_isWrong_22 rfl rfl (fun h => absurd h (xn_nle rfl rfl (by omega) (by omega) (by omega))) (fun _ => ?_)
        refine ex_iload (a := 0) 27 d_MO_isWrong_25 rfl rfl ?_
        refine ex_ifne 53 30 d_MO_isWrong_27 rfl rfl (fun h => absurd (by decide) h) (fun _ => ?_)
        refine ex_aload_n (a := ad (rp N 0)) 31 d_MO_isWrong_30 rfl rfl ?_
        refine xr_getR 34 d_MO_isWrong_31 rfl g_MO_22 (by decide) rfl rfl ?_
        refine ex_iload (a := nI (144 * n + 8 * s + 3)) 36 d_MO_isWrong_34 rfl rfl ?_
        refine xr_iald 37 d_MO_isWrong_36 rfl (by decide) rfl rfl (by omega) (by omega) ?_
        refine ex_aload_n (a := ad (rp N 0)) 38 d_MO_isWrong_37 rfl rfl ?_
        refine xr_getR 41 d_MO_isWrong_38 rfl g_MO_22 (by decide) rfl rfl ?_
        refine ex_iload (a := nI (144 * n + 8 * s + 3)) 43 d_MO_isWrong_41 rfl rfl ?_
        refine ex_iconst (v := 4) 44 d_MO_isWrong_43 rfl (by decide) ?_
        refine ex_iaddN (144 * n + 8 * s + 7) 45 d_MO_isWrong_44 rfl rfl (xn_lit 4) (by omega) ?_
        refine xr_iald 46 d_MO_isWrong_45 rfl (by decide) rfl rfl (by omega) (by omega) ?_
        refine ex_ixor 47 d_MO_isWrong_46 rfl ?_
        refine ex_sipush (v := 255) 50 d_MO_isWrong_47 rfl (by decide) ?_
        refine ex_icmpeq 57 53 d_MO_isWrong_50 rfl rfl (fun h4 => ?_) (fun h4 => ?_)
        · refine ex_iconst (v := 0) 58 d_MO_isWrong_57 rfl (by decide) ?_
          refine ex_istore 60 d_MO_isWrong_58 rfl (Nat.le_of_ble_eq_true rfl) ?_
          refine ex_iinc (a := nI (144 * n + 8 * s + 3)) (v := nI (144 * n + 8 * s + 4)) 63 d_MO_isWrong_60 rfl rfl (xn_inc rfl) ?_
          refine ex_goto 17 d_MO_isWrong_63 rfl ?_
          refine ex_iload (a := nI (144 * n + 8 * s + 4)) 19 d_MO_isWrong_17 rfl rfl ?_
          refine ex_iload_n (a := nI (144 * n + 8 * s)) 20 d_MO_isWrong_19 rfl rfl ?_
          refine ex_iconst (v := 4) 21 d_MO_isWrong_20 rfl (by decide) ?_
          refine ex_iaddN (144 * n + 8 * s + 4) 22 d_MO_isWrong_21 rfl rfl (xn_lit 4) (by omega) ?_
          refine ex_icmpge 66 25 d_MO_isWrong_22 rfl rfl (fun _ => ?_) (fun h => absurd (xn_le rfl rfl (by omega) (by omega) (by omega)) h)
          refine ex_iload (a := 0) 68 d_MO_isWrong_66 rfl rfl ?_
          refine ex_zret d_MO_isWrong_68 rfl rfl ⟨_, rfl, ?_⟩
          refine ⟨rfl, ?_⟩
          exact (Eq.symm (zb_f (fun z => z ⟨h1, h2, h3, h4⟩)))
        · refine ex_iconst (v := 1) 54 d_MO_isWrong_53 rfl (by decide) ?_
          refine ex_goto 58 d_MO_isWrong_54 rfl ?_
          refine ex_istore 60 d_MO_isWrong_58 rfl (Nat.le_of_ble_eq_true rfl) ?_
          refine ex_iinc (a := nI (144 * n + 8 * s + 3)) (v := nI (144 * n + 8 * s + 4)) 63 d_MO_isWrong_60 rfl rfl (xn_inc rfl) ?_
          refine ex_goto 17 d_MO_isWrong_63 rfl ?_
          refine ex_iload (a := nI (144 * n + 8 * s + 4)) 19 d_MO_isWrong_17 rfl rfl ?_
          refine ex_iload_n (a := nI (144 * n + 8 * s)) 20 d_MO_isWrong_19 rfl rfl ?_
          refine ex_iconst (v := 4) 21 d_MO_isWrong_20 rfl (by decide) ?_
          refine ex_iaddN (144 * n + 8 * s + 4) 22 d_MO_isWrong_21 rfl rfl (xn_lit 4) (by omega) ?_
          refine ex_icmpge 66 25 d_MO_isWrong_22 rfl rfl (fun _ => ?_) (fun h => absurd (xn_le rfl rfl (by omega) (by omega) (by omega)) h)
          refine ex_iload (a := 1) 68 d_MO_isWrong_66 rfl rfl ?_
          refine ex_zret d_MO_isWrong_68 rfl rfl ⟨_, rfl, ?_⟩
          refine ⟨rfl, ?_⟩
          exact (Eq.symm (zb_t (fun z => h4 z.2.2.2)))
      · refine ex_iconst (v := 1) 54 d_MO_isWrong_53 rfl (by decide) ?_
        refine ex_goto 58 d_MO_isWrong_54 rfl ?_
        refine ex_istore 60 d_MO_isWrong_58 rfl (Nat.le_of_ble_eq_true rfl) ?_
        refine ex_iinc (a := nI (144 * n + 8 * s + 2)) (v := nI (144 * n + 8 * s + 3)) 63 d_MO_isWrong_60 rfl rfl (xn_inc rfl) ?_
        refine ex_goto 17 d_MO_isWrong_63 rfl ?_
        refine ex_iload (a := nI (144 * n + 8 * s + 3)) 19 d_MO_isWrong_17 rfl rfl ?_
        refine ex_iload_n (a := nI (144 * n + 8 * s)) 20 d_MO_isWrong_19 rfl rfl ?_
        refine ex_iconst (v := 4) 21 d_MO_isWrong_20 rfl (by decide) ?_
        refine ex_iaddN (144 * n + 8 * s + 4) 22 d_MO_isWrong_21 rfl rfl (xn_lit 4) (by omega) ?_
        refine ex_icmpge 66 25 d_MO_isWrong_22 rfl rfl (fun h => absurd h (xn_nle rfl rfl (by omega) (by omega) (by omega))) (fun _ => ?_)
        refine ex_iload (a := 1) 27 d_MO_isWrong_25 rfl rfl ?_
        refine ex_ifne 53 30 d_MO_isWrong_27 rfl rfl (fun _ => ?_) (fun h => absurd h (by decide))
        refine ex_iconst (v := 1) 54 d_MO_isWrong_53 rfl (by decide) ?_
        refine ex_goto 58 d_MO_isWrong_54 rfl ?_
        refine ex_istore 60 d_MO_isWrong_58 rfl (Nat.le_of_ble_eq_true rfl) ?_
        refine ex_iinc (a := nI (144 * n + 8 * s + 3)) (v := nI (144 * n + 8 * s + 4)) 63 d_MO_isWrong_60 rfl rfl (xn_inc rfl) ?_
        refine ex_goto 17 d_MO_isWrong_63 rfl ?_
        refine ex_iload (a := nI (144 * n + 8 * s + 4)) 19 d_MO_isWrong_17 rfl rfl ?_
        refine ex_iload_n (a := nI (144 * n + 8 * s)) 20 d_MO_isWrong_19 rfl rfl ?_
        refine ex_iconst (v := 4) 21 d_MO_isWrong_20 rfl (by decide) ?_
        refine ex_iaddN (144 * n + 8 * s + 4) 22 d_MO_isWrong_21 rfl rfl (xn_lit 4) (by omega) ?_
        refine ex_icmpge 66 25 d_MO_isWrong_22 rfl rfl (fun _ => ?_) (fun h => absurd (xn_le rfl rfl (by omega) (by omega) (by omega)) h)
        refine ex_iload (a := 1) 68 d_MO_isWrong_66 rfl rfl ?_
        refine ex_zret d_MO_isWrong_68 rfl rfl ⟨_, rfl, ?_⟩
        refine ⟨rfl, ?_⟩
        exact (Eq.symm (zb_t (fun z => h3 z.2.2.1)))
    · refine ex_iconst (v := 1) 54 d_MO_isWrong_53 rfl (by decide) ?_
      refine ex_goto 58 d_MO_isWrong_54 rfl ?_
      refine ex_istore 60 d_MO_isWrong_58 rfl (Nat.le_of_ble_eq_true rfl) ?_
      refine ex_iinc (a := nI (144 * n + 8 * s + 1)) (v := nI (144 * n + 8 * s + 2)) 63 d_MO_isWrong_60 rfl rfl (xn_inc rfl) ?_
      refine ex_goto 17 d_MO_isWrong_63 rfl ?_
      refine ex_iload (a := nI (144 * n + 8 * s + 2)) 19 d_MO_isWrong_17 rfl rfl ?_
      refine ex_iload_n (a := nI (144 * n + 8 * s)) 20 d_MO_isWrong_19 rfl rfl ?_
      refine ex_iconst (v := 4) 21 d_MO_isWrong_20 rfl (by decide) ?_
      refine ex_iaddN (144 * n + 8 * s + 4) 22 d_MO_isWrong_21 rfl rfl (xn_lit 4) (by omega) ?_
      refine ex_icmpge 66 25 d_MO_isWrong_22 rfl rfl (fun h => absurd h (xn_nle rfl rfl (by omega) (by omega) (by omega))) (fun _ => ?_)
      refine ex_iload (a := 1) 27 d_MO_isWrong_25 rfl rfl ?_
      refine ex_ifne 53 30 d_MO_isWrong_27 rfl rfl (fun _ => ?_) (fun h => absurd h (by decide))
      refine ex_iconst (v := 1) 54 d_MO_isWrong_53 rfl (by decide) ?_
      refine ex_goto 58 d_MO_isWrong_54 rfl ?_
      refine ex_istore 60 d_MO_isWrong_58 rfl (Nat.le_of_ble_eq_true rfl) ?_
      refine ex_iinc (a := nI (144 * n + 8 * s + 2)) (v := nI (144 * n + 8 * s + 3)) 63 d_MO_isWrong_60 rfl rfl (xn_inc rfl) ?_
      refine ex_goto 17 d_MO_isWrong_63 rfl ?_
      refine ex_iload (a := nI (144 * n + 8 * s + 3)) 19 d_MO_isWrong_17 rfl rfl ?_
      refine ex_iload_n (a := nI (144 * n + 8 * s)) 20 d_MO_isWrong_19 rfl rfl ?_
      refine ex_iconst (v := 4) 21 d_MO_isWrong_20 rfl (by decide) ?_
      refine ex_iaddN (144 * n + 8 * s + 4) 22 d_MO_isWrong_21 rfl rfl (xn_lit 4) (by omega) ?_
      refine ex_icmpge 66 25 d_MO_isWrong_22 rfl rfl (fun h => absurd h (xn_nle rfl rfl (by omega) (by omega) (by omega))) (fun _ => ?_)
      refine ex_iload (a := 1) 27 d_MO_isWrong_25 rfl rfl ?_
      refine ex_ifne 53 30 d_MO_isWrong_27 rfl rfl (fun _ => ?_) (fun h => absurd h (by decide))
      refine ex_iconst (v := 1) 54 d_MO_isWrong_53 rfl (by decide) ?_
      refine ex_goto 58 d_MO_isWrong_54 rfl ?_
      refine ex_istore 60 d_MO_isWrong_58 rfl (Nat.le_of_ble_eq_true rfl) ?_
      refine ex_iinc (a := nI (144 * n + 8 * s + 3)) (v := nI (144 * n + 8 * s + 4)) 63 d_MO_isWrong_60 rfl rfl (xn_inc rfl) ?_
      refine ex_goto 17 d_MO_isWrong_63 rfl ?_
      refine ex_iload (a := nI (144 * n + 8 * s + 4)) 19 d_MO_isWrong_17 rfl rfl ?_
      refine ex_iload_n (a := nI (144 * n + 8 * s)) 20 d_MO_isWrong_19 rfl rfl ?_
      refine ex_iconst (v := 4) 21 d_MO_isWrong_20 rfl (by decide) ?_
      refine ex_iaddN (144 * n + 8 * s + 4) 22 d_MO_isWrong_21 rfl rfl (xn_lit 4) (by omega) ?_
      refine ex_icmpge 66 25 d_MO_isWrong_22 rfl rfl (fun _ => ?_) (fun h => absurd (xn_le rfl rfl (by omega) (by omega) (by omega)) h)
      refine ex_iload (a := 1) 68 d_MO_isWrong_66 rfl rfl ?_
      refine ex_zret d_MO_isWrong_68 rfl rfl ⟨_, rfl, ?_⟩
      refine ⟨rfl, ?_⟩
      exact (Eq.symm (zb_t (fun z => h2 z.2.1)))
  · refine ex_iconst (v := 1) 54 d_MO_isWrong_53 rfl (by decide) ?_
    refine ex_goto 58 d_MO_isWrong_54 rfl ?_
    refine ex_istore 60 d_MO_isWrong_58 rfl (Nat.le_of_ble_eq_true rfl) ?_
    refine ex_iinc (a := nI (144 * n + 8 * s)) (v := nI (144 * n + 8 * s + 1)) 63 d_MO_isWrong_60 rfl rfl (xn_inc rfl) ?_
    refine ex_goto 17 d_MO_isWrong_63 rfl ?_
    refine ex_iload (a := nI (144 * n + 8 * s + 1)) 19 d_MO_isWrong_17 rfl rfl ?_
    refine ex_iload_n (a := nI (144 * n + 8 * s)) 20 d_MO_isWrong_19 rfl rfl ?_
    refine ex_iconst (v := 4) 21 d_MO_isWrong_20 rfl (by decide) ?_
    refine ex_iaddN (144 * n + 8 * s + 4) 22 d_MO_isWrong_21 rfl rfl (xn_lit 4) (by omega) ?_
    refine ex_icmpge 66 25 d_MO_isWrong_22 rfl rfl (fun h => absurd h (xn_nle rfl rfl (by omega) (by omega) (by omega))) (fun _ => ?_)
    refine ex_iload (a := 1) 27 d_MO_isWrong_25 rfl rfl ?_
    refine ex_ifne 53 30 d_MO_isWrong_27 rfl rfl (fun _ => ?_) (fun h => absurd h (by decide))
    refine ex_iconst (v := 1) 54 d_MO_isWrong_53 rfl (by decide) ?_
    refine ex_goto 58 d_MO_isWrong_54 rfl ?_
    refine ex_istore 60 d_MO_isWrong_58 rfl (Nat.le_of_ble_eq_true rfl) ?_
    refine ex_iinc (a := nI (144 * n + 8 * s + 1)) (v := nI (144 * n + 8 * s + 2)) 63 d_MO_isWrong_60 rfl rfl (xn_inc rfl) ?_
    refine ex_goto 17 d_MO_isWrong_63 rfl ?_
    refine ex_iload (a := nI (144 * n + 8 * s + 2)) 19 d_MO_isWrong_17 rfl rfl ?_
    refine ex_iload_n (a := nI (144 * n + 8 * s)) 20 d_MO_isWrong_19 rfl rfl ?_
    refine ex_iconst (v := 4) 21 d_MO_isWrong_20 rfl (by decide) ?_
    refine ex_iaddN (144 * n + 8 * s + 4) 22 d_MO_isWrong_21 rfl rfl (xn_lit 4) (by omega) ?_
    refine ex_icmpge 66 25 d_MO_isWrong_22 rfl rfl (fun h => absurd h (xn_nle rfl rfl (by omega) (by omega) (by omega))) (fun _ => ?_)
    refine ex_iload (a := 1) 27 d_MO_isWrong_25 rfl rfl ?_
    refine ex_ifne 53 30 d_MO_isWrong_27 rfl rfl (fun _ => ?_) (fun h => absurd h (by decide))
    refine ex_iconst (v := 1) 54 d_MO_isWrong_53 rfl (by decide) ?_
    refine ex_goto 58 d_MO_isWrong_54 rfl ?_
    refine ex_istore 60 d_MO_isWrong_58 rfl (Nat.le_of_ble_eq_true rfl) ?_
    refine ex_iinc (a := nI (144 * n + 8 * s + 2)) (v := nI (144 * n + 8 * s + 3)) 63 d_MO_isWrong_60 rfl rfl (xn_inc rfl) ?_
    refine ex_goto 17 d_MO_isWrong_63 rfl ?_
    refine ex_iload (a := nI (144 * n + 8 * s + 3)) 19 d_MO_isWrong_17 rfl rfl ?_
    refine ex_iload_n (a := nI (144 * n + 8 * s)) 20 d_MO_isWrong_19 rfl rfl ?_
    refine ex_iconst (v := 4) 21 d_MO_isWrong_20 rfl (by decide) ?_
    refine ex_iaddN (144 * n + 8 * s + 4) 22 d_MO_isWrong_21 rfl rfl (xn_lit 4) (by omega) ?_
    refine ex_icmpge 66 25 d_MO_isWrong_22 rfl rfl (fun h => absurd h (xn_nle rfl rfl (by omega) (by omega) (by omega))) (fun _ => ?_)
    refine ex_iload (a := 1) 27 d_MO_isWrong_25 rfl rfl ?_
    refine ex_ifne 53 30 d_MO_isWrong_27 rfl rfl (fun _ => ?_) (fun h => absurd h (by decide))
    refine ex_iconst (v := 1) 54 d_MO_isWrong_53 rfl (by decide) ?_
    refine ex_goto 58 d_MO_isWrong_54 rfl ?_
    refine ex_istore 60 d_MO_isWrong_58 rfl (Nat.le_of_ble_eq_true rfl) ?_
    refine ex_iinc (a := nI (144 * n + 8 * s + 3)) (v := nI (144 * n + 8 * s + 4)) 63 d_MO_isWrong_60 rfl rfl (xn_inc rfl) ?_
    refine ex_goto 17 d_MO_isWrong_63 rfl ?_
    refine ex_iload (a := nI (144 * n + 8 * s + 4)) 19 d_MO_isWrong_17 rfl rfl ?_
    refine ex_iload_n (a := nI (144 * n + 8 * s)) 20 d_MO_isWrong_19 rfl rfl ?_
    refine ex_iconst (v := 4) 21 d_MO_isWrong_20 rfl (by decide) ?_
    refine ex_iaddN (144 * n + 8 * s + 4) 22 d_MO_isWrong_21 rfl rfl (xn_lit 4) (by omega) ?_
    refine ex_icmpge 66 25 d_MO_isWrong_22 rfl rfl (fun _ => ?_) (fun h => absurd (xn_le rfl rfl (by omega) (by omega) (by omega)) h)
    refine ex_iload (a := 1) 68 d_MO_isWrong_66 rfl rfl ?_
    refine ex_zret d_MO_isWrong_68 rfl rfl ⟨_, rfl, ?_⟩
    refine ⟨rfl, ?_⟩
    exact (Eq.symm (zb_t (fun z => h1 z.1)))
set_option maxRecDepth 100000 in
set_option maxHeartbeats 4000000 in
theorem c_MO_ballotIn (n s : Nat) (hn5 : n < 5) (hs : s < 18) : Ex G none mi_MO_ballotIn 0 0 0 (xEn mi_MO_ballotIn [.ref (ad (rp N 0)), .int (nI n), .int (nI s)]) [] (LR G ad N S M) (xI (fun v w => w = LR G ad N S M ∧ v = rBal (M 5) (144 * n + 8 * s))) := by
  refine ex_sipush (v := 144) 3 d_MO_ballotIn_0 rfl (by decide) ?_
  refine ex_iload_n (a := nI n) 4 d_MO_ballotIn_3 rfl rfl ?_
  refine ex_imulN (144 * n) 5 d_MO_ballotIn_4 rfl (xn_lit 144) rfl (by omega) ?_
  refine ex_bipush (v := 8) 7 d_MO_ballotIn_5 rfl (by decide) ?_
  refine ex_iload_n (a := nI s) 8 d_MO_ballotIn_7 rfl rfl ?_
  refine ex_imulN (8 * s) 9 d_MO_ballotIn_8 rfl (xn_lit 8) rfl (by omega) ?_
  refine ex_iaddN (144 * n + 8 * s) 10 d_MO_ballotIn_9 rfl rfl rfl (by omega) ?_
  refine ex_istore_n 11 d_MO_ballotIn_10 rfl (Nat.le_of_ble_eq_true rfl) ?_
  refine ex_aload_n (a := ad (rp N 0)) 12 d_MO_ballotIn_11 rfl rfl ?_
  refine xr_getR 15 d_MO_ballotIn_12 rfl g_MO_22 (by decide) rfl rfl ?_
  refine ex_iload_n (a := nI (144 * n + 8 * s)) 16 d_MO_ballotIn_15 rfl rfl ?_
  refine ex_iconst (v := 2) 17 d_MO_ballotIn_16 rfl (by decide) ?_
  refine ex_iaddN (144 * n + 8 * s + 2) 18 d_MO_ballotIn_17 rfl rfl (xn_lit 2) (by omega) ?_
  refine xr_iald 19 d_MO_ballotIn_18 rfl (by decide) rfl rfl (by omega) (by omega) ?_
  refine ex_sipush (v := 256) 22 d_MO_ballotIn_19 rfl (by decide) ?_
  refine ex_imul 23 d_MO_ballotIn_22 rfl ?_
  refine ex_aload_n (a := ad (rp N 0)) 24 d_MO_ballotIn_23 rfl rfl ?_
  refine xr_getR 27 d_MO_ballotIn_24 rfl g_MO_22 (by decide) rfl rfl ?_
  refine ex_iload_n (a := nI (144 * n + 8 * s)) 28 d_MO_ballotIn_27 rfl rfl ?_
  refine ex_iconst (v := 3) 29 d_MO_ballotIn_28 rfl (by decide) ?_
  refine ex_iaddN (144 * n + 8 * s + 3) 30 d_MO_ballotIn_29 rfl rfl (xn_lit 3) (by omega) ?_
  refine xr_iald 31 d_MO_ballotIn_30 rfl (by decide) rfl rfl (by omega) (by omega) ?_
  refine ex_iadd 32 d_MO_ballotIn_31 rfl ?_
  refine ex_iret d_MO_ballotIn_32 rfl ⟨_, rfl, ?_⟩
  exact ⟨rfl, rfl⟩
set_option maxRecDepth 100000 in
set_option maxHeartbeats 4000000 in
theorem c_MO_write (n s : Nat) (hn5 : n < 5) (hs : s < 18) (x y c : Int32) : Ex G none mi_MO_write 0 0 0 (xEn mi_MO_write [.ref (ad (rp N 0)), .int (nI n), .int (nI s), .int x, .int y, .int c]) [] (LR G ad N S M) (xI (fun v w => w = LR G ad N S (rWr n s x y c M) ∧ v = zb (rWrOk n M))) := by
  refine ex_sipush (v := 144) 3 d_MO_write_0 rfl (by decide) ?_
  refine ex_iload_n (a := nI n) 4 d_MO_write_3 rfl rfl ?_
  refine ex_imulN (144 * n) 5 d_MO_write_4 rfl (xn_lit 144) rfl (by omega) ?_
  refine ex_bipush (v := 8) 7 d_MO_write_5 rfl (by decide) ?_
  refine ex_iload_n (a := nI s) 8 d_MO_write_7 rfl rfl ?_
  refine ex_imulN (8 * s) 9 d_MO_write_8 rfl (xn_lit 8) rfl (by omega) ?_
  refine ex_iaddN (144 * n + 8 * s) 10 d_MO_write_9 rfl rfl rfl (by omega) ?_
  refine ex_istore 12 d_MO_write_10 rfl (Nat.le_of_ble_eq_true rfl) ?_
  refine ex_aload_n (a := ad (rp N 0)) 13 d_MO_write_12 rfl rfl ?_
  refine xr_getR 16 d_MO_write_13 rfl g_MO_32 (by decide) rfl rfl ?_
  refine ex_iload_n (a := nI n) 17 d_MO_write_16 rfl rfl ?_
  refine xr_iald 18 d_MO_write_17 rfl (by decide) rfl rfl (by omega) (by omega) ?_
  refine ex_ifne 25 21 d_MO_write_18 rfl rfl (fun h1 => ?_) (fun h1 => ?_)
  · refine ex_iconst (v := 0) 26 d_MO_write_25 rfl (by decide) ?_
    refine ex_istore 28 d_MO_write_26 rfl (Nat.le_of_ble_eq_true rfl) ?_
    refine ex_aload_n (a := ad (rp N 0)) 29 d_MO_write_28 rfl rfl ?_
    refine xr_getR 32 d_MO_write_29 rfl g_MO_32 (by decide) rfl rfl ?_
    refine ex_iload_n (a := nI n) 33 d_MO_write_32 rfl rfl ?_
    refine ex_dup2 34 d_MO_write_33 rfl rfl rfl ?_
    refine xr_iald 35 d_MO_write_34 rfl (by decide) rfl rfl (by omega) (by omega) ?_
    refine ex_aload_n (a := ad (rp N 0)) 36 d_MO_write_35 rfl rfl ?_
    refine xr_getR 39 d_MO_write_36 rfl g_MO_32 (by decide) rfl rfl ?_
    refine ex_iload_n (a := nI n) 40 d_MO_write_39 rfl rfl ?_
    refine xr_iald 41 d_MO_write_40 rfl (by decide) rfl rfl (by omega) (by omega) ?_
    refine ex_ifle 48 44 d_MO_write_41 rfl rfl (fun h2 => ?_) (fun h2 => ?_)
    · refine ex_iconst (v := 0) 49 d_MO_write_48 rfl (by decide) ?_
      refine ex_isub 50 d_MO_write_49 rfl ?_
      refine xr_iast 51 d_MO_write_50 rfl (by decide) rfl rfl (by omega) (by omega) ?_
      refine ex_iconst (v := 0) 52 d_MO_write_51 rfl (by decide) ?_
      refine ex_istore 54 d_MO_write_52 rfl (Nat.le_of_ble_eq_true rfl) ?_
      refine Ex.wk (L' := [some (.ref (ad (rp N 0))), some (.int (nI n)), some (.int (nI s)), some (.int x), some (.int y), some (.int c), some (.int (nI (144 * n + 8 * s))), some (.int 0), some (.int 0), none]) ?_ (by repeat (first | exact xs_nil | refine xs_s ?_ | refine xs_n ?_))
      refine ex_iload (a := 0) 56 d_MO_write_54 rfl rfl ?_
      refine ex_iconst (v := 4) 57 d_MO_write_56 rfl (by decide) ?_
      refine ex_icmpge 159 60 d_MO_write_57 rfl rfl (fun h => absurd h (by decide)) (fun _ => ?_)
      refine ex_iload (a := 0) 62 d_MO_write_60 rfl rfl ?_
      refine ex_ifne 69 65 d_MO_write_62 rfl rfl (fun h => absurd (by decide) h) (fun _ => ?_)
      refine ex_iload_n (a := x) 66 d_MO_write_65 rfl rfl ?_
      refine ex_goto 101 d_MO_write_66 rfl ?_
      refine ex_istore 103 d_MO_write_101 rfl (Nat.le_of_ble_eq_true rfl) ?_
      refine ex_aload_n (a := ad (rp N 0)) 104 d_MO_write_103 rfl rfl ?_
      refine xr_getR 107 d_MO_write_104 rfl g_MO_22 (by decide) rfl rfl ?_
      refine ex_iload (a := nI (144 * n + 8 * s)) 109 d_MO_write_107 rfl rfl ?_
      refine ex_iload (a := 0) 111 d_MO_write_109 rfl rfl ?_
      refine ex_iaddN (144 * n + 8 * s) 112 d_MO_write_111 rfl rfl (xn_lit 0) (by omega) ?_
      refine ex_iload (a := x) 114 d_MO_write_112 rfl rfl ?_
      refine xr_iast 115 d_MO_write_114 rfl (by decide) rfl rfl (by omega) (by omega) ?_
      refine ex_aload_n (a := ad (rp N 0)) 116 d_MO_write_115 rfl rfl ?_
      refine xr_getR 119 d_MO_write_116 rfl g_MO_22 (by decide) rfl rfl ?_
      refine ex_iload (a := nI (144 * n + 8 * s)) 121 d_MO_write_119 rfl rfl ?_
      refine ex_iconst (v := 4) 122 d_MO_write_121 rfl (by decide) ?_
      refine ex_iaddN (144 * n + 8 * s + 4) 123 d_MO_write_122 rfl rfl (xn_lit 4) (by omega) ?_
      refine ex_iload (a := 0) 125 d_MO_write_123 rfl rfl ?_
      refine ex_iaddN (144 * n + 8 * s + 4) 126 d_MO_write_125 rfl rfl (xn_lit 0) (by omega) ?_
      refine ex_iload (a := 0) 128 d_MO_write_126 rfl rfl ?_
      refine ex_ifeq 146 131 d_MO_write_128 rfl rfl (fun _ => ?_) (fun h => absurd (by decide) h)
      refine ex_sipush (v := 255) 149 d_MO_write_146 rfl (by decide) ?_
      refine ex_iload (a := x) 151 d_MO_write_149 rfl rfl ?_
      refine ex_isub 152 d_MO_write_151 rfl ?_
      refine xr_iast 153 d_MO_write_152 rfl (by decide) rfl rfl (by omega) (by omega) ?_
      refine ex_iinc (a := 0) (v := nI (1)) 156 d_MO_write_153 rfl rfl (xn_inc (xn_lit 0)) ?_
      refine ex_goto 54 d_MO_write_156 rfl ?_
      refine Ex.wk (L' := [some (.ref (ad (rp N 0))), some (.int (nI n)), some (.int (nI s)), some (.int x), some (.int y), some (.int c), some (.int (nI (144 * n + 8 * s))), some (.int 0), some (.int (nI (1))), some (.int x)]) ?_ (by repeat (first | exact xs_nil | refine xs_s ?_ | refine xs_n ?_))
      refine ex_iload (a := nI (1)) 56 d_MO_write_54 rfl rfl ?_
      refine ex_iconst (v := 4) 57 d_MO_write_56 rfl (by decide) ?_
      refine ex_icmpge 159 60 d_MO_write_57 rfl rfl (fun h => absurd h (xn_nle (xn_lit 4) rfl (by omega) (by omega) (by omega))) (fun _ => ?_)
      refine ex_iload (a := nI (1)) 62 d_MO_write_60 rfl rfl ?_
      refine ex_ifne 69 65 d_MO_write_62 rfl rfl (fun _ => ?_) (fun h => absurd h (xn_ne rfl (xn_lit 0) (by omega) (by omega) (by omega)))
      refine ex_iload (a := nI (1)) 71 d_MO_write_69 rfl rfl ?_
      refine ex_iconst (v := 1) 72 d_MO_write_71 rfl (by decide) ?_
      refine ex_icmpne 80 75 d_MO_write_72 rfl rfl (fun h => absurd (xn_eq rfl (xn_lit 1) (by omega)) h) (fun _ => ?_)
      refine ex_iload (a := y) 77 d_MO_write_75 rfl rfl ?_
      refine ex_goto 101 d_MO_write_77 rfl ?_
      refine ex_istore 103 d_MO_write_101 rfl (Nat.le_of_ble_eq_true rfl) ?_
      refine ex_aload_n (a := ad (rp N 0)) 104 d_MO_write_103 rfl rfl ?_
      refine xr_getR 107 d_MO_write_104 rfl g_MO_22 (by decide) rfl rfl ?_
      refine ex_iload (a := nI (144 * n + 8 * s)) 109 d_MO_write_107 rfl rfl ?_
      refine ex_iload (a := nI (1)) 111 d_MO_write_109 rfl rfl ?_
      refine ex_iaddN (144 * n + 8 * s + 1) 112 d_MO_write_111 rfl rfl rfl (by omega) ?_
      refine ex_iload (a := y) 114 d_MO_write_112 rfl rfl ?_
      refine xr_iast 115 d_MO_write_114 rfl (by decide) rfl rfl (by omega) (by omega) ?_
      refine ex_aload_n (a := ad (rp N 0)) 116 d_MO_write_115 rfl rfl ?_
      refine xr_getR 119 d_MO_write_116 rfl g_MO_22 (by decide) rfl rfl ?_
      refine ex_iload (a := nI (144 * n + 8 * s)) 121 d_MO_write_119 rfl rfl ?_
      refine ex_iconst (v := 4) 122 d_MO_write_121 rfl (by decide) ?_
      refine ex_iaddN (144 * n + 8 * s + 4) 123 d_MO_write_122 rfl rfl (xn_lit 4) (by omega) ?_
      refine ex_iload (a := nI (1)) 125 d_MO_write_123 rfl rfl ?_
      refine ex_iaddN (144 * n + 8 * s + 5) 126 d_MO_write_125 rfl rfl rfl (by omega) ?_
      refine ex_iload (a := 0) 128 d_MO_write_126 rfl rfl ?_
      refine ex_ifeq 146 131 d_MO_write_128 rfl rfl (fun _ => ?_) (fun h => absurd (by decide) h)
      refine ex_sipush (v := 255) 149 d_MO_write_146 rfl (by decide) ?_
      refine ex_iload (a := y) 151 d_MO_write_149 rfl rfl ?_
      refine ex_isub 152 d_MO_write_151 rfl ?_
      refine xr_iast 153 d_MO_write_152 rfl (by decide) rfl rfl (by omega) (by omega) ?_
      refine ex_iinc (a := nI (1)) (v := nI (2)) 156 d_MO_write_153 rfl rfl (xn_inc rfl) ?_
      refine ex_goto 54 d_MO_write_156 rfl ?_
      refine Ex.wk (L' := [some (.ref (ad (rp N 0))), some (.int (nI n)), some (.int (nI s)), some (.int x), some (.int y), some (.int c), some (.int (nI (144 * n + 8 * s))), some (.int 0), some (.int (nI (2))), some (.int y)]) ?_ (by repeat (first | exact xs_nil | refine xs_s ?_ | refine xs_n ?_))
      refine ex_iload (a := nI (2)) 56 d_MO_write_54 rfl rfl ?_
      refine ex_iconst (v := 4) 57 d_MO_write_56 rfl (by decide) ?_
      refine ex_icmpge 159 60 d_MO_write_57 rfl rfl (fun h => absurd h (xn_nle (xn_lit 4) rfl (by omega) (by omega) (by omega))) (fun _ => ?_)
      refine ex_iload (a := nI (2)) 62 d_MO_write_60 rfl rfl ?_
      refine ex_ifne 69 65 d_MO_write_62 rfl rfl (fun _ => ?_) (fun h => absurd h (xn_ne rfl (xn_lit 0) (by omega) (by omega) (by omega)))
      refine ex_iload (a := nI (2)) 71 d_MO_write_69 rfl rfl ?_
      refine ex_iconst (v := 1) 72 d_MO_write_71 rfl (by decide) ?_
      refine ex_icmpne 80 75 d_MO_write_72 rfl rfl (fun _ => ?_) (fun h => absurd h (xn_ne rfl (xn_lit 1) (by omega) (by omega) (by omega)))
      refine ex_iload (a := nI (2)) 82 d_MO_write_80 rfl rfl ?_
      refine ex_iconst (v := 2) 83 d_MO_write_82 rfl (by decide) ?_
      refine ex_icmpne 95 86 d_MO_write_83 rfl rfl (fun h => absurd (xn_eq rfl (xn_lit 2) (by omega)) h) (fun _ => ?_)
      refine ex_iload (a := c) 88 d_MO_write_86 rfl rfl ?_
      refine ex_sipush (v := 256) 91 d_MO_write_88 rfl (by decide) ?_
      refine ex_idiv 92 d_MO_write_91 rfl (by decide) ?_
      refine ex_goto 101 d_MO_write_92 rfl ?_
      refine ex_istore 103 d_MO_write_101 rfl (Nat.le_of_ble_eq_true rfl) ?_
      refine ex_aload_n (a := ad (rp N 0)) 104 d_MO_write_103 rfl rfl ?_
      refine xr_getR 107 d_MO_write_104 rfl g_MO_22 (by decide) rfl rfl ?_
      refine ex_iload (a := nI (144 * n + 8 * s)) 109 d_MO_write_107 rfl rfl ?_
      refine ex_iload (a := nI (2)) 111 d_MO_write_109 rfl rfl ?_
      refine ex_iaddN (144 * n + 8 * s + 2) 112 d_MO_write_111 rfl rfl rfl (by omega) ?_
      refine ex_iload (a := (c / 256)) 114 d_MO_write_112 rfl rfl ?_
      refine xr_iast 115 d_MO_write_114 rfl (by decide) rfl rfl (by omega) (by omega) ?_
      refine ex_aload_n (a := ad (rp N 0)) 116 d_MO_write_115 rfl rfl ?_
      refine xr_getR 119 d_MO_write_116 rfl g_MO_22 (by decide) rfl rfl ?_
      refine ex_iload (a := nI (144 * n + 8 * s)) 121 d_MO_write_119 rfl rfl ?_
      refine ex_iconst (v := 4) 122 d_MO_write_121 rfl (by decide) ?_
      refine ex_iaddN (144 * n + 8 * s + 4) 123 d_MO_write_122 rfl rfl (xn_lit 4) (by omega) ?_
      refine ex_iload (a := nI (2)) 125 d_MO_write_123 rfl rfl ?_
      refine ex_iaddN (144 * n + 8 * s + 6) 126 d_MO_write_125 rfl rfl rfl (by omega) ?_
      refine ex_iload (a := 0) 128 d_MO_write_126 rfl rfl ?_
      refine ex_ifeq 146 131 d_MO_write_128 rfl rfl (fun _ => ?_) (fun h => absurd (by decide) h)
      refine ex_sipush (v := 255) 149 d_MO_write_146 rfl (by decide) ?_
      refine ex_iload (a := (c / 256)) 151 d_MO_write_149 rfl rfl ?_
      refine ex_isub 152 d_MO_write_151 rfl ?_
      refine xr_iast 153 d_MO_write_152 rfl (by decide) rfl rfl (by omega) (by omega) ?_
      refine ex_iinc (a := nI (2)) (v := nI (3)) 156 d_MO_write_153 rfl rfl (xn_inc rfl) ?_
      refine ex_goto 54 d_MO_write_156 rfl ?_
      refine Ex.wk (L' := [some (.ref (ad (rp N 0))), some (.int (nI n)), some (.int (nI s)), some (.int x), some (.int y), some (.int c), some (.int (nI (144 * n + 8 * s))), some (.int 0), some (.int (nI (3))), some (.int ((c / 256)))]) ?_ (by repeat (first | exact xs_nil | refine xs_s ?_ | refine xs_n ?_))
      refine ex_iload (a := nI (3)) 56 d_MO_write_54 rfl rfl ?_
      refine ex_iconst (v := 4) 57 d_MO_write_56 rfl (by decide) ?_
      refine ex_icmpge 159 60 d_MO_write_57 rfl rfl (fun h => absurd h (xn_nle (xn_lit 4) rfl (by omega) (by omega) (by omega))) (fun _ => ?_)
      refine ex_iload (a := nI (3)) 62 d_MO_write_60 rfl rfl ?_
      refine ex_ifne 69 65 d_MO_write_62 rfl rfl (fun _ => ?_) (fun h => absurd h (xn_ne rfl (xn_lit 0) (by omega) (by omega) (by omega)))
      refine ex_iload (a := nI (3)) 71 d_MO_write_69 rfl rfl ?_
      refine ex_iconst (v := 1) 72 d_MO_write_71 rfl (by decide) ?_
      refine ex_icmpne 80 75 d_MO_write_72 rfl rfl (fun _ => ?_) (fun h => absurd h (xn_ne rfl (xn_lit 1) (by omega) (by omega) (by omega)))
      refine ex_iload (a := nI (3)) 82 d_MO_write_80 rfl rfl ?_
      refine ex_iconst (v := 2) 83 d_MO_write_82 rfl (by decide) ?_
      refine ex_icmpne 95 86 d_MO_write_83 rfl rfl (fun _ => ?_) (fun h => absurd h (xn_ne rfl (xn_lit 2) (by omega) (by omega) (by omega)))
      refine ex_iload (a := c) 97 d_MO_write_95 rfl rfl ?_
      refine ex_sipush (v := 256) 100 d_MO_write_97 rfl (by decide) ?_
      refine ex_irem 101 d_MO_write_100 rfl (by decide) ?_
      refine ex_istore 103 d_MO_write_101 rfl (Nat.le_of_ble_eq_true rfl) ?_
      refine ex_aload_n (a := ad (rp N 0)) 104 d_MO_write_103 rfl rfl ?_
      refine xr_getR 107 d_MO_write_104 rfl g_MO_22 (by decide) rfl rfl ?_
      refine ex_iload (a := nI (144 * n + 8 * s)) 109 d_MO_write_107 rfl rfl ?_
      refine ex_iload (a := nI (3)) 111 d_MO_write_109 rfl rfl ?_
      refine ex_iaddN (144 * n + 8 * s + 3) 112 d_MO_write_111 rfl rfl rfl (by omega) ?_
      refine ex_iload (a := (c - c / 256 * 256)) 114 d_MO_write_112 rfl rfl ?_
      refine xr_iast 115 d_MO_write_114 rfl (by decide) rfl rfl (by omega) (by omega) ?_
      refine ex_aload_n (a := ad (rp N 0)) 116 d_MO_write_115 rfl rfl ?_
      refine xr_getR 119 d_MO_write_116 rfl g_MO_22 (by decide) rfl rfl ?_
      refine ex_iload (a := nI (144 * n + 8 * s)) 121 d_MO_write_119 rfl rfl ?_
      refine ex_iconst (v := 4) 122 d_MO_write_121 rfl (by decide) ?_
      refine ex_iaddN (144 * n + 8 * s + 4) 123 d_MO_write_122 rfl rfl (xn_lit 4) (by omega) ?_
      refine ex_iload (a := nI (3)) 125 d_MO_write_123 rfl rfl ?_
      refine ex_iaddN (144 * n + 8 * s + 7) 126 d_MO_write_125 rfl rfl rfl (by omega) ?_
      refine ex_iload (a := 0) 128 d_MO_write_126 rfl rfl ?_
      refine ex_ifeq 146 131 d_MO_write_128 rfl rfl (fun _ => ?_) (fun h => absurd (by decide) h)
      refine ex_sipush (v := 255) 149 d_MO_write_146 rfl (by decide) ?_
      refine ex_iload (a := (c - c / 256 * 256)) 151 d_MO_write_149 rfl rfl ?_
      refine ex_isub 152 d_MO_write_151 rfl ?_
      refine xr_iast 153 d_MO_write_152 rfl (by decide) rfl rfl (by omega) (by omega) ?_
      refine ex_iinc (a := nI (3)) (v := nI (4)) 156 d_MO_write_153 rfl rfl (xn_inc rfl) ?_
      refine ex_goto 54 d_MO_write_156 rfl ?_
      refine Ex.wk (L' := [some (.ref (ad (rp N 0))), some (.int (nI n)), some (.int (nI s)), some (.int x), some (.int y), some (.int c), some (.int (nI (144 * n + 8 * s))), some (.int 0), some (.int (nI (4))), some (.int ((c - c / 256 * 256)))]) ?_ (by repeat (first | exact xs_nil | refine xs_s ?_ | refine xs_n ?_))
      refine ex_iload (a := nI (4)) 56 d_MO_write_54 rfl rfl ?_
      refine ex_iconst (v := 4) 57 d_MO_write_56 rfl (by decide) ?_
      refine ex_icmpge 159 60 d_MO_write_57 rfl rfl (fun _ => ?_) (fun h => absurd (xn_le (xn_lit 4) rfl (by omega) (by omega) (by omega)) h)
      refine ex_iload (a := 0) 161 d_MO_write_159 rfl rfl ?_
      refine ex_ifeq 169 164 d_MO_write_161 rfl rfl (fun _ => ?_) (fun h => absurd (by decide) h)
      refine ex_iload (a := 0) 171 d_MO_write_169 rfl rfl ?_
      refine ex_ifne 178 174 d_MO_write_171 rfl rfl (fun h => absurd (by decide) h) (fun _ => ?_)
      refine ex_iconst (v := 1) 175 d_MO_write_174 rfl (by decide) ?_
      refine ex_goto 179 d_MO_write_175 rfl ?_
      refine ex_zret d_MO_write_179 rfl rfl ⟨_, rfl, ?_⟩
      refine ⟨?_, (Eq.symm (zb_t h1))⟩
      unfold rWr; rw [if_neg h1, if_pos h2]; rfl
    · refine ex_iconst (v := 1) 45 d_MO_write_44 rfl (by decide) ?_
      refine ex_goto 49 d_MO_write_45 rfl ?_
      refine ex_isub 50 d_MO_write_49 rfl ?_
      refine xr_iast 51 d_MO_write_50 rfl (by decide) rfl rfl (by omega) (by omega) ?_
      refine ex_iconst (v := 0) 52 d_MO_write_51 rfl (by decide) ?_
      refine ex_istore 54 d_MO_write_52 rfl (Nat.le_of_ble_eq_true rfl) ?_
      refine Ex.wk (L' := [some (.ref (ad (rp N 0))), some (.int (nI n)), some (.int (nI s)), some (.int x), some (.int y), some (.int c), some (.int (nI (144 * n + 8 * s))), some (.int 0), some (.int 0), none]) ?_ (by repeat (first | exact xs_nil | refine xs_s ?_ | refine xs_n ?_))
      refine ex_iload (a := 0) 56 d_MO_write_54 rfl rfl ?_
      refine ex_iconst (v := 4) 57 d_MO_write_56 rfl (by decide) ?_
      refine ex_icmpge 159 60 d_MO_write_57 rfl rfl (fun h => absurd h (by decide)) (fun _ => ?_)
      refine ex_iload (a := 0) 62 d_MO_write_60 rfl rfl ?_
      refine ex_ifne 69 65 d_MO_write_62 rfl rfl (fun h => absurd (by decide) h) (fun _ => ?_)
      refine ex_iload_n (a := x) 66 d_MO_write_65 rfl rfl ?_
      refine ex_goto 101 d_MO_write_66 rfl ?_
      refine ex_istore 103 d_MO_write_101 rfl (Nat.le_of_ble_eq_true rfl) ?_
      refine ex_aload_n (a := ad (rp N 0)) 104 d_MO_write_103 rfl rfl ?_
      refine xr_getR 107 d_MO_write_104 rfl g_MO_22 (by decide) rfl rfl ?_
      refine ex_iload (a := nI (144 * n + 8 * s)) 109 d_MO_write_107 rfl rfl ?_
      refine ex_iload (a := 0) 111 d_MO_write_109 rfl rfl ?_
      refine ex_iaddN (144 * n + 8 * s) 112 d_MO_write_111 rfl rfl (xn_lit 0) (by omega) ?_
      refine ex_iload (a := x) 114 d_MO_write_112 rfl rfl ?_
      refine xr_iast 115 d_MO_write_114 rfl (by decide) rfl rfl (by omega) (by omega) ?_
      refine ex_aload_n (a := ad (rp N 0)) 116 d_MO_write_115 rfl rfl ?_
      refine xr_getR 119 d_MO_write_116 rfl g_MO_22 (by decide) rfl rfl ?_
      refine ex_iload (a := nI (144 * n + 8 * s)) 121 d_MO_write_119 rfl rfl ?_
      refine ex_iconst (v := 4) 122 d_MO_write_121 rfl (by decide) ?_
      refine ex_iaddN (144 * n + 8 * s + 4) 123 d_MO_write_122 rfl rfl (xn_lit 4) (by omega) ?_
      refine ex_iload (a := 0) 125 d_MO_write_123 rfl rfl ?_
      refine ex_iaddN (144 * n + 8 * s + 4) 126 d_MO_write_125 rfl rfl (xn_lit 0) (by omega) ?_
      refine ex_iload (a := 0) 128 d_MO_write_126 rfl rfl ?_
      refine ex_ifeq 146 131 d_MO_write_128 rfl rfl (fun _ => ?_) (fun h => absurd (by decide) h)
      refine ex_sipush (v := 255) 149 d_MO_write_146 rfl (by decide) ?_
      refine ex_iload (a := x) 151 d_MO_write_149 rfl rfl ?_
      refine ex_isub 152 d_MO_write_151 rfl ?_
      refine xr_iast 153 d_MO_write_152 rfl (by decide) rfl rfl (by omega) (by omega) ?_
      refine ex_iinc (a := 0) (v := nI (1)) 156 d_MO_write_153 rfl rfl (xn_inc (xn_lit 0)) ?_
      refine ex_goto 54 d_MO_write_156 rfl ?_
      refine Ex.wk (L' := [some (.ref (ad (rp N 0))), some (.int (nI n)), some (.int (nI s)), some (.int x), some (.int y), some (.int c), some (.int (nI (144 * n + 8 * s))), some (.int 0), some (.int (nI (1))), some (.int x)]) ?_ (by repeat (first | exact xs_nil | refine xs_s ?_ | refine xs_n ?_))
      refine ex_iload (a := nI (1)) 56 d_MO_write_54 rfl rfl ?_
      refine ex_iconst (v := 4) 57 d_MO_write_56 rfl (by decide) ?_
      refine ex_icmpge 159 60 d_MO_write_57 rfl rfl (fun h => absurd h (xn_nle (xn_lit 4) rfl (by omega) (by omega) (by omega))) (fun _ => ?_)
      refine ex_iload (a := nI (1)) 62 d_MO_write_60 rfl rfl ?_
      refine ex_ifne 69 65 d_MO_write_62 rfl rfl (fun _ => ?_) (fun h => absurd h (xn_ne rfl (xn_lit 0) (by omega) (by omega) (by omega)))
      refine ex_iload (a := nI (1)) 71 d_MO_write_69 rfl rfl ?_
      refine ex_iconst (v := 1) 72 d_MO_write_71 rfl (by decide) ?_
      refine ex_icmpne 80 75 d_MO_write_72 rfl rfl (fun h => absurd (xn_eq rfl (xn_lit 1) (by omega)) h) (fun _ => ?_)
      refine ex_iload (a := y) 77 d_MO_write_75 rfl rfl ?_
      refine ex_goto 101 d_MO_write_77 rfl ?_
      refine ex_istore 103 d_MO_write_101 rfl (Nat.le_of_ble_eq_true rfl) ?_
      refine ex_aload_n (a := ad (rp N 0)) 104 d_MO_write_103 rfl rfl ?_
      refine xr_getR 107 d_MO_write_104 rfl g_MO_22 (by decide) rfl rfl ?_
      refine ex_iload (a := nI (144 * n + 8 * s)) 109 d_MO_write_107 rfl rfl ?_
      refine ex_iload (a := nI (1)) 111 d_MO_write_109 rfl rfl ?_
      refine ex_iaddN (144 * n + 8 * s + 1) 112 d_MO_write_111 rfl rfl rfl (by omega) ?_
      refine ex_iload (a := y) 114 d_MO_write_112 rfl rfl ?_
      refine xr_iast 115 d_MO_write_114 rfl (by decide) rfl rfl (by omega) (by omega) ?_
      refine ex_aload_n (a := ad (rp N 0)) 116 d_MO_write_115 rfl rfl ?_
      refine xr_getR 119 d_MO_write_116 rfl g_MO_22 (by decide) rfl rfl ?_
      refine ex_iload (a := nI (144 * n + 8 * s)) 121 d_MO_write_119 rfl rfl ?_
      refine ex_iconst (v := 4) 122 d_MO_write_121 rfl (by decide) ?_
      refine ex_iaddN (144 * n + 8 * s + 4) 123 d_MO_write_122 rfl rfl (xn_lit 4) (by omega) ?_
      refine ex_iload (a := nI (1)) 125 d_MO_write_123 rfl rfl ?_
      refine ex_iaddN (144 * n + 8 * s + 5) 126 d_MO_write_125 rfl rfl rfl (by omega) ?_
      refine ex_iload (a := 0) 128 d_MO_write_126 rfl rfl ?_
      refine ex_ifeq 146 131 d_MO_write_128 rfl rfl (fun _ => ?_) (fun h => absurd (by decide) h)
      refine ex_sipush (v := 255) 149 d_MO_write_146 rfl (by decide) ?_
      refine ex_iload (a := y) 151 d_MO_write_149 rfl rfl ?_
      refine ex_isub 152 d_MO_write_151 rfl ?_
      refine xr_iast 153 d_MO_write_152 rfl (by decide) rfl rfl (by omega) (by omega) ?_
      refine ex_iinc (a := nI (1)) (v := nI (2)) 156 d_MO_write_153 rfl rfl (xn_inc rfl) ?_
      refine ex_goto 54 d_MO_write_156 rfl ?_
      refine Ex.wk (L' := [some (.ref (ad (rp N 0))), some (.int (nI n)), some (.int (nI s)), some (.int x), some (.int y), some (.int c), some (.int (nI (144 * n + 8 * s))), some (.int 0), some (.int (nI (2))), some (.int y)]) ?_ (by repeat (first | exact xs_nil | refine xs_s ?_ | refine xs_n ?_))
      refine ex_iload (a := nI (2)) 56 d_MO_write_54 rfl rfl ?_
      refine ex_iconst (v := 4) 57 d_MO_write_56 rfl (by decide) ?_
      refine ex_icmpge 159 60 d_MO_write_57 rfl rfl (fun h => absurd h (xn_nle (xn_lit 4) rfl (by omega) (by omega) (by omega))) (fun _ => ?_)
      refine ex_iload (a := nI (2)) 62 d_MO_write_60 rfl rfl ?_
      refine ex_ifne 69 65 d_MO_write_62 rfl rfl (fun _ => ?_) (fun h => absurd h (xn_ne rfl (xn_lit 0) (by omega) (by omega) (by omega)))
      refine ex_iload (a := nI (2)) 71 d_MO_write_69 rfl rfl ?_
      refine ex_iconst (v := 1) 72 d_MO_write_71 rfl (by decide) ?_
      refine ex_icmpne 80 75 d_MO_write_72 rfl rfl (fun _ => ?_) (fun h => absurd h (xn_ne rfl (xn_lit 1) (by omega) (by omega) (by omega)))
      refine ex_iload (a := nI (2)) 82 d_MO_write_80 rfl rfl ?_
      refine ex_iconst (v := 2) 83 d_MO_write_82 rfl (by decide) ?_
      refine ex_icmpne 95 86 d_MO_write_83 rfl rfl (fun h => absurd (xn_eq rfl (xn_lit 2) (by omega)) h) (fun _ => ?_)
      refine ex_iload (a := c) 88 d_MO_write_86 rfl rfl ?_
      refine ex_sipush (v := 256) 91 d_MO_write_88 rfl (by decide) ?_
      refine ex_idiv 92 d_MO_write_91 rfl (by decide) ?_
      refine ex_goto 101 d_MO_write_92 rfl ?_
      refine ex_istore 103 d_MO_write_101 rfl (Nat.le_of_ble_eq_true rfl) ?_
      refine ex_aload_n (a := ad (rp N 0)) 104 d_MO_write_103 rfl rfl ?_
      refine xr_getR 107 d_MO_write_104 rfl g_MO_22 (by decide) rfl rfl ?_
      refine ex_iload (a := nI (144 * n + 8 * s)) 109 d_MO_write_107 rfl rfl ?_
      refine ex_iload (a := nI (2)) 111 d_MO_write_109 rfl rfl ?_
      refine ex_iaddN (144 * n + 8 * s + 2) 112 d_MO_write_111 rfl rfl rfl (by omega) ?_
      refine ex_iload (a := (c / 256)) 114 d_MO_write_112 rfl rfl ?_
      refine xr_iast 115 d_MO_write_114 rfl (by decide) rfl rfl (by omega) (by omega) ?_
      refine ex_aload_n (a := ad (rp N 0)) 116 d_MO_write_115 rfl rfl ?_
      refine xr_getR 119 d_MO_write_116 rfl g_MO_22 (by decide) rfl rfl ?_
      refine ex_iload (a := nI (144 * n + 8 * s)) 121 d_MO_write_119 rfl rfl ?_
      refine ex_iconst (v := 4) 122 d_MO_write_121 rfl (by decide) ?_
      refine ex_iaddN (144 * n + 8 * s + 4) 123 d_MO_write_122 rfl rfl (xn_lit 4) (by omega) ?_
      refine ex_iload (a := nI (2)) 125 d_MO_write_123 rfl rfl ?_
      refine ex_iaddN (144 * n + 8 * s + 6) 126 d_MO_write_125 rfl rfl rfl (by omega) ?_
      refine ex_iload (a := 0) 128 d_MO_write_126 rfl rfl ?_
      refine ex_ifeq 146 131 d_MO_write_128 rfl rfl (fun _ => ?_) (fun h => absurd (by decide) h)
      refine ex_sipush (v := 255) 149 d_MO_write_146 rfl (by decide) ?_
      refine ex_iload (a := (c / 256)) 151 d_MO_write_149 rfl rfl ?_
      refine ex_isub 152 d_MO_write_151 rfl ?_
      refine xr_iast 153 d_MO_write_152 rfl (by decide) rfl rfl (by omega) (by omega) ?_
      refine ex_iinc (a := nI (2)) (v := nI (3)) 156 d_MO_write_153 rfl rfl (xn_inc rfl) ?_
      refine ex_goto 54 d_MO_write_156 rfl ?_
      refine Ex.wk (L' := [some (.ref (ad (rp N 0))), some (.int (nI n)), some (.int (nI s)), some (.int x), some (.int y), some (.int c), some (.int (nI (144 * n + 8 * s))), some (.int 0), some (.int (nI (3))), some (.int ((c / 256)))]) ?_ (by repeat (first | exact xs_nil | refine xs_s ?_ | refine xs_n ?_))
      refine ex_iload (a := nI (3)) 56 d_MO_write_54 rfl rfl ?_
      refine ex_iconst (v := 4) 57 d_MO_write_56 rfl (by decide) ?_
      refine ex_icmpge 159 60 d_MO_write_57 rfl rfl (fun h => absurd h (xn_nle (xn_lit 4) rfl (by omega) (by omega) (by omega))) (fun _ => ?_)
      refine ex_iload (a := nI (3)) 62 d_MO_write_60 rfl rfl ?_
      refine ex_ifne 69 65 d_MO_write_62 rfl rfl (fun _ => ?_) (fun h => absurd h (xn_ne rfl (xn_lit 0) (by omega) (by omega) (by omega)))
      refine ex_iload (a := nI (3)) 71 d_MO_write_69 rfl rfl ?_
      refine ex_iconst (v := 1) 72 d_MO_write_71 rfl (by decide) ?_
      refine ex_icmpne 80 75 d_MO_write_72 rfl rfl (fun _ => ?_) (fun h => absurd h (xn_ne rfl (xn_lit 1) (by omega) (by omega) (by omega)))
      refine ex_iload (a := nI (3)) 82 d_MO_write_80 rfl rfl ?_
      refine ex_iconst (v := 2) 83 d_MO_write_82 rfl (by decide) ?_
      refine ex_icmpne 95 86 d_MO_write_83 rfl rfl (fun _ => ?_) (fun h => absurd h (xn_ne rfl (xn_lit 2) (by omega) (by omega) (by omega)))
      refine ex_iload (a := c) 97 d_MO_write_95 rfl rfl ?_
      refine ex_sipush (v := 256) 100 d_MO_write_97 rfl (by decide) ?_
      refine ex_irem 101 d_MO_write_100 rfl (by decide) ?_
      refine ex_istore 103 d_MO_write_101 rfl (Nat.le_of_ble_eq_true rfl) ?_
      refine ex_aload_n (a := ad (rp N 0)) 104 d_MO_write_103 rfl rfl ?_
      refine xr_getR 107 d_MO_write_104 rfl g_MO_22 (by decide) rfl rfl ?_
      refine ex_iload (a := nI (144 * n + 8 * s)) 109 d_MO_write_107 rfl rfl ?_
      refine ex_iload (a := nI (3)) 111 d_MO_write_109 rfl rfl ?_
      refine ex_iaddN (144 * n + 8 * s + 3) 112 d_MO_write_111 rfl rfl rfl (by omega) ?_
      refine ex_iload (a := (c - c / 256 * 256)) 114 d_MO_write_112 rfl rfl ?_
      refine xr_iast 115 d_MO_write_114 rfl (by decide) rfl rfl (by omega) (by omega) ?_
      refine ex_aload_n (a := ad (rp N 0)) 116 d_MO_write_115 rfl rfl ?_
      refine xr_getR 119 d_MO_write_116 rfl g_MO_22 (by decide) rfl rfl ?_
      refine ex_iload (a := nI (144 * n + 8 * s)) 121 d_MO_write_119 rfl rfl ?_
      refine ex_iconst (v := 4) 122 d_MO_write_121 rfl (by decide) ?_
      refine ex_iaddN (144 * n + 8 * s + 4) 123 d_MO_write_122 rfl rfl (xn_lit 4) (by omega) ?_
      refine ex_iload (a := nI (3)) 125 d_MO_write_123 rfl rfl ?_
      refine ex_iaddN (144 * n + 8 * s + 7) 126 d_MO_write_125 rfl rfl rfl (by omega) ?_
      refine ex_iload (a := 0) 128 d_MO_write_126 rfl rfl ?_
      refine ex_ifeq 146 131 d_MO_write_128 rfl rfl (fun _ => ?_) (fun h => absurd (by decide) h)
      refine ex_sipush (v := 255) 149 d_MO_write_146 rfl (by decide) ?_
      refine ex_iload (a := (c - c / 256 * 256)) 151 d_MO_write_149 rfl rfl ?_
      refine ex_isub 152 d_MO_write_151 rfl ?_
      refine xr_iast 153 d_MO_write_152 rfl (by decide) rfl rfl (by omega) (by omega) ?_
      refine ex_iinc (a := nI (3)) (v := nI (4)) 156 d_MO_write_153 rfl rfl (xn_inc rfl) ?_
      refine ex_goto 54 d_MO_write_156 rfl ?_
      refine Ex.wk (L' := [some (.ref (ad (rp N 0))), some (.int (nI n)), some (.int (nI s)), some (.int x), some (.int y), some (.int c), some (.int (nI (144 * n + 8 * s))), some (.int 0), some (.int (nI (4))), some (.int ((c - c / 256 * 256)))]) ?_ (by repeat (first | exact xs_nil | refine xs_s ?_ | refine xs_n ?_))
      refine ex_iload (a := nI (4)) 56 d_MO_write_54 rfl rfl ?_
      refine ex_iconst (v := 4) 57 d_MO_write_56 rfl (by decide) ?_
      refine ex_icmpge 159 60 d_MO_write_57 rfl rfl (fun _ => ?_) (fun h => absurd (xn_le (xn_lit 4) rfl (by omega) (by omega) (by omega)) h)
      refine ex_iload (a := 0) 161 d_MO_write_159 rfl rfl ?_
      refine ex_ifeq 169 164 d_MO_write_161 rfl rfl (fun _ => ?_) (fun h => absurd (by decide) h)
      refine ex_iload (a := 0) 171 d_MO_write_169 rfl rfl ?_
      refine ex_ifne 178 174 d_MO_write_171 rfl rfl (fun h => absurd (by decide) h) (fun _ => ?_)
      refine ex_iconst (v := 1) 175 d_MO_write_174 rfl (by decide) ?_
      refine ex_goto 179 d_MO_write_175 rfl ?_
      refine ex_zret d_MO_write_179 rfl rfl ⟨_, rfl, ?_⟩
      refine ⟨?_, (Eq.symm (zb_t h1))⟩
      unfold rWr; rw [if_neg h1, if_neg h2]; rfl
  · refine ex_iconst (v := 1) 22 d_MO_write_21 rfl (by decide) ?_
    refine ex_goto 26 d_MO_write_22 rfl ?_
    refine ex_istore 28 d_MO_write_26 rfl (Nat.le_of_ble_eq_true rfl) ?_
    refine ex_aload_n (a := ad (rp N 0)) 29 d_MO_write_28 rfl rfl ?_
    refine xr_getR 32 d_MO_write_29 rfl g_MO_32 (by decide) rfl rfl ?_
    refine ex_iload_n (a := nI n) 33 d_MO_write_32 rfl rfl ?_
    refine ex_dup2 34 d_MO_write_33 rfl rfl rfl ?_
    refine xr_iald 35 d_MO_write_34 rfl (by decide) rfl rfl (by omega) (by omega) ?_
    refine ex_aload_n (a := ad (rp N 0)) 36 d_MO_write_35 rfl rfl ?_
    refine xr_getR 39 d_MO_write_36 rfl g_MO_32 (by decide) rfl rfl ?_
    refine ex_iload_n (a := nI n) 40 d_MO_write_39 rfl rfl ?_
    refine xr_iald 41 d_MO_write_40 rfl (by decide) rfl rfl (by omega) (by omega) ?_
    refine ex_ifle 48 44 d_MO_write_41 rfl rfl (fun h3 => ?_) (fun h3 => ?_)
    · refine ex_iconst (v := 0) 49 d_MO_write_48 rfl (by decide) ?_
      refine ex_isub 50 d_MO_write_49 rfl ?_
      refine xr_iast 51 d_MO_write_50 rfl (by decide) rfl rfl (by omega) (by omega) ?_
      refine ex_iconst (v := 0) 52 d_MO_write_51 rfl (by decide) ?_
      refine ex_istore 54 d_MO_write_52 rfl (Nat.le_of_ble_eq_true rfl) ?_
      refine Ex.wk (L' := [some (.ref (ad (rp N 0))), some (.int (nI n)), some (.int (nI s)), some (.int x), some (.int y), some (.int c), some (.int (nI (144 * n + 8 * s))), some (.int 1), some (.int 0), none]) ?_ (by repeat (first | exact xs_nil | refine xs_s ?_ | refine xs_n ?_))
      refine ex_iload (a := 0) 56 d_MO_write_54 rfl rfl ?_
      refine ex_iconst (v := 4) 57 d_MO_write_56 rfl (by decide) ?_
      refine ex_icmpge 159 60 d_MO_write_57 rfl rfl (fun h => absurd h (by decide)) (fun _ => ?_)
      refine ex_iload (a := 0) 62 d_MO_write_60 rfl rfl ?_
      refine ex_ifne 69 65 d_MO_write_62 rfl rfl (fun h => absurd (by decide) h) (fun _ => ?_)
      refine ex_iload_n (a := x) 66 d_MO_write_65 rfl rfl ?_
      refine ex_goto 101 d_MO_write_66 rfl ?_
      refine ex_istore 103 d_MO_write_101 rfl (Nat.le_of_ble_eq_true rfl) ?_
      refine ex_aload_n (a := ad (rp N 0)) 104 d_MO_write_103 rfl rfl ?_
      refine xr_getR 107 d_MO_write_104 rfl g_MO_22 (by decide) rfl rfl ?_
      refine ex_iload (a := nI (144 * n + 8 * s)) 109 d_MO_write_107 rfl rfl ?_
      refine ex_iload (a := 0) 111 d_MO_write_109 rfl rfl ?_
      refine ex_iaddN (144 * n + 8 * s) 112 d_MO_write_111 rfl rfl (xn_lit 0) (by omega) ?_
      refine ex_iload (a := x) 114 d_MO_write_112 rfl rfl ?_
      refine xr_iast 115 d_MO_write_114 rfl (by decide) rfl rfl (by omega) (by omega) ?_
      refine ex_aload_n (a := ad (rp N 0)) 116 d_MO_write_115 rfl rfl ?_
      refine xr_getR 119 d_MO_write_116 rfl g_MO_22 (by decide) rfl rfl ?_
      refine ex_iload (a := nI (144 * n + 8 * s)) 121 d_MO_write_119 rfl rfl ?_
      refine ex_iconst (v := 4) 122 d_MO_write_121 rfl (by decide) ?_
      refine ex_iaddN (144 * n + 8 * s + 4) 123 d_MO_write_122 rfl rfl (xn_lit 4) (by omega) ?_
      refine ex_iload (a := 0) 125 d_MO_write_123 rfl rfl ?_
      refine ex_iaddN (144 * n + 8 * s + 4) 126 d_MO_write_125 rfl rfl (xn_lit 0) (by omega) ?_
      refine ex_iload (a := 1) 128 d_MO_write_126 rfl rfl ?_
      refine ex_ifeq 146 131 d_MO_write_128 rfl rfl (fun h => absurd h (by decide)) (fun _ => ?_)
      refine ex_aload_n (a := ad (rp N 0)) 132 d_MO_write_131 rfl rfl ?_
      refine xr_getR 135 d_MO_write_132 rfl g_MO_22 (by decide) rfl rfl ?_
      refine ex_iload (a := nI (144 * n + 8 * s)) 137 d_MO_write_135 rfl rfl ?_
      refine ex_iconst (v := 4) 138 d_MO_write_137 rfl (by decide) ?_
      refine ex_iaddN (144 * n + 8 * s + 4) 139 d_MO_write_138 rfl rfl (xn_lit 4) (by omega) ?_
      refine ex_iload (a := 0) 141 d_MO_write_139 rfl rfl ?_
      refine ex_iaddN (144 * n + 8 * s + 4) 142 d_MO_write_141 rfl rfl (xn_lit 0) (by omega) ?_
      refine xr_iald 143 d_MO_write_142 rfl (by decide) rfl rfl (by omega) (by omega) ?_
      refine ex_goto 152 d_MO_write_143 rfl ?_
      refine xr_iast 153 d_MO_write_152 rfl (by decide) rfl rfl (by omega) (by omega) ?_
      refine ex_iinc (a := 0) (v := nI (1)) 156 d_MO_write_153 rfl rfl (xn_inc (xn_lit 0)) ?_
      refine ex_goto 54 d_MO_write_156 rfl ?_
      refine Ex.wk (L' := [some (.ref (ad (rp N 0))), some (.int (nI n)), some (.int (nI s)), some (.int x), some (.int y), some (.int c), some (.int (nI (144 * n + 8 * s))), some (.int 1), some (.int (nI (1))), some (.int x)]) ?_ (by repeat (first | exact xs_nil | refine xs_s ?_ | refine xs_n ?_))
      refine ex_iload (a := nI (1)) 56 d_MO_write_54 rfl rfl ?_
      refine ex_iconst (v := 4) 57 d_MO_write_56 rfl (by decide) ?_
      refine ex_icmpge 159 60 d_MO_write_57 rfl rfl (fun h => absurd h (xn_nle (xn_lit 4) rfl (by omega) (by omega) (by omega))) (fun _ => ?_)
      refine ex_iload (a := nI (1)) 62 d_MO_write_60 rfl rfl ?_
      refine ex_ifne 69 65 d_MO_write_62 rfl rfl (fun _ => ?_) (fun h => absurd h (xn_ne rfl (xn_lit 0) (by omega) (by omega) (by omega)))
      refine ex_iload (a := nI (1)) 71 d_MO_write_69 rfl rfl ?_
      refine ex_iconst (v := 1) 72 d_MO_write_71 rfl (by decide) ?_
      refine ex_icmpne 80 75 d_MO_write_72 rfl rfl (fun h => absurd (xn_eq rfl (xn_lit 1) (by omega)) h) (fun _ => ?_)
      refine ex_iload (a := y) 77 d_MO_write_75 rfl rfl ?_
      refine ex_goto 101 d_MO_write_77 rfl ?_
      refine ex_istore 103 d_MO_write_101 rfl (Nat.le_of_ble_eq_true rfl) ?_
      refine ex_aload_n (a := ad (rp N 0)) 104 d_MO_write_103 rfl rfl ?_
      refine xr_getR 107 d_MO_write_104 rfl g_MO_22 (by decide) rfl rfl ?_
      refine ex_iload (a := nI (144 * n + 8 * s)) 109 d_MO_write_107 rfl rfl ?_
      refine ex_iload (a := nI (1)) 111 d_MO_write_109 rfl rfl ?_
      refine ex_iaddN (144 * n + 8 * s + 1) 112 d_MO_write_111 rfl rfl rfl (by omega) ?_
      refine ex_iload (a := y) 114 d_MO_write_112 rfl rfl ?_
      refine xr_iast 115 d_MO_write_114 rfl (by decide) rfl rfl (by omega) (by omega) ?_
      refine ex_aload_n (a := ad (rp N 0)) 116 d_MO_write_115 rfl rfl ?_
      refine xr_getR 119 d_MO_write_116 rfl g_MO_22 (by decide) rfl rfl ?_
      refine ex_iload (a := nI (144 * n + 8 * s)) 121 d_MO_write_119 rfl rfl ?_
      refine ex_iconst (v := 4) 122 d_MO_write_121 rfl (by decide) ?_
      refine ex_iaddN (144 * n + 8 * s + 4) 123 d_MO_write_122 rfl rfl (xn_lit 4) (by omega) ?_
      refine ex_iload (a := nI (1)) 125 d_MO_write_123 rfl rfl ?_
      refine ex_iaddN (144 * n + 8 * s + 5) 126 d_MO_write_125 rfl rfl rfl (by omega) ?_
      refine ex_iload (a := 1) 128 d_MO_write_126 rfl rfl ?_
      refine ex_ifeq 146 131 d_MO_write_128 rfl rfl (fun h => absurd h (by decide)) (fun _ => ?_)
      refine ex_aload_n (a := ad (rp N 0)) 132 d_MO_write_131 rfl rfl ?_
      refine xr_getR 135 d_MO_write_132 rfl g_MO_22 (by decide) rfl rfl ?_
      refine ex_iload (a := nI (144 * n + 8 * s)) 137 d_MO_write_135 rfl rfl ?_
      refine ex_iconst (v := 4) 138 d_MO_write_137 rfl (by decide) ?_
      refine ex_iaddN (144 * n + 8 * s + 4) 139 d_MO_write_138 rfl rfl (xn_lit 4) (by omega) ?_
      refine ex_iload (a := nI (1)) 141 d_MO_write_139 rfl rfl ?_
      refine ex_iaddN (144 * n + 8 * s + 5) 142 d_MO_write_141 rfl rfl rfl (by omega) ?_
      refine xr_iald 143 d_MO_write_142 rfl (by decide) rfl rfl (by omega) (by omega) ?_
      refine ex_goto 152 d_MO_write_143 rfl ?_
      refine xr_iast 153 d_MO_write_152 rfl (by decide) rfl rfl (by omega) (by omega) ?_
      refine ex_iinc (a := nI (1)) (v := nI (2)) 156 d_MO_write_153 rfl rfl (xn_inc rfl) ?_
      refine ex_goto 54 d_MO_write_156 rfl ?_
      refine Ex.wk (L' := [some (.ref (ad (rp N 0))), some (.int (nI n)), some (.int (nI s)), some (.int x), some (.int y), some (.int c), some (.int (nI (144 * n + 8 * s))), some (.int 1), some (.int (nI (2))), some (.int y)]) ?_ (by repeat (first | exact xs_nil | refine xs_s ?_ | refine xs_n ?_))
      refine ex_iload (a := nI (2)) 56 d_MO_write_54 rfl rfl ?_
      refine ex_iconst (v := 4) 57 d_MO_write_56 rfl (by decide) ?_
      refine ex_icmpge 159 60 d_MO_write_57 rfl rfl (fun h => absurd h (xn_nle (xn_lit 4) rfl (by omega) (by omega) (by omega))) (fun _ => ?_)
      refine ex_iload (a := nI (2)) 62 d_MO_write_60 rfl rfl ?_
      refine ex_ifne 69 65 d_MO_write_62 rfl rfl (fun _ => ?_) (fun h => absurd h (xn_ne rfl (xn_lit 0) (by omega) (by omega) (by omega)))
      refine ex_iload (a := nI (2)) 71 d_MO_write_69 rfl rfl ?_
      refine ex_iconst (v := 1) 72 d_MO_write_71 rfl (by decide) ?_
      refine ex_icmpne 80 75 d_MO_write_72 rfl rfl (fun _ => ?_) (fun h => absurd h (xn_ne rfl (xn_lit 1) (by omega) (by omega) (by omega)))
      refine ex_iload (a := nI (2)) 82 d_MO_write_80 rfl rfl ?_
      refine ex_iconst (v := 2) 83 d_MO_write_82 rfl (by decide) ?_
      refine ex_icmpne 95 86 d_MO_write_83 rfl rfl (fun h => absurd (xn_eq rfl (xn_lit 2) (by omega)) h) (fun _ => ?_)
      refine ex_iload (a := c) 88 d_MO_write_86 rfl rfl ?_
      refine ex_sipush (v := 256) 91 d_MO_write_88 rfl (by decide) ?_
      refine ex_idiv 92 d_MO_write_91 rfl (by decide) ?_
      refine ex_goto 101 d_MO_write_92 rfl ?_
      refine ex_istore 103 d_MO_write_101 rfl (Nat.le_of_ble_eq_true rfl) ?_
      refine ex_aload_n (a := ad (rp N 0)) 104 d_MO_write_103 rfl rfl ?_
      refine xr_getR 107 d_MO_write_104 rfl g_MO_22 (by decide) rfl rfl ?_
      refine ex_iload (a := nI (144 * n + 8 * s)) 109 d_MO_write_107 rfl rfl ?_
      refine ex_iload (a := nI (2)) 111 d_MO_write_109 rfl rfl ?_
      refine ex_iaddN (144 * n + 8 * s + 2) 112 d_MO_write_111 rfl rfl rfl (by omega) ?_
      refine ex_iload (a := (c / 256)) 114 d_MO_write_112 rfl rfl ?_
      refine xr_iast 115 d_MO_write_114 rfl (by decide) rfl rfl (by omega) (by omega) ?_
      refine ex_aload_n (a := ad (rp N 0)) 116 d_MO_write_115 rfl rfl ?_
      refine xr_getR 119 d_MO_write_116 rfl g_MO_22 (by decide) rfl rfl ?_
      refine ex_iload (a := nI (144 * n + 8 * s)) 121 d_MO_write_119 rfl rfl ?_
      refine ex_iconst (v := 4) 122 d_MO_write_121 rfl (by decide) ?_
      refine ex_iaddN (144 * n + 8 * s + 4) 123 d_MO_write_122 rfl rfl (xn_lit 4) (by omega) ?_
      refine ex_iload (a := nI (2)) 125 d_MO_write_123 rfl rfl ?_
      refine ex_iaddN (144 * n + 8 * s + 6) 126 d_MO_write_125 rfl rfl rfl (by omega) ?_
      refine ex_iload (a := 1) 128 d_MO_write_126 rfl rfl ?_
      refine ex_ifeq 146 131 d_MO_write_128 rfl rfl (fun h => absurd h (by decide)) (fun _ => ?_)
      refine ex_aload_n (a := ad (rp N 0)) 132 d_MO_write_131 rfl rfl ?_
      refine xr_getR 135 d_MO_write_132 rfl g_MO_22 (by decide) rfl rfl ?_
      refine ex_iload (a := nI (144 * n + 8 * s)) 137 d_MO_write_135 rfl rfl ?_
      refine ex_iconst (v := 4) 138 d_MO_write_137 rfl (by decide) ?_
      refine ex_iaddN (144 * n + 8 * s + 4) 139 d_MO_write_138 rfl rfl (xn_lit 4) (by omega) ?_
      refine ex_iload (a := nI (2)) 141 d_MO_write_139 rfl rfl ?_
      refine ex_iaddN (144 * n + 8 * s + 6) 142 d_MO_write_141 rfl rfl rfl (by omega) ?_
      refine xr_iald 143 d_MO_write_142 rfl (by decide) rfl rfl (by omega) (by omega) ?_
      refine ex_goto 152 d_MO_write_143 rfl ?_
      refine xr_iast 153 d_MO_write_152 rfl (by decide) rfl rfl (by omega) (by omega) ?_
      refine ex_iinc (a := nI (2)) (v := nI (3)) 156 d_MO_write_153 rfl rfl (xn_inc rfl) ?_
      refine ex_goto 54 d_MO_write_156 rfl ?_
      refine Ex.wk (L' := [some (.ref (ad (rp N 0))), some (.int (nI n)), some (.int (nI s)), some (.int x), some (.int y), some (.int c), some (.int (nI (144 * n + 8 * s))), some (.int 1), some (.int (nI (3))), some (.int ((c / 256)))]) ?_ (by repeat (first | exact xs_nil | refine xs_s ?_ | refine xs_n ?_))
      refine ex_iload (a := nI (3)) 56 d_MO_write_54 rfl rfl ?_
      refine ex_iconst (v := 4) 57 d_MO_write_56 rfl (by decide) ?_
      refine ex_icmpge 159 60 d_MO_write_57 rfl rfl (fun h => absurd h (xn_nle (xn_lit 4) rfl (by omega) (by omega) (by omega))) (fun _ => ?_)
      refine ex_iload (a := nI (3)) 62 d_MO_write_60 rfl rfl ?_
      refine ex_ifne 69 65 d_MO_write_62 rfl rfl (fun _ => ?_) (fun h => absurd h (xn_ne rfl (xn_lit 0) (by omega) (by omega) (by omega)))
      refine ex_iload (a := nI (3)) 71 d_MO_write_69 rfl rfl ?_
      refine ex_iconst (v := 1) 72 d_MO_write_71 rfl (by decide) ?_
      refine ex_icmpne 80 75 d_MO_write_72 rfl rfl (fun _ => ?_) (fun h => absurd h (xn_ne rfl (xn_lit 1) (by omega) (by omega) (by omega)))
      refine ex_iload (a := nI (3)) 82 d_MO_write_80 rfl rfl ?_
      refine ex_iconst (v := 2) 83 d_MO_write_82 rfl (by decide) ?_
      refine ex_icmpne 95 86 d_MO_write_83 rfl rfl (fun _ => ?_) (fun h => absurd h (xn_ne rfl (xn_lit 2) (by omega) (by omega) (by omega)))
      refine ex_iload (a := c) 97 d_MO_write_95 rfl rfl ?_
      refine ex_sipush (v := 256) 100 d_MO_write_97 rfl (by decide) ?_
      refine ex_irem 101 d_MO_write_100 rfl (by decide) ?_
      refine ex_istore 103 d_MO_write_101 rfl (Nat.le_of_ble_eq_true rfl) ?_
      refine ex_aload_n (a := ad (rp N 0)) 104 d_MO_write_103 rfl rfl ?_
      refine xr_getR 107 d_MO_write_104 rfl g_MO_22 (by decide) rfl rfl ?_
      refine ex_iload (a := nI (144 * n + 8 * s)) 109 d_MO_write_107 rfl rfl ?_
      refine ex_iload (a := nI (3)) 111 d_MO_write_109 rfl rfl ?_
      refine ex_iaddN (144 * n + 8 * s + 3) 112 d_MO_write_111 rfl rfl rfl (by omega) ?_
      refine ex_iload (a := (c - c / 256 * 256)) 114 d_MO_write_112 rfl rfl ?_
      refine xr_iast 115 d_MO_write_114 rfl (by decide) rfl rfl (by omega) (by omega) ?_
      refine ex_aload_n (a := ad (rp N 0)) 116 d_MO_write_115 rfl rfl ?_
      refine xr_getR 119 d_MO_write_116 rfl g_MO_22 (by decide) rfl rfl ?_
      refine ex_iload (a := nI (144 * n + 8 * s)) 121 d_MO_write_119 rfl rfl ?_
      refine ex_iconst (v := 4) 122 d_MO_write_121 rfl (by decide) ?_
      refine ex_iaddN (144 * n + 8 * s + 4) 123 d_MO_write_122 rfl rfl (xn_lit 4) (by omega) ?_
      refine ex_iload (a := nI (3)) 125 d_MO_write_123 rfl rfl ?_
      refine ex_iaddN (144 * n + 8 * s + 7) 126 d_MO_write_125 rfl rfl rfl (by omega) ?_
      refine ex_iload (a := 1) 128 d_MO_write_126 rfl rfl ?_
      refine ex_ifeq 146 131 d_MO_write_128 rfl rfl (fun h => absurd h (by decide)) (fun _ => ?_)
      refine ex_aload_n (a := ad (rp N 0)) 132 d_MO_write_131 rfl rfl ?_
      refine xr_getR 135 d_MO_write_132 rfl g_MO_22 (by decide) rfl rfl ?_
      refine ex_iload (a := nI (144 * n + 8 * s)) 137 d_MO_write_135 rfl rfl ?_
      refine ex_iconst (v := 4) 138 d_MO_write_137 rfl (by decide) ?_
      refine ex_iaddN (144 * n + 8 * s + 4) 139 d_MO_write_138 rfl rfl (xn_lit 4) (by omega) ?_
      refine ex_iload (a := nI (3)) 141 d_MO_write_139 rfl rfl ?_
      refine ex_iaddN (144 * n + 8 * s + 7) 142 d_MO_write_141 rfl rfl rfl (by omega) ?_
      refine xr_iald 143 d_MO_write_142 rfl (by decide) rfl rfl (by omega) (by omega) ?_
      refine ex_goto 152 d_MO_write_143 rfl ?_
      refine xr_iast 153 d_MO_write_152 rfl (by decide) rfl rfl (by omega) (by omega) ?_
      refine ex_iinc (a := nI (3)) (v := nI (4)) 156 d_MO_write_153 rfl rfl (xn_inc rfl) ?_
      refine ex_goto 54 d_MO_write_156 rfl ?_
      refine Ex.wk (L' := [some (.ref (ad (rp N 0))), some (.int (nI n)), some (.int (nI s)), some (.int x), some (.int y), some (.int c), some (.int (nI (144 * n + 8 * s))), some (.int 1), some (.int (nI (4))), some (.int ((c - c / 256 * 256)))]) ?_ (by repeat (first | exact xs_nil | refine xs_s ?_ | refine xs_n ?_))
      refine ex_iload (a := nI (4)) 56 d_MO_write_54 rfl rfl ?_
      refine ex_iconst (v := 4) 57 d_MO_write_56 rfl (by decide) ?_
      refine ex_icmpge 159 60 d_MO_write_57 rfl rfl (fun _ => ?_) (fun h => absurd (xn_le (xn_lit 4) rfl (by omega) (by omega) (by omega)) h)
      refine ex_iload (a := 1) 161 d_MO_write_159 rfl rfl ?_
      refine ex_ifeq 169 164 d_MO_write_161 rfl rfl (fun h => absurd h (by decide)) (fun _ => ?_)
      refine ex_aload_n (a := ad (rp N 0)) 165 d_MO_write_164 rfl rfl ?_
      refine ex_iload_n (a := nI n) 166 d_MO_write_165 rfl rfl ?_
      refine xr_callVv [.int (nI n)] [] 169 d_MO_write_166 rfl zv_MO_falls ⟨(Nat.le_of_ble_eq_true rfl), (Nat.le_of_ble_eq_true rfl)⟩ m_MO_85 (by decide) rfl rfl rfl (Nat.le_of_ble_eq_true rfl) rfl (Nat.le_of_ble_eq_true rfl) (c_MO_falls (S := S) (M := (u2 (u2 (u2 (u2 (u2 (u2 (u2 (u2 (u2 M 8 (n) ((M 8 n - 0))) 5 (144 * n + 8 * s) (x)) 5 (144 * n + 8 * s + 4) ((u2 (u2 M 8 (n) ((M 8 n - 0))) 5 (144 * n + 8 * s) (x)) 5 (144 * n + 8 * s + 4))) 5 (144 * n + 8 * s + 1) (y)) 5 (144 * n + 8 * s + 5) ((u2 (u2 (u2 (u2 M 8 (n) ((M 8 n - 0))) 5 (144 * n + 8 * s) (x)) 5 (144 * n + 8 * s + 4) ((u2 (u2 M 8 (n) ((M 8 n - 0))) 5 (144 * n + 8 * s) (x)) 5 (144 * n + 8 * s + 4))) 5 (144 * n + 8 * s + 1) (y)) 5 (144 * n + 8 * s + 5))) 5 (144 * n + 8 * s + 2) ((c / 256))) 5 (144 * n + 8 * s + 6) ((u2 (u2 (u2 (u2 (u2 (u2 M 8 (n) ((M 8 n - 0))) 5 (144 * n + 8 * s) (x)) 5 (144 * n + 8 * s + 4) ((u2 (u2 M 8 (n) ((M 8 n - 0))) 5 (144 * n + 8 * s) (x)) 5 (144 * n + 8 * s + 4))) 5 (144 * n + 8 * s + 1) (y)) 5 (144 * n + 8 * s + 5) ((u2 (u2 (u2 (u2 M 8 (n) ((M 8 n - 0))) 5 (144 * n + 8 * s) (x)) 5 (144 * n + 8 * s + 4) ((u2 (u2 M 8 (n) ((M 8 n - 0))) 5 (144 * n + 8 * s) (x)) 5 (144 * n + 8 * s + 4))) 5 (144 * n + 8 * s + 1) (y)) 5 (144 * n + 8 * s + 5))) 5 (144 * n + 8 * s + 2) ((c / 256))) 5 (144 * n + 8 * s + 6))) 5 (144 * n + 8 * s + 3) ((c - c / 256 * 256))) 5 (144 * n + 8 * s + 7) ((u2 (u2 (u2 (u2 (u2 (u2 (u2 (u2 M 8 (n) ((M 8 n - 0))) 5 (144 * n + 8 * s) (x)) 5 (144 * n + 8 * s + 4) ((u2 (u2 M 8 (n) ((M 8 n - 0))) 5 (144 * n + 8 * s) (x)) 5 (144 * n + 8 * s + 4))) 5 (144 * n + 8 * s + 1) (y)) 5 (144 * n + 8 * s + 5) ((u2 (u2 (u2 (u2 M 8 (n) ((M 8 n - 0))) 5 (144 * n + 8 * s) (x)) 5 (144 * n + 8 * s + 4) ((u2 (u2 M 8 (n) ((M 8 n - 0))) 5 (144 * n + 8 * s) (x)) 5 (144 * n + 8 * s + 4))) 5 (144 * n + 8 * s + 1) (y)) 5 (144 * n + 8 * s + 5))) 5 (144 * n + 8 * s + 2) ((c / 256))) 5 (144 * n + 8 * s + 6) ((u2 (u2 (u2 (u2 (u2 (u2 M 8 (n) ((M 8 n - 0))) 5 (144 * n + 8 * s) (x)) 5 (144 * n + 8 * s + 4) ((u2 (u2 M 8 (n) ((M 8 n - 0))) 5 (144 * n + 8 * s) (x)) 5 (144 * n + 8 * s + 4))) 5 (144 * n + 8 * s + 1) (y)) 5 (144 * n + 8 * s + 5) ((u2 (u2 (u2 (u2 M 8 (n) ((M 8 n - 0))) 5 (144 * n + 8 * s) (x)) 5 (144 * n + 8 * s + 4) ((u2 (u2 M 8 (n) ((M 8 n - 0))) 5 (144 * n + 8 * s) (x)) 5 (144 * n + 8 * s + 4))) 5 (144 * n + 8 * s + 1) (y)) 5 (144 * n + 8 * s + 5))) 5 (144 * n + 8 * s + 2) ((c / 256))) 5 (144 * n + 8 * s + 6))) 5 (144 * n + 8 * s + 3) ((c - c / 256 * 256))) 5 (144 * n + 8 * s + 7)))) n (by omega)) (fun ww q4 => ?_)
      rw [q4]
      refine ex_iload (a := 1) 171 d_MO_write_169 rfl rfl ?_
      refine ex_ifne 178 174 d_MO_write_171 rfl rfl (fun _ => ?_) (fun h => absurd h (by decide))
      refine ex_iconst (v := 0) 179 d_MO_write_178 rfl (by decide) ?_
      refine ex_zret d_MO_write_179 rfl rfl ⟨_, rfl, ?_⟩
      refine ⟨?_, (Eq.symm (zb_f (fun z => z h1)))⟩
      unfold rWr; rw [if_pos h1]; rfl
    · exact absurd (Int32.le_of_eq h1) h3
end WK
