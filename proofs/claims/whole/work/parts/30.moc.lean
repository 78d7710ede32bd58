section WK
variable {G : xC} {ad : Nat → Nat} {N : Nat} {S M : sT}
set_option maxRecDepth 100000 in
set_option maxHeartbeats 4000000 in
theorem c_MO_plan (n : Nat) (hnN : n < N) (hN : N ≤ 5) (hn : M 0 0 = nI N) (t : Nat) (ht : t < 8) : Ex G none mi_MO_plan 0 0 0 (xEn mi_MO_plan [.ref (ad (rp N 0)), .int (nI n), .int (nI (t + 1))]) [] (LR G ad N S M) (xI (fun v w => w = LR G ad N S M ∧ v = rPlanR N n t M)) := by
  have hnI : isN N (nI n) := isN_nI hnN hN; have hsS : isSl (nI (t + 1)) := isSl_nI (by omega) (by omega)
  refine ex_aload_n (a := ad (rp N 0)) 1 d_MO_plan_0 rfl rfl ?_
  refine ex_iload_n (a := nI n) 2 d_MO_plan_1 rfl rfl ?_
  refine xr_callVi [.int (nI n)] [] 5 d_MO_plan_2 rfl zv_MO_isNode ⟨(Nat.le_of_ble_eq_true rfl), (Nat.le_of_ble_eq_true rfl)⟩ m_MO_101 (by decide) rfl rfl rfl (Nat.le_of_ble_eq_true rfl) rfl (Nat.le_of_ble_eq_true rfl) (c_MO_isNode (S := S) (M := M) (nI n) hn) (fun vv ww q1 => ?_)
  rw [q1.1, q1.2]
  refine Ex.int (zb_t hnI) ?_
  refine ex_ifeq 32 8 d_MO_plan_5 rfl rfl (fun h => absurd h (by decide)) (fun _ => ?_)
  refine ex_iload_n (a := nI (t + 1)) 9 d_MO_plan_8 rfl rfl ?_
  refine xl_callSi [.int (nI (t + 1))] [] 12 d_MO_plan_9 rfl zs_MO_isSlot ⟨(Nat.le_of_ble_eq_true rfl), (Nat.le_of_ble_eq_true rfl)⟩ m_MO_136 rfl rfl (Nat.le_of_ble_eq_true rfl) rfl (Nat.le_of_ble_eq_true rfl) (c_MO_isSlot (S := S) (M := M) (nI (t + 1))) (fun vv ww q2 => ?_)
  rw [q2.1, q2.2]
  refine Ex.int (zb_t hsS) ?_
  refine ex_ifeq 32 15 d_MO_plan_12 rfl rfl (fun h => absurd h (by decide)) (fun _ => ?_)
  refine ex_aload_n (a := ad (rp N 0)) 16 d_MO_plan_15 rfl rfl ?_
  refine ex_iload_n (a := nI n) 17 d_MO_plan_16 rfl rfl ?_
  refine xr_callVi [.int (nI n)] [] 20 d_MO_plan_17 rfl zv_MO_leads ⟨(Nat.le_of_ble_eq_true rfl), (Nat.le_of_ble_eq_true rfl)⟩ m_MO_130 (by decide) rfl rfl rfl (Nat.le_of_ble_eq_true rfl) rfl (Nat.le_of_ble_eq_true rfl) (c_MO_leads (S := S) (M := M) n (by omega)) (fun vv ww q3 => ?_)
  rw [q3.1, q3.2]
  by_cases h4 : rLds n M
  · refine Ex.int (zb_t h4) ?_
    refine ex_ifeq 32 23 d_MO_plan_20 rfl rfl (fun h => absurd h (by decide)) (fun _ => ?_)
    refine ex_aload_n (a := ad (rp N 0)) 24 d_MO_plan_23 rfl rfl ?_
    refine ex_iload_n (a := nI n) 25 d_MO_plan_24 rfl rfl ?_
    refine ex_iload_n (a := nI (t + 1)) 26 d_MO_plan_25 rfl rfl ?_
    refine xr_callVi [.int (nI n), .int (nI (t + 1))] [] 29 d_MO_plan_26 rfl zv_MO_planned ⟨(Nat.le_of_ble_eq_true rfl), (Nat.le_of_ble_eq_true rfl)⟩ m_MO_121 (by decide) rfl rfl rfl (Nat.le_of_ble_eq_true rfl) rfl (Nat.le_of_ble_eq_true rfl) (c_MO_planned (S := S) (M := M) n t (by omega) (by omega) hN hn) (fun vv ww q5 => ?_)
    rw [q5.1, q5.2]
    refine ex_goto 33 d_MO_plan_29 rfl ?_
    refine ex_iret d_MO_plan_33 rfl ⟨_, rfl, ?_⟩
    refine ⟨?_, ?_⟩
    · rfl
    · unfold rPlanR; rw [if_pos h4]
  · refine Ex.int (zb_f h4) ?_
    refine ex_ifeq 32 23 d_MO_plan_20 rfl rfl (fun _ => ?_) (fun h => absurd (by decide) h)
    refine ex_iconst (v := (-1)) 33 d_MO_plan_32 rfl (by decide) ?_
    refine ex_iret d_MO_plan_33 rfl ⟨_, rfl, ?_⟩
    refine ⟨?_, ?_⟩
    · rfl
    · unfold rPlanR; rw [if_neg h4]
set_option maxRecDepth 100000 in
set_option maxHeartbeats 4000000 in
theorem c_MO_chosen (n : Nat) (hnN : n < N) (hN : N ≤ 5) (hn : M 0 0 = nI N) (t : Nat) (ht : t < 8) : Ex G none mi_MO_chosen 0 0 0 (xEn mi_MO_chosen [.ref (ad (rp N 0)), .int (nI n), .int (nI (t + 1))]) [] (LR G ad N S M) (xI (fun v w => w = LR G ad N S M ∧ v = rChosR n t M)) := by
  have hnI : isN N (nI n) := isN_nI hnN hN; have hsS : isSl (nI (t + 1)) := isSl_nI (by omega) (by omega)
  refine ex_aload_n (a := ad (rp N 0)) 1 d_MO_chosen_0 rfl rfl ?_
  refine ex_iload_n (a := nI n) 2 d_MO_chosen_1 rfl rfl ?_
  refine xr_callVi [.int (nI n)] [] 5 d_MO_chosen_2 rfl zv_MO_isNode ⟨(Nat.le_of_ble_eq_true rfl), (Nat.le_of_ble_eq_true rfl)⟩ m_MO_101 (by decide) rfl rfl rfl (Nat.le_of_ble_eq_true rfl) rfl (Nat.le_of_ble_eq_true rfl) (c_MO_isNode (S := S) (M := M) (nI n) hn) (fun vv ww q1 => ?_)
  rw [q1.1, q1.2]
  refine Ex.int (zb_t hnI) ?_
  refine ex_ifeq 40 8 d_MO_chosen_5 rfl rfl (fun h => absurd h (by decide)) (fun _ => ?_)
  refine ex_iload_n (a := nI (t + 1)) 9 d_MO_chosen_8 rfl rfl ?_
  refine xl_callSi [.int (nI (t + 1))] [] 12 d_MO_chosen_9 rfl zs_MO_isSlot ⟨(Nat.le_of_ble_eq_true rfl), (Nat.le_of_ble_eq_true rfl)⟩ m_MO_136 rfl rfl (Nat.le_of_ble_eq_true rfl) rfl (Nat.le_of_ble_eq_true rfl) (c_MO_isSlot (S := S) (M := M) (nI (t + 1))) (fun vv ww q2 => ?_)
  rw [q2.1, q2.2]
  refine Ex.int (zb_t hsS) ?_
  refine ex_ifeq 40 15 d_MO_chosen_12 rfl rfl (fun h => absurd h (by decide)) (fun _ => ?_)
  refine ex_aload_n (a := ad (rp N 0)) 16 d_MO_chosen_15 rfl rfl ?_
  refine xr_getR 19 d_MO_chosen_16 rfl g_MO_25 (by decide) rfl rfl ?_
  refine ex_iload_n (a := nI n) 20 d_MO_chosen_19 rfl rfl ?_
  refine xr_zald 21 d_MO_chosen_20 rfl (by decide) rfl rfl (by omega) (by omega) ?_
  refine ex_ifeq 40 24 d_MO_chosen_21 rfl rfl (fun h3 => ?_) (fun h3 => ?_)
  · refine ex_iconst (v := (-1)) 41 d_MO_chosen_40 rfl (by decide) ?_
    refine ex_iret d_MO_chosen_41 rfl ⟨_, rfl, ?_⟩
    refine ⟨?_, ?_⟩
    · rfl
    · unfold rChosR; rw [if_pos h3]
  · refine ex_aload_n (a := ad (rp N 0)) 25 d_MO_chosen_24 rfl rfl ?_
    refine xr_getR 28 d_MO_chosen_25 rfl g_MO_53 (by decide) rfl rfl ?_
    refine ex_bipush (v := 8) 30 d_MO_chosen_28 rfl (by decide) ?_
    refine ex_iload_n (a := nI n) 31 d_MO_chosen_30 rfl rfl ?_
    refine ex_imulN (8 * n) 32 d_MO_chosen_31 rfl (xn_lit 8) rfl (by omega) ?_
    refine ex_iload_n (a := nI (t + 1)) 33 d_MO_chosen_32 rfl rfl ?_
    refine ex_iaddN (8 * n + t + 1) 34 d_MO_chosen_33 rfl rfl rfl (by omega) ?_
    refine ex_iconst (v := 1) 35 d_MO_chosen_34 rfl (by decide) ?_
    refine ex_isubN (8 * n + t) 36 d_MO_chosen_35 rfl rfl (xn_lit 1) (by omega) ?_
    refine xr_iald 37 d_MO_chosen_36 rfl (by decide) rfl rfl (by omega) (by omega) ?_
    refine ex_goto 41 d_MO_chosen_37 rfl ?_
    refine ex_iret d_MO_chosen_41 rfl ⟨_, rfl, ?_⟩
    refine ⟨?_, ?_⟩
    · rfl
    · unfold rChosR; rw [if_neg h3]
set_option maxRecDepth 100000 in
set_option maxHeartbeats 4000000 in
theorem c_MO_octet (n : Nat) (hnN : n < N) (hN : N ≤ 5) (hn : M 0 0 = nI N) (b : Nat) (hb : b < 144) : Ex G none mi_MO_octet 0 0 0 (xEn mi_MO_octet [.ref (ad (rp N 0)), .int (nI n), .int (nI b)]) [] (LR G ad N S M) (xI (fun v w => w = LR G ad N S M ∧ v = M 5 (b + 144 * n))) := by
  have hnI : isN N (nI n) := isN_nI hnN hN
  refine ex_aload_n (a := ad (rp N 0)) 1 d_MO_octet_0 rfl rfl ?_
  refine ex_iload_n (a := nI n) 2 d_MO_octet_1 rfl rfl ?_
  refine xr_callVi [.int (nI n)] [] 5 d_MO_octet_2 rfl zv_MO_isNode ⟨(Nat.le_of_ble_eq_true rfl), (Nat.le_of_ble_eq_true rfl)⟩ m_MO_101 (by decide) rfl rfl rfl (Nat.le_of_ble_eq_true rfl) rfl (Nat.le_of_ble_eq_true rfl) (c_MO_isNode (S := S) (M := M) (nI n) hn) (fun vv ww q1 => ?_)
  rw [q1.1, q1.2]
  refine Ex.int (zb_t hnI) ?_
  refine ex_ifeq 34 8 d_MO_octet_5 rfl rfl (fun h => absurd h (by decide)) (fun _ => ?_)
  refine ex_iload_n (a := nI b) 9 d_MO_octet_8 rfl rfl ?_
  refine ex_iflt 34 12 d_MO_octet_9 rfl rfl (fun h => absurd h (xn_nlt rfl (xn_lit 0) (by omega) (by omega) (by omega))) (fun _ => ?_)
  refine ex_iload_n (a := nI b) 13 d_MO_octet_12 rfl rfl ?_
  refine ex_sipush (v := 144) 16 d_MO_octet_13 rfl (by decide) ?_
  refine ex_icmpge 34 19 d_MO_octet_16 rfl rfl (fun h => absurd h (xn_nle (xn_lit 144) rfl (by omega) (by omega) (by omega))) (fun _ => ?_)
  refine ex_aload_n (a := ad (rp N 0)) 20 d_MO_octet_19 rfl rfl ?_
  refine xr_getR 23 d_MO_octet_20 rfl g_MO_22 (by decide) rfl rfl ?_
  refine ex_sipush (v := 144) 26 d_MO_octet_23 rfl (by decide) ?_
  refine ex_iload_n (a := nI n) 27 d_MO_octet_26 rfl rfl ?_
  refine ex_imulN (144 * n) 28 d_MO_octet_27 rfl (xn_lit 144) rfl (by omega) ?_
  refine ex_iload_n (a := nI b) 29 d_MO_octet_28 rfl rfl ?_
  refine ex_iaddN (b + 144 * n) 30 d_MO_octet_29 rfl rfl rfl (by omega) ?_
  refine xr_iald 31 d_MO_octet_30 rfl (by decide) rfl rfl (by omega) (by omega) ?_
  refine ex_goto 35 d_MO_octet_31 rfl ?_
  refine ex_iret d_MO_octet_35 rfl ⟨_, rfl, ?_⟩
  exact ⟨rfl, rfl⟩
set_option maxRecDepth 100000 in
set_option maxHeartbeats 4000000 in
theorem c_MO_value (n : Nat) (hnN : n < N) (hN : N ≤ 5) (hn : M 0 0 = nI N) (k : Nat) (hk : k < 4) (hok : rPok n M) : Ex G none mi_MO_value 0 0 0 (xEn mi_MO_value [.ref (ad (rp N 0)), .int (nI n), .int (nI k)]) [] (LR G ad N S M) (xI (fun v w => w = LR G ad N S (rValS n M) ∧ v = rValR n k M)) := by
  have hnI : isN N (nI n) := isN_nI hnN hN
  refine ex_aload_n (a := ad (rp N 0)) 1 d_MO_value_0 rfl rfl ?_
  refine ex_iload_n (a := nI n) 2 d_MO_value_1 rfl rfl ?_
  refine xr_callVi [.int (nI n)] [] 5 d_MO_value_2 rfl zv_MO_isNode ⟨(Nat.le_of_ble_eq_true rfl), (Nat.le_of_ble_eq_true rfl)⟩ m_MO_101 (by decide) rfl rfl rfl (Nat.le_of_ble_eq_true rfl) rfl (Nat.le_of_ble_eq_true rfl) (c_MO_isNode (S := S) (M := M) (nI n) hn) (fun vv ww q1 => ?_)
  rw [q1.1, q1.2]
  refine Ex.int (zb_t hnI) ?_
  refine ex_ifeq 26 8 d_MO_value_5 rfl rfl (fun h => absurd h (by decide)) (fun _ => ?_)
  refine ex_iload_n (a := nI k) 9 d_MO_value_8 rfl rfl ?_
  refine ex_iflt 26 12 d_MO_value_9 rfl rfl (fun h => absurd h (xn_nlt rfl (xn_lit 0) (by omega) (by omega) (by omega))) (fun _ => ?_)
  refine ex_iload_n (a := nI k) 13 d_MO_value_12 rfl rfl ?_
  refine ex_iconst (v := 3) 14 d_MO_value_13 rfl (by decide) ?_
  refine ex_icmpgt 26 17 d_MO_value_14 rfl rfl (fun h => absurd h (xn_nlt (xn_lit 3) rfl (by omega) (by omega) (by omega))) (fun _ => ?_)
  refine ex_aload_n (a := ad (rp N 0)) 18 d_MO_value_17 rfl rfl ?_
  refine xr_getR 21 d_MO_value_18 rfl g_MO_25 (by decide) rfl rfl ?_
  refine ex_iload_n (a := nI n) 22 d_MO_value_21 rfl rfl ?_
  refine xr_zald 23 d_MO_value_22 rfl (by decide) rfl rfl (by omega) (by omega) ?_
  refine ex_ifne 28 26 d_MO_value_23 rfl rfl (fun h2 => ?_) (fun h2 => ?_)
  · refine ex_aload_n (a := ad (rp N 0)) 29 d_MO_value_28 rfl rfl ?_
    refine ex_iload_n (a := nI n) 30 d_MO_value_29 rfl rfl ?_
    refine xr_callVv [.int (nI n)] [] 33 d_MO_value_30 rfl zv_MO_play ⟨(Nat.le_of_ble_eq_true rfl), (Nat.le_of_ble_eq_true rfl)⟩ m_MO_127 (by decide) rfl rfl rfl (Nat.le_of_ble_eq_true rfl) rfl (Nat.le_of_ble_eq_true rfl) (c_MO_play (S := S) (M := M) n (by omega) hok) (fun ww q3 => ?_)
    rw [q3]
    refine ex_aload_n (a := ad (rp N 0)) 34 d_MO_value_33 rfl rfl ?_
    refine xr_getR 37 d_MO_value_34 rfl g_MO_62 (by decide) rfl rfl ?_
    refine ex_iload_n (a := nI k) 38 d_MO_value_37 rfl rfl ?_
    refine xr_iald 39 d_MO_value_38 rfl (by decide) rfl rfl (by omega) (by omega) ?_
    refine ex_iret d_MO_value_39 rfl ⟨_, rfl, ?_⟩
    refine ⟨?_, ?_⟩
    · unfold rValS; rw [if_neg h2]
    · unfold rValR; rw [if_neg h2]
  · refine ex_iconst (v := 0) 27 d_MO_value_26 rfl (by decide) ?_
    refine ex_iret d_MO_value_27 rfl ⟨_, rfl, ?_⟩
    refine ⟨?_, ?_⟩
    · unfold rValS; rw [if_pos h2]
    · unfold rValR; rw [if_pos h2]
set_option maxRecDepth 100000 in
set_option maxHeartbeats 4000000 in
theorem c_MO_reply  (hN : N ≤ 5) (hn : M 0 0 = nI N) (q r : Nat) (hr : M 0 1 = nI r) (hq1 : 1 ≤ q) (hqr : q ≤ r) (hr30 : r ≤ 30) (c : Int32) : Ex G none mi_MO_reply 0 0 0 (xEn mi_MO_reply [.ref (ad (rp N 0)), .int (nI q), .int c]) [] (LR G ad N S M) (xI (fun v w => w = LR G ad N S M ∧ v = rReplyR q c M)) := by
  refine ex_iload_n (a := nI q) 1 d_MO_reply_0 rfl rfl ?_
  refine ex_iconst (v := 1) 2 d_MO_reply_1 rfl (by decide) ?_
  refine ex_icmplt 13 5 d_MO_reply_2 rfl rfl (fun h => absurd h (xn_nlt rfl (xn_lit 1) (by omega) (by omega) (by omega))) (fun _ => ?_)
  refine ex_iload_n (a := nI q) 6 d_MO_reply_5 rfl rfl ?_
  refine ex_aload_n (a := ad (rp N 0)) 7 d_MO_reply_6 rfl rfl ?_
  refine xr_get 10 d_MO_reply_7 rfl g_MO_82 (by decide) rfl rfl ?_
  refine ex_icmple 17 13 d_MO_reply_10 rfl rfl (fun _ => ?_) (fun h => absurd (xn_le rfl hr (by omega) (by omega) (by omega)) h)
  refine ex_iload_n (a := c) 18 d_MO_reply_17 rfl rfl ?_
  refine ex_ifeq 30 21 d_MO_reply_18 rfl rfl (fun h1 => ?_) (fun h1 => ?_)
  · refine ex_aload_n (a := ad (rp N 0)) 31 d_MO_reply_30 rfl rfl ?_
    refine xr_getR 34 d_MO_reply_31 rfl g_MO_16 (by decide) rfl rfl ?_
    refine ex_iload_n (a := nI q) 35 d_MO_reply_34 rfl rfl ?_
    refine xr_iald 36 d_MO_reply_35 rfl (by decide) rfl rfl (by omega) (by omega) ?_
    refine ex_iret d_MO_reply_36 rfl ⟨_, rfl, ?_⟩
    refine ⟨?_, ?_⟩
    · rfl
    · unfold rReplyR; rw [if_pos h1]
  · refine ex_aload_n (a := ad (rp N 0)) 22 d_MO_reply_21 rfl rfl ?_
    refine xr_getR 25 d_MO_reply_22 rfl g_MO_19 (by decide) rfl rfl ?_
    refine ex_iload_n (a := nI q) 26 d_MO_reply_25 rfl rfl ?_
    refine xr_iald 27 d_MO_reply_26 rfl (by decide) rfl rfl (by omega) (by omega) ?_
    refine ex_goto 36 d_MO_reply_27 rfl ?_
    refine ex_iret d_MO_reply_36 rfl ⟨_, rfl, ?_⟩
    refine ⟨?_, ?_⟩
    · rfl
    · unfold rReplyR; rw [if_neg h1]
set_option maxRecDepth 100000 in
set_option maxHeartbeats 4000000 in
theorem c_MO_ask  (hN : N ≤ 5) (hn : M 0 0 = nI N) (k : Nat) (hk : k < 4) (u : Int32) (q : Nat) (hq : M 0 1 = nI q) (hq30 : q ≤ 30) : Ex G none mi_MO_ask 0 0 0 (xEn mi_MO_ask [.ref (ad (rp N 0)), .int (nI k), .int u]) [] (LR G ad N S M) (xI (fun v w => w = LR G ad N S (rAskS q (nI k) u M) ∧ v = rAskR q)) := by
  refine ex_iload_n (a := nI k) 1 d_MO_ask_0 rfl rfl ?_
  refine ex_iflt 18 4 d_MO_ask_1 rfl rfl (fun h => absurd h (xn_nlt rfl (xn_lit 0) (by omega) (by omega) (by omega))) (fun _ => ?_)
  refine ex_iload_n (a := nI k) 5 d_MO_ask_4 rfl rfl ?_
  refine ex_iconst (v := 3) 6 d_MO_ask_5 rfl (by decide) ?_
  refine ex_icmpgt 18 9 d_MO_ask_6 rfl rfl (fun h => absurd h (xn_nlt (xn_lit 3) rfl (by omega) (by omega) (by omega))) (fun _ => ?_)
  refine ex_aload_n (a := ad (rp N 0)) 10 d_MO_ask_9 rfl rfl ?_
  refine xr_get 13 d_MO_ask_10 rfl g_MO_82 (by decide) rfl rfl ?_
  refine ex_bipush (v := 30) 15 d_MO_ask_13 rfl (by decide) ?_
  refine ex_icmpne 20 18 d_MO_ask_15 rfl rfl (fun h1 => ?_) (fun h1 => ?_)
  · have hq29 := ask_lt hq30 h1 hq
    refine ex_aload_n (a := ad (rp N 0)) 21 d_MO_ask_20 rfl rfl ?_
    refine ex_dup 22 d_MO_ask_21 rfl rfl ?_
    refine xr_get 25 d_MO_ask_22 rfl g_MO_82 (by decide) rfl rfl ?_
    refine ex_iconst (v := 1) 26 d_MO_ask_25 rfl (by decide) ?_
    refine ex_iaddN (q + 1) 27 d_MO_ask_26 rfl hq (xn_lit 1) (by omega) ?_
    refine xr_put 30 d_MO_ask_27 rfl p_MO_82 rfl rfl (by decide) rfl rfl ?_
    refine ex_aload_n (a := ad (rp N 0)) 31 d_MO_ask_30 rfl rfl ?_
    refine xr_getR 34 d_MO_ask_31 rfl g_MO_7 (by decide) rfl rfl ?_
    refine ex_aload_n (a := ad (rp N 0)) 35 d_MO_ask_34 rfl rfl ?_
    refine xr_get 38 d_MO_ask_35 rfl g_MO_82 (by decide) rfl rfl ?_
    refine ex_iload_n (a := nI k) 39 d_MO_ask_38 rfl rfl ?_
    refine xr_iast 40 d_MO_ask_39 rfl (by decide) rfl (show _ = nI (q + 1) from rfl) (by omega) (by omega) ?_
    refine ex_aload_n (a := ad (rp N 0)) 41 d_MO_ask_40 rfl rfl ?_
    refine xr_getR 44 d_MO_ask_41 rfl g_MO_13 (by decide) rfl rfl ?_
    refine ex_aload_n (a := ad (rp N 0)) 45 d_MO_ask_44 rfl rfl ?_
    refine xr_get 48 d_MO_ask_45 rfl g_MO_82 (by decide) rfl rfl ?_
    refine ex_iload_n (a := u) 49 d_MO_ask_48 rfl rfl ?_
    refine xr_iast 50 d_MO_ask_49 rfl (by decide) rfl (show _ = nI (q + 1) from rfl) (by omega) (by omega) ?_
    refine ex_aload_n (a := ad (rp N 0)) 51 d_MO_ask_50 rfl rfl ?_
    refine xr_get 54 d_MO_ask_51 rfl g_MO_82 (by decide) rfl rfl ?_
    refine ex_iret d_MO_ask_54 rfl ⟨_, rfl, ?_⟩
    have h0 := h1
    rw [hq] at h0
    refine ⟨?_, ?_⟩
    · unfold rAskS; rw [if_neg h0]
    · unfold rAskR; rw [if_neg h0]; rfl
  · refine ex_iconst (v := (-1)) 19 d_MO_ask_18 rfl (by decide) ?_
    refine ex_iret d_MO_ask_19 rfl ⟨_, rfl, ?_⟩
    have h0 := h1
    rw [hq] at h0
    refine ⟨?_, ?_⟩
    · unfold rAskS; rw [if_pos h0]
    · unfold rAskR; rw [if_pos h0]
set_option maxRecDepth 100000 in
set_option maxHeartbeats 4000000 in
theorem c_MO_canSpoil (n : Nat) (hnN : n < N) (hN : N ≤ 5) (hn : M 0 0 = nI N) (s : Nat) (hs : s < 18) : Ex G none mi_MO_canSpoil 0 0 0 (xEn mi_MO_canSpoil [.ref (ad (rp N 0)), .int (nI n), .int (nI s)]) [] (LR G ad N S M) (xI (fun v w => w = LR G ad N S M ∧ v = zb (¬ rWrF (M 5) (144 * n + 8 * s)))) := by
  have hnI : isN N (nI n) := isN_nI hnN hN
  refine ex_aload_n (a := ad (rp N 0)) 1 d_MO_canSpoil_0 rfl rfl ?_
  refine ex_iload_n (a := nI n) 2 d_MO_canSpoil_1 rfl rfl ?_
  refine xr_callVi [.int (nI n)] [] 5 d_MO_canSpoil_2 rfl zv_MO_isNode ⟨(Nat.le_of_ble_eq_true rfl), (Nat.le_of_ble_eq_true rfl)⟩ m_MO_101 (by decide) rfl rfl rfl (Nat.le_of_ble_eq_true rfl) rfl (Nat.le_of_ble_eq_true rfl) (c_MO_isNode (S := S) (M := M) (nI n) hn) (fun vv ww q1 => ?_)
  rw [q1.1, q1.2]
  refine Ex.int (zb_t hnI) ?_
  refine ex_ifeq 31 8 d_MO_canSpoil_5 rfl rfl (fun h => absurd h (by decide)) (fun _ => ?_)
  refine ex_iload_n (a := nI s) 9 d_MO_canSpoil_8 rfl rfl ?_
  refine ex_iflt 31 12 d_MO_canSpoil_9 rfl rfl (fun h => absurd h (xn_nlt rfl (xn_lit 0) (by omega) (by omega) (by omega))) (fun _ => ?_)
  refine ex_iload_n (a := nI s) 13 d_MO_canSpoil_12 rfl rfl ?_
  refine ex_bipush (v := 17) 15 d_MO_canSpoil_13 rfl (by decide) ?_
  refine ex_icmpgt 31 18 d_MO_canSpoil_15 rfl rfl (fun h => absurd h (xn_nlt (xn_lit 17) rfl (by omega) (by omega) (by omega))) (fun _ => ?_)
  refine ex_aload_n (a := ad (rp N 0)) 19 d_MO_canSpoil_18 rfl rfl ?_
  refine ex_iload_n (a := nI n) 20 d_MO_canSpoil_19 rfl rfl ?_
  refine ex_iload_n (a := nI s) 21 d_MO_canSpoil_20 rfl rfl ?_
  refine xr_callVi [.int (nI n), .int (nI s)] [] 24 d_MO_canSpoil_21 rfl zv_MO_isWrong ⟨(Nat.le_of_ble_eq_true rfl), (Nat.le_of_ble_eq_true rfl)⟩ m_MO_96 (by decide) rfl rfl rfl (Nat.le_of_ble_eq_true rfl) rfl (Nat.le_of_ble_eq_true rfl) (c_MO_isWrong (S := S) (M := M) n s (by omega) (by omega)) (fun vv ww q2 => ?_)
  rw [q2.1, q2.2]
  by_cases h3 : rWrF (M 5) (144 * n + 8 * s)
  · refine Ex.int (zb_t h3) ?_
    refine ex_ifne 31 27 d_MO_canSpoil_24 rfl rfl (fun _ => ?_) (fun h => absurd h (by decide))
    refine ex_iconst (v := 0) 32 d_MO_canSpoil_31 rfl (by decide) ?_
    refine ex_zret d_MO_canSpoil_32 rfl rfl ⟨_, rfl, ?_⟩
    exact ⟨rfl, (Eq.symm (zb_f (fun z => z h3)))⟩
  · refine Ex.int (zb_f h3) ?_
    refine ex_ifne 31 27 d_MO_canSpoil_24 rfl rfl (fun h => absurd (by decide) h) (fun _ => ?_)
    refine ex_iconst (v := 1) 28 d_MO_canSpoil_27 rfl (by decide) ?_
    refine ex_goto 32 d_MO_canSpoil_28 rfl ?_
    refine ex_zret d_MO_canSpoil_32 rfl rfl ⟨_, rfl, ?_⟩
    exact ⟨rfl, (Eq.symm (zb_t h3))⟩
set_option maxRecDepth 100000 in
set_option maxHeartbeats 4000000 in
theorem c_MO_flip (n : Nat) (hnN : n < N) (hN : N ≤ 5) (hn : M 0 0 = nI N) (s b : Nat) (hs : s < 18) (hb : b < 64) : Ex G none mi_MO_flip 0 0 0 (xEn mi_MO_flip [.ref (ad (rp N 0)), .int (nI n), .int (nI s), .int (nI b)]) [] (LR G ad N S M) (xI (fun v w => w = LR G ad N S (rFlipS n s b M) ∧ v = rFlipR n s M)) := by
  have hnI : isN N (nI n) := isN_nI hnN hN
  refine ex_aload_n (a := ad (rp N 0)) 1 d_MO_flip_0 rfl rfl ?_
  refine ex_iload_n (a := nI n) 2 d_MO_flip_1 rfl rfl ?_
  refine ex_iload_n (a := nI s) 3 d_MO_flip_2 rfl rfl ?_
  refine xr_callVi [.int (nI n), .int (nI s)] [] 6 d_MO_flip_3 rfl zv_MO_canSpoil ⟨(Nat.le_of_ble_eq_true rfl), (Nat.le_of_ble_eq_true rfl)⟩ m_MO_108 (by decide) rfl rfl rfl (Nat.le_of_ble_eq_true rfl) rfl (Nat.le_of_ble_eq_true rfl) (c_MO_canSpoil (S := S) (M := M) n hnN hN hn s (by omega)) (fun vv ww q1 => ?_)
  rw [q1.1, q1.2]
  by_cases h2 : ¬ rWrF (M 5) (144 * n + 8 * s)
  · refine Ex.int (zb_t h2) ?_
    refine ex_ifeq 19 9 d_MO_flip_6 rfl rfl (fun h => absurd h (by decide)) (fun _ => ?_)
    refine ex_iload_n (a := nI b) 10 d_MO_flip_9 rfl rfl ?_
    refine ex_iflt 19 13 d_MO_flip_10 rfl rfl (fun h => absurd h (xn_nlt rfl (xn_lit 0) (by omega) (by omega) (by omega))) (fun _ => ?_)
    refine ex_iload_n (a := nI b) 14 d_MO_flip_13 rfl rfl ?_
    refine ex_bipush (v := 63) 16 d_MO_flip_14 rfl (by decide) ?_
    refine ex_icmple 21 19 d_MO_flip_16 rfl rfl (fun _ => ?_) (fun h => absurd (xn_le rfl (xn_lit 63) (by omega) (by omega) (by omega)) h)
    refine ex_aload_n (a := ad (rp N 0)) 22 d_MO_flip_21 rfl rfl ?_
    refine xr_getR 25 d_MO_flip_22 rfl g_MO_22 (by decide) rfl rfl ?_
    refine ex_sipush (v := 144) 28 d_MO_flip_25 rfl (by decide) ?_
    refine ex_iload_n (a := nI n) 29 d_MO_flip_28 rfl rfl ?_
    refine ex_imulN (144 * n) 30 d_MO_flip_29 rfl (xn_lit 144) rfl (by omega) ?_
    refine ex_bipush (v := 8) 32 d_MO_flip_30 rfl (by decide) ?_
    refine ex_iload_n (a := nI s) 33 d_MO_flip_32 rfl rfl ?_
    refine ex_imulN (8 * s) 34 d_MO_flip_33 rfl (xn_lit 8) rfl (by omega) ?_
    refine ex_iaddN (144 * n + 8 * s) 35 d_MO_flip_34 rfl rfl rfl (by omega) ?_
    refine ex_iload_n (a := nI b) 36 d_MO_flip_35 rfl rfl ?_
    refine ex_bipush (v := 8) 38 d_MO_flip_36 rfl (by decide) ?_
    refine ex_idivN 39 d_MO_flip_38 rfl rfl (xn_lit 8) (by decide) (by omega) (by omega) (by omega) ?_
    refine ex_iaddN ((b / 8) + 144 * n + 8 * s) 40 d_MO_flip_39 rfl rfl rfl (by omega) ?_
    refine ex_dup2 41 d_MO_flip_40 rfl rfl rfl ?_
    refine xr_iald 42 d_MO_flip_41 rfl (by decide) rfl rfl (by omega) (by omega) ?_
    refine ex_iconst (v := 1) 43 d_MO_flip_42 rfl (by decide) ?_
    refine ex_iload_n (a := nI b) 44 d_MO_flip_43 rfl rfl ?_
    refine ex_bipush (v := 8) 46 d_MO_flip_44 rfl (by decide) ?_
    refine ex_iremN 47 d_MO_flip_46 rfl rfl (xn_lit 8) (by decide) (by omega) (by omega) (by omega) ?_
    refine ex_ishl 48 d_MO_flip_47 rfl ?_
    refine ex_ixor 49 d_MO_flip_48 rfl ?_
    refine xr_iast 50 d_MO_flip_49 rfl (by decide) rfl rfl (by omega) (by omega) ?_
    refine ex_iconst (v := 1) 51 d_MO_flip_50 rfl (by decide) ?_
    refine ex_zret d_MO_flip_51 rfl rfl ⟨_, rfl, ?_⟩
    refine ⟨?_, ?_⟩
    · unfold rFlipS; rw [if_neg h2]; rfl
    · unfold rFlipR; rw [if_neg h2]
  · refine Ex.int (zb_f h2) ?_
    refine ex_ifeq 19 9 d_MO_flip_6 rfl rfl (fun _ => ?_) (fun h => absurd (by decide) h)
    refine ex_iconst (v := 0) 20 d_MO_flip_19 rfl (by decide) ?_
    refine ex_zret d_MO_flip_20 rfl rfl ⟨_, rfl, ?_⟩
    refine ⟨?_, ?_⟩
    · unfold rFlipS; rw [if_pos (Classical.not_not.mp h2)]
    · unfold rFlipR; rw [if_pos (Classical.not_not.mp h2)]
set_option maxRecDepth 100000 in
set_option maxHeartbeats 4000000 in
theorem c_MO_wipe (n : Nat) (hnN : n < N) (hN : N ≤ 5) (hn : M 0 0 = nI N) (s : Nat) (hs : s < 18) : Ex G none mi_MO_wipe 0 0 0 (xEn mi_MO_wipe [.ref (ad (rp N 0)), .int (nI n), .int (nI s)]) [] (LR G ad N S M) (xI (fun v w => w = LR G ad N S (rWipeS n s M) ∧ v = rFlipR n s M)) := by
  have hnI : isN N (nI n) := isN_nI hnN hN
  refine ex_aload_n (a := ad (rp N 0)) 1 d_MO_wipe_0 rfl rfl ?_
  refine ex_iload_n (a := nI n) 2 d_MO_wipe_1 rfl rfl ?_
  refine ex_iload_n (a := nI s) 3 d_MO_wipe_2 rfl rfl ?_
  refine xr_callVi [.int (nI n), .int (nI s)] [] 6 d_MO_wipe_3 rfl zv_MO_canSpoil ⟨(Nat.le_of_ble_eq_true rfl), (Nat.le_of_ble_eq_true rfl)⟩ m_MO_108 (by decide) rfl rfl rfl (Nat.le_of_ble_eq_true rfl) rfl (Nat.le_of_ble_eq_true rfl) (c_MO_canSpoil (S := S) (M := M) n hnN hN hn s (by omega)) (fun vv ww q1 => ?_)
  rw [q1.1, q1.2]
  by_cases h2 : ¬ rWrF (M 5) (144 * n + 8 * s)
  · refine Ex.int (zb_t h2) ?_
    refine ex_ifne 11 9 d_MO_wipe_6 rfl rfl (fun _ => ?_) (fun h => absurd h (by decide))
    refine ex_iconst (v := 0) 12 d_MO_wipe_11 rfl (by decide) ?_
    refine ex_istore_n 13 d_MO_wipe_12 rfl (Nat.le_of_ble_eq_true rfl) ?_
    refine ex_iload_n (a := 0) 14 d_MO_wipe_13 rfl rfl ?_
    refine ex_bipush (v := 8) 16 d_MO_wipe_14 rfl (by decide) ?_
    refine ex_icmpge 43 19 d_MO_wipe_16 rfl rfl (fun h => absurd h (by decide)) (fun _ => ?_)
    refine ex_aload_n (a := ad (rp N 0)) 20 d_MO_wipe_19 rfl rfl ?_
    refine xr_getR 23 d_MO_wipe_20 rfl g_MO_22 (by decide) rfl rfl ?_
    refine ex_sipush (v := 144) 26 d_MO_wipe_23 rfl (by decide) ?_
    refine ex_iload_n (a := nI n) 27 d_MO_wipe_26 rfl rfl ?_
    refine ex_imulN (144 * n) 28 d_MO_wipe_27 rfl (xn_lit 144) rfl (by omega) ?_
    refine ex_bipush (v := 8) 30 d_MO_wipe_28 rfl (by decide) ?_
    refine ex_iload_n (a := nI s) 31 d_MO_wipe_30 rfl rfl ?_
    refine ex_imulN (8 * s) 32 d_MO_wipe_31 rfl (xn_lit 8) rfl (by omega) ?_
    refine ex_iaddN (144 * n + 8 * s) 33 d_MO_wipe_32 rfl rfl rfl (by omega) ?_
    refine ex_iload_n (a := 0) 34 d_MO_wipe_33 rfl rfl ?_
    refine ex_iaddN (144 * n + 8 * s) 35 d_MO_wipe_34 rfl rfl (xn_lit 0) (by omega) ?_
    refine ex_iconst (v := 0) 36 d_MO_wipe_35 rfl (by decide) ?_
    refine xr_iast 37 d_MO_wipe_36 rfl (by decide) rfl rfl (by omega) (by omega) ?_
    refine ex_iinc (a := 0) (v := nI (1)) 40 d_MO_wipe_37 rfl rfl (xn_inc (xn_lit 0)) ?_
    refine ex_goto 13 d_MO_wipe_40 rfl ?_
    refine ex_iload_n (a := nI (1)) 14 d_MO_wipe_13 rfl rfl ?_
    refine ex_bipush (v := 8) 16 d_MO_wipe_14 rfl (by decide) ?_
    refine ex_icmpge 43 19 d_MO_wipe_16 rfl rfl (fun h => absurd h (xn_nle (xn_lit 8) rfl (by omega) (by omega) (by omega))) (fun _ => ?_)
    refine ex_aload_n (a := ad (rp N 0)) 20 d_MO_wipe_19 rfl rfl ?_
    refine xr_getR 23 d_MO_wipe_20 rfl g_MO_22 (by decide) rfl rfl ?_
    refine ex_sipush (v := 144) 26 d_MO_wipe_23 rfl (by decide) ?_
    refine ex_iload_n (a := nI n) 27 d_MO_wipe_26 rfl rfl ?_
    refine ex_imulN (144 * n) 28 d_MO_wipe_27 rfl (xn_lit 144) rfl (by omega) ?_
    refine ex_bipush (v := 8) 30 d_MO_wipe_28 rfl (by decide) ?_
    refine ex_iload_n (a := nI s) 31 d_MO_wipe_30 rfl rfl ?_
    refine ex_imulN (8 * s) 32 d_MO_wipe_31 rfl (xn_lit 8) rfl (by omega) ?_
    refine ex_iaddN (144 * n + 8 * s) 33 d_MO_wipe_32 rfl rfl rfl (by omega) ?_
    refine ex_iload_n (a := nI (1)) 34 d_MO_wipe_33 rfl rfl ?_
    refine ex_iaddN (144 * n + 8 * s + 1) 35 d_MO_wipe_34 rfl rfl rfl (by omega) ?_
    refine ex_iconst (v := 0) 36 d_MO_wipe_35 rfl (by decide) ?_
    refine xr_iast 37 d_MO_wipe_36 rfl (by decide) rfl rfl (by omega) (by omega) ?_
    refine ex_iinc (a := nI (1)) (v := nI (2)) 40 d_MO_wipe_37 rfl rfl (xn_inc rfl) ?_
    refine ex_goto 13 d_MO_wipe_40 rfl ?_
    refine ex_iload_n (a := nI (2)) 14 d_MO_wipe_13 rfl rfl ?_
    refine ex_bipush (v := 8) 16 d_MO_wipe_14 rfl (by decide) ?_
    refine ex_icmpge 43 19 d_MO_wipe_16 rfl rfl (fun h => absurd h (xn_nle (xn_lit 8) rfl (by omega) (by omega) (by omega))) (fun _ => ?_)
    refine ex_aload_n (a := ad (rp N 0)) 20 d_MO_wipe_19 rfl rfl ?_
    refine xr_getR 23 d_MO_wipe_20 rfl g_MO_22 (by decide) rfl rfl ?_
    refine ex_sipush (v := 144) 26 d_MO_wipe_23 rfl (by decide) ?_
    refine ex_iload_n (a := nI n) 27 d_MO_wipe_26 rfl rfl ?_
    refine ex_imulN (144 * n) 28 d_MO_wipe_27 rfl (xn_lit 144) rfl (by omega) ?_
    refine ex_bipush (v := 8) 30 d_MO_wipe_28 rfl (by decide) ?_
    refine ex_iload_n (a := nI s) 31 d_MO_wipe_30 rfl rfl ?_
    refine ex_imulN (8 * s) 32 d_MO_wipe_31 rfl (xn_lit 8) rfl (by omega) ?_
    refine ex_iaddN (144 * n + 8 * s) 33 d_MO_wipe_32 rfl rfl rfl (by omega) ?_
    refine ex_iload_n (a := nI (2)) 34 d_MO_wipe_33 rfl rfl ?_
    refine ex_iaddN (144 * n + 8 * s + 2) 35 d_MO_wipe_34 rfl rfl rfl (by omega) ?_
    refine ex_iconst (v := 0) 36 d_MO_wipe_35 rfl (by decide) ?_
    refine xr_iast 37 d_MO_wipe_36 rfl (by decide) rfl rfl (by omega) (by omega) ?_
    refine ex_iinc (a := nI (2)) (v := nI (3)) 40 d_MO_wipe_37 rfl rfl (xn_inc rfl) ?_
    refine ex_goto 13 d_MO_wipe_40 rfl ?_
    refine ex_iload_n (a := nI (3)) 14 d_MO_wipe_13 rfl rfl ?_
    refine ex_bipush (v := 8) 16 d_MO_wipe_14 rfl (by decide) ?_
    refine ex_icmpge 43 19 d_MO_wipe_16 rfl rfl (fun h => absurd h (xn_nle (xn_lit 8) rfl (by omega) (by omega) (by omega))) (fun _ => ?_)
    refine ex_aload_n (a := ad (rp N 0)) 20 d_MO_wipe_19 rfl rfl ?_
    refine xr_getR 23 d_MO_wipe_20 rfl g_MO_22 (by decide) rfl rfl ?_
    refine ex_sipush (v := 144) 26 d_MO_wipe_23 rfl (by decide) ?_
    refine ex_iload_n (a := nI n) 27 d_MO_wipe_26 rfl rfl ?_
    refine ex_imulN (144 * n) 28 d_MO_wipe_27 rfl (xn_lit 144) rfl (by omega) ?_
    refine ex_bipush (v := 8) 30 d_MO_wipe_28 rfl (by decide) ?_
    refine ex_iload_n (a := nI s) 31 d_MO_wipe_30 rfl rfl ?_
    refine ex_imulN (8 * s) 32 d_MO_wipe_31 rfl (xn_lit 8) rfl (by omega) ?_
    refine ex_iaddN (144 * n + 8 * s) 33 d_MO_wipe_32 rfl rfl rfl (by omega) ?_
    refine ex_iload_n (a := nI (3)) 34 d_MO_wipe_33 rfl rfl ?_
    refine ex_iaddN (144 * n + 8 * s + 3) 35 d_MO_wipe_34 rfl rfl rfl (by omega) ?_
    refine ex_iconst (v := 0) 36 d_MO_wipe_35 rfl (by decide) ?_
    refine xr_iast 37 d_MO_wipe_36 rfl (by decide) rfl rfl (by omega) (by omega) ?_
    refine ex_iinc (a := nI (3)) (v := nI (4)) 40 d_MO_wipe_37 rfl rfl (xn_inc rfl) ?_
    refine ex_goto 13 d_MO_wipe_40 rfl ?_
    refine ex_iload_n (a := nI (4)) 14 d_MO_wipe_13 rfl rfl ?_
    refine ex_bipush (v := 8) 16 d_MO_wipe_14 rfl (by decide) ?_
    refine ex_icmpge 43 19 d_MO_wipe_16 rfl rfl (fun h => absurd h (xn_nle (xn_lit 8) rfl (by omega) (by omega) (by omega))) (fun _ => ?_)
    refine ex_aload_n (a := ad (rp N 0)) 20 d_MO_wipe_19 rfl rfl ?_
    refine xr_getR 23 d_MO_wipe_20 rfl g_MO_22 (by decide) rfl rfl ?_
    refine ex_sipush (v := 144) 26 d_MO_wipe_23 rfl (by decide) ?_
    refine ex_iload_n (a := nI n) 27 d_MO_wipe_26 rfl rfl ?_
    refine ex_imulN (144 * n) 28 d_MO_wipe_27 rfl (xn_lit 144) rfl (by omega) ?_
    refine ex_bipush (v := 8) 30 d_MO_wipe_28 rfl (by decide) ?_
    refine ex_iload_n (a := nI s) 31 d_MO_wipe_30 rfl rfl ?_
    refine ex_imulN (8 * s) 32 d_MO_wipe_31 rfl (xn_lit 8) rfl (by omega) ?_
    refine ex_iaddN (144 * n + 8 * s) 33 d_MO_wipe_32 rfl rfl rfl (by omega) ?_
    refine ex_iload_n (a := nI (4)) 34 d_MO_wipe_33 rfl rfl ?_
    refine ex_iaddN (144 * n + 8 * s + 4) 35 d_MO_wipe_34 rfl rfl rfl (by omega) ?_
    refine ex_iconst (v := 0) 36 d_MO_wipe_35 rfl (by decide) ?_
    refine xr_iast 37 d_MO_wipe_36 rfl (by decide) rfl rfl (by omega) (by omega) ?_
    refine ex_iinc (a := nI (4)) (v := nI (5)) 40 d_MO_wipe_37 rfl rfl (xn_inc rfl) ?_
    refine ex_goto 13 d_MO_wipe_40 rfl ?_
    refine ex_iload_n (a := nI (5)) 14 d_MO_wipe_13 rfl rfl ?_
    refine ex_bipush (v := 8) 16 d_MO_wipe_14 rfl (by decide) ?_
    refine ex_icmpge 43 19 d_MO_wipe_16 rfl rfl (fun h => absurd h (xn_nle (xn_lit 8) rfl (by omega) (by omega) (by omega))) (fun _ => ?_)
    refine ex_aload_n (a := ad (rp N 0)) 20 d_MO_wipe_19 rfl rfl ?_
    refine xr_getR 23 d_MO_wipe_20 rfl g_MO_22 (by decide) rfl rfl ?_
    refine ex_sipush (v := 144) 26 d_MO_wipe_23 rfl (by decide) ?_
    refine ex_iload_n (a := nI n) 27 d_MO_wipe_26 rfl rfl ?_
    refine ex_imulN (144 * n) 28 d_MO_wipe_27 rfl (xn_lit 144) rfl (by omega) ?_
    refine ex_bipush (v := 8) 30 d_MO_wipe_28 rfl (by decide) ?_
    refine ex_iload_n (a := nI s) 31 d_MO_wipe_30 rfl rfl ?_
    refine ex_imulN (8 * s) 32 d_MO_wipe_31 rfl (xn_lit 8) rfl (by omega) ?_
    refine ex_iaddN (144 * n + 8 * s) 33 d_MO_wipe_32 rfl rfl rfl (by omega) ?_
    refine ex_iload_n (a := nI (5)) 34 d_MO_wipe_33 rfl rfl ?_
    refine ex_iaddN (144 * n + 8 * s + 5) 35 d_MO_wipe_34 rfl rfl rfl (by omega) ?_
    refine ex_iconst (v := 0) 36 d_MO_wipe_35 rfl (by decide) ?_
    refine xr_iast 37 d_MO_wipe_36 rfl (by decide) rfl rfl (by omega) (by omega) ?_
    refine ex_iinc (a := nI (5)) (v := nI (6)) 40 d_MO_wipe_37 rfl rfl (xn_inc rfl) ?_
    refine ex_goto 13 d_MO_wipe_40 rfl ?_
    refine ex_iload_n (a := nI (6)) 14 d_MO_wipe_13 rfl rfl ?_
    refine ex_bipush (v := 8) 16 d_MO_wipe_14 rfl (by decide) ?_
    refine ex_icmpge 43 19 d_MO_wipe_16 rfl rfl (fun h => absurd h (xn_nle (xn_lit 8) rfl (by omega) (by omega) (by omega))) (fun _ => ?_)
    refine ex_aload_n (a := ad (rp N 0)) 20 d_MO_wipe_19 rfl rfl ?_
    refine xr_getR 23 d_MO_wipe_20 rfl g_MO_22 (by decide) rfl rfl ?_
    refine ex_sipush (v := 144) 26 d_MO_wipe_23 rfl (by decide) ?_
    refine ex_iload_n (a := nI n) 27 d_MO_wipe_26 rfl rfl ?_
    refine ex_imulN (144 * n) 28 d_MO_wipe_27 rfl (xn_lit 144) rfl (by omega) ?_
    refine ex_bipush (v := 8) 30 d_MO_wipe_28 rfl (by decide) ?_
    refine ex_iload_n (a := nI s) 31 d_MO_wipe_30 rfl rfl ?_
    refine ex_imulN (8 * s) 32 d_MO_wipe_31 rfl (xn_lit 8) rfl (by omega) ?_
    refine ex_iaddN (144 * n + 8 * s) 33 d_MO_wipe_32 rfl rfl rfl (by omega) ?_
    refine ex_iload_n (a := nI (6)) 34 d_MO_wipe_33 rfl rfl ?_
    refine ex_iaddN (144 * n + 8 * s + 6) 35 d_MO_wipe_34 rfl rfl rfl (by omega) ?_
    refine ex_iconst (v := 0) 36 d_MO_wipe_35 rfl (by decide) ?_
    refine xr_iast 37 d_MO_wipe_36 rfl (by decide) rfl rfl (by omega) (by omega) ?_
    refine ex_iinc (a := nI (6)) (v := nI (7)) 40 d_MO_wipe_37 rfl rfl (xn_inc rfl) ?_
    refine ex_goto 13 d_MO_wipe_40 rfl ?_
    refine ex_iload_n (a := nI (7)) 14 d_MO_wipe_13 rfl rfl ?_
    refine ex_bipush (v := 8) 16 d_MO_wipe_14 rfl (by decide) ?_
    refine ex_icmpge 43 19 d_MO_wipe_16 rfl rfl (fun h => absurd h (xn_nle (xn_lit 8) rfl (by omega) (by omega) (by omega))) (fun _ => ?_)
    refine ex_aload_n (a := ad (rp N 0)) 20 d_MO_wipe_19 rfl rfl ?_
    refine xr_getR 23 d_MO_wipe_20 rfl g_MO_22 (by decide) rfl rfl ?_
    refine ex_sipush (v := 144) 26 d_MO_wipe_23 rfl (by decide) ?_
    refine ex_iload_n (a := nI n) 27 d_MO_wipe_26 rfl rfl ?_
    refine ex_imulN (144 * n) 28 d_MO_wipe_27 rfl (xn_lit 144) rfl (by omega) ?_
    refine ex_bipush (v := 8) 30 d_MO_wipe_28 rfl (by decide) ?_
    refine ex_iload_n (a := nI s) 31 d_MO_wipe_30 rfl rfl ?_
    refine ex_imulN (8 * s) 32 d_MO_wipe_31 rfl (xn_lit 8) rfl (by omega) ?_
    refine ex_iaddN (144 * n + 8 * s) 33 d_MO_wipe_32 rfl rfl rfl (by omega) ?_
    refine ex_iload_n (a := nI (7)) 34 d_MO_wipe_33 rfl rfl ?_
    refine ex_iaddN (144 * n + 8 * s + 7) 35 d_MO_wipe_34 rfl rfl rfl (by omega) ?_
    refine ex_iconst (v := 0) 36 d_MO_wipe_35 rfl (by decide) ?_
    refine xr_iast 37 d_MO_wipe_36 rfl (by decide) rfl rfl (by omega) (by omega) ?_
    refine ex_iinc (a := nI (7)) (v := nI (8)) 40 d_MO_wipe_37 rfl rfl (xn_inc rfl) ?_
    refine ex_goto 13 d_MO_wipe_40 rfl ?_
    refine ex_iload_n (a := nI (8)) 14 d_MO_wipe_13 rfl rfl ?_
    refine ex_bipush (v := 8) 16 d_MO_wipe_14 rfl (by decide) ?_
    refine ex_icmpge 43 19 d_MO_wipe_16 rfl rfl (fun _ => ?_) (fun h => absurd (xn_le (xn_lit 8) rfl (by omega) (by omega) (by omega)) h)
    refine ex_iconst (v := 1) 44 d_MO_wipe_43 rfl (by decide) ?_
    refine ex_zret d_MO_wipe_44 rfl rfl ⟨_, rfl, ?_⟩
    refine ⟨?_, ?_⟩
    · unfold rWipeS; rw [if_neg h2]; rfl
    · unfold rFlipR; rw [if_neg h2]
  · refine Ex.int (zb_f h2) ?_
    refine ex_ifne 11 9 d_MO_wipe_6 rfl rfl (fun h => absurd (by decide) h) (fun _ => ?_)
    refine ex_iconst (v := 0) 10 d_MO_wipe_9 rfl (by decide) ?_
    refine ex_zret d_MO_wipe_10 rfl rfl ⟨_, rfl, ?_⟩
    refine ⟨?_, ?_⟩
    · unfold rWipeS; rw [if_pos (Classical.not_not.mp h2)]
    · unfold rFlipR; rw [if_pos (Classical.not_not.mp h2)]
set_option maxRecDepth 100000 in
set_option maxHeartbeats 4000000 in
theorem c_MO_look_0 (n : Nat) (hnN : n < N) (hN : N ≤ 5) (hn : M 0 0 = nI N)  : Ex G none mi_MO_look 0 0 0 (xEn mi_MO_look [.ref (ad (rp N 0)), .int (nI n), .int 0]) [] (LR G ad N S M) (xI (fun v w => w = LR G ad N S (M) ∧ v = if M 6 n = 0 then 0 else 1)) := by
  have hnI : isN N (nI n) := isN_nI hnN hN
  refine ex_aload_n (a := ad (rp N 0)) 1 d_MO_look_0 rfl rfl ?_
  refine ex_iload_n (a := nI n) 2 d_MO_look_1 rfl rfl ?_
  refine xr_callVi [.int (nI n)] [] 5 d_MO_look_2 rfl zv_MO_isNode ⟨(Nat.le_of_ble_eq_true rfl), (Nat.le_of_ble_eq_true rfl)⟩ m_MO_101 (by decide) rfl rfl rfl (Nat.le_of_ble_eq_true rfl) rfl (Nat.le_of_ble_eq_true rfl) (c_MO_isNode (S := S) (M := M) (nI n) hn) (fun vv ww q1 => ?_)
  rw [q1.1, q1.2]
  refine Ex.int (zb_t hnI) ?_
  refine ex_ifeq 18 8 d_MO_look_5 rfl rfl (fun h => absurd h (by decide)) (fun _ => ?_)
  refine ex_iload_n (a := 0) 9 d_MO_look_8 rfl rfl ?_
  refine ex_iflt 18 12 d_MO_look_9 rfl rfl (fun h => absurd h (by decide)) (fun _ => ?_)
  refine ex_iload_n (a := 0) 13 d_MO_look_12 rfl rfl ?_
  refine ex_bipush (v := 6) 15 d_MO_look_13 rfl (by decide) ?_
  refine ex_icmple 20 18 d_MO_look_15 rfl rfl (fun _ => ?_) (fun h => absurd (by decide) h)
  refine ex_iload_n (a := 0) 21 d_MO_look_20 rfl rfl ?_
  refine ex_bipush (v := 6) 23 d_MO_look_21 rfl (by decide) ?_
  refine ex_icmpne 33 26 d_MO_look_23 rfl rfl (fun _ => ?_) (fun h => absurd h (by decide))
  refine ex_aload_n (a := ad (rp N 0)) 34 d_MO_look_33 rfl rfl ?_
  refine xr_getR 37 d_MO_look_34 rfl g_MO_25 (by decide) rfl rfl ?_
  refine ex_iload_n (a := nI n) 38 d_MO_look_37 rfl rfl ?_
  refine xr_zald 39 d_MO_look_38 rfl (by decide) rfl rfl (by omega) (by omega) ?_
  refine ex_ifne 44 42 d_MO_look_39 rfl rfl (fun h2 => ?_) (fun h2 => ?_)
  · refine ex_iload_n (a := 0) 45 d_MO_look_44 rfl rfl ?_
    refine ex_tableIn 80 d_MO_look_45 (by decide) (by decide) rfl rfl ?_
    refine ex_iconst (v := 1) 81 d_MO_look_80 rfl (by decide) ?_
    refine ex_iret d_MO_look_81 rfl ⟨_, rfl, ?_⟩
    refine ⟨?_, ?_⟩
    · rfl
    · rw [if_neg h2]
  · refine ex_iconst (v := 0) 43 d_MO_look_42 rfl (by decide) ?_
    refine ex_iret d_MO_look_43 rfl ⟨_, rfl, ?_⟩
    refine ⟨?_, ?_⟩
    · rfl
    · rw [if_pos h2]
end WK
