section WK
variable {G : xC} {ad : Nat → Nat} {N : Nat} {S : sT}
set_option maxRecDepth 100000 in
set_option maxHeartbeats 4000000 in
theorem c_SL_look_out (n : Nat) (hn : n < N) (hN : N ≤ 5) (hI : Iok N S) (k : Int32) (hk : k.toInt < 0 ∨ 6 < k.toInt) : Ex G none mi_SL_look 0 0 0 (xEn mi_SL_look [.ref (ad 0), .int (nI n), .int k]) [] (LY G ad N S) (xI (fun v w => w = LY G ad N S ∧ v = (-1))) := by
  have hnN : isN N (nI n) := isN_nI hn hN
  refine ex_aload_n (a := ad 0) 1 d_SL_look_0 rfl rfl ?_
  refine ex_iload_n (a := nI n) 2 d_SL_look_1 rfl rfl ?_
  refine xl_callVi [.int (nI n)] [] 5 d_SL_look_2 rfl zv_SL_isNode ⟨(Nat.le_of_ble_eq_true rfl), (Nat.le_of_ble_eq_true rfl)⟩ m_SL_37 (kp0 (by decide)) sh_SL rfl rfl (Nat.le_of_ble_eq_true rfl) rfl (Nat.le_of_ble_eq_true rfl) (c_SL_isNode (S := S) (nI n)) (fun vv ww q1 => ?_)
  rw [q1.1, q1.2]
  refine Ex.int (zb_t hnN) ?_
  refine ex_ifne 10 8 d_SL_look_5 rfl rfl (fun _ => ?_) (fun h => absurd h (by decide))
  refine ex_aload_n (a := ad 0) 11 d_SL_look_10 rfl rfl ?_
  refine xl_getR 14 d_SL_look_11 rfl g_SL_18 (kp0 (by decide)) sh_SL rfl ?_
  refine ex_iload_n (a := nI n) 15 d_SL_look_14 rfl rfl ?_
  refine xl_aald 16 d_SL_look_15 rfl (kp0 (by decide)) sh_NA rfl (by omega) (by omega) ?_
  refine ex_astore_n 17 d_SL_look_16 rfl (Nat.le_of_ble_eq_true rfl) ?_
  refine ex_iload_n (a := k) 18 d_SL_look_17 rfl rfl ?_
  refine ex_tableOut 120 d_SL_look_18 hk rfl ?_
  refine ex_iconst (v := (-1)) 121 d_SL_look_120 rfl (by decide) ?_
  refine ex_iret d_SL_look_121 rfl ⟨_, rfl, ?_⟩
  exact ⟨rfl, rfl⟩
set_option maxRecDepth 100000 in
set_option maxHeartbeats 4000000 in
theorem c_SL_slot (n : Nat) (hn : n < N) (hN : N ≤ 5) (hI : Iok N S) (s : Nat) (hs1 : 1 ≤ s) (hs : s < 9) : Ex G none mi_SL_slot 0 0 0 (xEn mi_SL_slot [.ref (ad 0), .int (nI n), .int (nI s)]) [] (LY G ad N S) (xI (fun v w => w = LY G ad N S ∧ v = slotR n s S)) := by
  have hnN : isN N (nI n) := isN_nI hn hN; have hsS : isSl (nI s) := isSl_nI hs1 hs
  refine ex_aload_n (a := ad 0) 1 d_SL_slot_0 rfl rfl ?_
  refine ex_iload_n (a := nI n) 2 d_SL_slot_1 rfl rfl ?_
  refine xl_callVi [.int (nI n)] [] 5 d_SL_slot_2 rfl zv_SL_isNode ⟨(Nat.le_of_ble_eq_true rfl), (Nat.le_of_ble_eq_true rfl)⟩ m_SL_37 (kp0 (by decide)) sh_SL rfl rfl (Nat.le_of_ble_eq_true rfl) rfl (Nat.le_of_ble_eq_true rfl) (c_SL_isNode (S := S) (nI n)) (fun vv ww q1 => ?_)
  rw [q1.1, q1.2]
  refine Ex.int (zb_t hnN) ?_
  refine ex_ifeq 27 8 d_SL_slot_5 rfl rfl (fun h => absurd h (by decide)) (fun _ => ?_)
  refine ex_iload_n (a := nI s) 9 d_SL_slot_8 rfl rfl ?_
  refine xl_callSi [.int (nI s)] [] 12 d_SL_slot_9 rfl zs_SL_isSlot ⟨(Nat.le_of_ble_eq_true rfl), (Nat.le_of_ble_eq_true rfl)⟩ m_SL_109 rfl rfl (Nat.le_of_ble_eq_true rfl) rfl (Nat.le_of_ble_eq_true rfl) (c_SL_isSlot (S := S) (nI s)) (fun vv ww q2 => ?_)
  rw [q2.1, q2.2]
  refine Ex.int (zb_t hsS) ?_
  refine ex_ifeq 27 15 d_SL_slot_12 rfl rfl (fun h => absurd h (by decide)) (fun _ => ?_)
  refine ex_aload_n (a := ad 0) 16 d_SL_slot_15 rfl rfl ?_
  refine xl_getR 19 d_SL_slot_16 rfl g_SL_18 (kp0 (by decide)) sh_SL rfl ?_
  refine ex_iload_n (a := nI n) 20 d_SL_slot_19 rfl rfl ?_
  refine xl_aald 21 d_SL_slot_20 rfl (kp0 (by decide)) sh_NA rfl (by omega) (by omega) ?_
  refine xl_get 24 d_SL_slot_21 rfl g_SL_129 (kpl hn (by decide)) (sh_Node hn) rfl ?_
  refine ex_ifne 29 27 d_SL_slot_24 rfl rfl (fun h3 => ?_) (fun h3 => ?_)
  · refine ex_aload_n (a := ad 0) 30 d_SL_slot_29 rfl rfl ?_
    refine xl_getR 33 d_SL_slot_30 rfl g_SL_18 (kp0 (by decide)) sh_SL rfl ?_
    refine ex_iload_n (a := nI n) 34 d_SL_slot_33 rfl rfl ?_
    refine xl_aald 35 d_SL_slot_34 rfl (kp0 (by decide)) sh_NA rfl (by omega) (by omega) ?_
    refine xl_getR 38 d_SL_slot_35 rfl g_SL_75 (kpl hn (by decide)) (sh_Node hn) rfl ?_
    refine ex_iload_n (a := nI s) 39 d_SL_slot_38 rfl rfl ?_
    refine xl_iald 40 d_SL_slot_39 rfl (kpl hn (by decide)) (sh_Nslots hn) rfl (by omega) (by omega) ?_
    refine ex_iret d_SL_slot_40 rfl ⟨_, rfl, ?_⟩
    refine ⟨?_, ?_⟩
    · rfl
    · unfold slotR; rw [if_neg h3]
  · refine ex_iconst (v := (-1)) 28 d_SL_slot_27 rfl (by decide) ?_
    refine ex_iret d_SL_slot_28 rfl ⟨_, rfl, ?_⟩
    refine ⟨?_, ?_⟩
    · rfl
    · unfold slotR; rw [if_pos h3]
set_option maxRecDepth 100000 in
set_option maxHeartbeats 4000000 in
theorem c_SL_plan (n : Nat) (hn : n < N) (hN : N ≤ 5) (hI : Iok N S) (s : Nat) (hs1 : 1 ≤ s) (hs : s < 9) : Ex G none mi_SL_plan 0 0 0 (xEn mi_SL_plan [.ref (ad 0), .int (nI n), .int (nI s)]) [] (LY G ad N S) (xI (fun v w => w = LY G ad N S ∧ v = planR N n s S)) := by
  have hnN : isN N (nI n) := isN_nI hn hN; have hsS : isSl (nI s) := isSl_nI hs1 hs
  refine ex_aload_n (a := ad 0) 1 d_SL_plan_0 rfl rfl ?_
  refine ex_iload_n (a := nI n) 2 d_SL_plan_1 rfl rfl ?_
  refine xl_callVi [.int (nI n)] [] 5 d_SL_plan_2 rfl zv_SL_isNode ⟨(Nat.le_of_ble_eq_true rfl), (Nat.le_of_ble_eq_true rfl)⟩ m_SL_37 (kp0 (by decide)) sh_SL rfl rfl (Nat.le_of_ble_eq_true rfl) rfl (Nat.le_of_ble_eq_true rfl) (c_SL_isNode (S := S) (nI n)) (fun vv ww q1 => ?_)
  rw [q1.1, q1.2]
  refine Ex.int (zb_t hnN) ?_
  refine ex_ifeq 30 8 d_SL_plan_5 rfl rfl (fun h => absurd h (by decide)) (fun _ => ?_)
  refine ex_iload_n (a := nI s) 9 d_SL_plan_8 rfl rfl ?_
  refine xl_callSi [.int (nI s)] [] 12 d_SL_plan_9 rfl zs_SL_isSlot ⟨(Nat.le_of_ble_eq_true rfl), (Nat.le_of_ble_eq_true rfl)⟩ m_SL_109 rfl rfl (Nat.le_of_ble_eq_true rfl) rfl (Nat.le_of_ble_eq_true rfl) (c_SL_isSlot (S := S) (nI s)) (fun vv ww q2 => ?_)
  rw [q2.1, q2.2]
  refine Ex.int (zb_t hsS) ?_
  refine ex_ifeq 30 15 d_SL_plan_12 rfl rfl (fun h => absurd h (by decide)) (fun _ => ?_)
  refine ex_aload_n (a := ad 0) 16 d_SL_plan_15 rfl rfl ?_
  refine xl_getR 19 d_SL_plan_16 rfl g_SL_18 (kp0 (by decide)) sh_SL rfl ?_
  refine ex_iload_n (a := nI n) 20 d_SL_plan_19 rfl rfl ?_
  refine xl_aald 21 d_SL_plan_20 rfl (kp0 (by decide)) sh_NA rfl (by omega) (by omega) ?_
  refine xl_getR 24 d_SL_plan_21 rfl g_SL_55 (kpl hn (by decide)) (sh_Node hn) rfl ?_
  refine xl_callVi [] [] 27 d_SL_plan_24 rfl zv_Term_hasMajority ⟨(Nat.le_of_ble_eq_true rfl), (Nat.le_of_ble_eq_true rfl)⟩ m_SL_103 (kpl hn (by decide)) (sh_Term hn) rfl rfl (Nat.le_of_ble_eq_true rfl) rfl (Nat.le_of_ble_eq_true rfl) (c_Term_hasMajority (S := S) n hn) (fun vv ww q3 => ?_)
  rw [q3.1, q3.2]
  by_cases h4 : hasM n S
  · refine Ex.int (zb_t h4) ?_
    refine ex_ifne 32 30 d_SL_plan_27 rfl rfl (fun _ => ?_) (fun h => absurd h (by decide))
    refine ex_aload_n (a := ad 0) 33 d_SL_plan_32 rfl rfl ?_
    refine xl_getR 36 d_SL_plan_33 rfl g_SL_18 (kp0 (by decide)) sh_SL rfl ?_
    refine ex_iload_n (a := nI n) 37 d_SL_plan_36 rfl rfl ?_
    refine xl_aald 38 d_SL_plan_37 rfl (kp0 (by decide)) sh_NA rfl (by omega) (by omega) ?_
    refine xl_getR 41 d_SL_plan_38 rfl g_SL_55 (kpl hn (by decide)) (sh_Node hn) rfl ?_
    refine ex_iload_n (a := nI s) 42 d_SL_plan_41 rfl rfl ?_
    refine xl_callVi [.int (nI s)] [] 45 d_SL_plan_42 rfl zv_Term_planOf ⟨(Nat.le_of_ble_eq_true rfl), (Nat.le_of_ble_eq_true rfl)⟩ m_SL_187 (kpl hn (by decide)) (sh_Term hn) rfl rfl (Nat.le_of_ble_eq_true rfl) rfl (Nat.le_of_ble_eq_true rfl) (c_Term_planOf (S := S) n (s) hn (by omega) hN (hI.2.2.1 n hn)) (fun vv ww q5 => ?_)
    rw [q5.1, q5.2]
    refine ex_iret d_SL_plan_45 rfl ⟨_, rfl, ?_⟩
    refine ⟨?_, ?_⟩
    · rfl
    · unfold planR; rw [if_pos h4]
  · refine Ex.int (zb_f h4) ?_
    refine ex_ifne 32 30 d_SL_plan_27 rfl rfl (fun h => absurd (by decide) h) (fun _ => ?_)
    refine ex_iconst (v := (-1)) 31 d_SL_plan_30 rfl (by decide) ?_
    refine ex_iret d_SL_plan_31 rfl ⟨_, rfl, ?_⟩
    refine ⟨?_, ?_⟩
    · rfl
    · unfold planR; rw [if_neg h4]
set_option maxRecDepth 100000 in
set_option maxHeartbeats 4000000 in
theorem c_SL_chosen (n : Nat) (hn : n < N) (hN : N ≤ 5) (hI : Iok N S) (s : Nat) (hs1 : 1 ≤ s) (hs : s < 9) : Ex G none mi_SL_chosen 0 0 0 (xEn mi_SL_chosen [.ref (ad 0), .int (nI n), .int (nI s)]) [] (LY G ad N S) (xI (fun v w => w = LY G ad N S ∧ v = S (pl n 10) s)) := by
  have hnN : isN N (nI n) := isN_nI hn hN; have hsS : isSl (nI s) := isSl_nI hs1 hs
  refine ex_aload_n (a := ad 0) 1 d_SL_chosen_0 rfl rfl ?_
  refine ex_iload_n (a := nI n) 2 d_SL_chosen_1 rfl rfl ?_
  refine xl_callVi [.int (nI n)] [] 5 d_SL_chosen_2 rfl zv_SL_isNode ⟨(Nat.le_of_ble_eq_true rfl), (Nat.le_of_ble_eq_true rfl)⟩ m_SL_37 (kp0 (by decide)) sh_SL rfl rfl (Nat.le_of_ble_eq_true rfl) rfl (Nat.le_of_ble_eq_true rfl) (c_SL_isNode (S := S) (nI n)) (fun vv ww q1 => ?_)
  rw [q1.1, q1.2]
  refine Ex.int (zb_t hnN) ?_
  refine ex_ifeq 15 8 d_SL_chosen_5 rfl rfl (fun h => absurd h (by decide)) (fun _ => ?_)
  refine ex_iload_n (a := nI s) 9 d_SL_chosen_8 rfl rfl ?_
  refine xl_callSi [.int (nI s)] [] 12 d_SL_chosen_9 rfl zs_SL_isSlot ⟨(Nat.le_of_ble_eq_true rfl), (Nat.le_of_ble_eq_true rfl)⟩ m_SL_109 rfl rfl (Nat.le_of_ble_eq_true rfl) rfl (Nat.le_of_ble_eq_true rfl) (c_SL_isSlot (S := S) (nI s)) (fun vv ww q2 => ?_)
  rw [q2.1, q2.2]
  refine Ex.int (zb_t hsS) ?_
  refine ex_ifne 17 15 d_SL_chosen_12 rfl rfl (fun _ => ?_) (fun h => absurd h (by decide))
  refine ex_aload_n (a := ad 0) 18 d_SL_chosen_17 rfl rfl ?_
  refine xl_getR 21 d_SL_chosen_18 rfl g_SL_18 (kp0 (by decide)) sh_SL rfl ?_
  refine ex_iload_n (a := nI n) 22 d_SL_chosen_21 rfl rfl ?_
  refine xl_aald 23 d_SL_chosen_22 rfl (kp0 (by decide)) sh_NA rfl (by omega) (by omega) ?_
  refine xl_getR 26 d_SL_chosen_23 rfl g_SL_86 (kpl hn (by decide)) (sh_Node hn) rfl ?_
  refine xl_getR 29 d_SL_chosen_26 rfl g_SL_190 (kpl hn (by decide)) (sh_Ledger hn) rfl ?_
  refine ex_iload_n (a := nI s) 30 d_SL_chosen_29 rfl rfl ?_
  refine xl_iald 31 d_SL_chosen_30 rfl (kpl hn (by decide)) (sh_Commands hn) rfl (by omega) (by omega) ?_
  refine ex_iret d_SL_chosen_31 rfl ⟨_, rfl, ?_⟩
  exact ⟨rfl, rfl⟩
set_option maxRecDepth 100000 in
set_option maxHeartbeats 4000000 in
theorem c_SL_value (n : Nat) (hn : n < N) (hN : N ≤ 5) (hI : Iok N S) (k : Nat) (hk : k < 4) : Ex G none mi_SL_value 0 0 0 (xEn mi_SL_value [.ref (ad 0), .int (nI n), .int (nI k)]) [] (LY G ad N S) (xI (fun v w => w = LY G ad N S ∧ v = S (pl n 11) k)) := by
  have hnN : isN N (nI n) := isN_nI hn hN; have hkK : isKy (nI k) := isKy_nI hk
  refine ex_aload_n (a := ad 0) 1 d_SL_value_0 rfl rfl ?_
  refine ex_iload_n (a := nI n) 2 d_SL_value_1 rfl rfl ?_
  refine xl_callVi [.int (nI n)] [] 5 d_SL_value_2 rfl zv_SL_isNode ⟨(Nat.le_of_ble_eq_true rfl), (Nat.le_of_ble_eq_true rfl)⟩ m_SL_37 (kp0 (by decide)) sh_SL rfl rfl (Nat.le_of_ble_eq_true rfl) rfl (Nat.le_of_ble_eq_true rfl) (c_SL_isNode (S := S) (nI n)) (fun vv ww q1 => ?_)
  rw [q1.1, q1.2]
  refine Ex.int (zb_t hnN) ?_
  refine ex_ifeq 15 8 d_SL_value_5 rfl rfl (fun h => absurd h (by decide)) (fun _ => ?_)
  refine ex_iload_n (a := nI k) 9 d_SL_value_8 rfl rfl ?_
  refine xl_callSi [.int (nI k)] [] 12 d_SL_value_9 rfl zs_SL_isKey ⟨(Nat.le_of_ble_eq_true rfl), (Nat.le_of_ble_eq_true rfl)⟩ m_SL_25 rfl rfl (Nat.le_of_ble_eq_true rfl) rfl (Nat.le_of_ble_eq_true rfl) (c_SL_isKey (S := S) (nI k)) (fun vv ww q2 => ?_)
  rw [q2.1, q2.2]
  refine Ex.int (zb_t hkK) ?_
  refine ex_ifne 17 15 d_SL_value_12 rfl rfl (fun _ => ?_) (fun h => absurd h (by decide))
  refine ex_aload_n (a := ad 0) 18 d_SL_value_17 rfl rfl ?_
  refine xl_getR 21 d_SL_value_18 rfl g_SL_18 (kp0 (by decide)) sh_SL rfl ?_
  refine ex_iload_n (a := nI n) 22 d_SL_value_21 rfl rfl ?_
  refine xl_aald 23 d_SL_value_22 rfl (kp0 (by decide)) sh_NA rfl (by omega) (by omega) ?_
  refine xl_getR 26 d_SL_value_23 rfl g_SL_86 (kpl hn (by decide)) (sh_Node hn) rfl ?_
  refine xl_getR 29 d_SL_value_26 rfl g_SL_193 (kpl hn (by decide)) (sh_Ledger hn) rfl ?_
  refine ex_iload_n (a := nI k) 30 d_SL_value_29 rfl rfl ?_
  refine xl_iald 31 d_SL_value_30 rfl (kpl hn (by decide)) (sh_Numbers hn) rfl (by omega) (by omega) ?_
  refine ex_iret d_SL_value_31 rfl ⟨_, rfl, ?_⟩
  exact ⟨rfl, rfl⟩
set_option maxRecDepth 100000 in
set_option maxHeartbeats 4000000 in
theorem c_SL_octet (n : Nat) (hn : n < N) (hN : N ≤ 5) (hI : Iok N S) (b : Nat) (hb : b < 144) : Ex G none mi_SL_octet 0 0 0 (xEn mi_SL_octet [.ref (ad 0), .int (nI n), .int (nI b)]) [] (LY G ad N S) (xI (fun v w => w = LY G ad N S ∧ v = S (pl n 2) b)) := by
  have hnN : isN N (nI n) := isN_nI hn hN
  refine ex_aload_n (a := ad 0) 1 d_SL_octet_0 rfl rfl ?_
  refine ex_iload_n (a := nI n) 2 d_SL_octet_1 rfl rfl ?_
  refine xl_callVi [.int (nI n)] [] 5 d_SL_octet_2 rfl zv_SL_isNode ⟨(Nat.le_of_ble_eq_true rfl), (Nat.le_of_ble_eq_true rfl)⟩ m_SL_37 (kp0 (by decide)) sh_SL rfl rfl (Nat.le_of_ble_eq_true rfl) rfl (Nat.le_of_ble_eq_true rfl) (c_SL_isNode (S := S) (nI n)) (fun vv ww q1 => ?_)
  rw [q1.1, q1.2]
  refine Ex.int (zb_t hnN) ?_
  refine ex_ifeq 19 8 d_SL_octet_5 rfl rfl (fun h => absurd h (by decide)) (fun _ => ?_)
  refine ex_iload_n (a := nI b) 9 d_SL_octet_8 rfl rfl ?_
  refine ex_iflt 19 12 d_SL_octet_9 rfl rfl (fun h => absurd h (xn_nlt rfl (xn_lit 0) (by omega) (by omega) (by omega))) (fun _ => ?_)
  refine ex_iload_n (a := nI b) 13 d_SL_octet_12 rfl rfl ?_
  refine ex_sipush (v := 144) 16 d_SL_octet_13 rfl (by decide) ?_
  refine ex_icmplt 21 19 d_SL_octet_16 rfl rfl (fun _ => ?_) (fun h => absurd (xn_lt rfl (xn_lit 144) (by omega) (by omega) (by omega)) h)
  refine ex_aload_n (a := ad 0) 22 d_SL_octet_21 rfl rfl ?_
  refine xl_getR 25 d_SL_octet_22 rfl g_SL_18 (kp0 (by decide)) sh_SL rfl ?_
  refine ex_iload_n (a := nI n) 26 d_SL_octet_25 rfl rfl ?_
  refine xl_aald 27 d_SL_octet_26 rfl (kp0 (by decide)) sh_NA rfl (by omega) (by omega) ?_
  refine xl_getR 30 d_SL_octet_27 rfl g_SL_165 (kpl hn (by decide)) (sh_Node hn) rfl ?_
  refine xl_getR 33 d_SL_octet_30 rfl g_SL_196 (kpl hn (by decide)) (sh_Disk hn) rfl ?_
  refine ex_iload_n (a := nI b) 34 d_SL_octet_33 rfl rfl ?_
  refine xl_iald 35 d_SL_octet_34 rfl (kpl hn (by decide)) (sh_Bytes hn) rfl (by omega) (by omega) ?_
  refine ex_iret d_SL_octet_35 rfl ⟨_, rfl, ?_⟩
  exact ⟨rfl, rfl⟩
set_option maxRecDepth 100000 in
set_option maxHeartbeats 4000000 in
theorem c_SL_reply  (hN : N ≤ 5) (hI : Iok N S) (q : Nat) (hq : q < 31) (hr : isReq S (nI q)) (c : Int32) : Ex G none mi_SL_reply 0 0 0 (xEn mi_SL_reply [.ref (ad 0), .int (nI q), .int c]) [] (LY G ad N S) (xI (fun v w => w = LY G ad N S ∧ v = replyR q c S)) := by
  refine ex_aload_n (a := ad 0) 1 d_SL_reply_0 rfl rfl ?_
  refine xl_getR 4 d_SL_reply_1 rfl g_SL_12 (kp0 (by decide)) sh_SL rfl ?_
  refine ex_iload_n (a := nI q) 5 d_SL_reply_4 rfl rfl ?_
  refine xl_callVi [.int (nI q)] [] 8 d_SL_reply_5 rfl zv_Clients_isRequest ⟨(Nat.le_of_ble_eq_true rfl), (Nat.le_of_ble_eq_true rfl)⟩ m_SL_83 (kp0 (by decide)) sh_CL rfl rfl (Nat.le_of_ble_eq_true rfl) rfl (Nat.le_of_ble_eq_true rfl) (c_Clients_isRequest (S := S) (nI q)) (fun vv ww q1 => ?_)
  rw [q1.1, q1.2]
  refine Ex.int (zb_t hr) ?_
  refine ex_ifne 13 11 d_SL_reply_8 rfl rfl (fun _ => ?_) (fun h => absurd h (by decide))
  refine ex_iload_n (a := c) 14 d_SL_reply_13 rfl rfl ?_
  refine ex_ifeq 29 17 d_SL_reply_14 rfl rfl (fun h2 => ?_) (fun h2 => ?_)
  · refine ex_aload_n (a := ad 0) 30 d_SL_reply_29 rfl rfl ?_
    refine xl_getR 33 d_SL_reply_30 rfl g_SL_12 (kp0 (by decide)) sh_SL rfl ?_
    refine xl_getR 36 d_SL_reply_33 rfl g_SL_202 (kp0 (by decide)) sh_CL rfl ?_
    refine ex_iload_n (a := nI q) 37 d_SL_reply_36 rfl rfl ?_
    refine xl_iald 38 d_SL_reply_37 rfl (kp0 (by decide)) sh_C4 rfl (by omega) (by omega) ?_
    refine ex_iret d_SL_reply_38 rfl ⟨_, rfl, ?_⟩
    refine ⟨?_, ?_⟩
    · rfl
    · unfold replyR; rw [if_pos h2]
  · refine ex_aload_n (a := ad 0) 18 d_SL_reply_17 rfl rfl ?_
    refine xl_getR 21 d_SL_reply_18 rfl g_SL_12 (kp0 (by decide)) sh_SL rfl ?_
    refine xl_getR 24 d_SL_reply_21 rfl g_SL_199 (kp0 (by decide)) sh_CL rfl ?_
    refine ex_iload_n (a := nI q) 25 d_SL_reply_24 rfl rfl ?_
    refine xl_iald 26 d_SL_reply_25 rfl (kp0 (by decide)) sh_C5 rfl (by omega) (by omega) ?_
    refine ex_goto 38 d_SL_reply_26 rfl ?_
    refine ex_iret d_SL_reply_38 rfl ⟨_, rfl, ?_⟩
    refine ⟨?_, ?_⟩
    · rfl
    · unfold replyR; rw [if_neg h2]
set_option maxRecDepth 100000 in
set_option maxHeartbeats 4000000 in
theorem c_SL_ask  (hN : N ≤ 5) (hI : Iok N S) (k : Nat) (hk : k < 4) (u : Int32) (q : Nat) (hq : S 1 4 = nI q) (hq30 : q ≤ 30) : Ex G none mi_SL_ask 0 0 0 (xEn mi_SL_ask [.ref (ad 0), .int (nI k), .int u]) [] (LY G ad N S) (xI (fun v w => w = LY G ad N (askS q (nI k) u S) ∧ v = askR q)) := by
  have hkK : isKy (nI k) := isKy_nI hk
  refine ex_iload_n (a := nI k) 1 d_SL_ask_0 rfl rfl ?_
  refine xl_callSi [.int (nI k)] [] 4 d_SL_ask_1 rfl zs_SL_isKey ⟨(Nat.le_of_ble_eq_true rfl), (Nat.le_of_ble_eq_true rfl)⟩ m_SL_25 rfl rfl (Nat.le_of_ble_eq_true rfl) rfl (Nat.le_of_ble_eq_true rfl) (c_SL_isKey (S := S) (nI k)) (fun vv ww q1 => ?_)
  rw [q1.1, q1.2]
  refine Ex.int (zb_t hkK) ?_
  refine ex_ifeq 19 7 d_SL_ask_4 rfl rfl (fun h => absurd h (by decide)) (fun _ => ?_)
  refine ex_aload_n (a := ad 0) 8 d_SL_ask_7 rfl rfl ?_
  refine xl_getR 11 d_SL_ask_8 rfl g_SL_12 (kp0 (by decide)) sh_SL rfl ?_
  refine xl_get 14 d_SL_ask_11 rfl g_SL_29 (kp0 (by decide)) sh_CL rfl ?_
  refine ex_bipush (v := 30) 16 d_SL_ask_14 rfl (by decide) ?_
  refine ex_icmpne 21 19 d_SL_ask_16 rfl rfl (fun h2 => ?_) (fun h2 => ?_)
  · refine ex_aload_n (a := ad 0) 22 d_SL_ask_21 rfl rfl ?_
    refine xl_getR 25 d_SL_ask_22 rfl g_SL_12 (kp0 (by decide)) sh_SL rfl ?_
    refine ex_iload_n (a := nI k) 26 d_SL_ask_25 rfl rfl ?_
    refine ex_iload_n (a := u) 27 d_SL_ask_26 rfl rfl ?_
    refine xl_callVi [.int (nI k), .int u] [] 30 d_SL_ask_27 rfl zv_Clients_addRequest ⟨(Nat.le_of_ble_eq_true rfl), (Nat.le_of_ble_eq_true rfl)⟩ m_SL_33 (kp0 (by decide)) sh_CL rfl rfl (Nat.le_of_ble_eq_true rfl) rfl (Nat.le_of_ble_eq_true rfl) (c_Clients_addRequest (S := S) (nI k) u q hq (ask_lt hq30 h2 hq)) (fun vv ww q3 => ?_)
    rw [q3.1, q3.2]
    refine ex_iret d_SL_ask_30 rfl ⟨_, rfl, ?_⟩
    have h0 := h2
    rw [hq] at h0
    refine ⟨?_, ?_⟩
    · unfold askS; rw [if_neg h0]
    · unfold askR; rw [if_neg h0]
  · refine ex_iconst (v := (-1)) 20 d_SL_ask_19 rfl (by decide) ?_
    refine ex_iret d_SL_ask_20 rfl ⟨_, rfl, ?_⟩
    have h0 := h2
    rw [hq] at h0
    refine ⟨?_, ?_⟩
    · unfold askS; rw [if_pos h0]
    · unfold askR; rw [if_pos h0]
set_option maxRecDepth 100000 in
set_option maxHeartbeats 4000000 in
theorem c_SL_lead_no (n : Int32) (hb : ¬ (isN N n)) : Ex G none mi_SL_lead 0 0 0 (xEn mi_SL_lead [.ref (ad 0), .int n]) [] (LY G ad N S) (xI (fun v w => w = LY G ad N S ∧ v = (-1))) := by
  refine ex_aload_n (a := ad 0) 1 d_SL_lead_0 rfl rfl ?_
  refine ex_iload_n (a := n) 2 d_SL_lead_1 rfl rfl ?_
  refine xl_callVi [.int n] [] 5 d_SL_lead_2 rfl zv_SL_isNode ⟨(Nat.le_of_ble_eq_true rfl), (Nat.le_of_ble_eq_true rfl)⟩ m_SL_37 (kp0 (by decide)) sh_SL rfl rfl (Nat.le_of_ble_eq_true rfl) rfl (Nat.le_of_ble_eq_true rfl) (c_SL_isNode (S := S) n) (fun vv ww q1 => ?_)
  rw [q1.1, q1.2]
  by_cases h2 : isN N n
  · refine Ex.int (zb_t h2) ?_
    refine ex_ifne 10 8 d_SL_lead_5 rfl rfl (fun _ => ?_) (fun h => absurd h (by decide))
    exact absurd (h2) hb
  · refine Ex.int (zb_f h2) ?_
    refine ex_ifne 10 8 d_SL_lead_5 rfl rfl (fun h => absurd (by decide) h) (fun _ => ?_)
    refine ex_iconst (v := (-1)) 9 d_SL_lead_8 rfl (by decide) ?_
    refine ex_iret d_SL_lead_9 rfl ⟨_, rfl, ?_⟩
    exact ⟨rfl, rfl⟩
set_option maxRecDepth 100000 in
set_option maxHeartbeats 4000000 in
theorem c_SL_promise_no (n a : Int32) (hb : ¬ (isN N n ∧ isN N a)) : Ex G none mi_SL_promise 0 0 0 (xEn mi_SL_promise [.ref (ad 0), .int n, .int a]) [] (LY G ad N S) (xI (fun v w => w = LY G ad N S ∧ v = (-1))) := by
  refine ex_aload_n (a := ad 0) 1 d_SL_promise_0 rfl rfl ?_
  refine ex_iload_n (a := n) 2 d_SL_promise_1 rfl rfl ?_
  refine xl_callVi [.int n] [] 5 d_SL_promise_2 rfl zv_SL_isNode ⟨(Nat.le_of_ble_eq_true rfl), (Nat.le_of_ble_eq_true rfl)⟩ m_SL_37 (kp0 (by decide)) sh_SL rfl rfl (Nat.le_of_ble_eq_true rfl) rfl (Nat.le_of_ble_eq_true rfl) (c_SL_isNode (S := S) n) (fun vv ww q1 => ?_)
  rw [q1.1, q1.2]
  by_cases h2 : isN N n
  · refine Ex.int (zb_t h2) ?_
    refine ex_ifeq 16 8 d_SL_promise_5 rfl rfl (fun h => absurd h (by decide)) (fun _ => ?_)
    refine ex_aload_n (a := ad 0) 9 d_SL_promise_8 rfl rfl ?_
    refine ex_iload_n (a := a) 10 d_SL_promise_9 rfl rfl ?_
    refine xl_callVi [.int a] [] 13 d_SL_promise_10 rfl zv_SL_isNode ⟨(Nat.le_of_ble_eq_true rfl), (Nat.le_of_ble_eq_true rfl)⟩ m_SL_37 (kp0 (by decide)) sh_SL rfl rfl (Nat.le_of_ble_eq_true rfl) rfl (Nat.le_of_ble_eq_true rfl) (c_SL_isNode (S := S) a) (fun vv ww q3 => ?_)
    rw [q3.1, q3.2]
    by_cases h4 : isN N a
    · refine Ex.int (zb_t h4) ?_
      refine ex_ifne 18 16 d_SL_promise_13 rfl rfl (fun _ => ?_) (fun h => absurd h (by decide))
      exact absurd (⟨h2, h4⟩) hb
    · refine Ex.int (zb_f h4) ?_
      refine ex_ifne 18 16 d_SL_promise_13 rfl rfl (fun h => absurd (by decide) h) (fun _ => ?_)
      refine ex_iconst (v := (-1)) 17 d_SL_promise_16 rfl (by decide) ?_
      refine ex_iret d_SL_promise_17 rfl ⟨_, rfl, ?_⟩
      exact ⟨rfl, rfl⟩
  · refine Ex.int (zb_f h2) ?_
    refine ex_ifeq 16 8 d_SL_promise_5 rfl rfl (fun _ => ?_) (fun h => absurd (by decide) h)
    refine ex_iconst (v := (-1)) 17 d_SL_promise_16 rfl (by decide) ?_
    refine ex_iret d_SL_promise_17 rfl ⟨_, rfl, ?_⟩
    exact ⟨rfl, rfl⟩
set_option maxRecDepth 100000 in
set_option maxHeartbeats 4000000 in
theorem c_SL_route_no (q n : Int32) (hb : ¬ (isReq S q ∧ isN N n)) : Ex G none mi_SL_route 0 0 0 (xEn mi_SL_route [.ref (ad 0), .int q, .int n]) [] (LY G ad N S) (xI (fun v w => w = LY G ad N S ∧ v = (-1))) := by
  refine ex_aload_n (a := ad 0) 1 d_SL_route_0 rfl rfl ?_
  refine xl_getR 4 d_SL_route_1 rfl g_SL_12 (kp0 (by decide)) sh_SL rfl ?_
  refine ex_iload_n (a := q) 5 d_SL_route_4 rfl rfl ?_
  refine xl_callVi [.int q] [] 8 d_SL_route_5 rfl zv_Clients_isRequest ⟨(Nat.le_of_ble_eq_true rfl), (Nat.le_of_ble_eq_true rfl)⟩ m_SL_83 (kp0 (by decide)) sh_CL rfl rfl (Nat.le_of_ble_eq_true rfl) rfl (Nat.le_of_ble_eq_true rfl) (c_Clients_isRequest (S := S) q) (fun vv ww q1 => ?_)
  rw [q1.1, q1.2]
  by_cases h2 : 1 ≤ q ∧ q ≤ S 1 4
  · refine Ex.int (zb_t h2) ?_
    refine ex_ifeq 19 11 d_SL_route_8 rfl rfl (fun h => absurd h (by decide)) (fun _ => ?_)
    refine ex_aload_n (a := ad 0) 12 d_SL_route_11 rfl rfl ?_
    refine ex_iload_n (a := n) 13 d_SL_route_12 rfl rfl ?_
    refine xl_callVi [.int n] [] 16 d_SL_route_13 rfl zv_SL_isNode ⟨(Nat.le_of_ble_eq_true rfl), (Nat.le_of_ble_eq_true rfl)⟩ m_SL_37 (kp0 (by decide)) sh_SL rfl rfl (Nat.le_of_ble_eq_true rfl) rfl (Nat.le_of_ble_eq_true rfl) (c_SL_isNode (S := S) n) (fun vv ww q3 => ?_)
    rw [q3.1, q3.2]
    by_cases h4 : isN N n
    · refine Ex.int (zb_t h4) ?_
      refine ex_ifne 21 19 d_SL_route_16 rfl rfl (fun _ => ?_) (fun h => absurd h (by decide))
      exact absurd (⟨h2, h4⟩) hb
    · refine Ex.int (zb_f h4) ?_
      refine ex_ifne 21 19 d_SL_route_16 rfl rfl (fun h => absurd (by decide) h) (fun _ => ?_)
      refine ex_iconst (v := (-1)) 20 d_SL_route_19 rfl (by decide) ?_
      refine ex_iret d_SL_route_20 rfl ⟨_, rfl, ?_⟩
      exact ⟨rfl, rfl⟩
  · refine Ex.int (zb_f h2) ?_
    refine ex_ifeq 19 11 d_SL_route_8 rfl rfl (fun _ => ?_) (fun h => absurd (by decide) h)
    refine ex_iconst (v := (-1)) 20 d_SL_route_19 rfl (by decide) ?_
    refine ex_iret d_SL_route_20 rfl ⟨_, rfl, ?_⟩
    exact ⟨rfl, rfl⟩
set_option maxRecDepth 100000 in
set_option maxHeartbeats 4000000 in
theorem c_SL_vote_no (n a s : Int32) (hb : ¬ (isN N n ∧ isN N a ∧ isSl s)) : Ex G none mi_SL_vote 0 0 0 (xEn mi_SL_vote [.ref (ad 0), .int n, .int a, .int s]) [] (LY G ad N S) (xI (fun v w => w = LY G ad N S ∧ v = (-1))) := by
  refine ex_aload_n (a := ad 0) 1 d_SL_vote_0 rfl rfl ?_
  refine ex_iload_n (a := n) 2 d_SL_vote_1 rfl rfl ?_
  refine xl_callVi [.int n] [] 5 d_SL_vote_2 rfl zv_SL_isNode ⟨(Nat.le_of_ble_eq_true rfl), (Nat.le_of_ble_eq_true rfl)⟩ m_SL_37 (kp0 (by decide)) sh_SL rfl rfl (Nat.le_of_ble_eq_true rfl) rfl (Nat.le_of_ble_eq_true rfl) (c_SL_isNode (S := S) n) (fun vv ww q1 => ?_)
  rw [q1.1, q1.2]
  by_cases h2 : isN N n
  · refine Ex.int (zb_t h2) ?_
    refine ex_ifeq 23 8 d_SL_vote_5 rfl rfl (fun h => absurd h (by decide)) (fun _ => ?_)
    refine ex_aload_n (a := ad 0) 9 d_SL_vote_8 rfl rfl ?_
    refine ex_iload_n (a := a) 10 d_SL_vote_9 rfl rfl ?_
    refine xl_callVi [.int a] [] 13 d_SL_vote_10 rfl zv_SL_isNode ⟨(Nat.le_of_ble_eq_true rfl), (Nat.le_of_ble_eq_true rfl)⟩ m_SL_37 (kp0 (by decide)) sh_SL rfl rfl (Nat.le_of_ble_eq_true rfl) rfl (Nat.le_of_ble_eq_true rfl) (c_SL_isNode (S := S) a) (fun vv ww q3 => ?_)
    rw [q3.1, q3.2]
    by_cases h4 : isN N a
    · refine Ex.int (zb_t h4) ?_
      refine ex_ifeq 23 16 d_SL_vote_13 rfl rfl (fun h => absurd h (by decide)) (fun _ => ?_)
      refine ex_iload_n (a := s) 17 d_SL_vote_16 rfl rfl ?_
      refine xl_callSi [.int s] [] 20 d_SL_vote_17 rfl zs_SL_isSlot ⟨(Nat.le_of_ble_eq_true rfl), (Nat.le_of_ble_eq_true rfl)⟩ m_SL_109 rfl rfl (Nat.le_of_ble_eq_true rfl) rfl (Nat.le_of_ble_eq_true rfl) (c_SL_isSlot (S := S) s) (fun vv ww q5 => ?_)
      rw [q5.1, q5.2]
      by_cases h6 : isSl s
      · refine Ex.int (zb_t h6) ?_
        refine ex_ifne 25 23 d_SL_vote_20 rfl rfl (fun _ => ?_) (fun h => absurd h (by decide))
        exact absurd (⟨h2, h4, h6⟩) hb
      · refine Ex.int (zb_f h6) ?_
        refine ex_ifne 25 23 d_SL_vote_20 rfl rfl (fun h => absurd (by decide) h) (fun _ => ?_)
        refine ex_iconst (v := (-1)) 24 d_SL_vote_23 rfl (by decide) ?_
        refine ex_iret d_SL_vote_24 rfl ⟨_, rfl, ?_⟩
        exact ⟨rfl, rfl⟩
    · refine Ex.int (zb_f h4) ?_
      refine ex_ifeq 23 16 d_SL_vote_13 rfl rfl (fun _ => ?_) (fun h => absurd (by decide) h)
      refine ex_iconst (v := (-1)) 24 d_SL_vote_23 rfl (by decide) ?_
      refine ex_iret d_SL_vote_24 rfl ⟨_, rfl, ?_⟩
      exact ⟨rfl, rfl⟩
  · refine Ex.int (zb_f h2) ?_
    refine ex_ifeq 23 8 d_SL_vote_5 rfl rfl (fun _ => ?_) (fun h => absurd (by decide) h)
    refine ex_iconst (v := (-1)) 24 d_SL_vote_23 rfl (by decide) ?_
    refine ex_iret d_SL_vote_24 rfl ⟨_, rfl, ?_⟩
    exact ⟨rfl, rfl⟩
set_option maxRecDepth 100000 in
set_option maxHeartbeats 4000000 in
theorem c_SL_tell_no (n m : Int32) (hb : ¬ (isN N n ∧ isN N m ∧ ¬ n = m)) : Ex G none mi_SL_tell 0 0 0 (xEn mi_SL_tell [.ref (ad 0), .int n, .int m]) [] (LY G ad N S) (xI (fun v w => w = LY G ad N S ∧ v = (-1))) := by
  refine ex_aload_n (a := ad 0) 1 d_SL_tell_0 rfl rfl ?_
  refine ex_iload_n (a := n) 2 d_SL_tell_1 rfl rfl ?_
  refine xl_callVi [.int n] [] 5 d_SL_tell_2 rfl zv_SL_isNode ⟨(Nat.le_of_ble_eq_true rfl), (Nat.le_of_ble_eq_true rfl)⟩ m_SL_37 (kp0 (by decide)) sh_SL rfl rfl (Nat.le_of_ble_eq_true rfl) rfl (Nat.le_of_ble_eq_true rfl) (c_SL_isNode (S := S) n) (fun vv ww q1 => ?_)
  rw [q1.1, q1.2]
  by_cases h2 : isN N n
  · refine Ex.int (zb_t h2) ?_
    refine ex_ifeq 21 8 d_SL_tell_5 rfl rfl (fun h => absurd h (by decide)) (fun _ => ?_)
    refine ex_aload_n (a := ad 0) 9 d_SL_tell_8 rfl rfl ?_
    refine ex_iload_n (a := m) 10 d_SL_tell_9 rfl rfl ?_
    refine xl_callVi [.int m] [] 13 d_SL_tell_10 rfl zv_SL_isNode ⟨(Nat.le_of_ble_eq_true rfl), (Nat.le_of_ble_eq_true rfl)⟩ m_SL_37 (kp0 (by decide)) sh_SL rfl rfl (Nat.le_of_ble_eq_true rfl) rfl (Nat.le_of_ble_eq_true rfl) (c_SL_isNode (S := S) m) (fun vv ww q3 => ?_)
    rw [q3.1, q3.2]
    by_cases h4 : isN N m
    · refine Ex.int (zb_t h4) ?_
      refine ex_ifeq 21 16 d_SL_tell_13 rfl rfl (fun h => absurd h (by decide)) (fun _ => ?_)
      refine ex_iload_n (a := n) 17 d_SL_tell_16 rfl rfl ?_
      refine ex_iload_n (a := m) 18 d_SL_tell_17 rfl rfl ?_
      refine ex_icmpne 23 21 d_SL_tell_18 rfl rfl (fun h5 => ?_) (fun h5 => ?_)
      · exact absurd (⟨h2, h4, h5⟩) hb
      · refine ex_iconst (v := (-1)) 22 d_SL_tell_21 rfl (by decide) ?_
        refine ex_iret d_SL_tell_22 rfl ⟨_, rfl, ?_⟩
        exact ⟨rfl, rfl⟩
    · refine Ex.int (zb_f h4) ?_
      refine ex_ifeq 21 16 d_SL_tell_13 rfl rfl (fun _ => ?_) (fun h => absurd (by decide) h)
      refine ex_iconst (v := (-1)) 22 d_SL_tell_21 rfl (by decide) ?_
      refine ex_iret d_SL_tell_22 rfl ⟨_, rfl, ?_⟩
      exact ⟨rfl, rfl⟩
  · refine Ex.int (zb_f h2) ?_
    refine ex_ifeq 21 8 d_SL_tell_5 rfl rfl (fun _ => ?_) (fun h => absurd (by decide) h)
    refine ex_iconst (v := (-1)) 22 d_SL_tell_21 rfl (by decide) ?_
    refine ex_iret d_SL_tell_22 rfl ⟨_, rfl, ?_⟩
    exact ⟨rfl, rfl⟩
set_option maxRecDepth 100000 in
set_option maxHeartbeats 4000000 in
theorem c_SL_mend_no (n a s : Int32) (hb : ¬ (isN N n ∧ isN N a ∧ isSl s ∧ ¬ n = a)) : Ex G none mi_SL_mend 0 0 0 (xEn mi_SL_mend [.ref (ad 0), .int n, .int a, .int s]) [] (LY G ad N S) (xI (fun v w => w = LY G ad N S ∧ v = (-1))) := by
  refine ex_aload_n (a := ad 0) 1 d_SL_mend_0 rfl rfl ?_
  refine ex_iload_n (a := n) 2 d_SL_mend_1 rfl rfl ?_
  refine xl_callVi [.int n] [] 5 d_SL_mend_2 rfl zv_SL_isNode ⟨(Nat.le_of_ble_eq_true rfl), (Nat.le_of_ble_eq_true rfl)⟩ m_SL_37 (kp0 (by decide)) sh_SL rfl rfl (Nat.le_of_ble_eq_true rfl) rfl (Nat.le_of_ble_eq_true rfl) (c_SL_isNode (S := S) n) (fun vv ww q1 => ?_)
  rw [q1.1, q1.2]
  by_cases h2 : isN N n
  · refine Ex.int (zb_t h2) ?_
    refine ex_ifeq 28 8 d_SL_mend_5 rfl rfl (fun h => absurd h (by decide)) (fun _ => ?_)
    refine ex_aload_n (a := ad 0) 9 d_SL_mend_8 rfl rfl ?_
    refine ex_iload_n (a := a) 10 d_SL_mend_9 rfl rfl ?_
    refine xl_callVi [.int a] [] 13 d_SL_mend_10 rfl zv_SL_isNode ⟨(Nat.le_of_ble_eq_true rfl), (Nat.le_of_ble_eq_true rfl)⟩ m_SL_37 (kp0 (by decide)) sh_SL rfl rfl (Nat.le_of_ble_eq_true rfl) rfl (Nat.le_of_ble_eq_true rfl) (c_SL_isNode (S := S) a) (fun vv ww q3 => ?_)
    rw [q3.1, q3.2]
    by_cases h4 : isN N a
    · refine Ex.int (zb_t h4) ?_
      refine ex_ifeq 28 16 d_SL_mend_13 rfl rfl (fun h => absurd h (by decide)) (fun _ => ?_)
      refine ex_iload_n (a := s) 17 d_SL_mend_16 rfl rfl ?_
      refine xl_callSi [.int s] [] 20 d_SL_mend_17 rfl zs_SL_isSlot ⟨(Nat.le_of_ble_eq_true rfl), (Nat.le_of_ble_eq_true rfl)⟩ m_SL_109 rfl rfl (Nat.le_of_ble_eq_true rfl) rfl (Nat.le_of_ble_eq_true rfl) (c_SL_isSlot (S := S) s) (fun vv ww q5 => ?_)
      rw [q5.1, q5.2]
      by_cases h6 : isSl s
      · refine Ex.int (zb_t h6) ?_
        refine ex_ifeq 28 23 d_SL_mend_20 rfl rfl (fun h => absurd h (by decide)) (fun _ => ?_)
        refine ex_iload_n (a := n) 24 d_SL_mend_23 rfl rfl ?_
        refine ex_iload_n (a := a) 25 d_SL_mend_24 rfl rfl ?_
        refine ex_icmpne 30 28 d_SL_mend_25 rfl rfl (fun h7 => ?_) (fun h7 => ?_)
        · exact absurd (⟨h2, h4, h6, h7⟩) hb
        · refine ex_iconst (v := (-1)) 29 d_SL_mend_28 rfl (by decide) ?_
          refine ex_iret d_SL_mend_29 rfl ⟨_, rfl, ?_⟩
          exact ⟨rfl, rfl⟩
      · refine Ex.int (zb_f h6) ?_
        refine ex_ifeq 28 23 d_SL_mend_20 rfl rfl (fun _ => ?_) (fun h => absurd (by decide) h)
        refine ex_iconst (v := (-1)) 29 d_SL_mend_28 rfl (by decide) ?_
        refine ex_iret d_SL_mend_29 rfl ⟨_, rfl, ?_⟩
        exact ⟨rfl, rfl⟩
    · refine Ex.int (zb_f h4) ?_
      refine ex_ifeq 28 16 d_SL_mend_13 rfl rfl (fun _ => ?_) (fun h => absurd (by decide) h)
      refine ex_iconst (v := (-1)) 29 d_SL_mend_28 rfl (by decide) ?_
      refine ex_iret d_SL_mend_29 rfl ⟨_, rfl, ?_⟩
      exact ⟨rfl, rfl⟩
  · refine Ex.int (zb_f h2) ?_
    refine ex_ifeq 28 8 d_SL_mend_5 rfl rfl (fun _ => ?_) (fun h => absurd (by decide) h)
    refine ex_iconst (v := (-1)) 29 d_SL_mend_28 rfl (by decide) ?_
    refine ex_iret d_SL_mend_29 rfl ⟨_, rfl, ?_⟩
    exact ⟨rfl, rfl⟩
end WK
