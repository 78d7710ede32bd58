section WK
variable {G : xC} {ad : Nat → Nat} {N : Nat} {S : sT}
set_option maxRecDepth 100000 in
set_option maxHeartbeats 4000000 in
theorem c_SL_crash_no (n : Int32) (hb : ¬ (isN N n)) : Ex G none mi_SL_crash 0 0 0 (xEn mi_SL_crash [.ref (ad 0), .int n]) [] (LY G ad N S) (xI (fun v w => w = LY G ad N S ∧ v = 0)) := by
  refine ex_aload_n (a := ad 0) 1 d_SL_crash_0 rfl rfl ?_
  refine ex_iload_n (a := n) 2 d_SL_crash_1 rfl rfl ?_
  refine xl_callVi [.int n] [] 5 d_SL_crash_2 rfl zv_SL_isNode ⟨(Nat.le_of_ble_eq_true rfl), (Nat.le_of_ble_eq_true rfl)⟩ m_SL_37 (kp0 (by decide)) sh_SL rfl rfl (Nat.le_of_ble_eq_true rfl) rfl (Nat.le_of_ble_eq_true rfl) (c_SL_isNode (S := S) n) (fun vv ww q1 => ?_)
  rw [q1.1, q1.2]
  by_cases h2 : isN N n
  · refine Ex.int (zb_t h2) ?_
    refine ex_ifeq 20 8 d_SL_crash_5 rfl rfl (fun h => absurd h (by decide)) (fun _ => ?_)
    exact absurd (h2) hb
  · refine Ex.int (zb_f h2) ?_
    refine ex_ifeq 20 8 d_SL_crash_5 rfl rfl (fun _ => ?_) (fun h => absurd (by decide) h)
    refine ex_iconst (v := 0) 21 d_SL_crash_20 rfl (by decide) ?_
    refine ex_zret d_SL_crash_21 rfl rfl ⟨_, rfl, ?_⟩
    exact ⟨rfl, rfl⟩
set_option maxRecDepth 100000 in
set_option maxHeartbeats 4000000 in
theorem c_SL_restart_no (n : Int32) (hb : ¬ (isN N n)) : Ex G none mi_SL_restart 0 0 0 (xEn mi_SL_restart [.ref (ad 0), .int n]) [] (LY G ad N S) (xI (fun v w => w = LY G ad N S ∧ v = 0)) := by
  refine ex_aload_n (a := ad 0) 1 d_SL_restart_0 rfl rfl ?_
  refine ex_iload_n (a := n) 2 d_SL_restart_1 rfl rfl ?_
  refine xl_callVi [.int n] [] 5 d_SL_restart_2 rfl zv_SL_isNode ⟨(Nat.le_of_ble_eq_true rfl), (Nat.le_of_ble_eq_true rfl)⟩ m_SL_37 (kp0 (by decide)) sh_SL rfl rfl (Nat.le_of_ble_eq_true rfl) rfl (Nat.le_of_ble_eq_true rfl) (c_SL_isNode (S := S) n) (fun vv ww q1 => ?_)
  rw [q1.1, q1.2]
  by_cases h2 : isN N n
  · refine Ex.int (zb_t h2) ?_
    refine ex_ifeq 20 8 d_SL_restart_5 rfl rfl (fun h => absurd h (by decide)) (fun _ => ?_)
    exact absurd (h2) hb
  · refine Ex.int (zb_f h2) ?_
    refine ex_ifeq 20 8 d_SL_restart_5 rfl rfl (fun _ => ?_) (fun h => absurd (by decide) h)
    refine ex_iconst (v := 0) 21 d_SL_restart_20 rfl (by decide) ?_
    refine ex_zret d_SL_restart_21 rfl rfl ⟨_, rfl, ?_⟩
    exact ⟨rfl, rfl⟩
set_option maxRecDepth 100000 in
set_option maxHeartbeats 4000000 in
theorem c_SL_arm_no (n k : Int32) (hb : ¬ (isN N n)) : Ex G none mi_SL_arm 0 0 0 (xEn mi_SL_arm [.ref (ad 0), .int n, .int k]) [] (LY G ad N S) (xI (fun v w => w = LY G ad N S ∧ v = 0)) := by
  refine ex_aload_n (a := ad 0) 1 d_SL_arm_0 rfl rfl ?_
  refine ex_iload_n (a := n) 2 d_SL_arm_1 rfl rfl ?_
  refine xl_callVi [.int n] [] 5 d_SL_arm_2 rfl zv_SL_isNode ⟨(Nat.le_of_ble_eq_true rfl), (Nat.le_of_ble_eq_true rfl)⟩ m_SL_37 (kp0 (by decide)) sh_SL rfl rfl (Nat.le_of_ble_eq_true rfl) rfl (Nat.le_of_ble_eq_true rfl) (c_SL_isNode (S := S) n) (fun vv ww q1 => ?_)
  rw [q1.1, q1.2]
  by_cases h2 : isN N n
  · refine Ex.int (zb_t h2) ?_
    refine ex_ifeq 30 8 d_SL_arm_5 rfl rfl (fun h => absurd h (by decide)) (fun _ => ?_)
    exact absurd (h2) hb
  · refine Ex.int (zb_f h2) ?_
    refine ex_ifeq 30 8 d_SL_arm_5 rfl rfl (fun _ => ?_) (fun h => absurd (by decide) h)
    refine ex_iconst (v := 0) 31 d_SL_arm_30 rfl (by decide) ?_
    refine ex_zret d_SL_arm_31 rfl rfl ⟨_, rfl, ?_⟩
    exact ⟨rfl, rfl⟩
set_option maxRecDepth 100000 in
set_option maxHeartbeats 4000000 in
theorem c_SL_look_no (n k : Int32) (hb : ¬ (isN N n)) : Ex G none mi_SL_look 0 0 0 (xEn mi_SL_look [.ref (ad 0), .int n, .int k]) [] (LY G ad N S) (xI (fun v w => w = LY G ad N S ∧ v = (-1))) := by
  refine ex_aload_n (a := ad 0) 1 d_SL_look_0 rfl rfl ?_
  refine ex_iload_n (a := n) 2 d_SL_look_1 rfl rfl ?_
  refine xl_callVi [.int n] [] 5 d_SL_look_2 rfl zv_SL_isNode ⟨(Nat.le_of_ble_eq_true rfl), (Nat.le_of_ble_eq_true rfl)⟩ m_SL_37 (kp0 (by decide)) sh_SL rfl rfl (Nat.le_of_ble_eq_true rfl) rfl (Nat.le_of_ble_eq_true rfl) (c_SL_isNode (S := S) n) (fun vv ww q1 => ?_)
  rw [q1.1, q1.2]
  by_cases h2 : isN N n
  · refine Ex.int (zb_t h2) ?_
    refine ex_ifne 10 8 d_SL_look_5 rfl rfl (fun _ => ?_) (fun h => absurd h (by decide))
    exact absurd (h2) hb
  · refine Ex.int (zb_f h2) ?_
    refine ex_ifne 10 8 d_SL_look_5 rfl rfl (fun h => absurd (by decide) h) (fun _ => ?_)
    refine ex_iconst (v := (-1)) 9 d_SL_look_8 rfl (by decide) ?_
    refine ex_iret d_SL_look_9 rfl ⟨_, rfl, ?_⟩
    exact ⟨rfl, rfl⟩
set_option maxRecDepth 100000 in
set_option maxHeartbeats 4000000 in
theorem c_SL_slot_no (n s : Int32) (hb : ¬ (isN N n ∧ isSl s)) : Ex G none mi_SL_slot 0 0 0 (xEn mi_SL_slot [.ref (ad 0), .int n, .int s]) [] (LY G ad N S) (xI (fun v w => w = LY G ad N S ∧ v = (-1))) := by
  refine ex_aload_n (a := ad 0) 1 d_SL_slot_0 rfl rfl ?_
  refine ex_iload_n (a := n) 2 d_SL_slot_1 rfl rfl ?_
  refine xl_callVi [.int n] [] 5 d_SL_slot_2 rfl zv_SL_isNode ⟨(Nat.le_of_ble_eq_true rfl), (Nat.le_of_ble_eq_true rfl)⟩ m_SL_37 (kp0 (by decide)) sh_SL rfl rfl (Nat.le_of_ble_eq_true rfl) rfl (Nat.le_of_ble_eq_true rfl) (c_SL_isNode (S := S) n) (fun vv ww q1 => ?_)
  rw [q1.1, q1.2]
  by_cases h2 : isN N n
  · refine Ex.int (zb_t h2) ?_
    refine ex_ifeq 27 8 d_SL_slot_5 rfl rfl (fun h => absurd h (by decide)) (fun _ => ?_)
    refine ex_iload_n (a := s) 9 d_SL_slot_8 rfl rfl ?_
    refine xl_callSi [.int s] [] 12 d_SL_slot_9 rfl zs_SL_isSlot ⟨(Nat.le_of_ble_eq_true rfl), (Nat.le_of_ble_eq_true rfl)⟩ m_SL_109 rfl rfl (Nat.le_of_ble_eq_true rfl) rfl (Nat.le_of_ble_eq_true rfl) (c_SL_isSlot (S := S) s) (fun vv ww q3 => ?_)
    rw [q3.1, q3.2]
    by_cases h4 : isSl s
    · refine Ex.int (zb_t h4) ?_
      refine ex_ifeq 27 15 d_SL_slot_12 rfl rfl (fun h => absurd h (by decide)) (fun _ => ?_)
      exact absurd (⟨h2, h4⟩) hb
    · refine Ex.int (zb_f h4) ?_
      refine ex_ifeq 27 15 d_SL_slot_12 rfl rfl (fun _ => ?_) (fun h => absurd (by decide) h)
      refine ex_iconst (v := (-1)) 28 d_SL_slot_27 rfl (by decide) ?_
      refine ex_iret d_SL_slot_28 rfl ⟨_, rfl, ?_⟩
      exact ⟨rfl, rfl⟩
  · refine Ex.int (zb_f h2) ?_
    refine ex_ifeq 27 8 d_SL_slot_5 rfl rfl (fun _ => ?_) (fun h => absurd (by decide) h)
    refine ex_iconst (v := (-1)) 28 d_SL_slot_27 rfl (by decide) ?_
    refine ex_iret d_SL_slot_28 rfl ⟨_, rfl, ?_⟩
    exact ⟨rfl, rfl⟩
set_option maxRecDepth 100000 in
set_option maxHeartbeats 4000000 in
theorem c_SL_plan_no (n s : Int32) (hb : ¬ (isN N n ∧ isSl s)) : Ex G none mi_SL_plan 0 0 0 (xEn mi_SL_plan [.ref (ad 0), .int n, .int s]) [] (LY G ad N S) (xI (fun v w => w = LY G ad N S ∧ v = (-1))) := by
  refine ex_aload_n (a := ad 0) 1 d_SL_plan_0 rfl rfl ?_
  refine ex_iload_n (a := n) 2 d_SL_plan_1 rfl rfl ?_
  refine xl_callVi [.int n] [] 5 d_SL_plan_2 rfl zv_SL_isNode ⟨(Nat.le_of_ble_eq_true rfl), (Nat.le_of_ble_eq_true rfl)⟩ m_SL_37 (kp0 (by decide)) sh_SL rfl rfl (Nat.le_of_ble_eq_true rfl) rfl (Nat.le_of_ble_eq_true rfl) (c_SL_isNode (S := S) n) (fun vv ww q1 => ?_)
  rw [q1.1, q1.2]
  by_cases h2 : isN N n
  · refine Ex.int (zb_t h2) ?_
    refine ex_ifeq 30 8 d_SL_plan_5 rfl rfl (fun h => absurd h (by decide)) (fun _ => ?_)
    refine ex_iload_n (a := s) 9 d_SL_plan_8 rfl rfl ?_
    refine xl_callSi [.int s] [] 12 d_SL_plan_9 rfl zs_SL_isSlot ⟨(Nat.le_of_ble_eq_true rfl), (Nat.le_of_ble_eq_true rfl)⟩ m_SL_109 rfl rfl (Nat.le_of_ble_eq_true rfl) rfl (Nat.le_of_ble_eq_true rfl) (c_SL_isSlot (S := S) s) (fun vv ww q3 => ?_)
    rw [q3.1, q3.2]
    by_cases h4 : isSl s
    · refine Ex.int (zb_t h4) ?_
      refine ex_ifeq 30 15 d_SL_plan_12 rfl rfl (fun h => absurd h (by decide)) (fun _ => ?_)
      exact absurd (⟨h2, h4⟩) hb
    · refine Ex.int (zb_f h4) ?_
      refine ex_ifeq 30 15 d_SL_plan_12 rfl rfl (fun _ => ?_) (fun h => absurd (by decide) h)
      refine ex_iconst (v := (-1)) 31 d_SL_plan_30 rfl (by decide) ?_
      refine ex_iret d_SL_plan_31 rfl ⟨_, rfl, ?_⟩
      exact ⟨rfl, rfl⟩
  · refine Ex.int (zb_f h2) ?_
    refine ex_ifeq 30 8 d_SL_plan_5 rfl rfl (fun _ => ?_) (fun h => absurd (by decide) h)
    refine ex_iconst (v := (-1)) 31 d_SL_plan_30 rfl (by decide) ?_
    refine ex_iret d_SL_plan_31 rfl ⟨_, rfl, ?_⟩
    exact ⟨rfl, rfl⟩
set_option maxRecDepth 100000 in
set_option maxHeartbeats 4000000 in
theorem c_SL_chosen_no (n s : Int32) (hb : ¬ (isN N n ∧ isSl s)) : Ex G none mi_SL_chosen 0 0 0 (xEn mi_SL_chosen [.ref (ad 0), .int n, .int s]) [] (LY G ad N S) (xI (fun v w => w = LY G ad N S ∧ v = (-1))) := by
  refine ex_aload_n (a := ad 0) 1 d_SL_chosen_0 rfl rfl ?_
  refine ex_iload_n (a := n) 2 d_SL_chosen_1 rfl rfl ?_
  refine xl_callVi [.int n] [] 5 d_SL_chosen_2 rfl zv_SL_isNode ⟨(Nat.le_of_ble_eq_true rfl), (Nat.le_of_ble_eq_true rfl)⟩ m_SL_37 (kp0 (by decide)) sh_SL rfl rfl (Nat.le_of_ble_eq_true rfl) rfl (Nat.le_of_ble_eq_true rfl) (c_SL_isNode (S := S) n) (fun vv ww q1 => ?_)
  rw [q1.1, q1.2]
  by_cases h2 : isN N n
  · refine Ex.int (zb_t h2) ?_
    refine ex_ifeq 15 8 d_SL_chosen_5 rfl rfl (fun h => absurd h (by decide)) (fun _ => ?_)
    refine ex_iload_n (a := s) 9 d_SL_chosen_8 rfl rfl ?_
    refine xl_callSi [.int s] [] 12 d_SL_chosen_9 rfl zs_SL_isSlot ⟨(Nat.le_of_ble_eq_true rfl), (Nat.le_of_ble_eq_true rfl)⟩ m_SL_109 rfl rfl (Nat.le_of_ble_eq_true rfl) rfl (Nat.le_of_ble_eq_true rfl) (c_SL_isSlot (S := S) s) (fun vv ww q3 => ?_)
    rw [q3.1, q3.2]
    by_cases h4 : isSl s
    · refine Ex.int (zb_t h4) ?_
      refine ex_ifne 17 15 d_SL_chosen_12 rfl rfl (fun _ => ?_) (fun h => absurd h (by decide))
      exact absurd (⟨h2, h4⟩) hb
    · refine Ex.int (zb_f h4) ?_
      refine ex_ifne 17 15 d_SL_chosen_12 rfl rfl (fun h => absurd (by decide) h) (fun _ => ?_)
      refine ex_iconst (v := (-1)) 16 d_SL_chosen_15 rfl (by decide) ?_
      refine ex_iret d_SL_chosen_16 rfl ⟨_, rfl, ?_⟩
      exact ⟨rfl, rfl⟩
  · refine Ex.int (zb_f h2) ?_
    refine ex_ifeq 15 8 d_SL_chosen_5 rfl rfl (fun _ => ?_) (fun h => absurd (by decide) h)
    refine ex_iconst (v := (-1)) 16 d_SL_chosen_15 rfl (by decide) ?_
    refine ex_iret d_SL_chosen_16 rfl ⟨_, rfl, ?_⟩
    exact ⟨rfl, rfl⟩
set_option maxRecDepth 100000 in
set_option maxHeartbeats 4000000 in
theorem c_SL_value_no (n k : Int32) (hb : ¬ (isN N n ∧ isKy k)) : Ex G none mi_SL_value 0 0 0 (xEn mi_SL_value [.ref (ad 0), .int n, .int k]) [] (LY G ad N S) (xI (fun v w => w = LY G ad N S ∧ v = 0)) := by
  refine ex_aload_n (a := ad 0) 1 d_SL_value_0 rfl rfl ?_
  refine ex_iload_n (a := n) 2 d_SL_value_1 rfl rfl ?_
  refine xl_callVi [.int n] [] 5 d_SL_value_2 rfl zv_SL_isNode ⟨(Nat.le_of_ble_eq_true rfl), (Nat.le_of_ble_eq_true rfl)⟩ m_SL_37 (kp0 (by decide)) sh_SL rfl rfl (Nat.le_of_ble_eq_true rfl) rfl (Nat.le_of_ble_eq_true rfl) (c_SL_isNode (S := S) n) (fun vv ww q1 => ?_)
  rw [q1.1, q1.2]
  by_cases h2 : isN N n
  · refine Ex.int (zb_t h2) ?_
    refine ex_ifeq 15 8 d_SL_value_5 rfl rfl (fun h => absurd h (by decide)) (fun _ => ?_)
    refine ex_iload_n (a := k) 9 d_SL_value_8 rfl rfl ?_
    refine xl_callSi [.int k] [] 12 d_SL_value_9 rfl zs_SL_isKey ⟨(Nat.le_of_ble_eq_true rfl), (Nat.le_of_ble_eq_true rfl)⟩ m_SL_25 rfl rfl (Nat.le_of_ble_eq_true rfl) rfl (Nat.le_of_ble_eq_true rfl) (c_SL_isKey (S := S) k) (fun vv ww q3 => ?_)
    rw [q3.1, q3.2]
    by_cases h4 : isKy k
    · refine Ex.int (zb_t h4) ?_
      refine ex_ifne 17 15 d_SL_value_12 rfl rfl (fun _ => ?_) (fun h => absurd h (by decide))
      exact absurd (⟨h2, h4⟩) hb
    · refine Ex.int (zb_f h4) ?_
      refine ex_ifne 17 15 d_SL_value_12 rfl rfl (fun h => absurd (by decide) h) (fun _ => ?_)
      refine ex_iconst (v := 0) 16 d_SL_value_15 rfl (by decide) ?_
      refine ex_iret d_SL_value_16 rfl ⟨_, rfl, ?_⟩
      exact ⟨rfl, rfl⟩
  · refine Ex.int (zb_f h2) ?_
    refine ex_ifeq 15 8 d_SL_value_5 rfl rfl (fun _ => ?_) (fun h => absurd (by decide) h)
    refine ex_iconst (v := 0) 16 d_SL_value_15 rfl (by decide) ?_
    refine ex_iret d_SL_value_16 rfl ⟨_, rfl, ?_⟩
    exact ⟨rfl, rfl⟩
set_option maxRecDepth 100000 in
set_option maxHeartbeats 4000000 in
theorem c_SL_octet_no (n b : Int32) (hb : ¬ (isN N n ∧ ¬ b < 0 ∧ b < 144)) : Ex G none mi_SL_octet 0 0 0 (xEn mi_SL_octet [.ref (ad 0), .int n, .int b]) [] (LY G ad N S) (xI (fun v w => w = LY G ad N S ∧ v = (-1))) := by
  refine ex_aload_n (a := ad 0) 1 d_SL_octet_0 rfl rfl ?_
  refine ex_iload_n (a := n) 2 d_SL_octet_1 rfl rfl ?_
  refine xl_callVi [.int n] [] 5 d_SL_octet_2 rfl zv_SL_isNode ⟨(Nat.le_of_ble_eq_true rfl), (Nat.le_of_ble_eq_true rfl)⟩ m_SL_37 (kp0 (by decide)) sh_SL rfl rfl (Nat.le_of_ble_eq_true rfl) rfl (Nat.le_of_ble_eq_true rfl) (c_SL_isNode (S := S) n) (fun vv ww q1 => ?_)
  rw [q1.1, q1.2]
  by_cases h2 : isN N n
  · refine Ex.int (zb_t h2) ?_
    refine ex_ifeq 19 8 d_SL_octet_5 rfl rfl (fun h => absurd h (by decide)) (fun _ => ?_)
    refine ex_iload_n (a := b) 9 d_SL_octet_8 rfl rfl ?_
    refine ex_iflt 19 12 d_SL_octet_9 rfl rfl (fun h3 => ?_) (fun h3 => ?_)
    · refine ex_iconst (v := (-1)) 20 d_SL_octet_19 rfl (by decide) ?_
      refine ex_iret d_SL_octet_20 rfl ⟨_, rfl, ?_⟩
      exact ⟨rfl, rfl⟩
    · refine ex_iload_n (a := b) 13 d_SL_octet_12 rfl rfl ?_
      refine ex_sipush (v := 144) 16 d_SL_octet_13 rfl (by decide) ?_
      refine ex_icmplt 21 19 d_SL_octet_16 rfl rfl (fun h4 => ?_) (fun h4 => ?_)
      · exact absurd (⟨h2, h3, h4⟩) hb
      · refine ex_iconst (v := (-1)) 20 d_SL_octet_19 rfl (by decide) ?_
        refine ex_iret d_SL_octet_20 rfl ⟨_, rfl, ?_⟩
        exact ⟨rfl, rfl⟩
  · refine Ex.int (zb_f h2) ?_
    refine ex_ifeq 19 8 d_SL_octet_5 rfl rfl (fun _ => ?_) (fun h => absurd (by decide) h)
    refine ex_iconst (v := (-1)) 20 d_SL_octet_19 rfl (by decide) ?_
    refine ex_iret d_SL_octet_20 rfl ⟨_, rfl, ?_⟩
    exact ⟨rfl, rfl⟩
set_option maxRecDepth 100000 in
set_option maxHeartbeats 4000000 in
theorem c_SL_reply_no (q c : Int32) (hb : ¬ (isReq S q)) : Ex G none mi_SL_reply 0 0 0 (xEn mi_SL_reply [.ref (ad 0), .int q, .int c]) [] (LY G ad N S) (xI (fun v w => w = LY G ad N S ∧ v = 0)) := by
  refine ex_aload_n (a := ad 0) 1 d_SL_reply_0 rfl rfl ?_
  refine xl_getR 4 d_SL_reply_1 rfl g_SL_12 (kp0 (by decide)) sh_SL rfl ?_
  refine ex_iload_n (a := q) 5 d_SL_reply_4 rfl rfl ?_
  refine xl_callVi [.int q] [] 8 d_SL_reply_5 rfl zv_Clients_isRequest ⟨(Nat.le_of_ble_eq_true rfl), (Nat.le_of_ble_eq_true rfl)⟩ m_SL_83 (kp0 (by decide)) sh_CL rfl rfl (Nat.le_of_ble_eq_true rfl) rfl (Nat.le_of_ble_eq_true rfl) (c_Clients_isRequest (S := S) q) (fun vv ww q1 => ?_)
  rw [q1.1, q1.2]
  by_cases h2 : 1 ≤ q ∧ q ≤ S 1 4
  · refine Ex.int (zb_t h2) ?_
    refine ex_ifne 13 11 d_SL_reply_8 rfl rfl (fun _ => ?_) (fun h => absurd h (by decide))
    exact absurd (h2) hb
  · refine Ex.int (zb_f h2) ?_
    refine ex_ifne 13 11 d_SL_reply_8 rfl rfl (fun h => absurd (by decide) h) (fun _ => ?_)
    refine ex_iconst (v := 0) 12 d_SL_reply_11 rfl (by decide) ?_
    refine ex_iret d_SL_reply_12 rfl ⟨_, rfl, ?_⟩
    exact ⟨rfl, rfl⟩
set_option maxRecDepth 100000 in
set_option maxHeartbeats 4000000 in
theorem c_SL_ask_no (k v : Int32) (hb : ¬ (isKy k)) : Ex G none mi_SL_ask 0 0 0 (xEn mi_SL_ask [.ref (ad 0), .int k, .int v]) [] (LY G ad N S) (xI (fun v w => w = LY G ad N S ∧ v = (-1))) := by
  refine ex_iload_n (a := k) 1 d_SL_ask_0 rfl rfl ?_
  refine xl_callSi [.int k] [] 4 d_SL_ask_1 rfl zs_SL_isKey ⟨(Nat.le_of_ble_eq_true rfl), (Nat.le_of_ble_eq_true rfl)⟩ m_SL_25 rfl rfl (Nat.le_of_ble_eq_true rfl) rfl (Nat.le_of_ble_eq_true rfl) (c_SL_isKey (S := S) k) (fun vv ww q1 => ?_)
  rw [q1.1, q1.2]
  by_cases h2 : isKy k
  · refine Ex.int (zb_t h2) ?_
    refine ex_ifeq 19 7 d_SL_ask_4 rfl rfl (fun h => absurd h (by decide)) (fun _ => ?_)
    exact absurd (h2) hb
  · refine Ex.int (zb_f h2) ?_
    refine ex_ifeq 19 7 d_SL_ask_4 rfl rfl (fun _ => ?_) (fun h => absurd (by decide) h)
    refine ex_iconst (v := (-1)) 20 d_SL_ask_19 rfl (by decide) ?_
    refine ex_iret d_SL_ask_20 rfl ⟨_, rfl, ?_⟩
    exact ⟨rfl, rfl⟩
set_option maxRecDepth 100000 in
set_option maxHeartbeats 4000000 in
theorem c_SL_isSoundSector_no (n s : Int32) (hb : ¬ (isN N n ∧ ¬ s < 0 ∧ ¬ 18 ≤ s)) : Ex G none mi_SL_isSoundSector 0 0 0 (xEn mi_SL_isSoundSector [.ref (ad 0), .int n, .int s]) [] (LY G ad N S) (xI (fun v w => w = LY G ad N S ∧ v = 0)) := by
  refine ex_aload_n (a := ad 0) 1 d_SL_isSoundSector_0 rfl rfl ?_
  refine ex_iload_n (a := n) 2 d_SL_isSoundSector_1 rfl rfl ?_
  refine xl_callVi [.int n] [] 5 d_SL_isSoundSector_2 rfl zv_SL_isNode ⟨(Nat.le_of_ble_eq_true rfl), (Nat.le_of_ble_eq_true rfl)⟩ m_SL_37 (kp0 (by decide)) sh_SL rfl rfl (Nat.le_of_ble_eq_true rfl) rfl (Nat.le_of_ble_eq_true rfl) (c_SL_isNode (S := S) n) (fun vv ww q1 => ?_)
  rw [q1.1, q1.2]
  by_cases h2 : isN N n
  · refine Ex.int (zb_t h2) ?_
    refine ex_ifeq 38 8 d_SL_isSoundSector_5 rfl rfl (fun h => absurd h (by decide)) (fun _ => ?_)
    refine ex_iload_n (a := s) 9 d_SL_isSoundSector_8 rfl rfl ?_
    refine ex_iflt 38 12 d_SL_isSoundSector_9 rfl rfl (fun h3 => ?_) (fun h3 => ?_)
    · refine ex_iconst (v := 0) 39 d_SL_isSoundSector_38 rfl (by decide) ?_
      refine ex_zret d_SL_isSoundSector_39 rfl rfl ⟨_, rfl, ?_⟩
      exact ⟨rfl, rfl⟩
    · refine ex_iload_n (a := s) 13 d_SL_isSoundSector_12 rfl rfl ?_
      refine ex_bipush (v := 18) 15 d_SL_isSoundSector_13 rfl (by decide) ?_
      refine ex_icmpge 38 18 d_SL_isSoundSector_15 rfl rfl (fun h4 => ?_) (fun h4 => ?_)
      · refine ex_iconst (v := 0) 39 d_SL_isSoundSector_38 rfl (by decide) ?_
        refine ex_zret d_SL_isSoundSector_39 rfl rfl ⟨_, rfl, ?_⟩
        exact ⟨rfl, rfl⟩
      · exact absurd (⟨h2, h3, h4⟩) hb
  · refine Ex.int (zb_f h2) ?_
    refine ex_ifeq 38 8 d_SL_isSoundSector_5 rfl rfl (fun _ => ?_) (fun h => absurd (by decide) h)
    refine ex_iconst (v := 0) 39 d_SL_isSoundSector_38 rfl (by decide) ?_
    refine ex_zret d_SL_isSoundSector_39 rfl rfl ⟨_, rfl, ?_⟩
    exact ⟨rfl, rfl⟩
set_option maxRecDepth 100000 in
set_option maxHeartbeats 4000000 in
theorem c_SL_flip_no (n s b : Int32) (hb : ¬ (isN N n ∧ ¬ s < 0 ∧ ¬ 18 ≤ s)) : Ex G none mi_SL_flip 0 0 0 (xEn mi_SL_flip [.ref (ad 0), .int n, .int s, .int b]) [] (LY G ad N S) (xI (fun v w => w = LY G ad N S ∧ v = 0)) := by
  refine ex_aload_n (a := ad 0) 1 d_SL_flip_0 rfl rfl ?_
  refine ex_iload_n (a := n) 2 d_SL_flip_1 rfl rfl ?_
  refine ex_iload_n (a := s) 3 d_SL_flip_2 rfl rfl ?_
  refine xl_callVi [.int n, .int s] [] 6 d_SL_flip_3 rfl zv_SL_isSoundSector ⟨(Nat.le_of_ble_eq_true rfl), (Nat.le_of_ble_eq_true rfl)⟩ m_SL_160 (kp0 (by decide)) sh_SL rfl rfl (Nat.le_of_ble_eq_true rfl) rfl (Nat.le_of_ble_eq_true rfl) (c_SL_isSoundSector_no (S := S) n s hb) (fun vv ww q1 => ?_)
  rw [q1.1, q1.2]
  refine ex_ifeq 19 9 d_SL_flip_6 rfl rfl (fun _ => ?_) (fun h => absurd (by decide) h)
  refine ex_iconst (v := 0) 20 d_SL_flip_19 rfl (by decide) ?_
  refine ex_zret d_SL_flip_20 rfl rfl ⟨_, rfl, ?_⟩
  exact ⟨rfl, rfl⟩
set_option maxRecDepth 100000 in
set_option maxHeartbeats 4000000 in
theorem c_SL_wipe_no (n s : Int32) (hb : ¬ (isN N n ∧ ¬ s < 0 ∧ ¬ 18 ≤ s)) : Ex G none mi_SL_wipe 0 0 0 (xEn mi_SL_wipe [.ref (ad 0), .int n, .int s]) [] (LY G ad N S) (xI (fun v w => w = LY G ad N S ∧ v = 0)) := by
  refine ex_aload_n (a := ad 0) 1 d_SL_wipe_0 rfl rfl ?_
  refine ex_iload_n (a := n) 2 d_SL_wipe_1 rfl rfl ?_
  refine ex_iload_n (a := s) 3 d_SL_wipe_2 rfl rfl ?_
  refine xl_callVi [.int n, .int s] [] 6 d_SL_wipe_3 rfl zv_SL_isSoundSector ⟨(Nat.le_of_ble_eq_true rfl), (Nat.le_of_ble_eq_true rfl)⟩ m_SL_160 (kp0 (by decide)) sh_SL rfl rfl (Nat.le_of_ble_eq_true rfl) rfl (Nat.le_of_ble_eq_true rfl) (c_SL_isSoundSector_no (S := S) n s hb) (fun vv ww q1 => ?_)
  rw [q1.1, q1.2]
  refine ex_ifne 11 9 d_SL_wipe_6 rfl rfl (fun h => absurd (by decide) h) (fun _ => ?_)
  refine ex_iconst (v := 0) 10 d_SL_wipe_9 rfl (by decide) ?_
  refine ex_zret d_SL_wipe_10 rfl rfl ⟨_, rfl, ?_⟩
  exact ⟨rfl, rfl⟩
end WK
