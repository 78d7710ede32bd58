section WK
variable {G : xC} {ad : Nat → Nat} {N : Nat} {S M : sT}
set_option maxRecDepth 100000 in
set_option maxHeartbeats 4000000 in
theorem c_MO_look_1 (n : Nat) (hnN : n < N) (hN : N ≤ 5) (hn : M 0 0 = nI N)  : Ex G none mi_MO_look 0 0 0 (xEn mi_MO_look [.ref (ad (rp N 0)), .int (nI n), .int 1]) [] (LR G ad N S M) (xI (fun v w => w = LR G ad N S (M) ∧ v = if M 6 n = 0 then 0 else if M 7 n = 0 then 0 else 1)) := by
  have hnI : isN N (nI n) := isN_nI hnN hN
  refine ex_aload_n (a := ad (rp N 0)) 1 d_MO_look_0 rfl rfl ?_
  refine ex_iload_n (a := nI n) 2 d_MO_look_1 rfl rfl ?_
  refine xr_callVi [.int (nI n)] [] 5 d_MO_look_2 rfl zv_MO_isNode ⟨(Nat.le_of_ble_eq_true rfl), (Nat.le_of_ble_eq_true rfl)⟩ m_MO_101 (by decide) rfl rfl rfl (Nat.le_of_ble_eq_true rfl) rfl (Nat.le_of_ble_eq_true rfl) (c_MO_isNode (S := S) (M := M) (nI n) hn) (fun vv ww q1 => ?_)
  rw [q1.1, q1.2]
  refine Ex.int (zb_t hnI) ?_
  refine ex_ifeq 18 8 d_MO_look_5 rfl rfl (fun h => absurd h (by decide)) (fun _ => ?_)
  refine ex_iload_n (a := 1) 9 d_MO_look_8 rfl rfl ?_
  refine ex_iflt 18 12 d_MO_look_9 rfl rfl (fun h => absurd h (by decide)) (fun _ => ?_)
  refine ex_iload_n (a := 1) 13 d_MO_look_12 rfl rfl ?_
  refine ex_bipush (v := 6) 15 d_MO_look_13 rfl (by decide) ?_
  refine ex_icmple 20 18 d_MO_look_15 rfl rfl (fun _ => ?_) (fun h => absurd (by decide) h)
  refine ex_iload_n (a := 1) 21 d_MO_look_20 rfl rfl ?_
  refine ex_bipush (v := 6) 23 d_MO_look_21 rfl (by decide) ?_
  refine ex_icmpne 33 26 d_MO_look_23 rfl rfl (fun _ => ?_) (fun h => absurd h (by decide))
  refine ex_aload_n (a := ad (rp N 0)) 34 d_MO_look_33 rfl rfl ?_
  refine xr_getR 37 d_MO_look_34 rfl g_MO_25 (by decide) rfl rfl ?_
  refine ex_iload_n (a := nI n) 38 d_MO_look_37 rfl rfl ?_
  refine xr_zald 39 d_MO_look_38 rfl (by decide) rfl rfl (by omega) (by omega) ?_
  refine ex_ifne 44 42 d_MO_look_39 rfl rfl (fun h2 => ?_) (fun h2 => ?_)
  · refine ex_iload_n (a := 1) 45 d_MO_look_44 rfl rfl ?_
    refine ex_tableIn 82 d_MO_look_45 (by decide) (by decide) rfl rfl ?_
    refine ex_aload_n (a := ad (rp N 0)) 83 d_MO_look_82 rfl rfl ?_
    refine xr_getR 86 d_MO_look_83 rfl g_MO_29 (by decide) rfl rfl ?_
    refine ex_iload_n (a := nI n) 87 d_MO_look_86 rfl rfl ?_
    refine xr_zald 88 d_MO_look_87 rfl (by decide) rfl rfl (by omega) (by omega) ?_
    refine ex_ifeq 95 91 d_MO_look_88 rfl rfl (fun h3 => ?_) (fun h3 => ?_)
    · refine ex_iconst (v := 0) 96 d_MO_look_95 rfl (by decide) ?_
      refine ex_iret d_MO_look_96 rfl ⟨_, rfl, ?_⟩
      refine ⟨?_, ?_⟩
      · rfl
      · rw [if_neg h2, if_pos h3]
    · refine ex_iconst (v := 1) 92 d_MO_look_91 rfl (by decide) ?_
      refine ex_goto 96 d_MO_look_92 rfl ?_
      refine ex_iret d_MO_look_96 rfl ⟨_, rfl, ?_⟩
      refine ⟨?_, ?_⟩
      · rfl
      · rw [if_neg h2, if_neg h3]
  · refine ex_iconst (v := 0) 43 d_MO_look_42 rfl (by decide) ?_
    refine ex_iret d_MO_look_43 rfl ⟨_, rfl, ?_⟩
    refine ⟨?_, ?_⟩
    · rfl
    · rw [if_pos h2]
set_option maxRecDepth 100000 in
set_option maxHeartbeats 4000000 in
theorem c_MO_look_2 (n : Nat) (hnN : n < N) (hN : N ≤ 5) (hn : M 0 0 = nI N)  : Ex G none mi_MO_look 0 0 0 (xEn mi_MO_look [.ref (ad (rp N 0)), .int (nI n), .int 2]) [] (LR G ad N S M) (xI (fun v w => w = LR G ad N S (M) ∧ v = if M 6 n = 0 then 0 else M 9 n)) := by
  have hnI : isN N (nI n) := isN_nI hnN hN
  refine ex_aload_n (a := ad (rp N 0)) 1 d_MO_look_0 rfl rfl ?_
  refine ex_iload_n (a := nI n) 2 d_MO_look_1 rfl rfl ?_
  refine xr_callVi [.int (nI n)] [] 5 d_MO_look_2 rfl zv_MO_isNode ⟨(Nat.le_of_ble_eq_true rfl), (Nat.le_of_ble_eq_true rfl)⟩ m_MO_101 (by decide) rfl rfl rfl (Nat.le_of_ble_eq_true rfl) rfl (Nat.le_of_ble_eq_true rfl) (c_MO_isNode (S := S) (M := M) (nI n) hn) (fun vv ww q1 => ?_)
  rw [q1.1, q1.2]
  refine Ex.int (zb_t hnI) ?_
  refine ex_ifeq 18 8 d_MO_look_5 rfl rfl (fun h => absurd h (by decide)) (fun _ => ?_)
  refine ex_iload_n (a := 2) 9 d_MO_look_8 rfl rfl ?_
  refine ex_iflt 18 12 d_MO_look_9 rfl rfl (fun h => absurd h (by decide)) (fun _ => ?_)
  refine ex_iload_n (a := 2) 13 d_MO_look_12 rfl rfl ?_
  refine ex_bipush (v := 6) 15 d_MO_look_13 rfl (by decide) ?_
  refine ex_icmple 20 18 d_MO_look_15 rfl rfl (fun _ => ?_) (fun h => absurd (by decide) h)
  refine ex_iload_n (a := 2) 21 d_MO_look_20 rfl rfl ?_
  refine ex_bipush (v := 6) 23 d_MO_look_21 rfl (by decide) ?_
  refine ex_icmpne 33 26 d_MO_look_23 rfl rfl (fun _ => ?_) (fun h => absurd h (by decide))
  refine ex_aload_n (a := ad (rp N 0)) 34 d_MO_look_33 rfl rfl ?_
  refine xr_getR 37 d_MO_look_34 rfl g_MO_25 (by decide) rfl rfl ?_
  refine ex_iload_n (a := nI n) 38 d_MO_look_37 rfl rfl ?_
  refine xr_zald 39 d_MO_look_38 rfl (by decide) rfl rfl (by omega) (by omega) ?_
  refine ex_ifne 44 42 d_MO_look_39 rfl rfl (fun h2 => ?_) (fun h2 => ?_)
  · refine ex_iload_n (a := 2) 45 d_MO_look_44 rfl rfl ?_
    refine ex_tableIn 97 d_MO_look_45 (by decide) (by decide) rfl rfl ?_
    refine ex_aload_n (a := ad (rp N 0)) 98 d_MO_look_97 rfl rfl ?_
    refine xr_getR 101 d_MO_look_98 rfl g_MO_35 (by decide) rfl rfl ?_
    refine ex_iload_n (a := nI n) 102 d_MO_look_101 rfl rfl ?_
    refine xr_iald 103 d_MO_look_102 rfl (by decide) rfl rfl (by omega) (by omega) ?_
    refine ex_iret d_MO_look_103 rfl ⟨_, rfl, ?_⟩
    refine ⟨?_, ?_⟩
    · rfl
    · rw [if_neg h2]
  · refine ex_iconst (v := 0) 43 d_MO_look_42 rfl (by decide) ?_
    refine ex_iret d_MO_look_43 rfl ⟨_, rfl, ?_⟩
    refine ⟨?_, ?_⟩
    · rfl
    · rw [if_pos h2]
set_option maxRecDepth 100000 in
set_option maxHeartbeats 4000000 in
theorem c_MO_look_3 (n : Nat) (hnN : n < N) (hN : N ≤ 5) (hn : M 0 0 = nI N)  : Ex G none mi_MO_look 0 0 0 (xEn mi_MO_look [.ref (ad (rp N 0)), .int (nI n), .int 3]) [] (LR G ad N S M) (xI (fun v w => w = LR G ad N S (M) ∧ v = if M 6 n = 0 then 0 else M 10 n)) := by
  have hnI : isN N (nI n) := isN_nI hnN hN
  refine ex_aload_n (a := ad (rp N 0)) 1 d_MO_look_0 rfl rfl ?_
  refine ex_iload_n (a := nI n) 2 d_MO_look_1 rfl rfl ?_
  refine xr_callVi [.int (nI n)] [] 5 d_MO_look_2 rfl zv_MO_isNode ⟨(Nat.le_of_ble_eq_true rfl), (Nat.le_of_ble_eq_true rfl)⟩ m_MO_101 (by decide) rfl rfl rfl (Nat.le_of_ble_eq_true rfl) rfl (Nat.le_of_ble_eq_true rfl) (c_MO_isNode (S := S) (M := M) (nI n) hn) (fun vv ww q1 => ?_)
  rw [q1.1, q1.2]
  refine Ex.int (zb_t hnI) ?_
  refine ex_ifeq 18 8 d_MO_look_5 rfl rfl (fun h => absurd h (by decide)) (fun _ => ?_)
  refine ex_iload_n (a := 3) 9 d_MO_look_8 rfl rfl ?_
  refine ex_iflt 18 12 d_MO_look_9 rfl rfl (fun h => absurd h (by decide)) (fun _ => ?_)
  refine ex_iload_n (a := 3) 13 d_MO_look_12 rfl rfl ?_
  refine ex_bipush (v := 6) 15 d_MO_look_13 rfl (by decide) ?_
  refine ex_icmple 20 18 d_MO_look_15 rfl rfl (fun _ => ?_) (fun h => absurd (by decide) h)
  refine ex_iload_n (a := 3) 21 d_MO_look_20 rfl rfl ?_
  refine ex_bipush (v := 6) 23 d_MO_look_21 rfl (by decide) ?_
  refine ex_icmpne 33 26 d_MO_look_23 rfl rfl (fun _ => ?_) (fun h => absurd h (by decide))
  refine ex_aload_n (a := ad (rp N 0)) 34 d_MO_look_33 rfl rfl ?_
  refine xr_getR 37 d_MO_look_34 rfl g_MO_25 (by decide) rfl rfl ?_
  refine ex_iload_n (a := nI n) 38 d_MO_look_37 rfl rfl ?_
  refine xr_zald 39 d_MO_look_38 rfl (by decide) rfl rfl (by omega) (by omega) ?_
  refine ex_ifne 44 42 d_MO_look_39 rfl rfl (fun h2 => ?_) (fun h2 => ?_)
  · refine ex_iload_n (a := 3) 45 d_MO_look_44 rfl rfl ?_
    refine ex_tableIn 104 d_MO_look_45 (by decide) (by decide) rfl rfl ?_
    refine ex_aload_n (a := ad (rp N 0)) 105 d_MO_look_104 rfl rfl ?_
    refine xr_getR 108 d_MO_look_105 rfl g_MO_38 (by decide) rfl rfl ?_
    refine ex_iload_n (a := nI n) 109 d_MO_look_108 rfl rfl ?_
    refine xr_iald 110 d_MO_look_109 rfl (by decide) rfl rfl (by omega) (by omega) ?_
    refine ex_iret d_MO_look_110 rfl ⟨_, rfl, ?_⟩
    refine ⟨?_, ?_⟩
    · rfl
    · rw [if_neg h2]
  · refine ex_iconst (v := 0) 43 d_MO_look_42 rfl (by decide) ?_
    refine ex_iret d_MO_look_43 rfl ⟨_, rfl, ?_⟩
    refine ⟨?_, ?_⟩
    · rfl
    · rw [if_pos h2]
set_option maxRecDepth 100000 in
set_option maxHeartbeats 4000000 in
theorem c_MO_look_4 (n : Nat) (hnN : n < N) (hN : N ≤ 5) (hn : M 0 0 = nI N)  : Ex G none mi_MO_look 0 0 0 (xEn mi_MO_look [.ref (ad (rp N 0)), .int (nI n), .int 4]) [] (LR G ad N S M) (xI (fun v w => w = LR G ad N S (M) ∧ v = if M 6 n = 0 then 0 else M 11 n)) := by
  have hnI : isN N (nI n) := isN_nI hnN hN
  refine ex_aload_n (a := ad (rp N 0)) 1 d_MO_look_0 rfl rfl ?_
  refine ex_iload_n (a := nI n) 2 d_MO_look_1 rfl rfl ?_
  refine xr_callVi [.int (nI n)] [] 5 d_MO_look_2 rfl zv_MO_isNode ⟨(Nat.le_of_ble_eq_true rfl), (Nat.le_of_ble_eq_true rfl)⟩ m_MO_101 (by decide) rfl rfl rfl (Nat.le_of_ble_eq_true rfl) rfl (Nat.le_of_ble_eq_true rfl) (c_MO_isNode (S := S) (M := M) (nI n) hn) (fun vv ww q1 => ?_)
  rw [q1.1, q1.2]
  refine Ex.int (zb_t hnI) ?_
  refine ex_ifeq 18 8 d_MO_look_5 rfl rfl (fun h => absurd h (by decide)) (fun _ => ?_)
  refine ex_iload_n (a := 4) 9 d_MO_look_8 rfl rfl ?_
  refine ex_iflt 18 12 d_MO_look_9 rfl rfl (fun h => absurd h (by decide)) (fun _ => ?_)
  refine ex_iload_n (a := 4) 13 d_MO_look_12 rfl rfl ?_
  refine ex_bipush (v := 6) 15 d_MO_look_13 rfl (by decide) ?_
  refine ex_icmple 20 18 d_MO_look_15 rfl rfl (fun _ => ?_) (fun h => absurd (by decide) h)
  refine ex_iload_n (a := 4) 21 d_MO_look_20 rfl rfl ?_
  refine ex_bipush (v := 6) 23 d_MO_look_21 rfl (by decide) ?_
  refine ex_icmpne 33 26 d_MO_look_23 rfl rfl (fun _ => ?_) (fun h => absurd h (by decide))
  refine ex_aload_n (a := ad (rp N 0)) 34 d_MO_look_33 rfl rfl ?_
  refine xr_getR 37 d_MO_look_34 rfl g_MO_25 (by decide) rfl rfl ?_
  refine ex_iload_n (a := nI n) 38 d_MO_look_37 rfl rfl ?_
  refine xr_zald 39 d_MO_look_38 rfl (by decide) rfl rfl (by omega) (by omega) ?_
  refine ex_ifne 44 42 d_MO_look_39 rfl rfl (fun h2 => ?_) (fun h2 => ?_)
  · refine ex_iload_n (a := 4) 45 d_MO_look_44 rfl rfl ?_
    refine ex_tableIn 111 d_MO_look_45 (by decide) (by decide) rfl rfl ?_
    refine ex_aload_n (a := ad (rp N 0)) 112 d_MO_look_111 rfl rfl ?_
    refine xr_getR 115 d_MO_look_112 rfl g_MO_41 (by decide) rfl rfl ?_
    refine ex_iload_n (a := nI n) 116 d_MO_look_115 rfl rfl ?_
    refine xr_iald 117 d_MO_look_116 rfl (by decide) rfl rfl (by omega) (by omega) ?_
    refine ex_iret d_MO_look_117 rfl ⟨_, rfl, ?_⟩
    refine ⟨?_, ?_⟩
    · rfl
    · rw [if_neg h2]
  · refine ex_iconst (v := 0) 43 d_MO_look_42 rfl (by decide) ?_
    refine ex_iret d_MO_look_43 rfl ⟨_, rfl, ?_⟩
    refine ⟨?_, ?_⟩
    · rfl
    · rw [if_pos h2]
set_option maxRecDepth 100000 in
set_option maxHeartbeats 4000000 in
theorem c_MO_look_5 (n : Nat) (hnN : n < N) (hN : N ≤ 5) (hn : M 0 0 = nI N) (hok : rPok n M) : Ex G none mi_MO_look 0 0 0 (xEn mi_MO_look [.ref (ad (rp N 0)), .int (nI n), .int 5]) [] (LR G ad N S M) (xI (fun v w => w = LR G ad N S (if M 6 n = 0 then M else rPlay n M) ∧ v = if M 6 n = 0 then 0 else rPlay n M 0 19)) := by
  have hnI : isN N (nI n) := isN_nI hnN hN
  refine ex_aload_n (a := ad (rp N 0)) 1 d_MO_look_0 rfl rfl ?_
  refine ex_iload_n (a := nI n) 2 d_MO_look_1 rfl rfl ?_
  refine xr_callVi [.int (nI n)] [] 5 d_MO_look_2 rfl zv_MO_isNode ⟨(Nat.le_of_ble_eq_true rfl), (Nat.le_of_ble_eq_true rfl)⟩ m_MO_101 (by decide) rfl rfl rfl (Nat.le_of_ble_eq_true rfl) rfl (Nat.le_of_ble_eq_true rfl) (c_MO_isNode (S := S) (M := M) (nI n) hn) (fun vv ww q1 => ?_)
  rw [q1.1, q1.2]
  refine Ex.int (zb_t hnI) ?_
  refine ex_ifeq 18 8 d_MO_look_5 rfl rfl (fun h => absurd h (by decide)) (fun _ => ?_)
  refine ex_iload_n (a := 5) 9 d_MO_look_8 rfl rfl ?_
  refine ex_iflt 18 12 d_MO_look_9 rfl rfl (fun h => absurd h (by decide)) (fun _ => ?_)
  refine ex_iload_n (a := 5) 13 d_MO_look_12 rfl rfl ?_
  refine ex_bipush (v := 6) 15 d_MO_look_13 rfl (by decide) ?_
  refine ex_icmple 20 18 d_MO_look_15 rfl rfl (fun _ => ?_) (fun h => absurd (by decide) h)
  refine ex_iload_n (a := 5) 21 d_MO_look_20 rfl rfl ?_
  refine ex_bipush (v := 6) 23 d_MO_look_21 rfl (by decide) ?_
  refine ex_icmpne 33 26 d_MO_look_23 rfl rfl (fun _ => ?_) (fun h => absurd h (by decide))
  refine ex_aload_n (a := ad (rp N 0)) 34 d_MO_look_33 rfl rfl ?_
  refine xr_getR 37 d_MO_look_34 rfl g_MO_25 (by decide) rfl rfl ?_
  refine ex_iload_n (a := nI n) 38 d_MO_look_37 rfl rfl ?_
  refine xr_zald 39 d_MO_look_38 rfl (by decide) rfl rfl (by omega) (by omega) ?_
  refine ex_ifne 44 42 d_MO_look_39 rfl rfl (fun h2 => ?_) (fun h2 => ?_)
  · refine ex_iload_n (a := 5) 45 d_MO_look_44 rfl rfl ?_
    refine ex_tableOut 118 d_MO_look_45 (by decide) rfl ?_
    refine ex_aload_n (a := ad (rp N 0)) 119 d_MO_look_118 rfl rfl ?_
    refine ex_iload_n (a := nI n) 120 d_MO_look_119 rfl rfl ?_
    refine xr_callVv [.int (nI n)] [] 123 d_MO_look_120 rfl zv_MO_play ⟨(Nat.le_of_ble_eq_true rfl), (Nat.le_of_ble_eq_true rfl)⟩ m_MO_127 (by decide) rfl rfl rfl (Nat.le_of_ble_eq_true rfl) rfl (Nat.le_of_ble_eq_true rfl) (c_MO_play (S := S) (M := M) n (by omega) hok) (fun ww q3 => ?_)
    rw [q3]
    refine ex_aload_n (a := ad (rp N 0)) 124 d_MO_look_123 rfl rfl ?_
    refine xr_get 127 d_MO_look_124 rfl g_MO_124 (by decide) rfl rfl ?_
    refine ex_iret d_MO_look_127 rfl ⟨_, rfl, ?_⟩
    refine ⟨?_, ?_⟩
    · rw [if_neg h2]
    · rw [if_neg h2]
  · refine ex_iconst (v := 0) 43 d_MO_look_42 rfl (by decide) ?_
    refine ex_iret d_MO_look_43 rfl ⟨_, rfl, ?_⟩
    refine ⟨?_, ?_⟩
    · rw [if_pos h2]
    · rw [if_pos h2]
set_option maxRecDepth 100000 in
set_option maxHeartbeats 4000000 in
theorem c_MO_look_6 (n : Nat) (hnN : n < N) (hN : N ≤ 5) (hn : M 0 0 = nI N)  : Ex G none mi_MO_look 0 0 0 (xEn mi_MO_look [.ref (ad (rp N 0)), .int (nI n), .int 6]) [] (LR G ad N S M) (xI (fun v w => w = LR G ad N S (M) ∧ v = M 8 n)) := by
  have hnI : isN N (nI n) := isN_nI hnN hN
  refine ex_aload_n (a := ad (rp N 0)) 1 d_MO_look_0 rfl rfl ?_
  refine ex_iload_n (a := nI n) 2 d_MO_look_1 rfl rfl ?_
  refine xr_callVi [.int (nI n)] [] 5 d_MO_look_2 rfl zv_MO_isNode ⟨(Nat.le_of_ble_eq_true rfl), (Nat.le_of_ble_eq_true rfl)⟩ m_MO_101 (by decide) rfl rfl rfl (Nat.le_of_ble_eq_true rfl) rfl (Nat.le_of_ble_eq_true rfl) (c_MO_isNode (S := S) (M := M) (nI n) hn) (fun vv ww q1 => ?_)
  rw [q1.1, q1.2]
  refine Ex.int (zb_t hnI) ?_
  refine ex_ifeq 18 8 d_MO_look_5 rfl rfl (fun h => absurd h (by decide)) (fun _ => ?_)
  refine ex_iload_n (a := 6) 9 d_MO_look_8 rfl rfl ?_
  refine ex_iflt 18 12 d_MO_look_9 rfl rfl (fun h => absurd h (by decide)) (fun _ => ?_)
  refine ex_iload_n (a := 6) 13 d_MO_look_12 rfl rfl ?_
  refine ex_bipush (v := 6) 15 d_MO_look_13 rfl (by decide) ?_
  refine ex_icmple 20 18 d_MO_look_15 rfl rfl (fun _ => ?_) (fun h => absurd (by decide) h)
  refine ex_iload_n (a := 6) 21 d_MO_look_20 rfl rfl ?_
  refine ex_bipush (v := 6) 23 d_MO_look_21 rfl (by decide) ?_
  refine ex_icmpne 33 26 d_MO_look_23 rfl rfl (fun h => absurd (by decide) h) (fun _ => ?_)
  refine ex_aload_n (a := ad (rp N 0)) 27 d_MO_look_26 rfl rfl ?_
  refine xr_getR 30 d_MO_look_27 rfl g_MO_32 (by decide) rfl rfl ?_
  refine ex_iload_n (a := nI n) 31 d_MO_look_30 rfl rfl ?_
  refine xr_iald 32 d_MO_look_31 rfl (by decide) rfl rfl (by omega) (by omega) ?_
  refine ex_iret d_MO_look_32 rfl ⟨_, rfl, ?_⟩
  refine ⟨?_, ?_⟩
  · rfl
  · rfl
set_option maxRecDepth 100000 in
set_option maxHeartbeats 4000000 in
theorem c_MO_mend (n : Nat) (hnN : n < N) (a : Nat) (ha : a < N) (hN : N ≤ 5) (hn : M 0 0 = nI N) (t : Nat) (ht : t < 8) (hna : n ≠ a) : Ex G none mi_MO_mend 0 0 0 (xEn mi_MO_mend [.ref (ad (rp N 0)), .int (nI n), .int (nI a), .int (nI (t + 1))]) [] (LR G ad N S M) (xI (fun v w => w = LR G ad N S (rMendS n a t M) ∧ v = rMendR n a t M)) := by
  have hnI : isN N (nI n) := isN_nI hnN hN; have haI : isN N (nI a) := isN_nI ha hN; have hsS : isSl (nI (t + 1)) := isSl_nI (by omega) (by omega)
  refine ex_aload_n (a := ad (rp N 0)) 1 d_MO_mend_0 rfl rfl ?_
  refine ex_iload_n (a := nI n) 2 d_MO_mend_1 rfl rfl ?_
  refine xr_callVi [.int (nI n)] [] 5 d_MO_mend_2 rfl zv_MO_isNode ⟨(Nat.le_of_ble_eq_true rfl), (Nat.le_of_ble_eq_true rfl)⟩ m_MO_101 (by decide) rfl rfl rfl (Nat.le_of_ble_eq_true rfl) rfl (Nat.le_of_ble_eq_true rfl) (c_MO_isNode (S := S) (M := M) (nI n) hn) (fun vv ww q1 => ?_)
  rw [q1.1, q1.2]
  refine Ex.int (zb_t hnI) ?_
  refine ex_ifeq 28 8 d_MO_mend_5 rfl rfl (fun h => absurd h (by decide)) (fun _ => ?_)
  refine ex_aload_n (a := ad (rp N 0)) 9 d_MO_mend_8 rfl rfl ?_
  refine ex_iload_n (a := nI a) 10 d_MO_mend_9 rfl rfl ?_
  refine xr_callVi [.int (nI a)] [] 13 d_MO_mend_10 rfl zv_MO_isNode ⟨(Nat.le_of_ble_eq_true rfl), (Nat.le_of_ble_eq_true rfl)⟩ m_MO_101 (by decide) rfl rfl rfl (Nat.le_of_ble_eq_true rfl) rfl (Nat.le_of_ble_eq_true rfl) (c_MO_isNode (S := S) (M := M) (nI a) hn) (fun vv ww q2 => ?_)
  rw [q2.1, q2.2]
  refine Ex.int (zb_t haI) ?_
  refine ex_ifeq 28 16 d_MO_mend_13 rfl rfl (fun h => absurd h (by decide)) (fun _ => ?_)
  refine ex_iload_n (a := nI (t + 1)) 17 d_MO_mend_16 rfl rfl ?_
  refine xl_callSi [.int (nI (t + 1))] [] 20 d_MO_mend_17 rfl zs_MO_isSlot ⟨(Nat.le_of_ble_eq_true rfl), (Nat.le_of_ble_eq_true rfl)⟩ m_MO_136 rfl rfl (Nat.le_of_ble_eq_true rfl) rfl (Nat.le_of_ble_eq_true rfl) (c_MO_isSlot (S := S) (M := M) (nI (t + 1))) (fun vv ww q3 => ?_)
  rw [q3.1, q3.2]
  refine Ex.int (zb_t hsS) ?_
  refine ex_ifeq 28 23 d_MO_mend_20 rfl rfl (fun h => absurd h (by decide)) (fun _ => ?_)
  refine ex_iload_n (a := nI n) 24 d_MO_mend_23 rfl rfl ?_
  refine ex_iload_n (a := nI a) 25 d_MO_mend_24 rfl rfl ?_
  refine ex_icmpne 30 28 d_MO_mend_25 rfl rfl (fun _ => ?_) (fun h => absurd h (xn_ne rfl rfl (by omega) (by omega) (by omega)))
  refine ex_aload_n (a := ad (rp N 0)) 31 d_MO_mend_30 rfl rfl ?_
  refine xr_getR 34 d_MO_mend_31 rfl g_MO_44 (by decide) rfl rfl ?_
  refine ex_bipush (v := 8) 36 d_MO_mend_34 rfl (by decide) ?_
  refine ex_iload_n (a := nI n) 37 d_MO_mend_36 rfl rfl ?_
  refine ex_imulN (8 * n) 38 d_MO_mend_37 rfl (xn_lit 8) rfl (by omega) ?_
  refine ex_iload_n (a := nI (t + 1)) 39 d_MO_mend_38 rfl rfl ?_
  refine ex_iaddN (8 * n + t + 1) 40 d_MO_mend_39 rfl rfl rfl (by omega) ?_
  refine ex_iconst (v := 1) 41 d_MO_mend_40 rfl (by decide) ?_
  refine ex_isubN (8 * n + t) 42 d_MO_mend_41 rfl rfl (xn_lit 1) (by omega) ?_
  refine xr_iald 43 d_MO_mend_42 rfl (by decide) rfl rfl (by omega) (by omega) ?_
  refine ex_istore 45 d_MO_mend_43 rfl (Nat.le_of_ble_eq_true rfl) ?_
  refine ex_aload_n (a := ad (rp N 0)) 46 d_MO_mend_45 rfl rfl ?_
  refine xr_getR 49 d_MO_mend_46 rfl g_MO_44 (by decide) rfl rfl ?_
  refine ex_bipush (v := 8) 51 d_MO_mend_49 rfl (by decide) ?_
  refine ex_iload_n (a := nI a) 52 d_MO_mend_51 rfl rfl ?_
  refine ex_imulN (8 * a) 53 d_MO_mend_52 rfl (xn_lit 8) rfl (by omega) ?_
  refine ex_iload_n (a := nI (t + 1)) 54 d_MO_mend_53 rfl rfl ?_
  refine ex_iaddN (8 * a + t + 1) 55 d_MO_mend_54 rfl rfl rfl (by omega) ?_
  refine ex_iconst (v := 1) 56 d_MO_mend_55 rfl (by decide) ?_
  refine ex_isubN (8 * a + t) 57 d_MO_mend_56 rfl rfl (xn_lit 1) (by omega) ?_
  refine xr_iald 58 d_MO_mend_57 rfl (by decide) rfl rfl (by omega) (by omega) ?_
  refine ex_istore 60 d_MO_mend_58 rfl (Nat.le_of_ble_eq_true rfl) ?_
  refine ex_aload_n (a := ad (rp N 0)) 61 d_MO_mend_60 rfl rfl ?_
  refine ex_iload_n (a := nI n) 62 d_MO_mend_61 rfl rfl ?_
  refine xr_callVi [.int (nI n)] [] 65 d_MO_mend_62 rfl zv_MO_isWorking ⟨(Nat.le_of_ble_eq_true rfl), (Nat.le_of_ble_eq_true rfl)⟩ m_MO_111 (by decide) rfl rfl rfl (Nat.le_of_ble_eq_true rfl) rfl (Nat.le_of_ble_eq_true rfl) (c_MO_isWorking (S := S) (M := M) n (by omega)) (fun vv ww q4 => ?_)
  rw [q4.1, q4.2]
  by_cases h5 : rWk n M
  · refine Ex.int (zb_t h5) ?_
    refine ex_ifeq 106 68 d_MO_mend_65 rfl rfl (fun h => absurd h (by decide)) (fun _ => ?_)
    refine ex_aload_n (a := ad (rp N 0)) 69 d_MO_mend_68 rfl rfl ?_
    refine ex_iload_n (a := nI a) 70 d_MO_mend_69 rfl rfl ?_
    refine xr_callVi [.int (nI a)] [] 73 d_MO_mend_70 rfl zv_MO_isWorking ⟨(Nat.le_of_ble_eq_true rfl), (Nat.le_of_ble_eq_true rfl)⟩ m_MO_111 (by decide) rfl rfl rfl (Nat.le_of_ble_eq_true rfl) rfl (Nat.le_of_ble_eq_true rfl) (c_MO_isWorking (S := S) (M := M) a (by omega)) (fun vv ww q6 => ?_)
    rw [q6.1, q6.2]
    by_cases h7 : rWk a M
    · refine Ex.int (zb_t h7) ?_
      refine ex_ifeq 106 76 d_MO_mend_73 rfl rfl (fun h => absurd h (by decide)) (fun _ => ?_)
      refine ex_iload (a := M 12 (8 * n + t)) 78 d_MO_mend_76 rfl rfl ?_
      refine ex_ifge 106 81 d_MO_mend_78 rfl rfl (fun h8 => ?_) (fun h8 => ?_)
      · refine ex_iconst (v := 0) 107 d_MO_mend_106 rfl (by decide) ?_
        refine ex_iret d_MO_mend_107 rfl ⟨_, rfl, ?_⟩
        refine ⟨?_, ?_⟩
        · unfold rMendS; rw [if_neg (fun z => absurd z.2.2.1 (Int32.not_lt.mpr h8))]
        · unfold rMendR; rw [if_neg (fun z => absurd z.2.2.1 (Int32.not_lt.mpr h8))]
      · refine ex_iload (a := M 12 (8 * n + t)) 83 d_MO_mend_81 rfl rfl ?_
        refine ex_ldc (v := (-1000000)) 85 d_MO_mend_83 rfl c_MO_100 ?_
        refine ex_icmpeq 106 88 d_MO_mend_85 rfl rfl (fun h9 => ?_) (fun h9 => ?_)
        · refine ex_iconst (v := 0) 107 d_MO_mend_106 rfl (by decide) ?_
          refine ex_iret d_MO_mend_107 rfl ⟨_, rfl, ?_⟩
          refine ⟨?_, ?_⟩
          · unfold rMendS; rw [if_neg (fun z => z.2.2.2.1 h9)]
          · unfold rMendR; rw [if_neg (fun z => z.2.2.2.1 h9)]
        · refine ex_iload (a := M 12 (8 * a + t)) 90 d_MO_mend_88 rfl rfl ?_
          refine ex_ifle 106 93 d_MO_mend_90 rfl rfl (fun h10 => ?_) (fun h10 => ?_)
          · refine ex_iconst (v := 0) 107 d_MO_mend_106 rfl (by decide) ?_
            refine ex_iret d_MO_mend_107 rfl ⟨_, rfl, ?_⟩
            refine ⟨?_, ?_⟩
            · unfold rMendS; rw [if_neg (fun z => absurd z.2.2.2.2.1 (Int32.not_lt.mpr h10))]
            · unfold rMendR; rw [if_neg (fun z => absurd z.2.2.2.2.1 (Int32.not_lt.mpr h10))]
          · refine ex_iload (a := M 12 (8 * a + t)) 95 d_MO_mend_93 rfl rfl ?_
            refine ex_bipush (v := 64) 97 d_MO_mend_95 rfl (by decide) ?_
            refine ex_idiv 98 d_MO_mend_97 rfl (by decide) ?_
            refine ex_bipush (v := (-2)) 100 d_MO_mend_98 rfl (by decide) ?_
            refine ex_iload (a := M 12 (8 * n + t)) 102 d_MO_mend_100 rfl rfl ?_
            refine ex_isub 103 d_MO_mend_102 rfl ?_
            refine ex_icmpeq 108 106 d_MO_mend_103 rfl rfl (fun h11 => ?_) (fun h11 => ?_)
            · refine ex_aload_n (a := ad (rp N 0)) 109 d_MO_mend_108 rfl rfl ?_
              refine ex_iload_n (a := nI n) 110 d_MO_mend_109 rfl rfl ?_
              refine ex_iload_n (a := nI (t + 1)) 111 d_MO_mend_110 rfl rfl ?_
              refine ex_iload (a := M 12 (8 * a + t)) 113 d_MO_mend_111 rfl rfl ?_
              refine ex_bipush (v := 64) 115 d_MO_mend_113 rfl (by decide) ?_
              refine ex_irem 116 d_MO_mend_115 rfl (by decide) ?_
              refine ex_iload (a := M 12 (8 * a + t)) 118 d_MO_mend_116 rfl rfl ?_
              refine ex_bipush (v := 64) 120 d_MO_mend_118 rfl (by decide) ?_
              refine ex_idiv 121 d_MO_mend_120 rfl (by decide) ?_
              refine xr_callVi [.int (nI n), .int (nI (t + 1)), .int ((M 12 (8 * a + t) - M 12 (8 * a + t) / 64 * 64)), .int ((M 12 (8 * a + t) / 64))] [] 124 d_MO_mend_121 rfl zv_MO_writeVote ⟨(Nat.le_of_ble_eq_true rfl), (Nat.le_of_ble_eq_true rfl)⟩ m_MO_139 (by decide) rfl rfl rfl (Nat.le_of_ble_eq_true rfl) rfl (Nat.le_of_ble_eq_true rfl) (c_MO_writeVote (S := S) (M := M) n t (by omega) (by omega) (M 12 (8 * a + t) - M 12 (8 * a + t) / 64 * 64) (M 12 (8 * a + t) / 64)) (fun vv ww q12 => ?_)
              rw [q12.1, q12.2]
              by_cases h13 : rWVok n t (M 12 (8 * a + t) - M 12 (8 * a + t) / 64 * 64) (M 12 (8 * a + t) / 64) M
              · refine Ex.int (zb_t h13) ?_
                refine ex_ifeq 131 127 d_MO_mend_124 rfl rfl (fun h => absurd h (by decide)) (fun _ => ?_)
                refine ex_iconst (v := 1) 128 d_MO_mend_127 rfl (by decide) ?_
                refine ex_goto 133 d_MO_mend_128 rfl ?_
                refine ex_iret d_MO_mend_133 rfl ⟨_, rfl, ?_⟩
                refine ⟨?_, ?_⟩
                · unfold rMendS; rw [if_pos ⟨h5, h7, (Int32.not_le.mp h8), h9, (Int32.not_le.mp h10), h11⟩]
                · unfold rMendR; rw [if_pos ⟨h5, h7, (Int32.not_le.mp h8), h9, (Int32.not_le.mp h10), h11⟩, if_pos h13]
              · refine Ex.int (zb_f h13) ?_
                refine ex_ifeq 131 127 d_MO_mend_124 rfl rfl (fun _ => ?_) (fun h => absurd (by decide) h)
                refine ex_bipush (v := (-4)) 133 d_MO_mend_131 rfl (by decide) ?_
                refine ex_iret d_MO_mend_133 rfl ⟨_, rfl, ?_⟩
                refine ⟨?_, ?_⟩
                · unfold rMendS; rw [if_pos ⟨h5, h7, (Int32.not_le.mp h8), h9, (Int32.not_le.mp h10), h11⟩]
                · unfold rMendR; rw [if_pos ⟨h5, h7, (Int32.not_le.mp h8), h9, (Int32.not_le.mp h10), h11⟩, if_neg h13]
            · refine ex_iconst (v := 0) 107 d_MO_mend_106 rfl (by decide) ?_
              refine ex_iret d_MO_mend_107 rfl ⟨_, rfl, ?_⟩
              refine ⟨?_, ?_⟩
              · unfold rMendS; rw [if_neg (fun z => h11 z.2.2.2.2.2)]
              · unfold rMendR; rw [if_neg (fun z => h11 z.2.2.2.2.2)]
    · refine Ex.int (zb_f h7) ?_
      refine ex_ifeq 106 76 d_MO_mend_73 rfl rfl (fun _ => ?_) (fun h => absurd (by decide) h)
      refine ex_iconst (v := 0) 107 d_MO_mend_106 rfl (by decide) ?_
      refine ex_iret d_MO_mend_107 rfl ⟨_, rfl, ?_⟩
      refine ⟨?_, ?_⟩
      · unfold rMendS; rw [if_neg (fun z => h7 z.2.1)]
      · unfold rMendR; rw [if_neg (fun z => h7 z.2.1)]
  · refine Ex.int (zb_f h5) ?_
    refine ex_ifeq 106 68 d_MO_mend_65 rfl rfl (fun _ => ?_) (fun h => absurd (by decide) h)
    refine ex_iconst (v := 0) 107 d_MO_mend_106 rfl (by decide) ?_
    refine ex_iret d_MO_mend_107 rfl ⟨_, rfl, ?_⟩
    refine ⟨?_, ?_⟩
    · unfold rMendS; rw [if_neg (fun z => h5 z.1)]
    · unfold rMendR; rw [if_neg (fun z => h5 z.1)]
set_option maxRecDepth 100000 in
set_option maxHeartbeats 4000000 in
theorem c_MO_tell (n : Nat) (hnN : n < N) (m : Nat) (hm : m < N) (hN : N ≤ 5) (hn : M 0 0 = nI N) (hnm : n ≠ m) : Ex G none mi_MO_tell 0 0 0 (xEn mi_MO_tell [.ref (ad (rp N 0)), .int (nI n), .int (nI m)]) [] (LR G ad N S M) (xI (fun v w => w = LR G ad N S (rTellS n m M) ∧ v = rTellR n m M)) := by
  have hnI : isN N (nI n) := isN_nI hnN hN
  have hmI : isN N (nI m) := isN_nI hm hN
  have hloop : ¬ M 6 n = 0 → ¬ M 6 m = 0 → ∀ k, k ≤ 8 → Ex G none mi_MO_tell 0 0 49 [some (.ref (ad (rp N 0))), some (.int (nI n)), some (.int (nI m)), some (.int ((rTl n m M k).1)), some (.int (nI k))] [] (LR G ad N S (rTl n m M k).2) (xI (fun v w => w = LR G ad N S (rTellS n m M) ∧ v = rTellR n m M)) := by
    intro h6n h6m
    refine loop_down 8 ?_ ?_
    · skip
      refine ex_iload (a := nI 8) 51 d_MO_tell_49 rfl rfl ?_
      refine ex_bipush (v := 8) 53 d_MO_tell_51 rfl (by decide) ?_
      refine ex_icmpge 122 56 d_MO_tell_53 rfl rfl (fun _ => ?_) (fun h => absurd (xn_le (xn_lit 8) rfl (by omega) (by omega) (by omega)) h)
      refine ex_iload_n (a := (rTl n m M 8).1) 123 d_MO_tell_122 rfl rfl ?_
      refine ex_iret d_MO_tell_123 rfl ⟨_, rfl, ?_⟩
      exact ⟨by unfold rTellS; rw [if_neg h6n, if_neg h6m], by unfold rTellR; rw [if_neg h6n, if_neg h6m]⟩
    · intro k hk ih
      refine ex_iload (a := nI k) 51 d_MO_tell_49 rfl rfl ?_
      refine ex_bipush (v := 8) 53 d_MO_tell_51 rfl (by decide) ?_
      refine ex_icmpge 122 56 d_MO_tell_53 rfl rfl (fun h => absurd h (xn_nle (xn_lit 8) rfl (by omega) (by omega) (by omega))) (fun _ => ?_)
      refine ex_aload_n (a := ad (rp N 0)) 57 d_MO_tell_56 rfl rfl ?_
      refine xr_getR 60 d_MO_tell_57 rfl g_MO_53 (by decide) rfl rfl ?_
      refine ex_bipush (v := 8) 62 d_MO_tell_60 rfl (by decide) ?_
      refine ex_iload_n (a := nI n) 63 d_MO_tell_62 rfl rfl ?_
      refine ex_imulN (8 * n) 64 d_MO_tell_63 rfl (xn_lit 8) rfl (by omega) ?_
      refine ex_iload (a := nI k) 66 d_MO_tell_64 rfl rfl ?_
      refine ex_iaddN (k + 8 * n) 67 d_MO_tell_66 rfl rfl rfl (by omega) ?_
      refine xr_iald 68 d_MO_tell_67 rfl (by decide) rfl rfl (by omega) (by omega) ?_
      refine ex_iflt 116 71 d_MO_tell_68 rfl rfl (fun h1 => ?_) (fun h1 => ?_)
      · refine ex_iinc (a := nI k) (v := nI (k + 1)) 119 d_MO_tell_116 rfl rfl (xn_inc rfl) ?_
        refine ex_goto 49 d_MO_tell_119 rfl ?_
        have e9 : rTl n m M (k + 1) = rTl n m M k := by rw [rTl_s, if_pos h1]
        rw [e9] at ih
        exact Ex.wk ih (by repeat (first | exact xs_nil | refine xs_s ?_ | refine xs_n ?_))
      · refine ex_aload_n (a := ad (rp N 0)) 72 d_MO_tell_71 rfl rfl ?_
        refine xr_getR 75 d_MO_tell_72 rfl g_MO_53 (by decide) rfl rfl ?_
        refine ex_bipush (v := 8) 77 d_MO_tell_75 rfl (by decide) ?_
        refine ex_iload_n (a := nI m) 78 d_MO_tell_77 rfl rfl ?_
        refine ex_imulN (8 * m) 79 d_MO_tell_78 rfl (xn_lit 8) rfl (by omega) ?_
        refine ex_iload (a := nI k) 81 d_MO_tell_79 rfl rfl ?_
        refine ex_iaddN (k + 8 * m) 82 d_MO_tell_81 rfl rfl rfl (by omega) ?_
        refine xr_iald 83 d_MO_tell_82 rfl (by decide) rfl rfl (by omega) (by omega) ?_
        refine ex_iflt 89 86 d_MO_tell_83 rfl rfl (fun h2 => ?_) (fun h2 => ?_)
        · refine ex_aload_n (a := ad (rp N 0)) 90 d_MO_tell_89 rfl rfl ?_
          refine xr_getR 93 d_MO_tell_90 rfl g_MO_53 (by decide) rfl rfl ?_
          refine ex_bipush (v := 8) 95 d_MO_tell_93 rfl (by decide) ?_
          refine ex_iload_n (a := nI m) 96 d_MO_tell_95 rfl rfl ?_
          refine ex_imulN (8 * m) 97 d_MO_tell_96 rfl (xn_lit 8) rfl (by omega) ?_
          refine ex_iload (a := nI k) 99 d_MO_tell_97 rfl rfl ?_
          refine ex_iaddN (k + 8 * m) 100 d_MO_tell_99 rfl rfl rfl (by omega) ?_
          refine ex_aload_n (a := ad (rp N 0)) 101 d_MO_tell_100 rfl rfl ?_
          refine xr_getR 104 d_MO_tell_101 rfl g_MO_53 (by decide) rfl rfl ?_
          refine ex_bipush (v := 8) 106 d_MO_tell_104 rfl (by decide) ?_
          refine ex_iload_n (a := nI n) 107 d_MO_tell_106 rfl rfl ?_
          refine ex_imulN (8 * n) 108 d_MO_tell_107 rfl (xn_lit 8) rfl (by omega) ?_
          refine ex_iload (a := nI k) 110 d_MO_tell_108 rfl rfl ?_
          refine ex_iaddN (k + 8 * n) 111 d_MO_tell_110 rfl rfl rfl (by omega) ?_
          refine xr_iald 112 d_MO_tell_111 rfl (by decide) rfl rfl (by omega) (by omega) ?_
          refine xr_iast 113 d_MO_tell_112 rfl (by decide) rfl rfl (by omega) (by omega) ?_
          refine ex_iinc (a := (rTl n m M k).1) (v := ((rTl n m M k).1 + 1)) 116 d_MO_tell_113 rfl rfl rfl ?_
          refine ex_iinc (a := nI k) (v := nI (k + 1)) 119 d_MO_tell_116 rfl rfl (xn_inc rfl) ?_
          refine ex_goto 49 d_MO_tell_119 rfl ?_
          have e9 : rTl n m M (k + 1) = ((rTl n m M k).1 + 1, (u2 (rTl n m M k).2 15 (k + 8 * m) ((rTl n m M k).2 15 (k + 8 * n)))) := by rw [rTl_s, if_neg h1, if_pos h2]
          rw [e9] at ih
          exact Ex.wk ih (by repeat (first | exact xs_nil | refine xs_s ?_ | refine xs_n ?_))
        · refine ex_goto 116 d_MO_tell_86 rfl ?_
          refine ex_iinc (a := nI k) (v := nI (k + 1)) 119 d_MO_tell_116 rfl rfl (xn_inc rfl) ?_
          refine ex_goto 49 d_MO_tell_119 rfl ?_
          have e9 : rTl n m M (k + 1) = rTl n m M k := by rw [rTl_s, if_neg h1, if_neg h2]
          rw [e9] at ih
          exact Ex.wk ih (by repeat (first | exact xs_nil | refine xs_s ?_ | refine xs_n ?_))
  refine ex_aload_n (a := ad (rp N 0)) 1 d_MO_tell_0 rfl rfl ?_
  refine ex_iload_n (a := nI n) 2 d_MO_tell_1 rfl rfl ?_
  refine xr_callVi [.int (nI n)] [] 5 d_MO_tell_2 rfl zv_MO_isNode ⟨(Nat.le_of_ble_eq_true rfl), (Nat.le_of_ble_eq_true rfl)⟩ m_MO_101 (by decide) rfl rfl rfl (Nat.le_of_ble_eq_true rfl) rfl (Nat.le_of_ble_eq_true rfl) (c_MO_isNode (S := S) (M := M) (nI n) hn) (fun vv ww q1 => ?_)
  rw [q1.1, q1.2]
  refine Ex.int (zb_t hnI) ?_
  refine ex_ifeq 21 8 d_MO_tell_5 rfl rfl (fun h => absurd h (by decide)) (fun _ => ?_)
  refine ex_aload_n (a := ad (rp N 0)) 9 d_MO_tell_8 rfl rfl ?_
  refine ex_iload_n (a := nI m) 10 d_MO_tell_9 rfl rfl ?_
  refine xr_callVi [.int (nI m)] [] 13 d_MO_tell_10 rfl zv_MO_isNode ⟨(Nat.le_of_ble_eq_true rfl), (Nat.le_of_ble_eq_true rfl)⟩ m_MO_101 (by decide) rfl rfl rfl (Nat.le_of_ble_eq_true rfl) rfl (Nat.le_of_ble_eq_true rfl) (c_MO_isNode (S := S) (M := M) (nI m) hn) (fun vv ww q2 => ?_)
  rw [q2.1, q2.2]
  refine Ex.int (zb_t hmI) ?_
  refine ex_ifeq 21 16 d_MO_tell_13 rfl rfl (fun h => absurd h (by decide)) (fun _ => ?_)
  refine ex_iload_n (a := nI n) 17 d_MO_tell_16 rfl rfl ?_
  refine ex_iload_n (a := nI m) 18 d_MO_tell_17 rfl rfl ?_
  refine ex_icmpne 23 21 d_MO_tell_18 rfl rfl (fun _ => ?_) (fun h => absurd h (xn_ne rfl rfl (by omega) (by omega) (by omega)))
  refine ex_aload_n (a := ad (rp N 0)) 24 d_MO_tell_23 rfl rfl ?_
  refine xr_getR 27 d_MO_tell_24 rfl g_MO_25 (by decide) rfl rfl ?_
  refine ex_iload_n (a := nI n) 28 d_MO_tell_27 rfl rfl ?_
  refine xr_zald 29 d_MO_tell_28 rfl (by decide) rfl rfl (by omega) (by omega) ?_
  refine ex_ifeq 41 32 d_MO_tell_29 rfl rfl (fun h3 => ?_) (fun h3 => ?_)
  · refine ex_bipush (v := (-2)) 43 d_MO_tell_41 rfl (by decide) ?_
    refine ex_iret d_MO_tell_43 rfl ⟨_, rfl, ?_⟩
    refine ⟨?_, ?_⟩
    · unfold rTellS; rw [if_pos h3]
    · unfold rTellR; rw [if_pos h3]
  · refine ex_aload_n (a := ad (rp N 0)) 33 d_MO_tell_32 rfl rfl ?_
    refine xr_getR 36 d_MO_tell_33 rfl g_MO_25 (by decide) rfl rfl ?_
    refine ex_iload_n (a := nI m) 37 d_MO_tell_36 rfl rfl ?_
    refine xr_zald 38 d_MO_tell_37 rfl (by decide) rfl rfl (by omega) (by omega) ?_
    refine ex_ifne 44 41 d_MO_tell_38 rfl rfl (fun h4 => ?_) (fun h4 => ?_)
    · refine ex_iconst (v := 0) 45 d_MO_tell_44 rfl (by decide) ?_
      refine ex_istore_n 46 d_MO_tell_45 rfl (Nat.le_of_ble_eq_true rfl) ?_
      refine ex_iconst (v := 0) 47 d_MO_tell_46 rfl (by decide) ?_
      refine ex_istore 49 d_MO_tell_47 rfl (Nat.le_of_ble_eq_true rfl) ?_
      exact hloop h3 h4 0 (Nat.zero_le _)
    · refine ex_bipush (v := (-2)) 43 d_MO_tell_41 rfl (by decide) ?_
      refine ex_iret d_MO_tell_43 rfl ⟨_, rfl, ?_⟩
      refine ⟨?_, ?_⟩
      · unfold rTellS; rw [if_neg h3, if_pos h4]
      · unfold rTellR; rw [if_neg h3, if_pos h4]
set_option maxRecDepth 100000 in
set_option maxHeartbeats 4000000 in
theorem c_MO_restart (n : Nat) (hnN : n < N) (hN : N ≤ 5) (hn : M 0 0 = nI N) : Ex G none mi_MO_restart 0 0 0 (xEn mi_MO_restart [.ref (ad (rp N 0)), .int (nI n)]) [] (LR G ad N S M) (xI (fun v w => w = LR G ad N S (rRestS n M) ∧ v = rRestR n M)) := by
  have hnI : isN N (nI n) := isN_nI hnN hN
  have hsec : ∀ (s : Nat) (M1 : sT), s < 2 → Ex G none mi_MO_restart 0 0 57 [some (.ref (ad (rp N 0))), some (.int (nI n)), some (.int (nI (s + 1))), none] [] (LR G ad N S (rPr n s M1)) (xI (fun v w => w = LR G ad N S (rRestS n M) ∧ v = rRestR n M)) → Ex G none mi_MO_restart 0 0 57 [some (.ref (ad (rp N 0))), some (.int (nI n)), some (.int (nI s)), none] [] (LR G ad N S M1) (xI (fun v w => w = LR G ad N S (rRestS n M) ∧ v = rRestR n M)) := by
    generalize hQ : (xI (fun v w => w = LR G ad N S (rRestS n M) ∧ v = rRestR n M)) = QQ
    clear hn hQ
    intro s M hs kk
    refine ex_iload_n (a := nI s) 58 d_MO_restart_57 rfl rfl ?_
    refine ex_iconst (v := 2) 59 d_MO_restart_58 rfl (by decide) ?_
    refine ex_icmpge 114 62 d_MO_restart_59 rfl rfl (fun h => absurd h (xn_nle (xn_lit 2) rfl (by omega) (by omega) (by omega))) (fun _ => ?_)
    refine ex_aload_n (a := ad (rp N 0)) 63 d_MO_restart_62 rfl rfl ?_
    refine ex_iload_n (a := nI n) 64 d_MO_restart_63 rfl rfl ?_
    refine ex_iload_n (a := nI s) 65 d_MO_restart_64 rfl rfl ?_
    refine xr_callVi [.int (nI n), .int (nI s)] [] 68 d_MO_restart_65 rfl zv_MO_isWrong ⟨(Nat.le_of_ble_eq_true rfl), (Nat.le_of_ble_eq_true rfl)⟩ m_MO_96 (by decide) rfl rfl rfl (Nat.le_of_ble_eq_true rfl) rfl (Nat.le_of_ble_eq_true rfl) (c_MO_isWrong (S := S) (M := M) n s (by omega) (by omega)) (fun vv ww q1 => ?_)
    rw [q1.1, q1.2]
    by_cases h2 : rWrF (M 5) (144 * n + 8 * s)
    · refine Ex.int (zb_t h2) ?_
      refine ex_ifeq 75 71 d_MO_restart_68 rfl rfl (fun h => absurd h (by decide)) (fun _ => ?_)
      refine ex_iconst (v := 0) 72 d_MO_restart_71 rfl (by decide) ?_
      refine ex_goto 81 d_MO_restart_72 rfl ?_
      refine ex_istore_n 82 d_MO_restart_81 rfl (Nat.le_of_ble_eq_true rfl) ?_
      refine ex_aload_n (a := ad (rp N 0)) 83 d_MO_restart_82 rfl rfl ?_
      refine xr_getR 86 d_MO_restart_83 rfl g_MO_35 (by decide) rfl rfl ?_
      refine ex_iload_n (a := nI n) 87 d_MO_restart_86 rfl rfl ?_
      refine ex_iload_n (a := 0) 88 d_MO_restart_87 rfl rfl ?_
      refine ex_aload_n (a := ad (rp N 0)) 89 d_MO_restart_88 rfl rfl ?_
      refine xr_getR 92 d_MO_restart_89 rfl g_MO_35 (by decide) rfl rfl ?_
      refine ex_iload_n (a := nI n) 93 d_MO_restart_92 rfl rfl ?_
      refine xr_iald 94 d_MO_restart_93 rfl (by decide) rfl rfl (by omega) (by omega) ?_
      refine ex_icmple 101 97 d_MO_restart_94 rfl rfl (fun h3 => ?_) (fun h3 => ?_)
      · refine ex_aload_n (a := ad (rp N 0)) 102 d_MO_restart_101 rfl rfl ?_
        refine xr_getR 105 d_MO_restart_102 rfl g_MO_35 (by decide) rfl rfl ?_
        refine ex_iload_n (a := nI n) 106 d_MO_restart_105 rfl rfl ?_
        refine xr_iald 107 d_MO_restart_106 rfl (by decide) rfl rfl (by omega) (by omega) ?_
        refine xr_iast 108 d_MO_restart_107 rfl (by decide) rfl rfl (by omega) (by omega) ?_
        refine ex_iinc (a := nI s) (v := nI (s + 1)) 111 d_MO_restart_108 rfl rfl (xn_inc rfl) ?_
        refine ex_goto 57 d_MO_restart_111 rfl ?_
        refine Ex.wk (Ex.toM ?_ kk) (by repeat (first | exact xs_nil | refine xs_s ?_ | refine xs_n ?_))
        unfold rPr rPf; rw [if_pos h2, if_pos h3]
      · refine ex_iload_n (a := 0) 98 d_MO_restart_97 rfl rfl ?_
        refine ex_goto 107 d_MO_restart_98 rfl ?_
        refine xr_iast 108 d_MO_restart_107 rfl (by decide) rfl rfl (by omega) (by omega) ?_
        refine ex_iinc (a := nI s) (v := nI (s + 1)) 111 d_MO_restart_108 rfl rfl (xn_inc rfl) ?_
        refine ex_goto 57 d_MO_restart_111 rfl ?_
        refine Ex.wk (Ex.toM ?_ kk) (by repeat (first | exact xs_nil | refine xs_s ?_ | refine xs_n ?_))
        unfold rPr rPf; rw [if_pos h2, if_neg h3]
    · refine Ex.int (zb_f h2) ?_
      refine ex_ifeq 75 71 d_MO_restart_68 rfl rfl (fun _ => ?_) (fun h => absurd (by decide) h)
      refine ex_aload_n (a := ad (rp N 0)) 76 d_MO_restart_75 rfl rfl ?_
      refine ex_iload_n (a := nI n) 77 d_MO_restart_76 rfl rfl ?_
      refine ex_iload_n (a := nI s) 78 d_MO_restart_77 rfl rfl ?_
      refine xr_callVi [.int (nI n), .int (nI s)] [] 81 d_MO_restart_78 rfl zv_MO_ballotIn ⟨(Nat.le_of_ble_eq_true rfl), (Nat.le_of_ble_eq_true rfl)⟩ m_MO_92 (by decide) rfl rfl rfl (Nat.le_of_ble_eq_true rfl) rfl (Nat.le_of_ble_eq_true rfl) (c_MO_ballotIn (S := S) (M := M) n s (by omega) (by omega)) (fun vv ww q4 => ?_)
      rw [q4.1, q4.2]
      refine ex_istore_n 82 d_MO_restart_81 rfl (Nat.le_of_ble_eq_true rfl) ?_
      refine ex_aload_n (a := ad (rp N 0)) 83 d_MO_restart_82 rfl rfl ?_
      refine xr_getR 86 d_MO_restart_83 rfl g_MO_35 (by decide) rfl rfl ?_
      refine ex_iload_n (a := nI n) 87 d_MO_restart_86 rfl rfl ?_
      refine ex_iload_n (a := (rBal (M 5) (144 * n + 8 * s))) 88 d_MO_restart_87 rfl rfl ?_
      refine ex_aload_n (a := ad (rp N 0)) 89 d_MO_restart_88 rfl rfl ?_
      refine xr_getR 92 d_MO_restart_89 rfl g_MO_35 (by decide) rfl rfl ?_
      refine ex_iload_n (a := nI n) 93 d_MO_restart_92 rfl rfl ?_
      refine xr_iald 94 d_MO_restart_93 rfl (by decide) rfl rfl (by omega) (by omega) ?_
      refine ex_icmple 101 97 d_MO_restart_94 rfl rfl (fun h5 => ?_) (fun h5 => ?_)
      · refine ex_aload_n (a := ad (rp N 0)) 102 d_MO_restart_101 rfl rfl ?_
        refine xr_getR 105 d_MO_restart_102 rfl g_MO_35 (by decide) rfl rfl ?_
        refine ex_iload_n (a := nI n) 106 d_MO_restart_105 rfl rfl ?_
        refine xr_iald 107 d_MO_restart_106 rfl (by decide) rfl rfl (by omega) (by omega) ?_
        refine xr_iast 108 d_MO_restart_107 rfl (by decide) rfl rfl (by omega) (by omega) ?_
        refine ex_iinc (a := nI s) (v := nI (s + 1)) 111 d_MO_restart_108 rfl rfl (xn_inc rfl) ?_
        refine ex_goto 57 d_MO_restart_111 rfl ?_
        refine Ex.wk (Ex.toM ?_ kk) (by repeat (first | exact xs_nil | refine xs_s ?_ | refine xs_n ?_))
        unfold rPr rPf; rw [if_neg h2, if_pos h5]
      · refine ex_iload_n (a := (rBal (M 5) (144 * n + 8 * s))) 98 d_MO_restart_97 rfl rfl ?_
        refine ex_goto 107 d_MO_restart_98 rfl ?_
        refine xr_iast 108 d_MO_restart_107 rfl (by decide) rfl rfl (by omega) (by omega) ?_
        refine ex_iinc (a := nI s) (v := nI (s + 1)) 111 d_MO_restart_108 rfl rfl (xn_inc rfl) ?_
        refine ex_goto 57 d_MO_restart_111 rfl ?_
        refine Ex.wk (Ex.toM ?_ kk) (by repeat (first | exact xs_nil | refine xs_s ?_ | refine xs_n ?_))
        unfold rPr rPf; rw [if_neg h2, if_neg h5]
  have htwo : M 6 n = 0 → Ex G none mi_MO_restart 0 0 57 [some (.ref (ad (rp N 0))), some (.int (nI n)), some (.int (nI (1 + 1))), none] [] (LR G ad N S (rPr n 1 (rPr n 0 (rUp0 n M)))) (xI (fun v w => w = LR G ad N S (rRestS n M) ∧ v = rRestR n M)) := by
    intro h6
    have hup : ∀ k, k ≤ 8 → Ex G none mi_MO_restart 0 0 116 [some (.ref (ad (rp N 0))), some (.int (nI n)), some (.int (nI (k + 1))), none] [] (LR G ad N S (rUpL n M k)) (xI (fun v w => w = LR G ad N S (rRestS n M) ∧ v = rRestR n M)) := by
      refine loop_down 8 ?_ ?_
      · skip
        refine ex_iload_n (a := nI 9) 117 d_MO_restart_116 rfl rfl ?_
        refine ex_bipush (v := 8) 119 d_MO_restart_117 rfl (by decide) ?_
        refine ex_icmpgt 147 122 d_MO_restart_119 rfl rfl (fun _ => ?_) (fun h => absurd (xn_lt (xn_lit 8) rfl (by omega) (by omega) (by omega)) h)
        refine ex_iconst (v := 1) 148 d_MO_restart_147 rfl (by decide) ?_
        refine ex_zret d_MO_restart_148 rfl rfl ⟨_, rfl, ?_⟩
        exact ⟨by unfold rRestS; rw [if_pos h6], by unfold rRestR; rw [if_pos h6]⟩
      · intro k hk ih
        refine ex_iload_n (a := nI (k + 1)) 117 d_MO_restart_116 rfl rfl ?_
        refine ex_bipush (v := 8) 119 d_MO_restart_117 rfl (by decide) ?_
        refine ex_icmpgt 147 122 d_MO_restart_119 rfl rfl (fun h => absurd h (xn_nlt (xn_lit 8) rfl (by omega) (by omega) (by omega))) (fun _ => ?_)
        refine ex_aload_n (a := ad (rp N 0)) 123 d_MO_restart_122 rfl rfl ?_
        refine xr_getR 126 d_MO_restart_123 rfl g_MO_44 (by decide) rfl rfl ?_
        refine ex_bipush (v := 8) 128 d_MO_restart_126 rfl (by decide) ?_
        refine ex_iload_n (a := nI n) 129 d_MO_restart_128 rfl rfl ?_
        refine ex_imulN (8 * n) 130 d_MO_restart_129 rfl (xn_lit 8) rfl (by omega) ?_
        refine ex_iload_n (a := nI (k + 1)) 131 d_MO_restart_130 rfl rfl ?_
        refine ex_iaddN (k + 8 * n + 1) 132 d_MO_restart_131 rfl rfl rfl (by omega) ?_
        refine ex_iconst (v := 1) 133 d_MO_restart_132 rfl (by decide) ?_
        refine ex_isubN (k + 8 * n) 134 d_MO_restart_133 rfl rfl (xn_lit 1) (by omega) ?_
        refine ex_aload_n (a := ad (rp N 0)) 135 d_MO_restart_134 rfl rfl ?_
        refine ex_iload_n (a := nI n) 136 d_MO_restart_135 rfl rfl ?_
        refine ex_iload_n (a := nI (k + 1)) 137 d_MO_restart_136 rfl rfl ?_
        refine xr_callVi [.int (nI n), .int (nI (k + 1))] [.int (nI (k + 8 * n)), .ref (ad (rp N 12))] 140 d_MO_restart_137 rfl zv_MO_found ⟨(Nat.le_of_ble_eq_true rfl), (Nat.le_of_ble_eq_true rfl)⟩ m_MO_105 (by decide) rfl rfl rfl (Nat.le_of_ble_eq_true rfl) rfl (Nat.le_of_ble_eq_true rfl) (c_MO_found (S := S) (M := (rUpL n M k)) n k (by omega) (by omega)) (fun vv ww q1 => ?_)
        rw [q1.1, q1.2]
        refine xr_iast 141 d_MO_restart_140 rfl (by decide) rfl rfl (by omega) (by omega) ?_
        refine ex_iinc (a := nI (k + 1)) (v := nI (k + 2)) 144 d_MO_restart_141 rfl rfl (xn_inc rfl) ?_
        refine ex_goto 116 d_MO_restart_144 rfl ?_
        exact Ex.wk ih (by repeat (first | exact xs_nil | refine xs_s ?_ | refine xs_n ?_))
    skip
    refine ex_iload_n (a := nI 2) 58 d_MO_restart_57 rfl rfl ?_
    refine ex_iconst (v := 2) 59 d_MO_restart_58 rfl (by decide) ?_
    refine ex_icmpge 114 62 d_MO_restart_59 rfl rfl (fun _ => ?_) (fun h => absurd (xn_le (xn_lit 2) rfl (by omega) (by omega) (by omega)) h)
    refine ex_iconst (v := 1) 115 d_MO_restart_114 rfl (by decide) ?_
    refine ex_istore_n 116 d_MO_restart_115 rfl (Nat.le_of_ble_eq_true rfl) ?_
    exact Ex.wk (hup 0 (Nat.zero_le _)) (by repeat (first | exact xs_nil | refine xs_s ?_ | refine xs_n ?_))
  refine ex_aload_n (a := ad (rp N 0)) 1 d_MO_restart_0 rfl rfl ?_
  refine ex_iload_n (a := nI n) 2 d_MO_restart_1 rfl rfl ?_
  refine xr_callVi [.int (nI n)] [] 5 d_MO_restart_2 rfl zv_MO_isNode ⟨(Nat.le_of_ble_eq_true rfl), (Nat.le_of_ble_eq_true rfl)⟩ m_MO_101 (by decide) rfl rfl rfl (Nat.le_of_ble_eq_true rfl) rfl (Nat.le_of_ble_eq_true rfl) (c_MO_isNode (S := S) (M := M) (nI n) hn) (fun vv ww q1 => ?_)
  rw [q1.1, q1.2]
  refine Ex.int (zb_t hnI) ?_
  refine ex_ifeq 17 8 d_MO_restart_5 rfl rfl (fun h => absurd h (by decide)) (fun _ => ?_)
  refine ex_aload_n (a := ad (rp N 0)) 9 d_MO_restart_8 rfl rfl ?_
  refine xr_getR 12 d_MO_restart_9 rfl g_MO_25 (by decide) rfl rfl ?_
  refine ex_iload_n (a := nI n) 13 d_MO_restart_12 rfl rfl ?_
  refine xr_zald 14 d_MO_restart_13 rfl (by decide) rfl rfl (by omega) (by omega) ?_
  refine ex_ifeq 19 17 d_MO_restart_14 rfl rfl (fun h2 => ?_) (fun h2 => ?_)
  · refine ex_aload_n (a := ad (rp N 0)) 20 d_MO_restart_19 rfl rfl ?_
    refine xr_getR 23 d_MO_restart_20 rfl g_MO_25 (by decide) rfl rfl ?_
    refine ex_iload_n (a := nI n) 24 d_MO_restart_23 rfl rfl ?_
    refine ex_iconst (v := 1) 25 d_MO_restart_24 rfl (by decide) ?_
    refine xr_zast 26 d_MO_restart_25 rfl (by decide) rfl rfl (by omega) (by omega) (by decide) ?_
    refine ex_aload_n (a := ad (rp N 0)) 27 d_MO_restart_26 rfl rfl ?_
    refine xr_getR 30 d_MO_restart_27 rfl g_MO_29 (by decide) rfl rfl ?_
    refine ex_iload_n (a := nI n) 31 d_MO_restart_30 rfl rfl ?_
    refine ex_aload_n (a := ad (rp N 0)) 32 d_MO_restart_31 rfl rfl ?_
    refine ex_iload_n (a := nI n) 33 d_MO_restart_32 rfl rfl ?_
    refine ex_iconst (v := 0) 34 d_MO_restart_33 rfl (by decide) ?_
    refine xr_callVi [.int (nI n), .int 0] [.int (nI n), .ref (ad (rp N 7))] 37 d_MO_restart_34 rfl zv_MO_isWrong ⟨(Nat.le_of_ble_eq_true rfl), (Nat.le_of_ble_eq_true rfl)⟩ m_MO_96 (by decide) rfl rfl rfl (Nat.le_of_ble_eq_true rfl) rfl (Nat.le_of_ble_eq_true rfl) (c_MO_isWrong (S := S) (M := (u2 M 6 (n) (1))) n 0 (by omega) (by omega)) (fun vv ww q3 => ?_)
    rw [q3.1, q3.2]
    by_cases h4 : rWrF ((u2 M 6 (n) (1)) 5) (144 * n + 8 * 0)
    · refine Ex.int (zb_t h4) ?_
      refine ex_ifeq 53 40 d_MO_restart_37 rfl rfl (fun h => absurd h (by decide)) (fun _ => ?_)
      refine ex_aload_n (a := ad (rp N 0)) 41 d_MO_restart_40 rfl rfl ?_
      refine ex_iload_n (a := nI n) 42 d_MO_restart_41 rfl rfl ?_
      refine ex_iconst (v := 1) 43 d_MO_restart_42 rfl (by decide) ?_
      refine xr_callVi [.int (nI n), .int 1] [.int (nI n), .ref (ad (rp N 7))] 46 d_MO_restart_43 rfl zv_MO_isWrong ⟨(Nat.le_of_ble_eq_true rfl), (Nat.le_of_ble_eq_true rfl)⟩ m_MO_96 (by decide) rfl rfl rfl (Nat.le_of_ble_eq_true rfl) rfl (Nat.le_of_ble_eq_true rfl) (c_MO_isWrong (S := S) (M := (u2 M 6 (n) (1))) n 1 (by omega) (by omega)) (fun vv ww q5 => ?_)
      rw [q5.1, q5.2]
      by_cases h6 : rWrF ((u2 M 6 (n) (1)) 5) (144 * n + 8 * 1)
      · refine Ex.int (zb_t h6) ?_
        refine ex_ifeq 53 49 d_MO_restart_46 rfl rfl (fun h => absurd h (by decide)) (fun _ => ?_)
        refine ex_iconst (v := 1) 50 d_MO_restart_49 rfl (by decide) ?_
        refine ex_goto 54 d_MO_restart_50 rfl ?_
        refine xr_zast 55 d_MO_restart_54 rfl (by decide) rfl rfl (by omega) (by omega) (by decide) ?_
        refine ex_iconst (v := 0) 56 d_MO_restart_55 rfl (by decide) ?_
        refine ex_istore_n 57 d_MO_restart_56 rfl (Nat.le_of_ble_eq_true rfl) ?_
        refine Ex.wk (Ex.toM (M' := rUp0 n M) ?_ (hsec 0 _ (by omega) (hsec 1 _ (by omega) (htwo h2)))) (by repeat (first | exact xs_nil | refine xs_s ?_ | refine xs_n ?_))
        show _ = u2 (u2 M 6 n 1) 7 n (zb _)
        rw [zb_t ⟨h4, h6⟩]
      · refine Ex.int (zb_f h6) ?_
        refine ex_ifeq 53 49 d_MO_restart_46 rfl rfl (fun _ => ?_) (fun h => absurd (by decide) h)
        refine ex_iconst (v := 0) 54 d_MO_restart_53 rfl (by decide) ?_
        refine xr_zast 55 d_MO_restart_54 rfl (by decide) rfl rfl (by omega) (by omega) (by decide) ?_
        refine ex_iconst (v := 0) 56 d_MO_restart_55 rfl (by decide) ?_
        refine ex_istore_n 57 d_MO_restart_56 rfl (Nat.le_of_ble_eq_true rfl) ?_
        refine Ex.wk (Ex.toM (M' := rUp0 n M) ?_ (hsec 0 _ (by omega) (hsec 1 _ (by omega) (htwo h2)))) (by repeat (first | exact xs_nil | refine xs_s ?_ | refine xs_n ?_))
        show _ = u2 (u2 M 6 n 1) 7 n (zb _)
        rw [zb_f (fun z => h6 z.2)]
    · refine Ex.int (zb_f h4) ?_
      refine ex_ifeq 53 40 d_MO_restart_37 rfl rfl (fun _ => ?_) (fun h => absurd (by decide) h)
      refine ex_iconst (v := 0) 54 d_MO_restart_53 rfl (by decide) ?_
      refine xr_zast 55 d_MO_restart_54 rfl (by decide) rfl rfl (by omega) (by omega) (by decide) ?_
      refine ex_iconst (v := 0) 56 d_MO_restart_55 rfl (by decide) ?_
      refine ex_istore_n 57 d_MO_restart_56 rfl (Nat.le_of_ble_eq_true rfl) ?_
      refine Ex.wk (Ex.toM (M' := rUp0 n M) ?_ (hsec 0 _ (by omega) (hsec 1 _ (by omega) (htwo h2)))) (by repeat (first | exact xs_nil | refine xs_s ?_ | refine xs_n ?_))
      show _ = u2 (u2 M 6 n 1) 7 n (zb _)
      rw [zb_f (fun z => h4 z.1)]
  · refine ex_iconst (v := 0) 18 d_MO_restart_17 rfl (by decide) ?_
    refine ex_zret d_MO_restart_18 rfl rfl ⟨_, rfl, ?_⟩
    exact ⟨by unfold rRestS; rw [if_neg h2], by unfold rRestR; rw [if_neg h2]⟩
set_option maxRecDepth 100000 in
set_option maxHeartbeats 4000000 in
theorem c_MO_lead (n : Nat) (hnN : n < N) (hN : N ≤ 5) (hn : M 0 0 = nI N) (p : Nat) (hp : M 9 n = nI p) (hp6 : p < 65536) : Ex G none mi_MO_lead 0 0 0 (xEn mi_MO_lead [.ref (ad (rp N 0)), .int (nI n)]) [] (LR G ad N S M) (xI (fun v w => w = LR G ad N S (rLeadS n p M) ∧ v = rLeadR n p M)) := by
  have hnI : isN N (nI n) := isN_nI hnN hN
  have hle := rNb_le (p := p) (b := n + 8)
  have ht1 : rSd n M 8 = true → Ex G none mi_MO_lead 0 0 78 [some (.ref (ad (rp N 0))), some (.int (nI n)), some (.int 1), some (.int (nI (rNb p (n + 8))))] [] (LR G ad N S M) (xI (fun v w => w = LR G ad N S (rLeadS n p M) ∧ v = rLeadR n p M)) := by
    intro hf
    refine ex_iload_n (a := 1) 79 d_MO_lead_78 rfl rfl ?_
    refine ex_ifeq 88 82 d_MO_lead_79 rfl rfl (fun h => absurd h (by decide)) (fun _ => ?_)
    refine ex_iload_n (a := nI (rNb p (n + 8))) 83 d_MO_lead_82 rfl rfl ?_
    refine ex_ldc (v := 60000) 85 d_MO_lead_83 rfl c_MO_114 ?_
    refine ex_icmple 90 88 d_MO_lead_85 rfl rfl (fun h1 => ?_) (fun h1 => ?_)
    · refine ex_aload_n (a := ad (rp N 0)) 91 d_MO_lead_90 rfl rfl ?_
      refine ex_iload_n (a := nI n) 92 d_MO_lead_91 rfl rfl ?_
      refine ex_iload_n (a := nI (rNb p (n + 8))) 93 d_MO_lead_92 rfl rfl ?_
      refine xr_callVi [.int (nI n), .int (nI (rNb p (n + 8)))] [] 96 d_MO_lead_93 rfl zv_MO_writePromise ⟨(Nat.le_of_ble_eq_true rfl), (Nat.le_of_ble_eq_true rfl)⟩ m_MO_115 (by decide) rfl rfl rfl (Nat.le_of_ble_eq_true rfl) rfl (Nat.le_of_ble_eq_true rfl) (c_MO_writePromise (S := S) (M := M) n (by omega) (nI (rNb p (n + 8)))) (fun vv ww q2 => ?_)
      rw [q2.1, q2.2]
      by_cases h3 : rWPok n (nI (rNb p (n + 8))) M
      · refine Ex.int (zb_t h3) ?_
        refine ex_ifne 102 99 d_MO_lead_96 rfl rfl (fun _ => ?_) (fun h => absurd h (by decide))
        refine ex_aload_n (a := ad (rp N 0)) 103 d_MO_lead_102 rfl rfl ?_
        refine xr_getR 106 d_MO_lead_103 rfl g_MO_38 (by decide) rfl rfl ?_
        refine ex_iload_n (a := nI n) 107 d_MO_lead_106 rfl rfl ?_
        refine ex_iload_n (a := nI (rNb p (n + 8))) 108 d_MO_lead_107 rfl rfl ?_
        refine xr_iast 109 d_MO_lead_108 rfl (by decide) rfl rfl (by omega) (by omega) ?_
        refine ex_aload_n (a := ad (rp N 0)) 110 d_MO_lead_109 rfl rfl ?_
        refine ex_iload_n (a := nI n) 111 d_MO_lead_110 rfl rfl ?_
        refine xr_callVv [.int (nI n)] [] 114 d_MO_lead_111 rfl zv_MO_begin ⟨(Nat.le_of_ble_eq_true rfl), (Nat.le_of_ble_eq_true rfl)⟩ m_MO_79 (by decide) rfl rfl rfl (Nat.le_of_ble_eq_true rfl) rfl (Nat.le_of_ble_eq_true rfl) (c_MO_begin (S := S) (M := (u2 (rWP n (nI (rNb p (n + 8))) M) 10 (n) (nI (rNb p (n + 8))))) n (by omega)) (fun ww q4 => ?_)
        rw [q4]
        refine ex_iload_n (a := nI (rNb p (n + 8))) 115 d_MO_lead_114 rfl rfl ?_
        refine ex_iret d_MO_lead_115 rfl ⟨_, rfl, ?_⟩
        refine ⟨?_, ?_⟩
        · unfold rLeadS; rw [if_pos hf, if_pos h1, if_pos h3]
        · unfold rLeadR; rw [if_pos hf, if_pos h1, if_pos h3]
      · refine Ex.int (zb_f h3) ?_
        refine ex_ifne 102 99 d_MO_lead_96 rfl rfl (fun h => absurd (by decide) h) (fun _ => ?_)
        refine ex_bipush (v := (-4)) 101 d_MO_lead_99 rfl (by decide) ?_
        refine ex_iret d_MO_lead_101 rfl ⟨_, rfl, ?_⟩
        refine ⟨?_, ?_⟩
        · unfold rLeadS; rw [if_pos hf, if_pos h1, if_neg h3]
        · unfold rLeadR; rw [if_pos hf, if_pos h1, if_neg h3]
    · refine ex_iconst (v := 0) 89 d_MO_lead_88 rfl (by decide) ?_
      refine ex_iret d_MO_lead_89 rfl ⟨_, rfl, ?_⟩
      refine ⟨?_, ?_⟩
      · unfold rLeadS; rw [if_pos hf, if_neg h1]
      · unfold rLeadR; rw [if_pos hf, if_neg h1]
  have ht0 : ¬ rSd n M 8 = true → Ex G none mi_MO_lead 0 0 78 [some (.ref (ad (rp N 0))), some (.int (nI n)), some (.int 0), some (.int (nI (rNb p (n + 8))))] [] (LR G ad N S M) (xI (fun v w => w = LR G ad N S (rLeadS n p M) ∧ v = rLeadR n p M)) := by
    intro hf
    refine ex_iload_n (a := 0) 79 d_MO_lead_78 rfl rfl ?_
    refine ex_ifeq 88 82 d_MO_lead_79 rfl rfl (fun _ => ?_) (fun h => absurd (by decide) h)
    refine ex_iconst (v := 0) 89 d_MO_lead_88 rfl (by decide) ?_
    refine ex_iret d_MO_lead_89 rfl ⟨_, rfl, ?_⟩
    refine ⟨?_, ?_⟩
    · unfold rLeadS; rw [if_neg hf]
    · unfold rLeadR; rw [if_neg hf]
  have htail : Ex G none mi_MO_lead 0 0 78 [some (.ref (ad (rp N 0))), some (.int (nI n)), some (.int ((zb (rSd n M 8 = true)))), some (.int (nI (rNb p (n + 8))))] [] (LR G ad N S M) (xI (fun v w => w = LR G ad N S (rLeadS n p M) ∧ v = rLeadR n p M)) := by
    by_cases hf : rSd n M 8 = true
    · rw [zb_t hf]
      exact ht1 hf
    · rw [zb_f hf]
      exact ht0 hf
  have hwhile : ∀ z : Int32, Ex G none mi_MO_lead 0 0 78 [some (.ref (ad (rp N 0))), some (.int (nI n)), some (.int z), some (.int (nI (rNb p (n + 8))))] [] (LR G ad N S M) (xI (fun v w => w = LR G ad N S (rLeadS n p M) ∧ v = rLeadR n p M)) → Ex G none mi_MO_lead 0 0 62 [some (.ref (ad (rp N 0))), some (.int (nI n)), some (.int z), some (.int (nI (n + 8)))] [] (LR G ad N S M) (xI (fun v w => w = LR G ad N S (rLeadS n p M) ∧ v = rLeadR n p M)) := by
    intro z kk
    have hgo : ∀ (m b : Nat), rNb p b = rNb p (n + 8) → p < b + 8 * m → b < p + n + 20 → Ex G none mi_MO_lead 0 0 62 [some (.ref (ad (rp N 0))), some (.int (nI n)), some (.int z), some (.int (nI b))] [] (LR G ad N S M) (xI (fun v w => w = LR G ad N S (rLeadS n p M) ∧ v = rLeadR n p M)) := by
      intro m
      induction m with
      | zero =>
        intro b hb hm hb2
        have hlt : p < b := by omega
        skip
        refine ex_iload_n (a := nI b) 63 d_MO_lead_62 rfl rfl ?_
        refine ex_aload_n (a := ad (rp N 0)) 64 d_MO_lead_63 rfl rfl ?_
        refine xr_getR 67 d_MO_lead_64 rfl g_MO_35 (by decide) rfl rfl ?_
        refine ex_iload_n (a := nI n) 68 d_MO_lead_67 rfl rfl ?_
        refine xr_iald 69 d_MO_lead_68 rfl (by decide) rfl rfl (by omega) (by omega) ?_
        refine ex_icmpgt 78 72 d_MO_lead_69 rfl rfl (fun _ => ?_) (fun h => absurd (xn_lt hp rfl (by omega) (by omega) (by omega)) h)
        obtain rfl : b = rNb p (n + 8) := by rw [← hb, rNb_lt hlt]
        exact kk
      | succ m ih =>
        intro b hb hm hb2
        by_cases hlt : p < b
        · skip
          skip
          refine ex_iload_n (a := nI b) 63 d_MO_lead_62 rfl rfl ?_
          refine ex_aload_n (a := ad (rp N 0)) 64 d_MO_lead_63 rfl rfl ?_
          refine xr_getR 67 d_MO_lead_64 rfl g_MO_35 (by decide) rfl rfl ?_
          refine ex_iload_n (a := nI n) 68 d_MO_lead_67 rfl rfl ?_
          refine xr_iald 69 d_MO_lead_68 rfl (by decide) rfl rfl (by omega) (by omega) ?_
          refine ex_icmpgt 78 72 d_MO_lead_69 rfl rfl (fun _ => ?_) (fun h => absurd (xn_lt hp rfl (by omega) (by omega) (by omega)) h)
          obtain rfl : b = rNb p (n + 8) := by rw [← hb, rNb_lt hlt]
          exact kk
        · skip
          skip
          refine ex_iload_n (a := nI b) 63 d_MO_lead_62 rfl rfl ?_
          refine ex_aload_n (a := ad (rp N 0)) 64 d_MO_lead_63 rfl rfl ?_
          refine xr_getR 67 d_MO_lead_64 rfl g_MO_35 (by decide) rfl rfl ?_
          refine ex_iload_n (a := nI n) 68 d_MO_lead_67 rfl rfl ?_
          refine xr_iald 69 d_MO_lead_68 rfl (by decide) rfl rfl (by omega) (by omega) ?_
          refine ex_icmpgt 78 72 d_MO_lead_69 rfl rfl (fun h => absurd h (xn_nlt hp rfl (by omega) (by omega) (by omega))) (fun _ => ?_)
          refine ex_iinc (a := nI b) (v := nI (b + 8)) 75 d_MO_lead_72 rfl rfl (xn_inc8 rfl) ?_
          refine ex_goto 62 d_MO_lead_75 rfl ?_
          exact Ex.wk (ih (b + 8) (by rw [← rNb_ge hlt]; exact hb) (by omega) (by omega)) (by repeat (first | exact xs_nil | refine xs_s ?_ | refine xs_n ?_))
    exact hgo (p + 1) (n + 8) rfl (by omega) (by omega)
  have hsd : ∀ x, x ≤ 8 → Ex G none mi_MO_lead 0 0 21 [some (.ref (ad (rp N 0))), some (.int (nI n)), some (.int ((zb (rSd n M x = true)))), some (.int (nI (8 * n + x)))] [] (LR G ad N S M) (xI (fun v w => w = LR G ad N S (rLeadS n p M) ∧ v = rLeadR n p M)) := by
    refine loop_down 8 ?_ ?_
    · skip
      refine ex_iload_n (a := nI (8 * n + 8)) 22 d_MO_lead_21 rfl rfl ?_
      refine ex_bipush (v := 8) 24 d_MO_lead_22 rfl (by decide) ?_
      refine ex_iload_n (a := nI n) 25 d_MO_lead_24 rfl rfl ?_
      refine ex_imulN (8 * n) 26 d_MO_lead_25 rfl (xn_lit 8) rfl (by omega) ?_
      refine ex_bipush (v := 8) 28 d_MO_lead_26 rfl (by decide) ?_
      refine ex_iaddN (8 * n + 8) 29 d_MO_lead_28 rfl rfl (xn_lit 8) (by omega) ?_
      refine ex_icmpge 57 32 d_MO_lead_29 rfl rfl (fun _ => ?_) (fun h => absurd (xn_le rfl rfl (by omega) (by omega) (by omega)) h)
      refine ex_bipush (v := 8) 59 d_MO_lead_57 rfl (by decide) ?_
      refine ex_iload_n (a := nI n) 60 d_MO_lead_59 rfl rfl ?_
      refine ex_iaddN (n + 8) 61 d_MO_lead_60 rfl (xn_lit 8) rfl (by omega) ?_
      refine ex_istore_n 62 d_MO_lead_61 rfl (Nat.le_of_ble_eq_true rfl) ?_
      exact hwhile _ htail
    · intro x hk ih
      refine ex_iload_n (a := nI (8 * n + x)) 22 d_MO_lead_21 rfl rfl ?_
      refine ex_bipush (v := 8) 24 d_MO_lead_22 rfl (by decide) ?_
      refine ex_iload_n (a := nI n) 25 d_MO_lead_24 rfl rfl ?_
      refine ex_imulN (8 * n) 26 d_MO_lead_25 rfl (xn_lit 8) rfl (by omega) ?_
      refine ex_bipush (v := 8) 28 d_MO_lead_26 rfl (by decide) ?_
      refine ex_iaddN (8 * n + 8) 29 d_MO_lead_28 rfl rfl (xn_lit 8) (by omega) ?_
      refine ex_icmpge 57 32 d_MO_lead_29 rfl rfl (fun h => absurd h (xn_nle rfl rfl (by omega) (by omega) (by omega))) (fun _ => ?_)
      refine ex_iload_n (a := (zb (rSd n M x = true))) 33 d_MO_lead_32 rfl rfl ?_
      refine ex_ifeq 49 36 d_MO_lead_33 rfl rfl (fun h1 => ?_) (fun h1 => ?_)
      · refine ex_iconst (v := 0) 50 d_MO_lead_49 rfl (by decide) ?_
        refine ex_istore_n 51 d_MO_lead_50 rfl (Nat.le_of_ble_eq_true rfl) ?_
        refine ex_iinc (a := nI (8 * n + x)) (v := nI (8 * n + x + 1)) 54 d_MO_lead_51 rfl rfl (xn_inc rfl) ?_
        refine ex_goto 21 d_MO_lead_54 rfl ?_
        have e9 : zb (rSd n M (x + 1) = true) = 0 := zb_f (fun z => absurd (zb_t (Bool.and_eq_true_iff.mp z).1) (by rw [h1]; decide))
        rw [e9] at ih
        exact Ex.wk ih (by repeat (first | exact xs_nil | refine xs_s ?_ | refine xs_n ?_))
      · refine ex_aload_n (a := ad (rp N 0)) 37 d_MO_lead_36 rfl rfl ?_
        refine xr_getR 40 d_MO_lead_37 rfl g_MO_44 (by decide) rfl rfl ?_
        refine ex_iload_n (a := nI (8 * n + x)) 41 d_MO_lead_40 rfl rfl ?_
        refine xr_iald 42 d_MO_lead_41 rfl (by decide) rfl rfl (by omega) (by omega) ?_
        refine ex_iflt 49 45 d_MO_lead_42 rfl rfl (fun h2 => ?_) (fun h2 => ?_)
        · refine ex_iconst (v := 0) 50 d_MO_lead_49 rfl (by decide) ?_
          refine ex_istore_n 51 d_MO_lead_50 rfl (Nat.le_of_ble_eq_true rfl) ?_
          refine ex_iinc (a := nI (8 * n + x)) (v := nI (8 * n + x + 1)) 54 d_MO_lead_51 rfl rfl (xn_inc rfl) ?_
          refine ex_goto 21 d_MO_lead_54 rfl ?_
          have e9 : zb (rSd n M (x + 1) = true) = 0 := zb_f (fun z => absurd h2 (of_decide_eq_true (Bool.and_eq_true_iff.mp z).2))
          rw [e9] at ih
          exact Ex.wk ih (by repeat (first | exact xs_nil | refine xs_s ?_ | refine xs_n ?_))
        · refine ex_iconst (v := 1) 46 d_MO_lead_45 rfl (by decide) ?_
          refine ex_goto 50 d_MO_lead_46 rfl ?_
          refine ex_istore_n 51 d_MO_lead_50 rfl (Nat.le_of_ble_eq_true rfl) ?_
          refine ex_iinc (a := nI (8 * n + x)) (v := nI (8 * n + x + 1)) 54 d_MO_lead_51 rfl rfl (xn_inc rfl) ?_
          refine ex_goto 21 d_MO_lead_54 rfl ?_
          have e9 : zb (rSd n M (x + 1) = true) = 1 := zb_t (Bool.and_eq_true_iff.mpr ⟨zb_1 h1, decide_eq_true h2⟩)
          rw [e9] at ih
          exact Ex.wk ih (by repeat (first | exact xs_nil | refine xs_s ?_ | refine xs_n ?_))
  refine ex_aload_n (a := ad (rp N 0)) 1 d_MO_lead_0 rfl rfl ?_
  refine ex_iload_n (a := nI n) 2 d_MO_lead_1 rfl rfl ?_
  refine xr_callVi [.int (nI n)] [] 5 d_MO_lead_2 rfl zv_MO_isNode ⟨(Nat.le_of_ble_eq_true rfl), (Nat.le_of_ble_eq_true rfl)⟩ m_MO_101 (by decide) rfl rfl rfl (Nat.le_of_ble_eq_true rfl) rfl (Nat.le_of_ble_eq_true rfl) (c_MO_isNode (S := S) (M := M) (nI n) hn) (fun vv ww q1 => ?_)
  rw [q1.1, q1.2]
  refine Ex.int (zb_t hnI) ?_
  refine ex_ifne 10 8 d_MO_lead_5 rfl rfl (fun _ => ?_) (fun h => absurd h (by decide))
  refine ex_aload_n (a := ad (rp N 0)) 11 d_MO_lead_10 rfl rfl ?_
  refine ex_iload_n (a := nI n) 12 d_MO_lead_11 rfl rfl ?_
  refine xr_callVi [.int (nI n)] [] 15 d_MO_lead_12 rfl zv_MO_isWorking ⟨(Nat.le_of_ble_eq_true rfl), (Nat.le_of_ble_eq_true rfl)⟩ m_MO_111 (by decide) rfl rfl rfl (Nat.le_of_ble_eq_true rfl) rfl (Nat.le_of_ble_eq_true rfl) (c_MO_isWorking (S := S) (M := M) n (by omega)) (fun vv ww q2 => ?_)
  rw [q2.1, q2.2]
  by_cases h3 : rWk n M
  · refine Ex.int (zb_t h3) ?_
    refine ex_istore_n 16 d_MO_lead_15 rfl (Nat.le_of_ble_eq_true rfl) ?_
    refine ex_bipush (v := 8) 18 d_MO_lead_16 rfl (by decide) ?_
    refine ex_iload_n (a := nI n) 19 d_MO_lead_18 rfl rfl ?_
    refine ex_imulN (8 * n) 20 d_MO_lead_19 rfl (xn_lit 8) rfl (by omega) ?_
    refine ex_istore_n 21 d_MO_lead_20 rfl (Nat.le_of_ble_eq_true rfl) ?_
    have e9 : zb (rSd n M 0 = true) = 1 := zb_t (decide_eq_true h3)
    have ih := hsd 0 (Nat.zero_le _)
    rw [e9] at ih
    exact Ex.wk ih (by repeat (first | exact xs_nil | refine xs_s ?_ | refine xs_n ?_))
  · refine Ex.int (zb_f h3) ?_
    refine ex_istore_n 16 d_MO_lead_15 rfl (Nat.le_of_ble_eq_true rfl) ?_
    refine ex_bipush (v := 8) 18 d_MO_lead_16 rfl (by decide) ?_
    refine ex_iload_n (a := nI n) 19 d_MO_lead_18 rfl rfl ?_
    refine ex_imulN (8 * n) 20 d_MO_lead_19 rfl (xn_lit 8) rfl (by omega) ?_
    refine ex_istore_n 21 d_MO_lead_20 rfl (Nat.le_of_ble_eq_true rfl) ?_
    have e9 : zb (rSd n M 0 = true) = 0 := zb_f (fun z => h3 (of_decide_eq_true z))
    have ih := hsd 0 (Nat.zero_le _)
    rw [e9] at ih
    exact Ex.wk ih (by repeat (first | exact xs_nil | refine xs_s ?_ | refine xs_n ?_))
end WK
