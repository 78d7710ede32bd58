section WK
variable {G : xC} {ad : Nat → Nat} {N : Nat} {S M : sT}
set_option maxRecDepth 100000 in
set_option maxHeartbeats 4000000 in
theorem c_MO_route_no (q n : Int32) (hn : M 0 0 = nI N) (hb : ¬ (¬ q < 1 ∧ ¬ M 0 1 < q ∧ isN N n)) : Ex G none mi_MO_route 0 0 0 (xEn mi_MO_route [.ref (ad (rp N 0)), .int q, .int n]) [] (LR G ad N S M) (xI (fun v w => w = LR G ad N S M ∧ v = (-1))) := by
  refine ex_iload_n (a := q) 1 d_MO_route_0 rfl rfl ?_
  refine ex_iconst (v := 1) 2 d_MO_route_1 rfl (by decide) ?_
  refine ex_icmplt 21 5 d_MO_route_2 rfl rfl (fun h1 => ?_) (fun h1 => ?_)
  · refine ex_iconst (v := (-1)) 22 d_MO_route_21 rfl (by decide) ?_
    refine ex_iret d_MO_route_22 rfl ⟨_, rfl, ?_⟩
    exact ⟨rfl, rfl⟩
  · refine ex_iload_n (a := q) 6 d_MO_route_5 rfl rfl ?_
    refine ex_aload_n (a := ad (rp N 0)) 7 d_MO_route_6 rfl rfl ?_
    refine xr_get 10 d_MO_route_7 rfl g_MO_82 (by decide) rfl rfl ?_
    refine ex_icmpgt 21 13 d_MO_route_10 rfl rfl (fun h2 => ?_) (fun h2 => ?_)
    · refine ex_iconst (v := (-1)) 22 d_MO_route_21 rfl (by decide) ?_
      refine ex_iret d_MO_route_22 rfl ⟨_, rfl, ?_⟩
      exact ⟨rfl, rfl⟩
    · refine ex_aload_n (a := ad (rp N 0)) 14 d_MO_route_13 rfl rfl ?_
      refine ex_iload_n (a := n) 15 d_MO_route_14 rfl rfl ?_
      refine xr_callVi [.int n] [] 18 d_MO_route_15 rfl zv_MO_isNode ⟨(Nat.le_of_ble_eq_true rfl), (Nat.le_of_ble_eq_true rfl)⟩ m_MO_101 (by decide) rfl rfl rfl (Nat.le_of_ble_eq_true rfl) rfl (Nat.le_of_ble_eq_true rfl) (c_MO_isNode (S := S) (M := M) n hn) (fun vv ww q3 => ?_)
      rw [q3.1, q3.2]
      by_cases h4 : isN N n
      · refine Ex.int (zb_t h4) ?_
        refine ex_ifne 23 21 d_MO_route_18 rfl rfl (fun _ => ?_) (fun h => absurd h (by decide))
        exact absurd (⟨h1, h2, h4⟩) hb
      · refine Ex.int (zb_f h4) ?_
        refine ex_ifne 23 21 d_MO_route_18 rfl rfl (fun h => absurd (by decide) h) (fun _ => ?_)
        refine ex_iconst (v := (-1)) 22 d_MO_route_21 rfl (by decide) ?_
        refine ex_iret d_MO_route_22 rfl ⟨_, rfl, ?_⟩
        exact ⟨rfl, rfl⟩
set_option maxRecDepth 100000 in
set_option maxHeartbeats 4000000 in
theorem c_MO_vote_no (n a s : Int32) (hn : M 0 0 = nI N) (hb : ¬ (isN N n ∧ isN N a ∧ isSl s)) : Ex G none mi_MO_vote 0 0 0 (xEn mi_MO_vote [.ref (ad (rp N 0)), .int n, .int a, .int s]) [] (LR G ad N S M) (xI (fun v w => w = LR G ad N S M ∧ v = (-1))) := by
  refine ex_aload_n (a := ad (rp N 0)) 1 d_MO_vote_0 rfl rfl ?_
  refine ex_iload_n (a := n) 2 d_MO_vote_1 rfl rfl ?_
  refine xr_callVi [.int n] [] 5 d_MO_vote_2 rfl zv_MO_isNode ⟨(Nat.le_of_ble_eq_true rfl), (Nat.le_of_ble_eq_true rfl)⟩ m_MO_101 (by decide) rfl rfl rfl (Nat.le_of_ble_eq_true rfl) rfl (Nat.le_of_ble_eq_true rfl) (c_MO_isNode (S := S) (M := M) n hn) (fun vv ww q1 => ?_)
  rw [q1.1, q1.2]
  by_cases h2 : isN N n
  · refine Ex.int (zb_t h2) ?_
    refine ex_ifeq 23 8 d_MO_vote_5 rfl rfl (fun h => absurd h (by decide)) (fun _ => ?_)
    refine ex_aload_n (a := ad (rp N 0)) 9 d_MO_vote_8 rfl rfl ?_
    refine ex_iload_n (a := a) 10 d_MO_vote_9 rfl rfl ?_
    refine xr_callVi [.int a] [] 13 d_MO_vote_10 rfl zv_MO_isNode ⟨(Nat.le_of_ble_eq_true rfl), (Nat.le_of_ble_eq_true rfl)⟩ m_MO_101 (by decide) rfl rfl rfl (Nat.le_of_ble_eq_true rfl) rfl (Nat.le_of_ble_eq_true rfl) (c_MO_isNode (S := S) (M := M) a hn) (fun vv ww q3 => ?_)
    rw [q3.1, q3.2]
    by_cases h4 : isN N a
    · refine Ex.int (zb_t h4) ?_
      refine ex_ifeq 23 16 d_MO_vote_13 rfl rfl (fun h => absurd h (by decide)) (fun _ => ?_)
      refine ex_iload_n (a := s) 17 d_MO_vote_16 rfl rfl ?_
      refine xl_callSi [.int s] [] 20 d_MO_vote_17 rfl zs_MO_isSlot ⟨(Nat.le_of_ble_eq_true rfl), (Nat.le_of_ble_eq_true rfl)⟩ m_MO_136 rfl rfl (Nat.le_of_ble_eq_true rfl) rfl (Nat.le_of_ble_eq_true rfl) (c_MO_isSlot (S := S) (M := M) s) (fun vv ww q5 => ?_)
      rw [q5.1, q5.2]
      by_cases h6 : isSl s
      · refine Ex.int (zb_t h6) ?_
        refine ex_ifne 25 23 d_MO_vote_20 rfl rfl (fun _ => ?_) (fun h => absurd h (by decide))
        exact absurd (⟨h2, h4, h6⟩) hb
      · refine Ex.int (zb_f h6) ?_
        refine ex_ifne 25 23 d_MO_vote_20 rfl rfl (fun h => absurd (by decide) h) (fun _ => ?_)
        refine ex_iconst (v := (-1)) 24 d_MO_vote_23 rfl (by decide) ?_
        refine ex_iret d_MO_vote_24 rfl ⟨_, rfl, ?_⟩
        exact ⟨rfl, rfl⟩
    · refine Ex.int (zb_f h4) ?_
      refine ex_ifeq 23 16 d_MO_vote_13 rfl rfl (fun _ => ?_) (fun h => absurd (by decide) h)
      refine ex_iconst (v := (-1)) 24 d_MO_vote_23 rfl (by decide) ?_
      refine ex_iret d_MO_vote_24 rfl ⟨_, rfl, ?_⟩
      exact ⟨rfl, rfl⟩
  · refine Ex.int (zb_f h2) ?_
    refine ex_ifeq 23 8 d_MO_vote_5 rfl rfl (fun _ => ?_) (fun h => absurd (by decide) h)
    refine ex_iconst (v := (-1)) 24 d_MO_vote_23 rfl (by decide) ?_
    refine ex_iret d_MO_vote_24 rfl ⟨_, rfl, ?_⟩
    exact ⟨rfl, rfl⟩
set_option maxRecDepth 100000 in
set_option maxHeartbeats 4000000 in
theorem c_MO_tell_no (n m : Int32) (hn : M 0 0 = nI N) (hb : ¬ (isN N n ∧ isN N m ∧ ¬ n = m)) : Ex G none mi_MO_tell 0 0 0 (xEn mi_MO_tell [.ref (ad (rp N 0)), .int n, .int m]) [] (LR G ad N S M) (xI (fun v w => w = LR G ad N S M ∧ v = (-1))) := by
  refine ex_aload_n (a := ad (rp N 0)) 1 d_MO_tell_0 rfl rfl ?_
  refine ex_iload_n (a := n) 2 d_MO_tell_1 rfl rfl ?_
  refine xr_callVi [.int n] [] 5 d_MO_tell_2 rfl zv_MO_isNode ⟨(Nat.le_of_ble_eq_true rfl), (Nat.le_of_ble_eq_true rfl)⟩ m_MO_101 (by decide) rfl rfl rfl (Nat.le_of_ble_eq_true rfl) rfl (Nat.le_of_ble_eq_true rfl) (c_MO_isNode (S := S) (M := M) n hn) (fun vv ww q1 => ?_)
  rw [q1.1, q1.2]
  by_cases h2 : isN N n
  · refine Ex.int (zb_t h2) ?_
    refine ex_ifeq 21 8 d_MO_tell_5 rfl rfl (fun h => absurd h (by decide)) (fun _ => ?_)
    refine ex_aload_n (a := ad (rp N 0)) 9 d_MO_tell_8 rfl rfl ?_
    refine ex_iload_n (a := m) 10 d_MO_tell_9 rfl rfl ?_
    refine xr_callVi [.int m] [] 13 d_MO_tell_10 rfl zv_MO_isNode ⟨(Nat.le_of_ble_eq_true rfl), (Nat.le_of_ble_eq_true rfl)⟩ m_MO_101 (by decide) rfl rfl rfl (Nat.le_of_ble_eq_true rfl) rfl (Nat.le_of_ble_eq_true rfl) (c_MO_isNode (S := S) (M := M) m hn) (fun vv ww q3 => ?_)
    rw [q3.1, q3.2]
    by_cases h4 : isN N m
    · refine Ex.int (zb_t h4) ?_
      refine ex_ifeq 21 16 d_MO_tell_13 rfl rfl (fun h => absurd h (by decide)) (fun _ => ?_)
      refine ex_iload_n (a := n) 17 d_MO_tell_16 rfl rfl ?_
      refine ex_iload_n (a := m) 18 d_MO_tell_17 rfl rfl ?_
      refine ex_icmpne 23 21 d_MO_tell_18 rfl rfl (fun h5 => ?_) (fun h5 => ?_)
      · exact absurd (⟨h2, h4, h5⟩) hb
      · refine ex_iconst (v := (-1)) 22 d_MO_tell_21 rfl (by decide) ?_
        refine ex_iret d_MO_tell_22 rfl ⟨_, rfl, ?_⟩
        exact ⟨rfl, rfl⟩
    · refine Ex.int (zb_f h4) ?_
      refine ex_ifeq 21 16 d_MO_tell_13 rfl rfl (fun _ => ?_) (fun h => absurd (by decide) h)
      refine ex_iconst (v := (-1)) 22 d_MO_tell_21 rfl (by decide) ?_
      refine ex_iret d_MO_tell_22 rfl ⟨_, rfl, ?_⟩
      exact ⟨rfl, rfl⟩
  · refine Ex.int (zb_f h2) ?_
    refine ex_ifeq 21 8 d_MO_tell_5 rfl rfl (fun _ => ?_) (fun h => absurd (by decide) h)
    refine ex_iconst (v := (-1)) 22 d_MO_tell_21 rfl (by decide) ?_
    refine ex_iret d_MO_tell_22 rfl ⟨_, rfl, ?_⟩
    exact ⟨rfl, rfl⟩
set_option maxRecDepth 100000 in
set_option maxHeartbeats 4000000 in
theorem c_MO_mend_no (n a s : Int32) (hn : M 0 0 = nI N) (hb : ¬ (isN N n ∧ isN N a ∧ isSl s ∧ ¬ n = a)) : Ex G none mi_MO_mend 0 0 0 (xEn mi_MO_mend [.ref (ad (rp N 0)), .int n, .int a, .int s]) [] (LR G ad N S M) (xI (fun v w => w = LR G ad N S M ∧ v = (-1))) := by
  refine ex_aload_n (a := ad (rp N 0)) 1 d_MO_mend_0 rfl rfl ?_
  refine ex_iload_n (a := n) 2 d_MO_mend_1 rfl rfl ?_
  refine xr_callVi [.int n] [] 5 d_MO_mend_2 rfl zv_MO_isNode ⟨(Nat.le_of_ble_eq_true rfl), (Nat.le_of_ble_eq_true rfl)⟩ m_MO_101 (by decide) rfl rfl rfl (Nat.le_of_ble_eq_true rfl) rfl (Nat.le_of_ble_eq_true rfl) (c_MO_isNode (S := S) (M := M) n hn) (fun vv ww q1 => ?_)
  rw [q1.1, q1.2]
  by_cases h2 : isN N n
  · refine Ex.int (zb_t h2) ?_
    refine ex_ifeq 28 8 d_MO_mend_5 rfl rfl (fun h => absurd h (by decide)) (fun _ => ?_)
    refine ex_aload_n (a := ad (rp N 0)) 9 d_MO_mend_8 rfl rfl ?_
    refine ex_iload_n (a := a) 10 d_MO_mend_9 rfl rfl ?_
    refine xr_callVi [.int a] [] 13 d_MO_mend_10 rfl zv_MO_isNode ⟨(Nat.le_of_ble_eq_true rfl), (Nat.le_of_ble_eq_true rfl)⟩ m_MO_101 (by decide) rfl rfl rfl (Nat.le_of_ble_eq_true rfl) rfl (Nat.le_of_ble_eq_true rfl) (c_MO_isNode (S := S) (M := M) a hn) (fun vv ww q3 => ?_)
    rw [q3.1, q3.2]
    by_cases h4 : isN N a
    · refine Ex.int (zb_t h4) ?_
      refine ex_ifeq 28 16 d_MO_mend_13 rfl rfl (fun h => absurd h (by decide)) (fun _ => ?_)
      refine ex_iload_n (a := s) 17 d_MO_mend_16 rfl rfl ?_
      refine xl_callSi [.int s] [] 20 d_MO_mend_17 rfl zs_MO_isSlot ⟨(Nat.le_of_ble_eq_true rfl), (Nat.le_of_ble_eq_true rfl)⟩ m_MO_136 rfl rfl (Nat.le_of_ble_eq_true rfl) rfl (Nat.le_of_ble_eq_true rfl) (c_MO_isSlot (S := S) (M := M) s) (fun vv ww q5 => ?_)
      rw [q5.1, q5.2]
      by_cases h6 : isSl s
      · refine Ex.int (zb_t h6) ?_
        refine ex_ifeq 28 23 d_MO_mend_20 rfl rfl (fun h => absurd h (by decide)) (fun _ => ?_)
        refine ex_iload_n (a := n) 24 d_MO_mend_23 rfl rfl ?_
        refine ex_iload_n (a := a) 25 d_MO_mend_24 rfl rfl ?_
        refine ex_icmpne 30 28 d_MO_mend_25 rfl rfl (fun h7 => ?_) (fun h7 => ?_)
        · exact absurd (⟨h2, h4, h6, h7⟩) hb
        · refine ex_iconst (v := (-1)) 29 d_MO_mend_28 rfl (by decide) ?_
          refine ex_iret d_MO_mend_29 rfl ⟨_, rfl, ?_⟩
          exact ⟨rfl, rfl⟩
      · refine Ex.int (zb_f h6) ?_
        refine ex_ifeq 28 23 d_MO_mend_20 rfl rfl (fun _ => ?_) (fun h => absurd (by decide) h)
        refine ex_iconst (v := (-1)) 29 d_MO_mend_28 rfl (by decide) ?_
        refine ex_iret d_MO_mend_29 rfl ⟨_, rfl, ?_⟩
        exact ⟨rfl, rfl⟩
    · refine Ex.int (zb_f h4) ?_
      refine ex_ifeq 28 16 d_MO_mend_13 rfl rfl (fun _ => ?_) (fun h => absurd (by decide) h)
      refine ex_iconst (v := (-1)) 29 d_MO_mend_28 rfl (by decide) ?_
      refine ex_iret d_MO_mend_29 rfl ⟨_, rfl, ?_⟩
      exact ⟨rfl, rfl⟩
  · refine Ex.int (zb_f h2) ?_
    refine ex_ifeq 28 8 d_MO_mend_5 rfl rfl (fun _ => ?_) (fun h => absurd (by decide) h)
    refine ex_iconst (v := (-1)) 29 d_MO_mend_28 rfl (by decide) ?_
    refine ex_iret d_MO_mend_29 rfl ⟨_, rfl, ?_⟩
    exact ⟨rfl, rfl⟩
set_option maxRecDepth 100000 in
set_option maxHeartbeats 4000000 in
theorem c_MO_crash_no (n : Int32) (hn : M 0 0 = nI N) (hb : ¬ (isN N n)) : Ex G none mi_MO_crash 0 0 0 (xEn mi_MO_crash [.ref (ad (rp N 0)), .int n]) [] (LR G ad N S M) (xI (fun v w => w = LR G ad N S M ∧ v = 0)) := by
  refine ex_aload_n (a := ad (rp N 0)) 1 d_MO_crash_0 rfl rfl ?_
  refine ex_iload_n (a := n) 2 d_MO_crash_1 rfl rfl ?_
  refine xr_callVi [.int n] [] 5 d_MO_crash_2 rfl zv_MO_isNode ⟨(Nat.le_of_ble_eq_true rfl), (Nat.le_of_ble_eq_true rfl)⟩ m_MO_101 (by decide) rfl rfl rfl (Nat.le_of_ble_eq_true rfl) rfl (Nat.le_of_ble_eq_true rfl) (c_MO_isNode (S := S) (M := M) n hn) (fun vv ww q1 => ?_)
  rw [q1.1, q1.2]
  by_cases h2 : isN N n
  · refine Ex.int (zb_t h2) ?_
    refine ex_ifeq 17 8 d_MO_crash_5 rfl rfl (fun h => absurd h (by decide)) (fun _ => ?_)
    exact absurd (h2) hb
  · refine Ex.int (zb_f h2) ?_
    refine ex_ifeq 17 8 d_MO_crash_5 rfl rfl (fun _ => ?_) (fun h => absurd (by decide) h)
    refine ex_iconst (v := 0) 18 d_MO_crash_17 rfl (by decide) ?_
    refine ex_zret d_MO_crash_18 rfl rfl ⟨_, rfl, ?_⟩
    exact ⟨rfl, rfl⟩
set_option maxRecDepth 100000 in
set_option maxHeartbeats 4000000 in
theorem c_MO_restart_no (n : Int32) (hn : M 0 0 = nI N) (hb : ¬ (isN N n)) : Ex G none mi_MO_restart 0 0 0 (xEn mi_MO_restart [.ref (ad (rp N 0)), .int n]) [] (LR G ad N S M) (xI (fun v w => w = LR G ad N S M ∧ v = 0)) := by
  refine ex_aload_n (a := ad (rp N 0)) 1 d_MO_restart_0 rfl rfl ?_
  refine ex_iload_n (a := n) 2 d_MO_restart_1 rfl rfl ?_
  refine xr_callVi [.int n] [] 5 d_MO_restart_2 rfl zv_MO_isNode ⟨(Nat.le_of_ble_eq_true rfl), (Nat.le_of_ble_eq_true rfl)⟩ m_MO_101 (by decide) rfl rfl rfl (Nat.le_of_ble_eq_true rfl) rfl (Nat.le_of_ble_eq_true rfl) (c_MO_isNode (S := S) (M := M) n hn) (fun vv ww q1 => ?_)
  rw [q1.1, q1.2]
  by_cases h2 : isN N n
  · refine Ex.int (zb_t h2) ?_
    refine ex_ifeq 17 8 d_MO_restart_5 rfl rfl (fun h => absurd h (by decide)) (fun _ => ?_)
    exact absurd (h2) hb
  · refine Ex.int (zb_f h2) ?_
    refine ex_ifeq 17 8 d_MO_restart_5 rfl rfl (fun _ => ?_) (fun h => absurd (by decide) h)
    refine ex_iconst (v := 0) 18 d_MO_restart_17 rfl (by decide) ?_
    refine ex_zret d_MO_restart_18 rfl rfl ⟨_, rfl, ?_⟩
    exact ⟨rfl, rfl⟩
set_option maxRecDepth 100000 in
set_option maxHeartbeats 4000000 in
theorem c_MO_arm_no (n k : Int32) (hn : M 0 0 = nI N) (hb : ¬ (isN N n)) : Ex G none mi_MO_arm 0 0 0 (xEn mi_MO_arm [.ref (ad (rp N 0)), .int n, .int k]) [] (LR G ad N S M) (xI (fun v w => w = LR G ad N S M ∧ v = 0)) := by
  refine ex_aload_n (a := ad (rp N 0)) 1 d_MO_arm_0 rfl rfl ?_
  refine ex_iload_n (a := n) 2 d_MO_arm_1 rfl rfl ?_
  refine xr_callVi [.int n] [] 5 d_MO_arm_2 rfl zv_MO_isNode ⟨(Nat.le_of_ble_eq_true rfl), (Nat.le_of_ble_eq_true rfl)⟩ m_MO_101 (by decide) rfl rfl rfl (Nat.le_of_ble_eq_true rfl) rfl (Nat.le_of_ble_eq_true rfl) (c_MO_isNode (S := S) (M := M) n hn) (fun vv ww q1 => ?_)
  rw [q1.1, q1.2]
  by_cases h2 : isN N n
  · refine Ex.int (zb_t h2) ?_
    refine ex_ifeq 27 8 d_MO_arm_5 rfl rfl (fun h => absurd h (by decide)) (fun _ => ?_)
    exact absurd (h2) hb
  · refine Ex.int (zb_f h2) ?_
    refine ex_ifeq 27 8 d_MO_arm_5 rfl rfl (fun _ => ?_) (fun h => absurd (by decide) h)
    refine ex_iconst (v := 0) 28 d_MO_arm_27 rfl (by decide) ?_
    refine ex_zret d_MO_arm_28 rfl rfl ⟨_, rfl, ?_⟩
    exact ⟨rfl, rfl⟩
set_option maxRecDepth 100000 in
set_option maxHeartbeats 4000000 in
theorem c_MO_look_no (n k : Int32) (hn : M 0 0 = nI N) (hb : ¬ (isN N n ∧ ¬ k < 0 ∧ k ≤ 6)) : Ex G none mi_MO_look 0 0 0 (xEn mi_MO_look [.ref (ad (rp N 0)), .int n, .int k]) [] (LR G ad N S M) (xI (fun v w => w = LR G ad N S M ∧ v = (-1))) := by
  refine ex_aload_n (a := ad (rp N 0)) 1 d_MO_look_0 rfl rfl ?_
  refine ex_iload_n (a := n) 2 d_MO_look_1 rfl rfl ?_
  refine xr_callVi [.int n] [] 5 d_MO_look_2 rfl zv_MO_isNode ⟨(Nat.le_of_ble_eq_true rfl), (Nat.le_of_ble_eq_true rfl)⟩ m_MO_101 (by decide) rfl rfl rfl (Nat.le_of_ble_eq_true rfl) rfl (Nat.le_of_ble_eq_true rfl) (c_MO_isNode (S := S) (M := M) n hn) (fun vv ww q1 => ?_)
  rw [q1.1, q1.2]
  by_cases h2 : isN N n
  · refine Ex.int (zb_t h2) ?_
    refine ex_ifeq 18 8 d_MO_look_5 rfl rfl (fun h => absurd h (by decide)) (fun _ => ?_)
    refine ex_iload_n (a := k) 9 d_MO_look_8 rfl rfl ?_
    refine ex_iflt 18 12 d_MO_look_9 rfl rfl (fun h3 => ?_) (fun h3 => ?_)
    · refine ex_iconst (v := (-1)) 19 d_MO_look_18 rfl (by decide) ?_
      refine ex_iret d_MO_look_19 rfl ⟨_, rfl, ?_⟩
      exact ⟨rfl, rfl⟩
    · refine ex_iload_n (a := k) 13 d_MO_look_12 rfl rfl ?_
      refine ex_bipush (v := 6) 15 d_MO_look_13 rfl (by decide) ?_
      refine ex_icmple 20 18 d_MO_look_15 rfl rfl (fun h4 => ?_) (fun h4 => ?_)
      · exact absurd (⟨h2, h3, h4⟩) hb
      · refine ex_iconst (v := (-1)) 19 d_MO_look_18 rfl (by decide) ?_
        refine ex_iret d_MO_look_19 rfl ⟨_, rfl, ?_⟩
        exact ⟨rfl, rfl⟩
  · refine Ex.int (zb_f h2) ?_
    refine ex_ifeq 18 8 d_MO_look_5 rfl rfl (fun _ => ?_) (fun h => absurd (by decide) h)
    refine ex_iconst (v := (-1)) 19 d_MO_look_18 rfl (by decide) ?_
    refine ex_iret d_MO_look_19 rfl ⟨_, rfl, ?_⟩
    exact ⟨rfl, rfl⟩
set_option maxRecDepth 100000 in
set_option maxHeartbeats 4000000 in
theorem c_MO_slot_no (n s : Int32) (hn : M 0 0 = nI N) (hb : ¬ (isN N n ∧ isSl s)) : Ex G none mi_MO_slot 0 0 0 (xEn mi_MO_slot [.ref (ad (rp N 0)), .int n, .int s]) [] (LR G ad N S M) (xI (fun v w => w = LR G ad N S M ∧ v = (-1))) := by
  refine ex_aload_n (a := ad (rp N 0)) 1 d_MO_slot_0 rfl rfl ?_
  refine ex_iload_n (a := n) 2 d_MO_slot_1 rfl rfl ?_
  refine xr_callVi [.int n] [] 5 d_MO_slot_2 rfl zv_MO_isNode ⟨(Nat.le_of_ble_eq_true rfl), (Nat.le_of_ble_eq_true rfl)⟩ m_MO_101 (by decide) rfl rfl rfl (Nat.le_of_ble_eq_true rfl) rfl (Nat.le_of_ble_eq_true rfl) (c_MO_isNode (S := S) (M := M) n hn) (fun vv ww q1 => ?_)
  rw [q1.1, q1.2]
  by_cases h2 : isN N n
  · refine Ex.int (zb_t h2) ?_
    refine ex_ifeq 40 8 d_MO_slot_5 rfl rfl (fun h => absurd h (by decide)) (fun _ => ?_)
    refine ex_iload_n (a := s) 9 d_MO_slot_8 rfl rfl ?_
    refine xl_callSi [.int s] [] 12 d_MO_slot_9 rfl zs_MO_isSlot ⟨(Nat.le_of_ble_eq_true rfl), (Nat.le_of_ble_eq_true rfl)⟩ m_MO_136 rfl rfl (Nat.le_of_ble_eq_true rfl) rfl (Nat.le_of_ble_eq_true rfl) (c_MO_isSlot (S := S) (M := M) s) (fun vv ww q3 => ?_)
    rw [q3.1, q3.2]
    by_cases h4 : isSl s
    · refine Ex.int (zb_t h4) ?_
      refine ex_ifeq 40 15 d_MO_slot_12 rfl rfl (fun h => absurd h (by decide)) (fun _ => ?_)
      exact absurd (⟨h2, h4⟩) hb
    · refine Ex.int (zb_f h4) ?_
      refine ex_ifeq 40 15 d_MO_slot_12 rfl rfl (fun _ => ?_) (fun h => absurd (by decide) h)
      refine ex_iconst (v := (-1)) 41 d_MO_slot_40 rfl (by decide) ?_
      refine ex_iret d_MO_slot_41 rfl ⟨_, rfl, ?_⟩
      exact ⟨rfl, rfl⟩
  · refine Ex.int (zb_f h2) ?_
    refine ex_ifeq 40 8 d_MO_slot_5 rfl rfl (fun _ => ?_) (fun h => absurd (by decide) h)
    refine ex_iconst (v := (-1)) 41 d_MO_slot_40 rfl (by decide) ?_
    refine ex_iret d_MO_slot_41 rfl ⟨_, rfl, ?_⟩
    exact ⟨rfl, rfl⟩
set_option maxRecDepth 100000 in
set_option maxHeartbeats 4000000 in
theorem c_MO_plan_no (n s : Int32) (hn : M 0 0 = nI N) (hb : ¬ (isN N n ∧ isSl s)) : Ex G none mi_MO_plan 0 0 0 (xEn mi_MO_plan [.ref (ad (rp N 0)), .int n, .int s]) [] (LR G ad N S M) (xI (fun v w => w = LR G ad N S M ∧ v = (-1))) := by
  refine ex_aload_n (a := ad (rp N 0)) 1 d_MO_plan_0 rfl rfl ?_
  refine ex_iload_n (a := n) 2 d_MO_plan_1 rfl rfl ?_
  refine xr_callVi [.int n] [] 5 d_MO_plan_2 rfl zv_MO_isNode ⟨(Nat.le_of_ble_eq_true rfl), (Nat.le_of_ble_eq_true rfl)⟩ m_MO_101 (by decide) rfl rfl rfl (Nat.le_of_ble_eq_true rfl) rfl (Nat.le_of_ble_eq_true rfl) (c_MO_isNode (S := S) (M := M) n hn) (fun vv ww q1 => ?_)
  rw [q1.1, q1.2]
  by_cases h2 : isN N n
  · refine Ex.int (zb_t h2) ?_
    refine ex_ifeq 32 8 d_MO_plan_5 rfl rfl (fun h => absurd h (by decide)) (fun _ => ?_)
    refine ex_iload_n (a := s) 9 d_MO_plan_8 rfl rfl ?_
    refine xl_callSi [.int s] [] 12 d_MO_plan_9 rfl zs_MO_isSlot ⟨(Nat.le_of_ble_eq_true rfl), (Nat.le_of_ble_eq_true rfl)⟩ m_MO_136 rfl rfl (Nat.le_of_ble_eq_true rfl) rfl (Nat.le_of_ble_eq_true rfl) (c_MO_isSlot (S := S) (M := M) s) (fun vv ww q3 => ?_)
    rw [q3.1, q3.2]
    by_cases h4 : isSl s
    · refine Ex.int (zb_t h4) ?_
      refine ex_ifeq 32 15 d_MO_plan_12 rfl rfl (fun h => absurd h (by decide)) (fun _ => ?_)
      exact absurd (⟨h2, h4⟩) hb
    · refine Ex.int (zb_f h4) ?_
      refine ex_ifeq 32 15 d_MO_plan_12 rfl rfl (fun _ => ?_) (fun h => absurd (by decide) h)
      refine ex_iconst (v := (-1)) 33 d_MO_plan_32 rfl (by decide) ?_
      refine ex_iret d_MO_plan_33 rfl ⟨_, rfl, ?_⟩
      exact ⟨rfl, rfl⟩
  · refine Ex.int (zb_f h2) ?_
    refine ex_ifeq 32 8 d_MO_plan_5 rfl rfl (fun _ => ?_) (fun h => absurd (by decide) h)
    refine ex_iconst (v := (-1)) 33 d_MO_plan_32 rfl (by decide) ?_
    refine ex_iret d_MO_plan_33 rfl ⟨_, rfl, ?_⟩
    exact ⟨rfl, rfl⟩
end WK
