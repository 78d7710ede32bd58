section WK
variable {G : xC} {ad : Nat → Nat} {N : Nat} {S M : sT}
set_option maxRecDepth 100000 in
set_option maxHeartbeats 4000000 in
theorem c_MO_chosen_no (n s : Int32) (hn : M 0 0 = nI N) (hb : ¬ (isN N n ∧ isSl s)) : Ex G none mi_MO_chosen 0 0 0 (xEn mi_MO_chosen [.ref (ad (rp N 0)), .int n, .int s]) [] (LR G ad N S M) (xI (fun v w => w = LR G ad N S M ∧ v = (-1))) := by
  refine ex_aload_n (a := ad (rp N 0)) 1 d_MO_chosen_0 rfl rfl ?_
  refine ex_iload_n (a := n) 2 d_MO_chosen_1 rfl rfl ?_
  refine xr_callVi [.int n] [] 5 d_MO_chosen_2 rfl zv_MO_isNode ⟨(Nat.le_of_ble_eq_true rfl), (Nat.le_of_ble_eq_true rfl)⟩ m_MO_101 (by decide) rfl rfl rfl (Nat.le_of_ble_eq_true rfl) rfl (Nat.le_of_ble_eq_true rfl) (c_MO_isNode (S := S) (M := M) n hn) (fun vv ww q1 => ?_)
  rw [q1.1, q1.2]
  by_cases h2 : isN N n
  · refine Ex.int (zb_t h2) ?_
    refine ex_ifeq 40 8 d_MO_chosen_5 rfl rfl (fun h => absurd h (by decide)) (fun _ => ?_)
    refine ex_iload_n (a := s) 9 d_MO_chosen_8 rfl rfl ?_
    refine xl_callSi [.int s] [] 12 d_MO_chosen_9 rfl zs_MO_isSlot ⟨(Nat.le_of_ble_eq_true rfl), (Nat.le_of_ble_eq_true rfl)⟩ m_MO_136 rfl rfl (Nat.le_of_ble_eq_true rfl) rfl (Nat.le_of_ble_eq_true rfl) (c_MO_isSlot (S := S) (M := M) s) (fun vv ww q3 => ?_)
    rw [q3.1, q3.2]
    by_cases h4 : isSl s
    · refine Ex.int (zb_t h4) ?_
      refine ex_ifeq 40 15 d_MO_chosen_12 rfl rfl (fun h => absurd h (by decide)) (fun _ => ?_)
      exact absurd (⟨h2, h4⟩) hb
    · refine Ex.int (zb_f h4) ?_
      refine ex_ifeq 40 15 d_MO_chosen_12 rfl rfl (fun _ => ?_) (fun h => absurd (by decide) h)
      refine ex_iconst (v := (-1)) 41 d_MO_chosen_40 rfl (by decide) ?_
      refine ex_iret d_MO_chosen_41 rfl ⟨_, rfl, ?_⟩
      exact ⟨rfl, rfl⟩
  · refine Ex.int (zb_f h2) ?_
    refine ex_ifeq 40 8 d_MO_chosen_5 rfl rfl (fun _ => ?_) (fun h => absurd (by decide) h)
    refine ex_iconst (v := (-1)) 41 d_MO_chosen_40 rfl (by decide) ?_
    refine ex_iret d_MO_chosen_41 rfl ⟨_, rfl, ?_⟩
    exact ⟨rfl, rfl⟩
set_option maxRecDepth 100000 in
set_option maxHeartbeats 4000000 in
theorem c_MO_value_no (n k : Int32) (hn : M 0 0 = nI N) (hb : ¬ (isN N n ∧ ¬ k < 0 ∧ ¬ 3 < k)) : Ex G none mi_MO_value 0 0 0 (xEn mi_MO_value [.ref (ad (rp N 0)), .int n, .int k]) [] (LR G ad N S M) (xI (fun v w => w = LR G ad N S M ∧ v = 0)) := by
  refine ex_aload_n (a := ad (rp N 0)) 1 d_MO_value_0 rfl rfl ?_
  refine ex_iload_n (a := n) 2 d_MO_value_1 rfl rfl ?_
  refine xr_callVi [.int n] [] 5 d_MO_value_2 rfl zv_MO_isNode ⟨(Nat.le_of_ble_eq_true rfl), (Nat.le_of_ble_eq_true rfl)⟩ m_MO_101 (by decide) rfl rfl rfl (Nat.le_of_ble_eq_true rfl) rfl (Nat.le_of_ble_eq_true rfl) (c_MO_isNode (S := S) (M := M) n hn) (fun vv ww q1 => ?_)
  rw [q1.1, q1.2]
  by_cases h2 : isN N n
  · refine Ex.int (zb_t h2) ?_
    refine ex_ifeq 26 8 d_MO_value_5 rfl rfl (fun h => absurd h (by decide)) (fun _ => ?_)
    refine ex_iload_n (a := k) 9 d_MO_value_8 rfl rfl ?_
    refine ex_iflt 26 12 d_MO_value_9 rfl rfl (fun h3 => ?_) (fun h3 => ?_)
    · refine ex_iconst (v := 0) 27 d_MO_value_26 rfl (by decide) ?_
      refine ex_iret d_MO_value_27 rfl ⟨_, rfl, ?_⟩
      exact ⟨rfl, rfl⟩
    · refine ex_iload_n (a := k) 13 d_MO_value_12 rfl rfl ?_
      refine ex_iconst (v := 3) 14 d_MO_value_13 rfl (by decide) ?_
      refine ex_icmpgt 26 17 d_MO_value_14 rfl rfl (fun h4 => ?_) (fun h4 => ?_)
      · refine ex_iconst (v := 0) 27 d_MO_value_26 rfl (by decide) ?_
        refine ex_iret d_MO_value_27 rfl ⟨_, rfl, ?_⟩
        exact ⟨rfl, rfl⟩
      · exact absurd (⟨h2, h3, h4⟩) hb
  · refine Ex.int (zb_f h2) ?_
    refine ex_ifeq 26 8 d_MO_value_5 rfl rfl (fun _ => ?_) (fun h => absurd (by decide) h)
    refine ex_iconst (v := 0) 27 d_MO_value_26 rfl (by decide) ?_
    refine ex_iret d_MO_value_27 rfl ⟨_, rfl, ?_⟩
    exact ⟨rfl, rfl⟩
set_option maxRecDepth 100000 in
set_option maxHeartbeats 4000000 in
theorem c_MO_octet_no (n b : Int32) (hn : M 0 0 = nI N) (hb : ¬ (isN N n ∧ ¬ b < 0 ∧ ¬ 144 ≤ b)) : Ex G none mi_MO_octet 0 0 0 (xEn mi_MO_octet [.ref (ad (rp N 0)), .int n, .int b]) [] (LR G ad N S M) (xI (fun v w => w = LR G ad N S M ∧ v = (-1))) := by
  refine ex_aload_n (a := ad (rp N 0)) 1 d_MO_octet_0 rfl rfl ?_
  refine ex_iload_n (a := n) 2 d_MO_octet_1 rfl rfl ?_
  refine xr_callVi [.int n] [] 5 d_MO_octet_2 rfl zv_MO_isNode ⟨(Nat.le_of_ble_eq_true rfl), (Nat.le_of_ble_eq_true rfl)⟩ m_MO_101 (by decide) rfl rfl rfl (Nat.le_of_ble_eq_true rfl) rfl (Nat.le_of_ble_eq_true rfl) (c_MO_isNode (S := S) (M := M) n hn) (fun vv ww q1 => ?_)
  rw [q1.1, q1.2]
  by_cases h2 : isN N n
  · refine Ex.int (zb_t h2) ?_
    refine ex_ifeq 34 8 d_MO_octet_5 rfl rfl (fun h => absurd h (by decide)) (fun _ => ?_)
    refine ex_iload_n (a := b) 9 d_MO_octet_8 rfl rfl ?_
    refine ex_iflt 34 12 d_MO_octet_9 rfl rfl (fun h3 => ?_) (fun h3 => ?_)
    · refine ex_iconst (v := (-1)) 35 d_MO_octet_34 rfl (by decide) ?_
      refine ex_iret d_MO_octet_35 rfl ⟨_, rfl, ?_⟩
      exact ⟨rfl, rfl⟩
    · refine ex_iload_n (a := b) 13 d_MO_octet_12 rfl rfl ?_
      refine ex_sipush (v := 144) 16 d_MO_octet_13 rfl (by decide) ?_
      refine ex_icmpge 34 19 d_MO_octet_16 rfl rfl (fun h4 => ?_) (fun h4 => ?_)
      · refine ex_iconst (v := (-1)) 35 d_MO_octet_34 rfl (by decide) ?_
        refine ex_iret d_MO_octet_35 rfl ⟨_, rfl, ?_⟩
        exact ⟨rfl, rfl⟩
      · exact absurd (⟨h2, h3, h4⟩) hb
  · refine Ex.int (zb_f h2) ?_
    refine ex_ifeq 34 8 d_MO_octet_5 rfl rfl (fun _ => ?_) (fun h => absurd (by decide) h)
    refine ex_iconst (v := (-1)) 35 d_MO_octet_34 rfl (by decide) ?_
    refine ex_iret d_MO_octet_35 rfl ⟨_, rfl, ?_⟩
    exact ⟨rfl, rfl⟩
set_option maxRecDepth 100000 in
set_option maxHeartbeats 4000000 in
theorem c_MO_reply_no (q c : Int32) (hn : M 0 0 = nI N) (hb : ¬ (¬ q < 1 ∧ q ≤ M 0 1)) : Ex G none mi_MO_reply 0 0 0 (xEn mi_MO_reply [.ref (ad (rp N 0)), .int q, .int c]) [] (LR G ad N S M) (xI (fun v w => w = LR G ad N S M ∧ v = 0)) := by
  refine ex_iload_n (a := q) 1 d_MO_reply_0 rfl rfl ?_
  refine ex_iconst (v := 1) 2 d_MO_reply_1 rfl (by decide) ?_
  refine ex_icmplt 13 5 d_MO_reply_2 rfl rfl (fun h1 => ?_) (fun h1 => ?_)
  · refine ex_iconst (v := 0) 14 d_MO_reply_13 rfl (by decide) ?_
    refine ex_goto 36 d_MO_reply_14 rfl ?_
    refine ex_iret d_MO_reply_36 rfl ⟨_, rfl, ?_⟩
    exact ⟨rfl, rfl⟩
  · refine ex_iload_n (a := q) 6 d_MO_reply_5 rfl rfl ?_
    refine ex_aload_n (a := ad (rp N 0)) 7 d_MO_reply_6 rfl rfl ?_
    refine xr_get 10 d_MO_reply_7 rfl g_MO_82 (by decide) rfl rfl ?_
    refine ex_icmple 17 13 d_MO_reply_10 rfl rfl (fun h2 => ?_) (fun h2 => ?_)
    · exact absurd (⟨h1, h2⟩) hb
    · refine ex_iconst (v := 0) 14 d_MO_reply_13 rfl (by decide) ?_
      refine ex_goto 36 d_MO_reply_14 rfl ?_
      refine ex_iret d_MO_reply_36 rfl ⟨_, rfl, ?_⟩
      exact ⟨rfl, rfl⟩
set_option maxRecDepth 100000 in
set_option maxHeartbeats 4000000 in
theorem c_MO_ask_no (k v : Int32) (hn : M 0 0 = nI N) (hb : ¬ (¬ k < 0 ∧ ¬ 3 < k)) : Ex G none mi_MO_ask 0 0 0 (xEn mi_MO_ask [.ref (ad (rp N 0)), .int k, .int v]) [] (LR G ad N S M) (xI (fun v w => w = LR G ad N S M ∧ v = (-1))) := by
  refine ex_iload_n (a := k) 1 d_MO_ask_0 rfl rfl ?_
  refine ex_iflt 18 4 d_MO_ask_1 rfl rfl (fun h1 => ?_) (fun h1 => ?_)
  · refine ex_iconst (v := (-1)) 19 d_MO_ask_18 rfl (by decide) ?_
    refine ex_iret d_MO_ask_19 rfl ⟨_, rfl, ?_⟩
    exact ⟨rfl, rfl⟩
  · refine ex_iload_n (a := k) 5 d_MO_ask_4 rfl rfl ?_
    refine ex_iconst (v := 3) 6 d_MO_ask_5 rfl (by decide) ?_
    refine ex_icmpgt 18 9 d_MO_ask_6 rfl rfl (fun h2 => ?_) (fun h2 => ?_)
    · refine ex_iconst (v := (-1)) 19 d_MO_ask_18 rfl (by decide) ?_
      refine ex_iret d_MO_ask_19 rfl ⟨_, rfl, ?_⟩
      exact ⟨rfl, rfl⟩
    · exact absurd (⟨h1, h2⟩) hb
set_option maxRecDepth 100000 in
set_option maxHeartbeats 4000000 in
theorem c_MO_canSpoil_no (n s : Int32) (hn : M 0 0 = nI N) (hb : ¬ (isN N n ∧ ¬ s < 0 ∧ ¬ 17 < s)) : Ex G none mi_MO_canSpoil 0 0 0 (xEn mi_MO_canSpoil [.ref (ad (rp N 0)), .int n, .int s]) [] (LR G ad N S M) (xI (fun v w => w = LR G ad N S M ∧ v = 0)) := by
  refine ex_aload_n (a := ad (rp N 0)) 1 d_MO_canSpoil_0 rfl rfl ?_
  refine ex_iload_n (a := n) 2 d_MO_canSpoil_1 rfl rfl ?_
  refine xr_callVi [.int n] [] 5 d_MO_canSpoil_2 rfl zv_MO_isNode ⟨(Nat.le_of_ble_eq_true rfl), (Nat.le_of_ble_eq_true rfl)⟩ m_MO_101 (by decide) rfl rfl rfl (Nat.le_of_ble_eq_true rfl) rfl (Nat.le_of_ble_eq_true rfl) (c_MO_isNode (S := S) (M := M) n hn) (fun vv ww q1 => ?_)
  rw [q1.1, q1.2]
  by_cases h2 : isN N n
  · refine Ex.int (zb_t h2) ?_
    refine ex_ifeq 31 8 d_MO_canSpoil_5 rfl rfl (fun h => absurd h (by decide)) (fun _ => ?_)
    refine ex_iload_n (a := s) 9 d_MO_canSpoil_8 rfl rfl ?_
    refine ex_iflt 31 12 d_MO_canSpoil_9 rfl rfl (fun h3 => ?_) (fun h3 => ?_)
    · refine ex_iconst (v := 0) 32 d_MO_canSpoil_31 rfl (by decide) ?_
      refine ex_zret d_MO_canSpoil_32 rfl rfl ⟨_, rfl, ?_⟩
      exact ⟨rfl, rfl⟩
    · refine ex_iload_n (a := s) 13 d_MO_canSpoil_12 rfl rfl ?_
      refine ex_bipush (v := 17) 15 d_MO_canSpoil_13 rfl (by decide) ?_
      refine ex_icmpgt 31 18 d_MO_canSpoil_15 rfl rfl (fun h4 => ?_) (fun h4 => ?_)
      · refine ex_iconst (v := 0) 32 d_MO_canSpoil_31 rfl (by decide) ?_
        refine ex_zret d_MO_canSpoil_32 rfl rfl ⟨_, rfl, ?_⟩
        exact ⟨rfl, rfl⟩
      · exact absurd (⟨h2, h3, h4⟩) hb
  · refine Ex.int (zb_f h2) ?_
    refine ex_ifeq 31 8 d_MO_canSpoil_5 rfl rfl (fun _ => ?_) (fun h => absurd (by decide) h)
    refine ex_iconst (v := 0) 32 d_MO_canSpoil_31 rfl (by decide) ?_
    refine ex_zret d_MO_canSpoil_32 rfl rfl ⟨_, rfl, ?_⟩
    exact ⟨rfl, rfl⟩
set_option maxRecDepth 100000 in
set_option maxHeartbeats 4000000 in
theorem c_MO_flip_no (n s b : Int32) (hn : M 0 0 = nI N) (hb : ¬ (isN N n ∧ ¬ s < 0 ∧ ¬ 17 < s)) : Ex G none mi_MO_flip 0 0 0 (xEn mi_MO_flip [.ref (ad (rp N 0)), .int n, .int s, .int b]) [] (LR G ad N S M) (xI (fun v w => w = LR G ad N S M ∧ v = 0)) := by
  refine ex_aload_n (a := ad (rp N 0)) 1 d_MO_flip_0 rfl rfl ?_
  refine ex_iload_n (a := n) 2 d_MO_flip_1 rfl rfl ?_
  refine ex_iload_n (a := s) 3 d_MO_flip_2 rfl rfl ?_
  refine xr_callVi [.int n, .int s] [] 6 d_MO_flip_3 rfl zv_MO_canSpoil ⟨(Nat.le_of_ble_eq_true rfl), (Nat.le_of_ble_eq_true rfl)⟩ m_MO_108 (by decide) rfl rfl rfl (Nat.le_of_ble_eq_true rfl) rfl (Nat.le_of_ble_eq_true rfl) (c_MO_canSpoil_no (S := S) (M := M) n s hn hb) (fun vv ww q1 => ?_)
  rw [q1.1, q1.2]
  refine ex_ifeq 19 9 d_MO_flip_6 rfl rfl (fun _ => ?_) (fun h => absurd (by decide) h)
  refine ex_iconst (v := 0) 20 d_MO_flip_19 rfl (by decide) ?_
  refine ex_zret d_MO_flip_20 rfl rfl ⟨_, rfl, ?_⟩
  exact ⟨rfl, rfl⟩
set_option maxRecDepth 100000 in
set_option maxHeartbeats 4000000 in
theorem c_MO_wipe_no (n s : Int32) (hn : M 0 0 = nI N) (hb : ¬ (isN N n ∧ ¬ s < 0 ∧ ¬ 17 < s)) : Ex G none mi_MO_wipe 0 0 0 (xEn mi_MO_wipe [.ref (ad (rp N 0)), .int n, .int s]) [] (LR G ad N S M) (xI (fun v w => w = LR G ad N S M ∧ v = 0)) := by
  refine ex_aload_n (a := ad (rp N 0)) 1 d_MO_wipe_0 rfl rfl ?_
  refine ex_iload_n (a := n) 2 d_MO_wipe_1 rfl rfl ?_
  refine ex_iload_n (a := s) 3 d_MO_wipe_2 rfl rfl ?_
  refine xr_callVi [.int n, .int s] [] 6 d_MO_wipe_3 rfl zv_MO_canSpoil ⟨(Nat.le_of_ble_eq_true rfl), (Nat.le_of_ble_eq_true rfl)⟩ m_MO_108 (by decide) rfl rfl rfl (Nat.le_of_ble_eq_true rfl) rfl (Nat.le_of_ble_eq_true rfl) (c_MO_canSpoil_no (S := S) (M := M) n s hn hb) (fun vv ww q1 => ?_)
  rw [q1.1, q1.2]
  refine ex_ifne 11 9 d_MO_wipe_6 rfl rfl (fun h => absurd (by decide) h) (fun _ => ?_)
  refine ex_iconst (v := 0) 10 d_MO_wipe_9 rfl (by decide) ?_
  refine ex_zret d_MO_wipe_10 rfl rfl ⟨_, rfl, ?_⟩
  exact ⟨rfl, rfl⟩
set_option maxRecDepth 100000 in
set_option maxHeartbeats 4000000 in
theorem c_MO_flip_nob (n : Nat) (hnN : n < N) (hN : N ≤ 5) (hn : M 0 0 = nI N) (s : Nat) (hs : s < 18) (b : Int32) (hb : ¬ (¬ b < 0 ∧ b ≤ 63)) : Ex G none mi_MO_flip 0 0 0 (xEn mi_MO_flip [.ref (ad (rp N 0)), .int (nI n), .int (nI s), .int b]) [] (LR G ad N S M) (xI (fun v w => w = LR G ad N S M ∧ v = 0)) := by
  refine ex_aload_n (a := ad (rp N 0)) 1 d_MO_flip_0 rfl rfl ?_
  refine ex_iload_n (a := nI n) 2 d_MO_flip_1 rfl rfl ?_
  refine ex_iload_n (a := nI s) 3 d_MO_flip_2 rfl rfl ?_
  refine xr_callVi [.int (nI n), .int (nI s)] [] 6 d_MO_flip_3 rfl zv_MO_canSpoil ⟨(Nat.le_of_ble_eq_true rfl), (Nat.le_of_ble_eq_true rfl)⟩ m_MO_108 (by decide) rfl rfl rfl (Nat.le_of_ble_eq_true rfl) rfl (Nat.le_of_ble_eq_true rfl) (c_MO_canSpoil (S := S) (M := M) n hnN hN hn s (by omega)) (fun vv ww q1 => ?_)
  rw [q1.1, q1.2]
  by_cases h2 : ¬ rWrF (M 5) (144 * n + 8 * s)
  · refine Ex.int (zb_t h2) ?_
    refine ex_ifeq 19 9 d_MO_flip_6 rfl rfl (fun h => absurd h (by decide)) (fun _ => ?_)
    refine ex_iload_n (a := b) 10 d_MO_flip_9 rfl rfl ?_
    refine ex_iflt 19 13 d_MO_flip_10 rfl rfl (fun h3 => ?_) (fun h3 => ?_)
    · refine ex_iconst (v := 0) 20 d_MO_flip_19 rfl (by decide) ?_
      refine ex_zret d_MO_flip_20 rfl rfl ⟨_, rfl, ?_⟩
      exact ⟨rfl, rfl⟩
    · refine ex_iload_n (a := b) 14 d_MO_flip_13 rfl rfl ?_
      refine ex_bipush (v := 63) 16 d_MO_flip_14 rfl (by decide) ?_
      refine ex_icmple 21 19 d_MO_flip_16 rfl rfl (fun h4 => ?_) (fun h4 => ?_)
      · exact absurd ⟨h3, h4⟩ hb
      · refine ex_iconst (v := 0) 20 d_MO_flip_19 rfl (by decide) ?_
        refine ex_zret d_MO_flip_20 rfl rfl ⟨_, rfl, ?_⟩
        exact ⟨rfl, rfl⟩
  · refine Ex.int (zb_f h2) ?_
    refine ex_ifeq 19 9 d_MO_flip_6 rfl rfl (fun _ => ?_) (fun h => absurd (by decide) h)
    refine ex_iconst (v := 0) 20 d_MO_flip_19 rfl (by decide) ?_
    refine ex_zret d_MO_flip_20 rfl rfl ⟨_, rfl, ?_⟩
    exact ⟨rfl, rfl⟩
end WK
