section WK
variable {G : xC} {ad : Nat → Nat} {N : Nat} {S M : sT}
set_option maxRecDepth 100000 in
set_option maxHeartbeats 4000000 in
theorem c_MO_writePromise (n : Nat) (hn5 : n < 5) (b : Int32) : Ex G none mi_MO_writePromise 0 0 0 (xEn mi_MO_writePromise [.ref (ad (rp N 0)), .int (nI n), .int b]) [] (LR G ad N S M) (xI (fun v w => w = LR G ad N S (rWP n b M) ∧ v = zb (rWPok n b M))) := by
  refine ex_aload_n (a := ad (rp N 0)) 1 d_MO_writePromise_0 rfl rfl ?_
  refine ex_iload_n (a := nI n) 2 d_MO_writePromise_1 rfl rfl ?_
  refine ex_iconst (v := 0) 3 d_MO_writePromise_2 rfl (by decide) ?_
  refine ex_iconst (v := 0) 4 d_MO_writePromise_3 rfl (by decide) ?_
  refine ex_iconst (v := 0) 5 d_MO_writePromise_4 rfl (by decide) ?_
  refine ex_iload_n (a := b) 6 d_MO_writePromise_5 rfl rfl ?_
  refine xr_callVi [.int (nI n), .int 0, .int 0, .int 0, .int b] [] 9 d_MO_writePromise_6 rfl zv_MO_write ⟨(Nat.le_of_ble_eq_true rfl), (Nat.le_of_ble_eq_true rfl)⟩ m_MO_88 (by decide) rfl rfl rfl (Nat.le_of_ble_eq_true rfl) rfl (Nat.le_of_ble_eq_true rfl) (c_MO_write (S := S) (M := M) n 0 (by omega) (by omega) 0 0 b) (fun vv ww q1 => ?_)
  rw [q1.1, q1.2]
  by_cases h2 : rWrOk n M
  · refine Ex.int (zb_t h2) ?_
    refine ex_ifeq 24 12 d_MO_writePromise_9 rfl rfl (fun h => absurd h (by decide)) (fun _ => ?_)
    refine ex_aload_n (a := ad (rp N 0)) 13 d_MO_writePromise_12 rfl rfl ?_
    refine ex_iload_n (a := nI n) 14 d_MO_writePromise_13 rfl rfl ?_
    refine ex_iconst (v := 1) 15 d_MO_writePromise_14 rfl (by decide) ?_
    refine ex_iconst (v := 0) 16 d_MO_writePromise_15 rfl (by decide) ?_
    refine ex_iconst (v := 0) 17 d_MO_writePromise_16 rfl (by decide) ?_
    refine ex_iload_n (a := b) 18 d_MO_writePromise_17 rfl rfl ?_
    refine xr_callVi [.int (nI n), .int 1, .int 0, .int 0, .int b] [] 21 d_MO_writePromise_18 rfl zv_MO_write ⟨(Nat.le_of_ble_eq_true rfl), (Nat.le_of_ble_eq_true rfl)⟩ m_MO_88 (by decide) rfl rfl rfl (Nat.le_of_ble_eq_true rfl) rfl (Nat.le_of_ble_eq_true rfl) (c_MO_write (S := S) (M := (rWr n 0 0 0 b M)) n 1 (by omega) (by omega) 0 0 b) (fun vv ww q3 => ?_)
    rw [q3.1, q3.2]
    by_cases h4 : rWrOk n (rWr n 0 0 0 b M)
    · refine Ex.int (zb_t h4) ?_
      refine ex_ifne 26 24 d_MO_writePromise_21 rfl rfl (fun _ => ?_) (fun h => absurd h (by decide))
      refine ex_aload_n (a := ad (rp N 0)) 27 d_MO_writePromise_26 rfl rfl ?_
      refine xr_getR 30 d_MO_writePromise_27 rfl g_MO_35 (by decide) rfl rfl ?_
      refine ex_iload_n (a := nI n) 31 d_MO_writePromise_30 rfl rfl ?_
      refine ex_iload_n (a := b) 32 d_MO_writePromise_31 rfl rfl ?_
      refine xr_iast 33 d_MO_writePromise_32 rfl (by decide) rfl rfl (by omega) (by omega) ?_
      refine ex_iconst (v := 1) 34 d_MO_writePromise_33 rfl (by decide) ?_
      refine ex_zret d_MO_writePromise_34 rfl rfl ⟨_, rfl, ?_⟩
      refine ⟨?_, (Eq.symm (zb_t ⟨h2, h4⟩))⟩
      unfold rWP; rw [if_pos h2, if_pos h4]
    · refine Ex.int (zb_f h4) ?_
      refine ex_ifne 26 24 d_MO_writePromise_21 rfl rfl (fun h => absurd (by decide) h) (fun _ => ?_)
      refine ex_iconst (v := 0) 25 d_MO_writePromise_24 rfl (by decide) ?_
      refine ex_zret d_MO_writePromise_25 rfl rfl ⟨_, rfl, ?_⟩
      refine ⟨?_, (Eq.symm (zb_f (fun z => h4 z.2)))⟩
      unfold rWP; rw [if_pos h2, if_neg h4]
  · refine Ex.int (zb_f h2) ?_
    refine ex_ifeq 24 12 d_MO_writePromise_9 rfl rfl (fun _ => ?_) (fun h => absurd (by decide) h)
    refine ex_iconst (v := 0) 25 d_MO_writePromise_24 rfl (by decide) ?_
    refine ex_zret d_MO_writePromise_25 rfl rfl ⟨_, rfl, ?_⟩
    refine ⟨?_, (Eq.symm (zb_f (fun z => h2 z.1)))⟩
    unfold rWP; rw [if_neg h2]
set_option maxRecDepth 100000 in
set_option maxHeartbeats 4000000 in
theorem c_MO_writeVote (n t : Nat) (hn5 : n < 5) (ht : t < 8) (c b : Int32) : Ex G none mi_MO_writeVote 0 0 0 (xEn mi_MO_writeVote [.ref (ad (rp N 0)), .int (nI n), .int (nI (t + 1)), .int c, .int b]) [] (LR G ad N S M) (xI (fun v w => w = LR G ad N S (rWV n t c b M) ∧ v = zb (rWVok n t c b M))) := by
  refine ex_aload_n (a := ad (rp N 0)) 1 d_MO_writeVote_0 rfl rfl ?_
  refine ex_iload_n (a := nI n) 2 d_MO_writeVote_1 rfl rfl ?_
  refine ex_iconst (v := 2) 3 d_MO_writeVote_2 rfl (by decide) ?_
  refine ex_iload_n (a := nI (t + 1)) 4 d_MO_writeVote_3 rfl rfl ?_
  refine ex_imulN (2 * t + 2) 5 d_MO_writeVote_4 rfl (xn_lit 2) rfl (by omega) ?_
  refine ex_iload_n (a := nI (t + 1)) 6 d_MO_writeVote_5 rfl rfl ?_
  refine ex_iload_n (a := c) 7 d_MO_writeVote_6 rfl rfl ?_
  refine ex_iload (a := b) 9 d_MO_writeVote_7 rfl rfl ?_
  refine xr_callVi [.int (nI n), .int (nI (2 * t + 2)), .int (nI (t + 1)), .int c, .int b] [] 12 d_MO_writeVote_9 rfl zv_MO_write ⟨(Nat.le_of_ble_eq_true rfl), (Nat.le_of_ble_eq_true rfl)⟩ m_MO_88 (by decide) rfl rfl rfl (Nat.le_of_ble_eq_true rfl) rfl (Nat.le_of_ble_eq_true rfl) (c_MO_write (S := S) (M := M) n (2 * t + 2) (by omega) (by omega) (nI (t + 1)) c b) (fun vv ww q1 => ?_)
  rw [q1.1, q1.2]
  by_cases h2 : rWrOk n M
  · refine Ex.int (zb_t h2) ?_
    refine ex_ifeq 32 15 d_MO_writeVote_12 rfl rfl (fun h => absurd h (by decide)) (fun _ => ?_)
    refine ex_aload_n (a := ad (rp N 0)) 16 d_MO_writeVote_15 rfl rfl ?_
    refine ex_iload_n (a := nI n) 17 d_MO_writeVote_16 rfl rfl ?_
    refine ex_iconst (v := 2) 18 d_MO_writeVote_17 rfl (by decide) ?_
    refine ex_iload_n (a := nI (t + 1)) 19 d_MO_writeVote_18 rfl rfl ?_
    refine ex_imulN (2 * t + 2) 20 d_MO_writeVote_19 rfl (xn_lit 2) rfl (by omega) ?_
    refine ex_iconst (v := 1) 21 d_MO_writeVote_20 rfl (by decide) ?_
    refine ex_iaddN (2 * t + 3) 22 d_MO_writeVote_21 rfl rfl (xn_lit 1) (by omega) ?_
    refine ex_iload_n (a := nI (t + 1)) 23 d_MO_writeVote_22 rfl rfl ?_
    refine ex_iconst (v := 0) 24 d_MO_writeVote_23 rfl (by decide) ?_
    refine ex_iload (a := b) 26 d_MO_writeVote_24 rfl rfl ?_
    refine xr_callVi [.int (nI n), .int (nI (2 * t + 3)), .int (nI (t + 1)), .int 0, .int b] [] 29 d_MO_writeVote_26 rfl zv_MO_write ⟨(Nat.le_of_ble_eq_true rfl), (Nat.le_of_ble_eq_true rfl)⟩ m_MO_88 (by decide) rfl rfl rfl (Nat.le_of_ble_eq_true rfl) rfl (Nat.le_of_ble_eq_true rfl) (c_MO_write (S := S) (M := (rWr n (2 * t + 2) (nI (t + 1)) c b M)) n (2 * t + 3) (by omega) (by omega) (nI (t + 1)) 0 b) (fun vv ww q3 => ?_)
    rw [q3.1, q3.2]
    by_cases h4 : rWrOk n (rWr n (2 * t + 2) (nI (t + 1)) c b M)
    · refine Ex.int (zb_t h4) ?_
      refine ex_ifne 34 32 d_MO_writeVote_29 rfl rfl (fun _ => ?_) (fun h => absurd h (by decide))
      refine ex_aload_n (a := ad (rp N 0)) 35 d_MO_writeVote_34 rfl rfl ?_
      refine xr_getR 38 d_MO_writeVote_35 rfl g_MO_44 (by decide) rfl rfl ?_
      refine ex_bipush (v := 8) 40 d_MO_writeVote_38 rfl (by decide) ?_
      refine ex_iload_n (a := nI n) 41 d_MO_writeVote_40 rfl rfl ?_
      refine ex_imulN (8 * n) 42 d_MO_writeVote_41 rfl (xn_lit 8) rfl (by omega) ?_
      refine ex_iload_n (a := nI (t + 1)) 43 d_MO_writeVote_42 rfl rfl ?_
      refine ex_iaddN (8 * n + t + 1) 44 d_MO_writeVote_43 rfl rfl rfl (by omega) ?_
      refine ex_iconst (v := 1) 45 d_MO_writeVote_44 rfl (by decide) ?_
      refine ex_isubN (8 * n + t) 46 d_MO_writeVote_45 rfl rfl (xn_lit 1) (by omega) ?_
      refine ex_bipush (v := 64) 48 d_MO_writeVote_46 rfl (by decide) ?_
      refine ex_iload (a := b) 50 d_MO_writeVote_48 rfl rfl ?_
      refine ex_imul 51 d_MO_writeVote_50 rfl ?_
      refine ex_iload_n (a := c) 52 d_MO_writeVote_51 rfl rfl ?_
      refine ex_iadd 53 d_MO_writeVote_52 rfl ?_
      refine xr_iast 54 d_MO_writeVote_53 rfl (by decide) rfl rfl (by omega) (by omega) ?_
      refine ex_iconst (v := 1) 55 d_MO_writeVote_54 rfl (by decide) ?_
      refine ex_zret d_MO_writeVote_55 rfl rfl ⟨_, rfl, ?_⟩
      refine ⟨?_, (Eq.symm (zb_t ⟨h2, h4⟩))⟩
      unfold rWV; rw [if_pos h2, if_pos h4]
    · refine Ex.int (zb_f h4) ?_
      refine ex_ifne 34 32 d_MO_writeVote_29 rfl rfl (fun h => absurd (by decide) h) (fun _ => ?_)
      refine ex_iconst (v := 0) 33 d_MO_writeVote_32 rfl (by decide) ?_
      refine ex_zret d_MO_writeVote_33 rfl rfl ⟨_, rfl, ?_⟩
      refine ⟨?_, (Eq.symm (zb_f (fun z => h4 z.2)))⟩
      unfold rWV; rw [if_pos h2, if_neg h4]
  · refine Ex.int (zb_f h2) ?_
    refine ex_ifeq 32 15 d_MO_writeVote_12 rfl rfl (fun _ => ?_) (fun h => absurd (by decide) h)
    refine ex_iconst (v := 0) 33 d_MO_writeVote_32 rfl (by decide) ?_
    refine ex_zret d_MO_writeVote_33 rfl rfl ⟨_, rfl, ?_⟩
    refine ⟨?_, (Eq.symm (zb_f (fun z => h2 z.1)))⟩
    unfold rWV; rw [if_neg h2]
set_option maxRecDepth 100000 in
set_option maxHeartbeats 4000000 in
theorem c_MO_found (n t : Nat) (hn5 : n < 5) (ht : t < 8) : Ex G none mi_MO_found 0 0 0 (xEn mi_MO_found [.ref (ad (rp N 0)), .int (nI n), .int (nI (t + 1))]) [] (LR G ad N S M) (xI (fun v w => w = LR G ad N S M ∧ v = rFound n t M)) := by
  refine ex_aload_n (a := ad (rp N 0)) 1 d_MO_found_0 rfl rfl ?_
  refine ex_iload_n (a := nI n) 2 d_MO_found_1 rfl rfl ?_
  refine ex_iconst (v := 2) 3 d_MO_found_2 rfl (by decide) ?_
  refine ex_iload_n (a := nI (t + 1)) 4 d_MO_found_3 rfl rfl ?_
  refine ex_imulN (2 * t + 2) 5 d_MO_found_4 rfl (xn_lit 2) rfl (by omega) ?_
  refine xr_callVi [.int (nI n), .int (nI (2 * t + 2))] [] 8 d_MO_found_5 rfl zv_MO_ballotIn ⟨(Nat.le_of_ble_eq_true rfl), (Nat.le_of_ble_eq_true rfl)⟩ m_MO_92 (by decide) rfl rfl rfl (Nat.le_of_ble_eq_true rfl) rfl (Nat.le_of_ble_eq_true rfl) (c_MO_ballotIn (S := S) (M := M) n (2 * t + 2) (by omega) (by omega)) (fun vv ww q1 => ?_)
  rw [q1.1, q1.2]
  refine ex_istore_n 9 d_MO_found_8 rfl (Nat.le_of_ble_eq_true rfl) ?_
  refine ex_aload_n (a := ad (rp N 0)) 10 d_MO_found_9 rfl rfl ?_
  refine ex_iload_n (a := nI n) 11 d_MO_found_10 rfl rfl ?_
  refine ex_iconst (v := 2) 12 d_MO_found_11 rfl (by decide) ?_
  refine ex_iload_n (a := nI (t + 1)) 13 d_MO_found_12 rfl rfl ?_
  refine ex_imulN (2 * t + 2) 14 d_MO_found_13 rfl (xn_lit 2) rfl (by omega) ?_
  refine ex_iconst (v := 1) 15 d_MO_found_14 rfl (by decide) ?_
  refine ex_iaddN (2 * t + 3) 16 d_MO_found_15 rfl rfl (xn_lit 1) (by omega) ?_
  refine xr_callVi [.int (nI n), .int (nI (2 * t + 3))] [] 19 d_MO_found_16 rfl zv_MO_ballotIn ⟨(Nat.le_of_ble_eq_true rfl), (Nat.le_of_ble_eq_true rfl)⟩ m_MO_92 (by decide) rfl rfl rfl (Nat.le_of_ble_eq_true rfl) rfl (Nat.le_of_ble_eq_true rfl) (c_MO_ballotIn (S := S) (M := M) n (2 * t + 3) (by omega) (by omega)) (fun vv ww q2 => ?_)
  rw [q2.1, q2.2]
  refine ex_istore 21 d_MO_found_19 rfl (Nat.le_of_ble_eq_true rfl) ?_
  refine ex_aload_n (a := ad (rp N 0)) 22 d_MO_found_21 rfl rfl ?_
  refine ex_iload_n (a := nI n) 23 d_MO_found_22 rfl rfl ?_
  refine ex_iconst (v := 2) 24 d_MO_found_23 rfl (by decide) ?_
  refine ex_iload_n (a := nI (t + 1)) 25 d_MO_found_24 rfl rfl ?_
  refine ex_imulN (2 * t + 2) 26 d_MO_found_25 rfl (xn_lit 2) rfl (by omega) ?_
  refine xr_callVi [.int (nI n), .int (nI (2 * t + 2))] [] 29 d_MO_found_26 rfl zv_MO_isWrong ⟨(Nat.le_of_ble_eq_true rfl), (Nat.le_of_ble_eq_true rfl)⟩ m_MO_96 (by decide) rfl rfl rfl (Nat.le_of_ble_eq_true rfl) rfl (Nat.le_of_ble_eq_true rfl) (c_MO_isWrong (S := S) (M := M) n (2 * t + 2) (by omega) (by omega)) (fun vv ww q3 => ?_)
  rw [q3.1, q3.2]
  by_cases h4 : rWrF (M 5) (144 * n + 8 * (2 * t + 2))
  · refine Ex.int (zb_t h4) ?_
    refine ex_ifne 63 32 d_MO_found_29 rfl rfl (fun _ => ?_) (fun h => absurd h (by decide))
    refine ex_aload_n (a := ad (rp N 0)) 64 d_MO_found_63 rfl rfl ?_
    refine ex_iload_n (a := nI n) 65 d_MO_found_64 rfl rfl ?_
    refine ex_iconst (v := 2) 66 d_MO_found_65 rfl (by decide) ?_
    refine ex_iload_n (a := nI (t + 1)) 67 d_MO_found_66 rfl rfl ?_
    refine ex_imulN (2 * t + 2) 68 d_MO_found_67 rfl (xn_lit 2) rfl (by omega) ?_
    refine ex_iconst (v := 1) 69 d_MO_found_68 rfl (by decide) ?_
    refine ex_iaddN (2 * t + 3) 70 d_MO_found_69 rfl rfl (xn_lit 1) (by omega) ?_
    refine xr_callVi [.int (nI n), .int (nI (2 * t + 3))] [] 73 d_MO_found_70 rfl zv_MO_isWrong ⟨(Nat.le_of_ble_eq_true rfl), (Nat.le_of_ble_eq_true rfl)⟩ m_MO_96 (by decide) rfl rfl rfl (Nat.le_of_ble_eq_true rfl) rfl (Nat.le_of_ble_eq_true rfl) (c_MO_isWrong (S := S) (M := M) n (2 * t + 3) (by omega) (by omega)) (fun vv ww q5 => ?_)
    rw [q5.1, q5.2]
    by_cases h6 : rWrF (M 5) (144 * n + 8 * (2 * t + 3))
    · refine Ex.int (zb_t h6) ?_
      refine ex_ifeq 81 76 d_MO_found_73 rfl rfl (fun h => absurd h (by decide)) (fun _ => ?_)
      refine ex_ldc (v := (-1000000)) 78 d_MO_found_76 rfl c_MO_100 ?_
      refine ex_goto 95 d_MO_found_78 rfl ?_
      refine ex_iret d_MO_found_95 rfl ⟨_, rfl, ?_⟩
      refine ⟨rfl, ?_⟩
      unfold rFound; rw [if_pos h4, if_pos h6]
    · refine Ex.int (zb_f h6) ?_
      refine ex_ifeq 81 76 d_MO_found_73 rfl rfl (fun _ => ?_) (fun h => absurd (by decide) h)
      refine ex_iload (a := (rBal (M 5) (144 * n + 8 * (2 * t + 3)))) 83 d_MO_found_81 rfl rfl ?_
      refine ex_ifne 90 86 d_MO_found_83 rfl rfl (fun h7 => ?_) (fun h7 => ?_)
      · refine ex_bipush (v := (-2)) 92 d_MO_found_90 rfl (by decide) ?_
        refine ex_iload (a := (rBal (M 5) (144 * n + 8 * (2 * t + 3)))) 94 d_MO_found_92 rfl rfl ?_
        refine ex_isub 95 d_MO_found_94 rfl ?_
        refine ex_iret d_MO_found_95 rfl ⟨_, rfl, ?_⟩
        refine ⟨rfl, ?_⟩
        unfold rFound; rw [if_pos h4, if_neg h6, if_neg h7]
      · refine ex_iconst (v := 0) 87 d_MO_found_86 rfl (by decide) ?_
        refine ex_goto 95 d_MO_found_87 rfl ?_
        refine ex_iret d_MO_found_95 rfl ⟨_, rfl, ?_⟩
        refine ⟨rfl, ?_⟩
        unfold rFound; rw [if_pos h4, if_neg h6, if_pos h7]
  · refine Ex.int (zb_f h4) ?_
    refine ex_ifne 63 32 d_MO_found_29 rfl rfl (fun h => absurd (by decide) h) (fun _ => ?_)
    refine ex_iload_n (a := (rBal (M 5) (144 * n + 8 * (2 * t + 2)))) 33 d_MO_found_32 rfl rfl ?_
    refine ex_ifne 40 36 d_MO_found_33 rfl rfl (fun h8 => ?_) (fun h8 => ?_)
    · refine ex_bipush (v := 64) 42 d_MO_found_40 rfl (by decide) ?_
      refine ex_iload_n (a := (rBal (M 5) (144 * n + 8 * (2 * t + 2)))) 43 d_MO_found_42 rfl rfl ?_
      refine ex_imul 44 d_MO_found_43 rfl ?_
      refine ex_aload_n (a := ad (rp N 0)) 45 d_MO_found_44 rfl rfl ?_
      refine xr_getR 48 d_MO_found_45 rfl g_MO_22 (by decide) rfl rfl ?_
      refine ex_sipush (v := 144) 51 d_MO_found_48 rfl (by decide) ?_
      refine ex_iload_n (a := nI n) 52 d_MO_found_51 rfl rfl ?_
      refine ex_imulN (144 * n) 53 d_MO_found_52 rfl (xn_lit 144) rfl (by omega) ?_
      refine ex_bipush (v := 16) 55 d_MO_found_53 rfl (by decide) ?_
      refine ex_iload_n (a := nI (t + 1)) 56 d_MO_found_55 rfl rfl ?_
      refine ex_imulN (16 * t + 16) 57 d_MO_found_56 rfl (xn_lit 16) rfl (by omega) ?_
      refine ex_iaddN (144 * n + 16 * t + 16) 58 d_MO_found_57 rfl rfl rfl (by omega) ?_
      refine ex_iconst (v := 1) 59 d_MO_found_58 rfl (by decide) ?_
      refine ex_iaddN (144 * n + 16 * t + 17) 60 d_MO_found_59 rfl rfl (xn_lit 1) (by omega) ?_
      refine xr_iald 61 d_MO_found_60 rfl (by decide) rfl rfl (by omega) (by omega) ?_
      refine ex_iadd 62 d_MO_found_61 rfl ?_
      refine ex_iret d_MO_found_62 rfl ⟨_, rfl, ?_⟩
      refine ⟨rfl, ?_⟩
      unfold rFound; rw [if_neg h4, if_neg h8]
    · refine ex_iconst (v := 0) 37 d_MO_found_36 rfl (by decide) ?_
      refine ex_goto 62 d_MO_found_37 rfl ?_
      refine ex_iret d_MO_found_62 rfl ⟨_, rfl, ?_⟩
      refine ⟨rfl, ?_⟩
      unfold rFound; rw [if_neg h4, if_pos h8]
set_option maxRecDepth 100000 in
set_option maxHeartbeats 4000000 in
theorem c_MO_leads (n : Nat) (hn5 : n < 5) : Ex G none mi_MO_leads 0 0 0 (xEn mi_MO_leads [.ref (ad (rp N 0)), .int (nI n)]) [] (LR G ad N S M) (xI (fun v w => w = LR G ad N S M ∧ v = zb (rLds n M))) := by
  refine ex_aload_n (a := ad (rp N 0)) 1 d_MO_leads_0 rfl rfl ?_
  refine xr_getR 4 d_MO_leads_1 rfl g_MO_25 (by decide) rfl rfl ?_
  refine ex_iload_n (a := nI n) 5 d_MO_leads_4 rfl rfl ?_
  refine xr_zald 6 d_MO_leads_5 rfl (by decide) rfl rfl (by omega) (by omega) ?_
  refine ex_ifeq 35 9 d_MO_leads_6 rfl rfl (fun h1 => ?_) (fun h1 => ?_)
  · refine ex_iconst (v := 0) 36 d_MO_leads_35 rfl (by decide) ?_
    refine ex_zret d_MO_leads_36 rfl rfl ⟨_, rfl, ?_⟩
    refine ⟨rfl, ?_⟩
    exact (Eq.symm (zb_f (fun z => z.1 h1)))
  · refine ex_aload_n (a := ad (rp N 0)) 10 d_MO_leads_9 rfl rfl ?_
    refine xr_getR 13 d_MO_leads_10 rfl g_MO_38 (by decide) rfl rfl ?_
    refine ex_iload_n (a := nI n) 14 d_MO_leads_13 rfl rfl ?_
    refine xr_iald 15 d_MO_leads_14 rfl (by decide) rfl rfl (by omega) (by omega) ?_
    refine ex_ifle 35 18 d_MO_leads_15 rfl rfl (fun h2 => ?_) (fun h2 => ?_)
    · refine ex_iconst (v := 0) 36 d_MO_leads_35 rfl (by decide) ?_
      refine ex_zret d_MO_leads_36 rfl rfl ⟨_, rfl, ?_⟩
      refine ⟨rfl, ?_⟩
      exact (Eq.symm (zb_f (fun z => absurd z.2.1 (Int32.not_lt.mpr h2))))
    · refine ex_aload_n (a := ad (rp N 0)) 19 d_MO_leads_18 rfl rfl ?_
      refine ex_aload_n (a := ad (rp N 0)) 20 d_MO_leads_19 rfl rfl ?_
      refine xr_getR 23 d_MO_leads_20 rfl g_MO_41 (by decide) rfl rfl ?_
      refine ex_iload_n (a := nI n) 24 d_MO_leads_23 rfl rfl ?_
      refine xr_iald 25 d_MO_leads_24 rfl (by decide) rfl rfl (by omega) (by omega) ?_
      refine xr_callVi [.int (M 11 n)] [] 28 d_MO_leads_25 rfl zv_MO_isMany ⟨(Nat.le_of_ble_eq_true rfl), (Nat.le_of_ble_eq_true rfl)⟩ m_MO_118 (by decide) rfl rfl rfl (Nat.le_of_ble_eq_true rfl) rfl (Nat.le_of_ble_eq_true rfl) (c_MO_isMany (S := S) (M := M) (M 11 n)) (fun vv ww q3 => ?_)
      rw [q3.1, q3.2]
      by_cases h4 : rMany M (M 11 n)
      · refine Ex.int (zb_t h4) ?_
        refine ex_ifeq 35 31 d_MO_leads_28 rfl rfl (fun h => absurd h (by decide)) (fun _ => ?_)
        refine ex_iconst (v := 1) 32 d_MO_leads_31 rfl (by decide) ?_
        refine ex_goto 36 d_MO_leads_32 rfl ?_
        refine ex_zret d_MO_leads_36 rfl rfl ⟨_, rfl, ?_⟩
        refine ⟨rfl, ?_⟩
        exact (Eq.symm (zb_t ⟨h1, Int32.not_le.mp h2, h4⟩))
      · refine Ex.int (zb_f h4) ?_
        refine ex_ifeq 35 31 d_MO_leads_28 rfl rfl (fun _ => ?_) (fun h => absurd (by decide) h)
        refine ex_iconst (v := 0) 36 d_MO_leads_35 rfl (by decide) ?_
        refine ex_zret d_MO_leads_36 rfl rfl ⟨_, rfl, ?_⟩
        refine ⟨rfl, ?_⟩
        exact (Eq.symm (zb_f (fun z => h4 z.2.2)))
set_option maxRecDepth 100000 in
set_option maxHeartbeats 4000000 in
theorem c_MO_planned (n t : Nat) (hn5 : n < 5) (ht : t < 8) (hN : N ≤ 5) (hn : M 0 0 = nI N) : Ex G none mi_MO_planned 0 0 0 (xEn mi_MO_planned [.ref (ad (rp N 0)), .int (nI n), .int (nI (t + 1))]) [] (LR G ad N S M) (xI (fun v w => w = LR G ad N S M ∧ v = rPlan N n t M)) := by
  have hloop0 : ∀ k, k ≤ N → Ex G none mi_MO_planned 0 0 11 [some (.ref (ad (rp N 0))), some (.int (nI n)), some (.int (nI (t + 1))), some (.int ((rPlL n t M k).1)), some (.int ((rPlL n t M k).2.1)), some (.int ((rPlL n t M k).2.2)), some (.int (nI k)), none] [] (LR G ad N S M) (xI (fun v w => w = LR G ad N S M ∧ v = rPlan N n t M)) := by
    refine loop_down N ?_ ?_
    · skip
      refine ex_iload (a := nI N) 13 d_MO_planned_11 rfl rfl ?_
      refine ex_aload_n (a := ad (rp N 0)) 14 d_MO_planned_13 rfl rfl ?_
      refine xr_get 17 d_MO_planned_14 rfl g_MO_71 (by decide) rfl rfl ?_
      refine ex_icmpge 111 20 d_MO_planned_17 rfl rfl (fun _ => ?_) (fun h => absurd (xn_le hn rfl (by omega) (by omega) (by omega)) h)
      refine ex_iload (a := (rPlL n t M N).2.2) 113 d_MO_planned_111 rfl rfl ?_
      refine ex_ifeq 135 116 d_MO_planned_113 rfl rfl (fun h1 => ?_) (fun h1 => ?_)
      · refine ex_iconst (v := 1) 136 d_MO_planned_135 rfl (by decide) ?_
        refine ex_goto 140 d_MO_planned_136 rfl ?_
        refine ex_istore 142 d_MO_planned_140 rfl (Nat.le_of_ble_eq_true rfl) ?_
        refine ex_aload_n (a := ad (rp N 0)) 143 d_MO_planned_142 rfl rfl ?_
        refine ex_iload (a := (rPlL n t M N).2.1) 145 d_MO_planned_143 rfl rfl ?_
        refine xr_callVi [.int ((rPlL n t M N).2.1)] [] 148 d_MO_planned_145 rfl zv_MO_isMany ⟨(Nat.le_of_ble_eq_true rfl), (Nat.le_of_ble_eq_true rfl)⟩ m_MO_118 (by decide) rfl rfl rfl (Nat.le_of_ble_eq_true rfl) rfl (Nat.le_of_ble_eq_true rfl) (c_MO_isMany (S := S) (M := M) ((rPlL n t M N).2.1)) (fun vv ww q2 => ?_)
        rw [q2.1, q2.2]
        by_cases h3 : rMany M ((rPlL n t M N).2.1)
        · refine Ex.int (zb_t h3) ?_
          refine ex_ifne 159 151 d_MO_planned_148 rfl rfl (fun _ => ?_) (fun h => absurd h (by decide))
          refine ex_iload_n (a := (rPlL n t M N).1) 160 d_MO_planned_159 rfl rfl ?_
          refine ex_ifne 168 163 d_MO_planned_160 rfl rfl (fun h4 => ?_) (fun h4 => ?_)
          · refine ex_iload_n (a := (rPlL n t M N).1) 169 d_MO_planned_168 rfl rfl ?_
            refine ex_bipush (v := 64) 171 d_MO_planned_169 rfl (by decide) ?_
            refine ex_irem 172 d_MO_planned_171 rfl (by decide) ?_
            refine ex_iret d_MO_planned_172 rfl ⟨_, rfl, ?_⟩
            refine ⟨rfl, ?_⟩
            unfold rPlan
            rw [if_neg (fun z => z.1 h3), if_neg h4]
          · refine ex_bipush (v := (-3)) 165 d_MO_planned_163 rfl (by decide) ?_
            refine ex_goto 172 d_MO_planned_165 rfl ?_
            refine ex_iret d_MO_planned_172 rfl ⟨_, rfl, ?_⟩
            refine ⟨rfl, ?_⟩
            unfold rPlan
            rw [if_neg (fun z => z.1 h3), if_pos h4]
        · refine Ex.int (zb_f h3) ?_
          refine ex_ifne 159 151 d_MO_planned_148 rfl rfl (fun h => absurd (by decide) h) (fun _ => ?_)
          refine ex_iload (a := 1) 153 d_MO_planned_151 rfl rfl ?_
          refine ex_ifne 159 156 d_MO_planned_153 rfl rfl (fun _ => ?_) (fun h => absurd h (by decide))
          refine ex_iload_n (a := (rPlL n t M N).1) 160 d_MO_planned_159 rfl rfl ?_
          refine ex_ifne 168 163 d_MO_planned_160 rfl rfl (fun h5 => ?_) (fun h5 => ?_)
          · refine ex_iload_n (a := (rPlL n t M N).1) 169 d_MO_planned_168 rfl rfl ?_
            refine ex_bipush (v := 64) 171 d_MO_planned_169 rfl (by decide) ?_
            refine ex_irem 172 d_MO_planned_171 rfl (by decide) ?_
            refine ex_iret d_MO_planned_172 rfl ⟨_, rfl, ?_⟩
            refine ⟨rfl, ?_⟩
            unfold rPlan
            rw [if_neg (fun z => z.2 (Or.inl h1)), if_neg h5]
          · refine ex_bipush (v := (-3)) 165 d_MO_planned_163 rfl (by decide) ?_
            refine ex_goto 172 d_MO_planned_165 rfl ?_
            refine ex_iret d_MO_planned_172 rfl ⟨_, rfl, ?_⟩
            refine ⟨rfl, ?_⟩
            unfold rPlan
            rw [if_neg (fun z => z.2 (Or.inl h1)), if_pos h5]
      · refine ex_iload (a := (rPlL n t M N).2.2) 118 d_MO_planned_116 rfl rfl ?_
        refine ex_ldc (v := (-1000000)) 120 d_MO_planned_118 rfl c_MO_100 ?_
        refine ex_icmpeq 139 123 d_MO_planned_120 rfl rfl (fun h6 => ?_) (fun h6 => ?_)
        · refine ex_iconst (v := 0) 140 d_MO_planned_139 rfl (by decide) ?_
          refine ex_istore 142 d_MO_planned_140 rfl (Nat.le_of_ble_eq_true rfl) ?_
          refine ex_aload_n (a := ad (rp N 0)) 143 d_MO_planned_142 rfl rfl ?_
          refine ex_iload (a := (rPlL n t M N).2.1) 145 d_MO_planned_143 rfl rfl ?_
          refine xr_callVi [.int ((rPlL n t M N).2.1)] [] 148 d_MO_planned_145 rfl zv_MO_isMany ⟨(Nat.le_of_ble_eq_true rfl), (Nat.le_of_ble_eq_true rfl)⟩ m_MO_118 (by decide) rfl rfl rfl (Nat.le_of_ble_eq_true rfl) rfl (Nat.le_of_ble_eq_true rfl) (c_MO_isMany (S := S) (M := M) ((rPlL n t M N).2.1)) (fun vv ww q7 => ?_)
          rw [q7.1, q7.2]
          by_cases h8 : rMany M ((rPlL n t M N).2.1)
          · refine Ex.int (zb_t h8) ?_
            refine ex_ifne 159 151 d_MO_planned_148 rfl rfl (fun _ => ?_) (fun h => absurd h (by decide))
            refine ex_iload_n (a := (rPlL n t M N).1) 160 d_MO_planned_159 rfl rfl ?_
            refine ex_ifne 168 163 d_MO_planned_160 rfl rfl (fun h9 => ?_) (fun h9 => ?_)
            · refine ex_iload_n (a := (rPlL n t M N).1) 169 d_MO_planned_168 rfl rfl ?_
              refine ex_bipush (v := 64) 171 d_MO_planned_169 rfl (by decide) ?_
              refine ex_irem 172 d_MO_planned_171 rfl (by decide) ?_
              refine ex_iret d_MO_planned_172 rfl ⟨_, rfl, ?_⟩
              refine ⟨rfl, ?_⟩
              unfold rPlan
              rw [if_neg (fun z => z.1 h8), if_neg h9]
            · refine ex_bipush (v := (-3)) 165 d_MO_planned_163 rfl (by decide) ?_
              refine ex_goto 172 d_MO_planned_165 rfl ?_
              refine ex_iret d_MO_planned_172 rfl ⟨_, rfl, ?_⟩
              refine ⟨rfl, ?_⟩
              unfold rPlan
              rw [if_neg (fun z => z.1 h8), if_pos h9]
          · refine Ex.int (zb_f h8) ?_
            refine ex_ifne 159 151 d_MO_planned_148 rfl rfl (fun h => absurd (by decide) h) (fun _ => ?_)
            refine ex_iload (a := 0) 153 d_MO_planned_151 rfl rfl ?_
            refine ex_ifne 159 156 d_MO_planned_153 rfl rfl (fun h => absurd (by decide) h) (fun _ => ?_)
            refine ex_bipush (v := (-2)) 158 d_MO_planned_156 rfl (by decide) ?_
            refine ex_iret d_MO_planned_158 rfl ⟨_, rfl, ?_⟩
            refine ⟨rfl, ?_⟩
            unfold rPlan
            rw [if_pos ⟨h8, (fun z => z.elim h1 (fun y => y.1 h6))⟩]
        · refine ex_bipush (v := (-2)) 125 d_MO_planned_123 rfl (by decide) ?_
          refine ex_iload (a := (rPlL n t M N).2.2) 127 d_MO_planned_125 rfl rfl ?_
          refine ex_isub 128 d_MO_planned_127 rfl ?_
          refine ex_iload_n (a := (rPlL n t M N).1) 129 d_MO_planned_128 rfl rfl ?_
          refine ex_bipush (v := 64) 131 d_MO_planned_129 rfl (by decide) ?_
          refine ex_idiv 132 d_MO_planned_131 rfl (by decide) ?_
          refine ex_icmpgt 139 135 d_MO_planned_132 rfl rfl (fun h10 => ?_) (fun h10 => ?_)
          · refine ex_iconst (v := 0) 140 d_MO_planned_139 rfl (by decide) ?_
            refine ex_istore 142 d_MO_planned_140 rfl (Nat.le_of_ble_eq_true rfl) ?_
            refine ex_aload_n (a := ad (rp N 0)) 143 d_MO_planned_142 rfl rfl ?_
            refine ex_iload (a := (rPlL n t M N).2.1) 145 d_MO_planned_143 rfl rfl ?_
            refine xr_callVi [.int ((rPlL n t M N).2.1)] [] 148 d_MO_planned_145 rfl zv_MO_isMany ⟨(Nat.le_of_ble_eq_true rfl), (Nat.le_of_ble_eq_true rfl)⟩ m_MO_118 (by decide) rfl rfl rfl (Nat.le_of_ble_eq_true rfl) rfl (Nat.le_of_ble_eq_true rfl) (c_MO_isMany (S := S) (M := M) ((rPlL n t M N).2.1)) (fun vv ww q11 => ?_)
            rw [q11.1, q11.2]
            by_cases h12 : rMany M ((rPlL n t M N).2.1)
            · refine Ex.int (zb_t h12) ?_
              refine ex_ifne 159 151 d_MO_planned_148 rfl rfl (fun _ => ?_) (fun h => absurd h (by decide))
              refine ex_iload_n (a := (rPlL n t M N).1) 160 d_MO_planned_159 rfl rfl ?_
              refine ex_ifne 168 163 d_MO_planned_160 rfl rfl (fun h13 => ?_) (fun h13 => ?_)
              · refine ex_iload_n (a := (rPlL n t M N).1) 169 d_MO_planned_168 rfl rfl ?_
                refine ex_bipush (v := 64) 171 d_MO_planned_169 rfl (by decide) ?_
                refine ex_irem 172 d_MO_planned_171 rfl (by decide) ?_
                refine ex_iret d_MO_planned_172 rfl ⟨_, rfl, ?_⟩
                refine ⟨rfl, ?_⟩
                unfold rPlan
                rw [if_neg (fun z => z.1 h12), if_neg h13]
              · refine ex_bipush (v := (-3)) 165 d_MO_planned_163 rfl (by decide) ?_
                refine ex_goto 172 d_MO_planned_165 rfl ?_
                refine ex_iret d_MO_planned_172 rfl ⟨_, rfl, ?_⟩
                refine ⟨rfl, ?_⟩
                unfold rPlan
                rw [if_neg (fun z => z.1 h12), if_pos h13]
            · refine Ex.int (zb_f h12) ?_
              refine ex_ifne 159 151 d_MO_planned_148 rfl rfl (fun h => absurd (by decide) h) (fun _ => ?_)
              refine ex_iload (a := 0) 153 d_MO_planned_151 rfl rfl ?_
              refine ex_ifne 159 156 d_MO_planned_153 rfl rfl (fun h => absurd (by decide) h) (fun _ => ?_)
              refine ex_bipush (v := (-2)) 158 d_MO_planned_156 rfl (by decide) ?_
              refine ex_iret d_MO_planned_158 rfl ⟨_, rfl, ?_⟩
              refine ⟨rfl, ?_⟩
              unfold rPlan
              rw [if_pos ⟨h12, (fun z => z.elim h1 (fun y => absurd y.2 (Int32.not_le.mpr h10)))⟩]
          · refine ex_iconst (v := 1) 136 d_MO_planned_135 rfl (by decide) ?_
            refine ex_goto 140 d_MO_planned_136 rfl ?_
            refine ex_istore 142 d_MO_planned_140 rfl (Nat.le_of_ble_eq_true rfl) ?_
            refine ex_aload_n (a := ad (rp N 0)) 143 d_MO_planned_142 rfl rfl ?_
            refine ex_iload (a := (rPlL n t M N).2.1) 145 d_MO_planned_143 rfl rfl ?_
            refine xr_callVi [.int ((rPlL n t M N).2.1)] [] 148 d_MO_planned_145 rfl zv_MO_isMany ⟨(Nat.le_of_ble_eq_true rfl), (Nat.le_of_ble_eq_true rfl)⟩ m_MO_118 (by decide) rfl rfl rfl (Nat.le_of_ble_eq_true rfl) rfl (Nat.le_of_ble_eq_true rfl) (c_MO_isMany (S := S) (M := M) ((rPlL n t M N).2.1)) (fun vv ww q14 => ?_)
            rw [q14.1, q14.2]
            by_cases h15 : rMany M ((rPlL n t M N).2.1)
            · refine Ex.int (zb_t h15) ?_
              refine ex_ifne 159 151 d_MO_planned_148 rfl rfl (fun _ => ?_) (fun h => absurd h (by decide))
              refine ex_iload_n (a := (rPlL n t M N).1) 160 d_MO_planned_159 rfl rfl ?_
              refine ex_ifne 168 163 d_MO_planned_160 rfl rfl (fun h16 => ?_) (fun h16 => ?_)
              · refine ex_iload_n (a := (rPlL n t M N).1) 169 d_MO_planned_168 rfl rfl ?_
                refine ex_bipush (v := 64) 171 d_MO_planned_169 rfl (by decide) ?_
                refine ex_irem 172 d_MO_planned_171 rfl (by decide) ?_
                refine ex_iret d_MO_planned_172 rfl ⟨_, rfl, ?_⟩
                refine ⟨rfl, ?_⟩
                unfold rPlan
                rw [if_neg (fun z => z.1 h15), if_neg h16]
              · refine ex_bipush (v := (-3)) 165 d_MO_planned_163 rfl (by decide) ?_
                refine ex_goto 172 d_MO_planned_165 rfl ?_
                refine ex_iret d_MO_planned_172 rfl ⟨_, rfl, ?_⟩
                refine ⟨rfl, ?_⟩
                unfold rPlan
                rw [if_neg (fun z => z.1 h15), if_pos h16]
            · refine Ex.int (zb_f h15) ?_
              refine ex_ifne 159 151 d_MO_planned_148 rfl rfl (fun h => absurd (by decide) h) (fun _ => ?_)
              refine ex_iload (a := 1) 153 d_MO_planned_151 rfl rfl ?_
              refine ex_ifne 159 156 d_MO_planned_153 rfl rfl (fun _ => ?_) (fun h => absurd h (by decide))
              refine ex_iload_n (a := (rPlL n t M N).1) 160 d_MO_planned_159 rfl rfl ?_
              refine ex_ifne 168 163 d_MO_planned_160 rfl rfl (fun h17 => ?_) (fun h17 => ?_)
              · refine ex_iload_n (a := (rPlL n t M N).1) 169 d_MO_planned_168 rfl rfl ?_
                refine ex_bipush (v := 64) 171 d_MO_planned_169 rfl (by decide) ?_
                refine ex_irem 172 d_MO_planned_171 rfl (by decide) ?_
                refine ex_iret d_MO_planned_172 rfl ⟨_, rfl, ?_⟩
                refine ⟨rfl, ?_⟩
                unfold rPlan
                rw [if_neg (fun z => z.2 (Or.inr ⟨h6, Int32.not_lt.mp h10⟩)), if_neg h17]
              · refine ex_bipush (v := (-3)) 165 d_MO_planned_163 rfl (by decide) ?_
                refine ex_goto 172 d_MO_planned_165 rfl ?_
                refine ex_iret d_MO_planned_172 rfl ⟨_, rfl, ?_⟩
                refine ⟨rfl, ?_⟩
                unfold rPlan
                rw [if_neg (fun z => z.2 (Or.inr ⟨h6, Int32.not_lt.mp h10⟩)), if_pos h17]
    · intro k hk ih
      refine ex_iload (a := nI k) 13 d_MO_planned_11 rfl rfl ?_
      refine ex_aload_n (a := ad (rp N 0)) 14 d_MO_planned_13 rfl rfl ?_
      refine xr_get 17 d_MO_planned_14 rfl g_MO_71 (by decide) rfl rfl ?_
      refine ex_icmpge 111 20 d_MO_planned_17 rfl rfl (fun h => absurd h (xn_nle hn rfl (by omega) (by omega) (by omega))) (fun _ => ?_)
      refine ex_aload_n (a := ad (rp N 0)) 21 d_MO_planned_20 rfl rfl ?_
      refine xr_getR 24 d_MO_planned_21 rfl g_MO_41 (by decide) rfl rfl ?_
      refine ex_iload_n (a := nI n) 25 d_MO_planned_24 rfl rfl ?_
      refine xr_iald 26 d_MO_planned_25 rfl (by decide) rfl rfl (by omega) (by omega) ?_
      refine ex_iload (a := nI k) 28 d_MO_planned_26 rfl rfl ?_
      refine ex_ishr 29 d_MO_planned_28 rfl ?_
      refine ex_iconst (v := 1) 30 d_MO_planned_29 rfl (by decide) ?_
      refine ex_iand 31 d_MO_planned_30 rfl ?_
      refine ex_ifne 37 34 d_MO_planned_31 rfl rfl (fun h18 => ?_) (fun h18 => ?_)
      · refine ex_aload_n (a := ad (rp N 0)) 38 d_MO_planned_37 rfl rfl ?_
        refine xr_getR 41 d_MO_planned_38 rfl g_MO_59 (by decide) rfl rfl ?_
        refine ex_bipush (v := 40) 43 d_MO_planned_41 rfl (by decide) ?_
        refine ex_iload_n (a := nI n) 44 d_MO_planned_43 rfl rfl ?_
        refine ex_imulN (40 * n) 45 d_MO_planned_44 rfl (xn_lit 40) rfl (by omega) ?_
        refine ex_bipush (v := 8) 47 d_MO_planned_45 rfl (by decide) ?_
        refine ex_iload (a := nI k) 49 d_MO_planned_47 rfl rfl ?_
        refine ex_imulN (8 * k) 50 d_MO_planned_49 rfl (xn_lit 8) rfl (by omega) ?_
        refine ex_iaddN (8 * k + 40 * n) 51 d_MO_planned_50 rfl rfl rfl (by omega) ?_
        refine ex_iload_n (a := nI (t + 1)) 52 d_MO_planned_51 rfl rfl ?_
        refine ex_iaddN (8 * k + 40 * n + t + 1) 53 d_MO_planned_52 rfl rfl rfl (by omega) ?_
        refine ex_iconst (v := 1) 54 d_MO_planned_53 rfl (by decide) ?_
        refine ex_isubN (8 * k + 40 * n + t) 55 d_MO_planned_54 rfl rfl (xn_lit 1) (by omega) ?_
        refine xr_iald 56 d_MO_planned_55 rfl (by decide) rfl rfl (by omega) (by omega) ?_
        refine ex_istore 58 d_MO_planned_56 rfl (Nat.le_of_ble_eq_true rfl) ?_
        refine ex_iload (a := (rPlL n t M k).2.1) 60 d_MO_planned_58 rfl rfl ?_
        refine ex_iload (a := M 17 (8 * k + 40 * n + t)) 62 d_MO_planned_60 rfl rfl ?_
        refine ex_iflt 72 65 d_MO_planned_62 rfl rfl (fun h19 => ?_) (fun h19 => ?_)
        · refine ex_iconst (v := 0) 73 d_MO_planned_72 rfl (by decide) ?_
          refine ex_ior 74 d_MO_planned_73 rfl ?_
          refine ex_istore 76 d_MO_planned_74 rfl (Nat.le_of_ble_eq_true rfl) ?_
          refine ex_iload (a := M 17 (8 * k + 40 * n + t)) 78 d_MO_planned_76 rfl rfl ?_
          refine ex_iload_n (a := (rPlL n t M k).1) 79 d_MO_planned_78 rfl rfl ?_
          refine ex_icmple 87 82 d_MO_planned_79 rfl rfl (fun h20 => ?_) (fun h20 => ?_)
          · refine ex_iload_n (a := (rPlL n t M k).1) 88 d_MO_planned_87 rfl rfl ?_
            refine ex_istore_n 89 d_MO_planned_88 rfl (Nat.le_of_ble_eq_true rfl) ?_
            refine ex_iload (a := M 17 (8 * k + 40 * n + t)) 91 d_MO_planned_89 rfl rfl ?_
            refine ex_iload (a := (rPlL n t M k).2.2) 93 d_MO_planned_91 rfl rfl ?_
            refine ex_icmpge 101 96 d_MO_planned_93 rfl rfl (fun h21 => ?_) (fun h21 => ?_)
            · refine ex_iload (a := (rPlL n t M k).2.2) 103 d_MO_planned_101 rfl rfl ?_
              refine ex_istore 105 d_MO_planned_103 rfl (Nat.le_of_ble_eq_true rfl) ?_
              refine ex_iinc (a := nI k) (v := nI (k + 1)) 108 d_MO_planned_105 rfl rfl (xn_inc rfl) ?_
              refine ex_goto 11 d_MO_planned_108 rfl ?_
              have e9 : rPlL n t M (k + 1) = ((rPlL n t M k).1, ((rPlL n t M k).2.1 ||| 0), (rPlL n t M k).2.2) := by
                show rPlS _ _ _ _ = _
                unfold rPlS
                rw [if_neg h18, if_pos h20, if_pos h19, if_pos h21]
              rw [e9] at ih
              exact Ex.wk ih (by repeat (first | exact xs_nil | refine xs_s ?_ | refine xs_n ?_))
            · refine ex_iload (a := M 17 (8 * k + 40 * n + t)) 98 d_MO_planned_96 rfl rfl ?_
              refine ex_goto 103 d_MO_planned_98 rfl ?_
              refine ex_istore 105 d_MO_planned_103 rfl (Nat.le_of_ble_eq_true rfl) ?_
              refine ex_iinc (a := nI k) (v := nI (k + 1)) 108 d_MO_planned_105 rfl rfl (xn_inc rfl) ?_
              refine ex_goto 11 d_MO_planned_108 rfl ?_
              have e9 : rPlL n t M (k + 1) = ((rPlL n t M k).1, ((rPlL n t M k).2.1 ||| 0), M 17 (8 * k + 40 * n + t)) := by
                show rPlS _ _ _ _ = _
                unfold rPlS
                rw [if_neg h18, if_pos h20, if_pos h19, if_neg h21]
              rw [e9] at ih
              exact Ex.wk ih (by repeat (first | exact xs_nil | refine xs_s ?_ | refine xs_n ?_))
          · refine ex_iload (a := M 17 (8 * k + 40 * n + t)) 84 d_MO_planned_82 rfl rfl ?_
            refine ex_goto 88 d_MO_planned_84 rfl ?_
            refine ex_istore_n 89 d_MO_planned_88 rfl (Nat.le_of_ble_eq_true rfl) ?_
            refine ex_iload (a := M 17 (8 * k + 40 * n + t)) 91 d_MO_planned_89 rfl rfl ?_
            refine ex_iload (a := (rPlL n t M k).2.2) 93 d_MO_planned_91 rfl rfl ?_
            refine ex_icmpge 101 96 d_MO_planned_93 rfl rfl (fun h22 => ?_) (fun h22 => ?_)
            · refine ex_iload (a := (rPlL n t M k).2.2) 103 d_MO_planned_101 rfl rfl ?_
              refine ex_istore 105 d_MO_planned_103 rfl (Nat.le_of_ble_eq_true rfl) ?_
              refine ex_iinc (a := nI k) (v := nI (k + 1)) 108 d_MO_planned_105 rfl rfl (xn_inc rfl) ?_
              refine ex_goto 11 d_MO_planned_108 rfl ?_
              have e9 : rPlL n t M (k + 1) = (M 17 (8 * k + 40 * n + t), ((rPlL n t M k).2.1 ||| 0), (rPlL n t M k).2.2) := by
                show rPlS _ _ _ _ = _
                unfold rPlS
                rw [if_neg h18, if_neg h20, if_pos h19, if_pos h22]
              rw [e9] at ih
              exact Ex.wk ih (by repeat (first | exact xs_nil | refine xs_s ?_ | refine xs_n ?_))
            · refine ex_iload (a := M 17 (8 * k + 40 * n + t)) 98 d_MO_planned_96 rfl rfl ?_
              refine ex_goto 103 d_MO_planned_98 rfl ?_
              refine ex_istore 105 d_MO_planned_103 rfl (Nat.le_of_ble_eq_true rfl) ?_
              refine ex_iinc (a := nI k) (v := nI (k + 1)) 108 d_MO_planned_105 rfl rfl (xn_inc rfl) ?_
              refine ex_goto 11 d_MO_planned_108 rfl ?_
              have e9 : rPlL n t M (k + 1) = (M 17 (8 * k + 40 * n + t), ((rPlL n t M k).2.1 ||| 0), M 17 (8 * k + 40 * n + t)) := by
                show rPlS _ _ _ _ = _
                unfold rPlS
                rw [if_neg h18, if_neg h20, if_pos h19, if_neg h22]
              rw [e9] at ih
              exact Ex.wk ih (by repeat (first | exact xs_nil | refine xs_s ?_ | refine xs_n ?_))
        · refine ex_iconst (v := 1) 66 d_MO_planned_65 rfl (by decide) ?_
          refine ex_iload (a := nI k) 68 d_MO_planned_66 rfl rfl ?_
          refine ex_ishl 69 d_MO_planned_68 rfl ?_
          refine ex_goto 73 d_MO_planned_69 rfl ?_
          refine ex_ior 74 d_MO_planned_73 rfl ?_
          refine ex_istore 76 d_MO_planned_74 rfl (Nat.le_of_ble_eq_true rfl) ?_
          refine ex_iload (a := M 17 (8 * k + 40 * n + t)) 78 d_MO_planned_76 rfl rfl ?_
          refine ex_iload_n (a := (rPlL n t M k).1) 79 d_MO_planned_78 rfl rfl ?_
          refine ex_icmple 87 82 d_MO_planned_79 rfl rfl (fun h23 => ?_) (fun h23 => ?_)
          · refine ex_iload_n (a := (rPlL n t M k).1) 88 d_MO_planned_87 rfl rfl ?_
            refine ex_istore_n 89 d_MO_planned_88 rfl (Nat.le_of_ble_eq_true rfl) ?_
            refine ex_iload (a := M 17 (8 * k + 40 * n + t)) 91 d_MO_planned_89 rfl rfl ?_
            refine ex_iload (a := (rPlL n t M k).2.2) 93 d_MO_planned_91 rfl rfl ?_
            refine ex_icmpge 101 96 d_MO_planned_93 rfl rfl (fun h24 => ?_) (fun h24 => ?_)
            · refine ex_iload (a := (rPlL n t M k).2.2) 103 d_MO_planned_101 rfl rfl ?_
              refine ex_istore 105 d_MO_planned_103 rfl (Nat.le_of_ble_eq_true rfl) ?_
              refine ex_iinc (a := nI k) (v := nI (k + 1)) 108 d_MO_planned_105 rfl rfl (xn_inc rfl) ?_
              refine ex_goto 11 d_MO_planned_108 rfl ?_
              have e9 : rPlL n t M (k + 1) = ((rPlL n t M k).1, ((rPlL n t M k).2.1 ||| (1 <<< (nI k &&& 31))), (rPlL n t M k).2.2) := by
                show rPlS _ _ _ _ = _
                unfold rPlS
                rw [if_neg h18, if_pos h23, if_neg h19, if_pos h24]
              rw [e9] at ih
              exact Ex.wk ih (by repeat (first | exact xs_nil | refine xs_s ?_ | refine xs_n ?_))
            · refine ex_iload (a := M 17 (8 * k + 40 * n + t)) 98 d_MO_planned_96 rfl rfl ?_
              refine ex_goto 103 d_MO_planned_98 rfl ?_
              refine ex_istore 105 d_MO_planned_103 rfl (Nat.le_of_ble_eq_true rfl) ?_
              refine ex_iinc (a := nI k) (v := nI (k + 1)) 108 d_MO_planned_105 rfl rfl (xn_inc rfl) ?_
              refine ex_goto 11 d_MO_planned_108 rfl ?_
              have e9 : rPlL n t M (k + 1) = ((rPlL n t M k).1, ((rPlL n t M k).2.1 ||| (1 <<< (nI k &&& 31))), M 17 (8 * k + 40 * n + t)) := by
                show rPlS _ _ _ _ = _
                unfold rPlS
                rw [if_neg h18, if_pos h23, if_neg h19, if_neg h24]
              rw [e9] at ih
              exact Ex.wk ih (by repeat (first | exact xs_nil | refine xs_s ?_ | refine xs_n ?_))
          · refine ex_iload (a := M 17 (8 * k + 40 * n + t)) 84 d_MO_planned_82 rfl rfl ?_
            refine ex_goto 88 d_MO_planned_84 rfl ?_
            refine ex_istore_n 89 d_MO_planned_88 rfl (Nat.le_of_ble_eq_true rfl) ?_
            refine ex_iload (a := M 17 (8 * k + 40 * n + t)) 91 d_MO_planned_89 rfl rfl ?_
            refine ex_iload (a := (rPlL n t M k).2.2) 93 d_MO_planned_91 rfl rfl ?_
            refine ex_icmpge 101 96 d_MO_planned_93 rfl rfl (fun h25 => ?_) (fun h25 => ?_)
            · refine ex_iload (a := (rPlL n t M k).2.2) 103 d_MO_planned_101 rfl rfl ?_
              refine ex_istore 105 d_MO_planned_103 rfl (Nat.le_of_ble_eq_true rfl) ?_
              refine ex_iinc (a := nI k) (v := nI (k + 1)) 108 d_MO_planned_105 rfl rfl (xn_inc rfl) ?_
              refine ex_goto 11 d_MO_planned_108 rfl ?_
              have e9 : rPlL n t M (k + 1) = (M 17 (8 * k + 40 * n + t), ((rPlL n t M k).2.1 ||| (1 <<< (nI k &&& 31))), (rPlL n t M k).2.2) := by
                show rPlS _ _ _ _ = _
                unfold rPlS
                rw [if_neg h18, if_neg h23, if_neg h19, if_pos h25]
              rw [e9] at ih
              exact Ex.wk ih (by repeat (first | exact xs_nil | refine xs_s ?_ | refine xs_n ?_))
            · refine ex_iload (a := M 17 (8 * k + 40 * n + t)) 98 d_MO_planned_96 rfl rfl ?_
              refine ex_goto 103 d_MO_planned_98 rfl ?_
              refine ex_istore 105 d_MO_planned_103 rfl (Nat.le_of_ble_eq_true rfl) ?_
              refine ex_iinc (a := nI k) (v := nI (k + 1)) 108 d_MO_planned_105 rfl rfl (xn_inc rfl) ?_
              refine ex_goto 11 d_MO_planned_108 rfl ?_
              have e9 : rPlL n t M (k + 1) = (M 17 (8 * k + 40 * n + t), ((rPlL n t M k).2.1 ||| (1 <<< (nI k &&& 31))), M 17 (8 * k + 40 * n + t)) := by
                show rPlS _ _ _ _ = _
                unfold rPlS
                rw [if_neg h18, if_neg h23, if_neg h19, if_neg h25]
              rw [e9] at ih
              exact Ex.wk ih (by repeat (first | exact xs_nil | refine xs_s ?_ | refine xs_n ?_))
      · refine ex_goto 105 d_MO_planned_34 rfl ?_
        refine ex_iinc (a := nI k) (v := nI (k + 1)) 108 d_MO_planned_105 rfl rfl (xn_inc rfl) ?_
        refine ex_goto 11 d_MO_planned_108 rfl ?_
        have e9 : rPlL n t M (k + 1) = ((rPlL n t M k).1, (rPlL n t M k).2.1, (rPlL n t M k).2.2) := by
          show rPlS _ _ _ _ = _
          unfold rPlS
          rw [if_pos h18]
        rw [e9] at ih
        exact Ex.wk ih (by repeat (first | exact xs_nil | refine xs_s ?_ | refine xs_n ?_))
  refine ex_iconst (v := 0) 1 d_MO_planned_0 rfl (by decide) ?_
  refine ex_istore_n 2 d_MO_planned_1 rfl (Nat.le_of_ble_eq_true rfl) ?_
  refine ex_iconst (v := 0) 3 d_MO_planned_2 rfl (by decide) ?_
  refine ex_istore 5 d_MO_planned_3 rfl (Nat.le_of_ble_eq_true rfl) ?_
  refine ex_iconst (v := 0) 6 d_MO_planned_5 rfl (by decide) ?_
  refine ex_istore 8 d_MO_planned_6 rfl (Nat.le_of_ble_eq_true rfl) ?_
  refine ex_iconst (v := 0) 9 d_MO_planned_8 rfl (by decide) ?_
  refine ex_istore 11 d_MO_planned_9 rfl (Nat.le_of_ble_eq_true rfl) ?_
  exact Ex.wk (hloop0 0 (Nat.zero_le _)) (by repeat (first | exact xs_nil | refine xs_s ?_ | refine xs_n ?_))
set_option maxRecDepth 100000 in
set_option maxHeartbeats 4000000 in
theorem c_MO_isUsed (n t : Nat) (hn5 : n < 5) (ht : t < 8) (hN : N ≤ 5) (hn : M 0 0 = nI N) : Ex G none mi_MO_isUsed 0 0 0 (xEn mi_MO_isUsed [.ref (ad (rp N 0)), .int (nI n), .int (nI (t + 1))]) [] (LR G ad N S M) (xI (fun v w => w = LR G ad N S M ∧ v = zb (rUsed N n t M))) := by
  refine ex_aload_n (a := ad (rp N 0)) 1 d_MO_isUsed_0 rfl rfl ?_
  refine ex_iload_n (a := nI n) 2 d_MO_isUsed_1 rfl rfl ?_
  refine ex_iload_n (a := nI (t + 1)) 3 d_MO_isUsed_2 rfl rfl ?_
  refine xr_callVi [.int (nI n), .int (nI (t + 1))] [] 6 d_MO_isUsed_3 rfl zv_MO_planned ⟨(Nat.le_of_ble_eq_true rfl), (Nat.le_of_ble_eq_true rfl)⟩ m_MO_121 (by decide) rfl rfl rfl (Nat.le_of_ble_eq_true rfl) rfl (Nat.le_of_ble_eq_true rfl) (c_MO_planned (S := S) (M := M) n t (by omega) (by omega) hN hn) (fun vv ww q1 => ?_)
  rw [q1.1, q1.2]
  refine ex_bipush (v := (-3)) 8 d_MO_isUsed_6 rfl (by decide) ?_
  refine ex_icmpne 43 11 d_MO_isUsed_8 rfl rfl (fun h2 => ?_) (fun h2 => ?_)
  · refine ex_iconst (v := 1) 44 d_MO_isUsed_43 rfl (by decide) ?_
    refine ex_goto 48 d_MO_isUsed_44 rfl ?_
    refine ex_zret d_MO_isUsed_48 rfl rfl ⟨_, rfl, ?_⟩
    refine ⟨rfl, ?_⟩
    exact (Eq.symm (zb_t (fun z => h2 z.1)))
  · refine ex_aload_n (a := ad (rp N 0)) 12 d_MO_isUsed_11 rfl rfl ?_
    refine xr_getR 15 d_MO_isUsed_12 rfl g_MO_47 (by decide) rfl rfl ?_
    refine ex_bipush (v := 8) 17 d_MO_isUsed_15 rfl (by decide) ?_
    refine ex_iload_n (a := nI n) 18 d_MO_isUsed_17 rfl rfl ?_
    refine ex_imulN (8 * n) 19 d_MO_isUsed_18 rfl (xn_lit 8) rfl (by omega) ?_
    refine ex_iload_n (a := nI (t + 1)) 20 d_MO_isUsed_19 rfl rfl ?_
    refine ex_iaddN (8 * n + t + 1) 21 d_MO_isUsed_20 rfl rfl rfl (by omega) ?_
    refine ex_iconst (v := 1) 22 d_MO_isUsed_21 rfl (by decide) ?_
    refine ex_isubN (8 * n + t) 23 d_MO_isUsed_22 rfl rfl (xn_lit 1) (by omega) ?_
    refine xr_iald 24 d_MO_isUsed_23 rfl (by decide) rfl rfl (by omega) (by omega) ?_
    refine ex_ifgt 43 27 d_MO_isUsed_24 rfl rfl (fun h3 => ?_) (fun h3 => ?_)
    · refine ex_iconst (v := 1) 44 d_MO_isUsed_43 rfl (by decide) ?_
      refine ex_goto 48 d_MO_isUsed_44 rfl ?_
      refine ex_zret d_MO_isUsed_48 rfl rfl ⟨_, rfl, ?_⟩
      refine ⟨rfl, ?_⟩
      exact (Eq.symm (zb_t (fun z => z.2.1 h3)))
    · refine ex_aload_n (a := ad (rp N 0)) 28 d_MO_isUsed_27 rfl rfl ?_
      refine xr_getR 31 d_MO_isUsed_28 rfl g_MO_50 (by decide) rfl rfl ?_
      refine ex_bipush (v := 8) 33 d_MO_isUsed_31 rfl (by decide) ?_
      refine ex_iload_n (a := nI n) 34 d_MO_isUsed_33 rfl rfl ?_
      refine ex_imulN (8 * n) 35 d_MO_isUsed_34 rfl (xn_lit 8) rfl (by omega) ?_
      refine ex_iload_n (a := nI (t + 1)) 36 d_MO_isUsed_35 rfl rfl ?_
      refine ex_iaddN (8 * n + t + 1) 37 d_MO_isUsed_36 rfl rfl rfl (by omega) ?_
      refine ex_iconst (v := 1) 38 d_MO_isUsed_37 rfl (by decide) ?_
      refine ex_isubN (8 * n + t) 39 d_MO_isUsed_38 rfl rfl (xn_lit 1) (by omega) ?_
      refine xr_iald 40 d_MO_isUsed_39 rfl (by decide) rfl rfl (by omega) (by omega) ?_
      refine ex_iflt 47 43 d_MO_isUsed_40 rfl rfl (fun h4 => ?_) (fun h4 => ?_)
      · refine ex_iconst (v := 0) 48 d_MO_isUsed_47 rfl (by decide) ?_
        refine ex_zret d_MO_isUsed_48 rfl rfl ⟨_, rfl, ?_⟩
        refine ⟨rfl, ?_⟩
        exact (Eq.symm (zb_f (fun z => z ⟨h2, h3, h4⟩)))
      · refine ex_iconst (v := 1) 44 d_MO_isUsed_43 rfl (by decide) ?_
        refine ex_goto 48 d_MO_isUsed_44 rfl ?_
        refine ex_zret d_MO_isUsed_48 rfl rfl ⟨_, rfl, ?_⟩
        refine ⟨rfl, ?_⟩
        exact (Eq.symm (zb_t (fun z => h4 z.2.2)))
set_option maxRecDepth 100000 in
set_option maxHeartbeats 4000000 in
theorem c_MO_play (n : Nat) (hn5 : n < 5) (hok : rPok n M) : Ex G none mi_MO_play 0 0 0 (xEn mi_MO_play [.ref (ad (rp N 0)), .int (nI n)]) [] (LR G ad N S M) (xV (fun w => w = LR G ad N S (rPlay n M))) := by
  have hloop : ∀ (m d : Nat) (M : sT), M 0 19 = nI d → rPok n M → d + m = 8 → Ex G none mi_MO_play 0 0 46 [some (.ref (ad (rp N 0))), some (.int (nI n)), none] [] (LR G ad N S M) (xV (fun w => w = LR G ad N S (rPlayL n m d M))) := by
    intro m
    induction m with
    | zero =>
      intro d M hdn hok hdm
      obtain rfl : d = 8 := by omega
      skip
      refine ex_aload_n (a := ad (rp N 0)) 47 d_MO_play_46 rfl rfl ?_
      refine xr_get 50 d_MO_play_47 rfl g_MO_124 (by decide) rfl rfl ?_
      refine ex_bipush (v := 8) 52 d_MO_play_50 rfl (by decide) ?_
      refine ex_icmpge 154 55 d_MO_play_52 rfl rfl (fun _ => ?_) (fun h => absurd (xn_le (xn_lit 8) hdn (by omega) (by omega) (by omega)) h)
      refine ex_vret d_MO_play_154 rfl ⟨rfl, ?_⟩
      exact rfl
    | succ m ih =>
      intro d M hdn hok hdm
      by_cases hneg : M 15 (d + 8 * n) < 0
      · skip
        skip
        refine ex_aload_n (a := ad (rp N 0)) 47 d_MO_play_46 rfl rfl ?_
        refine xr_get 50 d_MO_play_47 rfl g_MO_124 (by decide) rfl rfl ?_
        refine ex_bipush (v := 8) 52 d_MO_play_50 rfl (by decide) ?_
        refine ex_icmpge 154 55 d_MO_play_52 rfl rfl (fun h => absurd h (xn_nle (xn_lit 8) hdn (by omega) (by omega) (by omega))) (fun _ => ?_)
        refine ex_aload_n (a := ad (rp N 0)) 56 d_MO_play_55 rfl rfl ?_
        refine xr_getR 59 d_MO_play_56 rfl g_MO_53 (by decide) rfl rfl ?_
        refine ex_bipush (v := 8) 61 d_MO_play_59 rfl (by decide) ?_
        refine ex_iload_n (a := nI n) 62 d_MO_play_61 rfl rfl ?_
        refine ex_imulN (8 * n) 63 d_MO_play_62 rfl (xn_lit 8) rfl (by omega) ?_
        refine ex_aload_n (a := ad (rp N 0)) 64 d_MO_play_63 rfl rfl ?_
        refine xr_get 67 d_MO_play_64 rfl g_MO_124 (by decide) rfl rfl ?_
        refine ex_iaddN (d + 8 * n) 68 d_MO_play_67 rfl rfl hdn (by omega) ?_
        refine xr_iald 69 d_MO_play_68 rfl (by decide) rfl rfl (by omega) (by omega) ?_
        refine ex_iflt 154 72 d_MO_play_69 rfl rfl (fun _ => ?_) (fun h => absurd hneg h)
        refine ex_vret d_MO_play_154 rfl ⟨rfl, ?_⟩
        exact congrArg (LR G ad N S) (if_pos hneg).symm
      · obtain ⟨q, hq31, hcq, y, hy4, hkq⟩ := (hok d (by omega)).resolve_left hneg
        skip
        refine ex_aload_n (a := ad (rp N 0)) 47 d_MO_play_46 rfl rfl ?_
        refine xr_get 50 d_MO_play_47 rfl g_MO_124 (by decide) rfl rfl ?_
        refine ex_bipush (v := 8) 52 d_MO_play_50 rfl (by decide) ?_
        refine ex_icmpge 154 55 d_MO_play_52 rfl rfl (fun h => absurd h (xn_nle (xn_lit 8) hdn (by omega) (by omega) (by omega))) (fun _ => ?_)
        refine ex_aload_n (a := ad (rp N 0)) 56 d_MO_play_55 rfl rfl ?_
        refine xr_getR 59 d_MO_play_56 rfl g_MO_53 (by decide) rfl rfl ?_
        refine ex_bipush (v := 8) 61 d_MO_play_59 rfl (by decide) ?_
        refine ex_iload_n (a := nI n) 62 d_MO_play_61 rfl rfl ?_
        refine ex_imulN (8 * n) 63 d_MO_play_62 rfl (xn_lit 8) rfl (by omega) ?_
        refine ex_aload_n (a := ad (rp N 0)) 64 d_MO_play_63 rfl rfl ?_
        refine xr_get 67 d_MO_play_64 rfl g_MO_124 (by decide) rfl rfl ?_
        refine ex_iaddN (d + 8 * n) 68 d_MO_play_67 rfl rfl hdn (by omega) ?_
        refine xr_iald 69 d_MO_play_68 rfl (by decide) rfl rfl (by omega) (by omega) ?_
        refine ex_iflt 154 72 d_MO_play_69 rfl rfl (fun h => absurd h (xn_nlt hcq (xn_lit 0) (by omega) (by omega) (by omega))) (fun _ => ?_)
        refine ex_aload_n (a := ad (rp N 0)) 73 d_MO_play_72 rfl rfl ?_
        refine xr_getR 76 d_MO_play_73 rfl g_MO_53 (by decide) rfl rfl ?_
        refine ex_bipush (v := 8) 78 d_MO_play_76 rfl (by decide) ?_
        refine ex_iload_n (a := nI n) 79 d_MO_play_78 rfl rfl ?_
        refine ex_imulN (8 * n) 80 d_MO_play_79 rfl (xn_lit 8) rfl (by omega) ?_
        refine ex_aload_n (a := ad (rp N 0)) 81 d_MO_play_80 rfl rfl ?_
        refine xr_get 84 d_MO_play_81 rfl g_MO_124 (by decide) rfl rfl ?_
        refine ex_iaddN (d + 8 * n) 85 d_MO_play_84 rfl rfl hdn (by omega) ?_
        refine xr_iald 86 d_MO_play_85 rfl (by decide) rfl rfl (by omega) (by omega) ?_
        refine ex_istore_n 87 d_MO_play_86 rfl (Nat.le_of_ble_eq_true rfl) ?_
        refine ex_iload_n (a := M 15 (d + 8 * n)) 88 d_MO_play_87 rfl rfl ?_
        refine ex_ifle 141 91 d_MO_play_88 rfl rfl (fun h1 => ?_) (fun h1 => ?_)
        · refine ex_aload_n (a := ad (rp N 0)) 142 d_MO_play_141 rfl rfl ?_
          refine ex_dup 143 d_MO_play_142 rfl rfl ?_
          refine xr_get 146 d_MO_play_143 rfl g_MO_124 (by decide) rfl rfl ?_
          refine ex_iconst (v := 1) 147 d_MO_play_146 rfl (by decide) ?_
          refine ex_iaddN (d + 1) 148 d_MO_play_147 rfl hdn (xn_lit 1) (by omega) ?_
          refine xr_put 151 d_MO_play_148 rfl p_MO_124 rfl rfl (by decide) rfl rfl ?_
          refine ex_goto 46 d_MO_play_151 rfl ?_
          rw [show rPlayL n (m + 1) d M = rPlayL n m (d + 1) (u2 (rDo (M 15 (d + 8 * n)) M) 0 19 (nI (d + 1))) from if_neg (by rw [hcq]; exact nI_pos (by omega))]
          rw [rDo_eq hcq hkq hq31 hy4]
          have h8 := h1
          rw [hcq] at h8
          rw [if_neg (fun z => absurd z.1 (Int32.not_lt.mpr h8))]
          refine Ex.wk (Ex.toM ?_ (ih (d + 1) _ ?_ ?_ (by omega))) (by repeat (first | exact xs_nil | refine xs_s ?_ | refine xs_n ?_))
          · rfl
          · exact u2_at
          · exact rPok_u2 (by decide) (by decide) hok
        · refine ex_aload_n (a := ad (rp N 0)) 92 d_MO_play_91 rfl rfl ?_
          refine xr_getR 95 d_MO_play_92 rfl g_MO_65 (by decide) rfl rfl ?_
          refine ex_iload_n (a := M 15 (d + 8 * n)) 96 d_MO_play_95 rfl rfl ?_
          refine xr_zald 97 d_MO_play_96 rfl (by decide) rfl hcq (by omega) (by omega) ?_
          refine ex_ifne 141 100 d_MO_play_97 rfl rfl (fun h2 => ?_) (fun h2 => ?_)
          · refine ex_aload_n (a := ad (rp N 0)) 142 d_MO_play_141 rfl rfl ?_
            refine ex_dup 143 d_MO_play_142 rfl rfl ?_
            refine xr_get 146 d_MO_play_143 rfl g_MO_124 (by decide) rfl rfl ?_
            refine ex_iconst (v := 1) 147 d_MO_play_146 rfl (by decide) ?_
            refine ex_iaddN (d + 1) 148 d_MO_play_147 rfl hdn (xn_lit 1) (by omega) ?_
            refine xr_put 151 d_MO_play_148 rfl p_MO_124 rfl rfl (by decide) rfl rfl ?_
            refine ex_goto 46 d_MO_play_151 rfl ?_
            rw [show rPlayL n (m + 1) d M = rPlayL n m (d + 1) (u2 (rDo (M 15 (d + 8 * n)) M) 0 19 (nI (d + 1))) from if_neg (by rw [hcq]; exact nI_pos (by omega))]
            rw [rDo_eq hcq hkq hq31 hy4]
            have h8 := h1
            rw [hcq] at h8
            rw [if_neg (fun z => h2 z.2)]
            refine Ex.wk (Ex.toM ?_ (ih (d + 1) _ ?_ ?_ (by omega))) (by repeat (first | exact xs_nil | refine xs_s ?_ | refine xs_n ?_))
            · rfl
            · exact u2_at
            · exact rPok_u2 (by decide) (by decide) hok
          · refine ex_aload_n (a := ad (rp N 0)) 101 d_MO_play_100 rfl rfl ?_
            refine xr_getR 104 d_MO_play_101 rfl g_MO_65 (by decide) rfl rfl ?_
            refine ex_iload_n (a := M 15 (d + 8 * n)) 105 d_MO_play_104 rfl rfl ?_
            refine ex_iconst (v := 1) 106 d_MO_play_105 rfl (by decide) ?_
            refine xr_zast 107 d_MO_play_106 rfl (by decide) rfl hcq (by omega) (by omega) (by decide) ?_
            refine ex_aload_n (a := ad (rp N 0)) 108 d_MO_play_107 rfl rfl ?_
            refine xr_getR 111 d_MO_play_108 rfl g_MO_68 (by decide) rfl rfl ?_
            refine ex_iload_n (a := M 15 (d + 8 * n)) 112 d_MO_play_111 rfl rfl ?_
            refine ex_aload_n (a := ad (rp N 0)) 113 d_MO_play_112 rfl rfl ?_
            refine xr_getR 116 d_MO_play_113 rfl g_MO_62 (by decide) rfl rfl ?_
            refine ex_aload_n (a := ad (rp N 0)) 117 d_MO_play_116 rfl rfl ?_
            refine xr_getR 120 d_MO_play_117 rfl g_MO_7 (by decide) rfl rfl ?_
            refine ex_iload_n (a := M 15 (d + 8 * n)) 121 d_MO_play_120 rfl rfl ?_
            refine xr_iald 122 d_MO_play_121 rfl (by decide) rfl hcq (by omega) (by omega) ?_
            refine xr_iald 123 d_MO_play_122 rfl (by decide) rfl hkq (by omega) (by omega) ?_
            refine xr_iast 124 d_MO_play_123 rfl (by decide) rfl hcq (by omega) (by omega) ?_
            refine ex_aload_n (a := ad (rp N 0)) 125 d_MO_play_124 rfl rfl ?_
            refine xr_getR 128 d_MO_play_125 rfl g_MO_62 (by decide) rfl rfl ?_
            refine ex_aload_n (a := ad (rp N 0)) 129 d_MO_play_128 rfl rfl ?_
            refine xr_getR 132 d_MO_play_129 rfl g_MO_7 (by decide) rfl rfl ?_
            refine ex_iload_n (a := M 15 (d + 8 * n)) 133 d_MO_play_132 rfl rfl ?_
            refine xr_iald 134 d_MO_play_133 rfl (by decide) rfl hcq (by omega) (by omega) ?_
            refine ex_aload_n (a := ad (rp N 0)) 135 d_MO_play_134 rfl rfl ?_
            refine xr_getR 138 d_MO_play_135 rfl g_MO_13 (by decide) rfl rfl ?_
            refine ex_iload_n (a := M 15 (d + 8 * n)) 139 d_MO_play_138 rfl rfl ?_
            refine xr_iald 140 d_MO_play_139 rfl (by decide) rfl hcq (by omega) (by omega) ?_
            refine xr_iast 141 d_MO_play_140 rfl (by decide) rfl hkq (by omega) (by omega) ?_
            refine ex_aload_n (a := ad (rp N 0)) 142 d_MO_play_141 rfl rfl ?_
            refine ex_dup 143 d_MO_play_142 rfl rfl ?_
            refine xr_get 146 d_MO_play_143 rfl g_MO_124 (by decide) rfl rfl ?_
            refine ex_iconst (v := 1) 147 d_MO_play_146 rfl (by decide) ?_
            refine ex_iaddN (d + 1) 148 d_MO_play_147 rfl hdn (xn_lit 1) (by omega) ?_
            refine xr_put 151 d_MO_play_148 rfl p_MO_124 rfl rfl (by decide) rfl rfl ?_
            refine ex_goto 46 d_MO_play_151 rfl ?_
            rw [show rPlayL n (m + 1) d M = rPlayL n m (d + 1) (u2 (rDo (M 15 (d + 8 * n)) M) 0 19 (nI (d + 1))) from if_neg (by rw [hcq]; exact nI_pos (by omega))]
            rw [rDo_eq hcq hkq hq31 hy4]
            have h8 := h1
            rw [hcq] at h8
            rw [if_pos ⟨Int32.not_le.mp h8, h2⟩]
            refine Ex.wk (Ex.toM ?_ (ih (d + 1) _ ?_ ?_ (by omega))) (by repeat (first | exact xs_nil | refine xs_s ?_ | refine xs_n ?_))
            · rfl
            · exact u2_at
            · exact rPok_do hok
  have hdid : ∀ k, k ≤ 31 → Ex G none mi_MO_play 0 0 22 [some (.ref (ad (rp N 0))), some (.int (nI n)), some (.int (nI k))] [] (LR G ad N S (rDidL (rMapL M 4) k)) (xV (fun w => w = LR G ad N S (rPlay n M))) := by
    refine loop_down 31 ?_ ?_
    · skip
      refine ex_iload_n (a := nI 31) 23 d_MO_play_22 rfl rfl ?_
      refine ex_bipush (v := 31) 25 d_MO_play_23 rfl (by decide) ?_
      refine ex_icmpge 41 28 d_MO_play_25 rfl rfl (fun _ => ?_) (fun h => absurd (xn_le (xn_lit 31) rfl (by omega) (by omega) (by omega)) h)
      refine ex_aload_n (a := ad (rp N 0)) 42 d_MO_play_41 rfl rfl ?_
      refine ex_iconst (v := 0) 43 d_MO_play_42 rfl (by decide) ?_
      refine xr_put 46 d_MO_play_43 rfl p_MO_124 rfl rfl (by decide) rfl rfl ?_
      exact Ex.wk (hloop 8 0 _ u2_at (rPok_u2 (by decide) (by decide) (rPok_did (rPok_map hok 4) 31)) rfl) (by repeat (first | exact xs_nil | refine xs_s ?_ | refine xs_n ?_))
    · intro k hk ih
      refine ex_iload_n (a := nI k) 23 d_MO_play_22 rfl rfl ?_
      refine ex_bipush (v := 31) 25 d_MO_play_23 rfl (by decide) ?_
      refine ex_icmpge 41 28 d_MO_play_25 rfl rfl (fun h => absurd h (xn_nle (xn_lit 31) rfl (by omega) (by omega) (by omega))) (fun _ => ?_)
      refine ex_aload_n (a := ad (rp N 0)) 29 d_MO_play_28 rfl rfl ?_
      refine xr_getR 32 d_MO_play_29 rfl g_MO_65 (by decide) rfl rfl ?_
      refine ex_iload_n (a := nI k) 33 d_MO_play_32 rfl rfl ?_
      refine ex_iconst (v := 0) 34 d_MO_play_33 rfl (by decide) ?_
      refine xr_zast 35 d_MO_play_34 rfl (by decide) rfl rfl (by omega) (by omega) (by decide) ?_
      refine ex_iinc (a := nI k) (v := nI (k + 1)) 38 d_MO_play_35 rfl rfl (xn_inc rfl) ?_
      refine ex_goto 22 d_MO_play_38 rfl ?_
      exact ih
  have hmap : ∀ k, k ≤ 4 → Ex G none mi_MO_play 0 0 2 [some (.ref (ad (rp N 0))), some (.int (nI n)), some (.int (nI k))] [] (LR G ad N S (rMapL M k)) (xV (fun w => w = LR G ad N S (rPlay n M))) := by
    refine loop_down 4 ?_ ?_
    · skip
      refine ex_iload_n (a := nI 4) 3 d_MO_play_2 rfl rfl ?_
      refine ex_iconst (v := 4) 4 d_MO_play_3 rfl (by decide) ?_
      refine ex_icmpge 20 7 d_MO_play_4 rfl rfl (fun _ => ?_) (fun h => absurd (xn_le (xn_lit 4) rfl (by omega) (by omega) (by omega)) h)
      refine ex_iconst (v := 0) 21 d_MO_play_20 rfl (by decide) ?_
      refine ex_istore_n 22 d_MO_play_21 rfl (Nat.le_of_ble_eq_true rfl) ?_
      exact hdid 0 (Nat.zero_le _)
    · intro k hk ih
      refine ex_iload_n (a := nI k) 3 d_MO_play_2 rfl rfl ?_
      refine ex_iconst (v := 4) 4 d_MO_play_3 rfl (by decide) ?_
      refine ex_icmpge 20 7 d_MO_play_4 rfl rfl (fun h => absurd h (xn_nle (xn_lit 4) rfl (by omega) (by omega) (by omega))) (fun _ => ?_)
      refine ex_aload_n (a := ad (rp N 0)) 8 d_MO_play_7 rfl rfl ?_
      refine xr_getR 11 d_MO_play_8 rfl g_MO_62 (by decide) rfl rfl ?_
      refine ex_iload_n (a := nI k) 12 d_MO_play_11 rfl rfl ?_
      refine ex_iconst (v := 0) 13 d_MO_play_12 rfl (by decide) ?_
      refine xr_iast 14 d_MO_play_13 rfl (by decide) rfl rfl (by omega) (by omega) ?_
      refine ex_iinc (a := nI k) (v := nI (k + 1)) 17 d_MO_play_14 rfl rfl (xn_inc rfl) ?_
      refine ex_goto 2 d_MO_play_17 rfl ?_
      exact ih
  refine ex_iconst (v := 0) 1 d_MO_play_0 rfl (by decide) ?_
  refine ex_istore_n 2 d_MO_play_1 rfl (Nat.le_of_ble_eq_true rfl) ?_
  exact hmap 0 (Nat.zero_le _)
set_option maxRecDepth 100000 in
set_option maxHeartbeats 4000000 in
theorem c_MO_crash (n : Nat) (hnN : n < N) (hN : N ≤ 5) (hn : M 0 0 = nI N)  : Ex G none mi_MO_crash 0 0 0 (xEn mi_MO_crash [.ref (ad (rp N 0)), .int (nI n)]) [] (LR G ad N S M) (xI (fun v w => w = LR G ad N S (rCrashS n M) ∧ v = rCrashR n M)) := by
  have hnI : isN N (nI n) := isN_nI hnN hN
  refine ex_aload_n (a := ad (rp N 0)) 1 d_MO_crash_0 rfl rfl ?_
  refine ex_iload_n (a := nI n) 2 d_MO_crash_1 rfl rfl ?_
  refine xr_callVi [.int (nI n)] [] 5 d_MO_crash_2 rfl zv_MO_isNode ⟨(Nat.le_of_ble_eq_true rfl), (Nat.le_of_ble_eq_true rfl)⟩ m_MO_101 (by decide) rfl rfl rfl (Nat.le_of_ble_eq_true rfl) rfl (Nat.le_of_ble_eq_true rfl) (c_MO_isNode (S := S) (M := M) (nI n) hn) (fun vv ww q1 => ?_)
  rw [q1.1, q1.2]
  refine Ex.int (zb_t hnI) ?_
  refine ex_ifeq 17 8 d_MO_crash_5 rfl rfl (fun h => absurd h (by decide)) (fun _ => ?_)
  refine ex_aload_n (a := ad (rp N 0)) 9 d_MO_crash_8 rfl rfl ?_
  refine xr_getR 12 d_MO_crash_9 rfl g_MO_25 (by decide) rfl rfl ?_
  refine ex_iload_n (a := nI n) 13 d_MO_crash_12 rfl rfl ?_
  refine xr_zald 14 d_MO_crash_13 rfl (by decide) rfl rfl (by omega) (by omega) ?_
  refine ex_ifne 19 17 d_MO_crash_14 rfl rfl (fun h2 => ?_) (fun h2 => ?_)
  · refine ex_aload_n (a := ad (rp N 0)) 20 d_MO_crash_19 rfl rfl ?_
    refine ex_iload_n (a := nI n) 21 d_MO_crash_20 rfl rfl ?_
    refine xr_callVv [.int (nI n)] [] 24 d_MO_crash_21 rfl zv_MO_falls ⟨(Nat.le_of_ble_eq_true rfl), (Nat.le_of_ble_eq_true rfl)⟩ m_MO_85 (by decide) rfl rfl rfl (Nat.le_of_ble_eq_true rfl) rfl (Nat.le_of_ble_eq_true rfl) (c_MO_falls (S := S) (M := M) n (by omega)) (fun ww q3 => ?_)
    rw [q3]
    refine ex_iconst (v := 1) 25 d_MO_crash_24 rfl (by decide) ?_
    refine ex_zret d_MO_crash_25 rfl rfl ⟨_, rfl, ?_⟩
    refine ⟨?_, ?_⟩
    · unfold rCrashS; rw [if_neg h2]
    · unfold rCrashR; rw [if_neg h2]
  · refine ex_iconst (v := 0) 18 d_MO_crash_17 rfl (by decide) ?_
    refine ex_zret d_MO_crash_18 rfl rfl ⟨_, rfl, ?_⟩
    refine ⟨?_, ?_⟩
    · unfold rCrashS; rw [if_pos h2]
    · unfold rCrashR; rw [if_pos h2]
set_option maxRecDepth 100000 in
set_option maxHeartbeats 4000000 in
theorem c_MO_arm (n : Nat) (hnN : n < N) (hN : N ≤ 5) (hn : M 0 0 = nI N) (k : Int32) : Ex G none mi_MO_arm 0 0 0 (xEn mi_MO_arm [.ref (ad (rp N 0)), .int (nI n), .int k]) [] (LR G ad N S M) (xI (fun v w => w = LR G ad N S (rArmS n k M) ∧ v = rArmR n k M)) := by
  have hnI : isN N (nI n) := isN_nI hnN hN
  refine ex_aload_n (a := ad (rp N 0)) 1 d_MO_arm_0 rfl rfl ?_
  refine ex_iload_n (a := nI n) 2 d_MO_arm_1 rfl rfl ?_
  refine xr_callVi [.int (nI n)] [] 5 d_MO_arm_2 rfl zv_MO_isNode ⟨(Nat.le_of_ble_eq_true rfl), (Nat.le_of_ble_eq_true rfl)⟩ m_MO_101 (by decide) rfl rfl rfl (Nat.le_of_ble_eq_true rfl) rfl (Nat.le_of_ble_eq_true rfl) (c_MO_isNode (S := S) (M := M) (nI n) hn) (fun vv ww q1 => ?_)
  rw [q1.1, q1.2]
  refine Ex.int (zb_t hnI) ?_
  refine ex_ifeq 27 8 d_MO_arm_5 rfl rfl (fun h => absurd h (by decide)) (fun _ => ?_)
  refine ex_aload_n (a := ad (rp N 0)) 9 d_MO_arm_8 rfl rfl ?_
  refine xr_getR 12 d_MO_arm_9 rfl g_MO_25 (by decide) rfl rfl ?_
  refine ex_iload_n (a := nI n) 13 d_MO_arm_12 rfl rfl ?_
  refine xr_zald 14 d_MO_arm_13 rfl (by decide) rfl rfl (by omega) (by omega) ?_
  refine ex_ifeq 27 17 d_MO_arm_14 rfl rfl (fun h2 => ?_) (fun h2 => ?_)
  · refine ex_iconst (v := 0) 28 d_MO_arm_27 rfl (by decide) ?_
    refine ex_zret d_MO_arm_28 rfl rfl ⟨_, rfl, ?_⟩
    refine ⟨?_, ?_⟩
    · unfold rArmS; rw [if_pos h2]
    · unfold rArmR; rw [if_pos h2]
  · refine ex_iload_n (a := k) 18 d_MO_arm_17 rfl rfl ?_
    refine ex_iflt 27 21 d_MO_arm_18 rfl rfl (fun h3 => ?_) (fun h3 => ?_)
    · refine ex_iconst (v := 0) 28 d_MO_arm_27 rfl (by decide) ?_
      refine ex_zret d_MO_arm_28 rfl rfl ⟨_, rfl, ?_⟩
      refine ⟨?_, ?_⟩
      · unfold rArmS; rw [if_neg h2, if_pos h3]
      · unfold rArmR; rw [if_neg h2, if_pos h3]
    · refine ex_iload_n (a := k) 22 d_MO_arm_21 rfl rfl ?_
      refine ex_bipush (v := 40) 24 d_MO_arm_22 rfl (by decide) ?_
      refine ex_icmple 29 27 d_MO_arm_24 rfl rfl (fun h4 => ?_) (fun h4 => ?_)
      · refine ex_aload_n (a := ad (rp N 0)) 30 d_MO_arm_29 rfl rfl ?_
        refine xr_getR 33 d_MO_arm_30 rfl g_MO_32 (by decide) rfl rfl ?_
        refine ex_iload_n (a := nI n) 34 d_MO_arm_33 rfl rfl ?_
        refine ex_iload_n (a := k) 35 d_MO_arm_34 rfl rfl ?_
        refine xr_iast 36 d_MO_arm_35 rfl (by decide) rfl rfl (by omega) (by omega) ?_
        refine ex_iconst (v := 1) 37 d_MO_arm_36 rfl (by decide) ?_
        refine ex_zret d_MO_arm_37 rfl rfl ⟨_, rfl, ?_⟩
        refine ⟨?_, ?_⟩
        · unfold rArmS; rw [if_neg h2, if_neg h3, if_pos h4]
        · unfold rArmR; rw [if_neg h2, if_neg h3, if_pos h4]
      · refine ex_iconst (v := 0) 28 d_MO_arm_27 rfl (by decide) ?_
        refine ex_zret d_MO_arm_28 rfl rfl ⟨_, rfl, ?_⟩
        refine ⟨?_, ?_⟩
        · unfold rArmS; rw [if_neg h2, if_neg h3, if_neg h4]
        · unfold rArmR; rw [if_neg h2, if_neg h3, if_neg h4]
set_option maxRecDepth 100000 in
set_option maxHeartbeats 4000000 in
theorem c_MO_slot (n : Nat) (hnN : n < N) (hN : N ≤ 5) (hn : M 0 0 = nI N) (t : Nat) (ht : t < 8) : Ex G none mi_MO_slot 0 0 0 (xEn mi_MO_slot [.ref (ad (rp N 0)), .int (nI n), .int (nI (t + 1))]) [] (LR G ad N S M) (xI (fun v w => w = LR G ad N S M ∧ v = rSlotR n t M)) := by
  have hnI : isN N (nI n) := isN_nI hnN hN; have hsS : isSl (nI (t + 1)) := isSl_nI (by omega) (by omega)
  refine ex_aload_n (a := ad (rp N 0)) 1 d_MO_slot_0 rfl rfl ?_
  refine ex_iload_n (a := nI n) 2 d_MO_slot_1 rfl rfl ?_
  refine xr_callVi [.int (nI n)] [] 5 d_MO_slot_2 rfl zv_MO_isNode ⟨(Nat.le_of_ble_eq_true rfl), (Nat.le_of_ble_eq_true rfl)⟩ m_MO_101 (by decide) rfl rfl rfl (Nat.le_of_ble_eq_true rfl) rfl (Nat.le_of_ble_eq_true rfl) (c_MO_isNode (S := S) (M := M) (nI n) hn) (fun vv ww q1 => ?_)
  rw [q1.1, q1.2]
  refine Ex.int (zb_t hnI) ?_
  refine ex_ifeq 40 8 d_MO_slot_5 rfl rfl (fun h => absurd h (by decide)) (fun _ => ?_)
  refine ex_iload_n (a := nI (t + 1)) 9 d_MO_slot_8 rfl rfl ?_
  refine xl_callSi [.int (nI (t + 1))] [] 12 d_MO_slot_9 rfl zs_MO_isSlot ⟨(Nat.le_of_ble_eq_true rfl), (Nat.le_of_ble_eq_true rfl)⟩ m_MO_136 rfl rfl (Nat.le_of_ble_eq_true rfl) rfl (Nat.le_of_ble_eq_true rfl) (c_MO_isSlot (S := S) (M := M) (nI (t + 1))) (fun vv ww q2 => ?_)
  rw [q2.1, q2.2]
  refine Ex.int (zb_t hsS) ?_
  refine ex_ifeq 40 15 d_MO_slot_12 rfl rfl (fun h => absurd h (by decide)) (fun _ => ?_)
  refine ex_aload_n (a := ad (rp N 0)) 16 d_MO_slot_15 rfl rfl ?_
  refine xr_getR 19 d_MO_slot_16 rfl g_MO_25 (by decide) rfl rfl ?_
  refine ex_iload_n (a := nI n) 20 d_MO_slot_19 rfl rfl ?_
  refine xr_zald 21 d_MO_slot_20 rfl (by decide) rfl rfl (by omega) (by omega) ?_
  refine ex_ifeq 40 24 d_MO_slot_21 rfl rfl (fun h3 => ?_) (fun h3 => ?_)
  · refine ex_iconst (v := (-1)) 41 d_MO_slot_40 rfl (by decide) ?_
    refine ex_iret d_MO_slot_41 rfl ⟨_, rfl, ?_⟩
    refine ⟨?_, ?_⟩
    · rfl
    · unfold rSlotR; rw [if_pos h3]
  · refine ex_aload_n (a := ad (rp N 0)) 25 d_MO_slot_24 rfl rfl ?_
    refine xr_getR 28 d_MO_slot_25 rfl g_MO_44 (by decide) rfl rfl ?_
    refine ex_bipush (v := 8) 30 d_MO_slot_28 rfl (by decide) ?_
    refine ex_iload_n (a := nI n) 31 d_MO_slot_30 rfl rfl ?_
    refine ex_imulN (8 * n) 32 d_MO_slot_31 rfl (xn_lit 8) rfl (by omega) ?_
    refine ex_iload_n (a := nI (t + 1)) 33 d_MO_slot_32 rfl rfl ?_
    refine ex_iaddN (8 * n + t + 1) 34 d_MO_slot_33 rfl rfl rfl (by omega) ?_
    refine ex_iconst (v := 1) 35 d_MO_slot_34 rfl (by decide) ?_
    refine ex_isubN (8 * n + t) 36 d_MO_slot_35 rfl rfl (xn_lit 1) (by omega) ?_
    refine xr_iald 37 d_MO_slot_36 rfl (by decide) rfl rfl (by omega) (by omega) ?_
    refine ex_goto 41 d_MO_slot_37 rfl ?_
    refine ex_iret d_MO_slot_41 rfl ⟨_, rfl, ?_⟩
    refine ⟨?_, ?_⟩
    · rfl
    · unfold rSlotR; rw [if_neg h3]
end WK
