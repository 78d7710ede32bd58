section WK
variable {G : xC} {ad : Nat → Nat} {N : Nat} {S : sT}
set_option maxRecDepth 100000 in
set_option maxHeartbeats 4000000 in
theorem c_Node_writeVote (i s : Nat) (hi : i < N) (hs1 : 1 ≤ s) (hs : s < 9) (c b : Int32) : Ex G none mi_Node_writeVote 0 0 0 (xEn mi_Node_writeVote [.ref (ad (pl i 0)), .int (nI s), .int c, .int b]) [] (LY G ad N S) (xI (fun v w => w = LY G ad N (wvS i s c b S) ∧ v = zb (wvOk i s c b S))) := by
  refine ex_aload_n (a := ad (pl i 0)) 1 d_Node_writeVote_0 rfl rfl ?_
  refine ex_iconst (v := 2) 2 d_Node_writeVote_1 rfl (by decide) ?_
  refine ex_iload_n (a := nI s) 3 d_Node_writeVote_2 rfl rfl ?_
  refine ex_imulN (2 * s) 4 d_Node_writeVote_3 rfl (xn_lit 2) rfl (by omega) ?_
  refine ex_iload_n (a := nI s) 5 d_Node_writeVote_4 rfl rfl ?_
  refine ex_iload_n (a := c) 6 d_Node_writeVote_5 rfl rfl ?_
  refine ex_iload_n (a := b) 7 d_Node_writeVote_6 rfl rfl ?_
  refine xl_callVi [.int (nI (2 * s)), .int (nI s), .int c, .int b] [] 10 d_Node_writeVote_7 rfl zv_Node_writeSector ⟨(Nat.le_of_ble_eq_true rfl), (Nat.le_of_ble_eq_true rfl)⟩ m_Node_63 (kpl hi (by decide)) (sh_Node hi) rfl rfl (Nat.le_of_ble_eq_true rfl) rfl (Nat.le_of_ble_eq_true rfl) (c_Node_writeSector (S := S) i (2 * s) hi (by omega) (nI s) c b) (fun vv ww q1 => ?_)
  rw [q1.1, q1.2]
  by_cases h2 : wsOk i S
  · refine Ex.int (zb_t h2) ?_
    refine ex_ifeq 28 13 d_Node_writeVote_10 rfl rfl (fun h => absurd h (by decide)) (fun _ => ?_)
    refine ex_aload_n (a := ad (pl i 0)) 14 d_Node_writeVote_13 rfl rfl ?_
    refine ex_iconst (v := 2) 15 d_Node_writeVote_14 rfl (by decide) ?_
    refine ex_iload_n (a := nI s) 16 d_Node_writeVote_15 rfl rfl ?_
    refine ex_imulN (2 * s) 17 d_Node_writeVote_16 rfl (xn_lit 2) rfl (by omega) ?_
    refine ex_iconst (v := 1) 18 d_Node_writeVote_17 rfl (by decide) ?_
    refine ex_iaddN (2 * s + 1) 19 d_Node_writeVote_18 rfl rfl (xn_lit 1) (by omega) ?_
    refine ex_iload_n (a := nI s) 20 d_Node_writeVote_19 rfl rfl ?_
    refine ex_iconst (v := 0) 21 d_Node_writeVote_20 rfl (by decide) ?_
    refine ex_iload_n (a := b) 22 d_Node_writeVote_21 rfl rfl ?_
    refine xl_callVi [.int (nI (2 * s + 1)), .int (nI s), .int 0, .int b] [] 25 d_Node_writeVote_22 rfl zv_Node_writeSector ⟨(Nat.le_of_ble_eq_true rfl), (Nat.le_of_ble_eq_true rfl)⟩ m_Node_63 (kpl hi (by decide)) (sh_Node hi) rfl rfl (Nat.le_of_ble_eq_true rfl) rfl (Nat.le_of_ble_eq_true rfl) (c_Node_writeSector (S := (wsecS i (2 * s) (nI s) c b S)) i (2 * s + 1) hi (by omega) (nI s) 0 b) (fun vv ww q3 => ?_)
    rw [q3.1, q3.2]
    by_cases h4 : wsOk i (wsecS i (2 * s) (nI s) c b S)
    · refine Ex.int (zb_t h4) ?_
      refine ex_ifne 30 28 d_Node_writeVote_25 rfl rfl (fun _ => ?_) (fun h => absurd h (by decide))
      refine ex_aload_n (a := ad (pl i 0)) 31 d_Node_writeVote_30 rfl rfl ?_
      refine xl_getR 34 d_Node_writeVote_31 rfl g_Node_18 (kpl hi (by decide)) (sh_Node hi) rfl ?_
      refine ex_iload_n (a := nI s) 35 d_Node_writeVote_34 rfl rfl ?_
      refine ex_iload_n (a := b) 36 d_Node_writeVote_35 rfl rfl ?_
      refine ex_iload_n (a := c) 37 d_Node_writeVote_36 rfl rfl ?_
      refine xl_callSi [.int b, .int c] [.int (nI s), .ref (ad (pl i 3))] 40 d_Node_writeVote_37 rfl zs_SlotState_wholeWith ⟨(Nat.le_of_ble_eq_true rfl), (Nat.le_of_ble_eq_true rfl)⟩ m_Node_67 rfl rfl (Nat.le_of_ble_eq_true rfl) rfl (Nat.le_of_ble_eq_true rfl) (c_SlotState_wholeWith (S := (wsecS i (2 * s + 1) (nI s) 0 b (wsecS i (2 * s) (nI s) c b S))) b c) (fun vv ww q5 => ?_)
      rw [q5.1, q5.2]
      refine xl_iast 41 d_Node_writeVote_40 rfl (kpl hi (by decide)) (sh_Nslots hi) rfl (by omega) (by omega) ?_
      refine ex_iconst (v := 1) 42 d_Node_writeVote_41 rfl (by decide) ?_
      refine ex_zret d_Node_writeVote_42 rfl rfl ⟨_, rfl, ?_⟩
      refine ⟨?_, (Eq.symm (zb_t ⟨h2, h4⟩))⟩
      unfold wvS; rw [if_pos h2, if_pos h4]
    · refine Ex.int (zb_f h4) ?_
      refine ex_ifne 30 28 d_Node_writeVote_25 rfl rfl (fun h => absurd (by decide) h) (fun _ => ?_)
      refine ex_iconst (v := 0) 29 d_Node_writeVote_28 rfl (by decide) ?_
      refine ex_zret d_Node_writeVote_29 rfl rfl ⟨_, rfl, ?_⟩
      refine ⟨?_, (Eq.symm (zb_f (fun z => h4 z.2)))⟩
      unfold wvS; rw [if_pos h2, if_neg h4]
  · refine Ex.int (zb_f h2) ?_
    refine ex_ifeq 28 13 d_Node_writeVote_10 rfl rfl (fun _ => ?_) (fun h => absurd (by decide) h)
    refine ex_iconst (v := 0) 29 d_Node_writeVote_28 rfl (by decide) ?_
    refine ex_zret d_Node_writeVote_29 rfl rfl ⟨_, rfl, ?_⟩
    refine ⟨?_, (Eq.symm (zb_f (fun z => h2 z.1)))⟩
    unfold wvS; rw [if_neg h2]
set_option maxRecDepth 100000 in
set_option maxHeartbeats 4000000 in
theorem c_Node_promiseFound (i s : Nat) (hi : i < N) (hs : s < 18) : Ex G none mi_Node_promiseFound 0 0 0 (xEn mi_Node_promiseFound [.ref (ad (pl i 0)), .int (nI s)]) [] (LY G ad N S) (xI (fun v w => w = LY G ad N S ∧ v = pfF (S (pl i 2)) s)) := by
  refine ex_aload_n (a := ad (pl i 0)) 1 d_Node_promiseFound_0 rfl rfl ?_
  refine xl_getR 4 d_Node_promiseFound_1 rfl g_Node_12 (kpl hi (by decide)) (sh_Node hi) rfl ?_
  refine ex_iload_n (a := nI s) 5 d_Node_promiseFound_4 rfl rfl ?_
  refine xl_callVi [.int (nI s)] [] 8 d_Node_promiseFound_5 rfl zv_Disk_isWrong ⟨(Nat.le_of_ble_eq_true rfl), (Nat.le_of_ble_eq_true rfl)⟩ m_Node_87 (kpl hi (by decide)) (sh_Disk hi) rfl rfl (Nat.le_of_ble_eq_true rfl) rfl (Nat.le_of_ble_eq_true rfl) (c_Disk_isWrong (S := S) i (s) hi (by omega)) (fun vv ww q1 => ?_)
  rw [q1.1, q1.2]
  by_cases h2 : wrongF (S (pl i 2)) (8 * (s))
  · refine Ex.int (zb_t h2) ?_
    refine ex_ifeq 15 11 d_Node_promiseFound_8 rfl rfl (fun h => absurd h (by decide)) (fun _ => ?_)
    refine ex_iconst (v := 0) 12 d_Node_promiseFound_11 rfl (by decide) ?_
    refine ex_goto 23 d_Node_promiseFound_12 rfl ?_
    refine ex_iret d_Node_promiseFound_23 rfl ⟨_, rfl, ?_⟩
    refine ⟨rfl, ?_⟩
    unfold pfF; rw [if_pos h2]
  · refine Ex.int (zb_f h2) ?_
    refine ex_ifeq 15 11 d_Node_promiseFound_8 rfl rfl (fun _ => ?_) (fun h => absurd (by decide) h)
    refine ex_aload_n (a := ad (pl i 0)) 16 d_Node_promiseFound_15 rfl rfl ?_
    refine xl_getR 19 d_Node_promiseFound_16 rfl g_Node_12 (kpl hi (by decide)) (sh_Node hi) rfl ?_
    refine ex_iload_n (a := nI s) 20 d_Node_promiseFound_19 rfl rfl ?_
    refine xl_callVi [.int (nI s)] [] 23 d_Node_promiseFound_20 rfl zv_Disk_ballotIn ⟨(Nat.le_of_ble_eq_true rfl), (Nat.le_of_ble_eq_true rfl)⟩ m_Node_102 (kpl hi (by decide)) (sh_Disk hi) rfl rfl (Nat.le_of_ble_eq_true rfl) rfl (Nat.le_of_ble_eq_true rfl) (c_Disk_ballotIn (S := S) i (s) hi (by omega)) (fun vv ww q3 => ?_)
    rw [q3.1, q3.2]
    refine ex_iret d_Node_promiseFound_23 rfl ⟨_, rfl, ?_⟩
    refine ⟨rfl, ?_⟩
    unfold pfF; rw [if_neg h2]; rfl
set_option maxRecDepth 100000 in
set_option maxHeartbeats 4000000 in
theorem c_Node_slotFound (i s : Nat) (hi : i < N) (hs1 : 1 ≤ s) (hs : s < 9) : Ex G none mi_Node_slotFound 0 0 0 (xEn mi_Node_slotFound [.ref (ad (pl i 0)), .int (nI (2 * s)), .int (nI (2 * s + 1))]) [] (LY G ad N S) (xI (fun v w => w = LY G ad N S ∧ v = sfF (S (pl i 2)) s)) := by
  refine ex_aload_n (a := ad (pl i 0)) 1 d_Node_slotFound_0 rfl rfl ?_
  refine xl_getR 4 d_Node_slotFound_1 rfl g_Node_12 (kpl hi (by decide)) (sh_Node hi) rfl ?_
  refine ex_iload_n (a := nI (2 * s)) 5 d_Node_slotFound_4 rfl rfl ?_
  refine xl_callVi [.int (nI (2 * s))] [] 8 d_Node_slotFound_5 rfl zv_Disk_isWrong ⟨(Nat.le_of_ble_eq_true rfl), (Nat.le_of_ble_eq_true rfl)⟩ m_Node_87 (kpl hi (by decide)) (sh_Disk hi) rfl rfl (Nat.le_of_ble_eq_true rfl) rfl (Nat.le_of_ble_eq_true rfl) (c_Disk_isWrong (S := S) i (2 * s) hi (by omega)) (fun vv ww q1 => ?_)
  rw [q1.1, q1.2]
  by_cases h2 : wrongF (S (pl i 2)) (8 * (2 * s))
  · refine Ex.int (zb_t h2) ?_
    refine ex_ifne 41 11 d_Node_slotFound_8 rfl rfl (fun _ => ?_) (fun h => absurd h (by decide))
    refine ex_aload_n (a := ad (pl i 0)) 42 d_Node_slotFound_41 rfl rfl ?_
    refine xl_getR 45 d_Node_slotFound_42 rfl g_Node_12 (kpl hi (by decide)) (sh_Node hi) rfl ?_
    refine ex_iload_n (a := nI (2 * s + 1)) 46 d_Node_slotFound_45 rfl rfl ?_
    refine xl_callVi [.int (nI (2 * s + 1))] [] 49 d_Node_slotFound_46 rfl zv_Disk_isWrong ⟨(Nat.le_of_ble_eq_true rfl), (Nat.le_of_ble_eq_true rfl)⟩ m_Node_87 (kpl hi (by decide)) (sh_Disk hi) rfl rfl (Nat.le_of_ble_eq_true rfl) rfl (Nat.le_of_ble_eq_true rfl) (c_Disk_isWrong (S := S) i (2 * s + 1) hi (by omega)) (fun vv ww q3 => ?_)
    rw [q3.1, q3.2]
    by_cases h4 : wrongF (S (pl i 2)) (8 * (2 * s + 1))
    · refine Ex.int (zb_t h4) ?_
      refine ex_ifeq 55 52 d_Node_slotFound_49 rfl rfl (fun h => absurd h (by decide)) (fun _ => ?_)
      refine ex_ldc (v := (-1000000)) 54 d_Node_slotFound_52 rfl c_Node_108 ?_
      refine ex_iret d_Node_slotFound_54 rfl ⟨_, rfl, ?_⟩
      refine ⟨rfl, ?_⟩
      unfold sfF balF; rw [if_pos h2, if_pos h4]
    · refine Ex.int (zb_f h4) ?_
      refine ex_ifeq 55 52 d_Node_slotFound_49 rfl rfl (fun _ => ?_) (fun h => absurd (by decide) h)
      refine ex_aload_n (a := ad (pl i 0)) 56 d_Node_slotFound_55 rfl rfl ?_
      refine xl_getR 59 d_Node_slotFound_56 rfl g_Node_12 (kpl hi (by decide)) (sh_Node hi) rfl ?_
      refine ex_iload_n (a := nI (2 * s + 1)) 60 d_Node_slotFound_59 rfl rfl ?_
      refine xl_callVi [.int (nI (2 * s + 1))] [] 63 d_Node_slotFound_60 rfl zv_Disk_ballotIn ⟨(Nat.le_of_ble_eq_true rfl), (Nat.le_of_ble_eq_true rfl)⟩ m_Node_102 (kpl hi (by decide)) (sh_Disk hi) rfl rfl (Nat.le_of_ble_eq_true rfl) rfl (Nat.le_of_ble_eq_true rfl) (c_Disk_ballotIn (S := S) i (2 * s + 1) hi (by omega)) (fun vv ww q5 => ?_)
      rw [q5.1, q5.2]
      refine ex_istore_n 64 d_Node_slotFound_63 rfl (Nat.le_of_ble_eq_true rfl) ?_
      refine ex_iload_n (a := (256 * S (pl i 2) (8 * (2 * s + 1) + 2) + S (pl i 2) (8 * (2 * s + 1) + 3))) 65 d_Node_slotFound_64 rfl rfl ?_
      refine ex_ifne 72 68 d_Node_slotFound_65 rfl rfl (fun h6 => ?_) (fun h6 => ?_)
      · refine ex_iload_n (a := (256 * S (pl i 2) (8 * (2 * s + 1) + 2) + S (pl i 2) (8 * (2 * s + 1) + 3))) 73 d_Node_slotFound_72 rfl rfl ?_
        refine xl_callSi [.int ((256 * S (pl i 2) (8 * (2 * s + 1) + 2) + S (pl i 2) (8 * (2 * s + 1) + 3)))] [] 76 d_Node_slotFound_73 rfl zs_SlotState_damagedWith ⟨(Nat.le_of_ble_eq_true rfl), (Nat.le_of_ble_eq_true rfl)⟩ m_Node_109 rfl rfl (Nat.le_of_ble_eq_true rfl) rfl (Nat.le_of_ble_eq_true rfl) (c_SlotState_damagedWith (S := S) (256 * S (pl i 2) (8 * (2 * s + 1) + 2) + S (pl i 2) (8 * (2 * s + 1) + 3))) (fun vv ww q7 => ?_)
        rw [q7.1, q7.2]
        refine ex_iret d_Node_slotFound_76 rfl ⟨_, rfl, ?_⟩
        refine ⟨rfl, ?_⟩
        unfold sfF balF; rw [if_pos h2, if_neg h4, if_neg h6]
      · refine ex_iconst (v := 0) 69 d_Node_slotFound_68 rfl (by decide) ?_
        refine ex_goto 76 d_Node_slotFound_69 rfl ?_
        refine ex_iret d_Node_slotFound_76 rfl ⟨_, rfl, ?_⟩
        refine ⟨rfl, ?_⟩
        unfold sfF balF; rw [if_pos h2, if_neg h4, if_pos h6]
  · refine Ex.int (zb_f h2) ?_
    refine ex_ifne 41 11 d_Node_slotFound_8 rfl rfl (fun h => absurd (by decide) h) (fun _ => ?_)
    refine ex_aload_n (a := ad (pl i 0)) 12 d_Node_slotFound_11 rfl rfl ?_
    refine xl_getR 15 d_Node_slotFound_12 rfl g_Node_12 (kpl hi (by decide)) (sh_Node hi) rfl ?_
    refine ex_iload_n (a := nI (2 * s)) 16 d_Node_slotFound_15 rfl rfl ?_
    refine xl_callVi [.int (nI (2 * s))] [] 19 d_Node_slotFound_16 rfl zv_Disk_ballotIn ⟨(Nat.le_of_ble_eq_true rfl), (Nat.le_of_ble_eq_true rfl)⟩ m_Node_102 (kpl hi (by decide)) (sh_Disk hi) rfl rfl (Nat.le_of_ble_eq_true rfl) rfl (Nat.le_of_ble_eq_true rfl) (c_Disk_ballotIn (S := S) i (2 * s) hi (by omega)) (fun vv ww q8 => ?_)
    rw [q8.1, q8.2]
    refine ex_istore_n 20 d_Node_slotFound_19 rfl (Nat.le_of_ble_eq_true rfl) ?_
    refine ex_iload_n (a := (256 * S (pl i 2) (8 * (2 * s) + 2) + S (pl i 2) (8 * (2 * s) + 3))) 21 d_Node_slotFound_20 rfl rfl ?_
    refine ex_ifne 28 24 d_Node_slotFound_21 rfl rfl (fun h9 => ?_) (fun h9 => ?_)
    · refine ex_iload_n (a := (256 * S (pl i 2) (8 * (2 * s) + 2) + S (pl i 2) (8 * (2 * s) + 3))) 29 d_Node_slotFound_28 rfl rfl ?_
      refine ex_aload_n (a := ad (pl i 0)) 30 d_Node_slotFound_29 rfl rfl ?_
      refine xl_getR 33 d_Node_slotFound_30 rfl g_Node_12 (kpl hi (by decide)) (sh_Node hi) rfl ?_
      refine ex_iload_n (a := nI (2 * s)) 34 d_Node_slotFound_33 rfl rfl ?_
      refine xl_callVi [.int (nI (2 * s))] [.int ((256 * S (pl i 2) (8 * (2 * s) + 2) + S (pl i 2) (8 * (2 * s) + 3)))] 37 d_Node_slotFound_34 rfl zv_Disk_commandIn ⟨(Nat.le_of_ble_eq_true rfl), (Nat.le_of_ble_eq_true rfl)⟩ m_Node_105 (kpl hi (by decide)) (sh_Disk hi) rfl rfl (Nat.le_of_ble_eq_true rfl) rfl (Nat.le_of_ble_eq_true rfl) (c_Disk_commandIn (S := S) i (2 * s) hi (by omega)) (fun vv ww q10 => ?_)
      rw [q10.1, q10.2]
      refine xl_callSi [.int ((256 * S (pl i 2) (8 * (2 * s) + 2) + S (pl i 2) (8 * (2 * s) + 3))), .int ((S (pl i 2) (8 * (2 * s) + 1)))] [] 40 d_Node_slotFound_37 rfl zs_SlotState_wholeWith ⟨(Nat.le_of_ble_eq_true rfl), (Nat.le_of_ble_eq_true rfl)⟩ m_Node_67 rfl rfl (Nat.le_of_ble_eq_true rfl) rfl (Nat.le_of_ble_eq_true rfl) (c_SlotState_wholeWith (S := S) (256 * S (pl i 2) (8 * (2 * s) + 2) + S (pl i 2) (8 * (2 * s) + 3)) (S (pl i 2) (8 * (2 * s) + 1))) (fun vv ww q11 => ?_)
      rw [q11.1, q11.2]
      refine ex_iret d_Node_slotFound_40 rfl ⟨_, rfl, ?_⟩
      refine ⟨rfl, ?_⟩
      unfold sfF balF; rw [if_neg h2, if_neg h9]
    · refine ex_iconst (v := 0) 25 d_Node_slotFound_24 rfl (by decide) ?_
      refine ex_goto 40 d_Node_slotFound_25 rfl ?_
      refine ex_iret d_Node_slotFound_40 rfl ⟨_, rfl, ?_⟩
      refine ⟨rfl, ?_⟩
      unfold sfF balF; rw [if_neg h2, if_pos h9]
set_option maxRecDepth 100000 in
set_option maxHeartbeats 4000000 in
theorem c_Node_comeUp (i : Nat) (hi : i < N) : Ex G none mi_Node_comeUp 0 0 0 (xEn mi_Node_comeUp [.ref (ad (pl i 0))]) [] (LY G ad N S) (xV (fun w => w = LY G ad N (upS i S))) := by
  have hloop0 : ∀ k, k ≤ 8 → Ex G none mi_Node_comeUp 0 0 55 [some (.ref (ad (pl i 0))), some (.int (nI (k + 1)))] [] (LY G ad N (upL i S k)) (xV (fun w => w = LY G ad N (upS i S))) := by
    refine loop_down 8 ?_ ?_
    · skip
      refine ex_iload_n (a := nI 9) 56 d_Node_comeUp_55 rfl rfl ?_
      refine ex_bipush (v := 8) 58 d_Node_comeUp_56 rfl (by decide) ?_
      refine ex_icmpgt 85 61 d_Node_comeUp_58 rfl rfl (fun _ => ?_) (fun h => absurd (xn_lt (xn_lit 8) rfl (by omega) (by omega) (by omega)) h)
      refine ex_vret d_Node_comeUp_85 rfl ⟨rfl, ?_⟩
      exact rfl
    · intro k hk ih
      refine ex_iload_n (a := nI (k + 1)) 56 d_Node_comeUp_55 rfl rfl ?_
      refine ex_bipush (v := 8) 58 d_Node_comeUp_56 rfl (by decide) ?_
      refine ex_icmpgt 85 61 d_Node_comeUp_58 rfl rfl (fun h => absurd h (xn_nlt (xn_lit 8) rfl (by omega) (by omega) (by omega))) (fun _ => ?_)
      refine ex_aload_n (a := ad (pl i 0)) 62 d_Node_comeUp_61 rfl rfl ?_
      refine xl_getR 65 d_Node_comeUp_62 rfl g_Node_18 (kpl hi (by decide)) (sh_Node hi) rfl ?_
      refine ex_iload_n (a := nI (k + 1)) 66 d_Node_comeUp_65 rfl rfl ?_
      refine ex_aload_n (a := ad (pl i 0)) 67 d_Node_comeUp_66 rfl rfl ?_
      refine ex_iconst (v := 2) 68 d_Node_comeUp_67 rfl (by decide) ?_
      refine ex_iload_n (a := nI (k + 1)) 69 d_Node_comeUp_68 rfl rfl ?_
      refine ex_imulN (2 * k + 2) 70 d_Node_comeUp_69 rfl (xn_lit 2) rfl (by omega) ?_
      refine ex_iconst (v := 2) 71 d_Node_comeUp_70 rfl (by decide) ?_
      refine ex_iload_n (a := nI (k + 1)) 72 d_Node_comeUp_71 rfl rfl ?_
      refine ex_imulN (2 * k + 2) 73 d_Node_comeUp_72 rfl (xn_lit 2) rfl (by omega) ?_
      refine ex_iconst (v := 1) 74 d_Node_comeUp_73 rfl (by decide) ?_
      refine ex_iaddN (2 * k + 3) 75 d_Node_comeUp_74 rfl rfl (xn_lit 1) (by omega) ?_
      refine xl_callVi [.int (nI (2 * k + 2)), .int (nI (2 * k + 3))] [.int (nI (k + 1)), .ref (ad (pl i 3))] 78 d_Node_comeUp_75 rfl zv_Node_slotFound ⟨(Nat.le_of_ble_eq_true rfl), (Nat.le_of_ble_eq_true rfl)⟩ m_Node_99 (kpl hi (by decide)) (sh_Node hi) rfl rfl (Nat.le_of_ble_eq_true rfl) rfl (Nat.le_of_ble_eq_true rfl) (c_Node_slotFound (S := (upL i S k)) i (k + 1) hi (by omega) (by omega)) (fun vv ww q1 => ?_)
      rw [q1.1, q1.2]
      refine xl_iast 79 d_Node_comeUp_78 rfl (kpl hi (by decide)) (sh_Nslots hi) rfl (by omega) (by omega) ?_
      refine ex_iinc (a := nI (k + 1)) (v := nI (k + 2)) 82 d_Node_comeUp_79 rfl rfl (xn_inc rfl) ?_
      refine ex_goto 55 d_Node_comeUp_82 rfl ?_
      exact Ex.wk (Ex.toS (by show u2 _ _ _ _ = u2 _ _ _ _; rw [upL_2]) ih) (by repeat (first | exact xs_nil | refine xs_s ?_ | refine xs_n ?_))
  refine ex_aload_n (a := ad (pl i 0)) 1 d_Node_comeUp_0 rfl rfl ?_
  refine ex_iconst (v := 1) 2 d_Node_comeUp_1 rfl (by decide) ?_
  refine xl_put 5 d_Node_comeUp_2 rfl p_Node_22 rfl rfl (kpl hi (by decide)) (sh_Node hi) rfl ?_
  refine ex_aload_n (a := ad (pl i 0)) 6 d_Node_comeUp_5 rfl rfl ?_
  refine ex_aload_n (a := ad (pl i 0)) 7 d_Node_comeUp_6 rfl rfl ?_
  refine xl_getR 10 d_Node_comeUp_7 rfl g_Node_12 (kpl hi (by decide)) (sh_Node hi) rfl ?_
  refine ex_iconst (v := 0) 11 d_Node_comeUp_10 rfl (by decide) ?_
  refine xl_callVi [.int 0] [.ref (ad (pl i 0))] 14 d_Node_comeUp_11 rfl zv_Disk_isWrong ⟨(Nat.le_of_ble_eq_true rfl), (Nat.le_of_ble_eq_true rfl)⟩ m_Node_87 (kpl hi (by decide)) (sh_Disk hi) rfl rfl (Nat.le_of_ble_eq_true rfl) rfl (Nat.le_of_ble_eq_true rfl) (c_Disk_isWrong (S := (u2 S (pl i 0) 5 (1))) i (0) hi (by omega)) (fun vv ww q2 => ?_)
  rw [q2.1, q2.2]
  by_cases h3 : wrongF ((u2 S (pl i 0) 5 (1)) (pl i 2)) (8 * (0))
  · refine Ex.int (zb_t h3) ?_
    refine ex_ifeq 32 17 d_Node_comeUp_14 rfl rfl (fun h => absurd h (by decide)) (fun _ => ?_)
    refine ex_aload_n (a := ad (pl i 0)) 18 d_Node_comeUp_17 rfl rfl ?_
    refine xl_getR 21 d_Node_comeUp_18 rfl g_Node_12 (kpl hi (by decide)) (sh_Node hi) rfl ?_
    refine ex_iconst (v := 1) 22 d_Node_comeUp_21 rfl (by decide) ?_
    refine xl_callVi [.int 1] [.ref (ad (pl i 0))] 25 d_Node_comeUp_22 rfl zv_Disk_isWrong ⟨(Nat.le_of_ble_eq_true rfl), (Nat.le_of_ble_eq_true rfl)⟩ m_Node_87 (kpl hi (by decide)) (sh_Disk hi) rfl rfl (Nat.le_of_ble_eq_true rfl) rfl (Nat.le_of_ble_eq_true rfl) (c_Disk_isWrong (S := (u2 S (pl i 0) 5 (1))) i (1) hi (by omega)) (fun vv ww q4 => ?_)
    rw [q4.1, q4.2]
    by_cases h5 : wrongF ((u2 S (pl i 0) 5 (1)) (pl i 2)) (8 * (1))
    · refine Ex.int (zb_t h5) ?_
      refine ex_ifeq 32 28 d_Node_comeUp_25 rfl rfl (fun h => absurd h (by decide)) (fun _ => ?_)
      refine ex_iconst (v := 1) 29 d_Node_comeUp_28 rfl (by decide) ?_
      refine ex_goto 33 d_Node_comeUp_29 rfl ?_
      refine xl_put 36 d_Node_comeUp_33 rfl p_Node_51 rfl rfl (kpl hi (by decide)) (sh_Node hi) rfl ?_
      refine ex_aload_n (a := ad (pl i 0)) 37 d_Node_comeUp_36 rfl rfl ?_
      refine ex_aload_n (a := ad (pl i 0)) 38 d_Node_comeUp_37 rfl rfl ?_
      refine ex_iconst (v := 0) 39 d_Node_comeUp_38 rfl (by decide) ?_
      refine xl_callVi [.int 0] [.ref (ad (pl i 0))] 42 d_Node_comeUp_39 rfl zv_Node_promiseFound ⟨(Nat.le_of_ble_eq_true rfl), (Nat.le_of_ble_eq_true rfl)⟩ m_Node_90 (kpl hi (by decide)) (sh_Node hi) rfl rfl (Nat.le_of_ble_eq_true rfl) rfl (Nat.le_of_ble_eq_true rfl) (c_Node_promiseFound (S := (u2 (u2 S (pl i 0) 5 (1)) (pl i 0) 6 (1))) i (0) hi (by omega)) (fun vv ww q6 => ?_)
      rw [q6.1, q6.2]
      refine ex_aload_n (a := ad (pl i 0)) 43 d_Node_comeUp_42 rfl rfl ?_
      refine ex_iconst (v := 1) 44 d_Node_comeUp_43 rfl (by decide) ?_
      refine xl_callVi [.int 1] [.int ((pfF ((u2 (u2 S (pl i 0) 5 (1)) (pl i 0) 6 (1)) (pl i 2)) (0))), .ref (ad (pl i 0))] 47 d_Node_comeUp_44 rfl zv_Node_promiseFound ⟨(Nat.le_of_ble_eq_true rfl), (Nat.le_of_ble_eq_true rfl)⟩ m_Node_90 (kpl hi (by decide)) (sh_Node hi) rfl rfl (Nat.le_of_ble_eq_true rfl) rfl (Nat.le_of_ble_eq_true rfl) (c_Node_promiseFound (S := (u2 (u2 S (pl i 0) 5 (1)) (pl i 0) 6 (1))) i (1) hi (by omega)) (fun vv ww q7 => ?_)
      rw [q7.1, q7.2]
      refine ex_mmax (a := (pfF ((u2 (u2 S (pl i 0) 5 (1)) (pl i 0) 6 (1)) (pl i 2)) (0))) (b := (pfF ((u2 (u2 S (pl i 0) 5 (1)) (pl i 0) 6 (1)) (pl i 2)) (1))) 50 d_Node_comeUp_47 rfl mm_Node_94 ⟨(Nat.le_of_ble_eq_true rfl), (Nat.le_of_ble_eq_true rfl)⟩ ?_
      refine xl_put 53 d_Node_comeUp_50 rfl p_Node_60 rfl rfl (kpl hi (by decide)) (sh_Node hi) rfl ?_
      refine ex_iconst (v := 1) 54 d_Node_comeUp_53 rfl (by decide) ?_
      refine ex_istore_n 55 d_Node_comeUp_54 rfl (Nat.le_of_ble_eq_true rfl) ?_
      refine Ex.toS (S' := upL i S 0) ?_ (Ex.wk (hloop0 0 (Nat.zero_le _)) (by repeat (first | exact xs_nil | refine xs_s ?_ | refine xs_n ?_)))
      simp only [u2_02] at h3
      simp only [u2_02] at h5
      show _ = u2 (u2 (u2 S (pl i 0) 5 1) (pl i 0) 6 (zb _)) (pl i 0) 7 _
      rw [zb_t ⟨h3, h5⟩]
      simp only [u2_02]
    · refine Ex.int (zb_f h5) ?_
      refine ex_ifeq 32 28 d_Node_comeUp_25 rfl rfl (fun _ => ?_) (fun h => absurd (by decide) h)
      refine ex_iconst (v := 0) 33 d_Node_comeUp_32 rfl (by decide) ?_
      refine xl_put 36 d_Node_comeUp_33 rfl p_Node_51 rfl rfl (kpl hi (by decide)) (sh_Node hi) rfl ?_
      refine ex_aload_n (a := ad (pl i 0)) 37 d_Node_comeUp_36 rfl rfl ?_
      refine ex_aload_n (a := ad (pl i 0)) 38 d_Node_comeUp_37 rfl rfl ?_
      refine ex_iconst (v := 0) 39 d_Node_comeUp_38 rfl (by decide) ?_
      refine xl_callVi [.int 0] [.ref (ad (pl i 0))] 42 d_Node_comeUp_39 rfl zv_Node_promiseFound ⟨(Nat.le_of_ble_eq_true rfl), (Nat.le_of_ble_eq_true rfl)⟩ m_Node_90 (kpl hi (by decide)) (sh_Node hi) rfl rfl (Nat.le_of_ble_eq_true rfl) rfl (Nat.le_of_ble_eq_true rfl) (c_Node_promiseFound (S := (u2 (u2 S (pl i 0) 5 (1)) (pl i 0) 6 (0))) i (0) hi (by omega)) (fun vv ww q8 => ?_)
      rw [q8.1, q8.2]
      refine ex_aload_n (a := ad (pl i 0)) 43 d_Node_comeUp_42 rfl rfl ?_
      refine ex_iconst (v := 1) 44 d_Node_comeUp_43 rfl (by decide) ?_
      refine xl_callVi [.int 1] [.int ((pfF ((u2 (u2 S (pl i 0) 5 (1)) (pl i 0) 6 (0)) (pl i 2)) (0))), .ref (ad (pl i 0))] 47 d_Node_comeUp_44 rfl zv_Node_promiseFound ⟨(Nat.le_of_ble_eq_true rfl), (Nat.le_of_ble_eq_true rfl)⟩ m_Node_90 (kpl hi (by decide)) (sh_Node hi) rfl rfl (Nat.le_of_ble_eq_true rfl) rfl (Nat.le_of_ble_eq_true rfl) (c_Node_promiseFound (S := (u2 (u2 S (pl i 0) 5 (1)) (pl i 0) 6 (0))) i (1) hi (by omega)) (fun vv ww q9 => ?_)
      rw [q9.1, q9.2]
      refine ex_mmax (a := (pfF ((u2 (u2 S (pl i 0) 5 (1)) (pl i 0) 6 (0)) (pl i 2)) (0))) (b := (pfF ((u2 (u2 S (pl i 0) 5 (1)) (pl i 0) 6 (0)) (pl i 2)) (1))) 50 d_Node_comeUp_47 rfl mm_Node_94 ⟨(Nat.le_of_ble_eq_true rfl), (Nat.le_of_ble_eq_true rfl)⟩ ?_
      refine xl_put 53 d_Node_comeUp_50 rfl p_Node_60 rfl rfl (kpl hi (by decide)) (sh_Node hi) rfl ?_
      refine ex_iconst (v := 1) 54 d_Node_comeUp_53 rfl (by decide) ?_
      refine ex_istore_n 55 d_Node_comeUp_54 rfl (Nat.le_of_ble_eq_true rfl) ?_
      refine Ex.toS (S' := upL i S 0) ?_ (Ex.wk (hloop0 0 (Nat.zero_le _)) (by repeat (first | exact xs_nil | refine xs_s ?_ | refine xs_n ?_)))
      simp only [u2_02] at h3
      simp only [u2_02] at h5
      show _ = u2 (u2 (u2 S (pl i 0) 5 1) (pl i 0) 6 (zb _)) (pl i 0) 7 _
      rw [zb_f (fun z => h5 z.2)]
      simp only [u2_02]
  · refine Ex.int (zb_f h3) ?_
    refine ex_ifeq 32 17 d_Node_comeUp_14 rfl rfl (fun _ => ?_) (fun h => absurd (by decide) h)
    refine ex_iconst (v := 0) 33 d_Node_comeUp_32 rfl (by decide) ?_
    refine xl_put 36 d_Node_comeUp_33 rfl p_Node_51 rfl rfl (kpl hi (by decide)) (sh_Node hi) rfl ?_
    refine ex_aload_n (a := ad (pl i 0)) 37 d_Node_comeUp_36 rfl rfl ?_
    refine ex_aload_n (a := ad (pl i 0)) 38 d_Node_comeUp_37 rfl rfl ?_
    refine ex_iconst (v := 0) 39 d_Node_comeUp_38 rfl (by decide) ?_
    refine xl_callVi [.int 0] [.ref (ad (pl i 0))] 42 d_Node_comeUp_39 rfl zv_Node_promiseFound ⟨(Nat.le_of_ble_eq_true rfl), (Nat.le_of_ble_eq_true rfl)⟩ m_Node_90 (kpl hi (by decide)) (sh_Node hi) rfl rfl (Nat.le_of_ble_eq_true rfl) rfl (Nat.le_of_ble_eq_true rfl) (c_Node_promiseFound (S := (u2 (u2 S (pl i 0) 5 (1)) (pl i 0) 6 (0))) i (0) hi (by omega)) (fun vv ww q10 => ?_)
    rw [q10.1, q10.2]
    refine ex_aload_n (a := ad (pl i 0)) 43 d_Node_comeUp_42 rfl rfl ?_
    refine ex_iconst (v := 1) 44 d_Node_comeUp_43 rfl (by decide) ?_
    refine xl_callVi [.int 1] [.int ((pfF ((u2 (u2 S (pl i 0) 5 (1)) (pl i 0) 6 (0)) (pl i 2)) (0))), .ref (ad (pl i 0))] 47 d_Node_comeUp_44 rfl zv_Node_promiseFound ⟨(Nat.le_of_ble_eq_true rfl), (Nat.le_of_ble_eq_true rfl)⟩ m_Node_90 (kpl hi (by decide)) (sh_Node hi) rfl rfl (Nat.le_of_ble_eq_true rfl) rfl (Nat.le_of_ble_eq_true rfl) (c_Node_promiseFound (S := (u2 (u2 S (pl i 0) 5 (1)) (pl i 0) 6 (0))) i (1) hi (by omega)) (fun vv ww q11 => ?_)
    rw [q11.1, q11.2]
    refine ex_mmax (a := (pfF ((u2 (u2 S (pl i 0) 5 (1)) (pl i 0) 6 (0)) (pl i 2)) (0))) (b := (pfF ((u2 (u2 S (pl i 0) 5 (1)) (pl i 0) 6 (0)) (pl i 2)) (1))) 50 d_Node_comeUp_47 rfl mm_Node_94 ⟨(Nat.le_of_ble_eq_true rfl), (Nat.le_of_ble_eq_true rfl)⟩ ?_
    refine xl_put 53 d_Node_comeUp_50 rfl p_Node_60 rfl rfl (kpl hi (by decide)) (sh_Node hi) rfl ?_
    refine ex_iconst (v := 1) 54 d_Node_comeUp_53 rfl (by decide) ?_
    refine ex_istore_n 55 d_Node_comeUp_54 rfl (Nat.le_of_ble_eq_true rfl) ?_
    refine Ex.toS (S' := upL i S 0) ?_ (Ex.wk (hloop0 0 (Nat.zero_le _)) (by repeat (first | exact xs_nil | refine xs_s ?_ | refine xs_n ?_)))
    simp only [u2_02] at h3
    show _ = u2 (u2 (u2 S (pl i 0) 5 1) (pl i 0) 6 (zb _)) (pl i 0) 7 _
    rw [zb_f (fun z => h3 z.1)]
    simp only [u2_02]
set_option maxRecDepth 100000 in
set_option maxHeartbeats 4000000 in
theorem c_SL_isNode (n : Int32) : Ex G none mi_SL_isNode 0 0 0 (xEn mi_SL_isNode [.ref (ad 0), .int n]) [] (LY G ad N S) (xI (fun v w => w = LY G ad N S ∧ v = zb (isN N n))) := by
  refine ex_iload_n (a := n) 1 d_SL_isNode_0 rfl rfl ?_
  refine ex_iflt 17 4 d_SL_isNode_1 rfl rfl (fun h1 => ?_) (fun h1 => ?_)
  · refine ex_iconst (v := 0) 18 d_SL_isNode_17 rfl (by decide) ?_
    refine ex_zret d_SL_isNode_18 rfl rfl ⟨_, rfl, ?_⟩
    refine ⟨rfl, ?_⟩
    exact Eq.symm (zb_f (fun z => absurd h1 (Int32.not_lt.mpr z.1)))
  · refine ex_iload_n (a := n) 5 d_SL_isNode_4 rfl rfl ?_
    refine ex_aload_n (a := ad 0) 6 d_SL_isNode_5 rfl rfl ?_
    refine xl_getR 9 d_SL_isNode_6 rfl g_SL_18 (kp0 (by decide)) sh_SL rfl ?_
    refine xl_alen 10 d_SL_isNode_9 rfl (kp0 (by decide)) sh_NA ?_
    refine ex_icmpge 17 13 d_SL_isNode_10 rfl rfl (fun h2 => ?_) (fun h2 => ?_)
    · refine ex_iconst (v := 0) 18 d_SL_isNode_17 rfl (by decide) ?_
      refine ex_zret d_SL_isNode_18 rfl rfl ⟨_, rfl, ?_⟩
      refine ⟨rfl, ?_⟩
      exact Eq.symm (zb_f (fun z => absurd z.2 (Int32.not_lt.mpr h2)))
    · refine ex_iconst (v := 1) 14 d_SL_isNode_13 rfl (by decide) ?_
      refine ex_goto 18 d_SL_isNode_14 rfl ?_
      refine ex_zret d_SL_isNode_18 rfl rfl ⟨_, rfl, ?_⟩
      refine ⟨rfl, ?_⟩
      exact Eq.symm (zb_t ⟨Int32.not_lt.mp h1, Int32.not_le.mp h2⟩)
set_option maxRecDepth 100000 in
set_option maxHeartbeats 4000000 in
theorem c_SL_isSlot (n : Int32) : Ex G none mi_SL_isSlot 0 0 0 (xEn mi_SL_isSlot [.int n]) [] (LY G ad N S) (xI (fun v w => w = LY G ad N S ∧ v = zb (isSl n))) := by
  refine ex_iload_n (a := n) 1 d_SL_isSlot_0 rfl rfl ?_
  refine ex_iconst (v := 1) 2 d_SL_isSlot_1 rfl (by decide) ?_
  refine ex_icmplt 15 5 d_SL_isSlot_2 rfl rfl (fun h1 => ?_) (fun h1 => ?_)
  · refine ex_iconst (v := 0) 16 d_SL_isSlot_15 rfl (by decide) ?_
    refine ex_zret d_SL_isSlot_16 rfl rfl ⟨_, rfl, ?_⟩
    refine ⟨rfl, ?_⟩
    exact Eq.symm (zb_f (fun z => absurd h1 (Int32.not_lt.mpr z.1)))
  · refine ex_iload_n (a := n) 6 d_SL_isSlot_5 rfl rfl ?_
    refine ex_bipush (v := 8) 8 d_SL_isSlot_6 rfl (by decide) ?_
    refine ex_icmpgt 15 11 d_SL_isSlot_8 rfl rfl (fun h2 => ?_) (fun h2 => ?_)
    · refine ex_iconst (v := 0) 16 d_SL_isSlot_15 rfl (by decide) ?_
      refine ex_zret d_SL_isSlot_16 rfl rfl ⟨_, rfl, ?_⟩
      refine ⟨rfl, ?_⟩
      exact Eq.symm (zb_f (fun z => absurd z.2 (Int32.not_le.mpr h2)))
    · refine ex_iconst (v := 1) 12 d_SL_isSlot_11 rfl (by decide) ?_
      refine ex_goto 16 d_SL_isSlot_12 rfl ?_
      refine ex_zret d_SL_isSlot_16 rfl rfl ⟨_, rfl, ?_⟩
      refine ⟨rfl, ?_⟩
      exact Eq.symm (zb_t ⟨Int32.not_lt.mp h1, Int32.not_lt.mp h2⟩)
set_option maxRecDepth 100000 in
set_option maxHeartbeats 4000000 in
theorem c_SL_isKey (n : Int32) : Ex G none mi_SL_isKey 0 0 0 (xEn mi_SL_isKey [.int n]) [] (LY G ad N S) (xI (fun v w => w = LY G ad N S ∧ v = zb (isKy n))) := by
  refine ex_iload_n (a := n) 1 d_SL_isKey_0 rfl rfl ?_
  refine ex_iflt 13 4 d_SL_isKey_1 rfl rfl (fun h1 => ?_) (fun h1 => ?_)
  · refine ex_iconst (v := 0) 14 d_SL_isKey_13 rfl (by decide) ?_
    refine ex_zret d_SL_isKey_14 rfl rfl ⟨_, rfl, ?_⟩
    refine ⟨rfl, ?_⟩
    exact Eq.symm (zb_f (fun z => absurd h1 (Int32.not_lt.mpr z.1)))
  · refine ex_iload_n (a := n) 5 d_SL_isKey_4 rfl rfl ?_
    refine ex_iconst (v := 4) 6 d_SL_isKey_5 rfl (by decide) ?_
    refine ex_icmpge 13 9 d_SL_isKey_6 rfl rfl (fun h2 => ?_) (fun h2 => ?_)
    · refine ex_iconst (v := 0) 14 d_SL_isKey_13 rfl (by decide) ?_
      refine ex_zret d_SL_isKey_14 rfl rfl ⟨_, rfl, ?_⟩
      refine ⟨rfl, ?_⟩
      exact Eq.symm (zb_f (fun z => absurd z.2 (Int32.not_lt.mpr h2)))
    · refine ex_iconst (v := 1) 10 d_SL_isKey_9 rfl (by decide) ?_
      refine ex_goto 14 d_SL_isKey_10 rfl ?_
      refine ex_zret d_SL_isKey_14 rfl rfl ⟨_, rfl, ?_⟩
      refine ⟨rfl, ?_⟩
      exact Eq.symm (zb_t ⟨Int32.not_lt.mp h1, Int32.not_le.mp h2⟩)
set_option maxRecDepth 100000 in
set_option maxHeartbeats 4000000 in
theorem c_SL_hindranceOf (a : Nat) (ha : a < N) (b : Int32) : Ex G none mi_SL_hindranceOf 0 0 0 (xEn mi_SL_hindranceOf [.ref (ad (pl a 0)), .int b]) [] (LY G ad N S) (xI (fun v w => w = LY G ad N S ∧ v = hindF a b S)) := by
  refine ex_aload_n (a := ad (pl a 0)) 1 d_SL_hindranceOf_0 rfl rfl ?_
  refine xl_callVi [] [] 4 d_SL_hindranceOf_1 rfl zv_Node_canTakePart ⟨(Nat.le_of_ble_eq_true rfl), (Nat.le_of_ble_eq_true rfl)⟩ m_SL_40 (kpl ha (by decide)) (sh_Node ha) rfl rfl (Nat.le_of_ble_eq_true rfl) rfl (Nat.le_of_ble_eq_true rfl) (c_Node_canTakePart (S := S) a ha) (fun vv ww q1 => ?_)
  rw [q1.1, q1.2]
  by_cases h2 : canF a S
  · refine Ex.int (zb_t h2) ?_
    refine ex_ifne 10 7 d_SL_hindranceOf_4 rfl rfl (fun _ => ?_) (fun h => absurd h (by decide))
    refine ex_aload_n (a := ad (pl a 0)) 11 d_SL_hindranceOf_10 rfl rfl ?_
    refine xl_get 14 d_SL_hindranceOf_11 rfl g_SL_178 (kpl ha (by decide)) (sh_Node ha) rfl ?_
    refine ex_iload_n (a := b) 15 d_SL_hindranceOf_14 rfl rfl ?_
    refine ex_icmple 23 18 d_SL_hindranceOf_15 rfl rfl (fun h3 => ?_) (fun h3 => ?_)
    · refine ex_iconst (v := 0) 24 d_SL_hindranceOf_23 rfl (by decide) ?_
      refine ex_iret d_SL_hindranceOf_24 rfl ⟨_, rfl, ?_⟩
      refine ⟨?_, ?_⟩
      · rfl
      · unfold hindF; rw [if_pos h2, if_pos h3]
    · refine ex_bipush (v := (-3)) 20 d_SL_hindranceOf_18 rfl (by decide) ?_
      refine ex_goto 24 d_SL_hindranceOf_20 rfl ?_
      refine ex_iret d_SL_hindranceOf_24 rfl ⟨_, rfl, ?_⟩
      refine ⟨?_, ?_⟩
      · rfl
      · unfold hindF; rw [if_pos h2, if_neg h3]
  · refine Ex.int (zb_f h2) ?_
    refine ex_ifne 10 7 d_SL_hindranceOf_4 rfl rfl (fun h => absurd (by decide) h) (fun _ => ?_)
    refine ex_bipush (v := (-2)) 9 d_SL_hindranceOf_7 rfl (by decide) ?_
    refine ex_iret d_SL_hindranceOf_9 rfl ⟨_, rfl, ?_⟩
    refine ⟨?_, ?_⟩
    · rfl
    · unfold hindF; rw [if_neg h2]
set_option maxRecDepth 100000 in
set_option maxHeartbeats 4000000 in
theorem c_SL_lead (n : Nat) (hn : n < N) (hN : N ≤ 5)  : Ex G none mi_SL_lead 0 0 0 (xEn mi_SL_lead [.ref (ad 0), .int (nI n)]) [] (LY G ad N S) (xI (fun v w => w = LY G ad N (leadS n S) ∧ v = leadR n S)) := by
  have hnN : isN N (nI n) := isN_nI hn hN
  refine ex_aload_n (a := ad 0) 1 d_SL_lead_0 rfl rfl ?_
  refine ex_iload_n (a := nI n) 2 d_SL_lead_1 rfl rfl ?_
  refine xl_callVi [.int (nI n)] [] 5 d_SL_lead_2 rfl zv_SL_isNode ⟨(Nat.le_of_ble_eq_true rfl), (Nat.le_of_ble_eq_true rfl)⟩ m_SL_37 (kp0 (by decide)) sh_SL rfl rfl (Nat.le_of_ble_eq_true rfl) rfl (Nat.le_of_ble_eq_true rfl) (c_SL_isNode (S := S) (nI n)) (fun vv ww q1 => ?_)
  rw [q1.1, q1.2]
  refine Ex.int (zb_t hnN) ?_
  refine ex_ifne 10 8 d_SL_lead_5 rfl rfl (fun _ => ?_) (fun h => absurd h (by decide))
  refine ex_aload_n (a := ad 0) 11 d_SL_lead_10 rfl rfl ?_
  refine xl_getR 14 d_SL_lead_11 rfl g_SL_18 (kp0 (by decide)) sh_SL rfl ?_
  refine ex_iload_n (a := nI n) 15 d_SL_lead_14 rfl rfl ?_
  refine xl_aald 16 d_SL_lead_15 rfl (kp0 (by decide)) sh_NA rfl (by omega) (by omega) ?_
  refine ex_astore_n 17 d_SL_lead_16 rfl (Nat.le_of_ble_eq_true rfl) ?_
  refine ex_aload_n (a := ad (pl n 0)) 18 d_SL_lead_17 rfl rfl ?_
  refine xl_callVi [] [] 21 d_SL_lead_18 rfl zv_Node_canTakePart ⟨(Nat.le_of_ble_eq_true rfl), (Nat.le_of_ble_eq_true rfl)⟩ m_SL_40 (kpl hn (by decide)) (sh_Node hn) rfl rfl (Nat.le_of_ble_eq_true rfl) rfl (Nat.le_of_ble_eq_true rfl) (c_Node_canTakePart (S := S) n hn) (fun vv ww q2 => ?_)
  rw [q2.1, q2.2]
  by_cases h3 : canF n S
  · refine Ex.int (zb_t h3) ?_
    refine ex_ifeq 31 24 d_SL_lead_21 rfl rfl (fun h => absurd h (by decide)) (fun _ => ?_)
    refine ex_aload_n (a := ad (pl n 0)) 25 d_SL_lead_24 rfl rfl ?_
    refine xl_callVi [] [] 28 d_SL_lead_25 rfl zv_Node_hasDamagedSlot ⟨(Nat.le_of_ble_eq_true rfl), (Nat.le_of_ble_eq_true rfl)⟩ m_SL_44 (kpl hn (by decide)) (sh_Node hn) rfl rfl (Nat.le_of_ble_eq_true rfl) rfl (Nat.le_of_ble_eq_true rfl) (c_Node_hasDamagedSlot (S := S) n hn) (fun vv ww q4 => ?_)
    rw [q4.1, q4.2]
    by_cases h5 : damF n S
    · refine Ex.int (zb_t h5) ?_
      refine ex_ifeq 33 31 d_SL_lead_28 rfl rfl (fun h => absurd h (by decide)) (fun _ => ?_)
      refine ex_iconst (v := 0) 32 d_SL_lead_31 rfl (by decide) ?_
      refine ex_iret d_SL_lead_32 rfl ⟨_, rfl, ?_⟩
      refine ⟨?_, ?_⟩
      · unfold leadS; rw [if_pos h3, if_pos h5]
      · unfold leadR; rw [if_pos h3, if_pos h5]
    · refine Ex.int (zb_f h5) ?_
      refine ex_ifeq 33 31 d_SL_lead_28 rfl rfl (fun _ => ?_) (fun h => absurd (by decide) h)
      refine ex_aload_n (a := ad (pl n 0)) 34 d_SL_lead_33 rfl rfl ?_
      refine xl_callVi [] [] 37 d_SL_lead_34 rfl zv_Node_nextBallot ⟨(Nat.le_of_ble_eq_true rfl), (Nat.le_of_ble_eq_true rfl)⟩ m_SL_47 (kpl hn (by decide)) (sh_Node hn) rfl rfl (Nat.le_of_ble_eq_true rfl) rfl (Nat.le_of_ble_eq_true rfl) (c_Node_nextBallot (S := S) n hn) (fun vv ww q6 => ?_)
      rw [q6.1, q6.2]
      refine ex_istore_n 38 d_SL_lead_37 rfl (Nat.le_of_ble_eq_true rfl) ?_
      refine ex_iload_n (a := (nextF n S)) 39 d_SL_lead_38 rfl rfl ?_
      refine ex_ldc (v := 60000) 41 d_SL_lead_39 rfl c_SL_51 ?_
      refine ex_icmple 46 44 d_SL_lead_41 rfl rfl (fun h7 => ?_) (fun h7 => ?_)
      · refine ex_aload_n (a := ad (pl n 0)) 47 d_SL_lead_46 rfl rfl ?_
        refine ex_iload_n (a := (nextF n S)) 48 d_SL_lead_47 rfl rfl ?_
        refine xl_callVi [.int ((nextF n S))] [] 51 d_SL_lead_48 rfl zv_Node_raisePromise ⟨(Nat.le_of_ble_eq_true rfl), (Nat.le_of_ble_eq_true rfl)⟩ m_SL_52 (kpl hn (by decide)) (sh_Node hn) rfl rfl (Nat.le_of_ble_eq_true rfl) rfl (Nat.le_of_ble_eq_true rfl) (c_Node_raisePromise (S := S) n hn (nextF n S)) (fun vv ww q8 => ?_)
        rw [q8.1, q8.2]
        by_cases h9 : rpOk n (nextF n S) S
        · refine Ex.int (zb_t h9) ?_
          refine ex_ifne 57 54 d_SL_lead_51 rfl rfl (fun _ => ?_) (fun h => absurd h (by decide))
          refine ex_aload_n (a := ad (pl n 0)) 58 d_SL_lead_57 rfl rfl ?_
          refine xl_getR 61 d_SL_lead_58 rfl g_SL_55 (kpl hn (by decide)) (sh_Node hn) rfl ?_
          refine ex_iload_n (a := (nextF n S)) 62 d_SL_lead_61 rfl rfl ?_
          refine xl_callVv [.int ((nextF n S))] [] 65 d_SL_lead_62 rfl zv_Term_begin ⟨(Nat.le_of_ble_eq_true rfl), (Nat.le_of_ble_eq_true rfl)⟩ m_SL_59 (kpl hn (by decide)) (sh_Term hn) rfl rfl (Nat.le_of_ble_eq_true rfl) rfl (Nat.le_of_ble_eq_true rfl) (c_Term_begin (S := (rpS n (nextF n S) S)) n hn (nextF n S)) (fun ww q10 => ?_)
          rw [q10]
          refine ex_iload_n (a := (nextF n S)) 66 d_SL_lead_65 rfl rfl ?_
          refine ex_iret d_SL_lead_66 rfl ⟨_, rfl, ?_⟩
          refine ⟨?_, ?_⟩
          · unfold leadS; rw [if_pos h3, if_neg h5, if_pos h7, if_pos h9]
          · unfold leadR; rw [if_pos h3, if_neg h5, if_pos h7, if_pos h9]
        · refine Ex.int (zb_f h9) ?_
          refine ex_ifne 57 54 d_SL_lead_51 rfl rfl (fun h => absurd (by decide) h) (fun _ => ?_)
          refine ex_bipush (v := (-4)) 56 d_SL_lead_54 rfl (by decide) ?_
          refine ex_iret d_SL_lead_56 rfl ⟨_, rfl, ?_⟩
          refine ⟨?_, ?_⟩
          · unfold leadS; rw [if_pos h3, if_neg h5, if_pos h7, if_neg h9]
          · unfold leadR; rw [if_pos h3, if_neg h5, if_pos h7, if_neg h9]
      · refine ex_iconst (v := 0) 45 d_SL_lead_44 rfl (by decide) ?_
        refine ex_iret d_SL_lead_45 rfl ⟨_, rfl, ?_⟩
        refine ⟨?_, ?_⟩
        · unfold leadS; rw [if_pos h3, if_neg h5, if_neg h7]
        · unfold leadR; rw [if_pos h3, if_neg h5, if_neg h7]
  · refine Ex.int (zb_f h3) ?_
    refine ex_ifeq 31 24 d_SL_lead_21 rfl rfl (fun _ => ?_) (fun h => absurd (by decide) h)
    refine ex_iconst (v := 0) 32 d_SL_lead_31 rfl (by decide) ?_
    refine ex_iret d_SL_lead_32 rfl ⟨_, rfl, ?_⟩
    refine ⟨?_, ?_⟩
    · unfold leadS; rw [if_neg h3]
    · unfold leadR; rw [if_neg h3]
set_option maxRecDepth 100000 in
set_option maxHeartbeats 4000000 in
theorem c_SL_promise (n : Nat) (hn : n < N) (a : Nat) (ha : a < N) (hN : N ≤ 5)  : Ex G none mi_SL_promise 0 0 0 (xEn mi_SL_promise [.ref (ad 0), .int (nI n), .int (nI a)]) [] (LY G ad N S) (xI (fun v w => w = LY G ad N (promS n a S) ∧ v = promR n a S)) := by
  have hnN : isN N (nI n) := isN_nI hn hN; have haN : isN N (nI a) := isN_nI ha hN
  refine ex_aload_n (a := ad 0) 1 d_SL_promise_0 rfl rfl ?_
  refine ex_iload_n (a := nI n) 2 d_SL_promise_1 rfl rfl ?_
  refine xl_callVi [.int (nI n)] [] 5 d_SL_promise_2 rfl zv_SL_isNode ⟨(Nat.le_of_ble_eq_true rfl), (Nat.le_of_ble_eq_true rfl)⟩ m_SL_37 (kp0 (by decide)) sh_SL rfl rfl (Nat.le_of_ble_eq_true rfl) rfl (Nat.le_of_ble_eq_true rfl) (c_SL_isNode (S := S) (nI n)) (fun vv ww q1 => ?_)
  rw [q1.1, q1.2]
  refine Ex.int (zb_t hnN) ?_
  refine ex_ifeq 16 8 d_SL_promise_5 rfl rfl (fun h => absurd h (by decide)) (fun _ => ?_)
  refine ex_aload_n (a := ad 0) 9 d_SL_promise_8 rfl rfl ?_
  refine ex_iload_n (a := nI a) 10 d_SL_promise_9 rfl rfl ?_
  refine xl_callVi [.int (nI a)] [] 13 d_SL_promise_10 rfl zv_SL_isNode ⟨(Nat.le_of_ble_eq_true rfl), (Nat.le_of_ble_eq_true rfl)⟩ m_SL_37 (kp0 (by decide)) sh_SL rfl rfl (Nat.le_of_ble_eq_true rfl) rfl (Nat.le_of_ble_eq_true rfl) (c_SL_isNode (S := S) (nI a)) (fun vv ww q2 => ?_)
  rw [q2.1, q2.2]
  refine Ex.int (zb_t haN) ?_
  refine ex_ifne 18 16 d_SL_promise_13 rfl rfl (fun _ => ?_) (fun h => absurd h (by decide))
  refine ex_aload_n (a := ad 0) 19 d_SL_promise_18 rfl rfl ?_
  refine xl_getR 22 d_SL_promise_19 rfl g_SL_18 (kp0 (by decide)) sh_SL rfl ?_
  refine ex_iload_n (a := nI n) 23 d_SL_promise_22 rfl rfl ?_
  refine xl_aald 24 d_SL_promise_23 rfl (kp0 (by decide)) sh_NA rfl (by omega) (by omega) ?_
  refine xl_getR 27 d_SL_promise_24 rfl g_SL_55 (kpl hn (by decide)) (sh_Node hn) rfl ?_
  refine ex_astore_n 28 d_SL_promise_27 rfl (Nat.le_of_ble_eq_true rfl) ?_
  refine ex_aload_n (a := ad (pl n 4)) 29 d_SL_promise_28 rfl rfl ?_
  refine xl_callVi [] [] 32 d_SL_promise_29 rfl zv_Term_isOn ⟨(Nat.le_of_ble_eq_true rfl), (Nat.le_of_ble_eq_true rfl)⟩ m_SL_65 (kpl hn (by decide)) (sh_Term hn) rfl rfl (Nat.le_of_ble_eq_true rfl) rfl (Nat.le_of_ble_eq_true rfl) (c_Term_isOn (S := S) n hn) (fun vv ww q3 => ?_)
  rw [q3.1, q3.2]
  by_cases h4 : ¬ S (pl n 4) 5 = 0
  · refine Ex.int (zb_t h4) ?_
    refine ex_ifne 37 35 d_SL_promise_32 rfl rfl (fun _ => ?_) (fun h => absurd h (by decide))
    refine ex_aload_n (a := ad 0) 38 d_SL_promise_37 rfl rfl ?_
    refine xl_getR 41 d_SL_promise_38 rfl g_SL_18 (kp0 (by decide)) sh_SL rfl ?_
    refine ex_iload_n (a := nI a) 42 d_SL_promise_41 rfl rfl ?_
    refine xl_aald 43 d_SL_promise_42 rfl (kp0 (by decide)) sh_NA rfl (by omega) (by omega) ?_
    refine ex_astore 45 d_SL_promise_43 rfl (Nat.le_of_ble_eq_true rfl) ?_
    refine ex_aload (a := ad (pl a 0)) 47 d_SL_promise_45 rfl rfl ?_
    refine ex_aload_n (a := ad (pl n 4)) 48 d_SL_promise_47 rfl rfl ?_
    refine xl_get 51 d_SL_promise_48 rfl g_SL_68 (kpl hn (by decide)) (sh_Term hn) rfl ?_
    refine xl_callSi [.ref (ad (pl a 0)), .int (S (pl n 4) 5)] [] 54 d_SL_promise_51 rfl zs_SL_hindranceOf ⟨(Nat.le_of_ble_eq_true rfl), (Nat.le_of_ble_eq_true rfl)⟩ m_SL_71 rfl rfl (Nat.le_of_ble_eq_true rfl) rfl (Nat.le_of_ble_eq_true rfl) (c_SL_hindranceOf (S := S) a ha (S (pl n 4) 5)) (fun vv ww q5 => ?_)
    rw [q5.1, q5.2]
    refine ex_istore 56 d_SL_promise_54 rfl (Nat.le_of_ble_eq_true rfl) ?_
    refine ex_iload (a := (hindF a (S (pl n 4) 5) S)) 58 d_SL_promise_56 rfl rfl ?_
    refine ex_ifeq 64 61 d_SL_promise_58 rfl rfl (fun h6 => ?_) (fun h6 => ?_)
    · refine ex_aload (a := ad (pl a 0)) 66 d_SL_promise_64 rfl rfl ?_
      refine ex_aload_n (a := ad (pl n 4)) 67 d_SL_promise_66 rfl rfl ?_
      refine xl_get 70 d_SL_promise_67 rfl g_SL_68 (kpl hn (by decide)) (sh_Term hn) rfl ?_
      refine xl_callVi [.int (S (pl n 4) 5)] [] 73 d_SL_promise_70 rfl zv_Node_raisePromise ⟨(Nat.le_of_ble_eq_true rfl), (Nat.le_of_ble_eq_true rfl)⟩ m_SL_52 (kpl ha (by decide)) (sh_Node ha) rfl rfl (Nat.le_of_ble_eq_true rfl) rfl (Nat.le_of_ble_eq_true rfl) (c_Node_raisePromise (S := S) a ha (S (pl n 4) 5)) (fun vv ww q7 => ?_)
      rw [q7.1, q7.2]
      by_cases h8 : rpOk a (S (pl n 4) 5) S
      · refine Ex.int (zb_t h8) ?_
        refine ex_ifne 79 76 d_SL_promise_73 rfl rfl (fun _ => ?_) (fun h => absurd h (by decide))
        refine ex_aload_n (a := ad (pl n 4)) 80 d_SL_promise_79 rfl rfl ?_
        refine ex_iload_n (a := nI a) 81 d_SL_promise_80 rfl rfl ?_
        refine ex_aload (a := ad (pl a 0)) 83 d_SL_promise_81 rfl rfl ?_
        refine xl_getR 86 d_SL_promise_83 rfl g_SL_75 (kpl ha (by decide)) (sh_Node ha) rfl ?_
        refine xl_callVv [.int (nI a), .ref (ad (pl a 3))] [] 89 d_SL_promise_86 rfl zv_Term_addPromiser ⟨(Nat.le_of_ble_eq_true rfl), (Nat.le_of_ble_eq_true rfl)⟩ m_SL_79 (kpl hn (by decide)) (sh_Term hn) rfl rfl (Nat.le_of_ble_eq_true rfl) rfl (Nat.le_of_ble_eq_true rfl) (c_Term_addPromiser (S := (rpS a (S (pl n 4) 5) S)) n (a) hn ha hN) (fun ww q9 => ?_)
        rw [q9]
        refine ex_iconst (v := 1) 90 d_SL_promise_89 rfl (by decide) ?_
        refine ex_iret d_SL_promise_90 rfl ⟨_, rfl, ?_⟩
        refine ⟨?_, ?_⟩
        · unfold promS; rw [if_pos h4, if_pos h6, if_pos h8]
        · unfold promR; rw [if_pos h4, if_pos h6, if_pos h8]
      · refine Ex.int (zb_f h8) ?_
        refine ex_ifne 79 76 d_SL_promise_73 rfl rfl (fun h => absurd (by decide) h) (fun _ => ?_)
        refine ex_bipush (v := (-4)) 78 d_SL_promise_76 rfl (by decide) ?_
        refine ex_iret d_SL_promise_78 rfl ⟨_, rfl, ?_⟩
        refine ⟨?_, ?_⟩
        · unfold promS; rw [if_pos h4, if_pos h6, if_neg h8]
        · unfold promR; rw [if_pos h4, if_pos h6, if_neg h8]
    · refine ex_iload (a := (hindF a (S (pl n 4) 5) S)) 63 d_SL_promise_61 rfl rfl ?_
      refine ex_iret d_SL_promise_63 rfl ⟨_, rfl, ?_⟩
      refine ⟨?_, ?_⟩
      · unfold promS; rw [if_pos h4, if_neg h6]
      · unfold promR; rw [if_pos h4, if_neg h6]
  · refine Ex.int (zb_f h4) ?_
    refine ex_ifne 37 35 d_SL_promise_32 rfl rfl (fun h => absurd (by decide) h) (fun _ => ?_)
    refine ex_iconst (v := 0) 36 d_SL_promise_35 rfl (by decide) ?_
    refine ex_iret d_SL_promise_36 rfl ⟨_, rfl, ?_⟩
    refine ⟨?_, ?_⟩
    · unfold promS; rw [if_neg h4]
    · unfold promR; rw [if_neg h4]
set_option maxRecDepth 100000 in
set_option maxHeartbeats 4000000 in
theorem c_Ledger_isDone (i q : Nat) (hi : i < N) (hq : q < 31) (hb : S (pl i 13) q = 0 ∨ S (pl i 13) q = 1) : Ex G none mi_Ledger_isDone 0 0 0 (xEn mi_Ledger_isDone [.ref (ad (pl i 9)), .int (nI q)]) [] (LY G ad N S) (xI (fun v w => w = LY G ad N S ∧ v = S (pl i 13) q)) := by
  refine ex_aload_n (a := ad (pl i 9)) 1 d_Ledger_isDone_0 rfl rfl ?_
  refine xl_getR 4 d_Ledger_isDone_1 rfl g_Ledger_21 (kpl hi (by decide)) (sh_Ledger hi) rfl ?_
  refine ex_iload_n (a := nI q) 5 d_Ledger_isDone_4 rfl rfl ?_
  refine xl_zald 6 d_Ledger_isDone_5 rfl (kpl hi (by decide)) (sh_Done hi) rfl (by omega) (by omega) ?_
  refine ex_zret d_Ledger_isDone_6 rfl (by rcases hb with h | h <;> rw [h] <;> rfl) ⟨_, rfl, ?_⟩
  exact ⟨rfl, rfl⟩
set_option maxRecDepth 100000 in
set_option maxHeartbeats 4000000 in
theorem c_SL_route (n : Nat) (hn : n < N) (hN : N ≤ 5) (hI : Iok N S) (q : Nat) (hq : q < 31) (hr : isReq S (nI q)) : Ex G none mi_SL_route 0 0 0 (xEn mi_SL_route [.ref (ad 0), .int (nI q), .int (nI n)]) [] (LY G ad N S) (xI (fun v w => w = LY G ad N (routeS N q n S) ∧ v = routeR N q n S)) := by
  have hnN : isN N (nI n) := isN_nI hn hN
  refine ex_aload_n (a := ad 0) 1 d_SL_route_0 rfl rfl ?_
  refine xl_getR 4 d_SL_route_1 rfl g_SL_12 (kp0 (by decide)) sh_SL rfl ?_
  refine ex_iload_n (a := nI q) 5 d_SL_route_4 rfl rfl ?_
  refine xl_callVi [.int (nI q)] [] 8 d_SL_route_5 rfl zv_Clients_isRequest ⟨(Nat.le_of_ble_eq_true rfl), (Nat.le_of_ble_eq_true rfl)⟩ m_SL_83 (kp0 (by decide)) sh_CL rfl rfl (Nat.le_of_ble_eq_true rfl) rfl (Nat.le_of_ble_eq_true rfl) (c_Clients_isRequest (S := S) (nI q)) (fun vv ww q1 => ?_)
  rw [q1.1, q1.2]
  refine Ex.int (zb_t hr) ?_
  refine ex_ifeq 19 11 d_SL_route_8 rfl rfl (fun h => absurd h (by decide)) (fun _ => ?_)
  refine ex_aload_n (a := ad 0) 12 d_SL_route_11 rfl rfl ?_
  refine ex_iload_n (a := nI n) 13 d_SL_route_12 rfl rfl ?_
  refine xl_callVi [.int (nI n)] [] 16 d_SL_route_13 rfl zv_SL_isNode ⟨(Nat.le_of_ble_eq_true rfl), (Nat.le_of_ble_eq_true rfl)⟩ m_SL_37 (kp0 (by decide)) sh_SL rfl rfl (Nat.le_of_ble_eq_true rfl) rfl (Nat.le_of_ble_eq_true rfl) (c_SL_isNode (S := S) (nI n)) (fun vv ww q2 => ?_)
  rw [q2.1, q2.2]
  refine Ex.int (zb_t hnN) ?_
  refine ex_ifne 21 19 d_SL_route_16 rfl rfl (fun _ => ?_) (fun h => absurd h (by decide))
  refine ex_aload_n (a := ad 0) 22 d_SL_route_21 rfl rfl ?_
  refine xl_getR 25 d_SL_route_22 rfl g_SL_18 (kp0 (by decide)) sh_SL rfl ?_
  refine ex_iload_n (a := nI n) 26 d_SL_route_25 rfl rfl ?_
  refine xl_aald 27 d_SL_route_26 rfl (kp0 (by decide)) sh_NA rfl (by omega) (by omega) ?_
  refine ex_astore_n 28 d_SL_route_27 rfl (Nat.le_of_ble_eq_true rfl) ?_
  refine ex_aload_n (a := ad (pl n 0)) 29 d_SL_route_28 rfl rfl ?_
  refine xl_getR 32 d_SL_route_29 rfl g_SL_86 (kpl hn (by decide)) (sh_Node hn) rfl ?_
  refine ex_iload_n (a := nI q) 33 d_SL_route_32 rfl rfl ?_
  refine xl_callVi [.int (nI q)] [] 36 d_SL_route_33 rfl zv_Ledger_isDone ⟨(Nat.le_of_ble_eq_true rfl), (Nat.le_of_ble_eq_true rfl)⟩ m_SL_90 (kpl hn (by decide)) (sh_Ledger hn) rfl rfl (Nat.le_of_ble_eq_true rfl) rfl (Nat.le_of_ble_eq_true rfl) (c_Ledger_isDone (S := S) n (q) hn (by omega) (hI.2.2.2 n hn (q) (by omega))) (fun vv ww q3 => ?_)
  rw [q3.1, q3.2]
  refine ex_ifeq 58 39 d_SL_route_36 rfl rfl (fun h4 => ?_) (fun h4 => ?_)
  · refine ex_aload_n (a := ad (pl n 0)) 59 d_SL_route_58 rfl rfl ?_
    refine xl_getR 62 d_SL_route_59 rfl g_SL_55 (kpl hn (by decide)) (sh_Node hn) rfl ?_
    refine xl_callVi [] [] 65 d_SL_route_62 rfl zv_Term_hasMajority ⟨(Nat.le_of_ble_eq_true rfl), (Nat.le_of_ble_eq_true rfl)⟩ m_SL_103 (kpl hn (by decide)) (sh_Term hn) rfl rfl (Nat.le_of_ble_eq_true rfl) rfl (Nat.le_of_ble_eq_true rfl) (c_Term_hasMajority (S := S) n hn) (fun vv ww q5 => ?_)
    rw [q5.1, q5.2]
    by_cases h6 : hasM n S
    · refine Ex.int (zb_t h6) ?_
      refine ex_ifne 70 68 d_SL_route_65 rfl rfl (fun _ => ?_) (fun h => absurd h (by decide))
      refine ex_aload_n (a := ad (pl n 0)) 71 d_SL_route_70 rfl rfl ?_
      refine xl_getR 74 d_SL_route_71 rfl g_SL_55 (kpl hn (by decide)) (sh_Node hn) rfl ?_
      refine ex_iload_n (a := nI q) 75 d_SL_route_74 rfl rfl ?_
      refine xl_callVi [.int (nI q)] [] 78 d_SL_route_75 rfl zv_Term_slotFor ⟨(Nat.le_of_ble_eq_true rfl), (Nat.le_of_ble_eq_true rfl)⟩ m_SL_106 (kpl hn (by decide)) (sh_Term hn) rfl rfl (Nat.le_of_ble_eq_true rfl) rfl (Nat.le_of_ble_eq_true rfl) (c_Term_slotFor (S := S) n hn hN (hI.2.2.1 n hn) (nI q)) (fun vv ww q7 => ?_)
      rw [q7.1, q7.2]
      refine ex_istore 80 d_SL_route_78 rfl (Nat.le_of_ble_eq_true rfl) ?_
      refine ex_iload (a := nI (slotForR N n S (nI q))) 82 d_SL_route_80 rfl rfl ?_
      refine ex_ifne 90 85 d_SL_route_82 rfl rfl (fun h8 => ?_) (fun h8 => ?_)
      · refine ex_iload (a := nI (slotForR N n S (nI q))) 92 d_SL_route_90 rfl rfl ?_
        refine ex_iret d_SL_route_92 rfl ⟨_, rfl, ?_⟩
        refine ⟨?_, ?_⟩
        · unfold routeS; rw [if_pos h4, if_pos h6]
        · unfold routeR; rw [if_pos h4, if_pos h6, if_neg h8]
      · refine ex_bipush (v := (-2)) 87 d_SL_route_85 rfl (by decide) ?_
        refine ex_goto 92 d_SL_route_87 rfl ?_
        refine ex_iret d_SL_route_92 rfl ⟨_, rfl, ?_⟩
        refine ⟨?_, ?_⟩
        · unfold routeS; rw [if_pos h4, if_pos h6]
        · unfold routeR; rw [if_pos h4, if_pos h6, if_pos h8]
    · refine Ex.int (zb_f h6) ?_
      refine ex_ifne 70 68 d_SL_route_65 rfl rfl (fun h => absurd (by decide) h) (fun _ => ?_)
      refine ex_iconst (v := 0) 69 d_SL_route_68 rfl (by decide) ?_
      refine ex_iret d_SL_route_69 rfl ⟨_, rfl, ?_⟩
      refine ⟨?_, ?_⟩
      · unfold routeS; rw [if_pos h4, if_neg h6]
      · unfold routeR; rw [if_pos h4, if_neg h6]
  · refine ex_aload_n (a := ad 0) 40 d_SL_route_39 rfl rfl ?_
    refine xl_getR 43 d_SL_route_40 rfl g_SL_12 (kp0 (by decide)) sh_SL rfl ?_
    refine ex_iload_n (a := nI q) 44 d_SL_route_43 rfl rfl ?_
    refine ex_aload_n (a := ad (pl n 0)) 45 d_SL_route_44 rfl rfl ?_
    refine xl_getR 48 d_SL_route_45 rfl g_SL_86 (kpl hn (by decide)) (sh_Node hn) rfl ?_
    refine ex_iload_n (a := nI q) 49 d_SL_route_48 rfl rfl ?_
    refine xl_callVi [.int (nI q)] [.int (nI q), .ref (ad 1)] 52 d_SL_route_49 rfl zv_Ledger_answerTo ⟨(Nat.le_of_ble_eq_true rfl), (Nat.le_of_ble_eq_true rfl)⟩ m_SL_95 (kpl hn (by decide)) (sh_Ledger hn) rfl rfl (Nat.le_of_ble_eq_true rfl) rfl (Nat.le_of_ble_eq_true rfl) (c_Ledger_answerTo (S := S) n (q) hn (by omega)) (fun vv ww q9 => ?_)
    rw [q9.1, q9.2]
    refine xl_callVv [.int (nI q), .int ((S (pl n 12) (q)))] [] 55 d_SL_route_52 rfl zv_Clients_hear ⟨(Nat.le_of_ble_eq_true rfl), (Nat.le_of_ble_eq_true rfl)⟩ m_SL_99 (kp0 (by decide)) sh_CL rfl rfl (Nat.le_of_ble_eq_true rfl) rfl (Nat.le_of_ble_eq_true rfl) (c_Clients_hear (S := S) (q) (by omega) (S (pl n 12) (q))) (fun ww q10 => ?_)
    rw [q10]
    refine ex_bipush (v := 100) 57 d_SL_route_55 rfl (by decide) ?_
    refine ex_iret d_SL_route_57 rfl ⟨_, rfl, ?_⟩
    refine ⟨?_, ?_⟩
    · unfold routeS; rw [if_neg h4]
    · unfold routeR; rw [if_neg h4]
set_option maxRecDepth 100000 in
set_option maxHeartbeats 4000000 in
theorem c_SL_vote (n : Nat) (hn : n < N) (a : Nat) (ha : a < N) (hN : N ≤ 5) (hI : Iok N S) (s : Nat) (hs1 : 1 ≤ s) (hs : s < 9) : Ex G none mi_SL_vote 0 0 0 (xEn mi_SL_vote [.ref (ad 0), .int (nI n), .int (nI a), .int (nI s)]) [] (LY G ad N S) (xI (fun v w => w = LY G ad N (voteS N n a s S) ∧ v = voteR N n a s S)) := by
  have hnN : isN N (nI n) := isN_nI hn hN; have haN : isN N (nI a) := isN_nI ha hN; have hsS : isSl (nI s) := isSl_nI hs1 hs
  refine ex_aload_n (a := ad 0) 1 d_SL_vote_0 rfl rfl ?_
  refine ex_iload_n (a := nI n) 2 d_SL_vote_1 rfl rfl ?_
  refine xl_callVi [.int (nI n)] [] 5 d_SL_vote_2 rfl zv_SL_isNode ⟨(Nat.le_of_ble_eq_true rfl), (Nat.le_of_ble_eq_true rfl)⟩ m_SL_37 (kp0 (by decide)) sh_SL rfl rfl (Nat.le_of_ble_eq_true rfl) rfl (Nat.le_of_ble_eq_true rfl) (c_SL_isNode (S := S) (nI n)) (fun vv ww q1 => ?_)
  rw [q1.1, q1.2]
  refine Ex.int (zb_t hnN) ?_
  refine ex_ifeq 23 8 d_SL_vote_5 rfl rfl (fun h => absurd h (by decide)) (fun _ => ?_)
  refine ex_aload_n (a := ad 0) 9 d_SL_vote_8 rfl rfl ?_
  refine ex_iload_n (a := nI a) 10 d_SL_vote_9 rfl rfl ?_
  refine xl_callVi [.int (nI a)] [] 13 d_SL_vote_10 rfl zv_SL_isNode ⟨(Nat.le_of_ble_eq_true rfl), (Nat.le_of_ble_eq_true rfl)⟩ m_SL_37 (kp0 (by decide)) sh_SL rfl rfl (Nat.le_of_ble_eq_true rfl) rfl (Nat.le_of_ble_eq_true rfl) (c_SL_isNode (S := S) (nI a)) (fun vv ww q2 => ?_)
  rw [q2.1, q2.2]
  refine Ex.int (zb_t haN) ?_
  refine ex_ifeq 23 16 d_SL_vote_13 rfl rfl (fun h => absurd h (by decide)) (fun _ => ?_)
  refine ex_iload_n (a := nI s) 17 d_SL_vote_16 rfl rfl ?_
  refine xl_callSi [.int (nI s)] [] 20 d_SL_vote_17 rfl zs_SL_isSlot ⟨(Nat.le_of_ble_eq_true rfl), (Nat.le_of_ble_eq_true rfl)⟩ m_SL_109 rfl rfl (Nat.le_of_ble_eq_true rfl) rfl (Nat.le_of_ble_eq_true rfl) (c_SL_isSlot (S := S) (nI s)) (fun vv ww q3 => ?_)
  rw [q3.1, q3.2]
  refine Ex.int (zb_t hsS) ?_
  refine ex_ifne 25 23 d_SL_vote_20 rfl rfl (fun _ => ?_) (fun h => absurd h (by decide))
  refine ex_aload_n (a := ad 0) 26 d_SL_vote_25 rfl rfl ?_
  refine xl_getR 29 d_SL_vote_26 rfl g_SL_18 (kp0 (by decide)) sh_SL rfl ?_
  refine ex_iload_n (a := nI n) 30 d_SL_vote_29 rfl rfl ?_
  refine xl_aald 31 d_SL_vote_30 rfl (kp0 (by decide)) sh_NA rfl (by omega) (by omega) ?_
  refine xl_getR 34 d_SL_vote_31 rfl g_SL_55 (kpl hn (by decide)) (sh_Node hn) rfl ?_
  refine ex_astore 36 d_SL_vote_34 rfl (Nat.le_of_ble_eq_true rfl) ?_
  refine ex_aload (a := ad (pl n 4)) 38 d_SL_vote_36 rfl rfl ?_
  refine xl_callVi [] [] 41 d_SL_vote_38 rfl zv_Term_hasMajority ⟨(Nat.le_of_ble_eq_true rfl), (Nat.le_of_ble_eq_true rfl)⟩ m_SL_103 (kpl hn (by decide)) (sh_Term hn) rfl rfl (Nat.le_of_ble_eq_true rfl) rfl (Nat.le_of_ble_eq_true rfl) (c_Term_hasMajority (S := S) n hn) (fun vv ww q4 => ?_)
  rw [q4.1, q4.2]
  by_cases h5 : hasM n S
  · refine Ex.int (zb_t h5) ?_
    refine ex_ifne 46 44 d_SL_vote_41 rfl rfl (fun _ => ?_) (fun h => absurd h (by decide))
    refine ex_aload_n (a := ad 0) 47 d_SL_vote_46 rfl rfl ?_
    refine xl_getR 50 d_SL_vote_47 rfl g_SL_18 (kp0 (by decide)) sh_SL rfl ?_
    refine ex_iload_n (a := nI a) 51 d_SL_vote_50 rfl rfl ?_
    refine xl_aald 52 d_SL_vote_51 rfl (kp0 (by decide)) sh_NA rfl (by omega) (by omega) ?_
    refine ex_astore 54 d_SL_vote_52 rfl (Nat.le_of_ble_eq_true rfl) ?_
    refine ex_aload (a := ad (pl a 0)) 56 d_SL_vote_54 rfl rfl ?_
    refine ex_aload (a := ad (pl n 4)) 58 d_SL_vote_56 rfl rfl ?_
    refine xl_get 61 d_SL_vote_58 rfl g_SL_68 (kpl hn (by decide)) (sh_Term hn) rfl ?_
    refine xl_callSi [.ref (ad (pl a 0)), .int (S (pl n 4) 5)] [] 64 d_SL_vote_61 rfl zs_SL_hindranceOf ⟨(Nat.le_of_ble_eq_true rfl), (Nat.le_of_ble_eq_true rfl)⟩ m_SL_71 rfl rfl (Nat.le_of_ble_eq_true rfl) rfl (Nat.le_of_ble_eq_true rfl) (c_SL_hindranceOf (S := S) a ha (S (pl n 4) 5)) (fun vv ww q6 => ?_)
    rw [q6.1, q6.2]
    refine ex_istore 66 d_SL_vote_64 rfl (Nat.le_of_ble_eq_true rfl) ?_
    refine ex_iload (a := (hindF a (S (pl n 4) 5) S)) 68 d_SL_vote_66 rfl rfl ?_
    refine ex_ifeq 74 71 d_SL_vote_68 rfl rfl (fun h7 => ?_) (fun h7 => ?_)
    · refine ex_aload (a := ad (pl n 4)) 76 d_SL_vote_74 rfl rfl ?_
      refine ex_iload_n (a := nI s) 77 d_SL_vote_76 rfl rfl ?_
      refine xl_callVi [.int (nI s)] [] 80 d_SL_vote_77 rfl zv_Term_fix ⟨(Nat.le_of_ble_eq_true rfl), (Nat.le_of_ble_eq_true rfl)⟩ m_SL_112 (kpl hn (by decide)) (sh_Term hn) rfl rfl (Nat.le_of_ble_eq_true rfl) rfl (Nat.le_of_ble_eq_true rfl) (c_Term_fix (S := S) n (s) hn (by omega) hN (hI.2.2.1 n hn)) (fun vv ww q8 => ?_)
      rw [q8.1, q8.2]
      by_cases h9 : fixOk N n (s) S
      · refine Ex.int (zb_t h9) ?_
        refine ex_ifne 86 83 d_SL_vote_80 rfl rfl (fun _ => ?_) (fun h => absurd h (by decide))
        refine ex_aload (a := ad (pl n 4)) 88 d_SL_vote_86 rfl rfl ?_
        refine xl_get 91 d_SL_vote_88 rfl g_SL_68 (kpl hn (by decide)) (sh_Term hn) rfl ?_
        refine ex_istore 93 d_SL_vote_91 rfl (Nat.le_of_ble_eq_true rfl) ?_
        refine ex_aload (a := ad (pl n 4)) 95 d_SL_vote_93 rfl rfl ?_
        refine xl_getR 98 d_SL_vote_95 rfl g_SL_115 (kpl hn (by decide)) (sh_Term hn) rfl ?_
        refine ex_iload_n (a := nI s) 99 d_SL_vote_98 rfl rfl ?_
        refine xl_iald 100 d_SL_vote_99 rfl (kpl hn (by decide)) (sh_Fixed hn) rfl (by omega) (by omega) ?_
        refine ex_istore 102 d_SL_vote_100 rfl (Nat.le_of_ble_eq_true rfl) ?_
        refine ex_aload (a := ad (pl a 0)) 104 d_SL_vote_102 rfl rfl ?_
        refine ex_iload (a := (fixS N n (s) S) (pl n 4) 5) 106 d_SL_vote_104 rfl rfl ?_
        refine xl_callVi [.int ((fixS N n (s) S) (pl n 4) 5)] [] 109 d_SL_vote_106 rfl zv_Node_raisePromise ⟨(Nat.le_of_ble_eq_true rfl), (Nat.le_of_ble_eq_true rfl)⟩ m_SL_52 (kpl ha (by decide)) (sh_Node ha) rfl rfl (Nat.le_of_ble_eq_true rfl) rfl (Nat.le_of_ble_eq_true rfl) (c_Node_raisePromise (S := (fixS N n (s) S)) a ha ((fixS N n (s) S) (pl n 4) 5)) (fun vv ww q10 => ?_)
        rw [q10.1, q10.2]
        by_cases h11 : rpOk a ((fixS N n (s) S) (pl n 4) 5) (fixS N n (s) S)
        · refine Ex.int (zb_t h11) ?_
          refine ex_ifeq 125 112 d_SL_vote_109 rfl rfl (fun h => absurd h (by decide)) (fun _ => ?_)
          refine ex_aload (a := ad (pl a 0)) 114 d_SL_vote_112 rfl rfl ?_
          refine ex_iload_n (a := nI s) 115 d_SL_vote_114 rfl rfl ?_
          refine ex_iload (a := (fixS N n (s) S) (pl n 6) s) 117 d_SL_vote_115 rfl rfl ?_
          refine ex_iload (a := (fixS N n (s) S) (pl n 4) 5) 119 d_SL_vote_117 rfl rfl ?_
          refine xl_callVi [.int (nI s), .int ((fixS N n (s) S) (pl n 6) s), .int ((fixS N n (s) S) (pl n 4) 5)] [] 122 d_SL_vote_119 rfl zv_Node_writeVote ⟨(Nat.le_of_ble_eq_true rfl), (Nat.le_of_ble_eq_true rfl)⟩ m_SL_118 (kpl ha (by decide)) (sh_Node ha) rfl rfl (Nat.le_of_ble_eq_true rfl) rfl (Nat.le_of_ble_eq_true rfl) (c_Node_writeVote (S := (rpS a ((fixS N n (s) S) (pl n 4) 5) (fixS N n (s) S))) a (s) ha (by omega) (by omega) ((fixS N n (s) S) (pl n 6) s) ((fixS N n (s) S) (pl n 4) 5)) (fun vv ww q12 => ?_)
          rw [q12.1, q12.2]
          by_cases h13 : wvOk a (s) ((fixS N n (s) S) (pl n 6) s) ((fixS N n (s) S) (pl n 4) 5) (rpS a ((fixS N n (s) S) (pl n 4) 5) (fixS N n (s) S))
          · refine Ex.int (zb_t h13) ?_
            refine ex_ifne 128 125 d_SL_vote_122 rfl rfl (fun _ => ?_) (fun h => absurd h (by decide))
            refine ex_aload (a := ad (pl n 4)) 130 d_SL_vote_128 rfl rfl ?_
            refine ex_iload_n (a := nI s) 131 d_SL_vote_130 rfl rfl ?_
            refine ex_iload_n (a := nI a) 132 d_SL_vote_131 rfl rfl ?_
            refine xl_callVi [.int (nI s), .int (nI a)] [] 135 d_SL_vote_132 rfl zv_Term_addVoter ⟨(Nat.le_of_ble_eq_true rfl), (Nat.le_of_ble_eq_true rfl)⟩ m_SL_122 (kpl hn (by decide)) (sh_Term hn) rfl rfl (Nat.le_of_ble_eq_true rfl) rfl (Nat.le_of_ble_eq_true rfl) (c_Term_addVoter (S := (wvS a (s) ((fixS N n (s) S) (pl n 6) s) ((fixS N n (s) S) (pl n 4) 5) (rpS a ((fixS N n (s) S) (pl n 4) 5) (fixS N n (s) S)))) n (s) (a) hn (by omega)) (fun vv ww q14 => ?_)
            rw [q14.1, q14.2]
            by_cases h15 : majF n (addVS n (s) (a) (wvS a (s) ((fixS N n (s) S) (pl n 6) s) ((fixS N n (s) S) (pl n 4) 5) (rpS a ((fixS N n (s) S) (pl n 4) 5) (fixS N n (s) S)))) (bcF (addVS n (s) (a) (wvS a (s) ((fixS N n (s) S) (pl n 6) s) ((fixS N n (s) S) (pl n 4) 5) (rpS a ((fixS N n (s) S) (pl n 4) 5) (fixS N n (s) S))) (pl n 7) (s)))
            · refine Ex.int (zb_t h15) ?_
              refine ex_istore 137 d_SL_vote_135 rfl (Nat.le_of_ble_eq_true rfl) ?_
              refine ex_iload (a := 1) 139 d_SL_vote_137 rfl rfl ?_
              refine ex_ifeq 164 142 d_SL_vote_139 rfl rfl (fun h => absurd h (by decide)) (fun _ => ?_)
              refine ex_aload_n (a := ad 0) 143 d_SL_vote_142 rfl rfl ?_
              refine xl_getR 146 d_SL_vote_143 rfl g_SL_18 (kp0 (by decide)) sh_SL rfl ?_
              refine ex_iload_n (a := nI n) 147 d_SL_vote_146 rfl rfl ?_
              refine xl_aald 148 d_SL_vote_147 rfl (kp0 (by decide)) sh_NA rfl (by omega) (by omega) ?_
              refine xl_getR 151 d_SL_vote_148 rfl g_SL_86 (kpl hn (by decide)) (sh_Node hn) rfl ?_
              refine ex_iload_n (a := nI s) 152 d_SL_vote_151 rfl rfl ?_
              refine ex_iload (a := (fixS N n (s) S) (pl n 6) s) 154 d_SL_vote_152 rfl rfl ?_
              refine xl_callVi [.int (nI s), .int ((fixS N n (s) S) (pl n 6) s)] [] 157 d_SL_vote_154 rfl zv_Ledger_learn ⟨(Nat.le_of_ble_eq_true rfl), (Nat.le_of_ble_eq_true rfl)⟩ m_SL_126 (kpl hn (by decide)) (sh_Ledger hn) rfl rfl (Nat.le_of_ble_eq_true rfl) rfl (Nat.le_of_ble_eq_true rfl) (c_Ledger_learn (S := (addVS n (s) (a) (wvS a (s) ((fixS N n (s) S) (pl n 6) s) ((fixS N n (s) S) (pl n 4) 5) (rpS a ((fixS N n (s) S) (pl n 4) 5) (fixS N n (s) S))))) n (s) hn (by omega) hI.fix.rp.wv.addV.1 (hI.fix.rp.wv.addV.2.1 n hn) ((fixS N n (s) S) (pl n 6) s)) (fun vv ww q16 => ?_)
              rw [q16.1, q16.2]
              by_cases h17 : (addVS n (s) (a) (wvS a (s) ((fixS N n (s) S) (pl n 6) s) ((fixS N n (s) S) (pl n 4) 5) (rpS a ((fixS N n (s) S) (pl n 4) 5) (fixS N n (s) S)))) (pl n 10) (s) = (-1)
              · refine Ex.int (zb_t h17) ?_
                refine ex_ifeq 164 160 d_SL_vote_157 rfl rfl (fun h => absurd h (by decide)) (fun _ => ?_)
                refine ex_iconst (v := 2) 161 d_SL_vote_160 rfl (by decide) ?_
                refine ex_goto 165 d_SL_vote_161 rfl ?_
                refine ex_iret d_SL_vote_165 rfl ⟨_, rfl, ?_⟩
                refine ⟨?_, ?_⟩
                · unfold voteS; rw [if_pos h5, if_pos h7, if_pos h9, if_pos h11, if_pos h13, if_pos h15]
                · unfold voteR; rw [if_pos h5, if_pos h7, if_pos h9, if_pos h11, if_pos h13, if_pos h15, if_pos h17]
              · refine Ex.int (zb_f h17) ?_
                refine ex_ifeq 164 160 d_SL_vote_157 rfl rfl (fun _ => ?_) (fun h => absurd (by decide) h)
                refine ex_iconst (v := 1) 165 d_SL_vote_164 rfl (by decide) ?_
                refine ex_iret d_SL_vote_165 rfl ⟨_, rfl, ?_⟩
                refine ⟨?_, ?_⟩
                · unfold voteS; rw [if_pos h5, if_pos h7, if_pos h9, if_pos h11, if_pos h13, if_pos h15]
                · unfold voteR; rw [if_pos h5, if_pos h7, if_pos h9, if_pos h11, if_pos h13, if_pos h15, if_neg h17]
            · refine Ex.int (zb_f h15) ?_
              refine ex_istore 137 d_SL_vote_135 rfl (Nat.le_of_ble_eq_true rfl) ?_
              refine ex_iload (a := 0) 139 d_SL_vote_137 rfl rfl ?_
              refine ex_ifeq 164 142 d_SL_vote_139 rfl rfl (fun _ => ?_) (fun h => absurd (by decide) h)
              refine ex_iconst (v := 1) 165 d_SL_vote_164 rfl (by decide) ?_
              refine ex_iret d_SL_vote_165 rfl ⟨_, rfl, ?_⟩
              refine ⟨?_, ?_⟩
              · unfold voteS; rw [if_pos h5, if_pos h7, if_pos h9, if_pos h11, if_pos h13, if_neg h15]
              · unfold voteR; rw [if_pos h5, if_pos h7, if_pos h9, if_pos h11, if_pos h13, if_neg h15]
          · refine Ex.int (zb_f h13) ?_
            refine ex_ifne 128 125 d_SL_vote_122 rfl rfl (fun h => absurd (by decide) h) (fun _ => ?_)
            refine ex_bipush (v := (-4)) 127 d_SL_vote_125 rfl (by decide) ?_
            refine ex_iret d_SL_vote_127 rfl ⟨_, rfl, ?_⟩
            refine ⟨?_, ?_⟩
            · unfold voteS; rw [if_pos h5, if_pos h7, if_pos h9, if_pos h11, if_neg h13]
            · unfold voteR; rw [if_pos h5, if_pos h7, if_pos h9, if_pos h11, if_neg h13]
        · refine Ex.int (zb_f h11) ?_
          refine ex_ifeq 125 112 d_SL_vote_109 rfl rfl (fun _ => ?_) (fun h => absurd (by decide) h)
          refine ex_bipush (v := (-4)) 127 d_SL_vote_125 rfl (by decide) ?_
          refine ex_iret d_SL_vote_127 rfl ⟨_, rfl, ?_⟩
          refine ⟨?_, ?_⟩
          · unfold voteS; rw [if_pos h5, if_pos h7, if_pos h9, if_neg h11]
          · unfold voteR; rw [if_pos h5, if_pos h7, if_pos h9, if_neg h11]
      · refine Ex.int (zb_f h9) ?_
        refine ex_ifne 86 83 d_SL_vote_80 rfl rfl (fun h => absurd (by decide) h) (fun _ => ?_)
        refine ex_bipush (v := (-5)) 85 d_SL_vote_83 rfl (by decide) ?_
        refine ex_iret d_SL_vote_85 rfl ⟨_, rfl, ?_⟩
        refine ⟨?_, ?_⟩
        · unfold voteS; rw [if_pos h5, if_pos h7, if_neg h9]
        · unfold voteR; rw [if_pos h5, if_pos h7, if_neg h9]
    · refine ex_iload (a := (hindF a (S (pl n 4) 5) S)) 73 d_SL_vote_71 rfl rfl ?_
      refine ex_iret d_SL_vote_73 rfl ⟨_, rfl, ?_⟩
      refine ⟨?_, ?_⟩
      · unfold voteS; rw [if_pos h5, if_neg h7]
      · unfold voteR; rw [if_pos h5, if_neg h7]
  · refine Ex.int (zb_f h5) ?_
    refine ex_ifne 46 44 d_SL_vote_41 rfl rfl (fun h => absurd (by decide) h) (fun _ => ?_)
    refine ex_iconst (v := 0) 45 d_SL_vote_44 rfl (by decide) ?_
    refine ex_iret d_SL_vote_45 rfl ⟨_, rfl, ?_⟩
    refine ⟨?_, ?_⟩
    · unfold voteS; rw [if_neg h5]
    · unfold voteR; rw [if_neg h5]
set_option maxRecDepth 100000 in
set_option maxHeartbeats 4000000 in
theorem c_SL_tell (n : Nat) (hn : n < N) (m : Nat) (hm : m < N) (hN : N ≤ 5) (hI : Iok N S) (hnm : n ≠ m) : Ex G none mi_SL_tell 0 0 0 (xEn mi_SL_tell [.ref (ad 0), .int (nI n), .int (nI m)]) [] (LY G ad N S) (xI (fun v w => w = LY G ad N (tellS n m S) ∧ v = tellR n m S)) := by
  have hnN : isN N (nI n) := isN_nI hn hN; have hmN : isN N (nI m) := isN_nI hm hN
  refine ex_aload_n (a := ad 0) 1 d_SL_tell_0 rfl rfl ?_
  refine ex_iload_n (a := nI n) 2 d_SL_tell_1 rfl rfl ?_
  refine xl_callVi [.int (nI n)] [] 5 d_SL_tell_2 rfl zv_SL_isNode ⟨(Nat.le_of_ble_eq_true rfl), (Nat.le_of_ble_eq_true rfl)⟩ m_SL_37 (kp0 (by decide)) sh_SL rfl rfl (Nat.le_of_ble_eq_true rfl) rfl (Nat.le_of_ble_eq_true rfl) (c_SL_isNode (S := S) (nI n)) (fun vv ww q1 => ?_)
  rw [q1.1, q1.2]
  refine Ex.int (zb_t hnN) ?_
  refine ex_ifeq 21 8 d_SL_tell_5 rfl rfl (fun h => absurd h (by decide)) (fun _ => ?_)
  refine ex_aload_n (a := ad 0) 9 d_SL_tell_8 rfl rfl ?_
  refine ex_iload_n (a := nI m) 10 d_SL_tell_9 rfl rfl ?_
  refine xl_callVi [.int (nI m)] [] 13 d_SL_tell_10 rfl zv_SL_isNode ⟨(Nat.le_of_ble_eq_true rfl), (Nat.le_of_ble_eq_true rfl)⟩ m_SL_37 (kp0 (by decide)) sh_SL rfl rfl (Nat.le_of_ble_eq_true rfl) rfl (Nat.le_of_ble_eq_true rfl) (c_SL_isNode (S := S) (nI m)) (fun vv ww q2 => ?_)
  rw [q2.1, q2.2]
  refine Ex.int (zb_t hmN) ?_
  refine ex_ifeq 21 16 d_SL_tell_13 rfl rfl (fun h => absurd h (by decide)) (fun _ => ?_)
  refine ex_iload_n (a := nI n) 17 d_SL_tell_16 rfl rfl ?_
  refine ex_iload_n (a := nI m) 18 d_SL_tell_17 rfl rfl ?_
  refine ex_icmpne 23 21 d_SL_tell_18 rfl rfl (fun _ => ?_) (fun h => absurd h (xn_ne rfl rfl (by omega) (by omega) (by omega)))
  refine ex_aload_n (a := ad 0) 24 d_SL_tell_23 rfl rfl ?_
  refine xl_getR 27 d_SL_tell_24 rfl g_SL_18 (kp0 (by decide)) sh_SL rfl ?_
  refine ex_iload_n (a := nI n) 28 d_SL_tell_27 rfl rfl ?_
  refine xl_aald 29 d_SL_tell_28 rfl (kp0 (by decide)) sh_NA rfl (by omega) (by omega) ?_
  refine xl_get 32 d_SL_tell_29 rfl g_SL_129 (kpl hn (by decide)) (sh_Node hn) rfl ?_
  refine ex_ifeq 47 35 d_SL_tell_32 rfl rfl (fun h3 => ?_) (fun h3 => ?_)
  · refine ex_bipush (v := (-2)) 49 d_SL_tell_47 rfl (by decide) ?_
    refine ex_iret d_SL_tell_49 rfl ⟨_, rfl, ?_⟩
    refine ⟨?_, ?_⟩
    · unfold tellS; rw [if_pos h3]
    · unfold tellR; rw [if_pos h3]
  · refine ex_aload_n (a := ad 0) 36 d_SL_tell_35 rfl rfl ?_
    refine xl_getR 39 d_SL_tell_36 rfl g_SL_18 (kp0 (by decide)) sh_SL rfl ?_
    refine ex_iload_n (a := nI m) 40 d_SL_tell_39 rfl rfl ?_
    refine xl_aald 41 d_SL_tell_40 rfl (kp0 (by decide)) sh_NA rfl (by omega) (by omega) ?_
    refine xl_get 44 d_SL_tell_41 rfl g_SL_129 (kpl hm (by decide)) (sh_Node hm) rfl ?_
    refine ex_ifne 50 47 d_SL_tell_44 rfl rfl (fun h4 => ?_) (fun h4 => ?_)
    · refine ex_aload_n (a := ad 0) 51 d_SL_tell_50 rfl rfl ?_
      refine xl_getR 54 d_SL_tell_51 rfl g_SL_18 (kp0 (by decide)) sh_SL rfl ?_
      refine ex_iload_n (a := nI m) 55 d_SL_tell_54 rfl rfl ?_
      refine xl_aald 56 d_SL_tell_55 rfl (kp0 (by decide)) sh_NA rfl (by omega) (by omega) ?_
      refine xl_getR 59 d_SL_tell_56 rfl g_SL_86 (kpl hm (by decide)) (sh_Node hm) rfl ?_
      refine ex_aload_n (a := ad 0) 60 d_SL_tell_59 rfl rfl ?_
      refine xl_getR 63 d_SL_tell_60 rfl g_SL_18 (kp0 (by decide)) sh_SL rfl ?_
      refine ex_iload_n (a := nI n) 64 d_SL_tell_63 rfl rfl ?_
      refine xl_aald 65 d_SL_tell_64 rfl (kp0 (by decide)) sh_NA rfl (by omega) (by omega) ?_
      refine xl_getR 68 d_SL_tell_65 rfl g_SL_86 (kpl hn (by decide)) (sh_Node hn) rfl ?_
      refine xl_callVi [.ref (ad (pl n 9))] [] 71 d_SL_tell_68 rfl zv_Ledger_learnAll ⟨(Nat.le_of_ble_eq_true rfl), (Nat.le_of_ble_eq_true rfl)⟩ m_SL_133 (kpl hm (by decide)) (sh_Ledger hm) rfl rfl (Nat.le_of_ble_eq_true rfl) rfl (Nat.le_of_ble_eq_true rfl) (c_Ledger_learnAll (S := S) m n hm hn hI.1 (hI.2.1 m hm)) (fun vv ww q5 => ?_)
      rw [q5.1, q5.2]
      refine ex_iret d_SL_tell_71 rfl ⟨_, rfl, ?_⟩
      refine ⟨?_, ?_⟩
      · unfold tellS; rw [if_neg h3, if_neg h4]
      · unfold tellR; rw [if_neg h3, if_neg h4]
    · refine ex_bipush (v := (-2)) 49 d_SL_tell_47 rfl (by decide) ?_
      refine ex_iret d_SL_tell_49 rfl ⟨_, rfl, ?_⟩
      refine ⟨?_, ?_⟩
      · unfold tellS; rw [if_neg h3, if_pos h4]
      · unfold tellR; rw [if_neg h3, if_pos h4]
end WK
