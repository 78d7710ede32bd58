section WK
variable {G : xC} {ad : Nat → Nat} {N : Nat} {S : sT}
set_option maxRecDepth 100000 in
set_option maxHeartbeats 4000000 in
theorem c_SlotState_wholeWith (a b : Int32) : Ex G none mi_SlotState_wholeWith 0 0 0 (xEn mi_SlotState_wholeWith [.int a, .int b]) [] (LY G ad N S) (xI (fun v w => w = LY G ad N S ∧ v = 64 * a + b)) := by
  refine ex_bipush (v := 64) 2 d_SlotState_wholeWith_0 rfl (by decide) ?_
  refine ex_iload_n (a := a) 3 d_SlotState_wholeWith_2 rfl rfl ?_
  refine ex_imul 4 d_SlotState_wholeWith_3 rfl ?_
  refine ex_iload_n (a := b) 5 d_SlotState_wholeWith_4 rfl rfl ?_
  refine ex_iadd 6 d_SlotState_wholeWith_5 rfl ?_
  refine ex_iret d_SlotState_wholeWith_6 rfl ⟨_, rfl, ?_⟩
  exact ⟨rfl, rfl⟩
set_option maxRecDepth 100000 in
set_option maxHeartbeats 4000000 in
theorem c_SlotState_damagedWith (a : Int32) : Ex G none mi_SlotState_damagedWith 0 0 0 (xEn mi_SlotState_damagedWith [.int a]) [] (LY G ad N S) (xI (fun v w => w = LY G ad N S ∧ v = (-2) - a)) := by
  refine ex_bipush (v := (-2)) 2 d_SlotState_damagedWith_0 rfl (by decide) ?_
  refine ex_iload_n (a := a) 3 d_SlotState_damagedWith_2 rfl rfl ?_
  refine ex_isub 4 d_SlotState_damagedWith_3 rfl ?_
  refine ex_iret d_SlotState_damagedWith_4 rfl ⟨_, rfl, ?_⟩
  exact ⟨rfl, rfl⟩
set_option maxRecDepth 100000 in
set_option maxHeartbeats 4000000 in
theorem c_SlotState_isWhole (a : Int32) : Ex G none mi_SlotState_isWhole 0 0 0 (xEn mi_SlotState_isWhole [.int a]) [] (LY G ad N S) (xI (fun v w => w = LY G ad N S ∧ v = zb (0 < a))) := by
  refine ex_iload_n (a := a) 1 d_SlotState_isWhole_0 rfl rfl ?_
  refine ex_ifle 8 4 d_SlotState_isWhole_1 rfl rfl (fun h1 => ?_) (fun h1 => ?_)
  · refine ex_iconst (v := 0) 9 d_SlotState_isWhole_8 rfl (by decide) ?_
    refine ex_zret d_SlotState_isWhole_9 rfl rfl ⟨_, rfl, ?_⟩
    refine ⟨rfl, ?_⟩
    unfold zb; split <;> first | rfl | (exfalso; simp only [Int32.lt_iff_toInt_lt, Int32.le_iff_toInt_le, ← Int32.toInt_inj] at *; omega)
  · refine ex_iconst (v := 1) 5 d_SlotState_isWhole_4 rfl (by decide) ?_
    refine ex_goto 9 d_SlotState_isWhole_5 rfl ?_
    refine ex_zret d_SlotState_isWhole_9 rfl rfl ⟨_, rfl, ?_⟩
    refine ⟨rfl, ?_⟩
    unfold zb; split <;> first | rfl | (exfalso; simp only [Int32.lt_iff_toInt_lt, Int32.le_iff_toInt_le, ← Int32.toInt_inj] at *; omega)
set_option maxRecDepth 100000 in
set_option maxHeartbeats 4000000 in
theorem c_SlotState_isDamaged (a : Int32) : Ex G none mi_SlotState_isDamaged 0 0 0 (xEn mi_SlotState_isDamaged [.int a]) [] (LY G ad N S) (xI (fun v w => w = LY G ad N S ∧ v = zb (a < 0))) := by
  refine ex_iload_n (a := a) 1 d_SlotState_isDamaged_0 rfl rfl ?_
  refine ex_ifge 8 4 d_SlotState_isDamaged_1 rfl rfl (fun h1 => ?_) (fun h1 => ?_)
  · refine ex_iconst (v := 0) 9 d_SlotState_isDamaged_8 rfl (by decide) ?_
    refine ex_zret d_SlotState_isDamaged_9 rfl rfl ⟨_, rfl, ?_⟩
    refine ⟨rfl, ?_⟩
    unfold zb; split <;> first | rfl | (exfalso; simp only [Int32.lt_iff_toInt_lt, Int32.le_iff_toInt_le, ← Int32.toInt_inj] at *; omega)
  · refine ex_iconst (v := 1) 5 d_SlotState_isDamaged_4 rfl (by decide) ?_
    refine ex_goto 9 d_SlotState_isDamaged_5 rfl ?_
    refine ex_zret d_SlotState_isDamaged_9 rfl rfl ⟨_, rfl, ?_⟩
    refine ⟨rfl, ?_⟩
    unfold zb; split <;> first | rfl | (exfalso; simp only [Int32.lt_iff_toInt_lt, Int32.le_iff_toInt_le, ← Int32.toInt_inj] at *; omega)
set_option maxRecDepth 100000 in
set_option maxHeartbeats 4000000 in
theorem c_SlotState_ballotOf (a : Int32) : Ex G none mi_SlotState_ballotOf 0 0 0 (xEn mi_SlotState_ballotOf [.int a]) [] (LY G ad N S) (xI (fun v w => w = LY G ad N S ∧ v = blOf a)) := by
  refine ex_iload_n (a := a) 1 d_SlotState_ballotOf_0 rfl rfl ?_
  refine ex_ldc (v := (-1000000)) 3 d_SlotState_ballotOf_1 rfl c_SlotState_9 ?_
  refine ex_icmpne 9 6 d_SlotState_ballotOf_3 rfl rfl (fun h1 => ?_) (fun h1 => ?_)
  · refine ex_iload_n (a := a) 10 d_SlotState_ballotOf_9 rfl rfl ?_
    refine ex_ifge 20 13 d_SlotState_ballotOf_10 rfl rfl (fun h2 => ?_) (fun h2 => ?_)
    · refine ex_iload_n (a := a) 21 d_SlotState_ballotOf_20 rfl rfl ?_
      refine ex_bipush (v := 64) 23 d_SlotState_ballotOf_21 rfl (by decide) ?_
      refine ex_idiv 24 d_SlotState_ballotOf_23 rfl (by decide) ?_
      refine ex_iret d_SlotState_ballotOf_24 rfl ⟨_, rfl, ?_⟩
      refine ⟨rfl, ?_⟩
      unfold blOf; rw [if_neg h1, if_neg (Int32.not_lt.mpr h2)]
    · refine ex_bipush (v := (-2)) 15 d_SlotState_ballotOf_13 rfl (by decide) ?_
      refine ex_iload_n (a := a) 16 d_SlotState_ballotOf_15 rfl rfl ?_
      refine ex_isub 17 d_SlotState_ballotOf_16 rfl ?_
      refine ex_goto 24 d_SlotState_ballotOf_17 rfl ?_
      refine ex_iret d_SlotState_ballotOf_24 rfl ⟨_, rfl, ?_⟩
      refine ⟨rfl, ?_⟩
      unfold blOf; rw [if_neg h1, if_pos (Int32.not_le.mp h2)]
  · refine ex_ldc (v := 1000000) 8 d_SlotState_ballotOf_6 rfl c_SlotState_10 ?_
    refine ex_iret d_SlotState_ballotOf_8 rfl ⟨_, rfl, ?_⟩
    refine ⟨rfl, ?_⟩
    unfold blOf; rw [if_pos h1]
set_option maxRecDepth 100000 in
set_option maxHeartbeats 4000000 in
theorem c_SlotState_commandOf (a : Int32) : Ex G none mi_SlotState_commandOf 0 0 0 (xEn mi_SlotState_commandOf [.int a]) [] (LY G ad N S) (xI (fun v w => w = LY G ad N S ∧ v = cmOf a)) := by
  refine ex_iload_n (a := a) 1 d_SlotState_commandOf_0 rfl rfl ?_
  refine ex_bipush (v := 64) 3 d_SlotState_commandOf_1 rfl (by decide) ?_
  refine ex_irem 4 d_SlotState_commandOf_3 rfl (by decide) ?_
  refine ex_iret d_SlotState_commandOf_4 rfl ⟨_, rfl, ?_⟩
  exact ⟨rfl, rfl⟩
set_option maxRecDepth 100000 in
set_option maxHeartbeats 4000000 in
theorem c_Disk_isWrong (i s : Nat) (hi : i < N) (hs : s < 18) : Ex G none mi_Disk_isWrong 0 0 0 (xEn mi_Disk_isWrong [.ref (ad (pl i 1)), .int (nI s)]) [] (LY G ad N S) (xI (fun v w => w = LY G ad N S ∧ v = zb (wrongF (S (pl i 2)) (8 * s)))) := by
  refine ex_iload_n (a := nI s) 1 d_Disk_isWrong_0 rfl rfl ?_
  refine ex_bipush (v := 8) 3 d_Disk_isWrong_1 rfl (by decide) ?_
  refine ex_imulN (8 * s) 4 d_Disk_isWrong_3 rfl rfl (xn_lit 8) (by omega) ?_
  refine ex_istore_n 5 d_Disk_isWrong_4 rfl (Nat.le_of_ble_eq_true rfl) ?_
  refine ex_iload_n (a := nI (8 * s)) 6 d_Disk_isWrong_5 rfl rfl ?_
  refine ex_istore_n 7 d_Disk_isWrong_6 rfl (Nat.le_of_ble_eq_true rfl) ?_
  refine ex_iload_n (a := nI (8 * s)) 8 d_Disk_isWrong_7 rfl rfl ?_
  refine ex_iload_n (a := nI (8 * s)) 9 d_Disk_isWrong_8 rfl rfl ?_
  refine ex_iconst (v := 4) 10 d_Disk_isWrong_9 rfl (by decide) ?_
  refine ex_iaddN (8 * s + 4) 11 d_Disk_isWrong_10 rfl rfl (xn_lit 4) (by omega) ?_
  refine ex_icmpge 43 14 d_Disk_isWrong_11 rfl rfl (fun h => absurd h (xn_nle rfl rfl (by omega) (by omega) (by omega))) (fun _ => ?_)
  refine ex_aload_n (a := ad (pl i 1)) 15 d_Disk_isWrong_14 rfl rfl ?_
  refine xl_getR 18 d_Disk_isWrong_15 rfl g_Disk_9 (kpl hi (by decide)) (sh_Disk hi) rfl ?_
  refine ex_iload_n (a := nI (8 * s)) 19 d_Disk_isWrong_18 rfl rfl ?_
  refine ex_iconst (v := 4) 20 d_Disk_isWrong_19 rfl (by decide) ?_
  refine ex_iaddN (8 * s + 4) 21 d_Disk_isWrong_20 rfl rfl (xn_lit 4) (by omega) ?_
  refine xl_iald 22 d_Disk_isWrong_21 rfl (kpl hi (by decide)) (sh_Bytes hi) rfl (by omega) (by omega) ?_
  refine ex_aload_n (a := ad (pl i 1)) 23 d_Disk_isWrong_22 rfl rfl ?_
  refine xl_getR 26 d_Disk_isWrong_23 rfl g_Disk_9 (kpl hi (by decide)) (sh_Disk hi) rfl ?_
  refine ex_iload_n (a := nI (8 * s)) 27 d_Disk_isWrong_26 rfl rfl ?_
  refine xl_iald 28 d_Disk_isWrong_27 rfl (kpl hi (by decide)) (sh_Bytes hi) rfl (by omega) (by omega) ?_
  refine ex_sipush (v := 255) 31 d_Disk_isWrong_28 rfl (by decide) ?_
  refine ex_ixor 32 d_Disk_isWrong_31 rfl ?_
  refine ex_icmpeq 37 35 d_Disk_isWrong_32 rfl rfl (fun h1 => ?_) (fun h1 => ?_)
  · refine ex_iinc (a := nI (8 * s)) (v := nI (8 * s + 1)) 40 d_Disk_isWrong_37 rfl rfl (xn_inc rfl) ?_
    refine ex_goto 7 d_Disk_isWrong_40 rfl ?_
    refine ex_iload_n (a := nI (8 * s + 1)) 8 d_Disk_isWrong_7 rfl rfl ?_
    refine ex_iload_n (a := nI (8 * s)) 9 d_Disk_isWrong_8 rfl rfl ?_
    refine ex_iconst (v := 4) 10 d_Disk_isWrong_9 rfl (by decide) ?_
    refine ex_iaddN (8 * s + 4) 11 d_Disk_isWrong_10 rfl rfl (xn_lit 4) (by omega) ?_
    refine ex_icmpge 43 14 d_Disk_isWrong_11 rfl rfl (fun h => absurd h (xn_nle rfl rfl (by omega) (by omega) (by omega))) (fun _ => ?_)
    refine ex_aload_n (a := ad (pl i 1)) 15 d_Disk_isWrong_14 rfl rfl ?_
    refine xl_getR 18 d_Disk_isWrong_15 rfl g_Disk_9 (kpl hi (by decide)) (sh_Disk hi) rfl ?_
    refine ex_iload_n (a := nI (8 * s + 1)) 19 d_Disk_isWrong_18 rfl rfl ?_
    refine ex_iconst (v := 4) 20 d_Disk_isWrong_19 rfl (by decide) ?_
    refine ex_iaddN (8 * s + 5) 21 d_Disk_isWrong_20 rfl rfl (xn_lit 4) (by omega) ?_
    refine xl_iald 22 d_Disk_isWrong_21 rfl (kpl hi (by decide)) (sh_Bytes hi) rfl (by omega) (by omega) ?_
    refine ex_aload_n (a := ad (pl i 1)) 23 d_Disk_isWrong_22 rfl rfl ?_
    refine xl_getR 26 d_Disk_isWrong_23 rfl g_Disk_9 (kpl hi (by decide)) (sh_Disk hi) rfl ?_
    refine ex_iload_n (a := nI (8 * s + 1)) 27 d_Disk_isWrong_26 rfl rfl ?_
    refine xl_iald 28 d_Disk_isWrong_27 rfl (kpl hi (by decide)) (sh_Bytes hi) rfl (by omega) (by omega) ?_
    refine ex_sipush (v := 255) 31 d_Disk_isWrong_28 rfl (by decide) ?_
    refine ex_ixor 32 d_Disk_isWrong_31 rfl ?_
    refine ex_icmpeq 37 35 d_Disk_isWrong_32 rfl rfl (fun h2 => ?_) (fun h2 => ?_)
    · refine ex_iinc (a := nI (8 * s + 1)) (v := nI (8 * s + 2)) 40 d_Disk_isWrong_37 rfl rfl (xn_inc rfl) ?_
      refine ex_goto 7 d_Disk_isWrong_40 rfl ?_
      refine ex_iload_n (a := nI (8 * s + 2)) 8 d_Disk_isWrong_7 rfl rfl ?_
      refine ex_iload_n (a := nI (8 * s)) 9 d_Disk_isWrong_8 rfl rfl ?_
      refine ex_iconst (v := 4) 10 d_Disk_isWrong_9 rfl (by decide) ?_
      refine ex_iaddN (8 * s + 4) 11 d_Disk_isWrong_10 rfl rfl (xn_lit 4) (by omega) ?_
      refine ex_icmpge 43 14 d_Disk_isWrong_11 rfl rfl (fun h => absurd h (xn_nle rfl rfl (by omega) (by omega) (by omega))) (fun _ => ?_)
      refine ex_aload_n (a := ad (pl i 1)) 15 d_Disk_isWrong_14 rfl rfl ?_
      refine xl_getR 18 d_Disk_isWrong_15 rfl g_Disk_9 (kpl hi (by decide)) (sh_Disk hi) rfl ?_
      refine ex_iload_n (a := nI (8 * s + 2)) 19 d_Disk_isWrong_18 rfl rfl ?_
      refine ex_iconst (v := 4) 20 d_Disk_isWrong_19 rfl (by decide) ?_
      refine ex_iaddN (8 * s + 6) 21 d_Disk_isWrong_20 rfl rfl (xn_lit 4) (by omega) ?_
      refine xl_iald 22 d_Disk_isWrong_21 rfl (kpl hi (by decide)) (sh_Bytes hi) rfl (by omega) (by omega) ?_
      refine ex_aload_n (a := ad (pl i 1)) 23 d_Disk_isWrong_22 rfl rfl ?_
      refine xl_getR 26 d_Disk_isWrong_23 rfl g_Disk_9 (kpl hi (by decide)) (sh_Disk hi) rfl ?_
      refine ex_iload_n (a := nI (8 * s + 2)) 27 d_Disk_isWrong_26 rfl rfl ?_
      refine xl_iald 28 d_Disk_isWrong_27 rfl (kpl hi (by decide)) (sh_Bytes hi) rfl (by omega) (by omega) ?_
      refine ex_sipush (v := 255) 31 d_Disk_isWrong_28 rfl (by decide) ?_
      refine ex_ixor 32 d_Disk_isWrong_31 rfl ?_
      refine ex_icmpeq 37 35 d_Disk_isWrong_32 rfl rfl (fun h3 => ?_) (fun h3 => ?_)
      · refine ex_iinc (a := nI (8 * s + 2)) (v := nI (8 * s + 3)) 40 d_Disk_isWrong_37 rfl rfl (xn_inc rfl) ?_
        refine ex_goto 7 d_Disk_isWrong_40 rfl ?_
        refine ex_iload_n (a := nI (8 * s + 3)) 8 d_Disk_isWrong_7 rfl rfl ?_
        refine ex_iload_n (a := nI (8 * s)) 9 d_Disk_isWrong_8 rfl rfl ?_
        refine ex_iconst (v := 4) 10 d_Disk_isWrong_9 rfl (by decide) ?_
        refine ex_iaddN (8 * s + 4) 11 d_Disk_isWrong_10 rfl rfl (xn_lit 4) (by omega) ?_
        refine ex_icmpge 43 14 d_Disk_isWrong_11 rfl rfl (fun h => absurd h (xn_nle rfl rfl (by omega) (by omega) (by omega))) (fun _ => ?_)
        refine ex_aload_n (a := ad (pl i 1)) 15 d_Disk_isWrong_14 rfl rfl ?_
        refine xl_getR 18 d_Disk_isWrong_15 rfl g_Disk_9 (kpl hi (by decide)) (sh_Disk hi) rfl ?_
        refine ex_iload_n (a := nI (8 * s + 3)) 19 d_Disk_isWrong_18 rfl rfl ?_
        refine ex_iconst (v := 4) 20 d_Disk_isWrong_19 rfl (by decide) ?_
        refine ex_iaddN (8 * s + 7) 21 d_Disk_isWrong_20 rfl rfl (xn_lit 4) (by omega) ?_
        refine xl_iald 22 d_Disk_isWrong_21 rfl (kpl hi (by decide)) (sh_Bytes hi) rfl (by omega) (by omega) ?_
        refine ex_aload_n (a := ad (pl i 1)) 23 d_Disk_isWrong_22 rfl rfl ?_
        refine xl_getR 26 d_Disk_isWrong_23 rfl g_Disk_9 (kpl hi (by decide)) (sh_Disk hi) rfl ?_
        refine ex_iload_n (a := nI (8 * s + 3)) 27 d_Disk_isWrong_26 rfl rfl ?_
        refine xl_iald 28 d_Disk_isWrong_27 rfl (kpl hi (by decide)) (sh_Bytes hi) rfl (by omega) (by omega) ?_
        refine ex_sipush (v := 255) 31 d_Disk_isWrong_28 rfl (by decide) ?_
        refine ex_ixor 32 d_Disk_isWrong_31 rfl ?_
        refine ex_icmpeq 37 35 d_Disk_isWrong_32 rfl rfl (fun h4 => ?_) (fun h4 => ?_)
        · refine ex_iinc (a := nI (8 * s + 3)) (v := nI (8 * s + 4)) 40 d_Disk_isWrong_37 rfl rfl (xn_inc rfl) ?_
          refine ex_goto 7 d_Disk_isWrong_40 rfl ?_
          refine ex_iload_n (a := nI (8 * s + 4)) 8 d_Disk_isWrong_7 rfl rfl ?_
          refine ex_iload_n (a := nI (8 * s)) 9 d_Disk_isWrong_8 rfl rfl ?_
          refine ex_iconst (v := 4) 10 d_Disk_isWrong_9 rfl (by decide) ?_
          refine ex_iaddN (8 * s + 4) 11 d_Disk_isWrong_10 rfl rfl (xn_lit 4) (by omega) ?_
          refine ex_icmpge 43 14 d_Disk_isWrong_11 rfl rfl (fun _ => ?_) (fun h => absurd (xn_le rfl rfl (by omega) (by omega) (by omega)) h)
          refine ex_iconst (v := 0) 44 d_Disk_isWrong_43 rfl (by decide) ?_
          refine ex_zret d_Disk_isWrong_44 rfl rfl ⟨_, rfl, ?_⟩
          refine ⟨rfl, ?_⟩
          exact (Eq.symm (zb_f (fun z => z ⟨h1, h2, h3, h4⟩)))
        · refine ex_iconst (v := 1) 36 d_Disk_isWrong_35 rfl (by decide) ?_
          refine ex_zret d_Disk_isWrong_36 rfl rfl ⟨_, rfl, ?_⟩
          refine ⟨rfl, ?_⟩
          exact (Eq.symm (zb_t (fun z => h4 z.2.2.2)))
      · refine ex_iconst (v := 1) 36 d_Disk_isWrong_35 rfl (by decide) ?_
        refine ex_zret d_Disk_isWrong_36 rfl rfl ⟨_, rfl, ?_⟩
        refine ⟨rfl, ?_⟩
        exact (Eq.symm (zb_t (fun z => h3 z.2.2.1)))
    · refine ex_iconst (v := 1) 36 d_Disk_isWrong_35 rfl (by decide) ?_
      refine ex_zret d_Disk_isWrong_36 rfl rfl ⟨_, rfl, ?_⟩
      refine ⟨rfl, ?_⟩
      exact (Eq.symm (zb_t (fun z => h2 z.2.1)))
  · refine ex_iconst (v := 1) 36 d_Disk_isWrong_35 rfl (by decide) ?_
    refine ex_zret d_Disk_isWrong_36 rfl rfl ⟨_, rfl, ?_⟩
    refine ⟨rfl, ?_⟩
    exact (Eq.symm (zb_t (fun z => h1 z.1)))
set_option maxRecDepth 100000 in
set_option maxHeartbeats 4000000 in
theorem c_Disk_commandIn (i s : Nat) (hi : i < N) (hs : s < 18) : Ex G none mi_Disk_commandIn 0 0 0 (xEn mi_Disk_commandIn [.ref (ad (pl i 1)), .int (nI s)]) [] (LY G ad N S) (xI (fun v w => w = LY G ad N S ∧ v = S (pl i 2) (8 * s + 1))) := by
  refine ex_aload_n (a := ad (pl i 1)) 1 d_Disk_commandIn_0 rfl rfl ?_
  refine xl_getR 4 d_Disk_commandIn_1 rfl g_Disk_9 (kpl hi (by decide)) (sh_Disk hi) rfl ?_
  refine ex_iload_n (a := nI s) 5 d_Disk_commandIn_4 rfl rfl ?_
  refine ex_bipush (v := 8) 7 d_Disk_commandIn_5 rfl (by decide) ?_
  refine ex_imulN (8 * s) 8 d_Disk_commandIn_7 rfl rfl (xn_lit 8) (by omega) ?_
  refine ex_iconst (v := 1) 9 d_Disk_commandIn_8 rfl (by decide) ?_
  refine ex_iaddN (8 * s + 1) 10 d_Disk_commandIn_9 rfl rfl (xn_lit 1) (by omega) ?_
  refine xl_iald 11 d_Disk_commandIn_10 rfl (kpl hi (by decide)) (sh_Bytes hi) rfl (by omega) (by omega) ?_
  refine ex_iret d_Disk_commandIn_11 rfl ⟨_, rfl, ?_⟩
  exact ⟨rfl, rfl⟩
set_option maxRecDepth 100000 in
set_option maxHeartbeats 4000000 in
theorem c_Disk_ballotIn (i s : Nat) (hi : i < N) (hs : s < 18) : Ex G none mi_Disk_ballotIn 0 0 0 (xEn mi_Disk_ballotIn [.ref (ad (pl i 1)), .int (nI s)]) [] (LY G ad N S) (xI (fun v w => w = LY G ad N S ∧ v = 256 * S (pl i 2) (8 * s + 2) + S (pl i 2) (8 * s + 3))) := by
  refine ex_iload_n (a := nI s) 1 d_Disk_ballotIn_0 rfl rfl ?_
  refine ex_bipush (v := 8) 3 d_Disk_ballotIn_1 rfl (by decide) ?_
  refine ex_imulN (8 * s) 4 d_Disk_ballotIn_3 rfl rfl (xn_lit 8) (by omega) ?_
  refine ex_istore_n 5 d_Disk_ballotIn_4 rfl (Nat.le_of_ble_eq_true rfl) ?_
  refine ex_sipush (v := 256) 8 d_Disk_ballotIn_5 rfl (by decide) ?_
  refine ex_aload_n (a := ad (pl i 1)) 9 d_Disk_ballotIn_8 rfl rfl ?_
  refine xl_getR 12 d_Disk_ballotIn_9 rfl g_Disk_9 (kpl hi (by decide)) (sh_Disk hi) rfl ?_
  refine ex_iload_n (a := nI (8 * s)) 13 d_Disk_ballotIn_12 rfl rfl ?_
  refine ex_iconst (v := 2) 14 d_Disk_ballotIn_13 rfl (by decide) ?_
  refine ex_iaddN (8 * s + 2) 15 d_Disk_ballotIn_14 rfl rfl (xn_lit 2) (by omega) ?_
  refine xl_iald 16 d_Disk_ballotIn_15 rfl (kpl hi (by decide)) (sh_Bytes hi) rfl (by omega) (by omega) ?_
  refine ex_imul 17 d_Disk_ballotIn_16 rfl ?_
  refine ex_aload_n (a := ad (pl i 1)) 18 d_Disk_ballotIn_17 rfl rfl ?_
  refine xl_getR 21 d_Disk_ballotIn_18 rfl g_Disk_9 (kpl hi (by decide)) (sh_Disk hi) rfl ?_
  refine ex_iload_n (a := nI (8 * s)) 22 d_Disk_ballotIn_21 rfl rfl ?_
  refine ex_iconst (v := 3) 23 d_Disk_ballotIn_22 rfl (by decide) ?_
  refine ex_iaddN (8 * s + 3) 24 d_Disk_ballotIn_23 rfl rfl (xn_lit 3) (by omega) ?_
  refine xl_iald 25 d_Disk_ballotIn_24 rfl (kpl hi (by decide)) (sh_Bytes hi) rfl (by omega) (by omega) ?_
  refine ex_iadd 26 d_Disk_ballotIn_25 rfl ?_
  refine ex_iret d_Disk_ballotIn_26 rfl ⟨_, rfl, ?_⟩
  exact ⟨rfl, rfl⟩
set_option maxRecDepth 100000 in
set_option maxHeartbeats 4000000 in
theorem c_Disk_putContent (i s : Nat) (hi : i < N)(hs : s < 18) (a b c : Int32) : Ex G none mi_Disk_putContent 0 0 0 (xEn mi_Disk_putContent [.ref (ad (pl i 1)), .int (nI s), .int a, .int b, .int c]) [] (LY G ad N S) (xV (fun w => w = LY G ad N (putC S (pl i 2) (8 * s) a b c))) := by
  refine ex_iload_n (a := nI s) 1 d_Disk_putContent_0 rfl rfl ?_
  refine ex_bipush (v := 8) 3 d_Disk_putContent_1 rfl (by decide) ?_
  refine ex_imulN (8 * s) 4 d_Disk_putContent_3 rfl rfl (xn_lit 8) (by omega) ?_
  refine ex_istore 6 d_Disk_putContent_4 rfl (Nat.le_of_ble_eq_true rfl) ?_
  refine ex_aload_n (a := ad (pl i 1)) 7 d_Disk_putContent_6 rfl rfl ?_
  refine xl_getR 10 d_Disk_putContent_7 rfl g_Disk_9 (kpl hi (by decide)) (sh_Disk hi) rfl ?_
  refine ex_iload (a := nI (8 * s)) 12 d_Disk_putContent_10 rfl rfl ?_
  refine ex_iload_n (a := a) 13 d_Disk_putContent_12 rfl rfl ?_
  refine xl_iast 14 d_Disk_putContent_13 rfl (kpl hi (by decide)) (sh_Bytes hi) rfl (by omega) (by omega) ?_
  refine ex_aload_n (a := ad (pl i 1)) 15 d_Disk_putContent_14 rfl rfl ?_
  refine xl_getR 18 d_Disk_putContent_15 rfl g_Disk_9 (kpl hi (by decide)) (sh_Disk hi) rfl ?_
  refine ex_iload (a := nI (8 * s)) 20 d_Disk_putContent_18 rfl rfl ?_
  refine ex_iconst (v := 1) 21 d_Disk_putContent_20 rfl (by decide) ?_
  refine ex_iaddN (8 * s + 1) 22 d_Disk_putContent_21 rfl rfl (xn_lit 1) (by omega) ?_
  refine ex_iload_n (a := b) 23 d_Disk_putContent_22 rfl rfl ?_
  refine xl_iast 24 d_Disk_putContent_23 rfl (kpl hi (by decide)) (sh_Bytes hi) rfl (by omega) (by omega) ?_
  refine ex_aload_n (a := ad (pl i 1)) 25 d_Disk_putContent_24 rfl rfl ?_
  refine xl_getR 28 d_Disk_putContent_25 rfl g_Disk_9 (kpl hi (by decide)) (sh_Disk hi) rfl ?_
  refine ex_iload (a := nI (8 * s)) 30 d_Disk_putContent_28 rfl rfl ?_
  refine ex_iconst (v := 2) 31 d_Disk_putContent_30 rfl (by decide) ?_
  refine ex_iaddN (8 * s + 2) 32 d_Disk_putContent_31 rfl rfl (xn_lit 2) (by omega) ?_
  refine ex_iload (a := c) 34 d_Disk_putContent_32 rfl rfl ?_
  refine ex_sipush (v := 256) 37 d_Disk_putContent_34 rfl (by decide) ?_
  refine ex_idiv 38 d_Disk_putContent_37 rfl (by decide) ?_
  refine xl_iast 39 d_Disk_putContent_38 rfl (kpl hi (by decide)) (sh_Bytes hi) rfl (by omega) (by omega) ?_
  refine ex_aload_n (a := ad (pl i 1)) 40 d_Disk_putContent_39 rfl rfl ?_
  refine xl_getR 43 d_Disk_putContent_40 rfl g_Disk_9 (kpl hi (by decide)) (sh_Disk hi) rfl ?_
  refine ex_iload (a := nI (8 * s)) 45 d_Disk_putContent_43 rfl rfl ?_
  refine ex_iconst (v := 3) 46 d_Disk_putContent_45 rfl (by decide) ?_
  refine ex_iaddN (8 * s + 3) 47 d_Disk_putContent_46 rfl rfl (xn_lit 3) (by omega) ?_
  refine ex_iload (a := c) 49 d_Disk_putContent_47 rfl rfl ?_
  refine ex_sipush (v := 256) 52 d_Disk_putContent_49 rfl (by decide) ?_
  refine ex_irem 53 d_Disk_putContent_52 rfl (by decide) ?_
  refine xl_iast 54 d_Disk_putContent_53 rfl (kpl hi (by decide)) (sh_Bytes hi) rfl (by omega) (by omega) ?_
  refine ex_vret d_Disk_putContent_54 rfl ⟨rfl, ?_⟩
  exact rfl
set_option maxRecDepth 100000 in
set_option maxHeartbeats 4000000 in
theorem c_Disk_sealSector (i s : Nat) (hi : i < N) (hs : s < 18) : Ex G none mi_Disk_sealSector 0 0 0 (xEn mi_Disk_sealSector [.ref (ad (pl i 1)), .int (nI s)]) [] (LY G ad N S) (xV (fun w => w = LY G ad N (sealS S (pl i 2) (8 * s)))) := by
  refine ex_iload_n (a := nI s) 1 d_Disk_sealSector_0 rfl rfl ?_
  refine ex_bipush (v := 8) 3 d_Disk_sealSector_1 rfl (by decide) ?_
  refine ex_imulN (8 * s) 4 d_Disk_sealSector_3 rfl rfl (xn_lit 8) (by omega) ?_
  refine ex_istore_n 5 d_Disk_sealSector_4 rfl (Nat.le_of_ble_eq_true rfl) ?_
  refine ex_iload_n (a := nI (8 * s)) 6 d_Disk_sealSector_5 rfl rfl ?_
  refine ex_istore_n 7 d_Disk_sealSector_6 rfl (Nat.le_of_ble_eq_true rfl) ?_
  refine ex_iload_n (a := nI (8 * s)) 8 d_Disk_sealSector_7 rfl rfl ?_
  refine ex_iload_n (a := nI (8 * s)) 9 d_Disk_sealSector_8 rfl rfl ?_
  refine ex_iconst (v := 4) 10 d_Disk_sealSector_9 rfl (by decide) ?_
  refine ex_iaddN (8 * s + 4) 11 d_Disk_sealSector_10 rfl rfl (xn_lit 4) (by omega) ?_
  refine ex_icmpge 38 14 d_Disk_sealSector_11 rfl rfl (fun h => absurd h (xn_nle rfl rfl (by omega) (by omega) (by omega))) (fun _ => ?_)
  refine ex_aload_n (a := ad (pl i 1)) 15 d_Disk_sealSector_14 rfl rfl ?_
  refine xl_getR 18 d_Disk_sealSector_15 rfl g_Disk_9 (kpl hi (by decide)) (sh_Disk hi) rfl ?_
  refine ex_iload_n (a := nI (8 * s)) 19 d_Disk_sealSector_18 rfl rfl ?_
  refine ex_iconst (v := 4) 20 d_Disk_sealSector_19 rfl (by decide) ?_
  refine ex_iaddN (8 * s + 4) 21 d_Disk_sealSector_20 rfl rfl (xn_lit 4) (by omega) ?_
  refine ex_aload_n (a := ad (pl i 1)) 22 d_Disk_sealSector_21 rfl rfl ?_
  refine xl_getR 25 d_Disk_sealSector_22 rfl g_Disk_9 (kpl hi (by decide)) (sh_Disk hi) rfl ?_
  refine ex_iload_n (a := nI (8 * s)) 26 d_Disk_sealSector_25 rfl rfl ?_
  refine xl_iald 27 d_Disk_sealSector_26 rfl (kpl hi (by decide)) (sh_Bytes hi) rfl (by omega) (by omega) ?_
  refine ex_sipush (v := 255) 30 d_Disk_sealSector_27 rfl (by decide) ?_
  refine ex_ixor 31 d_Disk_sealSector_30 rfl ?_
  refine xl_iast 32 d_Disk_sealSector_31 rfl (kpl hi (by decide)) (sh_Bytes hi) rfl (by omega) (by omega) ?_
  refine ex_iinc (a := nI (8 * s)) (v := nI (8 * s + 1)) 35 d_Disk_sealSector_32 rfl rfl (xn_inc rfl) ?_
  refine ex_goto 7 d_Disk_sealSector_35 rfl ?_
  refine ex_iload_n (a := nI (8 * s + 1)) 8 d_Disk_sealSector_7 rfl rfl ?_
  refine ex_iload_n (a := nI (8 * s)) 9 d_Disk_sealSector_8 rfl rfl ?_
  refine ex_iconst (v := 4) 10 d_Disk_sealSector_9 rfl (by decide) ?_
  refine ex_iaddN (8 * s + 4) 11 d_Disk_sealSector_10 rfl rfl (xn_lit 4) (by omega) ?_
  refine ex_icmpge 38 14 d_Disk_sealSector_11 rfl rfl (fun h => absurd h (xn_nle rfl rfl (by omega) (by omega) (by omega))) (fun _ => ?_)
  refine ex_aload_n (a := ad (pl i 1)) 15 d_Disk_sealSector_14 rfl rfl ?_
  refine xl_getR 18 d_Disk_sealSector_15 rfl g_Disk_9 (kpl hi (by decide)) (sh_Disk hi) rfl ?_
  refine ex_iload_n (a := nI (8 * s + 1)) 19 d_Disk_sealSector_18 rfl rfl ?_
  refine ex_iconst (v := 4) 20 d_Disk_sealSector_19 rfl (by decide) ?_
  refine ex_iaddN (8 * s + 5) 21 d_Disk_sealSector_20 rfl rfl (xn_lit 4) (by omega) ?_
  refine ex_aload_n (a := ad (pl i 1)) 22 d_Disk_sealSector_21 rfl rfl ?_
  refine xl_getR 25 d_Disk_sealSector_22 rfl g_Disk_9 (kpl hi (by decide)) (sh_Disk hi) rfl ?_
  refine ex_iload_n (a := nI (8 * s + 1)) 26 d_Disk_sealSector_25 rfl rfl ?_
  refine xl_iald 27 d_Disk_sealSector_26 rfl (kpl hi (by decide)) (sh_Bytes hi) rfl (by omega) (by omega) ?_
  refine ex_sipush (v := 255) 30 d_Disk_sealSector_27 rfl (by decide) ?_
  refine ex_ixor 31 d_Disk_sealSector_30 rfl ?_
  refine xl_iast 32 d_Disk_sealSector_31 rfl (kpl hi (by decide)) (sh_Bytes hi) rfl (by omega) (by omega) ?_
  refine ex_iinc (a := nI (8 * s + 1)) (v := nI (8 * s + 2)) 35 d_Disk_sealSector_32 rfl rfl (xn_inc rfl) ?_
  refine ex_goto 7 d_Disk_sealSector_35 rfl ?_
  refine ex_iload_n (a := nI (8 * s + 2)) 8 d_Disk_sealSector_7 rfl rfl ?_
  refine ex_iload_n (a := nI (8 * s)) 9 d_Disk_sealSector_8 rfl rfl ?_
  refine ex_iconst (v := 4) 10 d_Disk_sealSector_9 rfl (by decide) ?_
  refine ex_iaddN (8 * s + 4) 11 d_Disk_sealSector_10 rfl rfl (xn_lit 4) (by omega) ?_
  refine ex_icmpge 38 14 d_Disk_sealSector_11 rfl rfl (fun h => absurd h (xn_nle rfl rfl (by omega) (by omega) (by omega))) (fun _ => ?_)
  refine ex_aload_n (a := ad (pl i 1)) 15 d_Disk_sealSector_14 rfl rfl ?_
  refine xl_getR 18 d_Disk_sealSector_15 rfl g_Disk_9 (kpl hi (by decide)) (sh_Disk hi) rfl ?_
  refine ex_iload_n (a := nI (8 * s + 2)) 19 d_Disk_sealSector_18 rfl rfl ?_
  refine ex_iconst (v := 4) 20 d_Disk_sealSector_19 rfl (by decide) ?_
  refine ex_iaddN (8 * s + 6) 21 d_Disk_sealSector_20 rfl rfl (xn_lit 4) (by omega) ?_
  refine ex_aload_n (a := ad (pl i 1)) 22 d_Disk_sealSector_21 rfl rfl ?_
  refine xl_getR 25 d_Disk_sealSector_22 rfl g_Disk_9 (kpl hi (by decide)) (sh_Disk hi) rfl ?_
  refine ex_iload_n (a := nI (8 * s + 2)) 26 d_Disk_sealSector_25 rfl rfl ?_
  refine xl_iald 27 d_Disk_sealSector_26 rfl (kpl hi (by decide)) (sh_Bytes hi) rfl (by omega) (by omega) ?_
  refine ex_sipush (v := 255) 30 d_Disk_sealSector_27 rfl (by decide) ?_
  refine ex_ixor 31 d_Disk_sealSector_30 rfl ?_
  refine xl_iast 32 d_Disk_sealSector_31 rfl (kpl hi (by decide)) (sh_Bytes hi) rfl (by omega) (by omega) ?_
  refine ex_iinc (a := nI (8 * s + 2)) (v := nI (8 * s + 3)) 35 d_Disk_sealSector_32 rfl rfl (xn_inc rfl) ?_
  refine ex_goto 7 d_Disk_sealSector_35 rfl ?_
  refine ex_iload_n (a := nI (8 * s + 3)) 8 d_Disk_sealSector_7 rfl rfl ?_
  refine ex_iload_n (a := nI (8 * s)) 9 d_Disk_sealSector_8 rfl rfl ?_
  refine ex_iconst (v := 4) 10 d_Disk_sealSector_9 rfl (by decide) ?_
  refine ex_iaddN (8 * s + 4) 11 d_Disk_sealSector_10 rfl rfl (xn_lit 4) (by omega) ?_
  refine ex_icmpge 38 14 d_Disk_sealSector_11 rfl rfl (fun h => absurd h (xn_nle rfl rfl (by omega) (by omega) (by omega))) (fun _ => ?_)
  refine ex_aload_n (a := ad (pl i 1)) 15 d_Disk_sealSector_14 rfl rfl ?_
  refine xl_getR 18 d_Disk_sealSector_15 rfl g_Disk_9 (kpl hi (by decide)) (sh_Disk hi) rfl ?_
  refine ex_iload_n (a := nI (8 * s + 3)) 19 d_Disk_sealSector_18 rfl rfl ?_
  refine ex_iconst (v := 4) 20 d_Disk_sealSector_19 rfl (by decide) ?_
  refine ex_iaddN (8 * s + 7) 21 d_Disk_sealSector_20 rfl rfl (xn_lit 4) (by omega) ?_
  refine ex_aload_n (a := ad (pl i 1)) 22 d_Disk_sealSector_21 rfl rfl ?_
  refine xl_getR 25 d_Disk_sealSector_22 rfl g_Disk_9 (kpl hi (by decide)) (sh_Disk hi) rfl ?_
  refine ex_iload_n (a := nI (8 * s + 3)) 26 d_Disk_sealSector_25 rfl rfl ?_
  refine xl_iald 27 d_Disk_sealSector_26 rfl (kpl hi (by decide)) (sh_Bytes hi) rfl (by omega) (by omega) ?_
  refine ex_sipush (v := 255) 30 d_Disk_sealSector_27 rfl (by decide) ?_
  refine ex_ixor 31 d_Disk_sealSector_30 rfl ?_
  refine xl_iast 32 d_Disk_sealSector_31 rfl (kpl hi (by decide)) (sh_Bytes hi) rfl (by omega) (by omega) ?_
  refine ex_iinc (a := nI (8 * s + 3)) (v := nI (8 * s + 4)) 35 d_Disk_sealSector_32 rfl rfl (xn_inc rfl) ?_
  refine ex_goto 7 d_Disk_sealSector_35 rfl ?_
  refine ex_iload_n (a := nI (8 * s + 4)) 8 d_Disk_sealSector_7 rfl rfl ?_
  refine ex_iload_n (a := nI (8 * s)) 9 d_Disk_sealSector_8 rfl rfl ?_
  refine ex_iconst (v := 4) 10 d_Disk_sealSector_9 rfl (by decide) ?_
  refine ex_iaddN (8 * s + 4) 11 d_Disk_sealSector_10 rfl rfl (xn_lit 4) (by omega) ?_
  refine ex_icmpge 38 14 d_Disk_sealSector_11 rfl rfl (fun _ => ?_) (fun h => absurd (xn_le rfl rfl (by omega) (by omega) (by omega)) h)
  refine ex_vret d_Disk_sealSector_38 rfl ⟨rfl, ?_⟩
  exact rfl
set_option maxRecDepth 100000 in
set_option maxHeartbeats 4000000 in
theorem c_Disk_flipBit (i s b : Nat) (hi : i < N) (hs : s < 18) (hb : b < 64) : Ex G none mi_Disk_flipBit 0 0 0 (xEn mi_Disk_flipBit [.ref (ad (pl i 1)), .int (nI s), .int (nI b)]) [] (LY G ad N S) (xV (fun w => w = LY G ad N (flipS S (pl i 2) (8 * s) b))) := by
  refine ex_aload_n (a := ad (pl i 1)) 1 d_Disk_flipBit_0 rfl rfl ?_
  refine xl_getR 4 d_Disk_flipBit_1 rfl g_Disk_9 (kpl hi (by decide)) (sh_Disk hi) rfl ?_
  refine ex_iload_n (a := nI s) 5 d_Disk_flipBit_4 rfl rfl ?_
  refine ex_bipush (v := 8) 7 d_Disk_flipBit_5 rfl (by decide) ?_
  refine ex_imulN (8 * s) 8 d_Disk_flipBit_7 rfl rfl (xn_lit 8) (by omega) ?_
  refine ex_iload_n (a := nI b) 9 d_Disk_flipBit_8 rfl rfl ?_
  refine ex_bipush (v := 8) 11 d_Disk_flipBit_9 rfl (by decide) ?_
  refine ex_idivN 12 d_Disk_flipBit_11 rfl rfl (xn_lit 8) (by decide) (by omega) (by omega) (by omega) ?_
  refine ex_iaddN ((b / 8) + 8 * s) 13 d_Disk_flipBit_12 rfl rfl rfl (by omega) ?_
  refine ex_dup2 14 d_Disk_flipBit_13 rfl rfl rfl ?_
  refine xl_iald 15 d_Disk_flipBit_14 rfl (kpl hi (by decide)) (sh_Bytes hi) rfl (by omega) (by omega) ?_
  refine ex_iconst (v := 1) 16 d_Disk_flipBit_15 rfl (by decide) ?_
  refine ex_iload_n (a := nI b) 17 d_Disk_flipBit_16 rfl rfl ?_
  refine ex_bipush (v := 8) 19 d_Disk_flipBit_17 rfl (by decide) ?_
  refine ex_iremN 20 d_Disk_flipBit_19 rfl rfl (xn_lit 8) (by decide) (by omega) (by omega) (by omega) ?_
  refine ex_ishl 21 d_Disk_flipBit_20 rfl ?_
  refine ex_ixor 22 d_Disk_flipBit_21 rfl ?_
  refine xl_iast 23 d_Disk_flipBit_22 rfl (kpl hi (by decide)) (sh_Bytes hi) rfl (by omega) (by omega) ?_
  refine ex_vret d_Disk_flipBit_23 rfl ⟨rfl, ?_⟩
  exact rfl
set_option maxRecDepth 100000 in
set_option maxHeartbeats 4000000 in
theorem c_Disk_clearSector (i s : Nat) (hi : i < N) (hs : s < 18) : Ex G none mi_Disk_clearSector 0 0 0 (xEn mi_Disk_clearSector [.ref (ad (pl i 1)), .int (nI s)]) [] (LY G ad N S) (xV (fun w => w = LY G ad N (clearS S (pl i 2) (8 * s)))) := by
  refine ex_iload_n (a := nI s) 1 d_Disk_clearSector_0 rfl rfl ?_
  refine ex_bipush (v := 8) 3 d_Disk_clearSector_1 rfl (by decide) ?_
  refine ex_imulN (8 * s) 4 d_Disk_clearSector_3 rfl rfl (xn_lit 8) (by omega) ?_
  refine ex_istore_n 5 d_Disk_clearSector_4 rfl (Nat.le_of_ble_eq_true rfl) ?_
  refine ex_iload_n (a := nI (8 * s)) 6 d_Disk_clearSector_5 rfl rfl ?_
  refine ex_istore_n 7 d_Disk_clearSector_6 rfl (Nat.le_of_ble_eq_true rfl) ?_
  refine ex_iload_n (a := nI (8 * s)) 8 d_Disk_clearSector_7 rfl rfl ?_
  refine ex_iload_n (a := nI (8 * s)) 9 d_Disk_clearSector_8 rfl rfl ?_
  refine ex_bipush (v := 8) 11 d_Disk_clearSector_9 rfl (by decide) ?_
  refine ex_iaddN (8 * s + 8) 12 d_Disk_clearSector_11 rfl rfl (xn_lit 8) (by omega) ?_
  refine ex_icmpge 28 15 d_Disk_clearSector_12 rfl rfl (fun h => absurd h (xn_nle rfl rfl (by omega) (by omega) (by omega))) (fun _ => ?_)
  refine ex_aload_n (a := ad (pl i 1)) 16 d_Disk_clearSector_15 rfl rfl ?_
  refine xl_getR 19 d_Disk_clearSector_16 rfl g_Disk_9 (kpl hi (by decide)) (sh_Disk hi) rfl ?_
  refine ex_iload_n (a := nI (8 * s)) 20 d_Disk_clearSector_19 rfl rfl ?_
  refine ex_iconst (v := 0) 21 d_Disk_clearSector_20 rfl (by decide) ?_
  refine xl_iast 22 d_Disk_clearSector_21 rfl (kpl hi (by decide)) (sh_Bytes hi) rfl (by omega) (by omega) ?_
  refine ex_iinc (a := nI (8 * s)) (v := nI (8 * s + 1)) 25 d_Disk_clearSector_22 rfl rfl (xn_inc rfl) ?_
  refine ex_goto 7 d_Disk_clearSector_25 rfl ?_
  refine ex_iload_n (a := nI (8 * s + 1)) 8 d_Disk_clearSector_7 rfl rfl ?_
  refine ex_iload_n (a := nI (8 * s)) 9 d_Disk_clearSector_8 rfl rfl ?_
  refine ex_bipush (v := 8) 11 d_Disk_clearSector_9 rfl (by decide) ?_
  refine ex_iaddN (8 * s + 8) 12 d_Disk_clearSector_11 rfl rfl (xn_lit 8) (by omega) ?_
  refine ex_icmpge 28 15 d_Disk_clearSector_12 rfl rfl (fun h => absurd h (xn_nle rfl rfl (by omega) (by omega) (by omega))) (fun _ => ?_)
  refine ex_aload_n (a := ad (pl i 1)) 16 d_Disk_clearSector_15 rfl rfl ?_
  refine xl_getR 19 d_Disk_clearSector_16 rfl g_Disk_9 (kpl hi (by decide)) (sh_Disk hi) rfl ?_
  refine ex_iload_n (a := nI (8 * s + 1)) 20 d_Disk_clearSector_19 rfl rfl ?_
  refine ex_iconst (v := 0) 21 d_Disk_clearSector_20 rfl (by decide) ?_
  refine xl_iast 22 d_Disk_clearSector_21 rfl (kpl hi (by decide)) (sh_Bytes hi) rfl (by omega) (by omega) ?_
  refine ex_iinc (a := nI (8 * s + 1)) (v := nI (8 * s + 2)) 25 d_Disk_clearSector_22 rfl rfl (xn_inc rfl) ?_
  refine ex_goto 7 d_Disk_clearSector_25 rfl ?_
  refine ex_iload_n (a := nI (8 * s + 2)) 8 d_Disk_clearSector_7 rfl rfl ?_
  refine ex_iload_n (a := nI (8 * s)) 9 d_Disk_clearSector_8 rfl rfl ?_
  refine ex_bipush (v := 8) 11 d_Disk_clearSector_9 rfl (by decide) ?_
  refine ex_iaddN (8 * s + 8) 12 d_Disk_clearSector_11 rfl rfl (xn_lit 8) (by omega) ?_
  refine ex_icmpge 28 15 d_Disk_clearSector_12 rfl rfl (fun h => absurd h (xn_nle rfl rfl (by omega) (by omega) (by omega))) (fun _ => ?_)
  refine ex_aload_n (a := ad (pl i 1)) 16 d_Disk_clearSector_15 rfl rfl ?_
  refine xl_getR 19 d_Disk_clearSector_16 rfl g_Disk_9 (kpl hi (by decide)) (sh_Disk hi) rfl ?_
  refine ex_iload_n (a := nI (8 * s + 2)) 20 d_Disk_clearSector_19 rfl rfl ?_
  refine ex_iconst (v := 0) 21 d_Disk_clearSector_20 rfl (by decide) ?_
  refine xl_iast 22 d_Disk_clearSector_21 rfl (kpl hi (by decide)) (sh_Bytes hi) rfl (by omega) (by omega) ?_
  refine ex_iinc (a := nI (8 * s + 2)) (v := nI (8 * s + 3)) 25 d_Disk_clearSector_22 rfl rfl (xn_inc rfl) ?_
  refine ex_goto 7 d_Disk_clearSector_25 rfl ?_
  refine ex_iload_n (a := nI (8 * s + 3)) 8 d_Disk_clearSector_7 rfl rfl ?_
  refine ex_iload_n (a := nI (8 * s)) 9 d_Disk_clearSector_8 rfl rfl ?_
  refine ex_bipush (v := 8) 11 d_Disk_clearSector_9 rfl (by decide) ?_
  refine ex_iaddN (8 * s + 8) 12 d_Disk_clearSector_11 rfl rfl (xn_lit 8) (by omega) ?_
  refine ex_icmpge 28 15 d_Disk_clearSector_12 rfl rfl (fun h => absurd h (xn_nle rfl rfl (by omega) (by omega) (by omega))) (fun _ => ?_)
  refine ex_aload_n (a := ad (pl i 1)) 16 d_Disk_clearSector_15 rfl rfl ?_
  refine xl_getR 19 d_Disk_clearSector_16 rfl g_Disk_9 (kpl hi (by decide)) (sh_Disk hi) rfl ?_
  refine ex_iload_n (a := nI (8 * s + 3)) 20 d_Disk_clearSector_19 rfl rfl ?_
  refine ex_iconst (v := 0) 21 d_Disk_clearSector_20 rfl (by decide) ?_
  refine xl_iast 22 d_Disk_clearSector_21 rfl (kpl hi (by decide)) (sh_Bytes hi) rfl (by omega) (by omega) ?_
  refine ex_iinc (a := nI (8 * s + 3)) (v := nI (8 * s + 4)) 25 d_Disk_clearSector_22 rfl rfl (xn_inc rfl) ?_
  refine ex_goto 7 d_Disk_clearSector_25 rfl ?_
  refine ex_iload_n (a := nI (8 * s + 4)) 8 d_Disk_clearSector_7 rfl rfl ?_
  refine ex_iload_n (a := nI (8 * s)) 9 d_Disk_clearSector_8 rfl rfl ?_
  refine ex_bipush (v := 8) 11 d_Disk_clearSector_9 rfl (by decide) ?_
  refine ex_iaddN (8 * s + 8) 12 d_Disk_clearSector_11 rfl rfl (xn_lit 8) (by omega) ?_
  refine ex_icmpge 28 15 d_Disk_clearSector_12 rfl rfl (fun h => absurd h (xn_nle rfl rfl (by omega) (by omega) (by omega))) (fun _ => ?_)
  refine ex_aload_n (a := ad (pl i 1)) 16 d_Disk_clearSector_15 rfl rfl ?_
  refine xl_getR 19 d_Disk_clearSector_16 rfl g_Disk_9 (kpl hi (by decide)) (sh_Disk hi) rfl ?_
  refine ex_iload_n (a := nI (8 * s + 4)) 20 d_Disk_clearSector_19 rfl rfl ?_
  refine ex_iconst (v := 0) 21 d_Disk_clearSector_20 rfl (by decide) ?_
  refine xl_iast 22 d_Disk_clearSector_21 rfl (kpl hi (by decide)) (sh_Bytes hi) rfl (by omega) (by omega) ?_
  refine ex_iinc (a := nI (8 * s + 4)) (v := nI (8 * s + 5)) 25 d_Disk_clearSector_22 rfl rfl (xn_inc rfl) ?_
  refine ex_goto 7 d_Disk_clearSector_25 rfl ?_
  refine ex_iload_n (a := nI (8 * s + 5)) 8 d_Disk_clearSector_7 rfl rfl ?_
  refine ex_iload_n (a := nI (8 * s)) 9 d_Disk_clearSector_8 rfl rfl ?_
  refine ex_bipush (v := 8) 11 d_Disk_clearSector_9 rfl (by decide) ?_
  refine ex_iaddN (8 * s + 8) 12 d_Disk_clearSector_11 rfl rfl (xn_lit 8) (by omega) ?_
  refine ex_icmpge 28 15 d_Disk_clearSector_12 rfl rfl (fun h => absurd h (xn_nle rfl rfl (by omega) (by omega) (by omega))) (fun _ => ?_)
  refine ex_aload_n (a := ad (pl i 1)) 16 d_Disk_clearSector_15 rfl rfl ?_
  refine xl_getR 19 d_Disk_clearSector_16 rfl g_Disk_9 (kpl hi (by decide)) (sh_Disk hi) rfl ?_
  refine ex_iload_n (a := nI (8 * s + 5)) 20 d_Disk_clearSector_19 rfl rfl ?_
  refine ex_iconst (v := 0) 21 d_Disk_clearSector_20 rfl (by decide) ?_
  refine xl_iast 22 d_Disk_clearSector_21 rfl (kpl hi (by decide)) (sh_Bytes hi) rfl (by omega) (by omega) ?_
  refine ex_iinc (a := nI (8 * s + 5)) (v := nI (8 * s + 6)) 25 d_Disk_clearSector_22 rfl rfl (xn_inc rfl) ?_
  refine ex_goto 7 d_Disk_clearSector_25 rfl ?_
  refine ex_iload_n (a := nI (8 * s + 6)) 8 d_Disk_clearSector_7 rfl rfl ?_
  refine ex_iload_n (a := nI (8 * s)) 9 d_Disk_clearSector_8 rfl rfl ?_
  refine ex_bipush (v := 8) 11 d_Disk_clearSector_9 rfl (by decide) ?_
  refine ex_iaddN (8 * s + 8) 12 d_Disk_clearSector_11 rfl rfl (xn_lit 8) (by omega) ?_
  refine ex_icmpge 28 15 d_Disk_clearSector_12 rfl rfl (fun h => absurd h (xn_nle rfl rfl (by omega) (by omega) (by omega))) (fun _ => ?_)
  refine ex_aload_n (a := ad (pl i 1)) 16 d_Disk_clearSector_15 rfl rfl ?_
  refine xl_getR 19 d_Disk_clearSector_16 rfl g_Disk_9 (kpl hi (by decide)) (sh_Disk hi) rfl ?_
  refine ex_iload_n (a := nI (8 * s + 6)) 20 d_Disk_clearSector_19 rfl rfl ?_
  refine ex_iconst (v := 0) 21 d_Disk_clearSector_20 rfl (by decide) ?_
  refine xl_iast 22 d_Disk_clearSector_21 rfl (kpl hi (by decide)) (sh_Bytes hi) rfl (by omega) (by omega) ?_
  refine ex_iinc (a := nI (8 * s + 6)) (v := nI (8 * s + 7)) 25 d_Disk_clearSector_22 rfl rfl (xn_inc rfl) ?_
  refine ex_goto 7 d_Disk_clearSector_25 rfl ?_
  refine ex_iload_n (a := nI (8 * s + 7)) 8 d_Disk_clearSector_7 rfl rfl ?_
  refine ex_iload_n (a := nI (8 * s)) 9 d_Disk_clearSector_8 rfl rfl ?_
  refine ex_bipush (v := 8) 11 d_Disk_clearSector_9 rfl (by decide) ?_
  refine ex_iaddN (8 * s + 8) 12 d_Disk_clearSector_11 rfl rfl (xn_lit 8) (by omega) ?_
  refine ex_icmpge 28 15 d_Disk_clearSector_12 rfl rfl (fun h => absurd h (xn_nle rfl rfl (by omega) (by omega) (by omega))) (fun _ => ?_)
  refine ex_aload_n (a := ad (pl i 1)) 16 d_Disk_clearSector_15 rfl rfl ?_
  refine xl_getR 19 d_Disk_clearSector_16 rfl g_Disk_9 (kpl hi (by decide)) (sh_Disk hi) rfl ?_
  refine ex_iload_n (a := nI (8 * s + 7)) 20 d_Disk_clearSector_19 rfl rfl ?_
  refine ex_iconst (v := 0) 21 d_Disk_clearSector_20 rfl (by decide) ?_
  refine xl_iast 22 d_Disk_clearSector_21 rfl (kpl hi (by decide)) (sh_Bytes hi) rfl (by omega) (by omega) ?_
  refine ex_iinc (a := nI (8 * s + 7)) (v := nI (8 * s + 8)) 25 d_Disk_clearSector_22 rfl rfl (xn_inc rfl) ?_
  refine ex_goto 7 d_Disk_clearSector_25 rfl ?_
  refine ex_iload_n (a := nI (8 * s + 8)) 8 d_Disk_clearSector_7 rfl rfl ?_
  refine ex_iload_n (a := nI (8 * s)) 9 d_Disk_clearSector_8 rfl rfl ?_
  refine ex_bipush (v := 8) 11 d_Disk_clearSector_9 rfl (by decide) ?_
  refine ex_iaddN (8 * s + 8) 12 d_Disk_clearSector_11 rfl rfl (xn_lit 8) (by omega) ?_
  refine ex_icmpge 28 15 d_Disk_clearSector_12 rfl rfl (fun _ => ?_) (fun h => absurd (xn_le rfl rfl (by omega) (by omega) (by omega)) h)
  refine ex_vret d_Disk_clearSector_28 rfl ⟨rfl, ?_⟩
  exact rfl
set_option maxRecDepth 100000 in
set_option maxHeartbeats 4000000 in
theorem c_Clients_isRequest (q : Int32) : Ex G none mi_Clients_isRequest 0 0 0 (xEn mi_Clients_isRequest [.ref (ad 1), .int q]) [] (LY G ad N S) (xI (fun v w => w = LY G ad N S ∧ v = zb (1 ≤ q ∧ q ≤ S 1 4))) := by
  refine ex_iload_n (a := q) 1 d_Clients_isRequest_0 rfl rfl ?_
  refine ex_iconst (v := 1) 2 d_Clients_isRequest_1 rfl (by decide) ?_
  refine ex_icmplt 17 5 d_Clients_isRequest_2 rfl rfl (fun h1 => ?_) (fun h1 => ?_)
  · refine ex_iconst (v := 0) 18 d_Clients_isRequest_17 rfl (by decide) ?_
    refine ex_zret d_Clients_isRequest_18 rfl rfl ⟨_, rfl, ?_⟩
    refine ⟨rfl, ?_⟩
    exact Eq.symm (zb_f (fun z => absurd h1 (Int32.not_lt.mpr z.1)))
  · refine ex_iload_n (a := q) 6 d_Clients_isRequest_5 rfl rfl ?_
    refine ex_aload_n (a := ad 1) 7 d_Clients_isRequest_6 rfl rfl ?_
    refine xl_get 10 d_Clients_isRequest_7 rfl g_Clients_24 (kp0 (by decide)) sh_CL rfl ?_
    refine ex_icmpgt 17 13 d_Clients_isRequest_10 rfl rfl (fun h2 => ?_) (fun h2 => ?_)
    · refine ex_iconst (v := 0) 18 d_Clients_isRequest_17 rfl (by decide) ?_
      refine ex_zret d_Clients_isRequest_18 rfl rfl ⟨_, rfl, ?_⟩
      refine ⟨rfl, ?_⟩
      exact Eq.symm (zb_f (fun z => absurd z.2 (Int32.not_le.mpr h2)))
    · refine ex_iconst (v := 1) 14 d_Clients_isRequest_13 rfl (by decide) ?_
      refine ex_goto 18 d_Clients_isRequest_14 rfl ?_
      refine ex_zret d_Clients_isRequest_18 rfl rfl ⟨_, rfl, ?_⟩
      refine ⟨rfl, ?_⟩
      exact Eq.symm (zb_t ⟨Int32.not_lt.mp h1, Int32.not_lt.mp h2⟩)
end WK
