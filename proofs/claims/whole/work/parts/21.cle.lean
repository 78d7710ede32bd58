section WK
variable {G : xC} {ad : Nat → Nat} {N : Nat} {S : sT}
set_option maxRecDepth 100000 in
set_option maxHeartbeats 4000000 in
theorem c_SL_mend (n : Nat) (hn : n < N) (a : Nat) (ha : a < N) (hN : N ≤ 5) (hI : Iok N S) (s : Nat) (hs1 : 1 ≤ s) (hs : s < 9) (hna : n ≠ a) : Ex G none mi_SL_mend 0 0 0 (xEn mi_SL_mend [.ref (ad 0), .int (nI n), .int (nI a), .int (nI s)]) [] (LY G ad N S) (xI (fun v w => w = LY G ad N (mendS n a s S) ∧ v = mendR n a s S)) := by
  have hnN : isN N (nI n) := isN_nI hn hN; have haN : isN N (nI a) := isN_nI ha hN; have hsS : isSl (nI s) := isSl_nI hs1 hs
  refine ex_aload_n (a := ad 0) 1 d_SL_mend_0 rfl rfl ?_
  refine ex_iload_n (a := nI n) 2 d_SL_mend_1 rfl rfl ?_
  refine xl_callVi [.int (nI n)] [] 5 d_SL_mend_2 rfl zv_SL_isNode ⟨(Nat.le_of_ble_eq_true rfl), (Nat.le_of_ble_eq_true rfl)⟩ m_SL_37 (kp0 (by decide)) sh_SL rfl rfl (Nat.le_of_ble_eq_true rfl) rfl (Nat.le_of_ble_eq_true rfl) (c_SL_isNode (S := S) (nI n)) (fun vv ww q1 => ?_)
  rw [q1.1, q1.2]
  refine Ex.int (zb_t hnN) ?_
  refine ex_ifeq 28 8 d_SL_mend_5 rfl rfl (fun h => absurd h (by decide)) (fun _ => ?_)
  refine ex_aload_n (a := ad 0) 9 d_SL_mend_8 rfl rfl ?_
  refine ex_iload_n (a := nI a) 10 d_SL_mend_9 rfl rfl ?_
  refine xl_callVi [.int (nI a)] [] 13 d_SL_mend_10 rfl zv_SL_isNode ⟨(Nat.le_of_ble_eq_true rfl), (Nat.le_of_ble_eq_true rfl)⟩ m_SL_37 (kp0 (by decide)) sh_SL rfl rfl (Nat.le_of_ble_eq_true rfl) rfl (Nat.le_of_ble_eq_true rfl) (c_SL_isNode (S := S) (nI a)) (fun vv ww q2 => ?_)
  rw [q2.1, q2.2]
  refine Ex.int (zb_t haN) ?_
  refine ex_ifeq 28 16 d_SL_mend_13 rfl rfl (fun h => absurd h (by decide)) (fun _ => ?_)
  refine ex_iload_n (a := nI s) 17 d_SL_mend_16 rfl rfl ?_
  refine xl_callSi [.int (nI s)] [] 20 d_SL_mend_17 rfl zs_SL_isSlot ⟨(Nat.le_of_ble_eq_true rfl), (Nat.le_of_ble_eq_true rfl)⟩ m_SL_109 rfl rfl (Nat.le_of_ble_eq_true rfl) rfl (Nat.le_of_ble_eq_true rfl) (c_SL_isSlot (S := S) (nI s)) (fun vv ww q3 => ?_)
  rw [q3.1, q3.2]
  refine Ex.int (zb_t hsS) ?_
  refine ex_ifeq 28 23 d_SL_mend_20 rfl rfl (fun h => absurd h (by decide)) (fun _ => ?_)
  refine ex_iload_n (a := nI n) 24 d_SL_mend_23 rfl rfl ?_
  refine ex_iload_n (a := nI a) 25 d_SL_mend_24 rfl rfl ?_
  refine ex_icmpne 30 28 d_SL_mend_25 rfl rfl (fun _ => ?_) (fun h => absurd h (xn_ne rfl rfl (by omega) (by omega) (by omega)))
  refine ex_aload_n (a := ad 0) 31 d_SL_mend_30 rfl rfl ?_
  refine xl_getR 34 d_SL_mend_31 rfl g_SL_18 (kp0 (by decide)) sh_SL rfl ?_
  refine ex_iload_n (a := nI n) 35 d_SL_mend_34 rfl rfl ?_
  refine xl_aald 36 d_SL_mend_35 rfl (kp0 (by decide)) sh_NA rfl (by omega) (by omega) ?_
  refine ex_astore 38 d_SL_mend_36 rfl (Nat.le_of_ble_eq_true rfl) ?_
  refine ex_aload_n (a := ad 0) 39 d_SL_mend_38 rfl rfl ?_
  refine xl_getR 42 d_SL_mend_39 rfl g_SL_18 (kp0 (by decide)) sh_SL rfl ?_
  refine ex_iload_n (a := nI a) 43 d_SL_mend_42 rfl rfl ?_
  refine xl_aald 44 d_SL_mend_43 rfl (kp0 (by decide)) sh_NA rfl (by omega) (by omega) ?_
  refine ex_astore 46 d_SL_mend_44 rfl (Nat.le_of_ble_eq_true rfl) ?_
  refine ex_aload (a := ad (pl n 0)) 48 d_SL_mend_46 rfl rfl ?_
  refine xl_callVi [] [] 51 d_SL_mend_48 rfl zv_Node_canTakePart ⟨(Nat.le_of_ble_eq_true rfl), (Nat.le_of_ble_eq_true rfl)⟩ m_SL_40 (kpl hn (by decide)) (sh_Node hn) rfl rfl (Nat.le_of_ble_eq_true rfl) rfl (Nat.le_of_ble_eq_true rfl) (c_Node_canTakePart (S := S) n hn) (fun vv ww q4 => ?_)
  rw [q4.1, q4.2]
  by_cases h5 : canF n S
  · refine Ex.int (zb_t h5) ?_
    refine ex_ifeq 62 54 d_SL_mend_51 rfl rfl (fun h => absurd h (by decide)) (fun _ => ?_)
    refine ex_aload (a := ad (pl a 0)) 56 d_SL_mend_54 rfl rfl ?_
    refine xl_callVi [] [] 59 d_SL_mend_56 rfl zv_Node_canTakePart ⟨(Nat.le_of_ble_eq_true rfl), (Nat.le_of_ble_eq_true rfl)⟩ m_SL_40 (kpl ha (by decide)) (sh_Node ha) rfl rfl (Nat.le_of_ble_eq_true rfl) rfl (Nat.le_of_ble_eq_true rfl) (c_Node_canTakePart (S := S) a ha) (fun vv ww q6 => ?_)
    rw [q6.1, q6.2]
    by_cases h7 : canF a S
    · refine Ex.int (zb_t h7) ?_
      refine ex_ifne 64 62 d_SL_mend_59 rfl rfl (fun _ => ?_) (fun h => absurd h (by decide))
      refine ex_aload (a := ad (pl n 0)) 66 d_SL_mend_64 rfl rfl ?_
      refine xl_getR 69 d_SL_mend_66 rfl g_SL_75 (kpl hn (by decide)) (sh_Node hn) rfl ?_
      refine ex_iload_n (a := nI s) 70 d_SL_mend_69 rfl rfl ?_
      refine xl_iald 71 d_SL_mend_70 rfl (kpl hn (by decide)) (sh_Nslots hn) rfl (by omega) (by omega) ?_
      refine ex_istore 73 d_SL_mend_71 rfl (Nat.le_of_ble_eq_true rfl) ?_
      refine ex_aload (a := ad (pl a 0)) 75 d_SL_mend_73 rfl rfl ?_
      refine xl_getR 78 d_SL_mend_75 rfl g_SL_75 (kpl ha (by decide)) (sh_Node ha) rfl ?_
      refine ex_iload_n (a := nI s) 79 d_SL_mend_78 rfl rfl ?_
      refine xl_iald 80 d_SL_mend_79 rfl (kpl ha (by decide)) (sh_Nslots ha) rfl (by omega) (by omega) ?_
      refine ex_istore 82 d_SL_mend_80 rfl (Nat.le_of_ble_eq_true rfl) ?_
      refine ex_iload (a := S (pl n 3) s) 84 d_SL_mend_82 rfl rfl ?_
      refine xl_callSi [.int (S (pl n 3) s)] [] 87 d_SL_mend_84 rfl zs_SlotState_isDamaged ⟨(Nat.le_of_ble_eq_true rfl), (Nat.le_of_ble_eq_true rfl)⟩ m_SL_137 rfl rfl (Nat.le_of_ble_eq_true rfl) rfl (Nat.le_of_ble_eq_true rfl) (c_SlotState_isDamaged (S := S) (S (pl n 3) s)) (fun vv ww q8 => ?_)
      rw [q8.1, q8.2]
      by_cases h9 : (S (pl n 3) s) < 0
      · refine Ex.int (zb_t h9) ?_
        refine ex_ifeq 111 90 d_SL_mend_87 rfl rfl (fun h => absurd h (by decide)) (fun _ => ?_)
        refine ex_iload (a := S (pl a 3) s) 92 d_SL_mend_90 rfl rfl ?_
        refine xl_callSi [.int (S (pl a 3) s)] [] 95 d_SL_mend_92 rfl zs_SlotState_isWhole ⟨(Nat.le_of_ble_eq_true rfl), (Nat.le_of_ble_eq_true rfl)⟩ m_SL_142 rfl rfl (Nat.le_of_ble_eq_true rfl) rfl (Nat.le_of_ble_eq_true rfl) (c_SlotState_isWhole (S := S) (S (pl a 3) s)) (fun vv ww q10 => ?_)
        rw [q10.1, q10.2]
        by_cases h11 : 0 < (S (pl a 3) s)
        · refine Ex.int (zb_t h11) ?_
          refine ex_ifeq 111 98 d_SL_mend_95 rfl rfl (fun h => absurd h (by decide)) (fun _ => ?_)
          refine ex_iload (a := S (pl n 3) s) 100 d_SL_mend_98 rfl rfl ?_
          refine xl_callSi [.int (S (pl n 3) s)] [] 103 d_SL_mend_100 rfl zs_SlotState_ballotOf ⟨(Nat.le_of_ble_eq_true rfl), (Nat.le_of_ble_eq_true rfl)⟩ m_SL_145 rfl rfl (Nat.le_of_ble_eq_true rfl) rfl (Nat.le_of_ble_eq_true rfl) (c_SlotState_ballotOf (S := S) (S (pl n 3) s)) (fun vv ww q12 => ?_)
          rw [q12.1, q12.2]
          refine ex_iload (a := S (pl a 3) s) 105 d_SL_mend_103 rfl rfl ?_
          refine xl_callSi [.int (S (pl a 3) s)] [.int ((blOf (S (pl n 3) s)))] 108 d_SL_mend_105 rfl zs_SlotState_ballotOf ⟨(Nat.le_of_ble_eq_true rfl), (Nat.le_of_ble_eq_true rfl)⟩ m_SL_145 rfl rfl (Nat.le_of_ble_eq_true rfl) rfl (Nat.le_of_ble_eq_true rfl) (c_SlotState_ballotOf (S := S) (S (pl a 3) s)) (fun vv ww q13 => ?_)
          rw [q13.1, q13.2]
          refine ex_icmpeq 113 111 d_SL_mend_108 rfl rfl (fun h14 => ?_) (fun h14 => ?_)
          · refine ex_aload (a := ad (pl n 0)) 115 d_SL_mend_113 rfl rfl ?_
            refine ex_iload_n (a := nI s) 116 d_SL_mend_115 rfl rfl ?_
            refine ex_iload (a := S (pl a 3) s) 118 d_SL_mend_116 rfl rfl ?_
            refine xl_callSi [.int (S (pl a 3) s)] [.int (nI s), .ref (ad (pl n 0))] 121 d_SL_mend_118 rfl zs_SlotState_commandOf ⟨(Nat.le_of_ble_eq_true rfl), (Nat.le_of_ble_eq_true rfl)⟩ m_SL_148 rfl rfl (Nat.le_of_ble_eq_true rfl) rfl (Nat.le_of_ble_eq_true rfl) (c_SlotState_commandOf (S := S) (S (pl a 3) s)) (fun vv ww q15 => ?_)
            rw [q15.1, q15.2]
            refine ex_iload (a := S (pl a 3) s) 123 d_SL_mend_121 rfl rfl ?_
            refine xl_callSi [.int (S (pl a 3) s)] [.int ((cmOf (S (pl a 3) s))), .int (nI s), .ref (ad (pl n 0))] 126 d_SL_mend_123 rfl zs_SlotState_ballotOf ⟨(Nat.le_of_ble_eq_true rfl), (Nat.le_of_ble_eq_true rfl)⟩ m_SL_145 rfl rfl (Nat.le_of_ble_eq_true rfl) rfl (Nat.le_of_ble_eq_true rfl) (c_SlotState_ballotOf (S := S) (S (pl a 3) s)) (fun vv ww q16 => ?_)
            rw [q16.1, q16.2]
            refine xl_callVi [.int (nI s), .int ((cmOf (S (pl a 3) s))), .int ((blOf (S (pl a 3) s)))] [] 129 d_SL_mend_126 rfl zv_Node_writeVote ⟨(Nat.le_of_ble_eq_true rfl), (Nat.le_of_ble_eq_true rfl)⟩ m_SL_118 (kpl hn (by decide)) (sh_Node hn) rfl rfl (Nat.le_of_ble_eq_true rfl) rfl (Nat.le_of_ble_eq_true rfl) (c_Node_writeVote (S := S) n (s) hn (by omega) (by omega) (cmOf (S (pl a 3) s)) (blOf (S (pl a 3) s))) (fun vv ww q17 => ?_)
            rw [q17.1, q17.2]
            by_cases h18 : wvOk n (s) (cmOf (S (pl a 3) s)) (blOf (S (pl a 3) s)) S
            · refine Ex.int (zb_t h18) ?_
              refine ex_istore 131 d_SL_mend_129 rfl (Nat.le_of_ble_eq_true rfl) ?_
              refine ex_iload (a := 1) 133 d_SL_mend_131 rfl rfl ?_
              refine ex_ifeq 140 136 d_SL_mend_133 rfl rfl (fun h => absurd h (by decide)) (fun _ => ?_)
              refine ex_iconst (v := 1) 137 d_SL_mend_136 rfl (by decide) ?_
              refine ex_goto 142 d_SL_mend_137 rfl ?_
              refine ex_iret d_SL_mend_142 rfl ⟨_, rfl, ?_⟩
              refine ⟨?_, ?_⟩
              · unfold mendS; rw [if_pos h5, if_pos h7, if_pos h9, if_pos h11, if_pos h14]
              · unfold mendR; rw [if_pos h5, if_pos h7, if_pos h9, if_pos h11, if_pos h14, if_pos h18]
            · refine Ex.int (zb_f h18) ?_
              refine ex_istore 131 d_SL_mend_129 rfl (Nat.le_of_ble_eq_true rfl) ?_
              refine ex_iload (a := 0) 133 d_SL_mend_131 rfl rfl ?_
              refine ex_ifeq 140 136 d_SL_mend_133 rfl rfl (fun _ => ?_) (fun h => absurd (by decide) h)
              refine ex_bipush (v := (-4)) 142 d_SL_mend_140 rfl (by decide) ?_
              refine ex_iret d_SL_mend_142 rfl ⟨_, rfl, ?_⟩
              refine ⟨?_, ?_⟩
              · unfold mendS; rw [if_pos h5, if_pos h7, if_pos h9, if_pos h11, if_pos h14]
              · unfold mendR; rw [if_pos h5, if_pos h7, if_pos h9, if_pos h11, if_pos h14, if_neg h18]
          · refine ex_iconst (v := 0) 112 d_SL_mend_111 rfl (by decide) ?_
            refine ex_iret d_SL_mend_112 rfl ⟨_, rfl, ?_⟩
            refine ⟨?_, ?_⟩
            · unfold mendS; rw [if_pos h5, if_pos h7, if_pos h9, if_pos h11, if_neg h14]
            · unfold mendR; rw [if_pos h5, if_pos h7, if_pos h9, if_pos h11, if_neg h14]
        · refine Ex.int (zb_f h11) ?_
          refine ex_ifeq 111 98 d_SL_mend_95 rfl rfl (fun _ => ?_) (fun h => absurd (by decide) h)
          refine ex_iconst (v := 0) 112 d_SL_mend_111 rfl (by decide) ?_
          refine ex_iret d_SL_mend_112 rfl ⟨_, rfl, ?_⟩
          refine ⟨?_, ?_⟩
          · unfold mendS; rw [if_pos h5, if_pos h7, if_pos h9, if_neg h11]
          · unfold mendR; rw [if_pos h5, if_pos h7, if_pos h9, if_neg h11]
      · refine Ex.int (zb_f h9) ?_
        refine ex_ifeq 111 90 d_SL_mend_87 rfl rfl (fun _ => ?_) (fun h => absurd (by decide) h)
        refine ex_iconst (v := 0) 112 d_SL_mend_111 rfl (by decide) ?_
        refine ex_iret d_SL_mend_112 rfl ⟨_, rfl, ?_⟩
        refine ⟨?_, ?_⟩
        · unfold mendS; rw [if_pos h5, if_pos h7, if_neg h9]
        · unfold mendR; rw [if_pos h5, if_pos h7, if_neg h9]
    · refine Ex.int (zb_f h7) ?_
      refine ex_ifne 64 62 d_SL_mend_59 rfl rfl (fun h => absurd (by decide) h) (fun _ => ?_)
      refine ex_iconst (v := 0) 63 d_SL_mend_62 rfl (by decide) ?_
      refine ex_iret d_SL_mend_63 rfl ⟨_, rfl, ?_⟩
      refine ⟨?_, ?_⟩
      · unfold mendS; rw [if_pos h5, if_neg h7]
      · unfold mendR; rw [if_pos h5, if_neg h7]
  · refine Ex.int (zb_f h5) ?_
    refine ex_ifeq 62 54 d_SL_mend_51 rfl rfl (fun _ => ?_) (fun h => absurd (by decide) h)
    refine ex_iconst (v := 0) 63 d_SL_mend_62 rfl (by decide) ?_
    refine ex_iret d_SL_mend_63 rfl ⟨_, rfl, ?_⟩
    refine ⟨?_, ?_⟩
    · unfold mendS; rw [if_neg h5]
    · unfold mendR; rw [if_neg h5]
set_option maxRecDepth 100000 in
set_option maxHeartbeats 4000000 in
theorem c_SL_crash (n : Nat) (hn : n < N) (hN : N ≤ 5) (hI : Iok N S)  : Ex G none mi_SL_crash 0 0 0 (xEn mi_SL_crash [.ref (ad 0), .int (nI n)]) [] (LY G ad N S) (xI (fun v w => w = LY G ad N (crashS n S) ∧ v = crashR n S)) := by
  have hnN : isN N (nI n) := isN_nI hn hN
  refine ex_aload_n (a := ad 0) 1 d_SL_crash_0 rfl rfl ?_
  refine ex_iload_n (a := nI n) 2 d_SL_crash_1 rfl rfl ?_
  refine xl_callVi [.int (nI n)] [] 5 d_SL_crash_2 rfl zv_SL_isNode ⟨(Nat.le_of_ble_eq_true rfl), (Nat.le_of_ble_eq_true rfl)⟩ m_SL_37 (kp0 (by decide)) sh_SL rfl rfl (Nat.le_of_ble_eq_true rfl) rfl (Nat.le_of_ble_eq_true rfl) (c_SL_isNode (S := S) (nI n)) (fun vv ww q1 => ?_)
  rw [q1.1, q1.2]
  refine Ex.int (zb_t hnN) ?_
  refine ex_ifeq 20 8 d_SL_crash_5 rfl rfl (fun h => absurd h (by decide)) (fun _ => ?_)
  refine ex_aload_n (a := ad 0) 9 d_SL_crash_8 rfl rfl ?_
  refine xl_getR 12 d_SL_crash_9 rfl g_SL_18 (kp0 (by decide)) sh_SL rfl ?_
  refine ex_iload_n (a := nI n) 13 d_SL_crash_12 rfl rfl ?_
  refine xl_aald 14 d_SL_crash_13 rfl (kp0 (by decide)) sh_NA rfl (by omega) (by omega) ?_
  refine xl_get 17 d_SL_crash_14 rfl g_SL_129 (kpl hn (by decide)) (sh_Node hn) rfl ?_
  refine ex_ifne 22 20 d_SL_crash_17 rfl rfl (fun h2 => ?_) (fun h2 => ?_)
  · refine ex_aload_n (a := ad 0) 23 d_SL_crash_22 rfl rfl ?_
    refine xl_getR 26 d_SL_crash_23 rfl g_SL_18 (kp0 (by decide)) sh_SL rfl ?_
    refine ex_iload_n (a := nI n) 27 d_SL_crash_26 rfl rfl ?_
    refine xl_aald 28 d_SL_crash_27 rfl (kp0 (by decide)) sh_NA rfl (by omega) (by omega) ?_
    refine xl_callVv [] [] 31 d_SL_crash_28 rfl zv_Node_goDown ⟨(Nat.le_of_ble_eq_true rfl), (Nat.le_of_ble_eq_true rfl)⟩ m_SL_151 (kpl hn (by decide)) (sh_Node hn) rfl rfl (Nat.le_of_ble_eq_true rfl) rfl (Nat.le_of_ble_eq_true rfl) (c_Node_goDown (S := S) n hn) (fun ww q3 => ?_)
    rw [q3]
    refine ex_iconst (v := 1) 32 d_SL_crash_31 rfl (by decide) ?_
    refine ex_zret d_SL_crash_32 rfl rfl ⟨_, rfl, ?_⟩
    refine ⟨?_, ?_⟩
    · unfold crashS; rw [if_neg h2]
    · unfold crashR; rw [if_neg h2]
  · refine ex_iconst (v := 0) 21 d_SL_crash_20 rfl (by decide) ?_
    refine ex_zret d_SL_crash_21 rfl rfl ⟨_, rfl, ?_⟩
    refine ⟨?_, ?_⟩
    · unfold crashS; rw [if_pos h2]
    · unfold crashR; rw [if_pos h2]
set_option maxRecDepth 100000 in
set_option maxHeartbeats 4000000 in
theorem c_SL_restart (n : Nat) (hn : n < N) (hN : N ≤ 5) (hI : Iok N S)  : Ex G none mi_SL_restart 0 0 0 (xEn mi_SL_restart [.ref (ad 0), .int (nI n)]) [] (LY G ad N S) (xI (fun v w => w = LY G ad N (restS n S) ∧ v = restR n S)) := by
  have hnN : isN N (nI n) := isN_nI hn hN
  refine ex_aload_n (a := ad 0) 1 d_SL_restart_0 rfl rfl ?_
  refine ex_iload_n (a := nI n) 2 d_SL_restart_1 rfl rfl ?_
  refine xl_callVi [.int (nI n)] [] 5 d_SL_restart_2 rfl zv_SL_isNode ⟨(Nat.le_of_ble_eq_true rfl), (Nat.le_of_ble_eq_true rfl)⟩ m_SL_37 (kp0 (by decide)) sh_SL rfl rfl (Nat.le_of_ble_eq_true rfl) rfl (Nat.le_of_ble_eq_true rfl) (c_SL_isNode (S := S) (nI n)) (fun vv ww q1 => ?_)
  rw [q1.1, q1.2]
  refine Ex.int (zb_t hnN) ?_
  refine ex_ifeq 20 8 d_SL_restart_5 rfl rfl (fun h => absurd h (by decide)) (fun _ => ?_)
  refine ex_aload_n (a := ad 0) 9 d_SL_restart_8 rfl rfl ?_
  refine xl_getR 12 d_SL_restart_9 rfl g_SL_18 (kp0 (by decide)) sh_SL rfl ?_
  refine ex_iload_n (a := nI n) 13 d_SL_restart_12 rfl rfl ?_
  refine xl_aald 14 d_SL_restart_13 rfl (kp0 (by decide)) sh_NA rfl (by omega) (by omega) ?_
  refine xl_get 17 d_SL_restart_14 rfl g_SL_129 (kpl hn (by decide)) (sh_Node hn) rfl ?_
  refine ex_ifeq 22 20 d_SL_restart_17 rfl rfl (fun h2 => ?_) (fun h2 => ?_)
  · refine ex_aload_n (a := ad 0) 23 d_SL_restart_22 rfl rfl ?_
    refine xl_getR 26 d_SL_restart_23 rfl g_SL_18 (kp0 (by decide)) sh_SL rfl ?_
    refine ex_iload_n (a := nI n) 27 d_SL_restart_26 rfl rfl ?_
    refine xl_aald 28 d_SL_restart_27 rfl (kp0 (by decide)) sh_NA rfl (by omega) (by omega) ?_
    refine xl_callVv [] [] 31 d_SL_restart_28 rfl zv_Node_comeUp ⟨(Nat.le_of_ble_eq_true rfl), (Nat.le_of_ble_eq_true rfl)⟩ m_SL_154 (kpl hn (by decide)) (sh_Node hn) rfl rfl (Nat.le_of_ble_eq_true rfl) rfl (Nat.le_of_ble_eq_true rfl) (c_Node_comeUp (S := S) n hn) (fun ww q3 => ?_)
    rw [q3]
    refine ex_iconst (v := 1) 32 d_SL_restart_31 rfl (by decide) ?_
    refine ex_zret d_SL_restart_32 rfl rfl ⟨_, rfl, ?_⟩
    refine ⟨?_, ?_⟩
    · unfold restS; rw [if_pos h2]
    · unfold restR; rw [if_pos h2]
  · refine ex_iconst (v := 0) 21 d_SL_restart_20 rfl (by decide) ?_
    refine ex_zret d_SL_restart_21 rfl rfl ⟨_, rfl, ?_⟩
    refine ⟨?_, ?_⟩
    · unfold restS; rw [if_neg h2]
    · unfold restR; rw [if_neg h2]
set_option maxRecDepth 100000 in
set_option maxHeartbeats 4000000 in
theorem c_SL_arm (n : Nat) (hn : n < N) (hN : N ≤ 5) (hI : Iok N S) (k : Int32) : Ex G none mi_SL_arm 0 0 0 (xEn mi_SL_arm [.ref (ad 0), .int (nI n), .int k]) [] (LY G ad N S) (xI (fun v w => w = LY G ad N (armS n k S) ∧ v = armR n k S)) := by
  have hnN : isN N (nI n) := isN_nI hn hN
  refine ex_aload_n (a := ad 0) 1 d_SL_arm_0 rfl rfl ?_
  refine ex_iload_n (a := nI n) 2 d_SL_arm_1 rfl rfl ?_
  refine xl_callVi [.int (nI n)] [] 5 d_SL_arm_2 rfl zv_SL_isNode ⟨(Nat.le_of_ble_eq_true rfl), (Nat.le_of_ble_eq_true rfl)⟩ m_SL_37 (kp0 (by decide)) sh_SL rfl rfl (Nat.le_of_ble_eq_true rfl) rfl (Nat.le_of_ble_eq_true rfl) (c_SL_isNode (S := S) (nI n)) (fun vv ww q1 => ?_)
  rw [q1.1, q1.2]
  refine Ex.int (zb_t hnN) ?_
  refine ex_ifeq 30 8 d_SL_arm_5 rfl rfl (fun h => absurd h (by decide)) (fun _ => ?_)
  refine ex_aload_n (a := ad 0) 9 d_SL_arm_8 rfl rfl ?_
  refine xl_getR 12 d_SL_arm_9 rfl g_SL_18 (kp0 (by decide)) sh_SL rfl ?_
  refine ex_iload_n (a := nI n) 13 d_SL_arm_12 rfl rfl ?_
  refine xl_aald 14 d_SL_arm_13 rfl (kp0 (by decide)) sh_NA rfl (by omega) (by omega) ?_
  refine xl_get 17 d_SL_arm_14 rfl g_SL_129 (kpl hn (by decide)) (sh_Node hn) rfl ?_
  refine ex_ifeq 30 20 d_SL_arm_17 rfl rfl (fun h2 => ?_) (fun h2 => ?_)
  · refine ex_iconst (v := 0) 31 d_SL_arm_30 rfl (by decide) ?_
    refine ex_zret d_SL_arm_31 rfl rfl ⟨_, rfl, ?_⟩
    refine ⟨?_, ?_⟩
    · unfold armS; rw [if_pos h2]
    · unfold armR; rw [if_pos h2]
  · refine ex_iload_n (a := k) 21 d_SL_arm_20 rfl rfl ?_
    refine ex_iflt 30 24 d_SL_arm_21 rfl rfl (fun h3 => ?_) (fun h3 => ?_)
    · refine ex_iconst (v := 0) 31 d_SL_arm_30 rfl (by decide) ?_
      refine ex_zret d_SL_arm_31 rfl rfl ⟨_, rfl, ?_⟩
      refine ⟨?_, ?_⟩
      · unfold armS; rw [if_neg h2, if_pos h3]
      · unfold armR; rw [if_neg h2, if_pos h3]
    · refine ex_iload_n (a := k) 25 d_SL_arm_24 rfl rfl ?_
      refine ex_bipush (v := 40) 27 d_SL_arm_25 rfl (by decide) ?_
      refine ex_icmple 32 30 d_SL_arm_27 rfl rfl (fun h4 => ?_) (fun h4 => ?_)
      · refine ex_aload_n (a := ad 0) 33 d_SL_arm_32 rfl rfl ?_
        refine xl_getR 36 d_SL_arm_33 rfl g_SL_18 (kp0 (by decide)) sh_SL rfl ?_
        refine ex_iload_n (a := nI n) 37 d_SL_arm_36 rfl rfl ?_
        refine xl_aald 38 d_SL_arm_37 rfl (kp0 (by decide)) sh_NA rfl (by omega) (by omega) ?_
        refine ex_iload_n (a := k) 39 d_SL_arm_38 rfl rfl ?_
        refine xl_put 42 d_SL_arm_39 rfl p_SL_157 rfl rfl (kpl hn (by decide)) (sh_Node hn) rfl ?_
        refine ex_iconst (v := 1) 43 d_SL_arm_42 rfl (by decide) ?_
        refine ex_zret d_SL_arm_43 rfl rfl ⟨_, rfl, ?_⟩
        refine ⟨?_, ?_⟩
        · unfold armS; rw [if_neg h2, if_neg h3, if_pos h4]
        · unfold armR; rw [if_neg h2, if_neg h3, if_pos h4]
      · refine ex_iconst (v := 0) 31 d_SL_arm_30 rfl (by decide) ?_
        refine ex_zret d_SL_arm_31 rfl rfl ⟨_, rfl, ?_⟩
        refine ⟨?_, ?_⟩
        · unfold armS; rw [if_neg h2, if_neg h3, if_neg h4]
        · unfold armR; rw [if_neg h2, if_neg h3, if_neg h4]
set_option maxRecDepth 100000 in
set_option maxHeartbeats 4000000 in
theorem c_SL_isSoundSector (n : Nat) (hn : n < N) (hN : N ≤ 5) (hI : Iok N S) (s : Nat) (hs : s < 18) : Ex G none mi_SL_isSoundSector 0 0 0 (xEn mi_SL_isSoundSector [.ref (ad 0), .int (nI n), .int (nI s)]) [] (LY G ad N S) (xI (fun v w => w = LY G ad N S ∧ v = zb (¬ wrongF (S (pl n 2)) (8 * s)))) := by
  have hnN : isN N (nI n) := isN_nI hn hN
  refine ex_aload_n (a := ad 0) 1 d_SL_isSoundSector_0 rfl rfl ?_
  refine ex_iload_n (a := nI n) 2 d_SL_isSoundSector_1 rfl rfl ?_
  refine xl_callVi [.int (nI n)] [] 5 d_SL_isSoundSector_2 rfl zv_SL_isNode ⟨(Nat.le_of_ble_eq_true rfl), (Nat.le_of_ble_eq_true rfl)⟩ m_SL_37 (kp0 (by decide)) sh_SL rfl rfl (Nat.le_of_ble_eq_true rfl) rfl (Nat.le_of_ble_eq_true rfl) (c_SL_isNode (S := S) (nI n)) (fun vv ww q1 => ?_)
  rw [q1.1, q1.2]
  refine Ex.int (zb_t hnN) ?_
  refine ex_ifeq 38 8 d_SL_isSoundSector_5 rfl rfl (fun h => absurd h (by decide)) (fun _ => ?_)
  refine ex_iload_n (a := nI s) 9 d_SL_isSoundSector_8 rfl rfl ?_
  refine ex_iflt 38 12 d_SL_isSoundSector_9 rfl rfl (fun h => absurd h (xn_nlt rfl (xn_lit 0) (by omega) (by omega) (by omega))) (fun _ => ?_)
  refine ex_iload_n (a := nI s) 13 d_SL_isSoundSector_12 rfl rfl ?_
  refine ex_bipush (v := 18) 15 d_SL_isSoundSector_13 rfl (by decide) ?_
  refine ex_icmpge 38 18 d_SL_isSoundSector_15 rfl rfl (fun h => absurd h (xn_nle (xn_lit 18) rfl (by omega) (by omega) (by omega))) (fun _ => ?_)
  refine ex_aload_n (a := ad 0) 19 d_SL_isSoundSector_18 rfl rfl ?_
  refine xl_getR 22 d_SL_isSoundSector_19 rfl g_SL_18 (kp0 (by decide)) sh_SL rfl ?_
  refine ex_iload_n (a := nI n) 23 d_SL_isSoundSector_22 rfl rfl ?_
  refine xl_aald 24 d_SL_isSoundSector_23 rfl (kp0 (by decide)) sh_NA rfl (by omega) (by omega) ?_
  refine xl_getR 27 d_SL_isSoundSector_24 rfl g_SL_165 (kpl hn (by decide)) (sh_Node hn) rfl ?_
  refine ex_iload_n (a := nI s) 28 d_SL_isSoundSector_27 rfl rfl ?_
  refine xl_callVi [.int (nI s)] [] 31 d_SL_isSoundSector_28 rfl zv_Disk_isWrong ⟨(Nat.le_of_ble_eq_true rfl), (Nat.le_of_ble_eq_true rfl)⟩ m_SL_205 (kpl hn (by decide)) (sh_Disk hn) rfl rfl (Nat.le_of_ble_eq_true rfl) rfl (Nat.le_of_ble_eq_true rfl) (c_Disk_isWrong (S := S) n (s) hn (by omega)) (fun vv ww q2 => ?_)
  rw [q2.1, q2.2]
  by_cases h3 : wrongF (S (pl n 2)) (8 * (s))
  · refine Ex.int (zb_t h3) ?_
    refine ex_ifne 38 34 d_SL_isSoundSector_31 rfl rfl (fun _ => ?_) (fun h => absurd h (by decide))
    refine ex_iconst (v := 0) 39 d_SL_isSoundSector_38 rfl (by decide) ?_
    refine ex_zret d_SL_isSoundSector_39 rfl rfl ⟨_, rfl, ?_⟩
    exact ⟨rfl, (Eq.symm (zb_f (fun z => z h3)))⟩
  · refine Ex.int (zb_f h3) ?_
    refine ex_ifne 38 34 d_SL_isSoundSector_31 rfl rfl (fun h => absurd (by decide) h) (fun _ => ?_)
    refine ex_iconst (v := 1) 35 d_SL_isSoundSector_34 rfl (by decide) ?_
    refine ex_goto 39 d_SL_isSoundSector_35 rfl ?_
    refine ex_zret d_SL_isSoundSector_39 rfl rfl ⟨_, rfl, ?_⟩
    exact ⟨rfl, (Eq.symm (zb_t h3))⟩
set_option maxRecDepth 100000 in
set_option maxHeartbeats 4000000 in
theorem c_SL_flip (n : Nat) (hn : n < N) (hN : N ≤ 5) (hI : Iok N S) (s b : Nat) (hs : s < 18) (hb : b < 64) : Ex G none mi_SL_flip 0 0 0 (xEn mi_SL_flip [.ref (ad 0), .int (nI n), .int (nI s), .int (nI b)]) [] (LY G ad N S) (xI (fun v w => w = LY G ad N (flipT n s b S) ∧ v = flipR n s S)) := by
  have hnN : isN N (nI n) := isN_nI hn hN
  refine ex_aload_n (a := ad 0) 1 d_SL_flip_0 rfl rfl ?_
  refine ex_iload_n (a := nI n) 2 d_SL_flip_1 rfl rfl ?_
  refine ex_iload_n (a := nI s) 3 d_SL_flip_2 rfl rfl ?_
  refine xl_callVi [.int (nI n), .int (nI s)] [] 6 d_SL_flip_3 rfl zv_SL_isSoundSector ⟨(Nat.le_of_ble_eq_true rfl), (Nat.le_of_ble_eq_true rfl)⟩ m_SL_160 (kp0 (by decide)) sh_SL rfl rfl (Nat.le_of_ble_eq_true rfl) rfl (Nat.le_of_ble_eq_true rfl) (c_SL_isSoundSector (S := S) n hn hN hI (s) (by omega)) (fun vv ww q1 => ?_)
  rw [q1.1, q1.2]
  by_cases h2 : ¬ wrongF (S (pl n 2)) (8 * (s))
  · refine Ex.int (zb_t h2) ?_
    refine ex_ifeq 19 9 d_SL_flip_6 rfl rfl (fun h => absurd h (by decide)) (fun _ => ?_)
    refine ex_iload_n (a := nI b) 10 d_SL_flip_9 rfl rfl ?_
    refine ex_iflt 19 13 d_SL_flip_10 rfl rfl (fun h => absurd h (xn_nlt rfl (xn_lit 0) (by omega) (by omega) (by omega))) (fun _ => ?_)
    refine ex_iload_n (a := nI b) 14 d_SL_flip_13 rfl rfl ?_
    refine ex_bipush (v := 64) 16 d_SL_flip_14 rfl (by decide) ?_
    refine ex_icmplt 21 19 d_SL_flip_16 rfl rfl (fun _ => ?_) (fun h => absurd (xn_lt rfl (xn_lit 64) (by omega) (by omega) (by omega)) h)
    refine ex_aload_n (a := ad 0) 22 d_SL_flip_21 rfl rfl ?_
    refine xl_getR 25 d_SL_flip_22 rfl g_SL_18 (kp0 (by decide)) sh_SL rfl ?_
    refine ex_iload_n (a := nI n) 26 d_SL_flip_25 rfl rfl ?_
    refine xl_aald 27 d_SL_flip_26 rfl (kp0 (by decide)) sh_NA rfl (by omega) (by omega) ?_
    refine xl_getR 30 d_SL_flip_27 rfl g_SL_165 (kpl hn (by decide)) (sh_Node hn) rfl ?_
    refine ex_iload_n (a := nI s) 31 d_SL_flip_30 rfl rfl ?_
    refine ex_iload_n (a := nI b) 32 d_SL_flip_31 rfl rfl ?_
    refine xl_callVv [.int (nI s), .int (nI b)] [] 35 d_SL_flip_32 rfl zv_Disk_flipBit ⟨(Nat.le_of_ble_eq_true rfl), (Nat.le_of_ble_eq_true rfl)⟩ m_SL_169 (kpl hn (by decide)) (sh_Disk hn) rfl rfl (Nat.le_of_ble_eq_true rfl) rfl (Nat.le_of_ble_eq_true rfl) (c_Disk_flipBit (S := S) n (s) (b) hn (by omega) (by omega)) (fun ww q3 => ?_)
    rw [q3]
    refine ex_iconst (v := 1) 36 d_SL_flip_35 rfl (by decide) ?_
    refine ex_zret d_SL_flip_36 rfl rfl ⟨_, rfl, ?_⟩
    refine ⟨?_, ?_⟩
    · unfold flipT; rw [if_neg h2]
    · unfold flipR; rw [if_neg h2]
  · refine Ex.int (zb_f h2) ?_
    refine ex_ifeq 19 9 d_SL_flip_6 rfl rfl (fun _ => ?_) (fun h => absurd (by decide) h)
    refine ex_iconst (v := 0) 20 d_SL_flip_19 rfl (by decide) ?_
    refine ex_zret d_SL_flip_20 rfl rfl ⟨_, rfl, ?_⟩
    refine ⟨?_, ?_⟩
    · unfold flipT; rw [if_pos (Classical.not_not.mp h2)]
    · unfold flipR; rw [if_pos (Classical.not_not.mp h2)]
set_option maxRecDepth 100000 in
set_option maxHeartbeats 4000000 in
theorem c_SL_wipe (n : Nat) (hn : n < N) (hN : N ≤ 5) (hI : Iok N S) (s : Nat) (hs : s < 18) : Ex G none mi_SL_wipe 0 0 0 (xEn mi_SL_wipe [.ref (ad 0), .int (nI n), .int (nI s)]) [] (LY G ad N S) (xI (fun v w => w = LY G ad N (wipeT n s S) ∧ v = flipR n s S)) := by
  have hnN : isN N (nI n) := isN_nI hn hN
  refine ex_aload_n (a := ad 0) 1 d_SL_wipe_0 rfl rfl ?_
  refine ex_iload_n (a := nI n) 2 d_SL_wipe_1 rfl rfl ?_
  refine ex_iload_n (a := nI s) 3 d_SL_wipe_2 rfl rfl ?_
  refine xl_callVi [.int (nI n), .int (nI s)] [] 6 d_SL_wipe_3 rfl zv_SL_isSoundSector ⟨(Nat.le_of_ble_eq_true rfl), (Nat.le_of_ble_eq_true rfl)⟩ m_SL_160 (kp0 (by decide)) sh_SL rfl rfl (Nat.le_of_ble_eq_true rfl) rfl (Nat.le_of_ble_eq_true rfl) (c_SL_isSoundSector (S := S) n hn hN hI (s) (by omega)) (fun vv ww q1 => ?_)
  rw [q1.1, q1.2]
  by_cases h2 : ¬ wrongF (S (pl n 2)) (8 * (s))
  · refine Ex.int (zb_t h2) ?_
    refine ex_ifne 11 9 d_SL_wipe_6 rfl rfl (fun _ => ?_) (fun h => absurd h (by decide))
    refine ex_aload_n (a := ad 0) 12 d_SL_wipe_11 rfl rfl ?_
    refine xl_getR 15 d_SL_wipe_12 rfl g_SL_18 (kp0 (by decide)) sh_SL rfl ?_
    refine ex_iload_n (a := nI n) 16 d_SL_wipe_15 rfl rfl ?_
    refine xl_aald 17 d_SL_wipe_16 rfl (kp0 (by decide)) sh_NA rfl (by omega) (by omega) ?_
    refine xl_getR 20 d_SL_wipe_17 rfl g_SL_165 (kpl hn (by decide)) (sh_Node hn) rfl ?_
    refine ex_iload_n (a := nI s) 21 d_SL_wipe_20 rfl rfl ?_
    refine xl_callVv [.int (nI s)] [] 24 d_SL_wipe_21 rfl zv_Disk_clearSector ⟨(Nat.le_of_ble_eq_true rfl), (Nat.le_of_ble_eq_true rfl)⟩ m_SL_172 (kpl hn (by decide)) (sh_Disk hn) rfl rfl (Nat.le_of_ble_eq_true rfl) rfl (Nat.le_of_ble_eq_true rfl) (c_Disk_clearSector (S := S) n (s) hn (by omega)) (fun ww q3 => ?_)
    rw [q3]
    refine ex_iconst (v := 1) 25 d_SL_wipe_24 rfl (by decide) ?_
    refine ex_zret d_SL_wipe_25 rfl rfl ⟨_, rfl, ?_⟩
    refine ⟨?_, ?_⟩
    · unfold wipeT; rw [if_neg h2]
    · unfold flipR; rw [if_neg h2]
  · refine Ex.int (zb_f h2) ?_
    refine ex_ifne 11 9 d_SL_wipe_6 rfl rfl (fun h => absurd (by decide) h) (fun _ => ?_)
    refine ex_iconst (v := 0) 10 d_SL_wipe_9 rfl (by decide) ?_
    refine ex_zret d_SL_wipe_10 rfl rfl ⟨_, rfl, ?_⟩
    refine ⟨?_, ?_⟩
    · unfold wipeT; rw [if_pos (Classical.not_not.mp h2)]
    · unfold flipR; rw [if_pos (Classical.not_not.mp h2)]
set_option maxRecDepth 100000 in
set_option maxHeartbeats 4000000 in
theorem c_SL_look_0 (n : Nat) (hn : n < N) (hN : N ≤ 5) (hI : Iok N S)  : Ex G none mi_SL_look 0 0 0 (xEn mi_SL_look [.ref (ad 0), .int (nI n), .int 0]) [] (LY G ad N S) (xI (fun v w => w = LY G ad N S ∧ v = zbc (S (pl n 0) 5))) := by
  have hnN : isN N (nI n) := isN_nI hn hN
  refine ex_aload_n (a := ad 0) 1 d_SL_look_0 rfl rfl ?_
  refine ex_iload_n (a := nI n) 2 d_SL_look_1 rfl rfl ?_
  refine xl_callVi [.int (nI n)] [] 5 d_SL_look_2 rfl zv_SL_isNode ⟨(Nat.le_of_ble_eq_true rfl), (Nat.le_of_ble_eq_true rfl)⟩ m_SL_37 (kp0 (by decide)) sh_SL rfl rfl (Nat.le_of_ble_eq_true rfl) rfl (Nat.le_of_ble_eq_true rfl) (c_SL_isNode (S := S) (nI n)) (fun vv ww q1 => ?_)
  rw [q1.1, q1.2]
  refine Ex.int (zb_t hnN) ?_
  refine ex_ifne 10 8 d_SL_look_5 rfl rfl (fun _ => ?_) (fun h => absurd h (by decide))
  refine ex_aload_n (a := ad 0) 11 d_SL_look_10 rfl rfl ?_
  refine xl_getR 14 d_SL_look_11 rfl g_SL_18 (kp0 (by decide)) sh_SL rfl ?_
  refine ex_iload_n (a := nI n) 15 d_SL_look_14 rfl rfl ?_
  refine xl_aald 16 d_SL_look_15 rfl (kp0 (by decide)) sh_NA rfl (by omega) (by omega) ?_
  refine ex_astore_n 17 d_SL_look_16 rfl (Nat.le_of_ble_eq_true rfl) ?_
  refine ex_iload_n (a := 0) 18 d_SL_look_17 rfl rfl ?_
  refine ex_tableIn 60 d_SL_look_18 (by decide) (by decide) rfl rfl ?_
  refine ex_aload_n (a := ad (pl n 0)) 61 d_SL_look_60 rfl rfl ?_
  refine xl_get 64 d_SL_look_61 rfl g_SL_129 (kpl hn (by decide)) (sh_Node hn) rfl ?_
  refine ex_ifeq 71 67 d_SL_look_64 rfl rfl (fun h2 => ?_) (fun h2 => ?_)
  · refine ex_iconst (v := 0) 72 d_SL_look_71 rfl (by decide) ?_
    refine ex_iret d_SL_look_72 rfl ⟨_, rfl, ?_⟩
    exact ⟨rfl, (Eq.symm (zb_f (fun z => z h2)))⟩
  · refine ex_iconst (v := 1) 68 d_SL_look_67 rfl (by decide) ?_
    refine ex_goto 72 d_SL_look_68 rfl ?_
    refine ex_iret d_SL_look_72 rfl ⟨_, rfl, ?_⟩
    exact ⟨rfl, (Eq.symm (zb_t h2))⟩
set_option maxRecDepth 100000 in
set_option maxHeartbeats 4000000 in
theorem c_SL_look_1 (n : Nat) (hn : n < N) (hN : N ≤ 5) (hI : Iok N S)  : Ex G none mi_SL_look 0 0 0 (xEn mi_SL_look [.ref (ad 0), .int (nI n), .int 1]) [] (LY G ad N S) (xI (fun v w => w = LY G ad N S ∧ v = zbc (S (pl n 0) 6))) := by
  have hnN : isN N (nI n) := isN_nI hn hN
  refine ex_aload_n (a := ad 0) 1 d_SL_look_0 rfl rfl ?_
  refine ex_iload_n (a := nI n) 2 d_SL_look_1 rfl rfl ?_
  refine xl_callVi [.int (nI n)] [] 5 d_SL_look_2 rfl zv_SL_isNode ⟨(Nat.le_of_ble_eq_true rfl), (Nat.le_of_ble_eq_true rfl)⟩ m_SL_37 (kp0 (by decide)) sh_SL rfl rfl (Nat.le_of_ble_eq_true rfl) rfl (Nat.le_of_ble_eq_true rfl) (c_SL_isNode (S := S) (nI n)) (fun vv ww q1 => ?_)
  rw [q1.1, q1.2]
  refine Ex.int (zb_t hnN) ?_
  refine ex_ifne 10 8 d_SL_look_5 rfl rfl (fun _ => ?_) (fun h => absurd h (by decide))
  refine ex_aload_n (a := ad 0) 11 d_SL_look_10 rfl rfl ?_
  refine xl_getR 14 d_SL_look_11 rfl g_SL_18 (kp0 (by decide)) sh_SL rfl ?_
  refine ex_iload_n (a := nI n) 15 d_SL_look_14 rfl rfl ?_
  refine xl_aald 16 d_SL_look_15 rfl (kp0 (by decide)) sh_NA rfl (by omega) (by omega) ?_
  refine ex_astore_n 17 d_SL_look_16 rfl (Nat.le_of_ble_eq_true rfl) ?_
  refine ex_iload_n (a := 1) 18 d_SL_look_17 rfl rfl ?_
  refine ex_tableIn 73 d_SL_look_18 (by decide) (by decide) rfl rfl ?_
  refine ex_aload_n (a := ad (pl n 0)) 74 d_SL_look_73 rfl rfl ?_
  refine xl_get 77 d_SL_look_74 rfl g_SL_175 (kpl hn (by decide)) (sh_Node hn) rfl ?_
  refine ex_ifeq 84 80 d_SL_look_77 rfl rfl (fun h2 => ?_) (fun h2 => ?_)
  · refine ex_iconst (v := 0) 85 d_SL_look_84 rfl (by decide) ?_
    refine ex_iret d_SL_look_85 rfl ⟨_, rfl, ?_⟩
    exact ⟨rfl, (Eq.symm (zb_f (fun z => z h2)))⟩
  · refine ex_iconst (v := 1) 81 d_SL_look_80 rfl (by decide) ?_
    refine ex_goto 85 d_SL_look_81 rfl ?_
    refine ex_iret d_SL_look_85 rfl ⟨_, rfl, ?_⟩
    exact ⟨rfl, (Eq.symm (zb_t h2))⟩
set_option maxRecDepth 100000 in
set_option maxHeartbeats 4000000 in
theorem c_SL_look_2 (n : Nat) (hn : n < N) (hN : N ≤ 5) (hI : Iok N S)  : Ex G none mi_SL_look 0 0 0 (xEn mi_SL_look [.ref (ad 0), .int (nI n), .int 2]) [] (LY G ad N S) (xI (fun v w => w = LY G ad N S ∧ v = S (pl n 0) 7)) := by
  have hnN : isN N (nI n) := isN_nI hn hN
  refine ex_aload_n (a := ad 0) 1 d_SL_look_0 rfl rfl ?_
  refine ex_iload_n (a := nI n) 2 d_SL_look_1 rfl rfl ?_
  refine xl_callVi [.int (nI n)] [] 5 d_SL_look_2 rfl zv_SL_isNode ⟨(Nat.le_of_ble_eq_true rfl), (Nat.le_of_ble_eq_true rfl)⟩ m_SL_37 (kp0 (by decide)) sh_SL rfl rfl (Nat.le_of_ble_eq_true rfl) rfl (Nat.le_of_ble_eq_true rfl) (c_SL_isNode (S := S) (nI n)) (fun vv ww q1 => ?_)
  rw [q1.1, q1.2]
  refine Ex.int (zb_t hnN) ?_
  refine ex_ifne 10 8 d_SL_look_5 rfl rfl (fun _ => ?_) (fun h => absurd h (by decide))
  refine ex_aload_n (a := ad 0) 11 d_SL_look_10 rfl rfl ?_
  refine xl_getR 14 d_SL_look_11 rfl g_SL_18 (kp0 (by decide)) sh_SL rfl ?_
  refine ex_iload_n (a := nI n) 15 d_SL_look_14 rfl rfl ?_
  refine xl_aald 16 d_SL_look_15 rfl (kp0 (by decide)) sh_NA rfl (by omega) (by omega) ?_
  refine ex_astore_n 17 d_SL_look_16 rfl (Nat.le_of_ble_eq_true rfl) ?_
  refine ex_iload_n (a := 2) 18 d_SL_look_17 rfl rfl ?_
  refine ex_tableIn 86 d_SL_look_18 (by decide) (by decide) rfl rfl ?_
  refine ex_aload_n (a := ad (pl n 0)) 87 d_SL_look_86 rfl rfl ?_
  refine xl_get 90 d_SL_look_87 rfl g_SL_178 (kpl hn (by decide)) (sh_Node hn) rfl ?_
  refine ex_iret d_SL_look_90 rfl ⟨_, rfl, ?_⟩
  exact ⟨rfl, rfl⟩
set_option maxRecDepth 100000 in
set_option maxHeartbeats 4000000 in
theorem c_SL_look_3 (n : Nat) (hn : n < N) (hN : N ≤ 5) (hI : Iok N S)  : Ex G none mi_SL_look 0 0 0 (xEn mi_SL_look [.ref (ad 0), .int (nI n), .int 3]) [] (LY G ad N S) (xI (fun v w => w = LY G ad N S ∧ v = S (pl n 4) 5)) := by
  have hnN : isN N (nI n) := isN_nI hn hN
  refine ex_aload_n (a := ad 0) 1 d_SL_look_0 rfl rfl ?_
  refine ex_iload_n (a := nI n) 2 d_SL_look_1 rfl rfl ?_
  refine xl_callVi [.int (nI n)] [] 5 d_SL_look_2 rfl zv_SL_isNode ⟨(Nat.le_of_ble_eq_true rfl), (Nat.le_of_ble_eq_true rfl)⟩ m_SL_37 (kp0 (by decide)) sh_SL rfl rfl (Nat.le_of_ble_eq_true rfl) rfl (Nat.le_of_ble_eq_true rfl) (c_SL_isNode (S := S) (nI n)) (fun vv ww q1 => ?_)
  rw [q1.1, q1.2]
  refine Ex.int (zb_t hnN) ?_
  refine ex_ifne 10 8 d_SL_look_5 rfl rfl (fun _ => ?_) (fun h => absurd h (by decide))
  refine ex_aload_n (a := ad 0) 11 d_SL_look_10 rfl rfl ?_
  refine xl_getR 14 d_SL_look_11 rfl g_SL_18 (kp0 (by decide)) sh_SL rfl ?_
  refine ex_iload_n (a := nI n) 15 d_SL_look_14 rfl rfl ?_
  refine xl_aald 16 d_SL_look_15 rfl (kp0 (by decide)) sh_NA rfl (by omega) (by omega) ?_
  refine ex_astore_n 17 d_SL_look_16 rfl (Nat.le_of_ble_eq_true rfl) ?_
  refine ex_iload_n (a := 3) 18 d_SL_look_17 rfl rfl ?_
  refine ex_tableIn 91 d_SL_look_18 (by decide) (by decide) rfl rfl ?_
  refine ex_aload_n (a := ad (pl n 0)) 92 d_SL_look_91 rfl rfl ?_
  refine xl_getR 95 d_SL_look_92 rfl g_SL_55 (kpl hn (by decide)) (sh_Node hn) rfl ?_
  refine xl_get 98 d_SL_look_95 rfl g_SL_68 (kpl hn (by decide)) (sh_Term hn) rfl ?_
  refine ex_iret d_SL_look_98 rfl ⟨_, rfl, ?_⟩
  exact ⟨rfl, rfl⟩
set_option maxRecDepth 100000 in
set_option maxHeartbeats 4000000 in
theorem c_SL_look_4 (n : Nat) (hn : n < N) (hN : N ≤ 5) (hI : Iok N S)  : Ex G none mi_SL_look 0 0 0 (xEn mi_SL_look [.ref (ad 0), .int (nI n), .int 4]) [] (LY G ad N S) (xI (fun v w => w = LY G ad N S ∧ v = S (pl n 4) 6)) := by
  have hnN : isN N (nI n) := isN_nI hn hN
  refine ex_aload_n (a := ad 0) 1 d_SL_look_0 rfl rfl ?_
  refine ex_iload_n (a := nI n) 2 d_SL_look_1 rfl rfl ?_
  refine xl_callVi [.int (nI n)] [] 5 d_SL_look_2 rfl zv_SL_isNode ⟨(Nat.le_of_ble_eq_true rfl), (Nat.le_of_ble_eq_true rfl)⟩ m_SL_37 (kp0 (by decide)) sh_SL rfl rfl (Nat.le_of_ble_eq_true rfl) rfl (Nat.le_of_ble_eq_true rfl) (c_SL_isNode (S := S) (nI n)) (fun vv ww q1 => ?_)
  rw [q1.1, q1.2]
  refine Ex.int (zb_t hnN) ?_
  refine ex_ifne 10 8 d_SL_look_5 rfl rfl (fun _ => ?_) (fun h => absurd h (by decide))
  refine ex_aload_n (a := ad 0) 11 d_SL_look_10 rfl rfl ?_
  refine xl_getR 14 d_SL_look_11 rfl g_SL_18 (kp0 (by decide)) sh_SL rfl ?_
  refine ex_iload_n (a := nI n) 15 d_SL_look_14 rfl rfl ?_
  refine xl_aald 16 d_SL_look_15 rfl (kp0 (by decide)) sh_NA rfl (by omega) (by omega) ?_
  refine ex_astore_n 17 d_SL_look_16 rfl (Nat.le_of_ble_eq_true rfl) ?_
  refine ex_iload_n (a := 4) 18 d_SL_look_17 rfl rfl ?_
  refine ex_tableIn 99 d_SL_look_18 (by decide) (by decide) rfl rfl ?_
  refine ex_aload_n (a := ad (pl n 0)) 100 d_SL_look_99 rfl rfl ?_
  refine xl_getR 103 d_SL_look_100 rfl g_SL_55 (kpl hn (by decide)) (sh_Node hn) rfl ?_
  refine xl_get 106 d_SL_look_103 rfl g_SL_181 (kpl hn (by decide)) (sh_Term hn) rfl ?_
  refine ex_iret d_SL_look_106 rfl ⟨_, rfl, ?_⟩
  exact ⟨rfl, rfl⟩
set_option maxRecDepth 100000 in
set_option maxHeartbeats 4000000 in
theorem c_SL_look_5 (n : Nat) (hn : n < N) (hN : N ≤ 5) (hI : Iok N S)  : Ex G none mi_SL_look 0 0 0 (xEn mi_SL_look [.ref (ad 0), .int (nI n), .int 5]) [] (LY G ad N S) (xI (fun v w => w = LY G ad N S ∧ v = S (pl n 9) 5)) := by
  have hnN : isN N (nI n) := isN_nI hn hN
  refine ex_aload_n (a := ad 0) 1 d_SL_look_0 rfl rfl ?_
  refine ex_iload_n (a := nI n) 2 d_SL_look_1 rfl rfl ?_
  refine xl_callVi [.int (nI n)] [] 5 d_SL_look_2 rfl zv_SL_isNode ⟨(Nat.le_of_ble_eq_true rfl), (Nat.le_of_ble_eq_true rfl)⟩ m_SL_37 (kp0 (by decide)) sh_SL rfl rfl (Nat.le_of_ble_eq_true rfl) rfl (Nat.le_of_ble_eq_true rfl) (c_SL_isNode (S := S) (nI n)) (fun vv ww q1 => ?_)
  rw [q1.1, q1.2]
  refine Ex.int (zb_t hnN) ?_
  refine ex_ifne 10 8 d_SL_look_5 rfl rfl (fun _ => ?_) (fun h => absurd h (by decide))
  refine ex_aload_n (a := ad 0) 11 d_SL_look_10 rfl rfl ?_
  refine xl_getR 14 d_SL_look_11 rfl g_SL_18 (kp0 (by decide)) sh_SL rfl ?_
  refine ex_iload_n (a := nI n) 15 d_SL_look_14 rfl rfl ?_
  refine xl_aald 16 d_SL_look_15 rfl (kp0 (by decide)) sh_NA rfl (by omega) (by omega) ?_
  refine ex_astore_n 17 d_SL_look_16 rfl (Nat.le_of_ble_eq_true rfl) ?_
  refine ex_iload_n (a := 5) 18 d_SL_look_17 rfl rfl ?_
  refine ex_tableIn 107 d_SL_look_18 (by decide) (by decide) rfl rfl ?_
  refine ex_aload_n (a := ad (pl n 0)) 108 d_SL_look_107 rfl rfl ?_
  refine xl_getR 111 d_SL_look_108 rfl g_SL_86 (kpl hn (by decide)) (sh_Node hn) rfl ?_
  refine xl_get 114 d_SL_look_111 rfl g_SL_184 (kpl hn (by decide)) (sh_Ledger hn) rfl ?_
  refine ex_iret d_SL_look_114 rfl ⟨_, rfl, ?_⟩
  exact ⟨rfl, rfl⟩
set_option maxRecDepth 100000 in
set_option maxHeartbeats 4000000 in
theorem c_SL_look_6 (n : Nat) (hn : n < N) (hN : N ≤ 5) (hI : Iok N S)  : Ex G none mi_SL_look 0 0 0 (xEn mi_SL_look [.ref (ad 0), .int (nI n), .int 6]) [] (LY G ad N S) (xI (fun v w => w = LY G ad N S ∧ v = S (pl n 0) 8)) := by
  have hnN : isN N (nI n) := isN_nI hn hN
  refine ex_aload_n (a := ad 0) 1 d_SL_look_0 rfl rfl ?_
  refine ex_iload_n (a := nI n) 2 d_SL_look_1 rfl rfl ?_
  refine xl_callVi [.int (nI n)] [] 5 d_SL_look_2 rfl zv_SL_isNode ⟨(Nat.le_of_ble_eq_true rfl), (Nat.le_of_ble_eq_true rfl)⟩ m_SL_37 (kp0 (by decide)) sh_SL rfl rfl (Nat.le_of_ble_eq_true rfl) rfl (Nat.le_of_ble_eq_true rfl) (c_SL_isNode (S := S) (nI n)) (fun vv ww q1 => ?_)
  rw [q1.1, q1.2]
  refine Ex.int (zb_t hnN) ?_
  refine ex_ifne 10 8 d_SL_look_5 rfl rfl (fun _ => ?_) (fun h => absurd h (by decide))
  refine ex_aload_n (a := ad 0) 11 d_SL_look_10 rfl rfl ?_
  refine xl_getR 14 d_SL_look_11 rfl g_SL_18 (kp0 (by decide)) sh_SL rfl ?_
  refine ex_iload_n (a := nI n) 15 d_SL_look_14 rfl rfl ?_
  refine xl_aald 16 d_SL_look_15 rfl (kp0 (by decide)) sh_NA rfl (by omega) (by omega) ?_
  refine ex_astore_n 17 d_SL_look_16 rfl (Nat.le_of_ble_eq_true rfl) ?_
  refine ex_iload_n (a := 6) 18 d_SL_look_17 rfl rfl ?_
  refine ex_tableIn 115 d_SL_look_18 (by decide) (by decide) rfl rfl ?_
  refine ex_aload_n (a := ad (pl n 0)) 116 d_SL_look_115 rfl rfl ?_
  refine xl_get 119 d_SL_look_116 rfl g_SL_157 (kpl hn (by decide)) (sh_Node hn) rfl ?_
  refine ex_iret d_SL_look_119 rfl ⟨_, rfl, ?_⟩
  exact ⟨rfl, rfl⟩
end WK
