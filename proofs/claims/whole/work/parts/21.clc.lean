section WK
variable {G : xC} {ad : Nat → Nat} {N : Nat} {S : sT}
set_option maxRecDepth 100000 in
set_option maxHeartbeats 4000000 in
theorem c_Ledger_forget (i : Nat) (hi : i < N) : Ex G none mi_Ledger_forget 0 0 0 (xEn mi_Ledger_forget [.ref (ad (pl i 9))]) [] (LY G ad N S) (xV (fun w => w = LY G ad N (forgetS i S))) := by
  have hloop2 : ∀ k, k ≤ 31 → Ex G none mi_Ledger_forget 0 0 43 [some (.ref (ad (pl i 9))), some (.int (nI k))] [] (LY G ad N (fgA i (fgN i (fgC i S 9) 4) k)) (xV (fun w => w = LY G ad N (forgetS i S))) := by
    refine loop_down 31 ?_ ?_
    · skip
      refine ex_iload_n (a := nI 31) 44 d_Ledger_forget_43 rfl rfl ?_
      refine ex_bipush (v := 30) 46 d_Ledger_forget_44 rfl (by decide) ?_
      refine ex_icmpgt 69 49 d_Ledger_forget_46 rfl rfl (fun _ => ?_) (fun h => absurd (xn_lt (xn_lit 30) rfl (by omega) (by omega) (by omega)) h)
      refine ex_aload_n (a := ad (pl i 9)) 70 d_Ledger_forget_69 rfl rfl ?_
      refine ex_iconst (v := 0) 71 d_Ledger_forget_70 rfl (by decide) ?_
      refine xl_put 74 d_Ledger_forget_71 rfl p_Ledger_32 rfl rfl (kpl hi (by decide)) (sh_Ledger hi) rfl ?_
      refine ex_vret d_Ledger_forget_74 rfl ⟨rfl, ?_⟩
      exact rfl
    · intro k hk ih
      refine ex_iload_n (a := nI k) 44 d_Ledger_forget_43 rfl rfl ?_
      refine ex_bipush (v := 30) 46 d_Ledger_forget_44 rfl (by decide) ?_
      refine ex_icmpgt 69 49 d_Ledger_forget_46 rfl rfl (fun h => absurd h (xn_nlt (xn_lit 30) rfl (by omega) (by omega) (by omega))) (fun _ => ?_)
      refine ex_aload_n (a := ad (pl i 9)) 50 d_Ledger_forget_49 rfl rfl ?_
      refine xl_getR 53 d_Ledger_forget_50 rfl g_Ledger_18 (kpl hi (by decide)) (sh_Ledger hi) rfl ?_
      refine ex_iload_n (a := nI k) 54 d_Ledger_forget_53 rfl rfl ?_
      refine ex_iconst (v := 0) 55 d_Ledger_forget_54 rfl (by decide) ?_
      refine xl_iast 56 d_Ledger_forget_55 rfl (kpl hi (by decide)) (sh_Answers hi) rfl (by omega) (by omega) ?_
      refine ex_aload_n (a := ad (pl i 9)) 57 d_Ledger_forget_56 rfl rfl ?_
      refine xl_getR 60 d_Ledger_forget_57 rfl g_Ledger_21 (kpl hi (by decide)) (sh_Ledger hi) rfl ?_
      refine ex_iload_n (a := nI k) 61 d_Ledger_forget_60 rfl rfl ?_
      refine ex_iconst (v := 0) 62 d_Ledger_forget_61 rfl (by decide) ?_
      refine xl_zast 63 d_Ledger_forget_62 rfl (kpl hi (by decide)) (sh_Done hi) rfl (by omega) (by omega) (by decide) ?_
      refine ex_iinc (a := nI k) (v := nI (k + 1)) 66 d_Ledger_forget_63 rfl rfl (xn_inc rfl) ?_
      refine ex_goto 43 d_Ledger_forget_66 rfl ?_
      exact Ex.wk ih (by repeat (first | exact xs_nil | refine xs_s ?_ | refine xs_n ?_))
  have hloop1 : ∀ k, k ≤ 4 → Ex G none mi_Ledger_forget 0 0 23 [some (.ref (ad (pl i 9))), some (.int (nI k))] [] (LY G ad N (fgN i (fgC i S 9) k)) (xV (fun w => w = LY G ad N (forgetS i S))) := by
    refine loop_down 4 ?_ ?_
    · skip
      refine ex_iload_n (a := nI 4) 24 d_Ledger_forget_23 rfl rfl ?_
      refine ex_iconst (v := 4) 25 d_Ledger_forget_24 rfl (by decide) ?_
      refine ex_icmpge 41 28 d_Ledger_forget_25 rfl rfl (fun _ => ?_) (fun h => absurd (xn_le (xn_lit 4) rfl (by omega) (by omega) (by omega)) h)
      refine ex_iconst (v := 0) 42 d_Ledger_forget_41 rfl (by decide) ?_
      refine ex_istore_n 43 d_Ledger_forget_42 rfl (Nat.le_of_ble_eq_true rfl) ?_
      exact Ex.wk (hloop2 0 (Nat.zero_le _)) (by repeat (first | exact xs_nil | refine xs_s ?_ | refine xs_n ?_))
    · intro k hk ih
      refine ex_iload_n (a := nI k) 24 d_Ledger_forget_23 rfl rfl ?_
      refine ex_iconst (v := 4) 25 d_Ledger_forget_24 rfl (by decide) ?_
      refine ex_icmpge 41 28 d_Ledger_forget_25 rfl rfl (fun h => absurd h (xn_nle (xn_lit 4) rfl (by omega) (by omega) (by omega))) (fun _ => ?_)
      refine ex_aload_n (a := ad (pl i 9)) 29 d_Ledger_forget_28 rfl rfl ?_
      refine xl_getR 32 d_Ledger_forget_29 rfl g_Ledger_15 (kpl hi (by decide)) (sh_Ledger hi) rfl ?_
      refine ex_iload_n (a := nI k) 33 d_Ledger_forget_32 rfl rfl ?_
      refine ex_iconst (v := 0) 34 d_Ledger_forget_33 rfl (by decide) ?_
      refine xl_iast 35 d_Ledger_forget_34 rfl (kpl hi (by decide)) (sh_Numbers hi) rfl (by omega) (by omega) ?_
      refine ex_iinc (a := nI k) (v := nI (k + 1)) 38 d_Ledger_forget_35 rfl rfl (xn_inc rfl) ?_
      refine ex_goto 23 d_Ledger_forget_38 rfl ?_
      exact Ex.wk ih (by repeat (first | exact xs_nil | refine xs_s ?_ | refine xs_n ?_))
  have hloop0 : ∀ k, k ≤ 9 → Ex G none mi_Ledger_forget 0 0 2 [some (.ref (ad (pl i 9))), some (.int (nI k))] [] (LY G ad N (fgC i S k)) (xV (fun w => w = LY G ad N (forgetS i S))) := by
    refine loop_down 9 ?_ ?_
    · skip
      refine ex_iload_n (a := nI 9) 3 d_Ledger_forget_2 rfl rfl ?_
      refine ex_bipush (v := 8) 5 d_Ledger_forget_3 rfl (by decide) ?_
      refine ex_icmpgt 21 8 d_Ledger_forget_5 rfl rfl (fun _ => ?_) (fun h => absurd (xn_lt (xn_lit 8) rfl (by omega) (by omega) (by omega)) h)
      refine ex_iconst (v := 0) 22 d_Ledger_forget_21 rfl (by decide) ?_
      refine ex_istore_n 23 d_Ledger_forget_22 rfl (Nat.le_of_ble_eq_true rfl) ?_
      exact Ex.wk (hloop1 0 (Nat.zero_le _)) (by repeat (first | exact xs_nil | refine xs_s ?_ | refine xs_n ?_))
    · intro k hk ih
      refine ex_iload_n (a := nI k) 3 d_Ledger_forget_2 rfl rfl ?_
      refine ex_bipush (v := 8) 5 d_Ledger_forget_3 rfl (by decide) ?_
      refine ex_icmpgt 21 8 d_Ledger_forget_5 rfl rfl (fun h => absurd h (xn_nlt (xn_lit 8) rfl (by omega) (by omega) (by omega))) (fun _ => ?_)
      refine ex_aload_n (a := ad (pl i 9)) 9 d_Ledger_forget_8 rfl rfl ?_
      refine xl_getR 12 d_Ledger_forget_9 rfl g_Ledger_9 (kpl hi (by decide)) (sh_Ledger hi) rfl ?_
      refine ex_iload_n (a := nI k) 13 d_Ledger_forget_12 rfl rfl ?_
      refine ex_iconst (v := (-1)) 14 d_Ledger_forget_13 rfl (by decide) ?_
      refine xl_iast 15 d_Ledger_forget_14 rfl (kpl hi (by decide)) (sh_Commands hi) rfl (by omega) (by omega) ?_
      refine ex_iinc (a := nI k) (v := nI (k + 1)) 18 d_Ledger_forget_15 rfl rfl (xn_inc rfl) ?_
      refine ex_goto 2 d_Ledger_forget_18 rfl ?_
      exact Ex.wk ih (by repeat (first | exact xs_nil | refine xs_s ?_ | refine xs_n ?_))
  refine ex_iconst (v := 0) 1 d_Ledger_forget_0 rfl (by decide) ?_
  refine ex_istore_n 2 d_Ledger_forget_1 rfl (Nat.le_of_ble_eq_true rfl) ?_
  exact Ex.wk (hloop0 0 (Nat.zero_le _)) (by repeat (first | exact xs_nil | refine xs_s ?_ | refine xs_n ?_))
set_option maxRecDepth 100000 in
set_option maxHeartbeats 4000000 in
theorem c_Ledger_answerTo (i q : Nat) (hi : i < N) (hq : q < 31) : Ex G none mi_Ledger_answerTo 0 0 0 (xEn mi_Ledger_answerTo [.ref (ad (pl i 9)), .int (nI q)]) [] (LY G ad N S) (xI (fun v w => w = LY G ad N S ∧ v = S (pl i 12) q)) := by
  refine ex_aload_n (a := ad (pl i 9)) 1 d_Ledger_answerTo_0 rfl rfl ?_
  refine xl_getR 4 d_Ledger_answerTo_1 rfl g_Ledger_18 (kpl hi (by decide)) (sh_Ledger hi) rfl ?_
  refine ex_iload_n (a := nI q) 5 d_Ledger_answerTo_4 rfl rfl ?_
  refine xl_iald 6 d_Ledger_answerTo_5 rfl (kpl hi (by decide)) (sh_Answers hi) rfl (by omega) (by omega) ?_
  refine ex_iret d_Ledger_answerTo_6 rfl ⟨_, rfl, ?_⟩
  exact ⟨rfl, rfl⟩
set_option maxRecDepth 100000 in
set_option maxHeartbeats 4000000 in
theorem c_Ledger_perform_no (i : Nat) (hi : i < N) (c : Int32) (hr : ¬ isReq S c) : Ex G none mi_Ledger_perform 0 0 0 (xEn mi_Ledger_perform [.ref (ad (pl i 9)), .int c]) [] (LY G ad N S) (xV (fun w => w = LY G ad N S)) := by
  refine ex_aload_n (a := ad (pl i 9)) 1 d_Ledger_perform_0 rfl rfl ?_
  refine xl_getR 4 d_Ledger_perform_1 rfl g_Ledger_25 (kpl hi (by decide)) (sh_Ledger hi) rfl ?_
  refine ex_iload_n (a := c) 5 d_Ledger_perform_4 rfl rfl ?_
  refine xl_callVi [.int c] [] 8 d_Ledger_perform_5 rfl zv_Clients_isRequest ⟨(Nat.le_of_ble_eq_true rfl), (Nat.le_of_ble_eq_true rfl)⟩ m_Ledger_47 (kp0 (by decide)) sh_CL rfl rfl (Nat.le_of_ble_eq_true rfl) rfl (Nat.le_of_ble_eq_true rfl) (c_Clients_isRequest (S := S) c) (fun vv ww q1 => ?_)
  rw [q1.1, q1.2]
  refine Ex.int (zb_f hr) ?_
  refine ex_ifeq 20 11 d_Ledger_perform_8 rfl rfl (fun _ => ?_) (fun h => absurd (by decide) h)
  refine ex_vret d_Ledger_perform_20 rfl ⟨rfl, ?_⟩
  exact rfl
set_option maxRecDepth 100000 in
set_option maxHeartbeats 4000000 in
theorem c_Ledger_perform_yes (i q y : Nat) (hi : i < N) (hq : q < 31) (hy4 : y < 4) (hr : isReq S (nI q)) (hy : S 2 q = nI y) : Ex G none mi_Ledger_perform 0 0 0 (xEn mi_Ledger_perform [.ref (ad (pl i 9)), .int (nI q)]) [] (LY G ad N S) (xV (fun w => w = LY G ad N (if S (pl i 13) q = 0 then u2 (u2 (u2 S (pl i 12) q (S (pl i 11) y)) (pl i 11) y (S 3 q)) (pl i 13) q 1 else S))) := by
  refine ex_aload_n (a := ad (pl i 9)) 1 d_Ledger_perform_0 rfl rfl ?_
  refine xl_getR 4 d_Ledger_perform_1 rfl g_Ledger_25 (kpl hi (by decide)) (sh_Ledger hi) rfl ?_
  refine ex_iload_n (a := nI q) 5 d_Ledger_perform_4 rfl rfl ?_
  refine xl_callVi [.int (nI q)] [] 8 d_Ledger_perform_5 rfl zv_Clients_isRequest ⟨(Nat.le_of_ble_eq_true rfl), (Nat.le_of_ble_eq_true rfl)⟩ m_Ledger_47 (kp0 (by decide)) sh_CL rfl rfl (Nat.le_of_ble_eq_true rfl) rfl (Nat.le_of_ble_eq_true rfl) (c_Clients_isRequest (S := S) (nI q)) (fun vv ww q1 => ?_)
  rw [q1.1, q1.2]
  refine Ex.int (zb_t hr) ?_
  refine ex_ifeq 20 11 d_Ledger_perform_8 rfl rfl (fun h => absurd h (by decide)) (fun _ => ?_)
  refine ex_aload_n (a := ad (pl i 9)) 12 d_Ledger_perform_11 rfl rfl ?_
  refine xl_getR 15 d_Ledger_perform_12 rfl g_Ledger_21 (kpl hi (by decide)) (sh_Ledger hi) rfl ?_
  refine ex_iload_n (a := nI q) 16 d_Ledger_perform_15 rfl rfl ?_
  refine xl_zald 17 d_Ledger_perform_16 rfl (kpl hi (by decide)) (sh_Done hi) rfl (by omega) (by omega) ?_
  refine ex_ifeq 21 20 d_Ledger_perform_17 rfl rfl (fun h2 => ?_) (fun h2 => ?_)
  · refine ex_aload_n (a := ad (pl i 9)) 22 d_Ledger_perform_21 rfl rfl ?_
    refine xl_getR 25 d_Ledger_perform_22 rfl g_Ledger_25 (kpl hi (by decide)) (sh_Ledger hi) rfl ?_
    refine xl_getR 28 d_Ledger_perform_25 rfl g_Ledger_53 (kp0 (by decide)) sh_CL rfl ?_
    refine ex_iload_n (a := nI q) 29 d_Ledger_perform_28 rfl rfl ?_
    refine xl_iald 30 d_Ledger_perform_29 rfl (kp0 (by decide)) sh_C2 rfl (by omega) (by omega) ?_
    refine ex_istore_n 31 d_Ledger_perform_30 rfl (Nat.le_of_ble_eq_true rfl) ?_
    refine ex_aload_n (a := ad (pl i 9)) 32 d_Ledger_perform_31 rfl rfl ?_
    refine xl_getR 35 d_Ledger_perform_32 rfl g_Ledger_18 (kpl hi (by decide)) (sh_Ledger hi) rfl ?_
    refine ex_iload_n (a := nI q) 36 d_Ledger_perform_35 rfl rfl ?_
    refine ex_aload_n (a := ad (pl i 9)) 37 d_Ledger_perform_36 rfl rfl ?_
    refine xl_getR 40 d_Ledger_perform_37 rfl g_Ledger_15 (kpl hi (by decide)) (sh_Ledger hi) rfl ?_
    refine ex_iload_n (a := S 2 q) 41 d_Ledger_perform_40 rfl rfl ?_
    refine xl_iald 42 d_Ledger_perform_41 rfl (kpl hi (by decide)) (sh_Numbers hi) hy (by omega) (by omega) ?_
    refine xl_iast 43 d_Ledger_perform_42 rfl (kpl hi (by decide)) (sh_Answers hi) rfl (by omega) (by omega) ?_
    refine ex_aload_n (a := ad (pl i 9)) 44 d_Ledger_perform_43 rfl rfl ?_
    refine xl_getR 47 d_Ledger_perform_44 rfl g_Ledger_15 (kpl hi (by decide)) (sh_Ledger hi) rfl ?_
    refine ex_iload_n (a := S 2 q) 48 d_Ledger_perform_47 rfl rfl ?_
    refine ex_aload_n (a := ad (pl i 9)) 49 d_Ledger_perform_48 rfl rfl ?_
    refine xl_getR 52 d_Ledger_perform_49 rfl g_Ledger_25 (kpl hi (by decide)) (sh_Ledger hi) rfl ?_
    refine xl_getR 55 d_Ledger_perform_52 rfl g_Ledger_56 (kp0 (by decide)) sh_CL rfl ?_
    refine ex_iload_n (a := nI q) 56 d_Ledger_perform_55 rfl rfl ?_
    refine xl_iald 57 d_Ledger_perform_56 rfl (kp0 (by decide)) sh_C3 rfl (by omega) (by omega) ?_
    refine xl_iast 58 d_Ledger_perform_57 rfl (kpl hi (by decide)) (sh_Numbers hi) hy (by omega) (by omega) ?_
    refine ex_aload_n (a := ad (pl i 9)) 59 d_Ledger_perform_58 rfl rfl ?_
    refine xl_getR 62 d_Ledger_perform_59 rfl g_Ledger_21 (kpl hi (by decide)) (sh_Ledger hi) rfl ?_
    refine ex_iload_n (a := nI q) 63 d_Ledger_perform_62 rfl rfl ?_
    refine ex_iconst (v := 1) 64 d_Ledger_perform_63 rfl (by decide) ?_
    refine xl_zast 65 d_Ledger_perform_64 rfl (kpl hi (by decide)) (sh_Done hi) rfl (by omega) (by omega) (by decide) ?_
    refine ex_vret d_Ledger_perform_65 rfl ⟨rfl, ?_⟩
    rw [if_pos h2]; exact congrArg (LY G ad N) (pf_eq i q y S)
  · refine ex_vret d_Ledger_perform_20 rfl ⟨rfl, ?_⟩
    rw [if_neg h2]
set_option maxRecDepth 100000 in
set_option maxHeartbeats 4000000 in
theorem c_Ledger_perform (i : Nat) (hi : i < N) (c : Int32) (hC : CLok S) : Ex G none mi_Ledger_perform 0 0 0 (xEn mi_Ledger_perform [.ref (ad (pl i 9)), .int c]) [] (LY G ad N S) (xV (fun w => w = LY G ad N (perfS i c S))) := by
  by_cases hr : isReq S c
  · obtain ⟨q, hq, hq1, rfl, y, hy4, hy⟩ := hC.req hr
    have e : (nI q).toNatClampNeg = q := nI_clamp (by omega)
    have e2 : (S 2 q).toNatClampNeg = y := by rw [hy]; exact nI_clamp (by omega)
    refine (c_Ledger_perform_yes i q y hi hq hy4 hr hy).mono (fun r w h => ⟨h.1, ?_⟩)
    rw [h.2]
    unfold perfS perfD
    rw [e, e2]
    by_cases hd : S (pl i 13) q = 0
    · rw [if_pos hd, if_pos ⟨hr, hd⟩]
    · rw [if_neg hd, if_neg (fun z => hd z.2)]
  · refine (c_Ledger_perform_no i hi c hr).mono (fun r w h => ⟨h.1, ?_⟩)
    rw [h.2]
    unfold perfS
    rw [if_neg (fun z => hr z.1)]
set_option maxRecDepth 100000 in
set_option maxHeartbeats 4000000 in
theorem c_Ledger_doWhatIsNext (i : Nat) (hi : i < N) (hC : CLok S) (hG : LGok i S) : Ex G none mi_Ledger_doWhatIsNext 0 0 0 (xEn mi_Ledger_doWhatIsNext [.ref (ad (pl i 9))]) [] (LY G ad N S) (xV (fun w => w = LY G ad N (dwS i S))) := by
  have hloop : ∀ (m d : Nat) (S : sT), CLok S → d + m = 8 → Ex G none mi_Ledger_doWhatIsNext 0 0 7 [some (.ref (ad (pl i 9))), some (.int (nI (d + 1)))] [] (LY G ad N S) (xV (fun w => w = LY G ad N (dwL i m d S))) := by
    intro m
    induction m with
    | zero =>
      intro d S hC hdm
      obtain rfl : d = 8 := by omega
      skip
      refine ex_iload_n (a := nI 9) 8 d_Ledger_doWhatIsNext_7 rfl rfl ?_
      refine ex_bipush (v := 8) 10 d_Ledger_doWhatIsNext_8 rfl (by decide) ?_
      refine ex_icmpgt 44 13 d_Ledger_doWhatIsNext_10 rfl rfl (fun _ => ?_) (fun h => absurd (xn_lt (xn_lit 8) rfl (by omega) (by omega) (by omega)) h)
      refine ex_vret d_Ledger_doWhatIsNext_44 rfl ⟨rfl, ?_⟩
      exact rfl
    | succ m ih =>
      intro d S hC hdm
      skip
      refine ex_iload_n (a := nI (d + 1)) 8 d_Ledger_doWhatIsNext_7 rfl rfl ?_
      refine ex_bipush (v := 8) 10 d_Ledger_doWhatIsNext_8 rfl (by decide) ?_
      refine ex_icmpgt 44 13 d_Ledger_doWhatIsNext_10 rfl rfl (fun h => absurd h (xn_nlt (xn_lit 8) rfl (by omega) (by omega) (by omega))) (fun _ => ?_)
      refine ex_aload_n (a := ad (pl i 9)) 14 d_Ledger_doWhatIsNext_13 rfl rfl ?_
      refine xl_getR 17 d_Ledger_doWhatIsNext_14 rfl g_Ledger_9 (kpl hi (by decide)) (sh_Ledger hi) rfl ?_
      refine ex_iload_n (a := nI (d + 1)) 18 d_Ledger_doWhatIsNext_17 rfl rfl ?_
      refine xl_iald 19 d_Ledger_doWhatIsNext_18 rfl (kpl hi (by decide)) (sh_Commands hi) rfl (by omega) (by omega) ?_
      refine ex_iconst (v := (-1)) 20 d_Ledger_doWhatIsNext_19 rfl (by decide) ?_
      refine ex_icmpeq 44 23 d_Ledger_doWhatIsNext_20 rfl rfl (fun h1 => ?_) (fun h1 => ?_)
      · refine ex_vret d_Ledger_doWhatIsNext_44 rfl ⟨rfl, ?_⟩
        exact congrArg (LY G ad N) (if_pos h1).symm
      · refine ex_aload_n (a := ad (pl i 9)) 24 d_Ledger_doWhatIsNext_23 rfl rfl ?_
        refine ex_aload_n (a := ad (pl i 9)) 25 d_Ledger_doWhatIsNext_24 rfl rfl ?_
        refine xl_getR 28 d_Ledger_doWhatIsNext_25 rfl g_Ledger_9 (kpl hi (by decide)) (sh_Ledger hi) rfl ?_
        refine ex_iload_n (a := nI (d + 1)) 29 d_Ledger_doWhatIsNext_28 rfl rfl ?_
        refine xl_iald 30 d_Ledger_doWhatIsNext_29 rfl (kpl hi (by decide)) (sh_Commands hi) rfl (by omega) (by omega) ?_
        refine xl_callVv [.int (S (pl i 10) (d + 1))] [] 33 d_Ledger_doWhatIsNext_30 rfl zv_Ledger_perform ⟨(Nat.le_of_ble_eq_true rfl), (Nat.le_of_ble_eq_true rfl)⟩ m_Ledger_43 (kpl hi (by decide)) (sh_Ledger hi) rfl rfl (Nat.le_of_ble_eq_true rfl) rfl (Nat.le_of_ble_eq_true rfl) (c_Ledger_perform (S := S) i hi (S (pl i 10) (d + 1)) hC) (fun ww q2 => ?_)
        rw [q2]
        refine ex_aload_n (a := ad (pl i 9)) 34 d_Ledger_doWhatIsNext_33 rfl rfl ?_
        refine ex_iload_n (a := nI (d + 1)) 35 d_Ledger_doWhatIsNext_34 rfl rfl ?_
        refine xl_put 38 d_Ledger_doWhatIsNext_35 rfl p_Ledger_32 rfl rfl (kpl hi (by decide)) (sh_Ledger hi) rfl ?_
        refine ex_iinc (a := nI (d + 1)) (v := nI (d + 2)) 41 d_Ledger_doWhatIsNext_38 rfl rfl (xn_inc rfl) ?_
        refine ex_goto 7 d_Ledger_doWhatIsNext_41 rfl ?_
        rw [show dwL i (m + 1) d S = dwL i m (d + 1) (u2 (perfS i (S (pl i 10) (d + 1)) S) (pl i 9) 5 (nI (d + 1))) from if_neg h1]
        exact ih (d + 1) _ hC.perf.k2 (by omega)
  obtain ⟨d, hd8, hd⟩ := hG
  rw [show dwS i S = dwL i (8 - d) d S by unfold dwS; rw [hd, nI_clamp (by omega)]]
  refine ex_aload_n (a := ad (pl i 9)) 1 d_Ledger_doWhatIsNext_0 rfl rfl ?_
  refine xl_get 4 d_Ledger_doWhatIsNext_1 rfl g_Ledger_32 (kpl hi (by decide)) (sh_Ledger hi) rfl ?_
  refine ex_iconst (v := 1) 5 d_Ledger_doWhatIsNext_4 rfl (by decide) ?_
  refine ex_iaddN (d + 1) 6 d_Ledger_doWhatIsNext_5 rfl hd (xn_lit 1) (by omega) ?_
  refine ex_istore_n 7 d_Ledger_doWhatIsNext_6 rfl (Nat.le_of_ble_eq_true rfl) ?_
  exact hloop (8 - d) d S hC (by omega)
set_option maxRecDepth 100000 in
set_option maxHeartbeats 4000000 in
theorem c_Ledger_learn (i s : Nat) (hi : i < N) (hs : s < 9) (hC : CLok S) (hG : LGok i S) (c : Int32) : Ex G none mi_Ledger_learn 0 0 0 (xEn mi_Ledger_learn [.ref (ad (pl i 9)), .int (nI s), .int c]) [] (LY G ad N S) (xI (fun v w => w = LY G ad N (learnS i s c S) ∧ v = zb (S (pl i 10) s = (-1)))) := by
  refine ex_aload_n (a := ad (pl i 9)) 1 d_Ledger_learn_0 rfl rfl ?_
  refine xl_getR 4 d_Ledger_learn_1 rfl g_Ledger_9 (kpl hi (by decide)) (sh_Ledger hi) rfl ?_
  refine ex_iload_n (a := nI s) 5 d_Ledger_learn_4 rfl rfl ?_
  refine xl_iald 6 d_Ledger_learn_5 rfl (kpl hi (by decide)) (sh_Commands hi) rfl (by omega) (by omega) ?_
  refine ex_iconst (v := (-1)) 7 d_Ledger_learn_6 rfl (by decide) ?_
  refine ex_icmpeq 12 10 d_Ledger_learn_7 rfl rfl (fun h1 => ?_) (fun h1 => ?_)
  · refine ex_aload_n (a := ad (pl i 9)) 13 d_Ledger_learn_12 rfl rfl ?_
    refine xl_getR 16 d_Ledger_learn_13 rfl g_Ledger_9 (kpl hi (by decide)) (sh_Ledger hi) rfl ?_
    refine ex_iload_n (a := nI s) 17 d_Ledger_learn_16 rfl rfl ?_
    refine ex_iload_n (a := c) 18 d_Ledger_learn_17 rfl rfl ?_
    refine xl_iast 19 d_Ledger_learn_18 rfl (kpl hi (by decide)) (sh_Commands hi) rfl (by omega) (by omega) ?_
    refine ex_aload_n (a := ad (pl i 9)) 20 d_Ledger_learn_19 rfl rfl ?_
    refine xl_callVv [] [] 23 d_Ledger_learn_20 rfl zv_Ledger_doWhatIsNext ⟨(Nat.le_of_ble_eq_true rfl), (Nat.le_of_ble_eq_true rfl)⟩ m_Ledger_36 (kpl hi (by decide)) (sh_Ledger hi) rfl rfl (Nat.le_of_ble_eq_true rfl) rfl (Nat.le_of_ble_eq_true rfl) (c_Ledger_doWhatIsNext (S := (u2 S (pl i 10) (s) (c))) i hi hC.k2 hG.cmd) (fun ww q2 => ?_)
    rw [q2]
    refine ex_iconst (v := 1) 24 d_Ledger_learn_23 rfl (by decide) ?_
    refine ex_zret d_Ledger_learn_24 rfl rfl ⟨_, rfl, ?_⟩
    refine ⟨?_, (Eq.symm (zb_t h1))⟩
    unfold learnS; rw [if_pos h1]
  · refine ex_iconst (v := 0) 11 d_Ledger_learn_10 rfl (by decide) ?_
    refine ex_zret d_Ledger_learn_11 rfl rfl ⟨_, rfl, ?_⟩
    refine ⟨?_, (Eq.symm (zb_f h1))⟩
    unfold learnS; rw [if_neg h1]
set_option maxRecDepth 100000 in
set_option maxHeartbeats 4000000 in
theorem c_Ledger_learnAll (i j : Nat) (hi : i < N) (hj : j < N) (hC0 : CLok S) (hG0 : LGok i S) : Ex G none mi_Ledger_learnAll 0 0 0 (xEn mi_Ledger_learnAll [.ref (ad (pl i 9)), .ref (ad (pl j 9))]) [] (LY G ad N S) (xI (fun v w => w = LY G ad N (laL i j S 8).2 ∧ v = (laL i j S 8).1)) := by
  have hloop0 : ∀ k, k ≤ 8 → Ex G none mi_Ledger_learnAll 0 0 4 [some (.ref (ad (pl i 9))), some (.ref (ad (pl j 9))), some (.int ((laL i j S k).1)), some (.int (nI (k + 1))), none] [] (LY G ad N (laL i j S k).2) (xI (fun v w => w = LY G ad N (laL i j S 8).2 ∧ v = (laL i j S 8).1)) := by
    refine loop_down 8 ?_ ?_
    · skip
      refine ex_iload_n (a := nI 9) 5 d_Ledger_learnAll_4 rfl rfl ?_
      refine ex_bipush (v := 8) 7 d_Ledger_learnAll_5 rfl (by decide) ?_
      refine ex_icmpgt 43 10 d_Ledger_learnAll_7 rfl rfl (fun _ => ?_) (fun h => absurd (xn_lt (xn_lit 8) rfl (by omega) (by omega) (by omega)) h)
      refine ex_iload_n (a := (laL i j S 8).1) 44 d_Ledger_learnAll_43 rfl rfl ?_
      refine ex_iret d_Ledger_learnAll_44 rfl ⟨_, rfl, ?_⟩
      exact ⟨rfl, rfl⟩
    · intro k hk ih
      obtain ⟨hC, hG⟩ := laL_ok (j := j) hC0 hG0 k
      refine ex_iload_n (a := nI (k + 1)) 5 d_Ledger_learnAll_4 rfl rfl ?_
      refine ex_bipush (v := 8) 7 d_Ledger_learnAll_5 rfl (by decide) ?_
      refine ex_icmpgt 43 10 d_Ledger_learnAll_7 rfl rfl (fun h => absurd h (xn_nlt (xn_lit 8) rfl (by omega) (by omega) (by omega))) (fun _ => ?_)
      refine ex_aload_n (a := ad (pl j 9)) 11 d_Ledger_learnAll_10 rfl rfl ?_
      refine xl_getR 14 d_Ledger_learnAll_11 rfl g_Ledger_9 (kpl hj (by decide)) (sh_Ledger hj) rfl ?_
      refine ex_iload_n (a := nI (k + 1)) 15 d_Ledger_learnAll_14 rfl rfl ?_
      refine xl_iald 16 d_Ledger_learnAll_15 rfl (kpl hj (by decide)) (sh_Commands hj) rfl (by omega) (by omega) ?_
      refine ex_istore 18 d_Ledger_learnAll_16 rfl (Nat.le_of_ble_eq_true rfl) ?_
      refine ex_iload (a := (laL i j S k).2 (pl j 10) (k + 1)) 20 d_Ledger_learnAll_18 rfl rfl ?_
      refine ex_iconst (v := (-1)) 21 d_Ledger_learnAll_20 rfl (by decide) ?_
      refine ex_icmpeq 37 24 d_Ledger_learnAll_21 rfl rfl (fun h1 => ?_) (fun h1 => ?_)
      · refine ex_iinc (a := nI (k + 1)) (v := nI (k + 2)) 40 d_Ledger_learnAll_37 rfl rfl (xn_inc rfl) ?_
        refine ex_goto 4 d_Ledger_learnAll_40 rfl ?_
        have e9 : laL i j S (k + 1) = laL i j S k := by rw [laL_s, if_pos h1]
        rw [e9] at ih
        exact Ex.wk ih (by repeat (first | exact xs_nil | refine xs_s ?_ | refine xs_n ?_))
      · refine ex_aload_n (a := ad (pl i 9)) 25 d_Ledger_learnAll_24 rfl rfl ?_
        refine ex_iload_n (a := nI (k + 1)) 26 d_Ledger_learnAll_25 rfl rfl ?_
        refine ex_iload (a := (laL i j S k).2 (pl j 10) (k + 1)) 28 d_Ledger_learnAll_26 rfl rfl ?_
        refine xl_callVi [.int (nI (k + 1)), .int ((laL i j S k).2 (pl j 10) (k + 1))] [] 31 d_Ledger_learnAll_28 rfl zv_Ledger_learn ⟨(Nat.le_of_ble_eq_true rfl), (Nat.le_of_ble_eq_true rfl)⟩ m_Ledger_39 (kpl hi (by decide)) (sh_Ledger hi) rfl rfl (Nat.le_of_ble_eq_true rfl) rfl (Nat.le_of_ble_eq_true rfl) (c_Ledger_learn (S := (laL i j S k).2) i (k + 1) hi (by omega) hC hG ((laL i j S k).2 (pl j 10) (k + 1))) (fun vv ww q2 => ?_)
        rw [q2.1, q2.2]
        by_cases h3 : (laL i j S k).2 (pl i 10) (k + 1) = (-1)
        · refine Ex.int (zb_t h3) ?_
          refine ex_ifeq 37 34 d_Ledger_learnAll_31 rfl rfl (fun h => absurd h (by decide)) (fun _ => ?_)
          refine ex_iinc (a := (laL i j S k).1) (v := ((laL i j S k).1 + 1)) 37 d_Ledger_learnAll_34 rfl rfl rfl ?_
          refine ex_iinc (a := nI (k + 1)) (v := nI (k + 2)) 40 d_Ledger_learnAll_37 rfl rfl (xn_inc rfl) ?_
          refine ex_goto 4 d_Ledger_learnAll_40 rfl ?_
          have e9 : laL i j S (k + 1) = ((laL i j S k).1 + 1, (learnS i (k + 1) ((laL i j S k).2 (pl j 10) (k + 1)) (laL i j S k).2)) := by rw [laL_s, if_neg h1, if_pos h3]
          rw [e9] at ih
          exact Ex.wk ih (by repeat (first | exact xs_nil | refine xs_s ?_ | refine xs_n ?_))
        · refine Ex.int (zb_f h3) ?_
          refine ex_ifeq 37 34 d_Ledger_learnAll_31 rfl rfl (fun _ => ?_) (fun h => absurd (by decide) h)
          refine ex_iinc (a := nI (k + 1)) (v := nI (k + 2)) 40 d_Ledger_learnAll_37 rfl rfl (xn_inc rfl) ?_
          refine ex_goto 4 d_Ledger_learnAll_40 rfl ?_
          have e9 : laL i j S (k + 1) = laL i j S k := by rw [laL_s, if_neg h1, if_neg h3]
          refine Ex.toS (show (learnS i (k + 1) ((laL i j S k).2 (pl j 10) (k + 1)) (laL i j S k).2) = (laL i j S k).2 by unfold learnS; rw [if_neg h3]) ?_
          rw [e9] at ih
          exact Ex.wk ih (by repeat (first | exact xs_nil | refine xs_s ?_ | refine xs_n ?_))
  refine ex_iconst (v := 0) 1 d_Ledger_learnAll_0 rfl (by decide) ?_
  refine ex_istore_n 2 d_Ledger_learnAll_1 rfl (Nat.le_of_ble_eq_true rfl) ?_
  refine ex_iconst (v := 1) 3 d_Ledger_learnAll_2 rfl (by decide) ?_
  refine ex_istore_n 4 d_Ledger_learnAll_3 rfl (Nat.le_of_ble_eq_true rfl) ?_
  exact Ex.wk (hloop0 0 (Nat.zero_le _)) (by repeat (first | exact xs_nil | refine xs_s ?_ | refine xs_n ?_))
set_option maxRecDepth 100000 in
set_option maxHeartbeats 4000000 in
theorem c_Node_canTakePart (i : Nat) (hi : i < N) : Ex G none mi_Node_canTakePart 0 0 0 (xEn mi_Node_canTakePart [.ref (ad (pl i 0))]) [] (LY G ad N S) (xI (fun v w => w = LY G ad N S ∧ v = zb (canF i S))) := by
  refine ex_aload_n (a := ad (pl i 0)) 1 d_Node_canTakePart_0 rfl rfl ?_
  refine xl_get 4 d_Node_canTakePart_1 rfl g_Node_22 (kpl hi (by decide)) (sh_Node hi) rfl ?_
  refine ex_ifeq 18 7 d_Node_canTakePart_4 rfl rfl (fun h1 => ?_) (fun h1 => ?_)
  · refine ex_iconst (v := 0) 19 d_Node_canTakePart_18 rfl (by decide) ?_
    refine ex_zret d_Node_canTakePart_19 rfl rfl ⟨_, rfl, ?_⟩
    refine ⟨rfl, ?_⟩
    exact (Eq.symm (zb_f (fun z => z.1 h1)))
  · refine ex_aload_n (a := ad (pl i 0)) 8 d_Node_canTakePart_7 rfl rfl ?_
    refine xl_get 11 d_Node_canTakePart_8 rfl g_Node_51 (kpl hi (by decide)) (sh_Node hi) rfl ?_
    refine ex_ifne 18 14 d_Node_canTakePart_11 rfl rfl (fun h2 => ?_) (fun h2 => ?_)
    · refine ex_iconst (v := 0) 19 d_Node_canTakePart_18 rfl (by decide) ?_
      refine ex_zret d_Node_canTakePart_19 rfl rfl ⟨_, rfl, ?_⟩
      refine ⟨rfl, ?_⟩
      exact (Eq.symm (zb_f (fun z => h2 z.2)))
    · refine ex_iconst (v := 1) 15 d_Node_canTakePart_14 rfl (by decide) ?_
      refine ex_goto 19 d_Node_canTakePart_15 rfl ?_
      refine ex_zret d_Node_canTakePart_19 rfl rfl ⟨_, rfl, ?_⟩
      refine ⟨rfl, ?_⟩
      exact (Eq.symm (zb_t ⟨h1, h2⟩))
set_option maxRecDepth 100000 in
set_option maxHeartbeats 4000000 in
theorem c_Node_hasDamagedSlot (i : Nat) (hi : i < N) : Ex G none mi_Node_hasDamagedSlot 0 0 0 (xEn mi_Node_hasDamagedSlot [.ref (ad (pl i 0))]) [] (LY G ad N S) (xI (fun v w => w = LY G ad N S ∧ v = zb (damF i S))) := by
  have hloop0 : ∀ k, k ≤ 8 → (∀ j, j < k → ¬ S (pl i 3) (j + 1) < 0) → Ex G none mi_Node_hasDamagedSlot 0 0 2 [some (.ref (ad (pl i 0))), some (.int (nI (k + 1)))] [] (LY G ad N S) (xI (fun v w => w = LY G ad N S ∧ v = zb (damF i S))) := by
    refine loop_down 8 ?_ ?_
    · intro hpre
      refine ex_iload_n (a := nI 9) 3 d_Node_hasDamagedSlot_2 rfl rfl ?_
      refine ex_bipush (v := 8) 5 d_Node_hasDamagedSlot_3 rfl (by decide) ?_
      refine ex_icmpgt 28 8 d_Node_hasDamagedSlot_5 rfl rfl (fun _ => ?_) (fun h => absurd (xn_lt (xn_lit 8) rfl (by omega) (by omega) (by omega)) h)
      refine ex_iconst (v := 0) 29 d_Node_hasDamagedSlot_28 rfl (by decide) ?_
      refine ex_zret d_Node_hasDamagedSlot_29 rfl rfl ⟨_, rfl, ?_⟩
      refine ⟨rfl, ?_⟩
      exact (Eq.symm (zb_f (fun z => absurd (damL_f hpre) (by rw [z]; decide))))
    · intro k hk ih hpre
      refine ex_iload_n (a := nI (k + 1)) 3 d_Node_hasDamagedSlot_2 rfl rfl ?_
      refine ex_bipush (v := 8) 5 d_Node_hasDamagedSlot_3 rfl (by decide) ?_
      refine ex_icmpgt 28 8 d_Node_hasDamagedSlot_5 rfl rfl (fun h => absurd h (xn_nlt (xn_lit 8) rfl (by omega) (by omega) (by omega))) (fun _ => ?_)
      refine ex_aload_n (a := ad (pl i 0)) 9 d_Node_hasDamagedSlot_8 rfl rfl ?_
      refine xl_getR 12 d_Node_hasDamagedSlot_9 rfl g_Node_18 (kpl hi (by decide)) (sh_Node hi) rfl ?_
      refine ex_iload_n (a := nI (k + 1)) 13 d_Node_hasDamagedSlot_12 rfl rfl ?_
      refine xl_iald 14 d_Node_hasDamagedSlot_13 rfl (kpl hi (by decide)) (sh_Nslots hi) rfl (by omega) (by omega) ?_
      refine xl_callSi [.int (S (pl i 3) (k + 1))] [] 17 d_Node_hasDamagedSlot_14 rfl zs_SlotState_isDamaged ⟨(Nat.le_of_ble_eq_true rfl), (Nat.le_of_ble_eq_true rfl)⟩ m_Node_54 rfl rfl (Nat.le_of_ble_eq_true rfl) rfl (Nat.le_of_ble_eq_true rfl) (c_SlotState_isDamaged (S := S) (S (pl i 3) (k + 1))) (fun vv ww q1 => ?_)
      rw [q1.1, q1.2]
      by_cases h2 : (S (pl i 3) (k + 1)) < 0
      · refine Ex.int (zb_t h2) ?_
        refine ex_ifeq 22 20 d_Node_hasDamagedSlot_17 rfl rfl (fun h => absurd h (by decide)) (fun _ => ?_)
        refine ex_iconst (v := 1) 21 d_Node_hasDamagedSlot_20 rfl (by decide) ?_
        refine ex_zret d_Node_hasDamagedSlot_21 rfl rfl ⟨_, rfl, ?_⟩
        refine ⟨rfl, ?_⟩
        exact (Eq.symm (zb_t (damL_t hk h2)))
      · refine Ex.int (zb_f h2) ?_
        refine ex_ifeq 22 20 d_Node_hasDamagedSlot_17 rfl rfl (fun _ => ?_) (fun h => absurd (by decide) h)
        refine ex_iinc (a := nI (k + 1)) (v := nI (k + 2)) 25 d_Node_hasDamagedSlot_22 rfl rfl (xn_inc rfl) ?_
        refine ex_goto 2 d_Node_hasDamagedSlot_25 rfl ?_
        exact Ex.wk (ih (ltsuc hpre h2)) (by repeat (first | exact xs_nil | refine xs_s ?_ | refine xs_n ?_))
  refine ex_iconst (v := 1) 1 d_Node_hasDamagedSlot_0 rfl (by decide) ?_
  refine ex_istore_n 2 d_Node_hasDamagedSlot_1 rfl (Nat.le_of_ble_eq_true rfl) ?_
  exact Ex.wk (hloop0 0 (Nat.zero_le _) (fun j hj => absurd hj (Nat.not_lt_zero j))) (by repeat (first | exact xs_nil | refine xs_s ?_ | refine xs_n ?_))
set_option maxRecDepth 100000 in
set_option maxHeartbeats 4000000 in
theorem c_Node_nextBallot (i : Nat) (hi : i < N) : Ex G none mi_Node_nextBallot 0 0 0 (xEn mi_Node_nextBallot [.ref (ad (pl i 0))]) [] (LY G ad N S) (xI (fun v w => w = LY G ad N S ∧ v = nextF i S)) := by
  refine ex_aload_n (a := ad (pl i 0)) 1 d_Node_nextBallot_0 rfl rfl ?_
  refine xl_get 4 d_Node_nextBallot_1 rfl g_Node_60 (kpl hi (by decide)) (sh_Node hi) rfl ?_
  refine ex_aload_n (a := ad (pl i 0)) 5 d_Node_nextBallot_4 rfl rfl ?_
  refine xl_get 8 d_Node_nextBallot_5 rfl g_Node_60 (kpl hi (by decide)) (sh_Node hi) rfl ?_
  refine ex_bipush (v := 8) 10 d_Node_nextBallot_8 rfl (by decide) ?_
  refine ex_irem 11 d_Node_nextBallot_10 rfl (by decide) ?_
  refine ex_isub 12 d_Node_nextBallot_11 rfl ?_
  refine ex_aload_n (a := ad (pl i 0)) 13 d_Node_nextBallot_12 rfl rfl ?_
  refine xl_get 16 d_Node_nextBallot_13 rfl g_Node_30 (kpl hi (by decide)) (sh_Node hi) rfl ?_
  refine ex_iadd 17 d_Node_nextBallot_16 rfl ?_
  refine ex_istore_n 18 d_Node_nextBallot_17 rfl (Nat.le_of_ble_eq_true rfl) ?_
  refine ex_iload_n (a := ((S (pl i 0) 7 - (S (pl i 0) 7 - S (pl i 0) 7 / 8 * 8)) + S (pl i 0) 0)) 19 d_Node_nextBallot_18 rfl rfl ?_
  refine ex_aload_n (a := ad (pl i 0)) 20 d_Node_nextBallot_19 rfl rfl ?_
  refine xl_get 23 d_Node_nextBallot_20 rfl g_Node_60 (kpl hi (by decide)) (sh_Node hi) rfl ?_
  refine ex_icmple 36 26 d_Node_nextBallot_23 rfl rfl (fun h1 => ?_) (fun h1 => ?_)
  · refine ex_iload_n (a := ((S (pl i 0) 7 - (S (pl i 0) 7 - S (pl i 0) 7 / 8 * 8)) + S (pl i 0) 0)) 37 d_Node_nextBallot_36 rfl rfl ?_
    refine ex_bipush (v := 8) 39 d_Node_nextBallot_37 rfl (by decide) ?_
    refine ex_iadd 40 d_Node_nextBallot_39 rfl ?_
    refine ex_iret d_Node_nextBallot_40 rfl ⟨_, rfl, ?_⟩
    refine ⟨rfl, ?_⟩
    unfold nextF
    dsimp only
    rw [if_neg (fun z => absurd z.1 (Int32.not_lt.mpr h1))]
  · refine ex_iload_n (a := ((S (pl i 0) 7 - (S (pl i 0) 7 - S (pl i 0) 7 / 8 * 8)) + S (pl i 0) 0)) 27 d_Node_nextBallot_26 rfl rfl ?_
    refine ex_bipush (v := 8) 29 d_Node_nextBallot_27 rfl (by decide) ?_
    refine ex_icmplt 36 32 d_Node_nextBallot_29 rfl rfl (fun h2 => ?_) (fun h2 => ?_)
    · refine ex_iload_n (a := ((S (pl i 0) 7 - (S (pl i 0) 7 - S (pl i 0) 7 / 8 * 8)) + S (pl i 0) 0)) 37 d_Node_nextBallot_36 rfl rfl ?_
      refine ex_bipush (v := 8) 39 d_Node_nextBallot_37 rfl (by decide) ?_
      refine ex_iadd 40 d_Node_nextBallot_39 rfl ?_
      refine ex_iret d_Node_nextBallot_40 rfl ⟨_, rfl, ?_⟩
      refine ⟨rfl, ?_⟩
      unfold nextF
      dsimp only
      rw [if_neg (fun z => absurd z.2 (Int32.not_le.mpr h2))]
    · refine ex_iload_n (a := ((S (pl i 0) 7 - (S (pl i 0) 7 - S (pl i 0) 7 / 8 * 8)) + S (pl i 0) 0)) 33 d_Node_nextBallot_32 rfl rfl ?_
      refine ex_goto 40 d_Node_nextBallot_33 rfl ?_
      refine ex_iret d_Node_nextBallot_40 rfl ⟨_, rfl, ?_⟩
      refine ⟨rfl, ?_⟩
      unfold nextF
      dsimp only
      rw [if_pos ⟨Int32.not_le.mp h1, Int32.not_lt.mp h2⟩]
set_option maxRecDepth 100000 in
set_option maxHeartbeats 4000000 in
theorem c_Node_goDown (i : Nat) (hi : i < N) : Ex G none mi_Node_goDown 0 0 0 (xEn mi_Node_goDown [.ref (ad (pl i 0))]) [] (LY G ad N S) (xV (fun w => w = LY G ad N (downS i S))) := by
  have hloop0 : ∀ k, k ≤ 8 → Ex G none mi_Node_goDown 0 0 36 [some (.ref (ad (pl i 0))), some (.int (nI (k + 1)))] [] (LY G ad N (downL i S k)) (xV (fun w => w = LY G ad N (downS i S))) := by
    refine loop_down 8 ?_ ?_
    · skip
      refine ex_iload_n (a := nI 9) 37 d_Node_goDown_36 rfl rfl ?_
      refine ex_bipush (v := 8) 39 d_Node_goDown_37 rfl (by decide) ?_
      refine ex_icmpgt 55 42 d_Node_goDown_39 rfl rfl (fun _ => ?_) (fun h => absurd (xn_lt (xn_lit 8) rfl (by omega) (by omega) (by omega)) h)
      refine ex_vret d_Node_goDown_55 rfl ⟨rfl, ?_⟩
      exact rfl
    · intro k hk ih
      refine ex_iload_n (a := nI (k + 1)) 37 d_Node_goDown_36 rfl rfl ?_
      refine ex_bipush (v := 8) 39 d_Node_goDown_37 rfl (by decide) ?_
      refine ex_icmpgt 55 42 d_Node_goDown_39 rfl rfl (fun h => absurd h (xn_nlt (xn_lit 8) rfl (by omega) (by omega) (by omega))) (fun _ => ?_)
      refine ex_aload_n (a := ad (pl i 0)) 43 d_Node_goDown_42 rfl rfl ?_
      refine xl_getR 46 d_Node_goDown_43 rfl g_Node_18 (kpl hi (by decide)) (sh_Node hi) rfl ?_
      refine ex_iload_n (a := nI (k + 1)) 47 d_Node_goDown_46 rfl rfl ?_
      refine ex_iconst (v := 0) 48 d_Node_goDown_47 rfl (by decide) ?_
      refine xl_iast 49 d_Node_goDown_48 rfl (kpl hi (by decide)) (sh_Nslots hi) rfl (by omega) (by omega) ?_
      refine ex_iinc (a := nI (k + 1)) (v := nI (k + 2)) 52 d_Node_goDown_49 rfl rfl (xn_inc rfl) ?_
      refine ex_goto 36 d_Node_goDown_52 rfl ?_
      exact Ex.wk ih (by repeat (first | exact xs_nil | refine xs_s ?_ | refine xs_n ?_))
  refine ex_aload_n (a := ad (pl i 0)) 1 d_Node_goDown_0 rfl rfl ?_
  refine ex_iconst (v := 0) 2 d_Node_goDown_1 rfl (by decide) ?_
  refine xl_put 5 d_Node_goDown_2 rfl p_Node_22 rfl rfl (kpl hi (by decide)) (sh_Node hi) rfl ?_
  refine ex_aload_n (a := ad (pl i 0)) 6 d_Node_goDown_5 rfl rfl ?_
  refine ex_iconst (v := 0) 7 d_Node_goDown_6 rfl (by decide) ?_
  refine xl_put 10 d_Node_goDown_7 rfl p_Node_51 rfl rfl (kpl hi (by decide)) (sh_Node hi) rfl ?_
  refine ex_aload_n (a := ad (pl i 0)) 11 d_Node_goDown_10 rfl rfl ?_
  refine ex_iconst (v := 0) 12 d_Node_goDown_11 rfl (by decide) ?_
  refine xl_put 15 d_Node_goDown_12 rfl p_Node_60 rfl rfl (kpl hi (by decide)) (sh_Node hi) rfl ?_
  refine ex_aload_n (a := ad (pl i 0)) 16 d_Node_goDown_15 rfl rfl ?_
  refine ex_iconst (v := (-1)) 17 d_Node_goDown_16 rfl (by decide) ?_
  refine xl_put 20 d_Node_goDown_17 rfl p_Node_26 rfl rfl (kpl hi (by decide)) (sh_Node hi) rfl ?_
  refine ex_aload_n (a := ad (pl i 0)) 21 d_Node_goDown_20 rfl rfl ?_
  refine xl_getR 24 d_Node_goDown_21 rfl g_Node_38 (kpl hi (by decide)) (sh_Node hi) rfl ?_
  refine xl_callVv [] [] 27 d_Node_goDown_24 rfl zv_Term_end ⟨(Nat.le_of_ble_eq_true rfl), (Nat.le_of_ble_eq_true rfl)⟩ m_Node_81 (kpl hi (by decide)) (sh_Term hi) rfl rfl (Nat.le_of_ble_eq_true rfl) rfl (Nat.le_of_ble_eq_true rfl) (c_Term_end (S := (u2 (u2 (u2 (u2 S (pl i 0) 5 (0)) (pl i 0) 6 (0)) (pl i 0) 7 (0)) (pl i 0) 8 ((-1)))) i hi) (fun ww q1 => ?_)
  rw [q1]
  refine ex_aload_n (a := ad (pl i 0)) 28 d_Node_goDown_27 rfl rfl ?_
  refine xl_getR 31 d_Node_goDown_28 rfl g_Node_47 (kpl hi (by decide)) (sh_Node hi) rfl ?_
  refine xl_callVv [] [] 34 d_Node_goDown_31 rfl zv_Ledger_forget ⟨(Nat.le_of_ble_eq_true rfl), (Nat.le_of_ble_eq_true rfl)⟩ m_Node_84 (kpl hi (by decide)) (sh_Ledger hi) rfl rfl (Nat.le_of_ble_eq_true rfl) rfl (Nat.le_of_ble_eq_true rfl) (c_Ledger_forget (S := (endS i (u2 (u2 (u2 (u2 S (pl i 0) 5 (0)) (pl i 0) 6 (0)) (pl i 0) 7 (0)) (pl i 0) 8 ((-1))))) i hi) (fun ww q2 => ?_)
  rw [q2]
  refine ex_iconst (v := 1) 35 d_Node_goDown_34 rfl (by decide) ?_
  refine ex_istore_n 36 d_Node_goDown_35 rfl (Nat.le_of_ble_eq_true rfl) ?_
  exact Ex.wk (hloop0 0 (Nat.zero_le _)) (by repeat (first | exact xs_nil | refine xs_s ?_ | refine xs_n ?_))
set_option maxRecDepth 100000 in
set_option maxHeartbeats 4000000 in
theorem c_Node_writeSector (i s : Nat) (hi : i < N) (hs : s < 18) (a b c : Int32) : Ex G none mi_Node_writeSector 0 0 0 (xEn mi_Node_writeSector [.ref (ad (pl i 0)), .int (nI s), .int a, .int b, .int c]) [] (LY G ad N S) (xI (fun v w => w = LY G ad N (wsecS i s a b c S) ∧ v = zb (wsOk i S))) := by
  refine ex_aload_n (a := ad (pl i 0)) 1 d_Node_writeSector_0 rfl rfl ?_
  refine xl_getR 4 d_Node_writeSector_1 rfl g_Node_12 (kpl hi (by decide)) (sh_Node hi) rfl ?_
  refine ex_iload_n (a := nI s) 5 d_Node_writeSector_4 rfl rfl ?_
  refine ex_iload_n (a := a) 6 d_Node_writeSector_5 rfl rfl ?_
  refine ex_iload_n (a := b) 7 d_Node_writeSector_6 rfl rfl ?_
  refine ex_iload (a := c) 9 d_Node_writeSector_7 rfl rfl ?_
  refine xl_callVv [.int (nI s), .int a, .int b, .int c] [] 12 d_Node_writeSector_9 rfl zv_Disk_putContent ⟨(Nat.le_of_ble_eq_true rfl), (Nat.le_of_ble_eq_true rfl)⟩ m_Node_71 (kpl hi (by decide)) (sh_Disk hi) rfl rfl (Nat.le_of_ble_eq_true rfl) rfl (Nat.le_of_ble_eq_true rfl) (c_Disk_putContent (S := S) i (s) hi (by omega) a b c) (fun ww q1 => ?_)
  rw [q1]
  refine ex_aload_n (a := ad (pl i 0)) 13 d_Node_writeSector_12 rfl rfl ?_
  refine xl_get 16 d_Node_writeSector_13 rfl g_Node_26 (kpl hi (by decide)) (sh_Node hi) rfl ?_
  refine ex_ifne 25 19 d_Node_writeSector_16 rfl rfl (fun h2 => ?_) (fun h2 => ?_)
  · refine ex_aload_n (a := ad (pl i 0)) 26 d_Node_writeSector_25 rfl rfl ?_
    refine xl_getR 29 d_Node_writeSector_26 rfl g_Node_12 (kpl hi (by decide)) (sh_Node hi) rfl ?_
    refine ex_iload_n (a := nI s) 30 d_Node_writeSector_29 rfl rfl ?_
    refine xl_callVv [.int (nI s)] [] 33 d_Node_writeSector_30 rfl zv_Disk_sealSector ⟨(Nat.le_of_ble_eq_true rfl), (Nat.le_of_ble_eq_true rfl)⟩ m_Node_78 (kpl hi (by decide)) (sh_Disk hi) rfl rfl (Nat.le_of_ble_eq_true rfl) rfl (Nat.le_of_ble_eq_true rfl) (c_Disk_sealSector (S := (putC S (pl i 2) (8 * (s)) a b c)) i (s) hi (by omega)) (fun ww q3 => ?_)
    rw [q3]
    refine ex_aload_n (a := ad (pl i 0)) 34 d_Node_writeSector_33 rfl rfl ?_
    refine xl_get 37 d_Node_writeSector_34 rfl g_Node_26 (kpl hi (by decide)) (sh_Node hi) rfl ?_
    refine ex_iconst (v := (-1)) 38 d_Node_writeSector_37 rfl (by decide) ?_
    refine ex_icmpeq 51 41 d_Node_writeSector_38 rfl rfl (fun h4 => ?_) (fun h4 => ?_)
    · refine ex_iconst (v := 1) 52 d_Node_writeSector_51 rfl (by decide) ?_
      refine ex_zret d_Node_writeSector_52 rfl rfl ⟨_, rfl, ?_⟩
      have h0 := h2
      rw [putC_n] at h0
      have h1 := h4
      rw [seal_n, putC_n] at h1
      refine ⟨?_, (Eq.symm (zb_t h0))⟩
      unfold wsecS; rw [if_neg h0, if_pos h1]
    · refine ex_aload_n (a := ad (pl i 0)) 42 d_Node_writeSector_41 rfl rfl ?_
      refine ex_dup 43 d_Node_writeSector_42 rfl rfl ?_
      refine xl_get 46 d_Node_writeSector_43 rfl g_Node_26 (kpl hi (by decide)) (sh_Node hi) rfl ?_
      refine ex_iconst (v := 1) 47 d_Node_writeSector_46 rfl (by decide) ?_
      refine ex_isub 48 d_Node_writeSector_47 rfl ?_
      refine xl_put 51 d_Node_writeSector_48 rfl p_Node_26 rfl rfl (kpl hi (by decide)) (sh_Node hi) rfl ?_
      refine ex_iconst (v := 1) 52 d_Node_writeSector_51 rfl (by decide) ?_
      refine ex_zret d_Node_writeSector_52 rfl rfl ⟨_, rfl, ?_⟩
      have h0 := h2
      rw [putC_n] at h0
      have h1 := h4
      rw [seal_n, putC_n] at h1
      refine ⟨?_, (Eq.symm (zb_t h0))⟩
      unfold wsecS; rw [if_neg h0, if_neg h1]; simp only [seal_n, putC_n]
  · refine ex_aload_n (a := ad (pl i 0)) 20 d_Node_writeSector_19 rfl rfl ?_
    refine xl_callVv [] [] 23 d_Node_writeSector_20 rfl zv_Node_goDown ⟨(Nat.le_of_ble_eq_true rfl), (Nat.le_of_ble_eq_true rfl)⟩ m_Node_75 (kpl hi (by decide)) (sh_Node hi) rfl rfl (Nat.le_of_ble_eq_true rfl) rfl (Nat.le_of_ble_eq_true rfl) (c_Node_goDown (S := (putC S (pl i 2) (8 * (s)) a b c)) i hi) (fun ww q5 => ?_)
    rw [q5]
    refine ex_iconst (v := 0) 24 d_Node_writeSector_23 rfl (by decide) ?_
    refine ex_zret d_Node_writeSector_24 rfl rfl ⟨_, rfl, ?_⟩
    have h0 := h2
    rw [putC_n] at h0
    refine ⟨?_, (Eq.symm (zb_f (fun z => z h0)))⟩
    unfold wsecS; rw [if_pos h0]
set_option maxRecDepth 100000 in
set_option maxHeartbeats 4000000 in
theorem c_Node_raisePromise (i : Nat) (hi : i < N) (b : Int32) : Ex G none mi_Node_raisePromise 0 0 0 (xEn mi_Node_raisePromise [.ref (ad (pl i 0)), .int b]) [] (LY G ad N S) (xI (fun v w => w = LY G ad N (rpS i b S) ∧ v = zb (rpOk i b S))) := by
  refine ex_aload_n (a := ad (pl i 0)) 1 d_Node_raisePromise_0 rfl rfl ?_
  refine xl_get 4 d_Node_raisePromise_1 rfl g_Node_60 (kpl hi (by decide)) (sh_Node hi) rfl ?_
  refine ex_iload_n (a := b) 5 d_Node_raisePromise_4 rfl rfl ?_
  refine ex_icmplt 10 8 d_Node_raisePromise_5 rfl rfl (fun h1 => ?_) (fun h1 => ?_)
  · refine ex_aload_n (a := ad (pl i 0)) 11 d_Node_raisePromise_10 rfl rfl ?_
    refine ex_iconst (v := 0) 12 d_Node_raisePromise_11 rfl (by decide) ?_
    refine ex_iconst (v := 0) 13 d_Node_raisePromise_12 rfl (by decide) ?_
    refine ex_iconst (v := 0) 14 d_Node_raisePromise_13 rfl (by decide) ?_
    refine ex_iload_n (a := b) 15 d_Node_raisePromise_14 rfl rfl ?_
    refine xl_callVi [.int 0, .int 0, .int 0, .int b] [] 18 d_Node_raisePromise_15 rfl zv_Node_writeSector ⟨(Nat.le_of_ble_eq_true rfl), (Nat.le_of_ble_eq_true rfl)⟩ m_Node_63 (kpl hi (by decide)) (sh_Node hi) rfl rfl (Nat.le_of_ble_eq_true rfl) rfl (Nat.le_of_ble_eq_true rfl) (c_Node_writeSector (S := S) i (0) hi (by omega) 0 0 b) (fun vv ww q2 => ?_)
    rw [q2.1, q2.2]
    by_cases h3 : wsOk i S
    · refine Ex.int (zb_t h3) ?_
      refine ex_ifeq 32 21 d_Node_raisePromise_18 rfl rfl (fun h => absurd h (by decide)) (fun _ => ?_)
      refine ex_aload_n (a := ad (pl i 0)) 22 d_Node_raisePromise_21 rfl rfl ?_
      refine ex_iconst (v := 1) 23 d_Node_raisePromise_22 rfl (by decide) ?_
      refine ex_iconst (v := 0) 24 d_Node_raisePromise_23 rfl (by decide) ?_
      refine ex_iconst (v := 0) 25 d_Node_raisePromise_24 rfl (by decide) ?_
      refine ex_iload_n (a := b) 26 d_Node_raisePromise_25 rfl rfl ?_
      refine xl_callVi [.int 1, .int 0, .int 0, .int b] [] 29 d_Node_raisePromise_26 rfl zv_Node_writeSector ⟨(Nat.le_of_ble_eq_true rfl), (Nat.le_of_ble_eq_true rfl)⟩ m_Node_63 (kpl hi (by decide)) (sh_Node hi) rfl rfl (Nat.le_of_ble_eq_true rfl) rfl (Nat.le_of_ble_eq_true rfl) (c_Node_writeSector (S := (wsecS i (0) 0 0 b S)) i (1) hi (by omega) 0 0 b) (fun vv ww q4 => ?_)
      rw [q4.1, q4.2]
      by_cases h5 : wsOk i (wsecS i (0) 0 0 b S)
      · refine Ex.int (zb_t h5) ?_
        refine ex_ifne 34 32 d_Node_raisePromise_29 rfl rfl (fun _ => ?_) (fun h => absurd h (by decide))
        refine ex_aload_n (a := ad (pl i 0)) 35 d_Node_raisePromise_34 rfl rfl ?_
        refine ex_iload_n (a := b) 36 d_Node_raisePromise_35 rfl rfl ?_
        refine xl_put 39 d_Node_raisePromise_36 rfl p_Node_60 rfl rfl (kpl hi (by decide)) (sh_Node hi) rfl ?_
        refine ex_iconst (v := 1) 40 d_Node_raisePromise_39 rfl (by decide) ?_
        refine ex_zret d_Node_raisePromise_40 rfl rfl ⟨_, rfl, ?_⟩
        refine ⟨?_, (Eq.symm (zb_t (fun _ => ⟨h3, h5⟩)))⟩
        unfold rpS; rw [if_pos h1, if_pos h3, if_pos h5]
      · refine Ex.int (zb_f h5) ?_
        refine ex_ifne 34 32 d_Node_raisePromise_29 rfl rfl (fun h => absurd (by decide) h) (fun _ => ?_)
        refine ex_iconst (v := 0) 33 d_Node_raisePromise_32 rfl (by decide) ?_
        refine ex_zret d_Node_raisePromise_33 rfl rfl ⟨_, rfl, ?_⟩
        refine ⟨?_, (Eq.symm (zb_f (fun z => h5 (z h1).2)))⟩
        unfold rpS; rw [if_pos h1, if_pos h3, if_neg h5]
    · refine Ex.int (zb_f h3) ?_
      refine ex_ifeq 32 21 d_Node_raisePromise_18 rfl rfl (fun _ => ?_) (fun h => absurd (by decide) h)
      refine ex_iconst (v := 0) 33 d_Node_raisePromise_32 rfl (by decide) ?_
      refine ex_zret d_Node_raisePromise_33 rfl rfl ⟨_, rfl, ?_⟩
      refine ⟨?_, (Eq.symm (zb_f (fun z => h3 (z h1).1)))⟩
      unfold rpS; rw [if_pos h1, if_neg h3]
  · refine ex_iconst (v := 1) 9 d_Node_raisePromise_8 rfl (by decide) ?_
    refine ex_zret d_Node_raisePromise_9 rfl rfl ⟨_, rfl, ?_⟩
    refine ⟨?_, (Eq.symm (zb_t (fun z => absurd z h1)))⟩
    unfold rpS; rw [if_neg h1]
end WK
