theorem ml_LAW_9 : Cond.methodLink R_LAW 9 mi_LAW_cell.1 ∈ xTb := in_tb 461 (by decide +kernel) rfl
theorem mask31 (x : Int32) : ∃ k, k < 32 ∧ x &&& 31 = nI k := by
  refine ⟨x.toBitVec.toNat % 32, Nat.mod_lt _ (by decide), ?_⟩
  apply Int32.toBitVec_inj.1
  apply BitVec.eq_of_toNat_eq
  show (x.toBitVec &&& (31 : Int32).toBitVec).toNat = (BitVec.ofNat 32 (x.toBitVec.toNat % 32)).toNat
  rw [BitVec.toNat_and, BitVec.toNat_ofNat]
  have e : (31 : Int32).toBitVec.toNat = 2 ^ 5 - 1 := by decide
  rw [e, Nat.and_two_pow_sub_one_eq_mod]
  have := x.toBitVec.isLt
  omega
theorem sub4 {ln : Nat} (h : ln ≤ 2049) : (Int32.ofNat ln - 4).toInt = (ln : Int) - 4 := by
  rw [Int32.toInt_sub, show (Int32.ofNat ln).toInt = (ln : Int) from nI_toInt (by omega)]
  have e : (4 : Int32).toInt = 4 := by decide
  rw [e, Int.bmod_eq_of_le (by omega) (by omega)]
section LWA
variable {G : xC} {ad : Nat → Nat} {N : Nat} {b ln : Nat} {xs : Nat → Int32}
theorem Ex.anil {X : xS} {y : mI} {cb sb pc : Nat} {L : List (Option Value)} {st : List Value} {ws : va_W} {Q : Option Value → va_W → Prop} (k : Ex G X y cb sb pc L st (ws ++ []) Q) : Ex G X y cb sb pc L st ws Q := by
  rw [List.append_nil] at k
  exact k
theorem c_LAW_cell {ws : va_W} (hln : ln ≤ 2049) : Ex G (some (b, ln, xs)) mi_LAW_cell 0 0 0 (xEn mi_LAW_cell [.ref b, .int 0]) [] ws (xI (fun v w => w = ws ∧ v = if 0 < ln then xs 0 else 0)) := by
  refine ex_iload_n (a := 0) 1 d_LAW_cell_0 rfl rfl ?_
  refine ex_aload_n (a := b) 2 d_LAW_cell_1 rfl rfl ?_
  refine ex_slen 3 d_LAW_cell_2 rfl rfl ?_
  by_cases h0 : 0 < ln
  · refine ex_icmpge 12 6 d_LAW_cell_3 rfl rfl (fun h => absurd h (xn_nle (j := ln) (k := 0) rfl (xn_lit 0) (by omega) (by omega) (by omega))) (fun _ => ?_)
    refine ex_aload_n (a := b) 7 d_LAW_cell_6 rfl rfl ?_
    refine ex_iload_n (a := 0) 8 d_LAW_cell_7 rfl rfl ?_
    refine ex_sldN 9 d_LAW_cell_8 rfl rfl (xn_lit 0) (by omega) (by omega) ?_
    refine ex_goto 13 d_LAW_cell_9 rfl ?_
    refine ex_iret d_LAW_cell_13 rfl ⟨_, rfl, rfl, ?_⟩
    rw [if_pos h0]
  · refine ex_icmpge 12 6 d_LAW_cell_3 rfl rfl (fun _ => ?_) (fun h => absurd (xn_le (j := ln) (k := 0) rfl (xn_lit 0) (by omega) (by omega) (by omega)) h)
    refine ex_iconst (v := 0) 13 d_LAW_cell_12 rfl (by decide) ?_
    refine ex_iret d_LAW_cell_13 rfl ⟨_, rfl, rfl, ?_⟩
    rw [if_neg h0]
set_option maxRecDepth 100000 in
set_option maxHeartbeats 4000000 in
theorem law_loop (hln : ln ≤ 2049) : ∀ (m i : Nat) (S M : sT), ln < i + 4 * m + 4 → i ≤ ln + 4 → JJ N S M → Ex G (some (b, ln, xs)) mi_LAW_law 0 0 28 [some (.ref b), some (.ref (ad 0)), some (.ref (ad (rp N 0))), some (.int (nI i))] [] (LR G ad N S M) (xI (fun v w => v = 1)) := by
  intro m
  induction m with
  | zero =>
    intro i S M h1 h2 hJ
    refine ex_iload_n (a := nI i) 29 d_LAW_law_28 rfl rfl ?_
    refine ex_aload_n (a := b) 30 d_LAW_law_29 rfl rfl ?_
    refine ex_slen 31 d_LAW_law_30 rfl rfl ?_
    refine ex_iconst (v := 4) 32 d_LAW_law_31 rfl (by decide) ?_
    refine ex_isub 33 d_LAW_law_32 rfl ?_
    refine ex_icmpgt 781 36 d_LAW_law_33 rfl rfl (fun _ => ?_) (fun h => absurd ?_ h)
    · refine ex_iconst (v := 1) 782 d_LAW_law_781 rfl (by decide) ?_
      exact ex_zret d_LAW_law_782 rfl rfl ⟨_, rfl, rfl⟩
    · rw [Int32.lt_iff_toInt_lt, sub4 hln, i_nI (by omega)]
      omega
  | succ m ih =>
    intro i S M h1 h2 hJ
    by_cases hi : i + 4 ≤ ln
    · have kk : ∀ S M, JJ N S M → Ex G (some (b, ln, xs)) mi_LAW_law 0 0 775 [some (.ref b), some (.ref (ad 0)), some (.ref (ad (rp N 0))), some (.int (nI i))] [] (LR G ad N S M) (xI (fun v w => v = 1)) := by
        intro S M hJ
        refine ex_iinc (a := nI i) (v := nI (i + 4)) 778 d_LAW_law_775 rfl rfl (xn_inc4 rfl) ?_
        refine ex_goto 28 d_LAW_law_778 rfl ?_
        exact Ex.wk (ih (i + 4) S M (by omega) (by omega) hJ) (by repeat (first | exact xs_nil | refine xs_s ?_ | refine xs_n ?_))
      refine ex_iload_n (a := nI i) 29 d_LAW_law_28 rfl rfl ?_
      refine ex_aload_n (a := b) 30 d_LAW_law_29 rfl rfl ?_
      refine ex_slen 31 d_LAW_law_30 rfl rfl ?_
      refine ex_iconst (v := 4) 32 d_LAW_law_31 rfl (by decide) ?_
      refine ex_isub 33 d_LAW_law_32 rfl ?_
      refine ex_icmpgt 781 36 d_LAW_law_33 rfl rfl (fun h => absurd h ?_) (fun _ => ?_)
      · rw [Int32.lt_iff_toInt_lt, sub4 hln, i_nI (by omega)]
        omega
      · refine ex_aload_n (a := b) 37 d_LAW_law_36 rfl rfl ?_
        refine ex_iload_n (a := nI i) 38 d_LAW_law_37 rfl rfl ?_
        refine ex_sldN 39 d_LAW_law_38 rfl rfl rfl (by omega) (by omega) ?_
        refine ex_bipush (v := 31) 41 d_LAW_law_39 rfl (by decide) ?_
        refine ex_iand 42 d_LAW_law_41 rfl ?_
        obtain ⟨k, hk, e⟩ := mask31 (xs i)
        rw [e]
        match k, hk with
        | 0, _ => exact ex_tableIn 132 d_LAW_law_42 (by decide) (by decide) rfl rfl (law_0 hln hi hJ kk)
        | 1, _ => exact ex_tableIn 165 d_LAW_law_42 (by decide) (by decide) rfl rfl (law_1 hln hi hJ kk)
        | 2, _ => exact ex_tableIn 188 d_LAW_law_42 (by decide) (by decide) rfl rfl (law_2 hln hi hJ kk)
        | 3, _ => exact ex_tableIn 221 d_LAW_law_42 (by decide) (by decide) rfl rfl (law_3 hln hi hJ kk)
        | 4, _ => exact ex_tableIn 254 d_LAW_law_42 (by decide) (by decide) rfl rfl (law_4 hln hi hJ kk)
        | 5, _ => exact ex_tableIn 297 d_LAW_law_42 (by decide) (by decide) rfl rfl (law_5 hln hi hJ kk)
        | 6, _ => exact ex_tableIn 330 d_LAW_law_42 (by decide) (by decide) rfl rfl (law_6 hln hi hJ kk)
        | 7, _ => exact ex_tableIn 373 d_LAW_law_42 (by decide) (by decide) rfl rfl (law_7 hln hi hJ kk)
        | 8, _ => exact ex_tableIn 396 d_LAW_law_42 (by decide) (by decide) rfl rfl (law_8 hln hi hJ kk)
        | 9, _ => exact ex_tableIn 419 d_LAW_law_42 (by decide) (by decide) rfl rfl (law_9 hln hi hJ kk)
        | 10, _ => exact ex_tableIn 452 d_LAW_law_42 (by decide) (by decide) rfl rfl (law_10 hln hi hJ kk)
        | 11, _ => exact ex_tableIn 495 d_LAW_law_42 (by decide) (by decide) rfl rfl (law_11 hln hi hJ kk)
        | 12, _ => exact ex_tableIn 528 d_LAW_law_42 (by decide) (by decide) rfl rfl (law_12 hln hi hJ kk)
        | 13, _ => exact ex_tableIn 561 d_LAW_law_42 (by decide) (by decide) rfl rfl (law_13 hln hi hJ kk)
        | 14, _ => exact ex_tableIn 594 d_LAW_law_42 (by decide) (by decide) rfl rfl (law_14 hln hi hJ kk)
        | 15, _ => exact ex_tableIn 627 d_LAW_law_42 (by decide) (by decide) rfl rfl (law_15 hln hi hJ kk)
        | 16, _ => exact ex_tableIn 660 d_LAW_law_42 (by decide) (by decide) rfl rfl (law_16 hln hi hJ kk)
        | 17, _ => exact ex_tableIn 693 d_LAW_law_42 (by decide) (by decide) rfl rfl (law_17 hln hi hJ kk)
        | 18, _ => exact ex_tableIn 726 d_LAW_law_42 (by decide) (by decide) rfl rfl (law_18 hln hi hJ kk)
        | k + 19, h => exact ex_tableOut 775 d_LAW_law_42 (Or.inr (by rw [i_nI (by omega)]; omega)) rfl (kk S M hJ)
    · skip
      refine ex_iload_n (a := nI i) 29 d_LAW_law_28 rfl rfl ?_
      refine ex_aload_n (a := b) 30 d_LAW_law_29 rfl rfl ?_
      refine ex_slen 31 d_LAW_law_30 rfl rfl ?_
      refine ex_iconst (v := 4) 32 d_LAW_law_31 rfl (by decide) ?_
      refine ex_isub 33 d_LAW_law_32 rfl ?_
      refine ex_icmpgt 781 36 d_LAW_law_33 rfl rfl (fun _ => ?_) (fun h => absurd ?_ h)
      · refine ex_iconst (v := 1) 782 d_LAW_law_781 rfl (by decide) ?_
        exact ex_zret d_LAW_law_782 rfl rfl ⟨_, rfl, rfl⟩
      · rw [Int32.lt_iff_toInt_lt, sub4 hln, i_nI (by omega)]
        omega
set_option maxRecDepth 100000 in
set_option maxHeartbeats 4000000 in
theorem law_3n (hln : ln ≤ 2049) (hv : ¬ (if 0 < ln then xs 0 else 0) = 5) : Ex G (some (b, ln, xs)) mi_LAW_law 70 2412 0 (xEn mi_LAW_law [.ref b]) [] ([] ++ []) (xI (fun v w => v = 1)) := by
  refine xt_new (cb := 69) (sb := 2410) [.null, .null] 3 d_LAW_law_0 rfl nw_LAW_7 ⟨by omega, by omega⟩ (fun h => ?_)
  refine ex_dup 4 d_LAW_law_3 rfl rfl ?_
  refine ex_aload_n (a := b) 5 d_LAW_law_4 rfl rfl ?_
  refine ex_iconst (v := 0) 6 d_LAW_law_5 rfl (by decide) ?_
  refine ex_callS (cb := 69) (sb := 2410) (as := [.ref b, .int 0]) (rest := [.ref h, .ref h]) 9 d_LAW_law_6 rfl zo_LAW_cell ⟨(Nat.le_of_ble_eq_true rfl), (Nat.le_of_ble_eq_true rfl)⟩ ml_LAW_9 zs_LAW_cell.2 rfl rfl (Nat.le_of_ble_eq_true rfl) rfl (Nat.le_of_ble_eq_true rfl) (Or.inr rfl) (c_LAW_cell hln) ⟨by omega, by omega⟩ (fun r9 w9 h9 => ?_)
  obtain ⟨v9, rfl, hw9, hv9⟩ := h9
  rw [hw9]
  refine Ex.int hv9 ?_
  refine xt_callI (cb := 21) (sb := 1363) [.int (if 0 < ln then xs 0 else 0)] [.ref h] 12 d_LAW_law_9 rfl zo_SL_init ⟨(Nat.le_of_ble_eq_true rfl), (Nat.le_of_ble_eq_true rfl)⟩ m_LAW_15 zj_SL_init rfl rfl rfl rfl (Nat.le_of_ble_eq_true rfl) rfl (Nat.le_of_ble_eq_true rfl) (c_SL_init_3 [] h _ hv) ⟨by omega, by omega⟩ (fun w hw => ?_)
  obtain ⟨p1, p2, p3, p4, p5, p6, p7, p8, p9, p10, p11, p12, p13, p14, p15, p16, p17, p18, p19, p20, p21, p22, p23, p24, p25, p26, p27, p28, p29, p30, p31, p32, p33, p34, p35, p36, p37, p38, p39, p40, p41, p42, p43, p44, p45, p46, p47, p48, hw⟩ := hw
  rw [List.nil_append] at hw
  have hlay : ∀ (hm q1 q2 q3 q4 q5 q6 q7 q8 q9 q10 q11 q12 q13 q14 q15 q16 q17 q18 q19 q20 : Nat), ∃ ad : Nat → Nat, ad 0 = h ∧ ad (rp 3 0) = hm ∧ w ++ _ = LR G ad 3 (S0 3) (M0 3) := fun hm q1 q2 q3 q4 q5 q6 q7 q8 q9 q10 q11 q12 q13 q14 q15 q16 q17 q18 q19 q20 => by
    rw [hw]
    exact lay_3 h p1 p2 p3 p4 p5 p6 p7 p8 p9 p10 p11 p12 p13 p14 p15 p16 p17 p18 p19 p20 p21 p22 p23 p24 p25 p26 p27 p28 p29 p30 p31 p32 p33 p34 p35 p36 p37 p38 p39 p40 p41 p42 p43 p44 p45 p46 p47 p48 hm q1 q2 q3 q4 q5 q6 q7 q8 q9 q10 q11 q12 q13 q14 q15 q16 q17 q18 q19 q20
  clear hw
  refine ex_astore_n 13 d_LAW_law_12 rfl (Nat.le_of_ble_eq_true rfl) ?_
  refine Ex.anil ?_
  refine xt_new (cb := 20) (sb := 1340) [.int 0, .int 0, .null, .null, .null, .null, .null, .null, .null, .null, .null, .null, .null, .null, .null, .null, .null, .null, .null, .int 0, .null, .null, .null] 16 d_LAW_law_13 rfl nw_LAW_18 ⟨by omega, by omega⟩ (fun hm => ?_)
  have hlay := hlay hm
  refine ex_dup 17 d_LAW_law_16 rfl rfl ?_
  refine ex_aload_n (a := b) 18 d_LAW_law_17 rfl rfl ?_
  refine ex_iconst (v := 0) 19 d_LAW_law_18 rfl (by decide) ?_
  refine ex_callS (cb := 20) (sb := 1340) (as := [.ref b, .int 0]) (rest := [.ref hm, .ref hm]) 22 d_LAW_law_19 rfl zo_LAW_cell ⟨(Nat.le_of_ble_eq_true rfl), (Nat.le_of_ble_eq_true rfl)⟩ ml_LAW_9 zs_LAW_cell.2 rfl rfl (Nat.le_of_ble_eq_true rfl) rfl (Nat.le_of_ble_eq_true rfl) (Or.inr rfl) (c_LAW_cell hln) ⟨by omega, by omega⟩ (fun r9 w9 h9 => ?_)
  obtain ⟨v9, rfl, hw9, hv9⟩ := h9
  rw [hw9]
  refine Ex.int hv9 ?_
  refine xt_callI (cb := 0) (sb := 0) [.int (if 0 < ln then xs 0 else 0)] [.ref hm] 25 d_LAW_law_22 rfl zo_MO_init ⟨(Nat.le_of_ble_eq_true rfl), (Nat.le_of_ble_eq_true rfl)⟩ m_LAW_20 zj_MO_init rfl rfl rfl rfl (Nat.le_of_ble_eq_true rfl) rfl (Nat.le_of_ble_eq_true rfl) (c_MO_init_3 (S := S0 3) w hm _ hv (fun ad => ad 0 = h) hlay) ⟨by omega, by omega⟩ (fun w2 hw2 => ?_)
  obtain ⟨ad, ha, hb, hw2⟩ := hw2
  rw [hw2]
  subst ha hb
  refine ex_astore_n 26 d_LAW_law_25 rfl (Nat.le_of_ble_eq_true rfl) ?_
  refine ex_iconst (v := 1) 27 d_LAW_law_26 rfl (by decide) ?_
  refine ex_istore_n 28 d_LAW_law_27 rfl (Nat.le_of_ble_eq_true rfl) ?_
  exact Ex.wk (law_loop (N := 3) hln ln 1 (S0 3) (rInL 3 (M0 3) 5) (by omega) (by omega) (JJ_start (by decide) (by decide))) (by repeat (first | exact xs_nil | refine xs_s ?_ | refine xs_n ?_))
set_option maxRecDepth 100000 in
set_option maxHeartbeats 4000000 in
theorem law_5n (hln : ln ≤ 2049) (hv : (if 0 < ln then xs 0 else 0) = 5) : Ex G (some (b, ln, xs)) mi_LAW_law 98 3114 0 (xEn mi_LAW_law [.ref b]) [] ([] ++ []) (xI (fun v w => v = 1)) := by
  refine xt_new (cb := 97) (sb := 3112) [.null, .null] 3 d_LAW_law_0 rfl nw_LAW_7 ⟨by omega, by omega⟩ (fun h => ?_)
  refine ex_dup 4 d_LAW_law_3 rfl rfl ?_
  refine ex_aload_n (a := b) 5 d_LAW_law_4 rfl rfl ?_
  refine ex_iconst (v := 0) 6 d_LAW_law_5 rfl (by decide) ?_
  refine ex_callS (cb := 97) (sb := 3112) (as := [.ref b, .int 0]) (rest := [.ref h, .ref h]) 9 d_LAW_law_6 rfl zo_LAW_cell ⟨(Nat.le_of_ble_eq_true rfl), (Nat.le_of_ble_eq_true rfl)⟩ ml_LAW_9 zs_LAW_cell.2 rfl rfl (Nat.le_of_ble_eq_true rfl) rfl (Nat.le_of_ble_eq_true rfl) (Or.inr rfl) (c_LAW_cell hln) ⟨by omega, by omega⟩ (fun r9 w9 h9 => ?_)
  obtain ⟨v9, rfl, hw9, hv9⟩ := h9
  rw [hw9]
  refine Ex.int hv9 ?_
  refine Ex.int hv ?_
  refine xt_callI (cb := 21) (sb := 1363) [.int 5] [.ref h] 12 d_LAW_law_9 rfl zo_SL_init ⟨(Nat.le_of_ble_eq_true rfl), (Nat.le_of_ble_eq_true rfl)⟩ m_LAW_15 zj_SL_init rfl rfl rfl rfl (Nat.le_of_ble_eq_true rfl) rfl (Nat.le_of_ble_eq_true rfl) (c_SL_init_5 [] h) ⟨by omega, by omega⟩ (fun w hw => ?_)
  obtain ⟨p1, p2, p3, p4, p5, p6, p7, p8, p9, p10, p11, p12, p13, p14, p15, p16, p17, p18, p19, p20, p21, p22, p23, p24, p25, p26, p27, p28, p29, p30, p31, p32, p33, p34, p35, p36, p37, p38, p39, p40, p41, p42, p43, p44, p45, p46, p47, p48, p49, p50, p51, p52, p53, p54, p55, p56, p57, p58, p59, p60, p61, p62, p63, p64, p65, p66, p67, p68, p69, p70, p71, p72, p73, p74, p75, p76, hw⟩ := hw
  rw [List.nil_append] at hw
  have hlay : ∀ (hm q1 q2 q3 q4 q5 q6 q7 q8 q9 q10 q11 q12 q13 q14 q15 q16 q17 q18 q19 q20 : Nat), ∃ ad : Nat → Nat, ad 0 = h ∧ ad (rp 5 0) = hm ∧ w ++ _ = LR G ad 5 (S0 5) (M0 5) := fun hm q1 q2 q3 q4 q5 q6 q7 q8 q9 q10 q11 q12 q13 q14 q15 q16 q17 q18 q19 q20 => by
    rw [hw]
    exact lay_5 h p1 p2 p3 p4 p5 p6 p7 p8 p9 p10 p11 p12 p13 p14 p15 p16 p17 p18 p19 p20 p21 p22 p23 p24 p25 p26 p27 p28 p29 p30 p31 p32 p33 p34 p35 p36 p37 p38 p39 p40 p41 p42 p43 p44 p45 p46 p47 p48 p49 p50 p51 p52 p53 p54 p55 p56 p57 p58 p59 p60 p61 p62 p63 p64 p65 p66 p67 p68 p69 p70 p71 p72 p73 p74 p75 p76 hm q1 q2 q3 q4 q5 q6 q7 q8 q9 q10 q11 q12 q13 q14 q15 q16 q17 q18 q19 q20
  clear hw
  refine ex_astore_n 13 d_LAW_law_12 rfl (Nat.le_of_ble_eq_true rfl) ?_
  refine Ex.anil ?_
  refine xt_new (cb := 20) (sb := 1340) [.int 0, .int 0, .null, .null, .null, .null, .null, .null, .null, .null, .null, .null, .null, .null, .null, .null, .null, .null, .null, .int 0, .null, .null, .null] 16 d_LAW_law_13 rfl nw_LAW_18 ⟨by omega, by omega⟩ (fun hm => ?_)
  have hlay := hlay hm
  refine ex_dup 17 d_LAW_law_16 rfl rfl ?_
  refine ex_aload_n (a := b) 18 d_LAW_law_17 rfl rfl ?_
  refine ex_iconst (v := 0) 19 d_LAW_law_18 rfl (by decide) ?_
  refine ex_callS (cb := 20) (sb := 1340) (as := [.ref b, .int 0]) (rest := [.ref hm, .ref hm]) 22 d_LAW_law_19 rfl zo_LAW_cell ⟨(Nat.le_of_ble_eq_true rfl), (Nat.le_of_ble_eq_true rfl)⟩ ml_LAW_9 zs_LAW_cell.2 rfl rfl (Nat.le_of_ble_eq_true rfl) rfl (Nat.le_of_ble_eq_true rfl) (Or.inr rfl) (c_LAW_cell hln) ⟨by omega, by omega⟩ (fun r9 w9 h9 => ?_)
  obtain ⟨v9, rfl, hw9, hv9⟩ := h9
  rw [hw9]
  refine Ex.int hv9 ?_
  refine Ex.int hv ?_
  refine xt_callI (cb := 0) (sb := 0) [.int 5] [.ref hm] 25 d_LAW_law_22 rfl zo_MO_init ⟨(Nat.le_of_ble_eq_true rfl), (Nat.le_of_ble_eq_true rfl)⟩ m_LAW_20 zj_MO_init rfl rfl rfl rfl (Nat.le_of_ble_eq_true rfl) rfl (Nat.le_of_ble_eq_true rfl) (c_MO_init_5 (S := S0 5) w hm (fun ad => ad 0 = h) hlay) ⟨by omega, by omega⟩ (fun w2 hw2 => ?_)
  obtain ⟨ad, ha, hb, hw2⟩ := hw2
  rw [hw2]
  subst ha hb
  refine ex_astore_n 26 d_LAW_law_25 rfl (Nat.le_of_ble_eq_true rfl) ?_
  refine ex_iconst (v := 1) 27 d_LAW_law_26 rfl (by decide) ?_
  refine ex_istore_n 28 d_LAW_law_27 rfl (Nat.le_of_ble_eq_true rfl) ?_
  exact Ex.wk (law_loop (N := 5) hln ln 1 (S0 5) (rInL 5 (M0 5) 5) (by omega) (by omega) (JJ_start (by decide) (by decide))) (by repeat (first | exact xs_nil | refine xs_s ?_ | refine xs_n ?_))
end LWA
