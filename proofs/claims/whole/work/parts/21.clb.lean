section WK
variable {G : xC} {ad : Nat → Nat} {N : Nat} {S : sT}
set_option maxRecDepth 100000 in
set_option maxHeartbeats 4000000 in
theorem c_Clients_hear (q : Nat) (hq : q < 31) (a : Int32) : Ex G none mi_Clients_hear 0 0 0 (xEn mi_Clients_hear [.ref (ad 1), .int (nI q), .int a]) [] (LY G ad N S) (xV (fun w => w = LY G ad N (hearS S q a))) := by
  refine ex_aload_n (a := ad 1) 1 d_Clients_hear_0 rfl rfl ?_
  refine xl_getR 4 d_Clients_hear_1 rfl g_Clients_18 (kp0 (by decide)) sh_CL rfl ?_
  refine ex_iload_n (a := nI q) 5 d_Clients_hear_4 rfl rfl ?_
  refine ex_iload_n (a := a) 6 d_Clients_hear_5 rfl rfl ?_
  refine xl_iast 7 d_Clients_hear_6 rfl (kp0 (by decide)) sh_C4 rfl (by omega) (by omega) ?_
  refine ex_aload_n (a := ad 1) 8 d_Clients_hear_7 rfl rfl ?_
  refine xl_getR 11 d_Clients_hear_8 rfl g_Clients_21 (kp0 (by decide)) sh_CL rfl ?_
  refine ex_iload_n (a := nI q) 12 d_Clients_hear_11 rfl rfl ?_
  refine ex_dup2 13 d_Clients_hear_12 rfl rfl rfl ?_
  refine xl_iald 14 d_Clients_hear_13 rfl (kp0 (by decide)) sh_C5 rfl (by omega) (by omega) ?_
  refine ex_iconst (v := 1) 15 d_Clients_hear_14 rfl (by decide) ?_
  refine ex_iadd 16 d_Clients_hear_15 rfl ?_
  refine xl_iast 17 d_Clients_hear_16 rfl (kp0 (by decide)) sh_C5 rfl (by omega) (by omega) ?_
  refine ex_vret d_Clients_hear_17 rfl ⟨rfl, ?_⟩
  exact rfl
set_option maxRecDepth 100000 in
set_option maxHeartbeats 4000000 in
theorem c_Term_begin (i : Nat) (hi : i < N) (b : Int32) : Ex G none mi_Term_begin 0 0 0 (xEn mi_Term_begin [.ref (ad (pl i 4)), .int b]) [] (LY G ad N S) (xV (fun w => w = LY G ad N (beginL i b S 8))) := by
  have hloop0 : ∀ k, k ≤ 8 → Ex G none mi_Term_begin 0 0 12 [some (.ref (ad (pl i 4))), some (.int b), some (.int (nI (k + 1)))] [] (LY G ad N (beginL i b S k)) (xV (fun w => w = LY G ad N (beginL i b S 8))) := by
    refine loop_down 8 ?_ ?_
    · skip
      refine ex_iload_n (a := nI 9) 13 d_Term_begin_12 rfl rfl ?_
      refine ex_bipush (v := 8) 15 d_Term_begin_13 rfl (by decide) ?_
      refine ex_icmpgt 45 18 d_Term_begin_15 rfl rfl (fun _ => ?_) (fun h => absurd (xn_lt (xn_lit 8) rfl (by omega) (by omega) (by omega)) h)
      refine ex_vret d_Term_begin_45 rfl ⟨rfl, ?_⟩
      exact rfl
    · intro k hk ih
      refine ex_iload_n (a := nI (k + 1)) 13 d_Term_begin_12 rfl rfl ?_
      refine ex_bipush (v := 8) 15 d_Term_begin_13 rfl (by decide) ?_
      refine ex_icmpgt 45 18 d_Term_begin_15 rfl rfl (fun h => absurd h (xn_nlt (xn_lit 8) rfl (by omega) (by omega) (by omega))) (fun _ => ?_)
      refine ex_aload_n (a := ad (pl i 4)) 19 d_Term_begin_18 rfl rfl ?_
      refine xl_getR 22 d_Term_begin_19 rfl g_Term_9 (kpl hi (by decide)) (sh_Term hi) rfl ?_
      refine ex_iload_n (a := nI (k + 1)) 23 d_Term_begin_22 rfl rfl ?_
      refine ex_iconst (v := 0) 24 d_Term_begin_23 rfl (by decide) ?_
      refine xl_iast 25 d_Term_begin_24 rfl (kpl hi (by decide)) (sh_Assigned hi) rfl (by omega) (by omega) ?_
      refine ex_aload_n (a := ad (pl i 4)) 26 d_Term_begin_25 rfl rfl ?_
      refine xl_getR 29 d_Term_begin_26 rfl g_Term_15 (kpl hi (by decide)) (sh_Term hi) rfl ?_
      refine ex_iload_n (a := nI (k + 1)) 30 d_Term_begin_29 rfl rfl ?_
      refine ex_iconst (v := (-1)) 31 d_Term_begin_30 rfl (by decide) ?_
      refine xl_iast 32 d_Term_begin_31 rfl (kpl hi (by decide)) (sh_Fixed hi) rfl (by omega) (by omega) ?_
      refine ex_aload_n (a := ad (pl i 4)) 33 d_Term_begin_32 rfl rfl ?_
      refine xl_getR 36 d_Term_begin_33 rfl g_Term_18 (kpl hi (by decide)) (sh_Term hi) rfl ?_
      refine ex_iload_n (a := nI (k + 1)) 37 d_Term_begin_36 rfl rfl ?_
      refine ex_iconst (v := 0) 38 d_Term_begin_37 rfl (by decide) ?_
      refine xl_iast 39 d_Term_begin_38 rfl (kpl hi (by decide)) (sh_Voters hi) rfl (by omega) (by omega) ?_
      refine ex_iinc (a := nI (k + 1)) (v := nI (k + 2)) 42 d_Term_begin_39 rfl rfl (xn_inc rfl) ?_
      refine ex_goto 12 d_Term_begin_42 rfl ?_
      exact Ex.wk ih (by repeat (first | exact xs_nil | refine xs_s ?_ | refine xs_n ?_))
  refine ex_aload_n (a := ad (pl i 4)) 1 d_Term_begin_0 rfl rfl ?_
  refine ex_iload_n (a := b) 2 d_Term_begin_1 rfl rfl ?_
  refine xl_put 5 d_Term_begin_2 rfl p_Term_28 rfl rfl (kpl hi (by decide)) (sh_Term hi) rfl ?_
  refine ex_aload_n (a := ad (pl i 4)) 6 d_Term_begin_5 rfl rfl ?_
  refine ex_iconst (v := 0) 7 d_Term_begin_6 rfl (by decide) ?_
  refine xl_put 10 d_Term_begin_7 rfl p_Term_31 rfl rfl (kpl hi (by decide)) (sh_Term hi) rfl ?_
  refine ex_iconst (v := 1) 11 d_Term_begin_10 rfl (by decide) ?_
  refine ex_istore_n 12 d_Term_begin_11 rfl (Nat.le_of_ble_eq_true rfl) ?_
  exact Ex.wk (hloop0 0 (Nat.zero_le _)) (by repeat (first | exact xs_nil | refine xs_s ?_ | refine xs_n ?_))
set_option maxRecDepth 100000 in
set_option maxHeartbeats 4000000 in
theorem c_Term_end (i : Nat) (hi : i < N) : Ex G none mi_Term_end 0 0 0 (xEn mi_Term_end [.ref (ad (pl i 4))]) [] (LY G ad N S) (xV (fun w => w = LY G ad N (endS i S))) := by
  refine ex_aload_n (a := ad (pl i 4)) 1 d_Term_end_0 rfl rfl ?_
  refine ex_iconst (v := 0) 2 d_Term_end_1 rfl (by decide) ?_
  refine xl_put 5 d_Term_end_2 rfl p_Term_28 rfl rfl (kpl hi (by decide)) (sh_Term hi) rfl ?_
  refine ex_aload_n (a := ad (pl i 4)) 6 d_Term_end_5 rfl rfl ?_
  refine ex_iconst (v := 0) 7 d_Term_end_6 rfl (by decide) ?_
  refine xl_put 10 d_Term_end_7 rfl p_Term_31 rfl rfl (kpl hi (by decide)) (sh_Term hi) rfl ?_
  refine ex_vret d_Term_end_10 rfl ⟨rfl, ?_⟩
  exact rfl
set_option maxRecDepth 100000 in
set_option maxHeartbeats 4000000 in
theorem c_Term_isOn (i : Nat) (hi : i < N) : Ex G none mi_Term_isOn 0 0 0 (xEn mi_Term_isOn [.ref (ad (pl i 4))]) [] (LY G ad N S) (xI (fun v w => w = LY G ad N S ∧ v = zb (¬ S (pl i 4) 5 = 0))) := by
  refine ex_aload_n (a := ad (pl i 4)) 1 d_Term_isOn_0 rfl rfl ?_
  refine xl_get 4 d_Term_isOn_1 rfl g_Term_28 (kpl hi (by decide)) (sh_Term hi) rfl ?_
  refine ex_ifeq 11 7 d_Term_isOn_4 rfl rfl (fun h1 => ?_) (fun h1 => ?_)
  · refine ex_iconst (v := 0) 12 d_Term_isOn_11 rfl (by decide) ?_
    refine ex_zret d_Term_isOn_12 rfl rfl ⟨_, rfl, ?_⟩
    refine ⟨rfl, ?_⟩
    unfold zb; split <;> first | rfl | (exfalso; simp only [Int32.lt_iff_toInt_lt, Int32.le_iff_toInt_le, ← Int32.toInt_inj] at *; omega)
  · refine ex_iconst (v := 1) 8 d_Term_isOn_7 rfl (by decide) ?_
    refine ex_goto 12 d_Term_isOn_8 rfl ?_
    refine ex_zret d_Term_isOn_12 rfl rfl ⟨_, rfl, ?_⟩
    refine ⟨rfl, ?_⟩
    unfold zb; split <;> first | rfl | (exfalso; simp only [Int32.lt_iff_toInt_lt, Int32.le_iff_toInt_le, ← Int32.toInt_inj] at *; omega)
set_option maxRecDepth 100000 in
set_option maxHeartbeats 4000000 in
theorem c_Term_isMajority (i : Nat) (hi : i < N) (a : Int32) : Ex G none mi_Term_isMajority 0 0 0 (xEn mi_Term_isMajority [.ref (ad (pl i 4)), .int a]) [] (LY G ad N S) (xI (fun v w => w = LY G ad N S ∧ v = zb (S (pl i 4) 0 < 2 * a))) := by
  refine ex_iconst (v := 2) 1 d_Term_isMajority_0 rfl (by decide) ?_
  refine ex_iload_n (a := a) 2 d_Term_isMajority_1 rfl rfl ?_
  refine ex_imul 3 d_Term_isMajority_2 rfl ?_
  refine ex_aload_n (a := ad (pl i 4)) 4 d_Term_isMajority_3 rfl rfl ?_
  refine xl_get 7 d_Term_isMajority_4 rfl g_Term_21 (kpl hi (by decide)) (sh_Term hi) rfl ?_
  refine ex_icmple 14 10 d_Term_isMajority_7 rfl rfl (fun h1 => ?_) (fun h1 => ?_)
  · refine ex_iconst (v := 0) 15 d_Term_isMajority_14 rfl (by decide) ?_
    refine ex_zret d_Term_isMajority_15 rfl rfl ⟨_, rfl, ?_⟩
    refine ⟨rfl, ?_⟩
    unfold zb; split <;> first | rfl | (exfalso; simp only [Int32.lt_iff_toInt_lt, Int32.le_iff_toInt_le, ← Int32.toInt_inj] at *; omega)
  · refine ex_iconst (v := 1) 11 d_Term_isMajority_10 rfl (by decide) ?_
    refine ex_goto 15 d_Term_isMajority_11 rfl ?_
    refine ex_zret d_Term_isMajority_15 rfl rfl ⟨_, rfl, ?_⟩
    refine ⟨rfl, ?_⟩
    unfold zb; split <;> first | rfl | (exfalso; simp only [Int32.lt_iff_toInt_lt, Int32.le_iff_toInt_le, ← Int32.toInt_inj] at *; omega)
set_option maxRecDepth 100000 in
set_option maxHeartbeats 4000000 in
theorem c_Clients_addRequest (a b : Int32) (q : Nat) (hq : S 1 4 = nI q) (hq30 : q < 30) : Ex G none mi_Clients_addRequest 0 0 0 (xEn mi_Clients_addRequest [.ref (ad 1), .int a, .int b]) [] (LY G ad N S) (xI (fun v w => w = LY G ad N (addR S q a b) ∧ v = nI (q + 1))) := by
  refine ex_aload_n (a := ad 1) 1 d_Clients_addRequest_0 rfl rfl ?_
  refine ex_dup 2 d_Clients_addRequest_1 rfl rfl ?_
  refine xl_get 5 d_Clients_addRequest_2 rfl g_Clients_24 (kp0 (by decide)) sh_CL rfl ?_
  refine ex_iconst (v := 1) 6 d_Clients_addRequest_5 rfl (by decide) ?_
  refine ex_iaddN (q + 1) 7 d_Clients_addRequest_6 rfl hq (xn_lit 1) (by omega) ?_
  refine xl_put 10 d_Clients_addRequest_7 rfl p_Clients_24 rfl rfl (kp0 (by decide)) sh_CL rfl ?_
  refine ex_aload_n (a := ad 1) 11 d_Clients_addRequest_10 rfl rfl ?_
  refine xl_getR 14 d_Clients_addRequest_11 rfl g_Clients_9 (kp0 (by decide)) sh_CL rfl ?_
  refine ex_aload_n (a := ad 1) 15 d_Clients_addRequest_14 rfl rfl ?_
  refine xl_get 18 d_Clients_addRequest_15 rfl g_Clients_24 (kp0 (by decide)) sh_CL rfl ?_
  refine ex_iload_n (a := a) 19 d_Clients_addRequest_18 rfl rfl ?_
  refine xl_iast 20 d_Clients_addRequest_19 rfl (kp0 (by decide)) sh_C2 rfl (by omega) (by omega) ?_
  refine ex_aload_n (a := ad 1) 21 d_Clients_addRequest_20 rfl rfl ?_
  refine xl_getR 24 d_Clients_addRequest_21 rfl g_Clients_15 (kp0 (by decide)) sh_CL rfl ?_
  refine ex_aload_n (a := ad 1) 25 d_Clients_addRequest_24 rfl rfl ?_
  refine xl_get 28 d_Clients_addRequest_25 rfl g_Clients_24 (kp0 (by decide)) sh_CL rfl ?_
  refine ex_iload_n (a := b) 29 d_Clients_addRequest_28 rfl rfl ?_
  refine xl_iast 30 d_Clients_addRequest_29 rfl (kp0 (by decide)) sh_C3 rfl (by omega) (by omega) ?_
  refine ex_aload_n (a := ad 1) 31 d_Clients_addRequest_30 rfl rfl ?_
  refine xl_get 34 d_Clients_addRequest_31 rfl g_Clients_24 (kp0 (by decide)) sh_CL rfl ?_
  refine ex_iret d_Clients_addRequest_34 rfl ⟨_, rfl, ?_⟩
  exact ⟨rfl, rfl⟩
set_option maxRecDepth 100000 in
set_option maxHeartbeats 4000000 in
theorem c_Term_hasMajority (i : Nat) (hi : i < N) : Ex G none mi_Term_hasMajority 0 0 0 (xEn mi_Term_hasMajority [.ref (ad (pl i 4))]) [] (LY G ad N S) (xI (fun v w => w = LY G ad N S ∧ v = zb (hasM i S))) := by
  refine ex_aload_n (a := ad (pl i 4)) 1 d_Term_hasMajority_0 rfl rfl ?_
  refine ex_aload_n (a := ad (pl i 4)) 2 d_Term_hasMajority_1 rfl rfl ?_
  refine xl_get 5 d_Term_hasMajority_2 rfl g_Term_31 (kpl hi (by decide)) (sh_Term hi) rfl ?_
  refine xl_callSi [.int (S (pl i 4) 6)] [.ref (ad (pl i 4))] 8 d_Term_hasMajority_5 rfl zs_Integer_bitCount ⟨(Nat.le_of_ble_eq_true rfl), (Nat.le_of_ble_eq_true rfl)⟩ m_Term_34 rfl rfl (Nat.le_of_ble_eq_true rfl) rfl (Nat.le_of_ble_eq_true rfl) (c_Integer_bitCount (G := G) (ws := LY G ad N S) (S (pl i 4) 6)) (fun vv ww q1 => ?_)
  rw [q1.1, q1.2]
  refine xl_callVi [.int ((bcF (S (pl i 4) 6)))] [] 11 d_Term_hasMajority_8 rfl zv_Term_isMajority ⟨(Nat.le_of_ble_eq_true rfl), (Nat.le_of_ble_eq_true rfl)⟩ m_Term_40 (kpl hi (by decide)) (sh_Term hi) rfl rfl (Nat.le_of_ble_eq_true rfl) rfl (Nat.le_of_ble_eq_true rfl) (c_Term_isMajority (S := S) i hi (bcF (S (pl i 4) 6))) (fun vv ww q2 => ?_)
  rw [q2.1, q2.2]
  by_cases h3 : S (pl i 4) 0 < (2 : Int32) * (bcF (S (pl i 4) 6))
  · refine Ex.int (zb_t h3) ?_
    refine ex_zret d_Term_hasMajority_11 rfl rfl ⟨_, rfl, ?_⟩
    exact ⟨rfl, (Eq.symm (zb_t h3))⟩
  · refine Ex.int (zb_f h3) ?_
    refine ex_zret d_Term_hasMajority_11 rfl rfl ⟨_, rfl, ?_⟩
    exact ⟨rfl, (Eq.symm (zb_f h3))⟩
set_option maxRecDepth 100000 in
set_option maxHeartbeats 4000000 in
theorem c_Term_addPromiser (i a : Nat) (hi : i < N) (ha : a < N) (hN : N ≤ 5) : Ex G none mi_Term_addPromiser 0 0 0 (xEn mi_Term_addPromiser [.ref (ad (pl i 4)), .int (nI a), .ref (ad (pl a 3))]) [] (LY G ad N S) (xV (fun w => w = LY G ad N (addPL i a S 8))) := by
  have hloop0 : ∀ k, k ≤ 8 → Ex G none mi_Term_addPromiser 0 0 14 [some (.ref (ad (pl i 4))), some (.int (nI a)), some (.ref (ad (pl a 3))), some (.int (nI (k + 1)))] [] (LY G ad N (addPL i a S k)) (xV (fun w => w = LY G ad N (addPL i a S 8))) := by
    refine loop_down 8 ?_ ?_
    · skip
      refine ex_iload_n (a := nI 9) 15 d_Term_addPromiser_14 rfl rfl ?_
      refine ex_bipush (v := 8) 17 d_Term_addPromiser_15 rfl (by decide) ?_
      refine ex_icmpgt 40 20 d_Term_addPromiser_17 rfl rfl (fun _ => ?_) (fun h => absurd (xn_lt (xn_lit 8) rfl (by omega) (by omega) (by omega)) h)
      refine ex_vret d_Term_addPromiser_40 rfl ⟨rfl, ?_⟩
      exact rfl
    · intro k hk ih
      refine ex_iload_n (a := nI (k + 1)) 15 d_Term_addPromiser_14 rfl rfl ?_
      refine ex_bipush (v := 8) 17 d_Term_addPromiser_15 rfl (by decide) ?_
      refine ex_icmpgt 40 20 d_Term_addPromiser_17 rfl rfl (fun h => absurd h (xn_nlt (xn_lit 8) rfl (by omega) (by omega) (by omega))) (fun _ => ?_)
      refine ex_aload_n (a := ad (pl i 4)) 21 d_Term_addPromiser_20 rfl rfl ?_
      refine xl_getR 24 d_Term_addPromiser_21 rfl g_Term_25 (kpl hi (by decide)) (sh_Term hi) rfl ?_
      refine ex_iload_n (a := nI a) 25 d_Term_addPromiser_24 rfl rfl ?_
      refine ex_bipush (v := 9) 27 d_Term_addPromiser_25 rfl (by decide) ?_
      refine ex_imulN (9 * a) 28 d_Term_addPromiser_27 rfl rfl (xn_lit 9) (by omega) ?_
      refine ex_iload_n (a := nI (k + 1)) 29 d_Term_addPromiser_28 rfl rfl ?_
      refine ex_iaddN (9 * a + k + 1) 30 d_Term_addPromiser_29 rfl rfl rfl (by omega) ?_
      refine ex_aload_n (a := ad (pl a 3)) 31 d_Term_addPromiser_30 rfl rfl ?_
      refine ex_iload_n (a := nI (k + 1)) 32 d_Term_addPromiser_31 rfl rfl ?_
      refine xl_iald 33 d_Term_addPromiser_32 rfl (kpl ha (by decide)) (sh_Nslots ha) rfl (by omega) (by omega) ?_
      refine xl_iast 34 d_Term_addPromiser_33 rfl (kpl hi (by decide)) (sh_Told hi) rfl (by omega) (by omega) ?_
      refine ex_iinc (a := nI (k + 1)) (v := nI (k + 2)) 37 d_Term_addPromiser_34 rfl rfl (xn_inc rfl) ?_
      refine ex_goto 14 d_Term_addPromiser_37 rfl ?_
      exact Ex.wk ih (by repeat (first | exact xs_nil | refine xs_s ?_ | refine xs_n ?_))
  refine ex_aload_n (a := ad (pl i 4)) 1 d_Term_addPromiser_0 rfl rfl ?_
  refine ex_dup 2 d_Term_addPromiser_1 rfl rfl ?_
  refine xl_get 5 d_Term_addPromiser_2 rfl g_Term_31 (kpl hi (by decide)) (sh_Term hi) rfl ?_
  refine ex_iconst (v := 1) 6 d_Term_addPromiser_5 rfl (by decide) ?_
  refine ex_iload_n (a := nI a) 7 d_Term_addPromiser_6 rfl rfl ?_
  refine ex_ishl 8 d_Term_addPromiser_7 rfl ?_
  refine ex_ior 9 d_Term_addPromiser_8 rfl ?_
  refine xl_put 12 d_Term_addPromiser_9 rfl p_Term_31 rfl rfl (kpl hi (by decide)) (sh_Term hi) rfl ?_
  refine ex_iconst (v := 1) 13 d_Term_addPromiser_12 rfl (by decide) ?_
  refine ex_istore_n 14 d_Term_addPromiser_13 rfl (Nat.le_of_ble_eq_true rfl) ?_
  exact Ex.wk (hloop0 0 (Nat.zero_le _)) (by repeat (first | exact xs_nil | refine xs_s ?_ | refine xs_n ?_))
set_option maxRecDepth 100000 in
set_option maxHeartbeats 4000000 in
theorem c_Term_planOf (i s : Nat) (hi : i < N) (hs : s < 9) (hN : N ≤ 5) (hn : S (pl i 4) 0 = nI N) : Ex G none mi_Term_planOf 0 0 0 (xEn mi_Term_planOf [.ref (ad (pl i 4)), .int (nI s)]) [] (LY G ad N S) (xI (fun v w => w = LY G ad N S ∧ v = planF N i s S)) := by
  have hloop0 : ∀ k, k ≤ N → Ex G none mi_Term_planOf 0 0 10 [some (.ref (ad (pl i 4))), some (.int (nI s)), some (.int ((plL i s S k).1)), some (.int ((plL i s S k).2.1)), some (.int ((plL i s S k).2.2)), some (.int (nI k)), none, none] [] (LY G ad N S) (xI (fun v w => w = LY G ad N S ∧ v = planF N i s S)) := by
    refine loop_down N ?_ ?_
    · skip
      refine ex_iload (a := nI N) 12 d_Term_planOf_10 rfl rfl ?_
      refine ex_aload_n (a := ad (pl i 4)) 13 d_Term_planOf_12 rfl rfl ?_
      refine xl_get 16 d_Term_planOf_13 rfl g_Term_21 (kpl hi (by decide)) (sh_Term hi) rfl ?_
      refine ex_icmpge 100 19 d_Term_planOf_16 rfl rfl (fun _ => ?_) (fun h => absurd (xn_le hn rfl (by omega) (by omega) (by omega)) h)
      refine ex_aload_n (a := ad (pl i 4)) 101 d_Term_planOf_100 rfl rfl ?_
      refine ex_iload_n (a := (plL i s S N).2.1) 102 d_Term_planOf_101 rfl rfl ?_
      refine xl_callVi [.int ((plL i s S N).2.1)] [] 105 d_Term_planOf_102 rfl zv_Term_isMajority ⟨(Nat.le_of_ble_eq_true rfl), (Nat.le_of_ble_eq_true rfl)⟩ m_Term_40 (kpl hi (by decide)) (sh_Term hi) rfl rfl (Nat.le_of_ble_eq_true rfl) rfl (Nat.le_of_ble_eq_true rfl) (c_Term_isMajority (S := S) i hi ((plL i s S N).2.1)) (fun vv ww q1 => ?_)
      rw [q1.1, q1.2]
      by_cases h2 : S (pl i 4) 0 < (2 : Int32) * ((plL i s S N).2.1)
      · refine Ex.int (zb_t h2) ?_
        refine ex_ifne 120 108 d_Term_planOf_105 rfl rfl (fun _ => ?_) (fun h => absurd h (by decide))
        refine ex_iload_n (a := (plL i s S N).1) 121 d_Term_planOf_120 rfl rfl ?_
        refine xl_callSi [.int ((plL i s S N).1)] [] 124 d_Term_planOf_121 rfl zs_SlotState_isWhole ⟨(Nat.le_of_ble_eq_true rfl), (Nat.le_of_ble_eq_true rfl)⟩ m_Term_58 rfl rfl (Nat.le_of_ble_eq_true rfl) rfl (Nat.le_of_ble_eq_true rfl) (c_SlotState_isWhole (S := S) ((plL i s S N).1)) (fun vv ww q3 => ?_)
        rw [q3.1, q3.2]
        by_cases h4 : 0 < ((plL i s S N).1)
        · refine Ex.int (zb_t h4) ?_
          refine ex_ifeq 134 127 d_Term_planOf_124 rfl rfl (fun h => absurd h (by decide)) (fun _ => ?_)
          refine ex_iload_n (a := (plL i s S N).1) 128 d_Term_planOf_127 rfl rfl ?_
          refine xl_callSi [.int ((plL i s S N).1)] [] 131 d_Term_planOf_128 rfl zs_SlotState_commandOf ⟨(Nat.le_of_ble_eq_true rfl), (Nat.le_of_ble_eq_true rfl)⟩ m_Term_61 rfl rfl (Nat.le_of_ble_eq_true rfl) rfl (Nat.le_of_ble_eq_true rfl) (c_SlotState_commandOf (S := S) ((plL i s S N).1)) (fun vv ww q5 => ?_)
          rw [q5.1, q5.2]
          refine ex_goto 136 d_Term_planOf_131 rfl ?_
          refine ex_iret d_Term_planOf_136 rfl ⟨_, rfl, ?_⟩
          refine ⟨rfl, ?_⟩
          unfold planF
          rw [if_neg (fun z => z.1 h2), if_pos h4]
        · refine Ex.int (zb_f h4) ?_
          refine ex_ifeq 134 127 d_Term_planOf_124 rfl rfl (fun _ => ?_) (fun h => absurd (by decide) h)
          refine ex_bipush (v := (-3)) 136 d_Term_planOf_134 rfl (by decide) ?_
          refine ex_iret d_Term_planOf_136 rfl ⟨_, rfl, ?_⟩
          refine ⟨rfl, ?_⟩
          unfold planF
          rw [if_neg (fun z => z.1 h2), if_neg h4]
      · refine Ex.int (zb_f h2) ?_
        refine ex_ifne 120 108 d_Term_planOf_105 rfl rfl (fun h => absurd (by decide) h) (fun _ => ?_)
        refine ex_iload (a := (plL i s S N).2.2) 110 d_Term_planOf_108 rfl rfl ?_
        refine ex_iload_n (a := (plL i s S N).1) 111 d_Term_planOf_110 rfl rfl ?_
        refine xl_callSi [.int ((plL i s S N).1)] [.int ((plL i s S N).2.2)] 114 d_Term_planOf_111 rfl zs_SlotState_ballotOf ⟨(Nat.le_of_ble_eq_true rfl), (Nat.le_of_ble_eq_true rfl)⟩ m_Term_46 rfl rfl (Nat.le_of_ble_eq_true rfl) rfl (Nat.le_of_ble_eq_true rfl) (c_SlotState_ballotOf (S := S) ((plL i s S N).1)) (fun vv ww q6 => ?_)
        rw [q6.1, q6.2]
        refine ex_icmple 120 117 d_Term_planOf_114 rfl rfl (fun h7 => ?_) (fun h7 => ?_)
        · refine ex_iload_n (a := (plL i s S N).1) 121 d_Term_planOf_120 rfl rfl ?_
          refine xl_callSi [.int ((plL i s S N).1)] [] 124 d_Term_planOf_121 rfl zs_SlotState_isWhole ⟨(Nat.le_of_ble_eq_true rfl), (Nat.le_of_ble_eq_true rfl)⟩ m_Term_58 rfl rfl (Nat.le_of_ble_eq_true rfl) rfl (Nat.le_of_ble_eq_true rfl) (c_SlotState_isWhole (S := S) ((plL i s S N).1)) (fun vv ww q8 => ?_)
          rw [q8.1, q8.2]
          by_cases h9 : 0 < ((plL i s S N).1)
          · refine Ex.int (zb_t h9) ?_
            refine ex_ifeq 134 127 d_Term_planOf_124 rfl rfl (fun h => absurd h (by decide)) (fun _ => ?_)
            refine ex_iload_n (a := (plL i s S N).1) 128 d_Term_planOf_127 rfl rfl ?_
            refine xl_callSi [.int ((plL i s S N).1)] [] 131 d_Term_planOf_128 rfl zs_SlotState_commandOf ⟨(Nat.le_of_ble_eq_true rfl), (Nat.le_of_ble_eq_true rfl)⟩ m_Term_61 rfl rfl (Nat.le_of_ble_eq_true rfl) rfl (Nat.le_of_ble_eq_true rfl) (c_SlotState_commandOf (S := S) ((plL i s S N).1)) (fun vv ww q10 => ?_)
            rw [q10.1, q10.2]
            refine ex_goto 136 d_Term_planOf_131 rfl ?_
            refine ex_iret d_Term_planOf_136 rfl ⟨_, rfl, ?_⟩
            refine ⟨rfl, ?_⟩
            unfold planF
            rw [if_neg (fun z => absurd z.2 (Int32.not_lt.mpr h7)), if_pos h9]
          · refine Ex.int (zb_f h9) ?_
            refine ex_ifeq 134 127 d_Term_planOf_124 rfl rfl (fun _ => ?_) (fun h => absurd (by decide) h)
            refine ex_bipush (v := (-3)) 136 d_Term_planOf_134 rfl (by decide) ?_
            refine ex_iret d_Term_planOf_136 rfl ⟨_, rfl, ?_⟩
            refine ⟨rfl, ?_⟩
            unfold planF
            rw [if_neg (fun z => absurd z.2 (Int32.not_lt.mpr h7)), if_neg h9]
        · refine ex_bipush (v := (-2)) 119 d_Term_planOf_117 rfl (by decide) ?_
          refine ex_iret d_Term_planOf_119 rfl ⟨_, rfl, ?_⟩
          refine ⟨rfl, ?_⟩
          unfold planF
          rw [if_pos ⟨h2, Int32.not_le.mp h7⟩]
    · intro k hk ih
      refine ex_iload (a := nI k) 12 d_Term_planOf_10 rfl rfl ?_
      refine ex_aload_n (a := ad (pl i 4)) 13 d_Term_planOf_12 rfl rfl ?_
      refine xl_get 16 d_Term_planOf_13 rfl g_Term_21 (kpl hi (by decide)) (sh_Term hi) rfl ?_
      refine ex_icmpge 100 19 d_Term_planOf_16 rfl rfl (fun h => absurd h (xn_nle hn rfl (by omega) (by omega) (by omega))) (fun _ => ?_)
      refine ex_aload_n (a := ad (pl i 4)) 20 d_Term_planOf_19 rfl rfl ?_
      refine xl_get 23 d_Term_planOf_20 rfl g_Term_31 (kpl hi (by decide)) (sh_Term hi) rfl ?_
      refine ex_iload (a := nI k) 25 d_Term_planOf_23 rfl rfl ?_
      refine ex_ishr 26 d_Term_planOf_25 rfl ?_
      refine ex_iconst (v := 1) 27 d_Term_planOf_26 rfl (by decide) ?_
      refine ex_iand 28 d_Term_planOf_27 rfl ?_
      refine ex_ifne 34 31 d_Term_planOf_28 rfl rfl (fun h11 => ?_) (fun h11 => ?_)
      · refine ex_aload_n (a := ad (pl i 4)) 35 d_Term_planOf_34 rfl rfl ?_
        refine xl_getR 38 d_Term_planOf_35 rfl g_Term_25 (kpl hi (by decide)) (sh_Term hi) rfl ?_
        refine ex_iload (a := nI k) 40 d_Term_planOf_38 rfl rfl ?_
        refine ex_bipush (v := 9) 42 d_Term_planOf_40 rfl (by decide) ?_
        refine ex_imulN (9 * k) 43 d_Term_planOf_42 rfl rfl (xn_lit 9) (by omega) ?_
        refine ex_iload_n (a := nI s) 44 d_Term_planOf_43 rfl rfl ?_
        refine ex_iaddN (9 * k + s) 45 d_Term_planOf_44 rfl rfl rfl (by omega) ?_
        refine xl_iald 46 d_Term_planOf_45 rfl (kpl hi (by decide)) (sh_Told hi) rfl (by omega) (by omega) ?_
        refine ex_istore 48 d_Term_planOf_46 rfl (Nat.le_of_ble_eq_true rfl) ?_
        refine ex_iload (a := S (pl i 8) (9 * k + s)) 50 d_Term_planOf_48 rfl rfl ?_
        refine xl_callSi [.int (S (pl i 8) (9 * k + s))] [] 53 d_Term_planOf_50 rfl zs_SlotState_ballotOf ⟨(Nat.le_of_ble_eq_true rfl), (Nat.le_of_ble_eq_true rfl)⟩ m_Term_46 rfl rfl (Nat.le_of_ble_eq_true rfl) rfl (Nat.le_of_ble_eq_true rfl) (c_SlotState_ballotOf (S := S) (S (pl i 8) (9 * k + s))) (fun vv ww q12 => ?_)
        rw [q12.1, q12.2]
        refine ex_istore 55 d_Term_planOf_53 rfl (Nat.le_of_ble_eq_true rfl) ?_
        refine ex_iload (a := S (pl i 8) (9 * k + s)) 57 d_Term_planOf_55 rfl rfl ?_
        refine xl_callSi [.int (S (pl i 8) (9 * k + s))] [] 60 d_Term_planOf_57 rfl zs_SlotState_isDamaged ⟨(Nat.le_of_ble_eq_true rfl), (Nat.le_of_ble_eq_true rfl)⟩ m_Term_49 rfl rfl (Nat.le_of_ble_eq_true rfl) rfl (Nat.le_of_ble_eq_true rfl) (c_SlotState_isDamaged (S := S) (S (pl i 8) (9 * k + s))) (fun vv ww q13 => ?_)
        rw [q13.1, q13.2]
        by_cases h14 : (S (pl i 8) (9 * k + s)) < 0
        · refine Ex.int (zb_t h14) ?_
          refine ex_ifeq 75 63 d_Term_planOf_60 rfl rfl (fun h => absurd h (by decide)) (fun _ => ?_)
          refine ex_iload (a := (plL i s S k).2.2) 65 d_Term_planOf_63 rfl rfl ?_
          refine ex_iload (a := (blOf (S (pl i 8) (9 * k + s)))) 67 d_Term_planOf_65 rfl rfl ?_
          refine ex_mmax (a := (plL i s S k).2.2) (b := (blOf (S (pl i 8) (9 * k + s)))) 70 d_Term_planOf_67 rfl mm_Term_52 ⟨(Nat.le_of_ble_eq_true rfl), (Nat.le_of_ble_eq_true rfl)⟩ ?_
          refine ex_istore 72 d_Term_planOf_70 rfl (Nat.le_of_ble_eq_true rfl) ?_
          refine ex_goto 94 d_Term_planOf_72 rfl ?_
          refine ex_iinc (a := nI k) (v := nI (k + 1)) 97 d_Term_planOf_94 rfl rfl (xn_inc rfl) ?_
          refine ex_goto 10 d_Term_planOf_97 rfl ?_
          have e9 : plL i s S (k + 1) = ((plL i s S k).1, (plL i s S k).2.1, (mxF ((plL i s S k).2.2) (blOf (S (pl i 8) (9 * k + s))))) := by
            show plStep _ _ _ = _
            unfold plStep
            rw [if_neg h11, if_pos h14]
          rw [e9] at ih
          exact Ex.wk ih (by repeat (first | exact xs_nil | refine xs_s ?_ | refine xs_n ?_))
        · refine Ex.int (zb_f h14) ?_
          refine ex_ifeq 75 63 d_Term_planOf_60 rfl rfl (fun _ => ?_) (fun h => absurd (by decide) h)
          refine ex_iinc (a := (plL i s S k).2.1) (v := ((plL i s S k).2.1 + 1)) 78 d_Term_planOf_75 rfl rfl rfl ?_
          refine ex_iload (a := (blOf (S (pl i 8) (9 * k + s)))) 80 d_Term_planOf_78 rfl rfl ?_
          refine ex_iload_n (a := (plL i s S k).1) 81 d_Term_planOf_80 rfl rfl ?_
          refine xl_callSi [.int ((plL i s S k).1)] [.int ((blOf (S (pl i 8) (9 * k + s))))] 84 d_Term_planOf_81 rfl zs_SlotState_ballotOf ⟨(Nat.le_of_ble_eq_true rfl), (Nat.le_of_ble_eq_true rfl)⟩ m_Term_46 rfl rfl (Nat.le_of_ble_eq_true rfl) rfl (Nat.le_of_ble_eq_true rfl) (c_SlotState_ballotOf (S := S) ((plL i s S k).1)) (fun vv ww q15 => ?_)
          rw [q15.1, q15.2]
          refine ex_icmple 92 87 d_Term_planOf_84 rfl rfl (fun h16 => ?_) (fun h16 => ?_)
          · refine ex_iload_n (a := (plL i s S k).1) 93 d_Term_planOf_92 rfl rfl ?_
            refine ex_istore_n 94 d_Term_planOf_93 rfl (Nat.le_of_ble_eq_true rfl) ?_
            refine ex_iinc (a := nI k) (v := nI (k + 1)) 97 d_Term_planOf_94 rfl rfl (xn_inc rfl) ?_
            refine ex_goto 10 d_Term_planOf_97 rfl ?_
            have e9 : plL i s S (k + 1) = ((plL i s S k).1, ((plL i s S k).2.1 + 1), (plL i s S k).2.2) := by
              show plStep _ _ _ = _
              unfold plStep
              rw [if_neg h11, if_neg h14, if_neg (Int32.not_lt.mpr h16)]
            rw [e9] at ih
            exact Ex.wk ih (by repeat (first | exact xs_nil | refine xs_s ?_ | refine xs_n ?_))
          · refine ex_iload (a := S (pl i 8) (9 * k + s)) 89 d_Term_planOf_87 rfl rfl ?_
            refine ex_goto 93 d_Term_planOf_89 rfl ?_
            refine ex_istore_n 94 d_Term_planOf_93 rfl (Nat.le_of_ble_eq_true rfl) ?_
            refine ex_iinc (a := nI k) (v := nI (k + 1)) 97 d_Term_planOf_94 rfl rfl (xn_inc rfl) ?_
            refine ex_goto 10 d_Term_planOf_97 rfl ?_
            have e9 : plL i s S (k + 1) = (S (pl i 8) (9 * k + s), ((plL i s S k).2.1 + 1), (plL i s S k).2.2) := by
              show plStep _ _ _ = _
              unfold plStep
              rw [if_neg h11, if_neg h14, if_pos (Int32.not_le.mp h16)]
            rw [e9] at ih
            exact Ex.wk ih (by repeat (first | exact xs_nil | refine xs_s ?_ | refine xs_n ?_))
      · refine ex_goto 94 d_Term_planOf_31 rfl ?_
        refine ex_iinc (a := nI k) (v := nI (k + 1)) 97 d_Term_planOf_94 rfl rfl (xn_inc rfl) ?_
        refine ex_goto 10 d_Term_planOf_97 rfl ?_
        have e9 : plL i s S (k + 1) = ((plL i s S k).1, (plL i s S k).2.1, (plL i s S k).2.2) := by
          show plStep _ _ _ = _
          unfold plStep
          rw [if_pos h11]
        rw [e9] at ih
        exact Ex.wk ih (by repeat (first | exact xs_nil | refine xs_s ?_ | refine xs_n ?_))
  refine ex_iconst (v := 0) 1 d_Term_planOf_0 rfl (by decide) ?_
  refine ex_istore_n 2 d_Term_planOf_1 rfl (Nat.le_of_ble_eq_true rfl) ?_
  refine ex_iconst (v := 0) 3 d_Term_planOf_2 rfl (by decide) ?_
  refine ex_istore_n 4 d_Term_planOf_3 rfl (Nat.le_of_ble_eq_true rfl) ?_
  refine ex_iconst (v := 0) 5 d_Term_planOf_4 rfl (by decide) ?_
  refine ex_istore 7 d_Term_planOf_5 rfl (Nat.le_of_ble_eq_true rfl) ?_
  refine ex_iconst (v := 0) 8 d_Term_planOf_7 rfl (by decide) ?_
  refine ex_istore 10 d_Term_planOf_8 rfl (Nat.le_of_ble_eq_true rfl) ?_
  exact Ex.wk (hloop0 0 (Nat.zero_le _)) (by repeat (first | exact xs_nil | refine xs_s ?_ | refine xs_n ?_))
set_option maxRecDepth 100000 in
set_option maxHeartbeats 4000000 in
theorem c_Term_isUnused (i s : Nat) (hi : i < N) (hs : s < 9) (hN : N ≤ 5) (hn : S (pl i 4) 0 = nI N) : Ex G none mi_Term_isUnused 0 0 0 (xEn mi_Term_isUnused [.ref (ad (pl i 4)), .int (nI s)]) [] (LY G ad N S) (xI (fun v w => w = LY G ad N S ∧ v = zb (unusedF N i s S))) := by
  refine ex_aload_n (a := ad (pl i 4)) 1 d_Term_isUnused_0 rfl rfl ?_
  refine xl_getR 4 d_Term_isUnused_1 rfl g_Term_9 (kpl hi (by decide)) (sh_Term hi) rfl ?_
  refine ex_iload_n (a := nI s) 5 d_Term_isUnused_4 rfl rfl ?_
  refine xl_iald 6 d_Term_isUnused_5 rfl (kpl hi (by decide)) (sh_Assigned hi) rfl (by omega) (by omega) ?_
  refine ex_ifne 33 9 d_Term_isUnused_6 rfl rfl (fun h1 => ?_) (fun h1 => ?_)
  · refine ex_iconst (v := 0) 34 d_Term_isUnused_33 rfl (by decide) ?_
    refine ex_zret d_Term_isUnused_34 rfl rfl ⟨_, rfl, ?_⟩
    refine ⟨rfl, ?_⟩
    exact (Eq.symm (zb_f (fun z => h1 z.1)))
  · refine ex_aload_n (a := ad (pl i 4)) 10 d_Term_isUnused_9 rfl rfl ?_
    refine xl_getR 13 d_Term_isUnused_10 rfl g_Term_15 (kpl hi (by decide)) (sh_Term hi) rfl ?_
    refine ex_iload_n (a := nI s) 14 d_Term_isUnused_13 rfl rfl ?_
    refine xl_iald 15 d_Term_isUnused_14 rfl (kpl hi (by decide)) (sh_Fixed hi) rfl (by omega) (by omega) ?_
    refine ex_iconst (v := (-1)) 16 d_Term_isUnused_15 rfl (by decide) ?_
    refine ex_icmpne 33 19 d_Term_isUnused_16 rfl rfl (fun h2 => ?_) (fun h2 => ?_)
    · refine ex_iconst (v := 0) 34 d_Term_isUnused_33 rfl (by decide) ?_
      refine ex_zret d_Term_isUnused_34 rfl rfl ⟨_, rfl, ?_⟩
      refine ⟨rfl, ?_⟩
      exact (Eq.symm (zb_f (fun z => h2 z.2.1)))
    · refine ex_aload_n (a := ad (pl i 4)) 20 d_Term_isUnused_19 rfl rfl ?_
      refine ex_iload_n (a := nI s) 21 d_Term_isUnused_20 rfl rfl ?_
      refine xl_callVi [.int (nI s)] [] 24 d_Term_isUnused_21 rfl zv_Term_planOf ⟨(Nat.le_of_ble_eq_true rfl), (Nat.le_of_ble_eq_true rfl)⟩ m_Term_71 (kpl hi (by decide)) (sh_Term hi) rfl rfl (Nat.le_of_ble_eq_true rfl) rfl (Nat.le_of_ble_eq_true rfl) (c_Term_planOf (S := S) i (s) hi (by omega) hN hn) (fun vv ww q3 => ?_)
      rw [q3.1, q3.2]
      refine ex_bipush (v := (-3)) 26 d_Term_isUnused_24 rfl (by decide) ?_
      refine ex_icmpne 33 29 d_Term_isUnused_26 rfl rfl (fun h4 => ?_) (fun h4 => ?_)
      · refine ex_iconst (v := 0) 34 d_Term_isUnused_33 rfl (by decide) ?_
        refine ex_zret d_Term_isUnused_34 rfl rfl ⟨_, rfl, ?_⟩
        refine ⟨rfl, ?_⟩
        exact (Eq.symm (zb_f (fun z => h4 z.2.2)))
      · refine ex_iconst (v := 1) 30 d_Term_isUnused_29 rfl (by decide) ?_
        refine ex_goto 34 d_Term_isUnused_30 rfl ?_
        refine ex_zret d_Term_isUnused_34 rfl rfl ⟨_, rfl, ?_⟩
        refine ⟨rfl, ?_⟩
        exact (Eq.symm (zb_t ⟨h1, h2, h4⟩))
set_option maxRecDepth 100000 in
set_option maxHeartbeats 4000000 in
theorem c_Term_fix (i s : Nat) (hi : i < N) (hs : s < 9) (hN : N ≤ 5) (hn : S (pl i 4) 0 = nI N) : Ex G none mi_Term_fix 0 0 0 (xEn mi_Term_fix [.ref (ad (pl i 4)), .int (nI s)]) [] (LY G ad N S) (xI (fun v w => w = LY G ad N (fixS N i s S) ∧ v = zb (fixOk N i s S))) := by
  refine ex_aload_n (a := ad (pl i 4)) 1 d_Term_fix_0 rfl rfl ?_
  refine xl_getR 4 d_Term_fix_1 rfl g_Term_15 (kpl hi (by decide)) (sh_Term hi) rfl ?_
  refine ex_iload_n (a := nI s) 5 d_Term_fix_4 rfl rfl ?_
  refine xl_iald 6 d_Term_fix_5 rfl (kpl hi (by decide)) (sh_Fixed hi) rfl (by omega) (by omega) ?_
  refine ex_iconst (v := (-1)) 7 d_Term_fix_6 rfl (by decide) ?_
  refine ex_icmpeq 12 10 d_Term_fix_7 rfl rfl (fun h1 => ?_) (fun h1 => ?_)
  · refine ex_aload_n (a := ad (pl i 4)) 13 d_Term_fix_12 rfl rfl ?_
    refine ex_iload_n (a := nI s) 14 d_Term_fix_13 rfl rfl ?_
    refine xl_callVi [.int (nI s)] [] 17 d_Term_fix_14 rfl zv_Term_planOf ⟨(Nat.le_of_ble_eq_true rfl), (Nat.le_of_ble_eq_true rfl)⟩ m_Term_71 (kpl hi (by decide)) (sh_Term hi) rfl rfl (Nat.le_of_ble_eq_true rfl) rfl (Nat.le_of_ble_eq_true rfl) (c_Term_planOf (S := S) i (s) hi (by omega) hN hn) (fun vv ww q2 => ?_)
    rw [q2.1, q2.2]
    refine ex_istore_n 18 d_Term_fix_17 rfl (Nat.le_of_ble_eq_true rfl) ?_
    refine ex_iload_n (a := (planF N i (s) S)) 19 d_Term_fix_18 rfl rfl ?_
    refine ex_bipush (v := (-2)) 21 d_Term_fix_19 rfl (by decide) ?_
    refine ex_icmpne 26 24 d_Term_fix_21 rfl rfl (fun h3 => ?_) (fun h3 => ?_)
    · refine ex_aload_n (a := ad (pl i 4)) 27 d_Term_fix_26 rfl rfl ?_
      refine xl_getR 30 d_Term_fix_27 rfl g_Term_15 (kpl hi (by decide)) (sh_Term hi) rfl ?_
      refine ex_iload_n (a := nI s) 31 d_Term_fix_30 rfl rfl ?_
      refine ex_iload_n (a := (planF N i (s) S)) 32 d_Term_fix_31 rfl rfl ?_
      refine ex_bipush (v := (-3)) 34 d_Term_fix_32 rfl (by decide) ?_
      refine ex_icmpne 46 37 d_Term_fix_34 rfl rfl (fun h4 => ?_) (fun h4 => ?_)
      · refine ex_iload_n (a := (planF N i (s) S)) 47 d_Term_fix_46 rfl rfl ?_
        refine xl_iast 48 d_Term_fix_47 rfl (kpl hi (by decide)) (sh_Fixed hi) rfl (by omega) (by omega) ?_
        refine ex_iconst (v := 1) 49 d_Term_fix_48 rfl (by decide) ?_
        refine ex_zret d_Term_fix_49 rfl rfl ⟨_, rfl, ?_⟩
        refine ⟨?_, ?_⟩
        · unfold fixS; rw [if_neg (fun z => z h1), if_neg h3, if_neg h4]
        · exact (Eq.symm (zb_t (Or.inr h3)))
      · refine ex_aload_n (a := ad (pl i 4)) 38 d_Term_fix_37 rfl rfl ?_
        refine xl_getR 41 d_Term_fix_38 rfl g_Term_9 (kpl hi (by decide)) (sh_Term hi) rfl ?_
        refine ex_iload_n (a := nI s) 42 d_Term_fix_41 rfl rfl ?_
        refine xl_iald 43 d_Term_fix_42 rfl (kpl hi (by decide)) (sh_Assigned hi) rfl (by omega) (by omega) ?_
        refine ex_goto 47 d_Term_fix_43 rfl ?_
        refine xl_iast 48 d_Term_fix_47 rfl (kpl hi (by decide)) (sh_Fixed hi) rfl (by omega) (by omega) ?_
        refine ex_iconst (v := 1) 49 d_Term_fix_48 rfl (by decide) ?_
        refine ex_zret d_Term_fix_49 rfl rfl ⟨_, rfl, ?_⟩
        refine ⟨?_, ?_⟩
        · unfold fixS; rw [if_neg (fun z => z h1), if_neg h3, if_pos h4]
        · exact (Eq.symm (zb_t (Or.inr h3)))
    · refine ex_iconst (v := 0) 25 d_Term_fix_24 rfl (by decide) ?_
      refine ex_zret d_Term_fix_25 rfl rfl ⟨_, rfl, ?_⟩
      refine ⟨?_, ?_⟩
      · unfold fixS; rw [if_neg (fun z => z h1), if_pos h3]
      · exact (Eq.symm (zb_f (fun z => z.elim (fun y => y h1) (fun y => y h3))))
  · refine ex_iconst (v := 1) 11 d_Term_fix_10 rfl (by decide) ?_
    refine ex_zret d_Term_fix_11 rfl rfl ⟨_, rfl, ?_⟩
    refine ⟨?_, ?_⟩
    · unfold fixS; rw [if_pos h1]
    · exact (Eq.symm (zb_t (Or.inl h1)))
set_option maxRecDepth 100000 in
set_option maxHeartbeats 4000000 in
theorem c_Term_addVoter (i s a : Nat) (hi : i < N) (hs : s < 9) : Ex G none mi_Term_addVoter 0 0 0 (xEn mi_Term_addVoter [.ref (ad (pl i 4)), .int (nI s), .int (nI a)]) [] (LY G ad N S) (xI (fun v w => w = LY G ad N (addVS i s a S) ∧ v = zb (majF i (addVS i s a S) (bcF (addVS i s a S (pl i 7) s))))) := by
  refine ex_aload_n (a := ad (pl i 4)) 1 d_Term_addVoter_0 rfl rfl ?_
  refine xl_getR 4 d_Term_addVoter_1 rfl g_Term_18 (kpl hi (by decide)) (sh_Term hi) rfl ?_
  refine ex_iload_n (a := nI s) 5 d_Term_addVoter_4 rfl rfl ?_
  refine ex_dup2 6 d_Term_addVoter_5 rfl rfl rfl ?_
  refine xl_iald 7 d_Term_addVoter_6 rfl (kpl hi (by decide)) (sh_Voters hi) rfl (by omega) (by omega) ?_
  refine ex_iconst (v := 1) 8 d_Term_addVoter_7 rfl (by decide) ?_
  refine ex_iload_n (a := nI a) 9 d_Term_addVoter_8 rfl rfl ?_
  refine ex_ishl 10 d_Term_addVoter_9 rfl ?_
  refine ex_ior 11 d_Term_addVoter_10 rfl ?_
  refine xl_iast 12 d_Term_addVoter_11 rfl (kpl hi (by decide)) (sh_Voters hi) rfl (by omega) (by omega) ?_
  refine ex_aload_n (a := ad (pl i 4)) 13 d_Term_addVoter_12 rfl rfl ?_
  refine ex_aload_n (a := ad (pl i 4)) 14 d_Term_addVoter_13 rfl rfl ?_
  refine xl_getR 17 d_Term_addVoter_14 rfl g_Term_18 (kpl hi (by decide)) (sh_Term hi) rfl ?_
  refine ex_iload_n (a := nI s) 18 d_Term_addVoter_17 rfl rfl ?_
  refine xl_iald 19 d_Term_addVoter_18 rfl (kpl hi (by decide)) (sh_Voters hi) rfl (by omega) (by omega) ?_
  refine xl_callSi [.int ((u2 S (pl i 7) (s) ((S (pl i 7) s ||| (1 <<< (nI a &&& 31))))) (pl i 7) s)] [.ref (ad (pl i 4))] 22 d_Term_addVoter_19 rfl zs_Integer_bitCount ⟨(Nat.le_of_ble_eq_true rfl), (Nat.le_of_ble_eq_true rfl)⟩ m_Term_34 rfl rfl (Nat.le_of_ble_eq_true rfl) rfl (Nat.le_of_ble_eq_true rfl) (c_Integer_bitCount (G := G) (ws := LY G ad N (u2 S (pl i 7) (s) ((S (pl i 7) s ||| (1 <<< (nI a &&& 31)))))) ((u2 S (pl i 7) (s) ((S (pl i 7) s ||| (1 <<< (nI a &&& 31))))) (pl i 7) s)) (fun vv ww q1 => ?_)
  rw [q1.1, q1.2]
  refine xl_callVi [.int ((bcF ((u2 S (pl i 7) (s) ((S (pl i 7) s ||| (1 <<< (nI a &&& 31))))) (pl i 7) s)))] [] 25 d_Term_addVoter_22 rfl zv_Term_isMajority ⟨(Nat.le_of_ble_eq_true rfl), (Nat.le_of_ble_eq_true rfl)⟩ m_Term_40 (kpl hi (by decide)) (sh_Term hi) rfl rfl (Nat.le_of_ble_eq_true rfl) rfl (Nat.le_of_ble_eq_true rfl) (c_Term_isMajority (S := (u2 S (pl i 7) (s) ((S (pl i 7) s ||| (1 <<< (nI a &&& 31)))))) i hi (bcF ((u2 S (pl i 7) (s) ((S (pl i 7) s ||| (1 <<< (nI a &&& 31))))) (pl i 7) s))) (fun vv ww q2 => ?_)
  rw [q2.1, q2.2]
  by_cases h3 : (u2 S (pl i 7) (s) ((S (pl i 7) s ||| (1 <<< (nI a &&& 31))))) (pl i 4) 0 < (2 : Int32) * (bcF ((u2 S (pl i 7) (s) ((S (pl i 7) s ||| (1 <<< (nI a &&& 31))))) (pl i 7) s))
  · refine Ex.int (zb_t h3) ?_
    refine ex_zret d_Term_addVoter_25 rfl rfl ⟨_, rfl, ?_⟩
    exact ⟨rfl, (Eq.symm (zb_t h3))⟩
  · refine Ex.int (zb_f h3) ?_
    refine ex_zret d_Term_addVoter_25 rfl rfl ⟨_, rfl, ?_⟩
    exact ⟨rfl, (Eq.symm (zb_f h3))⟩
set_option maxRecDepth 100000 in
set_option maxHeartbeats 4000000 in
theorem c_Term_firstUnusedSlot (i : Nat) (hi : i < N) (hN : N ≤ 5) (hn : S (pl i 4) 0 = nI N) : Ex G none mi_Term_firstUnusedSlot 0 0 0 (xEn mi_Term_firstUnusedSlot [.ref (ad (pl i 4))]) [] (LY G ad N S) (xI (fun v w => w = LY G ad N S ∧ v = nI (lowF N i S))) := by
  have hloop : ∀ k, k ≤ 8 → ∀ r, Ex G none mi_Term_firstUnusedSlot 0 0 5 [some (.ref (ad (pl i 4))), some (.int (nI r)), some (.int (nI k))] [] (LY G ad N S) (xI (fun v w => w = LY G ad N S ∧ v = nI (lowL N i S k r))) := by
    intro k
    induction k with
    | zero =>
      intro _ r
      skip
      refine ex_iload_n (a := nI 0) 6 d_Term_firstUnusedSlot_5 rfl rfl ?_
      refine ex_iconst (v := 1) 7 d_Term_firstUnusedSlot_6 rfl (by decide) ?_
      refine ex_icmplt 26 10 d_Term_firstUnusedSlot_7 rfl rfl (fun _ => ?_) (fun h => absurd (xn_lt rfl (xn_lit 1) (by omega) (by omega) (by omega)) h)
      refine ex_iload_n (a := nI r) 27 d_Term_firstUnusedSlot_26 rfl rfl ?_
      refine ex_iret d_Term_firstUnusedSlot_27 rfl ⟨_, rfl, ?_⟩
      refine ⟨rfl, ?_⟩
      exact rfl
    | succ k ih =>
      intro hk r
      skip
      refine ex_iload_n (a := nI (k + 1)) 6 d_Term_firstUnusedSlot_5 rfl rfl ?_
      refine ex_iconst (v := 1) 7 d_Term_firstUnusedSlot_6 rfl (by decide) ?_
      refine ex_icmplt 26 10 d_Term_firstUnusedSlot_7 rfl rfl (fun h => absurd h (xn_nlt rfl (xn_lit 1) (by omega) (by omega) (by omega))) (fun _ => ?_)
      refine ex_aload_n (a := ad (pl i 4)) 11 d_Term_firstUnusedSlot_10 rfl rfl ?_
      refine ex_iload_n (a := nI (k + 1)) 12 d_Term_firstUnusedSlot_11 rfl rfl ?_
      refine xl_callVi [.int (nI (k + 1))] [] 15 d_Term_firstUnusedSlot_12 rfl zv_Term_isUnused ⟨(Nat.le_of_ble_eq_true rfl), (Nat.le_of_ble_eq_true rfl)⟩ m_Term_68 (kpl hi (by decide)) (sh_Term hi) rfl rfl (Nat.le_of_ble_eq_true rfl) rfl (Nat.le_of_ble_eq_true rfl) (c_Term_isUnused (S := S) i (k + 1) hi (by omega) hN hn) (fun vv ww q1 => ?_)
      rw [q1.1, q1.2]
      by_cases h2 : unusedF N i (k + 1) S
      · refine Ex.int (zb_t h2) ?_
        refine ex_ifeq 26 18 d_Term_firstUnusedSlot_15 rfl rfl (fun h => absurd h (by decide)) (fun _ => ?_)
        refine ex_iload_n (a := nI (k + 1)) 19 d_Term_firstUnusedSlot_18 rfl rfl ?_
        refine ex_istore_n 20 d_Term_firstUnusedSlot_19 rfl (Nat.le_of_ble_eq_true rfl) ?_
        refine ex_iinc (a := nI (k + 1)) (v := nI (k)) 23 d_Term_firstUnusedSlot_20 rfl rfl (xn_dec rfl) ?_
        refine ex_goto 5 d_Term_firstUnusedSlot_23 rfl ?_
        rw [show lowL N i S (k + 1) r = lowL N i S k (k + 1) from if_pos h2]
        exact ih (by omega) (k + 1)
      · refine Ex.int (zb_f h2) ?_
        refine ex_ifeq 26 18 d_Term_firstUnusedSlot_15 rfl rfl (fun _ => ?_) (fun h => absurd (by decide) h)
        refine ex_iload_n (a := nI r) 27 d_Term_firstUnusedSlot_26 rfl rfl ?_
        refine ex_iret d_Term_firstUnusedSlot_27 rfl ⟨_, rfl, ?_⟩
        refine ⟨rfl, ?_⟩
        rw [show lowL N i S (k + 1) r = r from if_neg h2]
  refine ex_iconst (v := 0) 1 d_Term_firstUnusedSlot_0 rfl (by decide) ?_
  refine ex_istore_n 2 d_Term_firstUnusedSlot_1 rfl (Nat.le_of_ble_eq_true rfl) ?_
  refine ex_bipush (v := 8) 4 d_Term_firstUnusedSlot_2 rfl (by decide) ?_
  refine ex_istore_n 5 d_Term_firstUnusedSlot_4 rfl (Nat.le_of_ble_eq_true rfl) ?_
  exact hloop 8 (Nat.le_refl _) 0
set_option maxRecDepth 100000 in
set_option maxHeartbeats 4000000 in
theorem c_Term_slotFor (i : Nat) (hi : i < N) (hN : N ≤ 5) (hn : S (pl i 4) 0 = nI N) (q : Int32) : Ex G none mi_Term_slotFor 0 0 0 (xEn mi_Term_slotFor [.ref (ad (pl i 4)), .int q]) [] (LY G ad N S) (xI (fun v w => w = LY G ad N (slotForS N i S q) ∧ v = nI (slotForR N i S q))) := by
  have h9 := lowF_le N i S
  have hloop : ∀ m k, k + m = 8 → Ex G none mi_Term_slotFor 0 0 2 [some (.ref (ad (pl i 4))), some (.int q), some (.int (nI (k + 1)))] [] (LY G ad N S) (xI (fun v w => w = LY G ad N (if asgL i S q m k = 0 ∧ ¬ lowF N i S = 0 then u2 S (pl i 5) (lowF N i S) q else S) ∧ v = nI (if asgL i S q m k = 0 then lowF N i S else asgL i S q m k))) := by
    intro m
    induction m with
    | zero =>
      intro k hk
      obtain rfl : k = 8 := by omega
      skip
      refine ex_iload_n (a := nI 9) 3 d_Term_slotFor_2 rfl rfl ?_
      refine ex_bipush (v := 8) 5 d_Term_slotFor_3 rfl (by decide) ?_
      refine ex_icmpgt 26 8 d_Term_slotFor_5 rfl rfl (fun _ => ?_) (fun h => absurd (xn_lt (xn_lit 8) rfl (by omega) (by omega) (by omega)) h)
      refine ex_aload_n (a := ad (pl i 4)) 27 d_Term_slotFor_26 rfl rfl ?_
      refine xl_callVi [] [] 30 d_Term_slotFor_27 rfl zv_Term_firstUnusedSlot ⟨(Nat.le_of_ble_eq_true rfl), (Nat.le_of_ble_eq_true rfl)⟩ m_Term_64 (kpl hi (by decide)) (sh_Term hi) rfl rfl (Nat.le_of_ble_eq_true rfl) rfl (Nat.le_of_ble_eq_true rfl) (c_Term_firstUnusedSlot (S := S) i hi hN hn) (fun vv ww q1 => ?_)
      rw [q1.1, q1.2]
      refine ex_istore_n 31 d_Term_slotFor_30 rfl (Nat.le_of_ble_eq_true rfl) ?_
      refine ex_iload_n (a := nI (lowF N i S)) 32 d_Term_slotFor_31 rfl rfl ?_
      refine ex_ifeq 42 35 d_Term_slotFor_32 rfl rfl (fun h2 => ?_) (fun h2 => ?_)
      · refine ex_iload_n (a := nI (lowF N i S)) 43 d_Term_slotFor_42 rfl rfl ?_
        refine ex_iret d_Term_slotFor_43 rfl ⟨_, rfl, ?_⟩
        have h8 : lowF N i S = 0 := lowF_0 h2
        refine ⟨?_, ?_⟩
        · rw [if_neg (fun z => z.2 h8)]
        · rw [if_pos (show asgL i S q 0 8 = 0 from rfl)]
      · refine ex_aload_n (a := ad (pl i 4)) 36 d_Term_slotFor_35 rfl rfl ?_
        refine xl_getR 39 d_Term_slotFor_36 rfl g_Term_9 (kpl hi (by decide)) (sh_Term hi) rfl ?_
        refine ex_iload_n (a := nI (lowF N i S)) 40 d_Term_slotFor_39 rfl rfl ?_
        refine ex_iload_n (a := q) 41 d_Term_slotFor_40 rfl rfl ?_
        refine xl_iast 42 d_Term_slotFor_41 rfl (kpl hi (by decide)) (sh_Assigned hi) rfl (by omega) (by omega) ?_
        refine ex_iload_n (a := nI (lowF N i S)) 43 d_Term_slotFor_42 rfl rfl ?_
        refine ex_iret d_Term_slotFor_43 rfl ⟨_, rfl, ?_⟩
        have h8 : ¬ lowF N i S = 0 := lowF_n h2
        refine ⟨?_, ?_⟩
        · rw [if_pos ⟨rfl, h8⟩]
        · rw [if_pos (show asgL i S q 0 8 = 0 from rfl)]
    | succ m ih =>
      intro k hk
      skip
      refine ex_iload_n (a := nI (k + 1)) 3 d_Term_slotFor_2 rfl rfl ?_
      refine ex_bipush (v := 8) 5 d_Term_slotFor_3 rfl (by decide) ?_
      refine ex_icmpgt 26 8 d_Term_slotFor_5 rfl rfl (fun h => absurd h (xn_nlt (xn_lit 8) rfl (by omega) (by omega) (by omega))) (fun _ => ?_)
      refine ex_aload_n (a := ad (pl i 4)) 9 d_Term_slotFor_8 rfl rfl ?_
      refine xl_getR 12 d_Term_slotFor_9 rfl g_Term_9 (kpl hi (by decide)) (sh_Term hi) rfl ?_
      refine ex_iload_n (a := nI (k + 1)) 13 d_Term_slotFor_12 rfl rfl ?_
      refine xl_iald 14 d_Term_slotFor_13 rfl (kpl hi (by decide)) (sh_Assigned hi) rfl (by omega) (by omega) ?_
      refine ex_iload_n (a := q) 15 d_Term_slotFor_14 rfl rfl ?_
      refine ex_icmpne 20 18 d_Term_slotFor_15 rfl rfl (fun h1 => ?_) (fun h1 => ?_)
      · refine ex_iinc (a := nI (k + 1)) (v := nI (k + 2)) 23 d_Term_slotFor_20 rfl rfl (xn_inc rfl) ?_
        refine ex_goto 2 d_Term_slotFor_23 rfl ?_
        rw [show asgL i S q (m + 1) k = asgL i S q m (k + 1) from if_neg h1]
        exact ih (k + 1) (by omega)
      · refine ex_iload_n (a := nI (k + 1)) 19 d_Term_slotFor_18 rfl rfl ?_
        refine ex_iret d_Term_slotFor_19 rfl ⟨_, rfl, ?_⟩
        rw [show asgL i S q (m + 1) k = k + 1 from if_pos h1]
        refine ⟨?_, ?_⟩
        · rw [if_neg (fun z => absurd z.1 (by omega))]
        · rw [if_neg (by omega)]
  refine ex_iconst (v := 1) 1 d_Term_slotFor_0 rfl (by decide) ?_
  refine ex_istore_n 2 d_Term_slotFor_1 rfl (Nat.le_of_ble_eq_true rfl) ?_
  exact hloop 8 0 rfl
end WK
