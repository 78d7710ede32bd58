section WK
variable {G : xC}
set_option maxRecDepth 100000 in
set_option maxHeartbeats 4000000 in
theorem c_Clients_init (ws : va_W) (h : Nat) : Ex G none mi_Clients_init 4 124 0 (xEn mi_Clients_init [.ref h]) [] (ws ++ [(h, .inr (0, [.null, .null, .null, .null, .int 0]))]) (xV (fun w => ∃ q1 q2 q3 q4, w = ws ++ [(h, .inr (0, [.ref q1, .ref q2, .ref q3, .ref q4, .int 0])), (q1, .inl (G.2.1, 31, .inl (fun _ => 0))), (q2, .inl (G.2.1, 31, .inl (fun _ => 0))), (q3, .inl (G.2.1, 31, .inl (fun _ => 0))), (q4, .inl (G.2.1, 31, .inl (fun _ => 0)))])) := by
  refine ex_aload_n (a := h) 1 d_Clients_init_0 rfl rfl ?_
  refine ex_objInit 4 d_Clients_init_1 rfl o_Clients_3 oi1 oi2 ⟨(Nat.le_of_ble_eq_true rfl), (Nat.le_of_ble_eq_true rfl)⟩ ?_
  refine ex_aload_n (a := h) 5 d_Clients_init_4 rfl rfl ?_
  refine ex_bipush (v := 31) 7 d_Clients_init_5 rfl (by decide) ?_
  refine xt_newI (cb := 3) (sb := 93) (31) 9 d_Clients_init_7 rfl aw_I (by decide) (by decide) (by omega) ⟨by omega, by omega⟩ (fun q1 => ?_)
  refine xt_putF 0 12 d_Clients_init_9 rfl f_Clients_9 rfl rfl rfl rfl (Nat.le_of_ble_eq_true rfl) ?_
  refine ex_aload_n (a := h) 13 d_Clients_init_12 rfl rfl ?_
  refine ex_bipush (v := 31) 15 d_Clients_init_13 rfl (by decide) ?_
  refine xt_newI (cb := 2) (sb := 62) (31) 17 d_Clients_init_15 rfl aw_I (by decide) (by decide) (by omega) ⟨by omega, by omega⟩ (fun q2 => ?_)
  refine xt_putF 0 20 d_Clients_init_17 rfl f_Clients_15 rfl rfl rfl rfl (Nat.le_of_ble_eq_true rfl) ?_
  refine ex_aload_n (a := h) 21 d_Clients_init_20 rfl rfl ?_
  refine ex_bipush (v := 31) 23 d_Clients_init_21 rfl (by decide) ?_
  refine xt_newI (cb := 1) (sb := 31) (31) 25 d_Clients_init_23 rfl aw_I (by decide) (by decide) (by omega) ⟨by omega, by omega⟩ (fun q3 => ?_)
  refine xt_putF 0 28 d_Clients_init_25 rfl f_Clients_18 rfl rfl rfl rfl (Nat.le_of_ble_eq_true rfl) ?_
  refine ex_aload_n (a := h) 29 d_Clients_init_28 rfl rfl ?_
  refine ex_bipush (v := 31) 31 d_Clients_init_29 rfl (by decide) ?_
  refine xt_newI (cb := 0) (sb := 0) (31) 33 d_Clients_init_31 rfl aw_I (by decide) (by decide) (by omega) ⟨by omega, by omega⟩ (fun q4 => ?_)
  refine xt_putF 0 36 d_Clients_init_33 rfl f_Clients_21 rfl rfl rfl rfl (Nat.le_of_ble_eq_true rfl) ?_
  refine ex_vret d_Clients_init_36 rfl ⟨rfl, ?_⟩
  exact ⟨q1, q2, q3, q4, rfl⟩
set_option maxRecDepth 100000 in
set_option maxHeartbeats 4000000 in
theorem c_Disk_sealSector_t (ws : va_W) (h b s : Nat) (hs : s < 18) (f : Nat → Int32) : Ex G none mi_Disk_sealSector 0 0 0 (xEn mi_Disk_sealSector [.ref h, .int (nI s)]) [] (ws ++ [(h, .inr (1, [.ref b])), (b, .inl (G.2.1, 144, .inl (f)))]) (xV (fun w => w = ws ++ [(h, .inr (1, [.ref b])), (b, .inl (G.2.1, 144, .inl (sealT f (8 * s))))])) := by
  refine ex_iload_n (a := nI s) 1 d_Disk_sealSector_0 rfl rfl ?_
  refine ex_bipush (v := 8) 3 d_Disk_sealSector_1 rfl (by decide) ?_
  refine ex_imulN (8 * s) 4 d_Disk_sealSector_3 rfl rfl (xn_lit 8) (by omega) ?_
  refine ex_istore_n 5 d_Disk_sealSector_4 rfl (Nat.le_of_ble_eq_true rfl) ?_
  refine ex_iload_n (a := nI (8 * s)) 6 d_Disk_sealSector_5 rfl rfl ?_
  refine ex_istore_n 7 d_Disk_sealSector_6 rfl (Nat.le_of_ble_eq_true rfl) ?_
  refine ex_iload_n (a := nI (8 * s)) 8 d_Disk_sealSector_7 rfl rfl ?_
  refine ex_iload_n (a := nI (8 * s)) 9 d_Disk_sealSector_8 rfl rfl ?_
  refine ex_iconst (v := 4) 10 d_Disk_sealSector_9 rfl (by decide) ?_
  refine ex_iaddN (8 * s + 4) 11 d_Disk_sealSector_10 rfl rfl (xn_lit 4) (by omega) ?_
  refine ex_icmpge 38 14 d_Disk_sealSector_11 rfl rfl (fun h => absurd h (xn_nle rfl rfl (by omega) (by omega) (by omega))) (fun _ => ?_)
  refine ex_aload_n (a := h) 15 d_Disk_sealSector_14 rfl rfl ?_
  refine xt_get 0 18 d_Disk_sealSector_15 rfl g_Disk_9 rfl rfl ?_
  refine ex_iload_n (a := nI (8 * s)) 19 d_Disk_sealSector_18 rfl rfl ?_
  refine ex_iconst (v := 4) 20 d_Disk_sealSector_19 rfl (by decide) ?_
  refine ex_iaddN (8 * s + 4) 21 d_Disk_sealSector_20 rfl rfl (xn_lit 4) (by omega) ?_
  refine ex_aload_n (a := h) 22 d_Disk_sealSector_21 rfl rfl ?_
  refine xt_get 0 25 d_Disk_sealSector_22 rfl g_Disk_9 rfl rfl ?_
  refine ex_iload_n (a := nI (8 * s)) 26 d_Disk_sealSector_25 rfl rfl ?_
  refine xt_iald 1 27 d_Disk_sealSector_26 rfl rfl rfl (by omega) (by omega) ?_
  refine ex_sipush (v := 255) 30 d_Disk_sealSector_27 rfl (by decide) ?_
  refine ex_ixor 31 d_Disk_sealSector_30 rfl ?_
  refine xt_iast 1 32 d_Disk_sealSector_31 rfl rfl rfl (by omega) (by omega) ?_
  refine ex_iinc (a := nI (8 * s)) (v := nI (8 * s + 1)) 35 d_Disk_sealSector_32 rfl rfl (xn_inc rfl) ?_
  refine ex_goto 7 d_Disk_sealSector_35 rfl ?_
  refine ex_iload_n (a := nI (8 * s + 1)) 8 d_Disk_sealSector_7 rfl rfl ?_
  refine ex_iload_n (a := nI (8 * s)) 9 d_Disk_sealSector_8 rfl rfl ?_
  refine ex_iconst (v := 4) 10 d_Disk_sealSector_9 rfl (by decide) ?_
  refine ex_iaddN (8 * s + 4) 11 d_Disk_sealSector_10 rfl rfl (xn_lit 4) (by omega) ?_
  refine ex_icmpge 38 14 d_Disk_sealSector_11 rfl rfl (fun h => absurd h (xn_nle rfl rfl (by omega) (by omega) (by omega))) (fun _ => ?_)
  refine ex_aload_n (a := h) 15 d_Disk_sealSector_14 rfl rfl ?_
  refine xt_get 0 18 d_Disk_sealSector_15 rfl g_Disk_9 rfl rfl ?_
  refine ex_iload_n (a := nI (8 * s + 1)) 19 d_Disk_sealSector_18 rfl rfl ?_
  refine ex_iconst (v := 4) 20 d_Disk_sealSector_19 rfl (by decide) ?_
  refine ex_iaddN (8 * s + 5) 21 d_Disk_sealSector_20 rfl rfl (xn_lit 4) (by omega) ?_
  refine ex_aload_n (a := h) 22 d_Disk_sealSector_21 rfl rfl ?_
  refine xt_get 0 25 d_Disk_sealSector_22 rfl g_Disk_9 rfl rfl ?_
  refine ex_iload_n (a := nI (8 * s + 1)) 26 d_Disk_sealSector_25 rfl rfl ?_
  refine xt_iald 1 27 d_Disk_sealSector_26 rfl rfl rfl (by omega) (by omega) ?_
  refine ex_sipush (v := 255) 30 d_Disk_sealSector_27 rfl (by decide) ?_
  refine ex_ixor 31 d_Disk_sealSector_30 rfl ?_
  refine xt_iast 1 32 d_Disk_sealSector_31 rfl rfl rfl (by omega) (by omega) ?_
  refine ex_iinc (a := nI (8 * s + 1)) (v := nI (8 * s + 2)) 35 d_Disk_sealSector_32 rfl rfl (xn_inc rfl) ?_
  refine ex_goto 7 d_Disk_sealSector_35 rfl ?_
  refine ex_iload_n (a := nI (8 * s + 2)) 8 d_Disk_sealSector_7 rfl rfl ?_
  refine ex_iload_n (a := nI (8 * s)) 9 d_Disk_sealSector_8 rfl rfl ?_
  refine ex_iconst (v := 4) 10 d_Disk_sealSector_9 rfl (by decide) ?_
  refine ex_iaddN (8 * s + 4) 11 d_Disk_sealSector_10 rfl rfl (xn_lit 4) (by omega) ?_
  refine ex_icmpge 38 14 d_Disk_sealSector_11 rfl rfl (fun h => absurd h (xn_nle rfl rfl (by omega) (by omega) (by omega))) (fun _ => ?_)
  refine ex_aload_n (a := h) 15 d_Disk_sealSector_14 rfl rfl ?_
  refine xt_get 0 18 d_Disk_sealSector_15 rfl g_Disk_9 rfl rfl ?_
  refine ex_iload_n (a := nI (8 * s + 2)) 19 d_Disk_sealSector_18 rfl rfl ?_
  refine ex_iconst (v := 4) 20 d_Disk_sealSector_19 rfl (by decide) ?_
  refine ex_iaddN (8 * s + 6) 21 d_Disk_sealSector_20 rfl rfl (xn_lit 4) (by omega) ?_
  refine ex_aload_n (a := h) 22 d_Disk_sealSector_21 rfl rfl ?_
  refine xt_get 0 25 d_Disk_sealSector_22 rfl g_Disk_9 rfl rfl ?_
  refine ex_iload_n (a := nI (8 * s + 2)) 26 d_Disk_sealSector_25 rfl rfl ?_
  refine xt_iald 1 27 d_Disk_sealSector_26 rfl rfl rfl (by omega) (by omega) ?_
  refine ex_sipush (v := 255) 30 d_Disk_sealSector_27 rfl (by decide) ?_
  refine ex_ixor 31 d_Disk_sealSector_30 rfl ?_
  refine xt_iast 1 32 d_Disk_sealSector_31 rfl rfl rfl (by omega) (by omega) ?_
  refine ex_iinc (a := nI (8 * s + 2)) (v := nI (8 * s + 3)) 35 d_Disk_sealSector_32 rfl rfl (xn_inc rfl) ?_
  refine ex_goto 7 d_Disk_sealSector_35 rfl ?_
  refine ex_iload_n (a := nI (8 * s + 3)) 8 d_Disk_sealSector_7 rfl rfl ?_
  refine ex_iload_n (a := nI (8 * s)) 9 d_Disk_sealSector_8 rfl rfl ?_
  refine ex_iconst (v := 4) 10 d_Disk_sealSector_9 rfl (by decide) ?_
  refine ex_iaddN (8 * s + 4) 11 d_Disk_sealSector_10 rfl rfl (xn_lit 4) (by omega) ?_
  refine ex_icmpge 38 14 d_Disk_sealSector_11 rfl rfl (fun h => absurd h (xn_nle rfl rfl (by omega) (by omega) (by omega))) (fun _ => ?_)
  refine ex_aload_n (a := h) 15 d_Disk_sealSector_14 rfl rfl ?_
  refine xt_get 0 18 d_Disk_sealSector_15 rfl g_Disk_9 rfl rfl ?_
  refine ex_iload_n (a := nI (8 * s + 3)) 19 d_Disk_sealSector_18 rfl rfl ?_
  refine ex_iconst (v := 4) 20 d_Disk_sealSector_19 rfl (by decide) ?_
  refine ex_iaddN (8 * s + 7) 21 d_Disk_sealSector_20 rfl rfl (xn_lit 4) (by omega) ?_
  refine ex_aload_n (a := h) 22 d_Disk_sealSector_21 rfl rfl ?_
  refine xt_get 0 25 d_Disk_sealSector_22 rfl g_Disk_9 rfl rfl ?_
  refine ex_iload_n (a := nI (8 * s + 3)) 26 d_Disk_sealSector_25 rfl rfl ?_
  refine xt_iald 1 27 d_Disk_sealSector_26 rfl rfl rfl (by omega) (by omega) ?_
  refine ex_sipush (v := 255) 30 d_Disk_sealSector_27 rfl (by decide) ?_
  refine ex_ixor 31 d_Disk_sealSector_30 rfl ?_
  refine xt_iast 1 32 d_Disk_sealSector_31 rfl rfl rfl (by omega) (by omega) ?_
  refine ex_iinc (a := nI (8 * s + 3)) (v := nI (8 * s + 4)) 35 d_Disk_sealSector_32 rfl rfl (xn_inc rfl) ?_
  refine ex_goto 7 d_Disk_sealSector_35 rfl ?_
  refine ex_iload_n (a := nI (8 * s + 4)) 8 d_Disk_sealSector_7 rfl rfl ?_
  refine ex_iload_n (a := nI (8 * s)) 9 d_Disk_sealSector_8 rfl rfl ?_
  refine ex_iconst (v := 4) 10 d_Disk_sealSector_9 rfl (by decide) ?_
  refine ex_iaddN (8 * s + 4) 11 d_Disk_sealSector_10 rfl rfl (xn_lit 4) (by omega) ?_
  refine ex_icmpge 38 14 d_Disk_sealSector_11 rfl rfl (fun _ => ?_) (fun h => absurd (xn_le rfl rfl (by omega) (by omega) (by omega)) h)
  refine ex_vret d_Disk_sealSector_38 rfl ⟨rfl, ?_⟩
  exact rfl
set_option maxRecDepth 100000 in
set_option maxHeartbeats 4000000 in
theorem c_Disk_init (ws : va_W) (h : Nat) : Ex G none mi_Disk_init 1 144 0 (xEn mi_Disk_init [.ref h]) [] (ws ++ [(h, .inr (1, [.null]))]) (xV (fun w => ∃ q, w = ws ++ [(h, .inr (1, [.ref q])), (q, .inl (G.2.1, 144, .inl (dk0 18)))])) := by
  have hloop : ∀ b k : Nat, k ≤ 18 → Ex G none mi_Disk_init 0 0 15 [some (.ref h), some (.int (nI k))] [] (ws ++ [(h, .inr (1, [.ref b])), (b, .inl (G.2.1, 144, .inl (dk0 k)))]) (xV (fun w => ∃ q, w = ws ++ [(h, .inr (1, [.ref q])), (q, .inl (G.2.1, 144, .inl (dk0 18)))])) := by
    intro b
    refine loop_down 18 ?_ ?_
    · skip
      refine ex_iload_n (a := nI 18) 16 d_Disk_init_15 rfl rfl ?_
      refine ex_bipush (v := 18) 18 d_Disk_init_16 rfl (by decide) ?_
      refine ex_icmpge 32 21 d_Disk_init_18 rfl rfl (fun _ => ?_) (fun h => absurd (xn_le (xn_lit 18) rfl (by omega) (by omega) (by omega)) h)
      refine ex_vret d_Disk_init_32 rfl ⟨rfl, ?_⟩
      exact ⟨b, rfl⟩
    · intro k hk ih
      refine ex_iload_n (a := nI k) 16 d_Disk_init_15 rfl rfl ?_
      refine ex_bipush (v := 18) 18 d_Disk_init_16 rfl (by decide) ?_
      refine ex_icmpge 32 21 d_Disk_init_18 rfl rfl (fun h => absurd h (xn_nle (xn_lit 18) rfl (by omega) (by omega) (by omega))) (fun _ => ?_)
      refine ex_aload_n (a := h) 22 d_Disk_init_21 rfl rfl ?_
      refine ex_iload_n (a := nI k) 23 d_Disk_init_22 rfl rfl ?_
      refine xt_callVv 0 [.int (nI k)] [] 26 d_Disk_init_23 rfl zv_Disk_sealSector ⟨(Nat.le_of_ble_eq_true rfl), (Nat.le_of_ble_eq_true rfl)⟩ m_Disk_13 rfl rfl rfl (Nat.le_of_ble_eq_true rfl) rfl (Nat.le_of_ble_eq_true rfl) (c_Disk_sealSector_t _ h b k (by omega) _) (fun w hw => ?_)
      rw [hw]
      refine ex_iinc (a := nI k) (v := nI (k + 1)) 29 d_Disk_init_26 rfl rfl (xn_inc rfl) ?_
      refine ex_goto 15 d_Disk_init_29 rfl ?_
      exact ih
  refine ex_aload_n (a := h) 1 d_Disk_init_0 rfl rfl ?_
  refine ex_objInit 4 d_Disk_init_1 rfl o_Disk_3 oi1 oi2 ⟨(Nat.le_of_ble_eq_true rfl), (Nat.le_of_ble_eq_true rfl)⟩ ?_
  refine ex_aload_n (a := h) 5 d_Disk_init_4 rfl rfl ?_
  refine ex_sipush (v := 144) 8 d_Disk_init_5 rfl (by decide) ?_
  refine xt_newI (cb := 0) (sb := 0) (144) 10 d_Disk_init_8 rfl aw_I (by decide) (by decide) (by omega) ⟨by omega, by omega⟩ (fun q1 => ?_)
  refine xt_putF 0 13 d_Disk_init_10 rfl f_Disk_9 rfl rfl rfl rfl (Nat.le_of_ble_eq_true rfl) ?_
  refine ex_iconst (v := 0) 14 d_Disk_init_13 rfl (by decide) ?_
  refine ex_istore_n 15 d_Disk_init_14 rfl (Nat.le_of_ble_eq_true rfl) ?_
  exact hloop q1 0 (Nat.zero_le _)
set_option maxRecDepth 100000 in
set_option maxHeartbeats 4000000 in
theorem c_Term_init (ws : va_W) (h N : Nat) (hN : N ≤ 5) : Ex G none mi_Term_init 4 (9 * N + 27) 0 (xEn mi_Term_init [.ref h, .int (nI N)]) [] (ws ++ [(h, .inr (4, [.int 0, .null, .null, .null, .null, .int 0, .int 0]))]) (xV (fun w => ∃ q1 q2 q3 q4, w = ws ++ [(h, .inr (4, [.int (nI N), .ref q4, .ref q1, .ref q2, .ref q3, .int 0, .int 0])), (q1, .inl (G.2.1, 9, .inl (fun _ => 0))), (q2, .inl (G.2.1, 9, .inl (fun _ => 0))), (q3, .inl (G.2.1, 9, .inl (fun _ => 0))), (q4, .inl (G.2.1, 9 * N, .inl (fun _ => 0)))])) := by
  refine ex_aload_n (a := h) 1 d_Term_init_0 rfl rfl ?_
  refine ex_objInit 4 d_Term_init_1 rfl o_Term_3 oi1 oi2 ⟨(Nat.le_of_ble_eq_true rfl), (Nat.le_of_ble_eq_true rfl)⟩ ?_
  refine ex_aload_n (a := h) 5 d_Term_init_4 rfl rfl ?_
  refine ex_bipush (v := 9) 7 d_Term_init_5 rfl (by decide) ?_
  refine xt_newI (cb := 3) (sb := 9 * N + 18) (9) 9 d_Term_init_7 rfl aw_I (by decide) (by decide) (by omega) ⟨by omega, by omega⟩ (fun q1 => ?_)
  refine xt_putF 0 12 d_Term_init_9 rfl f_Term_9 rfl rfl rfl rfl (Nat.le_of_ble_eq_true rfl) ?_
  refine ex_aload_n (a := h) 13 d_Term_init_12 rfl rfl ?_
  refine ex_bipush (v := 9) 15 d_Term_init_13 rfl (by decide) ?_
  refine xt_newI (cb := 2) (sb := 9 * N + 9) (9) 17 d_Term_init_15 rfl aw_I (by decide) (by decide) (by omega) ⟨by omega, by omega⟩ (fun q2 => ?_)
  refine xt_putF 0 20 d_Term_init_17 rfl f_Term_15 rfl rfl rfl rfl (Nat.le_of_ble_eq_true rfl) ?_
  refine ex_aload_n (a := h) 21 d_Term_init_20 rfl rfl ?_
  refine ex_bipush (v := 9) 23 d_Term_init_21 rfl (by decide) ?_
  refine xt_newI (cb := 1) (sb := 9 * N) (9) 25 d_Term_init_23 rfl aw_I (by decide) (by decide) (by omega) ⟨by omega, by omega⟩ (fun q3 => ?_)
  refine xt_putF 0 28 d_Term_init_25 rfl f_Term_18 rfl rfl rfl rfl (Nat.le_of_ble_eq_true rfl) ?_
  refine ex_aload_n (a := h) 29 d_Term_init_28 rfl rfl ?_
  refine ex_iload_n (a := nI N) 30 d_Term_init_29 rfl rfl ?_
  refine xt_putF 0 33 d_Term_init_30 rfl f_Term_21 rfl rfl rfl rfl (Nat.le_of_ble_eq_true rfl) ?_
  refine ex_aload_n (a := h) 34 d_Term_init_33 rfl rfl ?_
  refine ex_iload_n (a := nI N) 35 d_Term_init_34 rfl rfl ?_
  refine ex_bipush (v := 9) 37 d_Term_init_35 rfl (by decide) ?_
  refine ex_imulN (9 * N) 38 d_Term_init_37 rfl rfl (xn_lit 9) (by omega) ?_
  refine xt_newI (cb := 0) (sb := 0) (9 * N) 40 d_Term_init_38 rfl aw_I (nI_pos (by omega)) (nI_clamp (by omega)) (by omega) ⟨by omega, by omega⟩ (fun q4 => ?_)
  refine xt_putF 0 43 d_Term_init_40 rfl f_Term_25 rfl rfl rfl rfl (Nat.le_of_ble_eq_true rfl) ?_
  refine ex_vret d_Term_init_43 rfl ⟨rfl, ?_⟩
  exact ⟨q1, q2, q3, q4, rfl⟩
set_option maxRecDepth 100000 in
set_option maxHeartbeats 4000000 in
theorem c_Ledger_forget_t (ws : va_W) (h c a1 a2 a3 a4 : Nat) (x : Int32) (f1 f2 f3 f4 : Nat → Int32) : Ex G none mi_Ledger_forget 0 0 0 (xEn mi_Ledger_forget [.ref h]) [] (ws ++ [(h, .inr (2, [.ref c, .ref a1, .ref a2, .ref a3, .ref a4, .int x])), (a1, .inl (G.2.1, 9, .inl (f1))), (a2, .inl (G.2.1, 4, .inl (f2))), (a3, .inl (G.2.1, 31, .inl (f3))), (a4, .inl (G.2.2.1, 31, .inl (f4)))]) (xV (fun w => w = ws ++ [(h, .inr (2, [.ref c, .ref a1, .ref a2, .ref a3, .ref a4, .int 0])), (a1, .inl (G.2.1, 9, .inl (fT f1 (-1) 9))), (a2, .inl (G.2.1, 4, .inl (fT f2 0 4))), (a3, .inl (G.2.1, 31, .inl (fT f3 0 31))), (a4, .inl (G.2.2.1, 31, .inl (fT f4 0 31)))])) := by
  have hloop2 : ∀ k : Nat, k ≤ 31 → Ex G none mi_Ledger_forget 0 0 43 [some (.ref h), some (.int (nI k))] [] (ws ++ [(h, .inr (2, [.ref c, .ref a1, .ref a2, .ref a3, .ref a4, .int x])), (a1, .inl (G.2.1, 9, .inl (fT f1 (-1) 9))), (a2, .inl (G.2.1, 4, .inl (fT f2 0 4))), (a3, .inl (G.2.1, 31, .inl (fT f3 0 k))), (a4, .inl (G.2.2.1, 31, .inl (fT f4 0 k)))]) (xV (fun w => w = ws ++ [(h, .inr (2, [.ref c, .ref a1, .ref a2, .ref a3, .ref a4, .int 0])), (a1, .inl (G.2.1, 9, .inl (fT f1 (-1) 9))), (a2, .inl (G.2.1, 4, .inl (fT f2 0 4))), (a3, .inl (G.2.1, 31, .inl (fT f3 0 31))), (a4, .inl (G.2.2.1, 31, .inl (fT f4 0 31)))])) := by
    refine loop_down 31 ?_ ?_
    · skip
      refine ex_iload_n (a := nI 31) 44 d_Ledger_forget_43 rfl rfl ?_
      refine ex_bipush (v := 30) 46 d_Ledger_forget_44 rfl (by decide) ?_
      refine ex_icmpgt 69 49 d_Ledger_forget_46 rfl rfl (fun _ => ?_) (fun h => absurd (xn_lt (xn_lit 30) rfl (by omega) (by omega) (by omega)) h)
      refine ex_aload_n (a := h) 70 d_Ledger_forget_69 rfl rfl ?_
      refine ex_iconst (v := 0) 71 d_Ledger_forget_70 rfl (by decide) ?_
      refine xt_put 0 74 d_Ledger_forget_71 rfl p_Ledger_32 rfl rfl rfl (Nat.le_of_ble_eq_true rfl) ?_
      refine ex_vret d_Ledger_forget_74 rfl ⟨rfl, ?_⟩
      exact rfl
    · intro k hk ih
      refine ex_iload_n (a := nI k) 44 d_Ledger_forget_43 rfl rfl ?_
      refine ex_bipush (v := 30) 46 d_Ledger_forget_44 rfl (by decide) ?_
      refine ex_icmpgt 69 49 d_Ledger_forget_46 rfl rfl (fun h => absurd h (xn_nlt (xn_lit 30) rfl (by omega) (by omega) (by omega))) (fun _ => ?_)
      refine ex_aload_n (a := h) 50 d_Ledger_forget_49 rfl rfl ?_
      refine xt_get 0 53 d_Ledger_forget_50 rfl g_Ledger_18 rfl rfl ?_
      refine ex_iload_n (a := nI k) 54 d_Ledger_forget_53 rfl rfl ?_
      refine ex_iconst (v := 0) 55 d_Ledger_forget_54 rfl (by decide) ?_
      refine xt_iast 3 56 d_Ledger_forget_55 rfl rfl rfl (by omega) (by omega) ?_
      refine ex_aload_n (a := h) 57 d_Ledger_forget_56 rfl rfl ?_
      refine xt_get 0 60 d_Ledger_forget_57 rfl g_Ledger_21 rfl rfl ?_
      refine ex_iload_n (a := nI k) 61 d_Ledger_forget_60 rfl rfl ?_
      refine ex_iconst (v := 0) 62 d_Ledger_forget_61 rfl (by decide) ?_
      refine xt_zast 4 63 d_Ledger_forget_62 rfl rfl rfl (by omega) (by omega) (by decide) ?_
      refine ex_iinc (a := nI k) (v := nI (k + 1)) 66 d_Ledger_forget_63 rfl rfl (xn_inc rfl) ?_
      refine ex_goto 43 d_Ledger_forget_66 rfl ?_
      exact ih
  have hloop1 : ∀ k : Nat, k ≤ 4 → Ex G none mi_Ledger_forget 0 0 23 [some (.ref h), some (.int (nI k))] [] (ws ++ [(h, .inr (2, [.ref c, .ref a1, .ref a2, .ref a3, .ref a4, .int x])), (a1, .inl (G.2.1, 9, .inl (fT f1 (-1) 9))), (a2, .inl (G.2.1, 4, .inl (fT f2 0 k))), (a3, .inl (G.2.1, 31, .inl (f3))), (a4, .inl (G.2.2.1, 31, .inl (f4)))]) (xV (fun w => w = ws ++ [(h, .inr (2, [.ref c, .ref a1, .ref a2, .ref a3, .ref a4, .int 0])), (a1, .inl (G.2.1, 9, .inl (fT f1 (-1) 9))), (a2, .inl (G.2.1, 4, .inl (fT f2 0 4))), (a3, .inl (G.2.1, 31, .inl (fT f3 0 31))), (a4, .inl (G.2.2.1, 31, .inl (fT f4 0 31)))])) := by
    refine loop_down 4 ?_ ?_
    · skip
      refine ex_iload_n (a := nI 4) 24 d_Ledger_forget_23 rfl rfl ?_
      refine ex_iconst (v := 4) 25 d_Ledger_forget_24 rfl (by decide) ?_
      refine ex_icmpge 41 28 d_Ledger_forget_25 rfl rfl (fun _ => ?_) (fun h => absurd (xn_le (xn_lit 4) rfl (by omega) (by omega) (by omega)) h)
      refine ex_iconst (v := 0) 42 d_Ledger_forget_41 rfl (by decide) ?_
      refine ex_istore_n 43 d_Ledger_forget_42 rfl (Nat.le_of_ble_eq_true rfl) ?_
      exact hloop2 0 (Nat.zero_le _)
    · intro k hk ih
      refine ex_iload_n (a := nI k) 24 d_Ledger_forget_23 rfl rfl ?_
      refine ex_iconst (v := 4) 25 d_Ledger_forget_24 rfl (by decide) ?_
      refine ex_icmpge 41 28 d_Ledger_forget_25 rfl rfl (fun h => absurd h (xn_nle (xn_lit 4) rfl (by omega) (by omega) (by omega))) (fun _ => ?_)
      refine ex_aload_n (a := h) 29 d_Ledger_forget_28 rfl rfl ?_
      refine xt_get 0 32 d_Ledger_forget_29 rfl g_Ledger_15 rfl rfl ?_
      refine ex_iload_n (a := nI k) 33 d_Ledger_forget_32 rfl rfl ?_
      refine ex_iconst (v := 0) 34 d_Ledger_forget_33 rfl (by decide) ?_
      refine xt_iast 2 35 d_Ledger_forget_34 rfl rfl rfl (by omega) (by omega) ?_
      refine ex_iinc (a := nI k) (v := nI (k + 1)) 38 d_Ledger_forget_35 rfl rfl (xn_inc rfl) ?_
      refine ex_goto 23 d_Ledger_forget_38 rfl ?_
      exact ih
  have hloop0 : ∀ k : Nat, k ≤ 9 → Ex G none mi_Ledger_forget 0 0 2 [some (.ref h), some (.int (nI k))] [] (ws ++ [(h, .inr (2, [.ref c, .ref a1, .ref a2, .ref a3, .ref a4, .int x])), (a1, .inl (G.2.1, 9, .inl (fT f1 (-1) k))), (a2, .inl (G.2.1, 4, .inl (f2))), (a3, .inl (G.2.1, 31, .inl (f3))), (a4, .inl (G.2.2.1, 31, .inl (f4)))]) (xV (fun w => w = ws ++ [(h, .inr (2, [.ref c, .ref a1, .ref a2, .ref a3, .ref a4, .int 0])), (a1, .inl (G.2.1, 9, .inl (fT f1 (-1) 9))), (a2, .inl (G.2.1, 4, .inl (fT f2 0 4))), (a3, .inl (G.2.1, 31, .inl (fT f3 0 31))), (a4, .inl (G.2.2.1, 31, .inl (fT f4 0 31)))])) := by
    refine loop_down 9 ?_ ?_
    · skip
      refine ex_iload_n (a := nI 9) 3 d_Ledger_forget_2 rfl rfl ?_
      refine ex_bipush (v := 8) 5 d_Ledger_forget_3 rfl (by decide) ?_
      refine ex_icmpgt 21 8 d_Ledger_forget_5 rfl rfl (fun _ => ?_) (fun h => absurd (xn_lt (xn_lit 8) rfl (by omega) (by omega) (by omega)) h)
      refine ex_iconst (v := 0) 22 d_Ledger_forget_21 rfl (by decide) ?_
      refine ex_istore_n 23 d_Ledger_forget_22 rfl (Nat.le_of_ble_eq_true rfl) ?_
      exact hloop1 0 (Nat.zero_le _)
    · intro k hk ih
      refine ex_iload_n (a := nI k) 3 d_Ledger_forget_2 rfl rfl ?_
      refine ex_bipush (v := 8) 5 d_Ledger_forget_3 rfl (by decide) ?_
      refine ex_icmpgt 21 8 d_Ledger_forget_5 rfl rfl (fun h => absurd h (xn_nlt (xn_lit 8) rfl (by omega) (by omega) (by omega))) (fun _ => ?_)
      refine ex_aload_n (a := h) 9 d_Ledger_forget_8 rfl rfl ?_
      refine xt_get 0 12 d_Ledger_forget_9 rfl g_Ledger_9 rfl rfl ?_
      refine ex_iload_n (a := nI k) 13 d_Ledger_forget_12 rfl rfl ?_
      refine ex_iconst (v := (-1)) 14 d_Ledger_forget_13 rfl (by decide) ?_
      refine xt_iast 1 15 d_Ledger_forget_14 rfl rfl rfl (by omega) (by omega) ?_
      refine ex_iinc (a := nI k) (v := nI (k + 1)) 18 d_Ledger_forget_15 rfl rfl (xn_inc rfl) ?_
      refine ex_goto 2 d_Ledger_forget_18 rfl ?_
      exact ih
  refine ex_iconst (v := 0) 1 d_Ledger_forget_0 rfl (by decide) ?_
  refine ex_istore_n 2 d_Ledger_forget_1 rfl (Nat.le_of_ble_eq_true rfl) ?_
  exact hloop0 0 (Nat.zero_le _)
set_option maxRecDepth 100000 in
set_option maxHeartbeats 4000000 in
theorem c_Ledger_init (ws : va_W) (h c : Nat) : Ex G none mi_Ledger_init 4 75 0 (xEn mi_Ledger_init [.ref h, .ref c]) [] (ws ++ [(h, .inr (2, [.null, .null, .null, .null, .null, .int 0]))]) (xV (fun w => ∃ q1 q2 q3 q4, w = ws ++ [(h, .inr (2, [.ref c, .ref q1, .ref q2, .ref q3, .ref q4, .int 0])), (q1, .inl (G.2.1, 9, .inl (fT (fun _ => 0) (-1) 9))), (q2, .inl (G.2.1, 4, .inl (fT (fun _ => 0) 0 4))), (q3, .inl (G.2.1, 31, .inl (fT (fun _ => 0) 0 31))), (q4, .inl (G.2.2.1, 31, .inl (fT (fun _ => 0) 0 31)))])) := by
  refine ex_aload_n (a := h) 1 d_Ledger_init_0 rfl rfl ?_
  refine ex_objInit 4 d_Ledger_init_1 rfl o_Ledger_3 oi1 oi2 ⟨(Nat.le_of_ble_eq_true rfl), (Nat.le_of_ble_eq_true rfl)⟩ ?_
  refine ex_aload_n (a := h) 5 d_Ledger_init_4 rfl rfl ?_
  refine ex_bipush (v := 9) 7 d_Ledger_init_5 rfl (by decide) ?_
  refine xt_newI (cb := 3) (sb := 66) (9) 9 d_Ledger_init_7 rfl aw_I (by decide) (by decide) (by omega) ⟨by omega, by omega⟩ (fun q1 => ?_)
  refine xt_putF 0 12 d_Ledger_init_9 rfl f_Ledger_9 rfl rfl rfl rfl (Nat.le_of_ble_eq_true rfl) ?_
  refine ex_aload_n (a := h) 13 d_Ledger_init_12 rfl rfl ?_
  refine ex_iconst (v := 4) 14 d_Ledger_init_13 rfl (by decide) ?_
  refine xt_newI (cb := 2) (sb := 62) (4) 16 d_Ledger_init_14 rfl aw_I (by decide) (by decide) (by omega) ⟨by omega, by omega⟩ (fun q2 => ?_)
  refine xt_putF 0 19 d_Ledger_init_16 rfl f_Ledger_15 rfl rfl rfl rfl (Nat.le_of_ble_eq_true rfl) ?_
  refine ex_aload_n (a := h) 20 d_Ledger_init_19 rfl rfl ?_
  refine ex_bipush (v := 31) 22 d_Ledger_init_20 rfl (by decide) ?_
  refine xt_newI (cb := 1) (sb := 31) (31) 24 d_Ledger_init_22 rfl aw_I (by decide) (by decide) (by omega) ⟨by omega, by omega⟩ (fun q3 => ?_)
  refine xt_putF 0 27 d_Ledger_init_24 rfl f_Ledger_18 rfl rfl rfl rfl (Nat.le_of_ble_eq_true rfl) ?_
  refine ex_aload_n (a := h) 28 d_Ledger_init_27 rfl rfl ?_
  refine ex_bipush (v := 31) 30 d_Ledger_init_28 rfl (by decide) ?_
  refine xt_newZ (cb := 0) (sb := 0) (31) 32 d_Ledger_init_30 rfl aw_Z (by decide) (by decide) (by omega) ⟨by omega, by omega⟩ (fun q4 => ?_)
  refine xt_putF 0 35 d_Ledger_init_32 rfl f_Ledger_21 rfl rfl rfl rfl (Nat.le_of_ble_eq_true rfl) ?_
  refine ex_aload_n (a := h) 36 d_Ledger_init_35 rfl rfl ?_
  refine ex_aload_n (a := c) 37 d_Ledger_init_36 rfl rfl ?_
  refine xt_putF 0 40 d_Ledger_init_37 rfl f_Ledger_25 rfl rfl rfl rfl (Nat.le_of_ble_eq_true rfl) ?_
  refine ex_aload_n (a := h) 41 d_Ledger_init_40 rfl rfl ?_
  refine xt_callVv 0 [] [] 44 d_Ledger_init_41 rfl zv_Ledger_forget ⟨(Nat.le_of_ble_eq_true rfl), (Nat.le_of_ble_eq_true rfl)⟩ m_Ledger_29 rfl rfl rfl (Nat.le_of_ble_eq_true rfl) rfl (Nat.le_of_ble_eq_true rfl) (c_Ledger_forget_t _ h _ _ _ _ _ _ _ _ _ _) (fun w hw => ?_)
  rw [hw]
  refine ex_vret d_Ledger_init_44 rfl ⟨rfl, ?_⟩
  exact ⟨q1, q2, q3, q4, rfl⟩
set_option maxRecDepth 100000 in
set_option maxHeartbeats 4000000 in
theorem c_Node_init (ws : va_W) (h c i N : Nat) (hN : N ≤ 5) : Ex G none mi_Node_init 13 (9 * N + 269) 0 (xEn mi_Node_init [.ref h, .int (nI i), .int (nI N), .ref c]) [] (ws ++ [(h, .inr (3, [.int 0, .null, .null, .null, .null, .int 0, .int 0, .int 0, .int 0]))]) (xV (fun w => ∃ p1 p2 p3 p4 p5 p6 p7 p8 p9 p10 p11 p12 p13, w = ws ++ [(h, .inr (3, [.int (nI i), .ref p1, .ref p3, .ref p4, .ref p9, .int 1, .int 0, .int 0, .int (-1)])), (p1, .inr (1, [.ref p2])), (p2, .inl (G.2.1, 144, .inl (dk0 18))), (p3, .inl (G.2.1, 9, .inl (fun _ => 0))), (p4, .inr (4, [.int (nI N), .ref p8, .ref p5, .ref p6, .ref p7, .int 0, .int 0])), (p5, .inl (G.2.1, 9, .inl (fun _ => 0))), (p6, .inl (G.2.1, 9, .inl (fun _ => 0))), (p7, .inl (G.2.1, 9, .inl (fun _ => 0))), (p8, .inl (G.2.1, 9 * N, .inl (fun _ => 0))), (p9, .inr (2, [.ref c, .ref p10, .ref p11, .ref p12, .ref p13, .int 0])), (p10, .inl (G.2.1, 9, .inl (fT (fun _ => 0) (-1) 9))), (p11, .inl (G.2.1, 4, .inl (fT (fun _ => 0) 0 4))), (p12, .inl (G.2.1, 31, .inl (fT (fun _ => 0) 0 31))), (p13, .inl (G.2.2.1, 31, .inl (fT (fun _ => 0) 0 31)))])) := by
  refine ex_aload_n (a := h) 1 d_Node_init_0 rfl rfl ?_
  refine ex_objInit 4 d_Node_init_1 rfl o_Node_3 oi1 oi2 ⟨(Nat.le_of_ble_eq_true rfl), (Nat.le_of_ble_eq_true rfl)⟩ ?_
  refine ex_aload_n (a := h) 5 d_Node_init_4 rfl rfl ?_
  refine xt_new (cb := 12) (sb := 9 * N + 268) [.null] 8 d_Node_init_5 rfl nw_Node_9 ⟨by omega, by omega⟩ (fun q1 => ?_)
  refine ex_dup 9 d_Node_init_8 rfl rfl ?_
  refine xt_callI (cb := 11) (sb := 9 * N + 124) [] [.ref q1, .ref h] 12 d_Node_init_9 rfl zo_Disk_init ⟨(Nat.le_of_ble_eq_true rfl), (Nat.le_of_ble_eq_true rfl)⟩ m_Node_11 zj_Disk_init rfl rfl rfl rfl (Nat.le_of_ble_eq_true rfl) rfl (Nat.le_of_ble_eq_true rfl) (by rw [← List.append_assoc]; exact c_Disk_init _ q1) ⟨by omega, by omega⟩ (fun w hw => ?_)
  obtain ⟨q2, hw⟩ := hw
  rw [hw, List.append_assoc]
  refine xt_putF 0 15 d_Node_init_12 rfl f_Node_12 rfl rfl rfl rfl (Nat.le_of_ble_eq_true rfl) ?_
  refine ex_aload_n (a := h) 16 d_Node_init_15 rfl rfl ?_
  refine ex_bipush (v := 9) 18 d_Node_init_16 rfl (by decide) ?_
  refine xt_newI (cb := 10) (sb := 9 * N + 115) (9) 20 d_Node_init_18 rfl aw_I (by decide) (by decide) (by omega) ⟨by omega, by omega⟩ (fun q3 => ?_)
  refine xt_putF 0 23 d_Node_init_20 rfl f_Node_18 rfl rfl rfl rfl (Nat.le_of_ble_eq_true rfl) ?_
  refine ex_aload_n (a := h) 24 d_Node_init_23 rfl rfl ?_
  refine ex_iconst (v := 1) 25 d_Node_init_24 rfl (by decide) ?_
  refine xt_put 0 28 d_Node_init_25 rfl p_Node_22 rfl rfl rfl (Nat.le_of_ble_eq_true rfl) ?_
  refine ex_aload_n (a := h) 29 d_Node_init_28 rfl rfl ?_
  refine ex_iconst (v := (-1)) 30 d_Node_init_29 rfl (by decide) ?_
  refine xt_put 0 33 d_Node_init_30 rfl p_Node_26 rfl rfl rfl (Nat.le_of_ble_eq_true rfl) ?_
  refine ex_aload_n (a := h) 34 d_Node_init_33 rfl rfl ?_
  refine ex_iload_n (a := nI i) 35 d_Node_init_34 rfl rfl ?_
  refine xt_putF 0 38 d_Node_init_35 rfl f_Node_30 rfl rfl rfl rfl (Nat.le_of_ble_eq_true rfl) ?_
  refine ex_aload_n (a := h) 39 d_Node_init_38 rfl rfl ?_
  refine xt_new (cb := 9) (sb := 9 * N + 108) [.int 0, .null, .null, .null, .null, .int 0, .int 0] 42 d_Node_init_39 rfl nw_Node_33 ⟨by omega, by omega⟩ (fun q4 => ?_)
  refine ex_dup 43 d_Node_init_42 rfl rfl ?_
  refine ex_iload_n (a := nI N) 44 d_Node_init_43 rfl rfl ?_
  refine xt_callI (cb := 5) (sb := 81) [.int (nI N)] [.ref q4, .ref h] 47 d_Node_init_44 rfl zo_Term_init ⟨(Nat.le_of_ble_eq_true rfl), (Nat.le_of_ble_eq_true rfl)⟩ m_Node_35 zj_Term_init rfl rfl rfl rfl (Nat.le_of_ble_eq_true rfl) rfl (Nat.le_of_ble_eq_true rfl) (by rw [← List.append_assoc]; exact c_Term_init _ q4 N (by omega)) ⟨by omega, by omega⟩ (fun w hw => ?_)
  obtain ⟨q5, q6, q7, q8, hw⟩ := hw
  rw [hw, List.append_assoc]
  refine xt_putF 0 50 d_Node_init_47 rfl f_Node_38 rfl rfl rfl rfl (Nat.le_of_ble_eq_true rfl) ?_
  refine ex_aload_n (a := h) 51 d_Node_init_50 rfl rfl ?_
  refine xt_new (cb := 4) (sb := 75) [.null, .null, .null, .null, .null, .int 0] 54 d_Node_init_51 rfl nw_Node_42 ⟨by omega, by omega⟩ (fun q9 => ?_)
  refine ex_dup 55 d_Node_init_54 rfl rfl ?_
  refine ex_aload_n (a := c) 56 d_Node_init_55 rfl rfl ?_
  refine xt_callI (cb := 0) (sb := 0) [.ref c] [.ref q9, .ref h] 59 d_Node_init_56 rfl zo_Ledger_init ⟨(Nat.le_of_ble_eq_true rfl), (Nat.le_of_ble_eq_true rfl)⟩ m_Node_44 zj_Ledger_init rfl rfl rfl rfl (Nat.le_of_ble_eq_true rfl) rfl (Nat.le_of_ble_eq_true rfl) (by rw [← List.append_assoc]; exact c_Ledger_init _ q9 c) ⟨by omega, by omega⟩ (fun w hw => ?_)
  obtain ⟨q10, q11, q12, q13, hw⟩ := hw
  rw [hw, List.append_assoc]
  refine xt_putF 0 62 d_Node_init_59 rfl f_Node_47 rfl rfl rfl rfl (Nat.le_of_ble_eq_true rfl) ?_
  refine ex_vret d_Node_init_62 rfl ⟨rfl, ?_⟩
  exact ⟨q1, q2, q3, q4, q5, q6, q7, q8, q9, q10, q11, q12, q13, rfl⟩
set_option maxRecDepth 100000 in
set_option maxHeartbeats 4000000 in
theorem c_SL_init_3 (ws : va_W) (h : Nat) (n : Int32) (hn : ¬ n = 5) : Ex G none mi_SL_init 48 1047 0 (xEn mi_SL_init [.ref h, .int n]) [] (ws ++ [(h, .inr (5, [.null, .null]))]) (xV (fun w => ∃ p1 p2 p3 p4 p5 p6 p7 p8 p9 p10 p11 p12 p13 p14 p15 p16 p17 p18 p19 p20 p21 p22 p23 p24 p25 p26 p27 p28 p29 p30 p31 p32 p33 p34 p35 p36 p37 p38 p39 p40 p41 p42 p43 p44 p45 p46 p47 p48, w = ws ++ [(h, .inr (5, [.ref p1, .ref p6])), (p1, .inr (0, [.ref p2, .ref p3, .ref p4, .ref p5, .int 0])), (p2, .inl (G.2.1, 31, .inl (fun _ => 0))), (p3, .inl (G.2.1, 31, .inl (fun _ => 0))), (p4, .inl (G.2.1, 31, .inl (fun _ => 0))), (p5, .inl (G.2.1, 31, .inl (fun _ => 0))), (p6, .inl (G.2.2.2, 3, .inr (.inr (.inr (.inr (va_up (va_up (va_up (fun _ => none) 0 (some p7)) 1 (some p21)) 2 (some p35))))))), (p7, .inr (3, [.int (nI 0), .ref p8, .ref p10, .ref p11, .ref p16, .int 1, .int 0, .int 0, .int (-1)])), (p8, .inr (1, [.ref p9])), (p9, .inl (G.2.1, 144, .inl (dk0 18))), (p10, .inl (G.2.1, 9, .inl (fun _ => 0))), (p11, .inr (4, [.int (nI 3), .ref p15, .ref p12, .ref p13, .ref p14, .int 0, .int 0])), (p12, .inl (G.2.1, 9, .inl (fun _ => 0))), (p13, .inl (G.2.1, 9, .inl (fun _ => 0))), (p14, .inl (G.2.1, 9, .inl (fun _ => 0))), (p15, .inl (G.2.1, 9 * 3, .inl (fun _ => 0))), (p16, .inr (2, [.ref p1, .ref p17, .ref p18, .ref p19, .ref p20, .int 0])), (p17, .inl (G.2.1, 9, .inl (fT (fun _ => 0) (-1) 9))), (p18, .inl (G.2.1, 4, .inl (fT (fun _ => 0) 0 4))), (p19, .inl (G.2.1, 31, .inl (fT (fun _ => 0) 0 31))), (p20, .inl (G.2.2.1, 31, .inl (fT (fun _ => 0) 0 31))), (p21, .inr (3, [.int (nI 1), .ref p22, .ref p24, .ref p25, .ref p30, .int 1, .int 0, .int 0, .int (-1)])), (p22, .inr (1, [.ref p23])), (p23, .inl (G.2.1, 144, .inl (dk0 18))), (p24, .inl (G.2.1, 9, .inl (fun _ => 0))), (p25, .inr (4, [.int (nI 3), .ref p29, .ref p26, .ref p27, .ref p28, .int 0, .int 0])), (p26, .inl (G.2.1, 9, .inl (fun _ => 0))), (p27, .inl (G.2.1, 9, .inl (fun _ => 0))), (p28, .inl (G.2.1, 9, .inl (fun _ => 0))), (p29, .inl (G.2.1, 9 * 3, .inl (fun _ => 0))), (p30, .inr (2, [.ref p1, .ref p31, .ref p32, .ref p33, .ref p34, .int 0])), (p31, .inl (G.2.1, 9, .inl (fT (fun _ => 0) (-1) 9))), (p32, .inl (G.2.1, 4, .inl (fT (fun _ => 0) 0 4))), (p33, .inl (G.2.1, 31, .inl (fT (fun _ => 0) 0 31))), (p34, .inl (G.2.2.1, 31, .inl (fT (fun _ => 0) 0 31))), (p35, .inr (3, [.int (nI 2), .ref p36, .ref p38, .ref p39, .ref p44, .int 1, .int 0, .int 0, .int (-1)])), (p36, .inr (1, [.ref p37])), (p37, .inl (G.2.1, 144, .inl (dk0 18))), (p38, .inl (G.2.1, 9, .inl (fun _ => 0))), (p39, .inr (4, [.int (nI 3), .ref p43, .ref p40, .ref p41, .ref p42, .int 0, .int 0])), (p40, .inl (G.2.1, 9, .inl (fun _ => 0))), (p41, .inl (G.2.1, 9, .inl (fun _ => 0))), (p42, .inl (G.2.1, 9, .inl (fun _ => 0))), (p43, .inl (G.2.1, 9 * 3, .inl (fun _ => 0))), (p44, .inr (2, [.ref p1, .ref p45, .ref p46, .ref p47, .ref p48, .int 0])), (p45, .inl (G.2.1, 9, .inl (fT (fun _ => 0) (-1) 9))), (p46, .inl (G.2.1, 4, .inl (fT (fun _ => 0) 0 4))), (p47, .inl (G.2.1, 31, .inl (fT (fun _ => 0) 0 31))), (p48, .inl (G.2.2.1, 31, .inl (fT (fun _ => 0) 0 31)))])) := by
  refine ex_aload_n (a := h) 1 d_SL_init_0 rfl rfl ?_
  refine ex_objInit 4 d_SL_init_1 rfl o_SL_3 oi1 oi2 ⟨(Nat.le_of_ble_eq_true rfl), (Nat.le_of_ble_eq_true rfl)⟩ ?_
  refine ex_iload_n (a := n) 5 d_SL_init_4 rfl rfl ?_
  refine ex_iconst (v := 5) 6 d_SL_init_5 rfl (by decide) ?_
  refine ex_icmpne 13 9 d_SL_init_6 rfl rfl (fun _ => ?_) (fun h => absurd h hn)
  refine ex_iconst (v := 3) 14 d_SL_init_13 rfl (by decide) ?_
  refine ex_istore_n 15 d_SL_init_14 rfl (Nat.le_of_ble_eq_true rfl) ?_
  refine ex_aload_n (a := h) 16 d_SL_init_15 rfl rfl ?_
  refine xt_new (cb := 47) (sb := 1042) [.null, .null, .null, .null, .int 0] 19 d_SL_init_16 rfl nw_SL_9 ⟨by omega, by omega⟩ (fun q1 => ?_)
  refine ex_dup 20 d_SL_init_19 rfl rfl ?_
  refine xt_callI (cb := 43) (sb := 918) [] [.ref q1, .ref h] 23 d_SL_init_20 rfl zo_Clients_init ⟨(Nat.le_of_ble_eq_true rfl), (Nat.le_of_ble_eq_true rfl)⟩ m_SL_11 zj_Clients_init rfl rfl rfl rfl (Nat.le_of_ble_eq_true rfl) rfl (Nat.le_of_ble_eq_true rfl) (by rw [← List.append_assoc]; exact c_Clients_init _ q1) ⟨by omega, by omega⟩ (fun w hw => ?_)
  obtain ⟨q2, q3, q4, q5, hw⟩ := hw
  rw [hw, List.append_assoc]
  refine xt_putF 0 26 d_SL_init_23 rfl f_SL_12 rfl rfl rfl rfl (Nat.le_of_ble_eq_true rfl) ?_
  refine ex_aload_n (a := h) 27 d_SL_init_26 rfl rfl ?_
  refine ex_iload_n (a := 3) 28 d_SL_init_27 rfl rfl ?_
  refine xt_newQ (cb := 42) (sb := 915) (3) 31 d_SL_init_28 rfl cq_SL_16 (by decide) (by decide) (by omega) ⟨by omega, by omega⟩ (fun q6 => ?_)
  refine xt_putF 0 34 d_SL_init_31 rfl f_SL_18 rfl rfl rfl rfl (Nat.le_of_ble_eq_true rfl) ?_
  refine ex_iconst (v := 0) 35 d_SL_init_34 rfl (by decide) ?_
  refine ex_istore_n 36 d_SL_init_35 rfl (Nat.le_of_ble_eq_true rfl) ?_
  refine ex_iload_n (a := 0) 37 d_SL_init_36 rfl rfl ?_
  refine ex_iload_n (a := 3) 38 d_SL_init_37 rfl rfl ?_
  refine ex_icmpge 66 41 d_SL_init_38 rfl rfl (fun h => absurd h (by decide)) (fun _ => ?_)
  refine ex_aload_n (a := h) 42 d_SL_init_41 rfl rfl ?_
  refine xt_get 0 45 d_SL_init_42 rfl g_SL_18 rfl rfl ?_
  refine ex_iload_n (a := 0) 46 d_SL_init_45 rfl rfl ?_
  refine xt_new (cb := 41) (sb := 906) [.int 0, .null, .null, .null, .null, .int 0, .int 0, .int 0, .int 0] 49 d_SL_init_46 rfl nw_SL_16 ⟨by omega, by omega⟩ (fun q7 => ?_)
  refine ex_dup 50 d_SL_init_49 rfl rfl ?_
  refine ex_iload_n (a := 0) 51 d_SL_init_50 rfl rfl ?_
  refine ex_iload_n (a := 3) 52 d_SL_init_51 rfl rfl ?_
  refine ex_aload_n (a := h) 53 d_SL_init_52 rfl rfl ?_
  refine xt_get 0 56 d_SL_init_53 rfl g_SL_12 rfl rfl ?_
  refine xt_callI (cb := 28) (sb := 610) [.int 0, .int 3, .ref q1] [.ref q7, .int 0, .ref q6] 59 d_SL_init_56 rfl zo_Node_init ⟨(Nat.le_of_ble_eq_true rfl), (Nat.le_of_ble_eq_true rfl)⟩ m_SL_22 zj_Node_init rfl rfl rfl rfl (Nat.le_of_ble_eq_true rfl) rfl (Nat.le_of_ble_eq_true rfl) (by rw [← List.append_assoc]; exact c_Node_init _ q7 q1 0 3 (by decide)) ⟨by omega, by omega⟩ (fun w hw => ?_)
  obtain ⟨q8, q9, q10, q11, q12, q13, q14, q15, q16, q17, q18, q19, q20, hw⟩ := hw
  rw [hw, List.append_assoc]
  refine xt_aast 6 7 60 d_SL_init_59 rfl rfl rfl rfl rfl (xn_lit 0) (by omega) (by omega) ?_
  refine ex_iinc (a := 0) (v := nI 1) 63 d_SL_init_60 rfl rfl (xn_inc (xn_lit 0)) ?_
  refine ex_goto 36 d_SL_init_63 rfl ?_
  refine ex_iload_n (a := nI 1) 37 d_SL_init_36 rfl rfl ?_
  refine ex_iload_n (a := 3) 38 d_SL_init_37 rfl rfl ?_
  refine ex_icmpge 66 41 d_SL_init_38 rfl rfl (fun h => absurd h (xn_nle (xn_lit 3) rfl (by omega) (by omega) (by omega))) (fun _ => ?_)
  refine ex_aload_n (a := h) 42 d_SL_init_41 rfl rfl ?_
  refine xt_get 0 45 d_SL_init_42 rfl g_SL_18 rfl rfl ?_
  refine ex_iload_n (a := nI 1) 46 d_SL_init_45 rfl rfl ?_
  refine xt_new (cb := 27) (sb := 601) [.int 0, .null, .null, .null, .null, .int 0, .int 0, .int 0, .int 0] 49 d_SL_init_46 rfl nw_SL_16 ⟨by omega, by omega⟩ (fun q21 => ?_)
  refine ex_dup 50 d_SL_init_49 rfl rfl ?_
  refine ex_iload_n (a := nI 1) 51 d_SL_init_50 rfl rfl ?_
  refine ex_iload_n (a := 3) 52 d_SL_init_51 rfl rfl ?_
  refine ex_aload_n (a := h) 53 d_SL_init_52 rfl rfl ?_
  refine xt_get 0 56 d_SL_init_53 rfl g_SL_12 rfl rfl ?_
  refine xt_callI (cb := 14) (sb := 305) [.int (nI 1), .int 3, .ref q1] [.ref q21, .int (nI 1), .ref q6] 59 d_SL_init_56 rfl zo_Node_init ⟨(Nat.le_of_ble_eq_true rfl), (Nat.le_of_ble_eq_true rfl)⟩ m_SL_22 zj_Node_init rfl rfl rfl rfl (Nat.le_of_ble_eq_true rfl) rfl (Nat.le_of_ble_eq_true rfl) (by rw [← List.append_assoc]; exact c_Node_init _ q21 q1 1 3 (by decide)) ⟨by omega, by omega⟩ (fun w hw => ?_)
  obtain ⟨q22, q23, q24, q25, q26, q27, q28, q29, q30, q31, q32, q33, q34, hw⟩ := hw
  rw [hw, List.append_assoc]
  refine xt_aast 6 21 60 d_SL_init_59 rfl rfl rfl rfl rfl rfl (by omega) (by omega) ?_
  refine ex_iinc (a := nI 1) (v := nI 2) 63 d_SL_init_60 rfl rfl (xn_inc rfl) ?_
  refine ex_goto 36 d_SL_init_63 rfl ?_
  refine ex_iload_n (a := nI 2) 37 d_SL_init_36 rfl rfl ?_
  refine ex_iload_n (a := 3) 38 d_SL_init_37 rfl rfl ?_
  refine ex_icmpge 66 41 d_SL_init_38 rfl rfl (fun h => absurd h (xn_nle (xn_lit 3) rfl (by omega) (by omega) (by omega))) (fun _ => ?_)
  refine ex_aload_n (a := h) 42 d_SL_init_41 rfl rfl ?_
  refine xt_get 0 45 d_SL_init_42 rfl g_SL_18 rfl rfl ?_
  refine ex_iload_n (a := nI 2) 46 d_SL_init_45 rfl rfl ?_
  refine xt_new (cb := 13) (sb := 296) [.int 0, .null, .null, .null, .null, .int 0, .int 0, .int 0, .int 0] 49 d_SL_init_46 rfl nw_SL_16 ⟨by omega, by omega⟩ (fun q35 => ?_)
  refine ex_dup 50 d_SL_init_49 rfl rfl ?_
  refine ex_iload_n (a := nI 2) 51 d_SL_init_50 rfl rfl ?_
  refine ex_iload_n (a := 3) 52 d_SL_init_51 rfl rfl ?_
  refine ex_aload_n (a := h) 53 d_SL_init_52 rfl rfl ?_
  refine xt_get 0 56 d_SL_init_53 rfl g_SL_12 rfl rfl ?_
  refine xt_callI (cb := 0) (sb := 0) [.int (nI 2), .int 3, .ref q1] [.ref q35, .int (nI 2), .ref q6] 59 d_SL_init_56 rfl zo_Node_init ⟨(Nat.le_of_ble_eq_true rfl), (Nat.le_of_ble_eq_true rfl)⟩ m_SL_22 zj_Node_init rfl rfl rfl rfl (Nat.le_of_ble_eq_true rfl) rfl (Nat.le_of_ble_eq_true rfl) (by rw [← List.append_assoc]; exact c_Node_init _ q35 q1 2 3 (by decide)) ⟨by omega, by omega⟩ (fun w hw => ?_)
  obtain ⟨q36, q37, q38, q39, q40, q41, q42, q43, q44, q45, q46, q47, q48, hw⟩ := hw
  rw [hw, List.append_assoc]
  refine xt_aast 6 35 60 d_SL_init_59 rfl rfl rfl rfl rfl rfl (by omega) (by omega) ?_
  refine ex_iinc (a := nI 2) (v := nI 3) 63 d_SL_init_60 rfl rfl (xn_inc rfl) ?_
  refine ex_goto 36 d_SL_init_63 rfl ?_
  refine ex_iload_n (a := nI 3) 37 d_SL_init_36 rfl rfl ?_
  refine ex_iload_n (a := 3) 38 d_SL_init_37 rfl rfl ?_
  refine ex_icmpge 66 41 d_SL_init_38 rfl rfl (fun _ => ?_) (fun h => absurd (xn_le (xn_lit 3) rfl (by omega) (by omega) (by omega)) h)
  refine ex_vret d_SL_init_66 rfl ⟨rfl, ?_⟩
  exact ⟨q1, q2, q3, q4, q5, q6, q7, q8, q9, q10, q11, q12, q13, q14, q15, q16, q17, q18, q19, q20, q21, q22, q23, q24, q25, q26, q27, q28, q29, q30, q31, q32, q33, q34, q35, q36, q37, q38, q39, q40, q41, q42, q43, q44, q45, q46, q47, q48, rfl⟩
set_option maxRecDepth 100000 in
set_option maxHeartbeats 4000000 in
theorem c_SL_init_5 (ws : va_W) (h : Nat) : Ex G none mi_SL_init 76 1749 0 (xEn mi_SL_init [.ref h, .int 5]) [] (ws ++ [(h, .inr (5, [.null, .null]))]) (xV (fun w => ∃ p1 p2 p3 p4 p5 p6 p7 p8 p9 p10 p11 p12 p13 p14 p15 p16 p17 p18 p19 p20 p21 p22 p23 p24 p25 p26 p27 p28 p29 p30 p31 p32 p33 p34 p35 p36 p37 p38 p39 p40 p41 p42 p43 p44 p45 p46 p47 p48 p49 p50 p51 p52 p53 p54 p55 p56 p57 p58 p59 p60 p61 p62 p63 p64 p65 p66 p67 p68 p69 p70 p71 p72 p73 p74 p75 p76, w = ws ++ [(h, .inr (5, [.ref p1, .ref p6])), (p1, .inr (0, [.ref p2, .ref p3, .ref p4, .ref p5, .int 0])), (p2, .inl (G.2.1, 31, .inl (fun _ => 0))), (p3, .inl (G.2.1, 31, .inl (fun _ => 0))), (p4, .inl (G.2.1, 31, .inl (fun _ => 0))), (p5, .inl (G.2.1, 31, .inl (fun _ => 0))), (p6, .inl (G.2.2.2, 5, .inr (.inr (.inr (.inr (va_up (va_up (va_up (va_up (va_up (fun _ => none) 0 (some p7)) 1 (some p21)) 2 (some p35)) 3 (some p49)) 4 (some p63))))))), (p7, .inr (3, [.int (nI 0), .ref p8, .ref p10, .ref p11, .ref p16, .int 1, .int 0, .int 0, .int (-1)])), (p8, .inr (1, [.ref p9])), (p9, .inl (G.2.1, 144, .inl (dk0 18))), (p10, .inl (G.2.1, 9, .inl (fun _ => 0))), (p11, .inr (4, [.int (nI 5), .ref p15, .ref p12, .ref p13, .ref p14, .int 0, .int 0])), (p12, .inl (G.2.1, 9, .inl (fun _ => 0))), (p13, .inl (G.2.1, 9, .inl (fun _ => 0))), (p14, .inl (G.2.1, 9, .inl (fun _ => 0))), (p15, .inl (G.2.1, 9 * 5, .inl (fun _ => 0))), (p16, .inr (2, [.ref p1, .ref p17, .ref p18, .ref p19, .ref p20, .int 0])), (p17, .inl (G.2.1, 9, .inl (fT (fun _ => 0) (-1) 9))), (p18, .inl (G.2.1, 4, .inl (fT (fun _ => 0) 0 4))), (p19, .inl (G.2.1, 31, .inl (fT (fun _ => 0) 0 31))), (p20, .inl (G.2.2.1, 31, .inl (fT (fun _ => 0) 0 31))), (p21, .inr (3, [.int (nI 1), .ref p22, .ref p24, .ref p25, .ref p30, .int 1, .int 0, .int 0, .int (-1)])), (p22, .inr (1, [.ref p23])), (p23, .inl (G.2.1, 144, .inl (dk0 18))), (p24, .inl (G.2.1, 9, .inl (fun _ => 0))), (p25, .inr (4, [.int (nI 5), .ref p29, .ref p26, .ref p27, .ref p28, .int 0, .int 0])), (p26, .inl (G.2.1, 9, .inl (fun _ => 0))), (p27, .inl (G.2.1, 9, .inl (fun _ => 0))), (p28, .inl (G.2.1, 9, .inl (fun _ => 0))), (p29, .inl (G.2.1, 9 * 5, .inl (fun _ => 0))), (p30, .inr (2, [.ref p1, .ref p31, .ref p32, .ref p33, .ref p34, .int 0])), (p31, .inl (G.2.1, 9, .inl (fT (fun _ => 0) (-1) 9))), (p32, .inl (G.2.1, 4, .inl (fT (fun _ => 0) 0 4))), (p33, .inl (G.2.1, 31, .inl (fT (fun _ => 0) 0 31))), (p34, .inl (G.2.2.1, 31, .inl (fT (fun _ => 0) 0 31))), (p35, .inr (3, [.int (nI 2), .ref p36, .ref p38, .ref p39, .ref p44, .int 1, .int 0, .int 0, .int (-1)])), (p36, .inr (1, [.ref p37])), (p37, .inl (G.2.1, 144, .inl (dk0 18))), (p38, .inl (G.2.1, 9, .inl (fun _ => 0))), (p39, .inr (4, [.int (nI 5), .ref p43, .ref p40, .ref p41, .ref p42, .int 0, .int 0])), (p40, .inl (G.2.1, 9, .inl (fun _ => 0))), (p41, .inl (G.2.1, 9, .inl (fun _ => 0))), (p42, .inl (G.2.1, 9, .inl (fun _ => 0))), (p43, .inl (G.2.1, 9 * 5, .inl (fun _ => 0))), (p44, .inr (2, [.ref p1, .ref p45, .ref p46, .ref p47, .ref p48, .int 0])), (p45, .inl (G.2.1, 9, .inl (fT (fun _ => 0) (-1) 9))), (p46, .inl (G.2.1, 4, .inl (fT (fun _ => 0) 0 4))), (p47, .inl (G.2.1, 31, .inl (fT (fun _ => 0) 0 31))), (p48, .inl (G.2.2.1, 31, .inl (fT (fun _ => 0) 0 31))), (p49, .inr (3, [.int (nI 3), .ref p50, .ref p52, .ref p53, .ref p58, .int 1, .int 0, .int 0, .int (-1)])), (p50, .inr (1, [.ref p51])), (p51, .inl (G.2.1, 144, .inl (dk0 18))), (p52, .inl (G.2.1, 9, .inl (fun _ => 0))), (p53, .inr (4, [.int (nI 5), .ref p57, .ref p54, .ref p55, .ref p56, .int 0, .int 0])), (p54, .inl (G.2.1, 9, .inl (fun _ => 0))), (p55, .inl (G.2.1, 9, .inl (fun _ => 0))), (p56, .inl (G.2.1, 9, .inl (fun _ => 0))), (p57, .inl (G.2.1, 9 * 5, .inl (fun _ => 0))), (p58, .inr (2, [.ref p1, .ref p59, .ref p60, .ref p61, .ref p62, .int 0])), (p59, .inl (G.2.1, 9, .inl (fT (fun _ => 0) (-1) 9))), (p60, .inl (G.2.1, 4, .inl (fT (fun _ => 0) 0 4))), (p61, .inl (G.2.1, 31, .inl (fT (fun _ => 0) 0 31))), (p62, .inl (G.2.2.1, 31, .inl (fT (fun _ => 0) 0 31))), (p63, .inr (3, [.int (nI 4), .ref p64, .ref p66, .ref p67, .ref p72, .int 1, .int 0, .int 0, .int (-1)])), (p64, .inr (1, [.ref p65])), (p65, .inl (G.2.1, 144, .inl (dk0 18))), (p66, .inl (G.2.1, 9, .inl (fun _ => 0))), (p67, .inr (4, [.int (nI 5), .ref p71, .ref p68, .ref p69, .ref p70, .int 0, .int 0])), (p68, .inl (G.2.1, 9, .inl (fun _ => 0))), (p69, .inl (G.2.1, 9, .inl (fun _ => 0))), (p70, .inl (G.2.1, 9, .inl (fun _ => 0))), (p71, .inl (G.2.1, 9 * 5, .inl (fun _ => 0))), (p72, .inr (2, [.ref p1, .ref p73, .ref p74, .ref p75, .ref p76, .int 0])), (p73, .inl (G.2.1, 9, .inl (fT (fun _ => 0) (-1) 9))), (p74, .inl (G.2.1, 4, .inl (fT (fun _ => 0) 0 4))), (p75, .inl (G.2.1, 31, .inl (fT (fun _ => 0) 0 31))), (p76, .inl (G.2.2.1, 31, .inl (fT (fun _ => 0) 0 31)))])) := by
  refine ex_aload_n (a := h) 1 d_SL_init_0 rfl rfl ?_
  refine ex_objInit 4 d_SL_init_1 rfl o_SL_3 oi1 oi2 ⟨(Nat.le_of_ble_eq_true rfl), (Nat.le_of_ble_eq_true rfl)⟩ ?_
  refine ex_iload_n (a := 5) 5 d_SL_init_4 rfl rfl ?_
  refine ex_iconst (v := 5) 6 d_SL_init_5 rfl (by decide) ?_
  refine ex_icmpne 13 9 d_SL_init_6 rfl rfl (fun h => absurd (by decide) h) (fun _ => ?_)
  refine ex_iconst (v := 5) 10 d_SL_init_9 rfl (by decide) ?_
  refine ex_goto 14 d_SL_init_10 rfl ?_
  refine ex_istore_n 15 d_SL_init_14 rfl (Nat.le_of_ble_eq_true rfl) ?_
  refine ex_aload_n (a := h) 16 d_SL_init_15 rfl rfl ?_
  refine xt_new (cb := 75) (sb := 1744) [.null, .null, .null, .null, .int 0] 19 d_SL_init_16 rfl nw_SL_9 ⟨by omega, by omega⟩ (fun q1 => ?_)
  refine ex_dup 20 d_SL_init_19 rfl rfl ?_
  refine xt_callI (cb := 71) (sb := 1620) [] [.ref q1, .ref h] 23 d_SL_init_20 rfl zo_Clients_init ⟨(Nat.le_of_ble_eq_true rfl), (Nat.le_of_ble_eq_true rfl)⟩ m_SL_11 zj_Clients_init rfl rfl rfl rfl (Nat.le_of_ble_eq_true rfl) rfl (Nat.le_of_ble_eq_true rfl) (by rw [← List.append_assoc]; exact c_Clients_init _ q1) ⟨by omega, by omega⟩ (fun w hw => ?_)
  obtain ⟨q2, q3, q4, q5, hw⟩ := hw
  rw [hw, List.append_assoc]
  refine xt_putF 0 26 d_SL_init_23 rfl f_SL_12 rfl rfl rfl rfl (Nat.le_of_ble_eq_true rfl) ?_
  refine ex_aload_n (a := h) 27 d_SL_init_26 rfl rfl ?_
  refine ex_iload_n (a := 5) 28 d_SL_init_27 rfl rfl ?_
  refine xt_newQ (cb := 70) (sb := 1615) (5) 31 d_SL_init_28 rfl cq_SL_16 (by decide) (by decide) (by omega) ⟨by omega, by omega⟩ (fun q6 => ?_)
  refine xt_putF 0 34 d_SL_init_31 rfl f_SL_18 rfl rfl rfl rfl (Nat.le_of_ble_eq_true rfl) ?_
  refine ex_iconst (v := 0) 35 d_SL_init_34 rfl (by decide) ?_
  refine ex_istore_n 36 d_SL_init_35 rfl (Nat.le_of_ble_eq_true rfl) ?_
  refine ex_iload_n (a := 0) 37 d_SL_init_36 rfl rfl ?_
  refine ex_iload_n (a := 5) 38 d_SL_init_37 rfl rfl ?_
  refine ex_icmpge 66 41 d_SL_init_38 rfl rfl (fun h => absurd h (by decide)) (fun _ => ?_)
  refine ex_aload_n (a := h) 42 d_SL_init_41 rfl rfl ?_
  refine xt_get 0 45 d_SL_init_42 rfl g_SL_18 rfl rfl ?_
  refine ex_iload_n (a := 0) 46 d_SL_init_45 rfl rfl ?_
  refine xt_new (cb := 69) (sb := 1606) [.int 0, .null, .null, .null, .null, .int 0, .int 0, .int 0, .int 0] 49 d_SL_init_46 rfl nw_SL_16 ⟨by omega, by omega⟩ (fun q7 => ?_)
  refine ex_dup 50 d_SL_init_49 rfl rfl ?_
  refine ex_iload_n (a := 0) 51 d_SL_init_50 rfl rfl ?_
  refine ex_iload_n (a := 5) 52 d_SL_init_51 rfl rfl ?_
  refine ex_aload_n (a := h) 53 d_SL_init_52 rfl rfl ?_
  refine xt_get 0 56 d_SL_init_53 rfl g_SL_12 rfl rfl ?_
  refine xt_callI (cb := 56) (sb := 1292) [.int 0, .int 5, .ref q1] [.ref q7, .int 0, .ref q6] 59 d_SL_init_56 rfl zo_Node_init ⟨(Nat.le_of_ble_eq_true rfl), (Nat.le_of_ble_eq_true rfl)⟩ m_SL_22 zj_Node_init rfl rfl rfl rfl (Nat.le_of_ble_eq_true rfl) rfl (Nat.le_of_ble_eq_true rfl) (by rw [← List.append_assoc]; exact c_Node_init _ q7 q1 0 5 (by decide)) ⟨by omega, by omega⟩ (fun w hw => ?_)
  obtain ⟨q8, q9, q10, q11, q12, q13, q14, q15, q16, q17, q18, q19, q20, hw⟩ := hw
  rw [hw, List.append_assoc]
  refine xt_aast 6 7 60 d_SL_init_59 rfl rfl rfl rfl rfl (xn_lit 0) (by omega) (by omega) ?_
  refine ex_iinc (a := 0) (v := nI 1) 63 d_SL_init_60 rfl rfl (xn_inc (xn_lit 0)) ?_
  refine ex_goto 36 d_SL_init_63 rfl ?_
  refine ex_iload_n (a := nI 1) 37 d_SL_init_36 rfl rfl ?_
  refine ex_iload_n (a := 5) 38 d_SL_init_37 rfl rfl ?_
  refine ex_icmpge 66 41 d_SL_init_38 rfl rfl (fun h => absurd h (xn_nle (xn_lit 5) rfl (by omega) (by omega) (by omega))) (fun _ => ?_)
  refine ex_aload_n (a := h) 42 d_SL_init_41 rfl rfl ?_
  refine xt_get 0 45 d_SL_init_42 rfl g_SL_18 rfl rfl ?_
  refine ex_iload_n (a := nI 1) 46 d_SL_init_45 rfl rfl ?_
  refine xt_new (cb := 55) (sb := 1283) [.int 0, .null, .null, .null, .null, .int 0, .int 0, .int 0, .int 0] 49 d_SL_init_46 rfl nw_SL_16 ⟨by omega, by omega⟩ (fun q21 => ?_)
  refine ex_dup 50 d_SL_init_49 rfl rfl ?_
  refine ex_iload_n (a := nI 1) 51 d_SL_init_50 rfl rfl ?_
  refine ex_iload_n (a := 5) 52 d_SL_init_51 rfl rfl ?_
  refine ex_aload_n (a := h) 53 d_SL_init_52 rfl rfl ?_
  refine xt_get 0 56 d_SL_init_53 rfl g_SL_12 rfl rfl ?_
  refine xt_callI (cb := 42) (sb := 969) [.int (nI 1), .int 5, .ref q1] [.ref q21, .int (nI 1), .ref q6] 59 d_SL_init_56 rfl zo_Node_init ⟨(Nat.le_of_ble_eq_true rfl), (Nat.le_of_ble_eq_true rfl)⟩ m_SL_22 zj_Node_init rfl rfl rfl rfl (Nat.le_of_ble_eq_true rfl) rfl (Nat.le_of_ble_eq_true rfl) (by rw [← List.append_assoc]; exact c_Node_init _ q21 q1 1 5 (by decide)) ⟨by omega, by omega⟩ (fun w hw => ?_)
  obtain ⟨q22, q23, q24, q25, q26, q27, q28, q29, q30, q31, q32, q33, q34, hw⟩ := hw
  rw [hw, List.append_assoc]
  refine xt_aast 6 21 60 d_SL_init_59 rfl rfl rfl rfl rfl rfl (by omega) (by omega) ?_
  refine ex_iinc (a := nI 1) (v := nI 2) 63 d_SL_init_60 rfl rfl (xn_inc rfl) ?_
  refine ex_goto 36 d_SL_init_63 rfl ?_
  refine ex_iload_n (a := nI 2) 37 d_SL_init_36 rfl rfl ?_
  refine ex_iload_n (a := 5) 38 d_SL_init_37 rfl rfl ?_
  refine ex_icmpge 66 41 d_SL_init_38 rfl rfl (fun h => absurd h (xn_nle (xn_lit 5) rfl (by omega) (by omega) (by omega))) (fun _ => ?_)
  refine ex_aload_n (a := h) 42 d_SL_init_41 rfl rfl ?_
  refine xt_get 0 45 d_SL_init_42 rfl g_SL_18 rfl rfl ?_
  refine ex_iload_n (a := nI 2) 46 d_SL_init_45 rfl rfl ?_
  refine xt_new (cb := 41) (sb := 960) [.int 0, .null, .null, .null, .null, .int 0, .int 0, .int 0, .int 0] 49 d_SL_init_46 rfl nw_SL_16 ⟨by omega, by omega⟩ (fun q35 => ?_)
  refine ex_dup 50 d_SL_init_49 rfl rfl ?_
  refine ex_iload_n (a := nI 2) 51 d_SL_init_50 rfl rfl ?_
  refine ex_iload_n (a := 5) 52 d_SL_init_51 rfl rfl ?_
  refine ex_aload_n (a := h) 53 d_SL_init_52 rfl rfl ?_
  refine xt_get 0 56 d_SL_init_53 rfl g_SL_12 rfl rfl ?_
  refine xt_callI (cb := 28) (sb := 646) [.int (nI 2), .int 5, .ref q1] [.ref q35, .int (nI 2), .ref q6] 59 d_SL_init_56 rfl zo_Node_init ⟨(Nat.le_of_ble_eq_true rfl), (Nat.le_of_ble_eq_true rfl)⟩ m_SL_22 zj_Node_init rfl rfl rfl rfl (Nat.le_of_ble_eq_true rfl) rfl (Nat.le_of_ble_eq_true rfl) (by rw [← List.append_assoc]; exact c_Node_init _ q35 q1 2 5 (by decide)) ⟨by omega, by omega⟩ (fun w hw => ?_)
  obtain ⟨q36, q37, q38, q39, q40, q41, q42, q43, q44, q45, q46, q47, q48, hw⟩ := hw
  rw [hw, List.append_assoc]
  refine xt_aast 6 35 60 d_SL_init_59 rfl rfl rfl rfl rfl rfl (by omega) (by omega) ?_
  refine ex_iinc (a := nI 2) (v := nI 3) 63 d_SL_init_60 rfl rfl (xn_inc rfl) ?_
  refine ex_goto 36 d_SL_init_63 rfl ?_
  refine ex_iload_n (a := nI 3) 37 d_SL_init_36 rfl rfl ?_
  refine ex_iload_n (a := 5) 38 d_SL_init_37 rfl rfl ?_
  refine ex_icmpge 66 41 d_SL_init_38 rfl rfl (fun h => absurd h (xn_nle (xn_lit 5) rfl (by omega) (by omega) (by omega))) (fun _ => ?_)
  refine ex_aload_n (a := h) 42 d_SL_init_41 rfl rfl ?_
  refine xt_get 0 45 d_SL_init_42 rfl g_SL_18 rfl rfl ?_
  refine ex_iload_n (a := nI 3) 46 d_SL_init_45 rfl rfl ?_
  refine xt_new (cb := 27) (sb := 637) [.int 0, .null, .null, .null, .null, .int 0, .int 0, .int 0, .int 0] 49 d_SL_init_46 rfl nw_SL_16 ⟨by omega, by omega⟩ (fun q49 => ?_)
  refine ex_dup 50 d_SL_init_49 rfl rfl ?_
  refine ex_iload_n (a := nI 3) 51 d_SL_init_50 rfl rfl ?_
  refine ex_iload_n (a := 5) 52 d_SL_init_51 rfl rfl ?_
  refine ex_aload_n (a := h) 53 d_SL_init_52 rfl rfl ?_
  refine xt_get 0 56 d_SL_init_53 rfl g_SL_12 rfl rfl ?_
  refine xt_callI (cb := 14) (sb := 323) [.int (nI 3), .int 5, .ref q1] [.ref q49, .int (nI 3), .ref q6] 59 d_SL_init_56 rfl zo_Node_init ⟨(Nat.le_of_ble_eq_true rfl), (Nat.le_of_ble_eq_true rfl)⟩ m_SL_22 zj_Node_init rfl rfl rfl rfl (Nat.le_of_ble_eq_true rfl) rfl (Nat.le_of_ble_eq_true rfl) (by rw [← List.append_assoc]; exact c_Node_init _ q49 q1 3 5 (by decide)) ⟨by omega, by omega⟩ (fun w hw => ?_)
  obtain ⟨q50, q51, q52, q53, q54, q55, q56, q57, q58, q59, q60, q61, q62, hw⟩ := hw
  rw [hw, List.append_assoc]
  refine xt_aast 6 49 60 d_SL_init_59 rfl rfl rfl rfl rfl rfl (by omega) (by omega) ?_
  refine ex_iinc (a := nI 3) (v := nI 4) 63 d_SL_init_60 rfl rfl (xn_inc rfl) ?_
  refine ex_goto 36 d_SL_init_63 rfl ?_
  refine ex_iload_n (a := nI 4) 37 d_SL_init_36 rfl rfl ?_
  refine ex_iload_n (a := 5) 38 d_SL_init_37 rfl rfl ?_
  refine ex_icmpge 66 41 d_SL_init_38 rfl rfl (fun h => absurd h (xn_nle (xn_lit 5) rfl (by omega) (by omega) (by omega))) (fun _ => ?_)
  refine ex_aload_n (a := h) 42 d_SL_init_41 rfl rfl ?_
  refine xt_get 0 45 d_SL_init_42 rfl g_SL_18 rfl rfl ?_
  refine ex_iload_n (a := nI 4) 46 d_SL_init_45 rfl rfl ?_
  refine xt_new (cb := 13) (sb := 314) [.int 0, .null, .null, .null, .null, .int 0, .int 0, .int 0, .int 0] 49 d_SL_init_46 rfl nw_SL_16 ⟨by omega, by omega⟩ (fun q63 => ?_)
  refine ex_dup 50 d_SL_init_49 rfl rfl ?_
  refine ex_iload_n (a := nI 4) 51 d_SL_init_50 rfl rfl ?_
  refine ex_iload_n (a := 5) 52 d_SL_init_51 rfl rfl ?_
  refine ex_aload_n (a := h) 53 d_SL_init_52 rfl rfl ?_
  refine xt_get 0 56 d_SL_init_53 rfl g_SL_12 rfl rfl ?_
  refine xt_callI (cb := 0) (sb := 0) [.int (nI 4), .int 5, .ref q1] [.ref q63, .int (nI 4), .ref q6] 59 d_SL_init_56 rfl zo_Node_init ⟨(Nat.le_of_ble_eq_true rfl), (Nat.le_of_ble_eq_true rfl)⟩ m_SL_22 zj_Node_init rfl rfl rfl rfl (Nat.le_of_ble_eq_true rfl) rfl (Nat.le_of_ble_eq_true rfl) (by rw [← List.append_assoc]; exact c_Node_init _ q63 q1 4 5 (by decide)) ⟨by omega, by omega⟩ (fun w hw => ?_)
  obtain ⟨q64, q65, q66, q67, q68, q69, q70, q71, q72, q73, q74, q75, q76, hw⟩ := hw
  rw [hw, List.append_assoc]
  refine xt_aast 6 63 60 d_SL_init_59 rfl rfl rfl rfl rfl rfl (by omega) (by omega) ?_
  refine ex_iinc (a := nI 4) (v := nI 5) 63 d_SL_init_60 rfl rfl (xn_inc rfl) ?_
  refine ex_goto 36 d_SL_init_63 rfl ?_
  refine ex_iload_n (a := nI 5) 37 d_SL_init_36 rfl rfl ?_
  refine ex_iload_n (a := 5) 38 d_SL_init_37 rfl rfl ?_
  refine ex_icmpge 66 41 d_SL_init_38 rfl rfl (fun _ => ?_) (fun h => absurd (xn_le (xn_lit 5) rfl (by omega) (by omega) (by omega)) h)
  refine ex_vret d_SL_init_66 rfl ⟨rfl, ?_⟩
  exact ⟨q1, q2, q3, q4, q5, q6, q7, q8, q9, q10, q11, q12, q13, q14, q15, q16, q17, q18, q19, q20, q21, q22, q23, q24, q25, q26, q27, q28, q29, q30, q31, q32, q33, q34, q35, q36, q37, q38, q39, q40, q41, q42, q43, q44, q45, q46, q47, q48, q49, q50, q51, q52, q53, q54, q55, q56, q57, q58, q59, q60, q61, q62, q63, q64, q65, q66, q67, q68, q69, q70, q71, q72, q73, q74, q75, q76, rfl⟩
end WK
