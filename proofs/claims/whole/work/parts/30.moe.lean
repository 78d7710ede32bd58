section WK
variable {G : xC} {ad : Nat → Nat} {N : Nat} {S M : sT}
set_option maxRecDepth 100000 in
set_option maxHeartbeats 4000000 in
theorem c_MO_promise (n : Nat) (hnN : n < N) (a : Nat) (ha : a < N) (hN : N ≤ 5) (hn : M 0 0 = nI N) : Ex G none mi_MO_promise 0 0 0 (xEn mi_MO_promise [.ref (ad (rp N 0)), .int (nI n), .int (nI a)]) [] (LR G ad N S M) (xI (fun v w => w = LR G ad N S (rPromS n a M) ∧ v = rPromR n a M)) := by
  have hnI : isN N (nI n) := isN_nI hnN hN
  have haI : isN N (nI a) := isN_nI ha hN
  have hloop : ∀ M1 : sT, (LR G ad N S (rPmL n a M1 8) = LR G ad N S (rPromS n a M) ∧ 1 = rPromR n a M) → ∀ k, k ≤ 8 → Ex G none mi_MO_promise 0 0 113 [some (.ref (ad (rp N 0))), some (.int (nI n)), some (.int (nI a)), some (.int (nI k))] [] (LR G ad N S (rPmL n a M1 k)) (xI (fun v w => w = LR G ad N S (rPromS n a M) ∧ v = rPromR n a M)) := by
    intro M1 hQ
    refine loop_down 8 ?_ ?_
    · skip
      refine ex_iload_n (a := nI 8) 114 d_MO_promise_113 rfl rfl ?_
      refine ex_bipush (v := 8) 116 d_MO_promise_114 rfl (by decide) ?_
      refine ex_icmpge 152 119 d_MO_promise_116 rfl rfl (fun _ => ?_) (fun h => absurd (xn_le (xn_lit 8) rfl (by omega) (by omega) (by omega)) h)
      refine ex_iconst (v := 1) 153 d_MO_promise_152 rfl (by decide) ?_
      refine ex_iret d_MO_promise_153 rfl ⟨_, rfl, ?_⟩
      exact hQ
    · intro k hk ih
      refine ex_iload_n (a := nI k) 114 d_MO_promise_113 rfl rfl ?_
      refine ex_bipush (v := 8) 116 d_MO_promise_114 rfl (by decide) ?_
      refine ex_icmpge 152 119 d_MO_promise_116 rfl rfl (fun h => absurd h (xn_nle (xn_lit 8) rfl (by omega) (by omega) (by omega))) (fun _ => ?_)
      refine ex_aload_n (a := ad (rp N 0)) 120 d_MO_promise_119 rfl rfl ?_
      refine xr_getR 123 d_MO_promise_120 rfl g_MO_59 (by decide) rfl rfl ?_
      refine ex_bipush (v := 40) 125 d_MO_promise_123 rfl (by decide) ?_
      refine ex_iload_n (a := nI n) 126 d_MO_promise_125 rfl rfl ?_
      refine ex_imulN (40 * n) 127 d_MO_promise_126 rfl (xn_lit 40) rfl (by omega) ?_
      refine ex_bipush (v := 8) 129 d_MO_promise_127 rfl (by decide) ?_
      refine ex_iload_n (a := nI a) 130 d_MO_promise_129 rfl rfl ?_
      refine ex_imulN (8 * a) 131 d_MO_promise_130 rfl (xn_lit 8) rfl (by omega) ?_
      refine ex_iaddN (8 * a + 40 * n) 132 d_MO_promise_131 rfl rfl rfl (by omega) ?_
      refine ex_iload_n (a := nI k) 133 d_MO_promise_132 rfl rfl ?_
      refine ex_iaddN (8 * a + k + 40 * n) 134 d_MO_promise_133 rfl rfl rfl (by omega) ?_
      refine ex_aload_n (a := ad (rp N 0)) 135 d_MO_promise_134 rfl rfl ?_
      refine xr_getR 138 d_MO_promise_135 rfl g_MO_44 (by decide) rfl rfl ?_
      refine ex_bipush (v := 8) 140 d_MO_promise_138 rfl (by decide) ?_
      refine ex_iload_n (a := nI a) 141 d_MO_promise_140 rfl rfl ?_
      refine ex_imulN (8 * a) 142 d_MO_promise_141 rfl (xn_lit 8) rfl (by omega) ?_
      refine ex_iload_n (a := nI k) 143 d_MO_promise_142 rfl rfl ?_
      refine ex_iaddN (8 * a + k) 144 d_MO_promise_143 rfl rfl rfl (by omega) ?_
      refine xr_iald 145 d_MO_promise_144 rfl (by decide) rfl rfl (by omega) (by omega) ?_
      refine xr_iast 146 d_MO_promise_145 rfl (by decide) rfl rfl (by omega) (by omega) ?_
      refine ex_iinc (a := nI k) (v := nI (k + 1)) 149 d_MO_promise_146 rfl rfl (xn_inc rfl) ?_
      refine ex_goto 113 d_MO_promise_149 rfl ?_
      exact Ex.wk ih (by repeat (first | exact xs_nil | refine xs_s ?_ | refine xs_n ?_))
  refine ex_aload_n (a := ad (rp N 0)) 1 d_MO_promise_0 rfl rfl ?_
  refine ex_iload_n (a := nI n) 2 d_MO_promise_1 rfl rfl ?_
  refine xr_callVi [.int (nI n)] [] 5 d_MO_promise_2 rfl zv_MO_isNode ⟨(Nat.le_of_ble_eq_true rfl), (Nat.le_of_ble_eq_true rfl)⟩ m_MO_101 (by decide) rfl rfl rfl (Nat.le_of_ble_eq_true rfl) rfl (Nat.le_of_ble_eq_true rfl) (c_MO_isNode (S := S) (M := M) (nI n) hn) (fun vv ww q1 => ?_)
  rw [q1.1, q1.2]
  refine Ex.int (zb_t hnI) ?_
  refine ex_ifeq 16 8 d_MO_promise_5 rfl rfl (fun h => absurd h (by decide)) (fun _ => ?_)
  refine ex_aload_n (a := ad (rp N 0)) 9 d_MO_promise_8 rfl rfl ?_
  refine ex_iload_n (a := nI a) 10 d_MO_promise_9 rfl rfl ?_
  refine xr_callVi [.int (nI a)] [] 13 d_MO_promise_10 rfl zv_MO_isNode ⟨(Nat.le_of_ble_eq_true rfl), (Nat.le_of_ble_eq_true rfl)⟩ m_MO_101 (by decide) rfl rfl rfl (Nat.le_of_ble_eq_true rfl) rfl (Nat.le_of_ble_eq_true rfl) (c_MO_isNode (S := S) (M := M) (nI a) hn) (fun vv ww q2 => ?_)
  rw [q2.1, q2.2]
  refine Ex.int (zb_t haI) ?_
  refine ex_ifne 18 16 d_MO_promise_13 rfl rfl (fun _ => ?_) (fun h => absurd h (by decide))
  refine ex_aload_n (a := ad (rp N 0)) 19 d_MO_promise_18 rfl rfl ?_
  refine xr_getR 22 d_MO_promise_19 rfl g_MO_25 (by decide) rfl rfl ?_
  refine ex_iload_n (a := nI n) 23 d_MO_promise_22 rfl rfl ?_
  refine xr_zald 24 d_MO_promise_23 rfl (by decide) rfl rfl (by omega) (by omega) ?_
  refine ex_ifeq 36 27 d_MO_promise_24 rfl rfl (fun h3 => ?_) (fun h3 => ?_)
  · refine ex_iconst (v := 0) 37 d_MO_promise_36 rfl (by decide) ?_
    refine ex_iret d_MO_promise_37 rfl ⟨_, rfl, ?_⟩
    refine ⟨?_, ?_⟩
    · unfold rPromS; rw [if_pos h3]
    · unfold rPromR; rw [if_pos h3]
  · refine ex_aload_n (a := ad (rp N 0)) 28 d_MO_promise_27 rfl rfl ?_
    refine xr_getR 31 d_MO_promise_28 rfl g_MO_38 (by decide) rfl rfl ?_
    refine ex_iload_n (a := nI n) 32 d_MO_promise_31 rfl rfl ?_
    refine xr_iald 33 d_MO_promise_32 rfl (by decide) rfl rfl (by omega) (by omega) ?_
    refine ex_ifne 38 36 d_MO_promise_33 rfl rfl (fun h4 => ?_) (fun h4 => ?_)
    · refine ex_aload_n (a := ad (rp N 0)) 39 d_MO_promise_38 rfl rfl ?_
      refine ex_iload_n (a := nI a) 40 d_MO_promise_39 rfl rfl ?_
      refine xr_callVi [.int (nI a)] [] 43 d_MO_promise_40 rfl zv_MO_isWorking ⟨(Nat.le_of_ble_eq_true rfl), (Nat.le_of_ble_eq_true rfl)⟩ m_MO_111 (by decide) rfl rfl rfl (Nat.le_of_ble_eq_true rfl) rfl (Nat.le_of_ble_eq_true rfl) (c_MO_isWorking (S := S) (M := M) a (by omega)) (fun vv ww q5 => ?_)
      rw [q5.1, q5.2]
      by_cases h6 : rWk a M
      · refine Ex.int (zb_t h6) ?_
        refine ex_ifne 49 46 d_MO_promise_43 rfl rfl (fun _ => ?_) (fun h => absurd h (by decide))
        refine ex_aload_n (a := ad (rp N 0)) 50 d_MO_promise_49 rfl rfl ?_
        refine xr_getR 53 d_MO_promise_50 rfl g_MO_35 (by decide) rfl rfl ?_
        refine ex_iload_n (a := nI a) 54 d_MO_promise_53 rfl rfl ?_
        refine xr_iald 55 d_MO_promise_54 rfl (by decide) rfl rfl (by omega) (by omega) ?_
        refine ex_aload_n (a := ad (rp N 0)) 56 d_MO_promise_55 rfl rfl ?_
        refine xr_getR 59 d_MO_promise_56 rfl g_MO_38 (by decide) rfl rfl ?_
        refine ex_iload_n (a := nI n) 60 d_MO_promise_59 rfl rfl ?_
        refine xr_iald 61 d_MO_promise_60 rfl (by decide) rfl rfl (by omega) (by omega) ?_
        refine ex_icmple 67 64 d_MO_promise_61 rfl rfl (fun h7 => ?_) (fun h7 => ?_)
        · refine ex_aload_n (a := ad (rp N 0)) 68 d_MO_promise_67 rfl rfl ?_
          refine xr_getR 71 d_MO_promise_68 rfl g_MO_35 (by decide) rfl rfl ?_
          refine ex_iload_n (a := nI a) 72 d_MO_promise_71 rfl rfl ?_
          refine xr_iald 73 d_MO_promise_72 rfl (by decide) rfl rfl (by omega) (by omega) ?_
          refine ex_aload_n (a := ad (rp N 0)) 74 d_MO_promise_73 rfl rfl ?_
          refine xr_getR 77 d_MO_promise_74 rfl g_MO_38 (by decide) rfl rfl ?_
          refine ex_iload_n (a := nI n) 78 d_MO_promise_77 rfl rfl ?_
          refine xr_iald 79 d_MO_promise_78 rfl (by decide) rfl rfl (by omega) (by omega) ?_
          refine ex_icmpge 99 82 d_MO_promise_79 rfl rfl (fun h8 => ?_) (fun h8 => ?_)
          · refine ex_aload_n (a := ad (rp N 0)) 100 d_MO_promise_99 rfl rfl ?_
            refine xr_getR 103 d_MO_promise_100 rfl g_MO_41 (by decide) rfl rfl ?_
            refine ex_iload_n (a := nI n) 104 d_MO_promise_103 rfl rfl ?_
            refine ex_dup2 105 d_MO_promise_104 rfl rfl rfl ?_
            refine xr_iald 106 d_MO_promise_105 rfl (by decide) rfl rfl (by omega) (by omega) ?_
            refine ex_iconst (v := 1) 107 d_MO_promise_106 rfl (by decide) ?_
            refine ex_iload_n (a := nI a) 108 d_MO_promise_107 rfl rfl ?_
            refine ex_ishl 109 d_MO_promise_108 rfl ?_
            refine ex_ior 110 d_MO_promise_109 rfl ?_
            refine xr_iast 111 d_MO_promise_110 rfl (by decide) rfl rfl (by omega) (by omega) ?_
            refine ex_iconst (v := 0) 112 d_MO_promise_111 rfl (by decide) ?_
            refine ex_istore_n 113 d_MO_promise_112 rfl (Nat.le_of_ble_eq_true rfl) ?_
            exact hloop M ⟨by unfold rPromS; rw [if_neg h3, if_neg h4, if_pos h6, if_pos h7, if_pos h8], by unfold rPromR; rw [if_neg h3, if_neg h4, if_pos h6, if_pos h7, if_pos h8]⟩ 0 (Nat.zero_le _)
          · refine ex_aload_n (a := ad (rp N 0)) 83 d_MO_promise_82 rfl rfl ?_
            refine ex_iload_n (a := nI a) 84 d_MO_promise_83 rfl rfl ?_
            refine ex_aload_n (a := ad (rp N 0)) 85 d_MO_promise_84 rfl rfl ?_
            refine xr_getR 88 d_MO_promise_85 rfl g_MO_38 (by decide) rfl rfl ?_
            refine ex_iload_n (a := nI n) 89 d_MO_promise_88 rfl rfl ?_
            refine xr_iald 90 d_MO_promise_89 rfl (by decide) rfl rfl (by omega) (by omega) ?_
            refine xr_callVi [.int (nI a), .int (M 10 n)] [] 93 d_MO_promise_90 rfl zv_MO_writePromise ⟨(Nat.le_of_ble_eq_true rfl), (Nat.le_of_ble_eq_true rfl)⟩ m_MO_115 (by decide) rfl rfl rfl (Nat.le_of_ble_eq_true rfl) rfl (Nat.le_of_ble_eq_true rfl) (c_MO_writePromise (S := S) (M := M) a (by omega) (M 10 n)) (fun vv ww q9 => ?_)
            rw [q9.1, q9.2]
            by_cases h10 : rWPok a (M 10 n) M
            · refine Ex.int (zb_t h10) ?_
              refine ex_ifne 99 96 d_MO_promise_93 rfl rfl (fun _ => ?_) (fun h => absurd h (by decide))
              refine ex_aload_n (a := ad (rp N 0)) 100 d_MO_promise_99 rfl rfl ?_
              refine xr_getR 103 d_MO_promise_100 rfl g_MO_41 (by decide) rfl rfl ?_
              refine ex_iload_n (a := nI n) 104 d_MO_promise_103 rfl rfl ?_
              refine ex_dup2 105 d_MO_promise_104 rfl rfl rfl ?_
              refine xr_iald 106 d_MO_promise_105 rfl (by decide) rfl rfl (by omega) (by omega) ?_
              refine ex_iconst (v := 1) 107 d_MO_promise_106 rfl (by decide) ?_
              refine ex_iload_n (a := nI a) 108 d_MO_promise_107 rfl rfl ?_
              refine ex_ishl 109 d_MO_promise_108 rfl ?_
              refine ex_ior 110 d_MO_promise_109 rfl ?_
              refine xr_iast 111 d_MO_promise_110 rfl (by decide) rfl rfl (by omega) (by omega) ?_
              refine ex_iconst (v := 0) 112 d_MO_promise_111 rfl (by decide) ?_
              refine ex_istore_n 113 d_MO_promise_112 rfl (Nat.le_of_ble_eq_true rfl) ?_
              exact hloop (rWP a (M 10 n) M) ⟨by unfold rPromS; rw [if_neg h3, if_neg h4, if_pos h6, if_pos h7, if_neg h8, if_pos h10], by unfold rPromR; rw [if_neg h3, if_neg h4, if_pos h6, if_pos h7, if_neg h8, if_pos h10]⟩ 0 (Nat.zero_le _)
            · refine Ex.int (zb_f h10) ?_
              refine ex_ifne 99 96 d_MO_promise_93 rfl rfl (fun h => absurd (by decide) h) (fun _ => ?_)
              refine ex_bipush (v := (-4)) 98 d_MO_promise_96 rfl (by decide) ?_
              refine ex_iret d_MO_promise_98 rfl ⟨_, rfl, ?_⟩
              refine ⟨?_, ?_⟩
              · unfold rPromS; rw [if_neg h3, if_neg h4, if_pos h6, if_pos h7, if_neg h8, if_neg h10]
              · unfold rPromR; rw [if_neg h3, if_neg h4, if_pos h6, if_pos h7, if_neg h8, if_neg h10]
        · refine ex_bipush (v := (-3)) 66 d_MO_promise_64 rfl (by decide) ?_
          refine ex_iret d_MO_promise_66 rfl ⟨_, rfl, ?_⟩
          refine ⟨?_, ?_⟩
          · unfold rPromS; rw [if_neg h3, if_neg h4, if_pos h6, if_neg h7]
          · unfold rPromR; rw [if_neg h3, if_neg h4, if_pos h6, if_neg h7]
      · refine Ex.int (zb_f h6) ?_
        refine ex_ifne 49 46 d_MO_promise_43 rfl rfl (fun h => absurd (by decide) h) (fun _ => ?_)
        refine ex_bipush (v := (-2)) 48 d_MO_promise_46 rfl (by decide) ?_
        refine ex_iret d_MO_promise_48 rfl ⟨_, rfl, ?_⟩
        refine ⟨?_, ?_⟩
        · unfold rPromS; rw [if_neg h3, if_neg h4, if_neg h6]
        · unfold rPromR; rw [if_neg h3, if_neg h4, if_neg h6]
    · refine ex_iconst (v := 0) 37 d_MO_promise_36 rfl (by decide) ?_
      refine ex_iret d_MO_promise_37 rfl ⟨_, rfl, ?_⟩
      refine ⟨?_, ?_⟩
      · unfold rPromS; rw [if_neg h3, if_pos h4]
      · unfold rPromR; rw [if_neg h3, if_pos h4]
set_option maxRecDepth 100000 in
set_option maxHeartbeats 4000000 in
theorem rLast_le (N n : Nat) (M : sT) : ∀ k, rLast N n M k ≤ k
  | 0 => Nat.le_refl _
  | k + 1 => by
    have h := rLast_le N n M k
    unfold rLast
    split <;> omega
set_option maxRecDepth 100000 in
set_option maxHeartbeats 4000000 in
theorem c_MO_routeL (n : Nat) (hnN : n < N) (hN : N ≤ 5) (hn : M 0 0 = nI N) (q : Int32) : ∀ (m k : Nat), k + m = 8 → Ex G none mi_MO_route 0 0 88 [some (.ref (ad (rp N 0))), some (.int q), some (.int (nI n)), some (.int (nI (rLast N n M k))), some (.int (nI (k + 1)))] [] (LR G ad N S M) (xI (fun v w => w = LR G ad N S (if rAsg n M q m k = 0 then (if rLast N n M 8 = 8 then M else u2 M 13 (rLast N n M 8 + 8 * n) q) else M) ∧ v = (if rAsg n M q m k = 0 then (if rLast N n M 8 = 8 then (-2) else nI (rLast N n M 8 + 1)) else nI (rAsg n M q m k)))) := by
    intro m
    induction m with
    | zero =>
      intro k hk
      obtain rfl : k = 8 := by omega
      have h9 := rLast_le N n M 8
      refine ex_iload (a := nI 9) 90 d_MO_route_88 rfl rfl ?_
      refine ex_bipush (v := 8) 92 d_MO_route_90 rfl (by decide) ?_
      refine ex_icmpgt 139 95 d_MO_route_92 rfl rfl (fun _ => ?_) (fun h => absurd (xn_lt (xn_lit 8) rfl (by omega) (by omega) (by omega)) h)
      refine ex_iload_n (a := nI (rLast N n M 8)) 140 d_MO_route_139 rfl rfl ?_
      refine ex_bipush (v := 8) 142 d_MO_route_140 rfl (by decide) ?_
      refine ex_icmpne 148 145 d_MO_route_142 rfl rfl (fun h1 => ?_) (fun h1 => ?_)
      · have h8 : ¬ rLast N n M 8 = 8 := fun z => h1 (by rw [z]; rfl)
        refine ex_aload_n (a := ad (rp N 0)) 149 d_MO_route_148 rfl rfl ?_
        refine xr_getR 152 d_MO_route_149 rfl g_MO_47 (by decide) rfl rfl ?_
        refine ex_bipush (v := 8) 154 d_MO_route_152 rfl (by decide) ?_
        refine ex_iload_n (a := nI n) 155 d_MO_route_154 rfl rfl ?_
        refine ex_imulN (8 * n) 156 d_MO_route_155 rfl (xn_lit 8) rfl (by omega) ?_
        refine ex_iload_n (a := nI (rLast N n M 8)) 157 d_MO_route_156 rfl rfl ?_
        refine ex_iaddN ((rLast N n M 8) + 8 * n) 158 d_MO_route_157 rfl rfl rfl (by omega) ?_
        refine ex_iload_n (a := q) 159 d_MO_route_158 rfl rfl ?_
        refine xr_iast 160 d_MO_route_159 rfl (by decide) rfl rfl (by omega) (by omega) ?_
        refine ex_iload_n (a := nI (rLast N n M 8)) 161 d_MO_route_160 rfl rfl ?_
        refine ex_iconst (v := 1) 162 d_MO_route_161 rfl (by decide) ?_
        refine ex_iaddN ((rLast N n M 8) + 1) 163 d_MO_route_162 rfl rfl (xn_lit 1) (by omega) ?_
        refine ex_iret d_MO_route_163 rfl ⟨_, rfl, ?_⟩
        exact ⟨by rw [if_pos (show rAsg n M q 0 8 = 0 from rfl), if_neg h8], by rw [if_pos (show rAsg n M q 0 8 = 0 from rfl), if_neg h8]⟩
      · refine ex_bipush (v := (-2)) 147 d_MO_route_145 rfl (by decide) ?_
        refine ex_iret d_MO_route_147 rfl ⟨_, rfl, ?_⟩
        have h8 : rLast N n M 8 = 8 := (nI_eq (b := 8) (by omega) (by decide)).mp h1
        exact ⟨by rw [if_pos (show rAsg n M q 0 8 = 0 from rfl), if_pos h8], by rw [if_pos (show rAsg n M q 0 8 = 0 from rfl), if_pos h8]⟩
    | succ m ih =>
      intro k hk
      refine ex_iload (a := nI (k + 1)) 90 d_MO_route_88 rfl rfl ?_
      refine ex_bipush (v := 8) 92 d_MO_route_90 rfl (by decide) ?_
      refine ex_icmpgt 139 95 d_MO_route_92 rfl rfl (fun h => absurd h (xn_nlt (xn_lit 8) rfl (by omega) (by omega) (by omega))) (fun _ => ?_)
      refine ex_aload_n (a := ad (rp N 0)) 96 d_MO_route_95 rfl rfl ?_
      refine xr_getR 99 d_MO_route_96 rfl g_MO_47 (by decide) rfl rfl ?_
      refine ex_bipush (v := 8) 101 d_MO_route_99 rfl (by decide) ?_
      refine ex_iload_n (a := nI n) 102 d_MO_route_101 rfl rfl ?_
      refine ex_imulN (8 * n) 103 d_MO_route_102 rfl (xn_lit 8) rfl (by omega) ?_
      refine ex_iload (a := nI (k + 1)) 105 d_MO_route_103 rfl rfl ?_
      refine ex_iaddN (k + 8 * n + 1) 106 d_MO_route_105 rfl rfl rfl (by omega) ?_
      refine ex_iconst (v := 1) 107 d_MO_route_106 rfl (by decide) ?_
      refine ex_isubN (k + 8 * n) 108 d_MO_route_107 rfl rfl (xn_lit 1) (by omega) ?_
      refine xr_iald 109 d_MO_route_108 rfl (by decide) rfl rfl (by omega) (by omega) ?_
      refine ex_iload_n (a := q) 110 d_MO_route_109 rfl rfl ?_
      refine ex_icmpne 116 113 d_MO_route_110 rfl rfl (fun h1 => ?_) (fun h1 => ?_)
      · refine ex_aload_n (a := ad (rp N 0)) 117 d_MO_route_116 rfl rfl ?_
        refine ex_iload_n (a := nI n) 118 d_MO_route_117 rfl rfl ?_
        refine ex_iload (a := nI (k + 1)) 120 d_MO_route_118 rfl rfl ?_
        refine xr_callVi [.int (nI n), .int (nI (k + 1))] [] 123 d_MO_route_120 rfl zv_MO_isUsed ⟨(Nat.le_of_ble_eq_true rfl), (Nat.le_of_ble_eq_true rfl)⟩ m_MO_133 (by decide) rfl rfl rfl (Nat.le_of_ble_eq_true rfl) rfl (Nat.le_of_ble_eq_true rfl) (c_MO_isUsed (S := S) (M := M) n k (by omega) (by omega) hN hn) (fun vv ww q2 => ?_)
        rw [q2.1, q2.2]
        by_cases h3 : rUsed N n k M
        · refine Ex.int (zb_t h3) ?_
          refine ex_ifeq 131 126 d_MO_route_123 rfl rfl (fun h => absurd h (by decide)) (fun _ => ?_)
          refine ex_iload (a := nI (k + 1)) 128 d_MO_route_126 rfl rfl ?_
          refine ex_goto 132 d_MO_route_128 rfl ?_
          refine ex_istore_n 133 d_MO_route_132 rfl (Nat.le_of_ble_eq_true rfl) ?_
          refine ex_iinc (a := nI (k + 1)) (v := nI (k + 2)) 136 d_MO_route_133 rfl rfl (xn_inc rfl) ?_
          refine ex_goto 88 d_MO_route_136 rfl ?_
          rw [show rAsg n M q (m + 1) k = rAsg n M q m (k + 1) from if_neg h1]
          have e9 : rLast N n M (k + 1) = k + 1 := if_pos h3
          have ih := ih (k + 1) (by omega)
          rw [e9] at ih
          exact Ex.wk ih (by repeat (first | exact xs_nil | refine xs_s ?_ | refine xs_n ?_))
        · refine Ex.int (zb_f h3) ?_
          refine ex_ifeq 131 126 d_MO_route_123 rfl rfl (fun _ => ?_) (fun h => absurd (by decide) h)
          refine ex_iload_n (a := nI (rLast N n M k)) 132 d_MO_route_131 rfl rfl ?_
          refine ex_istore_n 133 d_MO_route_132 rfl (Nat.le_of_ble_eq_true rfl) ?_
          refine ex_iinc (a := nI (k + 1)) (v := nI (k + 2)) 136 d_MO_route_133 rfl rfl (xn_inc rfl) ?_
          refine ex_goto 88 d_MO_route_136 rfl ?_
          rw [show rAsg n M q (m + 1) k = rAsg n M q m (k + 1) from if_neg h1]
          have e9 : rLast N n M (k + 1) = rLast N n M k := if_neg h3
          have ih := ih (k + 1) (by omega)
          rw [e9] at ih
          exact Ex.wk ih (by repeat (first | exact xs_nil | refine xs_s ?_ | refine xs_n ?_))
      · refine ex_iload (a := nI (k + 1)) 115 d_MO_route_113 rfl rfl ?_
        refine ex_iret d_MO_route_115 rfl ⟨_, rfl, ?_⟩
        rw [show rAsg n M q (m + 1) k = k + 1 from if_pos h1]
        exact ⟨by rw [if_neg (by omega)], by rw [if_neg (by omega)]⟩
set_option maxRecDepth 100000 in
set_option maxHeartbeats 4000000 in
theorem rPlay_0 {n : Nat} {M : sT} : rPlay n M 0 0 = M 0 0 := by
  have h1 : ∀ k, rMapL M k 0 0 = M 0 0 := by
    intro k
    induction k with
    | zero => rfl
    | succ k ih => unfold rMapL; rw [u2_off (by omega), ih]
  have h2 : ∀ (M : sT) k, rDidL M k 0 0 = M 0 0 := by
    intro M k
    induction k with
    | zero => rfl
    | succ k ih => unfold rDidL; rw [u2_off (by omega), ih]
  have h3 : ∀ (c : Int32) (M : sT), rDo c M 0 0 = M 0 0 := by
    intro c M
    unfold rDo
    split
    · unfold rDoQ
      rw [u2_off (by omega), u2_off (by omega), u2_off (by omega)]
    · rfl
  have h4 : ∀ m d (M : sT), rPlayL n m d M 0 0 = M 0 0 := by
    intro m
    induction m with
    | zero => intro d M; rfl
    | succ m ih =>
      intro d M
      unfold rPlayL
      split
      · rfl
      · rw [ih, u2_off (by decide), h3]
  unfold rPlay
  rw [h4, u2_off (by decide), h2, h1]
set_option maxRecDepth 100000 in
set_option maxHeartbeats 4000000 in
theorem c_MO_route (n : Nat) (hnN : n < N) (hN : N ≤ 5) (hn : M 0 0 = nI N) (q r : Nat) (hr : M 0 1 = nI r) (hq1 : 1 ≤ q) (hqr : q ≤ r) (hr30 : r ≤ 30) (hok : rPok n M) : Ex G none mi_MO_route 0 0 0 (xEn mi_MO_route [.ref (ad (rp N 0)), .int (nI q), .int (nI n)]) [] (LR G ad N S M) (xI (fun v w => w = LR G ad N S (rRouteS N q n M) ∧ v = rRouteR N q n M)) := by
  have hnI : isN N (nI n) := isN_nI hnN hN
  refine ex_iload_n (a := nI q) 1 d_MO_route_0 rfl rfl ?_
  refine ex_iconst (v := 1) 2 d_MO_route_1 rfl (by decide) ?_
  refine ex_icmplt 21 5 d_MO_route_2 rfl rfl (fun h => absurd h (xn_nlt rfl (xn_lit 1) (by omega) (by omega) (by omega))) (fun _ => ?_)
  refine ex_iload_n (a := nI q) 6 d_MO_route_5 rfl rfl ?_
  refine ex_aload_n (a := ad (rp N 0)) 7 d_MO_route_6 rfl rfl ?_
  refine xr_get 10 d_MO_route_7 rfl g_MO_82 (by decide) rfl rfl ?_
  refine ex_icmpgt 21 13 d_MO_route_10 rfl rfl (fun h => absurd h (xn_nlt hr rfl (by omega) (by omega) (by omega))) (fun _ => ?_)
  refine ex_aload_n (a := ad (rp N 0)) 14 d_MO_route_13 rfl rfl ?_
  refine ex_iload_n (a := nI n) 15 d_MO_route_14 rfl rfl ?_
  refine xr_callVi [.int (nI n)] [] 18 d_MO_route_15 rfl zv_MO_isNode ⟨(Nat.le_of_ble_eq_true rfl), (Nat.le_of_ble_eq_true rfl)⟩ m_MO_101 (by decide) rfl rfl rfl (Nat.le_of_ble_eq_true rfl) rfl (Nat.le_of_ble_eq_true rfl) (c_MO_isNode (S := S) (M := M) (nI n) hn) (fun vv ww q1 => ?_)
  rw [q1.1, q1.2]
  refine Ex.int (zb_t hnI) ?_
  refine ex_ifne 23 21 d_MO_route_18 rfl rfl (fun _ => ?_) (fun h => absurd h (by decide))
  refine ex_aload_n (a := ad (rp N 0)) 24 d_MO_route_23 rfl rfl ?_
  refine xr_getR 27 d_MO_route_24 rfl g_MO_25 (by decide) rfl rfl ?_
  refine ex_iload_n (a := nI n) 28 d_MO_route_27 rfl rfl ?_
  refine xr_zald 29 d_MO_route_28 rfl (by decide) rfl rfl (by omega) (by omega) ?_
  refine ex_ifne 34 32 d_MO_route_29 rfl rfl (fun h2 => ?_) (fun h2 => ?_)
  · refine ex_aload_n (a := ad (rp N 0)) 35 d_MO_route_34 rfl rfl ?_
    refine ex_iload_n (a := nI n) 36 d_MO_route_35 rfl rfl ?_
    refine xr_callVv [.int (nI n)] [] 39 d_MO_route_36 rfl zv_MO_play ⟨(Nat.le_of_ble_eq_true rfl), (Nat.le_of_ble_eq_true rfl)⟩ m_MO_127 (by decide) rfl rfl rfl (Nat.le_of_ble_eq_true rfl) rfl (Nat.le_of_ble_eq_true rfl) (c_MO_play (S := S) (M := M) n (by omega) hok) (fun ww q3 => ?_)
    rw [q3]
    refine ex_aload_n (a := ad (rp N 0)) 40 d_MO_route_39 rfl rfl ?_
    refine xr_getR 43 d_MO_route_40 rfl g_MO_65 (by decide) rfl rfl ?_
    refine ex_iload_n (a := nI q) 44 d_MO_route_43 rfl rfl ?_
    refine xr_zald 45 d_MO_route_44 rfl (by decide) rfl rfl (by omega) (by omega) ?_
    refine ex_ifeq 73 48 d_MO_route_45 rfl rfl (fun h4 => ?_) (fun h4 => ?_)
    · refine ex_aload_n (a := ad (rp N 0)) 74 d_MO_route_73 rfl rfl ?_
      refine ex_iload_n (a := nI n) 75 d_MO_route_74 rfl rfl ?_
      refine xr_callVi [.int (nI n)] [] 78 d_MO_route_75 rfl zv_MO_leads ⟨(Nat.le_of_ble_eq_true rfl), (Nat.le_of_ble_eq_true rfl)⟩ m_MO_130 (by decide) rfl rfl rfl (Nat.le_of_ble_eq_true rfl) rfl (Nat.le_of_ble_eq_true rfl) (c_MO_leads (S := S) (M := (rPlay n M)) n (by omega)) (fun vv ww q5 => ?_)
      rw [q5.1, q5.2]
      by_cases h6 : rLds n (rPlay n M)
      · refine Ex.int (zb_t h6) ?_
        refine ex_ifne 83 81 d_MO_route_78 rfl rfl (fun _ => ?_) (fun h => absurd h (by decide))
        refine ex_iconst (v := 0) 84 d_MO_route_83 rfl (by decide) ?_
        refine ex_istore_n 85 d_MO_route_84 rfl (Nat.le_of_ble_eq_true rfl) ?_
        refine ex_iconst (v := 1) 86 d_MO_route_85 rfl (by decide) ?_
        refine ex_istore 88 d_MO_route_86 rfl (Nat.le_of_ble_eq_true rfl) ?_
        refine Ex.wk ((c_MO_routeL (M := rPlay n M) n hnN hN (by rw [rPlay_0]; exact hn) (nI q) 8 0 rfl).mono (fun r w h => ?_)) (by repeat (first | exact xs_nil | refine xs_s ?_ | refine xs_n ?_))
        obtain ⟨v, rfl, g1, g2⟩ := h
        exact ⟨v, rfl, by unfold rRouteS; rw [if_neg h2, if_pos h4, if_pos h6]; exact g1, by unfold rRouteR; rw [if_neg h2, if_pos h4, if_pos h6]; exact g2⟩
      · refine Ex.int (zb_f h6) ?_
        refine ex_ifne 83 81 d_MO_route_78 rfl rfl (fun h => absurd (by decide) h) (fun _ => ?_)
        refine ex_iconst (v := 0) 82 d_MO_route_81 rfl (by decide) ?_
        refine ex_iret d_MO_route_82 rfl ⟨_, rfl, ?_⟩
        refine ⟨?_, ?_⟩
        · unfold rRouteS; rw [if_neg h2, if_pos h4, if_neg h6]
        · unfold rRouteR; rw [if_neg h2, if_pos h4, if_neg h6]
    · refine ex_aload_n (a := ad (rp N 0)) 49 d_MO_route_48 rfl rfl ?_
      refine xr_getR 52 d_MO_route_49 rfl g_MO_16 (by decide) rfl rfl ?_
      refine ex_iload_n (a := nI q) 53 d_MO_route_52 rfl rfl ?_
      refine ex_aload_n (a := ad (rp N 0)) 54 d_MO_route_53 rfl rfl ?_
      refine xr_getR 57 d_MO_route_54 rfl g_MO_68 (by decide) rfl rfl ?_
      refine ex_iload_n (a := nI q) 58 d_MO_route_57 rfl rfl ?_
      refine xr_iald 59 d_MO_route_58 rfl (by decide) rfl rfl (by omega) (by omega) ?_
      refine xr_iast 60 d_MO_route_59 rfl (by decide) rfl rfl (by omega) (by omega) ?_
      refine ex_aload_n (a := ad (rp N 0)) 61 d_MO_route_60 rfl rfl ?_
      refine xr_getR 64 d_MO_route_61 rfl g_MO_19 (by decide) rfl rfl ?_
      refine ex_iload_n (a := nI q) 65 d_MO_route_64 rfl rfl ?_
      refine ex_dup2 66 d_MO_route_65 rfl rfl rfl ?_
      refine xr_iald 67 d_MO_route_66 rfl (by decide) rfl rfl (by omega) (by omega) ?_
      refine ex_iconst (v := 1) 68 d_MO_route_67 rfl (by decide) ?_
      refine ex_iadd 69 d_MO_route_68 rfl ?_
      refine xr_iast 70 d_MO_route_69 rfl (by decide) rfl rfl (by omega) (by omega) ?_
      refine ex_bipush (v := 100) 72 d_MO_route_70 rfl (by decide) ?_
      refine ex_iret d_MO_route_72 rfl ⟨_, rfl, ?_⟩
      refine ⟨?_, ?_⟩
      · unfold rRouteS; rw [if_neg h2, if_neg h4]; rfl
      · unfold rRouteR; rw [if_neg h2, if_neg h4]
  · refine ex_iconst (v := 0) 33 d_MO_route_32 rfl (by decide) ?_
    refine ex_iret d_MO_route_33 rfl ⟨_, rfl, ?_⟩
    refine ⟨?_, ?_⟩
    · unfold rRouteS; rw [if_pos h2]
    · unfold rRouteR; rw [if_pos h2]
set_option maxRecDepth 100000 in
set_option maxHeartbeats 4000000 in
theorem c_MO_vote2 (n : Nat) (hnN : n < N) (a : Nat) (ha : a < N) (hN : N ≤ 5) (t : Nat) (ht : t < 8) (c b : Int32) : Ex G none mi_MO_vote 0 0 179 [some (.ref (ad (rp N 0))), some (.int (nI n)), some (.int (nI a)), some (.int (nI (t + 1))), some (.int (nI (8 * n + t))), some (.int b), none, some (.int c)] [] (LR G ad N S M) (xI (fun v w => w = LR G ad N S (rV2S n a t c b M) ∧ v = rV2R n a t c b M)) := by
  refine ex_aload_n (a := ad (rp N 0)) 180 d_MO_vote_179 rfl rfl ?_
  refine ex_iload_n (a := nI a) 181 d_MO_vote_180 rfl rfl ?_
  refine ex_iload_n (a := nI (t + 1)) 182 d_MO_vote_181 rfl rfl ?_
  refine ex_iload (a := c) 184 d_MO_vote_182 rfl rfl ?_
  refine ex_iload (a := b) 186 d_MO_vote_184 rfl rfl ?_
  refine xr_callVi [.int (nI a), .int (nI (t + 1)), .int c, .int b] [] 189 d_MO_vote_186 rfl zv_MO_writeVote ⟨(Nat.le_of_ble_eq_true rfl), (Nat.le_of_ble_eq_true rfl)⟩ m_MO_139 (by decide) rfl rfl rfl (Nat.le_of_ble_eq_true rfl) rfl (Nat.le_of_ble_eq_true rfl) (c_MO_writeVote (S := S) (M := M) a t (by omega) (by omega) c b) (fun vv ww q1 => ?_)
  rw [q1.1, q1.2]
  by_cases h2 : rWVok a t c b M
  · refine Ex.int (zb_t h2) ?_
    refine ex_ifne 195 192 d_MO_vote_189 rfl rfl (fun _ => ?_) (fun h => absurd h (by decide))
    refine ex_aload_n (a := ad (rp N 0)) 196 d_MO_vote_195 rfl rfl ?_
    refine xr_getR 199 d_MO_vote_196 rfl g_MO_56 (by decide) rfl rfl ?_
    refine ex_iload (a := nI (8 * n + t)) 201 d_MO_vote_199 rfl rfl ?_
    refine ex_dup2 202 d_MO_vote_201 rfl rfl rfl ?_
    refine xr_iald 203 d_MO_vote_202 rfl (by decide) rfl rfl (by omega) (by omega) ?_
    refine ex_iconst (v := 1) 204 d_MO_vote_203 rfl (by decide) ?_
    refine ex_iload_n (a := nI a) 205 d_MO_vote_204 rfl rfl ?_
    refine ex_ishl 206 d_MO_vote_205 rfl ?_
    refine ex_ior 207 d_MO_vote_206 rfl ?_
    refine xr_iast 208 d_MO_vote_207 rfl (by decide) rfl rfl (by omega) (by omega) ?_
    refine ex_aload_n (a := ad (rp N 0)) 209 d_MO_vote_208 rfl rfl ?_
    refine xr_getR 212 d_MO_vote_209 rfl g_MO_53 (by decide) rfl rfl ?_
    refine ex_iload (a := nI (8 * n + t)) 214 d_MO_vote_212 rfl rfl ?_
    refine xr_iald 215 d_MO_vote_214 rfl (by decide) rfl rfl (by omega) (by omega) ?_
    refine ex_ifge 232 218 d_MO_vote_215 rfl rfl (fun h3 => ?_) (fun h3 => ?_)
    · refine ex_iconst (v := 1) 233 d_MO_vote_232 rfl (by decide) ?_
      refine ex_iret d_MO_vote_233 rfl ⟨_, rfl, ?_⟩
      refine ⟨?_, ?_⟩
      · unfold rV2S rVa; rw [if_pos h2, if_neg (Int32.not_lt.mpr h3)]
      · unfold rV2R rVa; rw [if_pos h2, if_neg (Int32.not_lt.mpr h3)]
    · refine ex_aload_n (a := ad (rp N 0)) 219 d_MO_vote_218 rfl rfl ?_
      refine ex_aload_n (a := ad (rp N 0)) 220 d_MO_vote_219 rfl rfl ?_
      refine xr_getR 223 d_MO_vote_220 rfl g_MO_56 (by decide) rfl rfl ?_
      refine ex_iload (a := nI (8 * n + t)) 225 d_MO_vote_223 rfl rfl ?_
      refine xr_iald 226 d_MO_vote_225 rfl (by decide) rfl rfl (by omega) (by omega) ?_
      refine xr_callVi [.int ((u2 (rWV a t c b M) 16 (8 * n + t) (((rWV a t c b M) 16 (8 * n + t) ||| (1 <<< (nI a &&& 31))))) 16 (8 * n + t))] [] 229 d_MO_vote_226 rfl zv_MO_isMany ⟨(Nat.le_of_ble_eq_true rfl), (Nat.le_of_ble_eq_true rfl)⟩ m_MO_118 (by decide) rfl rfl rfl (Nat.le_of_ble_eq_true rfl) rfl (Nat.le_of_ble_eq_true rfl) (c_MO_isMany (S := S) (M := (u2 (rWV a t c b M) 16 (8 * n + t) (((rWV a t c b M) 16 (8 * n + t) ||| (1 <<< (nI a &&& 31)))))) ((u2 (rWV a t c b M) 16 (8 * n + t) (((rWV a t c b M) 16 (8 * n + t) ||| (1 <<< (nI a &&& 31))))) 16 (8 * n + t))) (fun vv ww q4 => ?_)
      rw [q4.1, q4.2]
      by_cases h5 : rMany (u2 (rWV a t c b M) 16 (8 * n + t) (((rWV a t c b M) 16 (8 * n + t) ||| (1 <<< (nI a &&& 31))))) ((u2 (rWV a t c b M) 16 (8 * n + t) (((rWV a t c b M) 16 (8 * n + t) ||| (1 <<< (nI a &&& 31))))) 16 (8 * n + t))
      · refine Ex.int (zb_t h5) ?_
        refine ex_ifne 234 232 d_MO_vote_229 rfl rfl (fun _ => ?_) (fun h => absurd h (by decide))
        refine ex_aload_n (a := ad (rp N 0)) 235 d_MO_vote_234 rfl rfl ?_
        refine xr_getR 238 d_MO_vote_235 rfl g_MO_53 (by decide) rfl rfl ?_
        refine ex_iload (a := nI (8 * n + t)) 240 d_MO_vote_238 rfl rfl ?_
        refine ex_iload (a := c) 242 d_MO_vote_240 rfl rfl ?_
        refine xr_iast 243 d_MO_vote_242 rfl (by decide) rfl rfl (by omega) (by omega) ?_
        refine ex_iconst (v := 2) 244 d_MO_vote_243 rfl (by decide) ?_
        refine ex_iret d_MO_vote_244 rfl ⟨_, rfl, ?_⟩
        refine ⟨?_, ?_⟩
        · unfold rV2S rVa; rw [if_pos h2, if_pos (Int32.not_le.mp h3), if_pos h5]
        · unfold rV2R rVa; rw [if_pos h2, if_pos (Int32.not_le.mp h3), if_pos h5]
      · refine Ex.int (zb_f h5) ?_
        refine ex_ifne 234 232 d_MO_vote_229 rfl rfl (fun h => absurd (by decide) h) (fun _ => ?_)
        refine ex_iconst (v := 1) 233 d_MO_vote_232 rfl (by decide) ?_
        refine ex_iret d_MO_vote_233 rfl ⟨_, rfl, ?_⟩
        refine ⟨?_, ?_⟩
        · unfold rV2S rVa; rw [if_pos h2, if_pos (Int32.not_le.mp h3), if_neg h5]
        · unfold rV2R rVa; rw [if_pos h2, if_pos (Int32.not_le.mp h3), if_neg h5]
  · refine Ex.int (zb_f h2) ?_
    refine ex_ifne 195 192 d_MO_vote_189 rfl rfl (fun h => absurd (by decide) h) (fun _ => ?_)
    refine ex_bipush (v := (-4)) 194 d_MO_vote_192 rfl (by decide) ?_
    refine ex_iret d_MO_vote_194 rfl ⟨_, rfl, ?_⟩
    refine ⟨?_, ?_⟩
    · unfold rV2S rVa; rw [if_neg h2]
    · unfold rV2R rVa; rw [if_neg h2]
set_option maxRecDepth 100000 in
set_option maxHeartbeats 4000000 in
theorem c_MO_vote1 (n : Nat) (hnN : n < N) (a : Nat) (ha : a < N) (hN : N ≤ 5) (t : Nat) (ht : t < 8) (p b : Int32) (hp2 : ¬ p = (-2)) : Ex G none mi_MO_vote 0 0 120 [some (.ref (ad (rp N 0))), some (.int (nI n)), some (.int (nI a)), some (.int (nI (t + 1))), some (.int (nI (8 * n + t))), some (.int b), some (.int p), none] [] (LR G ad N S M) (xI (fun v w => w = LR G ad N S (rV1S n a t b (rVf n t p M)) ∧ v = rV1R n a t b (rVf n t p M))) := by
  refine ex_aload_n (a := ad (rp N 0)) 121 d_MO_vote_120 rfl rfl ?_
  refine xr_getR 124 d_MO_vote_121 rfl g_MO_50 (by decide) rfl rfl ?_
  refine ex_iload (a := nI (8 * n + t)) 126 d_MO_vote_124 rfl rfl ?_
  refine ex_iload (a := p) 128 d_MO_vote_126 rfl rfl ?_
  refine ex_bipush (v := (-3)) 130 d_MO_vote_128 rfl (by decide) ?_
  refine ex_icmpne 143 133 d_MO_vote_130 rfl rfl (fun h1 => ?_) (fun h1 => ?_)
  · refine ex_iload (a := p) 145 d_MO_vote_143 rfl rfl ?_
    refine xr_iast 146 d_MO_vote_145 rfl (by decide) rfl rfl (by omega) (by omega) ?_
    refine ex_aload_n (a := ad (rp N 0)) 147 d_MO_vote_146 rfl rfl ?_
    refine xr_getR 150 d_MO_vote_147 rfl g_MO_50 (by decide) rfl rfl ?_
    refine ex_iload (a := nI (8 * n + t)) 152 d_MO_vote_150 rfl rfl ?_
    refine xr_iald 153 d_MO_vote_152 rfl (by decide) rfl rfl (by omega) (by omega) ?_
    refine ex_istore 155 d_MO_vote_153 rfl (Nat.le_of_ble_eq_true rfl) ?_
    refine ex_aload_n (a := ad (rp N 0)) 156 d_MO_vote_155 rfl rfl ?_
    refine xr_getR 159 d_MO_vote_156 rfl g_MO_35 (by decide) rfl rfl ?_
    refine ex_iload_n (a := nI a) 160 d_MO_vote_159 rfl rfl ?_
    refine xr_iald 161 d_MO_vote_160 rfl (by decide) rfl rfl (by omega) (by omega) ?_
    refine ex_iload (a := b) 163 d_MO_vote_161 rfl rfl ?_
    refine ex_icmpge 179 166 d_MO_vote_163 rfl rfl (fun h2 => ?_) (fun h2 => ?_)
    · have e8 : u2 M 14 (8 * n + t) p = rVf n t p M := by unfold rVf; rw [if_neg h1]
      simp only [e8] at *
      refine Ex.wk ((c_MO_vote2 n hnN a ha hN t ht (rVf n t p M 14 (8 * n + t)) b).mono (fun r w h => ?_)) (by repeat (first | exact xs_nil | refine xs_s ?_ | refine xs_n ?_))
      obtain ⟨v, rfl, g1, g2⟩ := h
      exact ⟨v, rfl, by unfold rV1S; rw [if_pos h2]; exact g1, by unfold rV1R; rw [if_pos h2]; exact g2⟩
    · refine ex_aload_n (a := ad (rp N 0)) 167 d_MO_vote_166 rfl rfl ?_
      refine ex_iload_n (a := nI a) 168 d_MO_vote_167 rfl rfl ?_
      refine ex_iload (a := b) 170 d_MO_vote_168 rfl rfl ?_
      refine xr_callVi [.int (nI a), .int b] [] 173 d_MO_vote_170 rfl zv_MO_writePromise ⟨(Nat.le_of_ble_eq_true rfl), (Nat.le_of_ble_eq_true rfl)⟩ m_MO_115 (by decide) rfl rfl rfl (Nat.le_of_ble_eq_true rfl) rfl (Nat.le_of_ble_eq_true rfl) (c_MO_writePromise (S := S) (M := (u2 M 14 (8 * n + t) (p))) a (by omega) b) (fun vv ww q3 => ?_)
      rw [q3.1, q3.2]
      by_cases h4 : rWPok a b (u2 M 14 (8 * n + t) (p))
      · refine Ex.int (zb_t h4) ?_
        refine ex_ifne 179 176 d_MO_vote_173 rfl rfl (fun _ => ?_) (fun h => absurd h (by decide))
        have e8 : u2 M 14 (8 * n + t) p = rVf n t p M := by unfold rVf; rw [if_neg h1]
        simp only [e8] at *
        refine Ex.wk ((c_MO_vote2 n hnN a ha hN t ht (rVf n t p M 14 (8 * n + t)) b).mono (fun r w h => ?_)) (by repeat (first | exact xs_nil | refine xs_s ?_ | refine xs_n ?_))
        obtain ⟨v, rfl, g1, g2⟩ := h
        exact ⟨v, rfl, by unfold rV1S; rw [if_neg h2, if_pos h4]; exact g1, by unfold rV1R; rw [if_neg h2, if_pos h4]; exact g2⟩
      · refine Ex.int (zb_f h4) ?_
        refine ex_ifne 179 176 d_MO_vote_173 rfl rfl (fun h => absurd (by decide) h) (fun _ => ?_)
        refine ex_bipush (v := (-4)) 178 d_MO_vote_176 rfl (by decide) ?_
        refine ex_iret d_MO_vote_178 rfl ⟨_, rfl, ?_⟩
        have e8 : u2 M 14 (8 * n + t) p = rVf n t p M := by unfold rVf; rw [if_neg h1]
        simp only [e8] at *
        refine ⟨?_, ?_⟩
        · unfold rV1S; rw [if_neg h2, if_neg h4]
        · unfold rV1R; rw [if_neg h2, if_neg h4]
  · refine ex_aload_n (a := ad (rp N 0)) 134 d_MO_vote_133 rfl rfl ?_
    refine xr_getR 137 d_MO_vote_134 rfl g_MO_47 (by decide) rfl rfl ?_
    refine ex_iload (a := nI (8 * n + t)) 139 d_MO_vote_137 rfl rfl ?_
    refine xr_iald 140 d_MO_vote_139 rfl (by decide) rfl rfl (by omega) (by omega) ?_
    refine ex_goto 145 d_MO_vote_140 rfl ?_
    refine xr_iast 146 d_MO_vote_145 rfl (by decide) rfl rfl (by omega) (by omega) ?_
    refine ex_aload_n (a := ad (rp N 0)) 147 d_MO_vote_146 rfl rfl ?_
    refine xr_getR 150 d_MO_vote_147 rfl g_MO_50 (by decide) rfl rfl ?_
    refine ex_iload (a := nI (8 * n + t)) 152 d_MO_vote_150 rfl rfl ?_
    refine xr_iald 153 d_MO_vote_152 rfl (by decide) rfl rfl (by omega) (by omega) ?_
    refine ex_istore 155 d_MO_vote_153 rfl (Nat.le_of_ble_eq_true rfl) ?_
    refine ex_aload_n (a := ad (rp N 0)) 156 d_MO_vote_155 rfl rfl ?_
    refine xr_getR 159 d_MO_vote_156 rfl g_MO_35 (by decide) rfl rfl ?_
    refine ex_iload_n (a := nI a) 160 d_MO_vote_159 rfl rfl ?_
    refine xr_iald 161 d_MO_vote_160 rfl (by decide) rfl rfl (by omega) (by omega) ?_
    refine ex_iload (a := b) 163 d_MO_vote_161 rfl rfl ?_
    refine ex_icmpge 179 166 d_MO_vote_163 rfl rfl (fun h5 => ?_) (fun h5 => ?_)
    · have e8 : u2 M 14 (8 * n + t) (M 13 (8 * n + t)) = rVf n t p M := by unfold rVf; rw [if_pos h1]
      simp only [e8] at *
      refine Ex.wk ((c_MO_vote2 n hnN a ha hN t ht (rVf n t p M 14 (8 * n + t)) b).mono (fun r w h => ?_)) (by repeat (first | exact xs_nil | refine xs_s ?_ | refine xs_n ?_))
      obtain ⟨v, rfl, g1, g2⟩ := h
      exact ⟨v, rfl, by unfold rV1S; rw [if_pos h5]; exact g1, by unfold rV1R; rw [if_pos h5]; exact g2⟩
    · refine ex_aload_n (a := ad (rp N 0)) 167 d_MO_vote_166 rfl rfl ?_
      refine ex_iload_n (a := nI a) 168 d_MO_vote_167 rfl rfl ?_
      refine ex_iload (a := b) 170 d_MO_vote_168 rfl rfl ?_
      refine xr_callVi [.int (nI a), .int b] [] 173 d_MO_vote_170 rfl zv_MO_writePromise ⟨(Nat.le_of_ble_eq_true rfl), (Nat.le_of_ble_eq_true rfl)⟩ m_MO_115 (by decide) rfl rfl rfl (Nat.le_of_ble_eq_true rfl) rfl (Nat.le_of_ble_eq_true rfl) (c_MO_writePromise (S := S) (M := (u2 M 14 (8 * n + t) (M 13 (8 * n + t)))) a (by omega) b) (fun vv ww q6 => ?_)
      rw [q6.1, q6.2]
      by_cases h7 : rWPok a b (u2 M 14 (8 * n + t) (M 13 (8 * n + t)))
      · refine Ex.int (zb_t h7) ?_
        refine ex_ifne 179 176 d_MO_vote_173 rfl rfl (fun _ => ?_) (fun h => absurd h (by decide))
        have e8 : u2 M 14 (8 * n + t) (M 13 (8 * n + t)) = rVf n t p M := by unfold rVf; rw [if_pos h1]
        simp only [e8] at *
        refine Ex.wk ((c_MO_vote2 n hnN a ha hN t ht (rVf n t p M 14 (8 * n + t)) b).mono (fun r w h => ?_)) (by repeat (first | exact xs_nil | refine xs_s ?_ | refine xs_n ?_))
        obtain ⟨v, rfl, g1, g2⟩ := h
        exact ⟨v, rfl, by unfold rV1S; rw [if_neg h5, if_pos h7]; exact g1, by unfold rV1R; rw [if_neg h5, if_pos h7]; exact g2⟩
      · refine Ex.int (zb_f h7) ?_
        refine ex_ifne 179 176 d_MO_vote_173 rfl rfl (fun h => absurd (by decide) h) (fun _ => ?_)
        refine ex_bipush (v := (-4)) 178 d_MO_vote_176 rfl (by decide) ?_
        refine ex_iret d_MO_vote_178 rfl ⟨_, rfl, ?_⟩
        have e8 : u2 M 14 (8 * n + t) (M 13 (8 * n + t)) = rVf n t p M := by unfold rVf; rw [if_pos h1]
        simp only [e8] at *
        refine ⟨?_, ?_⟩
        · unfold rV1S; rw [if_neg h5, if_neg h7]
        · unfold rV1R; rw [if_neg h5, if_neg h7]
set_option maxRecDepth 100000 in
set_option maxHeartbeats 4000000 in
theorem c_MO_vote (n : Nat) (hnN : n < N) (a : Nat) (ha : a < N) (hN : N ≤ 5) (hn : M 0 0 = nI N) (t : Nat) (ht : t < 8) : Ex G none mi_MO_vote 0 0 0 (xEn mi_MO_vote [.ref (ad (rp N 0)), .int (nI n), .int (nI a), .int (nI (t + 1))]) [] (LR G ad N S M) (xI (fun v w => w = LR G ad N S (rVoteS N n a t M) ∧ v = rVoteR N n a t M)) := by
  have hnI : isN N (nI n) := isN_nI hnN hN
  have haI : isN N (nI a) := isN_nI ha hN
  have hsS : isSl (nI (t + 1)) := isSl_nI (by omega) (by omega)
  refine ex_aload_n (a := ad (rp N 0)) 1 d_MO_vote_0 rfl rfl ?_
  refine ex_iload_n (a := nI n) 2 d_MO_vote_1 rfl rfl ?_
  refine xr_callVi [.int (nI n)] [] 5 d_MO_vote_2 rfl zv_MO_isNode ⟨(Nat.le_of_ble_eq_true rfl), (Nat.le_of_ble_eq_true rfl)⟩ m_MO_101 (by decide) rfl rfl rfl (Nat.le_of_ble_eq_true rfl) rfl (Nat.le_of_ble_eq_true rfl) (c_MO_isNode (S := S) (M := M) (nI n) hn) (fun vv ww q1 => ?_)
  rw [q1.1, q1.2]
  refine Ex.int (zb_t hnI) ?_
  refine ex_ifeq 23 8 d_MO_vote_5 rfl rfl (fun h => absurd h (by decide)) (fun _ => ?_)
  refine ex_aload_n (a := ad (rp N 0)) 9 d_MO_vote_8 rfl rfl ?_
  refine ex_iload_n (a := nI a) 10 d_MO_vote_9 rfl rfl ?_
  refine xr_callVi [.int (nI a)] [] 13 d_MO_vote_10 rfl zv_MO_isNode ⟨(Nat.le_of_ble_eq_true rfl), (Nat.le_of_ble_eq_true rfl)⟩ m_MO_101 (by decide) rfl rfl rfl (Nat.le_of_ble_eq_true rfl) rfl (Nat.le_of_ble_eq_true rfl) (c_MO_isNode (S := S) (M := M) (nI a) hn) (fun vv ww q2 => ?_)
  rw [q2.1, q2.2]
  refine Ex.int (zb_t haI) ?_
  refine ex_ifeq 23 16 d_MO_vote_13 rfl rfl (fun h => absurd h (by decide)) (fun _ => ?_)
  refine ex_iload_n (a := nI (t + 1)) 17 d_MO_vote_16 rfl rfl ?_
  refine xl_callSi [.int (nI (t + 1))] [] 20 d_MO_vote_17 rfl zs_MO_isSlot ⟨(Nat.le_of_ble_eq_true rfl), (Nat.le_of_ble_eq_true rfl)⟩ m_MO_136 rfl rfl (Nat.le_of_ble_eq_true rfl) rfl (Nat.le_of_ble_eq_true rfl) (c_MO_isSlot (S := S) (M := M) (nI (t + 1))) (fun vv ww q3 => ?_)
  rw [q3.1, q3.2]
  refine Ex.int (zb_t hsS) ?_
  refine ex_ifne 25 23 d_MO_vote_20 rfl rfl (fun _ => ?_) (fun h => absurd h (by decide))
  refine ex_aload_n (a := ad (rp N 0)) 26 d_MO_vote_25 rfl rfl ?_
  refine ex_iload_n (a := nI n) 27 d_MO_vote_26 rfl rfl ?_
  refine xr_callVi [.int (nI n)] [] 30 d_MO_vote_27 rfl zv_MO_leads ⟨(Nat.le_of_ble_eq_true rfl), (Nat.le_of_ble_eq_true rfl)⟩ m_MO_130 (by decide) rfl rfl rfl (Nat.le_of_ble_eq_true rfl) rfl (Nat.le_of_ble_eq_true rfl) (c_MO_leads (S := S) (M := M) n (by omega)) (fun vv ww q4 => ?_)
  rw [q4.1, q4.2]
  by_cases h5 : rLds n M
  · refine Ex.int (zb_t h5) ?_
    refine ex_ifne 35 33 d_MO_vote_30 rfl rfl (fun _ => ?_) (fun h => absurd h (by decide))
    refine ex_aload_n (a := ad (rp N 0)) 36 d_MO_vote_35 rfl rfl ?_
    refine ex_iload_n (a := nI a) 37 d_MO_vote_36 rfl rfl ?_
    refine xr_callVi [.int (nI a)] [] 40 d_MO_vote_37 rfl zv_MO_isWorking ⟨(Nat.le_of_ble_eq_true rfl), (Nat.le_of_ble_eq_true rfl)⟩ m_MO_111 (by decide) rfl rfl rfl (Nat.le_of_ble_eq_true rfl) rfl (Nat.le_of_ble_eq_true rfl) (c_MO_isWorking (S := S) (M := M) a (by omega)) (fun vv ww q6 => ?_)
    rw [q6.1, q6.2]
    by_cases h7 : rWk a M
    · refine Ex.int (zb_t h7) ?_
      refine ex_ifne 46 43 d_MO_vote_40 rfl rfl (fun _ => ?_) (fun h => absurd h (by decide))
      refine ex_aload_n (a := ad (rp N 0)) 47 d_MO_vote_46 rfl rfl ?_
      refine xr_getR 50 d_MO_vote_47 rfl g_MO_35 (by decide) rfl rfl ?_
      refine ex_iload_n (a := nI a) 51 d_MO_vote_50 rfl rfl ?_
      refine xr_iald 52 d_MO_vote_51 rfl (by decide) rfl rfl (by omega) (by omega) ?_
      refine ex_aload_n (a := ad (rp N 0)) 53 d_MO_vote_52 rfl rfl ?_
      refine xr_getR 56 d_MO_vote_53 rfl g_MO_38 (by decide) rfl rfl ?_
      refine ex_iload_n (a := nI n) 57 d_MO_vote_56 rfl rfl ?_
      refine xr_iald 58 d_MO_vote_57 rfl (by decide) rfl rfl (by omega) (by omega) ?_
      refine ex_icmple 64 61 d_MO_vote_58 rfl rfl (fun h8 => ?_) (fun h8 => ?_)
      · refine ex_bipush (v := 8) 66 d_MO_vote_64 rfl (by decide) ?_
        refine ex_iload_n (a := nI n) 67 d_MO_vote_66 rfl rfl ?_
        refine ex_imulN (8 * n) 68 d_MO_vote_67 rfl (xn_lit 8) rfl (by omega) ?_
        refine ex_iload_n (a := nI (t + 1)) 69 d_MO_vote_68 rfl rfl ?_
        refine ex_iaddN (8 * n + t + 1) 70 d_MO_vote_69 rfl rfl rfl (by omega) ?_
        refine ex_iconst (v := 1) 71 d_MO_vote_70 rfl (by decide) ?_
        refine ex_isubN (8 * n + t) 72 d_MO_vote_71 rfl rfl (xn_lit 1) (by omega) ?_
        refine ex_istore 74 d_MO_vote_72 rfl (Nat.le_of_ble_eq_true rfl) ?_
        refine ex_aload_n (a := ad (rp N 0)) 75 d_MO_vote_74 rfl rfl ?_
        refine xr_getR 78 d_MO_vote_75 rfl g_MO_38 (by decide) rfl rfl ?_
        refine ex_iload_n (a := nI n) 79 d_MO_vote_78 rfl rfl ?_
        refine xr_iald 80 d_MO_vote_79 rfl (by decide) rfl rfl (by omega) (by omega) ?_
        refine ex_istore 82 d_MO_vote_80 rfl (Nat.le_of_ble_eq_true rfl) ?_
        refine ex_aload_n (a := ad (rp N 0)) 83 d_MO_vote_82 rfl rfl ?_
        refine xr_getR 86 d_MO_vote_83 rfl g_MO_50 (by decide) rfl rfl ?_
        refine ex_iload (a := nI (8 * n + t)) 88 d_MO_vote_86 rfl rfl ?_
        refine xr_iald 89 d_MO_vote_88 rfl (by decide) rfl rfl (by omega) (by omega) ?_
        refine ex_iflt 102 92 d_MO_vote_89 rfl rfl (fun h9 => ?_) (fun h9 => ?_)
        · refine ex_aload_n (a := ad (rp N 0)) 103 d_MO_vote_102 rfl rfl ?_
          refine ex_iload_n (a := nI n) 104 d_MO_vote_103 rfl rfl ?_
          refine ex_iload_n (a := nI (t + 1)) 105 d_MO_vote_104 rfl rfl ?_
          refine xr_callVi [.int (nI n), .int (nI (t + 1))] [] 108 d_MO_vote_105 rfl zv_MO_planned ⟨(Nat.le_of_ble_eq_true rfl), (Nat.le_of_ble_eq_true rfl)⟩ m_MO_121 (by decide) rfl rfl rfl (Nat.le_of_ble_eq_true rfl) rfl (Nat.le_of_ble_eq_true rfl) (c_MO_planned (S := S) (M := M) n t (by omega) (by omega) hN hn) (fun vv ww q10 => ?_)
          rw [q10.1, q10.2]
          refine ex_istore 110 d_MO_vote_108 rfl (Nat.le_of_ble_eq_true rfl) ?_
          refine ex_iload (a := (rPlan N n t M)) 112 d_MO_vote_110 rfl rfl ?_
          refine ex_bipush (v := (-2)) 114 d_MO_vote_112 rfl (by decide) ?_
          refine ex_icmpne 120 117 d_MO_vote_114 rfl rfl (fun h11 => ?_) (fun h11 => ?_)
          · have e7 : rVp N n t M = rPlan N n t M := if_pos h9
            have e6 : ¬ rVp N n t M = (-2) := fun z => h11 (e7.symm.trans z)
            rw [← e7]
            refine Ex.wk ((c_MO_vote1 n hnN a ha hN t ht (rVp N n t M) (M 10 n) e6).mono (fun r w h => ?_)) (by repeat (first | exact xs_nil | refine xs_s ?_ | refine xs_n ?_))
            obtain ⟨v, rfl, g1, g2⟩ := h
            exact ⟨v, rfl, by unfold rVoteS; rw [if_pos h5, if_pos h7, if_pos h8, if_neg e6]; exact g1, by unfold rVoteR; rw [if_pos h5, if_pos h7, if_pos h8, if_neg e6]; exact g2⟩
          · refine ex_bipush (v := (-5)) 119 d_MO_vote_117 rfl (by decide) ?_
            refine ex_iret d_MO_vote_119 rfl ⟨_, rfl, ?_⟩
            have e7 : rVp N n t M = rPlan N n t M := if_pos h9
            refine ⟨?_, ?_⟩
            · unfold rVoteS; rw [if_pos h5, if_pos h7, if_pos h8, if_pos (e7.trans h11)]
            · unfold rVoteR; rw [if_pos h5, if_pos h7, if_pos h8, if_pos (e7.trans h11)]
        · refine ex_aload_n (a := ad (rp N 0)) 93 d_MO_vote_92 rfl rfl ?_
          refine xr_getR 96 d_MO_vote_93 rfl g_MO_50 (by decide) rfl rfl ?_
          refine ex_iload (a := nI (8 * n + t)) 98 d_MO_vote_96 rfl rfl ?_
          refine xr_iald 99 d_MO_vote_98 rfl (by decide) rfl rfl (by omega) (by omega) ?_
          refine ex_goto 108 d_MO_vote_99 rfl ?_
          refine ex_istore 110 d_MO_vote_108 rfl (Nat.le_of_ble_eq_true rfl) ?_
          refine ex_iload (a := M 14 (8 * n + t)) 112 d_MO_vote_110 rfl rfl ?_
          refine ex_bipush (v := (-2)) 114 d_MO_vote_112 rfl (by decide) ?_
          refine ex_icmpne 120 117 d_MO_vote_114 rfl rfl (fun h12 => ?_) (fun h12 => ?_)
          · have e7 : rVp N n t M = M 14 (8 * n + t) := if_neg h9
            have e6 : ¬ rVp N n t M = (-2) := fun z => h12 (e7.symm.trans z)
            rw [← e7]
            refine Ex.wk ((c_MO_vote1 n hnN a ha hN t ht (rVp N n t M) (M 10 n) e6).mono (fun r w h => ?_)) (by repeat (first | exact xs_nil | refine xs_s ?_ | refine xs_n ?_))
            obtain ⟨v, rfl, g1, g2⟩ := h
            exact ⟨v, rfl, by unfold rVoteS; rw [if_pos h5, if_pos h7, if_pos h8, if_neg e6]; exact g1, by unfold rVoteR; rw [if_pos h5, if_pos h7, if_pos h8, if_neg e6]; exact g2⟩
          · refine ex_bipush (v := (-5)) 119 d_MO_vote_117 rfl (by decide) ?_
            refine ex_iret d_MO_vote_119 rfl ⟨_, rfl, ?_⟩
            have e7 : rVp N n t M = M 14 (8 * n + t) := if_neg h9
            refine ⟨?_, ?_⟩
            · unfold rVoteS; rw [if_pos h5, if_pos h7, if_pos h8, if_pos (e7.trans h12)]
            · unfold rVoteR; rw [if_pos h5, if_pos h7, if_pos h8, if_pos (e7.trans h12)]
      · refine ex_bipush (v := (-3)) 63 d_MO_vote_61 rfl (by decide) ?_
        refine ex_iret d_MO_vote_63 rfl ⟨_, rfl, ?_⟩
        refine ⟨?_, ?_⟩
        · unfold rVoteS; rw [if_pos h5, if_pos h7, if_neg h8]
        · unfold rVoteR; rw [if_pos h5, if_pos h7, if_neg h8]
    · refine Ex.int (zb_f h7) ?_
      refine ex_ifne 46 43 d_MO_vote_40 rfl rfl (fun h => absurd (by decide) h) (fun _ => ?_)
      refine ex_bipush (v := (-2)) 45 d_MO_vote_43 rfl (by decide) ?_
      refine ex_iret d_MO_vote_45 rfl ⟨_, rfl, ?_⟩
      refine ⟨?_, ?_⟩
      · unfold rVoteS; rw [if_pos h5, if_neg h7]
      · unfold rVoteR; rw [if_pos h5, if_neg h7]
  · refine Ex.int (zb_f h5) ?_
    refine ex_ifne 35 33 d_MO_vote_30 rfl rfl (fun h => absurd (by decide) h) (fun _ => ?_)
    refine ex_iconst (v := 0) 34 d_MO_vote_33 rfl (by decide) ?_
    refine ex_iret d_MO_vote_34 rfl ⟨_, rfl, ?_⟩
    refine ⟨?_, ?_⟩
    · unfold rVoteS; rw [if_neg h5]
    · unfold rVoteR; rw [if_neg h5]
set_option maxRecDepth 100000 in
set_option maxHeartbeats 4000000 in
theorem c_MO_lead_no (n : Int32) (hn : M 0 0 = nI N) (hb : ¬ (isN N n)) : Ex G none mi_MO_lead 0 0 0 (xEn mi_MO_lead [.ref (ad (rp N 0)), .int n]) [] (LR G ad N S M) (xI (fun v w => w = LR G ad N S M ∧ v = (-1))) := by
  refine ex_aload_n (a := ad (rp N 0)) 1 d_MO_lead_0 rfl rfl ?_
  refine ex_iload_n (a := n) 2 d_MO_lead_1 rfl rfl ?_
  refine xr_callVi [.int n] [] 5 d_MO_lead_2 rfl zv_MO_isNode ⟨(Nat.le_of_ble_eq_true rfl), (Nat.le_of_ble_eq_true rfl)⟩ m_MO_101 (by decide) rfl rfl rfl (Nat.le_of_ble_eq_true rfl) rfl (Nat.le_of_ble_eq_true rfl) (c_MO_isNode (S := S) (M := M) n hn) (fun vv ww q1 => ?_)
  rw [q1.1, q1.2]
  by_cases h2 : isN N n
  · refine Ex.int (zb_t h2) ?_
    refine ex_ifne 10 8 d_MO_lead_5 rfl rfl (fun _ => ?_) (fun h => absurd h (by decide))
    exact absurd (h2) hb
  · refine Ex.int (zb_f h2) ?_
    refine ex_ifne 10 8 d_MO_lead_5 rfl rfl (fun h => absurd (by decide) h) (fun _ => ?_)
    refine ex_iconst (v := (-1)) 9 d_MO_lead_8 rfl (by decide) ?_
    refine ex_iret d_MO_lead_9 rfl ⟨_, rfl, ?_⟩
    exact ⟨rfl, rfl⟩
set_option maxRecDepth 100000 in
set_option maxHeartbeats 4000000 in
theorem c_MO_promise_no (n a : Int32) (hn : M 0 0 = nI N) (hb : ¬ (isN N n ∧ isN N a)) : Ex G none mi_MO_promise 0 0 0 (xEn mi_MO_promise [.ref (ad (rp N 0)), .int n, .int a]) [] (LR G ad N S M) (xI (fun v w => w = LR G ad N S M ∧ v = (-1))) := by
  refine ex_aload_n (a := ad (rp N 0)) 1 d_MO_promise_0 rfl rfl ?_
  refine ex_iload_n (a := n) 2 d_MO_promise_1 rfl rfl ?_
  refine xr_callVi [.int n] [] 5 d_MO_promise_2 rfl zv_MO_isNode ⟨(Nat.le_of_ble_eq_true rfl), (Nat.le_of_ble_eq_true rfl)⟩ m_MO_101 (by decide) rfl rfl rfl (Nat.le_of_ble_eq_true rfl) rfl (Nat.le_of_ble_eq_true rfl) (c_MO_isNode (S := S) (M := M) n hn) (fun vv ww q1 => ?_)
  rw [q1.1, q1.2]
  by_cases h2 : isN N n
  · refine Ex.int (zb_t h2) ?_
    refine ex_ifeq 16 8 d_MO_promise_5 rfl rfl (fun h => absurd h (by decide)) (fun _ => ?_)
    refine ex_aload_n (a := ad (rp N 0)) 9 d_MO_promise_8 rfl rfl ?_
    refine ex_iload_n (a := a) 10 d_MO_promise_9 rfl rfl ?_
    refine xr_callVi [.int a] [] 13 d_MO_promise_10 rfl zv_MO_isNode ⟨(Nat.le_of_ble_eq_true rfl), (Nat.le_of_ble_eq_true rfl)⟩ m_MO_101 (by decide) rfl rfl rfl (Nat.le_of_ble_eq_true rfl) rfl (Nat.le_of_ble_eq_true rfl) (c_MO_isNode (S := S) (M := M) a hn) (fun vv ww q3 => ?_)
    rw [q3.1, q3.2]
    by_cases h4 : isN N a
    · refine Ex.int (zb_t h4) ?_
      refine ex_ifne 18 16 d_MO_promise_13 rfl rfl (fun _ => ?_) (fun h => absurd h (by decide))
      exact absurd (⟨h2, h4⟩) hb
    · refine Ex.int (zb_f h4) ?_
      refine ex_ifne 18 16 d_MO_promise_13 rfl rfl (fun h => absurd (by decide) h) (fun _ => ?_)
      refine ex_iconst (v := (-1)) 17 d_MO_promise_16 rfl (by decide) ?_
      refine ex_iret d_MO_promise_17 rfl ⟨_, rfl, ?_⟩
      exact ⟨rfl, rfl⟩
  · refine Ex.int (zb_f h2) ?_
    refine ex_ifeq 16 8 d_MO_promise_5 rfl rfl (fun _ => ?_) (fun h => absurd (by decide) h)
    refine ex_iconst (v := (-1)) 17 d_MO_promise_16 rfl (by decide) ?_
    refine ex_iret d_MO_promise_17 rfl ⟨_, rfl, ?_⟩
    exact ⟨rfl, rfl⟩
end WK
