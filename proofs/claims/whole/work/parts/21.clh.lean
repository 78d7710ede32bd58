section WK
variable {G : xC} {ad : Nat → Nat} {N : Nat} {S : sT}
set_option maxRecDepth 100000 in
set_option maxHeartbeats 4000000 in
theorem c_SL_flip_nob (n : Nat) (hn : n < N) (hN : N ≤ 5) (hI : Iok N S) (s : Nat) (hs : s < 18) (b : Int32) (hb : ¬ (¬ b < 0 ∧ b < 64)) : Ex G none mi_SL_flip 0 0 0 (xEn mi_SL_flip [.ref (ad 0), .int (nI n), .int (nI s), .int b]) [] (LY G ad N S) (xI (fun v w => w = LY G ad N S ∧ v = 0)) := by
  refine ex_aload_n (a := ad 0) 1 d_SL_flip_0 rfl rfl ?_
  refine ex_iload_n (a := nI n) 2 d_SL_flip_1 rfl rfl ?_
  refine ex_iload_n (a := nI s) 3 d_SL_flip_2 rfl rfl ?_
  refine xl_callVi [.int (nI n), .int (nI s)] [] 6 d_SL_flip_3 rfl zv_SL_isSoundSector ⟨(Nat.le_of_ble_eq_true rfl), (Nat.le_of_ble_eq_true rfl)⟩ m_SL_160 (kp0 (by decide)) sh_SL rfl rfl (Nat.le_of_ble_eq_true rfl) rfl (Nat.le_of_ble_eq_true rfl) (c_SL_isSoundSector (S := S) n hn hN hI (s) (by omega)) (fun vv ww q1 => ?_)
  rw [q1.1, q1.2]
  by_cases h2 : ¬ wrongF (S (pl n 2)) (8 * (s))
  · refine Ex.int (zb_t h2) ?_
    refine ex_ifeq 19 9 d_SL_flip_6 rfl rfl (fun h => absurd h (by decide)) (fun _ => ?_)
    refine ex_iload_n (a := b) 10 d_SL_flip_9 rfl rfl ?_
    refine ex_iflt 19 13 d_SL_flip_10 rfl rfl (fun h3 => ?_) (fun h3 => ?_)
    · refine ex_iconst (v := 0) 20 d_SL_flip_19 rfl (by decide) ?_
      refine ex_zret d_SL_flip_20 rfl rfl ⟨_, rfl, ?_⟩
      exact ⟨rfl, rfl⟩
    · refine ex_iload_n (a := b) 14 d_SL_flip_13 rfl rfl ?_
      refine ex_bipush (v := 64) 16 d_SL_flip_14 rfl (by decide) ?_
      refine ex_icmplt 21 19 d_SL_flip_16 rfl rfl (fun h4 => ?_) (fun h4 => ?_)
      · exact absurd ⟨h3, h4⟩ hb
      · refine ex_iconst (v := 0) 20 d_SL_flip_19 rfl (by decide) ?_
        refine ex_zret d_SL_flip_20 rfl rfl ⟨_, rfl, ?_⟩
        exact ⟨rfl, rfl⟩
  · refine Ex.int (zb_f h2) ?_
    refine ex_ifeq 19 9 d_SL_flip_6 rfl rfl (fun _ => ?_) (fun h => absurd (by decide) h)
    refine ex_iconst (v := 0) 20 d_SL_flip_19 rfl (by decide) ?_
    refine ex_zret d_SL_flip_20 rfl rfl ⟨_, rfl, ?_⟩
    exact ⟨rfl, rfl⟩
end WK
