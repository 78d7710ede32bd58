section SIMS
variable {G : xC} {ad : Nat → Nat} {N cnt : Nat} {S M : sT} {F : sT} {U : uT} {mx : Nat → Nat} {T : sT}
theorem i_17 {s : Int32} : ¬ (17 : Int32) < s ↔ ¬ (18 : Int32) ≤ s := by
  rw [Int32.lt_iff_toInt_lt, Int32.le_iff_toInt_le]
  have e : (17 : Int32).toInt = 17 := by decide
  have e2 : (18 : Int32).toInt = 18 := by decide
  omega
theorem i_63 {s : Int32} : s ≤ (63 : Int32) ↔ s < (64 : Int32) := by
  rw [Int32.lt_iff_toInt_lt, Int32.le_iff_toInt_le]
  have e : (63 : Int32).toInt = 63 := by decide
  have e2 : (64 : Int32).toInt = 64 := by decide
  omega
theorem i_3 {s : Int32} : ¬ (3 : Int32) < s ↔ s < (4 : Int32) := by
  rw [Int32.lt_iff_toInt_lt, Int32.lt_iff_toInt_lt]
  have e : (3 : Int32).toInt = 3 := by decide
  have e2 : (4 : Int32).toInt = 4 := by decide
  omega
theorem i_1 {s : Int32} : ¬ s < (1 : Int32) ↔ (1 : Int32) ≤ s := Int32.not_lt
theorem req_of {q : Int32} (h : KI N F U mx cnt T M) (hr : isReq T q) : ∃ k, 1 ≤ k ∧ k ≤ cnt ∧ q = nI k := by
  have hcnt := h.2.2.2.1.1
  obtain ⟨k, k1, k2, k3, -⟩ := h.cl.req hr
  refine ⟨k, k2, ?_, k3⟩
  have r := hr.2
  rw [h.2.2.2.1.2.1, k3] at r
  exact (nI_leI (by omega) (by omega)).mp r
theorem sim_ask (hJ : JJ N S M) (k u : Int32) : ∃ v S1 M1, Ex G none mi_SL_ask 0 0 0 (xEn mi_SL_ask [.ref (ad 0), .int k, .int u]) [] (LR G ad N S M) (xI (fun r w => r = v ∧ w = LR G ad N S1 M)) ∧ Ex G none mi_MO_ask 0 0 0 (xEn mi_MO_ask [.ref (ad (rp N 0)), .int k, .int u]) [] (LR G ad N S1 M) (xI (fun r w => r = v ∧ w = LR G ad N S1 M1)) ∧ JJ N S1 M1 := by
  obtain ⟨U, mx, cnt, h⟩ := hJ
  have hN := h.1.2
  have hn0 := h.2.2.2.2.1.1
  by_cases hb : isKy k
  · obtain ⟨x, hx, rfl⟩ := isKy_of hb
    have hq := h.2.2.2.1.2.1
    obtain ⟨p1, p2⟩ := h.ask (v := u) hx
    exact sim_go p2 (c_SL_ask (S := emb N S M) hN h.iok x hx u cnt hq h.2.2.2.1.1) (c_MO_ask hN hn0 x hx u cnt (h.2.2.2.2.1.2.1.trans hq) h.2.2.2.1.1) p1
  · exact sim_go h.e (c_SL_ask_no (S := emb N S M) k u hb) (c_MO_ask_no k u hn0 (fun z => hb ⟨Int32.not_lt.mp z.1, i_3.mp z.2⟩)) rfl
theorem sim_lead (hJ : JJ N S M) (n : Int32) : ∃ v S1 M1, Ex G none mi_SL_lead 0 0 0 (xEn mi_SL_lead [.ref (ad 0), .int n]) [] (LR G ad N S M) (xI (fun r w => r = v ∧ w = LR G ad N S1 M)) ∧ Ex G none mi_MO_lead 0 0 0 (xEn mi_MO_lead [.ref (ad (rp N 0)), .int n]) [] (LR G ad N S1 M) (xI (fun r w => r = v ∧ w = LR G ad N S1 M1)) ∧ JJ N S1 M1 := by
  obtain ⟨U, mx, cnt, h⟩ := hJ
  have hN := h.1.2
  have hn0 := h.2.2.2.2.1.1
  by_cases hb : isN N n
  · obtain ⟨x, hx, rfl⟩ := isN_of hN hb
    obtain ⟨p, p1, p2, p3, p4⟩ := h.lead hx
    exact sim_go p4 (c_SL_lead (S := emb N S M) x hx hN) (c_MO_lead x hx hN hn0 p p2 p1) p3
  · exact sim_go h.e (c_SL_lead_no (S := emb N S M) n hb) (c_MO_lead_no n hn0 hb) rfl
theorem sim_promise (hJ : JJ N S M) (n a : Int32) : ∃ v S1 M1, Ex G none mi_SL_promise 0 0 0 (xEn mi_SL_promise [.ref (ad 0), .int n, .int a]) [] (LR G ad N S M) (xI (fun r w => r = v ∧ w = LR G ad N S1 M)) ∧ Ex G none mi_MO_promise 0 0 0 (xEn mi_MO_promise [.ref (ad (rp N 0)), .int n, .int a]) [] (LR G ad N S1 M) (xI (fun r w => r = v ∧ w = LR G ad N S1 M1)) ∧ JJ N S1 M1 := by
  obtain ⟨U, mx, cnt, h⟩ := hJ
  have hN := h.1.2
  have hn0 := h.2.2.2.2.1.1
  by_cases hb : isN N n ∧ isN N a
  · obtain ⟨x, hx, rfl⟩ := isN_of hN hb.1
    obtain ⟨y, hy, rfl⟩ := isN_of hN hb.2
    obtain ⟨p1, p2⟩ := h.prom_op hx hy
    exact sim_go p2 (c_SL_promise (S := emb N S M) x hx y hy hN) (c_MO_promise x hx y hy hN hn0) p1
  · exact sim_go h.e (c_SL_promise_no (S := emb N S M) n a hb) (c_MO_promise_no n a hn0 hb) rfl
theorem sim_route (hJ : JJ N S M) (q n : Int32) : ∃ v S1 M1, Ex G none mi_SL_route 0 0 0 (xEn mi_SL_route [.ref (ad 0), .int q, .int n]) [] (LR G ad N S M) (xI (fun r w => r = v ∧ w = LR G ad N S1 M)) ∧ Ex G none mi_MO_route 0 0 0 (xEn mi_MO_route [.ref (ad (rp N 0)), .int q, .int n]) [] (LR G ad N S1 M) (xI (fun r w => r = v ∧ w = LR G ad N S1 M1)) ∧ JJ N S1 M1 := by
  obtain ⟨U, mx, cnt, h⟩ := hJ
  have hN := h.1.2
  have hn0 := h.2.2.2.2.1.1
  have e1 : M 0 1 = emb N S M 1 4 := h.2.2.2.2.1.2.1
  by_cases hb : isReq (emb N S M) q ∧ isN N n
  · obtain ⟨x, hx, rfl⟩ := isN_of hN hb.2
    obtain ⟨k, k1, k2, rfl⟩ := req_of h hb.1
    have hcnt := h.2.2.2.1.1
    obtain ⟨p1, p2⟩ := h.route hx k1 k2
    exact sim_go p2 (c_SL_route (S := emb N S M) x hx hN h.iok k (by omega) hb.1) (c_MO_route x hx hN hn0 k cnt (e1.trans h.2.2.2.1.2.1) k1 k2 hcnt (h.pok hx)) p1
  · exact sim_go h.e (c_SL_route_no (S := emb N S M) q n hb) (c_MO_route_no q n hn0 (fun z => hb ⟨⟨Int32.not_lt.mp z.1, by rw [← e1]; exact Int32.not_lt.mp z.2.1⟩, z.2.2⟩)) rfl
theorem sim_vote (hJ : JJ N S M) (n a s : Int32) : ∃ v S1 M1, Ex G none mi_SL_vote 0 0 0 (xEn mi_SL_vote [.ref (ad 0), .int n, .int a, .int s]) [] (LR G ad N S M) (xI (fun r w => r = v ∧ w = LR G ad N S1 M)) ∧ Ex G none mi_MO_vote 0 0 0 (xEn mi_MO_vote [.ref (ad (rp N 0)), .int n, .int a, .int s]) [] (LR G ad N S1 M) (xI (fun r w => r = v ∧ w = LR G ad N S1 M1)) ∧ JJ N S1 M1 := by
  obtain ⟨U, mx, cnt, h⟩ := hJ
  have hN := h.1.2
  have hn0 := h.2.2.2.2.1.1
  by_cases hb : isN N n ∧ isN N a ∧ isSl s
  · obtain ⟨x, hx, rfl⟩ := isN_of hN hb.1
    obtain ⟨y, hy, rfl⟩ := isN_of hN hb.2.1
    obtain ⟨t, ht, rfl⟩ := isSl_of hb.2.2
    obtain ⟨p1, p2⟩ := h.vote hx hy ht
    exact sim_go p2 (c_SL_vote (S := emb N S M) x hx y hy hN h.iok (t + 1) (by omega) (by omega)) (c_MO_vote x hx y hy hN hn0 t ht) p1
  · exact sim_go h.e (c_SL_vote_no (S := emb N S M) n a s hb) (c_MO_vote_no n a s hn0 hb) rfl
theorem sim_tell (hJ : JJ N S M) (n m : Int32) : ∃ v S1 M1, Ex G none mi_SL_tell 0 0 0 (xEn mi_SL_tell [.ref (ad 0), .int n, .int m]) [] (LR G ad N S M) (xI (fun r w => r = v ∧ w = LR G ad N S1 M)) ∧ Ex G none mi_MO_tell 0 0 0 (xEn mi_MO_tell [.ref (ad (rp N 0)), .int n, .int m]) [] (LR G ad N S1 M) (xI (fun r w => r = v ∧ w = LR G ad N S1 M1)) ∧ JJ N S1 M1 := by
  obtain ⟨U, mx, cnt, h⟩ := hJ
  have hN := h.1.2
  have hn0 := h.2.2.2.2.1.1
  by_cases hb : isN N n ∧ isN N m ∧ ¬ n = m
  · obtain ⟨x, hx, rfl⟩ := isN_of hN hb.1
    obtain ⟨y, hy, rfl⟩ := isN_of hN hb.2.1
    have hne : x ≠ y := fun z => hb.2.2 (by rw [z])
    obtain ⟨p1, p2⟩ := h.tell hx hy
    exact sim_go p2 (c_SL_tell (S := emb N S M) x hx y hy hN h.iok hne) (c_MO_tell x hx y hy hN hn0 hne) p1
  · exact sim_go h.e (c_SL_tell_no (S := emb N S M) n m hb) (c_MO_tell_no n m hn0 hb) rfl
theorem sim_mend (hJ : JJ N S M) (n a s : Int32) : ∃ v S1 M1, Ex G none mi_SL_mend 0 0 0 (xEn mi_SL_mend [.ref (ad 0), .int n, .int a, .int s]) [] (LR G ad N S M) (xI (fun r w => r = v ∧ w = LR G ad N S1 M)) ∧ Ex G none mi_MO_mend 0 0 0 (xEn mi_MO_mend [.ref (ad (rp N 0)), .int n, .int a, .int s]) [] (LR G ad N S1 M) (xI (fun r w => r = v ∧ w = LR G ad N S1 M1)) ∧ JJ N S1 M1 := by
  obtain ⟨U, mx, cnt, h⟩ := hJ
  have hN := h.1.2
  have hn0 := h.2.2.2.2.1.1
  by_cases hb : isN N n ∧ isN N a ∧ isSl s ∧ ¬ n = a
  · obtain ⟨x, hx, rfl⟩ := isN_of hN hb.1
    obtain ⟨y, hy, rfl⟩ := isN_of hN hb.2.1
    obtain ⟨t, ht, rfl⟩ := isSl_of hb.2.2.1
    have hne : x ≠ y := fun z => hb.2.2.2 (by rw [z])
    obtain ⟨p1, p2⟩ := h.mend hx hy ht
    exact sim_go p2 (c_SL_mend (S := emb N S M) x hx y hy hN h.iok (t + 1) (by omega) (by omega) hne) (c_MO_mend x hx y hy hN hn0 t ht hne) p1
  · exact sim_go h.e (c_SL_mend_no (S := emb N S M) n a s hb) (c_MO_mend_no n a s hn0 hb) rfl
theorem sim_crash (hJ : JJ N S M) (n : Int32) : ∃ v S1 M1, Ex G none mi_SL_crash 0 0 0 (xEn mi_SL_crash [.ref (ad 0), .int n]) [] (LR G ad N S M) (xI (fun r w => r = v ∧ w = LR G ad N S1 M)) ∧ Ex G none mi_MO_crash 0 0 0 (xEn mi_MO_crash [.ref (ad (rp N 0)), .int n]) [] (LR G ad N S1 M) (xI (fun r w => r = v ∧ w = LR G ad N S1 M1)) ∧ JJ N S1 M1 := by
  obtain ⟨U, mx, cnt, h⟩ := hJ
  have hN := h.1.2
  have hn0 := h.2.2.2.2.1.1
  by_cases hb : isN N n
  · obtain ⟨x, hx, rfl⟩ := isN_of hN hb
    obtain ⟨p1, p2⟩ := h.crash hx
    exact sim_go p2 (c_SL_crash (S := emb N S M) x hx hN h.iok) (c_MO_crash x hx hN hn0) p1
  · exact sim_go h.e (c_SL_crash_no (S := emb N S M) n hb) (c_MO_crash_no n hn0 hb) rfl
theorem sim_restart (hJ : JJ N S M) (n : Int32) : ∃ v S1 M1, Ex G none mi_SL_restart 0 0 0 (xEn mi_SL_restart [.ref (ad 0), .int n]) [] (LR G ad N S M) (xI (fun r w => r = v ∧ w = LR G ad N S1 M)) ∧ Ex G none mi_MO_restart 0 0 0 (xEn mi_MO_restart [.ref (ad (rp N 0)), .int n]) [] (LR G ad N S1 M) (xI (fun r w => r = v ∧ w = LR G ad N S1 M1)) ∧ JJ N S1 M1 := by
  obtain ⟨U, mx, cnt, h⟩ := hJ
  have hN := h.1.2
  have hn0 := h.2.2.2.2.1.1
  by_cases hb : isN N n
  · obtain ⟨x, hx, rfl⟩ := isN_of hN hb
    obtain ⟨p1, p2⟩ := h.restart hx
    exact sim_go p2 (c_SL_restart (S := emb N S M) x hx hN h.iok) (c_MO_restart x hx hN hn0) p1
  · exact sim_go h.e (c_SL_restart_no (S := emb N S M) n hb) (c_MO_restart_no n hn0 hb) rfl
theorem sim_arm (hJ : JJ N S M) (n k : Int32) : ∃ v S1 M1, Ex G none mi_SL_arm 0 0 0 (xEn mi_SL_arm [.ref (ad 0), .int n, .int k]) [] (LR G ad N S M) (xI (fun r w => r = v ∧ w = LR G ad N S1 M)) ∧ Ex G none mi_MO_arm 0 0 0 (xEn mi_MO_arm [.ref (ad (rp N 0)), .int n, .int k]) [] (LR G ad N S1 M) (xI (fun r w => r = v ∧ w = LR G ad N S1 M1)) ∧ JJ N S1 M1 := by
  obtain ⟨U, mx, cnt, h⟩ := hJ
  have hN := h.1.2
  have hn0 := h.2.2.2.2.1.1
  by_cases hb : isN N n
  · obtain ⟨x, hx, rfl⟩ := isN_of hN hb
    obtain ⟨p1, p2⟩ := h.arm_op (k := k) hx
    exact sim_go p2 (c_SL_arm (S := emb N S M) x hx hN h.iok k) (c_MO_arm x hx hN hn0 k) p1
  · exact sim_go h.e (c_SL_arm_no (S := emb N S M) n k hb) (c_MO_arm_no n k hn0 hb) rfl
theorem sim_flip (hJ : JJ N S M) (n s b : Int32) : ∃ v S1 M1, Ex G none mi_SL_flip 0 0 0 (xEn mi_SL_flip [.ref (ad 0), .int n, .int s, .int b]) [] (LR G ad N S M) (xI (fun r w => r = v ∧ w = LR G ad N S1 M)) ∧ Ex G none mi_MO_flip 0 0 0 (xEn mi_MO_flip [.ref (ad (rp N 0)), .int n, .int s, .int b]) [] (LR G ad N S1 M) (xI (fun r w => r = v ∧ w = LR G ad N S1 M1)) ∧ JJ N S1 M1 := by
  obtain ⟨U, mx, cnt, h⟩ := hJ
  have hN := h.1.2
  have hn0 := h.2.2.2.2.1.1
  by_cases hb : isN N n ∧ ¬ s < 0 ∧ ¬ 18 ≤ s
  · obtain ⟨x, hx, rfl⟩ := isN_of hN hb.1
    obtain ⟨t, ht, rfl⟩ := in_of (m := 18) (by decide) hb.2.1 (Int32.not_le.mp hb.2.2)
    by_cases hc : ¬ b < 0 ∧ b < 64
    · obtain ⟨y, hy, rfl⟩ := in_of (m := 64) (by decide) hc.1 hc.2
      obtain ⟨p1, p2⟩ := h.flip hx ht hy
      exact sim_go p2 (c_SL_flip (S := emb N S M) x hx hN h.iok t y ht hy) (c_MO_flip x hx hN hn0 t y ht hy) p1
    · exact sim_go h.e (c_SL_flip_nob (S := emb N S M) x hx hN h.iok t ht b hc) (c_MO_flip_nob x hx hN hn0 t ht b (fun z => hc ⟨z.1, i_63.mp z.2⟩)) rfl
  · exact sim_go h.e (c_SL_flip_no (S := emb N S M) n s b hb) (c_MO_flip_no n s b hn0 (fun z => hb ⟨z.1, z.2.1, i_17.mp z.2.2⟩)) rfl
theorem sim_wipe (hJ : JJ N S M) (n s : Int32) : ∃ v S1 M1, Ex G none mi_SL_wipe 0 0 0 (xEn mi_SL_wipe [.ref (ad 0), .int n, .int s]) [] (LR G ad N S M) (xI (fun r w => r = v ∧ w = LR G ad N S1 M)) ∧ Ex G none mi_MO_wipe 0 0 0 (xEn mi_MO_wipe [.ref (ad (rp N 0)), .int n, .int s]) [] (LR G ad N S1 M) (xI (fun r w => r = v ∧ w = LR G ad N S1 M1)) ∧ JJ N S1 M1 := by
  obtain ⟨U, mx, cnt, h⟩ := hJ
  have hN := h.1.2
  have hn0 := h.2.2.2.2.1.1
  by_cases hb : isN N n ∧ ¬ s < 0 ∧ ¬ 18 ≤ s
  · obtain ⟨x, hx, rfl⟩ := isN_of hN hb.1
    obtain ⟨t, ht, rfl⟩ := in_of (m := 18) (by decide) hb.2.1 (Int32.not_le.mp hb.2.2)
    obtain ⟨p1, p2⟩ := h.wipe hx ht
    exact sim_go p2 (c_SL_wipe (S := emb N S M) x hx hN h.iok t ht) (c_MO_wipe x hx hN hn0 t ht) p1
  · exact sim_go h.e (c_SL_wipe_no (S := emb N S M) n s hb) (c_MO_wipe_no n s hn0 (fun z => hb ⟨z.1, z.2.1, i_17.mp z.2.2⟩)) rfl
theorem sim_look (hJ : JJ N S M) (n k : Int32) : ∃ v S1 M1, Ex G none mi_SL_look 0 0 0 (xEn mi_SL_look [.ref (ad 0), .int n, .int k]) [] (LR G ad N S M) (xI (fun r w => r = v ∧ w = LR G ad N S1 M)) ∧ Ex G none mi_MO_look 0 0 0 (xEn mi_MO_look [.ref (ad (rp N 0)), .int n, .int k]) [] (LR G ad N S1 M) (xI (fun r w => r = v ∧ w = LR G ad N S1 M1)) ∧ JJ N S1 M1 := by
  obtain ⟨U, mx, cnt, h⟩ := hJ
  have hN := h.1.2
  have hn0 := h.2.2.2.2.1.1
  have e0 : (0 : Int32).toInt = 0 := by decide
  have e6 : (6 : Int32).toInt = 6 := by decide
  by_cases hb : isN N n
  · obtain ⟨x, hx, rfl⟩ := isN_of hN hb
    obtain ⟨a1, a2, a3, a4, a5, a6, a7, a⟩ := h.rn hx
    have dn := (h.nk hx).2.2.2.2.2.2.2
    by_cases hk : ¬ k < 0 ∧ k ≤ 6
    · obtain ⟨y, hy, rfl⟩ := nI_of hk.1
      have hy6 : y ≤ 6 := (nI_leI (b := 6) hy (by decide)).mp hk.2
      obtain ⟨q1, q2, -⟩ := h.play hx
      match y, hy6 with
      | 0, _ => exact sim_go h.e (c_SL_look_0 (S := emb N S M) x hx hN h.iok) (c_MO_look_0 x hx hN hn0) (by rw [a2]; by_cases z : emb N S M (pl x 0) 5 = 0
                                                                                                            · rw [if_pos z]; exact (zb_f (fun y => y z)).symm
                                                                                                            · rw [if_neg z]; exact (zb_t z).symm)
      | 1, _ => exact sim_go h.e (c_SL_look_1 (S := emb N S M) x hx hN h.iok) (c_MO_look_1 x hx hN hn0) (by
          rw [a2, a3]
          by_cases z : emb N S M (pl x 0) 5 = 0
          · rw [if_pos z, (dn z).1]; rfl
          · rw [if_neg z]
            by_cases y : emb N S M (pl x 0) 6 = 0
            · rw [if_pos y]; exact (zb_f (fun q => q y)).symm
            · rw [if_neg y]; exact (zb_t y).symm)
      | 2, _ => exact sim_go h.e (c_SL_look_2 (S := emb N S M) x hx hN h.iok) (c_MO_look_2 x hx hN hn0) (by
          rw [a2, a4]
          by_cases z : emb N S M (pl x 0) 5 = 0
          · rw [if_pos z, (dn z).2.1]
          · rw [if_neg z])
      | 3, _ => exact sim_go h.e (c_SL_look_3 (S := emb N S M) x hx hN h.iok) (c_MO_look_3 x hx hN hn0) (by
          rw [a2, a6]
          by_cases z : emb N S M (pl x 0) 5 = 0
          · rw [if_pos z, (dn z).2.2.2.1]
          · rw [if_neg z])
      | 4, _ => exact sim_go h.e (c_SL_look_4 (S := emb N S M) x hx hN h.iok) (c_MO_look_4 x hx hN hn0) (by
          rw [a2, a7]
          by_cases z : emb N S M (pl x 0) 5 = 0
          · rw [if_pos z, (dn z).2.2.2.2.1]
          · rw [if_neg z])
      | 5, _ => exact sim_go (M1 := if M 6 x = 0 then M else rPlay x M) (by split; exact h.e; exact q1.e) (c_SL_look_5 (S := emb N S M) x hx hN h.iok) (c_MO_look_5 x hx hN hn0 (h.pok hx)) (by
          rw [a2]
          by_cases z : emb N S M (pl x 0) 5 = 0
          · rw [if_pos z]
            obtain ⟨D, d1, d2, d3, -⟩ := (h.nk hx).2.2.2.2.2.2.1
            have hD : D = 0 := by
              apply Classical.byContradiction
              intro y
              exact d3 1 (by decide) (by omega) ((dn z).2.2.2.2.2 1 (by decide) (by decide)).2
            rw [d2, hD]; rfl
          · rw [if_neg z]; exact q2)
      | 6, _ => exact sim_go h.e (c_SL_look_6 (S := emb N S M) x hx hN h.iok) (c_MO_look_6 x hx hN hn0) a5
    · refine sim_go h.e (c_SL_look_out (S := emb N S M) x hx hN h.iok k ?_) (c_MO_look_no (nI x) k hn0 (fun z => hk z.2)) rfl
      rw [Int32.lt_iff_toInt_lt, Int32.le_iff_toInt_le] at hk
      omega
  · exact sim_go h.e (c_SL_look_no (S := emb N S M) n k hb) (c_MO_look_no n k hn0 (fun z => hb z.1)) rfl
theorem sim_slot (hJ : JJ N S M) (n s : Int32) : ∃ v S1 M1, Ex G none mi_SL_slot 0 0 0 (xEn mi_SL_slot [.ref (ad 0), .int n, .int s]) [] (LR G ad N S M) (xI (fun r w => r = v ∧ w = LR G ad N S1 M)) ∧ Ex G none mi_MO_slot 0 0 0 (xEn mi_MO_slot [.ref (ad (rp N 0)), .int n, .int s]) [] (LR G ad N S1 M) (xI (fun r w => r = v ∧ w = LR G ad N S1 M1)) ∧ JJ N S1 M1 := by
  obtain ⟨U, mx, cnt, h⟩ := hJ
  have hN := h.1.2
  have hn0 := h.2.2.2.2.1.1
  by_cases hb : isN N n ∧ isSl s
  · obtain ⟨x, hx, rfl⟩ := isN_of hN hb.1
    obtain ⟨t, ht, rfl⟩ := isSl_of hb.2
    refine sim_go h.e (c_SL_slot (S := emb N S M) x hx hN h.iok (t + 1) (by omega) (by omega)) (c_MO_slot x hx hN hn0 t ht) ?_
    unfold rSlotR slotR
    rw [(h.rn hx).2.1, (h.rn hx).2.2.2.2.2.2.2.1 t ht]
  · exact sim_go h.e (c_SL_slot_no (S := emb N S M) n s hb) (c_MO_slot_no n s hn0 hb) rfl
theorem sim_plan (hJ : JJ N S M) (n s : Int32) : ∃ v S1 M1, Ex G none mi_SL_plan 0 0 0 (xEn mi_SL_plan [.ref (ad 0), .int n, .int s]) [] (LR G ad N S M) (xI (fun r w => r = v ∧ w = LR G ad N S1 M)) ∧ Ex G none mi_MO_plan 0 0 0 (xEn mi_MO_plan [.ref (ad (rp N 0)), .int n, .int s]) [] (LR G ad N S1 M) (xI (fun r w => r = v ∧ w = LR G ad N S1 M1)) ∧ JJ N S1 M1 := by
  obtain ⟨U, mx, cnt, h⟩ := hJ
  have hN := h.1.2
  have hn0 := h.2.2.2.2.1.1
  by_cases hb : isN N n ∧ isSl s
  · obtain ⟨x, hx, rfl⟩ := isN_of hN hb.1
    obtain ⟨t, ht, rfl⟩ := isSl_of hb.2
    refine sim_go h.e (c_SL_plan (S := emb N S M) x hx hN h.iok (t + 1) (by omega) (by omega)) (c_MO_plan x hx hN hn0 t ht) ?_
    unfold rPlanR planR
    rw [h.plan hx ht]
    have hh := h.has hx
    by_cases c : hasM x (emb N S M)
    · rw [if_pos c, if_pos (hh.mpr c)]
    · rw [if_neg c, if_neg (fun z => c (hh.mp z))]
  · exact sim_go h.e (c_SL_plan_no (S := emb N S M) n s hb) (c_MO_plan_no n s hn0 hb) rfl
theorem sim_chosen (hJ : JJ N S M) (n s : Int32) : ∃ v S1 M1, Ex G none mi_SL_chosen 0 0 0 (xEn mi_SL_chosen [.ref (ad 0), .int n, .int s]) [] (LR G ad N S M) (xI (fun r w => r = v ∧ w = LR G ad N S1 M)) ∧ Ex G none mi_MO_chosen 0 0 0 (xEn mi_MO_chosen [.ref (ad (rp N 0)), .int n, .int s]) [] (LR G ad N S1 M) (xI (fun r w => r = v ∧ w = LR G ad N S1 M1)) ∧ JJ N S1 M1 := by
  obtain ⟨U, mx, cnt, h⟩ := hJ
  have hN := h.1.2
  have hn0 := h.2.2.2.2.1.1
  by_cases hb : isN N n ∧ isSl s
  · obtain ⟨x, hx, rfl⟩ := isN_of hN hb.1
    obtain ⟨t, ht, rfl⟩ := isSl_of hb.2
    refine sim_go h.e (c_SL_chosen (S := emb N S M) x hx hN h.iok (t + 1) (by omega) (by omega)) (c_MO_chosen x hx hN hn0 t ht) ?_
    unfold rChosR
    rw [(h.rn hx).2.1, (h.rn hx).2.2.2.2.2.2.2.2.1 t ht]
    by_cases z : emb N S M (pl x 0) 5 = 0
    · rw [if_pos z, (((h.nk hx).2.2.2.2.2.2.2 z).2.2.2.2.2 (t + 1) (by omega) (by omega)).2]
    · rw [if_neg z]
  · exact sim_go h.e (c_SL_chosen_no (S := emb N S M) n s hb) (c_MO_chosen_no n s hn0 hb) rfl
theorem sim_value (hJ : JJ N S M) (n k : Int32) : ∃ v S1 M1, Ex G none mi_SL_value 0 0 0 (xEn mi_SL_value [.ref (ad 0), .int n, .int k]) [] (LR G ad N S M) (xI (fun r w => r = v ∧ w = LR G ad N S1 M)) ∧ Ex G none mi_MO_value 0 0 0 (xEn mi_MO_value [.ref (ad (rp N 0)), .int n, .int k]) [] (LR G ad N S1 M) (xI (fun r w => r = v ∧ w = LR G ad N S1 M1)) ∧ JJ N S1 M1 := by
  obtain ⟨U, mx, cnt, h⟩ := hJ
  have hN := h.1.2
  have hn0 := h.2.2.2.2.1.1
  by_cases hb : isN N n ∧ isKy k
  · obtain ⟨x, hx, rfl⟩ := isN_of hN hb.1
    obtain ⟨t, ht, rfl⟩ := isKy_of hb.2
    obtain ⟨q1, q2, q3, q4⟩ := h.play hx
    refine sim_go (M1 := rValS x M) ?_ (c_SL_value (S := emb N S M) x hx hN h.iok t ht) (c_MO_value x hx hN hn0 t ht (h.pok hx)) ?_
    · unfold rValS
      split
      · exact h.e
      · exact q1.e
    · unfold rValR
      rw [(h.rn hx).2.1]
      by_cases z : emb N S M (pl x 0) 5 = 0
      · rw [if_pos z]
        obtain ⟨D, d1, d2, d3, d4, d5, -⟩ := (h.nk hx).2.2.2.2.2.2.1
        have hD : D = 0 := by
          apply Classical.byContradiction
          intro y
          exact d3 1 (by decide) (by omega) ((((h.nk hx).2.2.2.2.2.2.2 z).2.2.2.2.2 1 (by decide) (by decide)).2)
        rw [d5 t ht, hD]; rfl
      · rw [if_neg z]; exact q3 t ht
  · exact sim_go h.e (c_SL_value_no (S := emb N S M) n k hb) (c_MO_value_no n k hn0 (fun z => hb ⟨z.1, Int32.not_lt.mp z.2.1, i_3.mp z.2.2⟩)) rfl
theorem sim_octet (hJ : JJ N S M) (n b : Int32) : ∃ v S1 M1, Ex G none mi_SL_octet 0 0 0 (xEn mi_SL_octet [.ref (ad 0), .int n, .int b]) [] (LR G ad N S M) (xI (fun r w => r = v ∧ w = LR G ad N S1 M)) ∧ Ex G none mi_MO_octet 0 0 0 (xEn mi_MO_octet [.ref (ad (rp N 0)), .int n, .int b]) [] (LR G ad N S1 M) (xI (fun r w => r = v ∧ w = LR G ad N S1 M1)) ∧ JJ N S1 M1 := by
  obtain ⟨U, mx, cnt, h⟩ := hJ
  have hN := h.1.2
  have hn0 := h.2.2.2.2.1.1
  by_cases hb : isN N n ∧ ¬ b < 0 ∧ b < 144
  · obtain ⟨x, hx, rfl⟩ := isN_of hN hb.1
    obtain ⟨t, ht, rfl⟩ := in_of (m := 144) (by decide) hb.2.1 hb.2.2
    refine sim_go h.e (c_SL_octet (S := emb N S M) x hx hN h.iok t ht) (c_MO_octet x hx hN hn0 t ht) ?_
    rw [Nat.add_comm]
    exact (h.rn hx).1 t ht
  · exact sim_go h.e (c_SL_octet_no (S := emb N S M) n b hb) (c_MO_octet_no n b hn0 (fun z => hb ⟨z.1, z.2.1, Int32.not_le.mp z.2.2⟩)) rfl
theorem sim_reply (hJ : JJ N S M) (q c : Int32) : ∃ v S1 M1, Ex G none mi_SL_reply 0 0 0 (xEn mi_SL_reply [.ref (ad 0), .int q, .int c]) [] (LR G ad N S M) (xI (fun r w => r = v ∧ w = LR G ad N S1 M)) ∧ Ex G none mi_MO_reply 0 0 0 (xEn mi_MO_reply [.ref (ad (rp N 0)), .int q, .int c]) [] (LR G ad N S1 M) (xI (fun r w => r = v ∧ w = LR G ad N S1 M1)) ∧ JJ N S1 M1 := by
  obtain ⟨U, mx, cnt, h⟩ := hJ
  have hN := h.1.2
  have hn0 := h.2.2.2.2.1.1
  have e1 : M 0 1 = emb N S M 1 4 := h.2.2.2.2.1.2.1
  by_cases hb : isReq (emb N S M) q
  · obtain ⟨k, k1, k2, rfl⟩ := req_of h hb
    have hcnt := h.2.2.2.1.1
    refine sim_go h.e (c_SL_reply (S := emb N S M) hN h.iok k (by omega) hb c) (c_MO_reply hN hn0 k cnt (e1.trans h.2.2.2.1.2.1) k1 k2 hcnt c) ?_
    obtain ⟨-, -, r3, r4⟩ := h.2.2.2.2.1.2.2 k (by omega)
    unfold rReplyR replyR
    rw [r3, r4]
  · exact sim_go h.e (c_SL_reply_no (S := emb N S M) q c hb) (c_MO_reply_no q c hn0 (fun z => hb ⟨Int32.not_lt.mp z.1, by rw [← e1]; exact z.2⟩)) rfl
end SIMS
