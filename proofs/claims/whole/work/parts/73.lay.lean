section LYT
variable {G : xC}
def adL (l : List Nat) : Nat → Nat := fun p => l.getD p 0
abbrev T0 (N : Nat) : sT := emb N (S0 N) (M0 N)
theorem eR {N i j : Nat} (hi : i < N) (hj : j < 14) : T0 N (pl i j) = S0n N i j := by
  rw [← S0_at hj]
  funext x
  exact if_pos (by unfold pl; omega)
theorem e7 {N p : Nat} (hp : p < 7) : T0 N p = fun _ => 0 := by
  funext x
  rw [show T0 N p x = S0 N p x from if_pos (by omega)]
  unfold S0
  rw [if_pos hp]
theorem eM {N j : Nat} : T0 N (rp N j) = M0 N j := by
  funext x
  exact emb_at
theorem lc {a b : Nat × va_E} {l m : va_W} (h : a = b) (t : l = m) : a :: l = b :: m := by rw [h, t]
theorem pe {x y : Nat} {c d : va_E} (h : x = y) (t : c = d) : (x, c) = (y, d) := by rw [h, t]
theorem na_3 {ad : Nat → Nat} {a b c : Nat} (h0 : ad (pl 0 0) = a) (h1 : ad (pl 1 0) = b) (h2 : ad (pl 2 0) = c) : va_up (va_up (va_up (fun _ => none) 0 (some a)) 1 (some b)) 2 (some c) = fun j => if j < 3 then some (ad (pl j 0)) else none := by
  funext j
  match j with
  | 0 => rw [h0]; rfl
  | 1 => rw [h1]; rfl
  | 2 => rw [h2]; rfl
  | n + 3 => rw [if_neg (by omega)]; rfl
theorem na_5 {ad : Nat → Nat} {a b c d e : Nat} (h0 : ad (pl 0 0) = a) (h1 : ad (pl 1 0) = b) (h2 : ad (pl 2 0) = c) (h3 : ad (pl 3 0) = d) (h4 : ad (pl 4 0) = e) : va_up (va_up (va_up (va_up (va_up (fun _ => none) 0 (some a)) 1 (some b)) 2 (some c)) 3 (some d)) 4 (some e) = fun j => if j < 5 then some (ad (pl j 0)) else none := by
  funext j
  match j with
  | 0 => rw [h0]; rfl
  | 1 => rw [h1]; rfl
  | 2 => rw [h2]; rfl
  | 3 => rw [h3]; rfl
  | 4 => rw [h4]; rfl
  | n + 5 => rw [if_neg (by omega)]; rfl
variable {N i : Nat} {ad : Nat → Nat}
theorem cn_0 (hi : i < N) : cellOf G ad (T0 N) (pl i 0) (sh N (pl i 0)) = (.inr (3, [.int (nI i), .ref (ad (pl i 1)), .ref (ad (pl i 3)), .ref (ad (pl i 4)), .ref (ad (pl i 9)), .int (1), .int (0), .int (0), .int (-1)]) : va_E) := by
  rw [sh_Node hi]
  show (.inr (3, [.int (T0 N (pl i 0) 0), .ref (ad (pl i 1)), .ref (ad (pl i 3)), .ref (ad (pl i 4)), .ref (ad (pl i 9)), .int (T0 N (pl i 0) 5), .int (T0 N (pl i 0) 6), .int (T0 N (pl i 0) 7), .int (T0 N (pl i 0) 8)]) : va_E) = _
  rw [eR hi (by decide)]
  rfl
theorem cn_1 (hi : i < N) : cellOf G ad (T0 N) (pl i 1) (sh N (pl i 1)) = (.inr (1, [.ref (ad (pl i 2))]) : va_E) := by
  rw [sh_Disk hi]
  rfl
theorem cn_2 (hi : i < N) : cellOf G ad (T0 N) (pl i 2) (sh N (pl i 2)) = (.inl (G.2.1, 144, .inl (dk0 18)) : va_E) := by
  rw [sh_Bytes hi]
  show (.inl (G.2.1, 144, .inl (T0 N (pl i 2))) : va_E) = _
  rw [eR hi (by decide)]
  rfl
theorem cn_3 (hi : i < N) : cellOf G ad (T0 N) (pl i 3) (sh N (pl i 3)) = (.inl (G.2.1, 9, .inl (fun _ => 0)) : va_E) := by
  rw [sh_Nslots hi]
  show (.inl (G.2.1, 9, .inl (T0 N (pl i 3))) : va_E) = _
  rw [eR hi (by decide)]
  rfl
theorem cn_4 (hi : i < N) : cellOf G ad (T0 N) (pl i 4) (sh N (pl i 4)) = (.inr (4, [.int (nI N), .ref (ad (pl i 8)), .ref (ad (pl i 5)), .ref (ad (pl i 6)), .ref (ad (pl i 7)), .int (0), .int (0)]) : va_E) := by
  rw [sh_Term hi]
  show (.inr (4, [.int (T0 N (pl i 4) 0), .ref (ad (pl i 8)), .ref (ad (pl i 5)), .ref (ad (pl i 6)), .ref (ad (pl i 7)), .int (T0 N (pl i 4) 5), .int (T0 N (pl i 4) 6)]) : va_E) = _
  rw [eR hi (by decide)]
  rfl
theorem cn_5 (hi : i < N) : cellOf G ad (T0 N) (pl i 5) (sh N (pl i 5)) = (.inl (G.2.1, 9, .inl (fun _ => 0)) : va_E) := by
  rw [sh_Assigned hi]
  show (.inl (G.2.1, 9, .inl (T0 N (pl i 5))) : va_E) = _
  rw [eR hi (by decide)]
  rfl
theorem cn_6 (hi : i < N) : cellOf G ad (T0 N) (pl i 6) (sh N (pl i 6)) = (.inl (G.2.1, 9, .inl (fun _ => 0)) : va_E) := by
  rw [sh_Fixed hi]
  show (.inl (G.2.1, 9, .inl (T0 N (pl i 6))) : va_E) = _
  rw [eR hi (by decide)]
  rfl
theorem cn_7 (hi : i < N) : cellOf G ad (T0 N) (pl i 7) (sh N (pl i 7)) = (.inl (G.2.1, 9, .inl (fun _ => 0)) : va_E) := by
  rw [sh_Voters hi]
  show (.inl (G.2.1, 9, .inl (T0 N (pl i 7))) : va_E) = _
  rw [eR hi (by decide)]
  rfl
theorem cn_8 (hi : i < N) : cellOf G ad (T0 N) (pl i 8) (sh N (pl i 8)) = (.inl (G.2.1, 9 * N, .inl (fun _ => 0)) : va_E) := by
  rw [sh_Told hi]
  show (.inl (G.2.1, 9 * N, .inl (T0 N (pl i 8))) : va_E) = _
  rw [eR hi (by decide)]
  rfl
theorem cn_9 (hi : i < N) : cellOf G ad (T0 N) (pl i 9) (sh N (pl i 9)) = (.inr (2, [.ref (ad 1), .ref (ad (pl i 10)), .ref (ad (pl i 11)), .ref (ad (pl i 12)), .ref (ad (pl i 13)), .int (0)]) : va_E) := by
  rw [sh_Ledger hi]
  show (.inr (2, [.ref (ad 1), .ref (ad (pl i 10)), .ref (ad (pl i 11)), .ref (ad (pl i 12)), .ref (ad (pl i 13)), .int (T0 N (pl i 9) 5)]) : va_E) = _
  rw [eR hi (by decide)]
  rfl
theorem cn_10 (hi : i < N) : cellOf G ad (T0 N) (pl i 10) (sh N (pl i 10)) = (.inl (G.2.1, 9, .inl (fT (fun _ => 0) (-1) 9)) : va_E) := by
  rw [sh_Commands hi]
  show (.inl (G.2.1, 9, .inl (T0 N (pl i 10))) : va_E) = _
  rw [eR hi (by decide)]
  rfl
theorem cn_11 (hi : i < N) : cellOf G ad (T0 N) (pl i 11) (sh N (pl i 11)) = (.inl (G.2.1, 4, .inl (fT (fun _ => 0) 0 4)) : va_E) := by
  rw [sh_Numbers hi]
  show (.inl (G.2.1, 4, .inl (T0 N (pl i 11))) : va_E) = _
  rw [eR hi (by decide)]
  rfl
theorem cn_12 (hi : i < N) : cellOf G ad (T0 N) (pl i 12) (sh N (pl i 12)) = (.inl (G.2.1, 31, .inl (fT (fun _ => 0) 0 31)) : va_E) := by
  rw [sh_Answers hi]
  show (.inl (G.2.1, 31, .inl (T0 N (pl i 12))) : va_E) = _
  rw [eR hi (by decide)]
  rfl
theorem cn_13 (hi : i < N) : cellOf G ad (T0 N) (pl i 13) (sh N (pl i 13)) = (.inl (G.2.2.1, 31, .inl (fT (fun _ => 0) 0 31)) : va_E) := by
  rw [sh_Done hi]
  show (.inl (G.2.2.1, 31, .inl (T0 N (pl i 13))) : va_E) = _
  rw [eR hi (by decide)]
  rfl
theorem cs_0 : cellOf G ad (T0 N) 0 (sh N 0) = (.inr (5, [.ref (ad 1), .ref (ad 6)]) : va_E) := rfl
theorem cs_1 : cellOf G ad (T0 N) 1 (sh N 1) = (.inr (0, [.ref (ad 2), .ref (ad 3), .ref (ad 4), .ref (ad 5), .int (0)]) : va_E) := by
  rw [sh_CL]
  show (.inr (0, [.ref (ad 2), .ref (ad 3), .ref (ad 4), .ref (ad 5), .int (T0 N 1 4)]) : va_E) = _
  rw [e7 (by decide)]
theorem cs_2 : cellOf G ad (T0 N) 2 (sh N 2) = (.inl (G.2.1, 31, .inl (fun _ => 0)) : va_E) := by
  rw [sh_C2]
  show (.inl (G.2.1, 31, .inl (T0 N 2)) : va_E) = _
  rw [e7 (by decide)]
theorem cs_3 : cellOf G ad (T0 N) 3 (sh N 3) = (.inl (G.2.1, 31, .inl (fun _ => 0)) : va_E) := by
  rw [sh_C3]
  show (.inl (G.2.1, 31, .inl (T0 N 3)) : va_E) = _
  rw [e7 (by decide)]
theorem cs_4 : cellOf G ad (T0 N) 4 (sh N 4) = (.inl (G.2.1, 31, .inl (fun _ => 0)) : va_E) := by
  rw [sh_C4]
  show (.inl (G.2.1, 31, .inl (T0 N 4)) : va_E) = _
  rw [e7 (by decide)]
theorem cs_5 : cellOf G ad (T0 N) 5 (sh N 5) = (.inl (G.2.1, 31, .inl (fun _ => 0)) : va_E) := by
  rw [sh_C5]
  show (.inl (G.2.1, 31, .inl (T0 N 5)) : va_E) = _
  rw [e7 (by decide)]
theorem cs_6 : cellOf G ad (T0 N) 6 (sh N 6) = (.inl (G.2.2.2, N, .inr (.inr (.inr (.inr (fun j => if j < N then some (ad (pl j 0)) else none))))) : va_E) := rfl
theorem cm_0 : cellOf G ad (T0 N) (rp N 0) (sh N (rp N 0)) = (.inr (6, [.int (nI N), .int (0), .ref (ad (rp N 1)), .ref (ad (rp N 2)), .ref (ad (rp N 3)), .ref (ad (rp N 4)), .ref (ad (rp N 5)), .ref (ad (rp N 6)), .ref (ad (rp N 7)), .ref (ad (rp N 8)), .ref (ad (rp N 9)), .ref (ad (rp N 10)), .ref (ad (rp N 11)), .ref (ad (rp N 12)), .ref (ad (rp N 13)), .ref (ad (rp N 14)), .ref (ad (rp N 15)), .ref (ad (rp N 16)), .ref (ad (rp N 17)), .int (0), .ref (ad (rp N 18)), .ref (ad (rp N 19)), .ref (ad (rp N 20))]) : va_E) := by
  rw [sh_rp]
  show cellOf G ad (T0 N) (rp N 0) (.inl (6, [none, none, some (rp N 1), some (rp N 2), some (rp N 3), some (rp N 4), some (rp N 5), some (rp N 6), some (rp N 7), some (rp N 8), some (rp N 9), some (rp N 10), some (rp N 11), some (rp N 12), some (rp N 13), some (rp N 14), some (rp N 15), some (rp N 16), some (rp N 17), none, some (rp N 18), some (rp N 19), some (rp N 20)])) = _
  simp only [cellOf, List.mapIdx_cons, List.mapIdx_nil, fv, eM]
  rfl
theorem cm_1 : cellOf G ad (T0 N) (rp N 1) (sh N (rp N 1)) = (.inl (G.2.1, 31, .inl (fun _ => 0)) : va_E) := by
  rw [sh_rp]
  show (.inl (G.2.1, 31, .inl (T0 N (rp N 1))) : va_E) = _
  rw [eM]
  rfl
theorem cm_2 : cellOf G ad (T0 N) (rp N 2) (sh N (rp N 2)) = (.inl (G.2.1, 31, .inl (fun _ => 0)) : va_E) := by
  rw [sh_rp]
  show (.inl (G.2.1, 31, .inl (T0 N (rp N 2))) : va_E) = _
  rw [eM]
  rfl
theorem cm_3 : cellOf G ad (T0 N) (rp N 3) (sh N (rp N 3)) = (.inl (G.2.1, 31, .inl (fun _ => 0)) : va_E) := by
  rw [sh_rp]
  show (.inl (G.2.1, 31, .inl (T0 N (rp N 3))) : va_E) = _
  rw [eM]
  rfl
theorem cm_4 : cellOf G ad (T0 N) (rp N 4) (sh N (rp N 4)) = (.inl (G.2.1, 31, .inl (fun _ => 0)) : va_E) := by
  rw [sh_rp]
  show (.inl (G.2.1, 31, .inl (T0 N (rp N 4))) : va_E) = _
  rw [eM]
  rfl
theorem cm_5 : cellOf G ad (T0 N) (rp N 5) (sh N (rp N 5)) = (.inl (G.2.1, 720, .inl (fun _ => 0)) : va_E) := by
  rw [sh_rp]
  show (.inl (G.2.1, 720, .inl (T0 N (rp N 5))) : va_E) = _
  rw [eM]
  rfl
theorem cm_6 : cellOf G ad (T0 N) (rp N 6) (sh N (rp N 6)) = (.inl (G.2.2.1, 5, .inl (fun _ => 0)) : va_E) := by
  rw [sh_rp]
  show (.inl (G.2.2.1, 5, .inl (T0 N (rp N 6))) : va_E) = _
  rw [eM]
  rfl
theorem cm_7 : cellOf G ad (T0 N) (rp N 7) (sh N (rp N 7)) = (.inl (G.2.2.1, 5, .inl (fun _ => 0)) : va_E) := by
  rw [sh_rp]
  show (.inl (G.2.2.1, 5, .inl (T0 N (rp N 7))) : va_E) = _
  rw [eM]
  rfl
theorem cm_8 : cellOf G ad (T0 N) (rp N 8) (sh N (rp N 8)) = (.inl (G.2.1, 5, .inl (fun _ => 0)) : va_E) := by
  rw [sh_rp]
  show (.inl (G.2.1, 5, .inl (T0 N (rp N 8))) : va_E) = _
  rw [eM]
  rfl
theorem cm_9 : cellOf G ad (T0 N) (rp N 9) (sh N (rp N 9)) = (.inl (G.2.1, 5, .inl (fun _ => 0)) : va_E) := by
  rw [sh_rp]
  show (.inl (G.2.1, 5, .inl (T0 N (rp N 9))) : va_E) = _
  rw [eM]
  rfl
theorem cm_10 : cellOf G ad (T0 N) (rp N 10) (sh N (rp N 10)) = (.inl (G.2.1, 5, .inl (fun _ => 0)) : va_E) := by
  rw [sh_rp]
  show (.inl (G.2.1, 5, .inl (T0 N (rp N 10))) : va_E) = _
  rw [eM]
  rfl
theorem cm_11 : cellOf G ad (T0 N) (rp N 11) (sh N (rp N 11)) = (.inl (G.2.1, 5, .inl (fun _ => 0)) : va_E) := by
  rw [sh_rp]
  show (.inl (G.2.1, 5, .inl (T0 N (rp N 11))) : va_E) = _
  rw [eM]
  rfl
theorem cm_12 : cellOf G ad (T0 N) (rp N 12) (sh N (rp N 12)) = (.inl (G.2.1, 40, .inl (fun _ => 0)) : va_E) := by
  rw [sh_rp]
  show (.inl (G.2.1, 40, .inl (T0 N (rp N 12))) : va_E) = _
  rw [eM]
  rfl
theorem cm_13 : cellOf G ad (T0 N) (rp N 13) (sh N (rp N 13)) = (.inl (G.2.1, 40, .inl (fun _ => 0)) : va_E) := by
  rw [sh_rp]
  show (.inl (G.2.1, 40, .inl (T0 N (rp N 13))) : va_E) = _
  rw [eM]
  rfl
theorem cm_14 : cellOf G ad (T0 N) (rp N 14) (sh N (rp N 14)) = (.inl (G.2.1, 40, .inl (fun _ => 0)) : va_E) := by
  rw [sh_rp]
  show (.inl (G.2.1, 40, .inl (T0 N (rp N 14))) : va_E) = _
  rw [eM]
  rfl
theorem cm_15 : cellOf G ad (T0 N) (rp N 15) (sh N (rp N 15)) = (.inl (G.2.1, 40, .inl (fun _ => 0)) : va_E) := by
  rw [sh_rp]
  show (.inl (G.2.1, 40, .inl (T0 N (rp N 15))) : va_E) = _
  rw [eM]
  rfl
theorem cm_16 : cellOf G ad (T0 N) (rp N 16) (sh N (rp N 16)) = (.inl (G.2.1, 40, .inl (fun _ => 0)) : va_E) := by
  rw [sh_rp]
  show (.inl (G.2.1, 40, .inl (T0 N (rp N 16))) : va_E) = _
  rw [eM]
  rfl
theorem cm_17 : cellOf G ad (T0 N) (rp N 17) (sh N (rp N 17)) = (.inl (G.2.1, 200, .inl (fun _ => 0)) : va_E) := by
  rw [sh_rp]
  show (.inl (G.2.1, 200, .inl (T0 N (rp N 17))) : va_E) = _
  rw [eM]
  rfl
theorem cm_18 : cellOf G ad (T0 N) (rp N 18) (sh N (rp N 18)) = (.inl (G.2.1, 4, .inl (fun _ => 0)) : va_E) := by
  rw [sh_rp]
  show (.inl (G.2.1, 4, .inl (T0 N (rp N 18))) : va_E) = _
  rw [eM]
  rfl
theorem cm_19 : cellOf G ad (T0 N) (rp N 19) (sh N (rp N 19)) = (.inl (G.2.2.1, 31, .inl (fun _ => 0)) : va_E) := by
  rw [sh_rp]
  show (.inl (G.2.2.1, 31, .inl (T0 N (rp N 19))) : va_E) = _
  rw [eM]
  rfl
theorem cm_20 : cellOf G ad (T0 N) (rp N 20) (sh N (rp N 20)) = (.inl (G.2.1, 31, .inl (fun _ => 0)) : va_E) := by
  rw [sh_rp]
  show (.inl (G.2.1, 31, .inl (T0 N (rp N 20))) : va_E) = _
  rw [eM]
  rfl
set_option maxRecDepth 100000 in
set_option maxHeartbeats 4000000 in
theorem lay_3a (ad : Nat → Nat) : LR G ad 3 (S0 3) (M0 3) = [(ad 0, cellOf G ad (T0 3) 0 (sh 3 0)), (ad 1, cellOf G ad (T0 3) 1 (sh 3 1)), (ad 2, cellOf G ad (T0 3) 2 (sh 3 2)), (ad 3, cellOf G ad (T0 3) 3 (sh 3 3)), (ad 4, cellOf G ad (T0 3) 4 (sh 3 4)), (ad 5, cellOf G ad (T0 3) 5 (sh 3 5)), (ad 6, cellOf G ad (T0 3) 6 (sh 3 6))] ++ ([(ad (pl 0 0), cellOf G ad (T0 3) (pl 0 0) (sh 3 (pl 0 0))), (ad (pl 0 1), cellOf G ad (T0 3) (pl 0 1) (sh 3 (pl 0 1))), (ad (pl 0 2), cellOf G ad (T0 3) (pl 0 2) (sh 3 (pl 0 2))), (ad (pl 0 3), cellOf G ad (T0 3) (pl 0 3) (sh 3 (pl 0 3))), (ad (pl 0 4), cellOf G ad (T0 3) (pl 0 4) (sh 3 (pl 0 4))), (ad (pl 0 5), cellOf G ad (T0 3) (pl 0 5) (sh 3 (pl 0 5))), (ad (pl 0 6), cellOf G ad (T0 3) (pl 0 6) (sh 3 (pl 0 6))), (ad (pl 0 7), cellOf G ad (T0 3) (pl 0 7) (sh 3 (pl 0 7))), (ad (pl 0 8), cellOf G ad (T0 3) (pl 0 8) (sh 3 (pl 0 8))), (ad (pl 0 9), cellOf G ad (T0 3) (pl 0 9) (sh 3 (pl 0 9))), (ad (pl 0 10), cellOf G ad (T0 3) (pl 0 10) (sh 3 (pl 0 10))), (ad (pl 0 11), cellOf G ad (T0 3) (pl 0 11) (sh 3 (pl 0 11))), (ad (pl 0 12), cellOf G ad (T0 3) (pl 0 12) (sh 3 (pl 0 12))), (ad (pl 0 13), cellOf G ad (T0 3) (pl 0 13) (sh 3 (pl 0 13)))] ++ ([(ad (pl 1 0), cellOf G ad (T0 3) (pl 1 0) (sh 3 (pl 1 0))), (ad (pl 1 1), cellOf G ad (T0 3) (pl 1 1) (sh 3 (pl 1 1))), (ad (pl 1 2), cellOf G ad (T0 3) (pl 1 2) (sh 3 (pl 1 2))), (ad (pl 1 3), cellOf G ad (T0 3) (pl 1 3) (sh 3 (pl 1 3))), (ad (pl 1 4), cellOf G ad (T0 3) (pl 1 4) (sh 3 (pl 1 4))), (ad (pl 1 5), cellOf G ad (T0 3) (pl 1 5) (sh 3 (pl 1 5))), (ad (pl 1 6), cellOf G ad (T0 3) (pl 1 6) (sh 3 (pl 1 6))), (ad (pl 1 7), cellOf G ad (T0 3) (pl 1 7) (sh 3 (pl 1 7))), (ad (pl 1 8), cellOf G ad (T0 3) (pl 1 8) (sh 3 (pl 1 8))), (ad (pl 1 9), cellOf G ad (T0 3) (pl 1 9) (sh 3 (pl 1 9))), (ad (pl 1 10), cellOf G ad (T0 3) (pl 1 10) (sh 3 (pl 1 10))), (ad (pl 1 11), cellOf G ad (T0 3) (pl 1 11) (sh 3 (pl 1 11))), (ad (pl 1 12), cellOf G ad (T0 3) (pl 1 12) (sh 3 (pl 1 12))), (ad (pl 1 13), cellOf G ad (T0 3) (pl 1 13) (sh 3 (pl 1 13)))] ++ ([(ad (pl 2 0), cellOf G ad (T0 3) (pl 2 0) (sh 3 (pl 2 0))), (ad (pl 2 1), cellOf G ad (T0 3) (pl 2 1) (sh 3 (pl 2 1))), (ad (pl 2 2), cellOf G ad (T0 3) (pl 2 2) (sh 3 (pl 2 2))), (ad (pl 2 3), cellOf G ad (T0 3) (pl 2 3) (sh 3 (pl 2 3))), (ad (pl 2 4), cellOf G ad (T0 3) (pl 2 4) (sh 3 (pl 2 4))), (ad (pl 2 5), cellOf G ad (T0 3) (pl 2 5) (sh 3 (pl 2 5))), (ad (pl 2 6), cellOf G ad (T0 3) (pl 2 6) (sh 3 (pl 2 6))), (ad (pl 2 7), cellOf G ad (T0 3) (pl 2 7) (sh 3 (pl 2 7))), (ad (pl 2 8), cellOf G ad (T0 3) (pl 2 8) (sh 3 (pl 2 8))), (ad (pl 2 9), cellOf G ad (T0 3) (pl 2 9) (sh 3 (pl 2 9))), (ad (pl 2 10), cellOf G ad (T0 3) (pl 2 10) (sh 3 (pl 2 10))), (ad (pl 2 11), cellOf G ad (T0 3) (pl 2 11) (sh 3 (pl 2 11))), (ad (pl 2 12), cellOf G ad (T0 3) (pl 2 12) (sh 3 (pl 2 12))), (ad (pl 2 13), cellOf G ad (T0 3) (pl 2 13) (sh 3 (pl 2 13)))] ++ [(ad (rp 3 0), cellOf G ad (T0 3) (rp 3 0) (sh 3 (rp 3 0))), (ad (rp 3 1), cellOf G ad (T0 3) (rp 3 1) (sh 3 (rp 3 1))), (ad (rp 3 2), cellOf G ad (T0 3) (rp 3 2) (sh 3 (rp 3 2))), (ad (rp 3 3), cellOf G ad (T0 3) (rp 3 3) (sh 3 (rp 3 3))), (ad (rp 3 4), cellOf G ad (T0 3) (rp 3 4) (sh 3 (rp 3 4))), (ad (rp 3 5), cellOf G ad (T0 3) (rp 3 5) (sh 3 (rp 3 5))), (ad (rp 3 6), cellOf G ad (T0 3) (rp 3 6) (sh 3 (rp 3 6))), (ad (rp 3 7), cellOf G ad (T0 3) (rp 3 7) (sh 3 (rp 3 7))), (ad (rp 3 8), cellOf G ad (T0 3) (rp 3 8) (sh 3 (rp 3 8))), (ad (rp 3 9), cellOf G ad (T0 3) (rp 3 9) (sh 3 (rp 3 9))), (ad (rp 3 10), cellOf G ad (T0 3) (rp 3 10) (sh 3 (rp 3 10))), (ad (rp 3 11), cellOf G ad (T0 3) (rp 3 11) (sh 3 (rp 3 11))), (ad (rp 3 12), cellOf G ad (T0 3) (rp 3 12) (sh 3 (rp 3 12))), (ad (rp 3 13), cellOf G ad (T0 3) (rp 3 13) (sh 3 (rp 3 13))), (ad (rp 3 14), cellOf G ad (T0 3) (rp 3 14) (sh 3 (rp 3 14))), (ad (rp 3 15), cellOf G ad (T0 3) (rp 3 15) (sh 3 (rp 3 15))), (ad (rp 3 16), cellOf G ad (T0 3) (rp 3 16) (sh 3 (rp 3 16))), (ad (rp 3 17), cellOf G ad (T0 3) (rp 3 17) (sh 3 (rp 3 17))), (ad (rp 3 18), cellOf G ad (T0 3) (rp 3 18) (sh 3 (rp 3 18))), (ad (rp 3 19), cellOf G ad (T0 3) (rp 3 19) (sh 3 (rp 3 19))), (ad (rp 3 20), cellOf G ad (T0 3) (rp 3 20) (sh 3 (rp 3 20)))]))) := by
  have h : ∀ f : Nat → Nat × va_E, (List.range 70).map f = [f 0, f 1, f 2, f 3, f 4, f 5, f 6] ++ ([f (pl 0 0), f (pl 0 1), f (pl 0 2), f (pl 0 3), f (pl 0 4), f (pl 0 5), f (pl 0 6), f (pl 0 7), f (pl 0 8), f (pl 0 9), f (pl 0 10), f (pl 0 11), f (pl 0 12), f (pl 0 13)] ++ ([f (pl 1 0), f (pl 1 1), f (pl 1 2), f (pl 1 3), f (pl 1 4), f (pl 1 5), f (pl 1 6), f (pl 1 7), f (pl 1 8), f (pl 1 9), f (pl 1 10), f (pl 1 11), f (pl 1 12), f (pl 1 13)] ++ ([f (pl 2 0), f (pl 2 1), f (pl 2 2), f (pl 2 3), f (pl 2 4), f (pl 2 5), f (pl 2 6), f (pl 2 7), f (pl 2 8), f (pl 2 9), f (pl 2 10), f (pl 2 11), f (pl 2 12), f (pl 2 13)] ++ [f (rp 3 0), f (rp 3 1), f (rp 3 2), f (rp 3 3), f (rp 3 4), f (rp 3 5), f (rp 3 6), f (rp 3 7), f (rp 3 8), f (rp 3 9), f (rp 3 10), f (rp 3 11), f (rp 3 12), f (rp 3 13), f (rp 3 14), f (rp 3 15), f (rp 3 16), f (rp 3 17), f (rp 3 18), f (rp 3 19), f (rp 3 20)]))) := fun f => rfl
  exact h (fun p => (ad p, cellOf G ad (T0 3) p (sh 3 p)))
set_option maxRecDepth 100000 in
set_option maxHeartbeats 4000000 in
theorem lay_3 (h p1 p2 p3 p4 p5 p6 p7 p8 p9 p10 p11 p12 p13 p14 p15 p16 p17 p18 p19 p20 p21 p22 p23 p24 p25 p26 p27 p28 p29 p30 p31 p32 p33 p34 p35 p36 p37 p38 p39 p40 p41 p42 p43 p44 p45 p46 p47 p48 hm q1 q2 q3 q4 q5 q6 q7 q8 q9 q10 q11 q12 q13 q14 q15 q16 q17 q18 q19 q20 : Nat) : ∃ ad : Nat → Nat, ad 0 = h ∧ ad (rp 3 0) = hm ∧ [(h, .inr (5, [.ref p1, .ref p6])), (p1, .inr (0, [.ref p2, .ref p3, .ref p4, .ref p5, .int 0])), (p2, .inl (G.2.1, 31, .inl (fun _ => 0))), (p3, .inl (G.2.1, 31, .inl (fun _ => 0))), (p4, .inl (G.2.1, 31, .inl (fun _ => 0))), (p5, .inl (G.2.1, 31, .inl (fun _ => 0))), (p6, .inl (G.2.2.2, 3, .inr (.inr (.inr (.inr (va_up (va_up (va_up (fun _ => none) 0 (some p7)) 1 (some p21)) 2 (some p35))))))), (p7, .inr (3, [.int (nI 0), .ref p8, .ref p10, .ref p11, .ref p16, .int 1, .int 0, .int 0, .int (-1)])), (p8, .inr (1, [.ref p9])), (p9, .inl (G.2.1, 144, .inl (dk0 18))), (p10, .inl (G.2.1, 9, .inl (fun _ => 0))), (p11, .inr (4, [.int (nI 3), .ref p15, .ref p12, .ref p13, .ref p14, .int 0, .int 0])), (p12, .inl (G.2.1, 9, .inl (fun _ => 0))), (p13, .inl (G.2.1, 9, .inl (fun _ => 0))), (p14, .inl (G.2.1, 9, .inl (fun _ => 0))), (p15, .inl (G.2.1, 9 * 3, .inl (fun _ => 0))), (p16, .inr (2, [.ref p1, .ref p17, .ref p18, .ref p19, .ref p20, .int 0])), (p17, .inl (G.2.1, 9, .inl (fT (fun _ => 0) (-1) 9))), (p18, .inl (G.2.1, 4, .inl (fT (fun _ => 0) 0 4))), (p19, .inl (G.2.1, 31, .inl (fT (fun _ => 0) 0 31))), (p20, .inl (G.2.2.1, 31, .inl (fT (fun _ => 0) 0 31))), (p21, .inr (3, [.int (nI 1), .ref p22, .ref p24, .ref p25, .ref p30, .int 1, .int 0, .int 0, .int (-1)])), (p22, .inr (1, [.ref p23])), (p23, .inl (G.2.1, 144, .inl (dk0 18))), (p24, .inl (G.2.1, 9, .inl (fun _ => 0))), (p25, .inr (4, [.int (nI 3), .ref p29, .ref p26, .ref p27, .ref p28, .int 0, .int 0])), (p26, .inl (G.2.1, 9, .inl (fun _ => 0))), (p27, .inl (G.2.1, 9, .inl (fun _ => 0))), (p28, .inl (G.2.1, 9, .inl (fun _ => 0))), (p29, .inl (G.2.1, 9 * 3, .inl (fun _ => 0))), (p30, .inr (2, [.ref p1, .ref p31, .ref p32, .ref p33, .ref p34, .int 0])), (p31, .inl (G.2.1, 9, .inl (fT (fun _ => 0) (-1) 9))), (p32, .inl (G.2.1, 4, .inl (fT (fun _ => 0) 0 4))), (p33, .inl (G.2.1, 31, .inl (fT (fun _ => 0) 0 31))), (p34, .inl (G.2.2.1, 31, .inl (fT (fun _ => 0) 0 31))), (p35, .inr (3, [.int (nI 2), .ref p36, .ref p38, .ref p39, .ref p44, .int 1, .int 0, .int 0, .int (-1)])), (p36, .inr (1, [.ref p37])), (p37, .inl (G.2.1, 144, .inl (dk0 18))), (p38, .inl (G.2.1, 9, .inl (fun _ => 0))), (p39, .inr (4, [.int (nI 3), .ref p43, .ref p40, .ref p41, .ref p42, .int 0, .int 0])), (p40, .inl (G.2.1, 9, .inl (fun _ => 0))), (p41, .inl (G.2.1, 9, .inl (fun _ => 0))), (p42, .inl (G.2.1, 9, .inl (fun _ => 0))), (p43, .inl (G.2.1, 9 * 3, .inl (fun _ => 0))), (p44, .inr (2, [.ref p1, .ref p45, .ref p46, .ref p47, .ref p48, .int 0])), (p45, .inl (G.2.1, 9, .inl (fT (fun _ => 0) (-1) 9))), (p46, .inl (G.2.1, 4, .inl (fT (fun _ => 0) 0 4))), (p47, .inl (G.2.1, 31, .inl (fT (fun _ => 0) 0 31))), (p48, .inl (G.2.2.1, 31, .inl (fT (fun _ => 0) 0 31)))] ++ [(hm, .inr (6, [.int 3, .int 0, .ref q1, .ref q2, .ref q3, .ref q4, .ref q5, .ref q6, .ref q7, .ref q8, .ref q9, .ref q10, .ref q11, .ref q12, .ref q13, .ref q14, .ref q15, .ref q16, .ref q17, .int 0, .ref q18, .ref q19, .ref q20])), (q1, .inl (G.2.1, 31, .inl (fun _ => 0))), (q2, .inl (G.2.1, 31, .inl (fun _ => 0))), (q3, .inl (G.2.1, 31, .inl (fun _ => 0))), (q4, .inl (G.2.1, 31, .inl (fun _ => 0))), (q5, .inl (G.2.1, 720, .inl (fun _ => 0))), (q6, .inl (G.2.2.1, 5, .inl (fun _ => 0))), (q7, .inl (G.2.2.1, 5, .inl (fun _ => 0))), (q8, .inl (G.2.1, 5, .inl (fun _ => 0))), (q9, .inl (G.2.1, 5, .inl (fun _ => 0))), (q10, .inl (G.2.1, 5, .inl (fun _ => 0))), (q11, .inl (G.2.1, 5, .inl (fun _ => 0))), (q12, .inl (G.2.1, 40, .inl (fun _ => 0))), (q13, .inl (G.2.1, 40, .inl (fun _ => 0))), (q14, .inl (G.2.1, 40, .inl (fun _ => 0))), (q15, .inl (G.2.1, 40, .inl (fun _ => 0))), (q16, .inl (G.2.1, 40, .inl (fun _ => 0))), (q17, .inl (G.2.1, 200, .inl (fun _ => 0))), (q18, .inl (G.2.1, 4, .inl (fun _ => 0))), (q19, .inl (G.2.2.1, 31, .inl (fun _ => 0))), (q20, .inl (G.2.1, 31, .inl (fun _ => 0)))] = LR G ad 3 (S0 3) (M0 3) := by
  refine ⟨adL ([h, p1, p2, p3, p4, p5, p6, p7, p8, p9, p10, p11, p12, p13, p14, p15, p16, p17, p18, p19, p20, p21, p22, p23, p24, p25, p26, p27, p28, p29, p30, p31, p32, p33, p34, p35, p36, p37, p38, p39] ++ ([p40, p41, p42, p43, p44, p45, p46, p47, p48, hm, q1, q2, q3, q4, q5, q6, q7, q8, q9, q10, q11, q12, q13, q14, q15, q16, q17, q18, q19, q20])), rfl, rfl, ?_⟩
  rw [lay_3a]
  rw [cs_0, cs_1, cs_2, cs_3, cs_4, cs_5, cs_6, cn_0 (N := 3) (i := 0) (by decide), cn_1 (N := 3) (i := 0) (by decide), cn_2 (N := 3) (i := 0) (by decide), cn_3 (N := 3) (i := 0) (by decide), cn_4 (N := 3) (i := 0) (by decide), cn_5 (N := 3) (i := 0) (by decide), cn_6 (N := 3) (i := 0) (by decide), cn_7 (N := 3) (i := 0) (by decide), cn_8 (N := 3) (i := 0) (by decide), cn_9 (N := 3) (i := 0) (by decide), cn_10 (N := 3) (i := 0) (by decide), cn_11 (N := 3) (i := 0) (by decide), cn_12 (N := 3) (i := 0) (by decide), cn_13 (N := 3) (i := 0) (by decide), cn_0 (N := 3) (i := 1) (by decide), cn_1 (N := 3) (i := 1) (by decide), cn_2 (N := 3) (i := 1) (by decide), cn_3 (N := 3) (i := 1) (by decide), cn_4 (N := 3) (i := 1) (by decide), cn_5 (N := 3) (i := 1) (by decide), cn_6 (N := 3) (i := 1) (by decide), cn_7 (N := 3) (i := 1) (by decide), cn_8 (N := 3) (i := 1) (by decide), cn_9 (N := 3) (i := 1) (by decide), cn_10 (N := 3) (i := 1) (by decide), cn_11 (N := 3) (i := 1) (by decide), cn_12 (N := 3) (i := 1) (by decide), cn_13 (N := 3) (i := 1) (by decide), cn_0 (N := 3) (i := 2) (by decide), cn_1 (N := 3) (i := 2) (by decide), cn_2 (N := 3) (i := 2) (by decide), cn_3 (N := 3) (i := 2) (by decide), cn_4 (N := 3) (i := 2) (by decide), cn_5 (N := 3) (i := 2) (by decide), cn_6 (N := 3) (i := 2) (by decide), cn_7 (N := 3) (i := 2) (by decide), cn_8 (N := 3) (i := 2) (by decide), cn_9 (N := 3) (i := 2) (by decide), cn_10 (N := 3) (i := 2) (by decide), cn_11 (N := 3) (i := 2) (by decide), cn_12 (N := 3) (i := 2) (by decide), cn_13 (N := 3) (i := 2) (by decide), cm_0, cm_1, cm_2, cm_3, cm_4, cm_5, cm_6, cm_7, cm_8, cm_9, cm_10, cm_11, cm_12, cm_13, cm_14, cm_15, cm_16, cm_17, cm_18, cm_19, cm_20]
  rw [na_3 (ad := adL ([h, p1, p2, p3, p4, p5, p6, p7, p8, p9, p10, p11, p12, p13, p14, p15, p16, p17, p18, p19, p20, p21, p22, p23, p24, p25, p26, p27, p28, p29, p30, p31, p32, p33, p34, p35, p36, p37, p38, p39] ++ ([p40, p41, p42, p43, p44, p45, p46, p47, p48, hm, q1, q2, q3, q4, q5, q6, q7, q8, q9, q10, q11, q12, q13, q14, q15, q16, q17, q18, q19, q20]))) (a := p7) (b := p21) (c := p35) rfl rfl rfl]
  rfl
set_option maxRecDepth 100000 in
set_option maxHeartbeats 4000000 in
theorem lay_5a (ad : Nat → Nat) : LR G ad 5 (S0 5) (M0 5) = [(ad 0, cellOf G ad (T0 5) 0 (sh 5 0)), (ad 1, cellOf G ad (T0 5) 1 (sh 5 1)), (ad 2, cellOf G ad (T0 5) 2 (sh 5 2)), (ad 3, cellOf G ad (T0 5) 3 (sh 5 3)), (ad 4, cellOf G ad (T0 5) 4 (sh 5 4)), (ad 5, cellOf G ad (T0 5) 5 (sh 5 5)), (ad 6, cellOf G ad (T0 5) 6 (sh 5 6))] ++ ([(ad (pl 0 0), cellOf G ad (T0 5) (pl 0 0) (sh 5 (pl 0 0))), (ad (pl 0 1), cellOf G ad (T0 5) (pl 0 1) (sh 5 (pl 0 1))), (ad (pl 0 2), cellOf G ad (T0 5) (pl 0 2) (sh 5 (pl 0 2))), (ad (pl 0 3), cellOf G ad (T0 5) (pl 0 3) (sh 5 (pl 0 3))), (ad (pl 0 4), cellOf G ad (T0 5) (pl 0 4) (sh 5 (pl 0 4))), (ad (pl 0 5), cellOf G ad (T0 5) (pl 0 5) (sh 5 (pl 0 5))), (ad (pl 0 6), cellOf G ad (T0 5) (pl 0 6) (sh 5 (pl 0 6))), (ad (pl 0 7), cellOf G ad (T0 5) (pl 0 7) (sh 5 (pl 0 7))), (ad (pl 0 8), cellOf G ad (T0 5) (pl 0 8) (sh 5 (pl 0 8))), (ad (pl 0 9), cellOf G ad (T0 5) (pl 0 9) (sh 5 (pl 0 9))), (ad (pl 0 10), cellOf G ad (T0 5) (pl 0 10) (sh 5 (pl 0 10))), (ad (pl 0 11), cellOf G ad (T0 5) (pl 0 11) (sh 5 (pl 0 11))), (ad (pl 0 12), cellOf G ad (T0 5) (pl 0 12) (sh 5 (pl 0 12))), (ad (pl 0 13), cellOf G ad (T0 5) (pl 0 13) (sh 5 (pl 0 13)))] ++ ([(ad (pl 1 0), cellOf G ad (T0 5) (pl 1 0) (sh 5 (pl 1 0))), (ad (pl 1 1), cellOf G ad (T0 5) (pl 1 1) (sh 5 (pl 1 1))), (ad (pl 1 2), cellOf G ad (T0 5) (pl 1 2) (sh 5 (pl 1 2))), (ad (pl 1 3), cellOf G ad (T0 5) (pl 1 3) (sh 5 (pl 1 3))), (ad (pl 1 4), cellOf G ad (T0 5) (pl 1 4) (sh 5 (pl 1 4))), (ad (pl 1 5), cellOf G ad (T0 5) (pl 1 5) (sh 5 (pl 1 5))), (ad (pl 1 6), cellOf G ad (T0 5) (pl 1 6) (sh 5 (pl 1 6))), (ad (pl 1 7), cellOf G ad (T0 5) (pl 1 7) (sh 5 (pl 1 7))), (ad (pl 1 8), cellOf G ad (T0 5) (pl 1 8) (sh 5 (pl 1 8))), (ad (pl 1 9), cellOf G ad (T0 5) (pl 1 9) (sh 5 (pl 1 9))), (ad (pl 1 10), cellOf G ad (T0 5) (pl 1 10) (sh 5 (pl 1 10))), (ad (pl 1 11), cellOf G ad (T0 5) (pl 1 11) (sh 5 (pl 1 11))), (ad (pl 1 12), cellOf G ad (T0 5) (pl 1 12) (sh 5 (pl 1 12))), (ad (pl 1 13), cellOf G ad (T0 5) (pl 1 13) (sh 5 (pl 1 13)))] ++ ([(ad (pl 2 0), cellOf G ad (T0 5) (pl 2 0) (sh 5 (pl 2 0))), (ad (pl 2 1), cellOf G ad (T0 5) (pl 2 1) (sh 5 (pl 2 1))), (ad (pl 2 2), cellOf G ad (T0 5) (pl 2 2) (sh 5 (pl 2 2))), (ad (pl 2 3), cellOf G ad (T0 5) (pl 2 3) (sh 5 (pl 2 3))), (ad (pl 2 4), cellOf G ad (T0 5) (pl 2 4) (sh 5 (pl 2 4))), (ad (pl 2 5), cellOf G ad (T0 5) (pl 2 5) (sh 5 (pl 2 5))), (ad (pl 2 6), cellOf G ad (T0 5) (pl 2 6) (sh 5 (pl 2 6))), (ad (pl 2 7), cellOf G ad (T0 5) (pl 2 7) (sh 5 (pl 2 7))), (ad (pl 2 8), cellOf G ad (T0 5) (pl 2 8) (sh 5 (pl 2 8))), (ad (pl 2 9), cellOf G ad (T0 5) (pl 2 9) (sh 5 (pl 2 9))), (ad (pl 2 10), cellOf G ad (T0 5) (pl 2 10) (sh 5 (pl 2 10))), (ad (pl 2 11), cellOf G ad (T0 5) (pl 2 11) (sh 5 (pl 2 11))), (ad (pl 2 12), cellOf G ad (T0 5) (pl 2 12) (sh 5 (pl 2 12))), (ad (pl 2 13), cellOf G ad (T0 5) (pl 2 13) (sh 5 (pl 2 13)))] ++ ([(ad (pl 3 0), cellOf G ad (T0 5) (pl 3 0) (sh 5 (pl 3 0))), (ad (pl 3 1), cellOf G ad (T0 5) (pl 3 1) (sh 5 (pl 3 1))), (ad (pl 3 2), cellOf G ad (T0 5) (pl 3 2) (sh 5 (pl 3 2))), (ad (pl 3 3), cellOf G ad (T0 5) (pl 3 3) (sh 5 (pl 3 3))), (ad (pl 3 4), cellOf G ad (T0 5) (pl 3 4) (sh 5 (pl 3 4))), (ad (pl 3 5), cellOf G ad (T0 5) (pl 3 5) (sh 5 (pl 3 5))), (ad (pl 3 6), cellOf G ad (T0 5) (pl 3 6) (sh 5 (pl 3 6))), (ad (pl 3 7), cellOf G ad (T0 5) (pl 3 7) (sh 5 (pl 3 7))), (ad (pl 3 8), cellOf G ad (T0 5) (pl 3 8) (sh 5 (pl 3 8))), (ad (pl 3 9), cellOf G ad (T0 5) (pl 3 9) (sh 5 (pl 3 9))), (ad (pl 3 10), cellOf G ad (T0 5) (pl 3 10) (sh 5 (pl 3 10))), (ad (pl 3 11), cellOf G ad (T0 5) (pl 3 11) (sh 5 (pl 3 11))), (ad (pl 3 12), cellOf G ad (T0 5) (pl 3 12) (sh 5 (pl 3 12))), (ad (pl 3 13), cellOf G ad (T0 5) (pl 3 13) (sh 5 (pl 3 13)))] ++ ([(ad (pl 4 0), cellOf G ad (T0 5) (pl 4 0) (sh 5 (pl 4 0))), (ad (pl 4 1), cellOf G ad (T0 5) (pl 4 1) (sh 5 (pl 4 1))), (ad (pl 4 2), cellOf G ad (T0 5) (pl 4 2) (sh 5 (pl 4 2))), (ad (pl 4 3), cellOf G ad (T0 5) (pl 4 3) (sh 5 (pl 4 3))), (ad (pl 4 4), cellOf G ad (T0 5) (pl 4 4) (sh 5 (pl 4 4))), (ad (pl 4 5), cellOf G ad (T0 5) (pl 4 5) (sh 5 (pl 4 5))), (ad (pl 4 6), cellOf G ad (T0 5) (pl 4 6) (sh 5 (pl 4 6))), (ad (pl 4 7), cellOf G ad (T0 5) (pl 4 7) (sh 5 (pl 4 7))), (ad (pl 4 8), cellOf G ad (T0 5) (pl 4 8) (sh 5 (pl 4 8))), (ad (pl 4 9), cellOf G ad (T0 5) (pl 4 9) (sh 5 (pl 4 9))), (ad (pl 4 10), cellOf G ad (T0 5) (pl 4 10) (sh 5 (pl 4 10))), (ad (pl 4 11), cellOf G ad (T0 5) (pl 4 11) (sh 5 (pl 4 11))), (ad (pl 4 12), cellOf G ad (T0 5) (pl 4 12) (sh 5 (pl 4 12))), (ad (pl 4 13), cellOf G ad (T0 5) (pl 4 13) (sh 5 (pl 4 13)))] ++ [(ad (rp 5 0), cellOf G ad (T0 5) (rp 5 0) (sh 5 (rp 5 0))), (ad (rp 5 1), cellOf G ad (T0 5) (rp 5 1) (sh 5 (rp 5 1))), (ad (rp 5 2), cellOf G ad (T0 5) (rp 5 2) (sh 5 (rp 5 2))), (ad (rp 5 3), cellOf G ad (T0 5) (rp 5 3) (sh 5 (rp 5 3))), (ad (rp 5 4), cellOf G ad (T0 5) (rp 5 4) (sh 5 (rp 5 4))), (ad (rp 5 5), cellOf G ad (T0 5) (rp 5 5) (sh 5 (rp 5 5))), (ad (rp 5 6), cellOf G ad (T0 5) (rp 5 6) (sh 5 (rp 5 6))), (ad (rp 5 7), cellOf G ad (T0 5) (rp 5 7) (sh 5 (rp 5 7))), (ad (rp 5 8), cellOf G ad (T0 5) (rp 5 8) (sh 5 (rp 5 8))), (ad (rp 5 9), cellOf G ad (T0 5) (rp 5 9) (sh 5 (rp 5 9))), (ad (rp 5 10), cellOf G ad (T0 5) (rp 5 10) (sh 5 (rp 5 10))), (ad (rp 5 11), cellOf G ad (T0 5) (rp 5 11) (sh 5 (rp 5 11))), (ad (rp 5 12), cellOf G ad (T0 5) (rp 5 12) (sh 5 (rp 5 12))), (ad (rp 5 13), cellOf G ad (T0 5) (rp 5 13) (sh 5 (rp 5 13))), (ad (rp 5 14), cellOf G ad (T0 5) (rp 5 14) (sh 5 (rp 5 14))), (ad (rp 5 15), cellOf G ad (T0 5) (rp 5 15) (sh 5 (rp 5 15))), (ad (rp 5 16), cellOf G ad (T0 5) (rp 5 16) (sh 5 (rp 5 16))), (ad (rp 5 17), cellOf G ad (T0 5) (rp 5 17) (sh 5 (rp 5 17))), (ad (rp 5 18), cellOf G ad (T0 5) (rp 5 18) (sh 5 (rp 5 18))), (ad (rp 5 19), cellOf G ad (T0 5) (rp 5 19) (sh 5 (rp 5 19))), (ad (rp 5 20), cellOf G ad (T0 5) (rp 5 20) (sh 5 (rp 5 20)))]))))) := by
  have h : ∀ f : Nat → Nat × va_E, (List.range 98).map f = [f 0, f 1, f 2, f 3, f 4, f 5, f 6] ++ ([f (pl 0 0), f (pl 0 1), f (pl 0 2), f (pl 0 3), f (pl 0 4), f (pl 0 5), f (pl 0 6), f (pl 0 7), f (pl 0 8), f (pl 0 9), f (pl 0 10), f (pl 0 11), f (pl 0 12), f (pl 0 13)] ++ ([f (pl 1 0), f (pl 1 1), f (pl 1 2), f (pl 1 3), f (pl 1 4), f (pl 1 5), f (pl 1 6), f (pl 1 7), f (pl 1 8), f (pl 1 9), f (pl 1 10), f (pl 1 11), f (pl 1 12), f (pl 1 13)] ++ ([f (pl 2 0), f (pl 2 1), f (pl 2 2), f (pl 2 3), f (pl 2 4), f (pl 2 5), f (pl 2 6), f (pl 2 7), f (pl 2 8), f (pl 2 9), f (pl 2 10), f (pl 2 11), f (pl 2 12), f (pl 2 13)] ++ ([f (pl 3 0), f (pl 3 1), f (pl 3 2), f (pl 3 3), f (pl 3 4), f (pl 3 5), f (pl 3 6), f (pl 3 7), f (pl 3 8), f (pl 3 9), f (pl 3 10), f (pl 3 11), f (pl 3 12), f (pl 3 13)] ++ ([f (pl 4 0), f (pl 4 1), f (pl 4 2), f (pl 4 3), f (pl 4 4), f (pl 4 5), f (pl 4 6), f (pl 4 7), f (pl 4 8), f (pl 4 9), f (pl 4 10), f (pl 4 11), f (pl 4 12), f (pl 4 13)] ++ [f (rp 5 0), f (rp 5 1), f (rp 5 2), f (rp 5 3), f (rp 5 4), f (rp 5 5), f (rp 5 6), f (rp 5 7), f (rp 5 8), f (rp 5 9), f (rp 5 10), f (rp 5 11), f (rp 5 12), f (rp 5 13), f (rp 5 14), f (rp 5 15), f (rp 5 16), f (rp 5 17), f (rp 5 18), f (rp 5 19), f (rp 5 20)]))))) := fun f => rfl
  exact h (fun p => (ad p, cellOf G ad (T0 5) p (sh 5 p)))
set_option maxRecDepth 100000 in
set_option maxHeartbeats 4000000 in
theorem lay_5 (h p1 p2 p3 p4 p5 p6 p7 p8 p9 p10 p11 p12 p13 p14 p15 p16 p17 p18 p19 p20 p21 p22 p23 p24 p25 p26 p27 p28 p29 p30 p31 p32 p33 p34 p35 p36 p37 p38 p39 p40 p41 p42 p43 p44 p45 p46 p47 p48 p49 p50 p51 p52 p53 p54 p55 p56 p57 p58 p59 p60 p61 p62 p63 p64 p65 p66 p67 p68 p69 p70 p71 p72 p73 p74 p75 p76 hm q1 q2 q3 q4 q5 q6 q7 q8 q9 q10 q11 q12 q13 q14 q15 q16 q17 q18 q19 q20 : Nat) : ∃ ad : Nat → Nat, ad 0 = h ∧ ad (rp 5 0) = hm ∧ [(h, .inr (5, [.ref p1, .ref p6])), (p1, .inr (0, [.ref p2, .ref p3, .ref p4, .ref p5, .int 0])), (p2, .inl (G.2.1, 31, .inl (fun _ => 0))), (p3, .inl (G.2.1, 31, .inl (fun _ => 0))), (p4, .inl (G.2.1, 31, .inl (fun _ => 0))), (p5, .inl (G.2.1, 31, .inl (fun _ => 0))), (p6, .inl (G.2.2.2, 5, .inr (.inr (.inr (.inr (va_up (va_up (va_up (va_up (va_up (fun _ => none) 0 (some p7)) 1 (some p21)) 2 (some p35)) 3 (some p49)) 4 (some p63))))))), (p7, .inr (3, [.int (nI 0), .ref p8, .ref p10, .ref p11, .ref p16, .int 1, .int 0, .int 0, .int (-1)])), (p8, .inr (1, [.ref p9])), (p9, .inl (G.2.1, 144, .inl (dk0 18))), (p10, .inl (G.2.1, 9, .inl (fun _ => 0))), (p11, .inr (4, [.int (nI 5), .ref p15, .ref p12, .ref p13, .ref p14, .int 0, .int 0])), (p12, .inl (G.2.1, 9, .inl (fun _ => 0))), (p13, .inl (G.2.1, 9, .inl (fun _ => 0))), (p14, .inl (G.2.1, 9, .inl (fun _ => 0))), (p15, .inl (G.2.1, 9 * 5, .inl (fun _ => 0))), (p16, .inr (2, [.ref p1, .ref p17, .ref p18, .ref p19, .ref p20, .int 0])), (p17, .inl (G.2.1, 9, .inl (fT (fun _ => 0) (-1) 9))), (p18, .inl (G.2.1, 4, .inl (fT (fun _ => 0) 0 4))), (p19, .inl (G.2.1, 31, .inl (fT (fun _ => 0) 0 31))), (p20, .inl (G.2.2.1, 31, .inl (fT (fun _ => 0) 0 31))), (p21, .inr (3, [.int (nI 1), .ref p22, .ref p24, .ref p25, .ref p30, .int 1, .int 0, .int 0, .int (-1)])), (p22, .inr (1, [.ref p23])), (p23, .inl (G.2.1, 144, .inl (dk0 18))), (p24, .inl (G.2.1, 9, .inl (fun _ => 0))), (p25, .inr (4, [.int (nI 5), .ref p29, .ref p26, .ref p27, .ref p28, .int 0, .int 0])), (p26, .inl (G.2.1, 9, .inl (fun _ => 0))), (p27, .inl (G.2.1, 9, .inl (fun _ => 0))), (p28, .inl (G.2.1, 9, .inl (fun _ => 0))), (p29, .inl (G.2.1, 9 * 5, .inl (fun _ => 0))), (p30, .inr (2, [.ref p1, .ref p31, .ref p32, .ref p33, .ref p34, .int 0])), (p31, .inl (G.2.1, 9, .inl (fT (fun _ => 0) (-1) 9))), (p32, .inl (G.2.1, 4, .inl (fT (fun _ => 0) 0 4))), (p33, .inl (G.2.1, 31, .inl (fT (fun _ => 0) 0 31))), (p34, .inl (G.2.2.1, 31, .inl (fT (fun _ => 0) 0 31))), (p35, .inr (3, [.int (nI 2), .ref p36, .ref p38, .ref p39, .ref p44, .int 1, .int 0, .int 0, .int (-1)])), (p36, .inr (1, [.ref p37])), (p37, .inl (G.2.1, 144, .inl (dk0 18))), (p38, .inl (G.2.1, 9, .inl (fun _ => 0))), (p39, .inr (4, [.int (nI 5), .ref p43, .ref p40, .ref p41, .ref p42, .int 0, .int 0])), (p40, .inl (G.2.1, 9, .inl (fun _ => 0))), (p41, .inl (G.2.1, 9, .inl (fun _ => 0))), (p42, .inl (G.2.1, 9, .inl (fun _ => 0))), (p43, .inl (G.2.1, 9 * 5, .inl (fun _ => 0))), (p44, .inr (2, [.ref p1, .ref p45, .ref p46, .ref p47, .ref p48, .int 0])), (p45, .inl (G.2.1, 9, .inl (fT (fun _ => 0) (-1) 9))), (p46, .inl (G.2.1, 4, .inl (fT (fun _ => 0) 0 4))), (p47, .inl (G.2.1, 31, .inl (fT (fun _ => 0) 0 31))), (p48, .inl (G.2.2.1, 31, .inl (fT (fun _ => 0) 0 31))), (p49, .inr (3, [.int (nI 3), .ref p50, .ref p52, .ref p53, .ref p58, .int 1, .int 0, .int 0, .int (-1)])), (p50, .inr (1, [.ref p51])), (p51, .inl (G.2.1, 144, .inl (dk0 18))), (p52, .inl (G.2.1, 9, .inl (fun _ => 0))), (p53, .inr (4, [.int (nI 5), .ref p57, .ref p54, .ref p55, .ref p56, .int 0, .int 0])), (p54, .inl (G.2.1, 9, .inl (fun _ => 0))), (p55, .inl (G.2.1, 9, .inl (fun _ => 0))), (p56, .inl (G.2.1, 9, .inl (fun _ => 0))), (p57, .inl (G.2.1, 9 * 5, .inl (fun _ => 0))), (p58, .inr (2, [.ref p1, .ref p59, .ref p60, .ref p61, .ref p62, .int 0])), (p59, .inl (G.2.1, 9, .inl (fT (fun _ => 0) (-1) 9))), (p60, .inl (G.2.1, 4, .inl (fT (fun _ => 0) 0 4))), (p61, .inl (G.2.1, 31, .inl (fT (fun _ => 0) 0 31))), (p62, .inl (G.2.2.1, 31, .inl (fT (fun _ => 0) 0 31))), (p63, .inr (3, [.int (nI 4), .ref p64, .ref p66, .ref p67, .ref p72, .int 1, .int 0, .int 0, .int (-1)])), (p64, .inr (1, [.ref p65])), (p65, .inl (G.2.1, 144, .inl (dk0 18))), (p66, .inl (G.2.1, 9, .inl (fun _ => 0))), (p67, .inr (4, [.int (nI 5), .ref p71, .ref p68, .ref p69, .ref p70, .int 0, .int 0])), (p68, .inl (G.2.1, 9, .inl (fun _ => 0))), (p69, .inl (G.2.1, 9, .inl (fun _ => 0))), (p70, .inl (G.2.1, 9, .inl (fun _ => 0))), (p71, .inl (G.2.1, 9 * 5, .inl (fun _ => 0))), (p72, .inr (2, [.ref p1, .ref p73, .ref p74, .ref p75, .ref p76, .int 0])), (p73, .inl (G.2.1, 9, .inl (fT (fun _ => 0) (-1) 9))), (p74, .inl (G.2.1, 4, .inl (fT (fun _ => 0) 0 4))), (p75, .inl (G.2.1, 31, .inl (fT (fun _ => 0) 0 31))), (p76, .inl (G.2.2.1, 31, .inl (fT (fun _ => 0) 0 31)))] ++ [(hm, .inr (6, [.int 5, .int 0, .ref q1, .ref q2, .ref q3, .ref q4, .ref q5, .ref q6, .ref q7, .ref q8, .ref q9, .ref q10, .ref q11, .ref q12, .ref q13, .ref q14, .ref q15, .ref q16, .ref q17, .int 0, .ref q18, .ref q19, .ref q20])), (q1, .inl (G.2.1, 31, .inl (fun _ => 0))), (q2, .inl (G.2.1, 31, .inl (fun _ => 0))), (q3, .inl (G.2.1, 31, .inl (fun _ => 0))), (q4, .inl (G.2.1, 31, .inl (fun _ => 0))), (q5, .inl (G.2.1, 720, .inl (fun _ => 0))), (q6, .inl (G.2.2.1, 5, .inl (fun _ => 0))), (q7, .inl (G.2.2.1, 5, .inl (fun _ => 0))), (q8, .inl (G.2.1, 5, .inl (fun _ => 0))), (q9, .inl (G.2.1, 5, .inl (fun _ => 0))), (q10, .inl (G.2.1, 5, .inl (fun _ => 0))), (q11, .inl (G.2.1, 5, .inl (fun _ => 0))), (q12, .inl (G.2.1, 40, .inl (fun _ => 0))), (q13, .inl (G.2.1, 40, .inl (fun _ => 0))), (q14, .inl (G.2.1, 40, .inl (fun _ => 0))), (q15, .inl (G.2.1, 40, .inl (fun _ => 0))), (q16, .inl (G.2.1, 40, .inl (fun _ => 0))), (q17, .inl (G.2.1, 200, .inl (fun _ => 0))), (q18, .inl (G.2.1, 4, .inl (fun _ => 0))), (q19, .inl (G.2.2.1, 31, .inl (fun _ => 0))), (q20, .inl (G.2.1, 31, .inl (fun _ => 0)))] = LR G ad 5 (S0 5) (M0 5) := by
  refine ⟨adL ([h, p1, p2, p3, p4, p5, p6, p7, p8, p9, p10, p11, p12, p13, p14, p15, p16, p17, p18, p19, p20, p21, p22, p23, p24, p25, p26, p27, p28, p29, p30, p31, p32, p33, p34, p35, p36, p37, p38, p39] ++ ([p40, p41, p42, p43, p44, p45, p46, p47, p48, p49, p50, p51, p52, p53, p54, p55, p56, p57, p58, p59, p60, p61, p62, p63, p64, p65, p66, p67, p68, p69, p70, p71, p72, p73, p74, p75, p76, hm, q1, q2] ++ ([q3, q4, q5, q6, q7, q8, q9, q10, q11, q12, q13, q14, q15, q16, q17, q18, q19, q20]))), rfl, rfl, ?_⟩
  rw [lay_5a]
  rw [cs_0, cs_1, cs_2, cs_3, cs_4, cs_5, cs_6, cn_0 (N := 5) (i := 0) (by decide), cn_1 (N := 5) (i := 0) (by decide), cn_2 (N := 5) (i := 0) (by decide), cn_3 (N := 5) (i := 0) (by decide), cn_4 (N := 5) (i := 0) (by decide), cn_5 (N := 5) (i := 0) (by decide), cn_6 (N := 5) (i := 0) (by decide), cn_7 (N := 5) (i := 0) (by decide), cn_8 (N := 5) (i := 0) (by decide), cn_9 (N := 5) (i := 0) (by decide), cn_10 (N := 5) (i := 0) (by decide), cn_11 (N := 5) (i := 0) (by decide), cn_12 (N := 5) (i := 0) (by decide), cn_13 (N := 5) (i := 0) (by decide), cn_0 (N := 5) (i := 1) (by decide), cn_1 (N := 5) (i := 1) (by decide), cn_2 (N := 5) (i := 1) (by decide), cn_3 (N := 5) (i := 1) (by decide), cn_4 (N := 5) (i := 1) (by decide), cn_5 (N := 5) (i := 1) (by decide), cn_6 (N := 5) (i := 1) (by decide), cn_7 (N := 5) (i := 1) (by decide), cn_8 (N := 5) (i := 1) (by decide), cn_9 (N := 5) (i := 1) (by decide), cn_10 (N := 5) (i := 1) (by decide), cn_11 (N := 5) (i := 1) (by decide), cn_12 (N := 5) (i := 1) (by decide), cn_13 (N := 5) (i := 1) (by decide), cn_0 (N := 5) (i := 2) (by decide), cn_1 (N := 5) (i := 2) (by decide), cn_2 (N := 5) (i := 2) (by decide), cn_3 (N := 5) (i := 2) (by decide), cn_4 (N := 5) (i := 2) (by decide), cn_5 (N := 5) (i := 2) (by decide), cn_6 (N := 5) (i := 2) (by decide), cn_7 (N := 5) (i := 2) (by decide), cn_8 (N := 5) (i := 2) (by decide), cn_9 (N := 5) (i := 2) (by decide), cn_10 (N := 5) (i := 2) (by decide), cn_11 (N := 5) (i := 2) (by decide), cn_12 (N := 5) (i := 2) (by decide), cn_13 (N := 5) (i := 2) (by decide), cn_0 (N := 5) (i := 3) (by decide), cn_1 (N := 5) (i := 3) (by decide), cn_2 (N := 5) (i := 3) (by decide), cn_3 (N := 5) (i := 3) (by decide), cn_4 (N := 5) (i := 3) (by decide), cn_5 (N := 5) (i := 3) (by decide), cn_6 (N := 5) (i := 3) (by decide), cn_7 (N := 5) (i := 3) (by decide), cn_8 (N := 5) (i := 3) (by decide), cn_9 (N := 5) (i := 3) (by decide), cn_10 (N := 5) (i := 3) (by decide), cn_11 (N := 5) (i := 3) (by decide), cn_12 (N := 5) (i := 3) (by decide), cn_13 (N := 5) (i := 3) (by decide), cn_0 (N := 5) (i := 4) (by decide), cn_1 (N := 5) (i := 4) (by decide), cn_2 (N := 5) (i := 4) (by decide), cn_3 (N := 5) (i := 4) (by decide), cn_4 (N := 5) (i := 4) (by decide), cn_5 (N := 5) (i := 4) (by decide), cn_6 (N := 5) (i := 4) (by decide), cn_7 (N := 5) (i := 4) (by decide), cn_8 (N := 5) (i := 4) (by decide), cn_9 (N := 5) (i := 4) (by decide), cn_10 (N := 5) (i := 4) (by decide), cn_11 (N := 5) (i := 4) (by decide), cn_12 (N := 5) (i := 4) (by decide), cn_13 (N := 5) (i := 4) (by decide), cm_0, cm_1, cm_2, cm_3, cm_4, cm_5, cm_6, cm_7, cm_8, cm_9, cm_10, cm_11, cm_12, cm_13, cm_14, cm_15, cm_16, cm_17, cm_18, cm_19, cm_20]
  rw [na_5 (ad := adL ([h, p1, p2, p3, p4, p5, p6, p7, p8, p9, p10, p11, p12, p13, p14, p15, p16, p17, p18, p19, p20, p21, p22, p23, p24, p25, p26, p27, p28, p29, p30, p31, p32, p33, p34, p35, p36, p37, p38, p39] ++ ([p40, p41, p42, p43, p44, p45, p46, p47, p48, p49, p50, p51, p52, p53, p54, p55, p56, p57, p58, p59, p60, p61, p62, p63, p64, p65, p66, p67, p68, p69, p70, p71, p72, p73, p74, p75, p76, hm, q1, q2] ++ ([q3, q4, q5, q6, q7, q8, q9, q10, q11, q12, q13, q14, q15, q16, q17, q18, q19, q20])))) (a := p7) (b := p21) (c := p35) (d := p49) (e := p63) rfl rfl rfl rfl rfl]
  rfl
end LYT
