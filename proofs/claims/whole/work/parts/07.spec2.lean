-- what holds between calls is kept by every call of the system
section IOK
variable {N : Nat} {S : sT}
theorem Iok.u2n {i j k : Nat} {v : Int32} (h : Iok N S) (hj : j < 14) (h4 : ¬ (j = 4 ∧ k = 0)) (h9 : ¬ (j = 9 ∧ k = 5)) (h13 : j ≠ 13) : Iok N (u2 S (pl i j) k v) := by
  obtain ⟨a, b, c, d⟩ := h
  refine ⟨a.k2, fun i' hi => ?_, fun i' hi => ?_, fun i' hi q hq => ?_⟩
  · obtain ⟨e, e1, e2⟩ := b i' hi
    refine ⟨e, e1, ?_⟩
    rw [u2_off (fun z => ?_)]
    · exact e2
    · by_cases hh : i' = i ∧ 9 = j
      · exact h9 ⟨hh.2.symm, z.2.symm⟩
      · exact pl_ne (by decide) hj hh z.1
  · rw [u2_off (fun z => ?_)]
    · exact c i' hi
    · by_cases hh : i' = i ∧ 4 = j
      · exact h4 ⟨hh.2.symm, z.2.symm⟩
      · exact pl_ne (by decide) hj hh z.1
  · rw [u2_off (fun z => ?_)]
    · exact d i' hi q hq
    · exact pl_ne (by decide) hj (fun hh => h13 hh.2.symm) z.1
theorem Iok.d9 {i d : Nat} (h : Iok N S) (hd : d ≤ 8) : Iok N (u2 S (pl i 9) 5 (nI d)) := by
  obtain ⟨a, b, c, e⟩ := h
  refine ⟨a.k2, fun i' hi => ?_, fun i' hi => ?_, fun i' hi q hq => ?_⟩
  · by_cases hh : i' = i
    · subst hh
      exact ⟨d, hd, u2_at⟩
    · obtain ⟨x, e1, e2⟩ := b i' hi
      refine ⟨x, e1, ?_⟩
      rw [u2_off (fun z => pl_ne (by decide) (by decide) (fun y => hh y.1) z.1)]
      exact e2
  · rw [u2_off (fun z => pl_ne (by decide) (by decide) (by omega) z.1)]
    exact c i' hi
  · rw [u2_off (fun z => pl_ne (by decide) (by decide) (by omega) z.1)]
    exact e i' hi q hq
theorem Iok.d13 {i k : Nat} {v : Int32} (h : Iok N S) (hv : v = 0 ∨ v = 1) : Iok N (u2 S (pl i 13) k v) := by
  obtain ⟨a, b, c, e⟩ := h
  refine ⟨a.k2, fun i' hi => ?_, fun i' hi => ?_, fun i' hi q hq => ?_⟩
  · obtain ⟨x, e1, e2⟩ := b i' hi
    refine ⟨x, e1, ?_⟩
    rw [u2_off (fun z => pl_ne (by decide) (by decide) (by omega) z.1)]
    exact e2
  · rw [u2_off (fun z => pl_ne (by decide) (by decide) (by omega) z.1)]
    exact c i' hi
  · by_cases hh : pl i' 13 = pl i 13 ∧ q = k
    · rw [show u2 S (pl i 13) k v (pl i' 13) q = v from if_pos hh]
      exact hv
    · rw [u2_off hh]
      exact e i' hi q hq
theorem Iok.putC {i b : Nat} {x y c : Int32} (h : Iok N S) : Iok N (putC S (pl i 2) b x y c) :=
  (((h.u2n (by decide) (by omega) (by omega) (by decide)).u2n (by decide) (by omega) (by omega) (by decide)).u2n (by decide) (by omega) (by omega) (by decide)).u2n (by decide) (by omega) (by omega) (by decide)
theorem Iok.seal {i b : Nat} (h : Iok N S) : Iok N (sealS S (pl i 2) b) :=
  (((h.u2n (by decide) (by omega) (by omega) (by decide)).u2n (by decide) (by omega) (by omega) (by decide)).u2n (by decide) (by omega) (by omega) (by decide)).u2n (by decide) (by omega) (by omega) (by decide)
theorem Iok.flip {i b t : Nat} (h : Iok N S) : Iok N (flipS S (pl i 2) b t) := h.u2n (by decide) (by omega) (by omega) (by decide)
theorem Iok.clear {i b : Nat} (h : Iok N S) : ∀ k, Iok N (clearL S (pl i 2) b k)
  | 0 => h
  | k + 1 => (Iok.clear h k).u2n (by decide) (by omega) (by omega) (by decide)
theorem Iok.begin {i : Nat} {b : Int32} (h : Iok N S) : ∀ k, Iok N (beginL i b S k)
  | 0 => (h.u2n (by decide) (by omega) (by omega) (by decide)).u2n (by decide) (by omega) (by omega) (by decide)
  | k + 1 => (((Iok.begin h k).u2n (by decide) (by omega) (by omega) (by decide)).u2n (by decide) (by omega) (by omega) (by decide)).u2n (by decide) (by omega) (by omega) (by decide)
theorem Iok.endT {i : Nat} (h : Iok N S) : Iok N (endS i S) := (h.u2n (by decide) (by omega) (by omega) (by decide)).u2n (by decide) (by omega) (by omega) (by decide)
theorem Iok.addP {i a : Nat} (h : Iok N S) : ∀ k, Iok N (addPL i a S k)
  | 0 => h.u2n (by decide) (by omega) (by omega) (by decide)
  | k + 1 => (Iok.addP h k).u2n (by decide) (by omega) (by omega) (by decide)
theorem Iok.slotFor {i : Nat} {q : Int32} (h : Iok N S) : Iok N (slotForS N i S q) := by
  unfold slotForS
  split
  · exact h.u2n (by decide) (by omega) (by omega) (by decide)
  · exact h
theorem Iok.fix {i s : Nat} (h : Iok N S) : Iok N (fixS N i s S) := by
  unfold fixS
  split
  · exact h
  · split
    · exact h
    · exact h.u2n (by decide) (by omega) (by omega) (by decide)
theorem Iok.addV {i s a : Nat} (h : Iok N S) : Iok N (addVS i s a S) := h.u2n (by decide) (by omega) (by omega) (by decide)
theorem Iok.fgC {i : Nat} (h : Iok N S) : ∀ k, Iok N (fgC i S k)
  | 0 => h
  | k + 1 => (Iok.fgC h k).u2n (by decide) (by omega) (by omega) (by decide)
theorem Iok.fgN {i : Nat} (h : Iok N S) : ∀ k, Iok N (fgN i S k)
  | 0 => h
  | k + 1 => (Iok.fgN h k).u2n (by decide) (by omega) (by omega) (by decide)
theorem Iok.fgA {i : Nat} (h : Iok N S) : ∀ k, Iok N (fgA i S k)
  | 0 => h
  | k + 1 => ((Iok.fgA h k).u2n (by decide) (by omega) (by omega) (by decide)).d13 (Or.inl rfl)
theorem Iok.forget {i : Nat} (h : Iok N S) : Iok N (forgetS i S) := (((h.fgC 9).fgN 4).fgA 31).d9 (d := 0) (by decide)
theorem Iok.down {i : Nat} (h : Iok N S) : ∀ k, Iok N (downL i S k)
  | 0 => ((((h.u2n (by decide) (by omega) (by omega) (by decide)).u2n (by decide) (by omega) (by omega) (by decide)).u2n (by decide) (by omega) (by omega) (by decide)).u2n (by decide) (by omega) (by omega) (by decide)).endT.forget
  | k + 1 => (Iok.down h k).u2n (by decide) (by omega) (by omega) (by decide)
theorem Iok.up {i : Nat} (h : Iok N S) : ∀ k, Iok N (upL i S k)
  | 0 => ((h.u2n (by decide) (by omega) (by omega) (by decide)).u2n (by decide) (by omega) (by omega) (by decide)).u2n (by decide) (by omega) (by omega) (by decide)
  | k + 1 => (Iok.up h k).u2n (by decide) (by omega) (by omega) (by decide)
theorem Iok.ws {i s : Nat} {x y c : Int32} (h : Iok N S) : Iok N (wsecS i s x y c S) := by
  unfold wsecS
  split
  · exact h.putC.down 8
  · split
    · exact h.putC.seal
    · exact h.putC.seal.u2n (by decide) (by omega) (by omega) (by decide)
theorem Iok.rp {i : Nat} {b : Int32} (h : Iok N S) : Iok N (rpS i b S) := by
  unfold rpS
  split
  · split
    · split
      · exact h.ws.ws.u2n (by decide) (by omega) (by omega) (by decide)
      · exact h.ws.ws
    · exact h.ws
  · exact h
theorem Iok.wv {i s : Nat} {c b : Int32} (h : Iok N S) : Iok N (wvS i s c b S) := by
  unfold wvS
  split
  · split
    · exact h.ws.ws.u2n (by decide) (by omega) (by omega) (by decide)
    · exact h.ws.ws
  · exact h.ws
theorem Iok.perf {i : Nat} {c : Int32} (h : Iok N S) : Iok N (perfS i c S) := by
  unfold perfS
  split
  · exact ((h.u2n (by decide) (by omega) (by omega) (by decide)).u2n (by decide) (by omega) (by omega) (by decide)).d13 (Or.inr rfl)
  · exact h
theorem Iok.dw {i : Nat} : ∀ (m d : Nat) (S : sT), d + m ≤ 8 → Iok N S → Iok N (dwL i m d S)
  | 0, _, _, _, h => h
  | m + 1, d, S, hd, h => by
    unfold dwL
    split
    · exact h
    · exact Iok.dw m (d + 1) _ (by omega) (h.perf.d9 (by omega))
theorem Iok.learn {i s : Nat} {c : Int32} (hi : i < N) (h : Iok N S) : Iok N (learnS i s c S) := by
  unfold learnS
  split
  · obtain ⟨d, h3, h4⟩ := (h.u2n (i := i) (j := 10) (k := s) (v := c) (by decide) (by omega) (by omega) (by decide)).2.1 i hi
    unfold dwS
    rw [h4, nI_clamp (by omega)]
    exact Iok.dw _ _ _ (by omega) (h.u2n (by decide) (by omega) (by omega) (by decide))
  · exact h
theorem Iok.la {i j : Nat} (hi : i < N) (h : Iok N S) : ∀ k, Iok N (laL i j S k).2
  | 0 => h
  | k + 1 => by
    have h1 := Iok.la (j := j) hi h k
    unfold laL
    split
    · exact h1
    · split
      · exact h1.learn hi
      · exact h1
theorem Iok.lead {n : Nat} (h : Iok N S) : Iok N (leadS n S) := by
  unfold leadS
  split
  · split
    · exact h
    · split
      · split
        · exact h.rp.begin 8
        · exact h.rp
      · exact h
  · exact h
theorem Iok.prom {n a : Nat} (h : Iok N S) : Iok N (promS n a S) := by
  unfold promS
  split
  · split
    · split
      · exact h.rp.addP 8
      · exact h.rp
    · exact h
  · exact h
theorem Iok.vote {n a s : Nat} (hn : n < N) (h : Iok N S) : Iok N (voteS N n a s S) := by
  unfold voteS
  split
  · split
    · split
      · split
        · split
          · split
            · exact h.fix.rp.wv.addV.learn hn
            · exact h.fix.rp.wv.addV
          · exact h.fix.rp.wv
        · exact h.fix.rp
      · exact h.fix
    · exact h
  · exact h
theorem Iok.tell {n m : Nat} (hm : m < N) (h : Iok N S) : Iok N (tellS n m S) := by
  unfold tellS
  split
  · exact h
  · split
    · exact h
    · exact h.la hm 8
theorem Iok.mend {n a s : Nat} (h : Iok N S) : Iok N (mendS n a s S) := by
  unfold mendS
  split
  · split
    · split
      · split
        · split
          · exact h.wv
          · exact h
        · exact h
      · exact h
    · exact h
  · exact h
theorem Iok.crash {n : Nat} (h : Iok N S) : Iok N (crashS n S) := by
  unfold crashS
  split
  · exact h
  · exact h.down 8
theorem Iok.rest {n : Nat} (h : Iok N S) : Iok N (restS n S) := by
  unfold restS
  split
  · exact h.up 8
  · exact h
theorem Iok.arm {n : Nat} {k : Int32} (h : Iok N S) : Iok N (armS n k S) := by
  unfold armS
  split
  · exact h
  · split
    · exact h
    · split
      · exact h.u2n (by decide) (by omega) (by omega) (by decide)
      · exact h
theorem Iok.flp {n s b : Nat} (h : Iok N S) : Iok N (flipT n s b S) := by
  unfold flipT
  split
  · exact h
  · exact h.flip
theorem Iok.wip {n s : Nat} (h : Iok N S) : Iok N (wipeT n s S) := by
  unfold wipeT
  split
  · exact h
  · exact h.clear 8
end IOK
