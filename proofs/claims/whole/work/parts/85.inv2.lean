/-! A step; a value; what differs: the class's words and the model's. -/
section IOT
variable {lc cnt oA cA rA tA : Nat} {gA nA : Nat → Nat} {sA : Nat → Int32} {oB cB rB tB : Nat} {gB nB : Nat → Nat} {sB : Nat → Int32} {gS gX gT gC gO : Nat → Nat} {fD : Nat → Int32} {gE : Nat → Nat} {fr ft : Nat → Int64}
theorem td_A (h : IO lc cnt oA cA rA tA gA nA sA oB cB rB tB gB nB sB gS gX gT gC gO fD gE) {kA kB kA2 kB2 : Nat} (hA : ∀ lit, lit < 2 * cnt → bt ft lit kA2 = bt fr lit kA) {j : Nat} (hj : j < oA) :
    tdF ft gO (tdF ft gO fD kA2 0 (gC 0)) kB2 16 (gC 1) j = shF fr gA sA kA oA j := by
  obtain ⟨⟨a1, a2, a3, a4⟩, ⟨b1, b2, b3, b4⟩, h3, h4, h5, h6, h7, h8, h9⟩ := h
  unfold tdF shF
  rw [if_neg (by omega), if_pos (by rw [b1]; omega), if_pos hj, (h3 j hj).1, hA _ (h3 j hj).2]
theorem td_B (h : IO lc cnt oA cA rA tA gA nA sA oB cB rB tB gB nB sB gS gX gT gC gO fD gE) {kA kB kA2 kB2 : Nat} (hB : ∀ lit, lit < 2 * cnt → bt ft lit kB2 = bt fr lit kB) {j : Nat} (hj : j < oB) :
    tdF ft gO (tdF ft gO fD kA2 0 (gC 0)) kB2 16 (gC 1) (16 + j) = shF fr gB sB kB oB j := by
  obtain ⟨⟨a1, a2, a3, a4⟩, ⟨b1, b2, b3, b4⟩, h3, h4, h5, h6, h7, h8, h9⟩ := h
  show (if 16 ≤ 16 + j ∧ 16 + j < 16 + gC 1 then zI (bt ft (gO (16 + j)) kB2) else _) = _
  unfold shF
  rw [if_pos (by rw [b2]; omega), if_pos hj, (h4 j hj).1, hB _ (h4 j hj).2]
theorem io_step (h : IO lc cnt oA cA rA tA gA nA sA oB cB rB tB gB nB sB gS gX gT gC gO fD gE) (hl : lc ≤ 4) {kA kB kA2 kB2 : Nat} (hA : ∀ lit, lit < 2 * cnt → bt ft lit kA2 = bt fr lit kA) (hB : ∀ lit, lit < 2 * cnt → bt ft lit kB2 = bt fr lit kB) :
    IO lc cnt oA oA rA (stF fr nA kA lc) gA nA (shF fr gA sA kA oA) oB oB rB (stF fr nB kB lc) gB nB (shF fr gB sB kB oB) gS gX (tsF ft gX (tsF ft gX gT kA2 0 lc) kB2 4 lc) gC gO (tdF ft gO (tdF ft gO fD kA2 0 (gC 0)) kB2 16 (gC 1)) (va_up (va_up gE 0 (gC 0)) 1 (gC 1)) := by
  obtain ⟨⟨a1, a2, a3, a4⟩, ⟨b1, b2, b3, b4⟩, h3, h4, h5, h6, h7, ⟨c1, c2, c3, c4⟩, h9⟩ := id h
  refine ⟨⟨a1, a2, a1, a2⟩, ⟨b1, b2, by rw [upN_ne _ _ (by omega), upN_eq]; exact b1, by rw [upN_eq]; exact b2⟩, h3, h4, h5, fun j hj => td_A (kB := kB) h hA hj, fun j hj => td_B (kA := kA) h hB hj, ⟨c1, c2, ?_, ?_⟩, fun j hj => ⟨(h9 j hj).1, tsF_lt (fun j hj => tsF_lt (fun j hj => (h9 j hj).2) j hj) j hj⟩⟩
  · refine st_pk lc (fun j hj => ?_)
    unfold tsF
    rw [if_neg (by omega), if_pos (by omega), Nat.zero_add, (h5 j hj).1, hA _ (h5 j hj).2.1]
  · refine st_pk lc (fun j hj => ?_)
    unfold tsF
    rw [if_pos (by omega), (h5 j hj).2.2.1, hB _ (h5 j hj).2.2.2]
theorem io_sa (h : IO lc cnt oA cA rA tA gA nA sA oB cB rB tB gB nB sB gS gX gT gC gO fD gE) {kA kB kA2 kB2 : Nat} (hA : ∀ lit, lit < 2 * cnt → bt ft lit kA2 = bt fr lit kA) (hB : ∀ lit, lit < 2 * cnt → bt ft lit kB2 = bt fr lit kB) :
    saF (shF fr gA sA kA oA) (shF fr gB sB kB oB) (min oA oB) 0 = saF (tdF ft gO (tdF ft gO fD kA2 0 (gC 0)) kB2 16 (gC 1)) (fun j => (tdF ft gO (tdF ft gO fD kA2 0 (gC 0)) kB2 16 (gC 1)) (16 + j)) (min (gC 0) (gC 1)) 0 := by
  have b1 := h.2.1.1
  have b2 := h.2.1.2.1
  rw [show min (gC 0) (gC 1) = min oA oB by rw [b1, b2]]
  exact sa_cg _ _ (fun j _ hj => ⟨(td_A (kB := kB) h hA (by omega)).symm, (td_B (kA := kA) h hB (by omega)).symm⟩)
end IOT
theorem k_lt {iv t lc : Nat} (h1 : iv < 256) (h2 : t < 2 ^ lc) (hl : lc ≤ 4) : iv ||| t * 256 < 4096 := by
  have : 2 ^ lc ≤ 2 ^ 4 := Nat.pow_le_pow_right (by omega) hl
  exact Nat.or_lt_two_pow (n := 12) (by omega) (by omega)
/-- the class's assignment and the model's: what is present is the same -/
theorem k_bits {n ic lc t : Nat} (hic : ic ≤ 8) : ∀ p, p < 12 → ¬ abP ic lc p → (n % 2 ^ ic ||| t * 256).testBit p = (n % 2 ^ 8 ||| t * 256).testBit p := by
  intro p hp hab
  rw [Nat.testBit_or, Nat.testBit_or, Nat.testBit_mod_two_pow, Nat.testBit_mod_two_pow]
  by_cases q : p < 8
  · have : p < ic := Nat.lt_of_not_le (fun h => hab (Or.inl ⟨q, h⟩))
    simp [q, this]
  · simp [q, show ¬ p < ic by omega]
theorem v_bits {n ic lc : Nat} (hic : ic ≤ 8) (hlc : lc ≤ 4) : ∀ p, p < 12 → ¬ abP ic lc p → (n % 4096 &&& prN ic lc).testBit p = (n % 4096).testBit p := by
  intro p hp hab
  rw [Nat.testBit_and, pr_tb ic (by omega) lc (by omega) p hp]
  have : ¬ ((p < 8 ∧ ic ≤ p) ∨ 8 + lc ≤ p) := hab
  simp [this]
theorem v_and {n ic lc : Nat} (hic : ic ≤ 8) (hlc : lc ≤ 4) : nI n &&& nI (prN ic lc) = nI (n % 4096 &&& prN ic lc) := by
  rw [n_and]
  congr 1
  rw [← pr_le ic (by omega) lc (by omega), Nat.and_comm (prN ic lc) 4095, ← Nat.and_assoc, ← Nat.and_assoc]
  congr 1
  rw [show (4095 : Nat) = 2 ^ 12 - 1 from rfl, Nat.and_two_pow_sub_one_eq_mod, Nat.and_two_pow_sub_one_eq_mod, Nat.mod_mod]
theorem df_de {fr ft : Nat → Int64} {ff : Nat → Int32} {cnt lc oA oB rA rB : Nat} {gA gB nA nB gS gX gC gO : Nat → Nat} (hff : ∀ j, j < cnt → ff j = nI (fmN fr (2 * j))) (hft : ∀ j, j < cnt * 64 → ft j = fr j) (hc : cnt ≤ 400) (hl : lc ≤ 4) (ho1 : oA ≤ 16) (ho2 : oB ≤ 16) (b1 : gC 0 = oA) (b2 : gC 1 = oB)
    (h3 : ∀ j, j < oA → gO j = gA j ∧ gA j < 2 * cnt) (h4 : ∀ j, j < oB → gO (16 + j) = gB j ∧ gB j < 2 * cnt) (h5 : ∀ j, j < lc → gX j = nA j ∧ nA j < 2 * cnt ∧ gX (4 + j) = nB j ∧ nB j < 2 * cnt) (c1 : rA = pkF gS 0 lc) (c2 : rB = pkF gS 4 lc) (h9 : ∀ j, j < 8 → gS j < 2) (k : Nat) :
    dfF ff gA gB nA nB (rA ^^^ rB) oA oB lc k = deF (apF ft gO gX gS gC lc) 301 0 k := by
  have hsm : ∀ a b, a < 2 * cnt → b < 2 * cnt → (!decide (fs1 ff a = fs1 ff b)) = !smF ft a b := fun a b ha hb => by
    rw [sm_c hft ha hb]
    congr 1
    rw [Bool.eq_iff_iff, decide_eq_true_iff]
    exact fs1_sm hff hc ha hb
  have e := de_all (apF ft gO gX gS gC lc) (fun j => decide (j < min oA oB) && !decide (fs1 ff (gA j) = fs1 ff (gB j))) (fun j => decide (j < lc) && !decide (fs1 ff (nA j) = fs1 ff (nB j))) (fun j => decide (j < lc) && decide ((rA ^^^ rB) / 2 ^ j % 2 = 1))
    (fun j hj => by
      show apF ft gO gX gS gC lc j = (decide (j < min oA oB) && !decide (fs1 ff (gA j) = fs1 ff (gB j)))
      unfold apF
      rw [if_pos (by omega), b1, b2]
      by_cases q : j < min oA oB
      · rw [decide_eq_true q, Bool.true_and, Bool.true_and, hsm _ _ (h3 j (by omega)).2 (h4 j (by omega)).2, (h3 j (by omega)).1, (h4 j (by omega)).1]
      · rw [decide_eq_false q, Bool.false_and, Bool.false_and])
    (fun j hj => by
      show apF ft gO gX gS gC lc (100 + j) = (decide (j < lc) && !decide (fs1 ff (nA j) = fs1 ff (nB j)))
      unfold apF
      rw [if_neg (by omega), if_pos (by omega), show 100 + j - 100 = j by omega, show 100 + j - 96 = 4 + j by omega]
      by_cases q : j < lc
      · obtain ⟨q1, q2, q3, q4⟩ := h5 j q
        rw [decide_eq_true q, Bool.true_and, Bool.true_and, hsm _ _ q2 q4, q1, q3]
      · rw [decide_eq_false q, Bool.false_and, Bool.false_and])
    (fun j hj => by
      show apF ft gO gX gS gC lc (200 + j) = (decide (j < lc) && decide ((rA ^^^ rB) / 2 ^ j % 2 = 1))
      unfold apF
      rw [if_neg (by omega), if_neg (by omega), if_pos (by omega), show 200 + j - 200 = j by omega, show 200 + j - 196 = 4 + j by omega]
      by_cases q : j < lc
      · rw [decide_eq_true q, Bool.true_and, Bool.true_and, c1, c2, pk_xor (fun i hi => h9 _ (by omega)) (fun i hi => h9 _ (by omega)) q, Nat.zero_add]
      · rw [decide_eq_false q, Bool.false_and, Bool.false_and]) k
  rw [e]
  have r1 : ∀ j, min oA oB ≤ j → (decide (j < min oA oB) && !decide (fs1 ff (gA j) = fs1 ff (gB j))) = false := fun j hj => by rw [decide_eq_false (by omega), Bool.false_and]
  have r2 : ∀ j, lc ≤ j → (decide (j < lc) && !decide (fs1 ff (nA j) = fs1 ff (nB j))) = false := fun j hj => by rw [decide_eq_false (by omega), Bool.false_and]
  have r3 : ∀ j, lc ≤ j → (decide (j < lc) && decide ((rA ^^^ rB) / 2 ^ j % 2 = 1)) = false := fun j hj => by rw [decide_eq_false (by omega), Bool.false_and]
  have d1 : ctS (fun j => decide (j < min oA oB) && !decide (fs1 ff (gA j) = fs1 ff (gB j))) 16 0 = cdF ff gA gB (min oA oB) := by
    rw [ct_cut (M := min oA oB) r1 16 0 (by omega), Nat.sub_zero, cd_ct]
    exact ct_cg _ _ (fun j _ hj => by rw [decide_eq_true (show j < min oA oB by omega), Bool.true_and])
  have d2 : ctS (fun j => decide (j < lc) && !decide (fs1 ff (nA j) = fs1 ff (nB j))) 4 0 = cdF ff nA nB lc := by
    rw [ct_cut (M := lc) r2 4 0 (by omega), Nat.sub_zero, cd_ct]
    exact ct_cg _ _ (fun j _ hj => by rw [decide_eq_true (show j < lc by omega), Bool.true_and])
  have d3 : ctS (fun j => decide (j < lc) && decide ((rA ^^^ rB) / 2 ^ j % 2 = 1)) 4 0 = ctS (fun j => decide ((rA ^^^ rB) / 2 ^ j % 2 = 1)) lc 0 := by
    rw [ct_cut (M := lc) r3 4 0 (by omega), Nat.sub_zero]
    exact ct_cg _ _ (fun j _ hj => by rw [decide_eq_true (show j < lc by omega), Bool.true_and])
  have p1 : plS 0 (fun j => decide (j < min oA oB) && !decide (fs1 ff (gA j) = fs1 ff (gB j))) 16 0 k = pdF ff gA gB (min oA oB) 0 k := by
    rw [pl_cut (M := min oA oB) r1 16 0 k (by omega), Nat.sub_zero, pd_pl]
    exact pl_cg _ _ _ (fun j _ hj => by rw [decide_eq_true (show j < min oA oB by omega), Bool.true_and])
  have p2 : ∀ lf, lf < cdF ff nA nB lc → plS 100 (fun j => decide (j < lc) && !decide (fs1 ff (nA j) = fs1 ff (nB j))) 4 0 lf = nI 100 + pdF ff nA nB lc 0 lf := fun lf hlf => by
    rw [pl_up 4 0 lf (by rw [d2]; exact hlf), pl_cut (M := lc) r2 4 0 lf (by omega), Nat.sub_zero, pd_pl]
    congr 1
    exact pl_cg _ _ _ (fun j _ hj => by rw [decide_eq_true (show j < lc by omega), Bool.true_and])
  have p3 : ∀ lf, plS 200 (fun j => decide (j < lc) && decide ((rA ^^^ rB) / 2 ^ j % 2 = 1)) 4 0 lf = plS 200 (fun j => decide ((rA ^^^ rB) / 2 ^ j % 2 = 1)) lc 0 lf := fun lf => by
    rw [pl_cut (M := lc) r3 4 0 lf (by omega), Nat.sub_zero]
    exact pl_cg _ _ _ (fun j _ hj => by rw [decide_eq_true (show j < lc by omega), Bool.true_and])
  have p4 : apF ft gO gX gS gC lc 300 = !decide (oA = oB) := by
    unfold apF
    rw [if_neg (by omega), if_neg (by omega), if_neg (by omega), b1, b2]
  rw [d1, d2, d3, p1, p3, p4]
  unfold dfF
  by_cases q1 : k < cdF ff gA gB (min oA oB)
  · rw [if_pos q1, if_pos q1]
  · rw [if_neg q1, if_neg q1]
    by_cases q2 : k - cdF ff gA gB (min oA oB) < cdF ff nA nB lc
    · rw [if_pos q2, if_pos q2, p2 _ q2]
    · rw [if_neg q2, if_neg q2, ds_pl]
