/-! The law's start: what nobody writes, and the kinds of exceptions, out of the Statement's words. -/
set_option maxHeartbeats 4000000 in
set_option maxRecDepth 100000 in
theorem ev_start {s : State} {b : Nat} (hts : ∀ w ∈ lw_tbl, w.before #[Value.ref b] s = true) (hgv : (Jvm.Cond.and given_1 narrow_1).before #[Value.ref b] s = true) : (∃ tp, EV tp (fun q : Nat => s.heap.size ≤ q) s s.heap) ∧ NC s := by
  have hf := flat_of_before _ hgv
  have hA : ∀ a : Nat, a < s.heap.size → ¬ (fun q : Nat => s.heap.size ≤ q) a := fun a h => Nat.not_le.mpr h
  obtain ⟨tp, ht, hT⟩ := va_Tof (args := #[Value.ref b]) (s := s) (tm := .static "SweepEqual$Nodes" "WORD_PATTERNS" "[J") (ty := .long) (N := 6) (f := fun j => .long (pat j)) (A := fun q : Nat => s.heap.size ≤ q) (by decide)
    (hf (.arrayOf (.static "SweepEqual$Nodes" "WORD_PATTERNS" "[J") .long) (by decide +kernel)) (Cond.eq_int (hf (.eq (.length (.static "SweepEqual$Nodes" "WORD_PATTERNS" "[J")) (.int 6)) (by decide +kernel)) rfl)
    (fun j hj => match j, hj with
      | 0, _ => Cond.eq_long (hf (.eq (.elem (.static "SweepEqual$Nodes" "WORD_PATTERNS" "[J") (.int 0)) (.long (-6148914691236517206))) (by decide +kernel)) rfl
      | 1, _ => Cond.eq_long (hf (.eq (.elem (.static "SweepEqual$Nodes" "WORD_PATTERNS" "[J") (.int 1)) (.long (-3689348814741910324))) (by decide +kernel)) rfl
      | 2, _ => Cond.eq_long (hf (.eq (.elem (.static "SweepEqual$Nodes" "WORD_PATTERNS" "[J") (.int 2)) (.long (-1085102592571150096))) (by decide +kernel)) rfl
      | 3, _ => Cond.eq_long (hf (.eq (.elem (.static "SweepEqual$Nodes" "WORD_PATTERNS" "[J") (.int 3)) (.long (-71777214294589696))) (by decide +kernel)) rfl
      | 4, _ => Cond.eq_long (hf (.eq (.elem (.static "SweepEqual$Nodes" "WORD_PATTERNS" "[J") (.int 4)) (.long (-281470681808896))) (by decide +kernel)) rfl
      | 5, _ => Cond.eq_long (hf (.eq (.elem (.static "SweepEqual$Nodes" "WORD_PATTERNS" "[J") (.int 5)) (.long (-4294967296))) (by decide +kernel)) rfl
      | j + 6, hj => absurd hj (by omega)) hA
  have m1 : ∀ q ∈ sTx, Cond.stringRef RX2 q.1 q.2 ∈ lw_tbl := by decide +kernel
  have m2 : ∀ q ∈ sTx, Cond.exactly (.string RX2 q.1) "java/lang/String" ∈ flatC (Jvm.Cond.and given_1 narrow_1) := by decide +kernel
  have m3 : ∀ E ∈ xE, Cond.castable E E ∈ lw_tbl := by decide +kernel
  have m4 : ∀ x ∈ xD, Cond.declares x ∈ lw_tbl := by decide +kernel
  have m5 : ∀ q ∈ xNC, Cond.not (.castable q.1 q.2) ∈ flatC (Jvm.Cond.and given_1 narrow_1) := by decide +kernel
  refine ⟨⟨tp, va_Zof (hts (.laysStatic "SweepEqual$Nodes" "WORD_PATTERNS" "[J") (by decide +kernel)) (hts (.initialized "SweepEqual$Nodes") (by decide +kernel)) ht hA, hT,
    vx_Zqof (hts (.laysStatic Bundle.tN "UNASSIGNED_STACK" Bundle.steD) (by decide +kernel)) (hts (.initialized Bundle.tN) (by decide +kernel)) (hf (.isRef (.static Bundle.tN "UNASSIGNED_STACK" Bundle.steD)) (by decide +kernel)) hA,
    vx_Zqof (hts (.laysStatic Bundle.tN "SUPPRESSED_SENTINEL" Bundle.listD) (by decide +kernel)) (hts (.initialized Bundle.tN) (by decide +kernel)) (hf (.isRef (.static Bundle.tN "SUPPRESSED_SENTINEL" Bundle.listD)) (by decide +kernel)) hA,
    fun q hq => ?_, fun E hE => Cs.of (hts _ (m3 E hE)), fun x hx => va_any rfl (hts _ (m4 x hx))⟩, fun q hq => va_Nc.of (hf _ (m5 q hq))⟩
  obtain ⟨a, _, _, _, he, -⟩ := Cond.exactly_spec (hf _ (m2 q hq))
  exact ⟨a, vk_R.of (A := #[Value.ref b]) (hts _ (m1 q hq)) he⟩
theorem va_K_arr {s : State} {args : Array Value} {ty : FieldType} (h : (Cond.arrayClass ty).before args s = true) : ∃ cA : ClassId, ArrOfT s cA ty ∧ s.vm.findClass ("[" ++ ty.toString) = some cA := by
  obtain ⟨cA, kA, comp, h1, h2, h3⟩ := Cond.arrayClass_spec h
  exact ⟨cA, fun n z => ⟨fun k h => (by cases h), kA, h2, comp, h3⟩, h1⟩
