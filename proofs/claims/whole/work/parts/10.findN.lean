/-! markOf, findFirst. -/
/-- one word more goes into a mark -/
def mixF (m x t : Int64) : Int64 := ((m ^^^ x) ^^^ t) * (-7046029254386353131) ^^^ ((((m ^^^ x) ^^^ t) * (-7046029254386353131)).toUInt64 >>> ((nI 32).toInt64.toUInt64 &&& Int64.toUInt64 63)).toInt64
/-- the mark of the first k words, each turned by t -/
def mkG (g : Nat → Int64) (t : Int64) : Nat → Int64
  | 0 => 0
  | k + 1 => mixF (mkG g t k) (g k) t
/-- the mark of a node: of its words, turned so that its first value is 0 -/
def mkF (fr : Nat → Int64) (nd : Nat) : Int64 := mkG (fun w => fr (nd * 64 + w)) (-(fr (nd * 64) &&& 1)) 64
theorem mkG_cg {g h : Nat → Int64} {t u : Int64} : ∀ k, (∀ w, w < k → g w ^^^ t = h w ^^^ u) → mkG g t k = mkG h u k
  | 0, _ => rfl
  | k + 1, H => by
    have e : (mkG g t k ^^^ g k) ^^^ t = (mkG h u k ^^^ h k) ^^^ u := by
      rw [Int64.xor_assoc, Int64.xor_assoc, H k (by omega), mkG_cg k (fun w hw => H w (by omega))]
    show mixF (mkG g t k) (g k) t = mixF (mkG h u k) (h k) u
    unfold mixF
    rw [e]
theorem mk_cg {fr fr' : Nat → Int64} {nd : Nat} (H : ∀ w, w < 64 → fr (nd * 64 + w) = fr' (nd * 64 + w)) : mkF fr nd = mkF fr' nd := by
  have e0 : fr (nd * 64) = fr' (nd * 64) := H 0 (by omega)
  unfold mkF
  rw [e0]
  exact mkG_cg 64 (fun w hw => by show fr (nd * 64 + w) ^^^ _ = fr' (nd * 64 + w) ^^^ _; rw [H w hw])
theorem an1 (y : Int64) : y &&& 1 = if y.toBitVec.getLsbD 0 = true then 1 else 0 := by
  apply Int64.toBitVec_inj.mp
  apply BitVec.eq_of_getLsbD_eq
  intro i hi
  have e1 : (y &&& 1).toBitVec = y.toBitVec &&& 1#64 := rfl
  rw [e1, BitVec.getLsbD_and]
  cases h : y.toBitVec.getLsbD 0
  · have : (if (false : Bool) = true then (1 : Int64) else 0).toBitVec = 0#64 := rfl
    rw [this]
    by_cases h0 : i = 0
    · subst h0; rw [h]; rfl
    · simp [h0, BitVec.getLsbD_one]
  · have : (if (true : Bool) = true then (1 : Int64) else 0).toBitVec = 1#64 := rfl
    rw [this]
    by_cases h0 : i = 0
    · subst h0; rw [h]; rfl
    · simp [h0, BitVec.getLsbD_one]
theorem tn1 (x : Int64) : -((x ^^^ (-1)) &&& 1) = (-(x &&& 1)) ^^^ (-1) := by
  have e : (x ^^^ (-1)).toBitVec.getLsbD 0 = !x.toBitVec.getLsbD 0 := by
    rw [show (x ^^^ (-1)).toBitVec = x.toBitVec ^^^ BitVec.allOnes 64 from by
      show x.toBitVec ^^^ (-1 : Int64).toBitVec = _
      rw [show (-1 : Int64).toBitVec = BitVec.allOnes 64 from by decide], BitVec.getLsbD_xor]
    simp
  rw [an1, an1, e]
  cases x.toBitVec.getLsbD 0 <;> decide
theorem xn1 (a t : Int64) : (a ^^^ (-1)) ^^^ (t ^^^ (-1)) = a ^^^ t := by
  rw [Int64.xor_comm t, ← Int64.xor_assoc, Int64.xor_assoc a, Int64.xor_self, Int64.xor_zero]
theorem xz1 {x y : Int64} (h : x ^^^ y = 0) : x = y := by
  have : (x ^^^ y) ^^^ y = 0 ^^^ y := by rw [h]
  rw [Int64.xor_assoc, Int64.xor_self, Int64.xor_zero, Int64.zero_xor] at this
  exact this
theorem ne_m1 {a : Nat} (h : a < 2 ^ 31) : ¬ nI a = -1 := fun e => by
  have := congrArg Int32.toInt e
  rw [nI_toInt h, show (-1 : Int32).toInt = -1 from by decide] at this
  omega
theorem ld_w (fr : Nat → Int64) (la lb : Nat) : ∀ n i, i + n ≤ 64 → ldF fr la lb n i = -1 → ∀ w, i ≤ w → w < i + n → wd fr la w = wd fr lb w
  | 0, i, _, _ => fun w h1 h2 => absurd h2 (by omega)
  | n + 1, i, h, hn => fun w h1 h2 => by
    unfold ldF at hn
    by_cases q : wd fr la i ^^^ wd fr lb i = 0
    · rw [if_pos q] at hn
      by_cases hw : w = i
      · rw [hw]; exact xz1 q
      · exact ld_w fr la lb n (i + 1) (by omega) hn w (by omega) (by omega)
    · rw [if_neg q] at hn
      have := tz_le (wd fr la i ^^^ wd fr lb i).toBitVec.getLsbD 64
      exact absurd hn (ne_m1 (by omega))
/-- a literal of a node that is nowhere apart from another node's: the nodes have one mark -/
theorem mk_same {fr : Nat → Int64} {j nd c : Nat} (hc : c < 2) (h : ldF fr (2 * j + c) (2 * nd) 64 0 = -1) : mkF fr j = mkF fr nd := by
  have H := ld_w fr (2 * j + c) (2 * nd) 64 0 (by omega) h
  have hb : ∀ w, wd fr (2 * nd) w = fr (nd * 64 + w) := fun w => by unfold wd; rw [if_neg (by omega), show 2 * nd / 2 = nd by omega]
  rcases (show c = 0 ∨ c = 1 by omega) with rfl | rfl
  · have ha : ∀ w, wd fr (2 * j + 0) w = fr (j * 64 + w) := fun w => by unfold wd; rw [if_neg (by omega), show (2 * j + 0) / 2 = j by omega]
    have H : ∀ w, w < 64 → fr (j * 64 + w) = fr (nd * 64 + w) := fun w hw => by rw [← ha, ← hb]; exact H w (Nat.zero_le _) (by omega)
    have e0 : fr (j * 64) = fr (nd * 64) := H 0 (by omega)
    unfold mkF
    rw [e0]
    exact mkG_cg 64 (fun w hw => by show fr (j * 64 + w) ^^^ _ = fr (nd * 64 + w) ^^^ _; rw [H w hw])
  · have ha : ∀ w, wd fr (2 * j + 1) w = fr (j * 64 + w) ^^^ (-1) := fun w => by unfold wd; rw [if_pos (by omega), show (2 * j + 1) / 2 = j by omega]
    have H : ∀ w, w < 64 → fr (j * 64 + w) ^^^ (-1) = fr (nd * 64 + w) := fun w hw => by rw [← ha, ← hb]; exact H w (Nat.zero_le _) (by omega)
    have e0 : fr (j * 64) ^^^ (-1) = fr (nd * 64) := H 0 (by omega)
    unfold mkF
    rw [← e0, tn1]
    exact mkG_cg 64 (fun w hw => by show fr (j * 64 + w) ^^^ _ = fr (nd * 64 + w) ^^^ _; rw [← H w hw, xn1])
theorem zI_xor (a b : Bool) : zI a ^^^ zI b = nI (a ^^ b).toNat := by cases a <;> cases b <;> decide
/-- the literal of node j that has the value of node nd's in assignment 0 -/
def cand (fr : Nat → Int64) (nd j : Nat) : Nat := 2 * j + (bt fr (2 * j) 0 ^^ bt fr (2 * nd) 0).toNat
theorem cand_half (fr : Nat → Int64) (nd j : Nat) : cand fr nd j / 2 = j := by
  unfold cand
  cases (bt fr (2 * j) 0 ^^ bt fr (2 * nd) 0) <;> simp <;> omega
/-- from node i on, at most n nodes: the first literal that is nowhere apart from node nd's; else that itself -/
def ffF (fr : Nat → Int64) (nd : Nat) : Nat → Nat → Int32
  | 0, _ => nI (2 * nd)
  | n + 1, i => if ldF fr (cand fr nd i) (2 * nd) 64 0 = -1 then nI (cand fr nd i) else ffF fr nd n (i + 1)
section RF
variable (l : Launch) (D : va_G) (cI cJ : ClassId) (hn ow fi ma ro cnt len : Nat) (fo ff : Nat → Int32) (fk fr : Nat → Int64)
set_option maxHeartbeats 4000000 in
set_option maxRecDepth 100000 in
/-- the mark of a node -/
theorem c_X1_markOf (nd : Nat) (h0 : nd < 400) (h1 : nd * 64 + 63 < len) (h2 : len ≤ 25600) : Met l yX1_markOf wsX1_markOf { frames := 0, cells := 0, slots := 0, locals := 0 } (rd_P D [(cI, .int), (cJ, .long)] (nW hn ow fi ma ro cI cJ cnt len fo ff fk fr) [.ref hn, .int (nI nd)]) (k2_QcV (.long (mkF fr nd))) 0 0 (fun _ => False) := by
  refine Met.ofW (cc := cX1_markOf) (maxL := 8) (ret := (some .long)) (by decide) rfl ?_
  intro p e s m args below meth c s₁ B hml hv
  obtain ⟨rfl, hP, hK⟩ := hv
  have hx := B.exec
  have hb := B.bytes
  have hr := B.returns
  have hts := atoms_spec (ws := wsX1_markOf) B.pre
  have hown : s.vm.findClass RX1 = some m.cls := findClass_of_methodNamed B.named
  have hlocks := B.notSynchronized
  have hl := lv_entry ([.ref hn, .int (nI nd)]) (n := 8) (Nat.le_of_ble_eq_true rfl)
  rw [lg_entry_eq]
  generalize (lg_sl ([.ref hn, .int (nI nd)]) ++ List.replicate (8 - (lg_sl ([.ref hn, .int (nI nd)])).length) Slot.unset).toArray = ls at hl ⊢
  have hl : lv_has ls 8 [(0, .ref hn), (1, .int (nI nd))] := hl
  have hin1 : ∀ w ∈ wsX10, w ∈ wsX1_markOf := by decide +kernel
  have kf26 := hts (.fieldLink RX1 26 "SweepEqual$Nodes" "rows" "[J") (by decide +kernel)
  refine lv_iload_n hx hb dX1_markOf_0 rfl (lv_at hl 1 rfl) ?_
  refine lv_bipush (v := nI 64) hx hb dX1_markOf_1 (by decide) ?_
  refine lv_imul hx hb dX1_markOf_3 ?_
  refine tp_i (show (nI nd) * (nI 64) = nI (nd * 64) from pk_mul _ _) ?_
  refine lv_istore_n (lv' := [(2, .int (nI (nd * 64))), (0, .ref hn), (1, .int (nI nd))]) hx hb dX1_markOf_4 rfl hl (by decide) rfl (fun ls hl => ?_)
  refine lv_aload_n hx hb dX1_markOf_5 rfl (lv_at hl 1 rfl) ?_
  refine va_get (D := D) (ci := 1) (v := .ref ro) (C := RX1) (T := TX1) (N := 5) hx hb hts hin1 hown hK hP 0 rfl rfl 4 (by decide) kf26 (fun _ h9 => h9) rfl dX1_markOf_6 ?_
  refine lv_iload_n hx hb dX1_markOf_9 rfl (lv_at hl 0 rfl) ?_
  refine va_lald hx hb hK hP 4 1 rfl rfl (vp_in_nI (by omega) (by omega)) dX1_markOf_10 ?_
  refine tp_l (show fr (nI (nd * 64)).toNatClampNeg = fr (nd * 64) from congrArg fr (nI_clamp (by omega))) ?_
  refine lv_lconst (v := 1) hx hb dX1_markOf_11 (by decide) ?_
  refine lv_land hx hb dX1_markOf_12 ?_
  refine lv_lneg hx hb dX1_markOf_13 ?_
  refine lv_lstore_n (lv' := [(3, .long (-((fr (nd * 64)) &&& 1))), (2, .int (nI (nd * 64))), (0, .ref hn), (1, .int (nI nd))]) hx hb dX1_markOf_14 rfl hl (by decide) rfl (fun ls hl => ?_)
  refine lv_lconst (v := 0) hx hb dX1_markOf_15 (by decide) ?_
  refine lv_lstore (lv' := [(5, .long 0), (3, .long (-((fr (nd * 64)) &&& 1))), (2, .int (nI (nd * 64))), (0, .ref hn), (1, .int (nI nd))]) hx hb dX1_markOf_16 hl (by decide) rfl (fun ls hl => ?_)
  refine lv_iconst (v := nI 0) hx hb dX1_markOf_18 (by decide) ?_
  refine lv_istore (lv' := [(7, .int (nI 0)), (5, .long 0), (3, .long (-((fr (nd * 64)) &&& 1))), (2, .int (nI (nd * 64))), (0, .ref hn), (1, .int (nI nd))]) hx hb dX1_markOf_19 hl (by decide) rfl (fun ls hl => ?_)
  have loop : ∀ (n : Nat) (i : Nat), i ≤ 64 → 64 - i < n → ∀ ls : Array Slot, lv_has ls 8 [(7, .int (nI i)), (5, .long (mkG (fun w => fr (nd * 64 + w)) (-(fr (nd * 64) &&& 1)) i)), (3, .long (-(fr (nd * 64) &&& 1))), (2, .int (nI (nd * 64))), (0, .ref hn), (1, .int (nI nd))] → W p l e (headSpec wsX1_markOf { frames := 0, cells := 0, slots := 0, locals := 0 }).room s m ([.ref hn, .int (nI nd)] : List Value).toArray below meth c s.heap [] 0 0 (MQ below (k2_QcV (.long (mkF fr nd))) ([.ref hn, .int (nI nd)] : List Value).toArray s 0 0 (fun _ => False)) (F0 m 21 ls []) := by
    intro n
    induction n with
    | zero => intro i hi hM; exact absurd hM (Nat.not_lt_zero _)
    | succ n ih =>
      intro i hi hM ls hl
      refine lv_iload hx hb dX1_markOf_21 (lv_at hl 0 rfl) ?_
      refine lv_bipush (v := nI 64) hx hb dX1_markOf_23 (by decide) ?_
      refine lv_icmp_ge (tgt := 64) hx hb dX1_markOf_25 (by decide) (fun c1 => ?_) (fun c1 => ?_)
      · have c1 : 64 ≤ i := (nI_leI (by omega) (by omega)).mp c1
        refine lv_lload hx hb dX1_markOf_64 (lv_at hl 1 rfl) ?_
        have hi2 : i = 64 := by omega
        exact rd_l hx hb hr hlocks dX1_markOf_66 (by rw [hi2]; rfl)
      · have c1 : ¬ (64 ≤ i) := fun h => c1 ((nI_leI (by omega) (by omega)).mpr h)
        refine lv_lload hx hb dX1_markOf_28 (lv_at hl 1 rfl) ?_
        refine lv_aload_n hx hb dX1_markOf_30 rfl (lv_at hl 4 rfl) ?_
        refine va_get (D := D) (ci := 1) (v := .ref ro) (C := RX1) (T := TX1) (N := 5) hx hb hts hin1 hown hK hP 0 rfl rfl 4 (by decide) kf26 (fun _ h9 => h9) rfl dX1_markOf_31 ?_
        refine lv_iload_n hx hb dX1_markOf_34 rfl (lv_at hl 3 rfl) ?_
        refine lv_iload hx hb dX1_markOf_35 (lv_at hl 0 rfl) ?_
        refine lv_iadd hx hb dX1_markOf_37 ?_
        refine tp_i (show (nI (nd * 64)) + (nI i) = nI (nd * 64 + i) from nI_add _ _) ?_
        refine va_lald hx hb hK hP 4 1 rfl rfl (vp_in_nI (by omega) (by omega)) dX1_markOf_38 ?_
        refine tp_l (show fr (nI (nd * 64 + i)).toNatClampNeg = fr (nd * 64 + i) from congrArg fr (nI_clamp (by omega))) ?_
        refine lv_lxor hx hb dX1_markOf_39 ?_
        refine lv_lload_n hx hb dX1_markOf_40 rfl (lv_at hl 2 rfl) ?_
        refine lv_lxor hx hb dX1_markOf_41 ?_
        refine lv_ldc2 hx hb hown (hts (.constantLong RX1 88 (-7046029254386353131)) (by decide +kernel)) dX1_markOf_42 ?_
        refine lv_lmul hx hb dX1_markOf_45 ?_
        refine lv_lstore (lv' := [(5, .long ((((mkG (fun w => fr (nd * 64 + w)) (-(fr (nd * 64) &&& 1)) i) ^^^ (fr (nd * 64 + i))) ^^^ (-(fr (nd * 64) &&& 1))) * (-7046029254386353131))), (7, .int (nI i)), (3, .long (-(fr (nd * 64) &&& 1))), (2, .int (nI (nd * 64))), (0, .ref hn), (1, .int (nI nd))]) hx hb dX1_markOf_46 hl (by decide) rfl (fun ls hl => ?_)
        refine lv_lload hx hb dX1_markOf_48 (lv_at hl 0 rfl) ?_
        refine lv_lload hx hb dX1_markOf_50 (lv_at hl 0 rfl) ?_
        refine lv_bipush (v := nI 32) hx hb dX1_markOf_52 (by decide) ?_
        refine lv_lushr (v := (((((mkG (fun w => fr (nd * 64 + w)) (-(fr (nd * 64) &&& 1)) i) ^^^ (fr (nd * 64 + i))) ^^^ (-(fr (nd * 64) &&& 1))) * (-7046029254386353131)).toUInt64 >>> ((nI 32).toInt64.toUInt64 &&& Int64.toUInt64 63)).toInt64) hx hb dX1_markOf_54 (rfl) ?_
        refine lv_lxor hx hb dX1_markOf_55 ?_
        refine lv_lstore (lv' := [(5, .long (((((mkG (fun w => fr (nd * 64 + w)) (-(fr (nd * 64) &&& 1)) i) ^^^ (fr (nd * 64 + i))) ^^^ (-(fr (nd * 64) &&& 1))) * (-7046029254386353131)) ^^^ ((((((mkG (fun w => fr (nd * 64 + w)) (-(fr (nd * 64) &&& 1)) i) ^^^ (fr (nd * 64 + i))) ^^^ (-(fr (nd * 64) &&& 1))) * (-7046029254386353131)).toUInt64 >>> ((nI 32).toInt64.toUInt64 &&& Int64.toUInt64 63)).toInt64))), (7, .int (nI i)), (3, .long (-(fr (nd * 64) &&& 1))), (2, .int (nI (nd * 64))), (0, .ref hn), (1, .int (nI nd))]) hx hb dX1_markOf_56 hl (by decide) rfl (fun ls hl => ?_)
        refine lv_iinc (v := nI (i + 1)) (lv' := [(7, .int (nI (i + 1))), (5, .long (((((mkG (fun w => fr (nd * 64 + w)) (-(fr (nd * 64) &&& 1)) i) ^^^ (fr (nd * 64 + i))) ^^^ (-(fr (nd * 64) &&& 1))) * (-7046029254386353131)) ^^^ ((((((mkG (fun w => fr (nd * 64 + w)) (-(fr (nd * 64) &&& 1)) i) ^^^ (fr (nd * 64 + i))) ^^^ (-(fr (nd * 64) &&& 1))) * (-7046029254386353131)).toUInt64 >>> ((nI 32).toInt64.toUInt64 &&& Int64.toUInt64 63)).toInt64))), (3, .long (-(fr (nd * 64) &&& 1))), (2, .int (nI (nd * 64))), (0, .ref hn), (1, .int (nI nd))]) hx hb dX1_markOf_58 hl (k := 1) rfl (nI_add i 1) (by decide) rfl (fun ls hl => ?_)
        refine lv_goto (tgt := 21) hx hb dX1_markOf_61 (by decide) ?_
        exact ih (i + 1) (by omega) (by omega) ls (by rw [show mkG (fun w => fr (nd * 64 + w)) (-(fr (nd * 64) &&& 1)) (i + 1) = ((((mkG (fun w => fr (nd * 64 + w)) (-(fr (nd * 64) &&& 1)) i) ^^^ (fr (nd * 64 + i))) ^^^ (-(fr (nd * 64) &&& 1))) * (-7046029254386353131)) ^^^ ((((((mkG (fun w => fr (nd * 64 + w)) (-(fr (nd * 64) &&& 1)) i) ^^^ (fr (nd * 64 + i))) ^^^ (-(fr (nd * 64) &&& 1))) * (-7046029254386353131)).toUInt64 >>> ((nI 32).toInt64.toUInt64 &&& Int64.toUInt64 63)).toInt64) from rfl]; exact lv_sub hl [0, 1, 2, 3, 4, 5] rfl)
  exact loop (64 - 0 + 1) 0 (by omega) (by omega) ls (lv_sub hl [0, 1, 2, 3, 4, 5] rfl)
set_option maxHeartbeats 4000000 in
set_option maxRecDepth 100000 in
/-- the least literal of a lesser node with the same words, or the node's own -/
theorem c_X1_findFirst (nd : Nat) (h0 : nd < 400) (h1 : nd * 64 + 63 < len) (h2 : len ≤ 25600) (hfk : ∀ j, j ≤ nd → fk j = mkF fr j) : Met l yX1_findFirst wsX1_findFirst { frames := 3, cells := 0, slots := 0, locals := 68 } (rd_P D [(cI, .int), (cJ, .long)] (nW hn ow fi ma ro cI cJ cnt len fo ff fk fr) [.ref hn, .int (nI nd)]) (k2_QcV (.int (ffF fr nd nd 0))) 0 0 (fun _ => False) := by
  refine Met.ofW (cc := cX1_findFirst) (maxL := 6) (ret := (some .int)) (by decide) rfl ?_
  intro p e s m args below meth c s₁ B hml hv
  obtain ⟨rfl, hP, hK⟩ := hv
  have hx := B.exec
  have hb := B.bytes
  have hr := B.returns
  have hts := atoms_spec (ws := wsX1_findFirst) B.pre
  have hown : s.vm.findClass RX1 = some m.cls := findClass_of_methodNamed B.named
  have hlocks := B.notSynchronized
  have hl := lv_entry ([.ref hn, .int (nI nd)]) (n := 6) (Nat.le_of_ble_eq_true rfl)
  rw [lg_entry_eq]
  generalize (lg_sl ([.ref hn, .int (nI nd)]) ++ List.replicate (6 - (lg_sl ([.ref hn, .int (nI nd)])).length) Slot.unset).toArray = ls at hl ⊢
  have hl : lv_has ls 6 [(0, .ref hn), (1, .int (nI nd))] := hl
  have hin1 : ∀ w ∈ wsX10, w ∈ wsX1_findFirst := by decide +kernel
  have kf22 := hts (.fieldLink RX1 22 "SweepEqual$Nodes" "marks" "[J") (by decide +kernel)
  refine lv_iconst (v := nI 2) hx hb dX1_findFirst_0 (by decide) ?_
  refine lv_iload_n hx hb dX1_findFirst_1 rfl (lv_at hl 1 rfl) ?_
  refine lv_imul hx hb dX1_findFirst_2 ?_
  refine tp_i (show (nI 2) * (nI nd) = nI (2 * nd) from pk_mul _ _) ?_
  refine lv_istore_n (lv' := [(2, .int (nI (2 * nd))), (0, .ref hn), (1, .int (nI nd))]) hx hb dX1_findFirst_3 rfl hl (by decide) rfl (fun ls hl => ?_)
  refine lv_aload_n hx hb dX1_findFirst_4 rfl (lv_at hl 1 rfl) ?_
  refine lv_iload_n hx hb dX1_findFirst_5 rfl (lv_at hl 0 rfl) ?_
  refine lv_iconst (v := nI 0) hx hb dX1_findFirst_6 (by decide) ?_
  refine rd_V (As := [.int (nI (2 * nd)), .int (nI 0)]) (rest := []) ⟨hx, hb, hml, hown, hts⟩ (c_X1_valueIn l D cI cJ hn ow fi ma ro cnt len fo ff fk fr (2 * nd) (nI 0) 0 (by decide) (by omega) (by omega) h2) (cwV 2 hts gX1_findFirst_X1_valueIn rfl rfl rfl (by decide +kernel) ⟨Nat.le_of_ble_eq_true rfl, Nat.le_of_ble_eq_true rfl⟩) (rd_pv (ci := 1) (q0 := 0) hK hP rfl rfl) rfl hl.1 rfl (Nat.le_of_ble_eq_true rfl) dX1_findFirst_7 ⟨Nat.zero_le _, Nat.zero_le _⟩ ?_
  refine lv_istore_n (lv' := [(3, .int (zI (bt fr (2 * nd) 0))), (2, .int (nI (2 * nd))), (0, .ref hn), (1, .int (nI nd))]) hx hb dX1_findFirst_10 rfl hl (by decide) rfl (fun ls hl => ?_)
  refine lv_iconst (v := nI 0) hx hb dX1_findFirst_11 (by decide) ?_
  refine lv_istore (lv' := [(4, .int (nI 0)), (3, .int (zI (bt fr (2 * nd) 0))), (2, .int (nI (2 * nd))), (0, .ref hn), (1, .int (nI nd))]) hx hb dX1_findFirst_12 hl (by decide) rfl (fun ls hl => ?_)
  have loop : ∀ (n : Nat) (i : Nat), i ≤ nd → ffF fr nd nd 0 = ffF fr nd (nd - i) i → nd - i < n → ∀ ls : Array Slot, lv_has ls 6 [(4, .int (nI i)), (3, .int (zI (bt fr (2 * nd) 0))), (2, .int (nI (2 * nd))), (0, .ref hn), (1, .int (nI nd))] → W p l e (headSpec wsX1_findFirst { frames := 3, cells := 0, slots := 0, locals := 68 }).room s m ([.ref hn, .int (nI nd)] : List Value).toArray below meth c s.heap [] 0 0 (MQ below (k2_QcV (.int (ffF fr nd nd 0))) ([.ref hn, .int (nI nd)] : List Value).toArray s 0 0 (fun _ => False)) (F0 m 14 ls []) := by
    intro n
    induction n with
    | zero => intro i hi hR hM; exact absurd hM (Nat.not_lt_zero _)
    | succ n ih =>
      intro i hi hR hM ls hl
      refine lv_iload hx hb dX1_findFirst_14 (lv_at hl 0 rfl) ?_
      refine lv_iload_n hx hb dX1_findFirst_16 rfl (lv_at hl 4 rfl) ?_
      refine lv_icmp_ge (tgt := 75) hx hb dX1_findFirst_17 (by decide) (fun c1 => ?_) (fun c1 => ?_)
      · have c1 : nd ≤ i := (nI_leI (by omega) (by omega)).mp c1
        refine lv_iload_n hx hb dX1_findFirst_75 rfl (lv_at hl 2 rfl) ?_
        have hi2 : nd - i = 0 := by omega
        exact rd_i hx hb hr hlocks dX1_findFirst_76 (by rw [hR, hi2]; rfl)
      · have c1 : ¬ (nd ≤ i) := fun h => c1 ((nI_leI (by omega) (by omega)).mpr h)
        obtain ⟨k, hk⟩ : ∃ k, nd - i = k + 1 := ⟨nd - i - 1, by omega⟩
        refine lv_aload_n hx hb dX1_findFirst_20 rfl (lv_at hl 3 rfl) ?_
        refine va_get (D := D) (ci := 1) (v := .ref ma) (C := RX1) (T := TX1) (N := 5) hx hb hts hin1 hown hK hP 0 rfl rfl 3 (by decide) kf22 (fun _ h9 => h9) rfl dX1_findFirst_21 ?_
        refine lv_iload hx hb dX1_findFirst_24 (lv_at hl 0 rfl) ?_
        refine va_lald hx hb hK hP 3 1 rfl rfl (vp_in_nI (by omega) (by omega)) dX1_findFirst_26 ?_
        refine tp_l (show fk (nI i).toNatClampNeg = fk i from congrArg fk (nI_clamp (by omega))) ?_
        refine lv_aload_n hx hb dX1_findFirst_27 rfl (lv_at hl 3 rfl) ?_
        refine va_get (D := D) (ci := 1) (v := .ref ma) (C := RX1) (T := TX1) (N := 5) hx hb hts hin1 hown hK hP 0 rfl rfl 3 (by decide) kf22 (fun _ h9 => h9) rfl dX1_findFirst_28 ?_
        refine lv_iload_n hx hb dX1_findFirst_31 rfl (lv_at hl 4 rfl) ?_
        refine va_lald hx hb hK hP 3 1 rfl rfl (vp_in_nI (by omega) (by omega)) dX1_findFirst_32 ?_
        refine tp_l (show fk (nI nd).toNatClampNeg = fk nd from congrArg fk (nI_clamp (by omega))) ?_
        refine W.lcmp hx hb dX1_findFirst_33 ?_
        refine lv_if_ne (tgt := 69) hx hb dX1_findFirst_34 (by decide) (fun c0 => ?_) (fun c0 => ?_)
        · have c0 : ¬ (fk i) = (fk nd) := fun h => c0 (lg_cmp0.mpr h)
          have c2 : ¬ ldF fr (cand fr nd i) (2 * nd) 64 0 = -1 := fun h => c0 (by rw [hfk i (by omega), hfk nd (Nat.le_refl _)]; exact mk_same (Bool.toNat_lt _) h)
          refine lv_iinc (v := nI (i + 1)) (lv' := [(4, .int (nI (i + 1))), (3, .int (zI (bt fr (2 * nd) 0))), (2, .int (nI (2 * nd))), (0, .ref hn), (1, .int (nI nd))]) hx hb dX1_findFirst_69 hl (k := 0) rfl (nI_add i 1) (by decide) rfl (fun ls hl => ?_)
          refine lv_goto (tgt := 14) hx hb dX1_findFirst_72 (by decide) ?_
          exact ih (i + 1) (by omega) (by rw [hR, hk, show nd - (i + 1) = k by omega]; simp [ffF, c2]) (by omega) ls (lv_sub hl [0, 1, 2, 3, 4] rfl)
        · have c0 : fk i = fk nd := lg_cmp0.mp c0
          refine lv_iconst (v := nI 2) hx hb dX1_findFirst_37 (by decide) ?_
          refine lv_iload hx hb dX1_findFirst_38 (lv_at hl 0 rfl) ?_
          refine lv_imul hx hb dX1_findFirst_40 ?_
          refine tp_i (show (nI 2) * (nI i) = nI (2 * i) from pk_mul _ _) ?_
          refine lv_aload_n hx hb dX1_findFirst_41 rfl (lv_at hl 3 rfl) ?_
          refine lv_iconst (v := nI 2) hx hb dX1_findFirst_42 (by decide) ?_
          refine lv_iload hx hb dX1_findFirst_43 (lv_at hl 0 rfl) ?_
          refine lv_imul hx hb dX1_findFirst_45 ?_
          refine tp_i (show (nI 2) * (nI i) = nI (2 * i) from pk_mul _ _) ?_
          refine lv_iconst (v := nI 0) hx hb dX1_findFirst_46 (by decide) ?_
          refine rd_V (As := [.int (nI (2 * i)), .int (nI 0)]) (rest := [.int (nI (2 * i))]) ⟨hx, hb, hml, hown, hts⟩ (c_X1_valueIn l D cI cJ hn ow fi ma ro cnt len fo ff fk fr (2 * i) (nI 0) 0 (by decide) (by omega) (by omega) h2) (cwV 2 hts gX1_findFirst_X1_valueIn rfl rfl rfl (by decide +kernel) ⟨Nat.le_of_ble_eq_true rfl, Nat.le_of_ble_eq_true rfl⟩) (rd_pv (ci := 1) (q0 := 0) hK hP rfl rfl) rfl hl.1 rfl (Nat.le_of_ble_eq_true rfl) dX1_findFirst_47 ⟨Nat.zero_le _, Nat.zero_le _⟩ ?_
          have hch := cand_half fr nd i
          refine lv_iload_n hx hb dX1_findFirst_50 rfl (lv_at hl 1 rfl) ?_
          refine lv_ixor hx hb dX1_findFirst_51 ?_
          refine tp_i (show (zI (bt fr (2 * i) 0)) ^^^ (zI (bt fr (2 * nd) 0)) = nI ((bt fr (2 * i) 0 ^^ bt fr (2 * nd) 0).toNat) from zI_xor _ _) ?_
          refine lv_iadd hx hb dX1_findFirst_52 ?_
          refine tp_i (show (nI (2 * i)) + (nI ((bt fr (2 * i) 0 ^^ bt fr (2 * nd) 0).toNat)) = nI (cand fr nd i) from nI_add _ _) ?_
          refine lv_istore (lv' := [(5, .int (nI (cand fr nd i))), (4, .int (nI i)), (3, .int (zI (bt fr (2 * nd) 0))), (2, .int (nI (2 * nd))), (0, .ref hn), (1, .int (nI nd))]) hx hb dX1_findFirst_53 hl (by decide) rfl (fun ls hl => ?_)
          refine lv_aload_n hx hb dX1_findFirst_55 rfl (lv_at hl 4 rfl) ?_
          refine lv_iload hx hb dX1_findFirst_56 (lv_at hl 0 rfl) ?_
          refine lv_iload_n hx hb dX1_findFirst_58 rfl (lv_at hl 3 rfl) ?_
          refine rd_V (As := [.int (nI (cand fr nd i)), .int (nI (2 * nd))]) (rest := []) ⟨hx, hb, hml, hown, hts⟩ (c_X1_leastDifference l D cI cJ hn ow fi ma ro cnt len fo ff fk fr (cand fr nd i) (2 * nd) (by omega) (by omega) h2) (cwV 2 hts gX1_findFirst_X1_leastDifference rfl rfl rfl (by decide +kernel) ⟨Nat.le_of_ble_eq_true rfl, Nat.le_of_ble_eq_true rfl⟩) (rd_pv (ci := 1) (q0 := 0) hK hP rfl rfl) rfl hl.1 rfl (Nat.le_of_ble_eq_true rfl) dX1_findFirst_59 ⟨Nat.zero_le _, Nat.zero_le _⟩ ?_
          refine lv_iconst (v := -1) hx hb dX1_findFirst_62 (by decide) ?_
          refine lv_icmp_ne (tgt := 69) hx hb dX1_findFirst_63 (by decide) (fun c2 => ?_) (fun c2 => ?_)
          · refine lv_iinc (v := nI (i + 1)) (lv' := [(4, .int (nI (i + 1))), (5, .int (nI (cand fr nd i))), (3, .int (zI (bt fr (2 * nd) 0))), (2, .int (nI (2 * nd))), (0, .ref hn), (1, .int (nI nd))]) hx hb dX1_findFirst_69 hl (k := 1) rfl (nI_add i 1) (by decide) rfl (fun ls hl => ?_)
            refine lv_goto (tgt := 14) hx hb dX1_findFirst_72 (by decide) ?_
            exact ih (i + 1) (by omega) (by rw [hR, hk, show nd - (i + 1) = k by omega]; simp [ffF, c2]) (by omega) ls (lv_sub hl [0, 2, 3, 4, 5] rfl)
          · refine lv_iload hx hb dX1_findFirst_66 (lv_at hl 0 rfl) ?_
            exact rd_i hx hb hr hlocks dX1_findFirst_68 (by rw [hR, hk]; simp [ffF, c2])
  exact loop (nd - 0 + 1) 0 (by omega) (rfl) (by omega) ls (lv_sub hl [0, 1, 2, 3, 4] rfl)
end RF
