/-! Long.bitCount and countOnes. -/
section RB
set_option maxHeartbeats 4000000 in
set_option maxRecDepth 100000 in
/-- Long.bitCount -/
theorem c_J13_bitCount_95d88 (l : Launch) (x : Int64) : Met l yJ13_bitCount_95d88 wsJ13_bitCount_95d88 { frames := 0, cells := 0, slots := 0, locals := 0 } (fun v _ => v = ([.long x] : List Value).toArray) (k2_QcV (.int (nI (pc x.toBitVec.getLsbD 64)))) 0 0 (fun _ => False) := by
  refine Met.ofW (cc := cJ13_bitCount_95d88) (maxL := 2) (ret := (some .int)) (by decide) rfl ?_
  intro p e s m args below meth c s₁ B hml hv
  obtain rfl := hv
  have hx := B.exec
  have hb := B.bytes
  have hr := B.returns
  have hts := atoms_spec (ws := wsJ13_bitCount_95d88) B.pre
  have hown : s.vm.findClass RJ13 = some m.cls := findClass_of_methodNamed B.named
  have hlocks := B.notSynchronized
  have hl := lv_entry ([.long x]) (n := 2) (Nat.le_of_ble_eq_true rfl)
  rw [lg_entry_eq]
  generalize (lg_sl ([.long x]) ++ List.replicate (2 - (lg_sl ([.long x])).length) Slot.unset).toArray = ls at hl ⊢
  have hl : lv_has ls 2 [(0, .long x)] := hl
  refine lv_lload_n hx hb dJ13_bitCount_95d88_0 rfl (lv_at hl 0 rfl) ?_
  refine lv_lload_n hx hb dJ13_bitCount_95d88_1 rfl (lv_at hl 0 rfl) ?_
  refine lv_iconst (v := nI 1) hx hb dJ13_bitCount_95d88_2 (by decide) ?_
  refine lv_lushr (v := (x.toUInt64 >>> ((nI 1).toInt64.toUInt64 &&& Int64.toUInt64 63)).toInt64) hx hb dJ13_bitCount_95d88_3 (rfl) ?_
  refine lv_ldc2 hx hb hown (hts (.constantLong RJ13 314 (6148914691236517205)) (by decide +kernel)) dJ13_bitCount_95d88_4 ?_
  refine lv_land hx hb dJ13_bitCount_95d88_7 ?_
  refine lv_lsub hx hb dJ13_bitCount_95d88_8 ?_
  refine lv_topl (fun a ha => ?_)
  refine lv_lstore_n (lv' := [(0, .long a)]) hx hb dJ13_bitCount_95d88_9 rfl hl (by decide) rfl (fun ls hl => ?_)
  refine lv_lload_n hx hb dJ13_bitCount_95d88_10 rfl (lv_at hl 0 rfl) ?_
  refine lv_ldc2 hx hb hown (hts (.constantLong RJ13 316 (3689348814741910323)) (by decide +kernel)) dJ13_bitCount_95d88_11 ?_
  refine lv_land hx hb dJ13_bitCount_95d88_14 ?_
  refine lv_lload_n hx hb dJ13_bitCount_95d88_15 rfl (lv_at hl 0 rfl) ?_
  refine lv_iconst (v := nI 2) hx hb dJ13_bitCount_95d88_16 (by decide) ?_
  refine lv_lushr (v := (a.toUInt64 >>> ((nI 2).toInt64.toUInt64 &&& Int64.toUInt64 63)).toInt64) hx hb dJ13_bitCount_95d88_17 (rfl) ?_
  refine lv_ldc2 hx hb hown (hts (.constantLong RJ13 316 (3689348814741910323)) (by decide +kernel)) dJ13_bitCount_95d88_18 ?_
  refine lv_land hx hb dJ13_bitCount_95d88_21 ?_
  refine lv_ladd hx hb dJ13_bitCount_95d88_22 ?_
  refine lv_topl (fun b hb_ => ?_)
  refine lv_lstore_n (lv' := [(0, .long b)]) hx hb dJ13_bitCount_95d88_23 rfl hl (by decide) rfl (fun ls hl => ?_)
  refine lv_lload_n hx hb dJ13_bitCount_95d88_24 rfl (lv_at hl 0 rfl) ?_
  refine lv_lload_n hx hb dJ13_bitCount_95d88_25 rfl (lv_at hl 0 rfl) ?_
  refine lv_iconst (v := nI 4) hx hb dJ13_bitCount_95d88_26 (by decide) ?_
  refine lv_lushr (v := (b.toUInt64 >>> ((nI 4).toInt64.toUInt64 &&& Int64.toUInt64 63)).toInt64) hx hb dJ13_bitCount_95d88_27 (rfl) ?_
  refine lv_ladd hx hb dJ13_bitCount_95d88_28 ?_
  refine lv_ldc2 hx hb hown (hts (.constantLong RJ13 318 (1085102592571150095)) (by decide +kernel)) dJ13_bitCount_95d88_29 ?_
  refine lv_land hx hb dJ13_bitCount_95d88_32 ?_
  refine lv_topl (fun c9 hc9 => ?_)
  refine lv_lstore_n (lv' := [(0, .long c9)]) hx hb dJ13_bitCount_95d88_33 rfl hl (by decide) rfl (fun ls hl => ?_)
  refine lv_lload_n hx hb dJ13_bitCount_95d88_34 rfl (lv_at hl 0 rfl) ?_
  refine lv_lload_n hx hb dJ13_bitCount_95d88_35 rfl (lv_at hl 0 rfl) ?_
  refine lv_bipush (v := nI 8) hx hb dJ13_bitCount_95d88_36 (by decide) ?_
  refine lv_lushr (v := (c9.toUInt64 >>> ((nI 8).toInt64.toUInt64 &&& Int64.toUInt64 63)).toInt64) hx hb dJ13_bitCount_95d88_38 (rfl) ?_
  refine lv_ladd hx hb dJ13_bitCount_95d88_39 ?_
  refine lv_topl (fun d hd => ?_)
  refine lv_lstore_n (lv' := [(0, .long d)]) hx hb dJ13_bitCount_95d88_40 rfl hl (by decide) rfl (fun ls hl => ?_)
  refine lv_lload_n hx hb dJ13_bitCount_95d88_41 rfl (lv_at hl 0 rfl) ?_
  refine lv_lload_n hx hb dJ13_bitCount_95d88_42 rfl (lv_at hl 0 rfl) ?_
  refine lv_bipush (v := nI 16) hx hb dJ13_bitCount_95d88_43 (by decide) ?_
  refine lv_lushr (v := (d.toUInt64 >>> ((nI 16).toInt64.toUInt64 &&& Int64.toUInt64 63)).toInt64) hx hb dJ13_bitCount_95d88_45 (rfl) ?_
  refine lv_ladd hx hb dJ13_bitCount_95d88_46 ?_
  refine lv_topl (fun e9 he9 => ?_)
  refine lv_lstore_n (lv' := [(0, .long e9)]) hx hb dJ13_bitCount_95d88_47 rfl hl (by decide) rfl (fun ls hl => ?_)
  refine lv_lload_n hx hb dJ13_bitCount_95d88_48 rfl (lv_at hl 0 rfl) ?_
  refine lv_lload_n hx hb dJ13_bitCount_95d88_49 rfl (lv_at hl 0 rfl) ?_
  refine lv_bipush (v := nI 32) hx hb dJ13_bitCount_95d88_50 (by decide) ?_
  refine lv_lushr (v := (e9.toUInt64 >>> ((nI 32).toInt64.toUInt64 &&& Int64.toUInt64 63)).toInt64) hx hb dJ13_bitCount_95d88_52 (rfl) ?_
  refine lv_ladd hx hb dJ13_bitCount_95d88_53 ?_
  refine lv_topl (fun f hf => ?_)
  refine lv_lstore_n (lv' := [(0, .long f)]) hx hb dJ13_bitCount_95d88_54 rfl hl (by decide) rfl (fun ls hl => ?_)
  refine lv_lload_n hx hb dJ13_bitCount_95d88_55 rfl (lv_at hl 0 rfl) ?_
  refine lv_l2i (v := f.toInt32) hx hb dJ13_bitCount_95d88_56 (rfl) ?_
  refine lv_bipush (v := nI 127) hx hb dJ13_bitCount_95d88_57 (by decide) ?_
  refine lv_iand hx hb dJ13_bitCount_95d88_59 ?_
  exact rd_i hx hb hr hlocks dJ13_bitCount_95d88_60 (bc_key x a b c9 d e9 f ha hb_ hc9 hd he9 hf)
variable (l : Launch) (D : va_G) (cI cJ : ClassId) (hn ow fi ma ro cnt len : Nat) (fo ff : Nat → Int32) (fk fr : Nat → Int64)
/-- how many of the first k words' bits of a literal are set -/
def onF (fr : Nat → Int64) (lit : Nat) : Nat → Nat
  | 0 => 0
  | k + 1 => onF fr lit k + pc (wd fr lit k).toBitVec.getLsbD 64
theorem onF_le (fr : Nat → Int64) (lit : Nat) : ∀ k, onF fr lit k ≤ 64 * k
  | 0 => Nat.le_refl 0
  | k + 1 => by have := onF_le fr lit k; have := pc_le (wd fr lit k).toBitVec.getLsbD 64; unfold onF; omega
set_option maxHeartbeats 4000000 in
set_option maxRecDepth 100000 in
/-- how many of the 4096 values of a literal are 1 -/
theorem c_X1_countOnes (lit : Nat) (h1 : lit / 2 * 64 + 63 < len) (h2 : len ≤ 25600) : Met l yX1_countOnes wsX1_countOnes { frames := 1, cells := 0, slots := 0, locals := 24 } (rd_P D [(cI, .int), (cJ, .long)] (nW hn ow fi ma ro cI cJ cnt len fo ff fk fr) [.ref hn, .int (nI lit)]) (k2_QcV (.int (nI (onF fr lit 64)))) 0 0 (fun _ => False) := by
  refine Met.ofW (cc := cX1_countOnes) (maxL := 4) (ret := (some .int)) (by decide) rfl ?_
  intro p e s m args below meth c s₁ B hml hv
  obtain ⟨rfl, hP, hK⟩ := hv
  have hx := B.exec
  have hb := B.bytes
  have hr := B.returns
  have hts := atoms_spec (ws := wsX1_countOnes) B.pre
  have hown : s.vm.findClass RX1 = some m.cls := findClass_of_methodNamed B.named
  have hlocks := B.notSynchronized
  have hl := lv_entry ([.ref hn, .int (nI lit)]) (n := 4) (Nat.le_of_ble_eq_true rfl)
  rw [lg_entry_eq]
  generalize (lg_sl ([.ref hn, .int (nI lit)]) ++ List.replicate (4 - (lg_sl ([.ref hn, .int (nI lit)])).length) Slot.unset).toArray = ls at hl ⊢
  have hl : lv_has ls 4 [(0, .ref hn), (1, .int (nI lit))] := hl
  refine lv_iconst (v := nI 0) hx hb dX1_countOnes_0 (by decide) ?_
  refine lv_istore_n (lv' := [(2, .int (nI 0)), (0, .ref hn), (1, .int (nI lit))]) hx hb dX1_countOnes_1 rfl hl (by decide) rfl (fun ls hl => ?_)
  refine lv_iconst (v := nI 0) hx hb dX1_countOnes_2 (by decide) ?_
  refine lv_istore_n (lv' := [(3, .int (nI 0)), (2, .int (nI 0)), (0, .ref hn), (1, .int (nI lit))]) hx hb dX1_countOnes_3 rfl hl (by decide) rfl (fun ls hl => ?_)
  have loop : ∀ (n : Nat) (i : Nat), i ≤ 64 → 64 - i < n → ∀ ls : Array Slot, lv_has ls 4 [(2, .int (nI (onF fr lit i))), (3, .int (nI i)), (0, .ref hn), (1, .int (nI lit))] → W p l e (headSpec wsX1_countOnes { frames := 1, cells := 0, slots := 0, locals := 24 }).room s m ([.ref hn, .int (nI lit)] : List Value).toArray below meth c s.heap [] 0 0 (MQ below (k2_QcV (.int (nI (onF fr lit 64)))) ([.ref hn, .int (nI lit)] : List Value).toArray s 0 0 (fun _ => False)) (F0 m 4 ls []) := by
    intro n
    induction n with
    | zero => intro i hi hM; exact absurd hM (Nat.not_lt_zero _)
    | succ n ih =>
      intro i hi hM ls hl
      have hc := onF_le fr lit i
      refine lv_iload_n hx hb dX1_countOnes_4 rfl (lv_at hl 1 rfl) ?_
      refine lv_bipush (v := nI 64) hx hb dX1_countOnes_5 (by decide) ?_
      refine lv_icmp_ge (tgt := 28) hx hb dX1_countOnes_7 (by decide) (fun c1 => ?_) (fun c1 => ?_)
      · have c1 : 64 ≤ i := (nI_leI (by omega) (by omega)).mp c1
        refine lv_iload_n hx hb dX1_countOnes_28 rfl (lv_at hl 0 rfl) ?_
        have hi2 : i = 64 := by omega
        exact rd_i hx hb hr hlocks dX1_countOnes_29 (by rw [hi2])
      · have c1 : ¬ (64 ≤ i) := fun h => c1 ((nI_leI (by omega) (by omega)).mpr h)
        refine lv_iload_n hx hb dX1_countOnes_10 rfl (lv_at hl 0 rfl) ?_
        refine lv_aload_n hx hb dX1_countOnes_11 rfl (lv_at hl 2 rfl) ?_
        refine lv_iload_n hx hb dX1_countOnes_12 rfl (lv_at hl 3 rfl) ?_
        refine lv_iload_n hx hb dX1_countOnes_13 rfl (lv_at hl 1 rfl) ?_
        refine rd_V (As := [.int (nI lit), .int (nI i)]) (rest := [.int (nI (onF fr lit i))]) ⟨hx, hb, hml, hown, hts⟩ (c_X1_wordOf l D cI cJ hn ow fi ma ro cnt len fo ff fk fr lit i (by omega) h2) (cwV 2 hts gX1_countOnes_X1_wordOf rfl rfl rfl (by decide +kernel) ⟨Nat.le_of_ble_eq_true rfl, Nat.le_of_ble_eq_true rfl⟩) (rd_pv (ci := 1) (q0 := 0) hK hP rfl rfl) rfl hl.1 rfl (Nat.le_of_ble_eq_true rfl) dX1_countOnes_14 ⟨Nat.zero_le _, Nat.zero_le _⟩ ?_
        refine rd_S (As := [.long (wd fr lit i)]) (rest := [.int (nI (onF fr lit i))]) ⟨hx, hb, hml, hown, hts⟩ (c_J13_bitCount_95d88 l (wd fr lit i)) (va_cwS 1 hts gX1_countOnes_J13_bitCount_95d88 rfl rfl rfl (by decide +kernel) ⟨Nat.le_of_ble_eq_true rfl, Nat.le_of_ble_eq_true rfl⟩) (preEq) rfl hl.1 rfl (Nat.le_of_ble_eq_true rfl) dX1_countOnes_17 ⟨Nat.zero_le _, Nat.zero_le _⟩ ?_
        refine lv_iadd hx hb dX1_countOnes_20 ?_
        refine tp_i (show (nI (onF fr lit i)) + (nI (pc (wd fr lit i).toBitVec.getLsbD 64)) = nI (onF fr lit i + (pc (wd fr lit i).toBitVec.getLsbD 64)) from nI_add _ _) ?_
        refine lv_istore_n (lv' := [(2, .int (nI (onF fr lit i + (pc (wd fr lit i).toBitVec.getLsbD 64)))), (3, .int (nI i)), (0, .ref hn), (1, .int (nI lit))]) hx hb dX1_countOnes_21 rfl hl (by decide) rfl (fun ls hl => ?_)
        refine lv_iinc (v := nI (i + 1)) (lv' := [(3, .int (nI (i + 1))), (2, .int (nI (onF fr lit i + (pc (wd fr lit i).toBitVec.getLsbD 64)))), (0, .ref hn), (1, .int (nI lit))]) hx hb dX1_countOnes_22 hl (k := 1) rfl (nI_add i 1) (by decide) rfl (fun ls hl => ?_)
        refine lv_goto (tgt := 4) hx hb dX1_countOnes_25 (by decide) ?_
        exact ih (i + 1) (by omega) (by omega) ls (by rw [show onF fr lit (i + 1) = onF fr lit i + pc (wd fr lit i).toBitVec.getLsbD 64 from rfl]; exact lv_sub hl [1, 0, 2, 3] rfl)
  exact loop (64 - 0 + 1) 0 (by omega) (by omega) ls (lv_sub hl [1, 0, 2, 3] rfl)
end RB
