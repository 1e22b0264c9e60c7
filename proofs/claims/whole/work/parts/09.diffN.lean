/-! The JDK's numberOfTrailingZeros; leastDifference; findFirst. -/
section RZ
set_option maxHeartbeats 4000000 in
set_option maxRecDepth 100000 in
/-- Integer.numberOfTrailingZeros -/
theorem c_J6_numberOfTrailingZeros_0f7a4 (l : Launch) (x : Int32) : Met l yJ6_numberOfTrailingZeros_0f7a4 wsJ6_numberOfTrailingZeros_0f7a4 { frames := 0, cells := 0, slots := 0, locals := 0 } (fun v _ => v = ([.int x] : List Value).toArray) (k2_QcV (.int (nI (tz x.toBitVec.getLsbD 32 0)))) 0 0 (fun _ => False) := by
  refine Met.ofW (cc := cJ6_numberOfTrailingZeros_0f7a4) (maxL := 2) (ret := (some .int)) (by decide) rfl ?_
  intro p e s m args below meth c s₁ B hml hv
  obtain rfl := hv
  have hx := B.exec
  have hb := B.bytes
  have hr := B.returns
  have hts := atoms_spec (ws := wsJ6_numberOfTrailingZeros_0f7a4) B.pre
  have hown : s.vm.findClass RJ6 = some m.cls := findClass_of_methodNamed B.named
  have hlocks := B.notSynchronized
  have hl := lv_entry ([.int x]) (n := 2) (Nat.le_of_ble_eq_true rfl)
  rw [lg_entry_eq]
  generalize (lg_sl ([.int x]) ++ List.replicate (2 - (lg_sl ([.int x])).length) Slot.unset).toArray = ls at hl ⊢
  have hl : lv_has ls 2 [(0, .int x)] := hl
  obtain ⟨t, hT⟩ : ∃ t, t = tz x.toBitVec.getLsbD 32 0 := ⟨_, rfl⟩
  have ht : t < 33 := by rw [hT]; exact Nat.lt_succ_of_le (tz_le _ 32)
  rw [← hT]
  refine lv_iload_n hx hb dJ6_numberOfTrailingZeros_0f7a4_0 rfl (lv_at hl 0 rfl) ?_
  refine lv_iconst (v := -1) hx hb dJ6_numberOfTrailingZeros_0f7a4_1 (by decide) ?_
  refine lv_ixor hx hb dJ6_numberOfTrailingZeros_0f7a4_2 ?_
  refine lv_iload_n hx hb dJ6_numberOfTrailingZeros_0f7a4_3 rfl (lv_at hl 0 rfl) ?_
  refine lv_iconst (v := nI 1) hx hb dJ6_numberOfTrailingZeros_0f7a4_4 (by decide) ?_
  refine lv_isub hx hb dJ6_numberOfTrailingZeros_0f7a4_5 ?_
  refine lv_iand hx hb dJ6_numberOfTrailingZeros_0f7a4_6 ?_
  refine tp_i (show (x ^^^ (-1)) &&& (x - (nI 1)) = kz t from by rw [hT, kz_key]) ?_
  refine lv_istore_n (lv' := [(0, .int (kz t))]) hx hb dJ6_numberOfTrailingZeros_0f7a4_7 rfl hl (by decide) rfl (fun ls hl => ?_)
  refine lv_iload_n hx hb dJ6_numberOfTrailingZeros_0f7a4_8 rfl (lv_at hl 0 rfl) ?_
  refine lv_if_gt (tgt := 17) hx hb dJ6_numberOfTrailingZeros_0f7a4_9 (by decide) (fun c1 => ?_) (fun c1 => ?_)
  · refine lv_iconst (v := nI 1) hx hb dJ6_numberOfTrailingZeros_0f7a4_17 (by decide) ?_
    refine lv_istore_n (lv' := [(1, .int (nI 1)), (0, .int (kz t))]) hx hb dJ6_numberOfTrailingZeros_0f7a4_18 rfl hl (by decide) rfl (fun ls hl => ?_)
    refine lv_iload_n hx hb dJ6_numberOfTrailingZeros_0f7a4_19 rfl (lv_at hl 1 rfl) ?_
    refine lv_ldcw hx hb hown (hts (.constant RJ6 264 (65536)) (by decide +kernel)) dJ6_numberOfTrailingZeros_0f7a4_20 ?_
    refine lv_icmp_le (tgt := 34) hx hb dJ6_numberOfTrailingZeros_0f7a4_23 (by decide) (fun c2 => ?_) (fun c2 => ?_)
    · refine lv_iload_n hx hb dJ6_numberOfTrailingZeros_0f7a4_34 rfl (lv_at hl 1 rfl) ?_
      refine lv_sipush (v := nI 256) hx hb dJ6_numberOfTrailingZeros_0f7a4_35 (by decide) ?_
      refine lv_icmp_le (tgt := 49) hx hb dJ6_numberOfTrailingZeros_0f7a4_38 (by decide) (fun c3 => ?_) (fun c3 => ?_)
      · refine lv_iload_n hx hb dJ6_numberOfTrailingZeros_0f7a4_49 rfl (lv_at hl 1 rfl) ?_
        refine lv_bipush (v := nI 16) hx hb dJ6_numberOfTrailingZeros_0f7a4_50 (by decide) ?_
        refine lv_icmp_le (tgt := 62) hx hb dJ6_numberOfTrailingZeros_0f7a4_52 (by decide) (fun c4 => ?_) (fun c4 => ?_)
        · refine lv_iload_n hx hb dJ6_numberOfTrailingZeros_0f7a4_62 rfl (lv_at hl 1 rfl) ?_
          refine lv_iconst (v := nI 4) hx hb dJ6_numberOfTrailingZeros_0f7a4_63 (by decide) ?_
          refine lv_icmp_le (tgt := 74) hx hb dJ6_numberOfTrailingZeros_0f7a4_64 (by decide) (fun c5 => ?_) (fun c5 => ?_)
          · refine lv_iload_n hx hb dJ6_numberOfTrailingZeros_0f7a4_74 rfl (lv_at hl 0 rfl) ?_
            refine lv_iload_n hx hb dJ6_numberOfTrailingZeros_0f7a4_75 rfl (lv_at hl 1 rfl) ?_
            refine lv_iconst (v := nI 1) hx hb dJ6_numberOfTrailingZeros_0f7a4_76 (by decide) ?_
            refine lv_iushr (v := ((kz t).toUInt32 >>> ((nI 1).toUInt32 &&& Int32.toUInt32 31)).toInt32) hx hb dJ6_numberOfTrailingZeros_0f7a4_77 (rfl) ?_
            refine lv_iadd hx hb dJ6_numberOfTrailingZeros_0f7a4_78 ?_
            have hh : ∀ t, t < 33 → (0 < kz t ∧ kz t ≤ 65536 ∧ kz t ≤ nI 256 ∧ kz t ≤ nI 16 ∧ kz t ≤ nI 4) → (nI 1) + (((kz t).toUInt32 >>> ((nI 1).toUInt32 &&& Int32.toUInt32 31)).toInt32) = nI t := by decide +kernel
            exact rd_i hx hb hr hlocks dJ6_numberOfTrailingZeros_0f7a4_79 (hh t ht ⟨c1, c2, c3, c4, c5⟩)
          · refine lv_iinc (v := nI (1 + 2)) (lv' := [(1, .int (nI (1 + 2))), (0, .int (kz t))]) hx hb dJ6_numberOfTrailingZeros_0f7a4_67 hl (k := 0) rfl (nI_add 1 2) (by decide) rfl (fun ls hl => ?_)
            refine lv_iload_n hx hb dJ6_numberOfTrailingZeros_0f7a4_70 rfl (lv_at hl 1 rfl) ?_
            refine lv_iconst (v := nI 2) hx hb dJ6_numberOfTrailingZeros_0f7a4_71 (by decide) ?_
            refine lv_iushr (v := ((kz t).toUInt32 >>> ((nI 2).toUInt32 &&& Int32.toUInt32 31)).toInt32) hx hb dJ6_numberOfTrailingZeros_0f7a4_72 (rfl) ?_
            refine lv_istore_n (lv' := [(0, .int (((kz t).toUInt32 >>> ((nI 2).toUInt32 &&& Int32.toUInt32 31)).toInt32)), (1, .int (nI (1 + 2)))]) hx hb dJ6_numberOfTrailingZeros_0f7a4_73 rfl hl (by decide) rfl (fun ls hl => ?_)
            refine lv_iload_n hx hb dJ6_numberOfTrailingZeros_0f7a4_74 rfl (lv_at hl 1 rfl) ?_
            refine lv_iload_n hx hb dJ6_numberOfTrailingZeros_0f7a4_75 rfl (lv_at hl 0 rfl) ?_
            refine lv_iconst (v := nI 1) hx hb dJ6_numberOfTrailingZeros_0f7a4_76 (by decide) ?_
            refine lv_iushr (v := ((((kz t).toUInt32 >>> ((nI 2).toUInt32 &&& Int32.toUInt32 31)).toInt32).toUInt32 >>> ((nI 1).toUInt32 &&& Int32.toUInt32 31)).toInt32) hx hb dJ6_numberOfTrailingZeros_0f7a4_77 (rfl) ?_
            refine lv_iadd hx hb dJ6_numberOfTrailingZeros_0f7a4_78 ?_
            have hh : ∀ t, t < 33 → (0 < kz t ∧ kz t ≤ 65536 ∧ kz t ≤ nI 256 ∧ kz t ≤ nI 16 ∧ ¬ kz t ≤ nI 4) → (nI (1 + 2)) + (((((kz t).toUInt32 >>> ((nI 2).toUInt32 &&& Int32.toUInt32 31)).toInt32).toUInt32 >>> ((nI 1).toUInt32 &&& Int32.toUInt32 31)).toInt32) = nI t := by decide +kernel
            exact rd_i hx hb hr hlocks dJ6_numberOfTrailingZeros_0f7a4_79 (hh t ht ⟨c1, c2, c3, c4, c5⟩)
        · refine lv_iinc (v := nI (1 + 4)) (lv' := [(1, .int (nI (1 + 4))), (0, .int (kz t))]) hx hb dJ6_numberOfTrailingZeros_0f7a4_55 hl (k := 0) rfl (nI_add 1 4) (by decide) rfl (fun ls hl => ?_)
          refine lv_iload_n hx hb dJ6_numberOfTrailingZeros_0f7a4_58 rfl (lv_at hl 1 rfl) ?_
          refine lv_iconst (v := nI 4) hx hb dJ6_numberOfTrailingZeros_0f7a4_59 (by decide) ?_
          refine lv_iushr (v := ((kz t).toUInt32 >>> ((nI 4).toUInt32 &&& Int32.toUInt32 31)).toInt32) hx hb dJ6_numberOfTrailingZeros_0f7a4_60 (rfl) ?_
          refine lv_istore_n (lv' := [(0, .int (((kz t).toUInt32 >>> ((nI 4).toUInt32 &&& Int32.toUInt32 31)).toInt32)), (1, .int (nI (1 + 4)))]) hx hb dJ6_numberOfTrailingZeros_0f7a4_61 rfl hl (by decide) rfl (fun ls hl => ?_)
          refine lv_iload_n hx hb dJ6_numberOfTrailingZeros_0f7a4_62 rfl (lv_at hl 0 rfl) ?_
          refine lv_iconst (v := nI 4) hx hb dJ6_numberOfTrailingZeros_0f7a4_63 (by decide) ?_
          refine lv_icmp_le (tgt := 74) hx hb dJ6_numberOfTrailingZeros_0f7a4_64 (by decide) (fun c5 => ?_) (fun c5 => ?_)
          · refine lv_iload_n hx hb dJ6_numberOfTrailingZeros_0f7a4_74 rfl (lv_at hl 1 rfl) ?_
            refine lv_iload_n hx hb dJ6_numberOfTrailingZeros_0f7a4_75 rfl (lv_at hl 0 rfl) ?_
            refine lv_iconst (v := nI 1) hx hb dJ6_numberOfTrailingZeros_0f7a4_76 (by decide) ?_
            refine lv_iushr (v := ((((kz t).toUInt32 >>> ((nI 4).toUInt32 &&& Int32.toUInt32 31)).toInt32).toUInt32 >>> ((nI 1).toUInt32 &&& Int32.toUInt32 31)).toInt32) hx hb dJ6_numberOfTrailingZeros_0f7a4_77 (rfl) ?_
            refine lv_iadd hx hb dJ6_numberOfTrailingZeros_0f7a4_78 ?_
            have hh : ∀ t, t < 33 → (0 < kz t ∧ kz t ≤ 65536 ∧ kz t ≤ nI 256 ∧ ¬ kz t ≤ nI 16 ∧ ((kz t).toUInt32 >>> ((nI 4).toUInt32 &&& Int32.toUInt32 31)).toInt32 ≤ nI 4) → (nI (1 + 4)) + (((((kz t).toUInt32 >>> ((nI 4).toUInt32 &&& Int32.toUInt32 31)).toInt32).toUInt32 >>> ((nI 1).toUInt32 &&& Int32.toUInt32 31)).toInt32) = nI t := by decide +kernel
            exact rd_i hx hb hr hlocks dJ6_numberOfTrailingZeros_0f7a4_79 (hh t ht ⟨c1, c2, c3, c4, c5⟩)
          · refine lv_iinc (v := nI (1 + 4 + 2)) (lv' := [(1, .int (nI (1 + 4 + 2))), (0, .int (((kz t).toUInt32 >>> ((nI 4).toUInt32 &&& Int32.toUInt32 31)).toInt32))]) hx hb dJ6_numberOfTrailingZeros_0f7a4_67 hl (k := 1) rfl (nI_add (1 + 4) 2) (by decide) rfl (fun ls hl => ?_)
            refine lv_iload_n hx hb dJ6_numberOfTrailingZeros_0f7a4_70 rfl (lv_at hl 1 rfl) ?_
            refine lv_iconst (v := nI 2) hx hb dJ6_numberOfTrailingZeros_0f7a4_71 (by decide) ?_
            refine lv_iushr (v := ((((kz t).toUInt32 >>> ((nI 4).toUInt32 &&& Int32.toUInt32 31)).toInt32).toUInt32 >>> ((nI 2).toUInt32 &&& Int32.toUInt32 31)).toInt32) hx hb dJ6_numberOfTrailingZeros_0f7a4_72 (rfl) ?_
            refine lv_istore_n (lv' := [(0, .int (((((kz t).toUInt32 >>> ((nI 4).toUInt32 &&& Int32.toUInt32 31)).toInt32).toUInt32 >>> ((nI 2).toUInt32 &&& Int32.toUInt32 31)).toInt32)), (1, .int (nI (1 + 4 + 2)))]) hx hb dJ6_numberOfTrailingZeros_0f7a4_73 rfl hl (by decide) rfl (fun ls hl => ?_)
            refine lv_iload_n hx hb dJ6_numberOfTrailingZeros_0f7a4_74 rfl (lv_at hl 1 rfl) ?_
            refine lv_iload_n hx hb dJ6_numberOfTrailingZeros_0f7a4_75 rfl (lv_at hl 0 rfl) ?_
            refine lv_iconst (v := nI 1) hx hb dJ6_numberOfTrailingZeros_0f7a4_76 (by decide) ?_
            refine lv_iushr (v := ((((((kz t).toUInt32 >>> ((nI 4).toUInt32 &&& Int32.toUInt32 31)).toInt32).toUInt32 >>> ((nI 2).toUInt32 &&& Int32.toUInt32 31)).toInt32).toUInt32 >>> ((nI 1).toUInt32 &&& Int32.toUInt32 31)).toInt32) hx hb dJ6_numberOfTrailingZeros_0f7a4_77 (rfl) ?_
            refine lv_iadd hx hb dJ6_numberOfTrailingZeros_0f7a4_78 ?_
            have hh : ∀ t, t < 33 → (0 < kz t ∧ kz t ≤ 65536 ∧ kz t ≤ nI 256 ∧ ¬ kz t ≤ nI 16 ∧ ¬ ((kz t).toUInt32 >>> ((nI 4).toUInt32 &&& Int32.toUInt32 31)).toInt32 ≤ nI 4) → (nI (1 + 4 + 2)) + (((((((kz t).toUInt32 >>> ((nI 4).toUInt32 &&& Int32.toUInt32 31)).toInt32).toUInt32 >>> ((nI 2).toUInt32 &&& Int32.toUInt32 31)).toInt32).toUInt32 >>> ((nI 1).toUInt32 &&& Int32.toUInt32 31)).toInt32) = nI t := by decide +kernel
            exact rd_i hx hb hr hlocks dJ6_numberOfTrailingZeros_0f7a4_79 (hh t ht ⟨c1, c2, c3, c4, c5⟩)
      · refine lv_iinc (v := nI (1 + 8)) (lv' := [(1, .int (nI (1 + 8))), (0, .int (kz t))]) hx hb dJ6_numberOfTrailingZeros_0f7a4_41 hl (k := 0) rfl (nI_add 1 8) (by decide) rfl (fun ls hl => ?_)
        refine lv_iload_n hx hb dJ6_numberOfTrailingZeros_0f7a4_44 rfl (lv_at hl 1 rfl) ?_
        refine lv_bipush (v := nI 8) hx hb dJ6_numberOfTrailingZeros_0f7a4_45 (by decide) ?_
        refine lv_iushr (v := ((kz t).toUInt32 >>> ((nI 8).toUInt32 &&& Int32.toUInt32 31)).toInt32) hx hb dJ6_numberOfTrailingZeros_0f7a4_47 (rfl) ?_
        refine lv_istore_n (lv' := [(0, .int (((kz t).toUInt32 >>> ((nI 8).toUInt32 &&& Int32.toUInt32 31)).toInt32)), (1, .int (nI (1 + 8)))]) hx hb dJ6_numberOfTrailingZeros_0f7a4_48 rfl hl (by decide) rfl (fun ls hl => ?_)
        refine lv_iload_n hx hb dJ6_numberOfTrailingZeros_0f7a4_49 rfl (lv_at hl 0 rfl) ?_
        refine lv_bipush (v := nI 16) hx hb dJ6_numberOfTrailingZeros_0f7a4_50 (by decide) ?_
        refine lv_icmp_le (tgt := 62) hx hb dJ6_numberOfTrailingZeros_0f7a4_52 (by decide) (fun c4 => ?_) (fun c4 => ?_)
        · refine lv_iload_n hx hb dJ6_numberOfTrailingZeros_0f7a4_62 rfl (lv_at hl 0 rfl) ?_
          refine lv_iconst (v := nI 4) hx hb dJ6_numberOfTrailingZeros_0f7a4_63 (by decide) ?_
          refine lv_icmp_le (tgt := 74) hx hb dJ6_numberOfTrailingZeros_0f7a4_64 (by decide) (fun c5 => ?_) (fun c5 => ?_)
          · refine lv_iload_n hx hb dJ6_numberOfTrailingZeros_0f7a4_74 rfl (lv_at hl 1 rfl) ?_
            refine lv_iload_n hx hb dJ6_numberOfTrailingZeros_0f7a4_75 rfl (lv_at hl 0 rfl) ?_
            refine lv_iconst (v := nI 1) hx hb dJ6_numberOfTrailingZeros_0f7a4_76 (by decide) ?_
            refine lv_iushr (v := ((((kz t).toUInt32 >>> ((nI 8).toUInt32 &&& Int32.toUInt32 31)).toInt32).toUInt32 >>> ((nI 1).toUInt32 &&& Int32.toUInt32 31)).toInt32) hx hb dJ6_numberOfTrailingZeros_0f7a4_77 (rfl) ?_
            refine lv_iadd hx hb dJ6_numberOfTrailingZeros_0f7a4_78 ?_
            have hh : ∀ t, t < 33 → (0 < kz t ∧ kz t ≤ 65536 ∧ ¬ kz t ≤ nI 256 ∧ ((kz t).toUInt32 >>> ((nI 8).toUInt32 &&& Int32.toUInt32 31)).toInt32 ≤ nI 16 ∧ ((kz t).toUInt32 >>> ((nI 8).toUInt32 &&& Int32.toUInt32 31)).toInt32 ≤ nI 4) → (nI (1 + 8)) + (((((kz t).toUInt32 >>> ((nI 8).toUInt32 &&& Int32.toUInt32 31)).toInt32).toUInt32 >>> ((nI 1).toUInt32 &&& Int32.toUInt32 31)).toInt32) = nI t := by decide +kernel
            exact rd_i hx hb hr hlocks dJ6_numberOfTrailingZeros_0f7a4_79 (hh t ht ⟨c1, c2, c3, c4, c5⟩)
          · refine lv_iinc (v := nI (1 + 8 + 2)) (lv' := [(1, .int (nI (1 + 8 + 2))), (0, .int (((kz t).toUInt32 >>> ((nI 8).toUInt32 &&& Int32.toUInt32 31)).toInt32))]) hx hb dJ6_numberOfTrailingZeros_0f7a4_67 hl (k := 1) rfl (nI_add (1 + 8) 2) (by decide) rfl (fun ls hl => ?_)
            refine lv_iload_n hx hb dJ6_numberOfTrailingZeros_0f7a4_70 rfl (lv_at hl 1 rfl) ?_
            refine lv_iconst (v := nI 2) hx hb dJ6_numberOfTrailingZeros_0f7a4_71 (by decide) ?_
            refine lv_iushr (v := ((((kz t).toUInt32 >>> ((nI 8).toUInt32 &&& Int32.toUInt32 31)).toInt32).toUInt32 >>> ((nI 2).toUInt32 &&& Int32.toUInt32 31)).toInt32) hx hb dJ6_numberOfTrailingZeros_0f7a4_72 (rfl) ?_
            refine lv_istore_n (lv' := [(0, .int (((((kz t).toUInt32 >>> ((nI 8).toUInt32 &&& Int32.toUInt32 31)).toInt32).toUInt32 >>> ((nI 2).toUInt32 &&& Int32.toUInt32 31)).toInt32)), (1, .int (nI (1 + 8 + 2)))]) hx hb dJ6_numberOfTrailingZeros_0f7a4_73 rfl hl (by decide) rfl (fun ls hl => ?_)
            refine lv_iload_n hx hb dJ6_numberOfTrailingZeros_0f7a4_74 rfl (lv_at hl 1 rfl) ?_
            refine lv_iload_n hx hb dJ6_numberOfTrailingZeros_0f7a4_75 rfl (lv_at hl 0 rfl) ?_
            refine lv_iconst (v := nI 1) hx hb dJ6_numberOfTrailingZeros_0f7a4_76 (by decide) ?_
            refine lv_iushr (v := ((((((kz t).toUInt32 >>> ((nI 8).toUInt32 &&& Int32.toUInt32 31)).toInt32).toUInt32 >>> ((nI 2).toUInt32 &&& Int32.toUInt32 31)).toInt32).toUInt32 >>> ((nI 1).toUInt32 &&& Int32.toUInt32 31)).toInt32) hx hb dJ6_numberOfTrailingZeros_0f7a4_77 (rfl) ?_
            refine lv_iadd hx hb dJ6_numberOfTrailingZeros_0f7a4_78 ?_
            have hh : ∀ t, t < 33 → (0 < kz t ∧ kz t ≤ 65536 ∧ ¬ kz t ≤ nI 256 ∧ ((kz t).toUInt32 >>> ((nI 8).toUInt32 &&& Int32.toUInt32 31)).toInt32 ≤ nI 16 ∧ ¬ ((kz t).toUInt32 >>> ((nI 8).toUInt32 &&& Int32.toUInt32 31)).toInt32 ≤ nI 4) → (nI (1 + 8 + 2)) + (((((((kz t).toUInt32 >>> ((nI 8).toUInt32 &&& Int32.toUInt32 31)).toInt32).toUInt32 >>> ((nI 2).toUInt32 &&& Int32.toUInt32 31)).toInt32).toUInt32 >>> ((nI 1).toUInt32 &&& Int32.toUInt32 31)).toInt32) = nI t := by decide +kernel
            exact rd_i hx hb hr hlocks dJ6_numberOfTrailingZeros_0f7a4_79 (hh t ht ⟨c1, c2, c3, c4, c5⟩)
        · refine lv_iinc (v := nI (1 + 8 + 4)) (lv' := [(1, .int (nI (1 + 8 + 4))), (0, .int (((kz t).toUInt32 >>> ((nI 8).toUInt32 &&& Int32.toUInt32 31)).toInt32))]) hx hb dJ6_numberOfTrailingZeros_0f7a4_55 hl (k := 1) rfl (nI_add (1 + 8) 4) (by decide) rfl (fun ls hl => ?_)
          refine lv_iload_n hx hb dJ6_numberOfTrailingZeros_0f7a4_58 rfl (lv_at hl 1 rfl) ?_
          refine lv_iconst (v := nI 4) hx hb dJ6_numberOfTrailingZeros_0f7a4_59 (by decide) ?_
          refine lv_iushr (v := ((((kz t).toUInt32 >>> ((nI 8).toUInt32 &&& Int32.toUInt32 31)).toInt32).toUInt32 >>> ((nI 4).toUInt32 &&& Int32.toUInt32 31)).toInt32) hx hb dJ6_numberOfTrailingZeros_0f7a4_60 (rfl) ?_
          refine lv_istore_n (lv' := [(0, .int (((((kz t).toUInt32 >>> ((nI 8).toUInt32 &&& Int32.toUInt32 31)).toInt32).toUInt32 >>> ((nI 4).toUInt32 &&& Int32.toUInt32 31)).toInt32)), (1, .int (nI (1 + 8 + 4)))]) hx hb dJ6_numberOfTrailingZeros_0f7a4_61 rfl hl (by decide) rfl (fun ls hl => ?_)
          refine lv_iload_n hx hb dJ6_numberOfTrailingZeros_0f7a4_62 rfl (lv_at hl 0 rfl) ?_
          refine lv_iconst (v := nI 4) hx hb dJ6_numberOfTrailingZeros_0f7a4_63 (by decide) ?_
          refine lv_icmp_le (tgt := 74) hx hb dJ6_numberOfTrailingZeros_0f7a4_64 (by decide) (fun c5 => ?_) (fun c5 => ?_)
          · refine lv_iload_n hx hb dJ6_numberOfTrailingZeros_0f7a4_74 rfl (lv_at hl 1 rfl) ?_
            refine lv_iload_n hx hb dJ6_numberOfTrailingZeros_0f7a4_75 rfl (lv_at hl 0 rfl) ?_
            refine lv_iconst (v := nI 1) hx hb dJ6_numberOfTrailingZeros_0f7a4_76 (by decide) ?_
            refine lv_iushr (v := ((((((kz t).toUInt32 >>> ((nI 8).toUInt32 &&& Int32.toUInt32 31)).toInt32).toUInt32 >>> ((nI 4).toUInt32 &&& Int32.toUInt32 31)).toInt32).toUInt32 >>> ((nI 1).toUInt32 &&& Int32.toUInt32 31)).toInt32) hx hb dJ6_numberOfTrailingZeros_0f7a4_77 (rfl) ?_
            refine lv_iadd hx hb dJ6_numberOfTrailingZeros_0f7a4_78 ?_
            have hh : ∀ t, t < 33 → (0 < kz t ∧ kz t ≤ 65536 ∧ ¬ kz t ≤ nI 256 ∧ ¬ ((kz t).toUInt32 >>> ((nI 8).toUInt32 &&& Int32.toUInt32 31)).toInt32 ≤ nI 16 ∧ ((((kz t).toUInt32 >>> ((nI 8).toUInt32 &&& Int32.toUInt32 31)).toInt32).toUInt32 >>> ((nI 4).toUInt32 &&& Int32.toUInt32 31)).toInt32 ≤ nI 4) → (nI (1 + 8 + 4)) + (((((((kz t).toUInt32 >>> ((nI 8).toUInt32 &&& Int32.toUInt32 31)).toInt32).toUInt32 >>> ((nI 4).toUInt32 &&& Int32.toUInt32 31)).toInt32).toUInt32 >>> ((nI 1).toUInt32 &&& Int32.toUInt32 31)).toInt32) = nI t := by decide +kernel
            exact rd_i hx hb hr hlocks dJ6_numberOfTrailingZeros_0f7a4_79 (hh t ht ⟨c1, c2, c3, c4, c5⟩)
          · refine lv_iinc (v := nI (1 + 8 + 4 + 2)) (lv' := [(1, .int (nI (1 + 8 + 4 + 2))), (0, .int (((((kz t).toUInt32 >>> ((nI 8).toUInt32 &&& Int32.toUInt32 31)).toInt32).toUInt32 >>> ((nI 4).toUInt32 &&& Int32.toUInt32 31)).toInt32))]) hx hb dJ6_numberOfTrailingZeros_0f7a4_67 hl (k := 1) rfl (nI_add (1 + 8 + 4) 2) (by decide) rfl (fun ls hl => ?_)
            refine lv_iload_n hx hb dJ6_numberOfTrailingZeros_0f7a4_70 rfl (lv_at hl 1 rfl) ?_
            refine lv_iconst (v := nI 2) hx hb dJ6_numberOfTrailingZeros_0f7a4_71 (by decide) ?_
            refine lv_iushr (v := ((((((kz t).toUInt32 >>> ((nI 8).toUInt32 &&& Int32.toUInt32 31)).toInt32).toUInt32 >>> ((nI 4).toUInt32 &&& Int32.toUInt32 31)).toInt32).toUInt32 >>> ((nI 2).toUInt32 &&& Int32.toUInt32 31)).toInt32) hx hb dJ6_numberOfTrailingZeros_0f7a4_72 (rfl) ?_
            refine lv_istore_n (lv' := [(0, .int (((((((kz t).toUInt32 >>> ((nI 8).toUInt32 &&& Int32.toUInt32 31)).toInt32).toUInt32 >>> ((nI 4).toUInt32 &&& Int32.toUInt32 31)).toInt32).toUInt32 >>> ((nI 2).toUInt32 &&& Int32.toUInt32 31)).toInt32)), (1, .int (nI (1 + 8 + 4 + 2)))]) hx hb dJ6_numberOfTrailingZeros_0f7a4_73 rfl hl (by decide) rfl (fun ls hl => ?_)
            refine lv_iload_n hx hb dJ6_numberOfTrailingZeros_0f7a4_74 rfl (lv_at hl 1 rfl) ?_
            refine lv_iload_n hx hb dJ6_numberOfTrailingZeros_0f7a4_75 rfl (lv_at hl 0 rfl) ?_
            refine lv_iconst (v := nI 1) hx hb dJ6_numberOfTrailingZeros_0f7a4_76 (by decide) ?_
            refine lv_iushr (v := ((((((((kz t).toUInt32 >>> ((nI 8).toUInt32 &&& Int32.toUInt32 31)).toInt32).toUInt32 >>> ((nI 4).toUInt32 &&& Int32.toUInt32 31)).toInt32).toUInt32 >>> ((nI 2).toUInt32 &&& Int32.toUInt32 31)).toInt32).toUInt32 >>> ((nI 1).toUInt32 &&& Int32.toUInt32 31)).toInt32) hx hb dJ6_numberOfTrailingZeros_0f7a4_77 (rfl) ?_
            refine lv_iadd hx hb dJ6_numberOfTrailingZeros_0f7a4_78 ?_
            have hh : ∀ t, t < 33 → (0 < kz t ∧ kz t ≤ 65536 ∧ ¬ kz t ≤ nI 256 ∧ ¬ ((kz t).toUInt32 >>> ((nI 8).toUInt32 &&& Int32.toUInt32 31)).toInt32 ≤ nI 16 ∧ ¬ ((((kz t).toUInt32 >>> ((nI 8).toUInt32 &&& Int32.toUInt32 31)).toInt32).toUInt32 >>> ((nI 4).toUInt32 &&& Int32.toUInt32 31)).toInt32 ≤ nI 4) → (nI (1 + 8 + 4 + 2)) + (((((((((kz t).toUInt32 >>> ((nI 8).toUInt32 &&& Int32.toUInt32 31)).toInt32).toUInt32 >>> ((nI 4).toUInt32 &&& Int32.toUInt32 31)).toInt32).toUInt32 >>> ((nI 2).toUInt32 &&& Int32.toUInt32 31)).toInt32).toUInt32 >>> ((nI 1).toUInt32 &&& Int32.toUInt32 31)).toInt32) = nI t := by decide +kernel
            exact rd_i hx hb hr hlocks dJ6_numberOfTrailingZeros_0f7a4_79 (hh t ht ⟨c1, c2, c3, c4, c5⟩)
    · refine lv_iinc (v := nI (1 + 16)) (lv' := [(1, .int (nI (1 + 16))), (0, .int (kz t))]) hx hb dJ6_numberOfTrailingZeros_0f7a4_26 hl (k := 0) rfl (nI_add 1 16) (by decide) rfl (fun ls hl => ?_)
      refine lv_iload_n hx hb dJ6_numberOfTrailingZeros_0f7a4_29 rfl (lv_at hl 1 rfl) ?_
      refine lv_bipush (v := nI 16) hx hb dJ6_numberOfTrailingZeros_0f7a4_30 (by decide) ?_
      refine lv_iushr (v := ((kz t).toUInt32 >>> ((nI 16).toUInt32 &&& Int32.toUInt32 31)).toInt32) hx hb dJ6_numberOfTrailingZeros_0f7a4_32 (rfl) ?_
      refine lv_istore_n (lv' := [(0, .int (((kz t).toUInt32 >>> ((nI 16).toUInt32 &&& Int32.toUInt32 31)).toInt32)), (1, .int (nI (1 + 16)))]) hx hb dJ6_numberOfTrailingZeros_0f7a4_33 rfl hl (by decide) rfl (fun ls hl => ?_)
      refine lv_iload_n hx hb dJ6_numberOfTrailingZeros_0f7a4_34 rfl (lv_at hl 0 rfl) ?_
      refine lv_sipush (v := nI 256) hx hb dJ6_numberOfTrailingZeros_0f7a4_35 (by decide) ?_
      refine lv_icmp_le (tgt := 49) hx hb dJ6_numberOfTrailingZeros_0f7a4_38 (by decide) (fun c3 => ?_) (fun c3 => ?_)
      · refine lv_iload_n hx hb dJ6_numberOfTrailingZeros_0f7a4_49 rfl (lv_at hl 0 rfl) ?_
        refine lv_bipush (v := nI 16) hx hb dJ6_numberOfTrailingZeros_0f7a4_50 (by decide) ?_
        refine lv_icmp_le (tgt := 62) hx hb dJ6_numberOfTrailingZeros_0f7a4_52 (by decide) (fun c4 => ?_) (fun c4 => ?_)
        · refine lv_iload_n hx hb dJ6_numberOfTrailingZeros_0f7a4_62 rfl (lv_at hl 0 rfl) ?_
          refine lv_iconst (v := nI 4) hx hb dJ6_numberOfTrailingZeros_0f7a4_63 (by decide) ?_
          refine lv_icmp_le (tgt := 74) hx hb dJ6_numberOfTrailingZeros_0f7a4_64 (by decide) (fun c5 => ?_) (fun c5 => ?_)
          · refine lv_iload_n hx hb dJ6_numberOfTrailingZeros_0f7a4_74 rfl (lv_at hl 1 rfl) ?_
            refine lv_iload_n hx hb dJ6_numberOfTrailingZeros_0f7a4_75 rfl (lv_at hl 0 rfl) ?_
            refine lv_iconst (v := nI 1) hx hb dJ6_numberOfTrailingZeros_0f7a4_76 (by decide) ?_
            refine lv_iushr (v := ((((kz t).toUInt32 >>> ((nI 16).toUInt32 &&& Int32.toUInt32 31)).toInt32).toUInt32 >>> ((nI 1).toUInt32 &&& Int32.toUInt32 31)).toInt32) hx hb dJ6_numberOfTrailingZeros_0f7a4_77 (rfl) ?_
            refine lv_iadd hx hb dJ6_numberOfTrailingZeros_0f7a4_78 ?_
            have hh : ∀ t, t < 33 → (0 < kz t ∧ ¬ kz t ≤ 65536 ∧ ((kz t).toUInt32 >>> ((nI 16).toUInt32 &&& Int32.toUInt32 31)).toInt32 ≤ nI 256 ∧ ((kz t).toUInt32 >>> ((nI 16).toUInt32 &&& Int32.toUInt32 31)).toInt32 ≤ nI 16 ∧ ((kz t).toUInt32 >>> ((nI 16).toUInt32 &&& Int32.toUInt32 31)).toInt32 ≤ nI 4) → (nI (1 + 16)) + (((((kz t).toUInt32 >>> ((nI 16).toUInt32 &&& Int32.toUInt32 31)).toInt32).toUInt32 >>> ((nI 1).toUInt32 &&& Int32.toUInt32 31)).toInt32) = nI t := by decide +kernel
            exact rd_i hx hb hr hlocks dJ6_numberOfTrailingZeros_0f7a4_79 (hh t ht ⟨c1, c2, c3, c4, c5⟩)
          · refine lv_iinc (v := nI (1 + 16 + 2)) (lv' := [(1, .int (nI (1 + 16 + 2))), (0, .int (((kz t).toUInt32 >>> ((nI 16).toUInt32 &&& Int32.toUInt32 31)).toInt32))]) hx hb dJ6_numberOfTrailingZeros_0f7a4_67 hl (k := 1) rfl (nI_add (1 + 16) 2) (by decide) rfl (fun ls hl => ?_)
            refine lv_iload_n hx hb dJ6_numberOfTrailingZeros_0f7a4_70 rfl (lv_at hl 1 rfl) ?_
            refine lv_iconst (v := nI 2) hx hb dJ6_numberOfTrailingZeros_0f7a4_71 (by decide) ?_
            refine lv_iushr (v := ((((kz t).toUInt32 >>> ((nI 16).toUInt32 &&& Int32.toUInt32 31)).toInt32).toUInt32 >>> ((nI 2).toUInt32 &&& Int32.toUInt32 31)).toInt32) hx hb dJ6_numberOfTrailingZeros_0f7a4_72 (rfl) ?_
            refine lv_istore_n (lv' := [(0, .int (((((kz t).toUInt32 >>> ((nI 16).toUInt32 &&& Int32.toUInt32 31)).toInt32).toUInt32 >>> ((nI 2).toUInt32 &&& Int32.toUInt32 31)).toInt32)), (1, .int (nI (1 + 16 + 2)))]) hx hb dJ6_numberOfTrailingZeros_0f7a4_73 rfl hl (by decide) rfl (fun ls hl => ?_)
            refine lv_iload_n hx hb dJ6_numberOfTrailingZeros_0f7a4_74 rfl (lv_at hl 1 rfl) ?_
            refine lv_iload_n hx hb dJ6_numberOfTrailingZeros_0f7a4_75 rfl (lv_at hl 0 rfl) ?_
            refine lv_iconst (v := nI 1) hx hb dJ6_numberOfTrailingZeros_0f7a4_76 (by decide) ?_
            refine lv_iushr (v := ((((((kz t).toUInt32 >>> ((nI 16).toUInt32 &&& Int32.toUInt32 31)).toInt32).toUInt32 >>> ((nI 2).toUInt32 &&& Int32.toUInt32 31)).toInt32).toUInt32 >>> ((nI 1).toUInt32 &&& Int32.toUInt32 31)).toInt32) hx hb dJ6_numberOfTrailingZeros_0f7a4_77 (rfl) ?_
            refine lv_iadd hx hb dJ6_numberOfTrailingZeros_0f7a4_78 ?_
            have hh : ∀ t, t < 33 → (0 < kz t ∧ ¬ kz t ≤ 65536 ∧ ((kz t).toUInt32 >>> ((nI 16).toUInt32 &&& Int32.toUInt32 31)).toInt32 ≤ nI 256 ∧ ((kz t).toUInt32 >>> ((nI 16).toUInt32 &&& Int32.toUInt32 31)).toInt32 ≤ nI 16 ∧ ¬ ((kz t).toUInt32 >>> ((nI 16).toUInt32 &&& Int32.toUInt32 31)).toInt32 ≤ nI 4) → (nI (1 + 16 + 2)) + (((((((kz t).toUInt32 >>> ((nI 16).toUInt32 &&& Int32.toUInt32 31)).toInt32).toUInt32 >>> ((nI 2).toUInt32 &&& Int32.toUInt32 31)).toInt32).toUInt32 >>> ((nI 1).toUInt32 &&& Int32.toUInt32 31)).toInt32) = nI t := by decide +kernel
            exact rd_i hx hb hr hlocks dJ6_numberOfTrailingZeros_0f7a4_79 (hh t ht ⟨c1, c2, c3, c4, c5⟩)
        · refine lv_iinc (v := nI (1 + 16 + 4)) (lv' := [(1, .int (nI (1 + 16 + 4))), (0, .int (((kz t).toUInt32 >>> ((nI 16).toUInt32 &&& Int32.toUInt32 31)).toInt32))]) hx hb dJ6_numberOfTrailingZeros_0f7a4_55 hl (k := 1) rfl (nI_add (1 + 16) 4) (by decide) rfl (fun ls hl => ?_)
          refine lv_iload_n hx hb dJ6_numberOfTrailingZeros_0f7a4_58 rfl (lv_at hl 1 rfl) ?_
          refine lv_iconst (v := nI 4) hx hb dJ6_numberOfTrailingZeros_0f7a4_59 (by decide) ?_
          refine lv_iushr (v := ((((kz t).toUInt32 >>> ((nI 16).toUInt32 &&& Int32.toUInt32 31)).toInt32).toUInt32 >>> ((nI 4).toUInt32 &&& Int32.toUInt32 31)).toInt32) hx hb dJ6_numberOfTrailingZeros_0f7a4_60 (rfl) ?_
          refine lv_istore_n (lv' := [(0, .int (((((kz t).toUInt32 >>> ((nI 16).toUInt32 &&& Int32.toUInt32 31)).toInt32).toUInt32 >>> ((nI 4).toUInt32 &&& Int32.toUInt32 31)).toInt32)), (1, .int (nI (1 + 16 + 4)))]) hx hb dJ6_numberOfTrailingZeros_0f7a4_61 rfl hl (by decide) rfl (fun ls hl => ?_)
          refine lv_iload_n hx hb dJ6_numberOfTrailingZeros_0f7a4_62 rfl (lv_at hl 0 rfl) ?_
          refine lv_iconst (v := nI 4) hx hb dJ6_numberOfTrailingZeros_0f7a4_63 (by decide) ?_
          refine lv_icmp_le (tgt := 74) hx hb dJ6_numberOfTrailingZeros_0f7a4_64 (by decide) (fun c5 => ?_) (fun c5 => ?_)
          · refine lv_iload_n hx hb dJ6_numberOfTrailingZeros_0f7a4_74 rfl (lv_at hl 1 rfl) ?_
            refine lv_iload_n hx hb dJ6_numberOfTrailingZeros_0f7a4_75 rfl (lv_at hl 0 rfl) ?_
            refine lv_iconst (v := nI 1) hx hb dJ6_numberOfTrailingZeros_0f7a4_76 (by decide) ?_
            refine lv_iushr (v := ((((((kz t).toUInt32 >>> ((nI 16).toUInt32 &&& Int32.toUInt32 31)).toInt32).toUInt32 >>> ((nI 4).toUInt32 &&& Int32.toUInt32 31)).toInt32).toUInt32 >>> ((nI 1).toUInt32 &&& Int32.toUInt32 31)).toInt32) hx hb dJ6_numberOfTrailingZeros_0f7a4_77 (rfl) ?_
            refine lv_iadd hx hb dJ6_numberOfTrailingZeros_0f7a4_78 ?_
            have hh : ∀ t, t < 33 → (0 < kz t ∧ ¬ kz t ≤ 65536 ∧ ((kz t).toUInt32 >>> ((nI 16).toUInt32 &&& Int32.toUInt32 31)).toInt32 ≤ nI 256 ∧ ¬ ((kz t).toUInt32 >>> ((nI 16).toUInt32 &&& Int32.toUInt32 31)).toInt32 ≤ nI 16 ∧ ((((kz t).toUInt32 >>> ((nI 16).toUInt32 &&& Int32.toUInt32 31)).toInt32).toUInt32 >>> ((nI 4).toUInt32 &&& Int32.toUInt32 31)).toInt32 ≤ nI 4) → (nI (1 + 16 + 4)) + (((((((kz t).toUInt32 >>> ((nI 16).toUInt32 &&& Int32.toUInt32 31)).toInt32).toUInt32 >>> ((nI 4).toUInt32 &&& Int32.toUInt32 31)).toInt32).toUInt32 >>> ((nI 1).toUInt32 &&& Int32.toUInt32 31)).toInt32) = nI t := by decide +kernel
            exact rd_i hx hb hr hlocks dJ6_numberOfTrailingZeros_0f7a4_79 (hh t ht ⟨c1, c2, c3, c4, c5⟩)
          · refine lv_iinc (v := nI (1 + 16 + 4 + 2)) (lv' := [(1, .int (nI (1 + 16 + 4 + 2))), (0, .int (((((kz t).toUInt32 >>> ((nI 16).toUInt32 &&& Int32.toUInt32 31)).toInt32).toUInt32 >>> ((nI 4).toUInt32 &&& Int32.toUInt32 31)).toInt32))]) hx hb dJ6_numberOfTrailingZeros_0f7a4_67 hl (k := 1) rfl (nI_add (1 + 16 + 4) 2) (by decide) rfl (fun ls hl => ?_)
            refine lv_iload_n hx hb dJ6_numberOfTrailingZeros_0f7a4_70 rfl (lv_at hl 1 rfl) ?_
            refine lv_iconst (v := nI 2) hx hb dJ6_numberOfTrailingZeros_0f7a4_71 (by decide) ?_
            refine lv_iushr (v := ((((((kz t).toUInt32 >>> ((nI 16).toUInt32 &&& Int32.toUInt32 31)).toInt32).toUInt32 >>> ((nI 4).toUInt32 &&& Int32.toUInt32 31)).toInt32).toUInt32 >>> ((nI 2).toUInt32 &&& Int32.toUInt32 31)).toInt32) hx hb dJ6_numberOfTrailingZeros_0f7a4_72 (rfl) ?_
            refine lv_istore_n (lv' := [(0, .int (((((((kz t).toUInt32 >>> ((nI 16).toUInt32 &&& Int32.toUInt32 31)).toInt32).toUInt32 >>> ((nI 4).toUInt32 &&& Int32.toUInt32 31)).toInt32).toUInt32 >>> ((nI 2).toUInt32 &&& Int32.toUInt32 31)).toInt32)), (1, .int (nI (1 + 16 + 4 + 2)))]) hx hb dJ6_numberOfTrailingZeros_0f7a4_73 rfl hl (by decide) rfl (fun ls hl => ?_)
            refine lv_iload_n hx hb dJ6_numberOfTrailingZeros_0f7a4_74 rfl (lv_at hl 1 rfl) ?_
            refine lv_iload_n hx hb dJ6_numberOfTrailingZeros_0f7a4_75 rfl (lv_at hl 0 rfl) ?_
            refine lv_iconst (v := nI 1) hx hb dJ6_numberOfTrailingZeros_0f7a4_76 (by decide) ?_
            refine lv_iushr (v := ((((((((kz t).toUInt32 >>> ((nI 16).toUInt32 &&& Int32.toUInt32 31)).toInt32).toUInt32 >>> ((nI 4).toUInt32 &&& Int32.toUInt32 31)).toInt32).toUInt32 >>> ((nI 2).toUInt32 &&& Int32.toUInt32 31)).toInt32).toUInt32 >>> ((nI 1).toUInt32 &&& Int32.toUInt32 31)).toInt32) hx hb dJ6_numberOfTrailingZeros_0f7a4_77 (rfl) ?_
            refine lv_iadd hx hb dJ6_numberOfTrailingZeros_0f7a4_78 ?_
            have hh : ∀ t, t < 33 → (0 < kz t ∧ ¬ kz t ≤ 65536 ∧ ((kz t).toUInt32 >>> ((nI 16).toUInt32 &&& Int32.toUInt32 31)).toInt32 ≤ nI 256 ∧ ¬ ((kz t).toUInt32 >>> ((nI 16).toUInt32 &&& Int32.toUInt32 31)).toInt32 ≤ nI 16 ∧ ¬ ((((kz t).toUInt32 >>> ((nI 16).toUInt32 &&& Int32.toUInt32 31)).toInt32).toUInt32 >>> ((nI 4).toUInt32 &&& Int32.toUInt32 31)).toInt32 ≤ nI 4) → (nI (1 + 16 + 4 + 2)) + (((((((((kz t).toUInt32 >>> ((nI 16).toUInt32 &&& Int32.toUInt32 31)).toInt32).toUInt32 >>> ((nI 4).toUInt32 &&& Int32.toUInt32 31)).toInt32).toUInt32 >>> ((nI 2).toUInt32 &&& Int32.toUInt32 31)).toInt32).toUInt32 >>> ((nI 1).toUInt32 &&& Int32.toUInt32 31)).toInt32) = nI t := by decide +kernel
            exact rd_i hx hb hr hlocks dJ6_numberOfTrailingZeros_0f7a4_79 (hh t ht ⟨c1, c2, c3, c4, c5⟩)
      · refine lv_iinc (v := nI (1 + 16 + 8)) (lv' := [(1, .int (nI (1 + 16 + 8))), (0, .int (((kz t).toUInt32 >>> ((nI 16).toUInt32 &&& Int32.toUInt32 31)).toInt32))]) hx hb dJ6_numberOfTrailingZeros_0f7a4_41 hl (k := 1) rfl (nI_add (1 + 16) 8) (by decide) rfl (fun ls hl => ?_)
        refine lv_iload_n hx hb dJ6_numberOfTrailingZeros_0f7a4_44 rfl (lv_at hl 1 rfl) ?_
        refine lv_bipush (v := nI 8) hx hb dJ6_numberOfTrailingZeros_0f7a4_45 (by decide) ?_
        refine lv_iushr (v := ((((kz t).toUInt32 >>> ((nI 16).toUInt32 &&& Int32.toUInt32 31)).toInt32).toUInt32 >>> ((nI 8).toUInt32 &&& Int32.toUInt32 31)).toInt32) hx hb dJ6_numberOfTrailingZeros_0f7a4_47 (rfl) ?_
        refine lv_istore_n (lv' := [(0, .int (((((kz t).toUInt32 >>> ((nI 16).toUInt32 &&& Int32.toUInt32 31)).toInt32).toUInt32 >>> ((nI 8).toUInt32 &&& Int32.toUInt32 31)).toInt32)), (1, .int (nI (1 + 16 + 8)))]) hx hb dJ6_numberOfTrailingZeros_0f7a4_48 rfl hl (by decide) rfl (fun ls hl => ?_)
        refine lv_iload_n hx hb dJ6_numberOfTrailingZeros_0f7a4_49 rfl (lv_at hl 0 rfl) ?_
        refine lv_bipush (v := nI 16) hx hb dJ6_numberOfTrailingZeros_0f7a4_50 (by decide) ?_
        refine lv_icmp_le (tgt := 62) hx hb dJ6_numberOfTrailingZeros_0f7a4_52 (by decide) (fun c4 => ?_) (fun c4 => ?_)
        · refine lv_iload_n hx hb dJ6_numberOfTrailingZeros_0f7a4_62 rfl (lv_at hl 0 rfl) ?_
          refine lv_iconst (v := nI 4) hx hb dJ6_numberOfTrailingZeros_0f7a4_63 (by decide) ?_
          refine lv_icmp_le (tgt := 74) hx hb dJ6_numberOfTrailingZeros_0f7a4_64 (by decide) (fun c5 => ?_) (fun c5 => ?_)
          · refine lv_iload_n hx hb dJ6_numberOfTrailingZeros_0f7a4_74 rfl (lv_at hl 1 rfl) ?_
            refine lv_iload_n hx hb dJ6_numberOfTrailingZeros_0f7a4_75 rfl (lv_at hl 0 rfl) ?_
            refine lv_iconst (v := nI 1) hx hb dJ6_numberOfTrailingZeros_0f7a4_76 (by decide) ?_
            refine lv_iushr (v := ((((((kz t).toUInt32 >>> ((nI 16).toUInt32 &&& Int32.toUInt32 31)).toInt32).toUInt32 >>> ((nI 8).toUInt32 &&& Int32.toUInt32 31)).toInt32).toUInt32 >>> ((nI 1).toUInt32 &&& Int32.toUInt32 31)).toInt32) hx hb dJ6_numberOfTrailingZeros_0f7a4_77 (rfl) ?_
            refine lv_iadd hx hb dJ6_numberOfTrailingZeros_0f7a4_78 ?_
            have hh : ∀ t, t < 33 → (0 < kz t ∧ ¬ kz t ≤ 65536 ∧ ¬ ((kz t).toUInt32 >>> ((nI 16).toUInt32 &&& Int32.toUInt32 31)).toInt32 ≤ nI 256 ∧ ((((kz t).toUInt32 >>> ((nI 16).toUInt32 &&& Int32.toUInt32 31)).toInt32).toUInt32 >>> ((nI 8).toUInt32 &&& Int32.toUInt32 31)).toInt32 ≤ nI 16 ∧ ((((kz t).toUInt32 >>> ((nI 16).toUInt32 &&& Int32.toUInt32 31)).toInt32).toUInt32 >>> ((nI 8).toUInt32 &&& Int32.toUInt32 31)).toInt32 ≤ nI 4) → (nI (1 + 16 + 8)) + (((((((kz t).toUInt32 >>> ((nI 16).toUInt32 &&& Int32.toUInt32 31)).toInt32).toUInt32 >>> ((nI 8).toUInt32 &&& Int32.toUInt32 31)).toInt32).toUInt32 >>> ((nI 1).toUInt32 &&& Int32.toUInt32 31)).toInt32) = nI t := by decide +kernel
            exact rd_i hx hb hr hlocks dJ6_numberOfTrailingZeros_0f7a4_79 (hh t ht ⟨c1, c2, c3, c4, c5⟩)
          · refine lv_iinc (v := nI (1 + 16 + 8 + 2)) (lv' := [(1, .int (nI (1 + 16 + 8 + 2))), (0, .int (((((kz t).toUInt32 >>> ((nI 16).toUInt32 &&& Int32.toUInt32 31)).toInt32).toUInt32 >>> ((nI 8).toUInt32 &&& Int32.toUInt32 31)).toInt32))]) hx hb dJ6_numberOfTrailingZeros_0f7a4_67 hl (k := 1) rfl (nI_add (1 + 16 + 8) 2) (by decide) rfl (fun ls hl => ?_)
            refine lv_iload_n hx hb dJ6_numberOfTrailingZeros_0f7a4_70 rfl (lv_at hl 1 rfl) ?_
            refine lv_iconst (v := nI 2) hx hb dJ6_numberOfTrailingZeros_0f7a4_71 (by decide) ?_
            refine lv_iushr (v := ((((((kz t).toUInt32 >>> ((nI 16).toUInt32 &&& Int32.toUInt32 31)).toInt32).toUInt32 >>> ((nI 8).toUInt32 &&& Int32.toUInt32 31)).toInt32).toUInt32 >>> ((nI 2).toUInt32 &&& Int32.toUInt32 31)).toInt32) hx hb dJ6_numberOfTrailingZeros_0f7a4_72 (rfl) ?_
            refine lv_istore_n (lv' := [(0, .int (((((((kz t).toUInt32 >>> ((nI 16).toUInt32 &&& Int32.toUInt32 31)).toInt32).toUInt32 >>> ((nI 8).toUInt32 &&& Int32.toUInt32 31)).toInt32).toUInt32 >>> ((nI 2).toUInt32 &&& Int32.toUInt32 31)).toInt32)), (1, .int (nI (1 + 16 + 8 + 2)))]) hx hb dJ6_numberOfTrailingZeros_0f7a4_73 rfl hl (by decide) rfl (fun ls hl => ?_)
            refine lv_iload_n hx hb dJ6_numberOfTrailingZeros_0f7a4_74 rfl (lv_at hl 1 rfl) ?_
            refine lv_iload_n hx hb dJ6_numberOfTrailingZeros_0f7a4_75 rfl (lv_at hl 0 rfl) ?_
            refine lv_iconst (v := nI 1) hx hb dJ6_numberOfTrailingZeros_0f7a4_76 (by decide) ?_
            refine lv_iushr (v := ((((((((kz t).toUInt32 >>> ((nI 16).toUInt32 &&& Int32.toUInt32 31)).toInt32).toUInt32 >>> ((nI 8).toUInt32 &&& Int32.toUInt32 31)).toInt32).toUInt32 >>> ((nI 2).toUInt32 &&& Int32.toUInt32 31)).toInt32).toUInt32 >>> ((nI 1).toUInt32 &&& Int32.toUInt32 31)).toInt32) hx hb dJ6_numberOfTrailingZeros_0f7a4_77 (rfl) ?_
            refine lv_iadd hx hb dJ6_numberOfTrailingZeros_0f7a4_78 ?_
            have hh : ∀ t, t < 33 → (0 < kz t ∧ ¬ kz t ≤ 65536 ∧ ¬ ((kz t).toUInt32 >>> ((nI 16).toUInt32 &&& Int32.toUInt32 31)).toInt32 ≤ nI 256 ∧ ((((kz t).toUInt32 >>> ((nI 16).toUInt32 &&& Int32.toUInt32 31)).toInt32).toUInt32 >>> ((nI 8).toUInt32 &&& Int32.toUInt32 31)).toInt32 ≤ nI 16 ∧ ¬ ((((kz t).toUInt32 >>> ((nI 16).toUInt32 &&& Int32.toUInt32 31)).toInt32).toUInt32 >>> ((nI 8).toUInt32 &&& Int32.toUInt32 31)).toInt32 ≤ nI 4) → (nI (1 + 16 + 8 + 2)) + (((((((((kz t).toUInt32 >>> ((nI 16).toUInt32 &&& Int32.toUInt32 31)).toInt32).toUInt32 >>> ((nI 8).toUInt32 &&& Int32.toUInt32 31)).toInt32).toUInt32 >>> ((nI 2).toUInt32 &&& Int32.toUInt32 31)).toInt32).toUInt32 >>> ((nI 1).toUInt32 &&& Int32.toUInt32 31)).toInt32) = nI t := by decide +kernel
            exact rd_i hx hb hr hlocks dJ6_numberOfTrailingZeros_0f7a4_79 (hh t ht ⟨c1, c2, c3, c4, c5⟩)
        · refine lv_iinc (v := nI (1 + 16 + 8 + 4)) (lv' := [(1, .int (nI (1 + 16 + 8 + 4))), (0, .int (((((kz t).toUInt32 >>> ((nI 16).toUInt32 &&& Int32.toUInt32 31)).toInt32).toUInt32 >>> ((nI 8).toUInt32 &&& Int32.toUInt32 31)).toInt32))]) hx hb dJ6_numberOfTrailingZeros_0f7a4_55 hl (k := 1) rfl (nI_add (1 + 16 + 8) 4) (by decide) rfl (fun ls hl => ?_)
          refine lv_iload_n hx hb dJ6_numberOfTrailingZeros_0f7a4_58 rfl (lv_at hl 1 rfl) ?_
          refine lv_iconst (v := nI 4) hx hb dJ6_numberOfTrailingZeros_0f7a4_59 (by decide) ?_
          refine lv_iushr (v := ((((((kz t).toUInt32 >>> ((nI 16).toUInt32 &&& Int32.toUInt32 31)).toInt32).toUInt32 >>> ((nI 8).toUInt32 &&& Int32.toUInt32 31)).toInt32).toUInt32 >>> ((nI 4).toUInt32 &&& Int32.toUInt32 31)).toInt32) hx hb dJ6_numberOfTrailingZeros_0f7a4_60 (rfl) ?_
          refine lv_istore_n (lv' := [(0, .int (((((((kz t).toUInt32 >>> ((nI 16).toUInt32 &&& Int32.toUInt32 31)).toInt32).toUInt32 >>> ((nI 8).toUInt32 &&& Int32.toUInt32 31)).toInt32).toUInt32 >>> ((nI 4).toUInt32 &&& Int32.toUInt32 31)).toInt32)), (1, .int (nI (1 + 16 + 8 + 4)))]) hx hb dJ6_numberOfTrailingZeros_0f7a4_61 rfl hl (by decide) rfl (fun ls hl => ?_)
          refine lv_iload_n hx hb dJ6_numberOfTrailingZeros_0f7a4_62 rfl (lv_at hl 0 rfl) ?_
          refine lv_iconst (v := nI 4) hx hb dJ6_numberOfTrailingZeros_0f7a4_63 (by decide) ?_
          refine lv_icmp_le (tgt := 74) hx hb dJ6_numberOfTrailingZeros_0f7a4_64 (by decide) (fun c5 => ?_) (fun c5 => ?_)
          · refine lv_iload_n hx hb dJ6_numberOfTrailingZeros_0f7a4_74 rfl (lv_at hl 1 rfl) ?_
            refine lv_iload_n hx hb dJ6_numberOfTrailingZeros_0f7a4_75 rfl (lv_at hl 0 rfl) ?_
            refine lv_iconst (v := nI 1) hx hb dJ6_numberOfTrailingZeros_0f7a4_76 (by decide) ?_
            refine lv_iushr (v := ((((((((kz t).toUInt32 >>> ((nI 16).toUInt32 &&& Int32.toUInt32 31)).toInt32).toUInt32 >>> ((nI 8).toUInt32 &&& Int32.toUInt32 31)).toInt32).toUInt32 >>> ((nI 4).toUInt32 &&& Int32.toUInt32 31)).toInt32).toUInt32 >>> ((nI 1).toUInt32 &&& Int32.toUInt32 31)).toInt32) hx hb dJ6_numberOfTrailingZeros_0f7a4_77 (rfl) ?_
            refine lv_iadd hx hb dJ6_numberOfTrailingZeros_0f7a4_78 ?_
            have hh : ∀ t, t < 33 → (0 < kz t ∧ ¬ kz t ≤ 65536 ∧ ¬ ((kz t).toUInt32 >>> ((nI 16).toUInt32 &&& Int32.toUInt32 31)).toInt32 ≤ nI 256 ∧ ¬ ((((kz t).toUInt32 >>> ((nI 16).toUInt32 &&& Int32.toUInt32 31)).toInt32).toUInt32 >>> ((nI 8).toUInt32 &&& Int32.toUInt32 31)).toInt32 ≤ nI 16 ∧ ((((((kz t).toUInt32 >>> ((nI 16).toUInt32 &&& Int32.toUInt32 31)).toInt32).toUInt32 >>> ((nI 8).toUInt32 &&& Int32.toUInt32 31)).toInt32).toUInt32 >>> ((nI 4).toUInt32 &&& Int32.toUInt32 31)).toInt32 ≤ nI 4) → (nI (1 + 16 + 8 + 4)) + (((((((((kz t).toUInt32 >>> ((nI 16).toUInt32 &&& Int32.toUInt32 31)).toInt32).toUInt32 >>> ((nI 8).toUInt32 &&& Int32.toUInt32 31)).toInt32).toUInt32 >>> ((nI 4).toUInt32 &&& Int32.toUInt32 31)).toInt32).toUInt32 >>> ((nI 1).toUInt32 &&& Int32.toUInt32 31)).toInt32) = nI t := by decide +kernel
            exact rd_i hx hb hr hlocks dJ6_numberOfTrailingZeros_0f7a4_79 (hh t ht ⟨c1, c2, c3, c4, c5⟩)
          · refine lv_iinc (v := nI (1 + 16 + 8 + 4 + 2)) (lv' := [(1, .int (nI (1 + 16 + 8 + 4 + 2))), (0, .int (((((((kz t).toUInt32 >>> ((nI 16).toUInt32 &&& Int32.toUInt32 31)).toInt32).toUInt32 >>> ((nI 8).toUInt32 &&& Int32.toUInt32 31)).toInt32).toUInt32 >>> ((nI 4).toUInt32 &&& Int32.toUInt32 31)).toInt32))]) hx hb dJ6_numberOfTrailingZeros_0f7a4_67 hl (k := 1) rfl (nI_add (1 + 16 + 8 + 4) 2) (by decide) rfl (fun ls hl => ?_)
            refine lv_iload_n hx hb dJ6_numberOfTrailingZeros_0f7a4_70 rfl (lv_at hl 1 rfl) ?_
            refine lv_iconst (v := nI 2) hx hb dJ6_numberOfTrailingZeros_0f7a4_71 (by decide) ?_
            refine lv_iushr (v := ((((((((kz t).toUInt32 >>> ((nI 16).toUInt32 &&& Int32.toUInt32 31)).toInt32).toUInt32 >>> ((nI 8).toUInt32 &&& Int32.toUInt32 31)).toInt32).toUInt32 >>> ((nI 4).toUInt32 &&& Int32.toUInt32 31)).toInt32).toUInt32 >>> ((nI 2).toUInt32 &&& Int32.toUInt32 31)).toInt32) hx hb dJ6_numberOfTrailingZeros_0f7a4_72 (rfl) ?_
            refine lv_istore_n (lv' := [(0, .int (((((((((kz t).toUInt32 >>> ((nI 16).toUInt32 &&& Int32.toUInt32 31)).toInt32).toUInt32 >>> ((nI 8).toUInt32 &&& Int32.toUInt32 31)).toInt32).toUInt32 >>> ((nI 4).toUInt32 &&& Int32.toUInt32 31)).toInt32).toUInt32 >>> ((nI 2).toUInt32 &&& Int32.toUInt32 31)).toInt32)), (1, .int (nI (1 + 16 + 8 + 4 + 2)))]) hx hb dJ6_numberOfTrailingZeros_0f7a4_73 rfl hl (by decide) rfl (fun ls hl => ?_)
            refine lv_iload_n hx hb dJ6_numberOfTrailingZeros_0f7a4_74 rfl (lv_at hl 1 rfl) ?_
            refine lv_iload_n hx hb dJ6_numberOfTrailingZeros_0f7a4_75 rfl (lv_at hl 0 rfl) ?_
            refine lv_iconst (v := nI 1) hx hb dJ6_numberOfTrailingZeros_0f7a4_76 (by decide) ?_
            refine lv_iushr (v := ((((((((((kz t).toUInt32 >>> ((nI 16).toUInt32 &&& Int32.toUInt32 31)).toInt32).toUInt32 >>> ((nI 8).toUInt32 &&& Int32.toUInt32 31)).toInt32).toUInt32 >>> ((nI 4).toUInt32 &&& Int32.toUInt32 31)).toInt32).toUInt32 >>> ((nI 2).toUInt32 &&& Int32.toUInt32 31)).toInt32).toUInt32 >>> ((nI 1).toUInt32 &&& Int32.toUInt32 31)).toInt32) hx hb dJ6_numberOfTrailingZeros_0f7a4_77 (rfl) ?_
            refine lv_iadd hx hb dJ6_numberOfTrailingZeros_0f7a4_78 ?_
            have hh : ∀ t, t < 33 → (0 < kz t ∧ ¬ kz t ≤ 65536 ∧ ¬ ((kz t).toUInt32 >>> ((nI 16).toUInt32 &&& Int32.toUInt32 31)).toInt32 ≤ nI 256 ∧ ¬ ((((kz t).toUInt32 >>> ((nI 16).toUInt32 &&& Int32.toUInt32 31)).toInt32).toUInt32 >>> ((nI 8).toUInt32 &&& Int32.toUInt32 31)).toInt32 ≤ nI 16 ∧ ¬ ((((((kz t).toUInt32 >>> ((nI 16).toUInt32 &&& Int32.toUInt32 31)).toInt32).toUInt32 >>> ((nI 8).toUInt32 &&& Int32.toUInt32 31)).toInt32).toUInt32 >>> ((nI 4).toUInt32 &&& Int32.toUInt32 31)).toInt32 ≤ nI 4) → (nI (1 + 16 + 8 + 4 + 2)) + (((((((((((kz t).toUInt32 >>> ((nI 16).toUInt32 &&& Int32.toUInt32 31)).toInt32).toUInt32 >>> ((nI 8).toUInt32 &&& Int32.toUInt32 31)).toInt32).toUInt32 >>> ((nI 4).toUInt32 &&& Int32.toUInt32 31)).toInt32).toUInt32 >>> ((nI 2).toUInt32 &&& Int32.toUInt32 31)).toInt32).toUInt32 >>> ((nI 1).toUInt32 &&& Int32.toUInt32 31)).toInt32) = nI t := by decide +kernel
            exact rd_i hx hb hr hlocks dJ6_numberOfTrailingZeros_0f7a4_79 (hh t ht ⟨c1, c2, c3, c4, c5⟩)
  · refine lv_iload_n hx hb dJ6_numberOfTrailingZeros_0f7a4_12 rfl (lv_at hl 0 rfl) ?_
    refine lv_bipush (v := nI 32) hx hb dJ6_numberOfTrailingZeros_0f7a4_13 (by decide) ?_
    refine lv_iand hx hb dJ6_numberOfTrailingZeros_0f7a4_15 ?_
    have hh : ∀ t, t < 33 → (¬ 0 < kz t) → (kz t) &&& (nI 32) = nI t := by decide +kernel
    exact rd_i hx hb hr hlocks dJ6_numberOfTrailingZeros_0f7a4_16 (hh t ht c1)
set_option maxHeartbeats 4000000 in
set_option maxRecDepth 100000 in
/-- Long.numberOfTrailingZeros -/
theorem c_J13_numberOfTrailingZeros_95d88 (l : Launch) (x : Int64) : Met l yJ13_numberOfTrailingZeros_95d88 wsJ13_numberOfTrailingZeros_95d88 { frames := 1, cells := 0, slots := 0, locals := 21 } (fun v _ => v = ([.long x] : List Value).toArray) (k2_QcV (.int (nI (tz x.toBitVec.getLsbD 64 0)))) 0 0 (fun _ => False) := by
  refine Met.ofW (cc := cJ13_numberOfTrailingZeros_95d88) (maxL := 3) (ret := (some .int)) (by decide) rfl ?_
  intro p e s m args below meth c s₁ B hml hv
  obtain rfl := hv
  have hx := B.exec
  have hb := B.bytes
  have hr := B.returns
  have hts := atoms_spec (ws := wsJ13_numberOfTrailingZeros_95d88) B.pre
  have hown : s.vm.findClass RJ13 = some m.cls := findClass_of_methodNamed B.named
  have hlocks := B.notSynchronized
  have hl := lv_entry ([.long x]) (n := 3) (Nat.le_of_ble_eq_true rfl)
  rw [lg_entry_eq]
  generalize (lg_sl ([.long x]) ++ List.replicate (3 - (lg_sl ([.long x])).length) Slot.unset).toArray = ls at hl ⊢
  have hl : lv_has ls 3 [(0, .long x)] := hl
  refine lv_lload_n hx hb dJ13_numberOfTrailingZeros_95d88_0 rfl (lv_at hl 0 rfl) ?_
  refine lv_l2i (v := x.toInt32) hx hb dJ13_numberOfTrailingZeros_95d88_1 (rfl) ?_
  refine lv_istore_n (lv' := [(2, .int x.toInt32), (0, .long x)]) hx hb dJ13_numberOfTrailingZeros_95d88_2 rfl hl (by decide) rfl (fun ls hl => ?_)
  refine lv_iload_n hx hb dJ13_numberOfTrailingZeros_95d88_3 rfl (lv_at hl 0 rfl) ?_
  refine lv_if_ne (tgt := 21) hx hb dJ13_numberOfTrailingZeros_95d88_4 (by decide) (fun c1 => ?_) (fun c1 => ?_)
  · refine lv_iload_n hx hb dJ13_numberOfTrailingZeros_95d88_21 rfl (lv_at hl 0 rfl) ?_
    refine rd_S (As := [.int x.toInt32]) (rest := []) ⟨hx, hb, hml, hown, hts⟩ (c_J6_numberOfTrailingZeros_0f7a4 l x.toInt32) (va_cwS 1 hts gJ13_numberOfTrailingZeros_95d88_J6_numberOfTrailingZeros_0f7a4 rfl rfl rfl (by decide +kernel) ⟨Nat.le_of_ble_eq_true rfl, Nat.le_of_ble_eq_true rfl⟩) (preEq) rfl hl.1 rfl (Nat.le_of_ble_eq_true rfl) dJ13_numberOfTrailingZeros_95d88_22 ⟨Nat.zero_le _, Nat.zero_le _⟩ ?_
    exact rd_i hx hb hr hlocks dJ13_numberOfTrailingZeros_95d88_25 (by rw [tz_lo x c1])
  · refine lv_bipush (v := nI 32) hx hb dJ13_numberOfTrailingZeros_95d88_7 (by decide) ?_
    refine lv_lload_n hx hb dJ13_numberOfTrailingZeros_95d88_9 rfl (lv_at hl 1 rfl) ?_
    refine lv_bipush (v := nI 32) hx hb dJ13_numberOfTrailingZeros_95d88_10 (by decide) ?_
    refine lv_lushr (v := (x.toUInt64 >>> ((nI 32).toInt64.toUInt64 &&& Int64.toUInt64 63)).toInt64) hx hb dJ13_numberOfTrailingZeros_95d88_12 (rfl) ?_
    refine lv_l2i (v := ((x.toUInt64 >>> ((nI 32).toInt64.toUInt64 &&& Int64.toUInt64 63)).toInt64).toInt32) hx hb dJ13_numberOfTrailingZeros_95d88_13 (rfl) ?_
    refine rd_S (As := [.int (((x.toUInt64 >>> ((nI 32).toInt64.toUInt64 &&& Int64.toUInt64 63)).toInt64).toInt32)]) (rest := [.int (nI 32)]) ⟨hx, hb, hml, hown, hts⟩ (c_J6_numberOfTrailingZeros_0f7a4 l (x.toUInt64 >>> ((nI 32).toInt64.toUInt64 &&& Int64.toUInt64 63)).toInt64.toInt32) (va_cwS 1 hts gJ13_numberOfTrailingZeros_95d88_J6_numberOfTrailingZeros_0f7a4 rfl rfl rfl (by decide +kernel) ⟨Nat.le_of_ble_eq_true rfl, Nat.le_of_ble_eq_true rfl⟩) (preEq) rfl hl.1 rfl (Nat.le_of_ble_eq_true rfl) dJ13_numberOfTrailingZeros_95d88_14 ⟨Nat.zero_le _, Nat.zero_le _⟩ ?_
    refine lv_iadd hx hb dJ13_numberOfTrailingZeros_95d88_17 ?_
    refine tp_i (show (nI 32) + (nI (tz (x.toUInt64 >>> ((nI 32).toInt64.toUInt64 &&& Int64.toUInt64 63)).toInt64.toInt32.toBitVec.getLsbD 32 0)) = nI (32 + (tz (x.toUInt64 >>> ((nI 32).toInt64.toUInt64 &&& Int64.toUInt64 63)).toInt64.toInt32.toBitVec.getLsbD 32 0)) from nI_add _ _) ?_
    refine lv_goto (tgt := 25) hx hb dJ13_numberOfTrailingZeros_95d88_18 (by decide) ?_
    exact rd_i hx hb hr hlocks dJ13_numberOfTrailingZeros_95d88_25 (by rw [tz_hi x c1])
variable (l : Launch) (D : va_G) (cI cJ : ClassId) (hn ow fi ma ro cnt len : Nat) (fo ff : Nat → Int32) (fk fr : Nat → Int64)
/-- from word i on, at most n words: the first place at which two literals differ; -1 where there is none -/
def ldF (fr : Nat → Int64) (la lb : Nat) : Nat → Nat → Int32
  | 0, _ => -1
  | n + 1, i => if wd fr la i ^^^ wd fr lb i = 0 then ldF fr la lb n (i + 1) else nI (i * 64 + tz (wd fr la i ^^^ wd fr lb i).toBitVec.getLsbD 64 0)
set_option maxHeartbeats 4000000 in
set_option maxRecDepth 100000 in
/-- the least place at which two literals differ, or -1 -/
theorem c_X1_leastDifference (la lb : Nat) (h1 : la / 2 * 64 + 63 < len) (h3 : lb / 2 * 64 + 63 < len) (h2 : len ≤ 25600) : Met l yX1_leastDifference wsX1_leastDifference { frames := 2, cells := 0, slots := 0, locals := 43 } (rd_P D [(cI, .int), (cJ, .long)] (nW hn ow fi ma ro cI cJ cnt len fo ff fk fr) [.ref hn, .int (nI la), .int (nI lb)]) (k2_QcV (.int (ldF fr la lb 64 0))) 0 0 (fun _ => False) := by
  refine Met.ofW (cc := cX1_leastDifference) (maxL := 6) (ret := (some .int)) (by decide) rfl ?_
  intro p e s m args below meth c s₁ B hml hv
  obtain ⟨rfl, hP, hK⟩ := hv
  have hx := B.exec
  have hb := B.bytes
  have hr := B.returns
  have hts := atoms_spec (ws := wsX1_leastDifference) B.pre
  have hown : s.vm.findClass RX1 = some m.cls := findClass_of_methodNamed B.named
  have hlocks := B.notSynchronized
  have hl := lv_entry ([.ref hn, .int (nI la), .int (nI lb)]) (n := 6) (Nat.le_of_ble_eq_true rfl)
  rw [lg_entry_eq]
  generalize (lg_sl ([.ref hn, .int (nI la), .int (nI lb)]) ++ List.replicate (6 - (lg_sl ([.ref hn, .int (nI la), .int (nI lb)])).length) Slot.unset).toArray = ls at hl ⊢
  have hl : lv_has ls 6 [(0, .ref hn), (1, .int (nI la)), (2, .int (nI lb))] := hl
  refine lv_iconst (v := nI 0) hx hb dX1_leastDifference_0 (by decide) ?_
  refine lv_istore_n (lv' := [(3, .int (nI 0)), (0, .ref hn), (1, .int (nI la)), (2, .int (nI lb))]) hx hb dX1_leastDifference_1 rfl hl (by decide) rfl (fun ls hl => ?_)
  have loop : ∀ (n : Nat) (i : Nat), i ≤ 64 → ldF fr la lb 64 0 = ldF fr la lb (64 - i) i → 64 - i < n → ∀ ls : Array Slot, lv_has ls 6 [(3, .int (nI i)), (0, .ref hn), (1, .int (nI la)), (2, .int (nI lb))] → W p l e (headSpec wsX1_leastDifference { frames := 2, cells := 0, slots := 0, locals := 43 }).room s m ([.ref hn, .int (nI la), .int (nI lb)] : List Value).toArray below meth c s.heap [] 0 0 (MQ below (k2_QcV (.int (ldF fr la lb 64 0))) ([.ref hn, .int (nI la), .int (nI lb)] : List Value).toArray s 0 0 (fun _ => False)) (F0 m 2 ls []) := by
    intro n
    induction n with
    | zero => intro i hi hR hM; exact absurd hM (Nat.not_lt_zero _)
    | succ n ih =>
      intro i hi hR hM ls hl
      refine lv_iload_n hx hb dX1_leastDifference_2 rfl (lv_at hl 0 rfl) ?_
      refine lv_bipush (v := nI 64) hx hb dX1_leastDifference_3 (by decide) ?_
      refine lv_icmp_ge (tgt := 47) hx hb dX1_leastDifference_5 (by decide) (fun c1 => ?_) (fun c1 => ?_)
      · have c1 : 64 ≤ i := (nI_leI (by omega) (by omega)).mp c1
        refine lv_iconst (v := -1) hx hb dX1_leastDifference_47 (by decide) ?_
        have hi2 : 64 - i = 0 := by omega
        exact rd_i hx hb hr hlocks dX1_leastDifference_48 (by rw [hR, hi2]; rfl)
      · have c1 : ¬ (64 ≤ i) := fun h => c1 ((nI_leI (by omega) (by omega)).mpr h)
        refine lv_aload_n hx hb dX1_leastDifference_8 rfl (lv_at hl 1 rfl) ?_
        refine lv_iload_n hx hb dX1_leastDifference_9 rfl (lv_at hl 2 rfl) ?_
        refine lv_iload_n hx hb dX1_leastDifference_10 rfl (lv_at hl 0 rfl) ?_
        refine rd_V (As := [.int (nI la), .int (nI i)]) (rest := []) ⟨hx, hb, hml, hown, hts⟩ (c_X1_wordOf l D cI cJ hn ow fi ma ro cnt len fo ff fk fr la i (by omega) h2) (cwV 2 hts gX1_leastDifference_X1_wordOf rfl rfl rfl (by decide +kernel) ⟨Nat.le_of_ble_eq_true rfl, Nat.le_of_ble_eq_true rfl⟩) (rd_pv (ci := 1) (q0 := 0) hK hP rfl rfl) rfl hl.1 rfl (Nat.le_of_ble_eq_true rfl) dX1_leastDifference_11 ⟨Nat.zero_le _, Nat.zero_le _⟩ ?_
        refine lv_aload_n hx hb dX1_leastDifference_14 rfl (lv_at hl 1 rfl) ?_
        refine lv_iload_n hx hb dX1_leastDifference_15 rfl (lv_at hl 3 rfl) ?_
        refine lv_iload_n hx hb dX1_leastDifference_16 rfl (lv_at hl 0 rfl) ?_
        refine rd_V (As := [.int (nI lb), .int (nI i)]) (rest := [.long (wd fr la i)]) ⟨hx, hb, hml, hown, hts⟩ (c_X1_wordOf l D cI cJ hn ow fi ma ro cnt len fo ff fk fr lb i (by omega) h2) (cwV 2 hts gX1_leastDifference_X1_wordOf rfl rfl rfl (by decide +kernel) ⟨Nat.le_of_ble_eq_true rfl, Nat.le_of_ble_eq_true rfl⟩) (rd_pv (ci := 1) (q0 := 0) hK hP rfl rfl) rfl hl.1 rfl (Nat.le_of_ble_eq_true rfl) dX1_leastDifference_17 ⟨Nat.zero_le _, Nat.zero_le _⟩ ?_
        refine lv_lxor hx hb dX1_leastDifference_20 ?_
        refine lv_lstore (lv' := [(4, .long ((wd fr la i) ^^^ (wd fr lb i))), (3, .int (nI i)), (0, .ref hn), (1, .int (nI la)), (2, .int (nI lb))]) hx hb dX1_leastDifference_21 hl (by decide) rfl (fun ls hl => ?_)
        refine lv_lload hx hb dX1_leastDifference_23 (lv_at hl 0 rfl) ?_
        refine lv_lconst (v := 0) hx hb dX1_leastDifference_25 (by decide) ?_
        obtain ⟨k, hk⟩ : ∃ k, 64 - i = k + 1 := ⟨63 - i, by omega⟩
        refine W.lcmp hx hb dX1_leastDifference_26 ?_
        refine lv_if_eq (tgt := 41) hx hb dX1_leastDifference_27 (by decide) (fun c2 => ?_) (fun c2 => ?_)
        · have c2 : (wd fr la i) ^^^ (wd fr lb i) = 0 := lg_cmp0.mp c2
          refine lv_iinc (v := nI (i + 1)) (lv' := [(3, .int (nI (i + 1))), (4, .long ((wd fr la i) ^^^ (wd fr lb i))), (0, .ref hn), (1, .int (nI la)), (2, .int (nI lb))]) hx hb dX1_leastDifference_41 hl (k := 1) rfl (nI_add i 1) (by decide) rfl (fun ls hl => ?_)
          refine lv_goto (tgt := 2) hx hb dX1_leastDifference_44 (by decide) ?_
          exact ih (i + 1) (by omega) (by rw [hR, hk, show 64 - (i + 1) = k by omega]; simp [ldF, c2]) (by omega) ls (lv_sub hl [0, 2, 3, 4] rfl)
        · have c2 : ¬ ((wd fr la i) ^^^ (wd fr lb i)) = 0 := fun h => c2 (lg_cmp0.mpr h)
          refine lv_iload_n hx hb dX1_leastDifference_30 rfl (lv_at hl 1 rfl) ?_
          refine lv_bipush (v := nI 64) hx hb dX1_leastDifference_31 (by decide) ?_
          refine lv_imul hx hb dX1_leastDifference_33 ?_
          refine tp_i (show (nI i) * (nI 64) = nI (i * 64) from pk_mul _ _) ?_
          refine lv_lload hx hb dX1_leastDifference_34 (lv_at hl 0 rfl) ?_
          refine rd_S (As := [.long ((wd fr la i) ^^^ (wd fr lb i))]) (rest := [.int (nI (i * 64))]) ⟨hx, hb, hml, hown, hts⟩ (c_J13_numberOfTrailingZeros_95d88 l (wd fr la i ^^^ wd fr lb i)) (va_cwS 1 hts gX1_leastDifference_J13_numberOfTrailingZeros_95d88 rfl rfl rfl (by decide +kernel) ⟨Nat.le_of_ble_eq_true rfl, Nat.le_of_ble_eq_true rfl⟩) (preEq) rfl hl.1 rfl (Nat.le_of_ble_eq_true rfl) dX1_leastDifference_36 ⟨Nat.zero_le _, Nat.zero_le _⟩ ?_
          refine lv_iadd hx hb dX1_leastDifference_39 ?_
          refine tp_i (show (nI (i * 64)) + (nI (tz (wd fr la i ^^^ wd fr lb i).toBitVec.getLsbD 64 0)) = nI (i * 64 + (tz (wd fr la i ^^^ wd fr lb i).toBitVec.getLsbD 64 0)) from nI_add _ _) ?_
          exact rd_i hx hb hr hlocks dX1_leastDifference_40 (by rw [hR, hk]; simp [ldF, c2])
  exact loop (64 - 0 + 1) 0 (by omega) (rfl) (by omega) ls (lv_sub hl [0, 1, 2, 3] rfl)
end RZ
