/-! findFirst. -/
theorem zI_xor (a b : Bool) : zI a ^^^ zI b = nI (a ^^ b).toNat := by cases a <;> cases b <;> decide
/-- the literal of node j that has the value of node nd's in assignment 0 -/
def cand (fr : Nat → Int64) (nd j : Nat) : Nat := 2 * j + (bt fr (2 * j) 0 ^^ bt fr (2 * nd) 0).toNat
theorem cand_half (fr : Nat → Int64) (nd j : Nat) : cand fr nd j / 2 = j := by
  unfold cand
  cases (bt fr (2 * j) 0 ^^ bt fr (2 * nd) 0) <;> simp <;> omega
/-- from node i on, at most n nodes: the first literal that is nowhere apart from node nd's; else that itself -/
def ffF (fr : Nat → Int64) (nd : Nat) : Nat → Nat → Int32
  | 0, _ => nI (2 * nd)
  | n + 1, i => if ldF fr (cand fr nd i) (2 * nd) 64 0 = -1 then nI (cand fr nd i) else ffF fr nd n (i + 1)
section RF
variable (l : Launch) (D : va_G) (cI cJ : ClassId) (hn ow fi ro cnt len : Nat) (fo ff : Nat → Int32) (fr : Nat → Int64)
set_option maxHeartbeats 4000000 in
set_option maxRecDepth 100000 in
/-- the least literal of a lesser node with the same words, or the node's own -/
theorem c_X1_findFirst (nd : Nat) (h0 : nd < 400) (h1 : nd * 64 + 63 < len) (h2 : len ≤ 25600) : Met l yX1_findFirst wsX1_findFirst { frames := 3, cells := 0, slots := 0, locals := 68 } (rd_P D [(cI, .int), (cJ, .long)] (nW hn ow fi ro cI cJ cnt len fo ff fr) [.ref hn, .int (nI nd)]) (k2_QcV (.int (ffF fr nd nd 0))) 0 0 (fun _ => False) := by
  refine Met.ofW (cc := cX1_findFirst) (maxL := 6) (ret := (some .int)) (by decide) rfl ?_
  intro p e s m args below meth c s₁ B hml hv
  obtain ⟨rfl, hP, hK⟩ := hv
  have hx := B.exec
  have hb := B.bytes
  have hr := B.returns
  have hts := atoms_spec (ws := wsX1_findFirst) B.pre
  have hown : s.vm.findClass RX1 = some m.cls := findClass_of_methodNamed B.named
  have hlocks := B.notSynchronized
  have hl := lv_entry ([.ref hn, .int (nI nd)]) (n := 6) (Nat.le_of_ble_eq_true rfl)
  rw [lg_entry_eq]
  generalize (lg_sl ([.ref hn, .int (nI nd)]) ++ List.replicate (6 - (lg_sl ([.ref hn, .int (nI nd)])).length) Slot.unset).toArray = ls at hl ⊢
  have hl : lv_has ls 6 [(0, .ref hn), (1, .int (nI nd))] := hl
  refine lv_iconst (v := nI 2) hx hb dX1_findFirst_0 (by decide) ?_
  refine lv_iload_n hx hb dX1_findFirst_1 rfl (lv_at hl 1 rfl) ?_
  refine lv_imul hx hb dX1_findFirst_2 ?_
  refine tp_i (show (nI 2) * (nI nd) = nI (2 * nd) from pk_mul _ _) ?_
  refine lv_istore_n (lv' := [(2, .int (nI (2 * nd))), (0, .ref hn), (1, .int (nI nd))]) hx hb dX1_findFirst_3 rfl hl (by decide) rfl (fun ls hl => ?_)
  refine lv_aload_n hx hb dX1_findFirst_4 rfl (lv_at hl 1 rfl) ?_
  refine lv_iload_n hx hb dX1_findFirst_5 rfl (lv_at hl 0 rfl) ?_
  refine lv_iconst (v := nI 0) hx hb dX1_findFirst_6 (by decide) ?_
  refine rd_V (As := [.int (nI (2 * nd)), .int (nI 0)]) (rest := []) ⟨hx, hb, hml, hown, hts⟩ (c_X1_valueIn l D cI cJ hn ow fi ro cnt len fo ff fr (2 * nd) (nI 0) 0 (by decide) (by omega) (by omega) h2) (cwV 2 hts gX1_findFirst_X1_valueIn rfl rfl rfl (by decide +kernel) ⟨Nat.le_of_ble_eq_true rfl, Nat.le_of_ble_eq_true rfl⟩) (rd_pv (ci := 1) (q0 := 0) hK hP rfl rfl) rfl hl.1 rfl (Nat.le_of_ble_eq_true rfl) dX1_findFirst_7 ⟨Nat.zero_le _, Nat.zero_le _⟩ ?_
  refine lv_istore_n (lv' := [(3, .int (zI (bt fr (2 * nd) 0))), (2, .int (nI (2 * nd))), (0, .ref hn), (1, .int (nI nd))]) hx hb dX1_findFirst_10 rfl hl (by decide) rfl (fun ls hl => ?_)
  refine lv_iconst (v := nI 0) hx hb dX1_findFirst_11 (by decide) ?_
  refine lv_istore (lv' := [(4, .int (nI 0)), (3, .int (zI (bt fr (2 * nd) 0))), (2, .int (nI (2 * nd))), (0, .ref hn), (1, .int (nI nd))]) hx hb dX1_findFirst_12 hl (by decide) rfl (fun ls hl => ?_)
  have loop : ∀ (n : Nat) (i : Nat), i ≤ nd → ffF fr nd nd 0 = ffF fr nd (nd - i) i → nd - i < n → ∀ ls : Array Slot, lv_has ls 6 [(4, .int (nI i)), (3, .int (zI (bt fr (2 * nd) 0))), (2, .int (nI (2 * nd))), (0, .ref hn), (1, .int (nI nd))] → W p l e (headSpec wsX1_findFirst { frames := 3, cells := 0, slots := 0, locals := 68 }).room s m ([.ref hn, .int (nI nd)] : List Value).toArray below meth c s.heap [] 0 0 (MQ below (k2_QcV (.int (ffF fr nd nd 0))) ([.ref hn, .int (nI nd)] : List Value).toArray s 0 0 (fun _ => False)) (F0 m 14 ls []) := by
    intro n
    induction n with
    | zero => intro i hi hR hM; exact absurd hM (Nat.not_lt_zero _)
    | succ n ih =>
      intro i hi hR hM ls hl
      refine lv_iload hx hb dX1_findFirst_14 (lv_at hl 0 rfl) ?_
      refine lv_iload_n hx hb dX1_findFirst_16 rfl (lv_at hl 4 rfl) ?_
      refine lv_icmp_ge (tgt := 58) hx hb dX1_findFirst_17 (by decide) (fun c1 => ?_) (fun c1 => ?_)
      · have c1 : nd ≤ i := (nI_leI (by omega) (by omega)).mp c1
        refine lv_iload_n hx hb dX1_findFirst_58 rfl (lv_at hl 2 rfl) ?_
        have hi2 : nd - i = 0 := by omega
        exact rd_i hx hb hr hlocks dX1_findFirst_59 (by rw [hR, hi2]; rfl)
      · have c1 : ¬ (nd ≤ i) := fun h => c1 ((nI_leI (by omega) (by omega)).mpr h)
        refine lv_iconst (v := nI 2) hx hb dX1_findFirst_20 (by decide) ?_
        refine lv_iload hx hb dX1_findFirst_21 (lv_at hl 0 rfl) ?_
        refine lv_imul hx hb dX1_findFirst_23 ?_
        refine tp_i (show (nI 2) * (nI i) = nI (2 * i) from pk_mul _ _) ?_
        refine lv_aload_n hx hb dX1_findFirst_24 rfl (lv_at hl 3 rfl) ?_
        refine lv_iconst (v := nI 2) hx hb dX1_findFirst_25 (by decide) ?_
        refine lv_iload hx hb dX1_findFirst_26 (lv_at hl 0 rfl) ?_
        refine lv_imul hx hb dX1_findFirst_28 ?_
        refine tp_i (show (nI 2) * (nI i) = nI (2 * i) from pk_mul _ _) ?_
        refine lv_iconst (v := nI 0) hx hb dX1_findFirst_29 (by decide) ?_
        refine rd_V (As := [.int (nI (2 * i)), .int (nI 0)]) (rest := [.int (nI (2 * i))]) ⟨hx, hb, hml, hown, hts⟩ (c_X1_valueIn l D cI cJ hn ow fi ro cnt len fo ff fr (2 * i) (nI 0) 0 (by decide) (by omega) (by omega) h2) (cwV 2 hts gX1_findFirst_X1_valueIn rfl rfl rfl (by decide +kernel) ⟨Nat.le_of_ble_eq_true rfl, Nat.le_of_ble_eq_true rfl⟩) (rd_pv (ci := 1) (q0 := 0) hK hP rfl rfl) rfl hl.1 rfl (Nat.le_of_ble_eq_true rfl) dX1_findFirst_30 ⟨Nat.zero_le _, Nat.zero_le _⟩ ?_
        have hch := cand_half fr nd i
        refine lv_iload_n hx hb dX1_findFirst_33 rfl (lv_at hl 1 rfl) ?_
        refine lv_ixor hx hb dX1_findFirst_34 ?_
        refine tp_i (show (zI (bt fr (2 * i) 0)) ^^^ (zI (bt fr (2 * nd) 0)) = nI ((bt fr (2 * i) 0 ^^ bt fr (2 * nd) 0).toNat) from zI_xor _ _) ?_
        refine lv_iadd hx hb dX1_findFirst_35 ?_
        refine tp_i (show (nI (2 * i)) + (nI ((bt fr (2 * i) 0 ^^ bt fr (2 * nd) 0).toNat)) = nI (cand fr nd i) from nI_add _ _) ?_
        refine lv_istore (lv' := [(5, .int (nI (cand fr nd i))), (4, .int (nI i)), (3, .int (zI (bt fr (2 * nd) 0))), (2, .int (nI (2 * nd))), (0, .ref hn), (1, .int (nI nd))]) hx hb dX1_findFirst_36 hl (by decide) rfl (fun ls hl => ?_)
        refine lv_aload_n hx hb dX1_findFirst_38 rfl (lv_at hl 4 rfl) ?_
        refine lv_iload hx hb dX1_findFirst_39 (lv_at hl 0 rfl) ?_
        refine lv_iload_n hx hb dX1_findFirst_41 rfl (lv_at hl 3 rfl) ?_
        refine rd_V (As := [.int (nI (cand fr nd i)), .int (nI (2 * nd))]) (rest := []) ⟨hx, hb, hml, hown, hts⟩ (c_X1_leastDifference l D cI cJ hn ow fi ro cnt len fo ff fr (cand fr nd i) (2 * nd) (by omega) (by omega) h2) (cwV 2 hts gX1_findFirst_X1_leastDifference rfl rfl rfl (by decide +kernel) ⟨Nat.le_of_ble_eq_true rfl, Nat.le_of_ble_eq_true rfl⟩) (rd_pv (ci := 1) (q0 := 0) hK hP rfl rfl) rfl hl.1 rfl (Nat.le_of_ble_eq_true rfl) dX1_findFirst_42 ⟨Nat.zero_le _, Nat.zero_le _⟩ ?_
        refine lv_iconst (v := -1) hx hb dX1_findFirst_45 (by decide) ?_
        obtain ⟨k, hk⟩ : ∃ k, nd - i = k + 1 := ⟨nd - i - 1, by omega⟩
        refine lv_icmp_ne (tgt := 52) hx hb dX1_findFirst_46 (by decide) (fun c2 => ?_) (fun c2 => ?_)
        · refine lv_iinc (v := nI (i + 1)) (lv' := [(4, .int (nI (i + 1))), (5, .int (nI (cand fr nd i))), (3, .int (zI (bt fr (2 * nd) 0))), (2, .int (nI (2 * nd))), (0, .ref hn), (1, .int (nI nd))]) hx hb dX1_findFirst_52 hl (k := 1) rfl (nI_add i 1) (by decide) rfl (fun ls hl => ?_)
          refine lv_goto (tgt := 14) hx hb dX1_findFirst_55 (by decide) ?_
          exact ih (i + 1) (by omega) (by rw [hR, hk, show nd - (i + 1) = k by omega]; simp [ffF, c2]) (by omega) ls (lv_sub hl [0, 2, 3, 4, 5] rfl)
        · refine lv_iload hx hb dX1_findFirst_49 (lv_at hl 0 rfl) ?_
          exact rd_i hx hb hr hlocks dX1_findFirst_51 (by rw [hR, hk]; simp [ffF, c2])
  exact loop (nd - 0 + 1) 0 (by omega) (rfl) (by omega) ls (lv_sub hl [0, 1, 2, 3, 4] rfl)
end RF
