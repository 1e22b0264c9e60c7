/-! The calls that catch, where the class returns. -/
section LC
variable (l : Launch) (D : va_G) (cI cJ : ClassId) (tp : Nat) (h hn ow fi ma ro ha oa na sa he ob nb sb : Nat) (ic lc stp : Nat) (ap : Int32) (cnt len : Nat) (fo ff : Nat → Int32) (fk fr : Nat → Int64) (oA cA rA tA : Nat) (gA nA : Nat → Nat) (sA : Nat → Int32) (oB cB rB tB : Nat) (gB nB : Nat → Nat) (sB : Nat → Int32) (oo : Nat) (fv : Nat → Int64)
set_option maxHeartbeats 4000000 in
set_option maxRecDepth 100000 in
/-- input, where the class returns -/
theorem wl_input {Su : Type} (vv : Su → Int32) (post : Su → Prop) (wn : Su → va_W) (mc ms : Nat) (rm : Room) (hrm : rm.cells = mc ∧ rm.slots = ms ∧ rm.frames ≤ 7 ∧ rm.locals ≤ 138) (hM : ∀ sz, Met l yX2_input wsX2_input rm (wr_P D [(cI, .int), (cJ, .long)] (xW h hn ow fi ma ro ha oa na sa he ob nb sb cI cJ ic lc stp ap cnt len fo ff fk fr oA cA rA tA gA nA sA oB cB rB tB gB nB sB) sz tp [.ref h]) (wx D [(cI, .int), (cJ, .long)] (va_A (xW h hn ow fi ma ro ha oa na sa he ob nb sb cI cJ ic lc stp ap cnt len fo ff fk fr oA cA rA tA gA nA sA oB cB rB tB gB nB sB) sz) (fun u => some (.int (vv u))) post wn) mc ms (va_A (xW h hn ow fi ma ro ha oa na sa he ob nb sb cI cJ ic lc stp ap cnt len fo ff fk fr oA cA rA tA gA nA sA oB cB rB tB gB nB sB) sz)) (sz : Nat) : Met l yL_input wsL_input { frames := 8, cells := mc, slots := ms, locals := 159 } (wl_P D [(cI, .int), (cJ, .long)] ((oo, .inl (cJ, 1, .inr (.inl fv))) :: xW h hn ow fi ma ro ha oa na sa he ob nb sb cI cJ ic lc stp ap cnt len fo ff fk fr oA cA rA tA gA nA sA oB cB rB tB gB nB sB) sz tp [.ref h, .ref oo]) (wx (Su := Su) D [(cI, .int), (cJ, .long)] (va_A ((oo, .inl (cJ, 1, .inr (.inl fv))) :: xW h hn ow fi ma ro ha oa na sa he ob nb sb cI cJ ic lc stp ap cnt len fo ff fk fr oA cA rA tA gA nA sA oB cB rB tB gB nB sB) sz) (fun _ => some (.int (nI 0))) (post) (fun u => (oo, .inl (cJ, 1, .inr (.inl (vp_updL fv 0 (vv u).toInt64)))) :: wn u)) mc ms (va_A ((oo, .inl (cJ, 1, .inr (.inl fv))) :: xW h hn ow fi ma ro ha oa na sa he ob nb sb cI cJ ic lc stp ap cnt len fo ff fk fr oA cA rA tA gA nA sA oB cB rB tB gB nB sB) sz) := by
  refine mt_ofWH (cc := cL_input) (maxL := 3) (ret := (some .int)) (hh := [(0, 8, 11, 13)]) (by decide) rfl ?_
  intro p e s m args below meth c s₁ B hml htb hv
  obtain ⟨rfl, hsz, ⟨hP, hK, hD0⟩, hE, hNC⟩ := hv
  have hx := B.exec
  have hb := B.bytes
  have hr := B.returns
  have hts := atoms_spec (ws := wsL_input) B.pre
  have hown : s.vm.findClass RL = some m.cls := findClass_of_methodNamed B.named
  have hlocks := B.notSynchronized
  subst hsz
  have hD := hD0.self (sz := s.heap.size)
  generalize hAe : va_A ((oo, .inl (cJ, 1, .inr (.inl fv))) :: xW h hn ow fi ma ro ha oa na sa he ob nb sb cI cJ ic lc stp ap cnt len fo ff fk fr oA cA rA tA gA nA sA oB cB rB tB gB nB sB) s.heap.size = A at hD hE ⊢
  have hA : ∀ q : Nat, s.heap.size ≤ q → A q := fun q h => by rw [← hAe]; exact Or.inr h
  have hS : va_S A s.heap s.heap [] := va_S.rf
  have hP : va_P D vwCl [(oo, .inl (cJ, 1, .inr (.inl fv))), (h, .inr (2, [.ref hn, .ref ha, .ref he, .int (nI ic), .int (nI lc), .int (nI stp), .int ap])), (hn, .inr (1, [.int (nI cnt), .ref ow, .ref fi, .ref ma, .ref ro])), (ow, .inl (cI, 400, .inl fo)), (fi, .inl (cI, 400, .inl ff)), (ma, .inl (cJ, 400, .inr (.inl fk))), (ro, .inl (cJ, len, .inr (.inl fr))), (ha, .inr (0, [.ref oa, .ref na, .ref sa, .int (nI oA), .int (nI cA), .int (nI rA), .int (nI tA)])), (oa, .inl (cI, 16, .inl (fun j => nI (gA j)))), (na, .inl (cI, 4, .inl (fun j => nI (nA j)))), (sa, .inl (cI, 16, .inl sA)), (he, .inr (0, [.ref ob, .ref nb, .ref sb, .int (nI oB), .int (nI cB), .int (nI rB), .int (nI tB)])), (ob, .inl (cI, 16, .inl (fun j => nI (gB j)))), (nb, .inl (cI, 4, .inl (fun j => nI (nB j)))), (sb, .inl (cI, 16, .inl sB))] s.heap := hP
  have hD : va_D A [(oo, .inl (cJ, 1, .inr (.inl fv))), (h, .inr (2, [.ref hn, .ref ha, .ref he, .int (nI ic), .int (nI lc), .int (nI stp), .int ap])), (hn, .inr (1, [.int (nI cnt), .ref ow, .ref fi, .ref ma, .ref ro])), (ow, .inl (cI, 400, .inl fo)), (fi, .inl (cI, 400, .inl ff)), (ma, .inl (cJ, 400, .inr (.inl fk))), (ro, .inl (cJ, len, .inr (.inl fr))), (ha, .inr (0, [.ref oa, .ref na, .ref sa, .int (nI oA), .int (nI cA), .int (nI rA), .int (nI tA)])), (oa, .inl (cI, 16, .inl (fun j => nI (gA j)))), (na, .inl (cI, 4, .inl (fun j => nI (nA j)))), (sa, .inl (cI, 16, .inl sA)), (he, .inr (0, [.ref ob, .ref nb, .ref sb, .int (nI oB), .int (nI cB), .int (nI rB), .int (nI tB)])), (ob, .inl (cI, 16, .inl (fun j => nI (gB j)))), (nb, .inl (cI, 4, .inl (fun j => nI (nB j)))), (sb, .inl (cI, 16, .inl sB))] := hD
  have hl := lv_entry ([.ref h, .ref oo]) (n := 3) (Nat.le_of_ble_eq_true rfl)
  rw [lg_entry_eq]
  generalize (lg_sl ([.ref h, .ref oo]) ++ List.replicate (3 - (lg_sl ([.ref h, .ref oo])).length) Slot.unset).toArray = ls at hl ⊢
  have hl : lv_has ls 3 [(0, .ref h), (1, .ref oo)] := hl
  obtain ⟨hrc, hrs, hr1, hr2⟩ := hrm
  refine lv_aload_n hx hb dL_input_0 rfl (lv_at hl 1 rfl) ?_
  refine lv_iconst (v := nI 0) hx hb dL_input_1 (by decide) ?_
  refine lv_aload_n hx hb dL_input_2 rfl (lv_at hl 0 rfl) ?_
  refine wr_V (As := []) (rest := [.int (nI 0), .ref oo]) (wc := [(h, .inr (2, [.ref hn, .ref ha, .ref he, .int (nI ic), .int (nI lc), .int (nI stp), .int ap])), (hn, .inr (1, [.int (nI cnt), .ref ow, .ref fi, .ref ma, .ref ro])), (ow, .inl (cI, 400, .inl fo)), (fi, .inl (cI, 400, .inl ff)), (ma, .inl (cJ, 400, .inr (.inl fk))), (ro, .inl (cJ, len, .inr (.inl fr))), (ha, .inr (0, [.ref oa, .ref na, .ref sa, .int (nI oA), .int (nI cA), .int (nI rA), .int (nI tA)])), (oa, .inl (cI, 16, .inl (fun j => nI (gA j)))), (na, .inl (cI, 4, .inl (fun j => nI (nA j)))), (sa, .inl (cI, 16, .inl sA)), (he, .inr (0, [.ref ob, .ref nb, .ref sb, .int (nI oB), .int (nI cB), .int (nI rB), .int (nI tB)])), (ob, .inl (cI, 16, .inl (fun j => nI (gB j)))), (nb, .inl (cI, 4, .inl (fun j => nI (nB j)))), (sb, .inl (cI, 16, .inl sB))]) (wr := [(oo, .inl (cJ, 1, .inr (.inl fv)))]) (ci := 2) (q0 := 1) ⟨hx, hb, hml, hown, hts⟩ (hM _) (cwV 0 hts gL_input_X2_input rfl hrc hrs (by decide +kernel) ⟨by show _ ≤ _; simp only [headSpec]; omega, by show _ ≤ _; simp only [headSpec]; omega⟩) rfl rfl rfl hl.1 rfl (Nat.le_of_ble_eq_true rfl) dL_input_3 ⟨by show _ ≤ _; simp only [headSpec]; omega, by show _ ≤ _; simp only [headSpec]; omega⟩ hK hP hD hS hA hE [1, 2, 3, 4, 5, 6, 7, 8, 9, 10, 11, 12, 13, 14] [0] rfl rfl (by decide) (by decide) (by decide) (fun u H locs hu hP hD hS => ?_)
  have hP : va_P D vwCl ((oo, .inl (cJ, 1, .inr (.inl fv))) :: wn u) H := hP
  have hD : va_D A ((oo, .inl (cJ, 1, .inr (.inl fv))) :: wn u) := hD
  refine W.widen (k := mc) (n := ms) (by omega) (by omega) ?_
  refine W.eq (g2 := F0 m 6 ls [.int (vv u), .int (nI 0), .ref oo]) rfl ?_
  refine lv_i2l (v := (vv u).toInt64) hx hb dL_input_6 (rfl) ?_
  refine va_last hx hb hK hP hD hS 0 1 rfl rfl (vp_in_nI (by omega) (by omega)) dL_input_7 (fun H locs hP hD hS => ?_)
  have hP : va_P D vwCl ((oo, .inl (cJ, 1, .inr (.inl (vp_updL fv (nI 0).toNatClampNeg ((vv u).toInt64))))) :: wn u) H := hP
  have hD : va_D A ((oo, .inl (cJ, 1, .inr (.inl (vp_updL fv (nI 0).toNatClampNeg ((vv u).toInt64))))) :: wn u) := hD
  rw [show vp_updL fv (nI 0).toNatClampNeg ((vv u).toInt64) = vp_updL fv 0 (vv u).toInt64 from upL _ (by omega)] at hP hD
  refine lv_goto (tgt := 14) hx hb dL_input_8 (by decide) ?_
  refine lv_iconst (v := nI 0) hx hb dL_input_14 (by decide) ?_
  exact wr_i u hx hb hr hlocks hP hD hS dL_input_15 rfl hu
set_option maxHeartbeats 4000000 in
set_option maxRecDepth 100000 in
/-- latch, where the class returns -/
theorem wl_latch {Su : Type} (vv : Su → Int32) (post : Su → Prop) (wn : Su → va_W) (mc ms : Nat) (rm : Room) (x y : Int32) (hrm : rm.cells = mc ∧ rm.slots = ms ∧ rm.frames ≤ 7 ∧ rm.locals ≤ 138) (hM : ∀ sz, Met l yX2_latch wsX2_latch rm (wr_P D [(cI, .int), (cJ, .long)] (xW h hn ow fi ma ro ha oa na sa he ob nb sb cI cJ ic lc stp ap cnt len fo ff fk fr oA cA rA tA gA nA sA oB cB rB tB gB nB sB) sz tp [.ref h, .int x, .int y]) (wx D [(cI, .int), (cJ, .long)] (va_A (xW h hn ow fi ma ro ha oa na sa he ob nb sb cI cJ ic lc stp ap cnt len fo ff fk fr oA cA rA tA gA nA sA oB cB rB tB gB nB sB) sz) (fun u => some (.int (vv u))) post wn) mc ms (va_A (xW h hn ow fi ma ro ha oa na sa he ob nb sb cI cJ ic lc stp ap cnt len fo ff fk fr oA cA rA tA gA nA sA oB cB rB tB gB nB sB) sz)) (sz : Nat) : Met l yL_latch wsL_latch { frames := 8, cells := mc, slots := ms, locals := 161 } (wl_P D [(cI, .int), (cJ, .long)] ((oo, .inl (cJ, 1, .inr (.inl fv))) :: xW h hn ow fi ma ro ha oa na sa he ob nb sb cI cJ ic lc stp ap cnt len fo ff fk fr oA cA rA tA gA nA sA oB cB rB tB gB nB sB) sz tp [.ref h, .int x, .int y, .ref oo]) (wx (Su := Su) D [(cI, .int), (cJ, .long)] (va_A ((oo, .inl (cJ, 1, .inr (.inl fv))) :: xW h hn ow fi ma ro ha oa na sa he ob nb sb cI cJ ic lc stp ap cnt len fo ff fk fr oA cA rA tA gA nA sA oB cB rB tB gB nB sB) sz) (fun _ => some (.int (nI 0))) (post) (fun u => (oo, .inl (cJ, 1, .inr (.inl (vp_updL fv 0 (vv u).toInt64)))) :: wn u)) mc ms (va_A ((oo, .inl (cJ, 1, .inr (.inl fv))) :: xW h hn ow fi ma ro ha oa na sa he ob nb sb cI cJ ic lc stp ap cnt len fo ff fk fr oA cA rA tA gA nA sA oB cB rB tB gB nB sB) sz) := by
  refine mt_ofWH (cc := cL_latch) (maxL := 5) (ret := (some .int)) (hh := [(0, 10, 13, 13), (0, 10, 17, 19)]) (by decide) rfl ?_
  intro p e s m args below meth c s₁ B hml htb hv
  obtain ⟨rfl, hsz, ⟨hP, hK, hD0⟩, hE, hNC⟩ := hv
  have hx := B.exec
  have hb := B.bytes
  have hr := B.returns
  have hts := atoms_spec (ws := wsL_latch) B.pre
  have hown : s.vm.findClass RL = some m.cls := findClass_of_methodNamed B.named
  have hlocks := B.notSynchronized
  subst hsz
  have hD := hD0.self (sz := s.heap.size)
  generalize hAe : va_A ((oo, .inl (cJ, 1, .inr (.inl fv))) :: xW h hn ow fi ma ro ha oa na sa he ob nb sb cI cJ ic lc stp ap cnt len fo ff fk fr oA cA rA tA gA nA sA oB cB rB tB gB nB sB) s.heap.size = A at hD hE ⊢
  have hA : ∀ q : Nat, s.heap.size ≤ q → A q := fun q h => by rw [← hAe]; exact Or.inr h
  have hS : va_S A s.heap s.heap [] := va_S.rf
  have hP : va_P D vwCl [(oo, .inl (cJ, 1, .inr (.inl fv))), (h, .inr (2, [.ref hn, .ref ha, .ref he, .int (nI ic), .int (nI lc), .int (nI stp), .int ap])), (hn, .inr (1, [.int (nI cnt), .ref ow, .ref fi, .ref ma, .ref ro])), (ow, .inl (cI, 400, .inl fo)), (fi, .inl (cI, 400, .inl ff)), (ma, .inl (cJ, 400, .inr (.inl fk))), (ro, .inl (cJ, len, .inr (.inl fr))), (ha, .inr (0, [.ref oa, .ref na, .ref sa, .int (nI oA), .int (nI cA), .int (nI rA), .int (nI tA)])), (oa, .inl (cI, 16, .inl (fun j => nI (gA j)))), (na, .inl (cI, 4, .inl (fun j => nI (nA j)))), (sa, .inl (cI, 16, .inl sA)), (he, .inr (0, [.ref ob, .ref nb, .ref sb, .int (nI oB), .int (nI cB), .int (nI rB), .int (nI tB)])), (ob, .inl (cI, 16, .inl (fun j => nI (gB j)))), (nb, .inl (cI, 4, .inl (fun j => nI (nB j)))), (sb, .inl (cI, 16, .inl sB))] s.heap := hP
  have hD : va_D A [(oo, .inl (cJ, 1, .inr (.inl fv))), (h, .inr (2, [.ref hn, .ref ha, .ref he, .int (nI ic), .int (nI lc), .int (nI stp), .int ap])), (hn, .inr (1, [.int (nI cnt), .ref ow, .ref fi, .ref ma, .ref ro])), (ow, .inl (cI, 400, .inl fo)), (fi, .inl (cI, 400, .inl ff)), (ma, .inl (cJ, 400, .inr (.inl fk))), (ro, .inl (cJ, len, .inr (.inl fr))), (ha, .inr (0, [.ref oa, .ref na, .ref sa, .int (nI oA), .int (nI cA), .int (nI rA), .int (nI tA)])), (oa, .inl (cI, 16, .inl (fun j => nI (gA j)))), (na, .inl (cI, 4, .inl (fun j => nI (nA j)))), (sa, .inl (cI, 16, .inl sA)), (he, .inr (0, [.ref ob, .ref nb, .ref sb, .int (nI oB), .int (nI cB), .int (nI rB), .int (nI tB)])), (ob, .inl (cI, 16, .inl (fun j => nI (gB j)))), (nb, .inl (cI, 4, .inl (fun j => nI (nB j)))), (sb, .inl (cI, 16, .inl sB))] := hD
  have hl := lv_entry ([.ref h, .int x, .int y, .ref oo]) (n := 5) (Nat.le_of_ble_eq_true rfl)
  rw [lg_entry_eq]
  generalize (lg_sl ([.ref h, .int x, .int y, .ref oo]) ++ List.replicate (5 - (lg_sl ([.ref h, .int x, .int y, .ref oo])).length) Slot.unset).toArray = ls at hl ⊢
  have hl : lv_has ls 5 [(0, .ref h), (1, .int x), (2, .int y), (3, .ref oo)] := hl
  obtain ⟨hrc, hrs, hr1, hr2⟩ := hrm
  refine lv_aload_n hx hb dL_latch_0 rfl (lv_at hl 3 rfl) ?_
  refine lv_iconst (v := nI 0) hx hb dL_latch_1 (by decide) ?_
  refine lv_aload_n hx hb dL_latch_2 rfl (lv_at hl 0 rfl) ?_
  refine lv_iload_n hx hb dL_latch_3 rfl (lv_at hl 1 rfl) ?_
  refine lv_iload_n hx hb dL_latch_4 rfl (lv_at hl 2 rfl) ?_
  refine wr_V (As := [.int x, .int y]) (rest := [.int (nI 0), .ref oo]) (wc := [(h, .inr (2, [.ref hn, .ref ha, .ref he, .int (nI ic), .int (nI lc), .int (nI stp), .int ap])), (hn, .inr (1, [.int (nI cnt), .ref ow, .ref fi, .ref ma, .ref ro])), (ow, .inl (cI, 400, .inl fo)), (fi, .inl (cI, 400, .inl ff)), (ma, .inl (cJ, 400, .inr (.inl fk))), (ro, .inl (cJ, len, .inr (.inl fr))), (ha, .inr (0, [.ref oa, .ref na, .ref sa, .int (nI oA), .int (nI cA), .int (nI rA), .int (nI tA)])), (oa, .inl (cI, 16, .inl (fun j => nI (gA j)))), (na, .inl (cI, 4, .inl (fun j => nI (nA j)))), (sa, .inl (cI, 16, .inl sA)), (he, .inr (0, [.ref ob, .ref nb, .ref sb, .int (nI oB), .int (nI cB), .int (nI rB), .int (nI tB)])), (ob, .inl (cI, 16, .inl (fun j => nI (gB j)))), (nb, .inl (cI, 4, .inl (fun j => nI (nB j)))), (sb, .inl (cI, 16, .inl sB))]) (wr := [(oo, .inl (cJ, 1, .inr (.inl fv)))]) (ci := 2) (q0 := 1) ⟨hx, hb, hml, hown, hts⟩ (hM _) (cwV 2 hts gL_latch_X2_latch rfl hrc hrs (by decide +kernel) ⟨by show _ ≤ _; simp only [headSpec]; omega, by show _ ≤ _; simp only [headSpec]; omega⟩) rfl rfl rfl hl.1 rfl (Nat.le_of_ble_eq_true rfl) dL_latch_5 ⟨by show _ ≤ _; simp only [headSpec]; omega, by show _ ≤ _; simp only [headSpec]; omega⟩ hK hP hD hS hA hE [1, 2, 3, 4, 5, 6, 7, 8, 9, 10, 11, 12, 13, 14] [0] rfl rfl (by decide) (by decide) (by decide) (fun u H locs hu hP hD hS => ?_)
  have hP : va_P D vwCl ((oo, .inl (cJ, 1, .inr (.inl fv))) :: wn u) H := hP
  have hD : va_D A ((oo, .inl (cJ, 1, .inr (.inl fv))) :: wn u) := hD
  refine W.widen (k := mc) (n := ms) (by omega) (by omega) ?_
  refine W.eq (g2 := F0 m 8 ls [.int (vv u), .int (nI 0), .ref oo]) rfl ?_
  refine lv_i2l (v := (vv u).toInt64) hx hb dL_latch_8 (rfl) ?_
  refine va_last hx hb hK hP hD hS 0 1 rfl rfl (vp_in_nI (by omega) (by omega)) dL_latch_9 (fun H locs hP hD hS => ?_)
  have hP : va_P D vwCl ((oo, .inl (cJ, 1, .inr (.inl (vp_updL fv (nI 0).toNatClampNeg ((vv u).toInt64))))) :: wn u) H := hP
  have hD : va_D A ((oo, .inl (cJ, 1, .inr (.inl (vp_updL fv (nI 0).toNatClampNeg ((vv u).toInt64))))) :: wn u) := hD
  rw [show vp_updL fv (nI 0).toNatClampNeg ((vv u).toInt64) = vp_updL fv 0 (vv u).toInt64 from upL _ (by omega)] at hP hD
  refine lv_goto (tgt := 21) hx hb dL_latch_10 (by decide) ?_
  refine lv_iconst (v := nI 0) hx hb dL_latch_21 (by decide) ?_
  exact wr_i u hx hb hr hlocks hP hD hS dL_latch_22 rfl hu
set_option maxHeartbeats 4000000 in
set_option maxRecDepth 100000 in
/-- and, where the class returns -/
theorem wl_and {Su : Type} (vv : Su → Int32) (post : Su → Prop) (wn : Su → va_W) (mc ms : Nat) (rm : Room) (x y z : Int32) (hrm : rm.cells = mc ∧ rm.slots = ms ∧ rm.frames ≤ 7 ∧ rm.locals ≤ 140) (hM : ∀ sz, Met l yX2_and wsX2_and rm (wr_P D [(cI, .int), (cJ, .long)] (xW h hn ow fi ma ro ha oa na sa he ob nb sb cI cJ ic lc stp ap cnt len fo ff fk fr oA cA rA tA gA nA sA oB cB rB tB gB nB sB) sz tp [.ref h, .int x, .int y, .int z]) (wx D [(cI, .int), (cJ, .long)] (va_A (xW h hn ow fi ma ro ha oa na sa he ob nb sb cI cJ ic lc stp ap cnt len fo ff fk fr oA cA rA tA gA nA sA oB cB rB tB gB nB sB) sz) (fun u => some (.int (vv u))) post wn) mc ms (va_A (xW h hn ow fi ma ro ha oa na sa he ob nb sb cI cJ ic lc stp ap cnt len fo ff fk fr oA cA rA tA gA nA sA oB cB rB tB gB nB sB) sz)) (sz : Nat) : Met l yL_and wsL_and { frames := 8, cells := mc, slots := ms, locals := 163 } (wl_P D [(cI, .int), (cJ, .long)] ((oo, .inl (cJ, 1, .inr (.inl fv))) :: xW h hn ow fi ma ro ha oa na sa he ob nb sb cI cJ ic lc stp ap cnt len fo ff fk fr oA cA rA tA gA nA sA oB cB rB tB gB nB sB) sz tp [.ref h, .int x, .int y, .int z, .ref oo]) (wx (Su := Su) D [(cI, .int), (cJ, .long)] (va_A ((oo, .inl (cJ, 1, .inr (.inl fv))) :: xW h hn ow fi ma ro ha oa na sa he ob nb sb cI cJ ic lc stp ap cnt len fo ff fk fr oA cA rA tA gA nA sA oB cB rB tB gB nB sB) sz) (fun _ => some (.int (nI 0))) (post) (fun u => (oo, .inl (cJ, 1, .inr (.inl (vp_updL fv 0 (vv u).toInt64)))) :: wn u)) mc ms (va_A ((oo, .inl (cJ, 1, .inr (.inl fv))) :: xW h hn ow fi ma ro ha oa na sa he ob nb sb cI cJ ic lc stp ap cnt len fo ff fk fr oA cA rA tA gA nA sA oB cB rB tB gB nB sB) sz) := by
  refine mt_ofWH (cc := cL_and) (maxL := 6) (ret := (some .int)) (hh := [(0, 12, 15, 25), (0, 12, 19, 13), (0, 12, 23, 19)]) (by decide) rfl ?_
  intro p e s m args below meth c s₁ B hml htb hv
  obtain ⟨rfl, hsz, ⟨hP, hK, hD0⟩, hE, hNC⟩ := hv
  have hx := B.exec
  have hb := B.bytes
  have hr := B.returns
  have hts := atoms_spec (ws := wsL_and) B.pre
  have hown : s.vm.findClass RL = some m.cls := findClass_of_methodNamed B.named
  have hlocks := B.notSynchronized
  subst hsz
  have hD := hD0.self (sz := s.heap.size)
  generalize hAe : va_A ((oo, .inl (cJ, 1, .inr (.inl fv))) :: xW h hn ow fi ma ro ha oa na sa he ob nb sb cI cJ ic lc stp ap cnt len fo ff fk fr oA cA rA tA gA nA sA oB cB rB tB gB nB sB) s.heap.size = A at hD hE ⊢
  have hA : ∀ q : Nat, s.heap.size ≤ q → A q := fun q h => by rw [← hAe]; exact Or.inr h
  have hS : va_S A s.heap s.heap [] := va_S.rf
  have hP : va_P D vwCl [(oo, .inl (cJ, 1, .inr (.inl fv))), (h, .inr (2, [.ref hn, .ref ha, .ref he, .int (nI ic), .int (nI lc), .int (nI stp), .int ap])), (hn, .inr (1, [.int (nI cnt), .ref ow, .ref fi, .ref ma, .ref ro])), (ow, .inl (cI, 400, .inl fo)), (fi, .inl (cI, 400, .inl ff)), (ma, .inl (cJ, 400, .inr (.inl fk))), (ro, .inl (cJ, len, .inr (.inl fr))), (ha, .inr (0, [.ref oa, .ref na, .ref sa, .int (nI oA), .int (nI cA), .int (nI rA), .int (nI tA)])), (oa, .inl (cI, 16, .inl (fun j => nI (gA j)))), (na, .inl (cI, 4, .inl (fun j => nI (nA j)))), (sa, .inl (cI, 16, .inl sA)), (he, .inr (0, [.ref ob, .ref nb, .ref sb, .int (nI oB), .int (nI cB), .int (nI rB), .int (nI tB)])), (ob, .inl (cI, 16, .inl (fun j => nI (gB j)))), (nb, .inl (cI, 4, .inl (fun j => nI (nB j)))), (sb, .inl (cI, 16, .inl sB))] s.heap := hP
  have hD : va_D A [(oo, .inl (cJ, 1, .inr (.inl fv))), (h, .inr (2, [.ref hn, .ref ha, .ref he, .int (nI ic), .int (nI lc), .int (nI stp), .int ap])), (hn, .inr (1, [.int (nI cnt), .ref ow, .ref fi, .ref ma, .ref ro])), (ow, .inl (cI, 400, .inl fo)), (fi, .inl (cI, 400, .inl ff)), (ma, .inl (cJ, 400, .inr (.inl fk))), (ro, .inl (cJ, len, .inr (.inl fr))), (ha, .inr (0, [.ref oa, .ref na, .ref sa, .int (nI oA), .int (nI cA), .int (nI rA), .int (nI tA)])), (oa, .inl (cI, 16, .inl (fun j => nI (gA j)))), (na, .inl (cI, 4, .inl (fun j => nI (nA j)))), (sa, .inl (cI, 16, .inl sA)), (he, .inr (0, [.ref ob, .ref nb, .ref sb, .int (nI oB), .int (nI cB), .int (nI rB), .int (nI tB)])), (ob, .inl (cI, 16, .inl (fun j => nI (gB j)))), (nb, .inl (cI, 4, .inl (fun j => nI (nB j)))), (sb, .inl (cI, 16, .inl sB))] := hD
  have hl := lv_entry ([.ref h, .int x, .int y, .int z, .ref oo]) (n := 6) (Nat.le_of_ble_eq_true rfl)
  rw [lg_entry_eq]
  generalize (lg_sl ([.ref h, .int x, .int y, .int z, .ref oo]) ++ List.replicate (6 - (lg_sl ([.ref h, .int x, .int y, .int z, .ref oo])).length) Slot.unset).toArray = ls at hl ⊢
  have hl : lv_has ls 6 [(0, .ref h), (1, .int x), (2, .int y), (3, .int z), (4, .ref oo)] := hl
  obtain ⟨hrc, hrs, hr1, hr2⟩ := hrm
  refine lv_aload hx hb dL_and_0 (lv_at hl 4 rfl) ?_
  refine lv_iconst (v := nI 0) hx hb dL_and_2 (by decide) ?_
  refine lv_aload_n hx hb dL_and_3 rfl (lv_at hl 0 rfl) ?_
  refine lv_iload_n hx hb dL_and_4 rfl (lv_at hl 1 rfl) ?_
  refine lv_iload_n hx hb dL_and_5 rfl (lv_at hl 2 rfl) ?_
  refine lv_iload_n hx hb dL_and_6 rfl (lv_at hl 3 rfl) ?_
  refine wr_V (As := [.int x, .int y, .int z]) (rest := [.int (nI 0), .ref oo]) (wc := [(h, .inr (2, [.ref hn, .ref ha, .ref he, .int (nI ic), .int (nI lc), .int (nI stp), .int ap])), (hn, .inr (1, [.int (nI cnt), .ref ow, .ref fi, .ref ma, .ref ro])), (ow, .inl (cI, 400, .inl fo)), (fi, .inl (cI, 400, .inl ff)), (ma, .inl (cJ, 400, .inr (.inl fk))), (ro, .inl (cJ, len, .inr (.inl fr))), (ha, .inr (0, [.ref oa, .ref na, .ref sa, .int (nI oA), .int (nI cA), .int (nI rA), .int (nI tA)])), (oa, .inl (cI, 16, .inl (fun j => nI (gA j)))), (na, .inl (cI, 4, .inl (fun j => nI (nA j)))), (sa, .inl (cI, 16, .inl sA)), (he, .inr (0, [.ref ob, .ref nb, .ref sb, .int (nI oB), .int (nI cB), .int (nI rB), .int (nI tB)])), (ob, .inl (cI, 16, .inl (fun j => nI (gB j)))), (nb, .inl (cI, 4, .inl (fun j => nI (nB j)))), (sb, .inl (cI, 16, .inl sB))]) (wr := [(oo, .inl (cJ, 1, .inr (.inl fv)))]) (ci := 2) (q0 := 1) ⟨hx, hb, hml, hown, hts⟩ (hM _) (cwV 3 hts gL_and_X2_and rfl hrc hrs (by decide +kernel) ⟨by show _ ≤ _; simp only [headSpec]; omega, by show _ ≤ _; simp only [headSpec]; omega⟩) rfl rfl rfl hl.1 rfl (Nat.le_of_ble_eq_true rfl) dL_and_7 ⟨by show _ ≤ _; simp only [headSpec]; omega, by show _ ≤ _; simp only [headSpec]; omega⟩ hK hP hD hS hA hE [1, 2, 3, 4, 5, 6, 7, 8, 9, 10, 11, 12, 13, 14] [0] rfl rfl (by decide) (by decide) (by decide) (fun u H locs hu hP hD hS => ?_)
  have hP : va_P D vwCl ((oo, .inl (cJ, 1, .inr (.inl fv))) :: wn u) H := hP
  have hD : va_D A ((oo, .inl (cJ, 1, .inr (.inl fv))) :: wn u) := hD
  refine W.widen (k := mc) (n := ms) (by omega) (by omega) ?_
  refine W.eq (g2 := F0 m 10 ls [.int (vv u), .int (nI 0), .ref oo]) rfl ?_
  refine lv_i2l (v := (vv u).toInt64) hx hb dL_and_10 (rfl) ?_
  refine va_last hx hb hK hP hD hS 0 1 rfl rfl (vp_in_nI (by omega) (by omega)) dL_and_11 (fun H locs hP hD hS => ?_)
  have hP : va_P D vwCl ((oo, .inl (cJ, 1, .inr (.inl (vp_updL fv (nI 0).toNatClampNeg ((vv u).toInt64))))) :: wn u) H := hP
  have hD : va_D A ((oo, .inl (cJ, 1, .inr (.inl (vp_updL fv (nI 0).toNatClampNeg ((vv u).toInt64))))) :: wn u) := hD
  rw [show vp_updL fv (nI 0).toNatClampNeg ((vv u).toInt64) = vp_updL fv 0 (vv u).toInt64 from upL _ (by omega)] at hP hD
  refine lv_goto (tgt := 27) hx hb dL_and_12 (by decide) ?_
  refine lv_iconst (v := nI 0) hx hb dL_and_27 (by decide) ?_
  exact wr_i u hx hb hr hlocks hP hD hS dL_and_28 rfl hu
set_option maxHeartbeats 4000000 in
set_option maxRecDepth 100000 in
/-- output, where the class returns -/
theorem wl_output {Su : Type} (vv : Su → Int32) (post : Su → Prop) (wn : Su → va_W) (mc ms : Nat) (rm : Room) (x y : Int32) (hrm : rm.cells = mc ∧ rm.slots = ms ∧ rm.frames ≤ 7 ∧ rm.locals ≤ 104) (hM : ∀ sz, Met l yX2_output wsX2_output rm (wr_P D [(cI, .int), (cJ, .long)] (xW h hn ow fi ma ro ha oa na sa he ob nb sb cI cJ ic lc stp ap cnt len fo ff fk fr oA cA rA tA gA nA sA oB cB rB tB gB nB sB) sz tp [.ref h, .int x, .int y]) (wx D [(cI, .int), (cJ, .long)] (va_A (xW h hn ow fi ma ro ha oa na sa he ob nb sb cI cJ ic lc stp ap cnt len fo ff fk fr oA cA rA tA gA nA sA oB cB rB tB gB nB sB) sz) (fun u => some (.int (vv u))) post wn) mc ms (va_A (xW h hn ow fi ma ro ha oa na sa he ob nb sb cI cJ ic lc stp ap cnt len fo ff fk fr oA cA rA tA gA nA sA oB cB rB tB gB nB sB) sz)) (sz : Nat) : Met l yL_output wsL_output { frames := 8, cells := mc, slots := ms, locals := 127 } (wl_P D [(cI, .int), (cJ, .long)] ((oo, .inl (cJ, 1, .inr (.inl fv))) :: xW h hn ow fi ma ro ha oa na sa he ob nb sb cI cJ ic lc stp ap cnt len fo ff fk fr oA cA rA tA gA nA sA oB cB rB tB gB nB sB) sz tp [.ref h, .int x, .int y, .ref oo]) (wx (Su := Su) D [(cI, .int), (cJ, .long)] (va_A ((oo, .inl (cJ, 1, .inr (.inl fv))) :: xW h hn ow fi ma ro ha oa na sa he ob nb sb cI cJ ic lc stp ap cnt len fo ff fk fr oA cA rA tA gA nA sA oB cB rB tB gB nB sB) sz) (fun _ => some (.int (nI 0))) (post) (fun u => (oo, .inl (cJ, 1, .inr (.inl (vp_updL fv 0 (vv u).toInt64)))) :: wn u)) mc ms (va_A ((oo, .inl (cJ, 1, .inr (.inl fv))) :: xW h hn ow fi ma ro ha oa na sa he ob nb sb cI cJ ic lc stp ap cnt len fo ff fk fr oA cA rA tA gA nA sA oB cB rB tB gB nB sB) sz) := by
  refine mt_ofWH (cc := cL_output) (maxL := 5) (ret := (some .int)) (hh := [(0, 10, 13, 25), (0, 10, 17, 13), (0, 10, 21, 19)]) (by decide) rfl ?_
  intro p e s m args below meth c s₁ B hml htb hv
  obtain ⟨rfl, hsz, ⟨hP, hK, hD0⟩, hE, hNC⟩ := hv
  have hx := B.exec
  have hb := B.bytes
  have hr := B.returns
  have hts := atoms_spec (ws := wsL_output) B.pre
  have hown : s.vm.findClass RL = some m.cls := findClass_of_methodNamed B.named
  have hlocks := B.notSynchronized
  subst hsz
  have hD := hD0.self (sz := s.heap.size)
  generalize hAe : va_A ((oo, .inl (cJ, 1, .inr (.inl fv))) :: xW h hn ow fi ma ro ha oa na sa he ob nb sb cI cJ ic lc stp ap cnt len fo ff fk fr oA cA rA tA gA nA sA oB cB rB tB gB nB sB) s.heap.size = A at hD hE ⊢
  have hA : ∀ q : Nat, s.heap.size ≤ q → A q := fun q h => by rw [← hAe]; exact Or.inr h
  have hS : va_S A s.heap s.heap [] := va_S.rf
  have hP : va_P D vwCl [(oo, .inl (cJ, 1, .inr (.inl fv))), (h, .inr (2, [.ref hn, .ref ha, .ref he, .int (nI ic), .int (nI lc), .int (nI stp), .int ap])), (hn, .inr (1, [.int (nI cnt), .ref ow, .ref fi, .ref ma, .ref ro])), (ow, .inl (cI, 400, .inl fo)), (fi, .inl (cI, 400, .inl ff)), (ma, .inl (cJ, 400, .inr (.inl fk))), (ro, .inl (cJ, len, .inr (.inl fr))), (ha, .inr (0, [.ref oa, .ref na, .ref sa, .int (nI oA), .int (nI cA), .int (nI rA), .int (nI tA)])), (oa, .inl (cI, 16, .inl (fun j => nI (gA j)))), (na, .inl (cI, 4, .inl (fun j => nI (nA j)))), (sa, .inl (cI, 16, .inl sA)), (he, .inr (0, [.ref ob, .ref nb, .ref sb, .int (nI oB), .int (nI cB), .int (nI rB), .int (nI tB)])), (ob, .inl (cI, 16, .inl (fun j => nI (gB j)))), (nb, .inl (cI, 4, .inl (fun j => nI (nB j)))), (sb, .inl (cI, 16, .inl sB))] s.heap := hP
  have hD : va_D A [(oo, .inl (cJ, 1, .inr (.inl fv))), (h, .inr (2, [.ref hn, .ref ha, .ref he, .int (nI ic), .int (nI lc), .int (nI stp), .int ap])), (hn, .inr (1, [.int (nI cnt), .ref ow, .ref fi, .ref ma, .ref ro])), (ow, .inl (cI, 400, .inl fo)), (fi, .inl (cI, 400, .inl ff)), (ma, .inl (cJ, 400, .inr (.inl fk))), (ro, .inl (cJ, len, .inr (.inl fr))), (ha, .inr (0, [.ref oa, .ref na, .ref sa, .int (nI oA), .int (nI cA), .int (nI rA), .int (nI tA)])), (oa, .inl (cI, 16, .inl (fun j => nI (gA j)))), (na, .inl (cI, 4, .inl (fun j => nI (nA j)))), (sa, .inl (cI, 16, .inl sA)), (he, .inr (0, [.ref ob, .ref nb, .ref sb, .int (nI oB), .int (nI cB), .int (nI rB), .int (nI tB)])), (ob, .inl (cI, 16, .inl (fun j => nI (gB j)))), (nb, .inl (cI, 4, .inl (fun j => nI (nB j)))), (sb, .inl (cI, 16, .inl sB))] := hD
  have hl := lv_entry ([.ref h, .int x, .int y, .ref oo]) (n := 5) (Nat.le_of_ble_eq_true rfl)
  rw [lg_entry_eq]
  generalize (lg_sl ([.ref h, .int x, .int y, .ref oo]) ++ List.replicate (5 - (lg_sl ([.ref h, .int x, .int y, .ref oo])).length) Slot.unset).toArray = ls at hl ⊢
  have hl : lv_has ls 5 [(0, .ref h), (1, .int x), (2, .int y), (3, .ref oo)] := hl
  obtain ⟨hrc, hrs, hr1, hr2⟩ := hrm
  refine lv_aload_n hx hb dL_output_0 rfl (lv_at hl 3 rfl) ?_
  refine lv_iconst (v := nI 0) hx hb dL_output_1 (by decide) ?_
  refine lv_aload_n hx hb dL_output_2 rfl (lv_at hl 0 rfl) ?_
  refine lv_iload_n hx hb dL_output_3 rfl (lv_at hl 1 rfl) ?_
  refine lv_iload_n hx hb dL_output_4 rfl (lv_at hl 2 rfl) ?_
  refine wr_V (As := [.int x, .int y]) (rest := [.int (nI 0), .ref oo]) (wc := [(h, .inr (2, [.ref hn, .ref ha, .ref he, .int (nI ic), .int (nI lc), .int (nI stp), .int ap])), (hn, .inr (1, [.int (nI cnt), .ref ow, .ref fi, .ref ma, .ref ro])), (ow, .inl (cI, 400, .inl fo)), (fi, .inl (cI, 400, .inl ff)), (ma, .inl (cJ, 400, .inr (.inl fk))), (ro, .inl (cJ, len, .inr (.inl fr))), (ha, .inr (0, [.ref oa, .ref na, .ref sa, .int (nI oA), .int (nI cA), .int (nI rA), .int (nI tA)])), (oa, .inl (cI, 16, .inl (fun j => nI (gA j)))), (na, .inl (cI, 4, .inl (fun j => nI (nA j)))), (sa, .inl (cI, 16, .inl sA)), (he, .inr (0, [.ref ob, .ref nb, .ref sb, .int (nI oB), .int (nI cB), .int (nI rB), .int (nI tB)])), (ob, .inl (cI, 16, .inl (fun j => nI (gB j)))), (nb, .inl (cI, 4, .inl (fun j => nI (nB j)))), (sb, .inl (cI, 16, .inl sB))]) (wr := [(oo, .inl (cJ, 1, .inr (.inl fv)))]) (ci := 2) (q0 := 1) ⟨hx, hb, hml, hown, hts⟩ (hM _) (cwV 2 hts gL_output_X2_output rfl hrc hrs (by decide +kernel) ⟨by show _ ≤ _; simp only [headSpec]; omega, by show _ ≤ _; simp only [headSpec]; omega⟩) rfl rfl rfl hl.1 rfl (Nat.le_of_ble_eq_true rfl) dL_output_5 ⟨by show _ ≤ _; simp only [headSpec]; omega, by show _ ≤ _; simp only [headSpec]; omega⟩ hK hP hD hS hA hE [1, 2, 3, 4, 5, 6, 7, 8, 9, 10, 11, 12, 13, 14] [0] rfl rfl (by decide) (by decide) (by decide) (fun u H locs hu hP hD hS => ?_)
  have hP : va_P D vwCl ((oo, .inl (cJ, 1, .inr (.inl fv))) :: wn u) H := hP
  have hD : va_D A ((oo, .inl (cJ, 1, .inr (.inl fv))) :: wn u) := hD
  refine W.widen (k := mc) (n := ms) (by omega) (by omega) ?_
  refine W.eq (g2 := F0 m 8 ls [.int (vv u), .int (nI 0), .ref oo]) rfl ?_
  refine lv_i2l (v := (vv u).toInt64) hx hb dL_output_8 (rfl) ?_
  refine va_last hx hb hK hP hD hS 0 1 rfl rfl (vp_in_nI (by omega) (by omega)) dL_output_9 (fun H locs hP hD hS => ?_)
  have hP : va_P D vwCl ((oo, .inl (cJ, 1, .inr (.inl (vp_updL fv (nI 0).toNatClampNeg ((vv u).toInt64))))) :: wn u) H := hP
  have hD : va_D A ((oo, .inl (cJ, 1, .inr (.inl (vp_updL fv (nI 0).toNatClampNeg ((vv u).toInt64))))) :: wn u) := hD
  rw [show vp_updL fv (nI 0).toNatClampNeg ((vv u).toInt64) = vp_updL fv 0 (vv u).toInt64 from upL _ (by omega)] at hP hD
  refine lv_goto (tgt := 25) hx hb dL_output_10 (by decide) ?_
  refine lv_iconst (v := nI 0) hx hb dL_output_25 (by decide) ?_
  exact wr_i u hx hb hr hlocks hP hD hS dL_output_26 rfl hu
set_option maxHeartbeats 4000000 in
set_option maxRecDepth 100000 in
/-- next, where the class returns -/
theorem wl_next {Su : Type} (vv : Su → Int32) (post : Su → Prop) (wn : Su → va_W) (mc ms : Nat) (rm : Room) (x y z : Int32) (hrm : rm.cells = mc ∧ rm.slots = ms ∧ rm.frames ≤ 7 ∧ rm.locals ≤ 104) (hM : ∀ sz, Met l yX2_next wsX2_next rm (wr_P D [(cI, .int), (cJ, .long)] (xW h hn ow fi ma ro ha oa na sa he ob nb sb cI cJ ic lc stp ap cnt len fo ff fk fr oA cA rA tA gA nA sA oB cB rB tB gB nB sB) sz tp [.ref h, .int x, .int y, .int z]) (wx D [(cI, .int), (cJ, .long)] (va_A (xW h hn ow fi ma ro ha oa na sa he ob nb sb cI cJ ic lc stp ap cnt len fo ff fk fr oA cA rA tA gA nA sA oB cB rB tB gB nB sB) sz) (fun u => some (.int (vv u))) post wn) mc ms (va_A (xW h hn ow fi ma ro ha oa na sa he ob nb sb cI cJ ic lc stp ap cnt len fo ff fk fr oA cA rA tA gA nA sA oB cB rB tB gB nB sB) sz)) (sz : Nat) : Met l yL_next wsL_next { frames := 8, cells := mc, slots := ms, locals := 129 } (wl_P D [(cI, .int), (cJ, .long)] ((oo, .inl (cJ, 1, .inr (.inl fv))) :: xW h hn ow fi ma ro ha oa na sa he ob nb sb cI cJ ic lc stp ap cnt len fo ff fk fr oA cA rA tA gA nA sA oB cB rB tB gB nB sB) sz tp [.ref h, .int x, .int y, .int z, .ref oo]) (wx (Su := Su) D [(cI, .int), (cJ, .long)] (va_A ((oo, .inl (cJ, 1, .inr (.inl fv))) :: xW h hn ow fi ma ro ha oa na sa he ob nb sb cI cJ ic lc stp ap cnt len fo ff fk fr oA cA rA tA gA nA sA oB cB rB tB gB nB sB) sz) (fun _ => some (.int (nI 0))) (post) (fun u => (oo, .inl (cJ, 1, .inr (.inl (vp_updL fv 0 (vv u).toInt64)))) :: wn u)) mc ms (va_A ((oo, .inl (cJ, 1, .inr (.inl fv))) :: xW h hn ow fi ma ro ha oa na sa he ob nb sb cI cJ ic lc stp ap cnt len fo ff fk fr oA cA rA tA gA nA sA oB cB rB tB gB nB sB) sz) := by
  refine mt_ofWH (cc := cL_next) (maxL := 6) (ret := (some .int)) (hh := [(0, 12, 15, 25), (0, 12, 19, 19)]) (by decide) rfl ?_
  intro p e s m args below meth c s₁ B hml htb hv
  obtain ⟨rfl, hsz, ⟨hP, hK, hD0⟩, hE, hNC⟩ := hv
  have hx := B.exec
  have hb := B.bytes
  have hr := B.returns
  have hts := atoms_spec (ws := wsL_next) B.pre
  have hown : s.vm.findClass RL = some m.cls := findClass_of_methodNamed B.named
  have hlocks := B.notSynchronized
  subst hsz
  have hD := hD0.self (sz := s.heap.size)
  generalize hAe : va_A ((oo, .inl (cJ, 1, .inr (.inl fv))) :: xW h hn ow fi ma ro ha oa na sa he ob nb sb cI cJ ic lc stp ap cnt len fo ff fk fr oA cA rA tA gA nA sA oB cB rB tB gB nB sB) s.heap.size = A at hD hE ⊢
  have hA : ∀ q : Nat, s.heap.size ≤ q → A q := fun q h => by rw [← hAe]; exact Or.inr h
  have hS : va_S A s.heap s.heap [] := va_S.rf
  have hP : va_P D vwCl [(oo, .inl (cJ, 1, .inr (.inl fv))), (h, .inr (2, [.ref hn, .ref ha, .ref he, .int (nI ic), .int (nI lc), .int (nI stp), .int ap])), (hn, .inr (1, [.int (nI cnt), .ref ow, .ref fi, .ref ma, .ref ro])), (ow, .inl (cI, 400, .inl fo)), (fi, .inl (cI, 400, .inl ff)), (ma, .inl (cJ, 400, .inr (.inl fk))), (ro, .inl (cJ, len, .inr (.inl fr))), (ha, .inr (0, [.ref oa, .ref na, .ref sa, .int (nI oA), .int (nI cA), .int (nI rA), .int (nI tA)])), (oa, .inl (cI, 16, .inl (fun j => nI (gA j)))), (na, .inl (cI, 4, .inl (fun j => nI (nA j)))), (sa, .inl (cI, 16, .inl sA)), (he, .inr (0, [.ref ob, .ref nb, .ref sb, .int (nI oB), .int (nI cB), .int (nI rB), .int (nI tB)])), (ob, .inl (cI, 16, .inl (fun j => nI (gB j)))), (nb, .inl (cI, 4, .inl (fun j => nI (nB j)))), (sb, .inl (cI, 16, .inl sB))] s.heap := hP
  have hD : va_D A [(oo, .inl (cJ, 1, .inr (.inl fv))), (h, .inr (2, [.ref hn, .ref ha, .ref he, .int (nI ic), .int (nI lc), .int (nI stp), .int ap])), (hn, .inr (1, [.int (nI cnt), .ref ow, .ref fi, .ref ma, .ref ro])), (ow, .inl (cI, 400, .inl fo)), (fi, .inl (cI, 400, .inl ff)), (ma, .inl (cJ, 400, .inr (.inl fk))), (ro, .inl (cJ, len, .inr (.inl fr))), (ha, .inr (0, [.ref oa, .ref na, .ref sa, .int (nI oA), .int (nI cA), .int (nI rA), .int (nI tA)])), (oa, .inl (cI, 16, .inl (fun j => nI (gA j)))), (na, .inl (cI, 4, .inl (fun j => nI (nA j)))), (sa, .inl (cI, 16, .inl sA)), (he, .inr (0, [.ref ob, .ref nb, .ref sb, .int (nI oB), .int (nI cB), .int (nI rB), .int (nI tB)])), (ob, .inl (cI, 16, .inl (fun j => nI (gB j)))), (nb, .inl (cI, 4, .inl (fun j => nI (nB j)))), (sb, .inl (cI, 16, .inl sB))] := hD
  have hl := lv_entry ([.ref h, .int x, .int y, .int z, .ref oo]) (n := 6) (Nat.le_of_ble_eq_true rfl)
  rw [lg_entry_eq]
  generalize (lg_sl ([.ref h, .int x, .int y, .int z, .ref oo]) ++ List.replicate (6 - (lg_sl ([.ref h, .int x, .int y, .int z, .ref oo])).length) Slot.unset).toArray = ls at hl ⊢
  have hl : lv_has ls 6 [(0, .ref h), (1, .int x), (2, .int y), (3, .int z), (4, .ref oo)] := hl
  obtain ⟨hrc, hrs, hr1, hr2⟩ := hrm
  refine lv_aload hx hb dL_next_0 (lv_at hl 4 rfl) ?_
  refine lv_iconst (v := nI 0) hx hb dL_next_2 (by decide) ?_
  refine lv_aload_n hx hb dL_next_3 rfl (lv_at hl 0 rfl) ?_
  refine lv_iload_n hx hb dL_next_4 rfl (lv_at hl 1 rfl) ?_
  refine lv_iload_n hx hb dL_next_5 rfl (lv_at hl 2 rfl) ?_
  refine lv_iload_n hx hb dL_next_6 rfl (lv_at hl 3 rfl) ?_
  refine wr_V (As := [.int x, .int y, .int z]) (rest := [.int (nI 0), .ref oo]) (wc := [(h, .inr (2, [.ref hn, .ref ha, .ref he, .int (nI ic), .int (nI lc), .int (nI stp), .int ap])), (hn, .inr (1, [.int (nI cnt), .ref ow, .ref fi, .ref ma, .ref ro])), (ow, .inl (cI, 400, .inl fo)), (fi, .inl (cI, 400, .inl ff)), (ma, .inl (cJ, 400, .inr (.inl fk))), (ro, .inl (cJ, len, .inr (.inl fr))), (ha, .inr (0, [.ref oa, .ref na, .ref sa, .int (nI oA), .int (nI cA), .int (nI rA), .int (nI tA)])), (oa, .inl (cI, 16, .inl (fun j => nI (gA j)))), (na, .inl (cI, 4, .inl (fun j => nI (nA j)))), (sa, .inl (cI, 16, .inl sA)), (he, .inr (0, [.ref ob, .ref nb, .ref sb, .int (nI oB), .int (nI cB), .int (nI rB), .int (nI tB)])), (ob, .inl (cI, 16, .inl (fun j => nI (gB j)))), (nb, .inl (cI, 4, .inl (fun j => nI (nB j)))), (sb, .inl (cI, 16, .inl sB))]) (wr := [(oo, .inl (cJ, 1, .inr (.inl fv)))]) (ci := 2) (q0 := 1) ⟨hx, hb, hml, hown, hts⟩ (hM _) (cwV 3 hts gL_next_X2_next rfl hrc hrs (by decide +kernel) ⟨by show _ ≤ _; simp only [headSpec]; omega, by show _ ≤ _; simp only [headSpec]; omega⟩) rfl rfl rfl hl.1 rfl (Nat.le_of_ble_eq_true rfl) dL_next_7 ⟨by show _ ≤ _; simp only [headSpec]; omega, by show _ ≤ _; simp only [headSpec]; omega⟩ hK hP hD hS hA hE [1, 2, 3, 4, 5, 6, 7, 8, 9, 10, 11, 12, 13, 14] [0] rfl rfl (by decide) (by decide) (by decide) (fun u H locs hu hP hD hS => ?_)
  have hP : va_P D vwCl ((oo, .inl (cJ, 1, .inr (.inl fv))) :: wn u) H := hP
  have hD : va_D A ((oo, .inl (cJ, 1, .inr (.inl fv))) :: wn u) := hD
  refine W.widen (k := mc) (n := ms) (by omega) (by omega) ?_
  refine W.eq (g2 := F0 m 10 ls [.int (vv u), .int (nI 0), .ref oo]) rfl ?_
  refine lv_i2l (v := (vv u).toInt64) hx hb dL_next_10 (rfl) ?_
  refine va_last hx hb hK hP hD hS 0 1 rfl rfl (vp_in_nI (by omega) (by omega)) dL_next_11 (fun H locs hP hD hS => ?_)
  have hP : va_P D vwCl ((oo, .inl (cJ, 1, .inr (.inl (vp_updL fv (nI 0).toNatClampNeg ((vv u).toInt64))))) :: wn u) H := hP
  have hD : va_D A ((oo, .inl (cJ, 1, .inr (.inl (vp_updL fv (nI 0).toNatClampNeg ((vv u).toInt64))))) :: wn u) := hD
  rw [show vp_updL fv (nI 0).toNatClampNeg ((vv u).toInt64) = vp_updL fv 0 (vv u).toInt64 from upL _ (by omega)] at hP hD
  refine lv_goto (tgt := 23) hx hb dL_next_12 (by decide) ?_
  refine lv_iconst (v := nI 0) hx hb dL_next_23 (by decide) ?_
  exact wr_i u hx hb hr hlocks hP hD hS dL_next_24 rfl hu
set_option maxHeartbeats 4000000 in
set_option maxRecDepth 100000 in
/-- same, where the class returns -/
theorem wl_same {Su : Type} (vv : Su → Int32) (post : Su → Prop) (wn : Su → va_W) (mc ms : Nat) (rm : Room) (x y : Int32) (hrm : rm.cells = mc ∧ rm.slots = ms ∧ rm.frames ≤ 7 ∧ rm.locals ≤ 103) (hM : ∀ sz, Met l yX2_same wsX2_same rm (wr_P D [(cI, .int), (cJ, .long)] (xW h hn ow fi ma ro ha oa na sa he ob nb sb cI cJ ic lc stp ap cnt len fo ff fk fr oA cA rA tA gA nA sA oB cB rB tB gB nB sB) sz tp [.ref h, .int x, .int y]) (wx D [(cI, .int), (cJ, .long)] (va_A (xW h hn ow fi ma ro ha oa na sa he ob nb sb cI cJ ic lc stp ap cnt len fo ff fk fr oA cA rA tA gA nA sA oB cB rB tB gB nB sB) sz) (fun u => some (.int (vv u))) post wn) mc ms (va_A (xW h hn ow fi ma ro ha oa na sa he ob nb sb cI cJ ic lc stp ap cnt len fo ff fk fr oA cA rA tA gA nA sA oB cB rB tB gB nB sB) sz)) (h01 : ∀ u, vv u = 0 ∨ vv u = 1) (sz : Nat) : Met l yL_same wsL_same { frames := 8, cells := mc, slots := ms, locals := 125 } (wl_P D [(cI, .int), (cJ, .long)] ((oo, .inl (cJ, 1, .inr (.inl fv))) :: xW h hn ow fi ma ro ha oa na sa he ob nb sb cI cJ ic lc stp ap cnt len fo ff fk fr oA cA rA tA gA nA sA oB cB rB tB gB nB sB) sz tp [.ref h, .int x, .int y, .ref oo]) (wx (Su := Su) D [(cI, .int), (cJ, .long)] (va_A ((oo, .inl (cJ, 1, .inr (.inl fv))) :: xW h hn ow fi ma ro ha oa na sa he ob nb sb cI cJ ic lc stp ap cnt len fo ff fk fr oA cA rA tA gA nA sA oB cB rB tB gB nB sB) sz) (fun _ => some (.int (nI 0))) (post) (fun u => (oo, .inl (cJ, 1, .inr (.inl (vp_updL fv 0 (vv u).toInt64)))) :: wn u)) mc ms (va_A ((oo, .inl (cJ, 1, .inr (.inl fv))) :: xW h hn ow fi ma ro ha oa na sa he ob nb sb cI cJ ic lc stp ap cnt len fo ff fk fr oA cA rA tA gA nA sA oB cB rB tB gB nB sB) sz) := by
  refine mt_ofWH (cc := cL_same) (maxL := 5) (ret := (some .int)) (hh := [(0, 17, 20, 25)]) (by decide) rfl ?_
  intro p e s m args below meth c s₁ B hml htb hv
  obtain ⟨rfl, hsz, ⟨hP, hK, hD0⟩, hE, hNC⟩ := hv
  have hx := B.exec
  have hb := B.bytes
  have hr := B.returns
  have hts := atoms_spec (ws := wsL_same) B.pre
  have hown : s.vm.findClass RL = some m.cls := findClass_of_methodNamed B.named
  have hlocks := B.notSynchronized
  subst hsz
  have hD := hD0.self (sz := s.heap.size)
  generalize hAe : va_A ((oo, .inl (cJ, 1, .inr (.inl fv))) :: xW h hn ow fi ma ro ha oa na sa he ob nb sb cI cJ ic lc stp ap cnt len fo ff fk fr oA cA rA tA gA nA sA oB cB rB tB gB nB sB) s.heap.size = A at hD hE ⊢
  have hA : ∀ q : Nat, s.heap.size ≤ q → A q := fun q h => by rw [← hAe]; exact Or.inr h
  have hS : va_S A s.heap s.heap [] := va_S.rf
  have hP : va_P D vwCl [(oo, .inl (cJ, 1, .inr (.inl fv))), (h, .inr (2, [.ref hn, .ref ha, .ref he, .int (nI ic), .int (nI lc), .int (nI stp), .int ap])), (hn, .inr (1, [.int (nI cnt), .ref ow, .ref fi, .ref ma, .ref ro])), (ow, .inl (cI, 400, .inl fo)), (fi, .inl (cI, 400, .inl ff)), (ma, .inl (cJ, 400, .inr (.inl fk))), (ro, .inl (cJ, len, .inr (.inl fr))), (ha, .inr (0, [.ref oa, .ref na, .ref sa, .int (nI oA), .int (nI cA), .int (nI rA), .int (nI tA)])), (oa, .inl (cI, 16, .inl (fun j => nI (gA j)))), (na, .inl (cI, 4, .inl (fun j => nI (nA j)))), (sa, .inl (cI, 16, .inl sA)), (he, .inr (0, [.ref ob, .ref nb, .ref sb, .int (nI oB), .int (nI cB), .int (nI rB), .int (nI tB)])), (ob, .inl (cI, 16, .inl (fun j => nI (gB j)))), (nb, .inl (cI, 4, .inl (fun j => nI (nB j)))), (sb, .inl (cI, 16, .inl sB))] s.heap := hP
  have hD : va_D A [(oo, .inl (cJ, 1, .inr (.inl fv))), (h, .inr (2, [.ref hn, .ref ha, .ref he, .int (nI ic), .int (nI lc), .int (nI stp), .int ap])), (hn, .inr (1, [.int (nI cnt), .ref ow, .ref fi, .ref ma, .ref ro])), (ow, .inl (cI, 400, .inl fo)), (fi, .inl (cI, 400, .inl ff)), (ma, .inl (cJ, 400, .inr (.inl fk))), (ro, .inl (cJ, len, .inr (.inl fr))), (ha, .inr (0, [.ref oa, .ref na, .ref sa, .int (nI oA), .int (nI cA), .int (nI rA), .int (nI tA)])), (oa, .inl (cI, 16, .inl (fun j => nI (gA j)))), (na, .inl (cI, 4, .inl (fun j => nI (nA j)))), (sa, .inl (cI, 16, .inl sA)), (he, .inr (0, [.ref ob, .ref nb, .ref sb, .int (nI oB), .int (nI cB), .int (nI rB), .int (nI tB)])), (ob, .inl (cI, 16, .inl (fun j => nI (gB j)))), (nb, .inl (cI, 4, .inl (fun j => nI (nB j)))), (sb, .inl (cI, 16, .inl sB))] := hD
  have hl := lv_entry ([.ref h, .int x, .int y, .ref oo]) (n := 5) (Nat.le_of_ble_eq_true rfl)
  rw [lg_entry_eq]
  generalize (lg_sl ([.ref h, .int x, .int y, .ref oo]) ++ List.replicate (5 - (lg_sl ([.ref h, .int x, .int y, .ref oo])).length) Slot.unset).toArray = ls at hl ⊢
  have hl : lv_has ls 5 [(0, .ref h), (1, .int x), (2, .int y), (3, .ref oo)] := hl
  obtain ⟨hrc, hrs, hr1, hr2⟩ := hrm
  refine lv_aload_n hx hb dL_same_0 rfl (lv_at hl 3 rfl) ?_
  refine lv_iconst (v := nI 0) hx hb dL_same_1 (by decide) ?_
  refine lv_aload_n hx hb dL_same_2 rfl (lv_at hl 0 rfl) ?_
  refine lv_iload_n hx hb dL_same_3 rfl (lv_at hl 1 rfl) ?_
  refine lv_iload_n hx hb dL_same_4 rfl (lv_at hl 2 rfl) ?_
  refine wr_V (As := [.int x, .int y]) (rest := [.int (nI 0), .ref oo]) (wc := [(h, .inr (2, [.ref hn, .ref ha, .ref he, .int (nI ic), .int (nI lc), .int (nI stp), .int ap])), (hn, .inr (1, [.int (nI cnt), .ref ow, .ref fi, .ref ma, .ref ro])), (ow, .inl (cI, 400, .inl fo)), (fi, .inl (cI, 400, .inl ff)), (ma, .inl (cJ, 400, .inr (.inl fk))), (ro, .inl (cJ, len, .inr (.inl fr))), (ha, .inr (0, [.ref oa, .ref na, .ref sa, .int (nI oA), .int (nI cA), .int (nI rA), .int (nI tA)])), (oa, .inl (cI, 16, .inl (fun j => nI (gA j)))), (na, .inl (cI, 4, .inl (fun j => nI (nA j)))), (sa, .inl (cI, 16, .inl sA)), (he, .inr (0, [.ref ob, .ref nb, .ref sb, .int (nI oB), .int (nI cB), .int (nI rB), .int (nI tB)])), (ob, .inl (cI, 16, .inl (fun j => nI (gB j)))), (nb, .inl (cI, 4, .inl (fun j => nI (nB j)))), (sb, .inl (cI, 16, .inl sB))]) (wr := [(oo, .inl (cJ, 1, .inr (.inl fv)))]) (ci := 2) (q0 := 1) ⟨hx, hb, hml, hown, hts⟩ (hM _) (cwV 2 hts gL_same_X2_same rfl hrc hrs (by decide +kernel) ⟨by show _ ≤ _; simp only [headSpec]; omega, by show _ ≤ _; simp only [headSpec]; omega⟩) rfl rfl rfl hl.1 rfl (Nat.le_of_ble_eq_true rfl) dL_same_5 ⟨by show _ ≤ _; simp only [headSpec]; omega, by show _ ≤ _; simp only [headSpec]; omega⟩ hK hP hD hS hA hE [1, 2, 3, 4, 5, 6, 7, 8, 9, 10, 11, 12, 13, 14] [0] rfl rfl (by decide) (by decide) (by decide) (fun u H locs hu hP hD hS => ?_)
  have hP : va_P D vwCl ((oo, .inl (cJ, 1, .inr (.inl fv))) :: wn u) H := hP
  have hD : va_D A ((oo, .inl (cJ, 1, .inr (.inl fv))) :: wn u) := hD
  refine W.widen (k := mc) (n := ms) (by omega) (by omega) ?_
  refine W.eq (g2 := F0 m 8 ls [.int (vv u), .int (nI 0), .ref oo]) rfl ?_
  refine lv_if_eq (tgt := 15) hx hb dL_same_8 (by decide) (fun c1 => ?_) (fun c1 => ?_)
  · refine lv_lconst (v := 0) hx hb dL_same_15 (by decide) ?_
    refine va_last hx hb hK hP hD hS 0 1 rfl rfl (vp_in_nI (by omega) (by omega)) dL_same_16 (fun H locs hP hD hS => ?_)
    have hP : va_P D vwCl ((oo, .inl (cJ, 1, .inr (.inl (vp_updL fv (nI 0).toNatClampNeg 0)))) :: wn u) H := hP
    have hD : va_D A ((oo, .inl (cJ, 1, .inr (.inl (vp_updL fv (nI 0).toNatClampNeg 0)))) :: wn u) := hD
    rw [show vp_updL fv (nI 0).toNatClampNeg 0 = vp_updL fv 0 (vv u).toInt64 from by rw [c1]; exact upL _ (by omega)] at hP hD
    refine lv_goto (tgt := 24) hx hb dL_same_17 (by decide) ?_
    refine lv_iconst (v := nI 0) hx hb dL_same_24 (by decide) ?_
    exact wr_i u hx hb hr hlocks hP hD hS dL_same_25 rfl hu
  · have c1 := (h01 u).resolve_left c1
    refine lv_lconst (v := 1) hx hb dL_same_11 (by decide) ?_
    refine lv_goto (tgt := 16) hx hb dL_same_12 (by decide) ?_
    refine va_last hx hb hK hP hD hS 0 1 rfl rfl (vp_in_nI (by omega) (by omega)) dL_same_16 (fun H locs hP hD hS => ?_)
    have hP : va_P D vwCl ((oo, .inl (cJ, 1, .inr (.inl (vp_updL fv (nI 0).toNatClampNeg 1)))) :: wn u) H := hP
    have hD : va_D A ((oo, .inl (cJ, 1, .inr (.inl (vp_updL fv (nI 0).toNatClampNeg 1)))) :: wn u) := hD
    rw [show vp_updL fv (nI 0).toNatClampNeg 1 = vp_updL fv 0 (vv u).toInt64 from by rw [c1]; exact upL _ (by omega)] at hP hD
    refine lv_goto (tgt := 24) hx hb dL_same_17 (by decide) ?_
    refine lv_iconst (v := nI 0) hx hb dL_same_24 (by decide) ?_
    exact wr_i u hx hb hr hlocks hP hD hS dL_same_25 rfl hu
set_option maxHeartbeats 4000000 in
set_option maxRecDepth 100000 in
/-- first, where the class returns -/
theorem wl_first {Su : Type} (vv : Su → Int32) (post : Su → Prop) (wn : Su → va_W) (mc ms : Nat) (rm : Room) (x : Int32) (hrm : rm.cells = mc ∧ rm.slots = ms ∧ rm.frames ≤ 7 ∧ rm.locals ≤ 103) (hM : ∀ sz, Met l yX2_first wsX2_first rm (wr_P D [(cI, .int), (cJ, .long)] (xW h hn ow fi ma ro ha oa na sa he ob nb sb cI cJ ic lc stp ap cnt len fo ff fk fr oA cA rA tA gA nA sA oB cB rB tB gB nB sB) sz tp [.ref h, .int x]) (wx D [(cI, .int), (cJ, .long)] (va_A (xW h hn ow fi ma ro ha oa na sa he ob nb sb cI cJ ic lc stp ap cnt len fo ff fk fr oA cA rA tA gA nA sA oB cB rB tB gB nB sB) sz) (fun u => some (.int (vv u))) post wn) mc ms (va_A (xW h hn ow fi ma ro ha oa na sa he ob nb sb cI cJ ic lc stp ap cnt len fo ff fk fr oA cA rA tA gA nA sA oB cB rB tB gB nB sB) sz)) (sz : Nat) : Met l yL_first wsL_first { frames := 8, cells := mc, slots := ms, locals := 124 } (wl_P D [(cI, .int), (cJ, .long)] ((oo, .inl (cJ, 1, .inr (.inl fv))) :: xW h hn ow fi ma ro ha oa na sa he ob nb sb cI cJ ic lc stp ap cnt len fo ff fk fr oA cA rA tA gA nA sA oB cB rB tB gB nB sB) sz tp [.ref h, .int x, .ref oo]) (wx (Su := Su) D [(cI, .int), (cJ, .long)] (va_A ((oo, .inl (cJ, 1, .inr (.inl fv))) :: xW h hn ow fi ma ro ha oa na sa he ob nb sb cI cJ ic lc stp ap cnt len fo ff fk fr oA cA rA tA gA nA sA oB cB rB tB gB nB sB) sz) (fun _ => some (.int (nI 0))) (post) (fun u => (oo, .inl (cJ, 1, .inr (.inl (vp_updL fv 0 (vv u).toInt64)))) :: wn u)) mc ms (va_A ((oo, .inl (cJ, 1, .inr (.inl fv))) :: xW h hn ow fi ma ro ha oa na sa he ob nb sb cI cJ ic lc stp ap cnt len fo ff fk fr oA cA rA tA gA nA sA oB cB rB tB gB nB sB) sz) := by
  refine mt_ofWH (cc := cL_first) (maxL := 4) (ret := (some .int)) (hh := [(0, 9, 12, 25)]) (by decide) rfl ?_
  intro p e s m args below meth c s₁ B hml htb hv
  obtain ⟨rfl, hsz, ⟨hP, hK, hD0⟩, hE, hNC⟩ := hv
  have hx := B.exec
  have hb := B.bytes
  have hr := B.returns
  have hts := atoms_spec (ws := wsL_first) B.pre
  have hown : s.vm.findClass RL = some m.cls := findClass_of_methodNamed B.named
  have hlocks := B.notSynchronized
  subst hsz
  have hD := hD0.self (sz := s.heap.size)
  generalize hAe : va_A ((oo, .inl (cJ, 1, .inr (.inl fv))) :: xW h hn ow fi ma ro ha oa na sa he ob nb sb cI cJ ic lc stp ap cnt len fo ff fk fr oA cA rA tA gA nA sA oB cB rB tB gB nB sB) s.heap.size = A at hD hE ⊢
  have hA : ∀ q : Nat, s.heap.size ≤ q → A q := fun q h => by rw [← hAe]; exact Or.inr h
  have hS : va_S A s.heap s.heap [] := va_S.rf
  have hP : va_P D vwCl [(oo, .inl (cJ, 1, .inr (.inl fv))), (h, .inr (2, [.ref hn, .ref ha, .ref he, .int (nI ic), .int (nI lc), .int (nI stp), .int ap])), (hn, .inr (1, [.int (nI cnt), .ref ow, .ref fi, .ref ma, .ref ro])), (ow, .inl (cI, 400, .inl fo)), (fi, .inl (cI, 400, .inl ff)), (ma, .inl (cJ, 400, .inr (.inl fk))), (ro, .inl (cJ, len, .inr (.inl fr))), (ha, .inr (0, [.ref oa, .ref na, .ref sa, .int (nI oA), .int (nI cA), .int (nI rA), .int (nI tA)])), (oa, .inl (cI, 16, .inl (fun j => nI (gA j)))), (na, .inl (cI, 4, .inl (fun j => nI (nA j)))), (sa, .inl (cI, 16, .inl sA)), (he, .inr (0, [.ref ob, .ref nb, .ref sb, .int (nI oB), .int (nI cB), .int (nI rB), .int (nI tB)])), (ob, .inl (cI, 16, .inl (fun j => nI (gB j)))), (nb, .inl (cI, 4, .inl (fun j => nI (nB j)))), (sb, .inl (cI, 16, .inl sB))] s.heap := hP
  have hD : va_D A [(oo, .inl (cJ, 1, .inr (.inl fv))), (h, .inr (2, [.ref hn, .ref ha, .ref he, .int (nI ic), .int (nI lc), .int (nI stp), .int ap])), (hn, .inr (1, [.int (nI cnt), .ref ow, .ref fi, .ref ma, .ref ro])), (ow, .inl (cI, 400, .inl fo)), (fi, .inl (cI, 400, .inl ff)), (ma, .inl (cJ, 400, .inr (.inl fk))), (ro, .inl (cJ, len, .inr (.inl fr))), (ha, .inr (0, [.ref oa, .ref na, .ref sa, .int (nI oA), .int (nI cA), .int (nI rA), .int (nI tA)])), (oa, .inl (cI, 16, .inl (fun j => nI (gA j)))), (na, .inl (cI, 4, .inl (fun j => nI (nA j)))), (sa, .inl (cI, 16, .inl sA)), (he, .inr (0, [.ref ob, .ref nb, .ref sb, .int (nI oB), .int (nI cB), .int (nI rB), .int (nI tB)])), (ob, .inl (cI, 16, .inl (fun j => nI (gB j)))), (nb, .inl (cI, 4, .inl (fun j => nI (nB j)))), (sb, .inl (cI, 16, .inl sB))] := hD
  have hl := lv_entry ([.ref h, .int x, .ref oo]) (n := 4) (Nat.le_of_ble_eq_true rfl)
  rw [lg_entry_eq]
  generalize (lg_sl ([.ref h, .int x, .ref oo]) ++ List.replicate (4 - (lg_sl ([.ref h, .int x, .ref oo])).length) Slot.unset).toArray = ls at hl ⊢
  have hl : lv_has ls 4 [(0, .ref h), (1, .int x), (2, .ref oo)] := hl
  obtain ⟨hrc, hrs, hr1, hr2⟩ := hrm
  refine lv_aload_n hx hb dL_first_0 rfl (lv_at hl 2 rfl) ?_
  refine lv_iconst (v := nI 0) hx hb dL_first_1 (by decide) ?_
  refine lv_aload_n hx hb dL_first_2 rfl (lv_at hl 0 rfl) ?_
  refine lv_iload_n hx hb dL_first_3 rfl (lv_at hl 1 rfl) ?_
  refine wr_V (As := [.int x]) (rest := [.int (nI 0), .ref oo]) (wc := [(h, .inr (2, [.ref hn, .ref ha, .ref he, .int (nI ic), .int (nI lc), .int (nI stp), .int ap])), (hn, .inr (1, [.int (nI cnt), .ref ow, .ref fi, .ref ma, .ref ro])), (ow, .inl (cI, 400, .inl fo)), (fi, .inl (cI, 400, .inl ff)), (ma, .inl (cJ, 400, .inr (.inl fk))), (ro, .inl (cJ, len, .inr (.inl fr))), (ha, .inr (0, [.ref oa, .ref na, .ref sa, .int (nI oA), .int (nI cA), .int (nI rA), .int (nI tA)])), (oa, .inl (cI, 16, .inl (fun j => nI (gA j)))), (na, .inl (cI, 4, .inl (fun j => nI (nA j)))), (sa, .inl (cI, 16, .inl sA)), (he, .inr (0, [.ref ob, .ref nb, .ref sb, .int (nI oB), .int (nI cB), .int (nI rB), .int (nI tB)])), (ob, .inl (cI, 16, .inl (fun j => nI (gB j)))), (nb, .inl (cI, 4, .inl (fun j => nI (nB j)))), (sb, .inl (cI, 16, .inl sB))]) (wr := [(oo, .inl (cJ, 1, .inr (.inl fv)))]) (ci := 2) (q0 := 1) ⟨hx, hb, hml, hown, hts⟩ (hM _) (cwV 1 hts gL_first_X2_first rfl hrc hrs (by decide +kernel) ⟨by show _ ≤ _; simp only [headSpec]; omega, by show _ ≤ _; simp only [headSpec]; omega⟩) rfl rfl rfl hl.1 rfl (Nat.le_of_ble_eq_true rfl) dL_first_4 ⟨by show _ ≤ _; simp only [headSpec]; omega, by show _ ≤ _; simp only [headSpec]; omega⟩ hK hP hD hS hA hE [1, 2, 3, 4, 5, 6, 7, 8, 9, 10, 11, 12, 13, 14] [0] rfl rfl (by decide) (by decide) (by decide) (fun u H locs hu hP hD hS => ?_)
  have hP : va_P D vwCl ((oo, .inl (cJ, 1, .inr (.inl fv))) :: wn u) H := hP
  have hD : va_D A ((oo, .inl (cJ, 1, .inr (.inl fv))) :: wn u) := hD
  refine W.widen (k := mc) (n := ms) (by omega) (by omega) ?_
  refine W.eq (g2 := F0 m 7 ls [.int (vv u), .int (nI 0), .ref oo]) rfl ?_
  refine lv_i2l (v := (vv u).toInt64) hx hb dL_first_7 (rfl) ?_
  refine va_last hx hb hK hP hD hS 0 1 rfl rfl (vp_in_nI (by omega) (by omega)) dL_first_8 (fun H locs hP hD hS => ?_)
  have hP : va_P D vwCl ((oo, .inl (cJ, 1, .inr (.inl (vp_updL fv (nI 0).toNatClampNeg ((vv u).toInt64))))) :: wn u) H := hP
  have hD : va_D A ((oo, .inl (cJ, 1, .inr (.inl (vp_updL fv (nI 0).toNatClampNeg ((vv u).toInt64))))) :: wn u) := hD
  rw [show vp_updL fv (nI 0).toNatClampNeg ((vv u).toInt64) = vp_updL fv 0 (vv u).toInt64 from upL _ (by omega)] at hP hD
  refine lv_goto (tgt := 15) hx hb dL_first_9 (by decide) ?_
  refine lv_iconst (v := nI 0) hx hb dL_first_15 (by decide) ?_
  exact wr_i u hx hb hr hlocks hP hD hS dL_first_16 rfl hu
set_option maxHeartbeats 4000000 in
set_option maxRecDepth 100000 in
/-- merged, where the class returns -/
theorem wl_merged {Su : Type} (vv : Su → Int32) (post : Su → Prop) (wn : Su → va_W) (mc ms : Nat) (rm : Room) (x : Int32) (hrm : rm.cells = mc ∧ rm.slots = ms ∧ rm.frames ≤ 7 ∧ rm.locals ≤ 103) (hM : ∀ sz, Met l yX2_merged wsX2_merged rm (wr_P D [(cI, .int), (cJ, .long)] (xW h hn ow fi ma ro ha oa na sa he ob nb sb cI cJ ic lc stp ap cnt len fo ff fk fr oA cA rA tA gA nA sA oB cB rB tB gB nB sB) sz tp [.ref h, .int x]) (wx D [(cI, .int), (cJ, .long)] (va_A (xW h hn ow fi ma ro ha oa na sa he ob nb sb cI cJ ic lc stp ap cnt len fo ff fk fr oA cA rA tA gA nA sA oB cB rB tB gB nB sB) sz) (fun u => some (.int (vv u))) post wn) mc ms (va_A (xW h hn ow fi ma ro ha oa na sa he ob nb sb cI cJ ic lc stp ap cnt len fo ff fk fr oA cA rA tA gA nA sA oB cB rB tB gB nB sB) sz)) (sz : Nat) : Met l yL_merged wsL_merged { frames := 8, cells := mc, slots := ms, locals := 124 } (wl_P D [(cI, .int), (cJ, .long)] ((oo, .inl (cJ, 1, .inr (.inl fv))) :: xW h hn ow fi ma ro ha oa na sa he ob nb sb cI cJ ic lc stp ap cnt len fo ff fk fr oA cA rA tA gA nA sA oB cB rB tB gB nB sB) sz tp [.ref h, .int x, .ref oo]) (wx (Su := Su) D [(cI, .int), (cJ, .long)] (va_A ((oo, .inl (cJ, 1, .inr (.inl fv))) :: xW h hn ow fi ma ro ha oa na sa he ob nb sb cI cJ ic lc stp ap cnt len fo ff fk fr oA cA rA tA gA nA sA oB cB rB tB gB nB sB) sz) (fun _ => some (.int (nI 0))) (post) (fun u => (oo, .inl (cJ, 1, .inr (.inl (vp_updL fv 0 (vv u).toInt64)))) :: wn u)) mc ms (va_A ((oo, .inl (cJ, 1, .inr (.inl fv))) :: xW h hn ow fi ma ro ha oa na sa he ob nb sb cI cJ ic lc stp ap cnt len fo ff fk fr oA cA rA tA gA nA sA oB cB rB tB gB nB sB) sz) := by
  refine mt_ofWH (cc := cL_merged) (maxL := 4) (ret := (some .int)) (hh := [(0, 9, 12, 25)]) (by decide) rfl ?_
  intro p e s m args below meth c s₁ B hml htb hv
  obtain ⟨rfl, hsz, ⟨hP, hK, hD0⟩, hE, hNC⟩ := hv
  have hx := B.exec
  have hb := B.bytes
  have hr := B.returns
  have hts := atoms_spec (ws := wsL_merged) B.pre
  have hown : s.vm.findClass RL = some m.cls := findClass_of_methodNamed B.named
  have hlocks := B.notSynchronized
  subst hsz
  have hD := hD0.self (sz := s.heap.size)
  generalize hAe : va_A ((oo, .inl (cJ, 1, .inr (.inl fv))) :: xW h hn ow fi ma ro ha oa na sa he ob nb sb cI cJ ic lc stp ap cnt len fo ff fk fr oA cA rA tA gA nA sA oB cB rB tB gB nB sB) s.heap.size = A at hD hE ⊢
  have hA : ∀ q : Nat, s.heap.size ≤ q → A q := fun q h => by rw [← hAe]; exact Or.inr h
  have hS : va_S A s.heap s.heap [] := va_S.rf
  have hP : va_P D vwCl [(oo, .inl (cJ, 1, .inr (.inl fv))), (h, .inr (2, [.ref hn, .ref ha, .ref he, .int (nI ic), .int (nI lc), .int (nI stp), .int ap])), (hn, .inr (1, [.int (nI cnt), .ref ow, .ref fi, .ref ma, .ref ro])), (ow, .inl (cI, 400, .inl fo)), (fi, .inl (cI, 400, .inl ff)), (ma, .inl (cJ, 400, .inr (.inl fk))), (ro, .inl (cJ, len, .inr (.inl fr))), (ha, .inr (0, [.ref oa, .ref na, .ref sa, .int (nI oA), .int (nI cA), .int (nI rA), .int (nI tA)])), (oa, .inl (cI, 16, .inl (fun j => nI (gA j)))), (na, .inl (cI, 4, .inl (fun j => nI (nA j)))), (sa, .inl (cI, 16, .inl sA)), (he, .inr (0, [.ref ob, .ref nb, .ref sb, .int (nI oB), .int (nI cB), .int (nI rB), .int (nI tB)])), (ob, .inl (cI, 16, .inl (fun j => nI (gB j)))), (nb, .inl (cI, 4, .inl (fun j => nI (nB j)))), (sb, .inl (cI, 16, .inl sB))] s.heap := hP
  have hD : va_D A [(oo, .inl (cJ, 1, .inr (.inl fv))), (h, .inr (2, [.ref hn, .ref ha, .ref he, .int (nI ic), .int (nI lc), .int (nI stp), .int ap])), (hn, .inr (1, [.int (nI cnt), .ref ow, .ref fi, .ref ma, .ref ro])), (ow, .inl (cI, 400, .inl fo)), (fi, .inl (cI, 400, .inl ff)), (ma, .inl (cJ, 400, .inr (.inl fk))), (ro, .inl (cJ, len, .inr (.inl fr))), (ha, .inr (0, [.ref oa, .ref na, .ref sa, .int (nI oA), .int (nI cA), .int (nI rA), .int (nI tA)])), (oa, .inl (cI, 16, .inl (fun j => nI (gA j)))), (na, .inl (cI, 4, .inl (fun j => nI (nA j)))), (sa, .inl (cI, 16, .inl sA)), (he, .inr (0, [.ref ob, .ref nb, .ref sb, .int (nI oB), .int (nI cB), .int (nI rB), .int (nI tB)])), (ob, .inl (cI, 16, .inl (fun j => nI (gB j)))), (nb, .inl (cI, 4, .inl (fun j => nI (nB j)))), (sb, .inl (cI, 16, .inl sB))] := hD
  have hl := lv_entry ([.ref h, .int x, .ref oo]) (n := 4) (Nat.le_of_ble_eq_true rfl)
  rw [lg_entry_eq]
  generalize (lg_sl ([.ref h, .int x, .ref oo]) ++ List.replicate (4 - (lg_sl ([.ref h, .int x, .ref oo])).length) Slot.unset).toArray = ls at hl ⊢
  have hl : lv_has ls 4 [(0, .ref h), (1, .int x), (2, .ref oo)] := hl
  obtain ⟨hrc, hrs, hr1, hr2⟩ := hrm
  refine lv_aload_n hx hb dL_merged_0 rfl (lv_at hl 2 rfl) ?_
  refine lv_iconst (v := nI 0) hx hb dL_merged_1 (by decide) ?_
  refine lv_aload_n hx hb dL_merged_2 rfl (lv_at hl 0 rfl) ?_
  refine lv_iload_n hx hb dL_merged_3 rfl (lv_at hl 1 rfl) ?_
  refine wr_V (As := [.int x]) (rest := [.int (nI 0), .ref oo]) (wc := [(h, .inr (2, [.ref hn, .ref ha, .ref he, .int (nI ic), .int (nI lc), .int (nI stp), .int ap])), (hn, .inr (1, [.int (nI cnt), .ref ow, .ref fi, .ref ma, .ref ro])), (ow, .inl (cI, 400, .inl fo)), (fi, .inl (cI, 400, .inl ff)), (ma, .inl (cJ, 400, .inr (.inl fk))), (ro, .inl (cJ, len, .inr (.inl fr))), (ha, .inr (0, [.ref oa, .ref na, .ref sa, .int (nI oA), .int (nI cA), .int (nI rA), .int (nI tA)])), (oa, .inl (cI, 16, .inl (fun j => nI (gA j)))), (na, .inl (cI, 4, .inl (fun j => nI (nA j)))), (sa, .inl (cI, 16, .inl sA)), (he, .inr (0, [.ref ob, .ref nb, .ref sb, .int (nI oB), .int (nI cB), .int (nI rB), .int (nI tB)])), (ob, .inl (cI, 16, .inl (fun j => nI (gB j)))), (nb, .inl (cI, 4, .inl (fun j => nI (nB j)))), (sb, .inl (cI, 16, .inl sB))]) (wr := [(oo, .inl (cJ, 1, .inr (.inl fv)))]) (ci := 2) (q0 := 1) ⟨hx, hb, hml, hown, hts⟩ (hM _) (cwV 1 hts gL_merged_X2_merged rfl hrc hrs (by decide +kernel) ⟨by show _ ≤ _; simp only [headSpec]; omega, by show _ ≤ _; simp only [headSpec]; omega⟩) rfl rfl rfl hl.1 rfl (Nat.le_of_ble_eq_true rfl) dL_merged_4 ⟨by show _ ≤ _; simp only [headSpec]; omega, by show _ ≤ _; simp only [headSpec]; omega⟩ hK hP hD hS hA hE [1, 2, 3, 4, 5, 6, 7, 8, 9, 10, 11, 12, 13, 14] [0] rfl rfl (by decide) (by decide) (by decide) (fun u H locs hu hP hD hS => ?_)
  have hP : va_P D vwCl ((oo, .inl (cJ, 1, .inr (.inl fv))) :: wn u) H := hP
  have hD : va_D A ((oo, .inl (cJ, 1, .inr (.inl fv))) :: wn u) := hD
  refine W.widen (k := mc) (n := ms) (by omega) (by omega) ?_
  refine W.eq (g2 := F0 m 7 ls [.int (vv u), .int (nI 0), .ref oo]) rfl ?_
  refine lv_i2l (v := (vv u).toInt64) hx hb dL_merged_7 (rfl) ?_
  refine va_last hx hb hK hP hD hS 0 1 rfl rfl (vp_in_nI (by omega) (by omega)) dL_merged_8 (fun H locs hP hD hS => ?_)
  have hP : va_P D vwCl ((oo, .inl (cJ, 1, .inr (.inl (vp_updL fv (nI 0).toNatClampNeg ((vv u).toInt64))))) :: wn u) H := hP
  have hD : va_D A ((oo, .inl (cJ, 1, .inr (.inl (vp_updL fv (nI 0).toNatClampNeg ((vv u).toInt64))))) :: wn u) := hD
  rw [show vp_updL fv (nI 0).toNatClampNeg ((vv u).toInt64) = vp_updL fv 0 (vv u).toInt64 from upL _ (by omega)] at hP hD
  refine lv_goto (tgt := 15) hx hb dL_merged_9 (by decide) ?_
  refine lv_iconst (v := nI 0) hx hb dL_merged_15 (by decide) ?_
  exact wr_i u hx hb hr hlocks hP hD hS dL_merged_16 rfl hu
set_option maxHeartbeats 4000000 in
set_option maxRecDepth 100000 in
/-- hangs, where the class returns -/
theorem wl_hangs {Su : Type} (vv : Su → Int32) (post : Su → Prop) (wn : Su → va_W) (mc ms : Nat) (rm : Room) (x : Int32) (hrm : rm.cells = mc ∧ rm.slots = ms ∧ rm.frames ≤ 7 ∧ rm.locals ≤ 103) (hM : ∀ sz, Met l yX2_hangs wsX2_hangs rm (wr_P D [(cI, .int), (cJ, .long)] (xW h hn ow fi ma ro ha oa na sa he ob nb sb cI cJ ic lc stp ap cnt len fo ff fk fr oA cA rA tA gA nA sA oB cB rB tB gB nB sB) sz tp [.ref h, .int x]) (wx D [(cI, .int), (cJ, .long)] (va_A (xW h hn ow fi ma ro ha oa na sa he ob nb sb cI cJ ic lc stp ap cnt len fo ff fk fr oA cA rA tA gA nA sA oB cB rB tB gB nB sB) sz) (fun u => some (.int (vv u))) post wn) mc ms (va_A (xW h hn ow fi ma ro ha oa na sa he ob nb sb cI cJ ic lc stp ap cnt len fo ff fk fr oA cA rA tA gA nA sA oB cB rB tB gB nB sB) sz)) (sz : Nat) : Met l yL_hangs wsL_hangs { frames := 8, cells := mc, slots := ms, locals := 124 } (wl_P D [(cI, .int), (cJ, .long)] ((oo, .inl (cJ, 1, .inr (.inl fv))) :: xW h hn ow fi ma ro ha oa na sa he ob nb sb cI cJ ic lc stp ap cnt len fo ff fk fr oA cA rA tA gA nA sA oB cB rB tB gB nB sB) sz tp [.ref h, .int x, .ref oo]) (wx (Su := Su) D [(cI, .int), (cJ, .long)] (va_A ((oo, .inl (cJ, 1, .inr (.inl fv))) :: xW h hn ow fi ma ro ha oa na sa he ob nb sb cI cJ ic lc stp ap cnt len fo ff fk fr oA cA rA tA gA nA sA oB cB rB tB gB nB sB) sz) (fun _ => some (.int (nI 0))) (post) (fun u => (oo, .inl (cJ, 1, .inr (.inl (vp_updL fv 0 (vv u).toInt64)))) :: wn u)) mc ms (va_A ((oo, .inl (cJ, 1, .inr (.inl fv))) :: xW h hn ow fi ma ro ha oa na sa he ob nb sb cI cJ ic lc stp ap cnt len fo ff fk fr oA cA rA tA gA nA sA oB cB rB tB gB nB sB) sz) := by
  refine mt_ofWH (cc := cL_hangs) (maxL := 4) (ret := (some .int)) (hh := [(0, 9, 12, 25)]) (by decide) rfl ?_
  intro p e s m args below meth c s₁ B hml htb hv
  obtain ⟨rfl, hsz, ⟨hP, hK, hD0⟩, hE, hNC⟩ := hv
  have hx := B.exec
  have hb := B.bytes
  have hr := B.returns
  have hts := atoms_spec (ws := wsL_hangs) B.pre
  have hown : s.vm.findClass RL = some m.cls := findClass_of_methodNamed B.named
  have hlocks := B.notSynchronized
  subst hsz
  have hD := hD0.self (sz := s.heap.size)
  generalize hAe : va_A ((oo, .inl (cJ, 1, .inr (.inl fv))) :: xW h hn ow fi ma ro ha oa na sa he ob nb sb cI cJ ic lc stp ap cnt len fo ff fk fr oA cA rA tA gA nA sA oB cB rB tB gB nB sB) s.heap.size = A at hD hE ⊢
  have hA : ∀ q : Nat, s.heap.size ≤ q → A q := fun q h => by rw [← hAe]; exact Or.inr h
  have hS : va_S A s.heap s.heap [] := va_S.rf
  have hP : va_P D vwCl [(oo, .inl (cJ, 1, .inr (.inl fv))), (h, .inr (2, [.ref hn, .ref ha, .ref he, .int (nI ic), .int (nI lc), .int (nI stp), .int ap])), (hn, .inr (1, [.int (nI cnt), .ref ow, .ref fi, .ref ma, .ref ro])), (ow, .inl (cI, 400, .inl fo)), (fi, .inl (cI, 400, .inl ff)), (ma, .inl (cJ, 400, .inr (.inl fk))), (ro, .inl (cJ, len, .inr (.inl fr))), (ha, .inr (0, [.ref oa, .ref na, .ref sa, .int (nI oA), .int (nI cA), .int (nI rA), .int (nI tA)])), (oa, .inl (cI, 16, .inl (fun j => nI (gA j)))), (na, .inl (cI, 4, .inl (fun j => nI (nA j)))), (sa, .inl (cI, 16, .inl sA)), (he, .inr (0, [.ref ob, .ref nb, .ref sb, .int (nI oB), .int (nI cB), .int (nI rB), .int (nI tB)])), (ob, .inl (cI, 16, .inl (fun j => nI (gB j)))), (nb, .inl (cI, 4, .inl (fun j => nI (nB j)))), (sb, .inl (cI, 16, .inl sB))] s.heap := hP
  have hD : va_D A [(oo, .inl (cJ, 1, .inr (.inl fv))), (h, .inr (2, [.ref hn, .ref ha, .ref he, .int (nI ic), .int (nI lc), .int (nI stp), .int ap])), (hn, .inr (1, [.int (nI cnt), .ref ow, .ref fi, .ref ma, .ref ro])), (ow, .inl (cI, 400, .inl fo)), (fi, .inl (cI, 400, .inl ff)), (ma, .inl (cJ, 400, .inr (.inl fk))), (ro, .inl (cJ, len, .inr (.inl fr))), (ha, .inr (0, [.ref oa, .ref na, .ref sa, .int (nI oA), .int (nI cA), .int (nI rA), .int (nI tA)])), (oa, .inl (cI, 16, .inl (fun j => nI (gA j)))), (na, .inl (cI, 4, .inl (fun j => nI (nA j)))), (sa, .inl (cI, 16, .inl sA)), (he, .inr (0, [.ref ob, .ref nb, .ref sb, .int (nI oB), .int (nI cB), .int (nI rB), .int (nI tB)])), (ob, .inl (cI, 16, .inl (fun j => nI (gB j)))), (nb, .inl (cI, 4, .inl (fun j => nI (nB j)))), (sb, .inl (cI, 16, .inl sB))] := hD
  have hl := lv_entry ([.ref h, .int x, .ref oo]) (n := 4) (Nat.le_of_ble_eq_true rfl)
  rw [lg_entry_eq]
  generalize (lg_sl ([.ref h, .int x, .ref oo]) ++ List.replicate (4 - (lg_sl ([.ref h, .int x, .ref oo])).length) Slot.unset).toArray = ls at hl ⊢
  have hl : lv_has ls 4 [(0, .ref h), (1, .int x), (2, .ref oo)] := hl
  obtain ⟨hrc, hrs, hr1, hr2⟩ := hrm
  refine lv_aload_n hx hb dL_hangs_0 rfl (lv_at hl 2 rfl) ?_
  refine lv_iconst (v := nI 0) hx hb dL_hangs_1 (by decide) ?_
  refine lv_aload_n hx hb dL_hangs_2 rfl (lv_at hl 0 rfl) ?_
  refine lv_iload_n hx hb dL_hangs_3 rfl (lv_at hl 1 rfl) ?_
  refine wr_V (As := [.int x]) (rest := [.int (nI 0), .ref oo]) (wc := [(h, .inr (2, [.ref hn, .ref ha, .ref he, .int (nI ic), .int (nI lc), .int (nI stp), .int ap])), (hn, .inr (1, [.int (nI cnt), .ref ow, .ref fi, .ref ma, .ref ro])), (ow, .inl (cI, 400, .inl fo)), (fi, .inl (cI, 400, .inl ff)), (ma, .inl (cJ, 400, .inr (.inl fk))), (ro, .inl (cJ, len, .inr (.inl fr))), (ha, .inr (0, [.ref oa, .ref na, .ref sa, .int (nI oA), .int (nI cA), .int (nI rA), .int (nI tA)])), (oa, .inl (cI, 16, .inl (fun j => nI (gA j)))), (na, .inl (cI, 4, .inl (fun j => nI (nA j)))), (sa, .inl (cI, 16, .inl sA)), (he, .inr (0, [.ref ob, .ref nb, .ref sb, .int (nI oB), .int (nI cB), .int (nI rB), .int (nI tB)])), (ob, .inl (cI, 16, .inl (fun j => nI (gB j)))), (nb, .inl (cI, 4, .inl (fun j => nI (nB j)))), (sb, .inl (cI, 16, .inl sB))]) (wr := [(oo, .inl (cJ, 1, .inr (.inl fv)))]) (ci := 2) (q0 := 1) ⟨hx, hb, hml, hown, hts⟩ (hM _) (cwV 1 hts gL_hangs_X2_hangs rfl hrc hrs (by decide +kernel) ⟨by show _ ≤ _; simp only [headSpec]; omega, by show _ ≤ _; simp only [headSpec]; omega⟩) rfl rfl rfl hl.1 rfl (Nat.le_of_ble_eq_true rfl) dL_hangs_4 ⟨by show _ ≤ _; simp only [headSpec]; omega, by show _ ≤ _; simp only [headSpec]; omega⟩ hK hP hD hS hA hE [1, 2, 3, 4, 5, 6, 7, 8, 9, 10, 11, 12, 13, 14] [0] rfl rfl (by decide) (by decide) (by decide) (fun u H locs hu hP hD hS => ?_)
  have hP : va_P D vwCl ((oo, .inl (cJ, 1, .inr (.inl fv))) :: wn u) H := hP
  have hD : va_D A ((oo, .inl (cJ, 1, .inr (.inl fv))) :: wn u) := hD
  refine W.widen (k := mc) (n := ms) (by omega) (by omega) ?_
  refine W.eq (g2 := F0 m 7 ls [.int (vv u), .int (nI 0), .ref oo]) rfl ?_
  refine lv_i2l (v := (vv u).toInt64) hx hb dL_hangs_7 (rfl) ?_
  refine va_last hx hb hK hP hD hS 0 1 rfl rfl (vp_in_nI (by omega) (by omega)) dL_hangs_8 (fun H locs hP hD hS => ?_)
  have hP : va_P D vwCl ((oo, .inl (cJ, 1, .inr (.inl (vp_updL fv (nI 0).toNatClampNeg ((vv u).toInt64))))) :: wn u) H := hP
  have hD : va_D A ((oo, .inl (cJ, 1, .inr (.inl (vp_updL fv (nI 0).toNatClampNeg ((vv u).toInt64))))) :: wn u) := hD
  rw [show vp_updL fv (nI 0).toNatClampNeg ((vv u).toInt64) = vp_updL fv 0 (vv u).toInt64 from upL _ (by omega)] at hP hD
  refine lv_goto (tgt := 15) hx hb dL_hangs_9 (by decide) ?_
  refine lv_iconst (v := nI 0) hx hb dL_hangs_15 (by decide) ?_
  exact wr_i u hx hb hr hlocks hP hD hS dL_hangs_16 rfl hu
set_option maxHeartbeats 4000000 in
set_option maxRecDepth 100000 in
/-- ones, where the class returns -/
theorem wl_ones {Su : Type} (vv : Su → Int32) (post : Su → Prop) (wn : Su → va_W) (mc ms : Nat) (rm : Room) (x : Int32) (hrm : rm.cells = mc ∧ rm.slots = ms ∧ rm.frames ≤ 7 ∧ rm.locals ≤ 103) (hM : ∀ sz, Met l yX2_ones wsX2_ones rm (wr_P D [(cI, .int), (cJ, .long)] (xW h hn ow fi ma ro ha oa na sa he ob nb sb cI cJ ic lc stp ap cnt len fo ff fk fr oA cA rA tA gA nA sA oB cB rB tB gB nB sB) sz tp [.ref h, .int x]) (wx D [(cI, .int), (cJ, .long)] (va_A (xW h hn ow fi ma ro ha oa na sa he ob nb sb cI cJ ic lc stp ap cnt len fo ff fk fr oA cA rA tA gA nA sA oB cB rB tB gB nB sB) sz) (fun u => some (.int (vv u))) post wn) mc ms (va_A (xW h hn ow fi ma ro ha oa na sa he ob nb sb cI cJ ic lc stp ap cnt len fo ff fk fr oA cA rA tA gA nA sA oB cB rB tB gB nB sB) sz)) (sz : Nat) : Met l yL_ones wsL_ones { frames := 8, cells := mc, slots := ms, locals := 124 } (wl_P D [(cI, .int), (cJ, .long)] ((oo, .inl (cJ, 1, .inr (.inl fv))) :: xW h hn ow fi ma ro ha oa na sa he ob nb sb cI cJ ic lc stp ap cnt len fo ff fk fr oA cA rA tA gA nA sA oB cB rB tB gB nB sB) sz tp [.ref h, .int x, .ref oo]) (wx (Su := Su) D [(cI, .int), (cJ, .long)] (va_A ((oo, .inl (cJ, 1, .inr (.inl fv))) :: xW h hn ow fi ma ro ha oa na sa he ob nb sb cI cJ ic lc stp ap cnt len fo ff fk fr oA cA rA tA gA nA sA oB cB rB tB gB nB sB) sz) (fun _ => some (.int (nI 0))) (post) (fun u => (oo, .inl (cJ, 1, .inr (.inl (vp_updL fv 0 (vv u).toInt64)))) :: wn u)) mc ms (va_A ((oo, .inl (cJ, 1, .inr (.inl fv))) :: xW h hn ow fi ma ro ha oa na sa he ob nb sb cI cJ ic lc stp ap cnt len fo ff fk fr oA cA rA tA gA nA sA oB cB rB tB gB nB sB) sz) := by
  refine mt_ofWH (cc := cL_ones) (maxL := 4) (ret := (some .int)) (hh := [(0, 9, 12, 25)]) (by decide) rfl ?_
  intro p e s m args below meth c s₁ B hml htb hv
  obtain ⟨rfl, hsz, ⟨hP, hK, hD0⟩, hE, hNC⟩ := hv
  have hx := B.exec
  have hb := B.bytes
  have hr := B.returns
  have hts := atoms_spec (ws := wsL_ones) B.pre
  have hown : s.vm.findClass RL = some m.cls := findClass_of_methodNamed B.named
  have hlocks := B.notSynchronized
  subst hsz
  have hD := hD0.self (sz := s.heap.size)
  generalize hAe : va_A ((oo, .inl (cJ, 1, .inr (.inl fv))) :: xW h hn ow fi ma ro ha oa na sa he ob nb sb cI cJ ic lc stp ap cnt len fo ff fk fr oA cA rA tA gA nA sA oB cB rB tB gB nB sB) s.heap.size = A at hD hE ⊢
  have hA : ∀ q : Nat, s.heap.size ≤ q → A q := fun q h => by rw [← hAe]; exact Or.inr h
  have hS : va_S A s.heap s.heap [] := va_S.rf
  have hP : va_P D vwCl [(oo, .inl (cJ, 1, .inr (.inl fv))), (h, .inr (2, [.ref hn, .ref ha, .ref he, .int (nI ic), .int (nI lc), .int (nI stp), .int ap])), (hn, .inr (1, [.int (nI cnt), .ref ow, .ref fi, .ref ma, .ref ro])), (ow, .inl (cI, 400, .inl fo)), (fi, .inl (cI, 400, .inl ff)), (ma, .inl (cJ, 400, .inr (.inl fk))), (ro, .inl (cJ, len, .inr (.inl fr))), (ha, .inr (0, [.ref oa, .ref na, .ref sa, .int (nI oA), .int (nI cA), .int (nI rA), .int (nI tA)])), (oa, .inl (cI, 16, .inl (fun j => nI (gA j)))), (na, .inl (cI, 4, .inl (fun j => nI (nA j)))), (sa, .inl (cI, 16, .inl sA)), (he, .inr (0, [.ref ob, .ref nb, .ref sb, .int (nI oB), .int (nI cB), .int (nI rB), .int (nI tB)])), (ob, .inl (cI, 16, .inl (fun j => nI (gB j)))), (nb, .inl (cI, 4, .inl (fun j => nI (nB j)))), (sb, .inl (cI, 16, .inl sB))] s.heap := hP
  have hD : va_D A [(oo, .inl (cJ, 1, .inr (.inl fv))), (h, .inr (2, [.ref hn, .ref ha, .ref he, .int (nI ic), .int (nI lc), .int (nI stp), .int ap])), (hn, .inr (1, [.int (nI cnt), .ref ow, .ref fi, .ref ma, .ref ro])), (ow, .inl (cI, 400, .inl fo)), (fi, .inl (cI, 400, .inl ff)), (ma, .inl (cJ, 400, .inr (.inl fk))), (ro, .inl (cJ, len, .inr (.inl fr))), (ha, .inr (0, [.ref oa, .ref na, .ref sa, .int (nI oA), .int (nI cA), .int (nI rA), .int (nI tA)])), (oa, .inl (cI, 16, .inl (fun j => nI (gA j)))), (na, .inl (cI, 4, .inl (fun j => nI (nA j)))), (sa, .inl (cI, 16, .inl sA)), (he, .inr (0, [.ref ob, .ref nb, .ref sb, .int (nI oB), .int (nI cB), .int (nI rB), .int (nI tB)])), (ob, .inl (cI, 16, .inl (fun j => nI (gB j)))), (nb, .inl (cI, 4, .inl (fun j => nI (nB j)))), (sb, .inl (cI, 16, .inl sB))] := hD
  have hl := lv_entry ([.ref h, .int x, .ref oo]) (n := 4) (Nat.le_of_ble_eq_true rfl)
  rw [lg_entry_eq]
  generalize (lg_sl ([.ref h, .int x, .ref oo]) ++ List.replicate (4 - (lg_sl ([.ref h, .int x, .ref oo])).length) Slot.unset).toArray = ls at hl ⊢
  have hl : lv_has ls 4 [(0, .ref h), (1, .int x), (2, .ref oo)] := hl
  obtain ⟨hrc, hrs, hr1, hr2⟩ := hrm
  refine lv_aload_n hx hb dL_ones_0 rfl (lv_at hl 2 rfl) ?_
  refine lv_iconst (v := nI 0) hx hb dL_ones_1 (by decide) ?_
  refine lv_aload_n hx hb dL_ones_2 rfl (lv_at hl 0 rfl) ?_
  refine lv_iload_n hx hb dL_ones_3 rfl (lv_at hl 1 rfl) ?_
  refine wr_V (As := [.int x]) (rest := [.int (nI 0), .ref oo]) (wc := [(h, .inr (2, [.ref hn, .ref ha, .ref he, .int (nI ic), .int (nI lc), .int (nI stp), .int ap])), (hn, .inr (1, [.int (nI cnt), .ref ow, .ref fi, .ref ma, .ref ro])), (ow, .inl (cI, 400, .inl fo)), (fi, .inl (cI, 400, .inl ff)), (ma, .inl (cJ, 400, .inr (.inl fk))), (ro, .inl (cJ, len, .inr (.inl fr))), (ha, .inr (0, [.ref oa, .ref na, .ref sa, .int (nI oA), .int (nI cA), .int (nI rA), .int (nI tA)])), (oa, .inl (cI, 16, .inl (fun j => nI (gA j)))), (na, .inl (cI, 4, .inl (fun j => nI (nA j)))), (sa, .inl (cI, 16, .inl sA)), (he, .inr (0, [.ref ob, .ref nb, .ref sb, .int (nI oB), .int (nI cB), .int (nI rB), .int (nI tB)])), (ob, .inl (cI, 16, .inl (fun j => nI (gB j)))), (nb, .inl (cI, 4, .inl (fun j => nI (nB j)))), (sb, .inl (cI, 16, .inl sB))]) (wr := [(oo, .inl (cJ, 1, .inr (.inl fv)))]) (ci := 2) (q0 := 1) ⟨hx, hb, hml, hown, hts⟩ (hM _) (cwV 1 hts gL_ones_X2_ones rfl hrc hrs (by decide +kernel) ⟨by show _ ≤ _; simp only [headSpec]; omega, by show _ ≤ _; simp only [headSpec]; omega⟩) rfl rfl rfl hl.1 rfl (Nat.le_of_ble_eq_true rfl) dL_ones_4 ⟨by show _ ≤ _; simp only [headSpec]; omega, by show _ ≤ _; simp only [headSpec]; omega⟩ hK hP hD hS hA hE [1, 2, 3, 4, 5, 6, 7, 8, 9, 10, 11, 12, 13, 14] [0] rfl rfl (by decide) (by decide) (by decide) (fun u H locs hu hP hD hS => ?_)
  have hP : va_P D vwCl ((oo, .inl (cJ, 1, .inr (.inl fv))) :: wn u) H := hP
  have hD : va_D A ((oo, .inl (cJ, 1, .inr (.inl fv))) :: wn u) := hD
  refine W.widen (k := mc) (n := ms) (by omega) (by omega) ?_
  refine W.eq (g2 := F0 m 7 ls [.int (vv u), .int (nI 0), .ref oo]) rfl ?_
  refine lv_i2l (v := (vv u).toInt64) hx hb dL_ones_7 (rfl) ?_
  refine va_last hx hb hK hP hD hS 0 1 rfl rfl (vp_in_nI (by omega) (by omega)) dL_ones_8 (fun H locs hP hD hS => ?_)
  have hP : va_P D vwCl ((oo, .inl (cJ, 1, .inr (.inl (vp_updL fv (nI 0).toNatClampNeg ((vv u).toInt64))))) :: wn u) H := hP
  have hD : va_D A ((oo, .inl (cJ, 1, .inr (.inl (vp_updL fv (nI 0).toNatClampNeg ((vv u).toInt64))))) :: wn u) := hD
  rw [show vp_updL fv (nI 0).toNatClampNeg ((vv u).toInt64) = vp_updL fv 0 (vv u).toInt64 from upL _ (by omega)] at hP hD
  refine lv_goto (tgt := 15) hx hb dL_ones_9 (by decide) ?_
  refine lv_iconst (v := nI 0) hx hb dL_ones_15 (by decide) ?_
  exact wr_i u hx hb hr hlocks hP hD hS dL_ones_16 rfl hu
set_option maxHeartbeats 4000000 in
set_option maxRecDepth 100000 in
/-- value, where the class returns -/
theorem wl_value {Su : Type} (vv : Su → Int32) (post : Su → Prop) (wn : Su → va_W) (mc ms : Nat) (rm : Room) (x y : Int32) (hrm : rm.cells = mc ∧ rm.slots = ms ∧ rm.frames ≤ 7 ∧ rm.locals ≤ 103) (hM : ∀ sz, Met l yX2_value wsX2_value rm (wr_P D [(cI, .int), (cJ, .long)] (xW h hn ow fi ma ro ha oa na sa he ob nb sb cI cJ ic lc stp ap cnt len fo ff fk fr oA cA rA tA gA nA sA oB cB rB tB gB nB sB) sz tp [.ref h, .int x, .int y]) (wx D [(cI, .int), (cJ, .long)] (va_A (xW h hn ow fi ma ro ha oa na sa he ob nb sb cI cJ ic lc stp ap cnt len fo ff fk fr oA cA rA tA gA nA sA oB cB rB tB gB nB sB) sz) (fun u => some (.int (vv u))) post wn) mc ms (va_A (xW h hn ow fi ma ro ha oa na sa he ob nb sb cI cJ ic lc stp ap cnt len fo ff fk fr oA cA rA tA gA nA sA oB cB rB tB gB nB sB) sz)) (sz : Nat) : Met l yL_value wsL_value { frames := 8, cells := mc, slots := ms, locals := 125 } (wl_P D [(cI, .int), (cJ, .long)] ((oo, .inl (cJ, 1, .inr (.inl fv))) :: xW h hn ow fi ma ro ha oa na sa he ob nb sb cI cJ ic lc stp ap cnt len fo ff fk fr oA cA rA tA gA nA sA oB cB rB tB gB nB sB) sz tp [.ref h, .int x, .int y, .ref oo]) (wx (Su := Su) D [(cI, .int), (cJ, .long)] (va_A ((oo, .inl (cJ, 1, .inr (.inl fv))) :: xW h hn ow fi ma ro ha oa na sa he ob nb sb cI cJ ic lc stp ap cnt len fo ff fk fr oA cA rA tA gA nA sA oB cB rB tB gB nB sB) sz) (fun _ => some (.int (nI 0))) (post) (fun u => (oo, .inl (cJ, 1, .inr (.inl (vp_updL fv 0 (vv u).toInt64)))) :: wn u)) mc ms (va_A ((oo, .inl (cJ, 1, .inr (.inl fv))) :: xW h hn ow fi ma ro ha oa na sa he ob nb sb cI cJ ic lc stp ap cnt len fo ff fk fr oA cA rA tA gA nA sA oB cB rB tB gB nB sB) sz) := by
  refine mt_ofWH (cc := cL_value) (maxL := 5) (ret := (some .int)) (hh := [(0, 10, 13, 25)]) (by decide) rfl ?_
  intro p e s m args below meth c s₁ B hml htb hv
  obtain ⟨rfl, hsz, ⟨hP, hK, hD0⟩, hE, hNC⟩ := hv
  have hx := B.exec
  have hb := B.bytes
  have hr := B.returns
  have hts := atoms_spec (ws := wsL_value) B.pre
  have hown : s.vm.findClass RL = some m.cls := findClass_of_methodNamed B.named
  have hlocks := B.notSynchronized
  subst hsz
  have hD := hD0.self (sz := s.heap.size)
  generalize hAe : va_A ((oo, .inl (cJ, 1, .inr (.inl fv))) :: xW h hn ow fi ma ro ha oa na sa he ob nb sb cI cJ ic lc stp ap cnt len fo ff fk fr oA cA rA tA gA nA sA oB cB rB tB gB nB sB) s.heap.size = A at hD hE ⊢
  have hA : ∀ q : Nat, s.heap.size ≤ q → A q := fun q h => by rw [← hAe]; exact Or.inr h
  have hS : va_S A s.heap s.heap [] := va_S.rf
  have hP : va_P D vwCl [(oo, .inl (cJ, 1, .inr (.inl fv))), (h, .inr (2, [.ref hn, .ref ha, .ref he, .int (nI ic), .int (nI lc), .int (nI stp), .int ap])), (hn, .inr (1, [.int (nI cnt), .ref ow, .ref fi, .ref ma, .ref ro])), (ow, .inl (cI, 400, .inl fo)), (fi, .inl (cI, 400, .inl ff)), (ma, .inl (cJ, 400, .inr (.inl fk))), (ro, .inl (cJ, len, .inr (.inl fr))), (ha, .inr (0, [.ref oa, .ref na, .ref sa, .int (nI oA), .int (nI cA), .int (nI rA), .int (nI tA)])), (oa, .inl (cI, 16, .inl (fun j => nI (gA j)))), (na, .inl (cI, 4, .inl (fun j => nI (nA j)))), (sa, .inl (cI, 16, .inl sA)), (he, .inr (0, [.ref ob, .ref nb, .ref sb, .int (nI oB), .int (nI cB), .int (nI rB), .int (nI tB)])), (ob, .inl (cI, 16, .inl (fun j => nI (gB j)))), (nb, .inl (cI, 4, .inl (fun j => nI (nB j)))), (sb, .inl (cI, 16, .inl sB))] s.heap := hP
  have hD : va_D A [(oo, .inl (cJ, 1, .inr (.inl fv))), (h, .inr (2, [.ref hn, .ref ha, .ref he, .int (nI ic), .int (nI lc), .int (nI stp), .int ap])), (hn, .inr (1, [.int (nI cnt), .ref ow, .ref fi, .ref ma, .ref ro])), (ow, .inl (cI, 400, .inl fo)), (fi, .inl (cI, 400, .inl ff)), (ma, .inl (cJ, 400, .inr (.inl fk))), (ro, .inl (cJ, len, .inr (.inl fr))), (ha, .inr (0, [.ref oa, .ref na, .ref sa, .int (nI oA), .int (nI cA), .int (nI rA), .int (nI tA)])), (oa, .inl (cI, 16, .inl (fun j => nI (gA j)))), (na, .inl (cI, 4, .inl (fun j => nI (nA j)))), (sa, .inl (cI, 16, .inl sA)), (he, .inr (0, [.ref ob, .ref nb, .ref sb, .int (nI oB), .int (nI cB), .int (nI rB), .int (nI tB)])), (ob, .inl (cI, 16, .inl (fun j => nI (gB j)))), (nb, .inl (cI, 4, .inl (fun j => nI (nB j)))), (sb, .inl (cI, 16, .inl sB))] := hD
  have hl := lv_entry ([.ref h, .int x, .int y, .ref oo]) (n := 5) (Nat.le_of_ble_eq_true rfl)
  rw [lg_entry_eq]
  generalize (lg_sl ([.ref h, .int x, .int y, .ref oo]) ++ List.replicate (5 - (lg_sl ([.ref h, .int x, .int y, .ref oo])).length) Slot.unset).toArray = ls at hl ⊢
  have hl : lv_has ls 5 [(0, .ref h), (1, .int x), (2, .int y), (3, .ref oo)] := hl
  obtain ⟨hrc, hrs, hr1, hr2⟩ := hrm
  refine lv_aload_n hx hb dL_value_0 rfl (lv_at hl 3 rfl) ?_
  refine lv_iconst (v := nI 0) hx hb dL_value_1 (by decide) ?_
  refine lv_aload_n hx hb dL_value_2 rfl (lv_at hl 0 rfl) ?_
  refine lv_iload_n hx hb dL_value_3 rfl (lv_at hl 1 rfl) ?_
  refine lv_iload_n hx hb dL_value_4 rfl (lv_at hl 2 rfl) ?_
  refine wr_V (As := [.int x, .int y]) (rest := [.int (nI 0), .ref oo]) (wc := [(h, .inr (2, [.ref hn, .ref ha, .ref he, .int (nI ic), .int (nI lc), .int (nI stp), .int ap])), (hn, .inr (1, [.int (nI cnt), .ref ow, .ref fi, .ref ma, .ref ro])), (ow, .inl (cI, 400, .inl fo)), (fi, .inl (cI, 400, .inl ff)), (ma, .inl (cJ, 400, .inr (.inl fk))), (ro, .inl (cJ, len, .inr (.inl fr))), (ha, .inr (0, [.ref oa, .ref na, .ref sa, .int (nI oA), .int (nI cA), .int (nI rA), .int (nI tA)])), (oa, .inl (cI, 16, .inl (fun j => nI (gA j)))), (na, .inl (cI, 4, .inl (fun j => nI (nA j)))), (sa, .inl (cI, 16, .inl sA)), (he, .inr (0, [.ref ob, .ref nb, .ref sb, .int (nI oB), .int (nI cB), .int (nI rB), .int (nI tB)])), (ob, .inl (cI, 16, .inl (fun j => nI (gB j)))), (nb, .inl (cI, 4, .inl (fun j => nI (nB j)))), (sb, .inl (cI, 16, .inl sB))]) (wr := [(oo, .inl (cJ, 1, .inr (.inl fv)))]) (ci := 2) (q0 := 1) ⟨hx, hb, hml, hown, hts⟩ (hM _) (cwV 2 hts gL_value_X2_value rfl hrc hrs (by decide +kernel) ⟨by show _ ≤ _; simp only [headSpec]; omega, by show _ ≤ _; simp only [headSpec]; omega⟩) rfl rfl rfl hl.1 rfl (Nat.le_of_ble_eq_true rfl) dL_value_5 ⟨by show _ ≤ _; simp only [headSpec]; omega, by show _ ≤ _; simp only [headSpec]; omega⟩ hK hP hD hS hA hE [1, 2, 3, 4, 5, 6, 7, 8, 9, 10, 11, 12, 13, 14] [0] rfl rfl (by decide) (by decide) (by decide) (fun u H locs hu hP hD hS => ?_)
  have hP : va_P D vwCl ((oo, .inl (cJ, 1, .inr (.inl fv))) :: wn u) H := hP
  have hD : va_D A ((oo, .inl (cJ, 1, .inr (.inl fv))) :: wn u) := hD
  refine W.widen (k := mc) (n := ms) (by omega) (by omega) ?_
  refine W.eq (g2 := F0 m 8 ls [.int (vv u), .int (nI 0), .ref oo]) rfl ?_
  refine lv_i2l (v := (vv u).toInt64) hx hb dL_value_8 (rfl) ?_
  refine va_last hx hb hK hP hD hS 0 1 rfl rfl (vp_in_nI (by omega) (by omega)) dL_value_9 (fun H locs hP hD hS => ?_)
  have hP : va_P D vwCl ((oo, .inl (cJ, 1, .inr (.inl (vp_updL fv (nI 0).toNatClampNeg ((vv u).toInt64))))) :: wn u) H := hP
  have hD : va_D A ((oo, .inl (cJ, 1, .inr (.inl (vp_updL fv (nI 0).toNatClampNeg ((vv u).toInt64))))) :: wn u) := hD
  rw [show vp_updL fv (nI 0).toNatClampNeg ((vv u).toInt64) = vp_updL fv 0 (vv u).toInt64 from upL _ (by omega)] at hP hD
  refine lv_goto (tgt := 17) hx hb dL_value_10 (by decide) ?_
  refine lv_iconst (v := nI 0) hx hb dL_value_17 (by decide) ?_
  exact wr_i u hx hb hr hlocks hP hD hS dL_value_18 rfl hu
set_option maxHeartbeats 4000000 in
set_option maxRecDepth 100000 in
/-- differs, where the class returns -/
theorem wl_differs {Su : Type} (vv : Su → Int32) (post : Su → Prop) (wn : Su → va_W) (mc ms : Nat) (rm : Room) (x : Int32) (hrm : rm.cells = mc ∧ rm.slots = ms ∧ rm.frames ≤ 6 ∧ rm.locals ≤ 82) (hM : ∀ sz, Met l yX2_differs wsX2_differs rm (wr_P D [(cI, .int), (cJ, .long)] (xW h hn ow fi ma ro ha oa na sa he ob nb sb cI cJ ic lc stp ap cnt len fo ff fk fr oA cA rA tA gA nA sA oB cB rB tB gB nB sB) sz tp [.ref h, .int x]) (wx D [(cI, .int), (cJ, .long)] (va_A (xW h hn ow fi ma ro ha oa na sa he ob nb sb cI cJ ic lc stp ap cnt len fo ff fk fr oA cA rA tA gA nA sA oB cB rB tB gB nB sB) sz) (fun u => some (.int (vv u))) post wn) mc ms (va_A (xW h hn ow fi ma ro ha oa na sa he ob nb sb cI cJ ic lc stp ap cnt len fo ff fk fr oA cA rA tA gA nA sA oB cB rB tB gB nB sB) sz)) (sz : Nat) : Met l yL_differs wsL_differs { frames := 7, cells := mc, slots := ms, locals := 106 } (wl_P D [(cI, .int), (cJ, .long)] ((oo, .inl (cJ, 1, .inr (.inl fv))) :: xW h hn ow fi ma ro ha oa na sa he ob nb sb cI cJ ic lc stp ap cnt len fo ff fk fr oA cA rA tA gA nA sA oB cB rB tB gB nB sB) sz tp [.ref h, .int x, .ref oo]) (wx (Su := Su) D [(cI, .int), (cJ, .long)] (va_A ((oo, .inl (cJ, 1, .inr (.inl fv))) :: xW h hn ow fi ma ro ha oa na sa he ob nb sb cI cJ ic lc stp ap cnt len fo ff fk fr oA cA rA tA gA nA sA oB cB rB tB gB nB sB) sz) (fun _ => some (.int (nI 0))) (post) (fun u => (oo, .inl (cJ, 1, .inr (.inl (vp_updL fv 0 (vv u).toInt64)))) :: wn u)) mc ms (va_A ((oo, .inl (cJ, 1, .inr (.inl fv))) :: xW h hn ow fi ma ro ha oa na sa he ob nb sb cI cJ ic lc stp ap cnt len fo ff fk fr oA cA rA tA gA nA sA oB cB rB tB gB nB sB) sz) := by
  refine mt_ofWH (cc := cL_differs) (maxL := 4) (ret := (some .int)) (hh := [(0, 9, 12, 25)]) (by decide) rfl ?_
  intro p e s m args below meth c s₁ B hml htb hv
  obtain ⟨rfl, hsz, ⟨hP, hK, hD0⟩, hE, hNC⟩ := hv
  have hx := B.exec
  have hb := B.bytes
  have hr := B.returns
  have hts := atoms_spec (ws := wsL_differs) B.pre
  have hown : s.vm.findClass RL = some m.cls := findClass_of_methodNamed B.named
  have hlocks := B.notSynchronized
  subst hsz
  have hD := hD0.self (sz := s.heap.size)
  generalize hAe : va_A ((oo, .inl (cJ, 1, .inr (.inl fv))) :: xW h hn ow fi ma ro ha oa na sa he ob nb sb cI cJ ic lc stp ap cnt len fo ff fk fr oA cA rA tA gA nA sA oB cB rB tB gB nB sB) s.heap.size = A at hD hE ⊢
  have hA : ∀ q : Nat, s.heap.size ≤ q → A q := fun q h => by rw [← hAe]; exact Or.inr h
  have hS : va_S A s.heap s.heap [] := va_S.rf
  have hP : va_P D vwCl [(oo, .inl (cJ, 1, .inr (.inl fv))), (h, .inr (2, [.ref hn, .ref ha, .ref he, .int (nI ic), .int (nI lc), .int (nI stp), .int ap])), (hn, .inr (1, [.int (nI cnt), .ref ow, .ref fi, .ref ma, .ref ro])), (ow, .inl (cI, 400, .inl fo)), (fi, .inl (cI, 400, .inl ff)), (ma, .inl (cJ, 400, .inr (.inl fk))), (ro, .inl (cJ, len, .inr (.inl fr))), (ha, .inr (0, [.ref oa, .ref na, .ref sa, .int (nI oA), .int (nI cA), .int (nI rA), .int (nI tA)])), (oa, .inl (cI, 16, .inl (fun j => nI (gA j)))), (na, .inl (cI, 4, .inl (fun j => nI (nA j)))), (sa, .inl (cI, 16, .inl sA)), (he, .inr (0, [.ref ob, .ref nb, .ref sb, .int (nI oB), .int (nI cB), .int (nI rB), .int (nI tB)])), (ob, .inl (cI, 16, .inl (fun j => nI (gB j)))), (nb, .inl (cI, 4, .inl (fun j => nI (nB j)))), (sb, .inl (cI, 16, .inl sB))] s.heap := hP
  have hD : va_D A [(oo, .inl (cJ, 1, .inr (.inl fv))), (h, .inr (2, [.ref hn, .ref ha, .ref he, .int (nI ic), .int (nI lc), .int (nI stp), .int ap])), (hn, .inr (1, [.int (nI cnt), .ref ow, .ref fi, .ref ma, .ref ro])), (ow, .inl (cI, 400, .inl fo)), (fi, .inl (cI, 400, .inl ff)), (ma, .inl (cJ, 400, .inr (.inl fk))), (ro, .inl (cJ, len, .inr (.inl fr))), (ha, .inr (0, [.ref oa, .ref na, .ref sa, .int (nI oA), .int (nI cA), .int (nI rA), .int (nI tA)])), (oa, .inl (cI, 16, .inl (fun j => nI (gA j)))), (na, .inl (cI, 4, .inl (fun j => nI (nA j)))), (sa, .inl (cI, 16, .inl sA)), (he, .inr (0, [.ref ob, .ref nb, .ref sb, .int (nI oB), .int (nI cB), .int (nI rB), .int (nI tB)])), (ob, .inl (cI, 16, .inl (fun j => nI (gB j)))), (nb, .inl (cI, 4, .inl (fun j => nI (nB j)))), (sb, .inl (cI, 16, .inl sB))] := hD
  have hl := lv_entry ([.ref h, .int x, .ref oo]) (n := 4) (Nat.le_of_ble_eq_true rfl)
  rw [lg_entry_eq]
  generalize (lg_sl ([.ref h, .int x, .ref oo]) ++ List.replicate (4 - (lg_sl ([.ref h, .int x, .ref oo])).length) Slot.unset).toArray = ls at hl ⊢
  have hl : lv_has ls 4 [(0, .ref h), (1, .int x), (2, .ref oo)] := hl
  obtain ⟨hrc, hrs, hr1, hr2⟩ := hrm
  refine lv_aload_n hx hb dL_differs_0 rfl (lv_at hl 2 rfl) ?_
  refine lv_iconst (v := nI 0) hx hb dL_differs_1 (by decide) ?_
  refine lv_aload_n hx hb dL_differs_2 rfl (lv_at hl 0 rfl) ?_
  refine lv_iload_n hx hb dL_differs_3 rfl (lv_at hl 1 rfl) ?_
  refine wr_V (As := [.int x]) (rest := [.int (nI 0), .ref oo]) (wc := [(h, .inr (2, [.ref hn, .ref ha, .ref he, .int (nI ic), .int (nI lc), .int (nI stp), .int ap])), (hn, .inr (1, [.int (nI cnt), .ref ow, .ref fi, .ref ma, .ref ro])), (ow, .inl (cI, 400, .inl fo)), (fi, .inl (cI, 400, .inl ff)), (ma, .inl (cJ, 400, .inr (.inl fk))), (ro, .inl (cJ, len, .inr (.inl fr))), (ha, .inr (0, [.ref oa, .ref na, .ref sa, .int (nI oA), .int (nI cA), .int (nI rA), .int (nI tA)])), (oa, .inl (cI, 16, .inl (fun j => nI (gA j)))), (na, .inl (cI, 4, .inl (fun j => nI (nA j)))), (sa, .inl (cI, 16, .inl sA)), (he, .inr (0, [.ref ob, .ref nb, .ref sb, .int (nI oB), .int (nI cB), .int (nI rB), .int (nI tB)])), (ob, .inl (cI, 16, .inl (fun j => nI (gB j)))), (nb, .inl (cI, 4, .inl (fun j => nI (nB j)))), (sb, .inl (cI, 16, .inl sB))]) (wr := [(oo, .inl (cJ, 1, .inr (.inl fv)))]) (ci := 2) (q0 := 1) ⟨hx, hb, hml, hown, hts⟩ (hM _) (cwV 1 hts gL_differs_X2_differs rfl hrc hrs (by decide +kernel) ⟨by show _ ≤ _; simp only [headSpec]; omega, by show _ ≤ _; simp only [headSpec]; omega⟩) rfl rfl rfl hl.1 rfl (Nat.le_of_ble_eq_true rfl) dL_differs_4 ⟨by show _ ≤ _; simp only [headSpec]; omega, by show _ ≤ _; simp only [headSpec]; omega⟩ hK hP hD hS hA hE [1, 2, 3, 4, 5, 6, 7, 8, 9, 10, 11, 12, 13, 14] [0] rfl rfl (by decide) (by decide) (by decide) (fun u H locs hu hP hD hS => ?_)
  have hP : va_P D vwCl ((oo, .inl (cJ, 1, .inr (.inl fv))) :: wn u) H := hP
  have hD : va_D A ((oo, .inl (cJ, 1, .inr (.inl fv))) :: wn u) := hD
  refine W.widen (k := mc) (n := ms) (by omega) (by omega) ?_
  refine W.eq (g2 := F0 m 7 ls [.int (vv u), .int (nI 0), .ref oo]) rfl ?_
  refine lv_i2l (v := (vv u).toInt64) hx hb dL_differs_7 (rfl) ?_
  refine va_last hx hb hK hP hD hS 0 1 rfl rfl (vp_in_nI (by omega) (by omega)) dL_differs_8 (fun H locs hP hD hS => ?_)
  have hP : va_P D vwCl ((oo, .inl (cJ, 1, .inr (.inl (vp_updL fv (nI 0).toNatClampNeg ((vv u).toInt64))))) :: wn u) H := hP
  have hD : va_D A ((oo, .inl (cJ, 1, .inr (.inl (vp_updL fv (nI 0).toNatClampNeg ((vv u).toInt64))))) :: wn u) := hD
  rw [show vp_updL fv (nI 0).toNatClampNeg ((vv u).toInt64) = vp_updL fv 0 (vv u).toInt64 from upL _ (by omega)] at hP hD
  refine lv_goto (tgt := 15) hx hb dL_differs_9 (by decide) ?_
  refine lv_iconst (v := nI 0) hx hb dL_differs_15 (by decide) ?_
  exact wr_i u hx hb hr hlocks hP hD hS dL_differs_16 rfl hu
set_option maxHeartbeats 4000000 in
set_option maxRecDepth 100000 in
/-- witness, where the class returns -/
theorem wl_witness {Su : Type} (vv : Su → Int32) (post : Su → Prop) (wn : Su → va_W) (mc ms : Nat) (rm : Room) (x : Int32) (hrm : rm.cells = mc ∧ rm.slots = ms ∧ rm.frames ≤ 6 ∧ rm.locals ≤ 82) (hM : ∀ sz, Met l yX2_witness wsX2_witness rm (wr_P D [(cI, .int), (cJ, .long)] (xW h hn ow fi ma ro ha oa na sa he ob nb sb cI cJ ic lc stp ap cnt len fo ff fk fr oA cA rA tA gA nA sA oB cB rB tB gB nB sB) sz tp [.ref h, .int x]) (wx D [(cI, .int), (cJ, .long)] (va_A (xW h hn ow fi ma ro ha oa na sa he ob nb sb cI cJ ic lc stp ap cnt len fo ff fk fr oA cA rA tA gA nA sA oB cB rB tB gB nB sB) sz) (fun u => some (.int (vv u))) post wn) mc ms (va_A (xW h hn ow fi ma ro ha oa na sa he ob nb sb cI cJ ic lc stp ap cnt len fo ff fk fr oA cA rA tA gA nA sA oB cB rB tB gB nB sB) sz)) (sz : Nat) : Met l yL_witness wsL_witness { frames := 7, cells := mc, slots := ms, locals := 104 } (wl_P D [(cI, .int), (cJ, .long)] ((oo, .inl (cJ, 1, .inr (.inl fv))) :: xW h hn ow fi ma ro ha oa na sa he ob nb sb cI cJ ic lc stp ap cnt len fo ff fk fr oA cA rA tA gA nA sA oB cB rB tB gB nB sB) sz tp [.ref h, .int x, .ref oo]) (wx (Su := Su) D [(cI, .int), (cJ, .long)] (va_A ((oo, .inl (cJ, 1, .inr (.inl fv))) :: xW h hn ow fi ma ro ha oa na sa he ob nb sb cI cJ ic lc stp ap cnt len fo ff fk fr oA cA rA tA gA nA sA oB cB rB tB gB nB sB) sz) (fun _ => some (.int (nI 0))) (post) (fun u => (oo, .inl (cJ, 1, .inr (.inl (vp_updL fv 0 (vv u).toInt64)))) :: wn u)) mc ms (va_A ((oo, .inl (cJ, 1, .inr (.inl fv))) :: xW h hn ow fi ma ro ha oa na sa he ob nb sb cI cJ ic lc stp ap cnt len fo ff fk fr oA cA rA tA gA nA sA oB cB rB tB gB nB sB) sz) := by
  refine mt_ofWH (cc := cL_witness) (maxL := 4) (ret := (some .int)) (hh := [(0, 9, 12, 25)]) (by decide) rfl ?_
  intro p e s m args below meth c s₁ B hml htb hv
  obtain ⟨rfl, hsz, ⟨hP, hK, hD0⟩, hE, hNC⟩ := hv
  have hx := B.exec
  have hb := B.bytes
  have hr := B.returns
  have hts := atoms_spec (ws := wsL_witness) B.pre
  have hown : s.vm.findClass RL = some m.cls := findClass_of_methodNamed B.named
  have hlocks := B.notSynchronized
  subst hsz
  have hD := hD0.self (sz := s.heap.size)
  generalize hAe : va_A ((oo, .inl (cJ, 1, .inr (.inl fv))) :: xW h hn ow fi ma ro ha oa na sa he ob nb sb cI cJ ic lc stp ap cnt len fo ff fk fr oA cA rA tA gA nA sA oB cB rB tB gB nB sB) s.heap.size = A at hD hE ⊢
  have hA : ∀ q : Nat, s.heap.size ≤ q → A q := fun q h => by rw [← hAe]; exact Or.inr h
  have hS : va_S A s.heap s.heap [] := va_S.rf
  have hP : va_P D vwCl [(oo, .inl (cJ, 1, .inr (.inl fv))), (h, .inr (2, [.ref hn, .ref ha, .ref he, .int (nI ic), .int (nI lc), .int (nI stp), .int ap])), (hn, .inr (1, [.int (nI cnt), .ref ow, .ref fi, .ref ma, .ref ro])), (ow, .inl (cI, 400, .inl fo)), (fi, .inl (cI, 400, .inl ff)), (ma, .inl (cJ, 400, .inr (.inl fk))), (ro, .inl (cJ, len, .inr (.inl fr))), (ha, .inr (0, [.ref oa, .ref na, .ref sa, .int (nI oA), .int (nI cA), .int (nI rA), .int (nI tA)])), (oa, .inl (cI, 16, .inl (fun j => nI (gA j)))), (na, .inl (cI, 4, .inl (fun j => nI (nA j)))), (sa, .inl (cI, 16, .inl sA)), (he, .inr (0, [.ref ob, .ref nb, .ref sb, .int (nI oB), .int (nI cB), .int (nI rB), .int (nI tB)])), (ob, .inl (cI, 16, .inl (fun j => nI (gB j)))), (nb, .inl (cI, 4, .inl (fun j => nI (nB j)))), (sb, .inl (cI, 16, .inl sB))] s.heap := hP
  have hD : va_D A [(oo, .inl (cJ, 1, .inr (.inl fv))), (h, .inr (2, [.ref hn, .ref ha, .ref he, .int (nI ic), .int (nI lc), .int (nI stp), .int ap])), (hn, .inr (1, [.int (nI cnt), .ref ow, .ref fi, .ref ma, .ref ro])), (ow, .inl (cI, 400, .inl fo)), (fi, .inl (cI, 400, .inl ff)), (ma, .inl (cJ, 400, .inr (.inl fk))), (ro, .inl (cJ, len, .inr (.inl fr))), (ha, .inr (0, [.ref oa, .ref na, .ref sa, .int (nI oA), .int (nI cA), .int (nI rA), .int (nI tA)])), (oa, .inl (cI, 16, .inl (fun j => nI (gA j)))), (na, .inl (cI, 4, .inl (fun j => nI (nA j)))), (sa, .inl (cI, 16, .inl sA)), (he, .inr (0, [.ref ob, .ref nb, .ref sb, .int (nI oB), .int (nI cB), .int (nI rB), .int (nI tB)])), (ob, .inl (cI, 16, .inl (fun j => nI (gB j)))), (nb, .inl (cI, 4, .inl (fun j => nI (nB j)))), (sb, .inl (cI, 16, .inl sB))] := hD
  have hl := lv_entry ([.ref h, .int x, .ref oo]) (n := 4) (Nat.le_of_ble_eq_true rfl)
  rw [lg_entry_eq]
  generalize (lg_sl ([.ref h, .int x, .ref oo]) ++ List.replicate (4 - (lg_sl ([.ref h, .int x, .ref oo])).length) Slot.unset).toArray = ls at hl ⊢
  have hl : lv_has ls 4 [(0, .ref h), (1, .int x), (2, .ref oo)] := hl
  obtain ⟨hrc, hrs, hr1, hr2⟩ := hrm
  refine lv_aload_n hx hb dL_witness_0 rfl (lv_at hl 2 rfl) ?_
  refine lv_iconst (v := nI 0) hx hb dL_witness_1 (by decide) ?_
  refine lv_aload_n hx hb dL_witness_2 rfl (lv_at hl 0 rfl) ?_
  refine lv_iload_n hx hb dL_witness_3 rfl (lv_at hl 1 rfl) ?_
  refine wr_V (As := [.int x]) (rest := [.int (nI 0), .ref oo]) (wc := [(h, .inr (2, [.ref hn, .ref ha, .ref he, .int (nI ic), .int (nI lc), .int (nI stp), .int ap])), (hn, .inr (1, [.int (nI cnt), .ref ow, .ref fi, .ref ma, .ref ro])), (ow, .inl (cI, 400, .inl fo)), (fi, .inl (cI, 400, .inl ff)), (ma, .inl (cJ, 400, .inr (.inl fk))), (ro, .inl (cJ, len, .inr (.inl fr))), (ha, .inr (0, [.ref oa, .ref na, .ref sa, .int (nI oA), .int (nI cA), .int (nI rA), .int (nI tA)])), (oa, .inl (cI, 16, .inl (fun j => nI (gA j)))), (na, .inl (cI, 4, .inl (fun j => nI (nA j)))), (sa, .inl (cI, 16, .inl sA)), (he, .inr (0, [.ref ob, .ref nb, .ref sb, .int (nI oB), .int (nI cB), .int (nI rB), .int (nI tB)])), (ob, .inl (cI, 16, .inl (fun j => nI (gB j)))), (nb, .inl (cI, 4, .inl (fun j => nI (nB j)))), (sb, .inl (cI, 16, .inl sB))]) (wr := [(oo, .inl (cJ, 1, .inr (.inl fv)))]) (ci := 2) (q0 := 1) ⟨hx, hb, hml, hown, hts⟩ (hM _) (cwV 1 hts gL_witness_X2_witness rfl hrc hrs (by decide +kernel) ⟨by show _ ≤ _; simp only [headSpec]; omega, by show _ ≤ _; simp only [headSpec]; omega⟩) rfl rfl rfl hl.1 rfl (Nat.le_of_ble_eq_true rfl) dL_witness_4 ⟨by show _ ≤ _; simp only [headSpec]; omega, by show _ ≤ _; simp only [headSpec]; omega⟩ hK hP hD hS hA hE [1, 2, 3, 4, 5, 6, 7, 8, 9, 10, 11, 12, 13, 14] [0] rfl rfl (by decide) (by decide) (by decide) (fun u H locs hu hP hD hS => ?_)
  have hP : va_P D vwCl ((oo, .inl (cJ, 1, .inr (.inl fv))) :: wn u) H := hP
  have hD : va_D A ((oo, .inl (cJ, 1, .inr (.inl fv))) :: wn u) := hD
  refine W.widen (k := mc) (n := ms) (by omega) (by omega) ?_
  refine W.eq (g2 := F0 m 7 ls [.int (vv u), .int (nI 0), .ref oo]) rfl ?_
  refine lv_i2l (v := (vv u).toInt64) hx hb dL_witness_7 (rfl) ?_
  refine va_last hx hb hK hP hD hS 0 1 rfl rfl (vp_in_nI (by omega) (by omega)) dL_witness_8 (fun H locs hP hD hS => ?_)
  have hP : va_P D vwCl ((oo, .inl (cJ, 1, .inr (.inl (vp_updL fv (nI 0).toNatClampNeg ((vv u).toInt64))))) :: wn u) H := hP
  have hD : va_D A ((oo, .inl (cJ, 1, .inr (.inl (vp_updL fv (nI 0).toNatClampNeg ((vv u).toInt64))))) :: wn u) := hD
  rw [show vp_updL fv (nI 0).toNatClampNeg ((vv u).toInt64) = vp_updL fv 0 (vv u).toInt64 from upL _ (by omega)] at hP hD
  refine lv_goto (tgt := 15) hx hb dL_witness_9 (by decide) ?_
  refine lv_iconst (v := nI 0) hx hb dL_witness_15 (by decide) ?_
  exact wr_i u hx hb hr hlocks hP hD hS dL_witness_16 rfl hu
set_option maxHeartbeats 4000000 in
set_option maxRecDepth 100000 in
/-- out, where the class returns -/
theorem wl_out {Su : Type} (vv : Su → Int32) (post : Su → Prop) (wn : Su → va_W) (mc ms : Nat) (rm : Room) (x y : Int32) (hrm : rm.cells = mc ∧ rm.slots = ms ∧ rm.frames ≤ 7 ∧ rm.locals ≤ 103) (hM : ∀ sz, Met l yX2_out wsX2_out rm (wr_P D [(cI, .int), (cJ, .long)] (xW h hn ow fi ma ro ha oa na sa he ob nb sb cI cJ ic lc stp ap cnt len fo ff fk fr oA cA rA tA gA nA sA oB cB rB tB gB nB sB) sz tp [.ref h, .int x, .int y]) (wx D [(cI, .int), (cJ, .long)] (va_A (xW h hn ow fi ma ro ha oa na sa he ob nb sb cI cJ ic lc stp ap cnt len fo ff fk fr oA cA rA tA gA nA sA oB cB rB tB gB nB sB) sz) (fun u => some (.int (vv u))) post wn) mc ms (va_A (xW h hn ow fi ma ro ha oa na sa he ob nb sb cI cJ ic lc stp ap cnt len fo ff fk fr oA cA rA tA gA nA sA oB cB rB tB gB nB sB) sz)) (sz : Nat) : Met l yL_out wsL_out { frames := 8, cells := mc, slots := ms, locals := 126 } (wl_P D [(cI, .int), (cJ, .long)] ((oo, .inl (cJ, 1, .inr (.inl fv))) :: xW h hn ow fi ma ro ha oa na sa he ob nb sb cI cJ ic lc stp ap cnt len fo ff fk fr oA cA rA tA gA nA sA oB cB rB tB gB nB sB) sz tp [.ref h, .int x, .int y, .ref oo]) (wx (Su := Su) D [(cI, .int), (cJ, .long)] (va_A ((oo, .inl (cJ, 1, .inr (.inl fv))) :: xW h hn ow fi ma ro ha oa na sa he ob nb sb cI cJ ic lc stp ap cnt len fo ff fk fr oA cA rA tA gA nA sA oB cB rB tB gB nB sB) sz) (fun _ => some (.int (nI 0))) (post) (fun u => (oo, .inl (cJ, 1, .inr (.inl (vp_updL fv 0 (vv u).toInt64)))) :: wn u)) mc ms (va_A ((oo, .inl (cJ, 1, .inr (.inl fv))) :: xW h hn ow fi ma ro ha oa na sa he ob nb sb cI cJ ic lc stp ap cnt len fo ff fk fr oA cA rA tA gA nA sA oB cB rB tB gB nB sB) sz) := by
  refine mt_ofWH (cc := cL_out) (maxL := 5) (ret := (some .int)) (hh := [(0, 10, 13, 25)]) (by decide) rfl ?_
  intro p e s m args below meth c s₁ B hml htb hv
  obtain ⟨rfl, hsz, ⟨hP, hK, hD0⟩, hE, hNC⟩ := hv
  have hx := B.exec
  have hb := B.bytes
  have hr := B.returns
  have hts := atoms_spec (ws := wsL_out) B.pre
  have hown : s.vm.findClass RL = some m.cls := findClass_of_methodNamed B.named
  have hlocks := B.notSynchronized
  subst hsz
  have hD := hD0.self (sz := s.heap.size)
  generalize hAe : va_A ((oo, .inl (cJ, 1, .inr (.inl fv))) :: xW h hn ow fi ma ro ha oa na sa he ob nb sb cI cJ ic lc stp ap cnt len fo ff fk fr oA cA rA tA gA nA sA oB cB rB tB gB nB sB) s.heap.size = A at hD hE ⊢
  have hA : ∀ q : Nat, s.heap.size ≤ q → A q := fun q h => by rw [← hAe]; exact Or.inr h
  have hS : va_S A s.heap s.heap [] := va_S.rf
  have hP : va_P D vwCl [(oo, .inl (cJ, 1, .inr (.inl fv))), (h, .inr (2, [.ref hn, .ref ha, .ref he, .int (nI ic), .int (nI lc), .int (nI stp), .int ap])), (hn, .inr (1, [.int (nI cnt), .ref ow, .ref fi, .ref ma, .ref ro])), (ow, .inl (cI, 400, .inl fo)), (fi, .inl (cI, 400, .inl ff)), (ma, .inl (cJ, 400, .inr (.inl fk))), (ro, .inl (cJ, len, .inr (.inl fr))), (ha, .inr (0, [.ref oa, .ref na, .ref sa, .int (nI oA), .int (nI cA), .int (nI rA), .int (nI tA)])), (oa, .inl (cI, 16, .inl (fun j => nI (gA j)))), (na, .inl (cI, 4, .inl (fun j => nI (nA j)))), (sa, .inl (cI, 16, .inl sA)), (he, .inr (0, [.ref ob, .ref nb, .ref sb, .int (nI oB), .int (nI cB), .int (nI rB), .int (nI tB)])), (ob, .inl (cI, 16, .inl (fun j => nI (gB j)))), (nb, .inl (cI, 4, .inl (fun j => nI (nB j)))), (sb, .inl (cI, 16, .inl sB))] s.heap := hP
  have hD : va_D A [(oo, .inl (cJ, 1, .inr (.inl fv))), (h, .inr (2, [.ref hn, .ref ha, .ref he, .int (nI ic), .int (nI lc), .int (nI stp), .int ap])), (hn, .inr (1, [.int (nI cnt), .ref ow, .ref fi, .ref ma, .ref ro])), (ow, .inl (cI, 400, .inl fo)), (fi, .inl (cI, 400, .inl ff)), (ma, .inl (cJ, 400, .inr (.inl fk))), (ro, .inl (cJ, len, .inr (.inl fr))), (ha, .inr (0, [.ref oa, .ref na, .ref sa, .int (nI oA), .int (nI cA), .int (nI rA), .int (nI tA)])), (oa, .inl (cI, 16, .inl (fun j => nI (gA j)))), (na, .inl (cI, 4, .inl (fun j => nI (nA j)))), (sa, .inl (cI, 16, .inl sA)), (he, .inr (0, [.ref ob, .ref nb, .ref sb, .int (nI oB), .int (nI cB), .int (nI rB), .int (nI tB)])), (ob, .inl (cI, 16, .inl (fun j => nI (gB j)))), (nb, .inl (cI, 4, .inl (fun j => nI (nB j)))), (sb, .inl (cI, 16, .inl sB))] := hD
  have hl := lv_entry ([.ref h, .int x, .int y, .ref oo]) (n := 5) (Nat.le_of_ble_eq_true rfl)
  rw [lg_entry_eq]
  generalize (lg_sl ([.ref h, .int x, .int y, .ref oo]) ++ List.replicate (5 - (lg_sl ([.ref h, .int x, .int y, .ref oo])).length) Slot.unset).toArray = ls at hl ⊢
  have hl : lv_has ls 5 [(0, .ref h), (1, .int x), (2, .int y), (3, .ref oo)] := hl
  obtain ⟨hrc, hrs, hr1, hr2⟩ := hrm
  refine lv_aload_n hx hb dL_out_0 rfl (lv_at hl 3 rfl) ?_
  refine lv_iconst (v := nI 0) hx hb dL_out_1 (by decide) ?_
  refine lv_aload_n hx hb dL_out_2 rfl (lv_at hl 0 rfl) ?_
  refine lv_iload_n hx hb dL_out_3 rfl (lv_at hl 1 rfl) ?_
  refine lv_iload_n hx hb dL_out_4 rfl (lv_at hl 2 rfl) ?_
  refine wr_V (As := [.int x, .int y]) (rest := [.int (nI 0), .ref oo]) (wc := [(h, .inr (2, [.ref hn, .ref ha, .ref he, .int (nI ic), .int (nI lc), .int (nI stp), .int ap])), (hn, .inr (1, [.int (nI cnt), .ref ow, .ref fi, .ref ma, .ref ro])), (ow, .inl (cI, 400, .inl fo)), (fi, .inl (cI, 400, .inl ff)), (ma, .inl (cJ, 400, .inr (.inl fk))), (ro, .inl (cJ, len, .inr (.inl fr))), (ha, .inr (0, [.ref oa, .ref na, .ref sa, .int (nI oA), .int (nI cA), .int (nI rA), .int (nI tA)])), (oa, .inl (cI, 16, .inl (fun j => nI (gA j)))), (na, .inl (cI, 4, .inl (fun j => nI (nA j)))), (sa, .inl (cI, 16, .inl sA)), (he, .inr (0, [.ref ob, .ref nb, .ref sb, .int (nI oB), .int (nI cB), .int (nI rB), .int (nI tB)])), (ob, .inl (cI, 16, .inl (fun j => nI (gB j)))), (nb, .inl (cI, 4, .inl (fun j => nI (nB j)))), (sb, .inl (cI, 16, .inl sB))]) (wr := [(oo, .inl (cJ, 1, .inr (.inl fv)))]) (ci := 2) (q0 := 1) ⟨hx, hb, hml, hown, hts⟩ (hM _) (cwV 2 hts gL_out_X2_out rfl hrc hrs (by decide +kernel) ⟨by show _ ≤ _; simp only [headSpec]; omega, by show _ ≤ _; simp only [headSpec]; omega⟩) rfl rfl rfl hl.1 rfl (Nat.le_of_ble_eq_true rfl) dL_out_5 ⟨by show _ ≤ _; simp only [headSpec]; omega, by show _ ≤ _; simp only [headSpec]; omega⟩ hK hP hD hS hA hE [1, 2, 3, 4, 5, 6, 7, 8, 9, 10, 11, 12, 13, 14] [0] rfl rfl (by decide) (by decide) (by decide) (fun u H locs hu hP hD hS => ?_)
  have hP : va_P D vwCl ((oo, .inl (cJ, 1, .inr (.inl fv))) :: wn u) H := hP
  have hD : va_D A ((oo, .inl (cJ, 1, .inr (.inl fv))) :: wn u) := hD
  refine W.widen (k := mc) (n := ms) (by omega) (by omega) ?_
  refine W.eq (g2 := F0 m 8 ls [.int (vv u), .int (nI 0), .ref oo]) rfl ?_
  refine lv_i2l (v := (vv u).toInt64) hx hb dL_out_8 (rfl) ?_
  refine va_last hx hb hK hP hD hS 0 1 rfl rfl (vp_in_nI (by omega) (by omega)) dL_out_9 (fun H locs hP hD hS => ?_)
  have hP : va_P D vwCl ((oo, .inl (cJ, 1, .inr (.inl (vp_updL fv (nI 0).toNatClampNeg ((vv u).toInt64))))) :: wn u) H := hP
  have hD : va_D A ((oo, .inl (cJ, 1, .inr (.inl (vp_updL fv (nI 0).toNatClampNeg ((vv u).toInt64))))) :: wn u) := hD
  rw [show vp_updL fv (nI 0).toNatClampNeg ((vv u).toInt64) = vp_updL fv 0 (vv u).toInt64 from upL _ (by omega)] at hP hD
  refine lv_goto (tgt := 17) hx hb dL_out_10 (by decide) ?_
  refine lv_iconst (v := nI 0) hx hb dL_out_17 (by decide) ?_
  exact wr_i u hx hb hr hlocks hP hD hS dL_out_18 rfl hu
set_option maxHeartbeats 4000000 in
set_option maxRecDepth 100000 in
/-- state, where the class returns -/
theorem wl_state {Su : Type} (vv : Su → Int32) (post : Su → Prop) (wn : Su → va_W) (mc ms : Nat) (rm : Room) (x y : Int32) (hrm : rm.cells = mc ∧ rm.slots = ms ∧ rm.frames ≤ 7 ∧ rm.locals ≤ 103) (hM : ∀ sz, Met l yX2_state wsX2_state rm (wr_P D [(cI, .int), (cJ, .long)] (xW h hn ow fi ma ro ha oa na sa he ob nb sb cI cJ ic lc stp ap cnt len fo ff fk fr oA cA rA tA gA nA sA oB cB rB tB gB nB sB) sz tp [.ref h, .int x, .int y]) (wx D [(cI, .int), (cJ, .long)] (va_A (xW h hn ow fi ma ro ha oa na sa he ob nb sb cI cJ ic lc stp ap cnt len fo ff fk fr oA cA rA tA gA nA sA oB cB rB tB gB nB sB) sz) (fun u => some (.int (vv u))) post wn) mc ms (va_A (xW h hn ow fi ma ro ha oa na sa he ob nb sb cI cJ ic lc stp ap cnt len fo ff fk fr oA cA rA tA gA nA sA oB cB rB tB gB nB sB) sz)) (sz : Nat) : Met l yL_state wsL_state { frames := 8, cells := mc, slots := ms, locals := 125 } (wl_P D [(cI, .int), (cJ, .long)] ((oo, .inl (cJ, 1, .inr (.inl fv))) :: xW h hn ow fi ma ro ha oa na sa he ob nb sb cI cJ ic lc stp ap cnt len fo ff fk fr oA cA rA tA gA nA sA oB cB rB tB gB nB sB) sz tp [.ref h, .int x, .int y, .ref oo]) (wx (Su := Su) D [(cI, .int), (cJ, .long)] (va_A ((oo, .inl (cJ, 1, .inr (.inl fv))) :: xW h hn ow fi ma ro ha oa na sa he ob nb sb cI cJ ic lc stp ap cnt len fo ff fk fr oA cA rA tA gA nA sA oB cB rB tB gB nB sB) sz) (fun _ => some (.int (nI 0))) (post) (fun u => (oo, .inl (cJ, 1, .inr (.inl (vp_updL fv 0 (vv u).toInt64)))) :: wn u)) mc ms (va_A ((oo, .inl (cJ, 1, .inr (.inl fv))) :: xW h hn ow fi ma ro ha oa na sa he ob nb sb cI cJ ic lc stp ap cnt len fo ff fk fr oA cA rA tA gA nA sA oB cB rB tB gB nB sB) sz) := by
  refine mt_ofWH (cc := cL_state) (maxL := 5) (ret := (some .int)) (hh := [(0, 10, 13, 25)]) (by decide) rfl ?_
  intro p e s m args below meth c s₁ B hml htb hv
  obtain ⟨rfl, hsz, ⟨hP, hK, hD0⟩, hE, hNC⟩ := hv
  have hx := B.exec
  have hb := B.bytes
  have hr := B.returns
  have hts := atoms_spec (ws := wsL_state) B.pre
  have hown : s.vm.findClass RL = some m.cls := findClass_of_methodNamed B.named
  have hlocks := B.notSynchronized
  subst hsz
  have hD := hD0.self (sz := s.heap.size)
  generalize hAe : va_A ((oo, .inl (cJ, 1, .inr (.inl fv))) :: xW h hn ow fi ma ro ha oa na sa he ob nb sb cI cJ ic lc stp ap cnt len fo ff fk fr oA cA rA tA gA nA sA oB cB rB tB gB nB sB) s.heap.size = A at hD hE ⊢
  have hA : ∀ q : Nat, s.heap.size ≤ q → A q := fun q h => by rw [← hAe]; exact Or.inr h
  have hS : va_S A s.heap s.heap [] := va_S.rf
  have hP : va_P D vwCl [(oo, .inl (cJ, 1, .inr (.inl fv))), (h, .inr (2, [.ref hn, .ref ha, .ref he, .int (nI ic), .int (nI lc), .int (nI stp), .int ap])), (hn, .inr (1, [.int (nI cnt), .ref ow, .ref fi, .ref ma, .ref ro])), (ow, .inl (cI, 400, .inl fo)), (fi, .inl (cI, 400, .inl ff)), (ma, .inl (cJ, 400, .inr (.inl fk))), (ro, .inl (cJ, len, .inr (.inl fr))), (ha, .inr (0, [.ref oa, .ref na, .ref sa, .int (nI oA), .int (nI cA), .int (nI rA), .int (nI tA)])), (oa, .inl (cI, 16, .inl (fun j => nI (gA j)))), (na, .inl (cI, 4, .inl (fun j => nI (nA j)))), (sa, .inl (cI, 16, .inl sA)), (he, .inr (0, [.ref ob, .ref nb, .ref sb, .int (nI oB), .int (nI cB), .int (nI rB), .int (nI tB)])), (ob, .inl (cI, 16, .inl (fun j => nI (gB j)))), (nb, .inl (cI, 4, .inl (fun j => nI (nB j)))), (sb, .inl (cI, 16, .inl sB))] s.heap := hP
  have hD : va_D A [(oo, .inl (cJ, 1, .inr (.inl fv))), (h, .inr (2, [.ref hn, .ref ha, .ref he, .int (nI ic), .int (nI lc), .int (nI stp), .int ap])), (hn, .inr (1, [.int (nI cnt), .ref ow, .ref fi, .ref ma, .ref ro])), (ow, .inl (cI, 400, .inl fo)), (fi, .inl (cI, 400, .inl ff)), (ma, .inl (cJ, 400, .inr (.inl fk))), (ro, .inl (cJ, len, .inr (.inl fr))), (ha, .inr (0, [.ref oa, .ref na, .ref sa, .int (nI oA), .int (nI cA), .int (nI rA), .int (nI tA)])), (oa, .inl (cI, 16, .inl (fun j => nI (gA j)))), (na, .inl (cI, 4, .inl (fun j => nI (nA j)))), (sa, .inl (cI, 16, .inl sA)), (he, .inr (0, [.ref ob, .ref nb, .ref sb, .int (nI oB), .int (nI cB), .int (nI rB), .int (nI tB)])), (ob, .inl (cI, 16, .inl (fun j => nI (gB j)))), (nb, .inl (cI, 4, .inl (fun j => nI (nB j)))), (sb, .inl (cI, 16, .inl sB))] := hD
  have hl := lv_entry ([.ref h, .int x, .int y, .ref oo]) (n := 5) (Nat.le_of_ble_eq_true rfl)
  rw [lg_entry_eq]
  generalize (lg_sl ([.ref h, .int x, .int y, .ref oo]) ++ List.replicate (5 - (lg_sl ([.ref h, .int x, .int y, .ref oo])).length) Slot.unset).toArray = ls at hl ⊢
  have hl : lv_has ls 5 [(0, .ref h), (1, .int x), (2, .int y), (3, .ref oo)] := hl
  obtain ⟨hrc, hrs, hr1, hr2⟩ := hrm
  refine lv_aload_n hx hb dL_state_0 rfl (lv_at hl 3 rfl) ?_
  refine lv_iconst (v := nI 0) hx hb dL_state_1 (by decide) ?_
  refine lv_aload_n hx hb dL_state_2 rfl (lv_at hl 0 rfl) ?_
  refine lv_iload_n hx hb dL_state_3 rfl (lv_at hl 1 rfl) ?_
  refine lv_iload_n hx hb dL_state_4 rfl (lv_at hl 2 rfl) ?_
  refine wr_V (As := [.int x, .int y]) (rest := [.int (nI 0), .ref oo]) (wc := [(h, .inr (2, [.ref hn, .ref ha, .ref he, .int (nI ic), .int (nI lc), .int (nI stp), .int ap])), (hn, .inr (1, [.int (nI cnt), .ref ow, .ref fi, .ref ma, .ref ro])), (ow, .inl (cI, 400, .inl fo)), (fi, .inl (cI, 400, .inl ff)), (ma, .inl (cJ, 400, .inr (.inl fk))), (ro, .inl (cJ, len, .inr (.inl fr))), (ha, .inr (0, [.ref oa, .ref na, .ref sa, .int (nI oA), .int (nI cA), .int (nI rA), .int (nI tA)])), (oa, .inl (cI, 16, .inl (fun j => nI (gA j)))), (na, .inl (cI, 4, .inl (fun j => nI (nA j)))), (sa, .inl (cI, 16, .inl sA)), (he, .inr (0, [.ref ob, .ref nb, .ref sb, .int (nI oB), .int (nI cB), .int (nI rB), .int (nI tB)])), (ob, .inl (cI, 16, .inl (fun j => nI (gB j)))), (nb, .inl (cI, 4, .inl (fun j => nI (nB j)))), (sb, .inl (cI, 16, .inl sB))]) (wr := [(oo, .inl (cJ, 1, .inr (.inl fv)))]) (ci := 2) (q0 := 1) ⟨hx, hb, hml, hown, hts⟩ (hM _) (cwV 2 hts gL_state_X2_state rfl hrc hrs (by decide +kernel) ⟨by show _ ≤ _; simp only [headSpec]; omega, by show _ ≤ _; simp only [headSpec]; omega⟩) rfl rfl rfl hl.1 rfl (Nat.le_of_ble_eq_true rfl) dL_state_5 ⟨by show _ ≤ _; simp only [headSpec]; omega, by show _ ≤ _; simp only [headSpec]; omega⟩ hK hP hD hS hA hE [1, 2, 3, 4, 5, 6, 7, 8, 9, 10, 11, 12, 13, 14] [0] rfl rfl (by decide) (by decide) (by decide) (fun u H locs hu hP hD hS => ?_)
  have hP : va_P D vwCl ((oo, .inl (cJ, 1, .inr (.inl fv))) :: wn u) H := hP
  have hD : va_D A ((oo, .inl (cJ, 1, .inr (.inl fv))) :: wn u) := hD
  refine W.widen (k := mc) (n := ms) (by omega) (by omega) ?_
  refine W.eq (g2 := F0 m 8 ls [.int (vv u), .int (nI 0), .ref oo]) rfl ?_
  refine lv_i2l (v := (vv u).toInt64) hx hb dL_state_8 (rfl) ?_
  refine va_last hx hb hK hP hD hS 0 1 rfl rfl (vp_in_nI (by omega) (by omega)) dL_state_9 (fun H locs hP hD hS => ?_)
  have hP : va_P D vwCl ((oo, .inl (cJ, 1, .inr (.inl (vp_updL fv (nI 0).toNatClampNeg ((vv u).toInt64))))) :: wn u) H := hP
  have hD : va_D A ((oo, .inl (cJ, 1, .inr (.inl (vp_updL fv (nI 0).toNatClampNeg ((vv u).toInt64))))) :: wn u) := hD
  rw [show vp_updL fv (nI 0).toNatClampNeg ((vv u).toInt64) = vp_updL fv 0 (vv u).toInt64 from upL _ (by omega)] at hP hD
  refine lv_goto (tgt := 17) hx hb dL_state_10 (by decide) ?_
  refine lv_iconst (v := nI 0) hx hb dL_state_17 (by decide) ?_
  exact wr_i u hx hb hr hlocks hP hD hS dL_state_18 rfl hu
set_option maxHeartbeats 4000000 in
set_option maxRecDepth 100000 in
/-- count, where the class returns -/
theorem wl_count {Su : Type} (vv : Su → Int32) (post : Su → Prop) (wn : Su → va_W) (mc ms : Nat) (rm : Room) (x : Int32) (hrm : rm.cells = mc ∧ rm.slots = ms ∧ rm.frames ≤ 6 ∧ rm.locals ≤ 82) (hM : ∀ sz, Met l yX2_count wsX2_count rm (wr_P D [(cI, .int), (cJ, .long)] (xW h hn ow fi ma ro ha oa na sa he ob nb sb cI cJ ic lc stp ap cnt len fo ff fk fr oA cA rA tA gA nA sA oB cB rB tB gB nB sB) sz tp [.ref h, .int x]) (wx D [(cI, .int), (cJ, .long)] (va_A (xW h hn ow fi ma ro ha oa na sa he ob nb sb cI cJ ic lc stp ap cnt len fo ff fk fr oA cA rA tA gA nA sA oB cB rB tB gB nB sB) sz) (fun u => some (.int (vv u))) post wn) mc ms (va_A (xW h hn ow fi ma ro ha oa na sa he ob nb sb cI cJ ic lc stp ap cnt len fo ff fk fr oA cA rA tA gA nA sA oB cB rB tB gB nB sB) sz)) (sz : Nat) : Met l yL_count wsL_count { frames := 7, cells := mc, slots := ms, locals := 103 } (wl_P D [(cI, .int), (cJ, .long)] ((oo, .inl (cJ, 1, .inr (.inl fv))) :: xW h hn ow fi ma ro ha oa na sa he ob nb sb cI cJ ic lc stp ap cnt len fo ff fk fr oA cA rA tA gA nA sA oB cB rB tB gB nB sB) sz tp [.ref h, .int x, .ref oo]) (wx (Su := Su) D [(cI, .int), (cJ, .long)] (va_A ((oo, .inl (cJ, 1, .inr (.inl fv))) :: xW h hn ow fi ma ro ha oa na sa he ob nb sb cI cJ ic lc stp ap cnt len fo ff fk fr oA cA rA tA gA nA sA oB cB rB tB gB nB sB) sz) (fun _ => some (.int (nI 0))) (post) (fun u => (oo, .inl (cJ, 1, .inr (.inl (vp_updL fv 0 (vv u).toInt64)))) :: wn u)) mc ms (va_A ((oo, .inl (cJ, 1, .inr (.inl fv))) :: xW h hn ow fi ma ro ha oa na sa he ob nb sb cI cJ ic lc stp ap cnt len fo ff fk fr oA cA rA tA gA nA sA oB cB rB tB gB nB sB) sz) := by
  refine mt_ofWH (cc := cL_count) (maxL := 4) (ret := (some .int)) (hh := [(0, 9, 12, 25)]) (by decide) rfl ?_
  intro p e s m args below meth c s₁ B hml htb hv
  obtain ⟨rfl, hsz, ⟨hP, hK, hD0⟩, hE, hNC⟩ := hv
  have hx := B.exec
  have hb := B.bytes
  have hr := B.returns
  have hts := atoms_spec (ws := wsL_count) B.pre
  have hown : s.vm.findClass RL = some m.cls := findClass_of_methodNamed B.named
  have hlocks := B.notSynchronized
  subst hsz
  have hD := hD0.self (sz := s.heap.size)
  generalize hAe : va_A ((oo, .inl (cJ, 1, .inr (.inl fv))) :: xW h hn ow fi ma ro ha oa na sa he ob nb sb cI cJ ic lc stp ap cnt len fo ff fk fr oA cA rA tA gA nA sA oB cB rB tB gB nB sB) s.heap.size = A at hD hE ⊢
  have hA : ∀ q : Nat, s.heap.size ≤ q → A q := fun q h => by rw [← hAe]; exact Or.inr h
  have hS : va_S A s.heap s.heap [] := va_S.rf
  have hP : va_P D vwCl [(oo, .inl (cJ, 1, .inr (.inl fv))), (h, .inr (2, [.ref hn, .ref ha, .ref he, .int (nI ic), .int (nI lc), .int (nI stp), .int ap])), (hn, .inr (1, [.int (nI cnt), .ref ow, .ref fi, .ref ma, .ref ro])), (ow, .inl (cI, 400, .inl fo)), (fi, .inl (cI, 400, .inl ff)), (ma, .inl (cJ, 400, .inr (.inl fk))), (ro, .inl (cJ, len, .inr (.inl fr))), (ha, .inr (0, [.ref oa, .ref na, .ref sa, .int (nI oA), .int (nI cA), .int (nI rA), .int (nI tA)])), (oa, .inl (cI, 16, .inl (fun j => nI (gA j)))), (na, .inl (cI, 4, .inl (fun j => nI (nA j)))), (sa, .inl (cI, 16, .inl sA)), (he, .inr (0, [.ref ob, .ref nb, .ref sb, .int (nI oB), .int (nI cB), .int (nI rB), .int (nI tB)])), (ob, .inl (cI, 16, .inl (fun j => nI (gB j)))), (nb, .inl (cI, 4, .inl (fun j => nI (nB j)))), (sb, .inl (cI, 16, .inl sB))] s.heap := hP
  have hD : va_D A [(oo, .inl (cJ, 1, .inr (.inl fv))), (h, .inr (2, [.ref hn, .ref ha, .ref he, .int (nI ic), .int (nI lc), .int (nI stp), .int ap])), (hn, .inr (1, [.int (nI cnt), .ref ow, .ref fi, .ref ma, .ref ro])), (ow, .inl (cI, 400, .inl fo)), (fi, .inl (cI, 400, .inl ff)), (ma, .inl (cJ, 400, .inr (.inl fk))), (ro, .inl (cJ, len, .inr (.inl fr))), (ha, .inr (0, [.ref oa, .ref na, .ref sa, .int (nI oA), .int (nI cA), .int (nI rA), .int (nI tA)])), (oa, .inl (cI, 16, .inl (fun j => nI (gA j)))), (na, .inl (cI, 4, .inl (fun j => nI (nA j)))), (sa, .inl (cI, 16, .inl sA)), (he, .inr (0, [.ref ob, .ref nb, .ref sb, .int (nI oB), .int (nI cB), .int (nI rB), .int (nI tB)])), (ob, .inl (cI, 16, .inl (fun j => nI (gB j)))), (nb, .inl (cI, 4, .inl (fun j => nI (nB j)))), (sb, .inl (cI, 16, .inl sB))] := hD
  have hl := lv_entry ([.ref h, .int x, .ref oo]) (n := 4) (Nat.le_of_ble_eq_true rfl)
  rw [lg_entry_eq]
  generalize (lg_sl ([.ref h, .int x, .ref oo]) ++ List.replicate (4 - (lg_sl ([.ref h, .int x, .ref oo])).length) Slot.unset).toArray = ls at hl ⊢
  have hl : lv_has ls 4 [(0, .ref h), (1, .int x), (2, .ref oo)] := hl
  obtain ⟨hrc, hrs, hr1, hr2⟩ := hrm
  refine lv_aload_n hx hb dL_count_0 rfl (lv_at hl 2 rfl) ?_
  refine lv_iconst (v := nI 0) hx hb dL_count_1 (by decide) ?_
  refine lv_aload_n hx hb dL_count_2 rfl (lv_at hl 0 rfl) ?_
  refine lv_iload_n hx hb dL_count_3 rfl (lv_at hl 1 rfl) ?_
  refine wr_V (As := [.int x]) (rest := [.int (nI 0), .ref oo]) (wc := [(h, .inr (2, [.ref hn, .ref ha, .ref he, .int (nI ic), .int (nI lc), .int (nI stp), .int ap])), (hn, .inr (1, [.int (nI cnt), .ref ow, .ref fi, .ref ma, .ref ro])), (ow, .inl (cI, 400, .inl fo)), (fi, .inl (cI, 400, .inl ff)), (ma, .inl (cJ, 400, .inr (.inl fk))), (ro, .inl (cJ, len, .inr (.inl fr))), (ha, .inr (0, [.ref oa, .ref na, .ref sa, .int (nI oA), .int (nI cA), .int (nI rA), .int (nI tA)])), (oa, .inl (cI, 16, .inl (fun j => nI (gA j)))), (na, .inl (cI, 4, .inl (fun j => nI (nA j)))), (sa, .inl (cI, 16, .inl sA)), (he, .inr (0, [.ref ob, .ref nb, .ref sb, .int (nI oB), .int (nI cB), .int (nI rB), .int (nI tB)])), (ob, .inl (cI, 16, .inl (fun j => nI (gB j)))), (nb, .inl (cI, 4, .inl (fun j => nI (nB j)))), (sb, .inl (cI, 16, .inl sB))]) (wr := [(oo, .inl (cJ, 1, .inr (.inl fv)))]) (ci := 2) (q0 := 1) ⟨hx, hb, hml, hown, hts⟩ (hM _) (cwV 1 hts gL_count_X2_count rfl hrc hrs (by decide +kernel) ⟨by show _ ≤ _; simp only [headSpec]; omega, by show _ ≤ _; simp only [headSpec]; omega⟩) rfl rfl rfl hl.1 rfl (Nat.le_of_ble_eq_true rfl) dL_count_4 ⟨by show _ ≤ _; simp only [headSpec]; omega, by show _ ≤ _; simp only [headSpec]; omega⟩ hK hP hD hS hA hE [1, 2, 3, 4, 5, 6, 7, 8, 9, 10, 11, 12, 13, 14] [0] rfl rfl (by decide) (by decide) (by decide) (fun u H locs hu hP hD hS => ?_)
  have hP : va_P D vwCl ((oo, .inl (cJ, 1, .inr (.inl fv))) :: wn u) H := hP
  have hD : va_D A ((oo, .inl (cJ, 1, .inr (.inl fv))) :: wn u) := hD
  refine W.widen (k := mc) (n := ms) (by omega) (by omega) ?_
  refine W.eq (g2 := F0 m 7 ls [.int (vv u), .int (nI 0), .ref oo]) rfl ?_
  refine lv_i2l (v := (vv u).toInt64) hx hb dL_count_7 (rfl) ?_
  refine va_last hx hb hK hP hD hS 0 1 rfl rfl (vp_in_nI (by omega) (by omega)) dL_count_8 (fun H locs hP hD hS => ?_)
  have hP : va_P D vwCl ((oo, .inl (cJ, 1, .inr (.inl (vp_updL fv (nI 0).toNatClampNeg ((vv u).toInt64))))) :: wn u) H := hP
  have hD : va_D A ((oo, .inl (cJ, 1, .inr (.inl (vp_updL fv (nI 0).toNatClampNeg ((vv u).toInt64))))) :: wn u) := hD
  rw [show vp_updL fv (nI 0).toNatClampNeg ((vv u).toInt64) = vp_updL fv 0 (vv u).toInt64 from upL _ (by omega)] at hP hD
  refine lv_goto (tgt := 15) hx hb dL_count_9 (by decide) ?_
  refine lv_iconst (v := nI 0) hx hb dL_count_15 (by decide) ?_
  exact wr_i u hx hb hr hlocks hP hD hS dL_count_16 rfl hu
end LC
