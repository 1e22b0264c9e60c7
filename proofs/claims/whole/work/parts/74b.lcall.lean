/-! The calls that catch, where the class throws. -/
section LT
variable (l : Launch) (D : va_G) (cI cJ : ClassId) (tp : Nat) (h hn ow fi ma ro ha oa na sa he ob nb sb : Nat) (ic lc stp : Nat) (ap : Int32) (cnt len : Nat) (fo ff : Nat → Int32) (fk fr : Nat → Int64) (oA cA rA tA : Nat) (gA nA : Nat → Nat) (sA : Nat → Int32) (oB cB rB tB : Nat) (gB nB : Nat → Nat) (sB : Nat → Int32) (oo : Nat) (fv : Nat → Int64)
set_option maxHeartbeats 4000000 in
set_option maxRecDepth 100000 in
/-- input, where the class throws -/
theorem wt_input_is (rm : Room) (hrm : rm.cells = 1 ∧ rm.slots = 6 ∧ rm.frames ≤ 7 ∧ rm.locals ≤ 138) (hM : TH l yX2_input wsX2_input rm (re_P D [(cI, .int), (cJ, .long)] (xW h hn ow fi ma ro ha oa na sa he ob nb sb cI cJ ic lc stp ap cnt len fo ff fk fr oA cA rA tA gA nA sA oB cB rB tB gB nB sB) tp [.ref h]) "java/lang/IllegalStateException") (sz : Nat) : Met l yL_input wsL_input { frames := 8, cells := 1, slots := 6, locals := 159 } (wl_P D [(cI, .int), (cJ, .long)] ((oo, .inl (cJ, 1, .inr (.inl fv))) :: xW h hn ow fi ma ro ha oa na sa he ob nb sb cI cJ ic lc stp ap cnt len fo ff fk fr oA cA rA tA gA nA sA oB cB rB tB gB nB sB) sz tp [.ref h, .ref oo]) (wx (Su := Unit) D [(cI, .int), (cJ, .long)] (va_A ((oo, .inl (cJ, 1, .inr (.inl fv))) :: xW h hn ow fi ma ro ha oa na sa he ob nb sb cI cJ ic lc stp ap cnt len fo ff fk fr oA cA rA tA gA nA sA oB cB rB tB gB nB sB) sz) (fun _ => some (.int (nI 1))) (fun _ => True) (fun _ => (oo, .inl (cJ, 1, .inr (.inl fv))) :: xW h hn ow fi ma ro ha oa na sa he ob nb sb cI cJ ic lc stp ap cnt len fo ff fk fr oA cA rA tA gA nA sA oB cB rB tB gB nB sB)) 1 6 (va_A ((oo, .inl (cJ, 1, .inr (.inl fv))) :: xW h hn ow fi ma ro ha oa na sa he ob nb sb cI cJ ic lc stp ap cnt len fo ff fk fr oA cA rA tA gA nA sA oB cB rB tB gB nB sB) sz) := by
  refine mt_ofWH (cc := cL_input) (maxL := 3) (ret := (some .int)) (hh := [(0, 8, 11, 13)]) (by decide) rfl ?_
  intro p e s m args below meth c s₁ B hml htb hv
  obtain ⟨rfl, hsz, ⟨hP, hK, hD0⟩, hE, hNC⟩ := hv
  have hx := B.exec
  have hb := B.bytes
  have hr := B.returns
  have hts := atoms_spec (ws := wsL_input) B.pre
  have hown : s.vm.findClass RL = some m.cls := findClass_of_methodNamed B.named
  have hlocks := B.notSynchronized
  subst hsz
  have hD := hD0.self (sz := s.heap.size)
  generalize hAe : va_A ((oo, .inl (cJ, 1, .inr (.inl fv))) :: xW h hn ow fi ma ro ha oa na sa he ob nb sb cI cJ ic lc stp ap cnt len fo ff fk fr oA cA rA tA gA nA sA oB cB rB tB gB nB sB) s.heap.size = A at hD hE ⊢
  have hA : ∀ q : Nat, s.heap.size ≤ q → A q := fun q h => by rw [← hAe]; exact Or.inr h
  have hS : va_S A s.heap s.heap [] := va_S.rf
  have hP : va_P D vwCl [(oo, .inl (cJ, 1, .inr (.inl fv))), (h, .inr (2, [.ref hn, .ref ha, .ref he, .int (nI ic), .int (nI lc), .int (nI stp), .int ap])), (hn, .inr (1, [.int (nI cnt), .ref ow, .ref fi, .ref ma, .ref ro])), (ow, .inl (cI, 400, .inl fo)), (fi, .inl (cI, 400, .inl ff)), (ma, .inl (cJ, 400, .inr (.inl fk))), (ro, .inl (cJ, len, .inr (.inl fr))), (ha, .inr (0, [.ref oa, .ref na, .ref sa, .int (nI oA), .int (nI cA), .int (nI rA), .int (nI tA)])), (oa, .inl (cI, 16, .inl (fun j => nI (gA j)))), (na, .inl (cI, 4, .inl (fun j => nI (nA j)))), (sa, .inl (cI, 16, .inl sA)), (he, .inr (0, [.ref ob, .ref nb, .ref sb, .int (nI oB), .int (nI cB), .int (nI rB), .int (nI tB)])), (ob, .inl (cI, 16, .inl (fun j => nI (gB j)))), (nb, .inl (cI, 4, .inl (fun j => nI (nB j)))), (sb, .inl (cI, 16, .inl sB))] s.heap := hP
  have hD : va_D A [(oo, .inl (cJ, 1, .inr (.inl fv))), (h, .inr (2, [.ref hn, .ref ha, .ref he, .int (nI ic), .int (nI lc), .int (nI stp), .int ap])), (hn, .inr (1, [.int (nI cnt), .ref ow, .ref fi, .ref ma, .ref ro])), (ow, .inl (cI, 400, .inl fo)), (fi, .inl (cI, 400, .inl ff)), (ma, .inl (cJ, 400, .inr (.inl fk))), (ro, .inl (cJ, len, .inr (.inl fr))), (ha, .inr (0, [.ref oa, .ref na, .ref sa, .int (nI oA), .int (nI cA), .int (nI rA), .int (nI tA)])), (oa, .inl (cI, 16, .inl (fun j => nI (gA j)))), (na, .inl (cI, 4, .inl (fun j => nI (nA j)))), (sa, .inl (cI, 16, .inl sA)), (he, .inr (0, [.ref ob, .ref nb, .ref sb, .int (nI oB), .int (nI cB), .int (nI rB), .int (nI tB)])), (ob, .inl (cI, 16, .inl (fun j => nI (gB j)))), (nb, .inl (cI, 4, .inl (fun j => nI (nB j)))), (sb, .inl (cI, 16, .inl sB))] := hD
  have hl := lv_entry ([.ref h, .ref oo]) (n := 3) (Nat.le_of_ble_eq_true rfl)
  rw [lg_entry_eq]
  generalize (lg_sl ([.ref h, .ref oo]) ++ List.replicate (3 - (lg_sl ([.ref h, .ref oo])).length) Slot.unset).toArray = ls at hl ⊢
  have hl : lv_has ls 3 [(0, .ref h), (1, .ref oo)] := hl
  obtain ⟨hrc, hrs, hr1, hr2⟩ := hrm
  refine lv_aload_n hx hb dL_input_0 rfl (lv_at hl 1 rfl) ?_
  refine lv_iconst (v := nI 0) hx hb dL_input_1 (by decide) ?_
  refine lv_aload_n hx hb dL_input_2 rfl (lv_at hl 0 rfl) ?_
  refine ct_V (As := []) (rest := [.int (nI 0), .ref oo]) (E0 := "java/lang/IllegalStateException") ⟨hx, hb, hml, hown, hts⟩ hM (cwV 0 hts gL_input_X2_input rfl hrc hrs (by decide +kernel) ⟨by show _ ≤ _; simp only [headSpec]; omega, by show _ ≤ _; simp only [headSpec]; omega⟩) (re_pv (ci := 2) (q0 := 0) hK (hP.sub (ws' := [(h, .inr (2, [.ref hn, .ref ha, .ref he, .int (nI ic), .int (nI lc), .int (nI stp), .int ap])), (hn, .inr (1, [.int (nI cnt), .ref ow, .ref fi, .ref ma, .ref ro])), (ow, .inl (cI, 400, .inl fo)), (fi, .inl (cI, 400, .inl ff)), (ma, .inl (cJ, 400, .inr (.inl fk))), (ro, .inl (cJ, len, .inr (.inl fr))), (ha, .inr (0, [.ref oa, .ref na, .ref sa, .int (nI oA), .int (nI cA), .int (nI rA), .int (nI tA)])), (oa, .inl (cI, 16, .inl (fun j => nI (gA j)))), (na, .inl (cI, 4, .inl (fun j => nI (nA j)))), (sa, .inl (cI, 16, .inl sA)), (he, .inr (0, [.ref ob, .ref nb, .ref sb, .int (nI oB), .int (nI cB), .int (nI rB), .int (nI tB)])), (ob, .inl (cI, 16, .inl (fun j => nI (gB j)))), (nb, .inl (cI, 4, .inl (fun j => nI (nB j)))), (sb, .inl (cI, 16, .inl sB))]) [1, 2, 3, 4, 5, 6, 7, 8, 9, 10, 11, 12, 13, 14] rfl) hE rfl rfl) rfl hl.1 rfl (Nat.le_of_ble_eq_true rfl) dL_input_3 ⟨by show _ ≤ _; simp only [headSpec]; omega, by show _ ≤ _; simp only [headSpec]; omega⟩ [] (⟨0, 8, 11, 13⟩ : ExceptionTableEntry) [] (htb.trans rfl) (fun z hz => absurd hz List.not_mem_nil) (by decide) (by decide) (hts (.classLink RL 13 "java/lang/IllegalStateException") (by decide +kernel)) (hE.2.2.2.2.2.1 "java/lang/IllegalStateException" (by decide)) (fun q9 H hz9 hk9 => ?_)
  have hP := hP.kept (H1 := H) (fun k q hq => hk9 _ (vx_lt hP hq))
  have hS : va_S A s.heap H [] := ⟨hz9, fun q g1 _ => hk9 q g1, fun q h => absurd h List.not_mem_nil⟩
  refine W.widen (k := 1) (n := 6) (by omega) (by omega) ?_
  refine W.eq (g2 := F0 m 11 ls [.ref q9]) rfl ?_
  refine lv_astore_n (lv' := [(2, .ref q9), (0, .ref h), (1, .ref oo)]) hx hb dL_input_11 rfl hl (by decide) rfl (fun ls hl => ?_)
  refine lv_iconst (v := nI 1) hx hb dL_input_12 (by decide) ?_
  exact wr_i () hx hb hr hlocks hP hD hS dL_input_13 rfl trivial
set_option maxHeartbeats 4000000 in
set_option maxRecDepth 100000 in
/-- latch, where the class throws -/
theorem wt_latch_is (rm : Room) (x y : Int32) (hrm : rm.cells = 1 ∧ rm.slots = 6 ∧ rm.frames ≤ 7 ∧ rm.locals ≤ 138) (hM : TH l yX2_latch wsX2_latch rm (re_P D [(cI, .int), (cJ, .long)] (xW h hn ow fi ma ro ha oa na sa he ob nb sb cI cJ ic lc stp ap cnt len fo ff fk fr oA cA rA tA gA nA sA oB cB rB tB gB nB sB) tp [.ref h, .int x, .int y]) "java/lang/IllegalStateException") (sz : Nat) : Met l yL_latch wsL_latch { frames := 8, cells := 1, slots := 6, locals := 161 } (wl_P D [(cI, .int), (cJ, .long)] ((oo, .inl (cJ, 1, .inr (.inl fv))) :: xW h hn ow fi ma ro ha oa na sa he ob nb sb cI cJ ic lc stp ap cnt len fo ff fk fr oA cA rA tA gA nA sA oB cB rB tB gB nB sB) sz tp [.ref h, .int x, .int y, .ref oo]) (wx (Su := Unit) D [(cI, .int), (cJ, .long)] (va_A ((oo, .inl (cJ, 1, .inr (.inl fv))) :: xW h hn ow fi ma ro ha oa na sa he ob nb sb cI cJ ic lc stp ap cnt len fo ff fk fr oA cA rA tA gA nA sA oB cB rB tB gB nB sB) sz) (fun _ => some (.int (nI 1))) (fun _ => True) (fun _ => (oo, .inl (cJ, 1, .inr (.inl fv))) :: xW h hn ow fi ma ro ha oa na sa he ob nb sb cI cJ ic lc stp ap cnt len fo ff fk fr oA cA rA tA gA nA sA oB cB rB tB gB nB sB)) 1 6 (va_A ((oo, .inl (cJ, 1, .inr (.inl fv))) :: xW h hn ow fi ma ro ha oa na sa he ob nb sb cI cJ ic lc stp ap cnt len fo ff fk fr oA cA rA tA gA nA sA oB cB rB tB gB nB sB) sz) := by
  refine mt_ofWH (cc := cL_latch) (maxL := 5) (ret := (some .int)) (hh := [(0, 10, 13, 13), (0, 10, 17, 19)]) (by decide) rfl ?_
  intro p e s m args below meth c s₁ B hml htb hv
  obtain ⟨rfl, hsz, ⟨hP, hK, hD0⟩, hE, hNC⟩ := hv
  have hx := B.exec
  have hb := B.bytes
  have hr := B.returns
  have hts := atoms_spec (ws := wsL_latch) B.pre
  have hown : s.vm.findClass RL = some m.cls := findClass_of_methodNamed B.named
  have hlocks := B.notSynchronized
  subst hsz
  have hD := hD0.self (sz := s.heap.size)
  generalize hAe : va_A ((oo, .inl (cJ, 1, .inr (.inl fv))) :: xW h hn ow fi ma ro ha oa na sa he ob nb sb cI cJ ic lc stp ap cnt len fo ff fk fr oA cA rA tA gA nA sA oB cB rB tB gB nB sB) s.heap.size = A at hD hE ⊢
  have hA : ∀ q : Nat, s.heap.size ≤ q → A q := fun q h => by rw [← hAe]; exact Or.inr h
  have hS : va_S A s.heap s.heap [] := va_S.rf
  have hP : va_P D vwCl [(oo, .inl (cJ, 1, .inr (.inl fv))), (h, .inr (2, [.ref hn, .ref ha, .ref he, .int (nI ic), .int (nI lc), .int (nI stp), .int ap])), (hn, .inr (1, [.int (nI cnt), .ref ow, .ref fi, .ref ma, .ref ro])), (ow, .inl (cI, 400, .inl fo)), (fi, .inl (cI, 400, .inl ff)), (ma, .inl (cJ, 400, .inr (.inl fk))), (ro, .inl (cJ, len, .inr (.inl fr))), (ha, .inr (0, [.ref oa, .ref na, .ref sa, .int (nI oA), .int (nI cA), .int (nI rA), .int (nI tA)])), (oa, .inl (cI, 16, .inl (fun j => nI (gA j)))), (na, .inl (cI, 4, .inl (fun j => nI (nA j)))), (sa, .inl (cI, 16, .inl sA)), (he, .inr (0, [.ref ob, .ref nb, .ref sb, .int (nI oB), .int (nI cB), .int (nI rB), .int (nI tB)])), (ob, .inl (cI, 16, .inl (fun j => nI (gB j)))), (nb, .inl (cI, 4, .inl (fun j => nI (nB j)))), (sb, .inl (cI, 16, .inl sB))] s.heap := hP
  have hD : va_D A [(oo, .inl (cJ, 1, .inr (.inl fv))), (h, .inr (2, [.ref hn, .ref ha, .ref he, .int (nI ic), .int (nI lc), .int (nI stp), .int ap])), (hn, .inr (1, [.int (nI cnt), .ref ow, .ref fi, .ref ma, .ref ro])), (ow, .inl (cI, 400, .inl fo)), (fi, .inl (cI, 400, .inl ff)), (ma, .inl (cJ, 400, .inr (.inl fk))), (ro, .inl (cJ, len, .inr (.inl fr))), (ha, .inr (0, [.ref oa, .ref na, .ref sa, .int (nI oA), .int (nI cA), .int (nI rA), .int (nI tA)])), (oa, .inl (cI, 16, .inl (fun j => nI (gA j)))), (na, .inl (cI, 4, .inl (fun j => nI (nA j)))), (sa, .inl (cI, 16, .inl sA)), (he, .inr (0, [.ref ob, .ref nb, .ref sb, .int (nI oB), .int (nI cB), .int (nI rB), .int (nI tB)])), (ob, .inl (cI, 16, .inl (fun j => nI (gB j)))), (nb, .inl (cI, 4, .inl (fun j => nI (nB j)))), (sb, .inl (cI, 16, .inl sB))] := hD
  have hl := lv_entry ([.ref h, .int x, .int y, .ref oo]) (n := 5) (Nat.le_of_ble_eq_true rfl)
  rw [lg_entry_eq]
  generalize (lg_sl ([.ref h, .int x, .int y, .ref oo]) ++ List.replicate (5 - (lg_sl ([.ref h, .int x, .int y, .ref oo])).length) Slot.unset).toArray = ls at hl ⊢
  have hl : lv_has ls 5 [(0, .ref h), (1, .int x), (2, .int y), (3, .ref oo)] := hl
  obtain ⟨hrc, hrs, hr1, hr2⟩ := hrm
  refine lv_aload_n hx hb dL_latch_0 rfl (lv_at hl 3 rfl) ?_
  refine lv_iconst (v := nI 0) hx hb dL_latch_1 (by decide) ?_
  refine lv_aload_n hx hb dL_latch_2 rfl (lv_at hl 0 rfl) ?_
  refine lv_iload_n hx hb dL_latch_3 rfl (lv_at hl 1 rfl) ?_
  refine lv_iload_n hx hb dL_latch_4 rfl (lv_at hl 2 rfl) ?_
  refine ct_V (As := [.int x, .int y]) (rest := [.int (nI 0), .ref oo]) (E0 := "java/lang/IllegalStateException") ⟨hx, hb, hml, hown, hts⟩ hM (cwV 2 hts gL_latch_X2_latch rfl hrc hrs (by decide +kernel) ⟨by show _ ≤ _; simp only [headSpec]; omega, by show _ ≤ _; simp only [headSpec]; omega⟩) (re_pv (ci := 2) (q0 := 0) hK (hP.sub (ws' := [(h, .inr (2, [.ref hn, .ref ha, .ref he, .int (nI ic), .int (nI lc), .int (nI stp), .int ap])), (hn, .inr (1, [.int (nI cnt), .ref ow, .ref fi, .ref ma, .ref ro])), (ow, .inl (cI, 400, .inl fo)), (fi, .inl (cI, 400, .inl ff)), (ma, .inl (cJ, 400, .inr (.inl fk))), (ro, .inl (cJ, len, .inr (.inl fr))), (ha, .inr (0, [.ref oa, .ref na, .ref sa, .int (nI oA), .int (nI cA), .int (nI rA), .int (nI tA)])), (oa, .inl (cI, 16, .inl (fun j => nI (gA j)))), (na, .inl (cI, 4, .inl (fun j => nI (nA j)))), (sa, .inl (cI, 16, .inl sA)), (he, .inr (0, [.ref ob, .ref nb, .ref sb, .int (nI oB), .int (nI cB), .int (nI rB), .int (nI tB)])), (ob, .inl (cI, 16, .inl (fun j => nI (gB j)))), (nb, .inl (cI, 4, .inl (fun j => nI (nB j)))), (sb, .inl (cI, 16, .inl sB))]) [1, 2, 3, 4, 5, 6, 7, 8, 9, 10, 11, 12, 13, 14] rfl) hE rfl rfl) rfl hl.1 rfl (Nat.le_of_ble_eq_true rfl) dL_latch_5 ⟨by show _ ≤ _; simp only [headSpec]; omega, by show _ ≤ _; simp only [headSpec]; omega⟩ [] (⟨0, 10, 13, 13⟩ : ExceptionTableEntry) [(⟨0, 10, 17, 19⟩ : ExceptionTableEntry)] (htb.trans rfl) (fun z hz => absurd hz List.not_mem_nil) (by decide) (by decide) (hts (.classLink RL 13 "java/lang/IllegalStateException") (by decide +kernel)) (hE.2.2.2.2.2.1 "java/lang/IllegalStateException" (by decide)) (fun q9 H hz9 hk9 => ?_)
  have hP := hP.kept (H1 := H) (fun k q hq => hk9 _ (vx_lt hP hq))
  have hS : va_S A s.heap H [] := ⟨hz9, fun q g1 _ => hk9 q g1, fun q h => absurd h List.not_mem_nil⟩
  refine W.widen (k := 1) (n := 6) (by omega) (by omega) ?_
  refine W.eq (g2 := F0 m 13 ls [.ref q9]) rfl ?_
  refine lv_astore (lv' := [(4, .ref q9), (0, .ref h), (1, .int x), (2, .int y), (3, .ref oo)]) hx hb dL_latch_13 hl (by decide) rfl (fun ls hl => ?_)
  refine lv_iconst (v := nI 1) hx hb dL_latch_15 (by decide) ?_
  exact wr_i () hx hb hr hlocks hP hD hS dL_latch_16 rfl trivial
set_option maxHeartbeats 4000000 in
set_option maxRecDepth 100000 in
/-- latch, where the class throws -/
theorem wt_latch_ia (rm : Room) (x y : Int32) (hrm : rm.cells = 1 ∧ rm.slots = 6 ∧ rm.frames ≤ 7 ∧ rm.locals ≤ 138) (hM : TH l yX2_latch wsX2_latch rm (re_P D [(cI, .int), (cJ, .long)] (xW h hn ow fi ma ro ha oa na sa he ob nb sb cI cJ ic lc stp ap cnt len fo ff fk fr oA cA rA tA gA nA sA oB cB rB tB gB nB sB) tp [.ref h, .int x, .int y]) "java/lang/IllegalArgumentException") (sz : Nat) : Met l yL_latch wsL_latch { frames := 8, cells := 1, slots := 6, locals := 161 } (wl_P D [(cI, .int), (cJ, .long)] ((oo, .inl (cJ, 1, .inr (.inl fv))) :: xW h hn ow fi ma ro ha oa na sa he ob nb sb cI cJ ic lc stp ap cnt len fo ff fk fr oA cA rA tA gA nA sA oB cB rB tB gB nB sB) sz tp [.ref h, .int x, .int y, .ref oo]) (wx (Su := Unit) D [(cI, .int), (cJ, .long)] (va_A ((oo, .inl (cJ, 1, .inr (.inl fv))) :: xW h hn ow fi ma ro ha oa na sa he ob nb sb cI cJ ic lc stp ap cnt len fo ff fk fr oA cA rA tA gA nA sA oB cB rB tB gB nB sB) sz) (fun _ => some (.int (nI 2))) (fun _ => True) (fun _ => (oo, .inl (cJ, 1, .inr (.inl fv))) :: xW h hn ow fi ma ro ha oa na sa he ob nb sb cI cJ ic lc stp ap cnt len fo ff fk fr oA cA rA tA gA nA sA oB cB rB tB gB nB sB)) 1 6 (va_A ((oo, .inl (cJ, 1, .inr (.inl fv))) :: xW h hn ow fi ma ro ha oa na sa he ob nb sb cI cJ ic lc stp ap cnt len fo ff fk fr oA cA rA tA gA nA sA oB cB rB tB gB nB sB) sz) := by
  refine mt_ofWH (cc := cL_latch) (maxL := 5) (ret := (some .int)) (hh := [(0, 10, 13, 13), (0, 10, 17, 19)]) (by decide) rfl ?_
  intro p e s m args below meth c s₁ B hml htb hv
  obtain ⟨rfl, hsz, ⟨hP, hK, hD0⟩, hE, hNC⟩ := hv
  have hx := B.exec
  have hb := B.bytes
  have hr := B.returns
  have hts := atoms_spec (ws := wsL_latch) B.pre
  have hown : s.vm.findClass RL = some m.cls := findClass_of_methodNamed B.named
  have hlocks := B.notSynchronized
  subst hsz
  have hD := hD0.self (sz := s.heap.size)
  generalize hAe : va_A ((oo, .inl (cJ, 1, .inr (.inl fv))) :: xW h hn ow fi ma ro ha oa na sa he ob nb sb cI cJ ic lc stp ap cnt len fo ff fk fr oA cA rA tA gA nA sA oB cB rB tB gB nB sB) s.heap.size = A at hD hE ⊢
  have hA : ∀ q : Nat, s.heap.size ≤ q → A q := fun q h => by rw [← hAe]; exact Or.inr h
  have hS : va_S A s.heap s.heap [] := va_S.rf
  have hP : va_P D vwCl [(oo, .inl (cJ, 1, .inr (.inl fv))), (h, .inr (2, [.ref hn, .ref ha, .ref he, .int (nI ic), .int (nI lc), .int (nI stp), .int ap])), (hn, .inr (1, [.int (nI cnt), .ref ow, .ref fi, .ref ma, .ref ro])), (ow, .inl (cI, 400, .inl fo)), (fi, .inl (cI, 400, .inl ff)), (ma, .inl (cJ, 400, .inr (.inl fk))), (ro, .inl (cJ, len, .inr (.inl fr))), (ha, .inr (0, [.ref oa, .ref na, .ref sa, .int (nI oA), .int (nI cA), .int (nI rA), .int (nI tA)])), (oa, .inl (cI, 16, .inl (fun j => nI (gA j)))), (na, .inl (cI, 4, .inl (fun j => nI (nA j)))), (sa, .inl (cI, 16, .inl sA)), (he, .inr (0, [.ref ob, .ref nb, .ref sb, .int (nI oB), .int (nI cB), .int (nI rB), .int (nI tB)])), (ob, .inl (cI, 16, .inl (fun j => nI (gB j)))), (nb, .inl (cI, 4, .inl (fun j => nI (nB j)))), (sb, .inl (cI, 16, .inl sB))] s.heap := hP
  have hD : va_D A [(oo, .inl (cJ, 1, .inr (.inl fv))), (h, .inr (2, [.ref hn, .ref ha, .ref he, .int (nI ic), .int (nI lc), .int (nI stp), .int ap])), (hn, .inr (1, [.int (nI cnt), .ref ow, .ref fi, .ref ma, .ref ro])), (ow, .inl (cI, 400, .inl fo)), (fi, .inl (cI, 400, .inl ff)), (ma, .inl (cJ, 400, .inr (.inl fk))), (ro, .inl (cJ, len, .inr (.inl fr))), (ha, .inr (0, [.ref oa, .ref na, .ref sa, .int (nI oA), .int (nI cA), .int (nI rA), .int (nI tA)])), (oa, .inl (cI, 16, .inl (fun j => nI (gA j)))), (na, .inl (cI, 4, .inl (fun j => nI (nA j)))), (sa, .inl (cI, 16, .inl sA)), (he, .inr (0, [.ref ob, .ref nb, .ref sb, .int (nI oB), .int (nI cB), .int (nI rB), .int (nI tB)])), (ob, .inl (cI, 16, .inl (fun j => nI (gB j)))), (nb, .inl (cI, 4, .inl (fun j => nI (nB j)))), (sb, .inl (cI, 16, .inl sB))] := hD
  have hl := lv_entry ([.ref h, .int x, .int y, .ref oo]) (n := 5) (Nat.le_of_ble_eq_true rfl)
  rw [lg_entry_eq]
  generalize (lg_sl ([.ref h, .int x, .int y, .ref oo]) ++ List.replicate (5 - (lg_sl ([.ref h, .int x, .int y, .ref oo])).length) Slot.unset).toArray = ls at hl ⊢
  have hl : lv_has ls 5 [(0, .ref h), (1, .int x), (2, .int y), (3, .ref oo)] := hl
  obtain ⟨hrc, hrs, hr1, hr2⟩ := hrm
  refine lv_aload_n hx hb dL_latch_0 rfl (lv_at hl 3 rfl) ?_
  refine lv_iconst (v := nI 0) hx hb dL_latch_1 (by decide) ?_
  refine lv_aload_n hx hb dL_latch_2 rfl (lv_at hl 0 rfl) ?_
  refine lv_iload_n hx hb dL_latch_3 rfl (lv_at hl 1 rfl) ?_
  refine lv_iload_n hx hb dL_latch_4 rfl (lv_at hl 2 rfl) ?_
  refine ct_V (As := [.int x, .int y]) (rest := [.int (nI 0), .ref oo]) (E0 := "java/lang/IllegalArgumentException") ⟨hx, hb, hml, hown, hts⟩ hM (cwV 2 hts gL_latch_X2_latch rfl hrc hrs (by decide +kernel) ⟨by show _ ≤ _; simp only [headSpec]; omega, by show _ ≤ _; simp only [headSpec]; omega⟩) (re_pv (ci := 2) (q0 := 0) hK (hP.sub (ws' := [(h, .inr (2, [.ref hn, .ref ha, .ref he, .int (nI ic), .int (nI lc), .int (nI stp), .int ap])), (hn, .inr (1, [.int (nI cnt), .ref ow, .ref fi, .ref ma, .ref ro])), (ow, .inl (cI, 400, .inl fo)), (fi, .inl (cI, 400, .inl ff)), (ma, .inl (cJ, 400, .inr (.inl fk))), (ro, .inl (cJ, len, .inr (.inl fr))), (ha, .inr (0, [.ref oa, .ref na, .ref sa, .int (nI oA), .int (nI cA), .int (nI rA), .int (nI tA)])), (oa, .inl (cI, 16, .inl (fun j => nI (gA j)))), (na, .inl (cI, 4, .inl (fun j => nI (nA j)))), (sa, .inl (cI, 16, .inl sA)), (he, .inr (0, [.ref ob, .ref nb, .ref sb, .int (nI oB), .int (nI cB), .int (nI rB), .int (nI tB)])), (ob, .inl (cI, 16, .inl (fun j => nI (gB j)))), (nb, .inl (cI, 4, .inl (fun j => nI (nB j)))), (sb, .inl (cI, 16, .inl sB))]) [1, 2, 3, 4, 5, 6, 7, 8, 9, 10, 11, 12, 13, 14] rfl) hE rfl rfl) rfl hl.1 rfl (Nat.le_of_ble_eq_true rfl) dL_latch_5 ⟨by show _ ≤ _; simp only [headSpec]; omega, by show _ ≤ _; simp only [headSpec]; omega⟩ [(⟨0, 10, 13, 13⟩ : ExceptionTableEntry)] (⟨0, 10, 17, 19⟩ : ExceptionTableEntry) [] (htb.trans rfl) (fun z hz => (List.mem_cons.mp hz).elim (fun hz => by subst hz; exact ⟨by decide, by decide, "java/lang/IllegalStateException", hts (.classLink RL 13 "java/lang/IllegalStateException") (by decide +kernel), hNC ("java/lang/IllegalArgumentException", "java/lang/IllegalStateException") (by decide)⟩) (fun hz => absurd hz List.not_mem_nil)) (by decide) (by decide) (hts (.classLink RL 19 "java/lang/IllegalArgumentException") (by decide +kernel)) (hE.2.2.2.2.2.1 "java/lang/IllegalArgumentException" (by decide)) (fun q9 H hz9 hk9 => ?_)
  have hP := hP.kept (H1 := H) (fun k q hq => hk9 _ (vx_lt hP hq))
  have hS : va_S A s.heap H [] := ⟨hz9, fun q g1 _ => hk9 q g1, fun q h => absurd h List.not_mem_nil⟩
  refine W.widen (k := 1) (n := 6) (by omega) (by omega) ?_
  refine W.eq (g2 := F0 m 17 ls [.ref q9]) rfl ?_
  refine lv_astore (lv' := [(4, .ref q9), (0, .ref h), (1, .int x), (2, .int y), (3, .ref oo)]) hx hb dL_latch_17 hl (by decide) rfl (fun ls hl => ?_)
  refine lv_iconst (v := nI 2) hx hb dL_latch_19 (by decide) ?_
  exact wr_i () hx hb hr hlocks hP hD hS dL_latch_20 rfl trivial
set_option maxHeartbeats 4000000 in
set_option maxRecDepth 100000 in
/-- and, where the class throws -/
theorem wt_and_io (rm : Room) (x y z : Int32) (hrm : rm.cells = 1 ∧ rm.slots = 6 ∧ rm.frames ≤ 7 ∧ rm.locals ≤ 140) (hM : TH l yX2_and wsX2_and rm (re_P D [(cI, .int), (cJ, .long)] (xW h hn ow fi ma ro ha oa na sa he ob nb sb cI cJ ic lc stp ap cnt len fo ff fk fr oA cA rA tA gA nA sA oB cB rB tB gB nB sB) tp [.ref h, .int x, .int y, .int z]) "java/lang/IndexOutOfBoundsException") (sz : Nat) : Met l yL_and wsL_and { frames := 8, cells := 1, slots := 6, locals := 163 } (wl_P D [(cI, .int), (cJ, .long)] ((oo, .inl (cJ, 1, .inr (.inl fv))) :: xW h hn ow fi ma ro ha oa na sa he ob nb sb cI cJ ic lc stp ap cnt len fo ff fk fr oA cA rA tA gA nA sA oB cB rB tB gB nB sB) sz tp [.ref h, .int x, .int y, .int z, .ref oo]) (wx (Su := Unit) D [(cI, .int), (cJ, .long)] (va_A ((oo, .inl (cJ, 1, .inr (.inl fv))) :: xW h hn ow fi ma ro ha oa na sa he ob nb sb cI cJ ic lc stp ap cnt len fo ff fk fr oA cA rA tA gA nA sA oB cB rB tB gB nB sB) sz) (fun _ => some (.int (nI 1))) (fun _ => True) (fun _ => (oo, .inl (cJ, 1, .inr (.inl fv))) :: xW h hn ow fi ma ro ha oa na sa he ob nb sb cI cJ ic lc stp ap cnt len fo ff fk fr oA cA rA tA gA nA sA oB cB rB tB gB nB sB)) 1 6 (va_A ((oo, .inl (cJ, 1, .inr (.inl fv))) :: xW h hn ow fi ma ro ha oa na sa he ob nb sb cI cJ ic lc stp ap cnt len fo ff fk fr oA cA rA tA gA nA sA oB cB rB tB gB nB sB) sz) := by
  refine mt_ofWH (cc := cL_and) (maxL := 6) (ret := (some .int)) (hh := [(0, 12, 15, 25), (0, 12, 19, 13), (0, 12, 23, 19)]) (by decide) rfl ?_
  intro p e s m args below meth c s₁ B hml htb hv
  obtain ⟨rfl, hsz, ⟨hP, hK, hD0⟩, hE, hNC⟩ := hv
  have hx := B.exec
  have hb := B.bytes
  have hr := B.returns
  have hts := atoms_spec (ws := wsL_and) B.pre
  have hown : s.vm.findClass RL = some m.cls := findClass_of_methodNamed B.named
  have hlocks := B.notSynchronized
  subst hsz
  have hD := hD0.self (sz := s.heap.size)
  generalize hAe : va_A ((oo, .inl (cJ, 1, .inr (.inl fv))) :: xW h hn ow fi ma ro ha oa na sa he ob nb sb cI cJ ic lc stp ap cnt len fo ff fk fr oA cA rA tA gA nA sA oB cB rB tB gB nB sB) s.heap.size = A at hD hE ⊢
  have hA : ∀ q : Nat, s.heap.size ≤ q → A q := fun q h => by rw [← hAe]; exact Or.inr h
  have hS : va_S A s.heap s.heap [] := va_S.rf
  have hP : va_P D vwCl [(oo, .inl (cJ, 1, .inr (.inl fv))), (h, .inr (2, [.ref hn, .ref ha, .ref he, .int (nI ic), .int (nI lc), .int (nI stp), .int ap])), (hn, .inr (1, [.int (nI cnt), .ref ow, .ref fi, .ref ma, .ref ro])), (ow, .inl (cI, 400, .inl fo)), (fi, .inl (cI, 400, .inl ff)), (ma, .inl (cJ, 400, .inr (.inl fk))), (ro, .inl (cJ, len, .inr (.inl fr))), (ha, .inr (0, [.ref oa, .ref na, .ref sa, .int (nI oA), .int (nI cA), .int (nI rA), .int (nI tA)])), (oa, .inl (cI, 16, .inl (fun j => nI (gA j)))), (na, .inl (cI, 4, .inl (fun j => nI (nA j)))), (sa, .inl (cI, 16, .inl sA)), (he, .inr (0, [.ref ob, .ref nb, .ref sb, .int (nI oB), .int (nI cB), .int (nI rB), .int (nI tB)])), (ob, .inl (cI, 16, .inl (fun j => nI (gB j)))), (nb, .inl (cI, 4, .inl (fun j => nI (nB j)))), (sb, .inl (cI, 16, .inl sB))] s.heap := hP
  have hD : va_D A [(oo, .inl (cJ, 1, .inr (.inl fv))), (h, .inr (2, [.ref hn, .ref ha, .ref he, .int (nI ic), .int (nI lc), .int (nI stp), .int ap])), (hn, .inr (1, [.int (nI cnt), .ref ow, .ref fi, .ref ma, .ref ro])), (ow, .inl (cI, 400, .inl fo)), (fi, .inl (cI, 400, .inl ff)), (ma, .inl (cJ, 400, .inr (.inl fk))), (ro, .inl (cJ, len, .inr (.inl fr))), (ha, .inr (0, [.ref oa, .ref na, .ref sa, .int (nI oA), .int (nI cA), .int (nI rA), .int (nI tA)])), (oa, .inl (cI, 16, .inl (fun j => nI (gA j)))), (na, .inl (cI, 4, .inl (fun j => nI (nA j)))), (sa, .inl (cI, 16, .inl sA)), (he, .inr (0, [.ref ob, .ref nb, .ref sb, .int (nI oB), .int (nI cB), .int (nI rB), .int (nI tB)])), (ob, .inl (cI, 16, .inl (fun j => nI (gB j)))), (nb, .inl (cI, 4, .inl (fun j => nI (nB j)))), (sb, .inl (cI, 16, .inl sB))] := hD
  have hl := lv_entry ([.ref h, .int x, .int y, .int z, .ref oo]) (n := 6) (Nat.le_of_ble_eq_true rfl)
  rw [lg_entry_eq]
  generalize (lg_sl ([.ref h, .int x, .int y, .int z, .ref oo]) ++ List.replicate (6 - (lg_sl ([.ref h, .int x, .int y, .int z, .ref oo])).length) Slot.unset).toArray = ls at hl ⊢
  have hl : lv_has ls 6 [(0, .ref h), (1, .int x), (2, .int y), (3, .int z), (4, .ref oo)] := hl
  obtain ⟨hrc, hrs, hr1, hr2⟩ := hrm
  refine lv_aload hx hb dL_and_0 (lv_at hl 4 rfl) ?_
  refine lv_iconst (v := nI 0) hx hb dL_and_2 (by decide) ?_
  refine lv_aload_n hx hb dL_and_3 rfl (lv_at hl 0 rfl) ?_
  refine lv_iload_n hx hb dL_and_4 rfl (lv_at hl 1 rfl) ?_
  refine lv_iload_n hx hb dL_and_5 rfl (lv_at hl 2 rfl) ?_
  refine lv_iload_n hx hb dL_and_6 rfl (lv_at hl 3 rfl) ?_
  refine ct_V (As := [.int x, .int y, .int z]) (rest := [.int (nI 0), .ref oo]) (E0 := "java/lang/IndexOutOfBoundsException") ⟨hx, hb, hml, hown, hts⟩ hM (cwV 3 hts gL_and_X2_and rfl hrc hrs (by decide +kernel) ⟨by show _ ≤ _; simp only [headSpec]; omega, by show _ ≤ _; simp only [headSpec]; omega⟩) (re_pv (ci := 2) (q0 := 0) hK (hP.sub (ws' := [(h, .inr (2, [.ref hn, .ref ha, .ref he, .int (nI ic), .int (nI lc), .int (nI stp), .int ap])), (hn, .inr (1, [.int (nI cnt), .ref ow, .ref fi, .ref ma, .ref ro])), (ow, .inl (cI, 400, .inl fo)), (fi, .inl (cI, 400, .inl ff)), (ma, .inl (cJ, 400, .inr (.inl fk))), (ro, .inl (cJ, len, .inr (.inl fr))), (ha, .inr (0, [.ref oa, .ref na, .ref sa, .int (nI oA), .int (nI cA), .int (nI rA), .int (nI tA)])), (oa, .inl (cI, 16, .inl (fun j => nI (gA j)))), (na, .inl (cI, 4, .inl (fun j => nI (nA j)))), (sa, .inl (cI, 16, .inl sA)), (he, .inr (0, [.ref ob, .ref nb, .ref sb, .int (nI oB), .int (nI cB), .int (nI rB), .int (nI tB)])), (ob, .inl (cI, 16, .inl (fun j => nI (gB j)))), (nb, .inl (cI, 4, .inl (fun j => nI (nB j)))), (sb, .inl (cI, 16, .inl sB))]) [1, 2, 3, 4, 5, 6, 7, 8, 9, 10, 11, 12, 13, 14] rfl) hE rfl rfl) rfl hl.1 rfl (Nat.le_of_ble_eq_true rfl) dL_and_7 ⟨by show _ ≤ _; simp only [headSpec]; omega, by show _ ≤ _; simp only [headSpec]; omega⟩ [] (⟨0, 12, 15, 25⟩ : ExceptionTableEntry) [(⟨0, 12, 19, 13⟩ : ExceptionTableEntry), (⟨0, 12, 23, 19⟩ : ExceptionTableEntry)] (htb.trans rfl) (fun z hz => absurd hz List.not_mem_nil) (by decide) (by decide) (hts (.classLink RL 25 "java/lang/IndexOutOfBoundsException") (by decide +kernel)) (hE.2.2.2.2.2.1 "java/lang/IndexOutOfBoundsException" (by decide)) (fun q9 H hz9 hk9 => ?_)
  have hP := hP.kept (H1 := H) (fun k q hq => hk9 _ (vx_lt hP hq))
  have hS : va_S A s.heap H [] := ⟨hz9, fun q g1 _ => hk9 q g1, fun q h => absurd h List.not_mem_nil⟩
  refine W.widen (k := 1) (n := 6) (by omega) (by omega) ?_
  refine W.eq (g2 := F0 m 15 ls [.ref q9]) rfl ?_
  refine lv_astore (lv' := [(5, .ref q9), (0, .ref h), (1, .int x), (2, .int y), (3, .int z), (4, .ref oo)]) hx hb dL_and_15 hl (by decide) rfl (fun ls hl => ?_)
  refine lv_iconst (v := nI 1) hx hb dL_and_17 (by decide) ?_
  exact wr_i () hx hb hr hlocks hP hD hS dL_and_18 rfl trivial
set_option maxHeartbeats 4000000 in
set_option maxRecDepth 100000 in
/-- and, where the class throws -/
theorem wt_and_is (rm : Room) (x y z : Int32) (hrm : rm.cells = 1 ∧ rm.slots = 6 ∧ rm.frames ≤ 7 ∧ rm.locals ≤ 140) (hM : TH l yX2_and wsX2_and rm (re_P D [(cI, .int), (cJ, .long)] (xW h hn ow fi ma ro ha oa na sa he ob nb sb cI cJ ic lc stp ap cnt len fo ff fk fr oA cA rA tA gA nA sA oB cB rB tB gB nB sB) tp [.ref h, .int x, .int y, .int z]) "java/lang/IllegalStateException") (sz : Nat) : Met l yL_and wsL_and { frames := 8, cells := 1, slots := 6, locals := 163 } (wl_P D [(cI, .int), (cJ, .long)] ((oo, .inl (cJ, 1, .inr (.inl fv))) :: xW h hn ow fi ma ro ha oa na sa he ob nb sb cI cJ ic lc stp ap cnt len fo ff fk fr oA cA rA tA gA nA sA oB cB rB tB gB nB sB) sz tp [.ref h, .int x, .int y, .int z, .ref oo]) (wx (Su := Unit) D [(cI, .int), (cJ, .long)] (va_A ((oo, .inl (cJ, 1, .inr (.inl fv))) :: xW h hn ow fi ma ro ha oa na sa he ob nb sb cI cJ ic lc stp ap cnt len fo ff fk fr oA cA rA tA gA nA sA oB cB rB tB gB nB sB) sz) (fun _ => some (.int (nI 2))) (fun _ => True) (fun _ => (oo, .inl (cJ, 1, .inr (.inl fv))) :: xW h hn ow fi ma ro ha oa na sa he ob nb sb cI cJ ic lc stp ap cnt len fo ff fk fr oA cA rA tA gA nA sA oB cB rB tB gB nB sB)) 1 6 (va_A ((oo, .inl (cJ, 1, .inr (.inl fv))) :: xW h hn ow fi ma ro ha oa na sa he ob nb sb cI cJ ic lc stp ap cnt len fo ff fk fr oA cA rA tA gA nA sA oB cB rB tB gB nB sB) sz) := by
  refine mt_ofWH (cc := cL_and) (maxL := 6) (ret := (some .int)) (hh := [(0, 12, 15, 25), (0, 12, 19, 13), (0, 12, 23, 19)]) (by decide) rfl ?_
  intro p e s m args below meth c s₁ B hml htb hv
  obtain ⟨rfl, hsz, ⟨hP, hK, hD0⟩, hE, hNC⟩ := hv
  have hx := B.exec
  have hb := B.bytes
  have hr := B.returns
  have hts := atoms_spec (ws := wsL_and) B.pre
  have hown : s.vm.findClass RL = some m.cls := findClass_of_methodNamed B.named
  have hlocks := B.notSynchronized
  subst hsz
  have hD := hD0.self (sz := s.heap.size)
  generalize hAe : va_A ((oo, .inl (cJ, 1, .inr (.inl fv))) :: xW h hn ow fi ma ro ha oa na sa he ob nb sb cI cJ ic lc stp ap cnt len fo ff fk fr oA cA rA tA gA nA sA oB cB rB tB gB nB sB) s.heap.size = A at hD hE ⊢
  have hA : ∀ q : Nat, s.heap.size ≤ q → A q := fun q h => by rw [← hAe]; exact Or.inr h
  have hS : va_S A s.heap s.heap [] := va_S.rf
  have hP : va_P D vwCl [(oo, .inl (cJ, 1, .inr (.inl fv))), (h, .inr (2, [.ref hn, .ref ha, .ref he, .int (nI ic), .int (nI lc), .int (nI stp), .int ap])), (hn, .inr (1, [.int (nI cnt), .ref ow, .ref fi, .ref ma, .ref ro])), (ow, .inl (cI, 400, .inl fo)), (fi, .inl (cI, 400, .inl ff)), (ma, .inl (cJ, 400, .inr (.inl fk))), (ro, .inl (cJ, len, .inr (.inl fr))), (ha, .inr (0, [.ref oa, .ref na, .ref sa, .int (nI oA), .int (nI cA), .int (nI rA), .int (nI tA)])), (oa, .inl (cI, 16, .inl (fun j => nI (gA j)))), (na, .inl (cI, 4, .inl (fun j => nI (nA j)))), (sa, .inl (cI, 16, .inl sA)), (he, .inr (0, [.ref ob, .ref nb, .ref sb, .int (nI oB), .int (nI cB), .int (nI rB), .int (nI tB)])), (ob, .inl (cI, 16, .inl (fun j => nI (gB j)))), (nb, .inl (cI, 4, .inl (fun j => nI (nB j)))), (sb, .inl (cI, 16, .inl sB))] s.heap := hP
  have hD : va_D A [(oo, .inl (cJ, 1, .inr (.inl fv))), (h, .inr (2, [.ref hn, .ref ha, .ref he, .int (nI ic), .int (nI lc), .int (nI stp), .int ap])), (hn, .inr (1, [.int (nI cnt), .ref ow, .ref fi, .ref ma, .ref ro])), (ow, .inl (cI, 400, .inl fo)), (fi, .inl (cI, 400, .inl ff)), (ma, .inl (cJ, 400, .inr (.inl fk))), (ro, .inl (cJ, len, .inr (.inl fr))), (ha, .inr (0, [.ref oa, .ref na, .ref sa, .int (nI oA), .int (nI cA), .int (nI rA), .int (nI tA)])), (oa, .inl (cI, 16, .inl (fun j => nI (gA j)))), (na, .inl (cI, 4, .inl (fun j => nI (nA j)))), (sa, .inl (cI, 16, .inl sA)), (he, .inr (0, [.ref ob, .ref nb, .ref sb, .int (nI oB), .int (nI cB), .int (nI rB), .int (nI tB)])), (ob, .inl (cI, 16, .inl (fun j => nI (gB j)))), (nb, .inl (cI, 4, .inl (fun j => nI (nB j)))), (sb, .inl (cI, 16, .inl sB))] := hD
  have hl := lv_entry ([.ref h, .int x, .int y, .int z, .ref oo]) (n := 6) (Nat.le_of_ble_eq_true rfl)
  rw [lg_entry_eq]
  generalize (lg_sl ([.ref h, .int x, .int y, .int z, .ref oo]) ++ List.replicate (6 - (lg_sl ([.ref h, .int x, .int y, .int z, .ref oo])).length) Slot.unset).toArray = ls at hl ⊢
  have hl : lv_has ls 6 [(0, .ref h), (1, .int x), (2, .int y), (3, .int z), (4, .ref oo)] := hl
  obtain ⟨hrc, hrs, hr1, hr2⟩ := hrm
  refine lv_aload hx hb dL_and_0 (lv_at hl 4 rfl) ?_
  refine lv_iconst (v := nI 0) hx hb dL_and_2 (by decide) ?_
  refine lv_aload_n hx hb dL_and_3 rfl (lv_at hl 0 rfl) ?_
  refine lv_iload_n hx hb dL_and_4 rfl (lv_at hl 1 rfl) ?_
  refine lv_iload_n hx hb dL_and_5 rfl (lv_at hl 2 rfl) ?_
  refine lv_iload_n hx hb dL_and_6 rfl (lv_at hl 3 rfl) ?_
  refine ct_V (As := [.int x, .int y, .int z]) (rest := [.int (nI 0), .ref oo]) (E0 := "java/lang/IllegalStateException") ⟨hx, hb, hml, hown, hts⟩ hM (cwV 3 hts gL_and_X2_and rfl hrc hrs (by decide +kernel) ⟨by show _ ≤ _; simp only [headSpec]; omega, by show _ ≤ _; simp only [headSpec]; omega⟩) (re_pv (ci := 2) (q0 := 0) hK (hP.sub (ws' := [(h, .inr (2, [.ref hn, .ref ha, .ref he, .int (nI ic), .int (nI lc), .int (nI stp), .int ap])), (hn, .inr (1, [.int (nI cnt), .ref ow, .ref fi, .ref ma, .ref ro])), (ow, .inl (cI, 400, .inl fo)), (fi, .inl (cI, 400, .inl ff)), (ma, .inl (cJ, 400, .inr (.inl fk))), (ro, .inl (cJ, len, .inr (.inl fr))), (ha, .inr (0, [.ref oa, .ref na, .ref sa, .int (nI oA), .int (nI cA), .int (nI rA), .int (nI tA)])), (oa, .inl (cI, 16, .inl (fun j => nI (gA j)))), (na, .inl (cI, 4, .inl (fun j => nI (nA j)))), (sa, .inl (cI, 16, .inl sA)), (he, .inr (0, [.ref ob, .ref nb, .ref sb, .int (nI oB), .int (nI cB), .int (nI rB), .int (nI tB)])), (ob, .inl (cI, 16, .inl (fun j => nI (gB j)))), (nb, .inl (cI, 4, .inl (fun j => nI (nB j)))), (sb, .inl (cI, 16, .inl sB))]) [1, 2, 3, 4, 5, 6, 7, 8, 9, 10, 11, 12, 13, 14] rfl) hE rfl rfl) rfl hl.1 rfl (Nat.le_of_ble_eq_true rfl) dL_and_7 ⟨by show _ ≤ _; simp only [headSpec]; omega, by show _ ≤ _; simp only [headSpec]; omega⟩ [(⟨0, 12, 15, 25⟩ : ExceptionTableEntry)] (⟨0, 12, 19, 13⟩ : ExceptionTableEntry) [(⟨0, 12, 23, 19⟩ : ExceptionTableEntry)] (htb.trans rfl) (fun z hz => (List.mem_cons.mp hz).elim (fun hz => by subst hz; exact ⟨by decide, by decide, "java/lang/IndexOutOfBoundsException", hts (.classLink RL 25 "java/lang/IndexOutOfBoundsException") (by decide +kernel), hNC ("java/lang/IllegalStateException", "java/lang/IndexOutOfBoundsException") (by decide)⟩) (fun hz => absurd hz List.not_mem_nil)) (by decide) (by decide) (hts (.classLink RL 13 "java/lang/IllegalStateException") (by decide +kernel)) (hE.2.2.2.2.2.1 "java/lang/IllegalStateException" (by decide)) (fun q9 H hz9 hk9 => ?_)
  have hP := hP.kept (H1 := H) (fun k q hq => hk9 _ (vx_lt hP hq))
  have hS : va_S A s.heap H [] := ⟨hz9, fun q g1 _ => hk9 q g1, fun q h => absurd h List.not_mem_nil⟩
  refine W.widen (k := 1) (n := 6) (by omega) (by omega) ?_
  refine W.eq (g2 := F0 m 19 ls [.ref q9]) rfl ?_
  refine lv_astore (lv' := [(5, .ref q9), (0, .ref h), (1, .int x), (2, .int y), (3, .int z), (4, .ref oo)]) hx hb dL_and_19 hl (by decide) rfl (fun ls hl => ?_)
  refine lv_iconst (v := nI 2) hx hb dL_and_21 (by decide) ?_
  exact wr_i () hx hb hr hlocks hP hD hS dL_and_22 rfl trivial
set_option maxHeartbeats 4000000 in
set_option maxRecDepth 100000 in
/-- and, where the class throws -/
theorem wt_and_ia (rm : Room) (x y z : Int32) (hrm : rm.cells = 1 ∧ rm.slots = 6 ∧ rm.frames ≤ 7 ∧ rm.locals ≤ 140) (hM : TH l yX2_and wsX2_and rm (re_P D [(cI, .int), (cJ, .long)] (xW h hn ow fi ma ro ha oa na sa he ob nb sb cI cJ ic lc stp ap cnt len fo ff fk fr oA cA rA tA gA nA sA oB cB rB tB gB nB sB) tp [.ref h, .int x, .int y, .int z]) "java/lang/IllegalArgumentException") (sz : Nat) : Met l yL_and wsL_and { frames := 8, cells := 1, slots := 6, locals := 163 } (wl_P D [(cI, .int), (cJ, .long)] ((oo, .inl (cJ, 1, .inr (.inl fv))) :: xW h hn ow fi ma ro ha oa na sa he ob nb sb cI cJ ic lc stp ap cnt len fo ff fk fr oA cA rA tA gA nA sA oB cB rB tB gB nB sB) sz tp [.ref h, .int x, .int y, .int z, .ref oo]) (wx (Su := Unit) D [(cI, .int), (cJ, .long)] (va_A ((oo, .inl (cJ, 1, .inr (.inl fv))) :: xW h hn ow fi ma ro ha oa na sa he ob nb sb cI cJ ic lc stp ap cnt len fo ff fk fr oA cA rA tA gA nA sA oB cB rB tB gB nB sB) sz) (fun _ => some (.int (nI 3))) (fun _ => True) (fun _ => (oo, .inl (cJ, 1, .inr (.inl fv))) :: xW h hn ow fi ma ro ha oa na sa he ob nb sb cI cJ ic lc stp ap cnt len fo ff fk fr oA cA rA tA gA nA sA oB cB rB tB gB nB sB)) 1 6 (va_A ((oo, .inl (cJ, 1, .inr (.inl fv))) :: xW h hn ow fi ma ro ha oa na sa he ob nb sb cI cJ ic lc stp ap cnt len fo ff fk fr oA cA rA tA gA nA sA oB cB rB tB gB nB sB) sz) := by
  refine mt_ofWH (cc := cL_and) (maxL := 6) (ret := (some .int)) (hh := [(0, 12, 15, 25), (0, 12, 19, 13), (0, 12, 23, 19)]) (by decide) rfl ?_
  intro p e s m args below meth c s₁ B hml htb hv
  obtain ⟨rfl, hsz, ⟨hP, hK, hD0⟩, hE, hNC⟩ := hv
  have hx := B.exec
  have hb := B.bytes
  have hr := B.returns
  have hts := atoms_spec (ws := wsL_and) B.pre
  have hown : s.vm.findClass RL = some m.cls := findClass_of_methodNamed B.named
  have hlocks := B.notSynchronized
  subst hsz
  have hD := hD0.self (sz := s.heap.size)
  generalize hAe : va_A ((oo, .inl (cJ, 1, .inr (.inl fv))) :: xW h hn ow fi ma ro ha oa na sa he ob nb sb cI cJ ic lc stp ap cnt len fo ff fk fr oA cA rA tA gA nA sA oB cB rB tB gB nB sB) s.heap.size = A at hD hE ⊢
  have hA : ∀ q : Nat, s.heap.size ≤ q → A q := fun q h => by rw [← hAe]; exact Or.inr h
  have hS : va_S A s.heap s.heap [] := va_S.rf
  have hP : va_P D vwCl [(oo, .inl (cJ, 1, .inr (.inl fv))), (h, .inr (2, [.ref hn, .ref ha, .ref he, .int (nI ic), .int (nI lc), .int (nI stp), .int ap])), (hn, .inr (1, [.int (nI cnt), .ref ow, .ref fi, .ref ma, .ref ro])), (ow, .inl (cI, 400, .inl fo)), (fi, .inl (cI, 400, .inl ff)), (ma, .inl (cJ, 400, .inr (.inl fk))), (ro, .inl (cJ, len, .inr (.inl fr))), (ha, .inr (0, [.ref oa, .ref na, .ref sa, .int (nI oA), .int (nI cA), .int (nI rA), .int (nI tA)])), (oa, .inl (cI, 16, .inl (fun j => nI (gA j)))), (na, .inl (cI, 4, .inl (fun j => nI (nA j)))), (sa, .inl (cI, 16, .inl sA)), (he, .inr (0, [.ref ob, .ref nb, .ref sb, .int (nI oB), .int (nI cB), .int (nI rB), .int (nI tB)])), (ob, .inl (cI, 16, .inl (fun j => nI (gB j)))), (nb, .inl (cI, 4, .inl (fun j => nI (nB j)))), (sb, .inl (cI, 16, .inl sB))] s.heap := hP
  have hD : va_D A [(oo, .inl (cJ, 1, .inr (.inl fv))), (h, .inr (2, [.ref hn, .ref ha, .ref he, .int (nI ic), .int (nI lc), .int (nI stp), .int ap])), (hn, .inr (1, [.int (nI cnt), .ref ow, .ref fi, .ref ma, .ref ro])), (ow, .inl (cI, 400, .inl fo)), (fi, .inl (cI, 400, .inl ff)), (ma, .inl (cJ, 400, .inr (.inl fk))), (ro, .inl (cJ, len, .inr (.inl fr))), (ha, .inr (0, [.ref oa, .ref na, .ref sa, .int (nI oA), .int (nI cA), .int (nI rA), .int (nI tA)])), (oa, .inl (cI, 16, .inl (fun j => nI (gA j)))), (na, .inl (cI, 4, .inl (fun j => nI (nA j)))), (sa, .inl (cI, 16, .inl sA)), (he, .inr (0, [.ref ob, .ref nb, .ref sb, .int (nI oB), .int (nI cB), .int (nI rB), .int (nI tB)])), (ob, .inl (cI, 16, .inl (fun j => nI (gB j)))), (nb, .inl (cI, 4, .inl (fun j => nI (nB j)))), (sb, .inl (cI, 16, .inl sB))] := hD
  have hl := lv_entry ([.ref h, .int x, .int y, .int z, .ref oo]) (n := 6) (Nat.le_of_ble_eq_true rfl)
  rw [lg_entry_eq]
  generalize (lg_sl ([.ref h, .int x, .int y, .int z, .ref oo]) ++ List.replicate (6 - (lg_sl ([.ref h, .int x, .int y, .int z, .ref oo])).length) Slot.unset).toArray = ls at hl ⊢
  have hl : lv_has ls 6 [(0, .ref h), (1, .int x), (2, .int y), (3, .int z), (4, .ref oo)] := hl
  obtain ⟨hrc, hrs, hr1, hr2⟩ := hrm
  refine lv_aload hx hb dL_and_0 (lv_at hl 4 rfl) ?_
  refine lv_iconst (v := nI 0) hx hb dL_and_2 (by decide) ?_
  refine lv_aload_n hx hb dL_and_3 rfl (lv_at hl 0 rfl) ?_
  refine lv_iload_n hx hb dL_and_4 rfl (lv_at hl 1 rfl) ?_
  refine lv_iload_n hx hb dL_and_5 rfl (lv_at hl 2 rfl) ?_
  refine lv_iload_n hx hb dL_and_6 rfl (lv_at hl 3 rfl) ?_
  refine ct_V (As := [.int x, .int y, .int z]) (rest := [.int (nI 0), .ref oo]) (E0 := "java/lang/IllegalArgumentException") ⟨hx, hb, hml, hown, hts⟩ hM (cwV 3 hts gL_and_X2_and rfl hrc hrs (by decide +kernel) ⟨by show _ ≤ _; simp only [headSpec]; omega, by show _ ≤ _; simp only [headSpec]; omega⟩) (re_pv (ci := 2) (q0 := 0) hK (hP.sub (ws' := [(h, .inr (2, [.ref hn, .ref ha, .ref he, .int (nI ic), .int (nI lc), .int (nI stp), .int ap])), (hn, .inr (1, [.int (nI cnt), .ref ow, .ref fi, .ref ma, .ref ro])), (ow, .inl (cI, 400, .inl fo)), (fi, .inl (cI, 400, .inl ff)), (ma, .inl (cJ, 400, .inr (.inl fk))), (ro, .inl (cJ, len, .inr (.inl fr))), (ha, .inr (0, [.ref oa, .ref na, .ref sa, .int (nI oA), .int (nI cA), .int (nI rA), .int (nI tA)])), (oa, .inl (cI, 16, .inl (fun j => nI (gA j)))), (na, .inl (cI, 4, .inl (fun j => nI (nA j)))), (sa, .inl (cI, 16, .inl sA)), (he, .inr (0, [.ref ob, .ref nb, .ref sb, .int (nI oB), .int (nI cB), .int (nI rB), .int (nI tB)])), (ob, .inl (cI, 16, .inl (fun j => nI (gB j)))), (nb, .inl (cI, 4, .inl (fun j => nI (nB j)))), (sb, .inl (cI, 16, .inl sB))]) [1, 2, 3, 4, 5, 6, 7, 8, 9, 10, 11, 12, 13, 14] rfl) hE rfl rfl) rfl hl.1 rfl (Nat.le_of_ble_eq_true rfl) dL_and_7 ⟨by show _ ≤ _; simp only [headSpec]; omega, by show _ ≤ _; simp only [headSpec]; omega⟩ [(⟨0, 12, 15, 25⟩ : ExceptionTableEntry), (⟨0, 12, 19, 13⟩ : ExceptionTableEntry)] (⟨0, 12, 23, 19⟩ : ExceptionTableEntry) [] (htb.trans rfl) (fun z hz => (List.mem_cons.mp hz).elim (fun hz => by subst hz; exact ⟨by decide, by decide, "java/lang/IndexOutOfBoundsException", hts (.classLink RL 25 "java/lang/IndexOutOfBoundsException") (by decide +kernel), hNC ("java/lang/IllegalArgumentException", "java/lang/IndexOutOfBoundsException") (by decide)⟩) (fun hz => (List.mem_cons.mp hz).elim (fun hz => by subst hz; exact ⟨by decide, by decide, "java/lang/IllegalStateException", hts (.classLink RL 13 "java/lang/IllegalStateException") (by decide +kernel), hNC ("java/lang/IllegalArgumentException", "java/lang/IllegalStateException") (by decide)⟩) (fun hz => absurd hz List.not_mem_nil))) (by decide) (by decide) (hts (.classLink RL 19 "java/lang/IllegalArgumentException") (by decide +kernel)) (hE.2.2.2.2.2.1 "java/lang/IllegalArgumentException" (by decide)) (fun q9 H hz9 hk9 => ?_)
  have hP := hP.kept (H1 := H) (fun k q hq => hk9 _ (vx_lt hP hq))
  have hS : va_S A s.heap H [] := ⟨hz9, fun q g1 _ => hk9 q g1, fun q h => absurd h List.not_mem_nil⟩
  refine W.widen (k := 1) (n := 6) (by omega) (by omega) ?_
  refine W.eq (g2 := F0 m 23 ls [.ref q9]) rfl ?_
  refine lv_astore (lv' := [(5, .ref q9), (0, .ref h), (1, .int x), (2, .int y), (3, .int z), (4, .ref oo)]) hx hb dL_and_23 hl (by decide) rfl (fun ls hl => ?_)
  refine lv_iconst (v := nI 3) hx hb dL_and_25 (by decide) ?_
  exact wr_i () hx hb hr hlocks hP hD hS dL_and_26 rfl trivial
set_option maxHeartbeats 4000000 in
set_option maxRecDepth 100000 in
/-- output, where the class throws -/
theorem wt_output_io (rm : Room) (x y : Int32) (hrm : rm.cells = 1 ∧ rm.slots = 6 ∧ rm.frames ≤ 7 ∧ rm.locals ≤ 104) (hM : TH l yX2_output wsX2_output rm (re_P D [(cI, .int), (cJ, .long)] (xW h hn ow fi ma ro ha oa na sa he ob nb sb cI cJ ic lc stp ap cnt len fo ff fk fr oA cA rA tA gA nA sA oB cB rB tB gB nB sB) tp [.ref h, .int x, .int y]) "java/lang/IndexOutOfBoundsException") (sz : Nat) : Met l yL_output wsL_output { frames := 8, cells := 1, slots := 6, locals := 127 } (wl_P D [(cI, .int), (cJ, .long)] ((oo, .inl (cJ, 1, .inr (.inl fv))) :: xW h hn ow fi ma ro ha oa na sa he ob nb sb cI cJ ic lc stp ap cnt len fo ff fk fr oA cA rA tA gA nA sA oB cB rB tB gB nB sB) sz tp [.ref h, .int x, .int y, .ref oo]) (wx (Su := Unit) D [(cI, .int), (cJ, .long)] (va_A ((oo, .inl (cJ, 1, .inr (.inl fv))) :: xW h hn ow fi ma ro ha oa na sa he ob nb sb cI cJ ic lc stp ap cnt len fo ff fk fr oA cA rA tA gA nA sA oB cB rB tB gB nB sB) sz) (fun _ => some (.int (nI 1))) (fun _ => True) (fun _ => (oo, .inl (cJ, 1, .inr (.inl fv))) :: xW h hn ow fi ma ro ha oa na sa he ob nb sb cI cJ ic lc stp ap cnt len fo ff fk fr oA cA rA tA gA nA sA oB cB rB tB gB nB sB)) 1 6 (va_A ((oo, .inl (cJ, 1, .inr (.inl fv))) :: xW h hn ow fi ma ro ha oa na sa he ob nb sb cI cJ ic lc stp ap cnt len fo ff fk fr oA cA rA tA gA nA sA oB cB rB tB gB nB sB) sz) := by
  refine mt_ofWH (cc := cL_output) (maxL := 5) (ret := (some .int)) (hh := [(0, 10, 13, 25), (0, 10, 17, 13), (0, 10, 21, 19)]) (by decide) rfl ?_
  intro p e s m args below meth c s₁ B hml htb hv
  obtain ⟨rfl, hsz, ⟨hP, hK, hD0⟩, hE, hNC⟩ := hv
  have hx := B.exec
  have hb := B.bytes
  have hr := B.returns
  have hts := atoms_spec (ws := wsL_output) B.pre
  have hown : s.vm.findClass RL = some m.cls := findClass_of_methodNamed B.named
  have hlocks := B.notSynchronized
  subst hsz
  have hD := hD0.self (sz := s.heap.size)
  generalize hAe : va_A ((oo, .inl (cJ, 1, .inr (.inl fv))) :: xW h hn ow fi ma ro ha oa na sa he ob nb sb cI cJ ic lc stp ap cnt len fo ff fk fr oA cA rA tA gA nA sA oB cB rB tB gB nB sB) s.heap.size = A at hD hE ⊢
  have hA : ∀ q : Nat, s.heap.size ≤ q → A q := fun q h => by rw [← hAe]; exact Or.inr h
  have hS : va_S A s.heap s.heap [] := va_S.rf
  have hP : va_P D vwCl [(oo, .inl (cJ, 1, .inr (.inl fv))), (h, .inr (2, [.ref hn, .ref ha, .ref he, .int (nI ic), .int (nI lc), .int (nI stp), .int ap])), (hn, .inr (1, [.int (nI cnt), .ref ow, .ref fi, .ref ma, .ref ro])), (ow, .inl (cI, 400, .inl fo)), (fi, .inl (cI, 400, .inl ff)), (ma, .inl (cJ, 400, .inr (.inl fk))), (ro, .inl (cJ, len, .inr (.inl fr))), (ha, .inr (0, [.ref oa, .ref na, .ref sa, .int (nI oA), .int (nI cA), .int (nI rA), .int (nI tA)])), (oa, .inl (cI, 16, .inl (fun j => nI (gA j)))), (na, .inl (cI, 4, .inl (fun j => nI (nA j)))), (sa, .inl (cI, 16, .inl sA)), (he, .inr (0, [.ref ob, .ref nb, .ref sb, .int (nI oB), .int (nI cB), .int (nI rB), .int (nI tB)])), (ob, .inl (cI, 16, .inl (fun j => nI (gB j)))), (nb, .inl (cI, 4, .inl (fun j => nI (nB j)))), (sb, .inl (cI, 16, .inl sB))] s.heap := hP
  have hD : va_D A [(oo, .inl (cJ, 1, .inr (.inl fv))), (h, .inr (2, [.ref hn, .ref ha, .ref he, .int (nI ic), .int (nI lc), .int (nI stp), .int ap])), (hn, .inr (1, [.int (nI cnt), .ref ow, .ref fi, .ref ma, .ref ro])), (ow, .inl (cI, 400, .inl fo)), (fi, .inl (cI, 400, .inl ff)), (ma, .inl (cJ, 400, .inr (.inl fk))), (ro, .inl (cJ, len, .inr (.inl fr))), (ha, .inr (0, [.ref oa, .ref na, .ref sa, .int (nI oA), .int (nI cA), .int (nI rA), .int (nI tA)])), (oa, .inl (cI, 16, .inl (fun j => nI (gA j)))), (na, .inl (cI, 4, .inl (fun j => nI (nA j)))), (sa, .inl (cI, 16, .inl sA)), (he, .inr (0, [.ref ob, .ref nb, .ref sb, .int (nI oB), .int (nI cB), .int (nI rB), .int (nI tB)])), (ob, .inl (cI, 16, .inl (fun j => nI (gB j)))), (nb, .inl (cI, 4, .inl (fun j => nI (nB j)))), (sb, .inl (cI, 16, .inl sB))] := hD
  have hl := lv_entry ([.ref h, .int x, .int y, .ref oo]) (n := 5) (Nat.le_of_ble_eq_true rfl)
  rw [lg_entry_eq]
  generalize (lg_sl ([.ref h, .int x, .int y, .ref oo]) ++ List.replicate (5 - (lg_sl ([.ref h, .int x, .int y, .ref oo])).length) Slot.unset).toArray = ls at hl ⊢
  have hl : lv_has ls 5 [(0, .ref h), (1, .int x), (2, .int y), (3, .ref oo)] := hl
  obtain ⟨hrc, hrs, hr1, hr2⟩ := hrm
  refine lv_aload_n hx hb dL_output_0 rfl (lv_at hl 3 rfl) ?_
  refine lv_iconst (v := nI 0) hx hb dL_output_1 (by decide) ?_
  refine lv_aload_n hx hb dL_output_2 rfl (lv_at hl 0 rfl) ?_
  refine lv_iload_n hx hb dL_output_3 rfl (lv_at hl 1 rfl) ?_
  refine lv_iload_n hx hb dL_output_4 rfl (lv_at hl 2 rfl) ?_
  refine ct_V (As := [.int x, .int y]) (rest := [.int (nI 0), .ref oo]) (E0 := "java/lang/IndexOutOfBoundsException") ⟨hx, hb, hml, hown, hts⟩ hM (cwV 2 hts gL_output_X2_output rfl hrc hrs (by decide +kernel) ⟨by show _ ≤ _; simp only [headSpec]; omega, by show _ ≤ _; simp only [headSpec]; omega⟩) (re_pv (ci := 2) (q0 := 0) hK (hP.sub (ws' := [(h, .inr (2, [.ref hn, .ref ha, .ref he, .int (nI ic), .int (nI lc), .int (nI stp), .int ap])), (hn, .inr (1, [.int (nI cnt), .ref ow, .ref fi, .ref ma, .ref ro])), (ow, .inl (cI, 400, .inl fo)), (fi, .inl (cI, 400, .inl ff)), (ma, .inl (cJ, 400, .inr (.inl fk))), (ro, .inl (cJ, len, .inr (.inl fr))), (ha, .inr (0, [.ref oa, .ref na, .ref sa, .int (nI oA), .int (nI cA), .int (nI rA), .int (nI tA)])), (oa, .inl (cI, 16, .inl (fun j => nI (gA j)))), (na, .inl (cI, 4, .inl (fun j => nI (nA j)))), (sa, .inl (cI, 16, .inl sA)), (he, .inr (0, [.ref ob, .ref nb, .ref sb, .int (nI oB), .int (nI cB), .int (nI rB), .int (nI tB)])), (ob, .inl (cI, 16, .inl (fun j => nI (gB j)))), (nb, .inl (cI, 4, .inl (fun j => nI (nB j)))), (sb, .inl (cI, 16, .inl sB))]) [1, 2, 3, 4, 5, 6, 7, 8, 9, 10, 11, 12, 13, 14] rfl) hE rfl rfl) rfl hl.1 rfl (Nat.le_of_ble_eq_true rfl) dL_output_5 ⟨by show _ ≤ _; simp only [headSpec]; omega, by show _ ≤ _; simp only [headSpec]; omega⟩ [] (⟨0, 10, 13, 25⟩ : ExceptionTableEntry) [(⟨0, 10, 17, 13⟩ : ExceptionTableEntry), (⟨0, 10, 21, 19⟩ : ExceptionTableEntry)] (htb.trans rfl) (fun z hz => absurd hz List.not_mem_nil) (by decide) (by decide) (hts (.classLink RL 25 "java/lang/IndexOutOfBoundsException") (by decide +kernel)) (hE.2.2.2.2.2.1 "java/lang/IndexOutOfBoundsException" (by decide)) (fun q9 H hz9 hk9 => ?_)
  have hP := hP.kept (H1 := H) (fun k q hq => hk9 _ (vx_lt hP hq))
  have hS : va_S A s.heap H [] := ⟨hz9, fun q g1 _ => hk9 q g1, fun q h => absurd h List.not_mem_nil⟩
  refine W.widen (k := 1) (n := 6) (by omega) (by omega) ?_
  refine W.eq (g2 := F0 m 13 ls [.ref q9]) rfl ?_
  refine lv_astore (lv' := [(4, .ref q9), (0, .ref h), (1, .int x), (2, .int y), (3, .ref oo)]) hx hb dL_output_13 hl (by decide) rfl (fun ls hl => ?_)
  refine lv_iconst (v := nI 1) hx hb dL_output_15 (by decide) ?_
  exact wr_i () hx hb hr hlocks hP hD hS dL_output_16 rfl trivial
set_option maxHeartbeats 4000000 in
set_option maxRecDepth 100000 in
/-- output, where the class throws -/
theorem wt_output_is (rm : Room) (x y : Int32) (hrm : rm.cells = 1 ∧ rm.slots = 6 ∧ rm.frames ≤ 7 ∧ rm.locals ≤ 104) (hM : TH l yX2_output wsX2_output rm (re_P D [(cI, .int), (cJ, .long)] (xW h hn ow fi ma ro ha oa na sa he ob nb sb cI cJ ic lc stp ap cnt len fo ff fk fr oA cA rA tA gA nA sA oB cB rB tB gB nB sB) tp [.ref h, .int x, .int y]) "java/lang/IllegalStateException") (sz : Nat) : Met l yL_output wsL_output { frames := 8, cells := 1, slots := 6, locals := 127 } (wl_P D [(cI, .int), (cJ, .long)] ((oo, .inl (cJ, 1, .inr (.inl fv))) :: xW h hn ow fi ma ro ha oa na sa he ob nb sb cI cJ ic lc stp ap cnt len fo ff fk fr oA cA rA tA gA nA sA oB cB rB tB gB nB sB) sz tp [.ref h, .int x, .int y, .ref oo]) (wx (Su := Unit) D [(cI, .int), (cJ, .long)] (va_A ((oo, .inl (cJ, 1, .inr (.inl fv))) :: xW h hn ow fi ma ro ha oa na sa he ob nb sb cI cJ ic lc stp ap cnt len fo ff fk fr oA cA rA tA gA nA sA oB cB rB tB gB nB sB) sz) (fun _ => some (.int (nI 2))) (fun _ => True) (fun _ => (oo, .inl (cJ, 1, .inr (.inl fv))) :: xW h hn ow fi ma ro ha oa na sa he ob nb sb cI cJ ic lc stp ap cnt len fo ff fk fr oA cA rA tA gA nA sA oB cB rB tB gB nB sB)) 1 6 (va_A ((oo, .inl (cJ, 1, .inr (.inl fv))) :: xW h hn ow fi ma ro ha oa na sa he ob nb sb cI cJ ic lc stp ap cnt len fo ff fk fr oA cA rA tA gA nA sA oB cB rB tB gB nB sB) sz) := by
  refine mt_ofWH (cc := cL_output) (maxL := 5) (ret := (some .int)) (hh := [(0, 10, 13, 25), (0, 10, 17, 13), (0, 10, 21, 19)]) (by decide) rfl ?_
  intro p e s m args below meth c s₁ B hml htb hv
  obtain ⟨rfl, hsz, ⟨hP, hK, hD0⟩, hE, hNC⟩ := hv
  have hx := B.exec
  have hb := B.bytes
  have hr := B.returns
  have hts := atoms_spec (ws := wsL_output) B.pre
  have hown : s.vm.findClass RL = some m.cls := findClass_of_methodNamed B.named
  have hlocks := B.notSynchronized
  subst hsz
  have hD := hD0.self (sz := s.heap.size)
  generalize hAe : va_A ((oo, .inl (cJ, 1, .inr (.inl fv))) :: xW h hn ow fi ma ro ha oa na sa he ob nb sb cI cJ ic lc stp ap cnt len fo ff fk fr oA cA rA tA gA nA sA oB cB rB tB gB nB sB) s.heap.size = A at hD hE ⊢
  have hA : ∀ q : Nat, s.heap.size ≤ q → A q := fun q h => by rw [← hAe]; exact Or.inr h
  have hS : va_S A s.heap s.heap [] := va_S.rf
  have hP : va_P D vwCl [(oo, .inl (cJ, 1, .inr (.inl fv))), (h, .inr (2, [.ref hn, .ref ha, .ref he, .int (nI ic), .int (nI lc), .int (nI stp), .int ap])), (hn, .inr (1, [.int (nI cnt), .ref ow, .ref fi, .ref ma, .ref ro])), (ow, .inl (cI, 400, .inl fo)), (fi, .inl (cI, 400, .inl ff)), (ma, .inl (cJ, 400, .inr (.inl fk))), (ro, .inl (cJ, len, .inr (.inl fr))), (ha, .inr (0, [.ref oa, .ref na, .ref sa, .int (nI oA), .int (nI cA), .int (nI rA), .int (nI tA)])), (oa, .inl (cI, 16, .inl (fun j => nI (gA j)))), (na, .inl (cI, 4, .inl (fun j => nI (nA j)))), (sa, .inl (cI, 16, .inl sA)), (he, .inr (0, [.ref ob, .ref nb, .ref sb, .int (nI oB), .int (nI cB), .int (nI rB), .int (nI tB)])), (ob, .inl (cI, 16, .inl (fun j => nI (gB j)))), (nb, .inl (cI, 4, .inl (fun j => nI (nB j)))), (sb, .inl (cI, 16, .inl sB))] s.heap := hP
  have hD : va_D A [(oo, .inl (cJ, 1, .inr (.inl fv))), (h, .inr (2, [.ref hn, .ref ha, .ref he, .int (nI ic), .int (nI lc), .int (nI stp), .int ap])), (hn, .inr (1, [.int (nI cnt), .ref ow, .ref fi, .ref ma, .ref ro])), (ow, .inl (cI, 400, .inl fo)), (fi, .inl (cI, 400, .inl ff)), (ma, .inl (cJ, 400, .inr (.inl fk))), (ro, .inl (cJ, len, .inr (.inl fr))), (ha, .inr (0, [.ref oa, .ref na, .ref sa, .int (nI oA), .int (nI cA), .int (nI rA), .int (nI tA)])), (oa, .inl (cI, 16, .inl (fun j => nI (gA j)))), (na, .inl (cI, 4, .inl (fun j => nI (nA j)))), (sa, .inl (cI, 16, .inl sA)), (he, .inr (0, [.ref ob, .ref nb, .ref sb, .int (nI oB), .int (nI cB), .int (nI rB), .int (nI tB)])), (ob, .inl (cI, 16, .inl (fun j => nI (gB j)))), (nb, .inl (cI, 4, .inl (fun j => nI (nB j)))), (sb, .inl (cI, 16, .inl sB))] := hD
  have hl := lv_entry ([.ref h, .int x, .int y, .ref oo]) (n := 5) (Nat.le_of_ble_eq_true rfl)
  rw [lg_entry_eq]
  generalize (lg_sl ([.ref h, .int x, .int y, .ref oo]) ++ List.replicate (5 - (lg_sl ([.ref h, .int x, .int y, .ref oo])).length) Slot.unset).toArray = ls at hl ⊢
  have hl : lv_has ls 5 [(0, .ref h), (1, .int x), (2, .int y), (3, .ref oo)] := hl
  obtain ⟨hrc, hrs, hr1, hr2⟩ := hrm
  refine lv_aload_n hx hb dL_output_0 rfl (lv_at hl 3 rfl) ?_
  refine lv_iconst (v := nI 0) hx hb dL_output_1 (by decide) ?_
  refine lv_aload_n hx hb dL_output_2 rfl (lv_at hl 0 rfl) ?_
  refine lv_iload_n hx hb dL_output_3 rfl (lv_at hl 1 rfl) ?_
  refine lv_iload_n hx hb dL_output_4 rfl (lv_at hl 2 rfl) ?_
  refine ct_V (As := [.int x, .int y]) (rest := [.int (nI 0), .ref oo]) (E0 := "java/lang/IllegalStateException") ⟨hx, hb, hml, hown, hts⟩ hM (cwV 2 hts gL_output_X2_output rfl hrc hrs (by decide +kernel) ⟨by show _ ≤ _; simp only [headSpec]; omega, by show _ ≤ _; simp only [headSpec]; omega⟩) (re_pv (ci := 2) (q0 := 0) hK (hP.sub (ws' := [(h, .inr (2, [.ref hn, .ref ha, .ref he, .int (nI ic), .int (nI lc), .int (nI stp), .int ap])), (hn, .inr (1, [.int (nI cnt), .ref ow, .ref fi, .ref ma, .ref ro])), (ow, .inl (cI, 400, .inl fo)), (fi, .inl (cI, 400, .inl ff)), (ma, .inl (cJ, 400, .inr (.inl fk))), (ro, .inl (cJ, len, .inr (.inl fr))), (ha, .inr (0, [.ref oa, .ref na, .ref sa, .int (nI oA), .int (nI cA), .int (nI rA), .int (nI tA)])), (oa, .inl (cI, 16, .inl (fun j => nI (gA j)))), (na, .inl (cI, 4, .inl (fun j => nI (nA j)))), (sa, .inl (cI, 16, .inl sA)), (he, .inr (0, [.ref ob, .ref nb, .ref sb, .int (nI oB), .int (nI cB), .int (nI rB), .int (nI tB)])), (ob, .inl (cI, 16, .inl (fun j => nI (gB j)))), (nb, .inl (cI, 4, .inl (fun j => nI (nB j)))), (sb, .inl (cI, 16, .inl sB))]) [1, 2, 3, 4, 5, 6, 7, 8, 9, 10, 11, 12, 13, 14] rfl) hE rfl rfl) rfl hl.1 rfl (Nat.le_of_ble_eq_true rfl) dL_output_5 ⟨by show _ ≤ _; simp only [headSpec]; omega, by show _ ≤ _; simp only [headSpec]; omega⟩ [(⟨0, 10, 13, 25⟩ : ExceptionTableEntry)] (⟨0, 10, 17, 13⟩ : ExceptionTableEntry) [(⟨0, 10, 21, 19⟩ : ExceptionTableEntry)] (htb.trans rfl) (fun z hz => (List.mem_cons.mp hz).elim (fun hz => by subst hz; exact ⟨by decide, by decide, "java/lang/IndexOutOfBoundsException", hts (.classLink RL 25 "java/lang/IndexOutOfBoundsException") (by decide +kernel), hNC ("java/lang/IllegalStateException", "java/lang/IndexOutOfBoundsException") (by decide)⟩) (fun hz => absurd hz List.not_mem_nil)) (by decide) (by decide) (hts (.classLink RL 13 "java/lang/IllegalStateException") (by decide +kernel)) (hE.2.2.2.2.2.1 "java/lang/IllegalStateException" (by decide)) (fun q9 H hz9 hk9 => ?_)
  have hP := hP.kept (H1 := H) (fun k q hq => hk9 _ (vx_lt hP hq))
  have hS : va_S A s.heap H [] := ⟨hz9, fun q g1 _ => hk9 q g1, fun q h => absurd h List.not_mem_nil⟩
  refine W.widen (k := 1) (n := 6) (by omega) (by omega) ?_
  refine W.eq (g2 := F0 m 17 ls [.ref q9]) rfl ?_
  refine lv_astore (lv' := [(4, .ref q9), (0, .ref h), (1, .int x), (2, .int y), (3, .ref oo)]) hx hb dL_output_17 hl (by decide) rfl (fun ls hl => ?_)
  refine lv_iconst (v := nI 2) hx hb dL_output_19 (by decide) ?_
  exact wr_i () hx hb hr hlocks hP hD hS dL_output_20 rfl trivial
set_option maxHeartbeats 4000000 in
set_option maxRecDepth 100000 in
/-- output, where the class throws -/
theorem wt_output_ia (rm : Room) (x y : Int32) (hrm : rm.cells = 1 ∧ rm.slots = 6 ∧ rm.frames ≤ 7 ∧ rm.locals ≤ 104) (hM : TH l yX2_output wsX2_output rm (re_P D [(cI, .int), (cJ, .long)] (xW h hn ow fi ma ro ha oa na sa he ob nb sb cI cJ ic lc stp ap cnt len fo ff fk fr oA cA rA tA gA nA sA oB cB rB tB gB nB sB) tp [.ref h, .int x, .int y]) "java/lang/IllegalArgumentException") (sz : Nat) : Met l yL_output wsL_output { frames := 8, cells := 1, slots := 6, locals := 127 } (wl_P D [(cI, .int), (cJ, .long)] ((oo, .inl (cJ, 1, .inr (.inl fv))) :: xW h hn ow fi ma ro ha oa na sa he ob nb sb cI cJ ic lc stp ap cnt len fo ff fk fr oA cA rA tA gA nA sA oB cB rB tB gB nB sB) sz tp [.ref h, .int x, .int y, .ref oo]) (wx (Su := Unit) D [(cI, .int), (cJ, .long)] (va_A ((oo, .inl (cJ, 1, .inr (.inl fv))) :: xW h hn ow fi ma ro ha oa na sa he ob nb sb cI cJ ic lc stp ap cnt len fo ff fk fr oA cA rA tA gA nA sA oB cB rB tB gB nB sB) sz) (fun _ => some (.int (nI 3))) (fun _ => True) (fun _ => (oo, .inl (cJ, 1, .inr (.inl fv))) :: xW h hn ow fi ma ro ha oa na sa he ob nb sb cI cJ ic lc stp ap cnt len fo ff fk fr oA cA rA tA gA nA sA oB cB rB tB gB nB sB)) 1 6 (va_A ((oo, .inl (cJ, 1, .inr (.inl fv))) :: xW h hn ow fi ma ro ha oa na sa he ob nb sb cI cJ ic lc stp ap cnt len fo ff fk fr oA cA rA tA gA nA sA oB cB rB tB gB nB sB) sz) := by
  refine mt_ofWH (cc := cL_output) (maxL := 5) (ret := (some .int)) (hh := [(0, 10, 13, 25), (0, 10, 17, 13), (0, 10, 21, 19)]) (by decide) rfl ?_
  intro p e s m args below meth c s₁ B hml htb hv
  obtain ⟨rfl, hsz, ⟨hP, hK, hD0⟩, hE, hNC⟩ := hv
  have hx := B.exec
  have hb := B.bytes
  have hr := B.returns
  have hts := atoms_spec (ws := wsL_output) B.pre
  have hown : s.vm.findClass RL = some m.cls := findClass_of_methodNamed B.named
  have hlocks := B.notSynchronized
  subst hsz
  have hD := hD0.self (sz := s.heap.size)
  generalize hAe : va_A ((oo, .inl (cJ, 1, .inr (.inl fv))) :: xW h hn ow fi ma ro ha oa na sa he ob nb sb cI cJ ic lc stp ap cnt len fo ff fk fr oA cA rA tA gA nA sA oB cB rB tB gB nB sB) s.heap.size = A at hD hE ⊢
  have hA : ∀ q : Nat, s.heap.size ≤ q → A q := fun q h => by rw [← hAe]; exact Or.inr h
  have hS : va_S A s.heap s.heap [] := va_S.rf
  have hP : va_P D vwCl [(oo, .inl (cJ, 1, .inr (.inl fv))), (h, .inr (2, [.ref hn, .ref ha, .ref he, .int (nI ic), .int (nI lc), .int (nI stp), .int ap])), (hn, .inr (1, [.int (nI cnt), .ref ow, .ref fi, .ref ma, .ref ro])), (ow, .inl (cI, 400, .inl fo)), (fi, .inl (cI, 400, .inl ff)), (ma, .inl (cJ, 400, .inr (.inl fk))), (ro, .inl (cJ, len, .inr (.inl fr))), (ha, .inr (0, [.ref oa, .ref na, .ref sa, .int (nI oA), .int (nI cA), .int (nI rA), .int (nI tA)])), (oa, .inl (cI, 16, .inl (fun j => nI (gA j)))), (na, .inl (cI, 4, .inl (fun j => nI (nA j)))), (sa, .inl (cI, 16, .inl sA)), (he, .inr (0, [.ref ob, .ref nb, .ref sb, .int (nI oB), .int (nI cB), .int (nI rB), .int (nI tB)])), (ob, .inl (cI, 16, .inl (fun j => nI (gB j)))), (nb, .inl (cI, 4, .inl (fun j => nI (nB j)))), (sb, .inl (cI, 16, .inl sB))] s.heap := hP
  have hD : va_D A [(oo, .inl (cJ, 1, .inr (.inl fv))), (h, .inr (2, [.ref hn, .ref ha, .ref he, .int (nI ic), .int (nI lc), .int (nI stp), .int ap])), (hn, .inr (1, [.int (nI cnt), .ref ow, .ref fi, .ref ma, .ref ro])), (ow, .inl (cI, 400, .inl fo)), (fi, .inl (cI, 400, .inl ff)), (ma, .inl (cJ, 400, .inr (.inl fk))), (ro, .inl (cJ, len, .inr (.inl fr))), (ha, .inr (0, [.ref oa, .ref na, .ref sa, .int (nI oA), .int (nI cA), .int (nI rA), .int (nI tA)])), (oa, .inl (cI, 16, .inl (fun j => nI (gA j)))), (na, .inl (cI, 4, .inl (fun j => nI (nA j)))), (sa, .inl (cI, 16, .inl sA)), (he, .inr (0, [.ref ob, .ref nb, .ref sb, .int (nI oB), .int (nI cB), .int (nI rB), .int (nI tB)])), (ob, .inl (cI, 16, .inl (fun j => nI (gB j)))), (nb, .inl (cI, 4, .inl (fun j => nI (nB j)))), (sb, .inl (cI, 16, .inl sB))] := hD
  have hl := lv_entry ([.ref h, .int x, .int y, .ref oo]) (n := 5) (Nat.le_of_ble_eq_true rfl)
  rw [lg_entry_eq]
  generalize (lg_sl ([.ref h, .int x, .int y, .ref oo]) ++ List.replicate (5 - (lg_sl ([.ref h, .int x, .int y, .ref oo])).length) Slot.unset).toArray = ls at hl ⊢
  have hl : lv_has ls 5 [(0, .ref h), (1, .int x), (2, .int y), (3, .ref oo)] := hl
  obtain ⟨hrc, hrs, hr1, hr2⟩ := hrm
  refine lv_aload_n hx hb dL_output_0 rfl (lv_at hl 3 rfl) ?_
  refine lv_iconst (v := nI 0) hx hb dL_output_1 (by decide) ?_
  refine lv_aload_n hx hb dL_output_2 rfl (lv_at hl 0 rfl) ?_
  refine lv_iload_n hx hb dL_output_3 rfl (lv_at hl 1 rfl) ?_
  refine lv_iload_n hx hb dL_output_4 rfl (lv_at hl 2 rfl) ?_
  refine ct_V (As := [.int x, .int y]) (rest := [.int (nI 0), .ref oo]) (E0 := "java/lang/IllegalArgumentException") ⟨hx, hb, hml, hown, hts⟩ hM (cwV 2 hts gL_output_X2_output rfl hrc hrs (by decide +kernel) ⟨by show _ ≤ _; simp only [headSpec]; omega, by show _ ≤ _; simp only [headSpec]; omega⟩) (re_pv (ci := 2) (q0 := 0) hK (hP.sub (ws' := [(h, .inr (2, [.ref hn, .ref ha, .ref he, .int (nI ic), .int (nI lc), .int (nI stp), .int ap])), (hn, .inr (1, [.int (nI cnt), .ref ow, .ref fi, .ref ma, .ref ro])), (ow, .inl (cI, 400, .inl fo)), (fi, .inl (cI, 400, .inl ff)), (ma, .inl (cJ, 400, .inr (.inl fk))), (ro, .inl (cJ, len, .inr (.inl fr))), (ha, .inr (0, [.ref oa, .ref na, .ref sa, .int (nI oA), .int (nI cA), .int (nI rA), .int (nI tA)])), (oa, .inl (cI, 16, .inl (fun j => nI (gA j)))), (na, .inl (cI, 4, .inl (fun j => nI (nA j)))), (sa, .inl (cI, 16, .inl sA)), (he, .inr (0, [.ref ob, .ref nb, .ref sb, .int (nI oB), .int (nI cB), .int (nI rB), .int (nI tB)])), (ob, .inl (cI, 16, .inl (fun j => nI (gB j)))), (nb, .inl (cI, 4, .inl (fun j => nI (nB j)))), (sb, .inl (cI, 16, .inl sB))]) [1, 2, 3, 4, 5, 6, 7, 8, 9, 10, 11, 12, 13, 14] rfl) hE rfl rfl) rfl hl.1 rfl (Nat.le_of_ble_eq_true rfl) dL_output_5 ⟨by show _ ≤ _; simp only [headSpec]; omega, by show _ ≤ _; simp only [headSpec]; omega⟩ [(⟨0, 10, 13, 25⟩ : ExceptionTableEntry), (⟨0, 10, 17, 13⟩ : ExceptionTableEntry)] (⟨0, 10, 21, 19⟩ : ExceptionTableEntry) [] (htb.trans rfl) (fun z hz => (List.mem_cons.mp hz).elim (fun hz => by subst hz; exact ⟨by decide, by decide, "java/lang/IndexOutOfBoundsException", hts (.classLink RL 25 "java/lang/IndexOutOfBoundsException") (by decide +kernel), hNC ("java/lang/IllegalArgumentException", "java/lang/IndexOutOfBoundsException") (by decide)⟩) (fun hz => (List.mem_cons.mp hz).elim (fun hz => by subst hz; exact ⟨by decide, by decide, "java/lang/IllegalStateException", hts (.classLink RL 13 "java/lang/IllegalStateException") (by decide +kernel), hNC ("java/lang/IllegalArgumentException", "java/lang/IllegalStateException") (by decide)⟩) (fun hz => absurd hz List.not_mem_nil))) (by decide) (by decide) (hts (.classLink RL 19 "java/lang/IllegalArgumentException") (by decide +kernel)) (hE.2.2.2.2.2.1 "java/lang/IllegalArgumentException" (by decide)) (fun q9 H hz9 hk9 => ?_)
  have hP := hP.kept (H1 := H) (fun k q hq => hk9 _ (vx_lt hP hq))
  have hS : va_S A s.heap H [] := ⟨hz9, fun q g1 _ => hk9 q g1, fun q h => absurd h List.not_mem_nil⟩
  refine W.widen (k := 1) (n := 6) (by omega) (by omega) ?_
  refine W.eq (g2 := F0 m 21 ls [.ref q9]) rfl ?_
  refine lv_astore (lv' := [(4, .ref q9), (0, .ref h), (1, .int x), (2, .int y), (3, .ref oo)]) hx hb dL_output_21 hl (by decide) rfl (fun ls hl => ?_)
  refine lv_iconst (v := nI 3) hx hb dL_output_23 (by decide) ?_
  exact wr_i () hx hb hr hlocks hP hD hS dL_output_24 rfl trivial
set_option maxHeartbeats 4000000 in
set_option maxRecDepth 100000 in
/-- next, where the class throws -/
theorem wt_next_io (rm : Room) (x y z : Int32) (hrm : rm.cells = 1 ∧ rm.slots = 6 ∧ rm.frames ≤ 7 ∧ rm.locals ≤ 104) (hM : TH l yX2_next wsX2_next rm (re_P D [(cI, .int), (cJ, .long)] (xW h hn ow fi ma ro ha oa na sa he ob nb sb cI cJ ic lc stp ap cnt len fo ff fk fr oA cA rA tA gA nA sA oB cB rB tB gB nB sB) tp [.ref h, .int x, .int y, .int z]) "java/lang/IndexOutOfBoundsException") (sz : Nat) : Met l yL_next wsL_next { frames := 8, cells := 1, slots := 6, locals := 129 } (wl_P D [(cI, .int), (cJ, .long)] ((oo, .inl (cJ, 1, .inr (.inl fv))) :: xW h hn ow fi ma ro ha oa na sa he ob nb sb cI cJ ic lc stp ap cnt len fo ff fk fr oA cA rA tA gA nA sA oB cB rB tB gB nB sB) sz tp [.ref h, .int x, .int y, .int z, .ref oo]) (wx (Su := Unit) D [(cI, .int), (cJ, .long)] (va_A ((oo, .inl (cJ, 1, .inr (.inl fv))) :: xW h hn ow fi ma ro ha oa na sa he ob nb sb cI cJ ic lc stp ap cnt len fo ff fk fr oA cA rA tA gA nA sA oB cB rB tB gB nB sB) sz) (fun _ => some (.int (nI 1))) (fun _ => True) (fun _ => (oo, .inl (cJ, 1, .inr (.inl fv))) :: xW h hn ow fi ma ro ha oa na sa he ob nb sb cI cJ ic lc stp ap cnt len fo ff fk fr oA cA rA tA gA nA sA oB cB rB tB gB nB sB)) 1 6 (va_A ((oo, .inl (cJ, 1, .inr (.inl fv))) :: xW h hn ow fi ma ro ha oa na sa he ob nb sb cI cJ ic lc stp ap cnt len fo ff fk fr oA cA rA tA gA nA sA oB cB rB tB gB nB sB) sz) := by
  refine mt_ofWH (cc := cL_next) (maxL := 6) (ret := (some .int)) (hh := [(0, 12, 15, 25), (0, 12, 19, 19)]) (by decide) rfl ?_
  intro p e s m args below meth c s₁ B hml htb hv
  obtain ⟨rfl, hsz, ⟨hP, hK, hD0⟩, hE, hNC⟩ := hv
  have hx := B.exec
  have hb := B.bytes
  have hr := B.returns
  have hts := atoms_spec (ws := wsL_next) B.pre
  have hown : s.vm.findClass RL = some m.cls := findClass_of_methodNamed B.named
  have hlocks := B.notSynchronized
  subst hsz
  have hD := hD0.self (sz := s.heap.size)
  generalize hAe : va_A ((oo, .inl (cJ, 1, .inr (.inl fv))) :: xW h hn ow fi ma ro ha oa na sa he ob nb sb cI cJ ic lc stp ap cnt len fo ff fk fr oA cA rA tA gA nA sA oB cB rB tB gB nB sB) s.heap.size = A at hD hE ⊢
  have hA : ∀ q : Nat, s.heap.size ≤ q → A q := fun q h => by rw [← hAe]; exact Or.inr h
  have hS : va_S A s.heap s.heap [] := va_S.rf
  have hP : va_P D vwCl [(oo, .inl (cJ, 1, .inr (.inl fv))), (h, .inr (2, [.ref hn, .ref ha, .ref he, .int (nI ic), .int (nI lc), .int (nI stp), .int ap])), (hn, .inr (1, [.int (nI cnt), .ref ow, .ref fi, .ref ma, .ref ro])), (ow, .inl (cI, 400, .inl fo)), (fi, .inl (cI, 400, .inl ff)), (ma, .inl (cJ, 400, .inr (.inl fk))), (ro, .inl (cJ, len, .inr (.inl fr))), (ha, .inr (0, [.ref oa, .ref na, .ref sa, .int (nI oA), .int (nI cA), .int (nI rA), .int (nI tA)])), (oa, .inl (cI, 16, .inl (fun j => nI (gA j)))), (na, .inl (cI, 4, .inl (fun j => nI (nA j)))), (sa, .inl (cI, 16, .inl sA)), (he, .inr (0, [.ref ob, .ref nb, .ref sb, .int (nI oB), .int (nI cB), .int (nI rB), .int (nI tB)])), (ob, .inl (cI, 16, .inl (fun j => nI (gB j)))), (nb, .inl (cI, 4, .inl (fun j => nI (nB j)))), (sb, .inl (cI, 16, .inl sB))] s.heap := hP
  have hD : va_D A [(oo, .inl (cJ, 1, .inr (.inl fv))), (h, .inr (2, [.ref hn, .ref ha, .ref he, .int (nI ic), .int (nI lc), .int (nI stp), .int ap])), (hn, .inr (1, [.int (nI cnt), .ref ow, .ref fi, .ref ma, .ref ro])), (ow, .inl (cI, 400, .inl fo)), (fi, .inl (cI, 400, .inl ff)), (ma, .inl (cJ, 400, .inr (.inl fk))), (ro, .inl (cJ, len, .inr (.inl fr))), (ha, .inr (0, [.ref oa, .ref na, .ref sa, .int (nI oA), .int (nI cA), .int (nI rA), .int (nI tA)])), (oa, .inl (cI, 16, .inl (fun j => nI (gA j)))), (na, .inl (cI, 4, .inl (fun j => nI (nA j)))), (sa, .inl (cI, 16, .inl sA)), (he, .inr (0, [.ref ob, .ref nb, .ref sb, .int (nI oB), .int (nI cB), .int (nI rB), .int (nI tB)])), (ob, .inl (cI, 16, .inl (fun j => nI (gB j)))), (nb, .inl (cI, 4, .inl (fun j => nI (nB j)))), (sb, .inl (cI, 16, .inl sB))] := hD
  have hl := lv_entry ([.ref h, .int x, .int y, .int z, .ref oo]) (n := 6) (Nat.le_of_ble_eq_true rfl)
  rw [lg_entry_eq]
  generalize (lg_sl ([.ref h, .int x, .int y, .int z, .ref oo]) ++ List.replicate (6 - (lg_sl ([.ref h, .int x, .int y, .int z, .ref oo])).length) Slot.unset).toArray = ls at hl ⊢
  have hl : lv_has ls 6 [(0, .ref h), (1, .int x), (2, .int y), (3, .int z), (4, .ref oo)] := hl
  obtain ⟨hrc, hrs, hr1, hr2⟩ := hrm
  refine lv_aload hx hb dL_next_0 (lv_at hl 4 rfl) ?_
  refine lv_iconst (v := nI 0) hx hb dL_next_2 (by decide) ?_
  refine lv_aload_n hx hb dL_next_3 rfl (lv_at hl 0 rfl) ?_
  refine lv_iload_n hx hb dL_next_4 rfl (lv_at hl 1 rfl) ?_
  refine lv_iload_n hx hb dL_next_5 rfl (lv_at hl 2 rfl) ?_
  refine lv_iload_n hx hb dL_next_6 rfl (lv_at hl 3 rfl) ?_
  refine ct_V (As := [.int x, .int y, .int z]) (rest := [.int (nI 0), .ref oo]) (E0 := "java/lang/IndexOutOfBoundsException") ⟨hx, hb, hml, hown, hts⟩ hM (cwV 3 hts gL_next_X2_next rfl hrc hrs (by decide +kernel) ⟨by show _ ≤ _; simp only [headSpec]; omega, by show _ ≤ _; simp only [headSpec]; omega⟩) (re_pv (ci := 2) (q0 := 0) hK (hP.sub (ws' := [(h, .inr (2, [.ref hn, .ref ha, .ref he, .int (nI ic), .int (nI lc), .int (nI stp), .int ap])), (hn, .inr (1, [.int (nI cnt), .ref ow, .ref fi, .ref ma, .ref ro])), (ow, .inl (cI, 400, .inl fo)), (fi, .inl (cI, 400, .inl ff)), (ma, .inl (cJ, 400, .inr (.inl fk))), (ro, .inl (cJ, len, .inr (.inl fr))), (ha, .inr (0, [.ref oa, .ref na, .ref sa, .int (nI oA), .int (nI cA), .int (nI rA), .int (nI tA)])), (oa, .inl (cI, 16, .inl (fun j => nI (gA j)))), (na, .inl (cI, 4, .inl (fun j => nI (nA j)))), (sa, .inl (cI, 16, .inl sA)), (he, .inr (0, [.ref ob, .ref nb, .ref sb, .int (nI oB), .int (nI cB), .int (nI rB), .int (nI tB)])), (ob, .inl (cI, 16, .inl (fun j => nI (gB j)))), (nb, .inl (cI, 4, .inl (fun j => nI (nB j)))), (sb, .inl (cI, 16, .inl sB))]) [1, 2, 3, 4, 5, 6, 7, 8, 9, 10, 11, 12, 13, 14] rfl) hE rfl rfl) rfl hl.1 rfl (Nat.le_of_ble_eq_true rfl) dL_next_7 ⟨by show _ ≤ _; simp only [headSpec]; omega, by show _ ≤ _; simp only [headSpec]; omega⟩ [] (⟨0, 12, 15, 25⟩ : ExceptionTableEntry) [(⟨0, 12, 19, 19⟩ : ExceptionTableEntry)] (htb.trans rfl) (fun z hz => absurd hz List.not_mem_nil) (by decide) (by decide) (hts (.classLink RL 25 "java/lang/IndexOutOfBoundsException") (by decide +kernel)) (hE.2.2.2.2.2.1 "java/lang/IndexOutOfBoundsException" (by decide)) (fun q9 H hz9 hk9 => ?_)
  have hP := hP.kept (H1 := H) (fun k q hq => hk9 _ (vx_lt hP hq))
  have hS : va_S A s.heap H [] := ⟨hz9, fun q g1 _ => hk9 q g1, fun q h => absurd h List.not_mem_nil⟩
  refine W.widen (k := 1) (n := 6) (by omega) (by omega) ?_
  refine W.eq (g2 := F0 m 15 ls [.ref q9]) rfl ?_
  refine lv_astore (lv' := [(5, .ref q9), (0, .ref h), (1, .int x), (2, .int y), (3, .int z), (4, .ref oo)]) hx hb dL_next_15 hl (by decide) rfl (fun ls hl => ?_)
  refine lv_iconst (v := nI 1) hx hb dL_next_17 (by decide) ?_
  exact wr_i () hx hb hr hlocks hP hD hS dL_next_18 rfl trivial
set_option maxHeartbeats 4000000 in
set_option maxRecDepth 100000 in
/-- next, where the class throws -/
theorem wt_next_ia (rm : Room) (x y z : Int32) (hrm : rm.cells = 1 ∧ rm.slots = 6 ∧ rm.frames ≤ 7 ∧ rm.locals ≤ 104) (hM : TH l yX2_next wsX2_next rm (re_P D [(cI, .int), (cJ, .long)] (xW h hn ow fi ma ro ha oa na sa he ob nb sb cI cJ ic lc stp ap cnt len fo ff fk fr oA cA rA tA gA nA sA oB cB rB tB gB nB sB) tp [.ref h, .int x, .int y, .int z]) "java/lang/IllegalArgumentException") (sz : Nat) : Met l yL_next wsL_next { frames := 8, cells := 1, slots := 6, locals := 129 } (wl_P D [(cI, .int), (cJ, .long)] ((oo, .inl (cJ, 1, .inr (.inl fv))) :: xW h hn ow fi ma ro ha oa na sa he ob nb sb cI cJ ic lc stp ap cnt len fo ff fk fr oA cA rA tA gA nA sA oB cB rB tB gB nB sB) sz tp [.ref h, .int x, .int y, .int z, .ref oo]) (wx (Su := Unit) D [(cI, .int), (cJ, .long)] (va_A ((oo, .inl (cJ, 1, .inr (.inl fv))) :: xW h hn ow fi ma ro ha oa na sa he ob nb sb cI cJ ic lc stp ap cnt len fo ff fk fr oA cA rA tA gA nA sA oB cB rB tB gB nB sB) sz) (fun _ => some (.int (nI 2))) (fun _ => True) (fun _ => (oo, .inl (cJ, 1, .inr (.inl fv))) :: xW h hn ow fi ma ro ha oa na sa he ob nb sb cI cJ ic lc stp ap cnt len fo ff fk fr oA cA rA tA gA nA sA oB cB rB tB gB nB sB)) 1 6 (va_A ((oo, .inl (cJ, 1, .inr (.inl fv))) :: xW h hn ow fi ma ro ha oa na sa he ob nb sb cI cJ ic lc stp ap cnt len fo ff fk fr oA cA rA tA gA nA sA oB cB rB tB gB nB sB) sz) := by
  refine mt_ofWH (cc := cL_next) (maxL := 6) (ret := (some .int)) (hh := [(0, 12, 15, 25), (0, 12, 19, 19)]) (by decide) rfl ?_
  intro p e s m args below meth c s₁ B hml htb hv
  obtain ⟨rfl, hsz, ⟨hP, hK, hD0⟩, hE, hNC⟩ := hv
  have hx := B.exec
  have hb := B.bytes
  have hr := B.returns
  have hts := atoms_spec (ws := wsL_next) B.pre
  have hown : s.vm.findClass RL = some m.cls := findClass_of_methodNamed B.named
  have hlocks := B.notSynchronized
  subst hsz
  have hD := hD0.self (sz := s.heap.size)
  generalize hAe : va_A ((oo, .inl (cJ, 1, .inr (.inl fv))) :: xW h hn ow fi ma ro ha oa na sa he ob nb sb cI cJ ic lc stp ap cnt len fo ff fk fr oA cA rA tA gA nA sA oB cB rB tB gB nB sB) s.heap.size = A at hD hE ⊢
  have hA : ∀ q : Nat, s.heap.size ≤ q → A q := fun q h => by rw [← hAe]; exact Or.inr h
  have hS : va_S A s.heap s.heap [] := va_S.rf
  have hP : va_P D vwCl [(oo, .inl (cJ, 1, .inr (.inl fv))), (h, .inr (2, [.ref hn, .ref ha, .ref he, .int (nI ic), .int (nI lc), .int (nI stp), .int ap])), (hn, .inr (1, [.int (nI cnt), .ref ow, .ref fi, .ref ma, .ref ro])), (ow, .inl (cI, 400, .inl fo)), (fi, .inl (cI, 400, .inl ff)), (ma, .inl (cJ, 400, .inr (.inl fk))), (ro, .inl (cJ, len, .inr (.inl fr))), (ha, .inr (0, [.ref oa, .ref na, .ref sa, .int (nI oA), .int (nI cA), .int (nI rA), .int (nI tA)])), (oa, .inl (cI, 16, .inl (fun j => nI (gA j)))), (na, .inl (cI, 4, .inl (fun j => nI (nA j)))), (sa, .inl (cI, 16, .inl sA)), (he, .inr (0, [.ref ob, .ref nb, .ref sb, .int (nI oB), .int (nI cB), .int (nI rB), .int (nI tB)])), (ob, .inl (cI, 16, .inl (fun j => nI (gB j)))), (nb, .inl (cI, 4, .inl (fun j => nI (nB j)))), (sb, .inl (cI, 16, .inl sB))] s.heap := hP
  have hD : va_D A [(oo, .inl (cJ, 1, .inr (.inl fv))), (h, .inr (2, [.ref hn, .ref ha, .ref he, .int (nI ic), .int (nI lc), .int (nI stp), .int ap])), (hn, .inr (1, [.int (nI cnt), .ref ow, .ref fi, .ref ma, .ref ro])), (ow, .inl (cI, 400, .inl fo)), (fi, .inl (cI, 400, .inl ff)), (ma, .inl (cJ, 400, .inr (.inl fk))), (ro, .inl (cJ, len, .inr (.inl fr))), (ha, .inr (0, [.ref oa, .ref na, .ref sa, .int (nI oA), .int (nI cA), .int (nI rA), .int (nI tA)])), (oa, .inl (cI, 16, .inl (fun j => nI (gA j)))), (na, .inl (cI, 4, .inl (fun j => nI (nA j)))), (sa, .inl (cI, 16, .inl sA)), (he, .inr (0, [.ref ob, .ref nb, .ref sb, .int (nI oB), .int (nI cB), .int (nI rB), .int (nI tB)])), (ob, .inl (cI, 16, .inl (fun j => nI (gB j)))), (nb, .inl (cI, 4, .inl (fun j => nI (nB j)))), (sb, .inl (cI, 16, .inl sB))] := hD
  have hl := lv_entry ([.ref h, .int x, .int y, .int z, .ref oo]) (n := 6) (Nat.le_of_ble_eq_true rfl)
  rw [lg_entry_eq]
  generalize (lg_sl ([.ref h, .int x, .int y, .int z, .ref oo]) ++ List.replicate (6 - (lg_sl ([.ref h, .int x, .int y, .int z, .ref oo])).length) Slot.unset).toArray = ls at hl ⊢
  have hl : lv_has ls 6 [(0, .ref h), (1, .int x), (2, .int y), (3, .int z), (4, .ref oo)] := hl
  obtain ⟨hrc, hrs, hr1, hr2⟩ := hrm
  refine lv_aload hx hb dL_next_0 (lv_at hl 4 rfl) ?_
  refine lv_iconst (v := nI 0) hx hb dL_next_2 (by decide) ?_
  refine lv_aload_n hx hb dL_next_3 rfl (lv_at hl 0 rfl) ?_
  refine lv_iload_n hx hb dL_next_4 rfl (lv_at hl 1 rfl) ?_
  refine lv_iload_n hx hb dL_next_5 rfl (lv_at hl 2 rfl) ?_
  refine lv_iload_n hx hb dL_next_6 rfl (lv_at hl 3 rfl) ?_
  refine ct_V (As := [.int x, .int y, .int z]) (rest := [.int (nI 0), .ref oo]) (E0 := "java/lang/IllegalArgumentException") ⟨hx, hb, hml, hown, hts⟩ hM (cwV 3 hts gL_next_X2_next rfl hrc hrs (by decide +kernel) ⟨by show _ ≤ _; simp only [headSpec]; omega, by show _ ≤ _; simp only [headSpec]; omega⟩) (re_pv (ci := 2) (q0 := 0) hK (hP.sub (ws' := [(h, .inr (2, [.ref hn, .ref ha, .ref he, .int (nI ic), .int (nI lc), .int (nI stp), .int ap])), (hn, .inr (1, [.int (nI cnt), .ref ow, .ref fi, .ref ma, .ref ro])), (ow, .inl (cI, 400, .inl fo)), (fi, .inl (cI, 400, .inl ff)), (ma, .inl (cJ, 400, .inr (.inl fk))), (ro, .inl (cJ, len, .inr (.inl fr))), (ha, .inr (0, [.ref oa, .ref na, .ref sa, .int (nI oA), .int (nI cA), .int (nI rA), .int (nI tA)])), (oa, .inl (cI, 16, .inl (fun j => nI (gA j)))), (na, .inl (cI, 4, .inl (fun j => nI (nA j)))), (sa, .inl (cI, 16, .inl sA)), (he, .inr (0, [.ref ob, .ref nb, .ref sb, .int (nI oB), .int (nI cB), .int (nI rB), .int (nI tB)])), (ob, .inl (cI, 16, .inl (fun j => nI (gB j)))), (nb, .inl (cI, 4, .inl (fun j => nI (nB j)))), (sb, .inl (cI, 16, .inl sB))]) [1, 2, 3, 4, 5, 6, 7, 8, 9, 10, 11, 12, 13, 14] rfl) hE rfl rfl) rfl hl.1 rfl (Nat.le_of_ble_eq_true rfl) dL_next_7 ⟨by show _ ≤ _; simp only [headSpec]; omega, by show _ ≤ _; simp only [headSpec]; omega⟩ [(⟨0, 12, 15, 25⟩ : ExceptionTableEntry)] (⟨0, 12, 19, 19⟩ : ExceptionTableEntry) [] (htb.trans rfl) (fun z hz => (List.mem_cons.mp hz).elim (fun hz => by subst hz; exact ⟨by decide, by decide, "java/lang/IndexOutOfBoundsException", hts (.classLink RL 25 "java/lang/IndexOutOfBoundsException") (by decide +kernel), hNC ("java/lang/IllegalArgumentException", "java/lang/IndexOutOfBoundsException") (by decide)⟩) (fun hz => absurd hz List.not_mem_nil)) (by decide) (by decide) (hts (.classLink RL 19 "java/lang/IllegalArgumentException") (by decide +kernel)) (hE.2.2.2.2.2.1 "java/lang/IllegalArgumentException" (by decide)) (fun q9 H hz9 hk9 => ?_)
  have hP := hP.kept (H1 := H) (fun k q hq => hk9 _ (vx_lt hP hq))
  have hS : va_S A s.heap H [] := ⟨hz9, fun q g1 _ => hk9 q g1, fun q h => absurd h List.not_mem_nil⟩
  refine W.widen (k := 1) (n := 6) (by omega) (by omega) ?_
  refine W.eq (g2 := F0 m 19 ls [.ref q9]) rfl ?_
  refine lv_astore (lv' := [(5, .ref q9), (0, .ref h), (1, .int x), (2, .int y), (3, .int z), (4, .ref oo)]) hx hb dL_next_19 hl (by decide) rfl (fun ls hl => ?_)
  refine lv_iconst (v := nI 2) hx hb dL_next_21 (by decide) ?_
  exact wr_i () hx hb hr hlocks hP hD hS dL_next_22 rfl trivial
set_option maxHeartbeats 4000000 in
set_option maxRecDepth 100000 in
/-- same, where the class throws -/
theorem wt_same_io (rm : Room) (x y : Int32) (hrm : rm.cells = 1 ∧ rm.slots = 6 ∧ rm.frames ≤ 7 ∧ rm.locals ≤ 103) (hM : TH l yX2_same wsX2_same rm (re_P D [(cI, .int), (cJ, .long)] (xW h hn ow fi ma ro ha oa na sa he ob nb sb cI cJ ic lc stp ap cnt len fo ff fk fr oA cA rA tA gA nA sA oB cB rB tB gB nB sB) tp [.ref h, .int x, .int y]) "java/lang/IndexOutOfBoundsException") (sz : Nat) : Met l yL_same wsL_same { frames := 8, cells := 1, slots := 6, locals := 125 } (wl_P D [(cI, .int), (cJ, .long)] ((oo, .inl (cJ, 1, .inr (.inl fv))) :: xW h hn ow fi ma ro ha oa na sa he ob nb sb cI cJ ic lc stp ap cnt len fo ff fk fr oA cA rA tA gA nA sA oB cB rB tB gB nB sB) sz tp [.ref h, .int x, .int y, .ref oo]) (wx (Su := Unit) D [(cI, .int), (cJ, .long)] (va_A ((oo, .inl (cJ, 1, .inr (.inl fv))) :: xW h hn ow fi ma ro ha oa na sa he ob nb sb cI cJ ic lc stp ap cnt len fo ff fk fr oA cA rA tA gA nA sA oB cB rB tB gB nB sB) sz) (fun _ => some (.int (nI 1))) (fun _ => True) (fun _ => (oo, .inl (cJ, 1, .inr (.inl fv))) :: xW h hn ow fi ma ro ha oa na sa he ob nb sb cI cJ ic lc stp ap cnt len fo ff fk fr oA cA rA tA gA nA sA oB cB rB tB gB nB sB)) 1 6 (va_A ((oo, .inl (cJ, 1, .inr (.inl fv))) :: xW h hn ow fi ma ro ha oa na sa he ob nb sb cI cJ ic lc stp ap cnt len fo ff fk fr oA cA rA tA gA nA sA oB cB rB tB gB nB sB) sz) := by
  refine mt_ofWH (cc := cL_same) (maxL := 5) (ret := (some .int)) (hh := [(0, 17, 20, 25)]) (by decide) rfl ?_
  intro p e s m args below meth c s₁ B hml htb hv
  obtain ⟨rfl, hsz, ⟨hP, hK, hD0⟩, hE, hNC⟩ := hv
  have hx := B.exec
  have hb := B.bytes
  have hr := B.returns
  have hts := atoms_spec (ws := wsL_same) B.pre
  have hown : s.vm.findClass RL = some m.cls := findClass_of_methodNamed B.named
  have hlocks := B.notSynchronized
  subst hsz
  have hD := hD0.self (sz := s.heap.size)
  generalize hAe : va_A ((oo, .inl (cJ, 1, .inr (.inl fv))) :: xW h hn ow fi ma ro ha oa na sa he ob nb sb cI cJ ic lc stp ap cnt len fo ff fk fr oA cA rA tA gA nA sA oB cB rB tB gB nB sB) s.heap.size = A at hD hE ⊢
  have hA : ∀ q : Nat, s.heap.size ≤ q → A q := fun q h => by rw [← hAe]; exact Or.inr h
  have hS : va_S A s.heap s.heap [] := va_S.rf
  have hP : va_P D vwCl [(oo, .inl (cJ, 1, .inr (.inl fv))), (h, .inr (2, [.ref hn, .ref ha, .ref he, .int (nI ic), .int (nI lc), .int (nI stp), .int ap])), (hn, .inr (1, [.int (nI cnt), .ref ow, .ref fi, .ref ma, .ref ro])), (ow, .inl (cI, 400, .inl fo)), (fi, .inl (cI, 400, .inl ff)), (ma, .inl (cJ, 400, .inr (.inl fk))), (ro, .inl (cJ, len, .inr (.inl fr))), (ha, .inr (0, [.ref oa, .ref na, .ref sa, .int (nI oA), .int (nI cA), .int (nI rA), .int (nI tA)])), (oa, .inl (cI, 16, .inl (fun j => nI (gA j)))), (na, .inl (cI, 4, .inl (fun j => nI (nA j)))), (sa, .inl (cI, 16, .inl sA)), (he, .inr (0, [.ref ob, .ref nb, .ref sb, .int (nI oB), .int (nI cB), .int (nI rB), .int (nI tB)])), (ob, .inl (cI, 16, .inl (fun j => nI (gB j)))), (nb, .inl (cI, 4, .inl (fun j => nI (nB j)))), (sb, .inl (cI, 16, .inl sB))] s.heap := hP
  have hD : va_D A [(oo, .inl (cJ, 1, .inr (.inl fv))), (h, .inr (2, [.ref hn, .ref ha, .ref he, .int (nI ic), .int (nI lc), .int (nI stp), .int ap])), (hn, .inr (1, [.int (nI cnt), .ref ow, .ref fi, .ref ma, .ref ro])), (ow, .inl (cI, 400, .inl fo)), (fi, .inl (cI, 400, .inl ff)), (ma, .inl (cJ, 400, .inr (.inl fk))), (ro, .inl (cJ, len, .inr (.inl fr))), (ha, .inr (0, [.ref oa, .ref na, .ref sa, .int (nI oA), .int (nI cA), .int (nI rA), .int (nI tA)])), (oa, .inl (cI, 16, .inl (fun j => nI (gA j)))), (na, .inl (cI, 4, .inl (fun j => nI (nA j)))), (sa, .inl (cI, 16, .inl sA)), (he, .inr (0, [.ref ob, .ref nb, .ref sb, .int (nI oB), .int (nI cB), .int (nI rB), .int (nI tB)])), (ob, .inl (cI, 16, .inl (fun j => nI (gB j)))), (nb, .inl (cI, 4, .inl (fun j => nI (nB j)))), (sb, .inl (cI, 16, .inl sB))] := hD
  have hl := lv_entry ([.ref h, .int x, .int y, .ref oo]) (n := 5) (Nat.le_of_ble_eq_true rfl)
  rw [lg_entry_eq]
  generalize (lg_sl ([.ref h, .int x, .int y, .ref oo]) ++ List.replicate (5 - (lg_sl ([.ref h, .int x, .int y, .ref oo])).length) Slot.unset).toArray = ls at hl ⊢
  have hl : lv_has ls 5 [(0, .ref h), (1, .int x), (2, .int y), (3, .ref oo)] := hl
  obtain ⟨hrc, hrs, hr1, hr2⟩ := hrm
  refine lv_aload_n hx hb dL_same_0 rfl (lv_at hl 3 rfl) ?_
  refine lv_iconst (v := nI 0) hx hb dL_same_1 (by decide) ?_
  refine lv_aload_n hx hb dL_same_2 rfl (lv_at hl 0 rfl) ?_
  refine lv_iload_n hx hb dL_same_3 rfl (lv_at hl 1 rfl) ?_
  refine lv_iload_n hx hb dL_same_4 rfl (lv_at hl 2 rfl) ?_
  refine ct_V (As := [.int x, .int y]) (rest := [.int (nI 0), .ref oo]) (E0 := "java/lang/IndexOutOfBoundsException") ⟨hx, hb, hml, hown, hts⟩ hM (cwV 2 hts gL_same_X2_same rfl hrc hrs (by decide +kernel) ⟨by show _ ≤ _; simp only [headSpec]; omega, by show _ ≤ _; simp only [headSpec]; omega⟩) (re_pv (ci := 2) (q0 := 0) hK (hP.sub (ws' := [(h, .inr (2, [.ref hn, .ref ha, .ref he, .int (nI ic), .int (nI lc), .int (nI stp), .int ap])), (hn, .inr (1, [.int (nI cnt), .ref ow, .ref fi, .ref ma, .ref ro])), (ow, .inl (cI, 400, .inl fo)), (fi, .inl (cI, 400, .inl ff)), (ma, .inl (cJ, 400, .inr (.inl fk))), (ro, .inl (cJ, len, .inr (.inl fr))), (ha, .inr (0, [.ref oa, .ref na, .ref sa, .int (nI oA), .int (nI cA), .int (nI rA), .int (nI tA)])), (oa, .inl (cI, 16, .inl (fun j => nI (gA j)))), (na, .inl (cI, 4, .inl (fun j => nI (nA j)))), (sa, .inl (cI, 16, .inl sA)), (he, .inr (0, [.ref ob, .ref nb, .ref sb, .int (nI oB), .int (nI cB), .int (nI rB), .int (nI tB)])), (ob, .inl (cI, 16, .inl (fun j => nI (gB j)))), (nb, .inl (cI, 4, .inl (fun j => nI (nB j)))), (sb, .inl (cI, 16, .inl sB))]) [1, 2, 3, 4, 5, 6, 7, 8, 9, 10, 11, 12, 13, 14] rfl) hE rfl rfl) rfl hl.1 rfl (Nat.le_of_ble_eq_true rfl) dL_same_5 ⟨by show _ ≤ _; simp only [headSpec]; omega, by show _ ≤ _; simp only [headSpec]; omega⟩ [] (⟨0, 17, 20, 25⟩ : ExceptionTableEntry) [] (htb.trans rfl) (fun z hz => absurd hz List.not_mem_nil) (by decide) (by decide) (hts (.classLink RL 25 "java/lang/IndexOutOfBoundsException") (by decide +kernel)) (hE.2.2.2.2.2.1 "java/lang/IndexOutOfBoundsException" (by decide)) (fun q9 H hz9 hk9 => ?_)
  have hP := hP.kept (H1 := H) (fun k q hq => hk9 _ (vx_lt hP hq))
  have hS : va_S A s.heap H [] := ⟨hz9, fun q g1 _ => hk9 q g1, fun q h => absurd h List.not_mem_nil⟩
  refine W.widen (k := 1) (n := 6) (by omega) (by omega) ?_
  refine W.eq (g2 := F0 m 20 ls [.ref q9]) rfl ?_
  refine lv_astore (lv' := [(4, .ref q9), (0, .ref h), (1, .int x), (2, .int y), (3, .ref oo)]) hx hb dL_same_20 hl (by decide) rfl (fun ls hl => ?_)
  refine lv_iconst (v := nI 1) hx hb dL_same_22 (by decide) ?_
  exact wr_i () hx hb hr hlocks hP hD hS dL_same_23 rfl trivial
set_option maxHeartbeats 4000000 in
set_option maxRecDepth 100000 in
/-- first, where the class throws -/
theorem wt_first_io (rm : Room) (x : Int32) (hrm : rm.cells = 1 ∧ rm.slots = 6 ∧ rm.frames ≤ 7 ∧ rm.locals ≤ 103) (hM : TH l yX2_first wsX2_first rm (re_P D [(cI, .int), (cJ, .long)] (xW h hn ow fi ma ro ha oa na sa he ob nb sb cI cJ ic lc stp ap cnt len fo ff fk fr oA cA rA tA gA nA sA oB cB rB tB gB nB sB) tp [.ref h, .int x]) "java/lang/IndexOutOfBoundsException") (sz : Nat) : Met l yL_first wsL_first { frames := 8, cells := 1, slots := 6, locals := 124 } (wl_P D [(cI, .int), (cJ, .long)] ((oo, .inl (cJ, 1, .inr (.inl fv))) :: xW h hn ow fi ma ro ha oa na sa he ob nb sb cI cJ ic lc stp ap cnt len fo ff fk fr oA cA rA tA gA nA sA oB cB rB tB gB nB sB) sz tp [.ref h, .int x, .ref oo]) (wx (Su := Unit) D [(cI, .int), (cJ, .long)] (va_A ((oo, .inl (cJ, 1, .inr (.inl fv))) :: xW h hn ow fi ma ro ha oa na sa he ob nb sb cI cJ ic lc stp ap cnt len fo ff fk fr oA cA rA tA gA nA sA oB cB rB tB gB nB sB) sz) (fun _ => some (.int (nI 1))) (fun _ => True) (fun _ => (oo, .inl (cJ, 1, .inr (.inl fv))) :: xW h hn ow fi ma ro ha oa na sa he ob nb sb cI cJ ic lc stp ap cnt len fo ff fk fr oA cA rA tA gA nA sA oB cB rB tB gB nB sB)) 1 6 (va_A ((oo, .inl (cJ, 1, .inr (.inl fv))) :: xW h hn ow fi ma ro ha oa na sa he ob nb sb cI cJ ic lc stp ap cnt len fo ff fk fr oA cA rA tA gA nA sA oB cB rB tB gB nB sB) sz) := by
  refine mt_ofWH (cc := cL_first) (maxL := 4) (ret := (some .int)) (hh := [(0, 9, 12, 25)]) (by decide) rfl ?_
  intro p e s m args below meth c s₁ B hml htb hv
  obtain ⟨rfl, hsz, ⟨hP, hK, hD0⟩, hE, hNC⟩ := hv
  have hx := B.exec
  have hb := B.bytes
  have hr := B.returns
  have hts := atoms_spec (ws := wsL_first) B.pre
  have hown : s.vm.findClass RL = some m.cls := findClass_of_methodNamed B.named
  have hlocks := B.notSynchronized
  subst hsz
  have hD := hD0.self (sz := s.heap.size)
  generalize hAe : va_A ((oo, .inl (cJ, 1, .inr (.inl fv))) :: xW h hn ow fi ma ro ha oa na sa he ob nb sb cI cJ ic lc stp ap cnt len fo ff fk fr oA cA rA tA gA nA sA oB cB rB tB gB nB sB) s.heap.size = A at hD hE ⊢
  have hA : ∀ q : Nat, s.heap.size ≤ q → A q := fun q h => by rw [← hAe]; exact Or.inr h
  have hS : va_S A s.heap s.heap [] := va_S.rf
  have hP : va_P D vwCl [(oo, .inl (cJ, 1, .inr (.inl fv))), (h, .inr (2, [.ref hn, .ref ha, .ref he, .int (nI ic), .int (nI lc), .int (nI stp), .int ap])), (hn, .inr (1, [.int (nI cnt), .ref ow, .ref fi, .ref ma, .ref ro])), (ow, .inl (cI, 400, .inl fo)), (fi, .inl (cI, 400, .inl ff)), (ma, .inl (cJ, 400, .inr (.inl fk))), (ro, .inl (cJ, len, .inr (.inl fr))), (ha, .inr (0, [.ref oa, .ref na, .ref sa, .int (nI oA), .int (nI cA), .int (nI rA), .int (nI tA)])), (oa, .inl (cI, 16, .inl (fun j => nI (gA j)))), (na, .inl (cI, 4, .inl (fun j => nI (nA j)))), (sa, .inl (cI, 16, .inl sA)), (he, .inr (0, [.ref ob, .ref nb, .ref sb, .int (nI oB), .int (nI cB), .int (nI rB), .int (nI tB)])), (ob, .inl (cI, 16, .inl (fun j => nI (gB j)))), (nb, .inl (cI, 4, .inl (fun j => nI (nB j)))), (sb, .inl (cI, 16, .inl sB))] s.heap := hP
  have hD : va_D A [(oo, .inl (cJ, 1, .inr (.inl fv))), (h, .inr (2, [.ref hn, .ref ha, .ref he, .int (nI ic), .int (nI lc), .int (nI stp), .int ap])), (hn, .inr (1, [.int (nI cnt), .ref ow, .ref fi, .ref ma, .ref ro])), (ow, .inl (cI, 400, .inl fo)), (fi, .inl (cI, 400, .inl ff)), (ma, .inl (cJ, 400, .inr (.inl fk))), (ro, .inl (cJ, len, .inr (.inl fr))), (ha, .inr (0, [.ref oa, .ref na, .ref sa, .int (nI oA), .int (nI cA), .int (nI rA), .int (nI tA)])), (oa, .inl (cI, 16, .inl (fun j => nI (gA j)))), (na, .inl (cI, 4, .inl (fun j => nI (nA j)))), (sa, .inl (cI, 16, .inl sA)), (he, .inr (0, [.ref ob, .ref nb, .ref sb, .int (nI oB), .int (nI cB), .int (nI rB), .int (nI tB)])), (ob, .inl (cI, 16, .inl (fun j => nI (gB j)))), (nb, .inl (cI, 4, .inl (fun j => nI (nB j)))), (sb, .inl (cI, 16, .inl sB))] := hD
  have hl := lv_entry ([.ref h, .int x, .ref oo]) (n := 4) (Nat.le_of_ble_eq_true rfl)
  rw [lg_entry_eq]
  generalize (lg_sl ([.ref h, .int x, .ref oo]) ++ List.replicate (4 - (lg_sl ([.ref h, .int x, .ref oo])).length) Slot.unset).toArray = ls at hl ⊢
  have hl : lv_has ls 4 [(0, .ref h), (1, .int x), (2, .ref oo)] := hl
  obtain ⟨hrc, hrs, hr1, hr2⟩ := hrm
  refine lv_aload_n hx hb dL_first_0 rfl (lv_at hl 2 rfl) ?_
  refine lv_iconst (v := nI 0) hx hb dL_first_1 (by decide) ?_
  refine lv_aload_n hx hb dL_first_2 rfl (lv_at hl 0 rfl) ?_
  refine lv_iload_n hx hb dL_first_3 rfl (lv_at hl 1 rfl) ?_
  refine ct_V (As := [.int x]) (rest := [.int (nI 0), .ref oo]) (E0 := "java/lang/IndexOutOfBoundsException") ⟨hx, hb, hml, hown, hts⟩ hM (cwV 1 hts gL_first_X2_first rfl hrc hrs (by decide +kernel) ⟨by show _ ≤ _; simp only [headSpec]; omega, by show _ ≤ _; simp only [headSpec]; omega⟩) (re_pv (ci := 2) (q0 := 0) hK (hP.sub (ws' := [(h, .inr (2, [.ref hn, .ref ha, .ref he, .int (nI ic), .int (nI lc), .int (nI stp), .int ap])), (hn, .inr (1, [.int (nI cnt), .ref ow, .ref fi, .ref ma, .ref ro])), (ow, .inl (cI, 400, .inl fo)), (fi, .inl (cI, 400, .inl ff)), (ma, .inl (cJ, 400, .inr (.inl fk))), (ro, .inl (cJ, len, .inr (.inl fr))), (ha, .inr (0, [.ref oa, .ref na, .ref sa, .int (nI oA), .int (nI cA), .int (nI rA), .int (nI tA)])), (oa, .inl (cI, 16, .inl (fun j => nI (gA j)))), (na, .inl (cI, 4, .inl (fun j => nI (nA j)))), (sa, .inl (cI, 16, .inl sA)), (he, .inr (0, [.ref ob, .ref nb, .ref sb, .int (nI oB), .int (nI cB), .int (nI rB), .int (nI tB)])), (ob, .inl (cI, 16, .inl (fun j => nI (gB j)))), (nb, .inl (cI, 4, .inl (fun j => nI (nB j)))), (sb, .inl (cI, 16, .inl sB))]) [1, 2, 3, 4, 5, 6, 7, 8, 9, 10, 11, 12, 13, 14] rfl) hE rfl rfl) rfl hl.1 rfl (Nat.le_of_ble_eq_true rfl) dL_first_4 ⟨by show _ ≤ _; simp only [headSpec]; omega, by show _ ≤ _; simp only [headSpec]; omega⟩ [] (⟨0, 9, 12, 25⟩ : ExceptionTableEntry) [] (htb.trans rfl) (fun z hz => absurd hz List.not_mem_nil) (by decide) (by decide) (hts (.classLink RL 25 "java/lang/IndexOutOfBoundsException") (by decide +kernel)) (hE.2.2.2.2.2.1 "java/lang/IndexOutOfBoundsException" (by decide)) (fun q9 H hz9 hk9 => ?_)
  have hP := hP.kept (H1 := H) (fun k q hq => hk9 _ (vx_lt hP hq))
  have hS : va_S A s.heap H [] := ⟨hz9, fun q g1 _ => hk9 q g1, fun q h => absurd h List.not_mem_nil⟩
  refine W.widen (k := 1) (n := 6) (by omega) (by omega) ?_
  refine W.eq (g2 := F0 m 12 ls [.ref q9]) rfl ?_
  refine lv_astore_n (lv' := [(3, .ref q9), (0, .ref h), (1, .int x), (2, .ref oo)]) hx hb dL_first_12 rfl hl (by decide) rfl (fun ls hl => ?_)
  refine lv_iconst (v := nI 1) hx hb dL_first_13 (by decide) ?_
  exact wr_i () hx hb hr hlocks hP hD hS dL_first_14 rfl trivial
set_option maxHeartbeats 4000000 in
set_option maxRecDepth 100000 in
/-- merged, where the class throws -/
theorem wt_merged_io (rm : Room) (x : Int32) (hrm : rm.cells = 1 ∧ rm.slots = 6 ∧ rm.frames ≤ 7 ∧ rm.locals ≤ 103) (hM : TH l yX2_merged wsX2_merged rm (re_P D [(cI, .int), (cJ, .long)] (xW h hn ow fi ma ro ha oa na sa he ob nb sb cI cJ ic lc stp ap cnt len fo ff fk fr oA cA rA tA gA nA sA oB cB rB tB gB nB sB) tp [.ref h, .int x]) "java/lang/IndexOutOfBoundsException") (sz : Nat) : Met l yL_merged wsL_merged { frames := 8, cells := 1, slots := 6, locals := 124 } (wl_P D [(cI, .int), (cJ, .long)] ((oo, .inl (cJ, 1, .inr (.inl fv))) :: xW h hn ow fi ma ro ha oa na sa he ob nb sb cI cJ ic lc stp ap cnt len fo ff fk fr oA cA rA tA gA nA sA oB cB rB tB gB nB sB) sz tp [.ref h, .int x, .ref oo]) (wx (Su := Unit) D [(cI, .int), (cJ, .long)] (va_A ((oo, .inl (cJ, 1, .inr (.inl fv))) :: xW h hn ow fi ma ro ha oa na sa he ob nb sb cI cJ ic lc stp ap cnt len fo ff fk fr oA cA rA tA gA nA sA oB cB rB tB gB nB sB) sz) (fun _ => some (.int (nI 1))) (fun _ => True) (fun _ => (oo, .inl (cJ, 1, .inr (.inl fv))) :: xW h hn ow fi ma ro ha oa na sa he ob nb sb cI cJ ic lc stp ap cnt len fo ff fk fr oA cA rA tA gA nA sA oB cB rB tB gB nB sB)) 1 6 (va_A ((oo, .inl (cJ, 1, .inr (.inl fv))) :: xW h hn ow fi ma ro ha oa na sa he ob nb sb cI cJ ic lc stp ap cnt len fo ff fk fr oA cA rA tA gA nA sA oB cB rB tB gB nB sB) sz) := by
  refine mt_ofWH (cc := cL_merged) (maxL := 4) (ret := (some .int)) (hh := [(0, 9, 12, 25)]) (by decide) rfl ?_
  intro p e s m args below meth c s₁ B hml htb hv
  obtain ⟨rfl, hsz, ⟨hP, hK, hD0⟩, hE, hNC⟩ := hv
  have hx := B.exec
  have hb := B.bytes
  have hr := B.returns
  have hts := atoms_spec (ws := wsL_merged) B.pre
  have hown : s.vm.findClass RL = some m.cls := findClass_of_methodNamed B.named
  have hlocks := B.notSynchronized
  subst hsz
  have hD := hD0.self (sz := s.heap.size)
  generalize hAe : va_A ((oo, .inl (cJ, 1, .inr (.inl fv))) :: xW h hn ow fi ma ro ha oa na sa he ob nb sb cI cJ ic lc stp ap cnt len fo ff fk fr oA cA rA tA gA nA sA oB cB rB tB gB nB sB) s.heap.size = A at hD hE ⊢
  have hA : ∀ q : Nat, s.heap.size ≤ q → A q := fun q h => by rw [← hAe]; exact Or.inr h
  have hS : va_S A s.heap s.heap [] := va_S.rf
  have hP : va_P D vwCl [(oo, .inl (cJ, 1, .inr (.inl fv))), (h, .inr (2, [.ref hn, .ref ha, .ref he, .int (nI ic), .int (nI lc), .int (nI stp), .int ap])), (hn, .inr (1, [.int (nI cnt), .ref ow, .ref fi, .ref ma, .ref ro])), (ow, .inl (cI, 400, .inl fo)), (fi, .inl (cI, 400, .inl ff)), (ma, .inl (cJ, 400, .inr (.inl fk))), (ro, .inl (cJ, len, .inr (.inl fr))), (ha, .inr (0, [.ref oa, .ref na, .ref sa, .int (nI oA), .int (nI cA), .int (nI rA), .int (nI tA)])), (oa, .inl (cI, 16, .inl (fun j => nI (gA j)))), (na, .inl (cI, 4, .inl (fun j => nI (nA j)))), (sa, .inl (cI, 16, .inl sA)), (he, .inr (0, [.ref ob, .ref nb, .ref sb, .int (nI oB), .int (nI cB), .int (nI rB), .int (nI tB)])), (ob, .inl (cI, 16, .inl (fun j => nI (gB j)))), (nb, .inl (cI, 4, .inl (fun j => nI (nB j)))), (sb, .inl (cI, 16, .inl sB))] s.heap := hP
  have hD : va_D A [(oo, .inl (cJ, 1, .inr (.inl fv))), (h, .inr (2, [.ref hn, .ref ha, .ref he, .int (nI ic), .int (nI lc), .int (nI stp), .int ap])), (hn, .inr (1, [.int (nI cnt), .ref ow, .ref fi, .ref ma, .ref ro])), (ow, .inl (cI, 400, .inl fo)), (fi, .inl (cI, 400, .inl ff)), (ma, .inl (cJ, 400, .inr (.inl fk))), (ro, .inl (cJ, len, .inr (.inl fr))), (ha, .inr (0, [.ref oa, .ref na, .ref sa, .int (nI oA), .int (nI cA), .int (nI rA), .int (nI tA)])), (oa, .inl (cI, 16, .inl (fun j => nI (gA j)))), (na, .inl (cI, 4, .inl (fun j => nI (nA j)))), (sa, .inl (cI, 16, .inl sA)), (he, .inr (0, [.ref ob, .ref nb, .ref sb, .int (nI oB), .int (nI cB), .int (nI rB), .int (nI tB)])), (ob, .inl (cI, 16, .inl (fun j => nI (gB j)))), (nb, .inl (cI, 4, .inl (fun j => nI (nB j)))), (sb, .inl (cI, 16, .inl sB))] := hD
  have hl := lv_entry ([.ref h, .int x, .ref oo]) (n := 4) (Nat.le_of_ble_eq_true rfl)
  rw [lg_entry_eq]
  generalize (lg_sl ([.ref h, .int x, .ref oo]) ++ List.replicate (4 - (lg_sl ([.ref h, .int x, .ref oo])).length) Slot.unset).toArray = ls at hl ⊢
  have hl : lv_has ls 4 [(0, .ref h), (1, .int x), (2, .ref oo)] := hl
  obtain ⟨hrc, hrs, hr1, hr2⟩ := hrm
  refine lv_aload_n hx hb dL_merged_0 rfl (lv_at hl 2 rfl) ?_
  refine lv_iconst (v := nI 0) hx hb dL_merged_1 (by decide) ?_
  refine lv_aload_n hx hb dL_merged_2 rfl (lv_at hl 0 rfl) ?_
  refine lv_iload_n hx hb dL_merged_3 rfl (lv_at hl 1 rfl) ?_
  refine ct_V (As := [.int x]) (rest := [.int (nI 0), .ref oo]) (E0 := "java/lang/IndexOutOfBoundsException") ⟨hx, hb, hml, hown, hts⟩ hM (cwV 1 hts gL_merged_X2_merged rfl hrc hrs (by decide +kernel) ⟨by show _ ≤ _; simp only [headSpec]; omega, by show _ ≤ _; simp only [headSpec]; omega⟩) (re_pv (ci := 2) (q0 := 0) hK (hP.sub (ws' := [(h, .inr (2, [.ref hn, .ref ha, .ref he, .int (nI ic), .int (nI lc), .int (nI stp), .int ap])), (hn, .inr (1, [.int (nI cnt), .ref ow, .ref fi, .ref ma, .ref ro])), (ow, .inl (cI, 400, .inl fo)), (fi, .inl (cI, 400, .inl ff)), (ma, .inl (cJ, 400, .inr (.inl fk))), (ro, .inl (cJ, len, .inr (.inl fr))), (ha, .inr (0, [.ref oa, .ref na, .ref sa, .int (nI oA), .int (nI cA), .int (nI rA), .int (nI tA)])), (oa, .inl (cI, 16, .inl (fun j => nI (gA j)))), (na, .inl (cI, 4, .inl (fun j => nI (nA j)))), (sa, .inl (cI, 16, .inl sA)), (he, .inr (0, [.ref ob, .ref nb, .ref sb, .int (nI oB), .int (nI cB), .int (nI rB), .int (nI tB)])), (ob, .inl (cI, 16, .inl (fun j => nI (gB j)))), (nb, .inl (cI, 4, .inl (fun j => nI (nB j)))), (sb, .inl (cI, 16, .inl sB))]) [1, 2, 3, 4, 5, 6, 7, 8, 9, 10, 11, 12, 13, 14] rfl) hE rfl rfl) rfl hl.1 rfl (Nat.le_of_ble_eq_true rfl) dL_merged_4 ⟨by show _ ≤ _; simp only [headSpec]; omega, by show _ ≤ _; simp only [headSpec]; omega⟩ [] (⟨0, 9, 12, 25⟩ : ExceptionTableEntry) [] (htb.trans rfl) (fun z hz => absurd hz List.not_mem_nil) (by decide) (by decide) (hts (.classLink RL 25 "java/lang/IndexOutOfBoundsException") (by decide +kernel)) (hE.2.2.2.2.2.1 "java/lang/IndexOutOfBoundsException" (by decide)) (fun q9 H hz9 hk9 => ?_)
  have hP := hP.kept (H1 := H) (fun k q hq => hk9 _ (vx_lt hP hq))
  have hS : va_S A s.heap H [] := ⟨hz9, fun q g1 _ => hk9 q g1, fun q h => absurd h List.not_mem_nil⟩
  refine W.widen (k := 1) (n := 6) (by omega) (by omega) ?_
  refine W.eq (g2 := F0 m 12 ls [.ref q9]) rfl ?_
  refine lv_astore_n (lv' := [(3, .ref q9), (0, .ref h), (1, .int x), (2, .ref oo)]) hx hb dL_merged_12 rfl hl (by decide) rfl (fun ls hl => ?_)
  refine lv_iconst (v := nI 1) hx hb dL_merged_13 (by decide) ?_
  exact wr_i () hx hb hr hlocks hP hD hS dL_merged_14 rfl trivial
set_option maxHeartbeats 4000000 in
set_option maxRecDepth 100000 in
/-- hangs, where the class throws -/
theorem wt_hangs_io (rm : Room) (x : Int32) (hrm : rm.cells = 1 ∧ rm.slots = 6 ∧ rm.frames ≤ 7 ∧ rm.locals ≤ 103) (hM : TH l yX2_hangs wsX2_hangs rm (re_P D [(cI, .int), (cJ, .long)] (xW h hn ow fi ma ro ha oa na sa he ob nb sb cI cJ ic lc stp ap cnt len fo ff fk fr oA cA rA tA gA nA sA oB cB rB tB gB nB sB) tp [.ref h, .int x]) "java/lang/IndexOutOfBoundsException") (sz : Nat) : Met l yL_hangs wsL_hangs { frames := 8, cells := 1, slots := 6, locals := 124 } (wl_P D [(cI, .int), (cJ, .long)] ((oo, .inl (cJ, 1, .inr (.inl fv))) :: xW h hn ow fi ma ro ha oa na sa he ob nb sb cI cJ ic lc stp ap cnt len fo ff fk fr oA cA rA tA gA nA sA oB cB rB tB gB nB sB) sz tp [.ref h, .int x, .ref oo]) (wx (Su := Unit) D [(cI, .int), (cJ, .long)] (va_A ((oo, .inl (cJ, 1, .inr (.inl fv))) :: xW h hn ow fi ma ro ha oa na sa he ob nb sb cI cJ ic lc stp ap cnt len fo ff fk fr oA cA rA tA gA nA sA oB cB rB tB gB nB sB) sz) (fun _ => some (.int (nI 1))) (fun _ => True) (fun _ => (oo, .inl (cJ, 1, .inr (.inl fv))) :: xW h hn ow fi ma ro ha oa na sa he ob nb sb cI cJ ic lc stp ap cnt len fo ff fk fr oA cA rA tA gA nA sA oB cB rB tB gB nB sB)) 1 6 (va_A ((oo, .inl (cJ, 1, .inr (.inl fv))) :: xW h hn ow fi ma ro ha oa na sa he ob nb sb cI cJ ic lc stp ap cnt len fo ff fk fr oA cA rA tA gA nA sA oB cB rB tB gB nB sB) sz) := by
  refine mt_ofWH (cc := cL_hangs) (maxL := 4) (ret := (some .int)) (hh := [(0, 9, 12, 25)]) (by decide) rfl ?_
  intro p e s m args below meth c s₁ B hml htb hv
  obtain ⟨rfl, hsz, ⟨hP, hK, hD0⟩, hE, hNC⟩ := hv
  have hx := B.exec
  have hb := B.bytes
  have hr := B.returns
  have hts := atoms_spec (ws := wsL_hangs) B.pre
  have hown : s.vm.findClass RL = some m.cls := findClass_of_methodNamed B.named
  have hlocks := B.notSynchronized
  subst hsz
  have hD := hD0.self (sz := s.heap.size)
  generalize hAe : va_A ((oo, .inl (cJ, 1, .inr (.inl fv))) :: xW h hn ow fi ma ro ha oa na sa he ob nb sb cI cJ ic lc stp ap cnt len fo ff fk fr oA cA rA tA gA nA sA oB cB rB tB gB nB sB) s.heap.size = A at hD hE ⊢
  have hA : ∀ q : Nat, s.heap.size ≤ q → A q := fun q h => by rw [← hAe]; exact Or.inr h
  have hS : va_S A s.heap s.heap [] := va_S.rf
  have hP : va_P D vwCl [(oo, .inl (cJ, 1, .inr (.inl fv))), (h, .inr (2, [.ref hn, .ref ha, .ref he, .int (nI ic), .int (nI lc), .int (nI stp), .int ap])), (hn, .inr (1, [.int (nI cnt), .ref ow, .ref fi, .ref ma, .ref ro])), (ow, .inl (cI, 400, .inl fo)), (fi, .inl (cI, 400, .inl ff)), (ma, .inl (cJ, 400, .inr (.inl fk))), (ro, .inl (cJ, len, .inr (.inl fr))), (ha, .inr (0, [.ref oa, .ref na, .ref sa, .int (nI oA), .int (nI cA), .int (nI rA), .int (nI tA)])), (oa, .inl (cI, 16, .inl (fun j => nI (gA j)))), (na, .inl (cI, 4, .inl (fun j => nI (nA j)))), (sa, .inl (cI, 16, .inl sA)), (he, .inr (0, [.ref ob, .ref nb, .ref sb, .int (nI oB), .int (nI cB), .int (nI rB), .int (nI tB)])), (ob, .inl (cI, 16, .inl (fun j => nI (gB j)))), (nb, .inl (cI, 4, .inl (fun j => nI (nB j)))), (sb, .inl (cI, 16, .inl sB))] s.heap := hP
  have hD : va_D A [(oo, .inl (cJ, 1, .inr (.inl fv))), (h, .inr (2, [.ref hn, .ref ha, .ref he, .int (nI ic), .int (nI lc), .int (nI stp), .int ap])), (hn, .inr (1, [.int (nI cnt), .ref ow, .ref fi, .ref ma, .ref ro])), (ow, .inl (cI, 400, .inl fo)), (fi, .inl (cI, 400, .inl ff)), (ma, .inl (cJ, 400, .inr (.inl fk))), (ro, .inl (cJ, len, .inr (.inl fr))), (ha, .inr (0, [.ref oa, .ref na, .ref sa, .int (nI oA), .int (nI cA), .int (nI rA), .int (nI tA)])), (oa, .inl (cI, 16, .inl (fun j => nI (gA j)))), (na, .inl (cI, 4, .inl (fun j => nI (nA j)))), (sa, .inl (cI, 16, .inl sA)), (he, .inr (0, [.ref ob, .ref nb, .ref sb, .int (nI oB), .int (nI cB), .int (nI rB), .int (nI tB)])), (ob, .inl (cI, 16, .inl (fun j => nI (gB j)))), (nb, .inl (cI, 4, .inl (fun j => nI (nB j)))), (sb, .inl (cI, 16, .inl sB))] := hD
  have hl := lv_entry ([.ref h, .int x, .ref oo]) (n := 4) (Nat.le_of_ble_eq_true rfl)
  rw [lg_entry_eq]
  generalize (lg_sl ([.ref h, .int x, .ref oo]) ++ List.replicate (4 - (lg_sl ([.ref h, .int x, .ref oo])).length) Slot.unset).toArray = ls at hl ⊢
  have hl : lv_has ls 4 [(0, .ref h), (1, .int x), (2, .ref oo)] := hl
  obtain ⟨hrc, hrs, hr1, hr2⟩ := hrm
  refine lv_aload_n hx hb dL_hangs_0 rfl (lv_at hl 2 rfl) ?_
  refine lv_iconst (v := nI 0) hx hb dL_hangs_1 (by decide) ?_
  refine lv_aload_n hx hb dL_hangs_2 rfl (lv_at hl 0 rfl) ?_
  refine lv_iload_n hx hb dL_hangs_3 rfl (lv_at hl 1 rfl) ?_
  refine ct_V (As := [.int x]) (rest := [.int (nI 0), .ref oo]) (E0 := "java/lang/IndexOutOfBoundsException") ⟨hx, hb, hml, hown, hts⟩ hM (cwV 1 hts gL_hangs_X2_hangs rfl hrc hrs (by decide +kernel) ⟨by show _ ≤ _; simp only [headSpec]; omega, by show _ ≤ _; simp only [headSpec]; omega⟩) (re_pv (ci := 2) (q0 := 0) hK (hP.sub (ws' := [(h, .inr (2, [.ref hn, .ref ha, .ref he, .int (nI ic), .int (nI lc), .int (nI stp), .int ap])), (hn, .inr (1, [.int (nI cnt), .ref ow, .ref fi, .ref ma, .ref ro])), (ow, .inl (cI, 400, .inl fo)), (fi, .inl (cI, 400, .inl ff)), (ma, .inl (cJ, 400, .inr (.inl fk))), (ro, .inl (cJ, len, .inr (.inl fr))), (ha, .inr (0, [.ref oa, .ref na, .ref sa, .int (nI oA), .int (nI cA), .int (nI rA), .int (nI tA)])), (oa, .inl (cI, 16, .inl (fun j => nI (gA j)))), (na, .inl (cI, 4, .inl (fun j => nI (nA j)))), (sa, .inl (cI, 16, .inl sA)), (he, .inr (0, [.ref ob, .ref nb, .ref sb, .int (nI oB), .int (nI cB), .int (nI rB), .int (nI tB)])), (ob, .inl (cI, 16, .inl (fun j => nI (gB j)))), (nb, .inl (cI, 4, .inl (fun j => nI (nB j)))), (sb, .inl (cI, 16, .inl sB))]) [1, 2, 3, 4, 5, 6, 7, 8, 9, 10, 11, 12, 13, 14] rfl) hE rfl rfl) rfl hl.1 rfl (Nat.le_of_ble_eq_true rfl) dL_hangs_4 ⟨by show _ ≤ _; simp only [headSpec]; omega, by show _ ≤ _; simp only [headSpec]; omega⟩ [] (⟨0, 9, 12, 25⟩ : ExceptionTableEntry) [] (htb.trans rfl) (fun z hz => absurd hz List.not_mem_nil) (by decide) (by decide) (hts (.classLink RL 25 "java/lang/IndexOutOfBoundsException") (by decide +kernel)) (hE.2.2.2.2.2.1 "java/lang/IndexOutOfBoundsException" (by decide)) (fun q9 H hz9 hk9 => ?_)
  have hP := hP.kept (H1 := H) (fun k q hq => hk9 _ (vx_lt hP hq))
  have hS : va_S A s.heap H [] := ⟨hz9, fun q g1 _ => hk9 q g1, fun q h => absurd h List.not_mem_nil⟩
  refine W.widen (k := 1) (n := 6) (by omega) (by omega) ?_
  refine W.eq (g2 := F0 m 12 ls [.ref q9]) rfl ?_
  refine lv_astore_n (lv' := [(3, .ref q9), (0, .ref h), (1, .int x), (2, .ref oo)]) hx hb dL_hangs_12 rfl hl (by decide) rfl (fun ls hl => ?_)
  refine lv_iconst (v := nI 1) hx hb dL_hangs_13 (by decide) ?_
  exact wr_i () hx hb hr hlocks hP hD hS dL_hangs_14 rfl trivial
set_option maxHeartbeats 4000000 in
set_option maxRecDepth 100000 in
/-- ones, where the class throws -/
theorem wt_ones_io (rm : Room) (x : Int32) (hrm : rm.cells = 1 ∧ rm.slots = 6 ∧ rm.frames ≤ 7 ∧ rm.locals ≤ 103) (hM : TH l yX2_ones wsX2_ones rm (re_P D [(cI, .int), (cJ, .long)] (xW h hn ow fi ma ro ha oa na sa he ob nb sb cI cJ ic lc stp ap cnt len fo ff fk fr oA cA rA tA gA nA sA oB cB rB tB gB nB sB) tp [.ref h, .int x]) "java/lang/IndexOutOfBoundsException") (sz : Nat) : Met l yL_ones wsL_ones { frames := 8, cells := 1, slots := 6, locals := 124 } (wl_P D [(cI, .int), (cJ, .long)] ((oo, .inl (cJ, 1, .inr (.inl fv))) :: xW h hn ow fi ma ro ha oa na sa he ob nb sb cI cJ ic lc stp ap cnt len fo ff fk fr oA cA rA tA gA nA sA oB cB rB tB gB nB sB) sz tp [.ref h, .int x, .ref oo]) (wx (Su := Unit) D [(cI, .int), (cJ, .long)] (va_A ((oo, .inl (cJ, 1, .inr (.inl fv))) :: xW h hn ow fi ma ro ha oa na sa he ob nb sb cI cJ ic lc stp ap cnt len fo ff fk fr oA cA rA tA gA nA sA oB cB rB tB gB nB sB) sz) (fun _ => some (.int (nI 1))) (fun _ => True) (fun _ => (oo, .inl (cJ, 1, .inr (.inl fv))) :: xW h hn ow fi ma ro ha oa na sa he ob nb sb cI cJ ic lc stp ap cnt len fo ff fk fr oA cA rA tA gA nA sA oB cB rB tB gB nB sB)) 1 6 (va_A ((oo, .inl (cJ, 1, .inr (.inl fv))) :: xW h hn ow fi ma ro ha oa na sa he ob nb sb cI cJ ic lc stp ap cnt len fo ff fk fr oA cA rA tA gA nA sA oB cB rB tB gB nB sB) sz) := by
  refine mt_ofWH (cc := cL_ones) (maxL := 4) (ret := (some .int)) (hh := [(0, 9, 12, 25)]) (by decide) rfl ?_
  intro p e s m args below meth c s₁ B hml htb hv
  obtain ⟨rfl, hsz, ⟨hP, hK, hD0⟩, hE, hNC⟩ := hv
  have hx := B.exec
  have hb := B.bytes
  have hr := B.returns
  have hts := atoms_spec (ws := wsL_ones) B.pre
  have hown : s.vm.findClass RL = some m.cls := findClass_of_methodNamed B.named
  have hlocks := B.notSynchronized
  subst hsz
  have hD := hD0.self (sz := s.heap.size)
  generalize hAe : va_A ((oo, .inl (cJ, 1, .inr (.inl fv))) :: xW h hn ow fi ma ro ha oa na sa he ob nb sb cI cJ ic lc stp ap cnt len fo ff fk fr oA cA rA tA gA nA sA oB cB rB tB gB nB sB) s.heap.size = A at hD hE ⊢
  have hA : ∀ q : Nat, s.heap.size ≤ q → A q := fun q h => by rw [← hAe]; exact Or.inr h
  have hS : va_S A s.heap s.heap [] := va_S.rf
  have hP : va_P D vwCl [(oo, .inl (cJ, 1, .inr (.inl fv))), (h, .inr (2, [.ref hn, .ref ha, .ref he, .int (nI ic), .int (nI lc), .int (nI stp), .int ap])), (hn, .inr (1, [.int (nI cnt), .ref ow, .ref fi, .ref ma, .ref ro])), (ow, .inl (cI, 400, .inl fo)), (fi, .inl (cI, 400, .inl ff)), (ma, .inl (cJ, 400, .inr (.inl fk))), (ro, .inl (cJ, len, .inr (.inl fr))), (ha, .inr (0, [.ref oa, .ref na, .ref sa, .int (nI oA), .int (nI cA), .int (nI rA), .int (nI tA)])), (oa, .inl (cI, 16, .inl (fun j => nI (gA j)))), (na, .inl (cI, 4, .inl (fun j => nI (nA j)))), (sa, .inl (cI, 16, .inl sA)), (he, .inr (0, [.ref ob, .ref nb, .ref sb, .int (nI oB), .int (nI cB), .int (nI rB), .int (nI tB)])), (ob, .inl (cI, 16, .inl (fun j => nI (gB j)))), (nb, .inl (cI, 4, .inl (fun j => nI (nB j)))), (sb, .inl (cI, 16, .inl sB))] s.heap := hP
  have hD : va_D A [(oo, .inl (cJ, 1, .inr (.inl fv))), (h, .inr (2, [.ref hn, .ref ha, .ref he, .int (nI ic), .int (nI lc), .int (nI stp), .int ap])), (hn, .inr (1, [.int (nI cnt), .ref ow, .ref fi, .ref ma, .ref ro])), (ow, .inl (cI, 400, .inl fo)), (fi, .inl (cI, 400, .inl ff)), (ma, .inl (cJ, 400, .inr (.inl fk))), (ro, .inl (cJ, len, .inr (.inl fr))), (ha, .inr (0, [.ref oa, .ref na, .ref sa, .int (nI oA), .int (nI cA), .int (nI rA), .int (nI tA)])), (oa, .inl (cI, 16, .inl (fun j => nI (gA j)))), (na, .inl (cI, 4, .inl (fun j => nI (nA j)))), (sa, .inl (cI, 16, .inl sA)), (he, .inr (0, [.ref ob, .ref nb, .ref sb, .int (nI oB), .int (nI cB), .int (nI rB), .int (nI tB)])), (ob, .inl (cI, 16, .inl (fun j => nI (gB j)))), (nb, .inl (cI, 4, .inl (fun j => nI (nB j)))), (sb, .inl (cI, 16, .inl sB))] := hD
  have hl := lv_entry ([.ref h, .int x, .ref oo]) (n := 4) (Nat.le_of_ble_eq_true rfl)
  rw [lg_entry_eq]
  generalize (lg_sl ([.ref h, .int x, .ref oo]) ++ List.replicate (4 - (lg_sl ([.ref h, .int x, .ref oo])).length) Slot.unset).toArray = ls at hl ⊢
  have hl : lv_has ls 4 [(0, .ref h), (1, .int x), (2, .ref oo)] := hl
  obtain ⟨hrc, hrs, hr1, hr2⟩ := hrm
  refine lv_aload_n hx hb dL_ones_0 rfl (lv_at hl 2 rfl) ?_
  refine lv_iconst (v := nI 0) hx hb dL_ones_1 (by decide) ?_
  refine lv_aload_n hx hb dL_ones_2 rfl (lv_at hl 0 rfl) ?_
  refine lv_iload_n hx hb dL_ones_3 rfl (lv_at hl 1 rfl) ?_
  refine ct_V (As := [.int x]) (rest := [.int (nI 0), .ref oo]) (E0 := "java/lang/IndexOutOfBoundsException") ⟨hx, hb, hml, hown, hts⟩ hM (cwV 1 hts gL_ones_X2_ones rfl hrc hrs (by decide +kernel) ⟨by show _ ≤ _; simp only [headSpec]; omega, by show _ ≤ _; simp only [headSpec]; omega⟩) (re_pv (ci := 2) (q0 := 0) hK (hP.sub (ws' := [(h, .inr (2, [.ref hn, .ref ha, .ref he, .int (nI ic), .int (nI lc), .int (nI stp), .int ap])), (hn, .inr (1, [.int (nI cnt), .ref ow, .ref fi, .ref ma, .ref ro])), (ow, .inl (cI, 400, .inl fo)), (fi, .inl (cI, 400, .inl ff)), (ma, .inl (cJ, 400, .inr (.inl fk))), (ro, .inl (cJ, len, .inr (.inl fr))), (ha, .inr (0, [.ref oa, .ref na, .ref sa, .int (nI oA), .int (nI cA), .int (nI rA), .int (nI tA)])), (oa, .inl (cI, 16, .inl (fun j => nI (gA j)))), (na, .inl (cI, 4, .inl (fun j => nI (nA j)))), (sa, .inl (cI, 16, .inl sA)), (he, .inr (0, [.ref ob, .ref nb, .ref sb, .int (nI oB), .int (nI cB), .int (nI rB), .int (nI tB)])), (ob, .inl (cI, 16, .inl (fun j => nI (gB j)))), (nb, .inl (cI, 4, .inl (fun j => nI (nB j)))), (sb, .inl (cI, 16, .inl sB))]) [1, 2, 3, 4, 5, 6, 7, 8, 9, 10, 11, 12, 13, 14] rfl) hE rfl rfl) rfl hl.1 rfl (Nat.le_of_ble_eq_true rfl) dL_ones_4 ⟨by show _ ≤ _; simp only [headSpec]; omega, by show _ ≤ _; simp only [headSpec]; omega⟩ [] (⟨0, 9, 12, 25⟩ : ExceptionTableEntry) [] (htb.trans rfl) (fun z hz => absurd hz List.not_mem_nil) (by decide) (by decide) (hts (.classLink RL 25 "java/lang/IndexOutOfBoundsException") (by decide +kernel)) (hE.2.2.2.2.2.1 "java/lang/IndexOutOfBoundsException" (by decide)) (fun q9 H hz9 hk9 => ?_)
  have hP := hP.kept (H1 := H) (fun k q hq => hk9 _ (vx_lt hP hq))
  have hS : va_S A s.heap H [] := ⟨hz9, fun q g1 _ => hk9 q g1, fun q h => absurd h List.not_mem_nil⟩
  refine W.widen (k := 1) (n := 6) (by omega) (by omega) ?_
  refine W.eq (g2 := F0 m 12 ls [.ref q9]) rfl ?_
  refine lv_astore_n (lv' := [(3, .ref q9), (0, .ref h), (1, .int x), (2, .ref oo)]) hx hb dL_ones_12 rfl hl (by decide) rfl (fun ls hl => ?_)
  refine lv_iconst (v := nI 1) hx hb dL_ones_13 (by decide) ?_
  exact wr_i () hx hb hr hlocks hP hD hS dL_ones_14 rfl trivial
set_option maxHeartbeats 4000000 in
set_option maxRecDepth 100000 in
/-- value, where the class throws -/
theorem wt_value_io (rm : Room) (x y : Int32) (hrm : rm.cells = 1 ∧ rm.slots = 6 ∧ rm.frames ≤ 7 ∧ rm.locals ≤ 103) (hM : TH l yX2_value wsX2_value rm (re_P D [(cI, .int), (cJ, .long)] (xW h hn ow fi ma ro ha oa na sa he ob nb sb cI cJ ic lc stp ap cnt len fo ff fk fr oA cA rA tA gA nA sA oB cB rB tB gB nB sB) tp [.ref h, .int x, .int y]) "java/lang/IndexOutOfBoundsException") (sz : Nat) : Met l yL_value wsL_value { frames := 8, cells := 1, slots := 6, locals := 125 } (wl_P D [(cI, .int), (cJ, .long)] ((oo, .inl (cJ, 1, .inr (.inl fv))) :: xW h hn ow fi ma ro ha oa na sa he ob nb sb cI cJ ic lc stp ap cnt len fo ff fk fr oA cA rA tA gA nA sA oB cB rB tB gB nB sB) sz tp [.ref h, .int x, .int y, .ref oo]) (wx (Su := Unit) D [(cI, .int), (cJ, .long)] (va_A ((oo, .inl (cJ, 1, .inr (.inl fv))) :: xW h hn ow fi ma ro ha oa na sa he ob nb sb cI cJ ic lc stp ap cnt len fo ff fk fr oA cA rA tA gA nA sA oB cB rB tB gB nB sB) sz) (fun _ => some (.int (nI 1))) (fun _ => True) (fun _ => (oo, .inl (cJ, 1, .inr (.inl fv))) :: xW h hn ow fi ma ro ha oa na sa he ob nb sb cI cJ ic lc stp ap cnt len fo ff fk fr oA cA rA tA gA nA sA oB cB rB tB gB nB sB)) 1 6 (va_A ((oo, .inl (cJ, 1, .inr (.inl fv))) :: xW h hn ow fi ma ro ha oa na sa he ob nb sb cI cJ ic lc stp ap cnt len fo ff fk fr oA cA rA tA gA nA sA oB cB rB tB gB nB sB) sz) := by
  refine mt_ofWH (cc := cL_value) (maxL := 5) (ret := (some .int)) (hh := [(0, 10, 13, 25)]) (by decide) rfl ?_
  intro p e s m args below meth c s₁ B hml htb hv
  obtain ⟨rfl, hsz, ⟨hP, hK, hD0⟩, hE, hNC⟩ := hv
  have hx := B.exec
  have hb := B.bytes
  have hr := B.returns
  have hts := atoms_spec (ws := wsL_value) B.pre
  have hown : s.vm.findClass RL = some m.cls := findClass_of_methodNamed B.named
  have hlocks := B.notSynchronized
  subst hsz
  have hD := hD0.self (sz := s.heap.size)
  generalize hAe : va_A ((oo, .inl (cJ, 1, .inr (.inl fv))) :: xW h hn ow fi ma ro ha oa na sa he ob nb sb cI cJ ic lc stp ap cnt len fo ff fk fr oA cA rA tA gA nA sA oB cB rB tB gB nB sB) s.heap.size = A at hD hE ⊢
  have hA : ∀ q : Nat, s.heap.size ≤ q → A q := fun q h => by rw [← hAe]; exact Or.inr h
  have hS : va_S A s.heap s.heap [] := va_S.rf
  have hP : va_P D vwCl [(oo, .inl (cJ, 1, .inr (.inl fv))), (h, .inr (2, [.ref hn, .ref ha, .ref he, .int (nI ic), .int (nI lc), .int (nI stp), .int ap])), (hn, .inr (1, [.int (nI cnt), .ref ow, .ref fi, .ref ma, .ref ro])), (ow, .inl (cI, 400, .inl fo)), (fi, .inl (cI, 400, .inl ff)), (ma, .inl (cJ, 400, .inr (.inl fk))), (ro, .inl (cJ, len, .inr (.inl fr))), (ha, .inr (0, [.ref oa, .ref na, .ref sa, .int (nI oA), .int (nI cA), .int (nI rA), .int (nI tA)])), (oa, .inl (cI, 16, .inl (fun j => nI (gA j)))), (na, .inl (cI, 4, .inl (fun j => nI (nA j)))), (sa, .inl (cI, 16, .inl sA)), (he, .inr (0, [.ref ob, .ref nb, .ref sb, .int (nI oB), .int (nI cB), .int (nI rB), .int (nI tB)])), (ob, .inl (cI, 16, .inl (fun j => nI (gB j)))), (nb, .inl (cI, 4, .inl (fun j => nI (nB j)))), (sb, .inl (cI, 16, .inl sB))] s.heap := hP
  have hD : va_D A [(oo, .inl (cJ, 1, .inr (.inl fv))), (h, .inr (2, [.ref hn, .ref ha, .ref he, .int (nI ic), .int (nI lc), .int (nI stp), .int ap])), (hn, .inr (1, [.int (nI cnt), .ref ow, .ref fi, .ref ma, .ref ro])), (ow, .inl (cI, 400, .inl fo)), (fi, .inl (cI, 400, .inl ff)), (ma, .inl (cJ, 400, .inr (.inl fk))), (ro, .inl (cJ, len, .inr (.inl fr))), (ha, .inr (0, [.ref oa, .ref na, .ref sa, .int (nI oA), .int (nI cA), .int (nI rA), .int (nI tA)])), (oa, .inl (cI, 16, .inl (fun j => nI (gA j)))), (na, .inl (cI, 4, .inl (fun j => nI (nA j)))), (sa, .inl (cI, 16, .inl sA)), (he, .inr (0, [.ref ob, .ref nb, .ref sb, .int (nI oB), .int (nI cB), .int (nI rB), .int (nI tB)])), (ob, .inl (cI, 16, .inl (fun j => nI (gB j)))), (nb, .inl (cI, 4, .inl (fun j => nI (nB j)))), (sb, .inl (cI, 16, .inl sB))] := hD
  have hl := lv_entry ([.ref h, .int x, .int y, .ref oo]) (n := 5) (Nat.le_of_ble_eq_true rfl)
  rw [lg_entry_eq]
  generalize (lg_sl ([.ref h, .int x, .int y, .ref oo]) ++ List.replicate (5 - (lg_sl ([.ref h, .int x, .int y, .ref oo])).length) Slot.unset).toArray = ls at hl ⊢
  have hl : lv_has ls 5 [(0, .ref h), (1, .int x), (2, .int y), (3, .ref oo)] := hl
  obtain ⟨hrc, hrs, hr1, hr2⟩ := hrm
  refine lv_aload_n hx hb dL_value_0 rfl (lv_at hl 3 rfl) ?_
  refine lv_iconst (v := nI 0) hx hb dL_value_1 (by decide) ?_
  refine lv_aload_n hx hb dL_value_2 rfl (lv_at hl 0 rfl) ?_
  refine lv_iload_n hx hb dL_value_3 rfl (lv_at hl 1 rfl) ?_
  refine lv_iload_n hx hb dL_value_4 rfl (lv_at hl 2 rfl) ?_
  refine ct_V (As := [.int x, .int y]) (rest := [.int (nI 0), .ref oo]) (E0 := "java/lang/IndexOutOfBoundsException") ⟨hx, hb, hml, hown, hts⟩ hM (cwV 2 hts gL_value_X2_value rfl hrc hrs (by decide +kernel) ⟨by show _ ≤ _; simp only [headSpec]; omega, by show _ ≤ _; simp only [headSpec]; omega⟩) (re_pv (ci := 2) (q0 := 0) hK (hP.sub (ws' := [(h, .inr (2, [.ref hn, .ref ha, .ref he, .int (nI ic), .int (nI lc), .int (nI stp), .int ap])), (hn, .inr (1, [.int (nI cnt), .ref ow, .ref fi, .ref ma, .ref ro])), (ow, .inl (cI, 400, .inl fo)), (fi, .inl (cI, 400, .inl ff)), (ma, .inl (cJ, 400, .inr (.inl fk))), (ro, .inl (cJ, len, .inr (.inl fr))), (ha, .inr (0, [.ref oa, .ref na, .ref sa, .int (nI oA), .int (nI cA), .int (nI rA), .int (nI tA)])), (oa, .inl (cI, 16, .inl (fun j => nI (gA j)))), (na, .inl (cI, 4, .inl (fun j => nI (nA j)))), (sa, .inl (cI, 16, .inl sA)), (he, .inr (0, [.ref ob, .ref nb, .ref sb, .int (nI oB), .int (nI cB), .int (nI rB), .int (nI tB)])), (ob, .inl (cI, 16, .inl (fun j => nI (gB j)))), (nb, .inl (cI, 4, .inl (fun j => nI (nB j)))), (sb, .inl (cI, 16, .inl sB))]) [1, 2, 3, 4, 5, 6, 7, 8, 9, 10, 11, 12, 13, 14] rfl) hE rfl rfl) rfl hl.1 rfl (Nat.le_of_ble_eq_true rfl) dL_value_5 ⟨by show _ ≤ _; simp only [headSpec]; omega, by show _ ≤ _; simp only [headSpec]; omega⟩ [] (⟨0, 10, 13, 25⟩ : ExceptionTableEntry) [] (htb.trans rfl) (fun z hz => absurd hz List.not_mem_nil) (by decide) (by decide) (hts (.classLink RL 25 "java/lang/IndexOutOfBoundsException") (by decide +kernel)) (hE.2.2.2.2.2.1 "java/lang/IndexOutOfBoundsException" (by decide)) (fun q9 H hz9 hk9 => ?_)
  have hP := hP.kept (H1 := H) (fun k q hq => hk9 _ (vx_lt hP hq))
  have hS : va_S A s.heap H [] := ⟨hz9, fun q g1 _ => hk9 q g1, fun q h => absurd h List.not_mem_nil⟩
  refine W.widen (k := 1) (n := 6) (by omega) (by omega) ?_
  refine W.eq (g2 := F0 m 13 ls [.ref q9]) rfl ?_
  refine lv_astore (lv' := [(4, .ref q9), (0, .ref h), (1, .int x), (2, .int y), (3, .ref oo)]) hx hb dL_value_13 hl (by decide) rfl (fun ls hl => ?_)
  refine lv_iconst (v := nI 1) hx hb dL_value_15 (by decide) ?_
  exact wr_i () hx hb hr hlocks hP hD hS dL_value_16 rfl trivial
set_option maxHeartbeats 4000000 in
set_option maxRecDepth 100000 in
/-- differs, where the class throws -/
theorem wt_differs_io (rm : Room) (x : Int32) (hrm : rm.cells = 1 ∧ rm.slots = 6 ∧ rm.frames ≤ 6 ∧ rm.locals ≤ 82) (hM : TH l yX2_differs wsX2_differs rm (re_P D [(cI, .int), (cJ, .long)] (xW h hn ow fi ma ro ha oa na sa he ob nb sb cI cJ ic lc stp ap cnt len fo ff fk fr oA cA rA tA gA nA sA oB cB rB tB gB nB sB) tp [.ref h, .int x]) "java/lang/IndexOutOfBoundsException") (sz : Nat) : Met l yL_differs wsL_differs { frames := 7, cells := 1, slots := 6, locals := 106 } (wl_P D [(cI, .int), (cJ, .long)] ((oo, .inl (cJ, 1, .inr (.inl fv))) :: xW h hn ow fi ma ro ha oa na sa he ob nb sb cI cJ ic lc stp ap cnt len fo ff fk fr oA cA rA tA gA nA sA oB cB rB tB gB nB sB) sz tp [.ref h, .int x, .ref oo]) (wx (Su := Unit) D [(cI, .int), (cJ, .long)] (va_A ((oo, .inl (cJ, 1, .inr (.inl fv))) :: xW h hn ow fi ma ro ha oa na sa he ob nb sb cI cJ ic lc stp ap cnt len fo ff fk fr oA cA rA tA gA nA sA oB cB rB tB gB nB sB) sz) (fun _ => some (.int (nI 1))) (fun _ => True) (fun _ => (oo, .inl (cJ, 1, .inr (.inl fv))) :: xW h hn ow fi ma ro ha oa na sa he ob nb sb cI cJ ic lc stp ap cnt len fo ff fk fr oA cA rA tA gA nA sA oB cB rB tB gB nB sB)) 1 6 (va_A ((oo, .inl (cJ, 1, .inr (.inl fv))) :: xW h hn ow fi ma ro ha oa na sa he ob nb sb cI cJ ic lc stp ap cnt len fo ff fk fr oA cA rA tA gA nA sA oB cB rB tB gB nB sB) sz) := by
  refine mt_ofWH (cc := cL_differs) (maxL := 4) (ret := (some .int)) (hh := [(0, 9, 12, 25)]) (by decide) rfl ?_
  intro p e s m args below meth c s₁ B hml htb hv
  obtain ⟨rfl, hsz, ⟨hP, hK, hD0⟩, hE, hNC⟩ := hv
  have hx := B.exec
  have hb := B.bytes
  have hr := B.returns
  have hts := atoms_spec (ws := wsL_differs) B.pre
  have hown : s.vm.findClass RL = some m.cls := findClass_of_methodNamed B.named
  have hlocks := B.notSynchronized
  subst hsz
  have hD := hD0.self (sz := s.heap.size)
  generalize hAe : va_A ((oo, .inl (cJ, 1, .inr (.inl fv))) :: xW h hn ow fi ma ro ha oa na sa he ob nb sb cI cJ ic lc stp ap cnt len fo ff fk fr oA cA rA tA gA nA sA oB cB rB tB gB nB sB) s.heap.size = A at hD hE ⊢
  have hA : ∀ q : Nat, s.heap.size ≤ q → A q := fun q h => by rw [← hAe]; exact Or.inr h
  have hS : va_S A s.heap s.heap [] := va_S.rf
  have hP : va_P D vwCl [(oo, .inl (cJ, 1, .inr (.inl fv))), (h, .inr (2, [.ref hn, .ref ha, .ref he, .int (nI ic), .int (nI lc), .int (nI stp), .int ap])), (hn, .inr (1, [.int (nI cnt), .ref ow, .ref fi, .ref ma, .ref ro])), (ow, .inl (cI, 400, .inl fo)), (fi, .inl (cI, 400, .inl ff)), (ma, .inl (cJ, 400, .inr (.inl fk))), (ro, .inl (cJ, len, .inr (.inl fr))), (ha, .inr (0, [.ref oa, .ref na, .ref sa, .int (nI oA), .int (nI cA), .int (nI rA), .int (nI tA)])), (oa, .inl (cI, 16, .inl (fun j => nI (gA j)))), (na, .inl (cI, 4, .inl (fun j => nI (nA j)))), (sa, .inl (cI, 16, .inl sA)), (he, .inr (0, [.ref ob, .ref nb, .ref sb, .int (nI oB), .int (nI cB), .int (nI rB), .int (nI tB)])), (ob, .inl (cI, 16, .inl (fun j => nI (gB j)))), (nb, .inl (cI, 4, .inl (fun j => nI (nB j)))), (sb, .inl (cI, 16, .inl sB))] s.heap := hP
  have hD : va_D A [(oo, .inl (cJ, 1, .inr (.inl fv))), (h, .inr (2, [.ref hn, .ref ha, .ref he, .int (nI ic), .int (nI lc), .int (nI stp), .int ap])), (hn, .inr (1, [.int (nI cnt), .ref ow, .ref fi, .ref ma, .ref ro])), (ow, .inl (cI, 400, .inl fo)), (fi, .inl (cI, 400, .inl ff)), (ma, .inl (cJ, 400, .inr (.inl fk))), (ro, .inl (cJ, len, .inr (.inl fr))), (ha, .inr (0, [.ref oa, .ref na, .ref sa, .int (nI oA), .int (nI cA), .int (nI rA), .int (nI tA)])), (oa, .inl (cI, 16, .inl (fun j => nI (gA j)))), (na, .inl (cI, 4, .inl (fun j => nI (nA j)))), (sa, .inl (cI, 16, .inl sA)), (he, .inr (0, [.ref ob, .ref nb, .ref sb, .int (nI oB), .int (nI cB), .int (nI rB), .int (nI tB)])), (ob, .inl (cI, 16, .inl (fun j => nI (gB j)))), (nb, .inl (cI, 4, .inl (fun j => nI (nB j)))), (sb, .inl (cI, 16, .inl sB))] := hD
  have hl := lv_entry ([.ref h, .int x, .ref oo]) (n := 4) (Nat.le_of_ble_eq_true rfl)
  rw [lg_entry_eq]
  generalize (lg_sl ([.ref h, .int x, .ref oo]) ++ List.replicate (4 - (lg_sl ([.ref h, .int x, .ref oo])).length) Slot.unset).toArray = ls at hl ⊢
  have hl : lv_has ls 4 [(0, .ref h), (1, .int x), (2, .ref oo)] := hl
  obtain ⟨hrc, hrs, hr1, hr2⟩ := hrm
  refine lv_aload_n hx hb dL_differs_0 rfl (lv_at hl 2 rfl) ?_
  refine lv_iconst (v := nI 0) hx hb dL_differs_1 (by decide) ?_
  refine lv_aload_n hx hb dL_differs_2 rfl (lv_at hl 0 rfl) ?_
  refine lv_iload_n hx hb dL_differs_3 rfl (lv_at hl 1 rfl) ?_
  refine ct_V (As := [.int x]) (rest := [.int (nI 0), .ref oo]) (E0 := "java/lang/IndexOutOfBoundsException") ⟨hx, hb, hml, hown, hts⟩ hM (cwV 1 hts gL_differs_X2_differs rfl hrc hrs (by decide +kernel) ⟨by show _ ≤ _; simp only [headSpec]; omega, by show _ ≤ _; simp only [headSpec]; omega⟩) (re_pv (ci := 2) (q0 := 0) hK (hP.sub (ws' := [(h, .inr (2, [.ref hn, .ref ha, .ref he, .int (nI ic), .int (nI lc), .int (nI stp), .int ap])), (hn, .inr (1, [.int (nI cnt), .ref ow, .ref fi, .ref ma, .ref ro])), (ow, .inl (cI, 400, .inl fo)), (fi, .inl (cI, 400, .inl ff)), (ma, .inl (cJ, 400, .inr (.inl fk))), (ro, .inl (cJ, len, .inr (.inl fr))), (ha, .inr (0, [.ref oa, .ref na, .ref sa, .int (nI oA), .int (nI cA), .int (nI rA), .int (nI tA)])), (oa, .inl (cI, 16, .inl (fun j => nI (gA j)))), (na, .inl (cI, 4, .inl (fun j => nI (nA j)))), (sa, .inl (cI, 16, .inl sA)), (he, .inr (0, [.ref ob, .ref nb, .ref sb, .int (nI oB), .int (nI cB), .int (nI rB), .int (nI tB)])), (ob, .inl (cI, 16, .inl (fun j => nI (gB j)))), (nb, .inl (cI, 4, .inl (fun j => nI (nB j)))), (sb, .inl (cI, 16, .inl sB))]) [1, 2, 3, 4, 5, 6, 7, 8, 9, 10, 11, 12, 13, 14] rfl) hE rfl rfl) rfl hl.1 rfl (Nat.le_of_ble_eq_true rfl) dL_differs_4 ⟨by show _ ≤ _; simp only [headSpec]; omega, by show _ ≤ _; simp only [headSpec]; omega⟩ [] (⟨0, 9, 12, 25⟩ : ExceptionTableEntry) [] (htb.trans rfl) (fun z hz => absurd hz List.not_mem_nil) (by decide) (by decide) (hts (.classLink RL 25 "java/lang/IndexOutOfBoundsException") (by decide +kernel)) (hE.2.2.2.2.2.1 "java/lang/IndexOutOfBoundsException" (by decide)) (fun q9 H hz9 hk9 => ?_)
  have hP := hP.kept (H1 := H) (fun k q hq => hk9 _ (vx_lt hP hq))
  have hS : va_S A s.heap H [] := ⟨hz9, fun q g1 _ => hk9 q g1, fun q h => absurd h List.not_mem_nil⟩
  refine W.widen (k := 1) (n := 6) (by omega) (by omega) ?_
  refine W.eq (g2 := F0 m 12 ls [.ref q9]) rfl ?_
  refine lv_astore_n (lv' := [(3, .ref q9), (0, .ref h), (1, .int x), (2, .ref oo)]) hx hb dL_differs_12 rfl hl (by decide) rfl (fun ls hl => ?_)
  refine lv_iconst (v := nI 1) hx hb dL_differs_13 (by decide) ?_
  exact wr_i () hx hb hr hlocks hP hD hS dL_differs_14 rfl trivial
set_option maxHeartbeats 4000000 in
set_option maxRecDepth 100000 in
/-- witness, where the class throws -/
theorem wt_witness_io (rm : Room) (x : Int32) (hrm : rm.cells = 1 ∧ rm.slots = 6 ∧ rm.frames ≤ 6 ∧ rm.locals ≤ 82) (hM : TH l yX2_witness wsX2_witness rm (re_P D [(cI, .int), (cJ, .long)] (xW h hn ow fi ma ro ha oa na sa he ob nb sb cI cJ ic lc stp ap cnt len fo ff fk fr oA cA rA tA gA nA sA oB cB rB tB gB nB sB) tp [.ref h, .int x]) "java/lang/IndexOutOfBoundsException") (sz : Nat) : Met l yL_witness wsL_witness { frames := 7, cells := 1, slots := 6, locals := 104 } (wl_P D [(cI, .int), (cJ, .long)] ((oo, .inl (cJ, 1, .inr (.inl fv))) :: xW h hn ow fi ma ro ha oa na sa he ob nb sb cI cJ ic lc stp ap cnt len fo ff fk fr oA cA rA tA gA nA sA oB cB rB tB gB nB sB) sz tp [.ref h, .int x, .ref oo]) (wx (Su := Unit) D [(cI, .int), (cJ, .long)] (va_A ((oo, .inl (cJ, 1, .inr (.inl fv))) :: xW h hn ow fi ma ro ha oa na sa he ob nb sb cI cJ ic lc stp ap cnt len fo ff fk fr oA cA rA tA gA nA sA oB cB rB tB gB nB sB) sz) (fun _ => some (.int (nI 1))) (fun _ => True) (fun _ => (oo, .inl (cJ, 1, .inr (.inl fv))) :: xW h hn ow fi ma ro ha oa na sa he ob nb sb cI cJ ic lc stp ap cnt len fo ff fk fr oA cA rA tA gA nA sA oB cB rB tB gB nB sB)) 1 6 (va_A ((oo, .inl (cJ, 1, .inr (.inl fv))) :: xW h hn ow fi ma ro ha oa na sa he ob nb sb cI cJ ic lc stp ap cnt len fo ff fk fr oA cA rA tA gA nA sA oB cB rB tB gB nB sB) sz) := by
  refine mt_ofWH (cc := cL_witness) (maxL := 4) (ret := (some .int)) (hh := [(0, 9, 12, 25)]) (by decide) rfl ?_
  intro p e s m args below meth c s₁ B hml htb hv
  obtain ⟨rfl, hsz, ⟨hP, hK, hD0⟩, hE, hNC⟩ := hv
  have hx := B.exec
  have hb := B.bytes
  have hr := B.returns
  have hts := atoms_spec (ws := wsL_witness) B.pre
  have hown : s.vm.findClass RL = some m.cls := findClass_of_methodNamed B.named
  have hlocks := B.notSynchronized
  subst hsz
  have hD := hD0.self (sz := s.heap.size)
  generalize hAe : va_A ((oo, .inl (cJ, 1, .inr (.inl fv))) :: xW h hn ow fi ma ro ha oa na sa he ob nb sb cI cJ ic lc stp ap cnt len fo ff fk fr oA cA rA tA gA nA sA oB cB rB tB gB nB sB) s.heap.size = A at hD hE ⊢
  have hA : ∀ q : Nat, s.heap.size ≤ q → A q := fun q h => by rw [← hAe]; exact Or.inr h
  have hS : va_S A s.heap s.heap [] := va_S.rf
  have hP : va_P D vwCl [(oo, .inl (cJ, 1, .inr (.inl fv))), (h, .inr (2, [.ref hn, .ref ha, .ref he, .int (nI ic), .int (nI lc), .int (nI stp), .int ap])), (hn, .inr (1, [.int (nI cnt), .ref ow, .ref fi, .ref ma, .ref ro])), (ow, .inl (cI, 400, .inl fo)), (fi, .inl (cI, 400, .inl ff)), (ma, .inl (cJ, 400, .inr (.inl fk))), (ro, .inl (cJ, len, .inr (.inl fr))), (ha, .inr (0, [.ref oa, .ref na, .ref sa, .int (nI oA), .int (nI cA), .int (nI rA), .int (nI tA)])), (oa, .inl (cI, 16, .inl (fun j => nI (gA j)))), (na, .inl (cI, 4, .inl (fun j => nI (nA j)))), (sa, .inl (cI, 16, .inl sA)), (he, .inr (0, [.ref ob, .ref nb, .ref sb, .int (nI oB), .int (nI cB), .int (nI rB), .int (nI tB)])), (ob, .inl (cI, 16, .inl (fun j => nI (gB j)))), (nb, .inl (cI, 4, .inl (fun j => nI (nB j)))), (sb, .inl (cI, 16, .inl sB))] s.heap := hP
  have hD : va_D A [(oo, .inl (cJ, 1, .inr (.inl fv))), (h, .inr (2, [.ref hn, .ref ha, .ref he, .int (nI ic), .int (nI lc), .int (nI stp), .int ap])), (hn, .inr (1, [.int (nI cnt), .ref ow, .ref fi, .ref ma, .ref ro])), (ow, .inl (cI, 400, .inl fo)), (fi, .inl (cI, 400, .inl ff)), (ma, .inl (cJ, 400, .inr (.inl fk))), (ro, .inl (cJ, len, .inr (.inl fr))), (ha, .inr (0, [.ref oa, .ref na, .ref sa, .int (nI oA), .int (nI cA), .int (nI rA), .int (nI tA)])), (oa, .inl (cI, 16, .inl (fun j => nI (gA j)))), (na, .inl (cI, 4, .inl (fun j => nI (nA j)))), (sa, .inl (cI, 16, .inl sA)), (he, .inr (0, [.ref ob, .ref nb, .ref sb, .int (nI oB), .int (nI cB), .int (nI rB), .int (nI tB)])), (ob, .inl (cI, 16, .inl (fun j => nI (gB j)))), (nb, .inl (cI, 4, .inl (fun j => nI (nB j)))), (sb, .inl (cI, 16, .inl sB))] := hD
  have hl := lv_entry ([.ref h, .int x, .ref oo]) (n := 4) (Nat.le_of_ble_eq_true rfl)
  rw [lg_entry_eq]
  generalize (lg_sl ([.ref h, .int x, .ref oo]) ++ List.replicate (4 - (lg_sl ([.ref h, .int x, .ref oo])).length) Slot.unset).toArray = ls at hl ⊢
  have hl : lv_has ls 4 [(0, .ref h), (1, .int x), (2, .ref oo)] := hl
  obtain ⟨hrc, hrs, hr1, hr2⟩ := hrm
  refine lv_aload_n hx hb dL_witness_0 rfl (lv_at hl 2 rfl) ?_
  refine lv_iconst (v := nI 0) hx hb dL_witness_1 (by decide) ?_
  refine lv_aload_n hx hb dL_witness_2 rfl (lv_at hl 0 rfl) ?_
  refine lv_iload_n hx hb dL_witness_3 rfl (lv_at hl 1 rfl) ?_
  refine ct_V (As := [.int x]) (rest := [.int (nI 0), .ref oo]) (E0 := "java/lang/IndexOutOfBoundsException") ⟨hx, hb, hml, hown, hts⟩ hM (cwV 1 hts gL_witness_X2_witness rfl hrc hrs (by decide +kernel) ⟨by show _ ≤ _; simp only [headSpec]; omega, by show _ ≤ _; simp only [headSpec]; omega⟩) (re_pv (ci := 2) (q0 := 0) hK (hP.sub (ws' := [(h, .inr (2, [.ref hn, .ref ha, .ref he, .int (nI ic), .int (nI lc), .int (nI stp), .int ap])), (hn, .inr (1, [.int (nI cnt), .ref ow, .ref fi, .ref ma, .ref ro])), (ow, .inl (cI, 400, .inl fo)), (fi, .inl (cI, 400, .inl ff)), (ma, .inl (cJ, 400, .inr (.inl fk))), (ro, .inl (cJ, len, .inr (.inl fr))), (ha, .inr (0, [.ref oa, .ref na, .ref sa, .int (nI oA), .int (nI cA), .int (nI rA), .int (nI tA)])), (oa, .inl (cI, 16, .inl (fun j => nI (gA j)))), (na, .inl (cI, 4, .inl (fun j => nI (nA j)))), (sa, .inl (cI, 16, .inl sA)), (he, .inr (0, [.ref ob, .ref nb, .ref sb, .int (nI oB), .int (nI cB), .int (nI rB), .int (nI tB)])), (ob, .inl (cI, 16, .inl (fun j => nI (gB j)))), (nb, .inl (cI, 4, .inl (fun j => nI (nB j)))), (sb, .inl (cI, 16, .inl sB))]) [1, 2, 3, 4, 5, 6, 7, 8, 9, 10, 11, 12, 13, 14] rfl) hE rfl rfl) rfl hl.1 rfl (Nat.le_of_ble_eq_true rfl) dL_witness_4 ⟨by show _ ≤ _; simp only [headSpec]; omega, by show _ ≤ _; simp only [headSpec]; omega⟩ [] (⟨0, 9, 12, 25⟩ : ExceptionTableEntry) [] (htb.trans rfl) (fun z hz => absurd hz List.not_mem_nil) (by decide) (by decide) (hts (.classLink RL 25 "java/lang/IndexOutOfBoundsException") (by decide +kernel)) (hE.2.2.2.2.2.1 "java/lang/IndexOutOfBoundsException" (by decide)) (fun q9 H hz9 hk9 => ?_)
  have hP := hP.kept (H1 := H) (fun k q hq => hk9 _ (vx_lt hP hq))
  have hS : va_S A s.heap H [] := ⟨hz9, fun q g1 _ => hk9 q g1, fun q h => absurd h List.not_mem_nil⟩
  refine W.widen (k := 1) (n := 6) (by omega) (by omega) ?_
  refine W.eq (g2 := F0 m 12 ls [.ref q9]) rfl ?_
  refine lv_astore_n (lv' := [(3, .ref q9), (0, .ref h), (1, .int x), (2, .ref oo)]) hx hb dL_witness_12 rfl hl (by decide) rfl (fun ls hl => ?_)
  refine lv_iconst (v := nI 1) hx hb dL_witness_13 (by decide) ?_
  exact wr_i () hx hb hr hlocks hP hD hS dL_witness_14 rfl trivial
set_option maxHeartbeats 4000000 in
set_option maxRecDepth 100000 in
/-- out, where the class throws -/
theorem wt_out_io (rm : Room) (x y : Int32) (hrm : rm.cells = 1 ∧ rm.slots = 6 ∧ rm.frames ≤ 7 ∧ rm.locals ≤ 103) (hM : TH l yX2_out wsX2_out rm (re_P D [(cI, .int), (cJ, .long)] (xW h hn ow fi ma ro ha oa na sa he ob nb sb cI cJ ic lc stp ap cnt len fo ff fk fr oA cA rA tA gA nA sA oB cB rB tB gB nB sB) tp [.ref h, .int x, .int y]) "java/lang/IndexOutOfBoundsException") (sz : Nat) : Met l yL_out wsL_out { frames := 8, cells := 1, slots := 6, locals := 126 } (wl_P D [(cI, .int), (cJ, .long)] ((oo, .inl (cJ, 1, .inr (.inl fv))) :: xW h hn ow fi ma ro ha oa na sa he ob nb sb cI cJ ic lc stp ap cnt len fo ff fk fr oA cA rA tA gA nA sA oB cB rB tB gB nB sB) sz tp [.ref h, .int x, .int y, .ref oo]) (wx (Su := Unit) D [(cI, .int), (cJ, .long)] (va_A ((oo, .inl (cJ, 1, .inr (.inl fv))) :: xW h hn ow fi ma ro ha oa na sa he ob nb sb cI cJ ic lc stp ap cnt len fo ff fk fr oA cA rA tA gA nA sA oB cB rB tB gB nB sB) sz) (fun _ => some (.int (nI 1))) (fun _ => True) (fun _ => (oo, .inl (cJ, 1, .inr (.inl fv))) :: xW h hn ow fi ma ro ha oa na sa he ob nb sb cI cJ ic lc stp ap cnt len fo ff fk fr oA cA rA tA gA nA sA oB cB rB tB gB nB sB)) 1 6 (va_A ((oo, .inl (cJ, 1, .inr (.inl fv))) :: xW h hn ow fi ma ro ha oa na sa he ob nb sb cI cJ ic lc stp ap cnt len fo ff fk fr oA cA rA tA gA nA sA oB cB rB tB gB nB sB) sz) := by
  refine mt_ofWH (cc := cL_out) (maxL := 5) (ret := (some .int)) (hh := [(0, 10, 13, 25)]) (by decide) rfl ?_
  intro p e s m args below meth c s₁ B hml htb hv
  obtain ⟨rfl, hsz, ⟨hP, hK, hD0⟩, hE, hNC⟩ := hv
  have hx := B.exec
  have hb := B.bytes
  have hr := B.returns
  have hts := atoms_spec (ws := wsL_out) B.pre
  have hown : s.vm.findClass RL = some m.cls := findClass_of_methodNamed B.named
  have hlocks := B.notSynchronized
  subst hsz
  have hD := hD0.self (sz := s.heap.size)
  generalize hAe : va_A ((oo, .inl (cJ, 1, .inr (.inl fv))) :: xW h hn ow fi ma ro ha oa na sa he ob nb sb cI cJ ic lc stp ap cnt len fo ff fk fr oA cA rA tA gA nA sA oB cB rB tB gB nB sB) s.heap.size = A at hD hE ⊢
  have hA : ∀ q : Nat, s.heap.size ≤ q → A q := fun q h => by rw [← hAe]; exact Or.inr h
  have hS : va_S A s.heap s.heap [] := va_S.rf
  have hP : va_P D vwCl [(oo, .inl (cJ, 1, .inr (.inl fv))), (h, .inr (2, [.ref hn, .ref ha, .ref he, .int (nI ic), .int (nI lc), .int (nI stp), .int ap])), (hn, .inr (1, [.int (nI cnt), .ref ow, .ref fi, .ref ma, .ref ro])), (ow, .inl (cI, 400, .inl fo)), (fi, .inl (cI, 400, .inl ff)), (ma, .inl (cJ, 400, .inr (.inl fk))), (ro, .inl (cJ, len, .inr (.inl fr))), (ha, .inr (0, [.ref oa, .ref na, .ref sa, .int (nI oA), .int (nI cA), .int (nI rA), .int (nI tA)])), (oa, .inl (cI, 16, .inl (fun j => nI (gA j)))), (na, .inl (cI, 4, .inl (fun j => nI (nA j)))), (sa, .inl (cI, 16, .inl sA)), (he, .inr (0, [.ref ob, .ref nb, .ref sb, .int (nI oB), .int (nI cB), .int (nI rB), .int (nI tB)])), (ob, .inl (cI, 16, .inl (fun j => nI (gB j)))), (nb, .inl (cI, 4, .inl (fun j => nI (nB j)))), (sb, .inl (cI, 16, .inl sB))] s.heap := hP
  have hD : va_D A [(oo, .inl (cJ, 1, .inr (.inl fv))), (h, .inr (2, [.ref hn, .ref ha, .ref he, .int (nI ic), .int (nI lc), .int (nI stp), .int ap])), (hn, .inr (1, [.int (nI cnt), .ref ow, .ref fi, .ref ma, .ref ro])), (ow, .inl (cI, 400, .inl fo)), (fi, .inl (cI, 400, .inl ff)), (ma, .inl (cJ, 400, .inr (.inl fk))), (ro, .inl (cJ, len, .inr (.inl fr))), (ha, .inr (0, [.ref oa, .ref na, .ref sa, .int (nI oA), .int (nI cA), .int (nI rA), .int (nI tA)])), (oa, .inl (cI, 16, .inl (fun j => nI (gA j)))), (na, .inl (cI, 4, .inl (fun j => nI (nA j)))), (sa, .inl (cI, 16, .inl sA)), (he, .inr (0, [.ref ob, .ref nb, .ref sb, .int (nI oB), .int (nI cB), .int (nI rB), .int (nI tB)])), (ob, .inl (cI, 16, .inl (fun j => nI (gB j)))), (nb, .inl (cI, 4, .inl (fun j => nI (nB j)))), (sb, .inl (cI, 16, .inl sB))] := hD
  have hl := lv_entry ([.ref h, .int x, .int y, .ref oo]) (n := 5) (Nat.le_of_ble_eq_true rfl)
  rw [lg_entry_eq]
  generalize (lg_sl ([.ref h, .int x, .int y, .ref oo]) ++ List.replicate (5 - (lg_sl ([.ref h, .int x, .int y, .ref oo])).length) Slot.unset).toArray = ls at hl ⊢
  have hl : lv_has ls 5 [(0, .ref h), (1, .int x), (2, .int y), (3, .ref oo)] := hl
  obtain ⟨hrc, hrs, hr1, hr2⟩ := hrm
  refine lv_aload_n hx hb dL_out_0 rfl (lv_at hl 3 rfl) ?_
  refine lv_iconst (v := nI 0) hx hb dL_out_1 (by decide) ?_
  refine lv_aload_n hx hb dL_out_2 rfl (lv_at hl 0 rfl) ?_
  refine lv_iload_n hx hb dL_out_3 rfl (lv_at hl 1 rfl) ?_
  refine lv_iload_n hx hb dL_out_4 rfl (lv_at hl 2 rfl) ?_
  refine ct_V (As := [.int x, .int y]) (rest := [.int (nI 0), .ref oo]) (E0 := "java/lang/IndexOutOfBoundsException") ⟨hx, hb, hml, hown, hts⟩ hM (cwV 2 hts gL_out_X2_out rfl hrc hrs (by decide +kernel) ⟨by show _ ≤ _; simp only [headSpec]; omega, by show _ ≤ _; simp only [headSpec]; omega⟩) (re_pv (ci := 2) (q0 := 0) hK (hP.sub (ws' := [(h, .inr (2, [.ref hn, .ref ha, .ref he, .int (nI ic), .int (nI lc), .int (nI stp), .int ap])), (hn, .inr (1, [.int (nI cnt), .ref ow, .ref fi, .ref ma, .ref ro])), (ow, .inl (cI, 400, .inl fo)), (fi, .inl (cI, 400, .inl ff)), (ma, .inl (cJ, 400, .inr (.inl fk))), (ro, .inl (cJ, len, .inr (.inl fr))), (ha, .inr (0, [.ref oa, .ref na, .ref sa, .int (nI oA), .int (nI cA), .int (nI rA), .int (nI tA)])), (oa, .inl (cI, 16, .inl (fun j => nI (gA j)))), (na, .inl (cI, 4, .inl (fun j => nI (nA j)))), (sa, .inl (cI, 16, .inl sA)), (he, .inr (0, [.ref ob, .ref nb, .ref sb, .int (nI oB), .int (nI cB), .int (nI rB), .int (nI tB)])), (ob, .inl (cI, 16, .inl (fun j => nI (gB j)))), (nb, .inl (cI, 4, .inl (fun j => nI (nB j)))), (sb, .inl (cI, 16, .inl sB))]) [1, 2, 3, 4, 5, 6, 7, 8, 9, 10, 11, 12, 13, 14] rfl) hE rfl rfl) rfl hl.1 rfl (Nat.le_of_ble_eq_true rfl) dL_out_5 ⟨by show _ ≤ _; simp only [headSpec]; omega, by show _ ≤ _; simp only [headSpec]; omega⟩ [] (⟨0, 10, 13, 25⟩ : ExceptionTableEntry) [] (htb.trans rfl) (fun z hz => absurd hz List.not_mem_nil) (by decide) (by decide) (hts (.classLink RL 25 "java/lang/IndexOutOfBoundsException") (by decide +kernel)) (hE.2.2.2.2.2.1 "java/lang/IndexOutOfBoundsException" (by decide)) (fun q9 H hz9 hk9 => ?_)
  have hP := hP.kept (H1 := H) (fun k q hq => hk9 _ (vx_lt hP hq))
  have hS : va_S A s.heap H [] := ⟨hz9, fun q g1 _ => hk9 q g1, fun q h => absurd h List.not_mem_nil⟩
  refine W.widen (k := 1) (n := 6) (by omega) (by omega) ?_
  refine W.eq (g2 := F0 m 13 ls [.ref q9]) rfl ?_
  refine lv_astore (lv' := [(4, .ref q9), (0, .ref h), (1, .int x), (2, .int y), (3, .ref oo)]) hx hb dL_out_13 hl (by decide) rfl (fun ls hl => ?_)
  refine lv_iconst (v := nI 1) hx hb dL_out_15 (by decide) ?_
  exact wr_i () hx hb hr hlocks hP hD hS dL_out_16 rfl trivial
set_option maxHeartbeats 4000000 in
set_option maxRecDepth 100000 in
/-- state, where the class throws -/
theorem wt_state_io (rm : Room) (x y : Int32) (hrm : rm.cells = 1 ∧ rm.slots = 6 ∧ rm.frames ≤ 7 ∧ rm.locals ≤ 103) (hM : TH l yX2_state wsX2_state rm (re_P D [(cI, .int), (cJ, .long)] (xW h hn ow fi ma ro ha oa na sa he ob nb sb cI cJ ic lc stp ap cnt len fo ff fk fr oA cA rA tA gA nA sA oB cB rB tB gB nB sB) tp [.ref h, .int x, .int y]) "java/lang/IndexOutOfBoundsException") (sz : Nat) : Met l yL_state wsL_state { frames := 8, cells := 1, slots := 6, locals := 125 } (wl_P D [(cI, .int), (cJ, .long)] ((oo, .inl (cJ, 1, .inr (.inl fv))) :: xW h hn ow fi ma ro ha oa na sa he ob nb sb cI cJ ic lc stp ap cnt len fo ff fk fr oA cA rA tA gA nA sA oB cB rB tB gB nB sB) sz tp [.ref h, .int x, .int y, .ref oo]) (wx (Su := Unit) D [(cI, .int), (cJ, .long)] (va_A ((oo, .inl (cJ, 1, .inr (.inl fv))) :: xW h hn ow fi ma ro ha oa na sa he ob nb sb cI cJ ic lc stp ap cnt len fo ff fk fr oA cA rA tA gA nA sA oB cB rB tB gB nB sB) sz) (fun _ => some (.int (nI 1))) (fun _ => True) (fun _ => (oo, .inl (cJ, 1, .inr (.inl fv))) :: xW h hn ow fi ma ro ha oa na sa he ob nb sb cI cJ ic lc stp ap cnt len fo ff fk fr oA cA rA tA gA nA sA oB cB rB tB gB nB sB)) 1 6 (va_A ((oo, .inl (cJ, 1, .inr (.inl fv))) :: xW h hn ow fi ma ro ha oa na sa he ob nb sb cI cJ ic lc stp ap cnt len fo ff fk fr oA cA rA tA gA nA sA oB cB rB tB gB nB sB) sz) := by
  refine mt_ofWH (cc := cL_state) (maxL := 5) (ret := (some .int)) (hh := [(0, 10, 13, 25)]) (by decide) rfl ?_
  intro p e s m args below meth c s₁ B hml htb hv
  obtain ⟨rfl, hsz, ⟨hP, hK, hD0⟩, hE, hNC⟩ := hv
  have hx := B.exec
  have hb := B.bytes
  have hr := B.returns
  have hts := atoms_spec (ws := wsL_state) B.pre
  have hown : s.vm.findClass RL = some m.cls := findClass_of_methodNamed B.named
  have hlocks := B.notSynchronized
  subst hsz
  have hD := hD0.self (sz := s.heap.size)
  generalize hAe : va_A ((oo, .inl (cJ, 1, .inr (.inl fv))) :: xW h hn ow fi ma ro ha oa na sa he ob nb sb cI cJ ic lc stp ap cnt len fo ff fk fr oA cA rA tA gA nA sA oB cB rB tB gB nB sB) s.heap.size = A at hD hE ⊢
  have hA : ∀ q : Nat, s.heap.size ≤ q → A q := fun q h => by rw [← hAe]; exact Or.inr h
  have hS : va_S A s.heap s.heap [] := va_S.rf
  have hP : va_P D vwCl [(oo, .inl (cJ, 1, .inr (.inl fv))), (h, .inr (2, [.ref hn, .ref ha, .ref he, .int (nI ic), .int (nI lc), .int (nI stp), .int ap])), (hn, .inr (1, [.int (nI cnt), .ref ow, .ref fi, .ref ma, .ref ro])), (ow, .inl (cI, 400, .inl fo)), (fi, .inl (cI, 400, .inl ff)), (ma, .inl (cJ, 400, .inr (.inl fk))), (ro, .inl (cJ, len, .inr (.inl fr))), (ha, .inr (0, [.ref oa, .ref na, .ref sa, .int (nI oA), .int (nI cA), .int (nI rA), .int (nI tA)])), (oa, .inl (cI, 16, .inl (fun j => nI (gA j)))), (na, .inl (cI, 4, .inl (fun j => nI (nA j)))), (sa, .inl (cI, 16, .inl sA)), (he, .inr (0, [.ref ob, .ref nb, .ref sb, .int (nI oB), .int (nI cB), .int (nI rB), .int (nI tB)])), (ob, .inl (cI, 16, .inl (fun j => nI (gB j)))), (nb, .inl (cI, 4, .inl (fun j => nI (nB j)))), (sb, .inl (cI, 16, .inl sB))] s.heap := hP
  have hD : va_D A [(oo, .inl (cJ, 1, .inr (.inl fv))), (h, .inr (2, [.ref hn, .ref ha, .ref he, .int (nI ic), .int (nI lc), .int (nI stp), .int ap])), (hn, .inr (1, [.int (nI cnt), .ref ow, .ref fi, .ref ma, .ref ro])), (ow, .inl (cI, 400, .inl fo)), (fi, .inl (cI, 400, .inl ff)), (ma, .inl (cJ, 400, .inr (.inl fk))), (ro, .inl (cJ, len, .inr (.inl fr))), (ha, .inr (0, [.ref oa, .ref na, .ref sa, .int (nI oA), .int (nI cA), .int (nI rA), .int (nI tA)])), (oa, .inl (cI, 16, .inl (fun j => nI (gA j)))), (na, .inl (cI, 4, .inl (fun j => nI (nA j)))), (sa, .inl (cI, 16, .inl sA)), (he, .inr (0, [.ref ob, .ref nb, .ref sb, .int (nI oB), .int (nI cB), .int (nI rB), .int (nI tB)])), (ob, .inl (cI, 16, .inl (fun j => nI (gB j)))), (nb, .inl (cI, 4, .inl (fun j => nI (nB j)))), (sb, .inl (cI, 16, .inl sB))] := hD
  have hl := lv_entry ([.ref h, .int x, .int y, .ref oo]) (n := 5) (Nat.le_of_ble_eq_true rfl)
  rw [lg_entry_eq]
  generalize (lg_sl ([.ref h, .int x, .int y, .ref oo]) ++ List.replicate (5 - (lg_sl ([.ref h, .int x, .int y, .ref oo])).length) Slot.unset).toArray = ls at hl ⊢
  have hl : lv_has ls 5 [(0, .ref h), (1, .int x), (2, .int y), (3, .ref oo)] := hl
  obtain ⟨hrc, hrs, hr1, hr2⟩ := hrm
  refine lv_aload_n hx hb dL_state_0 rfl (lv_at hl 3 rfl) ?_
  refine lv_iconst (v := nI 0) hx hb dL_state_1 (by decide) ?_
  refine lv_aload_n hx hb dL_state_2 rfl (lv_at hl 0 rfl) ?_
  refine lv_iload_n hx hb dL_state_3 rfl (lv_at hl 1 rfl) ?_
  refine lv_iload_n hx hb dL_state_4 rfl (lv_at hl 2 rfl) ?_
  refine ct_V (As := [.int x, .int y]) (rest := [.int (nI 0), .ref oo]) (E0 := "java/lang/IndexOutOfBoundsException") ⟨hx, hb, hml, hown, hts⟩ hM (cwV 2 hts gL_state_X2_state rfl hrc hrs (by decide +kernel) ⟨by show _ ≤ _; simp only [headSpec]; omega, by show _ ≤ _; simp only [headSpec]; omega⟩) (re_pv (ci := 2) (q0 := 0) hK (hP.sub (ws' := [(h, .inr (2, [.ref hn, .ref ha, .ref he, .int (nI ic), .int (nI lc), .int (nI stp), .int ap])), (hn, .inr (1, [.int (nI cnt), .ref ow, .ref fi, .ref ma, .ref ro])), (ow, .inl (cI, 400, .inl fo)), (fi, .inl (cI, 400, .inl ff)), (ma, .inl (cJ, 400, .inr (.inl fk))), (ro, .inl (cJ, len, .inr (.inl fr))), (ha, .inr (0, [.ref oa, .ref na, .ref sa, .int (nI oA), .int (nI cA), .int (nI rA), .int (nI tA)])), (oa, .inl (cI, 16, .inl (fun j => nI (gA j)))), (na, .inl (cI, 4, .inl (fun j => nI (nA j)))), (sa, .inl (cI, 16, .inl sA)), (he, .inr (0, [.ref ob, .ref nb, .ref sb, .int (nI oB), .int (nI cB), .int (nI rB), .int (nI tB)])), (ob, .inl (cI, 16, .inl (fun j => nI (gB j)))), (nb, .inl (cI, 4, .inl (fun j => nI (nB j)))), (sb, .inl (cI, 16, .inl sB))]) [1, 2, 3, 4, 5, 6, 7, 8, 9, 10, 11, 12, 13, 14] rfl) hE rfl rfl) rfl hl.1 rfl (Nat.le_of_ble_eq_true rfl) dL_state_5 ⟨by show _ ≤ _; simp only [headSpec]; omega, by show _ ≤ _; simp only [headSpec]; omega⟩ [] (⟨0, 10, 13, 25⟩ : ExceptionTableEntry) [] (htb.trans rfl) (fun z hz => absurd hz List.not_mem_nil) (by decide) (by decide) (hts (.classLink RL 25 "java/lang/IndexOutOfBoundsException") (by decide +kernel)) (hE.2.2.2.2.2.1 "java/lang/IndexOutOfBoundsException" (by decide)) (fun q9 H hz9 hk9 => ?_)
  have hP := hP.kept (H1 := H) (fun k q hq => hk9 _ (vx_lt hP hq))
  have hS : va_S A s.heap H [] := ⟨hz9, fun q g1 _ => hk9 q g1, fun q h => absurd h List.not_mem_nil⟩
  refine W.widen (k := 1) (n := 6) (by omega) (by omega) ?_
  refine W.eq (g2 := F0 m 13 ls [.ref q9]) rfl ?_
  refine lv_astore (lv' := [(4, .ref q9), (0, .ref h), (1, .int x), (2, .int y), (3, .ref oo)]) hx hb dL_state_13 hl (by decide) rfl (fun ls hl => ?_)
  refine lv_iconst (v := nI 1) hx hb dL_state_15 (by decide) ?_
  exact wr_i () hx hb hr hlocks hP hD hS dL_state_16 rfl trivial
set_option maxHeartbeats 4000000 in
set_option maxRecDepth 100000 in
/-- count, where the class throws -/
theorem wt_count_io (rm : Room) (x : Int32) (hrm : rm.cells = 1 ∧ rm.slots = 6 ∧ rm.frames ≤ 6 ∧ rm.locals ≤ 82) (hM : TH l yX2_count wsX2_count rm (re_P D [(cI, .int), (cJ, .long)] (xW h hn ow fi ma ro ha oa na sa he ob nb sb cI cJ ic lc stp ap cnt len fo ff fk fr oA cA rA tA gA nA sA oB cB rB tB gB nB sB) tp [.ref h, .int x]) "java/lang/IndexOutOfBoundsException") (sz : Nat) : Met l yL_count wsL_count { frames := 7, cells := 1, slots := 6, locals := 103 } (wl_P D [(cI, .int), (cJ, .long)] ((oo, .inl (cJ, 1, .inr (.inl fv))) :: xW h hn ow fi ma ro ha oa na sa he ob nb sb cI cJ ic lc stp ap cnt len fo ff fk fr oA cA rA tA gA nA sA oB cB rB tB gB nB sB) sz tp [.ref h, .int x, .ref oo]) (wx (Su := Unit) D [(cI, .int), (cJ, .long)] (va_A ((oo, .inl (cJ, 1, .inr (.inl fv))) :: xW h hn ow fi ma ro ha oa na sa he ob nb sb cI cJ ic lc stp ap cnt len fo ff fk fr oA cA rA tA gA nA sA oB cB rB tB gB nB sB) sz) (fun _ => some (.int (nI 1))) (fun _ => True) (fun _ => (oo, .inl (cJ, 1, .inr (.inl fv))) :: xW h hn ow fi ma ro ha oa na sa he ob nb sb cI cJ ic lc stp ap cnt len fo ff fk fr oA cA rA tA gA nA sA oB cB rB tB gB nB sB)) 1 6 (va_A ((oo, .inl (cJ, 1, .inr (.inl fv))) :: xW h hn ow fi ma ro ha oa na sa he ob nb sb cI cJ ic lc stp ap cnt len fo ff fk fr oA cA rA tA gA nA sA oB cB rB tB gB nB sB) sz) := by
  refine mt_ofWH (cc := cL_count) (maxL := 4) (ret := (some .int)) (hh := [(0, 9, 12, 25)]) (by decide) rfl ?_
  intro p e s m args below meth c s₁ B hml htb hv
  obtain ⟨rfl, hsz, ⟨hP, hK, hD0⟩, hE, hNC⟩ := hv
  have hx := B.exec
  have hb := B.bytes
  have hr := B.returns
  have hts := atoms_spec (ws := wsL_count) B.pre
  have hown : s.vm.findClass RL = some m.cls := findClass_of_methodNamed B.named
  have hlocks := B.notSynchronized
  subst hsz
  have hD := hD0.self (sz := s.heap.size)
  generalize hAe : va_A ((oo, .inl (cJ, 1, .inr (.inl fv))) :: xW h hn ow fi ma ro ha oa na sa he ob nb sb cI cJ ic lc stp ap cnt len fo ff fk fr oA cA rA tA gA nA sA oB cB rB tB gB nB sB) s.heap.size = A at hD hE ⊢
  have hA : ∀ q : Nat, s.heap.size ≤ q → A q := fun q h => by rw [← hAe]; exact Or.inr h
  have hS : va_S A s.heap s.heap [] := va_S.rf
  have hP : va_P D vwCl [(oo, .inl (cJ, 1, .inr (.inl fv))), (h, .inr (2, [.ref hn, .ref ha, .ref he, .int (nI ic), .int (nI lc), .int (nI stp), .int ap])), (hn, .inr (1, [.int (nI cnt), .ref ow, .ref fi, .ref ma, .ref ro])), (ow, .inl (cI, 400, .inl fo)), (fi, .inl (cI, 400, .inl ff)), (ma, .inl (cJ, 400, .inr (.inl fk))), (ro, .inl (cJ, len, .inr (.inl fr))), (ha, .inr (0, [.ref oa, .ref na, .ref sa, .int (nI oA), .int (nI cA), .int (nI rA), .int (nI tA)])), (oa, .inl (cI, 16, .inl (fun j => nI (gA j)))), (na, .inl (cI, 4, .inl (fun j => nI (nA j)))), (sa, .inl (cI, 16, .inl sA)), (he, .inr (0, [.ref ob, .ref nb, .ref sb, .int (nI oB), .int (nI cB), .int (nI rB), .int (nI tB)])), (ob, .inl (cI, 16, .inl (fun j => nI (gB j)))), (nb, .inl (cI, 4, .inl (fun j => nI (nB j)))), (sb, .inl (cI, 16, .inl sB))] s.heap := hP
  have hD : va_D A [(oo, .inl (cJ, 1, .inr (.inl fv))), (h, .inr (2, [.ref hn, .ref ha, .ref he, .int (nI ic), .int (nI lc), .int (nI stp), .int ap])), (hn, .inr (1, [.int (nI cnt), .ref ow, .ref fi, .ref ma, .ref ro])), (ow, .inl (cI, 400, .inl fo)), (fi, .inl (cI, 400, .inl ff)), (ma, .inl (cJ, 400, .inr (.inl fk))), (ro, .inl (cJ, len, .inr (.inl fr))), (ha, .inr (0, [.ref oa, .ref na, .ref sa, .int (nI oA), .int (nI cA), .int (nI rA), .int (nI tA)])), (oa, .inl (cI, 16, .inl (fun j => nI (gA j)))), (na, .inl (cI, 4, .inl (fun j => nI (nA j)))), (sa, .inl (cI, 16, .inl sA)), (he, .inr (0, [.ref ob, .ref nb, .ref sb, .int (nI oB), .int (nI cB), .int (nI rB), .int (nI tB)])), (ob, .inl (cI, 16, .inl (fun j => nI (gB j)))), (nb, .inl (cI, 4, .inl (fun j => nI (nB j)))), (sb, .inl (cI, 16, .inl sB))] := hD
  have hl := lv_entry ([.ref h, .int x, .ref oo]) (n := 4) (Nat.le_of_ble_eq_true rfl)
  rw [lg_entry_eq]
  generalize (lg_sl ([.ref h, .int x, .ref oo]) ++ List.replicate (4 - (lg_sl ([.ref h, .int x, .ref oo])).length) Slot.unset).toArray = ls at hl ⊢
  have hl : lv_has ls 4 [(0, .ref h), (1, .int x), (2, .ref oo)] := hl
  obtain ⟨hrc, hrs, hr1, hr2⟩ := hrm
  refine lv_aload_n hx hb dL_count_0 rfl (lv_at hl 2 rfl) ?_
  refine lv_iconst (v := nI 0) hx hb dL_count_1 (by decide) ?_
  refine lv_aload_n hx hb dL_count_2 rfl (lv_at hl 0 rfl) ?_
  refine lv_iload_n hx hb dL_count_3 rfl (lv_at hl 1 rfl) ?_
  refine ct_V (As := [.int x]) (rest := [.int (nI 0), .ref oo]) (E0 := "java/lang/IndexOutOfBoundsException") ⟨hx, hb, hml, hown, hts⟩ hM (cwV 1 hts gL_count_X2_count rfl hrc hrs (by decide +kernel) ⟨by show _ ≤ _; simp only [headSpec]; omega, by show _ ≤ _; simp only [headSpec]; omega⟩) (re_pv (ci := 2) (q0 := 0) hK (hP.sub (ws' := [(h, .inr (2, [.ref hn, .ref ha, .ref he, .int (nI ic), .int (nI lc), .int (nI stp), .int ap])), (hn, .inr (1, [.int (nI cnt), .ref ow, .ref fi, .ref ma, .ref ro])), (ow, .inl (cI, 400, .inl fo)), (fi, .inl (cI, 400, .inl ff)), (ma, .inl (cJ, 400, .inr (.inl fk))), (ro, .inl (cJ, len, .inr (.inl fr))), (ha, .inr (0, [.ref oa, .ref na, .ref sa, .int (nI oA), .int (nI cA), .int (nI rA), .int (nI tA)])), (oa, .inl (cI, 16, .inl (fun j => nI (gA j)))), (na, .inl (cI, 4, .inl (fun j => nI (nA j)))), (sa, .inl (cI, 16, .inl sA)), (he, .inr (0, [.ref ob, .ref nb, .ref sb, .int (nI oB), .int (nI cB), .int (nI rB), .int (nI tB)])), (ob, .inl (cI, 16, .inl (fun j => nI (gB j)))), (nb, .inl (cI, 4, .inl (fun j => nI (nB j)))), (sb, .inl (cI, 16, .inl sB))]) [1, 2, 3, 4, 5, 6, 7, 8, 9, 10, 11, 12, 13, 14] rfl) hE rfl rfl) rfl hl.1 rfl (Nat.le_of_ble_eq_true rfl) dL_count_4 ⟨by show _ ≤ _; simp only [headSpec]; omega, by show _ ≤ _; simp only [headSpec]; omega⟩ [] (⟨0, 9, 12, 25⟩ : ExceptionTableEntry) [] (htb.trans rfl) (fun z hz => absurd hz List.not_mem_nil) (by decide) (by decide) (hts (.classLink RL 25 "java/lang/IndexOutOfBoundsException") (by decide +kernel)) (hE.2.2.2.2.2.1 "java/lang/IndexOutOfBoundsException" (by decide)) (fun q9 H hz9 hk9 => ?_)
  have hP := hP.kept (H1 := H) (fun k q hq => hk9 _ (vx_lt hP hq))
  have hS : va_S A s.heap H [] := ⟨hz9, fun q g1 _ => hk9 q g1, fun q h => absurd h List.not_mem_nil⟩
  refine W.widen (k := 1) (n := 6) (by omega) (by omega) ?_
  refine W.eq (g2 := F0 m 12 ls [.ref q9]) rfl ?_
  refine lv_astore_n (lv' := [(3, .ref q9), (0, .ref h), (1, .int x), (2, .ref oo)]) hx hb dL_count_12 rfl hl (by decide) rfl (fun ls hl => ?_)
  refine lv_iconst (v := nI 1) hx hb dL_count_13 (by decide) ?_
  exact wr_i () hx hb hr hlocks hP hD hS dL_count_14 rfl trivial
end LT
