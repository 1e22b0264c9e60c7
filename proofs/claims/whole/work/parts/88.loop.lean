/-! The law's loop. -/
set_option maxHeartbeats 4000000 in
set_option maxRecDepth 100000 in
/-- one call more -/
theorem law_head {p : Program} {l : Launch} {e : Env} {s : State} {m : MethodId} {below : List Frame} {meth : Method} {c : Code} {b L : Nat} {xs : Nat → Int32} (D : va_G) (cI cJ : ClassId) (h hn ow fi ma ha oa na sa he ob nb sb oo hm q0 q1 q2 q3 q4 q5 q6 q7 q8 q9 : Nat) (tp : Nat) (C : LA p l s m meth c b L xs D cI cJ tp) (t : Nat) (ht : 4 * t ≤ L) (hnext : 4 * t + 4 ≤ L → LG p l e s m below meth c b D cI cJ h hn ow fi ma ha oa na sa he ob nb sb oo hm q0 q1 q2 q3 q4 q5 q6 q7 q8 q9 (t + 1)) : LG p l e s m below meth c b D cI cJ h hn ow fi ma ha oa na sa he ob nb sb oo hm q0 q1 q2 q3 q4 q5 q6 q7 q8 q9 t := by
  intro ro ic lc stp ap cnt len fo ff fk fr oA cA rA tA gA nA sA oB cB rB tB gB nB sB fv th fs ft fl gS gX gT gC gO fD gE hI hJ hst H locs ls hP hD hS hl
  obtain ⟨hx, hb, hr, hml, hown, hts, hX, hbl, hlocks, hK, hE, hNC, hl9, hL⟩ := id C
  have hlen3 : len ≤ 25600 := hI.2.1.2.2.1
  have hbA : ¬ (fun q : Nat => s.heap.size ≤ q) b := Nat.not_le.mpr hbl
  have hb : c.code = cL_law := hb
  refine lv_iload hx hb dL_law_23 (lv_at hl 4 rfl) ?_
  refine lv_aload_n hx hb dL_law_25 rfl (lv_at hl 0 rfl) ?_
  refine va_slen hx hb hX hbl hbA hS dL_law_26 ?_
  refine lv_iconst (v := nI 4) hx hb dL_law_27 (by decide) ?_
  refine lv_isub hx hb dL_law_28 ?_
  refine lv_icmp_gt (tgt := 1226) hx hb dL_law_29 (by decide) (fun c1 => ?_) (fun c1 => ?_)
  · refine lv_iconst (v := 1) hx hb dL_law_1226 (by decide) ?_
    refine va_forget (fun q hq => hS.2.2 q hq) ?_
    refine W.widen (k := 601024) (n := 7293034) (by omega) (by omega) ?_
    exact lw_ret hx hb hr hlocks dL_law_1227
  · have h4 : 4 * t + 4 ≤ L := by
      by_cases q : 4 * t + 4 ≤ L
      · exact q
      · refine absurd (Int32.lt_iff_toInt_lt.mpr ?_) c1
        show (nI L - nI 4).toInt < (nI (4 * t)).toInt
        rw [pk_sub_toInt (by omega) (by omega), nI_toInt (by omega)]
        omega
    refine lv_aload_n hx hb dL_law_32 rfl (lv_at hl 0 rfl) ?_
    refine lv_iload hx hb dL_law_33 (lv_at hl 4 rfl) ?_
    refine va_sld hx hb hX hbl hbA hS (vp_in_nI (by omega) (by omega)) dL_law_35 ?_
    refine lv_bipush (v := nI 31) hx hb dL_law_36 (by decide) ?_
    refine lv_iand hx hb dL_law_38 ?_
    obtain ⟨n, hn9, en⟩ := i_nI (xs (nI (4 * t)).toNatClampNeg)
    refine tp_i (show (xs (nI (4 * t)).toNatClampNeg) &&& nI 31 = nI (n % 2 ^ 5) from by rw [en]; exact pk_andN hn9 5 (by decide)) ?_
    have hr5 : n % 2 ^ 5 < 32 := Nat.mod_lt _ (by omega)
    generalize n % 2 ^ 5 = r at hr5
    by_cases h20 : 20 < r
    · refine lv_tableOut (tgt := 1220) hx hb dL_law_39 (Or.inr (by rw [nI_toInt (by omega)]; omega)) (by decide) ?_
      refine lv_iinc (v := nI (4 * t + 4)) (lv' := [(4, .int (nI (4 * t + 4))), (0, .ref b), (1, .ref h), (2, .ref hm), (3, .ref oo)]) hx hb dL_law_1220 hl (k := 4) rfl (nI_add _ 4) (by decide) rfl (fun ls hl => ?_)
      refine lv_goto (tgt := 23) hx hb dL_law_1223 (by decide) ?_
      exact W.widen (k := 30 + (t + 1)) (n := 30000 + 3 * (len - 2048) + 6 * (t + 1)) (by omega) (by omega) (hnext h4 ro ic lc stp ap cnt len fo ff fk fr oA cA rA tA gA nA sA oB cB rB tB gB nB sB fv th fs ft fl gS gX gT gC gO fD gE hI hJ (by omega) H locs ls hP hD hS (lv_sub hl [1, 2, 3, 4, 0] rfl))
    · have hr20 : r = 0 ∨ r = 1 ∨ r = 2 ∨ r = 3 ∨ r = 4 ∨ r = 5 ∨ r = 6 ∨ r = 7 ∨ r = 8 ∨ r = 9 ∨ r = 10 ∨ r = 11 ∨ r = 12 ∨ r = 13 ∨ r = 14 ∨ r = 15 ∨ r = 16 ∨ r = 17 ∨ r = 18 ∨ r = 19 ∨ r = 20 := by omega
      rcases hr20 with rfl | rfl | rfl | rfl | rfl | rfl | rfl | rfl | rfl | rfl | rfl | rfl | rfl | rfl | rfl | rfl | rfl | rfl | rfl | rfl | rfl
      · exact lv_tableIn (tgt := 136) hx hb dL_law_39 (by decide) (by decide) rfl (by decide) (cs_input D cI cJ tp h hn ow fi ma ro ha oa na sa he ob nb sb ic lc stp ap cnt len fo ff fk fr oA cA rA tA gA nA sA oB cB rB tB gB nB sB oo fv hm q0 q1 q2 q3 q4 q5 q6 q7 q8 q9 th fs ft fl gS gX gT gC gO fD gE C hI hJ t hst h4 hP hD hS hl (hnext h4))
      · exact lv_tableIn (tgt := 180) hx hb dL_law_39 (by decide) (by decide) rfl (by decide) (cs_latch D cI cJ tp h hn ow fi ma ro ha oa na sa he ob nb sb ic lc stp ap cnt len fo ff fk fr oA cA rA tA gA nA sA oB cB rB tB gB nB sB oo fv hm q0 q1 q2 q3 q4 q5 q6 q7 q8 q9 th fs ft fl gS gX gT gC gO fD gE C hI hJ t hst h4 hP hD hS hl (hnext h4))
      · exact lv_tableIn (tgt := 248) hx hb dL_law_39 (by decide) (by decide) rfl (by decide) (cs_and D cI cJ tp h hn ow fi ma ro ha oa na sa he ob nb sb ic lc stp ap cnt len fo ff fk fr oA cA rA tA gA nA sA oB cB rB tB gB nB sB oo fv hm q0 q1 q2 q3 q4 q5 q6 q7 q8 q9 th fs ft fl gS gX gT gC gO fD gE C hI hJ t hst h4 hP hD hS hl (hnext h4))
      · exact lv_tableIn (tgt := 328) hx hb dL_law_39 (by decide) (by decide) rfl (by decide) (cs_output D cI cJ tp h hn ow fi ma ro ha oa na sa he ob nb sb ic lc stp ap cnt len fo ff fk fr oA cA rA tA gA nA sA oB cB rB tB gB nB sB oo fv hm q0 q1 q2 q3 q4 q5 q6 q7 q8 q9 th fs ft fl gS gX gT gC gO fD gE C hI hJ t hst h4 hP hD hS hl (hnext h4))
      · exact lv_tableIn (tgt := 396) hx hb dL_law_39 (by decide) (by decide) rfl (by decide) (cs_next D cI cJ tp h hn ow fi ma ro ha oa na sa he ob nb sb ic lc stp ap cnt len fo ff fk fr oA cA rA tA gA nA sA oB cB rB tB gB nB sB oo fv hm q0 q1 q2 q3 q4 q5 q6 q7 q8 q9 th fs ft fl gS gX gT gC gO fD gE C hI hJ t hst h4 hP hD hS hl (hnext h4))
      · exact lv_tableIn (tgt := 476) hx hb dL_law_39 (by decide) (by decide) rfl (by decide) (cs_same D cI cJ tp h hn ow fi ma ro ha oa na sa he ob nb sb ic lc stp ap cnt len fo ff fk fr oA cA rA tA gA nA sA oB cB rB tB gB nB sB oo fv hm q0 q1 q2 q3 q4 q5 q6 q7 q8 q9 th fs ft fl gS gX gT gC gO fD gE C hI hJ t hst h4 hP hD hS hl (hnext h4))
      · exact lv_tableIn (tgt := 551) hx hb dL_law_39 (by decide) (by decide) rfl (by decide) (cs_first D cI cJ tp h hn ow fi ma ro ha oa na sa he ob nb sb ic lc stp ap cnt len fo ff fk fr oA cA rA tA gA nA sA oB cB rB tB gB nB sB oo fv hm q0 q1 q2 q3 q4 q5 q6 q7 q8 q9 th fs ft fl gS gX gT gC gO fD gE C hI hJ t hst h4 hP hD hS hl (hnext h4))
      · exact lv_tableIn (tgt := 607) hx hb dL_law_39 (by decide) (by decide) rfl (by decide) (cs_classes D cI cJ tp h hn ow fi ma ro ha oa na sa he ob nb sb ic lc stp ap cnt len fo ff fk fr oA cA rA tA gA nA sA oB cB rB tB gB nB sB oo fv hm q0 q1 q2 q3 q4 q5 q6 q7 q8 q9 th fs ft fl gS gX gT gC gO fD gE C hI hJ t hst h4 hP hD hS hl (hnext h4))
      · exact lv_tableIn (tgt := 620) hx hb dL_law_39 (by decide) (by decide) rfl (by decide) (cs_merged D cI cJ tp h hn ow fi ma ro ha oa na sa he ob nb sb ic lc stp ap cnt len fo ff fk fr oA cA rA tA gA nA sA oB cB rB tB gB nB sB oo fv hm q0 q1 q2 q3 q4 q5 q6 q7 q8 q9 th fs ft fl gS gX gT gC gO fD gE C hI hJ t hst h4 hP hD hS hl (hnext h4))
      · exact lv_tableIn (tgt := 676) hx hb dL_law_39 (by decide) (by decide) rfl (by decide) (cs_hangs D cI cJ tp h hn ow fi ma ro ha oa na sa he ob nb sb ic lc stp ap cnt len fo ff fk fr oA cA rA tA gA nA sA oB cB rB tB gB nB sB oo fv hm q0 q1 q2 q3 q4 q5 q6 q7 q8 q9 th fs ft fl gS gX gT gC gO fD gE C hI hJ t hst h4 hP hD hS hl (hnext h4))
      · exact lv_tableIn (tgt := 732) hx hb dL_law_39 (by decide) (by decide) rfl (by decide) (cs_ones D cI cJ tp h hn ow fi ma ro ha oa na sa he ob nb sb ic lc stp ap cnt len fo ff fk fr oA cA rA tA gA nA sA oB cB rB tB gB nB sB oo fv hm q0 q1 q2 q3 q4 q5 q6 q7 q8 q9 th fs ft fl gS gX gT gC gO fD gE C hI hJ t hst h4 hP hD hS hl (hnext h4))
      · exact lv_tableIn (tgt := 788) hx hb dL_law_39 (by decide) (by decide) rfl (by decide) (cs_value D cI cJ tp h hn ow fi ma ro ha oa na sa he ob nb sb ic lc stp ap cnt len fo ff fk fr oA cA rA tA gA nA sA oB cB rB tB gB nB sB oo fv hm q0 q1 q2 q3 q4 q5 q6 q7 q8 q9 th fs ft fl gS gX gT gC gO fD gE C hI hJ t hst h4 hP hD hS hl (hnext h4))
      · exact lv_tableIn (tgt := 856) hx hb dL_law_39 (by decide) (by decide) rfl (by decide) (cs_differs D cI cJ tp h hn ow fi ma ro ha oa na sa he ob nb sb ic lc stp ap cnt len fo ff fk fr oA cA rA tA gA nA sA oB cB rB tB gB nB sB oo fv hm q0 q1 q2 q3 q4 q5 q6 q7 q8 q9 th fs ft fl gS gX gT gC gO fD gE C hI hJ t hst h4 hP hD hS hl (hnext h4))
      · exact lv_tableIn (tgt := 912) hx hb dL_law_39 (by decide) (by decide) rfl (by decide) (cs_witness D cI cJ tp h hn ow fi ma ro ha oa na sa he ob nb sb ic lc stp ap cnt len fo ff fk fr oA cA rA tA gA nA sA oB cB rB tB gB nB sB oo fv hm q0 q1 q2 q3 q4 q5 q6 q7 q8 q9 th fs ft fl gS gX gT gC gO fD gE C hI hJ t hst h4 hP hD hS hl (hnext h4))
      · exact lv_tableIn (tgt := 968) hx hb dL_law_39 (by decide) (by decide) rfl (by decide) (cs_reset D cI cJ tp h hn ow fi ma ro ha oa na sa he ob nb sb ic lc stp ap cnt len fo ff fk fr oA cA rA tA gA nA sA oB cB rB tB gB nB sB oo fv hm q0 q1 q2 q3 q4 q5 q6 q7 q8 q9 th fs ft fl gS gX gT gC gO fD gE C hI hJ t hst h4 hP hD hS hl (hnext h4))
      · exact lv_tableIn (tgt := 979) hx hb dL_law_39 (by decide) (by decide) rfl (by decide) (cs_step D cI cJ tp h hn ow fi ma ro ha oa na sa he ob nb sb ic lc stp ap cnt len fo ff fk fr oA cA rA tA gA nA sA oB cB rB tB gB nB sB oo fv hm q0 q1 q2 q3 q4 q5 q6 q7 q8 q9 th fs ft fl gS gX gT gC gO fD gE C hI hJ t hst h4 hP hD hS hl (hnext h4))
      · exact lv_tableIn (tgt := 1004) hx hb dL_law_39 (by decide) (by decide) rfl (by decide) (cs_out D cI cJ tp h hn ow fi ma ro ha oa na sa he ob nb sb ic lc stp ap cnt len fo ff fk fr oA cA rA tA gA nA sA oB cB rB tB gB nB sB oo fv hm q0 q1 q2 q3 q4 q5 q6 q7 q8 q9 th fs ft fl gS gX gT gC gO fD gE C hI hJ t hst h4 hP hD hS hl (hnext h4))
      · exact lv_tableIn (tgt := 1072) hx hb dL_law_39 (by decide) (by decide) rfl (by decide) (cs_state D cI cJ tp h hn ow fi ma ro ha oa na sa he ob nb sb ic lc stp ap cnt len fo ff fk fr oA cA rA tA gA nA sA oB cB rB tB gB nB sB oo fv hm q0 q1 q2 q3 q4 q5 q6 q7 q8 q9 th fs ft fl gS gX gT gC gO fD gE C hI hJ t hst h4 hP hD hS hl (hnext h4))
      · exact lv_tableIn (tgt := 1140) hx hb dL_law_39 (by decide) (by decide) rfl (by decide) (cs_apart D cI cJ tp h hn ow fi ma ro ha oa na sa he ob nb sb ic lc stp ap cnt len fo ff fk fr oA cA rA tA gA nA sA oB cB rB tB gB nB sB oo fv hm q0 q1 q2 q3 q4 q5 q6 q7 q8 q9 th fs ft fl gS gX gT gC gO fD gE C hI hJ t hst h4 hP hD hS hl (hnext h4))
      · exact lv_tableIn (tgt := 1153) hx hb dL_law_39 (by decide) (by decide) rfl (by decide) (cs_count D cI cJ tp h hn ow fi ma ro ha oa na sa he ob nb sb ic lc stp ap cnt len fo ff fk fr oA cA rA tA gA nA sA oB cB rB tB gB nB sB oo fv hm q0 q1 q2 q3 q4 q5 q6 q7 q8 q9 th fs ft fl gS gX gT gC gO fD gE C hI hJ t hst h4 hP hD hS hl (hnext h4))
      · exact lv_tableIn (tgt := 1209) hx hb dL_law_39 (by decide) (by decide) rfl (by decide) (cs_clear D cI cJ tp h hn ow fi ma ro ha oa na sa he ob nb sb ic lc stp ap cnt len fo ff fk fr oA cA rA tA gA nA sA oB cB rB tB gB nB sB oo fv hm q0 q1 q2 q3 q4 q5 q6 q7 q8 q9 th fs ft fl gS gX gT gC gO fD gE C hI hJ t hst h4 hP hD hS hl (hnext h4))
theorem law_loop {p : Program} {l : Launch} {e : Env} {s : State} {m : MethodId} {below : List Frame} {meth : Method} {c : Code} {b L : Nat} {xs : Nat → Int32} (D : va_G) (cI cJ : ClassId) (h hn ow fi ma ha oa na sa he ob nb sb oo hm q0 q1 q2 q3 q4 q5 q6 q7 q8 q9 : Nat) (tp : Nat) (C : LA p l s m meth c b L xs D cI cJ tp) : ∀ (n t : Nat), 4 * t ≤ L → L < 4 * (t + n) → LG p l e s m below meth c b D cI cJ h hn ow fi ma ha oa na sa he ob nb sb oo hm q0 q1 q2 q3 q4 q5 q6 q7 q8 q9 t := by
  intro n
  induction n with
  | zero => intro t h1 h2; exact absurd h2 (by omega)
  | succ n ih => intro t h1 h2; exact law_head D cI cJ h hn ow fi ma ha oa na sa he ob nb sb oo hm q0 q1 q2 q3 q4 q5 q6 q7 q8 q9 tp C t h1 (fun h => ih (t + 1) (by omega) (by omega))
