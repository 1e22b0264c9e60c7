/-! The model: what writes. -/
theorem lit_t {a n : Nat} (h : a < n) (hn : n < 2 ^ 31) : zI (decide (¬ nI a < 0 ∧ ¬ nI n ≤ nI a)) = nI 1 := by
  rw [decide_eq_true (show ¬ nI a < 0 ∧ ¬ nI n ≤ nI a from ⟨nI_pos (by omega), fun h2 => by have := (nI_leI (by omega) (by omega)).mp h2; omega⟩)]; rfl
theorem lit_f {x y : Int32} (h : x < 0 ∨ y ≤ x) : zI (decide (¬ x < 0 ∧ ¬ y ≤ x)) = nI 0 := by
  rw [decide_eq_false (fun q => h.elim q.1 q.2)]; rfl
theorem zd_t {q : Prop} {d : Decidable q} (h : ¬ zI (@decide q d) = 0) : q := by
  by_cases hq : q
  · exact hq
  · rw [decide_eq_false hq] at h; exact absurd rfl h
theorem zd_f {q : Prop} {d : Decidable q} (h : zI (@decide q d) = 0) : ¬ q := fun hq => by
  rw [decide_eq_true hq] at h; exact absurd h (by decide)
theorem zd_1 {q : Prop} {d : Decidable q} (h : q) : zI (@decide q d) = nI 1 := by rw [decide_eq_true h]; rfl
theorem zd_0 {q : Prop} {d : Decidable q} (h : ¬ q) : zI (@decide q d) = nI 0 := by rw [decide_eq_false h]; rfl
theorem rw_v0 {ft : Nat → Int64} {nd pl : Nat} : rwF ft nd (vpF pl 0) 64 = rwF ft nd (fun _ => 0) 64 := rw_ext (fun _ _ => rfl)
theorem rw_va {ft : Nat → Int64} {nd pl : Nat} (h : pl < 12) : rwF ft nd (vpF pl 4096) 64 = rwF ft nd (vwF pl) 64 := rw_ext (fun _ hw => vpF_all h hw)
theorem and_w {ft : Nat → Int64} {a i : Nat} {turn : Int64} (h : turn = if a % 2 = 1 then -1 else 0) : ft (a / 2 * 64 + i) ^^^ turn = wd ft a i := by
  unfold wd
  by_cases h1 : a % 2 = 1
  · rw [h, if_pos h1, if_pos h1]
  · rw [h, if_neg h1, if_neg h1, Int64.xor_zero]
/-- the first i words are 0 -/
def zrF (ft : Nat → Int64) (i : Nat) : Nat → Int64 := fun j => if j < i then 0 else ft j
theorem zrF_0 {ft : Nat → Int64} : zrF ft 0 = ft := by funext j; unfold zrF; rw [if_neg (by omega)]
theorem zrF_up {ft : Nat → Int64} {i : Nat} (hi : i < 2 ^ 31) : vp_updL (zrF ft i) (nI i).toNatClampNeg 0 = zrF ft (i + 1) := by
  rw [nI_clamp hi]; funext j; unfold vp_updL zrF
  by_cases h1 : j = i
  · subst h1; rw [if_pos rfl, if_pos (by omega)]
  · rw [if_neg h1]
    by_cases h2 : j < i
    · rw [if_pos h2, if_pos (by omega)]
    · rw [if_neg h2, if_neg (by omega)]
theorem side_nI {a : Nat} (h : a < 2) : nI a = 0 ∨ nI a = 1 := by rcases (show a = 0 ∨ a = 1 by omega) with rfl | rfl; exact Or.inl rfl; exact Or.inr rfl
section MW1
variable (l : Launch) (D : va_G) (cI cJ : ClassId) (tp : Nat) (hm q0 q1 q2 q3 q4 q5 q6 q7 q8 q9 : Nat) (th : Int32) (nd : Nat) (fs : Nat → Int32) (ft : Nat → Int64) (mi ml : Nat) (fl : Nat → Int32) (gS gX gT gC gO : Nat → Nat) (fD : Nat → Int32) (gE : Nat → Nat) (sp : Nat) (fa : Int32)
set_option maxHeartbeats 4000000 in
set_option maxRecDepth 100000 in
/-- the states are the starts -/
theorem w_X3_start  (sz : Nat) : Met l yX3_start wsX3_start { frames := 0, cells := 0, slots := 0, locals := 0 } (wr_P D [(cI, .int), (cJ, .long)] (mW hm q0 q1 q2 q3 q4 q5 q6 q7 q8 q9 cI cJ th nd fs ft mi ml fl gS gX gT gC gO fD gE sp fa) sz tp [.ref hm]) (wx (Su := Unit) D [(cI, .int), (cJ, .long)] (va_A (mW hm q0 q1 q2 q3 q4 q5 q6 q7 q8 q9 cI cJ th nd fs ft mi ml fl gS gX gT gC gO fD gE sp fa) sz) (fun _ => none) (fun _ => True) (fun _ => mW hm q0 q1 q2 q3 q4 q5 q6 q7 q8 q9 cI cJ th nd fs ft mi ml fl gS gX (cpF gS gT 8) gC gO fD (va_up (va_up gE 0 0) 1 0) 0 (-1))) 0 0 (va_A (mW hm q0 q1 q2 q3 q4 q5 q6 q7 q8 q9 cI cJ th nd fs ft mi ml fl gS gX gT gC gO fD gE sp fa) sz) := by
  refine Met.ofW (cc := cX3_start) (maxL := 2) (ret := none) (by decide) rfl ?_
  intro p e s m args below meth c s₁ B hml hv
  obtain ⟨rfl, hsz, ⟨hP, hK, hD0⟩, hE⟩ := hv
  have hx := B.exec
  have hb := B.bytes
  have hr := B.returns
  have hts := atoms_spec (ws := wsX3_start) B.pre
  have hown : s.vm.findClass RX3 = some m.cls := findClass_of_methodNamed B.named
  have hlocks := B.notSynchronized
  subst hsz
  have hD := hD0.self (sz := s.heap.size)
  generalize hAe : va_A (mW hm q0 q1 q2 q3 q4 q5 q6 q7 q8 q9 cI cJ th nd fs ft mi ml fl gS gX gT gC gO fD gE sp fa) s.heap.size = A at hD hE ⊢
  have hA : ∀ q : Nat, s.heap.size ≤ q → A q := fun q h => by rw [← hAe]; exact Or.inr h
  have hS : va_S A s.heap s.heap [] := va_S.rf
  have hP : va_P D vwCl [(hm, .inr (3, [.int th, .int (nI nd), .ref q0, .ref q1, .int (nI mi), .int (nI ml), .ref q2, .ref q3, .ref q4, .ref q5, .ref q6, .ref q7, .ref q8, .ref q9, .int (nI sp), .int fa])), (q0, .inl (cI, 401, .inl fs)), (q1, .inl (cJ, 25664, .inr (.inl ft))), (q2, .inl (cI, 4, .inl fl)), (q3, .inl (cI, 8, .inl (fun j => nI (gS j)))), (q4, .inl (cI, 8, .inl (fun j => nI (gX j)))), (q5, .inl (cI, 8, .inl (fun j => nI (gT j)))), (q6, .inl (cI, 2, .inl (fun j => nI (gC j)))), (q7, .inl (cI, 32, .inl (fun j => nI (gO j)))), (q8, .inl (cI, 32, .inl fD)), (q9, .inl (cI, 2, .inl (fun j => nI (gE j))))] s.heap := hP
  have hD : va_D A [(hm, .inr (3, [.int th, .int (nI nd), .ref q0, .ref q1, .int (nI mi), .int (nI ml), .ref q2, .ref q3, .ref q4, .ref q5, .ref q6, .ref q7, .ref q8, .ref q9, .int (nI sp), .int fa])), (q0, .inl (cI, 401, .inl fs)), (q1, .inl (cJ, 25664, .inr (.inl ft))), (q2, .inl (cI, 4, .inl fl)), (q3, .inl (cI, 8, .inl (fun j => nI (gS j)))), (q4, .inl (cI, 8, .inl (fun j => nI (gX j)))), (q5, .inl (cI, 8, .inl (fun j => nI (gT j)))), (q6, .inl (cI, 2, .inl (fun j => nI (gC j)))), (q7, .inl (cI, 32, .inl (fun j => nI (gO j)))), (q8, .inl (cI, 32, .inl fD)), (q9, .inl (cI, 2, .inl (fun j => nI (gE j))))] := hD
  have hl := lv_entry ([.ref hm]) (n := 2) (Nat.le_of_ble_eq_true rfl)
  rw [lg_entry_eq]
  generalize (lg_sl ([.ref hm]) ++ List.replicate (2 - (lg_sl ([.ref hm])).length) Slot.unset).toArray = ls at hl ⊢
  have hl : lv_has ls 2 [(0, .ref hm)] := hl
  have hin3 : ∀ w ∈ wsX30, w ∈ wsX3_start := by decide +kernel
  have kf26 := hts (.fieldLink RX3 26 "SweepEqualModel" "states" "[I") (by decide +kernel)
  have kf20 := hts (.fieldLink RX3 20 "SweepEqualModel" "starts" "[I") (by decide +kernel)
  have kf103 := hts (.fieldLink RX3 103 "SweepEqualModel" "steps" "I") (by decide +kernel)
  have kf106 := hts (.fieldLink RX3 106 "SweepEqualModel" "firstApart" "I") (by decide +kernel)
  have kf38 := hts (.fieldLink RX3 38 "SweepEqualModel" "toldCounts" "[I") (by decide +kernel)
  refine lv_iconst (v := nI 0) hx hb dX3_start_0 (by decide) ?_
  refine lv_istore_n (lv' := [(1, .int (nI 0)), (0, .ref hm)]) hx hb dX3_start_1 rfl hl (by decide) rfl (fun ls hl => ?_)
  have loop : ∀ (n : Nat) (i : Nat), i ≤ 8 → 8 - i < n → ∀ (H : Heap) (locs : List Loc) (ls : Array Slot), va_P D vwCl [(hm, .inr (3, [.int th, .int (nI nd), .ref q0, .ref q1, .int (nI mi), .int (nI ml), .ref q2, .ref q3, .ref q4, .ref q5, .ref q6, .ref q7, .ref q8, .ref q9, .int (nI sp), .int fa])), (q0, .inl (cI, 401, .inl fs)), (q1, .inl (cJ, 25664, .inr (.inl ft))), (q2, .inl (cI, 4, .inl fl)), (q3, .inl (cI, 8, .inl (fun j => nI (gS j)))), (q4, .inl (cI, 8, .inl (fun j => nI (gX j)))), (q5, .inl (cI, 8, .inl (fun j => nI ((cpF gS gT i) j)))), (q6, .inl (cI, 2, .inl (fun j => nI (gC j)))), (q7, .inl (cI, 32, .inl (fun j => nI (gO j)))), (q8, .inl (cI, 32, .inl fD)), (q9, .inl (cI, 2, .inl (fun j => nI (gE j))))] H → va_D A [(hm, .inr (3, [.int th, .int (nI nd), .ref q0, .ref q1, .int (nI mi), .int (nI ml), .ref q2, .ref q3, .ref q4, .ref q5, .ref q6, .ref q7, .ref q8, .ref q9, .int (nI sp), .int fa])), (q0, .inl (cI, 401, .inl fs)), (q1, .inl (cJ, 25664, .inr (.inl ft))), (q2, .inl (cI, 4, .inl fl)), (q3, .inl (cI, 8, .inl (fun j => nI (gS j)))), (q4, .inl (cI, 8, .inl (fun j => nI (gX j)))), (q5, .inl (cI, 8, .inl (fun j => nI ((cpF gS gT i) j)))), (q6, .inl (cI, 2, .inl (fun j => nI (gC j)))), (q7, .inl (cI, 32, .inl (fun j => nI (gO j)))), (q8, .inl (cI, 32, .inl fD)), (q9, .inl (cI, 2, .inl (fun j => nI (gE j))))] → va_S A s.heap H locs → lv_has ls 2 [(1, .int (nI i)), (0, .ref hm)] → W p l e (headSpec wsX3_start { frames := 0, cells := 0, slots := 0, locals := 0 }).room s m ([.ref hm] : List Value).toArray below meth c H locs 0 0 (MQ below (wx (Su := Unit) D [(cI, .int), (cJ, .long)] A (fun _ => none) (fun _ => True) (fun _ => mW hm q0 q1 q2 q3 q4 q5 q6 q7 q8 q9 cI cJ th nd fs ft mi ml fl gS gX (cpF gS gT 8) gC gO fD (va_up (va_up gE 0 0) 1 0) 0 (-1))) ([.ref hm] : List Value).toArray s 0 0 A) (F0 m 2 ls []) := by
    intro n
    induction n with
    | zero => intro i hi hM; exact absurd hM (Nat.not_lt_zero _)
    | succ n ih =>
      intro i hi hM H locs ls hP hD hS hl
      refine lv_iload_n hx hb dX3_start_2 rfl (lv_at hl 0 rfl) ?_
      refine lv_bipush (v := nI 8) hx hb dX3_start_3 (by decide) ?_
      refine lv_icmp_ge (tgt := 26) hx hb dX3_start_5 (by decide) (fun c1 => ?_) (fun c1 => ?_)
      · have c1 : 8 ≤ i := (nI_leI (by omega) (by omega)).mp c1
        have hi2 : i = 8 := by omega
        rw [hi2] at hP hD
        refine lv_aload_n hx hb dX3_start_26 rfl (lv_at hl 1 rfl) ?_
        refine lv_iconst (v := nI 0) hx hb dX3_start_27 (by decide) ?_
        refine va_put (D := D) (ci := 3) (v := .int (nI 0)) (ty := .int) (C := RX3) (T := TX3) (N := 16) hx hb hts hin3 tyX3 tyX3_ok nmX3 hown hK hP hD hS 0 rfl rfl 14 (by decide) kf103 (fun _ h9 => h9) rfl (by decide +kernel) rfl rfl (Nat.le_of_ble_eq_true rfl) dX3_start_28 (fun H locs hP hD hS => ?_)
        have hP : va_P D vwCl [(hm, .inr (3, [.int th, .int (nI nd), .ref q0, .ref q1, .int (nI mi), .int (nI ml), .ref q2, .ref q3, .ref q4, .ref q5, .ref q6, .ref q7, .ref q8, .ref q9, .int (nI 0), .int fa])), (q0, .inl (cI, 401, .inl fs)), (q1, .inl (cJ, 25664, .inr (.inl ft))), (q2, .inl (cI, 4, .inl fl)), (q3, .inl (cI, 8, .inl (fun j => nI (gS j)))), (q4, .inl (cI, 8, .inl (fun j => nI (gX j)))), (q5, .inl (cI, 8, .inl (fun j => nI ((cpF gS gT 8) j)))), (q6, .inl (cI, 2, .inl (fun j => nI (gC j)))), (q7, .inl (cI, 32, .inl (fun j => nI (gO j)))), (q8, .inl (cI, 32, .inl fD)), (q9, .inl (cI, 2, .inl (fun j => nI (gE j))))] H := hP
        have hD : va_D A [(hm, .inr (3, [.int th, .int (nI nd), .ref q0, .ref q1, .int (nI mi), .int (nI ml), .ref q2, .ref q3, .ref q4, .ref q5, .ref q6, .ref q7, .ref q8, .ref q9, .int (nI 0), .int fa])), (q0, .inl (cI, 401, .inl fs)), (q1, .inl (cJ, 25664, .inr (.inl ft))), (q2, .inl (cI, 4, .inl fl)), (q3, .inl (cI, 8, .inl (fun j => nI (gS j)))), (q4, .inl (cI, 8, .inl (fun j => nI (gX j)))), (q5, .inl (cI, 8, .inl (fun j => nI ((cpF gS gT 8) j)))), (q6, .inl (cI, 2, .inl (fun j => nI (gC j)))), (q7, .inl (cI, 32, .inl (fun j => nI (gO j)))), (q8, .inl (cI, 32, .inl fD)), (q9, .inl (cI, 2, .inl (fun j => nI (gE j))))] := hD
        refine lv_aload_n hx hb dX3_start_31 rfl (lv_at hl 1 rfl) ?_
        refine lv_iconst (v := -1) hx hb dX3_start_32 (by decide) ?_
        refine va_put (D := D) (ci := 3) (v := .int (-1)) (ty := .int) (C := RX3) (T := TX3) (N := 16) hx hb hts hin3 tyX3 tyX3_ok nmX3 hown hK hP hD hS 0 rfl rfl 15 (by decide) kf106 (fun _ h9 => h9) rfl (by decide +kernel) rfl rfl (Nat.le_of_ble_eq_true rfl) dX3_start_33 (fun H locs hP hD hS => ?_)
        have hP : va_P D vwCl [(hm, .inr (3, [.int th, .int (nI nd), .ref q0, .ref q1, .int (nI mi), .int (nI ml), .ref q2, .ref q3, .ref q4, .ref q5, .ref q6, .ref q7, .ref q8, .ref q9, .int (nI 0), .int (-1)])), (q0, .inl (cI, 401, .inl fs)), (q1, .inl (cJ, 25664, .inr (.inl ft))), (q2, .inl (cI, 4, .inl fl)), (q3, .inl (cI, 8, .inl (fun j => nI (gS j)))), (q4, .inl (cI, 8, .inl (fun j => nI (gX j)))), (q5, .inl (cI, 8, .inl (fun j => nI ((cpF gS gT 8) j)))), (q6, .inl (cI, 2, .inl (fun j => nI (gC j)))), (q7, .inl (cI, 32, .inl (fun j => nI (gO j)))), (q8, .inl (cI, 32, .inl fD)), (q9, .inl (cI, 2, .inl (fun j => nI (gE j))))] H := hP
        have hD : va_D A [(hm, .inr (3, [.int th, .int (nI nd), .ref q0, .ref q1, .int (nI mi), .int (nI ml), .ref q2, .ref q3, .ref q4, .ref q5, .ref q6, .ref q7, .ref q8, .ref q9, .int (nI 0), .int (-1)])), (q0, .inl (cI, 401, .inl fs)), (q1, .inl (cJ, 25664, .inr (.inl ft))), (q2, .inl (cI, 4, .inl fl)), (q3, .inl (cI, 8, .inl (fun j => nI (gS j)))), (q4, .inl (cI, 8, .inl (fun j => nI (gX j)))), (q5, .inl (cI, 8, .inl (fun j => nI ((cpF gS gT 8) j)))), (q6, .inl (cI, 2, .inl (fun j => nI (gC j)))), (q7, .inl (cI, 32, .inl (fun j => nI (gO j)))), (q8, .inl (cI, 32, .inl fD)), (q9, .inl (cI, 2, .inl (fun j => nI (gE j))))] := hD
        refine lv_aload_n hx hb dX3_start_36 rfl (lv_at hl 1 rfl) ?_
        refine va_get (D := D) (ci := 3) (v := .ref q9) (C := RX3) (T := TX3) (N := 16) hx hb hts hin3 hown hK hP 0 rfl rfl 13 (by decide) kf38 (fun _ h9 => h9) rfl dX3_start_37 ?_
        refine lv_iconst (v := nI 0) hx hb dX3_start_40 (by decide) ?_
        refine lv_iconst (v := nI 0) hx hb dX3_start_41 (by decide) ?_
        refine va_iast hx hb hK hP hD hS 10 0 rfl rfl (vp_in_nI (by omega) (by omega)) dX3_start_42 (fun H locs hP hD hS => ?_)
        have hP : va_P D vwCl [(hm, .inr (3, [.int th, .int (nI nd), .ref q0, .ref q1, .int (nI mi), .int (nI ml), .ref q2, .ref q3, .ref q4, .ref q5, .ref q6, .ref q7, .ref q8, .ref q9, .int (nI 0), .int (-1)])), (q0, .inl (cI, 401, .inl fs)), (q1, .inl (cJ, 25664, .inr (.inl ft))), (q2, .inl (cI, 4, .inl fl)), (q3, .inl (cI, 8, .inl (fun j => nI (gS j)))), (q4, .inl (cI, 8, .inl (fun j => nI (gX j)))), (q5, .inl (cI, 8, .inl (fun j => nI ((cpF gS gT 8) j)))), (q6, .inl (cI, 2, .inl (fun j => nI (gC j)))), (q7, .inl (cI, 32, .inl (fun j => nI (gO j)))), (q8, .inl (cI, 32, .inl fD)), (q9, .inl (cI, 2, .inl (upd (fun j => nI (gE j)) (nI 0).toNatClampNeg (nI 0))))] H := hP
        have hD : va_D A [(hm, .inr (3, [.int th, .int (nI nd), .ref q0, .ref q1, .int (nI mi), .int (nI ml), .ref q2, .ref q3, .ref q4, .ref q5, .ref q6, .ref q7, .ref q8, .ref q9, .int (nI 0), .int (-1)])), (q0, .inl (cI, 401, .inl fs)), (q1, .inl (cJ, 25664, .inr (.inl ft))), (q2, .inl (cI, 4, .inl fl)), (q3, .inl (cI, 8, .inl (fun j => nI (gS j)))), (q4, .inl (cI, 8, .inl (fun j => nI (gX j)))), (q5, .inl (cI, 8, .inl (fun j => nI ((cpF gS gT 8) j)))), (q6, .inl (cI, 2, .inl (fun j => nI (gC j)))), (q7, .inl (cI, 32, .inl (fun j => nI (gO j)))), (q8, .inl (cI, 32, .inl fD)), (q9, .inl (cI, 2, .inl (upd (fun j => nI (gE j)) (nI 0).toNatClampNeg (nI 0))))] := hD
        rw [show upd (fun j => nI (gE j)) (nI 0).toNatClampNeg (nI 0) = fun j => nI ((va_up gE 0 0) j) from upN _ (by omega)] at hP hD
        refine lv_aload_n hx hb dX3_start_43 rfl (lv_at hl 1 rfl) ?_
        refine va_get (D := D) (ci := 3) (v := .ref q9) (C := RX3) (T := TX3) (N := 16) hx hb hts hin3 hown hK hP 0 rfl rfl 13 (by decide) kf38 (fun _ h9 => h9) rfl dX3_start_44 ?_
        refine lv_iconst (v := nI 1) hx hb dX3_start_47 (by decide) ?_
        refine lv_iconst (v := nI 0) hx hb dX3_start_48 (by decide) ?_
        refine va_iast hx hb hK hP hD hS 10 0 rfl rfl (vp_in_nI (by omega) (by omega)) dX3_start_49 (fun H locs hP hD hS => ?_)
        have hP : va_P D vwCl [(hm, .inr (3, [.int th, .int (nI nd), .ref q0, .ref q1, .int (nI mi), .int (nI ml), .ref q2, .ref q3, .ref q4, .ref q5, .ref q6, .ref q7, .ref q8, .ref q9, .int (nI 0), .int (-1)])), (q0, .inl (cI, 401, .inl fs)), (q1, .inl (cJ, 25664, .inr (.inl ft))), (q2, .inl (cI, 4, .inl fl)), (q3, .inl (cI, 8, .inl (fun j => nI (gS j)))), (q4, .inl (cI, 8, .inl (fun j => nI (gX j)))), (q5, .inl (cI, 8, .inl (fun j => nI ((cpF gS gT 8) j)))), (q6, .inl (cI, 2, .inl (fun j => nI (gC j)))), (q7, .inl (cI, 32, .inl (fun j => nI (gO j)))), (q8, .inl (cI, 32, .inl fD)), (q9, .inl (cI, 2, .inl (upd (fun j => nI ((va_up gE 0 0) j)) (nI 1).toNatClampNeg (nI 0))))] H := hP
        have hD : va_D A [(hm, .inr (3, [.int th, .int (nI nd), .ref q0, .ref q1, .int (nI mi), .int (nI ml), .ref q2, .ref q3, .ref q4, .ref q5, .ref q6, .ref q7, .ref q8, .ref q9, .int (nI 0), .int (-1)])), (q0, .inl (cI, 401, .inl fs)), (q1, .inl (cJ, 25664, .inr (.inl ft))), (q2, .inl (cI, 4, .inl fl)), (q3, .inl (cI, 8, .inl (fun j => nI (gS j)))), (q4, .inl (cI, 8, .inl (fun j => nI (gX j)))), (q5, .inl (cI, 8, .inl (fun j => nI ((cpF gS gT 8) j)))), (q6, .inl (cI, 2, .inl (fun j => nI (gC j)))), (q7, .inl (cI, 32, .inl (fun j => nI (gO j)))), (q8, .inl (cI, 32, .inl fD)), (q9, .inl (cI, 2, .inl (upd (fun j => nI ((va_up gE 0 0) j)) (nI 1).toNatClampNeg (nI 0))))] := hD
        rw [show upd (fun j => nI ((va_up gE 0 0) j)) (nI 1).toNatClampNeg (nI 0) = fun j => nI ((va_up (va_up gE 0 0) 1 0) j) from upN _ (by omega)] at hP hD
        exact wr_v (()) hx hb hr hlocks hP hD hS dX3_start_50 (rfl) (trivial)
      · have c1 : ¬ (8 ≤ i) := fun h => c1 ((nI_leI (by omega) (by omega)).mpr h)
        refine lv_aload_n hx hb dX3_start_8 rfl (lv_at hl 1 rfl) ?_
        refine va_get (D := D) (ci := 3) (v := .ref q5) (C := RX3) (T := TX3) (N := 16) hx hb hts hin3 hown hK hP 0 rfl rfl 9 (by decide) kf26 (fun _ h9 => h9) rfl dX3_start_9 ?_
        refine lv_iload_n hx hb dX3_start_12 rfl (lv_at hl 0 rfl) ?_
        refine lv_aload_n hx hb dX3_start_13 rfl (lv_at hl 1 rfl) ?_
        refine va_get (D := D) (ci := 3) (v := .ref q3) (C := RX3) (T := TX3) (N := 16) hx hb hts hin3 hown hK hP 0 rfl rfl 7 (by decide) kf20 (fun _ h9 => h9) rfl dX3_start_14 ?_
        refine lv_iload_n hx hb dX3_start_17 rfl (lv_at hl 0 rfl) ?_
        refine va_iald hx hb hK hP 4 0 rfl rfl (vp_in_nI (by omega) (by omega)) dX3_start_18 ?_
        refine tp_i (show (fun j => nI (gS j)) (nI i).toNatClampNeg = nI (gS i) from congrArg (fun j => nI (gS j)) (nI_clamp (by omega))) ?_
        refine va_iast hx hb hK hP hD hS 6 0 rfl rfl (vp_in_nI (by omega) (by omega)) dX3_start_19 (fun H locs hP hD hS => ?_)
        have hP : va_P D vwCl [(hm, .inr (3, [.int th, .int (nI nd), .ref q0, .ref q1, .int (nI mi), .int (nI ml), .ref q2, .ref q3, .ref q4, .ref q5, .ref q6, .ref q7, .ref q8, .ref q9, .int (nI sp), .int fa])), (q0, .inl (cI, 401, .inl fs)), (q1, .inl (cJ, 25664, .inr (.inl ft))), (q2, .inl (cI, 4, .inl fl)), (q3, .inl (cI, 8, .inl (fun j => nI (gS j)))), (q4, .inl (cI, 8, .inl (fun j => nI (gX j)))), (q5, .inl (cI, 8, .inl (upd (fun j => nI ((cpF gS gT i) j)) (nI i).toNatClampNeg (nI (gS i))))), (q6, .inl (cI, 2, .inl (fun j => nI (gC j)))), (q7, .inl (cI, 32, .inl (fun j => nI (gO j)))), (q8, .inl (cI, 32, .inl fD)), (q9, .inl (cI, 2, .inl (fun j => nI (gE j))))] H := hP
        have hD : va_D A [(hm, .inr (3, [.int th, .int (nI nd), .ref q0, .ref q1, .int (nI mi), .int (nI ml), .ref q2, .ref q3, .ref q4, .ref q5, .ref q6, .ref q7, .ref q8, .ref q9, .int (nI sp), .int fa])), (q0, .inl (cI, 401, .inl fs)), (q1, .inl (cJ, 25664, .inr (.inl ft))), (q2, .inl (cI, 4, .inl fl)), (q3, .inl (cI, 8, .inl (fun j => nI (gS j)))), (q4, .inl (cI, 8, .inl (fun j => nI (gX j)))), (q5, .inl (cI, 8, .inl (upd (fun j => nI ((cpF gS gT i) j)) (nI i).toNatClampNeg (nI (gS i))))), (q6, .inl (cI, 2, .inl (fun j => nI (gC j)))), (q7, .inl (cI, 32, .inl (fun j => nI (gO j)))), (q8, .inl (cI, 32, .inl fD)), (q9, .inl (cI, 2, .inl (fun j => nI (gE j))))] := hD
        rw [show upd (fun j => nI ((cpF gS gT i) j)) (nI i).toNatClampNeg (nI (gS i)) = fun j => nI ((cpF gS gT (i + 1)) j) from cpF_up (by omega)] at hP hD
        refine lv_iinc (v := nI (i + 1)) (lv' := [(1, .int (nI (i + 1))), (0, .ref hm)]) hx hb dX3_start_20 hl (k := 0) rfl (nI_add i 1) (by decide) rfl (fun ls hl => ?_)
        refine lv_goto (tgt := 2) hx hb dX3_start_23 (by decide) ?_
        exact ih (i + 1) (by omega) (by omega) _ _ ls hP hD hS (lv_sub hl [0, 1] rfl)
  exact loop (8 - 0 + 1) 0 (by omega) (by omega) _ _ ls (by rw [cpF_0]; exact hP) (by rw [cpF_0]; exact hD) hS (lv_sub hl [0, 1] rfl)
set_option maxHeartbeats 4000000 in
set_option maxRecDepth 100000 in
/-- reset -/
theorem w_X3_reset  (sz : Nat) : Met l yX3_reset wsX3_reset { frames := 1, cells := 0, slots := 0, locals := 21 } (wr_P D [(cI, .int), (cJ, .long)] (mW hm q0 q1 q2 q3 q4 q5 q6 q7 q8 q9 cI cJ th nd fs ft mi ml fl gS gX gT gC gO fD gE sp fa) sz tp [.ref hm]) (wx (Su := Unit) D [(cI, .int), (cJ, .long)] (va_A (mW hm q0 q1 q2 q3 q4 q5 q6 q7 q8 q9 cI cJ th nd fs ft mi ml fl gS gX gT gC gO fD gE sp fa) sz) (fun _ => none) (fun _ => True) (fun _ => mW hm q0 q1 q2 q3 q4 q5 q6 q7 q8 q9 cI cJ (nI 0) nd fs ft mi ml fl gS gX (cpF gS gT 8) gC gO fD (va_up (va_up gE 0 0) 1 0) 0 (-1))) 0 0 (va_A (mW hm q0 q1 q2 q3 q4 q5 q6 q7 q8 q9 cI cJ th nd fs ft mi ml fl gS gX gT gC gO fD gE sp fa) sz) := by
  refine Met.ofW (cc := cX3_reset) (maxL := 1) (ret := none) (by decide) rfl ?_
  intro p e s m args below meth c s₁ B hml hv
  obtain ⟨rfl, hsz, ⟨hP, hK, hD0⟩, hE⟩ := hv
  have hx := B.exec
  have hb := B.bytes
  have hr := B.returns
  have hts := atoms_spec (ws := wsX3_reset) B.pre
  have hown : s.vm.findClass RX3 = some m.cls := findClass_of_methodNamed B.named
  have hlocks := B.notSynchronized
  subst hsz
  have hD := hD0.self (sz := s.heap.size)
  generalize hAe : va_A (mW hm q0 q1 q2 q3 q4 q5 q6 q7 q8 q9 cI cJ th nd fs ft mi ml fl gS gX gT gC gO fD gE sp fa) s.heap.size = A at hD hE ⊢
  have hA : ∀ q : Nat, s.heap.size ≤ q → A q := fun q h => by rw [← hAe]; exact Or.inr h
  have hS : va_S A s.heap s.heap [] := va_S.rf
  have hP : va_P D vwCl [(hm, .inr (3, [.int th, .int (nI nd), .ref q0, .ref q1, .int (nI mi), .int (nI ml), .ref q2, .ref q3, .ref q4, .ref q5, .ref q6, .ref q7, .ref q8, .ref q9, .int (nI sp), .int fa])), (q0, .inl (cI, 401, .inl fs)), (q1, .inl (cJ, 25664, .inr (.inl ft))), (q2, .inl (cI, 4, .inl fl)), (q3, .inl (cI, 8, .inl (fun j => nI (gS j)))), (q4, .inl (cI, 8, .inl (fun j => nI (gX j)))), (q5, .inl (cI, 8, .inl (fun j => nI (gT j)))), (q6, .inl (cI, 2, .inl (fun j => nI (gC j)))), (q7, .inl (cI, 32, .inl (fun j => nI (gO j)))), (q8, .inl (cI, 32, .inl fD)), (q9, .inl (cI, 2, .inl (fun j => nI (gE j))))] s.heap := hP
  have hD : va_D A [(hm, .inr (3, [.int th, .int (nI nd), .ref q0, .ref q1, .int (nI mi), .int (nI ml), .ref q2, .ref q3, .ref q4, .ref q5, .ref q6, .ref q7, .ref q8, .ref q9, .int (nI sp), .int fa])), (q0, .inl (cI, 401, .inl fs)), (q1, .inl (cJ, 25664, .inr (.inl ft))), (q2, .inl (cI, 4, .inl fl)), (q3, .inl (cI, 8, .inl (fun j => nI (gS j)))), (q4, .inl (cI, 8, .inl (fun j => nI (gX j)))), (q5, .inl (cI, 8, .inl (fun j => nI (gT j)))), (q6, .inl (cI, 2, .inl (fun j => nI (gC j)))), (q7, .inl (cI, 32, .inl (fun j => nI (gO j)))), (q8, .inl (cI, 32, .inl fD)), (q9, .inl (cI, 2, .inl (fun j => nI (gE j))))] := hD
  have hl := lv_entry ([.ref hm]) (n := 1) (Nat.le_of_ble_eq_true rfl)
  rw [lg_entry_eq]
  generalize (lg_sl ([.ref hm]) ++ List.replicate (1 - (lg_sl ([.ref hm])).length) Slot.unset).toArray = ls at hl ⊢
  have hl : lv_has ls 1 [(0, .ref hm)] := hl
  have hin3 : ∀ w ∈ wsX30, w ∈ wsX3_reset := by decide +kernel
  have kf44 := hts (.fieldLink RX3 44 "SweepEqualModel" "thrown" "I") (by decide +kernel)
  refine lv_aload_n hx hb dX3_reset_0 rfl (lv_at hl 0 rfl) ?_
  refine lv_iconst (v := nI 0) hx hb dX3_reset_1 (by decide) ?_
  refine va_put (D := D) (ci := 3) (v := .int (nI 0)) (ty := .int) (C := RX3) (T := TX3) (N := 16) hx hb hts hin3 tyX3 tyX3_ok nmX3 hown hK hP hD hS 0 rfl rfl 0 (by decide) kf44 (fun _ h9 => h9) rfl (by decide +kernel) rfl rfl (Nat.le_of_ble_eq_true rfl) dX3_reset_2 (fun H locs hP hD hS => ?_)
  have hP : va_P D vwCl [(hm, .inr (3, [.int (nI 0), .int (nI nd), .ref q0, .ref q1, .int (nI mi), .int (nI ml), .ref q2, .ref q3, .ref q4, .ref q5, .ref q6, .ref q7, .ref q8, .ref q9, .int (nI sp), .int fa])), (q0, .inl (cI, 401, .inl fs)), (q1, .inl (cJ, 25664, .inr (.inl ft))), (q2, .inl (cI, 4, .inl fl)), (q3, .inl (cI, 8, .inl (fun j => nI (gS j)))), (q4, .inl (cI, 8, .inl (fun j => nI (gX j)))), (q5, .inl (cI, 8, .inl (fun j => nI (gT j)))), (q6, .inl (cI, 2, .inl (fun j => nI (gC j)))), (q7, .inl (cI, 32, .inl (fun j => nI (gO j)))), (q8, .inl (cI, 32, .inl fD)), (q9, .inl (cI, 2, .inl (fun j => nI (gE j))))] H := hP
  have hD : va_D A [(hm, .inr (3, [.int (nI 0), .int (nI nd), .ref q0, .ref q1, .int (nI mi), .int (nI ml), .ref q2, .ref q3, .ref q4, .ref q5, .ref q6, .ref q7, .ref q8, .ref q9, .int (nI sp), .int fa])), (q0, .inl (cI, 401, .inl fs)), (q1, .inl (cJ, 25664, .inr (.inl ft))), (q2, .inl (cI, 4, .inl fl)), (q3, .inl (cI, 8, .inl (fun j => nI (gS j)))), (q4, .inl (cI, 8, .inl (fun j => nI (gX j)))), (q5, .inl (cI, 8, .inl (fun j => nI (gT j)))), (q6, .inl (cI, 2, .inl (fun j => nI (gC j)))), (q7, .inl (cI, 32, .inl (fun j => nI (gO j)))), (q8, .inl (cI, 32, .inl fD)), (q9, .inl (cI, 2, .inl (fun j => nI (gE j))))] := hD
  refine lv_aload_n hx hb dX3_reset_5 rfl (lv_at hl 0 rfl) ?_
  refine wr_V (As := []) (rest := []) (wc := [(hm, .inr (3, [.int (nI 0), .int (nI nd), .ref q0, .ref q1, .int (nI mi), .int (nI ml), .ref q2, .ref q3, .ref q4, .ref q5, .ref q6, .ref q7, .ref q8, .ref q9, .int (nI sp), .int fa])), (q0, .inl (cI, 401, .inl fs)), (q1, .inl (cJ, 25664, .inr (.inl ft))), (q2, .inl (cI, 4, .inl fl)), (q3, .inl (cI, 8, .inl (fun j => nI (gS j)))), (q4, .inl (cI, 8, .inl (fun j => nI (gX j)))), (q5, .inl (cI, 8, .inl (fun j => nI (gT j)))), (q6, .inl (cI, 2, .inl (fun j => nI (gC j)))), (q7, .inl (cI, 32, .inl (fun j => nI (gO j)))), (q8, .inl (cI, 32, .inl fD)), (q9, .inl (cI, 2, .inl (fun j => nI (gE j))))]) (wr := []) (ci := 3) (q0 := 0) ⟨hx, hb, hml, hown, hts⟩ (w_X3_start l D cI cJ tp hm q0 q1 q2 q3 q4 q5 q6 q7 q8 q9 (nI 0) nd fs ft mi ml fl gS gX gT gC gO fD gE sp fa _) (cwV 0 hts gX3_reset_X3_start rfl rfl rfl (by decide +kernel) ⟨Nat.le_of_ble_eq_true rfl, Nat.le_of_ble_eq_true rfl⟩) rfl rfl rfl hl.1 rfl (Nat.le_of_ble_eq_true rfl) dX3_reset_6 ⟨by show _ ≤ _; simp only [headSpec]; omega, by show _ ≤ _; simp only [headSpec]; omega⟩ hK hP hD hS hA hE [0, 1, 2, 3, 4, 5, 6, 7, 8, 9, 10] [] rfl rfl (by decide) (by decide) (by decide) (fun _u H locs _hu hP hD hS => ?_)
  have hP : va_P D vwCl [(hm, .inr (3, [.int (nI 0), .int (nI nd), .ref q0, .ref q1, .int (nI mi), .int (nI ml), .ref q2, .ref q3, .ref q4, .ref q5, .ref q6, .ref q7, .ref q8, .ref q9, .int (nI 0), .int (-1)])), (q0, .inl (cI, 401, .inl fs)), (q1, .inl (cJ, 25664, .inr (.inl ft))), (q2, .inl (cI, 4, .inl fl)), (q3, .inl (cI, 8, .inl (fun j => nI (gS j)))), (q4, .inl (cI, 8, .inl (fun j => nI (gX j)))), (q5, .inl (cI, 8, .inl (fun j => nI ((cpF gS gT 8) j)))), (q6, .inl (cI, 2, .inl (fun j => nI (gC j)))), (q7, .inl (cI, 32, .inl (fun j => nI (gO j)))), (q8, .inl (cI, 32, .inl fD)), (q9, .inl (cI, 2, .inl (fun j => nI ((va_up (va_up gE 0 0) 1 0) j))))] H := hP
  have hD : va_D A [(hm, .inr (3, [.int (nI 0), .int (nI nd), .ref q0, .ref q1, .int (nI mi), .int (nI ml), .ref q2, .ref q3, .ref q4, .ref q5, .ref q6, .ref q7, .ref q8, .ref q9, .int (nI 0), .int (-1)])), (q0, .inl (cI, 401, .inl fs)), (q1, .inl (cJ, 25664, .inr (.inl ft))), (q2, .inl (cI, 4, .inl fl)), (q3, .inl (cI, 8, .inl (fun j => nI (gS j)))), (q4, .inl (cI, 8, .inl (fun j => nI (gX j)))), (q5, .inl (cI, 8, .inl (fun j => nI ((cpF gS gT 8) j)))), (q6, .inl (cI, 2, .inl (fun j => nI (gC j)))), (q7, .inl (cI, 32, .inl (fun j => nI (gO j)))), (q8, .inl (cI, 32, .inl fD)), (q9, .inl (cI, 2, .inl (fun j => nI ((va_up (va_up gE 0 0) 1 0) j))))] := hD
  have hP := hP.sub (ws' := [(hm, .inr (3, [.int (nI 0), .int (nI nd), .ref q0, .ref q1, .int (nI mi), .int (nI ml), .ref q2, .ref q3, .ref q4, .ref q5, .ref q6, .ref q7, .ref q8, .ref q9, .int (nI 0), .int (-1)])), (q0, .inl (cI, 401, .inl fs)), (q1, .inl (cJ, 25664, .inr (.inl ft))), (q2, .inl (cI, 4, .inl fl)), (q3, .inl (cI, 8, .inl (fun j => nI (gS j)))), (q4, .inl (cI, 8, .inl (fun j => nI (gX j)))), (q5, .inl (cI, 8, .inl (fun j => nI ((cpF gS gT 8) j)))), (q6, .inl (cI, 2, .inl (fun j => nI (gC j)))), (q7, .inl (cI, 32, .inl (fun j => nI (gO j)))), (q8, .inl (cI, 32, .inl fD)), (q9, .inl (cI, 2, .inl (fun j => nI ((va_up (va_up gE 0 0) 1 0) j))))]) [0, 1, 2, 3, 4, 5, 6, 7, 8, 9, 10] rfl
  have hD := hD.sub (ws' := [(hm, .inr (3, [.int (nI 0), .int (nI nd), .ref q0, .ref q1, .int (nI mi), .int (nI ml), .ref q2, .ref q3, .ref q4, .ref q5, .ref q6, .ref q7, .ref q8, .ref q9, .int (nI 0), .int (-1)])), (q0, .inl (cI, 401, .inl fs)), (q1, .inl (cJ, 25664, .inr (.inl ft))), (q2, .inl (cI, 4, .inl fl)), (q3, .inl (cI, 8, .inl (fun j => nI (gS j)))), (q4, .inl (cI, 8, .inl (fun j => nI (gX j)))), (q5, .inl (cI, 8, .inl (fun j => nI ((cpF gS gT 8) j)))), (q6, .inl (cI, 2, .inl (fun j => nI (gC j)))), (q7, .inl (cI, 32, .inl (fun j => nI (gO j)))), (q8, .inl (cI, 32, .inl fD)), (q9, .inl (cI, 2, .inl (fun j => nI ((va_up (va_up gE 0 0) 1 0) j))))]) [0, 1, 2, 3, 4, 5, 6, 7, 8, 9, 10] (by decide) rfl
  refine W.widen (k := 0) (n := 0) (by omega) (by omega) ?_
  refine W.eq (g2 := F0 m 9 ls []) rfl ?_
  exact wr_v (()) hx hb hr hlocks hP hD hS dX3_reset_9 (rfl) (trivial)
set_option maxHeartbeats 4000000 in
set_option maxRecDepth 100000 in
/-- apart -/
theorem w_X3_apart  (sz : Nat) : Met l yX3_apart wsX3_apart { frames := 0, cells := 0, slots := 0, locals := 0 } (wr_P D [(cI, .int), (cJ, .long)] (mW hm q0 q1 q2 q3 q4 q5 q6 q7 q8 q9 cI cJ th nd fs ft mi ml fl gS gX gT gC gO fD gE sp fa) sz tp [.ref hm]) (wx (Su := Unit) D [(cI, .int), (cJ, .long)] (va_A (mW hm q0 q1 q2 q3 q4 q5 q6 q7 q8 q9 cI cJ th nd fs ft mi ml fl gS gX gT gC gO fD gE sp fa) sz) (fun _ => some (.int fa)) (fun _ => True) (fun _ => mW hm q0 q1 q2 q3 q4 q5 q6 q7 q8 q9 cI cJ (nI 0) nd fs ft mi ml fl gS gX gT gC gO fD gE sp fa)) 0 0 (va_A (mW hm q0 q1 q2 q3 q4 q5 q6 q7 q8 q9 cI cJ th nd fs ft mi ml fl gS gX gT gC gO fD gE sp fa) sz) := by
  refine Met.ofW (cc := cX3_apart) (maxL := 1) (ret := (some .int)) (by decide) rfl ?_
  intro p e s m args below meth c s₁ B hml hv
  obtain ⟨rfl, hsz, ⟨hP, hK, hD0⟩, hE⟩ := hv
  have hx := B.exec
  have hb := B.bytes
  have hr := B.returns
  have hts := atoms_spec (ws := wsX3_apart) B.pre
  have hown : s.vm.findClass RX3 = some m.cls := findClass_of_methodNamed B.named
  have hlocks := B.notSynchronized
  subst hsz
  have hD := hD0.self (sz := s.heap.size)
  generalize hAe : va_A (mW hm q0 q1 q2 q3 q4 q5 q6 q7 q8 q9 cI cJ th nd fs ft mi ml fl gS gX gT gC gO fD gE sp fa) s.heap.size = A at hD hE ⊢
  have hA : ∀ q : Nat, s.heap.size ≤ q → A q := fun q h => by rw [← hAe]; exact Or.inr h
  have hS : va_S A s.heap s.heap [] := va_S.rf
  have hP : va_P D vwCl [(hm, .inr (3, [.int th, .int (nI nd), .ref q0, .ref q1, .int (nI mi), .int (nI ml), .ref q2, .ref q3, .ref q4, .ref q5, .ref q6, .ref q7, .ref q8, .ref q9, .int (nI sp), .int fa])), (q0, .inl (cI, 401, .inl fs)), (q1, .inl (cJ, 25664, .inr (.inl ft))), (q2, .inl (cI, 4, .inl fl)), (q3, .inl (cI, 8, .inl (fun j => nI (gS j)))), (q4, .inl (cI, 8, .inl (fun j => nI (gX j)))), (q5, .inl (cI, 8, .inl (fun j => nI (gT j)))), (q6, .inl (cI, 2, .inl (fun j => nI (gC j)))), (q7, .inl (cI, 32, .inl (fun j => nI (gO j)))), (q8, .inl (cI, 32, .inl fD)), (q9, .inl (cI, 2, .inl (fun j => nI (gE j))))] s.heap := hP
  have hD : va_D A [(hm, .inr (3, [.int th, .int (nI nd), .ref q0, .ref q1, .int (nI mi), .int (nI ml), .ref q2, .ref q3, .ref q4, .ref q5, .ref q6, .ref q7, .ref q8, .ref q9, .int (nI sp), .int fa])), (q0, .inl (cI, 401, .inl fs)), (q1, .inl (cJ, 25664, .inr (.inl ft))), (q2, .inl (cI, 4, .inl fl)), (q3, .inl (cI, 8, .inl (fun j => nI (gS j)))), (q4, .inl (cI, 8, .inl (fun j => nI (gX j)))), (q5, .inl (cI, 8, .inl (fun j => nI (gT j)))), (q6, .inl (cI, 2, .inl (fun j => nI (gC j)))), (q7, .inl (cI, 32, .inl (fun j => nI (gO j)))), (q8, .inl (cI, 32, .inl fD)), (q9, .inl (cI, 2, .inl (fun j => nI (gE j))))] := hD
  have hl := lv_entry ([.ref hm]) (n := 1) (Nat.le_of_ble_eq_true rfl)
  rw [lg_entry_eq]
  generalize (lg_sl ([.ref hm]) ++ List.replicate (1 - (lg_sl ([.ref hm])).length) Slot.unset).toArray = ls at hl ⊢
  have hl : lv_has ls 1 [(0, .ref hm)] := hl
  have hin3 : ∀ w ∈ wsX30, w ∈ wsX3_apart := by decide +kernel
  have kf44 := hts (.fieldLink RX3 44 "SweepEqualModel" "thrown" "I") (by decide +kernel)
  have kf106 := hts (.fieldLink RX3 106 "SweepEqualModel" "firstApart" "I") (by decide +kernel)
  refine lv_aload_n hx hb dX3_apart_0 rfl (lv_at hl 0 rfl) ?_
  refine lv_iconst (v := nI 0) hx hb dX3_apart_1 (by decide) ?_
  refine va_put (D := D) (ci := 3) (v := .int (nI 0)) (ty := .int) (C := RX3) (T := TX3) (N := 16) hx hb hts hin3 tyX3 tyX3_ok nmX3 hown hK hP hD hS 0 rfl rfl 0 (by decide) kf44 (fun _ h9 => h9) rfl (by decide +kernel) rfl rfl (Nat.le_of_ble_eq_true rfl) dX3_apart_2 (fun H locs hP hD hS => ?_)
  have hP : va_P D vwCl [(hm, .inr (3, [.int (nI 0), .int (nI nd), .ref q0, .ref q1, .int (nI mi), .int (nI ml), .ref q2, .ref q3, .ref q4, .ref q5, .ref q6, .ref q7, .ref q8, .ref q9, .int (nI sp), .int fa])), (q0, .inl (cI, 401, .inl fs)), (q1, .inl (cJ, 25664, .inr (.inl ft))), (q2, .inl (cI, 4, .inl fl)), (q3, .inl (cI, 8, .inl (fun j => nI (gS j)))), (q4, .inl (cI, 8, .inl (fun j => nI (gX j)))), (q5, .inl (cI, 8, .inl (fun j => nI (gT j)))), (q6, .inl (cI, 2, .inl (fun j => nI (gC j)))), (q7, .inl (cI, 32, .inl (fun j => nI (gO j)))), (q8, .inl (cI, 32, .inl fD)), (q9, .inl (cI, 2, .inl (fun j => nI (gE j))))] H := hP
  have hD : va_D A [(hm, .inr (3, [.int (nI 0), .int (nI nd), .ref q0, .ref q1, .int (nI mi), .int (nI ml), .ref q2, .ref q3, .ref q4, .ref q5, .ref q6, .ref q7, .ref q8, .ref q9, .int (nI sp), .int fa])), (q0, .inl (cI, 401, .inl fs)), (q1, .inl (cJ, 25664, .inr (.inl ft))), (q2, .inl (cI, 4, .inl fl)), (q3, .inl (cI, 8, .inl (fun j => nI (gS j)))), (q4, .inl (cI, 8, .inl (fun j => nI (gX j)))), (q5, .inl (cI, 8, .inl (fun j => nI (gT j)))), (q6, .inl (cI, 2, .inl (fun j => nI (gC j)))), (q7, .inl (cI, 32, .inl (fun j => nI (gO j)))), (q8, .inl (cI, 32, .inl fD)), (q9, .inl (cI, 2, .inl (fun j => nI (gE j))))] := hD
  refine lv_aload_n hx hb dX3_apart_5 rfl (lv_at hl 0 rfl) ?_
  refine va_get (D := D) (ci := 3) (v := .int fa) (C := RX3) (T := TX3) (N := 16) hx hb hts hin3 hown hK hP 0 rfl rfl 15 (by decide) kf106 (fun _ h9 => h9) rfl dX3_apart_6 ?_
  exact wr_i (()) hx hb hr hlocks hP hD hS dX3_apart_9 (rfl) (trivial)
set_option maxHeartbeats 4000000 in
set_option maxRecDepth 100000 in
/-- a variable more -/
theorem w_X3_variable (pl : Nat) (hpl : pl < 12) (hnd : nd ≤ 400) (sz : Nat) : Met l yX3_variable wsX3_variable { frames := 0, cells := 0, slots := 0, locals := 0 } (wr_P D [(cI, .int), (cJ, .long)] (mW hm q0 q1 q2 q3 q4 q5 q6 q7 q8 q9 cI cJ th nd fs ft mi ml fl gS gX gT gC gO fD gE sp fa) sz tp [.ref hm, .int (nI pl)]) (wx (Su := Unit) D [(cI, .int), (cJ, .long)] (va_A (mW hm q0 q1 q2 q3 q4 q5 q6 q7 q8 q9 cI cJ th nd fs ft mi ml fl gS gX gT gC gO fD gE sp fa) sz) (fun _ => some (.int (nI (2 * nd)))) (fun _ => True) (fun _ => mW hm q0 q1 q2 q3 q4 q5 q6 q7 q8 q9 cI cJ th (nd + 1) (upd fs nd (-1)) (rwF ft nd (vwF pl) 64) mi ml fl gS gX gT gC gO fD gE sp fa)) 0 0 (va_A (mW hm q0 q1 q2 q3 q4 q5 q6 q7 q8 q9 cI cJ th nd fs ft mi ml fl gS gX gT gC gO fD gE sp fa) sz) := by
  refine Met.ofW (cc := cX3_variable) (maxL := 3) (ret := (some .int)) (by decide) rfl ?_
  intro p e s m args below meth c s₁ B hml hv
  obtain ⟨rfl, hsz, ⟨hP, hK, hD0⟩, hE⟩ := hv
  have hx := B.exec
  have hb := B.bytes
  have hr := B.returns
  have hts := atoms_spec (ws := wsX3_variable) B.pre
  have hown : s.vm.findClass RX3 = some m.cls := findClass_of_methodNamed B.named
  have hlocks := B.notSynchronized
  subst hsz
  have hD := hD0.self (sz := s.heap.size)
  generalize hAe : va_A (mW hm q0 q1 q2 q3 q4 q5 q6 q7 q8 q9 cI cJ th nd fs ft mi ml fl gS gX gT gC gO fD gE sp fa) s.heap.size = A at hD hE ⊢
  have hA : ∀ q : Nat, s.heap.size ≤ q → A q := fun q h => by rw [← hAe]; exact Or.inr h
  have hS : va_S A s.heap s.heap [] := va_S.rf
  have hP : va_P D vwCl [(hm, .inr (3, [.int th, .int (nI nd), .ref q0, .ref q1, .int (nI mi), .int (nI ml), .ref q2, .ref q3, .ref q4, .ref q5, .ref q6, .ref q7, .ref q8, .ref q9, .int (nI sp), .int fa])), (q0, .inl (cI, 401, .inl fs)), (q1, .inl (cJ, 25664, .inr (.inl ft))), (q2, .inl (cI, 4, .inl fl)), (q3, .inl (cI, 8, .inl (fun j => nI (gS j)))), (q4, .inl (cI, 8, .inl (fun j => nI (gX j)))), (q5, .inl (cI, 8, .inl (fun j => nI (gT j)))), (q6, .inl (cI, 2, .inl (fun j => nI (gC j)))), (q7, .inl (cI, 32, .inl (fun j => nI (gO j)))), (q8, .inl (cI, 32, .inl fD)), (q9, .inl (cI, 2, .inl (fun j => nI (gE j))))] s.heap := hP
  have hD : va_D A [(hm, .inr (3, [.int th, .int (nI nd), .ref q0, .ref q1, .int (nI mi), .int (nI ml), .ref q2, .ref q3, .ref q4, .ref q5, .ref q6, .ref q7, .ref q8, .ref q9, .int (nI sp), .int fa])), (q0, .inl (cI, 401, .inl fs)), (q1, .inl (cJ, 25664, .inr (.inl ft))), (q2, .inl (cI, 4, .inl fl)), (q3, .inl (cI, 8, .inl (fun j => nI (gS j)))), (q4, .inl (cI, 8, .inl (fun j => nI (gX j)))), (q5, .inl (cI, 8, .inl (fun j => nI (gT j)))), (q6, .inl (cI, 2, .inl (fun j => nI (gC j)))), (q7, .inl (cI, 32, .inl (fun j => nI (gO j)))), (q8, .inl (cI, 32, .inl fD)), (q9, .inl (cI, 2, .inl (fun j => nI (gE j))))] := hD
  have hl := lv_entry ([.ref hm, .int (nI pl)]) (n := 3) (Nat.le_of_ble_eq_true rfl)
  rw [lg_entry_eq]
  generalize (lg_sl ([.ref hm, .int (nI pl)]) ++ List.replicate (3 - (lg_sl ([.ref hm, .int (nI pl)])).length) Slot.unset).toArray = ls at hl ⊢
  have hl : lv_has ls 3 [(0, .ref hm), (1, .int (nI pl))] := hl
  have hin3 : ∀ w ∈ wsX30, w ∈ wsX3_variable := by decide +kernel
  have kf13 := hts (.fieldLink RX3 13 "SweepEqualModel" "tables" "[J") (by decide +kernel)
  have kf48 := hts (.fieldLink RX3 48 "SweepEqualModel" "nodes" "I") (by decide +kernel)
  have kf7 := hts (.fieldLink RX3 7 "SweepEqualModel" "sides" "[I") (by decide +kernel)
  refine lv_iconst (v := nI 0) hx hb dX3_variable_0 (by decide) ?_
  refine lv_istore_n (lv' := [(2, .int (nI 0)), (0, .ref hm), (1, .int (nI pl))]) hx hb dX3_variable_1 rfl hl (by decide) rfl (fun ls hl => ?_)
  have loop : ∀ (n : Nat) (i : Nat), i ≤ 64 → 64 - i < n → ∀ (H : Heap) (locs : List Loc) (ls : Array Slot), va_P D vwCl [(hm, .inr (3, [.int th, .int (nI nd), .ref q0, .ref q1, .int (nI mi), .int (nI ml), .ref q2, .ref q3, .ref q4, .ref q5, .ref q6, .ref q7, .ref q8, .ref q9, .int (nI sp), .int fa])), (q0, .inl (cI, 401, .inl fs)), (q1, .inl (cJ, 25664, .inr (.inl (rwF ft nd (fun _ => 0) i)))), (q2, .inl (cI, 4, .inl fl)), (q3, .inl (cI, 8, .inl (fun j => nI (gS j)))), (q4, .inl (cI, 8, .inl (fun j => nI (gX j)))), (q5, .inl (cI, 8, .inl (fun j => nI (gT j)))), (q6, .inl (cI, 2, .inl (fun j => nI (gC j)))), (q7, .inl (cI, 32, .inl (fun j => nI (gO j)))), (q8, .inl (cI, 32, .inl fD)), (q9, .inl (cI, 2, .inl (fun j => nI (gE j))))] H → va_D A [(hm, .inr (3, [.int th, .int (nI nd), .ref q0, .ref q1, .int (nI mi), .int (nI ml), .ref q2, .ref q3, .ref q4, .ref q5, .ref q6, .ref q7, .ref q8, .ref q9, .int (nI sp), .int fa])), (q0, .inl (cI, 401, .inl fs)), (q1, .inl (cJ, 25664, .inr (.inl (rwF ft nd (fun _ => 0) i)))), (q2, .inl (cI, 4, .inl fl)), (q3, .inl (cI, 8, .inl (fun j => nI (gS j)))), (q4, .inl (cI, 8, .inl (fun j => nI (gX j)))), (q5, .inl (cI, 8, .inl (fun j => nI (gT j)))), (q6, .inl (cI, 2, .inl (fun j => nI (gC j)))), (q7, .inl (cI, 32, .inl (fun j => nI (gO j)))), (q8, .inl (cI, 32, .inl fD)), (q9, .inl (cI, 2, .inl (fun j => nI (gE j))))] → va_S A s.heap H locs → lv_has ls 3 [(2, .int (nI i)), (0, .ref hm), (1, .int (nI pl))] → W p l e (headSpec wsX3_variable { frames := 0, cells := 0, slots := 0, locals := 0 }).room s m ([.ref hm, .int (nI pl)] : List Value).toArray below meth c H locs 0 0 (MQ below (wx (Su := Unit) D [(cI, .int), (cJ, .long)] A (fun _ => some (.int (nI (2 * nd)))) (fun _ => True) (fun _ => mW hm q0 q1 q2 q3 q4 q5 q6 q7 q8 q9 cI cJ th (nd + 1) (upd fs nd (-1)) (rwF ft nd (vwF pl) 64) mi ml fl gS gX gT gC gO fD gE sp fa)) ([.ref hm, .int (nI pl)] : List Value).toArray s 0 0 A) (F0 m 2 ls []) := by
    intro n
    induction n with
    | zero => intro i hi hM; exact absurd hM (Nat.not_lt_zero _)
    | succ n ih =>
      intro i hi hM H locs ls hP hD hS hl
      refine lv_iload_n hx hb dX3_variable_2 rfl (lv_at hl 0 rfl) ?_
      refine lv_bipush (v := nI 64) hx hb dX3_variable_3 (by decide) ?_
      refine lv_icmp_ge (tgt := 29) hx hb dX3_variable_5 (by decide) (fun c1 => ?_) (fun c1 => ?_)
      · have c1 : 64 ≤ i := (nI_leI (by omega) (by omega)).mp c1
        have hi2 : i = 64 := by omega
        rw [hi2] at hP hD
        refine lv_iconst (v := nI 0) hx hb dX3_variable_29 (by decide) ?_
        refine lv_istore_n (lv' := [(2, .int (nI 0)), (0, .ref hm), (1, .int (nI pl))]) hx hb dX3_variable_30 rfl hl (by decide) rfl (fun ls hl => ?_)
        have loop2 : ∀ (n : Nat) (a : Nat), a ≤ 4096 → 4096 - a < n → ∀ (H : Heap) (locs : List Loc) (ls : Array Slot), va_P D vwCl [(hm, .inr (3, [.int th, .int (nI nd), .ref q0, .ref q1, .int (nI mi), .int (nI ml), .ref q2, .ref q3, .ref q4, .ref q5, .ref q6, .ref q7, .ref q8, .ref q9, .int (nI sp), .int fa])), (q0, .inl (cI, 401, .inl fs)), (q1, .inl (cJ, 25664, .inr (.inl (rwF ft nd (vpF pl a) 64)))), (q2, .inl (cI, 4, .inl fl)), (q3, .inl (cI, 8, .inl (fun j => nI (gS j)))), (q4, .inl (cI, 8, .inl (fun j => nI (gX j)))), (q5, .inl (cI, 8, .inl (fun j => nI (gT j)))), (q6, .inl (cI, 2, .inl (fun j => nI (gC j)))), (q7, .inl (cI, 32, .inl (fun j => nI (gO j)))), (q8, .inl (cI, 32, .inl fD)), (q9, .inl (cI, 2, .inl (fun j => nI (gE j))))] H → va_D A [(hm, .inr (3, [.int th, .int (nI nd), .ref q0, .ref q1, .int (nI mi), .int (nI ml), .ref q2, .ref q3, .ref q4, .ref q5, .ref q6, .ref q7, .ref q8, .ref q9, .int (nI sp), .int fa])), (q0, .inl (cI, 401, .inl fs)), (q1, .inl (cJ, 25664, .inr (.inl (rwF ft nd (vpF pl a) 64)))), (q2, .inl (cI, 4, .inl fl)), (q3, .inl (cI, 8, .inl (fun j => nI (gS j)))), (q4, .inl (cI, 8, .inl (fun j => nI (gX j)))), (q5, .inl (cI, 8, .inl (fun j => nI (gT j)))), (q6, .inl (cI, 2, .inl (fun j => nI (gC j)))), (q7, .inl (cI, 32, .inl (fun j => nI (gO j)))), (q8, .inl (cI, 32, .inl fD)), (q9, .inl (cI, 2, .inl (fun j => nI (gE j))))] → va_S A s.heap H locs → lv_has ls 3 [(2, .int (nI a)), (0, .ref hm), (1, .int (nI pl))] → W p l e (headSpec wsX3_variable { frames := 0, cells := 0, slots := 0, locals := 0 }).room s m ([.ref hm, .int (nI pl)] : List Value).toArray below meth c H locs 0 0 (MQ below (wx (Su := Unit) D [(cI, .int), (cJ, .long)] A (fun _ => some (.int (nI (2 * nd)))) (fun _ => True) (fun _ => mW hm q0 q1 q2 q3 q4 q5 q6 q7 q8 q9 cI cJ th (nd + 1) (upd fs nd (-1)) (rwF ft nd (vwF pl) 64) mi ml fl gS gX gT gC gO fD gE sp fa)) ([.ref hm, .int (nI pl)] : List Value).toArray s 0 0 A) (F0 m 31 ls []) := by
          intro n
          induction n with
          | zero => intro a ha hM; exact absurd hM (Nat.not_lt_zero _)
          | succ n ih =>
            intro a ha hM H locs ls hP hD hS hl
            have hq : a / 2 ^ pl ≤ a := Nat.div_le_self _ _
            refine lv_iload_n hx hb dX3_variable_31 rfl (lv_at hl 0 rfl) ?_
            refine lv_sipush (v := nI 4096) hx hb dX3_variable_32 (by decide) ?_
            refine lv_icmp_ge (tgt := 79) hx hb dX3_variable_35 (by decide) (fun c2 => ?_) (fun c2 => ?_)
            · have c2 : 4096 ≤ a := (nI_leI (by omega) (by omega)).mp c2
              have ha2 : a = 4096 := by omega
              rw [ha2, rw_va hpl] at hP hD
              refine lv_aload_n hx hb dX3_variable_79 rfl (lv_at hl 1 rfl) ?_
              refine va_get (D := D) (ci := 3) (v := .ref q0) (C := RX3) (T := TX3) (N := 16) hx hb hts hin3 hown hK hP 0 rfl rfl 2 (by decide) kf7 (fun _ h9 => h9) rfl dX3_variable_80 ?_
              refine lv_aload_n hx hb dX3_variable_83 rfl (lv_at hl 1 rfl) ?_
              refine va_get (D := D) (ci := 3) (v := .int (nI nd)) (C := RX3) (T := TX3) (N := 16) hx hb hts hin3 hown hK hP 0 rfl rfl 1 (by decide) kf48 (fun _ h9 => h9) rfl dX3_variable_84 ?_
              refine lv_iconst (v := -1) hx hb dX3_variable_87 (by decide) ?_
              refine va_iast hx hb hK hP hD hS 1 0 rfl rfl (vp_in_nI (by omega) (by omega)) dX3_variable_88 (fun H locs hP hD hS => ?_)
              have hP : va_P D vwCl [(hm, .inr (3, [.int th, .int (nI nd), .ref q0, .ref q1, .int (nI mi), .int (nI ml), .ref q2, .ref q3, .ref q4, .ref q5, .ref q6, .ref q7, .ref q8, .ref q9, .int (nI sp), .int fa])), (q0, .inl (cI, 401, .inl (upd fs (nI nd).toNatClampNeg (-1)))), (q1, .inl (cJ, 25664, .inr (.inl (rwF ft nd (vwF pl) 64)))), (q2, .inl (cI, 4, .inl fl)), (q3, .inl (cI, 8, .inl (fun j => nI (gS j)))), (q4, .inl (cI, 8, .inl (fun j => nI (gX j)))), (q5, .inl (cI, 8, .inl (fun j => nI (gT j)))), (q6, .inl (cI, 2, .inl (fun j => nI (gC j)))), (q7, .inl (cI, 32, .inl (fun j => nI (gO j)))), (q8, .inl (cI, 32, .inl fD)), (q9, .inl (cI, 2, .inl (fun j => nI (gE j))))] H := hP
              have hD : va_D A [(hm, .inr (3, [.int th, .int (nI nd), .ref q0, .ref q1, .int (nI mi), .int (nI ml), .ref q2, .ref q3, .ref q4, .ref q5, .ref q6, .ref q7, .ref q8, .ref q9, .int (nI sp), .int fa])), (q0, .inl (cI, 401, .inl (upd fs (nI nd).toNatClampNeg (-1)))), (q1, .inl (cJ, 25664, .inr (.inl (rwF ft nd (vwF pl) 64)))), (q2, .inl (cI, 4, .inl fl)), (q3, .inl (cI, 8, .inl (fun j => nI (gS j)))), (q4, .inl (cI, 8, .inl (fun j => nI (gX j)))), (q5, .inl (cI, 8, .inl (fun j => nI (gT j)))), (q6, .inl (cI, 2, .inl (fun j => nI (gC j)))), (q7, .inl (cI, 32, .inl (fun j => nI (gO j)))), (q8, .inl (cI, 32, .inl fD)), (q9, .inl (cI, 2, .inl (fun j => nI (gE j))))] := hD
              rw [show upd fs (nI nd).toNatClampNeg (-1) = upd fs nd (-1) from upI _ (by omega)] at hP hD
              refine lv_aload_n hx hb dX3_variable_89 rfl (lv_at hl 1 rfl) ?_
              refine lv_dup hx hb dX3_variable_90 rfl ?_
              refine va_get (D := D) (ci := 3) (v := .int (nI nd)) (C := RX3) (T := TX3) (N := 16) hx hb hts hin3 hown hK hP 0 rfl rfl 1 (by decide) kf48 (fun _ h9 => h9) rfl dX3_variable_91 ?_
              refine lv_iconst (v := nI 1) hx hb dX3_variable_94 (by decide) ?_
              refine lv_iadd hx hb dX3_variable_95 ?_
              refine tp_i (show (nI nd) + (nI 1) = nI (nd + 1) from nI_add _ _) ?_
              refine va_put (D := D) (ci := 3) (v := .int (nI (nd + 1))) (ty := .int) (C := RX3) (T := TX3) (N := 16) hx hb hts hin3 tyX3 tyX3_ok nmX3 hown hK hP hD hS 0 rfl rfl 1 (by decide) kf48 (fun _ h9 => h9) rfl (by decide +kernel) rfl rfl (Nat.le_of_ble_eq_true rfl) dX3_variable_96 (fun H locs hP hD hS => ?_)
              have hP : va_P D vwCl [(hm, .inr (3, [.int th, .int (nI (nd + 1)), .ref q0, .ref q1, .int (nI mi), .int (nI ml), .ref q2, .ref q3, .ref q4, .ref q5, .ref q6, .ref q7, .ref q8, .ref q9, .int (nI sp), .int fa])), (q0, .inl (cI, 401, .inl (upd fs nd (-1)))), (q1, .inl (cJ, 25664, .inr (.inl (rwF ft nd (vwF pl) 64)))), (q2, .inl (cI, 4, .inl fl)), (q3, .inl (cI, 8, .inl (fun j => nI (gS j)))), (q4, .inl (cI, 8, .inl (fun j => nI (gX j)))), (q5, .inl (cI, 8, .inl (fun j => nI (gT j)))), (q6, .inl (cI, 2, .inl (fun j => nI (gC j)))), (q7, .inl (cI, 32, .inl (fun j => nI (gO j)))), (q8, .inl (cI, 32, .inl fD)), (q9, .inl (cI, 2, .inl (fun j => nI (gE j))))] H := hP
              have hD : va_D A [(hm, .inr (3, [.int th, .int (nI (nd + 1)), .ref q0, .ref q1, .int (nI mi), .int (nI ml), .ref q2, .ref q3, .ref q4, .ref q5, .ref q6, .ref q7, .ref q8, .ref q9, .int (nI sp), .int fa])), (q0, .inl (cI, 401, .inl (upd fs nd (-1)))), (q1, .inl (cJ, 25664, .inr (.inl (rwF ft nd (vwF pl) 64)))), (q2, .inl (cI, 4, .inl fl)), (q3, .inl (cI, 8, .inl (fun j => nI (gS j)))), (q4, .inl (cI, 8, .inl (fun j => nI (gX j)))), (q5, .inl (cI, 8, .inl (fun j => nI (gT j)))), (q6, .inl (cI, 2, .inl (fun j => nI (gC j)))), (q7, .inl (cI, 32, .inl (fun j => nI (gO j)))), (q8, .inl (cI, 32, .inl fD)), (q9, .inl (cI, 2, .inl (fun j => nI (gE j))))] := hD
              refine lv_iconst (v := nI 2) hx hb dX3_variable_99 (by decide) ?_
              refine lv_aload_n hx hb dX3_variable_100 rfl (lv_at hl 1 rfl) ?_
              refine va_get (D := D) (ci := 3) (v := .int (nI (nd + 1))) (C := RX3) (T := TX3) (N := 16) hx hb hts hin3 hown hK hP 0 rfl rfl 1 (by decide) kf48 (fun _ h9 => h9) rfl dX3_variable_101 ?_
              refine lv_imul hx hb dX3_variable_104 ?_
              refine tp_i (show (nI 2) * (nI (nd + 1)) = nI (2 * (nd + 1)) from pk_mul _ _) ?_
              refine lv_iconst (v := nI 2) hx hb dX3_variable_105 (by decide) ?_
              refine lv_isub hx hb dX3_variable_106 ?_
              refine tp_i (show (nI (2 * (nd + 1))) - (nI 2) = nI (2 * (nd + 1) - 2) from pk_sub (by omega)) ?_
              exact wr_i (()) hx hb hr hlocks hP hD hS dX3_variable_107 (by rw [show 2 * (nd + 1) - 2 = 2 * nd by omega]) (trivial)
            · have c2 : ¬ (4096 ≤ a) := fun h => c2 ((nI_leI (by omega) (by omega)).mpr h)
              refine lv_iload_n hx hb dX3_variable_38 rfl (lv_at hl 0 rfl) ?_
              refine lv_iload_n hx hb dX3_variable_39 rfl (lv_at hl 2 rfl) ?_
              refine lv_ishr hx hb dX3_variable_40 ?_
              refine tp_i (show (nI a) >>> ((nI pl) &&& 31) = nI (a / 2 ^ pl) from n_shr (by omega) (by omega)) ?_
              refine lv_iconst (v := nI 1) hx hb dX3_variable_41 (by decide) ?_
              refine lv_iand hx hb dX3_variable_42 ?_
              refine tp_i (show (nI (a / 2 ^ pl)) &&& (nI 1) = nI ((a / 2 ^ pl) % 2) from n_and1 (by omega)) ?_
              refine lv_iconst (v := nI 1) hx hb dX3_variable_43 (by decide) ?_
              refine lv_icmp_ne (tgt := 73) hx hb dX3_variable_44 (by decide) (fun c3 => ?_) (fun c3 => ?_)
              · have c3 : ¬ (a / 2 ^ pl) % 2 = 1 := fun h => c3 ((nI_eq (by omega) (by omega)).mpr h)
                refine lv_iinc (v := nI (a + 1)) (lv' := [(2, .int (nI (a + 1))), (0, .ref hm), (1, .int (nI pl))]) hx hb dX3_variable_73 hl (k := 0) rfl (nI_add a 1) (by decide) rfl (fun ls hl => ?_)
                refine lv_goto (tgt := 31) hx hb dX3_variable_76 (by decide) ?_
                exact ih (a + 1) (by omega) (by omega) _ _ ls (by rw [rw_vq c3]; exact hP) (by rw [rw_vq c3]; exact hD) hS (lv_sub hl [0, 1, 2] rfl)
              · have c3 : (a / 2 ^ pl) % 2 = 1 := (nI_eq (by omega) (by omega)).mp c3
                refine lv_aload_n hx hb dX3_variable_47 rfl (lv_at hl 1 rfl) ?_
                refine va_get (D := D) (ci := 3) (v := .ref q1) (C := RX3) (T := TX3) (N := 16) hx hb hts hin3 hown hK hP 0 rfl rfl 3 (by decide) kf13 (fun _ h9 => h9) rfl dX3_variable_48 ?_
                refine lv_bipush (v := nI 64) hx hb dX3_variable_51 (by decide) ?_
                refine lv_aload_n hx hb dX3_variable_53 rfl (lv_at hl 1 rfl) ?_
                refine va_get (D := D) (ci := 3) (v := .int (nI nd)) (C := RX3) (T := TX3) (N := 16) hx hb hts hin3 hown hK hP 0 rfl rfl 1 (by decide) kf48 (fun _ h9 => h9) rfl dX3_variable_54 ?_
                refine lv_imul hx hb dX3_variable_57 ?_
                refine tp_i (show (nI 64) * (nI nd) = nI (nd * 64) from n_mulc _ _) ?_
                refine lv_iload_n hx hb dX3_variable_58 rfl (lv_at hl 0 rfl) ?_
                refine lv_bipush (v := nI 6) hx hb dX3_variable_59 (by decide) ?_
                refine lv_ishr hx hb dX3_variable_61 ?_
                refine tp_i (show (nI a) >>> ((nI 6) &&& 31) = nI (a / 64) from n_shr (by omega) (by omega)) ?_
                refine lv_iadd hx hb dX3_variable_62 ?_
                refine tp_i (show (nI (nd * 64)) + (nI (a / 64)) = nI (nd * 64 + (a / 64)) from nI_add _ _) ?_
                refine lv_dup2_11 hx hb dX3_variable_63 rfl rfl ?_
                refine va_lald hx hb hK hP 2 1 rfl rfl (vp_in_nI (by omega) (by omega)) dX3_variable_64 ?_
                refine tp_l (show (rwF ft nd (vpF pl a) 64) (nI (nd * 64 + (a / 64))).toNatClampNeg = (rwF ft nd (vpF pl a) 64) (nd * 64 + (a / 64)) from congrArg (rwF ft nd (vpF pl a) 64) (nI_clamp (by omega))) ?_
                refine lv_lconst (v := 1) hx hb dX3_variable_65 (by decide) ?_
                refine lv_iload_n hx hb dX3_variable_66 rfl (lv_at hl 0 rfl) ?_
                refine lv_bipush (v := nI 63) hx hb dX3_variable_67 (by decide) ?_
                refine lv_iand hx hb dX3_variable_69 ?_
                refine tp_i (show (nI a) &&& (nI 63) = nI (a % 64) from n_and63 (by omega)) ?_
                refine lv_lshl (v := 1 <<< ((nI (a % 64)).toInt64 &&& 63)) hx hb dX3_variable_70 (rfl) ?_
                refine lv_lor hx hb dX3_variable_71 ?_
                refine va_last hx hb hK hP hD hS 2 1 rfl rfl (vp_in_nI (by omega) (by omega)) dX3_variable_72 (fun H locs hP hD hS => ?_)
                have hP : va_P D vwCl [(hm, .inr (3, [.int th, .int (nI nd), .ref q0, .ref q1, .int (nI mi), .int (nI ml), .ref q2, .ref q3, .ref q4, .ref q5, .ref q6, .ref q7, .ref q8, .ref q9, .int (nI sp), .int fa])), (q0, .inl (cI, 401, .inl fs)), (q1, .inl (cJ, 25664, .inr (.inl (vp_updL (rwF ft nd (vpF pl a) 64) (nI (nd * 64 + (a / 64))).toNatClampNeg (((rwF ft nd (vpF pl a) 64) (nd * 64 + (a / 64))) ||| (1 <<< ((nI (a % 64)).toInt64 &&& 63))))))), (q2, .inl (cI, 4, .inl fl)), (q3, .inl (cI, 8, .inl (fun j => nI (gS j)))), (q4, .inl (cI, 8, .inl (fun j => nI (gX j)))), (q5, .inl (cI, 8, .inl (fun j => nI (gT j)))), (q6, .inl (cI, 2, .inl (fun j => nI (gC j)))), (q7, .inl (cI, 32, .inl (fun j => nI (gO j)))), (q8, .inl (cI, 32, .inl fD)), (q9, .inl (cI, 2, .inl (fun j => nI (gE j))))] H := hP
                have hD : va_D A [(hm, .inr (3, [.int th, .int (nI nd), .ref q0, .ref q1, .int (nI mi), .int (nI ml), .ref q2, .ref q3, .ref q4, .ref q5, .ref q6, .ref q7, .ref q8, .ref q9, .int (nI sp), .int fa])), (q0, .inl (cI, 401, .inl fs)), (q1, .inl (cJ, 25664, .inr (.inl (vp_updL (rwF ft nd (vpF pl a) 64) (nI (nd * 64 + (a / 64))).toNatClampNeg (((rwF ft nd (vpF pl a) 64) (nd * 64 + (a / 64))) ||| (1 <<< ((nI (a % 64)).toInt64 &&& 63))))))), (q2, .inl (cI, 4, .inl fl)), (q3, .inl (cI, 8, .inl (fun j => nI (gS j)))), (q4, .inl (cI, 8, .inl (fun j => nI (gX j)))), (q5, .inl (cI, 8, .inl (fun j => nI (gT j)))), (q6, .inl (cI, 2, .inl (fun j => nI (gC j)))), (q7, .inl (cI, 32, .inl (fun j => nI (gO j)))), (q8, .inl (cI, 32, .inl fD)), (q9, .inl (cI, 2, .inl (fun j => nI (gE j))))] := hD
                rw [show vp_updL (rwF ft nd (vpF pl a) 64) (nI (nd * 64 + (a / 64))).toNatClampNeg (((rwF ft nd (vpF pl a) 64) (nd * 64 + (a / 64))) ||| (1 <<< ((nI (a % 64)).toInt64 &&& 63))) = rwF ft nd (vpF pl (a + 1)) 64 from rw_vp (by omega) (by omega) c3] at hP hD
                refine lv_iinc (v := nI (a + 1)) (lv' := [(2, .int (nI (a + 1))), (0, .ref hm), (1, .int (nI pl))]) hx hb dX3_variable_73 hl (k := 0) rfl (nI_add a 1) (by decide) rfl (fun ls hl => ?_)
                refine lv_goto (tgt := 31) hx hb dX3_variable_76 (by decide) ?_
                exact ih (a + 1) (by omega) (by omega) _ _ ls hP hD hS (lv_sub hl [0, 1, 2] rfl)
        exact loop2 (4096 - 0 + 1) 0 (by omega) (by omega) _ _ ls (by rw [rw_v0]; exact hP) (by rw [rw_v0]; exact hD) hS (lv_sub hl [0, 1, 2] rfl)
      · have c1 : ¬ (64 ≤ i) := fun h => c1 ((nI_leI (by omega) (by omega)).mpr h)
        refine lv_aload_n hx hb dX3_variable_8 rfl (lv_at hl 1 rfl) ?_
        refine va_get (D := D) (ci := 3) (v := .ref q1) (C := RX3) (T := TX3) (N := 16) hx hb hts hin3 hown hK hP 0 rfl rfl 3 (by decide) kf13 (fun _ h9 => h9) rfl dX3_variable_9 ?_
        refine lv_bipush (v := nI 64) hx hb dX3_variable_12 (by decide) ?_
        refine lv_aload_n hx hb dX3_variable_14 rfl (lv_at hl 1 rfl) ?_
        refine va_get (D := D) (ci := 3) (v := .int (nI nd)) (C := RX3) (T := TX3) (N := 16) hx hb hts hin3 hown hK hP 0 rfl rfl 1 (by decide) kf48 (fun _ h9 => h9) rfl dX3_variable_15 ?_
        refine lv_imul hx hb dX3_variable_18 ?_
        refine tp_i (show (nI 64) * (nI nd) = nI (nd * 64) from n_mulc _ _) ?_
        refine lv_iload_n hx hb dX3_variable_19 rfl (lv_at hl 0 rfl) ?_
        refine lv_iadd hx hb dX3_variable_20 ?_
        refine tp_i (show (nI (nd * 64)) + (nI i) = nI (nd * 64 + i) from nI_add _ _) ?_
        refine lv_lconst (v := 0) hx hb dX3_variable_21 (by decide) ?_
        refine va_last hx hb hK hP hD hS 2 1 rfl rfl (vp_in_nI (by omega) (by omega)) dX3_variable_22 (fun H locs hP hD hS => ?_)
        have hP : va_P D vwCl [(hm, .inr (3, [.int th, .int (nI nd), .ref q0, .ref q1, .int (nI mi), .int (nI ml), .ref q2, .ref q3, .ref q4, .ref q5, .ref q6, .ref q7, .ref q8, .ref q9, .int (nI sp), .int fa])), (q0, .inl (cI, 401, .inl fs)), (q1, .inl (cJ, 25664, .inr (.inl (vp_updL (rwF ft nd (fun _ => 0) i) (nI (nd * 64 + i)).toNatClampNeg 0)))), (q2, .inl (cI, 4, .inl fl)), (q3, .inl (cI, 8, .inl (fun j => nI (gS j)))), (q4, .inl (cI, 8, .inl (fun j => nI (gX j)))), (q5, .inl (cI, 8, .inl (fun j => nI (gT j)))), (q6, .inl (cI, 2, .inl (fun j => nI (gC j)))), (q7, .inl (cI, 32, .inl (fun j => nI (gO j)))), (q8, .inl (cI, 32, .inl fD)), (q9, .inl (cI, 2, .inl (fun j => nI (gE j))))] H := hP
        have hD : va_D A [(hm, .inr (3, [.int th, .int (nI nd), .ref q0, .ref q1, .int (nI mi), .int (nI ml), .ref q2, .ref q3, .ref q4, .ref q5, .ref q6, .ref q7, .ref q8, .ref q9, .int (nI sp), .int fa])), (q0, .inl (cI, 401, .inl fs)), (q1, .inl (cJ, 25664, .inr (.inl (vp_updL (rwF ft nd (fun _ => 0) i) (nI (nd * 64 + i)).toNatClampNeg 0)))), (q2, .inl (cI, 4, .inl fl)), (q3, .inl (cI, 8, .inl (fun j => nI (gS j)))), (q4, .inl (cI, 8, .inl (fun j => nI (gX j)))), (q5, .inl (cI, 8, .inl (fun j => nI (gT j)))), (q6, .inl (cI, 2, .inl (fun j => nI (gC j)))), (q7, .inl (cI, 32, .inl (fun j => nI (gO j)))), (q8, .inl (cI, 32, .inl fD)), (q9, .inl (cI, 2, .inl (fun j => nI (gE j))))] := hD
        rw [show vp_updL (rwF ft nd (fun _ => 0) i) (nI (nd * 64 + i)).toNatClampNeg 0 = rwF ft nd (fun _ => 0) (i + 1) from rwF_up (by omega) rfl] at hP hD
        refine lv_iinc (v := nI (i + 1)) (lv' := [(2, .int (nI (i + 1))), (0, .ref hm), (1, .int (nI pl))]) hx hb dX3_variable_23 hl (k := 0) rfl (nI_add i 1) (by decide) rfl (fun ls hl => ?_)
        refine lv_goto (tgt := 2) hx hb dX3_variable_26 (by decide) ?_
        exact ih (i + 1) (by omega) (by omega) _ _ ls hP hD hS (lv_sub hl [0, 1, 2] rfl)
  exact loop (64 - 0 + 1) 0 (by omega) (by omega) _ _ ls (by rw [rwF_0]; exact hP) (by rw [rwF_0]; exact hD) hS (lv_sub hl [0, 1, 2] rfl)
set_option maxHeartbeats 4000000 in
set_option maxRecDepth 100000 in
/-- input -/
theorem w_X3_input (hmi : mi < 8) (hnd : nd < 400) (sz : Nat) : Met l yX3_input wsX3_input { frames := 1, cells := 0, slots := 0, locals := 22 } (wr_P D [(cI, .int), (cJ, .long)] (mW hm q0 q1 q2 q3 q4 q5 q6 q7 q8 q9 cI cJ th nd fs ft mi ml fl gS gX gT gC gO fD gE sp fa) sz tp [.ref hm]) (wx (Su := Unit) D [(cI, .int), (cJ, .long)] (va_A (mW hm q0 q1 q2 q3 q4 q5 q6 q7 q8 q9 cI cJ th nd fs ft mi ml fl gS gX gT gC gO fD gE sp fa) sz) (fun _ => some (.int (nI (2 * nd)))) (fun _ => True) (fun _ => mW hm q0 q1 q2 q3 q4 q5 q6 q7 q8 q9 cI cJ (nI 0) (nd + 1) (upd fs nd (-1)) (rwF ft nd (vwF mi) 64) (mi + 1) ml fl gS gX gT gC gO fD gE sp fa)) 0 0 (va_A (mW hm q0 q1 q2 q3 q4 q5 q6 q7 q8 q9 cI cJ th nd fs ft mi ml fl gS gX gT gC gO fD gE sp fa) sz) := by
  refine Met.ofW (cc := cX3_input) (maxL := 1) (ret := (some .int)) (by decide) rfl ?_
  intro p e s m args below meth c s₁ B hml hv
  obtain ⟨rfl, hsz, ⟨hP, hK, hD0⟩, hE⟩ := hv
  have hx := B.exec
  have hb := B.bytes
  have hr := B.returns
  have hts := atoms_spec (ws := wsX3_input) B.pre
  have hown : s.vm.findClass RX3 = some m.cls := findClass_of_methodNamed B.named
  have hlocks := B.notSynchronized
  subst hsz
  have hD := hD0.self (sz := s.heap.size)
  generalize hAe : va_A (mW hm q0 q1 q2 q3 q4 q5 q6 q7 q8 q9 cI cJ th nd fs ft mi ml fl gS gX gT gC gO fD gE sp fa) s.heap.size = A at hD hE ⊢
  have hA : ∀ q : Nat, s.heap.size ≤ q → A q := fun q h => by rw [← hAe]; exact Or.inr h
  have hS : va_S A s.heap s.heap [] := va_S.rf
  have hP : va_P D vwCl [(hm, .inr (3, [.int th, .int (nI nd), .ref q0, .ref q1, .int (nI mi), .int (nI ml), .ref q2, .ref q3, .ref q4, .ref q5, .ref q6, .ref q7, .ref q8, .ref q9, .int (nI sp), .int fa])), (q0, .inl (cI, 401, .inl fs)), (q1, .inl (cJ, 25664, .inr (.inl ft))), (q2, .inl (cI, 4, .inl fl)), (q3, .inl (cI, 8, .inl (fun j => nI (gS j)))), (q4, .inl (cI, 8, .inl (fun j => nI (gX j)))), (q5, .inl (cI, 8, .inl (fun j => nI (gT j)))), (q6, .inl (cI, 2, .inl (fun j => nI (gC j)))), (q7, .inl (cI, 32, .inl (fun j => nI (gO j)))), (q8, .inl (cI, 32, .inl fD)), (q9, .inl (cI, 2, .inl (fun j => nI (gE j))))] s.heap := hP
  have hD : va_D A [(hm, .inr (3, [.int th, .int (nI nd), .ref q0, .ref q1, .int (nI mi), .int (nI ml), .ref q2, .ref q3, .ref q4, .ref q5, .ref q6, .ref q7, .ref q8, .ref q9, .int (nI sp), .int fa])), (q0, .inl (cI, 401, .inl fs)), (q1, .inl (cJ, 25664, .inr (.inl ft))), (q2, .inl (cI, 4, .inl fl)), (q3, .inl (cI, 8, .inl (fun j => nI (gS j)))), (q4, .inl (cI, 8, .inl (fun j => nI (gX j)))), (q5, .inl (cI, 8, .inl (fun j => nI (gT j)))), (q6, .inl (cI, 2, .inl (fun j => nI (gC j)))), (q7, .inl (cI, 32, .inl (fun j => nI (gO j)))), (q8, .inl (cI, 32, .inl fD)), (q9, .inl (cI, 2, .inl (fun j => nI (gE j))))] := hD
  have hl := lv_entry ([.ref hm]) (n := 1) (Nat.le_of_ble_eq_true rfl)
  rw [lg_entry_eq]
  generalize (lg_sl ([.ref hm]) ++ List.replicate (1 - (lg_sl ([.ref hm])).length) Slot.unset).toArray = ls at hl ⊢
  have hl : lv_has ls 1 [(0, .ref hm)] := hl
  have hin3 : ∀ w ∈ wsX30, w ∈ wsX3_input := by decide +kernel
  have kf51 := hts (.fieldLink RX3 51 "SweepEqualModel" "inputs" "I") (by decide +kernel)
  have kf48 := hts (.fieldLink RX3 48 "SweepEqualModel" "nodes" "I") (by decide +kernel)
  have kf44 := hts (.fieldLink RX3 44 "SweepEqualModel" "thrown" "I") (by decide +kernel)
  refine lv_aload_n hx hb dX3_input_0 rfl (lv_at hl 0 rfl) ?_
  refine lv_aload_n hx hb dX3_input_1 rfl (lv_at hl 0 rfl) ?_
  refine va_get (D := D) (ci := 3) (v := .int (nI mi)) (C := RX3) (T := TX3) (N := 16) hx hb hts hin3 hown hK hP 0 rfl rfl 4 (by decide) kf51 (fun _ h9 => h9) rfl dX3_input_2 ?_
  refine lv_bipush (v := nI 8) hx hb dX3_input_5 (by decide) ?_
  refine lv_icmp_ge (tgt := 24) hx hb dX3_input_7 (by decide) (fun hc => absurd ((nI_leI (by omega) (by omega)).mp hc) (by omega)) (fun _ => ?_)
  refine lv_aload_n hx hb dX3_input_10 rfl (lv_at hl 0 rfl) ?_
  refine va_get (D := D) (ci := 3) (v := .int (nI nd)) (C := RX3) (T := TX3) (N := 16) hx hb hts hin3 hown hK hP 0 rfl rfl 1 (by decide) kf48 (fun _ h9 => h9) rfl dX3_input_11 ?_
  refine lv_sipush (v := nI 400) hx hb dX3_input_14 (by decide) ?_
  refine lv_icmp_ge (tgt := 24) hx hb dX3_input_17 (by decide) (fun hc => absurd ((nI_leI (by omega) (by omega)).mp hc) (by omega)) (fun _ => ?_)
  refine lv_iconst (v := nI 0) hx hb dX3_input_20 (by decide) ?_
  refine lv_goto (tgt := 25) hx hb dX3_input_21 (by decide) ?_
  refine va_put (D := D) (ci := 3) (v := .int (nI 0)) (ty := .int) (C := RX3) (T := TX3) (N := 16) hx hb hts hin3 tyX3 tyX3_ok nmX3 hown hK hP hD hS 0 rfl rfl 0 (by decide) kf44 (fun _ h9 => h9) rfl (by decide +kernel) rfl rfl (Nat.le_of_ble_eq_true rfl) dX3_input_25 (fun H locs hP hD hS => ?_)
  have hP : va_P D vwCl [(hm, .inr (3, [.int (nI 0), .int (nI nd), .ref q0, .ref q1, .int (nI mi), .int (nI ml), .ref q2, .ref q3, .ref q4, .ref q5, .ref q6, .ref q7, .ref q8, .ref q9, .int (nI sp), .int fa])), (q0, .inl (cI, 401, .inl fs)), (q1, .inl (cJ, 25664, .inr (.inl ft))), (q2, .inl (cI, 4, .inl fl)), (q3, .inl (cI, 8, .inl (fun j => nI (gS j)))), (q4, .inl (cI, 8, .inl (fun j => nI (gX j)))), (q5, .inl (cI, 8, .inl (fun j => nI (gT j)))), (q6, .inl (cI, 2, .inl (fun j => nI (gC j)))), (q7, .inl (cI, 32, .inl (fun j => nI (gO j)))), (q8, .inl (cI, 32, .inl fD)), (q9, .inl (cI, 2, .inl (fun j => nI (gE j))))] H := hP
  have hD : va_D A [(hm, .inr (3, [.int (nI 0), .int (nI nd), .ref q0, .ref q1, .int (nI mi), .int (nI ml), .ref q2, .ref q3, .ref q4, .ref q5, .ref q6, .ref q7, .ref q8, .ref q9, .int (nI sp), .int fa])), (q0, .inl (cI, 401, .inl fs)), (q1, .inl (cJ, 25664, .inr (.inl ft))), (q2, .inl (cI, 4, .inl fl)), (q3, .inl (cI, 8, .inl (fun j => nI (gS j)))), (q4, .inl (cI, 8, .inl (fun j => nI (gX j)))), (q5, .inl (cI, 8, .inl (fun j => nI (gT j)))), (q6, .inl (cI, 2, .inl (fun j => nI (gC j)))), (q7, .inl (cI, 32, .inl (fun j => nI (gO j)))), (q8, .inl (cI, 32, .inl fD)), (q9, .inl (cI, 2, .inl (fun j => nI (gE j))))] := hD
  refine lv_aload_n hx hb dX3_input_28 rfl (lv_at hl 0 rfl) ?_
  refine va_get (D := D) (ci := 3) (v := .int (nI 0)) (C := RX3) (T := TX3) (N := 16) hx hb hts hin3 hown hK hP 0 rfl rfl 0 (by decide) kf44 (fun _ h9 => h9) rfl dX3_input_29 ?_
  refine lv_if_le (tgt := 37) hx hb dX3_input_32 (by decide) (fun _ => ?_) (fun hc => absurd hc (by decide))
  refine lv_aload_n hx hb dX3_input_37 rfl (lv_at hl 0 rfl) ?_
  refine lv_dup hx hb dX3_input_38 rfl ?_
  refine va_get (D := D) (ci := 3) (v := .int (nI mi)) (C := RX3) (T := TX3) (N := 16) hx hb hts hin3 hown hK hP 0 rfl rfl 4 (by decide) kf51 (fun _ h9 => h9) rfl dX3_input_39 ?_
  refine lv_iconst (v := nI 1) hx hb dX3_input_42 (by decide) ?_
  refine lv_iadd hx hb dX3_input_43 ?_
  refine tp_i (show (nI mi) + (nI 1) = nI (mi + 1) from nI_add _ _) ?_
  refine va_put (D := D) (ci := 3) (v := .int (nI (mi + 1))) (ty := .int) (C := RX3) (T := TX3) (N := 16) hx hb hts hin3 tyX3 tyX3_ok nmX3 hown hK hP hD hS 0 rfl rfl 4 (by decide) kf51 (fun _ h9 => h9) rfl (by decide +kernel) rfl rfl (Nat.le_of_ble_eq_true rfl) dX3_input_44 (fun H locs hP hD hS => ?_)
  have hP : va_P D vwCl [(hm, .inr (3, [.int (nI 0), .int (nI nd), .ref q0, .ref q1, .int (nI (mi + 1)), .int (nI ml), .ref q2, .ref q3, .ref q4, .ref q5, .ref q6, .ref q7, .ref q8, .ref q9, .int (nI sp), .int fa])), (q0, .inl (cI, 401, .inl fs)), (q1, .inl (cJ, 25664, .inr (.inl ft))), (q2, .inl (cI, 4, .inl fl)), (q3, .inl (cI, 8, .inl (fun j => nI (gS j)))), (q4, .inl (cI, 8, .inl (fun j => nI (gX j)))), (q5, .inl (cI, 8, .inl (fun j => nI (gT j)))), (q6, .inl (cI, 2, .inl (fun j => nI (gC j)))), (q7, .inl (cI, 32, .inl (fun j => nI (gO j)))), (q8, .inl (cI, 32, .inl fD)), (q9, .inl (cI, 2, .inl (fun j => nI (gE j))))] H := hP
  have hD : va_D A [(hm, .inr (3, [.int (nI 0), .int (nI nd), .ref q0, .ref q1, .int (nI (mi + 1)), .int (nI ml), .ref q2, .ref q3, .ref q4, .ref q5, .ref q6, .ref q7, .ref q8, .ref q9, .int (nI sp), .int fa])), (q0, .inl (cI, 401, .inl fs)), (q1, .inl (cJ, 25664, .inr (.inl ft))), (q2, .inl (cI, 4, .inl fl)), (q3, .inl (cI, 8, .inl (fun j => nI (gS j)))), (q4, .inl (cI, 8, .inl (fun j => nI (gX j)))), (q5, .inl (cI, 8, .inl (fun j => nI (gT j)))), (q6, .inl (cI, 2, .inl (fun j => nI (gC j)))), (q7, .inl (cI, 32, .inl (fun j => nI (gO j)))), (q8, .inl (cI, 32, .inl fD)), (q9, .inl (cI, 2, .inl (fun j => nI (gE j))))] := hD
  refine lv_aload_n hx hb dX3_input_47 rfl (lv_at hl 0 rfl) ?_
  refine lv_aload_n hx hb dX3_input_48 rfl (lv_at hl 0 rfl) ?_
  refine va_get (D := D) (ci := 3) (v := .int (nI (mi + 1))) (C := RX3) (T := TX3) (N := 16) hx hb hts hin3 hown hK hP 0 rfl rfl 4 (by decide) kf51 (fun _ h9 => h9) rfl dX3_input_49 ?_
  refine lv_iconst (v := nI 1) hx hb dX3_input_52 (by decide) ?_
  refine lv_isub hx hb dX3_input_53 ?_
  refine tp_i (show (nI (mi + 1)) - (nI 1) = nI mi from (pk_sub (by omega)).trans (congrArg nI (by omega))) ?_
  refine wr_V (As := [.int (nI mi)]) (rest := []) (wc := [(hm, .inr (3, [.int (nI 0), .int (nI nd), .ref q0, .ref q1, .int (nI (mi + 1)), .int (nI ml), .ref q2, .ref q3, .ref q4, .ref q5, .ref q6, .ref q7, .ref q8, .ref q9, .int (nI sp), .int fa])), (q0, .inl (cI, 401, .inl fs)), (q1, .inl (cJ, 25664, .inr (.inl ft))), (q2, .inl (cI, 4, .inl fl)), (q3, .inl (cI, 8, .inl (fun j => nI (gS j)))), (q4, .inl (cI, 8, .inl (fun j => nI (gX j)))), (q5, .inl (cI, 8, .inl (fun j => nI (gT j)))), (q6, .inl (cI, 2, .inl (fun j => nI (gC j)))), (q7, .inl (cI, 32, .inl (fun j => nI (gO j)))), (q8, .inl (cI, 32, .inl fD)), (q9, .inl (cI, 2, .inl (fun j => nI (gE j))))]) (wr := []) (ci := 3) (q0 := 0) ⟨hx, hb, hml, hown, hts⟩ (w_X3_variable l D cI cJ tp hm q0 q1 q2 q3 q4 q5 q6 q7 q8 q9 (nI 0) nd fs ft (mi + 1) ml fl gS gX gT gC gO fD gE sp fa mi (by omega) (by omega) _) (cwV 1 hts gX3_input_X3_variable rfl rfl rfl (by decide +kernel) ⟨Nat.le_of_ble_eq_true rfl, Nat.le_of_ble_eq_true rfl⟩) rfl rfl rfl hl.1 rfl (Nat.le_of_ble_eq_true rfl) dX3_input_54 ⟨by show _ ≤ _; simp only [headSpec]; omega, by show _ ≤ _; simp only [headSpec]; omega⟩ hK hP hD hS hA hE [0, 1, 2, 3, 4, 5, 6, 7, 8, 9, 10] [] rfl rfl (by decide) (by decide) (by decide) (fun _u H locs _hu hP hD hS => ?_)
  have hP : va_P D vwCl [(hm, .inr (3, [.int (nI 0), .int (nI (nd + 1)), .ref q0, .ref q1, .int (nI (mi + 1)), .int (nI ml), .ref q2, .ref q3, .ref q4, .ref q5, .ref q6, .ref q7, .ref q8, .ref q9, .int (nI sp), .int fa])), (q0, .inl (cI, 401, .inl (upd fs nd (-1)))), (q1, .inl (cJ, 25664, .inr (.inl (rwF ft nd (vwF mi) 64)))), (q2, .inl (cI, 4, .inl fl)), (q3, .inl (cI, 8, .inl (fun j => nI (gS j)))), (q4, .inl (cI, 8, .inl (fun j => nI (gX j)))), (q5, .inl (cI, 8, .inl (fun j => nI (gT j)))), (q6, .inl (cI, 2, .inl (fun j => nI (gC j)))), (q7, .inl (cI, 32, .inl (fun j => nI (gO j)))), (q8, .inl (cI, 32, .inl fD)), (q9, .inl (cI, 2, .inl (fun j => nI (gE j))))] H := hP
  have hD : va_D A [(hm, .inr (3, [.int (nI 0), .int (nI (nd + 1)), .ref q0, .ref q1, .int (nI (mi + 1)), .int (nI ml), .ref q2, .ref q3, .ref q4, .ref q5, .ref q6, .ref q7, .ref q8, .ref q9, .int (nI sp), .int fa])), (q0, .inl (cI, 401, .inl (upd fs nd (-1)))), (q1, .inl (cJ, 25664, .inr (.inl (rwF ft nd (vwF mi) 64)))), (q2, .inl (cI, 4, .inl fl)), (q3, .inl (cI, 8, .inl (fun j => nI (gS j)))), (q4, .inl (cI, 8, .inl (fun j => nI (gX j)))), (q5, .inl (cI, 8, .inl (fun j => nI (gT j)))), (q6, .inl (cI, 2, .inl (fun j => nI (gC j)))), (q7, .inl (cI, 32, .inl (fun j => nI (gO j)))), (q8, .inl (cI, 32, .inl fD)), (q9, .inl (cI, 2, .inl (fun j => nI (gE j))))] := hD
  have hP := hP.sub (ws' := [(hm, .inr (3, [.int (nI 0), .int (nI (nd + 1)), .ref q0, .ref q1, .int (nI (mi + 1)), .int (nI ml), .ref q2, .ref q3, .ref q4, .ref q5, .ref q6, .ref q7, .ref q8, .ref q9, .int (nI sp), .int fa])), (q0, .inl (cI, 401, .inl (upd fs nd (-1)))), (q1, .inl (cJ, 25664, .inr (.inl (rwF ft nd (vwF mi) 64)))), (q2, .inl (cI, 4, .inl fl)), (q3, .inl (cI, 8, .inl (fun j => nI (gS j)))), (q4, .inl (cI, 8, .inl (fun j => nI (gX j)))), (q5, .inl (cI, 8, .inl (fun j => nI (gT j)))), (q6, .inl (cI, 2, .inl (fun j => nI (gC j)))), (q7, .inl (cI, 32, .inl (fun j => nI (gO j)))), (q8, .inl (cI, 32, .inl fD)), (q9, .inl (cI, 2, .inl (fun j => nI (gE j))))]) [0, 1, 2, 3, 4, 5, 6, 7, 8, 9, 10] rfl
  have hD := hD.sub (ws' := [(hm, .inr (3, [.int (nI 0), .int (nI (nd + 1)), .ref q0, .ref q1, .int (nI (mi + 1)), .int (nI ml), .ref q2, .ref q3, .ref q4, .ref q5, .ref q6, .ref q7, .ref q8, .ref q9, .int (nI sp), .int fa])), (q0, .inl (cI, 401, .inl (upd fs nd (-1)))), (q1, .inl (cJ, 25664, .inr (.inl (rwF ft nd (vwF mi) 64)))), (q2, .inl (cI, 4, .inl fl)), (q3, .inl (cI, 8, .inl (fun j => nI (gS j)))), (q4, .inl (cI, 8, .inl (fun j => nI (gX j)))), (q5, .inl (cI, 8, .inl (fun j => nI (gT j)))), (q6, .inl (cI, 2, .inl (fun j => nI (gC j)))), (q7, .inl (cI, 32, .inl (fun j => nI (gO j)))), (q8, .inl (cI, 32, .inl fD)), (q9, .inl (cI, 2, .inl (fun j => nI (gE j))))]) [0, 1, 2, 3, 4, 5, 6, 7, 8, 9, 10] (by decide) rfl
  refine W.widen (k := 0) (n := 0) (by omega) (by omega) ?_
  refine W.eq (g2 := F0 m 57 ls [.int (nI (2 * nd))]) rfl ?_
  exact wr_i (()) hx hb hr hlocks hP hD hS dX3_input_57 (rfl) (trivial)
set_option maxHeartbeats 4000000 in
set_option maxRecDepth 100000 in
/-- input: refused -/
theorem w_X3_inputB (hmi : mi ≤ 8) (hnd : nd ≤ 400) (hb0 : mi = 8 ∨ nd = 400) (sz : Nat) : Met l yX3_input wsX3_input { frames := 1, cells := 0, slots := 0, locals := 22 } (wr_P D [(cI, .int), (cJ, .long)] (mW hm q0 q1 q2 q3 q4 q5 q6 q7 q8 q9 cI cJ th nd fs ft mi ml fl gS gX gT gC gO fD gE sp fa) sz tp [.ref hm]) (wx (Su := Unit) D [(cI, .int), (cJ, .long)] (va_A (mW hm q0 q1 q2 q3 q4 q5 q6 q7 q8 q9 cI cJ th nd fs ft mi ml fl gS gX gT gC gO fD gE sp fa) sz) (fun _ => some (.int (nI 0))) (fun _ => True) (fun _ => mW hm q0 q1 q2 q3 q4 q5 q6 q7 q8 q9 cI cJ (nI 1) nd fs ft mi ml fl gS gX gT gC gO fD gE sp fa)) 0 0 (va_A (mW hm q0 q1 q2 q3 q4 q5 q6 q7 q8 q9 cI cJ th nd fs ft mi ml fl gS gX gT gC gO fD gE sp fa) sz) := by
  refine Met.ofW (cc := cX3_input) (maxL := 1) (ret := (some .int)) (by decide) rfl ?_
  intro p e s m args below meth c s₁ B hml hv
  obtain ⟨rfl, hsz, ⟨hP, hK, hD0⟩, hE⟩ := hv
  have hx := B.exec
  have hb := B.bytes
  have hr := B.returns
  have hts := atoms_spec (ws := wsX3_input) B.pre
  have hown : s.vm.findClass RX3 = some m.cls := findClass_of_methodNamed B.named
  have hlocks := B.notSynchronized
  subst hsz
  have hD := hD0.self (sz := s.heap.size)
  generalize hAe : va_A (mW hm q0 q1 q2 q3 q4 q5 q6 q7 q8 q9 cI cJ th nd fs ft mi ml fl gS gX gT gC gO fD gE sp fa) s.heap.size = A at hD hE ⊢
  have hA : ∀ q : Nat, s.heap.size ≤ q → A q := fun q h => by rw [← hAe]; exact Or.inr h
  have hS : va_S A s.heap s.heap [] := va_S.rf
  have hP : va_P D vwCl [(hm, .inr (3, [.int th, .int (nI nd), .ref q0, .ref q1, .int (nI mi), .int (nI ml), .ref q2, .ref q3, .ref q4, .ref q5, .ref q6, .ref q7, .ref q8, .ref q9, .int (nI sp), .int fa])), (q0, .inl (cI, 401, .inl fs)), (q1, .inl (cJ, 25664, .inr (.inl ft))), (q2, .inl (cI, 4, .inl fl)), (q3, .inl (cI, 8, .inl (fun j => nI (gS j)))), (q4, .inl (cI, 8, .inl (fun j => nI (gX j)))), (q5, .inl (cI, 8, .inl (fun j => nI (gT j)))), (q6, .inl (cI, 2, .inl (fun j => nI (gC j)))), (q7, .inl (cI, 32, .inl (fun j => nI (gO j)))), (q8, .inl (cI, 32, .inl fD)), (q9, .inl (cI, 2, .inl (fun j => nI (gE j))))] s.heap := hP
  have hD : va_D A [(hm, .inr (3, [.int th, .int (nI nd), .ref q0, .ref q1, .int (nI mi), .int (nI ml), .ref q2, .ref q3, .ref q4, .ref q5, .ref q6, .ref q7, .ref q8, .ref q9, .int (nI sp), .int fa])), (q0, .inl (cI, 401, .inl fs)), (q1, .inl (cJ, 25664, .inr (.inl ft))), (q2, .inl (cI, 4, .inl fl)), (q3, .inl (cI, 8, .inl (fun j => nI (gS j)))), (q4, .inl (cI, 8, .inl (fun j => nI (gX j)))), (q5, .inl (cI, 8, .inl (fun j => nI (gT j)))), (q6, .inl (cI, 2, .inl (fun j => nI (gC j)))), (q7, .inl (cI, 32, .inl (fun j => nI (gO j)))), (q8, .inl (cI, 32, .inl fD)), (q9, .inl (cI, 2, .inl (fun j => nI (gE j))))] := hD
  have hl := lv_entry ([.ref hm]) (n := 1) (Nat.le_of_ble_eq_true rfl)
  rw [lg_entry_eq]
  generalize (lg_sl ([.ref hm]) ++ List.replicate (1 - (lg_sl ([.ref hm])).length) Slot.unset).toArray = ls at hl ⊢
  have hl : lv_has ls 1 [(0, .ref hm)] := hl
  have hin3 : ∀ w ∈ wsX30, w ∈ wsX3_input := by decide +kernel
  have kf51 := hts (.fieldLink RX3 51 "SweepEqualModel" "inputs" "I") (by decide +kernel)
  have kf48 := hts (.fieldLink RX3 48 "SweepEqualModel" "nodes" "I") (by decide +kernel)
  have kf44 := hts (.fieldLink RX3 44 "SweepEqualModel" "thrown" "I") (by decide +kernel)
  refine lv_aload_n hx hb dX3_input_0 rfl (lv_at hl 0 rfl) ?_
  refine lv_aload_n hx hb dX3_input_1 rfl (lv_at hl 0 rfl) ?_
  refine va_get (D := D) (ci := 3) (v := .int (nI mi)) (C := RX3) (T := TX3) (N := 16) hx hb hts hin3 hown hK hP 0 rfl rfl 4 (by decide) kf51 (fun _ h9 => h9) rfl dX3_input_2 ?_
  refine lv_bipush (v := nI 8) hx hb dX3_input_5 (by decide) ?_
  refine lv_icmp_ge (tgt := 24) hx hb dX3_input_7 (by decide) (fun c1 => ?_) (fun c1 => ?_)
  · have c1 : 8 ≤ mi := (nI_leI (by omega) (by omega)).mp c1
    refine lv_iconst (v := nI 1) hx hb dX3_input_24 (by decide) ?_
    refine va_put (D := D) (ci := 3) (v := .int (nI 1)) (ty := .int) (C := RX3) (T := TX3) (N := 16) hx hb hts hin3 tyX3 tyX3_ok nmX3 hown hK hP hD hS 0 rfl rfl 0 (by decide) kf44 (fun _ h9 => h9) rfl (by decide +kernel) rfl rfl (Nat.le_of_ble_eq_true rfl) dX3_input_25 (fun H locs hP hD hS => ?_)
    have hP : va_P D vwCl [(hm, .inr (3, [.int (nI 1), .int (nI nd), .ref q0, .ref q1, .int (nI mi), .int (nI ml), .ref q2, .ref q3, .ref q4, .ref q5, .ref q6, .ref q7, .ref q8, .ref q9, .int (nI sp), .int fa])), (q0, .inl (cI, 401, .inl fs)), (q1, .inl (cJ, 25664, .inr (.inl ft))), (q2, .inl (cI, 4, .inl fl)), (q3, .inl (cI, 8, .inl (fun j => nI (gS j)))), (q4, .inl (cI, 8, .inl (fun j => nI (gX j)))), (q5, .inl (cI, 8, .inl (fun j => nI (gT j)))), (q6, .inl (cI, 2, .inl (fun j => nI (gC j)))), (q7, .inl (cI, 32, .inl (fun j => nI (gO j)))), (q8, .inl (cI, 32, .inl fD)), (q9, .inl (cI, 2, .inl (fun j => nI (gE j))))] H := hP
    have hD : va_D A [(hm, .inr (3, [.int (nI 1), .int (nI nd), .ref q0, .ref q1, .int (nI mi), .int (nI ml), .ref q2, .ref q3, .ref q4, .ref q5, .ref q6, .ref q7, .ref q8, .ref q9, .int (nI sp), .int fa])), (q0, .inl (cI, 401, .inl fs)), (q1, .inl (cJ, 25664, .inr (.inl ft))), (q2, .inl (cI, 4, .inl fl)), (q3, .inl (cI, 8, .inl (fun j => nI (gS j)))), (q4, .inl (cI, 8, .inl (fun j => nI (gX j)))), (q5, .inl (cI, 8, .inl (fun j => nI (gT j)))), (q6, .inl (cI, 2, .inl (fun j => nI (gC j)))), (q7, .inl (cI, 32, .inl (fun j => nI (gO j)))), (q8, .inl (cI, 32, .inl fD)), (q9, .inl (cI, 2, .inl (fun j => nI (gE j))))] := hD
    refine lv_aload_n hx hb dX3_input_28 rfl (lv_at hl 0 rfl) ?_
    refine va_get (D := D) (ci := 3) (v := .int (nI 1)) (C := RX3) (T := TX3) (N := 16) hx hb hts hin3 hown hK hP 0 rfl rfl 0 (by decide) kf44 (fun _ h9 => h9) rfl dX3_input_29 ?_
    refine lv_if_le (tgt := 37) hx hb dX3_input_32 (by decide) (fun hc => absurd hc (by decide)) (fun _ => ?_)
    refine lv_iconst (v := nI 0) hx hb dX3_input_35 (by decide) ?_
    exact wr_i (()) hx hb hr hlocks hP hD hS dX3_input_36 (rfl) (trivial)
  · have c1 : ¬ (8 ≤ mi) := fun h => c1 ((nI_leI (by omega) (by omega)).mpr h)
    refine lv_aload_n hx hb dX3_input_10 rfl (lv_at hl 0 rfl) ?_
    refine va_get (D := D) (ci := 3) (v := .int (nI nd)) (C := RX3) (T := TX3) (N := 16) hx hb hts hin3 hown hK hP 0 rfl rfl 1 (by decide) kf48 (fun _ h9 => h9) rfl dX3_input_11 ?_
    refine lv_sipush (v := nI 400) hx hb dX3_input_14 (by decide) ?_
    refine lv_icmp_ge (tgt := 24) hx hb dX3_input_17 (by decide) (fun _ => ?_) (fun hc => absurd ((nI_leI (by omega) (by omega)).mpr (by omega)) hc)
    refine lv_iconst (v := nI 1) hx hb dX3_input_24 (by decide) ?_
    refine va_put (D := D) (ci := 3) (v := .int (nI 1)) (ty := .int) (C := RX3) (T := TX3) (N := 16) hx hb hts hin3 tyX3 tyX3_ok nmX3 hown hK hP hD hS 0 rfl rfl 0 (by decide) kf44 (fun _ h9 => h9) rfl (by decide +kernel) rfl rfl (Nat.le_of_ble_eq_true rfl) dX3_input_25 (fun H locs hP hD hS => ?_)
    have hP : va_P D vwCl [(hm, .inr (3, [.int (nI 1), .int (nI nd), .ref q0, .ref q1, .int (nI mi), .int (nI ml), .ref q2, .ref q3, .ref q4, .ref q5, .ref q6, .ref q7, .ref q8, .ref q9, .int (nI sp), .int fa])), (q0, .inl (cI, 401, .inl fs)), (q1, .inl (cJ, 25664, .inr (.inl ft))), (q2, .inl (cI, 4, .inl fl)), (q3, .inl (cI, 8, .inl (fun j => nI (gS j)))), (q4, .inl (cI, 8, .inl (fun j => nI (gX j)))), (q5, .inl (cI, 8, .inl (fun j => nI (gT j)))), (q6, .inl (cI, 2, .inl (fun j => nI (gC j)))), (q7, .inl (cI, 32, .inl (fun j => nI (gO j)))), (q8, .inl (cI, 32, .inl fD)), (q9, .inl (cI, 2, .inl (fun j => nI (gE j))))] H := hP
    have hD : va_D A [(hm, .inr (3, [.int (nI 1), .int (nI nd), .ref q0, .ref q1, .int (nI mi), .int (nI ml), .ref q2, .ref q3, .ref q4, .ref q5, .ref q6, .ref q7, .ref q8, .ref q9, .int (nI sp), .int fa])), (q0, .inl (cI, 401, .inl fs)), (q1, .inl (cJ, 25664, .inr (.inl ft))), (q2, .inl (cI, 4, .inl fl)), (q3, .inl (cI, 8, .inl (fun j => nI (gS j)))), (q4, .inl (cI, 8, .inl (fun j => nI (gX j)))), (q5, .inl (cI, 8, .inl (fun j => nI (gT j)))), (q6, .inl (cI, 2, .inl (fun j => nI (gC j)))), (q7, .inl (cI, 32, .inl (fun j => nI (gO j)))), (q8, .inl (cI, 32, .inl fD)), (q9, .inl (cI, 2, .inl (fun j => nI (gE j))))] := hD
    refine lv_aload_n hx hb dX3_input_28 rfl (lv_at hl 0 rfl) ?_
    refine va_get (D := D) (ci := 3) (v := .int (nI 1)) (C := RX3) (T := TX3) (N := 16) hx hb hts hin3 hown hK hP 0 rfl rfl 0 (by decide) kf44 (fun _ h9 => h9) rfl dX3_input_29 ?_
    refine lv_if_le (tgt := 37) hx hb dX3_input_32 (by decide) (fun hc => absurd hc (by decide)) (fun _ => ?_)
    refine lv_iconst (v := nI 0) hx hb dX3_input_35 (by decide) ?_
    exact wr_i (()) hx hb hr hlocks hP hD hS dX3_input_36 (rfl) (trivial)
set_option maxHeartbeats 4000000 in
set_option maxRecDepth 100000 in
/-- latch -/
theorem w_X3_latch (ta tb : Nat) (hta : ta < 2) (htb : tb < 2) (hml9 : ml < 4) (hnd : nd < 400) (sz : Nat) : Met l yX3_latch wsX3_latch { frames := 1, cells := 0, slots := 0, locals := 22 } (wr_P D [(cI, .int), (cJ, .long)] (mW hm q0 q1 q2 q3 q4 q5 q6 q7 q8 q9 cI cJ th nd fs ft mi ml fl gS gX gT gC gO fD gE sp fa) sz tp [.ref hm, .int (nI ta), .int (nI tb)]) (wx (Su := Unit) D [(cI, .int), (cJ, .long)] (va_A (mW hm q0 q1 q2 q3 q4 q5 q6 q7 q8 q9 cI cJ th nd fs ft mi ml fl gS gX gT gC gO fD gE sp fa) sz) (fun _ => some (.int (nI (2 * nd)))) (fun _ => True) (fun _ => mW hm q0 q1 q2 q3 q4 q5 q6 q7 q8 q9 cI cJ (nI 0) (nd + 1) (upd fs nd (-1)) (rwF ft nd (vwF (8 + ml)) 64) mi (ml + 1) (upd fl ml (nI (2 * nd / 2))) (va_up (va_up gS ml ta) (4 + ml) tb) (va_up (va_up gX ml (2 * nd)) (4 + ml) (2 * nd)) (cpF (va_up (va_up gS ml ta) (4 + ml) tb) gT 8) gC gO fD (va_up (va_up gE 0 0) 1 0) 0 (-1))) 0 0 (va_A (mW hm q0 q1 q2 q3 q4 q5 q6 q7 q8 q9 cI cJ th nd fs ft mi ml fl gS gX gT gC gO fD gE sp fa) sz) := by
  refine Met.ofW (cc := cX3_latch) (maxL := 5) (ret := (some .int)) (by decide) rfl ?_
  intro p e s m args below meth c s₁ B hml hv
  obtain ⟨rfl, hsz, ⟨hP, hK, hD0⟩, hE⟩ := hv
  have hx := B.exec
  have hb := B.bytes
  have hr := B.returns
  have hts := atoms_spec (ws := wsX3_latch) B.pre
  have hown : s.vm.findClass RX3 = some m.cls := findClass_of_methodNamed B.named
  have hlocks := B.notSynchronized
  subst hsz
  have hD := hD0.self (sz := s.heap.size)
  generalize hAe : va_A (mW hm q0 q1 q2 q3 q4 q5 q6 q7 q8 q9 cI cJ th nd fs ft mi ml fl gS gX gT gC gO fD gE sp fa) s.heap.size = A at hD hE ⊢
  have hA : ∀ q : Nat, s.heap.size ≤ q → A q := fun q h => by rw [← hAe]; exact Or.inr h
  have hS : va_S A s.heap s.heap [] := va_S.rf
  have hP : va_P D vwCl [(hm, .inr (3, [.int th, .int (nI nd), .ref q0, .ref q1, .int (nI mi), .int (nI ml), .ref q2, .ref q3, .ref q4, .ref q5, .ref q6, .ref q7, .ref q8, .ref q9, .int (nI sp), .int fa])), (q0, .inl (cI, 401, .inl fs)), (q1, .inl (cJ, 25664, .inr (.inl ft))), (q2, .inl (cI, 4, .inl fl)), (q3, .inl (cI, 8, .inl (fun j => nI (gS j)))), (q4, .inl (cI, 8, .inl (fun j => nI (gX j)))), (q5, .inl (cI, 8, .inl (fun j => nI (gT j)))), (q6, .inl (cI, 2, .inl (fun j => nI (gC j)))), (q7, .inl (cI, 32, .inl (fun j => nI (gO j)))), (q8, .inl (cI, 32, .inl fD)), (q9, .inl (cI, 2, .inl (fun j => nI (gE j))))] s.heap := hP
  have hD : va_D A [(hm, .inr (3, [.int th, .int (nI nd), .ref q0, .ref q1, .int (nI mi), .int (nI ml), .ref q2, .ref q3, .ref q4, .ref q5, .ref q6, .ref q7, .ref q8, .ref q9, .int (nI sp), .int fa])), (q0, .inl (cI, 401, .inl fs)), (q1, .inl (cJ, 25664, .inr (.inl ft))), (q2, .inl (cI, 4, .inl fl)), (q3, .inl (cI, 8, .inl (fun j => nI (gS j)))), (q4, .inl (cI, 8, .inl (fun j => nI (gX j)))), (q5, .inl (cI, 8, .inl (fun j => nI (gT j)))), (q6, .inl (cI, 2, .inl (fun j => nI (gC j)))), (q7, .inl (cI, 32, .inl (fun j => nI (gO j)))), (q8, .inl (cI, 32, .inl fD)), (q9, .inl (cI, 2, .inl (fun j => nI (gE j))))] := hD
  have hl := lv_entry ([.ref hm, .int (nI ta), .int (nI tb)]) (n := 5) (Nat.le_of_ble_eq_true rfl)
  rw [lg_entry_eq]
  generalize (lg_sl ([.ref hm, .int (nI ta), .int (nI tb)]) ++ List.replicate (5 - (lg_sl ([.ref hm, .int (nI ta), .int (nI tb)])).length) Slot.unset).toArray = ls at hl ⊢
  have hl : lv_has ls 5 [(0, .ref hm), (1, .int (nI ta)), (2, .int (nI tb))] := hl
  have hin3 : ∀ w ∈ wsX30, w ∈ wsX3_latch := by decide +kernel
  have kf54 := hts (.fieldLink RX3 54 "SweepEqualModel" "latches" "I") (by decide +kernel)
  have kf48 := hts (.fieldLink RX3 48 "SweepEqualModel" "nodes" "I") (by decide +kernel)
  have kf44 := hts (.fieldLink RX3 44 "SweepEqualModel" "thrown" "I") (by decide +kernel)
  have kf17 := hts (.fieldLink RX3 17 "SweepEqualModel" "latchNodes" "[I") (by decide +kernel)
  have kf20 := hts (.fieldLink RX3 20 "SweepEqualModel" "starts" "[I") (by decide +kernel)
  have kf23 := hts (.fieldLink RX3 23 "SweepEqualModel" "nexts" "[I") (by decide +kernel)
  refine lv_aload_n hx hb dX3_latch_0 rfl (lv_at hl 0 rfl) ?_
  refine va_get (D := D) (ci := 3) (v := .int (nI ml)) (C := RX3) (T := TX3) (N := 16) hx hb hts hin3 hown hK hP 0 rfl rfl 5 (by decide) kf54 (fun _ h9 => h9) rfl dX3_latch_1 ?_
  refine lv_iconst (v := nI 4) hx hb dX3_latch_4 (by decide) ?_
  refine lv_icmp_ge (tgt := 22) hx hb dX3_latch_5 (by decide) (fun hc => absurd ((nI_leI (by omega) (by omega)).mp hc) (by omega)) (fun _ => ?_)
  refine lv_aload_n hx hb dX3_latch_8 rfl (lv_at hl 0 rfl) ?_
  refine va_get (D := D) (ci := 3) (v := .int (nI nd)) (C := RX3) (T := TX3) (N := 16) hx hb hts hin3 hown hK hP 0 rfl rfl 1 (by decide) kf48 (fun _ h9 => h9) rfl dX3_latch_9 ?_
  refine lv_sipush (v := nI 400) hx hb dX3_latch_12 (by decide) ?_
  refine lv_icmp_ge (tgt := 22) hx hb dX3_latch_15 (by decide) (fun hc => absurd ((nI_leI (by omega) (by omega)).mp hc) (by omega)) (fun _ => ?_)
  refine lv_iconst (v := nI 1) hx hb dX3_latch_18 (by decide) ?_
  refine lv_goto (tgt := 23) hx hb dX3_latch_19 (by decide) ?_
  refine lv_istore_n (lv' := [(3, .int (nI 1)), (0, .ref hm), (1, .int (nI ta)), (2, .int (nI tb))]) hx hb dX3_latch_23 rfl hl (by decide) rfl (fun ls hl => ?_)
  refine lv_aload_n hx hb dX3_latch_24 rfl (lv_at hl 1 rfl) ?_
  refine lv_iload_n hx hb dX3_latch_25 rfl (lv_at hl 0 rfl) ?_
  refine lv_if_ne (tgt := 33) hx hb dX3_latch_26 (by decide) (fun _ => ?_) (fun hc => absurd hc (by decide))
  refine lv_iload_n hx hb dX3_latch_33 rfl (lv_at hl 2 rfl) ?_
  refine rd_S (As := [.int (nI ta)]) (rest := [.ref hm]) ⟨hx, hb, hml, hown, hts⟩ (c_X3_isSide l (nI ta)) (va_cwS 1 hts gX3_latch_X3_isSide rfl rfl rfl (by decide +kernel) ⟨Nat.le_of_ble_eq_true rfl, Nat.le_of_ble_eq_true rfl⟩) preEq rfl hl.1 rfl (Nat.le_of_ble_eq_true rfl) dX3_latch_34 ⟨by show _ ≤ _; simp only [headSpec]; omega, by show _ ≤ _; simp only [headSpec]; omega⟩ ?_
  refine tp_i (show zI (decide (nI ta = 0 ∨ nI ta = 1)) = nI 1 from zd_1 (side_nI hta)) ?_
  refine lv_if_eq (tgt := 51) hx hb dX3_latch_37 (by decide) (fun hc => absurd hc (by decide)) (fun _ => ?_)
  refine lv_iload_n hx hb dX3_latch_40 rfl (lv_at hl 3 rfl) ?_
  refine rd_S (As := [.int (nI tb)]) (rest := [.ref hm]) ⟨hx, hb, hml, hown, hts⟩ (c_X3_isSide l (nI tb)) (va_cwS 1 hts gX3_latch_X3_isSide rfl rfl rfl (by decide +kernel) ⟨Nat.le_of_ble_eq_true rfl, Nat.le_of_ble_eq_true rfl⟩) preEq rfl hl.1 rfl (Nat.le_of_ble_eq_true rfl) dX3_latch_41 ⟨by show _ ≤ _; simp only [headSpec]; omega, by show _ ≤ _; simp only [headSpec]; omega⟩ ?_
  refine tp_i (show zI (decide (nI tb = 0 ∨ nI tb = 1)) = nI 1 from zd_1 (side_nI htb)) ?_
  refine lv_if_eq (tgt := 51) hx hb dX3_latch_44 (by decide) (fun hc => absurd hc (by decide)) (fun _ => ?_)
  refine lv_iconst (v := nI 0) hx hb dX3_latch_47 (by decide) ?_
  refine lv_goto (tgt := 52) hx hb dX3_latch_48 (by decide) ?_
  refine va_put (D := D) (ci := 3) (v := .int (nI 0)) (ty := .int) (C := RX3) (T := TX3) (N := 16) hx hb hts hin3 tyX3 tyX3_ok nmX3 hown hK hP hD hS 0 rfl rfl 0 (by decide) kf44 (fun _ h9 => h9) rfl (by decide +kernel) rfl rfl (Nat.le_of_ble_eq_true rfl) dX3_latch_52 (fun H locs hP hD hS => ?_)
  have hP : va_P D vwCl [(hm, .inr (3, [.int (nI 0), .int (nI nd), .ref q0, .ref q1, .int (nI mi), .int (nI ml), .ref q2, .ref q3, .ref q4, .ref q5, .ref q6, .ref q7, .ref q8, .ref q9, .int (nI sp), .int fa])), (q0, .inl (cI, 401, .inl fs)), (q1, .inl (cJ, 25664, .inr (.inl ft))), (q2, .inl (cI, 4, .inl fl)), (q3, .inl (cI, 8, .inl (fun j => nI (gS j)))), (q4, .inl (cI, 8, .inl (fun j => nI (gX j)))), (q5, .inl (cI, 8, .inl (fun j => nI (gT j)))), (q6, .inl (cI, 2, .inl (fun j => nI (gC j)))), (q7, .inl (cI, 32, .inl (fun j => nI (gO j)))), (q8, .inl (cI, 32, .inl fD)), (q9, .inl (cI, 2, .inl (fun j => nI (gE j))))] H := hP
  have hD : va_D A [(hm, .inr (3, [.int (nI 0), .int (nI nd), .ref q0, .ref q1, .int (nI mi), .int (nI ml), .ref q2, .ref q3, .ref q4, .ref q5, .ref q6, .ref q7, .ref q8, .ref q9, .int (nI sp), .int fa])), (q0, .inl (cI, 401, .inl fs)), (q1, .inl (cJ, 25664, .inr (.inl ft))), (q2, .inl (cI, 4, .inl fl)), (q3, .inl (cI, 8, .inl (fun j => nI (gS j)))), (q4, .inl (cI, 8, .inl (fun j => nI (gX j)))), (q5, .inl (cI, 8, .inl (fun j => nI (gT j)))), (q6, .inl (cI, 2, .inl (fun j => nI (gC j)))), (q7, .inl (cI, 32, .inl (fun j => nI (gO j)))), (q8, .inl (cI, 32, .inl fD)), (q9, .inl (cI, 2, .inl (fun j => nI (gE j))))] := hD
  refine lv_aload_n hx hb dX3_latch_55 rfl (lv_at hl 1 rfl) ?_
  refine va_get (D := D) (ci := 3) (v := .int (nI 0)) (C := RX3) (T := TX3) (N := 16) hx hb hts hin3 hown hK hP 0 rfl rfl 0 (by decide) kf44 (fun _ h9 => h9) rfl dX3_latch_56 ?_
  refine lv_if_le (tgt := 64) hx hb dX3_latch_59 (by decide) (fun _ => ?_) (fun hc => absurd hc (by decide))
  refine lv_aload_n hx hb dX3_latch_64 rfl (lv_at hl 1 rfl) ?_
  refine lv_bipush (v := nI 8) hx hb dX3_latch_65 (by decide) ?_
  refine lv_aload_n hx hb dX3_latch_67 rfl (lv_at hl 1 rfl) ?_
  refine va_get (D := D) (ci := 3) (v := .int (nI ml)) (C := RX3) (T := TX3) (N := 16) hx hb hts hin3 hown hK hP 0 rfl rfl 5 (by decide) kf54 (fun _ h9 => h9) rfl dX3_latch_68 ?_
  refine lv_iadd hx hb dX3_latch_71 ?_
  refine tp_i (show (nI 8) + (nI ml) = nI (8 + ml) from nI_add _ _) ?_
  refine wr_V (As := [.int (nI (8 + ml))]) (rest := []) (wc := [(hm, .inr (3, [.int (nI 0), .int (nI nd), .ref q0, .ref q1, .int (nI mi), .int (nI ml), .ref q2, .ref q3, .ref q4, .ref q5, .ref q6, .ref q7, .ref q8, .ref q9, .int (nI sp), .int fa])), (q0, .inl (cI, 401, .inl fs)), (q1, .inl (cJ, 25664, .inr (.inl ft))), (q2, .inl (cI, 4, .inl fl)), (q3, .inl (cI, 8, .inl (fun j => nI (gS j)))), (q4, .inl (cI, 8, .inl (fun j => nI (gX j)))), (q5, .inl (cI, 8, .inl (fun j => nI (gT j)))), (q6, .inl (cI, 2, .inl (fun j => nI (gC j)))), (q7, .inl (cI, 32, .inl (fun j => nI (gO j)))), (q8, .inl (cI, 32, .inl fD)), (q9, .inl (cI, 2, .inl (fun j => nI (gE j))))]) (wr := []) (ci := 3) (q0 := 0) ⟨hx, hb, hml, hown, hts⟩ (w_X3_variable l D cI cJ tp hm q0 q1 q2 q3 q4 q5 q6 q7 q8 q9 (nI 0) nd fs ft mi ml fl gS gX gT gC gO fD gE sp fa (8 + ml) (by omega) (by omega) _) (cwV 1 hts gX3_latch_X3_variable rfl rfl rfl (by decide +kernel) ⟨Nat.le_of_ble_eq_true rfl, Nat.le_of_ble_eq_true rfl⟩) rfl rfl rfl hl.1 rfl (Nat.le_of_ble_eq_true rfl) dX3_latch_72 ⟨by show _ ≤ _; simp only [headSpec]; omega, by show _ ≤ _; simp only [headSpec]; omega⟩ hK hP hD hS hA hE [0, 1, 2, 3, 4, 5, 6, 7, 8, 9, 10] [] rfl rfl (by decide) (by decide) (by decide) (fun _u H locs _hu hP hD hS => ?_)
  have hP : va_P D vwCl [(hm, .inr (3, [.int (nI 0), .int (nI (nd + 1)), .ref q0, .ref q1, .int (nI mi), .int (nI ml), .ref q2, .ref q3, .ref q4, .ref q5, .ref q6, .ref q7, .ref q8, .ref q9, .int (nI sp), .int fa])), (q0, .inl (cI, 401, .inl (upd fs nd (-1)))), (q1, .inl (cJ, 25664, .inr (.inl (rwF ft nd (vwF (8 + ml)) 64)))), (q2, .inl (cI, 4, .inl fl)), (q3, .inl (cI, 8, .inl (fun j => nI (gS j)))), (q4, .inl (cI, 8, .inl (fun j => nI (gX j)))), (q5, .inl (cI, 8, .inl (fun j => nI (gT j)))), (q6, .inl (cI, 2, .inl (fun j => nI (gC j)))), (q7, .inl (cI, 32, .inl (fun j => nI (gO j)))), (q8, .inl (cI, 32, .inl fD)), (q9, .inl (cI, 2, .inl (fun j => nI (gE j))))] H := hP
  have hD : va_D A [(hm, .inr (3, [.int (nI 0), .int (nI (nd + 1)), .ref q0, .ref q1, .int (nI mi), .int (nI ml), .ref q2, .ref q3, .ref q4, .ref q5, .ref q6, .ref q7, .ref q8, .ref q9, .int (nI sp), .int fa])), (q0, .inl (cI, 401, .inl (upd fs nd (-1)))), (q1, .inl (cJ, 25664, .inr (.inl (rwF ft nd (vwF (8 + ml)) 64)))), (q2, .inl (cI, 4, .inl fl)), (q3, .inl (cI, 8, .inl (fun j => nI (gS j)))), (q4, .inl (cI, 8, .inl (fun j => nI (gX j)))), (q5, .inl (cI, 8, .inl (fun j => nI (gT j)))), (q6, .inl (cI, 2, .inl (fun j => nI (gC j)))), (q7, .inl (cI, 32, .inl (fun j => nI (gO j)))), (q8, .inl (cI, 32, .inl fD)), (q9, .inl (cI, 2, .inl (fun j => nI (gE j))))] := hD
  have hP := hP.sub (ws' := [(hm, .inr (3, [.int (nI 0), .int (nI (nd + 1)), .ref q0, .ref q1, .int (nI mi), .int (nI ml), .ref q2, .ref q3, .ref q4, .ref q5, .ref q6, .ref q7, .ref q8, .ref q9, .int (nI sp), .int fa])), (q0, .inl (cI, 401, .inl (upd fs nd (-1)))), (q1, .inl (cJ, 25664, .inr (.inl (rwF ft nd (vwF (8 + ml)) 64)))), (q2, .inl (cI, 4, .inl fl)), (q3, .inl (cI, 8, .inl (fun j => nI (gS j)))), (q4, .inl (cI, 8, .inl (fun j => nI (gX j)))), (q5, .inl (cI, 8, .inl (fun j => nI (gT j)))), (q6, .inl (cI, 2, .inl (fun j => nI (gC j)))), (q7, .inl (cI, 32, .inl (fun j => nI (gO j)))), (q8, .inl (cI, 32, .inl fD)), (q9, .inl (cI, 2, .inl (fun j => nI (gE j))))]) [0, 1, 2, 3, 4, 5, 6, 7, 8, 9, 10] rfl
  have hD := hD.sub (ws' := [(hm, .inr (3, [.int (nI 0), .int (nI (nd + 1)), .ref q0, .ref q1, .int (nI mi), .int (nI ml), .ref q2, .ref q3, .ref q4, .ref q5, .ref q6, .ref q7, .ref q8, .ref q9, .int (nI sp), .int fa])), (q0, .inl (cI, 401, .inl (upd fs nd (-1)))), (q1, .inl (cJ, 25664, .inr (.inl (rwF ft nd (vwF (8 + ml)) 64)))), (q2, .inl (cI, 4, .inl fl)), (q3, .inl (cI, 8, .inl (fun j => nI (gS j)))), (q4, .inl (cI, 8, .inl (fun j => nI (gX j)))), (q5, .inl (cI, 8, .inl (fun j => nI (gT j)))), (q6, .inl (cI, 2, .inl (fun j => nI (gC j)))), (q7, .inl (cI, 32, .inl (fun j => nI (gO j)))), (q8, .inl (cI, 32, .inl fD)), (q9, .inl (cI, 2, .inl (fun j => nI (gE j))))]) [0, 1, 2, 3, 4, 5, 6, 7, 8, 9, 10] (by decide) rfl
  refine W.widen (k := 0) (n := 0) (by omega) (by omega) ?_
  refine W.eq (g2 := F0 m 75 ls [.int (nI (2 * nd))]) rfl ?_
  refine lv_istore (lv' := [(4, .int (nI (2 * nd))), (3, .int (nI 1)), (0, .ref hm), (1, .int (nI ta)), (2, .int (nI tb))]) hx hb dX3_latch_75 hl (by decide) rfl (fun ls hl => ?_)
  refine lv_aload_n hx hb dX3_latch_77 rfl (lv_at hl 2 rfl) ?_
  refine va_get (D := D) (ci := 3) (v := .ref q2) (C := RX3) (T := TX3) (N := 16) hx hb hts hin3 hown hK hP 0 rfl rfl 6 (by decide) kf17 (fun _ h9 => h9) rfl dX3_latch_78 ?_
  refine lv_aload_n hx hb dX3_latch_81 rfl (lv_at hl 2 rfl) ?_
  refine va_get (D := D) (ci := 3) (v := .int (nI ml)) (C := RX3) (T := TX3) (N := 16) hx hb hts hin3 hown hK hP 0 rfl rfl 5 (by decide) kf54 (fun _ h9 => h9) rfl dX3_latch_82 ?_
  refine lv_iload hx hb dX3_latch_85 (lv_at hl 0 rfl) ?_
  refine lv_iconst (v := nI 2) hx hb dX3_latch_87 (by decide) ?_
  refine lv_idiv hx hb dX3_latch_88 (nI_ne0 (by omega) (by omega)) ?_
  refine tp_i (show (nI (2 * nd)) / (nI 2) = nI ((2 * nd) / 2) from pk_div (by omega) (by omega) (by omega)) ?_
  refine va_iast hx hb hK hP hD hS 3 0 rfl rfl (vp_in_nI (by omega) (by omega)) dX3_latch_89 (fun H locs hP hD hS => ?_)
  have hP : va_P D vwCl [(hm, .inr (3, [.int (nI 0), .int (nI (nd + 1)), .ref q0, .ref q1, .int (nI mi), .int (nI ml), .ref q2, .ref q3, .ref q4, .ref q5, .ref q6, .ref q7, .ref q8, .ref q9, .int (nI sp), .int fa])), (q0, .inl (cI, 401, .inl (upd fs nd (-1)))), (q1, .inl (cJ, 25664, .inr (.inl (rwF ft nd (vwF (8 + ml)) 64)))), (q2, .inl (cI, 4, .inl (upd fl (nI ml).toNatClampNeg (nI ((2 * nd) / 2))))), (q3, .inl (cI, 8, .inl (fun j => nI (gS j)))), (q4, .inl (cI, 8, .inl (fun j => nI (gX j)))), (q5, .inl (cI, 8, .inl (fun j => nI (gT j)))), (q6, .inl (cI, 2, .inl (fun j => nI (gC j)))), (q7, .inl (cI, 32, .inl (fun j => nI (gO j)))), (q8, .inl (cI, 32, .inl fD)), (q9, .inl (cI, 2, .inl (fun j => nI (gE j))))] H := hP
  have hD : va_D A [(hm, .inr (3, [.int (nI 0), .int (nI (nd + 1)), .ref q0, .ref q1, .int (nI mi), .int (nI ml), .ref q2, .ref q3, .ref q4, .ref q5, .ref q6, .ref q7, .ref q8, .ref q9, .int (nI sp), .int fa])), (q0, .inl (cI, 401, .inl (upd fs nd (-1)))), (q1, .inl (cJ, 25664, .inr (.inl (rwF ft nd (vwF (8 + ml)) 64)))), (q2, .inl (cI, 4, .inl (upd fl (nI ml).toNatClampNeg (nI ((2 * nd) / 2))))), (q3, .inl (cI, 8, .inl (fun j => nI (gS j)))), (q4, .inl (cI, 8, .inl (fun j => nI (gX j)))), (q5, .inl (cI, 8, .inl (fun j => nI (gT j)))), (q6, .inl (cI, 2, .inl (fun j => nI (gC j)))), (q7, .inl (cI, 32, .inl (fun j => nI (gO j)))), (q8, .inl (cI, 32, .inl fD)), (q9, .inl (cI, 2, .inl (fun j => nI (gE j))))] := hD
  rw [show upd fl (nI ml).toNatClampNeg (nI ((2 * nd) / 2)) = upd fl ml (nI ((2 * nd) / 2)) from upI _ (by omega)] at hP hD
  refine lv_aload_n hx hb dX3_latch_90 rfl (lv_at hl 2 rfl) ?_
  refine va_get (D := D) (ci := 3) (v := .ref q3) (C := RX3) (T := TX3) (N := 16) hx hb hts hin3 hown hK hP 0 rfl rfl 7 (by decide) kf20 (fun _ h9 => h9) rfl dX3_latch_91 ?_
  refine lv_aload_n hx hb dX3_latch_94 rfl (lv_at hl 2 rfl) ?_
  refine va_get (D := D) (ci := 3) (v := .int (nI ml)) (C := RX3) (T := TX3) (N := 16) hx hb hts hin3 hown hK hP 0 rfl rfl 5 (by decide) kf54 (fun _ h9 => h9) rfl dX3_latch_95 ?_
  refine lv_iload_n hx hb dX3_latch_98 rfl (lv_at hl 3 rfl) ?_
  refine va_iast hx hb hK hP hD hS 4 0 rfl rfl (vp_in_nI (by omega) (by omega)) dX3_latch_99 (fun H locs hP hD hS => ?_)
  have hP : va_P D vwCl [(hm, .inr (3, [.int (nI 0), .int (nI (nd + 1)), .ref q0, .ref q1, .int (nI mi), .int (nI ml), .ref q2, .ref q3, .ref q4, .ref q5, .ref q6, .ref q7, .ref q8, .ref q9, .int (nI sp), .int fa])), (q0, .inl (cI, 401, .inl (upd fs nd (-1)))), (q1, .inl (cJ, 25664, .inr (.inl (rwF ft nd (vwF (8 + ml)) 64)))), (q2, .inl (cI, 4, .inl (upd fl ml (nI ((2 * nd) / 2))))), (q3, .inl (cI, 8, .inl (upd (fun j => nI (gS j)) (nI ml).toNatClampNeg (nI ta)))), (q4, .inl (cI, 8, .inl (fun j => nI (gX j)))), (q5, .inl (cI, 8, .inl (fun j => nI (gT j)))), (q6, .inl (cI, 2, .inl (fun j => nI (gC j)))), (q7, .inl (cI, 32, .inl (fun j => nI (gO j)))), (q8, .inl (cI, 32, .inl fD)), (q9, .inl (cI, 2, .inl (fun j => nI (gE j))))] H := hP
  have hD : va_D A [(hm, .inr (3, [.int (nI 0), .int (nI (nd + 1)), .ref q0, .ref q1, .int (nI mi), .int (nI ml), .ref q2, .ref q3, .ref q4, .ref q5, .ref q6, .ref q7, .ref q8, .ref q9, .int (nI sp), .int fa])), (q0, .inl (cI, 401, .inl (upd fs nd (-1)))), (q1, .inl (cJ, 25664, .inr (.inl (rwF ft nd (vwF (8 + ml)) 64)))), (q2, .inl (cI, 4, .inl (upd fl ml (nI ((2 * nd) / 2))))), (q3, .inl (cI, 8, .inl (upd (fun j => nI (gS j)) (nI ml).toNatClampNeg (nI ta)))), (q4, .inl (cI, 8, .inl (fun j => nI (gX j)))), (q5, .inl (cI, 8, .inl (fun j => nI (gT j)))), (q6, .inl (cI, 2, .inl (fun j => nI (gC j)))), (q7, .inl (cI, 32, .inl (fun j => nI (gO j)))), (q8, .inl (cI, 32, .inl fD)), (q9, .inl (cI, 2, .inl (fun j => nI (gE j))))] := hD
  rw [show upd (fun j => nI (gS j)) (nI ml).toNatClampNeg (nI ta) = fun j => nI ((va_up gS ml ta) j) from upN _ (by omega)] at hP hD
  refine lv_aload_n hx hb dX3_latch_100 rfl (lv_at hl 2 rfl) ?_
  refine va_get (D := D) (ci := 3) (v := .ref q3) (C := RX3) (T := TX3) (N := 16) hx hb hts hin3 hown hK hP 0 rfl rfl 7 (by decide) kf20 (fun _ h9 => h9) rfl dX3_latch_101 ?_
  refine lv_iconst (v := nI 4) hx hb dX3_latch_104 (by decide) ?_
  refine lv_aload_n hx hb dX3_latch_105 rfl (lv_at hl 2 rfl) ?_
  refine va_get (D := D) (ci := 3) (v := .int (nI ml)) (C := RX3) (T := TX3) (N := 16) hx hb hts hin3 hown hK hP 0 rfl rfl 5 (by decide) kf54 (fun _ h9 => h9) rfl dX3_latch_106 ?_
  refine lv_iadd hx hb dX3_latch_109 ?_
  refine tp_i (show (nI 4) + (nI ml) = nI (4 + ml) from nI_add _ _) ?_
  refine lv_iload_n hx hb dX3_latch_110 rfl (lv_at hl 4 rfl) ?_
  refine va_iast hx hb hK hP hD hS 4 0 rfl rfl (vp_in_nI (by omega) (by omega)) dX3_latch_111 (fun H locs hP hD hS => ?_)
  have hP : va_P D vwCl [(hm, .inr (3, [.int (nI 0), .int (nI (nd + 1)), .ref q0, .ref q1, .int (nI mi), .int (nI ml), .ref q2, .ref q3, .ref q4, .ref q5, .ref q6, .ref q7, .ref q8, .ref q9, .int (nI sp), .int fa])), (q0, .inl (cI, 401, .inl (upd fs nd (-1)))), (q1, .inl (cJ, 25664, .inr (.inl (rwF ft nd (vwF (8 + ml)) 64)))), (q2, .inl (cI, 4, .inl (upd fl ml (nI ((2 * nd) / 2))))), (q3, .inl (cI, 8, .inl (upd (fun j => nI ((va_up gS ml ta) j)) (nI (4 + ml)).toNatClampNeg (nI tb)))), (q4, .inl (cI, 8, .inl (fun j => nI (gX j)))), (q5, .inl (cI, 8, .inl (fun j => nI (gT j)))), (q6, .inl (cI, 2, .inl (fun j => nI (gC j)))), (q7, .inl (cI, 32, .inl (fun j => nI (gO j)))), (q8, .inl (cI, 32, .inl fD)), (q9, .inl (cI, 2, .inl (fun j => nI (gE j))))] H := hP
  have hD : va_D A [(hm, .inr (3, [.int (nI 0), .int (nI (nd + 1)), .ref q0, .ref q1, .int (nI mi), .int (nI ml), .ref q2, .ref q3, .ref q4, .ref q5, .ref q6, .ref q7, .ref q8, .ref q9, .int (nI sp), .int fa])), (q0, .inl (cI, 401, .inl (upd fs nd (-1)))), (q1, .inl (cJ, 25664, .inr (.inl (rwF ft nd (vwF (8 + ml)) 64)))), (q2, .inl (cI, 4, .inl (upd fl ml (nI ((2 * nd) / 2))))), (q3, .inl (cI, 8, .inl (upd (fun j => nI ((va_up gS ml ta) j)) (nI (4 + ml)).toNatClampNeg (nI tb)))), (q4, .inl (cI, 8, .inl (fun j => nI (gX j)))), (q5, .inl (cI, 8, .inl (fun j => nI (gT j)))), (q6, .inl (cI, 2, .inl (fun j => nI (gC j)))), (q7, .inl (cI, 32, .inl (fun j => nI (gO j)))), (q8, .inl (cI, 32, .inl fD)), (q9, .inl (cI, 2, .inl (fun j => nI (gE j))))] := hD
  rw [show upd (fun j => nI ((va_up gS ml ta) j)) (nI (4 + ml)).toNatClampNeg (nI tb) = fun j => nI ((va_up (va_up gS ml ta) (4 + ml) tb) j) from upN _ (by omega)] at hP hD
  refine lv_aload_n hx hb dX3_latch_112 rfl (lv_at hl 2 rfl) ?_
  refine va_get (D := D) (ci := 3) (v := .ref q4) (C := RX3) (T := TX3) (N := 16) hx hb hts hin3 hown hK hP 0 rfl rfl 8 (by decide) kf23 (fun _ h9 => h9) rfl dX3_latch_113 ?_
  refine lv_aload_n hx hb dX3_latch_116 rfl (lv_at hl 2 rfl) ?_
  refine va_get (D := D) (ci := 3) (v := .int (nI ml)) (C := RX3) (T := TX3) (N := 16) hx hb hts hin3 hown hK hP 0 rfl rfl 5 (by decide) kf54 (fun _ h9 => h9) rfl dX3_latch_117 ?_
  refine lv_iload hx hb dX3_latch_120 (lv_at hl 0 rfl) ?_
  refine va_iast hx hb hK hP hD hS 5 0 rfl rfl (vp_in_nI (by omega) (by omega)) dX3_latch_122 (fun H locs hP hD hS => ?_)
  have hP : va_P D vwCl [(hm, .inr (3, [.int (nI 0), .int (nI (nd + 1)), .ref q0, .ref q1, .int (nI mi), .int (nI ml), .ref q2, .ref q3, .ref q4, .ref q5, .ref q6, .ref q7, .ref q8, .ref q9, .int (nI sp), .int fa])), (q0, .inl (cI, 401, .inl (upd fs nd (-1)))), (q1, .inl (cJ, 25664, .inr (.inl (rwF ft nd (vwF (8 + ml)) 64)))), (q2, .inl (cI, 4, .inl (upd fl ml (nI ((2 * nd) / 2))))), (q3, .inl (cI, 8, .inl (fun j => nI ((va_up (va_up gS ml ta) (4 + ml) tb) j)))), (q4, .inl (cI, 8, .inl (upd (fun j => nI (gX j)) (nI ml).toNatClampNeg (nI (2 * nd))))), (q5, .inl (cI, 8, .inl (fun j => nI (gT j)))), (q6, .inl (cI, 2, .inl (fun j => nI (gC j)))), (q7, .inl (cI, 32, .inl (fun j => nI (gO j)))), (q8, .inl (cI, 32, .inl fD)), (q9, .inl (cI, 2, .inl (fun j => nI (gE j))))] H := hP
  have hD : va_D A [(hm, .inr (3, [.int (nI 0), .int (nI (nd + 1)), .ref q0, .ref q1, .int (nI mi), .int (nI ml), .ref q2, .ref q3, .ref q4, .ref q5, .ref q6, .ref q7, .ref q8, .ref q9, .int (nI sp), .int fa])), (q0, .inl (cI, 401, .inl (upd fs nd (-1)))), (q1, .inl (cJ, 25664, .inr (.inl (rwF ft nd (vwF (8 + ml)) 64)))), (q2, .inl (cI, 4, .inl (upd fl ml (nI ((2 * nd) / 2))))), (q3, .inl (cI, 8, .inl (fun j => nI ((va_up (va_up gS ml ta) (4 + ml) tb) j)))), (q4, .inl (cI, 8, .inl (upd (fun j => nI (gX j)) (nI ml).toNatClampNeg (nI (2 * nd))))), (q5, .inl (cI, 8, .inl (fun j => nI (gT j)))), (q6, .inl (cI, 2, .inl (fun j => nI (gC j)))), (q7, .inl (cI, 32, .inl (fun j => nI (gO j)))), (q8, .inl (cI, 32, .inl fD)), (q9, .inl (cI, 2, .inl (fun j => nI (gE j))))] := hD
  rw [show upd (fun j => nI (gX j)) (nI ml).toNatClampNeg (nI (2 * nd)) = fun j => nI ((va_up gX ml (2 * nd)) j) from upN _ (by omega)] at hP hD
  refine lv_aload_n hx hb dX3_latch_123 rfl (lv_at hl 2 rfl) ?_
  refine va_get (D := D) (ci := 3) (v := .ref q4) (C := RX3) (T := TX3) (N := 16) hx hb hts hin3 hown hK hP 0 rfl rfl 8 (by decide) kf23 (fun _ h9 => h9) rfl dX3_latch_124 ?_
  refine lv_iconst (v := nI 4) hx hb dX3_latch_127 (by decide) ?_
  refine lv_aload_n hx hb dX3_latch_128 rfl (lv_at hl 2 rfl) ?_
  refine va_get (D := D) (ci := 3) (v := .int (nI ml)) (C := RX3) (T := TX3) (N := 16) hx hb hts hin3 hown hK hP 0 rfl rfl 5 (by decide) kf54 (fun _ h9 => h9) rfl dX3_latch_129 ?_
  refine lv_iadd hx hb dX3_latch_132 ?_
  refine tp_i (show (nI 4) + (nI ml) = nI (4 + ml) from nI_add _ _) ?_
  refine lv_iload hx hb dX3_latch_133 (lv_at hl 0 rfl) ?_
  refine va_iast hx hb hK hP hD hS 5 0 rfl rfl (vp_in_nI (by omega) (by omega)) dX3_latch_135 (fun H locs hP hD hS => ?_)
  have hP : va_P D vwCl [(hm, .inr (3, [.int (nI 0), .int (nI (nd + 1)), .ref q0, .ref q1, .int (nI mi), .int (nI ml), .ref q2, .ref q3, .ref q4, .ref q5, .ref q6, .ref q7, .ref q8, .ref q9, .int (nI sp), .int fa])), (q0, .inl (cI, 401, .inl (upd fs nd (-1)))), (q1, .inl (cJ, 25664, .inr (.inl (rwF ft nd (vwF (8 + ml)) 64)))), (q2, .inl (cI, 4, .inl (upd fl ml (nI ((2 * nd) / 2))))), (q3, .inl (cI, 8, .inl (fun j => nI ((va_up (va_up gS ml ta) (4 + ml) tb) j)))), (q4, .inl (cI, 8, .inl (upd (fun j => nI ((va_up gX ml (2 * nd)) j)) (nI (4 + ml)).toNatClampNeg (nI (2 * nd))))), (q5, .inl (cI, 8, .inl (fun j => nI (gT j)))), (q6, .inl (cI, 2, .inl (fun j => nI (gC j)))), (q7, .inl (cI, 32, .inl (fun j => nI (gO j)))), (q8, .inl (cI, 32, .inl fD)), (q9, .inl (cI, 2, .inl (fun j => nI (gE j))))] H := hP
  have hD : va_D A [(hm, .inr (3, [.int (nI 0), .int (nI (nd + 1)), .ref q0, .ref q1, .int (nI mi), .int (nI ml), .ref q2, .ref q3, .ref q4, .ref q5, .ref q6, .ref q7, .ref q8, .ref q9, .int (nI sp), .int fa])), (q0, .inl (cI, 401, .inl (upd fs nd (-1)))), (q1, .inl (cJ, 25664, .inr (.inl (rwF ft nd (vwF (8 + ml)) 64)))), (q2, .inl (cI, 4, .inl (upd fl ml (nI ((2 * nd) / 2))))), (q3, .inl (cI, 8, .inl (fun j => nI ((va_up (va_up gS ml ta) (4 + ml) tb) j)))), (q4, .inl (cI, 8, .inl (upd (fun j => nI ((va_up gX ml (2 * nd)) j)) (nI (4 + ml)).toNatClampNeg (nI (2 * nd))))), (q5, .inl (cI, 8, .inl (fun j => nI (gT j)))), (q6, .inl (cI, 2, .inl (fun j => nI (gC j)))), (q7, .inl (cI, 32, .inl (fun j => nI (gO j)))), (q8, .inl (cI, 32, .inl fD)), (q9, .inl (cI, 2, .inl (fun j => nI (gE j))))] := hD
  rw [show upd (fun j => nI ((va_up gX ml (2 * nd)) j)) (nI (4 + ml)).toNatClampNeg (nI (2 * nd)) = fun j => nI ((va_up (va_up gX ml (2 * nd)) (4 + ml) (2 * nd)) j) from upN _ (by omega)] at hP hD
  refine lv_aload_n hx hb dX3_latch_136 rfl (lv_at hl 2 rfl) ?_
  refine lv_dup hx hb dX3_latch_137 rfl ?_
  refine va_get (D := D) (ci := 3) (v := .int (nI ml)) (C := RX3) (T := TX3) (N := 16) hx hb hts hin3 hown hK hP 0 rfl rfl 5 (by decide) kf54 (fun _ h9 => h9) rfl dX3_latch_138 ?_
  refine lv_iconst (v := nI 1) hx hb dX3_latch_141 (by decide) ?_
  refine lv_iadd hx hb dX3_latch_142 ?_
  refine tp_i (show (nI ml) + (nI 1) = nI (ml + 1) from nI_add _ _) ?_
  refine va_put (D := D) (ci := 3) (v := .int (nI (ml + 1))) (ty := .int) (C := RX3) (T := TX3) (N := 16) hx hb hts hin3 tyX3 tyX3_ok nmX3 hown hK hP hD hS 0 rfl rfl 5 (by decide) kf54 (fun _ h9 => h9) rfl (by decide +kernel) rfl rfl (Nat.le_of_ble_eq_true rfl) dX3_latch_143 (fun H locs hP hD hS => ?_)
  have hP : va_P D vwCl [(hm, .inr (3, [.int (nI 0), .int (nI (nd + 1)), .ref q0, .ref q1, .int (nI mi), .int (nI (ml + 1)), .ref q2, .ref q3, .ref q4, .ref q5, .ref q6, .ref q7, .ref q8, .ref q9, .int (nI sp), .int fa])), (q0, .inl (cI, 401, .inl (upd fs nd (-1)))), (q1, .inl (cJ, 25664, .inr (.inl (rwF ft nd (vwF (8 + ml)) 64)))), (q2, .inl (cI, 4, .inl (upd fl ml (nI ((2 * nd) / 2))))), (q3, .inl (cI, 8, .inl (fun j => nI ((va_up (va_up gS ml ta) (4 + ml) tb) j)))), (q4, .inl (cI, 8, .inl (fun j => nI ((va_up (va_up gX ml (2 * nd)) (4 + ml) (2 * nd)) j)))), (q5, .inl (cI, 8, .inl (fun j => nI (gT j)))), (q6, .inl (cI, 2, .inl (fun j => nI (gC j)))), (q7, .inl (cI, 32, .inl (fun j => nI (gO j)))), (q8, .inl (cI, 32, .inl fD)), (q9, .inl (cI, 2, .inl (fun j => nI (gE j))))] H := hP
  have hD : va_D A [(hm, .inr (3, [.int (nI 0), .int (nI (nd + 1)), .ref q0, .ref q1, .int (nI mi), .int (nI (ml + 1)), .ref q2, .ref q3, .ref q4, .ref q5, .ref q6, .ref q7, .ref q8, .ref q9, .int (nI sp), .int fa])), (q0, .inl (cI, 401, .inl (upd fs nd (-1)))), (q1, .inl (cJ, 25664, .inr (.inl (rwF ft nd (vwF (8 + ml)) 64)))), (q2, .inl (cI, 4, .inl (upd fl ml (nI ((2 * nd) / 2))))), (q3, .inl (cI, 8, .inl (fun j => nI ((va_up (va_up gS ml ta) (4 + ml) tb) j)))), (q4, .inl (cI, 8, .inl (fun j => nI ((va_up (va_up gX ml (2 * nd)) (4 + ml) (2 * nd)) j)))), (q5, .inl (cI, 8, .inl (fun j => nI (gT j)))), (q6, .inl (cI, 2, .inl (fun j => nI (gC j)))), (q7, .inl (cI, 32, .inl (fun j => nI (gO j)))), (q8, .inl (cI, 32, .inl fD)), (q9, .inl (cI, 2, .inl (fun j => nI (gE j))))] := hD
  refine lv_aload_n hx hb dX3_latch_146 rfl (lv_at hl 2 rfl) ?_
  refine wr_V (As := []) (rest := []) (wc := [(hm, .inr (3, [.int (nI 0), .int (nI (nd + 1)), .ref q0, .ref q1, .int (nI mi), .int (nI (ml + 1)), .ref q2, .ref q3, .ref q4, .ref q5, .ref q6, .ref q7, .ref q8, .ref q9, .int (nI sp), .int fa])), (q0, .inl (cI, 401, .inl (upd fs nd (-1)))), (q1, .inl (cJ, 25664, .inr (.inl (rwF ft nd (vwF (8 + ml)) 64)))), (q2, .inl (cI, 4, .inl (upd fl ml (nI ((2 * nd) / 2))))), (q3, .inl (cI, 8, .inl (fun j => nI ((va_up (va_up gS ml ta) (4 + ml) tb) j)))), (q4, .inl (cI, 8, .inl (fun j => nI ((va_up (va_up gX ml (2 * nd)) (4 + ml) (2 * nd)) j)))), (q5, .inl (cI, 8, .inl (fun j => nI (gT j)))), (q6, .inl (cI, 2, .inl (fun j => nI (gC j)))), (q7, .inl (cI, 32, .inl (fun j => nI (gO j)))), (q8, .inl (cI, 32, .inl fD)), (q9, .inl (cI, 2, .inl (fun j => nI (gE j))))]) (wr := []) (ci := 3) (q0 := 0) ⟨hx, hb, hml, hown, hts⟩ (w_X3_start l D cI cJ tp hm q0 q1 q2 q3 q4 q5 q6 q7 q8 q9 (nI 0) (nd + 1) (upd fs nd (-1)) (rwF ft nd (vwF (8 + ml)) 64) mi (ml + 1) (upd fl ml (nI ((2 * nd) / 2))) (va_up (va_up gS ml ta) (4 + ml) tb) (va_up (va_up gX ml (2 * nd)) (4 + ml) (2 * nd)) gT gC gO fD gE sp fa _) (cwV 0 hts gX3_latch_X3_start rfl rfl rfl (by decide +kernel) ⟨Nat.le_of_ble_eq_true rfl, Nat.le_of_ble_eq_true rfl⟩) rfl rfl rfl hl.1 rfl (Nat.le_of_ble_eq_true rfl) dX3_latch_147 ⟨by show _ ≤ _; simp only [headSpec]; omega, by show _ ≤ _; simp only [headSpec]; omega⟩ hK hP hD hS hA hE [0, 1, 2, 3, 4, 5, 6, 7, 8, 9, 10] [] rfl rfl (by decide) (by decide) (by decide) (fun _u H locs _hu hP hD hS => ?_)
  have hP : va_P D vwCl [(hm, .inr (3, [.int (nI 0), .int (nI (nd + 1)), .ref q0, .ref q1, .int (nI mi), .int (nI (ml + 1)), .ref q2, .ref q3, .ref q4, .ref q5, .ref q6, .ref q7, .ref q8, .ref q9, .int (nI 0), .int (-1)])), (q0, .inl (cI, 401, .inl (upd fs nd (-1)))), (q1, .inl (cJ, 25664, .inr (.inl (rwF ft nd (vwF (8 + ml)) 64)))), (q2, .inl (cI, 4, .inl (upd fl ml (nI (2 * nd / 2))))), (q3, .inl (cI, 8, .inl (fun j => nI ((va_up (va_up gS ml ta) (4 + ml) tb) j)))), (q4, .inl (cI, 8, .inl (fun j => nI ((va_up (va_up gX ml (2 * nd)) (4 + ml) (2 * nd)) j)))), (q5, .inl (cI, 8, .inl (fun j => nI ((cpF (va_up (va_up gS ml ta) (4 + ml) tb) gT 8) j)))), (q6, .inl (cI, 2, .inl (fun j => nI (gC j)))), (q7, .inl (cI, 32, .inl (fun j => nI (gO j)))), (q8, .inl (cI, 32, .inl fD)), (q9, .inl (cI, 2, .inl (fun j => nI ((va_up (va_up gE 0 0) 1 0) j))))] H := hP
  have hD : va_D A [(hm, .inr (3, [.int (nI 0), .int (nI (nd + 1)), .ref q0, .ref q1, .int (nI mi), .int (nI (ml + 1)), .ref q2, .ref q3, .ref q4, .ref q5, .ref q6, .ref q7, .ref q8, .ref q9, .int (nI 0), .int (-1)])), (q0, .inl (cI, 401, .inl (upd fs nd (-1)))), (q1, .inl (cJ, 25664, .inr (.inl (rwF ft nd (vwF (8 + ml)) 64)))), (q2, .inl (cI, 4, .inl (upd fl ml (nI (2 * nd / 2))))), (q3, .inl (cI, 8, .inl (fun j => nI ((va_up (va_up gS ml ta) (4 + ml) tb) j)))), (q4, .inl (cI, 8, .inl (fun j => nI ((va_up (va_up gX ml (2 * nd)) (4 + ml) (2 * nd)) j)))), (q5, .inl (cI, 8, .inl (fun j => nI ((cpF (va_up (va_up gS ml ta) (4 + ml) tb) gT 8) j)))), (q6, .inl (cI, 2, .inl (fun j => nI (gC j)))), (q7, .inl (cI, 32, .inl (fun j => nI (gO j)))), (q8, .inl (cI, 32, .inl fD)), (q9, .inl (cI, 2, .inl (fun j => nI ((va_up (va_up gE 0 0) 1 0) j))))] := hD
  have hP := hP.sub (ws' := [(hm, .inr (3, [.int (nI 0), .int (nI (nd + 1)), .ref q0, .ref q1, .int (nI mi), .int (nI (ml + 1)), .ref q2, .ref q3, .ref q4, .ref q5, .ref q6, .ref q7, .ref q8, .ref q9, .int (nI 0), .int (-1)])), (q0, .inl (cI, 401, .inl (upd fs nd (-1)))), (q1, .inl (cJ, 25664, .inr (.inl (rwF ft nd (vwF (8 + ml)) 64)))), (q2, .inl (cI, 4, .inl (upd fl ml (nI (2 * nd / 2))))), (q3, .inl (cI, 8, .inl (fun j => nI ((va_up (va_up gS ml ta) (4 + ml) tb) j)))), (q4, .inl (cI, 8, .inl (fun j => nI ((va_up (va_up gX ml (2 * nd)) (4 + ml) (2 * nd)) j)))), (q5, .inl (cI, 8, .inl (fun j => nI ((cpF (va_up (va_up gS ml ta) (4 + ml) tb) gT 8) j)))), (q6, .inl (cI, 2, .inl (fun j => nI (gC j)))), (q7, .inl (cI, 32, .inl (fun j => nI (gO j)))), (q8, .inl (cI, 32, .inl fD)), (q9, .inl (cI, 2, .inl (fun j => nI ((va_up (va_up gE 0 0) 1 0) j))))]) [0, 1, 2, 3, 4, 5, 6, 7, 8, 9, 10] rfl
  have hD := hD.sub (ws' := [(hm, .inr (3, [.int (nI 0), .int (nI (nd + 1)), .ref q0, .ref q1, .int (nI mi), .int (nI (ml + 1)), .ref q2, .ref q3, .ref q4, .ref q5, .ref q6, .ref q7, .ref q8, .ref q9, .int (nI 0), .int (-1)])), (q0, .inl (cI, 401, .inl (upd fs nd (-1)))), (q1, .inl (cJ, 25664, .inr (.inl (rwF ft nd (vwF (8 + ml)) 64)))), (q2, .inl (cI, 4, .inl (upd fl ml (nI (2 * nd / 2))))), (q3, .inl (cI, 8, .inl (fun j => nI ((va_up (va_up gS ml ta) (4 + ml) tb) j)))), (q4, .inl (cI, 8, .inl (fun j => nI ((va_up (va_up gX ml (2 * nd)) (4 + ml) (2 * nd)) j)))), (q5, .inl (cI, 8, .inl (fun j => nI ((cpF (va_up (va_up gS ml ta) (4 + ml) tb) gT 8) j)))), (q6, .inl (cI, 2, .inl (fun j => nI (gC j)))), (q7, .inl (cI, 32, .inl (fun j => nI (gO j)))), (q8, .inl (cI, 32, .inl fD)), (q9, .inl (cI, 2, .inl (fun j => nI ((va_up (va_up gE 0 0) 1 0) j))))]) [0, 1, 2, 3, 4, 5, 6, 7, 8, 9, 10] (by decide) rfl
  refine W.widen (k := 0) (n := 0) (by omega) (by omega) ?_
  refine W.eq (g2 := F0 m 150 ls []) rfl ?_
  refine lv_iload hx hb dX3_latch_150 (lv_at hl 0 rfl) ?_
  exact wr_i (()) hx hb hr hlocks hP hD hS dX3_latch_152 (rfl) (trivial)
set_option maxHeartbeats 4000000 in
set_option maxRecDepth 100000 in
/-- latch: no room -/
theorem w_X3_latchB1 (x y : Int32) (hml9 : ml ≤ 4) (hnd : nd ≤ 400) (hb0 : ml = 4 ∨ nd = 400) (sz : Nat) : Met l yX3_latch wsX3_latch { frames := 1, cells := 0, slots := 0, locals := 22 } (wr_P D [(cI, .int), (cJ, .long)] (mW hm q0 q1 q2 q3 q4 q5 q6 q7 q8 q9 cI cJ th nd fs ft mi ml fl gS gX gT gC gO fD gE sp fa) sz tp [.ref hm, .int x, .int y]) (wx (Su := Unit) D [(cI, .int), (cJ, .long)] (va_A (mW hm q0 q1 q2 q3 q4 q5 q6 q7 q8 q9 cI cJ th nd fs ft mi ml fl gS gX gT gC gO fD gE sp fa) sz) (fun _ => some (.int (nI 0))) (fun _ => True) (fun _ => mW hm q0 q1 q2 q3 q4 q5 q6 q7 q8 q9 cI cJ (nI 1) nd fs ft mi ml fl gS gX gT gC gO fD gE sp fa)) 0 0 (va_A (mW hm q0 q1 q2 q3 q4 q5 q6 q7 q8 q9 cI cJ th nd fs ft mi ml fl gS gX gT gC gO fD gE sp fa) sz) := by
  refine Met.ofW (cc := cX3_latch) (maxL := 5) (ret := (some .int)) (by decide) rfl ?_
  intro p e s m args below meth c s₁ B hml hv
  obtain ⟨rfl, hsz, ⟨hP, hK, hD0⟩, hE⟩ := hv
  have hx := B.exec
  have hb := B.bytes
  have hr := B.returns
  have hts := atoms_spec (ws := wsX3_latch) B.pre
  have hown : s.vm.findClass RX3 = some m.cls := findClass_of_methodNamed B.named
  have hlocks := B.notSynchronized
  subst hsz
  have hD := hD0.self (sz := s.heap.size)
  generalize hAe : va_A (mW hm q0 q1 q2 q3 q4 q5 q6 q7 q8 q9 cI cJ th nd fs ft mi ml fl gS gX gT gC gO fD gE sp fa) s.heap.size = A at hD hE ⊢
  have hA : ∀ q : Nat, s.heap.size ≤ q → A q := fun q h => by rw [← hAe]; exact Or.inr h
  have hS : va_S A s.heap s.heap [] := va_S.rf
  have hP : va_P D vwCl [(hm, .inr (3, [.int th, .int (nI nd), .ref q0, .ref q1, .int (nI mi), .int (nI ml), .ref q2, .ref q3, .ref q4, .ref q5, .ref q6, .ref q7, .ref q8, .ref q9, .int (nI sp), .int fa])), (q0, .inl (cI, 401, .inl fs)), (q1, .inl (cJ, 25664, .inr (.inl ft))), (q2, .inl (cI, 4, .inl fl)), (q3, .inl (cI, 8, .inl (fun j => nI (gS j)))), (q4, .inl (cI, 8, .inl (fun j => nI (gX j)))), (q5, .inl (cI, 8, .inl (fun j => nI (gT j)))), (q6, .inl (cI, 2, .inl (fun j => nI (gC j)))), (q7, .inl (cI, 32, .inl (fun j => nI (gO j)))), (q8, .inl (cI, 32, .inl fD)), (q9, .inl (cI, 2, .inl (fun j => nI (gE j))))] s.heap := hP
  have hD : va_D A [(hm, .inr (3, [.int th, .int (nI nd), .ref q0, .ref q1, .int (nI mi), .int (nI ml), .ref q2, .ref q3, .ref q4, .ref q5, .ref q6, .ref q7, .ref q8, .ref q9, .int (nI sp), .int fa])), (q0, .inl (cI, 401, .inl fs)), (q1, .inl (cJ, 25664, .inr (.inl ft))), (q2, .inl (cI, 4, .inl fl)), (q3, .inl (cI, 8, .inl (fun j => nI (gS j)))), (q4, .inl (cI, 8, .inl (fun j => nI (gX j)))), (q5, .inl (cI, 8, .inl (fun j => nI (gT j)))), (q6, .inl (cI, 2, .inl (fun j => nI (gC j)))), (q7, .inl (cI, 32, .inl (fun j => nI (gO j)))), (q8, .inl (cI, 32, .inl fD)), (q9, .inl (cI, 2, .inl (fun j => nI (gE j))))] := hD
  have hl := lv_entry ([.ref hm, .int x, .int y]) (n := 5) (Nat.le_of_ble_eq_true rfl)
  rw [lg_entry_eq]
  generalize (lg_sl ([.ref hm, .int x, .int y]) ++ List.replicate (5 - (lg_sl ([.ref hm, .int x, .int y])).length) Slot.unset).toArray = ls at hl ⊢
  have hl : lv_has ls 5 [(0, .ref hm), (1, .int x), (2, .int y)] := hl
  have hin3 : ∀ w ∈ wsX30, w ∈ wsX3_latch := by decide +kernel
  have kf54 := hts (.fieldLink RX3 54 "SweepEqualModel" "latches" "I") (by decide +kernel)
  have kf48 := hts (.fieldLink RX3 48 "SweepEqualModel" "nodes" "I") (by decide +kernel)
  have kf44 := hts (.fieldLink RX3 44 "SweepEqualModel" "thrown" "I") (by decide +kernel)
  have kf17 := hts (.fieldLink RX3 17 "SweepEqualModel" "latchNodes" "[I") (by decide +kernel)
  have kf20 := hts (.fieldLink RX3 20 "SweepEqualModel" "starts" "[I") (by decide +kernel)
  have kf23 := hts (.fieldLink RX3 23 "SweepEqualModel" "nexts" "[I") (by decide +kernel)
  refine lv_aload_n hx hb dX3_latch_0 rfl (lv_at hl 0 rfl) ?_
  refine va_get (D := D) (ci := 3) (v := .int (nI ml)) (C := RX3) (T := TX3) (N := 16) hx hb hts hin3 hown hK hP 0 rfl rfl 5 (by decide) kf54 (fun _ h9 => h9) rfl dX3_latch_1 ?_
  refine lv_iconst (v := nI 4) hx hb dX3_latch_4 (by decide) ?_
  refine lv_icmp_ge (tgt := 22) hx hb dX3_latch_5 (by decide) (fun c1 => ?_) (fun c1 => ?_)
  · have c1 : 4 ≤ ml := (nI_leI (by omega) (by omega)).mp c1
    refine lv_iconst (v := nI 0) hx hb dX3_latch_22 (by decide) ?_
    refine lv_istore_n (lv' := [(3, .int (nI 0)), (0, .ref hm), (1, .int x), (2, .int y)]) hx hb dX3_latch_23 rfl hl (by decide) rfl (fun ls hl => ?_)
    refine lv_aload_n hx hb dX3_latch_24 rfl (lv_at hl 1 rfl) ?_
    refine lv_iload_n hx hb dX3_latch_25 rfl (lv_at hl 0 rfl) ?_
    refine lv_if_ne (tgt := 33) hx hb dX3_latch_26 (by decide) (fun hc => absurd hc (by decide)) (fun _ => ?_)
    refine lv_iconst (v := nI 1) hx hb dX3_latch_29 (by decide) ?_
    refine lv_goto (tgt := 52) hx hb dX3_latch_30 (by decide) ?_
    refine va_put (D := D) (ci := 3) (v := .int (nI 1)) (ty := .int) (C := RX3) (T := TX3) (N := 16) hx hb hts hin3 tyX3 tyX3_ok nmX3 hown hK hP hD hS 0 rfl rfl 0 (by decide) kf44 (fun _ h9 => h9) rfl (by decide +kernel) rfl rfl (Nat.le_of_ble_eq_true rfl) dX3_latch_52 (fun H locs hP hD hS => ?_)
    have hP : va_P D vwCl [(hm, .inr (3, [.int (nI 1), .int (nI nd), .ref q0, .ref q1, .int (nI mi), .int (nI ml), .ref q2, .ref q3, .ref q4, .ref q5, .ref q6, .ref q7, .ref q8, .ref q9, .int (nI sp), .int fa])), (q0, .inl (cI, 401, .inl fs)), (q1, .inl (cJ, 25664, .inr (.inl ft))), (q2, .inl (cI, 4, .inl fl)), (q3, .inl (cI, 8, .inl (fun j => nI (gS j)))), (q4, .inl (cI, 8, .inl (fun j => nI (gX j)))), (q5, .inl (cI, 8, .inl (fun j => nI (gT j)))), (q6, .inl (cI, 2, .inl (fun j => nI (gC j)))), (q7, .inl (cI, 32, .inl (fun j => nI (gO j)))), (q8, .inl (cI, 32, .inl fD)), (q9, .inl (cI, 2, .inl (fun j => nI (gE j))))] H := hP
    have hD : va_D A [(hm, .inr (3, [.int (nI 1), .int (nI nd), .ref q0, .ref q1, .int (nI mi), .int (nI ml), .ref q2, .ref q3, .ref q4, .ref q5, .ref q6, .ref q7, .ref q8, .ref q9, .int (nI sp), .int fa])), (q0, .inl (cI, 401, .inl fs)), (q1, .inl (cJ, 25664, .inr (.inl ft))), (q2, .inl (cI, 4, .inl fl)), (q3, .inl (cI, 8, .inl (fun j => nI (gS j)))), (q4, .inl (cI, 8, .inl (fun j => nI (gX j)))), (q5, .inl (cI, 8, .inl (fun j => nI (gT j)))), (q6, .inl (cI, 2, .inl (fun j => nI (gC j)))), (q7, .inl (cI, 32, .inl (fun j => nI (gO j)))), (q8, .inl (cI, 32, .inl fD)), (q9, .inl (cI, 2, .inl (fun j => nI (gE j))))] := hD
    refine lv_aload_n hx hb dX3_latch_55 rfl (lv_at hl 1 rfl) ?_
    refine va_get (D := D) (ci := 3) (v := .int (nI 1)) (C := RX3) (T := TX3) (N := 16) hx hb hts hin3 hown hK hP 0 rfl rfl 0 (by decide) kf44 (fun _ h9 => h9) rfl dX3_latch_56 ?_
    refine lv_if_le (tgt := 64) hx hb dX3_latch_59 (by decide) (fun hc => absurd hc (by decide)) (fun _ => ?_)
    refine lv_iconst (v := nI 0) hx hb dX3_latch_62 (by decide) ?_
    exact wr_i (()) hx hb hr hlocks hP hD hS dX3_latch_63 (rfl) (trivial)
  · have c1 : ¬ (4 ≤ ml) := fun h => c1 ((nI_leI (by omega) (by omega)).mpr h)
    refine lv_aload_n hx hb dX3_latch_8 rfl (lv_at hl 0 rfl) ?_
    refine va_get (D := D) (ci := 3) (v := .int (nI nd)) (C := RX3) (T := TX3) (N := 16) hx hb hts hin3 hown hK hP 0 rfl rfl 1 (by decide) kf48 (fun _ h9 => h9) rfl dX3_latch_9 ?_
    refine lv_sipush (v := nI 400) hx hb dX3_latch_12 (by decide) ?_
    refine lv_icmp_ge (tgt := 22) hx hb dX3_latch_15 (by decide) (fun _ => ?_) (fun hc => absurd ((nI_leI (by omega) (by omega)).mpr (by omega)) hc)
    refine lv_iconst (v := nI 0) hx hb dX3_latch_22 (by decide) ?_
    refine lv_istore_n (lv' := [(3, .int (nI 0)), (0, .ref hm), (1, .int x), (2, .int y)]) hx hb dX3_latch_23 rfl hl (by decide) rfl (fun ls hl => ?_)
    refine lv_aload_n hx hb dX3_latch_24 rfl (lv_at hl 1 rfl) ?_
    refine lv_iload_n hx hb dX3_latch_25 rfl (lv_at hl 0 rfl) ?_
    refine lv_if_ne (tgt := 33) hx hb dX3_latch_26 (by decide) (fun hc => absurd hc (by decide)) (fun _ => ?_)
    refine lv_iconst (v := nI 1) hx hb dX3_latch_29 (by decide) ?_
    refine lv_goto (tgt := 52) hx hb dX3_latch_30 (by decide) ?_
    refine va_put (D := D) (ci := 3) (v := .int (nI 1)) (ty := .int) (C := RX3) (T := TX3) (N := 16) hx hb hts hin3 tyX3 tyX3_ok nmX3 hown hK hP hD hS 0 rfl rfl 0 (by decide) kf44 (fun _ h9 => h9) rfl (by decide +kernel) rfl rfl (Nat.le_of_ble_eq_true rfl) dX3_latch_52 (fun H locs hP hD hS => ?_)
    have hP : va_P D vwCl [(hm, .inr (3, [.int (nI 1), .int (nI nd), .ref q0, .ref q1, .int (nI mi), .int (nI ml), .ref q2, .ref q3, .ref q4, .ref q5, .ref q6, .ref q7, .ref q8, .ref q9, .int (nI sp), .int fa])), (q0, .inl (cI, 401, .inl fs)), (q1, .inl (cJ, 25664, .inr (.inl ft))), (q2, .inl (cI, 4, .inl fl)), (q3, .inl (cI, 8, .inl (fun j => nI (gS j)))), (q4, .inl (cI, 8, .inl (fun j => nI (gX j)))), (q5, .inl (cI, 8, .inl (fun j => nI (gT j)))), (q6, .inl (cI, 2, .inl (fun j => nI (gC j)))), (q7, .inl (cI, 32, .inl (fun j => nI (gO j)))), (q8, .inl (cI, 32, .inl fD)), (q9, .inl (cI, 2, .inl (fun j => nI (gE j))))] H := hP
    have hD : va_D A [(hm, .inr (3, [.int (nI 1), .int (nI nd), .ref q0, .ref q1, .int (nI mi), .int (nI ml), .ref q2, .ref q3, .ref q4, .ref q5, .ref q6, .ref q7, .ref q8, .ref q9, .int (nI sp), .int fa])), (q0, .inl (cI, 401, .inl fs)), (q1, .inl (cJ, 25664, .inr (.inl ft))), (q2, .inl (cI, 4, .inl fl)), (q3, .inl (cI, 8, .inl (fun j => nI (gS j)))), (q4, .inl (cI, 8, .inl (fun j => nI (gX j)))), (q5, .inl (cI, 8, .inl (fun j => nI (gT j)))), (q6, .inl (cI, 2, .inl (fun j => nI (gC j)))), (q7, .inl (cI, 32, .inl (fun j => nI (gO j)))), (q8, .inl (cI, 32, .inl fD)), (q9, .inl (cI, 2, .inl (fun j => nI (gE j))))] := hD
    refine lv_aload_n hx hb dX3_latch_55 rfl (lv_at hl 1 rfl) ?_
    refine va_get (D := D) (ci := 3) (v := .int (nI 1)) (C := RX3) (T := TX3) (N := 16) hx hb hts hin3 hown hK hP 0 rfl rfl 0 (by decide) kf44 (fun _ h9 => h9) rfl dX3_latch_56 ?_
    refine lv_if_le (tgt := 64) hx hb dX3_latch_59 (by decide) (fun hc => absurd hc (by decide)) (fun _ => ?_)
    refine lv_iconst (v := nI 0) hx hb dX3_latch_62 (by decide) ?_
    exact wr_i (()) hx hb hr hlocks hP hD hS dX3_latch_63 (rfl) (trivial)
set_option maxHeartbeats 4000000 in
set_option maxRecDepth 100000 in
/-- latch: no such start -/
theorem w_X3_latchB2 (x y : Int32) (hml9 : ml < 4) (hnd : nd < 400) (hb0 : ¬ (x = 0 ∨ x = 1) ∨ ¬ (y = 0 ∨ y = 1)) (sz : Nat) : Met l yX3_latch wsX3_latch { frames := 1, cells := 0, slots := 0, locals := 22 } (wr_P D [(cI, .int), (cJ, .long)] (mW hm q0 q1 q2 q3 q4 q5 q6 q7 q8 q9 cI cJ th nd fs ft mi ml fl gS gX gT gC gO fD gE sp fa) sz tp [.ref hm, .int x, .int y]) (wx (Su := Unit) D [(cI, .int), (cJ, .long)] (va_A (mW hm q0 q1 q2 q3 q4 q5 q6 q7 q8 q9 cI cJ th nd fs ft mi ml fl gS gX gT gC gO fD gE sp fa) sz) (fun _ => some (.int (nI 0))) (fun _ => True) (fun _ => mW hm q0 q1 q2 q3 q4 q5 q6 q7 q8 q9 cI cJ (nI 2) nd fs ft mi ml fl gS gX gT gC gO fD gE sp fa)) 0 0 (va_A (mW hm q0 q1 q2 q3 q4 q5 q6 q7 q8 q9 cI cJ th nd fs ft mi ml fl gS gX gT gC gO fD gE sp fa) sz) := by
  refine Met.ofW (cc := cX3_latch) (maxL := 5) (ret := (some .int)) (by decide) rfl ?_
  intro p e s m args below meth c s₁ B hml hv
  obtain ⟨rfl, hsz, ⟨hP, hK, hD0⟩, hE⟩ := hv
  have hx := B.exec
  have hb := B.bytes
  have hr := B.returns
  have hts := atoms_spec (ws := wsX3_latch) B.pre
  have hown : s.vm.findClass RX3 = some m.cls := findClass_of_methodNamed B.named
  have hlocks := B.notSynchronized
  subst hsz
  have hD := hD0.self (sz := s.heap.size)
  generalize hAe : va_A (mW hm q0 q1 q2 q3 q4 q5 q6 q7 q8 q9 cI cJ th nd fs ft mi ml fl gS gX gT gC gO fD gE sp fa) s.heap.size = A at hD hE ⊢
  have hA : ∀ q : Nat, s.heap.size ≤ q → A q := fun q h => by rw [← hAe]; exact Or.inr h
  have hS : va_S A s.heap s.heap [] := va_S.rf
  have hP : va_P D vwCl [(hm, .inr (3, [.int th, .int (nI nd), .ref q0, .ref q1, .int (nI mi), .int (nI ml), .ref q2, .ref q3, .ref q4, .ref q5, .ref q6, .ref q7, .ref q8, .ref q9, .int (nI sp), .int fa])), (q0, .inl (cI, 401, .inl fs)), (q1, .inl (cJ, 25664, .inr (.inl ft))), (q2, .inl (cI, 4, .inl fl)), (q3, .inl (cI, 8, .inl (fun j => nI (gS j)))), (q4, .inl (cI, 8, .inl (fun j => nI (gX j)))), (q5, .inl (cI, 8, .inl (fun j => nI (gT j)))), (q6, .inl (cI, 2, .inl (fun j => nI (gC j)))), (q7, .inl (cI, 32, .inl (fun j => nI (gO j)))), (q8, .inl (cI, 32, .inl fD)), (q9, .inl (cI, 2, .inl (fun j => nI (gE j))))] s.heap := hP
  have hD : va_D A [(hm, .inr (3, [.int th, .int (nI nd), .ref q0, .ref q1, .int (nI mi), .int (nI ml), .ref q2, .ref q3, .ref q4, .ref q5, .ref q6, .ref q7, .ref q8, .ref q9, .int (nI sp), .int fa])), (q0, .inl (cI, 401, .inl fs)), (q1, .inl (cJ, 25664, .inr (.inl ft))), (q2, .inl (cI, 4, .inl fl)), (q3, .inl (cI, 8, .inl (fun j => nI (gS j)))), (q4, .inl (cI, 8, .inl (fun j => nI (gX j)))), (q5, .inl (cI, 8, .inl (fun j => nI (gT j)))), (q6, .inl (cI, 2, .inl (fun j => nI (gC j)))), (q7, .inl (cI, 32, .inl (fun j => nI (gO j)))), (q8, .inl (cI, 32, .inl fD)), (q9, .inl (cI, 2, .inl (fun j => nI (gE j))))] := hD
  have hl := lv_entry ([.ref hm, .int x, .int y]) (n := 5) (Nat.le_of_ble_eq_true rfl)
  rw [lg_entry_eq]
  generalize (lg_sl ([.ref hm, .int x, .int y]) ++ List.replicate (5 - (lg_sl ([.ref hm, .int x, .int y])).length) Slot.unset).toArray = ls at hl ⊢
  have hl : lv_has ls 5 [(0, .ref hm), (1, .int x), (2, .int y)] := hl
  have hin3 : ∀ w ∈ wsX30, w ∈ wsX3_latch := by decide +kernel
  have kf54 := hts (.fieldLink RX3 54 "SweepEqualModel" "latches" "I") (by decide +kernel)
  have kf48 := hts (.fieldLink RX3 48 "SweepEqualModel" "nodes" "I") (by decide +kernel)
  have kf44 := hts (.fieldLink RX3 44 "SweepEqualModel" "thrown" "I") (by decide +kernel)
  have kf17 := hts (.fieldLink RX3 17 "SweepEqualModel" "latchNodes" "[I") (by decide +kernel)
  have kf20 := hts (.fieldLink RX3 20 "SweepEqualModel" "starts" "[I") (by decide +kernel)
  have kf23 := hts (.fieldLink RX3 23 "SweepEqualModel" "nexts" "[I") (by decide +kernel)
  refine lv_aload_n hx hb dX3_latch_0 rfl (lv_at hl 0 rfl) ?_
  refine va_get (D := D) (ci := 3) (v := .int (nI ml)) (C := RX3) (T := TX3) (N := 16) hx hb hts hin3 hown hK hP 0 rfl rfl 5 (by decide) kf54 (fun _ h9 => h9) rfl dX3_latch_1 ?_
  refine lv_iconst (v := nI 4) hx hb dX3_latch_4 (by decide) ?_
  refine lv_icmp_ge (tgt := 22) hx hb dX3_latch_5 (by decide) (fun hc => absurd ((nI_leI (by omega) (by omega)).mp hc) (by omega)) (fun _ => ?_)
  refine lv_aload_n hx hb dX3_latch_8 rfl (lv_at hl 0 rfl) ?_
  refine va_get (D := D) (ci := 3) (v := .int (nI nd)) (C := RX3) (T := TX3) (N := 16) hx hb hts hin3 hown hK hP 0 rfl rfl 1 (by decide) kf48 (fun _ h9 => h9) rfl dX3_latch_9 ?_
  refine lv_sipush (v := nI 400) hx hb dX3_latch_12 (by decide) ?_
  refine lv_icmp_ge (tgt := 22) hx hb dX3_latch_15 (by decide) (fun hc => absurd ((nI_leI (by omega) (by omega)).mp hc) (by omega)) (fun _ => ?_)
  refine lv_iconst (v := nI 1) hx hb dX3_latch_18 (by decide) ?_
  refine lv_goto (tgt := 23) hx hb dX3_latch_19 (by decide) ?_
  refine lv_istore_n (lv' := [(3, .int (nI 1)), (0, .ref hm), (1, .int x), (2, .int y)]) hx hb dX3_latch_23 rfl hl (by decide) rfl (fun ls hl => ?_)
  refine lv_aload_n hx hb dX3_latch_24 rfl (lv_at hl 1 rfl) ?_
  refine lv_iload_n hx hb dX3_latch_25 rfl (lv_at hl 0 rfl) ?_
  refine lv_if_ne (tgt := 33) hx hb dX3_latch_26 (by decide) (fun _ => ?_) (fun hc => absurd hc (by decide))
  refine lv_iload_n hx hb dX3_latch_33 rfl (lv_at hl 2 rfl) ?_
  refine rd_S (As := [.int x]) (rest := [.ref hm]) ⟨hx, hb, hml, hown, hts⟩ (c_X3_isSide l x) (va_cwS 1 hts gX3_latch_X3_isSide rfl rfl rfl (by decide +kernel) ⟨Nat.le_of_ble_eq_true rfl, Nat.le_of_ble_eq_true rfl⟩) preEq rfl hl.1 rfl (Nat.le_of_ble_eq_true rfl) dX3_latch_34 ⟨by show _ ≤ _; simp only [headSpec]; omega, by show _ ≤ _; simp only [headSpec]; omega⟩ ?_
  refine lv_if_eq (tgt := 51) hx hb dX3_latch_37 (by decide) (fun c1 => ?_) (fun c1 => ?_)
  · refine lv_iconst (v := nI 2) hx hb dX3_latch_51 (by decide) ?_
    refine va_put (D := D) (ci := 3) (v := .int (nI 2)) (ty := .int) (C := RX3) (T := TX3) (N := 16) hx hb hts hin3 tyX3 tyX3_ok nmX3 hown hK hP hD hS 0 rfl rfl 0 (by decide) kf44 (fun _ h9 => h9) rfl (by decide +kernel) rfl rfl (Nat.le_of_ble_eq_true rfl) dX3_latch_52 (fun H locs hP hD hS => ?_)
    have hP : va_P D vwCl [(hm, .inr (3, [.int (nI 2), .int (nI nd), .ref q0, .ref q1, .int (nI mi), .int (nI ml), .ref q2, .ref q3, .ref q4, .ref q5, .ref q6, .ref q7, .ref q8, .ref q9, .int (nI sp), .int fa])), (q0, .inl (cI, 401, .inl fs)), (q1, .inl (cJ, 25664, .inr (.inl ft))), (q2, .inl (cI, 4, .inl fl)), (q3, .inl (cI, 8, .inl (fun j => nI (gS j)))), (q4, .inl (cI, 8, .inl (fun j => nI (gX j)))), (q5, .inl (cI, 8, .inl (fun j => nI (gT j)))), (q6, .inl (cI, 2, .inl (fun j => nI (gC j)))), (q7, .inl (cI, 32, .inl (fun j => nI (gO j)))), (q8, .inl (cI, 32, .inl fD)), (q9, .inl (cI, 2, .inl (fun j => nI (gE j))))] H := hP
    have hD : va_D A [(hm, .inr (3, [.int (nI 2), .int (nI nd), .ref q0, .ref q1, .int (nI mi), .int (nI ml), .ref q2, .ref q3, .ref q4, .ref q5, .ref q6, .ref q7, .ref q8, .ref q9, .int (nI sp), .int fa])), (q0, .inl (cI, 401, .inl fs)), (q1, .inl (cJ, 25664, .inr (.inl ft))), (q2, .inl (cI, 4, .inl fl)), (q3, .inl (cI, 8, .inl (fun j => nI (gS j)))), (q4, .inl (cI, 8, .inl (fun j => nI (gX j)))), (q5, .inl (cI, 8, .inl (fun j => nI (gT j)))), (q6, .inl (cI, 2, .inl (fun j => nI (gC j)))), (q7, .inl (cI, 32, .inl (fun j => nI (gO j)))), (q8, .inl (cI, 32, .inl fD)), (q9, .inl (cI, 2, .inl (fun j => nI (gE j))))] := hD
    refine lv_aload_n hx hb dX3_latch_55 rfl (lv_at hl 1 rfl) ?_
    refine va_get (D := D) (ci := 3) (v := .int (nI 2)) (C := RX3) (T := TX3) (N := 16) hx hb hts hin3 hown hK hP 0 rfl rfl 0 (by decide) kf44 (fun _ h9 => h9) rfl dX3_latch_56 ?_
    refine lv_if_le (tgt := 64) hx hb dX3_latch_59 (by decide) (fun hc => absurd hc (by decide)) (fun _ => ?_)
    refine lv_iconst (v := nI 0) hx hb dX3_latch_62 (by decide) ?_
    exact wr_i (()) hx hb hr hlocks hP hD hS dX3_latch_63 (rfl) (trivial)
  · refine lv_iload_n hx hb dX3_latch_40 rfl (lv_at hl 3 rfl) ?_
    refine rd_S (As := [.int y]) (rest := [.ref hm]) ⟨hx, hb, hml, hown, hts⟩ (c_X3_isSide l y) (va_cwS 1 hts gX3_latch_X3_isSide rfl rfl rfl (by decide +kernel) ⟨Nat.le_of_ble_eq_true rfl, Nat.le_of_ble_eq_true rfl⟩) preEq rfl hl.1 rfl (Nat.le_of_ble_eq_true rfl) dX3_latch_41 ⟨by show _ ≤ _; simp only [headSpec]; omega, by show _ ≤ _; simp only [headSpec]; omega⟩ ?_
    refine lv_if_eq (tgt := 51) hx hb dX3_latch_44 (by decide) (fun c2 => ?_) (fun c2 => ?_)
    · refine lv_iconst (v := nI 2) hx hb dX3_latch_51 (by decide) ?_
      refine va_put (D := D) (ci := 3) (v := .int (nI 2)) (ty := .int) (C := RX3) (T := TX3) (N := 16) hx hb hts hin3 tyX3 tyX3_ok nmX3 hown hK hP hD hS 0 rfl rfl 0 (by decide) kf44 (fun _ h9 => h9) rfl (by decide +kernel) rfl rfl (Nat.le_of_ble_eq_true rfl) dX3_latch_52 (fun H locs hP hD hS => ?_)
      have hP : va_P D vwCl [(hm, .inr (3, [.int (nI 2), .int (nI nd), .ref q0, .ref q1, .int (nI mi), .int (nI ml), .ref q2, .ref q3, .ref q4, .ref q5, .ref q6, .ref q7, .ref q8, .ref q9, .int (nI sp), .int fa])), (q0, .inl (cI, 401, .inl fs)), (q1, .inl (cJ, 25664, .inr (.inl ft))), (q2, .inl (cI, 4, .inl fl)), (q3, .inl (cI, 8, .inl (fun j => nI (gS j)))), (q4, .inl (cI, 8, .inl (fun j => nI (gX j)))), (q5, .inl (cI, 8, .inl (fun j => nI (gT j)))), (q6, .inl (cI, 2, .inl (fun j => nI (gC j)))), (q7, .inl (cI, 32, .inl (fun j => nI (gO j)))), (q8, .inl (cI, 32, .inl fD)), (q9, .inl (cI, 2, .inl (fun j => nI (gE j))))] H := hP
      have hD : va_D A [(hm, .inr (3, [.int (nI 2), .int (nI nd), .ref q0, .ref q1, .int (nI mi), .int (nI ml), .ref q2, .ref q3, .ref q4, .ref q5, .ref q6, .ref q7, .ref q8, .ref q9, .int (nI sp), .int fa])), (q0, .inl (cI, 401, .inl fs)), (q1, .inl (cJ, 25664, .inr (.inl ft))), (q2, .inl (cI, 4, .inl fl)), (q3, .inl (cI, 8, .inl (fun j => nI (gS j)))), (q4, .inl (cI, 8, .inl (fun j => nI (gX j)))), (q5, .inl (cI, 8, .inl (fun j => nI (gT j)))), (q6, .inl (cI, 2, .inl (fun j => nI (gC j)))), (q7, .inl (cI, 32, .inl (fun j => nI (gO j)))), (q8, .inl (cI, 32, .inl fD)), (q9, .inl (cI, 2, .inl (fun j => nI (gE j))))] := hD
      refine lv_aload_n hx hb dX3_latch_55 rfl (lv_at hl 1 rfl) ?_
      refine va_get (D := D) (ci := 3) (v := .int (nI 2)) (C := RX3) (T := TX3) (N := 16) hx hb hts hin3 hown hK hP 0 rfl rfl 0 (by decide) kf44 (fun _ h9 => h9) rfl dX3_latch_56 ?_
      refine lv_if_le (tgt := 64) hx hb dX3_latch_59 (by decide) (fun hc => absurd hc (by decide)) (fun _ => ?_)
      refine lv_iconst (v := nI 0) hx hb dX3_latch_62 (by decide) ?_
      exact wr_i (()) hx hb hr hlocks hP hD hS dX3_latch_63 (rfl) (trivial)
    · exact (hb0.elim (fun q => q (zd_t c1)) (fun q => q (zd_t c2))).elim
end MW1
