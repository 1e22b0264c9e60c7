/-! Writers: their starts, ends and calls. -/
section WB
/-- a writer's start: its cells, what the tables say of them, what nobody writes -/
abbrev wr_P (D : va_G) (tys : List (ClassId × FieldType)) (ww : va_W) (sz tp : Nat) (av : List Value) : Array Value → State → Prop := va_Pc av (fun U => U.heap.size = sz ∧ (va_P D vwCl ww U.heap ∧ va_K D vwCl tys U ∧ va_D (fun _ => True) ww) ∧ EV tp (va_A ww sz) U U.heap)
abbrev wr_B (D : va_G) (tys : List (ClassId × FieldType)) (A : Nat → Prop) (ww : va_W) (t : State) : Prop := va_P D vwCl ww t.heap ∧ va_D A ww
/-- a writer's end: its answer, its cells behind it, all else unchanged -/
def wx {Su : Type} (D : va_G) (tys : List (ClassId × FieldType)) (A : Nat → Prop) (o₀ : Su → Option Value) (post : Su → Prop) (wn : Su → va_W) : Array Value → State → Outcome → State → Prop := fun _ st o t => ∃ u : Su, o = .returned (o₀ u) ∧ post u ∧ wr_B D tys A (wn u) t ∧ va_F A st t
theorem wr_blind {D : va_G} {tys : List (ClassId × FieldType)} {ww : va_W} {sz tp : Nat} {av : List Value} : FrameBlind (wr_P D tys ww sz tp av) := fun a U g mk q => ⟨q.1, q.2.1, ⟨q.2.2.1.1, va_K.moved (u := U) (U := U.calling g mk a) (Vm.Alike.refl U.vm) q.2.2.1.2.1, q.2.2.1.2.2⟩, EV.same (u := U) (U := U.calling g mk a) rfl q.2.2.2⟩
theorem pick_fm {ww wc : va_W} : ∀ (is : List Nat) , is.map (fun i => ww[i]?) = wc.map some → is.filterMap (fun i => ww[i]?) = wc := by
  intro is h
  have : is.filterMap (fun i => ww[i]?) = (is.map (fun i => ww[i]?)).filterMap id := by rw [List.filterMap_map]; rfl
  rw [this, h, List.filterMap_map]
  exact List.filterMap_some
variable {p : Program} {l : Launch} {e : Env} {R : Room} {s : State} {m : MethodId} {args : Array Value} {below : List Frame} {meth : Method} {c : Code} {H : Heap} {locs : List Loc} {cells slots : Nat} {Q : State → Prop}
variable {cc : ByteArray} {pc : Nat} {ls : Array Slot} {rest st0 : List Value}
variable {y : MethodName} {bytes : ByteArray} {maxL nL n index mc ms : Nat} {ret : Option FieldType} {ws : List Cond} {rm : Room} {Ts : List Cond} {own C : String} {b : Addr} {As : List Value}
variable {D : va_G} {tys : List (ClassId × FieldType)} {ww wc wr : va_W} {tp : Nat} {A : Nat → Prop}
theorem wr_pre (hK : va_K D vwCl tys s) (hP : va_P D vwCl ww H) (hD : va_D A ww) (hS : va_S A s.heap H locs) (hA : ∀ q, s.heap.size ≤ q → A q) (hE : EV tp A s s.heap) (isC : List Nat) (hC : isC.map (fun i => ww[i]?) = wc.map some) (hnC : va_nd isC = true) {av : List Value} :
    ∀ U : State, U.heap = H → s.WarmedH U.vm → wr_P D tys wc H.size tp av av.toArray U := fun U hU hW =>
  ⟨rfl, by rw [hU], ⟨by rw [hU]; exact hP.sub isC (pick_fm isC hC), va_K.moved hW.alike hK, (hD.sub isC hnC hC).weaken (fun _ _ _ _ => trivial)⟩, by rw [hU]; exact (EV.warm hW (hE.at hS)).narrow (va_free (wc := wc) hD hS hA isC hC)⟩
/-- behind a writer's call: the caller's other cells beside the callee's -/
theorem wr_after {Su : Type} {o₀ : Su → Option Value} {post : Su → Prop} {wn : Su → va_W} {g : JFrame} (hr : va_Run p l e R s m args below meth c H locs cells slots mc ms (F0 m pc ls st0) rest (wx D tys (va_A wc H.size) o₀ post wn As.toArray) (va_A wc H.size))
    (hP : va_P D vwCl ww H) (hD : va_D A ww) (hS : va_S A s.heap H locs) (hA : ∀ q, s.heap.size ≤ q → A q) (isC isR : List Nat) (hC : isC.map (fun i => ww[i]?) = wc.map some) (hR : isR.map (fun i => ww[i]?) = wr.map some) (hn1 : va_nd isR = true) (hdis : ∀ i ∈ isR, i ∉ isC)
    (kk : ∀ (u : Su) (H1 : Heap) (locs1 : List Loc), post u → va_P D vwCl (wr ++ wn u) H1 → va_D A (wr ++ wn u) → va_S A s.heap H1 locs1 → W p l e R s m args below meth c H1 locs1 (cells + mc) (slots + ms) Q (F0 m (pc + 3) ls ((o₀ u).toList ++ rest))) : W p l e R s m args below meth c H locs cells slots Q (F0 m pc ls st0) := by
  have hFc := va_free (wc := wc) hD hS hA isC hC
  intro T hT X
  obtain ⟨v, st₀, t, T', L, h0, X', hL, e1, e2, ⟨u, hv, hpost, ⟨hP1, hD1⟩, hz, hk⟩, st⟩ := hr T hT X
  cases hv
  rw [h0] at hz hk
  rw [← e1] at hP1 hz hk
  have hj := va_join hP hD isC isR hC hR hn1 hdis hk hFc hP1 hD1
  have hS1 : va_S A s.heap T'.heap (locs ++ L) := ⟨Nat.le_trans hS.1 hz, fun q g1 g2 => (hk q (Nat.lt_of_lt_of_le g1 hS.1) (fun h => g2 (hFc q h))).trans (hS.2.1 q g1 g2), fun q hq => by
    rcases List.mem_append.mp hq with h | h
    · exact hS.2.2 q h
    · exact hFc _ (hL q h)⟩
  obtain ⟨t2, a1, b1⟩ := kk u T'.heap (locs ++ L) hpost hj.1 hj.2 hS1 T' rfl X'
  exact ⟨t2, st t2 a1, b1⟩
/-- a writer is called on an object -/
theorem wr_V {Su : Type} {o₀ : Su → Option Value} {post : Su → Prop} {wn : Su → va_W} {q0 ci : Nat} {q : vw_C} {fs : List Value} (S : CallFix p m c cc nL s args Ts own) (hM : Met l y ws rm (wr_P D tys wc H.size tp (.ref b :: As)) (wx D tys (va_A wc H.size) o₀ post wn) mc ms (va_A wc H.size)) (cw : CallW R s args own q.1 index y bytes maxL ret ws rm mc ms n)
    (hc : vwCl[ci]? = some q) (he : ww[q0]? = some (b, .inr (ci, fs)))
    (hn : As.length = n) (hsize : ls.size = nL) (hstack : st0 = As.reverse ++ .ref b :: rest) (hW : (rest.map fun v => v.category).sum ≤ 8) (hdg : decode cc pc = .ok (.invokevirtual index, 3)) (hf : cells + mc ≤ R.cells ∧ slots + ms ≤ R.slots)
    (hK : va_K D vwCl tys s) (hP : va_P D vwCl ww H) (hD : va_D A ww) (hS : va_S A s.heap H locs) (hA : ∀ q, s.heap.size ≤ q → A q) (hE : EV tp A s s.heap) (isC isR : List Nat) (hC : isC.map (fun i => ww[i]?) = wc.map some) (hR : isR.map (fun i => ww[i]?) = wr.map some) (hnC : va_nd isC = true) (hn1 : va_nd isR = true) (hdis : ∀ i ∈ isR, i ∉ isC)
    (kk : ∀ (u : Su) (H1 : Heap) (locs1 : List Loc), post u → va_P D vwCl (wr ++ wn u) H1 → va_D A (wr ++ wn u) → va_S A s.heap H1 locs1 → W p l e R s m args below meth c H1 locs1 (cells + mc) (slots + ms) Q (F0 m (pc + 3) ls ((o₀ u).toList ++ rest))) : W p l e R s m args below meth c H locs cells slots Q (F0 m pc ls st0) :=
  wr_after (As := .ref b :: As) (g := F0 m pc ls st0) (va_runV (g := F0 m pc ls st0) S hM cw ⟨wr_blind, va_recv hK hP hc he, wr_pre hK hP hD hS hA hE isC hC hnC⟩ rfl hn hsize hstack (lv_room hW) hdg hf) hP hD hS hA isC isR hC hR hn1 hdis kk
/-- a constructor is called -/
theorem wr_I {Su : Type} {o₀ : Su → Option Value} {post : Su → Prop} {wn : Su → va_W} (S : CallFix p m c cc nL s args Ts own) (hM : Met l y ws rm (wr_P D tys wc H.size tp (.ref b :: As)) (wx D tys (va_A wc H.size) o₀ post wn) mc ms (va_A wc H.size)) (cw : CallB R s args own index y bytes maxL none ws rm mc ms n ∧ y.name = "<init>" ∧ (Cond.instanceMethod y).before args s = true)
    (hn : As.length = n) (hsize : ls.size = nL) (hstack : st0 = As.reverse ++ .ref b :: rest) (hW : (rest.map fun v => v.category).sum ≤ 8) (hdg : decode cc pc = .ok (.invokespecial index, 3)) (hf : cells + mc ≤ R.cells ∧ slots + ms ≤ R.slots)
    (hK : va_K D vwCl tys s) (hP : va_P D vwCl ww H) (hD : va_D A ww) (hS : va_S A s.heap H locs) (hA : ∀ q, s.heap.size ≤ q → A q) (hE : EV tp A s s.heap) (isC isR : List Nat) (hC : isC.map (fun i => ww[i]?) = wc.map some) (hR : isR.map (fun i => ww[i]?) = wr.map some) (hnC : va_nd isC = true) (hn1 : va_nd isR = true) (hdis : ∀ i ∈ isR, i ∉ isC)
    (kk : ∀ (u : Su) (H1 : Heap) (locs1 : List Loc), post u → va_P D vwCl (wr ++ wn u) H1 → va_D A (wr ++ wn u) → va_S A s.heap H1 locs1 → W p l e R s m args below meth c H1 locs1 (cells + mc) (slots + ms) Q (F0 m (pc + 3) ls ((o₀ u).toList ++ rest))) : W p l e R s m args below meth c H locs cells slots Q (F0 m pc ls st0) :=
  wr_after (As := .ref b :: As) (g := F0 m pc ls st0) (va_runI (g := F0 m pc ls st0) S hM cw ⟨wr_blind, wr_pre hK hP hD hS hA hE isC hC hnC⟩ rfl hn hsize hstack (lv_room hW) hdg hf) hP hD hS hA isC isR hC hR hn1 hdis kk
/-- a writer's ends -/
theorem wr_i {Su : Type} {o₀ : Su → Option Value} {post : Su → Prop} {wn : Su → va_W} {v : Int32} (u : Su) (hx : p.tables.exec = Jvm.exec) (hb : c.code = cc) (hr : meth.sig.returnType = some .int) (hlocks : meth.locks = false) (hP : va_P D vwCl (wn u) H) (hD : va_D A (wn u)) (hS : va_S A s.heap H locs) (hdg : decode cc pc = .ok (.ireturn, 1)) (h : some (.int v) = o₀ u) (hq : post u) :
    W p l e R s m args below meth c H locs cells slots (MQ below (wx D tys A o₀ post wn) args s cells slots A) (F0 m pc ls [.int v]) :=
  W.iret hx hb hr (fun t ht _ => ⟨u, by rw [h], hq, ⟨by rw [ht]; exact hP, hD⟩, hS.F ht⟩) hS.2.2 hdg hlocks
theorem wr_v {Su : Type} {o₀ : Su → Option Value} {post : Su → Prop} {wn : Su → va_W} (u : Su) (hx : p.tables.exec = Jvm.exec) (hb : c.code = cc) (hr : meth.sig.returnType = none) (hlocks : meth.locks = false) (hP : va_P D vwCl (wn u) H) (hD : va_D A (wn u)) (hS : va_S A s.heap H locs) (hdg : decode cc pc = .ok (.return_, 1)) (h : none = o₀ u) (hq : post u) :
    W p l e R s m args below meth c H locs cells slots (MQ below (wx D tys A o₀ post wn) args s cells slots A) (F0 m pc ls []) :=
  W.vret hx hb hr (fun t ht _ => ⟨u, by rw [h], hq, ⟨by rw [ht]; exact hP, hD⟩, hS.F ht⟩) hS.2.2 hdg hlocks
end WB
theorem upN (g : Nat → Nat) {k v : Nat} (hk : k < 2 ^ 31) : upd (fun j => nI (g j)) (nI k).toNatClampNeg (nI v) = fun j => nI (va_up g k v j) := by
  rw [nI_clamp hk]
  funext j
  unfold upd va_up
  split <;> rfl
theorem upI (f : Nat → Int32) {k : Nat} {x : Int32} (hk : k < 2 ^ 31) : upd f (nI k).toNatClampNeg x = upd f k x := by rw [nI_clamp hk]
theorem upL (f : Nat → Int64) {k : Nat} {x : Int64} (hk : k < 2 ^ 31) : vp_updL f (nI k).toNatClampNeg x = vp_updL f k x := by rw [nI_clamp hk]
theorem arr_cls {D : va_G} {cl : List vw_C} {tys : List (ClassId × FieldType)} {s : State} {c1 c2 : ClassId} {ty : FieldType} (hK : va_K D cl tys s) (i j : Nat) (hi : tys[i]? = some (c1, ty)) (hj : tys[j]? = some (c2, ty)) (hty : ∀ c : ClassId, va_RA s c ty → s.vm.findClass ("[" ++ ty.toString) = some c) : c1 = c2 :=
  Option.some.inj ((hty _ (hK.2 i _ hi).2).symm.trans (hty _ (hK.2 j _ hj).2))
/-- Design and its three arrays -/
abbrev dW (hd ou nx sh : Nat) (cI : ClassId) (oc sc sr ss : Nat) (gO gN : Nat → Nat) (fS : Nat → Int32) : va_W :=
  [(hd, .inr (0, [.ref ou, .ref nx, .ref sh, .int (nI oc), .int (nI sc), .int (nI sr), .int (nI ss)])), (ou, .inl (cI, 16, .inl (fun j => nI (gO j)))), (nx, .inl (cI, 4, .inl (fun j => nI (gN j)))), (sh, .inl (cI, 16, .inl fS))]
/-- the outputs of a step, the first i of them told -/
def shF (fr : Nat → Int64) (gO : Nat → Nat) (fS : Nat → Int32) (k i : Nat) : Nat → Int32 := fun j => if j < i then zI (bt fr (gO j) k) else fS j
theorem shF_up {fr : Nat → Int64} {gO : Nat → Nat} {fS : Nat → Int32} {k i : Nat} (hi : i < 2 ^ 31) : upd (shF fr gO fS k i) (nI i).toNatClampNeg (zI (bt fr (gO i) k)) = shF fr gO fS k (i + 1) := by
  rw [nI_clamp hi]
  funext j
  unfold upd shF
  by_cases h : j = i
  · subst h; simp
  · by_cases h2 : j < i
    · simp [h, h2, show j < i + 1 by omega]
    · simp [h, h2, show ¬ j < i + 1 by omega]
theorem shF_0 {fr : Nat → Int64} {gO : Nat → Nat} {fS : Nat → Int32} {k : Nat} : shF fr gO fS k 0 = fS := by
  funext j
  simp [shF]
/-- the states behind a step, the first j latches' -/
def stF (fr : Nat → Int64) (gN : Nat → Nat) (k : Nat) : Nat → Nat
  | 0 => 0
  | j + 1 => stF fr gN k j ||| (bt fr (gN j) k).toNat * 2 ^ j
theorem stF_lt (fr : Nat → Int64) (gN : Nat → Nat) (k : Nat) : ∀ j, stF fr gN k j < 2 ^ j
  | 0 => by simp [stF]
  | j + 1 => by
    have h1 := stF_lt fr gN k j
    have h2 : 2 ^ j < 2 ^ (j + 1) := Nat.pow_lt_pow_right (by omega) (by omega)
    unfold stF
    have h3 : (bt fr (gN j) k).toNat ≤ 1 := Bool.toNat_le _
    have h4 : (bt fr (gN j) k).toNat * 2 ^ j ≤ 1 * 2 ^ j := Nat.mul_le_mul_right _ h3
    exact Nat.or_lt_two_pow (by omega) (by omega)
theorem zI_shl {b : Bool} {k : Nat} (hk : k < 31) : zI b <<< (nI k &&& 31) = nI (b.toNat * 2 ^ k) := by
  have h : 2 ^ k < 2 ^ 31 := Nat.pow_lt_pow_right (by omega) hk
  cases b
  · rw [show zI false = nI 0 from rfl, n_shl (by omega) (by omega)]; rfl
  · rw [show zI true = nI 1 from rfl, n_shl (by omega) (by omega)]; rfl
theorem and_4095 {k : Nat} (h : k < 4096) : nI k &&& 4095 = nI k := by
  rw [pk_andN (by omega) 12 (by decide), Nat.mod_eq_of_lt h]
