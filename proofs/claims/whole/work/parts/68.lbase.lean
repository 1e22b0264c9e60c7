/-! The law's rows: an exception of a callee that is caught here; static calls of methods with a table. -/
section CT
theorem ct_one {Q : Handler → Pre} {E : CtlPost} {e : Env} {d : Bool} {acts : List Action} {s : State} {f : JFrame} {a : Addr} {x : ExceptionTableEntry} {t : List ExceptionTableEntry} {c : ClassId} {ce : Cell} (hx : covers x f.pc = true) (h0 : x.catchType ≠ 0)
    (hl : s.vm.ClassLinks e.platform f.method.cls x.catchType c) (hcell : s.heap[a]? = some ce) (hobj : ∀ k, ce.vm ≠ .statics k) (hk : ∃ k, s.vm.classes[ce.cls]? = some k) (hc : ∃ k, s.vm.classes[c]? = some k) :
    wp (findHandler.go f a (x :: t)) Q E e d acts s ↔ if s.vm.assignable ce.cls c = true then Q (.found x.handlerPc) d acts (s.setVm (s.vm.noted f.method.cls x.catchType (.cls c))) else wp (findHandler.go f a t) Q E e d acts (s.setVm (s.vm.noted f.method.cls x.catchType (.cls c))) := by
  simp only [covers] at hx
  obtain ⟨g1, g2⟩ := (resolveClass_links e.toSetting hl).op (op := VmOp.resolveClass f.method.cls x.catchType) rfl
  have al : s.vm.Alike (s.vm.noted f.method.cls x.catchType (.cls c)) := (Vm.Alike.refl s.vm).noted _ _ _
  obtain ⟨k1, hk1⟩ := hk
  obtain ⟨k2, hk2⟩ := hc
  obtain ⟨j1, hj1, -⟩ := al.2.2 _ _ hk1
  obtain ⟨j2, hj2, -⟩ := al.2.2 _ _ hk2
  have ha := al.assignable ce.cls c
  cases hfit : s.vm.assignable ce.cls c <;> rw [hfit] at ha <;> simp [findHandler.go, hx, h0, g1, g2, hcell, hobj, hj1, hj2, ha, VmOp.dirties, VmOp.acts]
/-- the search: the rows ahead name other kinds, the row x takes it -/
theorem ct_go {e : Env} {s0 : State} {f : JFrame} {a : Addr} {ce : Cell} (hobj : ∀ k, ce.vm ≠ .statics k) (hk0 : ∃ k, s0.vm.classes[ce.cls]? = some k) (x : ExceptionTableEntry) (suf : List ExceptionTableEntry) (hx : covers x f.pc = true) (h0 : x.catchType ≠ 0) {cx : ClassId}
    (hlx : s0.vm.ClassLinks e.platform f.method.cls x.catchType cx) (hfit : s0.vm.assignable ce.cls cx = true) :
    ∀ (pre : List ExceptionTableEntry) (S : State), s0.WarmedH S.vm → S.heap[a]? = some ce → (∀ y ∈ pre, covers y f.pc = true ∧ y.catchType ≠ 0 ∧ ∃ c, s0.vm.ClassLinks e.platform f.method.cls y.catchType c ∧ s0.vm.assignable ce.cls c = false) →
      ∃ v, s0.WarmedH v ∧ ∀ (Q : Handler → Pre) (E : CtlPost) (d : Bool) (acts : List Action), wp (findHandler.go f a (pre ++ x :: suf)) Q E e d acts S ↔ Q (.found x.handlerPc) d acts (S.setVm v)
  | [], S, hW, hcell, _ => by
    obtain ⟨k0, hk0⟩ := hk0
    obtain ⟨k1, hk1, -⟩ := hW.alike.2.2 _ _ hk0
    obtain ⟨dk, _, _, kt, hd, _, _, _, _, hkt, _, hopen⟩ := hlx.here
    obtain ⟨kt1, hkt1, -⟩ := hW.alike.2.2 _ _ hkt
    refine ⟨_, hW.noted hd hopen (State.rightAt_cls hlx), fun Q E d acts => ?_⟩
    rw [List.nil_append, ct_one hx h0 (hW.classLinks hlx) hcell hobj ⟨k1, hk1⟩ ⟨kt1, hkt1⟩, if_pos (by rw [hW.alike.assignable]; exact hfit)]
  | y :: ys, S, hW, hcell, hp => by
    obtain ⟨hy, hy0, c, hl, hno⟩ := hp y List.mem_cons_self
    obtain ⟨k0, hk00⟩ := id hk0
    obtain ⟨k1, hk1, -⟩ := hW.alike.2.2 _ _ hk00
    obtain ⟨dk, _, _, kt, hd, _, _, _, _, hkt, _, hopen⟩ := hl.here
    obtain ⟨kt1, hkt1, -⟩ := hW.alike.2.2 _ _ hkt
    obtain ⟨v, hv, hq⟩ := ct_go hobj hk0 x suf hx h0 hlx hfit ys (S.setVm (S.vm.noted f.method.cls y.catchType (.cls c))) (hW.noted hd hopen (State.rightAt_cls hl)) hcell (fun z hz => hp z (List.mem_cons_of_mem _ hz))
    refine ⟨v, hv, fun Q E d acts => ?_⟩
    rw [List.cons_append, ct_one hy hy0 (hW.classLinks hl) hcell hobj ⟨k1, hk1⟩ ⟨kt1, hkt1⟩, if_neg (by rw [hW.alike.assignable, hno]; decide)]
    exact hq Q E d acts
theorem ct_throw {e : Env} {s : State} {a : Addr} {f : JFrame} {r : List Frame} {pc : Nat} {v : Vm} (hfind : ∀ (Q : Handler → Pre) (E : CtlPost) (d : Bool) (acts : List Action), wp (findHandler f a) Q E e d acts s ↔ Q (.found pc) d acts (s.setVm v)) :
    (stepThrowing e s a (.java f :: r)).Is ((s.setVm v).setFrames (.java { f with pc := pc, stack := [.ref a] } :: r)) [] := by
  simp only [stepThrowing, searchFrame, vmDo]
  generalize hr : Sem.go _ e false [] s = res
  obtain ⟨as, rfl, ha⟩ := Sem.eq_ok_of hr (a := Handler.found pc) (s' := s.setVm v) (acts' := []) (by simp [hfind _ _ _ _])
  exact ⟨rfl, ha⟩
theorem ct_fr (u : State) (v : Vm) (F G : List Frame) : ((u.setFrames F).setVm v).setFrames G = (u.setVm v).setFrames G := by
  rw [show (u.setFrames F).setVm v = (u.setVm v).setFrames F from rfl, State.setFrames_setFrames]
theorem ct_steps {tb : Tables} {e : Env} {s : State} {g : JFrame} {c : Code} {below : List Frame} {a : Addr} (h : At s g.method c below) {pc : Nat} {v : Vm}
    (hfind : ∀ (Q : Handler → Pre) (E : CtlPost) (d : Bool) (acts : List Action), wp (findHandler g a) Q E e d acts ((s.setTop g).pushFrame (.throwing a)) ↔ Q (.found pc) d acts (((s.setTop g).pushFrame (.throwing a)).setVm v)) :
    Steps tb e below ((s.setTop g).pushFrame (.throwing a)) ((s.setVm v).setTop { g with pc := pc, stack := [.ref a] }) := by
  obtain ⟨hgo, hw⟩ := h.throwing a
  refine Steps.head hgo hw ?_
  rw [stepThread_throwing (frames_entered h.top _), (ct_throw (s := (s.setTop g).pushFrame (.throwing a)) hfind).1]
  obtain ⟨g0, hg⟩ := Option.isSome_iff_exists.mp h.top
  obtain ⟨r, hr⟩ := State.topJava?_eq_some.mp hg
  have hr' : (s.setVm v).frames = .java g0 :: r := hr
  rw [State.setTop_of_frames _ hr', hr, List.tail_cons, State.pushFrame, ct_fr, State.setTop_of_frames _ hr, ct_fr]
  exact Steps.refl _
variable {p : Program} {l : Launch} {e : Env} {R : Room} {s : State} {m : MethodId} {args : Array Value} {below : List Frame} {meth : Method} {c : Code} {H : Heap} {locs : List Loc} {cells slots : Nat} {Q : State → Prop}
variable {cc : ByteArray} {pc : Nat} {ls : Array Slot} {rest st0 : List Value}
variable {y : MethodName} {bytes : ByteArray} {maxL nL n index mc ms : Nat} {ret : Option FieldType} {ws : List Cond} {rm : Room} {Pc : Array Value → State → Prop} {Ts : List Cond} {own C : String} {b : Addr} {As : List Value} {E0 : String}
/-- a callee that throws E0 is called; the row x of this method's table takes it -/
theorem ct_V (S : CallFix p m c cc nL s args Ts own) (hM : TH l y ws rm Pc E0) (cw : CallW R s args own C index y bytes maxL ret ws rm 1 6 n) (hp : PreV s H C b Pc As)
    (hn : As.length = n) (hsize : ls.size = nL) (hstack : st0 = As.reverse ++ .ref b :: rest) (hW : (rest.map fun v => v.category).sum ≤ 8) (hdg : decode cc pc = .ok (.invokevirtual index, 3)) (hf : cells + 1 ≤ R.cells ∧ slots + 6 ≤ R.slots)
    (pre : List ExceptionTableEntry) (x : ExceptionTableEntry) (suf : List ExceptionTableEntry) (hsplit : c.exceptionTable.toList = pre ++ x :: suf)
    (hpass : ∀ z ∈ pre, covers z pc = true ∧ z.catchType ≠ 0 ∧ ∃ nm : String, (Cond.classLink own z.catchType nm).before args s = true ∧ va_Nc E0 nm s) (hcv9 : covers x pc = true) (h09 : x.catchType ≠ 0)
    (hlink : (Cond.classLink own x.catchType E0).before args s = true) (hcs : Cs E0 s)
    (kk : ∀ (q : Nat) (H1 : Heap), H.size ≤ H1.size → (∀ a : Nat, a < H.size → H1[a]? = H[a]?) → W p l e R s m args below meth c H1 locs (cells + 1) (slots + 6) Q (F0 m x.handlerPc ls [.ref q])) :
    W p l e R s m args below meth c H locs cells slots Q (F0 m pc ls st0) := by
  have hown : s.vm.findClass own = some m.cls := by obtain ⟨-, -, -, ho, -⟩ := S; exact ho
  intro T hT X
  rcases vx_runV (g := F0 m pc ls st0) S hM cw hp rfl hn hsize hstack (lv_room hW) hdg hf T hT X with ⟨v, st₀, t, T', L, h0, X', hL, e1, e2, hq, st⟩ | ⟨q, st₀, t, T', L, E, ce, h0, X', hL, e1, e2, ⟨hE, h7, h8⟩, hce, hcv, hcl, st⟩
  · exact hq.elim
  · rw [h0] at h7 h8
    have hLn : L = [] := by
      cases L with
      | nil => rfl
      | cons z L => exact (hL z List.mem_cons_self).elim
    subst hLn
    subst hE
    have hpl : e.platform.magicAccessors = ({} : Platform).magicAccessors := by rw [X.admits.platform]
    obtain ⟨cE, hc1, hc2⟩ := hcs
    cases Option.some.inj (hc1.symm.trans hcl)
    obtain ⟨c5, hc5, hcl5⟩ := Cond.classLink_spec hown hlink e.platform hpl
    cases Option.some.inj (hcl.symm.trans hc5)
    have hce' : T'.heap[q]? = some ce := by rw [e1]; exact hce
    obtain ⟨v, hWv, hgo⟩ := ct_go (e := e) (s0 := s) (f := { (F0 m pc ls st0) with stack := rest }) (a := q) (ce := ce) (fun k h => by rw [hcv] at h; cases h) (by obtain ⟨k9, h9, -⟩ := Vm.findClass_spec hcl; exact ⟨k9, h9⟩) x suf hcv9 h09 (cx := ce.cls) hcl5 hc2 pre
      ((T'.setTop { (F0 m pc ls st0) with stack := rest }).pushFrame (.throwing q)) X'.warmed hce' (fun z hz => by
        obtain ⟨z1, z2, nm, z3, z4⟩ := hpass z hz
        obtain ⟨c6, hc6, hcl6⟩ := Cond.classLink_spec hown z3 e.platform hpl
        obtain ⟨a8, b8, q1, q2, q3⟩ := z4
        cases Option.some.inj (q1.symm.trans hcl)
        cases Option.some.inj (q2.symm.trans hc6)
        exact ⟨z1, z2, _, hcl6, q3⟩)
    have hst := ct_steps (tb := p.tables) (e := e) (s := T') (g := { (F0 m pc ls st0) with stack := rest }) (c := c) (below := below) (a := q) (pc := x.handlerPc) (v := v) X'.here (fun Q E d acts => by
      rw [W.findHandler_eq (meth := meth) (code := c) X'.method' X'.code, hsplit]; exact hgo Q E d acts)
    obtain ⟨t2, a1, b1⟩ := kk q T'.heap (by rw [e1]; exact h7) (fun a ha => by rw [e1]; exact h8 a ha) (T'.setVm v) rfl (by
      have := X'.noted hWv
      rw [List.append_nil] at this
      exact this)
    exact ⟨t2, st.trans (hst.trans a1), b1⟩
end CT
/-- a method with a table of its own that always returns -/
theorem mt_ofWH {l : Launch} {y : MethodName} {ws ws' : List Cond} {rm : Room} {Pc : Array Value → State → Prop} {Qc : Array Value → State → Outcome → State → Prop} {mc ms : Nat} {free : Addr → Prop} {cc : ByteArray} {maxL : Nat} {ret : Option FieldType} {hh : List (Nat × Nat × Nat × Nat)}
    (hy : plainName y.cls = true) (hw : ws = Cond.codeWith y cc maxL ret hh :: ws')
    (body : ∀ p e s m args below meth c s₁, BodyLoose p l y (headSpec ws rm) cc maxL ret e s m args below meth c s₁ → c.maxLocals = maxL → c.exceptionTable.toList = tableOf hh → Pc args s →
      W p l e (headSpec ws rm).room s m args below meth c s.heap [] 0 0 (MQ below Qc args s mc ms free) (entryFrame m args maxL)) : Met l y ws rm Pc Qc mc ms free := by
  refine MetFree.of_bodyS (code := cc) (maxLocals := maxL) (ret := ret) hy ?_ ?_
  · intro args s m h hn
    obtain ⟨m9, meth, c, hn9, h1, h2, h3, h4, -, h5, h6, -⟩ := Cond.codeWith_spec (atoms_spec (ws := ws) h _ (by rw [hw]; exact List.mem_cons_self))
    cases hn.symm.trans hn9
    exact ⟨meth, c, h1, h2, h3, h4, h5, h6⟩
  · intro p e s m args below meth c s₁ B hml hP _
    have hh0 : s₁.heap = s.heap := by rw [B.state]; rfl
    have htb := vx_table (x := y) (hh := hh) (bytes := cc) (maxL' := maxL) (ret' := ret) B (atoms_spec (ws := ws) B.pre _ (by rw [hw]; exact List.mem_cons_self))
    obtain ⟨t, a1, o, b1, b2, b3⟩ := body p e s m args below meth c s₁ B hml htb hP s₁ hh0 (Stand.of_body B)
    exact ⟨t, o, a1, b1, b2, ⟨b3.1, b3.2⟩⟩
/-- kinds of exceptions that are none of another kind -/
def xNC : List (String × String) := [("java/lang/IllegalStateException", "java/lang/IndexOutOfBoundsException"), ("java/lang/IllegalArgumentException", "java/lang/IndexOutOfBoundsException"), ("java/lang/IllegalArgumentException", "java/lang/IllegalStateException")]
def NC (U : State) : Prop := ∀ q ∈ xNC, va_Nc q.1 q.2 U
theorem NC.moved {u U : State} (h : u.vm.Alike U.vm) (hn : NC u) : NC U := fun q hq => va_Nc.moved h (hn q hq)
/-- the start of a call that catches -/
abbrev wl_P (D : va_G) (tys : List (ClassId × FieldType)) (ww : va_W) (sz tp : Nat) (av : List Value) : Array Value → State → Prop := va_Pc av (fun U => U.heap.size = sz ∧ (va_P D vwCl ww U.heap ∧ va_K D vwCl tys U ∧ va_D (fun _ => True) ww) ∧ EV tp (va_A ww sz) U U.heap ∧ NC U)
theorem wl_blind {D : va_G} {tys : List (ClassId × FieldType)} {ww : va_W} {sz tp : Nat} {av : List Value} : FrameBlind (wl_P D tys ww sz tp av) := fun a U g mk q => ⟨q.1, q.2.1, ⟨q.2.2.1.1, va_K.moved (u := U) (U := U.calling g mk a) (Vm.Alike.refl U.vm) q.2.2.1.2.1, q.2.2.1.2.2⟩, EV.same (u := U) (U := U.calling g mk a) rfl q.2.2.2.1, NC.moved (u := U) (U := U.calling g mk a) (Vm.Alike.refl U.vm) q.2.2.2.2⟩
section WL
variable {p : Program} {l : Launch} {e : Env} {R : Room} {s : State} {m : MethodId} {args : Array Value} {below : List Frame} {meth : Method} {c : Code} {H : Heap} {locs : List Loc} {cells slots : Nat} {Q : State → Prop}
variable {cc : ByteArray} {pc : Nat} {ls : Array Slot} {rest st0 : List Value}
variable {y : MethodName} {bytes : ByteArray} {maxL nL n index mc ms : Nat} {ret : Option FieldType} {hh : List (Nat × Nat × Nat × Nat)} {ws : List Cond} {rm : Room} {Ts : List Cond} {own C : String} {b : Addr} {As : List Value}
variable {D : va_G} {tys : List (ClassId × FieldType)} {ww wc wr : va_W} {tp : Nat} {A : Nat → Prop}
theorem wl_pre (hK : va_K D vwCl tys s) (hP : va_P D vwCl ww H) (hD : va_D A ww) (hS : va_S A s.heap H locs) (hA : ∀ q, s.heap.size ≤ q → A q) (hE : EV tp A s s.heap) (hNC : NC s) (isC : List Nat) (hC : isC.map (fun i => ww[i]?) = wc.map some) (hnC : va_nd isC = true) {av : List Value} :
    ∀ U : State, U.heap = H → s.WarmedH U.vm → wl_P D tys wc H.size tp av av.toArray U := fun U hU hW =>
  ⟨rfl, by rw [hU], ⟨by rw [hU]; exact hP.sub isC (pick_fm isC hC), va_K.moved hW.alike hK, (hD.sub isC hnC hC).weaken (fun _ _ _ _ => trivial)⟩, by rw [hU]; exact (EV.warm hW (hE.at hS)).narrow (va_free (wc := wc) hD hS hA isC hC), NC.moved hW.alike hNC⟩
/-- a call that catches -/
theorem wl_S {Su : Type} {o₀ : Su → Option Value} {post : Su → Prop} {wn : Su → va_W} (S : CallFix p m c cc nL s args Ts own) (hM : Met l y ws rm (wl_P D tys wc H.size tp As) (wx D tys (va_A wc H.size) o₀ post wn) mc ms (va_A wc H.size)) (cw : vx_CSW R s args own index y bytes maxL ret hh ws rm mc ms n)
    (hn : As.length = n) (hsize : ls.size = nL) (hstack : st0 = As.reverse ++ rest) (hW : (rest.map fun v => v.category).sum ≤ 8) (hdg : decode cc pc = .ok (.invokestatic index, 3)) (hf : cells + mc ≤ R.cells ∧ slots + ms ≤ R.slots)
    (hK : va_K D vwCl tys s) (hP : va_P D vwCl ww H) (hD : va_D A ww) (hS : va_S A s.heap H locs) (hA : ∀ q, s.heap.size ≤ q → A q) (hE : EV tp A s s.heap) (hNC : NC s) (isC isR : List Nat) (hC : isC.map (fun i => ww[i]?) = wc.map some) (hR : isR.map (fun i => ww[i]?) = wr.map some) (hnC : va_nd isC = true) (hn1 : va_nd isR = true) (hdis : ∀ i ∈ isR, i ∉ isC)
    (kk : ∀ (u : Su) (H1 : Heap) (locs1 : List Loc), post u → va_P D vwCl (wr ++ wn u) H1 → va_D A (wr ++ wn u) → va_S A s.heap H1 locs1 → W p l e R s m args below meth c H1 locs1 (cells + mc) (slots + ms) Q (F0 m (pc + 3) ls ((o₀ u).toList ++ rest))) : W p l e R s m args below meth c H locs cells slots Q (F0 m pc ls st0) :=
  wr_after (As := As) (g := F0 m pc ls st0) (vx_runSW (g := F0 m pc ls st0) S hM cw ⟨wl_blind, wl_pre hK hP hD hS hA hE hNC isC hC hnC⟩ rfl hn hsize hstack (lv_room hW) hdg hf) hP hD hS hA isC isR hC hR hn1 hdis kk
/-- a reader seen as a writer -/
theorem rd_wr {av : List Value} {r : Value} (hM : Met l y ws rm (re_P D tys ww tp av) (k2_QcV r) 0 0 (fun _ => False)) (sz : Nat) : Met l y ws rm (wr_P D tys ww sz tp av) (wx (Su := Unit) D tys (va_A ww sz) (fun _ => some r) (fun _ => True) (fun _ => ww)) 0 0 (va_A ww sz) := by
  intro p e ha hc hk s m args below hf happ hP _
  obtain ⟨n, o, h1, h2, h3, hq, L, hfe, hL⟩ := hM p e ha hc hk s m args below hf happ ⟨hP.1, ⟨hP.2.2.1.1, hP.2.2.1.2.1⟩, hP.2.2.2.narrow (fun _ h => h.elim)⟩ trivial
  exact ⟨n, o, h1, h2, h3, ⟨(), hq.1, trivial, ⟨by rw [hq.2]; exact hP.2.2.1.1, hP.2.2.1.2.2.self⟩, ⟨by rw [hq.2]; exact Nat.le_refl _, fun q _ _ => by rw [hq.2]⟩⟩, L, hfe, fun q h => (hL q h).elim⟩
end WL
