/-! Methods that throw: a throw at its place, a throw out of a callee. -/
/-- a method that throws E: nothing that was there has changed -/
def thX (E0 : String) : String → State → State → Prop := fun E st t => E = E0 ∧ st.heap.size ≤ t.heap.size ∧ ∀ q : Nat, q < st.heap.size → t.heap[q]? = st.heap[q]?
def noQ : Array Value → State → Outcome → State → Prop := fun _ _ _ _ => False
abbrev TH (l : Launch) (y : MethodName) (ws : List Cond) (rm : Room) (Pc : Array Value → State → Prop) (E0 : String) : Prop := vx_Met l y ws rm Pc noQ (thX E0) 1 6 (fun _ => False)
/-- a reader that answers nothing -/
def rv_Q : Array Value → State → Outcome → State → Prop := fun _ st o t => o = .returned none ∧ t.heap = st.heap
def xN : List String := ["java/lang/RuntimeException", "java/lang/Exception"]
section TT
variable {p : Program} {l : Launch} {e : Env} {R : Room} {s : State} {m : MethodId} {args : Array Value} {below : List Frame} {meth : Method} {c : Code} {H : Heap} {locs : List Loc} {cells slots : Nat} {Q : State → Prop}
variable {cc : ByteArray} {pc : Nat} {ls : Array Slot} {rest st0 : List Value}
variable {y : MethodName} {bytes : ByteArray} {maxL nL n index mc ms : Nat} {ret : Option FieldType} {ws : List Cond} {rm : Room} {Pc : Array Value → State → Prop} {Ts : List Cond} {own C : String} {b : Addr} {As : List Value} {E0 : String}
theorem rv_V (S : CallFix p m c cc nL s args Ts own) (hM : Met l y ws rm Pc rv_Q 0 0 (fun _ => False)) (cw : CallW R s args own C index y bytes maxL ret ws rm 0 0 n) (hp : PreV s H C b Pc As)
    (hn : As.length = n) (hsize : ls.size = nL) (hstack : st0 = As.reverse ++ .ref b :: rest) (hW : (rest.map fun v => v.category).sum ≤ 8) (hdg : decode cc pc = .ok (.invokevirtual index, 3)) (hf : cells ≤ R.cells ∧ slots ≤ R.slots)
    (kk : W p l e R s m args below meth c H locs cells slots Q (F0 m (pc + 3) ls rest)) : W p l e R s m args below meth c H locs cells slots Q (F0 m pc ls st0) := by
  intro T hT X
  obtain ⟨v, st₀, t, T', L, h0, X', hL, e1, ⟨hv, hh⟩, st⟩ := W.runV (g := F0 m pc ls st0) S hM cw hp rfl hn hsize hstack (lv_room hW) hdg hf T hT X
  cases hv
  obtain ⟨t2, a1, b1⟩ := kk T' (by rw [e1, hh, h0]) (Stand.forget X' (fun q h => (hL q h).elim))
  exact ⟨t2, st t2 a1, b1⟩
theorem rv_r (hx : p.tables.exec = Jvm.exec) (hb : c.code = cc) (hr : meth.sig.returnType = none) (hlocks : meth.locks = false) (hdg : decode cc pc = .ok (.return_, 1)) : W p l e R s m args below meth c s.heap [] 0 0 (MQ below rv_Q args s 0 0 (fun _ => False)) (F0 m pc ls []) :=
  W.vret hx hb hr (fun t ht _ => ⟨rfl, ht⟩) (fun q h => absurd h List.not_mem_nil) hdg hlocks
/-- a throw at its place -/
theorem th_S (hx : p.tables.exec = Jvm.exec) (hb : c.code = cc) (hl : l.stackTraces = false) {cls text : String} {ik is ic tp : Nat} (hown : s.vm.findClass RX2 = some m.cls) (hcls : Bundle.fit cls = true)
    (hk : (Cond.classLink RX2 ik cls).before args s = true) (hini : (Cond.initialized cls).before args s = true) (hw : ∀ w ∈ (vx_atS RX2 ic cls xN).filter goodWord, w.before args s = true)
    (hng : ∀ w ∈ (vx_atS RX2 ic cls xN).filter (fun w => !goodWord w), w ∈ Cond.castable cls cls :: xD.map Cond.declares) (hgood : ∀ w ∈ Cond.classLink RX2 ik cls :: Cond.initialized cls :: vx_atS RX2 ic cls xN, vx_ot w = true)
    (hE : EV tp (fun _ => False) s s.heap) (hxe : cls ∈ xE) (htx : (is, text) ∈ sTx) (hsize : ls.size = c.maxLocals)
    (d0 : decode cc pc = .ok (.new ik, 3)) (d3 : decode cc (pc + 3) = .ok (.dup, 1)) (d4 : decode cc (pc + 4) = .ok (.ldc is, 2)) (d6 : decode cc (pc + 6) = .ok (.invokespecial ic, 3)) (d9 : decode cc (pc + 9) = .ok (.athrow, 1))
    (hno : ∀ x ∈ c.exceptionTable.toList, False) (hRf : 5 < R.frames) (hRl : (rest.map fun v => v.category).sum + 82 ≤ R.locals) (hRc : 1 ≤ R.cells) (hRs : 6 ≤ R.slots) (hlocks : meth.locks = false) :
    W p l e R s m args below meth c s.heap [] 0 0 (vx_MQ below noQ (thX cls) args s 1 6 (fun _ => False)) (F0 m pc ls rest) := by
  obtain ⟨h1, h2, h3, h4, h5, h6, h7⟩ := id hE
  obtain ⟨sa, hsa⟩ := h5 _ htx
  have hat : ∀ w ∈ vx_atS RX2 ic cls xN, w.before args s = true := vx_hat hw hng (fun w hw => by
    rcases List.mem_cons.mp hw with h | h
    · rw [h]; exact (h6 cls hxe).word
    · obtain ⟨x, hx, rfl⟩ := List.mem_map.mp h
      exact va_any rfl (h7 x hx))
  exact vx_throwS (names := xN) (text := text) (sa := sa) hx hb hl hown hcls (by decide) hk hini hsa hat hgood h3 h4 va_S.rf hsize d0 d3 d4 d6 d9 (fun x hx => (hno x hx).elim) hRf hRl (by omega) (by omega) hlocks
    (fun t _ h7 h8 => ⟨rfl, h7, h8⟩) (fun z hz => absurd hz List.not_mem_nil) (Nat.le_refl _) (Nat.le_refl _)
/-- a throw out of a callee -/
theorem th_V (S : CallFix p m c cc nL s args Ts own) (hM : TH l y ws rm Pc E0) (cw : CallW R s args own C index y bytes maxL ret ws rm 1 6 n) (hp : PreV s s.heap C b Pc As)
    (hn : As.length = n) (hsize : ls.size = nL) (hstack : st0 = As.reverse ++ .ref b :: rest) (hW : (rest.map fun v => v.category).sum ≤ 8) (hdg : decode cc pc = .ok (.invokevirtual index, 3)) (hf : 1 ≤ R.cells ∧ 6 ≤ R.slots) (hno : ∀ x ∈ c.exceptionTable.toList, False) (hlocks : meth.locks = false) :
    W p l e R s m args below meth c s.heap [] 0 0 (vx_MQ below noQ (thX E0) args s 1 6 (fun _ => False)) (F0 m pc ls st0) := by
  intro T hT X
  rcases vx_runV (g := F0 m pc ls st0) S hM cw hp rfl hn hsize hstack (lv_room hW) hdg ⟨by omega, by omega⟩ T hT X with ⟨v, st₀, t, T', L, h0, X', hL, e1, e2, hq, st⟩ | ⟨q, st₀, t, T', L, E, ce, h0, X', hL, e1, e2, ⟨hE, h7, h8⟩, hce, hcv, hcl, st⟩
  · exact hq.elim
  · rw [h0] at h7 h8
    have hLn : L = [] := by
      cases L with
      | nil => rfl
      | cons z L => exact (hL z List.mem_cons_self).elim
    subst hLn
    obtain ⟨t2, a1, b1⟩ := vx_out (H := T'.heap) (locs := []) (cells := 0 + 1) (slots := 0 + 6) (E := E) (ce := ce) (q := q) (Qc := noQ) (XC := thX E0) (mc := 1) (ms := 6) (free := fun _ => False) (pc := pc) (ls := ls) (rest := rest) (fun x hx => (hno x hx).elim) hlocks (by rw [e1]; exact hce) hcv hcl
      (fun t9 h9 _ => ⟨hE, by rw [h9, e1]; exact h7, fun q hq => by rw [h9, e1]; exact h8 q hq⟩) (fun z hz => absurd hz List.not_mem_nil) (by omega) (by omega) T' rfl X'
    exact ⟨t2, st.trans a1, b1⟩
end TT
