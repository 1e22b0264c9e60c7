/-! What nobody writes: the six patterns, Throwable's two statics, the texts; and starts of methods that lean on it. -/
def pat (j : Nat) : Int64 := match j with
  | 0 => -6148914691236517206
  | 1 => -3689348814741910324
  | 2 => -1085102592571150096
  | 3 => -71777214294589696
  | 4 => -281470681808896
  | _ => -4294967296
def xE : List String := ["java/lang/IllegalStateException", "java/lang/IllegalArgumentException", "java/lang/IndexOutOfBoundsException"]
def sTx : List (Nat × String) := [(35, "there are 8 inputs"), (50, "there are 4 latches"), (84, "there are 16 outputs"), (122, "k is below 0"), (145, "no such output or next of both sides"), (158, "no such output"), (175, "no such what"), (181, "no such side"), (183, "no such literal"), (185, "no such latch"), (189, "a start is neither 0 nor 1"), (192, "there are 400 nodes"), (197, "a literal is of an AND of the other side")]
/-- a kind of exception can be cast to itself -/
def Cs (E : String) (U : State) : Prop := ∃ c : ClassId, U.vm.findClass E = some c ∧ U.vm.assignable c c = true
theorem Cs.moved {E : String} {u U : State} (hvm : u.vm.Alike U.vm) (h : Cs E u) : Cs E U := by
  obtain ⟨c, h1, h2⟩ := h
  exact ⟨c, by rw [hvm.findClass]; exact h1, by rw [hvm.assignable]; exact h2⟩
theorem Cs.of {E : String} {U : State} {A : Array Value} (h : (Cond.castable E E).before A U = true) : Cs E U := by
  obtain ⟨c, t, h1, h2, h3⟩ := Cond.castable_spec h
  cases h1.symm.trans h2
  exact ⟨c, h1, h3⟩
theorem Cs.word {E : String} {U : State} {A : Array Value} (h : Cs E U) : (Cond.castable E E).before A U = true := by
  obtain ⟨c, h1, h2⟩ := h
  simp [Cond.before, Cond.holds, Cond.value, h1, h2]
def xD : List MethodName := [Bundle.initS "java/lang/RuntimeException", Bundle.initS "java/lang/Exception", Bundle.initS "java/lang/Throwable"]
def EV (tp : Nat) (A : Nat → Prop) (U : State) (H : Heap) : Prop :=
  va_Z "SweepEqual$Nodes" "WORD_PATTERNS" "[J" (.ref tp) A U H ∧ va_T .long tp 6 (fun j => .long (pat j)) A U H ∧
  vx_Zq Bundle.tN "UNASSIGNED_STACK" Bundle.steD A U H ∧ vx_Zq Bundle.tN "SUPPRESSED_SENTINEL" Bundle.listD A U H ∧
  (∀ q ∈ sTx, ∃ sa, vk_R RX2 q.1 q.2 sa U) ∧ (∀ E ∈ xE, Cs E U) ∧ (∀ x ∈ xD, (Cond.declares x).before #[] U = true)
theorem EV.kept {tp : Nat} {A : Nat → Prop} {U : State} {H H1 : Heap} (h : EV tp A U H) (hq : ∀ a : Nat, a < H.size → ¬ A a → H1[a]? = H[a]?) : EV tp A U H1 := by
  obtain ⟨h1, h2, h3, h4, h5⟩ := h
  exact ⟨h1.kept hq, h2.kept hq, h3.kept hq, h4.kept hq, h5⟩
theorem EV.narrow {tp : Nat} {A B : Nat → Prop} {U : State} {H : Heap} (h : EV tp A U H) (hAB : ∀ q, B q → A q) : EV tp B U H := by
  obtain ⟨h1, h2, h3, h4, h5⟩ := h
  exact ⟨h1.narrow hAB, h2.narrow hAB, h3.narrow hAB, h4.narrow hAB, h5⟩
theorem EV.warm {tp : Nat} {A : Nat → Prop} {s U : State} {H : Heap} (hW : s.WarmedH U.vm) (h : EV tp A s H) : EV tp A U H := by
  obtain ⟨h1, h2, h3, h4, h5, h6, h7⟩ := h
  exact ⟨h1.moved hW.alike, h2.moved hW.alike, h3.moved hW.alike, h4.moved hW.alike, fun q hq => by obtain ⟨sa, h⟩ := h5 q hq; exact ⟨sa, h.warm hW⟩, fun E hE => (h6 E hE).moved hW.alike, fun x hx => by
    have h8 : (Cond.declares x).before #[] (s.setVm U.vm) = true := Cond.before_shiftedFace (State.Shifted.of_warmed hW) _ rfl (h7 x hx)
    exact va_tabs (u := s.setVm U.vm) rfl rfl h8⟩
theorem EV.same {tp : Nat} {A : Nat → Prop} {u U : State} {H : Heap} (hv : U.vm = u.vm) (h : EV tp A u H) : EV tp A U H := by
  obtain ⟨h1, h2, h3, h4, h5, h6, h7⟩ := h
  have ha : u.vm.Alike U.vm := by rw [hv]; exact Vm.Alike.refl _
  exact ⟨h1.moved ha, h2.moved ha, h3.moved ha, h4.moved ha, fun q hq => by obtain ⟨sa, h⟩ := h5 q hq; exact ⟨sa, h.same hv⟩, fun E hE => (h6 E hE).moved ha, fun x hx => va_tabs rfl hv.symm (h7 x hx)⟩
/-- as seen behind writes in A -/
theorem EV.at {tp : Nat} {A : Nat → Prop} {U : State} {H0 H : Heap} {locs : List Loc} (h : EV tp A U H0) (hS : va_S A H0 H locs) : EV tp A U H := h.kept hS.2.1
section EE
variable {s : State} {H : Heap}
/-- a reader's start, with what nobody writes -/
abbrev re_P (D : va_G) (tys : List (ClassId × FieldType)) (ww : va_W) (tp : Nat) (av : List Value) : Array Value → State → Prop := va_Pc av (fun U => (va_P D vwCl ww U.heap ∧ va_K D vwCl tys U) ∧ EV tp (fun _ => False) U U.heap)
theorem re_blind {D : va_G} {tys : List (ClassId × FieldType)} {ww : va_W} {tp : Nat} {av : List Value} : FrameBlind (re_P D tys ww tp av) := fun a U g mk q => ⟨q.1, ⟨q.2.1.1, va_K.moved (u := U) (U := U.calling g mk a) (Vm.Alike.refl U.vm) q.2.1.2⟩, EV.same (u := U) (U := U.calling g mk a) rfl q.2.2⟩
theorem re_pv {D : va_G} {tys : List (ClassId × FieldType)} {ww : va_W} {tp q0 ci : Nat} {q : vw_C} {fs : List Value} {b : Nat} {As : List Value} {A : Nat → Prop} (hK : va_K D vwCl tys s) (hP : va_P D vwCl ww H) (hE : EV tp A s H) (hc : vwCl[ci]? = some q) (he : ww[q0]? = some (b, .inr (ci, fs))) : PreV s H q.1 b (re_P D tys ww tp (.ref b :: As)) As :=
  ⟨re_blind, va_recv hK hP hc he, fun U hU hW => ⟨rfl, ⟨by rw [hU]; exact hP, va_K.moved hW.alike hK⟩, by rw [hU]; exact (EV.warm hW hE).narrow (fun _ h => h.elim)⟩⟩
theorem re_ps {D : va_G} {tys : List (ClassId × FieldType)} {ww : va_W} {tp : Nat} {As : List Value} {A : Nat → Prop} (hK : va_K D vwCl tys s) (hP : va_P D vwCl ww H) (hE : EV tp A s H) : PreS s H (re_P D tys ww tp As) As :=
  ⟨re_blind, fun U hU hW => ⟨rfl, ⟨by rw [hU]; exact hP, va_K.moved hW.alike hK⟩, by rw [hU]; exact (EV.warm hW hE).narrow (fun _ h => h.elim)⟩⟩
end EE
theorem n_xor (a b : Nat) : nI a ^^^ nI b = nI (a ^^^ b) := by
  apply Int32.toBitVec_inj.mp
  show BitVec.ofNat 32 a ^^^ BitVec.ofNat 32 b = BitVec.ofNat 32 (a ^^^ b)
  apply BitVec.eq_of_getLsbD_eq
  intro i hi
  simp [BitVec.getLsbD_ofNat, hi, Nat.testBit_xor]
theorem n_or (a b : Nat) : nI a ||| nI b = nI (a ||| b) := by
  apply Int32.toBitVec_inj.mp
  show BitVec.ofNat 32 a ||| BitVec.ofNat 32 b = BitVec.ofNat 32 (a ||| b)
  apply BitVec.eq_of_getLsbD_eq
  intro i hi
  simp [BitVec.getLsbD_ofNat, hi, Nat.testBit_or]
/-- a shift to the right by a number, as Java takes it -/
def shrL (x : Int64) (k : Nat) : Int64 := (x.toUInt64 >>> ((nI k).toInt64.toUInt64 &&& Int64.toUInt64 63)).toInt64
/-- whether word w of a literal tells that it hangs on variable b -/
def whF (fr : Nat → Int64) (lit b w : Nat) : Bool :=
  if 6 ≤ b then decide (¬ wd fr lit w = wd fr lit (w ^^^ 2 ^ (b - 6)))
  else decide (¬ (wd fr lit w ^^^ shrL (wd fr lit w) (2 ^ b)) &&& (pat b ^^^ (-1)) = 0)
/-- from word i on, at most n words -/
def hgF (fr : Nat → Int64) (lit b : Nat) : Nat → Nat → Bool
  | 0, _ => false
  | n + 1, i => if whF fr lit b i = true then true else hgF fr lit b n (i + 1)
/-- the first k variables on which a literal hangs -/
def spF (fr : Nat → Int64) (lit : Nat) : Nat → Int32
  | 0 => nI 0
  | k + 1 => if hgF fr lit k 64 0 = true then spF fr lit k ||| (nI 1 <<< (nI k &&& 31)) else spF fr lit k
/-- word w of variable b -/
def vwF (b w : Nat) : Int64 := if b < 6 then pat b else if w / 2 ^ (b - 6) % 2 = 1 then -1 else 0
theorem n_shl1 {k : Nat} (hk : k < 31) : nI 1 <<< (nI k &&& 31) = nI (2 ^ k) := by
  have h : 2 ^ k < 2 ^ 31 := Nat.pow_lt_pow_right (by omega) hk
  rw [n_shl (by omega) (by omega), Nat.one_mul]
