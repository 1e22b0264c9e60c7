section
-- ===== PART A: goes FIRST, ahead of the names: the tables' words, and 'selects' of the private methods out of them =====
/-- a private method of a class that the tables say can be made, by its rows of tables_1 -/
def lw_okq (q : MethodName × Nat) : Prop := (q.1.cls ≠ "java/lang/invoke/MethodHandle" ∧ q.1.cls ≠ "java/lang/invoke/VarHandle") ∧ Cond.instantiable q.1.cls q.2 ∈ tables_1 ∧ Cond.privateMethod q.1 ∈ tables_1 ∧ Cond.instanceMethod q.1 ∈ tables_1
theorem lw_p0 : lw_okq (⟨"SweepEqual$Nodes", "isLeast", "(I)Z"⟩, 4) := ⟨⟨by decide +kernel, by decide +kernel⟩, List.mem_of_getElem? (i := 25) (by decide +kernel), List.mem_of_getElem? (i := 112) (by decide +kernel), List.mem_of_getElem? (i := 113) (by decide +kernel)⟩
theorem lw_p1 : lw_okq (⟨"SweepEqual", "backToStarts", "()V"⟩, 7) := ⟨⟨by decide +kernel, by decide +kernel⟩, List.mem_of_getElem? (i := 17) (by decide +kernel), List.mem_of_getElem? (i := 120) (by decide +kernel), List.mem_of_getElem? (i := 121) (by decide +kernel)⟩
theorem lw_p2 : lw_okq (⟨"SweepEqual$Nodes", "wordOf", "(II)J"⟩, 4) := ⟨⟨by decide +kernel, by decide +kernel⟩, List.mem_of_getElem? (i := 25) (by decide +kernel), List.mem_of_getElem? (i := 140) (by decide +kernel), List.mem_of_getElem? (i := 141) (by decide +kernel)⟩
theorem lw_p3 : lw_okq (⟨"SweepEqual", "showApart", "()Z"⟩, 7) := ⟨⟨by decide +kernel, by decide +kernel⟩, List.mem_of_getElem? (i := 17) (by decide +kernel), List.mem_of_getElem? (i := 145) (by decide +kernel), List.mem_of_getElem? (i := 146) (by decide +kernel)⟩
theorem lw_p4 : lw_okq (⟨"java/lang/Throwable", "fillInStackTrace", "(I)Ljava/lang/Throwable;"⟩, 6) := ⟨⟨by decide +kernel, by decide +kernel⟩, List.mem_of_getElem? (i := 214) (by decide +kernel), List.mem_of_getElem? (i := 212) (by decide +kernel), List.mem_of_getElem? (i := 213) (by decide +kernel)⟩
theorem lw_p5 : lw_okq (⟨"SweepEqual", "needRoomForNode", "()V"⟩, 7) := ⟨⟨by decide +kernel, by decide +kernel⟩, List.mem_of_getElem? (i := 17) (by decide +kernel), List.mem_of_getElem? (i := 244) (by decide +kernel), List.mem_of_getElem? (i := 245) (by decide +kernel)⟩
theorem lw_p6 : lw_okq (⟨"SweepEqual$Nodes", "growRows", "()V"⟩, 4) := ⟨⟨by decide +kernel, by decide +kernel⟩, List.mem_of_getElem? (i := 25) (by decide +kernel), List.mem_of_getElem? (i := 253) (by decide +kernel), List.mem_of_getElem? (i := 254) (by decide +kernel)⟩
theorem lw_p7 : lw_okq (⟨"SweepEqual$Nodes", "settle", "(I)I"⟩, 4) := ⟨⟨by decide +kernel, by decide +kernel⟩, List.mem_of_getElem? (i := 25) (by decide +kernel), List.mem_of_getElem? (i := 277) (by decide +kernel), List.mem_of_getElem? (i := 278) (by decide +kernel)⟩
theorem lw_p8 : lw_okq (⟨"SweepEqual$Nodes", "findFirst", "(I)I"⟩, 4) := ⟨⟨by decide +kernel, by decide +kernel⟩, List.mem_of_getElem? (i := 25) (by decide +kernel), List.mem_of_getElem? (i := 281) (by decide +kernel), List.mem_of_getElem? (i := 282) (by decide +kernel)⟩
theorem lw_p9 : lw_okq (⟨"SweepEqual", "needStart", "(I)V"⟩, 7) := ⟨⟨by decide +kernel, by decide +kernel⟩, List.mem_of_getElem? (i := 17) (by decide +kernel), List.mem_of_getElem? (i := 306) (by decide +kernel), List.mem_of_getElem? (i := 307) (by decide +kernel)⟩
theorem lw_p10 : lw_okq (⟨"SweepEqual", "needSide", "(I)V"⟩, 7) := ⟨⟨by decide +kernel, by decide +kernel⟩, List.mem_of_getElem? (i := 17) (by decide +kernel), List.mem_of_getElem? (i := 338) (by decide +kernel), List.mem_of_getElem? (i := 339) (by decide +kernel)⟩
theorem lw_p11 : lw_okq (⟨"SweepEqual", "needLiteral", "(I)V"⟩, 7) := ⟨⟨by decide +kernel, by decide +kernel⟩, List.mem_of_getElem? (i := 17) (by decide +kernel), List.mem_of_getElem? (i := 358) (by decide +kernel), List.mem_of_getElem? (i := 359) (by decide +kernel)⟩
theorem lw_p12 : lw_okq (⟨"SweepEqual", "needOwn", "(II)V"⟩, 7) := ⟨⟨by decide +kernel, by decide +kernel⟩, List.mem_of_getElem? (i := 17) (by decide +kernel), List.mem_of_getElem? (i := 363) (by decide +kernel), List.mem_of_getElem? (i := 364) (by decide +kernel)⟩
theorem lw_p13 : lw_okq (⟨"SweepEqual", "designOf", "(I)LSweepEqual$Design;"⟩, 7) := ⟨⟨by decide +kernel, by decide +kernel⟩, List.mem_of_getElem? (i := 17) (by decide +kernel), List.mem_of_getElem? (i := 383) (by decide +kernel), List.mem_of_getElem? (i := 384) (by decide +kernel)⟩
theorem lw_p14 : lw_okq (⟨"SweepEqual", "needLatch", "(I)V"⟩, 7) := ⟨⟨by decide +kernel, by decide +kernel⟩, List.mem_of_getElem? (i := 17) (by decide +kernel), List.mem_of_getElem? (i := 399) (by decide +kernel), List.mem_of_getElem? (i := 400) (by decide +kernel)⟩
theorem lw_p15 : lw_okq (⟨"SweepEqual$Nodes", "hangsOn", "(II)Z"⟩, 4) := ⟨⟨by decide +kernel, by decide +kernel⟩, List.mem_of_getElem? (i := 25) (by decide +kernel), List.mem_of_getElem? (i := 449) (by decide +kernel), List.mem_of_getElem? (i := 450) (by decide +kernel)⟩
def lw_privs_1 : List (MethodName × Nat) := [(⟨"SweepEqual$Nodes", "isLeast", "(I)Z"⟩, 4), (⟨"SweepEqual", "backToStarts", "()V"⟩, 7), (⟨"SweepEqual$Nodes", "wordOf", "(II)J"⟩, 4), (⟨"SweepEqual", "showApart", "()Z"⟩, 7), (⟨"java/lang/Throwable", "fillInStackTrace", "(I)Ljava/lang/Throwable;"⟩, 6), (⟨"SweepEqual", "needRoomForNode", "()V"⟩, 7), (⟨"SweepEqual$Nodes", "growRows", "()V"⟩, 4), (⟨"SweepEqual$Nodes", "settle", "(I)I"⟩, 4), (⟨"SweepEqual$Nodes", "findFirst", "(I)I"⟩, 4), (⟨"SweepEqual", "needStart", "(I)V"⟩, 7), (⟨"SweepEqual", "needSide", "(I)V"⟩, 7), (⟨"SweepEqual", "needLiteral", "(I)V"⟩, 7), (⟨"SweepEqual", "needOwn", "(II)V"⟩, 7), (⟨"SweepEqual", "designOf", "(I)LSweepEqual$Design;"⟩, 7), (⟨"SweepEqual", "needLatch", "(I)V"⟩, 7), (⟨"SweepEqual$Nodes", "hangsOn", "(II)Z"⟩, 4)]
theorem lw_r1 : ∀ q ∈ lw_privs_1, lw_okq q := List.forall_mem_cons.mpr ⟨lw_p0, List.forall_mem_cons.mpr ⟨lw_p1, List.forall_mem_cons.mpr ⟨lw_p2, List.forall_mem_cons.mpr ⟨lw_p3, List.forall_mem_cons.mpr ⟨lw_p4, List.forall_mem_cons.mpr ⟨lw_p5, List.forall_mem_cons.mpr ⟨lw_p6, List.forall_mem_cons.mpr ⟨lw_p7, List.forall_mem_cons.mpr ⟨lw_p8, List.forall_mem_cons.mpr ⟨lw_p9, List.forall_mem_cons.mpr ⟨lw_p10, List.forall_mem_cons.mpr ⟨lw_p11, List.forall_mem_cons.mpr ⟨lw_p12, List.forall_mem_cons.mpr ⟨lw_p13, List.forall_mem_cons.mpr ⟨lw_p14, List.forall_mem_cons.mpr ⟨lw_p15, fun _ h => absurd h List.not_mem_nil⟩⟩⟩⟩⟩⟩⟩⟩⟩⟩⟩⟩⟩⟩⟩⟩
theorem lw_p16 : lw_okq (⟨"SweepEqual$Nodes", "wordHangsOn", "(III)Z"⟩, 4) := ⟨⟨by decide +kernel, by decide +kernel⟩, List.mem_of_getElem? (i := 25) (by decide +kernel), List.mem_of_getElem? (i := 453) (by decide +kernel), List.mem_of_getElem? (i := 454) (by decide +kernel)⟩
theorem lw_p17 : lw_okq (⟨"SweepEqual", "sharedOutputs", "()I"⟩, 7) := ⟨⟨by decide +kernel, by decide +kernel⟩, List.mem_of_getElem? (i := 17) (by decide +kernel), List.mem_of_getElem? (i := 490) (by decide +kernel), List.mem_of_getElem? (i := 491) (by decide +kernel)⟩
theorem lw_p18 : lw_okq (⟨"SweepEqual", "countDifferent", "([I[II)I"⟩, 7) := ⟨⟨by decide +kernel, by decide +kernel⟩, List.mem_of_getElem? (i := 17) (by decide +kernel), List.mem_of_getElem? (i := 494) (by decide +kernel), List.mem_of_getElem? (i := 495) (by decide +kernel)⟩
theorem lw_p19 : lw_okq (⟨"SweepEqual", "placeOfDifferent", "([I[III)I"⟩, 7) := ⟨⟨by decide +kernel, by decide +kernel⟩, List.mem_of_getElem? (i := 17) (by decide +kernel), List.mem_of_getElem? (i := 498) (by decide +kernel), List.mem_of_getElem? (i := 499) (by decide +kernel)⟩
theorem lw_p20 : lw_okq (⟨"SweepEqual", "differentStartOrSize", "(I)I"⟩, 7) := ⟨⟨by decide +kernel, by decide +kernel⟩, List.mem_of_getElem? (i := 17) (by decide +kernel), List.mem_of_getElem? (i := 502) (by decide +kernel), List.mem_of_getElem? (i := 503) (by decide +kernel)⟩
theorem lw_p21 : lw_okq (⟨"SweepEqualModel", "start", "()V"⟩, 16) := ⟨⟨by decide +kernel, by decide +kernel⟩, List.mem_of_getElem? (i := 542) (by decide +kernel), List.mem_of_getElem? (i := 552) (by decide +kernel), List.mem_of_getElem? (i := 553) (by decide +kernel)⟩
theorem lw_p22 : lw_okq (⟨"SweepEqualModel", "variable", "(I)I"⟩, 16) := ⟨⟨by decide +kernel, by decide +kernel⟩, List.mem_of_getElem? (i := 542) (by decide +kernel), List.mem_of_getElem? (i := 613) (by decide +kernel), List.mem_of_getElem? (i := 614) (by decide +kernel)⟩
theorem lw_p23 : lw_okq (⟨"SweepEqualModel", "isLiteral", "(I)Z"⟩, 16) := ⟨⟨by decide +kernel, by decide +kernel⟩, List.mem_of_getElem? (i := 542) (by decide +kernel), List.mem_of_getElem? (i := 628) (by decide +kernel), List.mem_of_getElem? (i := 629) (by decide +kernel)⟩
theorem lw_p24 : lw_okq (⟨"SweepEqualModel", "isOther", "(II)Z"⟩, 16) := ⟨⟨by decide +kernel, by decide +kernel⟩, List.mem_of_getElem? (i := 542) (by decide +kernel), List.mem_of_getElem? (i := 632) (by decide +kernel), List.mem_of_getElem? (i := 633) (by decide +kernel)⟩
theorem lw_p25 : lw_okq (⟨"SweepEqualModel", "areSame", "(II)Z"⟩, 16) := ⟨⟨by decide +kernel, by decide +kernel⟩, List.mem_of_getElem? (i := 542) (by decide +kernel), List.mem_of_getElem? (i := 652) (by decide +kernel), List.mem_of_getElem? (i := 653) (by decide +kernel)⟩
theorem lw_p26 : lw_okq (⟨"SweepEqualModel", "firstOf", "(I)I"⟩, 16) := ⟨⟨by decide +kernel, by decide +kernel⟩, List.mem_of_getElem? (i := 542) (by decide +kernel), List.mem_of_getElem? (i := 660) (by decide +kernel), List.mem_of_getElem? (i := 661) (by decide +kernel)⟩
theorem lw_p27 : lw_okq (⟨"SweepEqualModel", "isLeast", "(I)Z"⟩, 16) := ⟨⟨by decide +kernel, by decide +kernel⟩, List.mem_of_getElem? (i := 542) (by decide +kernel), List.mem_of_getElem? (i := 668) (by decide +kernel), List.mem_of_getElem? (i := 669) (by decide +kernel)⟩
theorem lw_p28 : lw_okq (⟨"SweepEqualModel", "bit", "(II)I"⟩, 16) := ⟨⟨by decide +kernel, by decide +kernel⟩, List.mem_of_getElem? (i := 542) (by decide +kernel), List.mem_of_getElem? (i := 680) (by decide +kernel), List.mem_of_getElem? (i := 681) (by decide +kernel)⟩
theorem lw_p29 : lw_okq (⟨"SweepEqualModel", "present", "()I"⟩, 16) := ⟨⟨by decide +kernel, by decide +kernel⟩, List.mem_of_getElem? (i := 542) (by decide +kernel), List.mem_of_getElem? (i := 688) (by decide +kernel), List.mem_of_getElem? (i := 689) (by decide +kernel)⟩
theorem lw_p30 : lw_okq (⟨"SweepEqualModel", "isApart", "(I)Z"⟩, 16) := ⟨⟨by decide +kernel, by decide +kernel⟩, List.mem_of_getElem? (i := 542) (by decide +kernel), List.mem_of_getElem? (i := 700) (by decide +kernel), List.mem_of_getElem? (i := 701) (by decide +kernel)⟩
theorem lw_p31 : lw_okq (⟨"SweepEqualModel", "both", "()I"⟩, 16) := ⟨⟨by decide +kernel, by decide +kernel⟩, List.mem_of_getElem? (i := 542) (by decide +kernel), List.mem_of_getElem? (i := 704) (by decide +kernel), List.mem_of_getElem? (i := 705) (by decide +kernel)⟩
def lw_privs_2 : List (MethodName × Nat) := [(⟨"SweepEqual$Nodes", "wordHangsOn", "(III)Z"⟩, 4), (⟨"SweepEqual", "sharedOutputs", "()I"⟩, 7), (⟨"SweepEqual", "countDifferent", "([I[II)I"⟩, 7), (⟨"SweepEqual", "placeOfDifferent", "([I[III)I"⟩, 7), (⟨"SweepEqual", "differentStartOrSize", "(I)I"⟩, 7), (⟨"SweepEqualModel", "start", "()V"⟩, 16), (⟨"SweepEqualModel", "variable", "(I)I"⟩, 16), (⟨"SweepEqualModel", "isLiteral", "(I)Z"⟩, 16), (⟨"SweepEqualModel", "isOther", "(II)Z"⟩, 16), (⟨"SweepEqualModel", "areSame", "(II)Z"⟩, 16), (⟨"SweepEqualModel", "firstOf", "(I)I"⟩, 16), (⟨"SweepEqualModel", "isLeast", "(I)Z"⟩, 16), (⟨"SweepEqualModel", "bit", "(II)I"⟩, 16), (⟨"SweepEqualModel", "present", "()I"⟩, 16), (⟨"SweepEqualModel", "isApart", "(I)Z"⟩, 16), (⟨"SweepEqualModel", "both", "()I"⟩, 16)]
theorem lw_r2 : ∀ q ∈ lw_privs_2, lw_okq q := List.forall_mem_cons.mpr ⟨lw_p16, List.forall_mem_cons.mpr ⟨lw_p17, List.forall_mem_cons.mpr ⟨lw_p18, List.forall_mem_cons.mpr ⟨lw_p19, List.forall_mem_cons.mpr ⟨lw_p20, List.forall_mem_cons.mpr ⟨lw_p21, List.forall_mem_cons.mpr ⟨lw_p22, List.forall_mem_cons.mpr ⟨lw_p23, List.forall_mem_cons.mpr ⟨lw_p24, List.forall_mem_cons.mpr ⟨lw_p25, List.forall_mem_cons.mpr ⟨lw_p26, List.forall_mem_cons.mpr ⟨lw_p27, List.forall_mem_cons.mpr ⟨lw_p28, List.forall_mem_cons.mpr ⟨lw_p29, List.forall_mem_cons.mpr ⟨lw_p30, List.forall_mem_cons.mpr ⟨lw_p31, fun _ h => absurd h List.not_mem_nil⟩⟩⟩⟩⟩⟩⟩⟩⟩⟩⟩⟩⟩⟩⟩⟩
theorem lw_p32 : lw_okq (⟨"SweepEqualModel", "assignment", "(II)I"⟩, 16) := ⟨⟨by decide +kernel, by decide +kernel⟩, List.mem_of_getElem? (i := 542) (by decide +kernel), List.mem_of_getElem? (i := 720) (by decide +kernel), List.mem_of_getElem? (i := 721) (by decide +kernel)⟩
theorem lw_p33 : lw_okq (⟨"SweepEqualModel", "ands", "(I)I"⟩, 16) := ⟨⟨by decide +kernel, by decide +kernel⟩, List.mem_of_getElem? (i := 542) (by decide +kernel), List.mem_of_getElem? (i := 740) (by decide +kernel), List.mem_of_getElem? (i := 741) (by decide +kernel)⟩
def lw_privs_3 : List (MethodName × Nat) := [(⟨"SweepEqualModel", "assignment", "(II)I"⟩, 16), (⟨"SweepEqualModel", "ands", "(I)I"⟩, 16)]
theorem lw_r3 : ∀ q ∈ lw_privs_3, lw_okq q := List.forall_mem_cons.mpr ⟨lw_p32, List.forall_mem_cons.mpr ⟨lw_p33, fun _ h => absurd h List.not_mem_nil⟩⟩
def lw_privs : List (MethodName × Nat) := lw_privs_1 ++ (lw_privs_2 ++ (lw_privs_3))
def lw_tbl : List Cond := k2_sels lw_privs ++ tables_1
theorem lw_privs_ok : ∀ q ∈ lw_privs, lw_okq q := by
  show ∀ q ∈ lw_privs_1 ++ (lw_privs_2 ++ (lw_privs_3)), lw_okq q
  exact List.forall_mem_append.mpr ⟨lw_r1, List.forall_mem_append.mpr ⟨lw_r2, lw_r3⟩⟩
end
section
/-! ===== BEGIN words of one list among another's, by their places ===== -/
theorem goodIn_r {big : List Cond} (ws : List Cond) (ps : List Nat) (hp : ws = ps.filterMap (fun i => big[i]?)) (h : ws.all goodWord = true) : GoodIn big ws := by
  intro w hw
  have h1 := List.all_eq_true.mp h w hw
  rw [hp] at hw
  obtain ⟨i, -, hi⟩ := List.mem_filterMap.mp hw
  have hm : w ∈ big := by first | exact List.mem_of_getElem? hi | exact List.getElem?_mem hi
  exact ⟨hm, good_of_word h1⟩
theorem goodIn_app {big a b : List Cond} (ha : GoodIn big a) (hb : GoodIn big b) : GoodIn big (a ++ b) := fun w h => (List.mem_append.mp h).elim (ha w) (hb w)
theorem goodIn_ca {big a b : List Cond} {c : Cond} (ha : GoodIn big (c :: a)) (hb : GoodIn big b) : GoodIn big (c :: (a ++ b)) := fun w h => (List.mem_cons.mp h).elim (fun e => ha w (List.mem_cons.mpr (Or.inl e))) (fun h => (List.mem_append.mp h).elim (fun h => ha w (List.mem_cons.mpr (Or.inr h))) (hb w))
theorem goodIn_sub {big ws : List Cond} (hm : ∀ w ∈ ws, w ∈ big) (h : ws.all goodWord = true) : GoodIn big ws := fun w hw => ⟨hm w hw, good_of_word (List.all_eq_true.mp h w hw)⟩
/-! ===== END ===== -/

/-! ===== BEGIN exceptions that leave a method, and their catching by the caller (launches without stack traces) ===== -/
section VXA
/-! The laws vx_back, vx_callV, vx_callS, vx_callSW, vx_throw0, vx_throwS follow proofs of the library, with one case more: JvmDerived/Free/Laws.lean (Back.of_free), Shelf42/LK1.lean (callV, callS), Shelf/KitTraced.lean (throwNew0V, throwNewS). -/
/-- where a method has thrown q: the class by its name, the cell, what was written, the world -/
def vx_T (XC : String → State → State → Prop) (st : State) (q : Addr) (t : State) (mc ms : Nat) (free : Addr → Prop) : Prop :=
  ∃ (E : String) (ce : Cell) (L : List Loc), XC E st t ∧ t.heap[q]? = some ce ∧ ce.vm = .none ∧ st.vm.findClass E = some ce.cls ∧ st.WarmedH t.vm ∧ st.sameButNew ({ t with vm := st.vm } : State) L mc ms ∧ ∀ z ∈ L, free z.base
def vx_Q (Qc : Array Value → State → Outcome → State → Prop) (XC : String → State → State → Prop) (mc ms : Nat) (free : Addr → Prop) : Array Value → State → Outcome → State → Prop := fun a st o t =>
  (Qc a st o t ∧ ∃ L, FrameEnd st o t L mc ms ∧ ∀ q ∈ L, free q.base) ∨ ∃ q, o = .threw q ∧ vx_T XC st q t mc ms free
/-- a callee that returns or throws -/
def vx_Met (l : Launch) (y : MethodName) (ws : List Cond) (rm : Room) (Pc : Array Value → State → Prop) (Qc : Array Value → State → Outcome → State → Prop) (XC : String → State → State → Prop) (mc ms : Nat) (free : Addr → Prop) : Prop :=
  MetFree l y (headSpec ws rm) Pc (fun _ _ _ _ _ => True) (vx_Q Qc XC mc ms free)
def vx_Post (XC : String → State → State → Prop) (mc ms : Nat) (free : Addr → Prop) : Pt → Array Value → Addr → Pt → Prop := fun A a q B =>
  ∃ (g : JFrame) (mk : MethodId) (t : State) (L : List Loc) (E : String) (ce : Cell), B.U.heap = t.heap ∧ B.U.vm = t.vm ∧ XC E (A.U.calling g mk a) t ∧ t.heap[q]? = some ce ∧ ce.vm = .none ∧ A.U.vm.findClass E = some ce.cls ∧ B.locs = A.locs ++ L ∧ (∀ z ∈ L, free z.base) ∧ B.cells = A.cells + mc ∧ B.slots = A.slots + ms
def vx_Back (l : Launch) (R : Room) (p : Program) (e : Env) (below : List Frame) (s : State) (sargs : Array Value) (y : MethodName) (len W9 : Nat)
    (Pre : Pt → Array Value → Prop) (Post : Pt → Array Value → Option Value → Pt → Prop) (PostX : Pt → Array Value → Addr → Pt → Prop) : Prop :=
  ∀ (m : MethodId) (meth : Method) (c : Code) (A : Pt) (g : JFrame) (ig : Instr) (mk : MethodId) (a : Array Value),
    Stand p l e R s m sargs below meth c A.U A.locs A.cells A.slots → g.method = m → g.locals.size = c.maxLocals → decode c.code g.pc = .ok (ig, len) →
    2 * g.monitorRoom + (g.stack.map fun v => v.category).sum ≤ W9 → A.U.methodNamed? y = some mk → Pre A a →
    (∃ (v : Option Value) (B : Pt), Stand p l e R s m sargs below meth c B.U B.locs B.cells B.slots ∧ Post A a v B ∧
      Steps p.tables e below (doInvoke e (A.U.setTop g) [] mk a).1 (B.U.setTop { g with pc := g.pc + len, stack := v.toList ++ g.stack })) ∨
    (∃ (q : Addr) (B : Pt), Stand p l e R s m sargs below meth c B.U B.locs B.cells B.slots ∧ PostX A a q B ∧
      Steps p.tables e below (doInvoke e (A.U.setTop g) [] mk a).1 ((B.U.setTop g).pushFrame (.throwing q)))
section Payer
variable {l : Launch} {R : Room} {p : Program} {e : Env} {below : List Frame} {s : State} {sargs : Array Value} {y : MethodName} {len W9 : Nat}
theorem vx_back {ws : List Cond} {rm : Room} {Pc : Array Value → State → Prop} {Qc : Array Value → State → Outcome → State → Prop} {XC : String → State → State → Prop} {mc ms : Nat} {free : Addr → Prop} {bytes : ByteArray} {maxL : Nat} {ret : Option FieldType}
    (hM : vx_Met l y ws rm Pc Qc XC mc ms free) (hblind : FrameBlind Pc) (hrc : rm.cells = mc) (hrs : rm.slots = ms)
    (hframes : rm.frames + 1 ≤ R.frames) (hlocals : W9 + (maxL + 11) + rm.locals ≤ R.locals)
    (hws : ∀ w ∈ ws, ∀ a' U, s.WarmedH U.vm → w.before a' U = true) (hcode : Cond.code y bytes maxL ret ∈ ws) (hinit : ∀ a' U, s.WarmedH U.vm → (Cond.initialized y.cls).before a' U = true) :
    vx_Back l R p e below s sargs y len W9 (PreOf R mc ms Pc) (PostOf Qc mc ms free) (vx_Post XC mc ms free) := by
  intro m meth c A g ig mk a X hg hsize hdg hW hn hp
  have h1 : (headSpec ws rm).pre.before a A.U = true := atoms_intro fun w hw => hws w hw _ _ X.warmed
  have h2 : (Cond.code y bytes maxL ret).before a A.U = true := hws _ hcode _ _ X.warmed
  have h3 : (Cond.initialized y.cls).before a A.U = true := hinit _ _ X.warmed
  have h4 : A.cells + (headSpec ws rm).room.cells ≤ R.cells := by rw [show (headSpec ws rm).room.cells = mc from hrc]; exact hp.1
  have h5 : A.slots + (headSpec ws rm).room.slots ≤ R.slots := by rw [show (headSpec ws rm).room.slots = ms from hrs]; exact hp.2.1
  have hPc : Pc a (A.U.calling g mk a) := hblind _ _ _ _ hp.2.2
  obtain ⟨U, Ls, c0, s0⟩ := A
  dsimp only [Pt.U, Pt.locs, Pt.cells, Pt.slots] at h1 h2 h3 h4 h5 X hn hPc ⊢
  obtain ⟨methY, cY, hmY, hcY, -, hlY, -, -, -, -⟩ := Cond.code_spec hn h2
  obtain ⟨kY, hkY, -⟩ := className_of_methodNamed hn
  have hinitY : kY.init = .initialized := Cond.initialized_spec (findClass_of_methodNamed hn) hkY h3
  have h : At U g.method c below := by rw [hg]; exact X.here
  have hlocals9 : W9 + (maxL + 11) + (headSpec ws rm).room.locals ≤ R.locals := hlocals
  have happ : (headSpec ws rm).appliesLoose y e.platform (U.calling g mk a) = true :=
    Spec.appliesLoose_calling (g := g) h hdg hn hkY hinitY
      (X.room_calling (g := g) (R' := (headSpec ws rm).room) hsize hmY hcY hframes (by rw [hlY]; omega) h4 h5) h1
  obtain ⟨mid, hmid⟩ := h.above
  have hfr : (U.setTop g).frames = (.java g :: mid) ++ below := by rw [State.frames_setTop' g h.top, hmid]; rfl
  obtain ⟨o, s₂, hsteps, -, hend, hq⟩ := Steps.callFree hM p X.admits X.cas X.clock (acts := []) hfr happ hPc trivial
  have hq' : vx_Q Qc XC mc ms free a (U.calling g mk a) o s₂ := hq
  rw [State.frames_setTop' g h.top] at hend
  obtain ⟨g₀, hg0⟩ := Option.isSome_iff_exists.mp h.top
  obtain ⟨r, hr⟩ := State.topJava?_eq_some.mp hg0
  have hr' : (({ U with heap := s₂.heap, slotsUsed := s₂.slotsUsed } : State).setVm s₂.vm).frames = .java g₀ :: r := hr
  rcases hq' with ⟨hqc, L, hfe, hL⟩ | ⟨q, rfl, E, ce, L, hx, hce, hcv, hcl, hW₂, hsm, hL⟩
  · obtain ⟨⟨v, rfl⟩, hW₂, e2, q2, q3, q4, q5, q6⟩ := id hfe
    have e3 : s₂ = ({ (U.calling g mk a).setFrames s₂.frames with heap := s₂.heap, slotsUsed := s₂.slotsUsed } : State).setVm s₂.vm := by
      have : s₂ = ({ s₂ with vm := (U.calling g mk a).vm } : State).setVm s₂.vm := rfl
      rw [e2] at this
      exact this
    obtain ⟨c₂, i₂, len₂, hc₂, hd₂, hf₂⟩ := hend
    have hW' : U.WarmedH s₂.vm := hW₂
    have hcc : c₂ = c := by
      have h1 : s₂.code? g.method = U.code? g.method := by
        rw [State.code?_eq, State.code?_eq, hW'.alike.method?]
      exact Option.some.inj (hc₂.symm.trans (h1.trans h.code))
    subst hcc
    have hlen : len₂ = len := by rw [hdg] at hd₂; cases hd₂; rfl
    subst hlen
    have hs₂ : s₂ = (({ U with heap := s₂.heap, slotsUsed := s₂.slotsUsed } : State).setVm s₂.vm).setTop { g with pc := g.pc + len₂, stack := v.toList ++ g.stack } := by
      refine e3.trans ?_
      rw [hf₂, State.calling_eq h.top, State.setFrames_setFrames, State.setTop_of_frames _ hr', hr]
      rfl
    have hsame : U.sameButNew ({ U with heap := s₂.heap, slotsUsed := s₂.slotsUsed } : State) L mc ms := by
      refine ⟨?_, q2, q3, q4, q5, q6⟩
      obtain ⟨t, ht, -⟩ := State.frames_cons hr
      show ({ U with heap := s₂.heap, slotsUsed := s₂.slotsUsed } : State) = { U.setFrames U.frames with heap := s₂.heap, slotsUsed := s₂.slotsUsed }
      rw [State.setFrames_self ht]
    subst hg
    refine Or.inl ⟨v, ⟨(({ U with heap := s₂.heap, slotsUsed := s₂.slotsUsed } : State).setVm s₂.vm), Ls ++ L, c0 + mc, s0 + ms⟩,
      ⟨X.admits, X.cas, X.clock, X.frames, X.room, X.hears, X.method, X.code, (X.here.setHeapUsed s₂.heap s₂.slotsUsed).setVm hW'.alike, X.tail, State.WarmedH.trans X.warmed hW', X.limits, X.bytes, X.same.trans (hsame.setVm s.vm)⟩,
      ⟨g, mk, s₂, L, rfl, rfl, hqc, rfl, hL, rfl, rfl⟩, ?_⟩
    show Steps p.tables e below _ ((({ U with heap := s₂.heap, slotsUsed := s₂.slotsUsed } : State).setVm s₂.vm).setTop { g with pc := g.pc + len₂, stack := v.toList ++ g.stack })
    rw [← hs₂]
    exact hsteps
  · obtain ⟨e2, q2, q3, q4, q5, q6⟩ := id hsm
    have e3 : s₂ = ({ (U.calling g mk a).setFrames s₂.frames with heap := s₂.heap, slotsUsed := s₂.slotsUsed } : State).setVm s₂.vm := by
      have : s₂ = ({ s₂ with vm := (U.calling g mk a).vm } : State).setVm s₂.vm := rfl
      rw [e2] at this
      exact this
    have hf₂ : s₂.frames = .throwing q :: .java g :: U.frames.tail := hend
    have hW' : U.WarmedH s₂.vm := hW₂
    have hs₂ : s₂ = ((({ U with heap := s₂.heap, slotsUsed := s₂.slotsUsed } : State).setVm s₂.vm).setTop g).pushFrame (.throwing q) := by
      refine e3.trans ?_
      rw [hf₂, State.calling_eq h.top, State.setFrames_setFrames, State.pushFrame, State.frames_setTop _ hr', State.setTop_of_frames _ hr', State.setFrames_setFrames, hr]
      rfl
    have hsame : U.sameButNew ({ U with heap := s₂.heap, slotsUsed := s₂.slotsUsed } : State) L mc ms := by
      refine ⟨?_, q2, q3, q4, q5, q6⟩
      obtain ⟨t, ht, -⟩ := State.frames_cons hr
      show ({ U with heap := s₂.heap, slotsUsed := s₂.slotsUsed } : State) = { U.setFrames U.frames with heap := s₂.heap, slotsUsed := s₂.slotsUsed }
      rw [State.setFrames_self ht]
    subst hg
    refine Or.inr ⟨q, ⟨(({ U with heap := s₂.heap, slotsUsed := s₂.slotsUsed } : State).setVm s₂.vm), Ls ++ L, c0 + mc, s0 + ms⟩,
      ⟨X.admits, X.cas, X.clock, X.frames, X.room, X.hears, X.method, X.code, (X.here.setHeapUsed s₂.heap s₂.slotsUsed).setVm hW'.alike, X.tail, State.WarmedH.trans X.warmed hW', X.limits, X.bytes, X.same.trans (hsame.setVm s.vm)⟩,
      ⟨g, mk, s₂, L, E, ce, rfl, rfl, hx, hce, hcv, hcl, rfl, hL, rfl, rfl⟩, ?_⟩
    show Steps p.tables e below _ (((({ U with heap := s₂.heap, slotsUsed := s₂.slotsUsed } : State).setVm s₂.vm).setTop g).pushFrame (.throwing q))
    rw [← hs₂]
    exact hsteps
end Payer
section Calls
variable {p : Program} {l : Launch} {e : Env} {R : Room} {s : State} {m : MethodId} {args : Array Value} {below : List Frame} {meth : Method} {c : Code} {T : State} {locs : List Loc} {cells slots : Nat}
theorem vx_callV (X : Stand p l e R s m args below meth c T locs cells slots) (hexec : p.tables.exec = Jvm.exec) {own C : String} {index : Nat} {y : MethodName} {bytes : ByteArray} {maxL : Nat} {ret : Option FieldType}
    (hown : s.vm.findClass own = some m.cls) (hlink : (Cond.methodLink own index y).before args s = true) (hinst : (Cond.instanceMethod y).before args s = true) (hsel : (Cond.selects C y y).before args s = true)
    (hcode : (Cond.code y bytes maxL ret).before args s = true) (hy : y.cls ≠ "java/lang/invoke/MethodHandle" ∧ y.cls ≠ "java/lang/invoke/VarHandle")
    {W9 : Nat} {Pre : Pt → Array Value → Prop} {Post : Pt → Array Value → Option Value → Pt → Prop} {PostX : Pt → Array Value → Addr → Pt → Prop} (hK : vx_Back l R p e below s args y 3 W9 Pre Post PostX)
    {b : Addr} {cellB : Cell} (hcell : T.heap[b]? = some cellB) (hobj : cellB.vm.isStatics = false) (hcls : s.vm.findClass C = some cellB.cls)
    {g : JFrame} (hg : g.method = m) (hsize : g.locals.size = c.maxLocals) {argsL rest : List Value} (hlen : ∀ sig, parseMethodDescriptor y.desc = some sig → argsL.length = sig.parameters.length)
    (hstack : g.stack = argsL.reverse ++ .ref b :: rest) (hW : 2 * g.monitorRoom + (rest.map fun v => v.category).sum ≤ W9) (hdg : decode c.code g.pc = .ok (.invokevirtual index, 3))
    (hpre : ∀ vm₁, s.WarmedH vm₁ → Pre ⟨T.setVm vm₁, locs, cells, slots⟩ (Value.ref b :: argsL).toArray) :
    (∃ (v : Option Value) (vm₁ : Vm) (B : Pt), s.WarmedH vm₁ ∧ Stand p l e R s m args below meth c B.U B.locs B.cells B.slots ∧ Post ⟨T.setVm vm₁, locs, cells, slots⟩ (Value.ref b :: argsL).toArray v B ∧
      ∀ target, Steps p.tables e below (B.U.setTop { g with pc := g.pc + 3, stack := v.toList ++ rest }) target → Steps p.tables e below (T.setTop g) target) ∨
    (∃ (q : Addr) (vm₁ : Vm) (B : Pt), s.WarmedH vm₁ ∧ Stand p l e R s m args below meth c B.U B.locs B.cells B.slots ∧ PostX ⟨T.setVm vm₁, locs, cells, slots⟩ (Value.ref b :: argsL).toArray q B ∧
      Steps p.tables e below (T.setTop g) ((B.U.setTop { g with stack := rest }).pushFrame (.throwing q))) := by
  obtain ⟨mk, methM, hnamed, hmethM, hstM, habM⟩ := Cond.instanceMethod_spec hinst
  obtain ⟨methM', cM, hmethM', -, -, -, -, -, -, hsigM⟩ := Cond.code_spec hnamed hcode
  cases hmethM.symm.trans hmethM'
  obtain ⟨c2, r2, m2, q1, q2, q3, q4, kP, hkP, hkPi⟩ := Cond.selects_spec hsel
  cases hcls.symm.trans q1
  cases (State.methodFound?_of_named hnamed hy).symm.trans q2
  cases hnamed.symm.trans q3
  have hselP : selectMethod e.platform s.vm cellB.cls mk = .method mk := by rw [Launch.admits_selectMethod X.admits]; exact q4
  obtain ⟨vm₁, X₁, hstep₁⟩ := X.invokevirtual hexec hown hlink hnamed hmethM hstM hkP hkPi hy (a := b) (cell := cellB) hcell
    (fun z h => by rw [h] at hobj; cases hobj) hselP hmethM habM hkP hkPi (g := g) hg (argsL := argsL) (rest := rest) (hlen _ hsigM) hstack hdg
  rcases hK m meth c ⟨T.setVm vm₁, locs, cells, slots⟩ { g with stack := rest } (.invokevirtual index) mk (Value.ref b :: argsL).toArray X₁ hg hsize hdg hW (X₁.named hnamed) (hpre vm₁ X₁.warmed) with ⟨v, B, X', hpost, hsteps⟩ | ⟨q, B, X', hpost, hsteps⟩
  · exact Or.inl ⟨v, vm₁, B, X₁.warmed, X', hpost, fun target h => hstep₁ _ fun acts => by rw [doInvoke_state]; exact hsteps.trans h⟩
  · exact Or.inr ⟨q, vm₁, B, X₁.warmed, X', hpost, hstep₁ _ fun acts => by rw [doInvoke_state]; exact hsteps⟩
theorem vx_callS (X : Stand p l e R s m args below meth c T locs cells slots) (hexec : p.tables.exec = Jvm.exec) {own : String} {index : Nat} {y : MethodName} {bytes : ByteArray} {maxL : Nat} {ret : Option FieldType}
    (hown : s.vm.findClass own = some m.cls) (hlink : (Cond.methodLink own index y).before args s = true) (hstat : (Cond.static y).before args s = true) (hinit : (Cond.initialized y.cls).before args s = true)
    (hcode : (Cond.code y bytes maxL ret).before args s = true) (hy : y.cls ≠ "java/lang/invoke/MethodHandle" ∧ y.cls ≠ "java/lang/invoke/VarHandle")
    {W9 : Nat} {Pre : Pt → Array Value → Prop} {Post : Pt → Array Value → Option Value → Pt → Prop} {PostX : Pt → Array Value → Addr → Pt → Prop} (hK : vx_Back l R p e below s args y 3 W9 Pre Post PostX)
    {g : JFrame} (hg : g.method = m) (hsize : g.locals.size = c.maxLocals) {argsL rest : List Value} (hlen : ∀ sig, parseMethodDescriptor y.desc = some sig → argsL.length = sig.parameters.length)
    (hstack : g.stack = argsL.reverse ++ rest) (hW : 2 * g.monitorRoom + (rest.map fun v => v.category).sum ≤ W9) (hdg : decode c.code g.pc = .ok (.invokestatic index, 3))
    (hpre : ∀ vm₁, s.WarmedH vm₁ → Pre ⟨T.setVm vm₁, locs, cells, slots⟩ argsL.toArray) :
    (∃ (v : Option Value) (vm₁ : Vm) (B : Pt), s.WarmedH vm₁ ∧ Stand p l e R s m args below meth c B.U B.locs B.cells B.slots ∧ Post ⟨T.setVm vm₁, locs, cells, slots⟩ argsL.toArray v B ∧
      ∀ target, Steps p.tables e below (B.U.setTop { g with pc := g.pc + 3, stack := v.toList ++ rest }) target → Steps p.tables e below (T.setTop g) target) ∨
    (∃ (q : Addr) (vm₁ : Vm) (B : Pt), s.WarmedH vm₁ ∧ Stand p l e R s m args below meth c B.U B.locs B.cells B.slots ∧ PostX ⟨T.setVm vm₁, locs, cells, slots⟩ argsL.toArray q B ∧
      Steps p.tables e below (T.setTop g) ((B.U.setTop { g with stack := rest }).pushFrame (.throwing q))) := by
  obtain ⟨mk, hnamed⟩ := Cond.code_named hcode
  obtain ⟨methM, cM, hmethM, -, -, -, -, -, -, hsigM⟩ := Cond.code_spec hnamed hcode
  have hstatic : methM.isStatic = true := Cond.static_spec hnamed hmethM hstat
  obtain ⟨kP, hkP, -⟩ := className_of_methodNamed hnamed
  have hinitP : kP.init = .initialized := Cond.initialized_spec (findClass_of_methodNamed hnamed) hkP hinit
  obtain ⟨vm₁, X₁, hstep₁⟩ := X.invokestatic hexec hown hlink hnamed hmethM hstatic hkP hinitP hy (g := g) hg (argsL := argsL) (rest := rest) (hlen _ hsigM) hstack hdg
  rcases hK m meth c ⟨T.setVm vm₁, locs, cells, slots⟩ { g with stack := rest } (.invokestatic index) mk argsL.toArray X₁ hg hsize hdg hW (X₁.named hnamed) (hpre vm₁ X₁.warmed) with ⟨v, B, X', hpost, hsteps⟩ | ⟨q, B, X', hpost, hsteps⟩
  · exact Or.inl ⟨v, vm₁, B, X₁.warmed, X', hpost, fun target h => hstep₁ _ fun acts => by rw [doInvoke_state]; exact hsteps.trans h⟩
  · exact Or.inr ⟨q, vm₁, B, X₁.warmed, X', hpost, hstep₁ _ fun acts => by rw [doInvoke_state]; exact hsteps⟩
end Calls
theorem vx_cls {s : State} {T : State} {vm₁ : Vm} {E : String} {k : ClassId} (hW : s.WarmedH vm₁) (h : (T.setVm vm₁).vm.findClass E = some k) : s.vm.findClass E = some k := by
  have h1 : vm₁.findClass E = some k := h
  rw [hW.alike.findClass] at h1
  exact h1
/-- the method's frame g, with q thrown over it -/
def vx_W (p : Program) (l : Launch) (e : Env) (R : Room) (s : State) (m : MethodId) (args : Array Value) (below : List Frame) (meth : Method) (c : Code) (H : Heap) (locs : List Loc) (cells slots : Nat) (Q : State → Prop) (g : JFrame) (q : Addr) : Prop :=
  ∀ T : State, T.heap = H → Stand p l e R s m args below meth c T locs cells slots → ∃ t, Steps p.tables e below ((T.setTop g).pushFrame (.throwing q)) t ∧ Q t
def vx_Run (p : Program) (l : Launch) (e : Env) (R : Room) (s : State) (m : MethodId) (args : Array Value) (below : List Frame) (meth : Method) (c : Code) (H : Heap) (locs : List Loc) (cells slots mc ms : Nat) (g : JFrame) (rest : List Value) (Qa : State → Outcome → State → Prop) (XC : String → State → State → Prop) (free : Addr → Prop) : Prop :=
  ∀ T : State, T.heap = H → Stand p l e R s m args below meth c T locs cells slots →
    (∃ (v : Option Value) (st₀ t T' : State) (L : List Loc), st₀.heap = H ∧ Stand p l e R s m args below meth c T' (locs ++ L) (cells + mc) (slots + ms) ∧ (∀ q ∈ L, free q.base) ∧ T'.heap = t.heap ∧ T'.vm = t.vm ∧ Qa st₀ (.returned v) t ∧
      Goes p e below T g T' { g with pc := g.pc + 3, stack := v.toList ++ rest }) ∨
    (∃ (q : Addr) (st₀ t T' : State) (L : List Loc) (E : String) (ce : Cell), st₀.heap = H ∧ Stand p l e R s m args below meth c T' (locs ++ L) (cells + mc) (slots + ms) ∧ (∀ z ∈ L, free z.base) ∧ T'.heap = t.heap ∧ T'.vm = t.vm ∧ XC E st₀ t ∧ t.heap[q]? = some ce ∧ ce.vm = .none ∧ s.vm.findClass E = some ce.cls ∧
      Steps p.tables e below (T.setTop g) ((T'.setTop { g with stack := rest }).pushFrame (.throwing q)))
def vx_X {S : Type} (px : S → Prop) (B : String → S → State → Prop) (A : Nat → Prop) : String → State → State → Prop := fun E st t => ∃ u : S, px u ∧ B E u t ∧ va_F A st t
section Runs
variable {p : Program} {l : Launch} {e : Env} {R : Room} {s : State} {m : MethodId} {args : Array Value} {below : List Frame} {meth : Method} {c : Code} {H : Heap} {locs : List Loc} {cells slots : Nat}
variable {y : MethodName} {bytes cc : ByteArray} {maxL nL mc ms n index : Nat} {ret : Option FieldType} {ws : List Cond} {rm : Room} {Pc : Array Value → State → Prop} {Qc : Array Value → State → Outcome → State → Prop} {XC : String → State → State → Prop} {free : Addr → Prop} {Ts : List Cond} {own C : String} {b : Addr} {As rest : List Value} {g : JFrame}
theorem vx_callBack (cb : CallB R s args own index y bytes maxL ret ws rm mc ms n) (hM : vx_Met l y ws rm Pc Qc XC mc ms free) (hbl : FrameBlind Pc) : vx_Back l R p e below s args y 3 8 (PreOf R mc ms Pc) (PostOf Qc mc ms free) (vx_Post XC mc ms free) := by
  obtain ⟨hrc, hrs, hfr, hlo, hws, hcw, -, hini, -⟩ := cb
  exact vx_back (bytes := bytes) (maxL := maxL) (ret := ret) hM hbl hrc hrs hfr hlo hws hcw (fun a' U hW => word_at hW (Or.inl (by first | rfl | simp [Cond.onTables, Cond.keeps, Cond.steady])) hini)
theorem vx_runV (S : CallFix p m c cc nL s args Ts own) (hM : vx_Met l y ws rm Pc Qc XC mc ms free) (cw : CallW R s args own C index y bytes maxL ret ws rm mc ms n) (hp : PreV s H C b Pc As)
    (hg : g.method = m) (hn : As.length = n) (hsize : g.locals.size = nL) (hstack : g.stack = As.reverse ++ .ref b :: rest) (hW : 2 * g.monitorRoom + (rest.map fun v => v.category).sum ≤ 8) (hdg : decode cc g.pc = .ok (.invokevirtual index, 3)) (hf : cells + mc ≤ R.cells ∧ slots + ms ≤ R.slots) :
    vx_Run p l e R s m args below meth c H locs cells slots mc ms g rest (Qc (Value.ref b :: As).toArray) XC free := by
  have hK : vx_Back l R p e below s args y 3 8 (PreOf R mc ms Pc) (PostOf Qc mc ms free) (vx_Post XC mc ms free) := vx_callBack cw.1 hM hp.1
  obtain ⟨⟨-, -, -, -, -, -, hcode, -, hy, hlen, hl⟩, hin, hse⟩ := cw
  obtain ⟨hx, hb, hml, ho, -⟩ := S
  obtain ⟨-, ⟨cellB, hcB, hoB, hclB⟩, hPc⟩ := hp
  intro T hT X
  rcases vx_callV X hx (C := C) (bytes := bytes) (maxL := maxL) (ret := ret) ho hl hin hse hcode hy hK (by rw [hT]; exact hcB) hoB hclB hg (hsize.trans hml.symm) (argsL := As) (rest := rest) (fun sig h => hn.trans (hlen sig h)) hstack hW (by rw [hb]; exact hdg)
    (fun vm₁ hW₁ => ⟨hf.1, hf.2, hPc (T.setVm vm₁) hT hW₁⟩) with ⟨v, vm₁, ⟨U', l2, c2, s2⟩, hW₁, X', ⟨g', mk, t, L, e1, e2, hq, h1, hL, h2, h3⟩, st⟩ | ⟨q, vm₁, ⟨U', l2, c2, s2⟩, hW₁, X', ⟨g', mk, t, L, E, ce, e1, e2, hq, hce, hcv, hcl, h1, hL, h2, h3⟩, st⟩
  · dsimp only [Pt.U, Pt.locs, Pt.cells, Pt.slots] at X' e1 e2 h1 h2 h3 st
    subst h1; subst h2; subst h3
    exact Or.inl ⟨v, (T.setVm vm₁).calling g' mk (Value.ref b :: As).toArray, t, U', L, hT, X', hL, e1, e2, hq, st⟩
  · dsimp only [Pt.U, Pt.locs, Pt.cells, Pt.slots] at X' e1 e2 h1 h2 h3 st hcl
    subst h1; subst h2; subst h3
    exact Or.inr ⟨q, (T.setVm vm₁).calling g' mk (Value.ref b :: As).toArray, t, U', L, E, ce, hT, X', hL, e1, e2, hq, hce, hcv, vx_cls hW₁ hcl, st⟩
theorem vx_runS (S : CallFix p m c cc nL s args Ts own) (hM : vx_Met l y ws rm Pc Qc XC mc ms free) (cw : CallB R s args own index y bytes maxL ret ws rm mc ms n ∧ (Cond.static y).before args s = true) (hp : PreS s H Pc As)
    (hg : g.method = m) (hn : As.length = n) (hsize : g.locals.size = nL) (hstack : g.stack = As.reverse ++ rest) (hW : 2 * g.monitorRoom + (rest.map fun v => v.category).sum ≤ 8) (hdg : decode cc g.pc = .ok (.invokestatic index, 3)) (hf : cells + mc ≤ R.cells ∧ slots + ms ≤ R.slots) :
    vx_Run p l e R s m args below meth c H locs cells slots mc ms g rest (Qc As.toArray) XC free := by
  have hK : vx_Back l R p e below s args y 3 8 (PreOf R mc ms Pc) (PostOf Qc mc ms free) (vx_Post XC mc ms free) := vx_callBack cw.1 hM hp.1
  obtain ⟨⟨-, -, -, -, -, -, hcode, hini, hy, hlen, hl⟩, hstt⟩ := cw
  obtain ⟨hx, hb, hml, ho, -⟩ := S
  intro T hT X
  rcases vx_callS X hx (bytes := bytes) (maxL := maxL) (ret := ret) ho hl hstt hini hcode hy hK hg (hsize.trans hml.symm) (argsL := As) (rest := rest) (fun sig h => hn.trans (hlen sig h)) hstack hW (by rw [hb]; exact hdg)
    (fun vm₁ hW₁ => ⟨hf.1, hf.2, hp.2 (T.setVm vm₁) hT hW₁⟩) with ⟨v, vm₁, ⟨U', l2, c2, s2⟩, hW₁, X', ⟨g', mk, t, L, e1, e2, hq, h1, hL, h2, h3⟩, st⟩ | ⟨q, vm₁, ⟨U', l2, c2, s2⟩, hW₁, X', ⟨g', mk, t, L, E, ce, e1, e2, hq, hce, hcv, hcl, h1, hL, h2, h3⟩, st⟩
  · dsimp only [Pt.U, Pt.locs, Pt.cells, Pt.slots] at X' e1 e2 h1 h2 h3 st
    subst h1; subst h2; subst h3
    exact Or.inl ⟨v, (T.setVm vm₁).calling g' mk As.toArray, t, U', L, hT, X', hL, e1, e2, hq, st⟩
  · dsimp only [Pt.U, Pt.locs, Pt.cells, Pt.slots] at X' e1 e2 h1 h2 h3 st hcl
    subst h1; subst h2; subst h3
    exact Or.inr ⟨q, (T.setVm vm₁).calling g' mk As.toArray, t, U', L, E, ce, hT, X', hL, e1, e2, hq, hce, hcv, vx_cls hW₁ hcl, st⟩
end Runs
section Rows
variable {p : Program} {l : Launch} {e : Env} {R : Room} {s : State} {m : MethodId} {args : Array Value} {below : List Frame} {meth : Method} {c : Code} {H : Heap} {locs : List Loc} {cells slots : Nat} {Q : State → Prop}
variable {mc ms : Nat} {free : Addr → Prop} {A0 A1 : Nat → Prop} {H0 : Heap} {a : Array Value} {pc : Nat} {ls : Array Slot} {st0 rest : List Value}
theorem vx_keep {st₀ t T' : State} {L : List Loc} (h0 : st₀.heap = H) (e1 : T'.heap = t.heap) (hS : va_S A0 H0 H locs) (hA : ∀ q, q < H.size → A1 q → A0 q) (hf : ∀ q, free q → A0 q) (hL : ∀ q ∈ L, free q.base) (hF : va_F A1 st₀ t) :
    H.size ≤ T'.heap.size ∧ (∀ q : Nat, q < H.size → ¬ A1 q → T'.heap[q]? = H[q]?) ∧ va_S A0 H0 T'.heap (locs ++ L) := by
  obtain ⟨hz, hk⟩ := hF
  rw [h0] at hz hk
  exact ⟨by rw [e1]; exact hz, fun q h1 h2 => by rw [e1]; exact hk q h1 h2,
    ⟨Nat.le_trans hS.1 (by rw [e1]; exact hz), fun q h1 h2 => by rw [e1, hk q (Nat.lt_of_lt_of_le h1 hS.1) (fun z => h2 (hA q (Nat.lt_of_lt_of_le h1 hS.1) z))]; exact hS.2.1 q h1 h2, fun q hq => by
      rcases List.mem_append.mp hq with h | h
      · exact hS.2.2 q h
      · exact hf _ (hL q h)⟩⟩
theorem vx_calli {S SX : Type} {post : Int32 → S → Prop} {px : SX → Prop} {B : S → State → Prop} {BX : String → SX → State → Prop} {AX : Nat → Prop} (hr : vx_Run p l e R s m args below meth c H locs cells slots mc ms (F0 m pc ls st0) rest (va_Qi post B A1 a) (vx_X px BX AX) free) (hS : va_S A0 H0 H locs) (hA : ∀ q, q < H.size → A1 q → A0 q) (hf : ∀ q, free q → A0 q) (hAX : ∀ q, q < H.size → AX q → A0 q)
    (kx : ∀ (E : String) (ce : Cell) (q9 : Addr) (u : SX) (t : State) (H1 : Heap) (locs1 : List Loc), t.heap = H1 → s.vm.Alike t.vm → px u → BX E u t → H.size ≤ H1.size → (∀ q : Nat, q < H.size → ¬ AX q → H1[q]? = H[q]?) → va_S A0 H0 H1 locs1 → H1[q9]? = some ce → ce.vm = .none → s.vm.findClass E = some ce.cls → vx_W p l e R s m args below meth c H1 locs1 (cells + mc) (slots + ms) Q (F0 m pc ls rest) q9)
    (kk : ∀ (r : Int32) (u : S) (t : State) (H1 : Heap) (locs1 : List Loc), t.heap = H1 → s.vm.Alike t.vm → post r u → B u t → H.size ≤ H1.size → (∀ q : Nat, q < H.size → ¬ A1 q → H1[q]? = H[q]?) → va_S A0 H0 H1 locs1 → W p l e R s m args below meth c H1 locs1 (cells + mc) (slots + ms) Q (F0 m (pc + 3) ls (.int r :: rest))) : W p l e R s m args below meth c H locs cells slots Q (F0 m pc ls st0) := by
  intro T hT X
  rcases hr T hT X with ⟨v, st₀, t, T', L, h0, X', hL, e1, e2, ⟨⟨r, u, hv, hp, hb⟩, hF⟩, st⟩ | ⟨q, st₀, t, T', L, E, ce, h0, X', hL, e1, e2, ⟨u, hp, hb, hF⟩, hce, hcv, hcl, st⟩
  · cases hv
    obtain ⟨k1, k2, k3⟩ := vx_keep h0 e1 hS hA hf hL hF
    obtain ⟨t2, a1, b1⟩ := kk r u t T'.heap (locs ++ L) e1.symm (by rw [← e2]; exact X'.warmed.alike) hp hb k1 k2 k3 T' rfl X'
    exact ⟨t2, st t2 a1, b1⟩
  · obtain ⟨k1, k2, k3⟩ := vx_keep h0 e1 hS hAX hf hL hF
    obtain ⟨t2, a1, b1⟩ := kx E ce q u t T'.heap (locs ++ L) e1.symm (by rw [← e2]; exact X'.warmed.alike) hp hb k1 k2 k3 (by rw [e1]; exact hce) hcv hcl T' rfl X'
    exact ⟨t2, st.trans a1, b1⟩
theorem vx_calll {S SX : Type} {post : Int64 → S → Prop} {px : SX → Prop} {B : S → State → Prop} {BX : String → SX → State → Prop} {AX : Nat → Prop} (hr : vx_Run p l e R s m args below meth c H locs cells slots mc ms (F0 m pc ls st0) rest (va_Ql post B A1 a) (vx_X px BX AX) free) (hS : va_S A0 H0 H locs) (hA : ∀ q, q < H.size → A1 q → A0 q) (hf : ∀ q, free q → A0 q) (hAX : ∀ q, q < H.size → AX q → A0 q)
    (kx : ∀ (E : String) (ce : Cell) (q9 : Addr) (u : SX) (t : State) (H1 : Heap) (locs1 : List Loc), t.heap = H1 → s.vm.Alike t.vm → px u → BX E u t → H.size ≤ H1.size → (∀ q : Nat, q < H.size → ¬ AX q → H1[q]? = H[q]?) → va_S A0 H0 H1 locs1 → H1[q9]? = some ce → ce.vm = .none → s.vm.findClass E = some ce.cls → vx_W p l e R s m args below meth c H1 locs1 (cells + mc) (slots + ms) Q (F0 m pc ls rest) q9)
    (kk : ∀ (r : Int64) (u : S) (t : State) (H1 : Heap) (locs1 : List Loc), t.heap = H1 → s.vm.Alike t.vm → post r u → B u t → H.size ≤ H1.size → (∀ q : Nat, q < H.size → ¬ A1 q → H1[q]? = H[q]?) → va_S A0 H0 H1 locs1 → W p l e R s m args below meth c H1 locs1 (cells + mc) (slots + ms) Q (F0 m (pc + 3) ls (.long r :: rest))) : W p l e R s m args below meth c H locs cells slots Q (F0 m pc ls st0) := by
  intro T hT X
  rcases hr T hT X with ⟨v, st₀, t, T', L, h0, X', hL, e1, e2, ⟨⟨r, u, hv, hp, hb⟩, hF⟩, st⟩ | ⟨q, st₀, t, T', L, E, ce, h0, X', hL, e1, e2, ⟨u, hp, hb, hF⟩, hce, hcv, hcl, st⟩
  · cases hv
    obtain ⟨k1, k2, k3⟩ := vx_keep h0 e1 hS hA hf hL hF
    obtain ⟨t2, a1, b1⟩ := kk r u t T'.heap (locs ++ L) e1.symm (by rw [← e2]; exact X'.warmed.alike) hp hb k1 k2 k3 T' rfl X'
    exact ⟨t2, st t2 a1, b1⟩
  · obtain ⟨k1, k2, k3⟩ := vx_keep h0 e1 hS hAX hf hL hF
    obtain ⟨t2, a1, b1⟩ := kx E ce q u t T'.heap (locs ++ L) e1.symm (by rw [← e2]; exact X'.warmed.alike) hp hb k1 k2 k3 (by rw [e1]; exact hce) hcv hcl T' rfl X'
    exact ⟨t2, st.trans a1, b1⟩
theorem vx_callf {S SX : Type} {post : UInt32 → S → Prop} {px : SX → Prop} {B : S → State → Prop} {BX : String → SX → State → Prop} {AX : Nat → Prop} (hr : vx_Run p l e R s m args below meth c H locs cells slots mc ms (F0 m pc ls st0) rest (va_Qf post B A1 a) (vx_X px BX AX) free) (hS : va_S A0 H0 H locs) (hA : ∀ q, q < H.size → A1 q → A0 q) (hf : ∀ q, free q → A0 q) (hAX : ∀ q, q < H.size → AX q → A0 q)
    (kx : ∀ (E : String) (ce : Cell) (q9 : Addr) (u : SX) (t : State) (H1 : Heap) (locs1 : List Loc), t.heap = H1 → s.vm.Alike t.vm → px u → BX E u t → H.size ≤ H1.size → (∀ q : Nat, q < H.size → ¬ AX q → H1[q]? = H[q]?) → va_S A0 H0 H1 locs1 → H1[q9]? = some ce → ce.vm = .none → s.vm.findClass E = some ce.cls → vx_W p l e R s m args below meth c H1 locs1 (cells + mc) (slots + ms) Q (F0 m pc ls rest) q9)
    (kk : ∀ (r : UInt32) (u : S) (t : State) (H1 : Heap) (locs1 : List Loc), t.heap = H1 → s.vm.Alike t.vm → post r u → B u t → H.size ≤ H1.size → (∀ q : Nat, q < H.size → ¬ A1 q → H1[q]? = H[q]?) → va_S A0 H0 H1 locs1 → W p l e R s m args below meth c H1 locs1 (cells + mc) (slots + ms) Q (F0 m (pc + 3) ls (.float r :: rest))) : W p l e R s m args below meth c H locs cells slots Q (F0 m pc ls st0) := by
  intro T hT X
  rcases hr T hT X with ⟨v, st₀, t, T', L, h0, X', hL, e1, e2, ⟨⟨r, u, hv, hp, hb⟩, hF⟩, st⟩ | ⟨q, st₀, t, T', L, E, ce, h0, X', hL, e1, e2, ⟨u, hp, hb, hF⟩, hce, hcv, hcl, st⟩
  · cases hv
    obtain ⟨k1, k2, k3⟩ := vx_keep h0 e1 hS hA hf hL hF
    obtain ⟨t2, a1, b1⟩ := kk r u t T'.heap (locs ++ L) e1.symm (by rw [← e2]; exact X'.warmed.alike) hp hb k1 k2 k3 T' rfl X'
    exact ⟨t2, st t2 a1, b1⟩
  · obtain ⟨k1, k2, k3⟩ := vx_keep h0 e1 hS hAX hf hL hF
    obtain ⟨t2, a1, b1⟩ := kx E ce q u t T'.heap (locs ++ L) e1.symm (by rw [← e2]; exact X'.warmed.alike) hp hb k1 k2 k3 (by rw [e1]; exact hce) hcv hcl T' rfl X'
    exact ⟨t2, st.trans a1, b1⟩
theorem vx_calld {S SX : Type} {post : UInt64 → S → Prop} {px : SX → Prop} {B : S → State → Prop} {BX : String → SX → State → Prop} {AX : Nat → Prop} (hr : vx_Run p l e R s m args below meth c H locs cells slots mc ms (F0 m pc ls st0) rest (va_Qd post B A1 a) (vx_X px BX AX) free) (hS : va_S A0 H0 H locs) (hA : ∀ q, q < H.size → A1 q → A0 q) (hf : ∀ q, free q → A0 q) (hAX : ∀ q, q < H.size → AX q → A0 q)
    (kx : ∀ (E : String) (ce : Cell) (q9 : Addr) (u : SX) (t : State) (H1 : Heap) (locs1 : List Loc), t.heap = H1 → s.vm.Alike t.vm → px u → BX E u t → H.size ≤ H1.size → (∀ q : Nat, q < H.size → ¬ AX q → H1[q]? = H[q]?) → va_S A0 H0 H1 locs1 → H1[q9]? = some ce → ce.vm = .none → s.vm.findClass E = some ce.cls → vx_W p l e R s m args below meth c H1 locs1 (cells + mc) (slots + ms) Q (F0 m pc ls rest) q9)
    (kk : ∀ (r : UInt64) (u : S) (t : State) (H1 : Heap) (locs1 : List Loc), t.heap = H1 → s.vm.Alike t.vm → post r u → B u t → H.size ≤ H1.size → (∀ q : Nat, q < H.size → ¬ A1 q → H1[q]? = H[q]?) → va_S A0 H0 H1 locs1 → W p l e R s m args below meth c H1 locs1 (cells + mc) (slots + ms) Q (F0 m (pc + 3) ls (.double r :: rest))) : W p l e R s m args below meth c H locs cells slots Q (F0 m pc ls st0) := by
  intro T hT X
  rcases hr T hT X with ⟨v, st₀, t, T', L, h0, X', hL, e1, e2, ⟨⟨r, u, hv, hp, hb⟩, hF⟩, st⟩ | ⟨q, st₀, t, T', L, E, ce, h0, X', hL, e1, e2, ⟨u, hp, hb, hF⟩, hce, hcv, hcl, st⟩
  · cases hv
    obtain ⟨k1, k2, k3⟩ := vx_keep h0 e1 hS hA hf hL hF
    obtain ⟨t2, a1, b1⟩ := kk r u t T'.heap (locs ++ L) e1.symm (by rw [← e2]; exact X'.warmed.alike) hp hb k1 k2 k3 T' rfl X'
    exact ⟨t2, st t2 a1, b1⟩
  · obtain ⟨k1, k2, k3⟩ := vx_keep h0 e1 hS hAX hf hL hF
    obtain ⟨t2, a1, b1⟩ := kx E ce q u t T'.heap (locs ++ L) e1.symm (by rw [← e2]; exact X'.warmed.alike) hp hb k1 k2 k3 (by rw [e1]; exact hce) hcv hcl T' rfl X'
    exact ⟨t2, st.trans a1, b1⟩
theorem vx_callv {S SX : Type} {post : S → Prop} {px : SX → Prop} {B : S → State → Prop} {BX : String → SX → State → Prop} {AX : Nat → Prop} (hr : vx_Run p l e R s m args below meth c H locs cells slots mc ms (F0 m pc ls st0) rest (va_Qv post B A1 a) (vx_X px BX AX) free) (hS : va_S A0 H0 H locs) (hA : ∀ q, q < H.size → A1 q → A0 q) (hf : ∀ q, free q → A0 q) (hAX : ∀ q, q < H.size → AX q → A0 q)
    (kx : ∀ (E : String) (ce : Cell) (q9 : Addr) (u : SX) (t : State) (H1 : Heap) (locs1 : List Loc), t.heap = H1 → s.vm.Alike t.vm → px u → BX E u t → H.size ≤ H1.size → (∀ q : Nat, q < H.size → ¬ AX q → H1[q]? = H[q]?) → va_S A0 H0 H1 locs1 → H1[q9]? = some ce → ce.vm = .none → s.vm.findClass E = some ce.cls → vx_W p l e R s m args below meth c H1 locs1 (cells + mc) (slots + ms) Q (F0 m pc ls rest) q9)
    (kk : ∀ (u : S) (t : State) (H1 : Heap) (locs1 : List Loc), t.heap = H1 → s.vm.Alike t.vm → post u → B u t → H.size ≤ H1.size → (∀ q : Nat, q < H.size → ¬ A1 q → H1[q]? = H[q]?) → va_S A0 H0 H1 locs1 → W p l e R s m args below meth c H1 locs1 (cells + mc) (slots + ms) Q (F0 m (pc + 3) ls (rest))) : W p l e R s m args below meth c H locs cells slots Q (F0 m pc ls st0) := by
  intro T hT X
  rcases hr T hT X with ⟨v, st₀, t, T', L, h0, X', hL, e1, e2, ⟨⟨u, hv, hp, hb⟩, hF⟩, st⟩ | ⟨q, st₀, t, T', L, E, ce, h0, X', hL, e1, e2, ⟨u, hp, hb, hF⟩, hce, hcv, hcl, st⟩
  · cases hv
    obtain ⟨k1, k2, k3⟩ := vx_keep h0 e1 hS hA hf hL hF
    obtain ⟨t2, a1, b1⟩ := kk u t T'.heap (locs ++ L) e1.symm (by rw [← e2]; exact X'.warmed.alike) hp hb k1 k2 k3 T' rfl X'
    exact ⟨t2, st t2 a1, b1⟩
  · obtain ⟨k1, k2, k3⟩ := vx_keep h0 e1 hS hAX hf hL hF
    obtain ⟨t2, a1, b1⟩ := kx E ce q u t T'.heap (locs ++ L) e1.symm (by rw [← e2]; exact X'.warmed.alike) hp hb k1 k2 k3 (by rw [e1]; exact hce) hcv hcl T' rfl X'
    exact ⟨t2, st.trans a1, b1⟩
end Rows
section Ends
variable {p : Program} {l : Launch} {e : Env} {R : Room} {s : State} {m : MethodId} {args : Array Value} {below : List Frame} {meth : Method} {c : Code} {H : Heap} {locs : List Loc} {cells slots : Nat} {Q : State → Prop}
variable {mc ms : Nat} {free : Addr → Prop} {A0 A1 : Nat → Prop} {H0 : Heap} {a : Array Value} {ls : Array Slot} {st0 rest : List Value}
variable {Qc : Array Value → State → Outcome → State → Prop} {XC : String → State → State → Prop}
/-- what a body that may throw owes at its end -/
def vx_MQ (below : List Frame) (Qc : Array Value → State → Outcome → State → Prop) (XC : String → State → State → Prop) (a : Array Value) (s : State) (mc ms : Nat) (free : Addr → Prop) : State → Prop := fun t =>
  ∃ o, t.status = .running ∧ Ended t below o ∧ vx_Q Qc XC mc ms free a s o t
theorem vx_ret {g : JFrame} {mc ms : Nat} (k : W p l e R s m args below meth c H locs cells slots (MQ below Qc args s mc ms free) g) : W p l e R s m args below meth c H locs cells slots (vx_MQ below Qc XC args s mc ms free) g := by
  intro T hT X
  obtain ⟨t, a1, o, b1, b2, b3, b4⟩ := k T hT X
  exact ⟨t, a1, o, b1, b2, Or.inl ⟨b3, b4⟩⟩
/-- not caught here: it goes on to the caller -/
theorem vx_widen {g : JFrame} {q : Addr} {k n : Nat} (h1 : cells ≤ k) (h2 : slots ≤ n) (kk : vx_W p l e R s m args below meth c H locs k n Q g q) : vx_W p l e R s m args below meth c H locs cells slots Q g q := fun T hT X => kk T hT (stand_widen X h1 h2)
theorem vx_out {pc : Nat} {E : String} {ce : Cell} {q : Addr} {mc ms : Nat} (hout : ∀ x ∈ c.exceptionTable.toList, covers x pc = false) (hlocks : meth.locks = false) (hcell : H[q]? = some ce) (hv : ce.vm = .none) (hcl : s.vm.findClass E = some ce.cls)
    (hx : ∀ t : State, t.heap = H → s.vm.Alike t.vm → XC E s t) (hf : ∀ z ∈ locs, free z.base) (hc : cells ≤ mc) (hs : slots ≤ ms) :
    vx_W p l e R s m args below meth c H locs cells slots (vx_MQ below Qc XC args s mc ms free) (F0 m pc ls rest) q := by
  intro T hT X
  obtain ⟨st1, hrun, hend, hW, hsm⟩ := X.leaveThrown q (g := F0 m pc ls rest) rfl rfl rfl hout hlocks
  have hcell9 : (T.setFrames (.throwing q :: below)).heap[q]? = some ce := by
    show T.heap[q]? = some ce
    rw [hT]; exact hcell
  exact ⟨_, st1, .threw q, hrun, hend, Or.inr ⟨q, rfl, E, ce, locs, hx _ hT hW.alike, hcell9, hv, hcl, hW, hsm.mono hc hs, hf⟩⟩
theorem vx_frame {U : State} {k n : Nat} (h : s.sameButNew ({ U with vm := s.vm } : State) locs k n) : s.heap.size ≤ U.heap.size ∧ ∀ q : Nat, q < s.heap.size → (∀ z ∈ locs, z.base ≠ q) → U.heap[q]? = s.heap[q]? := by
  obtain ⟨-, h2, -, -, -, h6⟩ := h
  refine ⟨h2, fun q hq hz => ?_⟩
  obtain ⟨c9, e1, e2, e3, e4⟩ := h6 q _ (Array.getElem?_eq_getElem hq)
  have hs : c9.slots = (s.heap[q]).slots := Array.ext_getElem? fun i => e4 i fun hm => hz _ hm rfl
  have h9 : c9 = s.heap[q] := by
    rw [hs] at e2
    exact e2
  have e5 : U.heap[q]? = some c9 := e1
  rw [e5, h9, Array.getElem?_eq_getElem hq]
/-- the words of a throw but the four that speak of the heap -/
def vx_no (w : Cond) : Bool := decide (w ≠ .isRef (.static Bundle.tN "UNASSIGNED_STACK" Bundle.steD)) && decide (w ≠ .isRef (.static Bundle.tN "SUPPRESSED_SENTINEL" Bundle.listD)) && decide (w ≠ .laysStatic Bundle.tN "UNASSIGNED_STACK" Bundle.steD) && decide (w ≠ .laysStatic Bundle.tN "SUPPRESSED_SENTINEL" Bundle.listD)
def vx_at0 (own : String) (ic : Nat) (X : String) (names : List String) : List Cond := (Bundle.ownAtoms0 own ic X names).filter vx_no
def vx_atS (own : String) (ic : Nat) (X : String) (names : List String) : List Cond := (Bundle.ownAtoms own ic X names).filter vx_no
/-- a word that the tables alone decide, or a good one -/
def vx_ot (w : Cond) : Bool := w.onTables || goodWord w
theorem vx_ot_at {args a' : Array Value} {s U : State} {w : Cond} (hW : s.WarmedH U.vm) (hvm : s.vm = U.vm) (hg : vx_ot w = true) (h : w.before args s = true) : w.before a' U = true := by
  simp only [vx_ot, Bool.or_eq_true] at hg
  rcases hg with hg | hg
  · exact va_tabs hg hvm h
  · exact word_at hW (good_of_word hg) h
/-- a list's words: the good ones out of the method's own list, the others by premises of their own -/
theorem vx_hat {args : Array Value} {s : State} {L B : List Cond} (h1 : ∀ w ∈ L.filter goodWord, w.before args s = true) (h2 : ∀ w ∈ L.filter (fun w => !goodWord w), w ∈ B) (h3 : ∀ w ∈ B, w.before args s = true) : ∀ w ∈ L, w.before args s = true := by
  intro w hw
  by_cases g : goodWord w = true
  · exact h1 w (List.mem_filter.mpr ⟨hw, g⟩)
  · refine h3 w (h2 w (List.mem_filter.mpr ⟨hw, ?_⟩))
    show (!goodWord w) = true
    cases hgw : goodWord w
    · rfl
    · exact absurd hgw g
theorem vx_c {args : Array Value} {s : State} {w : Cond} {B : List Cond} (h : w.before args s = true) (t : ∀ w ∈ B, w.before args s = true) : ∀ w' ∈ w :: B, w'.before args s = true := fun w' h' => (List.mem_cons.mp h').elim (fun e => by rw [e]; exact h) (t w')
theorem vx_n {args : Array Value} {s : State} : ∀ w ∈ ([] : List Cond), w.before args s = true := fun _ h => nomatch h
theorem vx_own {args : Array Value} {s : State} {L : List Cond} (h1 : ∀ w ∈ L.filter vx_no, w.before args s = true)
    (hU : (Cond.isRef (.static Bundle.tN "UNASSIGNED_STACK" Bundle.steD)).before args s = true) (hN : (Cond.isRef (.static Bundle.tN "SUPPRESSED_SENTINEL" Bundle.listD)).before args s = true)
    (lU : (Cond.laysStatic Bundle.tN "UNASSIGNED_STACK" Bundle.steD).before args s = true) (lN : (Cond.laysStatic Bundle.tN "SUPPRESSED_SENTINEL" Bundle.listD).before args s = true) : ∀ w ∈ L, w.before args s = true := by
  intro w hw
  by_cases e1 : w = .isRef (.static Bundle.tN "UNASSIGNED_STACK" Bundle.steD)
  · rw [e1]; exact hU
  · by_cases e2 : w = .isRef (.static Bundle.tN "SUPPRESSED_SENTINEL" Bundle.listD)
    · rw [e2]; exact hN
    · by_cases e3 : w = .laysStatic Bundle.tN "UNASSIGNED_STACK" Bundle.steD
      · rw [e3]; exact lU
      · by_cases e4 : w = .laysStatic Bundle.tN "SUPPRESSED_SENTINEL" Bundle.listD
        · rw [e4]; exact lN
        · exact h1 w (List.mem_filter.mpr ⟨hw, by unfold vx_no; rw [decide_eq_true e1, decide_eq_true e2, decide_eq_true e3, decide_eq_true e4]; rfl⟩)
/-- where a static field lies, its class's statics cell in H -/
def vx_L (C n d : String) (A : Nat → Prop) (U : State) (H : Heap) : Prop := ∃ (c : ClassId) (k : Class) (i : Nat) (f : Field) (a : Nat) (cell : Cell), U.vm.findClass C = some c ∧ U.fieldFound? C n d = some (c, k, i, f) ∧ f.isStatic = true ∧ k.statics = some a ∧ H[a]? = some cell ∧ cell.vm.isStatics = true ∧ cell.cls = c ∧ f.slot < cell.slots.size ∧ k.staticTypes[f.slot]? = some f.type ∧ ¬ A a
theorem vx_L.moved {C n d : String} {A : Nat → Prop} {u U : State} {H : Heap} (hvm : u.vm.Alike U.vm) (h : vx_L C n d A u H) : vx_L C n d A U H := by
  obtain ⟨c, k, i, f, a, cell, h1, h2, h3, h4, h5, h6, h7, h8, h9, h10⟩ := h
  obtain ⟨k', hi', he⟩ := State.fieldFound?_setVm hvm h2
  exact ⟨c, k', i, f, a, cell, by rw [hvm.findClass]; exact h1, hi', h3, by rw [he]; exact h4, h5, h6, h7, h8, by rw [he]; exact h9, h10⟩
theorem vx_L.kept {C n d : String} {A : Nat → Prop} {U : State} {H H1 : Heap} (h : vx_L C n d A U H) (hq : ∀ a : Nat, a < H.size → ¬ A a → H1[a]? = H[a]?) : vx_L C n d A U H1 := by
  obtain ⟨c, k, i, f, a, cell, h1, h2, h3, h4, h5, h6, h7, h8, h9, h10⟩ := h
  exact ⟨c, k, i, f, a, cell, h1, h2, h3, h4, by rw [hq a (Array.getElem?_eq_some_iff.mp h5).1 h10]; exact h5, h6, h7, h8, h9, h10⟩
theorem vx_L.narrow {C n d : String} {A B : Nat → Prop} {U : State} {H : Heap} (h : vx_L C n d A U H) (hAB : ∀ q, B q → A q) : vx_L C n d B U H := by
  obtain ⟨c, k, i, f, a, cell, h1, h2, h3, h4, h5, h6, h7, h8, h9, h10⟩ := h
  exact ⟨c, k, i, f, a, cell, h1, h2, h3, h4, h5, h6, h7, h8, h9, fun z => h10 (hAB _ z)⟩
theorem vx_L.word {C n d : String} {A : Nat → Prop} {s : State} {args : Array Value} (h : vx_L C n d A s s.heap) : (Cond.laysStatic C n d).before args s = true := by
  obtain ⟨c, k, i, f, a, cell, h1, h2, h3, h4, h5, h6, h7, h8, h9, -⟩ := h
  show (Cond.laysStatic C n d).holds args s none s [] = true
  exact Cond.laysStatic_of h1 h2 h3 h4 h5 h6 h7 h8 h9
/-- .. and what it holds: null or some reference -/
def vx_Zq (C n d : String) (A : Nat → Prop) (U : State) (H : Heap) : Prop := va_Zq C n d A U H ∧ vx_L C n d A U H
theorem vx_Zq.moved {C n d : String} {A : Nat → Prop} {u U : State} {H : Heap} (hvm : u.vm.Alike U.vm) (h : vx_Zq C n d A u H) : vx_Zq C n d A U H := ⟨va_Zq.moved hvm h.1, vx_L.moved hvm h.2⟩
theorem vx_Zq.kept {C n d : String} {A : Nat → Prop} {U : State} {H H1 : Heap} (h : vx_Zq C n d A U H) (hq : ∀ a : Nat, a < H.size → ¬ A a → H1[a]? = H[a]?) : vx_Zq C n d A U H1 := ⟨va_Zq.kept h.1 hq, vx_L.kept h.2 hq⟩
theorem vx_Zq.narrow {C n d : String} {A B : Nat → Prop} {U : State} {H : Heap} (h : vx_Zq C n d A U H) (hAB : ∀ q, B q → A q) : vx_Zq C n d B U H := ⟨va_Zq.narrow h.1 hAB, vx_L.narrow h.2 hAB⟩
theorem vx_Zqof {args : Array Value} {s : State} {C n d : String} {A : Nat → Prop} (hl : (Cond.laysStatic C n d).before args s = true) (hini : (Cond.initialized C).before args s = true) (h : (Cond.isRef (.static C n d)).before args s = true) (hA : ∀ a : Nat, a < s.heap.size → ¬ A a) : vx_Zq C n d A s s.heap := by
  refine ⟨va_Zqof hl hini h hA, ?_⟩
  obtain ⟨c, k, i, f, a, cell, h1, h2, h3, h4, h5, h6, h7, h8, h9⟩ := Cond.laysStatic_spec hl
  exact ⟨c, k, i, f, a, cell, h1, h2, h3, h4, h5, h6, h7, h8, h9, hA a (Array.getElem?_eq_some_iff.mp h5).1⟩
theorem vx_isRef {C n d : String} {v : Value} {A : Nat → Prop} {s : State} {args : Array Value} (h : va_Z C n d v A s s.heap) (hv : v.isRef = true) : (Cond.isRef (.static C n d)).before args s = true := by
  obtain ⟨cf, kf, fi, f, a, cell, h1, h2, h3, h4, h5, h6, h7, -⟩ := h
  have he : (Term.static C n d).eval args s none [] s = some v := by
    simp [Term.eval, State.fieldNamed?, h1, h2, h4, h5, h6, h7]
  simp only [Cond.before, Cond.holds, Cond.value, he]
  cases v <;> simp_all [Value.isRef]
theorem vx_isRefq {C n d : String} {A : Nat → Prop} {s : State} {args : Array Value} (h : va_Zq C n d A s s.heap) : (Cond.isRef (.static C n d)).before args s = true := by
  rcases h with h | ⟨t, h⟩
  · exact vx_isRef h rfl
  · exact vx_isRef h rfl
/-- the same frame, seen from here: as if the method were called anew in this heap -/
theorem vx_rebase {T : State} (X : Stand p l e R s m args below meth c T locs cells slots) {R' : Room} (hf : R'.frames ≤ R.frames) (hl : R'.locals ≤ R.locals) (hc : cells + R'.cells ≤ R.cells) (hs : slots + R'.slots ≤ R.slots) :
    Stand p l e R' ((T.setVm s.vm).setFrames (.invoking m args :: below)) m args below meth c T [] 0 0 := by
  have htop : (T.setVm s.vm).topJava?.isSome := X.here.top
  have hF : ((T.setVm s.vm).setFrames (.invoking m args :: below)).frames = .invoking m args :: below := State.frames_setFrames _ (State.cur_lt_of_top htop)
  obtain ⟨g₀, hg0⟩ := Option.isSome_iff_exists.mp htop
  obtain ⟨r, hr⟩ := State.topJava?_eq_some.mp hg0
  have hl9 : e.platform.stackLimits (T.setVm s.vm).me = e.platform.stackLimits s.me := X.limits
  have hb9 : (T.setVm s.vm).me.stackBytes = s.me.stackBytes := X.bytes
  refine ⟨X.admits, X.cas, X.clock, hF, ?_, X.hears, X.method, X.code, X.here, X.tail, X.warmed, ?_, ?_, ?_⟩
  · have h := X.room
    have hU : ((T.setVm s.vm).setFrames (.invoking m args :: below)).localsInUse = s.localsInUse := by
      rw [State.localsInUse_invoking hF (meth := meth) (c := c) X.method X.code, State.localsInUse_invoking X.frames X.method X.code]
    simp only [State.hasRoom, Bool.and_eq_true, decide_eq_true_eq] at h ⊢
    obtain ⟨⟨⟨⟨h1, h2, h3, h4, h5, h6⟩, h7⟩, h8⟩, h9⟩ := h
    rw [X.frames, List.length_cons] at h2 h3
    have q1 := X.heapSize
    have q2 := X.used
    simp only [hF, hU, List.length_cons, State.stackLimits_setFrames, State.stackBytes_setFrames, hl9, hb9]
    refine ⟨⟨⟨⟨by omega, by omega, by omega, by omega, by omega, h6⟩, ?_⟩, ?_⟩, X.book⟩
    · show T.heap.size + R'.cells ≤ e.platform.maxCells
      omega
    · show T.slotsUsed + R'.slots ≤ e.platform.maxSlots
      omega
  · rw [State.stackLimits_setFrames]; rfl
  · rw [State.stackBytes_setFrames]; rfl
  · refine ⟨?_, Nat.le_refl _, Nat.le_refl _, ?_, ?_, fun a c9 h9 => ⟨c9, h9, rfl, rfl, fun _ _ => rfl⟩⟩
    · obtain ⟨t, ht, -⟩ := State.frames_cons hr
      show T.setVm s.vm = { ((T.setVm s.vm).setFrames (.invoking m args :: below)).setFrames (T.setVm s.vm).frames with heap := T.heap, slotsUsed := T.slotsUsed }
      rw [State.setFrames_setFrames, State.setFrames_self ht]
      rfl
    · show T.slotsUsed = T.slotsUsed + ((T.heap.toList.drop T.heap.size).map (·.slots.size)).sum
      rw [List.drop_eq_nil_of_le (Nat.le_of_eq Array.length_toList)]
      rfl
    · show ((T.heap.toList.drop T.heap.size).map (·.slots.size)).sum ≤ 0
      rw [List.drop_eq_nil_of_le (Nat.le_of_eq Array.length_toList)]
      exact Nat.le_refl _
/-- 'throw new E()': new; dup; invokespecial; athrow -/
theorem vx_throw0 {cc : ByteArray} {pc : Nat} (hexec : p.tables.exec = Jvm.exec) (hb : c.code = cc) (hl : l.stackTraces = false) {own cls : String} {names : List String} {ik ic mc ms : Nat} {A : Nat → Prop}
    (hown : s.vm.findClass own = some m.cls) (hcls : Bundle.fit cls = true) (hnames : ∀ n ∈ names, Bundle.fit n = true)
    (hk : (Cond.classLink own ik cls).before args s = true) (hini : (Cond.initialized cls).before args s = true) (hat : ∀ w ∈ vx_at0 own ic cls names, w.before args s = true)
    (hgood : ∀ w ∈ Cond.classLink own ik cls :: Cond.initialized cls :: vx_at0 own ic cls names, vx_ot w = true)
    (hU : vx_Zq Bundle.tN "UNASSIGNED_STACK" Bundle.steD A s s.heap) (hN : vx_Zq Bundle.tN "SUPPRESSED_SENTINEL" Bundle.listD A s s.heap) (hS : va_S A s.heap H locs) (hsize : ls.size = c.maxLocals)
    (d0 : decode cc pc = .ok (.new ik, 3)) (d3 : decode cc (pc + 3) = .ok (.dup, 1)) (d4 : decode cc (pc + 4) = .ok (.invokespecial ic, 3)) (d7 : decode cc (pc + 7) = .ok (.athrow, 1))
    (hout : ∀ x ∈ c.exceptionTable.toList, covers x (pc + 7) = false)
    (hRframes : names.length + 3 < R.frames) (hRlocals : (rest.map fun v => v.category).sum + (13 * (names.length + 1) + 42) ≤ R.locals) (hRcells : cells + 1 ≤ R.cells) (hRslots : slots + 6 ≤ R.slots) (hlocks : meth.locks = false)
    (hx : ∀ t : State, s.vm.Alike t.vm → H.size ≤ t.heap.size → (∀ q : Nat, q < H.size → t.heap[q]? = H[q]?) → XC cls s t)
    (hf : ∀ z ∈ locs, free z.base) (hc : cells + 1 ≤ mc) (hs : slots + 6 ≤ ms) :
    W p l e R s m args below meth c H locs cells slots (vx_MQ below Qc XC args s mc ms free) (F0 m pc ls rest) := by
  intro T hT X
  have htr : e.platform.stackTraces = false := (show e.platform.stackTraces = l.stackTraces by rw [X.admits.platform]).trans hl
  have Y := vx_rebase X (R' := { frames := R.frames, locals := R.locals, cells := 1, slots := 6 }) (Nat.le_refl _) (Nat.le_refl _) hRcells hRslots
  obtain ⟨s', hA⟩ : ∃ z, z = (T.setVm s.vm).setFrames (.invoking m args :: below) := ⟨_, rfl⟩
  rw [← hA] at Y
  have hvm : s'.vm = s.vm := by rw [hA]; rfl
  have hhp : s'.heap = H := by rw [hA]; exact hT
  have hW0 : s.WarmedH s'.vm := by rw [hvm]; exact State.WarmedH.refl s
  have hat' : ∀ w ∈ vx_at0 own ic cls names, w.before args s' = true := fun w hw => vx_ot_at hW0 hvm.symm (hgood w (List.mem_cons_of_mem _ (List.mem_cons_of_mem _ hw))) (hat w hw)
  have hk' : (Cond.classLink own ik cls).before args s' = true := vx_ot_at hW0 hvm.symm (hgood _ List.mem_cons_self) hk
  have hini' : (Cond.initialized cls).before args s' = true := vx_ot_at hW0 hvm.symm (hgood _ (List.mem_cons_of_mem _ List.mem_cons_self)) hini
  have hU' : vx_Zq Bundle.tN "UNASSIGNED_STACK" Bundle.steD A s' s'.heap := by rw [hhp]; exact vx_Zq.moved hW0.alike (hU.kept hS.2.1)
  have hN' : vx_Zq Bundle.tN "SUPPRESSED_SENTINEL" Bundle.listD A s' s'.heap := by rw [hhp]; exact vx_Zq.moved hW0.alike (hN.kept hS.2.1)
  have h : ∀ w ∈ Bundle.ownAtoms0 own ic cls names, w.before args s' = true := vx_own hat' (vx_isRefq hU'.1) (vx_isRefq hN'.1) hU'.2.word hN'.2.word
  have hown' : s'.vm.findClass own = some m.cls := by rw [hvm]; exact hown
  have hins : (Cond.instantiable cls 6).before args s' = true := h _ (by simp [Bundle.ownAtoms0])
  obtain ⟨vm₁, cX, kX, hfX, hkX, -, -, X₁, st1⟩ := Y.newCold hexec (own := own) (C := cls) (index := ik) (n := 6) hown' hk' hins hini'
    (g := F0 m pc ls rest) rfl (by rw [hb]; exact d0) (Nat.le_refl _) (Nat.le_refl _)
  generalize hT1 : (T.setVm vm₁).pushCell { cls := cX, slots := kX.instanceTypes.map defaultValue, vm := .none } = T1 at X₁ st1
  have hcat : (Value.ref T.heap.size).category = 1 := rfl
  have hcellA : T1.heap[T.heap.size]? = some (freshCell cX kX) := by rw [← hT1]; exact State.heap_pushCell_size _ _
  have d3' : decode c.code (pc + 3) = .ok (.dup, 1) := by rw [hb]; exact d3
  obtain ⟨U, hsteps, hrun, hend, hW, hsame, ce, hce, hO⟩ := X₁.ctorThrow0 hexec htr (own := own) (cls := cls) (names := names) (ic := ic) hown' hcls hnames h (fun x hx => nomatch hx) hfX hkX hcellA (by rw [hhp, hT]; exact Nat.le_refl _)
    (g := { method := m, pc := pc + 4, locals := ls, stack := .ref T.heap.size :: .ref T.heap.size :: rest, locked := none }) rfl hsize rfl rfl (rest := rest) rfl
    (by rw [hb]; exact d4) (by rw [hb]; exact d7) hout hRframes (by simp only [List.map_cons, List.sum_cons, hcat]; omega) hlocks
  obtain ⟨f1, f2⟩ := vx_frame hsame
  rw [hhp] at f1 f2
  have hWs : s.WarmedH U.vm := State.WarmedH.trans hW0 hW
  have hcl : s.vm.findClass cls = some ce.cls := by
    have h9 := hO.cls
    rw [hvm] at h9
    exact h9
  have hall : s.sameButNew ({ U with vm := s.vm } : State) locs mc ms := by
    subst hA
    obtain ⟨e1, e2⟩ := hsame
    rw [State.setFrames_setFrames] at e1
    have h2 : (T.setVm s.vm).sameButNew ({ U with vm := s.vm } : State) [] (0 + 1) (0 + 6) := ⟨e1, e2⟩
    have h3 := X.same.trans h2
    rw [List.append_nil] at h3
    exact h3.mono hc hs
  refine ⟨U, ?_, .threw T.heap.size, hrun, hend, Or.inr ⟨T.heap.size, rfl, cls, ce, locs, hx U hWs.alike f1 (fun q hq => f2 q hq (fun z hz => nomatch hz)), hce, hO.vm, hcl, hWs, hall, hf⟩⟩
  refine st1 _ ?_
  show Steps p.tables e below (T1.setTop { method := m, pc := pc + 3, locals := ls, stack := .ref T.heap.size :: rest, locked := none }) _
  jvm_step X₁.here [X₁.here.top, hexec, d3', Value.category]
  exact hsteps
/-- 'throw new E("text")': new; dup; ldc; invokespecial; athrow -/
theorem vx_throwS {cc : ByteArray} {pc : Nat} (hexec : p.tables.exec = Jvm.exec) (hb : c.code = cc) (hl : l.stackTraces = false) {own cls text : String} {names : List String} {ik is ic mc ms sa : Nat} {A : Nat → Prop}
    (hown : s.vm.findClass own = some m.cls) (hcls : Bundle.fit cls = true) (hnames : ∀ n ∈ names, Bundle.fit n = true)
    (hk : (Cond.classLink own ik cls).before args s = true) (hini : (Cond.initialized cls).before args s = true) (hstr : vk_R own is text sa s) (hat : ∀ w ∈ vx_atS own ic cls names, w.before args s = true)
    (hgood : ∀ w ∈ Cond.classLink own ik cls :: Cond.initialized cls :: vx_atS own ic cls names, vx_ot w = true)
    (hU : vx_Zq Bundle.tN "UNASSIGNED_STACK" Bundle.steD A s s.heap) (hN : vx_Zq Bundle.tN "SUPPRESSED_SENTINEL" Bundle.listD A s s.heap) (hS : va_S A s.heap H locs) (hsize : ls.size = c.maxLocals)
    (d0 : decode cc pc = .ok (.new ik, 3)) (d3 : decode cc (pc + 3) = .ok (.dup, 1)) (d4 : decode cc (pc + 4) = .ok (.ldc is, 2)) (d6 : decode cc (pc + 6) = .ok (.invokespecial ic, 3)) (d9 : decode cc (pc + 9) = .ok (.athrow, 1))
    (hout : ∀ x ∈ c.exceptionTable.toList, covers x (pc + 9) = false)
    (hRframes : names.length + 3 < R.frames) (hRlocals : (rest.map fun v => v.category).sum + (13 * (names.length + 1) + 43) ≤ R.locals) (hRcells : cells + 1 ≤ R.cells) (hRslots : slots + 6 ≤ R.slots) (hlocks : meth.locks = false)
    (hx : ∀ t : State, s.vm.Alike t.vm → H.size ≤ t.heap.size → (∀ q : Nat, q < H.size → t.heap[q]? = H[q]?) → XC cls s t)
    (hf : ∀ z ∈ locs, free z.base) (hc : cells + 1 ≤ mc) (hs : slots + 6 ≤ ms) :
    W p l e R s m args below meth c H locs cells slots (vx_MQ below Qc XC args s mc ms free) (F0 m pc ls rest) := by
  intro T hT X
  have htr : e.platform.stackTraces = false := (show e.platform.stackTraces = l.stackTraces by rw [X.admits.platform]).trans hl
  have Y := vx_rebase X (R' := { frames := R.frames, locals := R.locals, cells := 1, slots := 6 }) (Nat.le_refl _) (Nat.le_refl _) hRcells hRslots
  obtain ⟨s', hA⟩ : ∃ z, z = (T.setVm s.vm).setFrames (.invoking m args :: below) := ⟨_, rfl⟩
  rw [← hA] at Y
  have hvm : s'.vm = s.vm := by rw [hA]; rfl
  have hhp : s'.heap = H := by rw [hA]; exact hT
  have hW0 : s.WarmedH s'.vm := by rw [hvm]; exact State.WarmedH.refl s
  have hat' : ∀ w ∈ vx_atS own ic cls names, w.before args s' = true := fun w hw => vx_ot_at hW0 hvm.symm (hgood w (List.mem_cons_of_mem _ (List.mem_cons_of_mem _ hw))) (hat w hw)
  have hk' : (Cond.classLink own ik cls).before args s' = true := vx_ot_at hW0 hvm.symm (hgood _ List.mem_cons_self) hk
  have hini' : (Cond.initialized cls).before args s' = true := vx_ot_at hW0 hvm.symm (hgood _ (List.mem_cons_of_mem _ List.mem_cons_self)) hini
  have hU' : vx_Zq Bundle.tN "UNASSIGNED_STACK" Bundle.steD A s' s'.heap := by rw [hhp]; exact vx_Zq.moved hW0.alike (hU.kept hS.2.1)
  have hN' : vx_Zq Bundle.tN "SUPPRESSED_SENTINEL" Bundle.listD A s' s'.heap := by rw [hhp]; exact vx_Zq.moved hW0.alike (hN.kept hS.2.1)
  have h : ∀ w ∈ Bundle.ownAtoms own ic cls names, w.before args s' = true := vx_own hat' (vx_isRefq hU'.1) (vx_isRefq hN'.1) hU'.2.word hN'.2.word
  have hown' : s'.vm.findClass own = some m.cls := by rw [hvm]; exact hown
  have hins : (Cond.instantiable cls 6).before args s' = true := h _ (by simp [Bundle.ownAtoms])
  obtain ⟨vm₁, cX, kX, hfX, hkX, -, -, X₁, st1⟩ := Y.newCold hexec (own := own) (C := cls) (index := ik) (n := 6) hown' hk' hins hini'
    (g := F0 m pc ls rest) rfl (by rw [hb]; exact d0) (Nat.le_refl _) (Nat.le_refl _)
  generalize hT1 : (T.setVm vm₁).pushCell { cls := cX, slots := kX.instanceTypes.map defaultValue, vm := .none } = T1 at X₁ st1
  have hcat : (Value.ref T.heap.size).category = 1 := rfl
  have hcellA : T1.heap[T.heap.size]? = some (freshCell cX kX) := by rw [← hT1]; exact State.heap_pushCell_size _ _
  have d3' : decode c.code (pc + 3) = .ok (.dup, 1) := by rw [hb]; exact d3
  have d4' : decode c.code (pc + 4) = .ok (.ldc is, 2) := by rw [hb]; exact d4
  have hstr' : vk_R own is text sa s' := vk_R.warm hW0 hstr
  obtain ⟨U, hsteps, hrun, hend, hW, hsame, ce, hce, hO⟩ := X₁.ctorThrowS hexec htr (own := own) (cls := cls) (names := names) (ic := ic) hown' hcls hnames h (fun x hx => nomatch hx) hfX hkX hcellA (by rw [hhp, hT]; exact Nat.le_refl _) (msg := .ref sa) rfl
    (g := { method := m, pc := pc + 6, locals := ls, stack := .ref sa :: .ref T.heap.size :: .ref T.heap.size :: rest, locked := none }) rfl hsize rfl rfl (rest := rest) rfl
    (by rw [hb]; exact d6) (by rw [hb]; exact d9) hout hRframes (by simp only [List.map_cons, List.sum_cons, hcat]; omega) hlocks
  obtain ⟨f1, f2⟩ := vx_frame hsame
  rw [hhp] at f1 f2
  have hWs : s.WarmedH U.vm := State.WarmedH.trans hW0 hW
  have hcl : s.vm.findClass cls = some ce.cls := by
    have h9 := hO.cls
    rw [hvm] at h9
    exact h9
  have hall : s.sameButNew ({ U with vm := s.vm } : State) locs mc ms := by
    subst hA
    obtain ⟨e1, e2⟩ := hsame
    rw [State.setFrames_setFrames] at e1
    have h2 : (T.setVm s.vm).sameButNew ({ U with vm := s.vm } : State) [] (0 + 1) (0 + 6) := ⟨e1, e2⟩
    have h3 := X.same.trans h2
    rw [List.append_nil] at h3
    exact h3.mono hc hs
  refine ⟨U, ?_, .threw T.heap.size, hrun, hend, Or.inr ⟨T.heap.size, rfl, cls, ce, locs, hx U hWs.alike f1 (fun q hq => f2 q hq (fun z hz => nomatch hz)), hce, hO.vm, hcl, hWs, hall, hf⟩⟩
  refine st1 _ ?_
  show Steps p.tables e below (T1.setTop { method := m, pc := pc + 3, locals := ls, stack := .ref T.heap.size :: rest, locked := none }) _
  jvm_step X₁.here [X₁.here.top, hexec, d3', Value.category]
  exact X₁.ldcString hexec (own := own) (text := text) (index := is) (a := sa) hown' hstr'.1 hstr'.2
    (g := { method := m, pc := pc + 4, locals := ls, stack := .ref T.heap.size :: .ref T.heap.size :: rest, locked := none }) rfl d4' _ hsteps
/-- 'throw new E("text")', the text by a wide index -/
theorem vx_throwSW {cc : ByteArray} {pc : Nat} (hexec : p.tables.exec = Jvm.exec) (hb : c.code = cc) (hl : l.stackTraces = false) {own cls text : String} {names : List String} {ik is ic mc ms sa : Nat} {A : Nat → Prop}
    (hown : s.vm.findClass own = some m.cls) (hcls : Bundle.fit cls = true) (hnames : ∀ n ∈ names, Bundle.fit n = true)
    (hk : (Cond.classLink own ik cls).before args s = true) (hini : (Cond.initialized cls).before args s = true) (hstr : vk_R own is text sa s) (hat : ∀ w ∈ vx_atS own ic cls names, w.before args s = true)
    (hgood : ∀ w ∈ Cond.classLink own ik cls :: Cond.initialized cls :: vx_atS own ic cls names, vx_ot w = true)
    (hU : vx_Zq Bundle.tN "UNASSIGNED_STACK" Bundle.steD A s s.heap) (hN : vx_Zq Bundle.tN "SUPPRESSED_SENTINEL" Bundle.listD A s s.heap) (hS : va_S A s.heap H locs) (hsize : ls.size = c.maxLocals)
    (d0 : decode cc pc = .ok (.new ik, 3)) (d3 : decode cc (pc + 3) = .ok (.dup, 1)) (d4 : decode cc (pc + 4) = .ok (.ldc_w is, 3)) (d7 : decode cc (pc + 7) = .ok (.invokespecial ic, 3)) (d10 : decode cc (pc + 10) = .ok (.athrow, 1))
    (hout : ∀ x ∈ c.exceptionTable.toList, covers x (pc + 10) = false)
    (hRframes : names.length + 3 < R.frames) (hRlocals : (rest.map fun v => v.category).sum + (13 * (names.length + 1) + 43) ≤ R.locals) (hRcells : cells + 1 ≤ R.cells) (hRslots : slots + 6 ≤ R.slots) (hlocks : meth.locks = false)
    (hx : ∀ t : State, s.vm.Alike t.vm → H.size ≤ t.heap.size → (∀ q : Nat, q < H.size → t.heap[q]? = H[q]?) → XC cls s t)
    (hf : ∀ z ∈ locs, free z.base) (hc : cells + 1 ≤ mc) (hs : slots + 6 ≤ ms) :
    W p l e R s m args below meth c H locs cells slots (vx_MQ below Qc XC args s mc ms free) (F0 m pc ls rest) := by
  intro T hT X
  have htr : e.platform.stackTraces = false := (show e.platform.stackTraces = l.stackTraces by rw [X.admits.platform]).trans hl
  have Y := vx_rebase X (R' := { frames := R.frames, locals := R.locals, cells := 1, slots := 6 }) (Nat.le_refl _) (Nat.le_refl _) hRcells hRslots
  obtain ⟨s', hA⟩ : ∃ z, z = (T.setVm s.vm).setFrames (.invoking m args :: below) := ⟨_, rfl⟩
  rw [← hA] at Y
  have hvm : s'.vm = s.vm := by rw [hA]; rfl
  have hhp : s'.heap = H := by rw [hA]; exact hT
  have hW0 : s.WarmedH s'.vm := by rw [hvm]; exact State.WarmedH.refl s
  have hat' : ∀ w ∈ vx_atS own ic cls names, w.before args s' = true := fun w hw => vx_ot_at hW0 hvm.symm (hgood w (List.mem_cons_of_mem _ (List.mem_cons_of_mem _ hw))) (hat w hw)
  have hk' : (Cond.classLink own ik cls).before args s' = true := vx_ot_at hW0 hvm.symm (hgood _ List.mem_cons_self) hk
  have hini' : (Cond.initialized cls).before args s' = true := vx_ot_at hW0 hvm.symm (hgood _ (List.mem_cons_of_mem _ List.mem_cons_self)) hini
  have hU' : vx_Zq Bundle.tN "UNASSIGNED_STACK" Bundle.steD A s' s'.heap := by rw [hhp]; exact vx_Zq.moved hW0.alike (hU.kept hS.2.1)
  have hN' : vx_Zq Bundle.tN "SUPPRESSED_SENTINEL" Bundle.listD A s' s'.heap := by rw [hhp]; exact vx_Zq.moved hW0.alike (hN.kept hS.2.1)
  have h : ∀ w ∈ Bundle.ownAtoms own ic cls names, w.before args s' = true := vx_own hat' (vx_isRefq hU'.1) (vx_isRefq hN'.1) hU'.2.word hN'.2.word
  have hown' : s'.vm.findClass own = some m.cls := by rw [hvm]; exact hown
  have hins : (Cond.instantiable cls 6).before args s' = true := h _ (by simp [Bundle.ownAtoms])
  obtain ⟨vm₁, cX, kX, hfX, hkX, -, -, X₁, st1⟩ := Y.newCold hexec (own := own) (C := cls) (index := ik) (n := 6) hown' hk' hins hini'
    (g := F0 m pc ls rest) rfl (by rw [hb]; exact d0) (Nat.le_refl _) (Nat.le_refl _)
  generalize hT1 : (T.setVm vm₁).pushCell { cls := cX, slots := kX.instanceTypes.map defaultValue, vm := .none } = T1 at X₁ st1
  have hcat : (Value.ref T.heap.size).category = 1 := rfl
  have hcellA : T1.heap[T.heap.size]? = some (freshCell cX kX) := by rw [← hT1]; exact State.heap_pushCell_size _ _
  have d3' : decode c.code (pc + 3) = .ok (.dup, 1) := by rw [hb]; exact d3
  have d4' : decode c.code (pc + 4) = .ok (.ldc_w is, 3) := by rw [hb]; exact d4
  have hstr' : vk_R own is text sa s' := vk_R.warm hW0 hstr
  obtain ⟨U, hsteps, hrun, hend, hW, hsame, ce, hce, hO⟩ := X₁.ctorThrowS hexec htr (own := own) (cls := cls) (names := names) (ic := ic) hown' hcls hnames h (fun x hx => nomatch hx) hfX hkX hcellA (by rw [hhp, hT]; exact Nat.le_refl _) (msg := .ref sa) rfl
    (g := { method := m, pc := pc + 7, locals := ls, stack := .ref sa :: .ref T.heap.size :: .ref T.heap.size :: rest, locked := none }) rfl hsize rfl rfl (rest := rest) rfl
    (by rw [hb]; exact d7) (by rw [hb]; exact d10) hout hRframes (by simp only [List.map_cons, List.sum_cons, hcat]; omega) hlocks
  obtain ⟨f1, f2⟩ := vx_frame hsame
  rw [hhp] at f1 f2
  have hWs : s.WarmedH U.vm := State.WarmedH.trans hW0 hW
  have hcl : s.vm.findClass cls = some ce.cls := by
    have h9 := hO.cls
    rw [hvm] at h9
    exact h9
  have hall : s.sameButNew ({ U with vm := s.vm } : State) locs mc ms := by
    subst hA
    obtain ⟨e1, e2⟩ := hsame
    rw [State.setFrames_setFrames] at e1
    have h2 : (T.setVm s.vm).sameButNew ({ U with vm := s.vm } : State) [] (0 + 1) (0 + 6) := ⟨e1, e2⟩
    have h3 := X.same.trans h2
    rw [List.append_nil] at h3
    exact h3.mono hc hs
  refine ⟨U, ?_, .threw T.heap.size, hrun, hend, Or.inr ⟨T.heap.size, rfl, cls, ce, locs, hx U hWs.alike f1 (fun q hq => f2 q hq (fun z hz => nomatch hz)), hce, hO.vm, hcl, hWs, hall, hf⟩⟩
  refine st1 _ ?_
  show Steps p.tables e below (T1.setTop { method := m, pc := pc + 3, locals := ls, stack := .ref T.heap.size :: rest, locked := none }) _
  jvm_step X₁.here [X₁.here.top, hexec, d3', Value.category]
  exact X₁.ldcStringW hexec (own := own) (text := text) (index := is) (a := sa) hown' hstr'.1 hstr'.2
    (g := { method := m, pc := pc + 4, locals := ls, stack := .ref T.heap.size :: .ref T.heap.size :: rest, locked := none }) rfl d4' _ hsteps
end Ends
section Bodies
variable {l : Launch}
theorem vx_ofW {y : MethodName} {ws ws' : List Cond} {rm : Room} {Pc : Array Value → State → Prop} {Qc : Array Value → State → Outcome → State → Prop} {XC : String → State → State → Prop} {mc ms : Nat} {free : Addr → Prop} {cc : ByteArray} {maxL : Nat} {ret : Option FieldType}
    (hy : plainName y.cls = true) (hw : ws = Cond.code y cc maxL ret :: ws')
    (body : ∀ p e s m args below meth c s₁, BodyLoose p l y (headSpec ws rm) cc maxL ret e s m args below meth c s₁ → c.maxLocals = maxL → (∀ x ∈ c.exceptionTable.toList, False) → Pc args s →
      W p l e (headSpec ws rm).room s m args below meth c s.heap [] 0 0 (vx_MQ below Qc XC args s mc ms free) (entryFrame m args maxL)) : vx_Met l y ws rm Pc Qc XC mc ms free := by
  refine MetFree.of_bodyS (code := cc) (maxLocals := maxL) (ret := ret) hy ?_ ?_
  · intro args s m h hn
    obtain ⟨meth, c, h1, h2, h3, h4, h5, h6, -, -⟩ := Cond.code_spec hn (atoms_spec (ws := ws) h _ (by rw [hw]; exact List.mem_cons_self))
    exact ⟨meth, c, h1, h2, h3, h4, h5, h6⟩
  · intro p e s m args below meth c s₁ B hml hP _
    have hh0 : s₁.heap = s.heap := by rw [B.state]; rfl
    have ht : ∀ x ∈ c.exceptionTable.toList, False := by
      obtain ⟨meth9, c9, h1, h2, -, -, -, -, h7, -⟩ := Cond.code_spec B.named (atoms_spec (ws := ws) B.pre _ (by rw [hw]; exact List.mem_cons_self))
      cases Option.some.inj (h1.symm.trans B.method)
      cases Option.some.inj (h2.symm.trans (Stand.of_body B).code)
      intro x hx
      rw [Array.isEmpty_iff.mp h7] at hx
      cases hx
    obtain ⟨t, a1, o, b1, b2, b3⟩ := body p e s m args below meth c s₁ B hml ht hP s₁ hh0 (Stand.of_body B)
    exact ⟨t, o, a1, b1, b2, b3⟩
/-- the table of a body with handlers -/
theorem vx_table {p : Program} {x y : MethodName} {S : Spec} {cc bytes : ByteArray} {maxL maxL' : Nat} {ret ret' : Option FieldType} {e : Env} {s s₁ : State} {m : MethodId} {args : Array Value} {below : List Frame} {meth : Method} {c : Code} {hh : List (Nat × Nat × Nat × Nat)}
    (B : BodyLoose p l y S cc maxL ret e s m args below meth c s₁) (h : (Cond.codeWith y bytes maxL' ret' hh).before args s = true) : c.exceptionTable.toList = tableOf hh := by
  obtain ⟨m9, meth9, c9, hn9, h1, h2, -, -, h6, -⟩ := Cond.codeWith_spec h
  cases Option.some.inj (hn9.symm.trans B.named)
  cases Option.some.inj (h1.symm.trans B.method)
  cases Option.some.inj (h2.symm.trans (Stand.of_body B).code)
  rw [← h6, table_eq]
end Bodies
end VXA
/-! ===== END ===== -/
/-! ===== BEGIN a static call of a method with an exception table ===== -/
section VXS
variable {p : Program} {l : Launch} {e : Env} {R : Room} {s : State} {m : MethodId} {args : Array Value} {below : List Frame} {meth : Method} {c : Code} {T : State} {H : Heap} {locs : List Loc} {cells slots : Nat}
abbrev vx_CSW (R : Room) (s : State) (args : Array Value) (own : String) (index : Nat) (y : MethodName) (bytes : ByteArray) (maxL : Nat) (ret : Option FieldType) (hh : List (Nat × Nat × Nat × Nat)) (ws : List Cond) (rm : Room) (mc ms n : Nat) : Prop :=
  (rm.cells = mc ∧ rm.slots = ms ∧ rm.frames + 1 ≤ R.frames ∧ 8 + (maxL + 11) + rm.locals ≤ R.locals ∧ (∀ w ∈ ws, ∀ (a' : Array Value) (U : State), s.WarmedH U.vm → w.before a' U = true) ∧ Cond.codeWith y bytes maxL ret hh ∈ ws) ∧
  (Cond.codeWith y bytes maxL ret hh).before args s = true ∧ (Cond.initialized y.cls).before args s = true ∧ (y.cls ≠ "java/lang/invoke/MethodHandle" ∧ y.cls ≠ "java/lang/invoke/VarHandle") ∧
  (∀ sig, parseMethodDescriptor y.desc = some sig → n = sig.parameters.length) ∧ (Cond.methodLink own index y).before args s = true ∧ (Cond.static y).before args s = true
theorem vx_cwSW {own : String} {index maxL mc ms : Nat} {y : MethodName} {bytes : ByteArray} {ret : Option FieldType} {hh : List (Nat × Nat × Nat × Nat)} {Ts ws ws' : List Cond} {rm : Room} (n : Nat) (ht : ∀ w ∈ Ts, w.before args s = true) (hT : GoodIn Ts (va_wsS own index y ws)) (hw : ws = Cond.codeWith y bytes maxL ret hh :: ws') (hrc : rm.cells = mc) (hrs : rm.slots = ms)
    (hd : y.cls ≠ "java/lang/invoke/MethodHandle" ∧ y.cls ≠ "java/lang/invoke/VarHandle" ∧ (parseMethodDescriptor y.desc).map (fun d => d.parameters.length) = some n) (hR : rm.frames + 1 ≤ R.frames ∧ 8 + (maxL + 11) + rm.locals ≤ R.locals) :
    vx_CSW R s args own index y bytes maxL ret hh ws rm mc ms n := by
  have ok : ∀ w ∈ va_wsS own index y ws, w.before args s = true := fun w h => ht w (hT w h).1
  have hG : GoodIn Ts ws := fun w h => hT w (by unfold va_wsS; exact List.mem_append_right _ h)
  have hc : Cond.codeWith y bytes maxL ret hh ∈ ws := by rw [hw]; exact List.mem_cons_self
  refine ⟨⟨hrc, hrs, hR.1, hR.2, pay_in ht hG, hc⟩, ht _ (hG _ hc).1, ok _ (by simp [va_wsS]), ⟨hd.1, hd.2.1⟩, fun sig h => ?_, ok _ (by simp [va_wsS]), ok _ (by simp [va_wsS])⟩
  have h2 := hd.2.2
  rw [h] at h2
  exact (Option.some.inj h2).symm
theorem vx_callSW (X : Stand p l e R s m args below meth c T locs cells slots) (hexec : p.tables.exec = Jvm.exec) {own : String} {index : Nat} {y : MethodName} {bytes : ByteArray} {maxL : Nat} {ret : Option FieldType} {hh : List (Nat × Nat × Nat × Nat)}
    (hown : s.vm.findClass own = some m.cls) (hlink : (Cond.methodLink own index y).before args s = true) (hstat : (Cond.static y).before args s = true) (hinit : (Cond.initialized y.cls).before args s = true)
    (hcode : (Cond.codeWith y bytes maxL ret hh).before args s = true) (hy : y.cls ≠ "java/lang/invoke/MethodHandle" ∧ y.cls ≠ "java/lang/invoke/VarHandle")
    {W9 : Nat} {Pre : Pt → Array Value → Prop} {Post : Pt → Array Value → Option Value → Pt → Prop} (hK : Back l R p e below s args y 3 W9 Pre Post)
    {g : JFrame} (hg : g.method = m) (hsize : g.locals.size = c.maxLocals) {argsL rest : List Value} (hlen : ∀ sig, parseMethodDescriptor y.desc = some sig → argsL.length = sig.parameters.length)
    (hstack : g.stack = argsL.reverse ++ rest) (hW : 2 * g.monitorRoom + (rest.map fun v => v.category).sum ≤ W9) (hdg : decode c.code g.pc = .ok (.invokestatic index, 3))
    (hpre : ∀ vm₁, s.WarmedH vm₁ → Pre ⟨T.setVm vm₁, locs, cells, slots⟩ argsL.toArray) :
    ∃ (v : Option Value) (vm₁ : Vm) (B : Pt), s.WarmedH vm₁ ∧ Stand p l e R s m args below meth c B.U B.locs B.cells B.slots ∧ Post ⟨T.setVm vm₁, locs, cells, slots⟩ argsL.toArray v B ∧
      ∀ target, Steps p.tables e below (B.U.setTop { g with pc := g.pc + 3, stack := v.toList ++ rest }) target → Steps p.tables e below (T.setTop g) target := by
  obtain ⟨mk, methM, cM, hnamed, hmethM, -, -, -, -, -, -, hsigM⟩ := Cond.codeWith_spec hcode
  have hstatic : methM.isStatic = true := Cond.static_spec hnamed hmethM hstat
  obtain ⟨kP, hkP, -⟩ := className_of_methodNamed hnamed
  have hinitP : kP.init = .initialized := Cond.initialized_spec (findClass_of_methodNamed hnamed) hkP hinit
  obtain ⟨vm₁, X₁, hstep₁⟩ := X.invokestatic hexec hown hlink hnamed hmethM hstatic hkP hinitP hy (g := g) hg (argsL := argsL) (rest := rest) (hlen _ hsigM) hstack hdg
  obtain ⟨v, B, X', hpost, hsteps⟩ := hK m meth c ⟨T.setVm vm₁, locs, cells, slots⟩ { g with stack := rest } (.invokestatic index) mk argsL.toArray X₁ hg hsize hdg hW (X₁.named hnamed) (hpre vm₁ X₁.warmed)
  exact ⟨v, vm₁, B, X₁.warmed, X', hpost, fun target h => hstep₁ _ fun acts => by rw [doInvoke_state]; exact hsteps.trans h⟩
theorem vx_runSW {y : MethodName} {bytes cc : ByteArray} {maxL nL mc ms n index : Nat} {ret : Option FieldType} {hh : List (Nat × Nat × Nat × Nat)} {ws : List Cond} {rm : Room} {Pc : Array Value → State → Prop} {Qc : Array Value → State → Outcome → State → Prop} {free : Addr → Prop} {Ts : List Cond} {own : String} {As rest : List Value} {g : JFrame}
    (S : CallFix p m c cc nL s args Ts own) (hM : Met l y ws rm Pc Qc mc ms free) (cw : vx_CSW R s args own index y bytes maxL ret hh ws rm mc ms n) (hp : PreS s H Pc As)
    (hg : g.method = m) (hn : As.length = n) (hsize : g.locals.size = nL) (hstack : g.stack = As.reverse ++ rest) (hW : 2 * g.monitorRoom + (rest.map fun v => v.category).sum ≤ 8) (hdg : decode cc g.pc = .ok (.invokestatic index, 3)) (hf : cells + mc ≤ R.cells ∧ slots + ms ≤ R.slots) :
    va_Run p l e R s m args below meth c H locs cells slots mc ms g rest (Qc As.toArray) (free) := by
  obtain ⟨⟨hrc, hrs, hfr, hlo, hws, hcw⟩, hcode, hini, hy, hlen, hl, hstt⟩ := cw
  have hK : Back l R p e below s args y 3 8 (PreOf R mc ms Pc) (PostOf Qc mc ms free) := va_backW (hh := hh) (bytes := bytes) (maxL := maxL) (ret := ret) hM hp.1 hrc hrs hfr hlo hws hcw (fun a' U hW => word_at hW (Or.inl (by first | rfl | simp [Cond.onTables, Cond.keeps, Cond.steady])) hini)
  obtain ⟨hx, hb, hml, ho, -⟩ := S
  intro T hT X
  obtain ⟨v, vm₁, ⟨U', l2, c2, s2⟩, hW₁, X', ⟨g', mk, t, L, e1, e2, hq, h1, hL, h2, h3⟩, st⟩ := vx_callSW X hx (hh := hh) (bytes := bytes) (maxL := maxL) (ret := ret) ho hl hstt hini hcode hy hK hg (hsize.trans hml.symm) (argsL := As) (rest := rest) (fun sig h => hn.trans (hlen sig h)) hstack hW (by rw [hb]; exact hdg)
    (fun vm₁ hW₁ => ⟨hf.1, hf.2, hp.2 (T.setVm vm₁) hT hW₁⟩)
  dsimp only [Pt.U, Pt.locs, Pt.cells, Pt.slots] at X' e1 e2 h1 h2 h3 st
  subst h1; subst h2; subst h3
  exact ⟨v, (T.setVm vm₁).calling g' mk As.toArray, t, U', L, hT, X', hL, e1, e2, hq, st⟩
/-- a thing of a world lies in the heap -/
theorem vx_lt {D : va_G} {cl : List vw_C} {ws : va_W} {H1 : Heap} (h : va_P D cl ws H1) {k : Nat} {q : Nat × va_E} (hk : ws[k]? = some q) : q.1 < H1.size := (h k q hk).lt
end VXS
/-! ===== END ===== -/
/-! ===== BEGIN methods with a table of their own: called by a name, returning or throwing ===== -/
section VXH
/-! vx_backW, vx_callVX, vx_callSX, vx_callVW, vx_runVW, vx_runVX, vx_runSX, vx_ofWH follow the same proofs as their sisters above (Free/Laws.lean, Shelf42/LK1.lean); vx_outP calls Shelf42/NT130.lean (outThrough). -/
section
variable {l : Launch} {R : Room} {p : Program} {e : Env} {below : List Frame} {s : State} {sargs : Array Value} {y : MethodName} {len W9 : Nat}
theorem vx_backW {ws : List Cond} {rm : Room} {Pc : Array Value → State → Prop} {Qc : Array Value → State → Outcome → State → Prop} {XC : String → State → State → Prop} {mc ms : Nat} {free : Addr → Prop} {bytes : ByteArray} {maxL : Nat} {ret : Option FieldType} {hh : List (Nat × Nat × Nat × Nat)}
    (hM : vx_Met l y ws rm Pc Qc XC mc ms free) (hblind : FrameBlind Pc) (hrc : rm.cells = mc) (hrs : rm.slots = ms)
    (hframes : rm.frames + 1 ≤ R.frames) (hlocals : W9 + (maxL + 11) + rm.locals ≤ R.locals)
    (hws : ∀ w ∈ ws, ∀ a' U, s.WarmedH U.vm → w.before a' U = true) (hcode : Cond.codeWith y bytes maxL ret hh ∈ ws) (hinit : ∀ a' U, s.WarmedH U.vm → (Cond.initialized y.cls).before a' U = true) :
    vx_Back l R p e below s sargs y len W9 (PreOf R mc ms Pc) (PostOf Qc mc ms free) (vx_Post XC mc ms free) := by
  intro m meth c A g ig mk a X hg hsize hdg hW hn hp
  have h1 : (headSpec ws rm).pre.before a A.U = true := atoms_intro fun w hw => hws w hw _ _ X.warmed
  have h2 : (Cond.codeWith y bytes maxL ret hh).before a A.U = true := hws _ hcode _ _ X.warmed
  have h3 : (Cond.initialized y.cls).before a A.U = true := hinit _ _ X.warmed
  have h4 : A.cells + (headSpec ws rm).room.cells ≤ R.cells := by rw [show (headSpec ws rm).room.cells = mc from hrc]; exact hp.1
  have h5 : A.slots + (headSpec ws rm).room.slots ≤ R.slots := by rw [show (headSpec ws rm).room.slots = ms from hrs]; exact hp.2.1
  have hPc : Pc a (A.U.calling g mk a) := hblind _ _ _ _ hp.2.2
  obtain ⟨U, Ls, c0, s0⟩ := A
  dsimp only [Pt.U, Pt.locs, Pt.cells, Pt.slots] at h1 h2 h3 h4 h5 X hn hPc ⊢
  obtain ⟨m9, methY, cY, hn9, hmY, hcY, -, hlY, -⟩ := Cond.codeWith_spec h2
  cases Option.some.inj (hn9.symm.trans hn)
  obtain ⟨kY, hkY, -⟩ := className_of_methodNamed hn
  have hinitY : kY.init = .initialized := Cond.initialized_spec (findClass_of_methodNamed hn) hkY h3
  have h : At U g.method c below := by rw [hg]; exact X.here
  have hlocals9 : W9 + (maxL + 11) + (headSpec ws rm).room.locals ≤ R.locals := hlocals
  have happ : (headSpec ws rm).appliesLoose y e.platform (U.calling g mk a) = true :=
    Spec.appliesLoose_calling (g := g) h hdg hn hkY hinitY
      (X.room_calling (g := g) (R' := (headSpec ws rm).room) hsize hmY hcY hframes (by rw [hlY]; omega) h4 h5) h1
  obtain ⟨mid, hmid⟩ := h.above
  have hfr : (U.setTop g).frames = (.java g :: mid) ++ below := by rw [State.frames_setTop' g h.top, hmid]; rfl
  obtain ⟨o, s₂, hsteps, -, hend, hq⟩ := Steps.callFree hM p X.admits X.cas X.clock (acts := []) hfr happ hPc trivial
  have hq' : vx_Q Qc XC mc ms free a (U.calling g mk a) o s₂ := hq
  rw [State.frames_setTop' g h.top] at hend
  obtain ⟨g₀, hg0⟩ := Option.isSome_iff_exists.mp h.top
  obtain ⟨r, hr⟩ := State.topJava?_eq_some.mp hg0
  have hr' : (({ U with heap := s₂.heap, slotsUsed := s₂.slotsUsed } : State).setVm s₂.vm).frames = .java g₀ :: r := hr
  rcases hq' with ⟨hqc, L, hfe, hL⟩ | ⟨q, rfl, E, ce, L, hx, hce, hcv, hcl, hW₂, hsm, hL⟩
  · obtain ⟨⟨v, rfl⟩, hW₂, e2, q2, q3, q4, q5, q6⟩ := id hfe
    have e3 : s₂ = ({ (U.calling g mk a).setFrames s₂.frames with heap := s₂.heap, slotsUsed := s₂.slotsUsed } : State).setVm s₂.vm := by
      have : s₂ = ({ s₂ with vm := (U.calling g mk a).vm } : State).setVm s₂.vm := rfl
      rw [e2] at this
      exact this
    obtain ⟨c₂, i₂, len₂, hc₂, hd₂, hf₂⟩ := hend
    have hW' : U.WarmedH s₂.vm := hW₂
    have hcc : c₂ = c := by
      have h1 : s₂.code? g.method = U.code? g.method := by
        rw [State.code?_eq, State.code?_eq, hW'.alike.method?]
      exact Option.some.inj (hc₂.symm.trans (h1.trans h.code))
    subst hcc
    have hlen : len₂ = len := by rw [hdg] at hd₂; cases hd₂; rfl
    subst hlen
    have hs₂ : s₂ = (({ U with heap := s₂.heap, slotsUsed := s₂.slotsUsed } : State).setVm s₂.vm).setTop { g with pc := g.pc + len₂, stack := v.toList ++ g.stack } := by
      refine e3.trans ?_
      rw [hf₂, State.calling_eq h.top, State.setFrames_setFrames, State.setTop_of_frames _ hr', hr]
      rfl
    have hsame : U.sameButNew ({ U with heap := s₂.heap, slotsUsed := s₂.slotsUsed } : State) L mc ms := by
      refine ⟨?_, q2, q3, q4, q5, q6⟩
      obtain ⟨t, ht, -⟩ := State.frames_cons hr
      show ({ U with heap := s₂.heap, slotsUsed := s₂.slotsUsed } : State) = { U.setFrames U.frames with heap := s₂.heap, slotsUsed := s₂.slotsUsed }
      rw [State.setFrames_self ht]
    subst hg
    refine Or.inl ⟨v, ⟨(({ U with heap := s₂.heap, slotsUsed := s₂.slotsUsed } : State).setVm s₂.vm), Ls ++ L, c0 + mc, s0 + ms⟩,
      ⟨X.admits, X.cas, X.clock, X.frames, X.room, X.hears, X.method, X.code, (X.here.setHeapUsed s₂.heap s₂.slotsUsed).setVm hW'.alike, X.tail, State.WarmedH.trans X.warmed hW', X.limits, X.bytes, X.same.trans (hsame.setVm s.vm)⟩,
      ⟨g, mk, s₂, L, rfl, rfl, hqc, rfl, hL, rfl, rfl⟩, ?_⟩
    show Steps p.tables e below _ ((({ U with heap := s₂.heap, slotsUsed := s₂.slotsUsed } : State).setVm s₂.vm).setTop { g with pc := g.pc + len₂, stack := v.toList ++ g.stack })
    rw [← hs₂]
    exact hsteps
  · obtain ⟨e2, q2, q3, q4, q5, q6⟩ := id hsm
    have e3 : s₂ = ({ (U.calling g mk a).setFrames s₂.frames with heap := s₂.heap, slotsUsed := s₂.slotsUsed } : State).setVm s₂.vm := by
      have : s₂ = ({ s₂ with vm := (U.calling g mk a).vm } : State).setVm s₂.vm := rfl
      rw [e2] at this
      exact this
    have hf₂ : s₂.frames = .throwing q :: .java g :: U.frames.tail := hend
    have hW' : U.WarmedH s₂.vm := hW₂
    have hs₂ : s₂ = ((({ U with heap := s₂.heap, slotsUsed := s₂.slotsUsed } : State).setVm s₂.vm).setTop g).pushFrame (.throwing q) := by
      refine e3.trans ?_
      rw [hf₂, State.calling_eq h.top, State.setFrames_setFrames, State.pushFrame, State.frames_setTop _ hr', State.setTop_of_frames _ hr', State.setFrames_setFrames, hr]
      rfl
    have hsame : U.sameButNew ({ U with heap := s₂.heap, slotsUsed := s₂.slotsUsed } : State) L mc ms := by
      refine ⟨?_, q2, q3, q4, q5, q6⟩
      obtain ⟨t, ht, -⟩ := State.frames_cons hr
      show ({ U with heap := s₂.heap, slotsUsed := s₂.slotsUsed } : State) = { U.setFrames U.frames with heap := s₂.heap, slotsUsed := s₂.slotsUsed }
      rw [State.setFrames_self ht]
    subst hg
    refine Or.inr ⟨q, ⟨(({ U with heap := s₂.heap, slotsUsed := s₂.slotsUsed } : State).setVm s₂.vm), Ls ++ L, c0 + mc, s0 + ms⟩,
      ⟨X.admits, X.cas, X.clock, X.frames, X.room, X.hears, X.method, X.code, (X.here.setHeapUsed s₂.heap s₂.slotsUsed).setVm hW'.alike, X.tail, State.WarmedH.trans X.warmed hW', X.limits, X.bytes, X.same.trans (hsame.setVm s.vm)⟩,
      ⟨g, mk, s₂, L, E, ce, rfl, rfl, hx, hce, hcv, hcl, rfl, hL, rfl, rfl⟩, ?_⟩
    show Steps p.tables e below _ (((({ U with heap := s₂.heap, slotsUsed := s₂.slotsUsed } : State).setVm s₂.vm).setTop g).pushFrame (.throwing q))
    rw [← hs₂]
    exact hsteps
end
variable {p : Program} {l : Launch} {e : Env} {R : Room} {s : State} {m : MethodId} {args : Array Value} {below : List Frame} {meth : Method} {c : Code} {T : State} {H : Heap} {locs : List Loc} {cells slots : Nat}
theorem vx_callVX (X : Stand p l e R s m args below meth c T locs cells slots) (hexec : p.tables.exec = Jvm.exec) {own C : String} {index : Nat} {y : MethodName} {bytes : ByteArray} {maxL : Nat} {ret : Option FieldType} {hh : List (Nat × Nat × Nat × Nat)}
    (hown : s.vm.findClass own = some m.cls) (hlink : (Cond.methodLink own index y).before args s = true) (hinst : (Cond.instanceMethod y).before args s = true) (hsel : (Cond.selects C y y).before args s = true)
    (hcode : (Cond.codeWith y bytes maxL ret hh).before args s = true) (hy : y.cls ≠ "java/lang/invoke/MethodHandle" ∧ y.cls ≠ "java/lang/invoke/VarHandle")
    {W9 : Nat} {Pre : Pt → Array Value → Prop} {Post : Pt → Array Value → Option Value → Pt → Prop} {PostX : Pt → Array Value → Addr → Pt → Prop} (hK : vx_Back l R p e below s args y 3 W9 Pre Post PostX)
    {b : Addr} {cellB : Cell} (hcell : T.heap[b]? = some cellB) (hobj : cellB.vm.isStatics = false) (hcls : s.vm.findClass C = some cellB.cls)
    {g : JFrame} (hg : g.method = m) (hsize : g.locals.size = c.maxLocals) {argsL rest : List Value} (hlen : ∀ sig, parseMethodDescriptor y.desc = some sig → argsL.length = sig.parameters.length)
    (hstack : g.stack = argsL.reverse ++ .ref b :: rest) (hW : 2 * g.monitorRoom + (rest.map fun v => v.category).sum ≤ W9) (hdg : decode c.code g.pc = .ok (.invokevirtual index, 3))
    (hpre : ∀ vm₁, s.WarmedH vm₁ → Pre ⟨T.setVm vm₁, locs, cells, slots⟩ (Value.ref b :: argsL).toArray) :
    (∃ (v : Option Value) (vm₁ : Vm) (B : Pt), s.WarmedH vm₁ ∧ Stand p l e R s m args below meth c B.U B.locs B.cells B.slots ∧ Post ⟨T.setVm vm₁, locs, cells, slots⟩ (Value.ref b :: argsL).toArray v B ∧
      ∀ target, Steps p.tables e below (B.U.setTop { g with pc := g.pc + 3, stack := v.toList ++ rest }) target → Steps p.tables e below (T.setTop g) target) ∨
    (∃ (q : Addr) (vm₁ : Vm) (B : Pt), s.WarmedH vm₁ ∧ Stand p l e R s m args below meth c B.U B.locs B.cells B.slots ∧ PostX ⟨T.setVm vm₁, locs, cells, slots⟩ (Value.ref b :: argsL).toArray q B ∧
      Steps p.tables e below (T.setTop g) ((B.U.setTop { g with stack := rest }).pushFrame (.throwing q))) := by
  obtain ⟨mk, methM, hnamed, hmethM, hstM, habM⟩ := Cond.instanceMethod_spec hinst
  obtain ⟨m8, methM', cM, hn8, hmethM', -, -, -, -, -, -, hsigM⟩ := Cond.codeWith_spec hcode
  cases Option.some.inj (hn8.symm.trans hnamed)
  cases hmethM.symm.trans hmethM'
  obtain ⟨c2, r2, m2, q1, q2, q3, q4, kP, hkP, hkPi⟩ := Cond.selects_spec hsel
  cases hcls.symm.trans q1
  cases (State.methodFound?_of_named hnamed hy).symm.trans q2
  cases hnamed.symm.trans q3
  have hselP : selectMethod e.platform s.vm cellB.cls mk = .method mk := by rw [Launch.admits_selectMethod X.admits]; exact q4
  obtain ⟨vm₁, X₁, hstep₁⟩ := X.invokevirtual hexec hown hlink hnamed hmethM hstM hkP hkPi hy (a := b) (cell := cellB) hcell
    (fun z h => by rw [h] at hobj; cases hobj) hselP hmethM habM hkP hkPi (g := g) hg (argsL := argsL) (rest := rest) (hlen _ hsigM) hstack hdg
  rcases hK m meth c ⟨T.setVm vm₁, locs, cells, slots⟩ { g with stack := rest } (.invokevirtual index) mk (Value.ref b :: argsL).toArray X₁ hg hsize hdg hW (X₁.named hnamed) (hpre vm₁ X₁.warmed) with ⟨v, B, X', hpost, hsteps⟩ | ⟨q, B, X', hpost, hsteps⟩
  · exact Or.inl ⟨v, vm₁, B, X₁.warmed, X', hpost, fun target h => hstep₁ _ fun acts => by rw [doInvoke_state]; exact hsteps.trans h⟩
  · exact Or.inr ⟨q, vm₁, B, X₁.warmed, X', hpost, hstep₁ _ fun acts => by rw [doInvoke_state]; exact hsteps⟩
theorem vx_callSX (X : Stand p l e R s m args below meth c T locs cells slots) (hexec : p.tables.exec = Jvm.exec) {own : String} {index : Nat} {y : MethodName} {bytes : ByteArray} {maxL : Nat} {ret : Option FieldType} {hh : List (Nat × Nat × Nat × Nat)}
    (hown : s.vm.findClass own = some m.cls) (hlink : (Cond.methodLink own index y).before args s = true) (hstat : (Cond.static y).before args s = true) (hinit : (Cond.initialized y.cls).before args s = true)
    (hcode : (Cond.codeWith y bytes maxL ret hh).before args s = true) (hy : y.cls ≠ "java/lang/invoke/MethodHandle" ∧ y.cls ≠ "java/lang/invoke/VarHandle")
    {W9 : Nat} {Pre : Pt → Array Value → Prop} {Post : Pt → Array Value → Option Value → Pt → Prop} {PostX : Pt → Array Value → Addr → Pt → Prop} (hK : vx_Back l R p e below s args y 3 W9 Pre Post PostX)
    {g : JFrame} (hg : g.method = m) (hsize : g.locals.size = c.maxLocals) {argsL rest : List Value} (hlen : ∀ sig, parseMethodDescriptor y.desc = some sig → argsL.length = sig.parameters.length)
    (hstack : g.stack = argsL.reverse ++ rest) (hW : 2 * g.monitorRoom + (rest.map fun v => v.category).sum ≤ W9) (hdg : decode c.code g.pc = .ok (.invokestatic index, 3))
    (hpre : ∀ vm₁, s.WarmedH vm₁ → Pre ⟨T.setVm vm₁, locs, cells, slots⟩ argsL.toArray) :
    (∃ (v : Option Value) (vm₁ : Vm) (B : Pt), s.WarmedH vm₁ ∧ Stand p l e R s m args below meth c B.U B.locs B.cells B.slots ∧ Post ⟨T.setVm vm₁, locs, cells, slots⟩ argsL.toArray v B ∧
      ∀ target, Steps p.tables e below (B.U.setTop { g with pc := g.pc + 3, stack := v.toList ++ rest }) target → Steps p.tables e below (T.setTop g) target) ∨
    (∃ (q : Addr) (vm₁ : Vm) (B : Pt), s.WarmedH vm₁ ∧ Stand p l e R s m args below meth c B.U B.locs B.cells B.slots ∧ PostX ⟨T.setVm vm₁, locs, cells, slots⟩ argsL.toArray q B ∧
      Steps p.tables e below (T.setTop g) ((B.U.setTop { g with stack := rest }).pushFrame (.throwing q))) := by
  obtain ⟨mk, methM, cM, hnamed, hmethM, -, -, -, -, -, -, hsigM⟩ := Cond.codeWith_spec hcode
  have hstatic : methM.isStatic = true := Cond.static_spec hnamed hmethM hstat
  obtain ⟨kP, hkP, -⟩ := className_of_methodNamed hnamed
  have hinitP : kP.init = .initialized := Cond.initialized_spec (findClass_of_methodNamed hnamed) hkP hinit
  obtain ⟨vm₁, X₁, hstep₁⟩ := X.invokestatic hexec hown hlink hnamed hmethM hstatic hkP hinitP hy (g := g) hg (argsL := argsL) (rest := rest) (hlen _ hsigM) hstack hdg
  rcases hK m meth c ⟨T.setVm vm₁, locs, cells, slots⟩ { g with stack := rest } (.invokestatic index) mk argsL.toArray X₁ hg hsize hdg hW (X₁.named hnamed) (hpre vm₁ X₁.warmed) with ⟨v, B, X', hpost, hsteps⟩ | ⟨q, B, X', hpost, hsteps⟩
  · exact Or.inl ⟨v, vm₁, B, X₁.warmed, X', hpost, fun target h => hstep₁ _ fun acts => by rw [doInvoke_state]; exact hsteps.trans h⟩
  · exact Or.inr ⟨q, vm₁, B, X₁.warmed, X', hpost, hstep₁ _ fun acts => by rw [doInvoke_state]; exact hsteps⟩
theorem vx_callVW (X : Stand p l e R s m args below meth c T locs cells slots) (hexec : p.tables.exec = Jvm.exec) {own C : String} {index : Nat} {y : MethodName} {bytes : ByteArray} {maxL : Nat} {ret : Option FieldType} {hh : List (Nat × Nat × Nat × Nat)}
    (hown : s.vm.findClass own = some m.cls) (hlink : (Cond.methodLink own index y).before args s = true) (hinst : (Cond.instanceMethod y).before args s = true) (hsel : (Cond.selects C y y).before args s = true)
    (hcode : (Cond.codeWith y bytes maxL ret hh).before args s = true) (hy : y.cls ≠ "java/lang/invoke/MethodHandle" ∧ y.cls ≠ "java/lang/invoke/VarHandle")
    {W9 : Nat} {Pre : Pt → Array Value → Prop} {Post : Pt → Array Value → Option Value → Pt → Prop} (hK : Back l R p e below s args y 3 W9 Pre Post)
    {b : Addr} {cellB : Cell} (hcell : T.heap[b]? = some cellB) (hobj : cellB.vm.isStatics = false) (hcls : s.vm.findClass C = some cellB.cls)
    {g : JFrame} (hg : g.method = m) (hsize : g.locals.size = c.maxLocals) {argsL rest : List Value} (hlen : ∀ sig, parseMethodDescriptor y.desc = some sig → argsL.length = sig.parameters.length)
    (hstack : g.stack = argsL.reverse ++ .ref b :: rest) (hW : 2 * g.monitorRoom + (rest.map fun v => v.category).sum ≤ W9) (hdg : decode c.code g.pc = .ok (.invokevirtual index, 3))
    (hpre : ∀ vm₁, s.WarmedH vm₁ → Pre ⟨T.setVm vm₁, locs, cells, slots⟩ (Value.ref b :: argsL).toArray) :
    ∃ (v : Option Value) (vm₁ : Vm) (B : Pt), s.WarmedH vm₁ ∧ Stand p l e R s m args below meth c B.U B.locs B.cells B.slots ∧ Post ⟨T.setVm vm₁, locs, cells, slots⟩ (Value.ref b :: argsL).toArray v B ∧
      ∀ target, Steps p.tables e below (B.U.setTop { g with pc := g.pc + 3, stack := v.toList ++ rest }) target → Steps p.tables e below (T.setTop g) target := by
  obtain ⟨mk, methM, hnamed, hmethM, hstM, habM⟩ := Cond.instanceMethod_spec hinst
  obtain ⟨m8, methM', cM, hn8, hmethM', -, -, -, -, -, -, hsigM⟩ := Cond.codeWith_spec hcode
  cases Option.some.inj (hn8.symm.trans hnamed)
  cases hmethM.symm.trans hmethM'
  obtain ⟨c2, r2, m2, q1, q2, q3, q4, kP, hkP, hkPi⟩ := Cond.selects_spec hsel
  cases hcls.symm.trans q1
  cases (State.methodFound?_of_named hnamed hy).symm.trans q2
  cases hnamed.symm.trans q3
  have hselP : selectMethod e.platform s.vm cellB.cls mk = .method mk := by rw [Launch.admits_selectMethod X.admits]; exact q4
  obtain ⟨vm₁, X₁, hstep₁⟩ := X.invokevirtual hexec hown hlink hnamed hmethM hstM hkP hkPi hy (a := b) (cell := cellB) hcell
    (fun z h => by rw [h] at hobj; cases hobj) hselP hmethM habM hkP hkPi (g := g) hg (argsL := argsL) (rest := rest) (hlen _ hsigM) hstack hdg
  obtain ⟨v, B, X', hpost, hsteps⟩ := hK m meth c ⟨T.setVm vm₁, locs, cells, slots⟩ { g with stack := rest } (.invokevirtual index) mk (Value.ref b :: argsL).toArray X₁ hg hsize hdg hW (X₁.named hnamed) (hpre vm₁ X₁.warmed)
  exact ⟨v, vm₁, B, X₁.warmed, X', hpost, fun target h => hstep₁ _ fun acts => by rw [doInvoke_state]; exact hsteps.trans h⟩
abbrev vx_CVW (R : Room) (s : State) (args : Array Value) (own C : String) (index : Nat) (y : MethodName) (bytes : ByteArray) (maxL : Nat) (ret : Option FieldType) (hh : List (Nat × Nat × Nat × Nat)) (ws : List Cond) (rm : Room) (mc ms n : Nat) : Prop :=
  (rm.cells = mc ∧ rm.slots = ms ∧ rm.frames + 1 ≤ R.frames ∧ 8 + (maxL + 11) + rm.locals ≤ R.locals ∧ (∀ w ∈ ws, ∀ (a' : Array Value) (U : State), s.WarmedH U.vm → w.before a' U = true) ∧ Cond.codeWith y bytes maxL ret hh ∈ ws) ∧
  (Cond.codeWith y bytes maxL ret hh).before args s = true ∧ (Cond.initialized y.cls).before args s = true ∧ (y.cls ≠ "java/lang/invoke/MethodHandle" ∧ y.cls ≠ "java/lang/invoke/VarHandle") ∧
  (∀ sig, parseMethodDescriptor y.desc = some sig → n = sig.parameters.length) ∧ (Cond.methodLink own index y).before args s = true ∧ (Cond.instanceMethod y).before args s = true ∧ (Cond.selects C y y).before args s = true
theorem vx_cwVW {own C : String} {index maxL mc ms : Nat} {y : MethodName} {bytes : ByteArray} {ret : Option FieldType} {hh : List (Nat × Nat × Nat × Nat)} {Ts ws ws' : List Cond} {rm : Room} (n : Nat) (ht : ∀ w ∈ Ts, w.before args s = true) (hT : GoodIn Ts (wsV own index C y ws)) (hw : ws = Cond.codeWith y bytes maxL ret hh :: ws') (hrc : rm.cells = mc) (hrs : rm.slots = ms)
    (hd : y.cls = C ∧ y.cls ≠ "java/lang/invoke/MethodHandle" ∧ y.cls ≠ "java/lang/invoke/VarHandle" ∧ (parseMethodDescriptor y.desc).map (fun d => d.parameters.length) = some n) (hR : rm.frames + 1 ≤ R.frames ∧ 8 + (maxL + 11) + rm.locals ≤ R.locals) :
    vx_CVW R s args own C index y bytes maxL ret hh ws rm mc ms n := by
  obtain ⟨hC, hd⟩ := hd
  subst hC
  have ok : ∀ w ∈ wsV own index y.cls y ws, w.before args s = true := fun w h => ht w (hT w h).1
  have hG : GoodIn Ts ws := fun w h => hT w (by unfold wsV; exact List.mem_append_right _ h)
  have hc : Cond.codeWith y bytes maxL ret hh ∈ ws := by rw [hw]; exact List.mem_cons_self
  refine ⟨⟨hrc, hrs, hR.1, hR.2, pay_in ht hG, hc⟩, ht _ (hG _ hc).1, ok _ (by simp [wsV]), ⟨hd.1, hd.2.1⟩, fun sig h => ?_, ok _ (by simp [wsV]), ok _ (by simp [wsV]), ok _ (by simp [wsV])⟩
  have h2 := hd.2.2
  rw [h] at h2
  exact (Option.some.inj h2).symm
theorem vx_runVW {y : MethodName} {bytes cc : ByteArray} {maxL nL mc ms n index : Nat} {ret : Option FieldType} {hh : List (Nat × Nat × Nat × Nat)} {ws : List Cond} {rm : Room} {Pc : Array Value → State → Prop} {Qc : Array Value → State → Outcome → State → Prop} {free : Addr → Prop} {Ts : List Cond} {own C : String} {b : Addr} {As rest : List Value} {g : JFrame}
    (S : CallFix p m c cc nL s args Ts own) (hM : Met l y ws rm Pc Qc mc ms free) (cw : vx_CVW R s args own C index y bytes maxL ret hh ws rm mc ms n) (hp : PreV s H C b Pc As)
    (hg : g.method = m) (hn : As.length = n) (hsize : g.locals.size = nL) (hstack : g.stack = As.reverse ++ .ref b :: rest) (hW : 2 * g.monitorRoom + (rest.map fun v => v.category).sum ≤ 8) (hdg : decode cc g.pc = .ok (.invokevirtual index, 3)) (hf : cells + mc ≤ R.cells ∧ slots + ms ≤ R.slots) :
    va_Run p l e R s m args below meth c H locs cells slots mc ms g rest (Qc (Value.ref b :: As).toArray) free := by
  obtain ⟨⟨hrc, hrs, hfr, hlo, hws, hcw⟩, hcode, hini, hy, hlen, hl, hin, hse⟩ := cw
  have hK : Back l R p e below s args y 3 8 (PreOf R mc ms Pc) (PostOf Qc mc ms free) := va_backW (hh := hh) (bytes := bytes) (maxL := maxL) (ret := ret) hM hp.1 hrc hrs hfr hlo hws hcw (fun a' U hW => word_at hW (Or.inl (by first | rfl | simp [Cond.onTables, Cond.keeps, Cond.steady])) hini)
  obtain ⟨hx, hb, hml, ho, -⟩ := S
  obtain ⟨-, ⟨cellB, hcB, hoB, hclB⟩, hPc⟩ := hp
  intro T hT X
  obtain ⟨v, vm₁, ⟨U', l2, c2, s2⟩, hW₁, X', ⟨g', mk, t, L, e1, e2, hq, h1, hL, h2, h3⟩, st⟩ := vx_callVW X hx (C := C) (hh := hh) (bytes := bytes) (maxL := maxL) (ret := ret) ho hl hin hse hcode hy hK (by rw [hT]; exact hcB) hoB hclB hg (hsize.trans hml.symm) (argsL := As) (rest := rest) (fun sig h => hn.trans (hlen sig h)) hstack hW (by rw [hb]; exact hdg)
    (fun vm₁ hW₁ => ⟨hf.1, hf.2, hPc (T.setVm vm₁) hT hW₁⟩)
  dsimp only [Pt.U, Pt.locs, Pt.cells, Pt.slots] at X' e1 e2 h1 h2 h3 st
  subst h1; subst h2; subst h3
  exact ⟨v, (T.setVm vm₁).calling g' mk (Value.ref b :: As).toArray, t, U', L, hT, X', hL, e1, e2, hq, st⟩
section
variable {y : MethodName} {bytes cc : ByteArray} {maxL nL mc ms n index : Nat} {ret : Option FieldType} {ws : List Cond} {rm : Room} {Pc : Array Value → State → Prop} {Qc : Array Value → State → Outcome → State → Prop} {XC : String → State → State → Prop} {free : Addr → Prop} {Ts : List Cond} {own C : String} {b : Addr} {As rest : List Value} {g : JFrame}
theorem vx_runVX {hh : List (Nat × Nat × Nat × Nat)} (S : CallFix p m c cc nL s args Ts own) (hM : vx_Met l y ws rm Pc Qc XC mc ms free) (cw : vx_CVW R s args own C index y bytes maxL ret hh ws rm mc ms n) (hp : PreV s H C b Pc As)
    (hg : g.method = m) (hn : As.length = n) (hsize : g.locals.size = nL) (hstack : g.stack = As.reverse ++ .ref b :: rest) (hW : 2 * g.monitorRoom + (rest.map fun v => v.category).sum ≤ 8) (hdg : decode cc g.pc = .ok (.invokevirtual index, 3)) (hf : cells + mc ≤ R.cells ∧ slots + ms ≤ R.slots) :
    vx_Run p l e R s m args below meth c H locs cells slots mc ms g rest (Qc (Value.ref b :: As).toArray) XC free := by
  obtain ⟨⟨hrc, hrs, hfr, hlo, hws, hcw⟩, hcode, hini, hy, hlen, hl, hin, hse⟩ := cw
  have hK : vx_Back l R p e below s args y 3 8 (PreOf R mc ms Pc) (PostOf Qc mc ms free) (vx_Post XC mc ms free) := vx_backW (hh := hh) (bytes := bytes) (maxL := maxL) (ret := ret) hM hp.1 hrc hrs hfr hlo hws hcw (fun a' U hW => word_at hW (Or.inl (by first | rfl | simp [Cond.onTables, Cond.keeps, Cond.steady])) hini)
  obtain ⟨hx, hb, hml, ho, -⟩ := S
  obtain ⟨-, ⟨cellB, hcB, hoB, hclB⟩, hPc⟩ := hp
  intro T hT X
  rcases vx_callVX X hx (C := C) (hh := hh) (bytes := bytes) (maxL := maxL) (ret := ret) ho hl hin hse hcode hy hK (by rw [hT]; exact hcB) hoB hclB hg (hsize.trans hml.symm) (argsL := As) (rest := rest) (fun sig h => hn.trans (hlen sig h)) hstack hW (by rw [hb]; exact hdg)
    (fun vm₁ hW₁ => ⟨hf.1, hf.2, hPc (T.setVm vm₁) hT hW₁⟩) with ⟨v, vm₁, ⟨U', l2, c2, s2⟩, hW₁, X', ⟨g', mk, t, L, e1, e2, hq, h1, hL, h2, h3⟩, st⟩ | ⟨q, vm₁, ⟨U', l2, c2, s2⟩, hW₁, X', ⟨g', mk, t, L, E, ce, e1, e2, hq, hce, hcv, hcl, h1, hL, h2, h3⟩, st⟩
  · dsimp only [Pt.U, Pt.locs, Pt.cells, Pt.slots] at X' e1 e2 h1 h2 h3 st
    subst h1; subst h2; subst h3
    exact Or.inl ⟨v, (T.setVm vm₁).calling g' mk (Value.ref b :: As).toArray, t, U', L, hT, X', hL, e1, e2, hq, st⟩
  · dsimp only [Pt.U, Pt.locs, Pt.cells, Pt.slots] at X' e1 e2 h1 h2 h3 st hcl
    subst h1; subst h2; subst h3
    exact Or.inr ⟨q, (T.setVm vm₁).calling g' mk (Value.ref b :: As).toArray, t, U', L, E, ce, hT, X', hL, e1, e2, hq, hce, hcv, vx_cls hW₁ hcl, st⟩
theorem vx_runSX {hh : List (Nat × Nat × Nat × Nat)} (S : CallFix p m c cc nL s args Ts own) (hM : vx_Met l y ws rm Pc Qc XC mc ms free) (cw : vx_CSW R s args own index y bytes maxL ret hh ws rm mc ms n) (hp : PreS s H Pc As)
    (hg : g.method = m) (hn : As.length = n) (hsize : g.locals.size = nL) (hstack : g.stack = As.reverse ++ rest) (hW : 2 * g.monitorRoom + (rest.map fun v => v.category).sum ≤ 8) (hdg : decode cc g.pc = .ok (.invokestatic index, 3)) (hf : cells + mc ≤ R.cells ∧ slots + ms ≤ R.slots) :
    vx_Run p l e R s m args below meth c H locs cells slots mc ms g rest (Qc As.toArray) XC free := by
  obtain ⟨⟨hrc, hrs, hfr, hlo, hws, hcw⟩, hcode, hini, hy, hlen, hl, hstt⟩ := cw
  have hK : vx_Back l R p e below s args y 3 8 (PreOf R mc ms Pc) (PostOf Qc mc ms free) (vx_Post XC mc ms free) := vx_backW (hh := hh) (bytes := bytes) (maxL := maxL) (ret := ret) hM hp.1 hrc hrs hfr hlo hws hcw (fun a' U hW => word_at hW (Or.inl (by first | rfl | simp [Cond.onTables, Cond.keeps, Cond.steady])) hini)
  obtain ⟨hx, hb, hml, ho, -⟩ := S
  intro T hT X
  rcases vx_callSX X hx (hh := hh) (bytes := bytes) (maxL := maxL) (ret := ret) ho hl hstt hini hcode hy hK hg (hsize.trans hml.symm) (argsL := As) (rest := rest) (fun sig h => hn.trans (hlen sig h)) hstack hW (by rw [hb]; exact hdg)
    (fun vm₁ hW₁ => ⟨hf.1, hf.2, hp.2 (T.setVm vm₁) hT hW₁⟩) with ⟨v, vm₁, ⟨U', l2, c2, s2⟩, hW₁, X', ⟨g', mk, t, L, e1, e2, hq, h1, hL, h2, h3⟩, st⟩ | ⟨q, vm₁, ⟨U', l2, c2, s2⟩, hW₁, X', ⟨g', mk, t, L, E, ce, e1, e2, hq, hce, hcv, hcl, h1, hL, h2, h3⟩, st⟩
  · dsimp only [Pt.U, Pt.locs, Pt.cells, Pt.slots] at X' e1 e2 h1 h2 h3 st
    subst h1; subst h2; subst h3
    exact Or.inl ⟨v, (T.setVm vm₁).calling g' mk As.toArray, t, U', L, hT, X', hL, e1, e2, hq, st⟩
  · dsimp only [Pt.U, Pt.locs, Pt.cells, Pt.slots] at X' e1 e2 h1 h2 h3 st hcl
    subst h1; subst h2; subst h3
    exact Or.inr ⟨q, (T.setVm vm₁).calling g' mk As.toArray, t, U', L, E, ce, hT, X', hL, e1, e2, hq, hce, hcv, vx_cls hW₁ hcl, st⟩
end
end VXH
theorem vx_ofWH {l : Launch} {y : MethodName} {ws ws' : List Cond} {rm : Room} {Pc : Array Value → State → Prop} {Qc : Array Value → State → Outcome → State → Prop} {XC : String → State → State → Prop} {mc ms : Nat} {free : Addr → Prop} {cc : ByteArray} {maxL : Nat} {ret : Option FieldType} {hh : List (Nat × Nat × Nat × Nat)}
    (hy : plainName y.cls = true) (hw : ws = Cond.codeWith y cc maxL ret hh :: ws')
    (body : ∀ p e s m args below meth c s₁, BodyLoose p l y (headSpec ws rm) cc maxL ret e s m args below meth c s₁ → c.maxLocals = maxL → Pc args s →
      W p l e (headSpec ws rm).room s m args below meth c s.heap [] 0 0 (vx_MQ below Qc XC args s mc ms free) (entryFrame m args maxL)) : vx_Met l y ws rm Pc Qc XC mc ms free := by
  refine MetFree.of_bodyS (code := cc) (maxLocals := maxL) (ret := ret) hy ?_ ?_
  · intro args s m h hn
    obtain ⟨m9, meth, c, hn9, h1, h2, h3, h4, -, h5, h6, -⟩ := Cond.codeWith_spec (atoms_spec (ws := ws) h _ (by rw [hw]; exact List.mem_cons_self))
    cases hn.symm.trans hn9
    exact ⟨meth, c, h1, h2, h3, h4, h5, h6⟩
  · intro p e s m args below meth c s₁ B hml hP _
    have hh0 : s₁.heap = s.heap := by rw [B.state]; rfl
    obtain ⟨t, a1, o, b1, b2, b3⟩ := body p e s m args below meth c s₁ B hml hP s₁ hh0 (Stand.of_body B)
    exact ⟨t, o, a1, b1, b2, b3⟩
/-! ===== END ===== -/
end
section
/-! ===== BEGIN printed: names, fields, word lists, decode rows ===== -/
def RX0 : String := "SweepEqual$Design"
def TX0 : u_T := fun k => match k with
  | 0 => ("SweepEqual$Design", "outputs", "[I", true)
  | 1 => ("SweepEqual$Design", "nexts", "[I", true)
  | 2 => ("SweepEqual$Design", "shown", "[I", true)
  | 3 => ("SweepEqual$Design", "outputCount", "I", false)
  | 4 => ("SweepEqual$Design", "shownCount", "I", false)
  | 5 => ("SweepEqual$Design", "starts", "I", false)
  | _ => ("SweepEqual$Design", "states", "I", false)
def tyX0 : Nat → FieldType := fun k => match k with
  | 0 => .array .int
  | 1 => .array .int
  | 2 => .array .int
  | 3 => .int
  | 4 => .int
  | 5 => .int
  | _ => .int
abbrev wsX00 : List Cond := u_ws RX0 TX0 7
theorem nmX0 : ∀ a, a < 7 → ∀ b, b < 7 → a ≠ b → (TX0 a).2.1 ≠ (TX0 b).2.1 := by decide +kernel
theorem tyX0_ok : ∀ k, k < 7 → parseFieldDescriptor (TX0 k).2.2.1 = some (tyX0 k) := by decide +kernel
abbrev cX0_init : ByteArray := prog_2_method_1_code
def yX0_init : MethodName := ⟨RX0, "<init>", "()V"⟩
abbrev cX0_forget : ByteArray := prog_2_method_2_code
def yX0_forget : MethodName := ⟨RX0, "forget", "()V"⟩
abbrev cX0_addLatch : ByteArray := prog_2_method_3_code
def yX0_addLatch : MethodName := ⟨RX0, "addLatch", "(III)V"⟩
abbrev cX0_addOutput : ByteArray := prog_2_method_4_code
def yX0_addOutput : MethodName := ⟨RX0, "addOutput", "(I)I"⟩
abbrev cX0_backToStarts : ByteArray := prog_2_method_5_code
def yX0_backToStarts : MethodName := ⟨RX0, "backToStarts", "()V"⟩
abbrev cX0_runStep : ByteArray := prog_2_method_6_code
def yX0_runStep : MethodName := ⟨RX0, "runStep", "(LSweepEqual$Nodes;II)V"⟩
def RX1 : String := "SweepEqual$Nodes"
def TX1 : u_T := fun k => match k with
  | 0 => ("SweepEqual$Nodes", "count", "I", false)
  | 1 => ("SweepEqual$Nodes", "owners", "[I", true)
  | 2 => ("SweepEqual$Nodes", "firsts", "[I", true)
  | _ => ("SweepEqual$Nodes", "rows", "[J", false)
def tyX1 : Nat → FieldType := fun k => match k with
  | 0 => .int
  | 1 => .array .int
  | 2 => .array .int
  | _ => .array .long
abbrev wsX10 : List Cond := u_ws RX1 TX1 4
theorem nmX1 : ∀ a, a < 4 → ∀ b, b < 4 → a ≠ b → (TX1 a).2.1 ≠ (TX1 b).2.1 := by decide +kernel
theorem tyX1_ok : ∀ k, k < 4 → parseFieldDescriptor (TX1 k).2.2.1 = some (tyX1 k) := by decide +kernel
abbrev cX1_init : ByteArray := prog_3_method_1_code
def yX1_init : MethodName := ⟨RX1, "<init>", "()V"⟩
abbrev cX1_forget : ByteArray := prog_3_method_2_code
def yX1_forget : MethodName := ⟨RX1, "forget", "()V"⟩
abbrev cX1_addVariable : ByteArray := prog_3_method_3_code
def yX1_addVariable : MethodName := ⟨RX1, "addVariable", "(I)I"⟩
abbrev cX1_addAnd : ByteArray := prog_3_method_4_code
def yX1_addAnd : MethodName := ⟨RX1, "addAnd", "(III)I"⟩
abbrev cX1_isOfOtherSide : ByteArray := prog_3_method_5_code
def yX1_isOfOtherSide : MethodName := ⟨RX1, "isOfOtherSide", "(II)Z"⟩
abbrev cX1_firstOf : ByteArray := prog_3_method_6_code
def yX1_firstOf : MethodName := ⟨RX1, "firstOf", "(I)I"⟩
abbrev cX1_areSame : ByteArray := prog_3_method_7_code
def yX1_areSame : MethodName := ⟨RX1, "areSame", "(II)Z"⟩
abbrev cX1_countClasses : ByteArray := prog_3_method_8_code
def yX1_countClasses : MethodName := ⟨RX1, "countClasses", "()I"⟩
abbrev cX1_countMerged : ByteArray := prog_3_method_9_code
def yX1_countMerged : MethodName := ⟨RX1, "countMerged", "(I)I"⟩
abbrev cX1_countAnds : ByteArray := prog_3_method_10_code
def yX1_countAnds : MethodName := ⟨RX1, "countAnds", "(I)I"⟩
abbrev cX1_countOnes : ByteArray := prog_3_method_11_code
def yX1_countOnes : MethodName := ⟨RX1, "countOnes", "(I)I"⟩
abbrev cX1_valueIn : ByteArray := prog_3_method_12_code
def yX1_valueIn : MethodName := ⟨RX1, "valueIn", "(II)I"⟩
abbrev cX1_supportOf : ByteArray := prog_3_method_13_code
def yX1_supportOf : MethodName := ⟨RX1, "supportOf", "(I)I"⟩
abbrev cX1_leastDifference : ByteArray := prog_3_method_14_code
def yX1_leastDifference : MethodName := ⟨RX1, "leastDifference", "(II)I"⟩
abbrev cX1_growRows : ByteArray := prog_3_method_15_code
def yX1_growRows : MethodName := ⟨RX1, "growRows", "()V"⟩
abbrev cX1_settle : ByteArray := prog_3_method_16_code
def yX1_settle : MethodName := ⟨RX1, "settle", "(I)I"⟩
abbrev cX1_findFirst : ByteArray := prog_3_method_17_code
def yX1_findFirst : MethodName := ⟨RX1, "findFirst", "(I)I"⟩
abbrev cX1_isLeast : ByteArray := prog_3_method_18_code
def yX1_isLeast : MethodName := ⟨RX1, "isLeast", "(I)Z"⟩
abbrev cX1_hangsOn : ByteArray := prog_3_method_19_code
def yX1_hangsOn : MethodName := ⟨RX1, "hangsOn", "(II)Z"⟩
abbrev cX1_wordHangsOn : ByteArray := prog_3_method_20_code
def yX1_wordHangsOn : MethodName := ⟨RX1, "wordHangsOn", "(III)Z"⟩
abbrev cX1_wordOf : ByteArray := prog_3_method_21_code
def yX1_wordOf : MethodName := ⟨RX1, "wordOf", "(II)J"⟩
abbrev cX1_variableWord : ByteArray := prog_3_method_22_code
def yX1_variableWord : MethodName := ⟨RX1, "variableWord", "(II)J"⟩
def RX2 : String := "SweepEqual"
def TX2 : u_T := fun k => match k with
  | 0 => ("SweepEqual", "nodes", "LSweepEqual$Nodes;", true)
  | 1 => ("SweepEqual", "designA", "LSweepEqual$Design;", true)
  | 2 => ("SweepEqual", "designB", "LSweepEqual$Design;", true)
  | 3 => ("SweepEqual", "inputCount", "I", false)
  | 4 => ("SweepEqual", "latchCount", "I", false)
  | 5 => ("SweepEqual", "steps", "I", false)
  | _ => ("SweepEqual", "apartStep", "I", false)
def tyX2 : Nat → FieldType := fun k => match k with
  | 0 => .object "SweepEqual$Nodes"
  | 1 => .object "SweepEqual$Design"
  | 2 => .object "SweepEqual$Design"
  | 3 => .int
  | 4 => .int
  | 5 => .int
  | _ => .int
abbrev wsX20 : List Cond := u_ws RX2 TX2 7
theorem nmX2 : ∀ a, a < 7 → ∀ b, b < 7 → a ≠ b → (TX2 a).2.1 ≠ (TX2 b).2.1 := by decide +kernel
theorem tyX2_ok : ∀ k, k < 7 → parseFieldDescriptor (TX2 k).2.2.1 = some (tyX2 k) := by decide +kernel
abbrev cX2_init : ByteArray := prog_1_method_1_code
def yX2_init : MethodName := ⟨RX2, "<init>", "()V"⟩
abbrev cX2_input : ByteArray := prog_1_method_2_code
def yX2_input : MethodName := ⟨RX2, "input", "()I"⟩
abbrev cX2_latch : ByteArray := prog_1_method_3_code
def yX2_latch : MethodName := ⟨RX2, "latch", "(II)I"⟩
abbrev cX2_and : ByteArray := prog_1_method_4_code
def yX2_and : MethodName := ⟨RX2, "and", "(III)I"⟩
abbrev cX2_output : ByteArray := prog_1_method_5_code
def yX2_output : MethodName := ⟨RX2, "output", "(II)I"⟩
abbrev cX2_next : ByteArray := prog_1_method_6_code
def yX2_next : MethodName := ⟨RX2, "next", "(III)I"⟩
abbrev cX2_same : ByteArray := prog_1_method_7_code
def yX2_same : MethodName := ⟨RX2, "same", "(II)Z"⟩
abbrev cX2_first : ByteArray := prog_1_method_8_code
def yX2_first : MethodName := ⟨RX2, "first", "(I)I"⟩
abbrev cX2_classes : ByteArray := prog_1_method_9_code
def yX2_classes : MethodName := ⟨RX2, "classes", "()I"⟩
abbrev cX2_merged : ByteArray := prog_1_method_10_code
def yX2_merged : MethodName := ⟨RX2, "merged", "(I)I"⟩
abbrev cX2_hangs : ByteArray := prog_1_method_11_code
def yX2_hangs : MethodName := ⟨RX2, "hangs", "(I)I"⟩
abbrev cX2_ones : ByteArray := prog_1_method_12_code
def yX2_ones : MethodName := ⟨RX2, "ones", "(I)I"⟩
abbrev cX2_value : ByteArray := prog_1_method_13_code
def yX2_value : MethodName := ⟨RX2, "value", "(II)I"⟩
abbrev cX2_differs : ByteArray := prog_1_method_14_code
def yX2_differs : MethodName := ⟨RX2, "differs", "(I)I"⟩
abbrev cX2_witness : ByteArray := prog_1_method_15_code
def yX2_witness : MethodName := ⟨RX2, "witness", "(I)I"⟩
abbrev cX2_reset : ByteArray := prog_1_method_16_code
def yX2_reset : MethodName := ⟨RX2, "reset", "()V"⟩
abbrev cX2_step : ByteArray := prog_1_method_17_code
def yX2_step : MethodName := ⟨RX2, "step", "(I)I"⟩
abbrev cX2_out : ByteArray := prog_1_method_18_code
def yX2_out : MethodName := ⟨RX2, "out", "(II)I"⟩
abbrev cX2_state : ByteArray := prog_1_method_19_code
def yX2_state : MethodName := ⟨RX2, "state", "(II)I"⟩
abbrev cX2_apart : ByteArray := prog_1_method_20_code
def yX2_apart : MethodName := ⟨RX2, "apart", "()I"⟩
abbrev cX2_count : ByteArray := prog_1_method_21_code
def yX2_count : MethodName := ⟨RX2, "count", "(I)I"⟩
abbrev cX2_clear : ByteArray := prog_1_method_22_code
def yX2_clear : MethodName := ⟨RX2, "clear", "()V"⟩
abbrev cX2_needSide : ByteArray := prog_1_method_23_code
def yX2_needSide : MethodName := ⟨RX2, "needSide", "(I)V"⟩
abbrev cX2_needLiteral : ByteArray := prog_1_method_24_code
def yX2_needLiteral : MethodName := ⟨RX2, "needLiteral", "(I)V"⟩
abbrev cX2_needLatch : ByteArray := prog_1_method_25_code
def yX2_needLatch : MethodName := ⟨RX2, "needLatch", "(I)V"⟩
abbrev cX2_needStart : ByteArray := prog_1_method_26_code
def yX2_needStart : MethodName := ⟨RX2, "needStart", "(I)V"⟩
abbrev cX2_needRoomForNode : ByteArray := prog_1_method_27_code
def yX2_needRoomForNode : MethodName := ⟨RX2, "needRoomForNode", "()V"⟩
abbrev cX2_needOwn : ByteArray := prog_1_method_28_code
def yX2_needOwn : MethodName := ⟨RX2, "needOwn", "(II)V"⟩
abbrev cX2_designOf : ByteArray := prog_1_method_29_code
def yX2_designOf : MethodName := ⟨RX2, "designOf", "(I)LSweepEqual$Design;"⟩
abbrev cX2_backToStarts : ByteArray := prog_1_method_30_code
def yX2_backToStarts : MethodName := ⟨RX2, "backToStarts", "()V"⟩
abbrev cX2_sharedOutputs : ByteArray := prog_1_method_31_code
def yX2_sharedOutputs : MethodName := ⟨RX2, "sharedOutputs", "()I"⟩
abbrev cX2_countDifferent : ByteArray := prog_1_method_32_code
def yX2_countDifferent : MethodName := ⟨RX2, "countDifferent", "([I[II)I"⟩
abbrev cX2_placeOfDifferent : ByteArray := prog_1_method_33_code
def yX2_placeOfDifferent : MethodName := ⟨RX2, "placeOfDifferent", "([I[III)I"⟩
abbrev cX2_differentStartOrSize : ByteArray := prog_1_method_34_code
def yX2_differentStartOrSize : MethodName := ⟨RX2, "differentStartOrSize", "(I)I"⟩
abbrev cX2_showApart : ByteArray := prog_1_method_35_code
def yX2_showApart : MethodName := ⟨RX2, "showApart", "()Z"⟩
def RX3 : String := "SweepEqualModel"
def TX3 : u_T := fun k => match k with
  | 0 => ("SweepEqualModel", "thrown", "I", false)
  | 1 => ("SweepEqualModel", "nodes", "I", false)
  | 2 => ("SweepEqualModel", "sides", "[I", true)
  | 3 => ("SweepEqualModel", "tables", "[J", true)
  | 4 => ("SweepEqualModel", "inputs", "I", false)
  | 5 => ("SweepEqualModel", "latches", "I", false)
  | 6 => ("SweepEqualModel", "latchNodes", "[I", true)
  | 7 => ("SweepEqualModel", "starts", "[I", true)
  | 8 => ("SweepEqualModel", "nexts", "[I", true)
  | 9 => ("SweepEqualModel", "states", "[I", true)
  | 10 => ("SweepEqualModel", "outputCounts", "[I", true)
  | 11 => ("SweepEqualModel", "outputs", "[I", true)
  | 12 => ("SweepEqualModel", "told", "[I", true)
  | 13 => ("SweepEqualModel", "toldCounts", "[I", true)
  | 14 => ("SweepEqualModel", "steps", "I", false)
  | _ => ("SweepEqualModel", "firstApart", "I", false)
def tyX3 : Nat → FieldType := fun k => match k with
  | 0 => .int
  | 1 => .int
  | 2 => .array .int
  | 3 => .array .long
  | 4 => .int
  | 5 => .int
  | 6 => .array .int
  | 7 => .array .int
  | 8 => .array .int
  | 9 => .array .int
  | 10 => .array .int
  | 11 => .array .int
  | 12 => .array .int
  | 13 => .array .int
  | 14 => .int
  | _ => .int
abbrev wsX30 : List Cond := u_ws RX3 TX3 16
theorem nmX3 : ∀ a, a < 16 → ∀ b, b < 16 → a ≠ b → (TX3 a).2.1 ≠ (TX3 b).2.1 := by decide +kernel
theorem tyX3_ok : ∀ k, k < 16 → parseFieldDescriptor (TX3 k).2.2.1 = some (tyX3 k) := by decide +kernel
abbrev cX3_init : ByteArray := prog_5_method_1_code
def yX3_init : MethodName := ⟨RX3, "<init>", "()V"⟩
abbrev cX3_thrown : ByteArray := prog_5_method_2_code
def yX3_thrown : MethodName := ⟨RX3, "thrown", "()I"⟩
abbrev cX3_isIn : ByteArray := prog_5_method_3_code
def yX3_isIn : MethodName := ⟨RX3, "isIn", "(II)Z"⟩
abbrev cX3_isLiteral : ByteArray := prog_5_method_4_code
def yX3_isLiteral : MethodName := ⟨RX3, "isLiteral", "(I)Z"⟩
abbrev cX3_isSide : ByteArray := prog_5_method_5_code
def yX3_isSide : MethodName := ⟨RX3, "isSide", "(I)Z"⟩
abbrev cX3_present : ByteArray := prog_5_method_6_code
def yX3_present : MethodName := ⟨RX3, "present", "()I"⟩
abbrev cX3_bit : ByteArray := prog_5_method_7_code
def yX3_bit : MethodName := ⟨RX3, "bit", "(II)I"⟩
abbrev cX3_variable : ByteArray := prog_5_method_8_code
def yX3_variable : MethodName := ⟨RX3, "variable", "(I)I"⟩
abbrev cX3_input : ByteArray := prog_5_method_9_code
def yX3_input : MethodName := ⟨RX3, "input", "()I"⟩
abbrev cX3_latch : ByteArray := prog_5_method_10_code
def yX3_latch : MethodName := ⟨RX3, "latch", "(II)I"⟩
abbrev cX3_isOther : ByteArray := prog_5_method_11_code
def yX3_isOther : MethodName := ⟨RX3, "isOther", "(II)Z"⟩
abbrev cX3_and : ByteArray := prog_5_method_12_code
def yX3_and : MethodName := ⟨RX3, "and", "(III)I"⟩
abbrev cX3_output : ByteArray := prog_5_method_13_code
def yX3_output : MethodName := ⟨RX3, "output", "(II)I"⟩
abbrev cX3_next : ByteArray := prog_5_method_14_code
def yX3_next : MethodName := ⟨RX3, "next", "(III)I"⟩
abbrev cX3_areSame : ByteArray := prog_5_method_15_code
def yX3_areSame : MethodName := ⟨RX3, "areSame", "(II)Z"⟩
abbrev cX3_same : ByteArray := prog_5_method_16_code
def yX3_same : MethodName := ⟨RX3, "same", "(II)Z"⟩
abbrev cX3_firstOf : ByteArray := prog_5_method_17_code
def yX3_firstOf : MethodName := ⟨RX3, "firstOf", "(I)I"⟩
abbrev cX3_first : ByteArray := prog_5_method_18_code
def yX3_first : MethodName := ⟨RX3, "first", "(I)I"⟩
abbrev cX3_isLeast : ByteArray := prog_5_method_19_code
def yX3_isLeast : MethodName := ⟨RX3, "isLeast", "(I)Z"⟩
abbrev cX3_classes : ByteArray := prog_5_method_20_code
def yX3_classes : MethodName := ⟨RX3, "classes", "()I"⟩
abbrev cX3_merged : ByteArray := prog_5_method_21_code
def yX3_merged : MethodName := ⟨RX3, "merged", "(I)I"⟩
abbrev cX3_hangs : ByteArray := prog_5_method_22_code
def yX3_hangs : MethodName := ⟨RX3, "hangs", "(I)I"⟩
abbrev cX3_ones : ByteArray := prog_5_method_23_code
def yX3_ones : MethodName := ⟨RX3, "ones", "(I)I"⟩
abbrev cX3_value : ByteArray := prog_5_method_24_code
def yX3_value : MethodName := ⟨RX3, "value", "(II)I"⟩
abbrev cX3_both : ByteArray := prog_5_method_25_code
def yX3_both : MethodName := ⟨RX3, "both", "()I"⟩
abbrev cX3_isApart : ByteArray := prog_5_method_26_code
def yX3_isApart : MethodName := ⟨RX3, "isApart", "(I)Z"⟩
abbrev cX3_differs : ByteArray := prog_5_method_27_code
def yX3_differs : MethodName := ⟨RX3, "differs", "(I)I"⟩
abbrev cX3_witness : ByteArray := prog_5_method_28_code
def yX3_witness : MethodName := ⟨RX3, "witness", "(I)I"⟩
abbrev cX3_start : ByteArray := prog_5_method_29_code
def yX3_start : MethodName := ⟨RX3, "start", "()V"⟩
abbrev cX3_reset : ByteArray := prog_5_method_30_code
def yX3_reset : MethodName := ⟨RX3, "reset", "()V"⟩
abbrev cX3_assignment : ByteArray := prog_5_method_31_code
def yX3_assignment : MethodName := ⟨RX3, "assignment", "(II)I"⟩
abbrev cX3_step : ByteArray := prog_5_method_32_code
def yX3_step : MethodName := ⟨RX3, "step", "(I)I"⟩
abbrev cX3_out : ByteArray := prog_5_method_33_code
def yX3_out : MethodName := ⟨RX3, "out", "(II)I"⟩
abbrev cX3_state : ByteArray := prog_5_method_34_code
def yX3_state : MethodName := ⟨RX3, "state", "(II)I"⟩
abbrev cX3_apart : ByteArray := prog_5_method_35_code
def yX3_apart : MethodName := ⟨RX3, "apart", "()I"⟩
abbrev cX3_ands : ByteArray := prog_5_method_36_code
def yX3_ands : MethodName := ⟨RX3, "ands", "(I)I"⟩
abbrev cX3_count : ByteArray := prog_5_method_37_code
def yX3_count : MethodName := ⟨RX3, "count", "(I)I"⟩
abbrev cX3_clear : ByteArray := prog_5_method_38_code
def yX3_clear : MethodName := ⟨RX3, "clear", "()V"⟩
def RJx8e188 : String := "java/lang/Cloneable"
def TJx8e188 : u_T := fun k => match k with
  | _ => ("", "", "", false)
def tyJx8e188 : Nat → FieldType := fun k => match k with
  | _ => .int
abbrev wsJx8e1880 : List Cond := u_ws RJx8e188 TJx8e188 0
theorem nmJx8e188 : ∀ a, a < 0 → ∀ b, b < 0 → a ≠ b → (TJx8e188 a).2.1 ≠ (TJx8e188 b).2.1 := by decide +kernel
theorem tyJx8e188_ok : ∀ k, k < 0 → parseFieldDescriptor (TJx8e188 k).2.2.1 = some (tyJx8e188 k) := by decide +kernel
def RJ6 : String := "java/lang/Integer"
def TJ6 : u_T := fun k => match k with
  | _ => ("", "", "", false)
def tyJ6 : Nat → FieldType := fun k => match k with
  | _ => .int
abbrev wsJ60 : List Cond := u_ws RJ6 TJ6 0
theorem nmJ6 : ∀ a, a < 0 → ∀ b, b < 0 → a ≠ b → (TJ6 a).2.1 ≠ (TJ6 b).2.1 := by decide +kernel
theorem tyJ6_ok : ∀ k, k < 0 → parseFieldDescriptor (TJ6 k).2.2.1 = some (tyJ6 k) := by decide +kernel
abbrev cJ6_numberOfTrailingZeros_0f7a4 : ByteArray := prog_11_method_48_code
def yJ6_numberOfTrailingZeros_0f7a4 : MethodName := ⟨RJ6, "numberOfTrailingZeros", "(I)I"⟩
def RJ13 : String := "java/lang/Long"
def TJ13 : u_T := fun k => match k with
  | _ => ("", "", "", false)
def tyJ13 : Nat → FieldType := fun k => match k with
  | _ => .int
abbrev wsJ130 : List Cond := u_ws RJ13 TJ13 0
theorem nmJ13 : ∀ a, a < 0 → ∀ b, b < 0 → a ≠ b → (TJ13 a).2.1 ≠ (TJ13 b).2.1 := by decide +kernel
theorem tyJ13_ok : ∀ k, k < 0 → parseFieldDescriptor (TJ13 k).2.2.1 = some (tyJ13 k) := by decide +kernel
abbrev cJ13_numberOfTrailingZeros_95d88 : ByteArray := prog_12_method_49_code
def yJ13_numberOfTrailingZeros_95d88 : MethodName := ⟨RJ13, "numberOfTrailingZeros", "(J)I"⟩
abbrev cJ13_bitCount_95d88 : ByteArray := prog_12_method_50_code
def yJ13_bitCount_95d88 : MethodName := ⟨RJ13, "bitCount", "(J)I"⟩
def RJ9 : String := "java/lang/Math"
def TJ9 : u_T := fun k => match k with
  | _ => ("", "", "", false)
def tyJ9 : Nat → FieldType := fun k => match k with
  | _ => .int
abbrev wsJ90 : List Cond := u_ws RJ9 TJ9 0
theorem nmJ9 : ∀ a, a < 0 → ∀ b, b < 0 → a ≠ b → (TJ9 a).2.1 ≠ (TJ9 b).2.1 := by decide +kernel
theorem tyJ9_ok : ∀ k, k < 0 → parseFieldDescriptor (TJ9 k).2.2.1 = some (tyJ9 k) := by decide +kernel
abbrev cJ9_min_7cf53 : ByteArray := prog_13_method_69_code
def yJ9_min_7cf53 : MethodName := ⟨RJ9, "min", "(II)I"⟩
def RJ0 : String := "java/lang/String"
def TJ0 : u_T := fun k => match k with
  | _ => ("", "", "", false)
def tyJ0 : Nat → FieldType := fun k => match k with
  | _ => .int
abbrev wsJ00 : List Cond := u_ws RJ0 TJ0 0
theorem nmJ0 : ∀ a, a < 0 → ∀ b, b < 0 → a ≠ b → (TJ0 a).2.1 ≠ (TJ0 b).2.1 := by decide +kernel
theorem tyJ0_ok : ∀ k, k < 0 → parseFieldDescriptor (TJ0 k).2.2.1 = some (tyJ0 k) := by decide +kernel
def RJ10 : String := "java/lang/System"
def TJ10 : u_T := fun k => match k with
  | _ => ("", "", "", false)
def tyJ10 : Nat → FieldType := fun k => match k with
  | _ => .int
abbrev wsJ100 : List Cond := u_ws RJ10 TJ10 0
theorem nmJ10 : ∀ a, a < 0 → ∀ b, b < 0 → a ≠ b → (TJ10 a).2.1 ≠ (TJ10 b).2.1 := by decide +kernel
theorem tyJ10_ok : ∀ k, k < 0 → parseFieldDescriptor (TJ10 k).2.2.1 = some (tyJ10 k) := by decide +kernel
def RJ7 : String := "java/util/Arrays"
def TJ7 : u_T := fun k => match k with
  | _ => ("", "", "", false)
def tyJ7 : Nat → FieldType := fun k => match k with
  | _ => .int
abbrev wsJ70 : List Cond := u_ws RJ7 TJ7 0
theorem nmJ7 : ∀ a, a < 0 → ∀ b, b < 0 → a ≠ b → (TJ7 a).2.1 ≠ (TJ7 b).2.1 := by decide +kernel
theorem tyJ7_ok : ∀ k, k < 0 → parseFieldDescriptor (TJ7 k).2.2.1 = some (tyJ7 k) := by decide +kernel
abbrev cJ7_copyOf_c38d5 : ByteArray := prog_18_method_124_code
def yJ7_copyOf_c38d5 : MethodName := ⟨RJ7, "copyOf", "([JI)[J"⟩
def RL : String := "SweepEqualLaw"
abbrev cL_input : ByteArray := method_3_code
def yL_input : MethodName := ⟨RL, "input", "(LSweepEqual;[J)I"⟩
abbrev cL_latch : ByteArray := method_4_code
def yL_latch : MethodName := ⟨RL, "latch", "(LSweepEqual;II[J)I"⟩
abbrev cL_and : ByteArray := method_5_code
def yL_and : MethodName := ⟨RL, "and", "(LSweepEqual;III[J)I"⟩
abbrev cL_output : ByteArray := method_6_code
def yL_output : MethodName := ⟨RL, "output", "(LSweepEqual;II[J)I"⟩
abbrev cL_next : ByteArray := method_7_code
def yL_next : MethodName := ⟨RL, "next", "(LSweepEqual;III[J)I"⟩
abbrev cL_same : ByteArray := method_8_code
def yL_same : MethodName := ⟨RL, "same", "(LSweepEqual;II[J)I"⟩
abbrev cL_first : ByteArray := method_9_code
def yL_first : MethodName := ⟨RL, "first", "(LSweepEqual;I[J)I"⟩
abbrev cL_merged : ByteArray := method_10_code
def yL_merged : MethodName := ⟨RL, "merged", "(LSweepEqual;I[J)I"⟩
abbrev cL_hangs : ByteArray := method_11_code
def yL_hangs : MethodName := ⟨RL, "hangs", "(LSweepEqual;I[J)I"⟩
abbrev cL_ones : ByteArray := method_12_code
def yL_ones : MethodName := ⟨RL, "ones", "(LSweepEqual;I[J)I"⟩
abbrev cL_value : ByteArray := method_13_code
def yL_value : MethodName := ⟨RL, "value", "(LSweepEqual;II[J)I"⟩
abbrev cL_differs : ByteArray := method_14_code
def yL_differs : MethodName := ⟨RL, "differs", "(LSweepEqual;I[J)I"⟩
abbrev cL_witness : ByteArray := method_15_code
def yL_witness : MethodName := ⟨RL, "witness", "(LSweepEqual;I[J)I"⟩
abbrev cL_out : ByteArray := method_16_code
def yL_out : MethodName := ⟨RL, "out", "(LSweepEqual;II[J)I"⟩
abbrev cL_state : ByteArray := method_17_code
def yL_state : MethodName := ⟨RL, "state", "(LSweepEqual;II[J)I"⟩
abbrev cL_count : ByteArray := method_18_code
def yL_count : MethodName := ⟨RL, "count", "(LSweepEqual;I[J)I"⟩
abbrev cL_law : ByteArray := code
def yL_law : MethodName := ⟨RL, "law", "([I)Z"⟩
def wsX0_init : List Cond := .code yX0_init cX0_init 1 none :: ([.methodLink RX0 3 objectInit, .instanceMethod objectInit, .code objectInit ⟨#[0xb1]⟩ 1 none, .arrayClass .int, .fieldLink RX0 9 "SweepEqual$Design" "outputs" "[I", .fieldLink RX0 15 "SweepEqual$Design" "nexts" "[I", .fieldLink RX0 18 "SweepEqual$Design" "shown" "[I"] ++ wsX00)
def wsX0_forget : List Cond := .code yX0_forget cX0_forget 1 none :: ([.fieldLink RX0 21 "SweepEqual$Design" "outputCount" "I", .fieldLink RX0 25 "SweepEqual$Design" "starts" "I"] ++ wsX00)
def wsX0_addLatch : List Cond := .code yX0_addLatch cX0_addLatch 4 none :: ([.fieldLink RX0 25 "SweepEqual$Design" "starts" "I", .fieldLink RX0 15 "SweepEqual$Design" "nexts" "[I"] ++ wsX00)
def wsX0_addOutput : List Cond := .code yX0_addOutput cX0_addOutput 2 (some .int) :: ([.fieldLink RX0 9 "SweepEqual$Design" "outputs" "[I", .fieldLink RX0 21 "SweepEqual$Design" "outputCount" "I"] ++ wsX00)
def wsX0_backToStarts : List Cond := .code yX0_backToStarts cX0_backToStarts 1 none :: ([.fieldLink RX0 25 "SweepEqual$Design" "starts" "I", .fieldLink RX0 28 "SweepEqual$Design" "states" "I", .fieldLink RX0 31 "SweepEqual$Design" "shownCount" "I"] ++ wsX00)
def wsX1_wordOf : List Cond := .code yX1_wordOf cX1_wordOf 5 (some .long) :: ([.fieldLink RX1 22 "SweepEqual$Nodes" "rows" "[J", .constantLong RX1 88 (-1)] ++ wsX10)
def wsX1_valueIn : List Cond := .code yX1_valueIn cX1_valueIn 4 (some .int) :: ([.methodLink RX1 37 yX1_wordOf, .instanceMethod yX1_wordOf, .selects RX1 yX1_wordOf yX1_wordOf, .initialized RX1, .code yX1_wordOf cX1_wordOf 5 (some .long), .fieldLink RX1 22 "SweepEqual$Nodes" "rows" "[J", .constantLong RX1 88 (-1)] ++ wsX10)
def wsX0_runStep : List Cond := .code yX0_runStep cX0_runStep 7 none :: ([.fieldLink RX0 28 "SweepEqual$Design" "states" "I", .fieldLink RX0 21 "SweepEqual$Design" "outputCount" "I", .fieldLink RX0 18 "SweepEqual$Design" "shown" "[I", .fieldLink RX0 9 "SweepEqual$Design" "outputs" "[I", .fieldLink RX0 31 "SweepEqual$Design" "shownCount" "I", .fieldLink RX0 15 "SweepEqual$Design" "nexts" "[I", .methodLink RX0 34 yX1_valueIn, .instanceMethod yX1_valueIn, .selects RX1 yX1_valueIn yX1_valueIn, .initialized RX1, .code yX1_valueIn cX1_valueIn 4 (some .int), .methodLink RX1 37 yX1_wordOf, .instanceMethod yX1_wordOf, .selects RX1 yX1_wordOf yX1_wordOf, .code yX1_wordOf cX1_wordOf 5 (some .long), .fieldLink RX1 22 "SweepEqual$Nodes" "rows" "[J", .constantLong RX1 88 (-1)] ++ wsX00 ++ wsX10)
def wsX1_init : List Cond := .code yX1_init cX1_init 1 none :: ([.methodLink RX1 5 objectInit, .instanceMethod objectInit, .code objectInit ⟨#[0xb1]⟩ 1 none, .fieldLink RX1 11 "SweepEqual$Nodes" "count" "I", .arrayClass .int, .fieldLink RX1 15 "SweepEqual$Nodes" "owners" "[I", .fieldLink RX1 19 "SweepEqual$Nodes" "firsts" "[I", .arrayClass .long, .fieldLink RX1 22 "SweepEqual$Nodes" "rows" "[J"] ++ wsX10)
def wsX1_forget : List Cond := .code yX1_forget cX1_forget 1 none :: ([.fieldLink RX1 11 "SweepEqual$Nodes" "count" "I"] ++ wsX10)
def wsJ7_copyOf_c38d5 : List Cond := .code yJ7_copyOf_c38d5 cJ7_copyOf_c38d5 3 (some (.array .long)) :: ([.methodLink RJ7 319 ⟨"[J", "clone", "()Ljava/lang/Object;"⟩, .sameMethod "[J" "java/lang/Object" "clone" "()Ljava/lang/Object;", .native ⟨"java/lang/Object", "clone", "()Ljava/lang/Object;"⟩, .instanceMethod ⟨"java/lang/Object", "clone", "()Ljava/lang/Object;"⟩, .selects "[J" ⟨"[J", "clone", "()Ljava/lang/Object;"⟩ ⟨"java/lang/Object", "clone", "()Ljava/lang/Object;"⟩, .classLink RJ7 320 "[J", .arrayClass .long, .methodLink RJ7 304 Lib.Math.min.name, .static Lib.Math.min.name, .initialized "java/lang/Math", .code Lib.Math.min.name Lib.Math.min.code 2 (some .int), .methodLink RJ7 150 arraycopyName, .native arraycopyName, .static arraycopyName, .initialized "java/lang/System"])
def wsX1_growRows : List Cond := .code yX1_growRows cX1_growRows 1 none :: ([.fieldLink RX1 11 "SweepEqual$Nodes" "count" "I", .fieldLink RX1 22 "SweepEqual$Nodes" "rows" "[J", .methodLink RX1 60 Lib.Math.min.name, .static Lib.Math.min.name, .initialized "java/lang/Math", .code Lib.Math.min.name Lib.Math.min.code 2 (some .int), .methodLink RX1 66 yJ7_copyOf_c38d5, .static yJ7_copyOf_c38d5, .initialized RJ7, .code yJ7_copyOf_c38d5 cJ7_copyOf_c38d5 3 (some (.array .long)), .methodLink RJ7 319 ⟨"[J", "clone", "()Ljava/lang/Object;"⟩, .sameMethod "[J" "java/lang/Object" "clone" "()Ljava/lang/Object;", .native ⟨"java/lang/Object", "clone", "()Ljava/lang/Object;"⟩, .instanceMethod ⟨"java/lang/Object", "clone", "()Ljava/lang/Object;"⟩, .selects "[J" ⟨"[J", "clone", "()Ljava/lang/Object;"⟩ ⟨"java/lang/Object", "clone", "()Ljava/lang/Object;"⟩, .classLink RJ7 320 "[J", .arrayClass .long, .methodLink RJ7 304 Lib.Math.min.name, .methodLink RJ7 150 arraycopyName, .native arraycopyName, .static arraycopyName, .initialized "java/lang/System"] ++ wsX10)
def wsX1_variableWord : List Cond := .code yX1_variableWord cX1_variableWord 2 (some .long) :: ([.fieldLink RX1 85 "SweepEqual$Nodes" "WORD_PATTERNS" "[J", .constantLong RX1 88 (-1)])
def wsJ6_numberOfTrailingZeros_0f7a4 : List Cond := .code yJ6_numberOfTrailingZeros_0f7a4 cJ6_numberOfTrailingZeros_0f7a4 2 (some .int) :: ([.constant RJ6 264 (65536)])
def wsJ13_numberOfTrailingZeros_95d88 : List Cond := .code yJ13_numberOfTrailingZeros_95d88 cJ13_numberOfTrailingZeros_95d88 3 (some .int) :: ([.methodLink RJ13 311 yJ6_numberOfTrailingZeros_0f7a4, .static yJ6_numberOfTrailingZeros_0f7a4, .initialized RJ6, .code yJ6_numberOfTrailingZeros_0f7a4 cJ6_numberOfTrailingZeros_0f7a4 2 (some .int), .constant RJ6 264 (65536)])
def wsX1_leastDifference : List Cond := .code yX1_leastDifference cX1_leastDifference 6 (some .int) :: ([.methodLink RX1 37 yX1_wordOf, .instanceMethod yX1_wordOf, .selects RX1 yX1_wordOf yX1_wordOf, .initialized RX1, .code yX1_wordOf cX1_wordOf 5 (some .long), .fieldLink RX1 22 "SweepEqual$Nodes" "rows" "[J", .constantLong RX1 88 (-1), .methodLink RX1 57 yJ13_numberOfTrailingZeros_95d88, .static yJ13_numberOfTrailingZeros_95d88, .initialized RJ13, .code yJ13_numberOfTrailingZeros_95d88 cJ13_numberOfTrailingZeros_95d88 3 (some .int), .methodLink RJ13 311 yJ6_numberOfTrailingZeros_0f7a4, .static yJ6_numberOfTrailingZeros_0f7a4, .initialized RJ6, .code yJ6_numberOfTrailingZeros_0f7a4 cJ6_numberOfTrailingZeros_0f7a4 2 (some .int), .constant RJ6 264 (65536)] ++ wsX10)
def wsX1_findFirst : List Cond := .code yX1_findFirst cX1_findFirst 6 (some .int) :: ([.methodLink RX1 75 yX1_valueIn, .instanceMethod yX1_valueIn, .selects RX1 yX1_valueIn yX1_valueIn, .initialized RX1, .code yX1_valueIn cX1_valueIn 4 (some .int), .methodLink RX1 37 yX1_wordOf, .instanceMethod yX1_wordOf, .selects RX1 yX1_wordOf yX1_wordOf, .code yX1_wordOf cX1_wordOf 5 (some .long), .fieldLink RX1 22 "SweepEqual$Nodes" "rows" "[J", .constantLong RX1 88 (-1), .methodLink RX1 78 yX1_leastDifference, .instanceMethod yX1_leastDifference, .selects RX1 yX1_leastDifference yX1_leastDifference, .code yX1_leastDifference cX1_leastDifference 6 (some .int), .methodLink RX1 57 yJ13_numberOfTrailingZeros_95d88, .static yJ13_numberOfTrailingZeros_95d88, .initialized RJ13, .code yJ13_numberOfTrailingZeros_95d88 cJ13_numberOfTrailingZeros_95d88 3 (some .int), .methodLink RJ13 311 yJ6_numberOfTrailingZeros_0f7a4, .static yJ6_numberOfTrailingZeros_0f7a4, .initialized RJ6, .code yJ6_numberOfTrailingZeros_0f7a4 cJ6_numberOfTrailingZeros_0f7a4 2 (some .int), .constant RJ6 264 (65536)] ++ wsX10)
def wsX1_settle_r1 : List Cond := [Cond.fieldLink RX1 11 "SweepEqual$Nodes" "count" "I", Cond.fieldLink RX1 15 "SweepEqual$Nodes" "owners" "[I", Cond.fieldLink RX1 19 "SweepEqual$Nodes" "firsts" "[I", Cond.methodLink RX1 72 yX1_findFirst, Cond.instanceMethod yX1_findFirst, Cond.selects RX1 yX1_findFirst yX1_findFirst, Cond.initialized RX1, Cond.code yX1_findFirst cX1_findFirst 6 (some .int), Cond.methodLink RX1 75 yX1_valueIn, Cond.instanceMethod yX1_valueIn, Cond.selects RX1 yX1_valueIn yX1_valueIn, Cond.code yX1_valueIn cX1_valueIn 4 (some .int), Cond.methodLink RX1 37 yX1_wordOf, Cond.instanceMethod yX1_wordOf, Cond.selects RX1 yX1_wordOf yX1_wordOf, Cond.code yX1_wordOf cX1_wordOf 5 (some .long), Cond.fieldLink RX1 22 "SweepEqual$Nodes" "rows" "[J", Cond.constantLong RX1 88 (-1), Cond.methodLink RX1 78 yX1_leastDifference, Cond.instanceMethod yX1_leastDifference, Cond.selects RX1 yX1_leastDifference yX1_leastDifference, Cond.code yX1_leastDifference cX1_leastDifference 6 (some .int), Cond.methodLink RX1 57 yJ13_numberOfTrailingZeros_95d88, Cond.static yJ13_numberOfTrailingZeros_95d88]
def wsX1_settle_r2 : List Cond := [Cond.initialized RJ13, Cond.code yJ13_numberOfTrailingZeros_95d88 cJ13_numberOfTrailingZeros_95d88 3 (some .int), Cond.methodLink RJ13 311 yJ6_numberOfTrailingZeros_0f7a4, Cond.static yJ6_numberOfTrailingZeros_0f7a4, Cond.initialized RJ6, Cond.code yJ6_numberOfTrailingZeros_0f7a4 cJ6_numberOfTrailingZeros_0f7a4 2 (some .int), Cond.constant RJ6 264 (65536)]
def wsX1_settle : List Cond := .code yX1_settle cX1_settle 3 (some .int) :: ((wsX1_settle_r1 ++ wsX1_settle_r2) ++ wsX10)
def wsX1_addVariable_r1 : List Cond := [Cond.fieldLink RX1 11 "SweepEqual$Nodes" "count" "I", Cond.fieldLink RX1 22 "SweepEqual$Nodes" "rows" "[J", Cond.methodLink RX1 26 yX1_growRows, Cond.instanceMethod yX1_growRows, Cond.selects RX1 yX1_growRows yX1_growRows, Cond.initialized RX1, Cond.code yX1_growRows cX1_growRows 1 none, Cond.methodLink RX1 60 Lib.Math.min.name, Cond.static Lib.Math.min.name, Cond.initialized "java/lang/Math", Cond.code Lib.Math.min.name Lib.Math.min.code 2 (some .int), Cond.methodLink RX1 66 yJ7_copyOf_c38d5, Cond.static yJ7_copyOf_c38d5, Cond.initialized RJ7, Cond.code yJ7_copyOf_c38d5 cJ7_copyOf_c38d5 3 (some (.array .long)), Cond.methodLink RJ7 319 ⟨"[J", "clone", "()Ljava/lang/Object;"⟩, Cond.sameMethod "[J" "java/lang/Object" "clone" "()Ljava/lang/Object;", Cond.native ⟨"java/lang/Object", "clone", "()Ljava/lang/Object;"⟩, Cond.instanceMethod ⟨"java/lang/Object", "clone", "()Ljava/lang/Object;"⟩, Cond.selects "[J" ⟨"[J", "clone", "()Ljava/lang/Object;"⟩ ⟨"java/lang/Object", "clone", "()Ljava/lang/Object;"⟩, Cond.classLink RJ7 320 "[J", Cond.arrayClass .long, Cond.methodLink RJ7 304 Lib.Math.min.name, Cond.methodLink RJ7 150 arraycopyName]
def wsX1_addVariable_r2 : List Cond := [Cond.native arraycopyName, Cond.static arraycopyName, Cond.initialized "java/lang/System", Cond.methodLink RX1 29 yX1_variableWord, Cond.static yX1_variableWord, Cond.code yX1_variableWord cX1_variableWord 2 (some .long), Cond.fieldLink RX1 85 "SweepEqual$Nodes" "WORD_PATTERNS" "[J", Cond.constantLong RX1 88 (-1), Cond.methodLink RX1 33 yX1_settle, Cond.instanceMethod yX1_settle, Cond.selects RX1 yX1_settle yX1_settle, Cond.code yX1_settle cX1_settle 3 (some .int), Cond.fieldLink RX1 15 "SweepEqual$Nodes" "owners" "[I", Cond.fieldLink RX1 19 "SweepEqual$Nodes" "firsts" "[I", Cond.methodLink RX1 72 yX1_findFirst, Cond.instanceMethod yX1_findFirst, Cond.selects RX1 yX1_findFirst yX1_findFirst, Cond.code yX1_findFirst cX1_findFirst 6 (some .int), Cond.methodLink RX1 75 yX1_valueIn, Cond.instanceMethod yX1_valueIn, Cond.selects RX1 yX1_valueIn yX1_valueIn, Cond.code yX1_valueIn cX1_valueIn 4 (some .int), Cond.methodLink RX1 37 yX1_wordOf, Cond.instanceMethod yX1_wordOf]
def wsX1_addVariable_r3 : List Cond := [Cond.selects RX1 yX1_wordOf yX1_wordOf, Cond.code yX1_wordOf cX1_wordOf 5 (some .long), Cond.methodLink RX1 78 yX1_leastDifference, Cond.instanceMethod yX1_leastDifference, Cond.selects RX1 yX1_leastDifference yX1_leastDifference, Cond.code yX1_leastDifference cX1_leastDifference 6 (some .int), Cond.methodLink RX1 57 yJ13_numberOfTrailingZeros_95d88, Cond.static yJ13_numberOfTrailingZeros_95d88, Cond.initialized RJ13, Cond.code yJ13_numberOfTrailingZeros_95d88 cJ13_numberOfTrailingZeros_95d88 3 (some .int), Cond.methodLink RJ13 311 yJ6_numberOfTrailingZeros_0f7a4, Cond.static yJ6_numberOfTrailingZeros_0f7a4, Cond.initialized RJ6, Cond.code yJ6_numberOfTrailingZeros_0f7a4 cJ6_numberOfTrailingZeros_0f7a4 2 (some .int), Cond.constant RJ6 264 (65536)]
def wsX1_addVariable : List Cond := .code yX1_addVariable cX1_addVariable 4 (some .int) :: ((wsX1_addVariable_r1 ++ (wsX1_addVariable_r2 ++ wsX1_addVariable_r3)) ++ wsX10)
def wsX1_addAnd_r1 : List Cond := [Cond.fieldLink RX1 11 "SweepEqual$Nodes" "count" "I", Cond.fieldLink RX1 22 "SweepEqual$Nodes" "rows" "[J", Cond.methodLink RX1 26 yX1_growRows, Cond.instanceMethod yX1_growRows, Cond.selects RX1 yX1_growRows yX1_growRows, Cond.initialized RX1, Cond.code yX1_growRows cX1_growRows 1 none, Cond.methodLink RX1 60 Lib.Math.min.name, Cond.static Lib.Math.min.name, Cond.initialized "java/lang/Math", Cond.code Lib.Math.min.name Lib.Math.min.code 2 (some .int), Cond.methodLink RX1 66 yJ7_copyOf_c38d5, Cond.static yJ7_copyOf_c38d5, Cond.initialized RJ7, Cond.code yJ7_copyOf_c38d5 cJ7_copyOf_c38d5 3 (some (.array .long)), Cond.methodLink RJ7 319 ⟨"[J", "clone", "()Ljava/lang/Object;"⟩, Cond.sameMethod "[J" "java/lang/Object" "clone" "()Ljava/lang/Object;", Cond.native ⟨"java/lang/Object", "clone", "()Ljava/lang/Object;"⟩, Cond.instanceMethod ⟨"java/lang/Object", "clone", "()Ljava/lang/Object;"⟩, Cond.selects "[J" ⟨"[J", "clone", "()Ljava/lang/Object;"⟩ ⟨"java/lang/Object", "clone", "()Ljava/lang/Object;"⟩, Cond.classLink RJ7 320 "[J", Cond.arrayClass .long, Cond.methodLink RJ7 304 Lib.Math.min.name, Cond.methodLink RJ7 150 arraycopyName]
def wsX1_addAnd_r2 : List Cond := [Cond.native arraycopyName, Cond.static arraycopyName, Cond.initialized "java/lang/System", Cond.methodLink RX1 37 yX1_wordOf, Cond.instanceMethod yX1_wordOf, Cond.selects RX1 yX1_wordOf yX1_wordOf, Cond.code yX1_wordOf cX1_wordOf 5 (some .long), Cond.constantLong RX1 88 (-1), Cond.methodLink RX1 33 yX1_settle, Cond.instanceMethod yX1_settle, Cond.selects RX1 yX1_settle yX1_settle, Cond.code yX1_settle cX1_settle 3 (some .int), Cond.fieldLink RX1 15 "SweepEqual$Nodes" "owners" "[I", Cond.fieldLink RX1 19 "SweepEqual$Nodes" "firsts" "[I", Cond.methodLink RX1 72 yX1_findFirst, Cond.instanceMethod yX1_findFirst, Cond.selects RX1 yX1_findFirst yX1_findFirst, Cond.code yX1_findFirst cX1_findFirst 6 (some .int), Cond.methodLink RX1 75 yX1_valueIn, Cond.instanceMethod yX1_valueIn, Cond.selects RX1 yX1_valueIn yX1_valueIn, Cond.code yX1_valueIn cX1_valueIn 4 (some .int), Cond.methodLink RX1 78 yX1_leastDifference, Cond.instanceMethod yX1_leastDifference]
def wsX1_addAnd_r3 : List Cond := [Cond.selects RX1 yX1_leastDifference yX1_leastDifference, Cond.code yX1_leastDifference cX1_leastDifference 6 (some .int), Cond.methodLink RX1 57 yJ13_numberOfTrailingZeros_95d88, Cond.static yJ13_numberOfTrailingZeros_95d88, Cond.initialized RJ13, Cond.code yJ13_numberOfTrailingZeros_95d88 cJ13_numberOfTrailingZeros_95d88 3 (some .int), Cond.methodLink RJ13 311 yJ6_numberOfTrailingZeros_0f7a4, Cond.static yJ6_numberOfTrailingZeros_0f7a4, Cond.initialized RJ6, Cond.code yJ6_numberOfTrailingZeros_0f7a4 cJ6_numberOfTrailingZeros_0f7a4 2 (some .int), Cond.constant RJ6 264 (65536)]
def wsX1_addAnd : List Cond := .code yX1_addAnd cX1_addAnd 6 (some .int) :: ((wsX1_addAnd_r1 ++ (wsX1_addAnd_r2 ++ wsX1_addAnd_r3)) ++ wsX10)
def wsX1_isOfOtherSide : List Cond := .code yX1_isOfOtherSide cX1_isOfOtherSide 4 (some .boolean) :: ([.fieldLink RX1 15 "SweepEqual$Nodes" "owners" "[I"] ++ wsX10)
def wsX1_firstOf : List Cond := .code yX1_firstOf cX1_firstOf 2 (some .int) :: ([.fieldLink RX1 19 "SweepEqual$Nodes" "firsts" "[I"] ++ wsX10)
def wsX1_areSame : List Cond := .code yX1_areSame cX1_areSame 3 (some .boolean) :: ([.methodLink RX1 40 yX1_firstOf, .instanceMethod yX1_firstOf, .selects RX1 yX1_firstOf yX1_firstOf, .initialized RX1, .code yX1_firstOf cX1_firstOf 2 (some .int), .fieldLink RX1 19 "SweepEqual$Nodes" "firsts" "[I"] ++ wsX10)
def wsX1_isLeast : List Cond := .code yX1_isLeast cX1_isLeast 2 (some .boolean) :: ([.fieldLink RX1 19 "SweepEqual$Nodes" "firsts" "[I"] ++ wsX10)
def wsX1_countClasses : List Cond := .code yX1_countClasses cX1_countClasses 3 (some .int) :: ([.fieldLink RX1 11 "SweepEqual$Nodes" "count" "I", .methodLink RX1 43 yX1_isLeast, .instanceMethod yX1_isLeast, .selects RX1 yX1_isLeast yX1_isLeast, .initialized RX1, .code yX1_isLeast cX1_isLeast 2 (some .boolean), .fieldLink RX1 19 "SweepEqual$Nodes" "firsts" "[I"] ++ wsX10)
def wsX1_countMerged : List Cond := .code yX1_countMerged cX1_countMerged 4 (some .int) :: ([.fieldLink RX1 11 "SweepEqual$Nodes" "count" "I", .fieldLink RX1 15 "SweepEqual$Nodes" "owners" "[I", .methodLink RX1 43 yX1_isLeast, .instanceMethod yX1_isLeast, .selects RX1 yX1_isLeast yX1_isLeast, .initialized RX1, .code yX1_isLeast cX1_isLeast 2 (some .boolean), .fieldLink RX1 19 "SweepEqual$Nodes" "firsts" "[I"] ++ wsX10)
def wsX1_countAnds : List Cond := .code yX1_countAnds cX1_countAnds 4 (some .int) :: ([.fieldLink RX1 11 "SweepEqual$Nodes" "count" "I", .fieldLink RX1 15 "SweepEqual$Nodes" "owners" "[I"] ++ wsX10)
def wsJ13_bitCount_95d88 : List Cond := .code yJ13_bitCount_95d88 cJ13_bitCount_95d88 2 (some .int) :: ([.constantLong RJ13 314 (6148914691236517205), .constantLong RJ13 316 (3689348814741910323), .constantLong RJ13 318 (1085102592571150095)])
def wsX1_countOnes : List Cond := .code yX1_countOnes cX1_countOnes 4 (some .int) :: ([.methodLink RX1 37 yX1_wordOf, .instanceMethod yX1_wordOf, .selects RX1 yX1_wordOf yX1_wordOf, .initialized RX1, .code yX1_wordOf cX1_wordOf 5 (some .long), .fieldLink RX1 22 "SweepEqual$Nodes" "rows" "[J", .constantLong RX1 88 (-1), .methodLink RX1 47 yJ13_bitCount_95d88, .static yJ13_bitCount_95d88, .initialized RJ13, .code yJ13_bitCount_95d88 cJ13_bitCount_95d88 2 (some .int), .constantLong RJ13 314 (6148914691236517205), .constantLong RJ13 316 (3689348814741910323), .constantLong RJ13 318 (1085102592571150095)] ++ wsX10)
def wsX1_wordHangsOn : List Cond := .code yX1_wordHangsOn cX1_wordHangsOn 8 (some .boolean) :: ([.fieldLink RX1 85 "SweepEqual$Nodes" "WORD_PATTERNS" "[J", .constantLong RX1 88 (-1), .methodLink RX1 37 yX1_wordOf, .instanceMethod yX1_wordOf, .selects RX1 yX1_wordOf yX1_wordOf, .initialized RX1, .code yX1_wordOf cX1_wordOf 5 (some .long), .fieldLink RX1 22 "SweepEqual$Nodes" "rows" "[J"] ++ wsX10)
def wsX1_hangsOn : List Cond := .code yX1_hangsOn cX1_hangsOn 4 (some .boolean) :: ([.methodLink RX1 81 yX1_wordHangsOn, .instanceMethod yX1_wordHangsOn, .selects RX1 yX1_wordHangsOn yX1_wordHangsOn, .initialized RX1, .code yX1_wordHangsOn cX1_wordHangsOn 8 (some .boolean), .fieldLink RX1 85 "SweepEqual$Nodes" "WORD_PATTERNS" "[J", .constantLong RX1 88 (-1), .methodLink RX1 37 yX1_wordOf, .instanceMethod yX1_wordOf, .selects RX1 yX1_wordOf yX1_wordOf, .code yX1_wordOf cX1_wordOf 5 (some .long), .fieldLink RX1 22 "SweepEqual$Nodes" "rows" "[J"] ++ wsX10)
def wsX1_supportOf : List Cond := .code yX1_supportOf cX1_supportOf 4 (some .int) :: ([.methodLink RX1 53 yX1_hangsOn, .instanceMethod yX1_hangsOn, .selects RX1 yX1_hangsOn yX1_hangsOn, .initialized RX1, .code yX1_hangsOn cX1_hangsOn 4 (some .boolean), .methodLink RX1 81 yX1_wordHangsOn, .instanceMethod yX1_wordHangsOn, .selects RX1 yX1_wordHangsOn yX1_wordHangsOn, .code yX1_wordHangsOn cX1_wordHangsOn 8 (some .boolean), .fieldLink RX1 85 "SweepEqual$Nodes" "WORD_PATTERNS" "[J", .constantLong RX1 88 (-1), .methodLink RX1 37 yX1_wordOf, .instanceMethod yX1_wordOf, .selects RX1 yX1_wordOf yX1_wordOf, .code yX1_wordOf cX1_wordOf 5 (some .long), .fieldLink RX1 22 "SweepEqual$Nodes" "rows" "[J"] ++ wsX10)
def wsX2_init_r1 : List Cond := [Cond.methodLink RX2 3 objectInit, Cond.instanceMethod objectInit, Cond.code objectInit ⟨#[0xb1]⟩ 1 none, Cond.classLink RX2 9 RX1, Cond.instantiable RX1 4, Cond.initialized RX1, Cond.fieldLink RX2 12 "SweepEqual" "nodes" "LSweepEqual$Nodes;", Cond.classLink RX2 16 RX0, Cond.instantiable RX0 7, Cond.initialized RX0, Cond.fieldLink RX2 19 "SweepEqual" "designA" "LSweepEqual$Design;", Cond.fieldLink RX2 23 "SweepEqual" "designB" "LSweepEqual$Design;", Cond.fieldLink RX2 26 "SweepEqual" "apartStep" "I", Cond.methodLink RX2 11 yX1_init, Cond.instanceMethod yX1_init, Cond.code yX1_init cX1_init 1 none, Cond.methodLink RX1 5 objectInit, Cond.fieldLink RX1 11 "SweepEqual$Nodes" "count" "I", Cond.arrayClass .int, Cond.fieldLink RX1 15 "SweepEqual$Nodes" "owners" "[I", Cond.fieldLink RX1 19 "SweepEqual$Nodes" "firsts" "[I", Cond.arrayClass .long, Cond.fieldLink RX1 22 "SweepEqual$Nodes" "rows" "[J", Cond.methodLink RX2 18 yX0_init]
def wsX2_init_r2 : List Cond := [Cond.instanceMethod yX0_init, Cond.code yX0_init cX0_init 1 none, Cond.methodLink RX0 3 objectInit, Cond.fieldLink RX0 9 "SweepEqual$Design" "outputs" "[I", Cond.fieldLink RX0 15 "SweepEqual$Design" "nexts" "[I", Cond.fieldLink RX0 18 "SweepEqual$Design" "shown" "[I"]
def wsX2_init : List Cond := .code yX2_init cX2_init 1 none :: ((wsX2_init_r1 ++ wsX2_init_r2) ++ wsX10 ++ wsX20 ++ wsX00)
def wsX2_needRoomForNode : List Cond := .code yX2_needRoomForNode cX2_needRoomForNode 1 none :: ([.classLink RX2 33 "java/lang/IllegalStateException", .initialized "java/lang/IllegalStateException", .fieldLink RX2 12 "SweepEqual" "nodes" "LSweepEqual$Nodes;", .fieldLink RX2 169 "SweepEqual$Nodes" "count" "I"] ++ wsX20 ++ wsX10 ++ (vx_atS RX2 37 "java/lang/IllegalStateException" ["java/lang/RuntimeException", "java/lang/Exception"]).filter goodWord)
def wsX2_input_r1 : List Cond := [Cond.classLink RX2 33 "java/lang/IllegalStateException", Cond.initialized "java/lang/IllegalStateException", Cond.fieldLink RX2 30 "SweepEqual" "inputCount" "I", Cond.fieldLink RX2 12 "SweepEqual" "nodes" "LSweepEqual$Nodes;", Cond.methodLink RX2 40 yX2_needRoomForNode, Cond.instanceMethod yX2_needRoomForNode, Cond.selects RX2 yX2_needRoomForNode yX2_needRoomForNode, Cond.initialized RX2, Cond.code yX2_needRoomForNode cX2_needRoomForNode 1 none, Cond.fieldLink RX2 169 "SweepEqual$Nodes" "count" "I", Cond.methodLink RX2 43 yX1_addVariable, Cond.instanceMethod yX1_addVariable, Cond.selects RX1 yX1_addVariable yX1_addVariable, Cond.initialized RX1, Cond.code yX1_addVariable cX1_addVariable 4 (some .int), Cond.fieldLink RX1 11 "SweepEqual$Nodes" "count" "I", Cond.fieldLink RX1 22 "SweepEqual$Nodes" "rows" "[J", Cond.methodLink RX1 26 yX1_growRows, Cond.instanceMethod yX1_growRows, Cond.selects RX1 yX1_growRows yX1_growRows, Cond.code yX1_growRows cX1_growRows 1 none, Cond.methodLink RX1 60 Lib.Math.min.name, Cond.static Lib.Math.min.name, Cond.initialized "java/lang/Math"]
def wsX2_input_r2 : List Cond := [Cond.code Lib.Math.min.name Lib.Math.min.code 2 (some .int), Cond.methodLink RX1 66 yJ7_copyOf_c38d5, Cond.static yJ7_copyOf_c38d5, Cond.initialized RJ7, Cond.code yJ7_copyOf_c38d5 cJ7_copyOf_c38d5 3 (some (.array .long)), Cond.methodLink RJ7 319 ⟨"[J", "clone", "()Ljava/lang/Object;"⟩, Cond.sameMethod "[J" "java/lang/Object" "clone" "()Ljava/lang/Object;", Cond.native ⟨"java/lang/Object", "clone", "()Ljava/lang/Object;"⟩, Cond.instanceMethod ⟨"java/lang/Object", "clone", "()Ljava/lang/Object;"⟩, Cond.selects "[J" ⟨"[J", "clone", "()Ljava/lang/Object;"⟩ ⟨"java/lang/Object", "clone", "()Ljava/lang/Object;"⟩, Cond.classLink RJ7 320 "[J", Cond.arrayClass .long, Cond.methodLink RJ7 304 Lib.Math.min.name, Cond.methodLink RJ7 150 arraycopyName, Cond.native arraycopyName, Cond.static arraycopyName, Cond.initialized "java/lang/System", Cond.methodLink RX1 29 yX1_variableWord, Cond.static yX1_variableWord, Cond.code yX1_variableWord cX1_variableWord 2 (some .long), Cond.fieldLink RX1 85 "SweepEqual$Nodes" "WORD_PATTERNS" "[J", Cond.constantLong RX1 88 (-1), Cond.methodLink RX1 33 yX1_settle, Cond.instanceMethod yX1_settle]
def wsX2_input_r3 : List Cond := [Cond.selects RX1 yX1_settle yX1_settle, Cond.code yX1_settle cX1_settle 3 (some .int), Cond.fieldLink RX1 15 "SweepEqual$Nodes" "owners" "[I", Cond.fieldLink RX1 19 "SweepEqual$Nodes" "firsts" "[I", Cond.methodLink RX1 72 yX1_findFirst, Cond.instanceMethod yX1_findFirst, Cond.selects RX1 yX1_findFirst yX1_findFirst, Cond.code yX1_findFirst cX1_findFirst 6 (some .int), Cond.methodLink RX1 75 yX1_valueIn, Cond.instanceMethod yX1_valueIn, Cond.selects RX1 yX1_valueIn yX1_valueIn, Cond.code yX1_valueIn cX1_valueIn 4 (some .int), Cond.methodLink RX1 37 yX1_wordOf, Cond.instanceMethod yX1_wordOf, Cond.selects RX1 yX1_wordOf yX1_wordOf, Cond.code yX1_wordOf cX1_wordOf 5 (some .long), Cond.methodLink RX1 78 yX1_leastDifference, Cond.instanceMethod yX1_leastDifference, Cond.selects RX1 yX1_leastDifference yX1_leastDifference, Cond.code yX1_leastDifference cX1_leastDifference 6 (some .int), Cond.methodLink RX1 57 yJ13_numberOfTrailingZeros_95d88, Cond.static yJ13_numberOfTrailingZeros_95d88, Cond.initialized RJ13, Cond.code yJ13_numberOfTrailingZeros_95d88 cJ13_numberOfTrailingZeros_95d88 3 (some .int)]
def wsX2_input_r4 : List Cond := [Cond.methodLink RJ13 311 yJ6_numberOfTrailingZeros_0f7a4, Cond.static yJ6_numberOfTrailingZeros_0f7a4, Cond.initialized RJ6, Cond.code yJ6_numberOfTrailingZeros_0f7a4 cJ6_numberOfTrailingZeros_0f7a4 2 (some .int), Cond.constant RJ6 264 (65536)]
def wsX2_input : List Cond := .code yX2_input cX2_input 2 (some .int) :: ((wsX2_input_r1 ++ (wsX2_input_r2 ++ (wsX2_input_r3 ++ wsX2_input_r4))) ++ wsX20 ++ wsX10 ++ (vx_atS RX2 37 "java/lang/IllegalStateException" ["java/lang/RuntimeException", "java/lang/Exception"]).filter goodWord)
def wsX2_needStart : List Cond := .code yX2_needStart cX2_needStart 2 none :: ([.classLink RX2 187 "java/lang/IllegalArgumentException", .initialized "java/lang/IllegalArgumentException"] ++ (vx_atS RX2 191 "java/lang/IllegalArgumentException" ["java/lang/RuntimeException", "java/lang/Exception"]).filter goodWord)
def wsX2_backToStarts : List Cond := .code yX2_backToStarts cX2_backToStarts 1 none :: ([.fieldLink RX2 19 "SweepEqual" "designA" "LSweepEqual$Design;", .fieldLink RX2 23 "SweepEqual" "designB" "LSweepEqual$Design;", .fieldLink RX2 155 "SweepEqual" "steps" "I", .fieldLink RX2 26 "SweepEqual" "apartStep" "I", .methodLink RX2 199 yX0_backToStarts, .instanceMethod yX0_backToStarts, .selects RX0 yX0_backToStarts yX0_backToStarts, .initialized RX0, .code yX0_backToStarts cX0_backToStarts 1 none, .fieldLink RX0 25 "SweepEqual$Design" "starts" "I", .fieldLink RX0 28 "SweepEqual$Design" "states" "I", .fieldLink RX0 31 "SweepEqual$Design" "shownCount" "I"] ++ wsX20 ++ wsX00)
def wsX2_latch_r1 : List Cond := [Cond.classLink RX2 33 "java/lang/IllegalStateException", Cond.initialized "java/lang/IllegalStateException", Cond.fieldLink RX2 47 "SweepEqual" "latchCount" "I", Cond.fieldLink RX2 12 "SweepEqual" "nodes" "LSweepEqual$Nodes;", Cond.fieldLink RX2 19 "SweepEqual" "designA" "LSweepEqual$Design;", Cond.fieldLink RX2 23 "SweepEqual" "designB" "LSweepEqual$Design;", Cond.methodLink RX2 40 yX2_needRoomForNode, Cond.instanceMethod yX2_needRoomForNode, Cond.selects RX2 yX2_needRoomForNode yX2_needRoomForNode, Cond.initialized RX2, Cond.code yX2_needRoomForNode cX2_needRoomForNode 1 none, Cond.fieldLink RX2 169 "SweepEqual$Nodes" "count" "I", Cond.methodLink RX2 52 yX2_needStart, Cond.instanceMethod yX2_needStart, Cond.selects RX2 yX2_needStart yX2_needStart, Cond.code yX2_needStart cX2_needStart 2 none, Cond.classLink RX2 187 "java/lang/IllegalArgumentException", Cond.initialized "java/lang/IllegalArgumentException", Cond.methodLink RX2 43 yX1_addVariable, Cond.instanceMethod yX1_addVariable, Cond.selects RX1 yX1_addVariable yX1_addVariable, Cond.initialized RX1, Cond.code yX1_addVariable cX1_addVariable 4 (some .int), Cond.fieldLink RX1 11 "SweepEqual$Nodes" "count" "I"]
def wsX2_latch_r2 : List Cond := [Cond.fieldLink RX1 22 "SweepEqual$Nodes" "rows" "[J", Cond.methodLink RX1 26 yX1_growRows, Cond.instanceMethod yX1_growRows, Cond.selects RX1 yX1_growRows yX1_growRows, Cond.code yX1_growRows cX1_growRows 1 none, Cond.methodLink RX1 60 Lib.Math.min.name, Cond.static Lib.Math.min.name, Cond.initialized "java/lang/Math", Cond.code Lib.Math.min.name Lib.Math.min.code 2 (some .int), Cond.methodLink RX1 66 yJ7_copyOf_c38d5, Cond.static yJ7_copyOf_c38d5, Cond.initialized RJ7, Cond.code yJ7_copyOf_c38d5 cJ7_copyOf_c38d5 3 (some (.array .long)), Cond.methodLink RJ7 319 ⟨"[J", "clone", "()Ljava/lang/Object;"⟩, Cond.sameMethod "[J" "java/lang/Object" "clone" "()Ljava/lang/Object;", Cond.native ⟨"java/lang/Object", "clone", "()Ljava/lang/Object;"⟩, Cond.instanceMethod ⟨"java/lang/Object", "clone", "()Ljava/lang/Object;"⟩, Cond.selects "[J" ⟨"[J", "clone", "()Ljava/lang/Object;"⟩ ⟨"java/lang/Object", "clone", "()Ljava/lang/Object;"⟩, Cond.classLink RJ7 320 "[J", Cond.arrayClass .long, Cond.methodLink RJ7 304 Lib.Math.min.name, Cond.methodLink RJ7 150 arraycopyName, Cond.native arraycopyName, Cond.static arraycopyName]
def wsX2_latch_r3 : List Cond := [Cond.initialized "java/lang/System", Cond.methodLink RX1 29 yX1_variableWord, Cond.static yX1_variableWord, Cond.code yX1_variableWord cX1_variableWord 2 (some .long), Cond.fieldLink RX1 85 "SweepEqual$Nodes" "WORD_PATTERNS" "[J", Cond.constantLong RX1 88 (-1), Cond.methodLink RX1 33 yX1_settle, Cond.instanceMethod yX1_settle, Cond.selects RX1 yX1_settle yX1_settle, Cond.code yX1_settle cX1_settle 3 (some .int), Cond.fieldLink RX1 15 "SweepEqual$Nodes" "owners" "[I", Cond.fieldLink RX1 19 "SweepEqual$Nodes" "firsts" "[I", Cond.methodLink RX1 72 yX1_findFirst, Cond.instanceMethod yX1_findFirst, Cond.selects RX1 yX1_findFirst yX1_findFirst, Cond.code yX1_findFirst cX1_findFirst 6 (some .int), Cond.methodLink RX1 75 yX1_valueIn, Cond.instanceMethod yX1_valueIn, Cond.selects RX1 yX1_valueIn yX1_valueIn, Cond.code yX1_valueIn cX1_valueIn 4 (some .int), Cond.methodLink RX1 37 yX1_wordOf, Cond.instanceMethod yX1_wordOf, Cond.selects RX1 yX1_wordOf yX1_wordOf, Cond.code yX1_wordOf cX1_wordOf 5 (some .long)]
def wsX2_latch_r4 : List Cond := [Cond.methodLink RX1 78 yX1_leastDifference, Cond.instanceMethod yX1_leastDifference, Cond.selects RX1 yX1_leastDifference yX1_leastDifference, Cond.code yX1_leastDifference cX1_leastDifference 6 (some .int), Cond.methodLink RX1 57 yJ13_numberOfTrailingZeros_95d88, Cond.static yJ13_numberOfTrailingZeros_95d88, Cond.initialized RJ13, Cond.code yJ13_numberOfTrailingZeros_95d88 cJ13_numberOfTrailingZeros_95d88 3 (some .int), Cond.methodLink RJ13 311 yJ6_numberOfTrailingZeros_0f7a4, Cond.static yJ6_numberOfTrailingZeros_0f7a4, Cond.initialized RJ6, Cond.code yJ6_numberOfTrailingZeros_0f7a4 cJ6_numberOfTrailingZeros_0f7a4 2 (some .int), Cond.constant RJ6 264 (65536), Cond.methodLink RX2 56 yX0_addLatch, Cond.instanceMethod yX0_addLatch, Cond.selects RX0 yX0_addLatch yX0_addLatch, Cond.initialized RX0, Cond.code yX0_addLatch cX0_addLatch 4 none, Cond.fieldLink RX0 25 "SweepEqual$Design" "starts" "I", Cond.fieldLink RX0 15 "SweepEqual$Design" "nexts" "[I", Cond.methodLink RX2 60 yX2_backToStarts, Cond.instanceMethod yX2_backToStarts, Cond.selects RX2 yX2_backToStarts yX2_backToStarts, Cond.code yX2_backToStarts cX2_backToStarts 1 none]
def wsX2_latch_r5 : List Cond := [Cond.fieldLink RX2 155 "SweepEqual" "steps" "I", Cond.fieldLink RX2 26 "SweepEqual" "apartStep" "I", Cond.methodLink RX2 199 yX0_backToStarts, Cond.instanceMethod yX0_backToStarts, Cond.selects RX0 yX0_backToStarts yX0_backToStarts, Cond.code yX0_backToStarts cX0_backToStarts 1 none, Cond.fieldLink RX0 28 "SweepEqual$Design" "states" "I", Cond.fieldLink RX0 31 "SweepEqual$Design" "shownCount" "I"]
def wsX2_latch : List Cond := .code yX2_latch cX2_latch 4 (some .int) :: ((wsX2_latch_r1 ++ (wsX2_latch_r2 ++ (wsX2_latch_r3 ++ (wsX2_latch_r4 ++ wsX2_latch_r5)))) ++ wsX20 ++ wsX10 ++ wsX00 ++ (vx_atS RX2 37 "java/lang/IllegalStateException" ["java/lang/RuntimeException", "java/lang/Exception"]).filter goodWord ++ (vx_atS RX2 191 "java/lang/IllegalArgumentException" ["java/lang/RuntimeException", "java/lang/Exception"]).filter goodWord)
def wsX2_needSide : List Cond := .code yX2_needSide cX2_needSide 2 none :: ([.classLink RX2 120 "java/lang/IndexOutOfBoundsException", .initialized "java/lang/IndexOutOfBoundsException"] ++ (vx_atS RX2 124 "java/lang/IndexOutOfBoundsException" ["java/lang/RuntimeException", "java/lang/Exception"]).filter goodWord)
def wsX2_needLiteral : List Cond := .code yX2_needLiteral cX2_needLiteral 2 none :: ([.classLink RX2 120 "java/lang/IndexOutOfBoundsException", .initialized "java/lang/IndexOutOfBoundsException", .fieldLink RX2 12 "SweepEqual" "nodes" "LSweepEqual$Nodes;", .fieldLink RX2 169 "SweepEqual$Nodes" "count" "I"] ++ wsX20 ++ wsX10 ++ (vx_atS RX2 124 "java/lang/IndexOutOfBoundsException" ["java/lang/RuntimeException", "java/lang/Exception"]).filter goodWord)
def wsX2_needOwn : List Cond := .code yX2_needOwn cX2_needOwn 3 none :: ([.classLink RX2 187 "java/lang/IllegalArgumentException", .initialized "java/lang/IllegalArgumentException", .fieldLink RX2 12 "SweepEqual" "nodes" "LSweepEqual$Nodes;", .methodLink RX2 194 yX1_isOfOtherSide, .instanceMethod yX1_isOfOtherSide, .selects RX1 yX1_isOfOtherSide yX1_isOfOtherSide, .initialized RX1, .code yX1_isOfOtherSide cX1_isOfOtherSide 4 (some .boolean), .fieldLink RX1 15 "SweepEqual$Nodes" "owners" "[I"] ++ wsX20 ++ wsX10 ++ (vx_atS RX2 191 "java/lang/IllegalArgumentException" ["java/lang/RuntimeException", "java/lang/Exception"]).filter goodWord)
def wsX2_and_r1 : List Cond := [Cond.fieldLink RX2 12 "SweepEqual" "nodes" "LSweepEqual$Nodes;", Cond.methodLink RX2 63 yX2_needSide, Cond.instanceMethod yX2_needSide, Cond.selects RX2 yX2_needSide yX2_needSide, Cond.initialized RX2, Cond.code yX2_needSide cX2_needSide 2 none, Cond.classLink RX2 120 "java/lang/IndexOutOfBoundsException", Cond.initialized "java/lang/IndexOutOfBoundsException", Cond.methodLink RX2 66 yX2_needLiteral, Cond.instanceMethod yX2_needLiteral, Cond.selects RX2 yX2_needLiteral yX2_needLiteral, Cond.code yX2_needLiteral cX2_needLiteral 2 none, Cond.fieldLink RX2 169 "SweepEqual$Nodes" "count" "I", Cond.methodLink RX2 40 yX2_needRoomForNode, Cond.instanceMethod yX2_needRoomForNode, Cond.selects RX2 yX2_needRoomForNode yX2_needRoomForNode, Cond.code yX2_needRoomForNode cX2_needRoomForNode 1 none, Cond.classLink RX2 33 "java/lang/IllegalStateException", Cond.initialized "java/lang/IllegalStateException", Cond.methodLink RX2 69 yX2_needOwn, Cond.instanceMethod yX2_needOwn, Cond.selects RX2 yX2_needOwn yX2_needOwn, Cond.code yX2_needOwn cX2_needOwn 3 none, Cond.classLink RX2 187 "java/lang/IllegalArgumentException"]
def wsX2_and_r2 : List Cond := [Cond.initialized "java/lang/IllegalArgumentException", Cond.methodLink RX2 194 yX1_isOfOtherSide, Cond.instanceMethod yX1_isOfOtherSide, Cond.selects RX1 yX1_isOfOtherSide yX1_isOfOtherSide, Cond.initialized RX1, Cond.code yX1_isOfOtherSide cX1_isOfOtherSide 4 (some .boolean), Cond.fieldLink RX1 15 "SweepEqual$Nodes" "owners" "[I", Cond.methodLink RX2 73 yX1_addAnd, Cond.instanceMethod yX1_addAnd, Cond.selects RX1 yX1_addAnd yX1_addAnd, Cond.code yX1_addAnd cX1_addAnd 6 (some .int), Cond.fieldLink RX1 11 "SweepEqual$Nodes" "count" "I", Cond.fieldLink RX1 22 "SweepEqual$Nodes" "rows" "[J", Cond.methodLink RX1 26 yX1_growRows, Cond.instanceMethod yX1_growRows, Cond.selects RX1 yX1_growRows yX1_growRows, Cond.code yX1_growRows cX1_growRows 1 none, Cond.methodLink RX1 60 Lib.Math.min.name, Cond.static Lib.Math.min.name, Cond.initialized "java/lang/Math", Cond.code Lib.Math.min.name Lib.Math.min.code 2 (some .int), Cond.methodLink RX1 66 yJ7_copyOf_c38d5, Cond.static yJ7_copyOf_c38d5, Cond.initialized RJ7]
def wsX2_and_r3 : List Cond := [Cond.code yJ7_copyOf_c38d5 cJ7_copyOf_c38d5 3 (some (.array .long)), Cond.methodLink RJ7 319 ⟨"[J", "clone", "()Ljava/lang/Object;"⟩, Cond.sameMethod "[J" "java/lang/Object" "clone" "()Ljava/lang/Object;", Cond.native ⟨"java/lang/Object", "clone", "()Ljava/lang/Object;"⟩, Cond.instanceMethod ⟨"java/lang/Object", "clone", "()Ljava/lang/Object;"⟩, Cond.selects "[J" ⟨"[J", "clone", "()Ljava/lang/Object;"⟩ ⟨"java/lang/Object", "clone", "()Ljava/lang/Object;"⟩, Cond.classLink RJ7 320 "[J", Cond.arrayClass .long, Cond.methodLink RJ7 304 Lib.Math.min.name, Cond.methodLink RJ7 150 arraycopyName, Cond.native arraycopyName, Cond.static arraycopyName, Cond.initialized "java/lang/System", Cond.methodLink RX1 37 yX1_wordOf, Cond.instanceMethod yX1_wordOf, Cond.selects RX1 yX1_wordOf yX1_wordOf, Cond.code yX1_wordOf cX1_wordOf 5 (some .long), Cond.constantLong RX1 88 (-1), Cond.methodLink RX1 33 yX1_settle, Cond.instanceMethod yX1_settle, Cond.selects RX1 yX1_settle yX1_settle, Cond.code yX1_settle cX1_settle 3 (some .int), Cond.fieldLink RX1 19 "SweepEqual$Nodes" "firsts" "[I", Cond.methodLink RX1 72 yX1_findFirst]
def wsX2_and_r4 : List Cond := [Cond.instanceMethod yX1_findFirst, Cond.selects RX1 yX1_findFirst yX1_findFirst, Cond.code yX1_findFirst cX1_findFirst 6 (some .int), Cond.methodLink RX1 75 yX1_valueIn, Cond.instanceMethod yX1_valueIn, Cond.selects RX1 yX1_valueIn yX1_valueIn, Cond.code yX1_valueIn cX1_valueIn 4 (some .int), Cond.methodLink RX1 78 yX1_leastDifference, Cond.instanceMethod yX1_leastDifference, Cond.selects RX1 yX1_leastDifference yX1_leastDifference, Cond.code yX1_leastDifference cX1_leastDifference 6 (some .int), Cond.methodLink RX1 57 yJ13_numberOfTrailingZeros_95d88, Cond.static yJ13_numberOfTrailingZeros_95d88, Cond.initialized RJ13, Cond.code yJ13_numberOfTrailingZeros_95d88 cJ13_numberOfTrailingZeros_95d88 3 (some .int), Cond.methodLink RJ13 311 yJ6_numberOfTrailingZeros_0f7a4, Cond.static yJ6_numberOfTrailingZeros_0f7a4, Cond.initialized RJ6, Cond.code yJ6_numberOfTrailingZeros_0f7a4 cJ6_numberOfTrailingZeros_0f7a4 2 (some .int), Cond.constant RJ6 264 (65536)]
def wsX2_and : List Cond := .code yX2_and cX2_and 4 (some .int) :: ((wsX2_and_r1 ++ (wsX2_and_r2 ++ (wsX2_and_r3 ++ wsX2_and_r4))) ++ wsX20 ++ wsX10 ++ (vx_atS RX2 124 "java/lang/IndexOutOfBoundsException" ["java/lang/RuntimeException", "java/lang/Exception"]).filter goodWord ++ (vx_atS RX2 37 "java/lang/IllegalStateException" ["java/lang/RuntimeException", "java/lang/Exception"]).filter goodWord ++ (vx_atS RX2 191 "java/lang/IllegalArgumentException" ["java/lang/RuntimeException", "java/lang/Exception"]).filter goodWord)
def wsX2_designOf : List Cond := .code yX2_designOf cX2_designOf 2 (some (.object "SweepEqual$Design")) :: ([.fieldLink RX2 19 "SweepEqual" "designA" "LSweepEqual$Design;", .fieldLink RX2 23 "SweepEqual" "designB" "LSweepEqual$Design;"] ++ wsX20)
def wsX2_output_r1 : List Cond := [Cond.classLink RX2 33 "java/lang/IllegalStateException", Cond.initialized "java/lang/IllegalStateException", Cond.fieldLink RX2 81 "SweepEqual$Design" "outputCount" "I", Cond.methodLink RX2 63 yX2_needSide, Cond.instanceMethod yX2_needSide, Cond.selects RX2 yX2_needSide yX2_needSide, Cond.initialized RX2, Cond.code yX2_needSide cX2_needSide 2 none, Cond.classLink RX2 120 "java/lang/IndexOutOfBoundsException", Cond.initialized "java/lang/IndexOutOfBoundsException", Cond.methodLink RX2 66 yX2_needLiteral, Cond.instanceMethod yX2_needLiteral, Cond.selects RX2 yX2_needLiteral yX2_needLiteral, Cond.code yX2_needLiteral cX2_needLiteral 2 none, Cond.fieldLink RX2 12 "SweepEqual" "nodes" "LSweepEqual$Nodes;", Cond.fieldLink RX2 169 "SweepEqual$Nodes" "count" "I", Cond.methodLink RX2 77 yX2_designOf, Cond.instanceMethod yX2_designOf, Cond.selects RX2 yX2_designOf yX2_designOf, Cond.code yX2_designOf cX2_designOf 2 (some (.object "SweepEqual$Design")), Cond.fieldLink RX2 19 "SweepEqual" "designA" "LSweepEqual$Design;", Cond.fieldLink RX2 23 "SweepEqual" "designB" "LSweepEqual$Design;", Cond.methodLink RX2 69 yX2_needOwn, Cond.instanceMethod yX2_needOwn]
def wsX2_output_r2 : List Cond := [Cond.selects RX2 yX2_needOwn yX2_needOwn, Cond.code yX2_needOwn cX2_needOwn 3 none, Cond.classLink RX2 187 "java/lang/IllegalArgumentException", Cond.initialized "java/lang/IllegalArgumentException", Cond.methodLink RX2 194 yX1_isOfOtherSide, Cond.instanceMethod yX1_isOfOtherSide, Cond.selects RX1 yX1_isOfOtherSide yX1_isOfOtherSide, Cond.initialized RX1, Cond.code yX1_isOfOtherSide cX1_isOfOtherSide 4 (some .boolean), Cond.fieldLink RX1 15 "SweepEqual$Nodes" "owners" "[I", Cond.methodLink RX2 86 yX0_addOutput, Cond.instanceMethod yX0_addOutput, Cond.selects RX0 yX0_addOutput yX0_addOutput, Cond.initialized RX0, Cond.code yX0_addOutput cX0_addOutput 2 (some .int), Cond.fieldLink RX0 9 "SweepEqual$Design" "outputs" "[I", Cond.fieldLink RX0 21 "SweepEqual$Design" "outputCount" "I"]
def wsX2_output : List Cond := .code yX2_output cX2_output 4 (some .int) :: ((wsX2_output_r1 ++ wsX2_output_r2) ++ wsX00 ++ wsX20 ++ wsX10 ++ (vx_atS RX2 37 "java/lang/IllegalStateException" ["java/lang/RuntimeException", "java/lang/Exception"]).filter goodWord ++ (vx_atS RX2 124 "java/lang/IndexOutOfBoundsException" ["java/lang/RuntimeException", "java/lang/Exception"]).filter goodWord ++ (vx_atS RX2 191 "java/lang/IllegalArgumentException" ["java/lang/RuntimeException", "java/lang/Exception"]).filter goodWord)
def wsX2_needLatch : List Cond := .code yX2_needLatch cX2_needLatch 2 none :: ([.classLink RX2 120 "java/lang/IndexOutOfBoundsException", .initialized "java/lang/IndexOutOfBoundsException", .fieldLink RX2 47 "SweepEqual" "latchCount" "I"] ++ wsX20 ++ (vx_atS RX2 124 "java/lang/IndexOutOfBoundsException" ["java/lang/RuntimeException", "java/lang/Exception"]).filter goodWord)
def wsX2_next_r1 : List Cond := [Cond.fieldLink RX2 92 "SweepEqual$Design" "nexts" "[I", Cond.methodLink RX2 63 yX2_needSide, Cond.instanceMethod yX2_needSide, Cond.selects RX2 yX2_needSide yX2_needSide, Cond.initialized RX2, Cond.code yX2_needSide cX2_needSide 2 none, Cond.classLink RX2 120 "java/lang/IndexOutOfBoundsException", Cond.initialized "java/lang/IndexOutOfBoundsException", Cond.methodLink RX2 89 yX2_needLatch, Cond.instanceMethod yX2_needLatch, Cond.selects RX2 yX2_needLatch yX2_needLatch, Cond.code yX2_needLatch cX2_needLatch 2 none, Cond.fieldLink RX2 47 "SweepEqual" "latchCount" "I", Cond.methodLink RX2 66 yX2_needLiteral, Cond.instanceMethod yX2_needLiteral, Cond.selects RX2 yX2_needLiteral yX2_needLiteral, Cond.code yX2_needLiteral cX2_needLiteral 2 none, Cond.fieldLink RX2 12 "SweepEqual" "nodes" "LSweepEqual$Nodes;", Cond.fieldLink RX2 169 "SweepEqual$Nodes" "count" "I", Cond.methodLink RX2 69 yX2_needOwn, Cond.instanceMethod yX2_needOwn, Cond.selects RX2 yX2_needOwn yX2_needOwn, Cond.code yX2_needOwn cX2_needOwn 3 none, Cond.classLink RX2 187 "java/lang/IllegalArgumentException"]
def wsX2_next_r2 : List Cond := [Cond.initialized "java/lang/IllegalArgumentException", Cond.methodLink RX2 194 yX1_isOfOtherSide, Cond.instanceMethod yX1_isOfOtherSide, Cond.selects RX1 yX1_isOfOtherSide yX1_isOfOtherSide, Cond.initialized RX1, Cond.code yX1_isOfOtherSide cX1_isOfOtherSide 4 (some .boolean), Cond.fieldLink RX1 15 "SweepEqual$Nodes" "owners" "[I", Cond.methodLink RX2 77 yX2_designOf, Cond.instanceMethod yX2_designOf, Cond.selects RX2 yX2_designOf yX2_designOf, Cond.code yX2_designOf cX2_designOf 2 (some (.object "SweepEqual$Design")), Cond.fieldLink RX2 19 "SweepEqual" "designA" "LSweepEqual$Design;", Cond.fieldLink RX2 23 "SweepEqual" "designB" "LSweepEqual$Design;"]
def wsX2_next : List Cond := .code yX2_next cX2_next 6 (some .int) :: ((wsX2_next_r1 ++ wsX2_next_r2) ++ wsX00 ++ wsX20 ++ wsX10 ++ (vx_atS RX2 124 "java/lang/IndexOutOfBoundsException" ["java/lang/RuntimeException", "java/lang/Exception"]).filter goodWord ++ (vx_atS RX2 191 "java/lang/IllegalArgumentException" ["java/lang/RuntimeException", "java/lang/Exception"]).filter goodWord)
def wsX2_same : List Cond := .code yX2_same cX2_same 3 (some .boolean) :: ([.fieldLink RX2 12 "SweepEqual" "nodes" "LSweepEqual$Nodes;", .methodLink RX2 66 yX2_needLiteral, .instanceMethod yX2_needLiteral, .selects RX2 yX2_needLiteral yX2_needLiteral, .initialized RX2, .code yX2_needLiteral cX2_needLiteral 2 none, .classLink RX2 120 "java/lang/IndexOutOfBoundsException", .initialized "java/lang/IndexOutOfBoundsException", .fieldLink RX2 169 "SweepEqual$Nodes" "count" "I", .methodLink RX2 96 yX1_areSame, .instanceMethod yX1_areSame, .selects RX1 yX1_areSame yX1_areSame, .initialized RX1, .code yX1_areSame cX1_areSame 3 (some .boolean), .methodLink RX1 40 yX1_firstOf, .instanceMethod yX1_firstOf, .selects RX1 yX1_firstOf yX1_firstOf, .code yX1_firstOf cX1_firstOf 2 (some .int), .fieldLink RX1 19 "SweepEqual$Nodes" "firsts" "[I"] ++ wsX20 ++ wsX10 ++ (vx_atS RX2 124 "java/lang/IndexOutOfBoundsException" ["java/lang/RuntimeException", "java/lang/Exception"]).filter goodWord)
def wsX2_first : List Cond := .code yX2_first cX2_first 2 (some .int) :: ([.fieldLink RX2 12 "SweepEqual" "nodes" "LSweepEqual$Nodes;", .methodLink RX2 66 yX2_needLiteral, .instanceMethod yX2_needLiteral, .selects RX2 yX2_needLiteral yX2_needLiteral, .initialized RX2, .code yX2_needLiteral cX2_needLiteral 2 none, .classLink RX2 120 "java/lang/IndexOutOfBoundsException", .initialized "java/lang/IndexOutOfBoundsException", .fieldLink RX2 169 "SweepEqual$Nodes" "count" "I", .methodLink RX2 100 yX1_firstOf, .instanceMethod yX1_firstOf, .selects RX1 yX1_firstOf yX1_firstOf, .initialized RX1, .code yX1_firstOf cX1_firstOf 2 (some .int), .fieldLink RX1 19 "SweepEqual$Nodes" "firsts" "[I"] ++ wsX20 ++ wsX10 ++ (vx_atS RX2 124 "java/lang/IndexOutOfBoundsException" ["java/lang/RuntimeException", "java/lang/Exception"]).filter goodWord)
def wsX2_classes : List Cond := .code yX2_classes cX2_classes 1 (some .int) :: ([.fieldLink RX2 12 "SweepEqual" "nodes" "LSweepEqual$Nodes;", .methodLink RX2 103 yX1_countClasses, .instanceMethod yX1_countClasses, .selects RX1 yX1_countClasses yX1_countClasses, .initialized RX1, .code yX1_countClasses cX1_countClasses 3 (some .int), .fieldLink RX1 11 "SweepEqual$Nodes" "count" "I", .methodLink RX1 43 yX1_isLeast, .instanceMethod yX1_isLeast, .selects RX1 yX1_isLeast yX1_isLeast, .code yX1_isLeast cX1_isLeast 2 (some .boolean), .fieldLink RX1 19 "SweepEqual$Nodes" "firsts" "[I"] ++ wsX20 ++ wsX10)
def wsX2_merged : List Cond := .code yX2_merged cX2_merged 2 (some .int) :: ([.fieldLink RX2 12 "SweepEqual" "nodes" "LSweepEqual$Nodes;", .methodLink RX2 63 yX2_needSide, .instanceMethod yX2_needSide, .selects RX2 yX2_needSide yX2_needSide, .initialized RX2, .code yX2_needSide cX2_needSide 2 none, .classLink RX2 120 "java/lang/IndexOutOfBoundsException", .initialized "java/lang/IndexOutOfBoundsException", .methodLink RX2 107 yX1_countMerged, .instanceMethod yX1_countMerged, .selects RX1 yX1_countMerged yX1_countMerged, .initialized RX1, .code yX1_countMerged cX1_countMerged 4 (some .int), .fieldLink RX1 11 "SweepEqual$Nodes" "count" "I", .fieldLink RX1 15 "SweepEqual$Nodes" "owners" "[I", .methodLink RX1 43 yX1_isLeast, .instanceMethod yX1_isLeast, .selects RX1 yX1_isLeast yX1_isLeast, .code yX1_isLeast cX1_isLeast 2 (some .boolean), .fieldLink RX1 19 "SweepEqual$Nodes" "firsts" "[I"] ++ wsX20 ++ wsX10 ++ (vx_atS RX2 124 "java/lang/IndexOutOfBoundsException" ["java/lang/RuntimeException", "java/lang/Exception"]).filter goodWord)
def wsX2_hangs_r1 : List Cond := [Cond.fieldLink RX2 12 "SweepEqual" "nodes" "LSweepEqual$Nodes;", Cond.methodLink RX2 66 yX2_needLiteral, Cond.instanceMethod yX2_needLiteral, Cond.selects RX2 yX2_needLiteral yX2_needLiteral, Cond.initialized RX2, Cond.code yX2_needLiteral cX2_needLiteral 2 none, Cond.classLink RX2 120 "java/lang/IndexOutOfBoundsException", Cond.initialized "java/lang/IndexOutOfBoundsException", Cond.fieldLink RX2 169 "SweepEqual$Nodes" "count" "I", Cond.methodLink RX2 110 yX1_supportOf, Cond.instanceMethod yX1_supportOf, Cond.selects RX1 yX1_supportOf yX1_supportOf, Cond.initialized RX1, Cond.code yX1_supportOf cX1_supportOf 4 (some .int), Cond.methodLink RX1 53 yX1_hangsOn, Cond.instanceMethod yX1_hangsOn, Cond.selects RX1 yX1_hangsOn yX1_hangsOn, Cond.code yX1_hangsOn cX1_hangsOn 4 (some .boolean), Cond.methodLink RX1 81 yX1_wordHangsOn, Cond.instanceMethod yX1_wordHangsOn, Cond.selects RX1 yX1_wordHangsOn yX1_wordHangsOn, Cond.code yX1_wordHangsOn cX1_wordHangsOn 8 (some .boolean), Cond.fieldLink RX1 85 "SweepEqual$Nodes" "WORD_PATTERNS" "[J", Cond.constantLong RX1 88 (-1)]
def wsX2_hangs_r2 : List Cond := [Cond.methodLink RX1 37 yX1_wordOf, Cond.instanceMethod yX1_wordOf, Cond.selects RX1 yX1_wordOf yX1_wordOf, Cond.code yX1_wordOf cX1_wordOf 5 (some .long), Cond.fieldLink RX1 22 "SweepEqual$Nodes" "rows" "[J"]
def wsX2_hangs : List Cond := .code yX2_hangs cX2_hangs 2 (some .int) :: ((wsX2_hangs_r1 ++ wsX2_hangs_r2) ++ wsX20 ++ wsX10 ++ (vx_atS RX2 124 "java/lang/IndexOutOfBoundsException" ["java/lang/RuntimeException", "java/lang/Exception"]).filter goodWord)
def wsX2_ones_r1 : List Cond := [Cond.fieldLink RX2 12 "SweepEqual" "nodes" "LSweepEqual$Nodes;", Cond.fieldLink RX2 30 "SweepEqual" "inputCount" "I", Cond.fieldLink RX2 47 "SweepEqual" "latchCount" "I", Cond.methodLink RX2 66 yX2_needLiteral, Cond.instanceMethod yX2_needLiteral, Cond.selects RX2 yX2_needLiteral yX2_needLiteral, Cond.initialized RX2, Cond.code yX2_needLiteral cX2_needLiteral 2 none, Cond.classLink RX2 120 "java/lang/IndexOutOfBoundsException", Cond.initialized "java/lang/IndexOutOfBoundsException", Cond.fieldLink RX2 169 "SweepEqual$Nodes" "count" "I", Cond.methodLink RX2 113 yX1_countOnes, Cond.instanceMethod yX1_countOnes, Cond.selects RX1 yX1_countOnes yX1_countOnes, Cond.initialized RX1, Cond.code yX1_countOnes cX1_countOnes 4 (some .int), Cond.methodLink RX1 37 yX1_wordOf, Cond.instanceMethod yX1_wordOf, Cond.selects RX1 yX1_wordOf yX1_wordOf, Cond.code yX1_wordOf cX1_wordOf 5 (some .long), Cond.fieldLink RX1 22 "SweepEqual$Nodes" "rows" "[J", Cond.constantLong RX1 88 (-1), Cond.methodLink RX1 47 yJ13_bitCount_95d88, Cond.static yJ13_bitCount_95d88]
def wsX2_ones_r2 : List Cond := [Cond.initialized RJ13, Cond.code yJ13_bitCount_95d88 cJ13_bitCount_95d88 2 (some .int), Cond.constantLong RJ13 314 (6148914691236517205), Cond.constantLong RJ13 316 (3689348814741910323), Cond.constantLong RJ13 318 (1085102592571150095)]
def wsX2_ones : List Cond := .code yX2_ones cX2_ones 2 (some .int) :: ((wsX2_ones_r1 ++ wsX2_ones_r2) ++ wsX20 ++ wsX10 ++ (vx_atS RX2 124 "java/lang/IndexOutOfBoundsException" ["java/lang/RuntimeException", "java/lang/Exception"]).filter goodWord)
def wsX2_value : List Cond := .code yX2_value cX2_value 3 (some .int) :: ([.fieldLink RX2 12 "SweepEqual" "nodes" "LSweepEqual$Nodes;", .methodLink RX2 66 yX2_needLiteral, .instanceMethod yX2_needLiteral, .selects RX2 yX2_needLiteral yX2_needLiteral, .initialized RX2, .code yX2_needLiteral cX2_needLiteral 2 none, .classLink RX2 120 "java/lang/IndexOutOfBoundsException", .initialized "java/lang/IndexOutOfBoundsException", .fieldLink RX2 169 "SweepEqual$Nodes" "count" "I", .methodLink RX2 116 yX1_valueIn, .instanceMethod yX1_valueIn, .selects RX1 yX1_valueIn yX1_valueIn, .initialized RX1, .code yX1_valueIn cX1_valueIn 4 (some .int), .methodLink RX1 37 yX1_wordOf, .instanceMethod yX1_wordOf, .selects RX1 yX1_wordOf yX1_wordOf, .code yX1_wordOf cX1_wordOf 5 (some .long), .fieldLink RX1 22 "SweepEqual$Nodes" "rows" "[J", .constantLong RX1 88 (-1)] ++ wsX20 ++ wsX10 ++ (vx_atS RX2 124 "java/lang/IndexOutOfBoundsException" ["java/lang/RuntimeException", "java/lang/Exception"]).filter goodWord)
def wsX2_sharedOutputs : List Cond := .code yX2_sharedOutputs cX2_sharedOutputs 1 (some .int) :: ([.fieldLink RX2 19 "SweepEqual" "designA" "LSweepEqual$Design;", .fieldLink RX2 81 "SweepEqual$Design" "outputCount" "I", .fieldLink RX2 23 "SweepEqual" "designB" "LSweepEqual$Design;", .methodLink RX2 200 Lib.Math.min.name, .static Lib.Math.min.name, .initialized "java/lang/Math", .code Lib.Math.min.name Lib.Math.min.code 2 (some .int)] ++ wsX20 ++ wsX00)
def wsX2_countDifferent : List Cond := .code yX2_countDifferent cX2_countDifferent 6 (some .int) :: ([.fieldLink RX2 12 "SweepEqual" "nodes" "LSweepEqual$Nodes;", .methodLink RX2 96 yX1_areSame, .instanceMethod yX1_areSame, .selects RX1 yX1_areSame yX1_areSame, .initialized RX1, .code yX1_areSame cX1_areSame 3 (some .boolean), .methodLink RX1 40 yX1_firstOf, .instanceMethod yX1_firstOf, .selects RX1 yX1_firstOf yX1_firstOf, .code yX1_firstOf cX1_firstOf 2 (some .int), .fieldLink RX1 19 "SweepEqual$Nodes" "firsts" "[I"] ++ wsX20 ++ wsX10)
def wsX2_placeOfDifferent : List Cond := .code yX2_placeOfDifferent cX2_placeOfDifferent 7 (some .int) :: ([.fieldLink RX2 12 "SweepEqual" "nodes" "LSweepEqual$Nodes;", .methodLink RX2 96 yX1_areSame, .instanceMethod yX1_areSame, .selects RX1 yX1_areSame yX1_areSame, .initialized RX1, .code yX1_areSame cX1_areSame 3 (some .boolean), .methodLink RX1 40 yX1_firstOf, .instanceMethod yX1_firstOf, .selects RX1 yX1_firstOf yX1_firstOf, .code yX1_firstOf cX1_firstOf 2 (some .int), .fieldLink RX1 19 "SweepEqual$Nodes" "firsts" "[I"] ++ wsX20 ++ wsX10)
def wsX2_differentStartOrSize : List Cond := .code yX2_differentStartOrSize cX2_differentStartOrSize 5 (some .int) :: ([.fieldLink RX2 19 "SweepEqual" "designA" "LSweepEqual$Design;", .fieldLink RX2 205 "SweepEqual$Design" "starts" "I", .fieldLink RX2 23 "SweepEqual" "designB" "LSweepEqual$Design;", .fieldLink RX2 47 "SweepEqual" "latchCount" "I", .fieldLink RX2 81 "SweepEqual$Design" "outputCount" "I"] ++ wsX20 ++ wsX00)
def wsX2_differs_r1 : List Cond := [Cond.classLink RX2 120 "java/lang/IndexOutOfBoundsException", Cond.initialized "java/lang/IndexOutOfBoundsException", Cond.fieldLink RX2 19 "SweepEqual" "designA" "LSweepEqual$Design;", Cond.fieldLink RX2 128 "SweepEqual$Design" "outputs" "[I", Cond.fieldLink RX2 23 "SweepEqual" "designB" "LSweepEqual$Design;", Cond.fieldLink RX2 92 "SweepEqual$Design" "nexts" "[I", Cond.fieldLink RX2 47 "SweepEqual" "latchCount" "I", Cond.methodLink RX2 125 yX2_sharedOutputs, Cond.instanceMethod yX2_sharedOutputs, Cond.selects RX2 yX2_sharedOutputs yX2_sharedOutputs, Cond.initialized RX2, Cond.code yX2_sharedOutputs cX2_sharedOutputs 1 (some .int), Cond.fieldLink RX2 81 "SweepEqual$Design" "outputCount" "I", Cond.methodLink RX2 200 Lib.Math.min.name, Cond.static Lib.Math.min.name, Cond.initialized "java/lang/Math", Cond.code Lib.Math.min.name Lib.Math.min.code 2 (some .int), Cond.methodLink RX2 131 yX2_countDifferent, Cond.instanceMethod yX2_countDifferent, Cond.selects RX2 yX2_countDifferent yX2_countDifferent, Cond.code yX2_countDifferent cX2_countDifferent 6 (some .int), Cond.fieldLink RX2 12 "SweepEqual" "nodes" "LSweepEqual$Nodes;", Cond.methodLink RX2 96 yX1_areSame, Cond.instanceMethod yX1_areSame]
def wsX2_differs_r2 : List Cond := [Cond.selects RX1 yX1_areSame yX1_areSame, Cond.initialized RX1, Cond.code yX1_areSame cX1_areSame 3 (some .boolean), Cond.methodLink RX1 40 yX1_firstOf, Cond.instanceMethod yX1_firstOf, Cond.selects RX1 yX1_firstOf yX1_firstOf, Cond.code yX1_firstOf cX1_firstOf 2 (some .int), Cond.fieldLink RX1 19 "SweepEqual$Nodes" "firsts" "[I", Cond.methodLink RX2 135 yX2_placeOfDifferent, Cond.instanceMethod yX2_placeOfDifferent, Cond.selects RX2 yX2_placeOfDifferent yX2_placeOfDifferent, Cond.code yX2_placeOfDifferent cX2_placeOfDifferent 7 (some .int), Cond.methodLink RX2 139 yX2_differentStartOrSize, Cond.instanceMethod yX2_differentStartOrSize, Cond.selects RX2 yX2_differentStartOrSize yX2_differentStartOrSize, Cond.code yX2_differentStartOrSize cX2_differentStartOrSize 5 (some .int), Cond.fieldLink RX2 205 "SweepEqual$Design" "starts" "I"]
def wsX2_differs : List Cond := .code yX2_differs cX2_differs 5 (some .int) :: ((wsX2_differs_r1 ++ wsX2_differs_r2) ++ wsX20 ++ wsX00 ++ wsX10 ++ (vx_atS RX2 124 "java/lang/IndexOutOfBoundsException" ["java/lang/RuntimeException", "java/lang/Exception"]).filter goodWord)
def wsX2_witness_r1 : List Cond := [Cond.classLink RX2 120 "java/lang/IndexOutOfBoundsException", Cond.initialized "java/lang/IndexOutOfBoundsException", Cond.fieldLink RX2 12 "SweepEqual" "nodes" "LSweepEqual$Nodes;", Cond.fieldLink RX2 19 "SweepEqual" "designA" "LSweepEqual$Design;", Cond.fieldLink RX2 128 "SweepEqual$Design" "outputs" "[I", Cond.fieldLink RX2 23 "SweepEqual" "designB" "LSweepEqual$Design;", Cond.fieldLink RX2 47 "SweepEqual" "latchCount" "I", Cond.fieldLink RX2 92 "SweepEqual$Design" "nexts" "[I", Cond.methodLink RX2 125 yX2_sharedOutputs, Cond.instanceMethod yX2_sharedOutputs, Cond.selects RX2 yX2_sharedOutputs yX2_sharedOutputs, Cond.initialized RX2, Cond.code yX2_sharedOutputs cX2_sharedOutputs 1 (some .int), Cond.fieldLink RX2 81 "SweepEqual$Design" "outputCount" "I", Cond.methodLink RX2 200 Lib.Math.min.name, Cond.static Lib.Math.min.name, Cond.initialized "java/lang/Math", Cond.code Lib.Math.min.name Lib.Math.min.code 2 (some .int), Cond.methodLink RX2 142 yX1_leastDifference, Cond.instanceMethod yX1_leastDifference, Cond.selects RX1 yX1_leastDifference yX1_leastDifference, Cond.initialized RX1, Cond.code yX1_leastDifference cX1_leastDifference 6 (some .int), Cond.methodLink RX1 37 yX1_wordOf]
def wsX2_witness_r2 : List Cond := [Cond.instanceMethod yX1_wordOf, Cond.selects RX1 yX1_wordOf yX1_wordOf, Cond.code yX1_wordOf cX1_wordOf 5 (some .long), Cond.fieldLink RX1 22 "SweepEqual$Nodes" "rows" "[J", Cond.constantLong RX1 88 (-1), Cond.methodLink RX1 57 yJ13_numberOfTrailingZeros_95d88, Cond.static yJ13_numberOfTrailingZeros_95d88, Cond.initialized RJ13, Cond.code yJ13_numberOfTrailingZeros_95d88 cJ13_numberOfTrailingZeros_95d88 3 (some .int), Cond.methodLink RJ13 311 yJ6_numberOfTrailingZeros_0f7a4, Cond.static yJ6_numberOfTrailingZeros_0f7a4, Cond.initialized RJ6, Cond.code yJ6_numberOfTrailingZeros_0f7a4 cJ6_numberOfTrailingZeros_0f7a4 2 (some .int), Cond.constant RJ6 264 (65536)]
def wsX2_witness : List Cond := .code yX2_witness cX2_witness 3 (some .int) :: ((wsX2_witness_r1 ++ wsX2_witness_r2) ++ wsX20 ++ wsX00 ++ wsX10 ++ (vx_atS RX2 124 "java/lang/IndexOutOfBoundsException" ["java/lang/RuntimeException", "java/lang/Exception"]).filter goodWord)
def wsX2_reset : List Cond := .code yX2_reset cX2_reset 1 none :: ([.methodLink RX2 60 yX2_backToStarts, .instanceMethod yX2_backToStarts, .selects RX2 yX2_backToStarts yX2_backToStarts, .initialized RX2, .code yX2_backToStarts cX2_backToStarts 1 none, .fieldLink RX2 19 "SweepEqual" "designA" "LSweepEqual$Design;", .fieldLink RX2 23 "SweepEqual" "designB" "LSweepEqual$Design;", .fieldLink RX2 155 "SweepEqual" "steps" "I", .fieldLink RX2 26 "SweepEqual" "apartStep" "I", .methodLink RX2 199 yX0_backToStarts, .instanceMethod yX0_backToStarts, .selects RX0 yX0_backToStarts yX0_backToStarts, .initialized RX0, .code yX0_backToStarts cX0_backToStarts 1 none, .fieldLink RX0 25 "SweepEqual$Design" "starts" "I", .fieldLink RX0 28 "SweepEqual$Design" "states" "I", .fieldLink RX0 31 "SweepEqual$Design" "shownCount" "I"] ++ wsX20 ++ wsX00)
def wsX2_showApart : List Cond := .code yX2_showApart cX2_showApart 3 (some .boolean) :: ([.fieldLink RX2 19 "SweepEqual" "designA" "LSweepEqual$Design;", .fieldLink RX2 160 "SweepEqual$Design" "shownCount" "I", .fieldLink RX2 23 "SweepEqual" "designB" "LSweepEqual$Design;", .methodLink RX2 200 Lib.Math.min.name, .static Lib.Math.min.name, .initialized "java/lang/Math", .code Lib.Math.min.name Lib.Math.min.code 2 (some .int), .fieldLink RX2 163 "SweepEqual$Design" "shown" "[I"] ++ wsX20 ++ wsX00)
def wsX2_step_r1 : List Cond := [Cond.fieldLink RX2 19 "SweepEqual" "designA" "LSweepEqual$Design;", Cond.fieldLink RX2 12 "SweepEqual" "nodes" "LSweepEqual$Nodes;", Cond.fieldLink RX2 47 "SweepEqual" "latchCount" "I", Cond.fieldLink RX2 23 "SweepEqual" "designB" "LSweepEqual$Design;", Cond.fieldLink RX2 26 "SweepEqual" "apartStep" "I", Cond.fieldLink RX2 155 "SweepEqual" "steps" "I", Cond.methodLink RX2 147 yX0_runStep, Cond.instanceMethod yX0_runStep, Cond.selects RX0 yX0_runStep yX0_runStep, Cond.initialized RX0, Cond.code yX0_runStep cX0_runStep 7 none, Cond.fieldLink RX0 28 "SweepEqual$Design" "states" "I", Cond.fieldLink RX0 21 "SweepEqual$Design" "outputCount" "I", Cond.fieldLink RX0 18 "SweepEqual$Design" "shown" "[I", Cond.fieldLink RX0 9 "SweepEqual$Design" "outputs" "[I", Cond.fieldLink RX0 31 "SweepEqual$Design" "shownCount" "I", Cond.fieldLink RX0 15 "SweepEqual$Design" "nexts" "[I", Cond.methodLink RX0 34 yX1_valueIn, Cond.instanceMethod yX1_valueIn, Cond.selects RX1 yX1_valueIn yX1_valueIn, Cond.initialized RX1, Cond.code yX1_valueIn cX1_valueIn 4 (some .int), Cond.methodLink RX1 37 yX1_wordOf, Cond.instanceMethod yX1_wordOf]
def wsX2_step_r2 : List Cond := [Cond.selects RX1 yX1_wordOf yX1_wordOf, Cond.code yX1_wordOf cX1_wordOf 5 (some .long), Cond.fieldLink RX1 22 "SweepEqual$Nodes" "rows" "[J", Cond.constantLong RX1 88 (-1), Cond.methodLink RX2 151 yX2_showApart, Cond.instanceMethod yX2_showApart, Cond.selects RX2 yX2_showApart yX2_showApart, Cond.initialized RX2, Cond.code yX2_showApart cX2_showApart 3 (some .boolean), Cond.fieldLink RX2 160 "SweepEqual$Design" "shownCount" "I", Cond.methodLink RX2 200 Lib.Math.min.name, Cond.static Lib.Math.min.name, Cond.initialized "java/lang/Math", Cond.code Lib.Math.min.name Lib.Math.min.code 2 (some .int), Cond.fieldLink RX2 163 "SweepEqual$Design" "shown" "[I"]
def wsX2_step : List Cond := .code yX2_step cX2_step 2 (some .int) :: ((wsX2_step_r1 ++ wsX2_step_r2) ++ wsX20 ++ wsX00 ++ wsX10)
def wsX2_out : List Cond := .code yX2_out cX2_out 4 (some .int) :: ([.classLink RX2 120 "java/lang/IndexOutOfBoundsException", .initialized "java/lang/IndexOutOfBoundsException", .fieldLink RX2 81 "SweepEqual$Design" "outputCount" "I", .fieldLink RX2 160 "SweepEqual$Design" "shownCount" "I", .fieldLink RX2 163 "SweepEqual$Design" "shown" "[I", .methodLink RX2 63 yX2_needSide, .instanceMethod yX2_needSide, .selects RX2 yX2_needSide yX2_needSide, .initialized RX2, .code yX2_needSide cX2_needSide 2 none, .methodLink RX2 77 yX2_designOf, .instanceMethod yX2_designOf, .selects RX2 yX2_designOf yX2_designOf, .code yX2_designOf cX2_designOf 2 (some (.object "SweepEqual$Design")), .fieldLink RX2 19 "SweepEqual" "designA" "LSweepEqual$Design;", .fieldLink RX2 23 "SweepEqual" "designB" "LSweepEqual$Design;"] ++ wsX00 ++ wsX20 ++ (vx_atS RX2 124 "java/lang/IndexOutOfBoundsException" ["java/lang/RuntimeException", "java/lang/Exception"]).filter goodWord)
def wsX2_state : List Cond := .code yX2_state cX2_state 3 (some .int) :: ([.fieldLink RX2 166 "SweepEqual$Design" "states" "I", .methodLink RX2 63 yX2_needSide, .instanceMethod yX2_needSide, .selects RX2 yX2_needSide yX2_needSide, .initialized RX2, .code yX2_needSide cX2_needSide 2 none, .classLink RX2 120 "java/lang/IndexOutOfBoundsException", .initialized "java/lang/IndexOutOfBoundsException", .methodLink RX2 89 yX2_needLatch, .instanceMethod yX2_needLatch, .selects RX2 yX2_needLatch yX2_needLatch, .code yX2_needLatch cX2_needLatch 2 none, .fieldLink RX2 47 "SweepEqual" "latchCount" "I", .methodLink RX2 77 yX2_designOf, .instanceMethod yX2_designOf, .selects RX2 yX2_designOf yX2_designOf, .code yX2_designOf cX2_designOf 2 (some (.object "SweepEqual$Design")), .fieldLink RX2 19 "SweepEqual" "designA" "LSweepEqual$Design;", .fieldLink RX2 23 "SweepEqual" "designB" "LSweepEqual$Design;"] ++ wsX00 ++ wsX20 ++ (vx_atS RX2 124 "java/lang/IndexOutOfBoundsException" ["java/lang/RuntimeException", "java/lang/Exception"]).filter goodWord)
def wsX2_apart : List Cond := .code yX2_apart cX2_apart 1 (some .int) :: ([.fieldLink RX2 26 "SweepEqual" "apartStep" "I"] ++ wsX20)
def wsX2_count : List Cond := .code yX2_count cX2_count 2 (some .int) :: ([.classLink RX2 120 "java/lang/IndexOutOfBoundsException", .initialized "java/lang/IndexOutOfBoundsException", .fieldLink RX2 12 "SweepEqual" "nodes" "LSweepEqual$Nodes;", .fieldLink RX2 169 "SweepEqual$Nodes" "count" "I", .fieldLink RX2 30 "SweepEqual" "inputCount" "I", .fieldLink RX2 47 "SweepEqual" "latchCount" "I", .fieldLink RX2 19 "SweepEqual" "designA" "LSweepEqual$Design;", .fieldLink RX2 81 "SweepEqual$Design" "outputCount" "I", .fieldLink RX2 23 "SweepEqual" "designB" "LSweepEqual$Design;", .methodLink RX2 172 yX1_countAnds, .instanceMethod yX1_countAnds, .selects RX1 yX1_countAnds yX1_countAnds, .initialized RX1, .code yX1_countAnds cX1_countAnds 4 (some .int), .fieldLink RX1 11 "SweepEqual$Nodes" "count" "I", .fieldLink RX1 15 "SweepEqual$Nodes" "owners" "[I"] ++ wsX20 ++ wsX10 ++ wsX00 ++ (vx_atS RX2 124 "java/lang/IndexOutOfBoundsException" ["java/lang/RuntimeException", "java/lang/Exception"]).filter goodWord)
def wsX2_clear_r1 : List Cond := [Cond.fieldLink RX2 12 "SweepEqual" "nodes" "LSweepEqual$Nodes;", Cond.fieldLink RX2 19 "SweepEqual" "designA" "LSweepEqual$Design;", Cond.fieldLink RX2 23 "SweepEqual" "designB" "LSweepEqual$Design;", Cond.fieldLink RX2 30 "SweepEqual" "inputCount" "I", Cond.fieldLink RX2 47 "SweepEqual" "latchCount" "I", Cond.methodLink RX2 177 yX1_forget, Cond.instanceMethod yX1_forget, Cond.selects RX1 yX1_forget yX1_forget, Cond.initialized RX1, Cond.code yX1_forget cX1_forget 1 none, Cond.fieldLink RX1 11 "SweepEqual$Nodes" "count" "I", Cond.methodLink RX2 180 yX0_forget, Cond.instanceMethod yX0_forget, Cond.selects RX0 yX0_forget yX0_forget, Cond.initialized RX0, Cond.code yX0_forget cX0_forget 1 none, Cond.fieldLink RX0 21 "SweepEqual$Design" "outputCount" "I", Cond.fieldLink RX0 25 "SweepEqual$Design" "starts" "I", Cond.methodLink RX2 60 yX2_backToStarts, Cond.instanceMethod yX2_backToStarts, Cond.selects RX2 yX2_backToStarts yX2_backToStarts, Cond.initialized RX2, Cond.code yX2_backToStarts cX2_backToStarts 1 none, Cond.fieldLink RX2 155 "SweepEqual" "steps" "I"]
def wsX2_clear_r2 : List Cond := [Cond.fieldLink RX2 26 "SweepEqual" "apartStep" "I", Cond.methodLink RX2 199 yX0_backToStarts, Cond.instanceMethod yX0_backToStarts, Cond.selects RX0 yX0_backToStarts yX0_backToStarts, Cond.code yX0_backToStarts cX0_backToStarts 1 none, Cond.fieldLink RX0 28 "SweepEqual$Design" "states" "I", Cond.fieldLink RX0 31 "SweepEqual$Design" "shownCount" "I"]
def wsX2_clear : List Cond := .code yX2_clear cX2_clear 1 none :: ((wsX2_clear_r1 ++ wsX2_clear_r2) ++ wsX20 ++ wsX10 ++ wsX00)
def wsX3_start : List Cond := .code yX3_start cX3_start 2 none :: ([.fieldLink RX3 26 "SweepEqualModel" "states" "[I", .fieldLink RX3 20 "SweepEqualModel" "starts" "[I", .fieldLink RX3 103 "SweepEqualModel" "steps" "I", .fieldLink RX3 106 "SweepEqualModel" "firstApart" "I", .fieldLink RX3 38 "SweepEqualModel" "toldCounts" "[I"] ++ wsX30)
def wsX3_clear : List Cond := .code yX3_clear cX3_clear 2 none :: ([.fieldLink RX3 44 "SweepEqualModel" "thrown" "I", .fieldLink RX3 48 "SweepEqualModel" "nodes" "I", .fieldLink RX3 7 "SweepEqualModel" "sides" "[I", .fieldLink RX3 13 "SweepEqualModel" "tables" "[J", .fieldLink RX3 51 "SweepEqualModel" "inputs" "I", .fieldLink RX3 54 "SweepEqualModel" "latches" "I", .fieldLink RX3 29 "SweepEqualModel" "outputCounts" "[I", .methodLink RX3 65 yX3_start, .instanceMethod yX3_start, .selects RX3 yX3_start yX3_start, .initialized RX3, .code yX3_start cX3_start 2 none, .fieldLink RX3 26 "SweepEqualModel" "states" "[I", .fieldLink RX3 20 "SweepEqualModel" "starts" "[I", .fieldLink RX3 103 "SweepEqualModel" "steps" "I", .fieldLink RX3 106 "SweepEqualModel" "firstApart" "I", .fieldLink RX3 38 "SweepEqualModel" "toldCounts" "[I"] ++ wsX30)
def wsX3_init_r1 : List Cond := [Cond.methodLink RX3 1 objectInit, Cond.instanceMethod objectInit, Cond.code objectInit ⟨#[0xb1]⟩ 1 none, Cond.arrayClass .int, Cond.fieldLink RX3 7 "SweepEqualModel" "sides" "[I", Cond.arrayClass .long, Cond.fieldLink RX3 13 "SweepEqualModel" "tables" "[J", Cond.fieldLink RX3 17 "SweepEqualModel" "latchNodes" "[I", Cond.fieldLink RX3 20 "SweepEqualModel" "starts" "[I", Cond.fieldLink RX3 23 "SweepEqualModel" "nexts" "[I", Cond.fieldLink RX3 26 "SweepEqualModel" "states" "[I", Cond.fieldLink RX3 29 "SweepEqualModel" "outputCounts" "[I", Cond.fieldLink RX3 32 "SweepEqualModel" "outputs" "[I", Cond.fieldLink RX3 35 "SweepEqualModel" "told" "[I", Cond.fieldLink RX3 38 "SweepEqualModel" "toldCounts" "[I", Cond.methodLink RX3 41 yX3_clear, Cond.instanceMethod yX3_clear, Cond.selects RX3 yX3_clear yX3_clear, Cond.initialized RX3, Cond.code yX3_clear cX3_clear 2 none, Cond.fieldLink RX3 44 "SweepEqualModel" "thrown" "I", Cond.fieldLink RX3 48 "SweepEqualModel" "nodes" "I", Cond.fieldLink RX3 51 "SweepEqualModel" "inputs" "I", Cond.fieldLink RX3 54 "SweepEqualModel" "latches" "I"]
def wsX3_init_r2 : List Cond := [Cond.methodLink RX3 65 yX3_start, Cond.instanceMethod yX3_start, Cond.selects RX3 yX3_start yX3_start, Cond.code yX3_start cX3_start 2 none, Cond.fieldLink RX3 103 "SweepEqualModel" "steps" "I", Cond.fieldLink RX3 106 "SweepEqualModel" "firstApart" "I"]
def wsX3_init : List Cond := .code yX3_init cX3_init 1 none :: ((wsX3_init_r1 ++ wsX3_init_r2) ++ wsX30)
def wsX3_thrown : List Cond := .code yX3_thrown cX3_thrown 1 (some .int) :: ([.fieldLink RX3 44 "SweepEqualModel" "thrown" "I"] ++ wsX30)
def wsX3_isIn : List Cond := .code yX3_isIn cX3_isIn 2 (some .boolean) :: ([])
def wsX3_isLiteral : List Cond := .code yX3_isLiteral cX3_isLiteral 2 (some .boolean) :: ([.fieldLink RX3 48 "SweepEqualModel" "nodes" "I"] ++ wsX30)
def wsX3_isSide : List Cond := .code yX3_isSide cX3_isSide 1 (some .boolean) :: ([])
def wsX3_present : List Cond := .code yX3_present cX3_present 1 (some .int) :: ([.fieldLink RX3 51 "SweepEqualModel" "inputs" "I", .fieldLink RX3 54 "SweepEqualModel" "latches" "I"] ++ wsX30)
def wsX3_bit : List Cond := .code yX3_bit cX3_bit 5 (some .int) :: ([.fieldLink RX3 13 "SweepEqualModel" "tables" "[J"] ++ wsX30)
def wsX3_variable : List Cond := .code yX3_variable cX3_variable 3 (some .int) :: ([.fieldLink RX3 13 "SweepEqualModel" "tables" "[J", .fieldLink RX3 48 "SweepEqualModel" "nodes" "I", .fieldLink RX3 7 "SweepEqualModel" "sides" "[I"] ++ wsX30)
def wsX3_input : List Cond := .code yX3_input cX3_input 1 (some .int) :: ([.fieldLink RX3 51 "SweepEqualModel" "inputs" "I", .fieldLink RX3 48 "SweepEqualModel" "nodes" "I", .fieldLink RX3 44 "SweepEqualModel" "thrown" "I", .methodLink RX3 57 yX3_variable, .instanceMethod yX3_variable, .selects RX3 yX3_variable yX3_variable, .initialized RX3, .code yX3_variable cX3_variable 3 (some .int), .fieldLink RX3 13 "SweepEqualModel" "tables" "[J", .fieldLink RX3 7 "SweepEqualModel" "sides" "[I"] ++ wsX30)
def wsX3_latch : List Cond := .code yX3_latch cX3_latch 5 (some .int) :: ([.fieldLink RX3 54 "SweepEqualModel" "latches" "I", .fieldLink RX3 48 "SweepEqualModel" "nodes" "I", .fieldLink RX3 44 "SweepEqualModel" "thrown" "I", .fieldLink RX3 17 "SweepEqualModel" "latchNodes" "[I", .fieldLink RX3 20 "SweepEqualModel" "starts" "[I", .fieldLink RX3 23 "SweepEqualModel" "nexts" "[I", .methodLink RX3 61 yX3_isSide, .static yX3_isSide, .initialized RX3, .code yX3_isSide cX3_isSide 1 (some .boolean), .methodLink RX3 57 yX3_variable, .instanceMethod yX3_variable, .selects RX3 yX3_variable yX3_variable, .code yX3_variable cX3_variable 3 (some .int), .fieldLink RX3 13 "SweepEqualModel" "tables" "[J", .fieldLink RX3 7 "SweepEqualModel" "sides" "[I", .methodLink RX3 65 yX3_start, .instanceMethod yX3_start, .selects RX3 yX3_start yX3_start, .code yX3_start cX3_start 2 none, .fieldLink RX3 26 "SweepEqualModel" "states" "[I", .fieldLink RX3 103 "SweepEqualModel" "steps" "I", .fieldLink RX3 106 "SweepEqualModel" "firstApart" "I", .fieldLink RX3 38 "SweepEqualModel" "toldCounts" "[I"] ++ wsX30)
def wsX3_isOther : List Cond := .code yX3_isOther cX3_isOther 3 (some .boolean) :: ([.fieldLink RX3 7 "SweepEqualModel" "sides" "[I"] ++ wsX30)
def wsX3_and : List Cond := .code yX3_and cX3_and 10 (some .int) :: ([.fieldLink RX3 48 "SweepEqualModel" "nodes" "I", .fieldLink RX3 44 "SweepEqualModel" "thrown" "I", .constantLong RX3 75 (-1), .fieldLink RX3 13 "SweepEqualModel" "tables" "[J", .fieldLink RX3 7 "SweepEqualModel" "sides" "[I", .methodLink RX3 61 yX3_isSide, .static yX3_isSide, .initialized RX3, .code yX3_isSide cX3_isSide 1 (some .boolean), .methodLink RX3 68 yX3_isLiteral, .instanceMethod yX3_isLiteral, .selects RX3 yX3_isLiteral yX3_isLiteral, .code yX3_isLiteral cX3_isLiteral 2 (some .boolean), .methodLink RX3 71 yX3_isOther, .instanceMethod yX3_isOther, .selects RX3 yX3_isOther yX3_isOther, .code yX3_isOther cX3_isOther 3 (some .boolean)] ++ wsX30)
def wsX3_output : List Cond := .code yX3_output cX3_output 4 (some .int) :: ([.fieldLink RX3 29 "SweepEqualModel" "outputCounts" "[I", .fieldLink RX3 44 "SweepEqualModel" "thrown" "I", .fieldLink RX3 32 "SweepEqualModel" "outputs" "[I", .methodLink RX3 61 yX3_isSide, .static yX3_isSide, .initialized RX3, .code yX3_isSide cX3_isSide 1 (some .boolean), .methodLink RX3 68 yX3_isLiteral, .instanceMethod yX3_isLiteral, .selects RX3 yX3_isLiteral yX3_isLiteral, .code yX3_isLiteral cX3_isLiteral 2 (some .boolean), .fieldLink RX3 48 "SweepEqualModel" "nodes" "I", .methodLink RX3 71 yX3_isOther, .instanceMethod yX3_isOther, .selects RX3 yX3_isOther yX3_isOther, .code yX3_isOther cX3_isOther 3 (some .boolean), .fieldLink RX3 7 "SweepEqualModel" "sides" "[I"] ++ wsX30)
def wsX3_next : List Cond := .code yX3_next cX3_next 6 (some .int) :: ([.fieldLink RX3 54 "SweepEqualModel" "latches" "I", .fieldLink RX3 44 "SweepEqualModel" "thrown" "I", .fieldLink RX3 23 "SweepEqualModel" "nexts" "[I", .methodLink RX3 61 yX3_isSide, .static yX3_isSide, .initialized RX3, .code yX3_isSide cX3_isSide 1 (some .boolean), .methodLink RX3 77 yX3_isIn, .static yX3_isIn, .code yX3_isIn cX3_isIn 2 (some .boolean), .methodLink RX3 68 yX3_isLiteral, .instanceMethod yX3_isLiteral, .selects RX3 yX3_isLiteral yX3_isLiteral, .code yX3_isLiteral cX3_isLiteral 2 (some .boolean), .fieldLink RX3 48 "SweepEqualModel" "nodes" "I", .methodLink RX3 71 yX3_isOther, .instanceMethod yX3_isOther, .selects RX3 yX3_isOther yX3_isOther, .code yX3_isOther cX3_isOther 3 (some .boolean), .fieldLink RX3 7 "SweepEqualModel" "sides" "[I"] ++ wsX30)
def wsX3_areSame : List Cond := .code yX3_areSame cX3_areSame 6 (some .boolean) :: ([.constantLong RX3 75 (-1), .fieldLink RX3 13 "SweepEqualModel" "tables" "[J"] ++ wsX30)
def wsX3_same : List Cond := .code yX3_same cX3_same 3 (some .boolean) :: ([.fieldLink RX3 44 "SweepEqualModel" "thrown" "I", .methodLink RX3 68 yX3_isLiteral, .instanceMethod yX3_isLiteral, .selects RX3 yX3_isLiteral yX3_isLiteral, .initialized RX3, .code yX3_isLiteral cX3_isLiteral 2 (some .boolean), .fieldLink RX3 48 "SweepEqualModel" "nodes" "I", .methodLink RX3 80 yX3_areSame, .instanceMethod yX3_areSame, .selects RX3 yX3_areSame yX3_areSame, .code yX3_areSame cX3_areSame 6 (some .boolean), .constantLong RX3 75 (-1), .fieldLink RX3 13 "SweepEqualModel" "tables" "[J"] ++ wsX30)
def wsX3_firstOf : List Cond := .code yX3_firstOf cX3_firstOf 3 (some .int) :: ([.methodLink RX3 80 yX3_areSame, .instanceMethod yX3_areSame, .selects RX3 yX3_areSame yX3_areSame, .initialized RX3, .code yX3_areSame cX3_areSame 6 (some .boolean), .constantLong RX3 75 (-1), .fieldLink RX3 13 "SweepEqualModel" "tables" "[J"] ++ wsX30)
def wsX3_first : List Cond := .code yX3_first cX3_first 2 (some .int) :: ([.fieldLink RX3 44 "SweepEqualModel" "thrown" "I", .methodLink RX3 68 yX3_isLiteral, .instanceMethod yX3_isLiteral, .selects RX3 yX3_isLiteral yX3_isLiteral, .initialized RX3, .code yX3_isLiteral cX3_isLiteral 2 (some .boolean), .fieldLink RX3 48 "SweepEqualModel" "nodes" "I", .methodLink RX3 83 yX3_firstOf, .instanceMethod yX3_firstOf, .selects RX3 yX3_firstOf yX3_firstOf, .code yX3_firstOf cX3_firstOf 3 (some .int), .methodLink RX3 80 yX3_areSame, .instanceMethod yX3_areSame, .selects RX3 yX3_areSame yX3_areSame, .code yX3_areSame cX3_areSame 6 (some .boolean), .constantLong RX3 75 (-1), .fieldLink RX3 13 "SweepEqualModel" "tables" "[J"] ++ wsX30)
def wsX3_isLeast : List Cond := .code yX3_isLeast cX3_isLeast 3 (some .boolean) :: ([.methodLink RX3 80 yX3_areSame, .instanceMethod yX3_areSame, .selects RX3 yX3_areSame yX3_areSame, .initialized RX3, .code yX3_areSame cX3_areSame 6 (some .boolean), .constantLong RX3 75 (-1), .fieldLink RX3 13 "SweepEqualModel" "tables" "[J"] ++ wsX30)
def wsX3_classes : List Cond := .code yX3_classes cX3_classes 3 (some .int) :: ([.fieldLink RX3 44 "SweepEqualModel" "thrown" "I", .fieldLink RX3 48 "SweepEqualModel" "nodes" "I", .methodLink RX3 86 yX3_isLeast, .instanceMethod yX3_isLeast, .selects RX3 yX3_isLeast yX3_isLeast, .initialized RX3, .code yX3_isLeast cX3_isLeast 3 (some .boolean), .methodLink RX3 80 yX3_areSame, .instanceMethod yX3_areSame, .selects RX3 yX3_areSame yX3_areSame, .code yX3_areSame cX3_areSame 6 (some .boolean), .constantLong RX3 75 (-1), .fieldLink RX3 13 "SweepEqualModel" "tables" "[J"] ++ wsX30)
def wsX3_merged : List Cond := .code yX3_merged cX3_merged 4 (some .int) :: ([.fieldLink RX3 44 "SweepEqualModel" "thrown" "I", .fieldLink RX3 48 "SweepEqualModel" "nodes" "I", .fieldLink RX3 7 "SweepEqualModel" "sides" "[I", .methodLink RX3 61 yX3_isSide, .static yX3_isSide, .initialized RX3, .code yX3_isSide cX3_isSide 1 (some .boolean), .methodLink RX3 86 yX3_isLeast, .instanceMethod yX3_isLeast, .selects RX3 yX3_isLeast yX3_isLeast, .code yX3_isLeast cX3_isLeast 3 (some .boolean), .methodLink RX3 80 yX3_areSame, .instanceMethod yX3_areSame, .selects RX3 yX3_areSame yX3_areSame, .code yX3_areSame cX3_areSame 6 (some .boolean), .constantLong RX3 75 (-1), .fieldLink RX3 13 "SweepEqualModel" "tables" "[J"] ++ wsX30)
def wsX3_hangs : List Cond := .code yX3_hangs cX3_hangs 5 (some .int) :: ([.fieldLink RX3 44 "SweepEqualModel" "thrown" "I", .methodLink RX3 68 yX3_isLiteral, .instanceMethod yX3_isLiteral, .selects RX3 yX3_isLiteral yX3_isLiteral, .initialized RX3, .code yX3_isLiteral cX3_isLiteral 2 (some .boolean), .fieldLink RX3 48 "SweepEqualModel" "nodes" "I", .methodLink RX3 89 yX3_bit, .instanceMethod yX3_bit, .selects RX3 yX3_bit yX3_bit, .code yX3_bit cX3_bit 5 (some .int), .fieldLink RX3 13 "SweepEqualModel" "tables" "[J"] ++ wsX30)
def wsX3_ones : List Cond := .code yX3_ones cX3_ones 4 (some .int) :: ([.fieldLink RX3 44 "SweepEqualModel" "thrown" "I", .methodLink RX3 68 yX3_isLiteral, .instanceMethod yX3_isLiteral, .selects RX3 yX3_isLiteral yX3_isLiteral, .initialized RX3, .code yX3_isLiteral cX3_isLiteral 2 (some .boolean), .fieldLink RX3 48 "SweepEqualModel" "nodes" "I", .methodLink RX3 93 yX3_present, .instanceMethod yX3_present, .selects RX3 yX3_present yX3_present, .code yX3_present cX3_present 1 (some .int), .fieldLink RX3 51 "SweepEqualModel" "inputs" "I", .fieldLink RX3 54 "SweepEqualModel" "latches" "I", .methodLink RX3 89 yX3_bit, .instanceMethod yX3_bit, .selects RX3 yX3_bit yX3_bit, .code yX3_bit cX3_bit 5 (some .int), .fieldLink RX3 13 "SweepEqualModel" "tables" "[J"] ++ wsX30)
def wsX3_value : List Cond := .code yX3_value cX3_value 3 (some .int) :: ([.fieldLink RX3 44 "SweepEqualModel" "thrown" "I", .methodLink RX3 68 yX3_isLiteral, .instanceMethod yX3_isLiteral, .selects RX3 yX3_isLiteral yX3_isLiteral, .initialized RX3, .code yX3_isLiteral cX3_isLiteral 2 (some .boolean), .fieldLink RX3 48 "SweepEqualModel" "nodes" "I", .methodLink RX3 93 yX3_present, .instanceMethod yX3_present, .selects RX3 yX3_present yX3_present, .code yX3_present cX3_present 1 (some .int), .fieldLink RX3 51 "SweepEqualModel" "inputs" "I", .fieldLink RX3 54 "SweepEqualModel" "latches" "I", .methodLink RX3 89 yX3_bit, .instanceMethod yX3_bit, .selects RX3 yX3_bit yX3_bit, .code yX3_bit cX3_bit 5 (some .int), .fieldLink RX3 13 "SweepEqualModel" "tables" "[J"] ++ wsX30)
def wsX3_both : List Cond := .code yX3_both cX3_both 1 (some .int) :: ([.fieldLink RX3 29 "SweepEqualModel" "outputCounts" "[I"] ++ wsX30)
def wsX3_isApart : List Cond := .code yX3_isApart cX3_isApart 2 (some .boolean) :: ([.fieldLink RX3 32 "SweepEqualModel" "outputs" "[I", .fieldLink RX3 54 "SweepEqualModel" "latches" "I", .fieldLink RX3 23 "SweepEqualModel" "nexts" "[I", .fieldLink RX3 20 "SweepEqualModel" "starts" "[I", .fieldLink RX3 29 "SweepEqualModel" "outputCounts" "[I", .methodLink RX3 97 yX3_both, .instanceMethod yX3_both, .selects RX3 yX3_both yX3_both, .initialized RX3, .code yX3_both cX3_both 1 (some .int), .methodLink RX3 80 yX3_areSame, .instanceMethod yX3_areSame, .selects RX3 yX3_areSame yX3_areSame, .code yX3_areSame cX3_areSame 6 (some .boolean), .constantLong RX3 75 (-1), .fieldLink RX3 13 "SweepEqualModel" "tables" "[J"] ++ wsX30)
def wsX3_differs : List Cond := .code yX3_differs cX3_differs 5 (some .int) :: ([.fieldLink RX3 44 "SweepEqualModel" "thrown" "I", .methodLink RX3 100 yX3_isApart, .instanceMethod yX3_isApart, .selects RX3 yX3_isApart yX3_isApart, .initialized RX3, .code yX3_isApart cX3_isApart 2 (some .boolean), .fieldLink RX3 32 "SweepEqualModel" "outputs" "[I", .fieldLink RX3 54 "SweepEqualModel" "latches" "I", .fieldLink RX3 23 "SweepEqualModel" "nexts" "[I", .fieldLink RX3 20 "SweepEqualModel" "starts" "[I", .fieldLink RX3 29 "SweepEqualModel" "outputCounts" "[I", .methodLink RX3 97 yX3_both, .instanceMethod yX3_both, .selects RX3 yX3_both yX3_both, .code yX3_both cX3_both 1 (some .int), .methodLink RX3 80 yX3_areSame, .instanceMethod yX3_areSame, .selects RX3 yX3_areSame yX3_areSame, .code yX3_areSame cX3_areSame 6 (some .boolean), .constantLong RX3 75 (-1), .fieldLink RX3 13 "SweepEqualModel" "tables" "[J"] ++ wsX30)
def wsX3_witness : List Cond := .code yX3_witness cX3_witness 7 (some .int) :: ([.fieldLink RX3 54 "SweepEqualModel" "latches" "I", .fieldLink RX3 44 "SweepEqualModel" "thrown" "I", .fieldLink RX3 32 "SweepEqualModel" "outputs" "[I", .fieldLink RX3 23 "SweepEqualModel" "nexts" "[I", .methodLink RX3 97 yX3_both, .instanceMethod yX3_both, .selects RX3 yX3_both yX3_both, .initialized RX3, .code yX3_both cX3_both 1 (some .int), .fieldLink RX3 29 "SweepEqualModel" "outputCounts" "[I", .methodLink RX3 77 yX3_isIn, .static yX3_isIn, .code yX3_isIn cX3_isIn 2 (some .boolean), .methodLink RX3 89 yX3_bit, .instanceMethod yX3_bit, .selects RX3 yX3_bit yX3_bit, .code yX3_bit cX3_bit 5 (some .int), .fieldLink RX3 13 "SweepEqualModel" "tables" "[J"] ++ wsX30)
def wsX3_reset : List Cond := .code yX3_reset cX3_reset 1 none :: ([.fieldLink RX3 44 "SweepEqualModel" "thrown" "I", .methodLink RX3 65 yX3_start, .instanceMethod yX3_start, .selects RX3 yX3_start yX3_start, .initialized RX3, .code yX3_start cX3_start 2 none, .fieldLink RX3 26 "SweepEqualModel" "states" "[I", .fieldLink RX3 20 "SweepEqualModel" "starts" "[I", .fieldLink RX3 103 "SweepEqualModel" "steps" "I", .fieldLink RX3 106 "SweepEqualModel" "firstApart" "I", .fieldLink RX3 38 "SweepEqualModel" "toldCounts" "[I"] ++ wsX30)
def wsX3_assignment : List Cond := .code yX3_assignment cX3_assignment 5 (some .int) :: ([.fieldLink RX3 51 "SweepEqualModel" "inputs" "I", .fieldLink RX3 54 "SweepEqualModel" "latches" "I", .fieldLink RX3 26 "SweepEqualModel" "states" "[I"] ++ wsX30)
def wsX3_step_r1 : List Cond := [Cond.fieldLink RX3 44 "SweepEqualModel" "thrown" "I", Cond.fieldLink RX3 29 "SweepEqualModel" "outputCounts" "[I", Cond.fieldLink RX3 35 "SweepEqualModel" "told" "[I", Cond.fieldLink RX3 32 "SweepEqualModel" "outputs" "[I", Cond.fieldLink RX3 38 "SweepEqualModel" "toldCounts" "[I", Cond.fieldLink RX3 54 "SweepEqualModel" "latches" "I", Cond.fieldLink RX3 26 "SweepEqualModel" "states" "[I", Cond.fieldLink RX3 23 "SweepEqualModel" "nexts" "[I", Cond.fieldLink RX3 106 "SweepEqualModel" "firstApart" "I", Cond.fieldLink RX3 103 "SweepEqualModel" "steps" "I", Cond.methodLink RX3 109 yX3_assignment, Cond.instanceMethod yX3_assignment, Cond.selects RX3 yX3_assignment yX3_assignment, Cond.initialized RX3, Cond.code yX3_assignment cX3_assignment 5 (some .int), Cond.fieldLink RX3 51 "SweepEqualModel" "inputs" "I", Cond.methodLink RX3 89 yX3_bit, Cond.instanceMethod yX3_bit, Cond.selects RX3 yX3_bit yX3_bit, Cond.code yX3_bit cX3_bit 5 (some .int), Cond.fieldLink RX3 13 "SweepEqualModel" "tables" "[J", Cond.methodLink RX3 97 yX3_both, Cond.instanceMethod yX3_both, Cond.selects RX3 yX3_both yX3_both]
def wsX3_step_r2 : List Cond := [Cond.code yX3_both cX3_both 1 (some .int)]
def wsX3_step : List Cond := .code yX3_step cX3_step 5 (some .int) :: ((wsX3_step_r1 ++ wsX3_step_r2) ++ wsX30)
def wsX3_out : List Cond := .code yX3_out cX3_out 3 (some .int) :: ([.fieldLink RX3 29 "SweepEqualModel" "outputCounts" "[I", .fieldLink RX3 44 "SweepEqualModel" "thrown" "I", .fieldLink RX3 38 "SweepEqualModel" "toldCounts" "[I", .fieldLink RX3 35 "SweepEqualModel" "told" "[I", .methodLink RX3 61 yX3_isSide, .static yX3_isSide, .initialized RX3, .code yX3_isSide cX3_isSide 1 (some .boolean), .methodLink RX3 77 yX3_isIn, .static yX3_isIn, .code yX3_isIn cX3_isIn 2 (some .boolean)] ++ wsX30)
def wsX3_state : List Cond := .code yX3_state cX3_state 3 (some .int) :: ([.fieldLink RX3 54 "SweepEqualModel" "latches" "I", .fieldLink RX3 44 "SweepEqualModel" "thrown" "I", .fieldLink RX3 26 "SweepEqualModel" "states" "[I", .methodLink RX3 61 yX3_isSide, .static yX3_isSide, .initialized RX3, .code yX3_isSide cX3_isSide 1 (some .boolean), .methodLink RX3 77 yX3_isIn, .static yX3_isIn, .code yX3_isIn cX3_isIn 2 (some .boolean)] ++ wsX30)
def wsX3_apart : List Cond := .code yX3_apart cX3_apart 1 (some .int) :: ([.fieldLink RX3 44 "SweepEqualModel" "thrown" "I", .fieldLink RX3 106 "SweepEqualModel" "firstApart" "I"] ++ wsX30)
def wsX3_ands : List Cond := .code yX3_ands cX3_ands 4 (some .int) :: ([.fieldLink RX3 48 "SweepEqualModel" "nodes" "I", .fieldLink RX3 7 "SweepEqualModel" "sides" "[I"] ++ wsX30)
def wsX3_count : List Cond := .code yX3_count cX3_count 2 (some .int) :: ([.fieldLink RX3 44 "SweepEqualModel" "thrown" "I", .fieldLink RX3 48 "SweepEqualModel" "nodes" "I", .fieldLink RX3 51 "SweepEqualModel" "inputs" "I", .fieldLink RX3 54 "SweepEqualModel" "latches" "I", .fieldLink RX3 29 "SweepEqualModel" "outputCounts" "[I", .methodLink RX3 77 yX3_isIn, .static yX3_isIn, .initialized RX3, .code yX3_isIn cX3_isIn 2 (some .boolean), .methodLink RX3 112 yX3_ands, .instanceMethod yX3_ands, .selects RX3 yX3_ands yX3_ands, .code yX3_ands cX3_ands 4 (some .int), .fieldLink RX3 7 "SweepEqualModel" "sides" "[I"] ++ wsX30)
def wsJ9_min_7cf53 : List Cond := .code yJ9_min_7cf53 cJ9_min_7cf53 2 (some .int) :: ([])
def wsL_input_r1 : List Cond := [Cond.classLink RL 13 "java/lang/IllegalStateException", Cond.methodLink RL 7 yX2_input, Cond.instanceMethod yX2_input, Cond.selects RX2 yX2_input yX2_input, Cond.initialized RX2, Cond.code yX2_input cX2_input 2 (some .int), Cond.classLink RX2 33 "java/lang/IllegalStateException", Cond.initialized "java/lang/IllegalStateException", Cond.fieldLink RX2 30 "SweepEqual" "inputCount" "I", Cond.fieldLink RX2 12 "SweepEqual" "nodes" "LSweepEqual$Nodes;", Cond.methodLink RX2 40 yX2_needRoomForNode, Cond.instanceMethod yX2_needRoomForNode, Cond.selects RX2 yX2_needRoomForNode yX2_needRoomForNode, Cond.code yX2_needRoomForNode cX2_needRoomForNode 1 none, Cond.fieldLink RX2 169 "SweepEqual$Nodes" "count" "I", Cond.methodLink RX2 43 yX1_addVariable, Cond.instanceMethod yX1_addVariable, Cond.selects RX1 yX1_addVariable yX1_addVariable, Cond.initialized RX1, Cond.code yX1_addVariable cX1_addVariable 4 (some .int), Cond.fieldLink RX1 11 "SweepEqual$Nodes" "count" "I", Cond.fieldLink RX1 22 "SweepEqual$Nodes" "rows" "[J", Cond.methodLink RX1 26 yX1_growRows, Cond.instanceMethod yX1_growRows]
def wsL_input_r2 : List Cond := [Cond.selects RX1 yX1_growRows yX1_growRows, Cond.code yX1_growRows cX1_growRows 1 none, Cond.methodLink RX1 60 Lib.Math.min.name, Cond.static Lib.Math.min.name, Cond.initialized "java/lang/Math", Cond.code Lib.Math.min.name Lib.Math.min.code 2 (some .int), Cond.methodLink RX1 66 yJ7_copyOf_c38d5, Cond.static yJ7_copyOf_c38d5, Cond.initialized RJ7, Cond.code yJ7_copyOf_c38d5 cJ7_copyOf_c38d5 3 (some (.array .long)), Cond.methodLink RJ7 319 ⟨"[J", "clone", "()Ljava/lang/Object;"⟩, Cond.sameMethod "[J" "java/lang/Object" "clone" "()Ljava/lang/Object;", Cond.native ⟨"java/lang/Object", "clone", "()Ljava/lang/Object;"⟩, Cond.instanceMethod ⟨"java/lang/Object", "clone", "()Ljava/lang/Object;"⟩, Cond.selects "[J" ⟨"[J", "clone", "()Ljava/lang/Object;"⟩ ⟨"java/lang/Object", "clone", "()Ljava/lang/Object;"⟩, Cond.classLink RJ7 320 "[J", Cond.arrayClass .long, Cond.methodLink RJ7 304 Lib.Math.min.name, Cond.methodLink RJ7 150 arraycopyName, Cond.native arraycopyName, Cond.static arraycopyName, Cond.initialized "java/lang/System", Cond.methodLink RX1 29 yX1_variableWord, Cond.static yX1_variableWord]
def wsL_input_r3 : List Cond := [Cond.code yX1_variableWord cX1_variableWord 2 (some .long), Cond.fieldLink RX1 85 "SweepEqual$Nodes" "WORD_PATTERNS" "[J", Cond.constantLong RX1 88 (-1), Cond.methodLink RX1 33 yX1_settle, Cond.instanceMethod yX1_settle, Cond.selects RX1 yX1_settle yX1_settle, Cond.code yX1_settle cX1_settle 3 (some .int), Cond.fieldLink RX1 15 "SweepEqual$Nodes" "owners" "[I", Cond.fieldLink RX1 19 "SweepEqual$Nodes" "firsts" "[I", Cond.methodLink RX1 72 yX1_findFirst, Cond.instanceMethod yX1_findFirst, Cond.selects RX1 yX1_findFirst yX1_findFirst, Cond.code yX1_findFirst cX1_findFirst 6 (some .int), Cond.methodLink RX1 75 yX1_valueIn, Cond.instanceMethod yX1_valueIn, Cond.selects RX1 yX1_valueIn yX1_valueIn, Cond.code yX1_valueIn cX1_valueIn 4 (some .int), Cond.methodLink RX1 37 yX1_wordOf, Cond.instanceMethod yX1_wordOf, Cond.selects RX1 yX1_wordOf yX1_wordOf, Cond.code yX1_wordOf cX1_wordOf 5 (some .long), Cond.methodLink RX1 78 yX1_leastDifference, Cond.instanceMethod yX1_leastDifference, Cond.selects RX1 yX1_leastDifference yX1_leastDifference]
def wsL_input_r4 : List Cond := [Cond.code yX1_leastDifference cX1_leastDifference 6 (some .int), Cond.methodLink RX1 57 yJ13_numberOfTrailingZeros_95d88, Cond.static yJ13_numberOfTrailingZeros_95d88, Cond.initialized RJ13, Cond.code yJ13_numberOfTrailingZeros_95d88 cJ13_numberOfTrailingZeros_95d88 3 (some .int), Cond.methodLink RJ13 311 yJ6_numberOfTrailingZeros_0f7a4, Cond.static yJ6_numberOfTrailingZeros_0f7a4, Cond.initialized RJ6, Cond.code yJ6_numberOfTrailingZeros_0f7a4 cJ6_numberOfTrailingZeros_0f7a4 2 (some .int), Cond.constant RJ6 264 (65536)]
def wsL_input : List Cond := .codeWith yL_input cL_input 3 (some .int) [(0, 8, 11, 13)] :: ((wsL_input_r1 ++ (wsL_input_r2 ++ (wsL_input_r3 ++ wsL_input_r4))) ++ wsX20 ++ wsX10 ++ (vx_atS RX2 37 "java/lang/IllegalStateException" ["java/lang/RuntimeException", "java/lang/Exception"]).filter goodWord)
def wsL_latch_r1 : List Cond := [Cond.classLink RL 13 "java/lang/IllegalStateException", Cond.classLink RL 19 "java/lang/IllegalArgumentException", Cond.methodLink RL 15 yX2_latch, Cond.instanceMethod yX2_latch, Cond.selects RX2 yX2_latch yX2_latch, Cond.initialized RX2, Cond.code yX2_latch cX2_latch 4 (some .int), Cond.classLink RX2 33 "java/lang/IllegalStateException", Cond.initialized "java/lang/IllegalStateException", Cond.fieldLink RX2 47 "SweepEqual" "latchCount" "I", Cond.fieldLink RX2 12 "SweepEqual" "nodes" "LSweepEqual$Nodes;", Cond.fieldLink RX2 19 "SweepEqual" "designA" "LSweepEqual$Design;", Cond.fieldLink RX2 23 "SweepEqual" "designB" "LSweepEqual$Design;", Cond.methodLink RX2 40 yX2_needRoomForNode, Cond.instanceMethod yX2_needRoomForNode, Cond.selects RX2 yX2_needRoomForNode yX2_needRoomForNode, Cond.code yX2_needRoomForNode cX2_needRoomForNode 1 none, Cond.fieldLink RX2 169 "SweepEqual$Nodes" "count" "I", Cond.methodLink RX2 52 yX2_needStart, Cond.instanceMethod yX2_needStart, Cond.selects RX2 yX2_needStart yX2_needStart, Cond.code yX2_needStart cX2_needStart 2 none, Cond.classLink RX2 187 "java/lang/IllegalArgumentException", Cond.initialized "java/lang/IllegalArgumentException"]
def wsL_latch_r2 : List Cond := [Cond.methodLink RX2 43 yX1_addVariable, Cond.instanceMethod yX1_addVariable, Cond.selects RX1 yX1_addVariable yX1_addVariable, Cond.initialized RX1, Cond.code yX1_addVariable cX1_addVariable 4 (some .int), Cond.fieldLink RX1 11 "SweepEqual$Nodes" "count" "I", Cond.fieldLink RX1 22 "SweepEqual$Nodes" "rows" "[J", Cond.methodLink RX1 26 yX1_growRows, Cond.instanceMethod yX1_growRows, Cond.selects RX1 yX1_growRows yX1_growRows, Cond.code yX1_growRows cX1_growRows 1 none, Cond.methodLink RX1 60 Lib.Math.min.name, Cond.static Lib.Math.min.name, Cond.initialized "java/lang/Math", Cond.code Lib.Math.min.name Lib.Math.min.code 2 (some .int), Cond.methodLink RX1 66 yJ7_copyOf_c38d5, Cond.static yJ7_copyOf_c38d5, Cond.initialized RJ7, Cond.code yJ7_copyOf_c38d5 cJ7_copyOf_c38d5 3 (some (.array .long)), Cond.methodLink RJ7 319 ⟨"[J", "clone", "()Ljava/lang/Object;"⟩, Cond.sameMethod "[J" "java/lang/Object" "clone" "()Ljava/lang/Object;", Cond.native ⟨"java/lang/Object", "clone", "()Ljava/lang/Object;"⟩, Cond.instanceMethod ⟨"java/lang/Object", "clone", "()Ljava/lang/Object;"⟩, Cond.selects "[J" ⟨"[J", "clone", "()Ljava/lang/Object;"⟩ ⟨"java/lang/Object", "clone", "()Ljava/lang/Object;"⟩]
def wsL_latch_r3 : List Cond := [Cond.classLink RJ7 320 "[J", Cond.arrayClass .long, Cond.methodLink RJ7 304 Lib.Math.min.name, Cond.methodLink RJ7 150 arraycopyName, Cond.native arraycopyName, Cond.static arraycopyName, Cond.initialized "java/lang/System", Cond.methodLink RX1 29 yX1_variableWord, Cond.static yX1_variableWord, Cond.code yX1_variableWord cX1_variableWord 2 (some .long), Cond.fieldLink RX1 85 "SweepEqual$Nodes" "WORD_PATTERNS" "[J", Cond.constantLong RX1 88 (-1), Cond.methodLink RX1 33 yX1_settle, Cond.instanceMethod yX1_settle, Cond.selects RX1 yX1_settle yX1_settle, Cond.code yX1_settle cX1_settle 3 (some .int), Cond.fieldLink RX1 15 "SweepEqual$Nodes" "owners" "[I", Cond.fieldLink RX1 19 "SweepEqual$Nodes" "firsts" "[I", Cond.methodLink RX1 72 yX1_findFirst, Cond.instanceMethod yX1_findFirst, Cond.selects RX1 yX1_findFirst yX1_findFirst, Cond.code yX1_findFirst cX1_findFirst 6 (some .int), Cond.methodLink RX1 75 yX1_valueIn, Cond.instanceMethod yX1_valueIn]
def wsL_latch_r4 : List Cond := [Cond.selects RX1 yX1_valueIn yX1_valueIn, Cond.code yX1_valueIn cX1_valueIn 4 (some .int), Cond.methodLink RX1 37 yX1_wordOf, Cond.instanceMethod yX1_wordOf, Cond.selects RX1 yX1_wordOf yX1_wordOf, Cond.code yX1_wordOf cX1_wordOf 5 (some .long), Cond.methodLink RX1 78 yX1_leastDifference, Cond.instanceMethod yX1_leastDifference, Cond.selects RX1 yX1_leastDifference yX1_leastDifference, Cond.code yX1_leastDifference cX1_leastDifference 6 (some .int), Cond.methodLink RX1 57 yJ13_numberOfTrailingZeros_95d88, Cond.static yJ13_numberOfTrailingZeros_95d88, Cond.initialized RJ13, Cond.code yJ13_numberOfTrailingZeros_95d88 cJ13_numberOfTrailingZeros_95d88 3 (some .int), Cond.methodLink RJ13 311 yJ6_numberOfTrailingZeros_0f7a4, Cond.static yJ6_numberOfTrailingZeros_0f7a4, Cond.initialized RJ6, Cond.code yJ6_numberOfTrailingZeros_0f7a4 cJ6_numberOfTrailingZeros_0f7a4 2 (some .int), Cond.constant RJ6 264 (65536), Cond.methodLink RX2 56 yX0_addLatch, Cond.instanceMethod yX0_addLatch, Cond.selects RX0 yX0_addLatch yX0_addLatch, Cond.initialized RX0, Cond.code yX0_addLatch cX0_addLatch 4 none]
def wsL_latch_r5 : List Cond := [Cond.fieldLink RX0 25 "SweepEqual$Design" "starts" "I", Cond.fieldLink RX0 15 "SweepEqual$Design" "nexts" "[I", Cond.methodLink RX2 60 yX2_backToStarts, Cond.instanceMethod yX2_backToStarts, Cond.selects RX2 yX2_backToStarts yX2_backToStarts, Cond.code yX2_backToStarts cX2_backToStarts 1 none, Cond.fieldLink RX2 155 "SweepEqual" "steps" "I", Cond.fieldLink RX2 26 "SweepEqual" "apartStep" "I", Cond.methodLink RX2 199 yX0_backToStarts, Cond.instanceMethod yX0_backToStarts, Cond.selects RX0 yX0_backToStarts yX0_backToStarts, Cond.code yX0_backToStarts cX0_backToStarts 1 none, Cond.fieldLink RX0 28 "SweepEqual$Design" "states" "I", Cond.fieldLink RX0 31 "SweepEqual$Design" "shownCount" "I"]
def wsL_latch : List Cond := .codeWith yL_latch cL_latch 5 (some .int) [(0, 10, 13, 13), (0, 10, 17, 19)] :: ((wsL_latch_r1 ++ (wsL_latch_r2 ++ (wsL_latch_r3 ++ (wsL_latch_r4 ++ wsL_latch_r5)))) ++ wsX20 ++ wsX10 ++ wsX00 ++ (vx_atS RX2 37 "java/lang/IllegalStateException" ["java/lang/RuntimeException", "java/lang/Exception"]).filter goodWord ++ (vx_atS RX2 191 "java/lang/IllegalArgumentException" ["java/lang/RuntimeException", "java/lang/Exception"]).filter goodWord)
def wsL_and_r1 : List Cond := [Cond.classLink RL 25 "java/lang/IndexOutOfBoundsException", Cond.classLink RL 13 "java/lang/IllegalStateException", Cond.classLink RL 19 "java/lang/IllegalArgumentException", Cond.methodLink RL 21 yX2_and, Cond.instanceMethod yX2_and, Cond.selects RX2 yX2_and yX2_and, Cond.initialized RX2, Cond.code yX2_and cX2_and 4 (some .int), Cond.fieldLink RX2 12 "SweepEqual" "nodes" "LSweepEqual$Nodes;", Cond.methodLink RX2 63 yX2_needSide, Cond.instanceMethod yX2_needSide, Cond.selects RX2 yX2_needSide yX2_needSide, Cond.code yX2_needSide cX2_needSide 2 none, Cond.classLink RX2 120 "java/lang/IndexOutOfBoundsException", Cond.initialized "java/lang/IndexOutOfBoundsException", Cond.methodLink RX2 66 yX2_needLiteral, Cond.instanceMethod yX2_needLiteral, Cond.selects RX2 yX2_needLiteral yX2_needLiteral, Cond.code yX2_needLiteral cX2_needLiteral 2 none, Cond.fieldLink RX2 169 "SweepEqual$Nodes" "count" "I", Cond.methodLink RX2 40 yX2_needRoomForNode, Cond.instanceMethod yX2_needRoomForNode, Cond.selects RX2 yX2_needRoomForNode yX2_needRoomForNode, Cond.code yX2_needRoomForNode cX2_needRoomForNode 1 none]
def wsL_and_r2 : List Cond := [Cond.classLink RX2 33 "java/lang/IllegalStateException", Cond.initialized "java/lang/IllegalStateException", Cond.methodLink RX2 69 yX2_needOwn, Cond.instanceMethod yX2_needOwn, Cond.selects RX2 yX2_needOwn yX2_needOwn, Cond.code yX2_needOwn cX2_needOwn 3 none, Cond.classLink RX2 187 "java/lang/IllegalArgumentException", Cond.initialized "java/lang/IllegalArgumentException", Cond.methodLink RX2 194 yX1_isOfOtherSide, Cond.instanceMethod yX1_isOfOtherSide, Cond.selects RX1 yX1_isOfOtherSide yX1_isOfOtherSide, Cond.initialized RX1, Cond.code yX1_isOfOtherSide cX1_isOfOtherSide 4 (some .boolean), Cond.fieldLink RX1 15 "SweepEqual$Nodes" "owners" "[I", Cond.methodLink RX2 73 yX1_addAnd, Cond.instanceMethod yX1_addAnd, Cond.selects RX1 yX1_addAnd yX1_addAnd, Cond.code yX1_addAnd cX1_addAnd 6 (some .int), Cond.fieldLink RX1 11 "SweepEqual$Nodes" "count" "I", Cond.fieldLink RX1 22 "SweepEqual$Nodes" "rows" "[J", Cond.methodLink RX1 26 yX1_growRows, Cond.instanceMethod yX1_growRows, Cond.selects RX1 yX1_growRows yX1_growRows, Cond.code yX1_growRows cX1_growRows 1 none]
def wsL_and_r3 : List Cond := [Cond.methodLink RX1 60 Lib.Math.min.name, Cond.static Lib.Math.min.name, Cond.initialized "java/lang/Math", Cond.code Lib.Math.min.name Lib.Math.min.code 2 (some .int), Cond.methodLink RX1 66 yJ7_copyOf_c38d5, Cond.static yJ7_copyOf_c38d5, Cond.initialized RJ7, Cond.code yJ7_copyOf_c38d5 cJ7_copyOf_c38d5 3 (some (.array .long)), Cond.methodLink RJ7 319 ⟨"[J", "clone", "()Ljava/lang/Object;"⟩, Cond.sameMethod "[J" "java/lang/Object" "clone" "()Ljava/lang/Object;", Cond.native ⟨"java/lang/Object", "clone", "()Ljava/lang/Object;"⟩, Cond.instanceMethod ⟨"java/lang/Object", "clone", "()Ljava/lang/Object;"⟩, Cond.selects "[J" ⟨"[J", "clone", "()Ljava/lang/Object;"⟩ ⟨"java/lang/Object", "clone", "()Ljava/lang/Object;"⟩, Cond.classLink RJ7 320 "[J", Cond.arrayClass .long, Cond.methodLink RJ7 304 Lib.Math.min.name, Cond.methodLink RJ7 150 arraycopyName, Cond.native arraycopyName, Cond.static arraycopyName, Cond.initialized "java/lang/System", Cond.methodLink RX1 37 yX1_wordOf, Cond.instanceMethod yX1_wordOf, Cond.selects RX1 yX1_wordOf yX1_wordOf, Cond.code yX1_wordOf cX1_wordOf 5 (some .long)]
def wsL_and_r4 : List Cond := [Cond.constantLong RX1 88 (-1), Cond.methodLink RX1 33 yX1_settle, Cond.instanceMethod yX1_settle, Cond.selects RX1 yX1_settle yX1_settle, Cond.code yX1_settle cX1_settle 3 (some .int), Cond.fieldLink RX1 19 "SweepEqual$Nodes" "firsts" "[I", Cond.methodLink RX1 72 yX1_findFirst, Cond.instanceMethod yX1_findFirst, Cond.selects RX1 yX1_findFirst yX1_findFirst, Cond.code yX1_findFirst cX1_findFirst 6 (some .int), Cond.methodLink RX1 75 yX1_valueIn, Cond.instanceMethod yX1_valueIn, Cond.selects RX1 yX1_valueIn yX1_valueIn, Cond.code yX1_valueIn cX1_valueIn 4 (some .int), Cond.methodLink RX1 78 yX1_leastDifference, Cond.instanceMethod yX1_leastDifference, Cond.selects RX1 yX1_leastDifference yX1_leastDifference, Cond.code yX1_leastDifference cX1_leastDifference 6 (some .int), Cond.methodLink RX1 57 yJ13_numberOfTrailingZeros_95d88, Cond.static yJ13_numberOfTrailingZeros_95d88, Cond.initialized RJ13, Cond.code yJ13_numberOfTrailingZeros_95d88 cJ13_numberOfTrailingZeros_95d88 3 (some .int), Cond.methodLink RJ13 311 yJ6_numberOfTrailingZeros_0f7a4, Cond.static yJ6_numberOfTrailingZeros_0f7a4]
def wsL_and_r5 : List Cond := [Cond.initialized RJ6, Cond.code yJ6_numberOfTrailingZeros_0f7a4 cJ6_numberOfTrailingZeros_0f7a4 2 (some .int), Cond.constant RJ6 264 (65536)]
def wsL_and : List Cond := .codeWith yL_and cL_and 6 (some .int) [(0, 12, 15, 25), (0, 12, 19, 13), (0, 12, 23, 19)] :: ((wsL_and_r1 ++ (wsL_and_r2 ++ (wsL_and_r3 ++ (wsL_and_r4 ++ wsL_and_r5)))) ++ wsX20 ++ wsX10 ++ (vx_atS RX2 124 "java/lang/IndexOutOfBoundsException" ["java/lang/RuntimeException", "java/lang/Exception"]).filter goodWord ++ (vx_atS RX2 37 "java/lang/IllegalStateException" ["java/lang/RuntimeException", "java/lang/Exception"]).filter goodWord ++ (vx_atS RX2 191 "java/lang/IllegalArgumentException" ["java/lang/RuntimeException", "java/lang/Exception"]).filter goodWord)
def wsL_output_r1 : List Cond := [Cond.classLink RL 25 "java/lang/IndexOutOfBoundsException", Cond.classLink RL 13 "java/lang/IllegalStateException", Cond.classLink RL 19 "java/lang/IllegalArgumentException", Cond.methodLink RL 27 yX2_output, Cond.instanceMethod yX2_output, Cond.selects RX2 yX2_output yX2_output, Cond.initialized RX2, Cond.code yX2_output cX2_output 4 (some .int), Cond.classLink RX2 33 "java/lang/IllegalStateException", Cond.initialized "java/lang/IllegalStateException", Cond.fieldLink RX2 81 "SweepEqual$Design" "outputCount" "I", Cond.methodLink RX2 63 yX2_needSide, Cond.instanceMethod yX2_needSide, Cond.selects RX2 yX2_needSide yX2_needSide, Cond.code yX2_needSide cX2_needSide 2 none, Cond.classLink RX2 120 "java/lang/IndexOutOfBoundsException", Cond.initialized "java/lang/IndexOutOfBoundsException", Cond.methodLink RX2 66 yX2_needLiteral, Cond.instanceMethod yX2_needLiteral, Cond.selects RX2 yX2_needLiteral yX2_needLiteral, Cond.code yX2_needLiteral cX2_needLiteral 2 none, Cond.fieldLink RX2 12 "SweepEqual" "nodes" "LSweepEqual$Nodes;", Cond.fieldLink RX2 169 "SweepEqual$Nodes" "count" "I", Cond.methodLink RX2 77 yX2_designOf]
def wsL_output_r2 : List Cond := [Cond.instanceMethod yX2_designOf, Cond.selects RX2 yX2_designOf yX2_designOf, Cond.code yX2_designOf cX2_designOf 2 (some (.object "SweepEqual$Design")), Cond.fieldLink RX2 19 "SweepEqual" "designA" "LSweepEqual$Design;", Cond.fieldLink RX2 23 "SweepEqual" "designB" "LSweepEqual$Design;", Cond.methodLink RX2 69 yX2_needOwn, Cond.instanceMethod yX2_needOwn, Cond.selects RX2 yX2_needOwn yX2_needOwn, Cond.code yX2_needOwn cX2_needOwn 3 none, Cond.classLink RX2 187 "java/lang/IllegalArgumentException", Cond.initialized "java/lang/IllegalArgumentException", Cond.methodLink RX2 194 yX1_isOfOtherSide, Cond.instanceMethod yX1_isOfOtherSide, Cond.selects RX1 yX1_isOfOtherSide yX1_isOfOtherSide, Cond.initialized RX1, Cond.code yX1_isOfOtherSide cX1_isOfOtherSide 4 (some .boolean), Cond.fieldLink RX1 15 "SweepEqual$Nodes" "owners" "[I", Cond.methodLink RX2 86 yX0_addOutput, Cond.instanceMethod yX0_addOutput, Cond.selects RX0 yX0_addOutput yX0_addOutput, Cond.initialized RX0, Cond.code yX0_addOutput cX0_addOutput 2 (some .int), Cond.fieldLink RX0 9 "SweepEqual$Design" "outputs" "[I", Cond.fieldLink RX0 21 "SweepEqual$Design" "outputCount" "I"]
def wsL_output : List Cond := .codeWith yL_output cL_output 5 (some .int) [(0, 10, 13, 25), (0, 10, 17, 13), (0, 10, 21, 19)] :: ((wsL_output_r1 ++ wsL_output_r2) ++ wsX00 ++ wsX20 ++ wsX10 ++ (vx_atS RX2 37 "java/lang/IllegalStateException" ["java/lang/RuntimeException", "java/lang/Exception"]).filter goodWord ++ (vx_atS RX2 124 "java/lang/IndexOutOfBoundsException" ["java/lang/RuntimeException", "java/lang/Exception"]).filter goodWord ++ (vx_atS RX2 191 "java/lang/IllegalArgumentException" ["java/lang/RuntimeException", "java/lang/Exception"]).filter goodWord)
def wsL_next_r1 : List Cond := [Cond.classLink RL 25 "java/lang/IndexOutOfBoundsException", Cond.classLink RL 19 "java/lang/IllegalArgumentException", Cond.methodLink RL 30 yX2_next, Cond.instanceMethod yX2_next, Cond.selects RX2 yX2_next yX2_next, Cond.initialized RX2, Cond.code yX2_next cX2_next 6 (some .int), Cond.fieldLink RX2 92 "SweepEqual$Design" "nexts" "[I", Cond.methodLink RX2 63 yX2_needSide, Cond.instanceMethod yX2_needSide, Cond.selects RX2 yX2_needSide yX2_needSide, Cond.code yX2_needSide cX2_needSide 2 none, Cond.classLink RX2 120 "java/lang/IndexOutOfBoundsException", Cond.initialized "java/lang/IndexOutOfBoundsException", Cond.methodLink RX2 89 yX2_needLatch, Cond.instanceMethod yX2_needLatch, Cond.selects RX2 yX2_needLatch yX2_needLatch, Cond.code yX2_needLatch cX2_needLatch 2 none, Cond.fieldLink RX2 47 "SweepEqual" "latchCount" "I", Cond.methodLink RX2 66 yX2_needLiteral, Cond.instanceMethod yX2_needLiteral, Cond.selects RX2 yX2_needLiteral yX2_needLiteral, Cond.code yX2_needLiteral cX2_needLiteral 2 none, Cond.fieldLink RX2 12 "SweepEqual" "nodes" "LSweepEqual$Nodes;"]
def wsL_next_r2 : List Cond := [Cond.fieldLink RX2 169 "SweepEqual$Nodes" "count" "I", Cond.methodLink RX2 69 yX2_needOwn, Cond.instanceMethod yX2_needOwn, Cond.selects RX2 yX2_needOwn yX2_needOwn, Cond.code yX2_needOwn cX2_needOwn 3 none, Cond.classLink RX2 187 "java/lang/IllegalArgumentException", Cond.initialized "java/lang/IllegalArgumentException", Cond.methodLink RX2 194 yX1_isOfOtherSide, Cond.instanceMethod yX1_isOfOtherSide, Cond.selects RX1 yX1_isOfOtherSide yX1_isOfOtherSide, Cond.initialized RX1, Cond.code yX1_isOfOtherSide cX1_isOfOtherSide 4 (some .boolean), Cond.fieldLink RX1 15 "SweepEqual$Nodes" "owners" "[I", Cond.methodLink RX2 77 yX2_designOf, Cond.instanceMethod yX2_designOf, Cond.selects RX2 yX2_designOf yX2_designOf, Cond.code yX2_designOf cX2_designOf 2 (some (.object "SweepEqual$Design")), Cond.fieldLink RX2 19 "SweepEqual" "designA" "LSweepEqual$Design;", Cond.fieldLink RX2 23 "SweepEqual" "designB" "LSweepEqual$Design;"]
def wsL_next : List Cond := .codeWith yL_next cL_next 6 (some .int) [(0, 12, 15, 25), (0, 12, 19, 19)] :: ((wsL_next_r1 ++ wsL_next_r2) ++ wsX00 ++ wsX20 ++ wsX10 ++ (vx_atS RX2 124 "java/lang/IndexOutOfBoundsException" ["java/lang/RuntimeException", "java/lang/Exception"]).filter goodWord ++ (vx_atS RX2 191 "java/lang/IllegalArgumentException" ["java/lang/RuntimeException", "java/lang/Exception"]).filter goodWord)
def wsL_same : List Cond := .codeWith yL_same cL_same 5 (some .int) [(0, 17, 20, 25)] :: ([.classLink RL 25 "java/lang/IndexOutOfBoundsException", .methodLink RL 33 yX2_same, .instanceMethod yX2_same, .selects RX2 yX2_same yX2_same, .initialized RX2, .code yX2_same cX2_same 3 (some .boolean), .fieldLink RX2 12 "SweepEqual" "nodes" "LSweepEqual$Nodes;", .methodLink RX2 66 yX2_needLiteral, .instanceMethod yX2_needLiteral, .selects RX2 yX2_needLiteral yX2_needLiteral, .code yX2_needLiteral cX2_needLiteral 2 none, .classLink RX2 120 "java/lang/IndexOutOfBoundsException", .initialized "java/lang/IndexOutOfBoundsException", .fieldLink RX2 169 "SweepEqual$Nodes" "count" "I", .methodLink RX2 96 yX1_areSame, .instanceMethod yX1_areSame, .selects RX1 yX1_areSame yX1_areSame, .initialized RX1, .code yX1_areSame cX1_areSame 3 (some .boolean), .methodLink RX1 40 yX1_firstOf, .instanceMethod yX1_firstOf, .selects RX1 yX1_firstOf yX1_firstOf, .code yX1_firstOf cX1_firstOf 2 (some .int), .fieldLink RX1 19 "SweepEqual$Nodes" "firsts" "[I"] ++ wsX20 ++ wsX10 ++ (vx_atS RX2 124 "java/lang/IndexOutOfBoundsException" ["java/lang/RuntimeException", "java/lang/Exception"]).filter goodWord)
def wsL_first : List Cond := .codeWith yL_first cL_first 4 (some .int) [(0, 9, 12, 25)] :: ([.classLink RL 25 "java/lang/IndexOutOfBoundsException", .methodLink RL 37 yX2_first, .instanceMethod yX2_first, .selects RX2 yX2_first yX2_first, .initialized RX2, .code yX2_first cX2_first 2 (some .int), .fieldLink RX2 12 "SweepEqual" "nodes" "LSweepEqual$Nodes;", .methodLink RX2 66 yX2_needLiteral, .instanceMethod yX2_needLiteral, .selects RX2 yX2_needLiteral yX2_needLiteral, .code yX2_needLiteral cX2_needLiteral 2 none, .classLink RX2 120 "java/lang/IndexOutOfBoundsException", .initialized "java/lang/IndexOutOfBoundsException", .fieldLink RX2 169 "SweepEqual$Nodes" "count" "I", .methodLink RX2 100 yX1_firstOf, .instanceMethod yX1_firstOf, .selects RX1 yX1_firstOf yX1_firstOf, .initialized RX1, .code yX1_firstOf cX1_firstOf 2 (some .int), .fieldLink RX1 19 "SweepEqual$Nodes" "firsts" "[I"] ++ wsX20 ++ wsX10 ++ (vx_atS RX2 124 "java/lang/IndexOutOfBoundsException" ["java/lang/RuntimeException", "java/lang/Exception"]).filter goodWord)
def wsL_merged_r1 : List Cond := [Cond.classLink RL 25 "java/lang/IndexOutOfBoundsException", Cond.methodLink RL 41 yX2_merged, Cond.instanceMethod yX2_merged, Cond.selects RX2 yX2_merged yX2_merged, Cond.initialized RX2, Cond.code yX2_merged cX2_merged 2 (some .int), Cond.fieldLink RX2 12 "SweepEqual" "nodes" "LSweepEqual$Nodes;", Cond.methodLink RX2 63 yX2_needSide, Cond.instanceMethod yX2_needSide, Cond.selects RX2 yX2_needSide yX2_needSide, Cond.code yX2_needSide cX2_needSide 2 none, Cond.classLink RX2 120 "java/lang/IndexOutOfBoundsException", Cond.initialized "java/lang/IndexOutOfBoundsException", Cond.methodLink RX2 107 yX1_countMerged, Cond.instanceMethod yX1_countMerged, Cond.selects RX1 yX1_countMerged yX1_countMerged, Cond.initialized RX1, Cond.code yX1_countMerged cX1_countMerged 4 (some .int), Cond.fieldLink RX1 11 "SweepEqual$Nodes" "count" "I", Cond.fieldLink RX1 15 "SweepEqual$Nodes" "owners" "[I", Cond.methodLink RX1 43 yX1_isLeast, Cond.instanceMethod yX1_isLeast, Cond.selects RX1 yX1_isLeast yX1_isLeast, Cond.code yX1_isLeast cX1_isLeast 2 (some .boolean)]
def wsL_merged_r2 : List Cond := [Cond.fieldLink RX1 19 "SweepEqual$Nodes" "firsts" "[I"]
def wsL_merged : List Cond := .codeWith yL_merged cL_merged 4 (some .int) [(0, 9, 12, 25)] :: ((wsL_merged_r1 ++ wsL_merged_r2) ++ wsX20 ++ wsX10 ++ (vx_atS RX2 124 "java/lang/IndexOutOfBoundsException" ["java/lang/RuntimeException", "java/lang/Exception"]).filter goodWord)
def wsL_hangs_r1 : List Cond := [Cond.classLink RL 25 "java/lang/IndexOutOfBoundsException", Cond.methodLink RL 44 yX2_hangs, Cond.instanceMethod yX2_hangs, Cond.selects RX2 yX2_hangs yX2_hangs, Cond.initialized RX2, Cond.code yX2_hangs cX2_hangs 2 (some .int), Cond.fieldLink RX2 12 "SweepEqual" "nodes" "LSweepEqual$Nodes;", Cond.methodLink RX2 66 yX2_needLiteral, Cond.instanceMethod yX2_needLiteral, Cond.selects RX2 yX2_needLiteral yX2_needLiteral, Cond.code yX2_needLiteral cX2_needLiteral 2 none, Cond.classLink RX2 120 "java/lang/IndexOutOfBoundsException", Cond.initialized "java/lang/IndexOutOfBoundsException", Cond.fieldLink RX2 169 "SweepEqual$Nodes" "count" "I", Cond.methodLink RX2 110 yX1_supportOf, Cond.instanceMethod yX1_supportOf, Cond.selects RX1 yX1_supportOf yX1_supportOf, Cond.initialized RX1, Cond.code yX1_supportOf cX1_supportOf 4 (some .int), Cond.methodLink RX1 53 yX1_hangsOn, Cond.instanceMethod yX1_hangsOn, Cond.selects RX1 yX1_hangsOn yX1_hangsOn, Cond.code yX1_hangsOn cX1_hangsOn 4 (some .boolean), Cond.methodLink RX1 81 yX1_wordHangsOn]
def wsL_hangs_r2 : List Cond := [Cond.instanceMethod yX1_wordHangsOn, Cond.selects RX1 yX1_wordHangsOn yX1_wordHangsOn, Cond.code yX1_wordHangsOn cX1_wordHangsOn 8 (some .boolean), Cond.fieldLink RX1 85 "SweepEqual$Nodes" "WORD_PATTERNS" "[J", Cond.constantLong RX1 88 (-1), Cond.methodLink RX1 37 yX1_wordOf, Cond.instanceMethod yX1_wordOf, Cond.selects RX1 yX1_wordOf yX1_wordOf, Cond.code yX1_wordOf cX1_wordOf 5 (some .long), Cond.fieldLink RX1 22 "SweepEqual$Nodes" "rows" "[J"]
def wsL_hangs : List Cond := .codeWith yL_hangs cL_hangs 4 (some .int) [(0, 9, 12, 25)] :: ((wsL_hangs_r1 ++ wsL_hangs_r2) ++ wsX20 ++ wsX10 ++ (vx_atS RX2 124 "java/lang/IndexOutOfBoundsException" ["java/lang/RuntimeException", "java/lang/Exception"]).filter goodWord)
def wsL_ones_r1 : List Cond := [Cond.classLink RL 25 "java/lang/IndexOutOfBoundsException", Cond.methodLink RL 47 yX2_ones, Cond.instanceMethod yX2_ones, Cond.selects RX2 yX2_ones yX2_ones, Cond.initialized RX2, Cond.code yX2_ones cX2_ones 2 (some .int), Cond.fieldLink RX2 12 "SweepEqual" "nodes" "LSweepEqual$Nodes;", Cond.fieldLink RX2 30 "SweepEqual" "inputCount" "I", Cond.fieldLink RX2 47 "SweepEqual" "latchCount" "I", Cond.methodLink RX2 66 yX2_needLiteral, Cond.instanceMethod yX2_needLiteral, Cond.selects RX2 yX2_needLiteral yX2_needLiteral, Cond.code yX2_needLiteral cX2_needLiteral 2 none, Cond.classLink RX2 120 "java/lang/IndexOutOfBoundsException", Cond.initialized "java/lang/IndexOutOfBoundsException", Cond.fieldLink RX2 169 "SweepEqual$Nodes" "count" "I", Cond.methodLink RX2 113 yX1_countOnes, Cond.instanceMethod yX1_countOnes, Cond.selects RX1 yX1_countOnes yX1_countOnes, Cond.initialized RX1, Cond.code yX1_countOnes cX1_countOnes 4 (some .int), Cond.methodLink RX1 37 yX1_wordOf, Cond.instanceMethod yX1_wordOf, Cond.selects RX1 yX1_wordOf yX1_wordOf]
def wsL_ones_r2 : List Cond := [Cond.code yX1_wordOf cX1_wordOf 5 (some .long), Cond.fieldLink RX1 22 "SweepEqual$Nodes" "rows" "[J", Cond.constantLong RX1 88 (-1), Cond.methodLink RX1 47 yJ13_bitCount_95d88, Cond.static yJ13_bitCount_95d88, Cond.initialized RJ13, Cond.code yJ13_bitCount_95d88 cJ13_bitCount_95d88 2 (some .int), Cond.constantLong RJ13 314 (6148914691236517205), Cond.constantLong RJ13 316 (3689348814741910323), Cond.constantLong RJ13 318 (1085102592571150095)]
def wsL_ones : List Cond := .codeWith yL_ones cL_ones 4 (some .int) [(0, 9, 12, 25)] :: ((wsL_ones_r1 ++ wsL_ones_r2) ++ wsX20 ++ wsX10 ++ (vx_atS RX2 124 "java/lang/IndexOutOfBoundsException" ["java/lang/RuntimeException", "java/lang/Exception"]).filter goodWord)
def wsL_value_r1 : List Cond := [Cond.classLink RL 25 "java/lang/IndexOutOfBoundsException", Cond.methodLink RL 50 yX2_value, Cond.instanceMethod yX2_value, Cond.selects RX2 yX2_value yX2_value, Cond.initialized RX2, Cond.code yX2_value cX2_value 3 (some .int), Cond.fieldLink RX2 12 "SweepEqual" "nodes" "LSweepEqual$Nodes;", Cond.methodLink RX2 66 yX2_needLiteral, Cond.instanceMethod yX2_needLiteral, Cond.selects RX2 yX2_needLiteral yX2_needLiteral, Cond.code yX2_needLiteral cX2_needLiteral 2 none, Cond.classLink RX2 120 "java/lang/IndexOutOfBoundsException", Cond.initialized "java/lang/IndexOutOfBoundsException", Cond.fieldLink RX2 169 "SweepEqual$Nodes" "count" "I", Cond.methodLink RX2 116 yX1_valueIn, Cond.instanceMethod yX1_valueIn, Cond.selects RX1 yX1_valueIn yX1_valueIn, Cond.initialized RX1, Cond.code yX1_valueIn cX1_valueIn 4 (some .int), Cond.methodLink RX1 37 yX1_wordOf, Cond.instanceMethod yX1_wordOf, Cond.selects RX1 yX1_wordOf yX1_wordOf, Cond.code yX1_wordOf cX1_wordOf 5 (some .long), Cond.fieldLink RX1 22 "SweepEqual$Nodes" "rows" "[J"]
def wsL_value_r2 : List Cond := [Cond.constantLong RX1 88 (-1)]
def wsL_value : List Cond := .codeWith yL_value cL_value 5 (some .int) [(0, 10, 13, 25)] :: ((wsL_value_r1 ++ wsL_value_r2) ++ wsX20 ++ wsX10 ++ (vx_atS RX2 124 "java/lang/IndexOutOfBoundsException" ["java/lang/RuntimeException", "java/lang/Exception"]).filter goodWord)
def wsL_differs_r1 : List Cond := [Cond.classLink RL 25 "java/lang/IndexOutOfBoundsException", Cond.methodLink RL 53 yX2_differs, Cond.instanceMethod yX2_differs, Cond.selects RX2 yX2_differs yX2_differs, Cond.initialized RX2, Cond.code yX2_differs cX2_differs 5 (some .int), Cond.classLink RX2 120 "java/lang/IndexOutOfBoundsException", Cond.initialized "java/lang/IndexOutOfBoundsException", Cond.fieldLink RX2 19 "SweepEqual" "designA" "LSweepEqual$Design;", Cond.fieldLink RX2 128 "SweepEqual$Design" "outputs" "[I", Cond.fieldLink RX2 23 "SweepEqual" "designB" "LSweepEqual$Design;", Cond.fieldLink RX2 92 "SweepEqual$Design" "nexts" "[I", Cond.fieldLink RX2 47 "SweepEqual" "latchCount" "I", Cond.methodLink RX2 125 yX2_sharedOutputs, Cond.instanceMethod yX2_sharedOutputs, Cond.selects RX2 yX2_sharedOutputs yX2_sharedOutputs, Cond.code yX2_sharedOutputs cX2_sharedOutputs 1 (some .int), Cond.fieldLink RX2 81 "SweepEqual$Design" "outputCount" "I", Cond.methodLink RX2 200 Lib.Math.min.name, Cond.static Lib.Math.min.name, Cond.initialized "java/lang/Math", Cond.code Lib.Math.min.name Lib.Math.min.code 2 (some .int), Cond.methodLink RX2 131 yX2_countDifferent, Cond.instanceMethod yX2_countDifferent]
def wsL_differs_r2 : List Cond := [Cond.selects RX2 yX2_countDifferent yX2_countDifferent, Cond.code yX2_countDifferent cX2_countDifferent 6 (some .int), Cond.fieldLink RX2 12 "SweepEqual" "nodes" "LSweepEqual$Nodes;", Cond.methodLink RX2 96 yX1_areSame, Cond.instanceMethod yX1_areSame, Cond.selects RX1 yX1_areSame yX1_areSame, Cond.initialized RX1, Cond.code yX1_areSame cX1_areSame 3 (some .boolean), Cond.methodLink RX1 40 yX1_firstOf, Cond.instanceMethod yX1_firstOf, Cond.selects RX1 yX1_firstOf yX1_firstOf, Cond.code yX1_firstOf cX1_firstOf 2 (some .int), Cond.fieldLink RX1 19 "SweepEqual$Nodes" "firsts" "[I", Cond.methodLink RX2 135 yX2_placeOfDifferent, Cond.instanceMethod yX2_placeOfDifferent, Cond.selects RX2 yX2_placeOfDifferent yX2_placeOfDifferent, Cond.code yX2_placeOfDifferent cX2_placeOfDifferent 7 (some .int), Cond.methodLink RX2 139 yX2_differentStartOrSize, Cond.instanceMethod yX2_differentStartOrSize, Cond.selects RX2 yX2_differentStartOrSize yX2_differentStartOrSize, Cond.code yX2_differentStartOrSize cX2_differentStartOrSize 5 (some .int), Cond.fieldLink RX2 205 "SweepEqual$Design" "starts" "I"]
def wsL_differs : List Cond := .codeWith yL_differs cL_differs 4 (some .int) [(0, 9, 12, 25)] :: ((wsL_differs_r1 ++ wsL_differs_r2) ++ wsX20 ++ wsX00 ++ wsX10 ++ (vx_atS RX2 124 "java/lang/IndexOutOfBoundsException" ["java/lang/RuntimeException", "java/lang/Exception"]).filter goodWord)
def wsL_witness_r1 : List Cond := [Cond.classLink RL 25 "java/lang/IndexOutOfBoundsException", Cond.methodLink RL 56 yX2_witness, Cond.instanceMethod yX2_witness, Cond.selects RX2 yX2_witness yX2_witness, Cond.initialized RX2, Cond.code yX2_witness cX2_witness 3 (some .int), Cond.classLink RX2 120 "java/lang/IndexOutOfBoundsException", Cond.initialized "java/lang/IndexOutOfBoundsException", Cond.fieldLink RX2 12 "SweepEqual" "nodes" "LSweepEqual$Nodes;", Cond.fieldLink RX2 19 "SweepEqual" "designA" "LSweepEqual$Design;", Cond.fieldLink RX2 128 "SweepEqual$Design" "outputs" "[I", Cond.fieldLink RX2 23 "SweepEqual" "designB" "LSweepEqual$Design;", Cond.fieldLink RX2 47 "SweepEqual" "latchCount" "I", Cond.fieldLink RX2 92 "SweepEqual$Design" "nexts" "[I", Cond.methodLink RX2 125 yX2_sharedOutputs, Cond.instanceMethod yX2_sharedOutputs, Cond.selects RX2 yX2_sharedOutputs yX2_sharedOutputs, Cond.code yX2_sharedOutputs cX2_sharedOutputs 1 (some .int), Cond.fieldLink RX2 81 "SweepEqual$Design" "outputCount" "I", Cond.methodLink RX2 200 Lib.Math.min.name, Cond.static Lib.Math.min.name, Cond.initialized "java/lang/Math", Cond.code Lib.Math.min.name Lib.Math.min.code 2 (some .int), Cond.methodLink RX2 142 yX1_leastDifference]
def wsL_witness_r2 : List Cond := [Cond.instanceMethod yX1_leastDifference, Cond.selects RX1 yX1_leastDifference yX1_leastDifference, Cond.initialized RX1, Cond.code yX1_leastDifference cX1_leastDifference 6 (some .int), Cond.methodLink RX1 37 yX1_wordOf, Cond.instanceMethod yX1_wordOf, Cond.selects RX1 yX1_wordOf yX1_wordOf, Cond.code yX1_wordOf cX1_wordOf 5 (some .long), Cond.fieldLink RX1 22 "SweepEqual$Nodes" "rows" "[J", Cond.constantLong RX1 88 (-1), Cond.methodLink RX1 57 yJ13_numberOfTrailingZeros_95d88, Cond.static yJ13_numberOfTrailingZeros_95d88, Cond.initialized RJ13, Cond.code yJ13_numberOfTrailingZeros_95d88 cJ13_numberOfTrailingZeros_95d88 3 (some .int), Cond.methodLink RJ13 311 yJ6_numberOfTrailingZeros_0f7a4, Cond.static yJ6_numberOfTrailingZeros_0f7a4, Cond.initialized RJ6, Cond.code yJ6_numberOfTrailingZeros_0f7a4 cJ6_numberOfTrailingZeros_0f7a4 2 (some .int), Cond.constant RJ6 264 (65536)]
def wsL_witness : List Cond := .codeWith yL_witness cL_witness 4 (some .int) [(0, 9, 12, 25)] :: ((wsL_witness_r1 ++ wsL_witness_r2) ++ wsX20 ++ wsX00 ++ wsX10 ++ (vx_atS RX2 124 "java/lang/IndexOutOfBoundsException" ["java/lang/RuntimeException", "java/lang/Exception"]).filter goodWord)
def wsL_out : List Cond := .codeWith yL_out cL_out 5 (some .int) [(0, 10, 13, 25)] :: ([.classLink RL 25 "java/lang/IndexOutOfBoundsException", .methodLink RL 59 yX2_out, .instanceMethod yX2_out, .selects RX2 yX2_out yX2_out, .initialized RX2, .code yX2_out cX2_out 4 (some .int), .classLink RX2 120 "java/lang/IndexOutOfBoundsException", .initialized "java/lang/IndexOutOfBoundsException", .fieldLink RX2 81 "SweepEqual$Design" "outputCount" "I", .fieldLink RX2 160 "SweepEqual$Design" "shownCount" "I", .fieldLink RX2 163 "SweepEqual$Design" "shown" "[I", .methodLink RX2 63 yX2_needSide, .instanceMethod yX2_needSide, .selects RX2 yX2_needSide yX2_needSide, .code yX2_needSide cX2_needSide 2 none, .methodLink RX2 77 yX2_designOf, .instanceMethod yX2_designOf, .selects RX2 yX2_designOf yX2_designOf, .code yX2_designOf cX2_designOf 2 (some (.object "SweepEqual$Design")), .fieldLink RX2 19 "SweepEqual" "designA" "LSweepEqual$Design;", .fieldLink RX2 23 "SweepEqual" "designB" "LSweepEqual$Design;"] ++ wsX00 ++ wsX20 ++ (vx_atS RX2 124 "java/lang/IndexOutOfBoundsException" ["java/lang/RuntimeException", "java/lang/Exception"]).filter goodWord)
def wsL_state : List Cond := .codeWith yL_state cL_state 5 (some .int) [(0, 10, 13, 25)] :: ([.classLink RL 25 "java/lang/IndexOutOfBoundsException", .methodLink RL 62 yX2_state, .instanceMethod yX2_state, .selects RX2 yX2_state yX2_state, .initialized RX2, .code yX2_state cX2_state 3 (some .int), .fieldLink RX2 166 "SweepEqual$Design" "states" "I", .methodLink RX2 63 yX2_needSide, .instanceMethod yX2_needSide, .selects RX2 yX2_needSide yX2_needSide, .code yX2_needSide cX2_needSide 2 none, .classLink RX2 120 "java/lang/IndexOutOfBoundsException", .initialized "java/lang/IndexOutOfBoundsException", .methodLink RX2 89 yX2_needLatch, .instanceMethod yX2_needLatch, .selects RX2 yX2_needLatch yX2_needLatch, .code yX2_needLatch cX2_needLatch 2 none, .fieldLink RX2 47 "SweepEqual" "latchCount" "I", .methodLink RX2 77 yX2_designOf, .instanceMethod yX2_designOf, .selects RX2 yX2_designOf yX2_designOf, .code yX2_designOf cX2_designOf 2 (some (.object "SweepEqual$Design")), .fieldLink RX2 19 "SweepEqual" "designA" "LSweepEqual$Design;", .fieldLink RX2 23 "SweepEqual" "designB" "LSweepEqual$Design;"] ++ wsX00 ++ wsX20 ++ (vx_atS RX2 124 "java/lang/IndexOutOfBoundsException" ["java/lang/RuntimeException", "java/lang/Exception"]).filter goodWord)
def wsL_count : List Cond := .codeWith yL_count cL_count 4 (some .int) [(0, 9, 12, 25)] :: ([.classLink RL 25 "java/lang/IndexOutOfBoundsException", .methodLink RL 65 yX2_count, .instanceMethod yX2_count, .selects RX2 yX2_count yX2_count, .initialized RX2, .code yX2_count cX2_count 2 (some .int), .classLink RX2 120 "java/lang/IndexOutOfBoundsException", .initialized "java/lang/IndexOutOfBoundsException", .fieldLink RX2 12 "SweepEqual" "nodes" "LSweepEqual$Nodes;", .fieldLink RX2 169 "SweepEqual$Nodes" "count" "I", .fieldLink RX2 30 "SweepEqual" "inputCount" "I", .fieldLink RX2 47 "SweepEqual" "latchCount" "I", .fieldLink RX2 19 "SweepEqual" "designA" "LSweepEqual$Design;", .fieldLink RX2 81 "SweepEqual$Design" "outputCount" "I", .fieldLink RX2 23 "SweepEqual" "designB" "LSweepEqual$Design;", .methodLink RX2 172 yX1_countAnds, .instanceMethod yX1_countAnds, .selects RX1 yX1_countAnds yX1_countAnds, .initialized RX1, .code yX1_countAnds cX1_countAnds 4 (some .int), .fieldLink RX1 11 "SweepEqual$Nodes" "count" "I", .fieldLink RX1 15 "SweepEqual$Nodes" "owners" "[I"] ++ wsX20 ++ wsX10 ++ wsX00 ++ (vx_atS RX2 124 "java/lang/IndexOutOfBoundsException" ["java/lang/RuntimeException", "java/lang/Exception"]).filter goodWord)
def wsL_law0_r1 : List Cond := [Cond.classLink RL 8 RX2, Cond.instantiable RX2 7, Cond.initialized RX2, Cond.classLink RL 69 RX3, Cond.instantiable RX3 16, Cond.initialized RX3, Cond.arrayClass .long, Cond.methodLink RL 68 yX2_init, Cond.instanceMethod yX2_init, Cond.code yX2_init cX2_init 1 none, Cond.methodLink RX2 3 objectInit, Cond.instanceMethod objectInit, Cond.code objectInit ⟨#[0xb1]⟩ 1 none, Cond.classLink RX2 9 RX1, Cond.instantiable RX1 4, Cond.initialized RX1, Cond.fieldLink RX2 12 "SweepEqual" "nodes" "LSweepEqual$Nodes;", Cond.classLink RX2 16 RX0, Cond.instantiable RX0 7, Cond.initialized RX0, Cond.fieldLink RX2 19 "SweepEqual" "designA" "LSweepEqual$Design;", Cond.fieldLink RX2 23 "SweepEqual" "designB" "LSweepEqual$Design;", Cond.fieldLink RX2 26 "SweepEqual" "apartStep" "I", Cond.methodLink RX2 11 yX1_init]
def wsL_law0_r2 : List Cond := [Cond.instanceMethod yX1_init, Cond.code yX1_init cX1_init 1 none, Cond.methodLink RX1 5 objectInit, Cond.fieldLink RX1 11 "SweepEqual$Nodes" "count" "I", Cond.arrayClass .int, Cond.fieldLink RX1 15 "SweepEqual$Nodes" "owners" "[I", Cond.fieldLink RX1 19 "SweepEqual$Nodes" "firsts" "[I", Cond.fieldLink RX1 22 "SweepEqual$Nodes" "rows" "[J", Cond.methodLink RX2 18 yX0_init, Cond.instanceMethod yX0_init, Cond.code yX0_init cX0_init 1 none, Cond.methodLink RX0 3 objectInit, Cond.fieldLink RX0 9 "SweepEqual$Design" "outputs" "[I", Cond.fieldLink RX0 15 "SweepEqual$Design" "nexts" "[I", Cond.fieldLink RX0 18 "SweepEqual$Design" "shown" "[I", Cond.methodLink RL 71 yX3_init, Cond.instanceMethod yX3_init, Cond.code yX3_init cX3_init 1 none, Cond.methodLink RX3 1 objectInit, Cond.fieldLink RX3 7 "SweepEqualModel" "sides" "[I", Cond.fieldLink RX3 13 "SweepEqualModel" "tables" "[J", Cond.fieldLink RX3 17 "SweepEqualModel" "latchNodes" "[I", Cond.fieldLink RX3 20 "SweepEqualModel" "starts" "[I", Cond.fieldLink RX3 23 "SweepEqualModel" "nexts" "[I"]
def wsL_law0_r3 : List Cond := [Cond.fieldLink RX3 26 "SweepEqualModel" "states" "[I", Cond.fieldLink RX3 29 "SweepEqualModel" "outputCounts" "[I", Cond.fieldLink RX3 32 "SweepEqualModel" "outputs" "[I", Cond.fieldLink RX3 35 "SweepEqualModel" "told" "[I", Cond.fieldLink RX3 38 "SweepEqualModel" "toldCounts" "[I", Cond.methodLink RX3 41 yX3_clear, Cond.instanceMethod yX3_clear, Cond.selects RX3 yX3_clear yX3_clear, Cond.code yX3_clear cX3_clear 2 none, Cond.fieldLink RX3 44 "SweepEqualModel" "thrown" "I", Cond.fieldLink RX3 48 "SweepEqualModel" "nodes" "I", Cond.fieldLink RX3 51 "SweepEqualModel" "inputs" "I", Cond.fieldLink RX3 54 "SweepEqualModel" "latches" "I", Cond.methodLink RX3 65 yX3_start, Cond.instanceMethod yX3_start, Cond.selects RX3 yX3_start yX3_start, Cond.code yX3_start cX3_start 2 none, Cond.fieldLink RX3 103 "SweepEqualModel" "steps" "I", Cond.fieldLink RX3 106 "SweepEqualModel" "firstApart" "I", Cond.methodLink RL 72 yL_input, Cond.static yL_input, Cond.initialized RL, Cond.codeWith yL_input cL_input 3 (some .int) [(0, 8, 11, 13)], Cond.classLink RL 13 "java/lang/IllegalStateException"]
def wsL_law0_r4 : List Cond := [Cond.methodLink RL 7 yX2_input, Cond.instanceMethod yX2_input, Cond.selects RX2 yX2_input yX2_input, Cond.code yX2_input cX2_input 2 (some .int), Cond.classLink RX2 33 "java/lang/IllegalStateException", Cond.initialized "java/lang/IllegalStateException", Cond.fieldLink RX2 30 "SweepEqual" "inputCount" "I", Cond.methodLink RX2 40 yX2_needRoomForNode, Cond.instanceMethod yX2_needRoomForNode, Cond.selects RX2 yX2_needRoomForNode yX2_needRoomForNode, Cond.code yX2_needRoomForNode cX2_needRoomForNode 1 none, Cond.fieldLink RX2 169 "SweepEqual$Nodes" "count" "I", Cond.methodLink RX2 43 yX1_addVariable, Cond.instanceMethod yX1_addVariable, Cond.selects RX1 yX1_addVariable yX1_addVariable, Cond.code yX1_addVariable cX1_addVariable 4 (some .int), Cond.methodLink RX1 26 yX1_growRows, Cond.instanceMethod yX1_growRows, Cond.selects RX1 yX1_growRows yX1_growRows, Cond.code yX1_growRows cX1_growRows 1 none, Cond.methodLink RX1 60 Lib.Math.min.name, Cond.static Lib.Math.min.name, Cond.initialized "java/lang/Math", Cond.code Lib.Math.min.name Lib.Math.min.code 2 (some .int)]
def wsL_law0_r5 : List Cond := [Cond.methodLink RX1 66 yJ7_copyOf_c38d5, Cond.static yJ7_copyOf_c38d5, Cond.initialized RJ7, Cond.code yJ7_copyOf_c38d5 cJ7_copyOf_c38d5 3 (some (.array .long)), Cond.methodLink RJ7 319 ⟨"[J", "clone", "()Ljava/lang/Object;"⟩, Cond.sameMethod "[J" "java/lang/Object" "clone" "()Ljava/lang/Object;", Cond.native ⟨"java/lang/Object", "clone", "()Ljava/lang/Object;"⟩, Cond.instanceMethod ⟨"java/lang/Object", "clone", "()Ljava/lang/Object;"⟩, Cond.selects "[J" ⟨"[J", "clone", "()Ljava/lang/Object;"⟩ ⟨"java/lang/Object", "clone", "()Ljava/lang/Object;"⟩, Cond.classLink RJ7 320 "[J", Cond.methodLink RJ7 304 Lib.Math.min.name, Cond.methodLink RJ7 150 arraycopyName, Cond.native arraycopyName, Cond.static arraycopyName, Cond.initialized "java/lang/System", Cond.methodLink RX1 29 yX1_variableWord, Cond.static yX1_variableWord, Cond.code yX1_variableWord cX1_variableWord 2 (some .long), Cond.fieldLink RX1 85 "SweepEqual$Nodes" "WORD_PATTERNS" "[J", Cond.constantLong RX1 88 (-1), Cond.methodLink RX1 33 yX1_settle, Cond.instanceMethod yX1_settle, Cond.selects RX1 yX1_settle yX1_settle, Cond.code yX1_settle cX1_settle 3 (some .int)]
def wsL_law0_r6 : List Cond := [Cond.methodLink RX1 72 yX1_findFirst, Cond.instanceMethod yX1_findFirst, Cond.selects RX1 yX1_findFirst yX1_findFirst, Cond.code yX1_findFirst cX1_findFirst 6 (some .int), Cond.methodLink RX1 75 yX1_valueIn, Cond.instanceMethod yX1_valueIn, Cond.selects RX1 yX1_valueIn yX1_valueIn, Cond.code yX1_valueIn cX1_valueIn 4 (some .int), Cond.methodLink RX1 37 yX1_wordOf, Cond.instanceMethod yX1_wordOf, Cond.selects RX1 yX1_wordOf yX1_wordOf, Cond.code yX1_wordOf cX1_wordOf 5 (some .long), Cond.methodLink RX1 78 yX1_leastDifference, Cond.instanceMethod yX1_leastDifference, Cond.selects RX1 yX1_leastDifference yX1_leastDifference, Cond.code yX1_leastDifference cX1_leastDifference 6 (some .int), Cond.methodLink RX1 57 yJ13_numberOfTrailingZeros_95d88, Cond.static yJ13_numberOfTrailingZeros_95d88, Cond.initialized RJ13, Cond.code yJ13_numberOfTrailingZeros_95d88 cJ13_numberOfTrailingZeros_95d88 3 (some .int), Cond.methodLink RJ13 311 yJ6_numberOfTrailingZeros_0f7a4, Cond.static yJ6_numberOfTrailingZeros_0f7a4, Cond.initialized RJ6, Cond.code yJ6_numberOfTrailingZeros_0f7a4 cJ6_numberOfTrailingZeros_0f7a4 2 (some .int)]
def wsL_law0_r7 : List Cond := [Cond.constant RJ6 264 (65536), Cond.methodLink RL 77 yX3_input, Cond.instanceMethod yX3_input, Cond.selects RX3 yX3_input yX3_input, Cond.code yX3_input cX3_input 1 (some .int), Cond.methodLink RX3 57 yX3_variable, Cond.instanceMethod yX3_variable, Cond.selects RX3 yX3_variable yX3_variable, Cond.code yX3_variable cX3_variable 3 (some .int), Cond.methodLink RL 78 yX3_thrown, Cond.instanceMethod yX3_thrown, Cond.selects RX3 yX3_thrown yX3_thrown, Cond.code yX3_thrown cX3_thrown 1 (some .int), Cond.methodLink RL 81 yL_latch, Cond.static yL_latch, Cond.codeWith yL_latch cL_latch 5 (some .int) [(0, 10, 13, 13), (0, 10, 17, 19)], Cond.classLink RL 19 "java/lang/IllegalArgumentException", Cond.methodLink RL 15 yX2_latch, Cond.instanceMethod yX2_latch, Cond.selects RX2 yX2_latch yX2_latch, Cond.code yX2_latch cX2_latch 4 (some .int), Cond.fieldLink RX2 47 "SweepEqual" "latchCount" "I", Cond.methodLink RX2 52 yX2_needStart, Cond.instanceMethod yX2_needStart]
def wsL_law0_r8 : List Cond := [Cond.selects RX2 yX2_needStart yX2_needStart, Cond.code yX2_needStart cX2_needStart 2 none, Cond.classLink RX2 187 "java/lang/IllegalArgumentException", Cond.initialized "java/lang/IllegalArgumentException", Cond.methodLink RX2 56 yX0_addLatch, Cond.instanceMethod yX0_addLatch, Cond.selects RX0 yX0_addLatch yX0_addLatch, Cond.code yX0_addLatch cX0_addLatch 4 none, Cond.fieldLink RX0 25 "SweepEqual$Design" "starts" "I", Cond.methodLink RX2 60 yX2_backToStarts, Cond.instanceMethod yX2_backToStarts, Cond.selects RX2 yX2_backToStarts yX2_backToStarts, Cond.code yX2_backToStarts cX2_backToStarts 1 none, Cond.fieldLink RX2 155 "SweepEqual" "steps" "I", Cond.methodLink RX2 199 yX0_backToStarts, Cond.instanceMethod yX0_backToStarts, Cond.selects RX0 yX0_backToStarts yX0_backToStarts, Cond.code yX0_backToStarts cX0_backToStarts 1 none, Cond.fieldLink RX0 28 "SweepEqual$Design" "states" "I", Cond.fieldLink RX0 31 "SweepEqual$Design" "shownCount" "I", Cond.methodLink RL 84 yX3_latch, Cond.instanceMethod yX3_latch, Cond.selects RX3 yX3_latch yX3_latch, Cond.code yX3_latch cX3_latch 5 (some .int)]
def wsL_law0_r9 : List Cond := [Cond.methodLink RX3 61 yX3_isSide, Cond.static yX3_isSide, Cond.code yX3_isSide cX3_isSide 1 (some .boolean), Cond.methodLink RL 85 yL_and, Cond.static yL_and, Cond.codeWith yL_and cL_and 6 (some .int) [(0, 12, 15, 25), (0, 12, 19, 13), (0, 12, 23, 19)], Cond.classLink RL 25 "java/lang/IndexOutOfBoundsException", Cond.methodLink RL 21 yX2_and, Cond.instanceMethod yX2_and, Cond.selects RX2 yX2_and yX2_and, Cond.code yX2_and cX2_and 4 (some .int), Cond.methodLink RX2 63 yX2_needSide, Cond.instanceMethod yX2_needSide, Cond.selects RX2 yX2_needSide yX2_needSide, Cond.code yX2_needSide cX2_needSide 2 none, Cond.classLink RX2 120 "java/lang/IndexOutOfBoundsException", Cond.initialized "java/lang/IndexOutOfBoundsException", Cond.methodLink RX2 66 yX2_needLiteral, Cond.instanceMethod yX2_needLiteral, Cond.selects RX2 yX2_needLiteral yX2_needLiteral, Cond.code yX2_needLiteral cX2_needLiteral 2 none, Cond.methodLink RX2 69 yX2_needOwn, Cond.instanceMethod yX2_needOwn, Cond.selects RX2 yX2_needOwn yX2_needOwn]
def wsL_law0_r10 : List Cond := [Cond.code yX2_needOwn cX2_needOwn 3 none, Cond.methodLink RX2 194 yX1_isOfOtherSide, Cond.instanceMethod yX1_isOfOtherSide, Cond.selects RX1 yX1_isOfOtherSide yX1_isOfOtherSide, Cond.code yX1_isOfOtherSide cX1_isOfOtherSide 4 (some .boolean), Cond.methodLink RX2 73 yX1_addAnd, Cond.instanceMethod yX1_addAnd, Cond.selects RX1 yX1_addAnd yX1_addAnd, Cond.code yX1_addAnd cX1_addAnd 6 (some .int), Cond.methodLink RL 88 yX3_and, Cond.instanceMethod yX3_and, Cond.selects RX3 yX3_and yX3_and, Cond.code yX3_and cX3_and 10 (some .int), Cond.constantLong RX3 75 (-1), Cond.methodLink RX3 68 yX3_isLiteral, Cond.instanceMethod yX3_isLiteral, Cond.selects RX3 yX3_isLiteral yX3_isLiteral, Cond.code yX3_isLiteral cX3_isLiteral 2 (some .boolean), Cond.methodLink RX3 71 yX3_isOther, Cond.instanceMethod yX3_isOther, Cond.selects RX3 yX3_isOther yX3_isOther, Cond.code yX3_isOther cX3_isOther 3 (some .boolean), Cond.methodLink RL 89 yL_output, Cond.static yL_output]
def wsL_law0_r11 : List Cond := [Cond.codeWith yL_output cL_output 5 (some .int) [(0, 10, 13, 25), (0, 10, 17, 13), (0, 10, 21, 19)], Cond.methodLink RL 27 yX2_output, Cond.instanceMethod yX2_output, Cond.selects RX2 yX2_output yX2_output, Cond.code yX2_output cX2_output 4 (some .int), Cond.fieldLink RX2 81 "SweepEqual$Design" "outputCount" "I", Cond.methodLink RX2 77 yX2_designOf, Cond.instanceMethod yX2_designOf, Cond.selects RX2 yX2_designOf yX2_designOf, Cond.code yX2_designOf cX2_designOf 2 (some (.object "SweepEqual$Design")), Cond.methodLink RX2 86 yX0_addOutput, Cond.instanceMethod yX0_addOutput, Cond.selects RX0 yX0_addOutput yX0_addOutput, Cond.code yX0_addOutput cX0_addOutput 2 (some .int), Cond.fieldLink RX0 21 "SweepEqual$Design" "outputCount" "I", Cond.methodLink RL 91 yX3_output, Cond.instanceMethod yX3_output, Cond.selects RX3 yX3_output yX3_output, Cond.code yX3_output cX3_output 4 (some .int), Cond.methodLink RL 92 yL_next, Cond.static yL_next, Cond.codeWith yL_next cL_next 6 (some .int) [(0, 12, 15, 25), (0, 12, 19, 19)], Cond.methodLink RL 30 yX2_next, Cond.instanceMethod yX2_next]
def wsL_law0_r12 : List Cond := [Cond.selects RX2 yX2_next yX2_next, Cond.code yX2_next cX2_next 6 (some .int), Cond.fieldLink RX2 92 "SweepEqual$Design" "nexts" "[I", Cond.methodLink RX2 89 yX2_needLatch, Cond.instanceMethod yX2_needLatch, Cond.selects RX2 yX2_needLatch yX2_needLatch, Cond.code yX2_needLatch cX2_needLatch 2 none, Cond.methodLink RL 94 yX3_next, Cond.instanceMethod yX3_next, Cond.selects RX3 yX3_next yX3_next, Cond.code yX3_next cX3_next 6 (some .int), Cond.methodLink RX3 77 yX3_isIn, Cond.static yX3_isIn, Cond.code yX3_isIn cX3_isIn 2 (some .boolean), Cond.methodLink RL 95 yL_same, Cond.static yL_same, Cond.codeWith yL_same cL_same 5 (some .int) [(0, 17, 20, 25)], Cond.methodLink RL 33 yX2_same, Cond.instanceMethod yX2_same, Cond.selects RX2 yX2_same yX2_same, Cond.code yX2_same cX2_same 3 (some .boolean), Cond.methodLink RX2 96 yX1_areSame, Cond.instanceMethod yX1_areSame, Cond.selects RX1 yX1_areSame yX1_areSame]
def wsL_law0_r13 : List Cond := [Cond.code yX1_areSame cX1_areSame 3 (some .boolean), Cond.methodLink RX1 40 yX1_firstOf, Cond.instanceMethod yX1_firstOf, Cond.selects RX1 yX1_firstOf yX1_firstOf, Cond.code yX1_firstOf cX1_firstOf 2 (some .int), Cond.methodLink RL 97 yX3_same, Cond.instanceMethod yX3_same, Cond.selects RX3 yX3_same yX3_same, Cond.code yX3_same cX3_same 3 (some .boolean), Cond.methodLink RX3 80 yX3_areSame, Cond.instanceMethod yX3_areSame, Cond.selects RX3 yX3_areSame yX3_areSame, Cond.code yX3_areSame cX3_areSame 6 (some .boolean), Cond.methodLink RL 98 yL_first, Cond.static yL_first, Cond.codeWith yL_first cL_first 4 (some .int) [(0, 9, 12, 25)], Cond.methodLink RL 37 yX2_first, Cond.instanceMethod yX2_first, Cond.selects RX2 yX2_first yX2_first, Cond.code yX2_first cX2_first 2 (some .int), Cond.methodLink RX2 100 yX1_firstOf, Cond.methodLink RL 101 yX3_first, Cond.instanceMethod yX3_first, Cond.selects RX3 yX3_first yX3_first]
def wsL_law0_r14 : List Cond := [Cond.code yX3_first cX3_first 2 (some .int), Cond.methodLink RX3 83 yX3_firstOf, Cond.instanceMethod yX3_firstOf, Cond.selects RX3 yX3_firstOf yX3_firstOf, Cond.code yX3_firstOf cX3_firstOf 3 (some .int), Cond.methodLink RL 102 yX2_classes, Cond.instanceMethod yX2_classes, Cond.selects RX2 yX2_classes yX2_classes, Cond.code yX2_classes cX2_classes 1 (some .int), Cond.methodLink RX2 103 yX1_countClasses, Cond.instanceMethod yX1_countClasses, Cond.selects RX1 yX1_countClasses yX1_countClasses, Cond.code yX1_countClasses cX1_countClasses 3 (some .int), Cond.methodLink RX1 43 yX1_isLeast, Cond.instanceMethod yX1_isLeast, Cond.selects RX1 yX1_isLeast yX1_isLeast, Cond.code yX1_isLeast cX1_isLeast 2 (some .boolean), Cond.methodLink RL 105 yX3_classes, Cond.instanceMethod yX3_classes, Cond.selects RX3 yX3_classes yX3_classes, Cond.code yX3_classes cX3_classes 3 (some .int), Cond.methodLink RX3 86 yX3_isLeast, Cond.instanceMethod yX3_isLeast, Cond.selects RX3 yX3_isLeast yX3_isLeast]
def wsL_law0_r15 : List Cond := [Cond.code yX3_isLeast cX3_isLeast 3 (some .boolean), Cond.methodLink RL 106 yL_merged, Cond.static yL_merged, Cond.codeWith yL_merged cL_merged 4 (some .int) [(0, 9, 12, 25)], Cond.methodLink RL 41 yX2_merged, Cond.instanceMethod yX2_merged, Cond.selects RX2 yX2_merged yX2_merged, Cond.code yX2_merged cX2_merged 2 (some .int), Cond.methodLink RX2 107 yX1_countMerged, Cond.instanceMethod yX1_countMerged, Cond.selects RX1 yX1_countMerged yX1_countMerged, Cond.code yX1_countMerged cX1_countMerged 4 (some .int), Cond.methodLink RL 108 yX3_merged, Cond.instanceMethod yX3_merged, Cond.selects RX3 yX3_merged yX3_merged, Cond.code yX3_merged cX3_merged 4 (some .int), Cond.methodLink RL 109 yL_hangs, Cond.static yL_hangs, Cond.codeWith yL_hangs cL_hangs 4 (some .int) [(0, 9, 12, 25)], Cond.methodLink RL 44 yX2_hangs, Cond.instanceMethod yX2_hangs, Cond.selects RX2 yX2_hangs yX2_hangs, Cond.code yX2_hangs cX2_hangs 2 (some .int), Cond.methodLink RX2 110 yX1_supportOf]
def wsL_law0_r16 : List Cond := [Cond.instanceMethod yX1_supportOf, Cond.selects RX1 yX1_supportOf yX1_supportOf, Cond.code yX1_supportOf cX1_supportOf 4 (some .int), Cond.methodLink RX1 53 yX1_hangsOn, Cond.instanceMethod yX1_hangsOn, Cond.selects RX1 yX1_hangsOn yX1_hangsOn, Cond.code yX1_hangsOn cX1_hangsOn 4 (some .boolean), Cond.methodLink RX1 81 yX1_wordHangsOn, Cond.instanceMethod yX1_wordHangsOn, Cond.selects RX1 yX1_wordHangsOn yX1_wordHangsOn, Cond.code yX1_wordHangsOn cX1_wordHangsOn 8 (some .boolean), Cond.methodLink RL 111 yX3_hangs, Cond.instanceMethod yX3_hangs, Cond.selects RX3 yX3_hangs yX3_hangs, Cond.code yX3_hangs cX3_hangs 5 (some .int), Cond.methodLink RX3 89 yX3_bit, Cond.instanceMethod yX3_bit, Cond.selects RX3 yX3_bit yX3_bit, Cond.code yX3_bit cX3_bit 5 (some .int), Cond.methodLink RL 112 yL_ones, Cond.static yL_ones, Cond.codeWith yL_ones cL_ones 4 (some .int) [(0, 9, 12, 25)], Cond.methodLink RL 47 yX2_ones, Cond.instanceMethod yX2_ones]
def wsL_law0_r17 : List Cond := [Cond.selects RX2 yX2_ones yX2_ones, Cond.code yX2_ones cX2_ones 2 (some .int), Cond.methodLink RX2 113 yX1_countOnes, Cond.instanceMethod yX1_countOnes, Cond.selects RX1 yX1_countOnes yX1_countOnes, Cond.code yX1_countOnes cX1_countOnes 4 (some .int), Cond.methodLink RX1 47 yJ13_bitCount_95d88, Cond.static yJ13_bitCount_95d88, Cond.code yJ13_bitCount_95d88 cJ13_bitCount_95d88 2 (some .int), Cond.constantLong RJ13 314 (6148914691236517205), Cond.constantLong RJ13 316 (3689348814741910323), Cond.constantLong RJ13 318 (1085102592571150095), Cond.methodLink RL 114 yX3_ones, Cond.instanceMethod yX3_ones, Cond.selects RX3 yX3_ones yX3_ones, Cond.code yX3_ones cX3_ones 4 (some .int), Cond.methodLink RX3 93 yX3_present, Cond.instanceMethod yX3_present, Cond.selects RX3 yX3_present yX3_present, Cond.code yX3_present cX3_present 1 (some .int), Cond.methodLink RL 115 yL_value, Cond.static yL_value, Cond.codeWith yL_value cL_value 5 (some .int) [(0, 10, 13, 25)], Cond.methodLink RL 50 yX2_value]
def wsL_law0_r18 : List Cond := [Cond.instanceMethod yX2_value, Cond.selects RX2 yX2_value yX2_value, Cond.code yX2_value cX2_value 3 (some .int), Cond.methodLink RX2 116 yX1_valueIn, Cond.methodLink RL 117 yX3_value, Cond.instanceMethod yX3_value, Cond.selects RX3 yX3_value yX3_value, Cond.code yX3_value cX3_value 3 (some .int), Cond.methodLink RL 118 yL_differs, Cond.static yL_differs, Cond.codeWith yL_differs cL_differs 4 (some .int) [(0, 9, 12, 25)], Cond.methodLink RL 53 yX2_differs, Cond.instanceMethod yX2_differs, Cond.selects RX2 yX2_differs yX2_differs, Cond.code yX2_differs cX2_differs 5 (some .int), Cond.fieldLink RX2 128 "SweepEqual$Design" "outputs" "[I", Cond.methodLink RX2 125 yX2_sharedOutputs, Cond.instanceMethod yX2_sharedOutputs, Cond.selects RX2 yX2_sharedOutputs yX2_sharedOutputs, Cond.code yX2_sharedOutputs cX2_sharedOutputs 1 (some .int), Cond.methodLink RX2 200 Lib.Math.min.name, Cond.methodLink RX2 131 yX2_countDifferent, Cond.instanceMethod yX2_countDifferent, Cond.selects RX2 yX2_countDifferent yX2_countDifferent]
def wsL_law0_r19 : List Cond := [Cond.code yX2_countDifferent cX2_countDifferent 6 (some .int), Cond.methodLink RX2 135 yX2_placeOfDifferent, Cond.instanceMethod yX2_placeOfDifferent, Cond.selects RX2 yX2_placeOfDifferent yX2_placeOfDifferent, Cond.code yX2_placeOfDifferent cX2_placeOfDifferent 7 (some .int), Cond.methodLink RX2 139 yX2_differentStartOrSize, Cond.instanceMethod yX2_differentStartOrSize, Cond.selects RX2 yX2_differentStartOrSize yX2_differentStartOrSize, Cond.code yX2_differentStartOrSize cX2_differentStartOrSize 5 (some .int), Cond.fieldLink RX2 205 "SweepEqual$Design" "starts" "I", Cond.methodLink RL 120 yX3_differs, Cond.instanceMethod yX3_differs, Cond.selects RX3 yX3_differs yX3_differs, Cond.code yX3_differs cX3_differs 5 (some .int), Cond.methodLink RX3 100 yX3_isApart, Cond.instanceMethod yX3_isApart, Cond.selects RX3 yX3_isApart yX3_isApart, Cond.code yX3_isApart cX3_isApart 2 (some .boolean), Cond.methodLink RX3 97 yX3_both, Cond.instanceMethod yX3_both, Cond.selects RX3 yX3_both yX3_both, Cond.code yX3_both cX3_both 1 (some .int), Cond.methodLink RL 121 yL_witness, Cond.static yL_witness]
def wsL_law0_r20 : List Cond := [Cond.codeWith yL_witness cL_witness 4 (some .int) [(0, 9, 12, 25)], Cond.methodLink RL 56 yX2_witness, Cond.instanceMethod yX2_witness, Cond.selects RX2 yX2_witness yX2_witness, Cond.code yX2_witness cX2_witness 3 (some .int), Cond.methodLink RX2 142 yX1_leastDifference, Cond.methodLink RL 123 yX3_witness, Cond.instanceMethod yX3_witness, Cond.selects RX3 yX3_witness yX3_witness, Cond.code yX3_witness cX3_witness 7 (some .int), Cond.methodLink RL 124 yX2_reset, Cond.instanceMethod yX2_reset, Cond.selects RX2 yX2_reset yX2_reset, Cond.code yX2_reset cX2_reset 1 none, Cond.methodLink RL 127 yX3_reset, Cond.instanceMethod yX3_reset, Cond.selects RX3 yX3_reset yX3_reset, Cond.code yX3_reset cX3_reset 1 none, Cond.methodLink RL 128 yX2_step, Cond.instanceMethod yX2_step, Cond.selects RX2 yX2_step yX2_step, Cond.code yX2_step cX2_step 2 (some .int), Cond.methodLink RX2 147 yX0_runStep, Cond.instanceMethod yX0_runStep]
def wsL_law0_r21 : List Cond := [Cond.selects RX0 yX0_runStep yX0_runStep, Cond.code yX0_runStep cX0_runStep 7 none, Cond.methodLink RX0 34 yX1_valueIn, Cond.methodLink RX2 151 yX2_showApart, Cond.instanceMethod yX2_showApart, Cond.selects RX2 yX2_showApart yX2_showApart, Cond.code yX2_showApart cX2_showApart 3 (some .boolean), Cond.fieldLink RX2 160 "SweepEqual$Design" "shownCount" "I", Cond.fieldLink RX2 163 "SweepEqual$Design" "shown" "[I", Cond.methodLink RL 131 yX3_step, Cond.instanceMethod yX3_step, Cond.selects RX3 yX3_step yX3_step, Cond.code yX3_step cX3_step 5 (some .int), Cond.methodLink RX3 109 yX3_assignment, Cond.instanceMethod yX3_assignment, Cond.selects RX3 yX3_assignment yX3_assignment, Cond.code yX3_assignment cX3_assignment 5 (some .int), Cond.methodLink RL 132 yL_out, Cond.static yL_out, Cond.codeWith yL_out cL_out 5 (some .int) [(0, 10, 13, 25)], Cond.methodLink RL 59 yX2_out, Cond.instanceMethod yX2_out, Cond.selects RX2 yX2_out yX2_out, Cond.code yX2_out cX2_out 4 (some .int)]
def wsL_law0_r22 : List Cond := [Cond.methodLink RL 134 yX3_out, Cond.instanceMethod yX3_out, Cond.selects RX3 yX3_out yX3_out, Cond.code yX3_out cX3_out 3 (some .int), Cond.methodLink RL 135 yL_state, Cond.static yL_state, Cond.codeWith yL_state cL_state 5 (some .int) [(0, 10, 13, 25)], Cond.methodLink RL 62 yX2_state, Cond.instanceMethod yX2_state, Cond.selects RX2 yX2_state yX2_state, Cond.code yX2_state cX2_state 3 (some .int), Cond.fieldLink RX2 166 "SweepEqual$Design" "states" "I", Cond.methodLink RL 137 yX3_state, Cond.instanceMethod yX3_state, Cond.selects RX3 yX3_state yX3_state, Cond.code yX3_state cX3_state 3 (some .int), Cond.methodLink RL 138 yX2_apart, Cond.instanceMethod yX2_apart, Cond.selects RX2 yX2_apart yX2_apart, Cond.code yX2_apart cX2_apart 1 (some .int), Cond.methodLink RL 141 yX3_apart, Cond.instanceMethod yX3_apart, Cond.selects RX3 yX3_apart yX3_apart, Cond.code yX3_apart cX3_apart 1 (some .int)]
def wsL_law0_r23 : List Cond := [Cond.methodLink RL 142 yL_count, Cond.static yL_count, Cond.codeWith yL_count cL_count 4 (some .int) [(0, 9, 12, 25)], Cond.methodLink RL 65 yX2_count, Cond.instanceMethod yX2_count, Cond.selects RX2 yX2_count yX2_count, Cond.code yX2_count cX2_count 2 (some .int), Cond.methodLink RX2 172 yX1_countAnds, Cond.instanceMethod yX1_countAnds, Cond.selects RX1 yX1_countAnds yX1_countAnds, Cond.code yX1_countAnds cX1_countAnds 4 (some .int), Cond.methodLink RL 144 yX3_count, Cond.instanceMethod yX3_count, Cond.selects RX3 yX3_count yX3_count, Cond.code yX3_count cX3_count 2 (some .int), Cond.methodLink RX3 112 yX3_ands, Cond.instanceMethod yX3_ands, Cond.selects RX3 yX3_ands yX3_ands, Cond.code yX3_ands cX3_ands 4 (some .int), Cond.methodLink RL 145 yX2_clear, Cond.instanceMethod yX2_clear, Cond.selects RX2 yX2_clear yX2_clear, Cond.code yX2_clear cX2_clear 1 none, Cond.methodLink RX2 177 yX1_forget]
def wsL_law0_r24 : List Cond := [Cond.instanceMethod yX1_forget, Cond.selects RX1 yX1_forget yX1_forget, Cond.code yX1_forget cX1_forget 1 none, Cond.methodLink RX2 180 yX0_forget, Cond.instanceMethod yX0_forget, Cond.selects RX0 yX0_forget yX0_forget, Cond.code yX0_forget cX0_forget 1 none, Cond.methodLink RL 148 yX3_clear]
def wsL_law0 : List Cond := (wsL_law0_r1 ++ (wsL_law0_r2 ++ (wsL_law0_r3 ++ (wsL_law0_r4 ++ (wsL_law0_r5 ++ (wsL_law0_r6 ++ (wsL_law0_r7 ++ (wsL_law0_r8 ++ (wsL_law0_r9 ++ (wsL_law0_r10 ++ (wsL_law0_r11 ++ (wsL_law0_r12 ++ (wsL_law0_r13 ++ (wsL_law0_r14 ++ (wsL_law0_r15 ++ (wsL_law0_r16 ++ (wsL_law0_r17 ++ (wsL_law0_r18 ++ (wsL_law0_r19 ++ (wsL_law0_r20 ++ (wsL_law0_r21 ++ (wsL_law0_r22 ++ (wsL_law0_r23 ++ wsL_law0_r24))))))))))))))))))))))) ++ wsX20 ++ wsX30 ++ wsX10 ++ wsX00 ++ ([] : List Cond)
def wsL_law : List Cond := wsL_law0 ++ (vx_atS RX2 37 "java/lang/IllegalStateException" ["java/lang/RuntimeException", "java/lang/Exception"]).filter goodWord ++ (vx_atS RX2 191 "java/lang/IllegalArgumentException" ["java/lang/RuntimeException", "java/lang/Exception"]).filter goodWord ++ (vx_atS RX2 124 "java/lang/IndexOutOfBoundsException" ["java/lang/RuntimeException", "java/lang/Exception"]).filter goodWord
theorem inJx8e188 : ∀ w ∈ wsJx8e1880, w ∈ lw_tbl := by decide +kernel
theorem inJ6 : ∀ w ∈ wsJ60, w ∈ lw_tbl := by decide +kernel
theorem inJ13 : ∀ w ∈ wsJ130, w ∈ lw_tbl := by decide +kernel
theorem inJ9 : ∀ w ∈ wsJ90, w ∈ lw_tbl := by decide +kernel
theorem inJ0 : ∀ w ∈ wsJ00, w ∈ lw_tbl := by decide +kernel
theorem inJ10 : ∀ w ∈ wsJ100, w ∈ lw_tbl := by decide +kernel
theorem inJ7 : ∀ w ∈ wsJ70, w ∈ lw_tbl := by decide +kernel
abbrev vwCl : List vw_C := [(RX0, TX0, 7), (RX1, TX1, 4), (RX2, TX2, 7), (RX3, TX3, 16)]
end
section
theorem dJ6_numberOfTrailingZeros_0f7a4_0 : decode cJ6_numberOfTrailingZeros_0f7a4 0 = .ok (.iload_n 0, 1) := by decide +kernel
theorem dJ6_numberOfTrailingZeros_0f7a4_1 : decode cJ6_numberOfTrailingZeros_0f7a4 1 = .ok (.iconst (-1), 1) := by decide +kernel
theorem dJ6_numberOfTrailingZeros_0f7a4_2 : decode cJ6_numberOfTrailingZeros_0f7a4 2 = .ok (.ixor, 1) := by decide +kernel
theorem dJ6_numberOfTrailingZeros_0f7a4_3 : decode cJ6_numberOfTrailingZeros_0f7a4 3 = .ok (.iload_n 0, 1) := by decide +kernel
theorem dJ6_numberOfTrailingZeros_0f7a4_4 : decode cJ6_numberOfTrailingZeros_0f7a4 4 = .ok (.iconst 1, 1) := by decide +kernel
theorem dJ6_numberOfTrailingZeros_0f7a4_5 : decode cJ6_numberOfTrailingZeros_0f7a4 5 = .ok (.isub, 1) := by decide +kernel
theorem dJ6_numberOfTrailingZeros_0f7a4_6 : decode cJ6_numberOfTrailingZeros_0f7a4 6 = .ok (.iand, 1) := by decide +kernel
theorem dJ6_numberOfTrailingZeros_0f7a4_7 : decode cJ6_numberOfTrailingZeros_0f7a4 7 = .ok (.istore_n 0, 1) := by decide +kernel
theorem dJ6_numberOfTrailingZeros_0f7a4_8 : decode cJ6_numberOfTrailingZeros_0f7a4 8 = .ok (.iload_n 0, 1) := by decide +kernel
theorem dJ6_numberOfTrailingZeros_0f7a4_9 : decode cJ6_numberOfTrailingZeros_0f7a4 9 = .ok (.ifCond .gt 8, 3) := by decide +kernel
theorem dJ6_numberOfTrailingZeros_0f7a4_12 : decode cJ6_numberOfTrailingZeros_0f7a4 12 = .ok (.iload_n 0, 1) := by decide +kernel
theorem dJ6_numberOfTrailingZeros_0f7a4_13 : decode cJ6_numberOfTrailingZeros_0f7a4 13 = .ok (.bipush 32, 2) := by decide +kernel
theorem dJ6_numberOfTrailingZeros_0f7a4_15 : decode cJ6_numberOfTrailingZeros_0f7a4 15 = .ok (.iand, 1) := by decide +kernel
theorem dJ6_numberOfTrailingZeros_0f7a4_16 : decode cJ6_numberOfTrailingZeros_0f7a4 16 = .ok (.ireturn, 1) := by decide +kernel
theorem dJ6_numberOfTrailingZeros_0f7a4_17 : decode cJ6_numberOfTrailingZeros_0f7a4 17 = .ok (.iconst 1, 1) := by decide +kernel
theorem dJ6_numberOfTrailingZeros_0f7a4_18 : decode cJ6_numberOfTrailingZeros_0f7a4 18 = .ok (.istore_n 1, 1) := by decide +kernel
theorem dJ6_numberOfTrailingZeros_0f7a4_19 : decode cJ6_numberOfTrailingZeros_0f7a4 19 = .ok (.iload_n 0, 1) := by decide +kernel
theorem dJ6_numberOfTrailingZeros_0f7a4_20 : decode cJ6_numberOfTrailingZeros_0f7a4 20 = .ok (.ldc_w 264, 3) := by decide +kernel
theorem dJ6_numberOfTrailingZeros_0f7a4_23 : decode cJ6_numberOfTrailingZeros_0f7a4 23 = .ok (.if_icmp .le 11, 3) := by decide +kernel
theorem dJ6_numberOfTrailingZeros_0f7a4_26 : decode cJ6_numberOfTrailingZeros_0f7a4 26 = .ok (.iinc 1 16, 3) := by decide +kernel
theorem dJ6_numberOfTrailingZeros_0f7a4_29 : decode cJ6_numberOfTrailingZeros_0f7a4 29 = .ok (.iload_n 0, 1) := by decide +kernel
theorem dJ6_numberOfTrailingZeros_0f7a4_30 : decode cJ6_numberOfTrailingZeros_0f7a4 30 = .ok (.bipush 16, 2) := by decide +kernel
theorem dJ6_numberOfTrailingZeros_0f7a4_32 : decode cJ6_numberOfTrailingZeros_0f7a4 32 = .ok (.iushr, 1) := by decide +kernel
theorem dJ6_numberOfTrailingZeros_0f7a4_33 : decode cJ6_numberOfTrailingZeros_0f7a4 33 = .ok (.istore_n 0, 1) := by decide +kernel
theorem dJ6_numberOfTrailingZeros_0f7a4_34 : decode cJ6_numberOfTrailingZeros_0f7a4 34 = .ok (.iload_n 0, 1) := by decide +kernel
theorem dJ6_numberOfTrailingZeros_0f7a4_35 : decode cJ6_numberOfTrailingZeros_0f7a4 35 = .ok (.sipush 256, 3) := by decide +kernel
theorem dJ6_numberOfTrailingZeros_0f7a4_38 : decode cJ6_numberOfTrailingZeros_0f7a4 38 = .ok (.if_icmp .le 11, 3) := by decide +kernel
theorem dJ6_numberOfTrailingZeros_0f7a4_41 : decode cJ6_numberOfTrailingZeros_0f7a4 41 = .ok (.iinc 1 8, 3) := by decide +kernel
theorem dJ6_numberOfTrailingZeros_0f7a4_44 : decode cJ6_numberOfTrailingZeros_0f7a4 44 = .ok (.iload_n 0, 1) := by decide +kernel
theorem dJ6_numberOfTrailingZeros_0f7a4_45 : decode cJ6_numberOfTrailingZeros_0f7a4 45 = .ok (.bipush 8, 2) := by decide +kernel
theorem dJ6_numberOfTrailingZeros_0f7a4_47 : decode cJ6_numberOfTrailingZeros_0f7a4 47 = .ok (.iushr, 1) := by decide +kernel
theorem dJ6_numberOfTrailingZeros_0f7a4_48 : decode cJ6_numberOfTrailingZeros_0f7a4 48 = .ok (.istore_n 0, 1) := by decide +kernel
theorem dJ6_numberOfTrailingZeros_0f7a4_49 : decode cJ6_numberOfTrailingZeros_0f7a4 49 = .ok (.iload_n 0, 1) := by decide +kernel
theorem dJ6_numberOfTrailingZeros_0f7a4_50 : decode cJ6_numberOfTrailingZeros_0f7a4 50 = .ok (.bipush 16, 2) := by decide +kernel
theorem dJ6_numberOfTrailingZeros_0f7a4_52 : decode cJ6_numberOfTrailingZeros_0f7a4 52 = .ok (.if_icmp .le 10, 3) := by decide +kernel
theorem dJ6_numberOfTrailingZeros_0f7a4_55 : decode cJ6_numberOfTrailingZeros_0f7a4 55 = .ok (.iinc 1 4, 3) := by decide +kernel
theorem dJ6_numberOfTrailingZeros_0f7a4_58 : decode cJ6_numberOfTrailingZeros_0f7a4 58 = .ok (.iload_n 0, 1) := by decide +kernel
theorem dJ6_numberOfTrailingZeros_0f7a4_59 : decode cJ6_numberOfTrailingZeros_0f7a4 59 = .ok (.iconst 4, 1) := by decide +kernel
theorem dJ6_numberOfTrailingZeros_0f7a4_60 : decode cJ6_numberOfTrailingZeros_0f7a4 60 = .ok (.iushr, 1) := by decide +kernel
theorem dJ6_numberOfTrailingZeros_0f7a4_61 : decode cJ6_numberOfTrailingZeros_0f7a4 61 = .ok (.istore_n 0, 1) := by decide +kernel
theorem dJ6_numberOfTrailingZeros_0f7a4_62 : decode cJ6_numberOfTrailingZeros_0f7a4 62 = .ok (.iload_n 0, 1) := by decide +kernel
theorem dJ6_numberOfTrailingZeros_0f7a4_63 : decode cJ6_numberOfTrailingZeros_0f7a4 63 = .ok (.iconst 4, 1) := by decide +kernel
theorem dJ6_numberOfTrailingZeros_0f7a4_64 : decode cJ6_numberOfTrailingZeros_0f7a4 64 = .ok (.if_icmp .le 10, 3) := by decide +kernel
theorem dJ6_numberOfTrailingZeros_0f7a4_67 : decode cJ6_numberOfTrailingZeros_0f7a4 67 = .ok (.iinc 1 2, 3) := by decide +kernel
theorem dJ6_numberOfTrailingZeros_0f7a4_70 : decode cJ6_numberOfTrailingZeros_0f7a4 70 = .ok (.iload_n 0, 1) := by decide +kernel
theorem dJ6_numberOfTrailingZeros_0f7a4_71 : decode cJ6_numberOfTrailingZeros_0f7a4 71 = .ok (.iconst 2, 1) := by decide +kernel
theorem dJ6_numberOfTrailingZeros_0f7a4_72 : decode cJ6_numberOfTrailingZeros_0f7a4 72 = .ok (.iushr, 1) := by decide +kernel
theorem dJ6_numberOfTrailingZeros_0f7a4_73 : decode cJ6_numberOfTrailingZeros_0f7a4 73 = .ok (.istore_n 0, 1) := by decide +kernel
theorem dJ6_numberOfTrailingZeros_0f7a4_74 : decode cJ6_numberOfTrailingZeros_0f7a4 74 = .ok (.iload_n 1, 1) := by decide +kernel
theorem dJ6_numberOfTrailingZeros_0f7a4_75 : decode cJ6_numberOfTrailingZeros_0f7a4 75 = .ok (.iload_n 0, 1) := by decide +kernel
theorem dJ6_numberOfTrailingZeros_0f7a4_76 : decode cJ6_numberOfTrailingZeros_0f7a4 76 = .ok (.iconst 1, 1) := by decide +kernel
theorem dJ6_numberOfTrailingZeros_0f7a4_77 : decode cJ6_numberOfTrailingZeros_0f7a4 77 = .ok (.iushr, 1) := by decide +kernel
theorem dJ6_numberOfTrailingZeros_0f7a4_78 : decode cJ6_numberOfTrailingZeros_0f7a4 78 = .ok (.iadd, 1) := by decide +kernel
theorem dJ6_numberOfTrailingZeros_0f7a4_79 : decode cJ6_numberOfTrailingZeros_0f7a4 79 = .ok (.ireturn, 1) := by decide +kernel
theorem dJ13_numberOfTrailingZeros_95d88_0 : decode cJ13_numberOfTrailingZeros_95d88 0 = .ok (.lload_n 0, 1) := by decide +kernel
theorem dJ13_numberOfTrailingZeros_95d88_1 : decode cJ13_numberOfTrailingZeros_95d88 1 = .ok (.l2i, 1) := by decide +kernel
theorem dJ13_numberOfTrailingZeros_95d88_2 : decode cJ13_numberOfTrailingZeros_95d88 2 = .ok (.istore_n 2, 1) := by decide +kernel
theorem dJ13_numberOfTrailingZeros_95d88_3 : decode cJ13_numberOfTrailingZeros_95d88 3 = .ok (.iload_n 2, 1) := by decide +kernel
theorem dJ13_numberOfTrailingZeros_95d88_4 : decode cJ13_numberOfTrailingZeros_95d88 4 = .ok (.ifCond .ne 17, 3) := by decide +kernel
theorem dJ13_numberOfTrailingZeros_95d88_7 : decode cJ13_numberOfTrailingZeros_95d88 7 = .ok (.bipush 32, 2) := by decide +kernel
theorem dJ13_numberOfTrailingZeros_95d88_9 : decode cJ13_numberOfTrailingZeros_95d88 9 = .ok (.lload_n 0, 1) := by decide +kernel
theorem dJ13_numberOfTrailingZeros_95d88_10 : decode cJ13_numberOfTrailingZeros_95d88 10 = .ok (.bipush 32, 2) := by decide +kernel
theorem dJ13_numberOfTrailingZeros_95d88_12 : decode cJ13_numberOfTrailingZeros_95d88 12 = .ok (.lushr, 1) := by decide +kernel
theorem dJ13_numberOfTrailingZeros_95d88_13 : decode cJ13_numberOfTrailingZeros_95d88 13 = .ok (.l2i, 1) := by decide +kernel
theorem dJ13_numberOfTrailingZeros_95d88_14 : decode cJ13_numberOfTrailingZeros_95d88 14 = .ok (.invokestatic 311, 3) := by decide +kernel
theorem dJ13_numberOfTrailingZeros_95d88_17 : decode cJ13_numberOfTrailingZeros_95d88 17 = .ok (.iadd, 1) := by decide +kernel
theorem dJ13_numberOfTrailingZeros_95d88_18 : decode cJ13_numberOfTrailingZeros_95d88 18 = .ok (.goto 7, 3) := by decide +kernel
theorem dJ13_numberOfTrailingZeros_95d88_21 : decode cJ13_numberOfTrailingZeros_95d88 21 = .ok (.iload_n 2, 1) := by decide +kernel
theorem dJ13_numberOfTrailingZeros_95d88_22 : decode cJ13_numberOfTrailingZeros_95d88 22 = .ok (.invokestatic 311, 3) := by decide +kernel
theorem dJ13_numberOfTrailingZeros_95d88_25 : decode cJ13_numberOfTrailingZeros_95d88 25 = .ok (.ireturn, 1) := by decide +kernel
theorem dJ13_bitCount_95d88_0 : decode cJ13_bitCount_95d88 0 = .ok (.lload_n 0, 1) := by decide +kernel
theorem dJ13_bitCount_95d88_1 : decode cJ13_bitCount_95d88 1 = .ok (.lload_n 0, 1) := by decide +kernel
theorem dJ13_bitCount_95d88_2 : decode cJ13_bitCount_95d88 2 = .ok (.iconst 1, 1) := by decide +kernel
theorem dJ13_bitCount_95d88_3 : decode cJ13_bitCount_95d88 3 = .ok (.lushr, 1) := by decide +kernel
theorem dJ13_bitCount_95d88_4 : decode cJ13_bitCount_95d88 4 = .ok (.ldc2_w 314, 3) := by decide +kernel
theorem dJ13_bitCount_95d88_7 : decode cJ13_bitCount_95d88 7 = .ok (.land, 1) := by decide +kernel
theorem dJ13_bitCount_95d88_8 : decode cJ13_bitCount_95d88 8 = .ok (.lsub, 1) := by decide +kernel
theorem dJ13_bitCount_95d88_9 : decode cJ13_bitCount_95d88 9 = .ok (.lstore_n 0, 1) := by decide +kernel
theorem dJ13_bitCount_95d88_10 : decode cJ13_bitCount_95d88 10 = .ok (.lload_n 0, 1) := by decide +kernel
theorem dJ13_bitCount_95d88_11 : decode cJ13_bitCount_95d88 11 = .ok (.ldc2_w 316, 3) := by decide +kernel
theorem dJ13_bitCount_95d88_14 : decode cJ13_bitCount_95d88 14 = .ok (.land, 1) := by decide +kernel
theorem dJ13_bitCount_95d88_15 : decode cJ13_bitCount_95d88 15 = .ok (.lload_n 0, 1) := by decide +kernel
theorem dJ13_bitCount_95d88_16 : decode cJ13_bitCount_95d88 16 = .ok (.iconst 2, 1) := by decide +kernel
theorem dJ13_bitCount_95d88_17 : decode cJ13_bitCount_95d88 17 = .ok (.lushr, 1) := by decide +kernel
theorem dJ13_bitCount_95d88_18 : decode cJ13_bitCount_95d88 18 = .ok (.ldc2_w 316, 3) := by decide +kernel
theorem dJ13_bitCount_95d88_21 : decode cJ13_bitCount_95d88 21 = .ok (.land, 1) := by decide +kernel
theorem dJ13_bitCount_95d88_22 : decode cJ13_bitCount_95d88 22 = .ok (.ladd, 1) := by decide +kernel
theorem dJ13_bitCount_95d88_23 : decode cJ13_bitCount_95d88 23 = .ok (.lstore_n 0, 1) := by decide +kernel
theorem dJ13_bitCount_95d88_24 : decode cJ13_bitCount_95d88 24 = .ok (.lload_n 0, 1) := by decide +kernel
theorem dJ13_bitCount_95d88_25 : decode cJ13_bitCount_95d88 25 = .ok (.lload_n 0, 1) := by decide +kernel
theorem dJ13_bitCount_95d88_26 : decode cJ13_bitCount_95d88 26 = .ok (.iconst 4, 1) := by decide +kernel
theorem dJ13_bitCount_95d88_27 : decode cJ13_bitCount_95d88 27 = .ok (.lushr, 1) := by decide +kernel
theorem dJ13_bitCount_95d88_28 : decode cJ13_bitCount_95d88 28 = .ok (.ladd, 1) := by decide +kernel
theorem dJ13_bitCount_95d88_29 : decode cJ13_bitCount_95d88 29 = .ok (.ldc2_w 318, 3) := by decide +kernel
theorem dJ13_bitCount_95d88_32 : decode cJ13_bitCount_95d88 32 = .ok (.land, 1) := by decide +kernel
theorem dJ13_bitCount_95d88_33 : decode cJ13_bitCount_95d88 33 = .ok (.lstore_n 0, 1) := by decide +kernel
theorem dJ13_bitCount_95d88_34 : decode cJ13_bitCount_95d88 34 = .ok (.lload_n 0, 1) := by decide +kernel
theorem dJ13_bitCount_95d88_35 : decode cJ13_bitCount_95d88 35 = .ok (.lload_n 0, 1) := by decide +kernel
theorem dJ13_bitCount_95d88_36 : decode cJ13_bitCount_95d88 36 = .ok (.bipush 8, 2) := by decide +kernel
theorem dJ13_bitCount_95d88_38 : decode cJ13_bitCount_95d88 38 = .ok (.lushr, 1) := by decide +kernel
theorem dJ13_bitCount_95d88_39 : decode cJ13_bitCount_95d88 39 = .ok (.ladd, 1) := by decide +kernel
theorem dJ13_bitCount_95d88_40 : decode cJ13_bitCount_95d88 40 = .ok (.lstore_n 0, 1) := by decide +kernel
theorem dJ13_bitCount_95d88_41 : decode cJ13_bitCount_95d88 41 = .ok (.lload_n 0, 1) := by decide +kernel
theorem dJ13_bitCount_95d88_42 : decode cJ13_bitCount_95d88 42 = .ok (.lload_n 0, 1) := by decide +kernel
theorem dJ13_bitCount_95d88_43 : decode cJ13_bitCount_95d88 43 = .ok (.bipush 16, 2) := by decide +kernel
theorem dJ13_bitCount_95d88_45 : decode cJ13_bitCount_95d88 45 = .ok (.lushr, 1) := by decide +kernel
theorem dJ13_bitCount_95d88_46 : decode cJ13_bitCount_95d88 46 = .ok (.ladd, 1) := by decide +kernel
theorem dJ13_bitCount_95d88_47 : decode cJ13_bitCount_95d88 47 = .ok (.lstore_n 0, 1) := by decide +kernel
theorem dJ13_bitCount_95d88_48 : decode cJ13_bitCount_95d88 48 = .ok (.lload_n 0, 1) := by decide +kernel
theorem dJ13_bitCount_95d88_49 : decode cJ13_bitCount_95d88 49 = .ok (.lload_n 0, 1) := by decide +kernel
theorem dJ13_bitCount_95d88_50 : decode cJ13_bitCount_95d88 50 = .ok (.bipush 32, 2) := by decide +kernel
theorem dJ13_bitCount_95d88_52 : decode cJ13_bitCount_95d88 52 = .ok (.lushr, 1) := by decide +kernel
theorem dJ13_bitCount_95d88_53 : decode cJ13_bitCount_95d88 53 = .ok (.ladd, 1) := by decide +kernel
theorem dJ13_bitCount_95d88_54 : decode cJ13_bitCount_95d88 54 = .ok (.lstore_n 0, 1) := by decide +kernel
theorem dJ13_bitCount_95d88_55 : decode cJ13_bitCount_95d88 55 = .ok (.lload_n 0, 1) := by decide +kernel
theorem dJ13_bitCount_95d88_56 : decode cJ13_bitCount_95d88 56 = .ok (.l2i, 1) := by decide +kernel
theorem dJ13_bitCount_95d88_57 : decode cJ13_bitCount_95d88 57 = .ok (.bipush 127, 2) := by decide +kernel
theorem dJ13_bitCount_95d88_59 : decode cJ13_bitCount_95d88 59 = .ok (.iand, 1) := by decide +kernel
theorem dJ13_bitCount_95d88_60 : decode cJ13_bitCount_95d88 60 = .ok (.ireturn, 1) := by decide +kernel
theorem dJ9_min_7cf53_0 : decode cJ9_min_7cf53 0 = .ok (.iload_n 0, 1) := by decide +kernel
theorem dJ9_min_7cf53_1 : decode cJ9_min_7cf53 1 = .ok (.iload_n 1, 1) := by decide +kernel
theorem dJ9_min_7cf53_2 : decode cJ9_min_7cf53 2 = .ok (.if_icmp .gt 7, 3) := by decide +kernel
theorem dJ9_min_7cf53_5 : decode cJ9_min_7cf53 5 = .ok (.iload_n 0, 1) := by decide +kernel
theorem dJ9_min_7cf53_6 : decode cJ9_min_7cf53 6 = .ok (.goto 4, 3) := by decide +kernel
theorem dJ9_min_7cf53_9 : decode cJ9_min_7cf53 9 = .ok (.iload_n 1, 1) := by decide +kernel
theorem dJ9_min_7cf53_10 : decode cJ9_min_7cf53 10 = .ok (.ireturn, 1) := by decide +kernel
theorem dJ7_copyOf_c38d5_0 : decode cJ7_copyOf_c38d5 0 = .ok (.iload_n 1, 1) := by decide +kernel
theorem dJ7_copyOf_c38d5_1 : decode cJ7_copyOf_c38d5 1 = .ok (.aload_n 0, 1) := by decide +kernel
theorem dJ7_copyOf_c38d5_2 : decode cJ7_copyOf_c38d5 2 = .ok (.arraylength, 1) := by decide +kernel
theorem dJ7_copyOf_c38d5_3 : decode cJ7_copyOf_c38d5 3 = .ok (.if_icmp .ne 11, 3) := by decide +kernel
theorem dJ7_copyOf_c38d5_6 : decode cJ7_copyOf_c38d5 6 = .ok (.aload_n 0, 1) := by decide +kernel
theorem dJ7_copyOf_c38d5_7 : decode cJ7_copyOf_c38d5 7 = .ok (.invokevirtual 319, 3) := by decide +kernel
theorem dJ7_copyOf_c38d5_10 : decode cJ7_copyOf_c38d5 10 = .ok (.checkcast 320, 3) := by decide +kernel
theorem dJ7_copyOf_c38d5_13 : decode cJ7_copyOf_c38d5 13 = .ok (.areturn, 1) := by decide +kernel
theorem dJ7_copyOf_c38d5_14 : decode cJ7_copyOf_c38d5 14 = .ok (.iload_n 1, 1) := by decide +kernel
theorem dJ7_copyOf_c38d5_15 : decode cJ7_copyOf_c38d5 15 = .ok (.newarray .long, 2) := by decide +kernel
theorem dJ7_copyOf_c38d5_17 : decode cJ7_copyOf_c38d5 17 = .ok (.astore_n 2, 1) := by decide +kernel
theorem dJ7_copyOf_c38d5_18 : decode cJ7_copyOf_c38d5 18 = .ok (.aload_n 0, 1) := by decide +kernel
theorem dJ7_copyOf_c38d5_19 : decode cJ7_copyOf_c38d5 19 = .ok (.iconst 0, 1) := by decide +kernel
theorem dJ7_copyOf_c38d5_20 : decode cJ7_copyOf_c38d5 20 = .ok (.aload_n 2, 1) := by decide +kernel
theorem dJ7_copyOf_c38d5_21 : decode cJ7_copyOf_c38d5 21 = .ok (.iconst 0, 1) := by decide +kernel
theorem dJ7_copyOf_c38d5_22 : decode cJ7_copyOf_c38d5 22 = .ok (.aload_n 0, 1) := by decide +kernel
theorem dJ7_copyOf_c38d5_23 : decode cJ7_copyOf_c38d5 23 = .ok (.arraylength, 1) := by decide +kernel
theorem dJ7_copyOf_c38d5_24 : decode cJ7_copyOf_c38d5 24 = .ok (.iload_n 1, 1) := by decide +kernel
theorem dJ7_copyOf_c38d5_25 : decode cJ7_copyOf_c38d5 25 = .ok (.invokestatic 304, 3) := by decide +kernel
theorem dJ7_copyOf_c38d5_28 : decode cJ7_copyOf_c38d5 28 = .ok (.invokestatic 150, 3) := by decide +kernel
theorem dJ7_copyOf_c38d5_31 : decode cJ7_copyOf_c38d5 31 = .ok (.aload_n 2, 1) := by decide +kernel
theorem dJ7_copyOf_c38d5_32 : decode cJ7_copyOf_c38d5 32 = .ok (.areturn, 1) := by decide +kernel
set_option maxRecDepth 20000 in
theorem ggJ13_numberOfTrailingZeros_95d88_J6_numberOfTrailingZeros_0f7a4 : GoodIn wsJ13_numberOfTrailingZeros_95d88 wsJ6_numberOfTrailingZeros_0f7a4 := goodIn_r _ [4, 5] (by decide +kernel) (by decide +kernel)
set_option maxRecDepth 20000 in
theorem gJ13_numberOfTrailingZeros_95d88_J6_numberOfTrailingZeros_0f7a4 : GoodIn wsJ13_numberOfTrailingZeros_95d88 (va_wsS RJ13 311 yJ6_numberOfTrailingZeros_0f7a4 wsJ6_numberOfTrailingZeros_0f7a4) := goodIn_app (goodIn_of _ (by decide +kernel)) ggJ13_numberOfTrailingZeros_95d88_J6_numberOfTrailingZeros_0f7a4
end
section
theorem dX0_init_0 : decode cX0_init 0 = .ok (.aload_n 0, 1) := by decide +kernel
theorem dX0_init_1 : decode cX0_init 1 = .ok (.invokespecial 3, 3) := by decide +kernel
theorem dX0_init_4 : decode cX0_init 4 = .ok (.aload_n 0, 1) := by decide +kernel
theorem dX0_init_5 : decode cX0_init 5 = .ok (.bipush 16, 2) := by decide +kernel
theorem dX0_init_7 : decode cX0_init 7 = .ok (.newarray .int, 2) := by decide +kernel
theorem dX0_init_9 : decode cX0_init 9 = .ok (.putfield 9, 3) := by decide +kernel
theorem dX0_init_12 : decode cX0_init 12 = .ok (.aload_n 0, 1) := by decide +kernel
theorem dX0_init_13 : decode cX0_init 13 = .ok (.iconst 4, 1) := by decide +kernel
theorem dX0_init_14 : decode cX0_init 14 = .ok (.newarray .int, 2) := by decide +kernel
theorem dX0_init_16 : decode cX0_init 16 = .ok (.putfield 15, 3) := by decide +kernel
theorem dX0_init_19 : decode cX0_init 19 = .ok (.aload_n 0, 1) := by decide +kernel
theorem dX0_init_20 : decode cX0_init 20 = .ok (.bipush 16, 2) := by decide +kernel
theorem dX0_init_22 : decode cX0_init 22 = .ok (.newarray .int, 2) := by decide +kernel
theorem dX0_init_24 : decode cX0_init 24 = .ok (.putfield 18, 3) := by decide +kernel
theorem dX0_init_27 : decode cX0_init 27 = .ok (.return_, 1) := by decide +kernel
theorem dX0_forget_0 : decode cX0_forget 0 = .ok (.aload_n 0, 1) := by decide +kernel
theorem dX0_forget_1 : decode cX0_forget 1 = .ok (.iconst 0, 1) := by decide +kernel
theorem dX0_forget_2 : decode cX0_forget 2 = .ok (.putfield 21, 3) := by decide +kernel
theorem dX0_forget_5 : decode cX0_forget 5 = .ok (.aload_n 0, 1) := by decide +kernel
theorem dX0_forget_6 : decode cX0_forget 6 = .ok (.iconst 0, 1) := by decide +kernel
theorem dX0_forget_7 : decode cX0_forget 7 = .ok (.putfield 25, 3) := by decide +kernel
theorem dX0_forget_10 : decode cX0_forget 10 = .ok (.return_, 1) := by decide +kernel
theorem dX0_addLatch_0 : decode cX0_addLatch 0 = .ok (.aload_n 0, 1) := by decide +kernel
theorem dX0_addLatch_1 : decode cX0_addLatch 1 = .ok (.dup, 1) := by decide +kernel
theorem dX0_addLatch_2 : decode cX0_addLatch 2 = .ok (.getfield 25, 3) := by decide +kernel
theorem dX0_addLatch_5 : decode cX0_addLatch 5 = .ok (.iload_n 2, 1) := by decide +kernel
theorem dX0_addLatch_6 : decode cX0_addLatch 6 = .ok (.iload_n 1, 1) := by decide +kernel
theorem dX0_addLatch_7 : decode cX0_addLatch 7 = .ok (.ishl, 1) := by decide +kernel
theorem dX0_addLatch_8 : decode cX0_addLatch 8 = .ok (.ior, 1) := by decide +kernel
theorem dX0_addLatch_9 : decode cX0_addLatch 9 = .ok (.putfield 25, 3) := by decide +kernel
theorem dX0_addLatch_12 : decode cX0_addLatch 12 = .ok (.aload_n 0, 1) := by decide +kernel
theorem dX0_addLatch_13 : decode cX0_addLatch 13 = .ok (.getfield 15, 3) := by decide +kernel
theorem dX0_addLatch_16 : decode cX0_addLatch 16 = .ok (.iload_n 1, 1) := by decide +kernel
theorem dX0_addLatch_17 : decode cX0_addLatch 17 = .ok (.iload_n 3, 1) := by decide +kernel
theorem dX0_addLatch_18 : decode cX0_addLatch 18 = .ok (.iastore, 1) := by decide +kernel
theorem dX0_addLatch_19 : decode cX0_addLatch 19 = .ok (.return_, 1) := by decide +kernel
theorem dX0_addOutput_0 : decode cX0_addOutput 0 = .ok (.aload_n 0, 1) := by decide +kernel
theorem dX0_addOutput_1 : decode cX0_addOutput 1 = .ok (.getfield 9, 3) := by decide +kernel
theorem dX0_addOutput_4 : decode cX0_addOutput 4 = .ok (.aload_n 0, 1) := by decide +kernel
theorem dX0_addOutput_5 : decode cX0_addOutput 5 = .ok (.getfield 21, 3) := by decide +kernel
theorem dX0_addOutput_8 : decode cX0_addOutput 8 = .ok (.iload_n 1, 1) := by decide +kernel
theorem dX0_addOutput_9 : decode cX0_addOutput 9 = .ok (.iastore, 1) := by decide +kernel
theorem dX0_addOutput_10 : decode cX0_addOutput 10 = .ok (.aload_n 0, 1) := by decide +kernel
theorem dX0_addOutput_11 : decode cX0_addOutput 11 = .ok (.dup, 1) := by decide +kernel
theorem dX0_addOutput_12 : decode cX0_addOutput 12 = .ok (.getfield 21, 3) := by decide +kernel
theorem dX0_addOutput_15 : decode cX0_addOutput 15 = .ok (.iconst 1, 1) := by decide +kernel
theorem dX0_addOutput_16 : decode cX0_addOutput 16 = .ok (.iadd, 1) := by decide +kernel
theorem dX0_addOutput_17 : decode cX0_addOutput 17 = .ok (.putfield 21, 3) := by decide +kernel
theorem dX0_addOutput_20 : decode cX0_addOutput 20 = .ok (.aload_n 0, 1) := by decide +kernel
theorem dX0_addOutput_21 : decode cX0_addOutput 21 = .ok (.getfield 21, 3) := by decide +kernel
theorem dX0_addOutput_24 : decode cX0_addOutput 24 = .ok (.iconst 1, 1) := by decide +kernel
theorem dX0_addOutput_25 : decode cX0_addOutput 25 = .ok (.isub, 1) := by decide +kernel
theorem dX0_addOutput_26 : decode cX0_addOutput 26 = .ok (.ireturn, 1) := by decide +kernel
theorem dX0_backToStarts_0 : decode cX0_backToStarts 0 = .ok (.aload_n 0, 1) := by decide +kernel
theorem dX0_backToStarts_1 : decode cX0_backToStarts 1 = .ok (.aload_n 0, 1) := by decide +kernel
theorem dX0_backToStarts_2 : decode cX0_backToStarts 2 = .ok (.getfield 25, 3) := by decide +kernel
theorem dX0_backToStarts_5 : decode cX0_backToStarts 5 = .ok (.putfield 28, 3) := by decide +kernel
theorem dX0_backToStarts_8 : decode cX0_backToStarts 8 = .ok (.aload_n 0, 1) := by decide +kernel
theorem dX0_backToStarts_9 : decode cX0_backToStarts 9 = .ok (.iconst 0, 1) := by decide +kernel
theorem dX0_backToStarts_10 : decode cX0_backToStarts 10 = .ok (.putfield 31, 3) := by decide +kernel
theorem dX0_backToStarts_13 : decode cX0_backToStarts 13 = .ok (.return_, 1) := by decide +kernel
theorem dX0_runStep_0 : decode cX0_runStep 0 = .ok (.iload_n 2, 1) := by decide +kernel
theorem dX0_runStep_1 : decode cX0_runStep 1 = .ok (.sipush 255, 3) := by decide +kernel
theorem dX0_runStep_4 : decode cX0_runStep 4 = .ok (.iand, 1) := by decide +kernel
theorem dX0_runStep_5 : decode cX0_runStep 5 = .ok (.aload_n 0, 1) := by decide +kernel
theorem dX0_runStep_6 : decode cX0_runStep 6 = .ok (.getfield 28, 3) := by decide +kernel
theorem dX0_runStep_9 : decode cX0_runStep 9 = .ok (.bipush 8, 2) := by decide +kernel
theorem dX0_runStep_11 : decode cX0_runStep 11 = .ok (.ishl, 1) := by decide +kernel
theorem dX0_runStep_12 : decode cX0_runStep 12 = .ok (.ior, 1) := by decide +kernel
theorem dX0_runStep_13 : decode cX0_runStep 13 = .ok (.istore 4, 2) := by decide +kernel
theorem dX0_runStep_15 : decode cX0_runStep 15 = .ok (.iconst 0, 1) := by decide +kernel
theorem dX0_runStep_16 : decode cX0_runStep 16 = .ok (.istore 5, 2) := by decide +kernel
theorem dX0_runStep_18 : decode cX0_runStep 18 = .ok (.iload 5, 2) := by decide +kernel
theorem dX0_runStep_20 : decode cX0_runStep 20 = .ok (.aload_n 0, 1) := by decide +kernel
theorem dX0_runStep_21 : decode cX0_runStep 21 = .ok (.getfield 21, 3) := by decide +kernel
theorem dX0_runStep_24 : decode cX0_runStep 24 = .ok (.if_icmp .ge 29, 3) := by decide +kernel
theorem dX0_runStep_27 : decode cX0_runStep 27 = .ok (.aload_n 0, 1) := by decide +kernel
theorem dX0_runStep_28 : decode cX0_runStep 28 = .ok (.getfield 18, 3) := by decide +kernel
theorem dX0_runStep_31 : decode cX0_runStep 31 = .ok (.iload 5, 2) := by decide +kernel
theorem dX0_runStep_33 : decode cX0_runStep 33 = .ok (.aload_n 1, 1) := by decide +kernel
theorem dX0_runStep_34 : decode cX0_runStep 34 = .ok (.aload_n 0, 1) := by decide +kernel
theorem dX0_runStep_35 : decode cX0_runStep 35 = .ok (.getfield 9, 3) := by decide +kernel
theorem dX0_runStep_38 : decode cX0_runStep 38 = .ok (.iload 5, 2) := by decide +kernel
theorem dX0_runStep_40 : decode cX0_runStep 40 = .ok (.iaload, 1) := by decide +kernel
theorem dX0_runStep_41 : decode cX0_runStep 41 = .ok (.iload 4, 2) := by decide +kernel
theorem dX0_runStep_43 : decode cX0_runStep 43 = .ok (.invokevirtual 34, 3) := by decide +kernel
theorem dX0_runStep_46 : decode cX0_runStep 46 = .ok (.iastore, 1) := by decide +kernel
theorem dX0_runStep_47 : decode cX0_runStep 47 = .ok (.iinc 5 1, 3) := by decide +kernel
theorem dX0_runStep_50 : decode cX0_runStep 50 = .ok (.goto (-32), 3) := by decide +kernel
theorem dX0_runStep_53 : decode cX0_runStep 53 = .ok (.aload_n 0, 1) := by decide +kernel
theorem dX0_runStep_54 : decode cX0_runStep 54 = .ok (.aload_n 0, 1) := by decide +kernel
theorem dX0_runStep_55 : decode cX0_runStep 55 = .ok (.getfield 21, 3) := by decide +kernel
theorem dX0_runStep_58 : decode cX0_runStep 58 = .ok (.putfield 31, 3) := by decide +kernel
theorem dX0_runStep_61 : decode cX0_runStep 61 = .ok (.iconst 0, 1) := by decide +kernel
theorem dX0_runStep_62 : decode cX0_runStep 62 = .ok (.istore 5, 2) := by decide +kernel
theorem dX0_runStep_64 : decode cX0_runStep 64 = .ok (.iconst 0, 1) := by decide +kernel
theorem dX0_runStep_65 : decode cX0_runStep 65 = .ok (.istore 6, 2) := by decide +kernel
theorem dX0_runStep_67 : decode cX0_runStep 67 = .ok (.iload 6, 2) := by decide +kernel
theorem dX0_runStep_69 : decode cX0_runStep 69 = .ok (.iload_n 3, 1) := by decide +kernel
theorem dX0_runStep_70 : decode cX0_runStep 70 = .ok (.if_icmp .ge 30, 3) := by decide +kernel
theorem dX0_runStep_73 : decode cX0_runStep 73 = .ok (.iload 5, 2) := by decide +kernel
theorem dX0_runStep_75 : decode cX0_runStep 75 = .ok (.aload_n 1, 1) := by decide +kernel
theorem dX0_runStep_76 : decode cX0_runStep 76 = .ok (.aload_n 0, 1) := by decide +kernel
theorem dX0_runStep_77 : decode cX0_runStep 77 = .ok (.getfield 15, 3) := by decide +kernel
theorem dX0_runStep_80 : decode cX0_runStep 80 = .ok (.iload 6, 2) := by decide +kernel
theorem dX0_runStep_82 : decode cX0_runStep 82 = .ok (.iaload, 1) := by decide +kernel
theorem dX0_runStep_83 : decode cX0_runStep 83 = .ok (.iload 4, 2) := by decide +kernel
theorem dX0_runStep_85 : decode cX0_runStep 85 = .ok (.invokevirtual 34, 3) := by decide +kernel
theorem dX0_runStep_88 : decode cX0_runStep 88 = .ok (.iload 6, 2) := by decide +kernel
theorem dX0_runStep_90 : decode cX0_runStep 90 = .ok (.ishl, 1) := by decide +kernel
theorem dX0_runStep_91 : decode cX0_runStep 91 = .ok (.ior, 1) := by decide +kernel
theorem dX0_runStep_92 : decode cX0_runStep 92 = .ok (.istore 5, 2) := by decide +kernel
theorem dX0_runStep_94 : decode cX0_runStep 94 = .ok (.iinc 6 1, 3) := by decide +kernel
theorem dX0_runStep_97 : decode cX0_runStep 97 = .ok (.goto (-30), 3) := by decide +kernel
theorem dX0_runStep_100 : decode cX0_runStep 100 = .ok (.aload_n 0, 1) := by decide +kernel
theorem dX0_runStep_101 : decode cX0_runStep 101 = .ok (.iload 5, 2) := by decide +kernel
theorem dX0_runStep_103 : decode cX0_runStep 103 = .ok (.putfield 28, 3) := by decide +kernel
theorem dX0_runStep_106 : decode cX0_runStep 106 = .ok (.return_, 1) := by decide +kernel
set_option maxRecDepth 20000 in
theorem ggX0_runStep_X1_valueIn : GoodIn wsX0_runStep wsX1_valueIn := goodIn_r _ [11, 12, 13, 14, 10, 15, 16, 17, 25, 26, 27, 28] (by decide +kernel) (by decide +kernel)
set_option maxRecDepth 20000 in
theorem gX0_runStep_X1_valueIn : GoodIn wsX0_runStep (wsV RX0 34 RX1 yX1_valueIn wsX1_valueIn) := goodIn_app (goodIn_of _ (by decide +kernel)) ggX0_runStep_X1_valueIn
end
section
theorem dX1_init_0 : decode cX1_init 0 = .ok (.aload_n 0, 1) := by decide +kernel
theorem dX1_init_1 : decode cX1_init 1 = .ok (.invokespecial 5, 3) := by decide +kernel
theorem dX1_init_4 : decode cX1_init 4 = .ok (.aload_n 0, 1) := by decide +kernel
theorem dX1_init_5 : decode cX1_init 5 = .ok (.iconst 1, 1) := by decide +kernel
theorem dX1_init_6 : decode cX1_init 6 = .ok (.putfield 11, 3) := by decide +kernel
theorem dX1_init_9 : decode cX1_init 9 = .ok (.aload_n 0, 1) := by decide +kernel
theorem dX1_init_10 : decode cX1_init 10 = .ok (.sipush 400, 3) := by decide +kernel
theorem dX1_init_13 : decode cX1_init 13 = .ok (.newarray .int, 2) := by decide +kernel
theorem dX1_init_15 : decode cX1_init 15 = .ok (.putfield 15, 3) := by decide +kernel
theorem dX1_init_18 : decode cX1_init 18 = .ok (.aload_n 0, 1) := by decide +kernel
theorem dX1_init_19 : decode cX1_init 19 = .ok (.getfield 15, 3) := by decide +kernel
theorem dX1_init_22 : decode cX1_init 22 = .ok (.iconst 0, 1) := by decide +kernel
theorem dX1_init_23 : decode cX1_init 23 = .ok (.iconst (-1), 1) := by decide +kernel
theorem dX1_init_24 : decode cX1_init 24 = .ok (.iastore, 1) := by decide +kernel
theorem dX1_init_25 : decode cX1_init 25 = .ok (.aload_n 0, 1) := by decide +kernel
theorem dX1_init_26 : decode cX1_init 26 = .ok (.sipush 400, 3) := by decide +kernel
theorem dX1_init_29 : decode cX1_init 29 = .ok (.newarray .int, 2) := by decide +kernel
theorem dX1_init_31 : decode cX1_init 31 = .ok (.putfield 19, 3) := by decide +kernel
theorem dX1_init_34 : decode cX1_init 34 = .ok (.aload_n 0, 1) := by decide +kernel
theorem dX1_init_35 : decode cX1_init 35 = .ok (.sipush 2048, 3) := by decide +kernel
theorem dX1_init_38 : decode cX1_init 38 = .ok (.newarray .long, 2) := by decide +kernel
theorem dX1_init_40 : decode cX1_init 40 = .ok (.putfield 22, 3) := by decide +kernel
theorem dX1_init_43 : decode cX1_init 43 = .ok (.return_, 1) := by decide +kernel
theorem dX1_forget_0 : decode cX1_forget 0 = .ok (.aload_n 0, 1) := by decide +kernel
theorem dX1_forget_1 : decode cX1_forget 1 = .ok (.iconst 1, 1) := by decide +kernel
theorem dX1_forget_2 : decode cX1_forget 2 = .ok (.putfield 11, 3) := by decide +kernel
theorem dX1_forget_5 : decode cX1_forget 5 = .ok (.return_, 1) := by decide +kernel
theorem dX1_addVariable_0 : decode cX1_addVariable 0 = .ok (.aload_n 0, 1) := by decide +kernel
theorem dX1_addVariable_1 : decode cX1_addVariable 1 = .ok (.invokevirtual 26, 3) := by decide +kernel
theorem dX1_addVariable_4 : decode cX1_addVariable 4 = .ok (.aload_n 0, 1) := by decide +kernel
theorem dX1_addVariable_5 : decode cX1_addVariable 5 = .ok (.getfield 11, 3) := by decide +kernel
theorem dX1_addVariable_8 : decode cX1_addVariable 8 = .ok (.bipush 64, 2) := by decide +kernel
theorem dX1_addVariable_10 : decode cX1_addVariable 10 = .ok (.imul, 1) := by decide +kernel
theorem dX1_addVariable_11 : decode cX1_addVariable 11 = .ok (.istore_n 2, 1) := by decide +kernel
theorem dX1_addVariable_12 : decode cX1_addVariable 12 = .ok (.iconst 0, 1) := by decide +kernel
theorem dX1_addVariable_13 : decode cX1_addVariable 13 = .ok (.istore_n 3, 1) := by decide +kernel
theorem dX1_addVariable_14 : decode cX1_addVariable 14 = .ok (.iload_n 3, 1) := by decide +kernel
theorem dX1_addVariable_15 : decode cX1_addVariable 15 = .ok (.bipush 64, 2) := by decide +kernel
theorem dX1_addVariable_17 : decode cX1_addVariable 17 = .ok (.if_icmp .ge 22, 3) := by decide +kernel
theorem dX1_addVariable_20 : decode cX1_addVariable 20 = .ok (.aload_n 0, 1) := by decide +kernel
theorem dX1_addVariable_21 : decode cX1_addVariable 21 = .ok (.getfield 22, 3) := by decide +kernel
theorem dX1_addVariable_24 : decode cX1_addVariable 24 = .ok (.iload_n 2, 1) := by decide +kernel
theorem dX1_addVariable_25 : decode cX1_addVariable 25 = .ok (.iload_n 3, 1) := by decide +kernel
theorem dX1_addVariable_26 : decode cX1_addVariable 26 = .ok (.iadd, 1) := by decide +kernel
theorem dX1_addVariable_27 : decode cX1_addVariable 27 = .ok (.iload_n 1, 1) := by decide +kernel
theorem dX1_addVariable_28 : decode cX1_addVariable 28 = .ok (.iload_n 3, 1) := by decide +kernel
theorem dX1_addVariable_29 : decode cX1_addVariable 29 = .ok (.invokestatic 29, 3) := by decide +kernel
theorem dX1_addVariable_32 : decode cX1_addVariable 32 = .ok (.lastore, 1) := by decide +kernel
theorem dX1_addVariable_33 : decode cX1_addVariable 33 = .ok (.iinc 3 1, 3) := by decide +kernel
theorem dX1_addVariable_36 : decode cX1_addVariable 36 = .ok (.goto (-22), 3) := by decide +kernel
theorem dX1_addVariable_39 : decode cX1_addVariable 39 = .ok (.aload_n 0, 1) := by decide +kernel
theorem dX1_addVariable_40 : decode cX1_addVariable 40 = .ok (.iconst (-1), 1) := by decide +kernel
theorem dX1_addVariable_41 : decode cX1_addVariable 41 = .ok (.invokevirtual 33, 3) := by decide +kernel
theorem dX1_addVariable_44 : decode cX1_addVariable 44 = .ok (.ireturn, 1) := by decide +kernel
theorem dX1_addAnd_0 : decode cX1_addAnd 0 = .ok (.aload_n 0, 1) := by decide +kernel
theorem dX1_addAnd_1 : decode cX1_addAnd 1 = .ok (.invokevirtual 26, 3) := by decide +kernel
theorem dX1_addAnd_4 : decode cX1_addAnd 4 = .ok (.aload_n 0, 1) := by decide +kernel
theorem dX1_addAnd_5 : decode cX1_addAnd 5 = .ok (.getfield 11, 3) := by decide +kernel
theorem dX1_addAnd_8 : decode cX1_addAnd 8 = .ok (.bipush 64, 2) := by decide +kernel
theorem dX1_addAnd_10 : decode cX1_addAnd 10 = .ok (.imul, 1) := by decide +kernel
theorem dX1_addAnd_11 : decode cX1_addAnd 11 = .ok (.istore 4, 2) := by decide +kernel
theorem dX1_addAnd_13 : decode cX1_addAnd 13 = .ok (.iconst 0, 1) := by decide +kernel
theorem dX1_addAnd_14 : decode cX1_addAnd 14 = .ok (.istore 5, 2) := by decide +kernel
theorem dX1_addAnd_16 : decode cX1_addAnd 16 = .ok (.iload 5, 2) := by decide +kernel
theorem dX1_addAnd_18 : decode cX1_addAnd 18 = .ok (.bipush 64, 2) := by decide +kernel
theorem dX1_addAnd_20 : decode cX1_addAnd 20 = .ok (.if_icmp .ge 34, 3) := by decide +kernel
theorem dX1_addAnd_23 : decode cX1_addAnd 23 = .ok (.aload_n 0, 1) := by decide +kernel
theorem dX1_addAnd_24 : decode cX1_addAnd 24 = .ok (.getfield 22, 3) := by decide +kernel
theorem dX1_addAnd_27 : decode cX1_addAnd 27 = .ok (.iload 4, 2) := by decide +kernel
theorem dX1_addAnd_29 : decode cX1_addAnd 29 = .ok (.iload 5, 2) := by decide +kernel
theorem dX1_addAnd_31 : decode cX1_addAnd 31 = .ok (.iadd, 1) := by decide +kernel
theorem dX1_addAnd_32 : decode cX1_addAnd 32 = .ok (.aload_n 0, 1) := by decide +kernel
theorem dX1_addAnd_33 : decode cX1_addAnd 33 = .ok (.iload_n 2, 1) := by decide +kernel
theorem dX1_addAnd_34 : decode cX1_addAnd 34 = .ok (.iload 5, 2) := by decide +kernel
theorem dX1_addAnd_36 : decode cX1_addAnd 36 = .ok (.invokevirtual 37, 3) := by decide +kernel
theorem dX1_addAnd_39 : decode cX1_addAnd 39 = .ok (.aload_n 0, 1) := by decide +kernel
theorem dX1_addAnd_40 : decode cX1_addAnd 40 = .ok (.iload_n 3, 1) := by decide +kernel
theorem dX1_addAnd_41 : decode cX1_addAnd 41 = .ok (.iload 5, 2) := by decide +kernel
theorem dX1_addAnd_43 : decode cX1_addAnd 43 = .ok (.invokevirtual 37, 3) := by decide +kernel
theorem dX1_addAnd_46 : decode cX1_addAnd 46 = .ok (.land, 1) := by decide +kernel
theorem dX1_addAnd_47 : decode cX1_addAnd 47 = .ok (.lastore, 1) := by decide +kernel
theorem dX1_addAnd_48 : decode cX1_addAnd 48 = .ok (.iinc 5 1, 3) := by decide +kernel
theorem dX1_addAnd_51 : decode cX1_addAnd 51 = .ok (.goto (-35), 3) := by decide +kernel
theorem dX1_addAnd_54 : decode cX1_addAnd 54 = .ok (.aload_n 0, 1) := by decide +kernel
theorem dX1_addAnd_55 : decode cX1_addAnd 55 = .ok (.iload_n 1, 1) := by decide +kernel
theorem dX1_addAnd_56 : decode cX1_addAnd 56 = .ok (.invokevirtual 33, 3) := by decide +kernel
theorem dX1_addAnd_59 : decode cX1_addAnd 59 = .ok (.ireturn, 1) := by decide +kernel
theorem dX1_isOfOtherSide_0 : decode cX1_isOfOtherSide 0 = .ok (.aload_n 0, 1) := by decide +kernel
theorem dX1_isOfOtherSide_1 : decode cX1_isOfOtherSide 1 = .ok (.getfield 15, 3) := by decide +kernel
theorem dX1_isOfOtherSide_4 : decode cX1_isOfOtherSide 4 = .ok (.iload_n 2, 1) := by decide +kernel
theorem dX1_isOfOtherSide_5 : decode cX1_isOfOtherSide 5 = .ok (.iconst 1, 1) := by decide +kernel
theorem dX1_isOfOtherSide_6 : decode cX1_isOfOtherSide 6 = .ok (.ishr, 1) := by decide +kernel
theorem dX1_isOfOtherSide_7 : decode cX1_isOfOtherSide 7 = .ok (.iaload, 1) := by decide +kernel
theorem dX1_isOfOtherSide_8 : decode cX1_isOfOtherSide 8 = .ok (.istore_n 3, 1) := by decide +kernel
theorem dX1_isOfOtherSide_9 : decode cX1_isOfOtherSide 9 = .ok (.iload_n 3, 1) := by decide +kernel
theorem dX1_isOfOtherSide_10 : decode cX1_isOfOtherSide 10 = .ok (.iconst (-1), 1) := by decide +kernel
theorem dX1_isOfOtherSide_11 : decode cX1_isOfOtherSide 11 = .ok (.if_icmp .eq 12, 3) := by decide +kernel
theorem dX1_isOfOtherSide_14 : decode cX1_isOfOtherSide 14 = .ok (.iload_n 3, 1) := by decide +kernel
theorem dX1_isOfOtherSide_15 : decode cX1_isOfOtherSide 15 = .ok (.iload_n 1, 1) := by decide +kernel
theorem dX1_isOfOtherSide_16 : decode cX1_isOfOtherSide 16 = .ok (.if_icmp .eq 7, 3) := by decide +kernel
theorem dX1_isOfOtherSide_19 : decode cX1_isOfOtherSide 19 = .ok (.iconst 1, 1) := by decide +kernel
theorem dX1_isOfOtherSide_20 : decode cX1_isOfOtherSide 20 = .ok (.goto 4, 3) := by decide +kernel
theorem dX1_isOfOtherSide_23 : decode cX1_isOfOtherSide 23 = .ok (.iconst 0, 1) := by decide +kernel
theorem dX1_isOfOtherSide_24 : decode cX1_isOfOtherSide 24 = .ok (.ireturn, 1) := by decide +kernel
theorem dX1_firstOf_0 : decode cX1_firstOf 0 = .ok (.aload_n 0, 1) := by decide +kernel
theorem dX1_firstOf_1 : decode cX1_firstOf 1 = .ok (.getfield 19, 3) := by decide +kernel
theorem dX1_firstOf_4 : decode cX1_firstOf 4 = .ok (.iload_n 1, 1) := by decide +kernel
theorem dX1_firstOf_5 : decode cX1_firstOf 5 = .ok (.iconst 1, 1) := by decide +kernel
theorem dX1_firstOf_6 : decode cX1_firstOf 6 = .ok (.ishr, 1) := by decide +kernel
theorem dX1_firstOf_7 : decode cX1_firstOf 7 = .ok (.iaload, 1) := by decide +kernel
theorem dX1_firstOf_8 : decode cX1_firstOf 8 = .ok (.iload_n 1, 1) := by decide +kernel
theorem dX1_firstOf_9 : decode cX1_firstOf 9 = .ok (.iconst 1, 1) := by decide +kernel
theorem dX1_firstOf_10 : decode cX1_firstOf 10 = .ok (.iand, 1) := by decide +kernel
theorem dX1_firstOf_11 : decode cX1_firstOf 11 = .ok (.ixor, 1) := by decide +kernel
theorem dX1_firstOf_12 : decode cX1_firstOf 12 = .ok (.ireturn, 1) := by decide +kernel
theorem dX1_areSame_0 : decode cX1_areSame 0 = .ok (.aload_n 0, 1) := by decide +kernel
theorem dX1_areSame_1 : decode cX1_areSame 1 = .ok (.iload_n 1, 1) := by decide +kernel
theorem dX1_areSame_2 : decode cX1_areSame 2 = .ok (.invokevirtual 40, 3) := by decide +kernel
theorem dX1_areSame_5 : decode cX1_areSame 5 = .ok (.aload_n 0, 1) := by decide +kernel
theorem dX1_areSame_6 : decode cX1_areSame 6 = .ok (.iload_n 2, 1) := by decide +kernel
theorem dX1_areSame_7 : decode cX1_areSame 7 = .ok (.invokevirtual 40, 3) := by decide +kernel
theorem dX1_areSame_10 : decode cX1_areSame 10 = .ok (.if_icmp .ne 7, 3) := by decide +kernel
theorem dX1_areSame_13 : decode cX1_areSame 13 = .ok (.iconst 1, 1) := by decide +kernel
theorem dX1_areSame_14 : decode cX1_areSame 14 = .ok (.goto 4, 3) := by decide +kernel
theorem dX1_areSame_17 : decode cX1_areSame 17 = .ok (.iconst 0, 1) := by decide +kernel
theorem dX1_areSame_18 : decode cX1_areSame 18 = .ok (.ireturn, 1) := by decide +kernel
theorem dX1_countClasses_0 : decode cX1_countClasses 0 = .ok (.iconst 0, 1) := by decide +kernel
theorem dX1_countClasses_1 : decode cX1_countClasses 1 = .ok (.istore_n 1, 1) := by decide +kernel
theorem dX1_countClasses_2 : decode cX1_countClasses 2 = .ok (.iconst 0, 1) := by decide +kernel
theorem dX1_countClasses_3 : decode cX1_countClasses 3 = .ok (.istore_n 2, 1) := by decide +kernel
theorem dX1_countClasses_4 : decode cX1_countClasses 4 = .ok (.iload_n 2, 1) := by decide +kernel
theorem dX1_countClasses_5 : decode cX1_countClasses 5 = .ok (.aload_n 0, 1) := by decide +kernel
theorem dX1_countClasses_6 : decode cX1_countClasses 6 = .ok (.getfield 11, 3) := by decide +kernel
theorem dX1_countClasses_9 : decode cX1_countClasses 9 = .ok (.if_icmp .ge 20, 3) := by decide +kernel
theorem dX1_countClasses_12 : decode cX1_countClasses 12 = .ok (.aload_n 0, 1) := by decide +kernel
theorem dX1_countClasses_13 : decode cX1_countClasses 13 = .ok (.iload_n 2, 1) := by decide +kernel
theorem dX1_countClasses_14 : decode cX1_countClasses 14 = .ok (.invokevirtual 43, 3) := by decide +kernel
theorem dX1_countClasses_17 : decode cX1_countClasses 17 = .ok (.ifCond .eq 6, 3) := by decide +kernel
theorem dX1_countClasses_20 : decode cX1_countClasses 20 = .ok (.iinc 1 1, 3) := by decide +kernel
theorem dX1_countClasses_23 : decode cX1_countClasses 23 = .ok (.iinc 2 1, 3) := by decide +kernel
theorem dX1_countClasses_26 : decode cX1_countClasses 26 = .ok (.goto (-22), 3) := by decide +kernel
theorem dX1_countClasses_29 : decode cX1_countClasses 29 = .ok (.iload_n 1, 1) := by decide +kernel
theorem dX1_countClasses_30 : decode cX1_countClasses 30 = .ok (.ireturn, 1) := by decide +kernel
theorem dX1_countMerged_0 : decode cX1_countMerged 0 = .ok (.iconst 0, 1) := by decide +kernel
theorem dX1_countMerged_1 : decode cX1_countMerged 1 = .ok (.istore_n 2, 1) := by decide +kernel
theorem dX1_countMerged_2 : decode cX1_countMerged 2 = .ok (.iconst 0, 1) := by decide +kernel
theorem dX1_countMerged_3 : decode cX1_countMerged 3 = .ok (.istore_n 3, 1) := by decide +kernel
theorem dX1_countMerged_4 : decode cX1_countMerged 4 = .ok (.iload_n 3, 1) := by decide +kernel
theorem dX1_countMerged_5 : decode cX1_countMerged 5 = .ok (.aload_n 0, 1) := by decide +kernel
theorem dX1_countMerged_6 : decode cX1_countMerged 6 = .ok (.getfield 11, 3) := by decide +kernel
theorem dX1_countMerged_9 : decode cX1_countMerged 9 = .ok (.if_icmp .ge 30, 3) := by decide +kernel
theorem dX1_countMerged_12 : decode cX1_countMerged 12 = .ok (.aload_n 0, 1) := by decide +kernel
theorem dX1_countMerged_13 : decode cX1_countMerged 13 = .ok (.getfield 15, 3) := by decide +kernel
theorem dX1_countMerged_16 : decode cX1_countMerged 16 = .ok (.iload_n 3, 1) := by decide +kernel
theorem dX1_countMerged_17 : decode cX1_countMerged 17 = .ok (.iaload, 1) := by decide +kernel
theorem dX1_countMerged_18 : decode cX1_countMerged 18 = .ok (.iload_n 1, 1) := by decide +kernel
theorem dX1_countMerged_19 : decode cX1_countMerged 19 = .ok (.if_icmp .ne 14, 3) := by decide +kernel
theorem dX1_countMerged_22 : decode cX1_countMerged 22 = .ok (.aload_n 0, 1) := by decide +kernel
theorem dX1_countMerged_23 : decode cX1_countMerged 23 = .ok (.iload_n 3, 1) := by decide +kernel
theorem dX1_countMerged_24 : decode cX1_countMerged 24 = .ok (.invokevirtual 43, 3) := by decide +kernel
theorem dX1_countMerged_27 : decode cX1_countMerged 27 = .ok (.ifCond .ne 6, 3) := by decide +kernel
theorem dX1_countMerged_30 : decode cX1_countMerged 30 = .ok (.iinc 2 1, 3) := by decide +kernel
theorem dX1_countMerged_33 : decode cX1_countMerged 33 = .ok (.iinc 3 1, 3) := by decide +kernel
theorem dX1_countMerged_36 : decode cX1_countMerged 36 = .ok (.goto (-32), 3) := by decide +kernel
theorem dX1_countMerged_39 : decode cX1_countMerged 39 = .ok (.iload_n 2, 1) := by decide +kernel
theorem dX1_countMerged_40 : decode cX1_countMerged 40 = .ok (.ireturn, 1) := by decide +kernel
theorem dX1_countAnds_0 : decode cX1_countAnds 0 = .ok (.iconst 0, 1) := by decide +kernel
theorem dX1_countAnds_1 : decode cX1_countAnds 1 = .ok (.istore_n 2, 1) := by decide +kernel
theorem dX1_countAnds_2 : decode cX1_countAnds 2 = .ok (.iconst 0, 1) := by decide +kernel
theorem dX1_countAnds_3 : decode cX1_countAnds 3 = .ok (.istore_n 3, 1) := by decide +kernel
theorem dX1_countAnds_4 : decode cX1_countAnds 4 = .ok (.iload_n 3, 1) := by decide +kernel
theorem dX1_countAnds_5 : decode cX1_countAnds 5 = .ok (.aload_n 0, 1) := by decide +kernel
theorem dX1_countAnds_6 : decode cX1_countAnds 6 = .ok (.getfield 11, 3) := by decide +kernel
theorem dX1_countAnds_9 : decode cX1_countAnds 9 = .ok (.if_icmp .ge 22, 3) := by decide +kernel
theorem dX1_countAnds_12 : decode cX1_countAnds 12 = .ok (.aload_n 0, 1) := by decide +kernel
theorem dX1_countAnds_13 : decode cX1_countAnds 13 = .ok (.getfield 15, 3) := by decide +kernel
theorem dX1_countAnds_16 : decode cX1_countAnds 16 = .ok (.iload_n 3, 1) := by decide +kernel
theorem dX1_countAnds_17 : decode cX1_countAnds 17 = .ok (.iaload, 1) := by decide +kernel
theorem dX1_countAnds_18 : decode cX1_countAnds 18 = .ok (.iload_n 1, 1) := by decide +kernel
theorem dX1_countAnds_19 : decode cX1_countAnds 19 = .ok (.if_icmp .ne 6, 3) := by decide +kernel
theorem dX1_countAnds_22 : decode cX1_countAnds 22 = .ok (.iinc 2 1, 3) := by decide +kernel
theorem dX1_countAnds_25 : decode cX1_countAnds 25 = .ok (.iinc 3 1, 3) := by decide +kernel
theorem dX1_countAnds_28 : decode cX1_countAnds 28 = .ok (.goto (-24), 3) := by decide +kernel
theorem dX1_countAnds_31 : decode cX1_countAnds 31 = .ok (.iload_n 2, 1) := by decide +kernel
theorem dX1_countAnds_32 : decode cX1_countAnds 32 = .ok (.ireturn, 1) := by decide +kernel
theorem dX1_countOnes_0 : decode cX1_countOnes 0 = .ok (.iconst 0, 1) := by decide +kernel
theorem dX1_countOnes_1 : decode cX1_countOnes 1 = .ok (.istore_n 2, 1) := by decide +kernel
theorem dX1_countOnes_2 : decode cX1_countOnes 2 = .ok (.iconst 0, 1) := by decide +kernel
theorem dX1_countOnes_3 : decode cX1_countOnes 3 = .ok (.istore_n 3, 1) := by decide +kernel
theorem dX1_countOnes_4 : decode cX1_countOnes 4 = .ok (.iload_n 3, 1) := by decide +kernel
theorem dX1_countOnes_5 : decode cX1_countOnes 5 = .ok (.bipush 64, 2) := by decide +kernel
theorem dX1_countOnes_7 : decode cX1_countOnes 7 = .ok (.if_icmp .ge 21, 3) := by decide +kernel
theorem dX1_countOnes_10 : decode cX1_countOnes 10 = .ok (.iload_n 2, 1) := by decide +kernel
theorem dX1_countOnes_11 : decode cX1_countOnes 11 = .ok (.aload_n 0, 1) := by decide +kernel
theorem dX1_countOnes_12 : decode cX1_countOnes 12 = .ok (.iload_n 1, 1) := by decide +kernel
theorem dX1_countOnes_13 : decode cX1_countOnes 13 = .ok (.iload_n 3, 1) := by decide +kernel
theorem dX1_countOnes_14 : decode cX1_countOnes 14 = .ok (.invokevirtual 37, 3) := by decide +kernel
theorem dX1_countOnes_17 : decode cX1_countOnes 17 = .ok (.invokestatic 47, 3) := by decide +kernel
theorem dX1_countOnes_20 : decode cX1_countOnes 20 = .ok (.iadd, 1) := by decide +kernel
theorem dX1_countOnes_21 : decode cX1_countOnes 21 = .ok (.istore_n 2, 1) := by decide +kernel
theorem dX1_countOnes_22 : decode cX1_countOnes 22 = .ok (.iinc 3 1, 3) := by decide +kernel
theorem dX1_countOnes_25 : decode cX1_countOnes 25 = .ok (.goto (-21), 3) := by decide +kernel
theorem dX1_countOnes_28 : decode cX1_countOnes 28 = .ok (.iload_n 2, 1) := by decide +kernel
theorem dX1_countOnes_29 : decode cX1_countOnes 29 = .ok (.ireturn, 1) := by decide +kernel
theorem dX1_valueIn_0 : decode cX1_valueIn 0 = .ok (.iload_n 2, 1) := by decide +kernel
theorem dX1_valueIn_1 : decode cX1_valueIn 1 = .ok (.sipush 4095, 3) := by decide +kernel
theorem dX1_valueIn_4 : decode cX1_valueIn 4 = .ok (.iand, 1) := by decide +kernel
theorem dX1_valueIn_5 : decode cX1_valueIn 5 = .ok (.istore_n 3, 1) := by decide +kernel
theorem dX1_valueIn_6 : decode cX1_valueIn 6 = .ok (.aload_n 0, 1) := by decide +kernel
theorem dX1_valueIn_7 : decode cX1_valueIn 7 = .ok (.iload_n 1, 1) := by decide +kernel
theorem dX1_valueIn_8 : decode cX1_valueIn 8 = .ok (.iload_n 3, 1) := by decide +kernel
theorem dX1_valueIn_9 : decode cX1_valueIn 9 = .ok (.bipush 64, 2) := by decide +kernel
theorem dX1_valueIn_11 : decode cX1_valueIn 11 = .ok (.idiv, 1) := by decide +kernel
theorem dX1_valueIn_12 : decode cX1_valueIn 12 = .ok (.invokevirtual 37, 3) := by decide +kernel
theorem dX1_valueIn_15 : decode cX1_valueIn 15 = .ok (.iload_n 3, 1) := by decide +kernel
theorem dX1_valueIn_16 : decode cX1_valueIn 16 = .ok (.bipush 64, 2) := by decide +kernel
theorem dX1_valueIn_18 : decode cX1_valueIn 18 = .ok (.irem, 1) := by decide +kernel
theorem dX1_valueIn_19 : decode cX1_valueIn 19 = .ok (.lushr, 1) := by decide +kernel
theorem dX1_valueIn_20 : decode cX1_valueIn 20 = .ok (.l2i, 1) := by decide +kernel
theorem dX1_valueIn_21 : decode cX1_valueIn 21 = .ok (.iconst 1, 1) := by decide +kernel
theorem dX1_valueIn_22 : decode cX1_valueIn 22 = .ok (.iand, 1) := by decide +kernel
theorem dX1_valueIn_23 : decode cX1_valueIn 23 = .ok (.ireturn, 1) := by decide +kernel
theorem dX1_supportOf_0 : decode cX1_supportOf 0 = .ok (.iconst 0, 1) := by decide +kernel
theorem dX1_supportOf_1 : decode cX1_supportOf 1 = .ok (.istore_n 2, 1) := by decide +kernel
theorem dX1_supportOf_2 : decode cX1_supportOf 2 = .ok (.iconst 0, 1) := by decide +kernel
theorem dX1_supportOf_3 : decode cX1_supportOf 3 = .ok (.istore_n 3, 1) := by decide +kernel
theorem dX1_supportOf_4 : decode cX1_supportOf 4 = .ok (.iload_n 3, 1) := by decide +kernel
theorem dX1_supportOf_5 : decode cX1_supportOf 5 = .ok (.bipush 12, 2) := by decide +kernel
theorem dX1_supportOf_7 : decode cX1_supportOf 7 = .ok (.if_icmp .ge 24, 3) := by decide +kernel
theorem dX1_supportOf_10 : decode cX1_supportOf 10 = .ok (.aload_n 0, 1) := by decide +kernel
theorem dX1_supportOf_11 : decode cX1_supportOf 11 = .ok (.iload_n 1, 1) := by decide +kernel
theorem dX1_supportOf_12 : decode cX1_supportOf 12 = .ok (.iload_n 3, 1) := by decide +kernel
theorem dX1_supportOf_13 : decode cX1_supportOf 13 = .ok (.invokevirtual 53, 3) := by decide +kernel
theorem dX1_supportOf_16 : decode cX1_supportOf 16 = .ok (.ifCond .eq 9, 3) := by decide +kernel
theorem dX1_supportOf_19 : decode cX1_supportOf 19 = .ok (.iload_n 2, 1) := by decide +kernel
theorem dX1_supportOf_20 : decode cX1_supportOf 20 = .ok (.iconst 1, 1) := by decide +kernel
theorem dX1_supportOf_21 : decode cX1_supportOf 21 = .ok (.iload_n 3, 1) := by decide +kernel
theorem dX1_supportOf_22 : decode cX1_supportOf 22 = .ok (.ishl, 1) := by decide +kernel
theorem dX1_supportOf_23 : decode cX1_supportOf 23 = .ok (.ior, 1) := by decide +kernel
theorem dX1_supportOf_24 : decode cX1_supportOf 24 = .ok (.istore_n 2, 1) := by decide +kernel
theorem dX1_supportOf_25 : decode cX1_supportOf 25 = .ok (.iinc 3 1, 3) := by decide +kernel
theorem dX1_supportOf_28 : decode cX1_supportOf 28 = .ok (.goto (-24), 3) := by decide +kernel
theorem dX1_supportOf_31 : decode cX1_supportOf 31 = .ok (.iload_n 2, 1) := by decide +kernel
theorem dX1_supportOf_32 : decode cX1_supportOf 32 = .ok (.ireturn, 1) := by decide +kernel
theorem dX1_leastDifference_0 : decode cX1_leastDifference 0 = .ok (.iconst 0, 1) := by decide +kernel
theorem dX1_leastDifference_1 : decode cX1_leastDifference 1 = .ok (.istore_n 3, 1) := by decide +kernel
theorem dX1_leastDifference_2 : decode cX1_leastDifference 2 = .ok (.iload_n 3, 1) := by decide +kernel
theorem dX1_leastDifference_3 : decode cX1_leastDifference 3 = .ok (.bipush 64, 2) := by decide +kernel
theorem dX1_leastDifference_5 : decode cX1_leastDifference 5 = .ok (.if_icmp .ge 42, 3) := by decide +kernel
theorem dX1_leastDifference_8 : decode cX1_leastDifference 8 = .ok (.aload_n 0, 1) := by decide +kernel
theorem dX1_leastDifference_9 : decode cX1_leastDifference 9 = .ok (.iload_n 1, 1) := by decide +kernel
theorem dX1_leastDifference_10 : decode cX1_leastDifference 10 = .ok (.iload_n 3, 1) := by decide +kernel
theorem dX1_leastDifference_11 : decode cX1_leastDifference 11 = .ok (.invokevirtual 37, 3) := by decide +kernel
theorem dX1_leastDifference_14 : decode cX1_leastDifference 14 = .ok (.aload_n 0, 1) := by decide +kernel
theorem dX1_leastDifference_15 : decode cX1_leastDifference 15 = .ok (.iload_n 2, 1) := by decide +kernel
theorem dX1_leastDifference_16 : decode cX1_leastDifference 16 = .ok (.iload_n 3, 1) := by decide +kernel
theorem dX1_leastDifference_17 : decode cX1_leastDifference 17 = .ok (.invokevirtual 37, 3) := by decide +kernel
theorem dX1_leastDifference_20 : decode cX1_leastDifference 20 = .ok (.lxor, 1) := by decide +kernel
theorem dX1_leastDifference_21 : decode cX1_leastDifference 21 = .ok (.lstore 4, 2) := by decide +kernel
theorem dX1_leastDifference_23 : decode cX1_leastDifference 23 = .ok (.lload 4, 2) := by decide +kernel
theorem dX1_leastDifference_25 : decode cX1_leastDifference 25 = .ok (.lconst 0, 1) := by decide +kernel
theorem dX1_leastDifference_26 : decode cX1_leastDifference 26 = .ok (.lcmp, 1) := by decide +kernel
theorem dX1_leastDifference_27 : decode cX1_leastDifference 27 = .ok (.ifCond .eq 14, 3) := by decide +kernel
theorem dX1_leastDifference_30 : decode cX1_leastDifference 30 = .ok (.iload_n 3, 1) := by decide +kernel
theorem dX1_leastDifference_31 : decode cX1_leastDifference 31 = .ok (.bipush 64, 2) := by decide +kernel
theorem dX1_leastDifference_33 : decode cX1_leastDifference 33 = .ok (.imul, 1) := by decide +kernel
theorem dX1_leastDifference_34 : decode cX1_leastDifference 34 = .ok (.lload 4, 2) := by decide +kernel
theorem dX1_leastDifference_36 : decode cX1_leastDifference 36 = .ok (.invokestatic 57, 3) := by decide +kernel
theorem dX1_leastDifference_39 : decode cX1_leastDifference 39 = .ok (.iadd, 1) := by decide +kernel
theorem dX1_leastDifference_40 : decode cX1_leastDifference 40 = .ok (.ireturn, 1) := by decide +kernel
theorem dX1_leastDifference_41 : decode cX1_leastDifference 41 = .ok (.iinc 3 1, 3) := by decide +kernel
theorem dX1_leastDifference_44 : decode cX1_leastDifference 44 = .ok (.goto (-42), 3) := by decide +kernel
theorem dX1_leastDifference_47 : decode cX1_leastDifference 47 = .ok (.iconst (-1), 1) := by decide +kernel
theorem dX1_leastDifference_48 : decode cX1_leastDifference 48 = .ok (.ireturn, 1) := by decide +kernel
theorem dX1_growRows_0 : decode cX1_growRows 0 = .ok (.aload_n 0, 1) := by decide +kernel
theorem dX1_growRows_1 : decode cX1_growRows 1 = .ok (.getfield 11, 3) := by decide +kernel
theorem dX1_growRows_4 : decode cX1_growRows 4 = .ok (.iconst 1, 1) := by decide +kernel
theorem dX1_growRows_5 : decode cX1_growRows 5 = .ok (.iadd, 1) := by decide +kernel
theorem dX1_growRows_6 : decode cX1_growRows 6 = .ok (.bipush 64, 2) := by decide +kernel
theorem dX1_growRows_8 : decode cX1_growRows 8 = .ok (.imul, 1) := by decide +kernel
theorem dX1_growRows_9 : decode cX1_growRows 9 = .ok (.aload_n 0, 1) := by decide +kernel
theorem dX1_growRows_10 : decode cX1_growRows 10 = .ok (.getfield 22, 3) := by decide +kernel
theorem dX1_growRows_13 : decode cX1_growRows 13 = .ok (.arraylength, 1) := by decide +kernel
theorem dX1_growRows_14 : decode cX1_growRows 14 = .ok (.if_icmp .le 27, 3) := by decide +kernel
theorem dX1_growRows_17 : decode cX1_growRows 17 = .ok (.aload_n 0, 1) := by decide +kernel
theorem dX1_growRows_18 : decode cX1_growRows 18 = .ok (.aload_n 0, 1) := by decide +kernel
theorem dX1_growRows_19 : decode cX1_growRows 19 = .ok (.getfield 22, 3) := by decide +kernel
theorem dX1_growRows_22 : decode cX1_growRows 22 = .ok (.iconst 2, 1) := by decide +kernel
theorem dX1_growRows_23 : decode cX1_growRows 23 = .ok (.aload_n 0, 1) := by decide +kernel
theorem dX1_growRows_24 : decode cX1_growRows 24 = .ok (.getfield 22, 3) := by decide +kernel
theorem dX1_growRows_27 : decode cX1_growRows 27 = .ok (.arraylength, 1) := by decide +kernel
theorem dX1_growRows_28 : decode cX1_growRows 28 = .ok (.imul, 1) := by decide +kernel
theorem dX1_growRows_29 : decode cX1_growRows 29 = .ok (.sipush 25600, 3) := by decide +kernel
theorem dX1_growRows_32 : decode cX1_growRows 32 = .ok (.invokestatic 60, 3) := by decide +kernel
theorem dX1_growRows_35 : decode cX1_growRows 35 = .ok (.invokestatic 66, 3) := by decide +kernel
theorem dX1_growRows_38 : decode cX1_growRows 38 = .ok (.putfield 22, 3) := by decide +kernel
theorem dX1_growRows_41 : decode cX1_growRows 41 = .ok (.return_, 1) := by decide +kernel
theorem dX1_settle_0 : decode cX1_settle 0 = .ok (.aload_n 0, 1) := by decide +kernel
theorem dX1_settle_1 : decode cX1_settle 1 = .ok (.getfield 11, 3) := by decide +kernel
theorem dX1_settle_4 : decode cX1_settle 4 = .ok (.istore_n 2, 1) := by decide +kernel
end
section
theorem dX1_settle_5 : decode cX1_settle 5 = .ok (.aload_n 0, 1) := by decide +kernel
theorem dX1_settle_6 : decode cX1_settle 6 = .ok (.getfield 15, 3) := by decide +kernel
theorem dX1_settle_9 : decode cX1_settle 9 = .ok (.iload_n 2, 1) := by decide +kernel
theorem dX1_settle_10 : decode cX1_settle 10 = .ok (.iload_n 1, 1) := by decide +kernel
theorem dX1_settle_11 : decode cX1_settle 11 = .ok (.iastore, 1) := by decide +kernel
theorem dX1_settle_12 : decode cX1_settle 12 = .ok (.aload_n 0, 1) := by decide +kernel
theorem dX1_settle_13 : decode cX1_settle 13 = .ok (.getfield 19, 3) := by decide +kernel
theorem dX1_settle_16 : decode cX1_settle 16 = .ok (.iload_n 2, 1) := by decide +kernel
theorem dX1_settle_17 : decode cX1_settle 17 = .ok (.aload_n 0, 1) := by decide +kernel
theorem dX1_settle_18 : decode cX1_settle 18 = .ok (.iload_n 2, 1) := by decide +kernel
theorem dX1_settle_19 : decode cX1_settle 19 = .ok (.invokevirtual 72, 3) := by decide +kernel
theorem dX1_settle_22 : decode cX1_settle 22 = .ok (.iastore, 1) := by decide +kernel
theorem dX1_settle_23 : decode cX1_settle 23 = .ok (.aload_n 0, 1) := by decide +kernel
theorem dX1_settle_24 : decode cX1_settle 24 = .ok (.dup, 1) := by decide +kernel
theorem dX1_settle_25 : decode cX1_settle 25 = .ok (.getfield 11, 3) := by decide +kernel
theorem dX1_settle_28 : decode cX1_settle 28 = .ok (.iconst 1, 1) := by decide +kernel
theorem dX1_settle_29 : decode cX1_settle 29 = .ok (.iadd, 1) := by decide +kernel
theorem dX1_settle_30 : decode cX1_settle 30 = .ok (.putfield 11, 3) := by decide +kernel
theorem dX1_settle_33 : decode cX1_settle 33 = .ok (.iconst 2, 1) := by decide +kernel
theorem dX1_settle_34 : decode cX1_settle 34 = .ok (.iload_n 2, 1) := by decide +kernel
theorem dX1_settle_35 : decode cX1_settle 35 = .ok (.imul, 1) := by decide +kernel
theorem dX1_settle_36 : decode cX1_settle 36 = .ok (.ireturn, 1) := by decide +kernel
theorem dX1_findFirst_0 : decode cX1_findFirst 0 = .ok (.iconst 2, 1) := by decide +kernel
theorem dX1_findFirst_1 : decode cX1_findFirst 1 = .ok (.iload_n 1, 1) := by decide +kernel
theorem dX1_findFirst_2 : decode cX1_findFirst 2 = .ok (.imul, 1) := by decide +kernel
theorem dX1_findFirst_3 : decode cX1_findFirst 3 = .ok (.istore_n 2, 1) := by decide +kernel
theorem dX1_findFirst_4 : decode cX1_findFirst 4 = .ok (.aload_n 0, 1) := by decide +kernel
theorem dX1_findFirst_5 : decode cX1_findFirst 5 = .ok (.iload_n 2, 1) := by decide +kernel
theorem dX1_findFirst_6 : decode cX1_findFirst 6 = .ok (.iconst 0, 1) := by decide +kernel
theorem dX1_findFirst_7 : decode cX1_findFirst 7 = .ok (.invokevirtual 75, 3) := by decide +kernel
theorem dX1_findFirst_10 : decode cX1_findFirst 10 = .ok (.istore_n 3, 1) := by decide +kernel
theorem dX1_findFirst_11 : decode cX1_findFirst 11 = .ok (.iconst 0, 1) := by decide +kernel
theorem dX1_findFirst_12 : decode cX1_findFirst 12 = .ok (.istore 4, 2) := by decide +kernel
theorem dX1_findFirst_14 : decode cX1_findFirst 14 = .ok (.iload 4, 2) := by decide +kernel
theorem dX1_findFirst_16 : decode cX1_findFirst 16 = .ok (.iload_n 1, 1) := by decide +kernel
theorem dX1_findFirst_17 : decode cX1_findFirst 17 = .ok (.if_icmp .ge 41, 3) := by decide +kernel
theorem dX1_findFirst_20 : decode cX1_findFirst 20 = .ok (.iconst 2, 1) := by decide +kernel
theorem dX1_findFirst_21 : decode cX1_findFirst 21 = .ok (.iload 4, 2) := by decide +kernel
theorem dX1_findFirst_23 : decode cX1_findFirst 23 = .ok (.imul, 1) := by decide +kernel
theorem dX1_findFirst_24 : decode cX1_findFirst 24 = .ok (.aload_n 0, 1) := by decide +kernel
theorem dX1_findFirst_25 : decode cX1_findFirst 25 = .ok (.iconst 2, 1) := by decide +kernel
theorem dX1_findFirst_26 : decode cX1_findFirst 26 = .ok (.iload 4, 2) := by decide +kernel
theorem dX1_findFirst_28 : decode cX1_findFirst 28 = .ok (.imul, 1) := by decide +kernel
theorem dX1_findFirst_29 : decode cX1_findFirst 29 = .ok (.iconst 0, 1) := by decide +kernel
theorem dX1_findFirst_30 : decode cX1_findFirst 30 = .ok (.invokevirtual 75, 3) := by decide +kernel
theorem dX1_findFirst_33 : decode cX1_findFirst 33 = .ok (.iload_n 3, 1) := by decide +kernel
theorem dX1_findFirst_34 : decode cX1_findFirst 34 = .ok (.ixor, 1) := by decide +kernel
theorem dX1_findFirst_35 : decode cX1_findFirst 35 = .ok (.iadd, 1) := by decide +kernel
theorem dX1_findFirst_36 : decode cX1_findFirst 36 = .ok (.istore 5, 2) := by decide +kernel
theorem dX1_findFirst_38 : decode cX1_findFirst 38 = .ok (.aload_n 0, 1) := by decide +kernel
theorem dX1_findFirst_39 : decode cX1_findFirst 39 = .ok (.iload 5, 2) := by decide +kernel
theorem dX1_findFirst_41 : decode cX1_findFirst 41 = .ok (.iload_n 2, 1) := by decide +kernel
theorem dX1_findFirst_42 : decode cX1_findFirst 42 = .ok (.invokevirtual 78, 3) := by decide +kernel
theorem dX1_findFirst_45 : decode cX1_findFirst 45 = .ok (.iconst (-1), 1) := by decide +kernel
theorem dX1_findFirst_46 : decode cX1_findFirst 46 = .ok (.if_icmp .ne 6, 3) := by decide +kernel
theorem dX1_findFirst_49 : decode cX1_findFirst 49 = .ok (.iload 5, 2) := by decide +kernel
theorem dX1_findFirst_51 : decode cX1_findFirst 51 = .ok (.ireturn, 1) := by decide +kernel
theorem dX1_findFirst_52 : decode cX1_findFirst 52 = .ok (.iinc 4 1, 3) := by decide +kernel
theorem dX1_findFirst_55 : decode cX1_findFirst 55 = .ok (.goto (-41), 3) := by decide +kernel
theorem dX1_findFirst_58 : decode cX1_findFirst 58 = .ok (.iload_n 2, 1) := by decide +kernel
theorem dX1_findFirst_59 : decode cX1_findFirst 59 = .ok (.ireturn, 1) := by decide +kernel
theorem dX1_isLeast_0 : decode cX1_isLeast 0 = .ok (.aload_n 0, 1) := by decide +kernel
theorem dX1_isLeast_1 : decode cX1_isLeast 1 = .ok (.getfield 19, 3) := by decide +kernel
theorem dX1_isLeast_4 : decode cX1_isLeast 4 = .ok (.iload_n 1, 1) := by decide +kernel
theorem dX1_isLeast_5 : decode cX1_isLeast 5 = .ok (.iaload, 1) := by decide +kernel
theorem dX1_isLeast_6 : decode cX1_isLeast 6 = .ok (.iconst 2, 1) := by decide +kernel
theorem dX1_isLeast_7 : decode cX1_isLeast 7 = .ok (.iload_n 1, 1) := by decide +kernel
theorem dX1_isLeast_8 : decode cX1_isLeast 8 = .ok (.imul, 1) := by decide +kernel
theorem dX1_isLeast_9 : decode cX1_isLeast 9 = .ok (.if_icmp .ne 7, 3) := by decide +kernel
theorem dX1_isLeast_12 : decode cX1_isLeast 12 = .ok (.iconst 1, 1) := by decide +kernel
theorem dX1_isLeast_13 : decode cX1_isLeast 13 = .ok (.goto 4, 3) := by decide +kernel
theorem dX1_isLeast_16 : decode cX1_isLeast 16 = .ok (.iconst 0, 1) := by decide +kernel
theorem dX1_isLeast_17 : decode cX1_isLeast 17 = .ok (.ireturn, 1) := by decide +kernel
theorem dX1_hangsOn_0 : decode cX1_hangsOn 0 = .ok (.iconst 0, 1) := by decide +kernel
theorem dX1_hangsOn_1 : decode cX1_hangsOn 1 = .ok (.istore_n 3, 1) := by decide +kernel
theorem dX1_hangsOn_2 : decode cX1_hangsOn 2 = .ok (.iload_n 3, 1) := by decide +kernel
theorem dX1_hangsOn_3 : decode cX1_hangsOn 3 = .ok (.bipush 64, 2) := by decide +kernel
theorem dX1_hangsOn_5 : decode cX1_hangsOn 5 = .ok (.if_icmp .ge 21, 3) := by decide +kernel
theorem dX1_hangsOn_8 : decode cX1_hangsOn 8 = .ok (.aload_n 0, 1) := by decide +kernel
theorem dX1_hangsOn_9 : decode cX1_hangsOn 9 = .ok (.iload_n 1, 1) := by decide +kernel
theorem dX1_hangsOn_10 : decode cX1_hangsOn 10 = .ok (.iload_n 2, 1) := by decide +kernel
theorem dX1_hangsOn_11 : decode cX1_hangsOn 11 = .ok (.iload_n 3, 1) := by decide +kernel
theorem dX1_hangsOn_12 : decode cX1_hangsOn 12 = .ok (.invokevirtual 81, 3) := by decide +kernel
theorem dX1_hangsOn_15 : decode cX1_hangsOn 15 = .ok (.ifCond .eq 5, 3) := by decide +kernel
theorem dX1_hangsOn_18 : decode cX1_hangsOn 18 = .ok (.iconst 1, 1) := by decide +kernel
theorem dX1_hangsOn_19 : decode cX1_hangsOn 19 = .ok (.ireturn, 1) := by decide +kernel
theorem dX1_hangsOn_20 : decode cX1_hangsOn 20 = .ok (.iinc 3 1, 3) := by decide +kernel
theorem dX1_hangsOn_23 : decode cX1_hangsOn 23 = .ok (.goto (-21), 3) := by decide +kernel
theorem dX1_hangsOn_26 : decode cX1_hangsOn 26 = .ok (.iconst 0, 1) := by decide +kernel
theorem dX1_hangsOn_27 : decode cX1_hangsOn 27 = .ok (.ireturn, 1) := by decide +kernel
theorem dX1_wordHangsOn_0 : decode cX1_wordHangsOn 0 = .ok (.aload_n 0, 1) := by decide +kernel
theorem dX1_wordHangsOn_1 : decode cX1_wordHangsOn 1 = .ok (.iload_n 1, 1) := by decide +kernel
theorem dX1_wordHangsOn_2 : decode cX1_wordHangsOn 2 = .ok (.iload_n 3, 1) := by decide +kernel
theorem dX1_wordHangsOn_3 : decode cX1_wordHangsOn 3 = .ok (.invokevirtual 37, 3) := by decide +kernel
theorem dX1_wordHangsOn_6 : decode cX1_wordHangsOn 6 = .ok (.lstore 4, 2) := by decide +kernel
theorem dX1_wordHangsOn_8 : decode cX1_wordHangsOn 8 = .ok (.iload_n 2, 1) := by decide +kernel
theorem dX1_wordHangsOn_9 : decode cX1_wordHangsOn 9 = .ok (.bipush 6, 2) := by decide +kernel
theorem dX1_wordHangsOn_11 : decode cX1_wordHangsOn 11 = .ok (.if_icmp .lt 28, 3) := by decide +kernel
theorem dX1_wordHangsOn_14 : decode cX1_wordHangsOn 14 = .ok (.lload 4, 2) := by decide +kernel
theorem dX1_wordHangsOn_16 : decode cX1_wordHangsOn 16 = .ok (.aload_n 0, 1) := by decide +kernel
theorem dX1_wordHangsOn_17 : decode cX1_wordHangsOn 17 = .ok (.iload_n 1, 1) := by decide +kernel
theorem dX1_wordHangsOn_18 : decode cX1_wordHangsOn 18 = .ok (.iload_n 3, 1) := by decide +kernel
theorem dX1_wordHangsOn_19 : decode cX1_wordHangsOn 19 = .ok (.iconst 1, 1) := by decide +kernel
theorem dX1_wordHangsOn_20 : decode cX1_wordHangsOn 20 = .ok (.iload_n 2, 1) := by decide +kernel
theorem dX1_wordHangsOn_21 : decode cX1_wordHangsOn 21 = .ok (.bipush 6, 2) := by decide +kernel
theorem dX1_wordHangsOn_23 : decode cX1_wordHangsOn 23 = .ok (.isub, 1) := by decide +kernel
theorem dX1_wordHangsOn_24 : decode cX1_wordHangsOn 24 = .ok (.ishl, 1) := by decide +kernel
theorem dX1_wordHangsOn_25 : decode cX1_wordHangsOn 25 = .ok (.ixor, 1) := by decide +kernel
theorem dX1_wordHangsOn_26 : decode cX1_wordHangsOn 26 = .ok (.invokevirtual 37, 3) := by decide +kernel
theorem dX1_wordHangsOn_29 : decode cX1_wordHangsOn 29 = .ok (.lcmp, 1) := by decide +kernel
theorem dX1_wordHangsOn_30 : decode cX1_wordHangsOn 30 = .ok (.ifCond .eq 7, 3) := by decide +kernel
theorem dX1_wordHangsOn_33 : decode cX1_wordHangsOn 33 = .ok (.iconst 1, 1) := by decide +kernel
theorem dX1_wordHangsOn_34 : decode cX1_wordHangsOn 34 = .ok (.goto 4, 3) := by decide +kernel
theorem dX1_wordHangsOn_37 : decode cX1_wordHangsOn 37 = .ok (.iconst 0, 1) := by decide +kernel
theorem dX1_wordHangsOn_38 : decode cX1_wordHangsOn 38 = .ok (.ireturn, 1) := by decide +kernel
theorem dX1_wordHangsOn_39 : decode cX1_wordHangsOn 39 = .ok (.lload 4, 2) := by decide +kernel
theorem dX1_wordHangsOn_41 : decode cX1_wordHangsOn 41 = .ok (.iconst 1, 1) := by decide +kernel
theorem dX1_wordHangsOn_42 : decode cX1_wordHangsOn 42 = .ok (.iload_n 2, 1) := by decide +kernel
theorem dX1_wordHangsOn_43 : decode cX1_wordHangsOn 43 = .ok (.ishl, 1) := by decide +kernel
theorem dX1_wordHangsOn_44 : decode cX1_wordHangsOn 44 = .ok (.lushr, 1) := by decide +kernel
theorem dX1_wordHangsOn_45 : decode cX1_wordHangsOn 45 = .ok (.lstore 6, 2) := by decide +kernel
theorem dX1_wordHangsOn_47 : decode cX1_wordHangsOn 47 = .ok (.lload 4, 2) := by decide +kernel
theorem dX1_wordHangsOn_49 : decode cX1_wordHangsOn 49 = .ok (.lload 6, 2) := by decide +kernel
theorem dX1_wordHangsOn_51 : decode cX1_wordHangsOn 51 = .ok (.lxor, 1) := by decide +kernel
theorem dX1_wordHangsOn_52 : decode cX1_wordHangsOn 52 = .ok (.getstatic 85, 3) := by decide +kernel
theorem dX1_wordHangsOn_55 : decode cX1_wordHangsOn 55 = .ok (.iload_n 2, 1) := by decide +kernel
theorem dX1_wordHangsOn_56 : decode cX1_wordHangsOn 56 = .ok (.laload, 1) := by decide +kernel
theorem dX1_wordHangsOn_57 : decode cX1_wordHangsOn 57 = .ok (.ldc2_w 88, 3) := by decide +kernel
theorem dX1_wordHangsOn_60 : decode cX1_wordHangsOn 60 = .ok (.lxor, 1) := by decide +kernel
theorem dX1_wordHangsOn_61 : decode cX1_wordHangsOn 61 = .ok (.land, 1) := by decide +kernel
theorem dX1_wordHangsOn_62 : decode cX1_wordHangsOn 62 = .ok (.lconst 0, 1) := by decide +kernel
theorem dX1_wordHangsOn_63 : decode cX1_wordHangsOn 63 = .ok (.lcmp, 1) := by decide +kernel
theorem dX1_wordHangsOn_64 : decode cX1_wordHangsOn 64 = .ok (.ifCond .eq 7, 3) := by decide +kernel
theorem dX1_wordHangsOn_67 : decode cX1_wordHangsOn 67 = .ok (.iconst 1, 1) := by decide +kernel
theorem dX1_wordHangsOn_68 : decode cX1_wordHangsOn 68 = .ok (.goto 4, 3) := by decide +kernel
theorem dX1_wordHangsOn_71 : decode cX1_wordHangsOn 71 = .ok (.iconst 0, 1) := by decide +kernel
theorem dX1_wordHangsOn_72 : decode cX1_wordHangsOn 72 = .ok (.ireturn, 1) := by decide +kernel
theorem dX1_wordOf_0 : decode cX1_wordOf 0 = .ok (.aload_n 0, 1) := by decide +kernel
theorem dX1_wordOf_1 : decode cX1_wordOf 1 = .ok (.getfield 22, 3) := by decide +kernel
theorem dX1_wordOf_4 : decode cX1_wordOf 4 = .ok (.iload_n 1, 1) := by decide +kernel
theorem dX1_wordOf_5 : decode cX1_wordOf 5 = .ok (.iconst 1, 1) := by decide +kernel
theorem dX1_wordOf_6 : decode cX1_wordOf 6 = .ok (.ishr, 1) := by decide +kernel
theorem dX1_wordOf_7 : decode cX1_wordOf 7 = .ok (.bipush 64, 2) := by decide +kernel
theorem dX1_wordOf_9 : decode cX1_wordOf 9 = .ok (.imul, 1) := by decide +kernel
theorem dX1_wordOf_10 : decode cX1_wordOf 10 = .ok (.iload_n 2, 1) := by decide +kernel
theorem dX1_wordOf_11 : decode cX1_wordOf 11 = .ok (.iadd, 1) := by decide +kernel
theorem dX1_wordOf_12 : decode cX1_wordOf 12 = .ok (.laload, 1) := by decide +kernel
theorem dX1_wordOf_13 : decode cX1_wordOf 13 = .ok (.lstore_n 3, 1) := by decide +kernel
theorem dX1_wordOf_14 : decode cX1_wordOf 14 = .ok (.iload_n 1, 1) := by decide +kernel
theorem dX1_wordOf_15 : decode cX1_wordOf 15 = .ok (.iconst 1, 1) := by decide +kernel
theorem dX1_wordOf_16 : decode cX1_wordOf 16 = .ok (.iand, 1) := by decide +kernel
theorem dX1_wordOf_17 : decode cX1_wordOf 17 = .ok (.iconst 1, 1) := by decide +kernel
theorem dX1_wordOf_18 : decode cX1_wordOf 18 = .ok (.if_icmp .ne 11, 3) := by decide +kernel
theorem dX1_wordOf_21 : decode cX1_wordOf 21 = .ok (.lload_n 3, 1) := by decide +kernel
theorem dX1_wordOf_22 : decode cX1_wordOf 22 = .ok (.ldc2_w 88, 3) := by decide +kernel
theorem dX1_wordOf_25 : decode cX1_wordOf 25 = .ok (.lxor, 1) := by decide +kernel
theorem dX1_wordOf_26 : decode cX1_wordOf 26 = .ok (.goto 4, 3) := by decide +kernel
theorem dX1_wordOf_29 : decode cX1_wordOf 29 = .ok (.lload_n 3, 1) := by decide +kernel
theorem dX1_wordOf_30 : decode cX1_wordOf 30 = .ok (.lreturn, 1) := by decide +kernel
theorem dX1_variableWord_0 : decode cX1_variableWord 0 = .ok (.iload_n 0, 1) := by decide +kernel
theorem dX1_variableWord_1 : decode cX1_variableWord 1 = .ok (.bipush 6, 2) := by decide +kernel
theorem dX1_variableWord_3 : decode cX1_variableWord 3 = .ok (.if_icmp .ge 9, 3) := by decide +kernel
theorem dX1_variableWord_6 : decode cX1_variableWord 6 = .ok (.getstatic 85, 3) := by decide +kernel
theorem dX1_variableWord_9 : decode cX1_variableWord 9 = .ok (.iload_n 0, 1) := by decide +kernel
theorem dX1_variableWord_10 : decode cX1_variableWord 10 = .ok (.laload, 1) := by decide +kernel
theorem dX1_variableWord_11 : decode cX1_variableWord 11 = .ok (.lreturn, 1) := by decide +kernel
theorem dX1_variableWord_12 : decode cX1_variableWord 12 = .ok (.iload_n 1, 1) := by decide +kernel
theorem dX1_variableWord_13 : decode cX1_variableWord 13 = .ok (.iload_n 0, 1) := by decide +kernel
theorem dX1_variableWord_14 : decode cX1_variableWord 14 = .ok (.bipush 6, 2) := by decide +kernel
theorem dX1_variableWord_16 : decode cX1_variableWord 16 = .ok (.isub, 1) := by decide +kernel
theorem dX1_variableWord_17 : decode cX1_variableWord 17 = .ok (.ishr, 1) := by decide +kernel
theorem dX1_variableWord_18 : decode cX1_variableWord 18 = .ok (.iconst 1, 1) := by decide +kernel
theorem dX1_variableWord_19 : decode cX1_variableWord 19 = .ok (.iand, 1) := by decide +kernel
theorem dX1_variableWord_20 : decode cX1_variableWord 20 = .ok (.iconst 1, 1) := by decide +kernel
theorem dX1_variableWord_21 : decode cX1_variableWord 21 = .ok (.if_icmp .ne 9, 3) := by decide +kernel
theorem dX1_variableWord_24 : decode cX1_variableWord 24 = .ok (.ldc2_w 88, 3) := by decide +kernel
theorem dX1_variableWord_27 : decode cX1_variableWord 27 = .ok (.goto 4, 3) := by decide +kernel
theorem dX1_variableWord_30 : decode cX1_variableWord 30 = .ok (.lconst 0, 1) := by decide +kernel
theorem dX1_variableWord_31 : decode cX1_variableWord 31 = .ok (.lreturn, 1) := by decide +kernel
set_option maxRecDepth 20000 in
theorem ggX1_addVariable_X1_growRows : GoodIn wsX1_addVariable wsX1_growRows := goodIn_r _ [7, 1, 2, 8, 9, 10, 11, 12, 13, 14, 15, 16, 17, 18, 19, 20, 21, 22, 23, 24, 25, 26, 27, 64, 65, 66, 67] (by decide +kernel) (by decide +kernel)
set_option maxRecDepth 20000 in
theorem gX1_addVariable_X1_growRows : GoodIn wsX1_addVariable (wsV RX1 26 RX1 yX1_growRows wsX1_growRows) := goodIn_app (goodIn_of _ (by decide +kernel)) ggX1_addVariable_X1_growRows
set_option maxRecDepth 20000 in
theorem ggX1_addVariable_X1_variableWord : GoodIn wsX1_addVariable wsX1_variableWord := goodIn_r _ [30, 31, 32] (by decide +kernel) (by decide +kernel)
set_option maxRecDepth 20000 in
theorem gX1_addVariable_X1_variableWord : GoodIn wsX1_addVariable (va_wsS RX1 29 yX1_variableWord wsX1_variableWord) := goodIn_app (goodIn_of _ (by decide +kernel)) ggX1_addVariable_X1_variableWord
set_option maxRecDepth 20000 in
theorem ggX1_addVariable_X1_settle : GoodIn wsX1_addVariable wsX1_settle := goodIn_r _ [36, 1, 37, 38, 39, 40, 41, 6, 42, 43, 44, 45, 46, 47, 48, 49, 50, 2, 32, 51, 52, 53, 54, 55, 56, 57, 58, 59, 60, 61, 62, 63, 64, 65, 66, 67] (by decide +kernel) (by decide +kernel)
set_option maxRecDepth 20000 in
theorem gX1_addVariable_X1_settle : GoodIn wsX1_addVariable (wsV RX1 33 RX1 yX1_settle wsX1_settle) := goodIn_app (goodIn_of _ (by decide +kernel)) ggX1_addVariable_X1_settle
set_option maxRecDepth 20000 in
theorem ggX1_addAnd_X1_growRows : GoodIn wsX1_addAnd wsX1_growRows := goodIn_r _ [7, 1, 2, 8, 9, 10, 11, 12, 13, 14, 15, 16, 17, 18, 19, 20, 21, 22, 23, 24, 25, 26, 27, 60, 61, 62, 63] (by decide +kernel) (by decide +kernel)
set_option maxRecDepth 20000 in
theorem gX1_addAnd_X1_growRows : GoodIn wsX1_addAnd (wsV RX1 26 RX1 yX1_growRows wsX1_growRows) := goodIn_app (goodIn_of _ (by decide +kernel)) ggX1_addAnd_X1_growRows
set_option maxRecDepth 20000 in
theorem ggX1_addAnd_X1_wordOf : GoodIn wsX1_addAnd wsX1_wordOf := goodIn_r _ [31, 2, 32, 60, 61, 62, 63] (by decide +kernel) (by decide +kernel)
set_option maxRecDepth 20000 in
theorem gX1_addAnd_X1_wordOf : GoodIn wsX1_addAnd (wsV RX1 37 RX1 yX1_wordOf wsX1_wordOf) := goodIn_app (goodIn_of _ (by decide +kernel)) ggX1_addAnd_X1_wordOf
set_option maxRecDepth 20000 in
theorem ggX1_addAnd_X1_settle : GoodIn wsX1_addAnd wsX1_settle := goodIn_r _ [36, 1, 37, 38, 39, 40, 41, 6, 42, 43, 44, 45, 46, 28, 29, 30, 31, 2, 32, 47, 48, 49, 50, 51, 52, 53, 54, 55, 56, 57, 58, 59, 60, 61, 62, 63] (by decide +kernel) (by decide +kernel)
set_option maxRecDepth 20000 in
theorem gX1_addAnd_X1_settle : GoodIn wsX1_addAnd (wsV RX1 33 RX1 yX1_settle wsX1_settle) := goodIn_app (goodIn_of _ (by decide +kernel)) ggX1_addAnd_X1_settle
set_option maxRecDepth 20000 in
theorem ggX1_areSame_X1_firstOf : GoodIn wsX1_areSame wsX1_firstOf := goodIn_r _ [5, 6, 7, 8, 9, 10] (by decide +kernel) (by decide +kernel)
set_option maxRecDepth 20000 in
theorem gX1_areSame_X1_firstOf : GoodIn wsX1_areSame (wsV RX1 40 RX1 yX1_firstOf wsX1_firstOf) := goodIn_app (goodIn_of _ (by decide +kernel)) ggX1_areSame_X1_firstOf
set_option maxRecDepth 20000 in
theorem ggX1_countClasses_X1_isLeast : GoodIn wsX1_countClasses wsX1_isLeast := goodIn_r _ [6, 7, 8, 9, 10, 11] (by decide +kernel) (by decide +kernel)
set_option maxRecDepth 20000 in
theorem gX1_countClasses_X1_isLeast : GoodIn wsX1_countClasses (wsV RX1 43 RX1 yX1_isLeast wsX1_isLeast) := goodIn_app (goodIn_of _ (by decide +kernel)) ggX1_countClasses_X1_isLeast
set_option maxRecDepth 20000 in
theorem ggX1_countMerged_X1_isLeast : GoodIn wsX1_countMerged wsX1_isLeast := goodIn_r _ [7, 8, 9, 10, 11, 12] (by decide +kernel) (by decide +kernel)
set_option maxRecDepth 20000 in
theorem gX1_countMerged_X1_isLeast : GoodIn wsX1_countMerged (wsV RX1 43 RX1 yX1_isLeast wsX1_isLeast) := goodIn_app (goodIn_of _ (by decide +kernel)) ggX1_countMerged_X1_isLeast
set_option maxRecDepth 20000 in
theorem ggX1_countOnes_X1_wordOf : GoodIn wsX1_countOnes wsX1_wordOf := goodIn_r _ [5, 6, 7, 15, 16, 17, 18] (by decide +kernel) (by decide +kernel)
set_option maxRecDepth 20000 in
theorem gX1_countOnes_X1_wordOf : GoodIn wsX1_countOnes (wsV RX1 37 RX1 yX1_wordOf wsX1_wordOf) := goodIn_app (goodIn_of _ (by decide +kernel)) ggX1_countOnes_X1_wordOf
set_option maxRecDepth 20000 in
theorem ggX1_countOnes_J13_bitCount_95d88 : GoodIn wsX1_countOnes wsJ13_bitCount_95d88 := goodIn_r _ [11, 12, 13, 14] (by decide +kernel) (by decide +kernel)
set_option maxRecDepth 20000 in
theorem gX1_countOnes_J13_bitCount_95d88 : GoodIn wsX1_countOnes (va_wsS RX1 47 yJ13_bitCount_95d88 wsJ13_bitCount_95d88) := goodIn_app (goodIn_of _ (by decide +kernel)) ggX1_countOnes_J13_bitCount_95d88
set_option maxRecDepth 20000 in
theorem ggX1_valueIn_X1_wordOf : GoodIn wsX1_valueIn wsX1_wordOf := goodIn_r _ [5, 6, 7, 8, 9, 10, 11] (by decide +kernel) (by decide +kernel)
set_option maxRecDepth 20000 in
theorem gX1_valueIn_X1_wordOf : GoodIn wsX1_valueIn (wsV RX1 37 RX1 yX1_wordOf wsX1_wordOf) := goodIn_app (goodIn_of _ (by decide +kernel)) ggX1_valueIn_X1_wordOf
set_option maxRecDepth 20000 in
theorem ggX1_supportOf_X1_hangsOn : GoodIn wsX1_supportOf wsX1_hangsOn := goodIn_r _ [5, 6, 7, 8, 4, 9, 10, 11, 12, 13, 14, 15, 16, 17, 18, 19, 20] (by decide +kernel) (by decide +kernel)
set_option maxRecDepth 20000 in
theorem gX1_supportOf_X1_hangsOn : GoodIn wsX1_supportOf (wsV RX1 53 RX1 yX1_hangsOn wsX1_hangsOn) := goodIn_app (goodIn_of _ (by decide +kernel)) ggX1_supportOf_X1_hangsOn
set_option maxRecDepth 20000 in
theorem ggX1_leastDifference_X1_wordOf : GoodIn wsX1_leastDifference wsX1_wordOf := goodIn_r _ [5, 6, 7, 17, 18, 19, 20] (by decide +kernel) (by decide +kernel)
set_option maxRecDepth 20000 in
theorem gX1_leastDifference_X1_wordOf : GoodIn wsX1_leastDifference (wsV RX1 37 RX1 yX1_wordOf wsX1_wordOf) := goodIn_app (goodIn_of _ (by decide +kernel)) ggX1_leastDifference_X1_wordOf
set_option maxRecDepth 20000 in
theorem ggX1_leastDifference_J13_numberOfTrailingZeros_95d88 : GoodIn wsX1_leastDifference wsJ13_numberOfTrailingZeros_95d88 := goodIn_r _ [11, 12, 13, 14, 15, 16] (by decide +kernel) (by decide +kernel)
set_option maxRecDepth 20000 in
theorem gX1_leastDifference_J13_numberOfTrailingZeros_95d88 : GoodIn wsX1_leastDifference (va_wsS RX1 57 yJ13_numberOfTrailingZeros_95d88 wsJ13_numberOfTrailingZeros_95d88) := goodIn_app (goodIn_of _ (by decide +kernel)) ggX1_leastDifference_J13_numberOfTrailingZeros_95d88
set_option maxRecDepth 20000 in
theorem ggX1_growRows_J7_copyOf_c38d5 : GoodIn wsX1_growRows wsJ7_copyOf_c38d5 := goodIn_r _ [10, 11, 12, 13, 14, 15, 16, 17, 18, 4, 5, 6, 19, 20, 21, 22] (by decide +kernel) (by decide +kernel)
set_option maxRecDepth 20000 in
theorem gX1_growRows_J7_copyOf_c38d5 : GoodIn wsX1_growRows (va_wsS RX1 66 yJ7_copyOf_c38d5 wsJ7_copyOf_c38d5) := goodIn_app (goodIn_of _ (by decide +kernel)) ggX1_growRows_J7_copyOf_c38d5
set_option maxRecDepth 20000 in
theorem ggX1_settle_X1_findFirst : GoodIn wsX1_settle wsX1_findFirst := goodIn_r _ [8, 9, 10, 11, 7, 12, 13, 14, 15, 16, 17, 18, 19, 20, 21, 22, 23, 24, 25, 26, 27, 28, 29, 30, 31, 32, 33, 34, 35] (by decide +kernel) (by decide +kernel)
set_option maxRecDepth 20000 in
theorem gX1_settle_X1_findFirst : GoodIn wsX1_settle (wsV RX1 72 RX1 yX1_findFirst wsX1_findFirst) := goodIn_app (goodIn_of _ (by decide +kernel)) ggX1_settle_X1_findFirst
set_option maxRecDepth 20000 in
theorem ggX1_findFirst_X1_valueIn : GoodIn wsX1_findFirst wsX1_valueIn := goodIn_r _ [5, 6, 7, 8, 4, 9, 10, 11, 25, 26, 27, 28] (by decide +kernel) (by decide +kernel)
set_option maxRecDepth 20000 in
theorem gX1_findFirst_X1_valueIn : GoodIn wsX1_findFirst (wsV RX1 75 RX1 yX1_valueIn wsX1_valueIn) := goodIn_app (goodIn_of _ (by decide +kernel)) ggX1_findFirst_X1_valueIn
set_option maxRecDepth 20000 in
theorem ggX1_findFirst_X1_leastDifference : GoodIn wsX1_findFirst wsX1_leastDifference := goodIn_r _ [15, 6, 7, 8, 4, 9, 10, 11, 16, 17, 18, 19, 20, 21, 22, 23, 24, 25, 26, 27, 28] (by decide +kernel) (by decide +kernel)
set_option maxRecDepth 20000 in
theorem gX1_findFirst_X1_leastDifference : GoodIn wsX1_findFirst (wsV RX1 78 RX1 yX1_leastDifference wsX1_leastDifference) := goodIn_app (goodIn_of _ (by decide +kernel)) ggX1_findFirst_X1_leastDifference
set_option maxRecDepth 20000 in
theorem ggX1_hangsOn_X1_wordHangsOn : GoodIn wsX1_hangsOn wsX1_wordHangsOn := goodIn_r _ [5, 6, 7, 8, 9, 10, 4, 11, 12, 13, 14, 15, 16] (by decide +kernel) (by decide +kernel)
set_option maxRecDepth 20000 in
theorem gX1_hangsOn_X1_wordHangsOn : GoodIn wsX1_hangsOn (wsV RX1 81 RX1 yX1_wordHangsOn wsX1_wordHangsOn) := goodIn_app (goodIn_of _ (by decide +kernel)) ggX1_hangsOn_X1_wordHangsOn
set_option maxRecDepth 20000 in
theorem ggX1_wordHangsOn_X1_wordOf : GoodIn wsX1_wordHangsOn wsX1_wordOf := goodIn_r _ [7, 8, 2, 9, 10, 11, 12] (by decide +kernel) (by decide +kernel)
set_option maxRecDepth 20000 in
theorem gX1_wordHangsOn_X1_wordOf : GoodIn wsX1_wordHangsOn (wsV RX1 37 RX1 yX1_wordOf wsX1_wordOf) := goodIn_app (goodIn_of _ (by decide +kernel)) ggX1_wordHangsOn_X1_wordOf
end
section
/-! Rows of one's own: the top of the stack renamed; readers (methods that write nothing), their starts, calls and ends. -/
section BB
variable {p : Program} {l : Launch} {e : Env} {R : Room} {s : State} {m : MethodId} {args : Array Value} {below : List Frame} {meth : Method} {c : Code} {H : Heap} {locs : List Loc} {cells slots : Nat} {Q : State → Prop}
variable {cc : ByteArray} {pc : Nat} {ls : Array Slot} {rest : List Value}
theorem tp_i {x y : Int32} (h : x = y) (k : W p l e R s m args below meth c H locs cells slots Q (F0 m pc ls (.int y :: rest))) : W p l e R s m args below meth c H locs cells slots Q (F0 m pc ls (.int x :: rest)) := by rw [h]; exact k
theorem tp_l {x y : Int64} (h : x = y) (k : W p l e R s m args below meth c H locs cells slots Q (F0 m pc ls (.long y :: rest))) : W p l e R s m args below meth c H locs cells slots Q (F0 m pc ls (.long x :: rest)) := by rw [h]; exact k
theorem tp_v {x y : Value} (h : x = y) (k : W p l e R s m args below meth c H locs cells slots Q (F0 m pc ls (y :: rest))) : W p l e R s m args below meth c H locs cells slots Q (F0 m pc ls (x :: rest)) := by rw [h]; exact k
/-- a reader's start: the world and the tables -/
abbrev rd_P (D : va_G) (tys : List (ClassId × FieldType)) (ww : va_W) (av : List Value) : Array Value → State → Prop := va_Pc av (fun U => va_P D vwCl ww U.heap ∧ va_K D vwCl tys U)
theorem rd_blind {D : va_G} {tys : List (ClassId × FieldType)} {ww : va_W} {av : List Value} : FrameBlind (rd_P D tys ww av) := fun a U g mk q => ⟨q.1, q.2.1, va_K.moved (u := U) (U := U.calling g mk a) (Vm.Alike.refl U.vm) q.2.2⟩
theorem rd_pv {D : va_G} {tys : List (ClassId × FieldType)} {ww : va_W} {q0 ci : Nat} {q : vw_C} {fs : List Value} {b : Nat} {As : List Value} (hK : va_K D vwCl tys s) (hP : va_P D vwCl ww H) (hc : vwCl[ci]? = some q) (he : ww[q0]? = some (b, .inr (ci, fs))) : PreV s H q.1 b (rd_P D tys ww (.ref b :: As)) As :=
  ⟨rd_blind, va_recv hK hP hc he, fun U hU hW => ⟨rfl, by rw [hU]; exact hP, va_K.moved hW.alike hK⟩⟩
theorem rd_ps {D : va_G} {tys : List (ClassId × FieldType)} {ww : va_W} {As : List Value} (hK : va_K D vwCl tys s) (hP : va_P D vwCl ww H) : PreS s H (rd_P D tys ww As) As :=
  ⟨rd_blind, fun U hU hW => ⟨rfl, by rw [hU]; exact hP, va_K.moved hW.alike hK⟩⟩
section Calls
variable {y : MethodName} {bytes : ByteArray} {maxL nL n index : Nat} {ret : Option FieldType} {ws : List Cond} {rm : Room} {Pc : Array Value → State → Prop} {Ts : List Cond} {own C : String} {b : Addr} {As st0 : List Value} {r : Value}
/-- a reader is called on an object -/
theorem rd_V (S : CallFix p m c cc nL s args Ts own) (hM : Met l y ws rm Pc (k2_QcV r) 0 0 (fun _ => False)) (cw : CallW R s args own C index y bytes maxL ret ws rm 0 0 n) (hp : PreV s H C b Pc As)
    (hn : As.length = n) (hsize : ls.size = nL) (hstack : st0 = As.reverse ++ .ref b :: rest) (hW : (rest.map fun v => v.category).sum ≤ 8) (hdg : decode cc pc = .ok (.invokevirtual index, 3)) (hf : cells ≤ R.cells ∧ slots ≤ R.slots)
    (kk : W p l e R s m args below meth c H locs cells slots Q (F0 m (pc + 3) ls (r :: rest))) : W p l e R s m args below meth c H locs cells slots Q (F0 m pc ls st0) :=
  W.callV (W.runV (g := F0 m pc ls st0) S hM cw hp rfl hn hsize hstack (lv_room hW) hdg hf) kk
/-- a static reader is called -/
theorem rd_S (S : CallFix p m c cc nL s args Ts own) (hM : Met l y ws rm Pc (k2_QcV r) 0 0 (fun _ => False)) (cw : CallB R s args own index y bytes maxL ret ws rm 0 0 n ∧ (Cond.static y).before args s = true) (hp : PreS s H Pc As)
    (hn : As.length = n) (hsize : ls.size = nL) (hstack : st0 = As.reverse ++ rest) (hW : (rest.map fun v => v.category).sum ≤ 8) (hdg : decode cc pc = .ok (.invokestatic index, 3)) (hf : cells ≤ R.cells ∧ slots ≤ R.slots)
    (kk : W p l e R s m args below meth c H locs cells slots Q (F0 m (pc + 3) ls (r :: rest))) : W p l e R s m args below meth c H locs cells slots Q (F0 m pc ls st0) :=
  W.callV (W.runS (g := F0 m pc ls st0) S hM cw hp rfl hn hsize hstack (lv_room hW) hdg hf) kk
end Calls
/-- a reader's ends -/
theorem rd_i {v w : Int32} (hx : p.tables.exec = Jvm.exec) (hb : c.code = cc) (hr : meth.sig.returnType = some .int) (hlocks : meth.locks = false) (hdg : decode cc pc = .ok (.ireturn, 1)) (h : v = w) : W p l e R s m args below meth c s.heap [] 0 0 (MQ below (k2_QcV (.int w)) args s 0 0 (fun _ => False)) (F0 m pc ls [.int v]) := by
  rw [h]
  exact W.iret hx hb hr (fun t ht _ => ⟨rfl, ht⟩) (fun q h => absurd h List.not_mem_nil) hdg hlocks
theorem rd_z {v w : Int32} (hx : p.tables.exec = Jvm.exec) (hb : c.code = cc) (hr : meth.sig.returnType = some .boolean) (hlocks : meth.locks = false) (hdg : decode cc pc = .ok (.ireturn, 1)) (h : v = w) (h01 : w = 0 ∨ w = 1) : W p l e R s m args below meth c s.heap [] 0 0 (MQ below (k2_QcV (.int w)) args s 0 0 (fun _ => False)) (F0 m pc ls [.int v]) := by
  rw [h]
  exact W.zret hx hb hr (by rcases h01 with h | h <;> rw [h] <;> rfl) (fun t ht _ => ⟨rfl, ht⟩) (fun q h => absurd h List.not_mem_nil) hdg hlocks
theorem rd_l {v w : Int64} (hx : p.tables.exec = Jvm.exec) (hb : c.code = cc) (hr : meth.sig.returnType = some .long) (hlocks : meth.locks = false) (hdg : decode cc pc = .ok (.lreturn, 1)) (h : v = w) : W p l e R s m args below meth c s.heap [] 0 0 (MQ below (k2_QcV (.long w)) args s 0 0 (fun _ => False)) (F0 m pc ls [.long v]) := by
  rw [h]
  exact W.lret hx hb hr (fun t ht _ => ⟨rfl, ht⟩) (fun q h => absurd h List.not_mem_nil) hdg hlocks
end BB
/-- shift counts by a number -/
theorem sh_c : ∀ n, n < 32 → ((nI n &&& 31).toBitVec.smod 32).toNat = n := by decide +kernel
theorem n_shr {a k : Nat} (h : a < 2 ^ 31) (hk : k < 32) : nI a >>> (nI k &&& 31) = nI (a / 2 ^ k) := pk_shrN h _ k (sh_c k hk)
theorem n_shl {a k : Nat} (hk : k < 32) (h : a * 2 ^ k < 2 ^ 32) : nI a <<< (nI k &&& 31) = nI (a * 2 ^ k) := pk_shlN _ k (sh_c k hk) h
theorem n_and1 {a : Nat} (h : a < 2 ^ 31) : nI a &&& nI 1 = nI (a % 2) := pk_andN (by omega) 1 (by decide)
theorem n_m1 : nI 1 - 1 = 0 := by decide
/-- Java's % on numbers -/
theorem n_rem {a d : Nat} (ha : a < 2 ^ 31) (h0 : 0 < d) (hd : d < 2 ^ 31) : nI a - nI a / nI d * nI d = nI (a % d) := pk_rem ha h0 hd
theorem n_ne {a b : Nat} (ha : a < 2 ^ 31) (hb : b < 2 ^ 31) : (¬ nI a = nI b) ↔ a ≠ b := by rw [nI_eq ha hb]
/-- a Boolean as Java's number -/
def zI (b : Bool) : Int32 := if b then 1 else 0
theorem zI_01 (b : Bool) : zI b = 0 ∨ zI b = 1 := by cases b <;> simp [zI]
theorem zI_1 : zI true = 1 := rfl
theorem zI_0 : zI false = 0 := rfl
theorem zI_eq0 {b : Bool} : zI b = 0 ↔ b = false := by cases b <;> decide
theorem lg_cmp0 {x y : Int64} : lg_cmp x y = 0 ↔ x = y := by
  unfold lg_cmp
  constructor
  · intro h
    by_cases h1 : y < x
    · rw [if_pos h1] at h; exact absurd h (by decide)
    · rw [if_neg h1] at h
      by_cases h2 : x = y
      · exact h2
      · rw [if_neg h2] at h; exact absurd h (by decide)
  · intro h
    subst h
    simp
end
section
/-! The words of Nodes: its cells, a literal's words and bits, counts. -/
/-- Nodes and its three arrays -/
abbrev nW (hn ow fi ro : Nat) (cI cJ : ClassId) (cnt len : Nat) (fo ff : Nat → Int32) (fr : Nat → Int64) : va_W :=
  [(hn, .inr (1, [.int (nI cnt), .ref ow, .ref fi, .ref ro])), (ow, .inl (cI, 400, .inl fo)), (fi, .inl (cI, 400, .inl ff)), (ro, .inl (cJ, len, .inr (.inl fr)))]
/-- word w of a literal -/
def wd (fr : Nat → Int64) (lit w : Nat) : Int64 := if lit % 2 = 1 then fr (lit / 2 * 64 + w) ^^^ (-1) else fr (lit / 2 * 64 + w)
/-- the value of a literal in assignment k -/
def bt (fr : Nat → Int64) (lit k : Nat) : Bool := (wd fr lit (k / 64)).toBitVec.getLsbD (k % 64)
/-- the first of a literal, as the table of firsts has it -/
def fs1 (ff : Nat → Int32) (lit : Nat) : Int32 := ff (lit / 2) ^^^ nI (lit % 2)
/-- how many of the first k nodes are ANDs of a side -/
def cAnd (fo : Nat → Int32) (sd : Int32) : Nat → Nat
  | 0 => 0
  | k + 1 => cAnd fo sd k + if fo k = sd then 1 else 0
/-- how many of the first k nodes are the least of their class -/
def cCls (ff : Nat → Int32) : Nat → Nat
  | 0 => 0
  | k + 1 => cCls ff k + if ff k = nI (2 * k) then 1 else 0
/-- how many of the first k nodes are ANDs of a side and not the least -/
def cMer (fo ff : Nat → Int32) (sd : Int32) : Nat → Nat
  | 0 => 0
  | k + 1 => cMer fo ff sd k + if fo k = sd ∧ ¬ ff k = nI (2 * k) then 1 else 0
theorem cAnd_le (fo : Nat → Int32) (sd : Int32) : ∀ k, cAnd fo sd k ≤ k
  | 0 => Nat.le_refl 0
  | k + 1 => by have := cAnd_le fo sd k; unfold cAnd; split <;> omega
theorem cCls_le (ff : Nat → Int32) : ∀ k, cCls ff k ≤ k
  | 0 => Nat.le_refl 0
  | k + 1 => by have := cCls_le ff k; unfold cCls; split <;> omega
theorem cMer_le (fo ff : Nat → Int32) (sd : Int32) : ∀ k, cMer fo ff sd k ≤ k
  | 0 => Nat.le_refl 0
  | k + 1 => by have := cMer_le fo ff sd k; unfold cMer; split <;> omega
theorem nI_one : nI 1 = 1 := rfl
theorem nI_zero : nI 0 = 0 := rfl
/-- the bit j of a word, as Java takes it -/
theorem bit_l (x : Int64) {j : Nat} (hj : j < 64) : (x.toUInt64 >>> ((nI j).toInt64.toUInt64 &&& Int64.toUInt64 63)).toInt64.toInt32 &&& nI 1 = zI (x.toBitVec.getLsbD j) := by
  have key : ∀ j, j < 64 → (((nI j).toInt64.toUInt64 &&& Int64.toUInt64 63).toBitVec % 64#64).toNat = j := by decide +kernel
  have hz : ∀ y : Int32, y &&& 1 = zI (y.toBitVec.getLsbD 0) := by
    intro y
    have h1 : (y &&& 1).toBitVec = (zI (y.toBitVec.getLsbD 0)).toBitVec := by
      apply BitVec.eq_of_getLsbD_eq
      intro i hi
      have e1 : (y &&& 1).toBitVec = y.toBitVec &&& 1#32 := rfl
      rw [e1, BitVec.getLsbD_and]
      cases h : y.toBitVec.getLsbD 0
      · have : (zI false).toBitVec = 0#32 := rfl
        rw [this]
        by_cases h0 : i = 0
        · subst h0; rw [h]; rfl
        · simp [h0, BitVec.getLsbD_one]
      · have : (zI true).toBitVec = 1#32 := rfl
        rw [this]
        by_cases h0 : i = 0
        · subst h0; rw [h]; rfl
        · simp [h0, BitVec.getLsbD_one]
    exact Int32.toBitVec_inj.mp h1
  rw [nI_one, hz]
  congr 1
  show ((x.toUInt64 >>> ((nI j).toInt64.toUInt64 &&& Int64.toUInt64 63)).toBitVec.signExtend 32).getLsbD 0 = _
  rw [show ((x.toUInt64 >>> ((nI j).toInt64.toUInt64 &&& Int64.toUInt64 63)).toBitVec) = x.toBitVec >>> (((nI j).toInt64.toUInt64 &&& Int64.toUInt64 63).toBitVec % 64#64).toNat from rfl, key j hj]
  rw [BitVec.getLsbD_signExtend, BitVec.getLsbD_ushiftRight]
  simp
end
section
/-! Readers of Nodes: contracts. -/
section RN
variable (l : Launch) (D : va_G) (cI cJ : ClassId) (hn ow fi ro cnt len : Nat) (fo ff : Nat → Int32) (fr : Nat → Int64)
set_option maxHeartbeats 4000000 in
set_option maxRecDepth 100000 in
/-- word w of a literal -/
theorem c_X1_wordOf (lit w : Nat) (h1 : lit / 2 * 64 + w < len) (h2 : len ≤ 25600) : Met l yX1_wordOf wsX1_wordOf { frames := 0, cells := 0, slots := 0, locals := 0 } (rd_P D [(cI, .int), (cJ, .long)] (nW hn ow fi ro cI cJ cnt len fo ff fr) [.ref hn, .int (nI lit), .int (nI w)]) (k2_QcV (.long (wd fr lit w))) 0 0 (fun _ => False) := by
  refine Met.ofW (cc := cX1_wordOf) (maxL := 5) (ret := (some .long)) (by decide) rfl ?_
  intro p e s m args below meth c s₁ B hml hv
  obtain ⟨rfl, hP, hK⟩ := hv
  have hx := B.exec
  have hb := B.bytes
  have hr := B.returns
  have hts := atoms_spec (ws := wsX1_wordOf) B.pre
  have hown : s.vm.findClass RX1 = some m.cls := findClass_of_methodNamed B.named
  have hlocks := B.notSynchronized
  have hl := lv_entry ([.ref hn, .int (nI lit), .int (nI w)]) (n := 5) (Nat.le_of_ble_eq_true rfl)
  rw [lg_entry_eq]
  generalize (lg_sl ([.ref hn, .int (nI lit), .int (nI w)]) ++ List.replicate (5 - (lg_sl ([.ref hn, .int (nI lit), .int (nI w)])).length) Slot.unset).toArray = ls at hl ⊢
  have hl : lv_has ls 5 [(0, .ref hn), (1, .int (nI lit)), (2, .int (nI w))] := hl
  have hin1 : ∀ w ∈ wsX10, w ∈ wsX1_wordOf := by decide +kernel
  have kf22 := hts (.fieldLink RX1 22 "SweepEqual$Nodes" "rows" "[J") (by decide +kernel)
  refine lv_aload_n hx hb dX1_wordOf_0 rfl (lv_at hl 0 rfl) ?_
  refine va_get (D := D) (ci := 1) (v := .ref ro) (C := RX1) (T := TX1) (N := 4) hx hb hts hin1 hown hK hP 0 rfl rfl 3 (by decide) kf22 (fun _ h9 => h9) rfl dX1_wordOf_1 ?_
  refine lv_iload_n hx hb dX1_wordOf_4 rfl (lv_at hl 1 rfl) ?_
  refine lv_iconst (v := nI 1) hx hb dX1_wordOf_5 (by decide) ?_
  refine lv_ishr hx hb dX1_wordOf_6 ?_
  refine tp_i (show (nI lit) >>> ((nI 1) &&& 31) = nI (lit / 2) from n_shr (by omega) (by omega)) ?_
  refine lv_bipush (v := nI 64) hx hb dX1_wordOf_7 (by decide) ?_
  refine lv_imul hx hb dX1_wordOf_9 ?_
  refine tp_i (show (nI (lit / 2)) * (nI 64) = nI ((lit / 2) * 64) from pk_mul _ _) ?_
  refine lv_iload_n hx hb dX1_wordOf_10 rfl (lv_at hl 2 rfl) ?_
  refine lv_iadd hx hb dX1_wordOf_11 ?_
  refine tp_i (show (nI ((lit / 2) * 64)) + (nI w) = nI ((lit / 2) * 64 + w) from nI_add _ _) ?_
  refine va_lald hx hb hK hP 3 1 rfl rfl (vp_in_nI (by omega) (by omega)) dX1_wordOf_12 ?_
  refine tp_l (show fr (nI ((lit / 2) * 64 + w)).toNatClampNeg = fr ((lit / 2) * 64 + w) from congrArg fr (nI_clamp (by omega))) ?_
  refine lv_lstore_n (lv' := [(3, .long (fr ((lit / 2) * 64 + w))), (0, .ref hn), (1, .int (nI lit)), (2, .int (nI w))]) hx hb dX1_wordOf_13 rfl hl (by decide) rfl (fun ls hl => ?_)
  refine lv_iload_n hx hb dX1_wordOf_14 rfl (lv_at hl 2 rfl) ?_
  refine lv_iconst (v := nI 1) hx hb dX1_wordOf_15 (by decide) ?_
  refine lv_iand hx hb dX1_wordOf_16 ?_
  refine tp_i (show (nI lit) &&& (nI 1) = nI (lit % 2) from n_and1 (by omega)) ?_
  refine lv_iconst (v := nI 1) hx hb dX1_wordOf_17 (by decide) ?_
  refine lv_icmp_ne (tgt := 29) hx hb dX1_wordOf_18 (by decide) (fun c1 => ?_) (fun c1 => ?_)
  · have c1 : ¬ lit % 2 = 1 := fun h => c1 ((nI_eq (by omega) (by omega)).mpr h)
    refine lv_lload_n hx hb dX1_wordOf_29 rfl (lv_at hl 0 rfl) ?_
    exact rd_l hx hb hr hlocks dX1_wordOf_30 (by simp [wd, c1])
  · have c1 : lit % 2 = 1 := (nI_eq (by omega) (by omega)).mp c1
    refine lv_lload_n hx hb dX1_wordOf_21 rfl (lv_at hl 0 rfl) ?_
    refine lv_ldc2 hx hb hown (hts (.constantLong RX1 88 (-1)) (by decide +kernel)) dX1_wordOf_22 ?_
    refine lv_lxor hx hb dX1_wordOf_25 ?_
    refine lv_goto (tgt := 30) hx hb dX1_wordOf_26 (by decide) ?_
    exact rd_l hx hb hr hlocks dX1_wordOf_30 (by simp [wd, c1])
set_option maxHeartbeats 4000000 in
set_option maxRecDepth 100000 in
/-- the first of a literal, out of the table -/
theorem c_X1_firstOf (lit : Nat) (h1 : lit / 2 < 400) : Met l yX1_firstOf wsX1_firstOf { frames := 0, cells := 0, slots := 0, locals := 0 } (rd_P D [(cI, .int), (cJ, .long)] (nW hn ow fi ro cI cJ cnt len fo ff fr) [.ref hn, .int (nI lit)]) (k2_QcV (.int (fs1 ff lit))) 0 0 (fun _ => False) := by
  refine Met.ofW (cc := cX1_firstOf) (maxL := 2) (ret := (some .int)) (by decide) rfl ?_
  intro p e s m args below meth c s₁ B hml hv
  obtain ⟨rfl, hP, hK⟩ := hv
  have hx := B.exec
  have hb := B.bytes
  have hr := B.returns
  have hts := atoms_spec (ws := wsX1_firstOf) B.pre
  have hown : s.vm.findClass RX1 = some m.cls := findClass_of_methodNamed B.named
  have hlocks := B.notSynchronized
  have hl := lv_entry ([.ref hn, .int (nI lit)]) (n := 2) (Nat.le_of_ble_eq_true rfl)
  rw [lg_entry_eq]
  generalize (lg_sl ([.ref hn, .int (nI lit)]) ++ List.replicate (2 - (lg_sl ([.ref hn, .int (nI lit)])).length) Slot.unset).toArray = ls at hl ⊢
  have hl : lv_has ls 2 [(0, .ref hn), (1, .int (nI lit))] := hl
  have hin1 : ∀ w ∈ wsX10, w ∈ wsX1_firstOf := by decide +kernel
  have kf19 := hts (.fieldLink RX1 19 "SweepEqual$Nodes" "firsts" "[I") (by decide +kernel)
  refine lv_aload_n hx hb dX1_firstOf_0 rfl (lv_at hl 0 rfl) ?_
  refine va_get (D := D) (ci := 1) (v := .ref fi) (C := RX1) (T := TX1) (N := 4) hx hb hts hin1 hown hK hP 0 rfl rfl 2 (by decide) kf19 (fun _ h9 => h9) rfl dX1_firstOf_1 ?_
  refine lv_iload_n hx hb dX1_firstOf_4 rfl (lv_at hl 1 rfl) ?_
  refine lv_iconst (v := nI 1) hx hb dX1_firstOf_5 (by decide) ?_
  refine lv_ishr hx hb dX1_firstOf_6 ?_
  refine tp_i (show (nI lit) >>> ((nI 1) &&& 31) = nI (lit / 2) from n_shr (by omega) (by omega)) ?_
  refine va_iald hx hb hK hP 2 0 rfl rfl (vp_in_nI (by omega) (by omega)) dX1_firstOf_7 ?_
  refine tp_i (show ff (nI (lit / 2)).toNatClampNeg = ff (lit / 2) from congrArg ff (nI_clamp (by omega))) ?_
  refine lv_iload_n hx hb dX1_firstOf_8 rfl (lv_at hl 1 rfl) ?_
  refine lv_iconst (v := nI 1) hx hb dX1_firstOf_9 (by decide) ?_
  refine lv_iand hx hb dX1_firstOf_10 ?_
  refine tp_i (show (nI lit) &&& (nI 1) = nI (lit % 2) from n_and1 (by omega)) ?_
  refine lv_ixor hx hb dX1_firstOf_11 ?_
  exact rd_i hx hb hr hlocks dX1_firstOf_12 (rfl)
set_option maxHeartbeats 4000000 in
set_option maxRecDepth 100000 in
/-- whether a node is its own first -/
theorem c_X1_isLeast (nd : Nat) (h1 : nd < 400) : Met l yX1_isLeast wsX1_isLeast { frames := 0, cells := 0, slots := 0, locals := 0 } (rd_P D [(cI, .int), (cJ, .long)] (nW hn ow fi ro cI cJ cnt len fo ff fr) [.ref hn, .int (nI nd)]) (k2_QcV (.int (zI (decide (ff nd = nI (2 * nd)))))) 0 0 (fun _ => False) := by
  refine Met.ofW (cc := cX1_isLeast) (maxL := 2) (ret := (some .boolean)) (by decide) rfl ?_
  intro p e s m args below meth c s₁ B hml hv
  obtain ⟨rfl, hP, hK⟩ := hv
  have hx := B.exec
  have hb := B.bytes
  have hr := B.returns
  have hts := atoms_spec (ws := wsX1_isLeast) B.pre
  have hown : s.vm.findClass RX1 = some m.cls := findClass_of_methodNamed B.named
  have hlocks := B.notSynchronized
  have hl := lv_entry ([.ref hn, .int (nI nd)]) (n := 2) (Nat.le_of_ble_eq_true rfl)
  rw [lg_entry_eq]
  generalize (lg_sl ([.ref hn, .int (nI nd)]) ++ List.replicate (2 - (lg_sl ([.ref hn, .int (nI nd)])).length) Slot.unset).toArray = ls at hl ⊢
  have hl : lv_has ls 2 [(0, .ref hn), (1, .int (nI nd))] := hl
  have hin1 : ∀ w ∈ wsX10, w ∈ wsX1_isLeast := by decide +kernel
  have kf19 := hts (.fieldLink RX1 19 "SweepEqual$Nodes" "firsts" "[I") (by decide +kernel)
  refine lv_aload_n hx hb dX1_isLeast_0 rfl (lv_at hl 0 rfl) ?_
  refine va_get (D := D) (ci := 1) (v := .ref fi) (C := RX1) (T := TX1) (N := 4) hx hb hts hin1 hown hK hP 0 rfl rfl 2 (by decide) kf19 (fun _ h9 => h9) rfl dX1_isLeast_1 ?_
  refine lv_iload_n hx hb dX1_isLeast_4 rfl (lv_at hl 1 rfl) ?_
  refine va_iald hx hb hK hP 2 0 rfl rfl (vp_in_nI (by omega) (by omega)) dX1_isLeast_5 ?_
  refine tp_i (show ff (nI nd).toNatClampNeg = ff nd from congrArg ff (nI_clamp (by omega))) ?_
  refine lv_iconst (v := nI 2) hx hb dX1_isLeast_6 (by decide) ?_
  refine lv_iload_n hx hb dX1_isLeast_7 rfl (lv_at hl 1 rfl) ?_
  refine lv_imul hx hb dX1_isLeast_8 ?_
  refine tp_i (show (nI 2) * (nI nd) = nI (2 * nd) from pk_mul _ _) ?_
  refine lv_icmp_ne (tgt := 16) hx hb dX1_isLeast_9 (by decide) (fun c1 => ?_) (fun c1 => ?_)
  · refine lv_iconst (v := nI 0) hx hb dX1_isLeast_16 (by decide) ?_
    exact rd_z hx hb hr hlocks dX1_isLeast_17 (by simp [zI, c1, nI_zero]) (zI_01 _)
  · refine lv_iconst (v := nI 1) hx hb dX1_isLeast_12 (by decide) ?_
    refine lv_goto (tgt := 17) hx hb dX1_isLeast_13 (by decide) ?_
    exact rd_z hx hb hr hlocks dX1_isLeast_17 (by simp [zI, c1, nI_one]) (zI_01 _)
set_option maxHeartbeats 4000000 in
set_option maxRecDepth 100000 in
/-- whether a literal is of an AND of the other side -/
theorem c_X1_isOfOtherSide (sd : Int32) (lit : Nat) (h1 : lit / 2 < 400) : Met l yX1_isOfOtherSide wsX1_isOfOtherSide { frames := 0, cells := 0, slots := 0, locals := 0 } (rd_P D [(cI, .int), (cJ, .long)] (nW hn ow fi ro cI cJ cnt len fo ff fr) [.ref hn, .int sd, .int (nI lit)]) (k2_QcV (.int (zI (decide (¬ fo (lit / 2) = -1 ∧ ¬ fo (lit / 2) = sd))))) 0 0 (fun _ => False) := by
  refine Met.ofW (cc := cX1_isOfOtherSide) (maxL := 4) (ret := (some .boolean)) (by decide) rfl ?_
  intro p e s m args below meth c s₁ B hml hv
  obtain ⟨rfl, hP, hK⟩ := hv
  have hx := B.exec
  have hb := B.bytes
  have hr := B.returns
  have hts := atoms_spec (ws := wsX1_isOfOtherSide) B.pre
  have hown : s.vm.findClass RX1 = some m.cls := findClass_of_methodNamed B.named
  have hlocks := B.notSynchronized
  have hl := lv_entry ([.ref hn, .int sd, .int (nI lit)]) (n := 4) (Nat.le_of_ble_eq_true rfl)
  rw [lg_entry_eq]
  generalize (lg_sl ([.ref hn, .int sd, .int (nI lit)]) ++ List.replicate (4 - (lg_sl ([.ref hn, .int sd, .int (nI lit)])).length) Slot.unset).toArray = ls at hl ⊢
  have hl : lv_has ls 4 [(0, .ref hn), (1, .int sd), (2, .int (nI lit))] := hl
  have hin1 : ∀ w ∈ wsX10, w ∈ wsX1_isOfOtherSide := by decide +kernel
  have kf15 := hts (.fieldLink RX1 15 "SweepEqual$Nodes" "owners" "[I") (by decide +kernel)
  refine lv_aload_n hx hb dX1_isOfOtherSide_0 rfl (lv_at hl 0 rfl) ?_
  refine va_get (D := D) (ci := 1) (v := .ref ow) (C := RX1) (T := TX1) (N := 4) hx hb hts hin1 hown hK hP 0 rfl rfl 1 (by decide) kf15 (fun _ h9 => h9) rfl dX1_isOfOtherSide_1 ?_
  refine lv_iload_n hx hb dX1_isOfOtherSide_4 rfl (lv_at hl 2 rfl) ?_
  refine lv_iconst (v := nI 1) hx hb dX1_isOfOtherSide_5 (by decide) ?_
  refine lv_ishr hx hb dX1_isOfOtherSide_6 ?_
  refine tp_i (show (nI lit) >>> ((nI 1) &&& 31) = nI (lit / 2) from n_shr (by omega) (by omega)) ?_
  refine va_iald hx hb hK hP 1 0 rfl rfl (vp_in_nI (by omega) (by omega)) dX1_isOfOtherSide_7 ?_
  refine tp_i (show fo (nI (lit / 2)).toNatClampNeg = fo (lit / 2) from congrArg fo (nI_clamp (by omega))) ?_
  refine lv_istore_n (lv' := [(3, .int (fo (lit / 2))), (0, .ref hn), (1, .int sd), (2, .int (nI lit))]) hx hb dX1_isOfOtherSide_8 rfl hl (by decide) rfl (fun ls hl => ?_)
  refine lv_iload_n hx hb dX1_isOfOtherSide_9 rfl (lv_at hl 0 rfl) ?_
  refine lv_iconst (v := -1) hx hb dX1_isOfOtherSide_10 (by decide) ?_
  refine lv_icmp_eq (tgt := 23) hx hb dX1_isOfOtherSide_11 (by decide) (fun c1 => ?_) (fun c1 => ?_)
  · refine lv_iconst (v := nI 0) hx hb dX1_isOfOtherSide_23 (by decide) ?_
    exact rd_z hx hb hr hlocks dX1_isOfOtherSide_24 (by simp [zI, c1, nI_zero]) (zI_01 _)
  · refine lv_iload_n hx hb dX1_isOfOtherSide_14 rfl (lv_at hl 0 rfl) ?_
    refine lv_iload_n hx hb dX1_isOfOtherSide_15 rfl (lv_at hl 2 rfl) ?_
    refine lv_icmp_eq (tgt := 23) hx hb dX1_isOfOtherSide_16 (by decide) (fun c2 => ?_) (fun c2 => ?_)
    · refine lv_iconst (v := nI 0) hx hb dX1_isOfOtherSide_23 (by decide) ?_
      exact rd_z hx hb hr hlocks dX1_isOfOtherSide_24 (by simp [zI, c2, nI_zero]) (zI_01 _)
    · refine lv_iconst (v := nI 1) hx hb dX1_isOfOtherSide_19 (by decide) ?_
      refine lv_goto (tgt := 24) hx hb dX1_isOfOtherSide_20 (by decide) ?_
      exact rd_z hx hb hr hlocks dX1_isOfOtherSide_24 (by simp [zI, c1, c2, nI_one]) (zI_01 _)
set_option maxHeartbeats 4000000 in
set_option maxRecDepth 100000 in
/-- whether two literals have one first -/
theorem c_X1_areSame (la lb : Nat) (h1 : la / 2 < 400) (h2 : lb / 2 < 400) : Met l yX1_areSame wsX1_areSame { frames := 1, cells := 0, slots := 0, locals := 21 } (rd_P D [(cI, .int), (cJ, .long)] (nW hn ow fi ro cI cJ cnt len fo ff fr) [.ref hn, .int (nI la), .int (nI lb)]) (k2_QcV (.int (zI (decide (fs1 ff la = fs1 ff lb))))) 0 0 (fun _ => False) := by
  refine Met.ofW (cc := cX1_areSame) (maxL := 3) (ret := (some .boolean)) (by decide) rfl ?_
  intro p e s m args below meth c s₁ B hml hv
  obtain ⟨rfl, hP, hK⟩ := hv
  have hx := B.exec
  have hb := B.bytes
  have hr := B.returns
  have hts := atoms_spec (ws := wsX1_areSame) B.pre
  have hown : s.vm.findClass RX1 = some m.cls := findClass_of_methodNamed B.named
  have hlocks := B.notSynchronized
  have hl := lv_entry ([.ref hn, .int (nI la), .int (nI lb)]) (n := 3) (Nat.le_of_ble_eq_true rfl)
  rw [lg_entry_eq]
  generalize (lg_sl ([.ref hn, .int (nI la), .int (nI lb)]) ++ List.replicate (3 - (lg_sl ([.ref hn, .int (nI la), .int (nI lb)])).length) Slot.unset).toArray = ls at hl ⊢
  have hl : lv_has ls 3 [(0, .ref hn), (1, .int (nI la)), (2, .int (nI lb))] := hl
  refine lv_aload_n hx hb dX1_areSame_0 rfl (lv_at hl 0 rfl) ?_
  refine lv_iload_n hx hb dX1_areSame_1 rfl (lv_at hl 1 rfl) ?_
  refine rd_V (As := [.int (nI la)]) (rest := []) ⟨hx, hb, hml, hown, hts⟩ (c_X1_firstOf l D cI cJ hn ow fi ro cnt len fo ff fr la h1) (cwV 1 hts gX1_areSame_X1_firstOf rfl rfl rfl (by decide +kernel) ⟨Nat.le_of_ble_eq_true rfl, Nat.le_of_ble_eq_true rfl⟩) (rd_pv (ci := 1) (q0 := 0) hK hP rfl rfl) rfl hl.1 rfl (Nat.le_of_ble_eq_true rfl) dX1_areSame_2 ⟨Nat.zero_le _, Nat.zero_le _⟩ ?_
  refine lv_aload_n hx hb dX1_areSame_5 rfl (lv_at hl 0 rfl) ?_
  refine lv_iload_n hx hb dX1_areSame_6 rfl (lv_at hl 2 rfl) ?_
  refine rd_V (As := [.int (nI lb)]) (rest := [.int (fs1 ff la)]) ⟨hx, hb, hml, hown, hts⟩ (c_X1_firstOf l D cI cJ hn ow fi ro cnt len fo ff fr lb h2) (cwV 1 hts gX1_areSame_X1_firstOf rfl rfl rfl (by decide +kernel) ⟨Nat.le_of_ble_eq_true rfl, Nat.le_of_ble_eq_true rfl⟩) (rd_pv (ci := 1) (q0 := 0) hK hP rfl rfl) rfl hl.1 rfl (Nat.le_of_ble_eq_true rfl) dX1_areSame_7 ⟨Nat.zero_le _, Nat.zero_le _⟩ ?_
  refine lv_icmp_ne (tgt := 17) hx hb dX1_areSame_10 (by decide) (fun c1 => ?_) (fun c1 => ?_)
  · refine lv_iconst (v := nI 0) hx hb dX1_areSame_17 (by decide) ?_
    exact rd_z hx hb hr hlocks dX1_areSame_18 (by simp [zI, c1, nI_zero]) (zI_01 _)
  · refine lv_iconst (v := nI 1) hx hb dX1_areSame_13 (by decide) ?_
    refine lv_goto (tgt := 18) hx hb dX1_areSame_14 (by decide) ?_
    exact rd_z hx hb hr hlocks dX1_areSame_18 (by simp [zI, c1, nI_one]) (zI_01 _)
set_option maxHeartbeats 4000000 in
set_option maxRecDepth 100000 in
/-- the value of a literal in an assignment -/
theorem c_X1_valueIn (lit : Nat) (av : Int32) (k : Nat) (hk : av &&& 4095 = nI k) (hk2 : k < 4096) (h1 : lit / 2 * 64 + 63 < len) (h2 : len ≤ 25600) : Met l yX1_valueIn wsX1_valueIn { frames := 1, cells := 0, slots := 0, locals := 24 } (rd_P D [(cI, .int), (cJ, .long)] (nW hn ow fi ro cI cJ cnt len fo ff fr) [.ref hn, .int (nI lit), .int av]) (k2_QcV (.int (zI (bt fr lit k)))) 0 0 (fun _ => False) := by
  refine Met.ofW (cc := cX1_valueIn) (maxL := 4) (ret := (some .int)) (by decide) rfl ?_
  intro p e s m args below meth c s₁ B hml hv
  obtain ⟨rfl, hP, hK⟩ := hv
  have hx := B.exec
  have hb := B.bytes
  have hr := B.returns
  have hts := atoms_spec (ws := wsX1_valueIn) B.pre
  have hown : s.vm.findClass RX1 = some m.cls := findClass_of_methodNamed B.named
  have hlocks := B.notSynchronized
  have hl := lv_entry ([.ref hn, .int (nI lit), .int av]) (n := 4) (Nat.le_of_ble_eq_true rfl)
  rw [lg_entry_eq]
  generalize (lg_sl ([.ref hn, .int (nI lit), .int av]) ++ List.replicate (4 - (lg_sl ([.ref hn, .int (nI lit), .int av])).length) Slot.unset).toArray = ls at hl ⊢
  have hl : lv_has ls 4 [(0, .ref hn), (1, .int (nI lit)), (2, .int av)] := hl
  refine lv_iload_n hx hb dX1_valueIn_0 rfl (lv_at hl 2 rfl) ?_
  refine lv_sipush (v := 4095) hx hb dX1_valueIn_1 (by decide) ?_
  refine lv_iand hx hb dX1_valueIn_4 ?_
  refine tp_i (show av &&& 4095 = nI k from hk) ?_
  refine lv_istore_n (lv' := [(3, .int (nI k)), (0, .ref hn), (1, .int (nI lit)), (2, .int av)]) hx hb dX1_valueIn_5 rfl hl (by decide) rfl (fun ls hl => ?_)
  refine lv_aload_n hx hb dX1_valueIn_6 rfl (lv_at hl 1 rfl) ?_
  refine lv_iload_n hx hb dX1_valueIn_7 rfl (lv_at hl 2 rfl) ?_
  refine lv_iload_n hx hb dX1_valueIn_8 rfl (lv_at hl 0 rfl) ?_
  refine lv_bipush (v := nI 64) hx hb dX1_valueIn_9 (by decide) ?_
  refine lv_idiv hx hb dX1_valueIn_11 (nI_ne0 (by omega) (by omega)) ?_
  refine tp_i (show (nI k) / (nI 64) = nI (k / 64) from pk_div (by omega) (by omega) (by omega)) ?_
  refine rd_V (As := [.int (nI lit), .int (nI (k / 64))]) (rest := []) ⟨hx, hb, hml, hown, hts⟩ (c_X1_wordOf l D cI cJ hn ow fi ro cnt len fo ff fr lit (k / 64) (by omega) h2) (cwV 2 hts gX1_valueIn_X1_wordOf rfl rfl rfl (by decide +kernel) ⟨Nat.le_of_ble_eq_true rfl, Nat.le_of_ble_eq_true rfl⟩) (rd_pv (ci := 1) (q0 := 0) hK hP rfl rfl) rfl hl.1 rfl (Nat.le_of_ble_eq_true rfl) dX1_valueIn_12 ⟨Nat.zero_le _, Nat.zero_le _⟩ ?_
  refine lv_iload_n hx hb dX1_valueIn_15 rfl (lv_at hl 0 rfl) ?_
  refine lv_bipush (v := nI 64) hx hb dX1_valueIn_16 (by decide) ?_
  refine lv_irem hx hb dX1_valueIn_18 (nI_ne0 (by omega) (by omega)) ?_
  refine tp_i (show (nI k) - (nI k) / (nI 64) * (nI 64) = nI (k % 64) from n_rem (by omega) (by omega) (by omega)) ?_
  refine lv_lushr (v := ((wd fr lit (k / 64)).toUInt64 >>> ((nI (k % 64)).toInt64.toUInt64 &&& Int64.toUInt64 63)).toInt64) hx hb dX1_valueIn_19 (rfl) ?_
  refine lv_l2i (v := (((wd fr lit (k / 64)).toUInt64 >>> ((nI (k % 64)).toInt64.toUInt64 &&& Int64.toUInt64 63)).toInt64).toInt32) hx hb dX1_valueIn_20 (rfl) ?_
  refine lv_iconst (v := nI 1) hx hb dX1_valueIn_21 (by decide) ?_
  refine lv_iand hx hb dX1_valueIn_22 ?_
  refine tp_i (show ((((wd fr lit (k / 64)).toUInt64 >>> ((nI (k % 64)).toInt64.toUInt64 &&& Int64.toUInt64 63)).toInt64).toInt32) &&& (nI 1) = zI (bt fr lit k) from bit_l _ (by omega)) ?_
  exact rd_i hx hb hr hlocks dX1_valueIn_23 (rfl)
end RN
end
section
/-! Readers of Nodes with a loop: counts. -/
section RC
variable (l : Launch) (D : va_G) (cI cJ : ClassId) (hn ow fi ro cnt len : Nat) (fo ff : Nat → Int32) (fr : Nat → Int64)
set_option maxHeartbeats 4000000 in
set_option maxRecDepth 100000 in
/-- how many ANDs of a side -/
theorem c_X1_countAnds (sd : Int32) (h1 : cnt ≤ 400) : Met l yX1_countAnds wsX1_countAnds { frames := 0, cells := 0, slots := 0, locals := 0 } (rd_P D [(cI, .int), (cJ, .long)] (nW hn ow fi ro cI cJ cnt len fo ff fr) [.ref hn, .int sd]) (k2_QcV (.int (nI (cAnd fo sd cnt)))) 0 0 (fun _ => False) := by
  refine Met.ofW (cc := cX1_countAnds) (maxL := 4) (ret := (some .int)) (by decide) rfl ?_
  intro p e s m args below meth c s₁ B hml hv
  obtain ⟨rfl, hP, hK⟩ := hv
  have hx := B.exec
  have hb := B.bytes
  have hr := B.returns
  have hts := atoms_spec (ws := wsX1_countAnds) B.pre
  have hown : s.vm.findClass RX1 = some m.cls := findClass_of_methodNamed B.named
  have hlocks := B.notSynchronized
  have hl := lv_entry ([.ref hn, .int sd]) (n := 4) (Nat.le_of_ble_eq_true rfl)
  rw [lg_entry_eq]
  generalize (lg_sl ([.ref hn, .int sd]) ++ List.replicate (4 - (lg_sl ([.ref hn, .int sd])).length) Slot.unset).toArray = ls at hl ⊢
  have hl : lv_has ls 4 [(0, .ref hn), (1, .int sd)] := hl
  have hin1 : ∀ w ∈ wsX10, w ∈ wsX1_countAnds := by decide +kernel
  have kf11 := hts (.fieldLink RX1 11 "SweepEqual$Nodes" "count" "I") (by decide +kernel)
  have kf15 := hts (.fieldLink RX1 15 "SweepEqual$Nodes" "owners" "[I") (by decide +kernel)
  refine lv_iconst (v := nI 0) hx hb dX1_countAnds_0 (by decide) ?_
  refine lv_istore_n (lv' := [(2, .int (nI 0)), (0, .ref hn), (1, .int sd)]) hx hb dX1_countAnds_1 rfl hl (by decide) rfl (fun ls hl => ?_)
  refine lv_iconst (v := nI 0) hx hb dX1_countAnds_2 (by decide) ?_
  refine lv_istore_n (lv' := [(3, .int (nI 0)), (2, .int (nI 0)), (0, .ref hn), (1, .int sd)]) hx hb dX1_countAnds_3 rfl hl (by decide) rfl (fun ls hl => ?_)
  have loop : ∀ (n : Nat) (i : Nat), i ≤ cnt → cnt - i < n → ∀ ls : Array Slot, lv_has ls 4 [(2, .int (nI (cAnd fo sd i))), (3, .int (nI i)), (0, .ref hn), (1, .int sd)] → W p l e (headSpec wsX1_countAnds { frames := 0, cells := 0, slots := 0, locals := 0 }).room s m ([.ref hn, .int sd] : List Value).toArray below meth c s.heap [] 0 0 (MQ below (k2_QcV (.int (nI (cAnd fo sd cnt)))) ([.ref hn, .int sd] : List Value).toArray s 0 0 (fun _ => False)) (F0 m 4 ls []) := by
    intro n
    induction n with
    | zero => intro i hi hM; exact absurd hM (Nat.not_lt_zero _)
    | succ n ih =>
      intro i hi hM ls hl
      have hc := cAnd_le fo sd i
      refine lv_iload_n hx hb dX1_countAnds_4 rfl (lv_at hl 1 rfl) ?_
      refine lv_aload_n hx hb dX1_countAnds_5 rfl (lv_at hl 2 rfl) ?_
      refine va_get (D := D) (ci := 1) (v := .int (nI cnt)) (C := RX1) (T := TX1) (N := 4) hx hb hts hin1 hown hK hP 0 rfl rfl 0 (by decide) kf11 (fun _ h9 => h9) rfl dX1_countAnds_6 ?_
      refine lv_icmp_ge (tgt := 31) hx hb dX1_countAnds_9 (by decide) (fun c1 => ?_) (fun c1 => ?_)
      · have c1 : cnt ≤ i := (nI_leI (by omega) (by omega)).mp c1
        refine lv_iload_n hx hb dX1_countAnds_31 rfl (lv_at hl 0 rfl) ?_
        have hi2 : i = cnt := by omega
        exact rd_i hx hb hr hlocks dX1_countAnds_32 (by rw [hi2])
      · have c1 : ¬ (cnt ≤ i) := fun h => c1 ((nI_leI (by omega) (by omega)).mpr h)
        refine lv_aload_n hx hb dX1_countAnds_12 rfl (lv_at hl 2 rfl) ?_
        refine va_get (D := D) (ci := 1) (v := .ref ow) (C := RX1) (T := TX1) (N := 4) hx hb hts hin1 hown hK hP 0 rfl rfl 1 (by decide) kf15 (fun _ h9 => h9) rfl dX1_countAnds_13 ?_
        refine lv_iload_n hx hb dX1_countAnds_16 rfl (lv_at hl 1 rfl) ?_
        refine va_iald hx hb hK hP 1 0 rfl rfl (vp_in_nI (by omega) (by omega)) dX1_countAnds_17 ?_
        refine tp_i (show fo (nI i).toNatClampNeg = fo i from congrArg fo (nI_clamp (by omega))) ?_
        refine lv_iload_n hx hb dX1_countAnds_18 rfl (lv_at hl 3 rfl) ?_
        refine lv_icmp_ne (tgt := 25) hx hb dX1_countAnds_19 (by decide) (fun c2 => ?_) (fun c2 => ?_)
        · refine lv_iinc (v := nI (i + 1)) (lv' := [(3, .int (nI (i + 1))), (2, .int (nI (cAnd fo sd i))), (0, .ref hn), (1, .int sd)]) hx hb dX1_countAnds_25 hl (k := 1) rfl (nI_add i 1) (by decide) rfl (fun ls hl => ?_)
          refine lv_goto (tgt := 4) hx hb dX1_countAnds_28 (by decide) ?_
          exact ih (i + 1) (by omega) (by omega) ls (by rw [show cAnd fo sd (i + 1) = cAnd fo sd i from by simp [cAnd, c2]]; exact lv_sub hl [1, 0, 2, 3] rfl)
        · refine lv_iinc (v := nI (cAnd fo sd i + 1)) (lv' := [(2, .int (nI (cAnd fo sd i + 1))), (3, .int (nI i)), (0, .ref hn), (1, .int sd)]) hx hb dX1_countAnds_22 hl (k := 0) rfl (nI_add (cAnd fo sd i) 1) (by decide) rfl (fun ls hl => ?_)
          refine lv_iinc (v := nI (i + 1)) (lv' := [(3, .int (nI (i + 1))), (2, .int (nI (cAnd fo sd i + 1))), (0, .ref hn), (1, .int sd)]) hx hb dX1_countAnds_25 hl (k := 1) rfl (nI_add i 1) (by decide) rfl (fun ls hl => ?_)
          refine lv_goto (tgt := 4) hx hb dX1_countAnds_28 (by decide) ?_
          exact ih (i + 1) (by omega) (by omega) ls (by rw [show cAnd fo sd (i + 1) = cAnd fo sd i + 1 from by simp [cAnd, c2]]; exact lv_sub hl [1, 0, 2, 3] rfl)
  exact loop (cnt - 0 + 1) 0 (by omega) (by omega) ls (lv_sub hl [1, 0, 2, 3] rfl)
set_option maxHeartbeats 4000000 in
set_option maxRecDepth 100000 in
/-- how many nodes are their own first -/
theorem c_X1_countClasses (h1 : cnt ≤ 400) : Met l yX1_countClasses wsX1_countClasses { frames := 1, cells := 0, slots := 0, locals := 21 } (rd_P D [(cI, .int), (cJ, .long)] (nW hn ow fi ro cI cJ cnt len fo ff fr) [.ref hn]) (k2_QcV (.int (nI (cCls ff cnt)))) 0 0 (fun _ => False) := by
  refine Met.ofW (cc := cX1_countClasses) (maxL := 3) (ret := (some .int)) (by decide) rfl ?_
  intro p e s m args below meth c s₁ B hml hv
  obtain ⟨rfl, hP, hK⟩ := hv
  have hx := B.exec
  have hb := B.bytes
  have hr := B.returns
  have hts := atoms_spec (ws := wsX1_countClasses) B.pre
  have hown : s.vm.findClass RX1 = some m.cls := findClass_of_methodNamed B.named
  have hlocks := B.notSynchronized
  have hl := lv_entry ([.ref hn]) (n := 3) (Nat.le_of_ble_eq_true rfl)
  rw [lg_entry_eq]
  generalize (lg_sl ([.ref hn]) ++ List.replicate (3 - (lg_sl ([.ref hn])).length) Slot.unset).toArray = ls at hl ⊢
  have hl : lv_has ls 3 [(0, .ref hn)] := hl
  have hin1 : ∀ w ∈ wsX10, w ∈ wsX1_countClasses := by decide +kernel
  have kf11 := hts (.fieldLink RX1 11 "SweepEqual$Nodes" "count" "I") (by decide +kernel)
  refine lv_iconst (v := nI 0) hx hb dX1_countClasses_0 (by decide) ?_
  refine lv_istore_n (lv' := [(1, .int (nI 0)), (0, .ref hn)]) hx hb dX1_countClasses_1 rfl hl (by decide) rfl (fun ls hl => ?_)
  refine lv_iconst (v := nI 0) hx hb dX1_countClasses_2 (by decide) ?_
  refine lv_istore_n (lv' := [(2, .int (nI 0)), (1, .int (nI 0)), (0, .ref hn)]) hx hb dX1_countClasses_3 rfl hl (by decide) rfl (fun ls hl => ?_)
  have loop : ∀ (n : Nat) (i : Nat), i ≤ cnt → cnt - i < n → ∀ ls : Array Slot, lv_has ls 3 [(1, .int (nI (cCls ff i))), (2, .int (nI i)), (0, .ref hn)] → W p l e (headSpec wsX1_countClasses { frames := 1, cells := 0, slots := 0, locals := 21 }).room s m ([.ref hn] : List Value).toArray below meth c s.heap [] 0 0 (MQ below (k2_QcV (.int (nI (cCls ff cnt)))) ([.ref hn] : List Value).toArray s 0 0 (fun _ => False)) (F0 m 4 ls []) := by
    intro n
    induction n with
    | zero => intro i hi hM; exact absurd hM (Nat.not_lt_zero _)
    | succ n ih =>
      intro i hi hM ls hl
      have hc := cCls_le ff i
      refine lv_iload_n hx hb dX1_countClasses_4 rfl (lv_at hl 1 rfl) ?_
      refine lv_aload_n hx hb dX1_countClasses_5 rfl (lv_at hl 2 rfl) ?_
      refine va_get (D := D) (ci := 1) (v := .int (nI cnt)) (C := RX1) (T := TX1) (N := 4) hx hb hts hin1 hown hK hP 0 rfl rfl 0 (by decide) kf11 (fun _ h9 => h9) rfl dX1_countClasses_6 ?_
      refine lv_icmp_ge (tgt := 29) hx hb dX1_countClasses_9 (by decide) (fun c1 => ?_) (fun c1 => ?_)
      · have c1 : cnt ≤ i := (nI_leI (by omega) (by omega)).mp c1
        refine lv_iload_n hx hb dX1_countClasses_29 rfl (lv_at hl 0 rfl) ?_
        have hi2 : i = cnt := by omega
        exact rd_i hx hb hr hlocks dX1_countClasses_30 (by rw [hi2])
      · have c1 : ¬ (cnt ≤ i) := fun h => c1 ((nI_leI (by omega) (by omega)).mpr h)
        refine lv_aload_n hx hb dX1_countClasses_12 rfl (lv_at hl 2 rfl) ?_
        refine lv_iload_n hx hb dX1_countClasses_13 rfl (lv_at hl 1 rfl) ?_
        refine rd_V (As := [.int (nI i)]) (rest := []) ⟨hx, hb, hml, hown, hts⟩ (c_X1_isLeast l D cI cJ hn ow fi ro cnt len fo ff fr i (by omega)) (cwV 1 hts gX1_countClasses_X1_isLeast rfl rfl rfl (by decide +kernel) ⟨Nat.le_of_ble_eq_true rfl, Nat.le_of_ble_eq_true rfl⟩) (rd_pv (ci := 1) (q0 := 0) hK hP rfl rfl) rfl hl.1 rfl (Nat.le_of_ble_eq_true rfl) dX1_countClasses_14 ⟨Nat.zero_le _, Nat.zero_le _⟩ ?_
        refine lv_if_eq (tgt := 23) hx hb dX1_countClasses_17 (by decide) (fun c2 => ?_) (fun c2 => ?_)
        · have c2 : ¬ ff i = nI (2 * i) := by simpa using zI_eq0.mp c2
          refine lv_iinc (v := nI (i + 1)) (lv' := [(2, .int (nI (i + 1))), (1, .int (nI (cCls ff i))), (0, .ref hn)]) hx hb dX1_countClasses_23 hl (k := 1) rfl (nI_add i 1) (by decide) rfl (fun ls hl => ?_)
          refine lv_goto (tgt := 4) hx hb dX1_countClasses_26 (by decide) ?_
          exact ih (i + 1) (by omega) (by omega) ls (by rw [show cCls ff (i + 1) = cCls ff i from by simp [cCls, c2]]; exact lv_sub hl [1, 0, 2] rfl)
        · have c2 : ff i = nI (2 * i) := by simpa using fun h => c2 (zI_eq0.mpr h)
          refine lv_iinc (v := nI (cCls ff i + 1)) (lv' := [(1, .int (nI (cCls ff i + 1))), (2, .int (nI i)), (0, .ref hn)]) hx hb dX1_countClasses_20 hl (k := 0) rfl (nI_add (cCls ff i) 1) (by decide) rfl (fun ls hl => ?_)
          refine lv_iinc (v := nI (i + 1)) (lv' := [(2, .int (nI (i + 1))), (1, .int (nI (cCls ff i + 1))), (0, .ref hn)]) hx hb dX1_countClasses_23 hl (k := 1) rfl (nI_add i 1) (by decide) rfl (fun ls hl => ?_)
          refine lv_goto (tgt := 4) hx hb dX1_countClasses_26 (by decide) ?_
          exact ih (i + 1) (by omega) (by omega) ls (by rw [show cCls ff (i + 1) = cCls ff i + 1 from by simp [cCls, c2]]; exact lv_sub hl [1, 0, 2] rfl)
  exact loop (cnt - 0 + 1) 0 (by omega) (by omega) ls (lv_sub hl [1, 0, 2] rfl)
set_option maxHeartbeats 4000000 in
set_option maxRecDepth 100000 in
/-- how many ANDs of a side are not their own first -/
theorem c_X1_countMerged (sd : Int32) (h1 : cnt ≤ 400) : Met l yX1_countMerged wsX1_countMerged { frames := 1, cells := 0, slots := 0, locals := 21 } (rd_P D [(cI, .int), (cJ, .long)] (nW hn ow fi ro cI cJ cnt len fo ff fr) [.ref hn, .int sd]) (k2_QcV (.int (nI (cMer fo ff sd cnt)))) 0 0 (fun _ => False) := by
  refine Met.ofW (cc := cX1_countMerged) (maxL := 4) (ret := (some .int)) (by decide) rfl ?_
  intro p e s m args below meth c s₁ B hml hv
  obtain ⟨rfl, hP, hK⟩ := hv
  have hx := B.exec
  have hb := B.bytes
  have hr := B.returns
  have hts := atoms_spec (ws := wsX1_countMerged) B.pre
  have hown : s.vm.findClass RX1 = some m.cls := findClass_of_methodNamed B.named
  have hlocks := B.notSynchronized
  have hl := lv_entry ([.ref hn, .int sd]) (n := 4) (Nat.le_of_ble_eq_true rfl)
  rw [lg_entry_eq]
  generalize (lg_sl ([.ref hn, .int sd]) ++ List.replicate (4 - (lg_sl ([.ref hn, .int sd])).length) Slot.unset).toArray = ls at hl ⊢
  have hl : lv_has ls 4 [(0, .ref hn), (1, .int sd)] := hl
  have hin1 : ∀ w ∈ wsX10, w ∈ wsX1_countMerged := by decide +kernel
  have kf11 := hts (.fieldLink RX1 11 "SweepEqual$Nodes" "count" "I") (by decide +kernel)
  have kf15 := hts (.fieldLink RX1 15 "SweepEqual$Nodes" "owners" "[I") (by decide +kernel)
  refine lv_iconst (v := nI 0) hx hb dX1_countMerged_0 (by decide) ?_
  refine lv_istore_n (lv' := [(2, .int (nI 0)), (0, .ref hn), (1, .int sd)]) hx hb dX1_countMerged_1 rfl hl (by decide) rfl (fun ls hl => ?_)
  refine lv_iconst (v := nI 0) hx hb dX1_countMerged_2 (by decide) ?_
  refine lv_istore_n (lv' := [(3, .int (nI 0)), (2, .int (nI 0)), (0, .ref hn), (1, .int sd)]) hx hb dX1_countMerged_3 rfl hl (by decide) rfl (fun ls hl => ?_)
  have loop : ∀ (n : Nat) (i : Nat), i ≤ cnt → cnt - i < n → ∀ ls : Array Slot, lv_has ls 4 [(2, .int (nI (cMer fo ff sd i))), (3, .int (nI i)), (0, .ref hn), (1, .int sd)] → W p l e (headSpec wsX1_countMerged { frames := 1, cells := 0, slots := 0, locals := 21 }).room s m ([.ref hn, .int sd] : List Value).toArray below meth c s.heap [] 0 0 (MQ below (k2_QcV (.int (nI (cMer fo ff sd cnt)))) ([.ref hn, .int sd] : List Value).toArray s 0 0 (fun _ => False)) (F0 m 4 ls []) := by
    intro n
    induction n with
    | zero => intro i hi hM; exact absurd hM (Nat.not_lt_zero _)
    | succ n ih =>
      intro i hi hM ls hl
      have hc := cMer_le fo ff sd i
      refine lv_iload_n hx hb dX1_countMerged_4 rfl (lv_at hl 1 rfl) ?_
      refine lv_aload_n hx hb dX1_countMerged_5 rfl (lv_at hl 2 rfl) ?_
      refine va_get (D := D) (ci := 1) (v := .int (nI cnt)) (C := RX1) (T := TX1) (N := 4) hx hb hts hin1 hown hK hP 0 rfl rfl 0 (by decide) kf11 (fun _ h9 => h9) rfl dX1_countMerged_6 ?_
      refine lv_icmp_ge (tgt := 39) hx hb dX1_countMerged_9 (by decide) (fun c1 => ?_) (fun c1 => ?_)
      · have c1 : cnt ≤ i := (nI_leI (by omega) (by omega)).mp c1
        refine lv_iload_n hx hb dX1_countMerged_39 rfl (lv_at hl 0 rfl) ?_
        have hi2 : i = cnt := by omega
        exact rd_i hx hb hr hlocks dX1_countMerged_40 (by rw [hi2])
      · have c1 : ¬ (cnt ≤ i) := fun h => c1 ((nI_leI (by omega) (by omega)).mpr h)
        refine lv_aload_n hx hb dX1_countMerged_12 rfl (lv_at hl 2 rfl) ?_
        refine va_get (D := D) (ci := 1) (v := .ref ow) (C := RX1) (T := TX1) (N := 4) hx hb hts hin1 hown hK hP 0 rfl rfl 1 (by decide) kf15 (fun _ h9 => h9) rfl dX1_countMerged_13 ?_
        refine lv_iload_n hx hb dX1_countMerged_16 rfl (lv_at hl 1 rfl) ?_
        refine va_iald hx hb hK hP 1 0 rfl rfl (vp_in_nI (by omega) (by omega)) dX1_countMerged_17 ?_
        refine tp_i (show fo (nI i).toNatClampNeg = fo i from congrArg fo (nI_clamp (by omega))) ?_
        refine lv_iload_n hx hb dX1_countMerged_18 rfl (lv_at hl 3 rfl) ?_
        refine lv_icmp_ne (tgt := 33) hx hb dX1_countMerged_19 (by decide) (fun c2 => ?_) (fun c2 => ?_)
        · refine lv_iinc (v := nI (i + 1)) (lv' := [(3, .int (nI (i + 1))), (2, .int (nI (cMer fo ff sd i))), (0, .ref hn), (1, .int sd)]) hx hb dX1_countMerged_33 hl (k := 1) rfl (nI_add i 1) (by decide) rfl (fun ls hl => ?_)
          refine lv_goto (tgt := 4) hx hb dX1_countMerged_36 (by decide) ?_
          exact ih (i + 1) (by omega) (by omega) ls (by rw [show cMer fo ff sd (i + 1) = cMer fo ff sd i from by simp [cMer, c2]]; exact lv_sub hl [1, 0, 2, 3] rfl)
        · refine lv_aload_n hx hb dX1_countMerged_22 rfl (lv_at hl 2 rfl) ?_
          refine lv_iload_n hx hb dX1_countMerged_23 rfl (lv_at hl 1 rfl) ?_
          refine rd_V (As := [.int (nI i)]) (rest := []) ⟨hx, hb, hml, hown, hts⟩ (c_X1_isLeast l D cI cJ hn ow fi ro cnt len fo ff fr i (by omega)) (cwV 1 hts gX1_countMerged_X1_isLeast rfl rfl rfl (by decide +kernel) ⟨Nat.le_of_ble_eq_true rfl, Nat.le_of_ble_eq_true rfl⟩) (rd_pv (ci := 1) (q0 := 0) hK hP rfl rfl) rfl hl.1 rfl (Nat.le_of_ble_eq_true rfl) dX1_countMerged_24 ⟨Nat.zero_le _, Nat.zero_le _⟩ ?_
          refine lv_if_ne (tgt := 33) hx hb dX1_countMerged_27 (by decide) (fun c3 => ?_) (fun c3 => ?_)
          · have c3 : ff i = nI (2 * i) := by simpa using fun h => c3 (zI_eq0.mpr h)
            refine lv_iinc (v := nI (i + 1)) (lv' := [(3, .int (nI (i + 1))), (2, .int (nI (cMer fo ff sd i))), (0, .ref hn), (1, .int sd)]) hx hb dX1_countMerged_33 hl (k := 1) rfl (nI_add i 1) (by decide) rfl (fun ls hl => ?_)
            refine lv_goto (tgt := 4) hx hb dX1_countMerged_36 (by decide) ?_
            exact ih (i + 1) (by omega) (by omega) ls (by rw [show cMer fo ff sd (i + 1) = cMer fo ff sd i from by simp [cMer, c3]]; exact lv_sub hl [1, 0, 2, 3] rfl)
          · have c3 : ¬ ff i = nI (2 * i) := by simpa using zI_eq0.mp c3
            refine lv_iinc (v := nI (cMer fo ff sd i + 1)) (lv' := [(2, .int (nI (cMer fo ff sd i + 1))), (3, .int (nI i)), (0, .ref hn), (1, .int sd)]) hx hb dX1_countMerged_30 hl (k := 0) rfl (nI_add (cMer fo ff sd i) 1) (by decide) rfl (fun ls hl => ?_)
            refine lv_iinc (v := nI (i + 1)) (lv' := [(3, .int (nI (i + 1))), (2, .int (nI (cMer fo ff sd i + 1))), (0, .ref hn), (1, .int sd)]) hx hb dX1_countMerged_33 hl (k := 1) rfl (nI_add i 1) (by decide) rfl (fun ls hl => ?_)
            refine lv_goto (tgt := 4) hx hb dX1_countMerged_36 (by decide) ?_
            exact ih (i + 1) (by omega) (by omega) ls (by rw [show cMer fo ff sd (i + 1) = cMer fo ff sd i + 1 from by simp [cMer, c2, c3]]; exact lv_sub hl [1, 0, 2, 3] rfl)
  exact loop (cnt - 0 + 1) 0 (by omega) (by omega) ls (lv_sub hl [1, 0, 2, 3] rfl)
end RC
end
section
/-! Trailing zeros: the least bit that is set. -/
/-- from i on, at most n places: the first at which f is true (i + n where there is none) -/
def tz (f : Nat → Bool) : Nat → Nat → Nat
  | 0, i => i
  | n + 1, i => if f i then i else tz f n (i + 1)
theorem tz_spec (f : Nat → Bool) : ∀ n i, i ≤ tz f n i ∧ tz f n i ≤ i + n ∧ (∀ j, i ≤ j → j < tz f n i → f j = false) ∧ (tz f n i < i + n → f (tz f n i) = true)
  | 0, i => ⟨Nat.le_refl _, Nat.le_refl _, fun j h1 h2 => absurd h2 (Nat.not_lt.mpr h1), fun h => absurd h (Nat.lt_irrefl _)⟩
  | n + 1, i => by
    unfold tz
    by_cases h : f i = true
    · rw [if_pos h]
      exact ⟨Nat.le_refl _, by omega, fun j h1 h2 => absurd h2 (Nat.not_lt.mpr h1), fun _ => h⟩
    · rw [if_neg h]
      obtain ⟨a1, a2, a3, a4⟩ := tz_spec f n (i + 1)
      refine ⟨by omega, by omega, fun j h1 h2 => ?_, fun h => a4 (by omega)⟩
      by_cases hj : j = i
      · subst hj; simpa using h
      · exact a3 j (by omega) h2
theorem tz_eq {f : Nat → Bool} {n t : Nat} (h1 : t ≤ n) (h2 : ∀ j, j < t → f j = false) (h3 : t < n → f t = true) : tz f n 0 = t := by
  obtain ⟨-, a2, a3, a4⟩ := tz_spec f n 0
  rcases Nat.lt_trichotomy (tz f n 0) t with h | h | h
  · have := a4 (by omega)
    rw [h2 _ h] at this; cases this
  · exact h
  · have := a3 t (Nat.zero_le _) h
    rw [h3 (by omega)] at this; cases this
theorem tz_le (f : Nat → Bool) (n : Nat) : tz f n 0 ≤ n := by have := (tz_spec f n 0).2.1; omega
/-- ones below the place t -/
def kz (t : Nat) : Int32 := if t = 32 then -1 else nI (2 ^ t - 1)
/-- not x, and x less one: the ones below the least bit of x -/
theorem kz_key (x : Int32) : (x ^^^ (-1)) &&& (x - nI 1) = kz (tz x.toBitVec.getLsbD 32 0) := by
  obtain ⟨-, a2, a3, a4⟩ := tz_spec x.toBitVec.getLsbD 32 0
  generalize tz x.toBitVec.getLsbD 32 0 = t at a2 a3 a4
  have e0 : ((x ^^^ (-1)) &&& (x - nI 1)).toBitVec = (x.toBitVec ^^^ BitVec.allOnes 32) &&& (x.toBitVec - 1#32) := rfl
  have key : ((x ^^^ (-1)) &&& (x - nI 1)).toBitVec = (kz t).toBitVec := by
    rw [e0]
    generalize x.toBitVec = X at a3 a4
    by_cases ht : t = 32
    · have hX : X = 0#32 := by
        apply BitVec.eq_of_getLsbD_eq
        intro i hi
        rw [a3 i (Nat.zero_le _) (by omega)]
        simp
      rw [hX, ht]
      decide
    · have htl : t < 32 := by omega
      have hb := a4 (by omega)
      have e1 : (kz t).toBitVec = BitVec.ofNat 32 (2 ^ t - 1) := by
        unfold kz; rw [if_neg ht]; rfl
      rw [e1]
      have hlow : ∀ j, j < t → X.toNat.testBit j = false := fun j hj => a3 j (Nat.zero_le _) hj
      have hbit : X.toNat.testBit t = true := hb
      have hmod : X.toNat % 2 ^ t = 0 := by
        apply Nat.eq_of_testBit_eq
        intro i
        rw [Nat.testBit_mod_two_pow, Nat.zero_testBit]
        by_cases hi : i < t
        · simp [hlow i hi]
        · simp [hi]
      have hodd : X.toNat / 2 ^ t % 2 = 1 := by
        rw [Nat.testBit_eq_decide_div_mod_eq] at hbit
        simpa using hbit
      obtain ⟨k, hk⟩ : ∃ k, X.toNat / 2 ^ t = 2 * k + 1 := ⟨X.toNat / 2 ^ t / 2, by omega⟩
      have hX : X.toNat = 2 ^ (t + 1) * k + 2 ^ t := by
        have h9 := Nat.div_add_mod X.toNat (2 ^ t)
        rw [hmod, hk] at h9
        rw [Nat.pow_succ, ← h9, Nat.mul_add, Nat.mul_one, Nat.add_zero, Nat.mul_assoc]
      have hpos : 0 < 2 ^ t := Nat.two_pow_pos t
      have hlt : 2 ^ t < 2 ^ (t + 1) := by rw [Nat.pow_succ]; omega
      have hlt32 := X.isLt
      have hsub : (X - 1#32).toNat = 2 ^ (t + 1) * k + (2 ^ t - 1) := by
        rw [BitVec.toNat_sub]
        simp only [BitVec.toNat_ofNat]
        rw [hX] at hlt32 ⊢
        omega
      apply BitVec.eq_of_getLsbD_eq
      intro i hi
      rw [BitVec.getLsbD_and, BitVec.getLsbD_xor, BitVec.getLsbD_allOnes, BitVec.getLsbD_ofNat, Nat.testBit_two_pow_sub_one]
      have g1 : (X - 1#32).getLsbD i = (2 ^ (t + 1) * k + (2 ^ t - 1)).testBit i := by rw [← hsub]; rfl
      have g2 : X.getLsbD i = (2 ^ (t + 1) * k + 2 ^ t).testBit i := by rw [← hX]; rfl
      rw [g1, g2, Nat.testBit_two_pow_mul_add _ hlt, Nat.testBit_two_pow_mul_add _ (show 2 ^ t - 1 < 2 ^ (t + 1) by omega), Nat.testBit_two_pow_sub_one]
      rcases Nat.lt_trichotomy i t with h | h | h
      · simp [hi, h, show i < t + 1 by omega, Nat.testBit_two_pow, show ¬ t = i by omega]
      · subst h; simp [hi, Nat.testBit_two_pow]
      · simp [hi, show ¬ i < t + 1 by omega, show ¬ i < t by omega]
  exact Int32.toBitVec_inj.mp key
/-- the low half's bits, the high half's bits -/
theorem lo_bit (x : Int64) {j : Nat} (hj : j < 32) : x.toInt32.toBitVec.getLsbD j = x.toBitVec.getLsbD j := by
  show (x.toBitVec.signExtend 32).getLsbD j = _
  rw [BitVec.getLsbD_signExtend]
  simp [hj, show j < 64 by omega]
theorem hi_bit (x : Int64) {j : Nat} (hj : j < 32) : (x.toUInt64 >>> ((nI 32).toInt64.toUInt64 &&& Int64.toUInt64 63)).toInt64.toInt32.toBitVec.getLsbD j = x.toBitVec.getLsbD (32 + j) := by
  rw [lo_bit _ hj]
  show (x.toBitVec >>> (((nI 32).toInt64.toUInt64 &&& Int64.toUInt64 63).toBitVec % 64#64)).getLsbD j = _
  have e : (((nI 32).toInt64.toUInt64 &&& Int64.toUInt64 63).toBitVec % 64#64).toNat = 32 := by decide +kernel
  rw [show (x.toBitVec >>> (((nI 32).toInt64.toUInt64 &&& Int64.toUInt64 63).toBitVec % 64#64)) = x.toBitVec >>> (((nI 32).toInt64.toUInt64 &&& Int64.toUInt64 63).toBitVec % 64#64).toNat from rfl, e, BitVec.getLsbD_ushiftRight]
theorem tz_lo (x : Int64) (h : ¬ x.toInt32 = 0) : tz x.toInt32.toBitVec.getLsbD 32 0 = tz x.toBitVec.getLsbD 64 0 := by
  obtain ⟨-, a2, a3, a4⟩ := tz_spec x.toInt32.toBitVec.getLsbD 32 0
  have hlt : tz x.toInt32.toBitVec.getLsbD 32 0 < 32 := by
    rcases Nat.lt_or_ge (tz x.toInt32.toBitVec.getLsbD 32 0) 32 with q | q
    · exact q
    · refine absurd (Int32.toBitVec_inj.mp (?_ : x.toInt32.toBitVec = (0 : Int32).toBitVec)) h
      apply BitVec.eq_of_getLsbD_eq
      intro i hi
      rw [a3 i (Nat.zero_le _) (by omega)]
      show false = (0#32).getLsbD i
      simp
  refine (tz_eq (by omega) (fun j hj => ?_) (fun _ => ?_)).symm
  · rw [← lo_bit x (by omega)]; exact a3 j (Nat.zero_le _) hj
  · rw [← lo_bit x hlt]; exact a4 (by omega)
theorem tz_hi (x : Int64) (h : x.toInt32 = 0) : 32 + tz (x.toUInt64 >>> ((nI 32).toInt64.toUInt64 &&& Int64.toUInt64 63)).toInt64.toInt32.toBitVec.getLsbD 32 0 = tz x.toBitVec.getLsbD 64 0 := by
  obtain ⟨-, a2, a3, a4⟩ := tz_spec (x.toUInt64 >>> ((nI 32).toInt64.toUInt64 &&& Int64.toUInt64 63)).toInt64.toInt32.toBitVec.getLsbD 32 0
  generalize hT : tz (x.toUInt64 >>> ((nI 32).toInt64.toUInt64 &&& Int64.toUInt64 63)).toInt64.toInt32.toBitVec.getLsbD 32 0 = t at a2 a3 a4 ⊢
  refine (tz_eq (by omega) (fun j hj => ?_) (fun h9 => ?_)).symm
  · by_cases hj2 : j < 32
    · rw [← lo_bit x hj2, h]
      show (0#32).getLsbD j = false
      simp
    · have := a3 (j - 32) (Nat.zero_le _) (by omega)
      rw [hi_bit x (by omega)] at this
      rw [← this]; congr 1; omega
  · have := a4 (by omega)
    rw [hi_bit x (by omega)] at this
    exact this
end
section
/-! The JDK's numberOfTrailingZeros; leastDifference; findFirst. -/
section RZ
set_option maxHeartbeats 4000000 in
set_option maxRecDepth 100000 in
/-- Integer.numberOfTrailingZeros -/
theorem c_J6_numberOfTrailingZeros_0f7a4 (l : Launch) (x : Int32) : Met l yJ6_numberOfTrailingZeros_0f7a4 wsJ6_numberOfTrailingZeros_0f7a4 { frames := 0, cells := 0, slots := 0, locals := 0 } (fun v _ => v = ([.int x] : List Value).toArray) (k2_QcV (.int (nI (tz x.toBitVec.getLsbD 32 0)))) 0 0 (fun _ => False) := by
  refine Met.ofW (cc := cJ6_numberOfTrailingZeros_0f7a4) (maxL := 2) (ret := (some .int)) (by decide) rfl ?_
  intro p e s m args below meth c s₁ B hml hv
  obtain rfl := hv
  have hx := B.exec
  have hb := B.bytes
  have hr := B.returns
  have hts := atoms_spec (ws := wsJ6_numberOfTrailingZeros_0f7a4) B.pre
  have hown : s.vm.findClass RJ6 = some m.cls := findClass_of_methodNamed B.named
  have hlocks := B.notSynchronized
  have hl := lv_entry ([.int x]) (n := 2) (Nat.le_of_ble_eq_true rfl)
  rw [lg_entry_eq]
  generalize (lg_sl ([.int x]) ++ List.replicate (2 - (lg_sl ([.int x])).length) Slot.unset).toArray = ls at hl ⊢
  have hl : lv_has ls 2 [(0, .int x)] := hl
  obtain ⟨t, hT⟩ : ∃ t, t = tz x.toBitVec.getLsbD 32 0 := ⟨_, rfl⟩
  have ht : t < 33 := by rw [hT]; exact Nat.lt_succ_of_le (tz_le _ 32)
  rw [← hT]
  refine lv_iload_n hx hb dJ6_numberOfTrailingZeros_0f7a4_0 rfl (lv_at hl 0 rfl) ?_
  refine lv_iconst (v := -1) hx hb dJ6_numberOfTrailingZeros_0f7a4_1 (by decide) ?_
  refine lv_ixor hx hb dJ6_numberOfTrailingZeros_0f7a4_2 ?_
  refine lv_iload_n hx hb dJ6_numberOfTrailingZeros_0f7a4_3 rfl (lv_at hl 0 rfl) ?_
  refine lv_iconst (v := nI 1) hx hb dJ6_numberOfTrailingZeros_0f7a4_4 (by decide) ?_
  refine lv_isub hx hb dJ6_numberOfTrailingZeros_0f7a4_5 ?_
  refine lv_iand hx hb dJ6_numberOfTrailingZeros_0f7a4_6 ?_
  refine tp_i (show (x ^^^ (-1)) &&& (x - (nI 1)) = kz t from by rw [hT, kz_key]) ?_
  refine lv_istore_n (lv' := [(0, .int (kz t))]) hx hb dJ6_numberOfTrailingZeros_0f7a4_7 rfl hl (by decide) rfl (fun ls hl => ?_)
  refine lv_iload_n hx hb dJ6_numberOfTrailingZeros_0f7a4_8 rfl (lv_at hl 0 rfl) ?_
  refine lv_if_gt (tgt := 17) hx hb dJ6_numberOfTrailingZeros_0f7a4_9 (by decide) (fun c1 => ?_) (fun c1 => ?_)
  · refine lv_iconst (v := nI 1) hx hb dJ6_numberOfTrailingZeros_0f7a4_17 (by decide) ?_
    refine lv_istore_n (lv' := [(1, .int (nI 1)), (0, .int (kz t))]) hx hb dJ6_numberOfTrailingZeros_0f7a4_18 rfl hl (by decide) rfl (fun ls hl => ?_)
    refine lv_iload_n hx hb dJ6_numberOfTrailingZeros_0f7a4_19 rfl (lv_at hl 1 rfl) ?_
    refine lv_ldcw hx hb hown (hts (.constant RJ6 264 (65536)) (by decide +kernel)) dJ6_numberOfTrailingZeros_0f7a4_20 ?_
    refine lv_icmp_le (tgt := 34) hx hb dJ6_numberOfTrailingZeros_0f7a4_23 (by decide) (fun c2 => ?_) (fun c2 => ?_)
    · refine lv_iload_n hx hb dJ6_numberOfTrailingZeros_0f7a4_34 rfl (lv_at hl 1 rfl) ?_
      refine lv_sipush (v := nI 256) hx hb dJ6_numberOfTrailingZeros_0f7a4_35 (by decide) ?_
      refine lv_icmp_le (tgt := 49) hx hb dJ6_numberOfTrailingZeros_0f7a4_38 (by decide) (fun c3 => ?_) (fun c3 => ?_)
      · refine lv_iload_n hx hb dJ6_numberOfTrailingZeros_0f7a4_49 rfl (lv_at hl 1 rfl) ?_
        refine lv_bipush (v := nI 16) hx hb dJ6_numberOfTrailingZeros_0f7a4_50 (by decide) ?_
        refine lv_icmp_le (tgt := 62) hx hb dJ6_numberOfTrailingZeros_0f7a4_52 (by decide) (fun c4 => ?_) (fun c4 => ?_)
        · refine lv_iload_n hx hb dJ6_numberOfTrailingZeros_0f7a4_62 rfl (lv_at hl 1 rfl) ?_
          refine lv_iconst (v := nI 4) hx hb dJ6_numberOfTrailingZeros_0f7a4_63 (by decide) ?_
          refine lv_icmp_le (tgt := 74) hx hb dJ6_numberOfTrailingZeros_0f7a4_64 (by decide) (fun c5 => ?_) (fun c5 => ?_)
          · refine lv_iload_n hx hb dJ6_numberOfTrailingZeros_0f7a4_74 rfl (lv_at hl 0 rfl) ?_
            refine lv_iload_n hx hb dJ6_numberOfTrailingZeros_0f7a4_75 rfl (lv_at hl 1 rfl) ?_
            refine lv_iconst (v := nI 1) hx hb dJ6_numberOfTrailingZeros_0f7a4_76 (by decide) ?_
            refine lv_iushr (v := ((kz t).toUInt32 >>> ((nI 1).toUInt32 &&& Int32.toUInt32 31)).toInt32) hx hb dJ6_numberOfTrailingZeros_0f7a4_77 (rfl) ?_
            refine lv_iadd hx hb dJ6_numberOfTrailingZeros_0f7a4_78 ?_
            have hh : ∀ t, t < 33 → (0 < kz t ∧ kz t ≤ 65536 ∧ kz t ≤ nI 256 ∧ kz t ≤ nI 16 ∧ kz t ≤ nI 4) → (nI 1) + (((kz t).toUInt32 >>> ((nI 1).toUInt32 &&& Int32.toUInt32 31)).toInt32) = nI t := by decide +kernel
            exact rd_i hx hb hr hlocks dJ6_numberOfTrailingZeros_0f7a4_79 (hh t ht ⟨c1, c2, c3, c4, c5⟩)
          · refine lv_iinc (v := nI (1 + 2)) (lv' := [(1, .int (nI (1 + 2))), (0, .int (kz t))]) hx hb dJ6_numberOfTrailingZeros_0f7a4_67 hl (k := 0) rfl (nI_add 1 2) (by decide) rfl (fun ls hl => ?_)
            refine lv_iload_n hx hb dJ6_numberOfTrailingZeros_0f7a4_70 rfl (lv_at hl 1 rfl) ?_
            refine lv_iconst (v := nI 2) hx hb dJ6_numberOfTrailingZeros_0f7a4_71 (by decide) ?_
            refine lv_iushr (v := ((kz t).toUInt32 >>> ((nI 2).toUInt32 &&& Int32.toUInt32 31)).toInt32) hx hb dJ6_numberOfTrailingZeros_0f7a4_72 (rfl) ?_
            refine lv_istore_n (lv' := [(0, .int (((kz t).toUInt32 >>> ((nI 2).toUInt32 &&& Int32.toUInt32 31)).toInt32)), (1, .int (nI (1 + 2)))]) hx hb dJ6_numberOfTrailingZeros_0f7a4_73 rfl hl (by decide) rfl (fun ls hl => ?_)
            refine lv_iload_n hx hb dJ6_numberOfTrailingZeros_0f7a4_74 rfl (lv_at hl 1 rfl) ?_
            refine lv_iload_n hx hb dJ6_numberOfTrailingZeros_0f7a4_75 rfl (lv_at hl 0 rfl) ?_
            refine lv_iconst (v := nI 1) hx hb dJ6_numberOfTrailingZeros_0f7a4_76 (by decide) ?_
            refine lv_iushr (v := ((((kz t).toUInt32 >>> ((nI 2).toUInt32 &&& Int32.toUInt32 31)).toInt32).toUInt32 >>> ((nI 1).toUInt32 &&& Int32.toUInt32 31)).toInt32) hx hb dJ6_numberOfTrailingZeros_0f7a4_77 (rfl) ?_
            refine lv_iadd hx hb dJ6_numberOfTrailingZeros_0f7a4_78 ?_
            have hh : ∀ t, t < 33 → (0 < kz t ∧ kz t ≤ 65536 ∧ kz t ≤ nI 256 ∧ kz t ≤ nI 16 ∧ ¬ kz t ≤ nI 4) → (nI (1 + 2)) + (((((kz t).toUInt32 >>> ((nI 2).toUInt32 &&& Int32.toUInt32 31)).toInt32).toUInt32 >>> ((nI 1).toUInt32 &&& Int32.toUInt32 31)).toInt32) = nI t := by decide +kernel
            exact rd_i hx hb hr hlocks dJ6_numberOfTrailingZeros_0f7a4_79 (hh t ht ⟨c1, c2, c3, c4, c5⟩)
        · refine lv_iinc (v := nI (1 + 4)) (lv' := [(1, .int (nI (1 + 4))), (0, .int (kz t))]) hx hb dJ6_numberOfTrailingZeros_0f7a4_55 hl (k := 0) rfl (nI_add 1 4) (by decide) rfl (fun ls hl => ?_)
          refine lv_iload_n hx hb dJ6_numberOfTrailingZeros_0f7a4_58 rfl (lv_at hl 1 rfl) ?_
          refine lv_iconst (v := nI 4) hx hb dJ6_numberOfTrailingZeros_0f7a4_59 (by decide) ?_
          refine lv_iushr (v := ((kz t).toUInt32 >>> ((nI 4).toUInt32 &&& Int32.toUInt32 31)).toInt32) hx hb dJ6_numberOfTrailingZeros_0f7a4_60 (rfl) ?_
          refine lv_istore_n (lv' := [(0, .int (((kz t).toUInt32 >>> ((nI 4).toUInt32 &&& Int32.toUInt32 31)).toInt32)), (1, .int (nI (1 + 4)))]) hx hb dJ6_numberOfTrailingZeros_0f7a4_61 rfl hl (by decide) rfl (fun ls hl => ?_)
          refine lv_iload_n hx hb dJ6_numberOfTrailingZeros_0f7a4_62 rfl (lv_at hl 0 rfl) ?_
          refine lv_iconst (v := nI 4) hx hb dJ6_numberOfTrailingZeros_0f7a4_63 (by decide) ?_
          refine lv_icmp_le (tgt := 74) hx hb dJ6_numberOfTrailingZeros_0f7a4_64 (by decide) (fun c5 => ?_) (fun c5 => ?_)
          · refine lv_iload_n hx hb dJ6_numberOfTrailingZeros_0f7a4_74 rfl (lv_at hl 1 rfl) ?_
            refine lv_iload_n hx hb dJ6_numberOfTrailingZeros_0f7a4_75 rfl (lv_at hl 0 rfl) ?_
            refine lv_iconst (v := nI 1) hx hb dJ6_numberOfTrailingZeros_0f7a4_76 (by decide) ?_
            refine lv_iushr (v := ((((kz t).toUInt32 >>> ((nI 4).toUInt32 &&& Int32.toUInt32 31)).toInt32).toUInt32 >>> ((nI 1).toUInt32 &&& Int32.toUInt32 31)).toInt32) hx hb dJ6_numberOfTrailingZeros_0f7a4_77 (rfl) ?_
            refine lv_iadd hx hb dJ6_numberOfTrailingZeros_0f7a4_78 ?_
            have hh : ∀ t, t < 33 → (0 < kz t ∧ kz t ≤ 65536 ∧ kz t ≤ nI 256 ∧ ¬ kz t ≤ nI 16 ∧ ((kz t).toUInt32 >>> ((nI 4).toUInt32 &&& Int32.toUInt32 31)).toInt32 ≤ nI 4) → (nI (1 + 4)) + (((((kz t).toUInt32 >>> ((nI 4).toUInt32 &&& Int32.toUInt32 31)).toInt32).toUInt32 >>> ((nI 1).toUInt32 &&& Int32.toUInt32 31)).toInt32) = nI t := by decide +kernel
            exact rd_i hx hb hr hlocks dJ6_numberOfTrailingZeros_0f7a4_79 (hh t ht ⟨c1, c2, c3, c4, c5⟩)
          · refine lv_iinc (v := nI (1 + 4 + 2)) (lv' := [(1, .int (nI (1 + 4 + 2))), (0, .int (((kz t).toUInt32 >>> ((nI 4).toUInt32 &&& Int32.toUInt32 31)).toInt32))]) hx hb dJ6_numberOfTrailingZeros_0f7a4_67 hl (k := 1) rfl (nI_add (1 + 4) 2) (by decide) rfl (fun ls hl => ?_)
            refine lv_iload_n hx hb dJ6_numberOfTrailingZeros_0f7a4_70 rfl (lv_at hl 1 rfl) ?_
            refine lv_iconst (v := nI 2) hx hb dJ6_numberOfTrailingZeros_0f7a4_71 (by decide) ?_
            refine lv_iushr (v := ((((kz t).toUInt32 >>> ((nI 4).toUInt32 &&& Int32.toUInt32 31)).toInt32).toUInt32 >>> ((nI 2).toUInt32 &&& Int32.toUInt32 31)).toInt32) hx hb dJ6_numberOfTrailingZeros_0f7a4_72 (rfl) ?_
            refine lv_istore_n (lv' := [(0, .int (((((kz t).toUInt32 >>> ((nI 4).toUInt32 &&& Int32.toUInt32 31)).toInt32).toUInt32 >>> ((nI 2).toUInt32 &&& Int32.toUInt32 31)).toInt32)), (1, .int (nI (1 + 4 + 2)))]) hx hb dJ6_numberOfTrailingZeros_0f7a4_73 rfl hl (by decide) rfl (fun ls hl => ?_)
            refine lv_iload_n hx hb dJ6_numberOfTrailingZeros_0f7a4_74 rfl (lv_at hl 1 rfl) ?_
            refine lv_iload_n hx hb dJ6_numberOfTrailingZeros_0f7a4_75 rfl (lv_at hl 0 rfl) ?_
            refine lv_iconst (v := nI 1) hx hb dJ6_numberOfTrailingZeros_0f7a4_76 (by decide) ?_
            refine lv_iushr (v := ((((((kz t).toUInt32 >>> ((nI 4).toUInt32 &&& Int32.toUInt32 31)).toInt32).toUInt32 >>> ((nI 2).toUInt32 &&& Int32.toUInt32 31)).toInt32).toUInt32 >>> ((nI 1).toUInt32 &&& Int32.toUInt32 31)).toInt32) hx hb dJ6_numberOfTrailingZeros_0f7a4_77 (rfl) ?_
            refine lv_iadd hx hb dJ6_numberOfTrailingZeros_0f7a4_78 ?_
            have hh : ∀ t, t < 33 → (0 < kz t ∧ kz t ≤ 65536 ∧ kz t ≤ nI 256 ∧ ¬ kz t ≤ nI 16 ∧ ¬ ((kz t).toUInt32 >>> ((nI 4).toUInt32 &&& Int32.toUInt32 31)).toInt32 ≤ nI 4) → (nI (1 + 4 + 2)) + (((((((kz t).toUInt32 >>> ((nI 4).toUInt32 &&& Int32.toUInt32 31)).toInt32).toUInt32 >>> ((nI 2).toUInt32 &&& Int32.toUInt32 31)).toInt32).toUInt32 >>> ((nI 1).toUInt32 &&& Int32.toUInt32 31)).toInt32) = nI t := by decide +kernel
            exact rd_i hx hb hr hlocks dJ6_numberOfTrailingZeros_0f7a4_79 (hh t ht ⟨c1, c2, c3, c4, c5⟩)
      · refine lv_iinc (v := nI (1 + 8)) (lv' := [(1, .int (nI (1 + 8))), (0, .int (kz t))]) hx hb dJ6_numberOfTrailingZeros_0f7a4_41 hl (k := 0) rfl (nI_add 1 8) (by decide) rfl (fun ls hl => ?_)
        refine lv_iload_n hx hb dJ6_numberOfTrailingZeros_0f7a4_44 rfl (lv_at hl 1 rfl) ?_
        refine lv_bipush (v := nI 8) hx hb dJ6_numberOfTrailingZeros_0f7a4_45 (by decide) ?_
        refine lv_iushr (v := ((kz t).toUInt32 >>> ((nI 8).toUInt32 &&& Int32.toUInt32 31)).toInt32) hx hb dJ6_numberOfTrailingZeros_0f7a4_47 (rfl) ?_
        refine lv_istore_n (lv' := [(0, .int (((kz t).toUInt32 >>> ((nI 8).toUInt32 &&& Int32.toUInt32 31)).toInt32)), (1, .int (nI (1 + 8)))]) hx hb dJ6_numberOfTrailingZeros_0f7a4_48 rfl hl (by decide) rfl (fun ls hl => ?_)
        refine lv_iload_n hx hb dJ6_numberOfTrailingZeros_0f7a4_49 rfl (lv_at hl 0 rfl) ?_
        refine lv_bipush (v := nI 16) hx hb dJ6_numberOfTrailingZeros_0f7a4_50 (by decide) ?_
        refine lv_icmp_le (tgt := 62) hx hb dJ6_numberOfTrailingZeros_0f7a4_52 (by decide) (fun c4 => ?_) (fun c4 => ?_)
        · refine lv_iload_n hx hb dJ6_numberOfTrailingZeros_0f7a4_62 rfl (lv_at hl 0 rfl) ?_
          refine lv_iconst (v := nI 4) hx hb dJ6_numberOfTrailingZeros_0f7a4_63 (by decide) ?_
          refine lv_icmp_le (tgt := 74) hx hb dJ6_numberOfTrailingZeros_0f7a4_64 (by decide) (fun c5 => ?_) (fun c5 => ?_)
          · refine lv_iload_n hx hb dJ6_numberOfTrailingZeros_0f7a4_74 rfl (lv_at hl 1 rfl) ?_
            refine lv_iload_n hx hb dJ6_numberOfTrailingZeros_0f7a4_75 rfl (lv_at hl 0 rfl) ?_
            refine lv_iconst (v := nI 1) hx hb dJ6_numberOfTrailingZeros_0f7a4_76 (by decide) ?_
            refine lv_iushr (v := ((((kz t).toUInt32 >>> ((nI 8).toUInt32 &&& Int32.toUInt32 31)).toInt32).toUInt32 >>> ((nI 1).toUInt32 &&& Int32.toUInt32 31)).toInt32) hx hb dJ6_numberOfTrailingZeros_0f7a4_77 (rfl) ?_
            refine lv_iadd hx hb dJ6_numberOfTrailingZeros_0f7a4_78 ?_
            have hh : ∀ t, t < 33 → (0 < kz t ∧ kz t ≤ 65536 ∧ ¬ kz t ≤ nI 256 ∧ ((kz t).toUInt32 >>> ((nI 8).toUInt32 &&& Int32.toUInt32 31)).toInt32 ≤ nI 16 ∧ ((kz t).toUInt32 >>> ((nI 8).toUInt32 &&& Int32.toUInt32 31)).toInt32 ≤ nI 4) → (nI (1 + 8)) + (((((kz t).toUInt32 >>> ((nI 8).toUInt32 &&& Int32.toUInt32 31)).toInt32).toUInt32 >>> ((nI 1).toUInt32 &&& Int32.toUInt32 31)).toInt32) = nI t := by decide +kernel
            exact rd_i hx hb hr hlocks dJ6_numberOfTrailingZeros_0f7a4_79 (hh t ht ⟨c1, c2, c3, c4, c5⟩)
          · refine lv_iinc (v := nI (1 + 8 + 2)) (lv' := [(1, .int (nI (1 + 8 + 2))), (0, .int (((kz t).toUInt32 >>> ((nI 8).toUInt32 &&& Int32.toUInt32 31)).toInt32))]) hx hb dJ6_numberOfTrailingZeros_0f7a4_67 hl (k := 1) rfl (nI_add (1 + 8) 2) (by decide) rfl (fun ls hl => ?_)
            refine lv_iload_n hx hb dJ6_numberOfTrailingZeros_0f7a4_70 rfl (lv_at hl 1 rfl) ?_
            refine lv_iconst (v := nI 2) hx hb dJ6_numberOfTrailingZeros_0f7a4_71 (by decide) ?_
            refine lv_iushr (v := ((((kz t).toUInt32 >>> ((nI 8).toUInt32 &&& Int32.toUInt32 31)).toInt32).toUInt32 >>> ((nI 2).toUInt32 &&& Int32.toUInt32 31)).toInt32) hx hb dJ6_numberOfTrailingZeros_0f7a4_72 (rfl) ?_
            refine lv_istore_n (lv' := [(0, .int (((((kz t).toUInt32 >>> ((nI 8).toUInt32 &&& Int32.toUInt32 31)).toInt32).toUInt32 >>> ((nI 2).toUInt32 &&& Int32.toUInt32 31)).toInt32)), (1, .int (nI (1 + 8 + 2)))]) hx hb dJ6_numberOfTrailingZeros_0f7a4_73 rfl hl (by decide) rfl (fun ls hl => ?_)
            refine lv_iload_n hx hb dJ6_numberOfTrailingZeros_0f7a4_74 rfl (lv_at hl 1 rfl) ?_
            refine lv_iload_n hx hb dJ6_numberOfTrailingZeros_0f7a4_75 rfl (lv_at hl 0 rfl) ?_
            refine lv_iconst (v := nI 1) hx hb dJ6_numberOfTrailingZeros_0f7a4_76 (by decide) ?_
            refine lv_iushr (v := ((((((kz t).toUInt32 >>> ((nI 8).toUInt32 &&& Int32.toUInt32 31)).toInt32).toUInt32 >>> ((nI 2).toUInt32 &&& Int32.toUInt32 31)).toInt32).toUInt32 >>> ((nI 1).toUInt32 &&& Int32.toUInt32 31)).toInt32) hx hb dJ6_numberOfTrailingZeros_0f7a4_77 (rfl) ?_
            refine lv_iadd hx hb dJ6_numberOfTrailingZeros_0f7a4_78 ?_
            have hh : ∀ t, t < 33 → (0 < kz t ∧ kz t ≤ 65536 ∧ ¬ kz t ≤ nI 256 ∧ ((kz t).toUInt32 >>> ((nI 8).toUInt32 &&& Int32.toUInt32 31)).toInt32 ≤ nI 16 ∧ ¬ ((kz t).toUInt32 >>> ((nI 8).toUInt32 &&& Int32.toUInt32 31)).toInt32 ≤ nI 4) → (nI (1 + 8 + 2)) + (((((((kz t).toUInt32 >>> ((nI 8).toUInt32 &&& Int32.toUInt32 31)).toInt32).toUInt32 >>> ((nI 2).toUInt32 &&& Int32.toUInt32 31)).toInt32).toUInt32 >>> ((nI 1).toUInt32 &&& Int32.toUInt32 31)).toInt32) = nI t := by decide +kernel
            exact rd_i hx hb hr hlocks dJ6_numberOfTrailingZeros_0f7a4_79 (hh t ht ⟨c1, c2, c3, c4, c5⟩)
        · refine lv_iinc (v := nI (1 + 8 + 4)) (lv' := [(1, .int (nI (1 + 8 + 4))), (0, .int (((kz t).toUInt32 >>> ((nI 8).toUInt32 &&& Int32.toUInt32 31)).toInt32))]) hx hb dJ6_numberOfTrailingZeros_0f7a4_55 hl (k := 1) rfl (nI_add (1 + 8) 4) (by decide) rfl (fun ls hl => ?_)
          refine lv_iload_n hx hb dJ6_numberOfTrailingZeros_0f7a4_58 rfl (lv_at hl 1 rfl) ?_
          refine lv_iconst (v := nI 4) hx hb dJ6_numberOfTrailingZeros_0f7a4_59 (by decide) ?_
          refine lv_iushr (v := ((((kz t).toUInt32 >>> ((nI 8).toUInt32 &&& Int32.toUInt32 31)).toInt32).toUInt32 >>> ((nI 4).toUInt32 &&& Int32.toUInt32 31)).toInt32) hx hb dJ6_numberOfTrailingZeros_0f7a4_60 (rfl) ?_
          refine lv_istore_n (lv' := [(0, .int (((((kz t).toUInt32 >>> ((nI 8).toUInt32 &&& Int32.toUInt32 31)).toInt32).toUInt32 >>> ((nI 4).toUInt32 &&& Int32.toUInt32 31)).toInt32)), (1, .int (nI (1 + 8 + 4)))]) hx hb dJ6_numberOfTrailingZeros_0f7a4_61 rfl hl (by decide) rfl (fun ls hl => ?_)
          refine lv_iload_n hx hb dJ6_numberOfTrailingZeros_0f7a4_62 rfl (lv_at hl 0 rfl) ?_
          refine lv_iconst (v := nI 4) hx hb dJ6_numberOfTrailingZeros_0f7a4_63 (by decide) ?_
          refine lv_icmp_le (tgt := 74) hx hb dJ6_numberOfTrailingZeros_0f7a4_64 (by decide) (fun c5 => ?_) (fun c5 => ?_)
          · refine lv_iload_n hx hb dJ6_numberOfTrailingZeros_0f7a4_74 rfl (lv_at hl 1 rfl) ?_
            refine lv_iload_n hx hb dJ6_numberOfTrailingZeros_0f7a4_75 rfl (lv_at hl 0 rfl) ?_
            refine lv_iconst (v := nI 1) hx hb dJ6_numberOfTrailingZeros_0f7a4_76 (by decide) ?_
            refine lv_iushr (v := ((((((kz t).toUInt32 >>> ((nI 8).toUInt32 &&& Int32.toUInt32 31)).toInt32).toUInt32 >>> ((nI 4).toUInt32 &&& Int32.toUInt32 31)).toInt32).toUInt32 >>> ((nI 1).toUInt32 &&& Int32.toUInt32 31)).toInt32) hx hb dJ6_numberOfTrailingZeros_0f7a4_77 (rfl) ?_
            refine lv_iadd hx hb dJ6_numberOfTrailingZeros_0f7a4_78 ?_
            have hh : ∀ t, t < 33 → (0 < kz t ∧ kz t ≤ 65536 ∧ ¬ kz t ≤ nI 256 ∧ ¬ ((kz t).toUInt32 >>> ((nI 8).toUInt32 &&& Int32.toUInt32 31)).toInt32 ≤ nI 16 ∧ ((((kz t).toUInt32 >>> ((nI 8).toUInt32 &&& Int32.toUInt32 31)).toInt32).toUInt32 >>> ((nI 4).toUInt32 &&& Int32.toUInt32 31)).toInt32 ≤ nI 4) → (nI (1 + 8 + 4)) + (((((((kz t).toUInt32 >>> ((nI 8).toUInt32 &&& Int32.toUInt32 31)).toInt32).toUInt32 >>> ((nI 4).toUInt32 &&& Int32.toUInt32 31)).toInt32).toUInt32 >>> ((nI 1).toUInt32 &&& Int32.toUInt32 31)).toInt32) = nI t := by decide +kernel
            exact rd_i hx hb hr hlocks dJ6_numberOfTrailingZeros_0f7a4_79 (hh t ht ⟨c1, c2, c3, c4, c5⟩)
          · refine lv_iinc (v := nI (1 + 8 + 4 + 2)) (lv' := [(1, .int (nI (1 + 8 + 4 + 2))), (0, .int (((((kz t).toUInt32 >>> ((nI 8).toUInt32 &&& Int32.toUInt32 31)).toInt32).toUInt32 >>> ((nI 4).toUInt32 &&& Int32.toUInt32 31)).toInt32))]) hx hb dJ6_numberOfTrailingZeros_0f7a4_67 hl (k := 1) rfl (nI_add (1 + 8 + 4) 2) (by decide) rfl (fun ls hl => ?_)
            refine lv_iload_n hx hb dJ6_numberOfTrailingZeros_0f7a4_70 rfl (lv_at hl 1 rfl) ?_
            refine lv_iconst (v := nI 2) hx hb dJ6_numberOfTrailingZeros_0f7a4_71 (by decide) ?_
            refine lv_iushr (v := ((((((kz t).toUInt32 >>> ((nI 8).toUInt32 &&& Int32.toUInt32 31)).toInt32).toUInt32 >>> ((nI 4).toUInt32 &&& Int32.toUInt32 31)).toInt32).toUInt32 >>> ((nI 2).toUInt32 &&& Int32.toUInt32 31)).toInt32) hx hb dJ6_numberOfTrailingZeros_0f7a4_72 (rfl) ?_
            refine lv_istore_n (lv' := [(0, .int (((((((kz t).toUInt32 >>> ((nI 8).toUInt32 &&& Int32.toUInt32 31)).toInt32).toUInt32 >>> ((nI 4).toUInt32 &&& Int32.toUInt32 31)).toInt32).toUInt32 >>> ((nI 2).toUInt32 &&& Int32.toUInt32 31)).toInt32)), (1, .int (nI (1 + 8 + 4 + 2)))]) hx hb dJ6_numberOfTrailingZeros_0f7a4_73 rfl hl (by decide) rfl (fun ls hl => ?_)
            refine lv_iload_n hx hb dJ6_numberOfTrailingZeros_0f7a4_74 rfl (lv_at hl 1 rfl) ?_
            refine lv_iload_n hx hb dJ6_numberOfTrailingZeros_0f7a4_75 rfl (lv_at hl 0 rfl) ?_
            refine lv_iconst (v := nI 1) hx hb dJ6_numberOfTrailingZeros_0f7a4_76 (by decide) ?_
            refine lv_iushr (v := ((((((((kz t).toUInt32 >>> ((nI 8).toUInt32 &&& Int32.toUInt32 31)).toInt32).toUInt32 >>> ((nI 4).toUInt32 &&& Int32.toUInt32 31)).toInt32).toUInt32 >>> ((nI 2).toUInt32 &&& Int32.toUInt32 31)).toInt32).toUInt32 >>> ((nI 1).toUInt32 &&& Int32.toUInt32 31)).toInt32) hx hb dJ6_numberOfTrailingZeros_0f7a4_77 (rfl) ?_
            refine lv_iadd hx hb dJ6_numberOfTrailingZeros_0f7a4_78 ?_
            have hh : ∀ t, t < 33 → (0 < kz t ∧ kz t ≤ 65536 ∧ ¬ kz t ≤ nI 256 ∧ ¬ ((kz t).toUInt32 >>> ((nI 8).toUInt32 &&& Int32.toUInt32 31)).toInt32 ≤ nI 16 ∧ ¬ ((((kz t).toUInt32 >>> ((nI 8).toUInt32 &&& Int32.toUInt32 31)).toInt32).toUInt32 >>> ((nI 4).toUInt32 &&& Int32.toUInt32 31)).toInt32 ≤ nI 4) → (nI (1 + 8 + 4 + 2)) + (((((((((kz t).toUInt32 >>> ((nI 8).toUInt32 &&& Int32.toUInt32 31)).toInt32).toUInt32 >>> ((nI 4).toUInt32 &&& Int32.toUInt32 31)).toInt32).toUInt32 >>> ((nI 2).toUInt32 &&& Int32.toUInt32 31)).toInt32).toUInt32 >>> ((nI 1).toUInt32 &&& Int32.toUInt32 31)).toInt32) = nI t := by decide +kernel
            exact rd_i hx hb hr hlocks dJ6_numberOfTrailingZeros_0f7a4_79 (hh t ht ⟨c1, c2, c3, c4, c5⟩)
    · refine lv_iinc (v := nI (1 + 16)) (lv' := [(1, .int (nI (1 + 16))), (0, .int (kz t))]) hx hb dJ6_numberOfTrailingZeros_0f7a4_26 hl (k := 0) rfl (nI_add 1 16) (by decide) rfl (fun ls hl => ?_)
      refine lv_iload_n hx hb dJ6_numberOfTrailingZeros_0f7a4_29 rfl (lv_at hl 1 rfl) ?_
      refine lv_bipush (v := nI 16) hx hb dJ6_numberOfTrailingZeros_0f7a4_30 (by decide) ?_
      refine lv_iushr (v := ((kz t).toUInt32 >>> ((nI 16).toUInt32 &&& Int32.toUInt32 31)).toInt32) hx hb dJ6_numberOfTrailingZeros_0f7a4_32 (rfl) ?_
      refine lv_istore_n (lv' := [(0, .int (((kz t).toUInt32 >>> ((nI 16).toUInt32 &&& Int32.toUInt32 31)).toInt32)), (1, .int (nI (1 + 16)))]) hx hb dJ6_numberOfTrailingZeros_0f7a4_33 rfl hl (by decide) rfl (fun ls hl => ?_)
      refine lv_iload_n hx hb dJ6_numberOfTrailingZeros_0f7a4_34 rfl (lv_at hl 0 rfl) ?_
      refine lv_sipush (v := nI 256) hx hb dJ6_numberOfTrailingZeros_0f7a4_35 (by decide) ?_
      refine lv_icmp_le (tgt := 49) hx hb dJ6_numberOfTrailingZeros_0f7a4_38 (by decide) (fun c3 => ?_) (fun c3 => ?_)
      · refine lv_iload_n hx hb dJ6_numberOfTrailingZeros_0f7a4_49 rfl (lv_at hl 0 rfl) ?_
        refine lv_bipush (v := nI 16) hx hb dJ6_numberOfTrailingZeros_0f7a4_50 (by decide) ?_
        refine lv_icmp_le (tgt := 62) hx hb dJ6_numberOfTrailingZeros_0f7a4_52 (by decide) (fun c4 => ?_) (fun c4 => ?_)
        · refine lv_iload_n hx hb dJ6_numberOfTrailingZeros_0f7a4_62 rfl (lv_at hl 0 rfl) ?_
          refine lv_iconst (v := nI 4) hx hb dJ6_numberOfTrailingZeros_0f7a4_63 (by decide) ?_
          refine lv_icmp_le (tgt := 74) hx hb dJ6_numberOfTrailingZeros_0f7a4_64 (by decide) (fun c5 => ?_) (fun c5 => ?_)
          · refine lv_iload_n hx hb dJ6_numberOfTrailingZeros_0f7a4_74 rfl (lv_at hl 1 rfl) ?_
            refine lv_iload_n hx hb dJ6_numberOfTrailingZeros_0f7a4_75 rfl (lv_at hl 0 rfl) ?_
            refine lv_iconst (v := nI 1) hx hb dJ6_numberOfTrailingZeros_0f7a4_76 (by decide) ?_
            refine lv_iushr (v := ((((kz t).toUInt32 >>> ((nI 16).toUInt32 &&& Int32.toUInt32 31)).toInt32).toUInt32 >>> ((nI 1).toUInt32 &&& Int32.toUInt32 31)).toInt32) hx hb dJ6_numberOfTrailingZeros_0f7a4_77 (rfl) ?_
            refine lv_iadd hx hb dJ6_numberOfTrailingZeros_0f7a4_78 ?_
            have hh : ∀ t, t < 33 → (0 < kz t ∧ ¬ kz t ≤ 65536 ∧ ((kz t).toUInt32 >>> ((nI 16).toUInt32 &&& Int32.toUInt32 31)).toInt32 ≤ nI 256 ∧ ((kz t).toUInt32 >>> ((nI 16).toUInt32 &&& Int32.toUInt32 31)).toInt32 ≤ nI 16 ∧ ((kz t).toUInt32 >>> ((nI 16).toUInt32 &&& Int32.toUInt32 31)).toInt32 ≤ nI 4) → (nI (1 + 16)) + (((((kz t).toUInt32 >>> ((nI 16).toUInt32 &&& Int32.toUInt32 31)).toInt32).toUInt32 >>> ((nI 1).toUInt32 &&& Int32.toUInt32 31)).toInt32) = nI t := by decide +kernel
            exact rd_i hx hb hr hlocks dJ6_numberOfTrailingZeros_0f7a4_79 (hh t ht ⟨c1, c2, c3, c4, c5⟩)
          · refine lv_iinc (v := nI (1 + 16 + 2)) (lv' := [(1, .int (nI (1 + 16 + 2))), (0, .int (((kz t).toUInt32 >>> ((nI 16).toUInt32 &&& Int32.toUInt32 31)).toInt32))]) hx hb dJ6_numberOfTrailingZeros_0f7a4_67 hl (k := 1) rfl (nI_add (1 + 16) 2) (by decide) rfl (fun ls hl => ?_)
            refine lv_iload_n hx hb dJ6_numberOfTrailingZeros_0f7a4_70 rfl (lv_at hl 1 rfl) ?_
            refine lv_iconst (v := nI 2) hx hb dJ6_numberOfTrailingZeros_0f7a4_71 (by decide) ?_
            refine lv_iushr (v := ((((kz t).toUInt32 >>> ((nI 16).toUInt32 &&& Int32.toUInt32 31)).toInt32).toUInt32 >>> ((nI 2).toUInt32 &&& Int32.toUInt32 31)).toInt32) hx hb dJ6_numberOfTrailingZeros_0f7a4_72 (rfl) ?_
            refine lv_istore_n (lv' := [(0, .int (((((kz t).toUInt32 >>> ((nI 16).toUInt32 &&& Int32.toUInt32 31)).toInt32).toUInt32 >>> ((nI 2).toUInt32 &&& Int32.toUInt32 31)).toInt32)), (1, .int (nI (1 + 16 + 2)))]) hx hb dJ6_numberOfTrailingZeros_0f7a4_73 rfl hl (by decide) rfl (fun ls hl => ?_)
            refine lv_iload_n hx hb dJ6_numberOfTrailingZeros_0f7a4_74 rfl (lv_at hl 1 rfl) ?_
            refine lv_iload_n hx hb dJ6_numberOfTrailingZeros_0f7a4_75 rfl (lv_at hl 0 rfl) ?_
            refine lv_iconst (v := nI 1) hx hb dJ6_numberOfTrailingZeros_0f7a4_76 (by decide) ?_
            refine lv_iushr (v := ((((((kz t).toUInt32 >>> ((nI 16).toUInt32 &&& Int32.toUInt32 31)).toInt32).toUInt32 >>> ((nI 2).toUInt32 &&& Int32.toUInt32 31)).toInt32).toUInt32 >>> ((nI 1).toUInt32 &&& Int32.toUInt32 31)).toInt32) hx hb dJ6_numberOfTrailingZeros_0f7a4_77 (rfl) ?_
            refine lv_iadd hx hb dJ6_numberOfTrailingZeros_0f7a4_78 ?_
            have hh : ∀ t, t < 33 → (0 < kz t ∧ ¬ kz t ≤ 65536 ∧ ((kz t).toUInt32 >>> ((nI 16).toUInt32 &&& Int32.toUInt32 31)).toInt32 ≤ nI 256 ∧ ((kz t).toUInt32 >>> ((nI 16).toUInt32 &&& Int32.toUInt32 31)).toInt32 ≤ nI 16 ∧ ¬ ((kz t).toUInt32 >>> ((nI 16).toUInt32 &&& Int32.toUInt32 31)).toInt32 ≤ nI 4) → (nI (1 + 16 + 2)) + (((((((kz t).toUInt32 >>> ((nI 16).toUInt32 &&& Int32.toUInt32 31)).toInt32).toUInt32 >>> ((nI 2).toUInt32 &&& Int32.toUInt32 31)).toInt32).toUInt32 >>> ((nI 1).toUInt32 &&& Int32.toUInt32 31)).toInt32) = nI t := by decide +kernel
            exact rd_i hx hb hr hlocks dJ6_numberOfTrailingZeros_0f7a4_79 (hh t ht ⟨c1, c2, c3, c4, c5⟩)
        · refine lv_iinc (v := nI (1 + 16 + 4)) (lv' := [(1, .int (nI (1 + 16 + 4))), (0, .int (((kz t).toUInt32 >>> ((nI 16).toUInt32 &&& Int32.toUInt32 31)).toInt32))]) hx hb dJ6_numberOfTrailingZeros_0f7a4_55 hl (k := 1) rfl (nI_add (1 + 16) 4) (by decide) rfl (fun ls hl => ?_)
          refine lv_iload_n hx hb dJ6_numberOfTrailingZeros_0f7a4_58 rfl (lv_at hl 1 rfl) ?_
          refine lv_iconst (v := nI 4) hx hb dJ6_numberOfTrailingZeros_0f7a4_59 (by decide) ?_
          refine lv_iushr (v := ((((kz t).toUInt32 >>> ((nI 16).toUInt32 &&& Int32.toUInt32 31)).toInt32).toUInt32 >>> ((nI 4).toUInt32 &&& Int32.toUInt32 31)).toInt32) hx hb dJ6_numberOfTrailingZeros_0f7a4_60 (rfl) ?_
          refine lv_istore_n (lv' := [(0, .int (((((kz t).toUInt32 >>> ((nI 16).toUInt32 &&& Int32.toUInt32 31)).toInt32).toUInt32 >>> ((nI 4).toUInt32 &&& Int32.toUInt32 31)).toInt32)), (1, .int (nI (1 + 16 + 4)))]) hx hb dJ6_numberOfTrailingZeros_0f7a4_61 rfl hl (by decide) rfl (fun ls hl => ?_)
          refine lv_iload_n hx hb dJ6_numberOfTrailingZeros_0f7a4_62 rfl (lv_at hl 0 rfl) ?_
          refine lv_iconst (v := nI 4) hx hb dJ6_numberOfTrailingZeros_0f7a4_63 (by decide) ?_
          refine lv_icmp_le (tgt := 74) hx hb dJ6_numberOfTrailingZeros_0f7a4_64 (by decide) (fun c5 => ?_) (fun c5 => ?_)
          · refine lv_iload_n hx hb dJ6_numberOfTrailingZeros_0f7a4_74 rfl (lv_at hl 1 rfl) ?_
            refine lv_iload_n hx hb dJ6_numberOfTrailingZeros_0f7a4_75 rfl (lv_at hl 0 rfl) ?_
            refine lv_iconst (v := nI 1) hx hb dJ6_numberOfTrailingZeros_0f7a4_76 (by decide) ?_
            refine lv_iushr (v := ((((((kz t).toUInt32 >>> ((nI 16).toUInt32 &&& Int32.toUInt32 31)).toInt32).toUInt32 >>> ((nI 4).toUInt32 &&& Int32.toUInt32 31)).toInt32).toUInt32 >>> ((nI 1).toUInt32 &&& Int32.toUInt32 31)).toInt32) hx hb dJ6_numberOfTrailingZeros_0f7a4_77 (rfl) ?_
            refine lv_iadd hx hb dJ6_numberOfTrailingZeros_0f7a4_78 ?_
            have hh : ∀ t, t < 33 → (0 < kz t ∧ ¬ kz t ≤ 65536 ∧ ((kz t).toUInt32 >>> ((nI 16).toUInt32 &&& Int32.toUInt32 31)).toInt32 ≤ nI 256 ∧ ¬ ((kz t).toUInt32 >>> ((nI 16).toUInt32 &&& Int32.toUInt32 31)).toInt32 ≤ nI 16 ∧ ((((kz t).toUInt32 >>> ((nI 16).toUInt32 &&& Int32.toUInt32 31)).toInt32).toUInt32 >>> ((nI 4).toUInt32 &&& Int32.toUInt32 31)).toInt32 ≤ nI 4) → (nI (1 + 16 + 4)) + (((((((kz t).toUInt32 >>> ((nI 16).toUInt32 &&& Int32.toUInt32 31)).toInt32).toUInt32 >>> ((nI 4).toUInt32 &&& Int32.toUInt32 31)).toInt32).toUInt32 >>> ((nI 1).toUInt32 &&& Int32.toUInt32 31)).toInt32) = nI t := by decide +kernel
            exact rd_i hx hb hr hlocks dJ6_numberOfTrailingZeros_0f7a4_79 (hh t ht ⟨c1, c2, c3, c4, c5⟩)
          · refine lv_iinc (v := nI (1 + 16 + 4 + 2)) (lv' := [(1, .int (nI (1 + 16 + 4 + 2))), (0, .int (((((kz t).toUInt32 >>> ((nI 16).toUInt32 &&& Int32.toUInt32 31)).toInt32).toUInt32 >>> ((nI 4).toUInt32 &&& Int32.toUInt32 31)).toInt32))]) hx hb dJ6_numberOfTrailingZeros_0f7a4_67 hl (k := 1) rfl (nI_add (1 + 16 + 4) 2) (by decide) rfl (fun ls hl => ?_)
            refine lv_iload_n hx hb dJ6_numberOfTrailingZeros_0f7a4_70 rfl (lv_at hl 1 rfl) ?_
            refine lv_iconst (v := nI 2) hx hb dJ6_numberOfTrailingZeros_0f7a4_71 (by decide) ?_
            refine lv_iushr (v := ((((((kz t).toUInt32 >>> ((nI 16).toUInt32 &&& Int32.toUInt32 31)).toInt32).toUInt32 >>> ((nI 4).toUInt32 &&& Int32.toUInt32 31)).toInt32).toUInt32 >>> ((nI 2).toUInt32 &&& Int32.toUInt32 31)).toInt32) hx hb dJ6_numberOfTrailingZeros_0f7a4_72 (rfl) ?_
            refine lv_istore_n (lv' := [(0, .int (((((((kz t).toUInt32 >>> ((nI 16).toUInt32 &&& Int32.toUInt32 31)).toInt32).toUInt32 >>> ((nI 4).toUInt32 &&& Int32.toUInt32 31)).toInt32).toUInt32 >>> ((nI 2).toUInt32 &&& Int32.toUInt32 31)).toInt32)), (1, .int (nI (1 + 16 + 4 + 2)))]) hx hb dJ6_numberOfTrailingZeros_0f7a4_73 rfl hl (by decide) rfl (fun ls hl => ?_)
            refine lv_iload_n hx hb dJ6_numberOfTrailingZeros_0f7a4_74 rfl (lv_at hl 1 rfl) ?_
            refine lv_iload_n hx hb dJ6_numberOfTrailingZeros_0f7a4_75 rfl (lv_at hl 0 rfl) ?_
            refine lv_iconst (v := nI 1) hx hb dJ6_numberOfTrailingZeros_0f7a4_76 (by decide) ?_
            refine lv_iushr (v := ((((((((kz t).toUInt32 >>> ((nI 16).toUInt32 &&& Int32.toUInt32 31)).toInt32).toUInt32 >>> ((nI 4).toUInt32 &&& Int32.toUInt32 31)).toInt32).toUInt32 >>> ((nI 2).toUInt32 &&& Int32.toUInt32 31)).toInt32).toUInt32 >>> ((nI 1).toUInt32 &&& Int32.toUInt32 31)).toInt32) hx hb dJ6_numberOfTrailingZeros_0f7a4_77 (rfl) ?_
            refine lv_iadd hx hb dJ6_numberOfTrailingZeros_0f7a4_78 ?_
            have hh : ∀ t, t < 33 → (0 < kz t ∧ ¬ kz t ≤ 65536 ∧ ((kz t).toUInt32 >>> ((nI 16).toUInt32 &&& Int32.toUInt32 31)).toInt32 ≤ nI 256 ∧ ¬ ((kz t).toUInt32 >>> ((nI 16).toUInt32 &&& Int32.toUInt32 31)).toInt32 ≤ nI 16 ∧ ¬ ((((kz t).toUInt32 >>> ((nI 16).toUInt32 &&& Int32.toUInt32 31)).toInt32).toUInt32 >>> ((nI 4).toUInt32 &&& Int32.toUInt32 31)).toInt32 ≤ nI 4) → (nI (1 + 16 + 4 + 2)) + (((((((((kz t).toUInt32 >>> ((nI 16).toUInt32 &&& Int32.toUInt32 31)).toInt32).toUInt32 >>> ((nI 4).toUInt32 &&& Int32.toUInt32 31)).toInt32).toUInt32 >>> ((nI 2).toUInt32 &&& Int32.toUInt32 31)).toInt32).toUInt32 >>> ((nI 1).toUInt32 &&& Int32.toUInt32 31)).toInt32) = nI t := by decide +kernel
            exact rd_i hx hb hr hlocks dJ6_numberOfTrailingZeros_0f7a4_79 (hh t ht ⟨c1, c2, c3, c4, c5⟩)
      · refine lv_iinc (v := nI (1 + 16 + 8)) (lv' := [(1, .int (nI (1 + 16 + 8))), (0, .int (((kz t).toUInt32 >>> ((nI 16).toUInt32 &&& Int32.toUInt32 31)).toInt32))]) hx hb dJ6_numberOfTrailingZeros_0f7a4_41 hl (k := 1) rfl (nI_add (1 + 16) 8) (by decide) rfl (fun ls hl => ?_)
        refine lv_iload_n hx hb dJ6_numberOfTrailingZeros_0f7a4_44 rfl (lv_at hl 1 rfl) ?_
        refine lv_bipush (v := nI 8) hx hb dJ6_numberOfTrailingZeros_0f7a4_45 (by decide) ?_
        refine lv_iushr (v := ((((kz t).toUInt32 >>> ((nI 16).toUInt32 &&& Int32.toUInt32 31)).toInt32).toUInt32 >>> ((nI 8).toUInt32 &&& Int32.toUInt32 31)).toInt32) hx hb dJ6_numberOfTrailingZeros_0f7a4_47 (rfl) ?_
        refine lv_istore_n (lv' := [(0, .int (((((kz t).toUInt32 >>> ((nI 16).toUInt32 &&& Int32.toUInt32 31)).toInt32).toUInt32 >>> ((nI 8).toUInt32 &&& Int32.toUInt32 31)).toInt32)), (1, .int (nI (1 + 16 + 8)))]) hx hb dJ6_numberOfTrailingZeros_0f7a4_48 rfl hl (by decide) rfl (fun ls hl => ?_)
        refine lv_iload_n hx hb dJ6_numberOfTrailingZeros_0f7a4_49 rfl (lv_at hl 0 rfl) ?_
        refine lv_bipush (v := nI 16) hx hb dJ6_numberOfTrailingZeros_0f7a4_50 (by decide) ?_
        refine lv_icmp_le (tgt := 62) hx hb dJ6_numberOfTrailingZeros_0f7a4_52 (by decide) (fun c4 => ?_) (fun c4 => ?_)
        · refine lv_iload_n hx hb dJ6_numberOfTrailingZeros_0f7a4_62 rfl (lv_at hl 0 rfl) ?_
          refine lv_iconst (v := nI 4) hx hb dJ6_numberOfTrailingZeros_0f7a4_63 (by decide) ?_
          refine lv_icmp_le (tgt := 74) hx hb dJ6_numberOfTrailingZeros_0f7a4_64 (by decide) (fun c5 => ?_) (fun c5 => ?_)
          · refine lv_iload_n hx hb dJ6_numberOfTrailingZeros_0f7a4_74 rfl (lv_at hl 1 rfl) ?_
            refine lv_iload_n hx hb dJ6_numberOfTrailingZeros_0f7a4_75 rfl (lv_at hl 0 rfl) ?_
            refine lv_iconst (v := nI 1) hx hb dJ6_numberOfTrailingZeros_0f7a4_76 (by decide) ?_
            refine lv_iushr (v := ((((((kz t).toUInt32 >>> ((nI 16).toUInt32 &&& Int32.toUInt32 31)).toInt32).toUInt32 >>> ((nI 8).toUInt32 &&& Int32.toUInt32 31)).toInt32).toUInt32 >>> ((nI 1).toUInt32 &&& Int32.toUInt32 31)).toInt32) hx hb dJ6_numberOfTrailingZeros_0f7a4_77 (rfl) ?_
            refine lv_iadd hx hb dJ6_numberOfTrailingZeros_0f7a4_78 ?_
            have hh : ∀ t, t < 33 → (0 < kz t ∧ ¬ kz t ≤ 65536 ∧ ¬ ((kz t).toUInt32 >>> ((nI 16).toUInt32 &&& Int32.toUInt32 31)).toInt32 ≤ nI 256 ∧ ((((kz t).toUInt32 >>> ((nI 16).toUInt32 &&& Int32.toUInt32 31)).toInt32).toUInt32 >>> ((nI 8).toUInt32 &&& Int32.toUInt32 31)).toInt32 ≤ nI 16 ∧ ((((kz t).toUInt32 >>> ((nI 16).toUInt32 &&& Int32.toUInt32 31)).toInt32).toUInt32 >>> ((nI 8).toUInt32 &&& Int32.toUInt32 31)).toInt32 ≤ nI 4) → (nI (1 + 16 + 8)) + (((((((kz t).toUInt32 >>> ((nI 16).toUInt32 &&& Int32.toUInt32 31)).toInt32).toUInt32 >>> ((nI 8).toUInt32 &&& Int32.toUInt32 31)).toInt32).toUInt32 >>> ((nI 1).toUInt32 &&& Int32.toUInt32 31)).toInt32) = nI t := by decide +kernel
            exact rd_i hx hb hr hlocks dJ6_numberOfTrailingZeros_0f7a4_79 (hh t ht ⟨c1, c2, c3, c4, c5⟩)
          · refine lv_iinc (v := nI (1 + 16 + 8 + 2)) (lv' := [(1, .int (nI (1 + 16 + 8 + 2))), (0, .int (((((kz t).toUInt32 >>> ((nI 16).toUInt32 &&& Int32.toUInt32 31)).toInt32).toUInt32 >>> ((nI 8).toUInt32 &&& Int32.toUInt32 31)).toInt32))]) hx hb dJ6_numberOfTrailingZeros_0f7a4_67 hl (k := 1) rfl (nI_add (1 + 16 + 8) 2) (by decide) rfl (fun ls hl => ?_)
            refine lv_iload_n hx hb dJ6_numberOfTrailingZeros_0f7a4_70 rfl (lv_at hl 1 rfl) ?_
            refine lv_iconst (v := nI 2) hx hb dJ6_numberOfTrailingZeros_0f7a4_71 (by decide) ?_
            refine lv_iushr (v := ((((((kz t).toUInt32 >>> ((nI 16).toUInt32 &&& Int32.toUInt32 31)).toInt32).toUInt32 >>> ((nI 8).toUInt32 &&& Int32.toUInt32 31)).toInt32).toUInt32 >>> ((nI 2).toUInt32 &&& Int32.toUInt32 31)).toInt32) hx hb dJ6_numberOfTrailingZeros_0f7a4_72 (rfl) ?_
            refine lv_istore_n (lv' := [(0, .int (((((((kz t).toUInt32 >>> ((nI 16).toUInt32 &&& Int32.toUInt32 31)).toInt32).toUInt32 >>> ((nI 8).toUInt32 &&& Int32.toUInt32 31)).toInt32).toUInt32 >>> ((nI 2).toUInt32 &&& Int32.toUInt32 31)).toInt32)), (1, .int (nI (1 + 16 + 8 + 2)))]) hx hb dJ6_numberOfTrailingZeros_0f7a4_73 rfl hl (by decide) rfl (fun ls hl => ?_)
            refine lv_iload_n hx hb dJ6_numberOfTrailingZeros_0f7a4_74 rfl (lv_at hl 1 rfl) ?_
            refine lv_iload_n hx hb dJ6_numberOfTrailingZeros_0f7a4_75 rfl (lv_at hl 0 rfl) ?_
            refine lv_iconst (v := nI 1) hx hb dJ6_numberOfTrailingZeros_0f7a4_76 (by decide) ?_
            refine lv_iushr (v := ((((((((kz t).toUInt32 >>> ((nI 16).toUInt32 &&& Int32.toUInt32 31)).toInt32).toUInt32 >>> ((nI 8).toUInt32 &&& Int32.toUInt32 31)).toInt32).toUInt32 >>> ((nI 2).toUInt32 &&& Int32.toUInt32 31)).toInt32).toUInt32 >>> ((nI 1).toUInt32 &&& Int32.toUInt32 31)).toInt32) hx hb dJ6_numberOfTrailingZeros_0f7a4_77 (rfl) ?_
            refine lv_iadd hx hb dJ6_numberOfTrailingZeros_0f7a4_78 ?_
            have hh : ∀ t, t < 33 → (0 < kz t ∧ ¬ kz t ≤ 65536 ∧ ¬ ((kz t).toUInt32 >>> ((nI 16).toUInt32 &&& Int32.toUInt32 31)).toInt32 ≤ nI 256 ∧ ((((kz t).toUInt32 >>> ((nI 16).toUInt32 &&& Int32.toUInt32 31)).toInt32).toUInt32 >>> ((nI 8).toUInt32 &&& Int32.toUInt32 31)).toInt32 ≤ nI 16 ∧ ¬ ((((kz t).toUInt32 >>> ((nI 16).toUInt32 &&& Int32.toUInt32 31)).toInt32).toUInt32 >>> ((nI 8).toUInt32 &&& Int32.toUInt32 31)).toInt32 ≤ nI 4) → (nI (1 + 16 + 8 + 2)) + (((((((((kz t).toUInt32 >>> ((nI 16).toUInt32 &&& Int32.toUInt32 31)).toInt32).toUInt32 >>> ((nI 8).toUInt32 &&& Int32.toUInt32 31)).toInt32).toUInt32 >>> ((nI 2).toUInt32 &&& Int32.toUInt32 31)).toInt32).toUInt32 >>> ((nI 1).toUInt32 &&& Int32.toUInt32 31)).toInt32) = nI t := by decide +kernel
            exact rd_i hx hb hr hlocks dJ6_numberOfTrailingZeros_0f7a4_79 (hh t ht ⟨c1, c2, c3, c4, c5⟩)
        · refine lv_iinc (v := nI (1 + 16 + 8 + 4)) (lv' := [(1, .int (nI (1 + 16 + 8 + 4))), (0, .int (((((kz t).toUInt32 >>> ((nI 16).toUInt32 &&& Int32.toUInt32 31)).toInt32).toUInt32 >>> ((nI 8).toUInt32 &&& Int32.toUInt32 31)).toInt32))]) hx hb dJ6_numberOfTrailingZeros_0f7a4_55 hl (k := 1) rfl (nI_add (1 + 16 + 8) 4) (by decide) rfl (fun ls hl => ?_)
          refine lv_iload_n hx hb dJ6_numberOfTrailingZeros_0f7a4_58 rfl (lv_at hl 1 rfl) ?_
          refine lv_iconst (v := nI 4) hx hb dJ6_numberOfTrailingZeros_0f7a4_59 (by decide) ?_
          refine lv_iushr (v := ((((((kz t).toUInt32 >>> ((nI 16).toUInt32 &&& Int32.toUInt32 31)).toInt32).toUInt32 >>> ((nI 8).toUInt32 &&& Int32.toUInt32 31)).toInt32).toUInt32 >>> ((nI 4).toUInt32 &&& Int32.toUInt32 31)).toInt32) hx hb dJ6_numberOfTrailingZeros_0f7a4_60 (rfl) ?_
          refine lv_istore_n (lv' := [(0, .int (((((((kz t).toUInt32 >>> ((nI 16).toUInt32 &&& Int32.toUInt32 31)).toInt32).toUInt32 >>> ((nI 8).toUInt32 &&& Int32.toUInt32 31)).toInt32).toUInt32 >>> ((nI 4).toUInt32 &&& Int32.toUInt32 31)).toInt32)), (1, .int (nI (1 + 16 + 8 + 4)))]) hx hb dJ6_numberOfTrailingZeros_0f7a4_61 rfl hl (by decide) rfl (fun ls hl => ?_)
          refine lv_iload_n hx hb dJ6_numberOfTrailingZeros_0f7a4_62 rfl (lv_at hl 0 rfl) ?_
          refine lv_iconst (v := nI 4) hx hb dJ6_numberOfTrailingZeros_0f7a4_63 (by decide) ?_
          refine lv_icmp_le (tgt := 74) hx hb dJ6_numberOfTrailingZeros_0f7a4_64 (by decide) (fun c5 => ?_) (fun c5 => ?_)
          · refine lv_iload_n hx hb dJ6_numberOfTrailingZeros_0f7a4_74 rfl (lv_at hl 1 rfl) ?_
            refine lv_iload_n hx hb dJ6_numberOfTrailingZeros_0f7a4_75 rfl (lv_at hl 0 rfl) ?_
            refine lv_iconst (v := nI 1) hx hb dJ6_numberOfTrailingZeros_0f7a4_76 (by decide) ?_
            refine lv_iushr (v := ((((((((kz t).toUInt32 >>> ((nI 16).toUInt32 &&& Int32.toUInt32 31)).toInt32).toUInt32 >>> ((nI 8).toUInt32 &&& Int32.toUInt32 31)).toInt32).toUInt32 >>> ((nI 4).toUInt32 &&& Int32.toUInt32 31)).toInt32).toUInt32 >>> ((nI 1).toUInt32 &&& Int32.toUInt32 31)).toInt32) hx hb dJ6_numberOfTrailingZeros_0f7a4_77 (rfl) ?_
            refine lv_iadd hx hb dJ6_numberOfTrailingZeros_0f7a4_78 ?_
            have hh : ∀ t, t < 33 → (0 < kz t ∧ ¬ kz t ≤ 65536 ∧ ¬ ((kz t).toUInt32 >>> ((nI 16).toUInt32 &&& Int32.toUInt32 31)).toInt32 ≤ nI 256 ∧ ¬ ((((kz t).toUInt32 >>> ((nI 16).toUInt32 &&& Int32.toUInt32 31)).toInt32).toUInt32 >>> ((nI 8).toUInt32 &&& Int32.toUInt32 31)).toInt32 ≤ nI 16 ∧ ((((((kz t).toUInt32 >>> ((nI 16).toUInt32 &&& Int32.toUInt32 31)).toInt32).toUInt32 >>> ((nI 8).toUInt32 &&& Int32.toUInt32 31)).toInt32).toUInt32 >>> ((nI 4).toUInt32 &&& Int32.toUInt32 31)).toInt32 ≤ nI 4) → (nI (1 + 16 + 8 + 4)) + (((((((((kz t).toUInt32 >>> ((nI 16).toUInt32 &&& Int32.toUInt32 31)).toInt32).toUInt32 >>> ((nI 8).toUInt32 &&& Int32.toUInt32 31)).toInt32).toUInt32 >>> ((nI 4).toUInt32 &&& Int32.toUInt32 31)).toInt32).toUInt32 >>> ((nI 1).toUInt32 &&& Int32.toUInt32 31)).toInt32) = nI t := by decide +kernel
            exact rd_i hx hb hr hlocks dJ6_numberOfTrailingZeros_0f7a4_79 (hh t ht ⟨c1, c2, c3, c4, c5⟩)
          · refine lv_iinc (v := nI (1 + 16 + 8 + 4 + 2)) (lv' := [(1, .int (nI (1 + 16 + 8 + 4 + 2))), (0, .int (((((((kz t).toUInt32 >>> ((nI 16).toUInt32 &&& Int32.toUInt32 31)).toInt32).toUInt32 >>> ((nI 8).toUInt32 &&& Int32.toUInt32 31)).toInt32).toUInt32 >>> ((nI 4).toUInt32 &&& Int32.toUInt32 31)).toInt32))]) hx hb dJ6_numberOfTrailingZeros_0f7a4_67 hl (k := 1) rfl (nI_add (1 + 16 + 8 + 4) 2) (by decide) rfl (fun ls hl => ?_)
            refine lv_iload_n hx hb dJ6_numberOfTrailingZeros_0f7a4_70 rfl (lv_at hl 1 rfl) ?_
            refine lv_iconst (v := nI 2) hx hb dJ6_numberOfTrailingZeros_0f7a4_71 (by decide) ?_
            refine lv_iushr (v := ((((((((kz t).toUInt32 >>> ((nI 16).toUInt32 &&& Int32.toUInt32 31)).toInt32).toUInt32 >>> ((nI 8).toUInt32 &&& Int32.toUInt32 31)).toInt32).toUInt32 >>> ((nI 4).toUInt32 &&& Int32.toUInt32 31)).toInt32).toUInt32 >>> ((nI 2).toUInt32 &&& Int32.toUInt32 31)).toInt32) hx hb dJ6_numberOfTrailingZeros_0f7a4_72 (rfl) ?_
            refine lv_istore_n (lv' := [(0, .int (((((((((kz t).toUInt32 >>> ((nI 16).toUInt32 &&& Int32.toUInt32 31)).toInt32).toUInt32 >>> ((nI 8).toUInt32 &&& Int32.toUInt32 31)).toInt32).toUInt32 >>> ((nI 4).toUInt32 &&& Int32.toUInt32 31)).toInt32).toUInt32 >>> ((nI 2).toUInt32 &&& Int32.toUInt32 31)).toInt32)), (1, .int (nI (1 + 16 + 8 + 4 + 2)))]) hx hb dJ6_numberOfTrailingZeros_0f7a4_73 rfl hl (by decide) rfl (fun ls hl => ?_)
            refine lv_iload_n hx hb dJ6_numberOfTrailingZeros_0f7a4_74 rfl (lv_at hl 1 rfl) ?_
            refine lv_iload_n hx hb dJ6_numberOfTrailingZeros_0f7a4_75 rfl (lv_at hl 0 rfl) ?_
            refine lv_iconst (v := nI 1) hx hb dJ6_numberOfTrailingZeros_0f7a4_76 (by decide) ?_
            refine lv_iushr (v := ((((((((((kz t).toUInt32 >>> ((nI 16).toUInt32 &&& Int32.toUInt32 31)).toInt32).toUInt32 >>> ((nI 8).toUInt32 &&& Int32.toUInt32 31)).toInt32).toUInt32 >>> ((nI 4).toUInt32 &&& Int32.toUInt32 31)).toInt32).toUInt32 >>> ((nI 2).toUInt32 &&& Int32.toUInt32 31)).toInt32).toUInt32 >>> ((nI 1).toUInt32 &&& Int32.toUInt32 31)).toInt32) hx hb dJ6_numberOfTrailingZeros_0f7a4_77 (rfl) ?_
            refine lv_iadd hx hb dJ6_numberOfTrailingZeros_0f7a4_78 ?_
            have hh : ∀ t, t < 33 → (0 < kz t ∧ ¬ kz t ≤ 65536 ∧ ¬ ((kz t).toUInt32 >>> ((nI 16).toUInt32 &&& Int32.toUInt32 31)).toInt32 ≤ nI 256 ∧ ¬ ((((kz t).toUInt32 >>> ((nI 16).toUInt32 &&& Int32.toUInt32 31)).toInt32).toUInt32 >>> ((nI 8).toUInt32 &&& Int32.toUInt32 31)).toInt32 ≤ nI 16 ∧ ¬ ((((((kz t).toUInt32 >>> ((nI 16).toUInt32 &&& Int32.toUInt32 31)).toInt32).toUInt32 >>> ((nI 8).toUInt32 &&& Int32.toUInt32 31)).toInt32).toUInt32 >>> ((nI 4).toUInt32 &&& Int32.toUInt32 31)).toInt32 ≤ nI 4) → (nI (1 + 16 + 8 + 4 + 2)) + (((((((((((kz t).toUInt32 >>> ((nI 16).toUInt32 &&& Int32.toUInt32 31)).toInt32).toUInt32 >>> ((nI 8).toUInt32 &&& Int32.toUInt32 31)).toInt32).toUInt32 >>> ((nI 4).toUInt32 &&& Int32.toUInt32 31)).toInt32).toUInt32 >>> ((nI 2).toUInt32 &&& Int32.toUInt32 31)).toInt32).toUInt32 >>> ((nI 1).toUInt32 &&& Int32.toUInt32 31)).toInt32) = nI t := by decide +kernel
            exact rd_i hx hb hr hlocks dJ6_numberOfTrailingZeros_0f7a4_79 (hh t ht ⟨c1, c2, c3, c4, c5⟩)
  · refine lv_iload_n hx hb dJ6_numberOfTrailingZeros_0f7a4_12 rfl (lv_at hl 0 rfl) ?_
    refine lv_bipush (v := nI 32) hx hb dJ6_numberOfTrailingZeros_0f7a4_13 (by decide) ?_
    refine lv_iand hx hb dJ6_numberOfTrailingZeros_0f7a4_15 ?_
    have hh : ∀ t, t < 33 → (¬ 0 < kz t) → (kz t) &&& (nI 32) = nI t := by decide +kernel
    exact rd_i hx hb hr hlocks dJ6_numberOfTrailingZeros_0f7a4_16 (hh t ht c1)
set_option maxHeartbeats 4000000 in
set_option maxRecDepth 100000 in
/-- Long.numberOfTrailingZeros -/
theorem c_J13_numberOfTrailingZeros_95d88 (l : Launch) (x : Int64) : Met l yJ13_numberOfTrailingZeros_95d88 wsJ13_numberOfTrailingZeros_95d88 { frames := 1, cells := 0, slots := 0, locals := 21 } (fun v _ => v = ([.long x] : List Value).toArray) (k2_QcV (.int (nI (tz x.toBitVec.getLsbD 64 0)))) 0 0 (fun _ => False) := by
  refine Met.ofW (cc := cJ13_numberOfTrailingZeros_95d88) (maxL := 3) (ret := (some .int)) (by decide) rfl ?_
  intro p e s m args below meth c s₁ B hml hv
  obtain rfl := hv
  have hx := B.exec
  have hb := B.bytes
  have hr := B.returns
  have hts := atoms_spec (ws := wsJ13_numberOfTrailingZeros_95d88) B.pre
  have hown : s.vm.findClass RJ13 = some m.cls := findClass_of_methodNamed B.named
  have hlocks := B.notSynchronized
  have hl := lv_entry ([.long x]) (n := 3) (Nat.le_of_ble_eq_true rfl)
  rw [lg_entry_eq]
  generalize (lg_sl ([.long x]) ++ List.replicate (3 - (lg_sl ([.long x])).length) Slot.unset).toArray = ls at hl ⊢
  have hl : lv_has ls 3 [(0, .long x)] := hl
  refine lv_lload_n hx hb dJ13_numberOfTrailingZeros_95d88_0 rfl (lv_at hl 0 rfl) ?_
  refine lv_l2i (v := x.toInt32) hx hb dJ13_numberOfTrailingZeros_95d88_1 (rfl) ?_
  refine lv_istore_n (lv' := [(2, .int x.toInt32), (0, .long x)]) hx hb dJ13_numberOfTrailingZeros_95d88_2 rfl hl (by decide) rfl (fun ls hl => ?_)
  refine lv_iload_n hx hb dJ13_numberOfTrailingZeros_95d88_3 rfl (lv_at hl 0 rfl) ?_
  refine lv_if_ne (tgt := 21) hx hb dJ13_numberOfTrailingZeros_95d88_4 (by decide) (fun c1 => ?_) (fun c1 => ?_)
  · refine lv_iload_n hx hb dJ13_numberOfTrailingZeros_95d88_21 rfl (lv_at hl 0 rfl) ?_
    refine rd_S (As := [.int x.toInt32]) (rest := []) ⟨hx, hb, hml, hown, hts⟩ (c_J6_numberOfTrailingZeros_0f7a4 l x.toInt32) (va_cwS 1 hts gJ13_numberOfTrailingZeros_95d88_J6_numberOfTrailingZeros_0f7a4 rfl rfl rfl (by decide +kernel) ⟨Nat.le_of_ble_eq_true rfl, Nat.le_of_ble_eq_true rfl⟩) (preEq) rfl hl.1 rfl (Nat.le_of_ble_eq_true rfl) dJ13_numberOfTrailingZeros_95d88_22 ⟨Nat.zero_le _, Nat.zero_le _⟩ ?_
    exact rd_i hx hb hr hlocks dJ13_numberOfTrailingZeros_95d88_25 (by rw [tz_lo x c1])
  · refine lv_bipush (v := nI 32) hx hb dJ13_numberOfTrailingZeros_95d88_7 (by decide) ?_
    refine lv_lload_n hx hb dJ13_numberOfTrailingZeros_95d88_9 rfl (lv_at hl 1 rfl) ?_
    refine lv_bipush (v := nI 32) hx hb dJ13_numberOfTrailingZeros_95d88_10 (by decide) ?_
    refine lv_lushr (v := (x.toUInt64 >>> ((nI 32).toInt64.toUInt64 &&& Int64.toUInt64 63)).toInt64) hx hb dJ13_numberOfTrailingZeros_95d88_12 (rfl) ?_
    refine lv_l2i (v := ((x.toUInt64 >>> ((nI 32).toInt64.toUInt64 &&& Int64.toUInt64 63)).toInt64).toInt32) hx hb dJ13_numberOfTrailingZeros_95d88_13 (rfl) ?_
    refine rd_S (As := [.int (((x.toUInt64 >>> ((nI 32).toInt64.toUInt64 &&& Int64.toUInt64 63)).toInt64).toInt32)]) (rest := [.int (nI 32)]) ⟨hx, hb, hml, hown, hts⟩ (c_J6_numberOfTrailingZeros_0f7a4 l (x.toUInt64 >>> ((nI 32).toInt64.toUInt64 &&& Int64.toUInt64 63)).toInt64.toInt32) (va_cwS 1 hts gJ13_numberOfTrailingZeros_95d88_J6_numberOfTrailingZeros_0f7a4 rfl rfl rfl (by decide +kernel) ⟨Nat.le_of_ble_eq_true rfl, Nat.le_of_ble_eq_true rfl⟩) (preEq) rfl hl.1 rfl (Nat.le_of_ble_eq_true rfl) dJ13_numberOfTrailingZeros_95d88_14 ⟨Nat.zero_le _, Nat.zero_le _⟩ ?_
    refine lv_iadd hx hb dJ13_numberOfTrailingZeros_95d88_17 ?_
    refine tp_i (show (nI 32) + (nI (tz (x.toUInt64 >>> ((nI 32).toInt64.toUInt64 &&& Int64.toUInt64 63)).toInt64.toInt32.toBitVec.getLsbD 32 0)) = nI (32 + (tz (x.toUInt64 >>> ((nI 32).toInt64.toUInt64 &&& Int64.toUInt64 63)).toInt64.toInt32.toBitVec.getLsbD 32 0)) from nI_add _ _) ?_
    refine lv_goto (tgt := 25) hx hb dJ13_numberOfTrailingZeros_95d88_18 (by decide) ?_
    exact rd_i hx hb hr hlocks dJ13_numberOfTrailingZeros_95d88_25 (by rw [tz_hi x c1])
variable (l : Launch) (D : va_G) (cI cJ : ClassId) (hn ow fi ro cnt len : Nat) (fo ff : Nat → Int32) (fr : Nat → Int64)
/-- from word i on, at most n words: the first place at which two literals differ; -1 where there is none -/
def ldF (fr : Nat → Int64) (la lb : Nat) : Nat → Nat → Int32
  | 0, _ => -1
  | n + 1, i => if wd fr la i ^^^ wd fr lb i = 0 then ldF fr la lb n (i + 1) else nI (i * 64 + tz (wd fr la i ^^^ wd fr lb i).toBitVec.getLsbD 64 0)
set_option maxHeartbeats 4000000 in
set_option maxRecDepth 100000 in
/-- the least place at which two literals differ, or -1 -/
theorem c_X1_leastDifference (la lb : Nat) (h1 : la / 2 * 64 + 63 < len) (h3 : lb / 2 * 64 + 63 < len) (h2 : len ≤ 25600) : Met l yX1_leastDifference wsX1_leastDifference { frames := 2, cells := 0, slots := 0, locals := 43 } (rd_P D [(cI, .int), (cJ, .long)] (nW hn ow fi ro cI cJ cnt len fo ff fr) [.ref hn, .int (nI la), .int (nI lb)]) (k2_QcV (.int (ldF fr la lb 64 0))) 0 0 (fun _ => False) := by
  refine Met.ofW (cc := cX1_leastDifference) (maxL := 6) (ret := (some .int)) (by decide) rfl ?_
  intro p e s m args below meth c s₁ B hml hv
  obtain ⟨rfl, hP, hK⟩ := hv
  have hx := B.exec
  have hb := B.bytes
  have hr := B.returns
  have hts := atoms_spec (ws := wsX1_leastDifference) B.pre
  have hown : s.vm.findClass RX1 = some m.cls := findClass_of_methodNamed B.named
  have hlocks := B.notSynchronized
  have hl := lv_entry ([.ref hn, .int (nI la), .int (nI lb)]) (n := 6) (Nat.le_of_ble_eq_true rfl)
  rw [lg_entry_eq]
  generalize (lg_sl ([.ref hn, .int (nI la), .int (nI lb)]) ++ List.replicate (6 - (lg_sl ([.ref hn, .int (nI la), .int (nI lb)])).length) Slot.unset).toArray = ls at hl ⊢
  have hl : lv_has ls 6 [(0, .ref hn), (1, .int (nI la)), (2, .int (nI lb))] := hl
  refine lv_iconst (v := nI 0) hx hb dX1_leastDifference_0 (by decide) ?_
  refine lv_istore_n (lv' := [(3, .int (nI 0)), (0, .ref hn), (1, .int (nI la)), (2, .int (nI lb))]) hx hb dX1_leastDifference_1 rfl hl (by decide) rfl (fun ls hl => ?_)
  have loop : ∀ (n : Nat) (i : Nat), i ≤ 64 → ldF fr la lb 64 0 = ldF fr la lb (64 - i) i → 64 - i < n → ∀ ls : Array Slot, lv_has ls 6 [(3, .int (nI i)), (0, .ref hn), (1, .int (nI la)), (2, .int (nI lb))] → W p l e (headSpec wsX1_leastDifference { frames := 2, cells := 0, slots := 0, locals := 43 }).room s m ([.ref hn, .int (nI la), .int (nI lb)] : List Value).toArray below meth c s.heap [] 0 0 (MQ below (k2_QcV (.int (ldF fr la lb 64 0))) ([.ref hn, .int (nI la), .int (nI lb)] : List Value).toArray s 0 0 (fun _ => False)) (F0 m 2 ls []) := by
    intro n
    induction n with
    | zero => intro i hi hR hM; exact absurd hM (Nat.not_lt_zero _)
    | succ n ih =>
      intro i hi hR hM ls hl
      refine lv_iload_n hx hb dX1_leastDifference_2 rfl (lv_at hl 0 rfl) ?_
      refine lv_bipush (v := nI 64) hx hb dX1_leastDifference_3 (by decide) ?_
      refine lv_icmp_ge (tgt := 47) hx hb dX1_leastDifference_5 (by decide) (fun c1 => ?_) (fun c1 => ?_)
      · have c1 : 64 ≤ i := (nI_leI (by omega) (by omega)).mp c1
        refine lv_iconst (v := -1) hx hb dX1_leastDifference_47 (by decide) ?_
        have hi2 : 64 - i = 0 := by omega
        exact rd_i hx hb hr hlocks dX1_leastDifference_48 (by rw [hR, hi2]; rfl)
      · have c1 : ¬ (64 ≤ i) := fun h => c1 ((nI_leI (by omega) (by omega)).mpr h)
        refine lv_aload_n hx hb dX1_leastDifference_8 rfl (lv_at hl 1 rfl) ?_
        refine lv_iload_n hx hb dX1_leastDifference_9 rfl (lv_at hl 2 rfl) ?_
        refine lv_iload_n hx hb dX1_leastDifference_10 rfl (lv_at hl 0 rfl) ?_
        refine rd_V (As := [.int (nI la), .int (nI i)]) (rest := []) ⟨hx, hb, hml, hown, hts⟩ (c_X1_wordOf l D cI cJ hn ow fi ro cnt len fo ff fr la i (by omega) h2) (cwV 2 hts gX1_leastDifference_X1_wordOf rfl rfl rfl (by decide +kernel) ⟨Nat.le_of_ble_eq_true rfl, Nat.le_of_ble_eq_true rfl⟩) (rd_pv (ci := 1) (q0 := 0) hK hP rfl rfl) rfl hl.1 rfl (Nat.le_of_ble_eq_true rfl) dX1_leastDifference_11 ⟨Nat.zero_le _, Nat.zero_le _⟩ ?_
        refine lv_aload_n hx hb dX1_leastDifference_14 rfl (lv_at hl 1 rfl) ?_
        refine lv_iload_n hx hb dX1_leastDifference_15 rfl (lv_at hl 3 rfl) ?_
        refine lv_iload_n hx hb dX1_leastDifference_16 rfl (lv_at hl 0 rfl) ?_
        refine rd_V (As := [.int (nI lb), .int (nI i)]) (rest := [.long (wd fr la i)]) ⟨hx, hb, hml, hown, hts⟩ (c_X1_wordOf l D cI cJ hn ow fi ro cnt len fo ff fr lb i (by omega) h2) (cwV 2 hts gX1_leastDifference_X1_wordOf rfl rfl rfl (by decide +kernel) ⟨Nat.le_of_ble_eq_true rfl, Nat.le_of_ble_eq_true rfl⟩) (rd_pv (ci := 1) (q0 := 0) hK hP rfl rfl) rfl hl.1 rfl (Nat.le_of_ble_eq_true rfl) dX1_leastDifference_17 ⟨Nat.zero_le _, Nat.zero_le _⟩ ?_
        refine lv_lxor hx hb dX1_leastDifference_20 ?_
        refine lv_lstore (lv' := [(4, .long ((wd fr la i) ^^^ (wd fr lb i))), (3, .int (nI i)), (0, .ref hn), (1, .int (nI la)), (2, .int (nI lb))]) hx hb dX1_leastDifference_21 hl (by decide) rfl (fun ls hl => ?_)
        refine lv_lload hx hb dX1_leastDifference_23 (lv_at hl 0 rfl) ?_
        refine lv_lconst (v := 0) hx hb dX1_leastDifference_25 (by decide) ?_
        obtain ⟨k, hk⟩ : ∃ k, 64 - i = k + 1 := ⟨63 - i, by omega⟩
        refine W.lcmp hx hb dX1_leastDifference_26 ?_
        refine lv_if_eq (tgt := 41) hx hb dX1_leastDifference_27 (by decide) (fun c2 => ?_) (fun c2 => ?_)
        · have c2 : (wd fr la i) ^^^ (wd fr lb i) = 0 := lg_cmp0.mp c2
          refine lv_iinc (v := nI (i + 1)) (lv' := [(3, .int (nI (i + 1))), (4, .long ((wd fr la i) ^^^ (wd fr lb i))), (0, .ref hn), (1, .int (nI la)), (2, .int (nI lb))]) hx hb dX1_leastDifference_41 hl (k := 1) rfl (nI_add i 1) (by decide) rfl (fun ls hl => ?_)
          refine lv_goto (tgt := 2) hx hb dX1_leastDifference_44 (by decide) ?_
          exact ih (i + 1) (by omega) (by rw [hR, hk, show 64 - (i + 1) = k by omega]; simp [ldF, c2]) (by omega) ls (lv_sub hl [0, 2, 3, 4] rfl)
        · have c2 : ¬ ((wd fr la i) ^^^ (wd fr lb i)) = 0 := fun h => c2 (lg_cmp0.mpr h)
          refine lv_iload_n hx hb dX1_leastDifference_30 rfl (lv_at hl 1 rfl) ?_
          refine lv_bipush (v := nI 64) hx hb dX1_leastDifference_31 (by decide) ?_
          refine lv_imul hx hb dX1_leastDifference_33 ?_
          refine tp_i (show (nI i) * (nI 64) = nI (i * 64) from pk_mul _ _) ?_
          refine lv_lload hx hb dX1_leastDifference_34 (lv_at hl 0 rfl) ?_
          refine rd_S (As := [.long ((wd fr la i) ^^^ (wd fr lb i))]) (rest := [.int (nI (i * 64))]) ⟨hx, hb, hml, hown, hts⟩ (c_J13_numberOfTrailingZeros_95d88 l (wd fr la i ^^^ wd fr lb i)) (va_cwS 1 hts gX1_leastDifference_J13_numberOfTrailingZeros_95d88 rfl rfl rfl (by decide +kernel) ⟨Nat.le_of_ble_eq_true rfl, Nat.le_of_ble_eq_true rfl⟩) (preEq) rfl hl.1 rfl (Nat.le_of_ble_eq_true rfl) dX1_leastDifference_36 ⟨Nat.zero_le _, Nat.zero_le _⟩ ?_
          refine lv_iadd hx hb dX1_leastDifference_39 ?_
          refine tp_i (show (nI (i * 64)) + (nI (tz (wd fr la i ^^^ wd fr lb i).toBitVec.getLsbD 64 0)) = nI (i * 64 + (tz (wd fr la i ^^^ wd fr lb i).toBitVec.getLsbD 64 0)) from nI_add _ _) ?_
          exact rd_i hx hb hr hlocks dX1_leastDifference_40 (by rw [hR, hk]; simp [ldF, c2])
  exact loop (64 - 0 + 1) 0 (by omega) (rfl) (by omega) ls (lv_sub hl [0, 1, 2, 3] rfl)
end RZ
end
section
/-! findFirst. -/
theorem zI_xor (a b : Bool) : zI a ^^^ zI b = nI (a ^^ b).toNat := by cases a <;> cases b <;> decide
/-- the literal of node j that has the value of node nd's in assignment 0 -/
def cand (fr : Nat → Int64) (nd j : Nat) : Nat := 2 * j + (bt fr (2 * j) 0 ^^ bt fr (2 * nd) 0).toNat
theorem cand_half (fr : Nat → Int64) (nd j : Nat) : cand fr nd j / 2 = j := by
  unfold cand
  cases (bt fr (2 * j) 0 ^^ bt fr (2 * nd) 0) <;> simp <;> omega
/-- from node i on, at most n nodes: the first literal that is nowhere apart from node nd's; else that itself -/
def ffF (fr : Nat → Int64) (nd : Nat) : Nat → Nat → Int32
  | 0, _ => nI (2 * nd)
  | n + 1, i => if ldF fr (cand fr nd i) (2 * nd) 64 0 = -1 then nI (cand fr nd i) else ffF fr nd n (i + 1)
section RF
variable (l : Launch) (D : va_G) (cI cJ : ClassId) (hn ow fi ro cnt len : Nat) (fo ff : Nat → Int32) (fr : Nat → Int64)
set_option maxHeartbeats 4000000 in
set_option maxRecDepth 100000 in
/-- the least literal of a lesser node with the same words, or the node's own -/
theorem c_X1_findFirst (nd : Nat) (h0 : nd < 400) (h1 : nd * 64 + 63 < len) (h2 : len ≤ 25600) : Met l yX1_findFirst wsX1_findFirst { frames := 3, cells := 0, slots := 0, locals := 68 } (rd_P D [(cI, .int), (cJ, .long)] (nW hn ow fi ro cI cJ cnt len fo ff fr) [.ref hn, .int (nI nd)]) (k2_QcV (.int (ffF fr nd nd 0))) 0 0 (fun _ => False) := by
  refine Met.ofW (cc := cX1_findFirst) (maxL := 6) (ret := (some .int)) (by decide) rfl ?_
  intro p e s m args below meth c s₁ B hml hv
  obtain ⟨rfl, hP, hK⟩ := hv
  have hx := B.exec
  have hb := B.bytes
  have hr := B.returns
  have hts := atoms_spec (ws := wsX1_findFirst) B.pre
  have hown : s.vm.findClass RX1 = some m.cls := findClass_of_methodNamed B.named
  have hlocks := B.notSynchronized
  have hl := lv_entry ([.ref hn, .int (nI nd)]) (n := 6) (Nat.le_of_ble_eq_true rfl)
  rw [lg_entry_eq]
  generalize (lg_sl ([.ref hn, .int (nI nd)]) ++ List.replicate (6 - (lg_sl ([.ref hn, .int (nI nd)])).length) Slot.unset).toArray = ls at hl ⊢
  have hl : lv_has ls 6 [(0, .ref hn), (1, .int (nI nd))] := hl
  refine lv_iconst (v := nI 2) hx hb dX1_findFirst_0 (by decide) ?_
  refine lv_iload_n hx hb dX1_findFirst_1 rfl (lv_at hl 1 rfl) ?_
  refine lv_imul hx hb dX1_findFirst_2 ?_
  refine tp_i (show (nI 2) * (nI nd) = nI (2 * nd) from pk_mul _ _) ?_
  refine lv_istore_n (lv' := [(2, .int (nI (2 * nd))), (0, .ref hn), (1, .int (nI nd))]) hx hb dX1_findFirst_3 rfl hl (by decide) rfl (fun ls hl => ?_)
  refine lv_aload_n hx hb dX1_findFirst_4 rfl (lv_at hl 1 rfl) ?_
  refine lv_iload_n hx hb dX1_findFirst_5 rfl (lv_at hl 0 rfl) ?_
  refine lv_iconst (v := nI 0) hx hb dX1_findFirst_6 (by decide) ?_
  refine rd_V (As := [.int (nI (2 * nd)), .int (nI 0)]) (rest := []) ⟨hx, hb, hml, hown, hts⟩ (c_X1_valueIn l D cI cJ hn ow fi ro cnt len fo ff fr (2 * nd) (nI 0) 0 (by decide) (by omega) (by omega) h2) (cwV 2 hts gX1_findFirst_X1_valueIn rfl rfl rfl (by decide +kernel) ⟨Nat.le_of_ble_eq_true rfl, Nat.le_of_ble_eq_true rfl⟩) (rd_pv (ci := 1) (q0 := 0) hK hP rfl rfl) rfl hl.1 rfl (Nat.le_of_ble_eq_true rfl) dX1_findFirst_7 ⟨Nat.zero_le _, Nat.zero_le _⟩ ?_
  refine lv_istore_n (lv' := [(3, .int (zI (bt fr (2 * nd) 0))), (2, .int (nI (2 * nd))), (0, .ref hn), (1, .int (nI nd))]) hx hb dX1_findFirst_10 rfl hl (by decide) rfl (fun ls hl => ?_)
  refine lv_iconst (v := nI 0) hx hb dX1_findFirst_11 (by decide) ?_
  refine lv_istore (lv' := [(4, .int (nI 0)), (3, .int (zI (bt fr (2 * nd) 0))), (2, .int (nI (2 * nd))), (0, .ref hn), (1, .int (nI nd))]) hx hb dX1_findFirst_12 hl (by decide) rfl (fun ls hl => ?_)
  have loop : ∀ (n : Nat) (i : Nat), i ≤ nd → ffF fr nd nd 0 = ffF fr nd (nd - i) i → nd - i < n → ∀ ls : Array Slot, lv_has ls 6 [(4, .int (nI i)), (3, .int (zI (bt fr (2 * nd) 0))), (2, .int (nI (2 * nd))), (0, .ref hn), (1, .int (nI nd))] → W p l e (headSpec wsX1_findFirst { frames := 3, cells := 0, slots := 0, locals := 68 }).room s m ([.ref hn, .int (nI nd)] : List Value).toArray below meth c s.heap [] 0 0 (MQ below (k2_QcV (.int (ffF fr nd nd 0))) ([.ref hn, .int (nI nd)] : List Value).toArray s 0 0 (fun _ => False)) (F0 m 14 ls []) := by
    intro n
    induction n with
    | zero => intro i hi hR hM; exact absurd hM (Nat.not_lt_zero _)
    | succ n ih =>
      intro i hi hR hM ls hl
      refine lv_iload hx hb dX1_findFirst_14 (lv_at hl 0 rfl) ?_
      refine lv_iload_n hx hb dX1_findFirst_16 rfl (lv_at hl 4 rfl) ?_
      refine lv_icmp_ge (tgt := 58) hx hb dX1_findFirst_17 (by decide) (fun c1 => ?_) (fun c1 => ?_)
      · have c1 : nd ≤ i := (nI_leI (by omega) (by omega)).mp c1
        refine lv_iload_n hx hb dX1_findFirst_58 rfl (lv_at hl 2 rfl) ?_
        have hi2 : nd - i = 0 := by omega
        exact rd_i hx hb hr hlocks dX1_findFirst_59 (by rw [hR, hi2]; rfl)
      · have c1 : ¬ (nd ≤ i) := fun h => c1 ((nI_leI (by omega) (by omega)).mpr h)
        refine lv_iconst (v := nI 2) hx hb dX1_findFirst_20 (by decide) ?_
        refine lv_iload hx hb dX1_findFirst_21 (lv_at hl 0 rfl) ?_
        refine lv_imul hx hb dX1_findFirst_23 ?_
        refine tp_i (show (nI 2) * (nI i) = nI (2 * i) from pk_mul _ _) ?_
        refine lv_aload_n hx hb dX1_findFirst_24 rfl (lv_at hl 3 rfl) ?_
        refine lv_iconst (v := nI 2) hx hb dX1_findFirst_25 (by decide) ?_
        refine lv_iload hx hb dX1_findFirst_26 (lv_at hl 0 rfl) ?_
        refine lv_imul hx hb dX1_findFirst_28 ?_
        refine tp_i (show (nI 2) * (nI i) = nI (2 * i) from pk_mul _ _) ?_
        refine lv_iconst (v := nI 0) hx hb dX1_findFirst_29 (by decide) ?_
        refine rd_V (As := [.int (nI (2 * i)), .int (nI 0)]) (rest := [.int (nI (2 * i))]) ⟨hx, hb, hml, hown, hts⟩ (c_X1_valueIn l D cI cJ hn ow fi ro cnt len fo ff fr (2 * i) (nI 0) 0 (by decide) (by omega) (by omega) h2) (cwV 2 hts gX1_findFirst_X1_valueIn rfl rfl rfl (by decide +kernel) ⟨Nat.le_of_ble_eq_true rfl, Nat.le_of_ble_eq_true rfl⟩) (rd_pv (ci := 1) (q0 := 0) hK hP rfl rfl) rfl hl.1 rfl (Nat.le_of_ble_eq_true rfl) dX1_findFirst_30 ⟨Nat.zero_le _, Nat.zero_le _⟩ ?_
        have hch := cand_half fr nd i
        refine lv_iload_n hx hb dX1_findFirst_33 rfl (lv_at hl 1 rfl) ?_
        refine lv_ixor hx hb dX1_findFirst_34 ?_
        refine tp_i (show (zI (bt fr (2 * i) 0)) ^^^ (zI (bt fr (2 * nd) 0)) = nI ((bt fr (2 * i) 0 ^^ bt fr (2 * nd) 0).toNat) from zI_xor _ _) ?_
        refine lv_iadd hx hb dX1_findFirst_35 ?_
        refine tp_i (show (nI (2 * i)) + (nI ((bt fr (2 * i) 0 ^^ bt fr (2 * nd) 0).toNat)) = nI (cand fr nd i) from nI_add _ _) ?_
        refine lv_istore (lv' := [(5, .int (nI (cand fr nd i))), (4, .int (nI i)), (3, .int (zI (bt fr (2 * nd) 0))), (2, .int (nI (2 * nd))), (0, .ref hn), (1, .int (nI nd))]) hx hb dX1_findFirst_36 hl (by decide) rfl (fun ls hl => ?_)
        refine lv_aload_n hx hb dX1_findFirst_38 rfl (lv_at hl 4 rfl) ?_
        refine lv_iload hx hb dX1_findFirst_39 (lv_at hl 0 rfl) ?_
        refine lv_iload_n hx hb dX1_findFirst_41 rfl (lv_at hl 3 rfl) ?_
        refine rd_V (As := [.int (nI (cand fr nd i)), .int (nI (2 * nd))]) (rest := []) ⟨hx, hb, hml, hown, hts⟩ (c_X1_leastDifference l D cI cJ hn ow fi ro cnt len fo ff fr (cand fr nd i) (2 * nd) (by omega) (by omega) h2) (cwV 2 hts gX1_findFirst_X1_leastDifference rfl rfl rfl (by decide +kernel) ⟨Nat.le_of_ble_eq_true rfl, Nat.le_of_ble_eq_true rfl⟩) (rd_pv (ci := 1) (q0 := 0) hK hP rfl rfl) rfl hl.1 rfl (Nat.le_of_ble_eq_true rfl) dX1_findFirst_42 ⟨Nat.zero_le _, Nat.zero_le _⟩ ?_
        refine lv_iconst (v := -1) hx hb dX1_findFirst_45 (by decide) ?_
        obtain ⟨k, hk⟩ : ∃ k, nd - i = k + 1 := ⟨nd - i - 1, by omega⟩
        refine lv_icmp_ne (tgt := 52) hx hb dX1_findFirst_46 (by decide) (fun c2 => ?_) (fun c2 => ?_)
        · refine lv_iinc (v := nI (i + 1)) (lv' := [(4, .int (nI (i + 1))), (5, .int (nI (cand fr nd i))), (3, .int (zI (bt fr (2 * nd) 0))), (2, .int (nI (2 * nd))), (0, .ref hn), (1, .int (nI nd))]) hx hb dX1_findFirst_52 hl (k := 1) rfl (nI_add i 1) (by decide) rfl (fun ls hl => ?_)
          refine lv_goto (tgt := 14) hx hb dX1_findFirst_55 (by decide) ?_
          exact ih (i + 1) (by omega) (by rw [hR, hk, show nd - (i + 1) = k by omega]; simp [ffF, c2]) (by omega) ls (lv_sub hl [0, 2, 3, 4, 5] rfl)
        · refine lv_iload hx hb dX1_findFirst_49 (lv_at hl 0 rfl) ?_
          exact rd_i hx hb hr hlocks dX1_findFirst_51 (by rw [hR, hk]; simp [ffF, c2])
  exact loop (nd - 0 + 1) 0 (by omega) (rfl) (by omega) ls (lv_sub hl [0, 1, 2, 3, 4] rfl)
end RF
end
section
/-! How many bits are set: the JDK's bitCount, byte by byte. -/
/-- how many of the first n places are true -/
def pc (f : Nat → Bool) : Nat → Nat
  | 0 => 0
  | n + 1 => pc f n + (f n).toNat
theorem pc_le (f : Nat → Bool) : ∀ n, pc f n ≤ n
  | 0 => Nat.le_refl 0
  | n + 1 => by have := pc_le f n; unfold pc; have := Bool.toNat_le (f n); omega
/-- bytes, the lowest first, as a number -/
def hz : List Nat → Nat
  | [] => 0
  | v :: t => v + 256 * hz t
theorem hz_lt : ∀ l : List Nat, (∀ v ∈ l, v < 256) → hz l < 256 ^ l.length
  | [], _ => by simp [hz]
  | v :: t, h => by
    have h1 := hz_lt t (fun w hw => h w (List.mem_cons_of_mem _ hw))
    have h2 := h v List.mem_cons_self
    simp only [hz, List.length_cons, Nat.pow_succ]
    omega
theorem and_split {k a b m n : Nat} (ha : a < 2 ^ k) (hm : m < 2 ^ k) : (2 ^ k * b + a) &&& (2 ^ k * n + m) = 2 ^ k * (b &&& n) + (a &&& m) := by
  apply Nat.eq_of_testBit_eq
  intro i
  have h3 : a &&& m < 2 ^ k := Nat.lt_of_le_of_lt Nat.and_le_left ha
  rw [Nat.testBit_and, Nat.testBit_two_pow_mul_add _ ha, Nat.testBit_two_pow_mul_add _ hm, Nat.testBit_two_pow_mul_add _ h3]
  split <;> simp [Nat.testBit_and]
theorem hz_and {m : Nat} (hm : m < 256) : ∀ l : List Nat, (∀ v ∈ l, v < 256) → hz l &&& hz (l.map fun _ => m) = hz (l.map fun v => v &&& m)
  | [], _ => by simp [hz]
  | v :: t, h => by
    have h1 := hz_and hm t (fun w hw => h w (List.mem_cons_of_mem _ hw))
    have h2 := h v List.mem_cons_self
    have := and_split (k := 8) (a := v) (b := hz t) (m := m) (n := hz (t.map fun _ => m)) h2 hm
    simp only [List.map_cons, hz]
    rw [Nat.add_comm v, Nat.add_comm m, show (256 : Nat) = 2 ^ 8 from rfl, this, h1, Nat.add_comm]
/-- a shift by less than a byte under a mask that has no bit where the next byte comes in -/
theorem hz_shr {j m : Nat} (hj : j ≤ 8) (hm : m < 2 ^ (8 - j)) : ∀ l : List Nat, (∀ v ∈ l, v < 256) → hz l / 2 ^ j &&& hz (l.map fun _ => m) = hz (l.map fun v => v / 2 ^ j &&& m)
  | [], _ => by simp [hz]
  | v :: t, h => by
    have h1 := hz_shr hj hm t (fun w hw => h w (List.mem_cons_of_mem _ hw))
    have h2 := h v List.mem_cons_self
    have hp : 2 ^ (8 - j) * 2 ^ j = 256 := by rw [← Nat.pow_add, show 8 - j + j = 8 by omega]
    have hj0 : 0 < 2 ^ j := Nat.two_pow_pos j
    have hv : v / 2 ^ j < 2 ^ (8 - j) := by
      rw [Nat.div_lt_iff_lt_mul hj0, hp]; exact h2
    have e1 : (v + 256 * hz t) / 2 ^ j = 2 ^ (8 - j) * hz t + v / 2 ^ j := by
      rw [← hp, show v + 2 ^ (8 - j) * 2 ^ j * hz t = v + 2 ^ j * (2 ^ (8 - j) * hz t) by rw [Nat.mul_comm (2 ^ (8 - j)) (2 ^ j), Nat.mul_assoc], Nat.add_mul_div_left _ _ hj0, Nat.add_comm]
    have e2 : m + 256 * hz (t.map fun _ => m) = 2 ^ (8 - j) * (2 ^ j * hz (t.map fun _ => m)) + m := by
      rw [← Nat.mul_assoc, hp, Nat.add_comm]
    simp only [List.map_cons, hz]
    rw [e1, e2, and_split hv hm]
    have e3 : hz t &&& 2 ^ j * hz (t.map fun _ => m) = 2 ^ j * (hz t / 2 ^ j &&& hz (t.map fun _ => m)) := by
      apply Nat.eq_of_testBit_eq
      intro i
      rw [Nat.testBit_and, Nat.testBit_two_pow_mul, Nat.testBit_two_pow_mul, Nat.testBit_and, Nat.testBit_div_two_pow]
      by_cases hi : i ≥ j
      · simp [hi]
      · simp [hi]
    rw [e3, h1, ← Nat.mul_assoc, hp, Nat.add_comm]
theorem hz_sub : ∀ l : List (Nat × Nat), (∀ v ∈ l, v.2 ≤ v.1) → hz (l.map fun v => v.2) ≤ hz (l.map fun v => v.1) ∧ hz (l.map fun v => v.1) - hz (l.map fun v => v.2) = hz (l.map fun v => v.1 - v.2)
  | [], _ => by simp [hz]
  | v :: t, h => by
    have h1 := hz_sub t (fun w hw => h w (List.mem_cons_of_mem _ hw))
    have h2 := h v List.mem_cons_self
    simp only [List.map_cons, hz]
    omega
theorem hz_add : ∀ l : List (Nat × Nat), hz (l.map fun v => v.1) + hz (l.map fun v => v.2) = hz (l.map fun v => v.1 + v.2)
  | [] => by simp [hz]
  | v :: t => by
    have h1 := hz_add t
    simp only [List.map_cons, hz]
    omega
theorem hz_div {v : Nat} {t : List Nat} (h : v < 256) : hz (v :: t) / 256 = hz t := by simp only [hz]; omega
theorem hz_mod {v : Nat} {t : List Nat} (h : v < 256) : hz (v :: t) % 256 = v := by simp only [hz]; omega
/-- a byte's bits -/
def p8 (v : Nat) : Nat := v % 2 + v / 2 % 2 + v / 4 % 2 + v / 8 % 2 + v / 16 % 2 + v / 32 % 2 + v / 64 % 2 + v / 128 % 2
def p8a (v : Nat) : Nat := v - (v / 2 ^ 1 &&& 0x55)
def p8b (v : Nat) : Nat := (p8a v &&& 0x33) + (p8a v / 2 ^ 2 &&& 0x33)
theorem p8_a : ∀ v, v < 256 → (v / 2 ^ 1 &&& 0x55) ≤ v ∧ p8a v < 256 ∧ p8b v < 256 ∧ p8b v % 16 ≤ 4 ∧ p8b v / 16 ≤ 4 ∧ (p8b v % 16 + p8b v / 16) = p8 v ∧ p8 v ≤ 8 := by decide +kernel
theorem hz8 {X : Nat} (h : X < 2 ^ 64) : X = hz [X % 256, X / 256 % 256, X / 65536 % 256, X / 16777216 % 256, X / 4294967296 % 256, X / 1099511627776 % 256, X / 281474976710656 % 256, X / 72057594037927936 % 256] := by
  simp only [hz]; omega
/-- the JDK's sum, on numbers -/
def bcA (X : Nat) : Nat := X - (X / 2 ^ 1 &&& 6148914691236517205)
def bcB (a : Nat) : Nat := (a &&& 3689348814741910323) + (a / 2 ^ 2 &&& 3689348814741910323)
def bcC (b : Nat) : Nat := b + b / 2 ^ 4 &&& 1085102592571150095
theorem bc_A (l : List Nat) (hl : l.length = 8) (h : ∀ v ∈ l, v < 256) : (hz l / 2 ^ 1 &&& 6148914691236517205) ≤ hz l ∧ bcA (hz l) = hz (l.map p8a) := by
  have e : hz (l.map fun _ => 0x55) = 6148914691236517205 := by
    match l, hl with
    | [_, _, _, _, _, _, _, _], _ => simp [hz]
  have h1 := hz_shr (j := 1) (m := 0x55) (by decide) (by decide) l h
  rw [e] at h1
  have h2 := hz_sub (l.map fun v => (v, v / 2 ^ 1 &&& 0x55)) (fun v hv => by
    obtain ⟨w, hw, rfl⟩ := List.mem_map.mp hv
    exact (p8_a w (h w hw)).1)
  simp only [List.map_map, Function.comp_def, List.map_id'] at h2
  unfold bcA
  rw [h1]
  exact h2
theorem bc_B (l : List Nat) (hl : l.length = 8) (h : ∀ v ∈ l, v < 256) : bcB (hz (l.map p8a)) = hz (l.map p8b) := by
  have e : hz ((l.map p8a).map fun _ => 0x33) = 3689348814741910323 := by
    match l, hl with
    | [_, _, _, _, _, _, _, _], _ => simp [hz]
  have ha : ∀ v ∈ l.map p8a, v < 256 := fun v hv => by
    obtain ⟨w, hw, rfl⟩ := List.mem_map.mp hv
    exact (p8_a w (h w hw)).2.1
  have h1 := hz_and (m := 0x33) (by decide) (l.map p8a) ha
  have h2 := hz_shr (j := 2) (m := 0x33) (by decide) (by decide) (l.map p8a) ha
  rw [e] at h1 h2
  unfold bcB
  rw [h1, h2]
  have h3 := hz_add (l.map fun v => (p8a v &&& 0x33, p8a v / 2 ^ 2 &&& 0x33))
  simp only [List.map_map, Function.comp_def] at h3 ⊢
  exact h3
theorem hz_nib : ∀ l : List Nat, (∀ v ∈ l, v % 16 ≤ 4 ∧ v / 16 ≤ 4) → hz l + hz l / 2 ^ 4 &&& hz (l.map fun _ => 15) = hz (l.map fun v => v % 16 + v / 16)
  | [], _ => by simp [hz]
  | v :: t, h => by
    have h1 := hz_nib t (fun w hw => h w (List.mem_cons_of_mem _ hw))
    have h2 := h v List.mem_cons_self
    have ht : hz t % 16 ≤ 4 := by
      cases t with
      | nil => simp [hz]
      | cons u t => have := h u (List.mem_cons_of_mem _ List.mem_cons_self); simp only [hz]; omega
    have hs := and_split (k := 8) (a := v + v / 16 + 16 * (hz t % 16)) (b := hz t + hz t / 2 ^ 4) (m := 15) (n := hz (t.map fun _ => 15)) (by omega) (by decide)
    have e3 : (v + v / 16 + 16 * (hz t % 16)) &&& 15 = v % 16 + v / 16 := by
      rw [show (15 : Nat) = 2 ^ 4 - 1 from rfl, Nat.and_two_pow_sub_one_eq_mod]
      omega
    simp only [List.map_cons, hz]
    rw [show v + 256 * hz t + (v + 256 * hz t) / 2 ^ 4 = 2 ^ 8 * (hz t + hz t / 2 ^ 4) + (v + v / 16 + 16 * (hz t % 16)) by omega, show 15 + 256 * hz (t.map fun _ => 15) = 2 ^ 8 * hz (t.map fun _ => 15) + 15 by omega, hs, h1, e3]
    omega
theorem bc_C (l : List Nat) (hl : l.length = 8) (h : ∀ v ∈ l, v < 256) : bcC (hz (l.map p8b)) = hz (l.map p8) := by
  have e : hz ((l.map p8b).map fun _ => 15) = 1085102592571150095 := by
    match l, hl with
    | [_, _, _, _, _, _, _, _], _ => simp [hz]
  have h1 := hz_nib (l.map p8b) (fun v hv => by
    obtain ⟨w, hw, rfl⟩ := List.mem_map.mp hv
    have := p8_a w (h w hw)
    exact ⟨this.2.2.2.1, this.2.2.2.2.1⟩)
  rw [e] at h1
  unfold bcC
  rw [h1, List.map_map]
  congr 1
  apply List.map_congr_left
  intro w hw
  exact (p8_a w (h w hw)).2.2.2.2.2.1
theorem bc_sum {p0 p1 p2 p3 p4 p5 p6 p7 C d e f : Nat} (h0 : p0 ≤ 8) (h1 : p1 ≤ 8) (h2 : p2 ≤ 8) (h3 : p3 ≤ 8) (h4 : p4 ≤ 8) (h5 : p5 ≤ 8) (h6 : p6 ≤ 8) (h7 : p7 ≤ 8)
    (hC : C = hz [p0, p1, p2, p3, p4, p5, p6, p7]) (hd : d = C + C / 2 ^ 8) (he : e = d + d / 2 ^ 16) (hf : f = e + e / 2 ^ 32) : C < 2 ^ 63 ∧ d < 2 ^ 63 ∧ e < 2 ^ 63 ∧ f < 2 ^ 64 ∧ f % 128 = p0 + p1 + p2 + p3 + p4 + p5 + p6 + p7 := by
  have d1 : C / 2 ^ 8 = hz [p1, p2, p3, p4, p5, p6, p7] := by rw [hC]; exact hz_div (by omega)
  have d2 : d = hz [p0 + p1, p1 + p2, p2 + p3, p3 + p4, p4 + p5, p5 + p6, p6 + p7, p7] := by rw [hd, d1, hC]; simp only [hz]; omega
  have d3 : d / 2 ^ 16 = hz [p2 + p3, p3 + p4, p4 + p5, p5 + p6, p6 + p7, p7] := by
    rw [d2, show (2 : Nat) ^ 16 = 256 * 256 from rfl, ← Nat.div_div_eq_div_mul, hz_div (by omega), hz_div (by omega)]
  have e2 : e = hz [p0 + p1 + (p2 + p3), p1 + p2 + (p3 + p4), p2 + p3 + (p4 + p5), p3 + p4 + (p5 + p6), p4 + p5 + (p6 + p7), p5 + p6 + p7, p6 + p7, p7] := by rw [he, d3, d2]; simp only [hz]; omega
  have e3 : e / 2 ^ 32 = hz [p4 + p5 + (p6 + p7), p5 + p6 + p7, p6 + p7, p7] := by
    rw [e2, show (2 : Nat) ^ 32 = 256 * 256 * 256 * 256 from rfl, ← Nat.div_div_eq_div_mul, ← Nat.div_div_eq_div_mul, ← Nat.div_div_eq_div_mul, hz_div (by omega), hz_div (by omega), hz_div (by omega), hz_div (by omega)]
  have c2 : C < 2 ^ 63 := by rw [hC]; simp only [hz]; omega
  have c3 : d < 2 ^ 63 := by rw [d2]; simp only [hz]; omega
  have c4 : e < 2 ^ 63 := by rw [e2]; simp only [hz]; omega
  have f2 : f = hz [p0 + p1 + (p2 + p3) + (p4 + p5 + (p6 + p7)), p1 + p2 + (p3 + p4) + (p5 + p6 + p7), p2 + p3 + (p4 + p5) + (p6 + p7), p3 + p4 + (p5 + p6) + p7, p4 + p5 + (p6 + p7), p5 + p6 + p7, p6 + p7, p7] := by rw [hf, e3, e2]; simp only [hz]; omega
  refine ⟨c2, c3, c4, by omega, ?_⟩
  rw [f2]
  simp only [hz]
  omega
/-- bits by bytes -/
theorem pc_byte (f : Nat → Bool) (X k : Nat) (hf : ∀ j, j < 64 → f j = X.testBit j) (hk : k < 8) : pc f (8 * k + 8) = pc f (8 * k) + p8 (X / 2 ^ (8 * k) % 256) := by
  have hb : ∀ i, i < 8 → (f (8 * k + i)).toNat = X / 2 ^ (8 * k) / 2 ^ i % 2 := by
    intro i hi
    rw [hf _ (by omega), Nat.toNat_testBit, Nat.pow_add, Nat.div_div_eq_div_mul]
  have h0 := hb 0 (by decide)
  have h1 := hb 1 (by decide)
  have h2 := hb 2 (by decide)
  have h3 := hb 3 (by decide)
  have h4 := hb 4 (by decide)
  have h5 := hb 5 (by decide)
  have h6 := hb 6 (by decide)
  have h7 := hb 7 (by decide)
  show pc f (8 * k) + (f (8 * k)).toNat + (f (8 * k + 1)).toNat + (f (8 * k + 2)).toNat + (f (8 * k + 3)).toNat + (f (8 * k + 4)).toNat + (f (8 * k + 5)).toNat + (f (8 * k + 6)).toNat + (f (8 * k + 7)).toNat = _
  rw [show f (8 * k) = f (8 * k + 0) from rfl, h0, h1, h2, h3, h4, h5, h6, h7]
  unfold p8
  omega
theorem pc_64 (f : Nat → Bool) (X : Nat) (hf : ∀ j, j < 64 → f j = X.testBit j) : pc f 64 = p8 (X % 256) + p8 (X / 256 % 256) + p8 (X / 65536 % 256) + p8 (X / 16777216 % 256) + p8 (X / 4294967296 % 256) + p8 (X / 1099511627776 % 256) + p8 (X / 281474976710656 % 256) + p8 (X / 72057594037927936 % 256) := by
  have h0 := pc_byte f X 0 hf (by decide)
  have h1 := pc_byte f X 1 hf (by decide)
  have h2 := pc_byte f X 2 hf (by decide)
  have h3 := pc_byte f X 3 hf (by decide)
  have h4 := pc_byte f X 4 hf (by decide)
  have h5 := pc_byte f X 5 hf (by decide)
  have h6 := pc_byte f X 6 hf (by decide)
  have h7 := pc_byte f X 7 hf (by decide)
  simp only [Nat.reduceMul, Nat.reduceAdd, Nat.reducePow, Nat.div_one, show pc f 0 = 0 from rfl] at h0 h1 h2 h3 h4 h5 h6 h7
  omega
def un (x : Int64) : Nat := x.toBitVec.toNat
theorem un_lt (x : Int64) : un x < 2 ^ 64 := x.toBitVec.isLt
theorem un_and (x y : Int64) : un (x &&& y) = un x &&& un y := BitVec.toNat_and _ _
theorem un_add {x y : Int64} (h : un x + un y < 2 ^ 64) : un (x + y) = un x + un y := by
  show (x.toBitVec + y.toBitVec).toNat = _
  rw [BitVec.toNat_add]
  exact Nat.mod_eq_of_lt h
theorem un_sub {x y : Int64} (h : un y ≤ un x) : un (x - y) = un x - un y := by
  show (x.toBitVec - y.toBitVec).toNat = _
  have := un_lt x
  unfold un at *
  rw [BitVec.toNat_sub]
  omega
theorem un_shr (x : Int64) {k : Nat} (hk : k < 64) : un (x.toUInt64 >>> ((nI k).toInt64.toUInt64 &&& Int64.toUInt64 63)).toInt64 = un x / 2 ^ k := by
  have key : ∀ j, j < 64 → (((nI j).toInt64.toUInt64 &&& Int64.toUInt64 63).toBitVec % 64#64).toNat = j := by decide +kernel
  show (x.toBitVec >>> (((nI k).toInt64.toUInt64 &&& Int64.toUInt64 63).toBitVec % 64#64)).toNat = _
  rw [show (x.toBitVec >>> (((nI k).toInt64.toUInt64 &&& Int64.toUInt64 63).toBitVec % 64#64)) = x.toBitVec >>> (((nI k).toInt64.toUInt64 &&& Int64.toUInt64 63).toBitVec % 64#64).toNat from rfl, key k hk, BitVec.toNat_ushiftRight, Nat.shiftRight_eq_div_pow]
  rfl
theorem lo_127 (x : Int64) : x.toInt32 &&& nI 127 = nI (un x % 128) := by
  rw [pk_and x.toInt32 7 (by decide)]
  congr 1
  rw [show (128 : Nat) = 2 ^ 7 from rfl]
  apply Nat.eq_of_testBit_eq
  intro i
  rw [Nat.testBit_mod_two_pow, Nat.testBit_mod_two_pow]
  by_cases hi : i < 7
  · have := lo_bit x (show i < 32 by omega)
    simp only [hi, decide_true, Bool.true_and]
    exact this
  · simp [hi]
/-- the sum that the JDK makes, as it makes it -/
theorem bc_key (x a b c d e f : Int64) (ha : a = x - ((x.toUInt64 >>> ((nI 1).toInt64.toUInt64 &&& Int64.toUInt64 63)).toInt64 &&& 6148914691236517205))
    (hb : b = (a &&& 3689348814741910323) + ((a.toUInt64 >>> ((nI 2).toInt64.toUInt64 &&& Int64.toUInt64 63)).toInt64 &&& 3689348814741910323))
    (hc : c = (b + (b.toUInt64 >>> ((nI 4).toInt64.toUInt64 &&& Int64.toUInt64 63)).toInt64) &&& 1085102592571150095)
    (hd : d = c + (c.toUInt64 >>> ((nI 8).toInt64.toUInt64 &&& Int64.toUInt64 63)).toInt64) (he : e = d + (d.toUInt64 >>> ((nI 16).toInt64.toUInt64 &&& Int64.toUInt64 63)).toInt64)
    (hf : f = e + (e.toUInt64 >>> ((nI 32).toInt64.toUInt64 &&& Int64.toUInt64 63)).toInt64) : f.toInt32 &&& nI 127 = nI (pc x.toBitVec.getLsbD 64) := by
  have hX := un_lt x
  have h8 := hz8 hX
  obtain ⟨l, hle⟩ : ∃ l : List Nat, l = [un x % 256, un x / 256 % 256, un x / 65536 % 256, un x / 16777216 % 256, un x / 4294967296 % 256, un x / 1099511627776 % 256, un x / 281474976710656 % 256, un x / 72057594037927936 % 256] := ⟨_, rfl⟩
  rw [← hle] at h8
  have hll : l.length = 8 := by rw [hle]; rfl
  have hlt : ∀ v ∈ l, v < 256 := by
    intro v hv
    rw [hle] at hv
    simp only [List.mem_cons, List.not_mem_nil, or_false] at hv
    omega
  have hA := bc_A l hll hlt
  rw [← h8] at hA
  have ea : un a = hz (l.map p8a) := by
    rw [ha, un_sub (by rw [un_and, un_shr _ (by decide)]; exact hA.1), un_and, un_shr _ (by decide)]
    exact hA.2
  have lb : ∀ v ∈ l.map p8b, v < 256 := fun v hv => by
    obtain ⟨w, hw, rfl⟩ := List.mem_map.mp hv
    exact (p8_a w (hlt w hw)).2.2.1
  have eb : un b = hz (l.map p8b) := by
    have hB := bc_B l hll hlt
    rw [← ea] at hB
    have e1 : un a &&& 3689348814741910323 ≤ 3689348814741910323 := Nat.and_le_right
    have e2 : un a / 2 ^ 2 &&& 3689348814741910323 ≤ 3689348814741910323 := Nat.and_le_right
    rw [hb, un_add (by rw [un_and, un_and, un_shr _ (by decide)]; show (un a &&& 3689348814741910323) + (un a / 2 ^ 2 &&& 3689348814741910323) < 2 ^ 64; omega), un_and, un_and, un_shr _ (by decide)]
    exact hB
  have hbl : un b < 2 ^ 63 := by
    have hB := bc_B l hll hlt
    rw [← ea, ← eb] at hB
    have e1 : un a &&& 3689348814741910323 ≤ 3689348814741910323 := Nat.and_le_right
    have e2 : un a / 2 ^ 2 &&& 3689348814741910323 ≤ 3689348814741910323 := Nat.and_le_right
    rw [← hB]
    unfold bcB
    omega
  have ec : un c = hz (l.map p8) := by
    have hC := bc_C l hll hlt
    rw [← eb] at hC
    rw [hc, un_and, un_add (by rw [un_shr _ (by decide)]; omega), un_shr _ (by decide)]
    exact hC
  have hp : ∀ v, v < 256 → p8 v ≤ 8 := fun v hv => (p8_a v hv).2.2.2.2.2.2
  obtain ⟨s1, s2, s3, s4, s5⟩ := bc_sum (hp _ (by omega : un x % 256 < 256)) (hp _ (by omega : un x / 256 % 256 < 256)) (hp _ (by omega : un x / 65536 % 256 < 256)) (hp _ (by omega : un x / 16777216 % 256 < 256)) (hp _ (by omega : un x / 4294967296 % 256 < 256)) (hp _ (by omega : un x / 1099511627776 % 256 < 256)) (hp _ (by omega : un x / 281474976710656 % 256 < 256)) (hp _ (by omega : un x / 72057594037927936 % 256 < 256)) (C := un c) (by rw [ec, hle]; rfl) rfl rfl rfl
  have ed : un d = un c + un c / 2 ^ 8 := by rw [hd, un_add (by rw [un_shr _ (by decide)]; omega), un_shr _ (by decide)]
  have ee : un e = un d + un d / 2 ^ 16 := by rw [he, un_add (by rw [un_shr _ (by decide)]; omega), un_shr _ (by decide)]
  have ef : un f = un e + un e / 2 ^ 32 := by rw [hf, un_add (by rw [un_shr _ (by decide)]; omega), un_shr _ (by decide)]
  rw [lo_127, ef, ee, ed, s5, pc_64 x.toBitVec.getLsbD (un x) (fun j _ => rfl)]
end
section
/-! What nobody writes: the six patterns, Throwable's two statics, the texts; and starts of methods that lean on it. -/
def pat (j : Nat) : Int64 := match j with
  | 0 => -6148914691236517206
  | 1 => -3689348814741910324
  | 2 => -1085102592571150096
  | 3 => -71777214294589696
  | 4 => -281470681808896
  | _ => -4294967296
def xE : List String := ["java/lang/IllegalStateException", "java/lang/IllegalArgumentException", "java/lang/IndexOutOfBoundsException"]
def sTx : List (Nat × String) := [(35, "there are 8 inputs"), (50, "there are 4 latches"), (84, "there are 16 outputs"), (122, "k is below 0"), (145, "no such output or next of both sides"), (158, "no such output"), (175, "no such what"), (181, "no such side"), (183, "no such literal"), (185, "no such latch"), (189, "a start is neither 0 nor 1"), (192, "there are 400 nodes"), (197, "a literal is of an AND of the other side")]
/-- a kind of exception can be cast to itself -/
def Cs (E : String) (U : State) : Prop := ∃ c : ClassId, U.vm.findClass E = some c ∧ U.vm.assignable c c = true
theorem Cs.moved {E : String} {u U : State} (hvm : u.vm.Alike U.vm) (h : Cs E u) : Cs E U := by
  obtain ⟨c, h1, h2⟩ := h
  exact ⟨c, by rw [hvm.findClass]; exact h1, by rw [hvm.assignable]; exact h2⟩
theorem Cs.of {E : String} {U : State} {A : Array Value} (h : (Cond.castable E E).before A U = true) : Cs E U := by
  obtain ⟨c, t, h1, h2, h3⟩ := Cond.castable_spec h
  cases h1.symm.trans h2
  exact ⟨c, h1, h3⟩
theorem Cs.word {E : String} {U : State} {A : Array Value} (h : Cs E U) : (Cond.castable E E).before A U = true := by
  obtain ⟨c, h1, h2⟩ := h
  simp [Cond.before, Cond.holds, Cond.value, h1, h2]
def xD : List MethodName := [Bundle.initS "java/lang/RuntimeException", Bundle.initS "java/lang/Exception", Bundle.initS "java/lang/Throwable"]
def EV (tp : Nat) (A : Nat → Prop) (U : State) (H : Heap) : Prop :=
  va_Z "SweepEqual$Nodes" "WORD_PATTERNS" "[J" (.ref tp) A U H ∧ va_T .long tp 6 (fun j => .long (pat j)) A U H ∧
  vx_Zq Bundle.tN "UNASSIGNED_STACK" Bundle.steD A U H ∧ vx_Zq Bundle.tN "SUPPRESSED_SENTINEL" Bundle.listD A U H ∧
  (∀ q ∈ sTx, ∃ sa, vk_R RX2 q.1 q.2 sa U) ∧ (∀ E ∈ xE, Cs E U) ∧ (∀ x ∈ xD, (Cond.declares x).before #[] U = true)
theorem EV.kept {tp : Nat} {A : Nat → Prop} {U : State} {H H1 : Heap} (h : EV tp A U H) (hq : ∀ a : Nat, a < H.size → ¬ A a → H1[a]? = H[a]?) : EV tp A U H1 := by
  obtain ⟨h1, h2, h3, h4, h5⟩ := h
  exact ⟨h1.kept hq, h2.kept hq, h3.kept hq, h4.kept hq, h5⟩
theorem EV.narrow {tp : Nat} {A B : Nat → Prop} {U : State} {H : Heap} (h : EV tp A U H) (hAB : ∀ q, B q → A q) : EV tp B U H := by
  obtain ⟨h1, h2, h3, h4, h5⟩ := h
  exact ⟨h1.narrow hAB, h2.narrow hAB, h3.narrow hAB, h4.narrow hAB, h5⟩
theorem EV.warm {tp : Nat} {A : Nat → Prop} {s U : State} {H : Heap} (hW : s.WarmedH U.vm) (h : EV tp A s H) : EV tp A U H := by
  obtain ⟨h1, h2, h3, h4, h5, h6, h7⟩ := h
  exact ⟨h1.moved hW.alike, h2.moved hW.alike, h3.moved hW.alike, h4.moved hW.alike, fun q hq => by obtain ⟨sa, h⟩ := h5 q hq; exact ⟨sa, h.warm hW⟩, fun E hE => (h6 E hE).moved hW.alike, fun x hx => by
    have h8 : (Cond.declares x).before #[] (s.setVm U.vm) = true := Cond.before_shiftedFace (State.Shifted.of_warmed hW) _ rfl (h7 x hx)
    exact va_tabs (u := s.setVm U.vm) rfl rfl h8⟩
theorem EV.same {tp : Nat} {A : Nat → Prop} {u U : State} {H : Heap} (hv : U.vm = u.vm) (h : EV tp A u H) : EV tp A U H := by
  obtain ⟨h1, h2, h3, h4, h5, h6, h7⟩ := h
  have ha : u.vm.Alike U.vm := by rw [hv]; exact Vm.Alike.refl _
  exact ⟨h1.moved ha, h2.moved ha, h3.moved ha, h4.moved ha, fun q hq => by obtain ⟨sa, h⟩ := h5 q hq; exact ⟨sa, h.same hv⟩, fun E hE => (h6 E hE).moved ha, fun x hx => va_tabs rfl hv.symm (h7 x hx)⟩
/-- as seen behind writes in A -/
theorem EV.at {tp : Nat} {A : Nat → Prop} {U : State} {H0 H : Heap} {locs : List Loc} (h : EV tp A U H0) (hS : va_S A H0 H locs) : EV tp A U H := h.kept hS.2.1
section EE
variable {s : State} {H : Heap}
/-- a reader's start, with what nobody writes -/
abbrev re_P (D : va_G) (tys : List (ClassId × FieldType)) (ww : va_W) (tp : Nat) (av : List Value) : Array Value → State → Prop := va_Pc av (fun U => (va_P D vwCl ww U.heap ∧ va_K D vwCl tys U) ∧ EV tp (fun _ => False) U U.heap)
theorem re_blind {D : va_G} {tys : List (ClassId × FieldType)} {ww : va_W} {tp : Nat} {av : List Value} : FrameBlind (re_P D tys ww tp av) := fun a U g mk q => ⟨q.1, ⟨q.2.1.1, va_K.moved (u := U) (U := U.calling g mk a) (Vm.Alike.refl U.vm) q.2.1.2⟩, EV.same (u := U) (U := U.calling g mk a) rfl q.2.2⟩
theorem re_pv {D : va_G} {tys : List (ClassId × FieldType)} {ww : va_W} {tp q0 ci : Nat} {q : vw_C} {fs : List Value} {b : Nat} {As : List Value} {A : Nat → Prop} (hK : va_K D vwCl tys s) (hP : va_P D vwCl ww H) (hE : EV tp A s H) (hc : vwCl[ci]? = some q) (he : ww[q0]? = some (b, .inr (ci, fs))) : PreV s H q.1 b (re_P D tys ww tp (.ref b :: As)) As :=
  ⟨re_blind, va_recv hK hP hc he, fun U hU hW => ⟨rfl, ⟨by rw [hU]; exact hP, va_K.moved hW.alike hK⟩, by rw [hU]; exact (EV.warm hW hE).narrow (fun _ h => h.elim)⟩⟩
theorem re_ps {D : va_G} {tys : List (ClassId × FieldType)} {ww : va_W} {tp : Nat} {As : List Value} {A : Nat → Prop} (hK : va_K D vwCl tys s) (hP : va_P D vwCl ww H) (hE : EV tp A s H) : PreS s H (re_P D tys ww tp As) As :=
  ⟨re_blind, fun U hU hW => ⟨rfl, ⟨by rw [hU]; exact hP, va_K.moved hW.alike hK⟩, by rw [hU]; exact (EV.warm hW hE).narrow (fun _ h => h.elim)⟩⟩
end EE
theorem n_xor (a b : Nat) : nI a ^^^ nI b = nI (a ^^^ b) := by
  apply Int32.toBitVec_inj.mp
  show BitVec.ofNat 32 a ^^^ BitVec.ofNat 32 b = BitVec.ofNat 32 (a ^^^ b)
  apply BitVec.eq_of_getLsbD_eq
  intro i hi
  simp [BitVec.getLsbD_ofNat, hi, Nat.testBit_xor]
theorem n_or (a b : Nat) : nI a ||| nI b = nI (a ||| b) := by
  apply Int32.toBitVec_inj.mp
  show BitVec.ofNat 32 a ||| BitVec.ofNat 32 b = BitVec.ofNat 32 (a ||| b)
  apply BitVec.eq_of_getLsbD_eq
  intro i hi
  simp [BitVec.getLsbD_ofNat, hi, Nat.testBit_or]
/-- a shift to the right by a number, as Java takes it -/
def shrL (x : Int64) (k : Nat) : Int64 := (x.toUInt64 >>> ((nI k).toInt64.toUInt64 &&& Int64.toUInt64 63)).toInt64
/-- whether word w of a literal tells that it hangs on variable b -/
def whF (fr : Nat → Int64) (lit b w : Nat) : Bool :=
  if 6 ≤ b then decide (¬ wd fr lit w = wd fr lit (w ^^^ 2 ^ (b - 6)))
  else decide (¬ (wd fr lit w ^^^ shrL (wd fr lit w) (2 ^ b)) &&& (pat b ^^^ (-1)) = 0)
/-- from word i on, at most n words -/
def hgF (fr : Nat → Int64) (lit b : Nat) : Nat → Nat → Bool
  | 0, _ => false
  | n + 1, i => if whF fr lit b i = true then true else hgF fr lit b n (i + 1)
/-- the first k variables on which a literal hangs -/
def spF (fr : Nat → Int64) (lit : Nat) : Nat → Int32
  | 0 => nI 0
  | k + 1 => if hgF fr lit k 64 0 = true then spF fr lit k ||| (nI 1 <<< (nI k &&& 31)) else spF fr lit k
/-- word w of variable b -/
def vwF (b w : Nat) : Int64 := if b < 6 then pat b else if w / 2 ^ (b - 6) % 2 = 1 then -1 else 0
theorem n_shl1 {k : Nat} (hk : k < 31) : nI 1 <<< (nI k &&& 31) = nI (2 ^ k) := by
  have h : 2 ^ k < 2 ^ 31 := Nat.pow_lt_pow_right (by omega) hk
  rw [n_shl (by omega) (by omega), Nat.one_mul]
end
section
/-! Readers of Nodes that lean on the patterns. -/
section RS
variable (l : Launch) (D : va_G) (cI cJ : ClassId) (hn ow fi ro cnt len : Nat) (fo ff : Nat → Int32) (fr : Nat → Int64) (tp : Nat)
set_option maxHeartbeats 4000000 in
set_option maxRecDepth 100000 in
/-- word w of variable b -/
theorem c_X1_variableWord (b w : Nat) (h1 : b < 12) (h2 : w < 64) : Met l yX1_variableWord wsX1_variableWord { frames := 0, cells := 0, slots := 0, locals := 0 } (re_P D [(cI, .int), (cJ, .long)] [] tp [.int (nI b), .int (nI w)]) (k2_QcV (.long (vwF b w))) 0 0 (fun _ => False) := by
  refine Met.ofW (cc := cX1_variableWord) (maxL := 2) (ret := (some .long)) (by decide) rfl ?_
  intro p e s m args below meth c s₁ B hml hv
  obtain ⟨rfl, ⟨hP, hK⟩, hE⟩ := hv
  have hx := B.exec
  have hb := B.bytes
  have hr := B.returns
  have hts := atoms_spec (ws := wsX1_variableWord) B.pre
  have hown : s.vm.findClass RX1 = some m.cls := findClass_of_methodNamed B.named
  have hlocks := B.notSynchronized
  have hl := lv_entry ([.int (nI b), .int (nI w)]) (n := 2) (Nat.le_of_ble_eq_true rfl)
  rw [lg_entry_eq]
  generalize (lg_sl ([.int (nI b), .int (nI w)]) ++ List.replicate (2 - (lg_sl ([.int (nI b), .int (nI w)])).length) Slot.unset).toArray = ls at hl ⊢
  have hl : lv_has ls 2 [(0, .int (nI b)), (1, .int (nI w))] := hl
  refine lv_iload_n hx hb dX1_variableWord_0 rfl (lv_at hl 0 rfl) ?_
  refine lv_bipush (v := nI 6) hx hb dX1_variableWord_1 (by decide) ?_
  refine lv_icmp_ge (tgt := 12) hx hb dX1_variableWord_3 (by decide) (fun c1 => ?_) (fun c1 => ?_)
  · have c1 : 6 ≤ b := (nI_leI (by omega) (by omega)).mp c1
    have c1 : ¬ b < 6 := by omega
    have hq : w / 2 ^ (b - 6) ≤ w := Nat.div_le_self _ _
    refine lv_iload_n hx hb dX1_variableWord_12 rfl (lv_at hl 1 rfl) ?_
    refine lv_iload_n hx hb dX1_variableWord_13 rfl (lv_at hl 0 rfl) ?_
    refine lv_bipush (v := nI 6) hx hb dX1_variableWord_14 (by decide) ?_
    refine lv_isub hx hb dX1_variableWord_16 ?_
    refine tp_i (show (nI b) - (nI 6) = nI (b - 6) from pk_sub (by omega)) ?_
    refine lv_ishr hx hb dX1_variableWord_17 ?_
    refine tp_i (show (nI w) >>> ((nI (b - 6)) &&& 31) = nI (w / 2 ^ (b - 6)) from n_shr (by omega) (by omega)) ?_
    refine lv_iconst (v := nI 1) hx hb dX1_variableWord_18 (by decide) ?_
    refine lv_iand hx hb dX1_variableWord_19 ?_
    refine tp_i (show (nI (w / 2 ^ (b - 6))) &&& (nI 1) = nI ((w / 2 ^ (b - 6)) % 2) from n_and1 (by omega)) ?_
    refine lv_iconst (v := nI 1) hx hb dX1_variableWord_20 (by decide) ?_
    refine lv_icmp_ne (tgt := 30) hx hb dX1_variableWord_21 (by decide) (fun c2 => ?_) (fun c2 => ?_)
    · have c2 : ¬ (w / 2 ^ (b - 6)) % 2 = 1 := fun h => c2 ((nI_eq (by omega) (by omega)).mpr h)
      refine lv_lconst (v := 0) hx hb dX1_variableWord_30 (by decide) ?_
      exact rd_l hx hb hr hlocks dX1_variableWord_31 (by simp [vwF, c1, c2])
    · have c2 : (w / 2 ^ (b - 6)) % 2 = 1 := (nI_eq (by omega) (by omega)).mp c2
      refine lv_ldc2 hx hb hown (hts (.constantLong RX1 88 (-1)) (by decide +kernel)) dX1_variableWord_24 ?_
      refine lv_goto (tgt := 31) hx hb dX1_variableWord_27 (by decide) ?_
      exact rd_l hx hb hr hlocks dX1_variableWord_31 (by simp [vwF, c1, c2])
  · have c1 : ¬ (6 ≤ b) := fun h => c1 ((nI_leI (by omega) (by omega)).mpr h)
    have c1 : b < 6 := by omega
    refine va_gets (C := "SweepEqual$Nodes") (n := "WORD_PATTERNS") (d := "[J") (v := .ref tp) hx hb hE.1 va_S.rf hown (hts (.fieldLink RX1 85 "SweepEqual$Nodes" "WORD_PATTERNS" "[J") (by decide +kernel)) (fun _ h9 => h9) dX1_variableWord_6 ?_
    refine lv_iload_n hx hb dX1_variableWord_9 rfl (lv_at hl 0 rfl) ?_
    refine va_tl (v := .long (pat b)) hx hb hE.2.1 va_S.rf (vp_in_nI (by omega) (by omega)) (by show Value.long (pat (nI b).toNatClampNeg) = _; rw [nI_clamp (by omega)]) dX1_variableWord_10 ?_
    exact rd_l hx hb hr hlocks dX1_variableWord_11 (by simp [vwF, c1])
set_option maxHeartbeats 4000000 in
set_option maxRecDepth 100000 in
/-- whether a word tells that a literal hangs on a variable -/
theorem c_X1_wordHangsOn (lit b w : Nat) (hb2 : b < 12) (hw : w < 64) (h1 : lit / 2 * 64 + 63 < len) (h2 : len ≤ 25600) : Met l yX1_wordHangsOn wsX1_wordHangsOn { frames := 1, cells := 0, slots := 0, locals := 24 } (re_P D [(cI, .int), (cJ, .long)] (nW hn ow fi ro cI cJ cnt len fo ff fr) tp [.ref hn, .int (nI lit), .int (nI b), .int (nI w)]) (k2_QcV (.int (zI (whF fr lit b w)))) 0 0 (fun _ => False) := by
  refine Met.ofW (cc := cX1_wordHangsOn) (maxL := 8) (ret := (some .boolean)) (by decide) rfl ?_
  intro p e s m args below meth c s₁ B hml hv
  obtain ⟨rfl, ⟨hP, hK⟩, hE⟩ := hv
  have hx := B.exec
  have hb := B.bytes
  have hr := B.returns
  have hts := atoms_spec (ws := wsX1_wordHangsOn) B.pre
  have hown : s.vm.findClass RX1 = some m.cls := findClass_of_methodNamed B.named
  have hlocks := B.notSynchronized
  have hl := lv_entry ([.ref hn, .int (nI lit), .int (nI b), .int (nI w)]) (n := 8) (Nat.le_of_ble_eq_true rfl)
  rw [lg_entry_eq]
  generalize (lg_sl ([.ref hn, .int (nI lit), .int (nI b), .int (nI w)]) ++ List.replicate (8 - (lg_sl ([.ref hn, .int (nI lit), .int (nI b), .int (nI w)])).length) Slot.unset).toArray = ls at hl ⊢
  have hl : lv_has ls 8 [(0, .ref hn), (1, .int (nI lit)), (2, .int (nI b)), (3, .int (nI w))] := hl
  refine lv_aload_n hx hb dX1_wordHangsOn_0 rfl (lv_at hl 0 rfl) ?_
  refine lv_iload_n hx hb dX1_wordHangsOn_1 rfl (lv_at hl 1 rfl) ?_
  refine lv_iload_n hx hb dX1_wordHangsOn_2 rfl (lv_at hl 3 rfl) ?_
  refine rd_V (As := [.int (nI lit), .int (nI w)]) (rest := []) ⟨hx, hb, hml, hown, hts⟩ (c_X1_wordOf l D cI cJ hn ow fi ro cnt len fo ff fr lit w (by omega) h2) (cwV 2 hts gX1_wordHangsOn_X1_wordOf rfl rfl rfl (by decide +kernel) ⟨Nat.le_of_ble_eq_true rfl, Nat.le_of_ble_eq_true rfl⟩) (rd_pv (ci := 1) (q0 := 0) hK hP rfl rfl) rfl hl.1 rfl (Nat.le_of_ble_eq_true rfl) dX1_wordHangsOn_3 ⟨Nat.zero_le _, Nat.zero_le _⟩ ?_
  refine lv_lstore (lv' := [(4, .long (wd fr lit w)), (0, .ref hn), (1, .int (nI lit)), (2, .int (nI b)), (3, .int (nI w))]) hx hb dX1_wordHangsOn_6 hl (by decide) rfl (fun ls hl => ?_)
  refine lv_iload_n hx hb dX1_wordHangsOn_8 rfl (lv_at hl 3 rfl) ?_
  refine lv_bipush (v := nI 6) hx hb dX1_wordHangsOn_9 (by decide) ?_
  refine lv_icmp_lt (tgt := 39) hx hb dX1_wordHangsOn_11 (by decide) (fun c1 => ?_) (fun c1 => ?_)
  · have c1 : b < 6 := (nI_ltI (by omega) (by omega)).mp c1
    have c1 : ¬ 6 ≤ b := by omega
    refine lv_lload hx hb dX1_wordHangsOn_39 (lv_at hl 0 rfl) ?_
    refine lv_iconst (v := nI 1) hx hb dX1_wordHangsOn_41 (by decide) ?_
    refine lv_iload_n hx hb dX1_wordHangsOn_42 rfl (lv_at hl 3 rfl) ?_
    refine lv_ishl hx hb dX1_wordHangsOn_43 ?_
    refine tp_i (show (nI 1) <<< ((nI b) &&& 31) = nI (2 ^ b) from n_shl1 (by omega)) ?_
    refine lv_lushr (v := shrL (wd fr lit w) (2 ^ b)) hx hb dX1_wordHangsOn_44 (rfl) ?_
    refine lv_lstore (lv' := [(6, .long (shrL (wd fr lit w) (2 ^ b))), (4, .long (wd fr lit w)), (0, .ref hn), (1, .int (nI lit)), (2, .int (nI b)), (3, .int (nI w))]) hx hb dX1_wordHangsOn_45 hl (by decide) rfl (fun ls hl => ?_)
    refine lv_lload hx hb dX1_wordHangsOn_47 (lv_at hl 1 rfl) ?_
    refine lv_lload hx hb dX1_wordHangsOn_49 (lv_at hl 0 rfl) ?_
    refine lv_lxor hx hb dX1_wordHangsOn_51 ?_
    refine va_gets (C := "SweepEqual$Nodes") (n := "WORD_PATTERNS") (d := "[J") (v := .ref tp) hx hb hE.1 va_S.rf hown (hts (.fieldLink RX1 85 "SweepEqual$Nodes" "WORD_PATTERNS" "[J") (by decide +kernel)) (fun _ h9 => h9) dX1_wordHangsOn_52 ?_
    refine lv_iload_n hx hb dX1_wordHangsOn_55 rfl (lv_at hl 4 rfl) ?_
    have hbl : b < 6 := by omega
    refine va_tl (v := .long (pat b)) hx hb hE.2.1 va_S.rf (vp_in_nI (by omega) (by omega)) (by show Value.long (pat (nI b).toNatClampNeg) = _; rw [nI_clamp (by omega)]) dX1_wordHangsOn_56 ?_
    refine lv_ldc2 hx hb hown (hts (.constantLong RX1 88 (-1)) (by decide +kernel)) dX1_wordHangsOn_57 ?_
    refine lv_lxor hx hb dX1_wordHangsOn_60 ?_
    refine lv_land hx hb dX1_wordHangsOn_61 ?_
    refine lv_lconst (v := 0) hx hb dX1_wordHangsOn_62 (by decide) ?_
    refine W.lcmp hx hb dX1_wordHangsOn_63 ?_
    refine lv_if_eq (tgt := 71) hx hb dX1_wordHangsOn_64 (by decide) (fun c2 => ?_) (fun c2 => ?_)
    · have c2 : ((wd fr lit w) ^^^ (shrL (wd fr lit w) (2 ^ b))) &&& ((pat b) ^^^ (-1)) = 0 := lg_cmp0.mp c2
      refine lv_iconst (v := nI 0) hx hb dX1_wordHangsOn_71 (by decide) ?_
      exact rd_z hx hb hr hlocks dX1_wordHangsOn_72 (by unfold whF; rw [if_neg c1, c2]; rfl) (zI_01 _)
    · have c2 : ¬ (((wd fr lit w) ^^^ (shrL (wd fr lit w) (2 ^ b))) &&& ((pat b) ^^^ (-1))) = 0 := fun h => c2 (lg_cmp0.mpr h)
      refine lv_iconst (v := nI 1) hx hb dX1_wordHangsOn_67 (by decide) ?_
      refine lv_goto (tgt := 72) hx hb dX1_wordHangsOn_68 (by decide) ?_
      exact rd_z hx hb hr hlocks dX1_wordHangsOn_72 (by unfold whF; rw [if_neg c1, decide_eq_true c2]; rfl) (zI_01 _)
  · have c1 : ¬ (b < 6) := fun h => c1 ((nI_ltI (by omega) (by omega)).mpr h)
    have c1 : 6 ≤ b := by omega
    have hp : 2 ^ (b - 6) < 2 ^ 6 := Nat.pow_lt_pow_right (by omega) (by omega)
    have hx6 : w ^^^ 2 ^ (b - 6) < 2 ^ 6 := Nat.xor_lt_two_pow (by omega) hp
    refine lv_lload hx hb dX1_wordHangsOn_14 (lv_at hl 0 rfl) ?_
    refine lv_aload_n hx hb dX1_wordHangsOn_16 rfl (lv_at hl 1 rfl) ?_
    refine lv_iload_n hx hb dX1_wordHangsOn_17 rfl (lv_at hl 2 rfl) ?_
    refine lv_iload_n hx hb dX1_wordHangsOn_18 rfl (lv_at hl 4 rfl) ?_
    refine lv_iconst (v := nI 1) hx hb dX1_wordHangsOn_19 (by decide) ?_
    refine lv_iload_n hx hb dX1_wordHangsOn_20 rfl (lv_at hl 3 rfl) ?_
    refine lv_bipush (v := nI 6) hx hb dX1_wordHangsOn_21 (by decide) ?_
    refine lv_isub hx hb dX1_wordHangsOn_23 ?_
    refine tp_i (show (nI b) - (nI 6) = nI (b - 6) from pk_sub (by omega)) ?_
    refine lv_ishl hx hb dX1_wordHangsOn_24 ?_
    refine tp_i (show (nI 1) <<< ((nI (b - 6)) &&& 31) = nI (2 ^ (b - 6)) from n_shl1 (by omega)) ?_
    refine lv_ixor hx hb dX1_wordHangsOn_25 ?_
    refine tp_i (show (nI w) ^^^ (nI (2 ^ (b - 6))) = nI (w ^^^ 2 ^ (b - 6)) from n_xor _ _) ?_
    refine rd_V (As := [.int (nI lit), .int (nI (w ^^^ 2 ^ (b - 6)))]) (rest := [.long (wd fr lit w)]) ⟨hx, hb, hml, hown, hts⟩ (c_X1_wordOf l D cI cJ hn ow fi ro cnt len fo ff fr lit (w ^^^ 2 ^ (b - 6)) (by omega) h2) (cwV 2 hts gX1_wordHangsOn_X1_wordOf rfl rfl rfl (by decide +kernel) ⟨Nat.le_of_ble_eq_true rfl, Nat.le_of_ble_eq_true rfl⟩) (rd_pv (ci := 1) (q0 := 0) hK hP rfl rfl) rfl hl.1 rfl (Nat.le_of_ble_eq_true rfl) dX1_wordHangsOn_26 ⟨Nat.zero_le _, Nat.zero_le _⟩ ?_
    refine W.lcmp hx hb dX1_wordHangsOn_29 ?_
    refine lv_if_eq (tgt := 37) hx hb dX1_wordHangsOn_30 (by decide) (fun c2 => ?_) (fun c2 => ?_)
    · have c2 : wd fr lit w = wd fr lit (w ^^^ 2 ^ (b - 6)) := lg_cmp0.mp c2
      refine lv_iconst (v := nI 0) hx hb dX1_wordHangsOn_37 (by decide) ?_
      exact rd_z hx hb hr hlocks dX1_wordHangsOn_38 (by simp [whF, c1, c2, zI, nI_zero]) (zI_01 _)
    · have c2 : ¬ (wd fr lit w) = (wd fr lit (w ^^^ 2 ^ (b - 6))) := fun h => c2 (lg_cmp0.mpr h)
      refine lv_iconst (v := nI 1) hx hb dX1_wordHangsOn_33 (by decide) ?_
      refine lv_goto (tgt := 38) hx hb dX1_wordHangsOn_34 (by decide) ?_
      exact rd_z hx hb hr hlocks dX1_wordHangsOn_38 (by simp [whF, c1, c2, zI, nI_one]) (zI_01 _)
set_option maxHeartbeats 4000000 in
set_option maxRecDepth 100000 in
/-- whether a literal hangs on a variable -/
theorem c_X1_hangsOn (lit b : Nat) (hb2 : b < 12) (h1 : lit / 2 * 64 + 63 < len) (h2 : len ≤ 25600) : Met l yX1_hangsOn wsX1_hangsOn { frames := 2, cells := 0, slots := 0, locals := 51 } (re_P D [(cI, .int), (cJ, .long)] (nW hn ow fi ro cI cJ cnt len fo ff fr) tp [.ref hn, .int (nI lit), .int (nI b)]) (k2_QcV (.int (zI (hgF fr lit b 64 0)))) 0 0 (fun _ => False) := by
  refine Met.ofW (cc := cX1_hangsOn) (maxL := 4) (ret := (some .boolean)) (by decide) rfl ?_
  intro p e s m args below meth c s₁ B hml hv
  obtain ⟨rfl, ⟨hP, hK⟩, hE⟩ := hv
  have hx := B.exec
  have hb := B.bytes
  have hr := B.returns
  have hts := atoms_spec (ws := wsX1_hangsOn) B.pre
  have hown : s.vm.findClass RX1 = some m.cls := findClass_of_methodNamed B.named
  have hlocks := B.notSynchronized
  have hl := lv_entry ([.ref hn, .int (nI lit), .int (nI b)]) (n := 4) (Nat.le_of_ble_eq_true rfl)
  rw [lg_entry_eq]
  generalize (lg_sl ([.ref hn, .int (nI lit), .int (nI b)]) ++ List.replicate (4 - (lg_sl ([.ref hn, .int (nI lit), .int (nI b)])).length) Slot.unset).toArray = ls at hl ⊢
  have hl : lv_has ls 4 [(0, .ref hn), (1, .int (nI lit)), (2, .int (nI b))] := hl
  refine lv_iconst (v := nI 0) hx hb dX1_hangsOn_0 (by decide) ?_
  refine lv_istore_n (lv' := [(3, .int (nI 0)), (0, .ref hn), (1, .int (nI lit)), (2, .int (nI b))]) hx hb dX1_hangsOn_1 rfl hl (by decide) rfl (fun ls hl => ?_)
  have loop : ∀ (n : Nat) (i : Nat), i ≤ 64 → hgF fr lit b 64 0 = hgF fr lit b (64 - i) i → 64 - i < n → ∀ ls : Array Slot, lv_has ls 4 [(3, .int (nI i)), (0, .ref hn), (1, .int (nI lit)), (2, .int (nI b))] → W p l e (headSpec wsX1_hangsOn { frames := 2, cells := 0, slots := 0, locals := 51 }).room s m ([.ref hn, .int (nI lit), .int (nI b)] : List Value).toArray below meth c s.heap [] 0 0 (MQ below (k2_QcV (.int (zI (hgF fr lit b 64 0)))) ([.ref hn, .int (nI lit), .int (nI b)] : List Value).toArray s 0 0 (fun _ => False)) (F0 m 2 ls []) := by
    intro n
    induction n with
    | zero => intro i hi hR hM; exact absurd hM (Nat.not_lt_zero _)
    | succ n ih =>
      intro i hi hR hM ls hl
      refine lv_iload_n hx hb dX1_hangsOn_2 rfl (lv_at hl 0 rfl) ?_
      refine lv_bipush (v := nI 64) hx hb dX1_hangsOn_3 (by decide) ?_
      refine lv_icmp_ge (tgt := 26) hx hb dX1_hangsOn_5 (by decide) (fun c1 => ?_) (fun c1 => ?_)
      · have c1 : 64 ≤ i := (nI_leI (by omega) (by omega)).mp c1
        refine lv_iconst (v := nI 0) hx hb dX1_hangsOn_26 (by decide) ?_
        have hi2 : 64 - i = 0 := by omega
        exact rd_z hx hb hr hlocks dX1_hangsOn_27 (by rw [hR, hi2]; rfl) (zI_01 _)
      · have c1 : ¬ (64 ≤ i) := fun h => c1 ((nI_leI (by omega) (by omega)).mpr h)
        refine lv_aload_n hx hb dX1_hangsOn_8 rfl (lv_at hl 1 rfl) ?_
        refine lv_iload_n hx hb dX1_hangsOn_9 rfl (lv_at hl 2 rfl) ?_
        refine lv_iload_n hx hb dX1_hangsOn_10 rfl (lv_at hl 3 rfl) ?_
        refine lv_iload_n hx hb dX1_hangsOn_11 rfl (lv_at hl 0 rfl) ?_
        refine rd_V (As := [.int (nI lit), .int (nI b), .int (nI i)]) (rest := []) ⟨hx, hb, hml, hown, hts⟩ (c_X1_wordHangsOn l D cI cJ hn ow fi ro cnt len fo ff fr tp lit b i hb2 (by omega) h1 h2) (cwV 3 hts gX1_hangsOn_X1_wordHangsOn rfl rfl rfl (by decide +kernel) ⟨Nat.le_of_ble_eq_true rfl, Nat.le_of_ble_eq_true rfl⟩) (re_pv (ci := 1) (q0 := 0) hK hP hE rfl rfl) rfl hl.1 rfl (Nat.le_of_ble_eq_true rfl) dX1_hangsOn_12 ⟨Nat.zero_le _, Nat.zero_le _⟩ ?_
        obtain ⟨k, hk⟩ : ∃ k, 64 - i = k + 1 := ⟨63 - i, by omega⟩
        refine lv_if_eq (tgt := 20) hx hb dX1_hangsOn_15 (by decide) (fun c2 => ?_) (fun c2 => ?_)
        · have c2 := zI_eq0.mp c2
          refine lv_iinc (v := nI (i + 1)) (lv' := [(3, .int (nI (i + 1))), (0, .ref hn), (1, .int (nI lit)), (2, .int (nI b))]) hx hb dX1_hangsOn_20 hl (k := 0) rfl (nI_add i 1) (by decide) rfl (fun ls hl => ?_)
          refine lv_goto (tgt := 2) hx hb dX1_hangsOn_23 (by decide) ?_
          exact ih (i + 1) (by omega) (by rw [hR, hk, show 64 - (i + 1) = k by omega]; simp [hgF, c2]) (by omega) ls (lv_sub hl [0, 1, 2, 3] rfl)
        · have c2 : whF fr lit b i = true := by simpa using fun h => c2 (zI_eq0.mpr h)
          refine lv_iconst (v := nI 1) hx hb dX1_hangsOn_18 (by decide) ?_
          exact rd_z hx hb hr hlocks dX1_hangsOn_19 (by rw [hR, hk]; simp [hgF, c2, zI, nI_one]) (zI_01 _)
  exact loop (64 - 0 + 1) 0 (by omega) (rfl) (by omega) ls (lv_sub hl [0, 1, 2, 3] rfl)
set_option maxHeartbeats 4000000 in
set_option maxRecDepth 100000 in
/-- on which variables a literal hangs -/
theorem c_X1_supportOf (lit : Nat) (h1 : lit / 2 * 64 + 63 < len) (h2 : len ≤ 25600) : Met l yX1_supportOf wsX1_supportOf { frames := 3, cells := 0, slots := 0, locals := 74 } (re_P D [(cI, .int), (cJ, .long)] (nW hn ow fi ro cI cJ cnt len fo ff fr) tp [.ref hn, .int (nI lit)]) (k2_QcV (.int (spF fr lit 12))) 0 0 (fun _ => False) := by
  refine Met.ofW (cc := cX1_supportOf) (maxL := 4) (ret := (some .int)) (by decide) rfl ?_
  intro p e s m args below meth c s₁ B hml hv
  obtain ⟨rfl, ⟨hP, hK⟩, hE⟩ := hv
  have hx := B.exec
  have hb := B.bytes
  have hr := B.returns
  have hts := atoms_spec (ws := wsX1_supportOf) B.pre
  have hown : s.vm.findClass RX1 = some m.cls := findClass_of_methodNamed B.named
  have hlocks := B.notSynchronized
  have hl := lv_entry ([.ref hn, .int (nI lit)]) (n := 4) (Nat.le_of_ble_eq_true rfl)
  rw [lg_entry_eq]
  generalize (lg_sl ([.ref hn, .int (nI lit)]) ++ List.replicate (4 - (lg_sl ([.ref hn, .int (nI lit)])).length) Slot.unset).toArray = ls at hl ⊢
  have hl : lv_has ls 4 [(0, .ref hn), (1, .int (nI lit))] := hl
  refine lv_iconst (v := nI 0) hx hb dX1_supportOf_0 (by decide) ?_
  refine lv_istore_n (lv' := [(2, .int (nI 0)), (0, .ref hn), (1, .int (nI lit))]) hx hb dX1_supportOf_1 rfl hl (by decide) rfl (fun ls hl => ?_)
  refine lv_iconst (v := nI 0) hx hb dX1_supportOf_2 (by decide) ?_
  refine lv_istore_n (lv' := [(3, .int (nI 0)), (2, .int (nI 0)), (0, .ref hn), (1, .int (nI lit))]) hx hb dX1_supportOf_3 rfl hl (by decide) rfl (fun ls hl => ?_)
  have loop : ∀ (n : Nat) (i : Nat), i ≤ 12 → 12 - i < n → ∀ ls : Array Slot, lv_has ls 4 [(2, .int (spF fr lit i)), (3, .int (nI i)), (0, .ref hn), (1, .int (nI lit))] → W p l e (headSpec wsX1_supportOf { frames := 3, cells := 0, slots := 0, locals := 74 }).room s m ([.ref hn, .int (nI lit)] : List Value).toArray below meth c s.heap [] 0 0 (MQ below (k2_QcV (.int (spF fr lit 12))) ([.ref hn, .int (nI lit)] : List Value).toArray s 0 0 (fun _ => False)) (F0 m 4 ls []) := by
    intro n
    induction n with
    | zero => intro i hi hM; exact absurd hM (Nat.not_lt_zero _)
    | succ n ih =>
      intro i hi hM ls hl
      refine lv_iload_n hx hb dX1_supportOf_4 rfl (lv_at hl 1 rfl) ?_
      refine lv_bipush (v := nI 12) hx hb dX1_supportOf_5 (by decide) ?_
      refine lv_icmp_ge (tgt := 31) hx hb dX1_supportOf_7 (by decide) (fun c1 => ?_) (fun c1 => ?_)
      · have c1 : 12 ≤ i := (nI_leI (by omega) (by omega)).mp c1
        refine lv_iload_n hx hb dX1_supportOf_31 rfl (lv_at hl 0 rfl) ?_
        have hi2 : i = 12 := by omega
        exact rd_i hx hb hr hlocks dX1_supportOf_32 (by rw [hi2])
      · have c1 : ¬ (12 ≤ i) := fun h => c1 ((nI_leI (by omega) (by omega)).mpr h)
        refine lv_aload_n hx hb dX1_supportOf_10 rfl (lv_at hl 2 rfl) ?_
        refine lv_iload_n hx hb dX1_supportOf_11 rfl (lv_at hl 3 rfl) ?_
        refine lv_iload_n hx hb dX1_supportOf_12 rfl (lv_at hl 1 rfl) ?_
        refine rd_V (As := [.int (nI lit), .int (nI i)]) (rest := []) ⟨hx, hb, hml, hown, hts⟩ (c_X1_hangsOn l D cI cJ hn ow fi ro cnt len fo ff fr tp lit i (by omega) h1 h2) (cwV 2 hts gX1_supportOf_X1_hangsOn rfl rfl rfl (by decide +kernel) ⟨Nat.le_of_ble_eq_true rfl, Nat.le_of_ble_eq_true rfl⟩) (re_pv (ci := 1) (q0 := 0) hK hP hE rfl rfl) rfl hl.1 rfl (Nat.le_of_ble_eq_true rfl) dX1_supportOf_13 ⟨Nat.zero_le _, Nat.zero_le _⟩ ?_
        refine lv_if_eq (tgt := 25) hx hb dX1_supportOf_16 (by decide) (fun c2 => ?_) (fun c2 => ?_)
        · have c2 := zI_eq0.mp c2
          refine lv_iinc (v := nI (i + 1)) (lv' := [(3, .int (nI (i + 1))), (2, .int (spF fr lit i)), (0, .ref hn), (1, .int (nI lit))]) hx hb dX1_supportOf_25 hl (k := 1) rfl (nI_add i 1) (by decide) rfl (fun ls hl => ?_)
          refine lv_goto (tgt := 4) hx hb dX1_supportOf_28 (by decide) ?_
          exact ih (i + 1) (by omega) (by omega) ls (by rw [show spF fr lit (i + 1) = spF fr lit i from by simp [spF, c2]]; exact lv_sub hl [1, 0, 2, 3] rfl)
        · have c2 : hgF fr lit i 64 0 = true := by simpa using fun h => c2 (zI_eq0.mpr h)
          refine lv_iload_n hx hb dX1_supportOf_19 rfl (lv_at hl 0 rfl) ?_
          refine lv_iconst (v := nI 1) hx hb dX1_supportOf_20 (by decide) ?_
          refine lv_iload_n hx hb dX1_supportOf_21 rfl (lv_at hl 1 rfl) ?_
          refine lv_ishl hx hb dX1_supportOf_22 ?_
          refine lv_ior hx hb dX1_supportOf_23 ?_
          refine lv_istore_n (lv' := [(2, .int ((spF fr lit i) ||| ((nI 1) <<< ((nI i) &&& 31)))), (3, .int (nI i)), (0, .ref hn), (1, .int (nI lit))]) hx hb dX1_supportOf_24 rfl hl (by decide) rfl (fun ls hl => ?_)
          refine lv_iinc (v := nI (i + 1)) (lv' := [(3, .int (nI (i + 1))), (2, .int ((spF fr lit i) ||| ((nI 1) <<< ((nI i) &&& 31)))), (0, .ref hn), (1, .int (nI lit))]) hx hb dX1_supportOf_25 hl (k := 1) rfl (nI_add i 1) (by decide) rfl (fun ls hl => ?_)
          refine lv_goto (tgt := 4) hx hb dX1_supportOf_28 (by decide) ?_
          exact ih (i + 1) (by omega) (by omega) ls (by rw [show spF fr lit (i + 1) = spF fr lit i ||| (nI 1 <<< (nI i &&& 31)) from by simp [spF, c2]]; exact lv_sub hl [1, 0, 2, 3] rfl)
  exact loop (12 - 0 + 1) 0 (by omega) (by omega) ls (lv_sub hl [1, 0, 2, 3] rfl)
end RS
end
section
/-! Long.bitCount and countOnes. -/
section RB
set_option maxHeartbeats 4000000 in
set_option maxRecDepth 100000 in
/-- Long.bitCount -/
theorem c_J13_bitCount_95d88 (l : Launch) (x : Int64) : Met l yJ13_bitCount_95d88 wsJ13_bitCount_95d88 { frames := 0, cells := 0, slots := 0, locals := 0 } (fun v _ => v = ([.long x] : List Value).toArray) (k2_QcV (.int (nI (pc x.toBitVec.getLsbD 64)))) 0 0 (fun _ => False) := by
  refine Met.ofW (cc := cJ13_bitCount_95d88) (maxL := 2) (ret := (some .int)) (by decide) rfl ?_
  intro p e s m args below meth c s₁ B hml hv
  obtain rfl := hv
  have hx := B.exec
  have hb := B.bytes
  have hr := B.returns
  have hts := atoms_spec (ws := wsJ13_bitCount_95d88) B.pre
  have hown : s.vm.findClass RJ13 = some m.cls := findClass_of_methodNamed B.named
  have hlocks := B.notSynchronized
  have hl := lv_entry ([.long x]) (n := 2) (Nat.le_of_ble_eq_true rfl)
  rw [lg_entry_eq]
  generalize (lg_sl ([.long x]) ++ List.replicate (2 - (lg_sl ([.long x])).length) Slot.unset).toArray = ls at hl ⊢
  have hl : lv_has ls 2 [(0, .long x)] := hl
  refine lv_lload_n hx hb dJ13_bitCount_95d88_0 rfl (lv_at hl 0 rfl) ?_
  refine lv_lload_n hx hb dJ13_bitCount_95d88_1 rfl (lv_at hl 0 rfl) ?_
  refine lv_iconst (v := nI 1) hx hb dJ13_bitCount_95d88_2 (by decide) ?_
  refine lv_lushr (v := (x.toUInt64 >>> ((nI 1).toInt64.toUInt64 &&& Int64.toUInt64 63)).toInt64) hx hb dJ13_bitCount_95d88_3 (rfl) ?_
  refine lv_ldc2 hx hb hown (hts (.constantLong RJ13 314 (6148914691236517205)) (by decide +kernel)) dJ13_bitCount_95d88_4 ?_
  refine lv_land hx hb dJ13_bitCount_95d88_7 ?_
  refine lv_lsub hx hb dJ13_bitCount_95d88_8 ?_
  refine lv_topl (fun a ha => ?_)
  refine lv_lstore_n (lv' := [(0, .long a)]) hx hb dJ13_bitCount_95d88_9 rfl hl (by decide) rfl (fun ls hl => ?_)
  refine lv_lload_n hx hb dJ13_bitCount_95d88_10 rfl (lv_at hl 0 rfl) ?_
  refine lv_ldc2 hx hb hown (hts (.constantLong RJ13 316 (3689348814741910323)) (by decide +kernel)) dJ13_bitCount_95d88_11 ?_
  refine lv_land hx hb dJ13_bitCount_95d88_14 ?_
  refine lv_lload_n hx hb dJ13_bitCount_95d88_15 rfl (lv_at hl 0 rfl) ?_
  refine lv_iconst (v := nI 2) hx hb dJ13_bitCount_95d88_16 (by decide) ?_
  refine lv_lushr (v := (a.toUInt64 >>> ((nI 2).toInt64.toUInt64 &&& Int64.toUInt64 63)).toInt64) hx hb dJ13_bitCount_95d88_17 (rfl) ?_
  refine lv_ldc2 hx hb hown (hts (.constantLong RJ13 316 (3689348814741910323)) (by decide +kernel)) dJ13_bitCount_95d88_18 ?_
  refine lv_land hx hb dJ13_bitCount_95d88_21 ?_
  refine lv_ladd hx hb dJ13_bitCount_95d88_22 ?_
  refine lv_topl (fun b hb_ => ?_)
  refine lv_lstore_n (lv' := [(0, .long b)]) hx hb dJ13_bitCount_95d88_23 rfl hl (by decide) rfl (fun ls hl => ?_)
  refine lv_lload_n hx hb dJ13_bitCount_95d88_24 rfl (lv_at hl 0 rfl) ?_
  refine lv_lload_n hx hb dJ13_bitCount_95d88_25 rfl (lv_at hl 0 rfl) ?_
  refine lv_iconst (v := nI 4) hx hb dJ13_bitCount_95d88_26 (by decide) ?_
  refine lv_lushr (v := (b.toUInt64 >>> ((nI 4).toInt64.toUInt64 &&& Int64.toUInt64 63)).toInt64) hx hb dJ13_bitCount_95d88_27 (rfl) ?_
  refine lv_ladd hx hb dJ13_bitCount_95d88_28 ?_
  refine lv_ldc2 hx hb hown (hts (.constantLong RJ13 318 (1085102592571150095)) (by decide +kernel)) dJ13_bitCount_95d88_29 ?_
  refine lv_land hx hb dJ13_bitCount_95d88_32 ?_
  refine lv_topl (fun c9 hc9 => ?_)
  refine lv_lstore_n (lv' := [(0, .long c9)]) hx hb dJ13_bitCount_95d88_33 rfl hl (by decide) rfl (fun ls hl => ?_)
  refine lv_lload_n hx hb dJ13_bitCount_95d88_34 rfl (lv_at hl 0 rfl) ?_
  refine lv_lload_n hx hb dJ13_bitCount_95d88_35 rfl (lv_at hl 0 rfl) ?_
  refine lv_bipush (v := nI 8) hx hb dJ13_bitCount_95d88_36 (by decide) ?_
  refine lv_lushr (v := (c9.toUInt64 >>> ((nI 8).toInt64.toUInt64 &&& Int64.toUInt64 63)).toInt64) hx hb dJ13_bitCount_95d88_38 (rfl) ?_
  refine lv_ladd hx hb dJ13_bitCount_95d88_39 ?_
  refine lv_topl (fun d hd => ?_)
  refine lv_lstore_n (lv' := [(0, .long d)]) hx hb dJ13_bitCount_95d88_40 rfl hl (by decide) rfl (fun ls hl => ?_)
  refine lv_lload_n hx hb dJ13_bitCount_95d88_41 rfl (lv_at hl 0 rfl) ?_
  refine lv_lload_n hx hb dJ13_bitCount_95d88_42 rfl (lv_at hl 0 rfl) ?_
  refine lv_bipush (v := nI 16) hx hb dJ13_bitCount_95d88_43 (by decide) ?_
  refine lv_lushr (v := (d.toUInt64 >>> ((nI 16).toInt64.toUInt64 &&& Int64.toUInt64 63)).toInt64) hx hb dJ13_bitCount_95d88_45 (rfl) ?_
  refine lv_ladd hx hb dJ13_bitCount_95d88_46 ?_
  refine lv_topl (fun e9 he9 => ?_)
  refine lv_lstore_n (lv' := [(0, .long e9)]) hx hb dJ13_bitCount_95d88_47 rfl hl (by decide) rfl (fun ls hl => ?_)
  refine lv_lload_n hx hb dJ13_bitCount_95d88_48 rfl (lv_at hl 0 rfl) ?_
  refine lv_lload_n hx hb dJ13_bitCount_95d88_49 rfl (lv_at hl 0 rfl) ?_
  refine lv_bipush (v := nI 32) hx hb dJ13_bitCount_95d88_50 (by decide) ?_
  refine lv_lushr (v := (e9.toUInt64 >>> ((nI 32).toInt64.toUInt64 &&& Int64.toUInt64 63)).toInt64) hx hb dJ13_bitCount_95d88_52 (rfl) ?_
  refine lv_ladd hx hb dJ13_bitCount_95d88_53 ?_
  refine lv_topl (fun f hf => ?_)
  refine lv_lstore_n (lv' := [(0, .long f)]) hx hb dJ13_bitCount_95d88_54 rfl hl (by decide) rfl (fun ls hl => ?_)
  refine lv_lload_n hx hb dJ13_bitCount_95d88_55 rfl (lv_at hl 0 rfl) ?_
  refine lv_l2i (v := f.toInt32) hx hb dJ13_bitCount_95d88_56 (rfl) ?_
  refine lv_bipush (v := nI 127) hx hb dJ13_bitCount_95d88_57 (by decide) ?_
  refine lv_iand hx hb dJ13_bitCount_95d88_59 ?_
  exact rd_i hx hb hr hlocks dJ13_bitCount_95d88_60 (bc_key x a b c9 d e9 f ha hb_ hc9 hd he9 hf)
variable (l : Launch) (D : va_G) (cI cJ : ClassId) (hn ow fi ro cnt len : Nat) (fo ff : Nat → Int32) (fr : Nat → Int64)
/-- how many of the first k words' bits of a literal are set -/
def onF (fr : Nat → Int64) (lit : Nat) : Nat → Nat
  | 0 => 0
  | k + 1 => onF fr lit k + pc (wd fr lit k).toBitVec.getLsbD 64
theorem onF_le (fr : Nat → Int64) (lit : Nat) : ∀ k, onF fr lit k ≤ 64 * k
  | 0 => Nat.le_refl 0
  | k + 1 => by have := onF_le fr lit k; have := pc_le (wd fr lit k).toBitVec.getLsbD 64; unfold onF; omega
set_option maxHeartbeats 4000000 in
set_option maxRecDepth 100000 in
/-- how many of the 4096 values of a literal are 1 -/
theorem c_X1_countOnes (lit : Nat) (h1 : lit / 2 * 64 + 63 < len) (h2 : len ≤ 25600) : Met l yX1_countOnes wsX1_countOnes { frames := 1, cells := 0, slots := 0, locals := 24 } (rd_P D [(cI, .int), (cJ, .long)] (nW hn ow fi ro cI cJ cnt len fo ff fr) [.ref hn, .int (nI lit)]) (k2_QcV (.int (nI (onF fr lit 64)))) 0 0 (fun _ => False) := by
  refine Met.ofW (cc := cX1_countOnes) (maxL := 4) (ret := (some .int)) (by decide) rfl ?_
  intro p e s m args below meth c s₁ B hml hv
  obtain ⟨rfl, hP, hK⟩ := hv
  have hx := B.exec
  have hb := B.bytes
  have hr := B.returns
  have hts := atoms_spec (ws := wsX1_countOnes) B.pre
  have hown : s.vm.findClass RX1 = some m.cls := findClass_of_methodNamed B.named
  have hlocks := B.notSynchronized
  have hl := lv_entry ([.ref hn, .int (nI lit)]) (n := 4) (Nat.le_of_ble_eq_true rfl)
  rw [lg_entry_eq]
  generalize (lg_sl ([.ref hn, .int (nI lit)]) ++ List.replicate (4 - (lg_sl ([.ref hn, .int (nI lit)])).length) Slot.unset).toArray = ls at hl ⊢
  have hl : lv_has ls 4 [(0, .ref hn), (1, .int (nI lit))] := hl
  refine lv_iconst (v := nI 0) hx hb dX1_countOnes_0 (by decide) ?_
  refine lv_istore_n (lv' := [(2, .int (nI 0)), (0, .ref hn), (1, .int (nI lit))]) hx hb dX1_countOnes_1 rfl hl (by decide) rfl (fun ls hl => ?_)
  refine lv_iconst (v := nI 0) hx hb dX1_countOnes_2 (by decide) ?_
  refine lv_istore_n (lv' := [(3, .int (nI 0)), (2, .int (nI 0)), (0, .ref hn), (1, .int (nI lit))]) hx hb dX1_countOnes_3 rfl hl (by decide) rfl (fun ls hl => ?_)
  have loop : ∀ (n : Nat) (i : Nat), i ≤ 64 → 64 - i < n → ∀ ls : Array Slot, lv_has ls 4 [(2, .int (nI (onF fr lit i))), (3, .int (nI i)), (0, .ref hn), (1, .int (nI lit))] → W p l e (headSpec wsX1_countOnes { frames := 1, cells := 0, slots := 0, locals := 24 }).room s m ([.ref hn, .int (nI lit)] : List Value).toArray below meth c s.heap [] 0 0 (MQ below (k2_QcV (.int (nI (onF fr lit 64)))) ([.ref hn, .int (nI lit)] : List Value).toArray s 0 0 (fun _ => False)) (F0 m 4 ls []) := by
    intro n
    induction n with
    | zero => intro i hi hM; exact absurd hM (Nat.not_lt_zero _)
    | succ n ih =>
      intro i hi hM ls hl
      have hc := onF_le fr lit i
      refine lv_iload_n hx hb dX1_countOnes_4 rfl (lv_at hl 1 rfl) ?_
      refine lv_bipush (v := nI 64) hx hb dX1_countOnes_5 (by decide) ?_
      refine lv_icmp_ge (tgt := 28) hx hb dX1_countOnes_7 (by decide) (fun c1 => ?_) (fun c1 => ?_)
      · have c1 : 64 ≤ i := (nI_leI (by omega) (by omega)).mp c1
        refine lv_iload_n hx hb dX1_countOnes_28 rfl (lv_at hl 0 rfl) ?_
        have hi2 : i = 64 := by omega
        exact rd_i hx hb hr hlocks dX1_countOnes_29 (by rw [hi2])
      · have c1 : ¬ (64 ≤ i) := fun h => c1 ((nI_leI (by omega) (by omega)).mpr h)
        refine lv_iload_n hx hb dX1_countOnes_10 rfl (lv_at hl 0 rfl) ?_
        refine lv_aload_n hx hb dX1_countOnes_11 rfl (lv_at hl 2 rfl) ?_
        refine lv_iload_n hx hb dX1_countOnes_12 rfl (lv_at hl 3 rfl) ?_
        refine lv_iload_n hx hb dX1_countOnes_13 rfl (lv_at hl 1 rfl) ?_
        refine rd_V (As := [.int (nI lit), .int (nI i)]) (rest := [.int (nI (onF fr lit i))]) ⟨hx, hb, hml, hown, hts⟩ (c_X1_wordOf l D cI cJ hn ow fi ro cnt len fo ff fr lit i (by omega) h2) (cwV 2 hts gX1_countOnes_X1_wordOf rfl rfl rfl (by decide +kernel) ⟨Nat.le_of_ble_eq_true rfl, Nat.le_of_ble_eq_true rfl⟩) (rd_pv (ci := 1) (q0 := 0) hK hP rfl rfl) rfl hl.1 rfl (Nat.le_of_ble_eq_true rfl) dX1_countOnes_14 ⟨Nat.zero_le _, Nat.zero_le _⟩ ?_
        refine rd_S (As := [.long (wd fr lit i)]) (rest := [.int (nI (onF fr lit i))]) ⟨hx, hb, hml, hown, hts⟩ (c_J13_bitCount_95d88 l (wd fr lit i)) (va_cwS 1 hts gX1_countOnes_J13_bitCount_95d88 rfl rfl rfl (by decide +kernel) ⟨Nat.le_of_ble_eq_true rfl, Nat.le_of_ble_eq_true rfl⟩) (preEq) rfl hl.1 rfl (Nat.le_of_ble_eq_true rfl) dX1_countOnes_17 ⟨Nat.zero_le _, Nat.zero_le _⟩ ?_
        refine lv_iadd hx hb dX1_countOnes_20 ?_
        refine tp_i (show (nI (onF fr lit i)) + (nI (pc (wd fr lit i).toBitVec.getLsbD 64)) = nI (onF fr lit i + (pc (wd fr lit i).toBitVec.getLsbD 64)) from nI_add _ _) ?_
        refine lv_istore_n (lv' := [(2, .int (nI (onF fr lit i + (pc (wd fr lit i).toBitVec.getLsbD 64)))), (3, .int (nI i)), (0, .ref hn), (1, .int (nI lit))]) hx hb dX1_countOnes_21 rfl hl (by decide) rfl (fun ls hl => ?_)
        refine lv_iinc (v := nI (i + 1)) (lv' := [(3, .int (nI (i + 1))), (2, .int (nI (onF fr lit i + (pc (wd fr lit i).toBitVec.getLsbD 64)))), (0, .ref hn), (1, .int (nI lit))]) hx hb dX1_countOnes_22 hl (k := 1) rfl (nI_add i 1) (by decide) rfl (fun ls hl => ?_)
        refine lv_goto (tgt := 4) hx hb dX1_countOnes_25 (by decide) ?_
        exact ih (i + 1) (by omega) (by omega) ls (by rw [show onF fr lit (i + 1) = onF fr lit i + pc (wd fr lit i).toBitVec.getLsbD 64 from rfl]; exact lv_sub hl [1, 0, 2, 3] rfl)
  exact loop (64 - 0 + 1) 0 (by omega) (by omega) ls (lv_sub hl [1, 0, 2, 3] rfl)
end RB
end
section
/-! Writers: their starts, ends and calls. -/
section WB
/-- a writer's start: its cells, what the tables say of them, what nobody writes -/
abbrev wr_P (D : va_G) (tys : List (ClassId × FieldType)) (ww : va_W) (sz tp : Nat) (av : List Value) : Array Value → State → Prop := va_Pc av (fun U => U.heap.size = sz ∧ (va_P D vwCl ww U.heap ∧ va_K D vwCl tys U ∧ va_D (fun _ => True) ww) ∧ EV tp (va_A ww sz) U U.heap)
abbrev wr_B (D : va_G) (tys : List (ClassId × FieldType)) (A : Nat → Prop) (ww : va_W) (t : State) : Prop := va_P D vwCl ww t.heap ∧ va_D A ww
/-- a writer's end: its answer, its cells behind it, all else unchanged -/
def wx {Su : Type} (D : va_G) (tys : List (ClassId × FieldType)) (A : Nat → Prop) (o₀ : Su → Option Value) (post : Su → Prop) (wn : Su → va_W) : Array Value → State → Outcome → State → Prop := fun _ st o t => ∃ u : Su, o = .returned (o₀ u) ∧ post u ∧ wr_B D tys A (wn u) t ∧ va_F A st t
theorem wr_blind {D : va_G} {tys : List (ClassId × FieldType)} {ww : va_W} {sz tp : Nat} {av : List Value} : FrameBlind (wr_P D tys ww sz tp av) := fun a U g mk q => ⟨q.1, q.2.1, ⟨q.2.2.1.1, va_K.moved (u := U) (U := U.calling g mk a) (Vm.Alike.refl U.vm) q.2.2.1.2.1, q.2.2.1.2.2⟩, EV.same (u := U) (U := U.calling g mk a) rfl q.2.2.2⟩
theorem pick_fm {ww wc : va_W} : ∀ (is : List Nat) , is.map (fun i => ww[i]?) = wc.map some → is.filterMap (fun i => ww[i]?) = wc := by
  intro is h
  have : is.filterMap (fun i => ww[i]?) = (is.map (fun i => ww[i]?)).filterMap id := by rw [List.filterMap_map]; rfl
  rw [this, h, List.filterMap_map]
  exact List.filterMap_some
variable {p : Program} {l : Launch} {e : Env} {R : Room} {s : State} {m : MethodId} {args : Array Value} {below : List Frame} {meth : Method} {c : Code} {H : Heap} {locs : List Loc} {cells slots : Nat} {Q : State → Prop}
variable {cc : ByteArray} {pc : Nat} {ls : Array Slot} {rest st0 : List Value}
variable {y : MethodName} {bytes : ByteArray} {maxL nL n index mc ms : Nat} {ret : Option FieldType} {ws : List Cond} {rm : Room} {Ts : List Cond} {own C : String} {b : Addr} {As : List Value}
variable {D : va_G} {tys : List (ClassId × FieldType)} {ww wc wr : va_W} {tp : Nat} {A : Nat → Prop}
theorem wr_pre (hK : va_K D vwCl tys s) (hP : va_P D vwCl ww H) (hD : va_D A ww) (hS : va_S A s.heap H locs) (hA : ∀ q, s.heap.size ≤ q → A q) (hE : EV tp A s s.heap) (isC : List Nat) (hC : isC.map (fun i => ww[i]?) = wc.map some) (hnC : va_nd isC = true) {av : List Value} :
    ∀ U : State, U.heap = H → s.WarmedH U.vm → wr_P D tys wc H.size tp av av.toArray U := fun U hU hW =>
  ⟨rfl, by rw [hU], ⟨by rw [hU]; exact hP.sub isC (pick_fm isC hC), va_K.moved hW.alike hK, (hD.sub isC hnC hC).weaken (fun _ _ _ _ => trivial)⟩, by rw [hU]; exact (EV.warm hW (hE.at hS)).narrow (va_free (wc := wc) hD hS hA isC hC)⟩
/-- behind a writer's call: the caller's other cells beside the callee's -/
theorem wr_after {Su : Type} {o₀ : Su → Option Value} {post : Su → Prop} {wn : Su → va_W} {g : JFrame} (hr : va_Run p l e R s m args below meth c H locs cells slots mc ms (F0 m pc ls st0) rest (wx D tys (va_A wc H.size) o₀ post wn As.toArray) (va_A wc H.size))
    (hP : va_P D vwCl ww H) (hD : va_D A ww) (hS : va_S A s.heap H locs) (hA : ∀ q, s.heap.size ≤ q → A q) (isC isR : List Nat) (hC : isC.map (fun i => ww[i]?) = wc.map some) (hR : isR.map (fun i => ww[i]?) = wr.map some) (hn1 : va_nd isR = true) (hdis : ∀ i ∈ isR, i ∉ isC)
    (kk : ∀ (u : Su) (H1 : Heap) (locs1 : List Loc), post u → va_P D vwCl (wr ++ wn u) H1 → va_D A (wr ++ wn u) → va_S A s.heap H1 locs1 → W p l e R s m args below meth c H1 locs1 (cells + mc) (slots + ms) Q (F0 m (pc + 3) ls ((o₀ u).toList ++ rest))) : W p l e R s m args below meth c H locs cells slots Q (F0 m pc ls st0) := by
  have hFc := va_free (wc := wc) hD hS hA isC hC
  intro T hT X
  obtain ⟨v, st₀, t, T', L, h0, X', hL, e1, e2, ⟨u, hv, hpost, ⟨hP1, hD1⟩, hz, hk⟩, st⟩ := hr T hT X
  cases hv
  rw [h0] at hz hk
  rw [← e1] at hP1 hz hk
  have hj := va_join hP hD isC isR hC hR hn1 hdis hk hFc hP1 hD1
  have hS1 : va_S A s.heap T'.heap (locs ++ L) := ⟨Nat.le_trans hS.1 hz, fun q g1 g2 => (hk q (Nat.lt_of_lt_of_le g1 hS.1) (fun h => g2 (hFc q h))).trans (hS.2.1 q g1 g2), fun q hq => by
    rcases List.mem_append.mp hq with h | h
    · exact hS.2.2 q h
    · exact hFc _ (hL q h)⟩
  obtain ⟨t2, a1, b1⟩ := kk u T'.heap (locs ++ L) hpost hj.1 hj.2 hS1 T' rfl X'
  exact ⟨t2, st t2 a1, b1⟩
/-- a writer is called on an object -/
theorem wr_V {Su : Type} {o₀ : Su → Option Value} {post : Su → Prop} {wn : Su → va_W} {q0 ci : Nat} {q : vw_C} {fs : List Value} (S : CallFix p m c cc nL s args Ts own) (hM : Met l y ws rm (wr_P D tys wc H.size tp (.ref b :: As)) (wx D tys (va_A wc H.size) o₀ post wn) mc ms (va_A wc H.size)) (cw : CallW R s args own q.1 index y bytes maxL ret ws rm mc ms n)
    (hc : vwCl[ci]? = some q) (he : ww[q0]? = some (b, .inr (ci, fs)))
    (hn : As.length = n) (hsize : ls.size = nL) (hstack : st0 = As.reverse ++ .ref b :: rest) (hW : (rest.map fun v => v.category).sum ≤ 8) (hdg : decode cc pc = .ok (.invokevirtual index, 3)) (hf : cells + mc ≤ R.cells ∧ slots + ms ≤ R.slots)
    (hK : va_K D vwCl tys s) (hP : va_P D vwCl ww H) (hD : va_D A ww) (hS : va_S A s.heap H locs) (hA : ∀ q, s.heap.size ≤ q → A q) (hE : EV tp A s s.heap) (isC isR : List Nat) (hC : isC.map (fun i => ww[i]?) = wc.map some) (hR : isR.map (fun i => ww[i]?) = wr.map some) (hnC : va_nd isC = true) (hn1 : va_nd isR = true) (hdis : ∀ i ∈ isR, i ∉ isC)
    (kk : ∀ (u : Su) (H1 : Heap) (locs1 : List Loc), post u → va_P D vwCl (wr ++ wn u) H1 → va_D A (wr ++ wn u) → va_S A s.heap H1 locs1 → W p l e R s m args below meth c H1 locs1 (cells + mc) (slots + ms) Q (F0 m (pc + 3) ls ((o₀ u).toList ++ rest))) : W p l e R s m args below meth c H locs cells slots Q (F0 m pc ls st0) :=
  wr_after (As := .ref b :: As) (g := F0 m pc ls st0) (va_runV (g := F0 m pc ls st0) S hM cw ⟨wr_blind, va_recv hK hP hc he, wr_pre hK hP hD hS hA hE isC hC hnC⟩ rfl hn hsize hstack (lv_room hW) hdg hf) hP hD hS hA isC isR hC hR hn1 hdis kk
/-- a constructor is called -/
theorem wr_I {Su : Type} {o₀ : Su → Option Value} {post : Su → Prop} {wn : Su → va_W} (S : CallFix p m c cc nL s args Ts own) (hM : Met l y ws rm (wr_P D tys wc H.size tp (.ref b :: As)) (wx D tys (va_A wc H.size) o₀ post wn) mc ms (va_A wc H.size)) (cw : CallB R s args own index y bytes maxL none ws rm mc ms n ∧ y.name = "<init>" ∧ (Cond.instanceMethod y).before args s = true)
    (hn : As.length = n) (hsize : ls.size = nL) (hstack : st0 = As.reverse ++ .ref b :: rest) (hW : (rest.map fun v => v.category).sum ≤ 8) (hdg : decode cc pc = .ok (.invokespecial index, 3)) (hf : cells + mc ≤ R.cells ∧ slots + ms ≤ R.slots)
    (hK : va_K D vwCl tys s) (hP : va_P D vwCl ww H) (hD : va_D A ww) (hS : va_S A s.heap H locs) (hA : ∀ q, s.heap.size ≤ q → A q) (hE : EV tp A s s.heap) (isC isR : List Nat) (hC : isC.map (fun i => ww[i]?) = wc.map some) (hR : isR.map (fun i => ww[i]?) = wr.map some) (hnC : va_nd isC = true) (hn1 : va_nd isR = true) (hdis : ∀ i ∈ isR, i ∉ isC)
    (kk : ∀ (u : Su) (H1 : Heap) (locs1 : List Loc), post u → va_P D vwCl (wr ++ wn u) H1 → va_D A (wr ++ wn u) → va_S A s.heap H1 locs1 → W p l e R s m args below meth c H1 locs1 (cells + mc) (slots + ms) Q (F0 m (pc + 3) ls ((o₀ u).toList ++ rest))) : W p l e R s m args below meth c H locs cells slots Q (F0 m pc ls st0) :=
  wr_after (As := .ref b :: As) (g := F0 m pc ls st0) (va_runI (g := F0 m pc ls st0) S hM cw ⟨wr_blind, wr_pre hK hP hD hS hA hE isC hC hnC⟩ rfl hn hsize hstack (lv_room hW) hdg hf) hP hD hS hA isC isR hC hR hn1 hdis kk
/-- a writer's ends -/
theorem wr_i {Su : Type} {o₀ : Su → Option Value} {post : Su → Prop} {wn : Su → va_W} {v : Int32} (u : Su) (hx : p.tables.exec = Jvm.exec) (hb : c.code = cc) (hr : meth.sig.returnType = some .int) (hlocks : meth.locks = false) (hP : va_P D vwCl (wn u) H) (hD : va_D A (wn u)) (hS : va_S A s.heap H locs) (hdg : decode cc pc = .ok (.ireturn, 1)) (h : some (.int v) = o₀ u) (hq : post u) :
    W p l e R s m args below meth c H locs cells slots (MQ below (wx D tys A o₀ post wn) args s cells slots A) (F0 m pc ls [.int v]) :=
  W.iret hx hb hr (fun t ht _ => ⟨u, by rw [h], hq, ⟨by rw [ht]; exact hP, hD⟩, hS.F ht⟩) hS.2.2 hdg hlocks
theorem wr_v {Su : Type} {o₀ : Su → Option Value} {post : Su → Prop} {wn : Su → va_W} (u : Su) (hx : p.tables.exec = Jvm.exec) (hb : c.code = cc) (hr : meth.sig.returnType = none) (hlocks : meth.locks = false) (hP : va_P D vwCl (wn u) H) (hD : va_D A (wn u)) (hS : va_S A s.heap H locs) (hdg : decode cc pc = .ok (.return_, 1)) (h : none = o₀ u) (hq : post u) :
    W p l e R s m args below meth c H locs cells slots (MQ below (wx D tys A o₀ post wn) args s cells slots A) (F0 m pc ls []) :=
  W.vret hx hb hr (fun t ht _ => ⟨u, by rw [h], hq, ⟨by rw [ht]; exact hP, hD⟩, hS.F ht⟩) hS.2.2 hdg hlocks
end WB
theorem upN (g : Nat → Nat) {k v : Nat} (hk : k < 2 ^ 31) : upd (fun j => nI (g j)) (nI k).toNatClampNeg (nI v) = fun j => nI (va_up g k v j) := by
  rw [nI_clamp hk]
  funext j
  unfold upd va_up
  split <;> rfl
theorem upI (f : Nat → Int32) {k : Nat} {x : Int32} (hk : k < 2 ^ 31) : upd f (nI k).toNatClampNeg x = upd f k x := by rw [nI_clamp hk]
theorem upL (f : Nat → Int64) {k : Nat} {x : Int64} (hk : k < 2 ^ 31) : vp_updL f (nI k).toNatClampNeg x = vp_updL f k x := by rw [nI_clamp hk]
theorem arr_cls {D : va_G} {cl : List vw_C} {tys : List (ClassId × FieldType)} {s : State} {c1 c2 : ClassId} {ty : FieldType} (hK : va_K D cl tys s) (i j : Nat) (hi : tys[i]? = some (c1, ty)) (hj : tys[j]? = some (c2, ty)) (hty : ∀ c : ClassId, va_RA s c ty → s.vm.findClass ("[" ++ ty.toString) = some c) : c1 = c2 :=
  Option.some.inj ((hty _ (hK.2 i _ hi).2).symm.trans (hty _ (hK.2 j _ hj).2))
/-- Design and its three arrays -/
abbrev dW (hd ou nx sh : Nat) (cI : ClassId) (oc sc sr ss : Nat) (gO gN : Nat → Nat) (fS : Nat → Int32) : va_W :=
  [(hd, .inr (0, [.ref ou, .ref nx, .ref sh, .int (nI oc), .int (nI sc), .int (nI sr), .int (nI ss)])), (ou, .inl (cI, 16, .inl (fun j => nI (gO j)))), (nx, .inl (cI, 4, .inl (fun j => nI (gN j)))), (sh, .inl (cI, 16, .inl fS))]
/-- the outputs of a step, the first i of them told -/
def shF (fr : Nat → Int64) (gO : Nat → Nat) (fS : Nat → Int32) (k i : Nat) : Nat → Int32 := fun j => if j < i then zI (bt fr (gO j) k) else fS j
theorem shF_up {fr : Nat → Int64} {gO : Nat → Nat} {fS : Nat → Int32} {k i : Nat} (hi : i < 2 ^ 31) : upd (shF fr gO fS k i) (nI i).toNatClampNeg (zI (bt fr (gO i) k)) = shF fr gO fS k (i + 1) := by
  rw [nI_clamp hi]
  funext j
  unfold upd shF
  by_cases h : j = i
  · subst h; simp
  · by_cases h2 : j < i
    · simp [h, h2, show j < i + 1 by omega]
    · simp [h, h2, show ¬ j < i + 1 by omega]
theorem shF_0 {fr : Nat → Int64} {gO : Nat → Nat} {fS : Nat → Int32} {k : Nat} : shF fr gO fS k 0 = fS := by
  funext j
  simp [shF]
/-- the states behind a step, the first j latches' -/
def stF (fr : Nat → Int64) (gN : Nat → Nat) (k : Nat) : Nat → Nat
  | 0 => 0
  | j + 1 => stF fr gN k j ||| (bt fr (gN j) k).toNat * 2 ^ j
theorem stF_lt (fr : Nat → Int64) (gN : Nat → Nat) (k : Nat) : ∀ j, stF fr gN k j < 2 ^ j
  | 0 => by simp [stF]
  | j + 1 => by
    have h1 := stF_lt fr gN k j
    have h2 : 2 ^ j < 2 ^ (j + 1) := Nat.pow_lt_pow_right (by omega) (by omega)
    unfold stF
    have h3 : (bt fr (gN j) k).toNat ≤ 1 := Bool.toNat_le _
    have h4 : (bt fr (gN j) k).toNat * 2 ^ j ≤ 1 * 2 ^ j := Nat.mul_le_mul_right _ h3
    exact Nat.or_lt_two_pow (by omega) (by omega)
theorem zI_shl {b : Bool} {k : Nat} (hk : k < 31) : zI b <<< (nI k &&& 31) = nI (b.toNat * 2 ^ k) := by
  have h : 2 ^ k < 2 ^ 31 := Nat.pow_lt_pow_right (by omega) hk
  cases b
  · rw [show zI false = nI 0 from rfl, n_shl (by omega) (by omega)]; rfl
  · rw [show zI true = nI 1 from rfl, n_shl (by omega) (by omega)]; rfl
theorem and_4095 {k : Nat} (h : k < 4096) : nI k &&& 4095 = nI k := by
  rw [pk_andN (by omega) 12 (by decide), Nat.mod_eq_of_lt h]
end
section
/-! Design: contracts. -/
section WD
variable (l : Launch) (D : va_G) (cI cJ : ClassId) (tp : Nat) (hd ou nx sh oc sc sr ss : Nat) (gO gN : Nat → Nat) (fS : Nat → Int32)
set_option maxHeartbeats 4000000 in
set_option maxRecDepth 100000 in
/-- no outputs, starts 0 -/
theorem w_X0_forget  (sz : Nat) : Met l yX0_forget wsX0_forget { frames := 0, cells := 0, slots := 0, locals := 0 } (wr_P D [(cI, .int), (cJ, .long)] (dW hd ou nx sh cI oc sc sr ss gO gN fS) sz tp [.ref hd]) (wx (Su := Unit) D [(cI, .int), (cJ, .long)] (va_A (dW hd ou nx sh cI oc sc sr ss gO gN fS) sz) (fun _ => none) (fun _ => True) (fun _ => dW hd ou nx sh cI 0 sc 0 ss gO gN fS)) 0 0 (va_A (dW hd ou nx sh cI oc sc sr ss gO gN fS) sz) := by
  refine Met.ofW (cc := cX0_forget) (maxL := 1) (ret := none) (by decide) rfl ?_
  intro p e s m args below meth c s₁ B hml hv
  obtain ⟨rfl, hsz, ⟨hP, hK, hD0⟩, hE⟩ := hv
  have hx := B.exec
  have hb := B.bytes
  have hr := B.returns
  have hts := atoms_spec (ws := wsX0_forget) B.pre
  have hown : s.vm.findClass RX0 = some m.cls := findClass_of_methodNamed B.named
  have hlocks := B.notSynchronized
  subst hsz
  have hD := hD0.self (sz := s.heap.size)
  generalize hAe : va_A (dW hd ou nx sh cI oc sc sr ss gO gN fS) s.heap.size = A at hD hE ⊢
  have hA : ∀ q : Nat, s.heap.size ≤ q → A q := fun q h => by rw [← hAe]; exact Or.inr h
  have hS : va_S A s.heap s.heap [] := va_S.rf
  have hP : va_P D vwCl [(hd, .inr (0, [.ref ou, .ref nx, .ref sh, .int (nI oc), .int (nI sc), .int (nI sr), .int (nI ss)])), (ou, .inl (cI, 16, .inl (fun j => nI (gO j)))), (nx, .inl (cI, 4, .inl (fun j => nI (gN j)))), (sh, .inl (cI, 16, .inl fS))] s.heap := hP
  have hD : va_D A [(hd, .inr (0, [.ref ou, .ref nx, .ref sh, .int (nI oc), .int (nI sc), .int (nI sr), .int (nI ss)])), (ou, .inl (cI, 16, .inl (fun j => nI (gO j)))), (nx, .inl (cI, 4, .inl (fun j => nI (gN j)))), (sh, .inl (cI, 16, .inl fS))] := hD
  have hl := lv_entry ([.ref hd]) (n := 1) (Nat.le_of_ble_eq_true rfl)
  rw [lg_entry_eq]
  generalize (lg_sl ([.ref hd]) ++ List.replicate (1 - (lg_sl ([.ref hd])).length) Slot.unset).toArray = ls at hl ⊢
  have hl : lv_has ls 1 [(0, .ref hd)] := hl
  have hin0 : ∀ w ∈ wsX00, w ∈ wsX0_forget := by decide +kernel
  have kf21 := hts (.fieldLink RX0 21 "SweepEqual$Design" "outputCount" "I") (by decide +kernel)
  have kf25 := hts (.fieldLink RX0 25 "SweepEqual$Design" "starts" "I") (by decide +kernel)
  refine lv_aload_n hx hb dX0_forget_0 rfl (lv_at hl 0 rfl) ?_
  refine lv_iconst (v := nI 0) hx hb dX0_forget_1 (by decide) ?_
  refine va_put (D := D) (ci := 0) (v := .int (nI 0)) (ty := .int) (C := RX0) (T := TX0) (N := 7) hx hb hts hin0 tyX0 tyX0_ok nmX0 hown hK hP hD hS 0 rfl rfl 3 (by decide) kf21 (fun _ h9 => h9) rfl (by decide +kernel) rfl rfl (Nat.le_of_ble_eq_true rfl) dX0_forget_2 (fun H locs hP hD hS => ?_)
  have hP : va_P D vwCl [(hd, .inr (0, [.ref ou, .ref nx, .ref sh, .int (nI 0), .int (nI sc), .int (nI sr), .int (nI ss)])), (ou, .inl (cI, 16, .inl (fun j => nI (gO j)))), (nx, .inl (cI, 4, .inl (fun j => nI (gN j)))), (sh, .inl (cI, 16, .inl fS))] H := hP
  have hD : va_D A [(hd, .inr (0, [.ref ou, .ref nx, .ref sh, .int (nI 0), .int (nI sc), .int (nI sr), .int (nI ss)])), (ou, .inl (cI, 16, .inl (fun j => nI (gO j)))), (nx, .inl (cI, 4, .inl (fun j => nI (gN j)))), (sh, .inl (cI, 16, .inl fS))] := hD
  refine lv_aload_n hx hb dX0_forget_5 rfl (lv_at hl 0 rfl) ?_
  refine lv_iconst (v := nI 0) hx hb dX0_forget_6 (by decide) ?_
  refine va_put (D := D) (ci := 0) (v := .int (nI 0)) (ty := .int) (C := RX0) (T := TX0) (N := 7) hx hb hts hin0 tyX0 tyX0_ok nmX0 hown hK hP hD hS 0 rfl rfl 5 (by decide) kf25 (fun _ h9 => h9) rfl (by decide +kernel) rfl rfl (Nat.le_of_ble_eq_true rfl) dX0_forget_7 (fun H locs hP hD hS => ?_)
  have hP : va_P D vwCl [(hd, .inr (0, [.ref ou, .ref nx, .ref sh, .int (nI 0), .int (nI sc), .int (nI 0), .int (nI ss)])), (ou, .inl (cI, 16, .inl (fun j => nI (gO j)))), (nx, .inl (cI, 4, .inl (fun j => nI (gN j)))), (sh, .inl (cI, 16, .inl fS))] H := hP
  have hD : va_D A [(hd, .inr (0, [.ref ou, .ref nx, .ref sh, .int (nI 0), .int (nI sc), .int (nI 0), .int (nI ss)])), (ou, .inl (cI, 16, .inl (fun j => nI (gO j)))), (nx, .inl (cI, 4, .inl (fun j => nI (gN j)))), (sh, .inl (cI, 16, .inl fS))] := hD
  exact wr_v (()) hx hb hr hlocks hP hD hS dX0_forget_10 (rfl) (trivial)
set_option maxHeartbeats 4000000 in
set_option maxRecDepth 100000 in
/-- the states are the starts, nothing shown -/
theorem w_X0_backToStarts  (sz : Nat) : Met l yX0_backToStarts wsX0_backToStarts { frames := 0, cells := 0, slots := 0, locals := 0 } (wr_P D [(cI, .int), (cJ, .long)] (dW hd ou nx sh cI oc sc sr ss gO gN fS) sz tp [.ref hd]) (wx (Su := Unit) D [(cI, .int), (cJ, .long)] (va_A (dW hd ou nx sh cI oc sc sr ss gO gN fS) sz) (fun _ => none) (fun _ => True) (fun _ => dW hd ou nx sh cI oc 0 sr sr gO gN fS)) 0 0 (va_A (dW hd ou nx sh cI oc sc sr ss gO gN fS) sz) := by
  refine Met.ofW (cc := cX0_backToStarts) (maxL := 1) (ret := none) (by decide) rfl ?_
  intro p e s m args below meth c s₁ B hml hv
  obtain ⟨rfl, hsz, ⟨hP, hK, hD0⟩, hE⟩ := hv
  have hx := B.exec
  have hb := B.bytes
  have hr := B.returns
  have hts := atoms_spec (ws := wsX0_backToStarts) B.pre
  have hown : s.vm.findClass RX0 = some m.cls := findClass_of_methodNamed B.named
  have hlocks := B.notSynchronized
  subst hsz
  have hD := hD0.self (sz := s.heap.size)
  generalize hAe : va_A (dW hd ou nx sh cI oc sc sr ss gO gN fS) s.heap.size = A at hD hE ⊢
  have hA : ∀ q : Nat, s.heap.size ≤ q → A q := fun q h => by rw [← hAe]; exact Or.inr h
  have hS : va_S A s.heap s.heap [] := va_S.rf
  have hP : va_P D vwCl [(hd, .inr (0, [.ref ou, .ref nx, .ref sh, .int (nI oc), .int (nI sc), .int (nI sr), .int (nI ss)])), (ou, .inl (cI, 16, .inl (fun j => nI (gO j)))), (nx, .inl (cI, 4, .inl (fun j => nI (gN j)))), (sh, .inl (cI, 16, .inl fS))] s.heap := hP
  have hD : va_D A [(hd, .inr (0, [.ref ou, .ref nx, .ref sh, .int (nI oc), .int (nI sc), .int (nI sr), .int (nI ss)])), (ou, .inl (cI, 16, .inl (fun j => nI (gO j)))), (nx, .inl (cI, 4, .inl (fun j => nI (gN j)))), (sh, .inl (cI, 16, .inl fS))] := hD
  have hl := lv_entry ([.ref hd]) (n := 1) (Nat.le_of_ble_eq_true rfl)
  rw [lg_entry_eq]
  generalize (lg_sl ([.ref hd]) ++ List.replicate (1 - (lg_sl ([.ref hd])).length) Slot.unset).toArray = ls at hl ⊢
  have hl : lv_has ls 1 [(0, .ref hd)] := hl
  have hin0 : ∀ w ∈ wsX00, w ∈ wsX0_backToStarts := by decide +kernel
  have kf25 := hts (.fieldLink RX0 25 "SweepEqual$Design" "starts" "I") (by decide +kernel)
  have kf28 := hts (.fieldLink RX0 28 "SweepEqual$Design" "states" "I") (by decide +kernel)
  have kf31 := hts (.fieldLink RX0 31 "SweepEqual$Design" "shownCount" "I") (by decide +kernel)
  refine lv_aload_n hx hb dX0_backToStarts_0 rfl (lv_at hl 0 rfl) ?_
  refine lv_aload_n hx hb dX0_backToStarts_1 rfl (lv_at hl 0 rfl) ?_
  refine va_get (D := D) (ci := 0) (v := .int (nI sr)) (C := RX0) (T := TX0) (N := 7) hx hb hts hin0 hown hK hP 0 rfl rfl 5 (by decide) kf25 (fun _ h9 => h9) rfl dX0_backToStarts_2 ?_
  refine va_put (D := D) (ci := 0) (v := .int (nI sr)) (ty := .int) (C := RX0) (T := TX0) (N := 7) hx hb hts hin0 tyX0 tyX0_ok nmX0 hown hK hP hD hS 0 rfl rfl 6 (by decide) kf28 (fun _ h9 => h9) rfl (by decide +kernel) rfl rfl (Nat.le_of_ble_eq_true rfl) dX0_backToStarts_5 (fun H locs hP hD hS => ?_)
  have hP : va_P D vwCl [(hd, .inr (0, [.ref ou, .ref nx, .ref sh, .int (nI oc), .int (nI sc), .int (nI sr), .int (nI sr)])), (ou, .inl (cI, 16, .inl (fun j => nI (gO j)))), (nx, .inl (cI, 4, .inl (fun j => nI (gN j)))), (sh, .inl (cI, 16, .inl fS))] H := hP
  have hD : va_D A [(hd, .inr (0, [.ref ou, .ref nx, .ref sh, .int (nI oc), .int (nI sc), .int (nI sr), .int (nI sr)])), (ou, .inl (cI, 16, .inl (fun j => nI (gO j)))), (nx, .inl (cI, 4, .inl (fun j => nI (gN j)))), (sh, .inl (cI, 16, .inl fS))] := hD
  refine lv_aload_n hx hb dX0_backToStarts_8 rfl (lv_at hl 0 rfl) ?_
  refine lv_iconst (v := nI 0) hx hb dX0_backToStarts_9 (by decide) ?_
  refine va_put (D := D) (ci := 0) (v := .int (nI 0)) (ty := .int) (C := RX0) (T := TX0) (N := 7) hx hb hts hin0 tyX0 tyX0_ok nmX0 hown hK hP hD hS 0 rfl rfl 4 (by decide) kf31 (fun _ h9 => h9) rfl (by decide +kernel) rfl rfl (Nat.le_of_ble_eq_true rfl) dX0_backToStarts_10 (fun H locs hP hD hS => ?_)
  have hP : va_P D vwCl [(hd, .inr (0, [.ref ou, .ref nx, .ref sh, .int (nI oc), .int (nI 0), .int (nI sr), .int (nI sr)])), (ou, .inl (cI, 16, .inl (fun j => nI (gO j)))), (nx, .inl (cI, 4, .inl (fun j => nI (gN j)))), (sh, .inl (cI, 16, .inl fS))] H := hP
  have hD : va_D A [(hd, .inr (0, [.ref ou, .ref nx, .ref sh, .int (nI oc), .int (nI 0), .int (nI sr), .int (nI sr)])), (ou, .inl (cI, 16, .inl (fun j => nI (gO j)))), (nx, .inl (cI, 4, .inl (fun j => nI (gN j)))), (sh, .inl (cI, 16, .inl fS))] := hD
  exact wr_v (()) hx hb hr hlocks hP hD hS dX0_backToStarts_13 (rfl) (trivial)
set_option maxHeartbeats 4000000 in
set_option maxRecDepth 100000 in
/-- one output more -/
theorem w_X0_addOutput (lit : Nat) (h1 : oc < 16) (sz : Nat) : Met l yX0_addOutput wsX0_addOutput { frames := 0, cells := 0, slots := 0, locals := 0 } (wr_P D [(cI, .int), (cJ, .long)] (dW hd ou nx sh cI oc sc sr ss gO gN fS) sz tp [.ref hd, .int (nI lit)]) (wx (Su := Unit) D [(cI, .int), (cJ, .long)] (va_A (dW hd ou nx sh cI oc sc sr ss gO gN fS) sz) (fun _ => some (.int (nI oc))) (fun _ => True) (fun _ => dW hd ou nx sh cI (oc + 1) sc sr ss (va_up gO oc lit) gN fS)) 0 0 (va_A (dW hd ou nx sh cI oc sc sr ss gO gN fS) sz) := by
  refine Met.ofW (cc := cX0_addOutput) (maxL := 2) (ret := (some .int)) (by decide) rfl ?_
  intro p e s m args below meth c s₁ B hml hv
  obtain ⟨rfl, hsz, ⟨hP, hK, hD0⟩, hE⟩ := hv
  have hx := B.exec
  have hb := B.bytes
  have hr := B.returns
  have hts := atoms_spec (ws := wsX0_addOutput) B.pre
  have hown : s.vm.findClass RX0 = some m.cls := findClass_of_methodNamed B.named
  have hlocks := B.notSynchronized
  subst hsz
  have hD := hD0.self (sz := s.heap.size)
  generalize hAe : va_A (dW hd ou nx sh cI oc sc sr ss gO gN fS) s.heap.size = A at hD hE ⊢
  have hA : ∀ q : Nat, s.heap.size ≤ q → A q := fun q h => by rw [← hAe]; exact Or.inr h
  have hS : va_S A s.heap s.heap [] := va_S.rf
  have hP : va_P D vwCl [(hd, .inr (0, [.ref ou, .ref nx, .ref sh, .int (nI oc), .int (nI sc), .int (nI sr), .int (nI ss)])), (ou, .inl (cI, 16, .inl (fun j => nI (gO j)))), (nx, .inl (cI, 4, .inl (fun j => nI (gN j)))), (sh, .inl (cI, 16, .inl fS))] s.heap := hP
  have hD : va_D A [(hd, .inr (0, [.ref ou, .ref nx, .ref sh, .int (nI oc), .int (nI sc), .int (nI sr), .int (nI ss)])), (ou, .inl (cI, 16, .inl (fun j => nI (gO j)))), (nx, .inl (cI, 4, .inl (fun j => nI (gN j)))), (sh, .inl (cI, 16, .inl fS))] := hD
  have hl := lv_entry ([.ref hd, .int (nI lit)]) (n := 2) (Nat.le_of_ble_eq_true rfl)
  rw [lg_entry_eq]
  generalize (lg_sl ([.ref hd, .int (nI lit)]) ++ List.replicate (2 - (lg_sl ([.ref hd, .int (nI lit)])).length) Slot.unset).toArray = ls at hl ⊢
  have hl : lv_has ls 2 [(0, .ref hd), (1, .int (nI lit))] := hl
  have hin0 : ∀ w ∈ wsX00, w ∈ wsX0_addOutput := by decide +kernel
  have kf9 := hts (.fieldLink RX0 9 "SweepEqual$Design" "outputs" "[I") (by decide +kernel)
  have kf21 := hts (.fieldLink RX0 21 "SweepEqual$Design" "outputCount" "I") (by decide +kernel)
  refine lv_aload_n hx hb dX0_addOutput_0 rfl (lv_at hl 0 rfl) ?_
  refine va_get (D := D) (ci := 0) (v := .ref ou) (C := RX0) (T := TX0) (N := 7) hx hb hts hin0 hown hK hP 0 rfl rfl 0 (by decide) kf9 (fun _ h9 => h9) rfl dX0_addOutput_1 ?_
  refine lv_aload_n hx hb dX0_addOutput_4 rfl (lv_at hl 0 rfl) ?_
  refine va_get (D := D) (ci := 0) (v := .int (nI oc)) (C := RX0) (T := TX0) (N := 7) hx hb hts hin0 hown hK hP 0 rfl rfl 3 (by decide) kf21 (fun _ h9 => h9) rfl dX0_addOutput_5 ?_
  refine lv_iload_n hx hb dX0_addOutput_8 rfl (lv_at hl 1 rfl) ?_
  refine va_iast hx hb hK hP hD hS 1 0 rfl rfl (vp_in_nI (by omega) (by omega)) dX0_addOutput_9 (fun H locs hP hD hS => ?_)
  have hP : va_P D vwCl [(hd, .inr (0, [.ref ou, .ref nx, .ref sh, .int (nI oc), .int (nI sc), .int (nI sr), .int (nI ss)])), (ou, .inl (cI, 16, .inl (upd (fun j => nI (gO j)) (nI oc).toNatClampNeg (nI lit)))), (nx, .inl (cI, 4, .inl (fun j => nI (gN j)))), (sh, .inl (cI, 16, .inl fS))] H := hP
  have hD : va_D A [(hd, .inr (0, [.ref ou, .ref nx, .ref sh, .int (nI oc), .int (nI sc), .int (nI sr), .int (nI ss)])), (ou, .inl (cI, 16, .inl (upd (fun j => nI (gO j)) (nI oc).toNatClampNeg (nI lit)))), (nx, .inl (cI, 4, .inl (fun j => nI (gN j)))), (sh, .inl (cI, 16, .inl fS))] := hD
  rw [show upd (fun j => nI (gO j)) (nI oc).toNatClampNeg (nI lit) = fun j => nI ((va_up gO oc lit) j) from upN _ (by omega)] at hP hD
  refine lv_aload_n hx hb dX0_addOutput_10 rfl (lv_at hl 0 rfl) ?_
  refine lv_dup hx hb dX0_addOutput_11 rfl ?_
  refine va_get (D := D) (ci := 0) (v := .int (nI oc)) (C := RX0) (T := TX0) (N := 7) hx hb hts hin0 hown hK hP 0 rfl rfl 3 (by decide) kf21 (fun _ h9 => h9) rfl dX0_addOutput_12 ?_
  refine lv_iconst (v := nI 1) hx hb dX0_addOutput_15 (by decide) ?_
  refine lv_iadd hx hb dX0_addOutput_16 ?_
  refine tp_i (show (nI oc) + (nI 1) = nI (oc + 1) from nI_add _ _) ?_
  refine va_put (D := D) (ci := 0) (v := .int (nI (oc + 1))) (ty := .int) (C := RX0) (T := TX0) (N := 7) hx hb hts hin0 tyX0 tyX0_ok nmX0 hown hK hP hD hS 0 rfl rfl 3 (by decide) kf21 (fun _ h9 => h9) rfl (by decide +kernel) rfl rfl (Nat.le_of_ble_eq_true rfl) dX0_addOutput_17 (fun H locs hP hD hS => ?_)
  have hP : va_P D vwCl [(hd, .inr (0, [.ref ou, .ref nx, .ref sh, .int (nI (oc + 1)), .int (nI sc), .int (nI sr), .int (nI ss)])), (ou, .inl (cI, 16, .inl (fun j => nI ((va_up gO oc lit) j)))), (nx, .inl (cI, 4, .inl (fun j => nI (gN j)))), (sh, .inl (cI, 16, .inl fS))] H := hP
  have hD : va_D A [(hd, .inr (0, [.ref ou, .ref nx, .ref sh, .int (nI (oc + 1)), .int (nI sc), .int (nI sr), .int (nI ss)])), (ou, .inl (cI, 16, .inl (fun j => nI ((va_up gO oc lit) j)))), (nx, .inl (cI, 4, .inl (fun j => nI (gN j)))), (sh, .inl (cI, 16, .inl fS))] := hD
  refine lv_aload_n hx hb dX0_addOutput_20 rfl (lv_at hl 0 rfl) ?_
  refine va_get (D := D) (ci := 0) (v := .int (nI (oc + 1))) (C := RX0) (T := TX0) (N := 7) hx hb hts hin0 hown hK hP 0 rfl rfl 3 (by decide) kf21 (fun _ h9 => h9) rfl dX0_addOutput_21 ?_
  refine lv_iconst (v := nI 1) hx hb dX0_addOutput_24 (by decide) ?_
  refine lv_isub hx hb dX0_addOutput_25 ?_
  refine tp_i (show (nI (oc + 1)) - (nI 1) = nI (oc + 1 - 1) from pk_sub (by omega)) ?_
  exact wr_i (()) hx hb hr hlocks hP hD hS dX0_addOutput_26 (by rw [show oc + 1 - 1 = oc by omega]) (trivial)
set_option maxHeartbeats 4000000 in
set_option maxRecDepth 100000 in
/-- a latch: its start, its next -/
theorem w_X0_addLatch (lt st lit : Nat) (h1 : lt < 4) (h2 : st < 2) (sz : Nat) : Met l yX0_addLatch wsX0_addLatch { frames := 0, cells := 0, slots := 0, locals := 0 } (wr_P D [(cI, .int), (cJ, .long)] (dW hd ou nx sh cI oc sc sr ss gO gN fS) sz tp [.ref hd, .int (nI lt), .int (nI st), .int (nI lit)]) (wx (Su := Unit) D [(cI, .int), (cJ, .long)] (va_A (dW hd ou nx sh cI oc sc sr ss gO gN fS) sz) (fun _ => none) (fun _ => True) (fun _ => dW hd ou nx sh cI oc sc (sr ||| st * 2 ^ lt) ss gO (va_up gN lt lit) fS)) 0 0 (va_A (dW hd ou nx sh cI oc sc sr ss gO gN fS) sz) := by
  refine Met.ofW (cc := cX0_addLatch) (maxL := 4) (ret := none) (by decide) rfl ?_
  intro p e s m args below meth c s₁ B hml hv
  obtain ⟨rfl, hsz, ⟨hP, hK, hD0⟩, hE⟩ := hv
  have hx := B.exec
  have hb := B.bytes
  have hr := B.returns
  have hts := atoms_spec (ws := wsX0_addLatch) B.pre
  have hown : s.vm.findClass RX0 = some m.cls := findClass_of_methodNamed B.named
  have hlocks := B.notSynchronized
  subst hsz
  have hD := hD0.self (sz := s.heap.size)
  generalize hAe : va_A (dW hd ou nx sh cI oc sc sr ss gO gN fS) s.heap.size = A at hD hE ⊢
  have hA : ∀ q : Nat, s.heap.size ≤ q → A q := fun q h => by rw [← hAe]; exact Or.inr h
  have hS : va_S A s.heap s.heap [] := va_S.rf
  have hP : va_P D vwCl [(hd, .inr (0, [.ref ou, .ref nx, .ref sh, .int (nI oc), .int (nI sc), .int (nI sr), .int (nI ss)])), (ou, .inl (cI, 16, .inl (fun j => nI (gO j)))), (nx, .inl (cI, 4, .inl (fun j => nI (gN j)))), (sh, .inl (cI, 16, .inl fS))] s.heap := hP
  have hD : va_D A [(hd, .inr (0, [.ref ou, .ref nx, .ref sh, .int (nI oc), .int (nI sc), .int (nI sr), .int (nI ss)])), (ou, .inl (cI, 16, .inl (fun j => nI (gO j)))), (nx, .inl (cI, 4, .inl (fun j => nI (gN j)))), (sh, .inl (cI, 16, .inl fS))] := hD
  have hl := lv_entry ([.ref hd, .int (nI lt), .int (nI st), .int (nI lit)]) (n := 4) (Nat.le_of_ble_eq_true rfl)
  rw [lg_entry_eq]
  generalize (lg_sl ([.ref hd, .int (nI lt), .int (nI st), .int (nI lit)]) ++ List.replicate (4 - (lg_sl ([.ref hd, .int (nI lt), .int (nI st), .int (nI lit)])).length) Slot.unset).toArray = ls at hl ⊢
  have hl : lv_has ls 4 [(0, .ref hd), (1, .int (nI lt)), (2, .int (nI st)), (3, .int (nI lit))] := hl
  have hin0 : ∀ w ∈ wsX00, w ∈ wsX0_addLatch := by decide +kernel
  have kf25 := hts (.fieldLink RX0 25 "SweepEqual$Design" "starts" "I") (by decide +kernel)
  have kf15 := hts (.fieldLink RX0 15 "SweepEqual$Design" "nexts" "[I") (by decide +kernel)
  have hp : 2 ^ lt ≤ 2 ^ 3 := Nat.pow_le_pow_right (by omega) (by omega)
  have hp2 : st * 2 ^ lt ≤ 1 * 2 ^ 3 := Nat.mul_le_mul (by omega) hp
  refine lv_aload_n hx hb dX0_addLatch_0 rfl (lv_at hl 0 rfl) ?_
  refine lv_dup hx hb dX0_addLatch_1 rfl ?_
  refine va_get (D := D) (ci := 0) (v := .int (nI sr)) (C := RX0) (T := TX0) (N := 7) hx hb hts hin0 hown hK hP 0 rfl rfl 5 (by decide) kf25 (fun _ h9 => h9) rfl dX0_addLatch_2 ?_
  refine lv_iload_n hx hb dX0_addLatch_5 rfl (lv_at hl 2 rfl) ?_
  refine lv_iload_n hx hb dX0_addLatch_6 rfl (lv_at hl 1 rfl) ?_
  refine lv_ishl hx hb dX0_addLatch_7 ?_
  refine tp_i (show (nI st) <<< ((nI lt) &&& 31) = nI (st * 2 ^ lt) from n_shl (by omega) (by omega)) ?_
  refine lv_ior hx hb dX0_addLatch_8 ?_
  refine tp_i (show (nI sr) ||| (nI (st * 2 ^ lt)) = nI (sr ||| st * 2 ^ lt) from n_or _ _) ?_
  refine va_put (D := D) (ci := 0) (v := .int (nI (sr ||| st * 2 ^ lt))) (ty := .int) (C := RX0) (T := TX0) (N := 7) hx hb hts hin0 tyX0 tyX0_ok nmX0 hown hK hP hD hS 0 rfl rfl 5 (by decide) kf25 (fun _ h9 => h9) rfl (by decide +kernel) rfl rfl (Nat.le_of_ble_eq_true rfl) dX0_addLatch_9 (fun H locs hP hD hS => ?_)
  have hP : va_P D vwCl [(hd, .inr (0, [.ref ou, .ref nx, .ref sh, .int (nI oc), .int (nI sc), .int (nI (sr ||| st * 2 ^ lt)), .int (nI ss)])), (ou, .inl (cI, 16, .inl (fun j => nI (gO j)))), (nx, .inl (cI, 4, .inl (fun j => nI (gN j)))), (sh, .inl (cI, 16, .inl fS))] H := hP
  have hD : va_D A [(hd, .inr (0, [.ref ou, .ref nx, .ref sh, .int (nI oc), .int (nI sc), .int (nI (sr ||| st * 2 ^ lt)), .int (nI ss)])), (ou, .inl (cI, 16, .inl (fun j => nI (gO j)))), (nx, .inl (cI, 4, .inl (fun j => nI (gN j)))), (sh, .inl (cI, 16, .inl fS))] := hD
  refine lv_aload_n hx hb dX0_addLatch_12 rfl (lv_at hl 0 rfl) ?_
  refine va_get (D := D) (ci := 0) (v := .ref nx) (C := RX0) (T := TX0) (N := 7) hx hb hts hin0 hown hK hP 0 rfl rfl 1 (by decide) kf15 (fun _ h9 => h9) rfl dX0_addLatch_13 ?_
  refine lv_iload_n hx hb dX0_addLatch_16 rfl (lv_at hl 1 rfl) ?_
  refine lv_iload_n hx hb dX0_addLatch_17 rfl (lv_at hl 3 rfl) ?_
  refine va_iast hx hb hK hP hD hS 2 0 rfl rfl (vp_in_nI (by omega) (by omega)) dX0_addLatch_18 (fun H locs hP hD hS => ?_)
  have hP : va_P D vwCl [(hd, .inr (0, [.ref ou, .ref nx, .ref sh, .int (nI oc), .int (nI sc), .int (nI (sr ||| st * 2 ^ lt)), .int (nI ss)])), (ou, .inl (cI, 16, .inl (fun j => nI (gO j)))), (nx, .inl (cI, 4, .inl (upd (fun j => nI (gN j)) (nI lt).toNatClampNeg (nI lit)))), (sh, .inl (cI, 16, .inl fS))] H := hP
  have hD : va_D A [(hd, .inr (0, [.ref ou, .ref nx, .ref sh, .int (nI oc), .int (nI sc), .int (nI (sr ||| st * 2 ^ lt)), .int (nI ss)])), (ou, .inl (cI, 16, .inl (fun j => nI (gO j)))), (nx, .inl (cI, 4, .inl (upd (fun j => nI (gN j)) (nI lt).toNatClampNeg (nI lit)))), (sh, .inl (cI, 16, .inl fS))] := hD
  rw [show upd (fun j => nI (gN j)) (nI lt).toNatClampNeg (nI lit) = fun j => nI ((va_up gN lt lit) j) from upN _ (by omega)] at hP hD
  exact wr_v (()) hx hb hr hlocks hP hD hS dX0_addLatch_19 (rfl) (trivial)
end WD
end
section
section WD2
variable (l : Launch) (D : va_G) (cI cJ : ClassId) (tp : Nat) (hd ou nx sh oc sc sr ss : Nat) (gO gN : Nat → Nat) (fS : Nat → Int32)
set_option maxHeartbeats 4000000 in
set_option maxRecDepth 100000 in
/-- a new design -/
theorem w_X0_init  (sz : Nat) : Met l yX0_init wsX0_init { frames := 1, cells := 3, slots := 36, locals := 12 } (wr_P D [(cI, .int), (cJ, .long)] [(hd, .inr (0, [.null, .null, .null, .int 0, .int 0, .int 0, .int 0]))] sz tp [.ref hd]) (wx (Su := Nat × Nat × Nat) D [(cI, .int), (cJ, .long)] (va_A [(hd, .inr (0, [.null, .null, .null, .int 0, .int 0, .int 0, .int 0]))] sz) (fun _ => none) (fun _ => True) (fun u => dW hd u.1 u.2.1 u.2.2 cI 0 0 0 0 (fun _ => 0) (fun _ => 0) (fun _ => 0))) 3 36 (va_A [(hd, .inr (0, [.null, .null, .null, .int 0, .int 0, .int 0, .int 0]))] sz) := by
  refine Met.ofW (cc := cX0_init) (maxL := 1) (ret := none) (by decide) rfl ?_
  intro p e s m args below meth c s₁ B hml hv
  obtain ⟨rfl, hsz, ⟨hP, hK, hD0⟩, hE⟩ := hv
  have hx := B.exec
  have hb := B.bytes
  have hr := B.returns
  have hts := atoms_spec (ws := wsX0_init) B.pre
  have hown : s.vm.findClass RX0 = some m.cls := findClass_of_methodNamed B.named
  have hlocks := B.notSynchronized
  have hin : meth.name = "<init>" := (name_of_methodNamed B.named B.method).1
  subst hsz
  have hD := hD0.self (sz := s.heap.size)
  generalize hAe : va_A [(hd, .inr (0, [.null, .null, .null, .int 0, .int 0, .int 0, .int 0]))] s.heap.size = A at hD hE ⊢
  have hA : ∀ q : Nat, s.heap.size ≤ q → A q := fun q h => by rw [← hAe]; exact Or.inr h
  have hS : va_S A s.heap s.heap [] := va_S.rf
  have hP : va_P D vwCl [(hd, .inr (0, [.null, .null, .null, .int 0, .int 0, .int 0, .int 0]))] s.heap := hP
  have hD : va_D A [(hd, .inr (0, [.null, .null, .null, .int 0, .int 0, .int 0, .int 0]))] := hD
  have hl := lv_entry ([.ref hd]) (n := 1) (Nat.le_of_ble_eq_true rfl)
  rw [lg_entry_eq]
  generalize (lg_sl ([.ref hd]) ++ List.replicate (1 - (lg_sl ([.ref hd])).length) Slot.unset).toArray = ls at hl ⊢
  have hl : lv_has ls 1 [(0, .ref hd)] := hl
  have hin0 : ∀ w ∈ wsX00, w ∈ wsX0_init := by decide +kernel
  have kf9 := hts (.fieldLink RX0 9 "SweepEqual$Design" "outputs" "[I") (by decide +kernel)
  have kf15 := hts (.fieldLink RX0 15 "SweepEqual$Design" "nexts" "[I") (by decide +kernel)
  have kf18 := hts (.fieldLink RX0 18 "SweepEqual$Design" "shown" "[I") (by decide +kernel)
  refine lv_aload_n hx hb dX0_init_0 rfl (lv_at hl 0 rfl) ?_
  have a1 := hts (.methodLink RX0 3 objectInit) (by decide +kernel)
  have a2 := hts (.instanceMethod objectInit) (by decide +kernel)
  have a3 : (Cond.code objectInit ⟨#[0xb1]⟩ 1 none).before ([.ref hd] : List Value).toArray s = true := hts _ (List.mem_of_getElem? (l := wsX0_init) (i := 3) rfl)
  refine W.objInit hx hb hown a1 a2 a3 rfl (by rw [hml]; exact hl.1) rfl dX0_init_1 (Nat.le_of_ble_eq_true rfl) (by show 12 ≤ 12; omega) ?_
  refine W.eq (g2 := F0 m 4 ls []) rfl ?_
  refine lv_aload_n hx hb dX0_init_4 rfl (lv_at hl 0 rfl) ?_
  refine lv_bipush (v := nI 16) hx hb dX0_init_5 (by decide) ?_
  refine va_newa (atype := .int) (ty := .int) (N' := 16) (n := nI 16) (a0 := (16, .inl (fun _ => 0))) hx hb (hts (.arrayClass .int) (by decide +kernel)) rfl hK hP hD hS hA (fun _ => rfl) (nI_pos (by omega)) (nI_clamp (by omega)) (by simp only [componentBytes]; omega) (by show _ ≤ _; simp only [headSpec]; omega) (by show _ ≤ _; simp only [headSpec]; omega) dX0_init_7 (fun q_1 cA H hK9 hP hD hS => ?_)
  obtain rfl : cI = cA := arr_cls hK9 0 2 rfl rfl (fun _ h => h)
  clear hK9
  have hP : va_P D vwCl [(hd, .inr (0, [.null, .null, .null, .int 0, .int 0, .int 0, .int 0])), (q_1, .inl (cI, 16, .inl (fun _ => 0)))] H := hP
  have hD : va_D A [(hd, .inr (0, [.null, .null, .null, .int 0, .int 0, .int 0, .int 0])), (q_1, .inl (cI, 16, .inl (fun _ => 0)))] := hD
  refine W.widen (k := 1) (n := 16) (by omega) (by omega) ?_
  refine va_putF (D := D) (ci := 0) (v := .ref q_1) (ty := .array .int) (C := RX0) (T := TX0) (N := 7) hx hb hts hin0 tyX0 tyX0_ok nmX0 hown hK hP hD hS 0 rfl rfl 0 (by decide) kf9 (fun _ h9 => h9) rfl hin rfl (by decide +kernel) rfl rfl (Nat.le_of_ble_eq_true rfl) dX0_init_9 (fun H locs hP hD hS => ?_)
  have hP : va_P D vwCl [(hd, .inr (0, [.ref q_1, .null, .null, .int 0, .int 0, .int 0, .int 0])), (q_1, .inl (cI, 16, .inl (fun _ => 0)))] H := hP
  have hD : va_D A [(hd, .inr (0, [.ref q_1, .null, .null, .int 0, .int 0, .int 0, .int 0])), (q_1, .inl (cI, 16, .inl (fun _ => 0)))] := hD
  refine lv_aload_n hx hb dX0_init_12 rfl (lv_at hl 0 rfl) ?_
  refine lv_iconst (v := nI 4) hx hb dX0_init_13 (by decide) ?_
  refine va_newa (atype := .int) (ty := .int) (N' := 4) (n := nI 4) (a0 := (4, .inl (fun _ => 0))) hx hb (hts (.arrayClass .int) (by decide +kernel)) rfl hK hP hD hS hA (fun _ => rfl) (nI_pos (by omega)) (nI_clamp (by omega)) (by simp only [componentBytes]; omega) (by show _ ≤ _; simp only [headSpec]; omega) (by show _ ≤ _; simp only [headSpec]; omega) dX0_init_14 (fun q_2 cA H hK9 hP hD hS => ?_)
  obtain rfl : cI = cA := arr_cls hK9 0 2 rfl rfl (fun _ h => h)
  clear hK9
  have hP : va_P D vwCl [(hd, .inr (0, [.ref q_1, .null, .null, .int 0, .int 0, .int 0, .int 0])), (q_1, .inl (cI, 16, .inl (fun _ => 0))), (q_2, .inl (cI, 4, .inl (fun _ => 0)))] H := hP
  have hD : va_D A [(hd, .inr (0, [.ref q_1, .null, .null, .int 0, .int 0, .int 0, .int 0])), (q_1, .inl (cI, 16, .inl (fun _ => 0))), (q_2, .inl (cI, 4, .inl (fun _ => 0)))] := hD
  refine W.widen (k := 2) (n := 20) (by omega) (by omega) ?_
  refine va_putF (D := D) (ci := 0) (v := .ref q_2) (ty := .array .int) (C := RX0) (T := TX0) (N := 7) hx hb hts hin0 tyX0 tyX0_ok nmX0 hown hK hP hD hS 0 rfl rfl 1 (by decide) kf15 (fun _ h9 => h9) rfl hin rfl (by decide +kernel) rfl rfl (Nat.le_of_ble_eq_true rfl) dX0_init_16 (fun H locs hP hD hS => ?_)
  have hP : va_P D vwCl [(hd, .inr (0, [.ref q_1, .ref q_2, .null, .int 0, .int 0, .int 0, .int 0])), (q_1, .inl (cI, 16, .inl (fun _ => 0))), (q_2, .inl (cI, 4, .inl (fun _ => 0)))] H := hP
  have hD : va_D A [(hd, .inr (0, [.ref q_1, .ref q_2, .null, .int 0, .int 0, .int 0, .int 0])), (q_1, .inl (cI, 16, .inl (fun _ => 0))), (q_2, .inl (cI, 4, .inl (fun _ => 0)))] := hD
  refine lv_aload_n hx hb dX0_init_19 rfl (lv_at hl 0 rfl) ?_
  refine lv_bipush (v := nI 16) hx hb dX0_init_20 (by decide) ?_
  refine va_newa (atype := .int) (ty := .int) (N' := 16) (n := nI 16) (a0 := (16, .inl (fun _ => 0))) hx hb (hts (.arrayClass .int) (by decide +kernel)) rfl hK hP hD hS hA (fun _ => rfl) (nI_pos (by omega)) (nI_clamp (by omega)) (by simp only [componentBytes]; omega) (by show _ ≤ _; simp only [headSpec]; omega) (by show _ ≤ _; simp only [headSpec]; omega) dX0_init_22 (fun q_3 cA H hK9 hP hD hS => ?_)
  obtain rfl : cI = cA := arr_cls hK9 0 2 rfl rfl (fun _ h => h)
  clear hK9
  have hP : va_P D vwCl [(hd, .inr (0, [.ref q_1, .ref q_2, .null, .int 0, .int 0, .int 0, .int 0])), (q_1, .inl (cI, 16, .inl (fun _ => 0))), (q_2, .inl (cI, 4, .inl (fun _ => 0))), (q_3, .inl (cI, 16, .inl (fun _ => 0)))] H := hP
  have hD : va_D A [(hd, .inr (0, [.ref q_1, .ref q_2, .null, .int 0, .int 0, .int 0, .int 0])), (q_1, .inl (cI, 16, .inl (fun _ => 0))), (q_2, .inl (cI, 4, .inl (fun _ => 0))), (q_3, .inl (cI, 16, .inl (fun _ => 0)))] := hD
  refine W.widen (k := 3) (n := 36) (by omega) (by omega) ?_
  refine va_putF (D := D) (ci := 0) (v := .ref q_3) (ty := .array .int) (C := RX0) (T := TX0) (N := 7) hx hb hts hin0 tyX0 tyX0_ok nmX0 hown hK hP hD hS 0 rfl rfl 2 (by decide) kf18 (fun _ h9 => h9) rfl hin rfl (by decide +kernel) rfl rfl (Nat.le_of_ble_eq_true rfl) dX0_init_24 (fun H locs hP hD hS => ?_)
  have hP : va_P D vwCl [(hd, .inr (0, [.ref q_1, .ref q_2, .ref q_3, .int 0, .int 0, .int 0, .int 0])), (q_1, .inl (cI, 16, .inl (fun _ => 0))), (q_2, .inl (cI, 4, .inl (fun _ => 0))), (q_3, .inl (cI, 16, .inl (fun _ => 0)))] H := hP
  have hD : va_D A [(hd, .inr (0, [.ref q_1, .ref q_2, .ref q_3, .int 0, .int 0, .int 0, .int 0])), (q_1, .inl (cI, 16, .inl (fun _ => 0))), (q_2, .inl (cI, 4, .inl (fun _ => 0))), (q_3, .inl (cI, 16, .inl (fun _ => 0)))] := hD
  exact wr_v ((q_1, q_2, q_3)) hx hb hr hlocks hP hD hS dX0_init_27 (rfl) (trivial)
end WD2
end
section
section WDr
variable (l : Launch) (D : va_G) (cI cJ : ClassId) (tp : Nat) (hd ou nx sh oc sc sr ss : Nat) (gO gN : Nat → Nat) (fS : Nat → Int32)
variable (hn ow fi ro cnt len : Nat) (fo ff : Nat → Int32) (fr : Nat → Int64)
set_option maxHeartbeats 4000000 in
set_option maxRecDepth 100000 in
/-- a step of a side -/
theorem w_X0_runStep (inp : Int32) (lc iv k : Nat) (hiv : inp &&& nI 255 = nI iv) (hk : k = iv ||| ss * 256) (hk2 : k < 4096) (hss : ss < 16) (hlc : lc ≤ 4) (hoc : oc ≤ 16) (hO : ∀ j, j < oc → gO j / 2 * 64 + 63 < len) (hN : ∀ j, j < lc → gN j / 2 * 64 + 63 < len) (h2 : len ≤ 25600) (sz : Nat) : Met l yX0_runStep wsX0_runStep { frames := 2, cells := 0, slots := 0, locals := 47 } (wr_P D [(cI, .int), (cJ, .long)] (dW hd ou nx sh cI oc sc sr ss gO gN fS ++ nW hn ow fi ro cI cJ cnt len fo ff fr) sz tp [.ref hd, .ref hn, .int inp, .int (nI lc)]) (wx (Su := Unit) D [(cI, .int), (cJ, .long)] (va_A (dW hd ou nx sh cI oc sc sr ss gO gN fS ++ nW hn ow fi ro cI cJ cnt len fo ff fr) sz) (fun _ => none) (fun _ => True) (fun _ => dW hd ou nx sh cI oc oc sr (stF fr gN k lc) gO gN (shF fr gO fS k oc) ++ nW hn ow fi ro cI cJ cnt len fo ff fr)) 0 0 (va_A (dW hd ou nx sh cI oc sc sr ss gO gN fS ++ nW hn ow fi ro cI cJ cnt len fo ff fr) sz) := by
  refine Met.ofW (cc := cX0_runStep) (maxL := 7) (ret := none) (by decide) rfl ?_
  intro p e s m args below meth c s₁ B hml hv
  obtain ⟨rfl, hsz, ⟨hP, hK, hD0⟩, hE⟩ := hv
  have hx := B.exec
  have hb := B.bytes
  have hr := B.returns
  have hts := atoms_spec (ws := wsX0_runStep) B.pre
  have hown : s.vm.findClass RX0 = some m.cls := findClass_of_methodNamed B.named
  have hlocks := B.notSynchronized
  subst hsz
  have hD := hD0.self (sz := s.heap.size)
  generalize hAe : va_A (dW hd ou nx sh cI oc sc sr ss gO gN fS ++ nW hn ow fi ro cI cJ cnt len fo ff fr) s.heap.size = A at hD hE ⊢
  have hA : ∀ q : Nat, s.heap.size ≤ q → A q := fun q h => by rw [← hAe]; exact Or.inr h
  have hS : va_S A s.heap s.heap [] := va_S.rf
  have hP : va_P D vwCl [(hd, .inr (0, [.ref ou, .ref nx, .ref sh, .int (nI oc), .int (nI sc), .int (nI sr), .int (nI ss)])), (ou, .inl (cI, 16, .inl (fun j => nI (gO j)))), (nx, .inl (cI, 4, .inl (fun j => nI (gN j)))), (sh, .inl (cI, 16, .inl fS)), (hn, .inr (1, [.int (nI cnt), .ref ow, .ref fi, .ref ro])), (ow, .inl (cI, 400, .inl fo)), (fi, .inl (cI, 400, .inl ff)), (ro, .inl (cJ, len, .inr (.inl fr)))] s.heap := hP
  have hD : va_D A [(hd, .inr (0, [.ref ou, .ref nx, .ref sh, .int (nI oc), .int (nI sc), .int (nI sr), .int (nI ss)])), (ou, .inl (cI, 16, .inl (fun j => nI (gO j)))), (nx, .inl (cI, 4, .inl (fun j => nI (gN j)))), (sh, .inl (cI, 16, .inl fS)), (hn, .inr (1, [.int (nI cnt), .ref ow, .ref fi, .ref ro])), (ow, .inl (cI, 400, .inl fo)), (fi, .inl (cI, 400, .inl ff)), (ro, .inl (cJ, len, .inr (.inl fr)))] := hD
  have hl := lv_entry ([.ref hd, .ref hn, .int inp, .int (nI lc)]) (n := 7) (Nat.le_of_ble_eq_true rfl)
  rw [lg_entry_eq]
  generalize (lg_sl ([.ref hd, .ref hn, .int inp, .int (nI lc)]) ++ List.replicate (7 - (lg_sl ([.ref hd, .ref hn, .int inp, .int (nI lc)])).length) Slot.unset).toArray = ls at hl ⊢
  have hl : lv_has ls 7 [(0, .ref hd), (1, .ref hn), (2, .int inp), (3, .int (nI lc))] := hl
  have hin0 : ∀ w ∈ wsX00, w ∈ wsX0_runStep := by decide +kernel
  have kf28 := hts (.fieldLink RX0 28 "SweepEqual$Design" "states" "I") (by decide +kernel)
  have kf21 := hts (.fieldLink RX0 21 "SweepEqual$Design" "outputCount" "I") (by decide +kernel)
  have kf18 := hts (.fieldLink RX0 18 "SweepEqual$Design" "shown" "[I") (by decide +kernel)
  have kf9 := hts (.fieldLink RX0 9 "SweepEqual$Design" "outputs" "[I") (by decide +kernel)
  have kf31 := hts (.fieldLink RX0 31 "SweepEqual$Design" "shownCount" "I") (by decide +kernel)
  have kf15 := hts (.fieldLink RX0 15 "SweepEqual$Design" "nexts" "[I") (by decide +kernel)
  have hka := and_4095 hk2
  refine lv_iload_n hx hb dX0_runStep_0 rfl (lv_at hl 2 rfl) ?_
  refine lv_sipush (v := nI 255) hx hb dX0_runStep_1 (by decide) ?_
  refine lv_iand hx hb dX0_runStep_4 ?_
  refine tp_i (show inp &&& (nI 255) = nI iv from hiv) ?_
  refine lv_aload_n hx hb dX0_runStep_5 rfl (lv_at hl 0 rfl) ?_
  refine va_get (D := D) (ci := 0) (v := .int (nI ss)) (C := RX0) (T := TX0) (N := 7) hx hb hts hin0 hown hK hP 0 rfl rfl 6 (by decide) kf28 (fun _ h9 => h9) rfl dX0_runStep_6 ?_
  refine lv_bipush (v := nI 8) hx hb dX0_runStep_9 (by decide) ?_
  refine lv_ishl hx hb dX0_runStep_11 ?_
  refine tp_i (show (nI ss) <<< ((nI 8) &&& 31) = nI (ss * 256) from n_shl (by omega) (by omega)) ?_
  refine lv_ior hx hb dX0_runStep_12 ?_
  refine tp_i (show (nI iv) ||| (nI (ss * 256)) = nI k from by rw [hk]; exact n_or _ _) ?_
  refine lv_istore (lv' := [(4, .int (nI k)), (0, .ref hd), (1, .ref hn), (2, .int inp), (3, .int (nI lc))]) hx hb dX0_runStep_13 hl (by decide) rfl (fun ls hl => ?_)
  refine lv_iconst (v := nI 0) hx hb dX0_runStep_15 (by decide) ?_
  refine lv_istore (lv' := [(5, .int (nI 0)), (4, .int (nI k)), (0, .ref hd), (1, .ref hn), (2, .int inp), (3, .int (nI lc))]) hx hb dX0_runStep_16 hl (by decide) rfl (fun ls hl => ?_)
  have loop : ∀ (n : Nat) (i : Nat), i ≤ oc → oc - i < n → ∀ (H : Heap) (locs : List Loc) (ls : Array Slot), va_P D vwCl [(hd, .inr (0, [.ref ou, .ref nx, .ref sh, .int (nI oc), .int (nI sc), .int (nI sr), .int (nI ss)])), (ou, .inl (cI, 16, .inl (fun j => nI (gO j)))), (nx, .inl (cI, 4, .inl (fun j => nI (gN j)))), (sh, .inl (cI, 16, .inl (shF fr gO fS k i))), (hn, .inr (1, [.int (nI cnt), .ref ow, .ref fi, .ref ro])), (ow, .inl (cI, 400, .inl fo)), (fi, .inl (cI, 400, .inl ff)), (ro, .inl (cJ, len, .inr (.inl fr)))] H → va_D A [(hd, .inr (0, [.ref ou, .ref nx, .ref sh, .int (nI oc), .int (nI sc), .int (nI sr), .int (nI ss)])), (ou, .inl (cI, 16, .inl (fun j => nI (gO j)))), (nx, .inl (cI, 4, .inl (fun j => nI (gN j)))), (sh, .inl (cI, 16, .inl (shF fr gO fS k i))), (hn, .inr (1, [.int (nI cnt), .ref ow, .ref fi, .ref ro])), (ow, .inl (cI, 400, .inl fo)), (fi, .inl (cI, 400, .inl ff)), (ro, .inl (cJ, len, .inr (.inl fr)))] → va_S A s.heap H locs → lv_has ls 7 [(5, .int (nI i)), (4, .int (nI k)), (0, .ref hd), (1, .ref hn), (2, .int inp), (3, .int (nI lc))] → W p l e (headSpec wsX0_runStep { frames := 2, cells := 0, slots := 0, locals := 47 }).room s m ([.ref hd, .ref hn, .int inp, .int (nI lc)] : List Value).toArray below meth c H locs 0 0 (MQ below (wx (Su := Unit) D [(cI, .int), (cJ, .long)] A (fun _ => none) (fun _ => True) (fun _ => dW hd ou nx sh cI oc oc sr (stF fr gN k lc) gO gN (shF fr gO fS k oc) ++ nW hn ow fi ro cI cJ cnt len fo ff fr)) ([.ref hd, .ref hn, .int inp, .int (nI lc)] : List Value).toArray s 0 0 A) (F0 m 18 ls []) := by
    intro n
    induction n with
    | zero => intro i hi hM; exact absurd hM (Nat.not_lt_zero _)
    | succ n ih =>
      intro i hi hM H locs ls hP hD hS hl
      refine lv_iload hx hb dX0_runStep_18 (lv_at hl 0 rfl) ?_
      refine lv_aload_n hx hb dX0_runStep_20 rfl (lv_at hl 2 rfl) ?_
      refine va_get (D := D) (ci := 0) (v := .int (nI oc)) (C := RX0) (T := TX0) (N := 7) hx hb hts hin0 hown hK hP 0 rfl rfl 3 (by decide) kf21 (fun _ h9 => h9) rfl dX0_runStep_21 ?_
      refine lv_icmp_ge (tgt := 53) hx hb dX0_runStep_24 (by decide) (fun c1 => ?_) (fun c1 => ?_)
      · have c1 : oc ≤ i := (nI_leI (by omega) (by omega)).mp c1
        have hi2 : i = oc := by omega
        rw [hi2] at hP hD
        refine lv_aload_n hx hb dX0_runStep_53 rfl (lv_at hl 2 rfl) ?_
        refine lv_aload_n hx hb dX0_runStep_54 rfl (lv_at hl 2 rfl) ?_
        refine va_get (D := D) (ci := 0) (v := .int (nI oc)) (C := RX0) (T := TX0) (N := 7) hx hb hts hin0 hown hK hP 0 rfl rfl 3 (by decide) kf21 (fun _ h9 => h9) rfl dX0_runStep_55 ?_
        refine va_put (D := D) (ci := 0) (v := .int (nI oc)) (ty := .int) (C := RX0) (T := TX0) (N := 7) hx hb hts hin0 tyX0 tyX0_ok nmX0 hown hK hP hD hS 0 rfl rfl 4 (by decide) kf31 (fun _ h9 => h9) rfl (by decide +kernel) rfl rfl (Nat.le_of_ble_eq_true rfl) dX0_runStep_58 (fun H locs hP hD hS => ?_)
        have hP : va_P D vwCl [(hd, .inr (0, [.ref ou, .ref nx, .ref sh, .int (nI oc), .int (nI oc), .int (nI sr), .int (nI ss)])), (ou, .inl (cI, 16, .inl (fun j => nI (gO j)))), (nx, .inl (cI, 4, .inl (fun j => nI (gN j)))), (sh, .inl (cI, 16, .inl (shF fr gO fS k oc))), (hn, .inr (1, [.int (nI cnt), .ref ow, .ref fi, .ref ro])), (ow, .inl (cI, 400, .inl fo)), (fi, .inl (cI, 400, .inl ff)), (ro, .inl (cJ, len, .inr (.inl fr)))] H := hP
        have hD : va_D A [(hd, .inr (0, [.ref ou, .ref nx, .ref sh, .int (nI oc), .int (nI oc), .int (nI sr), .int (nI ss)])), (ou, .inl (cI, 16, .inl (fun j => nI (gO j)))), (nx, .inl (cI, 4, .inl (fun j => nI (gN j)))), (sh, .inl (cI, 16, .inl (shF fr gO fS k oc))), (hn, .inr (1, [.int (nI cnt), .ref ow, .ref fi, .ref ro])), (ow, .inl (cI, 400, .inl fo)), (fi, .inl (cI, 400, .inl ff)), (ro, .inl (cJ, len, .inr (.inl fr)))] := hD
        refine lv_iconst (v := nI 0) hx hb dX0_runStep_61 (by decide) ?_
        refine lv_istore (lv' := [(5, .int (nI 0)), (4, .int (nI k)), (0, .ref hd), (1, .ref hn), (2, .int inp), (3, .int (nI lc))]) hx hb dX0_runStep_62 hl (by decide) rfl (fun ls hl => ?_)
        refine lv_iconst (v := nI 0) hx hb dX0_runStep_64 (by decide) ?_
        refine lv_istore (lv' := [(6, .int (nI 0)), (5, .int (nI 0)), (4, .int (nI k)), (0, .ref hd), (1, .ref hn), (2, .int inp), (3, .int (nI lc))]) hx hb dX0_runStep_65 hl (by decide) rfl (fun ls hl => ?_)
        have loop2 : ∀ (n : Nat) (j : Nat), j ≤ lc → lc - j < n → ∀ (H : Heap) (locs : List Loc) (ls : Array Slot), va_P D vwCl [(hd, .inr (0, [.ref ou, .ref nx, .ref sh, .int (nI oc), .int (nI oc), .int (nI sr), .int (nI ss)])), (ou, .inl (cI, 16, .inl (fun j => nI (gO j)))), (nx, .inl (cI, 4, .inl (fun j => nI (gN j)))), (sh, .inl (cI, 16, .inl (shF fr gO fS k oc))), (hn, .inr (1, [.int (nI cnt), .ref ow, .ref fi, .ref ro])), (ow, .inl (cI, 400, .inl fo)), (fi, .inl (cI, 400, .inl ff)), (ro, .inl (cJ, len, .inr (.inl fr)))] H → va_D A [(hd, .inr (0, [.ref ou, .ref nx, .ref sh, .int (nI oc), .int (nI oc), .int (nI sr), .int (nI ss)])), (ou, .inl (cI, 16, .inl (fun j => nI (gO j)))), (nx, .inl (cI, 4, .inl (fun j => nI (gN j)))), (sh, .inl (cI, 16, .inl (shF fr gO fS k oc))), (hn, .inr (1, [.int (nI cnt), .ref ow, .ref fi, .ref ro])), (ow, .inl (cI, 400, .inl fo)), (fi, .inl (cI, 400, .inl ff)), (ro, .inl (cJ, len, .inr (.inl fr)))] → va_S A s.heap H locs → lv_has ls 7 [(6, .int (nI j)), (5, .int (nI (stF fr gN k j))), (4, .int (nI k)), (0, .ref hd), (1, .ref hn), (2, .int inp), (3, .int (nI lc))] → W p l e (headSpec wsX0_runStep { frames := 2, cells := 0, slots := 0, locals := 47 }).room s m ([.ref hd, .ref hn, .int inp, .int (nI lc)] : List Value).toArray below meth c H locs 0 0 (MQ below (wx (Su := Unit) D [(cI, .int), (cJ, .long)] A (fun _ => none) (fun _ => True) (fun _ => dW hd ou nx sh cI oc oc sr (stF fr gN k lc) gO gN (shF fr gO fS k oc) ++ nW hn ow fi ro cI cJ cnt len fo ff fr)) ([.ref hd, .ref hn, .int inp, .int (nI lc)] : List Value).toArray s 0 0 A) (F0 m 67 ls []) := by
          intro n
          induction n with
          | zero => intro j hj hM; exact absurd hM (Nat.not_lt_zero _)
          | succ n ih =>
            intro j hj hM H locs ls hP hD hS hl
            have hsl := stF_lt fr gN k j
            have hp : 2 ^ j ≤ 2 ^ 4 := Nat.pow_le_pow_right (by omega) (by omega)
            refine lv_iload hx hb dX0_runStep_67 (lv_at hl 0 rfl) ?_
            refine lv_iload_n hx hb dX0_runStep_69 rfl (lv_at hl 6 rfl) ?_
            refine lv_icmp_ge (tgt := 100) hx hb dX0_runStep_70 (by decide) (fun c2 => ?_) (fun c2 => ?_)
            · have c2 : lc ≤ j := (nI_leI (by omega) (by omega)).mp c2
              have hj2 : j = lc := by omega
              refine lv_aload_n hx hb dX0_runStep_100 rfl (lv_at hl 3 rfl) ?_
              refine lv_iload hx hb dX0_runStep_101 (lv_at hl 1 rfl) ?_
              refine va_put (D := D) (ci := 0) (v := .int (nI (stF fr gN k j))) (ty := .int) (C := RX0) (T := TX0) (N := 7) hx hb hts hin0 tyX0 tyX0_ok nmX0 hown hK hP hD hS 0 rfl rfl 6 (by decide) kf28 (fun _ h9 => h9) rfl (by decide +kernel) rfl rfl (Nat.le_of_ble_eq_true rfl) dX0_runStep_103 (fun H locs hP hD hS => ?_)
              have hP : va_P D vwCl [(hd, .inr (0, [.ref ou, .ref nx, .ref sh, .int (nI oc), .int (nI oc), .int (nI sr), .int (nI (stF fr gN k j))])), (ou, .inl (cI, 16, .inl (fun j => nI (gO j)))), (nx, .inl (cI, 4, .inl (fun j => nI (gN j)))), (sh, .inl (cI, 16, .inl (shF fr gO fS k oc))), (hn, .inr (1, [.int (nI cnt), .ref ow, .ref fi, .ref ro])), (ow, .inl (cI, 400, .inl fo)), (fi, .inl (cI, 400, .inl ff)), (ro, .inl (cJ, len, .inr (.inl fr)))] H := hP
              have hD : va_D A [(hd, .inr (0, [.ref ou, .ref nx, .ref sh, .int (nI oc), .int (nI oc), .int (nI sr), .int (nI (stF fr gN k j))])), (ou, .inl (cI, 16, .inl (fun j => nI (gO j)))), (nx, .inl (cI, 4, .inl (fun j => nI (gN j)))), (sh, .inl (cI, 16, .inl (shF fr gO fS k oc))), (hn, .inr (1, [.int (nI cnt), .ref ow, .ref fi, .ref ro])), (ow, .inl (cI, 400, .inl fo)), (fi, .inl (cI, 400, .inl ff)), (ro, .inl (cJ, len, .inr (.inl fr)))] := hD
              rw [hj2] at hP hD
              exact wr_v (()) hx hb hr hlocks hP hD hS dX0_runStep_106 (rfl) (trivial)
            · have c2 : ¬ (lc ≤ j) := fun h => c2 ((nI_leI (by omega) (by omega)).mpr h)
              refine lv_iload hx hb dX0_runStep_73 (lv_at hl 1 rfl) ?_
              refine lv_aload_n hx hb dX0_runStep_75 rfl (lv_at hl 4 rfl) ?_
              refine lv_aload_n hx hb dX0_runStep_76 rfl (lv_at hl 3 rfl) ?_
              refine va_get (D := D) (ci := 0) (v := .ref nx) (C := RX0) (T := TX0) (N := 7) hx hb hts hin0 hown hK hP 0 rfl rfl 1 (by decide) kf15 (fun _ h9 => h9) rfl dX0_runStep_77 ?_
              refine lv_iload hx hb dX0_runStep_80 (lv_at hl 0 rfl) ?_
              refine va_iald hx hb hK hP 2 0 rfl rfl (vp_in_nI (by omega) (by omega)) dX0_runStep_82 ?_
              refine tp_i (show (fun j => nI (gN j)) (nI j).toNatClampNeg = nI (gN j) from congrArg (fun j => nI (gN j)) (nI_clamp (by omega))) ?_
              refine lv_iload hx hb dX0_runStep_83 (lv_at hl 2 rfl) ?_
              refine rd_V (As := [.int (nI (gN j)), .int (nI k)]) (rest := [.int (nI (stF fr gN k j))]) ⟨hx, hb, hml, hown, hts⟩ (c_X1_valueIn l D cI cJ hn ow fi ro cnt len fo ff fr (gN j) (nI k) k hka hk2 (hN j (by omega)) h2) (cwV 2 hts gX0_runStep_X1_valueIn rfl rfl rfl (by decide +kernel) ⟨Nat.le_of_ble_eq_true rfl, Nat.le_of_ble_eq_true rfl⟩) (rd_pv (ci := 1) (q0 := 0) hK (hP.sub (ws' := [(hn, .inr (1, [.int (nI cnt), .ref ow, .ref fi, .ref ro])), (ow, .inl (cI, 400, .inl fo)), (fi, .inl (cI, 400, .inl ff)), (ro, .inl (cJ, len, .inr (.inl fr)))]) [4, 5, 6, 7] rfl) rfl rfl) rfl hl.1 rfl (Nat.le_of_ble_eq_true rfl) dX0_runStep_85 ⟨by show _ ≤ _; simp only [headSpec]; omega, by show _ ≤ _; simp only [headSpec]; omega⟩ ?_
              refine lv_iload hx hb dX0_runStep_88 (lv_at hl 0 rfl) ?_
              refine lv_ishl hx hb dX0_runStep_90 ?_
              refine tp_i (show (zI (bt fr (gN j) k)) <<< ((nI j) &&& 31) = nI ((bt fr (gN j) k).toNat * 2 ^ j) from zI_shl (by omega)) ?_
              refine lv_ior hx hb dX0_runStep_91 ?_
              refine tp_i (show (nI (stF fr gN k j)) ||| (nI ((bt fr (gN j) k).toNat * 2 ^ j)) = nI (stF fr gN k j ||| (bt fr (gN j) k).toNat * 2 ^ j) from n_or _ _) ?_
              refine lv_istore (lv' := [(5, .int (nI (stF fr gN k j ||| (bt fr (gN j) k).toNat * 2 ^ j))), (6, .int (nI j)), (4, .int (nI k)), (0, .ref hd), (1, .ref hn), (2, .int inp), (3, .int (nI lc))]) hx hb dX0_runStep_92 hl (by decide) rfl (fun ls hl => ?_)
              refine lv_iinc (v := nI (j + 1)) (lv' := [(6, .int (nI (j + 1))), (5, .int (nI (stF fr gN k j ||| (bt fr (gN j) k).toNat * 2 ^ j))), (4, .int (nI k)), (0, .ref hd), (1, .ref hn), (2, .int inp), (3, .int (nI lc))]) hx hb dX0_runStep_94 hl (k := 1) rfl (nI_add j 1) (by decide) rfl (fun ls hl => ?_)
              refine lv_goto (tgt := 67) hx hb dX0_runStep_97 (by decide) ?_
              exact ih (j + 1) (by omega) (by omega) _ _ ls hP hD hS (by rw [show stF fr gN k (j + 1) = stF fr gN k j ||| (bt fr (gN j) k).toNat * 2 ^ j from rfl]; exact lv_sub hl [0, 1, 2, 3, 4, 5, 6] rfl)
        exact loop2 (lc - 0 + 1) 0 (by omega) (by omega) _ _ ls hP hD hS (lv_sub hl [0, 1, 2, 3, 4, 5, 6] rfl)
      · have c1 : ¬ (oc ≤ i) := fun h => c1 ((nI_leI (by omega) (by omega)).mpr h)
        refine lv_aload_n hx hb dX0_runStep_27 rfl (lv_at hl 2 rfl) ?_
        refine va_get (D := D) (ci := 0) (v := .ref sh) (C := RX0) (T := TX0) (N := 7) hx hb hts hin0 hown hK hP 0 rfl rfl 2 (by decide) kf18 (fun _ h9 => h9) rfl dX0_runStep_28 ?_
        refine lv_iload hx hb dX0_runStep_31 (lv_at hl 0 rfl) ?_
        refine lv_aload_n hx hb dX0_runStep_33 rfl (lv_at hl 3 rfl) ?_
        refine lv_aload_n hx hb dX0_runStep_34 rfl (lv_at hl 2 rfl) ?_
        refine va_get (D := D) (ci := 0) (v := .ref ou) (C := RX0) (T := TX0) (N := 7) hx hb hts hin0 hown hK hP 0 rfl rfl 0 (by decide) kf9 (fun _ h9 => h9) rfl dX0_runStep_35 ?_
        refine lv_iload hx hb dX0_runStep_38 (lv_at hl 0 rfl) ?_
        refine va_iald hx hb hK hP 1 0 rfl rfl (vp_in_nI (by omega) (by omega)) dX0_runStep_40 ?_
        refine tp_i (show (fun j => nI (gO j)) (nI i).toNatClampNeg = nI (gO i) from congrArg (fun j => nI (gO j)) (nI_clamp (by omega))) ?_
        refine lv_iload hx hb dX0_runStep_41 (lv_at hl 1 rfl) ?_
        refine rd_V (As := [.int (nI (gO i)), .int (nI k)]) (rest := [.int (nI i), .ref sh]) ⟨hx, hb, hml, hown, hts⟩ (c_X1_valueIn l D cI cJ hn ow fi ro cnt len fo ff fr (gO i) (nI k) k hka hk2 (hO i (by omega)) h2) (cwV 2 hts gX0_runStep_X1_valueIn rfl rfl rfl (by decide +kernel) ⟨Nat.le_of_ble_eq_true rfl, Nat.le_of_ble_eq_true rfl⟩) (rd_pv (ci := 1) (q0 := 0) hK (hP.sub (ws' := [(hn, .inr (1, [.int (nI cnt), .ref ow, .ref fi, .ref ro])), (ow, .inl (cI, 400, .inl fo)), (fi, .inl (cI, 400, .inl ff)), (ro, .inl (cJ, len, .inr (.inl fr)))]) [4, 5, 6, 7] rfl) rfl rfl) rfl hl.1 rfl (Nat.le_of_ble_eq_true rfl) dX0_runStep_43 ⟨by show _ ≤ _; simp only [headSpec]; omega, by show _ ≤ _; simp only [headSpec]; omega⟩ ?_
        refine va_iast hx hb hK hP hD hS 3 0 rfl rfl (vp_in_nI (by omega) (by omega)) dX0_runStep_46 (fun H locs hP hD hS => ?_)
        have hP : va_P D vwCl [(hd, .inr (0, [.ref ou, .ref nx, .ref sh, .int (nI oc), .int (nI sc), .int (nI sr), .int (nI ss)])), (ou, .inl (cI, 16, .inl (fun j => nI (gO j)))), (nx, .inl (cI, 4, .inl (fun j => nI (gN j)))), (sh, .inl (cI, 16, .inl (upd (shF fr gO fS k i) (nI i).toNatClampNeg (zI (bt fr (gO i) k))))), (hn, .inr (1, [.int (nI cnt), .ref ow, .ref fi, .ref ro])), (ow, .inl (cI, 400, .inl fo)), (fi, .inl (cI, 400, .inl ff)), (ro, .inl (cJ, len, .inr (.inl fr)))] H := hP
        have hD : va_D A [(hd, .inr (0, [.ref ou, .ref nx, .ref sh, .int (nI oc), .int (nI sc), .int (nI sr), .int (nI ss)])), (ou, .inl (cI, 16, .inl (fun j => nI (gO j)))), (nx, .inl (cI, 4, .inl (fun j => nI (gN j)))), (sh, .inl (cI, 16, .inl (upd (shF fr gO fS k i) (nI i).toNatClampNeg (zI (bt fr (gO i) k))))), (hn, .inr (1, [.int (nI cnt), .ref ow, .ref fi, .ref ro])), (ow, .inl (cI, 400, .inl fo)), (fi, .inl (cI, 400, .inl ff)), (ro, .inl (cJ, len, .inr (.inl fr)))] := hD
        rw [show upd (shF fr gO fS k i) (nI i).toNatClampNeg (zI (bt fr (gO i) k)) = shF fr gO fS k (i + 1) from shF_up (by omega)] at hP hD
        refine lv_iinc (v := nI (i + 1)) (lv' := [(5, .int (nI (i + 1))), (4, .int (nI k)), (0, .ref hd), (1, .ref hn), (2, .int inp), (3, .int (nI lc))]) hx hb dX0_runStep_47 hl (k := 0) rfl (nI_add i 1) (by decide) rfl (fun ls hl => ?_)
        refine lv_goto (tgt := 18) hx hb dX0_runStep_50 (by decide) ?_
        exact ih (i + 1) (by omega) (by omega) _ _ ls hP hD hS (lv_sub hl [0, 1, 2, 3, 4, 5] rfl)
  exact loop (oc - 0 + 1) 0 (by omega) (by omega) _ _ ls (by rw [shF_0]; exact hP) (by rw [shF_0]; exact hD) hS (lv_sub hl [0, 1, 2, 3, 4, 5] rfl)
end WDr
end
section
/-! Writers that are static; ends with a reference; the words of growth and of new rows. -/
section WB2
variable {p : Program} {l : Launch} {e : Env} {R : Room} {s : State} {m : MethodId} {args : Array Value} {below : List Frame} {meth : Method} {c : Code} {H : Heap} {locs : List Loc} {cells slots : Nat} {Q : State → Prop}
variable {cc : ByteArray} {pc : Nat} {ls : Array Slot} {rest st0 : List Value}
variable {y : MethodName} {bytes : ByteArray} {maxL nL n index mc ms : Nat} {ret : Option FieldType} {ws : List Cond} {rm : Room} {Ts : List Cond} {own C : String} {b : Addr} {As : List Value}
variable {D : va_G} {tys : List (ClassId × FieldType)} {ww wc wr : va_W} {tp : Nat} {A : Nat → Prop}
theorem wr_S {Su : Type} {o₀ : Su → Option Value} {post : Su → Prop} {wn : Su → va_W} (S : CallFix p m c cc nL s args Ts own) (hM : Met l y ws rm (wr_P D tys wc H.size tp As) (wx D tys (va_A wc H.size) o₀ post wn) mc ms (va_A wc H.size)) (cw : CallB R s args own index y bytes maxL ret ws rm mc ms n ∧ (Cond.static y).before args s = true)
    (hn : As.length = n) (hsize : ls.size = nL) (hstack : st0 = As.reverse ++ rest) (hW : (rest.map fun v => v.category).sum ≤ 8) (hdg : decode cc pc = .ok (.invokestatic index, 3)) (hf : cells + mc ≤ R.cells ∧ slots + ms ≤ R.slots)
    (hK : va_K D vwCl tys s) (hP : va_P D vwCl ww H) (hD : va_D A ww) (hS : va_S A s.heap H locs) (hA : ∀ q, s.heap.size ≤ q → A q) (hE : EV tp A s s.heap) (isC isR : List Nat) (hC : isC.map (fun i => ww[i]?) = wc.map some) (hR : isR.map (fun i => ww[i]?) = wr.map some) (hnC : va_nd isC = true) (hn1 : va_nd isR = true) (hdis : ∀ i ∈ isR, i ∉ isC)
    (kk : ∀ (u : Su) (H1 : Heap) (locs1 : List Loc), post u → va_P D vwCl (wr ++ wn u) H1 → va_D A (wr ++ wn u) → va_S A s.heap H1 locs1 → W p l e R s m args below meth c H1 locs1 (cells + mc) (slots + ms) Q (F0 m (pc + 3) ls ((o₀ u).toList ++ rest))) : W p l e R s m args below meth c H locs cells slots Q (F0 m pc ls st0) :=
  wr_after (As := As) (g := F0 m pc ls st0) (va_runS (g := F0 m pc ls st0) S hM cw ⟨wr_blind, wr_pre hK hP hD hS hA hE isC hC hnC⟩ rfl hn hsize hstack (lv_room hW) hdg hf) hP hD hS hA isC isR hC hR hn1 hdis kk
theorem wr_a {Su : Type} {o₀ : Su → Option Value} {post : Su → Prop} {wn : Su → va_W} {v : Nat} {rt : FieldType} (u : Su) (hx : p.tables.exec = Jvm.exec) (hb : c.code = cc) (hr : meth.sig.returnType = some rt) (hrt : (∃ n, rt = .object n) ∨ ∃ t, rt = .array t) (hlocks : meth.locks = false) (hP : va_P D vwCl (wn u) H) (hD : va_D A (wn u)) (hS : va_S A s.heap H locs) (hdg : decode cc pc = .ok (.areturn, 1)) (h : some (.ref v) = o₀ u) (hq : post u) :
    W p l e R s m args below meth c H locs cells slots (MQ below (wx D tys A o₀ post wn) args s cells slots A) (F0 m pc ls [.ref v]) :=
  W.aret hx hb hr hrt (Or.inr ⟨v, rfl⟩) (fun t ht _ => ⟨u, by rw [h], hq, ⟨by rw [ht]; exact hP, hD⟩, hS.F ht⟩) hS.2.2 hdg hlocks
end WB2
/-- the rows' length behind growth; what it makes -/
def grL (cnt len : Nat) : Nat := if (cnt + 1) * 64 ≤ len then len else min (2 * len) 25600
def grS (cnt len : Nat) : Nat := if (cnt + 1) * 64 ≤ len then 0 else min (2 * len) 25600
/-- rows with the first i words of node cnt written -/
def rwF (fr : Nat → Int64) (cnt : Nat) (f : Nat → Int64) (i : Nat) : Nat → Int64 := fun j => if cnt * 64 ≤ j ∧ j < cnt * 64 + i then f (j - cnt * 64) else fr j
theorem rwF_0 {fr : Nat → Int64} {cnt : Nat} {f : Nat → Int64} : rwF fr cnt f 0 = fr := by
  funext j
  unfold rwF
  rw [if_neg (by omega)]
theorem rwF_up {fr : Nat → Int64} {cnt : Nat} {f : Nat → Int64} {i : Nat} (h : cnt * 64 + i < 2 ^ 31) {x : Int64} (hx : x = f i) : vp_updL (rwF fr cnt f i) (nI (cnt * 64 + i)).toNatClampNeg x = rwF fr cnt f (i + 1) := by
  rw [nI_clamp h, hx]
  funext j
  unfold vp_updL rwF
  by_cases h1 : j = cnt * 64 + i
  · subst h1
    rw [if_pos rfl, if_pos (by omega), show cnt * 64 + i - cnt * 64 = i by omega]
  · rw [if_neg h1]
    by_cases h2 : cnt * 64 ≤ j ∧ j < cnt * 64 + i
    · rw [if_pos h2, if_pos (by omega)]
    · rw [if_neg h2, if_neg (by omega)]
theorem rwF_lo {fr : Nat → Int64} {cnt : Nat} {f : Nat → Int64} {i j : Nat} (h : j < cnt * 64) : rwF fr cnt f i j = fr j := by
  unfold rwF; rw [if_neg (by omega)]
theorem rwF_hi {fr : Nat → Int64} {cnt : Nat} {f : Nat → Int64} {i w : Nat} (h : w < i) : rwF fr cnt f i (cnt * 64 + w) = f w := by
  unfold rwF; rw [if_pos (by omega), show cnt * 64 + w - cnt * 64 = w by omega]
theorem wd_congr {fr gr : Nat → Int64} {lit w : Nat} (h : fr (lit / 2 * 64 + w) = gr (lit / 2 * 64 + w)) : wd fr lit w = wd gr lit w := by unfold wd; rw [h]
theorem min_I {a b : Nat} (ha : a < 2 ^ 31) (hb : b < 2 ^ 31) : (if nI b < nI a then nI b else nI a) = nI (min a b) := by
  by_cases h : b < a
  · rw [if_pos (nI_lt h ha), Nat.min_eq_right (by omega)]
  · rw [if_neg (nI_nlt (by omega) hb), Nat.min_eq_left (by omega)]
end
section
/-! Nodes: what writes. -/
section WN
variable (l : Launch) (D : va_G) (cI cJ : ClassId) (tp : Nat) (hn ow fi ro cnt len : Nat) (fo ff : Nat → Int32) (fr : Nat → Int64)
set_option maxHeartbeats 4000000 in
set_option maxRecDepth 100000 in
/-- node 0 alone -/
theorem w_X1_forget  (sz : Nat) : Met l yX1_forget wsX1_forget { frames := 0, cells := 0, slots := 0, locals := 0 } (wr_P D [(cI, .int), (cJ, .long)] (nW hn ow fi ro cI cJ cnt len fo ff fr) sz tp [.ref hn]) (wx (Su := Unit) D [(cI, .int), (cJ, .long)] (va_A (nW hn ow fi ro cI cJ cnt len fo ff fr) sz) (fun _ => none) (fun _ => True) (fun _ => nW hn ow fi ro cI cJ 1 len fo ff fr)) 0 0 (va_A (nW hn ow fi ro cI cJ cnt len fo ff fr) sz) := by
  refine Met.ofW (cc := cX1_forget) (maxL := 1) (ret := none) (by decide) rfl ?_
  intro p e s m args below meth c s₁ B hml hv
  obtain ⟨rfl, hsz, ⟨hP, hK, hD0⟩, hE⟩ := hv
  have hx := B.exec
  have hb := B.bytes
  have hr := B.returns
  have hts := atoms_spec (ws := wsX1_forget) B.pre
  have hown : s.vm.findClass RX1 = some m.cls := findClass_of_methodNamed B.named
  have hlocks := B.notSynchronized
  subst hsz
  have hD := hD0.self (sz := s.heap.size)
  generalize hAe : va_A (nW hn ow fi ro cI cJ cnt len fo ff fr) s.heap.size = A at hD hE ⊢
  have hA : ∀ q : Nat, s.heap.size ≤ q → A q := fun q h => by rw [← hAe]; exact Or.inr h
  have hS : va_S A s.heap s.heap [] := va_S.rf
  have hP : va_P D vwCl [(hn, .inr (1, [.int (nI cnt), .ref ow, .ref fi, .ref ro])), (ow, .inl (cI, 400, .inl fo)), (fi, .inl (cI, 400, .inl ff)), (ro, .inl (cJ, len, .inr (.inl fr)))] s.heap := hP
  have hD : va_D A [(hn, .inr (1, [.int (nI cnt), .ref ow, .ref fi, .ref ro])), (ow, .inl (cI, 400, .inl fo)), (fi, .inl (cI, 400, .inl ff)), (ro, .inl (cJ, len, .inr (.inl fr)))] := hD
  have hl := lv_entry ([.ref hn]) (n := 1) (Nat.le_of_ble_eq_true rfl)
  rw [lg_entry_eq]
  generalize (lg_sl ([.ref hn]) ++ List.replicate (1 - (lg_sl ([.ref hn])).length) Slot.unset).toArray = ls at hl ⊢
  have hl : lv_has ls 1 [(0, .ref hn)] := hl
  have hin1 : ∀ w ∈ wsX10, w ∈ wsX1_forget := by decide +kernel
  have kf11 := hts (.fieldLink RX1 11 "SweepEqual$Nodes" "count" "I") (by decide +kernel)
  refine lv_aload_n hx hb dX1_forget_0 rfl (lv_at hl 0 rfl) ?_
  refine lv_iconst (v := nI 1) hx hb dX1_forget_1 (by decide) ?_
  refine va_put (D := D) (ci := 1) (v := .int (nI 1)) (ty := .int) (C := RX1) (T := TX1) (N := 4) hx hb hts hin1 tyX1 tyX1_ok nmX1 hown hK hP hD hS 0 rfl rfl 0 (by decide) kf11 (fun _ h9 => h9) rfl (by decide +kernel) rfl rfl (Nat.le_of_ble_eq_true rfl) dX1_forget_2 (fun H locs hP hD hS => ?_)
  have hP : va_P D vwCl [(hn, .inr (1, [.int (nI 1), .ref ow, .ref fi, .ref ro])), (ow, .inl (cI, 400, .inl fo)), (fi, .inl (cI, 400, .inl ff)), (ro, .inl (cJ, len, .inr (.inl fr)))] H := hP
  have hD : va_D A [(hn, .inr (1, [.int (nI 1), .ref ow, .ref fi, .ref ro])), (ow, .inl (cI, 400, .inl fo)), (fi, .inl (cI, 400, .inl ff)), (ro, .inl (cJ, len, .inr (.inl fr)))] := hD
  exact wr_v (()) hx hb hr hlocks hP hD hS dX1_forget_5 (rfl) (trivial)
set_option maxHeartbeats 4000000 in
set_option maxRecDepth 100000 in
/-- new nodes: FALSE alone -/
theorem w_X1_init  (sz : Nat) : Met l yX1_init wsX1_init { frames := 1, cells := 3, slots := 2848, locals := 12 } (wr_P D [(cI, .int), (cJ, .long)] [(hn, .inr (1, [.int 0, .null, .null, .null]))] sz tp [.ref hn]) (wx (Su := Nat × Nat × Nat) D [(cI, .int), (cJ, .long)] (va_A [(hn, .inr (1, [.int 0, .null, .null, .null]))] sz) (fun _ => none) (fun _ => True) (fun u => nW hn u.1 u.2.1 u.2.2 cI cJ 1 2048 (upd (fun _ => 0) 0 (-1)) (fun _ => 0) (fun _ => 0))) 3 2848 (va_A [(hn, .inr (1, [.int 0, .null, .null, .null]))] sz) := by
  refine Met.ofW (cc := cX1_init) (maxL := 1) (ret := none) (by decide) rfl ?_
  intro p e s m args below meth c s₁ B hml hv
  obtain ⟨rfl, hsz, ⟨hP, hK, hD0⟩, hE⟩ := hv
  have hx := B.exec
  have hb := B.bytes
  have hr := B.returns
  have hts := atoms_spec (ws := wsX1_init) B.pre
  have hown : s.vm.findClass RX1 = some m.cls := findClass_of_methodNamed B.named
  have hlocks := B.notSynchronized
  have hin : meth.name = "<init>" := (name_of_methodNamed B.named B.method).1
  subst hsz
  have hD := hD0.self (sz := s.heap.size)
  generalize hAe : va_A [(hn, .inr (1, [.int 0, .null, .null, .null]))] s.heap.size = A at hD hE ⊢
  have hA : ∀ q : Nat, s.heap.size ≤ q → A q := fun q h => by rw [← hAe]; exact Or.inr h
  have hS : va_S A s.heap s.heap [] := va_S.rf
  have hP : va_P D vwCl [(hn, .inr (1, [.int 0, .null, .null, .null]))] s.heap := hP
  have hD : va_D A [(hn, .inr (1, [.int 0, .null, .null, .null]))] := hD
  have hl := lv_entry ([.ref hn]) (n := 1) (Nat.le_of_ble_eq_true rfl)
  rw [lg_entry_eq]
  generalize (lg_sl ([.ref hn]) ++ List.replicate (1 - (lg_sl ([.ref hn])).length) Slot.unset).toArray = ls at hl ⊢
  have hl : lv_has ls 1 [(0, .ref hn)] := hl
  have hin1 : ∀ w ∈ wsX10, w ∈ wsX1_init := by decide +kernel
  have kf11 := hts (.fieldLink RX1 11 "SweepEqual$Nodes" "count" "I") (by decide +kernel)
  have kf15 := hts (.fieldLink RX1 15 "SweepEqual$Nodes" "owners" "[I") (by decide +kernel)
  have kf19 := hts (.fieldLink RX1 19 "SweepEqual$Nodes" "firsts" "[I") (by decide +kernel)
  have kf22 := hts (.fieldLink RX1 22 "SweepEqual$Nodes" "rows" "[J") (by decide +kernel)
  refine lv_aload_n hx hb dX1_init_0 rfl (lv_at hl 0 rfl) ?_
  have a1 := hts (.methodLink RX1 5 objectInit) (by decide +kernel)
  have a2 := hts (.instanceMethod objectInit) (by decide +kernel)
  have a3 : (Cond.code objectInit ⟨#[0xb1]⟩ 1 none).before ([.ref hn] : List Value).toArray s = true := hts _ (List.mem_of_getElem? (l := wsX1_init) (i := 3) rfl)
  refine W.objInit hx hb hown a1 a2 a3 rfl (by rw [hml]; exact hl.1) rfl dX1_init_1 (Nat.le_of_ble_eq_true rfl) (by show 12 ≤ 12; omega) ?_
  refine W.eq (g2 := F0 m 4 ls []) rfl ?_
  refine lv_aload_n hx hb dX1_init_4 rfl (lv_at hl 0 rfl) ?_
  refine lv_iconst (v := nI 1) hx hb dX1_init_5 (by decide) ?_
  refine va_put (D := D) (ci := 1) (v := .int (nI 1)) (ty := .int) (C := RX1) (T := TX1) (N := 4) hx hb hts hin1 tyX1 tyX1_ok nmX1 hown hK hP hD hS 0 rfl rfl 0 (by decide) kf11 (fun _ h9 => h9) rfl (by decide +kernel) rfl rfl (Nat.le_of_ble_eq_true rfl) dX1_init_6 (fun H locs hP hD hS => ?_)
  have hP : va_P D vwCl [(hn, .inr (1, [.int (nI 1), .null, .null, .null]))] H := hP
  have hD : va_D A [(hn, .inr (1, [.int (nI 1), .null, .null, .null]))] := hD
  refine lv_aload_n hx hb dX1_init_9 rfl (lv_at hl 0 rfl) ?_
  refine lv_sipush (v := nI 400) hx hb dX1_init_10 (by decide) ?_
  refine va_newa (atype := .int) (ty := .int) (N' := 400) (n := nI 400) (a0 := (400, .inl (fun _ => 0))) hx hb (hts (.arrayClass .int) (by decide +kernel)) rfl hK hP hD hS hA (fun _ => rfl) (nI_pos (by omega)) (nI_clamp (by omega)) (by simp only [componentBytes]; omega) (by show _ ≤ _; simp only [headSpec]; omega) (by show _ ≤ _; simp only [headSpec]; omega) dX1_init_13 (fun q_1 cA H hK9 hP hD hS => ?_)
  obtain rfl : cI = cA := arr_cls hK9 0 2 rfl rfl (fun _ h => h)
  clear hK9
  have hP : va_P D vwCl [(hn, .inr (1, [.int (nI 1), .null, .null, .null])), (q_1, .inl (cI, 400, .inl (fun _ => 0)))] H := hP
  have hD : va_D A [(hn, .inr (1, [.int (nI 1), .null, .null, .null])), (q_1, .inl (cI, 400, .inl (fun _ => 0)))] := hD
  refine W.widen (k := 1) (n := 400) (by omega) (by omega) ?_
  refine va_putF (D := D) (ci := 1) (v := .ref q_1) (ty := .array .int) (C := RX1) (T := TX1) (N := 4) hx hb hts hin1 tyX1 tyX1_ok nmX1 hown hK hP hD hS 0 rfl rfl 1 (by decide) kf15 (fun _ h9 => h9) rfl hin rfl (by decide +kernel) rfl rfl (Nat.le_of_ble_eq_true rfl) dX1_init_15 (fun H locs hP hD hS => ?_)
  have hP : va_P D vwCl [(hn, .inr (1, [.int (nI 1), .ref q_1, .null, .null])), (q_1, .inl (cI, 400, .inl (fun _ => 0)))] H := hP
  have hD : va_D A [(hn, .inr (1, [.int (nI 1), .ref q_1, .null, .null])), (q_1, .inl (cI, 400, .inl (fun _ => 0)))] := hD
  refine lv_aload_n hx hb dX1_init_18 rfl (lv_at hl 0 rfl) ?_
  refine va_get (D := D) (ci := 1) (v := .ref q_1) (C := RX1) (T := TX1) (N := 4) hx hb hts hin1 hown hK hP 0 rfl rfl 1 (by decide) kf15 (fun _ h9 => h9) rfl dX1_init_19 ?_
  refine lv_iconst (v := nI 0) hx hb dX1_init_22 (by decide) ?_
  refine lv_iconst (v := -1) hx hb dX1_init_23 (by decide) ?_
  refine va_iast hx hb hK hP hD hS 1 0 rfl rfl (vp_in_nI (by omega) (by omega)) dX1_init_24 (fun H locs hP hD hS => ?_)
  have hP : va_P D vwCl [(hn, .inr (1, [.int (nI 1), .ref q_1, .null, .null])), (q_1, .inl (cI, 400, .inl (upd (fun _ => 0) (nI 0).toNatClampNeg (-1))))] H := hP
  have hD : va_D A [(hn, .inr (1, [.int (nI 1), .ref q_1, .null, .null])), (q_1, .inl (cI, 400, .inl (upd (fun _ => 0) (nI 0).toNatClampNeg (-1))))] := hD
  rw [show upd (fun _ => 0) (nI 0).toNatClampNeg (-1) = upd (fun _ => 0) 0 (-1) from upI _ (by omega)] at hP hD
  refine lv_aload_n hx hb dX1_init_25 rfl (lv_at hl 0 rfl) ?_
  refine lv_sipush (v := nI 400) hx hb dX1_init_26 (by decide) ?_
  refine va_newa (atype := .int) (ty := .int) (N' := 400) (n := nI 400) (a0 := (400, .inl (fun _ => 0))) hx hb (hts (.arrayClass .int) (by decide +kernel)) rfl hK hP hD hS hA (fun _ => rfl) (nI_pos (by omega)) (nI_clamp (by omega)) (by simp only [componentBytes]; omega) (by show _ ≤ _; simp only [headSpec]; omega) (by show _ ≤ _; simp only [headSpec]; omega) dX1_init_29 (fun q_2 cA H hK9 hP hD hS => ?_)
  obtain rfl : cI = cA := arr_cls hK9 0 2 rfl rfl (fun _ h => h)
  clear hK9
  have hP : va_P D vwCl [(hn, .inr (1, [.int (nI 1), .ref q_1, .null, .null])), (q_1, .inl (cI, 400, .inl (upd (fun _ => 0) 0 (-1)))), (q_2, .inl (cI, 400, .inl (fun _ => 0)))] H := hP
  have hD : va_D A [(hn, .inr (1, [.int (nI 1), .ref q_1, .null, .null])), (q_1, .inl (cI, 400, .inl (upd (fun _ => 0) 0 (-1)))), (q_2, .inl (cI, 400, .inl (fun _ => 0)))] := hD
  refine W.widen (k := 2) (n := 800) (by omega) (by omega) ?_
  refine va_putF (D := D) (ci := 1) (v := .ref q_2) (ty := .array .int) (C := RX1) (T := TX1) (N := 4) hx hb hts hin1 tyX1 tyX1_ok nmX1 hown hK hP hD hS 0 rfl rfl 2 (by decide) kf19 (fun _ h9 => h9) rfl hin rfl (by decide +kernel) rfl rfl (Nat.le_of_ble_eq_true rfl) dX1_init_31 (fun H locs hP hD hS => ?_)
  have hP : va_P D vwCl [(hn, .inr (1, [.int (nI 1), .ref q_1, .ref q_2, .null])), (q_1, .inl (cI, 400, .inl (upd (fun _ => 0) 0 (-1)))), (q_2, .inl (cI, 400, .inl (fun _ => 0)))] H := hP
  have hD : va_D A [(hn, .inr (1, [.int (nI 1), .ref q_1, .ref q_2, .null])), (q_1, .inl (cI, 400, .inl (upd (fun _ => 0) 0 (-1)))), (q_2, .inl (cI, 400, .inl (fun _ => 0)))] := hD
  refine lv_aload_n hx hb dX1_init_34 rfl (lv_at hl 0 rfl) ?_
  refine lv_sipush (v := nI 2048) hx hb dX1_init_35 (by decide) ?_
  refine va_newa (atype := .long) (ty := .long) (N' := 2048) (n := nI 2048) (a0 := (2048, .inr (.inl (fun _ => 0)))) hx hb (hts (.arrayClass .long) (by decide +kernel)) rfl hK hP hD hS hA (fun _ => rfl) (nI_pos (by omega)) (nI_clamp (by omega)) (by simp only [componentBytes]; omega) (by show _ ≤ _; simp only [headSpec]; omega) (by show _ ≤ _; simp only [headSpec]; omega) dX1_init_38 (fun q_3 cA H hK9 hP hD hS => ?_)
  obtain rfl : cJ = cA := arr_cls hK9 1 2 rfl rfl (fun _ h => h)
  clear hK9
  have hP : va_P D vwCl [(hn, .inr (1, [.int (nI 1), .ref q_1, .ref q_2, .null])), (q_1, .inl (cI, 400, .inl (upd (fun _ => 0) 0 (-1)))), (q_2, .inl (cI, 400, .inl (fun _ => 0))), (q_3, .inl (cJ, 2048, .inr (.inl (fun _ => 0))))] H := hP
  have hD : va_D A [(hn, .inr (1, [.int (nI 1), .ref q_1, .ref q_2, .null])), (q_1, .inl (cI, 400, .inl (upd (fun _ => 0) 0 (-1)))), (q_2, .inl (cI, 400, .inl (fun _ => 0))), (q_3, .inl (cJ, 2048, .inr (.inl (fun _ => 0))))] := hD
  refine W.widen (k := 3) (n := 2848) (by omega) (by omega) ?_
  refine va_put (D := D) (ci := 1) (v := .ref q_3) (ty := .array .long) (C := RX1) (T := TX1) (N := 4) hx hb hts hin1 tyX1 tyX1_ok nmX1 hown hK hP hD hS 0 rfl rfl 3 (by decide) kf22 (fun _ h9 => h9) rfl (by decide +kernel) rfl rfl (Nat.le_of_ble_eq_true rfl) dX1_init_40 (fun H locs hP hD hS => ?_)
  have hP : va_P D vwCl [(hn, .inr (1, [.int (nI 1), .ref q_1, .ref q_2, .ref q_3])), (q_1, .inl (cI, 400, .inl (upd (fun _ => 0) 0 (-1)))), (q_2, .inl (cI, 400, .inl (fun _ => 0))), (q_3, .inl (cJ, 2048, .inr (.inl (fun _ => 0))))] H := hP
  have hD : va_D A [(hn, .inr (1, [.int (nI 1), .ref q_1, .ref q_2, .ref q_3])), (q_1, .inl (cI, 400, .inl (upd (fun _ => 0) 0 (-1)))), (q_2, .inl (cI, 400, .inl (fun _ => 0))), (q_3, .inl (cJ, 2048, .inr (.inl (fun _ => 0))))] := hD
  exact wr_v ((q_1, q_2, q_3)) hx hb hr hlocks hP hD hS dX1_init_43 (rfl) (trivial)
set_option maxHeartbeats 4000000 in
set_option maxRecDepth 100000 in
/-- Arrays.copyOf to a greater length -/
theorem w_J7_copyOf_c38d5 (nl : Nat) (h1 : len < nl) (h2 : nl ≤ 25600) (sz : Nat) : Met l yJ7_copyOf_c38d5 wsJ7_copyOf_c38d5 { frames := 1, cells := 1, slots := nl, locals := 30 } (wr_P D [(cI, .int), (cJ, .long)] [(ro, .inl (cJ, len, .inr (.inl fr)))] sz tp [.ref ro, .int (nI nl)]) (wx (Su := Nat) D [(cI, .int), (cJ, .long)] (va_A [(ro, .inl (cJ, len, .inr (.inl fr)))] sz) (fun u => some (.ref u)) (fun _ => True) (fun u => [(ro, .inl (cJ, len, .inr (.inl fr))), (u, .inl (cJ, nl, .inr (.inl (va_cpy fr (fun _ => 0) 0 0 len))))])) 1 nl (va_A [(ro, .inl (cJ, len, .inr (.inl fr)))] sz) := by
  refine Met.ofW (cc := cJ7_copyOf_c38d5) (maxL := 3) (ret := (some (.array .long))) (by decide) rfl ?_
  intro p e s m args below meth c s₁ B hml hv
  obtain ⟨rfl, hsz, ⟨hP, hK, hD0⟩, hE⟩ := hv
  have hx := B.exec
  have hb := B.bytes
  have hr := B.returns
  have hts := atoms_spec (ws := wsJ7_copyOf_c38d5) B.pre
  have hown : s.vm.findClass RJ7 = some m.cls := findClass_of_methodNamed B.named
  have hlocks := B.notSynchronized
  subst hsz
  have hD := hD0.self (sz := s.heap.size)
  generalize hAe : va_A [(ro, .inl (cJ, len, .inr (.inl fr)))] s.heap.size = A at hD hE ⊢
  have hA : ∀ q : Nat, s.heap.size ≤ q → A q := fun q h => by rw [← hAe]; exact Or.inr h
  have hS : va_S A s.heap s.heap [] := va_S.rf
  have hP : va_P D vwCl [(ro, .inl (cJ, len, .inr (.inl fr)))] s.heap := hP
  have hD : va_D A [(ro, .inl (cJ, len, .inr (.inl fr)))] := hD
  have hl := lv_entry ([.ref ro, .int (nI nl)]) (n := 3) (Nat.le_of_ble_eq_true rfl)
  rw [lg_entry_eq]
  generalize (lg_sl ([.ref ro, .int (nI nl)]) ++ List.replicate (3 - (lg_sl ([.ref ro, .int (nI nl)])).length) Slot.unset).toArray = ls at hl ⊢
  have hl : lv_has ls 3 [(0, .ref ro), (1, .int (nI nl))] := hl
  refine lv_iload_n hx hb dJ7_copyOf_c38d5_0 rfl (lv_at hl 1 rfl) ?_
  refine lv_aload_n hx hb dJ7_copyOf_c38d5_1 rfl (lv_at hl 0 rfl) ?_
  refine va_alen (v := nI len) hx hb hK hP 0 1 rfl rfl rfl dJ7_copyOf_c38d5_2 ?_
  refine lv_icmp_ne (tgt := 14) hx hb dJ7_copyOf_c38d5_3 (by decide) (fun c1 => ?_) (fun c1 => ?_)
  · have c1 : ¬ nl = len := fun h => c1 ((nI_eq (by omega) (by omega)).mpr h)
    refine lv_iload_n hx hb dJ7_copyOf_c38d5_14 rfl (lv_at hl 1 rfl) ?_
    refine va_newa (atype := .long) (ty := .long) (N' := nl) (n := nI nl) (a0 := (nl, .inr (.inl (fun _ => 0)))) hx hb (hts (.arrayClass .long) (by decide +kernel)) rfl hK hP hD hS hA (fun _ => rfl) (nI_pos (by omega)) (nI_clamp (by omega)) (by simp only [componentBytes]; omega) (by show _ ≤ _; simp only [headSpec]; omega) (by show _ ≤ _; simp only [headSpec]; omega) dJ7_copyOf_c38d5_15 (fun q9 cA H hK9 hP hD hS => ?_)
    obtain rfl : cJ = cA := arr_cls hK9 1 2 rfl rfl (fun _ h => h)
    clear hK9
    have hP : va_P D vwCl [(ro, .inl (cJ, len, .inr (.inl fr))), (q9, .inl (cJ, nl, .inr (.inl (fun _ => 0))))] H := hP
    have hD : va_D A [(ro, .inl (cJ, len, .inr (.inl fr))), (q9, .inl (cJ, nl, .inr (.inl (fun _ => 0))))] := hD
    refine W.widen (k := 1) (n := nl) (by omega) (by omega) ?_
    refine lv_astore_n (lv' := [(2, .ref q9), (0, .ref ro), (1, .int (nI nl))]) hx hb dJ7_copyOf_c38d5_17 rfl hl (by decide) rfl (fun ls hl => ?_)
    refine lv_aload_n hx hb dJ7_copyOf_c38d5_18 rfl (lv_at hl 1 rfl) ?_
    refine lv_iconst (v := nI 0) hx hb dJ7_copyOf_c38d5_19 (by decide) ?_
    refine lv_aload_n hx hb dJ7_copyOf_c38d5_20 rfl (lv_at hl 0 rfl) ?_
    refine lv_iconst (v := nI 0) hx hb dJ7_copyOf_c38d5_21 (by decide) ?_
    refine lv_aload_n hx hb dJ7_copyOf_c38d5_22 rfl (lv_at hl 1 rfl) ?_
    refine va_alen (v := nI len) hx hb hK hP 0 1 rfl rfl rfl dJ7_copyOf_c38d5_23 ?_
    refine lv_iload_n hx hb dJ7_copyOf_c38d5_24 rfl (lv_at hl 2 rfl) ?_
    refine va_mmin hx hb (by rw [hml]; exact hl.1.symm) hown (hts (.methodLink RJ7 304 Lib.Math.min.name) (by decide +kernel)) (hts (.static Lib.Math.min.name) (by decide +kernel)) (hts (.initialized "java/lang/Math") (by decide +kernel)) (hts (.code Lib.Math.min.name Lib.Math.min.code 2 (some .int)) (by decide +kernel)) (Nat.le_of_ble_eq_true rfl) (Nat.le_of_ble_eq_true rfl) (by show _ ≤ _; simp only [headSpec]; omega) (by show _ ≤ _; simp only [headSpec]; omega) dJ7_copyOf_c38d5_25 ?_
    refine tp_i (show (if nI nl < nI len then nI nl else nI len) = nI (min len nl) from min_I (by omega) (by omega)) ?_
    refine tp_i (show nI (min len nl) = nI len from congrArg nI (Nat.min_eq_left (by omega))) ?_
    refine va_copyl hx hb (by rw [hml]; exact hl.1.symm) hown (hts (.methodLink RJ7 150 arraycopyName) (by decide +kernel)) (hts (.native arraycopyName) (by decide +kernel)) (hts (.static arraycopyName) (by decide +kernel)) (hts (.initialized "java/lang/System") (by decide +kernel)) hK hP hD hS 0 1 1 1 rfl rfl rfl rfl rfl (nI_pos (by omega)) (nI_pos (by omega)) (nI_pos (by omega)) (by rw [nI_clamp (by omega), nI_clamp (by omega)]; omega) (by rw [nI_clamp (by omega), nI_clamp (by omega)]; omega) (fun _ _ => rfl) (Nat.le_of_ble_eq_true rfl) (Nat.le_of_ble_eq_true rfl) dJ7_copyOf_c38d5_28 (fun H locs hP hD hS => ?_)
    have hP : va_P D vwCl [(ro, .inl (cJ, len, .inr (.inl fr))), (q9, .inl (cJ, nl, .inr (.inl (va_cpy fr (fun _ => 0) (nI 0).toNatClampNeg (nI 0).toNatClampNeg (nI len).toNatClampNeg))))] H := hP
    have hD : va_D A [(ro, .inl (cJ, len, .inr (.inl fr))), (q9, .inl (cJ, nl, .inr (.inl (va_cpy fr (fun _ => 0) (nI 0).toNatClampNeg (nI 0).toNatClampNeg (nI len).toNatClampNeg))))] := hD
    rw [show (nI 0).toNatClampNeg = 0 from nI_clamp (by omega), show (nI len).toNatClampNeg = len from nI_clamp (by omega)] at hP hD
    refine lv_aload_n hx hb dJ7_copyOf_c38d5_31 rfl (lv_at hl 0 rfl) ?_
    exact wr_a q9 hx hb hr (Or.inr ⟨_, rfl⟩) hlocks hP hD hS dJ7_copyOf_c38d5_32 rfl trivial
  · have c1 : nl = len := (nI_eq (by omega) (by omega)).mp c1
    exact absurd c1 (by omega)
set_option maxHeartbeats 4000000 in
set_option maxRecDepth 100000 in
/-- room for a node more -/
theorem w_X1_growRows (h0 : cnt < 400) (h1 : 0 < len) (h2 : len ≤ 25600) (sz : Nat) : Met l yX1_growRows wsX1_growRows { frames := 2, cells := 1, slots := grS cnt len, locals := 52 } (wr_P D [(cI, .int), (cJ, .long)] (nW hn ow fi ro cI cJ cnt len fo ff fr) sz tp [.ref hn]) (wx (Su := Nat × (Nat → Int64)) D [(cI, .int), (cJ, .long)] (va_A (nW hn ow fi ro cI cJ cnt len fo ff fr) sz) (fun _ => none) (fun u => ∀ j, j < len → u.2 j = fr j) (fun u => nW hn ow fi u.1 cI cJ cnt (grL cnt len) fo ff u.2)) 1 (grS cnt len) (va_A (nW hn ow fi ro cI cJ cnt len fo ff fr) sz) := by
  refine Met.ofW (cc := cX1_growRows) (maxL := 1) (ret := none) (by decide) rfl ?_
  intro p e s m args below meth c s₁ B hml hv
  obtain ⟨rfl, hsz, ⟨hP, hK, hD0⟩, hE⟩ := hv
  have hx := B.exec
  have hb := B.bytes
  have hr := B.returns
  have hts := atoms_spec (ws := wsX1_growRows) B.pre
  have hown : s.vm.findClass RX1 = some m.cls := findClass_of_methodNamed B.named
  have hlocks := B.notSynchronized
  subst hsz
  have hD := hD0.self (sz := s.heap.size)
  generalize hAe : va_A (nW hn ow fi ro cI cJ cnt len fo ff fr) s.heap.size = A at hD hE ⊢
  have hA : ∀ q : Nat, s.heap.size ≤ q → A q := fun q h => by rw [← hAe]; exact Or.inr h
  have hS : va_S A s.heap s.heap [] := va_S.rf
  have hP : va_P D vwCl [(hn, .inr (1, [.int (nI cnt), .ref ow, .ref fi, .ref ro])), (ow, .inl (cI, 400, .inl fo)), (fi, .inl (cI, 400, .inl ff)), (ro, .inl (cJ, len, .inr (.inl fr)))] s.heap := hP
  have hD : va_D A [(hn, .inr (1, [.int (nI cnt), .ref ow, .ref fi, .ref ro])), (ow, .inl (cI, 400, .inl fo)), (fi, .inl (cI, 400, .inl ff)), (ro, .inl (cJ, len, .inr (.inl fr)))] := hD
  have hl := lv_entry ([.ref hn]) (n := 1) (Nat.le_of_ble_eq_true rfl)
  rw [lg_entry_eq]
  generalize (lg_sl ([.ref hn]) ++ List.replicate (1 - (lg_sl ([.ref hn])).length) Slot.unset).toArray = ls at hl ⊢
  have hl : lv_has ls 1 [(0, .ref hn)] := hl
  have hin1 : ∀ w ∈ wsX10, w ∈ wsX1_growRows := by decide +kernel
  have kf11 := hts (.fieldLink RX1 11 "SweepEqual$Nodes" "count" "I") (by decide +kernel)
  have kf22 := hts (.fieldLink RX1 22 "SweepEqual$Nodes" "rows" "[J") (by decide +kernel)
  refine lv_aload_n hx hb dX1_growRows_0 rfl (lv_at hl 0 rfl) ?_
  refine va_get (D := D) (ci := 1) (v := .int (nI cnt)) (C := RX1) (T := TX1) (N := 4) hx hb hts hin1 hown hK hP 0 rfl rfl 0 (by decide) kf11 (fun _ h9 => h9) rfl dX1_growRows_1 ?_
  refine lv_iconst (v := nI 1) hx hb dX1_growRows_4 (by decide) ?_
  refine lv_iadd hx hb dX1_growRows_5 ?_
  refine tp_i (show (nI cnt) + (nI 1) = nI (cnt + 1) from nI_add _ _) ?_
  refine lv_bipush (v := nI 64) hx hb dX1_growRows_6 (by decide) ?_
  refine lv_imul hx hb dX1_growRows_8 ?_
  refine tp_i (show (nI (cnt + 1)) * (nI 64) = nI ((cnt + 1) * 64) from pk_mul _ _) ?_
  refine lv_aload_n hx hb dX1_growRows_9 rfl (lv_at hl 0 rfl) ?_
  refine va_get (D := D) (ci := 1) (v := .ref ro) (C := RX1) (T := TX1) (N := 4) hx hb hts hin1 hown hK hP 0 rfl rfl 3 (by decide) kf22 (fun _ h9 => h9) rfl dX1_growRows_10 ?_
  refine va_alen (v := nI len) hx hb hK hP 3 1 rfl rfl rfl dX1_growRows_13 ?_
  refine lv_icmp_le (tgt := 41) hx hb dX1_growRows_14 (by decide) (fun c1 => ?_) (fun c1 => ?_)
  · have c1 : (cnt + 1) * 64 ≤ len := (nI_leI (by omega) (by omega)).mp c1
    have hg : grL cnt len = len := by simp [grL, c1]
    refine W.widen (k := 1) (n := grS cnt len) (by omega) (by omega) ?_
    rw [← hg] at hP hD
    exact wr_v (ro, fr) hx hb hr hlocks hP hD hS dX1_growRows_41 rfl (fun _ _ => rfl)
  · have c1 : ¬ ((cnt + 1) * 64 ≤ len) := fun h => c1 ((nI_leI (by omega) (by omega)).mpr h)
    have hg : grL cnt len = min (2 * len) 25600 := by simp [grL, c1]
    have hs : grS cnt len = min (2 * len) 25600 := by simp [grS, c1]
    have hm : len < min (2 * len) 25600 ∧ min (2 * len) 25600 ≤ 25600 := by omega
    refine lv_aload_n hx hb dX1_growRows_17 rfl (lv_at hl 0 rfl) ?_
    refine lv_aload_n hx hb dX1_growRows_18 rfl (lv_at hl 0 rfl) ?_
    refine va_get (D := D) (ci := 1) (v := .ref ro) (C := RX1) (T := TX1) (N := 4) hx hb hts hin1 hown hK hP 0 rfl rfl 3 (by decide) kf22 (fun _ h9 => h9) rfl dX1_growRows_19 ?_
    refine lv_iconst (v := nI 2) hx hb dX1_growRows_22 (by decide) ?_
    refine lv_aload_n hx hb dX1_growRows_23 rfl (lv_at hl 0 rfl) ?_
    refine va_get (D := D) (ci := 1) (v := .ref ro) (C := RX1) (T := TX1) (N := 4) hx hb hts hin1 hown hK hP 0 rfl rfl 3 (by decide) kf22 (fun _ h9 => h9) rfl dX1_growRows_24 ?_
    refine va_alen (v := nI len) hx hb hK hP 3 1 rfl rfl rfl dX1_growRows_27 ?_
    refine lv_imul hx hb dX1_growRows_28 ?_
    refine tp_i (show (nI 2) * (nI len) = nI (2 * len) from pk_mul _ _) ?_
    refine lv_sipush (v := nI 25600) hx hb dX1_growRows_29 (by decide) ?_
    refine va_mmin hx hb (by rw [hml]; exact hl.1.symm) hown (hts (.methodLink RX1 60 Lib.Math.min.name) (by decide +kernel)) (hts (.static Lib.Math.min.name) (by decide +kernel)) (hts (.initialized "java/lang/Math") (by decide +kernel)) (hts (.code Lib.Math.min.name Lib.Math.min.code 2 (some .int)) (by decide +kernel)) (Nat.le_of_ble_eq_true rfl) (Nat.le_of_ble_eq_true rfl) (by show _ ≤ _; simp only [headSpec]; omega) (by show _ ≤ _; simp only [headSpec]; omega) dX1_growRows_32 ?_
    refine tp_i (show (if nI 25600 < nI (2 * len) then nI 25600 else nI (2 * len)) = nI (min (2 * len) 25600) from min_I (by omega) (by omega)) ?_
    refine wr_S (As := [.ref ro, .int (nI (min (2 * len) 25600))]) (rest := [.ref hn]) (wc := [(ro, .inl (cJ, len, .inr (.inl fr)))]) (wr := [(hn, .inr (1, [.int (nI cnt), .ref ow, .ref fi, .ref ro])), (ow, .inl (cI, 400, .inl fo)), (fi, .inl (cI, 400, .inl ff))]) ⟨hx, hb, hml, hown, hts⟩ (w_J7_copyOf_c38d5 l D cI cJ tp ro len fr (min (2 * len) 25600) (by omega) (by omega) _) (va_cwS 2 hts gX1_growRows_J7_copyOf_c38d5 rfl rfl rfl (by decide +kernel) ⟨Nat.le_of_ble_eq_true rfl, Nat.le_of_ble_eq_true rfl⟩) rfl hl.1 rfl (Nat.le_of_ble_eq_true rfl) dX1_growRows_35 ⟨by show _ ≤ _; simp only [headSpec]; omega, by show _ ≤ _; simp only [headSpec]; omega⟩ hK hP hD hS hA hE [3] [0, 1, 2] rfl rfl (by decide) (by decide) (by decide) (fun q9 H locs _hu hP hD hS => ?_)
    have hP : va_P D vwCl [(hn, .inr (1, [.int (nI cnt), .ref ow, .ref fi, .ref ro])), (ow, .inl (cI, 400, .inl fo)), (fi, .inl (cI, 400, .inl ff)), (ro, .inl (cJ, len, .inr (.inl fr))), (q9, .inl (cJ, (min (2 * len) 25600), .inr (.inl (va_cpy fr (fun _ => 0) 0 0 len))))] H := hP
    have hD : va_D A [(hn, .inr (1, [.int (nI cnt), .ref ow, .ref fi, .ref ro])), (ow, .inl (cI, 400, .inl fo)), (fi, .inl (cI, 400, .inl ff)), (ro, .inl (cJ, len, .inr (.inl fr))), (q9, .inl (cJ, (min (2 * len) 25600), .inr (.inl (va_cpy fr (fun _ => 0) 0 0 len))))] := hD
    refine W.eq (g2 := F0 m 38 ls [.ref q9, .ref hn]) rfl ?_
    refine W.widen (k := 1) (n := grS cnt len) (by omega) (by omega) ?_
    refine va_put (D := D) (ci := 1) (v := .ref q9) (ty := .array .long) (C := RX1) (T := TX1) (N := 4) hx hb hts hin1 tyX1 tyX1_ok nmX1 hown hK hP hD hS 0 rfl rfl 3 (by decide) kf22 (fun _ h9 => h9) rfl (by decide +kernel) rfl rfl (Nat.le_of_ble_eq_true rfl) dX1_growRows_38 (fun H locs hP hD hS => ?_)
    have hP : va_P D vwCl [(hn, .inr (1, [.int (nI cnt), .ref ow, .ref fi, .ref q9])), (ow, .inl (cI, 400, .inl fo)), (fi, .inl (cI, 400, .inl ff)), (ro, .inl (cJ, len, .inr (.inl fr))), (q9, .inl (cJ, (min (2 * len) 25600), .inr (.inl (va_cpy fr (fun _ => 0) 0 0 len))))] H := hP
    have hD : va_D A [(hn, .inr (1, [.int (nI cnt), .ref ow, .ref fi, .ref q9])), (ow, .inl (cI, 400, .inl fo)), (fi, .inl (cI, 400, .inl ff)), (ro, .inl (cJ, len, .inr (.inl fr))), (q9, .inl (cJ, (min (2 * len) 25600), .inr (.inl (va_cpy fr (fun _ => 0) 0 0 len))))] := hD
    have hP := hP.sub (ws' := [(hn, .inr (1, [.int (nI cnt), .ref ow, .ref fi, .ref q9])), (ow, .inl (cI, 400, .inl fo)), (fi, .inl (cI, 400, .inl ff)), (q9, .inl (cJ, (min (2 * len) 25600), .inr (.inl (va_cpy fr (fun _ => 0) 0 0 len))))]) [0, 1, 2, 4] rfl
    have hD := hD.sub (ws' := [(hn, .inr (1, [.int (nI cnt), .ref ow, .ref fi, .ref q9])), (ow, .inl (cI, 400, .inl fo)), (fi, .inl (cI, 400, .inl ff)), (q9, .inl (cJ, (min (2 * len) 25600), .inr (.inl (va_cpy fr (fun _ => 0) 0 0 len))))]) [0, 1, 2, 4] (by decide) rfl
    rw [← hg] at hP hD
    exact wr_v (q9, va_cpy fr (fun _ => 0) 0 0 len) hx hb hr hlocks hP hD hS dX1_growRows_41 rfl (fun j hj => by show va_cpy fr (fun _ => 0) 0 0 len j = fr j; rw [pk_cpy_in (by omega) (by omega)]; congr 1; omega)
set_option maxHeartbeats 4000000 in
set_option maxRecDepth 100000 in
/-- a new node is entered: owner and first -/
theorem w_X1_settle (od : Int32) (h0 : cnt < 400) (h1 : cnt * 64 + 63 < len) (h2 : len ≤ 25600) (sz : Nat) : Met l yX1_settle wsX1_settle { frames := 4, cells := 0, slots := 0, locals := 93 } (wr_P D [(cI, .int), (cJ, .long)] (nW hn ow fi ro cI cJ cnt len fo ff fr) sz tp [.ref hn, .int od]) (wx (Su := Unit) D [(cI, .int), (cJ, .long)] (va_A (nW hn ow fi ro cI cJ cnt len fo ff fr) sz) (fun _ => some (.int (nI (2 * cnt)))) (fun _ => True) (fun _ => nW hn ow fi ro cI cJ (cnt + 1) len (upd fo cnt od) (upd ff cnt (ffF fr cnt cnt 0)) fr)) 0 0 (va_A (nW hn ow fi ro cI cJ cnt len fo ff fr) sz) := by
  refine Met.ofW (cc := cX1_settle) (maxL := 3) (ret := (some .int)) (by decide) rfl ?_
  intro p e s m args below meth c s₁ B hml hv
  obtain ⟨rfl, hsz, ⟨hP, hK, hD0⟩, hE⟩ := hv
  have hx := B.exec
  have hb := B.bytes
  have hr := B.returns
  have hts := atoms_spec (ws := wsX1_settle) B.pre
  have hown : s.vm.findClass RX1 = some m.cls := findClass_of_methodNamed B.named
  have hlocks := B.notSynchronized
  subst hsz
  have hD := hD0.self (sz := s.heap.size)
  generalize hAe : va_A (nW hn ow fi ro cI cJ cnt len fo ff fr) s.heap.size = A at hD hE ⊢
  have hA : ∀ q : Nat, s.heap.size ≤ q → A q := fun q h => by rw [← hAe]; exact Or.inr h
  have hS : va_S A s.heap s.heap [] := va_S.rf
  have hP : va_P D vwCl [(hn, .inr (1, [.int (nI cnt), .ref ow, .ref fi, .ref ro])), (ow, .inl (cI, 400, .inl fo)), (fi, .inl (cI, 400, .inl ff)), (ro, .inl (cJ, len, .inr (.inl fr)))] s.heap := hP
  have hD : va_D A [(hn, .inr (1, [.int (nI cnt), .ref ow, .ref fi, .ref ro])), (ow, .inl (cI, 400, .inl fo)), (fi, .inl (cI, 400, .inl ff)), (ro, .inl (cJ, len, .inr (.inl fr)))] := hD
  have hl := lv_entry ([.ref hn, .int od]) (n := 3) (Nat.le_of_ble_eq_true rfl)
  rw [lg_entry_eq]
  generalize (lg_sl ([.ref hn, .int od]) ++ List.replicate (3 - (lg_sl ([.ref hn, .int od])).length) Slot.unset).toArray = ls at hl ⊢
  have hl : lv_has ls 3 [(0, .ref hn), (1, .int od)] := hl
  have hin1 : ∀ w ∈ wsX10, w ∈ wsX1_settle := by decide +kernel
  have kf11 := hts (.fieldLink RX1 11 "SweepEqual$Nodes" "count" "I") (by decide +kernel)
  have kf15 := hts (.fieldLink RX1 15 "SweepEqual$Nodes" "owners" "[I") (by decide +kernel)
  have kf19 := hts (.fieldLink RX1 19 "SweepEqual$Nodes" "firsts" "[I") (by decide +kernel)
  refine lv_aload_n hx hb dX1_settle_0 rfl (lv_at hl 0 rfl) ?_
  refine va_get (D := D) (ci := 1) (v := .int (nI cnt)) (C := RX1) (T := TX1) (N := 4) hx hb hts hin1 hown hK hP 0 rfl rfl 0 (by decide) kf11 (fun _ h9 => h9) rfl dX1_settle_1 ?_
  refine lv_istore_n (lv' := [(2, .int (nI cnt)), (0, .ref hn), (1, .int od)]) hx hb dX1_settle_4 rfl hl (by decide) rfl (fun ls hl => ?_)
  refine lv_aload_n hx hb dX1_settle_5 rfl (lv_at hl 1 rfl) ?_
  refine va_get (D := D) (ci := 1) (v := .ref ow) (C := RX1) (T := TX1) (N := 4) hx hb hts hin1 hown hK hP 0 rfl rfl 1 (by decide) kf15 (fun _ h9 => h9) rfl dX1_settle_6 ?_
  refine lv_iload_n hx hb dX1_settle_9 rfl (lv_at hl 0 rfl) ?_
  refine lv_iload_n hx hb dX1_settle_10 rfl (lv_at hl 2 rfl) ?_
  refine va_iast hx hb hK hP hD hS 1 0 rfl rfl (vp_in_nI (by omega) (by omega)) dX1_settle_11 (fun H locs hP hD hS => ?_)
  have hP : va_P D vwCl [(hn, .inr (1, [.int (nI cnt), .ref ow, .ref fi, .ref ro])), (ow, .inl (cI, 400, .inl (upd fo (nI cnt).toNatClampNeg od))), (fi, .inl (cI, 400, .inl ff)), (ro, .inl (cJ, len, .inr (.inl fr)))] H := hP
  have hD : va_D A [(hn, .inr (1, [.int (nI cnt), .ref ow, .ref fi, .ref ro])), (ow, .inl (cI, 400, .inl (upd fo (nI cnt).toNatClampNeg od))), (fi, .inl (cI, 400, .inl ff)), (ro, .inl (cJ, len, .inr (.inl fr)))] := hD
  rw [show upd fo (nI cnt).toNatClampNeg od = upd fo cnt od from upI _ (by omega)] at hP hD
  refine lv_aload_n hx hb dX1_settle_12 rfl (lv_at hl 1 rfl) ?_
  refine va_get (D := D) (ci := 1) (v := .ref fi) (C := RX1) (T := TX1) (N := 4) hx hb hts hin1 hown hK hP 0 rfl rfl 2 (by decide) kf19 (fun _ h9 => h9) rfl dX1_settle_13 ?_
  refine lv_iload_n hx hb dX1_settle_16 rfl (lv_at hl 0 rfl) ?_
  refine lv_aload_n hx hb dX1_settle_17 rfl (lv_at hl 1 rfl) ?_
  refine lv_iload_n hx hb dX1_settle_18 rfl (lv_at hl 0 rfl) ?_
  refine rd_V (As := [.int (nI cnt)]) (rest := [.int (nI cnt), .ref fi]) ⟨hx, hb, hml, hown, hts⟩ (c_X1_findFirst l D cI cJ hn ow fi ro cnt len (upd fo cnt od) ff fr cnt h0 h1 h2) (cwV 1 hts gX1_settle_X1_findFirst rfl rfl rfl (by decide +kernel) ⟨Nat.le_of_ble_eq_true rfl, Nat.le_of_ble_eq_true rfl⟩) (rd_pv (ci := 1) (q0 := 0) hK (hP.sub (ws' := [(hn, .inr (1, [.int (nI cnt), .ref ow, .ref fi, .ref ro])), (ow, .inl (cI, 400, .inl (upd fo cnt od))), (fi, .inl (cI, 400, .inl ff)), (ro, .inl (cJ, len, .inr (.inl fr)))]) [0, 1, 2, 3] rfl) rfl rfl) rfl hl.1 rfl (Nat.le_of_ble_eq_true rfl) dX1_settle_19 ⟨by show _ ≤ _; simp only [headSpec]; omega, by show _ ≤ _; simp only [headSpec]; omega⟩ ?_
  refine va_iast hx hb hK hP hD hS 2 0 rfl rfl (vp_in_nI (by omega) (by omega)) dX1_settle_22 (fun H locs hP hD hS => ?_)
  have hP : va_P D vwCl [(hn, .inr (1, [.int (nI cnt), .ref ow, .ref fi, .ref ro])), (ow, .inl (cI, 400, .inl (upd fo cnt od))), (fi, .inl (cI, 400, .inl (upd ff (nI cnt).toNatClampNeg (ffF fr cnt cnt 0)))), (ro, .inl (cJ, len, .inr (.inl fr)))] H := hP
  have hD : va_D A [(hn, .inr (1, [.int (nI cnt), .ref ow, .ref fi, .ref ro])), (ow, .inl (cI, 400, .inl (upd fo cnt od))), (fi, .inl (cI, 400, .inl (upd ff (nI cnt).toNatClampNeg (ffF fr cnt cnt 0)))), (ro, .inl (cJ, len, .inr (.inl fr)))] := hD
  rw [show upd ff (nI cnt).toNatClampNeg (ffF fr cnt cnt 0) = upd ff cnt (ffF fr cnt cnt 0) from upI _ (by omega)] at hP hD
  refine lv_aload_n hx hb dX1_settle_23 rfl (lv_at hl 1 rfl) ?_
  refine lv_dup hx hb dX1_settle_24 rfl ?_
  refine va_get (D := D) (ci := 1) (v := .int (nI cnt)) (C := RX1) (T := TX1) (N := 4) hx hb hts hin1 hown hK hP 0 rfl rfl 0 (by decide) kf11 (fun _ h9 => h9) rfl dX1_settle_25 ?_
  refine lv_iconst (v := nI 1) hx hb dX1_settle_28 (by decide) ?_
  refine lv_iadd hx hb dX1_settle_29 ?_
  refine tp_i (show (nI cnt) + (nI 1) = nI (cnt + 1) from nI_add _ _) ?_
  refine va_put (D := D) (ci := 1) (v := .int (nI (cnt + 1))) (ty := .int) (C := RX1) (T := TX1) (N := 4) hx hb hts hin1 tyX1 tyX1_ok nmX1 hown hK hP hD hS 0 rfl rfl 0 (by decide) kf11 (fun _ h9 => h9) rfl (by decide +kernel) rfl rfl (Nat.le_of_ble_eq_true rfl) dX1_settle_30 (fun H locs hP hD hS => ?_)
  have hP : va_P D vwCl [(hn, .inr (1, [.int (nI (cnt + 1)), .ref ow, .ref fi, .ref ro])), (ow, .inl (cI, 400, .inl (upd fo cnt od))), (fi, .inl (cI, 400, .inl (upd ff cnt (ffF fr cnt cnt 0)))), (ro, .inl (cJ, len, .inr (.inl fr)))] H := hP
  have hD : va_D A [(hn, .inr (1, [.int (nI (cnt + 1)), .ref ow, .ref fi, .ref ro])), (ow, .inl (cI, 400, .inl (upd fo cnt od))), (fi, .inl (cI, 400, .inl (upd ff cnt (ffF fr cnt cnt 0)))), (ro, .inl (cJ, len, .inr (.inl fr)))] := hD
  refine lv_iconst (v := nI 2) hx hb dX1_settle_33 (by decide) ?_
  refine lv_iload_n hx hb dX1_settle_34 rfl (lv_at hl 0 rfl) ?_
  refine lv_imul hx hb dX1_settle_35 ?_
  refine tp_i (show (nI 2) * (nI cnt) = nI (2 * cnt) from pk_mul _ _) ?_
  exact wr_i (()) hx hb hr hlocks hP hD hS dX1_settle_36 (rfl) (trivial)
end WN
end
section
/-! Nodes: new nodes. -/
theorem grL_ge {cnt len : Nat} (hc : 1 ≤ cnt) (h0 : cnt < 400) (h1 : cnt * 64 ≤ len) (h2 : len ≤ 25600) : (cnt + 1) * 64 ≤ grL cnt len ∧ grL cnt len ≤ 25600 ∧ len ≤ grL cnt len := by
  unfold grL
  split <;> omega
section WA
variable (l : Launch) (D : va_G) (cI cJ : ClassId) (tp : Nat) (hn ow fi ro cnt len : Nat) (fo ff : Nat → Int32) (fr : Nat → Int64)
set_option maxHeartbeats 4000000 in
set_option maxRecDepth 100000 in
/-- a new variable -/
theorem w_X1_addVariable (b : Nat) (hb2 : b < 12) (hc : 1 ≤ cnt) (h0 : cnt < 400) (h1 : cnt * 64 ≤ len) (h2 : len ≤ 25600) (sz : Nat) : Met l yX1_addVariable wsX1_addVariable { frames := 5, cells := 1, slots := grS cnt len, locals := 115 } (wr_P D [(cI, .int), (cJ, .long)] (nW hn ow fi ro cI cJ cnt len fo ff fr) sz tp [.ref hn, .int (nI b)]) (wx (Su := Nat × (Nat → Int64)) D [(cI, .int), (cJ, .long)] (va_A (nW hn ow fi ro cI cJ cnt len fo ff fr) sz) (fun _ => some (.int (nI (2 * cnt)))) (fun u => (∀ j, j < cnt * 64 → u.2 j = fr j) ∧ ∀ w, w < 64 → u.2 (cnt * 64 + w) = vwF b w) (fun u => nW hn ow fi u.1 cI cJ (cnt + 1) (grL cnt len) (upd fo cnt (-1)) (upd ff cnt (ffF u.2 cnt cnt 0)) u.2)) 1 (grS cnt len) (va_A (nW hn ow fi ro cI cJ cnt len fo ff fr) sz) := by
  refine Met.ofW (cc := cX1_addVariable) (maxL := 4) (ret := (some .int)) (by decide) rfl ?_
  intro p e s m args below meth c s₁ B hml hv
  obtain ⟨rfl, hsz, ⟨hP, hK, hD0⟩, hE⟩ := hv
  have hx := B.exec
  have hb := B.bytes
  have hr := B.returns
  have hts := atoms_spec (ws := wsX1_addVariable) B.pre
  have hown : s.vm.findClass RX1 = some m.cls := findClass_of_methodNamed B.named
  have hlocks := B.notSynchronized
  subst hsz
  have hD := hD0.self (sz := s.heap.size)
  generalize hAe : va_A (nW hn ow fi ro cI cJ cnt len fo ff fr) s.heap.size = A at hD hE ⊢
  have hA : ∀ q : Nat, s.heap.size ≤ q → A q := fun q h => by rw [← hAe]; exact Or.inr h
  have hS : va_S A s.heap s.heap [] := va_S.rf
  have hP : va_P D vwCl [(hn, .inr (1, [.int (nI cnt), .ref ow, .ref fi, .ref ro])), (ow, .inl (cI, 400, .inl fo)), (fi, .inl (cI, 400, .inl ff)), (ro, .inl (cJ, len, .inr (.inl fr)))] s.heap := hP
  have hD : va_D A [(hn, .inr (1, [.int (nI cnt), .ref ow, .ref fi, .ref ro])), (ow, .inl (cI, 400, .inl fo)), (fi, .inl (cI, 400, .inl ff)), (ro, .inl (cJ, len, .inr (.inl fr)))] := hD
  have hl := lv_entry ([.ref hn, .int (nI b)]) (n := 4) (Nat.le_of_ble_eq_true rfl)
  rw [lg_entry_eq]
  generalize (lg_sl ([.ref hn, .int (nI b)]) ++ List.replicate (4 - (lg_sl ([.ref hn, .int (nI b)])).length) Slot.unset).toArray = ls at hl ⊢
  have hl : lv_has ls 4 [(0, .ref hn), (1, .int (nI b))] := hl
  have hin1 : ∀ w ∈ wsX10, w ∈ wsX1_addVariable := by decide +kernel
  have kf11 := hts (.fieldLink RX1 11 "SweepEqual$Nodes" "count" "I") (by decide +kernel)
  have kf22 := hts (.fieldLink RX1 22 "SweepEqual$Nodes" "rows" "[J") (by decide +kernel)
  obtain ⟨hg1, hg2, hg3⟩ := grL_ge hc h0 h1 h2
  refine lv_aload_n hx hb dX1_addVariable_0 rfl (lv_at hl 0 rfl) ?_
  refine wr_V (As := []) (rest := []) (wc := [(hn, .inr (1, [.int (nI cnt), .ref ow, .ref fi, .ref ro])), (ow, .inl (cI, 400, .inl fo)), (fi, .inl (cI, 400, .inl ff)), (ro, .inl (cJ, len, .inr (.inl fr)))]) (wr := []) (ci := 1) (q0 := 0) ⟨hx, hb, hml, hown, hts⟩ (w_X1_growRows l D cI cJ tp hn ow fi ro cnt len fo ff fr h0 (by omega) h2 _) (cwV 0 hts gX1_addVariable_X1_growRows rfl rfl rfl (by decide +kernel) ⟨Nat.le_of_ble_eq_true rfl, Nat.le_of_ble_eq_true rfl⟩) rfl rfl rfl hl.1 rfl (Nat.le_of_ble_eq_true rfl) dX1_addVariable_1 ⟨by show _ ≤ _; simp only [headSpec]; omega, by show _ ≤ _; simp only [headSpec]; omega⟩ hK hP hD hS hA hE [0, 1, 2, 3] [] rfl rfl (by decide) (by decide) (by decide) (fun u H locs hu hP hD hS => ?_)
  obtain ⟨ro2, fr2⟩ := u
  have hu : ∀ j, j < len → fr2 j = fr j := hu
  have hP : va_P D vwCl [(hn, .inr (1, [.int (nI cnt), .ref ow, .ref fi, .ref ro2])), (ow, .inl (cI, 400, .inl fo)), (fi, .inl (cI, 400, .inl ff)), (ro2, .inl (cJ, (grL cnt len), .inr (.inl fr2)))] H := hP
  have hD : va_D A [(hn, .inr (1, [.int (nI cnt), .ref ow, .ref fi, .ref ro2])), (ow, .inl (cI, 400, .inl fo)), (fi, .inl (cI, 400, .inl ff)), (ro2, .inl (cJ, (grL cnt len), .inr (.inl fr2)))] := hD
  have hP := hP.sub (ws' := [(hn, .inr (1, [.int (nI cnt), .ref ow, .ref fi, .ref ro2])), (ow, .inl (cI, 400, .inl fo)), (fi, .inl (cI, 400, .inl ff)), (ro2, .inl (cJ, (grL cnt len), .inr (.inl fr2)))]) [0, 1, 2, 3] rfl
  have hD := hD.sub (ws' := [(hn, .inr (1, [.int (nI cnt), .ref ow, .ref fi, .ref ro2])), (ow, .inl (cI, 400, .inl fo)), (fi, .inl (cI, 400, .inl ff)), (ro2, .inl (cJ, (grL cnt len), .inr (.inl fr2)))]) [0, 1, 2, 3] (by decide) rfl
  refine W.widen (k := 1) (n := grS cnt len) (by omega) (by omega) ?_
  refine W.eq (g2 := F0 m 4 ls []) rfl ?_
  refine lv_aload_n hx hb dX1_addVariable_4 rfl (lv_at hl 0 rfl) ?_
  refine va_get (D := D) (ci := 1) (v := .int (nI cnt)) (C := RX1) (T := TX1) (N := 4) hx hb hts hin1 hown hK hP 0 rfl rfl 0 (by decide) kf11 (fun _ h9 => h9) rfl dX1_addVariable_5 ?_
  refine lv_bipush (v := nI 64) hx hb dX1_addVariable_8 (by decide) ?_
  refine lv_imul hx hb dX1_addVariable_10 ?_
  refine tp_i (show (nI cnt) * (nI 64) = nI (cnt * 64) from pk_mul _ _) ?_
  refine lv_istore_n (lv' := [(2, .int (nI (cnt * 64))), (0, .ref hn), (1, .int (nI b))]) hx hb dX1_addVariable_11 rfl hl (by decide) rfl (fun ls hl => ?_)
  refine lv_iconst (v := nI 0) hx hb dX1_addVariable_12 (by decide) ?_
  refine lv_istore_n (lv' := [(3, .int (nI 0)), (2, .int (nI (cnt * 64))), (0, .ref hn), (1, .int (nI b))]) hx hb dX1_addVariable_13 rfl hl (by decide) rfl (fun ls hl => ?_)
  have loop : ∀ (n : Nat) (i : Nat), i ≤ 64 → 64 - i < n → ∀ (H : Heap) (locs : List Loc) (ls : Array Slot), va_P D vwCl [(hn, .inr (1, [.int (nI cnt), .ref ow, .ref fi, .ref ro2])), (ow, .inl (cI, 400, .inl fo)), (fi, .inl (cI, 400, .inl ff)), (ro2, .inl (cJ, (grL cnt len), .inr (.inl (rwF fr2 cnt (vwF b) i))))] H → va_D A [(hn, .inr (1, [.int (nI cnt), .ref ow, .ref fi, .ref ro2])), (ow, .inl (cI, 400, .inl fo)), (fi, .inl (cI, 400, .inl ff)), (ro2, .inl (cJ, (grL cnt len), .inr (.inl (rwF fr2 cnt (vwF b) i))))] → va_S A s.heap H locs → lv_has ls 4 [(3, .int (nI i)), (2, .int (nI (cnt * 64))), (0, .ref hn), (1, .int (nI b))] → W p l e (headSpec wsX1_addVariable { frames := 5, cells := 1, slots := grS cnt len, locals := 115 }).room s m ([.ref hn, .int (nI b)] : List Value).toArray below meth c H locs 1 (grS cnt len) (MQ below (wx (Su := Nat × (Nat → Int64)) D [(cI, .int), (cJ, .long)] A (fun _ => some (.int (nI (2 * cnt)))) (fun u => (∀ j, j < cnt * 64 → u.2 j = fr j) ∧ ∀ w, w < 64 → u.2 (cnt * 64 + w) = vwF b w) (fun u => nW hn ow fi u.1 cI cJ (cnt + 1) (grL cnt len) (upd fo cnt (-1)) (upd ff cnt (ffF u.2 cnt cnt 0)) u.2)) ([.ref hn, .int (nI b)] : List Value).toArray s 1 (grS cnt len) A) (F0 m 14 ls []) := by
    intro n
    induction n with
    | zero => intro i hi hM; exact absurd hM (Nat.not_lt_zero _)
    | succ n ih =>
      intro i hi hM H locs ls hP hD hS hl
      refine lv_iload_n hx hb dX1_addVariable_14 rfl (lv_at hl 0 rfl) ?_
      refine lv_bipush (v := nI 64) hx hb dX1_addVariable_15 (by decide) ?_
      refine lv_icmp_ge (tgt := 39) hx hb dX1_addVariable_17 (by decide) (fun c1 => ?_) (fun c1 => ?_)
      · have c1 : 64 ≤ i := (nI_leI (by omega) (by omega)).mp c1
        have hi2 : i = 64 := by omega
        rw [hi2] at hP hD
        refine lv_aload_n hx hb dX1_addVariable_39 rfl (lv_at hl 2 rfl) ?_
        refine lv_iconst (v := -1) hx hb dX1_addVariable_40 (by decide) ?_
        refine wr_V (As := [.int (-1)]) (rest := []) (wc := [(hn, .inr (1, [.int (nI cnt), .ref ow, .ref fi, .ref ro2])), (ow, .inl (cI, 400, .inl fo)), (fi, .inl (cI, 400, .inl ff)), (ro2, .inl (cJ, (grL cnt len), .inr (.inl (rwF fr2 cnt (vwF b) 64))))]) (wr := []) (ci := 1) (q0 := 0) ⟨hx, hb, hml, hown, hts⟩ (w_X1_settle l D cI cJ tp hn ow fi ro2 cnt (grL cnt len) fo ff (rwF fr2 cnt (vwF b) 64) (-1) h0 (by omega) hg2 _) (cwV 1 hts gX1_addVariable_X1_settle rfl rfl rfl (by decide +kernel) ⟨Nat.le_of_ble_eq_true rfl, Nat.le_of_ble_eq_true rfl⟩) rfl rfl rfl hl.1 rfl (Nat.le_of_ble_eq_true rfl) dX1_addVariable_41 ⟨by show _ ≤ _; simp only [headSpec]; omega, by show _ ≤ _; simp only [headSpec]; omega⟩ hK hP hD hS hA hE [0, 1, 2, 3] [] rfl rfl (by decide) (by decide) (by decide) (fun _u H locs _hu hP hD hS => ?_)
        have hP : va_P D vwCl [(hn, .inr (1, [.int (nI (cnt + 1)), .ref ow, .ref fi, .ref ro2])), (ow, .inl (cI, 400, .inl (upd fo cnt (-1)))), (fi, .inl (cI, 400, .inl (upd ff cnt (ffF (rwF fr2 cnt (vwF b) 64) cnt cnt 0)))), (ro2, .inl (cJ, (grL cnt len), .inr (.inl (rwF fr2 cnt (vwF b) 64))))] H := hP
        have hD : va_D A [(hn, .inr (1, [.int (nI (cnt + 1)), .ref ow, .ref fi, .ref ro2])), (ow, .inl (cI, 400, .inl (upd fo cnt (-1)))), (fi, .inl (cI, 400, .inl (upd ff cnt (ffF (rwF fr2 cnt (vwF b) 64) cnt cnt 0)))), (ro2, .inl (cJ, (grL cnt len), .inr (.inl (rwF fr2 cnt (vwF b) 64))))] := hD
        have hP := hP.sub (ws' := [(hn, .inr (1, [.int (nI (cnt + 1)), .ref ow, .ref fi, .ref ro2])), (ow, .inl (cI, 400, .inl (upd fo cnt (-1)))), (fi, .inl (cI, 400, .inl (upd ff cnt (ffF (rwF fr2 cnt (vwF b) 64) cnt cnt 0)))), (ro2, .inl (cJ, (grL cnt len), .inr (.inl (rwF fr2 cnt (vwF b) 64))))]) [0, 1, 2, 3] rfl
        have hD := hD.sub (ws' := [(hn, .inr (1, [.int (nI (cnt + 1)), .ref ow, .ref fi, .ref ro2])), (ow, .inl (cI, 400, .inl (upd fo cnt (-1)))), (fi, .inl (cI, 400, .inl (upd ff cnt (ffF (rwF fr2 cnt (vwF b) 64) cnt cnt 0)))), (ro2, .inl (cJ, (grL cnt len), .inr (.inl (rwF fr2 cnt (vwF b) 64))))]) [0, 1, 2, 3] (by decide) rfl
        refine W.widen (k := 1) (n := grS cnt len) (by omega) (by omega) ?_
        refine W.eq (g2 := F0 m 44 ls [.int (nI (2 * cnt))]) rfl ?_
        exact wr_i ((ro2, rwF fr2 cnt (vwF b) 64)) hx hb hr hlocks hP hD hS dX1_addVariable_44 (rfl) (⟨fun j hj => (rwF_lo hj).trans (hu j (by omega)), fun w hw => rwF_hi hw⟩)
      · have c1 : ¬ (64 ≤ i) := fun h => c1 ((nI_leI (by omega) (by omega)).mpr h)
        refine lv_aload_n hx hb dX1_addVariable_20 rfl (lv_at hl 2 rfl) ?_
        refine va_get (D := D) (ci := 1) (v := .ref ro2) (C := RX1) (T := TX1) (N := 4) hx hb hts hin1 hown hK hP 0 rfl rfl 3 (by decide) kf22 (fun _ h9 => h9) rfl dX1_addVariable_21 ?_
        refine lv_iload_n hx hb dX1_addVariable_24 rfl (lv_at hl 1 rfl) ?_
        refine lv_iload_n hx hb dX1_addVariable_25 rfl (lv_at hl 0 rfl) ?_
        refine lv_iadd hx hb dX1_addVariable_26 ?_
        refine tp_i (show (nI (cnt * 64)) + (nI i) = nI (cnt * 64 + i) from nI_add _ _) ?_
        refine lv_iload_n hx hb dX1_addVariable_27 rfl (lv_at hl 3 rfl) ?_
        refine lv_iload_n hx hb dX1_addVariable_28 rfl (lv_at hl 0 rfl) ?_
        refine rd_S (As := [.int (nI b), .int (nI i)]) (rest := [.int (nI (cnt * 64 + i)), .ref ro2]) ⟨hx, hb, hml, hown, hts⟩ (c_X1_variableWord l D cI cJ tp b i hb2 (by omega)) (va_cwS 2 hts gX1_addVariable_X1_variableWord rfl rfl rfl (by decide +kernel) ⟨Nat.le_of_ble_eq_true rfl, Nat.le_of_ble_eq_true rfl⟩) (re_ps hK (hP.sub (ws' := []) [] rfl) (hE.at hS)) rfl hl.1 rfl (Nat.le_of_ble_eq_true rfl) dX1_addVariable_29 ⟨by show _ ≤ _; simp only [headSpec]; omega, by show _ ≤ _; simp only [headSpec]; omega⟩ ?_
        refine va_last hx hb hK hP hD hS 3 1 rfl rfl (vp_in_nI (by omega) (by omega)) dX1_addVariable_32 (fun H locs hP hD hS => ?_)
        have hP : va_P D vwCl [(hn, .inr (1, [.int (nI cnt), .ref ow, .ref fi, .ref ro2])), (ow, .inl (cI, 400, .inl fo)), (fi, .inl (cI, 400, .inl ff)), (ro2, .inl (cJ, (grL cnt len), .inr (.inl (vp_updL (rwF fr2 cnt (vwF b) i) (nI (cnt * 64 + i)).toNatClampNeg (vwF b i)))))] H := hP
        have hD : va_D A [(hn, .inr (1, [.int (nI cnt), .ref ow, .ref fi, .ref ro2])), (ow, .inl (cI, 400, .inl fo)), (fi, .inl (cI, 400, .inl ff)), (ro2, .inl (cJ, (grL cnt len), .inr (.inl (vp_updL (rwF fr2 cnt (vwF b) i) (nI (cnt * 64 + i)).toNatClampNeg (vwF b i)))))] := hD
        rw [show vp_updL (rwF fr2 cnt (vwF b) i) (nI (cnt * 64 + i)).toNatClampNeg (vwF b i) = rwF fr2 cnt (vwF b) (i + 1) from rwF_up (by omega) rfl] at hP hD
        refine lv_iinc (v := nI (i + 1)) (lv' := [(3, .int (nI (i + 1))), (2, .int (nI (cnt * 64))), (0, .ref hn), (1, .int (nI b))]) hx hb dX1_addVariable_33 hl (k := 0) rfl (nI_add i 1) (by decide) rfl (fun ls hl => ?_)
        refine lv_goto (tgt := 14) hx hb dX1_addVariable_36 (by decide) ?_
        exact ih (i + 1) (by omega) (by omega) _ _ ls hP hD hS (lv_sub hl [0, 1, 2, 3] rfl)
  exact loop (64 - 0 + 1) 0 (by omega) (by omega) _ _ ls (by rw [rwF_0]; exact hP) (by rw [rwF_0]; exact hD) hS (lv_sub hl [0, 1, 2, 3] rfl)
set_option maxHeartbeats 4000000 in
set_option maxRecDepth 100000 in
/-- a new AND -/
theorem w_X1_addAnd (sd : Int32) (la lb : Nat) (ha : la / 2 < cnt) (hb2 : lb / 2 < cnt) (hc : 1 ≤ cnt) (h0 : cnt < 400) (h1 : cnt * 64 ≤ len) (h2 : len ≤ 25600) (sz : Nat) : Met l yX1_addAnd wsX1_addAnd { frames := 5, cells := 1, slots := grS cnt len, locals := 115 } (wr_P D [(cI, .int), (cJ, .long)] (nW hn ow fi ro cI cJ cnt len fo ff fr) sz tp [.ref hn, .int sd, .int (nI la), .int (nI lb)]) (wx (Su := Nat × (Nat → Int64)) D [(cI, .int), (cJ, .long)] (va_A (nW hn ow fi ro cI cJ cnt len fo ff fr) sz) (fun _ => some (.int (nI (2 * cnt)))) (fun u => (∀ j, j < cnt * 64 → u.2 j = fr j) ∧ ∀ w, w < 64 → u.2 (cnt * 64 + w) = wd fr la w &&& wd fr lb w) (fun u => nW hn ow fi u.1 cI cJ (cnt + 1) (grL cnt len) (upd fo cnt sd) (upd ff cnt (ffF u.2 cnt cnt 0)) u.2)) 1 (grS cnt len) (va_A (nW hn ow fi ro cI cJ cnt len fo ff fr) sz) := by
  refine Met.ofW (cc := cX1_addAnd) (maxL := 6) (ret := (some .int)) (by decide) rfl ?_
  intro p e s m args below meth c s₁ B hml hv
  obtain ⟨rfl, hsz, ⟨hP, hK, hD0⟩, hE⟩ := hv
  have hx := B.exec
  have hb := B.bytes
  have hr := B.returns
  have hts := atoms_spec (ws := wsX1_addAnd) B.pre
  have hown : s.vm.findClass RX1 = some m.cls := findClass_of_methodNamed B.named
  have hlocks := B.notSynchronized
  subst hsz
  have hD := hD0.self (sz := s.heap.size)
  generalize hAe : va_A (nW hn ow fi ro cI cJ cnt len fo ff fr) s.heap.size = A at hD hE ⊢
  have hA : ∀ q : Nat, s.heap.size ≤ q → A q := fun q h => by rw [← hAe]; exact Or.inr h
  have hS : va_S A s.heap s.heap [] := va_S.rf
  have hP : va_P D vwCl [(hn, .inr (1, [.int (nI cnt), .ref ow, .ref fi, .ref ro])), (ow, .inl (cI, 400, .inl fo)), (fi, .inl (cI, 400, .inl ff)), (ro, .inl (cJ, len, .inr (.inl fr)))] s.heap := hP
  have hD : va_D A [(hn, .inr (1, [.int (nI cnt), .ref ow, .ref fi, .ref ro])), (ow, .inl (cI, 400, .inl fo)), (fi, .inl (cI, 400, .inl ff)), (ro, .inl (cJ, len, .inr (.inl fr)))] := hD
  have hl := lv_entry ([.ref hn, .int sd, .int (nI la), .int (nI lb)]) (n := 6) (Nat.le_of_ble_eq_true rfl)
  rw [lg_entry_eq]
  generalize (lg_sl ([.ref hn, .int sd, .int (nI la), .int (nI lb)]) ++ List.replicate (6 - (lg_sl ([.ref hn, .int sd, .int (nI la), .int (nI lb)])).length) Slot.unset).toArray = ls at hl ⊢
  have hl : lv_has ls 6 [(0, .ref hn), (1, .int sd), (2, .int (nI la)), (3, .int (nI lb))] := hl
  have hin1 : ∀ w ∈ wsX10, w ∈ wsX1_addAnd := by decide +kernel
  have kf11 := hts (.fieldLink RX1 11 "SweepEqual$Nodes" "count" "I") (by decide +kernel)
  have kf22 := hts (.fieldLink RX1 22 "SweepEqual$Nodes" "rows" "[J") (by decide +kernel)
  obtain ⟨hg1, hg2, hg3⟩ := grL_ge hc h0 h1 h2
  refine lv_aload_n hx hb dX1_addAnd_0 rfl (lv_at hl 0 rfl) ?_
  refine wr_V (As := []) (rest := []) (wc := [(hn, .inr (1, [.int (nI cnt), .ref ow, .ref fi, .ref ro])), (ow, .inl (cI, 400, .inl fo)), (fi, .inl (cI, 400, .inl ff)), (ro, .inl (cJ, len, .inr (.inl fr)))]) (wr := []) (ci := 1) (q0 := 0) ⟨hx, hb, hml, hown, hts⟩ (w_X1_growRows l D cI cJ tp hn ow fi ro cnt len fo ff fr h0 (by omega) h2 _) (cwV 0 hts gX1_addAnd_X1_growRows rfl rfl rfl (by decide +kernel) ⟨Nat.le_of_ble_eq_true rfl, Nat.le_of_ble_eq_true rfl⟩) rfl rfl rfl hl.1 rfl (Nat.le_of_ble_eq_true rfl) dX1_addAnd_1 ⟨by show _ ≤ _; simp only [headSpec]; omega, by show _ ≤ _; simp only [headSpec]; omega⟩ hK hP hD hS hA hE [0, 1, 2, 3] [] rfl rfl (by decide) (by decide) (by decide) (fun u H locs hu hP hD hS => ?_)
  obtain ⟨ro2, fr2⟩ := u
  have hu : ∀ j, j < len → fr2 j = fr j := hu
  have hP : va_P D vwCl [(hn, .inr (1, [.int (nI cnt), .ref ow, .ref fi, .ref ro2])), (ow, .inl (cI, 400, .inl fo)), (fi, .inl (cI, 400, .inl ff)), (ro2, .inl (cJ, (grL cnt len), .inr (.inl fr2)))] H := hP
  have hD : va_D A [(hn, .inr (1, [.int (nI cnt), .ref ow, .ref fi, .ref ro2])), (ow, .inl (cI, 400, .inl fo)), (fi, .inl (cI, 400, .inl ff)), (ro2, .inl (cJ, (grL cnt len), .inr (.inl fr2)))] := hD
  have hP := hP.sub (ws' := [(hn, .inr (1, [.int (nI cnt), .ref ow, .ref fi, .ref ro2])), (ow, .inl (cI, 400, .inl fo)), (fi, .inl (cI, 400, .inl ff)), (ro2, .inl (cJ, (grL cnt len), .inr (.inl fr2)))]) [0, 1, 2, 3] rfl
  have hD := hD.sub (ws' := [(hn, .inr (1, [.int (nI cnt), .ref ow, .ref fi, .ref ro2])), (ow, .inl (cI, 400, .inl fo)), (fi, .inl (cI, 400, .inl ff)), (ro2, .inl (cJ, (grL cnt len), .inr (.inl fr2)))]) [0, 1, 2, 3] (by decide) rfl
  refine W.widen (k := 1) (n := grS cnt len) (by omega) (by omega) ?_
  refine W.eq (g2 := F0 m 4 ls []) rfl ?_
  refine lv_aload_n hx hb dX1_addAnd_4 rfl (lv_at hl 0 rfl) ?_
  refine va_get (D := D) (ci := 1) (v := .int (nI cnt)) (C := RX1) (T := TX1) (N := 4) hx hb hts hin1 hown hK hP 0 rfl rfl 0 (by decide) kf11 (fun _ h9 => h9) rfl dX1_addAnd_5 ?_
  refine lv_bipush (v := nI 64) hx hb dX1_addAnd_8 (by decide) ?_
  refine lv_imul hx hb dX1_addAnd_10 ?_
  refine tp_i (show (nI cnt) * (nI 64) = nI (cnt * 64) from pk_mul _ _) ?_
  refine lv_istore (lv' := [(4, .int (nI (cnt * 64))), (0, .ref hn), (1, .int sd), (2, .int (nI la)), (3, .int (nI lb))]) hx hb dX1_addAnd_11 hl (by decide) rfl (fun ls hl => ?_)
  refine lv_iconst (v := nI 0) hx hb dX1_addAnd_13 (by decide) ?_
  refine lv_istore (lv' := [(5, .int (nI 0)), (4, .int (nI (cnt * 64))), (0, .ref hn), (1, .int sd), (2, .int (nI la)), (3, .int (nI lb))]) hx hb dX1_addAnd_14 hl (by decide) rfl (fun ls hl => ?_)
  have loop : ∀ (n : Nat) (i : Nat), i ≤ 64 → 64 - i < n → ∀ (H : Heap) (locs : List Loc) (ls : Array Slot), va_P D vwCl [(hn, .inr (1, [.int (nI cnt), .ref ow, .ref fi, .ref ro2])), (ow, .inl (cI, 400, .inl fo)), (fi, .inl (cI, 400, .inl ff)), (ro2, .inl (cJ, (grL cnt len), .inr (.inl (rwF fr2 cnt (fun w => wd fr2 la w &&& wd fr2 lb w) i))))] H → va_D A [(hn, .inr (1, [.int (nI cnt), .ref ow, .ref fi, .ref ro2])), (ow, .inl (cI, 400, .inl fo)), (fi, .inl (cI, 400, .inl ff)), (ro2, .inl (cJ, (grL cnt len), .inr (.inl (rwF fr2 cnt (fun w => wd fr2 la w &&& wd fr2 lb w) i))))] → va_S A s.heap H locs → lv_has ls 6 [(5, .int (nI i)), (4, .int (nI (cnt * 64))), (0, .ref hn), (1, .int sd), (2, .int (nI la)), (3, .int (nI lb))] → W p l e (headSpec wsX1_addAnd { frames := 5, cells := 1, slots := grS cnt len, locals := 115 }).room s m ([.ref hn, .int sd, .int (nI la), .int (nI lb)] : List Value).toArray below meth c H locs 1 (grS cnt len) (MQ below (wx (Su := Nat × (Nat → Int64)) D [(cI, .int), (cJ, .long)] A (fun _ => some (.int (nI (2 * cnt)))) (fun u => (∀ j, j < cnt * 64 → u.2 j = fr j) ∧ ∀ w, w < 64 → u.2 (cnt * 64 + w) = wd fr la w &&& wd fr lb w) (fun u => nW hn ow fi u.1 cI cJ (cnt + 1) (grL cnt len) (upd fo cnt sd) (upd ff cnt (ffF u.2 cnt cnt 0)) u.2)) ([.ref hn, .int sd, .int (nI la), .int (nI lb)] : List Value).toArray s 1 (grS cnt len) A) (F0 m 16 ls []) := by
    intro n
    induction n with
    | zero => intro i hi hM; exact absurd hM (Nat.not_lt_zero _)
    | succ n ih =>
      intro i hi hM H locs ls hP hD hS hl
      refine lv_iload hx hb dX1_addAnd_16 (lv_at hl 0 rfl) ?_
      refine lv_bipush (v := nI 64) hx hb dX1_addAnd_18 (by decide) ?_
      refine lv_icmp_ge (tgt := 54) hx hb dX1_addAnd_20 (by decide) (fun c1 => ?_) (fun c1 => ?_)
      · have c1 : 64 ≤ i := (nI_leI (by omega) (by omega)).mp c1
        have hi2 : i = 64 := by omega
        rw [hi2] at hP hD
        refine lv_aload_n hx hb dX1_addAnd_54 rfl (lv_at hl 2 rfl) ?_
        refine lv_iload_n hx hb dX1_addAnd_55 rfl (lv_at hl 3 rfl) ?_
        refine wr_V (As := [.int sd]) (rest := []) (wc := [(hn, .inr (1, [.int (nI cnt), .ref ow, .ref fi, .ref ro2])), (ow, .inl (cI, 400, .inl fo)), (fi, .inl (cI, 400, .inl ff)), (ro2, .inl (cJ, (grL cnt len), .inr (.inl (rwF fr2 cnt (fun w => wd fr2 la w &&& wd fr2 lb w) 64))))]) (wr := []) (ci := 1) (q0 := 0) ⟨hx, hb, hml, hown, hts⟩ (w_X1_settle l D cI cJ tp hn ow fi ro2 cnt (grL cnt len) fo ff (rwF fr2 cnt (fun w => wd fr2 la w &&& wd fr2 lb w) 64) sd h0 (by omega) hg2 _) (cwV 1 hts gX1_addAnd_X1_settle rfl rfl rfl (by decide +kernel) ⟨Nat.le_of_ble_eq_true rfl, Nat.le_of_ble_eq_true rfl⟩) rfl rfl rfl hl.1 rfl (Nat.le_of_ble_eq_true rfl) dX1_addAnd_56 ⟨by show _ ≤ _; simp only [headSpec]; omega, by show _ ≤ _; simp only [headSpec]; omega⟩ hK hP hD hS hA hE [0, 1, 2, 3] [] rfl rfl (by decide) (by decide) (by decide) (fun _u H locs _hu hP hD hS => ?_)
        have hP : va_P D vwCl [(hn, .inr (1, [.int (nI (cnt + 1)), .ref ow, .ref fi, .ref ro2])), (ow, .inl (cI, 400, .inl (upd fo cnt sd))), (fi, .inl (cI, 400, .inl (upd ff cnt (ffF (rwF fr2 cnt (fun w => wd fr2 la w &&& wd fr2 lb w) 64) cnt cnt 0)))), (ro2, .inl (cJ, (grL cnt len), .inr (.inl (rwF fr2 cnt (fun w => wd fr2 la w &&& wd fr2 lb w) 64))))] H := hP
        have hD : va_D A [(hn, .inr (1, [.int (nI (cnt + 1)), .ref ow, .ref fi, .ref ro2])), (ow, .inl (cI, 400, .inl (upd fo cnt sd))), (fi, .inl (cI, 400, .inl (upd ff cnt (ffF (rwF fr2 cnt (fun w => wd fr2 la w &&& wd fr2 lb w) 64) cnt cnt 0)))), (ro2, .inl (cJ, (grL cnt len), .inr (.inl (rwF fr2 cnt (fun w => wd fr2 la w &&& wd fr2 lb w) 64))))] := hD
        have hP := hP.sub (ws' := [(hn, .inr (1, [.int (nI (cnt + 1)), .ref ow, .ref fi, .ref ro2])), (ow, .inl (cI, 400, .inl (upd fo cnt sd))), (fi, .inl (cI, 400, .inl (upd ff cnt (ffF (rwF fr2 cnt (fun w => wd fr2 la w &&& wd fr2 lb w) 64) cnt cnt 0)))), (ro2, .inl (cJ, (grL cnt len), .inr (.inl (rwF fr2 cnt (fun w => wd fr2 la w &&& wd fr2 lb w) 64))))]) [0, 1, 2, 3] rfl
        have hD := hD.sub (ws' := [(hn, .inr (1, [.int (nI (cnt + 1)), .ref ow, .ref fi, .ref ro2])), (ow, .inl (cI, 400, .inl (upd fo cnt sd))), (fi, .inl (cI, 400, .inl (upd ff cnt (ffF (rwF fr2 cnt (fun w => wd fr2 la w &&& wd fr2 lb w) 64) cnt cnt 0)))), (ro2, .inl (cJ, (grL cnt len), .inr (.inl (rwF fr2 cnt (fun w => wd fr2 la w &&& wd fr2 lb w) 64))))]) [0, 1, 2, 3] (by decide) rfl
        refine W.widen (k := 1) (n := grS cnt len) (by omega) (by omega) ?_
        refine W.eq (g2 := F0 m 59 ls [.int (nI (2 * cnt))]) rfl ?_
        have hq1 : ∀ j, j < cnt * 64 → (rwF fr2 cnt (fun w => wd fr2 la w &&& wd fr2 lb w) 64) j = fr j := fun j hj => (rwF_lo hj).trans (hu j (by omega))
        have hq2 : ∀ w, w < 64 → (rwF fr2 cnt (fun w => wd fr2 la w &&& wd fr2 lb w) 64) (cnt * 64 + w) = wd fr la w &&& wd fr lb w := fun w hw => by
          rw [rwF_hi hw, ← wd_congr (hu _ (by omega) : fr2 (la / 2 * 64 + w) = fr (la / 2 * 64 + w)), ← wd_congr (hu _ (by omega) : fr2 (lb / 2 * 64 + w) = fr (lb / 2 * 64 + w))]
        exact wr_i ((ro2, rwF fr2 cnt (fun w => wd fr2 la w &&& wd fr2 lb w) 64)) hx hb hr hlocks hP hD hS dX1_addAnd_59 (rfl) (⟨hq1, hq2⟩)
      · have c1 : ¬ (64 ≤ i) := fun h => c1 ((nI_leI (by omega) (by omega)).mpr h)
        refine lv_aload_n hx hb dX1_addAnd_23 rfl (lv_at hl 2 rfl) ?_
        refine va_get (D := D) (ci := 1) (v := .ref ro2) (C := RX1) (T := TX1) (N := 4) hx hb hts hin1 hown hK hP 0 rfl rfl 3 (by decide) kf22 (fun _ h9 => h9) rfl dX1_addAnd_24 ?_
        refine lv_iload hx hb dX1_addAnd_27 (lv_at hl 1 rfl) ?_
        refine lv_iload hx hb dX1_addAnd_29 (lv_at hl 0 rfl) ?_
        refine lv_iadd hx hb dX1_addAnd_31 ?_
        refine tp_i (show (nI (cnt * 64)) + (nI i) = nI (cnt * 64 + i) from nI_add _ _) ?_
        refine lv_aload_n hx hb dX1_addAnd_32 rfl (lv_at hl 2 rfl) ?_
        refine lv_iload_n hx hb dX1_addAnd_33 rfl (lv_at hl 4 rfl) ?_
        refine lv_iload hx hb dX1_addAnd_34 (lv_at hl 0 rfl) ?_
        refine rd_V (As := [.int (nI la), .int (nI i)]) (rest := [.int (nI (cnt * 64 + i)), .ref ro2]) ⟨hx, hb, hml, hown, hts⟩ (c_X1_wordOf l D cI cJ hn ow fi ro2 cnt (grL cnt len) fo ff (rwF fr2 cnt (fun w => wd fr2 la w &&& wd fr2 lb w) i) la i (by omega) hg2) (cwV 2 hts gX1_addAnd_X1_wordOf rfl rfl rfl (by decide +kernel) ⟨Nat.le_of_ble_eq_true rfl, Nat.le_of_ble_eq_true rfl⟩) (rd_pv (ci := 1) (q0 := 0) hK (hP.sub (ws' := [(hn, .inr (1, [.int (nI cnt), .ref ow, .ref fi, .ref ro2])), (ow, .inl (cI, 400, .inl fo)), (fi, .inl (cI, 400, .inl ff)), (ro2, .inl (cJ, (grL cnt len), .inr (.inl (rwF fr2 cnt (fun w => wd fr2 la w &&& wd fr2 lb w) i))))]) [0, 1, 2, 3] rfl) rfl rfl) rfl hl.1 rfl (Nat.le_of_ble_eq_true rfl) dX1_addAnd_36 ⟨by show _ ≤ _; simp only [headSpec]; omega, by show _ ≤ _; simp only [headSpec]; omega⟩ ?_
        refine tp_l (show wd (rwF fr2 cnt (fun w => wd fr2 la w &&& wd fr2 lb w) i) la i = wd fr2 la i from wd_congr (rwF_lo (by omega))) ?_
        refine lv_aload_n hx hb dX1_addAnd_39 rfl (lv_at hl 2 rfl) ?_
        refine lv_iload_n hx hb dX1_addAnd_40 rfl (lv_at hl 5 rfl) ?_
        refine lv_iload hx hb dX1_addAnd_41 (lv_at hl 0 rfl) ?_
        refine rd_V (As := [.int (nI lb), .int (nI i)]) (rest := [.long (wd fr2 la i), .int (nI (cnt * 64 + i)), .ref ro2]) ⟨hx, hb, hml, hown, hts⟩ (c_X1_wordOf l D cI cJ hn ow fi ro2 cnt (grL cnt len) fo ff (rwF fr2 cnt (fun w => wd fr2 la w &&& wd fr2 lb w) i) lb i (by omega) hg2) (cwV 2 hts gX1_addAnd_X1_wordOf rfl rfl rfl (by decide +kernel) ⟨Nat.le_of_ble_eq_true rfl, Nat.le_of_ble_eq_true rfl⟩) (rd_pv (ci := 1) (q0 := 0) hK (hP.sub (ws' := [(hn, .inr (1, [.int (nI cnt), .ref ow, .ref fi, .ref ro2])), (ow, .inl (cI, 400, .inl fo)), (fi, .inl (cI, 400, .inl ff)), (ro2, .inl (cJ, (grL cnt len), .inr (.inl (rwF fr2 cnt (fun w => wd fr2 la w &&& wd fr2 lb w) i))))]) [0, 1, 2, 3] rfl) rfl rfl) rfl hl.1 rfl (Nat.le_of_ble_eq_true rfl) dX1_addAnd_43 ⟨by show _ ≤ _; simp only [headSpec]; omega, by show _ ≤ _; simp only [headSpec]; omega⟩ ?_
        refine tp_l (show wd (rwF fr2 cnt (fun w => wd fr2 la w &&& wd fr2 lb w) i) lb i = wd fr2 lb i from wd_congr (rwF_lo (by omega))) ?_
        refine lv_land hx hb dX1_addAnd_46 ?_
        refine va_last hx hb hK hP hD hS 3 1 rfl rfl (vp_in_nI (by omega) (by omega)) dX1_addAnd_47 (fun H locs hP hD hS => ?_)
        have hP : va_P D vwCl [(hn, .inr (1, [.int (nI cnt), .ref ow, .ref fi, .ref ro2])), (ow, .inl (cI, 400, .inl fo)), (fi, .inl (cI, 400, .inl ff)), (ro2, .inl (cJ, (grL cnt len), .inr (.inl (vp_updL (rwF fr2 cnt (fun w => wd fr2 la w &&& wd fr2 lb w) i) (nI (cnt * 64 + i)).toNatClampNeg ((wd fr2 la i) &&& (wd fr2 lb i))))))] H := hP
        have hD : va_D A [(hn, .inr (1, [.int (nI cnt), .ref ow, .ref fi, .ref ro2])), (ow, .inl (cI, 400, .inl fo)), (fi, .inl (cI, 400, .inl ff)), (ro2, .inl (cJ, (grL cnt len), .inr (.inl (vp_updL (rwF fr2 cnt (fun w => wd fr2 la w &&& wd fr2 lb w) i) (nI (cnt * 64 + i)).toNatClampNeg ((wd fr2 la i) &&& (wd fr2 lb i))))))] := hD
        rw [show vp_updL (rwF fr2 cnt (fun w => wd fr2 la w &&& wd fr2 lb w) i) (nI (cnt * 64 + i)).toNatClampNeg ((wd fr2 la i) &&& (wd fr2 lb i)) = rwF fr2 cnt (fun w => wd fr2 la w &&& wd fr2 lb w) (i + 1) from rwF_up (by omega) rfl] at hP hD
        refine lv_iinc (v := nI (i + 1)) (lv' := [(5, .int (nI (i + 1))), (4, .int (nI (cnt * 64))), (0, .ref hn), (1, .int sd), (2, .int (nI la)), (3, .int (nI lb))]) hx hb dX1_addAnd_48 hl (k := 0) rfl (nI_add i 1) (by decide) rfl (fun ls hl => ?_)
        refine lv_goto (tgt := 16) hx hb dX1_addAnd_51 (by decide) ?_
        exact ih (i + 1) (by omega) (by omega) _ _ ls hP hD hS (lv_sub hl [0, 1, 2, 3, 4, 5] rfl)
  exact loop (64 - 0 + 1) 0 (by omega) (by omega) _ _ ls (by rw [rwF_0]; exact hP) (by rw [rwF_0]; exact hD) hS (lv_sub hl [0, 1, 2, 3, 4, 5] rfl)
end WA
end
section
/-! Methods that throw: a throw at its place, a throw out of a callee. -/
/-- a method that throws E: nothing that was there has changed -/
def thX (E0 : String) : String → State → State → Prop := fun E st t => E = E0 ∧ st.heap.size ≤ t.heap.size ∧ ∀ q : Nat, q < st.heap.size → t.heap[q]? = st.heap[q]?
def noQ : Array Value → State → Outcome → State → Prop := fun _ _ _ _ => False
abbrev TH (l : Launch) (y : MethodName) (ws : List Cond) (rm : Room) (Pc : Array Value → State → Prop) (E0 : String) : Prop := vx_Met l y ws rm Pc noQ (thX E0) 1 6 (fun _ => False)
/-- a reader that answers nothing -/
def rv_Q : Array Value → State → Outcome → State → Prop := fun _ st o t => o = .returned none ∧ t.heap = st.heap
def xN : List String := ["java/lang/RuntimeException", "java/lang/Exception"]
section TT
variable {p : Program} {l : Launch} {e : Env} {R : Room} {s : State} {m : MethodId} {args : Array Value} {below : List Frame} {meth : Method} {c : Code} {H : Heap} {locs : List Loc} {cells slots : Nat} {Q : State → Prop}
variable {cc : ByteArray} {pc : Nat} {ls : Array Slot} {rest st0 : List Value}
variable {y : MethodName} {bytes : ByteArray} {maxL nL n index mc ms : Nat} {ret : Option FieldType} {ws : List Cond} {rm : Room} {Pc : Array Value → State → Prop} {Ts : List Cond} {own C : String} {b : Addr} {As : List Value} {E0 : String}
theorem rv_V (S : CallFix p m c cc nL s args Ts own) (hM : Met l y ws rm Pc rv_Q 0 0 (fun _ => False)) (cw : CallW R s args own C index y bytes maxL ret ws rm 0 0 n) (hp : PreV s H C b Pc As)
    (hn : As.length = n) (hsize : ls.size = nL) (hstack : st0 = As.reverse ++ .ref b :: rest) (hW : (rest.map fun v => v.category).sum ≤ 8) (hdg : decode cc pc = .ok (.invokevirtual index, 3)) (hf : cells ≤ R.cells ∧ slots ≤ R.slots)
    (kk : W p l e R s m args below meth c H locs cells slots Q (F0 m (pc + 3) ls rest)) : W p l e R s m args below meth c H locs cells slots Q (F0 m pc ls st0) := by
  intro T hT X
  obtain ⟨v, st₀, t, T', L, h0, X', hL, e1, ⟨hv, hh⟩, st⟩ := W.runV (g := F0 m pc ls st0) S hM cw hp rfl hn hsize hstack (lv_room hW) hdg hf T hT X
  cases hv
  obtain ⟨t2, a1, b1⟩ := kk T' (by rw [e1, hh, h0]) (Stand.forget X' (fun q h => (hL q h).elim))
  exact ⟨t2, st t2 a1, b1⟩
theorem rv_r (hx : p.tables.exec = Jvm.exec) (hb : c.code = cc) (hr : meth.sig.returnType = none) (hlocks : meth.locks = false) (hdg : decode cc pc = .ok (.return_, 1)) : W p l e R s m args below meth c s.heap [] 0 0 (MQ below rv_Q args s 0 0 (fun _ => False)) (F0 m pc ls []) :=
  W.vret hx hb hr (fun t ht _ => ⟨rfl, ht⟩) (fun q h => absurd h List.not_mem_nil) hdg hlocks
/-- a throw at its place -/
theorem th_S (hx : p.tables.exec = Jvm.exec) (hb : c.code = cc) (hl : l.stackTraces = false) {cls text : String} {ik is ic tp : Nat} (hown : s.vm.findClass RX2 = some m.cls) (hcls : Bundle.fit cls = true)
    (hk : (Cond.classLink RX2 ik cls).before args s = true) (hini : (Cond.initialized cls).before args s = true) (hw : ∀ w ∈ (vx_atS RX2 ic cls xN).filter goodWord, w.before args s = true)
    (hng : ∀ w ∈ (vx_atS RX2 ic cls xN).filter (fun w => !goodWord w), w ∈ Cond.castable cls cls :: xD.map Cond.declares) (hgood : ∀ w ∈ Cond.classLink RX2 ik cls :: Cond.initialized cls :: vx_atS RX2 ic cls xN, vx_ot w = true)
    (hE : EV tp (fun _ => False) s s.heap) (hxe : cls ∈ xE) (htx : (is, text) ∈ sTx) (hsize : ls.size = c.maxLocals)
    (d0 : decode cc pc = .ok (.new ik, 3)) (d3 : decode cc (pc + 3) = .ok (.dup, 1)) (d4 : decode cc (pc + 4) = .ok (.ldc is, 2)) (d6 : decode cc (pc + 6) = .ok (.invokespecial ic, 3)) (d9 : decode cc (pc + 9) = .ok (.athrow, 1))
    (hno : ∀ x ∈ c.exceptionTable.toList, False) (hRf : 5 < R.frames) (hRl : (rest.map fun v => v.category).sum + 82 ≤ R.locals) (hRc : 1 ≤ R.cells) (hRs : 6 ≤ R.slots) (hlocks : meth.locks = false) :
    W p l e R s m args below meth c s.heap [] 0 0 (vx_MQ below noQ (thX cls) args s 1 6 (fun _ => False)) (F0 m pc ls rest) := by
  obtain ⟨h1, h2, h3, h4, h5, h6, h7⟩ := id hE
  obtain ⟨sa, hsa⟩ := h5 _ htx
  have hat : ∀ w ∈ vx_atS RX2 ic cls xN, w.before args s = true := vx_hat hw hng (fun w hw => by
    rcases List.mem_cons.mp hw with h | h
    · rw [h]; exact (h6 cls hxe).word
    · obtain ⟨x, hx, rfl⟩ := List.mem_map.mp h
      exact va_any rfl (h7 x hx))
  exact vx_throwS (names := xN) (text := text) (sa := sa) hx hb hl hown hcls (by decide) hk hini hsa hat hgood h3 h4 va_S.rf hsize d0 d3 d4 d6 d9 (fun x hx => (hno x hx).elim) hRf hRl (by omega) (by omega) hlocks
    (fun t _ h7 h8 => ⟨rfl, h7, h8⟩) (fun z hz => absurd hz List.not_mem_nil) (Nat.le_refl _) (Nat.le_refl _)
/-- a throw out of a callee -/
theorem th_V (S : CallFix p m c cc nL s args Ts own) (hM : TH l y ws rm Pc E0) (cw : CallW R s args own C index y bytes maxL ret ws rm 1 6 n) (hp : PreV s s.heap C b Pc As)
    (hn : As.length = n) (hsize : ls.size = nL) (hstack : st0 = As.reverse ++ .ref b :: rest) (hW : (rest.map fun v => v.category).sum ≤ 8) (hdg : decode cc pc = .ok (.invokevirtual index, 3)) (hf : 1 ≤ R.cells ∧ 6 ≤ R.slots) (hno : ∀ x ∈ c.exceptionTable.toList, False) (hlocks : meth.locks = false) :
    W p l e R s m args below meth c s.heap [] 0 0 (vx_MQ below noQ (thX E0) args s 1 6 (fun _ => False)) (F0 m pc ls st0) := by
  intro T hT X
  rcases vx_runV (g := F0 m pc ls st0) S hM cw hp rfl hn hsize hstack (lv_room hW) hdg ⟨by omega, by omega⟩ T hT X with ⟨v, st₀, t, T', L, h0, X', hL, e1, e2, hq, st⟩ | ⟨q, st₀, t, T', L, E, ce, h0, X', hL, e1, e2, ⟨hE, h7, h8⟩, hce, hcv, hcl, st⟩
  · exact hq.elim
  · rw [h0] at h7 h8
    have hLn : L = [] := by
      cases L with
      | nil => rfl
      | cons z L => exact (hL z List.mem_cons_self).elim
    subst hLn
    obtain ⟨t2, a1, b1⟩ := vx_out (H := T'.heap) (locs := []) (cells := 0 + 1) (slots := 0 + 6) (E := E) (ce := ce) (q := q) (Qc := noQ) (XC := thX E0) (mc := 1) (ms := 6) (free := fun _ => False) (pc := pc) (ls := ls) (rest := rest) (fun x hx => (hno x hx).elim) hlocks (by rw [e1]; exact hce) hcv hcl
      (fun t9 h9 _ => ⟨hE, by rw [h9, e1]; exact h7, fun q hq => by rw [h9, e1]; exact h8 q hq⟩) (fun z hz => absurd hz List.not_mem_nil) (by omega) (by omega) T' rfl X'
    exact ⟨t2, st.trans a1, b1⟩
end TT
end
section
theorem dX2_init_0 : decode cX2_init 0 = .ok (.aload_n 0, 1) := by decide +kernel
theorem dX2_init_1 : decode cX2_init 1 = .ok (.invokespecial 3, 3) := by decide +kernel
theorem dX2_init_4 : decode cX2_init 4 = .ok (.aload_n 0, 1) := by decide +kernel
theorem dX2_init_5 : decode cX2_init 5 = .ok (.new 9, 3) := by decide +kernel
theorem dX2_init_8 : decode cX2_init 8 = .ok (.dup, 1) := by decide +kernel
theorem dX2_init_9 : decode cX2_init 9 = .ok (.invokespecial 11, 3) := by decide +kernel
theorem dX2_init_12 : decode cX2_init 12 = .ok (.putfield 12, 3) := by decide +kernel
theorem dX2_init_15 : decode cX2_init 15 = .ok (.aload_n 0, 1) := by decide +kernel
theorem dX2_init_16 : decode cX2_init 16 = .ok (.new 16, 3) := by decide +kernel
theorem dX2_init_19 : decode cX2_init 19 = .ok (.dup, 1) := by decide +kernel
theorem dX2_init_20 : decode cX2_init 20 = .ok (.invokespecial 18, 3) := by decide +kernel
theorem dX2_init_23 : decode cX2_init 23 = .ok (.putfield 19, 3) := by decide +kernel
theorem dX2_init_26 : decode cX2_init 26 = .ok (.aload_n 0, 1) := by decide +kernel
theorem dX2_init_27 : decode cX2_init 27 = .ok (.new 16, 3) := by decide +kernel
theorem dX2_init_30 : decode cX2_init 30 = .ok (.dup, 1) := by decide +kernel
theorem dX2_init_31 : decode cX2_init 31 = .ok (.invokespecial 18, 3) := by decide +kernel
theorem dX2_init_34 : decode cX2_init 34 = .ok (.putfield 23, 3) := by decide +kernel
theorem dX2_init_37 : decode cX2_init 37 = .ok (.aload_n 0, 1) := by decide +kernel
theorem dX2_init_38 : decode cX2_init 38 = .ok (.iconst (-1), 1) := by decide +kernel
theorem dX2_init_39 : decode cX2_init 39 = .ok (.putfield 26, 3) := by decide +kernel
theorem dX2_init_42 : decode cX2_init 42 = .ok (.return_, 1) := by decide +kernel
theorem dX2_input_0 : decode cX2_input 0 = .ok (.aload_n 0, 1) := by decide +kernel
theorem dX2_input_1 : decode cX2_input 1 = .ok (.getfield 30, 3) := by decide +kernel
theorem dX2_input_4 : decode cX2_input 4 = .ok (.bipush 8, 2) := by decide +kernel
theorem dX2_input_6 : decode cX2_input 6 = .ok (.if_icmp .ne 13, 3) := by decide +kernel
theorem dX2_input_9 : decode cX2_input 9 = .ok (.new 33, 3) := by decide +kernel
theorem dX2_input_12 : decode cX2_input 12 = .ok (.dup, 1) := by decide +kernel
theorem dX2_input_13 : decode cX2_input 13 = .ok (.ldc 35, 2) := by decide +kernel
theorem dX2_input_15 : decode cX2_input 15 = .ok (.invokespecial 37, 3) := by decide +kernel
theorem dX2_input_18 : decode cX2_input 18 = .ok (.athrow, 1) := by decide +kernel
theorem dX2_input_19 : decode cX2_input 19 = .ok (.aload_n 0, 1) := by decide +kernel
theorem dX2_input_20 : decode cX2_input 20 = .ok (.invokevirtual 40, 3) := by decide +kernel
theorem dX2_input_23 : decode cX2_input 23 = .ok (.aload_n 0, 1) := by decide +kernel
theorem dX2_input_24 : decode cX2_input 24 = .ok (.getfield 12, 3) := by decide +kernel
theorem dX2_input_27 : decode cX2_input 27 = .ok (.aload_n 0, 1) := by decide +kernel
theorem dX2_input_28 : decode cX2_input 28 = .ok (.getfield 30, 3) := by decide +kernel
theorem dX2_input_31 : decode cX2_input 31 = .ok (.invokevirtual 43, 3) := by decide +kernel
theorem dX2_input_34 : decode cX2_input 34 = .ok (.istore_n 1, 1) := by decide +kernel
theorem dX2_input_35 : decode cX2_input 35 = .ok (.aload_n 0, 1) := by decide +kernel
theorem dX2_input_36 : decode cX2_input 36 = .ok (.dup, 1) := by decide +kernel
theorem dX2_input_37 : decode cX2_input 37 = .ok (.getfield 30, 3) := by decide +kernel
theorem dX2_input_40 : decode cX2_input 40 = .ok (.iconst 1, 1) := by decide +kernel
theorem dX2_input_41 : decode cX2_input 41 = .ok (.iadd, 1) := by decide +kernel
theorem dX2_input_42 : decode cX2_input 42 = .ok (.putfield 30, 3) := by decide +kernel
theorem dX2_input_45 : decode cX2_input 45 = .ok (.iload_n 1, 1) := by decide +kernel
theorem dX2_input_46 : decode cX2_input 46 = .ok (.ireturn, 1) := by decide +kernel
theorem dX2_latch_0 : decode cX2_latch 0 = .ok (.aload_n 0, 1) := by decide +kernel
theorem dX2_latch_1 : decode cX2_latch 1 = .ok (.getfield 47, 3) := by decide +kernel
theorem dX2_latch_4 : decode cX2_latch 4 = .ok (.iconst 4, 1) := by decide +kernel
theorem dX2_latch_5 : decode cX2_latch 5 = .ok (.if_icmp .ne 13, 3) := by decide +kernel
theorem dX2_latch_8 : decode cX2_latch 8 = .ok (.new 33, 3) := by decide +kernel
theorem dX2_latch_11 : decode cX2_latch 11 = .ok (.dup, 1) := by decide +kernel
theorem dX2_latch_12 : decode cX2_latch 12 = .ok (.ldc 50, 2) := by decide +kernel
theorem dX2_latch_14 : decode cX2_latch 14 = .ok (.invokespecial 37, 3) := by decide +kernel
theorem dX2_latch_17 : decode cX2_latch 17 = .ok (.athrow, 1) := by decide +kernel
theorem dX2_latch_18 : decode cX2_latch 18 = .ok (.aload_n 0, 1) := by decide +kernel
theorem dX2_latch_19 : decode cX2_latch 19 = .ok (.invokevirtual 40, 3) := by decide +kernel
theorem dX2_latch_22 : decode cX2_latch 22 = .ok (.aload_n 0, 1) := by decide +kernel
theorem dX2_latch_23 : decode cX2_latch 23 = .ok (.iload_n 1, 1) := by decide +kernel
theorem dX2_latch_24 : decode cX2_latch 24 = .ok (.invokevirtual 52, 3) := by decide +kernel
theorem dX2_latch_27 : decode cX2_latch 27 = .ok (.aload_n 0, 1) := by decide +kernel
theorem dX2_latch_28 : decode cX2_latch 28 = .ok (.iload_n 2, 1) := by decide +kernel
theorem dX2_latch_29 : decode cX2_latch 29 = .ok (.invokevirtual 52, 3) := by decide +kernel
theorem dX2_latch_32 : decode cX2_latch 32 = .ok (.aload_n 0, 1) := by decide +kernel
theorem dX2_latch_33 : decode cX2_latch 33 = .ok (.getfield 12, 3) := by decide +kernel
theorem dX2_latch_36 : decode cX2_latch 36 = .ok (.bipush 8, 2) := by decide +kernel
theorem dX2_latch_38 : decode cX2_latch 38 = .ok (.aload_n 0, 1) := by decide +kernel
theorem dX2_latch_39 : decode cX2_latch 39 = .ok (.getfield 47, 3) := by decide +kernel
theorem dX2_latch_42 : decode cX2_latch 42 = .ok (.iadd, 1) := by decide +kernel
theorem dX2_latch_43 : decode cX2_latch 43 = .ok (.invokevirtual 43, 3) := by decide +kernel
theorem dX2_latch_46 : decode cX2_latch 46 = .ok (.istore_n 3, 1) := by decide +kernel
theorem dX2_latch_47 : decode cX2_latch 47 = .ok (.aload_n 0, 1) := by decide +kernel
theorem dX2_latch_48 : decode cX2_latch 48 = .ok (.getfield 19, 3) := by decide +kernel
theorem dX2_latch_51 : decode cX2_latch 51 = .ok (.aload_n 0, 1) := by decide +kernel
theorem dX2_latch_52 : decode cX2_latch 52 = .ok (.getfield 47, 3) := by decide +kernel
theorem dX2_latch_55 : decode cX2_latch 55 = .ok (.iload_n 1, 1) := by decide +kernel
theorem dX2_latch_56 : decode cX2_latch 56 = .ok (.iload_n 3, 1) := by decide +kernel
theorem dX2_latch_57 : decode cX2_latch 57 = .ok (.invokevirtual 56, 3) := by decide +kernel
theorem dX2_latch_60 : decode cX2_latch 60 = .ok (.aload_n 0, 1) := by decide +kernel
theorem dX2_latch_61 : decode cX2_latch 61 = .ok (.getfield 23, 3) := by decide +kernel
theorem dX2_latch_64 : decode cX2_latch 64 = .ok (.aload_n 0, 1) := by decide +kernel
theorem dX2_latch_65 : decode cX2_latch 65 = .ok (.getfield 47, 3) := by decide +kernel
theorem dX2_latch_68 : decode cX2_latch 68 = .ok (.iload_n 2, 1) := by decide +kernel
theorem dX2_latch_69 : decode cX2_latch 69 = .ok (.iload_n 3, 1) := by decide +kernel
theorem dX2_latch_70 : decode cX2_latch 70 = .ok (.invokevirtual 56, 3) := by decide +kernel
theorem dX2_latch_73 : decode cX2_latch 73 = .ok (.aload_n 0, 1) := by decide +kernel
theorem dX2_latch_74 : decode cX2_latch 74 = .ok (.dup, 1) := by decide +kernel
theorem dX2_latch_75 : decode cX2_latch 75 = .ok (.getfield 47, 3) := by decide +kernel
theorem dX2_latch_78 : decode cX2_latch 78 = .ok (.iconst 1, 1) := by decide +kernel
theorem dX2_latch_79 : decode cX2_latch 79 = .ok (.iadd, 1) := by decide +kernel
theorem dX2_latch_80 : decode cX2_latch 80 = .ok (.putfield 47, 3) := by decide +kernel
theorem dX2_latch_83 : decode cX2_latch 83 = .ok (.aload_n 0, 1) := by decide +kernel
theorem dX2_latch_84 : decode cX2_latch 84 = .ok (.invokevirtual 60, 3) := by decide +kernel
theorem dX2_latch_87 : decode cX2_latch 87 = .ok (.iload_n 3, 1) := by decide +kernel
theorem dX2_latch_88 : decode cX2_latch 88 = .ok (.ireturn, 1) := by decide +kernel
theorem dX2_and_0 : decode cX2_and 0 = .ok (.aload_n 0, 1) := by decide +kernel
theorem dX2_and_1 : decode cX2_and 1 = .ok (.iload_n 1, 1) := by decide +kernel
theorem dX2_and_2 : decode cX2_and 2 = .ok (.invokevirtual 63, 3) := by decide +kernel
theorem dX2_and_5 : decode cX2_and 5 = .ok (.aload_n 0, 1) := by decide +kernel
theorem dX2_and_6 : decode cX2_and 6 = .ok (.iload_n 2, 1) := by decide +kernel
theorem dX2_and_7 : decode cX2_and 7 = .ok (.invokevirtual 66, 3) := by decide +kernel
theorem dX2_and_10 : decode cX2_and 10 = .ok (.aload_n 0, 1) := by decide +kernel
theorem dX2_and_11 : decode cX2_and 11 = .ok (.iload_n 3, 1) := by decide +kernel
theorem dX2_and_12 : decode cX2_and 12 = .ok (.invokevirtual 66, 3) := by decide +kernel
theorem dX2_and_15 : decode cX2_and 15 = .ok (.aload_n 0, 1) := by decide +kernel
theorem dX2_and_16 : decode cX2_and 16 = .ok (.invokevirtual 40, 3) := by decide +kernel
theorem dX2_and_19 : decode cX2_and 19 = .ok (.aload_n 0, 1) := by decide +kernel
theorem dX2_and_20 : decode cX2_and 20 = .ok (.iload_n 1, 1) := by decide +kernel
theorem dX2_and_21 : decode cX2_and 21 = .ok (.iload_n 2, 1) := by decide +kernel
theorem dX2_and_22 : decode cX2_and 22 = .ok (.invokevirtual 69, 3) := by decide +kernel
theorem dX2_and_25 : decode cX2_and 25 = .ok (.aload_n 0, 1) := by decide +kernel
theorem dX2_and_26 : decode cX2_and 26 = .ok (.iload_n 1, 1) := by decide +kernel
theorem dX2_and_27 : decode cX2_and 27 = .ok (.iload_n 3, 1) := by decide +kernel
theorem dX2_and_28 : decode cX2_and 28 = .ok (.invokevirtual 69, 3) := by decide +kernel
theorem dX2_and_31 : decode cX2_and 31 = .ok (.aload_n 0, 1) := by decide +kernel
theorem dX2_and_32 : decode cX2_and 32 = .ok (.getfield 12, 3) := by decide +kernel
theorem dX2_and_35 : decode cX2_and 35 = .ok (.iload_n 1, 1) := by decide +kernel
theorem dX2_and_36 : decode cX2_and 36 = .ok (.iload_n 2, 1) := by decide +kernel
theorem dX2_and_37 : decode cX2_and 37 = .ok (.iload_n 3, 1) := by decide +kernel
theorem dX2_and_38 : decode cX2_and 38 = .ok (.invokevirtual 73, 3) := by decide +kernel
theorem dX2_and_41 : decode cX2_and 41 = .ok (.ireturn, 1) := by decide +kernel
theorem dX2_output_0 : decode cX2_output 0 = .ok (.aload_n 0, 1) := by decide +kernel
theorem dX2_output_1 : decode cX2_output 1 = .ok (.iload_n 1, 1) := by decide +kernel
theorem dX2_output_2 : decode cX2_output 2 = .ok (.invokevirtual 63, 3) := by decide +kernel
theorem dX2_output_5 : decode cX2_output 5 = .ok (.aload_n 0, 1) := by decide +kernel
theorem dX2_output_6 : decode cX2_output 6 = .ok (.iload_n 2, 1) := by decide +kernel
theorem dX2_output_7 : decode cX2_output 7 = .ok (.invokevirtual 66, 3) := by decide +kernel
theorem dX2_output_10 : decode cX2_output 10 = .ok (.aload_n 0, 1) := by decide +kernel
theorem dX2_output_11 : decode cX2_output 11 = .ok (.iload_n 1, 1) := by decide +kernel
theorem dX2_output_12 : decode cX2_output 12 = .ok (.invokevirtual 77, 3) := by decide +kernel
theorem dX2_output_15 : decode cX2_output 15 = .ok (.astore_n 3, 1) := by decide +kernel
theorem dX2_output_16 : decode cX2_output 16 = .ok (.aload_n 3, 1) := by decide +kernel
theorem dX2_output_17 : decode cX2_output 17 = .ok (.getfield 81, 3) := by decide +kernel
theorem dX2_output_20 : decode cX2_output 20 = .ok (.bipush 16, 2) := by decide +kernel
theorem dX2_output_22 : decode cX2_output 22 = .ok (.if_icmp .ne 13, 3) := by decide +kernel
theorem dX2_output_25 : decode cX2_output 25 = .ok (.new 33, 3) := by decide +kernel
theorem dX2_output_28 : decode cX2_output 28 = .ok (.dup, 1) := by decide +kernel
theorem dX2_output_29 : decode cX2_output 29 = .ok (.ldc 84, 2) := by decide +kernel
theorem dX2_output_31 : decode cX2_output 31 = .ok (.invokespecial 37, 3) := by decide +kernel
theorem dX2_output_34 : decode cX2_output 34 = .ok (.athrow, 1) := by decide +kernel
theorem dX2_output_35 : decode cX2_output 35 = .ok (.aload_n 0, 1) := by decide +kernel
theorem dX2_output_36 : decode cX2_output 36 = .ok (.iload_n 1, 1) := by decide +kernel
theorem dX2_output_37 : decode cX2_output 37 = .ok (.iload_n 2, 1) := by decide +kernel
theorem dX2_output_38 : decode cX2_output 38 = .ok (.invokevirtual 69, 3) := by decide +kernel
theorem dX2_output_41 : decode cX2_output 41 = .ok (.aload_n 3, 1) := by decide +kernel
theorem dX2_output_42 : decode cX2_output 42 = .ok (.iload_n 2, 1) := by decide +kernel
theorem dX2_output_43 : decode cX2_output 43 = .ok (.invokevirtual 86, 3) := by decide +kernel
theorem dX2_output_46 : decode cX2_output 46 = .ok (.ireturn, 1) := by decide +kernel
theorem dX2_next_0 : decode cX2_next 0 = .ok (.aload_n 0, 1) := by decide +kernel
theorem dX2_next_1 : decode cX2_next 1 = .ok (.iload_n 1, 1) := by decide +kernel
theorem dX2_next_2 : decode cX2_next 2 = .ok (.invokevirtual 63, 3) := by decide +kernel
theorem dX2_next_5 : decode cX2_next 5 = .ok (.aload_n 0, 1) := by decide +kernel
theorem dX2_next_6 : decode cX2_next 6 = .ok (.iload_n 2, 1) := by decide +kernel
theorem dX2_next_7 : decode cX2_next 7 = .ok (.invokevirtual 89, 3) := by decide +kernel
theorem dX2_next_10 : decode cX2_next 10 = .ok (.aload_n 0, 1) := by decide +kernel
theorem dX2_next_11 : decode cX2_next 11 = .ok (.iload_n 3, 1) := by decide +kernel
theorem dX2_next_12 : decode cX2_next 12 = .ok (.invokevirtual 66, 3) := by decide +kernel
theorem dX2_next_15 : decode cX2_next 15 = .ok (.aload_n 0, 1) := by decide +kernel
theorem dX2_next_16 : decode cX2_next 16 = .ok (.iload_n 1, 1) := by decide +kernel
theorem dX2_next_17 : decode cX2_next 17 = .ok (.iload_n 3, 1) := by decide +kernel
theorem dX2_next_18 : decode cX2_next 18 = .ok (.invokevirtual 69, 3) := by decide +kernel
theorem dX2_next_21 : decode cX2_next 21 = .ok (.aload_n 0, 1) := by decide +kernel
theorem dX2_next_22 : decode cX2_next 22 = .ok (.iload_n 1, 1) := by decide +kernel
theorem dX2_next_23 : decode cX2_next 23 = .ok (.invokevirtual 77, 3) := by decide +kernel
theorem dX2_next_26 : decode cX2_next 26 = .ok (.astore 4, 2) := by decide +kernel
theorem dX2_next_28 : decode cX2_next 28 = .ok (.aload 4, 2) := by decide +kernel
theorem dX2_next_30 : decode cX2_next 30 = .ok (.getfield 92, 3) := by decide +kernel
theorem dX2_next_33 : decode cX2_next 33 = .ok (.iload_n 2, 1) := by decide +kernel
theorem dX2_next_34 : decode cX2_next 34 = .ok (.iaload, 1) := by decide +kernel
theorem dX2_next_35 : decode cX2_next 35 = .ok (.istore 5, 2) := by decide +kernel
theorem dX2_next_37 : decode cX2_next 37 = .ok (.aload 4, 2) := by decide +kernel
theorem dX2_next_39 : decode cX2_next 39 = .ok (.getfield 92, 3) := by decide +kernel
theorem dX2_next_42 : decode cX2_next 42 = .ok (.iload_n 2, 1) := by decide +kernel
theorem dX2_next_43 : decode cX2_next 43 = .ok (.iload_n 3, 1) := by decide +kernel
theorem dX2_next_44 : decode cX2_next 44 = .ok (.iastore, 1) := by decide +kernel
theorem dX2_next_45 : decode cX2_next 45 = .ok (.iload 5, 2) := by decide +kernel
theorem dX2_next_47 : decode cX2_next 47 = .ok (.ireturn, 1) := by decide +kernel
theorem dX2_same_0 : decode cX2_same 0 = .ok (.aload_n 0, 1) := by decide +kernel
theorem dX2_same_1 : decode cX2_same 1 = .ok (.iload_n 1, 1) := by decide +kernel
theorem dX2_same_2 : decode cX2_same 2 = .ok (.invokevirtual 66, 3) := by decide +kernel
theorem dX2_same_5 : decode cX2_same 5 = .ok (.aload_n 0, 1) := by decide +kernel
theorem dX2_same_6 : decode cX2_same 6 = .ok (.iload_n 2, 1) := by decide +kernel
theorem dX2_same_7 : decode cX2_same 7 = .ok (.invokevirtual 66, 3) := by decide +kernel
theorem dX2_same_10 : decode cX2_same 10 = .ok (.aload_n 0, 1) := by decide +kernel
theorem dX2_same_11 : decode cX2_same 11 = .ok (.getfield 12, 3) := by decide +kernel
theorem dX2_same_14 : decode cX2_same 14 = .ok (.iload_n 1, 1) := by decide +kernel
theorem dX2_same_15 : decode cX2_same 15 = .ok (.iload_n 2, 1) := by decide +kernel
theorem dX2_same_16 : decode cX2_same 16 = .ok (.invokevirtual 96, 3) := by decide +kernel
theorem dX2_same_19 : decode cX2_same 19 = .ok (.ireturn, 1) := by decide +kernel
theorem dX2_first_0 : decode cX2_first 0 = .ok (.aload_n 0, 1) := by decide +kernel
theorem dX2_first_1 : decode cX2_first 1 = .ok (.iload_n 1, 1) := by decide +kernel
theorem dX2_first_2 : decode cX2_first 2 = .ok (.invokevirtual 66, 3) := by decide +kernel
theorem dX2_first_5 : decode cX2_first 5 = .ok (.aload_n 0, 1) := by decide +kernel
theorem dX2_first_6 : decode cX2_first 6 = .ok (.getfield 12, 3) := by decide +kernel
theorem dX2_first_9 : decode cX2_first 9 = .ok (.iload_n 1, 1) := by decide +kernel
theorem dX2_first_10 : decode cX2_first 10 = .ok (.invokevirtual 100, 3) := by decide +kernel
theorem dX2_first_13 : decode cX2_first 13 = .ok (.ireturn, 1) := by decide +kernel
theorem dX2_classes_0 : decode cX2_classes 0 = .ok (.aload_n 0, 1) := by decide +kernel
theorem dX2_classes_1 : decode cX2_classes 1 = .ok (.getfield 12, 3) := by decide +kernel
theorem dX2_classes_4 : decode cX2_classes 4 = .ok (.invokevirtual 103, 3) := by decide +kernel
theorem dX2_classes_7 : decode cX2_classes 7 = .ok (.ireturn, 1) := by decide +kernel
theorem dX2_merged_0 : decode cX2_merged 0 = .ok (.aload_n 0, 1) := by decide +kernel
theorem dX2_merged_1 : decode cX2_merged 1 = .ok (.iload_n 1, 1) := by decide +kernel
theorem dX2_merged_2 : decode cX2_merged 2 = .ok (.invokevirtual 63, 3) := by decide +kernel
theorem dX2_merged_5 : decode cX2_merged 5 = .ok (.aload_n 0, 1) := by decide +kernel
theorem dX2_merged_6 : decode cX2_merged 6 = .ok (.getfield 12, 3) := by decide +kernel
theorem dX2_merged_9 : decode cX2_merged 9 = .ok (.iload_n 1, 1) := by decide +kernel
theorem dX2_merged_10 : decode cX2_merged 10 = .ok (.invokevirtual 107, 3) := by decide +kernel
theorem dX2_merged_13 : decode cX2_merged 13 = .ok (.ireturn, 1) := by decide +kernel
theorem dX2_hangs_0 : decode cX2_hangs 0 = .ok (.aload_n 0, 1) := by decide +kernel
theorem dX2_hangs_1 : decode cX2_hangs 1 = .ok (.iload_n 1, 1) := by decide +kernel
theorem dX2_hangs_2 : decode cX2_hangs 2 = .ok (.invokevirtual 66, 3) := by decide +kernel
theorem dX2_hangs_5 : decode cX2_hangs 5 = .ok (.aload_n 0, 1) := by decide +kernel
theorem dX2_hangs_6 : decode cX2_hangs 6 = .ok (.getfield 12, 3) := by decide +kernel
theorem dX2_hangs_9 : decode cX2_hangs 9 = .ok (.iload_n 1, 1) := by decide +kernel
theorem dX2_hangs_10 : decode cX2_hangs 10 = .ok (.invokevirtual 110, 3) := by decide +kernel
theorem dX2_hangs_13 : decode cX2_hangs 13 = .ok (.ireturn, 1) := by decide +kernel
theorem dX2_ones_0 : decode cX2_ones 0 = .ok (.aload_n 0, 1) := by decide +kernel
theorem dX2_ones_1 : decode cX2_ones 1 = .ok (.iload_n 1, 1) := by decide +kernel
theorem dX2_ones_2 : decode cX2_ones 2 = .ok (.invokevirtual 66, 3) := by decide +kernel
theorem dX2_ones_5 : decode cX2_ones 5 = .ok (.aload_n 0, 1) := by decide +kernel
theorem dX2_ones_6 : decode cX2_ones 6 = .ok (.getfield 12, 3) := by decide +kernel
theorem dX2_ones_9 : decode cX2_ones 9 = .ok (.iload_n 1, 1) := by decide +kernel
theorem dX2_ones_10 : decode cX2_ones 10 = .ok (.invokevirtual 113, 3) := by decide +kernel
theorem dX2_ones_13 : decode cX2_ones 13 = .ok (.bipush 12, 2) := by decide +kernel
theorem dX2_ones_15 : decode cX2_ones 15 = .ok (.aload_n 0, 1) := by decide +kernel
theorem dX2_ones_16 : decode cX2_ones 16 = .ok (.getfield 30, 3) := by decide +kernel
theorem dX2_ones_19 : decode cX2_ones 19 = .ok (.isub, 1) := by decide +kernel
theorem dX2_ones_20 : decode cX2_ones 20 = .ok (.aload_n 0, 1) := by decide +kernel
theorem dX2_ones_21 : decode cX2_ones 21 = .ok (.getfield 47, 3) := by decide +kernel
theorem dX2_ones_24 : decode cX2_ones 24 = .ok (.isub, 1) := by decide +kernel
theorem dX2_ones_25 : decode cX2_ones 25 = .ok (.ishr, 1) := by decide +kernel
theorem dX2_ones_26 : decode cX2_ones 26 = .ok (.ireturn, 1) := by decide +kernel
theorem dX2_value_0 : decode cX2_value 0 = .ok (.aload_n 0, 1) := by decide +kernel
theorem dX2_value_1 : decode cX2_value 1 = .ok (.iload_n 1, 1) := by decide +kernel
theorem dX2_value_2 : decode cX2_value 2 = .ok (.invokevirtual 66, 3) := by decide +kernel
theorem dX2_value_5 : decode cX2_value 5 = .ok (.aload_n 0, 1) := by decide +kernel
theorem dX2_value_6 : decode cX2_value 6 = .ok (.getfield 12, 3) := by decide +kernel
theorem dX2_value_9 : decode cX2_value 9 = .ok (.iload_n 1, 1) := by decide +kernel
theorem dX2_value_10 : decode cX2_value 10 = .ok (.iload_n 2, 1) := by decide +kernel
theorem dX2_value_11 : decode cX2_value 11 = .ok (.invokevirtual 116, 3) := by decide +kernel
theorem dX2_value_14 : decode cX2_value 14 = .ok (.ireturn, 1) := by decide +kernel
theorem dX2_differs_0 : decode cX2_differs 0 = .ok (.iload_n 1, 1) := by decide +kernel
theorem dX2_differs_1 : decode cX2_differs 1 = .ok (.ifCond .ge 13, 3) := by decide +kernel
theorem dX2_differs_4 : decode cX2_differs 4 = .ok (.new 120, 3) := by decide +kernel
theorem dX2_differs_7 : decode cX2_differs 7 = .ok (.dup, 1) := by decide +kernel
theorem dX2_differs_8 : decode cX2_differs 8 = .ok (.ldc 122, 2) := by decide +kernel
theorem dX2_differs_10 : decode cX2_differs 10 = .ok (.invokespecial 124, 3) := by decide +kernel
theorem dX2_differs_13 : decode cX2_differs 13 = .ok (.athrow, 1) := by decide +kernel
theorem dX2_differs_14 : decode cX2_differs 14 = .ok (.aload_n 0, 1) := by decide +kernel
theorem dX2_differs_15 : decode cX2_differs 15 = .ok (.invokevirtual 125, 3) := by decide +kernel
theorem dX2_differs_18 : decode cX2_differs 18 = .ok (.istore_n 2, 1) := by decide +kernel
theorem dX2_differs_19 : decode cX2_differs 19 = .ok (.aload_n 0, 1) := by decide +kernel
theorem dX2_differs_20 : decode cX2_differs 20 = .ok (.aload_n 0, 1) := by decide +kernel
theorem dX2_differs_21 : decode cX2_differs 21 = .ok (.getfield 19, 3) := by decide +kernel
theorem dX2_differs_24 : decode cX2_differs 24 = .ok (.getfield 128, 3) := by decide +kernel
theorem dX2_differs_27 : decode cX2_differs 27 = .ok (.aload_n 0, 1) := by decide +kernel
theorem dX2_differs_28 : decode cX2_differs 28 = .ok (.getfield 23, 3) := by decide +kernel
theorem dX2_differs_31 : decode cX2_differs 31 = .ok (.getfield 128, 3) := by decide +kernel
theorem dX2_differs_34 : decode cX2_differs 34 = .ok (.iload_n 2, 1) := by decide +kernel
theorem dX2_differs_35 : decode cX2_differs 35 = .ok (.invokevirtual 131, 3) := by decide +kernel
theorem dX2_differs_38 : decode cX2_differs 38 = .ok (.istore_n 3, 1) := by decide +kernel
theorem dX2_differs_39 : decode cX2_differs 39 = .ok (.iload_n 1, 1) := by decide +kernel
theorem dX2_differs_40 : decode cX2_differs 40 = .ok (.iload_n 3, 1) := by decide +kernel
theorem dX2_differs_41 : decode cX2_differs 41 = .ok (.if_icmp .ge 24, 3) := by decide +kernel
theorem dX2_differs_44 : decode cX2_differs 44 = .ok (.aload_n 0, 1) := by decide +kernel
theorem dX2_differs_45 : decode cX2_differs 45 = .ok (.aload_n 0, 1) := by decide +kernel
theorem dX2_differs_46 : decode cX2_differs 46 = .ok (.getfield 19, 3) := by decide +kernel
theorem dX2_differs_49 : decode cX2_differs 49 = .ok (.getfield 128, 3) := by decide +kernel
theorem dX2_differs_52 : decode cX2_differs 52 = .ok (.aload_n 0, 1) := by decide +kernel
theorem dX2_differs_53 : decode cX2_differs 53 = .ok (.getfield 23, 3) := by decide +kernel
theorem dX2_differs_56 : decode cX2_differs 56 = .ok (.getfield 128, 3) := by decide +kernel
theorem dX2_differs_59 : decode cX2_differs 59 = .ok (.iload_n 2, 1) := by decide +kernel
theorem dX2_differs_60 : decode cX2_differs 60 = .ok (.iload_n 1, 1) := by decide +kernel
theorem dX2_differs_61 : decode cX2_differs 61 = .ok (.invokevirtual 135, 3) := by decide +kernel
theorem dX2_differs_64 : decode cX2_differs 64 = .ok (.ireturn, 1) := by decide +kernel
theorem dX2_differs_65 : decode cX2_differs 65 = .ok (.iload_n 1, 1) := by decide +kernel
theorem dX2_differs_66 : decode cX2_differs 66 = .ok (.iload_n 3, 1) := by decide +kernel
theorem dX2_differs_67 : decode cX2_differs 67 = .ok (.isub, 1) := by decide +kernel
theorem dX2_differs_68 : decode cX2_differs 68 = .ok (.istore 4, 2) := by decide +kernel
theorem dX2_differs_70 : decode cX2_differs 70 = .ok (.aload_n 0, 1) := by decide +kernel
theorem dX2_differs_71 : decode cX2_differs 71 = .ok (.aload_n 0, 1) := by decide +kernel
theorem dX2_differs_72 : decode cX2_differs 72 = .ok (.getfield 19, 3) := by decide +kernel
theorem dX2_differs_75 : decode cX2_differs 75 = .ok (.getfield 92, 3) := by decide +kernel
theorem dX2_differs_78 : decode cX2_differs 78 = .ok (.aload_n 0, 1) := by decide +kernel
theorem dX2_differs_79 : decode cX2_differs 79 = .ok (.getfield 23, 3) := by decide +kernel
theorem dX2_differs_82 : decode cX2_differs 82 = .ok (.getfield 92, 3) := by decide +kernel
theorem dX2_differs_85 : decode cX2_differs 85 = .ok (.aload_n 0, 1) := by decide +kernel
theorem dX2_differs_86 : decode cX2_differs 86 = .ok (.getfield 47, 3) := by decide +kernel
theorem dX2_differs_89 : decode cX2_differs 89 = .ok (.invokevirtual 131, 3) := by decide +kernel
theorem dX2_differs_92 : decode cX2_differs 92 = .ok (.istore_n 3, 1) := by decide +kernel
theorem dX2_differs_93 : decode cX2_differs 93 = .ok (.iload 4, 2) := by decide +kernel
theorem dX2_differs_95 : decode cX2_differs 95 = .ok (.iload_n 3, 1) := by decide +kernel
theorem dX2_differs_96 : decode cX2_differs 96 = .ok (.if_icmp .ge 31, 3) := by decide +kernel
theorem dX2_differs_99 : decode cX2_differs 99 = .ok (.bipush 100, 2) := by decide +kernel
theorem dX2_differs_101 : decode cX2_differs 101 = .ok (.aload_n 0, 1) := by decide +kernel
theorem dX2_differs_102 : decode cX2_differs 102 = .ok (.aload_n 0, 1) := by decide +kernel
theorem dX2_differs_103 : decode cX2_differs 103 = .ok (.getfield 19, 3) := by decide +kernel
theorem dX2_differs_106 : decode cX2_differs 106 = .ok (.getfield 92, 3) := by decide +kernel
theorem dX2_differs_109 : decode cX2_differs 109 = .ok (.aload_n 0, 1) := by decide +kernel
theorem dX2_differs_110 : decode cX2_differs 110 = .ok (.getfield 23, 3) := by decide +kernel
theorem dX2_differs_113 : decode cX2_differs 113 = .ok (.getfield 92, 3) := by decide +kernel
theorem dX2_differs_116 : decode cX2_differs 116 = .ok (.aload_n 0, 1) := by decide +kernel
theorem dX2_differs_117 : decode cX2_differs 117 = .ok (.getfield 47, 3) := by decide +kernel
theorem dX2_differs_120 : decode cX2_differs 120 = .ok (.iload 4, 2) := by decide +kernel
theorem dX2_differs_122 : decode cX2_differs 122 = .ok (.invokevirtual 135, 3) := by decide +kernel
theorem dX2_differs_125 : decode cX2_differs 125 = .ok (.iadd, 1) := by decide +kernel
theorem dX2_differs_126 : decode cX2_differs 126 = .ok (.ireturn, 1) := by decide +kernel
theorem dX2_differs_127 : decode cX2_differs 127 = .ok (.aload_n 0, 1) := by decide +kernel
theorem dX2_differs_128 : decode cX2_differs 128 = .ok (.iload 4, 2) := by decide +kernel
theorem dX2_differs_130 : decode cX2_differs 130 = .ok (.iload_n 3, 1) := by decide +kernel
theorem dX2_differs_131 : decode cX2_differs 131 = .ok (.isub, 1) := by decide +kernel
theorem dX2_differs_132 : decode cX2_differs 132 = .ok (.invokevirtual 139, 3) := by decide +kernel
theorem dX2_differs_135 : decode cX2_differs 135 = .ok (.ireturn, 1) := by decide +kernel
theorem dX2_witness_0 : decode cX2_witness 0 = .ok (.iload_n 1, 1) := by decide +kernel
theorem dX2_witness_1 : decode cX2_witness 1 = .ok (.ifCond .lt 37, 3) := by decide +kernel
theorem dX2_witness_4 : decode cX2_witness 4 = .ok (.iload_n 1, 1) := by decide +kernel
theorem dX2_witness_5 : decode cX2_witness 5 = .ok (.aload_n 0, 1) := by decide +kernel
theorem dX2_witness_6 : decode cX2_witness 6 = .ok (.invokevirtual 125, 3) := by decide +kernel
theorem dX2_witness_9 : decode cX2_witness 9 = .ok (.if_icmp .ge 29, 3) := by decide +kernel
theorem dX2_witness_12 : decode cX2_witness 12 = .ok (.aload_n 0, 1) := by decide +kernel
theorem dX2_witness_13 : decode cX2_witness 13 = .ok (.getfield 12, 3) := by decide +kernel
theorem dX2_witness_16 : decode cX2_witness 16 = .ok (.aload_n 0, 1) := by decide +kernel
theorem dX2_witness_17 : decode cX2_witness 17 = .ok (.getfield 19, 3) := by decide +kernel
theorem dX2_witness_20 : decode cX2_witness 20 = .ok (.getfield 128, 3) := by decide +kernel
theorem dX2_witness_23 : decode cX2_witness 23 = .ok (.iload_n 1, 1) := by decide +kernel
theorem dX2_witness_24 : decode cX2_witness 24 = .ok (.iaload, 1) := by decide +kernel
theorem dX2_witness_25 : decode cX2_witness 25 = .ok (.aload_n 0, 1) := by decide +kernel
theorem dX2_witness_26 : decode cX2_witness 26 = .ok (.getfield 23, 3) := by decide +kernel
theorem dX2_witness_29 : decode cX2_witness 29 = .ok (.getfield 128, 3) := by decide +kernel
theorem dX2_witness_32 : decode cX2_witness 32 = .ok (.iload_n 1, 1) := by decide +kernel
theorem dX2_witness_33 : decode cX2_witness 33 = .ok (.iaload, 1) := by decide +kernel
theorem dX2_witness_34 : decode cX2_witness 34 = .ok (.invokevirtual 142, 3) := by decide +kernel
theorem dX2_witness_37 : decode cX2_witness 37 = .ok (.ireturn, 1) := by decide +kernel
theorem dX2_witness_38 : decode cX2_witness 38 = .ok (.iload_n 1, 1) := by decide +kernel
theorem dX2_witness_39 : decode cX2_witness 39 = .ok (.bipush 100, 2) := by decide +kernel
theorem dX2_witness_41 : decode cX2_witness 41 = .ok (.if_icmp .lt 45, 3) := by decide +kernel
theorem dX2_witness_44 : decode cX2_witness 44 = .ok (.iload_n 1, 1) := by decide +kernel
theorem dX2_witness_45 : decode cX2_witness 45 = .ok (.bipush 100, 2) := by decide +kernel
theorem dX2_witness_47 : decode cX2_witness 47 = .ok (.aload_n 0, 1) := by decide +kernel
theorem dX2_witness_48 : decode cX2_witness 48 = .ok (.getfield 47, 3) := by decide +kernel
theorem dX2_witness_51 : decode cX2_witness 51 = .ok (.iadd, 1) := by decide +kernel
theorem dX2_witness_52 : decode cX2_witness 52 = .ok (.if_icmp .ge 34, 3) := by decide +kernel
theorem dX2_witness_55 : decode cX2_witness 55 = .ok (.iload_n 1, 1) := by decide +kernel
theorem dX2_witness_56 : decode cX2_witness 56 = .ok (.bipush 100, 2) := by decide +kernel
theorem dX2_witness_58 : decode cX2_witness 58 = .ok (.isub, 1) := by decide +kernel
theorem dX2_witness_59 : decode cX2_witness 59 = .ok (.istore_n 2, 1) := by decide +kernel
theorem dX2_witness_60 : decode cX2_witness 60 = .ok (.aload_n 0, 1) := by decide +kernel
theorem dX2_witness_61 : decode cX2_witness 61 = .ok (.getfield 12, 3) := by decide +kernel
theorem dX2_witness_64 : decode cX2_witness 64 = .ok (.aload_n 0, 1) := by decide +kernel
theorem dX2_witness_65 : decode cX2_witness 65 = .ok (.getfield 19, 3) := by decide +kernel
theorem dX2_witness_68 : decode cX2_witness 68 = .ok (.getfield 92, 3) := by decide +kernel
theorem dX2_witness_71 : decode cX2_witness 71 = .ok (.iload_n 2, 1) := by decide +kernel
theorem dX2_witness_72 : decode cX2_witness 72 = .ok (.iaload, 1) := by decide +kernel
theorem dX2_witness_73 : decode cX2_witness 73 = .ok (.aload_n 0, 1) := by decide +kernel
theorem dX2_witness_74 : decode cX2_witness 74 = .ok (.getfield 23, 3) := by decide +kernel
theorem dX2_witness_77 : decode cX2_witness 77 = .ok (.getfield 92, 3) := by decide +kernel
theorem dX2_witness_80 : decode cX2_witness 80 = .ok (.iload_n 2, 1) := by decide +kernel
theorem dX2_witness_81 : decode cX2_witness 81 = .ok (.iaload, 1) := by decide +kernel
theorem dX2_witness_82 : decode cX2_witness 82 = .ok (.invokevirtual 142, 3) := by decide +kernel
theorem dX2_witness_85 : decode cX2_witness 85 = .ok (.ireturn, 1) := by decide +kernel
theorem dX2_witness_86 : decode cX2_witness 86 = .ok (.new 120, 3) := by decide +kernel
theorem dX2_witness_89 : decode cX2_witness 89 = .ok (.dup, 1) := by decide +kernel
theorem dX2_witness_90 : decode cX2_witness 90 = .ok (.ldc 145, 2) := by decide +kernel
theorem dX2_witness_92 : decode cX2_witness 92 = .ok (.invokespecial 124, 3) := by decide +kernel
theorem dX2_witness_95 : decode cX2_witness 95 = .ok (.athrow, 1) := by decide +kernel
theorem dX2_reset_0 : decode cX2_reset 0 = .ok (.aload_n 0, 1) := by decide +kernel
theorem dX2_reset_1 : decode cX2_reset 1 = .ok (.invokevirtual 60, 3) := by decide +kernel
theorem dX2_reset_4 : decode cX2_reset 4 = .ok (.return_, 1) := by decide +kernel
theorem dX2_step_0 : decode cX2_step 0 = .ok (.aload_n 0, 1) := by decide +kernel
theorem dX2_step_1 : decode cX2_step 1 = .ok (.getfield 19, 3) := by decide +kernel
theorem dX2_step_4 : decode cX2_step 4 = .ok (.aload_n 0, 1) := by decide +kernel
theorem dX2_step_5 : decode cX2_step 5 = .ok (.getfield 12, 3) := by decide +kernel
theorem dX2_step_8 : decode cX2_step 8 = .ok (.iload_n 1, 1) := by decide +kernel
theorem dX2_step_9 : decode cX2_step 9 = .ok (.aload_n 0, 1) := by decide +kernel
theorem dX2_step_10 : decode cX2_step 10 = .ok (.getfield 47, 3) := by decide +kernel
theorem dX2_step_13 : decode cX2_step 13 = .ok (.invokevirtual 147, 3) := by decide +kernel
theorem dX2_step_16 : decode cX2_step 16 = .ok (.aload_n 0, 1) := by decide +kernel
theorem dX2_step_17 : decode cX2_step 17 = .ok (.getfield 23, 3) := by decide +kernel
theorem dX2_step_20 : decode cX2_step 20 = .ok (.aload_n 0, 1) := by decide +kernel
theorem dX2_step_21 : decode cX2_step 21 = .ok (.getfield 12, 3) := by decide +kernel
theorem dX2_step_24 : decode cX2_step 24 = .ok (.iload_n 1, 1) := by decide +kernel
theorem dX2_step_25 : decode cX2_step 25 = .ok (.aload_n 0, 1) := by decide +kernel
theorem dX2_step_26 : decode cX2_step 26 = .ok (.getfield 47, 3) := by decide +kernel
theorem dX2_step_29 : decode cX2_step 29 = .ok (.invokevirtual 147, 3) := by decide +kernel
theorem dX2_step_32 : decode cX2_step 32 = .ok (.aload_n 0, 1) := by decide +kernel
theorem dX2_step_33 : decode cX2_step 33 = .ok (.getfield 26, 3) := by decide +kernel
theorem dX2_step_36 : decode cX2_step 36 = .ok (.iconst (-1), 1) := by decide +kernel
theorem dX2_step_37 : decode cX2_step 37 = .ok (.if_icmp .ne 18, 3) := by decide +kernel
theorem dX2_step_40 : decode cX2_step 40 = .ok (.aload_n 0, 1) := by decide +kernel
theorem dX2_step_41 : decode cX2_step 41 = .ok (.invokevirtual 151, 3) := by decide +kernel
theorem dX2_step_44 : decode cX2_step 44 = .ok (.ifCond .eq 11, 3) := by decide +kernel
theorem dX2_step_47 : decode cX2_step 47 = .ok (.aload_n 0, 1) := by decide +kernel
theorem dX2_step_48 : decode cX2_step 48 = .ok (.aload_n 0, 1) := by decide +kernel
theorem dX2_step_49 : decode cX2_step 49 = .ok (.getfield 155, 3) := by decide +kernel
theorem dX2_step_52 : decode cX2_step 52 = .ok (.putfield 26, 3) := by decide +kernel
theorem dX2_step_55 : decode cX2_step 55 = .ok (.aload_n 0, 1) := by decide +kernel
theorem dX2_step_56 : decode cX2_step 56 = .ok (.dup, 1) := by decide +kernel
theorem dX2_step_57 : decode cX2_step 57 = .ok (.getfield 155, 3) := by decide +kernel
theorem dX2_step_60 : decode cX2_step 60 = .ok (.iconst 1, 1) := by decide +kernel
end
section
theorem dX2_step_61 : decode cX2_step 61 = .ok (.iadd, 1) := by decide +kernel
theorem dX2_step_62 : decode cX2_step 62 = .ok (.putfield 155, 3) := by decide +kernel
theorem dX2_step_65 : decode cX2_step 65 = .ok (.aload_n 0, 1) := by decide +kernel
theorem dX2_step_66 : decode cX2_step 66 = .ok (.getfield 155, 3) := by decide +kernel
theorem dX2_step_69 : decode cX2_step 69 = .ok (.ireturn, 1) := by decide +kernel
theorem dX2_out_0 : decode cX2_out 0 = .ok (.aload_n 0, 1) := by decide +kernel
theorem dX2_out_1 : decode cX2_out 1 = .ok (.iload_n 1, 1) := by decide +kernel
theorem dX2_out_2 : decode cX2_out 2 = .ok (.invokevirtual 63, 3) := by decide +kernel
theorem dX2_out_5 : decode cX2_out 5 = .ok (.aload_n 0, 1) := by decide +kernel
theorem dX2_out_6 : decode cX2_out 6 = .ok (.iload_n 1, 1) := by decide +kernel
theorem dX2_out_7 : decode cX2_out 7 = .ok (.invokevirtual 77, 3) := by decide +kernel
theorem dX2_out_10 : decode cX2_out 10 = .ok (.astore_n 3, 1) := by decide +kernel
theorem dX2_out_11 : decode cX2_out 11 = .ok (.iload_n 2, 1) := by decide +kernel
theorem dX2_out_12 : decode cX2_out 12 = .ok (.ifCond .lt 11, 3) := by decide +kernel
theorem dX2_out_15 : decode cX2_out 15 = .ok (.iload_n 2, 1) := by decide +kernel
theorem dX2_out_16 : decode cX2_out 16 = .ok (.aload_n 3, 1) := by decide +kernel
theorem dX2_out_17 : decode cX2_out 17 = .ok (.getfield 81, 3) := by decide +kernel
theorem dX2_out_20 : decode cX2_out 20 = .ok (.if_icmp .lt 13, 3) := by decide +kernel
theorem dX2_out_23 : decode cX2_out 23 = .ok (.new 120, 3) := by decide +kernel
theorem dX2_out_26 : decode cX2_out 26 = .ok (.dup, 1) := by decide +kernel
theorem dX2_out_27 : decode cX2_out 27 = .ok (.ldc 158, 2) := by decide +kernel
theorem dX2_out_29 : decode cX2_out 29 = .ok (.invokespecial 124, 3) := by decide +kernel
theorem dX2_out_32 : decode cX2_out 32 = .ok (.athrow, 1) := by decide +kernel
theorem dX2_out_33 : decode cX2_out 33 = .ok (.iload_n 2, 1) := by decide +kernel
theorem dX2_out_34 : decode cX2_out 34 = .ok (.aload_n 3, 1) := by decide +kernel
theorem dX2_out_35 : decode cX2_out 35 = .ok (.getfield 160, 3) := by decide +kernel
theorem dX2_out_38 : decode cX2_out 38 = .ok (.if_icmp .ge 12, 3) := by decide +kernel
theorem dX2_out_41 : decode cX2_out 41 = .ok (.aload_n 3, 1) := by decide +kernel
theorem dX2_out_42 : decode cX2_out 42 = .ok (.getfield 163, 3) := by decide +kernel
theorem dX2_out_45 : decode cX2_out 45 = .ok (.iload_n 2, 1) := by decide +kernel
theorem dX2_out_46 : decode cX2_out 46 = .ok (.iaload, 1) := by decide +kernel
theorem dX2_out_47 : decode cX2_out 47 = .ok (.goto 4, 3) := by decide +kernel
theorem dX2_out_50 : decode cX2_out 50 = .ok (.iconst (-1), 1) := by decide +kernel
theorem dX2_out_51 : decode cX2_out 51 = .ok (.ireturn, 1) := by decide +kernel
theorem dX2_state_0 : decode cX2_state 0 = .ok (.aload_n 0, 1) := by decide +kernel
theorem dX2_state_1 : decode cX2_state 1 = .ok (.iload_n 1, 1) := by decide +kernel
theorem dX2_state_2 : decode cX2_state 2 = .ok (.invokevirtual 63, 3) := by decide +kernel
theorem dX2_state_5 : decode cX2_state 5 = .ok (.aload_n 0, 1) := by decide +kernel
theorem dX2_state_6 : decode cX2_state 6 = .ok (.iload_n 2, 1) := by decide +kernel
theorem dX2_state_7 : decode cX2_state 7 = .ok (.invokevirtual 89, 3) := by decide +kernel
theorem dX2_state_10 : decode cX2_state 10 = .ok (.aload_n 0, 1) := by decide +kernel
theorem dX2_state_11 : decode cX2_state 11 = .ok (.iload_n 1, 1) := by decide +kernel
theorem dX2_state_12 : decode cX2_state 12 = .ok (.invokevirtual 77, 3) := by decide +kernel
theorem dX2_state_15 : decode cX2_state 15 = .ok (.getfield 166, 3) := by decide +kernel
theorem dX2_state_18 : decode cX2_state 18 = .ok (.iload_n 2, 1) := by decide +kernel
theorem dX2_state_19 : decode cX2_state 19 = .ok (.ishr, 1) := by decide +kernel
theorem dX2_state_20 : decode cX2_state 20 = .ok (.iconst 1, 1) := by decide +kernel
theorem dX2_state_21 : decode cX2_state 21 = .ok (.iand, 1) := by decide +kernel
theorem dX2_state_22 : decode cX2_state 22 = .ok (.ireturn, 1) := by decide +kernel
theorem dX2_apart_0 : decode cX2_apart 0 = .ok (.aload_n 0, 1) := by decide +kernel
theorem dX2_apart_1 : decode cX2_apart 1 = .ok (.getfield 26, 3) := by decide +kernel
theorem dX2_apart_4 : decode cX2_apart 4 = .ok (.ireturn, 1) := by decide +kernel
theorem dX2_count_0 : decode cX2_count 0 = .ok (.iload_n 1, 1) := by decide +kernel
theorem dX2_count_1 : decode cX2_count 1 = .ok (.tableswitch 88 0 6 #[43, 51, 56, 61, 61, 72, 80], 43) := by decide +kernel
theorem dX2_count_44 : decode cX2_count 44 = .ok (.aload_n 0, 1) := by decide +kernel
theorem dX2_count_45 : decode cX2_count 45 = .ok (.getfield 12, 3) := by decide +kernel
theorem dX2_count_48 : decode cX2_count 48 = .ok (.getfield 169, 3) := by decide +kernel
theorem dX2_count_51 : decode cX2_count 51 = .ok (.ireturn, 1) := by decide +kernel
theorem dX2_count_52 : decode cX2_count 52 = .ok (.aload_n 0, 1) := by decide +kernel
theorem dX2_count_53 : decode cX2_count 53 = .ok (.getfield 30, 3) := by decide +kernel
theorem dX2_count_56 : decode cX2_count 56 = .ok (.ireturn, 1) := by decide +kernel
theorem dX2_count_57 : decode cX2_count 57 = .ok (.aload_n 0, 1) := by decide +kernel
theorem dX2_count_58 : decode cX2_count 58 = .ok (.getfield 47, 3) := by decide +kernel
theorem dX2_count_61 : decode cX2_count 61 = .ok (.ireturn, 1) := by decide +kernel
theorem dX2_count_62 : decode cX2_count 62 = .ok (.aload_n 0, 1) := by decide +kernel
theorem dX2_count_63 : decode cX2_count 63 = .ok (.getfield 12, 3) := by decide +kernel
theorem dX2_count_66 : decode cX2_count 66 = .ok (.iload_n 1, 1) := by decide +kernel
theorem dX2_count_67 : decode cX2_count 67 = .ok (.iconst 3, 1) := by decide +kernel
theorem dX2_count_68 : decode cX2_count 68 = .ok (.isub, 1) := by decide +kernel
theorem dX2_count_69 : decode cX2_count 69 = .ok (.invokevirtual 172, 3) := by decide +kernel
theorem dX2_count_72 : decode cX2_count 72 = .ok (.ireturn, 1) := by decide +kernel
theorem dX2_count_73 : decode cX2_count 73 = .ok (.aload_n 0, 1) := by decide +kernel
theorem dX2_count_74 : decode cX2_count 74 = .ok (.getfield 19, 3) := by decide +kernel
theorem dX2_count_77 : decode cX2_count 77 = .ok (.getfield 81, 3) := by decide +kernel
theorem dX2_count_80 : decode cX2_count 80 = .ok (.ireturn, 1) := by decide +kernel
theorem dX2_count_81 : decode cX2_count 81 = .ok (.aload_n 0, 1) := by decide +kernel
theorem dX2_count_82 : decode cX2_count 82 = .ok (.getfield 23, 3) := by decide +kernel
theorem dX2_count_85 : decode cX2_count 85 = .ok (.getfield 81, 3) := by decide +kernel
theorem dX2_count_88 : decode cX2_count 88 = .ok (.ireturn, 1) := by decide +kernel
theorem dX2_count_89 : decode cX2_count 89 = .ok (.new 120, 3) := by decide +kernel
theorem dX2_count_92 : decode cX2_count 92 = .ok (.dup, 1) := by decide +kernel
theorem dX2_count_93 : decode cX2_count 93 = .ok (.ldc 175, 2) := by decide +kernel
theorem dX2_count_95 : decode cX2_count 95 = .ok (.invokespecial 124, 3) := by decide +kernel
theorem dX2_count_98 : decode cX2_count 98 = .ok (.athrow, 1) := by decide +kernel
theorem dX2_clear_0 : decode cX2_clear 0 = .ok (.aload_n 0, 1) := by decide +kernel
theorem dX2_clear_1 : decode cX2_clear 1 = .ok (.getfield 12, 3) := by decide +kernel
theorem dX2_clear_4 : decode cX2_clear 4 = .ok (.invokevirtual 177, 3) := by decide +kernel
theorem dX2_clear_7 : decode cX2_clear 7 = .ok (.aload_n 0, 1) := by decide +kernel
theorem dX2_clear_8 : decode cX2_clear 8 = .ok (.getfield 19, 3) := by decide +kernel
theorem dX2_clear_11 : decode cX2_clear 11 = .ok (.invokevirtual 180, 3) := by decide +kernel
theorem dX2_clear_14 : decode cX2_clear 14 = .ok (.aload_n 0, 1) := by decide +kernel
theorem dX2_clear_15 : decode cX2_clear 15 = .ok (.getfield 23, 3) := by decide +kernel
theorem dX2_clear_18 : decode cX2_clear 18 = .ok (.invokevirtual 180, 3) := by decide +kernel
theorem dX2_clear_21 : decode cX2_clear 21 = .ok (.aload_n 0, 1) := by decide +kernel
theorem dX2_clear_22 : decode cX2_clear 22 = .ok (.iconst 0, 1) := by decide +kernel
theorem dX2_clear_23 : decode cX2_clear 23 = .ok (.putfield 30, 3) := by decide +kernel
theorem dX2_clear_26 : decode cX2_clear 26 = .ok (.aload_n 0, 1) := by decide +kernel
theorem dX2_clear_27 : decode cX2_clear 27 = .ok (.iconst 0, 1) := by decide +kernel
theorem dX2_clear_28 : decode cX2_clear 28 = .ok (.putfield 47, 3) := by decide +kernel
theorem dX2_clear_31 : decode cX2_clear 31 = .ok (.aload_n 0, 1) := by decide +kernel
theorem dX2_clear_32 : decode cX2_clear 32 = .ok (.invokevirtual 60, 3) := by decide +kernel
theorem dX2_clear_35 : decode cX2_clear 35 = .ok (.return_, 1) := by decide +kernel
theorem dX2_needSide_0 : decode cX2_needSide 0 = .ok (.iload_n 1, 1) := by decide +kernel
theorem dX2_needSide_1 : decode cX2_needSide 1 = .ok (.ifCond .eq 18, 3) := by decide +kernel
theorem dX2_needSide_4 : decode cX2_needSide 4 = .ok (.iload_n 1, 1) := by decide +kernel
theorem dX2_needSide_5 : decode cX2_needSide 5 = .ok (.iconst 1, 1) := by decide +kernel
theorem dX2_needSide_6 : decode cX2_needSide 6 = .ok (.if_icmp .eq 13, 3) := by decide +kernel
theorem dX2_needSide_9 : decode cX2_needSide 9 = .ok (.new 120, 3) := by decide +kernel
theorem dX2_needSide_12 : decode cX2_needSide 12 = .ok (.dup, 1) := by decide +kernel
theorem dX2_needSide_13 : decode cX2_needSide 13 = .ok (.ldc 181, 2) := by decide +kernel
theorem dX2_needSide_15 : decode cX2_needSide 15 = .ok (.invokespecial 124, 3) := by decide +kernel
theorem dX2_needSide_18 : decode cX2_needSide 18 = .ok (.athrow, 1) := by decide +kernel
theorem dX2_needSide_19 : decode cX2_needSide 19 = .ok (.return_, 1) := by decide +kernel
theorem dX2_needLiteral_0 : decode cX2_needLiteral 0 = .ok (.iload_n 1, 1) := by decide +kernel
theorem dX2_needLiteral_1 : decode cX2_needLiteral 1 = .ok (.ifCond .lt 16, 3) := by decide +kernel
theorem dX2_needLiteral_4 : decode cX2_needLiteral 4 = .ok (.iload_n 1, 1) := by decide +kernel
theorem dX2_needLiteral_5 : decode cX2_needLiteral 5 = .ok (.iconst 2, 1) := by decide +kernel
theorem dX2_needLiteral_6 : decode cX2_needLiteral 6 = .ok (.aload_n 0, 1) := by decide +kernel
theorem dX2_needLiteral_7 : decode cX2_needLiteral 7 = .ok (.getfield 12, 3) := by decide +kernel
theorem dX2_needLiteral_10 : decode cX2_needLiteral 10 = .ok (.getfield 169, 3) := by decide +kernel
theorem dX2_needLiteral_13 : decode cX2_needLiteral 13 = .ok (.imul, 1) := by decide +kernel
theorem dX2_needLiteral_14 : decode cX2_needLiteral 14 = .ok (.if_icmp .lt 13, 3) := by decide +kernel
theorem dX2_needLiteral_17 : decode cX2_needLiteral 17 = .ok (.new 120, 3) := by decide +kernel
theorem dX2_needLiteral_20 : decode cX2_needLiteral 20 = .ok (.dup, 1) := by decide +kernel
theorem dX2_needLiteral_21 : decode cX2_needLiteral 21 = .ok (.ldc 183, 2) := by decide +kernel
theorem dX2_needLiteral_23 : decode cX2_needLiteral 23 = .ok (.invokespecial 124, 3) := by decide +kernel
theorem dX2_needLiteral_26 : decode cX2_needLiteral 26 = .ok (.athrow, 1) := by decide +kernel
theorem dX2_needLiteral_27 : decode cX2_needLiteral 27 = .ok (.return_, 1) := by decide +kernel
theorem dX2_needLatch_0 : decode cX2_needLatch 0 = .ok (.iload_n 1, 1) := by decide +kernel
theorem dX2_needLatch_1 : decode cX2_needLatch 1 = .ok (.ifCond .lt 11, 3) := by decide +kernel
theorem dX2_needLatch_4 : decode cX2_needLatch 4 = .ok (.iload_n 1, 1) := by decide +kernel
theorem dX2_needLatch_5 : decode cX2_needLatch 5 = .ok (.aload_n 0, 1) := by decide +kernel
theorem dX2_needLatch_6 : decode cX2_needLatch 6 = .ok (.getfield 47, 3) := by decide +kernel
theorem dX2_needLatch_9 : decode cX2_needLatch 9 = .ok (.if_icmp .lt 13, 3) := by decide +kernel
theorem dX2_needLatch_12 : decode cX2_needLatch 12 = .ok (.new 120, 3) := by decide +kernel
theorem dX2_needLatch_15 : decode cX2_needLatch 15 = .ok (.dup, 1) := by decide +kernel
theorem dX2_needLatch_16 : decode cX2_needLatch 16 = .ok (.ldc 185, 2) := by decide +kernel
theorem dX2_needLatch_18 : decode cX2_needLatch 18 = .ok (.invokespecial 124, 3) := by decide +kernel
theorem dX2_needLatch_21 : decode cX2_needLatch 21 = .ok (.athrow, 1) := by decide +kernel
theorem dX2_needLatch_22 : decode cX2_needLatch 22 = .ok (.return_, 1) := by decide +kernel
theorem dX2_needStart_0 : decode cX2_needStart 0 = .ok (.iload_n 1, 1) := by decide +kernel
theorem dX2_needStart_1 : decode cX2_needStart 1 = .ok (.ifCond .eq 18, 3) := by decide +kernel
theorem dX2_needStart_4 : decode cX2_needStart 4 = .ok (.iload_n 1, 1) := by decide +kernel
theorem dX2_needStart_5 : decode cX2_needStart 5 = .ok (.iconst 1, 1) := by decide +kernel
theorem dX2_needStart_6 : decode cX2_needStart 6 = .ok (.if_icmp .eq 13, 3) := by decide +kernel
theorem dX2_needStart_9 : decode cX2_needStart 9 = .ok (.new 187, 3) := by decide +kernel
theorem dX2_needStart_12 : decode cX2_needStart 12 = .ok (.dup, 1) := by decide +kernel
theorem dX2_needStart_13 : decode cX2_needStart 13 = .ok (.ldc 189, 2) := by decide +kernel
theorem dX2_needStart_15 : decode cX2_needStart 15 = .ok (.invokespecial 191, 3) := by decide +kernel
theorem dX2_needStart_18 : decode cX2_needStart 18 = .ok (.athrow, 1) := by decide +kernel
theorem dX2_needStart_19 : decode cX2_needStart 19 = .ok (.return_, 1) := by decide +kernel
theorem dX2_needRoomForNode_0 : decode cX2_needRoomForNode 0 = .ok (.aload_n 0, 1) := by decide +kernel
theorem dX2_needRoomForNode_1 : decode cX2_needRoomForNode 1 = .ok (.getfield 12, 3) := by decide +kernel
theorem dX2_needRoomForNode_4 : decode cX2_needRoomForNode 4 = .ok (.getfield 169, 3) := by decide +kernel
theorem dX2_needRoomForNode_7 : decode cX2_needRoomForNode 7 = .ok (.sipush 400, 3) := by decide +kernel
theorem dX2_needRoomForNode_10 : decode cX2_needRoomForNode 10 = .ok (.if_icmp .ne 13, 3) := by decide +kernel
theorem dX2_needRoomForNode_13 : decode cX2_needRoomForNode 13 = .ok (.new 33, 3) := by decide +kernel
theorem dX2_needRoomForNode_16 : decode cX2_needRoomForNode 16 = .ok (.dup, 1) := by decide +kernel
theorem dX2_needRoomForNode_17 : decode cX2_needRoomForNode 17 = .ok (.ldc 192, 2) := by decide +kernel
theorem dX2_needRoomForNode_19 : decode cX2_needRoomForNode 19 = .ok (.invokespecial 37, 3) := by decide +kernel
theorem dX2_needRoomForNode_22 : decode cX2_needRoomForNode 22 = .ok (.athrow, 1) := by decide +kernel
theorem dX2_needRoomForNode_23 : decode cX2_needRoomForNode 23 = .ok (.return_, 1) := by decide +kernel
theorem dX2_needOwn_0 : decode cX2_needOwn 0 = .ok (.aload_n 0, 1) := by decide +kernel
theorem dX2_needOwn_1 : decode cX2_needOwn 1 = .ok (.getfield 12, 3) := by decide +kernel
theorem dX2_needOwn_4 : decode cX2_needOwn 4 = .ok (.iload_n 1, 1) := by decide +kernel
theorem dX2_needOwn_5 : decode cX2_needOwn 5 = .ok (.iload_n 2, 1) := by decide +kernel
theorem dX2_needOwn_6 : decode cX2_needOwn 6 = .ok (.invokevirtual 194, 3) := by decide +kernel
theorem dX2_needOwn_9 : decode cX2_needOwn 9 = .ok (.ifCond .eq 13, 3) := by decide +kernel
theorem dX2_needOwn_12 : decode cX2_needOwn 12 = .ok (.new 187, 3) := by decide +kernel
theorem dX2_needOwn_15 : decode cX2_needOwn 15 = .ok (.dup, 1) := by decide +kernel
theorem dX2_needOwn_16 : decode cX2_needOwn 16 = .ok (.ldc 197, 2) := by decide +kernel
theorem dX2_needOwn_18 : decode cX2_needOwn 18 = .ok (.invokespecial 191, 3) := by decide +kernel
theorem dX2_needOwn_21 : decode cX2_needOwn 21 = .ok (.athrow, 1) := by decide +kernel
theorem dX2_needOwn_22 : decode cX2_needOwn 22 = .ok (.return_, 1) := by decide +kernel
theorem dX2_designOf_0 : decode cX2_designOf 0 = .ok (.iload_n 1, 1) := by decide +kernel
theorem dX2_designOf_1 : decode cX2_designOf 1 = .ok (.ifCond .ne 10, 3) := by decide +kernel
theorem dX2_designOf_4 : decode cX2_designOf 4 = .ok (.aload_n 0, 1) := by decide +kernel
theorem dX2_designOf_5 : decode cX2_designOf 5 = .ok (.getfield 19, 3) := by decide +kernel
theorem dX2_designOf_8 : decode cX2_designOf 8 = .ok (.goto 7, 3) := by decide +kernel
theorem dX2_designOf_11 : decode cX2_designOf 11 = .ok (.aload_n 0, 1) := by decide +kernel
theorem dX2_designOf_12 : decode cX2_designOf 12 = .ok (.getfield 23, 3) := by decide +kernel
theorem dX2_designOf_15 : decode cX2_designOf 15 = .ok (.areturn, 1) := by decide +kernel
theorem dX2_backToStarts_0 : decode cX2_backToStarts 0 = .ok (.aload_n 0, 1) := by decide +kernel
theorem dX2_backToStarts_1 : decode cX2_backToStarts 1 = .ok (.getfield 19, 3) := by decide +kernel
theorem dX2_backToStarts_4 : decode cX2_backToStarts 4 = .ok (.invokevirtual 199, 3) := by decide +kernel
theorem dX2_backToStarts_7 : decode cX2_backToStarts 7 = .ok (.aload_n 0, 1) := by decide +kernel
theorem dX2_backToStarts_8 : decode cX2_backToStarts 8 = .ok (.getfield 23, 3) := by decide +kernel
theorem dX2_backToStarts_11 : decode cX2_backToStarts 11 = .ok (.invokevirtual 199, 3) := by decide +kernel
theorem dX2_backToStarts_14 : decode cX2_backToStarts 14 = .ok (.aload_n 0, 1) := by decide +kernel
theorem dX2_backToStarts_15 : decode cX2_backToStarts 15 = .ok (.iconst 0, 1) := by decide +kernel
theorem dX2_backToStarts_16 : decode cX2_backToStarts 16 = .ok (.putfield 155, 3) := by decide +kernel
theorem dX2_backToStarts_19 : decode cX2_backToStarts 19 = .ok (.aload_n 0, 1) := by decide +kernel
theorem dX2_backToStarts_20 : decode cX2_backToStarts 20 = .ok (.iconst (-1), 1) := by decide +kernel
theorem dX2_backToStarts_21 : decode cX2_backToStarts 21 = .ok (.putfield 26, 3) := by decide +kernel
theorem dX2_backToStarts_24 : decode cX2_backToStarts 24 = .ok (.return_, 1) := by decide +kernel
theorem dX2_sharedOutputs_0 : decode cX2_sharedOutputs 0 = .ok (.aload_n 0, 1) := by decide +kernel
theorem dX2_sharedOutputs_1 : decode cX2_sharedOutputs 1 = .ok (.getfield 19, 3) := by decide +kernel
theorem dX2_sharedOutputs_4 : decode cX2_sharedOutputs 4 = .ok (.getfield 81, 3) := by decide +kernel
theorem dX2_sharedOutputs_7 : decode cX2_sharedOutputs 7 = .ok (.aload_n 0, 1) := by decide +kernel
theorem dX2_sharedOutputs_8 : decode cX2_sharedOutputs 8 = .ok (.getfield 23, 3) := by decide +kernel
theorem dX2_sharedOutputs_11 : decode cX2_sharedOutputs 11 = .ok (.getfield 81, 3) := by decide +kernel
theorem dX2_sharedOutputs_14 : decode cX2_sharedOutputs 14 = .ok (.invokestatic 200, 3) := by decide +kernel
theorem dX2_sharedOutputs_17 : decode cX2_sharedOutputs 17 = .ok (.ireturn, 1) := by decide +kernel
theorem dX2_countDifferent_0 : decode cX2_countDifferent 0 = .ok (.iconst 0, 1) := by decide +kernel
theorem dX2_countDifferent_1 : decode cX2_countDifferent 1 = .ok (.istore 4, 2) := by decide +kernel
theorem dX2_countDifferent_3 : decode cX2_countDifferent 3 = .ok (.iconst 0, 1) := by decide +kernel
theorem dX2_countDifferent_4 : decode cX2_countDifferent 4 = .ok (.istore 5, 2) := by decide +kernel
theorem dX2_countDifferent_6 : decode cX2_countDifferent 6 = .ok (.iload 5, 2) := by decide +kernel
theorem dX2_countDifferent_8 : decode cX2_countDifferent 8 = .ok (.iload_n 3, 1) := by decide +kernel
theorem dX2_countDifferent_9 : decode cX2_countDifferent 9 = .ok (.if_icmp .ge 30, 3) := by decide +kernel
theorem dX2_countDifferent_12 : decode cX2_countDifferent 12 = .ok (.aload_n 0, 1) := by decide +kernel
theorem dX2_countDifferent_13 : decode cX2_countDifferent 13 = .ok (.getfield 12, 3) := by decide +kernel
theorem dX2_countDifferent_16 : decode cX2_countDifferent 16 = .ok (.aload_n 1, 1) := by decide +kernel
theorem dX2_countDifferent_17 : decode cX2_countDifferent 17 = .ok (.iload 5, 2) := by decide +kernel
theorem dX2_countDifferent_19 : decode cX2_countDifferent 19 = .ok (.iaload, 1) := by decide +kernel
theorem dX2_countDifferent_20 : decode cX2_countDifferent 20 = .ok (.aload_n 2, 1) := by decide +kernel
theorem dX2_countDifferent_21 : decode cX2_countDifferent 21 = .ok (.iload 5, 2) := by decide +kernel
theorem dX2_countDifferent_23 : decode cX2_countDifferent 23 = .ok (.iaload, 1) := by decide +kernel
theorem dX2_countDifferent_24 : decode cX2_countDifferent 24 = .ok (.invokevirtual 96, 3) := by decide +kernel
theorem dX2_countDifferent_27 : decode cX2_countDifferent 27 = .ok (.ifCond .ne 6, 3) := by decide +kernel
theorem dX2_countDifferent_30 : decode cX2_countDifferent 30 = .ok (.iinc 4 1, 3) := by decide +kernel
theorem dX2_countDifferent_33 : decode cX2_countDifferent 33 = .ok (.iinc 5 1, 3) := by decide +kernel
theorem dX2_countDifferent_36 : decode cX2_countDifferent 36 = .ok (.goto (-30), 3) := by decide +kernel
theorem dX2_countDifferent_39 : decode cX2_countDifferent 39 = .ok (.iload 4, 2) := by decide +kernel
theorem dX2_countDifferent_41 : decode cX2_countDifferent 41 = .ok (.ireturn, 1) := by decide +kernel
theorem dX2_placeOfDifferent_0 : decode cX2_placeOfDifferent 0 = .ok (.iload 4, 2) := by decide +kernel
theorem dX2_placeOfDifferent_2 : decode cX2_placeOfDifferent 2 = .ok (.istore 5, 2) := by decide +kernel
theorem dX2_placeOfDifferent_4 : decode cX2_placeOfDifferent 4 = .ok (.iconst 0, 1) := by decide +kernel
theorem dX2_placeOfDifferent_5 : decode cX2_placeOfDifferent 5 = .ok (.istore 6, 2) := by decide +kernel
theorem dX2_placeOfDifferent_7 : decode cX2_placeOfDifferent 7 = .ok (.iload 6, 2) := by decide +kernel
theorem dX2_placeOfDifferent_9 : decode cX2_placeOfDifferent 9 = .ok (.iload_n 3, 1) := by decide +kernel
theorem dX2_placeOfDifferent_10 : decode cX2_placeOfDifferent 10 = .ok (.if_icmp .ge 38, 3) := by decide +kernel
theorem dX2_placeOfDifferent_13 : decode cX2_placeOfDifferent 13 = .ok (.aload_n 0, 1) := by decide +kernel
theorem dX2_placeOfDifferent_14 : decode cX2_placeOfDifferent 14 = .ok (.getfield 12, 3) := by decide +kernel
theorem dX2_placeOfDifferent_17 : decode cX2_placeOfDifferent 17 = .ok (.aload_n 1, 1) := by decide +kernel
theorem dX2_placeOfDifferent_18 : decode cX2_placeOfDifferent 18 = .ok (.iload 6, 2) := by decide +kernel
theorem dX2_placeOfDifferent_20 : decode cX2_placeOfDifferent 20 = .ok (.iaload, 1) := by decide +kernel
theorem dX2_placeOfDifferent_21 : decode cX2_placeOfDifferent 21 = .ok (.aload_n 2, 1) := by decide +kernel
theorem dX2_placeOfDifferent_22 : decode cX2_placeOfDifferent 22 = .ok (.iload 6, 2) := by decide +kernel
theorem dX2_placeOfDifferent_24 : decode cX2_placeOfDifferent 24 = .ok (.iaload, 1) := by decide +kernel
theorem dX2_placeOfDifferent_25 : decode cX2_placeOfDifferent 25 = .ok (.invokevirtual 96, 3) := by decide +kernel
theorem dX2_placeOfDifferent_28 : decode cX2_placeOfDifferent 28 = .ok (.ifCond .ne 14, 3) := by decide +kernel
theorem dX2_placeOfDifferent_31 : decode cX2_placeOfDifferent 31 = .ok (.iload 5, 2) := by decide +kernel
theorem dX2_placeOfDifferent_33 : decode cX2_placeOfDifferent 33 = .ok (.ifCond .ne 6, 3) := by decide +kernel
theorem dX2_placeOfDifferent_36 : decode cX2_placeOfDifferent 36 = .ok (.iload 6, 2) := by decide +kernel
theorem dX2_placeOfDifferent_38 : decode cX2_placeOfDifferent 38 = .ok (.ireturn, 1) := by decide +kernel
theorem dX2_placeOfDifferent_39 : decode cX2_placeOfDifferent 39 = .ok (.iinc 5 (-1), 3) := by decide +kernel
theorem dX2_placeOfDifferent_42 : decode cX2_placeOfDifferent 42 = .ok (.iinc 6 1, 3) := by decide +kernel
theorem dX2_placeOfDifferent_45 : decode cX2_placeOfDifferent 45 = .ok (.goto (-38), 3) := by decide +kernel
theorem dX2_placeOfDifferent_48 : decode cX2_placeOfDifferent 48 = .ok (.iconst (-1), 1) := by decide +kernel
theorem dX2_placeOfDifferent_49 : decode cX2_placeOfDifferent 49 = .ok (.ireturn, 1) := by decide +kernel
theorem dX2_differentStartOrSize_0 : decode cX2_differentStartOrSize 0 = .ok (.iload_n 1, 1) := by decide +kernel
theorem dX2_differentStartOrSize_1 : decode cX2_differentStartOrSize 1 = .ok (.istore_n 2, 1) := by decide +kernel
theorem dX2_differentStartOrSize_2 : decode cX2_differentStartOrSize 2 = .ok (.aload_n 0, 1) := by decide +kernel
theorem dX2_differentStartOrSize_3 : decode cX2_differentStartOrSize 3 = .ok (.getfield 19, 3) := by decide +kernel
theorem dX2_differentStartOrSize_6 : decode cX2_differentStartOrSize 6 = .ok (.getfield 205, 3) := by decide +kernel
theorem dX2_differentStartOrSize_9 : decode cX2_differentStartOrSize 9 = .ok (.aload_n 0, 1) := by decide +kernel
theorem dX2_differentStartOrSize_10 : decode cX2_differentStartOrSize 10 = .ok (.getfield 23, 3) := by decide +kernel
theorem dX2_differentStartOrSize_13 : decode cX2_differentStartOrSize 13 = .ok (.getfield 205, 3) := by decide +kernel
theorem dX2_differentStartOrSize_16 : decode cX2_differentStartOrSize 16 = .ok (.ixor, 1) := by decide +kernel
theorem dX2_differentStartOrSize_17 : decode cX2_differentStartOrSize 17 = .ok (.istore_n 3, 1) := by decide +kernel
theorem dX2_differentStartOrSize_18 : decode cX2_differentStartOrSize 18 = .ok (.iconst 0, 1) := by decide +kernel
theorem dX2_differentStartOrSize_19 : decode cX2_differentStartOrSize 19 = .ok (.istore 4, 2) := by decide +kernel
theorem dX2_differentStartOrSize_21 : decode cX2_differentStartOrSize 21 = .ok (.iload 4, 2) := by decide +kernel
theorem dX2_differentStartOrSize_23 : decode cX2_differentStartOrSize 23 = .ok (.aload_n 0, 1) := by decide +kernel
theorem dX2_differentStartOrSize_24 : decode cX2_differentStartOrSize 24 = .ok (.getfield 47, 3) := by decide +kernel
theorem dX2_differentStartOrSize_27 : decode cX2_differentStartOrSize 27 = .ok (.if_icmp .ge 33, 3) := by decide +kernel
theorem dX2_differentStartOrSize_30 : decode cX2_differentStartOrSize 30 = .ok (.iload_n 3, 1) := by decide +kernel
theorem dX2_differentStartOrSize_31 : decode cX2_differentStartOrSize 31 = .ok (.iload 4, 2) := by decide +kernel
theorem dX2_differentStartOrSize_33 : decode cX2_differentStartOrSize 33 = .ok (.ishr, 1) := by decide +kernel
theorem dX2_differentStartOrSize_34 : decode cX2_differentStartOrSize 34 = .ok (.iconst 1, 1) := by decide +kernel
theorem dX2_differentStartOrSize_35 : decode cX2_differentStartOrSize 35 = .ok (.iand, 1) := by decide +kernel
theorem dX2_differentStartOrSize_36 : decode cX2_differentStartOrSize 36 = .ok (.iconst 1, 1) := by decide +kernel
theorem dX2_differentStartOrSize_37 : decode cX2_differentStartOrSize 37 = .ok (.if_icmp .ne 17, 3) := by decide +kernel
theorem dX2_differentStartOrSize_40 : decode cX2_differentStartOrSize 40 = .ok (.iload_n 2, 1) := by decide +kernel
theorem dX2_differentStartOrSize_41 : decode cX2_differentStartOrSize 41 = .ok (.ifCond .ne 10, 3) := by decide +kernel
theorem dX2_differentStartOrSize_44 : decode cX2_differentStartOrSize 44 = .ok (.sipush 200, 3) := by decide +kernel
theorem dX2_differentStartOrSize_47 : decode cX2_differentStartOrSize 47 = .ok (.iload 4, 2) := by decide +kernel
theorem dX2_differentStartOrSize_49 : decode cX2_differentStartOrSize 49 = .ok (.iadd, 1) := by decide +kernel
theorem dX2_differentStartOrSize_50 : decode cX2_differentStartOrSize 50 = .ok (.ireturn, 1) := by decide +kernel
theorem dX2_differentStartOrSize_51 : decode cX2_differentStartOrSize 51 = .ok (.iinc 2 (-1), 3) := by decide +kernel
theorem dX2_differentStartOrSize_54 : decode cX2_differentStartOrSize 54 = .ok (.iinc 4 1, 3) := by decide +kernel
theorem dX2_differentStartOrSize_57 : decode cX2_differentStartOrSize 57 = .ok (.goto (-36), 3) := by decide +kernel
theorem dX2_differentStartOrSize_60 : decode cX2_differentStartOrSize 60 = .ok (.iload_n 2, 1) := by decide +kernel
theorem dX2_differentStartOrSize_61 : decode cX2_differentStartOrSize 61 = .ok (.ifCond .ne 26, 3) := by decide +kernel
theorem dX2_differentStartOrSize_64 : decode cX2_differentStartOrSize 64 = .ok (.aload_n 0, 1) := by decide +kernel
theorem dX2_differentStartOrSize_65 : decode cX2_differentStartOrSize 65 = .ok (.getfield 19, 3) := by decide +kernel
theorem dX2_differentStartOrSize_68 : decode cX2_differentStartOrSize 68 = .ok (.getfield 81, 3) := by decide +kernel
theorem dX2_differentStartOrSize_71 : decode cX2_differentStartOrSize 71 = .ok (.aload_n 0, 1) := by decide +kernel
theorem dX2_differentStartOrSize_72 : decode cX2_differentStartOrSize 72 = .ok (.getfield 23, 3) := by decide +kernel
theorem dX2_differentStartOrSize_75 : decode cX2_differentStartOrSize 75 = .ok (.getfield 81, 3) := by decide +kernel
theorem dX2_differentStartOrSize_78 : decode cX2_differentStartOrSize 78 = .ok (.if_icmp .eq 9, 3) := by decide +kernel
theorem dX2_differentStartOrSize_81 : decode cX2_differentStartOrSize 81 = .ok (.sipush 300, 3) := by decide +kernel
theorem dX2_differentStartOrSize_84 : decode cX2_differentStartOrSize 84 = .ok (.goto 4, 3) := by decide +kernel
theorem dX2_differentStartOrSize_87 : decode cX2_differentStartOrSize 87 = .ok (.iconst (-1), 1) := by decide +kernel
theorem dX2_differentStartOrSize_88 : decode cX2_differentStartOrSize 88 = .ok (.ireturn, 1) := by decide +kernel
theorem dX2_showApart_0 : decode cX2_showApart 0 = .ok (.aload_n 0, 1) := by decide +kernel
theorem dX2_showApart_1 : decode cX2_showApart 1 = .ok (.getfield 19, 3) := by decide +kernel
theorem dX2_showApart_4 : decode cX2_showApart 4 = .ok (.getfield 160, 3) := by decide +kernel
theorem dX2_showApart_7 : decode cX2_showApart 7 = .ok (.aload_n 0, 1) := by decide +kernel
theorem dX2_showApart_8 : decode cX2_showApart 8 = .ok (.getfield 23, 3) := by decide +kernel
theorem dX2_showApart_11 : decode cX2_showApart 11 = .ok (.getfield 160, 3) := by decide +kernel
theorem dX2_showApart_14 : decode cX2_showApart 14 = .ok (.invokestatic 200, 3) := by decide +kernel
theorem dX2_showApart_17 : decode cX2_showApart 17 = .ok (.istore_n 1, 1) := by decide +kernel
theorem dX2_showApart_18 : decode cX2_showApart 18 = .ok (.iconst 0, 1) := by decide +kernel
theorem dX2_showApart_19 : decode cX2_showApart 19 = .ok (.istore_n 2, 1) := by decide +kernel
theorem dX2_showApart_20 : decode cX2_showApart 20 = .ok (.iload_n 2, 1) := by decide +kernel
theorem dX2_showApart_21 : decode cX2_showApart 21 = .ok (.iload_n 1, 1) := by decide +kernel
theorem dX2_showApart_22 : decode cX2_showApart 22 = .ok (.if_icmp .ge 32, 3) := by decide +kernel
theorem dX2_showApart_25 : decode cX2_showApart 25 = .ok (.aload_n 0, 1) := by decide +kernel
theorem dX2_showApart_26 : decode cX2_showApart 26 = .ok (.getfield 19, 3) := by decide +kernel
theorem dX2_showApart_29 : decode cX2_showApart 29 = .ok (.getfield 163, 3) := by decide +kernel
theorem dX2_showApart_32 : decode cX2_showApart 32 = .ok (.iload_n 2, 1) := by decide +kernel
theorem dX2_showApart_33 : decode cX2_showApart 33 = .ok (.iaload, 1) := by decide +kernel
theorem dX2_showApart_34 : decode cX2_showApart 34 = .ok (.aload_n 0, 1) := by decide +kernel
theorem dX2_showApart_35 : decode cX2_showApart 35 = .ok (.getfield 23, 3) := by decide +kernel
theorem dX2_showApart_38 : decode cX2_showApart 38 = .ok (.getfield 163, 3) := by decide +kernel
theorem dX2_showApart_41 : decode cX2_showApart 41 = .ok (.iload_n 2, 1) := by decide +kernel
theorem dX2_showApart_42 : decode cX2_showApart 42 = .ok (.iaload, 1) := by decide +kernel
theorem dX2_showApart_43 : decode cX2_showApart 43 = .ok (.if_icmp .eq 5, 3) := by decide +kernel
theorem dX2_showApart_46 : decode cX2_showApart 46 = .ok (.iconst 1, 1) := by decide +kernel
theorem dX2_showApart_47 : decode cX2_showApart 47 = .ok (.ireturn, 1) := by decide +kernel
theorem dX2_showApart_48 : decode cX2_showApart 48 = .ok (.iinc 2 1, 3) := by decide +kernel
theorem dX2_showApart_51 : decode cX2_showApart 51 = .ok (.goto (-31), 3) := by decide +kernel
theorem dX2_showApart_54 : decode cX2_showApart 54 = .ok (.iconst 0, 1) := by decide +kernel
theorem dX2_showApart_55 : decode cX2_showApart 55 = .ok (.ireturn, 1) := by decide +kernel
end
section
set_option maxRecDepth 20000 in
theorem ggX2_init_X1_init : GoodIn wsX2_init wsX1_init := goodIn_r _ [16, 17, 2, 3, 18, 19, 20, 21, 22, 23, 31, 32, 33, 34] (by decide +kernel) (by decide +kernel)
set_option maxRecDepth 20000 in
theorem gX2_init_X1_init : GoodIn wsX2_init (wsX1_init) := ggX2_init_X1_init
set_option maxRecDepth 20000 in
theorem ggX2_init_X0_init : GoodIn wsX2_init wsX0_init := goodIn_r _ [26, 27, 2, 3, 19, 28, 29, 30, 42, 43, 44, 45, 46, 47, 48] (by decide +kernel) (by decide +kernel)
set_option maxRecDepth 20000 in
theorem gX2_init_X0_init : GoodIn wsX2_init (wsX0_init) := ggX2_init_X0_init
set_option maxRecDepth 20000 in
theorem ggX2_input_X2_needRoomForNode : GoodIn wsX2_input wsX2_needRoomForNode := goodIn_ca (goodIn_r _ [9, 1, 2, 4, 10, 78, 79, 80, 81, 82, 83, 84, 85, 86, 87, 88] (by decide +kernel) (by decide +kernel)) (goodIn_sub (fun _ h => List.mem_cons_of_mem _ (List.mem_append_right _ h)) (by decide +kernel))
set_option maxRecDepth 20000 in
theorem gX2_input_X2_needRoomForNode : GoodIn wsX2_input (wsV RX2 40 RX2 yX2_needRoomForNode wsX2_needRoomForNode) := goodIn_app (goodIn_of _ (by decide +kernel)) ggX2_input_X2_needRoomForNode
set_option maxRecDepth 20000 in
theorem ggX2_input_X1_addVariable : GoodIn wsX2_input wsX1_addVariable := goodIn_r _ [15, 16, 17, 18, 19, 20, 14, 21, 22, 23, 24, 25, 26, 27, 28, 29, 30, 31, 32, 33, 34, 35, 36, 37, 38, 39, 40, 41, 42, 43, 44, 45, 46, 47, 48, 49, 50, 51, 52, 53, 54, 55, 56, 57, 58, 59, 60, 61, 62, 63, 64, 65, 66, 67, 68, 69, 70, 71, 72, 73, 74, 75, 76, 77, 85, 86, 87, 88] (by decide +kernel) (by decide +kernel)
set_option maxRecDepth 20000 in
theorem gX2_input_X1_addVariable : GoodIn wsX2_input (wsV RX2 43 RX1 yX1_addVariable wsX1_addVariable) := goodIn_app (goodIn_of _ (by decide +kernel)) ggX2_input_X1_addVariable
set_option maxRecDepth 20000 in
theorem ggX2_latch_X2_needRoomForNode : GoodIn wsX2_latch wsX2_needRoomForNode := goodIn_ca (goodIn_r _ [11, 1, 2, 4, 12, 105, 106, 107, 108, 109, 110, 111, 112, 113, 114, 115] (by decide +kernel) (by decide +kernel)) (goodIn_sub (fun _ h => List.mem_cons_of_mem _ (List.mem_append_left _ (List.mem_append_right _ h))) (by decide +kernel))
set_option maxRecDepth 20000 in
theorem gX2_latch_X2_needRoomForNode : GoodIn wsX2_latch (wsV RX2 40 RX2 yX2_needRoomForNode wsX2_needRoomForNode) := goodIn_app (goodIn_of _ (by decide +kernel)) ggX2_latch_X2_needRoomForNode
set_option maxRecDepth 20000 in
theorem ggX2_latch_X2_needStart : GoodIn wsX2_latch wsX2_needStart := goodIn_ca (goodIn_r _ [16, 17, 18] (by decide +kernel) (by decide +kernel)) (goodIn_sub (fun _ h => List.mem_cons_of_mem _ (List.mem_append_right _ h)) (by decide +kernel))
set_option maxRecDepth 20000 in
theorem gX2_latch_X2_needStart : GoodIn wsX2_latch (wsV RX2 52 RX2 yX2_needStart wsX2_needStart) := goodIn_app (goodIn_of _ (by decide +kernel)) ggX2_latch_X2_needStart
set_option maxRecDepth 20000 in
theorem ggX2_latch_X1_addVariable : GoodIn wsX2_latch wsX1_addVariable := goodIn_r _ [23, 24, 25, 26, 27, 28, 22, 29, 30, 31, 32, 33, 34, 35, 36, 37, 38, 39, 40, 41, 42, 43, 44, 45, 46, 47, 48, 49, 50, 51, 52, 53, 54, 55, 56, 57, 58, 59, 60, 61, 62, 63, 64, 65, 66, 67, 68, 69, 70, 71, 72, 73, 74, 75, 76, 77, 78, 79, 80, 81, 82, 83, 84, 85, 112, 113, 114, 115] (by decide +kernel) (by decide +kernel)
set_option maxRecDepth 20000 in
theorem gX2_latch_X1_addVariable : GoodIn wsX2_latch (wsV RX2 43 RX1 yX1_addVariable wsX1_addVariable) := goodIn_app (goodIn_of _ (by decide +kernel)) ggX2_latch_X1_addVariable
set_option maxRecDepth 20000 in
theorem ggX2_latch_X0_addLatch : GoodIn wsX2_latch wsX0_addLatch := goodIn_r _ [90, 91, 92, 116, 117, 118, 119, 120, 121, 122] (by decide +kernel) (by decide +kernel)
set_option maxRecDepth 20000 in
theorem gX2_latch_X0_addLatch : GoodIn wsX2_latch (wsV RX2 56 RX0 yX0_addLatch wsX0_addLatch) := goodIn_app (goodIn_of _ (by decide +kernel)) ggX2_latch_X0_addLatch
set_option maxRecDepth 20000 in
theorem ggX2_latch_X2_backToStarts : GoodIn wsX2_latch wsX2_backToStarts := goodIn_r _ [96, 5, 6, 97, 98, 99, 100, 101, 89, 102, 91, 103, 104, 105, 106, 107, 108, 109, 110, 111, 116, 117, 118, 119, 120, 121, 122] (by decide +kernel) (by decide +kernel)
set_option maxRecDepth 20000 in
theorem gX2_latch_X2_backToStarts : GoodIn wsX2_latch (wsV RX2 60 RX2 yX2_backToStarts wsX2_backToStarts) := goodIn_app (goodIn_of _ (by decide +kernel)) ggX2_latch_X2_backToStarts
set_option maxRecDepth 20000 in
theorem ggX2_and_X2_needSide : GoodIn wsX2_and wsX2_needSide := goodIn_ca (goodIn_r _ [6, 7, 8] (by decide +kernel) (by decide +kernel)) (goodIn_sub (fun _ h => List.mem_cons_of_mem _ (List.mem_append_left _ (List.mem_append_left _ (List.mem_append_right _ h)))) (by decide +kernel))
set_option maxRecDepth 20000 in
theorem gX2_and_X2_needSide : GoodIn wsX2_and (wsV RX2 63 RX2 yX2_needSide wsX2_needSide) := goodIn_app (goodIn_of _ (by decide +kernel)) ggX2_and_X2_needSide
set_option maxRecDepth 20000 in
theorem ggX2_and_X2_needLiteral : GoodIn wsX2_and wsX2_needLiteral := goodIn_ca (goodIn_r _ [12, 7, 8, 1, 13, 93, 94, 95, 96, 97, 98, 99, 100, 101, 102, 103] (by decide +kernel) (by decide +kernel)) (goodIn_sub (fun _ h => List.mem_cons_of_mem _ (List.mem_append_left _ (List.mem_append_left _ (List.mem_append_right _ h)))) (by decide +kernel))
set_option maxRecDepth 20000 in
theorem gX2_and_X2_needLiteral : GoodIn wsX2_and (wsV RX2 66 RX2 yX2_needLiteral wsX2_needLiteral) := goodIn_app (goodIn_of _ (by decide +kernel)) ggX2_and_X2_needLiteral
set_option maxRecDepth 20000 in
theorem ggX2_and_X2_needRoomForNode : GoodIn wsX2_and wsX2_needRoomForNode := goodIn_ca (goodIn_r _ [17, 18, 19, 1, 13, 93, 94, 95, 96, 97, 98, 99, 100, 101, 102, 103] (by decide +kernel) (by decide +kernel)) (goodIn_sub (fun _ h => List.mem_cons_of_mem _ (List.mem_append_left _ (List.mem_append_right _ h))) (by decide +kernel))
set_option maxRecDepth 20000 in
theorem gX2_and_X2_needRoomForNode : GoodIn wsX2_and (wsV RX2 40 RX2 yX2_needRoomForNode wsX2_needRoomForNode) := goodIn_app (goodIn_of _ (by decide +kernel)) ggX2_and_X2_needRoomForNode
set_option maxRecDepth 20000 in
theorem ggX2_and_X2_needOwn : GoodIn wsX2_and wsX2_needOwn := goodIn_ca (goodIn_r _ [23, 24, 25, 1, 26, 27, 28, 29, 30, 31, 93, 94, 95, 96, 97, 98, 99, 100, 101, 102, 103] (by decide +kernel) (by decide +kernel)) (goodIn_sub (fun _ h => List.mem_cons_of_mem _ (List.mem_append_right _ h)) (by decide +kernel))
set_option maxRecDepth 20000 in
theorem gX2_and_X2_needOwn : GoodIn wsX2_and (wsV RX2 69 RX2 yX2_needOwn wsX2_needOwn) := goodIn_app (goodIn_of _ (by decide +kernel)) ggX2_and_X2_needOwn
set_option maxRecDepth 20000 in
theorem ggX2_and_X1_addAnd : GoodIn wsX2_and wsX1_addAnd := goodIn_r _ [35, 36, 37, 38, 39, 40, 29, 41, 42, 43, 44, 45, 46, 47, 48, 49, 50, 51, 52, 53, 54, 55, 56, 57, 58, 59, 60, 61, 62, 63, 64, 65, 66, 67, 68, 69, 70, 31, 71, 72, 73, 74, 75, 76, 77, 78, 79, 80, 81, 82, 83, 84, 85, 86, 87, 88, 89, 90, 91, 92, 100, 101, 102, 103] (by decide +kernel) (by decide +kernel)
set_option maxRecDepth 20000 in
theorem gX2_and_X1_addAnd : GoodIn wsX2_and (wsV RX2 73 RX1 yX1_addAnd wsX1_addAnd) := goodIn_app (goodIn_of _ (by decide +kernel)) ggX2_and_X1_addAnd
set_option maxRecDepth 20000 in
theorem ggX2_output_X2_needSide : GoodIn wsX2_output wsX2_needSide := goodIn_ca (goodIn_r _ [8, 9, 10] (by decide +kernel) (by decide +kernel)) (goodIn_sub (fun _ h => List.mem_cons_of_mem _ (List.mem_append_left _ (List.mem_append_right _ h))) (by decide +kernel))
set_option maxRecDepth 20000 in
theorem gX2_output_X2_needSide : GoodIn wsX2_output (wsV RX2 63 RX2 yX2_needSide wsX2_needSide) := goodIn_app (goodIn_of _ (by decide +kernel)) ggX2_output_X2_needSide
set_option maxRecDepth 20000 in
theorem ggX2_output_X2_needLiteral : GoodIn wsX2_output wsX2_needLiteral := goodIn_ca (goodIn_r _ [14, 9, 10, 15, 16, 49, 50, 51, 52, 53, 54, 55, 56, 57, 58, 59] (by decide +kernel) (by decide +kernel)) (goodIn_sub (fun _ h => List.mem_cons_of_mem _ (List.mem_append_left _ (List.mem_append_right _ h))) (by decide +kernel))
set_option maxRecDepth 20000 in
theorem gX2_output_X2_needLiteral : GoodIn wsX2_output (wsV RX2 66 RX2 yX2_needLiteral wsX2_needLiteral) := goodIn_app (goodIn_of _ (by decide +kernel)) ggX2_output_X2_needLiteral
set_option maxRecDepth 20000 in
theorem ggX2_output_X2_designOf : GoodIn wsX2_output wsX2_designOf := goodIn_r _ [20, 21, 22, 49, 50, 51, 52, 53, 54, 55] (by decide +kernel) (by decide +kernel)
set_option maxRecDepth 20000 in
theorem gX2_output_X2_designOf : GoodIn wsX2_output (wsV RX2 77 RX2 yX2_designOf wsX2_designOf) := goodIn_app (goodIn_of _ (by decide +kernel)) ggX2_output_X2_designOf
set_option maxRecDepth 20000 in
theorem ggX2_output_X2_needOwn : GoodIn wsX2_output wsX2_needOwn := goodIn_ca (goodIn_r _ [26, 27, 28, 15, 29, 30, 31, 32, 33, 34, 49, 50, 51, 52, 53, 54, 55, 56, 57, 58, 59] (by decide +kernel) (by decide +kernel)) (goodIn_sub (fun _ h => List.mem_cons_of_mem _ (List.mem_append_right _ h)) (by decide +kernel))
set_option maxRecDepth 20000 in
theorem gX2_output_X2_needOwn : GoodIn wsX2_output (wsV RX2 69 RX2 yX2_needOwn wsX2_needOwn) := goodIn_app (goodIn_of _ (by decide +kernel)) ggX2_output_X2_needOwn
set_option maxRecDepth 20000 in
theorem ggX2_output_X0_addOutput : GoodIn wsX2_output wsX0_addOutput := goodIn_r _ [39, 40, 41, 42, 43, 44, 45, 46, 47, 48] (by decide +kernel) (by decide +kernel)
set_option maxRecDepth 20000 in
theorem gX2_output_X0_addOutput : GoodIn wsX2_output (wsV RX2 86 RX0 yX0_addOutput wsX0_addOutput) := goodIn_app (goodIn_of _ (by decide +kernel)) ggX2_output_X0_addOutput
set_option maxRecDepth 20000 in
theorem ggX2_next_X2_needSide : GoodIn wsX2_next wsX2_needSide := goodIn_ca (goodIn_r _ [6, 7, 8] (by decide +kernel) (by decide +kernel)) (goodIn_sub (fun _ h => List.mem_cons_of_mem _ (List.mem_append_left _ (List.mem_append_right _ h))) (by decide +kernel))
set_option maxRecDepth 20000 in
theorem gX2_next_X2_needSide : GoodIn wsX2_next (wsV RX2 63 RX2 yX2_needSide wsX2_needSide) := goodIn_app (goodIn_of _ (by decide +kernel)) ggX2_next_X2_needSide
end
section
set_option maxRecDepth 20000 in
theorem ggX2_next_X2_needLatch : GoodIn wsX2_next wsX2_needLatch := goodIn_ca (goodIn_r _ [12, 7, 8, 13, 45, 46, 47, 48, 49, 50, 51] (by decide +kernel) (by decide +kernel)) (goodIn_sub (fun _ h => List.mem_cons_of_mem _ (List.mem_append_left _ (List.mem_append_right _ h))) (by decide +kernel))
set_option maxRecDepth 20000 in
theorem gX2_next_X2_needLatch : GoodIn wsX2_next (wsV RX2 89 RX2 yX2_needLatch wsX2_needLatch) := goodIn_app (goodIn_of _ (by decide +kernel)) ggX2_next_X2_needLatch
set_option maxRecDepth 20000 in
theorem ggX2_next_X2_needLiteral : GoodIn wsX2_next wsX2_needLiteral := goodIn_ca (goodIn_r _ [17, 7, 8, 18, 19, 45, 46, 47, 48, 49, 50, 51, 52, 53, 54, 55] (by decide +kernel) (by decide +kernel)) (goodIn_sub (fun _ h => List.mem_cons_of_mem _ (List.mem_append_left _ (List.mem_append_right _ h))) (by decide +kernel))
set_option maxRecDepth 20000 in
theorem gX2_next_X2_needLiteral : GoodIn wsX2_next (wsV RX2 66 RX2 yX2_needLiteral wsX2_needLiteral) := goodIn_app (goodIn_of _ (by decide +kernel)) ggX2_next_X2_needLiteral
set_option maxRecDepth 20000 in
theorem ggX2_next_X2_needOwn : GoodIn wsX2_next wsX2_needOwn := goodIn_ca (goodIn_r _ [23, 24, 25, 18, 26, 27, 28, 29, 30, 31, 45, 46, 47, 48, 49, 50, 51, 52, 53, 54, 55] (by decide +kernel) (by decide +kernel)) (goodIn_sub (fun _ h => List.mem_cons_of_mem _ (List.mem_append_right _ h)) (by decide +kernel))
set_option maxRecDepth 20000 in
theorem gX2_next_X2_needOwn : GoodIn wsX2_next (wsV RX2 69 RX2 yX2_needOwn wsX2_needOwn) := goodIn_app (goodIn_of _ (by decide +kernel)) ggX2_next_X2_needOwn
set_option maxRecDepth 20000 in
theorem ggX2_next_X2_designOf : GoodIn wsX2_next wsX2_designOf := goodIn_r _ [35, 36, 37, 45, 46, 47, 48, 49, 50, 51] (by decide +kernel) (by decide +kernel)
set_option maxRecDepth 20000 in
theorem gX2_next_X2_designOf : GoodIn wsX2_next (wsV RX2 77 RX2 yX2_designOf wsX2_designOf) := goodIn_app (goodIn_of _ (by decide +kernel)) ggX2_next_X2_designOf
set_option maxRecDepth 20000 in
theorem ggX2_same_X2_needLiteral : GoodIn wsX2_same wsX2_needLiteral := goodIn_ca (goodIn_r _ [6, 7, 8, 1, 9, 20, 21, 22, 23, 24, 25, 26, 27, 28, 29, 30] (by decide +kernel) (by decide +kernel)) (goodIn_sub (fun _ h => List.mem_cons_of_mem _ (List.mem_append_right _ h)) (by decide +kernel))
set_option maxRecDepth 20000 in
theorem gX2_same_X2_needLiteral : GoodIn wsX2_same (wsV RX2 66 RX2 yX2_needLiteral wsX2_needLiteral) := goodIn_app (goodIn_of _ (by decide +kernel)) ggX2_same_X2_needLiteral
set_option maxRecDepth 20000 in
theorem ggX2_same_X1_areSame : GoodIn wsX2_same wsX1_areSame := goodIn_r _ [14, 15, 16, 17, 13, 18, 19, 27, 28, 29, 30] (by decide +kernel) (by decide +kernel)
set_option maxRecDepth 20000 in
theorem gX2_same_X1_areSame : GoodIn wsX2_same (wsV RX2 96 RX1 yX1_areSame wsX1_areSame) := goodIn_app (goodIn_of _ (by decide +kernel)) ggX2_same_X1_areSame
set_option maxRecDepth 20000 in
theorem ggX2_first_X2_needLiteral : GoodIn wsX2_first wsX2_needLiteral := goodIn_ca (goodIn_r _ [6, 7, 8, 1, 9, 16, 17, 18, 19, 20, 21, 22, 23, 24, 25, 26] (by decide +kernel) (by decide +kernel)) (goodIn_sub (fun _ h => List.mem_cons_of_mem _ (List.mem_append_right _ h)) (by decide +kernel))
set_option maxRecDepth 20000 in
theorem gX2_first_X2_needLiteral : GoodIn wsX2_first (wsV RX2 66 RX2 yX2_needLiteral wsX2_needLiteral) := goodIn_app (goodIn_of _ (by decide +kernel)) ggX2_first_X2_needLiteral
set_option maxRecDepth 20000 in
theorem ggX2_first_X1_firstOf : GoodIn wsX2_first wsX1_firstOf := goodIn_r _ [14, 15, 23, 24, 25, 26] (by decide +kernel) (by decide +kernel)
set_option maxRecDepth 20000 in
theorem gX2_first_X1_firstOf : GoodIn wsX2_first (wsV RX2 100 RX1 yX1_firstOf wsX1_firstOf) := goodIn_app (goodIn_of _ (by decide +kernel)) ggX2_first_X1_firstOf
set_option maxRecDepth 20000 in
theorem ggX2_classes_X1_countClasses : GoodIn wsX2_classes wsX1_countClasses := goodIn_r _ [6, 7, 8, 9, 10, 5, 11, 12, 20, 21, 22, 23] (by decide +kernel) (by decide +kernel)
set_option maxRecDepth 20000 in
theorem gX2_classes_X1_countClasses : GoodIn wsX2_classes (wsV RX2 103 RX1 yX1_countClasses wsX1_countClasses) := goodIn_app (goodIn_of _ (by decide +kernel)) ggX2_classes_X1_countClasses
set_option maxRecDepth 20000 in
theorem ggX2_merged_X2_needSide : GoodIn wsX2_merged wsX2_needSide := goodIn_ca (goodIn_r _ [6, 7, 8] (by decide +kernel) (by decide +kernel)) (goodIn_sub (fun _ h => List.mem_cons_of_mem _ (List.mem_append_right _ h)) (by decide +kernel))
set_option maxRecDepth 20000 in
theorem gX2_merged_X2_needSide : GoodIn wsX2_merged (wsV RX2 63 RX2 yX2_needSide wsX2_needSide) := goodIn_app (goodIn_of _ (by decide +kernel)) ggX2_merged_X2_needSide
set_option maxRecDepth 20000 in
theorem ggX2_merged_X1_countMerged : GoodIn wsX2_merged wsX1_countMerged := goodIn_r _ [13, 14, 15, 16, 17, 18, 12, 19, 20, 28, 29, 30, 31] (by decide +kernel) (by decide +kernel)
set_option maxRecDepth 20000 in
theorem gX2_merged_X1_countMerged : GoodIn wsX2_merged (wsV RX2 107 RX1 yX1_countMerged wsX1_countMerged) := goodIn_app (goodIn_of _ (by decide +kernel)) ggX2_merged_X1_countMerged
set_option maxRecDepth 20000 in
theorem ggX2_hangs_X2_needLiteral : GoodIn wsX2_hangs wsX2_needLiteral := goodIn_ca (goodIn_r _ [6, 7, 8, 1, 9, 30, 31, 32, 33, 34, 35, 36, 37, 38, 39, 40] (by decide +kernel) (by decide +kernel)) (goodIn_sub (fun _ h => List.mem_cons_of_mem _ (List.mem_append_right _ h)) (by decide +kernel))
set_option maxRecDepth 20000 in
theorem gX2_hangs_X2_needLiteral : GoodIn wsX2_hangs (wsV RX2 66 RX2 yX2_needLiteral wsX2_needLiteral) := goodIn_app (goodIn_of _ (by decide +kernel)) ggX2_hangs_X2_needLiteral
set_option maxRecDepth 20000 in
theorem ggX2_hangs_X1_supportOf : GoodIn wsX2_hangs wsX1_supportOf := goodIn_r _ [14, 15, 16, 17, 13, 18, 19, 20, 21, 22, 23, 24, 25, 26, 27, 28, 29, 37, 38, 39, 40] (by decide +kernel) (by decide +kernel)
set_option maxRecDepth 20000 in
theorem gX2_hangs_X1_supportOf : GoodIn wsX2_hangs (wsV RX2 110 RX1 yX1_supportOf wsX1_supportOf) := goodIn_app (goodIn_of _ (by decide +kernel)) ggX2_hangs_X1_supportOf
set_option maxRecDepth 20000 in
theorem ggX2_ones_X2_needLiteral : GoodIn wsX2_ones wsX2_needLiteral := goodIn_ca (goodIn_r _ [8, 9, 10, 1, 11, 30, 31, 32, 33, 34, 35, 36, 37, 38, 39, 40] (by decide +kernel) (by decide +kernel)) (goodIn_sub (fun _ h => List.mem_cons_of_mem _ (List.mem_append_right _ h)) (by decide +kernel))
set_option maxRecDepth 20000 in
theorem gX2_ones_X2_needLiteral : GoodIn wsX2_ones (wsV RX2 66 RX2 yX2_needLiteral wsX2_needLiteral) := goodIn_app (goodIn_of _ (by decide +kernel)) ggX2_ones_X2_needLiteral
set_option maxRecDepth 20000 in
theorem ggX2_ones_X1_countOnes : GoodIn wsX2_ones wsX1_countOnes := goodIn_r _ [16, 17, 18, 19, 15, 20, 21, 22, 23, 24, 25, 26, 27, 28, 29, 37, 38, 39, 40] (by decide +kernel) (by decide +kernel)
set_option maxRecDepth 20000 in
theorem gX2_ones_X1_countOnes : GoodIn wsX2_ones (wsV RX2 113 RX1 yX1_countOnes wsX1_countOnes) := goodIn_app (goodIn_of _ (by decide +kernel)) ggX2_ones_X1_countOnes
set_option maxRecDepth 20000 in
theorem ggX2_value_X2_needLiteral : GoodIn wsX2_value wsX2_needLiteral := goodIn_ca (goodIn_r _ [6, 7, 8, 1, 9, 21, 22, 23, 24, 25, 26, 27, 28, 29, 30, 31] (by decide +kernel) (by decide +kernel)) (goodIn_sub (fun _ h => List.mem_cons_of_mem _ (List.mem_append_right _ h)) (by decide +kernel))
set_option maxRecDepth 20000 in
theorem gX2_value_X2_needLiteral : GoodIn wsX2_value (wsV RX2 66 RX2 yX2_needLiteral wsX2_needLiteral) := goodIn_app (goodIn_of _ (by decide +kernel)) ggX2_value_X2_needLiteral
set_option maxRecDepth 20000 in
theorem ggX2_value_X1_valueIn : GoodIn wsX2_value wsX1_valueIn := goodIn_r _ [14, 15, 16, 17, 13, 18, 19, 20, 28, 29, 30, 31] (by decide +kernel) (by decide +kernel)
set_option maxRecDepth 20000 in
theorem gX2_value_X1_valueIn : GoodIn wsX2_value (wsV RX2 116 RX1 yX1_valueIn wsX1_valueIn) := goodIn_app (goodIn_of _ (by decide +kernel)) ggX2_value_X1_valueIn
set_option maxRecDepth 20000 in
theorem ggX2_differs_X2_sharedOutputs : GoodIn wsX2_differs wsX2_sharedOutputs := goodIn_r _ [12, 3, 13, 5, 14, 15, 16, 17, 42, 43, 44, 45, 46, 47, 48, 49, 50, 51, 52, 53, 54, 55] (by decide +kernel) (by decide +kernel)
set_option maxRecDepth 20000 in
theorem gX2_differs_X2_sharedOutputs : GoodIn wsX2_differs (wsV RX2 125 RX2 yX2_sharedOutputs wsX2_sharedOutputs) := goodIn_app (goodIn_of _ (by decide +kernel)) ggX2_differs_X2_sharedOutputs
set_option maxRecDepth 20000 in
theorem ggX2_differs_X2_countDifferent : GoodIn wsX2_differs wsX2_countDifferent := goodIn_r _ [21, 22, 23, 24, 25, 26, 27, 28, 29, 30, 31, 32, 42, 43, 44, 45, 46, 47, 48, 56, 57, 58, 59] (by decide +kernel) (by decide +kernel)
set_option maxRecDepth 20000 in
theorem gX2_differs_X2_countDifferent : GoodIn wsX2_differs (wsV RX2 131 RX2 yX2_countDifferent wsX2_countDifferent) := goodIn_app (goodIn_of _ (by decide +kernel)) ggX2_differs_X2_countDifferent
set_option maxRecDepth 20000 in
theorem ggX2_differs_X2_placeOfDifferent : GoodIn wsX2_differs wsX2_placeOfDifferent := goodIn_r _ [36, 22, 23, 24, 25, 26, 27, 28, 29, 30, 31, 32, 42, 43, 44, 45, 46, 47, 48, 56, 57, 58, 59] (by decide +kernel) (by decide +kernel)
set_option maxRecDepth 20000 in
theorem gX2_differs_X2_placeOfDifferent : GoodIn wsX2_differs (wsV RX2 135 RX2 yX2_placeOfDifferent wsX2_placeOfDifferent) := goodIn_app (goodIn_of _ (by decide +kernel)) ggX2_differs_X2_placeOfDifferent
end
section
set_option maxRecDepth 20000 in
theorem ggX2_differs_X2_differentStartOrSize : GoodIn wsX2_differs wsX2_differentStartOrSize := goodIn_r _ [40, 3, 41, 5, 7, 13, 42, 43, 44, 45, 46, 47, 48, 49, 50, 51, 52, 53, 54, 55] (by decide +kernel) (by decide +kernel)
set_option maxRecDepth 20000 in
theorem gX2_differs_X2_differentStartOrSize : GoodIn wsX2_differs (wsV RX2 139 RX2 yX2_differentStartOrSize wsX2_differentStartOrSize) := goodIn_app (goodIn_of _ (by decide +kernel)) ggX2_differs_X2_differentStartOrSize
set_option maxRecDepth 20000 in
theorem ggX2_witness_X2_sharedOutputs : GoodIn wsX2_witness wsX2_sharedOutputs := goodIn_r _ [13, 4, 14, 6, 15, 16, 17, 18, 39, 40, 41, 42, 43, 44, 45, 46, 47, 48, 49, 50, 51, 52] (by decide +kernel) (by decide +kernel)
set_option maxRecDepth 20000 in
theorem gX2_witness_X2_sharedOutputs : GoodIn wsX2_witness (wsV RX2 125 RX2 yX2_sharedOutputs wsX2_sharedOutputs) := goodIn_app (goodIn_of _ (by decide +kernel)) ggX2_witness_X2_sharedOutputs
set_option maxRecDepth 20000 in
theorem ggX2_witness_X1_leastDifference : GoodIn wsX2_witness wsX1_leastDifference := goodIn_r _ [23, 24, 25, 26, 22, 27, 28, 29, 30, 31, 32, 33, 34, 35, 36, 37, 38, 53, 54, 55, 56] (by decide +kernel) (by decide +kernel)
set_option maxRecDepth 20000 in
theorem gX2_witness_X1_leastDifference : GoodIn wsX2_witness (wsV RX2 142 RX1 yX1_leastDifference wsX1_leastDifference) := goodIn_app (goodIn_of _ (by decide +kernel)) ggX2_witness_X1_leastDifference
set_option maxRecDepth 20000 in
theorem ggX2_reset_X2_backToStarts : GoodIn wsX2_reset wsX2_backToStarts := goodIn_r _ [5, 6, 7, 8, 9, 10, 11, 12, 13, 14, 15, 16, 17, 18, 19, 20, 21, 22, 23, 24, 25, 26, 27, 28, 29, 30, 31] (by decide +kernel) (by decide +kernel)
set_option maxRecDepth 20000 in
theorem gX2_reset_X2_backToStarts : GoodIn wsX2_reset (wsV RX2 60 RX2 yX2_backToStarts wsX2_backToStarts) := goodIn_app (goodIn_of _ (by decide +kernel)) ggX2_reset_X2_backToStarts
set_option maxRecDepth 20000 in
theorem ggX2_step_X0_runStep : GoodIn wsX2_step wsX0_runStep := goodIn_r _ [11, 12, 13, 14, 15, 16, 17, 18, 19, 20, 21, 22, 23, 24, 25, 26, 27, 28, 47, 48, 49, 50, 51, 52, 53, 54, 55, 56, 57] (by decide +kernel) (by decide +kernel)
set_option maxRecDepth 20000 in
theorem gX2_step_X0_runStep : GoodIn wsX2_step (wsV RX2 147 RX0 yX0_runStep wsX0_runStep) := goodIn_app (goodIn_of _ (by decide +kernel)) ggX2_step_X0_runStep
set_option maxRecDepth 20000 in
theorem ggX2_step_X2_showApart : GoodIn wsX2_step wsX2_showApart := goodIn_r _ [33, 1, 34, 4, 35, 36, 37, 38, 39, 40, 41, 42, 43, 44, 45, 46, 47, 48, 49, 50, 51, 52, 53] (by decide +kernel) (by decide +kernel)
set_option maxRecDepth 20000 in
theorem gX2_step_X2_showApart : GoodIn wsX2_step (wsV RX2 151 RX2 yX2_showApart wsX2_showApart) := goodIn_app (goodIn_of _ (by decide +kernel)) ggX2_step_X2_showApart
set_option maxRecDepth 20000 in
theorem ggX2_out_X2_needSide : GoodIn wsX2_out wsX2_needSide := goodIn_ca (goodIn_r _ [10, 1, 2] (by decide +kernel) (by decide +kernel)) (goodIn_sub (fun _ h => List.mem_cons_of_mem _ (List.mem_append_right _ h)) (by decide +kernel))
set_option maxRecDepth 20000 in
theorem gX2_out_X2_needSide : GoodIn wsX2_out (wsV RX2 63 RX2 yX2_needSide wsX2_needSide) := goodIn_app (goodIn_of _ (by decide +kernel)) ggX2_out_X2_needSide
set_option maxRecDepth 20000 in
theorem ggX2_out_X2_designOf : GoodIn wsX2_out wsX2_designOf := goodIn_r _ [14, 15, 16, 24, 25, 26, 27, 28, 29, 30] (by decide +kernel) (by decide +kernel)
set_option maxRecDepth 20000 in
theorem gX2_out_X2_designOf : GoodIn wsX2_out (wsV RX2 77 RX2 yX2_designOf wsX2_designOf) := goodIn_app (goodIn_of _ (by decide +kernel)) ggX2_out_X2_designOf
set_option maxRecDepth 20000 in
theorem ggX2_state_X2_needSide : GoodIn wsX2_state wsX2_needSide := goodIn_ca (goodIn_r _ [6, 7, 8] (by decide +kernel) (by decide +kernel)) (goodIn_sub (fun _ h => List.mem_cons_of_mem _ (List.mem_append_right _ h)) (by decide +kernel))
set_option maxRecDepth 20000 in
theorem gX2_state_X2_needSide : GoodIn wsX2_state (wsV RX2 63 RX2 yX2_needSide wsX2_needSide) := goodIn_app (goodIn_of _ (by decide +kernel)) ggX2_state_X2_needSide
set_option maxRecDepth 20000 in
theorem ggX2_state_X2_needLatch : GoodIn wsX2_state wsX2_needLatch := goodIn_ca (goodIn_r _ [12, 7, 8, 13, 27, 28, 29, 30, 31, 32, 33] (by decide +kernel) (by decide +kernel)) (goodIn_sub (fun _ h => List.mem_cons_of_mem _ (List.mem_append_right _ h)) (by decide +kernel))
set_option maxRecDepth 20000 in
theorem gX2_state_X2_needLatch : GoodIn wsX2_state (wsV RX2 89 RX2 yX2_needLatch wsX2_needLatch) := goodIn_app (goodIn_of _ (by decide +kernel)) ggX2_state_X2_needLatch
set_option maxRecDepth 20000 in
theorem ggX2_state_X2_designOf : GoodIn wsX2_state wsX2_designOf := goodIn_r _ [17, 18, 19, 27, 28, 29, 30, 31, 32, 33] (by decide +kernel) (by decide +kernel)
set_option maxRecDepth 20000 in
theorem gX2_state_X2_designOf : GoodIn wsX2_state (wsV RX2 77 RX2 yX2_designOf wsX2_designOf) := goodIn_app (goodIn_of _ (by decide +kernel)) ggX2_state_X2_designOf
set_option maxRecDepth 20000 in
theorem ggX2_count_X1_countAnds : GoodIn wsX2_count wsX1_countAnds := goodIn_r _ [14, 15, 16, 24, 25, 26, 27] (by decide +kernel) (by decide +kernel)
set_option maxRecDepth 20000 in
theorem gX2_count_X1_countAnds : GoodIn wsX2_count (wsV RX2 172 RX1 yX1_countAnds wsX1_countAnds) := goodIn_app (goodIn_of _ (by decide +kernel)) ggX2_count_X1_countAnds
set_option maxRecDepth 20000 in
theorem ggX2_clear_X1_forget : GoodIn wsX2_clear wsX1_forget := goodIn_r _ [10, 11, 39, 40, 41, 42] (by decide +kernel) (by decide +kernel)
set_option maxRecDepth 20000 in
theorem gX2_clear_X1_forget : GoodIn wsX2_clear (wsV RX2 177 RX1 yX1_forget wsX1_forget) := goodIn_app (goodIn_of _ (by decide +kernel)) ggX2_clear_X1_forget
set_option maxRecDepth 20000 in
theorem ggX2_clear_X0_forget : GoodIn wsX2_clear wsX0_forget := goodIn_r _ [16, 17, 18, 43, 44, 45, 46, 47, 48, 49] (by decide +kernel) (by decide +kernel)
set_option maxRecDepth 20000 in
theorem gX2_clear_X0_forget : GoodIn wsX2_clear (wsV RX2 180 RX0 yX0_forget wsX0_forget) := goodIn_app (goodIn_of _ (by decide +kernel)) ggX2_clear_X0_forget
set_option maxRecDepth 20000 in
theorem ggX2_clear_X2_backToStarts : GoodIn wsX2_clear wsX2_backToStarts := goodIn_r _ [23, 2, 3, 24, 25, 26, 27, 28, 15, 29, 18, 30, 31, 32, 33, 34, 35, 36, 37, 38, 43, 44, 45, 46, 47, 48, 49] (by decide +kernel) (by decide +kernel)
set_option maxRecDepth 20000 in
theorem gX2_clear_X2_backToStarts : GoodIn wsX2_clear (wsV RX2 60 RX2 yX2_backToStarts wsX2_backToStarts) := goodIn_app (goodIn_of _ (by decide +kernel)) ggX2_clear_X2_backToStarts
set_option maxRecDepth 20000 in
theorem ggX2_needOwn_X1_isOfOtherSide : GoodIn wsX2_needOwn wsX1_isOfOtherSide := goodIn_r _ [8, 9, 17, 18, 19, 20] (by decide +kernel) (by decide +kernel)
set_option maxRecDepth 20000 in
theorem gX2_needOwn_X1_isOfOtherSide : GoodIn wsX2_needOwn (wsV RX2 194 RX1 yX1_isOfOtherSide wsX1_isOfOtherSide) := goodIn_app (goodIn_of _ (by decide +kernel)) ggX2_needOwn_X1_isOfOtherSide
set_option maxRecDepth 20000 in
theorem ggX2_backToStarts_X0_backToStarts : GoodIn wsX2_backToStarts wsX0_backToStarts := goodIn_r _ [9, 10, 11, 12, 20, 21, 22, 23, 24, 25, 26] (by decide +kernel) (by decide +kernel)
set_option maxRecDepth 20000 in
theorem gX2_backToStarts_X0_backToStarts : GoodIn wsX2_backToStarts (wsV RX2 199 RX0 yX0_backToStarts wsX0_backToStarts) := goodIn_app (goodIn_of _ (by decide +kernel)) ggX2_backToStarts_X0_backToStarts
set_option maxRecDepth 20000 in
theorem ggX2_countDifferent_X1_areSame : GoodIn wsX2_countDifferent wsX1_areSame := goodIn_r _ [6, 7, 8, 9, 5, 10, 11, 19, 20, 21, 22] (by decide +kernel) (by decide +kernel)
set_option maxRecDepth 20000 in
theorem gX2_countDifferent_X1_areSame : GoodIn wsX2_countDifferent (wsV RX2 96 RX1 yX1_areSame wsX1_areSame) := goodIn_app (goodIn_of _ (by decide +kernel)) ggX2_countDifferent_X1_areSame
set_option maxRecDepth 20000 in
theorem ggX2_placeOfDifferent_X1_areSame : GoodIn wsX2_placeOfDifferent wsX1_areSame := goodIn_r _ [6, 7, 8, 9, 5, 10, 11, 19, 20, 21, 22] (by decide +kernel) (by decide +kernel)
set_option maxRecDepth 20000 in
theorem gX2_placeOfDifferent_X1_areSame : GoodIn wsX2_placeOfDifferent (wsV RX2 96 RX1 yX1_areSame wsX1_areSame) := goodIn_app (goodIn_of _ (by decide +kernel)) ggX2_placeOfDifferent_X1_areSame
end
section
/-! SweepEqual: its thirteen cells; the words of its throws. -/
abbrev xW (h hn ow fi ro ha oa na sa he ob nb sb : Nat) (cI cJ : ClassId) (ic lc stp : Nat) (ap : Int32) (cnt len : Nat) (fo ff : Nat → Int32) (fr : Nat → Int64) (oA cA rA tA : Nat) (gA nA : Nat → Nat) (sA : Nat → Int32) (oB cB rB tB : Nat) (gB nB : Nat → Nat) (sB : Nat → Int32) : va_W :=
  (h, .inr (2, [.ref hn, .ref ha, .ref he, .int (nI ic), .int (nI lc), .int (nI stp), .int ap])) :: (nW hn ow fi ro cI cJ cnt len fo ff fr ++ (dW ha oa na sa cI oA cA rA tA gA nA sA ++ dW he ob nb sb cI oB cB rB tB gB nB sB))
theorem hng_io : ∀ w ∈ (vx_atS RX2 124 "java/lang/IndexOutOfBoundsException" xN).filter (fun w => !goodWord w), w ∈ Cond.castable "java/lang/IndexOutOfBoundsException" "java/lang/IndexOutOfBoundsException" :: xD.map Cond.declares := by decide +kernel
theorem hgd_io : ∀ w ∈ Cond.classLink RX2 120 "java/lang/IndexOutOfBoundsException" :: Cond.initialized "java/lang/IndexOutOfBoundsException" :: vx_atS RX2 124 "java/lang/IndexOutOfBoundsException" xN, vx_ot w = true := by decide +kernel
theorem hng_is : ∀ w ∈ (vx_atS RX2 37 "java/lang/IllegalStateException" xN).filter (fun w => !goodWord w), w ∈ Cond.castable "java/lang/IllegalStateException" "java/lang/IllegalStateException" :: xD.map Cond.declares := by decide +kernel
theorem hgd_is : ∀ w ∈ Cond.classLink RX2 33 "java/lang/IllegalStateException" :: Cond.initialized "java/lang/IllegalStateException" :: vx_atS RX2 37 "java/lang/IllegalStateException" xN, vx_ot w = true := by decide +kernel
theorem hng_ia : ∀ w ∈ (vx_atS RX2 191 "java/lang/IllegalArgumentException" xN).filter (fun w => !goodWord w), w ∈ Cond.castable "java/lang/IllegalArgumentException" "java/lang/IllegalArgumentException" :: xD.map Cond.declares := by decide +kernel
theorem hgd_ia : ∀ w ∈ Cond.classLink RX2 187 "java/lang/IllegalArgumentException" :: Cond.initialized "java/lang/IllegalArgumentException" :: vx_atS RX2 191 "java/lang/IllegalArgumentException" xN, vx_ot w = true := by decide +kernel
end
section
/-! SweepEqual: the guards. -/
set_option maxRecDepth 100000 in
theorem inX_X2_needLatch_io : ∀ w ∈ (vx_atS RX2 124 "java/lang/IndexOutOfBoundsException" xN).filter goodWord, w ∈ wsX2_needLatch := by decide +kernel
set_option maxRecDepth 100000 in
theorem inX_X2_needLiteral_io : ∀ w ∈ (vx_atS RX2 124 "java/lang/IndexOutOfBoundsException" xN).filter goodWord, w ∈ wsX2_needLiteral := by decide +kernel
set_option maxRecDepth 100000 in
theorem inX_X2_needOwn_ia : ∀ w ∈ (vx_atS RX2 191 "java/lang/IllegalArgumentException" xN).filter goodWord, w ∈ wsX2_needOwn := by decide +kernel
set_option maxRecDepth 100000 in
theorem inX_X2_needRoomForNode_is : ∀ w ∈ (vx_atS RX2 37 "java/lang/IllegalStateException" xN).filter goodWord, w ∈ wsX2_needRoomForNode := by decide +kernel
set_option maxRecDepth 100000 in
theorem inX_X2_needSide_io : ∀ w ∈ (vx_atS RX2 124 "java/lang/IndexOutOfBoundsException" xN).filter goodWord, w ∈ wsX2_needSide := by decide +kernel
set_option maxRecDepth 100000 in
theorem inX_X2_needStart_ia : ∀ w ∈ (vx_atS RX2 191 "java/lang/IllegalArgumentException" xN).filter goodWord, w ∈ wsX2_needStart := by decide +kernel
section XG
variable (l : Launch) (D : va_G) (cI cJ : ClassId) (tp : Nat) (h hn ow fi ro ha oa na sa he ob nb sb : Nat) (ic lc stp : Nat) (ap : Int32) (cnt len : Nat) (fo ff : Nat → Int32) (fr : Nat → Int64) (oA cA rA tA : Nat) (gA nA : Nat → Nat) (sA : Nat → Int32) (oB cB rB tB : Nat) (gB nB : Nat → Nat) (sB : Nat → Int32)
set_option maxHeartbeats 4000000 in
set_option maxRecDepth 100000 in
/-- 0 or 1: goes on -/
theorem c_X2_needSide (sd : Int32) (h1 : sd = 0 ∨ sd = 1) : Met l yX2_needSide wsX2_needSide { frames := 0, cells := 0, slots := 0, locals := 0 } (re_P D [(cI, .int), (cJ, .long)] (xW h hn ow fi ro ha oa na sa he ob nb sb cI cJ ic lc stp ap cnt len fo ff fr oA cA rA tA gA nA sA oB cB rB tB gB nB sB) tp [.ref h, .int sd]) rv_Q 0 0 (fun _ => False) := by
  refine Met.ofW (cc := cX2_needSide) (maxL := 2) (ret := none) (by decide) rfl ?_
  intro p e s m args below meth c s₁ B hml hv
  obtain ⟨rfl, ⟨hP, hK⟩, hE⟩ := hv
  have hx := B.exec
  have hb := B.bytes
  have hr := B.returns
  have hts := atoms_spec (ws := wsX2_needSide) B.pre
  have hown : s.vm.findClass RX2 = some m.cls := findClass_of_methodNamed B.named
  have hlocks := B.notSynchronized
  have hl := lv_entry ([.ref h, .int sd]) (n := 2) (Nat.le_of_ble_eq_true rfl)
  rw [lg_entry_eq]
  generalize (lg_sl ([.ref h, .int sd]) ++ List.replicate (2 - (lg_sl ([.ref h, .int sd])).length) Slot.unset).toArray = ls at hl ⊢
  have hl : lv_has ls 2 [(0, .ref h), (1, .int sd)] := hl
  have hP : va_P D vwCl [(h, .inr (2, [.ref hn, .ref ha, .ref he, .int (nI ic), .int (nI lc), .int (nI stp), .int ap])), (hn, .inr (1, [.int (nI cnt), .ref ow, .ref fi, .ref ro])), (ow, .inl (cI, 400, .inl fo)), (fi, .inl (cI, 400, .inl ff)), (ro, .inl (cJ, len, .inr (.inl fr))), (ha, .inr (0, [.ref oa, .ref na, .ref sa, .int (nI oA), .int (nI cA), .int (nI rA), .int (nI tA)])), (oa, .inl (cI, 16, .inl (fun j => nI (gA j)))), (na, .inl (cI, 4, .inl (fun j => nI (nA j)))), (sa, .inl (cI, 16, .inl sA)), (he, .inr (0, [.ref ob, .ref nb, .ref sb, .int (nI oB), .int (nI cB), .int (nI rB), .int (nI tB)])), (ob, .inl (cI, 16, .inl (fun j => nI (gB j)))), (nb, .inl (cI, 4, .inl (fun j => nI (nB j)))), (sb, .inl (cI, 16, .inl sB))] s.heap := hP
  refine lv_iload_n hx hb dX2_needSide_0 rfl (lv_at hl 1 rfl) ?_
  refine lv_if_eq (tgt := 19) hx hb dX2_needSide_1 (by decide) (fun c1 => ?_) (fun c1 => ?_)
  · exact rv_r hx hb hr hlocks dX2_needSide_19
  · refine lv_iload_n hx hb dX2_needSide_4 rfl (lv_at hl 1 rfl) ?_
    refine lv_iconst (v := nI 1) hx hb dX2_needSide_5 (by decide) ?_
    refine lv_icmp_eq (tgt := 19) hx hb dX2_needSide_6 (by decide) (fun c2 => ?_) (fun c2 => ?_)
    · exact rv_r hx hb hr hlocks dX2_needSide_19
    · exact (h1.elim c1 c2).elim
set_option maxHeartbeats 4000000 in
set_option maxRecDepth 100000 in
/-- neither 0 nor 1: throws -/
theorem t_X2_needSide (hl9 : l.stackTraces = false) (sd : Int32) (h1 : ¬ (sd = 0 ∨ sd = 1)) : TH l yX2_needSide wsX2_needSide { frames := 6, cells := 1, slots := 6, locals := 82 } (re_P D [(cI, .int), (cJ, .long)] (xW h hn ow fi ro ha oa na sa he ob nb sb cI cJ ic lc stp ap cnt len fo ff fr oA cA rA tA gA nA sA oB cB rB tB gB nB sB) tp [.ref h, .int sd]) "java/lang/IndexOutOfBoundsException" := by
  refine vx_ofW (cc := cX2_needSide) (maxL := 2) (ret := none) (by decide) rfl ?_
  intro p e s m args below meth c s₁ B hml hno hv
  obtain ⟨rfl, ⟨hP, hK⟩, hE⟩ := hv
  have hx := B.exec
  have hb := B.bytes
  have hr := B.returns
  have hts := atoms_spec (ws := wsX2_needSide) B.pre
  have hown : s.vm.findClass RX2 = some m.cls := findClass_of_methodNamed B.named
  have hlocks := B.notSynchronized
  have hl := lv_entry ([.ref h, .int sd]) (n := 2) (Nat.le_of_ble_eq_true rfl)
  rw [lg_entry_eq]
  generalize (lg_sl ([.ref h, .int sd]) ++ List.replicate (2 - (lg_sl ([.ref h, .int sd])).length) Slot.unset).toArray = ls at hl ⊢
  have hl : lv_has ls 2 [(0, .ref h), (1, .int sd)] := hl
  have hP : va_P D vwCl [(h, .inr (2, [.ref hn, .ref ha, .ref he, .int (nI ic), .int (nI lc), .int (nI stp), .int ap])), (hn, .inr (1, [.int (nI cnt), .ref ow, .ref fi, .ref ro])), (ow, .inl (cI, 400, .inl fo)), (fi, .inl (cI, 400, .inl ff)), (ro, .inl (cJ, len, .inr (.inl fr))), (ha, .inr (0, [.ref oa, .ref na, .ref sa, .int (nI oA), .int (nI cA), .int (nI rA), .int (nI tA)])), (oa, .inl (cI, 16, .inl (fun j => nI (gA j)))), (na, .inl (cI, 4, .inl (fun j => nI (nA j)))), (sa, .inl (cI, 16, .inl sA)), (he, .inr (0, [.ref ob, .ref nb, .ref sb, .int (nI oB), .int (nI cB), .int (nI rB), .int (nI tB)])), (ob, .inl (cI, 16, .inl (fun j => nI (gB j)))), (nb, .inl (cI, 4, .inl (fun j => nI (nB j)))), (sb, .inl (cI, 16, .inl sB))] s.heap := hP
  have hgw_io : ∀ w ∈ (vx_atS RX2 124 "java/lang/IndexOutOfBoundsException" xN).filter goodWord, w.before ([.ref h, .int sd] : List Value).toArray s = true := fun w hw => hts w (inX_X2_needSide_io w hw)
  refine lv_iload_n hx hb dX2_needSide_0 rfl (lv_at hl 1 rfl) ?_
  refine lv_if_eq (tgt := 19) hx hb dX2_needSide_1 (by decide) (fun c1 => ?_) (fun c1 => ?_)
  · exact absurd (Or.inl c1) h1
  · refine lv_iload_n hx hb dX2_needSide_4 rfl (lv_at hl 1 rfl) ?_
    refine lv_iconst (v := nI 1) hx hb dX2_needSide_5 (by decide) ?_
    refine lv_icmp_eq (tgt := 19) hx hb dX2_needSide_6 (by decide) (fun c2 => ?_) (fun c2 => ?_)
    · exact absurd (Or.inr c2) h1
    · exact th_S (cls := "java/lang/IndexOutOfBoundsException") (text := "no such side") hx hb hl9 hown (by decide +kernel) (hts (.classLink RX2 120 "java/lang/IndexOutOfBoundsException") (by decide +kernel)) (hts (.initialized "java/lang/IndexOutOfBoundsException") (by decide +kernel)) hgw_io hng_io hgd_io hE (by decide) (by decide) (by rw [hml]; exact hl.1) dX2_needSide_9 dX2_needSide_12 dX2_needSide_13 dX2_needSide_15 dX2_needSide_18 hno (Nat.le_of_ble_eq_true rfl) (Nat.le_of_ble_eq_true rfl) (Nat.le_of_ble_eq_true rfl) (Nat.le_of_ble_eq_true rfl) hlocks
set_option maxHeartbeats 4000000 in
set_option maxRecDepth 100000 in
/-- 0 or 1: goes on -/
theorem c_X2_needStart (sd : Int32) (h1 : sd = 0 ∨ sd = 1) : Met l yX2_needStart wsX2_needStart { frames := 0, cells := 0, slots := 0, locals := 0 } (re_P D [(cI, .int), (cJ, .long)] (xW h hn ow fi ro ha oa na sa he ob nb sb cI cJ ic lc stp ap cnt len fo ff fr oA cA rA tA gA nA sA oB cB rB tB gB nB sB) tp [.ref h, .int sd]) rv_Q 0 0 (fun _ => False) := by
  refine Met.ofW (cc := cX2_needStart) (maxL := 2) (ret := none) (by decide) rfl ?_
  intro p e s m args below meth c s₁ B hml hv
  obtain ⟨rfl, ⟨hP, hK⟩, hE⟩ := hv
  have hx := B.exec
  have hb := B.bytes
  have hr := B.returns
  have hts := atoms_spec (ws := wsX2_needStart) B.pre
  have hown : s.vm.findClass RX2 = some m.cls := findClass_of_methodNamed B.named
  have hlocks := B.notSynchronized
  have hl := lv_entry ([.ref h, .int sd]) (n := 2) (Nat.le_of_ble_eq_true rfl)
  rw [lg_entry_eq]
  generalize (lg_sl ([.ref h, .int sd]) ++ List.replicate (2 - (lg_sl ([.ref h, .int sd])).length) Slot.unset).toArray = ls at hl ⊢
  have hl : lv_has ls 2 [(0, .ref h), (1, .int sd)] := hl
  have hP : va_P D vwCl [(h, .inr (2, [.ref hn, .ref ha, .ref he, .int (nI ic), .int (nI lc), .int (nI stp), .int ap])), (hn, .inr (1, [.int (nI cnt), .ref ow, .ref fi, .ref ro])), (ow, .inl (cI, 400, .inl fo)), (fi, .inl (cI, 400, .inl ff)), (ro, .inl (cJ, len, .inr (.inl fr))), (ha, .inr (0, [.ref oa, .ref na, .ref sa, .int (nI oA), .int (nI cA), .int (nI rA), .int (nI tA)])), (oa, .inl (cI, 16, .inl (fun j => nI (gA j)))), (na, .inl (cI, 4, .inl (fun j => nI (nA j)))), (sa, .inl (cI, 16, .inl sA)), (he, .inr (0, [.ref ob, .ref nb, .ref sb, .int (nI oB), .int (nI cB), .int (nI rB), .int (nI tB)])), (ob, .inl (cI, 16, .inl (fun j => nI (gB j)))), (nb, .inl (cI, 4, .inl (fun j => nI (nB j)))), (sb, .inl (cI, 16, .inl sB))] s.heap := hP
  refine lv_iload_n hx hb dX2_needStart_0 rfl (lv_at hl 1 rfl) ?_
  refine lv_if_eq (tgt := 19) hx hb dX2_needStart_1 (by decide) (fun c1 => ?_) (fun c1 => ?_)
  · exact rv_r hx hb hr hlocks dX2_needStart_19
  · refine lv_iload_n hx hb dX2_needStart_4 rfl (lv_at hl 1 rfl) ?_
    refine lv_iconst (v := nI 1) hx hb dX2_needStart_5 (by decide) ?_
    refine lv_icmp_eq (tgt := 19) hx hb dX2_needStart_6 (by decide) (fun c2 => ?_) (fun c2 => ?_)
    · exact rv_r hx hb hr hlocks dX2_needStart_19
    · exact (h1.elim c1 c2).elim
set_option maxHeartbeats 4000000 in
set_option maxRecDepth 100000 in
/-- neither 0 nor 1: throws -/
theorem t_X2_needStart (hl9 : l.stackTraces = false) (sd : Int32) (h1 : ¬ (sd = 0 ∨ sd = 1)) : TH l yX2_needStart wsX2_needStart { frames := 6, cells := 1, slots := 6, locals := 82 } (re_P D [(cI, .int), (cJ, .long)] (xW h hn ow fi ro ha oa na sa he ob nb sb cI cJ ic lc stp ap cnt len fo ff fr oA cA rA tA gA nA sA oB cB rB tB gB nB sB) tp [.ref h, .int sd]) "java/lang/IllegalArgumentException" := by
  refine vx_ofW (cc := cX2_needStart) (maxL := 2) (ret := none) (by decide) rfl ?_
  intro p e s m args below meth c s₁ B hml hno hv
  obtain ⟨rfl, ⟨hP, hK⟩, hE⟩ := hv
  have hx := B.exec
  have hb := B.bytes
  have hr := B.returns
  have hts := atoms_spec (ws := wsX2_needStart) B.pre
  have hown : s.vm.findClass RX2 = some m.cls := findClass_of_methodNamed B.named
  have hlocks := B.notSynchronized
  have hl := lv_entry ([.ref h, .int sd]) (n := 2) (Nat.le_of_ble_eq_true rfl)
  rw [lg_entry_eq]
  generalize (lg_sl ([.ref h, .int sd]) ++ List.replicate (2 - (lg_sl ([.ref h, .int sd])).length) Slot.unset).toArray = ls at hl ⊢
  have hl : lv_has ls 2 [(0, .ref h), (1, .int sd)] := hl
  have hP : va_P D vwCl [(h, .inr (2, [.ref hn, .ref ha, .ref he, .int (nI ic), .int (nI lc), .int (nI stp), .int ap])), (hn, .inr (1, [.int (nI cnt), .ref ow, .ref fi, .ref ro])), (ow, .inl (cI, 400, .inl fo)), (fi, .inl (cI, 400, .inl ff)), (ro, .inl (cJ, len, .inr (.inl fr))), (ha, .inr (0, [.ref oa, .ref na, .ref sa, .int (nI oA), .int (nI cA), .int (nI rA), .int (nI tA)])), (oa, .inl (cI, 16, .inl (fun j => nI (gA j)))), (na, .inl (cI, 4, .inl (fun j => nI (nA j)))), (sa, .inl (cI, 16, .inl sA)), (he, .inr (0, [.ref ob, .ref nb, .ref sb, .int (nI oB), .int (nI cB), .int (nI rB), .int (nI tB)])), (ob, .inl (cI, 16, .inl (fun j => nI (gB j)))), (nb, .inl (cI, 4, .inl (fun j => nI (nB j)))), (sb, .inl (cI, 16, .inl sB))] s.heap := hP
  have hgw_ia : ∀ w ∈ (vx_atS RX2 191 "java/lang/IllegalArgumentException" xN).filter goodWord, w.before ([.ref h, .int sd] : List Value).toArray s = true := fun w hw => hts w (inX_X2_needStart_ia w hw)
  refine lv_iload_n hx hb dX2_needStart_0 rfl (lv_at hl 1 rfl) ?_
  refine lv_if_eq (tgt := 19) hx hb dX2_needStart_1 (by decide) (fun c1 => ?_) (fun c1 => ?_)
  · exact absurd (Or.inl c1) h1
  · refine lv_iload_n hx hb dX2_needStart_4 rfl (lv_at hl 1 rfl) ?_
    refine lv_iconst (v := nI 1) hx hb dX2_needStart_5 (by decide) ?_
    refine lv_icmp_eq (tgt := 19) hx hb dX2_needStart_6 (by decide) (fun c2 => ?_) (fun c2 => ?_)
    · exact absurd (Or.inr c2) h1
    · exact th_S (cls := "java/lang/IllegalArgumentException") (text := "a start is neither 0 nor 1") hx hb hl9 hown (by decide +kernel) (hts (.classLink RX2 187 "java/lang/IllegalArgumentException") (by decide +kernel)) (hts (.initialized "java/lang/IllegalArgumentException") (by decide +kernel)) hgw_ia hng_ia hgd_ia hE (by decide) (by decide) (by rw [hml]; exact hl.1) dX2_needStart_9 dX2_needStart_12 dX2_needStart_13 dX2_needStart_15 dX2_needStart_18 hno (Nat.le_of_ble_eq_true rfl) (Nat.le_of_ble_eq_true rfl) (Nat.le_of_ble_eq_true rfl) (Nat.le_of_ble_eq_true rfl) hlocks
set_option maxHeartbeats 4000000 in
set_option maxRecDepth 100000 in
/-- there is such a one: goes on -/
theorem c_X2_needLiteral (lit : Nat) (h1 : lit < 2 * cnt) (h2 : 2 * cnt ≤ 800) : Met l yX2_needLiteral wsX2_needLiteral { frames := 0, cells := 0, slots := 0, locals := 0 } (re_P D [(cI, .int), (cJ, .long)] (xW h hn ow fi ro ha oa na sa he ob nb sb cI cJ ic lc stp ap cnt len fo ff fr oA cA rA tA gA nA sA oB cB rB tB gB nB sB) tp [.ref h, .int (nI lit)]) rv_Q 0 0 (fun _ => False) := by
  refine Met.ofW (cc := cX2_needLiteral) (maxL := 2) (ret := none) (by decide) rfl ?_
  intro p e s m args below meth c s₁ B hml hv
  obtain ⟨rfl, ⟨hP, hK⟩, hE⟩ := hv
  have hx := B.exec
  have hb := B.bytes
  have hr := B.returns
  have hts := atoms_spec (ws := wsX2_needLiteral) B.pre
  have hown : s.vm.findClass RX2 = some m.cls := findClass_of_methodNamed B.named
  have hlocks := B.notSynchronized
  have hl := lv_entry ([.ref h, .int (nI lit)]) (n := 2) (Nat.le_of_ble_eq_true rfl)
  rw [lg_entry_eq]
  generalize (lg_sl ([.ref h, .int (nI lit)]) ++ List.replicate (2 - (lg_sl ([.ref h, .int (nI lit)])).length) Slot.unset).toArray = ls at hl ⊢
  have hl : lv_has ls 2 [(0, .ref h), (1, .int (nI lit))] := hl
  have hP : va_P D vwCl [(h, .inr (2, [.ref hn, .ref ha, .ref he, .int (nI ic), .int (nI lc), .int (nI stp), .int ap])), (hn, .inr (1, [.int (nI cnt), .ref ow, .ref fi, .ref ro])), (ow, .inl (cI, 400, .inl fo)), (fi, .inl (cI, 400, .inl ff)), (ro, .inl (cJ, len, .inr (.inl fr))), (ha, .inr (0, [.ref oa, .ref na, .ref sa, .int (nI oA), .int (nI cA), .int (nI rA), .int (nI tA)])), (oa, .inl (cI, 16, .inl (fun j => nI (gA j)))), (na, .inl (cI, 4, .inl (fun j => nI (nA j)))), (sa, .inl (cI, 16, .inl sA)), (he, .inr (0, [.ref ob, .ref nb, .ref sb, .int (nI oB), .int (nI cB), .int (nI rB), .int (nI tB)])), (ob, .inl (cI, 16, .inl (fun j => nI (gB j)))), (nb, .inl (cI, 4, .inl (fun j => nI (nB j)))), (sb, .inl (cI, 16, .inl sB))] s.heap := hP
  have hin1 : ∀ w ∈ wsX10, w ∈ wsX2_needLiteral := by decide +kernel
  have hin2 : ∀ w ∈ wsX20, w ∈ wsX2_needLiteral := by decide +kernel
  have kf12 := hts (.fieldLink RX2 12 "SweepEqual" "nodes" "LSweepEqual$Nodes;") (by decide +kernel)
  have kf169 := hts (.fieldLink RX2 169 "SweepEqual$Nodes" "count" "I") (by decide +kernel)
  refine lv_iload_n hx hb dX2_needLiteral_0 rfl (lv_at hl 1 rfl) ?_
  refine lv_if_lt (tgt := 17) hx hb dX2_needLiteral_1 (by decide) (fun c1 => ?_) (fun c1 => ?_)
  · exact absurd c1 (nI_pos (by omega))
  · refine lv_iload_n hx hb dX2_needLiteral_4 rfl (lv_at hl 1 rfl) ?_
    refine lv_iconst (v := nI 2) hx hb dX2_needLiteral_5 (by decide) ?_
    refine lv_aload_n hx hb dX2_needLiteral_6 rfl (lv_at hl 0 rfl) ?_
    refine va_get (D := D) (ci := 2) (v := .ref hn) (C := RX2) (T := TX2) (N := 7) hx hb hts hin2 hown hK hP 0 rfl rfl 0 (by decide) kf12 (fun _ h9 => h9) rfl dX2_needLiteral_7 ?_
    refine va_get (D := D) (ci := 1) (v := .int (nI cnt)) (C := RX1) (T := TX1) (N := 4) hx hb hts hin1 hown hK hP 1 rfl rfl 0 (by decide) kf169 (fun _ h9 => h9) rfl dX2_needLiteral_10 ?_
    refine lv_imul hx hb dX2_needLiteral_13 ?_
    refine tp_i (show (nI 2) * (nI cnt) = nI (2 * cnt) from pk_mul _ _) ?_
    refine lv_icmp_lt (tgt := 27) hx hb dX2_needLiteral_14 (by decide) (fun c2 => ?_) (fun c2 => ?_)
    · have c2 : lit < 2 * cnt := (nI_ltI (by omega) (by omega)).mp c2
      exact rv_r hx hb hr hlocks dX2_needLiteral_27
    · have c2 : ¬ (lit < 2 * cnt) := fun h => c2 ((nI_ltI (by omega) (by omega)).mpr h)
      exact absurd h1 c2
set_option maxHeartbeats 4000000 in
set_option maxRecDepth 100000 in
/-- there is no such one: throws -/
theorem t_X2_needLiteral (hl9 : l.stackTraces = false) (x : Int32) (h1 : x < 0 ∨ nI (2 * cnt) ≤ x) : TH l yX2_needLiteral wsX2_needLiteral { frames := 6, cells := 1, slots := 6, locals := 82 } (re_P D [(cI, .int), (cJ, .long)] (xW h hn ow fi ro ha oa na sa he ob nb sb cI cJ ic lc stp ap cnt len fo ff fr oA cA rA tA gA nA sA oB cB rB tB gB nB sB) tp [.ref h, .int x]) "java/lang/IndexOutOfBoundsException" := by
  refine vx_ofW (cc := cX2_needLiteral) (maxL := 2) (ret := none) (by decide) rfl ?_
  intro p e s m args below meth c s₁ B hml hno hv
  obtain ⟨rfl, ⟨hP, hK⟩, hE⟩ := hv
  have hx := B.exec
  have hb := B.bytes
  have hr := B.returns
  have hts := atoms_spec (ws := wsX2_needLiteral) B.pre
  have hown : s.vm.findClass RX2 = some m.cls := findClass_of_methodNamed B.named
  have hlocks := B.notSynchronized
  have hl := lv_entry ([.ref h, .int x]) (n := 2) (Nat.le_of_ble_eq_true rfl)
  rw [lg_entry_eq]
  generalize (lg_sl ([.ref h, .int x]) ++ List.replicate (2 - (lg_sl ([.ref h, .int x])).length) Slot.unset).toArray = ls at hl ⊢
  have hl : lv_has ls 2 [(0, .ref h), (1, .int x)] := hl
  have hP : va_P D vwCl [(h, .inr (2, [.ref hn, .ref ha, .ref he, .int (nI ic), .int (nI lc), .int (nI stp), .int ap])), (hn, .inr (1, [.int (nI cnt), .ref ow, .ref fi, .ref ro])), (ow, .inl (cI, 400, .inl fo)), (fi, .inl (cI, 400, .inl ff)), (ro, .inl (cJ, len, .inr (.inl fr))), (ha, .inr (0, [.ref oa, .ref na, .ref sa, .int (nI oA), .int (nI cA), .int (nI rA), .int (nI tA)])), (oa, .inl (cI, 16, .inl (fun j => nI (gA j)))), (na, .inl (cI, 4, .inl (fun j => nI (nA j)))), (sa, .inl (cI, 16, .inl sA)), (he, .inr (0, [.ref ob, .ref nb, .ref sb, .int (nI oB), .int (nI cB), .int (nI rB), .int (nI tB)])), (ob, .inl (cI, 16, .inl (fun j => nI (gB j)))), (nb, .inl (cI, 4, .inl (fun j => nI (nB j)))), (sb, .inl (cI, 16, .inl sB))] s.heap := hP
  have hin1 : ∀ w ∈ wsX10, w ∈ wsX2_needLiteral := by decide +kernel
  have hin2 : ∀ w ∈ wsX20, w ∈ wsX2_needLiteral := by decide +kernel
  have kf12 := hts (.fieldLink RX2 12 "SweepEqual" "nodes" "LSweepEqual$Nodes;") (by decide +kernel)
  have kf169 := hts (.fieldLink RX2 169 "SweepEqual$Nodes" "count" "I") (by decide +kernel)
  have hgw_io : ∀ w ∈ (vx_atS RX2 124 "java/lang/IndexOutOfBoundsException" xN).filter goodWord, w.before ([.ref h, .int x] : List Value).toArray s = true := fun w hw => hts w (inX_X2_needLiteral_io w hw)
  refine lv_iload_n hx hb dX2_needLiteral_0 rfl (lv_at hl 1 rfl) ?_
  refine lv_if_lt (tgt := 17) hx hb dX2_needLiteral_1 (by decide) (fun c1 => ?_) (fun c1 => ?_)
  · exact th_S (cls := "java/lang/IndexOutOfBoundsException") (text := "no such literal") hx hb hl9 hown (by decide +kernel) (hts (.classLink RX2 120 "java/lang/IndexOutOfBoundsException") (by decide +kernel)) (hts (.initialized "java/lang/IndexOutOfBoundsException") (by decide +kernel)) hgw_io hng_io hgd_io hE (by decide) (by decide) (by rw [hml]; exact hl.1) dX2_needLiteral_17 dX2_needLiteral_20 dX2_needLiteral_21 dX2_needLiteral_23 dX2_needLiteral_26 hno (Nat.le_of_ble_eq_true rfl) (Nat.le_of_ble_eq_true rfl) (Nat.le_of_ble_eq_true rfl) (Nat.le_of_ble_eq_true rfl) hlocks
  · refine lv_iload_n hx hb dX2_needLiteral_4 rfl (lv_at hl 1 rfl) ?_
    refine lv_iconst (v := nI 2) hx hb dX2_needLiteral_5 (by decide) ?_
    refine lv_aload_n hx hb dX2_needLiteral_6 rfl (lv_at hl 0 rfl) ?_
    refine va_get (D := D) (ci := 2) (v := .ref hn) (C := RX2) (T := TX2) (N := 7) hx hb hts hin2 hown hK hP 0 rfl rfl 0 (by decide) kf12 (fun _ h9 => h9) rfl dX2_needLiteral_7 ?_
    refine va_get (D := D) (ci := 1) (v := .int (nI cnt)) (C := RX1) (T := TX1) (N := 4) hx hb hts hin1 hown hK hP 1 rfl rfl 0 (by decide) kf169 (fun _ h9 => h9) rfl dX2_needLiteral_10 ?_
    refine lv_imul hx hb dX2_needLiteral_13 ?_
    refine tp_i (show (nI 2) * (nI cnt) = nI (2 * cnt) from pk_mul _ _) ?_
    refine lv_icmp_lt (tgt := 27) hx hb dX2_needLiteral_14 (by decide) (fun c2 => ?_) (fun c2 => ?_)
    · exact absurd c2 (Int32.not_lt.mpr (h1.resolve_left c1))
    · exact th_S (cls := "java/lang/IndexOutOfBoundsException") (text := "no such literal") hx hb hl9 hown (by decide +kernel) (hts (.classLink RX2 120 "java/lang/IndexOutOfBoundsException") (by decide +kernel)) (hts (.initialized "java/lang/IndexOutOfBoundsException") (by decide +kernel)) hgw_io hng_io hgd_io hE (by decide) (by decide) (by rw [hml]; exact hl.1) dX2_needLiteral_17 dX2_needLiteral_20 dX2_needLiteral_21 dX2_needLiteral_23 dX2_needLiteral_26 hno (Nat.le_of_ble_eq_true rfl) (Nat.le_of_ble_eq_true rfl) (Nat.le_of_ble_eq_true rfl) (Nat.le_of_ble_eq_true rfl) hlocks
set_option maxHeartbeats 4000000 in
set_option maxRecDepth 100000 in
/-- there is such a one: goes on -/
theorem c_X2_needLatch (lt : Nat) (h1 : lt < lc) (h2 : lc ≤ 800) : Met l yX2_needLatch wsX2_needLatch { frames := 0, cells := 0, slots := 0, locals := 0 } (re_P D [(cI, .int), (cJ, .long)] (xW h hn ow fi ro ha oa na sa he ob nb sb cI cJ ic lc stp ap cnt len fo ff fr oA cA rA tA gA nA sA oB cB rB tB gB nB sB) tp [.ref h, .int (nI lt)]) rv_Q 0 0 (fun _ => False) := by
  refine Met.ofW (cc := cX2_needLatch) (maxL := 2) (ret := none) (by decide) rfl ?_
  intro p e s m args below meth c s₁ B hml hv
  obtain ⟨rfl, ⟨hP, hK⟩, hE⟩ := hv
  have hx := B.exec
  have hb := B.bytes
  have hr := B.returns
  have hts := atoms_spec (ws := wsX2_needLatch) B.pre
  have hown : s.vm.findClass RX2 = some m.cls := findClass_of_methodNamed B.named
  have hlocks := B.notSynchronized
  have hl := lv_entry ([.ref h, .int (nI lt)]) (n := 2) (Nat.le_of_ble_eq_true rfl)
  rw [lg_entry_eq]
  generalize (lg_sl ([.ref h, .int (nI lt)]) ++ List.replicate (2 - (lg_sl ([.ref h, .int (nI lt)])).length) Slot.unset).toArray = ls at hl ⊢
  have hl : lv_has ls 2 [(0, .ref h), (1, .int (nI lt))] := hl
  have hP : va_P D vwCl [(h, .inr (2, [.ref hn, .ref ha, .ref he, .int (nI ic), .int (nI lc), .int (nI stp), .int ap])), (hn, .inr (1, [.int (nI cnt), .ref ow, .ref fi, .ref ro])), (ow, .inl (cI, 400, .inl fo)), (fi, .inl (cI, 400, .inl ff)), (ro, .inl (cJ, len, .inr (.inl fr))), (ha, .inr (0, [.ref oa, .ref na, .ref sa, .int (nI oA), .int (nI cA), .int (nI rA), .int (nI tA)])), (oa, .inl (cI, 16, .inl (fun j => nI (gA j)))), (na, .inl (cI, 4, .inl (fun j => nI (nA j)))), (sa, .inl (cI, 16, .inl sA)), (he, .inr (0, [.ref ob, .ref nb, .ref sb, .int (nI oB), .int (nI cB), .int (nI rB), .int (nI tB)])), (ob, .inl (cI, 16, .inl (fun j => nI (gB j)))), (nb, .inl (cI, 4, .inl (fun j => nI (nB j)))), (sb, .inl (cI, 16, .inl sB))] s.heap := hP
  have hin2 : ∀ w ∈ wsX20, w ∈ wsX2_needLatch := by decide +kernel
  have kf47 := hts (.fieldLink RX2 47 "SweepEqual" "latchCount" "I") (by decide +kernel)
  refine lv_iload_n hx hb dX2_needLatch_0 rfl (lv_at hl 1 rfl) ?_
  refine lv_if_lt (tgt := 12) hx hb dX2_needLatch_1 (by decide) (fun c1 => ?_) (fun c1 => ?_)
  · exact absurd c1 (nI_pos (by omega))
  · refine lv_iload_n hx hb dX2_needLatch_4 rfl (lv_at hl 1 rfl) ?_
    refine lv_aload_n hx hb dX2_needLatch_5 rfl (lv_at hl 0 rfl) ?_
    refine va_get (D := D) (ci := 2) (v := .int (nI lc)) (C := RX2) (T := TX2) (N := 7) hx hb hts hin2 hown hK hP 0 rfl rfl 4 (by decide) kf47 (fun _ h9 => h9) rfl dX2_needLatch_6 ?_
    refine lv_icmp_lt (tgt := 22) hx hb dX2_needLatch_9 (by decide) (fun c2 => ?_) (fun c2 => ?_)
    · have c2 : lt < lc := (nI_ltI (by omega) (by omega)).mp c2
      exact rv_r hx hb hr hlocks dX2_needLatch_22
    · have c2 : ¬ (lt < lc) := fun h => c2 ((nI_ltI (by omega) (by omega)).mpr h)
      exact absurd h1 c2
set_option maxHeartbeats 4000000 in
set_option maxRecDepth 100000 in
/-- there is no such one: throws -/
theorem t_X2_needLatch (hl9 : l.stackTraces = false) (x : Int32) (h1 : x < 0 ∨ nI (lc) ≤ x) : TH l yX2_needLatch wsX2_needLatch { frames := 6, cells := 1, slots := 6, locals := 82 } (re_P D [(cI, .int), (cJ, .long)] (xW h hn ow fi ro ha oa na sa he ob nb sb cI cJ ic lc stp ap cnt len fo ff fr oA cA rA tA gA nA sA oB cB rB tB gB nB sB) tp [.ref h, .int x]) "java/lang/IndexOutOfBoundsException" := by
  refine vx_ofW (cc := cX2_needLatch) (maxL := 2) (ret := none) (by decide) rfl ?_
  intro p e s m args below meth c s₁ B hml hno hv
  obtain ⟨rfl, ⟨hP, hK⟩, hE⟩ := hv
  have hx := B.exec
  have hb := B.bytes
  have hr := B.returns
  have hts := atoms_spec (ws := wsX2_needLatch) B.pre
  have hown : s.vm.findClass RX2 = some m.cls := findClass_of_methodNamed B.named
  have hlocks := B.notSynchronized
  have hl := lv_entry ([.ref h, .int x]) (n := 2) (Nat.le_of_ble_eq_true rfl)
  rw [lg_entry_eq]
  generalize (lg_sl ([.ref h, .int x]) ++ List.replicate (2 - (lg_sl ([.ref h, .int x])).length) Slot.unset).toArray = ls at hl ⊢
  have hl : lv_has ls 2 [(0, .ref h), (1, .int x)] := hl
  have hP : va_P D vwCl [(h, .inr (2, [.ref hn, .ref ha, .ref he, .int (nI ic), .int (nI lc), .int (nI stp), .int ap])), (hn, .inr (1, [.int (nI cnt), .ref ow, .ref fi, .ref ro])), (ow, .inl (cI, 400, .inl fo)), (fi, .inl (cI, 400, .inl ff)), (ro, .inl (cJ, len, .inr (.inl fr))), (ha, .inr (0, [.ref oa, .ref na, .ref sa, .int (nI oA), .int (nI cA), .int (nI rA), .int (nI tA)])), (oa, .inl (cI, 16, .inl (fun j => nI (gA j)))), (na, .inl (cI, 4, .inl (fun j => nI (nA j)))), (sa, .inl (cI, 16, .inl sA)), (he, .inr (0, [.ref ob, .ref nb, .ref sb, .int (nI oB), .int (nI cB), .int (nI rB), .int (nI tB)])), (ob, .inl (cI, 16, .inl (fun j => nI (gB j)))), (nb, .inl (cI, 4, .inl (fun j => nI (nB j)))), (sb, .inl (cI, 16, .inl sB))] s.heap := hP
  have hin2 : ∀ w ∈ wsX20, w ∈ wsX2_needLatch := by decide +kernel
  have kf47 := hts (.fieldLink RX2 47 "SweepEqual" "latchCount" "I") (by decide +kernel)
  have hgw_io : ∀ w ∈ (vx_atS RX2 124 "java/lang/IndexOutOfBoundsException" xN).filter goodWord, w.before ([.ref h, .int x] : List Value).toArray s = true := fun w hw => hts w (inX_X2_needLatch_io w hw)
  refine lv_iload_n hx hb dX2_needLatch_0 rfl (lv_at hl 1 rfl) ?_
  refine lv_if_lt (tgt := 12) hx hb dX2_needLatch_1 (by decide) (fun c1 => ?_) (fun c1 => ?_)
  · exact th_S (cls := "java/lang/IndexOutOfBoundsException") (text := "no such latch") hx hb hl9 hown (by decide +kernel) (hts (.classLink RX2 120 "java/lang/IndexOutOfBoundsException") (by decide +kernel)) (hts (.initialized "java/lang/IndexOutOfBoundsException") (by decide +kernel)) hgw_io hng_io hgd_io hE (by decide) (by decide) (by rw [hml]; exact hl.1) dX2_needLatch_12 dX2_needLatch_15 dX2_needLatch_16 dX2_needLatch_18 dX2_needLatch_21 hno (Nat.le_of_ble_eq_true rfl) (Nat.le_of_ble_eq_true rfl) (Nat.le_of_ble_eq_true rfl) (Nat.le_of_ble_eq_true rfl) hlocks
  · refine lv_iload_n hx hb dX2_needLatch_4 rfl (lv_at hl 1 rfl) ?_
    refine lv_aload_n hx hb dX2_needLatch_5 rfl (lv_at hl 0 rfl) ?_
    refine va_get (D := D) (ci := 2) (v := .int (nI lc)) (C := RX2) (T := TX2) (N := 7) hx hb hts hin2 hown hK hP 0 rfl rfl 4 (by decide) kf47 (fun _ h9 => h9) rfl dX2_needLatch_6 ?_
    refine lv_icmp_lt (tgt := 22) hx hb dX2_needLatch_9 (by decide) (fun c2 => ?_) (fun c2 => ?_)
    · exact absurd c2 (Int32.not_lt.mpr (h1.resolve_left c1))
    · exact th_S (cls := "java/lang/IndexOutOfBoundsException") (text := "no such latch") hx hb hl9 hown (by decide +kernel) (hts (.classLink RX2 120 "java/lang/IndexOutOfBoundsException") (by decide +kernel)) (hts (.initialized "java/lang/IndexOutOfBoundsException") (by decide +kernel)) hgw_io hng_io hgd_io hE (by decide) (by decide) (by rw [hml]; exact hl.1) dX2_needLatch_12 dX2_needLatch_15 dX2_needLatch_16 dX2_needLatch_18 dX2_needLatch_21 hno (Nat.le_of_ble_eq_true rfl) (Nat.le_of_ble_eq_true rfl) (Nat.le_of_ble_eq_true rfl) (Nat.le_of_ble_eq_true rfl) hlocks
set_option maxHeartbeats 4000000 in
set_option maxRecDepth 100000 in
/-- room for a node: goes on -/
theorem c_X2_needRoomForNode (h1 : ¬ cnt = 400) (h2 : cnt ≤ 400) : Met l yX2_needRoomForNode wsX2_needRoomForNode { frames := 0, cells := 0, slots := 0, locals := 0 } (re_P D [(cI, .int), (cJ, .long)] (xW h hn ow fi ro ha oa na sa he ob nb sb cI cJ ic lc stp ap cnt len fo ff fr oA cA rA tA gA nA sA oB cB rB tB gB nB sB) tp [.ref h]) rv_Q 0 0 (fun _ => False) := by
  refine Met.ofW (cc := cX2_needRoomForNode) (maxL := 1) (ret := none) (by decide) rfl ?_
  intro p e s m args below meth c s₁ B hml hv
  obtain ⟨rfl, ⟨hP, hK⟩, hE⟩ := hv
  have hx := B.exec
  have hb := B.bytes
  have hr := B.returns
  have hts := atoms_spec (ws := wsX2_needRoomForNode) B.pre
  have hown : s.vm.findClass RX2 = some m.cls := findClass_of_methodNamed B.named
  have hlocks := B.notSynchronized
  have hl := lv_entry ([.ref h]) (n := 1) (Nat.le_of_ble_eq_true rfl)
  rw [lg_entry_eq]
  generalize (lg_sl ([.ref h]) ++ List.replicate (1 - (lg_sl ([.ref h])).length) Slot.unset).toArray = ls at hl ⊢
  have hl : lv_has ls 1 [(0, .ref h)] := hl
  have hP : va_P D vwCl [(h, .inr (2, [.ref hn, .ref ha, .ref he, .int (nI ic), .int (nI lc), .int (nI stp), .int ap])), (hn, .inr (1, [.int (nI cnt), .ref ow, .ref fi, .ref ro])), (ow, .inl (cI, 400, .inl fo)), (fi, .inl (cI, 400, .inl ff)), (ro, .inl (cJ, len, .inr (.inl fr))), (ha, .inr (0, [.ref oa, .ref na, .ref sa, .int (nI oA), .int (nI cA), .int (nI rA), .int (nI tA)])), (oa, .inl (cI, 16, .inl (fun j => nI (gA j)))), (na, .inl (cI, 4, .inl (fun j => nI (nA j)))), (sa, .inl (cI, 16, .inl sA)), (he, .inr (0, [.ref ob, .ref nb, .ref sb, .int (nI oB), .int (nI cB), .int (nI rB), .int (nI tB)])), (ob, .inl (cI, 16, .inl (fun j => nI (gB j)))), (nb, .inl (cI, 4, .inl (fun j => nI (nB j)))), (sb, .inl (cI, 16, .inl sB))] s.heap := hP
  have hin1 : ∀ w ∈ wsX10, w ∈ wsX2_needRoomForNode := by decide +kernel
  have hin2 : ∀ w ∈ wsX20, w ∈ wsX2_needRoomForNode := by decide +kernel
  have kf12 := hts (.fieldLink RX2 12 "SweepEqual" "nodes" "LSweepEqual$Nodes;") (by decide +kernel)
  have kf169 := hts (.fieldLink RX2 169 "SweepEqual$Nodes" "count" "I") (by decide +kernel)
  refine lv_aload_n hx hb dX2_needRoomForNode_0 rfl (lv_at hl 0 rfl) ?_
  refine va_get (D := D) (ci := 2) (v := .ref hn) (C := RX2) (T := TX2) (N := 7) hx hb hts hin2 hown hK hP 0 rfl rfl 0 (by decide) kf12 (fun _ h9 => h9) rfl dX2_needRoomForNode_1 ?_
  refine va_get (D := D) (ci := 1) (v := .int (nI cnt)) (C := RX1) (T := TX1) (N := 4) hx hb hts hin1 hown hK hP 1 rfl rfl 0 (by decide) kf169 (fun _ h9 => h9) rfl dX2_needRoomForNode_4 ?_
  refine lv_sipush (v := nI 400) hx hb dX2_needRoomForNode_7 (by decide) ?_
  refine lv_icmp_ne (tgt := 23) hx hb dX2_needRoomForNode_10 (by decide) (fun c1 => ?_) (fun c1 => ?_)
  · have c1 : ¬ cnt = 400 := fun h => c1 ((nI_eq (by omega) (by omega)).mpr h)
    exact rv_r hx hb hr hlocks dX2_needRoomForNode_23
  · have c1 : cnt = 400 := (nI_eq (by omega) (by omega)).mp c1
    exact absurd c1 h1
set_option maxHeartbeats 4000000 in
set_option maxRecDepth 100000 in
/-- 400 nodes: throws -/
theorem t_X2_needRoomForNode (hl9 : l.stackTraces = false) (h1 : cnt = 400) : TH l yX2_needRoomForNode wsX2_needRoomForNode { frames := 6, cells := 1, slots := 6, locals := 82 } (re_P D [(cI, .int), (cJ, .long)] (xW h hn ow fi ro ha oa na sa he ob nb sb cI cJ ic lc stp ap cnt len fo ff fr oA cA rA tA gA nA sA oB cB rB tB gB nB sB) tp [.ref h]) "java/lang/IllegalStateException" := by
  refine vx_ofW (cc := cX2_needRoomForNode) (maxL := 1) (ret := none) (by decide) rfl ?_
  intro p e s m args below meth c s₁ B hml hno hv
  obtain ⟨rfl, ⟨hP, hK⟩, hE⟩ := hv
  have hx := B.exec
  have hb := B.bytes
  have hr := B.returns
  have hts := atoms_spec (ws := wsX2_needRoomForNode) B.pre
  have hown : s.vm.findClass RX2 = some m.cls := findClass_of_methodNamed B.named
  have hlocks := B.notSynchronized
  have hl := lv_entry ([.ref h]) (n := 1) (Nat.le_of_ble_eq_true rfl)
  rw [lg_entry_eq]
  generalize (lg_sl ([.ref h]) ++ List.replicate (1 - (lg_sl ([.ref h])).length) Slot.unset).toArray = ls at hl ⊢
  have hl : lv_has ls 1 [(0, .ref h)] := hl
  have hP : va_P D vwCl [(h, .inr (2, [.ref hn, .ref ha, .ref he, .int (nI ic), .int (nI lc), .int (nI stp), .int ap])), (hn, .inr (1, [.int (nI cnt), .ref ow, .ref fi, .ref ro])), (ow, .inl (cI, 400, .inl fo)), (fi, .inl (cI, 400, .inl ff)), (ro, .inl (cJ, len, .inr (.inl fr))), (ha, .inr (0, [.ref oa, .ref na, .ref sa, .int (nI oA), .int (nI cA), .int (nI rA), .int (nI tA)])), (oa, .inl (cI, 16, .inl (fun j => nI (gA j)))), (na, .inl (cI, 4, .inl (fun j => nI (nA j)))), (sa, .inl (cI, 16, .inl sA)), (he, .inr (0, [.ref ob, .ref nb, .ref sb, .int (nI oB), .int (nI cB), .int (nI rB), .int (nI tB)])), (ob, .inl (cI, 16, .inl (fun j => nI (gB j)))), (nb, .inl (cI, 4, .inl (fun j => nI (nB j)))), (sb, .inl (cI, 16, .inl sB))] s.heap := hP
  have hin1 : ∀ w ∈ wsX10, w ∈ wsX2_needRoomForNode := by decide +kernel
  have hin2 : ∀ w ∈ wsX20, w ∈ wsX2_needRoomForNode := by decide +kernel
  have kf12 := hts (.fieldLink RX2 12 "SweepEqual" "nodes" "LSweepEqual$Nodes;") (by decide +kernel)
  have kf169 := hts (.fieldLink RX2 169 "SweepEqual$Nodes" "count" "I") (by decide +kernel)
  have hgw_is : ∀ w ∈ (vx_atS RX2 37 "java/lang/IllegalStateException" xN).filter goodWord, w.before ([.ref h] : List Value).toArray s = true := fun w hw => hts w (inX_X2_needRoomForNode_is w hw)
  refine lv_aload_n hx hb dX2_needRoomForNode_0 rfl (lv_at hl 0 rfl) ?_
  refine va_get (D := D) (ci := 2) (v := .ref hn) (C := RX2) (T := TX2) (N := 7) hx hb hts hin2 hown hK hP 0 rfl rfl 0 (by decide) kf12 (fun _ h9 => h9) rfl dX2_needRoomForNode_1 ?_
  refine va_get (D := D) (ci := 1) (v := .int (nI cnt)) (C := RX1) (T := TX1) (N := 4) hx hb hts hin1 hown hK hP 1 rfl rfl 0 (by decide) kf169 (fun _ h9 => h9) rfl dX2_needRoomForNode_4 ?_
  refine lv_sipush (v := nI 400) hx hb dX2_needRoomForNode_7 (by decide) ?_
  refine lv_icmp_ne (tgt := 23) hx hb dX2_needRoomForNode_10 (by decide) (fun c1 => ?_) (fun c1 => ?_)
  · have c1 : ¬ cnt = 400 := fun h => c1 ((nI_eq (by omega) (by omega)).mpr h)
    exact absurd h1 c1
  · have c1 : cnt = 400 := (nI_eq (by omega) (by omega)).mp c1
    exact th_S (cls := "java/lang/IllegalStateException") (text := "there are 400 nodes") hx hb hl9 hown (by decide +kernel) (hts (.classLink RX2 33 "java/lang/IllegalStateException") (by decide +kernel)) (hts (.initialized "java/lang/IllegalStateException") (by decide +kernel)) hgw_is hng_is hgd_is hE (by decide) (by decide) (by rw [hml]; exact hl.1) dX2_needRoomForNode_13 dX2_needRoomForNode_16 dX2_needRoomForNode_17 dX2_needRoomForNode_19 dX2_needRoomForNode_22 hno (Nat.le_of_ble_eq_true rfl) (Nat.le_of_ble_eq_true rfl) (Nat.le_of_ble_eq_true rfl) (Nat.le_of_ble_eq_true rfl) hlocks
set_option maxHeartbeats 4000000 in
set_option maxRecDepth 100000 in
/-- of both sides or of this one: goes on -/
theorem c_X2_needOwn (sd : Int32) (lit : Nat) (h1 : ¬ (¬ fo (lit / 2) = -1 ∧ ¬ fo (lit / 2) = sd)) (h2 : lit / 2 < 400) : Met l yX2_needOwn wsX2_needOwn { frames := 1, cells := 0, slots := 0, locals := 23 } (re_P D [(cI, .int), (cJ, .long)] (xW h hn ow fi ro ha oa na sa he ob nb sb cI cJ ic lc stp ap cnt len fo ff fr oA cA rA tA gA nA sA oB cB rB tB gB nB sB) tp [.ref h, .int sd, .int (nI lit)]) rv_Q 0 0 (fun _ => False) := by
  refine Met.ofW (cc := cX2_needOwn) (maxL := 3) (ret := none) (by decide) rfl ?_
  intro p e s m args below meth c s₁ B hml hv
  obtain ⟨rfl, ⟨hP, hK⟩, hE⟩ := hv
  have hx := B.exec
  have hb := B.bytes
  have hr := B.returns
  have hts := atoms_spec (ws := wsX2_needOwn) B.pre
  have hown : s.vm.findClass RX2 = some m.cls := findClass_of_methodNamed B.named
  have hlocks := B.notSynchronized
  have hl := lv_entry ([.ref h, .int sd, .int (nI lit)]) (n := 3) (Nat.le_of_ble_eq_true rfl)
  rw [lg_entry_eq]
  generalize (lg_sl ([.ref h, .int sd, .int (nI lit)]) ++ List.replicate (3 - (lg_sl ([.ref h, .int sd, .int (nI lit)])).length) Slot.unset).toArray = ls at hl ⊢
  have hl : lv_has ls 3 [(0, .ref h), (1, .int sd), (2, .int (nI lit))] := hl
  have hP : va_P D vwCl [(h, .inr (2, [.ref hn, .ref ha, .ref he, .int (nI ic), .int (nI lc), .int (nI stp), .int ap])), (hn, .inr (1, [.int (nI cnt), .ref ow, .ref fi, .ref ro])), (ow, .inl (cI, 400, .inl fo)), (fi, .inl (cI, 400, .inl ff)), (ro, .inl (cJ, len, .inr (.inl fr))), (ha, .inr (0, [.ref oa, .ref na, .ref sa, .int (nI oA), .int (nI cA), .int (nI rA), .int (nI tA)])), (oa, .inl (cI, 16, .inl (fun j => nI (gA j)))), (na, .inl (cI, 4, .inl (fun j => nI (nA j)))), (sa, .inl (cI, 16, .inl sA)), (he, .inr (0, [.ref ob, .ref nb, .ref sb, .int (nI oB), .int (nI cB), .int (nI rB), .int (nI tB)])), (ob, .inl (cI, 16, .inl (fun j => nI (gB j)))), (nb, .inl (cI, 4, .inl (fun j => nI (nB j)))), (sb, .inl (cI, 16, .inl sB))] s.heap := hP
  have hin2 : ∀ w ∈ wsX20, w ∈ wsX2_needOwn := by decide +kernel
  have kf12 := hts (.fieldLink RX2 12 "SweepEqual" "nodes" "LSweepEqual$Nodes;") (by decide +kernel)
  refine lv_aload_n hx hb dX2_needOwn_0 rfl (lv_at hl 0 rfl) ?_
  refine va_get (D := D) (ci := 2) (v := .ref hn) (C := RX2) (T := TX2) (N := 7) hx hb hts hin2 hown hK hP 0 rfl rfl 0 (by decide) kf12 (fun _ h9 => h9) rfl dX2_needOwn_1 ?_
  refine lv_iload_n hx hb dX2_needOwn_4 rfl (lv_at hl 1 rfl) ?_
  refine lv_iload_n hx hb dX2_needOwn_5 rfl (lv_at hl 2 rfl) ?_
  refine rd_V (As := [.int sd, .int (nI lit)]) (rest := []) ⟨hx, hb, hml, hown, hts⟩ (c_X1_isOfOtherSide l D cI cJ hn ow fi ro cnt len fo ff fr sd lit h2) (cwV 2 hts gX2_needOwn_X1_isOfOtherSide rfl rfl rfl (by decide +kernel) ⟨Nat.le_of_ble_eq_true rfl, Nat.le_of_ble_eq_true rfl⟩) (rd_pv (ci := 1) (q0 := 0) hK (hP.sub (ws' := [(hn, .inr (1, [.int (nI cnt), .ref ow, .ref fi, .ref ro])), (ow, .inl (cI, 400, .inl fo)), (fi, .inl (cI, 400, .inl ff)), (ro, .inl (cJ, len, .inr (.inl fr)))]) [1, 2, 3, 4] rfl) rfl rfl) rfl hl.1 rfl (Nat.le_of_ble_eq_true rfl) dX2_needOwn_6 ⟨Nat.zero_le _, Nat.zero_le _⟩ ?_
  refine lv_if_eq (tgt := 22) hx hb dX2_needOwn_9 (by decide) (fun c1 => ?_) (fun c1 => ?_)
  · exact rv_r hx hb hr hlocks dX2_needOwn_22
  · exact absurd (zI_eq0.mpr (decide_eq_false h1)) c1
set_option maxHeartbeats 4000000 in
set_option maxRecDepth 100000 in
/-- of the other side: throws -/
theorem t_X2_needOwn (hl9 : l.stackTraces = false) (sd : Int32) (lit : Nat) (h1 : ¬ fo (lit / 2) = -1 ∧ ¬ fo (lit / 2) = sd) (h2 : lit / 2 < 400) : TH l yX2_needOwn wsX2_needOwn { frames := 6, cells := 1, slots := 6, locals := 82 } (re_P D [(cI, .int), (cJ, .long)] (xW h hn ow fi ro ha oa na sa he ob nb sb cI cJ ic lc stp ap cnt len fo ff fr oA cA rA tA gA nA sA oB cB rB tB gB nB sB) tp [.ref h, .int sd, .int (nI lit)]) "java/lang/IllegalArgumentException" := by
  refine vx_ofW (cc := cX2_needOwn) (maxL := 3) (ret := none) (by decide) rfl ?_
  intro p e s m args below meth c s₁ B hml hno hv
  obtain ⟨rfl, ⟨hP, hK⟩, hE⟩ := hv
  have hx := B.exec
  have hb := B.bytes
  have hr := B.returns
  have hts := atoms_spec (ws := wsX2_needOwn) B.pre
  have hown : s.vm.findClass RX2 = some m.cls := findClass_of_methodNamed B.named
  have hlocks := B.notSynchronized
  have hl := lv_entry ([.ref h, .int sd, .int (nI lit)]) (n := 3) (Nat.le_of_ble_eq_true rfl)
  rw [lg_entry_eq]
  generalize (lg_sl ([.ref h, .int sd, .int (nI lit)]) ++ List.replicate (3 - (lg_sl ([.ref h, .int sd, .int (nI lit)])).length) Slot.unset).toArray = ls at hl ⊢
  have hl : lv_has ls 3 [(0, .ref h), (1, .int sd), (2, .int (nI lit))] := hl
  have hP : va_P D vwCl [(h, .inr (2, [.ref hn, .ref ha, .ref he, .int (nI ic), .int (nI lc), .int (nI stp), .int ap])), (hn, .inr (1, [.int (nI cnt), .ref ow, .ref fi, .ref ro])), (ow, .inl (cI, 400, .inl fo)), (fi, .inl (cI, 400, .inl ff)), (ro, .inl (cJ, len, .inr (.inl fr))), (ha, .inr (0, [.ref oa, .ref na, .ref sa, .int (nI oA), .int (nI cA), .int (nI rA), .int (nI tA)])), (oa, .inl (cI, 16, .inl (fun j => nI (gA j)))), (na, .inl (cI, 4, .inl (fun j => nI (nA j)))), (sa, .inl (cI, 16, .inl sA)), (he, .inr (0, [.ref ob, .ref nb, .ref sb, .int (nI oB), .int (nI cB), .int (nI rB), .int (nI tB)])), (ob, .inl (cI, 16, .inl (fun j => nI (gB j)))), (nb, .inl (cI, 4, .inl (fun j => nI (nB j)))), (sb, .inl (cI, 16, .inl sB))] s.heap := hP
  have hin2 : ∀ w ∈ wsX20, w ∈ wsX2_needOwn := by decide +kernel
  have kf12 := hts (.fieldLink RX2 12 "SweepEqual" "nodes" "LSweepEqual$Nodes;") (by decide +kernel)
  have hgw_ia : ∀ w ∈ (vx_atS RX2 191 "java/lang/IllegalArgumentException" xN).filter goodWord, w.before ([.ref h, .int sd, .int (nI lit)] : List Value).toArray s = true := fun w hw => hts w (inX_X2_needOwn_ia w hw)
  refine lv_aload_n hx hb dX2_needOwn_0 rfl (lv_at hl 0 rfl) ?_
  refine va_get (D := D) (ci := 2) (v := .ref hn) (C := RX2) (T := TX2) (N := 7) hx hb hts hin2 hown hK hP 0 rfl rfl 0 (by decide) kf12 (fun _ h9 => h9) rfl dX2_needOwn_1 ?_
  refine lv_iload_n hx hb dX2_needOwn_4 rfl (lv_at hl 1 rfl) ?_
  refine lv_iload_n hx hb dX2_needOwn_5 rfl (lv_at hl 2 rfl) ?_
  refine rd_V (As := [.int sd, .int (nI lit)]) (rest := []) ⟨hx, hb, hml, hown, hts⟩ (c_X1_isOfOtherSide l D cI cJ hn ow fi ro cnt len fo ff fr sd lit h2) (cwV 2 hts gX2_needOwn_X1_isOfOtherSide rfl rfl rfl (by decide +kernel) ⟨Nat.le_of_ble_eq_true rfl, Nat.le_of_ble_eq_true rfl⟩) (rd_pv (ci := 1) (q0 := 0) hK (hP.sub (ws' := [(hn, .inr (1, [.int (nI cnt), .ref ow, .ref fi, .ref ro])), (ow, .inl (cI, 400, .inl fo)), (fi, .inl (cI, 400, .inl ff)), (ro, .inl (cJ, len, .inr (.inl fr)))]) [1, 2, 3, 4] rfl) rfl rfl) rfl hl.1 rfl (Nat.le_of_ble_eq_true rfl) dX2_needOwn_6 ⟨Nat.zero_le _, Nat.zero_le _⟩ ?_
  refine lv_if_eq (tgt := 22) hx hb dX2_needOwn_9 (by decide) (fun c1 => ?_) (fun c1 => ?_)
  · exact absurd h1 (of_decide_eq_false (zI_eq0.mp c1))
  · exact th_S (cls := "java/lang/IllegalArgumentException") (text := "a literal is of an AND of the other side") hx hb hl9 hown (by decide +kernel) (hts (.classLink RX2 187 "java/lang/IllegalArgumentException") (by decide +kernel)) (hts (.initialized "java/lang/IllegalArgumentException") (by decide +kernel)) hgw_ia hng_ia hgd_ia hE (by decide) (by decide) (by rw [hml]; exact hl.1) dX2_needOwn_12 dX2_needOwn_15 dX2_needOwn_16 dX2_needOwn_18 dX2_needOwn_21 hno (Nat.le_of_ble_eq_true rfl) (Nat.le_of_ble_eq_true rfl) (Nat.le_of_ble_eq_true rfl) (Nat.le_of_ble_eq_true rfl) hlocks
end XG
end
section
/-! SweepEqual: readers that ask Nodes, and their throws. -/
section RA
variable {p : Program} {l : Launch} {e : Env} {R : Room} {s : State} {m : MethodId} {args : Array Value} {below : List Frame} {meth : Method} {c : Code} {cc : ByteArray} {pc : Nat} {ls : Array Slot}
theorem rd_a {v w : Nat} {rt : FieldType} (hx : p.tables.exec = Jvm.exec) (hb : c.code = cc) (hr : meth.sig.returnType = some rt) (hrt : (∃ n, rt = .object n) ∨ ∃ t, rt = .array t) (hlocks : meth.locks = false) (hdg : decode cc pc = .ok (.areturn, 1)) (h : v = w) : W p l e R s m args below meth c s.heap [] 0 0 (MQ below (k2_QcV (.ref w)) args s 0 0 (fun _ => False)) (F0 m pc ls [.ref v]) := by
  rw [h]
  exact W.aret hx hb hr hrt (Or.inr ⟨w, rfl⟩) (fun t ht _ => ⟨rfl, ht⟩) (fun q h => absurd h List.not_mem_nil) hdg hlocks
end RA
section XRd
variable (l : Launch) (D : va_G) (cI cJ : ClassId) (tp : Nat) (h hn ow fi ro ha oa na sa he ob nb sb : Nat) (ic lc stp : Nat) (ap : Int32) (cnt len : Nat) (fo ff : Nat → Int32) (fr : Nat → Int64) (oA cA rA tA : Nat) (gA nA : Nat → Nat) (sA : Nat → Int32) (oB cB rB tB : Nat) (gB nB : Nat → Nat) (sB : Nat → Int32)
set_option maxHeartbeats 4000000 in
set_option maxRecDepth 100000 in
/-- same -/
theorem c_X2_same (la lb : Nat) (h1 : la < 2 * cnt) (h2 : lb < 2 * cnt) (hc : cnt ≤ 400) : Met l yX2_same wsX2_same { frames := 2, cells := 0, slots := 0, locals := 43 } (re_P D [(cI, .int), (cJ, .long)] (xW h hn ow fi ro ha oa na sa he ob nb sb cI cJ ic lc stp ap cnt len fo ff fr oA cA rA tA gA nA sA oB cB rB tB gB nB sB) tp [.ref h, .int (nI la), .int (nI lb)]) (k2_QcV (.int (zI (decide (fs1 ff la = fs1 ff lb))))) 0 0 (fun _ => False) := by
  refine Met.ofW (cc := cX2_same) (maxL := 3) (ret := (some .boolean)) (by decide) rfl ?_
  intro p e s m args below meth c s₁ B hml hv
  obtain ⟨rfl, ⟨hP, hK⟩, hE⟩ := hv
  have hx := B.exec
  have hb := B.bytes
  have hr := B.returns
  have hts := atoms_spec (ws := wsX2_same) B.pre
  have hown : s.vm.findClass RX2 = some m.cls := findClass_of_methodNamed B.named
  have hlocks := B.notSynchronized
  have hl := lv_entry ([.ref h, .int (nI la), .int (nI lb)]) (n := 3) (Nat.le_of_ble_eq_true rfl)
  rw [lg_entry_eq]
  generalize (lg_sl ([.ref h, .int (nI la), .int (nI lb)]) ++ List.replicate (3 - (lg_sl ([.ref h, .int (nI la), .int (nI lb)])).length) Slot.unset).toArray = ls at hl ⊢
  have hl : lv_has ls 3 [(0, .ref h), (1, .int (nI la)), (2, .int (nI lb))] := hl
  have hP : va_P D vwCl [(h, .inr (2, [.ref hn, .ref ha, .ref he, .int (nI ic), .int (nI lc), .int (nI stp), .int ap])), (hn, .inr (1, [.int (nI cnt), .ref ow, .ref fi, .ref ro])), (ow, .inl (cI, 400, .inl fo)), (fi, .inl (cI, 400, .inl ff)), (ro, .inl (cJ, len, .inr (.inl fr))), (ha, .inr (0, [.ref oa, .ref na, .ref sa, .int (nI oA), .int (nI cA), .int (nI rA), .int (nI tA)])), (oa, .inl (cI, 16, .inl (fun j => nI (gA j)))), (na, .inl (cI, 4, .inl (fun j => nI (nA j)))), (sa, .inl (cI, 16, .inl sA)), (he, .inr (0, [.ref ob, .ref nb, .ref sb, .int (nI oB), .int (nI cB), .int (nI rB), .int (nI tB)])), (ob, .inl (cI, 16, .inl (fun j => nI (gB j)))), (nb, .inl (cI, 4, .inl (fun j => nI (nB j)))), (sb, .inl (cI, 16, .inl sB))] s.heap := hP
  have hin2 : ∀ w ∈ wsX20, w ∈ wsX2_same := by decide +kernel
  have kf12 := hts (.fieldLink RX2 12 "SweepEqual" "nodes" "LSweepEqual$Nodes;") (by decide +kernel)
  refine lv_aload_n hx hb dX2_same_0 rfl (lv_at hl 0 rfl) ?_
  refine lv_iload_n hx hb dX2_same_1 rfl (lv_at hl 1 rfl) ?_
  refine rv_V (As := [.int (nI la)]) (rest := []) ⟨hx, hb, hml, hown, hts⟩ (c_X2_needLiteral l D cI cJ tp h hn ow fi ro ha oa na sa he ob nb sb ic lc stp ap cnt len fo ff fr oA cA rA tA gA nA sA oB cB rB tB gB nB sB la h1 (by omega)) (cwV 1 hts gX2_same_X2_needLiteral rfl rfl rfl (by decide +kernel) ⟨Nat.le_of_ble_eq_true rfl, Nat.le_of_ble_eq_true rfl⟩) (re_pv (ci := 2) (q0 := 0) hK hP hE rfl rfl) rfl hl.1 rfl (Nat.le_of_ble_eq_true rfl) dX2_same_2 ⟨Nat.zero_le _, Nat.zero_le _⟩ ?_
  refine lv_aload_n hx hb dX2_same_5 rfl (lv_at hl 0 rfl) ?_
  refine lv_iload_n hx hb dX2_same_6 rfl (lv_at hl 2 rfl) ?_
  refine rv_V (As := [.int (nI lb)]) (rest := []) ⟨hx, hb, hml, hown, hts⟩ (c_X2_needLiteral l D cI cJ tp h hn ow fi ro ha oa na sa he ob nb sb ic lc stp ap cnt len fo ff fr oA cA rA tA gA nA sA oB cB rB tB gB nB sB lb h2 (by omega)) (cwV 1 hts gX2_same_X2_needLiteral rfl rfl rfl (by decide +kernel) ⟨Nat.le_of_ble_eq_true rfl, Nat.le_of_ble_eq_true rfl⟩) (re_pv (ci := 2) (q0 := 0) hK hP hE rfl rfl) rfl hl.1 rfl (Nat.le_of_ble_eq_true rfl) dX2_same_7 ⟨Nat.zero_le _, Nat.zero_le _⟩ ?_
  refine lv_aload_n hx hb dX2_same_10 rfl (lv_at hl 0 rfl) ?_
  refine va_get (D := D) (ci := 2) (v := .ref hn) (C := RX2) (T := TX2) (N := 7) hx hb hts hin2 hown hK hP 0 rfl rfl 0 (by decide) kf12 (fun _ h9 => h9) rfl dX2_same_11 ?_
  refine lv_iload_n hx hb dX2_same_14 rfl (lv_at hl 1 rfl) ?_
  refine lv_iload_n hx hb dX2_same_15 rfl (lv_at hl 2 rfl) ?_
  refine rd_V (As := [.int (nI la), .int (nI lb)]) (rest := []) ⟨hx, hb, hml, hown, hts⟩ (c_X1_areSame l D cI cJ hn ow fi ro cnt len fo ff fr la lb (by omega) (by omega)) (cwV 2 hts gX2_same_X1_areSame rfl rfl rfl (by decide +kernel) ⟨Nat.le_of_ble_eq_true rfl, Nat.le_of_ble_eq_true rfl⟩) (rd_pv (ci := 1) (q0 := 0) hK (hP.sub (ws' := [(hn, .inr (1, [.int (nI cnt), .ref ow, .ref fi, .ref ro])), (ow, .inl (cI, 400, .inl fo)), (fi, .inl (cI, 400, .inl ff)), (ro, .inl (cJ, len, .inr (.inl fr)))]) [1, 2, 3, 4] rfl) rfl rfl) rfl hl.1 rfl (Nat.le_of_ble_eq_true rfl) dX2_same_16 ⟨Nat.zero_le _, Nat.zero_le _⟩ ?_
  exact rd_z hx hb hr hlocks dX2_same_19 (rfl) (zI_01 _)
set_option maxHeartbeats 4000000 in
set_option maxRecDepth 100000 in
/-- same: no such first literal -/
theorem t_X2_same1 (hl9 : l.stackTraces = false) (x y : Int32) (hx9 : x < 0 ∨ nI (2 * cnt) ≤ x) : TH l yX2_same wsX2_same { frames := 7, cells := 1, slots := 6, locals := 103 } (re_P D [(cI, .int), (cJ, .long)] (xW h hn ow fi ro ha oa na sa he ob nb sb cI cJ ic lc stp ap cnt len fo ff fr oA cA rA tA gA nA sA oB cB rB tB gB nB sB) tp [.ref h, .int x, .int y]) "java/lang/IndexOutOfBoundsException" := by
  refine vx_ofW (cc := cX2_same) (maxL := 3) (ret := (some .boolean)) (by decide) rfl ?_
  intro p e s m args below meth c s₁ B hml hno hv
  obtain ⟨rfl, ⟨hP, hK⟩, hE⟩ := hv
  have hx := B.exec
  have hb := B.bytes
  have hr := B.returns
  have hts := atoms_spec (ws := wsX2_same) B.pre
  have hown : s.vm.findClass RX2 = some m.cls := findClass_of_methodNamed B.named
  have hlocks := B.notSynchronized
  have hl := lv_entry ([.ref h, .int x, .int y]) (n := 3) (Nat.le_of_ble_eq_true rfl)
  rw [lg_entry_eq]
  generalize (lg_sl ([.ref h, .int x, .int y]) ++ List.replicate (3 - (lg_sl ([.ref h, .int x, .int y])).length) Slot.unset).toArray = ls at hl ⊢
  have hl : lv_has ls 3 [(0, .ref h), (1, .int x), (2, .int y)] := hl
  have hP : va_P D vwCl [(h, .inr (2, [.ref hn, .ref ha, .ref he, .int (nI ic), .int (nI lc), .int (nI stp), .int ap])), (hn, .inr (1, [.int (nI cnt), .ref ow, .ref fi, .ref ro])), (ow, .inl (cI, 400, .inl fo)), (fi, .inl (cI, 400, .inl ff)), (ro, .inl (cJ, len, .inr (.inl fr))), (ha, .inr (0, [.ref oa, .ref na, .ref sa, .int (nI oA), .int (nI cA), .int (nI rA), .int (nI tA)])), (oa, .inl (cI, 16, .inl (fun j => nI (gA j)))), (na, .inl (cI, 4, .inl (fun j => nI (nA j)))), (sa, .inl (cI, 16, .inl sA)), (he, .inr (0, [.ref ob, .ref nb, .ref sb, .int (nI oB), .int (nI cB), .int (nI rB), .int (nI tB)])), (ob, .inl (cI, 16, .inl (fun j => nI (gB j)))), (nb, .inl (cI, 4, .inl (fun j => nI (nB j)))), (sb, .inl (cI, 16, .inl sB))] s.heap := hP
  have hin2 : ∀ w ∈ wsX20, w ∈ wsX2_same := by decide +kernel
  have kf12 := hts (.fieldLink RX2 12 "SweepEqual" "nodes" "LSweepEqual$Nodes;") (by decide +kernel)
  refine lv_aload_n hx hb dX2_same_0 rfl (lv_at hl 0 rfl) ?_
  refine lv_iload_n hx hb dX2_same_1 rfl (lv_at hl 1 rfl) ?_
  exact th_V (As := [.int x]) (rest := []) ⟨hx, hb, hml, hown, hts⟩ (t_X2_needLiteral l D cI cJ tp h hn ow fi ro ha oa na sa he ob nb sb ic lc stp ap cnt len fo ff fr oA cA rA tA gA nA sA oB cB rB tB gB nB sB hl9 x hx9) (cwV 1 hts gX2_same_X2_needLiteral rfl rfl rfl (by decide +kernel) ⟨Nat.le_of_ble_eq_true rfl, Nat.le_of_ble_eq_true rfl⟩) (re_pv (ci := 2) (q0 := 0) hK hP hE rfl rfl) rfl hl.1 rfl (Nat.le_of_ble_eq_true rfl) dX2_same_2 ⟨Nat.le_of_ble_eq_true rfl, Nat.le_of_ble_eq_true rfl⟩ hno hlocks
set_option maxHeartbeats 4000000 in
set_option maxRecDepth 100000 in
/-- same: no such second literal -/
theorem t_X2_same2 (hl9 : l.stackTraces = false) (la : Nat) (x : Int32) (h1 : la < 2 * cnt) (hc : cnt ≤ 400) (hx9 : x < 0 ∨ nI (2 * cnt) ≤ x) : TH l yX2_same wsX2_same { frames := 7, cells := 1, slots := 6, locals := 103 } (re_P D [(cI, .int), (cJ, .long)] (xW h hn ow fi ro ha oa na sa he ob nb sb cI cJ ic lc stp ap cnt len fo ff fr oA cA rA tA gA nA sA oB cB rB tB gB nB sB) tp [.ref h, .int (nI la), .int x]) "java/lang/IndexOutOfBoundsException" := by
  refine vx_ofW (cc := cX2_same) (maxL := 3) (ret := (some .boolean)) (by decide) rfl ?_
  intro p e s m args below meth c s₁ B hml hno hv
  obtain ⟨rfl, ⟨hP, hK⟩, hE⟩ := hv
  have hx := B.exec
  have hb := B.bytes
  have hr := B.returns
  have hts := atoms_spec (ws := wsX2_same) B.pre
  have hown : s.vm.findClass RX2 = some m.cls := findClass_of_methodNamed B.named
  have hlocks := B.notSynchronized
  have hl := lv_entry ([.ref h, .int (nI la), .int x]) (n := 3) (Nat.le_of_ble_eq_true rfl)
  rw [lg_entry_eq]
  generalize (lg_sl ([.ref h, .int (nI la), .int x]) ++ List.replicate (3 - (lg_sl ([.ref h, .int (nI la), .int x])).length) Slot.unset).toArray = ls at hl ⊢
  have hl : lv_has ls 3 [(0, .ref h), (1, .int (nI la)), (2, .int x)] := hl
  have hP : va_P D vwCl [(h, .inr (2, [.ref hn, .ref ha, .ref he, .int (nI ic), .int (nI lc), .int (nI stp), .int ap])), (hn, .inr (1, [.int (nI cnt), .ref ow, .ref fi, .ref ro])), (ow, .inl (cI, 400, .inl fo)), (fi, .inl (cI, 400, .inl ff)), (ro, .inl (cJ, len, .inr (.inl fr))), (ha, .inr (0, [.ref oa, .ref na, .ref sa, .int (nI oA), .int (nI cA), .int (nI rA), .int (nI tA)])), (oa, .inl (cI, 16, .inl (fun j => nI (gA j)))), (na, .inl (cI, 4, .inl (fun j => nI (nA j)))), (sa, .inl (cI, 16, .inl sA)), (he, .inr (0, [.ref ob, .ref nb, .ref sb, .int (nI oB), .int (nI cB), .int (nI rB), .int (nI tB)])), (ob, .inl (cI, 16, .inl (fun j => nI (gB j)))), (nb, .inl (cI, 4, .inl (fun j => nI (nB j)))), (sb, .inl (cI, 16, .inl sB))] s.heap := hP
  have hin2 : ∀ w ∈ wsX20, w ∈ wsX2_same := by decide +kernel
  have kf12 := hts (.fieldLink RX2 12 "SweepEqual" "nodes" "LSweepEqual$Nodes;") (by decide +kernel)
  refine lv_aload_n hx hb dX2_same_0 rfl (lv_at hl 0 rfl) ?_
  refine lv_iload_n hx hb dX2_same_1 rfl (lv_at hl 1 rfl) ?_
  refine rv_V (As := [.int (nI la)]) (rest := []) ⟨hx, hb, hml, hown, hts⟩ (c_X2_needLiteral l D cI cJ tp h hn ow fi ro ha oa na sa he ob nb sb ic lc stp ap cnt len fo ff fr oA cA rA tA gA nA sA oB cB rB tB gB nB sB la h1 (by omega)) (cwV 1 hts gX2_same_X2_needLiteral rfl rfl rfl (by decide +kernel) ⟨Nat.le_of_ble_eq_true rfl, Nat.le_of_ble_eq_true rfl⟩) (re_pv (ci := 2) (q0 := 0) hK hP hE rfl rfl) rfl hl.1 rfl (Nat.le_of_ble_eq_true rfl) dX2_same_2 ⟨Nat.zero_le _, Nat.zero_le _⟩ ?_
  refine lv_aload_n hx hb dX2_same_5 rfl (lv_at hl 0 rfl) ?_
  refine lv_iload_n hx hb dX2_same_6 rfl (lv_at hl 2 rfl) ?_
  exact th_V (As := [.int x]) (rest := []) ⟨hx, hb, hml, hown, hts⟩ (t_X2_needLiteral l D cI cJ tp h hn ow fi ro ha oa na sa he ob nb sb ic lc stp ap cnt len fo ff fr oA cA rA tA gA nA sA oB cB rB tB gB nB sB hl9 x hx9) (cwV 1 hts gX2_same_X2_needLiteral rfl rfl rfl (by decide +kernel) ⟨Nat.le_of_ble_eq_true rfl, Nat.le_of_ble_eq_true rfl⟩) (re_pv (ci := 2) (q0 := 0) hK hP hE rfl rfl) rfl hl.1 rfl (Nat.le_of_ble_eq_true rfl) dX2_same_7 ⟨Nat.le_of_ble_eq_true rfl, Nat.le_of_ble_eq_true rfl⟩ hno hlocks
set_option maxHeartbeats 4000000 in
set_option maxRecDepth 100000 in
/-- first -/
theorem c_X2_first (lit : Nat) (h1 : lit < 2 * cnt) (hc : cnt ≤ 400) (hl1 : cnt * 64 ≤ len) (hl2 : len ≤ 25600) : Met l yX2_first wsX2_first { frames := 1, cells := 0, slots := 0, locals := 21 } (re_P D [(cI, .int), (cJ, .long)] (xW h hn ow fi ro ha oa na sa he ob nb sb cI cJ ic lc stp ap cnt len fo ff fr oA cA rA tA gA nA sA oB cB rB tB gB nB sB) tp [.ref h, .int (nI lit)]) (k2_QcV (.int (fs1 ff lit))) 0 0 (fun _ => False) := by
  refine Met.ofW (cc := cX2_first) (maxL := 2) (ret := (some .int)) (by decide) rfl ?_
  intro p e s m args below meth c s₁ B hml hv
  obtain ⟨rfl, ⟨hP, hK⟩, hE⟩ := hv
  have hx := B.exec
  have hb := B.bytes
  have hr := B.returns
  have hts := atoms_spec (ws := wsX2_first) B.pre
  have hown : s.vm.findClass RX2 = some m.cls := findClass_of_methodNamed B.named
  have hlocks := B.notSynchronized
  have hl := lv_entry ([.ref h, .int (nI lit)]) (n := 2) (Nat.le_of_ble_eq_true rfl)
  rw [lg_entry_eq]
  generalize (lg_sl ([.ref h, .int (nI lit)]) ++ List.replicate (2 - (lg_sl ([.ref h, .int (nI lit)])).length) Slot.unset).toArray = ls at hl ⊢
  have hl : lv_has ls 2 [(0, .ref h), (1, .int (nI lit))] := hl
  have hP : va_P D vwCl [(h, .inr (2, [.ref hn, .ref ha, .ref he, .int (nI ic), .int (nI lc), .int (nI stp), .int ap])), (hn, .inr (1, [.int (nI cnt), .ref ow, .ref fi, .ref ro])), (ow, .inl (cI, 400, .inl fo)), (fi, .inl (cI, 400, .inl ff)), (ro, .inl (cJ, len, .inr (.inl fr))), (ha, .inr (0, [.ref oa, .ref na, .ref sa, .int (nI oA), .int (nI cA), .int (nI rA), .int (nI tA)])), (oa, .inl (cI, 16, .inl (fun j => nI (gA j)))), (na, .inl (cI, 4, .inl (fun j => nI (nA j)))), (sa, .inl (cI, 16, .inl sA)), (he, .inr (0, [.ref ob, .ref nb, .ref sb, .int (nI oB), .int (nI cB), .int (nI rB), .int (nI tB)])), (ob, .inl (cI, 16, .inl (fun j => nI (gB j)))), (nb, .inl (cI, 4, .inl (fun j => nI (nB j)))), (sb, .inl (cI, 16, .inl sB))] s.heap := hP
  have hin2 : ∀ w ∈ wsX20, w ∈ wsX2_first := by decide +kernel
  have kf12 := hts (.fieldLink RX2 12 "SweepEqual" "nodes" "LSweepEqual$Nodes;") (by decide +kernel)
  refine lv_aload_n hx hb dX2_first_0 rfl (lv_at hl 0 rfl) ?_
  refine lv_iload_n hx hb dX2_first_1 rfl (lv_at hl 1 rfl) ?_
  refine rv_V (As := [.int (nI lit)]) (rest := []) ⟨hx, hb, hml, hown, hts⟩ (c_X2_needLiteral l D cI cJ tp h hn ow fi ro ha oa na sa he ob nb sb ic lc stp ap cnt len fo ff fr oA cA rA tA gA nA sA oB cB rB tB gB nB sB lit h1 (by omega)) (cwV 1 hts gX2_first_X2_needLiteral rfl rfl rfl (by decide +kernel) ⟨Nat.le_of_ble_eq_true rfl, Nat.le_of_ble_eq_true rfl⟩) (re_pv (ci := 2) (q0 := 0) hK hP hE rfl rfl) rfl hl.1 rfl (Nat.le_of_ble_eq_true rfl) dX2_first_2 ⟨Nat.zero_le _, Nat.zero_le _⟩ ?_
  refine lv_aload_n hx hb dX2_first_5 rfl (lv_at hl 0 rfl) ?_
  refine va_get (D := D) (ci := 2) (v := .ref hn) (C := RX2) (T := TX2) (N := 7) hx hb hts hin2 hown hK hP 0 rfl rfl 0 (by decide) kf12 (fun _ h9 => h9) rfl dX2_first_6 ?_
  refine lv_iload_n hx hb dX2_first_9 rfl (lv_at hl 1 rfl) ?_
  refine rd_V (As := [.int (nI lit)]) (rest := []) ⟨hx, hb, hml, hown, hts⟩ (c_X1_firstOf l D cI cJ hn ow fi ro cnt len fo ff fr lit (by omega)) (cwV 1 hts gX2_first_X1_firstOf rfl rfl rfl (by decide +kernel) ⟨Nat.le_of_ble_eq_true rfl, Nat.le_of_ble_eq_true rfl⟩) (rd_pv (ci := 1) (q0 := 0) hK (hP.sub (ws' := [(hn, .inr (1, [.int (nI cnt), .ref ow, .ref fi, .ref ro])), (ow, .inl (cI, 400, .inl fo)), (fi, .inl (cI, 400, .inl ff)), (ro, .inl (cJ, len, .inr (.inl fr)))]) [1, 2, 3, 4] rfl) rfl rfl) rfl hl.1 rfl (Nat.le_of_ble_eq_true rfl) dX2_first_10 ⟨Nat.zero_le _, Nat.zero_le _⟩ ?_
  exact rd_i hx hb hr hlocks dX2_first_13 (rfl)
set_option maxHeartbeats 4000000 in
set_option maxRecDepth 100000 in
/-- first: no such literal -/
theorem t_X2_first1 (hl9 : l.stackTraces = false) (x : Int32) (hx9 : x < 0 ∨ nI (2 * cnt) ≤ x) : TH l yX2_first wsX2_first { frames := 7, cells := 1, slots := 6, locals := 103 } (re_P D [(cI, .int), (cJ, .long)] (xW h hn ow fi ro ha oa na sa he ob nb sb cI cJ ic lc stp ap cnt len fo ff fr oA cA rA tA gA nA sA oB cB rB tB gB nB sB) tp [.ref h, .int x]) "java/lang/IndexOutOfBoundsException" := by
  refine vx_ofW (cc := cX2_first) (maxL := 2) (ret := (some .int)) (by decide) rfl ?_
  intro p e s m args below meth c s₁ B hml hno hv
  obtain ⟨rfl, ⟨hP, hK⟩, hE⟩ := hv
  have hx := B.exec
  have hb := B.bytes
  have hr := B.returns
  have hts := atoms_spec (ws := wsX2_first) B.pre
  have hown : s.vm.findClass RX2 = some m.cls := findClass_of_methodNamed B.named
  have hlocks := B.notSynchronized
  have hl := lv_entry ([.ref h, .int x]) (n := 2) (Nat.le_of_ble_eq_true rfl)
  rw [lg_entry_eq]
  generalize (lg_sl ([.ref h, .int x]) ++ List.replicate (2 - (lg_sl ([.ref h, .int x])).length) Slot.unset).toArray = ls at hl ⊢
  have hl : lv_has ls 2 [(0, .ref h), (1, .int x)] := hl
  have hP : va_P D vwCl [(h, .inr (2, [.ref hn, .ref ha, .ref he, .int (nI ic), .int (nI lc), .int (nI stp), .int ap])), (hn, .inr (1, [.int (nI cnt), .ref ow, .ref fi, .ref ro])), (ow, .inl (cI, 400, .inl fo)), (fi, .inl (cI, 400, .inl ff)), (ro, .inl (cJ, len, .inr (.inl fr))), (ha, .inr (0, [.ref oa, .ref na, .ref sa, .int (nI oA), .int (nI cA), .int (nI rA), .int (nI tA)])), (oa, .inl (cI, 16, .inl (fun j => nI (gA j)))), (na, .inl (cI, 4, .inl (fun j => nI (nA j)))), (sa, .inl (cI, 16, .inl sA)), (he, .inr (0, [.ref ob, .ref nb, .ref sb, .int (nI oB), .int (nI cB), .int (nI rB), .int (nI tB)])), (ob, .inl (cI, 16, .inl (fun j => nI (gB j)))), (nb, .inl (cI, 4, .inl (fun j => nI (nB j)))), (sb, .inl (cI, 16, .inl sB))] s.heap := hP
  have hin2 : ∀ w ∈ wsX20, w ∈ wsX2_first := by decide +kernel
  have kf12 := hts (.fieldLink RX2 12 "SweepEqual" "nodes" "LSweepEqual$Nodes;") (by decide +kernel)
  refine lv_aload_n hx hb dX2_first_0 rfl (lv_at hl 0 rfl) ?_
  refine lv_iload_n hx hb dX2_first_1 rfl (lv_at hl 1 rfl) ?_
  exact th_V (As := [.int x]) (rest := []) ⟨hx, hb, hml, hown, hts⟩ (t_X2_needLiteral l D cI cJ tp h hn ow fi ro ha oa na sa he ob nb sb ic lc stp ap cnt len fo ff fr oA cA rA tA gA nA sA oB cB rB tB gB nB sB hl9 x hx9) (cwV 1 hts gX2_first_X2_needLiteral rfl rfl rfl (by decide +kernel) ⟨Nat.le_of_ble_eq_true rfl, Nat.le_of_ble_eq_true rfl⟩) (re_pv (ci := 2) (q0 := 0) hK hP hE rfl rfl) rfl hl.1 rfl (Nat.le_of_ble_eq_true rfl) dX2_first_2 ⟨Nat.le_of_ble_eq_true rfl, Nat.le_of_ble_eq_true rfl⟩ hno hlocks
set_option maxHeartbeats 4000000 in
set_option maxRecDepth 100000 in
/-- hangs -/
theorem c_X2_hangs (lit : Nat) (h1 : lit < 2 * cnt) (hc : cnt ≤ 400) (hl1 : cnt * 64 ≤ len) (hl2 : len ≤ 25600) : Met l yX2_hangs wsX2_hangs { frames := 4, cells := 0, slots := 0, locals := 97 } (re_P D [(cI, .int), (cJ, .long)] (xW h hn ow fi ro ha oa na sa he ob nb sb cI cJ ic lc stp ap cnt len fo ff fr oA cA rA tA gA nA sA oB cB rB tB gB nB sB) tp [.ref h, .int (nI lit)]) (k2_QcV (.int (spF fr lit 12))) 0 0 (fun _ => False) := by
  refine Met.ofW (cc := cX2_hangs) (maxL := 2) (ret := (some .int)) (by decide) rfl ?_
  intro p e s m args below meth c s₁ B hml hv
  obtain ⟨rfl, ⟨hP, hK⟩, hE⟩ := hv
  have hx := B.exec
  have hb := B.bytes
  have hr := B.returns
  have hts := atoms_spec (ws := wsX2_hangs) B.pre
  have hown : s.vm.findClass RX2 = some m.cls := findClass_of_methodNamed B.named
  have hlocks := B.notSynchronized
  have hl := lv_entry ([.ref h, .int (nI lit)]) (n := 2) (Nat.le_of_ble_eq_true rfl)
  rw [lg_entry_eq]
  generalize (lg_sl ([.ref h, .int (nI lit)]) ++ List.replicate (2 - (lg_sl ([.ref h, .int (nI lit)])).length) Slot.unset).toArray = ls at hl ⊢
  have hl : lv_has ls 2 [(0, .ref h), (1, .int (nI lit))] := hl
  have hP : va_P D vwCl [(h, .inr (2, [.ref hn, .ref ha, .ref he, .int (nI ic), .int (nI lc), .int (nI stp), .int ap])), (hn, .inr (1, [.int (nI cnt), .ref ow, .ref fi, .ref ro])), (ow, .inl (cI, 400, .inl fo)), (fi, .inl (cI, 400, .inl ff)), (ro, .inl (cJ, len, .inr (.inl fr))), (ha, .inr (0, [.ref oa, .ref na, .ref sa, .int (nI oA), .int (nI cA), .int (nI rA), .int (nI tA)])), (oa, .inl (cI, 16, .inl (fun j => nI (gA j)))), (na, .inl (cI, 4, .inl (fun j => nI (nA j)))), (sa, .inl (cI, 16, .inl sA)), (he, .inr (0, [.ref ob, .ref nb, .ref sb, .int (nI oB), .int (nI cB), .int (nI rB), .int (nI tB)])), (ob, .inl (cI, 16, .inl (fun j => nI (gB j)))), (nb, .inl (cI, 4, .inl (fun j => nI (nB j)))), (sb, .inl (cI, 16, .inl sB))] s.heap := hP
  have hin2 : ∀ w ∈ wsX20, w ∈ wsX2_hangs := by decide +kernel
  have kf12 := hts (.fieldLink RX2 12 "SweepEqual" "nodes" "LSweepEqual$Nodes;") (by decide +kernel)
  refine lv_aload_n hx hb dX2_hangs_0 rfl (lv_at hl 0 rfl) ?_
  refine lv_iload_n hx hb dX2_hangs_1 rfl (lv_at hl 1 rfl) ?_
  refine rv_V (As := [.int (nI lit)]) (rest := []) ⟨hx, hb, hml, hown, hts⟩ (c_X2_needLiteral l D cI cJ tp h hn ow fi ro ha oa na sa he ob nb sb ic lc stp ap cnt len fo ff fr oA cA rA tA gA nA sA oB cB rB tB gB nB sB lit h1 (by omega)) (cwV 1 hts gX2_hangs_X2_needLiteral rfl rfl rfl (by decide +kernel) ⟨Nat.le_of_ble_eq_true rfl, Nat.le_of_ble_eq_true rfl⟩) (re_pv (ci := 2) (q0 := 0) hK hP hE rfl rfl) rfl hl.1 rfl (Nat.le_of_ble_eq_true rfl) dX2_hangs_2 ⟨Nat.zero_le _, Nat.zero_le _⟩ ?_
  refine lv_aload_n hx hb dX2_hangs_5 rfl (lv_at hl 0 rfl) ?_
  refine va_get (D := D) (ci := 2) (v := .ref hn) (C := RX2) (T := TX2) (N := 7) hx hb hts hin2 hown hK hP 0 rfl rfl 0 (by decide) kf12 (fun _ h9 => h9) rfl dX2_hangs_6 ?_
  refine lv_iload_n hx hb dX2_hangs_9 rfl (lv_at hl 1 rfl) ?_
  refine rd_V (As := [.int (nI lit)]) (rest := []) ⟨hx, hb, hml, hown, hts⟩ (c_X1_supportOf l D cI cJ hn ow fi ro cnt len fo ff fr tp lit (by omega) hl2) (cwV 1 hts gX2_hangs_X1_supportOf rfl rfl rfl (by decide +kernel) ⟨Nat.le_of_ble_eq_true rfl, Nat.le_of_ble_eq_true rfl⟩) (re_pv (ci := 1) (q0 := 0) hK (hP.sub (ws' := [(hn, .inr (1, [.int (nI cnt), .ref ow, .ref fi, .ref ro])), (ow, .inl (cI, 400, .inl fo)), (fi, .inl (cI, 400, .inl ff)), (ro, .inl (cJ, len, .inr (.inl fr)))]) [1, 2, 3, 4] rfl) hE rfl rfl) rfl hl.1 rfl (Nat.le_of_ble_eq_true rfl) dX2_hangs_10 ⟨Nat.zero_le _, Nat.zero_le _⟩ ?_
  exact rd_i hx hb hr hlocks dX2_hangs_13 (rfl)
set_option maxHeartbeats 4000000 in
set_option maxRecDepth 100000 in
/-- hangs: no such literal -/
theorem t_X2_hangs1 (hl9 : l.stackTraces = false) (x : Int32) (hx9 : x < 0 ∨ nI (2 * cnt) ≤ x) : TH l yX2_hangs wsX2_hangs { frames := 7, cells := 1, slots := 6, locals := 103 } (re_P D [(cI, .int), (cJ, .long)] (xW h hn ow fi ro ha oa na sa he ob nb sb cI cJ ic lc stp ap cnt len fo ff fr oA cA rA tA gA nA sA oB cB rB tB gB nB sB) tp [.ref h, .int x]) "java/lang/IndexOutOfBoundsException" := by
  refine vx_ofW (cc := cX2_hangs) (maxL := 2) (ret := (some .int)) (by decide) rfl ?_
  intro p e s m args below meth c s₁ B hml hno hv
  obtain ⟨rfl, ⟨hP, hK⟩, hE⟩ := hv
  have hx := B.exec
  have hb := B.bytes
  have hr := B.returns
  have hts := atoms_spec (ws := wsX2_hangs) B.pre
  have hown : s.vm.findClass RX2 = some m.cls := findClass_of_methodNamed B.named
  have hlocks := B.notSynchronized
  have hl := lv_entry ([.ref h, .int x]) (n := 2) (Nat.le_of_ble_eq_true rfl)
  rw [lg_entry_eq]
  generalize (lg_sl ([.ref h, .int x]) ++ List.replicate (2 - (lg_sl ([.ref h, .int x])).length) Slot.unset).toArray = ls at hl ⊢
  have hl : lv_has ls 2 [(0, .ref h), (1, .int x)] := hl
  have hP : va_P D vwCl [(h, .inr (2, [.ref hn, .ref ha, .ref he, .int (nI ic), .int (nI lc), .int (nI stp), .int ap])), (hn, .inr (1, [.int (nI cnt), .ref ow, .ref fi, .ref ro])), (ow, .inl (cI, 400, .inl fo)), (fi, .inl (cI, 400, .inl ff)), (ro, .inl (cJ, len, .inr (.inl fr))), (ha, .inr (0, [.ref oa, .ref na, .ref sa, .int (nI oA), .int (nI cA), .int (nI rA), .int (nI tA)])), (oa, .inl (cI, 16, .inl (fun j => nI (gA j)))), (na, .inl (cI, 4, .inl (fun j => nI (nA j)))), (sa, .inl (cI, 16, .inl sA)), (he, .inr (0, [.ref ob, .ref nb, .ref sb, .int (nI oB), .int (nI cB), .int (nI rB), .int (nI tB)])), (ob, .inl (cI, 16, .inl (fun j => nI (gB j)))), (nb, .inl (cI, 4, .inl (fun j => nI (nB j)))), (sb, .inl (cI, 16, .inl sB))] s.heap := hP
  have hin2 : ∀ w ∈ wsX20, w ∈ wsX2_hangs := by decide +kernel
  have kf12 := hts (.fieldLink RX2 12 "SweepEqual" "nodes" "LSweepEqual$Nodes;") (by decide +kernel)
  refine lv_aload_n hx hb dX2_hangs_0 rfl (lv_at hl 0 rfl) ?_
  refine lv_iload_n hx hb dX2_hangs_1 rfl (lv_at hl 1 rfl) ?_
  exact th_V (As := [.int x]) (rest := []) ⟨hx, hb, hml, hown, hts⟩ (t_X2_needLiteral l D cI cJ tp h hn ow fi ro ha oa na sa he ob nb sb ic lc stp ap cnt len fo ff fr oA cA rA tA gA nA sA oB cB rB tB gB nB sB hl9 x hx9) (cwV 1 hts gX2_hangs_X2_needLiteral rfl rfl rfl (by decide +kernel) ⟨Nat.le_of_ble_eq_true rfl, Nat.le_of_ble_eq_true rfl⟩) (re_pv (ci := 2) (q0 := 0) hK hP hE rfl rfl) rfl hl.1 rfl (Nat.le_of_ble_eq_true rfl) dX2_hangs_2 ⟨Nat.le_of_ble_eq_true rfl, Nat.le_of_ble_eq_true rfl⟩ hno hlocks
set_option maxHeartbeats 4000000 in
set_option maxRecDepth 100000 in
/-- value -/
theorem c_X2_value (lit : Nat) (av : Int32) (k : Nat) (hk : av &&& 4095 = nI k) (hk2 : k < 4096) (h1 : lit < 2 * cnt) (hc : cnt ≤ 400) (hl1 : cnt * 64 ≤ len) (hl2 : len ≤ 25600) : Met l yX2_value wsX2_value { frames := 2, cells := 0, slots := 0, locals := 47 } (re_P D [(cI, .int), (cJ, .long)] (xW h hn ow fi ro ha oa na sa he ob nb sb cI cJ ic lc stp ap cnt len fo ff fr oA cA rA tA gA nA sA oB cB rB tB gB nB sB) tp [.ref h, .int (nI lit), .int av]) (k2_QcV (.int (zI (bt fr lit k)))) 0 0 (fun _ => False) := by
  refine Met.ofW (cc := cX2_value) (maxL := 3) (ret := (some .int)) (by decide) rfl ?_
  intro p e s m args below meth c s₁ B hml hv
  obtain ⟨rfl, ⟨hP, hK⟩, hE⟩ := hv
  have hx := B.exec
  have hb := B.bytes
  have hr := B.returns
  have hts := atoms_spec (ws := wsX2_value) B.pre
  have hown : s.vm.findClass RX2 = some m.cls := findClass_of_methodNamed B.named
  have hlocks := B.notSynchronized
  have hl := lv_entry ([.ref h, .int (nI lit), .int av]) (n := 3) (Nat.le_of_ble_eq_true rfl)
  rw [lg_entry_eq]
  generalize (lg_sl ([.ref h, .int (nI lit), .int av]) ++ List.replicate (3 - (lg_sl ([.ref h, .int (nI lit), .int av])).length) Slot.unset).toArray = ls at hl ⊢
  have hl : lv_has ls 3 [(0, .ref h), (1, .int (nI lit)), (2, .int av)] := hl
  have hP : va_P D vwCl [(h, .inr (2, [.ref hn, .ref ha, .ref he, .int (nI ic), .int (nI lc), .int (nI stp), .int ap])), (hn, .inr (1, [.int (nI cnt), .ref ow, .ref fi, .ref ro])), (ow, .inl (cI, 400, .inl fo)), (fi, .inl (cI, 400, .inl ff)), (ro, .inl (cJ, len, .inr (.inl fr))), (ha, .inr (0, [.ref oa, .ref na, .ref sa, .int (nI oA), .int (nI cA), .int (nI rA), .int (nI tA)])), (oa, .inl (cI, 16, .inl (fun j => nI (gA j)))), (na, .inl (cI, 4, .inl (fun j => nI (nA j)))), (sa, .inl (cI, 16, .inl sA)), (he, .inr (0, [.ref ob, .ref nb, .ref sb, .int (nI oB), .int (nI cB), .int (nI rB), .int (nI tB)])), (ob, .inl (cI, 16, .inl (fun j => nI (gB j)))), (nb, .inl (cI, 4, .inl (fun j => nI (nB j)))), (sb, .inl (cI, 16, .inl sB))] s.heap := hP
  have hin2 : ∀ w ∈ wsX20, w ∈ wsX2_value := by decide +kernel
  have kf12 := hts (.fieldLink RX2 12 "SweepEqual" "nodes" "LSweepEqual$Nodes;") (by decide +kernel)
  refine lv_aload_n hx hb dX2_value_0 rfl (lv_at hl 0 rfl) ?_
  refine lv_iload_n hx hb dX2_value_1 rfl (lv_at hl 1 rfl) ?_
  refine rv_V (As := [.int (nI lit)]) (rest := []) ⟨hx, hb, hml, hown, hts⟩ (c_X2_needLiteral l D cI cJ tp h hn ow fi ro ha oa na sa he ob nb sb ic lc stp ap cnt len fo ff fr oA cA rA tA gA nA sA oB cB rB tB gB nB sB lit h1 (by omega)) (cwV 1 hts gX2_value_X2_needLiteral rfl rfl rfl (by decide +kernel) ⟨Nat.le_of_ble_eq_true rfl, Nat.le_of_ble_eq_true rfl⟩) (re_pv (ci := 2) (q0 := 0) hK hP hE rfl rfl) rfl hl.1 rfl (Nat.le_of_ble_eq_true rfl) dX2_value_2 ⟨Nat.zero_le _, Nat.zero_le _⟩ ?_
  refine lv_aload_n hx hb dX2_value_5 rfl (lv_at hl 0 rfl) ?_
  refine va_get (D := D) (ci := 2) (v := .ref hn) (C := RX2) (T := TX2) (N := 7) hx hb hts hin2 hown hK hP 0 rfl rfl 0 (by decide) kf12 (fun _ h9 => h9) rfl dX2_value_6 ?_
  refine lv_iload_n hx hb dX2_value_9 rfl (lv_at hl 1 rfl) ?_
  refine lv_iload_n hx hb dX2_value_10 rfl (lv_at hl 2 rfl) ?_
  refine rd_V (As := [.int (nI lit), .int av]) (rest := []) ⟨hx, hb, hml, hown, hts⟩ (c_X1_valueIn l D cI cJ hn ow fi ro cnt len fo ff fr lit av k hk hk2 (by omega) hl2) (cwV 2 hts gX2_value_X1_valueIn rfl rfl rfl (by decide +kernel) ⟨Nat.le_of_ble_eq_true rfl, Nat.le_of_ble_eq_true rfl⟩) (rd_pv (ci := 1) (q0 := 0) hK (hP.sub (ws' := [(hn, .inr (1, [.int (nI cnt), .ref ow, .ref fi, .ref ro])), (ow, .inl (cI, 400, .inl fo)), (fi, .inl (cI, 400, .inl ff)), (ro, .inl (cJ, len, .inr (.inl fr)))]) [1, 2, 3, 4] rfl) rfl rfl) rfl hl.1 rfl (Nat.le_of_ble_eq_true rfl) dX2_value_11 ⟨Nat.zero_le _, Nat.zero_le _⟩ ?_
  exact rd_i hx hb hr hlocks dX2_value_14 (rfl)
set_option maxHeartbeats 4000000 in
set_option maxRecDepth 100000 in
/-- value: no such literal -/
theorem t_X2_value1 (hl9 : l.stackTraces = false) (x y : Int32) (hx9 : x < 0 ∨ nI (2 * cnt) ≤ x) : TH l yX2_value wsX2_value { frames := 7, cells := 1, slots := 6, locals := 103 } (re_P D [(cI, .int), (cJ, .long)] (xW h hn ow fi ro ha oa na sa he ob nb sb cI cJ ic lc stp ap cnt len fo ff fr oA cA rA tA gA nA sA oB cB rB tB gB nB sB) tp [.ref h, .int x, .int y]) "java/lang/IndexOutOfBoundsException" := by
  refine vx_ofW (cc := cX2_value) (maxL := 3) (ret := (some .int)) (by decide) rfl ?_
  intro p e s m args below meth c s₁ B hml hno hv
  obtain ⟨rfl, ⟨hP, hK⟩, hE⟩ := hv
  have hx := B.exec
  have hb := B.bytes
  have hr := B.returns
  have hts := atoms_spec (ws := wsX2_value) B.pre
  have hown : s.vm.findClass RX2 = some m.cls := findClass_of_methodNamed B.named
  have hlocks := B.notSynchronized
  have hl := lv_entry ([.ref h, .int x, .int y]) (n := 3) (Nat.le_of_ble_eq_true rfl)
  rw [lg_entry_eq]
  generalize (lg_sl ([.ref h, .int x, .int y]) ++ List.replicate (3 - (lg_sl ([.ref h, .int x, .int y])).length) Slot.unset).toArray = ls at hl ⊢
  have hl : lv_has ls 3 [(0, .ref h), (1, .int x), (2, .int y)] := hl
  have hP : va_P D vwCl [(h, .inr (2, [.ref hn, .ref ha, .ref he, .int (nI ic), .int (nI lc), .int (nI stp), .int ap])), (hn, .inr (1, [.int (nI cnt), .ref ow, .ref fi, .ref ro])), (ow, .inl (cI, 400, .inl fo)), (fi, .inl (cI, 400, .inl ff)), (ro, .inl (cJ, len, .inr (.inl fr))), (ha, .inr (0, [.ref oa, .ref na, .ref sa, .int (nI oA), .int (nI cA), .int (nI rA), .int (nI tA)])), (oa, .inl (cI, 16, .inl (fun j => nI (gA j)))), (na, .inl (cI, 4, .inl (fun j => nI (nA j)))), (sa, .inl (cI, 16, .inl sA)), (he, .inr (0, [.ref ob, .ref nb, .ref sb, .int (nI oB), .int (nI cB), .int (nI rB), .int (nI tB)])), (ob, .inl (cI, 16, .inl (fun j => nI (gB j)))), (nb, .inl (cI, 4, .inl (fun j => nI (nB j)))), (sb, .inl (cI, 16, .inl sB))] s.heap := hP
  have hin2 : ∀ w ∈ wsX20, w ∈ wsX2_value := by decide +kernel
  have kf12 := hts (.fieldLink RX2 12 "SweepEqual" "nodes" "LSweepEqual$Nodes;") (by decide +kernel)
  refine lv_aload_n hx hb dX2_value_0 rfl (lv_at hl 0 rfl) ?_
  refine lv_iload_n hx hb dX2_value_1 rfl (lv_at hl 1 rfl) ?_
  exact th_V (As := [.int x]) (rest := []) ⟨hx, hb, hml, hown, hts⟩ (t_X2_needLiteral l D cI cJ tp h hn ow fi ro ha oa na sa he ob nb sb ic lc stp ap cnt len fo ff fr oA cA rA tA gA nA sA oB cB rB tB gB nB sB hl9 x hx9) (cwV 1 hts gX2_value_X2_needLiteral rfl rfl rfl (by decide +kernel) ⟨Nat.le_of_ble_eq_true rfl, Nat.le_of_ble_eq_true rfl⟩) (re_pv (ci := 2) (q0 := 0) hK hP hE rfl rfl) rfl hl.1 rfl (Nat.le_of_ble_eq_true rfl) dX2_value_2 ⟨Nat.le_of_ble_eq_true rfl, Nat.le_of_ble_eq_true rfl⟩ hno hlocks
set_option maxHeartbeats 4000000 in
set_option maxRecDepth 100000 in
/-- ones -/
theorem c_X2_ones (lit : Nat) (hic : ic ≤ 8) (hlc : lc ≤ 4) (h1 : lit < 2 * cnt) (hc : cnt ≤ 400) (hl1 : cnt * 64 ≤ len) (hl2 : len ≤ 25600) : Met l yX2_ones wsX2_ones { frames := 2, cells := 0, slots := 0, locals := 47 } (re_P D [(cI, .int), (cJ, .long)] (xW h hn ow fi ro ha oa na sa he ob nb sb cI cJ ic lc stp ap cnt len fo ff fr oA cA rA tA gA nA sA oB cB rB tB gB nB sB) tp [.ref h, .int (nI lit)]) (k2_QcV (.int (nI (onF fr lit 64 / 2 ^ (12 - ic - lc))))) 0 0 (fun _ => False) := by
  refine Met.ofW (cc := cX2_ones) (maxL := 2) (ret := (some .int)) (by decide) rfl ?_
  intro p e s m args below meth c s₁ B hml hv
  obtain ⟨rfl, ⟨hP, hK⟩, hE⟩ := hv
  have hx := B.exec
  have hb := B.bytes
  have hr := B.returns
  have hts := atoms_spec (ws := wsX2_ones) B.pre
  have hown : s.vm.findClass RX2 = some m.cls := findClass_of_methodNamed B.named
  have hlocks := B.notSynchronized
  have hl := lv_entry ([.ref h, .int (nI lit)]) (n := 2) (Nat.le_of_ble_eq_true rfl)
  rw [lg_entry_eq]
  generalize (lg_sl ([.ref h, .int (nI lit)]) ++ List.replicate (2 - (lg_sl ([.ref h, .int (nI lit)])).length) Slot.unset).toArray = ls at hl ⊢
  have hl : lv_has ls 2 [(0, .ref h), (1, .int (nI lit))] := hl
  have hP : va_P D vwCl [(h, .inr (2, [.ref hn, .ref ha, .ref he, .int (nI ic), .int (nI lc), .int (nI stp), .int ap])), (hn, .inr (1, [.int (nI cnt), .ref ow, .ref fi, .ref ro])), (ow, .inl (cI, 400, .inl fo)), (fi, .inl (cI, 400, .inl ff)), (ro, .inl (cJ, len, .inr (.inl fr))), (ha, .inr (0, [.ref oa, .ref na, .ref sa, .int (nI oA), .int (nI cA), .int (nI rA), .int (nI tA)])), (oa, .inl (cI, 16, .inl (fun j => nI (gA j)))), (na, .inl (cI, 4, .inl (fun j => nI (nA j)))), (sa, .inl (cI, 16, .inl sA)), (he, .inr (0, [.ref ob, .ref nb, .ref sb, .int (nI oB), .int (nI cB), .int (nI rB), .int (nI tB)])), (ob, .inl (cI, 16, .inl (fun j => nI (gB j)))), (nb, .inl (cI, 4, .inl (fun j => nI (nB j)))), (sb, .inl (cI, 16, .inl sB))] s.heap := hP
  have hin2 : ∀ w ∈ wsX20, w ∈ wsX2_ones := by decide +kernel
  have kf12 := hts (.fieldLink RX2 12 "SweepEqual" "nodes" "LSweepEqual$Nodes;") (by decide +kernel)
  have kf30 := hts (.fieldLink RX2 30 "SweepEqual" "inputCount" "I") (by decide +kernel)
  have kf47 := hts (.fieldLink RX2 47 "SweepEqual" "latchCount" "I") (by decide +kernel)
  refine lv_aload_n hx hb dX2_ones_0 rfl (lv_at hl 0 rfl) ?_
  refine lv_iload_n hx hb dX2_ones_1 rfl (lv_at hl 1 rfl) ?_
  refine rv_V (As := [.int (nI lit)]) (rest := []) ⟨hx, hb, hml, hown, hts⟩ (c_X2_needLiteral l D cI cJ tp h hn ow fi ro ha oa na sa he ob nb sb ic lc stp ap cnt len fo ff fr oA cA rA tA gA nA sA oB cB rB tB gB nB sB lit h1 (by omega)) (cwV 1 hts gX2_ones_X2_needLiteral rfl rfl rfl (by decide +kernel) ⟨Nat.le_of_ble_eq_true rfl, Nat.le_of_ble_eq_true rfl⟩) (re_pv (ci := 2) (q0 := 0) hK hP hE rfl rfl) rfl hl.1 rfl (Nat.le_of_ble_eq_true rfl) dX2_ones_2 ⟨Nat.zero_le _, Nat.zero_le _⟩ ?_
  refine lv_aload_n hx hb dX2_ones_5 rfl (lv_at hl 0 rfl) ?_
  refine va_get (D := D) (ci := 2) (v := .ref hn) (C := RX2) (T := TX2) (N := 7) hx hb hts hin2 hown hK hP 0 rfl rfl 0 (by decide) kf12 (fun _ h9 => h9) rfl dX2_ones_6 ?_
  refine lv_iload_n hx hb dX2_ones_9 rfl (lv_at hl 1 rfl) ?_
  refine rd_V (As := [.int (nI lit)]) (rest := []) ⟨hx, hb, hml, hown, hts⟩ (c_X1_countOnes l D cI cJ hn ow fi ro cnt len fo ff fr lit (by omega) hl2) (cwV 1 hts gX2_ones_X1_countOnes rfl rfl rfl (by decide +kernel) ⟨Nat.le_of_ble_eq_true rfl, Nat.le_of_ble_eq_true rfl⟩) (rd_pv (ci := 1) (q0 := 0) hK (hP.sub (ws' := [(hn, .inr (1, [.int (nI cnt), .ref ow, .ref fi, .ref ro])), (ow, .inl (cI, 400, .inl fo)), (fi, .inl (cI, 400, .inl ff)), (ro, .inl (cJ, len, .inr (.inl fr)))]) [1, 2, 3, 4] rfl) rfl rfl) rfl hl.1 rfl (Nat.le_of_ble_eq_true rfl) dX2_ones_10 ⟨Nat.zero_le _, Nat.zero_le _⟩ ?_
  have hon := onF_le fr lit 64
  refine lv_bipush (v := nI 12) hx hb dX2_ones_13 (by decide) ?_
  refine lv_aload_n hx hb dX2_ones_15 rfl (lv_at hl 0 rfl) ?_
  refine va_get (D := D) (ci := 2) (v := .int (nI ic)) (C := RX2) (T := TX2) (N := 7) hx hb hts hin2 hown hK hP 0 rfl rfl 3 (by decide) kf30 (fun _ h9 => h9) rfl dX2_ones_16 ?_
  refine lv_isub hx hb dX2_ones_19 ?_
  refine tp_i (show (nI 12) - (nI ic) = nI (12 - ic) from pk_sub (by omega)) ?_
  refine lv_aload_n hx hb dX2_ones_20 rfl (lv_at hl 0 rfl) ?_
  refine va_get (D := D) (ci := 2) (v := .int (nI lc)) (C := RX2) (T := TX2) (N := 7) hx hb hts hin2 hown hK hP 0 rfl rfl 4 (by decide) kf47 (fun _ h9 => h9) rfl dX2_ones_21 ?_
  refine lv_isub hx hb dX2_ones_24 ?_
  refine tp_i (show (nI (12 - ic)) - (nI lc) = nI (12 - ic - lc) from pk_sub (by omega)) ?_
  refine lv_ishr hx hb dX2_ones_25 ?_
  refine tp_i (show (nI (onF fr lit 64)) >>> ((nI (12 - ic - lc)) &&& 31) = nI (onF fr lit 64 / 2 ^ (12 - ic - lc)) from n_shr (by omega) (by omega)) ?_
  exact rd_i hx hb hr hlocks dX2_ones_26 (rfl)
set_option maxHeartbeats 4000000 in
set_option maxRecDepth 100000 in
/-- ones: no such literal -/
theorem t_X2_ones1 (hl9 : l.stackTraces = false) (x : Int32) (hx9 : x < 0 ∨ nI (2 * cnt) ≤ x) : TH l yX2_ones wsX2_ones { frames := 7, cells := 1, slots := 6, locals := 103 } (re_P D [(cI, .int), (cJ, .long)] (xW h hn ow fi ro ha oa na sa he ob nb sb cI cJ ic lc stp ap cnt len fo ff fr oA cA rA tA gA nA sA oB cB rB tB gB nB sB) tp [.ref h, .int x]) "java/lang/IndexOutOfBoundsException" := by
  refine vx_ofW (cc := cX2_ones) (maxL := 2) (ret := (some .int)) (by decide) rfl ?_
  intro p e s m args below meth c s₁ B hml hno hv
  obtain ⟨rfl, ⟨hP, hK⟩, hE⟩ := hv
  have hx := B.exec
  have hb := B.bytes
  have hr := B.returns
  have hts := atoms_spec (ws := wsX2_ones) B.pre
  have hown : s.vm.findClass RX2 = some m.cls := findClass_of_methodNamed B.named
  have hlocks := B.notSynchronized
  have hl := lv_entry ([.ref h, .int x]) (n := 2) (Nat.le_of_ble_eq_true rfl)
  rw [lg_entry_eq]
  generalize (lg_sl ([.ref h, .int x]) ++ List.replicate (2 - (lg_sl ([.ref h, .int x])).length) Slot.unset).toArray = ls at hl ⊢
  have hl : lv_has ls 2 [(0, .ref h), (1, .int x)] := hl
  have hP : va_P D vwCl [(h, .inr (2, [.ref hn, .ref ha, .ref he, .int (nI ic), .int (nI lc), .int (nI stp), .int ap])), (hn, .inr (1, [.int (nI cnt), .ref ow, .ref fi, .ref ro])), (ow, .inl (cI, 400, .inl fo)), (fi, .inl (cI, 400, .inl ff)), (ro, .inl (cJ, len, .inr (.inl fr))), (ha, .inr (0, [.ref oa, .ref na, .ref sa, .int (nI oA), .int (nI cA), .int (nI rA), .int (nI tA)])), (oa, .inl (cI, 16, .inl (fun j => nI (gA j)))), (na, .inl (cI, 4, .inl (fun j => nI (nA j)))), (sa, .inl (cI, 16, .inl sA)), (he, .inr (0, [.ref ob, .ref nb, .ref sb, .int (nI oB), .int (nI cB), .int (nI rB), .int (nI tB)])), (ob, .inl (cI, 16, .inl (fun j => nI (gB j)))), (nb, .inl (cI, 4, .inl (fun j => nI (nB j)))), (sb, .inl (cI, 16, .inl sB))] s.heap := hP
  have hin2 : ∀ w ∈ wsX20, w ∈ wsX2_ones := by decide +kernel
  have kf12 := hts (.fieldLink RX2 12 "SweepEqual" "nodes" "LSweepEqual$Nodes;") (by decide +kernel)
  have kf30 := hts (.fieldLink RX2 30 "SweepEqual" "inputCount" "I") (by decide +kernel)
  have kf47 := hts (.fieldLink RX2 47 "SweepEqual" "latchCount" "I") (by decide +kernel)
  refine lv_aload_n hx hb dX2_ones_0 rfl (lv_at hl 0 rfl) ?_
  refine lv_iload_n hx hb dX2_ones_1 rfl (lv_at hl 1 rfl) ?_
  exact th_V (As := [.int x]) (rest := []) ⟨hx, hb, hml, hown, hts⟩ (t_X2_needLiteral l D cI cJ tp h hn ow fi ro ha oa na sa he ob nb sb ic lc stp ap cnt len fo ff fr oA cA rA tA gA nA sA oB cB rB tB gB nB sB hl9 x hx9) (cwV 1 hts gX2_ones_X2_needLiteral rfl rfl rfl (by decide +kernel) ⟨Nat.le_of_ble_eq_true rfl, Nat.le_of_ble_eq_true rfl⟩) (re_pv (ci := 2) (q0 := 0) hK hP hE rfl rfl) rfl hl.1 rfl (Nat.le_of_ble_eq_true rfl) dX2_ones_2 ⟨Nat.le_of_ble_eq_true rfl, Nat.le_of_ble_eq_true rfl⟩ hno hlocks
set_option maxHeartbeats 4000000 in
set_option maxRecDepth 100000 in
/-- classes -/
theorem c_X2_classes (hc : cnt ≤ 400) : Met l yX2_classes wsX2_classes { frames := 2, cells := 0, slots := 0, locals := 43 } (re_P D [(cI, .int), (cJ, .long)] (xW h hn ow fi ro ha oa na sa he ob nb sb cI cJ ic lc stp ap cnt len fo ff fr oA cA rA tA gA nA sA oB cB rB tB gB nB sB) tp [.ref h]) (k2_QcV (.int (nI (cCls ff cnt)))) 0 0 (fun _ => False) := by
  refine Met.ofW (cc := cX2_classes) (maxL := 1) (ret := (some .int)) (by decide) rfl ?_
  intro p e s m args below meth c s₁ B hml hv
  obtain ⟨rfl, ⟨hP, hK⟩, hE⟩ := hv
  have hx := B.exec
  have hb := B.bytes
  have hr := B.returns
  have hts := atoms_spec (ws := wsX2_classes) B.pre
  have hown : s.vm.findClass RX2 = some m.cls := findClass_of_methodNamed B.named
  have hlocks := B.notSynchronized
  have hl := lv_entry ([.ref h]) (n := 1) (Nat.le_of_ble_eq_true rfl)
  rw [lg_entry_eq]
  generalize (lg_sl ([.ref h]) ++ List.replicate (1 - (lg_sl ([.ref h])).length) Slot.unset).toArray = ls at hl ⊢
  have hl : lv_has ls 1 [(0, .ref h)] := hl
  have hP : va_P D vwCl [(h, .inr (2, [.ref hn, .ref ha, .ref he, .int (nI ic), .int (nI lc), .int (nI stp), .int ap])), (hn, .inr (1, [.int (nI cnt), .ref ow, .ref fi, .ref ro])), (ow, .inl (cI, 400, .inl fo)), (fi, .inl (cI, 400, .inl ff)), (ro, .inl (cJ, len, .inr (.inl fr))), (ha, .inr (0, [.ref oa, .ref na, .ref sa, .int (nI oA), .int (nI cA), .int (nI rA), .int (nI tA)])), (oa, .inl (cI, 16, .inl (fun j => nI (gA j)))), (na, .inl (cI, 4, .inl (fun j => nI (nA j)))), (sa, .inl (cI, 16, .inl sA)), (he, .inr (0, [.ref ob, .ref nb, .ref sb, .int (nI oB), .int (nI cB), .int (nI rB), .int (nI tB)])), (ob, .inl (cI, 16, .inl (fun j => nI (gB j)))), (nb, .inl (cI, 4, .inl (fun j => nI (nB j)))), (sb, .inl (cI, 16, .inl sB))] s.heap := hP
  have hin2 : ∀ w ∈ wsX20, w ∈ wsX2_classes := by decide +kernel
  have kf12 := hts (.fieldLink RX2 12 "SweepEqual" "nodes" "LSweepEqual$Nodes;") (by decide +kernel)
  refine lv_aload_n hx hb dX2_classes_0 rfl (lv_at hl 0 rfl) ?_
  refine va_get (D := D) (ci := 2) (v := .ref hn) (C := RX2) (T := TX2) (N := 7) hx hb hts hin2 hown hK hP 0 rfl rfl 0 (by decide) kf12 (fun _ h9 => h9) rfl dX2_classes_1 ?_
  refine rd_V (As := []) (rest := []) ⟨hx, hb, hml, hown, hts⟩ (c_X1_countClasses l D cI cJ hn ow fi ro cnt len fo ff fr hc) (cwV 0 hts gX2_classes_X1_countClasses rfl rfl rfl (by decide +kernel) ⟨Nat.le_of_ble_eq_true rfl, Nat.le_of_ble_eq_true rfl⟩) (rd_pv (ci := 1) (q0 := 0) hK (hP.sub (ws' := [(hn, .inr (1, [.int (nI cnt), .ref ow, .ref fi, .ref ro])), (ow, .inl (cI, 400, .inl fo)), (fi, .inl (cI, 400, .inl ff)), (ro, .inl (cJ, len, .inr (.inl fr)))]) [1, 2, 3, 4] rfl) rfl rfl) rfl hl.1 rfl (Nat.le_of_ble_eq_true rfl) dX2_classes_4 ⟨Nat.zero_le _, Nat.zero_le _⟩ ?_
  exact rd_i hx hb hr hlocks dX2_classes_7 (rfl)
set_option maxHeartbeats 4000000 in
set_option maxRecDepth 100000 in
/-- merged -/
theorem c_X2_merged (sd : Int32) (hs : sd = 0 ∨ sd = 1) (hc : cnt ≤ 400) : Met l yX2_merged wsX2_merged { frames := 2, cells := 0, slots := 0, locals := 44 } (re_P D [(cI, .int), (cJ, .long)] (xW h hn ow fi ro ha oa na sa he ob nb sb cI cJ ic lc stp ap cnt len fo ff fr oA cA rA tA gA nA sA oB cB rB tB gB nB sB) tp [.ref h, .int sd]) (k2_QcV (.int (nI (cMer fo ff sd cnt)))) 0 0 (fun _ => False) := by
  refine Met.ofW (cc := cX2_merged) (maxL := 2) (ret := (some .int)) (by decide) rfl ?_
  intro p e s m args below meth c s₁ B hml hv
  obtain ⟨rfl, ⟨hP, hK⟩, hE⟩ := hv
  have hx := B.exec
  have hb := B.bytes
  have hr := B.returns
  have hts := atoms_spec (ws := wsX2_merged) B.pre
  have hown : s.vm.findClass RX2 = some m.cls := findClass_of_methodNamed B.named
  have hlocks := B.notSynchronized
  have hl := lv_entry ([.ref h, .int sd]) (n := 2) (Nat.le_of_ble_eq_true rfl)
  rw [lg_entry_eq]
  generalize (lg_sl ([.ref h, .int sd]) ++ List.replicate (2 - (lg_sl ([.ref h, .int sd])).length) Slot.unset).toArray = ls at hl ⊢
  have hl : lv_has ls 2 [(0, .ref h), (1, .int sd)] := hl
  have hP : va_P D vwCl [(h, .inr (2, [.ref hn, .ref ha, .ref he, .int (nI ic), .int (nI lc), .int (nI stp), .int ap])), (hn, .inr (1, [.int (nI cnt), .ref ow, .ref fi, .ref ro])), (ow, .inl (cI, 400, .inl fo)), (fi, .inl (cI, 400, .inl ff)), (ro, .inl (cJ, len, .inr (.inl fr))), (ha, .inr (0, [.ref oa, .ref na, .ref sa, .int (nI oA), .int (nI cA), .int (nI rA), .int (nI tA)])), (oa, .inl (cI, 16, .inl (fun j => nI (gA j)))), (na, .inl (cI, 4, .inl (fun j => nI (nA j)))), (sa, .inl (cI, 16, .inl sA)), (he, .inr (0, [.ref ob, .ref nb, .ref sb, .int (nI oB), .int (nI cB), .int (nI rB), .int (nI tB)])), (ob, .inl (cI, 16, .inl (fun j => nI (gB j)))), (nb, .inl (cI, 4, .inl (fun j => nI (nB j)))), (sb, .inl (cI, 16, .inl sB))] s.heap := hP
  have hin2 : ∀ w ∈ wsX20, w ∈ wsX2_merged := by decide +kernel
  have kf12 := hts (.fieldLink RX2 12 "SweepEqual" "nodes" "LSweepEqual$Nodes;") (by decide +kernel)
  refine lv_aload_n hx hb dX2_merged_0 rfl (lv_at hl 0 rfl) ?_
  refine lv_iload_n hx hb dX2_merged_1 rfl (lv_at hl 1 rfl) ?_
  refine rv_V (As := [.int sd]) (rest := []) ⟨hx, hb, hml, hown, hts⟩ (c_X2_needSide l D cI cJ tp h hn ow fi ro ha oa na sa he ob nb sb ic lc stp ap cnt len fo ff fr oA cA rA tA gA nA sA oB cB rB tB gB nB sB sd hs) (cwV 1 hts gX2_merged_X2_needSide rfl rfl rfl (by decide +kernel) ⟨Nat.le_of_ble_eq_true rfl, Nat.le_of_ble_eq_true rfl⟩) (re_pv (ci := 2) (q0 := 0) hK hP hE rfl rfl) rfl hl.1 rfl (Nat.le_of_ble_eq_true rfl) dX2_merged_2 ⟨Nat.zero_le _, Nat.zero_le _⟩ ?_
  refine lv_aload_n hx hb dX2_merged_5 rfl (lv_at hl 0 rfl) ?_
  refine va_get (D := D) (ci := 2) (v := .ref hn) (C := RX2) (T := TX2) (N := 7) hx hb hts hin2 hown hK hP 0 rfl rfl 0 (by decide) kf12 (fun _ h9 => h9) rfl dX2_merged_6 ?_
  refine lv_iload_n hx hb dX2_merged_9 rfl (lv_at hl 1 rfl) ?_
  refine rd_V (As := [.int sd]) (rest := []) ⟨hx, hb, hml, hown, hts⟩ (c_X1_countMerged l D cI cJ hn ow fi ro cnt len fo ff fr sd hc) (cwV 1 hts gX2_merged_X1_countMerged rfl rfl rfl (by decide +kernel) ⟨Nat.le_of_ble_eq_true rfl, Nat.le_of_ble_eq_true rfl⟩) (rd_pv (ci := 1) (q0 := 0) hK (hP.sub (ws' := [(hn, .inr (1, [.int (nI cnt), .ref ow, .ref fi, .ref ro])), (ow, .inl (cI, 400, .inl fo)), (fi, .inl (cI, 400, .inl ff)), (ro, .inl (cJ, len, .inr (.inl fr)))]) [1, 2, 3, 4] rfl) rfl rfl) rfl hl.1 rfl (Nat.le_of_ble_eq_true rfl) dX2_merged_10 ⟨Nat.zero_le _, Nat.zero_le _⟩ ?_
  exact rd_i hx hb hr hlocks dX2_merged_13 (rfl)
set_option maxHeartbeats 4000000 in
set_option maxRecDepth 100000 in
/-- merged: no such side -/
theorem t_X2_merged1 (hl9 : l.stackTraces = false) (sd : Int32) (hs : ¬ (sd = 0 ∨ sd = 1)) : TH l yX2_merged wsX2_merged { frames := 7, cells := 1, slots := 6, locals := 103 } (re_P D [(cI, .int), (cJ, .long)] (xW h hn ow fi ro ha oa na sa he ob nb sb cI cJ ic lc stp ap cnt len fo ff fr oA cA rA tA gA nA sA oB cB rB tB gB nB sB) tp [.ref h, .int sd]) "java/lang/IndexOutOfBoundsException" := by
  refine vx_ofW (cc := cX2_merged) (maxL := 2) (ret := (some .int)) (by decide) rfl ?_
  intro p e s m args below meth c s₁ B hml hno hv
  obtain ⟨rfl, ⟨hP, hK⟩, hE⟩ := hv
  have hx := B.exec
  have hb := B.bytes
  have hr := B.returns
  have hts := atoms_spec (ws := wsX2_merged) B.pre
  have hown : s.vm.findClass RX2 = some m.cls := findClass_of_methodNamed B.named
  have hlocks := B.notSynchronized
  have hl := lv_entry ([.ref h, .int sd]) (n := 2) (Nat.le_of_ble_eq_true rfl)
  rw [lg_entry_eq]
  generalize (lg_sl ([.ref h, .int sd]) ++ List.replicate (2 - (lg_sl ([.ref h, .int sd])).length) Slot.unset).toArray = ls at hl ⊢
  have hl : lv_has ls 2 [(0, .ref h), (1, .int sd)] := hl
  have hP : va_P D vwCl [(h, .inr (2, [.ref hn, .ref ha, .ref he, .int (nI ic), .int (nI lc), .int (nI stp), .int ap])), (hn, .inr (1, [.int (nI cnt), .ref ow, .ref fi, .ref ro])), (ow, .inl (cI, 400, .inl fo)), (fi, .inl (cI, 400, .inl ff)), (ro, .inl (cJ, len, .inr (.inl fr))), (ha, .inr (0, [.ref oa, .ref na, .ref sa, .int (nI oA), .int (nI cA), .int (nI rA), .int (nI tA)])), (oa, .inl (cI, 16, .inl (fun j => nI (gA j)))), (na, .inl (cI, 4, .inl (fun j => nI (nA j)))), (sa, .inl (cI, 16, .inl sA)), (he, .inr (0, [.ref ob, .ref nb, .ref sb, .int (nI oB), .int (nI cB), .int (nI rB), .int (nI tB)])), (ob, .inl (cI, 16, .inl (fun j => nI (gB j)))), (nb, .inl (cI, 4, .inl (fun j => nI (nB j)))), (sb, .inl (cI, 16, .inl sB))] s.heap := hP
  have hin2 : ∀ w ∈ wsX20, w ∈ wsX2_merged := by decide +kernel
  have kf12 := hts (.fieldLink RX2 12 "SweepEqual" "nodes" "LSweepEqual$Nodes;") (by decide +kernel)
  refine lv_aload_n hx hb dX2_merged_0 rfl (lv_at hl 0 rfl) ?_
  refine lv_iload_n hx hb dX2_merged_1 rfl (lv_at hl 1 rfl) ?_
  exact th_V (As := [.int sd]) (rest := []) ⟨hx, hb, hml, hown, hts⟩ (t_X2_needSide l D cI cJ tp h hn ow fi ro ha oa na sa he ob nb sb ic lc stp ap cnt len fo ff fr oA cA rA tA gA nA sA oB cB rB tB gB nB sB hl9 sd hs) (cwV 1 hts gX2_merged_X2_needSide rfl rfl rfl (by decide +kernel) ⟨Nat.le_of_ble_eq_true rfl, Nat.le_of_ble_eq_true rfl⟩) (re_pv (ci := 2) (q0 := 0) hK hP hE rfl rfl) rfl hl.1 rfl (Nat.le_of_ble_eq_true rfl) dX2_merged_2 ⟨Nat.le_of_ble_eq_true rfl, Nat.le_of_ble_eq_true rfl⟩ hno hlocks
set_option maxHeartbeats 4000000 in
set_option maxRecDepth 100000 in
/-- apart -/
theorem c_X2_apart  : Met l yX2_apart wsX2_apart { frames := 0, cells := 0, slots := 0, locals := 0 } (re_P D [(cI, .int), (cJ, .long)] (xW h hn ow fi ro ha oa na sa he ob nb sb cI cJ ic lc stp ap cnt len fo ff fr oA cA rA tA gA nA sA oB cB rB tB gB nB sB) tp [.ref h]) (k2_QcV (.int ap)) 0 0 (fun _ => False) := by
  refine Met.ofW (cc := cX2_apart) (maxL := 1) (ret := (some .int)) (by decide) rfl ?_
  intro p e s m args below meth c s₁ B hml hv
  obtain ⟨rfl, ⟨hP, hK⟩, hE⟩ := hv
  have hx := B.exec
  have hb := B.bytes
  have hr := B.returns
  have hts := atoms_spec (ws := wsX2_apart) B.pre
  have hown : s.vm.findClass RX2 = some m.cls := findClass_of_methodNamed B.named
  have hlocks := B.notSynchronized
  have hl := lv_entry ([.ref h]) (n := 1) (Nat.le_of_ble_eq_true rfl)
  rw [lg_entry_eq]
  generalize (lg_sl ([.ref h]) ++ List.replicate (1 - (lg_sl ([.ref h])).length) Slot.unset).toArray = ls at hl ⊢
  have hl : lv_has ls 1 [(0, .ref h)] := hl
  have hP : va_P D vwCl [(h, .inr (2, [.ref hn, .ref ha, .ref he, .int (nI ic), .int (nI lc), .int (nI stp), .int ap])), (hn, .inr (1, [.int (nI cnt), .ref ow, .ref fi, .ref ro])), (ow, .inl (cI, 400, .inl fo)), (fi, .inl (cI, 400, .inl ff)), (ro, .inl (cJ, len, .inr (.inl fr))), (ha, .inr (0, [.ref oa, .ref na, .ref sa, .int (nI oA), .int (nI cA), .int (nI rA), .int (nI tA)])), (oa, .inl (cI, 16, .inl (fun j => nI (gA j)))), (na, .inl (cI, 4, .inl (fun j => nI (nA j)))), (sa, .inl (cI, 16, .inl sA)), (he, .inr (0, [.ref ob, .ref nb, .ref sb, .int (nI oB), .int (nI cB), .int (nI rB), .int (nI tB)])), (ob, .inl (cI, 16, .inl (fun j => nI (gB j)))), (nb, .inl (cI, 4, .inl (fun j => nI (nB j)))), (sb, .inl (cI, 16, .inl sB))] s.heap := hP
  have hin2 : ∀ w ∈ wsX20, w ∈ wsX2_apart := by decide +kernel
  have kf26 := hts (.fieldLink RX2 26 "SweepEqual" "apartStep" "I") (by decide +kernel)
  refine lv_aload_n hx hb dX2_apart_0 rfl (lv_at hl 0 rfl) ?_
  refine va_get (D := D) (ci := 2) (v := .int ap) (C := RX2) (T := TX2) (N := 7) hx hb hts hin2 hown hK hP 0 rfl rfl 6 (by decide) kf26 (fun _ h9 => h9) rfl dX2_apart_1 ?_
  exact rd_i hx hb hr hlocks dX2_apart_4 (rfl)
set_option maxHeartbeats 4000000 in
set_option maxRecDepth 100000 in
/-- the design of side 0 -/
theorem c_X2_designOf0  : Met l yX2_designOf wsX2_designOf { frames := 0, cells := 0, slots := 0, locals := 0 } (re_P D [(cI, .int), (cJ, .long)] (xW h hn ow fi ro ha oa na sa he ob nb sb cI cJ ic lc stp ap cnt len fo ff fr oA cA rA tA gA nA sA oB cB rB tB gB nB sB) tp [.ref h, .int 0]) (k2_QcV (.ref ha)) 0 0 (fun _ => False) := by
  refine Met.ofW (cc := cX2_designOf) (maxL := 2) (ret := (some (.object "SweepEqual$Design"))) (by decide) rfl ?_
  intro p e s m args below meth c s₁ B hml hv
  obtain ⟨rfl, ⟨hP, hK⟩, hE⟩ := hv
  have hx := B.exec
  have hb := B.bytes
  have hr := B.returns
  have hts := atoms_spec (ws := wsX2_designOf) B.pre
  have hown : s.vm.findClass RX2 = some m.cls := findClass_of_methodNamed B.named
  have hlocks := B.notSynchronized
  have hl := lv_entry ([.ref h, .int 0]) (n := 2) (Nat.le_of_ble_eq_true rfl)
  rw [lg_entry_eq]
  generalize (lg_sl ([.ref h, .int 0]) ++ List.replicate (2 - (lg_sl ([.ref h, .int 0])).length) Slot.unset).toArray = ls at hl ⊢
  have hl : lv_has ls 2 [(0, .ref h), (1, .int 0)] := hl
  have hP : va_P D vwCl [(h, .inr (2, [.ref hn, .ref ha, .ref he, .int (nI ic), .int (nI lc), .int (nI stp), .int ap])), (hn, .inr (1, [.int (nI cnt), .ref ow, .ref fi, .ref ro])), (ow, .inl (cI, 400, .inl fo)), (fi, .inl (cI, 400, .inl ff)), (ro, .inl (cJ, len, .inr (.inl fr))), (ha, .inr (0, [.ref oa, .ref na, .ref sa, .int (nI oA), .int (nI cA), .int (nI rA), .int (nI tA)])), (oa, .inl (cI, 16, .inl (fun j => nI (gA j)))), (na, .inl (cI, 4, .inl (fun j => nI (nA j)))), (sa, .inl (cI, 16, .inl sA)), (he, .inr (0, [.ref ob, .ref nb, .ref sb, .int (nI oB), .int (nI cB), .int (nI rB), .int (nI tB)])), (ob, .inl (cI, 16, .inl (fun j => nI (gB j)))), (nb, .inl (cI, 4, .inl (fun j => nI (nB j)))), (sb, .inl (cI, 16, .inl sB))] s.heap := hP
  have hin2 : ∀ w ∈ wsX20, w ∈ wsX2_designOf := by decide +kernel
  have kf19 := hts (.fieldLink RX2 19 "SweepEqual" "designA" "LSweepEqual$Design;") (by decide +kernel)
  have kf23 := hts (.fieldLink RX2 23 "SweepEqual" "designB" "LSweepEqual$Design;") (by decide +kernel)
  refine lv_iload_n hx hb dX2_designOf_0 rfl (lv_at hl 1 rfl) ?_
  refine lv_if_ne (tgt := 11) hx hb dX2_designOf_1 (by decide) (fun c1 => ?_) (fun c1 => ?_)
  · exact absurd rfl c1
  · refine lv_aload_n hx hb dX2_designOf_4 rfl (lv_at hl 0 rfl) ?_
    refine va_get (D := D) (ci := 2) (v := .ref ha) (C := RX2) (T := TX2) (N := 7) hx hb hts hin2 hown hK hP 0 rfl rfl 1 (by decide) kf19 (fun _ h9 => h9) rfl dX2_designOf_5 ?_
    refine lv_goto (tgt := 15) hx hb dX2_designOf_8 (by decide) ?_
    exact rd_a hx hb hr (Or.inl ⟨_, rfl⟩) hlocks dX2_designOf_15 rfl
set_option maxHeartbeats 4000000 in
set_option maxRecDepth 100000 in
/-- the design of side 1 -/
theorem c_X2_designOf1  : Met l yX2_designOf wsX2_designOf { frames := 0, cells := 0, slots := 0, locals := 0 } (re_P D [(cI, .int), (cJ, .long)] (xW h hn ow fi ro ha oa na sa he ob nb sb cI cJ ic lc stp ap cnt len fo ff fr oA cA rA tA gA nA sA oB cB rB tB gB nB sB) tp [.ref h, .int 1]) (k2_QcV (.ref he)) 0 0 (fun _ => False) := by
  refine Met.ofW (cc := cX2_designOf) (maxL := 2) (ret := (some (.object "SweepEqual$Design"))) (by decide) rfl ?_
  intro p e s m args below meth c s₁ B hml hv
  obtain ⟨rfl, ⟨hP, hK⟩, hE⟩ := hv
  have hx := B.exec
  have hb := B.bytes
  have hr := B.returns
  have hts := atoms_spec (ws := wsX2_designOf) B.pre
  have hown : s.vm.findClass RX2 = some m.cls := findClass_of_methodNamed B.named
  have hlocks := B.notSynchronized
  have hl := lv_entry ([.ref h, .int 1]) (n := 2) (Nat.le_of_ble_eq_true rfl)
  rw [lg_entry_eq]
  generalize (lg_sl ([.ref h, .int 1]) ++ List.replicate (2 - (lg_sl ([.ref h, .int 1])).length) Slot.unset).toArray = ls at hl ⊢
  have hl : lv_has ls 2 [(0, .ref h), (1, .int 1)] := hl
  have hP : va_P D vwCl [(h, .inr (2, [.ref hn, .ref ha, .ref he, .int (nI ic), .int (nI lc), .int (nI stp), .int ap])), (hn, .inr (1, [.int (nI cnt), .ref ow, .ref fi, .ref ro])), (ow, .inl (cI, 400, .inl fo)), (fi, .inl (cI, 400, .inl ff)), (ro, .inl (cJ, len, .inr (.inl fr))), (ha, .inr (0, [.ref oa, .ref na, .ref sa, .int (nI oA), .int (nI cA), .int (nI rA), .int (nI tA)])), (oa, .inl (cI, 16, .inl (fun j => nI (gA j)))), (na, .inl (cI, 4, .inl (fun j => nI (nA j)))), (sa, .inl (cI, 16, .inl sA)), (he, .inr (0, [.ref ob, .ref nb, .ref sb, .int (nI oB), .int (nI cB), .int (nI rB), .int (nI tB)])), (ob, .inl (cI, 16, .inl (fun j => nI (gB j)))), (nb, .inl (cI, 4, .inl (fun j => nI (nB j)))), (sb, .inl (cI, 16, .inl sB))] s.heap := hP
  have hin2 : ∀ w ∈ wsX20, w ∈ wsX2_designOf := by decide +kernel
  have kf19 := hts (.fieldLink RX2 19 "SweepEqual" "designA" "LSweepEqual$Design;") (by decide +kernel)
  have kf23 := hts (.fieldLink RX2 23 "SweepEqual" "designB" "LSweepEqual$Design;") (by decide +kernel)
  refine lv_iload_n hx hb dX2_designOf_0 rfl (lv_at hl 1 rfl) ?_
  refine lv_if_ne (tgt := 11) hx hb dX2_designOf_1 (by decide) (fun c1 => ?_) (fun c1 => ?_)
  · refine lv_aload_n hx hb dX2_designOf_11 rfl (lv_at hl 0 rfl) ?_
    refine va_get (D := D) (ci := 2) (v := .ref he) (C := RX2) (T := TX2) (N := 7) hx hb hts hin2 hown hK hP 0 rfl rfl 2 (by decide) kf23 (fun _ h9 => h9) rfl dX2_designOf_12 ?_
    exact rd_a hx hb hr (Or.inl ⟨_, rfl⟩) hlocks dX2_designOf_15 rfl
  · exact absurd c1 (by decide)
end XRd
end
section
/-! SweepEqual: readers over both designs. -/
/-- how many of the first n things differ -/
def cdF (ff : Nat → Int32) (g1 g2 : Nat → Nat) : Nat → Nat
  | 0 => 0
  | i + 1 => cdF ff g1 g2 i + if fs1 ff (g1 i) = fs1 ff (g2 i) then 0 else 1
theorem cdF_le (ff : Nat → Int32) (g1 g2 : Nat → Nat) : ∀ n, cdF ff g1 g2 n ≤ n
  | 0 => Nat.le_refl 0
  | n + 1 => by have := cdF_le ff g1 g2 n; unfold cdF; split <;> omega
/-- from i on, at most n things: the place of the one that differs behind lf others -/
def pdF (ff : Nat → Int32) (g1 g2 : Nat → Nat) : Nat → Nat → Nat → Int32
  | 0, _, _ => -1
  | n + 1, i, lf => if fs1 ff (g1 i) = fs1 ff (g2 i) then pdF ff g1 g2 n (i + 1) lf else if lf = 0 then nI i else pdF ff g1 g2 n (i + 1) (lf - 1)
/-- from latch i on, at most n: the start that differs behind lf others; then the numbers of outputs -/
def dsF (x oA oB : Nat) : Nat → Nat → Nat → Int32
  | 0, _, lf => if lf = 0 then (if oA = oB then -1 else nI 300) else -1
  | n + 1, i, lf => if x / 2 ^ i % 2 = 1 then (if lf = 0 then nI (200 + i) else dsF x oA oB n (i + 1) (lf - 1)) else dsF x oA oB n (i + 1) lf
/-- from i on, at most n: whether one is apart -/
def saF (sA sB : Nat → Int32) : Nat → Nat → Bool
  | 0, _ => false
  | n + 1, i => if sA i = sB i then saF sA sB n (i + 1) else true
section XB
variable (l : Launch) (D : va_G) (cI cJ : ClassId) (tp : Nat) (h hn ow fi ro ha oa na sa he ob nb sb : Nat) (ic lc stp : Nat) (ap : Int32) (cnt len : Nat) (fo ff : Nat → Int32) (fr : Nat → Int64) (oA cA rA tA : Nat) (gA nA : Nat → Nat) (sA : Nat → Int32) (oB cB rB tB : Nat) (gB nB : Nat → Nat) (sB : Nat → Int32)
set_option maxHeartbeats 4000000 in
set_option maxRecDepth 100000 in
/-- how many outputs both have -/
theorem c_X2_sharedOutputs (ho1 : oA ≤ 16) (ho2 : oB ≤ 16) : Met l yX2_sharedOutputs wsX2_sharedOutputs { frames := 1, cells := 0, slots := 0, locals := 13 } (re_P D [(cI, .int), (cJ, .long)] (xW h hn ow fi ro ha oa na sa he ob nb sb cI cJ ic lc stp ap cnt len fo ff fr oA cA rA tA gA nA sA oB cB rB tB gB nB sB) tp [.ref h]) (k2_QcV (.int (nI (min oA oB)))) 0 0 (fun _ => False) := by
  refine Met.ofW (cc := cX2_sharedOutputs) (maxL := 1) (ret := (some .int)) (by decide) rfl ?_
  intro p e s m args below meth c s₁ B hml hv
  obtain ⟨rfl, ⟨hP, hK⟩, hE⟩ := hv
  have hx := B.exec
  have hb := B.bytes
  have hr := B.returns
  have hts := atoms_spec (ws := wsX2_sharedOutputs) B.pre
  have hown : s.vm.findClass RX2 = some m.cls := findClass_of_methodNamed B.named
  have hlocks := B.notSynchronized
  have hl := lv_entry ([.ref h]) (n := 1) (Nat.le_of_ble_eq_true rfl)
  rw [lg_entry_eq]
  generalize (lg_sl ([.ref h]) ++ List.replicate (1 - (lg_sl ([.ref h])).length) Slot.unset).toArray = ls at hl ⊢
  have hl : lv_has ls 1 [(0, .ref h)] := hl
  have hP : va_P D vwCl [(h, .inr (2, [.ref hn, .ref ha, .ref he, .int (nI ic), .int (nI lc), .int (nI stp), .int ap])), (hn, .inr (1, [.int (nI cnt), .ref ow, .ref fi, .ref ro])), (ow, .inl (cI, 400, .inl fo)), (fi, .inl (cI, 400, .inl ff)), (ro, .inl (cJ, len, .inr (.inl fr))), (ha, .inr (0, [.ref oa, .ref na, .ref sa, .int (nI oA), .int (nI cA), .int (nI rA), .int (nI tA)])), (oa, .inl (cI, 16, .inl (fun j => nI (gA j)))), (na, .inl (cI, 4, .inl (fun j => nI (nA j)))), (sa, .inl (cI, 16, .inl sA)), (he, .inr (0, [.ref ob, .ref nb, .ref sb, .int (nI oB), .int (nI cB), .int (nI rB), .int (nI tB)])), (ob, .inl (cI, 16, .inl (fun j => nI (gB j)))), (nb, .inl (cI, 4, .inl (fun j => nI (nB j)))), (sb, .inl (cI, 16, .inl sB))] s.heap := hP
  have hin0 : ∀ w ∈ wsX00, w ∈ wsX2_sharedOutputs := by decide +kernel
  have hin2 : ∀ w ∈ wsX20, w ∈ wsX2_sharedOutputs := by decide +kernel
  have kf19 := hts (.fieldLink RX2 19 "SweepEqual" "designA" "LSweepEqual$Design;") (by decide +kernel)
  have kf81 := hts (.fieldLink RX2 81 "SweepEqual$Design" "outputCount" "I") (by decide +kernel)
  have kf23 := hts (.fieldLink RX2 23 "SweepEqual" "designB" "LSweepEqual$Design;") (by decide +kernel)
  refine lv_aload_n hx hb dX2_sharedOutputs_0 rfl (lv_at hl 0 rfl) ?_
  refine va_get (D := D) (ci := 2) (v := .ref ha) (C := RX2) (T := TX2) (N := 7) hx hb hts hin2 hown hK hP 0 rfl rfl 1 (by decide) kf19 (fun _ h9 => h9) rfl dX2_sharedOutputs_1 ?_
  refine va_get (D := D) (ci := 0) (v := .int (nI oA)) (C := RX0) (T := TX0) (N := 7) hx hb hts hin0 hown hK hP 5 rfl rfl 3 (by decide) kf81 (fun _ h9 => h9) rfl dX2_sharedOutputs_4 ?_
  refine lv_aload_n hx hb dX2_sharedOutputs_7 rfl (lv_at hl 0 rfl) ?_
  refine va_get (D := D) (ci := 2) (v := .ref he) (C := RX2) (T := TX2) (N := 7) hx hb hts hin2 hown hK hP 0 rfl rfl 2 (by decide) kf23 (fun _ h9 => h9) rfl dX2_sharedOutputs_8 ?_
  refine va_get (D := D) (ci := 0) (v := .int (nI oB)) (C := RX0) (T := TX0) (N := 7) hx hb hts hin0 hown hK hP 9 rfl rfl 3 (by decide) kf81 (fun _ h9 => h9) rfl dX2_sharedOutputs_11 ?_
  refine va_mmin hx hb (by rw [hml]; exact hl.1.symm) hown (hts (.methodLink RX2 200 Lib.Math.min.name) (by decide +kernel)) (hts (.static Lib.Math.min.name) (by decide +kernel)) (hts (.initialized "java/lang/Math") (by decide +kernel)) (hts (.code Lib.Math.min.name Lib.Math.min.code 2 (some .int)) (by decide +kernel)) (Nat.le_of_ble_eq_true rfl) (Nat.le_of_ble_eq_true rfl) (Nat.zero_le _) (Nat.zero_le _) dX2_sharedOutputs_14 ?_
  refine tp_i (show (if nI oB < nI oA then nI oB else nI oA) = nI (min oA oB) from min_I (by omega) (by omega)) ?_
  exact rd_i hx hb hr hlocks dX2_sharedOutputs_17 (rfl)
set_option maxHeartbeats 4000000 in
set_option maxRecDepth 100000 in
/-- how many differ -/
theorem c_X2_countDifferentO (n0 : Nat) (hn0 : n0 ≤ 16) (hg : ∀ j, j < n0 → gA j < 2 * cnt ∧ gB j < 2 * cnt) (hc : cnt ≤ 400) : Met l yX2_countDifferent wsX2_countDifferent { frames := 2, cells := 0, slots := 0, locals := 43 } (re_P D [(cI, .int), (cJ, .long)] (xW h hn ow fi ro ha oa na sa he ob nb sb cI cJ ic lc stp ap cnt len fo ff fr oA cA rA tA gA nA sA oB cB rB tB gB nB sB) tp [.ref h, .ref oa, .ref ob, .int (nI n0)]) (k2_QcV (.int (nI (cdF ff gA gB n0)))) 0 0 (fun _ => False) := by
  refine Met.ofW (cc := cX2_countDifferent) (maxL := 6) (ret := (some .int)) (by decide) rfl ?_
  intro p e s m args below meth c s₁ B hml hv
  obtain ⟨rfl, ⟨hP, hK⟩, hE⟩ := hv
  have hx := B.exec
  have hb := B.bytes
  have hr := B.returns
  have hts := atoms_spec (ws := wsX2_countDifferent) B.pre
  have hown : s.vm.findClass RX2 = some m.cls := findClass_of_methodNamed B.named
  have hlocks := B.notSynchronized
  have hl := lv_entry ([.ref h, .ref oa, .ref ob, .int (nI n0)]) (n := 6) (Nat.le_of_ble_eq_true rfl)
  rw [lg_entry_eq]
  generalize (lg_sl ([.ref h, .ref oa, .ref ob, .int (nI n0)]) ++ List.replicate (6 - (lg_sl ([.ref h, .ref oa, .ref ob, .int (nI n0)])).length) Slot.unset).toArray = ls at hl ⊢
  have hl : lv_has ls 6 [(0, .ref h), (1, .ref oa), (2, .ref ob), (3, .int (nI n0))] := hl
  have hP : va_P D vwCl [(h, .inr (2, [.ref hn, .ref ha, .ref he, .int (nI ic), .int (nI lc), .int (nI stp), .int ap])), (hn, .inr (1, [.int (nI cnt), .ref ow, .ref fi, .ref ro])), (ow, .inl (cI, 400, .inl fo)), (fi, .inl (cI, 400, .inl ff)), (ro, .inl (cJ, len, .inr (.inl fr))), (ha, .inr (0, [.ref oa, .ref na, .ref sa, .int (nI oA), .int (nI cA), .int (nI rA), .int (nI tA)])), (oa, .inl (cI, 16, .inl (fun j => nI (gA j)))), (na, .inl (cI, 4, .inl (fun j => nI (nA j)))), (sa, .inl (cI, 16, .inl sA)), (he, .inr (0, [.ref ob, .ref nb, .ref sb, .int (nI oB), .int (nI cB), .int (nI rB), .int (nI tB)])), (ob, .inl (cI, 16, .inl (fun j => nI (gB j)))), (nb, .inl (cI, 4, .inl (fun j => nI (nB j)))), (sb, .inl (cI, 16, .inl sB))] s.heap := hP
  have hin2 : ∀ w ∈ wsX20, w ∈ wsX2_countDifferent := by decide +kernel
  have kf12 := hts (.fieldLink RX2 12 "SweepEqual" "nodes" "LSweepEqual$Nodes;") (by decide +kernel)
  refine lv_iconst (v := nI 0) hx hb dX2_countDifferent_0 (by decide) ?_
  refine lv_istore (lv' := [(4, .int (nI 0)), (0, .ref h), (1, .ref oa), (2, .ref ob), (3, .int (nI n0))]) hx hb dX2_countDifferent_1 hl (by decide) rfl (fun ls hl => ?_)
  refine lv_iconst (v := nI 0) hx hb dX2_countDifferent_3 (by decide) ?_
  refine lv_istore (lv' := [(5, .int (nI 0)), (4, .int (nI 0)), (0, .ref h), (1, .ref oa), (2, .ref ob), (3, .int (nI n0))]) hx hb dX2_countDifferent_4 hl (by decide) rfl (fun ls hl => ?_)
  have loop : ∀ (n : Nat) (i : Nat), i ≤ n0 → n0 - i < n → ∀ ls : Array Slot, lv_has ls 6 [(4, .int (nI (cdF ff gA gB i))), (5, .int (nI i)), (0, .ref h), (1, .ref oa), (2, .ref ob), (3, .int (nI n0))] → W p l e (headSpec wsX2_countDifferent { frames := 2, cells := 0, slots := 0, locals := 43 }).room s m ([.ref h, .ref oa, .ref ob, .int (nI n0)] : List Value).toArray below meth c s.heap [] 0 0 (MQ below (k2_QcV (.int (nI (cdF ff gA gB n0)))) ([.ref h, .ref oa, .ref ob, .int (nI n0)] : List Value).toArray s 0 0 (fun _ => False)) (F0 m 6 ls []) := by
    intro n
    induction n with
    | zero => intro i hi hM; exact absurd hM (Nat.not_lt_zero _)
    | succ n ih =>
      intro i hi hM ls hl
      have hcd := cdF_le ff gA gB i
      refine lv_iload hx hb dX2_countDifferent_6 (lv_at hl 1 rfl) ?_
      refine lv_iload_n hx hb dX2_countDifferent_8 rfl (lv_at hl 5 rfl) ?_
      refine lv_icmp_ge (tgt := 39) hx hb dX2_countDifferent_9 (by decide) (fun c1 => ?_) (fun c1 => ?_)
      · have c1 : n0 ≤ i := (nI_leI (by omega) (by omega)).mp c1
        refine lv_iload hx hb dX2_countDifferent_39 (lv_at hl 0 rfl) ?_
        have hi2 : i = n0 := by omega
        exact rd_i hx hb hr hlocks dX2_countDifferent_41 (by rw [hi2])
      · have c1 : ¬ (n0 ≤ i) := fun h => c1 ((nI_leI (by omega) (by omega)).mpr h)
        have hgi := hg i (by omega)
        refine lv_aload_n hx hb dX2_countDifferent_12 rfl (lv_at hl 2 rfl) ?_
        refine va_get (D := D) (ci := 2) (v := .ref hn) (C := RX2) (T := TX2) (N := 7) hx hb hts hin2 hown hK hP 0 rfl rfl 0 (by decide) kf12 (fun _ h9 => h9) rfl dX2_countDifferent_13 ?_
        refine lv_aload_n hx hb dX2_countDifferent_16 rfl (lv_at hl 3 rfl) ?_
        refine lv_iload hx hb dX2_countDifferent_17 (lv_at hl 1 rfl) ?_
        refine va_iald hx hb hK hP 6 0 rfl rfl (vp_in_nI (by omega) (by omega)) dX2_countDifferent_19 ?_
        refine tp_i (show (fun j => nI (gA j)) (nI i).toNatClampNeg = nI (gA i) from congrArg (fun j => nI (gA j)) (nI_clamp (by omega))) ?_
        refine lv_aload_n hx hb dX2_countDifferent_20 rfl (lv_at hl 4 rfl) ?_
        refine lv_iload hx hb dX2_countDifferent_21 (lv_at hl 1 rfl) ?_
        refine va_iald hx hb hK hP 10 0 rfl rfl (vp_in_nI (by omega) (by omega)) dX2_countDifferent_23 ?_
        refine tp_i (show (fun j => nI (gB j)) (nI i).toNatClampNeg = nI (gB i) from congrArg (fun j => nI (gB j)) (nI_clamp (by omega))) ?_
        refine rd_V (As := [.int (nI (gA i)), .int (nI (gB i))]) (rest := []) ⟨hx, hb, hml, hown, hts⟩ (c_X1_areSame l D cI cJ hn ow fi ro cnt len fo ff fr (gA i) (gB i) (by omega) (by omega)) (cwV 2 hts gX2_countDifferent_X1_areSame rfl rfl rfl (by decide +kernel) ⟨Nat.le_of_ble_eq_true rfl, Nat.le_of_ble_eq_true rfl⟩) (rd_pv (ci := 1) (q0 := 0) hK (hP.sub (ws' := [(hn, .inr (1, [.int (nI cnt), .ref ow, .ref fi, .ref ro])), (ow, .inl (cI, 400, .inl fo)), (fi, .inl (cI, 400, .inl ff)), (ro, .inl (cJ, len, .inr (.inl fr)))]) [1, 2, 3, 4] rfl) rfl rfl) rfl hl.1 rfl (Nat.le_of_ble_eq_true rfl) dX2_countDifferent_24 ⟨Nat.zero_le _, Nat.zero_le _⟩ ?_
        refine lv_if_ne (tgt := 33) hx hb dX2_countDifferent_27 (by decide) (fun c2 => ?_) (fun c2 => ?_)
        · have c2 : fs1 ff (gA i) = fs1 ff (gB i) := by simpa using fun h => c2 (zI_eq0.mpr h)
          refine lv_iinc (v := nI (i + 1)) (lv' := [(5, .int (nI (i + 1))), (4, .int (nI (cdF ff gA gB i))), (0, .ref h), (1, .ref oa), (2, .ref ob), (3, .int (nI n0))]) hx hb dX2_countDifferent_33 hl (k := 1) rfl (nI_add i 1) (by decide) rfl (fun ls hl => ?_)
          refine lv_goto (tgt := 6) hx hb dX2_countDifferent_36 (by decide) ?_
          exact ih (i + 1) (by omega) (by omega) ls (by rw [show cdF ff gA gB (i + 1) = cdF ff gA gB i from by simp [cdF, c2]]; exact lv_sub hl [1, 0, 2, 3, 4, 5] rfl)
        · have c2 : ¬ fs1 ff (gA i) = fs1 ff (gB i) := by simpa using zI_eq0.mp c2
          refine lv_iinc (v := nI (cdF ff gA gB i + 1)) (lv' := [(4, .int (nI (cdF ff gA gB i + 1))), (5, .int (nI i)), (0, .ref h), (1, .ref oa), (2, .ref ob), (3, .int (nI n0))]) hx hb dX2_countDifferent_30 hl (k := 0) rfl (nI_add (cdF ff gA gB i) 1) (by decide) rfl (fun ls hl => ?_)
          refine lv_iinc (v := nI (i + 1)) (lv' := [(5, .int (nI (i + 1))), (4, .int (nI (cdF ff gA gB i + 1))), (0, .ref h), (1, .ref oa), (2, .ref ob), (3, .int (nI n0))]) hx hb dX2_countDifferent_33 hl (k := 1) rfl (nI_add i 1) (by decide) rfl (fun ls hl => ?_)
          refine lv_goto (tgt := 6) hx hb dX2_countDifferent_36 (by decide) ?_
          exact ih (i + 1) (by omega) (by omega) ls (by rw [show cdF ff gA gB (i + 1) = cdF ff gA gB i + 1 from by simp [cdF, c2]]; exact lv_sub hl [1, 0, 2, 3, 4, 5] rfl)
  exact loop (n0 - 0 + 1) 0 (by omega) (by omega) ls (lv_sub hl [1, 0, 2, 3, 4, 5] rfl)
set_option maxHeartbeats 4000000 in
set_option maxRecDepth 100000 in
/-- the place of the k-th that differs -/
theorem c_X2_placeOfDifferentO (n0 : Nat) (hn0 : n0 ≤ 16) (hg : ∀ j, j < n0 → gA j < 2 * cnt ∧ gB j < 2 * cnt) (hc : cnt ≤ 400) (k : Nat) (hk : k < 2 ^ 31) : Met l yX2_placeOfDifferent wsX2_placeOfDifferent { frames := 2, cells := 0, slots := 0, locals := 43 } (re_P D [(cI, .int), (cJ, .long)] (xW h hn ow fi ro ha oa na sa he ob nb sb cI cJ ic lc stp ap cnt len fo ff fr oA cA rA tA gA nA sA oB cB rB tB gB nB sB) tp [.ref h, .ref oa, .ref ob, .int (nI n0), .int (nI k)]) (k2_QcV (.int (pdF ff gA gB n0 0 k))) 0 0 (fun _ => False) := by
  refine Met.ofW (cc := cX2_placeOfDifferent) (maxL := 7) (ret := (some .int)) (by decide) rfl ?_
  intro p e s m args below meth c s₁ B hml hv
  obtain ⟨rfl, ⟨hP, hK⟩, hE⟩ := hv
  have hx := B.exec
  have hb := B.bytes
  have hr := B.returns
  have hts := atoms_spec (ws := wsX2_placeOfDifferent) B.pre
  have hown : s.vm.findClass RX2 = some m.cls := findClass_of_methodNamed B.named
  have hlocks := B.notSynchronized
  have hl := lv_entry ([.ref h, .ref oa, .ref ob, .int (nI n0), .int (nI k)]) (n := 7) (Nat.le_of_ble_eq_true rfl)
  rw [lg_entry_eq]
  generalize (lg_sl ([.ref h, .ref oa, .ref ob, .int (nI n0), .int (nI k)]) ++ List.replicate (7 - (lg_sl ([.ref h, .ref oa, .ref ob, .int (nI n0), .int (nI k)])).length) Slot.unset).toArray = ls at hl ⊢
  have hl : lv_has ls 7 [(0, .ref h), (1, .ref oa), (2, .ref ob), (3, .int (nI n0)), (4, .int (nI k))] := hl
  have hP : va_P D vwCl [(h, .inr (2, [.ref hn, .ref ha, .ref he, .int (nI ic), .int (nI lc), .int (nI stp), .int ap])), (hn, .inr (1, [.int (nI cnt), .ref ow, .ref fi, .ref ro])), (ow, .inl (cI, 400, .inl fo)), (fi, .inl (cI, 400, .inl ff)), (ro, .inl (cJ, len, .inr (.inl fr))), (ha, .inr (0, [.ref oa, .ref na, .ref sa, .int (nI oA), .int (nI cA), .int (nI rA), .int (nI tA)])), (oa, .inl (cI, 16, .inl (fun j => nI (gA j)))), (na, .inl (cI, 4, .inl (fun j => nI (nA j)))), (sa, .inl (cI, 16, .inl sA)), (he, .inr (0, [.ref ob, .ref nb, .ref sb, .int (nI oB), .int (nI cB), .int (nI rB), .int (nI tB)])), (ob, .inl (cI, 16, .inl (fun j => nI (gB j)))), (nb, .inl (cI, 4, .inl (fun j => nI (nB j)))), (sb, .inl (cI, 16, .inl sB))] s.heap := hP
  have hin2 : ∀ w ∈ wsX20, w ∈ wsX2_placeOfDifferent := by decide +kernel
  have kf12 := hts (.fieldLink RX2 12 "SweepEqual" "nodes" "LSweepEqual$Nodes;") (by decide +kernel)
  refine lv_iload hx hb dX2_placeOfDifferent_0 (lv_at hl 4 rfl) ?_
  refine lv_istore (lv' := [(5, .int (nI k)), (0, .ref h), (1, .ref oa), (2, .ref ob), (3, .int (nI n0)), (4, .int (nI k))]) hx hb dX2_placeOfDifferent_2 hl (by decide) rfl (fun ls hl => ?_)
  refine lv_iconst (v := nI 0) hx hb dX2_placeOfDifferent_4 (by decide) ?_
  refine lv_istore (lv' := [(6, .int (nI 0)), (5, .int (nI k)), (0, .ref h), (1, .ref oa), (2, .ref ob), (3, .int (nI n0)), (4, .int (nI k))]) hx hb dX2_placeOfDifferent_5 hl (by decide) rfl (fun ls hl => ?_)
  have loop : ∀ (n : Nat) (i : Nat) (lf : Nat), i ≤ n0 → lf < 2 ^ 31 → pdF ff gA gB n0 0 k = pdF ff gA gB (n0 - i) i lf → n0 - i < n → ∀ ls : Array Slot, lv_has ls 7 [(5, .int (nI lf)), (6, .int (nI i)), (0, .ref h), (1, .ref oa), (2, .ref ob), (3, .int (nI n0)), (4, .int (nI k))] → W p l e (headSpec wsX2_placeOfDifferent { frames := 2, cells := 0, slots := 0, locals := 43 }).room s m ([.ref h, .ref oa, .ref ob, .int (nI n0), .int (nI k)] : List Value).toArray below meth c s.heap [] 0 0 (MQ below (k2_QcV (.int (pdF ff gA gB n0 0 k))) ([.ref h, .ref oa, .ref ob, .int (nI n0), .int (nI k)] : List Value).toArray s 0 0 (fun _ => False)) (F0 m 7 ls []) := by
    intro n
    induction n with
    | zero => intro i lf hi hlf hR hM; exact absurd hM (Nat.not_lt_zero _)
    | succ n ih =>
      intro i lf hi hlf hR hM ls hl
      refine lv_iload hx hb dX2_placeOfDifferent_7 (lv_at hl 1 rfl) ?_
      refine lv_iload_n hx hb dX2_placeOfDifferent_9 rfl (lv_at hl 5 rfl) ?_
      refine lv_icmp_ge (tgt := 48) hx hb dX2_placeOfDifferent_10 (by decide) (fun c1 => ?_) (fun c1 => ?_)
      · have c1 : n0 ≤ i := (nI_leI (by omega) (by omega)).mp c1
        refine lv_iconst (v := -1) hx hb dX2_placeOfDifferent_48 (by decide) ?_
        have hi2 : n0 - i = 0 := by omega
        exact rd_i hx hb hr hlocks dX2_placeOfDifferent_49 (by rw [hR, hi2]; rfl)
      · have c1 : ¬ (n0 ≤ i) := fun h => c1 ((nI_leI (by omega) (by omega)).mpr h)
        have hgi := hg i (by omega)
        obtain ⟨kk, hkk⟩ : ∃ kk, n0 - i = kk + 1 := ⟨n0 - i - 1, by omega⟩
        refine lv_aload_n hx hb dX2_placeOfDifferent_13 rfl (lv_at hl 2 rfl) ?_
        refine va_get (D := D) (ci := 2) (v := .ref hn) (C := RX2) (T := TX2) (N := 7) hx hb hts hin2 hown hK hP 0 rfl rfl 0 (by decide) kf12 (fun _ h9 => h9) rfl dX2_placeOfDifferent_14 ?_
        refine lv_aload_n hx hb dX2_placeOfDifferent_17 rfl (lv_at hl 3 rfl) ?_
        refine lv_iload hx hb dX2_placeOfDifferent_18 (lv_at hl 1 rfl) ?_
        refine va_iald hx hb hK hP 6 0 rfl rfl (vp_in_nI (by omega) (by omega)) dX2_placeOfDifferent_20 ?_
        refine tp_i (show (fun j => nI (gA j)) (nI i).toNatClampNeg = nI (gA i) from congrArg (fun j => nI (gA j)) (nI_clamp (by omega))) ?_
        refine lv_aload_n hx hb dX2_placeOfDifferent_21 rfl (lv_at hl 4 rfl) ?_
        refine lv_iload hx hb dX2_placeOfDifferent_22 (lv_at hl 1 rfl) ?_
        refine va_iald hx hb hK hP 10 0 rfl rfl (vp_in_nI (by omega) (by omega)) dX2_placeOfDifferent_24 ?_
        refine tp_i (show (fun j => nI (gB j)) (nI i).toNatClampNeg = nI (gB i) from congrArg (fun j => nI (gB j)) (nI_clamp (by omega))) ?_
        refine rd_V (As := [.int (nI (gA i)), .int (nI (gB i))]) (rest := []) ⟨hx, hb, hml, hown, hts⟩ (c_X1_areSame l D cI cJ hn ow fi ro cnt len fo ff fr (gA i) (gB i) (by omega) (by omega)) (cwV 2 hts gX2_placeOfDifferent_X1_areSame rfl rfl rfl (by decide +kernel) ⟨Nat.le_of_ble_eq_true rfl, Nat.le_of_ble_eq_true rfl⟩) (rd_pv (ci := 1) (q0 := 0) hK (hP.sub (ws' := [(hn, .inr (1, [.int (nI cnt), .ref ow, .ref fi, .ref ro])), (ow, .inl (cI, 400, .inl fo)), (fi, .inl (cI, 400, .inl ff)), (ro, .inl (cJ, len, .inr (.inl fr)))]) [1, 2, 3, 4] rfl) rfl rfl) rfl hl.1 rfl (Nat.le_of_ble_eq_true rfl) dX2_placeOfDifferent_25 ⟨Nat.zero_le _, Nat.zero_le _⟩ ?_
        refine lv_if_ne (tgt := 42) hx hb dX2_placeOfDifferent_28 (by decide) (fun c2 => ?_) (fun c2 => ?_)
        · have c2 : fs1 ff (gA i) = fs1 ff (gB i) := by simpa using fun h => c2 (zI_eq0.mpr h)
          refine lv_iinc (v := nI (i + 1)) (lv' := [(6, .int (nI (i + 1))), (5, .int (nI lf)), (0, .ref h), (1, .ref oa), (2, .ref ob), (3, .int (nI n0)), (4, .int (nI k))]) hx hb dX2_placeOfDifferent_42 hl (k := 1) rfl (nI_add i 1) (by decide) rfl (fun ls hl => ?_)
          refine lv_goto (tgt := 7) hx hb dX2_placeOfDifferent_45 (by decide) ?_
          exact ih (i + 1) lf (by omega) (hlf) (by rw [hR, hkk, show n0 - (i + 1) = kk by omega]; simp [pdF, c2]) (by omega) ls (lv_sub hl [1, 0, 2, 3, 4, 5, 6] rfl)
        · have c2 : ¬ fs1 ff (gA i) = fs1 ff (gB i) := by simpa using zI_eq0.mp c2
          refine lv_iload hx hb dX2_placeOfDifferent_31 (lv_at hl 0 rfl) ?_
          refine lv_if_ne (tgt := 39) hx hb dX2_placeOfDifferent_33 (by decide) (fun c3 => ?_) (fun c3 => ?_)
          · have c3 : ¬ lf = 0 := fun h => c3 (by rw [h]; rfl)
            refine lv_iinc (v := nI (lf - 1)) (lv' := [(5, .int (nI (lf - 1))), (6, .int (nI i)), (0, .ref h), (1, .ref oa), (2, .ref ob), (3, .int (nI n0)), (4, .int (nI k))]) hx hb dX2_placeOfDifferent_39 hl (k := 0) rfl (sb_m1 (by omega)) (by decide) rfl (fun ls hl => ?_)
            refine lv_iinc (v := nI (i + 1)) (lv' := [(6, .int (nI (i + 1))), (5, .int (nI (lf - 1))), (0, .ref h), (1, .ref oa), (2, .ref ob), (3, .int (nI n0)), (4, .int (nI k))]) hx hb dX2_placeOfDifferent_42 hl (k := 1) rfl (nI_add i 1) (by decide) rfl (fun ls hl => ?_)
            refine lv_goto (tgt := 7) hx hb dX2_placeOfDifferent_45 (by decide) ?_
            exact ih (i + 1) (lf - 1) (by omega) (by omega) (by rw [hR, hkk, show n0 - (i + 1) = kk by omega]; simp [pdF, c2, c3]) (by omega) ls (lv_sub hl [1, 0, 2, 3, 4, 5, 6] rfl)
          · have c3 : lf = 0 := by by_cases hz : lf = 0; exact hz; exact absurd c3 (nI_ne0 (by omega) hlf)
            refine lv_iload hx hb dX2_placeOfDifferent_36 (lv_at hl 1 rfl) ?_
            exact rd_i hx hb hr hlocks dX2_placeOfDifferent_38 (by rw [hR, hkk]; simp [pdF, c2, c3])
  exact loop (n0 - 0 + 1) 0 k (by omega) (hk) (rfl) (by omega) ls (lv_sub hl [1, 0, 2, 3, 4, 5, 6] rfl)
set_option maxHeartbeats 4000000 in
set_option maxRecDepth 100000 in
/-- how many differ -/
theorem c_X2_countDifferentN (n0 : Nat) (hn0 : n0 ≤ 4) (hg : ∀ j, j < n0 → nA j < 2 * cnt ∧ nB j < 2 * cnt) (hc : cnt ≤ 400) : Met l yX2_countDifferent wsX2_countDifferent { frames := 2, cells := 0, slots := 0, locals := 43 } (re_P D [(cI, .int), (cJ, .long)] (xW h hn ow fi ro ha oa na sa he ob nb sb cI cJ ic lc stp ap cnt len fo ff fr oA cA rA tA gA nA sA oB cB rB tB gB nB sB) tp [.ref h, .ref na, .ref nb, .int (nI n0)]) (k2_QcV (.int (nI (cdF ff nA nB n0)))) 0 0 (fun _ => False) := by
  refine Met.ofW (cc := cX2_countDifferent) (maxL := 6) (ret := (some .int)) (by decide) rfl ?_
  intro p e s m args below meth c s₁ B hml hv
  obtain ⟨rfl, ⟨hP, hK⟩, hE⟩ := hv
  have hx := B.exec
  have hb := B.bytes
  have hr := B.returns
  have hts := atoms_spec (ws := wsX2_countDifferent) B.pre
  have hown : s.vm.findClass RX2 = some m.cls := findClass_of_methodNamed B.named
  have hlocks := B.notSynchronized
  have hl := lv_entry ([.ref h, .ref na, .ref nb, .int (nI n0)]) (n := 6) (Nat.le_of_ble_eq_true rfl)
  rw [lg_entry_eq]
  generalize (lg_sl ([.ref h, .ref na, .ref nb, .int (nI n0)]) ++ List.replicate (6 - (lg_sl ([.ref h, .ref na, .ref nb, .int (nI n0)])).length) Slot.unset).toArray = ls at hl ⊢
  have hl : lv_has ls 6 [(0, .ref h), (1, .ref na), (2, .ref nb), (3, .int (nI n0))] := hl
  have hP : va_P D vwCl [(h, .inr (2, [.ref hn, .ref ha, .ref he, .int (nI ic), .int (nI lc), .int (nI stp), .int ap])), (hn, .inr (1, [.int (nI cnt), .ref ow, .ref fi, .ref ro])), (ow, .inl (cI, 400, .inl fo)), (fi, .inl (cI, 400, .inl ff)), (ro, .inl (cJ, len, .inr (.inl fr))), (ha, .inr (0, [.ref oa, .ref na, .ref sa, .int (nI oA), .int (nI cA), .int (nI rA), .int (nI tA)])), (oa, .inl (cI, 16, .inl (fun j => nI (gA j)))), (na, .inl (cI, 4, .inl (fun j => nI (nA j)))), (sa, .inl (cI, 16, .inl sA)), (he, .inr (0, [.ref ob, .ref nb, .ref sb, .int (nI oB), .int (nI cB), .int (nI rB), .int (nI tB)])), (ob, .inl (cI, 16, .inl (fun j => nI (gB j)))), (nb, .inl (cI, 4, .inl (fun j => nI (nB j)))), (sb, .inl (cI, 16, .inl sB))] s.heap := hP
  have hin2 : ∀ w ∈ wsX20, w ∈ wsX2_countDifferent := by decide +kernel
  have kf12 := hts (.fieldLink RX2 12 "SweepEqual" "nodes" "LSweepEqual$Nodes;") (by decide +kernel)
  refine lv_iconst (v := nI 0) hx hb dX2_countDifferent_0 (by decide) ?_
  refine lv_istore (lv' := [(4, .int (nI 0)), (0, .ref h), (1, .ref na), (2, .ref nb), (3, .int (nI n0))]) hx hb dX2_countDifferent_1 hl (by decide) rfl (fun ls hl => ?_)
  refine lv_iconst (v := nI 0) hx hb dX2_countDifferent_3 (by decide) ?_
  refine lv_istore (lv' := [(5, .int (nI 0)), (4, .int (nI 0)), (0, .ref h), (1, .ref na), (2, .ref nb), (3, .int (nI n0))]) hx hb dX2_countDifferent_4 hl (by decide) rfl (fun ls hl => ?_)
  have loop : ∀ (n : Nat) (i : Nat), i ≤ n0 → n0 - i < n → ∀ ls : Array Slot, lv_has ls 6 [(4, .int (nI (cdF ff nA nB i))), (5, .int (nI i)), (0, .ref h), (1, .ref na), (2, .ref nb), (3, .int (nI n0))] → W p l e (headSpec wsX2_countDifferent { frames := 2, cells := 0, slots := 0, locals := 43 }).room s m ([.ref h, .ref na, .ref nb, .int (nI n0)] : List Value).toArray below meth c s.heap [] 0 0 (MQ below (k2_QcV (.int (nI (cdF ff nA nB n0)))) ([.ref h, .ref na, .ref nb, .int (nI n0)] : List Value).toArray s 0 0 (fun _ => False)) (F0 m 6 ls []) := by
    intro n
    induction n with
    | zero => intro i hi hM; exact absurd hM (Nat.not_lt_zero _)
    | succ n ih =>
      intro i hi hM ls hl
      have hcd := cdF_le ff nA nB i
      refine lv_iload hx hb dX2_countDifferent_6 (lv_at hl 1 rfl) ?_
      refine lv_iload_n hx hb dX2_countDifferent_8 rfl (lv_at hl 5 rfl) ?_
      refine lv_icmp_ge (tgt := 39) hx hb dX2_countDifferent_9 (by decide) (fun c1 => ?_) (fun c1 => ?_)
      · have c1 : n0 ≤ i := (nI_leI (by omega) (by omega)).mp c1
        refine lv_iload hx hb dX2_countDifferent_39 (lv_at hl 0 rfl) ?_
        have hi2 : i = n0 := by omega
        exact rd_i hx hb hr hlocks dX2_countDifferent_41 (by rw [hi2])
      · have c1 : ¬ (n0 ≤ i) := fun h => c1 ((nI_leI (by omega) (by omega)).mpr h)
        have hgi := hg i (by omega)
        refine lv_aload_n hx hb dX2_countDifferent_12 rfl (lv_at hl 2 rfl) ?_
        refine va_get (D := D) (ci := 2) (v := .ref hn) (C := RX2) (T := TX2) (N := 7) hx hb hts hin2 hown hK hP 0 rfl rfl 0 (by decide) kf12 (fun _ h9 => h9) rfl dX2_countDifferent_13 ?_
        refine lv_aload_n hx hb dX2_countDifferent_16 rfl (lv_at hl 3 rfl) ?_
        refine lv_iload hx hb dX2_countDifferent_17 (lv_at hl 1 rfl) ?_
        refine va_iald hx hb hK hP 7 0 rfl rfl (vp_in_nI (by omega) (by omega)) dX2_countDifferent_19 ?_
        refine tp_i (show (fun j => nI (nA j)) (nI i).toNatClampNeg = nI (nA i) from congrArg (fun j => nI (nA j)) (nI_clamp (by omega))) ?_
        refine lv_aload_n hx hb dX2_countDifferent_20 rfl (lv_at hl 4 rfl) ?_
        refine lv_iload hx hb dX2_countDifferent_21 (lv_at hl 1 rfl) ?_
        refine va_iald hx hb hK hP 11 0 rfl rfl (vp_in_nI (by omega) (by omega)) dX2_countDifferent_23 ?_
        refine tp_i (show (fun j => nI (nB j)) (nI i).toNatClampNeg = nI (nB i) from congrArg (fun j => nI (nB j)) (nI_clamp (by omega))) ?_
        refine rd_V (As := [.int (nI (nA i)), .int (nI (nB i))]) (rest := []) ⟨hx, hb, hml, hown, hts⟩ (c_X1_areSame l D cI cJ hn ow fi ro cnt len fo ff fr (nA i) (nB i) (by omega) (by omega)) (cwV 2 hts gX2_countDifferent_X1_areSame rfl rfl rfl (by decide +kernel) ⟨Nat.le_of_ble_eq_true rfl, Nat.le_of_ble_eq_true rfl⟩) (rd_pv (ci := 1) (q0 := 0) hK (hP.sub (ws' := [(hn, .inr (1, [.int (nI cnt), .ref ow, .ref fi, .ref ro])), (ow, .inl (cI, 400, .inl fo)), (fi, .inl (cI, 400, .inl ff)), (ro, .inl (cJ, len, .inr (.inl fr)))]) [1, 2, 3, 4] rfl) rfl rfl) rfl hl.1 rfl (Nat.le_of_ble_eq_true rfl) dX2_countDifferent_24 ⟨Nat.zero_le _, Nat.zero_le _⟩ ?_
        refine lv_if_ne (tgt := 33) hx hb dX2_countDifferent_27 (by decide) (fun c2 => ?_) (fun c2 => ?_)
        · have c2 : fs1 ff (nA i) = fs1 ff (nB i) := by simpa using fun h => c2 (zI_eq0.mpr h)
          refine lv_iinc (v := nI (i + 1)) (lv' := [(5, .int (nI (i + 1))), (4, .int (nI (cdF ff nA nB i))), (0, .ref h), (1, .ref na), (2, .ref nb), (3, .int (nI n0))]) hx hb dX2_countDifferent_33 hl (k := 1) rfl (nI_add i 1) (by decide) rfl (fun ls hl => ?_)
          refine lv_goto (tgt := 6) hx hb dX2_countDifferent_36 (by decide) ?_
          exact ih (i + 1) (by omega) (by omega) ls (by rw [show cdF ff nA nB (i + 1) = cdF ff nA nB i from by simp [cdF, c2]]; exact lv_sub hl [1, 0, 2, 3, 4, 5] rfl)
        · have c2 : ¬ fs1 ff (nA i) = fs1 ff (nB i) := by simpa using zI_eq0.mp c2
          refine lv_iinc (v := nI (cdF ff nA nB i + 1)) (lv' := [(4, .int (nI (cdF ff nA nB i + 1))), (5, .int (nI i)), (0, .ref h), (1, .ref na), (2, .ref nb), (3, .int (nI n0))]) hx hb dX2_countDifferent_30 hl (k := 0) rfl (nI_add (cdF ff nA nB i) 1) (by decide) rfl (fun ls hl => ?_)
          refine lv_iinc (v := nI (i + 1)) (lv' := [(5, .int (nI (i + 1))), (4, .int (nI (cdF ff nA nB i + 1))), (0, .ref h), (1, .ref na), (2, .ref nb), (3, .int (nI n0))]) hx hb dX2_countDifferent_33 hl (k := 1) rfl (nI_add i 1) (by decide) rfl (fun ls hl => ?_)
          refine lv_goto (tgt := 6) hx hb dX2_countDifferent_36 (by decide) ?_
          exact ih (i + 1) (by omega) (by omega) ls (by rw [show cdF ff nA nB (i + 1) = cdF ff nA nB i + 1 from by simp [cdF, c2]]; exact lv_sub hl [1, 0, 2, 3, 4, 5] rfl)
  exact loop (n0 - 0 + 1) 0 (by omega) (by omega) ls (lv_sub hl [1, 0, 2, 3, 4, 5] rfl)
set_option maxHeartbeats 4000000 in
set_option maxRecDepth 100000 in
/-- the place of the k-th that differs -/
theorem c_X2_placeOfDifferentN (n0 : Nat) (hn0 : n0 ≤ 4) (hg : ∀ j, j < n0 → nA j < 2 * cnt ∧ nB j < 2 * cnt) (hc : cnt ≤ 400) (k : Nat) (hk : k < 2 ^ 31) : Met l yX2_placeOfDifferent wsX2_placeOfDifferent { frames := 2, cells := 0, slots := 0, locals := 43 } (re_P D [(cI, .int), (cJ, .long)] (xW h hn ow fi ro ha oa na sa he ob nb sb cI cJ ic lc stp ap cnt len fo ff fr oA cA rA tA gA nA sA oB cB rB tB gB nB sB) tp [.ref h, .ref na, .ref nb, .int (nI n0), .int (nI k)]) (k2_QcV (.int (pdF ff nA nB n0 0 k))) 0 0 (fun _ => False) := by
  refine Met.ofW (cc := cX2_placeOfDifferent) (maxL := 7) (ret := (some .int)) (by decide) rfl ?_
  intro p e s m args below meth c s₁ B hml hv
  obtain ⟨rfl, ⟨hP, hK⟩, hE⟩ := hv
  have hx := B.exec
  have hb := B.bytes
  have hr := B.returns
  have hts := atoms_spec (ws := wsX2_placeOfDifferent) B.pre
  have hown : s.vm.findClass RX2 = some m.cls := findClass_of_methodNamed B.named
  have hlocks := B.notSynchronized
  have hl := lv_entry ([.ref h, .ref na, .ref nb, .int (nI n0), .int (nI k)]) (n := 7) (Nat.le_of_ble_eq_true rfl)
  rw [lg_entry_eq]
  generalize (lg_sl ([.ref h, .ref na, .ref nb, .int (nI n0), .int (nI k)]) ++ List.replicate (7 - (lg_sl ([.ref h, .ref na, .ref nb, .int (nI n0), .int (nI k)])).length) Slot.unset).toArray = ls at hl ⊢
  have hl : lv_has ls 7 [(0, .ref h), (1, .ref na), (2, .ref nb), (3, .int (nI n0)), (4, .int (nI k))] := hl
  have hP : va_P D vwCl [(h, .inr (2, [.ref hn, .ref ha, .ref he, .int (nI ic), .int (nI lc), .int (nI stp), .int ap])), (hn, .inr (1, [.int (nI cnt), .ref ow, .ref fi, .ref ro])), (ow, .inl (cI, 400, .inl fo)), (fi, .inl (cI, 400, .inl ff)), (ro, .inl (cJ, len, .inr (.inl fr))), (ha, .inr (0, [.ref oa, .ref na, .ref sa, .int (nI oA), .int (nI cA), .int (nI rA), .int (nI tA)])), (oa, .inl (cI, 16, .inl (fun j => nI (gA j)))), (na, .inl (cI, 4, .inl (fun j => nI (nA j)))), (sa, .inl (cI, 16, .inl sA)), (he, .inr (0, [.ref ob, .ref nb, .ref sb, .int (nI oB), .int (nI cB), .int (nI rB), .int (nI tB)])), (ob, .inl (cI, 16, .inl (fun j => nI (gB j)))), (nb, .inl (cI, 4, .inl (fun j => nI (nB j)))), (sb, .inl (cI, 16, .inl sB))] s.heap := hP
  have hin2 : ∀ w ∈ wsX20, w ∈ wsX2_placeOfDifferent := by decide +kernel
  have kf12 := hts (.fieldLink RX2 12 "SweepEqual" "nodes" "LSweepEqual$Nodes;") (by decide +kernel)
  refine lv_iload hx hb dX2_placeOfDifferent_0 (lv_at hl 4 rfl) ?_
  refine lv_istore (lv' := [(5, .int (nI k)), (0, .ref h), (1, .ref na), (2, .ref nb), (3, .int (nI n0)), (4, .int (nI k))]) hx hb dX2_placeOfDifferent_2 hl (by decide) rfl (fun ls hl => ?_)
  refine lv_iconst (v := nI 0) hx hb dX2_placeOfDifferent_4 (by decide) ?_
  refine lv_istore (lv' := [(6, .int (nI 0)), (5, .int (nI k)), (0, .ref h), (1, .ref na), (2, .ref nb), (3, .int (nI n0)), (4, .int (nI k))]) hx hb dX2_placeOfDifferent_5 hl (by decide) rfl (fun ls hl => ?_)
  have loop : ∀ (n : Nat) (i : Nat) (lf : Nat), i ≤ n0 → lf < 2 ^ 31 → pdF ff nA nB n0 0 k = pdF ff nA nB (n0 - i) i lf → n0 - i < n → ∀ ls : Array Slot, lv_has ls 7 [(5, .int (nI lf)), (6, .int (nI i)), (0, .ref h), (1, .ref na), (2, .ref nb), (3, .int (nI n0)), (4, .int (nI k))] → W p l e (headSpec wsX2_placeOfDifferent { frames := 2, cells := 0, slots := 0, locals := 43 }).room s m ([.ref h, .ref na, .ref nb, .int (nI n0), .int (nI k)] : List Value).toArray below meth c s.heap [] 0 0 (MQ below (k2_QcV (.int (pdF ff nA nB n0 0 k))) ([.ref h, .ref na, .ref nb, .int (nI n0), .int (nI k)] : List Value).toArray s 0 0 (fun _ => False)) (F0 m 7 ls []) := by
    intro n
    induction n with
    | zero => intro i lf hi hlf hR hM; exact absurd hM (Nat.not_lt_zero _)
    | succ n ih =>
      intro i lf hi hlf hR hM ls hl
      refine lv_iload hx hb dX2_placeOfDifferent_7 (lv_at hl 1 rfl) ?_
      refine lv_iload_n hx hb dX2_placeOfDifferent_9 rfl (lv_at hl 5 rfl) ?_
      refine lv_icmp_ge (tgt := 48) hx hb dX2_placeOfDifferent_10 (by decide) (fun c1 => ?_) (fun c1 => ?_)
      · have c1 : n0 ≤ i := (nI_leI (by omega) (by omega)).mp c1
        refine lv_iconst (v := -1) hx hb dX2_placeOfDifferent_48 (by decide) ?_
        have hi2 : n0 - i = 0 := by omega
        exact rd_i hx hb hr hlocks dX2_placeOfDifferent_49 (by rw [hR, hi2]; rfl)
      · have c1 : ¬ (n0 ≤ i) := fun h => c1 ((nI_leI (by omega) (by omega)).mpr h)
        have hgi := hg i (by omega)
        obtain ⟨kk, hkk⟩ : ∃ kk, n0 - i = kk + 1 := ⟨n0 - i - 1, by omega⟩
        refine lv_aload_n hx hb dX2_placeOfDifferent_13 rfl (lv_at hl 2 rfl) ?_
        refine va_get (D := D) (ci := 2) (v := .ref hn) (C := RX2) (T := TX2) (N := 7) hx hb hts hin2 hown hK hP 0 rfl rfl 0 (by decide) kf12 (fun _ h9 => h9) rfl dX2_placeOfDifferent_14 ?_
        refine lv_aload_n hx hb dX2_placeOfDifferent_17 rfl (lv_at hl 3 rfl) ?_
        refine lv_iload hx hb dX2_placeOfDifferent_18 (lv_at hl 1 rfl) ?_
        refine va_iald hx hb hK hP 7 0 rfl rfl (vp_in_nI (by omega) (by omega)) dX2_placeOfDifferent_20 ?_
        refine tp_i (show (fun j => nI (nA j)) (nI i).toNatClampNeg = nI (nA i) from congrArg (fun j => nI (nA j)) (nI_clamp (by omega))) ?_
        refine lv_aload_n hx hb dX2_placeOfDifferent_21 rfl (lv_at hl 4 rfl) ?_
        refine lv_iload hx hb dX2_placeOfDifferent_22 (lv_at hl 1 rfl) ?_
        refine va_iald hx hb hK hP 11 0 rfl rfl (vp_in_nI (by omega) (by omega)) dX2_placeOfDifferent_24 ?_
        refine tp_i (show (fun j => nI (nB j)) (nI i).toNatClampNeg = nI (nB i) from congrArg (fun j => nI (nB j)) (nI_clamp (by omega))) ?_
        refine rd_V (As := [.int (nI (nA i)), .int (nI (nB i))]) (rest := []) ⟨hx, hb, hml, hown, hts⟩ (c_X1_areSame l D cI cJ hn ow fi ro cnt len fo ff fr (nA i) (nB i) (by omega) (by omega)) (cwV 2 hts gX2_placeOfDifferent_X1_areSame rfl rfl rfl (by decide +kernel) ⟨Nat.le_of_ble_eq_true rfl, Nat.le_of_ble_eq_true rfl⟩) (rd_pv (ci := 1) (q0 := 0) hK (hP.sub (ws' := [(hn, .inr (1, [.int (nI cnt), .ref ow, .ref fi, .ref ro])), (ow, .inl (cI, 400, .inl fo)), (fi, .inl (cI, 400, .inl ff)), (ro, .inl (cJ, len, .inr (.inl fr)))]) [1, 2, 3, 4] rfl) rfl rfl) rfl hl.1 rfl (Nat.le_of_ble_eq_true rfl) dX2_placeOfDifferent_25 ⟨Nat.zero_le _, Nat.zero_le _⟩ ?_
        refine lv_if_ne (tgt := 42) hx hb dX2_placeOfDifferent_28 (by decide) (fun c2 => ?_) (fun c2 => ?_)
        · have c2 : fs1 ff (nA i) = fs1 ff (nB i) := by simpa using fun h => c2 (zI_eq0.mpr h)
          refine lv_iinc (v := nI (i + 1)) (lv' := [(6, .int (nI (i + 1))), (5, .int (nI lf)), (0, .ref h), (1, .ref na), (2, .ref nb), (3, .int (nI n0)), (4, .int (nI k))]) hx hb dX2_placeOfDifferent_42 hl (k := 1) rfl (nI_add i 1) (by decide) rfl (fun ls hl => ?_)
          refine lv_goto (tgt := 7) hx hb dX2_placeOfDifferent_45 (by decide) ?_
          exact ih (i + 1) lf (by omega) (hlf) (by rw [hR, hkk, show n0 - (i + 1) = kk by omega]; simp [pdF, c2]) (by omega) ls (lv_sub hl [1, 0, 2, 3, 4, 5, 6] rfl)
        · have c2 : ¬ fs1 ff (nA i) = fs1 ff (nB i) := by simpa using zI_eq0.mp c2
          refine lv_iload hx hb dX2_placeOfDifferent_31 (lv_at hl 0 rfl) ?_
          refine lv_if_ne (tgt := 39) hx hb dX2_placeOfDifferent_33 (by decide) (fun c3 => ?_) (fun c3 => ?_)
          · have c3 : ¬ lf = 0 := fun h => c3 (by rw [h]; rfl)
            refine lv_iinc (v := nI (lf - 1)) (lv' := [(5, .int (nI (lf - 1))), (6, .int (nI i)), (0, .ref h), (1, .ref na), (2, .ref nb), (3, .int (nI n0)), (4, .int (nI k))]) hx hb dX2_placeOfDifferent_39 hl (k := 0) rfl (sb_m1 (by omega)) (by decide) rfl (fun ls hl => ?_)
            refine lv_iinc (v := nI (i + 1)) (lv' := [(6, .int (nI (i + 1))), (5, .int (nI (lf - 1))), (0, .ref h), (1, .ref na), (2, .ref nb), (3, .int (nI n0)), (4, .int (nI k))]) hx hb dX2_placeOfDifferent_42 hl (k := 1) rfl (nI_add i 1) (by decide) rfl (fun ls hl => ?_)
            refine lv_goto (tgt := 7) hx hb dX2_placeOfDifferent_45 (by decide) ?_
            exact ih (i + 1) (lf - 1) (by omega) (by omega) (by rw [hR, hkk, show n0 - (i + 1) = kk by omega]; simp [pdF, c2, c3]) (by omega) ls (lv_sub hl [1, 0, 2, 3, 4, 5, 6] rfl)
          · have c3 : lf = 0 := by by_cases hz : lf = 0; exact hz; exact absurd c3 (nI_ne0 (by omega) hlf)
            refine lv_iload hx hb dX2_placeOfDifferent_36 (lv_at hl 1 rfl) ?_
            exact rd_i hx hb hr hlocks dX2_placeOfDifferent_38 (by rw [hR, hkk]; simp [pdF, c2, c3])
  exact loop (n0 - 0 + 1) 0 k (by omega) (hk) (rfl) (by omega) ls (lv_sub hl [1, 0, 2, 3, 4, 5, 6] rfl)
set_option maxHeartbeats 4000000 in
set_option maxRecDepth 100000 in
/-- the k-th start that differs, or the numbers of outputs -/
theorem c_X2_differentStartOrSize (k : Nat) (hk : k < 2 ^ 31) (hr1 : rA < 16) (hr2 : rB < 16) (hlc : lc ≤ 4) (ho1 : oA ≤ 16) (ho2 : oB ≤ 16) : Met l yX2_differentStartOrSize wsX2_differentStartOrSize { frames := 0, cells := 0, slots := 0, locals := 0 } (re_P D [(cI, .int), (cJ, .long)] (xW h hn ow fi ro ha oa na sa he ob nb sb cI cJ ic lc stp ap cnt len fo ff fr oA cA rA tA gA nA sA oB cB rB tB gB nB sB) tp [.ref h, .int (nI k)]) (k2_QcV (.int (dsF (rA ^^^ rB) oA oB lc 0 k))) 0 0 (fun _ => False) := by
  refine Met.ofW (cc := cX2_differentStartOrSize) (maxL := 5) (ret := (some .int)) (by decide) rfl ?_
  intro p e s m args below meth c s₁ B hml hv
  obtain ⟨rfl, ⟨hP, hK⟩, hE⟩ := hv
  have hx := B.exec
  have hb := B.bytes
  have hr := B.returns
  have hts := atoms_spec (ws := wsX2_differentStartOrSize) B.pre
  have hown : s.vm.findClass RX2 = some m.cls := findClass_of_methodNamed B.named
  have hlocks := B.notSynchronized
  have hl := lv_entry ([.ref h, .int (nI k)]) (n := 5) (Nat.le_of_ble_eq_true rfl)
  rw [lg_entry_eq]
  generalize (lg_sl ([.ref h, .int (nI k)]) ++ List.replicate (5 - (lg_sl ([.ref h, .int (nI k)])).length) Slot.unset).toArray = ls at hl ⊢
  have hl : lv_has ls 5 [(0, .ref h), (1, .int (nI k))] := hl
  have hP : va_P D vwCl [(h, .inr (2, [.ref hn, .ref ha, .ref he, .int (nI ic), .int (nI lc), .int (nI stp), .int ap])), (hn, .inr (1, [.int (nI cnt), .ref ow, .ref fi, .ref ro])), (ow, .inl (cI, 400, .inl fo)), (fi, .inl (cI, 400, .inl ff)), (ro, .inl (cJ, len, .inr (.inl fr))), (ha, .inr (0, [.ref oa, .ref na, .ref sa, .int (nI oA), .int (nI cA), .int (nI rA), .int (nI tA)])), (oa, .inl (cI, 16, .inl (fun j => nI (gA j)))), (na, .inl (cI, 4, .inl (fun j => nI (nA j)))), (sa, .inl (cI, 16, .inl sA)), (he, .inr (0, [.ref ob, .ref nb, .ref sb, .int (nI oB), .int (nI cB), .int (nI rB), .int (nI tB)])), (ob, .inl (cI, 16, .inl (fun j => nI (gB j)))), (nb, .inl (cI, 4, .inl (fun j => nI (nB j)))), (sb, .inl (cI, 16, .inl sB))] s.heap := hP
  have hin0 : ∀ w ∈ wsX00, w ∈ wsX2_differentStartOrSize := by decide +kernel
  have hin2 : ∀ w ∈ wsX20, w ∈ wsX2_differentStartOrSize := by decide +kernel
  have kf19 := hts (.fieldLink RX2 19 "SweepEqual" "designA" "LSweepEqual$Design;") (by decide +kernel)
  have kf205 := hts (.fieldLink RX2 205 "SweepEqual$Design" "starts" "I") (by decide +kernel)
  have kf23 := hts (.fieldLink RX2 23 "SweepEqual" "designB" "LSweepEqual$Design;") (by decide +kernel)
  have kf47 := hts (.fieldLink RX2 47 "SweepEqual" "latchCount" "I") (by decide +kernel)
  have kf81 := hts (.fieldLink RX2 81 "SweepEqual$Design" "outputCount" "I") (by decide +kernel)
  have hxx : rA ^^^ rB < 2 ^ 4 := Nat.xor_lt_two_pow (by omega) (by omega)
  refine lv_iload_n hx hb dX2_differentStartOrSize_0 rfl (lv_at hl 1 rfl) ?_
  refine lv_istore_n (lv' := [(2, .int (nI k)), (0, .ref h), (1, .int (nI k))]) hx hb dX2_differentStartOrSize_1 rfl hl (by decide) rfl (fun ls hl => ?_)
  refine lv_aload_n hx hb dX2_differentStartOrSize_2 rfl (lv_at hl 1 rfl) ?_
  refine va_get (D := D) (ci := 2) (v := .ref ha) (C := RX2) (T := TX2) (N := 7) hx hb hts hin2 hown hK hP 0 rfl rfl 1 (by decide) kf19 (fun _ h9 => h9) rfl dX2_differentStartOrSize_3 ?_
  refine va_get (D := D) (ci := 0) (v := .int (nI rA)) (C := RX0) (T := TX0) (N := 7) hx hb hts hin0 hown hK hP 5 rfl rfl 5 (by decide) kf205 (fun _ h9 => h9) rfl dX2_differentStartOrSize_6 ?_
  refine lv_aload_n hx hb dX2_differentStartOrSize_9 rfl (lv_at hl 1 rfl) ?_
  refine va_get (D := D) (ci := 2) (v := .ref he) (C := RX2) (T := TX2) (N := 7) hx hb hts hin2 hown hK hP 0 rfl rfl 2 (by decide) kf23 (fun _ h9 => h9) rfl dX2_differentStartOrSize_10 ?_
  refine va_get (D := D) (ci := 0) (v := .int (nI rB)) (C := RX0) (T := TX0) (N := 7) hx hb hts hin0 hown hK hP 9 rfl rfl 5 (by decide) kf205 (fun _ h9 => h9) rfl dX2_differentStartOrSize_13 ?_
  refine lv_ixor hx hb dX2_differentStartOrSize_16 ?_
  refine tp_i (show (nI rA) ^^^ (nI rB) = nI (rA ^^^ rB) from n_xor _ _) ?_
  refine lv_istore_n (lv' := [(3, .int (nI (rA ^^^ rB))), (2, .int (nI k)), (0, .ref h), (1, .int (nI k))]) hx hb dX2_differentStartOrSize_17 rfl hl (by decide) rfl (fun ls hl => ?_)
  refine lv_iconst (v := nI 0) hx hb dX2_differentStartOrSize_18 (by decide) ?_
  refine lv_istore (lv' := [(4, .int (nI 0)), (3, .int (nI (rA ^^^ rB))), (2, .int (nI k)), (0, .ref h), (1, .int (nI k))]) hx hb dX2_differentStartOrSize_19 hl (by decide) rfl (fun ls hl => ?_)
  have loop : ∀ (n : Nat) (i : Nat) (lf : Nat), i ≤ lc → lf < 2 ^ 31 → dsF (rA ^^^ rB) oA oB lc 0 k = dsF (rA ^^^ rB) oA oB (lc - i) i lf → lc - i < n → ∀ ls : Array Slot, lv_has ls 5 [(4, .int (nI i)), (3, .int (nI (rA ^^^ rB))), (2, .int (nI lf)), (0, .ref h), (1, .int (nI k))] → W p l e (headSpec wsX2_differentStartOrSize { frames := 0, cells := 0, slots := 0, locals := 0 }).room s m ([.ref h, .int (nI k)] : List Value).toArray below meth c s.heap [] 0 0 (MQ below (k2_QcV (.int (dsF (rA ^^^ rB) oA oB lc 0 k))) ([.ref h, .int (nI k)] : List Value).toArray s 0 0 (fun _ => False)) (F0 m 21 ls []) := by
    intro n
    induction n with
    | zero => intro i lf hi hlf hR hM; exact absurd hM (Nat.not_lt_zero _)
    | succ n ih =>
      intro i lf hi hlf hR hM ls hl
      have hq : (rA ^^^ rB) / 2 ^ i ≤ rA ^^^ rB := Nat.div_le_self _ _
      refine lv_iload hx hb dX2_differentStartOrSize_21 (lv_at hl 0 rfl) ?_
      refine lv_aload_n hx hb dX2_differentStartOrSize_23 rfl (lv_at hl 3 rfl) ?_
      refine va_get (D := D) (ci := 2) (v := .int (nI lc)) (C := RX2) (T := TX2) (N := 7) hx hb hts hin2 hown hK hP 0 rfl rfl 4 (by decide) kf47 (fun _ h9 => h9) rfl dX2_differentStartOrSize_24 ?_
      refine lv_icmp_ge (tgt := 60) hx hb dX2_differentStartOrSize_27 (by decide) (fun c1 => ?_) (fun c1 => ?_)
      · have c1 : lc ≤ i := (nI_leI (by omega) (by omega)).mp c1
        have hi2 : lc - i = 0 := by omega
        refine lv_iload_n hx hb dX2_differentStartOrSize_60 rfl (lv_at hl 2 rfl) ?_
        refine lv_if_ne (tgt := 87) hx hb dX2_differentStartOrSize_61 (by decide) (fun c2 => ?_) (fun c2 => ?_)
        · have c2 : ¬ lf = 0 := fun h => c2 (by rw [h]; rfl)
          refine lv_iconst (v := -1) hx hb dX2_differentStartOrSize_87 (by decide) ?_
          exact rd_i hx hb hr hlocks dX2_differentStartOrSize_88 (by rw [hR, hi2]; simp [dsF, c2])
        · have c2 : lf = 0 := by by_cases hz : lf = 0; exact hz; exact absurd c2 (nI_ne0 (by omega) hlf)
          refine lv_aload_n hx hb dX2_differentStartOrSize_64 rfl (lv_at hl 3 rfl) ?_
          refine va_get (D := D) (ci := 2) (v := .ref ha) (C := RX2) (T := TX2) (N := 7) hx hb hts hin2 hown hK hP 0 rfl rfl 1 (by decide) kf19 (fun _ h9 => h9) rfl dX2_differentStartOrSize_65 ?_
          refine va_get (D := D) (ci := 0) (v := .int (nI oA)) (C := RX0) (T := TX0) (N := 7) hx hb hts hin0 hown hK hP 5 rfl rfl 3 (by decide) kf81 (fun _ h9 => h9) rfl dX2_differentStartOrSize_68 ?_
          refine lv_aload_n hx hb dX2_differentStartOrSize_71 rfl (lv_at hl 3 rfl) ?_
          refine va_get (D := D) (ci := 2) (v := .ref he) (C := RX2) (T := TX2) (N := 7) hx hb hts hin2 hown hK hP 0 rfl rfl 2 (by decide) kf23 (fun _ h9 => h9) rfl dX2_differentStartOrSize_72 ?_
          refine va_get (D := D) (ci := 0) (v := .int (nI oB)) (C := RX0) (T := TX0) (N := 7) hx hb hts hin0 hown hK hP 9 rfl rfl 3 (by decide) kf81 (fun _ h9 => h9) rfl dX2_differentStartOrSize_75 ?_
          refine lv_icmp_eq (tgt := 87) hx hb dX2_differentStartOrSize_78 (by decide) (fun c3 => ?_) (fun c3 => ?_)
          · have c3 : oA = oB := (nI_eq (by omega) (by omega)).mp c3
            refine lv_iconst (v := -1) hx hb dX2_differentStartOrSize_87 (by decide) ?_
            exact rd_i hx hb hr hlocks dX2_differentStartOrSize_88 (by rw [hR, hi2]; simp [dsF, c2, c3])
          · have c3 : ¬ oA = oB := fun h => c3 ((nI_eq (by omega) (by omega)).mpr h)
            refine lv_sipush (v := nI 300) hx hb dX2_differentStartOrSize_81 (by decide) ?_
            refine lv_goto (tgt := 88) hx hb dX2_differentStartOrSize_84 (by decide) ?_
            exact rd_i hx hb hr hlocks dX2_differentStartOrSize_88 (by rw [hR, hi2]; simp [dsF, c2, c3])
      · have c1 : ¬ (lc ≤ i) := fun h => c1 ((nI_leI (by omega) (by omega)).mpr h)
        obtain ⟨kk, hkk⟩ : ∃ kk, lc - i = kk + 1 := ⟨lc - i - 1, by omega⟩
        refine lv_iload_n hx hb dX2_differentStartOrSize_30 rfl (lv_at hl 1 rfl) ?_
        refine lv_iload hx hb dX2_differentStartOrSize_31 (lv_at hl 0 rfl) ?_
        refine lv_ishr hx hb dX2_differentStartOrSize_33 ?_
        refine tp_i (show (nI (rA ^^^ rB)) >>> ((nI i) &&& 31) = nI ((rA ^^^ rB) / 2 ^ i) from n_shr (by omega) (by omega)) ?_
        refine lv_iconst (v := nI 1) hx hb dX2_differentStartOrSize_34 (by decide) ?_
        refine lv_iand hx hb dX2_differentStartOrSize_35 ?_
        refine tp_i (show (nI ((rA ^^^ rB) / 2 ^ i)) &&& (nI 1) = nI (((rA ^^^ rB) / 2 ^ i) % 2) from n_and1 (by omega)) ?_
        refine lv_iconst (v := nI 1) hx hb dX2_differentStartOrSize_36 (by decide) ?_
        refine lv_icmp_ne (tgt := 54) hx hb dX2_differentStartOrSize_37 (by decide) (fun c2 => ?_) (fun c2 => ?_)
        · have c2 : ¬ ((rA ^^^ rB) / 2 ^ i) % 2 = 1 := fun h => c2 ((nI_eq (by omega) (by omega)).mpr h)
          refine lv_iinc (v := nI (i + 1)) (lv' := [(4, .int (nI (i + 1))), (3, .int (nI (rA ^^^ rB))), (2, .int (nI lf)), (0, .ref h), (1, .int (nI k))]) hx hb dX2_differentStartOrSize_54 hl (k := 0) rfl (nI_add i 1) (by decide) rfl (fun ls hl => ?_)
          refine lv_goto (tgt := 21) hx hb dX2_differentStartOrSize_57 (by decide) ?_
          exact ih (i + 1) lf (by omega) (hlf) (by rw [hR, hkk, show lc - (i + 1) = kk by omega]; simp [dsF, c2]) (by omega) ls (lv_sub hl [0, 1, 2, 3, 4] rfl)
        · have c2 : ((rA ^^^ rB) / 2 ^ i) % 2 = 1 := (nI_eq (by omega) (by omega)).mp c2
          refine lv_iload_n hx hb dX2_differentStartOrSize_40 rfl (lv_at hl 2 rfl) ?_
          refine lv_if_ne (tgt := 51) hx hb dX2_differentStartOrSize_41 (by decide) (fun c3 => ?_) (fun c3 => ?_)
          · have c3 : ¬ lf = 0 := fun h => c3 (by rw [h]; rfl)
            refine lv_iinc (v := nI (lf - 1)) (lv' := [(2, .int (nI (lf - 1))), (4, .int (nI i)), (3, .int (nI (rA ^^^ rB))), (0, .ref h), (1, .int (nI k))]) hx hb dX2_differentStartOrSize_51 hl (k := 2) rfl (sb_m1 (by omega)) (by decide) rfl (fun ls hl => ?_)
            refine lv_iinc (v := nI (i + 1)) (lv' := [(4, .int (nI (i + 1))), (2, .int (nI (lf - 1))), (3, .int (nI (rA ^^^ rB))), (0, .ref h), (1, .int (nI k))]) hx hb dX2_differentStartOrSize_54 hl (k := 1) rfl (nI_add i 1) (by decide) rfl (fun ls hl => ?_)
            refine lv_goto (tgt := 21) hx hb dX2_differentStartOrSize_57 (by decide) ?_
            exact ih (i + 1) (lf - 1) (by omega) (by omega) (by rw [hR, hkk, show lc - (i + 1) = kk by omega]; simp [dsF, c2, c3]) (by omega) ls (lv_sub hl [0, 2, 1, 3, 4] rfl)
          · have c3 : lf = 0 := by by_cases hz : lf = 0; exact hz; exact absurd c3 (nI_ne0 (by omega) hlf)
            refine lv_sipush (v := nI 200) hx hb dX2_differentStartOrSize_44 (by decide) ?_
            refine lv_iload hx hb dX2_differentStartOrSize_47 (lv_at hl 0 rfl) ?_
            refine lv_iadd hx hb dX2_differentStartOrSize_49 ?_
            refine tp_i (show (nI 200) + (nI i) = nI (200 + i) from nI_add _ _) ?_
            exact rd_i hx hb hr hlocks dX2_differentStartOrSize_50 (by rw [hR, hkk]; simp [dsF, c2, c3])
  exact loop (lc - 0 + 1) 0 k (by omega) (hk) (rfl) (by omega) ls (lv_sub hl [0, 1, 2, 3, 4] rfl)
set_option maxHeartbeats 4000000 in
set_option maxRecDepth 100000 in
/-- whether the latest outputs are apart -/
theorem c_X2_showApart (hc1 : cA ≤ 16) (hc2 : cB ≤ 16) : Met l yX2_showApart wsX2_showApart { frames := 1, cells := 0, slots := 0, locals := 13 } (re_P D [(cI, .int), (cJ, .long)] (xW h hn ow fi ro ha oa na sa he ob nb sb cI cJ ic lc stp ap cnt len fo ff fr oA cA rA tA gA nA sA oB cB rB tB gB nB sB) tp [.ref h]) (k2_QcV (.int (zI (saF sA sB (min cA cB) 0)))) 0 0 (fun _ => False) := by
  refine Met.ofW (cc := cX2_showApart) (maxL := 3) (ret := (some .boolean)) (by decide) rfl ?_
  intro p e s m args below meth c s₁ B hml hv
  obtain ⟨rfl, ⟨hP, hK⟩, hE⟩ := hv
  have hx := B.exec
  have hb := B.bytes
  have hr := B.returns
  have hts := atoms_spec (ws := wsX2_showApart) B.pre
  have hown : s.vm.findClass RX2 = some m.cls := findClass_of_methodNamed B.named
  have hlocks := B.notSynchronized
  have hl := lv_entry ([.ref h]) (n := 3) (Nat.le_of_ble_eq_true rfl)
  rw [lg_entry_eq]
  generalize (lg_sl ([.ref h]) ++ List.replicate (3 - (lg_sl ([.ref h])).length) Slot.unset).toArray = ls at hl ⊢
  have hl : lv_has ls 3 [(0, .ref h)] := hl
  have hP : va_P D vwCl [(h, .inr (2, [.ref hn, .ref ha, .ref he, .int (nI ic), .int (nI lc), .int (nI stp), .int ap])), (hn, .inr (1, [.int (nI cnt), .ref ow, .ref fi, .ref ro])), (ow, .inl (cI, 400, .inl fo)), (fi, .inl (cI, 400, .inl ff)), (ro, .inl (cJ, len, .inr (.inl fr))), (ha, .inr (0, [.ref oa, .ref na, .ref sa, .int (nI oA), .int (nI cA), .int (nI rA), .int (nI tA)])), (oa, .inl (cI, 16, .inl (fun j => nI (gA j)))), (na, .inl (cI, 4, .inl (fun j => nI (nA j)))), (sa, .inl (cI, 16, .inl sA)), (he, .inr (0, [.ref ob, .ref nb, .ref sb, .int (nI oB), .int (nI cB), .int (nI rB), .int (nI tB)])), (ob, .inl (cI, 16, .inl (fun j => nI (gB j)))), (nb, .inl (cI, 4, .inl (fun j => nI (nB j)))), (sb, .inl (cI, 16, .inl sB))] s.heap := hP
  have hin0 : ∀ w ∈ wsX00, w ∈ wsX2_showApart := by decide +kernel
  have hin2 : ∀ w ∈ wsX20, w ∈ wsX2_showApart := by decide +kernel
  have kf19 := hts (.fieldLink RX2 19 "SweepEqual" "designA" "LSweepEqual$Design;") (by decide +kernel)
  have kf160 := hts (.fieldLink RX2 160 "SweepEqual$Design" "shownCount" "I") (by decide +kernel)
  have kf23 := hts (.fieldLink RX2 23 "SweepEqual" "designB" "LSweepEqual$Design;") (by decide +kernel)
  have kf163 := hts (.fieldLink RX2 163 "SweepEqual$Design" "shown" "[I") (by decide +kernel)
  refine lv_aload_n hx hb dX2_showApart_0 rfl (lv_at hl 0 rfl) ?_
  refine va_get (D := D) (ci := 2) (v := .ref ha) (C := RX2) (T := TX2) (N := 7) hx hb hts hin2 hown hK hP 0 rfl rfl 1 (by decide) kf19 (fun _ h9 => h9) rfl dX2_showApart_1 ?_
  refine va_get (D := D) (ci := 0) (v := .int (nI cA)) (C := RX0) (T := TX0) (N := 7) hx hb hts hin0 hown hK hP 5 rfl rfl 4 (by decide) kf160 (fun _ h9 => h9) rfl dX2_showApart_4 ?_
  refine lv_aload_n hx hb dX2_showApart_7 rfl (lv_at hl 0 rfl) ?_
  refine va_get (D := D) (ci := 2) (v := .ref he) (C := RX2) (T := TX2) (N := 7) hx hb hts hin2 hown hK hP 0 rfl rfl 2 (by decide) kf23 (fun _ h9 => h9) rfl dX2_showApart_8 ?_
  refine va_get (D := D) (ci := 0) (v := .int (nI cB)) (C := RX0) (T := TX0) (N := 7) hx hb hts hin0 hown hK hP 9 rfl rfl 4 (by decide) kf160 (fun _ h9 => h9) rfl dX2_showApart_11 ?_
  refine va_mmin hx hb (by rw [hml]; exact hl.1.symm) hown (hts (.methodLink RX2 200 Lib.Math.min.name) (by decide +kernel)) (hts (.static Lib.Math.min.name) (by decide +kernel)) (hts (.initialized "java/lang/Math") (by decide +kernel)) (hts (.code Lib.Math.min.name Lib.Math.min.code 2 (some .int)) (by decide +kernel)) (Nat.le_of_ble_eq_true rfl) (Nat.le_of_ble_eq_true rfl) (Nat.zero_le _) (Nat.zero_le _) dX2_showApart_14 ?_
  refine tp_i (show (if nI cB < nI cA then nI cB else nI cA) = nI (min cA cB) from min_I (by omega) (by omega)) ?_
  refine lv_istore_n (lv' := [(1, .int (nI (min cA cB))), (0, .ref h)]) hx hb dX2_showApart_17 rfl hl (by decide) rfl (fun ls hl => ?_)
  refine lv_iconst (v := nI 0) hx hb dX2_showApart_18 (by decide) ?_
  refine lv_istore_n (lv' := [(2, .int (nI 0)), (1, .int (nI (min cA cB))), (0, .ref h)]) hx hb dX2_showApart_19 rfl hl (by decide) rfl (fun ls hl => ?_)
  have loop : ∀ (n : Nat) (i : Nat), i ≤ min cA cB → saF sA sB (min cA cB) 0 = saF sA sB (min cA cB - i) i → min cA cB - i < n → ∀ ls : Array Slot, lv_has ls 3 [(2, .int (nI i)), (1, .int (nI (min cA cB))), (0, .ref h)] → W p l e (headSpec wsX2_showApart { frames := 1, cells := 0, slots := 0, locals := 13 }).room s m ([.ref h] : List Value).toArray below meth c s.heap [] 0 0 (MQ below (k2_QcV (.int (zI (saF sA sB (min cA cB) 0)))) ([.ref h] : List Value).toArray s 0 0 (fun _ => False)) (F0 m 20 ls []) := by
    intro n
    induction n with
    | zero => intro i hi hR hM; exact absurd hM (Nat.not_lt_zero _)
    | succ n ih =>
      intro i hi hR hM ls hl
      refine lv_iload_n hx hb dX2_showApart_20 rfl (lv_at hl 0 rfl) ?_
      refine lv_iload_n hx hb dX2_showApart_21 rfl (lv_at hl 1 rfl) ?_
      refine lv_icmp_ge (tgt := 54) hx hb dX2_showApart_22 (by decide) (fun c1 => ?_) (fun c1 => ?_)
      · have c1 : min cA cB ≤ i := (nI_leI (by omega) (by omega)).mp c1
        refine lv_iconst (v := nI 0) hx hb dX2_showApart_54 (by decide) ?_
        have hi2 : min cA cB - i = 0 := by omega
        exact rd_z hx hb hr hlocks dX2_showApart_55 (by rw [hR, hi2]; rfl) (zI_01 _)
      · have c1 : ¬ (min cA cB ≤ i) := fun h => c1 ((nI_leI (by omega) (by omega)).mpr h)
        obtain ⟨kk, hkk⟩ : ∃ kk, min cA cB - i = kk + 1 := ⟨min cA cB - i - 1, by omega⟩
        refine lv_aload_n hx hb dX2_showApart_25 rfl (lv_at hl 2 rfl) ?_
        refine va_get (D := D) (ci := 2) (v := .ref ha) (C := RX2) (T := TX2) (N := 7) hx hb hts hin2 hown hK hP 0 rfl rfl 1 (by decide) kf19 (fun _ h9 => h9) rfl dX2_showApart_26 ?_
        refine va_get (D := D) (ci := 0) (v := .ref sa) (C := RX0) (T := TX0) (N := 7) hx hb hts hin0 hown hK hP 5 rfl rfl 2 (by decide) kf163 (fun _ h9 => h9) rfl dX2_showApart_29 ?_
        refine lv_iload_n hx hb dX2_showApart_32 rfl (lv_at hl 0 rfl) ?_
        refine va_iald hx hb hK hP 8 0 rfl rfl (vp_in_nI (by omega) (by omega)) dX2_showApart_33 ?_
        refine tp_i (show sA (nI i).toNatClampNeg = sA i from congrArg sA (nI_clamp (by omega))) ?_
        refine lv_aload_n hx hb dX2_showApart_34 rfl (lv_at hl 2 rfl) ?_
        refine va_get (D := D) (ci := 2) (v := .ref he) (C := RX2) (T := TX2) (N := 7) hx hb hts hin2 hown hK hP 0 rfl rfl 2 (by decide) kf23 (fun _ h9 => h9) rfl dX2_showApart_35 ?_
        refine va_get (D := D) (ci := 0) (v := .ref sb) (C := RX0) (T := TX0) (N := 7) hx hb hts hin0 hown hK hP 9 rfl rfl 2 (by decide) kf163 (fun _ h9 => h9) rfl dX2_showApart_38 ?_
        refine lv_iload_n hx hb dX2_showApart_41 rfl (lv_at hl 0 rfl) ?_
        refine va_iald hx hb hK hP 12 0 rfl rfl (vp_in_nI (by omega) (by omega)) dX2_showApart_42 ?_
        refine tp_i (show sB (nI i).toNatClampNeg = sB i from congrArg sB (nI_clamp (by omega))) ?_
        refine lv_icmp_eq (tgt := 48) hx hb dX2_showApart_43 (by decide) (fun c2 => ?_) (fun c2 => ?_)
        · refine lv_iinc (v := nI (i + 1)) (lv' := [(2, .int (nI (i + 1))), (1, .int (nI (min cA cB))), (0, .ref h)]) hx hb dX2_showApart_48 hl (k := 0) rfl (nI_add i 1) (by decide) rfl (fun ls hl => ?_)
          refine lv_goto (tgt := 20) hx hb dX2_showApart_51 (by decide) ?_
          exact ih (i + 1) (by omega) (by rw [hR, hkk, show min cA cB - (i + 1) = kk by omega]; simp [saF, c2]) (by omega) ls (lv_sub hl [0, 1, 2] rfl)
        · refine lv_iconst (v := nI 1) hx hb dX2_showApart_46 (by decide) ?_
          exact rd_z hx hb hr hlocks dX2_showApart_47 (by rw [hR, hkk]; simp [saF, c2, zI, nI_one]) (zI_01 _)
  exact loop (min cA cB - 0 + 1) 0 (by omega) (rfl) (by omega) ls (lv_sub hl [0, 1, 2] rfl)
end XB
end
section
theorem zz_end : True := trivial
end
