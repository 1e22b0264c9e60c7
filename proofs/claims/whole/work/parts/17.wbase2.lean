/-! Writers that are static; ends with a reference; the words of growth and of new rows. -/
section WB2
variable {p : Program} {l : Launch} {e : Env} {R : Room} {s : State} {m : MethodId} {args : Array Value} {below : List Frame} {meth : Method} {c : Code} {H : Heap} {locs : List Loc} {cells slots : Nat} {Q : State → Prop}
variable {cc : ByteArray} {pc : Nat} {ls : Array Slot} {rest st0 : List Value}
variable {y : MethodName} {bytes : ByteArray} {maxL nL n index mc ms : Nat} {ret : Option FieldType} {ws : List Cond} {rm : Room} {Ts : List Cond} {own C : String} {b : Addr} {As : List Value}
variable {D : va_G} {tys : List (ClassId × FieldType)} {ww wc wr : va_W} {tp : Nat} {A : Nat → Prop}
theorem wr_S {Su : Type} {o₀ : Su → Option Value} {post : Su → Prop} {wn : Su → va_W} (S : CallFix p m c cc nL s args Ts own) (hM : Met l y ws rm (wr_P D tys wc H.size tp As) (wx D tys (va_A wc H.size) o₀ post wn) mc ms (va_A wc H.size)) (cw : CallB R s args own index y bytes maxL ret ws rm mc ms n ∧ (Cond.static y).before args s = true)
    (hn : As.length = n) (hsize : ls.size = nL) (hstack : st0 = As.reverse ++ rest) (hW : (rest.map fun v => v.category).sum ≤ 8) (hdg : decode cc pc = .ok (.invokestatic index, 3)) (hf : cells + mc ≤ R.cells ∧ slots + ms ≤ R.slots)
    (hK : va_K D vwCl tys s) (hP : va_P D vwCl ww H) (hD : va_D A ww) (hS : va_S A s.heap H locs) (hA : ∀ q, s.heap.size ≤ q → A q) (hE : EV tp A s s.heap) (isC isR : List Nat) (hC : isC.map (fun i => ww[i]?) = wc.map some) (hR : isR.map (fun i => ww[i]?) = wr.map some) (hnC : va_nd isC = true) (hn1 : va_nd isR = true) (hdis : ∀ i ∈ isR, i ∉ isC)
    (kk : ∀ (u : Su) (H1 : Heap) (locs1 : List Loc), post u → va_P D vwCl (wr ++ wn u) H1 → va_D A (wr ++ wn u) → va_S A s.heap H1 locs1 → W p l e R s m args below meth c H1 locs1 (cells + mc) (slots + ms) Q (F0 m (pc + 3) ls ((o₀ u).toList ++ rest))) : W p l e R s m args below meth c H locs cells slots Q (F0 m pc ls st0) :=
  wr_after (As := As) (g := F0 m pc ls st0) (va_runS (g := F0 m pc ls st0) S hM cw ⟨wr_blind, wr_pre hK hP hD hS hA hE isC hC hnC⟩ rfl hn hsize hstack (lv_room hW) hdg hf) hP hD hS hA isC isR hC hR hn1 hdis kk
theorem wr_a {Su : Type} {o₀ : Su → Option Value} {post : Su → Prop} {wn : Su → va_W} {v : Nat} {rt : FieldType} (u : Su) (hx : p.tables.exec = Jvm.exec) (hb : c.code = cc) (hr : meth.sig.returnType = some rt) (hrt : (∃ n, rt = .object n) ∨ ∃ t, rt = .array t) (hlocks : meth.locks = false) (hP : va_P D vwCl (wn u) H) (hD : va_D A (wn u)) (hS : va_S A s.heap H locs) (hdg : decode cc pc = .ok (.areturn, 1)) (h : some (.ref v) = o₀ u) (hq : post u) :
    W p l e R s m args below meth c H locs cells slots (MQ below (wx D tys A o₀ post wn) args s cells slots A) (F0 m pc ls [.ref v]) :=
  W.aret hx hb hr hrt (Or.inr ⟨v, rfl⟩) (fun t ht _ => ⟨u, by rw [h], hq, ⟨by rw [ht]; exact hP, hD⟩, hS.F ht⟩) hS.2.2 hdg hlocks
end WB2
/-- the rows' length behind growth; what it makes -/
def grL (cnt len : Nat) : Nat := if (cnt + 1) * 64 ≤ len then len else min (2 * len) 25600
def grS (cnt len : Nat) : Nat := if (cnt + 1) * 64 ≤ len then 0 else min (2 * len) 25600
/-- rows with the first i words of node cnt written -/
def rwF (fr : Nat → Int64) (cnt : Nat) (f : Nat → Int64) (i : Nat) : Nat → Int64 := fun j => if cnt * 64 ≤ j ∧ j < cnt * 64 + i then f (j - cnt * 64) else fr j
theorem rwF_0 {fr : Nat → Int64} {cnt : Nat} {f : Nat → Int64} : rwF fr cnt f 0 = fr := by
  funext j
  unfold rwF
  rw [if_neg (by omega)]
theorem rwF_up {fr : Nat → Int64} {cnt : Nat} {f : Nat → Int64} {i : Nat} (h : cnt * 64 + i < 2 ^ 31) {x : Int64} (hx : x = f i) : vp_updL (rwF fr cnt f i) (nI (cnt * 64 + i)).toNatClampNeg x = rwF fr cnt f (i + 1) := by
  rw [nI_clamp h, hx]
  funext j
  unfold vp_updL rwF
  by_cases h1 : j = cnt * 64 + i
  · subst h1
    rw [if_pos rfl, if_pos (by omega), show cnt * 64 + i - cnt * 64 = i by omega]
  · rw [if_neg h1]
    by_cases h2 : cnt * 64 ≤ j ∧ j < cnt * 64 + i
    · rw [if_pos h2, if_pos (by omega)]
    · rw [if_neg h2, if_neg (by omega)]
theorem rwF_lo {fr : Nat → Int64} {cnt : Nat} {f : Nat → Int64} {i j : Nat} (h : j < cnt * 64) : rwF fr cnt f i j = fr j := by
  unfold rwF; rw [if_neg (by omega)]
theorem rwF_hi {fr : Nat → Int64} {cnt : Nat} {f : Nat → Int64} {i w : Nat} (h : w < i) : rwF fr cnt f i (cnt * 64 + w) = f w := by
  unfold rwF; rw [if_pos (by omega), show cnt * 64 + w - cnt * 64 = w by omega]
theorem wd_congr {fr gr : Nat → Int64} {lit w : Nat} (h : fr (lit / 2 * 64 + w) = gr (lit / 2 * 64 + w)) : wd fr lit w = wd gr lit w := by unfold wd; rw [h]
theorem min_I {a b : Nat} (ha : a < 2 ^ 31) (hb : b < 2 ^ 31) : (if nI b < nI a then nI b else nI a) = nI (min a b) := by
  by_cases h : b < a
  · rw [if_pos (nI_lt h ha), Nat.min_eq_right (by omega)]
  · rw [if_neg (nI_nlt (by omega) hb), Nat.min_eq_left (by omega)]
