/-! The model: its eleven cells. -/
abbrev mW (hm q0 q1 q2 q3 q4 q5 q6 q7 q8 q9 : Nat) (cI cJ : ClassId) (th : Int32) (nd : Nat) (fs : Nat → Int32) (ft : Nat → Int64) (mi ml : Nat) (fl : Nat → Int32) (gS gX gT gC gO : Nat → Nat) (fD : Nat → Int32) (gE : Nat → Nat) (sp : Nat) (fa : Int32) : va_W :=
  [(hm, .inr (3, [.int th, .int (nI nd), .ref q0, .ref q1, .int (nI mi), .int (nI ml), .ref q2, .ref q3, .ref q4, .ref q5, .ref q6, .ref q7, .ref q8, .ref q9, .int (nI sp), .int fa])),
   (q0, .inl (cI, 401, .inl fs)), (q1, .inl (cJ, 25664, .inr (.inl ft))), (q2, .inl (cI, 4, .inl fl)), (q3, .inl (cI, 8, .inl (fun j => nI (gS j)))), (q4, .inl (cI, 8, .inl (fun j => nI (gX j)))), (q5, .inl (cI, 8, .inl (fun j => nI (gT j)))), (q6, .inl (cI, 2, .inl (fun j => nI (gC j)))), (q7, .inl (cI, 32, .inl (fun j => nI (gO j)))), (q8, .inl (cI, 32, .inl fD)), (q9, .inl (cI, 2, .inl (fun j => nI (gE j))))]
/-- the words of two literals are the same -/
def smF (ft : Nat → Int64) (a b : Nat) : Bool := (List.range 64).all fun w => decide (wd ft a w = wd ft b w)
theorem smF_t {ft : Nat → Int64} {a b : Nat} : smF ft a b = true ↔ ∀ w, w < 64 → wd ft a w = wd ft b w := by simp [smF]
theorem smF_n {ft : Nat → Int64} {a b w : Nat} (hw : w < 64) (h : ¬ wd ft a w = wd ft b w) : smF ft a b = false := by
  cases q : smF ft a b
  · rfl
  · exact absurd (smF_t.mp q w hw) h
theorem sm_w {ft : Nat → Int64} {a b w : Nat} {turn : Int64} (ht : turn = if a % 2 = b % 2 then 0 else -1) : ft (a / 2 * 64 + w) = ft (b / 2 * 64 + w) ^^^ turn ↔ wd ft a w = wd ft b w := by
  have nn : ∀ x : Int64, x ^^^ (-1) ^^^ (-1) = x := fun x => by rw [Int64.xor_assoc, show (-1 : Int64) ^^^ (-1) = 0 from rfl, Int64.xor_zero]
  have inj : ∀ x y : Int64, x ^^^ (-1) = y ^^^ (-1) → x = y := fun x y h => by rw [← nn x, h, nn]
  unfold wd
  rcases Nat.mod_two_eq_zero_or_one a with h1 | h1 <;> rcases Nat.mod_two_eq_zero_or_one b with h2 | h2 <;> rw [ht, h1, h2]
  · simp
  · simp
  · constructor
    · intro h; rw [show (if (1 : Nat) = 0 then (0 : Int64) else -1) = -1 from rfl] at h; simp only [if_true]; rw [h, nn]; rfl
    · intro h; simp only [if_true, show ((0 : Nat) = 1) = False by simp, if_false] at h; rw [← h, show (if (1 : Nat) = 0 then (0 : Int64) else -1) = -1 from rfl, nn]
  · constructor
    · intro h; simp only [if_true, Int64.xor_zero] at h; simp only [if_true]; rw [h]
    · intro h; simp only [if_true, Int64.xor_zero] at h ⊢; exact inj _ _ h
/-- from i on, at most n literals: the first that is the same -/
def fmF (ft : Nat → Int64) (lit : Nat) : Nat → Nat → Nat
  | 0, i => i
  | n + 1, i => if smF ft i lit = true then i else fmF ft lit n (i + 1)
/-- no lesser node is the same, turned or not -/
def lsF (ft : Nat → Int64) (n : Nat) : Bool := decide (∀ m, m < n → smF ft (2 * m) (2 * n) = false ∧ smF ft (2 * m + 1) (2 * n) = false)
def cM (ft : Nat → Int64) : Nat → Nat
  | 0 => 0
  | k + 1 => cM ft k + if lsF ft k = true then 1 else 0
def mM (fs : Nat → Int32) (ft : Nat → Int64) (sd : Int32) : Nat → Nat
  | 0 => 0
  | k + 1 => mM fs ft sd k + if fs k = sd ∧ lsF ft k = false then 1 else 0
/-- an assignment below a tells that a literal hangs on variable p -/
def hpF (ft : Nat → Int64) (lit p : Nat) : Nat → Bool
  | 0 => false
  | a + 1 => hpF ft lit p a || (bt ft lit a != bt ft lit (a ^^^ 2 ^ p))
def hmF (ft : Nat → Int64) (lit : Nat) : Nat → Nat
  | 0 => 0
  | p + 1 => hmF ft lit p ||| (if hpF ft lit p 4096 = true then 2 ^ p else 0)
/-- the mask of what is present -/
def prN (mi ml : Nat) : Nat := 2 ^ mi - 1 ||| (2 ^ ml - 1) * 256
theorem pr_key : ∀ mi, mi < 9 → ∀ ml, ml < 5 → (nI 1 <<< (nI mi &&& 31) - nI 1) ||| ((nI 1 <<< (nI ml &&& 31) - nI 1) <<< (nI 8 &&& 31)) = nI (prN mi ml) := by decide +kernel
theorem pr_lt : ∀ mi, mi < 9 → ∀ ml, ml < 5 → prN mi ml < 4096 := by decide +kernel
theorem ms_key : ∀ mi, mi < 9 → nI 1 <<< (nI mi &&& 31) - nI 1 = nI (2 ^ mi - 1) := by decide +kernel
/-- the ones of a literal in the assignments below a that are of what is present -/
def onM (ft : Nat → Int64) (lit pr : Nat) : Nat → Nat
  | 0 => 0
  | a + 1 => onM ft lit pr a + if a &&& pr = a then (bt ft lit a).toNat else 0
/-- whether a thing is apart -/
def apF (ft : Nat → Int64) (gO gX gS gC : Nat → Nat) (ml t : Nat) : Bool :=
  if t < 100 then decide (t < min (gC 0) (gC 1)) && !smF ft (gO t) (gO (16 + t))
  else if t < 200 then decide (t - 100 < ml) && !smF ft (gX (t - 100)) (gX (t - 96))
  else if t < 300 then decide (t - 200 < ml) && !decide (gS (t - 200) = gS (t - 196))
  else !decide (gC 0 = gC 1)
def isF (t : Nat) : Bool := decide (t < 16 ∨ (100 ≤ t ∧ t < 104) ∨ (200 ≤ t ∧ t < 204) ∨ t = 300)
/-- from thing t on, at most n: the one that is apart behind lf others -/
def deF (ap : Nat → Bool) : Nat → Nat → Nat → Int32
  | 0, _, _ => -1
  | n + 1, t, lf => if (isF t && ap t) = true then (if lf = 0 then nI t else deF ap n (t + 1) (lf - 1)) else deF ap n (t + 1) lf
/-- from assignment a on, at most n: the first that tells two literals apart -/
def wiF (ft : Nat → Int64) (la lb : Nat) : Nat → Nat → Int32
  | 0, _ => -1
  | n + 1, a => if bt ft la a = bt ft lb a then wiF ft la lb n (a + 1) else nI a
/-- a side's assignment: its inputs and the first k states -/
def asF (iv : Nat) (g : Nat → Nat) (o : Nat) : Nat → Nat
  | 0 => iv
  | k + 1 => asF iv g o k ||| g (o + k) * 2 ^ (8 + k)
theorem asF_lt (iv : Nat) (g : Nat → Nat) (o : Nat) (h1 : iv < 256) : ∀ k, (∀ j, j < k → g (o + j) < 2) → asF iv g o k < 2 ^ (8 + k)
  | 0, _ => h1
  | k + 1, h => by
    have a1 := asF_lt iv g o h1 k (fun j hj => h j (by omega))
    have a2 : 2 ^ (8 + k) < 2 ^ (8 + (k + 1)) := Nat.pow_lt_pow_right (by omega) (by omega)
    have a3 := h k (by omega)
    have a4 : g (o + k) * 2 ^ (8 + k) ≤ 1 * 2 ^ (8 + k) := Nat.mul_le_mul_right _ (by omega)
    unfold asF
    exact Nat.or_lt_two_pow (by omega) (by omega)
/-- what a step tells of a side: the first i outputs from place o on -/
def tdF (ft : Nat → Int64) (gO : Nat → Nat) (fD : Nat → Int32) (k o i : Nat) : Nat → Int32 := fun j => if o ≤ j ∧ j < o + i then zI (bt ft (gO j) k) else fD j
theorem tdF_0 {ft : Nat → Int64} {gO : Nat → Nat} {fD : Nat → Int32} {k o : Nat} : tdF ft gO fD k o 0 = fD := by
  funext j; unfold tdF; rw [if_neg (by omega)]
theorem tdF_up {ft : Nat → Int64} {gO : Nat → Nat} {fD : Nat → Int32} {k o i q : Nat} (hq : q = o + i) (h : q < 2 ^ 31) : upd (tdF ft gO fD k o i) (nI q).toNatClampNeg (zI (bt ft (gO q) k)) = tdF ft gO fD k o (i + 1) := by
  rw [nI_clamp h]; funext j; unfold upd tdF
  by_cases h1 : j = q
  · subst h1; rw [if_pos rfl, if_pos (by omega)]
  · rw [if_neg h1]
    by_cases h2 : o ≤ j ∧ j < o + i
    · rw [if_pos h2, if_pos (by omega)]
    · rw [if_neg h2, if_neg (by omega)]
/-- the states behind a step: the first i of a side -/
def tsF (ft : Nat → Int64) (gX gT : Nat → Nat) (k o i : Nat) : Nat → Nat := fun j => if o ≤ j ∧ j < o + i then (bt ft (gX j) k).toNat else gT j
theorem tsF_0 {ft : Nat → Int64} {gX gT : Nat → Nat} {k o : Nat} : tsF ft gX gT k o 0 = gT := by
  funext j; unfold tsF; rw [if_neg (by omega)]
theorem tsF_up {ft : Nat → Int64} {gX gT : Nat → Nat} {k o i q : Nat} (hq : q = o + i) (h : q < 2 ^ 31) : upd (fun j => nI (tsF ft gX gT k o i j)) (nI q).toNatClampNeg (nI (bt ft (gX q) k).toNat) = fun j => nI (tsF ft gX gT k o (i + 1) j) := by
  rw [nI_clamp h]; funext j; unfold upd tsF
  by_cases h1 : j = q
  · subst h1; rw [if_pos rfl, if_pos (by omega)]
  · rw [if_neg h1]
    show nI (if o ≤ j ∧ j < o + i then (bt ft (gX j) k).toNat else gT j) = nI (if o ≤ j ∧ j < o + (i + 1) then (bt ft (gX j) k).toNat else gT j)
    by_cases h2 : o ≤ j ∧ j < o + i
    · rw [if_pos h2, if_pos (by omega)]
    · rw [if_neg h2, if_neg (by omega)]
/-- the first i numbers of a list are another's -/
def cpF (g h : Nat → Nat) (i : Nat) : Nat → Nat := fun j => if j < i then g j else h j
theorem cpF_0 {g h : Nat → Nat} : cpF g h 0 = h := by funext j; unfold cpF; rw [if_neg (by omega)]
theorem cpF_up {g h : Nat → Nat} {i : Nat} (hi : i < 2 ^ 31) : upd (fun j => nI (cpF g h i j)) (nI i).toNatClampNeg (nI (g i)) = fun j => nI (cpF g h (i + 1) j) := by
  rw [nI_clamp hi]; funext j; unfold upd cpF
  by_cases h1 : j = i
  · subst h1; rw [if_pos rfl, if_pos (by omega)]
  · rw [if_neg h1]
    show nI (if j < i then g j else h j) = nI (if j < i + 1 then g j else h j)
    by_cases h2 : j < i
    · rw [if_pos h2, if_pos (by omega)]
    · rw [if_neg h2, if_neg (by omega)]
theorem zI_nat (b : Bool) : zI b = nI b.toNat := by cases b <;> rfl
theorem zI_inj {a b : Bool} : zI a = zI b ↔ a = b := by cases a <;> cases b <;> decide
theorem n_and (a b : Nat) : nI a &&& nI b = nI (a &&& b) := by
  apply Int32.toBitVec_inj.mp
  show BitVec.ofNat 32 a &&& BitVec.ofNat 32 b = BitVec.ofNat 32 (a &&& b)
  apply BitVec.eq_of_getLsbD_eq
  intro i hi
  simp [BitVec.getLsbD_ofNat, hi, Nat.testBit_and]
theorem n_and63 {a : Nat} (h : a < 2 ^ 31) : nI a &&& nI 63 = nI (a % 64) := pk_andN (by omega) 6 (by decide)
theorem n_mulc (a b : Nat) : nI a * nI b = nI (b * a) := (pk_mul _ _).trans (congrArg nI (Nat.mul_comm _ _))
/-- the bit of a literal, as the model takes it -/
theorem bit_m {ft : Nat → Int64} {lit a : Nat} : ((ft (lit / 2 * 64 + a / 64)).toUInt64 >>> ((nI (a % 64)).toInt64.toUInt64 &&& Int64.toUInt64 63)).toInt64.toInt32 &&& nI 1 = zI ((ft (lit / 2 * 64 + a / 64)).toBitVec.getLsbD (a % 64)) := bit_l _ (Nat.mod_lt _ (by omega))
theorem bit_x {ft : Nat → Int64} {lit a : Nat} : (((ft (lit / 2 * 64 + a / 64)).toUInt64 >>> ((nI (a % 64)).toInt64.toUInt64 &&& Int64.toUInt64 63)).toInt64 &&& 1).toInt32 ^^^ nI (lit % 2) = zI (bt ft lit a) := by
  rw [Int64.toInt32_and, show (1 : Int64).toInt32 = nI 1 from rfl, bit_m]
  unfold bt wd
  have hm : a % 64 < 64 := Nat.mod_lt _ (by omega)
  rcases Nat.mod_two_eq_zero_or_one lit with h | h <;> rw [h]
  · simp only [show ((0 : Nat) = 1) = False by simp, if_false]
    cases (ft (lit / 2 * 64 + a / 64)).toBitVec.getLsbD (a % 64) <;> decide
  · simp only [if_true]
    have e : (ft (lit / 2 * 64 + a / 64) ^^^ (-1)).toBitVec.getLsbD (a % 64) = !(ft (lit / 2 * 64 + a / 64)).toBitVec.getLsbD (a % 64) := by
      have h1 : (ft (lit / 2 * 64 + a / 64) ^^^ (-1)).toBitVec = (ft (lit / 2 * 64 + a / 64)).toBitVec ^^^ BitVec.allOnes 64 := rfl
      rw [h1, BitVec.getLsbD_xor, BitVec.getLsbD_allOnes]; simp [hm]
    rw [e]
    cases (ft (lit / 2 * 64 + a / 64)).toBitVec.getLsbD (a % 64) <;> decide
/-- word w of a variable, its assignments below a -/
def vpF (pl : Nat) : Nat → Nat → Int64
  | 0, _ => 0
  | a + 1, w => if w = a / 64 ∧ a / 2 ^ pl % 2 = 1 then vpF pl a w ||| (1 <<< ((nI (a % 64)).toInt64 &&& 63)) else vpF pl a w
theorem one_l : ∀ j, j < 64 → ((1 : Int64) <<< ((nI j).toInt64 &&& 63)).toBitVec = BitVec.twoPow 64 j := by decide +kernel
theorem vpF_bit (pl : Nat) (w b : Nat) (hb : b < 64) : ∀ a, (vpF pl a w).toBitVec.getLsbD b = decide (w * 64 + b < a ∧ (w * 64 + b) / 2 ^ pl % 2 = 1)
  | 0 => by simp [vpF]
  | a + 1 => by
    have ih := vpF_bit pl w b hb a
    unfold vpF
    split
    · rename_i h
      have e : (vpF pl a w ||| (1 <<< ((nI (a % 64)).toInt64 &&& 63))).toBitVec = (vpF pl a w).toBitVec ||| BitVec.twoPow 64 (a % 64) := by rw [← one_l (a % 64) (Nat.mod_lt _ (by omega))]; rfl
      rw [e, BitVec.getLsbD_or, ih, BitVec.getLsbD_twoPow]
      by_cases h2 : a % 64 = b
      · have h3 : w * 64 + b = a := by omega
        rw [h3]; simp [h2, hb, h.2]
      · have h3 : w * 64 + b ≠ a := by omega
        simp only [h2, decide_false, Bool.and_false, Bool.or_false]
        congr 1
        exact propext ⟨fun q => ⟨by omega, q.2⟩, fun q => ⟨by omega, q.2⟩⟩
    · rename_i h
      rw [ih]
      congr 1
      refine propext ⟨fun q => ⟨by omega, q.2⟩, fun q => ⟨?_, q.2⟩⟩
      by_cases h3 : w * 64 + b = a
      · exact absurd ⟨by omega, by rw [← h3]; exact q.2⟩ h
      · omega
theorem vw_bits : ∀ p, p < 12 → ∀ w, w < 64 → ∀ b, b < 64 → (vwF p w).toBitVec.getLsbD b = decide ((w * 64 + b) / 2 ^ p % 2 = 1) := by decide +kernel
theorem vpF_all {pl w : Nat} (hp : pl < 12) (hw : w < 64) : vpF pl 4096 w = vwF pl w := by
  apply Int64.toBitVec_inj.mp
  apply BitVec.eq_of_getLsbD_eq
  intro b hb
  rw [vpF_bit pl w b hb, vw_bits pl hp w hw b hb]
  congr 1
  exact propext ⟨fun q => q.2, fun q => ⟨by omega, q⟩⟩
theorem rw_ext {fr : Nat → Int64} {cnt i : Nat} {f g : Nat → Int64} (h : ∀ w, w < i → f w = g w) : rwF fr cnt f i = rwF fr cnt g i := by
  funext j; unfold rwF
  by_cases h2 : cnt * 64 ≤ j ∧ j < cnt * 64 + i
  · rw [if_pos h2, if_pos h2, h _ (by omega)]
  · rw [if_neg h2, if_neg h2]
theorem rw_vp {ft : Nat → Int64} {nd pl a : Nat} (ha : a < 4096) (hnd : nd * 64 + 64 < 2 ^ 31) (h1 : a / 2 ^ pl % 2 = 1) :
    vp_updL (rwF ft nd (vpF pl a) 64) (nI (nd * 64 + a / 64)).toNatClampNeg (rwF ft nd (vpF pl a) 64 (nd * 64 + a / 64) ||| (1 <<< ((nI (a % 64)).toInt64 &&& 63))) = rwF ft nd (vpF pl (a + 1)) 64 := by
  have hq : a / 64 < 64 := by omega
  rw [nI_clamp (by omega), rwF_hi hq]
  funext j
  unfold vp_updL
  by_cases h2 : j = nd * 64 + a / 64
  · subst h2
    rw [if_pos rfl, rwF_hi hq]
    exact (if_pos ⟨rfl, h1⟩).symm
  · rw [if_neg h2]
    unfold rwF
    by_cases h3 : nd * 64 ≤ j ∧ j < nd * 64 + 64
    · rw [if_pos h3, if_pos h3]
      exact (if_neg (fun q => h2 (by omega))).symm
    · rw [if_neg h3, if_neg h3]
theorem rw_vq {ft : Nat → Int64} {nd pl a : Nat} (h1 : ¬ a / 2 ^ pl % 2 = 1) : rwF ft nd (vpF pl (a + 1)) 64 = rwF ft nd (vpF pl a) 64 := by
  apply rw_ext
  intro w _
  exact if_neg (fun q => h1 q.2)
section WZ
variable {p : Program} {l : Launch} {e : Env} {R : Room} {s : State} {m : MethodId} {args : Array Value} {below : List Frame} {meth : Method} {c : Code} {H : Heap} {locs : List Loc} {cells slots : Nat}
variable {cc : ByteArray} {pc : Nat} {ls : Array Slot} {D : va_G} {tys : List (ClassId × FieldType)} {A : Nat → Prop}
theorem wr_z {Su : Type} {o₀ : Su → Option Value} {post : Su → Prop} {wn : Su → va_W} {v : Int32} (u : Su) (hx : p.tables.exec = Jvm.exec) (hb : c.code = cc) (hr : meth.sig.returnType = some .boolean) (hlocks : meth.locks = false) (hP : va_P D vwCl (wn u) H) (hD : va_D A (wn u)) (hS : va_S A s.heap H locs) (hdg : decode cc pc = .ok (.ireturn, 1)) (h : some (.int v) = o₀ u) (hq : post u) (h01 : v = 0 ∨ v = 1) :
    W p l e R s m args below meth c H locs cells slots (MQ below (wx D tys A o₀ post wn) args s cells slots A) (F0 m pc ls [.int v]) :=
  W.zret hx hb hr (by rcases h01 with h | h <;> rw [h] <;> rfl) (fun t ht _ => ⟨u, by rw [h], hq, ⟨by rw [ht]; exact hP, hD⟩, hS.F ht⟩) hS.2.2 hdg hlocks
end WZ
