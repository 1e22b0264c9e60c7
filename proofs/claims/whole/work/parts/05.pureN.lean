/-! The words of Nodes: its cells, a literal's words and bits, counts. -/
/-- Nodes and its four arrays -/
abbrev nW (hn ow fi ma ro : Nat) (cI cJ : ClassId) (cnt len : Nat) (fo ff : Nat → Int32) (fk fr : Nat → Int64) : va_W :=
  [(hn, .inr (1, [.int (nI cnt), .ref ow, .ref fi, .ref ma, .ref ro])), (ow, .inl (cI, 400, .inl fo)), (fi, .inl (cI, 400, .inl ff)), (ma, .inl (cJ, 400, .inr (.inl fk))), (ro, .inl (cJ, len, .inr (.inl fr)))]
/-- word w of a literal -/
def wd (fr : Nat → Int64) (lit w : Nat) : Int64 := if lit % 2 = 1 then fr (lit / 2 * 64 + w) ^^^ (-1) else fr (lit / 2 * 64 + w)
/-- the value of a literal in assignment k -/
def bt (fr : Nat → Int64) (lit k : Nat) : Bool := (wd fr lit (k / 64)).toBitVec.getLsbD (k % 64)
/-- the first of a literal, as the table of firsts has it -/
def fs1 (ff : Nat → Int32) (lit : Nat) : Int32 := ff (lit / 2) ^^^ nI (lit % 2)
/-- how many of the first k nodes are ANDs of a side -/
def cAnd (fo : Nat → Int32) (sd : Int32) : Nat → Nat
  | 0 => 0
  | k + 1 => cAnd fo sd k + if fo k = sd then 1 else 0
/-- how many of the first k nodes are the least of their class -/
def cCls (ff : Nat → Int32) : Nat → Nat
  | 0 => 0
  | k + 1 => cCls ff k + if ff k = nI (2 * k) then 1 else 0
/-- how many of the first k nodes are ANDs of a side and not the least -/
def cMer (fo ff : Nat → Int32) (sd : Int32) : Nat → Nat
  | 0 => 0
  | k + 1 => cMer fo ff sd k + if fo k = sd ∧ ¬ ff k = nI (2 * k) then 1 else 0
theorem cAnd_le (fo : Nat → Int32) (sd : Int32) : ∀ k, cAnd fo sd k ≤ k
  | 0 => Nat.le_refl 0
  | k + 1 => by have := cAnd_le fo sd k; unfold cAnd; split <;> omega
theorem cCls_le (ff : Nat → Int32) : ∀ k, cCls ff k ≤ k
  | 0 => Nat.le_refl 0
  | k + 1 => by have := cCls_le ff k; unfold cCls; split <;> omega
theorem cMer_le (fo ff : Nat → Int32) (sd : Int32) : ∀ k, cMer fo ff sd k ≤ k
  | 0 => Nat.le_refl 0
  | k + 1 => by have := cMer_le fo ff sd k; unfold cMer; split <;> omega
theorem nI_one : nI 1 = 1 := rfl
theorem nI_zero : nI 0 = 0 := rfl
/-- the bit j of a word, as Java takes it -/
theorem bit_l (x : Int64) {j : Nat} (hj : j < 64) : (x.toUInt64 >>> ((nI j).toInt64.toUInt64 &&& Int64.toUInt64 63)).toInt64.toInt32 &&& nI 1 = zI (x.toBitVec.getLsbD j) := by
  have key : ∀ j, j < 64 → (((nI j).toInt64.toUInt64 &&& Int64.toUInt64 63).toBitVec % 64#64).toNat = j := by decide +kernel
  have hz : ∀ y : Int32, y &&& 1 = zI (y.toBitVec.getLsbD 0) := by
    intro y
    have h1 : (y &&& 1).toBitVec = (zI (y.toBitVec.getLsbD 0)).toBitVec := by
      apply BitVec.eq_of_getLsbD_eq
      intro i hi
      have e1 : (y &&& 1).toBitVec = y.toBitVec &&& 1#32 := rfl
      rw [e1, BitVec.getLsbD_and]
      cases h : y.toBitVec.getLsbD 0
      · have : (zI false).toBitVec = 0#32 := rfl
        rw [this]
        by_cases h0 : i = 0
        · subst h0; rw [h]; rfl
        · simp [h0, BitVec.getLsbD_one]
      · have : (zI true).toBitVec = 1#32 := rfl
        rw [this]
        by_cases h0 : i = 0
        · subst h0; rw [h]; rfl
        · simp [h0, BitVec.getLsbD_one]
    exact Int32.toBitVec_inj.mp h1
  rw [nI_one, hz]
  congr 1
  show ((x.toUInt64 >>> ((nI j).toInt64.toUInt64 &&& Int64.toUInt64 63)).toBitVec.signExtend 32).getLsbD 0 = _
  rw [show ((x.toUInt64 >>> ((nI j).toInt64.toUInt64 &&& Int64.toUInt64 63)).toBitVec) = x.toBitVec >>> (((nI j).toInt64.toUInt64 &&& Int64.toUInt64 63).toBitVec % 64#64).toNat from rfl, key j hj]
  rw [BitVec.getLsbD_signExtend, BitVec.getLsbD_ushiftRight]
  simp
