/-! Trailing zeros: the least bit that is set. -/
/-- from i on, at most n places: the first at which f is true (i + n where there is none) -/
def tz (f : Nat → Bool) : Nat → Nat → Nat
  | 0, i => i
  | n + 1, i => if f i then i else tz f n (i + 1)
theorem tz_spec (f : Nat → Bool) : ∀ n i, i ≤ tz f n i ∧ tz f n i ≤ i + n ∧ (∀ j, i ≤ j → j < tz f n i → f j = false) ∧ (tz f n i < i + n → f (tz f n i) = true)
  | 0, i => ⟨Nat.le_refl _, Nat.le_refl _, fun j h1 h2 => absurd h2 (Nat.not_lt.mpr h1), fun h => absurd h (Nat.lt_irrefl _)⟩
  | n + 1, i => by
    unfold tz
    by_cases h : f i = true
    · rw [if_pos h]
      exact ⟨Nat.le_refl _, by omega, fun j h1 h2 => absurd h2 (Nat.not_lt.mpr h1), fun _ => h⟩
    · rw [if_neg h]
      obtain ⟨a1, a2, a3, a4⟩ := tz_spec f n (i + 1)
      refine ⟨by omega, by omega, fun j h1 h2 => ?_, fun h => a4 (by omega)⟩
      by_cases hj : j = i
      · subst hj; simpa using h
      · exact a3 j (by omega) h2
theorem tz_eq {f : Nat → Bool} {n t : Nat} (h1 : t ≤ n) (h2 : ∀ j, j < t → f j = false) (h3 : t < n → f t = true) : tz f n 0 = t := by
  obtain ⟨-, a2, a3, a4⟩ := tz_spec f n 0
  rcases Nat.lt_trichotomy (tz f n 0) t with h | h | h
  · have := a4 (by omega)
    rw [h2 _ h] at this; cases this
  · exact h
  · have := a3 t (Nat.zero_le _) h
    rw [h3 (by omega)] at this; cases this
theorem tz_le (f : Nat → Bool) (n : Nat) : tz f n 0 ≤ n := by have := (tz_spec f n 0).2.1; omega
/-- ones below the place t -/
def kz (t : Nat) : Int32 := if t = 32 then -1 else nI (2 ^ t - 1)
/-- not x, and x less one: the ones below the least bit of x -/
theorem kz_key (x : Int32) : (x ^^^ (-1)) &&& (x - nI 1) = kz (tz x.toBitVec.getLsbD 32 0) := by
  obtain ⟨-, a2, a3, a4⟩ := tz_spec x.toBitVec.getLsbD 32 0
  generalize tz x.toBitVec.getLsbD 32 0 = t at a2 a3 a4
  have e0 : ((x ^^^ (-1)) &&& (x - nI 1)).toBitVec = (x.toBitVec ^^^ BitVec.allOnes 32) &&& (x.toBitVec - 1#32) := rfl
  have key : ((x ^^^ (-1)) &&& (x - nI 1)).toBitVec = (kz t).toBitVec := by
    rw [e0]
    generalize x.toBitVec = X at a3 a4
    by_cases ht : t = 32
    · have hX : X = 0#32 := by
        apply BitVec.eq_of_getLsbD_eq
        intro i hi
        rw [a3 i (Nat.zero_le _) (by omega)]
        simp
      rw [hX, ht]
      decide
    · have htl : t < 32 := by omega
      have hb := a4 (by omega)
      have e1 : (kz t).toBitVec = BitVec.ofNat 32 (2 ^ t - 1) := by
        unfold kz; rw [if_neg ht]; rfl
      rw [e1]
      have hlow : ∀ j, j < t → X.toNat.testBit j = false := fun j hj => a3 j (Nat.zero_le _) hj
      have hbit : X.toNat.testBit t = true := hb
      have hmod : X.toNat % 2 ^ t = 0 := by
        apply Nat.eq_of_testBit_eq
        intro i
        rw [Nat.testBit_mod_two_pow, Nat.zero_testBit]
        by_cases hi : i < t
        · simp [hlow i hi]
        · simp [hi]
      have hodd : X.toNat / 2 ^ t % 2 = 1 := by
        rw [Nat.testBit_eq_decide_div_mod_eq] at hbit
        simpa using hbit
      obtain ⟨k, hk⟩ : ∃ k, X.toNat / 2 ^ t = 2 * k + 1 := ⟨X.toNat / 2 ^ t / 2, by omega⟩
      have hX : X.toNat = 2 ^ (t + 1) * k + 2 ^ t := by
        have h9 := Nat.div_add_mod X.toNat (2 ^ t)
        rw [hmod, hk] at h9
        rw [Nat.pow_succ, ← h9, Nat.mul_add, Nat.mul_one, Nat.add_zero, Nat.mul_assoc]
      have hpos : 0 < 2 ^ t := Nat.two_pow_pos t
      have hlt : 2 ^ t < 2 ^ (t + 1) := by rw [Nat.pow_succ]; omega
      have hlt32 := X.isLt
      have hsub : (X - 1#32).toNat = 2 ^ (t + 1) * k + (2 ^ t - 1) := by
        rw [BitVec.toNat_sub]
        simp only [BitVec.toNat_ofNat]
        rw [hX] at hlt32 ⊢
        omega
      apply BitVec.eq_of_getLsbD_eq
      intro i hi
      rw [BitVec.getLsbD_and, BitVec.getLsbD_xor, BitVec.getLsbD_allOnes, BitVec.getLsbD_ofNat, Nat.testBit_two_pow_sub_one]
      have g1 : (X - 1#32).getLsbD i = (2 ^ (t + 1) * k + (2 ^ t - 1)).testBit i := by rw [← hsub]; rfl
      have g2 : X.getLsbD i = (2 ^ (t + 1) * k + 2 ^ t).testBit i := by rw [← hX]; rfl
      rw [g1, g2, Nat.testBit_two_pow_mul_add _ hlt, Nat.testBit_two_pow_mul_add _ (show 2 ^ t - 1 < 2 ^ (t + 1) by omega), Nat.testBit_two_pow_sub_one]
      rcases Nat.lt_trichotomy i t with h | h | h
      · simp [hi, h, show i < t + 1 by omega, Nat.testBit_two_pow, show ¬ t = i by omega]
      · subst h; simp [hi, Nat.testBit_two_pow]
      · simp [hi, show ¬ i < t + 1 by omega, show ¬ i < t by omega]
  exact Int32.toBitVec_inj.mp key
/-- the low half's bits, the high half's bits -/
theorem lo_bit (x : Int64) {j : Nat} (hj : j < 32) : x.toInt32.toBitVec.getLsbD j = x.toBitVec.getLsbD j := by
  show (x.toBitVec.signExtend 32).getLsbD j = _
  rw [BitVec.getLsbD_signExtend]
  simp [hj, show j < 64 by omega]
theorem hi_bit (x : Int64) {j : Nat} (hj : j < 32) : (x.toUInt64 >>> ((nI 32).toInt64.toUInt64 &&& Int64.toUInt64 63)).toInt64.toInt32.toBitVec.getLsbD j = x.toBitVec.getLsbD (32 + j) := by
  rw [lo_bit _ hj]
  show (x.toBitVec >>> (((nI 32).toInt64.toUInt64 &&& Int64.toUInt64 63).toBitVec % 64#64)).getLsbD j = _
  have e : (((nI 32).toInt64.toUInt64 &&& Int64.toUInt64 63).toBitVec % 64#64).toNat = 32 := by decide +kernel
  rw [show (x.toBitVec >>> (((nI 32).toInt64.toUInt64 &&& Int64.toUInt64 63).toBitVec % 64#64)) = x.toBitVec >>> (((nI 32).toInt64.toUInt64 &&& Int64.toUInt64 63).toBitVec % 64#64).toNat from rfl, e, BitVec.getLsbD_ushiftRight]
theorem tz_lo (x : Int64) (h : ¬ x.toInt32 = 0) : tz x.toInt32.toBitVec.getLsbD 32 0 = tz x.toBitVec.getLsbD 64 0 := by
  obtain ⟨-, a2, a3, a4⟩ := tz_spec x.toInt32.toBitVec.getLsbD 32 0
  have hlt : tz x.toInt32.toBitVec.getLsbD 32 0 < 32 := by
    rcases Nat.lt_or_ge (tz x.toInt32.toBitVec.getLsbD 32 0) 32 with q | q
    · exact q
    · refine absurd (Int32.toBitVec_inj.mp (?_ : x.toInt32.toBitVec = (0 : Int32).toBitVec)) h
      apply BitVec.eq_of_getLsbD_eq
      intro i hi
      rw [a3 i (Nat.zero_le _) (by omega)]
      show false = (0#32).getLsbD i
      simp
  refine (tz_eq (by omega) (fun j hj => ?_) (fun _ => ?_)).symm
  · rw [← lo_bit x (by omega)]; exact a3 j (Nat.zero_le _) hj
  · rw [← lo_bit x hlt]; exact a4 (by omega)
theorem tz_hi (x : Int64) (h : x.toInt32 = 0) : 32 + tz (x.toUInt64 >>> ((nI 32).toInt64.toUInt64 &&& Int64.toUInt64 63)).toInt64.toInt32.toBitVec.getLsbD 32 0 = tz x.toBitVec.getLsbD 64 0 := by
  obtain ⟨-, a2, a3, a4⟩ := tz_spec (x.toUInt64 >>> ((nI 32).toInt64.toUInt64 &&& Int64.toUInt64 63)).toInt64.toInt32.toBitVec.getLsbD 32 0
  generalize hT : tz (x.toUInt64 >>> ((nI 32).toInt64.toUInt64 &&& Int64.toUInt64 63)).toInt64.toInt32.toBitVec.getLsbD 32 0 = t at a2 a3 a4 ⊢
  refine (tz_eq (by omega) (fun j hj => ?_) (fun h9 => ?_)).symm
  · by_cases hj2 : j < 32
    · rw [← lo_bit x hj2, h]
      show (0#32).getLsbD j = false
      simp
    · have := a3 (j - 32) (Nat.zero_le _) (by omega)
      rw [hi_bit x (by omega)] at this
      rw [← this]; congr 1; omega
  · have := a4 (by omega)
    rw [hi_bit x (by omega)] at this
    exact this
