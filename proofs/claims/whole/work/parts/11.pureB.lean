/-! How many bits are set: the JDK's bitCount, byte by byte. -/
/-- how many of the first n places are true -/
def pc (f : Nat → Bool) : Nat → Nat
  | 0 => 0
  | n + 1 => pc f n + (f n).toNat
theorem pc_le (f : Nat → Bool) : ∀ n, pc f n ≤ n
  | 0 => Nat.le_refl 0
  | n + 1 => by have := pc_le f n; unfold pc; have := Bool.toNat_le (f n); omega
/-- bytes, the lowest first, as a number -/
def hz : List Nat → Nat
  | [] => 0
  | v :: t => v + 256 * hz t
theorem hz_lt : ∀ l : List Nat, (∀ v ∈ l, v < 256) → hz l < 256 ^ l.length
  | [], _ => by simp [hz]
  | v :: t, h => by
    have h1 := hz_lt t (fun w hw => h w (List.mem_cons_of_mem _ hw))
    have h2 := h v List.mem_cons_self
    simp only [hz, List.length_cons, Nat.pow_succ]
    omega
theorem and_split {k a b m n : Nat} (ha : a < 2 ^ k) (hm : m < 2 ^ k) : (2 ^ k * b + a) &&& (2 ^ k * n + m) = 2 ^ k * (b &&& n) + (a &&& m) := by
  apply Nat.eq_of_testBit_eq
  intro i
  have h3 : a &&& m < 2 ^ k := Nat.lt_of_le_of_lt Nat.and_le_left ha
  rw [Nat.testBit_and, Nat.testBit_two_pow_mul_add _ ha, Nat.testBit_two_pow_mul_add _ hm, Nat.testBit_two_pow_mul_add _ h3]
  split <;> simp [Nat.testBit_and]
theorem hz_and {m : Nat} (hm : m < 256) : ∀ l : List Nat, (∀ v ∈ l, v < 256) → hz l &&& hz (l.map fun _ => m) = hz (l.map fun v => v &&& m)
  | [], _ => by simp [hz]
  | v :: t, h => by
    have h1 := hz_and hm t (fun w hw => h w (List.mem_cons_of_mem _ hw))
    have h2 := h v List.mem_cons_self
    have := and_split (k := 8) (a := v) (b := hz t) (m := m) (n := hz (t.map fun _ => m)) h2 hm
    simp only [List.map_cons, hz]
    rw [Nat.add_comm v, Nat.add_comm m, show (256 : Nat) = 2 ^ 8 from rfl, this, h1, Nat.add_comm]
/-- a shift by less than a byte under a mask that has no bit where the next byte comes in -/
theorem hz_shr {j m : Nat} (hj : j ≤ 8) (hm : m < 2 ^ (8 - j)) : ∀ l : List Nat, (∀ v ∈ l, v < 256) → hz l / 2 ^ j &&& hz (l.map fun _ => m) = hz (l.map fun v => v / 2 ^ j &&& m)
  | [], _ => by simp [hz]
  | v :: t, h => by
    have h1 := hz_shr hj hm t (fun w hw => h w (List.mem_cons_of_mem _ hw))
    have h2 := h v List.mem_cons_self
    have hp : 2 ^ (8 - j) * 2 ^ j = 256 := by rw [← Nat.pow_add, show 8 - j + j = 8 by omega]
    have hj0 : 0 < 2 ^ j := Nat.two_pow_pos j
    have hv : v / 2 ^ j < 2 ^ (8 - j) := by
      rw [Nat.div_lt_iff_lt_mul hj0, hp]; exact h2
    have e1 : (v + 256 * hz t) / 2 ^ j = 2 ^ (8 - j) * hz t + v / 2 ^ j := by
      rw [← hp, show v + 2 ^ (8 - j) * 2 ^ j * hz t = v + 2 ^ j * (2 ^ (8 - j) * hz t) by rw [Nat.mul_comm (2 ^ (8 - j)) (2 ^ j), Nat.mul_assoc], Nat.add_mul_div_left _ _ hj0, Nat.add_comm]
    have e2 : m + 256 * hz (t.map fun _ => m) = 2 ^ (8 - j) * (2 ^ j * hz (t.map fun _ => m)) + m := by
      rw [← Nat.mul_assoc, hp, Nat.add_comm]
    simp only [List.map_cons, hz]
    rw [e1, e2, and_split hv hm]
    have e3 : hz t &&& 2 ^ j * hz (t.map fun _ => m) = 2 ^ j * (hz t / 2 ^ j &&& hz (t.map fun _ => m)) := by
      apply Nat.eq_of_testBit_eq
      intro i
      rw [Nat.testBit_and, Nat.testBit_two_pow_mul, Nat.testBit_two_pow_mul, Nat.testBit_and, Nat.testBit_div_two_pow]
      by_cases hi : i ≥ j
      · simp [hi]
      · simp [hi]
    rw [e3, h1, ← Nat.mul_assoc, hp, Nat.add_comm]
theorem hz_sub : ∀ l : List (Nat × Nat), (∀ v ∈ l, v.2 ≤ v.1) → hz (l.map fun v => v.2) ≤ hz (l.map fun v => v.1) ∧ hz (l.map fun v => v.1) - hz (l.map fun v => v.2) = hz (l.map fun v => v.1 - v.2)
  | [], _ => by simp [hz]
  | v :: t, h => by
    have h1 := hz_sub t (fun w hw => h w (List.mem_cons_of_mem _ hw))
    have h2 := h v List.mem_cons_self
    simp only [List.map_cons, hz]
    omega
theorem hz_add : ∀ l : List (Nat × Nat), hz (l.map fun v => v.1) + hz (l.map fun v => v.2) = hz (l.map fun v => v.1 + v.2)
  | [] => by simp [hz]
  | v :: t => by
    have h1 := hz_add t
    simp only [List.map_cons, hz]
    omega
theorem hz_div {v : Nat} {t : List Nat} (h : v < 256) : hz (v :: t) / 256 = hz t := by simp only [hz]; omega
theorem hz_mod {v : Nat} {t : List Nat} (h : v < 256) : hz (v :: t) % 256 = v := by simp only [hz]; omega
/-- a byte's bits -/
def p8 (v : Nat) : Nat := v % 2 + v / 2 % 2 + v / 4 % 2 + v / 8 % 2 + v / 16 % 2 + v / 32 % 2 + v / 64 % 2 + v / 128 % 2
def p8a (v : Nat) : Nat := v - (v / 2 ^ 1 &&& 0x55)
def p8b (v : Nat) : Nat := (p8a v &&& 0x33) + (p8a v / 2 ^ 2 &&& 0x33)
theorem p8_a : ∀ v, v < 256 → (v / 2 ^ 1 &&& 0x55) ≤ v ∧ p8a v < 256 ∧ p8b v < 256 ∧ p8b v % 16 ≤ 4 ∧ p8b v / 16 ≤ 4 ∧ (p8b v % 16 + p8b v / 16) = p8 v ∧ p8 v ≤ 8 := by decide +kernel
theorem hz8 {X : Nat} (h : X < 2 ^ 64) : X = hz [X % 256, X / 256 % 256, X / 65536 % 256, X / 16777216 % 256, X / 4294967296 % 256, X / 1099511627776 % 256, X / 281474976710656 % 256, X / 72057594037927936 % 256] := by
  simp only [hz]; omega
/-- the JDK's sum, on numbers -/
def bcA (X : Nat) : Nat := X - (X / 2 ^ 1 &&& 6148914691236517205)
def bcB (a : Nat) : Nat := (a &&& 3689348814741910323) + (a / 2 ^ 2 &&& 3689348814741910323)
def bcC (b : Nat) : Nat := b + b / 2 ^ 4 &&& 1085102592571150095
theorem bc_A (l : List Nat) (hl : l.length = 8) (h : ∀ v ∈ l, v < 256) : (hz l / 2 ^ 1 &&& 6148914691236517205) ≤ hz l ∧ bcA (hz l) = hz (l.map p8a) := by
  have e : hz (l.map fun _ => 0x55) = 6148914691236517205 := by
    match l, hl with
    | [_, _, _, _, _, _, _, _], _ => simp [hz]
  have h1 := hz_shr (j := 1) (m := 0x55) (by decide) (by decide) l h
  rw [e] at h1
  have h2 := hz_sub (l.map fun v => (v, v / 2 ^ 1 &&& 0x55)) (fun v hv => by
    obtain ⟨w, hw, rfl⟩ := List.mem_map.mp hv
    exact (p8_a w (h w hw)).1)
  simp only [List.map_map, Function.comp_def, List.map_id'] at h2
  unfold bcA
  rw [h1]
  exact h2
theorem bc_B (l : List Nat) (hl : l.length = 8) (h : ∀ v ∈ l, v < 256) : bcB (hz (l.map p8a)) = hz (l.map p8b) := by
  have e : hz ((l.map p8a).map fun _ => 0x33) = 3689348814741910323 := by
    match l, hl with
    | [_, _, _, _, _, _, _, _], _ => simp [hz]
  have ha : ∀ v ∈ l.map p8a, v < 256 := fun v hv => by
    obtain ⟨w, hw, rfl⟩ := List.mem_map.mp hv
    exact (p8_a w (h w hw)).2.1
  have h1 := hz_and (m := 0x33) (by decide) (l.map p8a) ha
  have h2 := hz_shr (j := 2) (m := 0x33) (by decide) (by decide) (l.map p8a) ha
  rw [e] at h1 h2
  unfold bcB
  rw [h1, h2]
  have h3 := hz_add (l.map fun v => (p8a v &&& 0x33, p8a v / 2 ^ 2 &&& 0x33))
  simp only [List.map_map, Function.comp_def] at h3 ⊢
  exact h3
theorem hz_nib : ∀ l : List Nat, (∀ v ∈ l, v % 16 ≤ 4 ∧ v / 16 ≤ 4) → hz l + hz l / 2 ^ 4 &&& hz (l.map fun _ => 15) = hz (l.map fun v => v % 16 + v / 16)
  | [], _ => by simp [hz]
  | v :: t, h => by
    have h1 := hz_nib t (fun w hw => h w (List.mem_cons_of_mem _ hw))
    have h2 := h v List.mem_cons_self
    have ht : hz t % 16 ≤ 4 := by
      cases t with
      | nil => simp [hz]
      | cons u t => have := h u (List.mem_cons_of_mem _ List.mem_cons_self); simp only [hz]; omega
    have hs := and_split (k := 8) (a := v + v / 16 + 16 * (hz t % 16)) (b := hz t + hz t / 2 ^ 4) (m := 15) (n := hz (t.map fun _ => 15)) (by omega) (by decide)
    have e3 : (v + v / 16 + 16 * (hz t % 16)) &&& 15 = v % 16 + v / 16 := by
      rw [show (15 : Nat) = 2 ^ 4 - 1 from rfl, Nat.and_two_pow_sub_one_eq_mod]
      omega
    simp only [List.map_cons, hz]
    rw [show v + 256 * hz t + (v + 256 * hz t) / 2 ^ 4 = 2 ^ 8 * (hz t + hz t / 2 ^ 4) + (v + v / 16 + 16 * (hz t % 16)) by omega, show 15 + 256 * hz (t.map fun _ => 15) = 2 ^ 8 * hz (t.map fun _ => 15) + 15 by omega, hs, h1, e3]
    omega
theorem bc_C (l : List Nat) (hl : l.length = 8) (h : ∀ v ∈ l, v < 256) : bcC (hz (l.map p8b)) = hz (l.map p8) := by
  have e : hz ((l.map p8b).map fun _ => 15) = 1085102592571150095 := by
    match l, hl with
    | [_, _, _, _, _, _, _, _], _ => simp [hz]
  have h1 := hz_nib (l.map p8b) (fun v hv => by
    obtain ⟨w, hw, rfl⟩ := List.mem_map.mp hv
    have := p8_a w (h w hw)
    exact ⟨this.2.2.2.1, this.2.2.2.2.1⟩)
  rw [e] at h1
  unfold bcC
  rw [h1, List.map_map]
  congr 1
  apply List.map_congr_left
  intro w hw
  exact (p8_a w (h w hw)).2.2.2.2.2.1
theorem bc_sum {p0 p1 p2 p3 p4 p5 p6 p7 C d e f : Nat} (h0 : p0 ≤ 8) (h1 : p1 ≤ 8) (h2 : p2 ≤ 8) (h3 : p3 ≤ 8) (h4 : p4 ≤ 8) (h5 : p5 ≤ 8) (h6 : p6 ≤ 8) (h7 : p7 ≤ 8)
    (hC : C = hz [p0, p1, p2, p3, p4, p5, p6, p7]) (hd : d = C + C / 2 ^ 8) (he : e = d + d / 2 ^ 16) (hf : f = e + e / 2 ^ 32) : C < 2 ^ 63 ∧ d < 2 ^ 63 ∧ e < 2 ^ 63 ∧ f < 2 ^ 64 ∧ f % 128 = p0 + p1 + p2 + p3 + p4 + p5 + p6 + p7 := by
  have d1 : C / 2 ^ 8 = hz [p1, p2, p3, p4, p5, p6, p7] := by rw [hC]; exact hz_div (by omega)
  have d2 : d = hz [p0 + p1, p1 + p2, p2 + p3, p3 + p4, p4 + p5, p5 + p6, p6 + p7, p7] := by rw [hd, d1, hC]; simp only [hz]; omega
  have d3 : d / 2 ^ 16 = hz [p2 + p3, p3 + p4, p4 + p5, p5 + p6, p6 + p7, p7] := by
    rw [d2, show (2 : Nat) ^ 16 = 256 * 256 from rfl, ← Nat.div_div_eq_div_mul, hz_div (by omega), hz_div (by omega)]
  have e2 : e = hz [p0 + p1 + (p2 + p3), p1 + p2 + (p3 + p4), p2 + p3 + (p4 + p5), p3 + p4 + (p5 + p6), p4 + p5 + (p6 + p7), p5 + p6 + p7, p6 + p7, p7] := by rw [he, d3, d2]; simp only [hz]; omega
  have e3 : e / 2 ^ 32 = hz [p4 + p5 + (p6 + p7), p5 + p6 + p7, p6 + p7, p7] := by
    rw [e2, show (2 : Nat) ^ 32 = 256 * 256 * 256 * 256 from rfl, ← Nat.div_div_eq_div_mul, ← Nat.div_div_eq_div_mul, ← Nat.div_div_eq_div_mul, hz_div (by omega), hz_div (by omega), hz_div (by omega), hz_div (by omega)]
  have c2 : C < 2 ^ 63 := by rw [hC]; simp only [hz]; omega
  have c3 : d < 2 ^ 63 := by rw [d2]; simp only [hz]; omega
  have c4 : e < 2 ^ 63 := by rw [e2]; simp only [hz]; omega
  have f2 : f = hz [p0 + p1 + (p2 + p3) + (p4 + p5 + (p6 + p7)), p1 + p2 + (p3 + p4) + (p5 + p6 + p7), p2 + p3 + (p4 + p5) + (p6 + p7), p3 + p4 + (p5 + p6) + p7, p4 + p5 + (p6 + p7), p5 + p6 + p7, p6 + p7, p7] := by rw [hf, e3, e2]; simp only [hz]; omega
  refine ⟨c2, c3, c4, by omega, ?_⟩
  rw [f2]
  simp only [hz]
  omega
/-- bits by bytes -/
theorem pc_byte (f : Nat → Bool) (X k : Nat) (hf : ∀ j, j < 64 → f j = X.testBit j) (hk : k < 8) : pc f (8 * k + 8) = pc f (8 * k) + p8 (X / 2 ^ (8 * k) % 256) := by
  have hb : ∀ i, i < 8 → (f (8 * k + i)).toNat = X / 2 ^ (8 * k) / 2 ^ i % 2 := by
    intro i hi
    rw [hf _ (by omega), Nat.toNat_testBit, Nat.pow_add, Nat.div_div_eq_div_mul]
  have h0 := hb 0 (by decide)
  have h1 := hb 1 (by decide)
  have h2 := hb 2 (by decide)
  have h3 := hb 3 (by decide)
  have h4 := hb 4 (by decide)
  have h5 := hb 5 (by decide)
  have h6 := hb 6 (by decide)
  have h7 := hb 7 (by decide)
  show pc f (8 * k) + (f (8 * k)).toNat + (f (8 * k + 1)).toNat + (f (8 * k + 2)).toNat + (f (8 * k + 3)).toNat + (f (8 * k + 4)).toNat + (f (8 * k + 5)).toNat + (f (8 * k + 6)).toNat + (f (8 * k + 7)).toNat = _
  rw [show f (8 * k) = f (8 * k + 0) from rfl, h0, h1, h2, h3, h4, h5, h6, h7]
  unfold p8
  omega
theorem pc_64 (f : Nat → Bool) (X : Nat) (hf : ∀ j, j < 64 → f j = X.testBit j) : pc f 64 = p8 (X % 256) + p8 (X / 256 % 256) + p8 (X / 65536 % 256) + p8 (X / 16777216 % 256) + p8 (X / 4294967296 % 256) + p8 (X / 1099511627776 % 256) + p8 (X / 281474976710656 % 256) + p8 (X / 72057594037927936 % 256) := by
  have h0 := pc_byte f X 0 hf (by decide)
  have h1 := pc_byte f X 1 hf (by decide)
  have h2 := pc_byte f X 2 hf (by decide)
  have h3 := pc_byte f X 3 hf (by decide)
  have h4 := pc_byte f X 4 hf (by decide)
  have h5 := pc_byte f X 5 hf (by decide)
  have h6 := pc_byte f X 6 hf (by decide)
  have h7 := pc_byte f X 7 hf (by decide)
  simp only [Nat.reduceMul, Nat.reduceAdd, Nat.reducePow, Nat.div_one, show pc f 0 = 0 from rfl] at h0 h1 h2 h3 h4 h5 h6 h7
  omega
def un (x : Int64) : Nat := x.toBitVec.toNat
theorem un_lt (x : Int64) : un x < 2 ^ 64 := x.toBitVec.isLt
theorem un_and (x y : Int64) : un (x &&& y) = un x &&& un y := BitVec.toNat_and _ _
theorem un_add {x y : Int64} (h : un x + un y < 2 ^ 64) : un (x + y) = un x + un y := by
  show (x.toBitVec + y.toBitVec).toNat = _
  rw [BitVec.toNat_add]
  exact Nat.mod_eq_of_lt h
theorem un_sub {x y : Int64} (h : un y ≤ un x) : un (x - y) = un x - un y := by
  show (x.toBitVec - y.toBitVec).toNat = _
  have := un_lt x
  unfold un at *
  rw [BitVec.toNat_sub]
  omega
theorem un_shr (x : Int64) {k : Nat} (hk : k < 64) : un (x.toUInt64 >>> ((nI k).toInt64.toUInt64 &&& Int64.toUInt64 63)).toInt64 = un x / 2 ^ k := by
  have key : ∀ j, j < 64 → (((nI j).toInt64.toUInt64 &&& Int64.toUInt64 63).toBitVec % 64#64).toNat = j := by decide +kernel
  show (x.toBitVec >>> (((nI k).toInt64.toUInt64 &&& Int64.toUInt64 63).toBitVec % 64#64)).toNat = _
  rw [show (x.toBitVec >>> (((nI k).toInt64.toUInt64 &&& Int64.toUInt64 63).toBitVec % 64#64)) = x.toBitVec >>> (((nI k).toInt64.toUInt64 &&& Int64.toUInt64 63).toBitVec % 64#64).toNat from rfl, key k hk, BitVec.toNat_ushiftRight, Nat.shiftRight_eq_div_pow]
  rfl
theorem lo_127 (x : Int64) : x.toInt32 &&& nI 127 = nI (un x % 128) := by
  rw [pk_and x.toInt32 7 (by decide)]
  congr 1
  rw [show (128 : Nat) = 2 ^ 7 from rfl]
  apply Nat.eq_of_testBit_eq
  intro i
  rw [Nat.testBit_mod_two_pow, Nat.testBit_mod_two_pow]
  by_cases hi : i < 7
  · have := lo_bit x (show i < 32 by omega)
    simp only [hi, decide_true, Bool.true_and]
    exact this
  · simp [hi]
/-- the sum that the JDK makes, as it makes it -/
theorem bc_key (x a b c d e f : Int64) (ha : a = x - ((x.toUInt64 >>> ((nI 1).toInt64.toUInt64 &&& Int64.toUInt64 63)).toInt64 &&& 6148914691236517205))
    (hb : b = (a &&& 3689348814741910323) + ((a.toUInt64 >>> ((nI 2).toInt64.toUInt64 &&& Int64.toUInt64 63)).toInt64 &&& 3689348814741910323))
    (hc : c = (b + (b.toUInt64 >>> ((nI 4).toInt64.toUInt64 &&& Int64.toUInt64 63)).toInt64) &&& 1085102592571150095)
    (hd : d = c + (c.toUInt64 >>> ((nI 8).toInt64.toUInt64 &&& Int64.toUInt64 63)).toInt64) (he : e = d + (d.toUInt64 >>> ((nI 16).toInt64.toUInt64 &&& Int64.toUInt64 63)).toInt64)
    (hf : f = e + (e.toUInt64 >>> ((nI 32).toInt64.toUInt64 &&& Int64.toUInt64 63)).toInt64) : f.toInt32 &&& nI 127 = nI (pc x.toBitVec.getLsbD 64) := by
  have hX := un_lt x
  have h8 := hz8 hX
  obtain ⟨l, hle⟩ : ∃ l : List Nat, l = [un x % 256, un x / 256 % 256, un x / 65536 % 256, un x / 16777216 % 256, un x / 4294967296 % 256, un x / 1099511627776 % 256, un x / 281474976710656 % 256, un x / 72057594037927936 % 256] := ⟨_, rfl⟩
  rw [← hle] at h8
  have hll : l.length = 8 := by rw [hle]; rfl
  have hlt : ∀ v ∈ l, v < 256 := by
    intro v hv
    rw [hle] at hv
    simp only [List.mem_cons, List.not_mem_nil, or_false] at hv
    omega
  have hA := bc_A l hll hlt
  rw [← h8] at hA
  have ea : un a = hz (l.map p8a) := by
    rw [ha, un_sub (by rw [un_and, un_shr _ (by decide)]; exact hA.1), un_and, un_shr _ (by decide)]
    exact hA.2
  have lb : ∀ v ∈ l.map p8b, v < 256 := fun v hv => by
    obtain ⟨w, hw, rfl⟩ := List.mem_map.mp hv
    exact (p8_a w (hlt w hw)).2.2.1
  have eb : un b = hz (l.map p8b) := by
    have hB := bc_B l hll hlt
    rw [← ea] at hB
    have e1 : un a &&& 3689348814741910323 ≤ 3689348814741910323 := Nat.and_le_right
    have e2 : un a / 2 ^ 2 &&& 3689348814741910323 ≤ 3689348814741910323 := Nat.and_le_right
    rw [hb, un_add (by rw [un_and, un_and, un_shr _ (by decide)]; show (un a &&& 3689348814741910323) + (un a / 2 ^ 2 &&& 3689348814741910323) < 2 ^ 64; omega), un_and, un_and, un_shr _ (by decide)]
    exact hB
  have hbl : un b < 2 ^ 63 := by
    have hB := bc_B l hll hlt
    rw [← ea, ← eb] at hB
    have e1 : un a &&& 3689348814741910323 ≤ 3689348814741910323 := Nat.and_le_right
    have e2 : un a / 2 ^ 2 &&& 3689348814741910323 ≤ 3689348814741910323 := Nat.and_le_right
    rw [← hB]
    unfold bcB
    omega
  have ec : un c = hz (l.map p8) := by
    have hC := bc_C l hll hlt
    rw [← eb] at hC
    rw [hc, un_and, un_add (by rw [un_shr _ (by decide)]; omega), un_shr _ (by decide)]
    exact hC
  have hp : ∀ v, v < 256 → p8 v ≤ 8 := fun v hv => (p8_a v hv).2.2.2.2.2.2
  obtain ⟨s1, s2, s3, s4, s5⟩ := bc_sum (hp _ (by omega : un x % 256 < 256)) (hp _ (by omega : un x / 256 % 256 < 256)) (hp _ (by omega : un x / 65536 % 256 < 256)) (hp _ (by omega : un x / 16777216 % 256 < 256)) (hp _ (by omega : un x / 4294967296 % 256 < 256)) (hp _ (by omega : un x / 1099511627776 % 256 < 256)) (hp _ (by omega : un x / 281474976710656 % 256 < 256)) (hp _ (by omega : un x / 72057594037927936 % 256 < 256)) (C := un c) (by rw [ec, hle]; rfl) rfl rfl rfl
  have ed : un d = un c + un c / 2 ^ 8 := by rw [hd, un_add (by rw [un_shr _ (by decide)]; omega), un_shr _ (by decide)]
  have ee : un e = un d + un d / 2 ^ 16 := by rw [he, un_add (by rw [un_shr _ (by decide)]; omega), un_shr _ (by decide)]
  have ef : un f = un e + un e / 2 ^ 32 := by rw [hf, un_add (by rw [un_shr _ (by decide)]; omega), un_shr _ (by decide)]
  rw [lo_127, ef, ee, ed, s5, pc_64 x.toBitVec.getLsbD (un x) (fun j _ => rfl)]
