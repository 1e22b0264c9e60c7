/-! differs: the k-th thing that is apart. -/
/-- how many of n places from i on are true -/
def ctS (r : Nat → Bool) : Nat → Nat → Nat
  | 0, _ => 0
  | n + 1, i => (if r i = true then 1 else 0) + ctS r n (i + 1)
/-- the true place behind lf others, its number raised by t -/
def plS (t : Nat) (r : Nat → Bool) : Nat → Nat → Nat → Int32
  | 0, _, _ => -1
  | n + 1, i, lf => if r i = true then (if lf = 0 then nI (t + i) else plS t r n (i + 1) (lf - 1)) else plS t r n (i + 1) lf
theorem ct_cg {r q : Nat → Bool} : ∀ n i, (∀ j, i ≤ j → j < i + n → r j = q j) → ctS r n i = ctS q n i
  | 0, _, _ => rfl
  | n + 1, i, h => by unfold ctS; rw [h i (Nat.le_refl _) (by omega), ct_cg n (i + 1) (fun j h1 h2 => h j (by omega) (by omega))]
theorem pl_cg {t : Nat} {r q : Nat → Bool} : ∀ n i lf, (∀ j, i ≤ j → j < i + n → r j = q j) → plS t r n i lf = plS t q n i lf
  | 0, _, _, _ => rfl
  | n + 1, i, lf, h => by unfold plS; rw [h i (Nat.le_refl _) (by omega), pl_cg n (i + 1) lf (fun j h1 h2 => h j (by omega) (by omega)), pl_cg n (i + 1) (lf - 1) (fun j h1 h2 => h j (by omega) (by omega))]
theorem ct_cut {r : Nat → Bool} {M : Nat} (hr : ∀ j, M ≤ j → r j = false) : ∀ n i, M ≤ i + n → ctS r n i = ctS r (M - i) i
  | 0, i, h => by rw [show M - i = 0 by omega]
  | n + 1, i, h => by
    by_cases q : i < M
    · rw [show M - i = (M - (i + 1)) + 1 by omega]
      unfold ctS
      rw [ct_cut hr n (i + 1) (by omega)]
    · rw [show M - i = 0 by omega]
      unfold ctS
      rw [ct_cut hr n (i + 1) (by omega), hr i (by omega), show M - (i + 1) = 0 by omega]
      rfl
theorem pl_cut {t : Nat} {r : Nat → Bool} {M : Nat} (hr : ∀ j, M ≤ j → r j = false) : ∀ n i lf, M ≤ i + n → plS t r n i lf = plS t r (M - i) i lf
  | 0, i, lf, h => by rw [show M - i = 0 by omega]
  | n + 1, i, lf, h => by
    by_cases q : i < M
    · rw [show M - i = (M - (i + 1)) + 1 by omega]
      unfold plS
      rw [pl_cut hr n (i + 1) lf (by omega), pl_cut hr n (i + 1) (lf - 1) (by omega)]
    · rw [show M - i = 0 by omega]
      unfold plS
      rw [hr i (by omega), pl_cut hr n (i + 1) lf (by omega), show M - (i + 1) = 0 by omega]
      rfl
theorem pl_up {t : Nat} {r : Nat → Bool} : ∀ n i lf, lf < ctS r n i → plS t r n i lf = nI t + plS 0 r n i lf
  | 0, i, lf, h => absurd h (Nat.not_lt_zero _)
  | n + 1, i, lf, h => by
    unfold ctS at h
    unfold plS
    by_cases q : r i = true
    · rw [if_pos q] at h
      rw [if_pos q, if_pos q]
      by_cases z : lf = 0
      · rw [if_pos z, if_pos z, nI_add, Nat.zero_add]
      · rw [if_neg z, if_neg z]
        exact pl_up n (i + 1) (lf - 1) (by omega)
    · rw [if_neg q] at h
      rw [if_neg q, if_neg q]
      exact pl_up n (i + 1) lf (by omega)
theorem de_seg {ap : Nat → Bool} {t : Nat} {r : Nat → Bool} (m : Nat) : ∀ n i lf, (∀ j, i ≤ j → j < i + n → (isF (t + j) && ap (t + j)) = r j) → deF ap (n + m) (t + i) lf = if lf < ctS r n i then plS t r n i lf else deF ap m (t + i + n) (lf - ctS r n i)
  | 0, i, lf, h => by
    show deF ap (0 + m) (t + i) lf = if lf < 0 then _ else deF ap m (t + i + 0) (lf - 0)
    rw [if_neg (Nat.not_lt_zero _), Nat.zero_add]
    rfl
  | n + 1, i, lf, h => by
    rw [show n + 1 + m = (n + m) + 1 by omega]
    have e := h i (Nat.le_refl _) (by omega)
    have d1 : deF ap (n + m + 1) (t + i) lf = if (isF (t + i) && ap (t + i)) = true then (if lf = 0 then nI (t + i) else deF ap (n + m) (t + i + 1) (lf - 1)) else deF ap (n + m) (t + i + 1) lf := rfl
    have d2 : ctS r (n + 1) i = (if r i = true then 1 else 0) + ctS r n (i + 1) := rfl
    have d3 : plS t r (n + 1) i lf = if r i = true then (if lf = 0 then nI (t + i) else plS t r n (i + 1) (lf - 1)) else plS t r n (i + 1) lf := rfl
    rw [d1, d2, d3, e]
    have ih1 := de_seg m n (i + 1) (lf - 1) (fun j h1 h2 => h j (by omega) (by omega))
    have ih2 := de_seg m n (i + 1) lf (fun j h1 h2 => h j (by omega) (by omega))
    rw [show t + (i + 1) = t + i + 1 by omega, show t + i + 1 + n = t + i + (n + 1) by omega] at ih1 ih2
    by_cases q : r i = true
    · rw [if_pos q, if_pos q, if_pos q]
      by_cases z : lf = 0
      · rw [if_pos z, if_pos (show lf < 1 + ctS r n (i + 1) by omega), if_pos z]
      · rw [if_neg z, ih1]
        by_cases g : lf - 1 < ctS r n (i + 1)
        · rw [if_pos g, if_pos (show lf < 1 + ctS r n (i + 1) by omega), if_neg z]
        · rw [if_neg g, if_neg (show ¬ lf < 1 + ctS r n (i + 1) by omega), show lf - (1 + ctS r n (i + 1)) = lf - 1 - ctS r n (i + 1) by omega]
    · rw [if_neg q, if_neg q, if_neg q, ih2, Nat.zero_add]
theorem ct_no {r : Nat → Bool} : ∀ n i, (∀ j, i ≤ j → j < i + n → r j = false) → ctS r n i = 0
  | 0, _, _ => rfl
  | n + 1, i, h => by unfold ctS; rw [h i (Nat.le_refl _) (by omega), ct_no n (i + 1) (fun j h1 h2 => h j (by omega) (by omega))]; rfl
theorem de_skip {ap : Nat → Bool} (m n t lf : Nat) (h : ∀ u, t ≤ u → u < t + n → isF u = false) : deF ap (n + m) t lf = deF ap m (t + n) lf := by
  have e := de_seg (ap := ap) (t := t) (r := fun _ => false) m n 0 lf (fun j _ h2 => by rw [h (t + j) (by omega) (by omega)]; rfl)
  rw [Nat.add_zero, ct_no n 0 (fun _ _ _ => rfl), if_neg (Nat.not_lt_zero _), Nat.sub_zero] at e
  exact e
/-- the things in their order: outputs, nexts, starts, the numbers of outputs -/
theorem de_all (ap r1 r2 r3 : Nat → Bool) (h1 : ∀ j, j < 16 → ap j = r1 j) (h2 : ∀ j, j < 4 → ap (100 + j) = r2 j) (h3 : ∀ j, j < 4 → ap (200 + j) = r3 j) (k : Nat) :
    deF ap 301 0 k = if k < ctS r1 16 0 then plS 0 r1 16 0 k else if k - ctS r1 16 0 < ctS r2 4 0 then plS 100 r2 4 0 (k - ctS r1 16 0)
      else if k - ctS r1 16 0 - ctS r2 4 0 < ctS r3 4 0 then plS 200 r3 4 0 (k - ctS r1 16 0 - ctS r2 4 0) else if ap 300 = true ∧ k - ctS r1 16 0 - ctS r2 4 0 - ctS r3 4 0 = 0 then nI 300 else -1 := by
  have e1 := de_seg (ap := ap) (t := 0) (r := r1) 285 16 0 k (fun j _ hj => by rw [Nat.zero_add, h1 j (by omega), show isF j = true from decide_eq_true (by omega)]; rfl)
  have s1 := fun lf => de_skip (ap := ap) 201 84 16 lf (fun u _ _ => decide_eq_false (by omega))
  have e2 := fun lf => de_seg (ap := ap) (t := 100) (r := r2) 197 4 0 lf (fun j _ hj => by rw [h2 j (by omega), show isF (100 + j) = true from decide_eq_true (by omega)]; rfl)
  have s2 := fun lf => de_skip (ap := ap) 101 96 104 lf (fun u _ _ => decide_eq_false (by omega))
  have e3 := fun lf => de_seg (ap := ap) (t := 200) (r := r3) 97 4 0 lf (fun j _ hj => by rw [h3 j (by omega), show isF (200 + j) = true from decide_eq_true (by omega)]; rfl)
  have s3 := fun lf => de_skip (ap := ap) 1 96 204 lf (fun u _ _ => decide_eq_false (by omega))
  have e4 : ∀ lf, deF ap 1 300 lf = if ap 300 = true ∧ lf = 0 then nI 300 else -1 := fun lf => by
    unfold deF
    rw [show isF 300 = true from decide_eq_true (by omega), Bool.true_and]
    by_cases q : ap 300 = true
    · rw [if_pos q]
      by_cases z : lf = 0
      · rw [if_pos z, if_pos ⟨q, z⟩]
      · rw [if_neg z, if_neg (fun g => z g.2)]; rfl
    · rw [if_neg q, if_neg (fun g => q g.1)]; rfl
  have e1 : deF ap 301 0 k = if k < ctS r1 16 0 then plS 0 r1 16 0 k else deF ap 285 16 (k - ctS r1 16 0) := e1
  have s1 : ∀ lf, deF ap 285 16 lf = deF ap 201 100 lf := s1
  have e2 : ∀ lf, deF ap 201 100 lf = if lf < ctS r2 4 0 then plS 100 r2 4 0 lf else deF ap 197 104 (lf - ctS r2 4 0) := e2
  have s2 : ∀ lf, deF ap 197 104 lf = deF ap 101 200 lf := s2
  have e3 : ∀ lf, deF ap 101 200 lf = if lf < ctS r3 4 0 then plS 200 r3 4 0 lf else deF ap 97 204 (lf - ctS r3 4 0) := e3
  have s3 : ∀ lf, deF ap 97 204 lf = deF ap 1 300 lf := s3
  rw [e1, s1, e2, s2, e3, s3, e4]
theorem ct_end (r : Nat → Bool) : ∀ n i, ctS r (n + 1) i = ctS r n i + if r (i + n) = true then 1 else 0
  | 0, i => Nat.add_comm _ _
  | n + 1, i => by
    rw [show ctS r (n + 1 + 1) i = (if r i = true then 1 else 0) + ctS r (n + 1) (i + 1) from rfl, ct_end r n (i + 1), show ctS r (n + 1) i = (if r i = true then 1 else 0) + ctS r n (i + 1) from rfl, show i + 1 + n = i + (n + 1) by omega]
    omega
theorem cd_ct (ff : Nat → Int32) (g1 g2 : Nat → Nat) : ∀ n, cdF ff g1 g2 n = ctS (fun j => !decide (fs1 ff (g1 j) = fs1 ff (g2 j))) n 0
  | 0 => rfl
  | n + 1 => by
    unfold cdF
    rw [cd_ct ff g1 g2 n, ct_end, Nat.zero_add]
    congr 1
    by_cases q : fs1 ff (g1 n) = fs1 ff (g2 n)
    · simp [q]
    · simp [q]
theorem pd_pl (ff : Nat → Int32) (g1 g2 : Nat → Nat) : ∀ n i lf, pdF ff g1 g2 n i lf = plS 0 (fun j => !decide (fs1 ff (g1 j) = fs1 ff (g2 j))) n i lf
  | 0, _, _ => rfl
  | n + 1, i, lf => by
    unfold pdF plS
    rw [pd_pl ff g1 g2 n (i + 1) lf, pd_pl ff g1 g2 n (i + 1) (lf - 1), Nat.zero_add]
    by_cases q : fs1 ff (g1 i) = fs1 ff (g2 i)
    · rw [if_pos q]; simp [q]
    · rw [if_neg q]; simp [q]
theorem ds_pl (x oA oB : Nat) : ∀ n i lf, dsF x oA oB n i lf = if lf < ctS (fun j => decide (x / 2 ^ j % 2 = 1)) n i then plS 200 (fun j => decide (x / 2 ^ j % 2 = 1)) n i lf else if (!decide (oA = oB)) = true ∧ lf - ctS (fun j => decide (x / 2 ^ j % 2 = 1)) n i = 0 then nI 300 else -1
  | 0, i, lf => by
    rw [show ctS (fun j => decide (x / 2 ^ j % 2 = 1)) 0 i = 0 from rfl, if_neg (Nat.not_lt_zero _), Nat.sub_zero]
    unfold dsF
    by_cases z : lf = 0 <;> by_cases q : oA = oB <;> simp [z, q]
  | n + 1, i, lf => by
    unfold dsF ctS plS
    rw [ds_pl x oA oB n (i + 1) lf, ds_pl x oA oB n (i + 1) (lf - 1)]
    by_cases q : x / 2 ^ i % 2 = 1
    · have qd : decide (x / 2 ^ i % 2 = 1) = true := decide_eq_true q
      rw [if_pos q, if_pos qd, if_pos qd]
      by_cases z : lf = 0
      · rw [if_pos z, if_pos (by omega), if_pos z]
      · rw [if_neg z]
        generalize ctS (fun j => decide (x / 2 ^ j % 2 = 1)) n (i + 1) = cc
        by_cases g : lf - 1 < cc
        · rw [if_pos g, if_pos (show lf < 1 + cc by omega), if_neg z]
        · rw [if_neg g, show lf - (1 + cc) = lf - 1 - cc by omega]; exact (if_neg (show ¬ lf < 1 + cc by omega)).symm
    · have qd : ¬ decide (x / 2 ^ i % 2 = 1) = true := fun h => q (of_decide_eq_true h)
      rw [if_neg q, if_neg qd, if_neg qd, Nat.zero_add]
/-! Numbers packed into bits: starts and states. -/
def pkF (g : Nat → Nat) (o : Nat) : Nat → Nat
  | 0 => 0
  | j + 1 => pkF g o j ||| g (o + j) * 2 ^ j
theorem pk_cg {g h : Nat → Nat} {o : Nat} : ∀ n, (∀ j, j < n → g (o + j) = h (o + j)) → pkF g o n = pkF h o n
  | 0, _ => rfl
  | n + 1, q => by unfold pkF; rw [pk_cg n (fun j hj => q j (by omega)), q n (by omega)]
theorem pkn_lt {g : Nat → Nat} {o : Nat} : ∀ n, (∀ j, j < n → g (o + j) < 2) → pkF g o n < 2 ^ n
  | 0, _ => by unfold pkF; omega
  | n + 1, q => by
    have a1 := pkn_lt n (fun j hj => q j (by omega))
    have a2 : 2 ^ n < 2 ^ (n + 1) := Nat.pow_lt_pow_right (by omega) (by omega)
    have a3 := q n (by omega)
    have a4 : g (o + n) * 2 ^ n ≤ 1 * 2 ^ n := Nat.mul_le_mul_right _ (by omega)
    unfold pkF
    exact Nat.or_lt_two_pow (by omega) (by omega)
theorem pk_tb {g : Nat → Nat} {o : Nat} : ∀ n, (∀ j, j < n → g (o + j) < 2) → ∀ j, j < n → (pkF g o n).testBit j = decide (g (o + j) = 1)
  | 0, _, j, hj => absurd hj (Nat.not_lt_zero _)
  | n + 1, q, j, hj => by
    unfold pkF
    rw [Nat.testBit_or]
    have a3 := q n (by omega)
    have e : (g (o + n) * 2 ^ n).testBit j = (decide (g (o + n) = 1) && decide (n = j)) := by
      rcases (show g (o + n) = 0 ∨ g (o + n) = 1 by omega) with z | z
      · rw [z, Nat.zero_mul, Nat.zero_testBit]; simp
      · rw [z, Nat.one_mul, Nat.testBit_two_pow]; simp
    rw [e]
    by_cases z : n = j
    · subst z
      rw [Nat.testBit_lt_two_pow (pkn_lt n (fun j hj => q j (by omega)))]
      simp
    · rw [pk_tb n (fun j hj => q j (by omega)) j (by omega)]
      simp [z]
theorem pk_bit {g : Nat → Nat} {o n j : Nat} (q : ∀ j, j < n → g (o + j) < 2) (hj : j < n) : pkF g o n / 2 ^ j % 2 = g (o + j) := by
  have h := pk_tb n q j hj
  have h2 := q j hj
  rw [Nat.testBit_eq_decide_div_mod_eq] at h
  have h3 : pkF g o n / 2 ^ j % 2 < 2 := Nat.mod_lt _ (by omega)
  by_cases z : g (o + j) = 1
  · rw [decide_eq_true z] at h; rw [z]; exact of_decide_eq_true h
  · rw [decide_eq_false z] at h
    have := of_decide_eq_false h
    omega
theorem pk_xor {g : Nat → Nat} {o1 o2 n j : Nat} (q1 : ∀ j, j < n → g (o1 + j) < 2) (q2 : ∀ j, j < n → g (o2 + j) < 2) (hj : j < n) : decide ((pkF g o1 n ^^^ pkF g o2 n) / 2 ^ j % 2 = 1) = !decide (g (o1 + j) = g (o2 + j)) := by
  rw [← Nat.testBit_eq_decide_div_mod_eq, Nat.testBit_xor, pk_tb n q1 j hj, pk_tb n q2 j hj]
  have := q1 j hj
  have := q2 j hj
  rcases (show g (o1 + j) = 0 ∨ g (o1 + j) = 1 by omega) with z | z <;> rcases (show g (o2 + j) = 0 ∨ g (o2 + j) = 1 by omega) with y | y <;> rw [z, y] <;> decide
theorem as_pk (iv : Nat) (g : Nat → Nat) (o : Nat) : ∀ k, asF iv g o k = iv ||| pkF g o k * 256
  | 0 => by unfold asF pkF; rw [Nat.zero_mul, Nat.or_zero]
  | k + 1 => by
    unfold asF pkF
    have e : (pkF g o k ||| g (o + k) * 2 ^ k) * 256 = pkF g o k * 256 ||| g (o + k) * 2 ^ (8 + k) := by
      have e9 : (pkF g o k ||| g (o + k) * 2 ^ k) <<< 8 = pkF g o k <<< 8 ||| (g (o + k) * 2 ^ k) <<< 8 := by rw [Nat.shiftLeft_or_distrib]
      simp only [Nat.shiftLeft_eq] at e9
      rw [show (256 : Nat) = 2 ^ 8 from rfl, e9, Nat.mul_assoc, ← Nat.pow_add, Nat.add_comm k 8]
    rw [as_pk iv g o k, e, Nat.or_assoc]
theorem st_pk {fr : Nat → Int64} {nA : Nat → Nat} {k : Nat} {g : Nat → Nat} {o : Nat} : ∀ n, (∀ j, j < n → g (o + j) = (bt fr (nA j) k).toNat) → stF fr nA k n = pkF g o n
  | 0, _ => rfl
  | n + 1, q => by unfold stF pkF; rw [st_pk n (fun j hj => q j (by omega)), q n (by omega)]
theorem sa_cg {f1 f2 g1 g2 : Nat → Int32} : ∀ n i, (∀ j, i ≤ j → j < i + n → f1 j = g1 j ∧ f2 j = g2 j) → saF f1 f2 n i = saF g1 g2 n i
  | 0, _, _ => rfl
  | n + 1, i, h => by
    unfold saF
    obtain ⟨a1, a2⟩ := h i (Nat.le_refl _) (by omega)
    rw [a1, a2, sa_cg n (i + 1) (fun j h1 h2 => h j (by omega) (by omega))]
/-! A number of Java's as bits. -/
theorem i_nI (x : Int32) : ∃ n, n < 2 ^ 32 ∧ x = nI n := ⟨x.toBitVec.toNat, x.toBitVec.isLt, Int32.toBitVec_inj.mp (by show x.toBitVec = BitVec.ofNat 32 x.toBitVec.toNat; exact (BitVec.ofNat_toNat ..).symm ▸ (by simp))⟩
theorem m_nI : ∀ ic, ic < 9 → (nI (2 ^ ic - 1)).toBitVec.toNat = 2 ^ ic - 1 := by decide +kernel
theorem pr_le : ∀ i, i < 9 → ∀ l, l < 5 → prN i l &&& 4095 = prN i l := by decide +kernel
theorem pr_tb : ∀ i, i < 9 → ∀ l, l < 5 → ∀ p, p < 12 → (prN i l).testBit p = !decide ((p < 8 ∧ i ≤ p) ∨ 8 + l ≤ p) := by decide +kernel
