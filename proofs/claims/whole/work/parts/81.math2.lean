/-! Words that agree: the model's tables and the class's rows. -/
section AG
variable {ft fr : Nat → Int64} {cnt : Nat}
theorem wd_c (h : ∀ j, j < cnt * 64 → ft j = fr j) {lit w : Nat} (hl : lit < 2 * cnt) (hw : w < 64) : wd ft lit w = wd fr lit w := wd_congr (h _ (by omega))
theorem bt_c (h : ∀ j, j < cnt * 64 → ft j = fr j) {lit k : Nat} (hl : lit < 2 * cnt) (hk : k < 4096) : bt ft lit k = bt fr lit k := by unfold bt; rw [wd_c h hl (by omega)]
theorem sm_c (h : ∀ j, j < cnt * 64 → ft j = fr j) {a b : Nat} (ha : a < 2 * cnt) (hb : b < 2 * cnt) : smF ft a b = smF fr a b := by
  rw [Bool.eq_iff_iff, sm_bt, sm_bt]
  constructor <;> intro q k hk
  · rw [← bt_c h ha hk, ← bt_c h hb hk]; exact q k hk
  · rw [bt_c h ha hk, bt_c h hb hk]; exact q k hk
theorem fm_c (h : ∀ j, j < cnt * 64 → ft j = fr j) {lit : Nat} (hl : lit < 2 * cnt) : ∀ n i, i + n ≤ lit → fmF ft lit n i = fmF fr lit n i
  | 0, _, _ => rfl
  | n + 1, i, q => by unfold fmF; rw [sm_c h (by omega) hl, fm_c h hl n (i + 1) (by omega)]
theorem ls_c (h : ∀ j, j < cnt * 64 → ft j = fr j) {k : Nat} (hk : k < cnt) : lsF ft k = lsF fr k := by
  unfold lsF
  rw [Bool.eq_iff_iff, decide_eq_true_iff, decide_eq_true_iff]
  constructor <;> intro q m hm
  · rw [← sm_c h (show 2 * m < 2 * cnt by omega) (show 2 * k < 2 * cnt by omega), ← sm_c h (show 2 * m + 1 < 2 * cnt by omega) (show 2 * k < 2 * cnt by omega)]; exact q m hm
  · rw [sm_c h (show 2 * m < 2 * cnt by omega) (show 2 * k < 2 * cnt by omega), sm_c h (show 2 * m + 1 < 2 * cnt by omega) (show 2 * k < 2 * cnt by omega)]; exact q m hm
theorem cM_c (h : ∀ j, j < cnt * 64 → ft j = fr j) : ∀ k, k ≤ cnt → cM ft k = cM fr k
  | 0, _ => rfl
  | k + 1, q => by unfold cM; rw [cM_c h k (by omega), ls_c h (by omega)]
theorem mM_c (h : ∀ j, j < cnt * 64 → ft j = fr j) {fs fo : Nat → Int32} (g : ∀ j, j < cnt → fs j = fo j) (sd : Int32) : ∀ k, k ≤ cnt → mM fs ft sd k = mM fo fr sd k
  | 0, _ => rfl
  | k + 1, q => by unfold mM; rw [mM_c h g sd k (by omega), ls_c h (by omega), g k (by omega)]
theorem and_c {fs fo : Nat → Int32} (g : ∀ j, j < cnt → fs j = fo j) (sd : Int32) : ∀ k, k ≤ cnt → cAnd fs sd k = cAnd fo sd k
  | 0, _ => rfl
  | k + 1, q => by unfold cAnd; rw [and_c g sd k (by omega), g k (by omega)]
theorem xlt {a p : Nat} (ha : a < 4096) (hp : p < 12) : a ^^^ 2 ^ p < 4096 := Nat.xor_lt_two_pow (n := 12) ha (Nat.pow_lt_pow_right (by omega) hp)
theorem hp_c (h : ∀ j, j < cnt * 64 → ft j = fr j) {lit p : Nat} (hl : lit < 2 * cnt) (hp : p < 12) : ∀ a, a ≤ 4096 → hpF ft lit p a = hpF fr lit p a
  | 0, _ => rfl
  | a + 1, q => by unfold hpF; rw [hp_c h hl hp a (by omega), bt_c h hl (by omega), bt_c h hl (xlt (by omega) hp)]
theorem hm_c (h : ∀ j, j < cnt * 64 → ft j = fr j) {lit : Nat} (hl : lit < 2 * cnt) : ∀ p, p ≤ 12 → hmF ft lit p = hmF fr lit p
  | 0, _ => rfl
  | p + 1, q => by unfold hmF; rw [hm_c h hl p (by omega), hp_c h hl (by omega) 4096 (Nat.le_refl _)]
theorem on_c (h : ∀ j, j < cnt * 64 → ft j = fr j) {lit pr : Nat} (hl : lit < 2 * cnt) : ∀ a, a ≤ 4096 → onM ft lit pr a = onM fr lit pr a
  | 0, _ => rfl
  | a + 1, q => by unfold onM; rw [on_c h hl a (by omega), bt_c h hl (by omega)]
theorem wi_c (h : ∀ j, j < cnt * 64 → ft j = fr j) {la lb : Nat} (ha : la < 2 * cnt) (hb : lb < 2 * cnt) : ∀ n i, i + n ≤ 4096 → wiF ft la lb n i = wiF fr la lb n i
  | 0, _, _ => rfl
  | n + 1, i, q => by unfold wiF; rw [bt_c h ha (by omega), bt_c h hb (by omega), wi_c h ha hb n (i + 1) (by omega)]
end AG
/-! hangs. -/
theorem hg_sp (fr : Nat → Int64) (lit b : Nat) : ∀ n i, hgF fr lit b n i = true ↔ ∃ w, i ≤ w ∧ w < i + n ∧ whF fr lit b w = true
  | 0, i => ⟨fun h => (by cases h), fun ⟨w, h1, h2, _⟩ => absurd h2 (by omega)⟩
  | n + 1, i => by
    unfold hgF
    by_cases q : whF fr lit b i = true
    · rw [if_pos q]; exact ⟨fun _ => ⟨i, Nat.le_refl _, by omega, q⟩, fun _ => rfl⟩
    · rw [if_neg q, hg_sp fr lit b n (i + 1)]
      constructor
      · rintro ⟨w, h1, h2, h3⟩; exact ⟨w, by omega, by omega, h3⟩
      · rintro ⟨w, h1, h2, h3⟩
        refine ⟨w, ?_, by omega, h3⟩
        by_cases hw : w = i
        · rw [hw] at h3; exact absurd h3 q
        · omega
theorem hp_sp (fr : Nat → Int64) (lit p : Nat) : ∀ a, hpF fr lit p a = true ↔ ∃ k, k < a ∧ ¬ bt fr lit k = bt fr lit (k ^^^ 2 ^ p)
  | 0 => ⟨fun h => (by cases h), fun ⟨k, h, _⟩ => absurd h (by omega)⟩
  | a + 1 => by
    unfold hpF
    rw [Bool.or_eq_true, hp_sp fr lit p a, bne_iff_ne]
    constructor
    · rintro (⟨k, h1, h2⟩ | h)
      · exact ⟨k, by omega, h2⟩
      · exact ⟨a, by omega, h⟩
    · rintro ⟨k, h1, h2⟩
      by_cases hk : k = a
      · subst hk; exact Or.inr h2
      · exact Or.inl ⟨k, by omega, h2⟩
theorem x_lo : ∀ w, w < 64 → ∀ j, j < 64 → ∀ k, k < 6 → (w * 64 + j) ^^^ 2 ^ k = w * 64 + (j ^^^ 2 ^ k) := by decide +kernel
theorem x_hi : ∀ w, w < 64 → ∀ j, j < 64 → ∀ k, k < 6 → (w * 64 + j) ^^^ 2 ^ (k + 6) = (w ^^^ 2 ^ k) * 64 + j := by decide +kernel
theorem x_j : ∀ j, j < 64 → ∀ k, k < 6 → (j ^^^ 2 ^ k < 64) ∧ (j / 2 ^ k % 2 = 0 → j ^^^ 2 ^ k = j + 2 ^ k) ∧ (j ^^^ 2 ^ k ^^^ 2 ^ k = j) ∧ (¬ j / 2 ^ k % 2 = 0 → (j ^^^ 2 ^ k) / 2 ^ k % 2 = 0) := by decide +kernel
theorem pat_b : ∀ k, k < 6 → ∀ j, j < 64 → (pat k).toBitVec.getLsbD j = !decide (j / 2 ^ k % 2 = 0) := by decide +kernel
theorem shr_b (x : Int64) {n j : Nat} (hn : n < 64) : (shrL x n).toBitVec.getLsbD j = x.toBitVec.getLsbD (n + j) := by
  have key : ∀ j, j < 64 → (((nI j).toInt64.toUInt64 &&& Int64.toUInt64 63).toBitVec % 64#64).toNat = j := by decide +kernel
  show (x.toBitVec >>> (((nI n).toInt64.toUInt64 &&& Int64.toUInt64 63).toBitVec % 64#64).toNat).getLsbD j = _
  rw [key n hn, BitVec.getLsbD_ushiftRight]
theorem nz_b (x : Int64) : (¬ x = 0) ↔ ∃ j, j < 64 ∧ x.toBitVec.getLsbD j = true := by
  constructor
  · intro h
    refine Classical.byContradiction (fun q => h (Int64.toBitVec_inj.mp (BitVec.eq_of_getLsbD_eq (fun j hj => ?_))))
    cases g : x.toBitVec.getLsbD j
    · show false = (0#64).getLsbD j
      simp
    · exact absurd ⟨j, hj, g⟩ q
  · rintro ⟨j, hj, g⟩ h
    rw [h] at g
    have : (0#64).getLsbD j = true := g
    simp at this
theorem ne_b (x y : Int64) : (¬ x = y) ↔ ∃ j, j < 64 ∧ ¬ x.toBitVec.getLsbD j = y.toBitVec.getLsbD j := by
  constructor
  · intro h
    refine Classical.byContradiction (fun q => h (Int64.toBitVec_inj.mp (BitVec.eq_of_getLsbD_eq (fun j hj => ?_))))
    exact Classical.byContradiction (fun g => q ⟨j, hj, g⟩)
  · rintro ⟨j, hj, g⟩ h; exact g (by rw [h])
theorem hang_eq (fr : Nat → Int64) (lit k : Nat) (hk : k < 12) : hgF fr lit k 64 0 = hpF fr lit k 4096 := by
  rw [Bool.eq_iff_iff, hg_sp, hp_sp]
  by_cases h6 : 6 ≤ k
  · obtain ⟨q, rfl⟩ : ∃ q, k = q + 6 := ⟨k - 6, by omega⟩
    have hq : q < 6 := by omega
    have e : ∀ w, whF fr lit (q + 6) w = true ↔ ∃ j, j < 64 ∧ ¬ (wd fr lit w).toBitVec.getLsbD j = (wd fr lit (w ^^^ 2 ^ q)).toBitVec.getLsbD j := by
      intro w
      unfold whF
      rw [if_pos h6, show q + 6 - 6 = q by omega, decide_eq_true_iff, ne_b]
    constructor
    · rintro ⟨w, -, hw, h⟩
      obtain ⟨j, hj, hd⟩ := (e w).mp h
      refine ⟨w * 64 + j, by omega, ?_⟩
      rw [x_hi w (by omega) j hj q hq, bt_dec _ _ _ _ hj, bt_dec _ _ _ _ hj]
      exact hd
    · rintro ⟨a, ha, hd⟩
      refine ⟨a / 64, Nat.zero_le _, by omega, (e _).mpr ⟨a % 64, by omega, ?_⟩⟩
      rw [show a = a / 64 * 64 + a % 64 by omega, x_hi (a / 64) (by omega) (a % 64) (by omega) q hq, bt_dec _ _ _ _ (by omega), bt_dec _ _ _ _ (by omega)] at hd
      exact hd
  · have hk6 : k < 6 := by omega
    have hp : 2 ^ k < 64 := Nat.lt_of_lt_of_le (Nat.pow_lt_pow_right (by omega) hk6) (show 2 ^ 6 ≤ 64 by decide)
    have e : ∀ w, whF fr lit k w = true ↔ ∃ j, j < 64 ∧ j / 2 ^ k % 2 = 0 ∧ ¬ (wd fr lit w).toBitVec.getLsbD j = (wd fr lit w).toBitVec.getLsbD (j ^^^ 2 ^ k) := by
      intro w
      unfold whF
      rw [if_neg h6, decide_eq_true_iff, nz_b]
      have hb : ∀ j, j < 64 → (((wd fr lit w ^^^ shrL (wd fr lit w) (2 ^ k)) &&& (pat k ^^^ (-1))).toBitVec.getLsbD j = true ↔ j / 2 ^ k % 2 = 0 ∧ ¬ (wd fr lit w).toBitVec.getLsbD j = (wd fr lit w).toBitVec.getLsbD (j ^^^ 2 ^ k)) := by
        intro j hj
        rw [show ((wd fr lit w ^^^ shrL (wd fr lit w) (2 ^ k)) &&& (pat k ^^^ (-1))).toBitVec = ((wd fr lit w).toBitVec ^^^ (shrL (wd fr lit w) (2 ^ k)).toBitVec) &&& (pat k ^^^ (-1)).toBitVec from rfl, BitVec.getLsbD_and, BitVec.getLsbD_xor, shr_b _ hp, not_bit _ hj, pat_b k hk6 j hj]
        by_cases q : j / 2 ^ k % 2 = 0
        · rw [(x_j j hj k hk6).2.1 q, Nat.add_comm (2 ^ k) j]
          simp [q]
        · simp [q]
      constructor
      · rintro ⟨j, hj, h⟩; exact ⟨j, hj, (hb j hj).mp h⟩
      · rintro ⟨j, hj, h⟩; exact ⟨j, hj, (hb j hj).mpr h⟩
    constructor
    · rintro ⟨w, -, hw, h⟩
      obtain ⟨j, hj, -, hd⟩ := (e w).mp h
      refine ⟨w * 64 + j, by omega, ?_⟩
      rw [x_lo w (by omega) j hj k hk6, bt_dec _ _ _ _ hj, bt_dec _ _ _ _ (x_j j hj k hk6).1]
      exact hd
    · rintro ⟨a, ha, hd⟩
      rw [show a = a / 64 * 64 + a % 64 by omega, x_lo (a / 64) (by omega) (a % 64) (by omega) k hk6, bt_dec _ _ _ _ (by omega), bt_dec _ _ _ _ (x_j (a % 64) (by omega) k hk6).1] at hd
      refine ⟨a / 64, Nat.zero_le _, by omega, (e _).mpr ?_⟩
      obtain ⟨q1, q2, q3, q4⟩ := x_j (a % 64) (by omega) k hk6
      by_cases q : a % 64 / 2 ^ k % 2 = 0
      · exact ⟨a % 64, by omega, q, hd⟩
      · exact ⟨a % 64 ^^^ 2 ^ k, q1, q4 q, by rw [q3]; exact fun h => hd h.symm⟩
theorem sp_hm (fr : Nat → Int64) (lit : Nat) : ∀ k, k ≤ 12 → spF fr lit k = nI (hmF fr lit k)
  | 0, _ => rfl
  | k + 1, h => by
    unfold spF hmF
    rw [hang_eq fr lit k (by omega), sp_hm fr lit k (by omega)]
    by_cases q : hpF fr lit k 4096 = true
    · rw [if_pos q, if_pos q, n_shl1 (by omega), n_or]
    · rw [if_neg q, if_neg q, Nat.or_zero]
/-! ones: sums over assignments. -/
def sN (h : Nat → Nat) : Nat → Nat
  | 0 => 0
  | n + 1 => sN h n + h n
theorem sN_add (h : Nat → Nat) (m : Nat) : ∀ k, sN h (m + k) = sN h m + sN (fun a => h (m + a)) k
  | 0 => rfl
  | k + 1 => by show sN h (m + k) + h (m + k) = _; rw [sN_add h m k]; show _ = sN h m + (sN (fun a => h (m + a)) k + h (m + k)); omega
theorem sN_cg {h g : Nat → Nat} : ∀ n, (∀ a, a < n → h a = g a) → sN h n = sN g n
  | 0, _ => rfl
  | n + 1, q => by unfold sN; rw [sN_cg n (fun a ha => q a (by omega)), q n (by omega)]
theorem sN_plus (h g : Nat → Nat) : ∀ n, sN (fun a => h a + g a) n = sN h n + sN g n
  | 0 => rfl
  | n + 1 => by unfold sN; rw [sN_plus h g n]; omega
theorem x_top {a n : Nat} (h : a < 2 ^ n) : a ^^^ 2 ^ n = 2 ^ n + a := by
  apply Nat.eq_of_testBit_eq
  intro j
  rw [Nat.testBit_xor, Nat.testBit_two_pow, show 2 ^ n + a = 2 ^ n * 1 + a by omega, Nat.testBit_two_pow_mul_add _ h]
  by_cases hj : j < n
  · rw [if_pos hj]; simp [show ¬ n = j by omega]
  · rw [if_neg hj, Nat.testBit_lt_two_pow (Nat.lt_of_lt_of_le h (Nat.pow_le_pow_right (by omega) (by omega)))]
    by_cases q : n = j
    · subst q; simp
    · rw [Nat.testBit_lt_two_pow (Nat.one_lt_two_pow (show j - n ≠ 0 by omega))]; simp [q]
theorem x_add {a n p : Nat} (h : a < 2 ^ n) (hp : p < n) : (2 ^ n + a) ^^^ 2 ^ p = 2 ^ n + (a ^^^ 2 ^ p) := by
  have h2 : a ^^^ 2 ^ p < 2 ^ n := Nat.xor_lt_two_pow h (Nat.pow_lt_pow_right (by omega) hp)
  rw [← x_top h, ← x_top h2, Nat.xor_assoc, Nat.xor_comm (2 ^ n), ← Nat.xor_assoc]
theorem sN_xor (p : Nat) : ∀ (n : Nat) (h : Nat → Nat), p < n → sN (fun a => h (a ^^^ 2 ^ p)) (2 ^ n) = sN h (2 ^ n)
  | 0, h, hp => absurd hp (Nat.not_lt_zero _)
  | n + 1, h, hp => by
    rw [show 2 ^ (n + 1) = 2 ^ n + 2 ^ n by rw [Nat.pow_succ]; omega, sN_add, sN_add]
    by_cases q : p = n
    · subst q
      rw [sN_cg (h := fun a => h (a ^^^ 2 ^ p)) (g := fun a => h (2 ^ p + a)) _ (fun a ha => by show h (a ^^^ 2 ^ p) = _; rw [x_top ha])]
      rw [sN_cg (h := fun a => h ((2 ^ p + a) ^^^ 2 ^ p)) (g := h) _ (fun a ha => by show h ((2 ^ p + a) ^^^ 2 ^ p) = _; rw [← x_top ha, Nat.xor_assoc, Nat.xor_self, Nat.xor_zero])]
      omega
    · rw [sN_xor p n h (by omega)]
      rw [sN_cg (h := fun a => h ((2 ^ n + a) ^^^ 2 ^ p)) (g := fun a => (fun b => h (2 ^ n + b)) (a ^^^ 2 ^ p)) _ (fun a ha => by show h ((2 ^ n + a) ^^^ 2 ^ p) = h (2 ^ n + (a ^^^ 2 ^ p)); rw [x_add ha (by omega)])]
      rw [sN_xor p n (fun b => h (2 ^ n + b)) (by omega)]
theorem sub_iff {a m : Nat} : a &&& m = a ↔ ∀ i, a.testBit i = true → m.testBit i = true := by
  constructor
  · intro h i hi
    rw [← h, Nat.testBit_and, Bool.and_eq_true] at hi
    exact hi.2
  · intro h
    apply Nat.eq_of_testBit_eq
    intro i
    rw [Nat.testBit_and]
    cases q : a.testBit i
    · rfl
    · rw [h i q]; rfl
/-- the ones in the assignments that lie in a mask -/
def cK (f : Nat → Bool) (m : Nat) : Nat := sN (fun a => if a &&& m = a then (f a).toNat else 0) 4096
theorem cK_dbl {f : Nat → Bool} {m p : Nat} (hp : p < 12) (hm : m.testBit p = false) (hf : ∀ a, a < 4096 → f (a ^^^ 2 ^ p) = f a) : cK f (m ||| 2 ^ p) = 2 * cK f m := by
  have e1 : cK f m = sN (fun a => (fun b => if b &&& m = b then (f b).toNat else 0) (a ^^^ 2 ^ p)) 4096 := (sN_xor p 12 (fun b => if b &&& m = b then (f b).toNat else 0) hp).symm
  have e2 : cK f (m ||| 2 ^ p) = sN (fun a => (fun a => if a &&& m = a then (f a).toNat else 0) a + (fun a => if (a ^^^ 2 ^ p) &&& m = a ^^^ 2 ^ p then (f (a ^^^ 2 ^ p)).toNat else 0) a) 4096 := by
    apply sN_cg
    intro a ha
    show (if a &&& (m ||| 2 ^ p) = a then (f a).toNat else 0) = (if a &&& m = a then (f a).toNat else 0) + (if (a ^^^ 2 ^ p) &&& m = a ^^^ 2 ^ p then (f (a ^^^ 2 ^ p)).toNat else 0)
    rw [hf a ha]
    have hx : ∀ i, (a ^^^ 2 ^ p).testBit i = (a.testBit i ^^ decide (p = i)) := fun i => by rw [Nat.testBit_xor, Nat.testBit_two_pow]
    have ho : ∀ i, (m ||| 2 ^ p).testBit i = (m.testBit i || decide (p = i)) := fun i => by rw [Nat.testBit_or, Nat.testBit_two_pow]
    cases q : a.testBit p
    · have n2 : ¬ (a ^^^ 2 ^ p) &&& m = a ^^^ 2 ^ p := fun h => by
        have := sub_iff.mp h p (by rw [hx, q]; simp)
        rw [hm] at this; cases this
      rw [if_neg n2, Nat.add_zero]
      by_cases g : a &&& m = a
      · rw [if_pos g, if_pos (sub_iff.mpr (fun i hi => by rw [ho, sub_iff.mp g i hi]; rfl))]
      · rw [if_neg g, if_neg (fun h => g (sub_iff.mpr (fun i hi => by
          have := sub_iff.mp h i hi
          rw [ho] at this
          by_cases z : p = i
          · subst z; rw [q] at hi; cases hi
          · simpa [z] using this)))]
    · have n1 : ¬ a &&& m = a := fun h => by
        have := sub_iff.mp h p q
        rw [hm] at this; cases this
      rw [if_neg n1, Nat.zero_add]
      by_cases g : a &&& (m ||| 2 ^ p) = a
      · rw [if_pos g, if_pos (sub_iff.mpr (fun i hi => by
          rw [hx] at hi
          by_cases z : p = i
          · subst z; rw [q] at hi; simp at hi
          · have h1 : a.testBit i = true := by simpa [z] using hi
            have := sub_iff.mp g i h1
            rw [ho] at this
            simpa [z] using this))]
      · rw [if_neg g, if_neg (fun h => g (sub_iff.mpr (fun i hi => by
          rw [ho]
          by_cases z : p = i
          · simp [z]
          · have h1 : (a ^^^ 2 ^ p).testBit i = true := by rw [hx, hi]; simp [z]
            rw [sub_iff.mp h i h1]; rfl)))]
  rw [e2, sN_plus]
  show cK f m + _ = _
  rw [show sN (fun a => if (a ^^^ 2 ^ p) &&& m = a ^^^ 2 ^ p then (f (a ^^^ 2 ^ p)).toNat else 0) 4096 = cK f m from e1.symm]
  omega
/-- a variable that is not there -/
def abP (ic lc p : Nat) : Prop := (p < 8 ∧ ic ≤ p) ∨ 8 + lc ≤ p
theorem pr_i : ∀ i, i < 8 → ∀ l, l < 5 → prN (i + 1) l = prN i l ||| 2 ^ i ∧ (prN i l).testBit i = false := by decide +kernel
theorem pr_l : ∀ i, i < 9 → ∀ l, l < 4 → prN i (l + 1) = prN i l ||| 2 ^ (8 + l) ∧ (prN i l).testBit (8 + l) = false := by decide +kernel
theorem cK_i {f : Nat → Bool} {ic lc l : Nat} (hl : l < 5) (hf : ∀ p, p < 12 → abP ic lc p → ∀ a, a < 4096 → f (a ^^^ 2 ^ p) = f a) : ∀ d, ic + d ≤ 8 → cK f (prN (ic + d) l) = 2 ^ d * cK f (prN ic l)
  | 0, _ => by rw [Nat.pow_zero, Nat.one_mul, Nat.add_zero]
  | d + 1, h => by
    rw [show ic + (d + 1) = ic + d + 1 by omega, (pr_i (ic + d) (by omega) l hl).1, cK_dbl (by omega) (pr_i (ic + d) (by omega) l hl).2 (hf (ic + d) (by omega) (Or.inl ⟨by omega, by omega⟩)), cK_i hl hf d (by omega), Nat.pow_succ, ← Nat.mul_assoc, Nat.mul_comm (2 ^ d) 2]
theorem cK_l {f : Nat → Bool} {ic lc i : Nat} (hi : i < 9) (hf : ∀ p, p < 12 → abP ic lc p → ∀ a, a < 4096 → f (a ^^^ 2 ^ p) = f a) : ∀ d, lc + d ≤ 4 → cK f (prN i (lc + d)) = 2 ^ d * cK f (prN i lc)
  | 0, _ => by rw [Nat.pow_zero, Nat.one_mul, Nat.add_zero]
  | d + 1, h => by
    rw [show lc + (d + 1) = lc + d + 1 by omega, (pr_l i hi (lc + d) (by omega)).1, cK_dbl (by omega) (pr_l i hi (lc + d) (by omega)).2 (hf (8 + (lc + d)) (by omega) (Or.inr (by omega))), cK_l hi hf d (by omega), Nat.pow_succ, ← Nat.mul_assoc, Nat.mul_comm (2 ^ d) 2]
theorem cK_all {f : Nat → Bool} {ic lc : Nat} (hi : ic ≤ 8) (hl : lc ≤ 4) (hf : ∀ p, p < 12 → abP ic lc p → ∀ a, a < 4096 → f (a ^^^ 2 ^ p) = f a) : sN (fun a => (f a).toNat) 4096 / 2 ^ (12 - ic - lc) = cK f (prN ic lc) := by
  have e : sN (fun a => (f a).toNat) 4096 = cK f (prN 8 4) := sN_cg _ (fun a ha => by
    show (f a).toNat = if a &&& prN 8 4 = a then (f a).toNat else 0
    rw [if_pos (by rw [show prN 8 4 = 2 ^ 12 - 1 from by decide, Nat.and_two_pow_sub_one_eq_mod]; exact Nat.mod_eq_of_lt ha)])
  have e1 := cK_i (l := 4) (by omega) hf (8 - ic) (by omega)
  have e2 := cK_l (i := ic) (by omega) hf (4 - lc) (by omega)
  rw [show ic + (8 - ic) = 8 by omega] at e1
  rw [show lc + (4 - lc) = 4 by omega] at e2
  rw [e, e1, e2, ← Nat.mul_assoc, ← Nat.pow_add, show 8 - ic + (4 - lc) = 12 - ic - lc by omega, Nat.mul_div_cancel_left _ (Nat.two_pow_pos _)]
theorem on_s (fr : Nat → Int64) (lit pr : Nat) : ∀ a, onM fr lit pr a = sN (fun a => if a &&& pr = a then (bt fr lit a).toNat else 0) a
  | 0 => rfl
  | a + 1 => by unfold onM sN; rw [on_s fr lit pr a]
theorem pc_s (f : Nat → Bool) : ∀ n, pc f n = sN (fun j => (f j).toNat) n
  | 0 => rfl
  | n + 1 => by unfold pc sN; rw [pc_s f n]
theorem onF_s (fr : Nat → Int64) (lit : Nat) : ∀ k, onF fr lit k = sN (fun a => (bt fr lit a).toNat) (k * 64)
  | 0 => rfl
  | k + 1 => by
    unfold onF
    rw [onF_s fr lit k, show (k + 1) * 64 = k * 64 + 64 by omega, sN_add, pc_s]
    congr 1
    exact sN_cg _ (fun j hj => by show _ = (bt fr lit (k * 64 + j)).toNat; rw [bt_dec _ _ _ _ hj])
theorem ones_eq {fr : Nat → Int64} {lit ic lc : Nat} (hi : ic ≤ 8) (hl : lc ≤ 4) (hf : ∀ p, p < 12 → abP ic lc p → ∀ a, a < 4096 → bt fr lit (a ^^^ 2 ^ p) = bt fr lit a) : onF fr lit 64 / 2 ^ (12 - ic - lc) = onM fr lit (prN ic lc) 4096 := by
  rw [onF_s, on_s]
  exact cK_all (f := bt fr lit) hi hl hf
/-! A value hangs on what is present alone. -/
theorem in_eq {f : Nat → Bool} {ic lc : Nat} (hf : ∀ p, p < 12 → abP ic lc p → ∀ a, a < 4096 → f (a ^^^ 2 ^ p) = f a) {a b : Nat} (ha : a < 4096) (hb : b < 4096) (hq : ∀ p, p < 12 → ¬ abP ic lc p → a.testBit p = b.testBit p) : f a = f b := by
  have key : ∀ k, k ≤ 12 → ∃ c, c < 4096 ∧ f c = f a ∧ (∀ p, p < k → c.testBit p = b.testBit p) ∧ ∀ p, k ≤ p → c.testBit p = a.testBit p := by
    intro k
    induction k with
    | zero => intro _; exact ⟨a, ha, rfl, fun p h => absurd h (Nat.not_lt_zero _), fun _ _ => rfl⟩
    | succ k ih =>
      intro hk
      obtain ⟨c, c1, c2, c3, c4⟩ := ih (by omega)
      by_cases q : a.testBit k = b.testBit k
      · refine ⟨c, c1, c2, fun p hp => ?_, fun p hp => c4 p (by omega)⟩
        by_cases z : p = k
        · subst z; rw [c4 p (Nat.le_refl _), q]
        · exact c3 p (by omega)
      · have hab : abP ic lc k := Classical.byContradiction (fun h => q (hq k (by omega) h))
        refine ⟨c ^^^ 2 ^ k, xlt c1 (by omega), by rw [hf k (by omega) hab c c1, c2], fun p hp => ?_, fun p hp => ?_⟩
        · rw [Nat.testBit_xor, Nat.testBit_two_pow]
          by_cases z : p = k
          · subst z
            rw [c4 p (Nat.le_refl _)]
            cases g1 : a.testBit p <;> cases g2 : b.testBit p <;> simp [g1, g2] at q ⊢
          · rw [c3 p (by omega)]; simp [show ¬ k = p by omega]
        · rw [Nat.testBit_xor, Nat.testBit_two_pow, c4 p (by omega)]; simp [show ¬ k = p by omega]
  obtain ⟨c, c1, c2, c3, -⟩ := key 12 (Nat.le_refl _)
  have : c = b := by
    apply Nat.eq_of_testBit_eq
    intro p
    by_cases z : p < 12
    · exact c3 p z
    · have h12 : 2 ^ 12 ≤ 2 ^ p := Nat.pow_le_pow_right (by omega) (by omega)
      rw [Nat.testBit_lt_two_pow (show c < 2 ^ p by omega), Nat.testBit_lt_two_pow (show b < 2 ^ p by omega)]
  rw [← c2, this]
