/-! The functions of the class and of the model: sameness, firsts, classes. -/
theorem bt_dec (fr : Nat → Int64) (lit w j : Nat) (hj : j < 64) : bt fr lit (w * 64 + j) = (wd fr lit w).toBitVec.getLsbD j := by
  unfold bt
  rw [show (w * 64 + j) / 64 = w by omega, show (w * 64 + j) % 64 = j by omega]
theorem sm_bt {fr : Nat → Int64} {a b : Nat} : smF fr a b = true ↔ ∀ k, k < 4096 → bt fr a k = bt fr b k := by
  rw [smF_t]
  constructor
  · intro h k hk
    unfold bt
    rw [h (k / 64) (by omega)]
  · intro h w hw
    apply Int64.toBitVec_inj.mp
    apply BitVec.eq_of_getLsbD_eq
    intro j hj
    rw [← bt_dec fr a w j hj, ← bt_dec fr b w j hj]
    exact h _ (by omega)
theorem sm_ne {fr : Nat → Int64} {a b k : Nat} (hk : k < 4096) (h : ¬ bt fr a k = bt fr b k) : smF fr a b = false := by
  cases q : smF fr a b
  · rfl
  · exact absurd (sm_bt.mp q k hk) h
theorem sm_rf (fr : Nat → Int64) (a : Nat) : smF fr a a = true := sm_bt.mpr (fun _ _ => rfl)
theorem sm_sy {fr : Nat → Int64} {a b : Nat} (h : smF fr a b = true) : smF fr b a = true := sm_bt.mpr (fun k hk => (sm_bt.mp h k hk).symm)
theorem sm_tr {fr : Nat → Int64} {a b c : Nat} (h : smF fr a b = true) (g : smF fr b c = true) : smF fr a c = true := sm_bt.mpr (fun k hk => (sm_bt.mp h k hk).trans (sm_bt.mp g k hk))
theorem not_bit (x : Int64) {j : Nat} (hj : j < 64) : (x ^^^ (-1)).toBitVec.getLsbD j = !x.toBitVec.getLsbD j := by
  have h1 : (x ^^^ (-1)).toBitVec = x.toBitVec ^^^ BitVec.allOnes 64 := rfl
  rw [h1, BitVec.getLsbD_xor, BitVec.getLsbD_allOnes]; simp [hj]
theorem bt_odd (fr : Nat → Int64) (n k : Nat) : bt fr (2 * n + 1) k = !bt fr (2 * n) k := by
  unfold bt wd
  rw [if_pos (by omega), if_neg (by omega), show (2 * n + 1) / 2 = n by omega, show 2 * n / 2 = n by omega]
  exact not_bit _ (Nat.mod_lt _ (by omega))
/-- the other literal of a node -/
def flN (l : Nat) : Nat := if l % 2 = 0 then l + 1 else l - 1
theorem flN_x : ∀ m, m < 1000 → m ^^^ 1 = flN m := by decide +kernel
theorem bt_fl (fr : Nat → Int64) (l k : Nat) : bt fr (flN l) k = !bt fr l k := by
  unfold flN
  by_cases h : l % 2 = 0
  · rw [if_pos h, show l = 2 * (l / 2) by omega]; exact bt_odd fr (l / 2) k
  · rw [if_neg h, show l - 1 = 2 * (l / 2) by omega]
    have := bt_odd fr (l / 2) k
    rw [show 2 * (l / 2) + 1 = l by omega] at this
    rw [this, Bool.not_not]
theorem sm_fl {fr : Nat → Int64} {a b : Nat} (h : smF fr a b = true) : smF fr (flN a) (flN b) = true := sm_bt.mpr (fun k hk => by rw [bt_fl, bt_fl, sm_bt.mp h k hk])
theorem flN_fl (a : Nat) : flN (flN a) = a := by unfold flN; split <;> split <;> omega
theorem sm_no {fr : Nat → Int64} {a b : Nat} (h : smF fr a b = true) (g : smF fr (flN a) b = true) : False := by
  have h1 := sm_bt.mp h 0 (by omega)
  have h2 := sm_bt.mp g 0 (by omega)
  rw [bt_fl] at h2
  rw [← h1] at h2
  cases q : bt fr a 0 <;> rw [q] at h2 <;> cases h2
theorem fm_go (fr : Nat → Int64) (lit : Nat) : ∀ n i, i + n = lit → i ≤ fmF fr lit n i ∧ fmF fr lit n i ≤ lit ∧ smF fr (fmF fr lit n i) lit = true ∧ ∀ l, i ≤ l → l < fmF fr lit n i → smF fr l lit = false
  | 0, i, h => by
    have h : i = lit := by omega
    subst h
    exact ⟨Nat.le_refl _, Nat.le_refl _, sm_rf _ _, fun l h1 h2 => absurd h2 (Nat.not_lt.mpr h1)⟩
  | n + 1, i, h => by
    unfold fmF
    by_cases q : smF fr i lit = true
    · rw [if_pos q]
      exact ⟨Nat.le_refl _, by omega, q, fun l h1 h2 => absurd h2 (Nat.not_lt.mpr h1)⟩
    · rw [if_neg q]
      obtain ⟨a1, a2, a3, a4⟩ := fm_go fr lit n (i + 1) (by omega)
      refine ⟨by omega, a2, a3, fun l h1 h2 => ?_⟩
      by_cases hl : l = i
      · subst hl; simpa using q
      · exact a4 l (by omega) h2
/-- the first of a literal -/
def fmN (fr : Nat → Int64) (lit : Nat) : Nat := fmF fr lit lit 0
theorem fm_sp (fr : Nat → Int64) (lit : Nat) : fmN fr lit ≤ lit ∧ smF fr (fmN fr lit) lit = true ∧ ∀ l, l < fmN fr lit → smF fr l lit = false := by
  obtain ⟨-, a2, a3, a4⟩ := fm_go fr lit lit 0 (by omega)
  exact ⟨a2, a3, fun l h => a4 l (Nat.zero_le _) h⟩
theorem fm_un {fr : Nat → Int64} {lit m : Nat} (h2 : smF fr m lit = true) (h3 : ∀ l, l < m → smF fr l lit = false) : fmN fr lit = m := by
  obtain ⟨a1, a2, a3⟩ := fm_sp fr lit
  rcases Nat.lt_trichotomy (fmN fr lit) m with h | h | h
  · have := h3 _ h
    rw [a2] at this; cases this
  · exact h
  · have := a3 _ h
    rw [h2] at this; cases this
theorem fm_odd (fr : Nat → Int64) (j : Nat) : fmN fr (2 * j + 1) = flN (fmN fr (2 * j)) := by
  obtain ⟨a1, a2, a3⟩ := fm_sp fr (2 * j)
  have e : flN (2 * j) = 2 * j + 1 := by unfold flN; rw [if_pos (by omega)]
  generalize fmN fr (2 * j) = m at a1 a2 a3
  refine fm_un (by rw [← e]; exact sm_fl a2) (fun l hl => ?_)
  cases q : smF fr l (2 * j + 1)
  · rfl
  · rw [← e] at q
    have q2 := sm_fl q
    rw [flN_fl] at q2
    have h1 : ¬ flN l < m := fun h => by rw [a3 _ h] at q2; cases q2
    have h2 : ¬ l = m := fun h => by
      subst h
      exact sm_no (a := flN l) q2 (by rw [flN_fl]; exact a2)
    exfalso
    unfold flN at h1 hl
    split at h1 <;> split at hl <;> omega
theorem fm_iff {fr : Nat → Int64} {a b : Nat} : fmN fr a = fmN fr b ↔ smF fr a b = true := by
  obtain ⟨a1, a2, a3⟩ := fm_sp fr a
  constructor
  · intro h
    obtain ⟨b1, b2, b3⟩ := fm_sp fr b
    rw [← h] at b2
    exact sm_tr (sm_sy a2) b2
  · intro h
    refine (fm_un (sm_tr a2 h) (fun l hl => ?_)).symm
    cases q : smF fr l b
    · rfl
    · have := sm_tr q (sm_sy h)
      rw [a3 l hl] at this; cases this
theorem fm_self {fr : Nat → Int64} {n : Nat} : fmN fr (2 * n) = 2 * n ↔ lsF fr n = true := by
  unfold lsF
  rw [decide_eq_true_iff]
  constructor
  · intro h
    obtain ⟨-, -, a3⟩ := fm_sp fr (2 * n)
    rw [h] at a3
    exact fun m hm => ⟨a3 _ (by omega), a3 _ (by omega)⟩
  · intro h
    refine fm_un (sm_rf _ _) (fun l hl => ?_)
    have := h (l / 2) (by omega)
    rcases Nat.mod_two_eq_zero_or_one l with q | q
    · rw [show l = 2 * (l / 2) by omega]; exact this.1
    · rw [show l = 2 * (l / 2) + 1 by omega]; exact this.2
/-! The class's own search. -/
theorem xor0 {x y : Int64} : x ^^^ y = 0 ↔ x = y := by
  constructor
  · intro h
    have : (x ^^^ y) ^^^ y = 0 ^^^ y := by rw [h]
    rw [Int64.xor_assoc, Int64.xor_self, Int64.xor_zero, Int64.zero_xor] at this
    exact this
  · intro h; rw [h, Int64.xor_self]
theorem ld_sp (fr : Nat → Int64) (la lb : Nat) : ∀ n i, i + n ≤ 64 → ((∀ w, i ≤ w → w < i + n → wd fr la w = wd fr lb w) ∧ ldF fr la lb n i = -1) ∨ ∃ a, i * 64 ≤ a ∧ a < (i + n) * 64 ∧ ¬ bt fr la a = bt fr lb a ∧ (∀ k, i * 64 ≤ k → k < a → bt fr la k = bt fr lb k) ∧ ldF fr la lb n i = nI a
  | 0, i, _ => Or.inl ⟨fun w h1 h2 => absurd h2 (by omega), rfl⟩
  | n + 1, i, h => by
    unfold ldF
    by_cases q : wd fr la i ^^^ wd fr lb i = 0
    · rw [if_pos q]
      have q := xor0.mp q
      rcases ld_sp fr la lb n (i + 1) (by omega) with ⟨a1, a2⟩ | ⟨a, a1, a2, a3, a4, a5⟩
      · exact Or.inl ⟨fun w h1 h2 => if hw : w = i then hw ▸ q else a1 w (by omega) (by omega), a2⟩
      · refine Or.inr ⟨a, by omega, by omega, a3, fun k h1 h2 => ?_, a5⟩
        by_cases hk : (i + 1) * 64 ≤ k
        · exact a4 k hk h2
        · unfold bt
          rw [show k / 64 = i by omega, q]
    · rw [if_neg q]
      right
      obtain ⟨-, b2, b3, b4⟩ := tz_spec (wd fr la i ^^^ wd fr lb i).toBitVec.getLsbD 64 0
      have hx : ∀ j, (wd fr la i ^^^ wd fr lb i).toBitVec.getLsbD j = ((wd fr la i).toBitVec.getLsbD j ^^ (wd fr lb i).toBitVec.getLsbD j) := fun j => by
        rw [show (wd fr la i ^^^ wd fr lb i).toBitVec = (wd fr la i).toBitVec ^^^ (wd fr lb i).toBitVec from rfl, BitVec.getLsbD_xor]
      have hlt : tz (wd fr la i ^^^ wd fr lb i).toBitVec.getLsbD 64 0 < 64 := by
        rcases Nat.lt_or_ge (tz (wd fr la i ^^^ wd fr lb i).toBitVec.getLsbD 64 0) 64 with g | g
        · exact g
        · refine absurd (Int64.toBitVec_inj.mp (?_ : (wd fr la i ^^^ wd fr lb i).toBitVec = (0 : Int64).toBitVec)) q
          apply BitVec.eq_of_getLsbD_eq
          intro j hj
          rw [b3 j (Nat.zero_le _) (by omega)]
          show false = (0#64).getLsbD j
          simp
      have b4 := b4 (by omega)
      generalize tz (wd fr la i ^^^ wd fr lb i).toBitVec.getLsbD 64 0 = t at hlt b3 b4 ⊢
      refine ⟨i * 64 + t, by omega, by omega, ?_, fun k h1 h2 => ?_, rfl⟩
      · rw [bt_dec _ _ _ _ hlt, bt_dec _ _ _ _ hlt]
        rw [hx] at b4
        intro e; rw [e] at b4; simp at b4
      · rw [show k = i * 64 + (k - i * 64) by omega, bt_dec _ _ _ _ (by omega), bt_dec _ _ _ _ (by omega)]
        have := b3 (k - i * 64) (Nat.zero_le _) (by omega)
        rw [hx] at this
        simpa using this
theorem ld_neg {fr : Nat → Int64} {la lb : Nat} : ldF fr la lb 64 0 = -1 ↔ smF fr la lb = true := by
  rcases ld_sp fr la lb 64 0 (by omega) with ⟨a1, a2⟩ | ⟨a, a1, a2, a3, a4, a5⟩
  · exact ⟨fun _ => smF_t.mpr (fun w hw => a1 w (Nat.zero_le _) (by omega)), fun _ => a2⟩
  · constructor
    · intro h; rw [a5] at h; exact absurd h (sp_ne (by omega))
    · intro h; exact absurd (sm_bt.mp h a (by omega)) a3
theorem ff_fm (fr : Nat → Int64) (nd : Nat) : ∀ n i, i + n = nd → (∀ l, l < 2 * i → smF fr l (2 * nd) = false) → ffF fr nd n i = nI (fmN fr (2 * nd))
  | 0, i, h, hl => by
    have h : i = nd := by omega
    subst h
    unfold ffF
    rw [fm_un (sm_rf _ _) hl]
  | n + 1, i, h, hl => by
    unfold ffF
    have hc0 : bt fr (cand fr nd i) 0 = bt fr (2 * nd) 0 := by
      unfold cand
      cases q : (bt fr (2 * i) 0 ^^ bt fr (2 * nd) 0)
      · simp at q; simp [q]
      · simp only [Bool.toNat_true]
        rw [bt_odd]
        cases q1 : bt fr (2 * i) 0 <;> cases q2 : bt fr (2 * nd) 0 <;> rw [q1, q2] at q <;> simp at q <;> rfl
    have hcr : cand fr nd i = 2 * i ∨ cand fr nd i = 2 * i + 1 := by
      unfold cand
      cases (bt fr (2 * i) 0 ^^ bt fr (2 * nd) 0)
      · exact Or.inl rfl
      · exact Or.inr rfl
    have hother : ∀ l, l = 2 * i ∨ l = 2 * i + 1 → ¬ l = cand fr nd i → smF fr l (2 * nd) = false := by
      intro l h1 h2
      refine sm_ne (k := 0) (by omega) (fun h3 => ?_)
      have e := bt_odd fr i 0
      rw [← hc0] at h3
      rcases h1 with h1 | h1 <;> rcases hcr with h4 | h4 <;> rw [h1, h4] at h2 h3 <;> first | exact h2 rfl | (rw [e] at h3; cases q : bt fr (2 * i) 0 <;> rw [q] at h3 <;> cases h3)
    by_cases q : ldF fr (cand fr nd i) (2 * nd) 64 0 = -1
    · rw [if_pos q]
      have q := ld_neg.mp q
      rw [fm_un q (fun l h1 => ?_)]
      by_cases h2 : l < 2 * i
      · exact hl l h2
      · exact hother l (by omega) (by omega)
    · rw [if_neg q]
      have q : smF fr (cand fr nd i) (2 * nd) = false := by
        cases g : smF fr (cand fr nd i) (2 * nd)
        · rfl
        · exact absurd (ld_neg.mpr g) q
      refine ff_fm fr nd n (i + 1) (by omega) (fun l h1 => ?_)
      by_cases h2 : l < 2 * i
      · exact hl l h2
      · by_cases h3 : l = cand fr nd i
        · rw [h3]; exact q
        · exact hother l (by omega) h3
theorem ff_fm0 (fr : Nat → Int64) (nd : Nat) : ffF fr nd nd 0 = nI (fmN fr (2 * nd)) := ff_fm fr nd nd 0 (by omega) (fun l h => absurd h (Nat.not_lt_zero _))
/-! What the table of firsts says. -/
theorem fs1_fm {fr : Nat → Int64} {ff : Nat → Int32} {cnt lit : Nat} (hff : ∀ j, j < cnt → ff j = nI (fmN fr (2 * j))) (hc : cnt ≤ 400) (h : lit < 2 * cnt) : fs1 ff lit = nI (fmN fr lit) := by
  unfold fs1
  rw [hff (lit / 2) (by omega), n_xor]
  rcases Nat.mod_two_eq_zero_or_one lit with q | q
  · rw [q, Nat.xor_zero, show 2 * (lit / 2) = lit by omega]
  · have b := (fm_sp fr (2 * (lit / 2))).1
    rw [q, flN_x _ (by omega), ← fm_odd, show 2 * (lit / 2) + 1 = lit by omega]
theorem fs1_sm {fr : Nat → Int64} {ff : Nat → Int32} {cnt a b : Nat} (hff : ∀ j, j < cnt → ff j = nI (fmN fr (2 * j))) (hc : cnt ≤ 400) (ha : a < 2 * cnt) (hb : b < 2 * cnt) : fs1 ff a = fs1 ff b ↔ smF fr a b = true := by
  rw [fs1_fm hff hc ha, fs1_fm hff hc hb]
  have q1 := (fm_sp fr a).1
  have q2 := (fm_sp fr b).1
  rw [nI_eq (by omega) (by omega)]
  exact fm_iff
theorem ff_ls {fr : Nat → Int64} {ff : Nat → Int32} {cnt k : Nat} (hff : ∀ j, j < cnt → ff j = nI (fmN fr (2 * j))) (hc : cnt ≤ 400) (h : k < cnt) : ff k = nI (2 * k) ↔ lsF fr k = true := by
  rw [hff k h]
  have q1 := (fm_sp fr (2 * k)).1
  rw [nI_eq (by omega) (by omega)]
  exact fm_self
theorem cls_eq {fr : Nat → Int64} {ff : Nat → Int32} {cnt : Nat} (hff : ∀ j, j < cnt → ff j = nI (fmN fr (2 * j))) (hc : cnt ≤ 400) : ∀ k, k ≤ cnt → cCls ff k = cM fr k
  | 0, _ => rfl
  | k + 1, h => by
    unfold cCls cM
    rw [cls_eq hff hc k (by omega)]
    by_cases q : ff k = nI (2 * k)
    · rw [if_pos q, if_pos ((ff_ls hff hc (by omega)).mp q)]
    · rw [if_neg q, if_neg (fun g => q ((ff_ls hff hc (by omega)).mpr g))]
theorem mer_eq {fr : Nat → Int64} {fo ff : Nat → Int32} {sd : Int32} {cnt : Nat} (hff : ∀ j, j < cnt → ff j = nI (fmN fr (2 * j))) (hc : cnt ≤ 400) : ∀ k, k ≤ cnt → cMer fo ff sd k = mM fo fr sd k
  | 0, _ => rfl
  | k + 1, h => by
    unfold cMer mM
    rw [mer_eq hff hc k (by omega)]
    congr 1
    have e := ff_ls hff hc (show k < cnt by omega)
    by_cases q : fo k = sd
    · by_cases g : ff k = nI (2 * k)
      · rw [if_neg (fun z => z.2 g), if_neg (fun z => by rw [e.mp g] at z; cases z.2)]
      · rw [if_pos ⟨q, g⟩, if_pos ⟨q, by
          cases z : lsF fr k
          · rfl
          · exact absurd (e.mpr z) g⟩]
    · rw [if_neg (fun z => q z.1), if_neg (fun z => q z.1)]
/-! The least assignment that tells two literals apart. -/
theorem wi_sp (fr : Nat → Int64) (la lb : Nat) : ∀ n i, ((∀ k, i ≤ k → k < i + n → bt fr la k = bt fr lb k) → wiF fr la lb n i = -1) ∧ ∀ a, i ≤ a → a < i + n → ¬ bt fr la a = bt fr lb a → (∀ k, i ≤ k → k < a → bt fr la k = bt fr lb k) → wiF fr la lb n i = nI a
  | 0, i => ⟨fun _ => rfl, fun a h1 h2 => absurd h2 (by omega)⟩
  | n + 1, i => by
    obtain ⟨a1, a2⟩ := wi_sp fr la lb n (i + 1)
    unfold wiF
    refine ⟨fun h => ?_, fun a h1 h2 h3 h4 => ?_⟩
    · rw [if_pos (h i (Nat.le_refl _) (by omega))]
      exact a1 (fun k g1 g2 => h k (by omega) (by omega))
    · by_cases g : a = i
      · subst g; rw [if_neg h3]
      · rw [if_pos (h4 i (Nat.le_refl _) (by omega))]
        exact a2 a (by omega) (by omega) h3 (fun k g1 g2 => h4 k (by omega) g2)
theorem ld_wi (fr : Nat → Int64) (la lb : Nat) : ldF fr la lb 64 0 = wiF fr la lb 4096 0 := by
  obtain ⟨b1, b2⟩ := wi_sp fr la lb 4096 0
  rcases ld_sp fr la lb 64 0 (by omega) with ⟨a1, a2⟩ | ⟨a, a1, a2, a3, a4, a5⟩
  · rw [a2, b1 (fun k _ hk => sm_bt.mp (smF_t.mpr (fun w hw => a1 w (Nat.zero_le _) (by omega))) k (by omega))]
  · rw [a5, b2 a (by omega) (by omega) a3 (fun k g1 g2 => a4 k (by omega) g2)]
