/-! What holds at the head of the law's loop: nodes; designs. -/
def IN (ic lc cnt len : Nat) (fo ff : Nat → Int32) (fk fr : Nat → Int64) (fs : Nat → Int32) (ft : Nat → Int64) : Prop :=
  (1 ≤ cnt ∧ cnt ≤ 400 ∧ ic ≤ 8 ∧ lc ≤ 4) ∧ (cnt * 64 ≤ len ∧ 2048 ≤ len ∧ len ≤ 25600 ∧ (len = 2048 ∨ len = 4096 ∨ len = 8192 ∨ len = 16384 ∨ len = 25600)) ∧ (∀ j, j < cnt → fs j = fo j) ∧ (∀ j, j < cnt * 64 → ft j = fr j) ∧ (∀ w, w < 64 → fr w = 0) ∧ (∀ j, j < cnt → ff j = nI (fmN fr (2 * j))) ∧
  (∀ j, j < cnt → ∀ p, p < 12 → abP ic lc p → ∀ a, a < 4096 → bt fr (2 * j) (a ^^^ 2 ^ p) = bt fr (2 * j) a) ∧ fo 0 = -1 ∧ ∀ j, j < cnt → fk j = mkF fr j
def IO (lc cnt oA cA rA tA : Nat) (gA nA : Nat → Nat) (sA : Nat → Int32) (oB cB rB tB : Nat) (gB nB : Nat → Nat) (sB : Nat → Int32) (gS gX gT gC gO : Nat → Nat) (fD : Nat → Int32) (gE : Nat → Nat) : Prop :=
  (oA ≤ 16 ∧ oB ≤ 16 ∧ cA ≤ 16 ∧ cB ≤ 16) ∧ (gC 0 = oA ∧ gC 1 = oB ∧ gE 0 = cA ∧ gE 1 = cB) ∧ (∀ j, j < oA → gO j = gA j ∧ gA j < 2 * cnt) ∧ (∀ j, j < oB → gO (16 + j) = gB j ∧ gB j < 2 * cnt) ∧
  (∀ j, j < lc → gX j = nA j ∧ nA j < 2 * cnt ∧ gX (4 + j) = nB j ∧ nB j < 2 * cnt) ∧ (∀ j, j < cA → fD j = sA j) ∧ (∀ j, j < cB → fD (16 + j) = sB j) ∧
  (rA = pkF gS 0 lc ∧ rB = pkF gS 4 lc ∧ tA = pkF gT 0 lc ∧ tB = pkF gT 4 lc) ∧ ∀ j, j < 8 → gS j < 2 ∧ gT j < 2
theorem gr_sp (cnt len : Nat) (h3 : cnt * 64 ≤ len) (h4 : cnt < 400) (h5 : (len = 2048 ∨ len = 4096 ∨ len = 8192 ∨ len = 16384 ∨ len = 25600)) : grS cnt len ≤ 3 * (grL cnt len - len) ∧ len ≤ grL cnt len ∧ grL cnt len ≤ 25600 ∧ grS cnt len ≤ 25600 ∧ (cnt + 1) * 64 ≤ grL cnt len ∧ (grL cnt len = 2048 ∨ grL cnt len = 4096 ∨ grL cnt len = 8192 ∨ grL cnt len = 16384 ∨ grL cnt len = 25600) := by
  unfold grS grL
  by_cases q : (cnt + 1) * 64 ≤ len
  · rw [if_pos q, if_pos q]
    exact ⟨by omega, by omega, by omega, by omega, by omega, h5⟩
  · rw [if_neg q, if_neg q]
    rcases h5 with h5 | h5 | h5 | h5 | h5 <;> subst h5
    · exact ⟨by omega, by omega, by omega, by omega, by omega, Or.inr (Or.inl (by decide))⟩
    · exact ⟨by omega, by omega, by omega, by omega, by omega, Or.inr (Or.inr (Or.inl (by decide)))⟩
    · exact ⟨by omega, by omega, by omega, by omega, by omega, Or.inr (Or.inr (Or.inr (Or.inl (by decide))))⟩
    · exact ⟨by omega, by omega, by omega, by omega, by omega, Or.inr (Or.inr (Or.inr (Or.inr (by decide))))⟩
    · exact ⟨by omega, by omega, by omega, by omega, by omega, Or.inr (Or.inr (Or.inr (Or.inr (by decide))))⟩
theorem lit_in {ic lc cnt : Nat} {fr : Nat → Int64} (h : ∀ j, j < cnt → ∀ p, p < 12 → abP ic lc p → ∀ a, a < 4096 → bt fr (2 * j) (a ^^^ 2 ^ p) = bt fr (2 * j) a) {lit : Nat} (hl : lit < 2 * cnt) : ∀ p, p < 12 → abP ic lc p → ∀ a, a < 4096 → bt fr lit (a ^^^ 2 ^ p) = bt fr lit a := by
  intro p hp hab a ha
  rcases Nat.mod_two_eq_zero_or_one lit with q | q
  · rw [show lit = 2 * (lit / 2) by omega]; exact h (lit / 2) (by omega) p hp hab a ha
  · rw [show lit = 2 * (lit / 2) + 1 by omega, bt_odd, bt_odd, h (lit / 2) (by omega) p hp hab a ha]
/-- one node more -/
theorem in_add {ic lc cnt len : Nat} {fo ff : Nat → Int32} {fk fr : Nat → Int64} {fs : Nat → Int32} {ft : Nat → Int64} (hI : IN ic lc cnt len fo ff fk fr fs ft) (h4 : cnt < 400) {ic2 lc2 : Nat} (hi : ic ≤ ic2) (hi8 : ic2 ≤ 8) (hl : lc ≤ lc2) (hl4 : lc2 ≤ 4) (o9 : Int32) {W9 Wt fr2 : Nat → Int64}
    (hlo : ∀ j, j < cnt * 64 → fr2 j = fr j) (hhi : ∀ w, w < 64 → fr2 (cnt * 64 + w) = W9 w) (hW : ∀ w, w < 64 → Wt w = W9 w) (hind : ∀ p, p < 12 → abP ic2 lc2 p → ∀ a, a < 4096 → (W9 ((a ^^^ 2 ^ p) / 64)).toBitVec.getLsbD ((a ^^^ 2 ^ p) % 64) = (W9 (a / 64)).toBitVec.getLsbD (a % 64)) :
    IN ic2 lc2 (cnt + 1) (grL cnt len) (upd fo cnt o9) (upd ff cnt (ffF fr2 cnt cnt 0)) (vp_updL fk cnt (mkF fr2 cnt)) fr2 (upd fs cnt o9) (rwF ft cnt Wt 64) := by
  obtain ⟨⟨a1, a2, a3, a4⟩, ⟨b1, b2, b3, b4⟩, hfs, hft, hz, hff, hin, h0, hfk⟩ := hI
  obtain ⟨g1, g2, g3, g4, g5, g6⟩ := gr_sp cnt len b1 h4 b4
  refine ⟨⟨by omega, by omega, hi8, hl4⟩, ⟨g5, by omega, g3, g6⟩, fun j hj => ?_, fun j hj => ?_, fun w hw => ?_, fun j hj => ?_, fun j hj p hp hab a ha => ?_, ?_, fun j hj => ?_⟩
  · unfold upd
    by_cases q : j = cnt
    · rw [if_pos q, if_pos q]
    · rw [if_neg q, if_neg q]; exact hfs j (by omega)
  · by_cases q : j < cnt * 64
    · rw [rwF_lo q, hlo j q]; exact hft j q
    · rw [show j = cnt * 64 + (j - cnt * 64) by omega, rwF_hi (by omega), hhi _ (by omega), hW _ (by omega)]
  · rw [hlo w (by omega)]; exact hz w hw
  · unfold upd
    by_cases q : j = cnt
    · rw [if_pos q, q]; exact ff_fm0 fr2 cnt
    · rw [if_neg q, hff j (by omega)]
      exact congrArg nI (fm_c (cnt := cnt) hlo (by omega) _ _ (by omega)).symm
  · by_cases q : j = cnt
    · subst q
      have e : ∀ k, k < 4096 → bt fr2 (2 * j) k = (W9 (k / 64)).toBitVec.getLsbD (k % 64) := fun k hk => by
        unfold bt wd
        rw [if_neg (by omega), show 2 * j / 2 = j by omega, hhi _ (by omega)]
      rw [e _ (xlt ha hp), e a ha]
      exact hind p hp hab a ha
    · rw [bt_c (cnt := cnt) hlo (by omega) (xlt ha hp), bt_c (cnt := cnt) hlo (by omega) ha]
      refine hin j (by omega) p hp ?_ a ha
      rcases hab with ⟨c1, c2⟩ | c1
      · exact Or.inl ⟨c1, by omega⟩
      · exact Or.inr (by omega)
  · unfold upd
    rw [if_neg (by omega)]; exact h0
  · unfold vp_updL
    by_cases q : j = cnt
    · rw [if_pos q, q]
    · rw [if_neg q, hfk j (by omega)]
      exact mk_cg (fun w hw => (hlo _ (by omega)).symm)
theorem vw_in {v p a : Nat} (hv : v < 12) (hp : p < 12) (hn : v ≠ p) (ha : a < 4096) : (vwF v ((a ^^^ 2 ^ p) / 64)).toBitVec.getLsbD ((a ^^^ 2 ^ p) % 64) = (vwF v (a / 64)).toBitVec.getLsbD (a % 64) := by
  have hx := xlt ha hp
  rw [vw_bits v hv _ (by omega) _ (by omega), vw_bits v hv _ (by omega) _ (by omega), show (a ^^^ 2 ^ p) / 64 * 64 + (a ^^^ 2 ^ p) % 64 = a ^^^ 2 ^ p by omega, show a / 64 * 64 + a % 64 = a by omega, ← Nat.testBit_eq_decide_div_mod_eq, ← Nat.testBit_eq_decide_div_mod_eq, Nat.testBit_xor, Nat.testBit_two_pow]
  simp [show ¬ p = v by omega]
theorem in_input {ic lc cnt len : Nat} {fo ff : Nat → Int32} {fk fr : Nat → Int64} {fs : Nat → Int32} {ft : Nat → Int64} (hI : IN ic lc cnt len fo ff fk fr fs ft) (h4 : cnt < 400) (h8 : ic < 8) {fr2 : Nat → Int64} (hu : (∀ j, j < cnt * 64 → fr2 j = fr j) ∧ ∀ w, w < 64 → fr2 (cnt * 64 + w) = vwF ic w) :
    IN (ic + 1) lc (cnt + 1) (grL cnt len) (upd fo cnt (-1)) (upd ff cnt (ffF fr2 cnt cnt 0)) (vp_updL fk cnt (mkF fr2 cnt)) fr2 (upd fs cnt (-1)) (rwF ft cnt (vwF ic) 64) :=
  in_add hI h4 (by omega) (by omega) (Nat.le_refl _) hI.1.2.2.2 (-1) hu.1 hu.2 (fun _ _ => rfl) (fun p hp hab a ha => vw_in (by omega) hp (by rcases hab with ⟨c1, c2⟩ | c1 <;> omega) ha)
theorem in_latch {ic lc cnt len : Nat} {fo ff : Nat → Int32} {fk fr : Nat → Int64} {fs : Nat → Int32} {ft : Nat → Int64} (hI : IN ic lc cnt len fo ff fk fr fs ft) (h4 : cnt < 400) (h8 : lc < 4) {fr2 : Nat → Int64} (hu : (∀ j, j < cnt * 64 → fr2 j = fr j) ∧ ∀ w, w < 64 → fr2 (cnt * 64 + w) = vwF (8 + lc) w) :
    IN ic (lc + 1) (cnt + 1) (grL cnt len) (upd fo cnt (-1)) (upd ff cnt (ffF fr2 cnt cnt 0)) (vp_updL fk cnt (mkF fr2 cnt)) fr2 (upd fs cnt (-1)) (rwF ft cnt (vwF (8 + lc)) 64) :=
  in_add hI h4 (Nat.le_refl _) hI.1.2.2.1 (by omega) (by omega) (-1) hu.1 hu.2 (fun _ _ => rfl) (fun p hp hab a ha => vw_in (by omega) hp (by rcases hab with ⟨c1, c2⟩ | c1 <;> omega) ha)
theorem in_and {ic lc cnt len : Nat} {fo ff : Nat → Int32} {fk fr : Nat → Int64} {fs : Nat → Int32} {ft : Nat → Int64} (hI : IN ic lc cnt len fo ff fk fr fs ft) (h4 : cnt < 400) (sd : Int32) {la lb : Nat} (ha : la < 2 * cnt) (hb : lb < 2 * cnt) {fr2 : Nat → Int64} (hu : (∀ j, j < cnt * 64 → fr2 j = fr j) ∧ ∀ w, w < 64 → fr2 (cnt * 64 + w) = wd fr la w &&& wd fr lb w) :
    IN ic lc (cnt + 1) (grL cnt len) (upd fo cnt sd) (upd ff cnt (ffF fr2 cnt cnt 0)) (vp_updL fk cnt (mkF fr2 cnt)) fr2 (upd fs cnt sd) (rwF ft cnt (fun w => wd ft la w &&& wd ft lb w) 64) := by
  obtain ⟨⟨a1, a2, a3, a4⟩, -, -, hft, -, -, hin, -⟩ := id hI
  refine in_add hI h4 (Nat.le_refl _) a3 (Nat.le_refl _) a4 sd hu.1 hu.2 (fun w hw => ?_) (fun p hp hab a h => ?_)
  · show wd ft la w &&& wd ft lb w = _
    rw [wd_c hft ha hw, wd_c hft hb hw]
  · have e : ∀ k, (wd fr la (k / 64) &&& wd fr lb (k / 64)).toBitVec.getLsbD (k % 64) = (bt fr la k && bt fr lb k) := fun k => by
      rw [show (wd fr la (k / 64) &&& wd fr lb (k / 64)).toBitVec = (wd fr la (k / 64)).toBitVec &&& (wd fr lb (k / 64)).toBitVec from rfl, BitVec.getLsbD_and]
      rfl
    rw [e, e, lit_in hin ha p hp hab a h, lit_in hin hb p hp hab a h]
theorem in_clear {ic lc cnt len : Nat} {fo ff : Nat → Int32} {fk fr : Nat → Int64} {fs : Nat → Int32} {ft : Nat → Int64} (hI : IN ic lc cnt len fo ff fk fr fs ft) : IN 0 0 1 len fo ff fk fr (upd fs 0 (-1)) (zrF ft 64) := by
  obtain ⟨⟨a1, a2, a3, a4⟩, ⟨b1, b2, b3, b4⟩, hfs, hft, hz, hff, hin, h0, hfk⟩ := hI
  have hb0 : ∀ k, k < 4096 → bt fr (2 * 0) k = false := fun k hk => by
    unfold bt wd
    rw [if_neg (by omega), show 2 * 0 / 2 * 64 + k / 64 = k / 64 by omega, hz _ (by omega)]
    show (0#64).getLsbD _ = false
    simp
  refine ⟨⟨by omega, by omega, by omega, by omega⟩, ⟨by omega, b2, b3, b4⟩, fun j hj => ?_, fun j hj => ?_, hz, fun j hj => ?_, fun j hj p hp _ a ha => ?_, h0, fun j hj => hfk j (by omega)⟩
  · rw [show j = 0 by omega, h0]; rfl
  · unfold zrF
    rw [if_pos (by omega), hz j (by omega)]
  · exact hff j (by omega)
  · rw [show j = 0 by omega, hb0 _ (xlt ha hp), hb0 a ha]
theorem mk_zero : ∀ k, mkG (fun _ => 0) (-(0 &&& 1)) k = 0
  | 0 => rfl
  | k + 1 => by
    show mixF (mkG (fun _ => 0) (-(0 &&& 1)) k) 0 (-(0 &&& 1)) = 0
    rw [mk_zero k]
    decide +kernel
theorem in_new : IN 0 0 1 2048 (upd (fun _ => 0) 0 (-1)) (fun _ => 0) (fun _ => 0) (fun _ => 0) (upd (fun _ => 0) 0 (-1)) (zrF (fun _ => 0) 64) := by
  have hb0 : ∀ k, bt (fun _ => 0) (2 * 0) k = false := fun k => by
    unfold bt wd
    rw [if_neg (by omega)]
    show (0#64).getLsbD _ = false
    simp
  refine ⟨⟨by omega, by omega, by omega, by omega⟩, ⟨by omega, by omega, by omega, Or.inl rfl⟩, fun j hj => rfl, fun j hj => ?_, fun w hw => rfl, fun j hj => ?_, fun j hj p hp _ a ha => ?_, rfl, fun j hj => ?_⟩
  · unfold zrF
    rw [if_pos (by omega)]
  · rw [show j = 0 by omega]
    exact congrArg nI (Nat.le_zero.mp (fm_sp (fun _ => 0) (2 * 0)).1).symm
  · rw [show j = 0 by omega, hb0, hb0]
  · show (0 : Int64) = mkF (fun _ => 0) j
    exact (mk_zero 64).symm
section IOS
variable {lc cnt oA cA rA tA : Nat} {gA nA : Nat → Nat} {sA : Nat → Int32} {oB cB rB tB : Nat} {gB nB : Nat → Nat} {sB : Nat → Int32} {gS gX gT gC gO : Nat → Nat} {fD : Nat → Int32} {gE : Nat → Nat}
theorem io_grow (h : IO lc cnt oA cA rA tA gA nA sA oB cB rB tB gB nB sB gS gX gT gC gO fD gE) : IO lc (cnt + 1) oA cA rA tA gA nA sA oB cB rB tB gB nB sB gS gX gT gC gO fD gE := by
  obtain ⟨h1, h2, h3, h4, h5, h6, h7, h8, h9⟩ := h
  exact ⟨h1, h2, fun j hj => ⟨(h3 j hj).1, by have := (h3 j hj).2; omega⟩, fun j hj => ⟨(h4 j hj).1, by have := (h4 j hj).2; omega⟩, fun j hj => by
    obtain ⟨q1, q2, q3, q4⟩ := h5 j hj
    exact ⟨q1, by omega, q3, by omega⟩, h6, h7, h8, h9⟩
theorem upN_eq (g : Nat → Nat) (k v : Nat) : va_up g k v k = v := if_pos rfl
theorem upN_ne (g : Nat → Nat) {k j : Nat} (v : Nat) (h : j ≠ k) : va_up g k v j = g j := if_neg h
theorem cp_lo (g h : Nat → Nat) {j : Nat} (hj : j < 8) : cpF g h 8 j = g j := if_pos hj
theorem io_reset (h : IO lc cnt oA cA rA tA gA nA sA oB cB rB tB gB nB sB gS gX gT gC gO fD gE) (hl : lc ≤ 4) : IO lc cnt oA 0 rA rA gA nA sA oB 0 rB rB gB nB sB gS gX (cpF gS gT 8) gC gO fD (va_up (va_up gE 0 0) 1 0) := by
  obtain ⟨⟨a1, a2, a3, a4⟩, ⟨b1, b2, b3, b4⟩, h3, h4, h5, h6, h7, ⟨c1, c2, c3, c4⟩, h9⟩ := h
  refine ⟨⟨a1, a2, by omega, by omega⟩, ⟨b1, b2, rfl, rfl⟩, h3, h4, h5, fun j hj => absurd hj (Nat.not_lt_zero _), fun j hj => absurd hj (Nat.not_lt_zero _), ⟨c1, c2, ?_, ?_⟩, fun j hj => ⟨(h9 j hj).1, by rw [cp_lo _ _ hj]; exact (h9 j hj).1⟩⟩
  · rw [c1]; exact pk_cg lc (fun j hj => (cp_lo _ _ (by omega)).symm)
  · rw [c2]; exact pk_cg lc (fun j hj => (cp_lo _ _ (by omega)).symm)
theorem io_latch (h : IO lc cnt oA cA rA tA gA nA sA oB cB rB tB gB nB sB gS gX gT gC gO fD gE) (hl : lc < 4) {ta tb : Nat} (hta : ta < 2) (htb : tb < 2) :
    IO (lc + 1) (cnt + 1) oA 0 (rA ||| ta * 2 ^ lc) (rA ||| ta * 2 ^ lc) gA (va_up nA lc (2 * cnt)) sA oB 0 (rB ||| tb * 2 ^ lc) (rB ||| tb * 2 ^ lc) gB (va_up nB lc (2 * cnt)) sB (va_up (va_up gS lc ta) (4 + lc) tb) (va_up (va_up gX lc (2 * cnt)) (4 + lc) (2 * cnt)) (cpF (va_up (va_up gS lc ta) (4 + lc) tb) gT 8) gC gO fD (va_up (va_up gE 0 0) 1 0) := by
  obtain ⟨⟨a1, a2, a3, a4⟩, ⟨b1, b2, b3, b4⟩, h3, h4, h5, h6, h7, ⟨c1, c2, c3, c4⟩, h9⟩ := h
  have e0 : ∀ j, j < lc → va_up (va_up gS lc ta) (4 + lc) tb (0 + j) = gS (0 + j) := fun j hj => by rw [upN_ne _ _ (by omega), upN_ne _ _ (by omega)]
  have e4 : ∀ j, j < lc → va_up (va_up gS lc ta) (4 + lc) tb (4 + j) = gS (4 + j) := fun j hj => by rw [upN_ne _ _ (by omega), upN_ne _ _ (by omega)]
  have r0 : rA ||| ta * 2 ^ lc = pkF (va_up (va_up gS lc ta) (4 + lc) tb) 0 (lc + 1) := by
    unfold pkF
    rw [pk_cg lc e0, ← c1, Nat.zero_add, upN_ne _ _ (by omega), upN_eq]
  have r4 : rB ||| tb * 2 ^ lc = pkF (va_up (va_up gS lc ta) (4 + lc) tb) 4 (lc + 1) := by
    unfold pkF
    rw [pk_cg lc e4, ← c2, upN_eq]
  have hs : ∀ j, j < 8 → va_up (va_up gS lc ta) (4 + lc) tb j < 2 := fun j hj => by
    by_cases q : j = 4 + lc
    · rw [q, upN_eq]; exact htb
    · rw [upN_ne _ _ q]
      by_cases q2 : j = lc
      · rw [q2, upN_eq]; exact hta
      · rw [upN_ne _ _ q2]; exact (h9 j hj).1
  refine ⟨⟨a1, a2, by omega, by omega⟩, ⟨b1, b2, rfl, rfl⟩, fun j hj => ⟨(h3 j hj).1, by have := (h3 j hj).2; omega⟩, fun j hj => ⟨(h4 j hj).1, by have := (h4 j hj).2; omega⟩, fun j hj => ?_, fun j hj => absurd hj (Nat.not_lt_zero _), fun j hj => absurd hj (Nat.not_lt_zero _), ⟨r0, r4, ?_, ?_⟩, fun j hj => ⟨hs j hj, by rw [cp_lo _ _ hj]; exact hs j hj⟩⟩
  · by_cases q : j = lc
    · subst q
      rw [upN_ne _ _ (by omega), upN_eq, upN_eq, upN_eq, upN_eq]
      exact ⟨rfl, by omega, rfl, by omega⟩
    · obtain ⟨q1, q2, q3, q4⟩ := h5 j (by omega)
      rw [upN_ne _ _ (by omega), upN_ne _ _ q, upN_ne _ _ q, upN_ne _ _ (by omega), upN_ne _ _ (by omega), upN_ne _ _ q]
      exact ⟨q1, by omega, q3, by omega⟩
  · rw [r0]; exact pk_cg _ (fun j hj => (cp_lo _ _ (by omega)).symm)
  · rw [r4]; exact pk_cg _ (fun j hj => (cp_lo _ _ (by omega)).symm)
theorem io_out0 (h : IO lc cnt oA cA rA tA gA nA sA oB cB rB tB gB nB sB gS gX gT gC gO fD gE) (h16 : oA < 16) {lit : Nat} (hl : lit < 2 * cnt) : IO lc cnt (oA + 1) cA rA tA (va_up gA oA lit) nA sA oB cB rB tB gB nB sB gS gX gT (va_up gC 0 (gC 0 + 1)) (va_up gO (gC 0) lit) fD gE := by
  obtain ⟨⟨a1, a2, a3, a4⟩, ⟨b1, b2, b3, b4⟩, h3, h4, h5, h6, h7, h8, h9⟩ := h
  refine ⟨⟨by omega, a2, a3, a4⟩, ⟨by rw [upN_eq, b1], by rw [upN_ne _ _ (by omega)]; exact b2, b3, b4⟩, fun j hj => ?_, fun j hj => ?_, h5, h6, h7, h8, h9⟩
  · by_cases q : j = oA
    · subst q; rw [b1, upN_eq, upN_eq]; exact ⟨rfl, hl⟩
    · rw [b1, upN_ne _ _ q, upN_ne _ _ q]; exact h3 j (by omega)
  · rw [upN_ne _ _ (by omega)]; exact h4 j hj
theorem io_out1 (h : IO lc cnt oA cA rA tA gA nA sA oB cB rB tB gB nB sB gS gX gT gC gO fD gE) (h16 : oB < 16) {lit : Nat} (hl : lit < 2 * cnt) : IO lc cnt oA cA rA tA gA nA sA (oB + 1) cB rB tB (va_up gB oB lit) nB sB gS gX gT (va_up gC 1 (gC 1 + 1)) (va_up gO (16 + gC 1) lit) fD gE := by
  obtain ⟨⟨a1, a2, a3, a4⟩, ⟨b1, b2, b3, b4⟩, h3, h4, h5, h6, h7, h8, h9⟩ := h
  refine ⟨⟨a1, by omega, a3, a4⟩, ⟨by rw [upN_ne _ _ (by omega)]; exact b1, by rw [upN_eq, b2], b3, b4⟩, fun j hj => ?_, fun j hj => ?_, h5, h6, h7, h8, h9⟩
  · rw [upN_ne _ _ (by omega)]; exact h3 j hj
  · by_cases q : j = oB
    · subst q; rw [b2, upN_eq, upN_eq]; exact ⟨rfl, hl⟩
    · rw [b2, upN_ne _ _ q, upN_ne _ _ (by omega)]; exact h4 j (by omega)
theorem io_next0 (h : IO lc cnt oA cA rA tA gA nA sA oB cB rB tB gB nB sB gS gX gT gC gO fD gE) (h4c : lc ≤ 4) {lt lit : Nat} (hlt : lt < lc) (hl : lit < 2 * cnt) : IO lc cnt oA cA rA tA gA (va_up nA lt lit) sA oB cB rB tB gB nB sB gS (va_up gX lt lit) gT gC gO fD gE := by
  obtain ⟨h1, h2, h3, h4, h5, h6, h7, h8, h9⟩ := h
  refine ⟨h1, h2, h3, h4, fun j hj => ?_, h6, h7, h8, h9⟩
  obtain ⟨q1, q2, q3, q4⟩ := h5 j hj
  rw [upN_ne gX _ (show 4 + j ≠ lt by omega)]
  by_cases q : j = lt
  · subst q; rw [upN_eq, upN_eq]; exact ⟨rfl, hl, q3, q4⟩
  · rw [upN_ne _ _ q, upN_ne _ _ q]; exact ⟨q1, q2, q3, q4⟩
theorem io_next1 (h : IO lc cnt oA cA rA tA gA nA sA oB cB rB tB gB nB sB gS gX gT gC gO fD gE) (h4c : lc ≤ 4) {lt lit : Nat} (hlt : lt < lc) (hl : lit < 2 * cnt) : IO lc cnt oA cA rA tA gA nA sA oB cB rB tB gB (va_up nB lt lit) sB gS (va_up gX (4 + lt) lit) gT gC gO fD gE := by
  obtain ⟨h1, h2, h3, h4, h5, h6, h7, h8, h9⟩ := h
  refine ⟨h1, h2, h3, h4, fun j hj => ?_, h6, h7, h8, h9⟩
  obtain ⟨q1, q2, q3, q4⟩ := h5 j hj
  rw [upN_ne gX _ (show j ≠ 4 + lt by omega)]
  by_cases q : j = lt
  · subst q; rw [upN_eq, upN_eq]; exact ⟨q1, q2, rfl, hl⟩
  · rw [upN_ne _ _ (show 4 + j ≠ 4 + lt by omega), upN_ne _ _ q]; exact ⟨q1, q2, q3, q4⟩
theorem io_clear (h : IO lc cnt oA cA rA tA gA nA sA oB cB rB tB gB nB sB gS gX gT gC gO fD gE) : IO 0 1 0 0 0 0 gA nA sA 0 0 0 0 gB nB sB gS gX (cpF gS gT 8) (va_up (va_up gC 0 0) 1 0) gO fD (va_up (va_up gE 0 0) 1 0) := by
  obtain ⟨h1, h2, h3, h4, h5, h6, h7, h8, h9⟩ := h
  exact ⟨⟨by omega, by omega, by omega, by omega⟩, ⟨rfl, rfl, rfl, rfl⟩, fun j hj => absurd hj (Nat.not_lt_zero _), fun j hj => absurd hj (Nat.not_lt_zero _), fun j hj => absurd hj (Nat.not_lt_zero _), fun j hj => absurd hj (Nat.not_lt_zero _), fun j hj => absurd hj (Nat.not_lt_zero _), ⟨rfl, rfl, rfl, rfl⟩, fun j hj => ⟨(h9 j hj).1, by rw [cp_lo _ _ hj]; exact (h9 j hj).1⟩⟩
end IOS
theorem io_new : IO 0 1 0 0 0 0 (fun _ => 0) (fun _ => 0) (fun _ => 0) 0 0 0 0 (fun _ => 0) (fun _ => 0) (fun _ => 0) (fun _ => 0) (fun _ => 0) (cpF (fun _ => 0) (fun _ => 0) 8) (va_up (va_up (fun _ => 0) 0 0) 1 0) (fun _ => 0) (fun _ => 0) (va_up (va_up (fun _ => 0) 0 0) 1 0) :=
  ⟨⟨by omega, by omega, by omega, by omega⟩, ⟨rfl, rfl, rfl, rfl⟩, fun j hj => absurd hj (Nat.not_lt_zero _), fun j hj => absurd hj (Nat.not_lt_zero _), fun j hj => absurd hj (Nat.not_lt_zero _), fun j hj => absurd hj (Nat.not_lt_zero _), fun j hj => absurd hj (Nat.not_lt_zero _), ⟨rfl, rfl, rfl, rfl⟩, fun j hj => ⟨Nat.zero_lt_two, by rw [cp_lo _ _ hj]; exact Nat.zero_lt_two⟩⟩
theorem lit_or (x : Int32) {n : Nat} (hn : n < 2 ^ 31) : (x < 0 ∨ nI n ≤ x) ∨ ∃ a, a < n ∧ x = nI a := by
  by_cases h : x < 0
  · exact Or.inl (Or.inl h)
  · by_cases h2 : nI n ≤ x
    · exact Or.inl (Or.inr h2)
    · obtain ⟨j, hj, rfl⟩ := nI_of h
      exact Or.inr ⟨j, Nat.lt_of_not_le (fun q => h2 ((nI_leI hn hj).mpr q)), rfl⟩
