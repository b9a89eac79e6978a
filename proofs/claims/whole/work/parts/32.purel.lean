/-! ===== the class and the reference say the same: rows that agree below the disk's size ===== -/
theorem whole_congr {g g' : Nat → UInt8} {n a : Nat} (h : ∀ j, j < n → g j = g' j) : whole g n a = whole g' n a := by
  unfold whole
  by_cases ha : a + 2 ≤ n
  · rw [h a (by omega), h (a + 1) (by omega)]
  · rw [decide_eq_false (fun q => ha q.1), decide_eq_false (fun q => ha q.1)]
theorem pas_congr {g g' : Nat → UInt8} {n a : Nat} (h : ∀ j, j < n → g j = g' j) (hw : whole g n a = true) : pas g a = pas g' a := by
  have w := whole_spec hw
  have e0 := h a (by omega)
  unfold pas
  rw [← e0]
  by_cases h3 : (g a).toNat = 3
  · have h5 := w.2.2.2.2.2.1 h3
    rw [if_pos h3, if_pos h3, h (a + 2) (by omega), h (a + 3) (by omega)]
  · rw [if_neg h3, if_neg h3]
theorem wk_congr {g g' : Nat → UInt8} {n : Nat} (h : ∀ j, j < n → g j = g' j) : ∀ k, wk g n k = wk g' n k ∧ wx g n k = wx g' n k := by
  intro k
  induction k with
  | zero => exact ⟨rfl, rfl⟩
  | succ k ih =>
    obtain ⟨i1, i2⟩ := ih
    cases hw : whole g n (wk g n k) with
    | true =>
      have hw' : whole g' n (wk g' n k) = true := by rw [← i1, ← whole_congr h]; exact hw
      have w := whole_spec hw
      have e1 := h (wk g n k + 1) (by omega)
      have e2 := pas_congr h hw
      refine ⟨?_, ?_⟩
      · rw [wk_t hw, wk_t hw', ← i1, e1]
      · rw [wx_t hw, wx_t hw', ← i1, ← i2, e2]
    | false =>
      have hw2 : whole g' n (wk g' n k) = false := by rw [← i1, ← whole_congr h]; exact hw
      have s1 := wk_stop hw 1
      have s2 := wk_stop hw2 1
      exact ⟨by rw [s1.1, s2.1, i1], by rw [s1.2, s2.2, i2]⟩
theorem tgB_congr {g g' : Nat → UInt8} {n a : Nat} (h : ∀ j, j < n → g j = g' j) (ha : a ≤ n) (h8 : a = 0 ∨ 8 ≤ a) : ∀ j, j < 8 → tgB g a j = tgB g' a j := by
  intro j hj
  unfold tgB
  by_cases e : a = 0
  · rw [if_pos e, if_pos e]
  · rw [if_neg e, if_neg e, h (a - 8 + j) (by omega)]
theorem vgd_congr {g g' : Nat → UInt8} {n : Nat} {key : Nat → UInt8} {i a : Nat} (h : ∀ j, j < n → g j = g' j) (h8 : a = 0 ∨ 8 ≤ a) : vgd g n key i a = vgd g' n key i a := by
  cases hw : whole g n a with
  | false => rw [vgd_w hw, vgd_w (by rw [← whole_congr h]; exact hw)]
  | true =>
    have w := whole_spec hw
    have hw' : whole g' n a = true := by rw [← whole_congr h]; exact hw
    have e0 := h a (by omega)
    have e1 := h (a + 1) (by omega)
    have ep := pas_congr h hw
    have eg : gpok g a = gpok g' a := by
      unfold gpok
      simp only [e0, ep]
    have et : tagW (kN key (pas g a)) (i + pas g a) g a (tgB g a) = tagW (kN key (pas g' a)) (i + pas g' a) g' a (tgB g' a) := by
      rw [← ep]
      exact tagW_congr e1 (fun j hj => h (a + j) (by omega)) (tgB_congr h (by omega) h8)
    have eo : ∀ v : Nat → Int32, tgok g a v = tgok g' a v := by
      intro v
      apply Bool.eq_iff_iff.mpr
      rw [tgok_i, tgok_i, ← e1]
      refine ⟨fun q j hj => ?_, fun q j hj => ?_⟩
      · rw [← h (a + (2 + (g (a + 1)).toNat) + j) (by omega)]
        exact q j hj
      · rw [h (a + (2 + (g (a + 1)).toNat) + j) (by omega)]
        exact q j hj
    unfold vgd
    rw [hw, hw', eg, et, eo]
theorem v_congr {g g' : Nat → UInt8} {n : Nat} {key : Nat → UInt8} (h : ∀ j, j < n → g j = g' j) : ∀ k, (∀ j, j < k → vgo g n key j = true) → vp g k = vp g' k ∧ vi g k = vi g' k ∧ pq g k = pq g' k := by
  intro k
  induction k with
  | zero => intro _; exact ⟨rfl, rfl, rfl⟩
  | succ k ih =>
    intro hyp
    obtain ⟨i1, i2, i3⟩ := ih (fun j hj => hyp j (by omega))
    have hk := hyp k (Nat.lt_succ_self k)
    have hw := vgo_whole hk
    have w := whole_spec hw
    have e1 := h (vp g k + 1) (by omega)
    have e2 := pas_congr h hw
    refine ⟨?_, ?_, ?_⟩
    · show vp g k + (10 + (g (vp g k + 1)).toNat) = vp g' k + (10 + (g' (vp g' k + 1)).toNat)
      rw [← i1, e1]
    · show vi g k + (pas g (vp g k) + 1) = vi g' k + (pas g' (vp g' k) + 1)
      rw [← i1, ← i2, e2]
    · show pq g k + pas g (vp g k) = pq g' k + pas g' (vp g' k)
      rw [← i1, ← i3, e2]
theorem vgo_congr {g g' : Nat → UInt8} {n : Nat} {key : Nat → UInt8} {k : Nat} (h : ∀ j, j < n → g j = g' j) (i1 : vp g k = vp g' k) (i2 : vi g k = vi g' k) : vgo g n key k = vgo g' n key k := by
  unfold vgo
  rw [← i1, ← i2, vgd_congr h (vp_08 g k)]
theorem vK_congr {g g' : Nat → UInt8} {n : Nat} {key : Nat → UInt8} (h : ∀ j, j < n → g j = g' j) : ∀ k, vK g n key k = vK g' n key k := by
  intro k
  induction k with
  | zero => rfl
  | succ k ih =>
    have a := v_congr h (vK g n key k) (vK_all k)
    have b := vgo_congr (key := key) h a.1 a.2.1
    show (if vgo g n key (vK g n key k) = true then vK g n key k + 1 else vK g n key k) = (if vgo g' n key (vK g' n key k) = true then vK g' n key k + 1 else vK g' n key k)
    rw [← ih, b]
theorem oA_congr {g g' : Nat → UInt8} {n : Nat} (hn : n ≤ 1200) (h : ∀ j, j < n → g j = g' j) (z : Int32) : oA g n z = oA g' n z := by
  cases hz : hasB n z with
  | false => unfold oA; rw [hz]; rfl
  | true =>
    obtain ⟨a, ha, rfl⟩ := has_in hn hz
    rw [oA_in ha hn, oA_in ha hn, h a ha]
theorem has_no {n : Nat} {z : Int32} (h : hasB n z = false) : z < 0 ∨ nI n ≤ z := by
  by_cases h0 : z < 0
  · exact Or.inl h0
  · unfold hasB at h
    rw [if_neg h0] at h
    exact Or.inr (Int32.not_lt.mp (of_decide_eq_false h))
theorem int_rng (hi : Nat) (hh : hi < 2 ^ 31) (z : Int32) : (z < 0 ∨ nI hi < z) ∨ ∃ m : Nat, m ≤ hi ∧ z = nI m := by
  by_cases h0 : z < 0
  · exact Or.inl (Or.inl h0)
  · obtain ⟨j, hj, rfl⟩ := nI_of h0
    by_cases h : j ≤ hi
    · exact Or.inr ⟨j, h, rfl⟩
    · exact Or.inl (Or.inr (nI_lt (by omega) hj))
theorem rng_key {z : Int32} (h : z < 0 ∨ nI 15 < z) : z < 0 ∨ nI 16 ≤ z := by
  rcases h with h | h
  · exact Or.inl h
  · by_cases h0 : z < 0
    · exact Or.inl h0
    · obtain ⟨j, hj, rfl⟩ := nI_of h0
      exact Or.inr (nI_le ((nI_ltI (by decide) hj).mp h) hj)
theorem rng_cnt {z : Int32} (h : z < 0 ∨ nI 5 < z) : z.toInt < 0 ∨ 5 < z.toInt := by
  rcases h with h | h
  · exact Or.inl (Int32.lt_iff_toInt_lt.mp h)
  · exact Or.inr (Int32.lt_iff_toInt_lt.mp h)
/-- what the two sides have in common, calls apart -/
def tieM (k n y nb1 up wi : Nat) (g gD bb gB lb gL : Nat → UInt8) : Prop :=
  n ≤ 1200 ∧ y ≤ n ∧ nb1 ≤ 40 ∧ up ≤ 1 ∧ wi ≤ k ∧ (∀ j, j < n → g j = gD j) ∧ (∀ j, j < nb1 → bb j = gB j) ∧ ∀ j, j < 8 → lb j = gL j
/-- what the last verifying left on both sides -/
def tieV (hr gd : Nat) (bd : Int32) (pq1 : Nat) (sg : Nat → UInt8) (sn : Nat) (B X : Nat → Nat) (br bp : Int32) (sl gp : Nat) (gC : Nat → UInt8) (gF gN : Nat → Nat) : Prop :=
  hr ≤ 1 ∧ sl ≤ 1 ∧ okV sg sn gd B ∧ okV gC sn gd gF ∧ (∀ w, w ≤ 4 → toldV hr gd bd pq1 sg B w = toldM hr br bp gd sl gp w) ∧ ∀ r w, r < gd → w ≤ 42 → partV sg B X r w = partV gC gF gN r w
theorem tieV_0 {pq1 sn gp : Nat} {sg gC : Nat → UInt8} {B X gF gN : Nat → Nat} (hs : sn ≤ 1200) : tieV 0 0 (-1) pq1 sg sn B X (-1) (-1) 0 gp gC gF gN := by
  refine ⟨by decide, by decide, ⟨hs, by decide, fun j hj => absurd hj (Nat.not_lt_zero _)⟩, ⟨hs, by decide, fun j hj => absurd hj (Nat.not_lt_zero _)⟩, fun w _ => ?_, fun r w hr => absurd hr (Nat.not_lt_zero _)⟩
  unfold toldV toldM
  rw [if_pos rfl, if_pos rfl]
theorem nI_ne_m1 {n : Nat} (h : n < 2 ^ 31) : nI n ≠ -1 := by
  intro q
  have h1 := congrArg Int32.toInt q
  rw [nI_toInt h] at h1
  have h2 : (-1 : Int32).toInt = -1 := by decide
  rw [h2] at h1
  omega
theorem tieV_v {n : Nat} {key : Nat → UInt8} {gD sg gC : Nat → UInt8} {gd pq1 sl gp : Nat} {bd br bp : Int32} {B X gF gN : Nat → Nat} (hn : n ≤ 1200) (h : ∀ j, j < n → sg j = gD j) (hC : ∀ j, j < n → gC j = gD j)
    (c1 : bd = vB sg n key) (c2 : gd = vK sg n key 120) (c3 : pq1 = pq sg (vK sg n key 120)) (c4 : ∀ j, j < vK sg n key 120 → B j = vp sg j) (c5 : ∀ j, j < vK sg n key 120 → X j = vno sg j) (c6 : ∀ j, j < vK sg n key 120 → vgo sg n key j = true)
    (d1 : br = vBr gD n key) (d2 : bp = vB gD n key) (d3 : gp = pq gD (vK gD n key 120)) (d4 : sl = sN gD (vK gD n key 120)) (d5 : ∀ j, j < vK gD n key 120 → gF j = vp gD j) (d6 : ∀ j, j < vK gD n key 120 → gN j = vno gD j) :
    tieV 1 gd bd pq1 sg n B X br bp sl gp gC gF gN ∧ vR sg n key = vR gD n key ∧ vK gD n key 120 = gd := by
  have eK := vK_congr (key := key) h 120
  have hle := vK_le (g := sg) (n := n) (key := key) 120
  generalize hKd : vK sg n key 120 = K at c2 c3 c4 c5 c6 eK hle
  subst c2
  rw [← eK] at d3 d4 d5 d6
  have a := v_congr h gd c6
  have aj : ∀ j, j < gd → vp sg j = vp gD j ∧ vi sg j = vi gD j ∧ pq sg j = pq gD j := fun j hj => v_congr h j (fun i hi => c6 i (by omega))
  have hb := vp_le gd c6
  have w : ∀ j, j < gd → whole sg n (vp sg j) = true := fun j hj => vgo_whole (c6 j hj)
  have ebd : bd = bp := by
    rw [c1, d2]
    unfold vB
    rw [hKd, ← eK, a.1]
  have ebr : br = if bd = -1 then -1 else nI gd := by
    rw [d1, c1]
    unfold vBr vB
    rw [hKd, ← eK, a.1]
    by_cases hlt : vp gD gd < n
    · rw [if_pos hlt, if_pos hlt, if_neg (nI_ne_m1 (by omega))]
    · rw [if_neg hlt, if_neg hlt, if_pos rfl]
  have okv : okV sg n gd B := by
    refine ⟨hn, hle, fun j hj => ?_⟩
    have w1 := whole_spec (w j hj)
    rw [c4 j hj]
    omega
  have eBF : ∀ j, j < gd → B j = gF j := fun j hj => by rw [c4 j hj, d5 j hj, (aj j hj).1]
  have eXN : ∀ j, j < gd → X j = gN j := fun j hj => by
    rw [c5 j hj, d6 j hj]
    unfold vno
    rw [(aj j hj).2.1, pas_congr h (w j hj), (aj j hj).1]
  have eSC : ∀ j, j < n → sg j = gC j := fun j hj => (h j hj).trans (hC j hj).symm
  have okm : okV gC n gd gF := by
    refine ⟨hn, hle, fun j hj => ?_⟩
    have o1 := okv.2.2 j hj
    rw [← eBF j hj, ← eSC (B j + 1) (by omega)]
    exact o1
  have esl : nI sl = f_b (slV sg B gd) := by
    rw [d4]
    unfold sN slV
    by_cases h0 : gd = 0
    · rw [if_pos h0, decide_eq_false (by omega)]
      rfl
    · have w1 := whole_spec (w (gd - 1) (by omega))
      have e1 : B (gd - 1) = vp gD (gd - 1) := by rw [c4 _ (by omega), (aj (gd - 1) (by omega)).1]
      have e2 : sg (vp gD (gd - 1)) = gD (vp gD (gd - 1)) := h _ (by rw [← (aj (gd - 1) (by omega)).1]; omega)
      rw [if_neg h0, e1, e2]
      by_cases h2 : (gD (vp gD (gd - 1))).toNat = 2
      · rw [if_pos h2, decide_eq_true ⟨by omega, h2⟩]
        rfl
      · rw [if_neg h2, decide_eq_false (fun q => h2 q.2)]
        rfl
  refine ⟨⟨by decide, ?_, okv, okm, fun v hv => ?_, fun r v hr hv => ?_⟩, ?_, eK.symm⟩
  · rw [d4]
    unfold sN
    split
    · omega
    · split <;> omega
  · unfold toldV toldM
    rw [if_neg (show ¬ (1 : Nat) = 0 by decide), if_neg (show ¬ (1 : Nat) = 0 by decide)]
    rcases (show v = 0 ∨ v = 1 ∨ v = 2 ∨ v = 3 ∨ v = 4 by omega) with rfl | rfl | rfl | rfl | rfl
    · exact ebr.symm
    · exact ebd
    · rfl
    · exact esl.symm
    · show nI pq1 = nI gp
      rw [c3, d3, a.2.2]
  · have o1 := okv.2.2 r hr
    unfold partV
    rw [← eBF r hr, ← eXN r hr, ← eSC (B r) (by omega), ← eSC (B r + 1) (by omega)]
    by_cases z0 : v = 0
    · rw [if_pos z0, if_pos z0]
    · rw [if_neg z0, if_neg z0]
      by_cases z1 : v = 1
      · rw [if_pos z1, if_pos z1]
      · rw [if_neg z1, if_neg z1]
        by_cases z2 : v = 2
        · rw [if_pos z2, if_pos z2]
        · rw [if_neg z2, if_neg z2]
          by_cases z3 : v - 3 < (sg (B r + 1)).toNat
          · rw [if_pos z3, if_pos z3, eSC (B r + v - 1) (by omega)]
          · rw [if_neg z3, if_neg z3]
  · unfold vR
    rw [hKd, ← eK, a.1]
/-- a record written on both sides -/
theorem tie_wr {g1 g2 g g' lb lb' rb rb' key l1 l2 : Nat → UInt8} {n kind len i : Nat} (hl : len ≤ 40) (hg : ∀ j, j < n → g j = g' j) (hr : ∀ j, j < len → rb j = rb' j) (hb : ∀ j, j < 8 → lb j = lb' j)
    (h1 : wr2 g1 g n kind len rb (tagW key i g1 n lb) 8) (h2 : wr2 g2 g' n kind len rb' (tagW key i g2 n lb') 8) (m1 : ∀ j, j < 8 → l1 j = dgB (tagW key i g1 n lb) j) (m2 : ∀ j, j < 8 → l2 j = dgB (tagW key i g2 n lb') j) :
    (∀ j, j < n + (10 + len) → g1 j = g2 j) ∧ ∀ j, j < 8 → l1 j = l2 j := by
  have e := wr1_rec h1.1 h2.1 hr
  have hlen := wr_at h1.1 hl
  have eV : tagW key i g1 n lb = tagW key i g2 n lb' := tagW_congr (by have := e 1 (by omega); exact this) (by rw [hlen]; exact e) hb
  refine ⟨fun j hj => ?_, fun j hj => by rw [m1 j hj, m2 j hj, eV]⟩
  by_cases q0 : j < n
  · rw [h1.1.1 j q0, h2.1.1 j q0]
    exact hg j q0
  · by_cases q1 : j < n + (2 + len)
    · have := e (j - n) (by omega)
      rw [show n + (j - n) = j by omega] at this
      exact this
    · have a1 := h1.2 (j - (n + (2 + len))) (by omega)
      have a2 := h2.2 (j - (n + (2 + len))) (by omega)
      rw [show n + (2 + len) + (j - (n + (2 + len))) = j by omega] at a1 a2
      rw [a1, a2, eV]
theorem gap_eq {z : Nat} (hz : z < 65536) (gbb : Nat → UInt8) : ∀ j, j < 2 → upb (upb gbb 0 (toB (f_ush (nI z) (nI 8)))) 1 (toB (nI z)) j = gapB z j := by
  intro j hj
  rcases (show j = 0 ∨ j = 1 by omega) with rfl | rfl
  · show toB (f_ush (nI z) (nI 8)) = UInt8.ofNat (z / 256)
    have h3 := pk_ushr (nI z) (nI 8) 8 (sh_cnt 8 (by decide)).2
    have h4 : (f_ush (nI z) (nI 8)).toBitVec.toNat = (nI z).toBitVec.toNat / 2 ^ 8 := h3
    unfold toB
    rw [h4, nI_bv, BitVec.toNat_ofNat, Nat.mod_eq_of_lt (by omega)]
  · show toB (nI z) = UInt8.ofNat (z % 256)
    rw [toB_lit]
    apply UInt8.toNat_inj.mp
    rw [UInt8.toNat_ofNat', UInt8.toNat_ofNat']
    omega
/-- what erasing, writing and losing leave of the ties -/
theorem tie_feed {n1 many : Nat} {bb bb2 gB B9 : Nat → UInt8} {o : Nat → UInt8} (h : ∀ j, j < n1 → bb j = gB j) (a1 : ∀ j, j < n1 → bb2 j = bb j) (a2 : ∀ j, j < many → bb2 (n1 + j) = o j) (b1 : ∀ j, j < n1 → B9 j = gB j) (b2 : ∀ j, j < many → B9 (n1 + j) = o j) : ∀ j, j < n1 + many → bb2 j = B9 j := by
  intro j hj
  by_cases q : j < n1
  · rw [a1 j q, b1 j q, h j q]
  · have c1 := a2 (j - n1) (by omega)
    have c2 := b2 (j - n1) (by omega)
    rw [show n1 + (j - n1) = j by omega] at c1 c2
    rw [c1, c2]
theorem tie_bend {n a : Nat} {g gD : Nat → UInt8} {x : UInt8} (h : ∀ j, j < n → g j = gD j) : ∀ j, j < n → upb g a x j = upb gD a x j := by
  intro j hj
  unfold upb
  by_cases e : j = a
  · rw [if_pos e, if_pos e]
  · rw [if_neg e, if_neg e, h j hj]
