/-- what writing a record leaves on the disk's row -/
def wr1 (g1 g : Nat → UInt8) (n kind len : Nat) (rb : Nat → UInt8) (k : Nat) : Prop := (∀ j, j < n → g1 j = g j) ∧ g1 n = UInt8.ofNat kind ∧ g1 (n + 1) = UInt8.ofNat len ∧ ∀ j, j < k → g1 (n + 2 + j) = rb j
def wr2 (g1 g : Nat → UInt8) (n kind len : Nat) (rb : Nat → UInt8) (v : Nat → Int32) (k : Nat) : Prop := wr1 g1 g n kind len rb len ∧ ∀ j, j < k → g1 (n + (2 + len) + j) = dgB v j
theorem wr1_0 {g : Nat → UInt8} {n kind len : Nat} {rb : Nat → UInt8} : wr1 (upb (upb g n (UInt8.ofNat kind)) (n + 1) (UInt8.ofNat len)) g n kind len rb 0 := by
  refine ⟨fun j hj => ?_, ?_, upb_same, fun j hj => absurd hj (Nat.not_lt_zero _)⟩
  · rw [upb_other (by omega), upb_other (by omega)]
  · rw [upb_other (by omega), upb_same]
theorem wr1_put {g1 g : Nat → UInt8} {n kind len k : Nat} {rb : Nat → UInt8} (h : wr1 g1 g n kind len rb k) : wr1 (upb g1 (n + 2 + k) (rb k)) g n kind len rb (k + 1) := by
  obtain ⟨h1, h2, h3, h4⟩ := h
  refine ⟨fun j hj => ?_, ?_, ?_, fun j hj => ?_⟩
  · rw [upb_other (by omega)]; exact h1 j hj
  · rw [upb_other (by omega)]; exact h2
  · rw [upb_other (by omega)]; exact h3
  · by_cases e : j = k
    · rw [e, upb_same]
    · rw [upb_other (by omega)]; exact h4 j (by omega)
theorem wr2_0 {g1 g : Nat → UInt8} {n kind len : Nat} {rb : Nat → UInt8} {v : Nat → Int32} (h : wr1 g1 g n kind len rb len) : wr2 g1 g n kind len rb v 0 := ⟨h, fun j hj => absurd hj (Nat.not_lt_zero _)⟩
theorem wr2_put {g1 g : Nat → UInt8} {n kind len k : Nat} {rb : Nat → UInt8} {v : Nat → Int32} (h : wr2 g1 g n kind len rb v k) : wr2 (upb g1 (n + (2 + len) + k) (dgB v k)) g n kind len rb v (k + 1) := by
  obtain ⟨⟨h1, h2, h3, h4⟩, h5⟩ := h
  refine ⟨⟨fun j hj => ?_, ?_, ?_, fun j hj => ?_⟩, fun j hj => ?_⟩
  · rw [upb_other (by omega)]; exact h1 j hj
  · rw [upb_other (by omega)]; exact h2
  · rw [upb_other (by omega)]; exact h3
  · rw [upb_other (by omega)]; exact h4 j hj
  · by_cases e : j = k
    · rw [e, upb_same]
    · rw [upb_other (by omega)]; exact h5 j (by omega)
theorem tmsg_congr {i a : Nat} {g g' bf bf' : Nat → UInt8} (h1 : g (a + 1) = g' (a + 1)) (h : ∀ j, j < 2 + (g (a + 1)).toNat → g (a + j) = g' (a + j)) (hb : ∀ j, j < 8 → bf j = bf' j) : tmsg i g a bf = tmsg i g' a bf' := by
  unfold tmsg
  rw [← h1, bl_congr hb, bl_congr (f := rcf g a) (g := rcf g' a) h]
theorem tagW_congr {key : Nat → UInt8} {i a : Nat} {g g' bf bf' : Nat → UInt8} (h1 : g (a + 1) = g' (a + 1)) (h : ∀ j, j < 2 + (g (a + 1)).toNat → g (a + j) = g' (a + j)) (hb : ∀ j, j < 8 → bf j = bf' j) : tagW key i g a bf = tagW key i g' a bf' := by
  unfold tagW
  rw [tmsg_congr h1 h hb]
theorem wr_at {g1 g : Nat → UInt8} {n kind len : Nat} {rb : Nat → UInt8} (h : wr1 g1 g n kind len rb len) (hl : len ≤ 40) : (g1 (n + 1)).toNat = len := by
  rw [h.2.2.1, UInt8.toNat_ofNat']
  omega
/-- a record's bytes, seen from two rows -/
theorem wr1_rec {g1 g2 g g' : Nat → UInt8} {n kind len : Nat} {rb rb' : Nat → UInt8} (h1 : wr1 g1 g n kind len rb len) (h2 : wr1 g2 g' n kind len rb' len) (hr : ∀ j, j < len → rb j = rb' j) : ∀ j, j < 2 + len → g1 (n + j) = g2 (n + j) := by
  intro j hj
  by_cases e0 : j = 0
  · subst e0; exact h1.2.1.trans h2.2.1.symm
  · by_cases e1 : j = 1
    · subst e1; exact h1.2.2.1.trans h2.2.2.1.symm
    · have a1 := h1.2.2.2 (j - 2) (by omega)
      have a2 := h2.2.2.2 (j - 2) (by omega)
      rw [show n + 2 + (j - 2) = n + j by omega] at a1 a2
      rw [a1, a2]
      exact hr (j - 2) (by omega)
