def kN (key : Nat → UInt8) : Nat → (Nat → UInt8)
  | 0 => key
  | k + 1 => nextKey (kN key k)
theorem kN_add (key : Nat → UInt8) (a : Nat) : ∀ b, kN (kN key a) b = kN key (a + b) := by
  intro b
  induction b with
  | zero => rfl
  | succ b ih =>
    show nextKey (kN (kN key a) b) = nextKey (kN key (a + b))
    rw [ih]
def tgok (g : Nat → UInt8) (a : Nat) (v : Nat → Int32) : Bool := (List.range 8).all (fun j => g (a + (2 + (g (a + 1)).toNat) + j) == dgB v j)
theorem tgok_i {g : Nat → UInt8} {a : Nat} {v : Nat → Int32} : tgok g a v = true ↔ ∀ j, j < 8 → g (a + (2 + (g (a + 1)).toNat) + j) = dgB v j := by
  unfold tgok
  rw [List.all_eq_true]
  exact ⟨fun h j hj => eq_of_beq (h j (List.mem_range.mpr hj)), fun h j hj => beq_iff_eq.mpr (h j (List.mem_range.mp hj))⟩
theorem tgok_f {g : Nat → UInt8} {a : Nat} {v : Nat → Int32} (h : ¬ ∀ j, j < 8 → g (a + (2 + (g (a + 1)).toNat) + j) = dgB v j) : tgok g a v = false := by
  cases e : tgok g a v with
  | false => rfl
  | true => exact absurd (tgok_i.mp e) h
def gpok (g : Nat → UInt8) (a : Nat) : Bool := decide ((g a).toNat = 3 → (1 ≤ pas g a ∧ pas g a ≤ 1000))
def vgd (g : Nat → UInt8) (n : Nat) (key : Nat → UInt8) (i a : Nat) : Bool := whole g n a && (gpok g a && tgok g a (tagW (kN key (pas g a)) (i + pas g a) g a (tgB g a)))
theorem vgd_w {g : Nat → UInt8} {n : Nat} {key : Nat → UInt8} {i a : Nat} (h : whole g n a = false) : vgd g n key i a = false := by unfold vgd; rw [h]; rfl
theorem vgd_g {g : Nat → UInt8} {n : Nat} {key : Nat → UInt8} {i a : Nat} (h : gpok g a = false) : vgd g n key i a = false := by unfold vgd; rw [h, Bool.false_and, Bool.and_false]
theorem vgd_t {g : Nat → UInt8} {n : Nat} {key : Nat → UInt8} {i a : Nat} (h : tgok g a (tagW (kN key (pas g a)) (i + pas g a) g a (tgB g a)) = false) : vgd g n key i a = false := by unfold vgd; rw [h, Bool.and_false, Bool.and_false]
theorem vgd_y {g : Nat → UInt8} {n : Nat} {key : Nat → UInt8} {i a : Nat} (h1 : whole g n a = true) (h2 : gpok g a = true) (h3 : tgok g a (tagW (kN key (pas g a)) (i + pas g a) g a (tgB g a)) = true) : vgd g n key i a = true := by unfold vgd; rw [h1, h2, h3]; rfl
theorem vgd_whole {g : Nat → UInt8} {n : Nat} {key : Nat → UInt8} {i a : Nat} (h : vgd g n key i a = true) : whole g n a = true := by
  unfold vgd at h
  rw [Bool.and_eq_true] at h
  exact h.1
def vp (g : Nat → UInt8) : Nat → Nat
  | 0 => 0
  | k + 1 => vp g k + (10 + (g (vp g k + 1)).toNat)
def vi (g : Nat → UInt8) : Nat → Nat
  | 0 => 0
  | k + 1 => vi g k + (pas g (vp g k) + 1)
def pq (g : Nat → UInt8) : Nat → Nat
  | 0 => 0
  | k + 1 => pq g k + pas g (vp g k)
def vgo (g : Nat → UInt8) (n : Nat) (key : Nat → UInt8) (k : Nat) : Bool := decide (vp g k < n) && vgd g n (kN key (vi g k)) (vi g k) (vp g k)
def vK (g : Nat → UInt8) (n : Nat) (key : Nat → UInt8) : Nat → Nat
  | 0 => 0
  | k + 1 => if vgo g n key (vK g n key k) = true then vK g n key k + 1 else vK g n key k
theorem vi_le (g : Nat → UInt8) : ∀ k, vi g k ≤ k * 65536 := by
  intro k
  induction k with
  | zero => exact Nat.le_refl _
  | succ k ih =>
    show vi g k + (pas g (vp g k) + 1) ≤ _
    have := pas_lt g (vp g k)
    rw [Nat.succ_mul]
    generalize k * 65536 = z at ih ⊢
    omega
theorem pq_le (g : Nat → UInt8) : ∀ k, pq g k ≤ k * 65536 := by
  intro k
  induction k with
  | zero => exact Nat.le_refl _
  | succ k ih =>
    show pq g k + pas g (vp g k) ≤ _
    have := pas_lt g (vp g k)
    rw [Nat.succ_mul]
    generalize k * 65536 = z at ih ⊢
    omega
theorem vK_go {g : Nat → UInt8} {n : Nat} {key : Nat → UInt8} : ∀ k, (∀ j, j < k → vgo g n key j = true) → vK g n key k = k := by
  intro k
  induction k with
  | zero => intro _; rfl
  | succ k ih =>
    intro h
    have e := ih (fun j hj => h j (by omega))
    show (if vgo g n key (vK g n key k) = true then _ else _) = k + 1
    rw [e, if_pos (h k (by omega))]
theorem vK_stay {g : Nat → UInt8} {n : Nat} {key : Nat → UInt8} {k : Nat} (e : vK g n key k = k) (h : vgo g n key k = false) : ∀ j, vK g n key (k + j) = k := by
  intro j
  induction j with
  | zero => exact e
  | succ j ih =>
    show (if vgo g n key (vK g n key (k + j)) = true then _ else _) = k
    rw [ih, if_neg (by rw [h]; decide)]
    exact ih
theorem vK_end {g : Nat → UInt8} {n : Nat} {key : Nat → UInt8} {k : Nat} (hk : k ≤ 120) (h : ∀ j, j < k → vgo g n key j = true) (hs : k = 120 ∨ vgo g n key k = false) : vK g n key 120 = k := by
  rcases hs with rfl | hs
  · exact vK_go 120 h
  · have h1 := vK_stay (vK_go k h) hs (120 - k)
    rw [show k + (120 - k) = 120 by omega] at h1
    exact h1
theorem vK_le {g : Nat → UInt8} {n : Nat} {key : Nat → UInt8} : ∀ k, vK g n key k ≤ k := by
  intro k
  induction k with
  | zero => exact Nat.le_refl _
  | succ k ih =>
    show (if vgo g n key (vK g n key k) = true then _ else _) ≤ _
    split <;> omega
theorem vK_all {g : Nat → UInt8} {n : Nat} {key : Nat → UInt8} : ∀ k, (∀ j, j < vK g n key k → vgo g n key j = true) := by
  intro k
  induction k with
  | zero => intro j hj; exact absurd hj (Nat.not_lt_zero _)
  | succ k ih =>
    intro j hj
    change j < (if vgo g n key (vK g n key k) = true then vK g n key k + 1 else vK g n key k) at hj
    by_cases h : vgo g n key (vK g n key k) = true
    · rw [if_pos h] at hj
      by_cases e : j = vK g n key k
      · rw [e]; exact h
      · exact ih j (by omega)
    · rw [if_neg h] at hj
      exact ih j hj
theorem vgo_spec {g : Nat → UInt8} {n : Nat} {key : Nat → UInt8} {k : Nat} (h : vgo g n key k = true) : vp g k < n ∧ vgd g n (kN key (vi g k)) (vi g k) (vp g k) = true := by
  unfold vgo at h
  rw [Bool.and_eq_true] at h
  exact ⟨of_decide_eq_true h.1, h.2⟩
theorem vgo_whole {g : Nat → UInt8} {n : Nat} {key : Nat → UInt8} {k : Nat} (h : vgo g n key k = true) : whole g n (vp g k) = true := vgd_whole (vgo_spec h).2
theorem vgo_y {g : Nat → UInt8} {n : Nat} {key : Nat → UInt8} {k : Nat} (h1 : vp g k < n) (h2 : vgd g n (kN key (vi g k)) (vi g k) (vp g k) = true) : vgo g n key k = true := by unfold vgo; rw [h2, decide_eq_true h1]; rfl
theorem vgo_n1 {g : Nat → UInt8} {n : Nat} {key : Nat → UInt8} {k : Nat} (h1 : ¬ vp g k < n) : vgo g n key k = false := by unfold vgo; rw [decide_eq_false h1]; rfl
theorem vgo_n2 {g : Nat → UInt8} {n : Nat} {key : Nat → UInt8} {k : Nat} (h2 : vgd g n (kN key (vi g k)) (vi g k) (vp g k) = false) : vgo g n key k = false := by unfold vgo; rw [h2, Bool.and_false]
theorem vp_le {g : Nat → UInt8} {n : Nat} {key : Nat → UInt8} : ∀ k, (∀ j, j < k → vgo g n key j = true) → vp g k ≤ n ∧ 10 * k ≤ vp g k := by
  intro k
  cases k with
  | zero => intro _; exact ⟨Nat.zero_le _, Nat.le_refl _⟩
  | succ k =>
    intro h
    have h1 := whole_spec (vgo_whole (h k (Nat.lt_succ_self k)))
    have h2 : 10 * k ≤ vp g k := by
      clear h1
      have : ∀ m, 10 * m ≤ vp g m := by
        intro m
        induction m with
        | zero => exact Nat.le_refl _
        | succ m ih =>
          show 10 * (m + 1) ≤ vp g m + (10 + (g (vp g m + 1)).toNat)
          omega
      exact this k
    refine ⟨?_, ?_⟩
    · show vp g k + (10 + (g (vp g k + 1)).toNat) ≤ n
      omega
    · show 10 * (k + 1) ≤ vp g k + (10 + (g (vp g k + 1)).toNat)
      omega
theorem vp_08 (g : Nat → UInt8) (k : Nat) : vp g k = 0 ∨ 8 ≤ vp g k := by
  cases k with
  | zero => exact Or.inl rfl
  | succ k =>
    refine Or.inr ?_
    show 8 ≤ vp g k + (10 + (g (vp g k + 1)).toNat)
    omega
theorem lt_ext {p : Nat → Prop} {k : Nat} (h : ∀ j, j < k → p j) (hk : p k) : ∀ j, j < k + 1 → p j := fun j hj => by
  by_cases e : j = k
  · rw [e]; exact hk
  · exact h j (by omega)
theorem upn_ext {t g : Nat → Nat} {k : Nat} (h : ∀ j, j < k → t j = g j) {b : Nat} (hb : b = g k) : ∀ j, j < k + 1 → upn t k b j = g j := by
  intro j hj
  by_cases e : j = k
  · rw [e, hb]; exact upn_same
  · rw [upn_other e]; exact h j (by omega)
theorem bN_eq {a b : UInt8} (h : a.toNat = b.toNat) : a = b := UInt8.toNat_inj.mp h
def vno (g : Nat → UInt8) (j : Nat) : Nat := vi g j + pas g (vp g j)
def vR (g : Nat → UInt8) (n : Nat) (key : Nat → UInt8) : Int32 := if vp g (vK g n key 120) < n then -3 else nI (vK g n key 120)
def vB (g : Nat → UInt8) (n : Nat) (key : Nat → UInt8) : Int32 := if vp g (vK g n key 120) < n then nI (vp g (vK g n key 120)) else -1
