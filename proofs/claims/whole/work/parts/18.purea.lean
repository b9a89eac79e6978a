theorem min_nat {a b : Nat} (ha : a < 2 ^ 31) (hb : b < 2 ^ 31) : (if nI b < nI a then nI b else nI a) = nI (min a b) := by
  by_cases h : b < a
  · rw [if_pos ((nI_ltI hb ha).mpr h), Nat.min_eq_right (Nat.le_of_lt h)]
  · rw [if_neg (fun q => h ((nI_ltI hb ha).mp q)), Nat.min_eq_left (Nat.not_lt.mp h)]
theorem max_sub {a b : Nat} (ha : a < 2 ^ 30) (hb : b < 2 ^ 30) : (if nI 0 < nI a - nI b then nI a - nI b else nI 0) = nI (a - b) := by
  by_cases h : b ≤ a
  · rw [pk_sub h]
    by_cases e : a - b = 0
    · rw [e]; exact ite_self _
    · rw [if_pos (nI_lt (Nat.pos_of_ne_zero e) (by omega))]
  · rw [if_neg (fun q => absurd (pk_sneg hb (Nat.not_le.mp h)) (by rw [nI_0] at q; exact fun z => Int32.lt_irrefl (Int32.lt_trans z q))), show a - b = 0 by omega]
theorem wk_08 (g : Nat → UInt8) (n : Nat) : ∀ k, wk g n k = 0 ∨ (8 ≤ wk g n k ∧ wk g n k ≤ n) := by
  intro k
  have h1 := wk_le (g := g) (n := n) k
  have h2 : wk g n k = 0 ∨ 8 ≤ wk g n k := by
    induction k with
    | zero => exact Or.inl rfl
    | succ k ih =>
      have ih' := ih (wk_le k)
      show (if whole g n (wk g n k) = true then wk g n k + (10 + (g (wk g n k + 1)).toNat) else wk g n k) = 0 ∨ 8 ≤ (if whole g n (wk g n k) = true then wk g n k + (10 + (g (wk g n k + 1)).toNat) else wk g n k)
      split
      · exact Or.inr (by omega)
      · exact ih'
  omega
def partV (sg : Nat → UInt8) (B X : Nat → Nat) (r w : Nat) : Int32 := if w = 0 then bI (sg (B r)) else if w = 1 then nI (X r) else if w = 2 then bI (sg (B r + 1)) else if w - 3 < (sg (B r + 1)).toNat then bI (sg (B r + w - 1)) else -1
def slV (sg : Nat → UInt8) (B : Nat → Nat) (gd : Nat) : Bool := decide (0 < gd ∧ (sg (B (gd - 1))).toNat = 2)
def toldV (hr gd : Nat) (bd : Int32) (pq1 : Nat) (sg : Nat → UInt8) (B : Nat → Nat) (w : Nat) : Int32 := if hr = 0 then -1 else if w = 0 then (if bd = -1 then -1 else nI gd) else if w = 1 then bd else if w = 2 then nI gd else if w = 3 then f_b (slV sg B gd) else nI pq1
/-- how the verifier's rows lie -/
def okV (sg : Nat → UInt8) (sn gd : Nat) (B : Nat → Nat) : Prop := sn ≤ 1200 ∧ gd ≤ 120 ∧ ∀ j, j < gd → B j + 2 + (sg (B j + 1)).toNat ≤ sn
theorem neg_pred {n : Nat} (h : n = 0) : nI n - nI 1 < 0 := by subst h; decide
def cntV (n y wi up : Nat) (cr : Int32) (nb1 w : Nat) : Int32 := match w with
  | 0 => nI n
  | 1 => nI y
  | 2 => nI wi
  | 3 => nI up
  | 4 => cr
  | _ => nI nb1
theorem gp_0 {n : Nat} : toB (f_ush (nI n) (nI 8)) = toB (f_ush (nI n) (nI 8)) := rfl
