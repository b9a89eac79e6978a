theorem upd_nbl {g : Nat → UInt8} {k m : Nat} (h : m < 256) : upd (nb g) k (nI m) = nb (upb g k (UInt8.ofNat m)) := by
  rw [← toB_nI h, upd_nb, toB_lit]
def lastV (a : Nat) : Int32 := if a = 0 then -1 else nI (a - 8)
def gapB (z : Nat) : Nat → UInt8 := upb (upb (fun _ => 0) 0 (UInt8.ofNat (z / 256))) 1 (UInt8.ofNat (z % 256))
def tgk (g : Nat → UInt8) (a : Nat) (v : Nat → Int32) (k : Nat) : Bool := (List.range k).all (fun j => g (a + (2 + (g (a + 1)).toNat) + j) == dgB v j)
theorem tgk_s {g : Nat → UInt8} {a k : Nat} {v : Nat → Int32} : tgk g a v (k + 1) = (tgk g a v k && (g (a + (2 + (g (a + 1)).toNat) + k) == dgB v k)) := by
  unfold tgk
  rw [List.range_succ, List.all_append]
  simp
theorem tgk_y {g : Nat → UInt8} {a k : Nat} {v : Nat → Int32} (h1 : tgk g a v k = true) (h2 : (g (a + (2 + (g (a + 1)).toNat) + k)).toNat = (dgB v k).toNat) : tgk g a v (k + 1) = true := by
  rw [tgk_s, h1, bN_eq h2]
  simp
theorem tgk_n1 {g : Nat → UInt8} {a k : Nat} {v : Nat → Int32} (h1 : tgk g a v k = false) : tgk g a v (k + 1) = false := by
  rw [tgk_s, h1]
  rfl
theorem tgk_n2 {g : Nat → UInt8} {a k : Nat} {v : Nat → Int32} (h2 : (g (a + (2 + (g (a + 1)).toNat) + k)).toNat ≠ (dgB v k).toNat) : tgk g a v (k + 1) = false := by
  rw [tgk_s]
  have : (g (a + (2 + (g (a + 1)).toNat) + k) == dgB v k) = false := beq_eq_false_iff_ne.mpr (fun q => h2 (congrArg UInt8.toNat q))
  rw [this, Bool.and_false]
def toldM (hr : Nat) (br bp : Int32) (gd sl gp w : Nat) : Int32 := if hr = 0 then -1 else match w with
  | 0 => br
  | 1 => bp
  | 2 => nI gd
  | 3 => nI sl
  | _ => nI gp
def sN (g : Nat → UInt8) (k : Nat) : Nat := if k = 0 then 0 else if (g (vp g (k - 1))).toNat = 2 then 1 else 0
theorem sN_s {g : Nat → UInt8} {k : Nat} : sN g (k + 1) = if (g (vp g k)).toNat = 2 then 1 else 0 := by
  unfold sN
  rw [if_neg (by omega), Nat.add_sub_cancel]
def vBr (g : Nat → UInt8) (n : Nat) (key : Nat → UInt8) : Int32 := if vp g (vK g n key 120) < n then nI (vK g n key 120) else -1
theorem wk_10 {g : Nat → UInt8} {n k : Nat} (h : 10 * k ≤ wk g n k) (hw : whole g n (wk g n k) = true) : 10 * (k + 1) ≤ wk g n (k + 1) := by
  rw [wk_t hw]
  omega
