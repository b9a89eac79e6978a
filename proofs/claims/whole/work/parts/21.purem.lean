theorem upd_same {f : Nat → Int32} {k : Nat} {x : Int32} : upd f k x k = x := if_pos rfl
theorem upd_upd {f : Nat → Int32} {k : Nat} {x y : Int32} : upd (upd f k x) k y = upd f k y := by
  funext j
  unfold upd
  by_cases h : j = k
  · rw [if_pos h, if_pos h]
  · rw [if_neg h, if_neg h, if_neg h]
theorem or_add {x y k : Nat} (h : y < 2 ^ k) : nI (x * 2 ^ k) ||| nI y = nI (x * 2 ^ k + y) := by
  rw [nI_or]
  have h1 := Nat.two_pow_add_eq_or_of_lt (i := k) (b := y) h x
  rw [Nat.mul_comm x, h1]
theorem wd_sh (b0 b1 b2 b3 : UInt8) : (((((((nI 0 <<< (nI 8 &&& 31)) ||| bI b0) <<< (nI 8 &&& 31)) ||| bI b1) <<< (nI 8 &&& 31)) ||| bI b2) <<< (nI 8 &&& 31)) ||| bI b3 = (((bI b0 <<< (nI 24 &&& 31)) ||| (bI b1 <<< (nI 16 &&& 31))) ||| (bI b2 <<< (nI 8 &&& 31))) ||| bI b3 := by
  have l0 := bI_lt b0
  have l1 := bI_lt b1
  have l2 := bI_lt b2
  have l3 := bI_lt b3
  unfold bI
  have z : (nI 0 <<< (nI 8 &&& 31)) = nI 0 := by decide
  rw [z, nI_or, Nat.zero_or]
  rw [pk_shlN (n := b0.toNat) (nI 8 &&& 31) 8 (by decide) (by omega), or_add (k := 8) (by omega)]
  rw [pk_shlN (n := b0.toNat * 2 ^ 8 + b1.toNat) (nI 8 &&& 31) 8 (by decide) (by omega), or_add (k := 8) (by omega)]
  rw [pk_shlN (n := (b0.toNat * 2 ^ 8 + b1.toNat) * 2 ^ 8 + b2.toNat) (nI 8 &&& 31) 8 (by decide) (by omega), or_add (k := 8) (by omega)]
  rw [pk_shlN (n := b0.toNat) (nI 24 &&& 31) 24 (by decide) (by omega), pk_shlN (n := b1.toNat) (nI 16 &&& 31) 16 (by decide) (by omega), pk_shlN (n := b2.toNat) (nI 8 &&& 31) 8 (by decide) (by omega)]
  rw [or_add (k := 24) (by omega), show b0.toNat * 2 ^ 24 + b1.toNat * 2 ^ 16 = (b0.toNat * 2 ^ 8 + b1.toNat) * 2 ^ 16 by omega, or_add (k := 16) (by omega), show (b0.toNat * 2 ^ 8 + b1.toNat) * 2 ^ 16 + b2.toNat * 2 ^ 8 = ((b0.toNat * 2 ^ 8 + b1.toNat) * 2 ^ 8 + b2.toNat) * 2 ^ 8 by omega, or_add (k := 8) (by omega)]
def sB (x : Int32) (k : Nat) : UInt8 := toB (f_ush x (nI (24 - 8 * k)))
theorem toB_bv (x y : Int32) (h : ∀ i, i < 8 → x.toBitVec.getLsbD i = y.toBitVec.getLsbD i) : toB x = toB y := by
  have e : x.toBitVec.setWidth 8 = y.toBitVec.setWidth 8 := by
    apply BitVec.eq_of_getLsbD_eq
    intro i hi
    rw [BitVec.getLsbD_setWidth, BitVec.getLsbD_setWidth, h i hi]
  have e2 := congrArg BitVec.toNat e
  rw [BitVec.toNat_setWidth, BitVec.toNat_setWidth] at e2
  unfold toB
  apply UInt8.toNat_inj.mp
  rw [UInt8.toNat_ofNat', UInt8.toNat_ofNat']
  exact e2
theorem sh_cnt : ∀ s, s < 25 → ((nI s &&& 31).toBitVec.smod 32).toNat = s ∧ (((nI s).toUInt32 &&& Int32.toUInt32 31).toBitVec % 32).toNat = s := by decide
theorem toB_shr (x : Int32) {s : Nat} (hs : s < 25) : toB (x >>> (nI s &&& 31)) = toB (f_ush x (nI s)) := by
  apply toB_bv
  intro i hi
  have h1 : (x >>> (nI s &&& 31)).toBitVec.getLsbD i = x.toBitVec.getLsbD (s + i) := by
    rw [Int32.toBitVec_shiftRight, BitVec.sshiftRight_eq', BitVec.getLsbD_sshiftRight, (sh_cnt s hs).1]
    rw [if_pos (by omega)]
    simp
    omega
  have h2 : (f_ush x (nI s)).toBitVec.getLsbD i = x.toBitVec.getLsbD (s + i) := by
    have h3 := pk_ushr x (nI s) s (sh_cnt s hs).2
    have h4 : (f_ush x (nI s)).toBitVec.toNat = x.toBitVec.toNat / 2 ^ s := h3
    rw [← BitVec.testBit_toNat, h4, Nat.testBit_div_two_pow, BitVec.testBit_toNat, Nat.add_comm i s]
  rw [h1, h2]
def sh8 (f : Nat → Int32) : Nat → Int32 := fun j => f (8 + j)
theorem rstep_congr {f g : Nat → Int32} (h : ∀ j, j < 8 → f j = g j) (k w : Int32) : ∀ j, j < 8 → rstep f k w j = rstep g k w j := by
  have e0 := h 0 (by omega)
  have e1 := h 1 (by omega)
  have e2 := h 2 (by omega)
  have e3 := h 3 (by omega)
  have e4 := h 4 (by omega)
  have e5 := h 5 (by omega)
  have e6 := h 6 (by omega)
  have e7 := h 7 (by omega)
  have t1 : rT1 f k w = rT1 g k w := by unfold rT1; rw [e4, e5, e6, e7]
  have t2 : rT2 f = rT2 g := by unfold rT2; rw [e0, e1, e2]
  intro j hj
  rcases (show j = 0 ∨ j = 1 ∨ j = 2 ∨ j = 3 ∨ j = 4 ∨ j = 5 ∨ j = 6 ∨ j = 7 by omega) with rfl | rfl | rfl | rfl | rfl | rfl | rfl | rfl
  · show rT1 f k w + rT2 f = rT1 g k w + rT2 g
    rw [t1, t2]
  · exact e0
  · exact e1
  · exact e2
  · show f 3 + rT1 f k w = g 3 + rT1 g k w
    rw [t1, e3]
  · exact e4
  · exact e5
  · exact e6
theorem rs_congr_f {W f g : Nat → Int32} (h : ∀ j, j < 8 → f j = g j) : ∀ n, ∀ j, j < 8 → rs W f n j = rs W g n j := by
  intro n
  induction n with
  | zero => exact h
  | succ n ih => exact rstep_congr ih (KW n) (W n)
theorem bkv_congr {W f g : Nat → Int32} (h : ∀ j, j < 8 → f j = g j) : ∀ j, j < 8 → bkv W f j = bkv W g j := fun j hj => by
  unfold bkv
  rw [h j hj, rs_congr_f h 64 j hj]
theorem rnd_8 {f S1 r : Nat → Int32} {k w : Int32} (hr : ∀ j, j < 8 → S1 (8 + j) = r j) (f8 : f 8 = rT1 (sh8 S1) k w + rT2 (sh8 S1)) (f9 : f 9 = S1 8) (f10 : f 10 = S1 9) (f11 : f 11 = S1 10) (f12 : f 12 = S1 11 + rT1 (sh8 S1) k w) (f13 : f 13 = S1 12) (f14 : f 14 = S1 13) (f15 : f 15 = S1 14) : ∀ j, j < 8 → f (8 + j) = rstep r k w j := by
  intro j hj
  rw [← rstep_congr (f := sh8 S1) hr k w j hj]
  rcases (show j = 0 ∨ j = 1 ∨ j = 2 ∨ j = 3 ∨ j = 4 ∨ j = 5 ∨ j = 6 ∨ j = 7 by omega) with rfl | rfl | rfl | rfl | rfl | rfl | rfl | rfl
  · exact f8
  · exact f9
  · exact f10
  · exact f11
  · exact f12
  · exact f13
  · exact f14
  · exact f15
theorem dg_shr {v w : Nat → Int32} {k : Nat} (h : ∀ j, j < 8 → w j = v j) (hk : k < 32) : toB (w (k / 4) >>> (nI (24 - 8 * (k % 4)) &&& 31)) = dgB v k := by
  rw [toB_shr _ (by omega), h (k / 4) (by omega)]
  rfl
theorem pad_zero4 {T : Nat → UInt8} {L : List UInt8} {k : Nat} (h : ∀ j, j < k → T j = padP L j) (h1 : L.length < k) (h2 : k + 3 < szP L - 4) : ∀ j, j < k + 1 + 1 + 1 + 1 → upb (upb (upb (upb T k (sB (nI 0) 0)) (k + 1) (sB (nI 0) 1)) (k + 1 + 1) (sB (nI 0) 2)) (k + 1 + 1 + 1) (sB (nI 0) 3) j = padP L j :=
  pad_zero (pad_zero (pad_zero (pad_zero h h1 (by omega) (by decide)) (by omega) (by omega) (by decide)) (by omega) (by omega) (by decide)) (by omega) (by omega) (by decide)
theorem pad_len4 {T : Nat → UInt8} {L : List UInt8} {k b : Nat} (h : ∀ j, j < k → T j = padP L j) (h1 : L.length < k) (h2 : k = szP L - 4) (hb : b = L.length * 8) : ∀ j, j < k + 1 + 1 + 1 + 1 → upb (upb (upb (upb T k (sB (nI b) 0)) (k + 1) (sB (nI b) 1)) (k + 1 + 1) (sB (nI b) 2)) (k + 1 + 1 + 1) (sB (nI b) 3) j = padP L j := by
  subst hb
  exact pad_len (s := 3) (pad_len (s := 2) (pad_len (s := 1) (pad_len (s := 0) h h1 (by omega) rfl) (by omega) (by omega) rfl) (by omega) (by omega) rfl) (by omega) (by omega) rfl
