/-! ===== the hash, as a function ===== -/
def rotr (x y : Int32) : Int32 := f_ush x y ||| (x <<< ((nI 32 - y) &&& 31))
def wd (P : Nat → UInt8) (at0 k : Nat) : Int32 := (((bI (P (at0 + 4 * k)) <<< (nI 24 &&& 31)) ||| (bI (P (at0 + 4 * k + 1)) <<< (nI 16 &&& 31))) ||| (bI (P (at0 + 4 * k + 2)) <<< (nI 8 &&& 31))) ||| bI (P (at0 + 4 * k + 3))
def sg0 (x : Int32) : Int32 := (rotr x (nI 7) ^^^ rotr x (nI 18)) ^^^ (f_ush x (nI 3))
def sg1 (x : Int32) : Int32 := (rotr x (nI 17) ^^^ rotr x (nI 19)) ^^^ (f_ush x (nI 10))
def sch (P : Nat → UInt8) (at0 t : Nat) : Int32 :=
  if t < 16 then wd P at0 t else ((sch P at0 (t - 16) + sg0 (sch P at0 (t - 15))) + sch P at0 (t - 7)) + sg1 (sch P at0 (t - 2))
termination_by t
decreasing_by all_goals omega
theorem sch_lo {P : Nat → UInt8} {at0 t : Nat} (h : t < 16) : sch P at0 t = wd P at0 t := by rw [sch, if_pos h]
theorem sch_hi {P : Nat → UInt8} {at0 t : Nat} (h : ¬ t < 16) : sch P at0 t = ((sch P at0 (t - 16) + sg0 (sch P at0 (t - 15))) + sch P at0 (t - 7)) + sg1 (sch P at0 (t - 2)) := by rw [sch, if_neg h]
theorem wd_congr {P P' : Nat → UInt8} {at0 t : Nat} (h : ∀ j, j < 64 → P (at0 + j) = P' (at0 + j)) (ht : t < 16) : wd P at0 t = wd P' at0 t := by
  have h0 := h (4 * t) (by omega)
  have h1 := h (4 * t + 1) (by omega)
  have h2 := h (4 * t + 2) (by omega)
  have h3 := h (4 * t + 3) (by omega)
  unfold wd
  rw [Nat.add_assoc at0 (4 * t) 1, Nat.add_assoc at0 (4 * t) 2, Nat.add_assoc at0 (4 * t) 3, h0, h1, h2, h3]
theorem sch_congr {P P' : Nat → UInt8} {at0 : Nat} (h : ∀ j, j < 64 → P (at0 + j) = P' (at0 + j)) : ∀ n t, t < n → sch P at0 t = sch P' at0 t := by
  intro n
  induction n with
  | zero => intro t ht; exact absurd ht (Nat.not_lt_zero _)
  | succ n ih =>
    intro t ht
    by_cases h16 : t < 16
    · rw [sch_lo h16, sch_lo h16, wd_congr h h16]
    · rw [sch_hi h16, sch_hi h16, ih (t - 16) (by omega), ih (t - 15) (by omega), ih (t - 7) (by omega), ih (t - 2) (by omega)]
def rT1 (f : Nat → Int32) (k w : Int32) : Int32 := (((f 7 + ((rotr (f 4) (nI 6) ^^^ rotr (f 4) (nI 11)) ^^^ rotr (f 4) (nI 25))) + ((f 4 &&& f 5) ^^^ ((f 4 ^^^ -1) &&& f 6))) + k) + w
def rT2 (f : Nat → Int32) : Int32 := ((rotr (f 0) (nI 2) ^^^ rotr (f 0) (nI 13)) ^^^ rotr (f 0) (nI 22)) + (((f 0 &&& f 1) ^^^ (f 0 &&& f 2)) ^^^ (f 1 &&& f 2))
def rstep (f : Nat → Int32) (k w : Int32) : Nat → Int32 := fun j => match j with
  | 0 => rT1 f k w + rT2 f
  | 1 => f 0
  | 2 => f 1
  | 3 => f 2
  | 4 => f 3 + rT1 f k w
  | 5 => f 4
  | 6 => f 5
  | _ => f 6
def rs (W : Nat → Int32) (f : Nat → Int32) : Nat → Nat → Int32
  | 0 => f
  | t + 1 => rstep (rs W f t) (KW t) (W t)
theorem rs_congr {W W' f : Nat → Int32} : ∀ n, (∀ t, t < n → W t = W' t) → rs W f n = rs W' f n := by
  intro n
  induction n with
  | zero => intro _; rfl
  | succ n ih =>
    intro h
    show rstep (rs W f n) (KW n) (W n) = rstep (rs W' f n) (KW n) (W' n)
    rw [ih (fun t ht => h t (by omega)), h n (by omega)]
theorem rs_0 (W f : Nat → Int32) : rs W f 0 = f := rfl
theorem rs_s (W f : Nat → Int32) (t : Nat) : rs W f (t + 1) = rstep (rs W f t) (KW t) (W t) := rfl
def bkv (S f : Nat → Int32) : Nat → Int32 := fun j => f j + rs S f 64 j
def blk (P : Nat → UInt8) (at0 : Nat) (f : Nat → Int32) : Nat → Int32 := bkv (sch P at0) f
theorem blk_congr {P P' : Nat → UInt8} {at0 : Nat} (h : ∀ j, j < 64 → P (at0 + j) = P' (at0 + j)) (f : Nat → Int32) : blk P at0 f = blk P' at0 f := by
  unfold blk bkv
  rw [rs_congr 64 (fun t ht => sch_congr h 64 t ht)]
def szP (L : List UInt8) : Nat := if L.length + 9 ≤ 64 then 64 else 128
def padP (L : List UInt8) : Nat → UInt8 := fun j => if j < L.length then L.getD j 0 else if j = L.length then 128 else if szP L - 4 ≤ j then toB (f_ush (nI (L.length * 8)) (nI (24 - 8 * (j - (szP L - 4))))) else 0
def shaW (L : List UInt8) : Nat → Int32 := if L.length + 9 ≤ 64 then blk (padP L) 0 HI else blk (padP L) 64 (blk (padP L) 0 HI)
def dgB (v : Nat → Int32) (k : Nat) : UInt8 := toB (f_ush (v (k / 4)) (nI (24 - 8 * (k % 4))))
def bl (n : Nat) (f : Nat → UInt8) : List UInt8 := (List.range n).map f
def dgL (v : Nat → Int32) : List UInt8 := bl 32 (dgB v)
def kfn (key : Nat → UInt8) (pad : UInt8) (k : Nat) : UInt8 := if k < 16 then key k ^^^ pad else pad
def kpad (key : Nat → UInt8) (pad : UInt8) : List UInt8 := bl 64 (kfn key pad)
def hmW (key : Nat → UInt8) (msg : List UInt8) : Nat → Int32 := shaW (kpad key (UInt8.ofNat 92) ++ dgL (shaW (kpad key (UInt8.ofNat 54) ++ msg)))
def nB (i k : Nat) : UInt8 := toB (f_ush (nI i) (nI (24 - 8 * k)))
def rcf (g : Nat → UInt8) (a : Nat) : Nat → UInt8 := fun j => g (a + j)
def tmsg (i : Nat) (g : Nat → UInt8) (a : Nat) (bf : Nat → UInt8) : List UInt8 := (bl 4 (nB i) ++ bl (2 + (g (a + 1)).toNat) (rcf g a)) ++ bl 8 bf
def tagW (key : Nat → UInt8) (i : Nat) (g : Nat → UInt8) (a : Nat) (bf : Nat → UInt8) : Nat → Int32 := hmW key (tmsg i g a bf)
def nextKey (key : Nat → UInt8) : Nat → UInt8 := dgB (shaW ([UInt8.ofNat 75] ++ bl 16 key))
/-- a text's row holds a list -/
def tx (T : Nat → UInt8) (L : List UInt8) : Prop := ∀ j, j < L.length → T j = L.getD j 0
theorem bl_len (n : Nat) (f : Nat → UInt8) : (bl n f).length = n := by unfold bl; rw [List.length_map, List.length_range]
theorem bl_s (n : Nat) (f : Nat → UInt8) : bl (n + 1) f = bl n f ++ [f n] := by
  unfold bl
  rw [List.range_succ, List.map_append]
  rfl
theorem bl_0 (f : Nat → UInt8) : bl 0 f = [] := rfl
theorem kpad_len (key : Nat → UInt8) (p : UInt8) : (kpad key p).length = 64 := bl_len 64 _
theorem kfn_lo {key : Nat → UInt8} {p : UInt8} {k : Nat} (h : k < 16) : kfn key p k = key k ^^^ p := if_pos h
theorem kfn_hi {key : Nat → UInt8} {p : UInt8} {k : Nat} (h : 16 ≤ k) : kfn key p k = p := if_neg (Nat.not_lt.mpr h)
theorem tag_eq {key : Nat → UInt8} {i : Nat} {g : Nat → UInt8} {a : Nat} {bf : Nat → UInt8} : shaW (kpad key (UInt8.ofNat 92) ++ bl 32 (dgB (shaW (((kpad key (UInt8.ofNat 54) ++ bl 4 (nB i)) ++ bl (2 + (g (a + 1)).toNat) (rcf g a)) ++ bl 8 bf)))) = tagW key i g a bf := by
  unfold tagW hmW tmsg dgL
  rw [List.append_assoc (kpad key (UInt8.ofNat 54)), List.append_assoc (kpad key (UInt8.ofNat 54)), List.append_assoc (bl 4 (nB i))]
theorem bl_congr {n : Nat} {f g : Nat → UInt8} (h : ∀ j, j < n → f j = g j) : bl n f = bl n g := by
  unfold bl
  exact List.map_congr_left fun j hj => h j (List.mem_range.mp hj)
theorem tx_nil (T : Nat → UInt8) : tx T [] := fun j h => absurd h (Nat.not_lt_zero _)
theorem tx_put {T : Nat → UInt8} {L : List UInt8} {n : Nat} {b : UInt8} (h : tx T L) (hn : n = L.length) : tx (upb T n b) (L ++ [b]) := by
  intro j hj
  rw [List.length_append, List.length_singleton] at hj
  subst hn
  unfold upb
  by_cases e : j = L.length
  · rw [if_pos e, e, List.getD_eq_getElem?_getD, List.getElem?_append_right (Nat.le_refl _), Nat.sub_self]
    rfl
  · rw [if_neg e, h j (by omega), List.getD_eq_getElem?_getD, List.getD_eq_getElem?_getD, List.getElem?_append_left (by omega)]
theorem toB_bI (b : UInt8) : toB (bI b) = b := by
  unfold toB bI
  rw [pk_tn (Nat.lt_trans (bI_lt b) (by decide))]
  exact UInt8.ofNat_toNat
/-- byte k of four numbers -/
def oct4 (a b c d : Int32) (k : Nat) : UInt8 := toB (f_ush (if k < 4 then a else if k < 8 then b else if k < 12 then c else d) (nI (24 - 8 * (k % 4))))
theorem nb_at (g : Nat → UInt8) (k : Nat) : nb g k = bI (g k) := rfl
