/-! ===== what the Statement gives at the law's entry ===== -/
def fl1 : List Cond := flatC (Jvm.Cond.and given_1 narrow_1)
theorem fl_hi : ∀ j, j < 8 → Cond.eq (.elem (.static "ForwardLog" "FIRST_STATE" "[I") (.int (Int32.ofNat j))) (.int (HI j)) ∈ fl1 := by decide +kernel
theorem fl_kw : ∀ j, j < 64 → Cond.eq (.elem (.static "ForwardLog" "ROUND_WORDS" "[I") (.int (Int32.ofNat j))) (.int (KW j)) ∈ fl1 := by decide +kernel
theorem fl_str : ∀ q ∈ fTx, Cond.exactly (.string RX4 q.1) "java/lang/String" ∈ fl1 := by decide +kernel
theorem tb_str : ∀ q ∈ fTx, Cond.stringRef RX4 q.1 q.2 ∈ lw_tbl := by decide +kernel
theorem ent_E {s : State} {args : Array Value} (ht : ∀ w ∈ lw_tbl, w.before args s = true) (hgv : (Jvm.Cond.and given_1 narrow_1).before args s = true) :
    ∃ p1 p2 : Nat, ∀ (D : va_G) (cI cL : ClassId), fE (D, cI, cL, p1, p2) (fun q : Nat => s.heap.size ≤ q) s s.heap := by
  have hg : ∀ c ∈ fl1, c.before args s = true := flat_of_before _ hgv
  have hA : ∀ a : Nat, a < s.heap.size → ¬ (fun q : Nat => s.heap.size ≤ q) a := fun a h => Nat.not_le.mpr h
  obtain ⟨p1, e1, T1⟩ := va_Tof (tm := .static "ForwardLog" "FIRST_STATE" "[I") (ty := .int) (N := 8) (f := fun j => .int (HI j)) (by decide) (hg _ (by decide +kernel)) (va_eqt (hg _ (by decide +kernel))) (fun j hj => va_eqt (hg _ (fl_hi j hj))) hA
  obtain ⟨p2, e2, T2⟩ := va_Tof (tm := .static "ForwardLog" "ROUND_WORDS" "[I") (ty := .int) (N := 64) (f := fun j => .int (KW j)) (by decide) (hg _ (by decide +kernel)) (va_eqt (hg _ (by decide +kernel))) (fun j hj => va_eqt (hg _ (fl_kw j hj))) hA
  have Z1 := va_Zref (A := fun q : Nat => s.heap.size ≤ q) (ht (.laysStatic "ForwardLog" "FIRST_STATE" "[I") (by decide +kernel)) (ht (.initialized "ForwardLog") (by decide +kernel)) e1 hA
  have Z2 := va_Zref (A := fun q : Nat => s.heap.size ≤ q) (ht (.laysStatic "ForwardLog" "ROUND_WORDS" "[I") (by decide +kernel)) (ht (.initialized "ForwardLog") (by decide +kernel)) e2 hA
  have U1 := vx_Zqof (A := fun q : Nat => s.heap.size ≤ q) (ht (.laysStatic Bundle.tN "UNASSIGNED_STACK" Bundle.steD) (by decide +kernel)) (ht (.initialized Bundle.tN) (by decide +kernel)) (hg (.isRef (.static Bundle.tN "UNASSIGNED_STACK" Bundle.steD)) (by decide +kernel)) hA
  have U2 := vx_Zqof (A := fun q : Nat => s.heap.size ≤ q) (ht (.laysStatic Bundle.tN "SUPPRESSED_SENTINEL" Bundle.listD) (by decide +kernel)) (ht (.initialized Bundle.tN) (by decide +kernel)) (hg (.isRef (.static Bundle.tN "SUPPRESSED_SENTINEL" Bundle.listD)) (by decide +kernel)) hA
  have S1 : ∀ q ∈ fTx, ∃ sa : Nat, vk_R RX4 q.1 q.2 sa s := by
    intro q hq
    obtain ⟨a, c, cA, kA, q1, -⟩ := Cond.exactly_spec (args := args) (first := s) (o := none) (s := s) (idx := []) (t := .string RX4 q.1) (cls := "java/lang/String") (hg _ (fl_str q hq))
    exact ⟨a, vk_R.of (ht _ (tb_str q hq)) q1⟩
  have N1 : fN s := ⟨va_Nw.of rfl (ht _ (by decide +kernel)), va_Nw.of rfl (ht _ (by decide +kernel)), va_Nw.of rfl (ht _ (by decide +kernel)), va_Nw.of rfl (ht _ (by decide +kernel)),
    va_Nw.of rfl (ht _ (by decide +kernel)), va_Nw.of rfl (ht _ (by decide +kernel)), va_Nw.of rfl (ht _ (by decide +kernel)), va_Nc.of (hg _ (by decide +kernel)), va_Nc.of (hg _ (by decide +kernel)), va_Nw.of rfl (ht _ (by decide +kernel)), va_Nw.of rfl (ht _ (by decide +kernel)), va_Nw.of rfl (ht _ (by decide +kernel))⟩
  exact ⟨p1, p2, fun D cI cL => ⟨Z1, T1, Z2, T2, U1, U2, S1, N1⟩⟩
theorem ent_K {s : State} {args : Array Value} (ht : ∀ w ∈ lw_tbl, w.before args s = true) : ∃ (D : va_G) (cI cL : ClassId), va_K D vwCl [(cI, .int), (cL, .long)] s := by
  obtain ⟨c0, i0, K0⟩ := u_known (C := RX0) (T := TX0) (N := 3) (n := 3) ht tb_X0 (ht (.instantiable RX0 3) (by decide +kernel))
  obtain ⟨c1, i1, K1⟩ := u_known (C := RX1) (T := TX1) (N := 4) (n := 4) ht tb_X1 (ht (.instantiable RX1 4) (by decide +kernel))
  obtain ⟨c2, i2, K2⟩ := u_known (C := RX2) (T := TX2) (N := 2) (n := 2) ht tb_X2 (ht (.instantiable RX2 2) (by decide +kernel))
  obtain ⟨c3, i3, K3⟩ := u_known (C := RX3) (T := TX3) (N := 9) (n := 9) ht tb_X3 (ht (.instantiable RX3 9) (by decide +kernel))
  obtain ⟨c4, i4, K4⟩ := u_known (C := RX4) (T := TX4) (N := 10) (n := 10) ht tb_X4 (ht (.instantiable RX4 10) (by decide +kernel))
  obtain ⟨c5, i5, K5⟩ := u_known (C := RX5) (T := TX5) (N := 30) (n := 30) ht tb_X5 (ht (.instantiable RX5 30) (by decide +kernel))
  obtain ⟨cI, kI, mI, f1, f2, f3⟩ := Cond.arrayClass_spec (args := args) (first := s) (o := none) (s := s) (idx := []) (type := .int) (ht (.arrayClass .int) (by decide +kernel))
  obtain ⟨cL, kL, mL, g1, g2, g3⟩ := Cond.arrayClass_spec (args := args) (first := s) (o := none) (s := s) (idx := []) (type := .long) (ht (.arrayClass .long) (by decide +kernel))
  refine ⟨(fun k => match k with | 0 => c0 | 1 => c1 | 2 => c2 | 3 => c3 | 4 => c4 | _ => c5, fun k => match k with | 0 => i0 | 1 => i1 | 2 => i2 | 3 => i3 | 4 => i4 | _ => i5), cI, cL, fun k q hq => ?_, fun k q hq => ?_⟩
  · match k, hq with
    | 0, hq => cases hq; exact K0
    | 1, hq => cases hq; exact K1
    | 2, hq => cases hq; exact K2
    | 3, hq => cases hq; exact K3
    | 4, hq => cases hq; exact K4
    | 5, hq => cases hq; exact K5
    | k + 6, hq => simp [vwCl] at hq
  · match k, hq with
    | 0, hq => cases hq; exact ⟨fun n z => ⟨fun k h => (by cases h), kI, f2, mI, f3⟩, f1⟩
    | 1, hq => cases hq; exact ⟨fun n z => ⟨fun k h => (by cases h), kL, g2, mL, g3⟩, g1⟩
    | k + 2, hq => simp at hq
