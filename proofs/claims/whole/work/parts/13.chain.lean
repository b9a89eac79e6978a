set_option maxRecDepth 100000 in
set_option maxHeartbeats 4000000 in
theorem kX1_putKey (l : Launch) (G : fG) (h : Nat) (tx1 : Nat) (sc : Nat) (st : Nat) (T : Nat → UInt8) (n : Nat) (S : Nat → Int32) (v : Nat → Int32) (c : Nat) (ko : Nat) (key : Nat → UInt8) (i : Nat) (q : Nat) (hq : q < 256) : fMV l yX1_putKey (.code yX1_putKey cX1_putKey 4 none :: wsA) ({ frames := 1, cells := 0, slots := 0, locals := 21 } : Room) G [.ref h, .ref c, .int (nI q)] [(h, .inr (1, [.ref tx1, .ref sc, .ref st, .int (nI n)])), (tx1, .inl (G.2.1, 128, .inl (nb T))), (sc, .inl (G.2.1, 64, .inl S)), (st, .inl (G.2.1, 8, .inl v)), (c, .inr (2, [.ref ko, .int (nI i)])), (ko, .inl (G.2.1, 16, .inl (nb key)))] (fun (u : (Nat → UInt8)) => tx u (kpad key (UInt8.ofNat q))) (fun (u : (Nat → UInt8)) => [(h, .inr (1, [.ref tx1, .ref sc, .ref st, .int (nI 64)])), (tx1, .inl (G.2.1, 128, .inl (nb u))), (sc, .inl (G.2.1, 64, .inl S)), (st, .inl (G.2.1, 8, .inl v)), (c, .inr (2, [.ref ko, .int (nI i)])), (ko, .inl (G.2.1, 16, .inl (nb key)))]) 0 0 := by
  refine fV_start (cc := cX1_putKey) (maxL := 4) (by decide) rfl (Nat.le_of_ble_eq_true rfl) ?_
  intro prg env sv mid args below meth cd A Q ls hx hb hml hown hts hin hK hP hD hE hA hS hl hend
  replace hown : sv.vm.findClass RX1 = some mid.cls := hown
  replace hP : va_P G.1 vwCl [(h, .inr (1, [.ref tx1, .ref sc, .ref st, .int (nI n)])), (tx1, .inl (G.2.1, 128, .inl (nb T))), (sc, .inl (G.2.1, 64, .inl S)), (st, .inl (G.2.1, 8, .inl v)), (c, .inr (2, [.ref ko, .int (nI i)])), (ko, .inl (G.2.1, 16, .inl (nb key)))] sv.heap := hP
  replace hl : lv_has ls 4 [(0, .ref h), (1, .ref c), (2, .int (nI q))] := hl
  refine lv_aload_n hx hb dX1_putKey_0 rfl (lv_at hl 0 rfl) ?_
  refine fcVV (As := []) (rest := []) (wr := [(c, .inr (2, [.ref ko, .int (nI i)])), (ko, .inl (G.2.1, 16, .inl (nb key)))]) (ws1 := fun (u : Unit) => [(h, .inr (1, [.ref tx1, .ref sc, .ref st, .int (nI 0)])), (tx1, .inl (G.2.1, 128, .inl (nb T))), (sc, .inl (G.2.1, 64, .inl S)), (st, .inl (G.2.1, 8, .inl v)), (c, .inr (2, [.ref ko, .int (nI i)])), (ko, .inl (G.2.1, 16, .inl (nb key)))]) ⟨hx, hb, hml, hown, hts⟩ hK hE hP hD hS hA hl.1 (kX1_clear l G h tx1 sc st T n S v ) (cwV 0 hts (gdV wm_53 wm_54 wm_55 wm_56 wm_48) rfl rfl rfl (by decide +kernel) ⟨Nat.le_of_ble_eq_true rfl, Nat.le_of_ble_eq_true rfl⟩) 0 rfl rfl rfl rfl (Nat.le_of_ble_eq_true rfl) dX1_putKey_1 ⟨Nat.le_of_ble_eq_true rfl, Nat.le_of_ble_eq_true rfl⟩ [0, 1, 2, 3] [4, 5] [2, 3, 4, 5, 0, 1] rfl rfl rfl rfl (by decide) rfl (fun _ => rfl) (fun u_1 H_1 locs_1 hw_1 hP_1 hD_1 hS_1 => ?_)
  replace hP : va_P G.1 vwCl [(h, .inr (1, [.ref tx1, .ref sc, .ref st, .int (nI 0)])), (tx1, .inl (G.2.1, 128, .inl (nb T))), (sc, .inl (G.2.1, 64, .inl S)), (st, .inl (G.2.1, 8, .inl v)), (c, .inr (2, [.ref ko, .int (nI i)])), (ko, .inl (G.2.1, 16, .inl (nb key)))] H_1 := hP_1
  replace hD : va_D A [(h, .inr (1, [.ref tx1, .ref sc, .ref st, .int (nI 0)])), (tx1, .inl (G.2.1, 128, .inl (nb T))), (sc, .inl (G.2.1, 64, .inl S)), (st, .inl (G.2.1, 8, .inl v)), (c, .inr (2, [.ref ko, .int (nI i)])), (ko, .inl (G.2.1, 16, .inl (nb key)))] := hD_1
  replace hS : va_S A sv.heap H_1 locs_1 := hS_1
  clear hP_1 hD_1 hS_1
  refine lv_iconst (v := nI 0) hx hb dX1_putKey_4 (by decide) ?_
  refine lv_istore_n (lv' := [(3, .int (nI 0)), (0, .ref h), (1, .ref c), (2, .int (nI q))]) hx hb dX1_putKey_5 rfl hl (by decide) rfl (fun ls hl2 => ?_)
  replace hl := hl2; clear hl2
  have L_6 : ∀ (n9 : Nat) (k : Nat) (T1 : Nat → UInt8) (H : Heap) (locs : List Loc) (ls : Array Slot), (65 - k) < n9 → (k ≤ 64) → (tx T1 ([] ++ bl k (kfn key (UInt8.ofNat q)))) → va_P G.1 vwCl [(h, .inr (1, [.ref tx1, .ref sc, .ref st, .int (nI k)])), (tx1, .inl (G.2.1, 128, .inl (nb T1))), (sc, .inl (G.2.1, 64, .inl S)), (st, .inl (G.2.1, 8, .inl v)), (c, .inr (2, [.ref ko, .int (nI i)])), (ko, .inl (G.2.1, 16, .inl (nb key)))] H → va_D A [(h, .inr (1, [.ref tx1, .ref sc, .ref st, .int (nI k)])), (tx1, .inl (G.2.1, 128, .inl (nb T1))), (sc, .inl (G.2.1, 64, .inl S)), (st, .inl (G.2.1, 8, .inl v)), (c, .inr (2, [.ref ko, .int (nI i)])), (ko, .inl (G.2.1, 16, .inl (nb key)))] → va_S A sv.heap H locs → lv_has ls 4 [(0, .ref h), (1, .ref c), (2, .int (nI q)), (3, .int (nI k))] → W prg l env ({ frames := 1, cells := 0, slots := 0, locals := 21 } : Room) sv mid args below meth cd H locs 0 0 Q (F0 mid 6 ls []) := by
    intro n9
    induction n9 with
    | zero => intro k T1 H locs ls hmu; exact absurd hmu (Nat.not_lt_zero _)
    | succ n9 ih_6 =>
      intro k T1 H locs ls hmu_6 hk hT1 hP hD hS hl
      refine lv_iload_n hx hb dX1_putKey_6 rfl (lv_at hl 3 rfl) ?_
      refine lv_bipush (v := nI 64) hx hb dX1_putKey_7 (by decide) ?_
      refine f_icmp_ge (tgt := 40) (by omega) (by omega) hx hb dX1_putKey_9 (by decide) (fun c_9 => ?_) (fun c_9 => ?_)
      · skip
        obtain rfl : k = 64 := by omega
        rw [List.nil_append] at hT1
        exact hend T1 _ _ _ _ hT1 hP hD hS dX1_putKey_40
      · skip
        refine lv_aload_n hx hb dX1_putKey_12 rfl (lv_at hl 0 rfl) ?_
        refine lv_iload_n hx hb dX1_putKey_13 rfl (lv_at hl 3 rfl) ?_
        refine lv_bipush (v := nI 16) hx hb dX1_putKey_14 (by decide) ?_
        refine f_icmp_ge (tgt := 30) (by omega) (by omega) hx hb dX1_putKey_16 (by decide) (fun c_16 => ?_) (fun c_16 => ?_)
        · skip
          refine lv_iload_n hx hb dX1_putKey_30 rfl (lv_at hl 2 rfl) ?_
          refine fcVV (As := [.int (nI q)]) (rest := []) (wr := [(c, .inr (2, [.ref ko, .int (nI i)])), (ko, .inl (G.2.1, 16, .inl (nb key)))]) (ws1 := fun (u : Unit) => [(h, .inr (1, [.ref tx1, .ref sc, .ref st, .int (nI (k + 1))])), (tx1, .inl (G.2.1, 128, .inl (nb (upb T1 k (toB (nI q)))))), (sc, .inl (G.2.1, 64, .inl S)), (st, .inl (G.2.1, 8, .inl v)), (c, .inr (2, [.ref ko, .int (nI i)])), (ko, .inl (G.2.1, 16, .inl (nb key)))]) ⟨hx, hb, hml, hown, hts⟩ hK hE hP hD hS hA hl.1 (kX1_put l G h tx1 sc st T1 k S v (nI q) (by omega)) (cwV 1 hts (gdV wm_57 wm_58 wm_59 wm_56 wm_49) rfl rfl rfl (by decide +kernel) ⟨Nat.le_of_ble_eq_true rfl, Nat.le_of_ble_eq_true rfl⟩) 0 rfl rfl rfl rfl (Nat.le_of_ble_eq_true rfl) dX1_putKey_31 ⟨Nat.le_of_ble_eq_true rfl, Nat.le_of_ble_eq_true rfl⟩ [0, 1, 2, 3] [4, 5] [2, 3, 4, 5, 0, 1] rfl rfl rfl rfl (by decide) rfl (fun _ => rfl) (fun u_31 H_31 locs_31 hw_31 hP_31 hD_31 hS_31 => ?_)
          replace hP : va_P G.1 vwCl [(h, .inr (1, [.ref tx1, .ref sc, .ref st, .int (nI (k + 1))])), (tx1, .inl (G.2.1, 128, .inl (nb (upb T1 k (toB (nI q)))))), (sc, .inl (G.2.1, 64, .inl S)), (st, .inl (G.2.1, 8, .inl v)), (c, .inr (2, [.ref ko, .int (nI i)])), (ko, .inl (G.2.1, 16, .inl (nb key)))] H_31 := hP_31
          replace hD : va_D A [(h, .inr (1, [.ref tx1, .ref sc, .ref st, .int (nI (k + 1))])), (tx1, .inl (G.2.1, 128, .inl (nb (upb T1 k (toB (nI q)))))), (sc, .inl (G.2.1, 64, .inl S)), (st, .inl (G.2.1, 8, .inl v)), (c, .inr (2, [.ref ko, .int (nI i)])), (ko, .inl (G.2.1, 16, .inl (nb key)))] := hD_31
          replace hS : va_S A sv.heap H_31 locs_31 := hS_31
          clear hP_31 hD_31 hS_31
          refine lv_iinc (v := nI (k + 1)) (lv' := [(3, .int (nI (k + 1))), (0, .ref h), (1, .ref c), (2, .int (nI q))]) hx hb dX1_putKey_34 hl (k := 3) rfl (f_inc1 _) (by decide) rfl (fun ls hl2 => ?_)
          replace hl := hl2; clear hl2
          refine lv_goto (tgt := 6) hx hb dX1_putKey_37 (by decide) ?_
          exact ih_6 (k + 1) (upb T1 k (toB (nI q))) _ _ _ (by omega) (by omega) (tx_step (f := kfn key (UInt8.ofNat q)) hT1 (Nat.zero_add _).symm (by rw [kfn_hi c_16]; exact toB_lit _)) hP hD hS (lv_sub hl [1, 2, 3, 0] rfl)
        · skip
          refine lv_aload_n hx hb dX1_putKey_19 rfl (lv_at hl 1 rfl) ?_
          refine va_get (D := G.1) (ci := 2) (v := .ref ko) (C := RX2) (T := TX2) (N := 2) hx hb hts in_wsX20 hown hK hP 4 rfl rfl 0 (by decide) (hts _ wm_52) (fun _ h9 => h9) rfl dX1_putKey_20 ?_
          refine lv_iload_n hx hb dX1_putKey_23 rfl (lv_at hl 3 rfl) ?_
          refine f_iald (v := bI (key k)) hx hb hK hP 5 rfl (by omega) (by decide) rfl dX1_putKey_24 ?_
          refine lv_iload_n hx hb dX1_putKey_25 rfl (lv_at hl 2 rfl) ?_
          refine lv_ixor hx hb dX1_putKey_26 ?_
          refine lv_goto (tgt := 31) hx hb dX1_putKey_27 (by decide) ?_
          refine fcVV (As := [.int ((bI (key k)) ^^^ (nI q))]) (rest := []) (wr := [(c, .inr (2, [.ref ko, .int (nI i)])), (ko, .inl (G.2.1, 16, .inl (nb key)))]) (ws1 := fun (u : Unit) => [(h, .inr (1, [.ref tx1, .ref sc, .ref st, .int (nI (k + 1))])), (tx1, .inl (G.2.1, 128, .inl (nb (upb T1 k (toB ((bI (key k)) ^^^ (nI q))))))), (sc, .inl (G.2.1, 64, .inl S)), (st, .inl (G.2.1, 8, .inl v)), (c, .inr (2, [.ref ko, .int (nI i)])), (ko, .inl (G.2.1, 16, .inl (nb key)))]) ⟨hx, hb, hml, hown, hts⟩ hK hE hP hD hS hA hl.1 (kX1_put l G h tx1 sc st T1 k S v ((bI (key k)) ^^^ (nI q)) (by omega)) (cwV 1 hts (gdV wm_57 wm_58 wm_59 wm_56 wm_49) rfl rfl rfl (by decide +kernel) ⟨Nat.le_of_ble_eq_true rfl, Nat.le_of_ble_eq_true rfl⟩) 0 rfl rfl rfl rfl (Nat.le_of_ble_eq_true rfl) dX1_putKey_31 ⟨Nat.le_of_ble_eq_true rfl, Nat.le_of_ble_eq_true rfl⟩ [0, 1, 2, 3] [4, 5] [2, 3, 4, 5, 0, 1] rfl rfl rfl rfl (by decide) rfl (fun _ => rfl) (fun u_31_1 H_31_1 locs_31_1 hw_31_1 hP_31_1 hD_31_1 hS_31_1 => ?_)
          replace hP : va_P G.1 vwCl [(h, .inr (1, [.ref tx1, .ref sc, .ref st, .int (nI (k + 1))])), (tx1, .inl (G.2.1, 128, .inl (nb (upb T1 k (toB ((bI (key k)) ^^^ (nI q))))))), (sc, .inl (G.2.1, 64, .inl S)), (st, .inl (G.2.1, 8, .inl v)), (c, .inr (2, [.ref ko, .int (nI i)])), (ko, .inl (G.2.1, 16, .inl (nb key)))] H_31_1 := hP_31_1
          replace hD : va_D A [(h, .inr (1, [.ref tx1, .ref sc, .ref st, .int (nI (k + 1))])), (tx1, .inl (G.2.1, 128, .inl (nb (upb T1 k (toB ((bI (key k)) ^^^ (nI q))))))), (sc, .inl (G.2.1, 64, .inl S)), (st, .inl (G.2.1, 8, .inl v)), (c, .inr (2, [.ref ko, .int (nI i)])), (ko, .inl (G.2.1, 16, .inl (nb key)))] := hD_31_1
          replace hS : va_S A sv.heap H_31_1 locs_31_1 := hS_31_1
          clear hP_31_1 hD_31_1 hS_31_1
          refine lv_iinc (v := nI (k + 1)) (lv' := [(3, .int (nI (k + 1))), (0, .ref h), (1, .ref c), (2, .int (nI q))]) hx hb dX1_putKey_34 hl (k := 3) rfl (f_inc1 _) (by decide) rfl (fun ls hl2 => ?_)
          replace hl := hl2; clear hl2
          refine lv_goto (tgt := 6) hx hb dX1_putKey_37 (by decide) ?_
          exact ih_6 (k + 1) (upb T1 k (toB ((bI (key k)) ^^^ (nI q)))) _ _ _ (by omega) (by omega) (tx_step (f := kfn key (UInt8.ofNat q)) hT1 (Nat.zero_add _).symm (by rw [kfn_lo c_16]; exact toB_xor _ _ hq)) hP hD hS (lv_sub hl [1, 2, 3, 0] rfl)
  exact L_6 ((65 - 0) + 1) 0 T _ _ _ (Nat.lt_succ_self _) (by omega) (tx_bl0 (tx_nil _)) hP hD hS (lv_sub hl [1, 2, 3, 0] rfl)

set_option maxRecDepth 100000 in
set_option maxHeartbeats 4000000 in
theorem kX4_octetOfFour (l : Launch) (G : fG) (k : Nat) (a : Int32) (b : Int32) (c : Int32) (d : Int32) (hk : k < 16) : fMI l yX4_octetOfFour (.code yX4_octetOfFour cX4_octetOfFour 6 (some .int) :: wsA) ({ frames := 0, cells := 0, slots := 0, locals := 0 } : Room) G [.int (nI k), .int a, .int b, .int c, .int d] [] (fun (r9 : Int32) (u : Unit) => r9 = bI (oct4 a b c d k)) (fun (u : Unit) => []) 0 0 := by
  refine fI_start (cc := cX4_octetOfFour) (maxL := 6) (by decide) rfl (Nat.le_of_ble_eq_true rfl) ?_
  intro prg env sv mid args below meth cd A Q ls hx hb hml hown hts hin hK hP hD hE hA hS hl hend
  replace hown : sv.vm.findClass RX4 = some mid.cls := hown
  replace hP : va_P G.1 vwCl [] sv.heap := hP
  replace hl : lv_has ls 6 [(0, .int (nI k)), (1, .int a), (2, .int b), (3, .int c), (4, .int d)] := hl
  refine lv_iload_n hx hb dX4_octetOfFour_0 rfl (lv_at hl 0 rfl) ?_
  refine lv_iconst (v := nI 4) hx hb dX4_octetOfFour_1 (by decide) ?_
  refine f_icmp_ge (tgt := 9) (by omega) (by omega) hx hb dX4_octetOfFour_2 (by decide) (fun c_2 => ?_) (fun c_2 => ?_)
  · skip
    refine lv_iload_n hx hb dX4_octetOfFour_9 rfl (lv_at hl 0 rfl) ?_
    refine lv_bipush (v := nI 8) hx hb dX4_octetOfFour_10 (by decide) ?_
    refine f_icmp_ge (tgt := 19) (by omega) (by omega) hx hb dX4_octetOfFour_12 (by decide) (fun c_12 => ?_) (fun c_12 => ?_)
    · skip
      refine lv_iload_n hx hb dX4_octetOfFour_19 rfl (lv_at hl 0 rfl) ?_
      refine lv_bipush (v := nI 12) hx hb dX4_octetOfFour_20 (by decide) ?_
      refine f_icmp_ge (tgt := 29) (by omega) (by omega) hx hb dX4_octetOfFour_22 (by decide) (fun c_22 => ?_) (fun c_22 => ?_)
      · skip
        refine lv_iload hx hb dX4_octetOfFour_29 (lv_at hl 4 rfl) ?_
        refine lv_istore (lv' := [(5, .int d), (0, .int (nI k)), (1, .int a), (2, .int b), (3, .int c), (4, .int d)]) hx hb dX4_octetOfFour_31 hl (by decide) rfl (fun ls hl2 => ?_)
        replace hl := hl2; clear hl2
        refine lv_iload hx hb dX4_octetOfFour_33 (lv_at hl 0 rfl) ?_
        refine lv_bipush (v := nI 24) hx hb dX4_octetOfFour_35 (by decide) ?_
        refine lv_bipush (v := nI 8) hx hb dX4_octetOfFour_37 (by decide) ?_
        refine lv_iload_n hx hb dX4_octetOfFour_39 rfl (lv_at hl 1 rfl) ?_
        refine lv_iconst (v := nI 3) hx hb dX4_octetOfFour_40 (by decide) ?_
        refine lv_iand hx hb dX4_octetOfFour_41 ?_
        refine f_top (y := nI (k % 4)) (pk_andN (by omega) 2 (by decide)) ?_
        refine lv_imul hx hb dX4_octetOfFour_42 ?_
        refine f_top (y := nI (8 * (k % 4))) (pk_mul _ _) ?_
        refine lv_isub hx hb dX4_octetOfFour_43 ?_
        refine f_top (y := nI (24 - (8 * (k % 4)))) (pk_sub (by omega)) ?_
        refine lv_iushr (v := f_ush d (nI (24 - (8 * (k % 4))))) hx hb dX4_octetOfFour_44 rfl ?_
        refine lv_sipush (v := nI 255) hx hb dX4_octetOfFour_45 (by decide) ?_
        refine lv_iand hx hb dX4_octetOfFour_48 ?_
        refine f_top (y := bI (toB (f_ush d (nI (24 - (8 * (k % 4))))))) (f_255 _) ?_
        exact hend (bI (toB (f_ush d (nI (24 - (8 * (k % 4))))))) () _ _ _ _ rfl (by unfold oct4; simp only [if_neg (show ¬ k < 4 by omega), if_neg (show ¬ k < 8 by omega), if_neg (show ¬ k < 12 by omega)]; try rfl) hP hD hS dX4_octetOfFour_49
      · skip
        refine lv_iload_n hx hb dX4_octetOfFour_25 rfl (lv_at hl 3 rfl) ?_
        refine lv_goto (tgt := 31) hx hb dX4_octetOfFour_26 (by decide) ?_
        refine lv_istore (lv' := [(5, .int c), (0, .int (nI k)), (1, .int a), (2, .int b), (3, .int c), (4, .int d)]) hx hb dX4_octetOfFour_31 hl (by decide) rfl (fun ls hl2 => ?_)
        replace hl := hl2; clear hl2
        refine lv_iload hx hb dX4_octetOfFour_33 (lv_at hl 0 rfl) ?_
        refine lv_bipush (v := nI 24) hx hb dX4_octetOfFour_35 (by decide) ?_
        refine lv_bipush (v := nI 8) hx hb dX4_octetOfFour_37 (by decide) ?_
        refine lv_iload_n hx hb dX4_octetOfFour_39 rfl (lv_at hl 1 rfl) ?_
        refine lv_iconst (v := nI 3) hx hb dX4_octetOfFour_40 (by decide) ?_
        refine lv_iand hx hb dX4_octetOfFour_41 ?_
        refine f_top (y := nI (k % 4)) (pk_andN (by omega) 2 (by decide)) ?_
        refine lv_imul hx hb dX4_octetOfFour_42 ?_
        refine f_top (y := nI (8 * (k % 4))) (pk_mul _ _) ?_
        refine lv_isub hx hb dX4_octetOfFour_43 ?_
        refine f_top (y := nI (24 - (8 * (k % 4)))) (pk_sub (by omega)) ?_
        refine lv_iushr (v := f_ush c (nI (24 - (8 * (k % 4))))) hx hb dX4_octetOfFour_44 rfl ?_
        refine lv_sipush (v := nI 255) hx hb dX4_octetOfFour_45 (by decide) ?_
        refine lv_iand hx hb dX4_octetOfFour_48 ?_
        refine f_top (y := bI (toB (f_ush c (nI (24 - (8 * (k % 4))))))) (f_255 _) ?_
        exact hend (bI (toB (f_ush c (nI (24 - (8 * (k % 4))))))) () _ _ _ _ rfl (by unfold oct4; simp only [if_neg (show ¬ k < 4 by omega), if_neg (show ¬ k < 8 by omega), if_pos (show k < 12 by omega)]; try rfl) hP hD hS dX4_octetOfFour_49
    · skip
      refine lv_iload_n hx hb dX4_octetOfFour_15 rfl (lv_at hl 2 rfl) ?_
      refine lv_goto (tgt := 31) hx hb dX4_octetOfFour_16 (by decide) ?_
      refine lv_istore (lv' := [(5, .int b), (0, .int (nI k)), (1, .int a), (2, .int b), (3, .int c), (4, .int d)]) hx hb dX4_octetOfFour_31 hl (by decide) rfl (fun ls hl2 => ?_)
      replace hl := hl2; clear hl2
      refine lv_iload hx hb dX4_octetOfFour_33 (lv_at hl 0 rfl) ?_
      refine lv_bipush (v := nI 24) hx hb dX4_octetOfFour_35 (by decide) ?_
      refine lv_bipush (v := nI 8) hx hb dX4_octetOfFour_37 (by decide) ?_
      refine lv_iload_n hx hb dX4_octetOfFour_39 rfl (lv_at hl 1 rfl) ?_
      refine lv_iconst (v := nI 3) hx hb dX4_octetOfFour_40 (by decide) ?_
      refine lv_iand hx hb dX4_octetOfFour_41 ?_
      refine f_top (y := nI (k % 4)) (pk_andN (by omega) 2 (by decide)) ?_
      refine lv_imul hx hb dX4_octetOfFour_42 ?_
      refine f_top (y := nI (8 * (k % 4))) (pk_mul _ _) ?_
      refine lv_isub hx hb dX4_octetOfFour_43 ?_
      refine f_top (y := nI (24 - (8 * (k % 4)))) (pk_sub (by omega)) ?_
      refine lv_iushr (v := f_ush b (nI (24 - (8 * (k % 4))))) hx hb dX4_octetOfFour_44 rfl ?_
      refine lv_sipush (v := nI 255) hx hb dX4_octetOfFour_45 (by decide) ?_
      refine lv_iand hx hb dX4_octetOfFour_48 ?_
      refine f_top (y := bI (toB (f_ush b (nI (24 - (8 * (k % 4))))))) (f_255 _) ?_
      exact hend (bI (toB (f_ush b (nI (24 - (8 * (k % 4))))))) () _ _ _ _ rfl (by unfold oct4; simp only [if_neg (show ¬ k < 4 by omega), if_pos (show k < 8 by omega)]; try rfl) hP hD hS dX4_octetOfFour_49
  · skip
    refine lv_iload_n hx hb dX4_octetOfFour_5 rfl (lv_at hl 1 rfl) ?_
    refine lv_goto (tgt := 31) hx hb dX4_octetOfFour_6 (by decide) ?_
    refine lv_istore (lv' := [(5, .int a), (0, .int (nI k)), (1, .int a), (2, .int b), (3, .int c), (4, .int d)]) hx hb dX4_octetOfFour_31 hl (by decide) rfl (fun ls hl2 => ?_)
    replace hl := hl2; clear hl2
    refine lv_iload hx hb dX4_octetOfFour_33 (lv_at hl 0 rfl) ?_
    refine lv_bipush (v := nI 24) hx hb dX4_octetOfFour_35 (by decide) ?_
    refine lv_bipush (v := nI 8) hx hb dX4_octetOfFour_37 (by decide) ?_
    refine lv_iload_n hx hb dX4_octetOfFour_39 rfl (lv_at hl 1 rfl) ?_
    refine lv_iconst (v := nI 3) hx hb dX4_octetOfFour_40 (by decide) ?_
    refine lv_iand hx hb dX4_octetOfFour_41 ?_
    refine f_top (y := nI (k % 4)) (pk_andN (by omega) 2 (by decide)) ?_
    refine lv_imul hx hb dX4_octetOfFour_42 ?_
    refine f_top (y := nI (8 * (k % 4))) (pk_mul _ _) ?_
    refine lv_isub hx hb dX4_octetOfFour_43 ?_
    refine f_top (y := nI (24 - (8 * (k % 4)))) (pk_sub (by omega)) ?_
    refine lv_iushr (v := f_ush a (nI (24 - (8 * (k % 4))))) hx hb dX4_octetOfFour_44 rfl ?_
    refine lv_sipush (v := nI 255) hx hb dX4_octetOfFour_45 (by decide) ?_
    refine lv_iand hx hb dX4_octetOfFour_48 ?_
    refine f_top (y := bI (toB (f_ush a (nI (24 - (8 * (k % 4))))))) (f_255 _) ?_
    exact hend (bI (toB (f_ush a (nI (24 - (8 * (k % 4))))))) () _ _ _ _ rfl (by unfold oct4; simp only [if_pos (show k < 4 by omega)]; try rfl) hP hD hS dX4_octetOfFour_49

set_option maxRecDepth 100000 in
set_option maxHeartbeats 4000000 in
theorem kX2_start (l : Launch) (G : fG) (c : Nat) (ko : Nat) (key : Nat → UInt8) (i : Nat) (a : Int32) (b : Int32) (c0 : Int32) (d : Int32)  : fMV l yX2_start (.code yX2_start cX2_start 6 none :: wsA) ({ frames := 1, cells := 0, slots := 0, locals := 25 } : Room) G [.ref c, .int a, .int b, .int c0, .int d] [(c, .inr (2, [.ref ko, .int (nI i)])), (ko, .inl (G.2.1, 16, .inl (nb key)))] (fun (u : Unit) => True) (fun (u : Unit) => [(c, .inr (2, [.ref ko, .int (nI 0)])), (ko, .inl (G.2.1, 16, .inl (nb (oct4 a b c0 d))))]) 0 0 := by
  refine fV_start (cc := cX2_start) (maxL := 6) (by decide) rfl (Nat.le_of_ble_eq_true rfl) ?_
  intro prg env sv mid args below meth cd A Q ls hx hb hml hown hts hin hK hP hD hE hA hS hl hend
  replace hown : sv.vm.findClass RX2 = some mid.cls := hown
  replace hP : va_P G.1 vwCl [(c, .inr (2, [.ref ko, .int (nI i)])), (ko, .inl (G.2.1, 16, .inl (nb key)))] sv.heap := hP
  replace hl : lv_has ls 6 [(0, .ref c), (1, .int a), (2, .int b), (3, .int c0), (4, .int d)] := hl
  refine lv_iconst (v := nI 0) hx hb dX2_start_0 (by decide) ?_
  refine lv_istore (lv' := [(5, .int (nI 0)), (0, .ref c), (1, .int a), (2, .int b), (3, .int c0), (4, .int d)]) hx hb dX2_start_1 hl (by decide) rfl (fun ls hl2 => ?_)
  replace hl := hl2; clear hl2
  have L_3 : ∀ (n9 : Nat) (k : Nat) (k1 : Nat → UInt8) (H : Heap) (locs : List Loc) (ls : Array Slot), (17 - k) < n9 → (k ≤ 16) → (∀ j, j < k → k1 j = oct4 a b c0 d j) → va_P G.1 vwCl [(c, .inr (2, [.ref ko, .int (nI i)])), (ko, .inl (G.2.1, 16, .inl (nb k1)))] H → va_D A [(c, .inr (2, [.ref ko, .int (nI i)])), (ko, .inl (G.2.1, 16, .inl (nb k1)))] → va_S A sv.heap H locs → lv_has ls 6 [(0, .ref c), (1, .int a), (2, .int b), (3, .int c0), (4, .int d), (5, .int (nI k))] → W prg l env ({ frames := 1, cells := 0, slots := 0, locals := 25 } : Room) sv mid args below meth cd H locs 0 0 Q (F0 mid 3 ls []) := by
    intro n9
    induction n9 with
    | zero => intro k k1 H locs ls hmu; exact absurd hmu (Nat.not_lt_zero _)
    | succ n9 ih_3 =>
      intro k k1 H locs ls hmu_3 hk hk1 hP hD hS hl
      refine lv_iload hx hb dX2_start_3 (lv_at hl 5 rfl) ?_
      refine lv_bipush (v := nI 16) hx hb dX2_start_5 (by decide) ?_
      refine f_icmp_ge (tgt := 33) (by omega) (by omega) hx hb dX2_start_7 (by decide) (fun c_7 => ?_) (fun c_7 => ?_)
      · skip
        obtain rfl : k = 16 := by omega
        replace hP : va_P G.1 vwCl [(c, .inr (2, [.ref ko, .int (nI i)])), (ko, .inl (G.2.1, 16, .inl (nb (oct4 a b c0 d))))] H := f_row hP 1 rfl (nb (oct4 a b c0 d)) (fun j hj => congrArg bI (hk1 j hj))
        replace hD : va_D A [(c, .inr (2, [.ref ko, .int (nI i)])), (ko, .inl (G.2.1, 16, .inl (nb (oct4 a b c0 d))))] := f_rowD hD 1 rfl
        refine lv_aload_n hx hb dX2_start_33 rfl (lv_at hl 0 rfl) ?_
        refine lv_iconst (v := nI 0) hx hb dX2_start_34 (by decide) ?_
        refine va_put (D := G.1) (ci := 2) (v := .int (nI 0)) (ty := .int) (C := RX2) (T := TX2) (N := 2) hx hb hts in_wsX20 tyX2 tyX2_ok nmX2 hown hK hP hD hS 0 rfl rfl 1 (by decide) (hts _ wm_87) (fun _ h9 => h9) rfl (by decide +kernel) rfl rfl (Nat.le_of_ble_eq_true rfl) dX2_start_35 (fun H_35 locs_35 hP_35 hD_35 hS_35 => ?_)
        replace hP : va_P G.1 vwCl [(c, .inr (2, [.ref ko, .int (nI 0)])), (ko, .inl (G.2.1, 16, .inl (nb (oct4 a b c0 d))))] H_35 := hP_35
        replace hD : va_D A [(c, .inr (2, [.ref ko, .int (nI 0)])), (ko, .inl (G.2.1, 16, .inl (nb (oct4 a b c0 d))))] := hD_35
        replace hS : va_S A sv.heap H_35 locs_35 := hS_35
        clear hP_35 hD_35 hS_35
        exact hend () _ _ _ _ trivial hP hD hS dX2_start_38
      · skip
        refine lv_aload_n hx hb dX2_start_10 rfl (lv_at hl 0 rfl) ?_
        refine va_get (D := G.1) (ci := 2) (v := .ref ko) (C := RX2) (T := TX2) (N := 2) hx hb hts in_wsX20 hown hK hP 0 rfl rfl 0 (by decide) (hts _ wm_86) (fun _ h9 => h9) rfl dX2_start_11 ?_
        refine lv_iload hx hb dX2_start_14 (lv_at hl 5 rfl) ?_
        refine lv_iload hx hb dX2_start_16 (lv_at hl 5 rfl) ?_
        refine lv_iload_n hx hb dX2_start_18 rfl (lv_at hl 1 rfl) ?_
        refine lv_iload_n hx hb dX2_start_19 rfl (lv_at hl 2 rfl) ?_
        refine lv_iload_n hx hb dX2_start_20 rfl (lv_at hl 3 rfl) ?_
        refine lv_iload hx hb dX2_start_21 (lv_at hl 4 rfl) ?_
        refine fcNI (As := [.int (nI k), .int a, .int b, .int c0, .int d]) (rest := [.int (nI k), .ref ko]) (wr := [(c, .inr (2, [.ref ko, .int (nI i)])), (ko, .inl (G.2.1, 16, .inl (nb k1)))]) (ws1 := fun (u : Unit) => [(c, .inr (2, [.ref ko, .int (nI i)])), (ko, .inl (G.2.1, 16, .inl (nb k1)))]) ⟨hx, hb, hml, hown, hts⟩ hK hE hP hD hS hA hl.1 (kX4_octetOfFour l G k a b c0 d (by omega)) ⟨va_cnB 5 hts (gdC wm_88) rfl rfl rfl hE.2.2.2.2.2.2.2.2.1 (hts _ wm_23) (by decide +kernel) ⟨Nat.le_of_ble_eq_true rfl, Nat.le_of_ble_eq_true rfl⟩, (hts _ wm_90), trivial⟩ rfl rfl (Nat.le_of_ble_eq_true rfl) dX2_start_23 ⟨Nat.le_of_ble_eq_true rfl, Nat.le_of_ble_eq_true rfl⟩ [] [0, 1] [0, 1] rfl rfl rfl rfl (by decide) rfl (fun _ => rfl) (fun r_23 u_23 H_23 locs_23 hw_23 hP_23 hD_23 hS_23 => ?_)
        obtain rfl := hw_23
        replace hP : va_P G.1 vwCl [(c, .inr (2, [.ref ko, .int (nI i)])), (ko, .inl (G.2.1, 16, .inl (nb k1)))] H_23 := hP_23
        replace hD : va_D A [(c, .inr (2, [.ref ko, .int (nI i)])), (ko, .inl (G.2.1, 16, .inl (nb k1)))] := hD_23
        replace hS : va_S A sv.heap H_23 locs_23 := hS_23
        clear hP_23 hD_23 hS_23
        refine f_iast hx hb hK hP hD hS 1 rfl (by omega) (by decide) dX2_start_26 (fun H_26 locs_26 hP_26 hD_26 hS_26 => ?_)
        replace hP_26 : va_P G.1 vwCl [(c, .inr (2, [.ref ko, .int (nI i)])), (ko, .inl (G.2.1, 16, .inl (nb (upb k1 k (oct4 a b c0 d k)))))] H_26 := by have h9 := hP_26; rw [upd_nb] at h9; exact h9
        replace hD_26 : va_D A [(c, .inr (2, [.ref ko, .int (nI i)])), (ko, .inl (G.2.1, 16, .inl (nb (upb k1 k (oct4 a b c0 d k)))))] := hD.set (p := 1) rfl
        replace hP : va_P G.1 vwCl [(c, .inr (2, [.ref ko, .int (nI i)])), (ko, .inl (G.2.1, 16, .inl (nb (upb k1 k (oct4 a b c0 d k)))))] H_26 := hP_26
        replace hD : va_D A [(c, .inr (2, [.ref ko, .int (nI i)])), (ko, .inl (G.2.1, 16, .inl (nb (upb k1 k (oct4 a b c0 d k)))))] := hD_26
        replace hS : va_S A sv.heap H_26 locs_26 := hS_26
        clear hP_26 hD_26 hS_26
        refine lv_iinc (v := nI (k + 1)) (lv' := [(5, .int (nI (k + 1))), (0, .ref c), (1, .int a), (2, .int b), (3, .int c0), (4, .int d)]) hx hb dX2_start_27 hl (k := 5) rfl (f_inc1 _) (by decide) rfl (fun ls hl2 => ?_)
        replace hl := hl2; clear hl2
        refine lv_goto (tgt := 3) hx hb dX2_start_30 (by decide) ?_
        exact ih_3 (k + 1) (upb k1 k (oct4 a b c0 d k)) _ _ _ (by omega) (by omega) (upb_ext hk1) hP hD hS (lv_sub hl [1, 2, 3, 4, 5, 0] rfl)
  exact L_3 ((17 - 0) + 1) 0 key _ _ _ (Nat.lt_succ_self _) (by omega) ext_0 hP hD hS (lv_sub hl [1, 2, 3, 4, 5, 0] rfl)

set_option maxRecDepth 100000 in
set_option maxHeartbeats 4000000 in
theorem kX2_turn (l : Launch) (G : fG) (c : Nat) (ko : Nat) (key : Nat → UInt8) (i : Nat) (h : Nat) (tx1 : Nat) (sc : Nat) (st : Nat) (T : Nat → UInt8) (n : Nat) (S : Nat → Int32) (v : Nat → Int32)  : fMV l yX2_turn (.code yX2_turn cX2_turn 3 none :: wsA) ({ frames := 3, cells := 0, slots := 0, locals := 77 } : Room) G [.ref c, .ref h] [(c, .inr (2, [.ref ko, .int (nI i)])), (ko, .inl (G.2.1, 16, .inl (nb key))), (h, .inr (1, [.ref tx1, .ref sc, .ref st, .int (nI n)])), (tx1, .inl (G.2.1, 128, .inl (nb T))), (sc, .inl (G.2.1, 64, .inl S)), (st, .inl (G.2.1, 8, .inl v))] (fun (u : (Nat → UInt8) × Nat × (Nat → Int32) × (Nat → Int32)) => True) (fun (u : (Nat → UInt8) × Nat × (Nat → Int32) × (Nat → Int32)) => [(c, .inr (2, [.ref ko, .int (nI (i + 1))])), (ko, .inl (G.2.1, 16, .inl (nb (nextKey key)))), (h, .inr (1, [.ref tx1, .ref sc, .ref st, .int (nI u.2.1)])), (tx1, .inl (G.2.1, 128, .inl (nb u.1))), (sc, .inl (G.2.1, 64, .inl u.2.2.1)), (st, .inl (G.2.1, 8, .inl u.2.2.2))]) 0 0 := by
  refine fV_start (cc := cX2_turn) (maxL := 3) (by decide) rfl (Nat.le_of_ble_eq_true rfl) ?_
  intro prg env sv mid args below meth cd A Q ls hx hb hml hown hts hin hK hP hD hE hA hS hl hend
  replace hown : sv.vm.findClass RX2 = some mid.cls := hown
  replace hP : va_P G.1 vwCl [(c, .inr (2, [.ref ko, .int (nI i)])), (ko, .inl (G.2.1, 16, .inl (nb key))), (h, .inr (1, [.ref tx1, .ref sc, .ref st, .int (nI n)])), (tx1, .inl (G.2.1, 128, .inl (nb T))), (sc, .inl (G.2.1, 64, .inl S)), (st, .inl (G.2.1, 8, .inl v))] sv.heap := hP
  replace hl : lv_has ls 3 [(0, .ref c), (1, .ref h)] := hl
  refine lv_aload_n hx hb dX2_turn_0 rfl (lv_at hl 1 rfl) ?_
  refine fcVV (As := []) (rest := []) (wr := [(c, .inr (2, [.ref ko, .int (nI i)])), (ko, .inl (G.2.1, 16, .inl (nb key)))]) (ws1 := fun (u : Unit) => [(c, .inr (2, [.ref ko, .int (nI i)])), (ko, .inl (G.2.1, 16, .inl (nb key))), (h, .inr (1, [.ref tx1, .ref sc, .ref st, .int (nI 0)])), (tx1, .inl (G.2.1, 128, .inl (nb T))), (sc, .inl (G.2.1, 64, .inl S)), (st, .inl (G.2.1, 8, .inl v))]) ⟨hx, hb, hml, hown, hts⟩ hK hE hP hD hS hA hl.1 (kX1_clear l G h tx1 sc st T n S v ) (cwV 0 hts (gdV wm_92 wm_54 wm_55 wm_56 wm_48) rfl rfl rfl (by decide +kernel) ⟨Nat.le_of_ble_eq_true rfl, Nat.le_of_ble_eq_true rfl⟩) 2 rfl rfl rfl rfl (Nat.le_of_ble_eq_true rfl) dX2_turn_1 ⟨Nat.le_of_ble_eq_true rfl, Nat.le_of_ble_eq_true rfl⟩ [2, 3, 4, 5] [0, 1] [0, 1, 2, 3, 4, 5] rfl rfl rfl rfl (by decide) rfl (fun _ => rfl) (fun u_1 H_1 locs_1 hw_1 hP_1 hD_1 hS_1 => ?_)
  replace hP : va_P G.1 vwCl [(c, .inr (2, [.ref ko, .int (nI i)])), (ko, .inl (G.2.1, 16, .inl (nb key))), (h, .inr (1, [.ref tx1, .ref sc, .ref st, .int (nI 0)])), (tx1, .inl (G.2.1, 128, .inl (nb T))), (sc, .inl (G.2.1, 64, .inl S)), (st, .inl (G.2.1, 8, .inl v))] H_1 := hP_1
  replace hD : va_D A [(c, .inr (2, [.ref ko, .int (nI i)])), (ko, .inl (G.2.1, 16, .inl (nb key))), (h, .inr (1, [.ref tx1, .ref sc, .ref st, .int (nI 0)])), (tx1, .inl (G.2.1, 128, .inl (nb T))), (sc, .inl (G.2.1, 64, .inl S)), (st, .inl (G.2.1, 8, .inl v))] := hD_1
  replace hS : va_S A sv.heap H_1 locs_1 := hS_1
  clear hP_1 hD_1 hS_1
  refine lv_aload_n hx hb dX2_turn_4 rfl (lv_at hl 1 rfl) ?_
  refine lv_bipush (v := nI 75) hx hb dX2_turn_5 (by decide) ?_
  refine fcVV (As := [.int (nI 75)]) (rest := []) (wr := [(c, .inr (2, [.ref ko, .int (nI i)])), (ko, .inl (G.2.1, 16, .inl (nb key)))]) (ws1 := fun (u : Unit) => [(c, .inr (2, [.ref ko, .int (nI i)])), (ko, .inl (G.2.1, 16, .inl (nb key))), (h, .inr (1, [.ref tx1, .ref sc, .ref st, .int (nI (0 + 1))])), (tx1, .inl (G.2.1, 128, .inl (nb (upb T 0 (toB (nI 75)))))), (sc, .inl (G.2.1, 64, .inl S)), (st, .inl (G.2.1, 8, .inl v))]) ⟨hx, hb, hml, hown, hts⟩ hK hE hP hD hS hA hl.1 (kX1_put l G h tx1 sc st T 0 S v (nI 75) (by omega)) (cwV 1 hts (gdV wm_93 wm_58 wm_59 wm_56 wm_49) rfl rfl rfl (by decide +kernel) ⟨Nat.le_of_ble_eq_true rfl, Nat.le_of_ble_eq_true rfl⟩) 2 rfl rfl rfl rfl (Nat.le_of_ble_eq_true rfl) dX2_turn_7 ⟨Nat.le_of_ble_eq_true rfl, Nat.le_of_ble_eq_true rfl⟩ [2, 3, 4, 5] [0, 1] [0, 1, 2, 3, 4, 5] rfl rfl rfl rfl (by decide) rfl (fun _ => rfl) (fun u_7 H_7 locs_7 hw_7 hP_7 hD_7 hS_7 => ?_)
  replace hP : va_P G.1 vwCl [(c, .inr (2, [.ref ko, .int (nI i)])), (ko, .inl (G.2.1, 16, .inl (nb key))), (h, .inr (1, [.ref tx1, .ref sc, .ref st, .int (nI (0 + 1))])), (tx1, .inl (G.2.1, 128, .inl (nb (upb T 0 (toB (nI 75)))))), (sc, .inl (G.2.1, 64, .inl S)), (st, .inl (G.2.1, 8, .inl v))] H_7 := hP_7
  replace hD : va_D A [(c, .inr (2, [.ref ko, .int (nI i)])), (ko, .inl (G.2.1, 16, .inl (nb key))), (h, .inr (1, [.ref tx1, .ref sc, .ref st, .int (nI (0 + 1))])), (tx1, .inl (G.2.1, 128, .inl (nb (upb T 0 (toB (nI 75)))))), (sc, .inl (G.2.1, 64, .inl S)), (st, .inl (G.2.1, 8, .inl v))] := hD_7
  replace hS : va_S A sv.heap H_7 locs_7 := hS_7
  clear hP_7 hD_7 hS_7
  refine lv_iconst (v := nI 0) hx hb dX2_turn_10 (by decide) ?_
  refine lv_istore_n (lv' := [(2, .int (nI 0)), (0, .ref c), (1, .ref h)]) hx hb dX2_turn_11 rfl hl (by decide) rfl (fun ls hl2 => ?_)
  replace hl := hl2; clear hl2
  have hT0 : tx (upb T 0 (UInt8.ofNat 75)) ([UInt8.ofNat 75] ++ bl 0 key) := by have h9 := tx_put (b := toB (nI 75)) (L := []) (tx_nil T) (n := 0) rfl; rw [toB_lit] at h9; exact tx_bl0 h9
  rw [← toB_lit 75] at hT0
  have L_12 : ∀ (n9 : Nat) (k : Nat) (T1 : Nat → UInt8) (H : Heap) (locs : List Loc) (ls : Array Slot), (17 - k) < n9 → (k ≤ 16) → (tx T1 ([UInt8.ofNat 75] ++ bl k key)) → va_P G.1 vwCl [(c, .inr (2, [.ref ko, .int (nI i)])), (ko, .inl (G.2.1, 16, .inl (nb key))), (h, .inr (1, [.ref tx1, .ref sc, .ref st, .int (nI (1 + k))])), (tx1, .inl (G.2.1, 128, .inl (nb T1))), (sc, .inl (G.2.1, 64, .inl S)), (st, .inl (G.2.1, 8, .inl v))] H → va_D A [(c, .inr (2, [.ref ko, .int (nI i)])), (ko, .inl (G.2.1, 16, .inl (nb key))), (h, .inr (1, [.ref tx1, .ref sc, .ref st, .int (nI (1 + k))])), (tx1, .inl (G.2.1, 128, .inl (nb T1))), (sc, .inl (G.2.1, 64, .inl S)), (st, .inl (G.2.1, 8, .inl v))] → va_S A sv.heap H locs → lv_has ls 3 [(0, .ref c), (1, .ref h), (2, .int (nI k))] → W prg l env ({ frames := 3, cells := 0, slots := 0, locals := 77 } : Room) sv mid args below meth cd H locs 0 0 Q (F0 mid 12 ls []) := by
    intro n9
    induction n9 with
    | zero => intro k T1 H locs ls hmu; exact absurd hmu (Nat.not_lt_zero _)
    | succ n9 ih_12 =>
      intro k T1 H locs ls hmu_12 hk hT1 hP hD hS hl
      refine lv_iload_n hx hb dX2_turn_12 rfl (lv_at hl 2 rfl) ?_
      refine lv_bipush (v := nI 16) hx hb dX2_turn_13 (by decide) ?_
      refine f_icmp_ge (tgt := 34) (by omega) (by omega) hx hb dX2_turn_15 (by decide) (fun c_15 => ?_) (fun c_15 => ?_)
      · skip
        obtain rfl : k = 16 := by omega
        refine lv_aload_n hx hb dX2_turn_34 rfl (lv_at hl 1 rfl) ?_
        refine fcVV (As := []) (rest := []) (wr := [(c, .inr (2, [.ref ko, .int (nI i)])), (ko, .inl (G.2.1, 16, .inl (nb key)))]) (ws1 := fun (u : (Nat → UInt8) × Nat × (Nat → Int32)) => [(c, .inr (2, [.ref ko, .int (nI i)])), (ko, .inl (G.2.1, 16, .inl (nb key))), (h, .inr (1, [.ref tx1, .ref sc, .ref st, .int (nI u.2.1)])), (tx1, .inl (G.2.1, 128, .inl (nb u.1))), (sc, .inl (G.2.1, 64, .inl u.2.2)), (st, .inl (G.2.1, 8, .inl (shaW ([UInt8.ofNat 75] ++ bl 16 key))))]) ⟨hx, hb, hml, hown, hts⟩ hK hE hP hD hS hA hl.1 (kX1_finish l G h tx1 sc st T1 (1 + 16) S v ([UInt8.ofNat 75] ++ bl 16 key) hT1 (by simp only [List.length_append, bl_len]; rfl) (by simp only [List.length_append, bl_len]; decide)) (cwV 0 hts (gdV wm_94 wm_79 wm_80 wm_56 wm_65) rfl rfl rfl (by decide +kernel) ⟨Nat.le_of_ble_eq_true rfl, Nat.le_of_ble_eq_true rfl⟩) 2 rfl rfl rfl rfl (Nat.le_of_ble_eq_true rfl) dX2_turn_35 ⟨Nat.le_of_ble_eq_true rfl, Nat.le_of_ble_eq_true rfl⟩ [2, 3, 4, 5] [0, 1] [0, 1, 2, 3, 4, 5] rfl rfl rfl rfl (by decide) rfl (fun _ => rfl) (fun u_35 H_35 locs_35 hw_35 hP_35 hD_35 hS_35 => ?_)
        obtain ⟨jT2_1, jn2_2, jS2_3⟩ := u_35
        replace hP : va_P G.1 vwCl [(c, .inr (2, [.ref ko, .int (nI i)])), (ko, .inl (G.2.1, 16, .inl (nb key))), (h, .inr (1, [.ref tx1, .ref sc, .ref st, .int (nI jn2_2)])), (tx1, .inl (G.2.1, 128, .inl (nb jT2_1))), (sc, .inl (G.2.1, 64, .inl jS2_3)), (st, .inl (G.2.1, 8, .inl (shaW ([UInt8.ofNat 75] ++ bl 16 key))))] H_35 := hP_35
        replace hD : va_D A [(c, .inr (2, [.ref ko, .int (nI i)])), (ko, .inl (G.2.1, 16, .inl (nb key))), (h, .inr (1, [.ref tx1, .ref sc, .ref st, .int (nI jn2_2)])), (tx1, .inl (G.2.1, 128, .inl (nb jT2_1))), (sc, .inl (G.2.1, 64, .inl jS2_3)), (st, .inl (G.2.1, 8, .inl (shaW ([UInt8.ofNat 75] ++ bl 16 key))))] := hD_35
        replace hS : va_S A sv.heap H_35 locs_35 := hS_35
        clear hP_35 hD_35 hS_35
        refine lv_iconst (v := nI 0) hx hb dX2_turn_38 (by decide) ?_
        refine lv_istore_n (lv' := [(2, .int (nI 0)), (0, .ref c), (1, .ref h)]) hx hb dX2_turn_39 rfl hl (by decide) rfl (fun ls hl2 => ?_)
        replace hl := hl2; clear hl2
        have L_40 : ∀ (n9 : Nat) (k : Nat) (k1 : Nat → UInt8) (H : Heap) (locs : List Loc) (ls : Array Slot), (17 - k) < n9 → (k ≤ 16) → (∀ j, j < k → k1 j = nextKey key j) → va_P G.1 vwCl [(c, .inr (2, [.ref ko, .int (nI i)])), (ko, .inl (G.2.1, 16, .inl (nb k1))), (h, .inr (1, [.ref tx1, .ref sc, .ref st, .int (nI jn2_2)])), (tx1, .inl (G.2.1, 128, .inl (nb jT2_1))), (sc, .inl (G.2.1, 64, .inl jS2_3)), (st, .inl (G.2.1, 8, .inl (shaW ([UInt8.ofNat 75] ++ bl 16 key))))] H → va_D A [(c, .inr (2, [.ref ko, .int (nI i)])), (ko, .inl (G.2.1, 16, .inl (nb k1))), (h, .inr (1, [.ref tx1, .ref sc, .ref st, .int (nI jn2_2)])), (tx1, .inl (G.2.1, 128, .inl (nb jT2_1))), (sc, .inl (G.2.1, 64, .inl jS2_3)), (st, .inl (G.2.1, 8, .inl (shaW ([UInt8.ofNat 75] ++ bl 16 key))))] → va_S A sv.heap H locs → lv_has ls 3 [(0, .ref c), (1, .ref h), (2, .int (nI k))] → W prg l env ({ frames := 3, cells := 0, slots := 0, locals := 77 } : Room) sv mid args below meth cd H locs 0 0 Q (F0 mid 40 ls []) := by
          intro n9
          induction n9 with
          | zero => intro k k1 H locs ls hmu; exact absurd hmu (Nat.not_lt_zero _)
          | succ n9 ih_40 =>
            intro k k1 H locs ls hmu_40 hk hk1 hP hD hS hl
            refine lv_iload_n hx hb dX2_turn_40 rfl (lv_at hl 2 rfl) ?_
            refine lv_bipush (v := nI 16) hx hb dX2_turn_41 (by decide) ?_
            refine f_icmp_ge (tgt := 63) (by omega) (by omega) hx hb dX2_turn_43 (by decide) (fun c_43 => ?_) (fun c_43 => ?_)
            · skip
              obtain rfl : k = 16 := by omega
              replace hP : va_P G.1 vwCl [(c, .inr (2, [.ref ko, .int (nI i)])), (ko, .inl (G.2.1, 16, .inl (nb (nextKey key)))), (h, .inr (1, [.ref tx1, .ref sc, .ref st, .int (nI jn2_2)])), (tx1, .inl (G.2.1, 128, .inl (nb jT2_1))), (sc, .inl (G.2.1, 64, .inl jS2_3)), (st, .inl (G.2.1, 8, .inl (shaW ([UInt8.ofNat 75] ++ bl 16 key))))] H := f_row hP 1 rfl (nb (nextKey key)) (fun j hj => congrArg bI (hk1 j hj))
              replace hD : va_D A [(c, .inr (2, [.ref ko, .int (nI i)])), (ko, .inl (G.2.1, 16, .inl (nb (nextKey key)))), (h, .inr (1, [.ref tx1, .ref sc, .ref st, .int (nI jn2_2)])), (tx1, .inl (G.2.1, 128, .inl (nb jT2_1))), (sc, .inl (G.2.1, 64, .inl jS2_3)), (st, .inl (G.2.1, 8, .inl (shaW ([UInt8.ofNat 75] ++ bl 16 key))))] := f_rowD hD 1 rfl
              refine lv_aload_n hx hb dX2_turn_63 rfl (lv_at hl 0 rfl) ?_
              refine lv_dup hx hb dX2_turn_64 rfl ?_
              refine va_get (D := G.1) (ci := 2) (v := .int (nI i)) (C := RX2) (T := TX2) (N := 2) hx hb hts in_wsX20 hown hK hP 0 rfl rfl 1 (by decide) (hts _ wm_87) (fun _ h9 => h9) rfl dX2_turn_65 ?_
              refine lv_iconst (v := nI 1) hx hb dX2_turn_68 (by decide) ?_
              refine lv_iadd hx hb dX2_turn_69 ?_
              refine f_top (y := nI (i + 1)) (nI_add _ _) ?_
              refine va_put (D := G.1) (ci := 2) (v := .int (nI (i + 1))) (ty := .int) (C := RX2) (T := TX2) (N := 2) hx hb hts in_wsX20 tyX2 tyX2_ok nmX2 hown hK hP hD hS 0 rfl rfl 1 (by decide) (hts _ wm_87) (fun _ h9 => h9) rfl (by decide +kernel) rfl rfl (Nat.le_of_ble_eq_true rfl) dX2_turn_70 (fun H_70 locs_70 hP_70 hD_70 hS_70 => ?_)
              replace hP : va_P G.1 vwCl [(c, .inr (2, [.ref ko, .int (nI (i + 1))])), (ko, .inl (G.2.1, 16, .inl (nb (nextKey key)))), (h, .inr (1, [.ref tx1, .ref sc, .ref st, .int (nI jn2_2)])), (tx1, .inl (G.2.1, 128, .inl (nb jT2_1))), (sc, .inl (G.2.1, 64, .inl jS2_3)), (st, .inl (G.2.1, 8, .inl (shaW ([UInt8.ofNat 75] ++ bl 16 key))))] H_70 := hP_70
              replace hD : va_D A [(c, .inr (2, [.ref ko, .int (nI (i + 1))])), (ko, .inl (G.2.1, 16, .inl (nb (nextKey key)))), (h, .inr (1, [.ref tx1, .ref sc, .ref st, .int (nI jn2_2)])), (tx1, .inl (G.2.1, 128, .inl (nb jT2_1))), (sc, .inl (G.2.1, 64, .inl jS2_3)), (st, .inl (G.2.1, 8, .inl (shaW ([UInt8.ofNat 75] ++ bl 16 key))))] := hD_70
              replace hS : va_S A sv.heap H_70 locs_70 := hS_70
              clear hP_70 hD_70 hS_70
              exact hend (jT2_1, jn2_2, jS2_3, shaW ([UInt8.ofNat 75] ++ bl 16 key)) _ _ _ _ trivial hP hD hS dX2_turn_73
            · skip
              refine lv_aload_n hx hb dX2_turn_46 rfl (lv_at hl 0 rfl) ?_
              refine va_get (D := G.1) (ci := 2) (v := .ref ko) (C := RX2) (T := TX2) (N := 2) hx hb hts in_wsX20 hown hK hP 0 rfl rfl 0 (by decide) (hts _ wm_86) (fun _ h9 => h9) rfl dX2_turn_47 ?_
              refine lv_iload_n hx hb dX2_turn_50 rfl (lv_at hl 2 rfl) ?_
              refine lv_aload_n hx hb dX2_turn_51 rfl (lv_at hl 1 rfl) ?_
              refine lv_iload_n hx hb dX2_turn_52 rfl (lv_at hl 2 rfl) ?_
              refine fcVI (As := [.int (nI k)]) (rest := [.int (nI k), .ref ko]) (wr := [(c, .inr (2, [.ref ko, .int (nI i)])), (ko, .inl (G.2.1, 16, .inl (nb k1)))]) (ws1 := fun (u : Unit) => [(c, .inr (2, [.ref ko, .int (nI i)])), (ko, .inl (G.2.1, 16, .inl (nb k1))), (h, .inr (1, [.ref tx1, .ref sc, .ref st, .int (nI jn2_2)])), (tx1, .inl (G.2.1, 128, .inl (nb jT2_1))), (sc, .inl (G.2.1, 64, .inl jS2_3)), (st, .inl (G.2.1, 8, .inl (shaW ([UInt8.ofNat 75] ++ bl 16 key))))]) ⟨hx, hb, hml, hown, hts⟩ hK hE hP hD hS hA hl.1 (kX1_hashOctet l G h tx1 sc st jT2_1 jn2_2 jS2_3 (shaW ([UInt8.ofNat 75] ++ bl 16 key)) k (by omega)) (cwV 1 hts (gdV wm_95 wm_82 wm_83 wm_56 wm_50) rfl rfl rfl (by decide +kernel) ⟨Nat.le_of_ble_eq_true rfl, Nat.le_of_ble_eq_true rfl⟩) 2 rfl rfl rfl rfl (Nat.le_of_ble_eq_true rfl) dX2_turn_53 ⟨Nat.le_of_ble_eq_true rfl, Nat.le_of_ble_eq_true rfl⟩ [2, 3, 4, 5] [0, 1] [0, 1, 2, 3, 4, 5] rfl rfl rfl rfl (by decide) rfl (fun _ => rfl) (fun r_53 u_53 H_53 locs_53 hw_53 hP_53 hD_53 hS_53 => ?_)
              obtain rfl := hw_53
              replace hP : va_P G.1 vwCl [(c, .inr (2, [.ref ko, .int (nI i)])), (ko, .inl (G.2.1, 16, .inl (nb k1))), (h, .inr (1, [.ref tx1, .ref sc, .ref st, .int (nI jn2_2)])), (tx1, .inl (G.2.1, 128, .inl (nb jT2_1))), (sc, .inl (G.2.1, 64, .inl jS2_3)), (st, .inl (G.2.1, 8, .inl (shaW ([UInt8.ofNat 75] ++ bl 16 key))))] H_53 := hP_53
              replace hD : va_D A [(c, .inr (2, [.ref ko, .int (nI i)])), (ko, .inl (G.2.1, 16, .inl (nb k1))), (h, .inr (1, [.ref tx1, .ref sc, .ref st, .int (nI jn2_2)])), (tx1, .inl (G.2.1, 128, .inl (nb jT2_1))), (sc, .inl (G.2.1, 64, .inl jS2_3)), (st, .inl (G.2.1, 8, .inl (shaW ([UInt8.ofNat 75] ++ bl 16 key))))] := hD_53
              replace hS : va_S A sv.heap H_53 locs_53 := hS_53
              clear hP_53 hD_53 hS_53
              refine f_top (y := bI (nextKey key k)) rfl ?_
              refine f_iast hx hb hK hP hD hS 1 rfl (by omega) (by decide) dX2_turn_56 (fun H_56 locs_56 hP_56 hD_56 hS_56 => ?_)
              replace hP_56 : va_P G.1 vwCl [(c, .inr (2, [.ref ko, .int (nI i)])), (ko, .inl (G.2.1, 16, .inl (nb (upb k1 k (nextKey key k))))), (h, .inr (1, [.ref tx1, .ref sc, .ref st, .int (nI jn2_2)])), (tx1, .inl (G.2.1, 128, .inl (nb jT2_1))), (sc, .inl (G.2.1, 64, .inl jS2_3)), (st, .inl (G.2.1, 8, .inl (shaW ([UInt8.ofNat 75] ++ bl 16 key))))] H_56 := by have h9 := hP_56; rw [upd_nb] at h9; exact h9
              replace hD_56 : va_D A [(c, .inr (2, [.ref ko, .int (nI i)])), (ko, .inl (G.2.1, 16, .inl (nb (upb k1 k (nextKey key k))))), (h, .inr (1, [.ref tx1, .ref sc, .ref st, .int (nI jn2_2)])), (tx1, .inl (G.2.1, 128, .inl (nb jT2_1))), (sc, .inl (G.2.1, 64, .inl jS2_3)), (st, .inl (G.2.1, 8, .inl (shaW ([UInt8.ofNat 75] ++ bl 16 key))))] := hD.set (p := 1) rfl
              replace hP : va_P G.1 vwCl [(c, .inr (2, [.ref ko, .int (nI i)])), (ko, .inl (G.2.1, 16, .inl (nb (upb k1 k (nextKey key k))))), (h, .inr (1, [.ref tx1, .ref sc, .ref st, .int (nI jn2_2)])), (tx1, .inl (G.2.1, 128, .inl (nb jT2_1))), (sc, .inl (G.2.1, 64, .inl jS2_3)), (st, .inl (G.2.1, 8, .inl (shaW ([UInt8.ofNat 75] ++ bl 16 key))))] H_56 := hP_56
              replace hD : va_D A [(c, .inr (2, [.ref ko, .int (nI i)])), (ko, .inl (G.2.1, 16, .inl (nb (upb k1 k (nextKey key k))))), (h, .inr (1, [.ref tx1, .ref sc, .ref st, .int (nI jn2_2)])), (tx1, .inl (G.2.1, 128, .inl (nb jT2_1))), (sc, .inl (G.2.1, 64, .inl jS2_3)), (st, .inl (G.2.1, 8, .inl (shaW ([UInt8.ofNat 75] ++ bl 16 key))))] := hD_56
              replace hS : va_S A sv.heap H_56 locs_56 := hS_56
              clear hP_56 hD_56 hS_56
              refine lv_iinc (v := nI (k + 1)) (lv' := [(2, .int (nI (k + 1))), (0, .ref c), (1, .ref h)]) hx hb dX2_turn_57 hl (k := 2) rfl (f_inc1 _) (by decide) rfl (fun ls hl2 => ?_)
              replace hl := hl2; clear hl2
              refine lv_goto (tgt := 40) hx hb dX2_turn_60 (by decide) ?_
              exact ih_40 (k + 1) (upb k1 k (nextKey key k)) _ _ _ (by omega) (by omega) (upb_ext hk1) hP hD hS (lv_sub hl [1, 2, 0] rfl)
        exact L_40 ((17 - 0) + 1) 0 key _ _ _ (Nat.lt_succ_self _) (by omega) ext_0 hP hD hS (lv_sub hl [1, 2, 0] rfl)
      · skip
        refine lv_aload_n hx hb dX2_turn_18 rfl (lv_at hl 1 rfl) ?_
        refine lv_aload_n hx hb dX2_turn_19 rfl (lv_at hl 0 rfl) ?_
        refine va_get (D := G.1) (ci := 2) (v := .ref ko) (C := RX2) (T := TX2) (N := 2) hx hb hts in_wsX20 hown hK hP 0 rfl rfl 0 (by decide) (hts _ wm_86) (fun _ h9 => h9) rfl dX2_turn_20 ?_
        refine lv_iload_n hx hb dX2_turn_23 rfl (lv_at hl 2 rfl) ?_
        refine f_iald (v := bI (key k)) hx hb hK hP 1 rfl (by omega) (by decide) rfl dX2_turn_24 ?_
        refine fcVV (As := [.int (bI (key k))]) (rest := []) (wr := [(c, .inr (2, [.ref ko, .int (nI i)])), (ko, .inl (G.2.1, 16, .inl (nb key)))]) (ws1 := fun (u : Unit) => [(c, .inr (2, [.ref ko, .int (nI i)])), (ko, .inl (G.2.1, 16, .inl (nb key))), (h, .inr (1, [.ref tx1, .ref sc, .ref st, .int (nI ((1 + k) + 1))])), (tx1, .inl (G.2.1, 128, .inl (nb (upb T1 (1 + k) (toB (bI (key k))))))), (sc, .inl (G.2.1, 64, .inl S)), (st, .inl (G.2.1, 8, .inl v))]) ⟨hx, hb, hml, hown, hts⟩ hK hE hP hD hS hA hl.1 (kX1_put l G h tx1 sc st T1 (1 + k) S v (bI (key k)) (by omega)) (cwV 1 hts (gdV wm_93 wm_58 wm_59 wm_56 wm_49) rfl rfl rfl (by decide +kernel) ⟨Nat.le_of_ble_eq_true rfl, Nat.le_of_ble_eq_true rfl⟩) 2 rfl rfl rfl rfl (Nat.le_of_ble_eq_true rfl) dX2_turn_25 ⟨Nat.le_of_ble_eq_true rfl, Nat.le_of_ble_eq_true rfl⟩ [2, 3, 4, 5] [0, 1] [0, 1, 2, 3, 4, 5] rfl rfl rfl rfl (by decide) rfl (fun _ => rfl) (fun u_25 H_25 locs_25 hw_25 hP_25 hD_25 hS_25 => ?_)
        replace hP : va_P G.1 vwCl [(c, .inr (2, [.ref ko, .int (nI i)])), (ko, .inl (G.2.1, 16, .inl (nb key))), (h, .inr (1, [.ref tx1, .ref sc, .ref st, .int (nI ((1 + k) + 1))])), (tx1, .inl (G.2.1, 128, .inl (nb (upb T1 (1 + k) (toB (bI (key k))))))), (sc, .inl (G.2.1, 64, .inl S)), (st, .inl (G.2.1, 8, .inl v))] H_25 := hP_25
        replace hD : va_D A [(c, .inr (2, [.ref ko, .int (nI i)])), (ko, .inl (G.2.1, 16, .inl (nb key))), (h, .inr (1, [.ref tx1, .ref sc, .ref st, .int (nI ((1 + k) + 1))])), (tx1, .inl (G.2.1, 128, .inl (nb (upb T1 (1 + k) (toB (bI (key k))))))), (sc, .inl (G.2.1, 64, .inl S)), (st, .inl (G.2.1, 8, .inl v))] := hD_25
        replace hS : va_S A sv.heap H_25 locs_25 := hS_25
        clear hP_25 hD_25 hS_25
        refine lv_iinc (v := nI (k + 1)) (lv' := [(2, .int (nI (k + 1))), (0, .ref c), (1, .ref h)]) hx hb dX2_turn_28 hl (k := 2) rfl (f_inc1 _) (by decide) rfl (fun ls hl2 => ?_)
        replace hl := hl2; clear hl2
        refine lv_goto (tgt := 12) hx hb dX2_turn_31 (by decide) ?_
        exact ih_12 (k + 1) (upb T1 (1 + k) (toB (bI (key k)))) _ _ _ (by omega) (by omega) (tx_step (f := key) hT1 rfl (toB_bI _)) hP hD hS (lv_sub hl [1, 2, 0] rfl)
  exact L_12 ((17 - 0) + 1) 0 (upb T 0 (toB (nI 75))) _ _ _ (Nat.lt_succ_self _) (by omega) hT0 hP hD hS (lv_sub hl [1, 2, 0] rfl)

set_option maxRecDepth 100000 in
set_option maxHeartbeats 4000000 in
theorem kX1_makeTag (l : Launch) (G : fG) (h : Nat) (tx1 : Nat) (sc : Nat) (st : Nat) (T : Nat → UInt8) (n : Nat) (S : Nat → Int32) (v : Nat → Int32) (c : Nat) (ko : Nat) (key : Nat → UInt8) (i : Nat) (d : Nat) (o : Nat) (g : Nat → UInt8) (m : Nat) (y : Nat) (a : Nat) (r : Nat) (bf : Nat → UInt8) (hm : m ≤ 1200) (hi : i < 2 ^ 31) (ha : a + 2 + (g (a + 1)).toNat ≤ m) (hl9 : (g (a + 1)).toNat ≤ 40) : fMV l yX1_makeTag (.code yX1_makeTag cX1_makeTag 7 none :: wsA) ({ frames := 3, cells := 0, slots := 0, locals := 77 } : Room) G [.ref h, .ref c, .ref d, .int (nI a), .ref r] [(h, .inr (1, [.ref tx1, .ref sc, .ref st, .int (nI n)])), (tx1, .inl (G.2.1, 128, .inl (nb T))), (sc, .inl (G.2.1, 64, .inl S)), (st, .inl (G.2.1, 8, .inl v)), (c, .inr (2, [.ref ko, .int (nI i)])), (ko, .inl (G.2.1, 16, .inl (nb key))), (d, .inr (0, [.ref o, .int (nI m), .int (nI y)])), (o, .inl (G.2.1, 1200, .inl (nb g))), (r, .inl (G.2.1, 8, .inl (nb bf)))] (fun (u : (Nat → UInt8) × Nat × (Nat → Int32)) => True) (fun (u : (Nat → UInt8) × Nat × (Nat → Int32)) => [(h, .inr (1, [.ref tx1, .ref sc, .ref st, .int (nI u.2.1)])), (tx1, .inl (G.2.1, 128, .inl (nb u.1))), (sc, .inl (G.2.1, 64, .inl u.2.2)), (st, .inl (G.2.1, 8, .inl (tagW key i g a bf))), (c, .inr (2, [.ref ko, .int (nI i)])), (ko, .inl (G.2.1, 16, .inl (nb key))), (d, .inr (0, [.ref o, .int (nI m), .int (nI y)])), (o, .inl (G.2.1, 1200, .inl (nb g))), (r, .inl (G.2.1, 8, .inl (nb bf)))]) 0 0 := by
  refine fV_start (cc := cX1_makeTag) (maxL := 7) (by decide) rfl (Nat.le_of_ble_eq_true rfl) ?_
  intro prg env sv mid args below meth cd A Q ls hx hb hml hown hts hin hK hP hD hE hA hS hl hend
  replace hown : sv.vm.findClass RX1 = some mid.cls := hown
  replace hP : va_P G.1 vwCl [(h, .inr (1, [.ref tx1, .ref sc, .ref st, .int (nI n)])), (tx1, .inl (G.2.1, 128, .inl (nb T))), (sc, .inl (G.2.1, 64, .inl S)), (st, .inl (G.2.1, 8, .inl v)), (c, .inr (2, [.ref ko, .int (nI i)])), (ko, .inl (G.2.1, 16, .inl (nb key))), (d, .inr (0, [.ref o, .int (nI m), .int (nI y)])), (o, .inl (G.2.1, 1200, .inl (nb g))), (r, .inl (G.2.1, 8, .inl (nb bf)))] sv.heap := hP
  replace hl : lv_has ls 7 [(0, .ref h), (1, .ref c), (2, .ref d), (3, .int (nI a)), (4, .ref r)] := hl
  refine lv_aload_n hx hb dX1_makeTag_0 rfl (lv_at hl 0 rfl) ?_
  refine lv_aload_n hx hb dX1_makeTag_1 rfl (lv_at hl 1 rfl) ?_
  refine lv_bipush (v := nI 54) hx hb dX1_makeTag_2 (by decide) ?_
  refine fcVV (As := [.ref c, .int (nI 54)]) (rest := []) (wr := [(d, .inr (0, [.ref o, .int (nI m), .int (nI y)])), (o, .inl (G.2.1, 1200, .inl (nb g))), (r, .inl (G.2.1, 8, .inl (nb bf)))]) (ws1 := fun (u : (Nat → UInt8)) => [(h, .inr (1, [.ref tx1, .ref sc, .ref st, .int (nI 64)])), (tx1, .inl (G.2.1, 128, .inl (nb u))), (sc, .inl (G.2.1, 64, .inl S)), (st, .inl (G.2.1, 8, .inl v)), (c, .inr (2, [.ref ko, .int (nI i)])), (ko, .inl (G.2.1, 16, .inl (nb key))), (d, .inr (0, [.ref o, .int (nI m), .int (nI y)])), (o, .inl (G.2.1, 1200, .inl (nb g))), (r, .inl (G.2.1, 8, .inl (nb bf)))]) ⟨hx, hb, hml, hown, hts⟩ hK hE hP hD hS hA hl.1 (kX1_putKey l G h tx1 sc st T n S v c ko key i 54 (by decide)) (cwV 2 hts (gdV wm_74 wm_75 wm_76 wm_56 wm_51) rfl rfl rfl (by decide +kernel) ⟨Nat.le_of_ble_eq_true rfl, Nat.le_of_ble_eq_true rfl⟩) 0 rfl rfl rfl rfl (Nat.le_of_ble_eq_true rfl) dX1_makeTag_4 ⟨Nat.le_of_ble_eq_true rfl, Nat.le_of_ble_eq_true rfl⟩ [0, 1, 2, 3, 4, 5] [6, 7, 8] [3, 4, 5, 6, 7, 8, 0, 1, 2] rfl rfl rfl rfl (by decide) rfl (fun _ => rfl) (fun u_4 H_4 locs_4 hw_4 hP_4 hD_4 hS_4 => ?_)
  obtain ⟨jT2_1, rfl⟩ : ∃ z, z = u_4 := ⟨_, rfl⟩
  have f_2 := hw_4
  replace f_2 : tx jT2_1 (kpad key (UInt8.ofNat 54)) := f_2
  replace hP : va_P G.1 vwCl [(h, .inr (1, [.ref tx1, .ref sc, .ref st, .int (nI 64)])), (tx1, .inl (G.2.1, 128, .inl (nb jT2_1))), (sc, .inl (G.2.1, 64, .inl S)), (st, .inl (G.2.1, 8, .inl v)), (c, .inr (2, [.ref ko, .int (nI i)])), (ko, .inl (G.2.1, 16, .inl (nb key))), (d, .inr (0, [.ref o, .int (nI m), .int (nI y)])), (o, .inl (G.2.1, 1200, .inl (nb g))), (r, .inl (G.2.1, 8, .inl (nb bf)))] H_4 := hP_4
  replace hD : va_D A [(h, .inr (1, [.ref tx1, .ref sc, .ref st, .int (nI 64)])), (tx1, .inl (G.2.1, 128, .inl (nb jT2_1))), (sc, .inl (G.2.1, 64, .inl S)), (st, .inl (G.2.1, 8, .inl v)), (c, .inr (2, [.ref ko, .int (nI i)])), (ko, .inl (G.2.1, 16, .inl (nb key))), (d, .inr (0, [.ref o, .int (nI m), .int (nI y)])), (o, .inl (G.2.1, 1200, .inl (nb g))), (r, .inl (G.2.1, 8, .inl (nb bf)))] := hD_4
  replace hS : va_S A sv.heap H_4 locs_4 := hS_4
  clear hP_4 hD_4 hS_4
  have hT0 : tx jT2_1 (kpad key (UInt8.ofNat 54) ++ bl 0 (nB i)) := tx_bl0 f_2
  refine lv_bipush (v := nI 24) hx hb dX1_makeTag_7 (by decide) ?_
  refine lv_istore (lv' := [(5, .int (nI 24)), (0, .ref h), (1, .ref c), (2, .ref d), (3, .int (nI a)), (4, .ref r)]) hx hb dX1_makeTag_9 hl (by decide) rfl (fun ls hl2 => ?_)
  replace hl := hl2; clear hl2
  refine lv_iload hx hb dX1_makeTag_11 (lv_at hl 0 rfl) ?_
  refine lv_if_lt (tgt := 33) hx hb dX1_makeTag_13 (by decide) (fun c9 => absurd c9 (by decide)) (fun _ => ?_)
  refine lv_aload_n hx hb dX1_makeTag_16 rfl (lv_at hl 1 rfl) ?_
  refine lv_aload_n hx hb dX1_makeTag_17 rfl (lv_at hl 2 rfl) ?_
  refine va_get (D := G.1) (ci := 2) (v := .int (nI i)) (C := RX2) (T := TX2) (N := 2) hx hb hts in_wsX20 hown hK hP 4 rfl rfl 1 (by decide) (hts _ wm_73) (fun _ h9 => h9) rfl dX1_makeTag_18 ?_
  refine lv_iload hx hb dX1_makeTag_21 (lv_at hl 0 rfl) ?_
  refine lv_iushr (v := f_ush (nI i) (nI 24)) hx hb dX1_makeTag_23 rfl ?_
  refine fcVV (As := [.int (f_ush (nI i) (nI 24))]) (rest := []) (wr := [(c, .inr (2, [.ref ko, .int (nI i)])), (ko, .inl (G.2.1, 16, .inl (nb key))), (d, .inr (0, [.ref o, .int (nI m), .int (nI y)])), (o, .inl (G.2.1, 1200, .inl (nb g))), (r, .inl (G.2.1, 8, .inl (nb bf)))]) (ws1 := fun (u : Unit) => [(h, .inr (1, [.ref tx1, .ref sc, .ref st, .int (nI (64 + 1))])), (tx1, .inl (G.2.1, 128, .inl (nb (upb jT2_1 64 (toB (f_ush (nI i) (nI 24))))))), (sc, .inl (G.2.1, 64, .inl S)), (st, .inl (G.2.1, 8, .inl v)), (c, .inr (2, [.ref ko, .int (nI i)])), (ko, .inl (G.2.1, 16, .inl (nb key))), (d, .inr (0, [.ref o, .int (nI m), .int (nI y)])), (o, .inl (G.2.1, 1200, .inl (nb g))), (r, .inl (G.2.1, 8, .inl (nb bf)))]) ⟨hx, hb, hml, hown, hts⟩ hK hE hP hD hS hA hl.1 (kX1_put l G h tx1 sc st jT2_1 64 S v (f_ush (nI i) (nI 24)) (by omega)) (cwV 1 hts (gdV wm_57 wm_58 wm_59 wm_56 wm_49) rfl rfl rfl (by decide +kernel) ⟨Nat.le_of_ble_eq_true rfl, Nat.le_of_ble_eq_true rfl⟩) 0 rfl rfl rfl rfl (Nat.le_of_ble_eq_true rfl) dX1_makeTag_24 ⟨Nat.le_of_ble_eq_true rfl, Nat.le_of_ble_eq_true rfl⟩ [0, 1, 2, 3] [4, 5, 6, 7, 8] [5, 6, 7, 8, 0, 1, 2, 3, 4] rfl rfl rfl rfl (by decide) rfl (fun _ => rfl) (fun u_24 H_24 locs_24 hw_24 hP_24 hD_24 hS_24 => ?_)
  replace hP : va_P G.1 vwCl [(h, .inr (1, [.ref tx1, .ref sc, .ref st, .int (nI (64 + 1))])), (tx1, .inl (G.2.1, 128, .inl (nb (upb jT2_1 64 (toB (f_ush (nI i) (nI 24))))))), (sc, .inl (G.2.1, 64, .inl S)), (st, .inl (G.2.1, 8, .inl v)), (c, .inr (2, [.ref ko, .int (nI i)])), (ko, .inl (G.2.1, 16, .inl (nb key))), (d, .inr (0, [.ref o, .int (nI m), .int (nI y)])), (o, .inl (G.2.1, 1200, .inl (nb g))), (r, .inl (G.2.1, 8, .inl (nb bf)))] H_24 := hP_24
  replace hD : va_D A [(h, .inr (1, [.ref tx1, .ref sc, .ref st, .int (nI (64 + 1))])), (tx1, .inl (G.2.1, 128, .inl (nb (upb jT2_1 64 (toB (f_ush (nI i) (nI 24))))))), (sc, .inl (G.2.1, 64, .inl S)), (st, .inl (G.2.1, 8, .inl v)), (c, .inr (2, [.ref ko, .int (nI i)])), (ko, .inl (G.2.1, 16, .inl (nb key))), (d, .inr (0, [.ref o, .int (nI m), .int (nI y)])), (o, .inl (G.2.1, 1200, .inl (nb g))), (r, .inl (G.2.1, 8, .inl (nb bf)))] := hD_24
  replace hS : va_S A sv.heap H_24 locs_24 := hS_24
  clear hP_24 hD_24 hS_24
  replace hT0 : tx (upb jT2_1 64 (toB (f_ush (nI i) (nI 24)))) (kpad key (UInt8.ofNat 54) ++ bl 1 (nB i)) := tx_step (f := nB i) hT0 (by simp only [kpad_len]) rfl
  refine lv_iinc (v := nI 16) (lv' := [(5, .int (nI 16)), (0, .ref h), (1, .ref c), (2, .ref d), (3, .int (nI a)), (4, .ref r)]) hx hb dX1_makeTag_27 hl (k := 0) rfl (by decide) (by decide) rfl (fun ls hl2 => ?_)
  replace hl := hl2; clear hl2
  refine lv_goto (tgt := 11) hx hb dX1_makeTag_30 (by decide) ?_
  refine lv_iload hx hb dX1_makeTag_11 (lv_at hl 0 rfl) ?_
  refine lv_if_lt (tgt := 33) hx hb dX1_makeTag_13 (by decide) (fun c9 => absurd c9 (by decide)) (fun _ => ?_)
  refine lv_aload_n hx hb dX1_makeTag_16 rfl (lv_at hl 1 rfl) ?_
  refine lv_aload_n hx hb dX1_makeTag_17 rfl (lv_at hl 2 rfl) ?_
  refine va_get (D := G.1) (ci := 2) (v := .int (nI i)) (C := RX2) (T := TX2) (N := 2) hx hb hts in_wsX20 hown hK hP 4 rfl rfl 1 (by decide) (hts _ wm_73) (fun _ h9 => h9) rfl dX1_makeTag_18 ?_
  refine lv_iload hx hb dX1_makeTag_21 (lv_at hl 0 rfl) ?_
  refine lv_iushr (v := f_ush (nI i) (nI 16)) hx hb dX1_makeTag_23 rfl ?_
  refine fcVV (As := [.int (f_ush (nI i) (nI 16))]) (rest := []) (wr := [(c, .inr (2, [.ref ko, .int (nI i)])), (ko, .inl (G.2.1, 16, .inl (nb key))), (d, .inr (0, [.ref o, .int (nI m), .int (nI y)])), (o, .inl (G.2.1, 1200, .inl (nb g))), (r, .inl (G.2.1, 8, .inl (nb bf)))]) (ws1 := fun (u : Unit) => [(h, .inr (1, [.ref tx1, .ref sc, .ref st, .int (nI ((64 + 1) + 1))])), (tx1, .inl (G.2.1, 128, .inl (nb (upb (upb jT2_1 64 (toB (f_ush (nI i) (nI 24)))) (64 + 1) (toB (f_ush (nI i) (nI 16))))))), (sc, .inl (G.2.1, 64, .inl S)), (st, .inl (G.2.1, 8, .inl v)), (c, .inr (2, [.ref ko, .int (nI i)])), (ko, .inl (G.2.1, 16, .inl (nb key))), (d, .inr (0, [.ref o, .int (nI m), .int (nI y)])), (o, .inl (G.2.1, 1200, .inl (nb g))), (r, .inl (G.2.1, 8, .inl (nb bf)))]) ⟨hx, hb, hml, hown, hts⟩ hK hE hP hD hS hA hl.1 (kX1_put l G h tx1 sc st (upb jT2_1 64 (toB (f_ush (nI i) (nI 24)))) (64 + 1) S v (f_ush (nI i) (nI 16)) (by omega)) (cwV 1 hts (gdV wm_57 wm_58 wm_59 wm_56 wm_49) rfl rfl rfl (by decide +kernel) ⟨Nat.le_of_ble_eq_true rfl, Nat.le_of_ble_eq_true rfl⟩) 0 rfl rfl rfl rfl (Nat.le_of_ble_eq_true rfl) dX1_makeTag_24 ⟨Nat.le_of_ble_eq_true rfl, Nat.le_of_ble_eq_true rfl⟩ [0, 1, 2, 3] [4, 5, 6, 7, 8] [5, 6, 7, 8, 0, 1, 2, 3, 4] rfl rfl rfl rfl (by decide) rfl (fun _ => rfl) (fun u_24_1 H_24_1 locs_24_1 hw_24_1 hP_24_1 hD_24_1 hS_24_1 => ?_)
  replace hP : va_P G.1 vwCl [(h, .inr (1, [.ref tx1, .ref sc, .ref st, .int (nI ((64 + 1) + 1))])), (tx1, .inl (G.2.1, 128, .inl (nb (upb (upb jT2_1 64 (toB (f_ush (nI i) (nI 24)))) (64 + 1) (toB (f_ush (nI i) (nI 16))))))), (sc, .inl (G.2.1, 64, .inl S)), (st, .inl (G.2.1, 8, .inl v)), (c, .inr (2, [.ref ko, .int (nI i)])), (ko, .inl (G.2.1, 16, .inl (nb key))), (d, .inr (0, [.ref o, .int (nI m), .int (nI y)])), (o, .inl (G.2.1, 1200, .inl (nb g))), (r, .inl (G.2.1, 8, .inl (nb bf)))] H_24_1 := hP_24_1
  replace hD : va_D A [(h, .inr (1, [.ref tx1, .ref sc, .ref st, .int (nI ((64 + 1) + 1))])), (tx1, .inl (G.2.1, 128, .inl (nb (upb (upb jT2_1 64 (toB (f_ush (nI i) (nI 24)))) (64 + 1) (toB (f_ush (nI i) (nI 16))))))), (sc, .inl (G.2.1, 64, .inl S)), (st, .inl (G.2.1, 8, .inl v)), (c, .inr (2, [.ref ko, .int (nI i)])), (ko, .inl (G.2.1, 16, .inl (nb key))), (d, .inr (0, [.ref o, .int (nI m), .int (nI y)])), (o, .inl (G.2.1, 1200, .inl (nb g))), (r, .inl (G.2.1, 8, .inl (nb bf)))] := hD_24_1
  replace hS : va_S A sv.heap H_24_1 locs_24_1 := hS_24_1
  clear hP_24_1 hD_24_1 hS_24_1
  replace hT0 : tx (upb (upb jT2_1 64 (toB (f_ush (nI i) (nI 24)))) (64 + 1) (toB (f_ush (nI i) (nI 16)))) (kpad key (UInt8.ofNat 54) ++ bl 2 (nB i)) := tx_step (f := nB i) hT0 (by simp only [kpad_len]) rfl
  refine lv_iinc (v := nI 8) (lv' := [(5, .int (nI 8)), (0, .ref h), (1, .ref c), (2, .ref d), (3, .int (nI a)), (4, .ref r)]) hx hb dX1_makeTag_27 hl (k := 0) rfl (by decide) (by decide) rfl (fun ls hl2 => ?_)
  replace hl := hl2; clear hl2
  refine lv_goto (tgt := 11) hx hb dX1_makeTag_30 (by decide) ?_
  refine lv_iload hx hb dX1_makeTag_11 (lv_at hl 0 rfl) ?_
  refine lv_if_lt (tgt := 33) hx hb dX1_makeTag_13 (by decide) (fun c9 => absurd c9 (by decide)) (fun _ => ?_)
  refine lv_aload_n hx hb dX1_makeTag_16 rfl (lv_at hl 1 rfl) ?_
  refine lv_aload_n hx hb dX1_makeTag_17 rfl (lv_at hl 2 rfl) ?_
  refine va_get (D := G.1) (ci := 2) (v := .int (nI i)) (C := RX2) (T := TX2) (N := 2) hx hb hts in_wsX20 hown hK hP 4 rfl rfl 1 (by decide) (hts _ wm_73) (fun _ h9 => h9) rfl dX1_makeTag_18 ?_
  refine lv_iload hx hb dX1_makeTag_21 (lv_at hl 0 rfl) ?_
  refine lv_iushr (v := f_ush (nI i) (nI 8)) hx hb dX1_makeTag_23 rfl ?_
  refine fcVV (As := [.int (f_ush (nI i) (nI 8))]) (rest := []) (wr := [(c, .inr (2, [.ref ko, .int (nI i)])), (ko, .inl (G.2.1, 16, .inl (nb key))), (d, .inr (0, [.ref o, .int (nI m), .int (nI y)])), (o, .inl (G.2.1, 1200, .inl (nb g))), (r, .inl (G.2.1, 8, .inl (nb bf)))]) (ws1 := fun (u : Unit) => [(h, .inr (1, [.ref tx1, .ref sc, .ref st, .int (nI (((64 + 1) + 1) + 1))])), (tx1, .inl (G.2.1, 128, .inl (nb (upb (upb (upb jT2_1 64 (toB (f_ush (nI i) (nI 24)))) (64 + 1) (toB (f_ush (nI i) (nI 16)))) ((64 + 1) + 1) (toB (f_ush (nI i) (nI 8))))))), (sc, .inl (G.2.1, 64, .inl S)), (st, .inl (G.2.1, 8, .inl v)), (c, .inr (2, [.ref ko, .int (nI i)])), (ko, .inl (G.2.1, 16, .inl (nb key))), (d, .inr (0, [.ref o, .int (nI m), .int (nI y)])), (o, .inl (G.2.1, 1200, .inl (nb g))), (r, .inl (G.2.1, 8, .inl (nb bf)))]) ⟨hx, hb, hml, hown, hts⟩ hK hE hP hD hS hA hl.1 (kX1_put l G h tx1 sc st (upb (upb jT2_1 64 (toB (f_ush (nI i) (nI 24)))) (64 + 1) (toB (f_ush (nI i) (nI 16)))) ((64 + 1) + 1) S v (f_ush (nI i) (nI 8)) (by omega)) (cwV 1 hts (gdV wm_57 wm_58 wm_59 wm_56 wm_49) rfl rfl rfl (by decide +kernel) ⟨Nat.le_of_ble_eq_true rfl, Nat.le_of_ble_eq_true rfl⟩) 0 rfl rfl rfl rfl (Nat.le_of_ble_eq_true rfl) dX1_makeTag_24 ⟨Nat.le_of_ble_eq_true rfl, Nat.le_of_ble_eq_true rfl⟩ [0, 1, 2, 3] [4, 5, 6, 7, 8] [5, 6, 7, 8, 0, 1, 2, 3, 4] rfl rfl rfl rfl (by decide) rfl (fun _ => rfl) (fun u_24_2 H_24_2 locs_24_2 hw_24_2 hP_24_2 hD_24_2 hS_24_2 => ?_)
  replace hP : va_P G.1 vwCl [(h, .inr (1, [.ref tx1, .ref sc, .ref st, .int (nI (((64 + 1) + 1) + 1))])), (tx1, .inl (G.2.1, 128, .inl (nb (upb (upb (upb jT2_1 64 (toB (f_ush (nI i) (nI 24)))) (64 + 1) (toB (f_ush (nI i) (nI 16)))) ((64 + 1) + 1) (toB (f_ush (nI i) (nI 8))))))), (sc, .inl (G.2.1, 64, .inl S)), (st, .inl (G.2.1, 8, .inl v)), (c, .inr (2, [.ref ko, .int (nI i)])), (ko, .inl (G.2.1, 16, .inl (nb key))), (d, .inr (0, [.ref o, .int (nI m), .int (nI y)])), (o, .inl (G.2.1, 1200, .inl (nb g))), (r, .inl (G.2.1, 8, .inl (nb bf)))] H_24_2 := hP_24_2
  replace hD : va_D A [(h, .inr (1, [.ref tx1, .ref sc, .ref st, .int (nI (((64 + 1) + 1) + 1))])), (tx1, .inl (G.2.1, 128, .inl (nb (upb (upb (upb jT2_1 64 (toB (f_ush (nI i) (nI 24)))) (64 + 1) (toB (f_ush (nI i) (nI 16)))) ((64 + 1) + 1) (toB (f_ush (nI i) (nI 8))))))), (sc, .inl (G.2.1, 64, .inl S)), (st, .inl (G.2.1, 8, .inl v)), (c, .inr (2, [.ref ko, .int (nI i)])), (ko, .inl (G.2.1, 16, .inl (nb key))), (d, .inr (0, [.ref o, .int (nI m), .int (nI y)])), (o, .inl (G.2.1, 1200, .inl (nb g))), (r, .inl (G.2.1, 8, .inl (nb bf)))] := hD_24_2
  replace hS : va_S A sv.heap H_24_2 locs_24_2 := hS_24_2
  clear hP_24_2 hD_24_2 hS_24_2
  replace hT0 : tx (upb (upb (upb jT2_1 64 (toB (f_ush (nI i) (nI 24)))) (64 + 1) (toB (f_ush (nI i) (nI 16)))) ((64 + 1) + 1) (toB (f_ush (nI i) (nI 8)))) (kpad key (UInt8.ofNat 54) ++ bl 3 (nB i)) := tx_step (f := nB i) hT0 (by simp only [kpad_len]) rfl
  refine lv_iinc (v := nI 0) (lv' := [(5, .int (nI 0)), (0, .ref h), (1, .ref c), (2, .ref d), (3, .int (nI a)), (4, .ref r)]) hx hb dX1_makeTag_27 hl (k := 0) rfl (by decide) (by decide) rfl (fun ls hl2 => ?_)
  replace hl := hl2; clear hl2
  refine lv_goto (tgt := 11) hx hb dX1_makeTag_30 (by decide) ?_
  refine lv_iload hx hb dX1_makeTag_11 (lv_at hl 0 rfl) ?_
  refine lv_if_lt (tgt := 33) hx hb dX1_makeTag_13 (by decide) (fun c9 => absurd c9 (by decide)) (fun _ => ?_)
  refine lv_aload_n hx hb dX1_makeTag_16 rfl (lv_at hl 1 rfl) ?_
  refine lv_aload_n hx hb dX1_makeTag_17 rfl (lv_at hl 2 rfl) ?_
  refine va_get (D := G.1) (ci := 2) (v := .int (nI i)) (C := RX2) (T := TX2) (N := 2) hx hb hts in_wsX20 hown hK hP 4 rfl rfl 1 (by decide) (hts _ wm_73) (fun _ h9 => h9) rfl dX1_makeTag_18 ?_
  refine lv_iload hx hb dX1_makeTag_21 (lv_at hl 0 rfl) ?_
  refine lv_iushr (v := f_ush (nI i) (nI 0)) hx hb dX1_makeTag_23 rfl ?_
  refine fcVV (As := [.int (f_ush (nI i) (nI 0))]) (rest := []) (wr := [(c, .inr (2, [.ref ko, .int (nI i)])), (ko, .inl (G.2.1, 16, .inl (nb key))), (d, .inr (0, [.ref o, .int (nI m), .int (nI y)])), (o, .inl (G.2.1, 1200, .inl (nb g))), (r, .inl (G.2.1, 8, .inl (nb bf)))]) (ws1 := fun (u : Unit) => [(h, .inr (1, [.ref tx1, .ref sc, .ref st, .int (nI ((((64 + 1) + 1) + 1) + 1))])), (tx1, .inl (G.2.1, 128, .inl (nb (upb (upb (upb (upb jT2_1 64 (toB (f_ush (nI i) (nI 24)))) (64 + 1) (toB (f_ush (nI i) (nI 16)))) ((64 + 1) + 1) (toB (f_ush (nI i) (nI 8)))) (((64 + 1) + 1) + 1) (toB (f_ush (nI i) (nI 0))))))), (sc, .inl (G.2.1, 64, .inl S)), (st, .inl (G.2.1, 8, .inl v)), (c, .inr (2, [.ref ko, .int (nI i)])), (ko, .inl (G.2.1, 16, .inl (nb key))), (d, .inr (0, [.ref o, .int (nI m), .int (nI y)])), (o, .inl (G.2.1, 1200, .inl (nb g))), (r, .inl (G.2.1, 8, .inl (nb bf)))]) ⟨hx, hb, hml, hown, hts⟩ hK hE hP hD hS hA hl.1 (kX1_put l G h tx1 sc st (upb (upb (upb jT2_1 64 (toB (f_ush (nI i) (nI 24)))) (64 + 1) (toB (f_ush (nI i) (nI 16)))) ((64 + 1) + 1) (toB (f_ush (nI i) (nI 8)))) (((64 + 1) + 1) + 1) S v (f_ush (nI i) (nI 0)) (by omega)) (cwV 1 hts (gdV wm_57 wm_58 wm_59 wm_56 wm_49) rfl rfl rfl (by decide +kernel) ⟨Nat.le_of_ble_eq_true rfl, Nat.le_of_ble_eq_true rfl⟩) 0 rfl rfl rfl rfl (Nat.le_of_ble_eq_true rfl) dX1_makeTag_24 ⟨Nat.le_of_ble_eq_true rfl, Nat.le_of_ble_eq_true rfl⟩ [0, 1, 2, 3] [4, 5, 6, 7, 8] [5, 6, 7, 8, 0, 1, 2, 3, 4] rfl rfl rfl rfl (by decide) rfl (fun _ => rfl) (fun u_24_3 H_24_3 locs_24_3 hw_24_3 hP_24_3 hD_24_3 hS_24_3 => ?_)
  replace hP : va_P G.1 vwCl [(h, .inr (1, [.ref tx1, .ref sc, .ref st, .int (nI ((((64 + 1) + 1) + 1) + 1))])), (tx1, .inl (G.2.1, 128, .inl (nb (upb (upb (upb (upb jT2_1 64 (toB (f_ush (nI i) (nI 24)))) (64 + 1) (toB (f_ush (nI i) (nI 16)))) ((64 + 1) + 1) (toB (f_ush (nI i) (nI 8)))) (((64 + 1) + 1) + 1) (toB (f_ush (nI i) (nI 0))))))), (sc, .inl (G.2.1, 64, .inl S)), (st, .inl (G.2.1, 8, .inl v)), (c, .inr (2, [.ref ko, .int (nI i)])), (ko, .inl (G.2.1, 16, .inl (nb key))), (d, .inr (0, [.ref o, .int (nI m), .int (nI y)])), (o, .inl (G.2.1, 1200, .inl (nb g))), (r, .inl (G.2.1, 8, .inl (nb bf)))] H_24_3 := hP_24_3
  replace hD : va_D A [(h, .inr (1, [.ref tx1, .ref sc, .ref st, .int (nI ((((64 + 1) + 1) + 1) + 1))])), (tx1, .inl (G.2.1, 128, .inl (nb (upb (upb (upb (upb jT2_1 64 (toB (f_ush (nI i) (nI 24)))) (64 + 1) (toB (f_ush (nI i) (nI 16)))) ((64 + 1) + 1) (toB (f_ush (nI i) (nI 8)))) (((64 + 1) + 1) + 1) (toB (f_ush (nI i) (nI 0))))))), (sc, .inl (G.2.1, 64, .inl S)), (st, .inl (G.2.1, 8, .inl v)), (c, .inr (2, [.ref ko, .int (nI i)])), (ko, .inl (G.2.1, 16, .inl (nb key))), (d, .inr (0, [.ref o, .int (nI m), .int (nI y)])), (o, .inl (G.2.1, 1200, .inl (nb g))), (r, .inl (G.2.1, 8, .inl (nb bf)))] := hD_24_3
  replace hS : va_S A sv.heap H_24_3 locs_24_3 := hS_24_3
  clear hP_24_3 hD_24_3 hS_24_3
  replace hT0 : tx (upb (upb (upb (upb jT2_1 64 (toB (f_ush (nI i) (nI 24)))) (64 + 1) (toB (f_ush (nI i) (nI 16)))) ((64 + 1) + 1) (toB (f_ush (nI i) (nI 8)))) (((64 + 1) + 1) + 1) (toB (f_ush (nI i) (nI 0)))) (kpad key (UInt8.ofNat 54) ++ bl 4 (nB i)) := tx_step (f := nB i) hT0 (by simp only [kpad_len]) rfl
  refine lv_iinc (v := -8) (lv' := [(5, .int (-8)), (0, .ref h), (1, .ref c), (2, .ref d), (3, .int (nI a)), (4, .ref r)]) hx hb dX1_makeTag_27 hl (k := 0) rfl (by decide) (by decide) rfl (fun ls hl2 => ?_)
  replace hl := hl2; clear hl2
  refine lv_goto (tgt := 11) hx hb dX1_makeTag_30 (by decide) ?_
  refine lv_iload hx hb dX1_makeTag_11 (lv_at hl 0 rfl) ?_
  refine lv_if_lt (tgt := 33) hx hb dX1_makeTag_13 (by decide) (fun _ => ?_) (fun c9 => absurd (by decide) c9)
  refine lv_aload_n hx hb dX1_makeTag_33 rfl (lv_at hl 3 rfl) ?_
  refine lv_iload_n hx hb dX1_makeTag_34 rfl (lv_at hl 4 rfl) ?_
  refine lv_iconst (v := nI 1) hx hb dX1_makeTag_35 (by decide) ?_
  refine lv_iadd hx hb dX1_makeTag_36 ?_
  refine f_top (y := nI (a + 1)) (nI_add _ _) ?_
  refine fcVI (As := [.int (nI (a + 1))]) (rest := []) (wr := [(h, .inr (1, [.ref tx1, .ref sc, .ref st, .int (nI ((((64 + 1) + 1) + 1) + 1))])), (tx1, .inl (G.2.1, 128, .inl (nb (upb (upb (upb (upb jT2_1 64 (toB (f_ush (nI i) (nI 24)))) (64 + 1) (toB (f_ush (nI i) (nI 16)))) ((64 + 1) + 1) (toB (f_ush (nI i) (nI 8)))) (((64 + 1) + 1) + 1) (toB (f_ush (nI i) (nI 0))))))), (sc, .inl (G.2.1, 64, .inl S)), (st, .inl (G.2.1, 8, .inl v)), (c, .inr (2, [.ref ko, .int (nI i)])), (ko, .inl (G.2.1, 16, .inl (nb key))), (r, .inl (G.2.1, 8, .inl (nb bf)))]) (ws1 := fun (u : Unit) => [(h, .inr (1, [.ref tx1, .ref sc, .ref st, .int (nI ((((64 + 1) + 1) + 1) + 1))])), (tx1, .inl (G.2.1, 128, .inl (nb (upb (upb (upb (upb jT2_1 64 (toB (f_ush (nI i) (nI 24)))) (64 + 1) (toB (f_ush (nI i) (nI 16)))) ((64 + 1) + 1) (toB (f_ush (nI i) (nI 8)))) (((64 + 1) + 1) + 1) (toB (f_ush (nI i) (nI 0))))))), (sc, .inl (G.2.1, 64, .inl S)), (st, .inl (G.2.1, 8, .inl v)), (c, .inr (2, [.ref ko, .int (nI i)])), (ko, .inl (G.2.1, 16, .inl (nb key))), (d, .inr (0, [.ref o, .int (nI m), .int (nI y)])), (o, .inl (G.2.1, 1200, .inl (nb g))), (r, .inl (G.2.1, 8, .inl (nb bf)))]) ⟨hx, hb, hml, hown, hts⟩ hK hE hP hD hS hA hl.1 (kX0_octetAt_in l G d o g m y (a + 1) (by omega) (by omega)) (cwV 1 hts (gdV wm_77 wm_20 wm_21 wm_15 wm_11) rfl rfl rfl (by decide +kernel) ⟨Nat.le_of_ble_eq_true rfl, Nat.le_of_ble_eq_true rfl⟩) 6 rfl rfl rfl rfl (Nat.le_of_ble_eq_true rfl) dX1_makeTag_37 ⟨Nat.le_of_ble_eq_true rfl, Nat.le_of_ble_eq_true rfl⟩ [6, 7] [0, 1, 2, 3, 4, 5, 8] [0, 1, 2, 3, 4, 5, 7, 8, 6] rfl rfl rfl rfl (by decide) rfl (fun _ => rfl) (fun r_37 u_37 H_37 locs_37 hw_37 hP_37 hD_37 hS_37 => ?_)
  obtain rfl := hw_37
  replace hP : va_P G.1 vwCl [(h, .inr (1, [.ref tx1, .ref sc, .ref st, .int (nI ((((64 + 1) + 1) + 1) + 1))])), (tx1, .inl (G.2.1, 128, .inl (nb (upb (upb (upb (upb jT2_1 64 (toB (f_ush (nI i) (nI 24)))) (64 + 1) (toB (f_ush (nI i) (nI 16)))) ((64 + 1) + 1) (toB (f_ush (nI i) (nI 8)))) (((64 + 1) + 1) + 1) (toB (f_ush (nI i) (nI 0))))))), (sc, .inl (G.2.1, 64, .inl S)), (st, .inl (G.2.1, 8, .inl v)), (c, .inr (2, [.ref ko, .int (nI i)])), (ko, .inl (G.2.1, 16, .inl (nb key))), (d, .inr (0, [.ref o, .int (nI m), .int (nI y)])), (o, .inl (G.2.1, 1200, .inl (nb g))), (r, .inl (G.2.1, 8, .inl (nb bf)))] H_37 := hP_37
  replace hD : va_D A [(h, .inr (1, [.ref tx1, .ref sc, .ref st, .int (nI ((((64 + 1) + 1) + 1) + 1))])), (tx1, .inl (G.2.1, 128, .inl (nb (upb (upb (upb (upb jT2_1 64 (toB (f_ush (nI i) (nI 24)))) (64 + 1) (toB (f_ush (nI i) (nI 16)))) ((64 + 1) + 1) (toB (f_ush (nI i) (nI 8)))) (((64 + 1) + 1) + 1) (toB (f_ush (nI i) (nI 0))))))), (sc, .inl (G.2.1, 64, .inl S)), (st, .inl (G.2.1, 8, .inl v)), (c, .inr (2, [.ref ko, .int (nI i)])), (ko, .inl (G.2.1, 16, .inl (nb key))), (d, .inr (0, [.ref o, .int (nI m), .int (nI y)])), (o, .inl (G.2.1, 1200, .inl (nb g))), (r, .inl (G.2.1, 8, .inl (nb bf)))] := hD_37
  replace hS : va_S A sv.heap H_37 locs_37 := hS_37
  clear hP_37 hD_37 hS_37
  refine lv_istore (lv' := [(5, .int (bI (g (a + 1)))), (0, .ref h), (1, .ref c), (2, .ref d), (3, .int (nI a)), (4, .ref r)]) hx hb dX1_makeTag_40 hl (by decide) rfl (fun ls hl2 => ?_)
  replace hl := hl2; clear hl2
  refine lv_iconst (v := nI 0) hx hb dX1_makeTag_42 (by decide) ?_
  refine lv_istore (lv' := [(6, .int (nI 0)), (5, .int (bI (g (a + 1)))), (0, .ref h), (1, .ref c), (2, .ref d), (3, .int (nI a)), (4, .ref r)]) hx hb dX1_makeTag_43 hl (by decide) rfl (fun ls hl2 => ?_)
  replace hl := hl2; clear hl2
  have L_45 : ∀ (n9 : Nat) (k : Nat) (T1 : Nat → UInt8) (H : Heap) (locs : List Loc) (ls : Array Slot), (43 - k) < n9 → (k ≤ 2 + (g (a + 1)).toNat) → (tx T1 ((kpad key (UInt8.ofNat 54) ++ bl 4 (nB i)) ++ bl k (rcf g a))) → va_P G.1 vwCl [(h, .inr (1, [.ref tx1, .ref sc, .ref st, .int (nI (68 + k))])), (tx1, .inl (G.2.1, 128, .inl (nb T1))), (sc, .inl (G.2.1, 64, .inl S)), (st, .inl (G.2.1, 8, .inl v)), (c, .inr (2, [.ref ko, .int (nI i)])), (ko, .inl (G.2.1, 16, .inl (nb key))), (d, .inr (0, [.ref o, .int (nI m), .int (nI y)])), (o, .inl (G.2.1, 1200, .inl (nb g))), (r, .inl (G.2.1, 8, .inl (nb bf)))] H → va_D A [(h, .inr (1, [.ref tx1, .ref sc, .ref st, .int (nI (68 + k))])), (tx1, .inl (G.2.1, 128, .inl (nb T1))), (sc, .inl (G.2.1, 64, .inl S)), (st, .inl (G.2.1, 8, .inl v)), (c, .inr (2, [.ref ko, .int (nI i)])), (ko, .inl (G.2.1, 16, .inl (nb key))), (d, .inr (0, [.ref o, .int (nI m), .int (nI y)])), (o, .inl (G.2.1, 1200, .inl (nb g))), (r, .inl (G.2.1, 8, .inl (nb bf)))] → va_S A sv.heap H locs → lv_has ls 7 [(0, .ref h), (1, .ref c), (2, .ref d), (3, .int (nI a)), (4, .ref r), (5, .int (bI (g (a + 1)))), (6, .int (nI k))] → W prg l env ({ frames := 3, cells := 0, slots := 0, locals := 77 } : Room) sv mid args below meth cd H locs 0 0 Q (F0 mid 45 ls []) := by
    intro n9
    induction n9 with
    | zero => intro k T1 H locs ls hmu; exact absurd hmu (Nat.not_lt_zero _)
    | succ n9 ih_45 =>
      intro k T1 H locs ls hmu_45 hk hT1 hP hD hS hl
      refine lv_iload hx hb dX1_makeTag_45 (lv_at hl 6 rfl) ?_
      refine lv_iconst (v := nI 2) hx hb dX1_makeTag_47 (by decide) ?_
      refine lv_iload hx hb dX1_makeTag_48 (lv_at hl 5 rfl) ?_
      refine lv_iadd hx hb dX1_makeTag_50 ?_
      refine f_top (y := nI (2 + ((g (a + 1)).toNat))) (nI_add _ _) ?_
      refine f_icmp_ge (tgt := 72) (by omega) (by omega) hx hb dX1_makeTag_51 (by decide) (fun c_51 => ?_) (fun c_51 => ?_)
      · skip
        refine lv_iconst (v := nI 0) hx hb dX1_makeTag_72 (by decide) ?_
        refine lv_istore (lv' := [(6, .int (nI 0)), (0, .ref h), (1, .ref c), (2, .ref d), (3, .int (nI a)), (4, .ref r), (5, .int (bI (g (a + 1))))]) hx hb dX1_makeTag_73 hl (by decide) rfl (fun ls hl2 => ?_)
        replace hl := hl2; clear hl2
        obtain rfl : k = 2 + (g (a + 1)).toNat := by omega
        have L_75 : ∀ (n9 : Nat) (k : Nat) (T1 : Nat → UInt8) (H : Heap) (locs : List Loc) (ls : Array Slot), (9 - k) < n9 → (k ≤ 8) → (tx T1 (((kpad key (UInt8.ofNat 54) ++ bl 4 (nB i)) ++ bl (2 + (g (a + 1)).toNat) (rcf g a)) ++ bl k bf)) → va_P G.1 vwCl [(h, .inr (1, [.ref tx1, .ref sc, .ref st, .int (nI (68 + (2 + (g (a + 1)).toNat) + k))])), (tx1, .inl (G.2.1, 128, .inl (nb T1))), (sc, .inl (G.2.1, 64, .inl S)), (st, .inl (G.2.1, 8, .inl v)), (c, .inr (2, [.ref ko, .int (nI i)])), (ko, .inl (G.2.1, 16, .inl (nb key))), (d, .inr (0, [.ref o, .int (nI m), .int (nI y)])), (o, .inl (G.2.1, 1200, .inl (nb g))), (r, .inl (G.2.1, 8, .inl (nb bf)))] H → va_D A [(h, .inr (1, [.ref tx1, .ref sc, .ref st, .int (nI (68 + (2 + (g (a + 1)).toNat) + k))])), (tx1, .inl (G.2.1, 128, .inl (nb T1))), (sc, .inl (G.2.1, 64, .inl S)), (st, .inl (G.2.1, 8, .inl v)), (c, .inr (2, [.ref ko, .int (nI i)])), (ko, .inl (G.2.1, 16, .inl (nb key))), (d, .inr (0, [.ref o, .int (nI m), .int (nI y)])), (o, .inl (G.2.1, 1200, .inl (nb g))), (r, .inl (G.2.1, 8, .inl (nb bf)))] → va_S A sv.heap H locs → lv_has ls 7 [(0, .ref h), (1, .ref c), (2, .ref d), (3, .int (nI a)), (4, .ref r), (6, .int (nI k))] → W prg l env ({ frames := 3, cells := 0, slots := 0, locals := 77 } : Room) sv mid args below meth cd H locs 0 0 Q (F0 mid 75 ls []) := by
          intro n9
          induction n9 with
          | zero => intro k T1 H locs ls hmu; exact absurd hmu (Nat.not_lt_zero _)
          | succ n9 ih_75 =>
            intro k T1 H locs ls hmu_75 hk hT1 hP hD hS hl
            refine lv_iload hx hb dX1_makeTag_75 (lv_at hl 5 rfl) ?_
            refine lv_bipush (v := nI 8) hx hb dX1_makeTag_77 (by decide) ?_
            refine f_icmp_ge (tgt := 105) (by omega) (by omega) hx hb dX1_makeTag_79 (by decide) (fun c_79 => ?_) (fun c_79 => ?_)
            · skip
              obtain rfl : k = 8 := by omega
              refine lv_aload_n hx hb dX1_makeTag_105 rfl (lv_at hl 0 rfl) ?_
              refine fcVV (As := []) (rest := []) (wr := [(c, .inr (2, [.ref ko, .int (nI i)])), (ko, .inl (G.2.1, 16, .inl (nb key))), (d, .inr (0, [.ref o, .int (nI m), .int (nI y)])), (o, .inl (G.2.1, 1200, .inl (nb g))), (r, .inl (G.2.1, 8, .inl (nb bf)))]) (ws1 := fun (u : (Nat → UInt8) × Nat × (Nat → Int32)) => [(h, .inr (1, [.ref tx1, .ref sc, .ref st, .int (nI u.2.1)])), (tx1, .inl (G.2.1, 128, .inl (nb u.1))), (sc, .inl (G.2.1, 64, .inl u.2.2)), (st, .inl (G.2.1, 8, .inl (shaW (((kpad key (UInt8.ofNat 54) ++ bl 4 (nB i)) ++ bl (2 + (g (a + 1)).toNat) (rcf g a)) ++ bl 8 bf)))), (c, .inr (2, [.ref ko, .int (nI i)])), (ko, .inl (G.2.1, 16, .inl (nb key))), (d, .inr (0, [.ref o, .int (nI m), .int (nI y)])), (o, .inl (G.2.1, 1200, .inl (nb g))), (r, .inl (G.2.1, 8, .inl (nb bf)))]) ⟨hx, hb, hml, hown, hts⟩ hK hE hP hD hS hA hl.1 (kX1_finish l G h tx1 sc st T1 (68 + (2 + (g (a + 1)).toNat) + 8) S v (((kpad key (UInt8.ofNat 54) ++ bl 4 (nB i)) ++ bl (2 + (g (a + 1)).toNat) (rcf g a)) ++ bl 8 bf) hT1 (by simp only [List.length_append, kpad_len, bl_len]) (by simp only [List.length_append, kpad_len, bl_len]; omega)) (cwV 0 hts (gdV wm_78 wm_79 wm_80 wm_56 wm_65) rfl rfl rfl (by decide +kernel) ⟨Nat.le_of_ble_eq_true rfl, Nat.le_of_ble_eq_true rfl⟩) 0 rfl rfl rfl rfl (Nat.le_of_ble_eq_true rfl) dX1_makeTag_106 ⟨Nat.le_of_ble_eq_true rfl, Nat.le_of_ble_eq_true rfl⟩ [0, 1, 2, 3] [4, 5, 6, 7, 8] [5, 6, 7, 8, 0, 1, 2, 3, 4] rfl rfl rfl rfl (by decide) rfl (fun _ => rfl) (fun u_106 H_106 locs_106 hw_106 hP_106 hD_106 hS_106 => ?_)
              obtain ⟨jT2_3, jn2_4, jS2_5⟩ := u_106
              replace hP : va_P G.1 vwCl [(h, .inr (1, [.ref tx1, .ref sc, .ref st, .int (nI jn2_4)])), (tx1, .inl (G.2.1, 128, .inl (nb jT2_3))), (sc, .inl (G.2.1, 64, .inl jS2_5)), (st, .inl (G.2.1, 8, .inl (shaW (((kpad key (UInt8.ofNat 54) ++ bl 4 (nB i)) ++ bl (2 + (g (a + 1)).toNat) (rcf g a)) ++ bl 8 bf)))), (c, .inr (2, [.ref ko, .int (nI i)])), (ko, .inl (G.2.1, 16, .inl (nb key))), (d, .inr (0, [.ref o, .int (nI m), .int (nI y)])), (o, .inl (G.2.1, 1200, .inl (nb g))), (r, .inl (G.2.1, 8, .inl (nb bf)))] H_106 := hP_106
              replace hD : va_D A [(h, .inr (1, [.ref tx1, .ref sc, .ref st, .int (nI jn2_4)])), (tx1, .inl (G.2.1, 128, .inl (nb jT2_3))), (sc, .inl (G.2.1, 64, .inl jS2_5)), (st, .inl (G.2.1, 8, .inl (shaW (((kpad key (UInt8.ofNat 54) ++ bl 4 (nB i)) ++ bl (2 + (g (a + 1)).toNat) (rcf g a)) ++ bl 8 bf)))), (c, .inr (2, [.ref ko, .int (nI i)])), (ko, .inl (G.2.1, 16, .inl (nb key))), (d, .inr (0, [.ref o, .int (nI m), .int (nI y)])), (o, .inl (G.2.1, 1200, .inl (nb g))), (r, .inl (G.2.1, 8, .inl (nb bf)))] := hD_106
              replace hS : va_S A sv.heap H_106 locs_106 := hS_106
              clear hP_106 hD_106 hS_106
              refine lv_aload_n hx hb dX1_makeTag_109 rfl (lv_at hl 0 rfl) ?_
              refine lv_aload_n hx hb dX1_makeTag_110 rfl (lv_at hl 1 rfl) ?_
              refine lv_bipush (v := nI 92) hx hb dX1_makeTag_111 (by decide) ?_
              refine fcVV (As := [.ref c, .int (nI 92)]) (rest := []) (wr := [(d, .inr (0, [.ref o, .int (nI m), .int (nI y)])), (o, .inl (G.2.1, 1200, .inl (nb g))), (r, .inl (G.2.1, 8, .inl (nb bf)))]) (ws1 := fun (u : (Nat → UInt8)) => [(h, .inr (1, [.ref tx1, .ref sc, .ref st, .int (nI 64)])), (tx1, .inl (G.2.1, 128, .inl (nb u))), (sc, .inl (G.2.1, 64, .inl jS2_5)), (st, .inl (G.2.1, 8, .inl (shaW (((kpad key (UInt8.ofNat 54) ++ bl 4 (nB i)) ++ bl (2 + (g (a + 1)).toNat) (rcf g a)) ++ bl 8 bf)))), (c, .inr (2, [.ref ko, .int (nI i)])), (ko, .inl (G.2.1, 16, .inl (nb key))), (d, .inr (0, [.ref o, .int (nI m), .int (nI y)])), (o, .inl (G.2.1, 1200, .inl (nb g))), (r, .inl (G.2.1, 8, .inl (nb bf)))]) ⟨hx, hb, hml, hown, hts⟩ hK hE hP hD hS hA hl.1 (kX1_putKey l G h tx1 sc st jT2_3 jn2_4 jS2_5 (shaW (((kpad key (UInt8.ofNat 54) ++ bl 4 (nB i)) ++ bl (2 + (g (a + 1)).toNat) (rcf g a)) ++ bl 8 bf)) c ko key i 92 (by decide)) (cwV 2 hts (gdV wm_74 wm_75 wm_76 wm_56 wm_51) rfl rfl rfl (by decide +kernel) ⟨Nat.le_of_ble_eq_true rfl, Nat.le_of_ble_eq_true rfl⟩) 0 rfl rfl rfl rfl (Nat.le_of_ble_eq_true rfl) dX1_makeTag_113 ⟨Nat.le_of_ble_eq_true rfl, Nat.le_of_ble_eq_true rfl⟩ [0, 1, 2, 3, 4, 5] [6, 7, 8] [3, 4, 5, 6, 7, 8, 0, 1, 2] rfl rfl rfl rfl (by decide) rfl (fun _ => rfl) (fun u_113 H_113 locs_113 hw_113 hP_113 hD_113 hS_113 => ?_)
              obtain ⟨jT2_6, rfl⟩ : ∃ z, z = u_113 := ⟨_, rfl⟩
              have f_7 := hw_113
              replace f_7 : tx jT2_6 (kpad key (UInt8.ofNat 92)) := f_7
              replace hP : va_P G.1 vwCl [(h, .inr (1, [.ref tx1, .ref sc, .ref st, .int (nI 64)])), (tx1, .inl (G.2.1, 128, .inl (nb jT2_6))), (sc, .inl (G.2.1, 64, .inl jS2_5)), (st, .inl (G.2.1, 8, .inl (shaW (((kpad key (UInt8.ofNat 54) ++ bl 4 (nB i)) ++ bl (2 + (g (a + 1)).toNat) (rcf g a)) ++ bl 8 bf)))), (c, .inr (2, [.ref ko, .int (nI i)])), (ko, .inl (G.2.1, 16, .inl (nb key))), (d, .inr (0, [.ref o, .int (nI m), .int (nI y)])), (o, .inl (G.2.1, 1200, .inl (nb g))), (r, .inl (G.2.1, 8, .inl (nb bf)))] H_113 := hP_113
              replace hD : va_D A [(h, .inr (1, [.ref tx1, .ref sc, .ref st, .int (nI 64)])), (tx1, .inl (G.2.1, 128, .inl (nb jT2_6))), (sc, .inl (G.2.1, 64, .inl jS2_5)), (st, .inl (G.2.1, 8, .inl (shaW (((kpad key (UInt8.ofNat 54) ++ bl 4 (nB i)) ++ bl (2 + (g (a + 1)).toNat) (rcf g a)) ++ bl 8 bf)))), (c, .inr (2, [.ref ko, .int (nI i)])), (ko, .inl (G.2.1, 16, .inl (nb key))), (d, .inr (0, [.ref o, .int (nI m), .int (nI y)])), (o, .inl (G.2.1, 1200, .inl (nb g))), (r, .inl (G.2.1, 8, .inl (nb bf)))] := hD_113
              replace hS : va_S A sv.heap H_113 locs_113 := hS_113
              clear hP_113 hD_113 hS_113
              have hT0 : tx jT2_6 (kpad key (UInt8.ofNat 92) ++ bl 0 (dgB (shaW (((kpad key (UInt8.ofNat 54) ++ bl 4 (nB i)) ++ bl (2 + (g (a + 1)).toNat) (rcf g a)) ++ bl 8 bf)))) := tx_bl0 f_7
              refine lv_iconst (v := nI 0) hx hb dX1_makeTag_116 (by decide) ?_
              refine lv_istore (lv' := [(6, .int (nI 0)), (0, .ref h), (1, .ref c), (2, .ref d), (3, .int (nI a)), (4, .ref r)]) hx hb dX1_makeTag_117 hl (by decide) rfl (fun ls hl2 => ?_)
              replace hl := hl2; clear hl2
              have L_119 : ∀ (n9 : Nat) (k : Nat) (T1 : Nat → UInt8) (H : Heap) (locs : List Loc) (ls : Array Slot), (33 - k) < n9 → (k ≤ 32) → (tx T1 (kpad key (UInt8.ofNat 92) ++ bl k (dgB (shaW (((kpad key (UInt8.ofNat 54) ++ bl 4 (nB i)) ++ bl (2 + (g (a + 1)).toNat) (rcf g a)) ++ bl 8 bf))))) → va_P G.1 vwCl [(h, .inr (1, [.ref tx1, .ref sc, .ref st, .int (nI (64 + k))])), (tx1, .inl (G.2.1, 128, .inl (nb T1))), (sc, .inl (G.2.1, 64, .inl jS2_5)), (st, .inl (G.2.1, 8, .inl (shaW (((kpad key (UInt8.ofNat 54) ++ bl 4 (nB i)) ++ bl (2 + (g (a + 1)).toNat) (rcf g a)) ++ bl 8 bf)))), (c, .inr (2, [.ref ko, .int (nI i)])), (ko, .inl (G.2.1, 16, .inl (nb key))), (d, .inr (0, [.ref o, .int (nI m), .int (nI y)])), (o, .inl (G.2.1, 1200, .inl (nb g))), (r, .inl (G.2.1, 8, .inl (nb bf)))] H → va_D A [(h, .inr (1, [.ref tx1, .ref sc, .ref st, .int (nI (64 + k))])), (tx1, .inl (G.2.1, 128, .inl (nb T1))), (sc, .inl (G.2.1, 64, .inl jS2_5)), (st, .inl (G.2.1, 8, .inl (shaW (((kpad key (UInt8.ofNat 54) ++ bl 4 (nB i)) ++ bl (2 + (g (a + 1)).toNat) (rcf g a)) ++ bl 8 bf)))), (c, .inr (2, [.ref ko, .int (nI i)])), (ko, .inl (G.2.1, 16, .inl (nb key))), (d, .inr (0, [.ref o, .int (nI m), .int (nI y)])), (o, .inl (G.2.1, 1200, .inl (nb g))), (r, .inl (G.2.1, 8, .inl (nb bf)))] → va_S A sv.heap H locs → lv_has ls 7 [(0, .ref h), (1, .ref c), (2, .ref d), (3, .int (nI a)), (4, .ref r), (6, .int (nI k))] → W prg l env ({ frames := 3, cells := 0, slots := 0, locals := 77 } : Room) sv mid args below meth cd H locs 0 0 Q (F0 mid 119 ls []) := by
                intro n9
                induction n9 with
                | zero => intro k T1 H locs ls hmu; exact absurd hmu (Nat.not_lt_zero _)
                | succ n9 ih_119 =>
                  intro k T1 H locs ls hmu_119 hk hT1 hP hD hS hl
                  refine lv_iload hx hb dX1_makeTag_119 (lv_at hl 5 rfl) ?_
                  refine lv_bipush (v := nI 32) hx hb dX1_makeTag_121 (by decide) ?_
                  refine f_icmp_ge (tgt := 142) (by omega) (by omega) hx hb dX1_makeTag_123 (by decide) (fun c_123 => ?_) (fun c_123 => ?_)
                  · skip
                    obtain rfl : k = 32 := by omega
                    refine lv_aload_n hx hb dX1_makeTag_142 rfl (lv_at hl 0 rfl) ?_
                    refine fcVV (As := []) (rest := []) (wr := [(c, .inr (2, [.ref ko, .int (nI i)])), (ko, .inl (G.2.1, 16, .inl (nb key))), (d, .inr (0, [.ref o, .int (nI m), .int (nI y)])), (o, .inl (G.2.1, 1200, .inl (nb g))), (r, .inl (G.2.1, 8, .inl (nb bf)))]) (ws1 := fun (u : (Nat → UInt8) × Nat × (Nat → Int32)) => [(h, .inr (1, [.ref tx1, .ref sc, .ref st, .int (nI u.2.1)])), (tx1, .inl (G.2.1, 128, .inl (nb u.1))), (sc, .inl (G.2.1, 64, .inl u.2.2)), (st, .inl (G.2.1, 8, .inl (shaW (kpad key (UInt8.ofNat 92) ++ bl 32 (dgB (shaW (((kpad key (UInt8.ofNat 54) ++ bl 4 (nB i)) ++ bl (2 + (g (a + 1)).toNat) (rcf g a)) ++ bl 8 bf))))))), (c, .inr (2, [.ref ko, .int (nI i)])), (ko, .inl (G.2.1, 16, .inl (nb key))), (d, .inr (0, [.ref o, .int (nI m), .int (nI y)])), (o, .inl (G.2.1, 1200, .inl (nb g))), (r, .inl (G.2.1, 8, .inl (nb bf)))]) ⟨hx, hb, hml, hown, hts⟩ hK hE hP hD hS hA hl.1 (kX1_finish l G h tx1 sc st T1 (64 + 32) jS2_5 (shaW (((kpad key (UInt8.ofNat 54) ++ bl 4 (nB i)) ++ bl (2 + (g (a + 1)).toNat) (rcf g a)) ++ bl 8 bf)) (kpad key (UInt8.ofNat 92) ++ bl 32 (dgB (shaW (((kpad key (UInt8.ofNat 54) ++ bl 4 (nB i)) ++ bl (2 + (g (a + 1)).toNat) (rcf g a)) ++ bl 8 bf)))) hT1 (by simp only [List.length_append, kpad_len, bl_len]) (by simp only [List.length_append, kpad_len, bl_len]; decide)) (cwV 0 hts (gdV wm_78 wm_79 wm_80 wm_56 wm_65) rfl rfl rfl (by decide +kernel) ⟨Nat.le_of_ble_eq_true rfl, Nat.le_of_ble_eq_true rfl⟩) 0 rfl rfl rfl rfl (Nat.le_of_ble_eq_true rfl) dX1_makeTag_143 ⟨Nat.le_of_ble_eq_true rfl, Nat.le_of_ble_eq_true rfl⟩ [0, 1, 2, 3] [4, 5, 6, 7, 8] [5, 6, 7, 8, 0, 1, 2, 3, 4] rfl rfl rfl rfl (by decide) rfl (fun _ => rfl) (fun u_143 H_143 locs_143 hw_143 hP_143 hD_143 hS_143 => ?_)
                    obtain ⟨jT2_8, jn2_9, jS2_10⟩ := u_143
                    replace hP : va_P G.1 vwCl [(h, .inr (1, [.ref tx1, .ref sc, .ref st, .int (nI jn2_9)])), (tx1, .inl (G.2.1, 128, .inl (nb jT2_8))), (sc, .inl (G.2.1, 64, .inl jS2_10)), (st, .inl (G.2.1, 8, .inl (shaW (kpad key (UInt8.ofNat 92) ++ bl 32 (dgB (shaW (((kpad key (UInt8.ofNat 54) ++ bl 4 (nB i)) ++ bl (2 + (g (a + 1)).toNat) (rcf g a)) ++ bl 8 bf))))))), (c, .inr (2, [.ref ko, .int (nI i)])), (ko, .inl (G.2.1, 16, .inl (nb key))), (d, .inr (0, [.ref o, .int (nI m), .int (nI y)])), (o, .inl (G.2.1, 1200, .inl (nb g))), (r, .inl (G.2.1, 8, .inl (nb bf)))] H_143 := hP_143
                    replace hD : va_D A [(h, .inr (1, [.ref tx1, .ref sc, .ref st, .int (nI jn2_9)])), (tx1, .inl (G.2.1, 128, .inl (nb jT2_8))), (sc, .inl (G.2.1, 64, .inl jS2_10)), (st, .inl (G.2.1, 8, .inl (shaW (kpad key (UInt8.ofNat 92) ++ bl 32 (dgB (shaW (((kpad key (UInt8.ofNat 54) ++ bl 4 (nB i)) ++ bl (2 + (g (a + 1)).toNat) (rcf g a)) ++ bl 8 bf))))))), (c, .inr (2, [.ref ko, .int (nI i)])), (ko, .inl (G.2.1, 16, .inl (nb key))), (d, .inr (0, [.ref o, .int (nI m), .int (nI y)])), (o, .inl (G.2.1, 1200, .inl (nb g))), (r, .inl (G.2.1, 8, .inl (nb bf)))] := hD_143
                    replace hS : va_S A sv.heap H_143 locs_143 := hS_143
                    clear hP_143 hD_143 hS_143
                    replace hP : va_P G.1 vwCl [(h, .inr (1, [.ref tx1, .ref sc, .ref st, .int (nI jn2_9)])), (tx1, .inl (G.2.1, 128, .inl (nb jT2_8))), (sc, .inl (G.2.1, 64, .inl jS2_10)), (st, .inl (G.2.1, 8, .inl (tagW key i g a bf))), (c, .inr (2, [.ref ko, .int (nI i)])), (ko, .inl (G.2.1, 16, .inl (nb key))), (d, .inr (0, [.ref o, .int (nI m), .int (nI y)])), (o, .inl (G.2.1, 1200, .inl (nb g))), (r, .inl (G.2.1, 8, .inl (nb bf)))] H_143 := f_row hP 3 rfl (tagW key i g a bf) (fun j hj => congrFun tag_eq j)
                    replace hD : va_D A [(h, .inr (1, [.ref tx1, .ref sc, .ref st, .int (nI jn2_9)])), (tx1, .inl (G.2.1, 128, .inl (nb jT2_8))), (sc, .inl (G.2.1, 64, .inl jS2_10)), (st, .inl (G.2.1, 8, .inl (tagW key i g a bf))), (c, .inr (2, [.ref ko, .int (nI i)])), (ko, .inl (G.2.1, 16, .inl (nb key))), (d, .inr (0, [.ref o, .int (nI m), .int (nI y)])), (o, .inl (G.2.1, 1200, .inl (nb g))), (r, .inl (G.2.1, 8, .inl (nb bf)))] := f_rowD hD 3 rfl
                    exact hend (jT2_8, jn2_9, jS2_10) _ _ _ _ trivial hP hD hS dX1_makeTag_146
                  · skip
                    refine lv_aload_n hx hb dX1_makeTag_126 rfl (lv_at hl 0 rfl) ?_
                    refine lv_aload_n hx hb dX1_makeTag_127 rfl (lv_at hl 0 rfl) ?_
                    refine lv_iload hx hb dX1_makeTag_128 (lv_at hl 5 rfl) ?_
                    refine fcVI (As := [.int (nI k)]) (rest := [.ref h]) (wr := [(c, .inr (2, [.ref ko, .int (nI i)])), (ko, .inl (G.2.1, 16, .inl (nb key))), (d, .inr (0, [.ref o, .int (nI m), .int (nI y)])), (o, .inl (G.2.1, 1200, .inl (nb g))), (r, .inl (G.2.1, 8, .inl (nb bf)))]) (ws1 := fun (u : Unit) => [(h, .inr (1, [.ref tx1, .ref sc, .ref st, .int (nI (64 + k))])), (tx1, .inl (G.2.1, 128, .inl (nb T1))), (sc, .inl (G.2.1, 64, .inl jS2_5)), (st, .inl (G.2.1, 8, .inl (shaW (((kpad key (UInt8.ofNat 54) ++ bl 4 (nB i)) ++ bl (2 + (g (a + 1)).toNat) (rcf g a)) ++ bl 8 bf)))), (c, .inr (2, [.ref ko, .int (nI i)])), (ko, .inl (G.2.1, 16, .inl (nb key))), (d, .inr (0, [.ref o, .int (nI m), .int (nI y)])), (o, .inl (G.2.1, 1200, .inl (nb g))), (r, .inl (G.2.1, 8, .inl (nb bf)))]) ⟨hx, hb, hml, hown, hts⟩ hK hE hP hD hS hA hl.1 (kX1_hashOctet l G h tx1 sc st T1 (64 + k) jS2_5 (shaW (((kpad key (UInt8.ofNat 54) ++ bl 4 (nB i)) ++ bl (2 + (g (a + 1)).toNat) (rcf g a)) ++ bl 8 bf)) k (by omega)) (cwV 1 hts (gdV wm_81 wm_82 wm_83 wm_56 wm_50) rfl rfl rfl (by decide +kernel) ⟨Nat.le_of_ble_eq_true rfl, Nat.le_of_ble_eq_true rfl⟩) 0 rfl rfl rfl rfl (Nat.le_of_ble_eq_true rfl) dX1_makeTag_130 ⟨Nat.le_of_ble_eq_true rfl, Nat.le_of_ble_eq_true rfl⟩ [0, 1, 2, 3] [4, 5, 6, 7, 8] [5, 6, 7, 8, 0, 1, 2, 3, 4] rfl rfl rfl rfl (by decide) rfl (fun _ => rfl) (fun r_130 u_130 H_130 locs_130 hw_130 hP_130 hD_130 hS_130 => ?_)
                    obtain rfl := hw_130
                    replace hP : va_P G.1 vwCl [(h, .inr (1, [.ref tx1, .ref sc, .ref st, .int (nI (64 + k))])), (tx1, .inl (G.2.1, 128, .inl (nb T1))), (sc, .inl (G.2.1, 64, .inl jS2_5)), (st, .inl (G.2.1, 8, .inl (shaW (((kpad key (UInt8.ofNat 54) ++ bl 4 (nB i)) ++ bl (2 + (g (a + 1)).toNat) (rcf g a)) ++ bl 8 bf)))), (c, .inr (2, [.ref ko, .int (nI i)])), (ko, .inl (G.2.1, 16, .inl (nb key))), (d, .inr (0, [.ref o, .int (nI m), .int (nI y)])), (o, .inl (G.2.1, 1200, .inl (nb g))), (r, .inl (G.2.1, 8, .inl (nb bf)))] H_130 := hP_130
                    replace hD : va_D A [(h, .inr (1, [.ref tx1, .ref sc, .ref st, .int (nI (64 + k))])), (tx1, .inl (G.2.1, 128, .inl (nb T1))), (sc, .inl (G.2.1, 64, .inl jS2_5)), (st, .inl (G.2.1, 8, .inl (shaW (((kpad key (UInt8.ofNat 54) ++ bl 4 (nB i)) ++ bl (2 + (g (a + 1)).toNat) (rcf g a)) ++ bl 8 bf)))), (c, .inr (2, [.ref ko, .int (nI i)])), (ko, .inl (G.2.1, 16, .inl (nb key))), (d, .inr (0, [.ref o, .int (nI m), .int (nI y)])), (o, .inl (G.2.1, 1200, .inl (nb g))), (r, .inl (G.2.1, 8, .inl (nb bf)))] := hD_130
                    replace hS : va_S A sv.heap H_130 locs_130 := hS_130
                    clear hP_130 hD_130 hS_130
                    refine fcVV (As := [.int (bI (dgB (shaW (((kpad key (UInt8.ofNat 54) ++ bl 4 (nB i)) ++ bl (2 + (g (a + 1)).toNat) (rcf g a)) ++ bl 8 bf)) k))]) (rest := []) (wr := [(c, .inr (2, [.ref ko, .int (nI i)])), (ko, .inl (G.2.1, 16, .inl (nb key))), (d, .inr (0, [.ref o, .int (nI m), .int (nI y)])), (o, .inl (G.2.1, 1200, .inl (nb g))), (r, .inl (G.2.1, 8, .inl (nb bf)))]) (ws1 := fun (u : Unit) => [(h, .inr (1, [.ref tx1, .ref sc, .ref st, .int (nI ((64 + k) + 1))])), (tx1, .inl (G.2.1, 128, .inl (nb (upb T1 (64 + k) (toB (bI (dgB (shaW (((kpad key (UInt8.ofNat 54) ++ bl 4 (nB i)) ++ bl (2 + (g (a + 1)).toNat) (rcf g a)) ++ bl 8 bf)) k))))))), (sc, .inl (G.2.1, 64, .inl jS2_5)), (st, .inl (G.2.1, 8, .inl (shaW (((kpad key (UInt8.ofNat 54) ++ bl 4 (nB i)) ++ bl (2 + (g (a + 1)).toNat) (rcf g a)) ++ bl 8 bf)))), (c, .inr (2, [.ref ko, .int (nI i)])), (ko, .inl (G.2.1, 16, .inl (nb key))), (d, .inr (0, [.ref o, .int (nI m), .int (nI y)])), (o, .inl (G.2.1, 1200, .inl (nb g))), (r, .inl (G.2.1, 8, .inl (nb bf)))]) ⟨hx, hb, hml, hown, hts⟩ hK hE hP hD hS hA hl.1 (kX1_put l G h tx1 sc st T1 (64 + k) jS2_5 (shaW (((kpad key (UInt8.ofNat 54) ++ bl 4 (nB i)) ++ bl (2 + (g (a + 1)).toNat) (rcf g a)) ++ bl 8 bf)) (bI (dgB (shaW (((kpad key (UInt8.ofNat 54) ++ bl 4 (nB i)) ++ bl (2 + (g (a + 1)).toNat) (rcf g a)) ++ bl 8 bf)) k)) (by omega)) (cwV 1 hts (gdV wm_57 wm_58 wm_59 wm_56 wm_49) rfl rfl rfl (by decide +kernel) ⟨Nat.le_of_ble_eq_true rfl, Nat.le_of_ble_eq_true rfl⟩) 0 rfl rfl rfl rfl (Nat.le_of_ble_eq_true rfl) dX1_makeTag_133 ⟨Nat.le_of_ble_eq_true rfl, Nat.le_of_ble_eq_true rfl⟩ [0, 1, 2, 3] [4, 5, 6, 7, 8] [5, 6, 7, 8, 0, 1, 2, 3, 4] rfl rfl rfl rfl (by decide) rfl (fun _ => rfl) (fun u_133 H_133 locs_133 hw_133 hP_133 hD_133 hS_133 => ?_)
                    replace hP : va_P G.1 vwCl [(h, .inr (1, [.ref tx1, .ref sc, .ref st, .int (nI ((64 + k) + 1))])), (tx1, .inl (G.2.1, 128, .inl (nb (upb T1 (64 + k) (toB (bI (dgB (shaW (((kpad key (UInt8.ofNat 54) ++ bl 4 (nB i)) ++ bl (2 + (g (a + 1)).toNat) (rcf g a)) ++ bl 8 bf)) k))))))), (sc, .inl (G.2.1, 64, .inl jS2_5)), (st, .inl (G.2.1, 8, .inl (shaW (((kpad key (UInt8.ofNat 54) ++ bl 4 (nB i)) ++ bl (2 + (g (a + 1)).toNat) (rcf g a)) ++ bl 8 bf)))), (c, .inr (2, [.ref ko, .int (nI i)])), (ko, .inl (G.2.1, 16, .inl (nb key))), (d, .inr (0, [.ref o, .int (nI m), .int (nI y)])), (o, .inl (G.2.1, 1200, .inl (nb g))), (r, .inl (G.2.1, 8, .inl (nb bf)))] H_133 := hP_133
                    replace hD : va_D A [(h, .inr (1, [.ref tx1, .ref sc, .ref st, .int (nI ((64 + k) + 1))])), (tx1, .inl (G.2.1, 128, .inl (nb (upb T1 (64 + k) (toB (bI (dgB (shaW (((kpad key (UInt8.ofNat 54) ++ bl 4 (nB i)) ++ bl (2 + (g (a + 1)).toNat) (rcf g a)) ++ bl 8 bf)) k))))))), (sc, .inl (G.2.1, 64, .inl jS2_5)), (st, .inl (G.2.1, 8, .inl (shaW (((kpad key (UInt8.ofNat 54) ++ bl 4 (nB i)) ++ bl (2 + (g (a + 1)).toNat) (rcf g a)) ++ bl 8 bf)))), (c, .inr (2, [.ref ko, .int (nI i)])), (ko, .inl (G.2.1, 16, .inl (nb key))), (d, .inr (0, [.ref o, .int (nI m), .int (nI y)])), (o, .inl (G.2.1, 1200, .inl (nb g))), (r, .inl (G.2.1, 8, .inl (nb bf)))] := hD_133
                    replace hS : va_S A sv.heap H_133 locs_133 := hS_133
                    clear hP_133 hD_133 hS_133
                    refine lv_iinc (v := nI (k + 1)) (lv' := [(6, .int (nI (k + 1))), (0, .ref h), (1, .ref c), (2, .ref d), (3, .int (nI a)), (4, .ref r)]) hx hb dX1_makeTag_136 hl (k := 5) rfl (f_inc1 _) (by decide) rfl (fun ls hl2 => ?_)
                    replace hl := hl2; clear hl2
                    refine lv_goto (tgt := 119) hx hb dX1_makeTag_139 (by decide) ?_
                    exact ih_119 (k + 1) (upb T1 (64 + k) (toB (bI (dgB (shaW (((kpad key (UInt8.ofNat 54) ++ bl 4 (nB i)) ++ bl (2 + (g (a + 1)).toNat) (rcf g a)) ++ bl 8 bf)) k)))) _ _ _ (by omega) (by omega) (tx_step (f := dgB (shaW (((kpad key (UInt8.ofNat 54) ++ bl 4 (nB i)) ++ bl (2 + (g (a + 1)).toNat) (rcf g a)) ++ bl 8 bf))) hT1 (by simp only [kpad_len]) (toB_bI _)) hP hD hS (lv_sub hl [1, 2, 3, 4, 5, 0] rfl)
              exact L_119 ((33 - 0) + 1) 0 jT2_6 _ _ _ (Nat.lt_succ_self _) (by omega) hT0 hP hD hS (lv_sub hl [1, 2, 3, 4, 5, 0] rfl)
            · skip
              refine lv_iload hx hb dX1_makeTag_82 (lv_at hl 5 rfl) ?_
              refine lv_aload hx hb dX1_makeTag_84 (lv_at hl 4 rfl) ?_
              refine va_alen (x := _) (v := nI 8) hx hb hK hP 8 0 rfl rfl rfl dX1_makeTag_86 ?_
              refine f_icmp_ge (tgt := 105) (by omega) (by omega) hx hb dX1_makeTag_87 (by decide) (fun c_87 => ?_) (fun c_87 => ?_)
              · skip
                exfalso; omega
              · skip
                refine lv_aload_n hx hb dX1_makeTag_90 rfl (lv_at hl 0 rfl) ?_
                refine lv_aload hx hb dX1_makeTag_91 (lv_at hl 4 rfl) ?_
                refine lv_iload hx hb dX1_makeTag_93 (lv_at hl 5 rfl) ?_
                refine f_iald (v := bI (bf k)) hx hb hK hP 8 rfl (by omega) (by decide) rfl dX1_makeTag_95 ?_
                refine fcVV (As := [.int (bI (bf k))]) (rest := []) (wr := [(c, .inr (2, [.ref ko, .int (nI i)])), (ko, .inl (G.2.1, 16, .inl (nb key))), (d, .inr (0, [.ref o, .int (nI m), .int (nI y)])), (o, .inl (G.2.1, 1200, .inl (nb g))), (r, .inl (G.2.1, 8, .inl (nb bf)))]) (ws1 := fun (u : Unit) => [(h, .inr (1, [.ref tx1, .ref sc, .ref st, .int (nI ((68 + (2 + (g (a + 1)).toNat) + k) + 1))])), (tx1, .inl (G.2.1, 128, .inl (nb (upb T1 (68 + (2 + (g (a + 1)).toNat) + k) (toB (bI (bf k))))))), (sc, .inl (G.2.1, 64, .inl S)), (st, .inl (G.2.1, 8, .inl v)), (c, .inr (2, [.ref ko, .int (nI i)])), (ko, .inl (G.2.1, 16, .inl (nb key))), (d, .inr (0, [.ref o, .int (nI m), .int (nI y)])), (o, .inl (G.2.1, 1200, .inl (nb g))), (r, .inl (G.2.1, 8, .inl (nb bf)))]) ⟨hx, hb, hml, hown, hts⟩ hK hE hP hD hS hA hl.1 (kX1_put l G h tx1 sc st T1 (68 + (2 + (g (a + 1)).toNat) + k) S v (bI (bf k)) (by omega)) (cwV 1 hts (gdV wm_57 wm_58 wm_59 wm_56 wm_49) rfl rfl rfl (by decide +kernel) ⟨Nat.le_of_ble_eq_true rfl, Nat.le_of_ble_eq_true rfl⟩) 0 rfl rfl rfl rfl (Nat.le_of_ble_eq_true rfl) dX1_makeTag_96 ⟨Nat.le_of_ble_eq_true rfl, Nat.le_of_ble_eq_true rfl⟩ [0, 1, 2, 3] [4, 5, 6, 7, 8] [5, 6, 7, 8, 0, 1, 2, 3, 4] rfl rfl rfl rfl (by decide) rfl (fun _ => rfl) (fun u_96 H_96 locs_96 hw_96 hP_96 hD_96 hS_96 => ?_)
                replace hP : va_P G.1 vwCl [(h, .inr (1, [.ref tx1, .ref sc, .ref st, .int (nI ((68 + (2 + (g (a + 1)).toNat) + k) + 1))])), (tx1, .inl (G.2.1, 128, .inl (nb (upb T1 (68 + (2 + (g (a + 1)).toNat) + k) (toB (bI (bf k))))))), (sc, .inl (G.2.1, 64, .inl S)), (st, .inl (G.2.1, 8, .inl v)), (c, .inr (2, [.ref ko, .int (nI i)])), (ko, .inl (G.2.1, 16, .inl (nb key))), (d, .inr (0, [.ref o, .int (nI m), .int (nI y)])), (o, .inl (G.2.1, 1200, .inl (nb g))), (r, .inl (G.2.1, 8, .inl (nb bf)))] H_96 := hP_96
                replace hD : va_D A [(h, .inr (1, [.ref tx1, .ref sc, .ref st, .int (nI ((68 + (2 + (g (a + 1)).toNat) + k) + 1))])), (tx1, .inl (G.2.1, 128, .inl (nb (upb T1 (68 + (2 + (g (a + 1)).toNat) + k) (toB (bI (bf k))))))), (sc, .inl (G.2.1, 64, .inl S)), (st, .inl (G.2.1, 8, .inl v)), (c, .inr (2, [.ref ko, .int (nI i)])), (ko, .inl (G.2.1, 16, .inl (nb key))), (d, .inr (0, [.ref o, .int (nI m), .int (nI y)])), (o, .inl (G.2.1, 1200, .inl (nb g))), (r, .inl (G.2.1, 8, .inl (nb bf)))] := hD_96
                replace hS : va_S A sv.heap H_96 locs_96 := hS_96
                clear hP_96 hD_96 hS_96
                refine lv_iinc (v := nI (k + 1)) (lv' := [(6, .int (nI (k + 1))), (0, .ref h), (1, .ref c), (2, .ref d), (3, .int (nI a)), (4, .ref r)]) hx hb dX1_makeTag_99 hl (k := 5) rfl (f_inc1 _) (by decide) rfl (fun ls hl2 => ?_)
                replace hl := hl2; clear hl2
                refine lv_goto (tgt := 75) hx hb dX1_makeTag_102 (by decide) ?_
                exact ih_75 (k + 1) (upb T1 (68 + (2 + (g (a + 1)).toNat) + k) (toB (bI (bf k)))) _ _ _ (by omega) (by omega) (tx_step (f := bf) hT1 (by simp only [List.length_append, kpad_len, bl_len]) (toB_bI _)) hP hD hS (lv_sub hl [1, 2, 3, 4, 5, 0] rfl)
        exact L_75 ((9 - 0) + 1) 0 T1 _ _ _ (Nat.lt_succ_self _) (by omega) (tx_bl0 hT1) hP hD hS (lv_sub hl [1, 2, 3, 4, 5, 0] rfl)
      · skip
        refine lv_aload_n hx hb dX1_makeTag_54 rfl (lv_at hl 0 rfl) ?_
        refine lv_aload_n hx hb dX1_makeTag_55 rfl (lv_at hl 2 rfl) ?_
        refine lv_iload_n hx hb dX1_makeTag_56 rfl (lv_at hl 3 rfl) ?_
        refine lv_iload hx hb dX1_makeTag_57 (lv_at hl 6 rfl) ?_
        refine lv_iadd hx hb dX1_makeTag_59 ?_
        refine f_top (y := nI (a + k)) (nI_add _ _) ?_
        refine fcVI (As := [.int (nI (a + k))]) (rest := [.ref h]) (wr := [(h, .inr (1, [.ref tx1, .ref sc, .ref st, .int (nI (68 + k))])), (tx1, .inl (G.2.1, 128, .inl (nb T1))), (sc, .inl (G.2.1, 64, .inl S)), (st, .inl (G.2.1, 8, .inl v)), (c, .inr (2, [.ref ko, .int (nI i)])), (ko, .inl (G.2.1, 16, .inl (nb key))), (r, .inl (G.2.1, 8, .inl (nb bf)))]) (ws1 := fun (u : Unit) => [(h, .inr (1, [.ref tx1, .ref sc, .ref st, .int (nI (68 + k))])), (tx1, .inl (G.2.1, 128, .inl (nb T1))), (sc, .inl (G.2.1, 64, .inl S)), (st, .inl (G.2.1, 8, .inl v)), (c, .inr (2, [.ref ko, .int (nI i)])), (ko, .inl (G.2.1, 16, .inl (nb key))), (d, .inr (0, [.ref o, .int (nI m), .int (nI y)])), (o, .inl (G.2.1, 1200, .inl (nb g))), (r, .inl (G.2.1, 8, .inl (nb bf)))]) ⟨hx, hb, hml, hown, hts⟩ hK hE hP hD hS hA hl.1 (kX0_octetAt_in l G d o g m y (a + k) (by omega) (by omega)) (cwV 1 hts (gdV wm_77 wm_20 wm_21 wm_15 wm_11) rfl rfl rfl (by decide +kernel) ⟨Nat.le_of_ble_eq_true rfl, Nat.le_of_ble_eq_true rfl⟩) 6 rfl rfl rfl rfl (Nat.le_of_ble_eq_true rfl) dX1_makeTag_60 ⟨Nat.le_of_ble_eq_true rfl, Nat.le_of_ble_eq_true rfl⟩ [6, 7] [0, 1, 2, 3, 4, 5, 8] [0, 1, 2, 3, 4, 5, 7, 8, 6] rfl rfl rfl rfl (by decide) rfl (fun _ => rfl) (fun r_60 u_60 H_60 locs_60 hw_60 hP_60 hD_60 hS_60 => ?_)
        obtain rfl := hw_60
        replace hP : va_P G.1 vwCl [(h, .inr (1, [.ref tx1, .ref sc, .ref st, .int (nI (68 + k))])), (tx1, .inl (G.2.1, 128, .inl (nb T1))), (sc, .inl (G.2.1, 64, .inl S)), (st, .inl (G.2.1, 8, .inl v)), (c, .inr (2, [.ref ko, .int (nI i)])), (ko, .inl (G.2.1, 16, .inl (nb key))), (d, .inr (0, [.ref o, .int (nI m), .int (nI y)])), (o, .inl (G.2.1, 1200, .inl (nb g))), (r, .inl (G.2.1, 8, .inl (nb bf)))] H_60 := hP_60
        replace hD : va_D A [(h, .inr (1, [.ref tx1, .ref sc, .ref st, .int (nI (68 + k))])), (tx1, .inl (G.2.1, 128, .inl (nb T1))), (sc, .inl (G.2.1, 64, .inl S)), (st, .inl (G.2.1, 8, .inl v)), (c, .inr (2, [.ref ko, .int (nI i)])), (ko, .inl (G.2.1, 16, .inl (nb key))), (d, .inr (0, [.ref o, .int (nI m), .int (nI y)])), (o, .inl (G.2.1, 1200, .inl (nb g))), (r, .inl (G.2.1, 8, .inl (nb bf)))] := hD_60
        replace hS : va_S A sv.heap H_60 locs_60 := hS_60
        clear hP_60 hD_60 hS_60
        refine fcVV (As := [.int (bI (g (a + k)))]) (rest := []) (wr := [(c, .inr (2, [.ref ko, .int (nI i)])), (ko, .inl (G.2.1, 16, .inl (nb key))), (d, .inr (0, [.ref o, .int (nI m), .int (nI y)])), (o, .inl (G.2.1, 1200, .inl (nb g))), (r, .inl (G.2.1, 8, .inl (nb bf)))]) (ws1 := fun (u : Unit) => [(h, .inr (1, [.ref tx1, .ref sc, .ref st, .int (nI ((68 + k) + 1))])), (tx1, .inl (G.2.1, 128, .inl (nb (upb T1 (68 + k) (toB (bI (g (a + k)))))))), (sc, .inl (G.2.1, 64, .inl S)), (st, .inl (G.2.1, 8, .inl v)), (c, .inr (2, [.ref ko, .int (nI i)])), (ko, .inl (G.2.1, 16, .inl (nb key))), (d, .inr (0, [.ref o, .int (nI m), .int (nI y)])), (o, .inl (G.2.1, 1200, .inl (nb g))), (r, .inl (G.2.1, 8, .inl (nb bf)))]) ⟨hx, hb, hml, hown, hts⟩ hK hE hP hD hS hA hl.1 (kX1_put l G h tx1 sc st T1 (68 + k) S v (bI (g (a + k))) (by omega)) (cwV 1 hts (gdV wm_57 wm_58 wm_59 wm_56 wm_49) rfl rfl rfl (by decide +kernel) ⟨Nat.le_of_ble_eq_true rfl, Nat.le_of_ble_eq_true rfl⟩) 0 rfl rfl rfl rfl (Nat.le_of_ble_eq_true rfl) dX1_makeTag_63 ⟨Nat.le_of_ble_eq_true rfl, Nat.le_of_ble_eq_true rfl⟩ [0, 1, 2, 3] [4, 5, 6, 7, 8] [5, 6, 7, 8, 0, 1, 2, 3, 4] rfl rfl rfl rfl (by decide) rfl (fun _ => rfl) (fun u_63 H_63 locs_63 hw_63 hP_63 hD_63 hS_63 => ?_)
        replace hP : va_P G.1 vwCl [(h, .inr (1, [.ref tx1, .ref sc, .ref st, .int (nI ((68 + k) + 1))])), (tx1, .inl (G.2.1, 128, .inl (nb (upb T1 (68 + k) (toB (bI (g (a + k)))))))), (sc, .inl (G.2.1, 64, .inl S)), (st, .inl (G.2.1, 8, .inl v)), (c, .inr (2, [.ref ko, .int (nI i)])), (ko, .inl (G.2.1, 16, .inl (nb key))), (d, .inr (0, [.ref o, .int (nI m), .int (nI y)])), (o, .inl (G.2.1, 1200, .inl (nb g))), (r, .inl (G.2.1, 8, .inl (nb bf)))] H_63 := hP_63
        replace hD : va_D A [(h, .inr (1, [.ref tx1, .ref sc, .ref st, .int (nI ((68 + k) + 1))])), (tx1, .inl (G.2.1, 128, .inl (nb (upb T1 (68 + k) (toB (bI (g (a + k)))))))), (sc, .inl (G.2.1, 64, .inl S)), (st, .inl (G.2.1, 8, .inl v)), (c, .inr (2, [.ref ko, .int (nI i)])), (ko, .inl (G.2.1, 16, .inl (nb key))), (d, .inr (0, [.ref o, .int (nI m), .int (nI y)])), (o, .inl (G.2.1, 1200, .inl (nb g))), (r, .inl (G.2.1, 8, .inl (nb bf)))] := hD_63
        replace hS : va_S A sv.heap H_63 locs_63 := hS_63
        clear hP_63 hD_63 hS_63
        refine lv_iinc (v := nI (k + 1)) (lv' := [(6, .int (nI (k + 1))), (0, .ref h), (1, .ref c), (2, .ref d), (3, .int (nI a)), (4, .ref r), (5, .int (bI (g (a + 1))))]) hx hb dX1_makeTag_66 hl (k := 6) rfl (f_inc1 _) (by decide) rfl (fun ls hl2 => ?_)
        replace hl := hl2; clear hl2
        refine lv_goto (tgt := 45) hx hb dX1_makeTag_69 (by decide) ?_
        exact ih_45 (k + 1) (upb T1 (68 + k) (toB (bI (g (a + k))))) _ _ _ (by omega) (by omega) (tx_step (f := (rcf g a)) hT1 (by simp only [List.length_append, kpad_len, bl_len]) (toB_bI _)) hP hD hS (lv_sub hl [1, 2, 3, 4, 5, 6, 0] rfl)
  exact L_45 ((43 - 0) + 1) 0 (upb (upb (upb (upb jT2_1 64 (toB (f_ush (nI i) (nI 24)))) (64 + 1) (toB (f_ush (nI i) (nI 16)))) ((64 + 1) + 1) (toB (f_ush (nI i) (nI 8)))) (((64 + 1) + 1) + 1) (toB (f_ush (nI i) (nI 0)))) _ _ _ (Nat.lt_succ_self _) (by omega) (tx_bl0 hT0) hP hD hS (lv_sub hl [2, 3, 4, 5, 6, 1, 0] rfl)
