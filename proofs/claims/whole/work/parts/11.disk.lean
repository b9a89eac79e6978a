set_option maxRecDepth 100000 in
set_option maxHeartbeats 4000000 in
theorem kX0_cutTo (l : Launch) (G : fG) (d : Nat) (o : Nat) (g : Nat → UInt8) (n : Nat) (y : Nat) (a : Nat)  : fMV l yX0_cutTo (.code yX0_cutTo cX0_cutTo 2 none :: wsA) ({ frames := 0, cells := 0, slots := 0, locals := 0 } : Room) G [.ref d, .int (nI a)] [(d, .inr (0, [.ref o, .int (nI n), .int (nI y)])), (o, .inl (G.2.1, 1200, .inl (nb g)))] (fun (u : Unit) => True) (fun (u : Unit) => [(d, .inr (0, [.ref o, .int (nI a), .int (nI a)])), (o, .inl (G.2.1, 1200, .inl (nb g)))]) 0 0 := by
  refine fV_start (cc := cX0_cutTo) (maxL := 2) (by decide) rfl (Nat.le_of_ble_eq_true rfl) ?_
  intro prg env sv mid args below meth cd A Q ls hx hb hml hown hts hin hK hP hD hE hA hS hl hend
  replace hown : sv.vm.findClass RX0 = some mid.cls := hown
  replace hP : va_P G.1 vwCl [(d, .inr (0, [.ref o, .int (nI n), .int (nI y)])), (o, .inl (G.2.1, 1200, .inl (nb g)))] sv.heap := hP
  replace hl : lv_has ls 2 [(0, .ref d), (1, .int (nI a))] := hl
  refine lv_aload_n hx hb dX0_cutTo_0 rfl (lv_at hl 0 rfl) ?_
  refine lv_iload_n hx hb dX0_cutTo_1 rfl (lv_at hl 1 rfl) ?_
  refine va_put (D := G.1) (ci := 0) (v := .int (nI a)) (ty := .int) (C := RX0) (T := TX0) (N := 3) hx hb hts in_wsX00 tyX0 tyX0_ok nmX0 hown hK hP hD hS 0 rfl rfl 1 (by decide) (hts _ wm_6) (fun _ h9 => h9) rfl (by decide +kernel) rfl rfl (Nat.le_of_ble_eq_true rfl) dX0_cutTo_2 (fun H_2 locs_2 hP_2 hD_2 hS_2 => ?_)
  replace hP : va_P G.1 vwCl [(d, .inr (0, [.ref o, .int (nI a), .int (nI y)])), (o, .inl (G.2.1, 1200, .inl (nb g)))] H_2 := hP_2
  replace hD : va_D A [(d, .inr (0, [.ref o, .int (nI a), .int (nI y)])), (o, .inl (G.2.1, 1200, .inl (nb g)))] := hD_2
  replace hS : va_S A sv.heap H_2 locs_2 := hS_2
  clear hP_2 hD_2 hS_2
  refine lv_aload_n hx hb dX0_cutTo_5 rfl (lv_at hl 0 rfl) ?_
  refine lv_iload_n hx hb dX0_cutTo_6 rfl (lv_at hl 1 rfl) ?_
  refine va_put (D := G.1) (ci := 0) (v := .int (nI a)) (ty := .int) (C := RX0) (T := TX0) (N := 3) hx hb hts in_wsX00 tyX0 tyX0_ok nmX0 hown hK hP hD hS 0 rfl rfl 2 (by decide) (hts _ wm_7) (fun _ h9 => h9) rfl (by decide +kernel) rfl rfl (Nat.le_of_ble_eq_true rfl) dX0_cutTo_7 (fun H_7 locs_7 hP_7 hD_7 hS_7 => ?_)
  replace hP : va_P G.1 vwCl [(d, .inr (0, [.ref o, .int (nI a), .int (nI a)])), (o, .inl (G.2.1, 1200, .inl (nb g)))] H_7 := hP_7
  replace hD : va_D A [(d, .inr (0, [.ref o, .int (nI a), .int (nI a)])), (o, .inl (G.2.1, 1200, .inl (nb g)))] := hD_7
  replace hS : va_S A sv.heap H_7 locs_7 := hS_7
  clear hP_7 hD_7 hS_7
  exact hend () _ _ _ _ trivial hP hD hS dX0_cutTo_10

set_option maxRecDepth 100000 in
set_option maxHeartbeats 4000000 in
theorem kX0_add (l : Launch) (G : fG) (d : Nat) (o : Nat) (g : Nat → UInt8) (n : Nat) (y : Nat) (x : Int32) (hn : n < 1200) : fMV l yX0_add (.code yX0_add cX0_add 2 none :: wsA) ({ frames := 0, cells := 0, slots := 0, locals := 0 } : Room) G [.ref d, .int x] [(d, .inr (0, [.ref o, .int (nI n), .int (nI y)])), (o, .inl (G.2.1, 1200, .inl (nb g)))] (fun (u : Unit) => True) (fun (u : Unit) => [(d, .inr (0, [.ref o, .int (nI (n + 1)), .int (nI y)])), (o, .inl (G.2.1, 1200, .inl (nb (upb g n (toB x)))))]) 0 0 := by
  refine fV_start (cc := cX0_add) (maxL := 2) (by decide) rfl (Nat.le_of_ble_eq_true rfl) ?_
  intro prg env sv mid args below meth cd A Q ls hx hb hml hown hts hin hK hP hD hE hA hS hl hend
  replace hown : sv.vm.findClass RX0 = some mid.cls := hown
  replace hP : va_P G.1 vwCl [(d, .inr (0, [.ref o, .int (nI n), .int (nI y)])), (o, .inl (G.2.1, 1200, .inl (nb g)))] sv.heap := hP
  replace hl : lv_has ls 2 [(0, .ref d), (1, .int x)] := hl
  refine lv_aload_n hx hb dX0_add_0 rfl (lv_at hl 0 rfl) ?_
  refine va_get (D := G.1) (ci := 0) (v := .int (nI n)) (C := RX0) (T := TX0) (N := 3) hx hb hts in_wsX00 hown hK hP 0 rfl rfl 1 (by decide) (hts _ wm_6) (fun _ h9 => h9) rfl dX0_add_1 ?_
  refine f_if_lt (tgt := 43) (by omega) hx hb dX0_add_4 (by decide) ?_
  refine lv_aload_n hx hb dX0_add_7 rfl (lv_at hl 0 rfl) ?_
  refine va_get (D := G.1) (ci := 0) (v := .int (nI n)) (C := RX0) (T := TX0) (N := 3) hx hb hts in_wsX00 hown hK hP 0 rfl rfl 1 (by decide) (hts _ wm_6) (fun _ h9 => h9) rfl dX0_add_8 ?_
  refine lv_aload_n hx hb dX0_add_11 rfl (lv_at hl 0 rfl) ?_
  refine va_get (D := G.1) (ci := 0) (v := .ref o) (C := RX0) (T := TX0) (N := 3) hx hb hts in_wsX00 hown hK hP 0 rfl rfl 0 (by decide) (hts _ wm_5) (fun _ h9 => h9) rfl dX0_add_12 ?_
  refine va_alen (x := _) (v := nI 1200) hx hb hK hP 1 0 rfl rfl rfl dX0_add_15 ?_
  refine f_icmp_ge (tgt := 43) (by omega) (by omega) hx hb dX0_add_16 (by decide) (fun c_16 => ?_) (fun c_16 => ?_)
  · skip
    exfalso; omega
  · skip
    refine lv_aload_n hx hb dX0_add_19 rfl (lv_at hl 0 rfl) ?_
    refine va_get (D := G.1) (ci := 0) (v := .ref o) (C := RX0) (T := TX0) (N := 3) hx hb hts in_wsX00 hown hK hP 0 rfl rfl 0 (by decide) (hts _ wm_5) (fun _ h9 => h9) rfl dX0_add_20 ?_
    refine lv_aload_n hx hb dX0_add_23 rfl (lv_at hl 0 rfl) ?_
    refine va_get (D := G.1) (ci := 0) (v := .int (nI n)) (C := RX0) (T := TX0) (N := 3) hx hb hts in_wsX00 hown hK hP 0 rfl rfl 1 (by decide) (hts _ wm_6) (fun _ h9 => h9) rfl dX0_add_24 ?_
    refine lv_iload_n hx hb dX0_add_27 rfl (lv_at hl 1 rfl) ?_
    refine lv_sipush (v := nI 255) hx hb dX0_add_28 (by decide) ?_
    refine lv_iand hx hb dX0_add_31 ?_
    refine f_top (y := bI (toB x)) (f_255 _) ?_
    refine f_iast hx hb hK hP hD hS 1 rfl (by omega) (by decide) dX0_add_32 (fun H_32 locs_32 hP_32 hD_32 hS_32 => ?_)
    replace hP_32 : va_P G.1 vwCl [(d, .inr (0, [.ref o, .int (nI n), .int (nI y)])), (o, .inl (G.2.1, 1200, .inl (nb (upb g n (toB x)))))] H_32 := by have h9 := hP_32; rw [upd_nb] at h9; exact h9
    replace hD_32 : va_D A [(d, .inr (0, [.ref o, .int (nI n), .int (nI y)])), (o, .inl (G.2.1, 1200, .inl (nb (upb g n (toB x)))))] := hD.set (p := 1) rfl
    replace hP : va_P G.1 vwCl [(d, .inr (0, [.ref o, .int (nI n), .int (nI y)])), (o, .inl (G.2.1, 1200, .inl (nb (upb g n (toB x)))))] H_32 := hP_32
    replace hD : va_D A [(d, .inr (0, [.ref o, .int (nI n), .int (nI y)])), (o, .inl (G.2.1, 1200, .inl (nb (upb g n (toB x)))))] := hD_32
    replace hS : va_S A sv.heap H_32 locs_32 := hS_32
    clear hP_32 hD_32 hS_32
    refine lv_aload_n hx hb dX0_add_33 rfl (lv_at hl 0 rfl) ?_
    refine lv_dup hx hb dX0_add_34 rfl ?_
    refine va_get (D := G.1) (ci := 0) (v := .int (nI n)) (C := RX0) (T := TX0) (N := 3) hx hb hts in_wsX00 hown hK hP 0 rfl rfl 1 (by decide) (hts _ wm_6) (fun _ h9 => h9) rfl dX0_add_35 ?_
    refine lv_iconst (v := nI 1) hx hb dX0_add_38 (by decide) ?_
    refine lv_iadd hx hb dX0_add_39 ?_
    refine f_top (y := nI (n + 1)) (nI_add _ _) ?_
    refine va_put (D := G.1) (ci := 0) (v := .int (nI (n + 1))) (ty := .int) (C := RX0) (T := TX0) (N := 3) hx hb hts in_wsX00 tyX0 tyX0_ok nmX0 hown hK hP hD hS 0 rfl rfl 1 (by decide) (hts _ wm_6) (fun _ h9 => h9) rfl (by decide +kernel) rfl rfl (Nat.le_of_ble_eq_true rfl) dX0_add_40 (fun H_40 locs_40 hP_40 hD_40 hS_40 => ?_)
    replace hP : va_P G.1 vwCl [(d, .inr (0, [.ref o, .int (nI (n + 1)), .int (nI y)])), (o, .inl (G.2.1, 1200, .inl (nb (upb g n (toB x)))))] H_40 := hP_40
    replace hD : va_D A [(d, .inr (0, [.ref o, .int (nI (n + 1)), .int (nI y)])), (o, .inl (G.2.1, 1200, .inl (nb (upb g n (toB x)))))] := hD_40
    replace hS : va_S A sv.heap H_40 locs_40 := hS_40
    clear hP_40 hD_40 hS_40
    exact hend () _ _ _ _ trivial hP hD hS dX0_add_43

set_option maxRecDepth 100000 in
set_option maxHeartbeats 4000000 in
theorem kX0_has (l : Launch) (G : fG) (d : Nat) (o : Nat) (g : Nat → UInt8) (n : Nat) (y : Nat) (x : Int32) (hn : n ≤ 1200) : fMI l yX0_has (.code yX0_has cX0_has 2 (some .boolean) :: wsA) ({ frames := 0, cells := 0, slots := 0, locals := 0 } : Room) G [.ref d, .int x] [(d, .inr (0, [.ref o, .int (nI n), .int (nI y)])), (o, .inl (G.2.1, 1200, .inl (nb g)))] (fun (r9 : Int32) (u : Unit) => r9 = f_b (hasB n x)) (fun (u : Unit) => [(d, .inr (0, [.ref o, .int (nI n), .int (nI y)])), (o, .inl (G.2.1, 1200, .inl (nb g)))]) 0 0 := by
  refine fI_start (cc := cX0_has) (maxL := 2) (by decide) rfl (Nat.le_of_ble_eq_true rfl) ?_
  intro prg env sv mid args below meth cd A Q ls hx hb hml hown hts hin hK hP hD hE hA hS hl hend
  replace hown : sv.vm.findClass RX0 = some mid.cls := hown
  replace hP : va_P G.1 vwCl [(d, .inr (0, [.ref o, .int (nI n), .int (nI y)])), (o, .inl (G.2.1, 1200, .inl (nb g)))] sv.heap := hP
  replace hl : lv_has ls 2 [(0, .ref d), (1, .int x)] := hl
  refine lv_iload_n hx hb dX0_has_0 rfl (lv_at hl 1 rfl) ?_
  refine lv_if_lt (tgt := 25) hx hb dX0_has_1 (by decide) (fun c_1 => ?_) (fun c_1 => ?_)
  · skip
    refine lv_iconst (v := nI 0) hx hb dX0_has_25 (by decide) ?_
    exact hend (nI 0) () _ _ _ _ rfl (by rw [has_neg c_1]; rfl) hP hD hS dX0_has_26
  · skip
    refine lv_iload_n hx hb dX0_has_4 rfl (lv_at hl 1 rfl) ?_
    refine lv_aload_n hx hb dX0_has_5 rfl (lv_at hl 0 rfl) ?_
    refine va_get (D := G.1) (ci := 0) (v := .int (nI n)) (C := RX0) (T := TX0) (N := 3) hx hb hts in_wsX00 hown hK hP 0 rfl rfl 1 (by decide) (hts _ wm_6) (fun _ h9 => h9) rfl dX0_has_6 ?_
    refine lv_icmp_ge (tgt := 25) hx hb dX0_has_9 (by decide) (fun c_9 => ?_) (fun c_9 => ?_)
    · skip
      refine lv_iconst (v := nI 0) hx hb dX0_has_25 (by decide) ?_
      exact hend (nI 0) () _ _ _ _ rfl (by rw [has_ge c_9]; rfl) hP hD hS dX0_has_26
    · skip
      refine lv_iload_n hx hb dX0_has_12 rfl (lv_at hl 1 rfl) ?_
      refine lv_aload_n hx hb dX0_has_13 rfl (lv_at hl 0 rfl) ?_
      refine va_get (D := G.1) (ci := 0) (v := .ref o) (C := RX0) (T := TX0) (N := 3) hx hb hts in_wsX00 hown hK hP 0 rfl rfl 0 (by decide) (hts _ wm_5) (fun _ h9 => h9) rfl dX0_has_14 ?_
      refine va_alen (x := _) (v := nI 1200) hx hb hK hP 1 0 rfl rfl rfl dX0_has_17 ?_
      refine lv_icmp_ge (tgt := 25) hx hb dX0_has_18 (by decide) (fun c_18 => ?_) (fun c_18 => ?_)
      · skip
        exfalso; exact c_9 (Int32.le_trans (nI_le hn (by decide)) c_18)
      · skip
        refine lv_iconst (v := nI 1) hx hb dX0_has_21 (by decide) ?_
        refine lv_goto (tgt := 26) hx hb dX0_has_22 (by decide) ?_
        exact hend (nI 1) () _ _ _ _ rfl (by rw [has_yes c_1 c_9]; rfl) hP hD hS dX0_has_26

set_option maxRecDepth 100000 in
set_option maxHeartbeats 4000000 in
theorem kX4_recordSize (l : Launch) (G : fG) (a : Nat)  : fMI l yX4_recordSize (.code yX4_recordSize cX4_recordSize 1 (some .int) :: wsA) ({ frames := 0, cells := 0, slots := 0, locals := 0 } : Room) G [.int (nI a)] [] (fun (r9 : Int32) (u : Unit) => r9 = nI (10 + a)) (fun (u : Unit) => []) 0 0 := by
  refine fI_start (cc := cX4_recordSize) (maxL := 1) (by decide) rfl (Nat.le_of_ble_eq_true rfl) ?_
  intro prg env sv mid args below meth cd A Q ls hx hb hml hown hts hin hK hP hD hE hA hS hl hend
  replace hown : sv.vm.findClass RX4 = some mid.cls := hown
  replace hP : va_P G.1 vwCl [] sv.heap := hP
  replace hl : lv_has ls 1 [(0, .int (nI a))] := hl
  refine lv_iconst (v := nI 2) hx hb dX4_recordSize_0 (by decide) ?_
  refine lv_iload_n hx hb dX4_recordSize_1 rfl (lv_at hl 0 rfl) ?_
  refine lv_iadd hx hb dX4_recordSize_2 ?_
  refine f_top (y := nI (2 + a)) (nI_add _ _) ?_
  refine lv_bipush (v := nI 8) hx hb dX4_recordSize_3 (by decide) ?_
  refine lv_iadd hx hb dX4_recordSize_5 ?_
  refine f_top (y := nI (2 + a + 8)) (nI_add _ _) ?_
  exact hend (nI (2 + a + 8)) () _ _ _ _ rfl (congrArg nI (by omega)) hP hD hS dX4_recordSize_6

set_option maxRecDepth 100000 in
set_option maxHeartbeats 4000000 in
theorem kX0_octetAt (l : Launch) (G : fG) (d : Nat) (o : Nat) (g : Nat → UInt8) (n : Nat) (y : Nat) (x : Int32) (hn : n ≤ 1200) : fMI l yX0_octetAt (.code yX0_octetAt cX0_octetAt 2 (some .int) :: wsA) ({ frames := 1, cells := 0, slots := 0, locals := 21 } : Room) G [.ref d, .int x] [(d, .inr (0, [.ref o, .int (nI n), .int (nI y)])), (o, .inl (G.2.1, 1200, .inl (nb g)))] (fun (r9 : Int32) (u : Unit) => r9 = oA g n x) (fun (u : Unit) => [(d, .inr (0, [.ref o, .int (nI n), .int (nI y)])), (o, .inl (G.2.1, 1200, .inl (nb g)))]) 0 0 := by
  refine fI_start (cc := cX0_octetAt) (maxL := 2) (by decide) rfl (Nat.le_of_ble_eq_true rfl) ?_
  intro prg env sv mid args below meth cd A Q ls hx hb hml hown hts hin hK hP hD hE hA hS hl hend
  replace hown : sv.vm.findClass RX0 = some mid.cls := hown
  replace hP : va_P G.1 vwCl [(d, .inr (0, [.ref o, .int (nI n), .int (nI y)])), (o, .inl (G.2.1, 1200, .inl (nb g)))] sv.heap := hP
  replace hl : lv_has ls 2 [(0, .ref d), (1, .int x)] := hl
  refine lv_aload_n hx hb dX0_octetAt_0 rfl (lv_at hl 0 rfl) ?_
  refine lv_iload_n hx hb dX0_octetAt_1 rfl (lv_at hl 1 rfl) ?_
  refine fcVI (As := [.int x]) (rest := []) (wr := []) (ws1 := fun (u : Unit) => [(d, .inr (0, [.ref o, .int (nI n), .int (nI y)])), (o, .inl (G.2.1, 1200, .inl (nb g)))]) ⟨hx, hb, hml, hown, hts⟩ hK hE hP hD hS hA hl.1 (kX0_has l G d o g n y x (by omega)) (cwV 1 hts (gdV wm_12 wm_13 wm_14 wm_15 wm_10) rfl rfl rfl (by decide +kernel) ⟨Nat.le_of_ble_eq_true rfl, Nat.le_of_ble_eq_true rfl⟩) 0 rfl rfl rfl rfl (Nat.le_of_ble_eq_true rfl) dX0_octetAt_2 ⟨Nat.le_of_ble_eq_true rfl, Nat.le_of_ble_eq_true rfl⟩ [0, 1] [] [0, 1] rfl rfl rfl rfl (by decide) rfl (fun _ => rfl) (fun r_2 u_2 H_2 locs_2 hw_2 hP_2 hD_2 hS_2 => ?_)
  obtain rfl := hw_2
  replace hP : va_P G.1 vwCl [(d, .inr (0, [.ref o, .int (nI n), .int (nI y)])), (o, .inl (G.2.1, 1200, .inl (nb g)))] H_2 := hP_2
  replace hD : va_D A [(d, .inr (0, [.ref o, .int (nI n), .int (nI y)])), (o, .inl (G.2.1, 1200, .inl (nb g)))] := hD_2
  replace hS : va_S A sv.heap H_2 locs_2 := hS_2
  clear hP_2 hD_2 hS_2
  refine f_if_eqB (tgt := 17) hx hb dX0_octetAt_5 (by decide) (fun c_5 => ?_) (fun c_5 => ?_)
  · skip
    refine lv_iconst (v := -1) hx hb dX0_octetAt_17 (by decide) ?_
    exact hend (-1) () _ _ _ _ rfl (by unfold oA; rw [c_5]; rfl) hP hD hS dX0_octetAt_18
  · skip
    obtain ⟨a, ha, hxa⟩ := has_in hn c_5
    subst hxa
    refine lv_aload_n hx hb dX0_octetAt_8 rfl (lv_at hl 0 rfl) ?_
    refine va_get (D := G.1) (ci := 0) (v := .ref o) (C := RX0) (T := TX0) (N := 3) hx hb hts in_wsX00 hown hK hP 0 rfl rfl 0 (by decide) (hts _ wm_5) (fun _ h9 => h9) rfl dX0_octetAt_9 ?_
    refine lv_iload_n hx hb dX0_octetAt_12 rfl (lv_at hl 1 rfl) ?_
    refine f_iald (v := bI (g a)) hx hb hK hP 1 rfl (by omega) (by decide) rfl dX0_octetAt_13 ?_
    refine lv_goto (tgt := 18) hx hb dX0_octetAt_14 (by decide) ?_
    exact hend (bI (g a)) () _ _ _ _ rfl ((oA_in ha hn).symm) hP hD hS dX0_octetAt_18

theorem kX0_octetAt_in (l : Launch) (G : fG) (d : Nat) (o : Nat) (g : Nat → UInt8) (n : Nat) (y : Nat) (a : Nat) (hn : n ≤ 1200) (ha : a < n) : fMI l yX0_octetAt (.code yX0_octetAt cX0_octetAt 2 (some .int) :: wsA) ({ frames := 1, cells := 0, slots := 0, locals := 21 } : Room) G [.ref d, .int (nI a)] [(d, .inr (0, [.ref o, .int (nI n), .int (nI y)])), (o, .inl (G.2.1, 1200, .inl (nb g)))] (fun (r9 : Int32) (u : Unit) => r9 = bI (g a)) (fun (u : Unit) => [(d, .inr (0, [.ref o, .int (nI n), .int (nI y)])), (o, .inl (G.2.1, 1200, .inl (nb g)))]) 0 0 := by
  have h := kX0_octetAt l G d o g n y (nI a) hn
  rw [oA_in ha hn] at h
  exact h

theorem kX0_octetAt_out (l : Launch) (G : fG) (d : Nat) (o : Nat) (g : Nat → UInt8) (n : Nat) (y : Nat) (a : Nat) (hn : n ≤ 1200) (ha : n ≤ a) (hb : a < 2 ^ 31) : fMI l yX0_octetAt (.code yX0_octetAt cX0_octetAt 2 (some .int) :: wsA) ({ frames := 1, cells := 0, slots := 0, locals := 21 } : Room) G [.ref d, .int (nI a)] [(d, .inr (0, [.ref o, .int (nI n), .int (nI y)])), (o, .inl (G.2.1, 1200, .inl (nb g)))] (fun (r9 : Int32) (u : Unit) => r9 = -1) (fun (u : Unit) => [(d, .inr (0, [.ref o, .int (nI n), .int (nI y)])), (o, .inl (G.2.1, 1200, .inl (nb g)))]) 0 0 := by
  have h := kX0_octetAt l G d o g n y (nI a) hn
  rw [oA_out ha hb hn] at h
  exact h

set_option maxRecDepth 100000 in
set_option maxHeartbeats 4000000 in
theorem kX0_turnRound (l : Launch) (G : fG) (d : Nat) (o : Nat) (g : Nat → UInt8) (n : Nat) (y : Nat) (a : Nat) (k : Nat) (hn : n ≤ 1200) (ha : a < n) (hk : k < 8) : fMI l yX0_turnRound (.code yX0_turnRound cX0_turnRound 3 (some .int) :: wsA) ({ frames := 1, cells := 0, slots := 0, locals := 21 } : Room) G [.ref d, .int (nI a), .int (nI k)] [(d, .inr (0, [.ref o, .int (nI n), .int (nI y)])), (o, .inl (G.2.1, 1200, .inl (nb g)))] (fun (r9 : Int32) (u : Unit) => r9 = bI (bxr (g a) k)) (fun (u : Unit) => [(d, .inr (0, [.ref o, .int (nI n), .int (nI y)])), (o, .inl (G.2.1, 1200, .inl (nb (upb g a (bxr (g a) k)))))]) 0 0 := by
  refine fI_start (cc := cX0_turnRound) (maxL := 3) (by decide) rfl (Nat.le_of_ble_eq_true rfl) ?_
  intro prg env sv mid args below meth cd A Q ls hx hb hml hown hts hin hK hP hD hE hA hS hl hend
  replace hown : sv.vm.findClass RX0 = some mid.cls := hown
  replace hP : va_P G.1 vwCl [(d, .inr (0, [.ref o, .int (nI n), .int (nI y)])), (o, .inl (G.2.1, 1200, .inl (nb g)))] sv.heap := hP
  replace hl : lv_has ls 3 [(0, .ref d), (1, .int (nI a)), (2, .int (nI k))] := hl
  refine lv_aload_n hx hb dX0_turnRound_0 rfl (lv_at hl 0 rfl) ?_
  refine lv_iload_n hx hb dX0_turnRound_1 rfl (lv_at hl 1 rfl) ?_
  refine fcVI (As := [.int (nI a)]) (rest := []) (wr := []) (ws1 := fun (u : Unit) => [(d, .inr (0, [.ref o, .int (nI n), .int (nI y)])), (o, .inl (G.2.1, 1200, .inl (nb g)))]) ⟨hx, hb, hml, hown, hts⟩ hK hE hP hD hS hA hl.1 (kX0_has l G d o g n y (nI a) (by omega)) (cwV 1 hts (gdV wm_12 wm_13 wm_14 wm_15 wm_10) rfl rfl rfl (by decide +kernel) ⟨Nat.le_of_ble_eq_true rfl, Nat.le_of_ble_eq_true rfl⟩) 0 rfl rfl rfl rfl (Nat.le_of_ble_eq_true rfl) dX0_turnRound_2 ⟨Nat.le_of_ble_eq_true rfl, Nat.le_of_ble_eq_true rfl⟩ [0, 1] [] [0, 1] rfl rfl rfl rfl (by decide) rfl (fun _ => rfl) (fun r_2 u_2 H_2 locs_2 hw_2 hP_2 hD_2 hS_2 => ?_)
  obtain rfl := hw_2
  replace hP : va_P G.1 vwCl [(d, .inr (0, [.ref o, .int (nI n), .int (nI y)])), (o, .inl (G.2.1, 1200, .inl (nb g)))] H_2 := hP_2
  replace hD : va_D A [(d, .inr (0, [.ref o, .int (nI n), .int (nI y)])), (o, .inl (G.2.1, 1200, .inl (nb g)))] := hD_2
  replace hS : va_S A sv.heap H_2 locs_2 := hS_2
  clear hP_2 hD_2 hS_2
  refine f_if_neB (tgt := 10) hx hb dX0_turnRound_5 (by decide) (fun c_5 => ?_) (fun c_5 => ?_)
  · skip
    refine lv_aload_n hx hb dX0_turnRound_10 rfl (lv_at hl 0 rfl) ?_
    refine va_get (D := G.1) (ci := 0) (v := .ref o) (C := RX0) (T := TX0) (N := 3) hx hb hts in_wsX00 hown hK hP 0 rfl rfl 0 (by decide) (hts _ wm_5) (fun _ h9 => h9) rfl dX0_turnRound_11 ?_
    refine lv_iload_n hx hb dX0_turnRound_14 rfl (lv_at hl 1 rfl) ?_
    refine lv_aload_n hx hb dX0_turnRound_15 rfl (lv_at hl 0 rfl) ?_
    refine va_get (D := G.1) (ci := 0) (v := .ref o) (C := RX0) (T := TX0) (N := 3) hx hb hts in_wsX00 hown hK hP 0 rfl rfl 0 (by decide) (hts _ wm_5) (fun _ h9 => h9) rfl dX0_turnRound_16 ?_
    refine lv_iload_n hx hb dX0_turnRound_19 rfl (lv_at hl 1 rfl) ?_
    refine f_iald (v := bI (g a)) hx hb hK hP 1 rfl (by omega) (by decide) rfl dX0_turnRound_20 ?_
    refine lv_iconst (v := nI 1) hx hb dX0_turnRound_21 (by decide) ?_
    refine lv_iload_n hx hb dX0_turnRound_22 rfl (lv_at hl 2 rfl) ?_
    refine lv_ishl hx hb dX0_turnRound_23 ?_
    refine lv_ixor hx hb dX0_turnRound_24 ?_
    refine f_top (y := bI (bxr (g a) k)) (bxr_ok hk) ?_
    refine f_iast hx hb hK hP hD hS 1 rfl (by omega) (by decide) dX0_turnRound_25 (fun H_25 locs_25 hP_25 hD_25 hS_25 => ?_)
    replace hP_25 : va_P G.1 vwCl [(d, .inr (0, [.ref o, .int (nI n), .int (nI y)])), (o, .inl (G.2.1, 1200, .inl (nb (upb g a (bxr (g a) k)))))] H_25 := by have h9 := hP_25; rw [upd_nb] at h9; exact h9
    replace hD_25 : va_D A [(d, .inr (0, [.ref o, .int (nI n), .int (nI y)])), (o, .inl (G.2.1, 1200, .inl (nb (upb g a (bxr (g a) k)))))] := hD.set (p := 1) rfl
    replace hP : va_P G.1 vwCl [(d, .inr (0, [.ref o, .int (nI n), .int (nI y)])), (o, .inl (G.2.1, 1200, .inl (nb (upb g a (bxr (g a) k)))))] H_25 := hP_25
    replace hD : va_D A [(d, .inr (0, [.ref o, .int (nI n), .int (nI y)])), (o, .inl (G.2.1, 1200, .inl (nb (upb g a (bxr (g a) k)))))] := hD_25
    replace hS : va_S A sv.heap H_25 locs_25 := hS_25
    clear hP_25 hD_25 hS_25
    refine lv_aload_n hx hb dX0_turnRound_26 rfl (lv_at hl 0 rfl) ?_
    refine va_get (D := G.1) (ci := 0) (v := .ref o) (C := RX0) (T := TX0) (N := 3) hx hb hts in_wsX00 hown hK hP 0 rfl rfl 0 (by decide) (hts _ wm_5) (fun _ h9 => h9) rfl dX0_turnRound_27 ?_
    refine lv_iload_n hx hb dX0_turnRound_30 rfl (lv_at hl 1 rfl) ?_
    refine f_iald (v := bI ((upb g a (bxr (g a) k)) a)) hx hb hK hP 1 rfl (by omega) (by decide) rfl dX0_turnRound_31 ?_
    refine f_top (y := bI (bxr (g a) k)) (congrArg bI upb_same) ?_
    exact hend (bI (bxr (g a) k)) () _ _ _ _ rfl rfl hP hD hS dX0_turnRound_32
  · skip
    exfalso; rw [has_nat (by omega) (by omega), decide_eq_true ha] at c_5; cases c_5

set_option maxRecDepth 100000 in
set_option maxHeartbeats 4000000 in
theorem kX0_isWhole (l : Launch) (G : fG) (d : Nat) (o : Nat) (g : Nat → UInt8) (n : Nat) (y : Nat) (a : Nat) (hn : n ≤ 1200) (ha : a ≤ n) : fMI l yX0_isWhole (.code yX0_isWhole cX0_isWhole 4 (some .boolean) :: wsA) ({ frames := 2, cells := 0, slots := 0, locals := 42 } : Room) G [.ref d, .int (nI a)] [(d, .inr (0, [.ref o, .int (nI n), .int (nI y)])), (o, .inl (G.2.1, 1200, .inl (nb g)))] (fun (r9 : Int32) (u : Unit) => r9 = f_b (whole g n a)) (fun (u : Unit) => [(d, .inr (0, [.ref o, .int (nI n), .int (nI y)])), (o, .inl (G.2.1, 1200, .inl (nb g)))]) 0 0 := by
  refine fI_start (cc := cX0_isWhole) (maxL := 4) (by decide) rfl (Nat.le_of_ble_eq_true rfl) ?_
  intro prg env sv mid args below meth cd A Q ls hx hb hml hown hts hin hK hP hD hE hA hS hl hend
  replace hown : sv.vm.findClass RX0 = some mid.cls := hown
  replace hP : va_P G.1 vwCl [(d, .inr (0, [.ref o, .int (nI n), .int (nI y)])), (o, .inl (G.2.1, 1200, .inl (nb g)))] sv.heap := hP
  replace hl : lv_has ls 4 [(0, .ref d), (1, .int (nI a))] := hl
  rcases (show a + 1 < n ∨ (a + 1 = n ∨ a = n) by omega) with q0 | q0 | q0
  · skip
    have z0 := bI_lt (g a)
    have z1 := bI_lt (g (a + 1))
    refine lv_aload_n hx hb dX0_isWhole_0 rfl (lv_at hl 0 rfl) ?_
    refine lv_iload_n hx hb dX0_isWhole_1 rfl (lv_at hl 1 rfl) ?_
    refine fcVI (As := [.int (nI a)]) (rest := []) (wr := []) (ws1 := fun (u : Unit) => [(d, .inr (0, [.ref o, .int (nI n), .int (nI y)])), (o, .inl (G.2.1, 1200, .inl (nb g)))]) ⟨hx, hb, hml, hown, hts⟩ hK hE hP hD hS hA hl.1 (kX0_octetAt_in l G d o g n y a (by omega) (by omega)) (cwV 1 hts (gdV wm_19 wm_20 wm_21 wm_15 wm_11) rfl rfl rfl (by decide +kernel) ⟨Nat.le_of_ble_eq_true rfl, Nat.le_of_ble_eq_true rfl⟩) 0 rfl rfl rfl rfl (Nat.le_of_ble_eq_true rfl) dX0_isWhole_2 ⟨Nat.le_of_ble_eq_true rfl, Nat.le_of_ble_eq_true rfl⟩ [0, 1] [] [0, 1] rfl rfl rfl rfl (by decide) rfl (fun _ => rfl) (fun r_2 u_2 H_2 locs_2 hw_2 hP_2 hD_2 hS_2 => ?_)
    obtain rfl := hw_2
    replace hP : va_P G.1 vwCl [(d, .inr (0, [.ref o, .int (nI n), .int (nI y)])), (o, .inl (G.2.1, 1200, .inl (nb g)))] H_2 := hP_2
    replace hD : va_D A [(d, .inr (0, [.ref o, .int (nI n), .int (nI y)])), (o, .inl (G.2.1, 1200, .inl (nb g)))] := hD_2
    replace hS : va_S A sv.heap H_2 locs_2 := hS_2
    clear hP_2 hD_2 hS_2
    refine lv_istore_n (lv' := [(2, .int (bI (g a))), (0, .ref d), (1, .int (nI a))]) hx hb dX0_isWhole_5 rfl hl (by decide) rfl (fun ls hl2 => ?_)
    replace hl := hl2; clear hl2
    refine lv_aload_n hx hb dX0_isWhole_6 rfl (lv_at hl 1 rfl) ?_
    refine lv_iload_n hx hb dX0_isWhole_7 rfl (lv_at hl 2 rfl) ?_
    refine lv_iconst (v := nI 1) hx hb dX0_isWhole_8 (by decide) ?_
    refine lv_iadd hx hb dX0_isWhole_9 ?_
    refine f_top (y := nI (a + 1)) (nI_add _ _) ?_
    refine fcVI (As := [.int (nI (a + 1))]) (rest := []) (wr := []) (ws1 := fun (u : Unit) => [(d, .inr (0, [.ref o, .int (nI n), .int (nI y)])), (o, .inl (G.2.1, 1200, .inl (nb g)))]) ⟨hx, hb, hml, hown, hts⟩ hK hE hP hD hS hA hl.1 (kX0_octetAt_in l G d o g n y (a + 1) (by omega) (by omega)) (cwV 1 hts (gdV wm_19 wm_20 wm_21 wm_15 wm_11) rfl rfl rfl (by decide +kernel) ⟨Nat.le_of_ble_eq_true rfl, Nat.le_of_ble_eq_true rfl⟩) 0 rfl rfl rfl rfl (Nat.le_of_ble_eq_true rfl) dX0_isWhole_10 ⟨Nat.le_of_ble_eq_true rfl, Nat.le_of_ble_eq_true rfl⟩ [0, 1] [] [0, 1] rfl rfl rfl rfl (by decide) rfl (fun _ => rfl) (fun r_10 u_10 H_10 locs_10 hw_10 hP_10 hD_10 hS_10 => ?_)
    obtain rfl := hw_10
    replace hP : va_P G.1 vwCl [(d, .inr (0, [.ref o, .int (nI n), .int (nI y)])), (o, .inl (G.2.1, 1200, .inl (nb g)))] H_10 := hP_10
    replace hD : va_D A [(d, .inr (0, [.ref o, .int (nI n), .int (nI y)])), (o, .inl (G.2.1, 1200, .inl (nb g)))] := hD_10
    replace hS : va_S A sv.heap H_10 locs_10 := hS_10
    clear hP_10 hD_10 hS_10
    refine lv_istore_n (lv' := [(3, .int (bI (g (a + 1)))), (2, .int (bI (g a))), (0, .ref d), (1, .int (nI a))]) hx hb dX0_isWhole_13 rfl hl (by decide) rfl (fun ls hl2 => ?_)
    replace hl := hl2; clear hl2
    refine lv_iload_n hx hb dX0_isWhole_14 rfl (lv_at hl 1 rfl) ?_
    refine lv_iconst (v := nI 1) hx hb dX0_isWhole_15 (by decide) ?_
    refine f_icmp_lt (tgt := 34) (by omega) (by omega) hx hb dX0_isWhole_16 (by decide) (fun c_16 => ?_) (fun c_16 => ?_)
    · skip
      refine lv_iconst (v := nI 0) hx hb dX0_isWhole_34 (by decide) ?_
      exact hend (nI 0) () _ _ _ _ rfl (by unfold whole; rw [decide_eq_false (by omega)]; rfl) hP hD hS dX0_isWhole_35
    · skip
      refine lv_iload_n hx hb dX0_isWhole_19 rfl (lv_at hl 1 rfl) ?_
      refine lv_iconst (v := nI 3) hx hb dX0_isWhole_20 (by decide) ?_
      refine f_icmp_gt (tgt := 34) (by omega) (by omega) hx hb dX0_isWhole_21 (by decide) (fun c_21 => ?_) (fun c_21 => ?_)
      · skip
        refine lv_iconst (v := nI 0) hx hb dX0_isWhole_34 (by decide) ?_
        exact hend (nI 0) () _ _ _ _ rfl (by unfold whole; rw [decide_eq_false (by omega)]; rfl) hP hD hS dX0_isWhole_35
      · skip
        refine lv_iload_n hx hb dX0_isWhole_24 rfl (lv_at hl 0 rfl) ?_
        refine f_if_lt (tgt := 34) (by omega) hx hb dX0_isWhole_25 (by decide) ?_
        refine lv_iload_n hx hb dX0_isWhole_28 rfl (lv_at hl 0 rfl) ?_
        refine lv_bipush (v := nI 40) hx hb dX0_isWhole_29 (by decide) ?_
        refine f_icmp_le (tgt := 36) (by omega) (by omega) hx hb dX0_isWhole_31 (by decide) (fun c_31 => ?_) (fun c_31 => ?_)
        · skip
          refine lv_iload_n hx hb dX0_isWhole_36 rfl (lv_at hl 1 rfl) ?_
          refine lv_iconst (v := nI 2) hx hb dX0_isWhole_37 (by decide) ?_
          refine f_icmp_ne (tgt := 45) (by omega) (by omega) hx hb dX0_isWhole_38 (by decide) (fun c_38 => ?_) (fun c_38 => ?_)
          · skip
            refine lv_iload_n hx hb dX0_isWhole_45 rfl (lv_at hl 1 rfl) ?_
            refine lv_iconst (v := nI 3) hx hb dX0_isWhole_46 (by decide) ?_
            refine f_icmp_ne (tgt := 57) (by omega) (by omega) hx hb dX0_isWhole_47 (by decide) (fun c_47 => ?_) (fun c_47 => ?_)
            · skip
              refine lv_iload_n hx hb dX0_isWhole_57 rfl (lv_at hl 3 rfl) ?_
              refine lv_iload_n hx hb dX0_isWhole_58 rfl (lv_at hl 0 rfl) ?_
              refine fcNI (As := [.int (bI (g (a + 1)))]) (rest := [.int (nI a)]) (wr := [(d, .inr (0, [.ref o, .int (nI n), .int (nI y)])), (o, .inl (G.2.1, 1200, .inl (nb g)))]) (ws1 := fun (u : Unit) => [(d, .inr (0, [.ref o, .int (nI n), .int (nI y)])), (o, .inl (G.2.1, 1200, .inl (nb g)))]) ⟨hx, hb, hml, hown, hts⟩ hK hE hP hD hS hA hl.1 (kX4_recordSize l G ((g (a + 1)).toNat) ) ⟨va_cnB 1 hts (gdC wm_17) rfl rfl rfl hE.2.2.2.2.2.2.2.1 (hts _ wm_23) (by decide +kernel) ⟨Nat.le_of_ble_eq_true rfl, Nat.le_of_ble_eq_true rfl⟩, (hts _ wm_22), trivial⟩ rfl rfl (Nat.le_of_ble_eq_true rfl) dX0_isWhole_59 ⟨Nat.le_of_ble_eq_true rfl, Nat.le_of_ble_eq_true rfl⟩ [] [0, 1] [0, 1] rfl rfl rfl rfl (by decide) rfl (fun _ => rfl) (fun r_59 u_59 H_59 locs_59 hw_59 hP_59 hD_59 hS_59 => ?_)
              obtain rfl := hw_59
              replace hP : va_P G.1 vwCl [(d, .inr (0, [.ref o, .int (nI n), .int (nI y)])), (o, .inl (G.2.1, 1200, .inl (nb g)))] H_59 := hP_59
              replace hD : va_D A [(d, .inr (0, [.ref o, .int (nI n), .int (nI y)])), (o, .inl (G.2.1, 1200, .inl (nb g)))] := hD_59
              replace hS : va_S A sv.heap H_59 locs_59 := hS_59
              clear hP_59 hD_59 hS_59
              refine lv_iadd hx hb dX0_isWhole_62 ?_
              refine f_top (y := nI (a + (10 + ((g (a + 1)).toNat)))) (nI_add _ _) ?_
              refine lv_aload_n hx hb dX0_isWhole_63 rfl (lv_at hl 2 rfl) ?_
              refine va_get (D := G.1) (ci := 0) (v := .int (nI n)) (C := RX0) (T := TX0) (N := 3) hx hb hts in_wsX00 hown hK hP 0 rfl rfl 1 (by decide) (hts _ wm_6) (fun _ h9 => h9) rfl dX0_isWhole_64 ?_
              refine f_icmp_gt (tgt := 74) (by omega) (by omega) hx hb dX0_isWhole_67 (by decide) (fun c_67 => ?_) (fun c_67 => ?_)
              · skip
                refine lv_iconst (v := nI 0) hx hb dX0_isWhole_74 (by decide) ?_
                exact hend (nI 0) () _ _ _ _ rfl (by unfold whole; rw [decide_eq_false (by omega)]; rfl) hP hD hS dX0_isWhole_75
              · skip
                refine lv_iconst (v := nI 1) hx hb dX0_isWhole_70 (by decide) ?_
                refine lv_goto (tgt := 75) hx hb dX0_isWhole_71 (by decide) ?_
                exact hend (nI 1) () _ _ _ _ rfl (by unfold whole; rw [decide_eq_true (by omega)]; rfl) hP hD hS dX0_isWhole_75
            · skip
              refine lv_iload_n hx hb dX0_isWhole_50 rfl (lv_at hl 0 rfl) ?_
              refine lv_iconst (v := nI 2) hx hb dX0_isWhole_51 (by decide) ?_
              refine f_icmp_eq (tgt := 57) (by omega) (by omega) hx hb dX0_isWhole_52 (by decide) (fun c_52 => ?_) (fun c_52 => ?_)
              · skip
                refine lv_iload_n hx hb dX0_isWhole_57 rfl (lv_at hl 3 rfl) ?_
                refine lv_iload_n hx hb dX0_isWhole_58 rfl (lv_at hl 0 rfl) ?_
                refine fcNI (As := [.int (bI (g (a + 1)))]) (rest := [.int (nI a)]) (wr := [(d, .inr (0, [.ref o, .int (nI n), .int (nI y)])), (o, .inl (G.2.1, 1200, .inl (nb g)))]) (ws1 := fun (u : Unit) => [(d, .inr (0, [.ref o, .int (nI n), .int (nI y)])), (o, .inl (G.2.1, 1200, .inl (nb g)))]) ⟨hx, hb, hml, hown, hts⟩ hK hE hP hD hS hA hl.1 (kX4_recordSize l G ((g (a + 1)).toNat) ) ⟨va_cnB 1 hts (gdC wm_17) rfl rfl rfl hE.2.2.2.2.2.2.2.1 (hts _ wm_23) (by decide +kernel) ⟨Nat.le_of_ble_eq_true rfl, Nat.le_of_ble_eq_true rfl⟩, (hts _ wm_22), trivial⟩ rfl rfl (Nat.le_of_ble_eq_true rfl) dX0_isWhole_59 ⟨Nat.le_of_ble_eq_true rfl, Nat.le_of_ble_eq_true rfl⟩ [] [0, 1] [0, 1] rfl rfl rfl rfl (by decide) rfl (fun _ => rfl) (fun r_59_1 u_59_1 H_59_1 locs_59_1 hw_59_1 hP_59_1 hD_59_1 hS_59_1 => ?_)
                obtain rfl := hw_59_1
                replace hP : va_P G.1 vwCl [(d, .inr (0, [.ref o, .int (nI n), .int (nI y)])), (o, .inl (G.2.1, 1200, .inl (nb g)))] H_59_1 := hP_59_1
                replace hD : va_D A [(d, .inr (0, [.ref o, .int (nI n), .int (nI y)])), (o, .inl (G.2.1, 1200, .inl (nb g)))] := hD_59_1
                replace hS : va_S A sv.heap H_59_1 locs_59_1 := hS_59_1
                clear hP_59_1 hD_59_1 hS_59_1
                refine lv_iadd hx hb dX0_isWhole_62 ?_
                refine f_top (y := nI (a + (10 + ((g (a + 1)).toNat)))) (nI_add _ _) ?_
                refine lv_aload_n hx hb dX0_isWhole_63 rfl (lv_at hl 2 rfl) ?_
                refine va_get (D := G.1) (ci := 0) (v := .int (nI n)) (C := RX0) (T := TX0) (N := 3) hx hb hts in_wsX00 hown hK hP 0 rfl rfl 1 (by decide) (hts _ wm_6) (fun _ h9 => h9) rfl dX0_isWhole_64 ?_
                refine f_icmp_gt (tgt := 74) (by omega) (by omega) hx hb dX0_isWhole_67 (by decide) (fun c_67 => ?_) (fun c_67 => ?_)
                · skip
                  refine lv_iconst (v := nI 0) hx hb dX0_isWhole_74 (by decide) ?_
                  exact hend (nI 0) () _ _ _ _ rfl (by unfold whole; rw [decide_eq_false (by omega)]; rfl) hP hD hS dX0_isWhole_75
                · skip
                  refine lv_iconst (v := nI 1) hx hb dX0_isWhole_70 (by decide) ?_
                  refine lv_goto (tgt := 75) hx hb dX0_isWhole_71 (by decide) ?_
                  exact hend (nI 1) () _ _ _ _ rfl (by unfold whole; rw [decide_eq_true (by omega)]; rfl) hP hD hS dX0_isWhole_75
              · skip
                refine lv_iconst (v := nI 0) hx hb dX0_isWhole_55 (by decide) ?_
                exact hend (nI 0) () _ _ _ _ rfl (by unfold whole; rw [decide_eq_false (by omega)]; rfl) hP hD hS dX0_isWhole_56
          · skip
            refine lv_iload_n hx hb dX0_isWhole_41 rfl (lv_at hl 0 rfl) ?_
            refine f_if_ne (tgt := 55) (by omega) hx hb dX0_isWhole_42 (by decide) (fun c_42 => ?_) (fun c_42 => ?_)
            · skip
              refine lv_iconst (v := nI 0) hx hb dX0_isWhole_55 (by decide) ?_
              exact hend (nI 0) () _ _ _ _ rfl (by unfold whole; rw [decide_eq_false (by omega)]; rfl) hP hD hS dX0_isWhole_56
            · skip
              refine lv_iload_n hx hb dX0_isWhole_45 rfl (lv_at hl 1 rfl) ?_
              refine lv_iconst (v := nI 3) hx hb dX0_isWhole_46 (by decide) ?_
              refine f_icmp_ne (tgt := 57) (by omega) (by omega) hx hb dX0_isWhole_47 (by decide) (fun c_47 => ?_) (fun c_47 => ?_)
              · skip
                refine lv_iload_n hx hb dX0_isWhole_57 rfl (lv_at hl 3 rfl) ?_
                refine lv_iload_n hx hb dX0_isWhole_58 rfl (lv_at hl 0 rfl) ?_
                refine fcNI (As := [.int (bI (g (a + 1)))]) (rest := [.int (nI a)]) (wr := [(d, .inr (0, [.ref o, .int (nI n), .int (nI y)])), (o, .inl (G.2.1, 1200, .inl (nb g)))]) (ws1 := fun (u : Unit) => [(d, .inr (0, [.ref o, .int (nI n), .int (nI y)])), (o, .inl (G.2.1, 1200, .inl (nb g)))]) ⟨hx, hb, hml, hown, hts⟩ hK hE hP hD hS hA hl.1 (kX4_recordSize l G ((g (a + 1)).toNat) ) ⟨va_cnB 1 hts (gdC wm_17) rfl rfl rfl hE.2.2.2.2.2.2.2.1 (hts _ wm_23) (by decide +kernel) ⟨Nat.le_of_ble_eq_true rfl, Nat.le_of_ble_eq_true rfl⟩, (hts _ wm_22), trivial⟩ rfl rfl (Nat.le_of_ble_eq_true rfl) dX0_isWhole_59 ⟨Nat.le_of_ble_eq_true rfl, Nat.le_of_ble_eq_true rfl⟩ [] [0, 1] [0, 1] rfl rfl rfl rfl (by decide) rfl (fun _ => rfl) (fun r_59_2 u_59_2 H_59_2 locs_59_2 hw_59_2 hP_59_2 hD_59_2 hS_59_2 => ?_)
                obtain rfl := hw_59_2
                replace hP : va_P G.1 vwCl [(d, .inr (0, [.ref o, .int (nI n), .int (nI y)])), (o, .inl (G.2.1, 1200, .inl (nb g)))] H_59_2 := hP_59_2
                replace hD : va_D A [(d, .inr (0, [.ref o, .int (nI n), .int (nI y)])), (o, .inl (G.2.1, 1200, .inl (nb g)))] := hD_59_2
                replace hS : va_S A sv.heap H_59_2 locs_59_2 := hS_59_2
                clear hP_59_2 hD_59_2 hS_59_2
                refine lv_iadd hx hb dX0_isWhole_62 ?_
                refine f_top (y := nI (a + (10 + ((g (a + 1)).toNat)))) (nI_add _ _) ?_
                refine lv_aload_n hx hb dX0_isWhole_63 rfl (lv_at hl 2 rfl) ?_
                refine va_get (D := G.1) (ci := 0) (v := .int (nI n)) (C := RX0) (T := TX0) (N := 3) hx hb hts in_wsX00 hown hK hP 0 rfl rfl 1 (by decide) (hts _ wm_6) (fun _ h9 => h9) rfl dX0_isWhole_64 ?_
                refine f_icmp_gt (tgt := 74) (by omega) (by omega) hx hb dX0_isWhole_67 (by decide) (fun c_67 => ?_) (fun c_67 => ?_)
                · skip
                  refine lv_iconst (v := nI 0) hx hb dX0_isWhole_74 (by decide) ?_
                  exact hend (nI 0) () _ _ _ _ rfl (by unfold whole; rw [decide_eq_false (by omega)]; rfl) hP hD hS dX0_isWhole_75
                · skip
                  refine lv_iconst (v := nI 1) hx hb dX0_isWhole_70 (by decide) ?_
                  refine lv_goto (tgt := 75) hx hb dX0_isWhole_71 (by decide) ?_
                  exact hend (nI 1) () _ _ _ _ rfl (by unfold whole; rw [decide_eq_true (by omega)]; rfl) hP hD hS dX0_isWhole_75
              · skip
                refine lv_iload_n hx hb dX0_isWhole_50 rfl (lv_at hl 0 rfl) ?_
                refine lv_iconst (v := nI 2) hx hb dX0_isWhole_51 (by decide) ?_
                refine f_icmp_eq (tgt := 57) (by omega) (by omega) hx hb dX0_isWhole_52 (by decide) (fun c_52 => ?_) (fun c_52 => ?_)
                · skip
                  refine lv_iload_n hx hb dX0_isWhole_57 rfl (lv_at hl 3 rfl) ?_
                  refine lv_iload_n hx hb dX0_isWhole_58 rfl (lv_at hl 0 rfl) ?_
                  refine fcNI (As := [.int (bI (g (a + 1)))]) (rest := [.int (nI a)]) (wr := [(d, .inr (0, [.ref o, .int (nI n), .int (nI y)])), (o, .inl (G.2.1, 1200, .inl (nb g)))]) (ws1 := fun (u : Unit) => [(d, .inr (0, [.ref o, .int (nI n), .int (nI y)])), (o, .inl (G.2.1, 1200, .inl (nb g)))]) ⟨hx, hb, hml, hown, hts⟩ hK hE hP hD hS hA hl.1 (kX4_recordSize l G ((g (a + 1)).toNat) ) ⟨va_cnB 1 hts (gdC wm_17) rfl rfl rfl hE.2.2.2.2.2.2.2.1 (hts _ wm_23) (by decide +kernel) ⟨Nat.le_of_ble_eq_true rfl, Nat.le_of_ble_eq_true rfl⟩, (hts _ wm_22), trivial⟩ rfl rfl (Nat.le_of_ble_eq_true rfl) dX0_isWhole_59 ⟨Nat.le_of_ble_eq_true rfl, Nat.le_of_ble_eq_true rfl⟩ [] [0, 1] [0, 1] rfl rfl rfl rfl (by decide) rfl (fun _ => rfl) (fun r_59_3 u_59_3 H_59_3 locs_59_3 hw_59_3 hP_59_3 hD_59_3 hS_59_3 => ?_)
                  obtain rfl := hw_59_3
                  replace hP : va_P G.1 vwCl [(d, .inr (0, [.ref o, .int (nI n), .int (nI y)])), (o, .inl (G.2.1, 1200, .inl (nb g)))] H_59_3 := hP_59_3
                  replace hD : va_D A [(d, .inr (0, [.ref o, .int (nI n), .int (nI y)])), (o, .inl (G.2.1, 1200, .inl (nb g)))] := hD_59_3
                  replace hS : va_S A sv.heap H_59_3 locs_59_3 := hS_59_3
                  clear hP_59_3 hD_59_3 hS_59_3
                  refine lv_iadd hx hb dX0_isWhole_62 ?_
                  refine f_top (y := nI (a + (10 + ((g (a + 1)).toNat)))) (nI_add _ _) ?_
                  refine lv_aload_n hx hb dX0_isWhole_63 rfl (lv_at hl 2 rfl) ?_
                  refine va_get (D := G.1) (ci := 0) (v := .int (nI n)) (C := RX0) (T := TX0) (N := 3) hx hb hts in_wsX00 hown hK hP 0 rfl rfl 1 (by decide) (hts _ wm_6) (fun _ h9 => h9) rfl dX0_isWhole_64 ?_
                  refine f_icmp_gt (tgt := 74) (by omega) (by omega) hx hb dX0_isWhole_67 (by decide) (fun c_67 => ?_) (fun c_67 => ?_)
                  · skip
                    refine lv_iconst (v := nI 0) hx hb dX0_isWhole_74 (by decide) ?_
                    exact hend (nI 0) () _ _ _ _ rfl (by unfold whole; rw [decide_eq_false (by omega)]; rfl) hP hD hS dX0_isWhole_75
                  · skip
                    refine lv_iconst (v := nI 1) hx hb dX0_isWhole_70 (by decide) ?_
                    refine lv_goto (tgt := 75) hx hb dX0_isWhole_71 (by decide) ?_
                    exact hend (nI 1) () _ _ _ _ rfl (by unfold whole; rw [decide_eq_true (by omega)]; rfl) hP hD hS dX0_isWhole_75
                · skip
                  refine lv_iconst (v := nI 0) hx hb dX0_isWhole_55 (by decide) ?_
                  exact hend (nI 0) () _ _ _ _ rfl (by unfold whole; rw [decide_eq_false (by omega)]; rfl) hP hD hS dX0_isWhole_56
        · skip
          refine lv_iconst (v := nI 0) hx hb dX0_isWhole_34 (by decide) ?_
          exact hend (nI 0) () _ _ _ _ rfl (by unfold whole; rw [decide_eq_false (by omega)]; rfl) hP hD hS dX0_isWhole_35
  · skip
    have z0 := bI_lt (g a)
    refine lv_aload_n hx hb dX0_isWhole_0 rfl (lv_at hl 0 rfl) ?_
    refine lv_iload_n hx hb dX0_isWhole_1 rfl (lv_at hl 1 rfl) ?_
    refine fcVI (As := [.int (nI a)]) (rest := []) (wr := []) (ws1 := fun (u : Unit) => [(d, .inr (0, [.ref o, .int (nI n), .int (nI y)])), (o, .inl (G.2.1, 1200, .inl (nb g)))]) ⟨hx, hb, hml, hown, hts⟩ hK hE hP hD hS hA hl.1 (kX0_octetAt_in l G d o g n y a (by omega) (by omega)) (cwV 1 hts (gdV wm_19 wm_20 wm_21 wm_15 wm_11) rfl rfl rfl (by decide +kernel) ⟨Nat.le_of_ble_eq_true rfl, Nat.le_of_ble_eq_true rfl⟩) 0 rfl rfl rfl rfl (Nat.le_of_ble_eq_true rfl) dX0_isWhole_2 ⟨Nat.le_of_ble_eq_true rfl, Nat.le_of_ble_eq_true rfl⟩ [0, 1] [] [0, 1] rfl rfl rfl rfl (by decide) rfl (fun _ => rfl) (fun r_2_1 u_2_1 H_2_1 locs_2_1 hw_2_1 hP_2_1 hD_2_1 hS_2_1 => ?_)
    obtain rfl := hw_2_1
    replace hP : va_P G.1 vwCl [(d, .inr (0, [.ref o, .int (nI n), .int (nI y)])), (o, .inl (G.2.1, 1200, .inl (nb g)))] H_2_1 := hP_2_1
    replace hD : va_D A [(d, .inr (0, [.ref o, .int (nI n), .int (nI y)])), (o, .inl (G.2.1, 1200, .inl (nb g)))] := hD_2_1
    replace hS : va_S A sv.heap H_2_1 locs_2_1 := hS_2_1
    clear hP_2_1 hD_2_1 hS_2_1
    refine lv_istore_n (lv' := [(2, .int (bI (g a))), (0, .ref d), (1, .int (nI a))]) hx hb dX0_isWhole_5 rfl hl (by decide) rfl (fun ls hl2 => ?_)
    replace hl := hl2; clear hl2
    refine lv_aload_n hx hb dX0_isWhole_6 rfl (lv_at hl 1 rfl) ?_
    refine lv_iload_n hx hb dX0_isWhole_7 rfl (lv_at hl 2 rfl) ?_
    refine lv_iconst (v := nI 1) hx hb dX0_isWhole_8 (by decide) ?_
    refine lv_iadd hx hb dX0_isWhole_9 ?_
    refine f_top (y := nI (a + 1)) (nI_add _ _) ?_
    refine fcVI (As := [.int (nI (a + 1))]) (rest := []) (wr := []) (ws1 := fun (u : Unit) => [(d, .inr (0, [.ref o, .int (nI n), .int (nI y)])), (o, .inl (G.2.1, 1200, .inl (nb g)))]) ⟨hx, hb, hml, hown, hts⟩ hK hE hP hD hS hA hl.1 (kX0_octetAt_out l G d o g n y (a + 1) (by omega) (by omega) (by omega)) (cwV 1 hts (gdV wm_19 wm_20 wm_21 wm_15 wm_11) rfl rfl rfl (by decide +kernel) ⟨Nat.le_of_ble_eq_true rfl, Nat.le_of_ble_eq_true rfl⟩) 0 rfl rfl rfl rfl (Nat.le_of_ble_eq_true rfl) dX0_isWhole_10 ⟨Nat.le_of_ble_eq_true rfl, Nat.le_of_ble_eq_true rfl⟩ [0, 1] [] [0, 1] rfl rfl rfl rfl (by decide) rfl (fun _ => rfl) (fun r_10_1 u_10_1 H_10_1 locs_10_1 hw_10_1 hP_10_1 hD_10_1 hS_10_1 => ?_)
    obtain rfl := hw_10_1
    replace hP : va_P G.1 vwCl [(d, .inr (0, [.ref o, .int (nI n), .int (nI y)])), (o, .inl (G.2.1, 1200, .inl (nb g)))] H_10_1 := hP_10_1
    replace hD : va_D A [(d, .inr (0, [.ref o, .int (nI n), .int (nI y)])), (o, .inl (G.2.1, 1200, .inl (nb g)))] := hD_10_1
    replace hS : va_S A sv.heap H_10_1 locs_10_1 := hS_10_1
    clear hP_10_1 hD_10_1 hS_10_1
    refine lv_istore_n (lv' := [(3, .int (-1)), (2, .int (bI (g a))), (0, .ref d), (1, .int (nI a))]) hx hb dX0_isWhole_13 rfl hl (by decide) rfl (fun ls hl2 => ?_)
    replace hl := hl2; clear hl2
    refine lv_iload_n hx hb dX0_isWhole_14 rfl (lv_at hl 1 rfl) ?_
    refine lv_iconst (v := nI 1) hx hb dX0_isWhole_15 (by decide) ?_
    refine f_icmp_lt (tgt := 34) (by omega) (by omega) hx hb dX0_isWhole_16 (by decide) (fun c_16 => ?_) (fun c_16 => ?_)
    · skip
      refine lv_iconst (v := nI 0) hx hb dX0_isWhole_34 (by decide) ?_
      exact hend (nI 0) () _ _ _ _ rfl (by unfold whole; rw [decide_eq_false (by omega)]; rfl) hP hD hS dX0_isWhole_35
    · skip
      refine lv_iload_n hx hb dX0_isWhole_19 rfl (lv_at hl 1 rfl) ?_
      refine lv_iconst (v := nI 3) hx hb dX0_isWhole_20 (by decide) ?_
      refine f_icmp_gt (tgt := 34) (by omega) (by omega) hx hb dX0_isWhole_21 (by decide) (fun c_21 => ?_) (fun c_21 => ?_)
      · skip
        refine lv_iconst (v := nI 0) hx hb dX0_isWhole_34 (by decide) ?_
        exact hend (nI 0) () _ _ _ _ rfl (by unfold whole; rw [decide_eq_false (by omega)]; rfl) hP hD hS dX0_isWhole_35
      · skip
        refine lv_iload_n hx hb dX0_isWhole_24 rfl (lv_at hl 0 rfl) ?_
        refine lv_if_lt (tgt := 34) hx hb dX0_isWhole_25 (by decide) (fun _ => ?_) (fun c9 => absurd (by decide) c9)
        refine lv_iconst (v := nI 0) hx hb dX0_isWhole_34 (by decide) ?_
        exact hend (nI 0) () _ _ _ _ rfl (by unfold whole; rw [decide_eq_false (by omega)]; rfl) hP hD hS dX0_isWhole_35
  · skip
    refine lv_aload_n hx hb dX0_isWhole_0 rfl (lv_at hl 0 rfl) ?_
    refine lv_iload_n hx hb dX0_isWhole_1 rfl (lv_at hl 1 rfl) ?_
    refine fcVI (As := [.int (nI a)]) (rest := []) (wr := []) (ws1 := fun (u : Unit) => [(d, .inr (0, [.ref o, .int (nI n), .int (nI y)])), (o, .inl (G.2.1, 1200, .inl (nb g)))]) ⟨hx, hb, hml, hown, hts⟩ hK hE hP hD hS hA hl.1 (kX0_octetAt_out l G d o g n y a (by omega) (by omega) (by omega)) (cwV 1 hts (gdV wm_19 wm_20 wm_21 wm_15 wm_11) rfl rfl rfl (by decide +kernel) ⟨Nat.le_of_ble_eq_true rfl, Nat.le_of_ble_eq_true rfl⟩) 0 rfl rfl rfl rfl (Nat.le_of_ble_eq_true rfl) dX0_isWhole_2 ⟨Nat.le_of_ble_eq_true rfl, Nat.le_of_ble_eq_true rfl⟩ [0, 1] [] [0, 1] rfl rfl rfl rfl (by decide) rfl (fun _ => rfl) (fun r_2_2 u_2_2 H_2_2 locs_2_2 hw_2_2 hP_2_2 hD_2_2 hS_2_2 => ?_)
    obtain rfl := hw_2_2
    replace hP : va_P G.1 vwCl [(d, .inr (0, [.ref o, .int (nI n), .int (nI y)])), (o, .inl (G.2.1, 1200, .inl (nb g)))] H_2_2 := hP_2_2
    replace hD : va_D A [(d, .inr (0, [.ref o, .int (nI n), .int (nI y)])), (o, .inl (G.2.1, 1200, .inl (nb g)))] := hD_2_2
    replace hS : va_S A sv.heap H_2_2 locs_2_2 := hS_2_2
    clear hP_2_2 hD_2_2 hS_2_2
    refine lv_istore_n (lv' := [(2, .int (-1)), (0, .ref d), (1, .int (nI a))]) hx hb dX0_isWhole_5 rfl hl (by decide) rfl (fun ls hl2 => ?_)
    replace hl := hl2; clear hl2
    refine lv_aload_n hx hb dX0_isWhole_6 rfl (lv_at hl 1 rfl) ?_
    refine lv_iload_n hx hb dX0_isWhole_7 rfl (lv_at hl 2 rfl) ?_
    refine lv_iconst (v := nI 1) hx hb dX0_isWhole_8 (by decide) ?_
    refine lv_iadd hx hb dX0_isWhole_9 ?_
    refine f_top (y := nI (a + 1)) (nI_add _ _) ?_
    refine fcVI (As := [.int (nI (a + 1))]) (rest := []) (wr := []) (ws1 := fun (u : Unit) => [(d, .inr (0, [.ref o, .int (nI n), .int (nI y)])), (o, .inl (G.2.1, 1200, .inl (nb g)))]) ⟨hx, hb, hml, hown, hts⟩ hK hE hP hD hS hA hl.1 (kX0_octetAt_out l G d o g n y (a + 1) (by omega) (by omega) (by omega)) (cwV 1 hts (gdV wm_19 wm_20 wm_21 wm_15 wm_11) rfl rfl rfl (by decide +kernel) ⟨Nat.le_of_ble_eq_true rfl, Nat.le_of_ble_eq_true rfl⟩) 0 rfl rfl rfl rfl (Nat.le_of_ble_eq_true rfl) dX0_isWhole_10 ⟨Nat.le_of_ble_eq_true rfl, Nat.le_of_ble_eq_true rfl⟩ [0, 1] [] [0, 1] rfl rfl rfl rfl (by decide) rfl (fun _ => rfl) (fun r_10_2 u_10_2 H_10_2 locs_10_2 hw_10_2 hP_10_2 hD_10_2 hS_10_2 => ?_)
    obtain rfl := hw_10_2
    replace hP : va_P G.1 vwCl [(d, .inr (0, [.ref o, .int (nI n), .int (nI y)])), (o, .inl (G.2.1, 1200, .inl (nb g)))] H_10_2 := hP_10_2
    replace hD : va_D A [(d, .inr (0, [.ref o, .int (nI n), .int (nI y)])), (o, .inl (G.2.1, 1200, .inl (nb g)))] := hD_10_2
    replace hS : va_S A sv.heap H_10_2 locs_10_2 := hS_10_2
    clear hP_10_2 hD_10_2 hS_10_2
    refine lv_istore_n (lv' := [(3, .int (-1)), (2, .int (-1)), (0, .ref d), (1, .int (nI a))]) hx hb dX0_isWhole_13 rfl hl (by decide) rfl (fun ls hl2 => ?_)
    replace hl := hl2; clear hl2
    refine lv_iload_n hx hb dX0_isWhole_14 rfl (lv_at hl 1 rfl) ?_
    refine lv_iconst (v := nI 1) hx hb dX0_isWhole_15 (by decide) ?_
    refine lv_icmp_lt (tgt := 34) hx hb dX0_isWhole_16 (by decide) (fun _ => ?_) (fun c9 => absurd (by decide) c9)
    refine lv_iconst (v := nI 0) hx hb dX0_isWhole_34 (by decide) ?_
    exact hend (nI 0) () _ _ _ _ rfl (by unfold whole; rw [decide_eq_false (by omega)]; rfl) hP hD hS dX0_isWhole_35

set_option maxRecDepth 100000 in
set_option maxHeartbeats 4000000 in
theorem kX0_sizeAt (l : Launch) (G : fG) (d : Nat) (o : Nat) (g : Nat → UInt8) (n : Nat) (y : Nat) (a : Nat) (hn : n ≤ 1200) (ha : a + 1 < n) : fMI l yX0_sizeAt (.code yX0_sizeAt cX0_sizeAt 2 (some .int) :: wsA) ({ frames := 2, cells := 0, slots := 0, locals := 42 } : Room) G [.ref d, .int (nI a)] [(d, .inr (0, [.ref o, .int (nI n), .int (nI y)])), (o, .inl (G.2.1, 1200, .inl (nb g)))] (fun (r9 : Int32) (u : Unit) => r9 = nI (10 + (g (a + 1)).toNat)) (fun (u : Unit) => [(d, .inr (0, [.ref o, .int (nI n), .int (nI y)])), (o, .inl (G.2.1, 1200, .inl (nb g)))]) 0 0 := by
  refine fI_start (cc := cX0_sizeAt) (maxL := 2) (by decide) rfl (Nat.le_of_ble_eq_true rfl) ?_
  intro prg env sv mid args below meth cd A Q ls hx hb hml hown hts hin hK hP hD hE hA hS hl hend
  replace hown : sv.vm.findClass RX0 = some mid.cls := hown
  replace hP : va_P G.1 vwCl [(d, .inr (0, [.ref o, .int (nI n), .int (nI y)])), (o, .inl (G.2.1, 1200, .inl (nb g)))] sv.heap := hP
  replace hl : lv_has ls 2 [(0, .ref d), (1, .int (nI a))] := hl
  refine lv_aload_n hx hb dX0_sizeAt_0 rfl (lv_at hl 0 rfl) ?_
  refine lv_iload_n hx hb dX0_sizeAt_1 rfl (lv_at hl 1 rfl) ?_
  refine lv_iconst (v := nI 1) hx hb dX0_sizeAt_2 (by decide) ?_
  refine lv_iadd hx hb dX0_sizeAt_3 ?_
  refine f_top (y := nI (a + 1)) (nI_add _ _) ?_
  refine fcVI (As := [.int (nI (a + 1))]) (rest := []) (wr := []) (ws1 := fun (u : Unit) => [(d, .inr (0, [.ref o, .int (nI n), .int (nI y)])), (o, .inl (G.2.1, 1200, .inl (nb g)))]) ⟨hx, hb, hml, hown, hts⟩ hK hE hP hD hS hA hl.1 (kX0_octetAt_in l G d o g n y (a + 1) (by omega) (by omega)) (cwV 1 hts (gdV wm_19 wm_20 wm_21 wm_15 wm_11) rfl rfl rfl (by decide +kernel) ⟨Nat.le_of_ble_eq_true rfl, Nat.le_of_ble_eq_true rfl⟩) 0 rfl rfl rfl rfl (Nat.le_of_ble_eq_true rfl) dX0_sizeAt_4 ⟨Nat.le_of_ble_eq_true rfl, Nat.le_of_ble_eq_true rfl⟩ [0, 1] [] [0, 1] rfl rfl rfl rfl (by decide) rfl (fun _ => rfl) (fun r_4 u_4 H_4 locs_4 hw_4 hP_4 hD_4 hS_4 => ?_)
  obtain rfl := hw_4
  replace hP : va_P G.1 vwCl [(d, .inr (0, [.ref o, .int (nI n), .int (nI y)])), (o, .inl (G.2.1, 1200, .inl (nb g)))] H_4 := hP_4
  replace hD : va_D A [(d, .inr (0, [.ref o, .int (nI n), .int (nI y)])), (o, .inl (G.2.1, 1200, .inl (nb g)))] := hD_4
  replace hS : va_S A sv.heap H_4 locs_4 := hS_4
  clear hP_4 hD_4 hS_4
  refine fcNI (As := [.int (bI (g (a + 1)))]) (rest := []) (wr := [(d, .inr (0, [.ref o, .int (nI n), .int (nI y)])), (o, .inl (G.2.1, 1200, .inl (nb g)))]) (ws1 := fun (u : Unit) => [(d, .inr (0, [.ref o, .int (nI n), .int (nI y)])), (o, .inl (G.2.1, 1200, .inl (nb g)))]) ⟨hx, hb, hml, hown, hts⟩ hK hE hP hD hS hA hl.1 (kX4_recordSize l G ((g (a + 1)).toNat) ) ⟨va_cnB 1 hts (gdC wm_17) rfl rfl rfl hE.2.2.2.2.2.2.2.1 (hts _ wm_23) (by decide +kernel) ⟨Nat.le_of_ble_eq_true rfl, Nat.le_of_ble_eq_true rfl⟩, (hts _ wm_22), trivial⟩ rfl rfl (Nat.le_of_ble_eq_true rfl) dX0_sizeAt_7 ⟨Nat.le_of_ble_eq_true rfl, Nat.le_of_ble_eq_true rfl⟩ [] [0, 1] [0, 1] rfl rfl rfl rfl (by decide) rfl (fun _ => rfl) (fun r_7 u_7 H_7 locs_7 hw_7 hP_7 hD_7 hS_7 => ?_)
  obtain rfl := hw_7
  replace hP : va_P G.1 vwCl [(d, .inr (0, [.ref o, .int (nI n), .int (nI y)])), (o, .inl (G.2.1, 1200, .inl (nb g)))] H_7 := hP_7
  replace hD : va_D A [(d, .inr (0, [.ref o, .int (nI n), .int (nI y)])), (o, .inl (G.2.1, 1200, .inl (nb g)))] := hD_7
  replace hS : va_S A sv.heap H_7 locs_7 := hS_7
  clear hP_7 hD_7 hS_7
  exact hend (nI (10 + ((g (a + 1)).toNat))) () _ _ _ _ rfl rfl hP hD hS dX0_sizeAt_10

set_option maxRecDepth 100000 in
set_option maxHeartbeats 4000000 in
theorem kX0_passedOverAt (l : Launch) (G : fG) (d : Nat) (o : Nat) (g : Nat → UInt8) (n : Nat) (y : Nat) (a : Nat) (hn : n ≤ 1200) (ha : a + 4 ≤ n) : fMI l yX0_passedOverAt (.code yX0_passedOverAt cX0_passedOverAt 2 (some .int) :: wsA) ({ frames := 2, cells := 0, slots := 0, locals := 42 } : Room) G [.ref d, .int (nI a)] [(d, .inr (0, [.ref o, .int (nI n), .int (nI y)])), (o, .inl (G.2.1, 1200, .inl (nb g)))] (fun (r9 : Int32) (u : Unit) => r9 = nI (pas g a)) (fun (u : Unit) => [(d, .inr (0, [.ref o, .int (nI n), .int (nI y)])), (o, .inl (G.2.1, 1200, .inl (nb g)))]) 0 0 := by
  refine fI_start (cc := cX0_passedOverAt) (maxL := 2) (by decide) rfl (Nat.le_of_ble_eq_true rfl) ?_
  intro prg env sv mid args below meth cd A Q ls hx hb hml hown hts hin hK hP hD hE hA hS hl hend
  replace hown : sv.vm.findClass RX0 = some mid.cls := hown
  replace hP : va_P G.1 vwCl [(d, .inr (0, [.ref o, .int (nI n), .int (nI y)])), (o, .inl (G.2.1, 1200, .inl (nb g)))] sv.heap := hP
  replace hl : lv_has ls 2 [(0, .ref d), (1, .int (nI a))] := hl
  have z0 := bI_lt (g a)
  have z1 := bI_lt (g (a + 2))
  have z2 := bI_lt (g (a + 3))
  refine lv_aload_n hx hb dX0_passedOverAt_0 rfl (lv_at hl 0 rfl) ?_
  refine lv_iload_n hx hb dX0_passedOverAt_1 rfl (lv_at hl 1 rfl) ?_
  refine fcVI (As := [.int (nI a)]) (rest := []) (wr := []) (ws1 := fun (u : Unit) => [(d, .inr (0, [.ref o, .int (nI n), .int (nI y)])), (o, .inl (G.2.1, 1200, .inl (nb g)))]) ⟨hx, hb, hml, hown, hts⟩ hK hE hP hD hS hA hl.1 (kX0_octetAt_in l G d o g n y a (by omega) (by omega)) (cwV 1 hts (gdV wm_19 wm_20 wm_21 wm_15 wm_11) rfl rfl rfl (by decide +kernel) ⟨Nat.le_of_ble_eq_true rfl, Nat.le_of_ble_eq_true rfl⟩) 0 rfl rfl rfl rfl (Nat.le_of_ble_eq_true rfl) dX0_passedOverAt_2 ⟨Nat.le_of_ble_eq_true rfl, Nat.le_of_ble_eq_true rfl⟩ [0, 1] [] [0, 1] rfl rfl rfl rfl (by decide) rfl (fun _ => rfl) (fun r_2 u_2 H_2 locs_2 hw_2 hP_2 hD_2 hS_2 => ?_)
  obtain rfl := hw_2
  replace hP : va_P G.1 vwCl [(d, .inr (0, [.ref o, .int (nI n), .int (nI y)])), (o, .inl (G.2.1, 1200, .inl (nb g)))] H_2 := hP_2
  replace hD : va_D A [(d, .inr (0, [.ref o, .int (nI n), .int (nI y)])), (o, .inl (G.2.1, 1200, .inl (nb g)))] := hD_2
  replace hS : va_S A sv.heap H_2 locs_2 := hS_2
  clear hP_2 hD_2 hS_2
  refine lv_iconst (v := nI 3) hx hb dX0_passedOverAt_5 (by decide) ?_
  refine f_icmp_eq (tgt := 11) (by omega) (by omega) hx hb dX0_passedOverAt_6 (by decide) (fun c_6 => ?_) (fun c_6 => ?_)
  · skip
    refine lv_aload_n hx hb dX0_passedOverAt_11 rfl (lv_at hl 0 rfl) ?_
    refine lv_iload_n hx hb dX0_passedOverAt_12 rfl (lv_at hl 1 rfl) ?_
    refine lv_iconst (v := nI 2) hx hb dX0_passedOverAt_13 (by decide) ?_
    refine lv_iadd hx hb dX0_passedOverAt_14 ?_
    refine f_top (y := nI (a + 2)) (nI_add _ _) ?_
    refine fcVI (As := [.int (nI (a + 2))]) (rest := []) (wr := []) (ws1 := fun (u : Unit) => [(d, .inr (0, [.ref o, .int (nI n), .int (nI y)])), (o, .inl (G.2.1, 1200, .inl (nb g)))]) ⟨hx, hb, hml, hown, hts⟩ hK hE hP hD hS hA hl.1 (kX0_octetAt_in l G d o g n y (a + 2) (by omega) (by omega)) (cwV 1 hts (gdV wm_19 wm_20 wm_21 wm_15 wm_11) rfl rfl rfl (by decide +kernel) ⟨Nat.le_of_ble_eq_true rfl, Nat.le_of_ble_eq_true rfl⟩) 0 rfl rfl rfl rfl (Nat.le_of_ble_eq_true rfl) dX0_passedOverAt_15 ⟨Nat.le_of_ble_eq_true rfl, Nat.le_of_ble_eq_true rfl⟩ [0, 1] [] [0, 1] rfl rfl rfl rfl (by decide) rfl (fun _ => rfl) (fun r_15 u_15 H_15 locs_15 hw_15 hP_15 hD_15 hS_15 => ?_)
    obtain rfl := hw_15
    replace hP : va_P G.1 vwCl [(d, .inr (0, [.ref o, .int (nI n), .int (nI y)])), (o, .inl (G.2.1, 1200, .inl (nb g)))] H_15 := hP_15
    replace hD : va_D A [(d, .inr (0, [.ref o, .int (nI n), .int (nI y)])), (o, .inl (G.2.1, 1200, .inl (nb g)))] := hD_15
    replace hS : va_S A sv.heap H_15 locs_15 := hS_15
    clear hP_15 hD_15 hS_15
    refine lv_bipush (v := nI 8) hx hb dX0_passedOverAt_18 (by decide) ?_
    refine lv_ishl hx hb dX0_passedOverAt_20 ?_
    refine f_top (y := nI ((g (a + 2)).toNat * 256)) (pk_shlN _ 8 (by decide) (by omega)) ?_
    refine lv_aload_n hx hb dX0_passedOverAt_21 rfl (lv_at hl 0 rfl) ?_
    refine lv_iload_n hx hb dX0_passedOverAt_22 rfl (lv_at hl 1 rfl) ?_
    refine lv_iconst (v := nI 2) hx hb dX0_passedOverAt_23 (by decide) ?_
    refine lv_iadd hx hb dX0_passedOverAt_24 ?_
    refine f_top (y := nI (a + 2)) (nI_add _ _) ?_
    refine lv_iconst (v := nI 1) hx hb dX0_passedOverAt_25 (by decide) ?_
    refine lv_iadd hx hb dX0_passedOverAt_26 ?_
    refine f_top (y := nI (a + 2 + 1)) (nI_add _ _) ?_
    refine f_top (y := nI (a + 3)) rfl ?_
    refine fcVI (As := [.int (nI (a + 3))]) (rest := [.int (nI ((g (a + 2)).toNat * 256))]) (wr := []) (ws1 := fun (u : Unit) => [(d, .inr (0, [.ref o, .int (nI n), .int (nI y)])), (o, .inl (G.2.1, 1200, .inl (nb g)))]) ⟨hx, hb, hml, hown, hts⟩ hK hE hP hD hS hA hl.1 (kX0_octetAt_in l G d o g n y (a + 3) (by omega) (by omega)) (cwV 1 hts (gdV wm_19 wm_20 wm_21 wm_15 wm_11) rfl rfl rfl (by decide +kernel) ⟨Nat.le_of_ble_eq_true rfl, Nat.le_of_ble_eq_true rfl⟩) 0 rfl rfl rfl rfl (Nat.le_of_ble_eq_true rfl) dX0_passedOverAt_27 ⟨Nat.le_of_ble_eq_true rfl, Nat.le_of_ble_eq_true rfl⟩ [0, 1] [] [0, 1] rfl rfl rfl rfl (by decide) rfl (fun _ => rfl) (fun r_27 u_27 H_27 locs_27 hw_27 hP_27 hD_27 hS_27 => ?_)
    obtain rfl := hw_27
    replace hP : va_P G.1 vwCl [(d, .inr (0, [.ref o, .int (nI n), .int (nI y)])), (o, .inl (G.2.1, 1200, .inl (nb g)))] H_27 := hP_27
    replace hD : va_D A [(d, .inr (0, [.ref o, .int (nI n), .int (nI y)])), (o, .inl (G.2.1, 1200, .inl (nb g)))] := hD_27
    replace hS : va_S A sv.heap H_27 locs_27 := hS_27
    clear hP_27 hD_27 hS_27
    refine lv_ior hx hb dX0_passedOverAt_30 ?_
    refine f_top (y := nI ((g (a + 2)).toNat * 256 + (g (a + 3)).toNat)) (f_or8 z2) ?_
    exact hend (nI ((g (a + 2)).toNat * 256 + (g (a + 3)).toNat)) () _ _ _ _ rfl (by unfold pas; rw [if_pos c_6]) hP hD hS dX0_passedOverAt_31
  · skip
    refine lv_iconst (v := nI 0) hx hb dX0_passedOverAt_9 (by decide) ?_
    exact hend (nI 0) () _ _ _ _ rfl (by unfold pas; rw [if_neg c_6]) hP hD hS dX0_passedOverAt_10

set_option maxRecDepth 100000 in
set_option maxHeartbeats 4000000 in
theorem kX0_wholeEnd (l : Launch) (G : fG) (d : Nat) (o : Nat) (g : Nat → UInt8) (n : Nat) (y : Nat) (hn : n ≤ 1200) : fMI l yX0_wholeEnd (.code yX0_wholeEnd cX0_wholeEnd 3 (some .int) :: wsA) ({ frames := 3, cells := 0, slots := 0, locals := 65 } : Room) G [.ref d] [(d, .inr (0, [.ref o, .int (nI n), .int (nI y)])), (o, .inl (G.2.1, 1200, .inl (nb g)))] (fun (r9 : Int32) (u : Unit) => r9 = nI (wk g n 120)) (fun (u : Unit) => [(d, .inr (0, [.ref o, .int (nI n), .int (nI y)])), (o, .inl (G.2.1, 1200, .inl (nb g)))]) 0 0 := by
  refine fI_start (cc := cX0_wholeEnd) (maxL := 3) (by decide) rfl (Nat.le_of_ble_eq_true rfl) ?_
  intro prg env sv mid args below meth cd A Q ls hx hb hml hown hts hin hK hP hD hE hA hS hl hend
  replace hown : sv.vm.findClass RX0 = some mid.cls := hown
  replace hP : va_P G.1 vwCl [(d, .inr (0, [.ref o, .int (nI n), .int (nI y)])), (o, .inl (G.2.1, 1200, .inl (nb g)))] sv.heap := hP
  replace hl : lv_has ls 3 [(0, .ref d)] := hl
  refine lv_iconst (v := nI 0) hx hb dX0_wholeEnd_0 (by decide) ?_
  refine lv_istore_n (lv' := [(1, .int (nI 0)), (0, .ref d)]) hx hb dX0_wholeEnd_1 rfl hl (by decide) rfl (fun ls hl2 => ?_)
  replace hl := hl2; clear hl2
  refine lv_iconst (v := nI 0) hx hb dX0_wholeEnd_2 (by decide) ?_
  refine lv_istore_n (lv' := [(2, .int (nI 0)), (1, .int (nI 0)), (0, .ref d)]) hx hb dX0_wholeEnd_3 rfl hl (by decide) rfl (fun ls hl2 => ?_)
  replace hl := hl2; clear hl2
  have L_4 : ∀ (n9 : Nat) (k : Nat) (H : Heap) (locs : List Loc) (ls : Array Slot), (121 - k) < n9 → (k ≤ 120) → va_P G.1 vwCl [(d, .inr (0, [.ref o, .int (nI n), .int (nI y)])), (o, .inl (G.2.1, 1200, .inl (nb g)))] H → va_D A [(d, .inr (0, [.ref o, .int (nI n), .int (nI y)])), (o, .inl (G.2.1, 1200, .inl (nb g)))] → va_S A sv.heap H locs → lv_has ls 3 [(0, .ref d), (1, .int (nI (wk g n k))), (2, .int (nI k))] → W prg l env ({ frames := 3, cells := 0, slots := 0, locals := 65 } : Room) sv mid args below meth cd H locs 0 0 Q (F0 mid 4 ls []) := by
    intro n9
    induction n9 with
    | zero => intro k H locs ls hmu; exact absurd hmu (Nat.not_lt_zero _)
    | succ n9 ih_4 =>
      intro k H locs ls hmu_4 hk hP hD hS hl
      have w1 := wk_le (g := g) (n := n) k
      refine lv_iload_n hx hb dX0_wholeEnd_4 rfl (lv_at hl 2 rfl) ?_
      refine lv_bipush (v := nI 120) hx hb dX0_wholeEnd_5 (by decide) ?_
      refine f_icmp_ge (tgt := 32) (by omega) (by omega) hx hb dX0_wholeEnd_7 (by decide) (fun c_7 => ?_) (fun c_7 => ?_)
      · skip
        refine lv_iload_n hx hb dX0_wholeEnd_32 rfl (lv_at hl 1 rfl) ?_
        exact hend (nI (wk g n k)) () _ _ _ _ rfl (by rw [show k = 120 by omega]) hP hD hS dX0_wholeEnd_33
      · skip
        refine lv_aload_n hx hb dX0_wholeEnd_10 rfl (lv_at hl 0 rfl) ?_
        refine lv_iload_n hx hb dX0_wholeEnd_11 rfl (lv_at hl 1 rfl) ?_
        refine fcVI (As := [.int (nI (wk g n k))]) (rest := []) (wr := []) (ws1 := fun (u : Unit) => [(d, .inr (0, [.ref o, .int (nI n), .int (nI y)])), (o, .inl (G.2.1, 1200, .inl (nb g)))]) ⟨hx, hb, hml, hown, hts⟩ hK hE hP hD hS hA hl.1 (kX0_isWhole l G d o g n y (wk g n k) (by omega) w1) (cwV 1 hts (gdV wm_27 wm_28 wm_29 wm_15 wm_18) rfl rfl rfl (by decide +kernel) ⟨Nat.le_of_ble_eq_true rfl, Nat.le_of_ble_eq_true rfl⟩) 0 rfl rfl rfl rfl (Nat.le_of_ble_eq_true rfl) dX0_wholeEnd_12 ⟨Nat.le_of_ble_eq_true rfl, Nat.le_of_ble_eq_true rfl⟩ [0, 1] [] [0, 1] rfl rfl rfl rfl (by decide) rfl (fun _ => rfl) (fun r_12 u_12 H_12 locs_12 hw_12 hP_12 hD_12 hS_12 => ?_)
        obtain rfl := hw_12
        replace hP : va_P G.1 vwCl [(d, .inr (0, [.ref o, .int (nI n), .int (nI y)])), (o, .inl (G.2.1, 1200, .inl (nb g)))] H_12 := hP_12
        replace hD : va_D A [(d, .inr (0, [.ref o, .int (nI n), .int (nI y)])), (o, .inl (G.2.1, 1200, .inl (nb g)))] := hD_12
        replace hS : va_S A sv.heap H_12 locs_12 := hS_12
        clear hP_12 hD_12 hS_12
        refine f_if_eqB (tgt := 32) hx hb dX0_wholeEnd_15 (by decide) (fun c_15 => ?_) (fun c_15 => ?_)
        · skip
          refine lv_iload_n hx hb dX0_wholeEnd_32 rfl (lv_at hl 1 rfl) ?_
          exact hend (nI (wk g n k)) () _ _ _ _ rfl (by rw [(wk_end (by omega) c_15).1]) hP hD hS dX0_wholeEnd_33
        · skip
          have w2 := whole_spec c_15
          refine lv_iload_n hx hb dX0_wholeEnd_18 rfl (lv_at hl 1 rfl) ?_
          refine lv_aload_n hx hb dX0_wholeEnd_19 rfl (lv_at hl 0 rfl) ?_
          refine lv_iload_n hx hb dX0_wholeEnd_20 rfl (lv_at hl 1 rfl) ?_
          refine fcVI (As := [.int (nI (wk g n k))]) (rest := [.int (nI (wk g n k))]) (wr := []) (ws1 := fun (u : Unit) => [(d, .inr (0, [.ref o, .int (nI n), .int (nI y)])), (o, .inl (G.2.1, 1200, .inl (nb g)))]) ⟨hx, hb, hml, hown, hts⟩ hK hE hP hD hS hA hl.1 (kX0_sizeAt l G d o g n y (wk g n k) (by omega) (by omega)) (cwV 1 hts (gdV wm_30 wm_31 wm_32 wm_15 wm_24) rfl rfl rfl (by decide +kernel) ⟨Nat.le_of_ble_eq_true rfl, Nat.le_of_ble_eq_true rfl⟩) 0 rfl rfl rfl rfl (Nat.le_of_ble_eq_true rfl) dX0_wholeEnd_21 ⟨Nat.le_of_ble_eq_true rfl, Nat.le_of_ble_eq_true rfl⟩ [0, 1] [] [0, 1] rfl rfl rfl rfl (by decide) rfl (fun _ => rfl) (fun r_21 u_21 H_21 locs_21 hw_21 hP_21 hD_21 hS_21 => ?_)
          obtain rfl := hw_21
          replace hP : va_P G.1 vwCl [(d, .inr (0, [.ref o, .int (nI n), .int (nI y)])), (o, .inl (G.2.1, 1200, .inl (nb g)))] H_21 := hP_21
          replace hD : va_D A [(d, .inr (0, [.ref o, .int (nI n), .int (nI y)])), (o, .inl (G.2.1, 1200, .inl (nb g)))] := hD_21
          replace hS : va_S A sv.heap H_21 locs_21 := hS_21
          clear hP_21 hD_21 hS_21
          refine lv_iadd hx hb dX0_wholeEnd_24 ?_
          refine f_top (y := nI (wk g n k + (10 + (g ((wk g n k) + 1)).toNat))) (nI_add _ _) ?_
          refine f_top (y := nI (wk g n (k + 1))) (by rw [wk_t c_15]) ?_
          refine lv_istore_n (lv' := [(1, .int (nI (wk g n (k + 1)))), (0, .ref d), (2, .int (nI k))]) hx hb dX0_wholeEnd_25 rfl hl (by decide) rfl (fun ls hl2 => ?_)
          replace hl := hl2; clear hl2
          refine lv_iinc (v := nI (k + 1)) (lv' := [(2, .int (nI (k + 1))), (1, .int (nI (wk g n (k + 1)))), (0, .ref d)]) hx hb dX0_wholeEnd_26 hl (k := 2) rfl (f_inc1 _) (by decide) rfl (fun ls hl2 => ?_)
          replace hl := hl2; clear hl2
          refine lv_goto (tgt := 4) hx hb dX0_wholeEnd_29 (by decide) ?_
          exact ih_4 (k + 1) _ _ _ (by omega) (by omega) hP hD hS (lv_sub hl [2, 1, 0] rfl)
  exact L_4 ((121 - 0) + 1) 0 _ _ _ (Nat.lt_succ_self _) (by omega) hP hD hS (lv_sub hl [2, 1, 0] rfl)

set_option maxRecDepth 100000 in
set_option maxHeartbeats 4000000 in
theorem kX0_nextIndex (l : Launch) (G : fG) (d : Nat) (o : Nat) (g : Nat → UInt8) (n : Nat) (y : Nat) (hn : n ≤ 1200) : fMI l yX0_nextIndex (.code yX0_nextIndex cX0_nextIndex 4 (some .int) :: wsA) ({ frames := 3, cells := 0, slots := 0, locals := 65 } : Room) G [.ref d] [(d, .inr (0, [.ref o, .int (nI n), .int (nI y)])), (o, .inl (G.2.1, 1200, .inl (nb g)))] (fun (r9 : Int32) (u : Unit) => r9 = nI (wx g n 120)) (fun (u : Unit) => [(d, .inr (0, [.ref o, .int (nI n), .int (nI y)])), (o, .inl (G.2.1, 1200, .inl (nb g)))]) 0 0 := by
  refine fI_start (cc := cX0_nextIndex) (maxL := 4) (by decide) rfl (Nat.le_of_ble_eq_true rfl) ?_
  intro prg env sv mid args below meth cd A Q ls hx hb hml hown hts hin hK hP hD hE hA hS hl hend
  replace hown : sv.vm.findClass RX0 = some mid.cls := hown
  replace hP : va_P G.1 vwCl [(d, .inr (0, [.ref o, .int (nI n), .int (nI y)])), (o, .inl (G.2.1, 1200, .inl (nb g)))] sv.heap := hP
  replace hl : lv_has ls 4 [(0, .ref d)] := hl
  refine lv_iconst (v := nI 0) hx hb dX0_nextIndex_0 (by decide) ?_
  refine lv_istore_n (lv' := [(1, .int (nI 0)), (0, .ref d)]) hx hb dX0_nextIndex_1 rfl hl (by decide) rfl (fun ls hl2 => ?_)
  replace hl := hl2; clear hl2
  refine lv_iconst (v := nI 0) hx hb dX0_nextIndex_2 (by decide) ?_
  refine lv_istore_n (lv' := [(2, .int (nI 0)), (1, .int (nI 0)), (0, .ref d)]) hx hb dX0_nextIndex_3 rfl hl (by decide) rfl (fun ls hl2 => ?_)
  replace hl := hl2; clear hl2
  refine lv_iconst (v := nI 0) hx hb dX0_nextIndex_4 (by decide) ?_
  refine lv_istore_n (lv' := [(3, .int (nI 0)), (2, .int (nI 0)), (1, .int (nI 0)), (0, .ref d)]) hx hb dX0_nextIndex_5 rfl hl (by decide) rfl (fun ls hl2 => ?_)
  replace hl := hl2; clear hl2
  have L_6 : ∀ (n9 : Nat) (k : Nat) (H : Heap) (locs : List Loc) (ls : Array Slot), (121 - k) < n9 → (k ≤ 120) → va_P G.1 vwCl [(d, .inr (0, [.ref o, .int (nI n), .int (nI y)])), (o, .inl (G.2.1, 1200, .inl (nb g)))] H → va_D A [(d, .inr (0, [.ref o, .int (nI n), .int (nI y)])), (o, .inl (G.2.1, 1200, .inl (nb g)))] → va_S A sv.heap H locs → lv_has ls 4 [(0, .ref d), (1, .int (nI (wx g n k))), (2, .int (nI (wk g n k))), (3, .int (nI k))] → W prg l env ({ frames := 3, cells := 0, slots := 0, locals := 65 } : Room) sv mid args below meth cd H locs 0 0 Q (F0 mid 6 ls []) := by
    intro n9
    induction n9 with
    | zero => intro k H locs ls hmu; exact absurd hmu (Nat.not_lt_zero _)
    | succ n9 ih_6 =>
      intro k H locs ls hmu_6 hk hP hD hS hl
      have w1 := wk_le (g := g) (n := n) k
      refine lv_iload_n hx hb dX0_nextIndex_6 rfl (lv_at hl 3 rfl) ?_
      refine lv_bipush (v := nI 120) hx hb dX0_nextIndex_7 (by decide) ?_
      refine f_icmp_ge (tgt := 44) (by omega) (by omega) hx hb dX0_nextIndex_9 (by decide) (fun c_9 => ?_) (fun c_9 => ?_)
      · skip
        refine lv_iload_n hx hb dX0_nextIndex_44 rfl (lv_at hl 1 rfl) ?_
        exact hend (nI (wx g n k)) () _ _ _ _ rfl (by rw [show k = 120 by omega]) hP hD hS dX0_nextIndex_45
      · skip
        refine lv_aload_n hx hb dX0_nextIndex_12 rfl (lv_at hl 0 rfl) ?_
        refine lv_iload_n hx hb dX0_nextIndex_13 rfl (lv_at hl 2 rfl) ?_
        refine fcVI (As := [.int (nI (wk g n k))]) (rest := []) (wr := []) (ws1 := fun (u : Unit) => [(d, .inr (0, [.ref o, .int (nI n), .int (nI y)])), (o, .inl (G.2.1, 1200, .inl (nb g)))]) ⟨hx, hb, hml, hown, hts⟩ hK hE hP hD hS hA hl.1 (kX0_isWhole l G d o g n y (wk g n k) (by omega) w1) (cwV 1 hts (gdV wm_27 wm_28 wm_29 wm_15 wm_18) rfl rfl rfl (by decide +kernel) ⟨Nat.le_of_ble_eq_true rfl, Nat.le_of_ble_eq_true rfl⟩) 0 rfl rfl rfl rfl (Nat.le_of_ble_eq_true rfl) dX0_nextIndex_14 ⟨Nat.le_of_ble_eq_true rfl, Nat.le_of_ble_eq_true rfl⟩ [0, 1] [] [0, 1] rfl rfl rfl rfl (by decide) rfl (fun _ => rfl) (fun r_14 u_14 H_14 locs_14 hw_14 hP_14 hD_14 hS_14 => ?_)
        obtain rfl := hw_14
        replace hP : va_P G.1 vwCl [(d, .inr (0, [.ref o, .int (nI n), .int (nI y)])), (o, .inl (G.2.1, 1200, .inl (nb g)))] H_14 := hP_14
        replace hD : va_D A [(d, .inr (0, [.ref o, .int (nI n), .int (nI y)])), (o, .inl (G.2.1, 1200, .inl (nb g)))] := hD_14
        replace hS : va_S A sv.heap H_14 locs_14 := hS_14
        clear hP_14 hD_14 hS_14
        refine f_if_eqB (tgt := 44) hx hb dX0_nextIndex_17 (by decide) (fun c_17 => ?_) (fun c_17 => ?_)
        · skip
          refine lv_iload_n hx hb dX0_nextIndex_44 rfl (lv_at hl 1 rfl) ?_
          exact hend (nI (wx g n k)) () _ _ _ _ rfl (by rw [(wk_end (by omega) c_17).2]) hP hD hS dX0_nextIndex_45
        · skip
          have w2 := whole_spec c_17
          refine lv_iload_n hx hb dX0_nextIndex_20 rfl (lv_at hl 1 rfl) ?_
          refine lv_aload_n hx hb dX0_nextIndex_21 rfl (lv_at hl 0 rfl) ?_
          refine lv_iload_n hx hb dX0_nextIndex_22 rfl (lv_at hl 2 rfl) ?_
          refine fcVI (As := [.int (nI (wk g n k))]) (rest := [.int (nI (wx g n k))]) (wr := []) (ws1 := fun (u : Unit) => [(d, .inr (0, [.ref o, .int (nI n), .int (nI y)])), (o, .inl (G.2.1, 1200, .inl (nb g)))]) ⟨hx, hb, hml, hown, hts⟩ hK hE hP hD hS hA hl.1 (kX0_passedOverAt l G d o g n y (wk g n k) (by omega) (by omega)) (cwV 1 hts (gdV wm_34 wm_35 wm_36 wm_15 wm_25) rfl rfl rfl (by decide +kernel) ⟨Nat.le_of_ble_eq_true rfl, Nat.le_of_ble_eq_true rfl⟩) 0 rfl rfl rfl rfl (Nat.le_of_ble_eq_true rfl) dX0_nextIndex_23 ⟨Nat.le_of_ble_eq_true rfl, Nat.le_of_ble_eq_true rfl⟩ [0, 1] [] [0, 1] rfl rfl rfl rfl (by decide) rfl (fun _ => rfl) (fun r_23 u_23 H_23 locs_23 hw_23 hP_23 hD_23 hS_23 => ?_)
          obtain rfl := hw_23
          replace hP : va_P G.1 vwCl [(d, .inr (0, [.ref o, .int (nI n), .int (nI y)])), (o, .inl (G.2.1, 1200, .inl (nb g)))] H_23 := hP_23
          replace hD : va_D A [(d, .inr (0, [.ref o, .int (nI n), .int (nI y)])), (o, .inl (G.2.1, 1200, .inl (nb g)))] := hD_23
          replace hS : va_S A sv.heap H_23 locs_23 := hS_23
          clear hP_23 hD_23 hS_23
          refine lv_iconst (v := nI 1) hx hb dX0_nextIndex_26 (by decide) ?_
          refine lv_iadd hx hb dX0_nextIndex_27 ?_
          refine f_top (y := nI (pas g (wk g n k) + 1)) (nI_add _ _) ?_
          refine lv_iadd hx hb dX0_nextIndex_28 ?_
          refine f_top (y := nI (wx g n k + (pas g (wk g n k) + 1))) (nI_add _ _) ?_
          refine f_top (y := nI (wx g n (k + 1))) (by rw [wx_t c_17]) ?_
          refine lv_istore_n (lv' := [(1, .int (nI (wx g n (k + 1)))), (0, .ref d), (2, .int (nI (wk g n k))), (3, .int (nI k))]) hx hb dX0_nextIndex_29 rfl hl (by decide) rfl (fun ls hl2 => ?_)
          replace hl := hl2; clear hl2
          refine lv_iload_n hx hb dX0_nextIndex_30 rfl (lv_at hl 2 rfl) ?_
          refine lv_aload_n hx hb dX0_nextIndex_31 rfl (lv_at hl 1 rfl) ?_
          refine lv_iload_n hx hb dX0_nextIndex_32 rfl (lv_at hl 2 rfl) ?_
          refine fcVI (As := [.int (nI (wk g n k))]) (rest := [.int (nI (wk g n k))]) (wr := []) (ws1 := fun (u : Unit) => [(d, .inr (0, [.ref o, .int (nI n), .int (nI y)])), (o, .inl (G.2.1, 1200, .inl (nb g)))]) ⟨hx, hb, hml, hown, hts⟩ hK hE hP hD hS hA hl.1 (kX0_sizeAt l G d o g n y (wk g n k) (by omega) (by omega)) (cwV 1 hts (gdV wm_30 wm_31 wm_32 wm_15 wm_24) rfl rfl rfl (by decide +kernel) ⟨Nat.le_of_ble_eq_true rfl, Nat.le_of_ble_eq_true rfl⟩) 0 rfl rfl rfl rfl (Nat.le_of_ble_eq_true rfl) dX0_nextIndex_33 ⟨Nat.le_of_ble_eq_true rfl, Nat.le_of_ble_eq_true rfl⟩ [0, 1] [] [0, 1] rfl rfl rfl rfl (by decide) rfl (fun _ => rfl) (fun r_33 u_33 H_33 locs_33 hw_33 hP_33 hD_33 hS_33 => ?_)
          obtain rfl := hw_33
          replace hP : va_P G.1 vwCl [(d, .inr (0, [.ref o, .int (nI n), .int (nI y)])), (o, .inl (G.2.1, 1200, .inl (nb g)))] H_33 := hP_33
          replace hD : va_D A [(d, .inr (0, [.ref o, .int (nI n), .int (nI y)])), (o, .inl (G.2.1, 1200, .inl (nb g)))] := hD_33
          replace hS : va_S A sv.heap H_33 locs_33 := hS_33
          clear hP_33 hD_33 hS_33
          refine lv_iadd hx hb dX0_nextIndex_36 ?_
          refine f_top (y := nI (wk g n k + (10 + (g ((wk g n k) + 1)).toNat))) (nI_add _ _) ?_
          refine f_top (y := nI (wk g n (k + 1))) (by rw [wk_t c_17]) ?_
          refine lv_istore_n (lv' := [(2, .int (nI (wk g n (k + 1)))), (1, .int (nI (wx g n (k + 1)))), (0, .ref d), (3, .int (nI k))]) hx hb dX0_nextIndex_37 rfl hl (by decide) rfl (fun ls hl2 => ?_)
          replace hl := hl2; clear hl2
          refine lv_iinc (v := nI (k + 1)) (lv' := [(3, .int (nI (k + 1))), (2, .int (nI (wk g n (k + 1)))), (1, .int (nI (wx g n (k + 1)))), (0, .ref d)]) hx hb dX0_nextIndex_38 hl (k := 3) rfl (f_inc1 _) (by decide) rfl (fun ls hl2 => ?_)
          replace hl := hl2; clear hl2
          refine lv_goto (tgt := 6) hx hb dX0_nextIndex_41 (by decide) ?_
          exact ih_6 (k + 1) _ _ _ (by omega) (by omega) hP hD hS (lv_sub hl [3, 2, 1, 0] rfl)
  exact L_6 ((121 - 0) + 1) 0 _ _ _ (Nat.lt_succ_self _) (by omega) hP hD hS (lv_sub hl [3, 2, 1, 0] rfl)

set_option maxRecDepth 100000 in
set_option maxHeartbeats 4000000 in
theorem kX0_tagBefore (l : Launch) (G : fG) (d : Nat) (o : Nat) (g : Nat → UInt8) (n : Nat) (y : Nat) (a : Nat) (r : Nat) (t : Nat → UInt8) (hn : n ≤ 1200) (ha : a = 0 ∨ (8 ≤ a ∧ a ≤ n)) : fMV l yX0_tagBefore (.code yX0_tagBefore cX0_tagBefore 4 none :: wsA) ({ frames := 2, cells := 0, slots := 0, locals := 42 } : Room) G [.ref d, .int (nI a), .ref r] [(d, .inr (0, [.ref o, .int (nI n), .int (nI y)])), (o, .inl (G.2.1, 1200, .inl (nb g))), (r, .inl (G.2.1, 8, .inl (nb t)))] (fun (u : Unit) => True) (fun (u : Unit) => [(d, .inr (0, [.ref o, .int (nI n), .int (nI y)])), (o, .inl (G.2.1, 1200, .inl (nb g))), (r, .inl (G.2.1, 8, .inl (nb (tgB g a))))]) 0 0 := by
  refine fV_start (cc := cX0_tagBefore) (maxL := 4) (by decide) rfl (Nat.le_of_ble_eq_true rfl) ?_
  intro prg env sv mid args below meth cd A Q ls hx hb hml hown hts hin hK hP hD hE hA hS hl hend
  replace hown : sv.vm.findClass RX0 = some mid.cls := hown
  replace hP : va_P G.1 vwCl [(d, .inr (0, [.ref o, .int (nI n), .int (nI y)])), (o, .inl (G.2.1, 1200, .inl (nb g))), (r, .inl (G.2.1, 8, .inl (nb t)))] sv.heap := hP
  replace hl : lv_has ls 4 [(0, .ref d), (1, .int (nI a)), (2, .ref r)] := hl
  refine lv_iconst (v := nI 0) hx hb dX0_tagBefore_0 (by decide) ?_
  refine lv_istore_n (lv' := [(3, .int (nI 0)), (0, .ref d), (1, .int (nI a)), (2, .ref r)]) hx hb dX0_tagBefore_1 rfl hl (by decide) rfl (fun ls hl2 => ?_)
  replace hl := hl2; clear hl2
  have L_2 : ∀ (n9 : Nat) (k : Nat) (t1 : Nat → UInt8) (H : Heap) (locs : List Loc) (ls : Array Slot), (9 - k) < n9 → (k ≤ 8) → (∀ j, j < k → t1 j = tgB g a j) → va_P G.1 vwCl [(d, .inr (0, [.ref o, .int (nI n), .int (nI y)])), (o, .inl (G.2.1, 1200, .inl (nb g))), (r, .inl (G.2.1, 8, .inl (nb t1)))] H → va_D A [(d, .inr (0, [.ref o, .int (nI n), .int (nI y)])), (o, .inl (G.2.1, 1200, .inl (nb g))), (r, .inl (G.2.1, 8, .inl (nb t1)))] → va_S A sv.heap H locs → lv_has ls 4 [(0, .ref d), (1, .int (nI a)), (2, .ref r), (3, .int (nI k))] → W prg l env ({ frames := 2, cells := 0, slots := 0, locals := 42 } : Room) sv mid args below meth cd H locs 0 0 Q (F0 mid 2 ls []) := by
    intro n9
    induction n9 with
    | zero => intro k t1 H locs ls hmu; exact absurd hmu (Nat.not_lt_zero _)
    | succ n9 ih_2 =>
      intro k t1 H locs ls hmu_2 hk ht hP hD hS hl
      refine lv_iload_n hx hb dX0_tagBefore_2 rfl (lv_at hl 3 rfl) ?_
      refine lv_bipush (v := nI 8) hx hb dX0_tagBefore_3 (by decide) ?_
      refine f_icmp_ge (tgt := 37) (by omega) (by omega) hx hb dX0_tagBefore_5 (by decide) (fun c_5 => ?_) (fun c_5 => ?_)
      · skip
        replace hP : va_P G.1 vwCl [(d, .inr (0, [.ref o, .int (nI n), .int (nI y)])), (o, .inl (G.2.1, 1200, .inl (nb g))), (r, .inl (G.2.1, 8, .inl (nb (tgB g a))))] H := f_row hP 2 rfl (nb (tgB g a)) (fun j hj => congrArg bI (ht j (by omega)))
        replace hD : va_D A [(d, .inr (0, [.ref o, .int (nI n), .int (nI y)])), (o, .inl (G.2.1, 1200, .inl (nb g))), (r, .inl (G.2.1, 8, .inl (nb (tgB g a))))] := f_rowD hD 2 rfl
        exact hend () _ _ _ _ trivial hP hD hS dX0_tagBefore_37
      · skip
        refine lv_iload_n hx hb dX0_tagBefore_8 rfl (lv_at hl 3 rfl) ?_
        refine lv_aload_n hx hb dX0_tagBefore_9 rfl (lv_at hl 2 rfl) ?_
        refine va_alen (x := _) (v := nI 8) hx hb hK hP 2 0 rfl rfl rfl dX0_tagBefore_10 ?_
        refine f_icmp_ge (tgt := 37) (by omega) (by omega) hx hb dX0_tagBefore_11 (by decide) (fun c_11 => ?_) (fun c_11 => ?_)
        · skip
          exfalso; omega
        · skip
          refine lv_aload_n hx hb dX0_tagBefore_14 rfl (lv_at hl 2 rfl) ?_
          refine lv_iload_n hx hb dX0_tagBefore_15 rfl (lv_at hl 3 rfl) ?_
          refine lv_iconst (v := nI 0) hx hb dX0_tagBefore_16 (by decide) ?_
          refine lv_aload_n hx hb dX0_tagBefore_17 rfl (lv_at hl 0 rfl) ?_
          refine lv_iload_n hx hb dX0_tagBefore_18 rfl (lv_at hl 1 rfl) ?_
          refine lv_bipush (v := nI 8) hx hb dX0_tagBefore_19 (by decide) ?_
          refine lv_isub hx hb dX0_tagBefore_21 ?_
          refine lv_iload_n hx hb dX0_tagBefore_22 rfl (lv_at hl 3 rfl) ?_
          refine lv_iadd hx hb dX0_tagBefore_23 ?_
          refine fcVI (As := [.int (((nI a) - (nI 8)) + (nI k))]) (rest := [.int (nI 0), .int (nI k), .ref r]) (wr := [(r, .inl (G.2.1, 8, .inl (nb t1)))]) (ws1 := fun (u : Unit) => [(d, .inr (0, [.ref o, .int (nI n), .int (nI y)])), (o, .inl (G.2.1, 1200, .inl (nb g))), (r, .inl (G.2.1, 8, .inl (nb t1)))]) ⟨hx, hb, hml, hown, hts⟩ hK hE hP hD hS hA hl.1 (kX0_octetAt l G d o g n y (((nI a) - (nI 8)) + (nI k)) (by omega)) (cwV 1 hts (gdV wm_19 wm_20 wm_21 wm_15 wm_11) rfl rfl rfl (by decide +kernel) ⟨Nat.le_of_ble_eq_true rfl, Nat.le_of_ble_eq_true rfl⟩) 0 rfl rfl rfl rfl (Nat.le_of_ble_eq_true rfl) dX0_tagBefore_24 ⟨Nat.le_of_ble_eq_true rfl, Nat.le_of_ble_eq_true rfl⟩ [0, 1] [2] [1, 2, 0] rfl rfl rfl rfl (by decide) rfl (fun _ => rfl) (fun r_24 u_24 H_24 locs_24 hw_24 hP_24 hD_24 hS_24 => ?_)
          obtain rfl := hw_24
          replace hP : va_P G.1 vwCl [(d, .inr (0, [.ref o, .int (nI n), .int (nI y)])), (o, .inl (G.2.1, 1200, .inl (nb g))), (r, .inl (G.2.1, 8, .inl (nb t1)))] H_24 := hP_24
          replace hD : va_D A [(d, .inr (0, [.ref o, .int (nI n), .int (nI y)])), (o, .inl (G.2.1, 1200, .inl (nb g))), (r, .inl (G.2.1, 8, .inl (nb t1)))] := hD_24
          replace hS : va_S A sv.heap H_24 locs_24 := hS_24
          clear hP_24 hD_24 hS_24
          refine va_mmax hx hb (hml.trans hl.1.symm) hown (hts _ wm_38) (hts _ wm_39) (hts _ wm_40) (hts _ wm_41) (Nat.le_of_ble_eq_true rfl) (Nat.le_of_ble_eq_true rfl) (Nat.le_of_ble_eq_true rfl) (Nat.le_of_ble_eq_true rfl) dX0_tagBefore_27 ?_
          refine f_top (y := bI (tgB g a k)) (tg_val hn ha (by omega)) ?_
          refine f_iast hx hb hK hP hD hS 2 rfl (by omega) (by decide) dX0_tagBefore_30 (fun H_30 locs_30 hP_30 hD_30 hS_30 => ?_)
          replace hP_30 : va_P G.1 vwCl [(d, .inr (0, [.ref o, .int (nI n), .int (nI y)])), (o, .inl (G.2.1, 1200, .inl (nb g))), (r, .inl (G.2.1, 8, .inl (nb (upb t1 k (tgB g a k)))))] H_30 := by have h9 := hP_30; rw [upd_nb] at h9; exact h9
          replace hD_30 : va_D A [(d, .inr (0, [.ref o, .int (nI n), .int (nI y)])), (o, .inl (G.2.1, 1200, .inl (nb g))), (r, .inl (G.2.1, 8, .inl (nb (upb t1 k (tgB g a k)))))] := hD.set (p := 2) rfl
          replace hP : va_P G.1 vwCl [(d, .inr (0, [.ref o, .int (nI n), .int (nI y)])), (o, .inl (G.2.1, 1200, .inl (nb g))), (r, .inl (G.2.1, 8, .inl (nb (upb t1 k (tgB g a k)))))] H_30 := hP_30
          replace hD : va_D A [(d, .inr (0, [.ref o, .int (nI n), .int (nI y)])), (o, .inl (G.2.1, 1200, .inl (nb g))), (r, .inl (G.2.1, 8, .inl (nb (upb t1 k (tgB g a k)))))] := hD_30
          replace hS : va_S A sv.heap H_30 locs_30 := hS_30
          clear hP_30 hD_30 hS_30
          refine lv_iinc (v := nI (k + 1)) (lv' := [(3, .int (nI (k + 1))), (0, .ref d), (1, .int (nI a)), (2, .ref r)]) hx hb dX0_tagBefore_31 hl (k := 3) rfl (f_inc1 _) (by decide) rfl (fun ls hl2 => ?_)
          replace hl := hl2; clear hl2
          refine lv_goto (tgt := 2) hx hb dX0_tagBefore_34 (by decide) ?_
          exact ih_2 (k + 1) (upb t1 k (tgB g a k)) _ _ _ (by omega) (by omega) (upb_ext ht) hP hD hS (lv_sub hl [1, 2, 3, 0] rfl)
  exact L_2 ((9 - 0) + 1) 0 t _ _ _ (Nat.lt_succ_self _) (by omega) (fun j hj => absurd hj (Nat.not_lt_zero _)) hP hD hS (lv_sub hl [1, 2, 3, 0] rfl)
