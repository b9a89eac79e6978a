set_option maxRecDepth 100000 in
set_option maxHeartbeats 4000000 in
theorem kX3_partOf_in (l : Launch) (G : fG) (ve : Nat) (tb : Nat) (sd : Nat) (so : Nat) (bg : Nat) (ix : Nat) (c : Nat) (ko : Nat) (key : Nat → UInt8) (i : Nat) (hr : Nat) (gd : Nat) (bd : Int32) (pq1 : Nat) (tbf : Nat → UInt8) (sg : Nat → UInt8) (sn : Nat) (sy : Nat) (B : Nat → Nat) (X : Nat → Nat) (r : Nat) (w : Nat) (hv : okV sg sn gd B) (hw : w ≤ 42) (hrr : r < gd) : fMI l yX3_partOf (.code yX3_partOf cX3_partOf 5 (some .int) :: wsA) ({ frames := 2, cells := 0, slots := 0, locals := 42 } : Room) G [.ref ve, .int (nI r), .int (nI w)] [(ve, .inr (3, [.ref c, .ref tb, .ref sd, .ref bg, .ref ix, .int (nI hr), .int (nI gd), .int bd, .int (nI pq1)])), (c, .inr (2, [.ref ko, .int (nI i)])), (ko, .inl (G.2.1, 16, .inl (nb key))), (tb, .inl (G.2.1, 8, .inl (nb tbf))), (sd, .inr (0, [.ref so, .int (nI sn), .int (nI sy)])), (so, .inl (G.2.1, 1200, .inl (nb sg))), (bg, .inl (G.2.1, 120, .inl (nn B))), (ix, .inl (G.2.1, 120, .inl (nn X)))] (fun (r9 : Int32) (u : Unit) => r9 = partV sg B X r w) (fun (u : Unit) => [(ve, .inr (3, [.ref c, .ref tb, .ref sd, .ref bg, .ref ix, .int (nI hr), .int (nI gd), .int bd, .int (nI pq1)])), (c, .inr (2, [.ref ko, .int (nI i)])), (ko, .inl (G.2.1, 16, .inl (nb key))), (tb, .inl (G.2.1, 8, .inl (nb tbf))), (sd, .inr (0, [.ref so, .int (nI sn), .int (nI sy)])), (so, .inl (G.2.1, 1200, .inl (nb sg))), (bg, .inl (G.2.1, 120, .inl (nn B))), (ix, .inl (G.2.1, 120, .inl (nn X)))]) 0 0 := by
  refine fI_start (cc := cX3_partOf) (maxL := 5) (by decide) rfl (Nat.le_of_ble_eq_true rfl) ?_
  intro prg env sv mid args below meth cd A Q ls hx hb hml hown hts hin hK hP hD hE hA hS hl hend
  replace hown : sv.vm.findClass RX3 = some mid.cls := hown
  replace hP : va_P G.1 vwCl [(ve, .inr (3, [.ref c, .ref tb, .ref sd, .ref bg, .ref ix, .int (nI hr), .int (nI gd), .int bd, .int (nI pq1)])), (c, .inr (2, [.ref ko, .int (nI i)])), (ko, .inl (G.2.1, 16, .inl (nb key))), (tb, .inl (G.2.1, 8, .inl (nb tbf))), (sd, .inr (0, [.ref so, .int (nI sn), .int (nI sy)])), (so, .inl (G.2.1, 1200, .inl (nb sg))), (bg, .inl (G.2.1, 120, .inl (nn B))), (ix, .inl (G.2.1, 120, .inl (nn X)))] sv.heap := hP
  replace hl : lv_has ls 5 [(0, .ref ve), (1, .int (nI r)), (2, .int (nI w))] := hl
  obtain ⟨hv1, hv2, hv3⟩ := hv
  refine lv_iload_n hx hb dX3_partOf_0 rfl (lv_at hl 1 rfl) ?_
  refine f_if_lt (tgt := 18) (by omega) hx hb dX3_partOf_1 (by decide) ?_
  refine lv_iload_n hx hb dX3_partOf_4 rfl (lv_at hl 1 rfl) ?_
  refine lv_aload_n hx hb dX3_partOf_5 rfl (lv_at hl 0 rfl) ?_
  refine va_get (D := G.1) (ci := 3) (v := .int (nI gd)) (C := RX3) (T := TX3) (N := 9) hx hb hts in_wsX30 hown hK hP 0 rfl rfl 6 (by decide) (hts _ wm_98) (fun _ h9 => h9) rfl dX3_partOf_6 ?_
  refine f_icmp_ge (tgt := 18) (by omega) (by omega) hx hb dX3_partOf_9 (by decide) (fun c_9 => ?_) (fun c_9 => ?_)
  · skip
    exfalso; omega
  · skip
    refine lv_iload_n hx hb dX3_partOf_12 rfl (lv_at hl 1 rfl) ?_
    refine lv_bipush (v := nI 120) hx hb dX3_partOf_13 (by decide) ?_
    refine f_icmp_lt (tgt := 20) (by omega) (by omega) hx hb dX3_partOf_15 (by decide) (fun c_15 => ?_) (fun c_15 => ?_)
    · skip
      have hv4 := hv3 r hrr
      have z0 := bI_lt (sg (B r + 1))
      refine lv_aload_n hx hb dX3_partOf_20 rfl (lv_at hl 0 rfl) ?_
      refine va_get (D := G.1) (ci := 3) (v := .ref bg) (C := RX3) (T := TX3) (N := 9) hx hb hts in_wsX30 hown hK hP 0 rfl rfl 3 (by decide) (hts _ wm_114) (fun _ h9 => h9) rfl dX3_partOf_21 ?_
      refine lv_iload_n hx hb dX3_partOf_24 rfl (lv_at hl 1 rfl) ?_
      refine f_iald (v := nI (B r)) hx hb hK hP 6 rfl (by omega) (by decide) rfl dX3_partOf_25 ?_
      refine lv_istore_n (lv' := [(3, .int (nI (B r))), (0, .ref ve), (1, .int (nI r)), (2, .int (nI w))]) hx hb dX3_partOf_26 rfl hl (by decide) rfl (fun ls hl2 => ?_)
      replace hl := hl2; clear hl2
      refine lv_iload_n hx hb dX3_partOf_27 rfl (lv_at hl 3 rfl) ?_
      refine f_if_ne (tgt := 40) (by omega) hx hb dX3_partOf_28 (by decide) (fun c_28 => ?_) (fun c_28 => ?_)
      · skip
        refine lv_iload_n hx hb dX3_partOf_40 rfl (lv_at hl 3 rfl) ?_
        refine lv_iconst (v := nI 1) hx hb dX3_partOf_41 (by decide) ?_
        refine f_icmp_ne (tgt := 52) (by omega) (by omega) hx hb dX3_partOf_42 (by decide) (fun c_42 => ?_) (fun c_42 => ?_)
        · skip
          refine lv_aload_n hx hb dX3_partOf_52 rfl (lv_at hl 1 rfl) ?_
          refine va_get (D := G.1) (ci := 3) (v := .ref sd) (C := RX3) (T := TX3) (N := 9) hx hb hts in_wsX30 hown hK hP 0 rfl rfl 2 (by decide) (hts _ wm_101) (fun _ h9 => h9) rfl dX3_partOf_53 ?_
          refine lv_iload_n hx hb dX3_partOf_56 rfl (lv_at hl 0 rfl) ?_
          refine lv_iconst (v := nI 1) hx hb dX3_partOf_57 (by decide) ?_
          refine lv_iadd hx hb dX3_partOf_58 ?_
          refine f_top (y := nI (B r + 1)) (nI_add _ _) ?_
          refine fcVI (As := [.int (nI (B r + 1))]) (rest := []) (wr := [(ve, .inr (3, [.ref c, .ref tb, .ref sd, .ref bg, .ref ix, .int (nI hr), .int (nI gd), .int bd, .int (nI pq1)])), (c, .inr (2, [.ref ko, .int (nI i)])), (ko, .inl (G.2.1, 16, .inl (nb key))), (tb, .inl (G.2.1, 8, .inl (nb tbf))), (bg, .inl (G.2.1, 120, .inl (nn B))), (ix, .inl (G.2.1, 120, .inl (nn X)))]) (ws1 := fun (u : Unit) => [(ve, .inr (3, [.ref c, .ref tb, .ref sd, .ref bg, .ref ix, .int (nI hr), .int (nI gd), .int bd, .int (nI pq1)])), (c, .inr (2, [.ref ko, .int (nI i)])), (ko, .inl (G.2.1, 16, .inl (nb key))), (tb, .inl (G.2.1, 8, .inl (nb tbf))), (sd, .inr (0, [.ref so, .int (nI sn), .int (nI sy)])), (so, .inl (G.2.1, 1200, .inl (nb sg))), (bg, .inl (G.2.1, 120, .inl (nn B))), (ix, .inl (G.2.1, 120, .inl (nn X)))]) ⟨hx, hb, hml, hown, hts⟩ hK hE hP hD hS hA hl.1 (kX0_octetAt_in l G sd so sg sn sy (B r + 1) hv1 (by omega)) (cwV 1 hts (gdV wm_127 wm_20 wm_21 wm_15 wm_11) rfl rfl rfl (by decide +kernel) ⟨Nat.le_of_ble_eq_true rfl, Nat.le_of_ble_eq_true rfl⟩) 4 rfl rfl rfl rfl (Nat.le_of_ble_eq_true rfl) dX3_partOf_59 ⟨Nat.le_of_ble_eq_true rfl, Nat.le_of_ble_eq_true rfl⟩ [4, 5] [0, 1, 2, 3, 6, 7] [0, 1, 2, 3, 6, 7, 4, 5] rfl rfl rfl rfl (by decide) rfl (fun _ => rfl) (fun r_59 u_59 H_59 locs_59 hw_59 hP_59 hD_59 hS_59 => ?_)
          obtain rfl := hw_59
          replace hP : va_P G.1 vwCl [(ve, .inr (3, [.ref c, .ref tb, .ref sd, .ref bg, .ref ix, .int (nI hr), .int (nI gd), .int bd, .int (nI pq1)])), (c, .inr (2, [.ref ko, .int (nI i)])), (ko, .inl (G.2.1, 16, .inl (nb key))), (tb, .inl (G.2.1, 8, .inl (nb tbf))), (sd, .inr (0, [.ref so, .int (nI sn), .int (nI sy)])), (so, .inl (G.2.1, 1200, .inl (nb sg))), (bg, .inl (G.2.1, 120, .inl (nn B))), (ix, .inl (G.2.1, 120, .inl (nn X)))] H_59 := hP_59
          replace hD : va_D A [(ve, .inr (3, [.ref c, .ref tb, .ref sd, .ref bg, .ref ix, .int (nI hr), .int (nI gd), .int bd, .int (nI pq1)])), (c, .inr (2, [.ref ko, .int (nI i)])), (ko, .inl (G.2.1, 16, .inl (nb key))), (tb, .inl (G.2.1, 8, .inl (nb tbf))), (sd, .inr (0, [.ref so, .int (nI sn), .int (nI sy)])), (so, .inl (G.2.1, 1200, .inl (nb sg))), (bg, .inl (G.2.1, 120, .inl (nn B))), (ix, .inl (G.2.1, 120, .inl (nn X)))] := hD_59
          replace hS : va_S A sv.heap H_59 locs_59 := hS_59
          clear hP_59 hD_59 hS_59
          refine lv_istore (lv' := [(4, .int (bI (sg (B r + 1)))), (3, .int (nI (B r))), (0, .ref ve), (1, .int (nI r)), (2, .int (nI w))]) hx hb dX3_partOf_62 hl (by decide) rfl (fun ls hl2 => ?_)
          replace hl := hl2; clear hl2
          refine lv_iload_n hx hb dX3_partOf_64 rfl (lv_at hl 4 rfl) ?_
          refine lv_iconst (v := nI 2) hx hb dX3_partOf_65 (by decide) ?_
          refine f_icmp_ne (tgt := 72) (by omega) (by omega) hx hb dX3_partOf_66 (by decide) (fun c_66 => ?_) (fun c_66 => ?_)
          · skip
            refine lv_iload_n hx hb dX3_partOf_72 rfl (lv_at hl 4 rfl) ?_
            refine lv_iconst (v := nI 3) hx hb dX3_partOf_73 (by decide) ?_
            refine lv_isub hx hb dX3_partOf_74 ?_
            refine f_top (y := nI (w - 3)) (pk_sub (by omega)) ?_
            refine lv_iload hx hb dX3_partOf_75 (lv_at hl 0 rfl) ?_
            refine f_icmp_ge (tgt := 95) (by omega) (by omega) hx hb dX3_partOf_77 (by decide) (fun c_77 => ?_) (fun c_77 => ?_)
            · skip
              refine lv_iconst (v := -1) hx hb dX3_partOf_95 (by decide) ?_
              exact hend (-1) () _ _ _ _ rfl (by unfold partV; rw [if_neg c_28, if_neg c_42, if_neg c_66, if_neg (by omega)]) hP hD hS dX3_partOf_96
            · skip
              refine lv_aload_n hx hb dX3_partOf_80 rfl (lv_at hl 2 rfl) ?_
              refine va_get (D := G.1) (ci := 3) (v := .ref sd) (C := RX3) (T := TX3) (N := 9) hx hb hts in_wsX30 hown hK hP 0 rfl rfl 2 (by decide) (hts _ wm_101) (fun _ h9 => h9) rfl dX3_partOf_81 ?_
              refine lv_iload_n hx hb dX3_partOf_84 rfl (lv_at hl 1 rfl) ?_
              refine lv_iload_n hx hb dX3_partOf_85 rfl (lv_at hl 4 rfl) ?_
              refine lv_iadd hx hb dX3_partOf_86 ?_
              refine f_top (y := nI (B r + w)) (nI_add _ _) ?_
              refine lv_iconst (v := nI 1) hx hb dX3_partOf_87 (by decide) ?_
              refine lv_isub hx hb dX3_partOf_88 ?_
              refine f_top (y := nI (B r + w - 1)) (pk_sub (by omega)) ?_
              refine fcVI (As := [.int (nI (B r + w - 1))]) (rest := []) (wr := [(ve, .inr (3, [.ref c, .ref tb, .ref sd, .ref bg, .ref ix, .int (nI hr), .int (nI gd), .int bd, .int (nI pq1)])), (c, .inr (2, [.ref ko, .int (nI i)])), (ko, .inl (G.2.1, 16, .inl (nb key))), (tb, .inl (G.2.1, 8, .inl (nb tbf))), (bg, .inl (G.2.1, 120, .inl (nn B))), (ix, .inl (G.2.1, 120, .inl (nn X)))]) (ws1 := fun (u : Unit) => [(ve, .inr (3, [.ref c, .ref tb, .ref sd, .ref bg, .ref ix, .int (nI hr), .int (nI gd), .int bd, .int (nI pq1)])), (c, .inr (2, [.ref ko, .int (nI i)])), (ko, .inl (G.2.1, 16, .inl (nb key))), (tb, .inl (G.2.1, 8, .inl (nb tbf))), (sd, .inr (0, [.ref so, .int (nI sn), .int (nI sy)])), (so, .inl (G.2.1, 1200, .inl (nb sg))), (bg, .inl (G.2.1, 120, .inl (nn B))), (ix, .inl (G.2.1, 120, .inl (nn X)))]) ⟨hx, hb, hml, hown, hts⟩ hK hE hP hD hS hA hl.1 (kX0_octetAt_in l G sd so sg sn sy (B r + w - 1) hv1 (by omega)) (cwV 1 hts (gdV wm_127 wm_20 wm_21 wm_15 wm_11) rfl rfl rfl (by decide +kernel) ⟨Nat.le_of_ble_eq_true rfl, Nat.le_of_ble_eq_true rfl⟩) 4 rfl rfl rfl rfl (Nat.le_of_ble_eq_true rfl) dX3_partOf_89 ⟨Nat.le_of_ble_eq_true rfl, Nat.le_of_ble_eq_true rfl⟩ [4, 5] [0, 1, 2, 3, 6, 7] [0, 1, 2, 3, 6, 7, 4, 5] rfl rfl rfl rfl (by decide) rfl (fun _ => rfl) (fun r_89 u_89 H_89 locs_89 hw_89 hP_89 hD_89 hS_89 => ?_)
              obtain rfl := hw_89
              replace hP : va_P G.1 vwCl [(ve, .inr (3, [.ref c, .ref tb, .ref sd, .ref bg, .ref ix, .int (nI hr), .int (nI gd), .int bd, .int (nI pq1)])), (c, .inr (2, [.ref ko, .int (nI i)])), (ko, .inl (G.2.1, 16, .inl (nb key))), (tb, .inl (G.2.1, 8, .inl (nb tbf))), (sd, .inr (0, [.ref so, .int (nI sn), .int (nI sy)])), (so, .inl (G.2.1, 1200, .inl (nb sg))), (bg, .inl (G.2.1, 120, .inl (nn B))), (ix, .inl (G.2.1, 120, .inl (nn X)))] H_89 := hP_89
              replace hD : va_D A [(ve, .inr (3, [.ref c, .ref tb, .ref sd, .ref bg, .ref ix, .int (nI hr), .int (nI gd), .int bd, .int (nI pq1)])), (c, .inr (2, [.ref ko, .int (nI i)])), (ko, .inl (G.2.1, 16, .inl (nb key))), (tb, .inl (G.2.1, 8, .inl (nb tbf))), (sd, .inr (0, [.ref so, .int (nI sn), .int (nI sy)])), (so, .inl (G.2.1, 1200, .inl (nb sg))), (bg, .inl (G.2.1, 120, .inl (nn B))), (ix, .inl (G.2.1, 120, .inl (nn X)))] := hD_89
              replace hS : va_S A sv.heap H_89 locs_89 := hS_89
              clear hP_89 hD_89 hS_89
              refine lv_goto (tgt := 96) hx hb dX3_partOf_92 (by decide) ?_
              exact hend (bI (sg (B r + w - 1))) () _ _ _ _ rfl (by unfold partV; rw [if_neg c_28, if_neg c_42, if_neg c_66, if_pos c_77, show B r + w - 1 = B r + w - 1 from rfl]) hP hD hS dX3_partOf_96
          · skip
            refine lv_iload hx hb dX3_partOf_69 (lv_at hl 0 rfl) ?_
            exact hend (bI (sg (B r + 1))) () _ _ _ _ rfl (by unfold partV; rw [if_neg c_28, if_neg c_42, if_pos c_66]) hP hD hS dX3_partOf_71
        · skip
          refine lv_aload_n hx hb dX3_partOf_45 rfl (lv_at hl 1 rfl) ?_
          refine va_get (D := G.1) (ci := 3) (v := .ref ix) (C := RX3) (T := TX3) (N := 9) hx hb hts in_wsX30 hown hK hP 0 rfl rfl 4 (by decide) (hts _ wm_115) (fun _ h9 => h9) rfl dX3_partOf_46 ?_
          refine lv_iload_n hx hb dX3_partOf_49 rfl (lv_at hl 2 rfl) ?_
          refine f_iald (v := nI (X r)) hx hb hK hP 7 rfl (by omega) (by decide) rfl dX3_partOf_50 ?_
          exact hend (nI (X r)) () _ _ _ _ rfl (by unfold partV; rw [if_neg c_28, if_pos c_42]) hP hD hS dX3_partOf_51
      · skip
        refine lv_aload_n hx hb dX3_partOf_31 rfl (lv_at hl 1 rfl) ?_
        refine va_get (D := G.1) (ci := 3) (v := .ref sd) (C := RX3) (T := TX3) (N := 9) hx hb hts in_wsX30 hown hK hP 0 rfl rfl 2 (by decide) (hts _ wm_101) (fun _ h9 => h9) rfl dX3_partOf_32 ?_
        refine lv_iload_n hx hb dX3_partOf_35 rfl (lv_at hl 0 rfl) ?_
        refine fcVI (As := [.int (nI (B r))]) (rest := []) (wr := [(ve, .inr (3, [.ref c, .ref tb, .ref sd, .ref bg, .ref ix, .int (nI hr), .int (nI gd), .int bd, .int (nI pq1)])), (c, .inr (2, [.ref ko, .int (nI i)])), (ko, .inl (G.2.1, 16, .inl (nb key))), (tb, .inl (G.2.1, 8, .inl (nb tbf))), (bg, .inl (G.2.1, 120, .inl (nn B))), (ix, .inl (G.2.1, 120, .inl (nn X)))]) (ws1 := fun (u : Unit) => [(ve, .inr (3, [.ref c, .ref tb, .ref sd, .ref bg, .ref ix, .int (nI hr), .int (nI gd), .int bd, .int (nI pq1)])), (c, .inr (2, [.ref ko, .int (nI i)])), (ko, .inl (G.2.1, 16, .inl (nb key))), (tb, .inl (G.2.1, 8, .inl (nb tbf))), (sd, .inr (0, [.ref so, .int (nI sn), .int (nI sy)])), (so, .inl (G.2.1, 1200, .inl (nb sg))), (bg, .inl (G.2.1, 120, .inl (nn B))), (ix, .inl (G.2.1, 120, .inl (nn X)))]) ⟨hx, hb, hml, hown, hts⟩ hK hE hP hD hS hA hl.1 (kX0_octetAt_in l G sd so sg sn sy (B r) hv1 (by omega)) (cwV 1 hts (gdV wm_127 wm_20 wm_21 wm_15 wm_11) rfl rfl rfl (by decide +kernel) ⟨Nat.le_of_ble_eq_true rfl, Nat.le_of_ble_eq_true rfl⟩) 4 rfl rfl rfl rfl (Nat.le_of_ble_eq_true rfl) dX3_partOf_36 ⟨Nat.le_of_ble_eq_true rfl, Nat.le_of_ble_eq_true rfl⟩ [4, 5] [0, 1, 2, 3, 6, 7] [0, 1, 2, 3, 6, 7, 4, 5] rfl rfl rfl rfl (by decide) rfl (fun _ => rfl) (fun r_36 u_36 H_36 locs_36 hw_36 hP_36 hD_36 hS_36 => ?_)
        obtain rfl := hw_36
        replace hP : va_P G.1 vwCl [(ve, .inr (3, [.ref c, .ref tb, .ref sd, .ref bg, .ref ix, .int (nI hr), .int (nI gd), .int bd, .int (nI pq1)])), (c, .inr (2, [.ref ko, .int (nI i)])), (ko, .inl (G.2.1, 16, .inl (nb key))), (tb, .inl (G.2.1, 8, .inl (nb tbf))), (sd, .inr (0, [.ref so, .int (nI sn), .int (nI sy)])), (so, .inl (G.2.1, 1200, .inl (nb sg))), (bg, .inl (G.2.1, 120, .inl (nn B))), (ix, .inl (G.2.1, 120, .inl (nn X)))] H_36 := hP_36
        replace hD : va_D A [(ve, .inr (3, [.ref c, .ref tb, .ref sd, .ref bg, .ref ix, .int (nI hr), .int (nI gd), .int bd, .int (nI pq1)])), (c, .inr (2, [.ref ko, .int (nI i)])), (ko, .inl (G.2.1, 16, .inl (nb key))), (tb, .inl (G.2.1, 8, .inl (nb tbf))), (sd, .inr (0, [.ref so, .int (nI sn), .int (nI sy)])), (so, .inl (G.2.1, 1200, .inl (nb sg))), (bg, .inl (G.2.1, 120, .inl (nn B))), (ix, .inl (G.2.1, 120, .inl (nn X)))] := hD_36
        replace hS : va_S A sv.heap H_36 locs_36 := hS_36
        clear hP_36 hD_36 hS_36
        exact hend (bI (sg (B r))) () _ _ _ _ rfl (by unfold partV; rw [if_pos c_28]) hP hD hS dX3_partOf_39
    · skip
      exfalso; omega

set_option maxRecDepth 100000 in
set_option maxHeartbeats 4000000 in
theorem kX3_partOf_out (l : Launch) (G : fG) (ve : Nat) (tb : Nat) (sd : Nat) (so : Nat) (bg : Nat) (ix : Nat) (c : Nat) (ko : Nat) (key : Nat → UInt8) (i : Nat) (hr : Nat) (gd : Nat) (bd : Int32) (pq1 : Nat) (tbf : Nat → UInt8) (sg : Nat → UInt8) (sn : Nat) (sy : Nat) (B : Nat → Nat) (X : Nat → Nat) (r : Int32) (w : Nat) (hrr : r < 0 ∨ nI gd ≤ r) : fMI l yX3_partOf (.code yX3_partOf cX3_partOf 5 (some .int) :: wsA) ({ frames := 2, cells := 0, slots := 0, locals := 42 } : Room) G [.ref ve, .int r, .int (nI w)] [(ve, .inr (3, [.ref c, .ref tb, .ref sd, .ref bg, .ref ix, .int (nI hr), .int (nI gd), .int bd, .int (nI pq1)])), (c, .inr (2, [.ref ko, .int (nI i)])), (ko, .inl (G.2.1, 16, .inl (nb key))), (tb, .inl (G.2.1, 8, .inl (nb tbf))), (sd, .inr (0, [.ref so, .int (nI sn), .int (nI sy)])), (so, .inl (G.2.1, 1200, .inl (nb sg))), (bg, .inl (G.2.1, 120, .inl (nn B))), (ix, .inl (G.2.1, 120, .inl (nn X)))] (fun (r9 : Int32) (u : Unit) => r9 = -1) (fun (u : Unit) => [(ve, .inr (3, [.ref c, .ref tb, .ref sd, .ref bg, .ref ix, .int (nI hr), .int (nI gd), .int bd, .int (nI pq1)])), (c, .inr (2, [.ref ko, .int (nI i)])), (ko, .inl (G.2.1, 16, .inl (nb key))), (tb, .inl (G.2.1, 8, .inl (nb tbf))), (sd, .inr (0, [.ref so, .int (nI sn), .int (nI sy)])), (so, .inl (G.2.1, 1200, .inl (nb sg))), (bg, .inl (G.2.1, 120, .inl (nn B))), (ix, .inl (G.2.1, 120, .inl (nn X)))]) 0 0 := by
  refine fI_start (cc := cX3_partOf) (maxL := 5) (by decide) rfl (Nat.le_of_ble_eq_true rfl) ?_
  intro prg env sv mid args below meth cd A Q ls hx hb hml hown hts hin hK hP hD hE hA hS hl hend
  replace hown : sv.vm.findClass RX3 = some mid.cls := hown
  replace hP : va_P G.1 vwCl [(ve, .inr (3, [.ref c, .ref tb, .ref sd, .ref bg, .ref ix, .int (nI hr), .int (nI gd), .int bd, .int (nI pq1)])), (c, .inr (2, [.ref ko, .int (nI i)])), (ko, .inl (G.2.1, 16, .inl (nb key))), (tb, .inl (G.2.1, 8, .inl (nb tbf))), (sd, .inr (0, [.ref so, .int (nI sn), .int (nI sy)])), (so, .inl (G.2.1, 1200, .inl (nb sg))), (bg, .inl (G.2.1, 120, .inl (nn B))), (ix, .inl (G.2.1, 120, .inl (nn X)))] sv.heap := hP
  replace hl : lv_has ls 5 [(0, .ref ve), (1, .int r), (2, .int (nI w))] := hl
  refine lv_iload_n hx hb dX3_partOf_0 rfl (lv_at hl 1 rfl) ?_
  refine lv_if_lt (tgt := 18) hx hb dX3_partOf_1 (by decide) (fun c_1 => ?_) (fun c_1 => ?_)
  · skip
    refine lv_iconst (v := -1) hx hb dX3_partOf_18 (by decide) ?_
    exact hend (-1) () _ _ _ _ rfl rfl hP hD hS dX3_partOf_19
  · skip
    refine lv_iload_n hx hb dX3_partOf_4 rfl (lv_at hl 1 rfl) ?_
    refine lv_aload_n hx hb dX3_partOf_5 rfl (lv_at hl 0 rfl) ?_
    refine va_get (D := G.1) (ci := 3) (v := .int (nI gd)) (C := RX3) (T := TX3) (N := 9) hx hb hts in_wsX30 hown hK hP 0 rfl rfl 6 (by decide) (hts _ wm_98) (fun _ h9 => h9) rfl dX3_partOf_6 ?_
    refine lv_icmp_ge (tgt := 18) hx hb dX3_partOf_9 (by decide) (fun c_9 => ?_) (fun c_9 => ?_)
    · skip
      refine lv_iconst (v := -1) hx hb dX3_partOf_18 (by decide) ?_
      exact hend (-1) () _ _ _ _ rfl rfl hP hD hS dX3_partOf_19
    · skip
      exfalso; rcases hrr with h | h; exact c_1 h; exact c_9 h

set_option maxRecDepth 100000 in
set_option maxHeartbeats 4000000 in
theorem kX3_answer (l : Launch) (G : fG) (ve : Nat) (tb : Nat) (sd : Nat) (so : Nat) (bg : Nat) (ix : Nat) (c : Nat) (ko : Nat) (key : Nat → UInt8) (i : Nat) (hr : Nat) (gd : Nat) (bd : Int32) (pq1 : Nat) (tbf : Nat → UInt8) (sg : Nat → UInt8) (sn : Nat) (sy : Nat) (B : Nat → Nat) (X : Nat → Nat) (w : Nat) (hv : okV sg sn gd B) (hw : w ≤ 4) (hh : hr ≤ 1) : fMI l yX3_answer (.code yX3_answer cX3_answer 2 (some .int) :: wsA) ({ frames := 3, cells := 0, slots := 0, locals := 66 } : Room) G [.ref ve, .int (nI w)] [(ve, .inr (3, [.ref c, .ref tb, .ref sd, .ref bg, .ref ix, .int (nI hr), .int (nI gd), .int bd, .int (nI pq1)])), (c, .inr (2, [.ref ko, .int (nI i)])), (ko, .inl (G.2.1, 16, .inl (nb key))), (tb, .inl (G.2.1, 8, .inl (nb tbf))), (sd, .inr (0, [.ref so, .int (nI sn), .int (nI sy)])), (so, .inl (G.2.1, 1200, .inl (nb sg))), (bg, .inl (G.2.1, 120, .inl (nn B))), (ix, .inl (G.2.1, 120, .inl (nn X)))] (fun (r9 : Int32) (u : Unit) => r9 = toldV hr gd bd pq1 sg B w) (fun (u : Unit) => [(ve, .inr (3, [.ref c, .ref tb, .ref sd, .ref bg, .ref ix, .int (nI hr), .int (nI gd), .int bd, .int (nI pq1)])), (c, .inr (2, [.ref ko, .int (nI i)])), (ko, .inl (G.2.1, 16, .inl (nb key))), (tb, .inl (G.2.1, 8, .inl (nb tbf))), (sd, .inr (0, [.ref so, .int (nI sn), .int (nI sy)])), (so, .inl (G.2.1, 1200, .inl (nb sg))), (bg, .inl (G.2.1, 120, .inl (nn B))), (ix, .inl (G.2.1, 120, .inl (nn X)))]) 0 0 := by
  refine fI_start (cc := cX3_answer) (maxL := 2) (by decide) rfl (Nat.le_of_ble_eq_true rfl) ?_
  intro prg env sv mid args below meth cd A Q ls hx hb hml hown hts hin hK hP hD hE hA hS hl hend
  replace hown : sv.vm.findClass RX3 = some mid.cls := hown
  replace hP : va_P G.1 vwCl [(ve, .inr (3, [.ref c, .ref tb, .ref sd, .ref bg, .ref ix, .int (nI hr), .int (nI gd), .int bd, .int (nI pq1)])), (c, .inr (2, [.ref ko, .int (nI i)])), (ko, .inl (G.2.1, 16, .inl (nb key))), (tb, .inl (G.2.1, 8, .inl (nb tbf))), (sd, .inr (0, [.ref so, .int (nI sn), .int (nI sy)])), (so, .inl (G.2.1, 1200, .inl (nb sg))), (bg, .inl (G.2.1, 120, .inl (nn B))), (ix, .inl (G.2.1, 120, .inl (nn X)))] sv.heap := hP
  replace hl : lv_has ls 2 [(0, .ref ve), (1, .int (nI w))] := hl
  refine lv_aload_n hx hb dX3_answer_0 rfl (lv_at hl 0 rfl) ?_
  refine va_get (D := G.1) (ci := 3) (v := .int (nI hr)) (C := RX3) (T := TX3) (N := 9) hx hb hts in_wsX30 hown hK hP 0 rfl rfl 5 (by decide) (hts _ wm_97) (fun _ h9 => h9) rfl dX3_answer_1 ?_
  refine f_if_ne (tgt := 9) (by omega) hx hb dX3_answer_4 (by decide) (fun c_4 => ?_) (fun c_4 => ?_)
  · skip
    rcases (show w = 0 ∨ w = 1 ∨ w = 2 ∨ w = 3 ∨ w = 4 by omega) with rfl | rfl | rfl | rfl | rfl
    · skip
      refine lv_iload_n hx hb dX3_answer_9 rfl (lv_at hl 1 rfl) ?_
      refine lv_tableIn (tgt := 40) hx hb dX3_answer_10 (by decide) (by decide) rfl (by decide) ?_
      refine lv_aload_n hx hb dX3_answer_40 rfl (lv_at hl 0 rfl) ?_
      refine va_get (D := G.1) (ci := 3) (v := .int bd) (C := RX3) (T := TX3) (N := 9) hx hb hts in_wsX30 hown hK hP 0 rfl rfl 7 (by decide) (hts _ wm_99) (fun _ h9 => h9) rfl dX3_answer_41 ?_
      refine lv_iconst (v := -1) hx hb dX3_answer_44 (by decide) ?_
      refine lv_icmp_ne (tgt := 52) hx hb dX3_answer_45 (by decide) (fun c_45 => ?_) (fun c_45 => ?_)
      · skip
        refine lv_aload_n hx hb dX3_answer_52 rfl (lv_at hl 0 rfl) ?_
        refine va_get (D := G.1) (ci := 3) (v := .int (nI gd)) (C := RX3) (T := TX3) (N := 9) hx hb hts in_wsX30 hown hK hP 0 rfl rfl 6 (by decide) (hts _ wm_98) (fun _ h9 => h9) rfl dX3_answer_53 ?_
        exact hend (nI gd) () _ _ _ _ rfl (by unfold toldV; rw [if_neg c_4]; show _ = if bd = -1 then -1 else nI gd; rw [if_neg c_45]) hP hD hS dX3_answer_56
      · skip
        refine lv_iconst (v := -1) hx hb dX3_answer_48 (by decide) ?_
        refine lv_goto (tgt := 56) hx hb dX3_answer_49 (by decide) ?_
        exact hend (-1) () _ _ _ _ rfl (by unfold toldV; rw [if_neg c_4]; show _ = if bd = -1 then -1 else nI gd; rw [if_pos c_45]) hP hD hS dX3_answer_56
    · skip
      refine lv_iload_n hx hb dX3_answer_9 rfl (lv_at hl 1 rfl) ?_
      refine lv_tableIn (tgt := 57) hx hb dX3_answer_10 (by decide) (by decide) rfl (by decide) ?_
      refine lv_aload_n hx hb dX3_answer_57 rfl (lv_at hl 0 rfl) ?_
      refine va_get (D := G.1) (ci := 3) (v := .int bd) (C := RX3) (T := TX3) (N := 9) hx hb hts in_wsX30 hown hK hP 0 rfl rfl 7 (by decide) (hts _ wm_99) (fun _ h9 => h9) rfl dX3_answer_58 ?_
      exact hend (bd) () _ _ _ _ rfl (by unfold toldV; rw [if_neg c_4]; rfl) hP hD hS dX3_answer_61
    · skip
      refine lv_iload_n hx hb dX3_answer_9 rfl (lv_at hl 1 rfl) ?_
      refine lv_tableIn (tgt := 62) hx hb dX3_answer_10 (by decide) (by decide) rfl (by decide) ?_
      refine lv_aload_n hx hb dX3_answer_62 rfl (lv_at hl 0 rfl) ?_
      refine va_get (D := G.1) (ci := 3) (v := .int (nI gd)) (C := RX3) (T := TX3) (N := 9) hx hb hts in_wsX30 hown hK hP 0 rfl rfl 6 (by decide) (hts _ wm_98) (fun _ h9 => h9) rfl dX3_answer_63 ?_
      exact hend (nI gd) () _ _ _ _ rfl (by unfold toldV; rw [if_neg c_4]; rfl) hP hD hS dX3_answer_66
    · skip
      refine lv_iload_n hx hb dX3_answer_9 rfl (lv_at hl 1 rfl) ?_
      refine lv_tableIn (tgt := 67) hx hb dX3_answer_10 (by decide) (by decide) rfl (by decide) ?_
      refine lv_aload_n hx hb dX3_answer_67 rfl (lv_at hl 0 rfl) ?_
      refine lv_aload_n hx hb dX3_answer_68 rfl (lv_at hl 0 rfl) ?_
      refine va_get (D := G.1) (ci := 3) (v := .int (nI gd)) (C := RX3) (T := TX3) (N := 9) hx hb hts in_wsX30 hown hK hP 0 rfl rfl 6 (by decide) (hts _ wm_98) (fun _ h9 => h9) rfl dX3_answer_69 ?_
      refine lv_iconst (v := nI 1) hx hb dX3_answer_72 (by decide) ?_
      rcases Nat.eq_zero_or_pos gd with hz | hz
      · skip
        refine lv_isub hx hb dX3_answer_73 ?_
        refine lv_iconst (v := nI 0) hx hb dX3_answer_74 (by decide) ?_
        refine fcVI (As := [.int ((nI gd) - (nI 1)), .int (nI 0)]) (rest := []) (wr := []) (ws1 := fun (u : Unit) => [(ve, .inr (3, [.ref c, .ref tb, .ref sd, .ref bg, .ref ix, .int (nI hr), .int (nI gd), .int bd, .int (nI pq1)])), (c, .inr (2, [.ref ko, .int (nI i)])), (ko, .inl (G.2.1, 16, .inl (nb key))), (tb, .inl (G.2.1, 8, .inl (nb tbf))), (sd, .inr (0, [.ref so, .int (nI sn), .int (nI sy)])), (so, .inl (G.2.1, 1200, .inl (nb sg))), (bg, .inl (G.2.1, 120, .inl (nn B))), (ix, .inl (G.2.1, 120, .inl (nn X)))]) ⟨hx, hb, hml, hown, hts⟩ hK hE hP hD hS hA hl.1 (kX3_partOf_out l G ve tb sd so bg ix c ko key i hr gd bd pq1 tbf sg sn sy B X ((nI gd) - (nI 1)) 0 (Or.inl (neg_pred hz))) (cwV 2 hts (gdV wm_153 wm_154 wm_155 wm_123 wm_151) rfl rfl rfl (by decide +kernel) ⟨Nat.le_of_ble_eq_true rfl, Nat.le_of_ble_eq_true rfl⟩) 0 rfl rfl rfl rfl (Nat.le_of_ble_eq_true rfl) dX3_answer_75 ⟨Nat.le_of_ble_eq_true rfl, Nat.le_of_ble_eq_true rfl⟩ [0, 1, 2, 3, 4, 5, 6, 7] [] [0, 1, 2, 3, 4, 5, 6, 7] rfl rfl rfl rfl (by decide) rfl (fun _ => rfl) (fun r_75 u_75 H_75 locs_75 hw_75 hP_75 hD_75 hS_75 => ?_)
        obtain rfl := hw_75
        replace hP : va_P G.1 vwCl [(ve, .inr (3, [.ref c, .ref tb, .ref sd, .ref bg, .ref ix, .int (nI hr), .int (nI gd), .int bd, .int (nI pq1)])), (c, .inr (2, [.ref ko, .int (nI i)])), (ko, .inl (G.2.1, 16, .inl (nb key))), (tb, .inl (G.2.1, 8, .inl (nb tbf))), (sd, .inr (0, [.ref so, .int (nI sn), .int (nI sy)])), (so, .inl (G.2.1, 1200, .inl (nb sg))), (bg, .inl (G.2.1, 120, .inl (nn B))), (ix, .inl (G.2.1, 120, .inl (nn X)))] H_75 := hP_75
        replace hD : va_D A [(ve, .inr (3, [.ref c, .ref tb, .ref sd, .ref bg, .ref ix, .int (nI hr), .int (nI gd), .int bd, .int (nI pq1)])), (c, .inr (2, [.ref ko, .int (nI i)])), (ko, .inl (G.2.1, 16, .inl (nb key))), (tb, .inl (G.2.1, 8, .inl (nb tbf))), (sd, .inr (0, [.ref so, .int (nI sn), .int (nI sy)])), (so, .inl (G.2.1, 1200, .inl (nb sg))), (bg, .inl (G.2.1, 120, .inl (nn B))), (ix, .inl (G.2.1, 120, .inl (nn X)))] := hD_75
        replace hS : va_S A sv.heap H_75 locs_75 := hS_75
        clear hP_75 hD_75 hS_75
        refine lv_iconst (v := nI 2) hx hb dX3_answer_78 (by decide) ?_
        refine lv_icmp_ne (tgt := 86) hx hb dX3_answer_79 (by decide) (fun _ => ?_) (fun c9 => absurd c9 (by decide))
        refine lv_iconst (v := nI 0) hx hb dX3_answer_86 (by decide) ?_
        exact hend (nI 0) () _ _ _ _ rfl (by unfold toldV; rw [if_neg c_4]; show _ = f_b (slV sg B gd); unfold slV; rw [decide_eq_false (by omega)]; rfl) hP hD hS dX3_answer_87
      · skip
        have hz1 : 1 ≤ gd := hz
        have z5 := bI_lt (sg (B (gd - 1)))
        refine lv_isub hx hb dX3_answer_73 ?_
        refine f_top (y := nI (gd - 1)) (pk_sub hz1) ?_
        refine lv_iconst (v := nI 0) hx hb dX3_answer_74 (by decide) ?_
        refine fcVI (As := [.int (nI (gd - 1)), .int (nI 0)]) (rest := []) (wr := []) (ws1 := fun (u : Unit) => [(ve, .inr (3, [.ref c, .ref tb, .ref sd, .ref bg, .ref ix, .int (nI hr), .int (nI gd), .int bd, .int (nI pq1)])), (c, .inr (2, [.ref ko, .int (nI i)])), (ko, .inl (G.2.1, 16, .inl (nb key))), (tb, .inl (G.2.1, 8, .inl (nb tbf))), (sd, .inr (0, [.ref so, .int (nI sn), .int (nI sy)])), (so, .inl (G.2.1, 1200, .inl (nb sg))), (bg, .inl (G.2.1, 120, .inl (nn B))), (ix, .inl (G.2.1, 120, .inl (nn X)))]) ⟨hx, hb, hml, hown, hts⟩ hK hE hP hD hS hA hl.1 (kX3_partOf_in l G ve tb sd so bg ix c ko key i hr gd bd pq1 tbf sg sn sy B X (gd - 1) 0 hv (by decide) (by omega)) (cwV 2 hts (gdV wm_153 wm_154 wm_155 wm_123 wm_151) rfl rfl rfl (by decide +kernel) ⟨Nat.le_of_ble_eq_true rfl, Nat.le_of_ble_eq_true rfl⟩) 0 rfl rfl rfl rfl (Nat.le_of_ble_eq_true rfl) dX3_answer_75 ⟨Nat.le_of_ble_eq_true rfl, Nat.le_of_ble_eq_true rfl⟩ [0, 1, 2, 3, 4, 5, 6, 7] [] [0, 1, 2, 3, 4, 5, 6, 7] rfl rfl rfl rfl (by decide) rfl (fun _ => rfl) (fun r_75_1 u_75_1 H_75_1 locs_75_1 hw_75_1 hP_75_1 hD_75_1 hS_75_1 => ?_)
        obtain rfl := hw_75_1
        replace hP : va_P G.1 vwCl [(ve, .inr (3, [.ref c, .ref tb, .ref sd, .ref bg, .ref ix, .int (nI hr), .int (nI gd), .int bd, .int (nI pq1)])), (c, .inr (2, [.ref ko, .int (nI i)])), (ko, .inl (G.2.1, 16, .inl (nb key))), (tb, .inl (G.2.1, 8, .inl (nb tbf))), (sd, .inr (0, [.ref so, .int (nI sn), .int (nI sy)])), (so, .inl (G.2.1, 1200, .inl (nb sg))), (bg, .inl (G.2.1, 120, .inl (nn B))), (ix, .inl (G.2.1, 120, .inl (nn X)))] H_75_1 := hP_75_1
        replace hD : va_D A [(ve, .inr (3, [.ref c, .ref tb, .ref sd, .ref bg, .ref ix, .int (nI hr), .int (nI gd), .int bd, .int (nI pq1)])), (c, .inr (2, [.ref ko, .int (nI i)])), (ko, .inl (G.2.1, 16, .inl (nb key))), (tb, .inl (G.2.1, 8, .inl (nb tbf))), (sd, .inr (0, [.ref so, .int (nI sn), .int (nI sy)])), (so, .inl (G.2.1, 1200, .inl (nb sg))), (bg, .inl (G.2.1, 120, .inl (nn B))), (ix, .inl (G.2.1, 120, .inl (nn X)))] := hD_75_1
        replace hS : va_S A sv.heap H_75_1 locs_75_1 := hS_75_1
        clear hP_75_1 hD_75_1 hS_75_1
        refine f_top (y := bI (sg (B (gd - 1)))) (by unfold partV; exact if_pos rfl) ?_
        refine lv_iconst (v := nI 2) hx hb dX3_answer_78 (by decide) ?_
        refine f_icmp_ne (tgt := 86) (by omega) (by omega) hx hb dX3_answer_79 (by decide) (fun c_79 => ?_) (fun c_79 => ?_)
        · skip
          refine lv_iconst (v := nI 0) hx hb dX3_answer_86 (by decide) ?_
          exact hend (nI 0) () _ _ _ _ rfl (by unfold toldV; rw [if_neg c_4]; show _ = f_b (slV sg B gd); unfold slV; rw [decide_eq_false (by omega)]; rfl) hP hD hS dX3_answer_87
        · skip
          refine lv_iconst (v := nI 1) hx hb dX3_answer_82 (by decide) ?_
          refine lv_goto (tgt := 87) hx hb dX3_answer_83 (by decide) ?_
          exact hend (nI 1) () _ _ _ _ rfl (by unfold toldV; rw [if_neg c_4]; show _ = f_b (slV sg B gd); unfold slV; rw [decide_eq_true (by omega)]; rfl) hP hD hS dX3_answer_87
    · skip
      refine lv_iload_n hx hb dX3_answer_9 rfl (lv_at hl 1 rfl) ?_
      refine lv_tableOut (tgt := 88) hx hb dX3_answer_10 (by decide) (by decide) ?_
      refine lv_aload_n hx hb dX3_answer_88 rfl (lv_at hl 0 rfl) ?_
      refine va_get (D := G.1) (ci := 3) (v := .int (nI pq1)) (C := RX3) (T := TX3) (N := 9) hx hb hts in_wsX30 hown hK hP 0 rfl rfl 8 (by decide) (hts _ wm_100) (fun _ h9 => h9) rfl dX3_answer_89 ?_
      exact hend (nI pq1) () _ _ _ _ rfl (by unfold toldV; rw [if_neg c_4]; rfl) hP hD hS dX3_answer_92
  · skip
    refine lv_iconst (v := -1) hx hb dX3_answer_7 (by decide) ?_
    exact hend (-1) () _ _ _ _ rfl (by unfold toldV; rw [if_pos c_4]) hP hD hS dX3_answer_8
