set_option maxRecDepth 100000 in
set_option maxHeartbeats 4000000 in
theorem kX5_look_y (l : Launch) (G : fG) (mo : Nat) (xd : Nat) (xb : Nat) (xk : Nat) (xl : Nat) (xt : Nat) (xw : Nat) (xs : Nat) (xg : Nat) (xy : Nat) (xe : Nat) (xc : Nat) (xf : Nat) (xn : Nat) (rf : Nat) (n : Nat) (y : Nat) (nb1 : Nat) (up : Nat) (wi : Nat) (cr : Int32) (kd : Nat) (ln : Nat) (ps : Nat) (hr : Nat) (br : Int32) (bp : Int32) (gd : Nat) (gp : Nat) (sl : Nat) (gD : Nat → UInt8) (gB : Nat → UInt8) (gK : Nat → UInt8) (gL : Nat → UInt8) (gT : Nat → UInt8) (gW : Nat → Int32) (gS : Nat → Int32) (gG : Nat → UInt8) (gY : Nat → UInt8) (gE : Nat → UInt8) (gC : Nat → UInt8) (gF : Nat → Nat) (gN : Nat → Nat) (a : Nat) (hn : n ≤ 1200) (hw : whole gD n a = true) : fMI l yX5_look (.code yX5_look cX5_look 3 (some .boolean) :: wsA) ({ frames := 0, cells := 0, slots := 0, locals := 0 } : Room) G [.ref mo, .int (nI a)] [(mo, .inr (5, [.int (nI rf), .ref xd, .int (nI n), .int (nI y), .ref xb, .int (nI nb1), .int (nI up), .int (nI wi), .int cr, .ref xk, .ref xl, .ref xt, .int (nI 0), .ref xw, .ref xs, .ref xg, .ref xy, .ref xe, .int (nI kd), .int (nI ln), .int (nI ps), .int (nI hr), .int br, .int bp, .int (nI gd), .int (nI gp), .int (nI sl), .ref xc, .ref xf, .ref xn])), (xd, .inl (G.2.1, 1200, .inl (nb gD))), (xb, .inl (G.2.1, 40, .inl (nb gB))), (xk, .inl (G.2.1, 16, .inl (nb gK))), (xl, .inl (G.2.1, 8, .inl (nb gL))), (xt, .inl (G.2.1, 192, .inl (nb gT))), (xw, .inl (G.2.1, 64, .inl gW)), (xs, .inl (G.2.1, 16, .inl gS)), (xg, .inl (G.2.1, 32, .inl (nb gG))), (xy, .inl (G.2.1, 16, .inl (nb gY))), (xe, .inl (G.2.1, 8, .inl (nb gE))), (xc, .inl (G.2.1, 1200, .inl (nb gC))), (xf, .inl (G.2.1, 128, .inl (nn gF))), (xn, .inl (G.2.1, 128, .inl (nn gN)))] (fun (r9 : Int32) (u : Unit) => r9 = nI 1) (fun (u : Unit) => [(mo, .inr (5, [.int (nI rf), .ref xd, .int (nI n), .int (nI y), .ref xb, .int (nI nb1), .int (nI up), .int (nI wi), .int cr, .ref xk, .ref xl, .ref xt, .int (nI 0), .ref xw, .ref xs, .ref xg, .ref xy, .ref xe, .int (nI ((gD a).toNat)), .int (nI ((gD (a + 1)).toNat)), .int (nI (pas gD a)), .int (nI hr), .int br, .int bp, .int (nI gd), .int (nI gp), .int (nI sl), .ref xc, .ref xf, .ref xn])), (xd, .inl (G.2.1, 1200, .inl (nb gD))), (xb, .inl (G.2.1, 40, .inl (nb gB))), (xk, .inl (G.2.1, 16, .inl (nb gK))), (xl, .inl (G.2.1, 8, .inl (nb gL))), (xt, .inl (G.2.1, 192, .inl (nb gT))), (xw, .inl (G.2.1, 64, .inl gW)), (xs, .inl (G.2.1, 16, .inl gS)), (xg, .inl (G.2.1, 32, .inl (nb gG))), (xy, .inl (G.2.1, 16, .inl (nb gY))), (xe, .inl (G.2.1, 8, .inl (nb gE))), (xc, .inl (G.2.1, 1200, .inl (nb gC))), (xf, .inl (G.2.1, 128, .inl (nn gF))), (xn, .inl (G.2.1, 128, .inl (nn gN)))]) 0 0 := by
  refine fI_start (cc := cX5_look) (maxL := 3) (by decide) rfl (Nat.le_of_ble_eq_true rfl) ?_
  intro prg env sv mid args below meth cd A Q ls hx hb hml hown hts hin hK hP hD hE hA hS hl hend
  replace hown : sv.vm.findClass RX5 = some mid.cls := hown
  replace hP : va_P G.1 vwCl [(mo, .inr (5, [.int (nI rf), .ref xd, .int (nI n), .int (nI y), .ref xb, .int (nI nb1), .int (nI up), .int (nI wi), .int cr, .ref xk, .ref xl, .ref xt, .int (nI 0), .ref xw, .ref xs, .ref xg, .ref xy, .ref xe, .int (nI kd), .int (nI ln), .int (nI ps), .int (nI hr), .int br, .int bp, .int (nI gd), .int (nI gp), .int (nI sl), .ref xc, .ref xf, .ref xn])), (xd, .inl (G.2.1, 1200, .inl (nb gD))), (xb, .inl (G.2.1, 40, .inl (nb gB))), (xk, .inl (G.2.1, 16, .inl (nb gK))), (xl, .inl (G.2.1, 8, .inl (nb gL))), (xt, .inl (G.2.1, 192, .inl (nb gT))), (xw, .inl (G.2.1, 64, .inl gW)), (xs, .inl (G.2.1, 16, .inl gS)), (xg, .inl (G.2.1, 32, .inl (nb gG))), (xy, .inl (G.2.1, 16, .inl (nb gY))), (xe, .inl (G.2.1, 8, .inl (nb gE))), (xc, .inl (G.2.1, 1200, .inl (nb gC))), (xf, .inl (G.2.1, 128, .inl (nn gF))), (xn, .inl (G.2.1, 128, .inl (nn gN)))] sv.heap := hP
  replace hl : lv_has ls 3 [(0, .ref mo), (1, .int (nI a))] := hl
  have z0 := bI_lt (gD a)
  have z1 := bI_lt (gD (a + 1))
  have z2 := bI_lt (gD (a + 2))
  have z3 := bI_lt (gD (a + 3))
  have w0 := whole_spec hw
  refine lv_iload_n hx hb dX5_look_0 rfl (lv_at hl 1 rfl) ?_
  refine lv_iconst (v := nI 2) hx hb dX5_look_1 (by decide) ?_
  refine lv_iadd hx hb dX5_look_2 ?_
  refine f_top (y := nI (a + 2)) (nI_add _ _) ?_
  refine lv_aload_n hx hb dX5_look_3 rfl (lv_at hl 0 rfl) ?_
  refine va_get (D := G.1) (ci := 5) (v := .int (nI n)) (C := RX5) (T := TX5) (N := 30) hx hb hts in_wsX50 hown hK hP 0 rfl rfl 2 (by decide) (hts _ wm_376) (fun _ h9 => h9) rfl dX5_look_4 ?_
  refine f_icmp_le (tgt := 12) (by omega) (by omega) hx hb dX5_look_7 (by decide) (fun c_7 => ?_) (fun c_7 => ?_)
  · skip
    refine lv_aload_n hx hb dX5_look_12 rfl (lv_at hl 0 rfl) ?_
    refine lv_aload_n hx hb dX5_look_13 rfl (lv_at hl 0 rfl) ?_
    refine va_get (D := G.1) (ci := 5) (v := .ref xd) (C := RX5) (T := TX5) (N := 30) hx hb hts in_wsX50 hown hK hP 0 rfl rfl 1 (by decide) (hts _ wm_250) (fun _ h9 => h9) rfl dX5_look_14 ?_
    refine lv_iload_n hx hb dX5_look_17 rfl (lv_at hl 1 rfl) ?_
    refine f_iald (v := bI (gD a)) hx hb hK hP 1 rfl (by omega) (by decide) rfl dX5_look_18 ?_
    refine va_put (D := G.1) (ci := 5) (v := .int (bI (gD a))) (ty := .int) (C := RX5) (T := TX5) (N := 30) hx hb hts in_wsX50 tyX5 tyX5_ok nmX5 hown hK hP hD hS 0 rfl rfl 18 (by decide) (hts _ wm_412) (fun _ h9 => h9) rfl (by decide +kernel) rfl rfl (Nat.le_of_ble_eq_true rfl) dX5_look_19 (fun H_19 locs_19 hP_19 hD_19 hS_19 => ?_)
    replace hP : va_P G.1 vwCl [(mo, .inr (5, [.int (nI rf), .ref xd, .int (nI n), .int (nI y), .ref xb, .int (nI nb1), .int (nI up), .int (nI wi), .int cr, .ref xk, .ref xl, .ref xt, .int (nI 0), .ref xw, .ref xs, .ref xg, .ref xy, .ref xe, .int (bI (gD a)), .int (nI ln), .int (nI ps), .int (nI hr), .int br, .int bp, .int (nI gd), .int (nI gp), .int (nI sl), .ref xc, .ref xf, .ref xn])), (xd, .inl (G.2.1, 1200, .inl (nb gD))), (xb, .inl (G.2.1, 40, .inl (nb gB))), (xk, .inl (G.2.1, 16, .inl (nb gK))), (xl, .inl (G.2.1, 8, .inl (nb gL))), (xt, .inl (G.2.1, 192, .inl (nb gT))), (xw, .inl (G.2.1, 64, .inl gW)), (xs, .inl (G.2.1, 16, .inl gS)), (xg, .inl (G.2.1, 32, .inl (nb gG))), (xy, .inl (G.2.1, 16, .inl (nb gY))), (xe, .inl (G.2.1, 8, .inl (nb gE))), (xc, .inl (G.2.1, 1200, .inl (nb gC))), (xf, .inl (G.2.1, 128, .inl (nn gF))), (xn, .inl (G.2.1, 128, .inl (nn gN)))] H_19 := hP_19
    replace hD : va_D A [(mo, .inr (5, [.int (nI rf), .ref xd, .int (nI n), .int (nI y), .ref xb, .int (nI nb1), .int (nI up), .int (nI wi), .int cr, .ref xk, .ref xl, .ref xt, .int (nI 0), .ref xw, .ref xs, .ref xg, .ref xy, .ref xe, .int (bI (gD a)), .int (nI ln), .int (nI ps), .int (nI hr), .int br, .int bp, .int (nI gd), .int (nI gp), .int (nI sl), .ref xc, .ref xf, .ref xn])), (xd, .inl (G.2.1, 1200, .inl (nb gD))), (xb, .inl (G.2.1, 40, .inl (nb gB))), (xk, .inl (G.2.1, 16, .inl (nb gK))), (xl, .inl (G.2.1, 8, .inl (nb gL))), (xt, .inl (G.2.1, 192, .inl (nb gT))), (xw, .inl (G.2.1, 64, .inl gW)), (xs, .inl (G.2.1, 16, .inl gS)), (xg, .inl (G.2.1, 32, .inl (nb gG))), (xy, .inl (G.2.1, 16, .inl (nb gY))), (xe, .inl (G.2.1, 8, .inl (nb gE))), (xc, .inl (G.2.1, 1200, .inl (nb gC))), (xf, .inl (G.2.1, 128, .inl (nn gF))), (xn, .inl (G.2.1, 128, .inl (nn gN)))] := hD_19
    replace hS : va_S A sv.heap H_19 locs_19 := hS_19
    clear hP_19 hD_19 hS_19
    refine lv_aload_n hx hb dX5_look_22 rfl (lv_at hl 0 rfl) ?_
    refine lv_aload_n hx hb dX5_look_23 rfl (lv_at hl 0 rfl) ?_
    refine va_get (D := G.1) (ci := 5) (v := .ref xd) (C := RX5) (T := TX5) (N := 30) hx hb hts in_wsX50 hown hK hP 0 rfl rfl 1 (by decide) (hts _ wm_250) (fun _ h9 => h9) rfl dX5_look_24 ?_
    refine lv_iload_n hx hb dX5_look_27 rfl (lv_at hl 1 rfl) ?_
    refine lv_iconst (v := nI 1) hx hb dX5_look_28 (by decide) ?_
    refine lv_iadd hx hb dX5_look_29 ?_
    refine f_top (y := nI (a + 1)) (nI_add _ _) ?_
    refine f_iald (v := bI (gD (a + 1))) hx hb hK hP 1 rfl (by omega) (by decide) rfl dX5_look_30 ?_
    refine va_put (D := G.1) (ci := 5) (v := .int (bI (gD (a + 1)))) (ty := .int) (C := RX5) (T := TX5) (N := 30) hx hb hts in_wsX50 tyX5 tyX5_ok nmX5 hown hK hP hD hS 0 rfl rfl 19 (by decide) (hts _ wm_413) (fun _ h9 => h9) rfl (by decide +kernel) rfl rfl (Nat.le_of_ble_eq_true rfl) dX5_look_31 (fun H_31 locs_31 hP_31 hD_31 hS_31 => ?_)
    replace hP : va_P G.1 vwCl [(mo, .inr (5, [.int (nI rf), .ref xd, .int (nI n), .int (nI y), .ref xb, .int (nI nb1), .int (nI up), .int (nI wi), .int cr, .ref xk, .ref xl, .ref xt, .int (nI 0), .ref xw, .ref xs, .ref xg, .ref xy, .ref xe, .int (bI (gD a)), .int (bI (gD (a + 1))), .int (nI ps), .int (nI hr), .int br, .int bp, .int (nI gd), .int (nI gp), .int (nI sl), .ref xc, .ref xf, .ref xn])), (xd, .inl (G.2.1, 1200, .inl (nb gD))), (xb, .inl (G.2.1, 40, .inl (nb gB))), (xk, .inl (G.2.1, 16, .inl (nb gK))), (xl, .inl (G.2.1, 8, .inl (nb gL))), (xt, .inl (G.2.1, 192, .inl (nb gT))), (xw, .inl (G.2.1, 64, .inl gW)), (xs, .inl (G.2.1, 16, .inl gS)), (xg, .inl (G.2.1, 32, .inl (nb gG))), (xy, .inl (G.2.1, 16, .inl (nb gY))), (xe, .inl (G.2.1, 8, .inl (nb gE))), (xc, .inl (G.2.1, 1200, .inl (nb gC))), (xf, .inl (G.2.1, 128, .inl (nn gF))), (xn, .inl (G.2.1, 128, .inl (nn gN)))] H_31 := hP_31
    replace hD : va_D A [(mo, .inr (5, [.int (nI rf), .ref xd, .int (nI n), .int (nI y), .ref xb, .int (nI nb1), .int (nI up), .int (nI wi), .int cr, .ref xk, .ref xl, .ref xt, .int (nI 0), .ref xw, .ref xs, .ref xg, .ref xy, .ref xe, .int (bI (gD a)), .int (bI (gD (a + 1))), .int (nI ps), .int (nI hr), .int br, .int bp, .int (nI gd), .int (nI gp), .int (nI sl), .ref xc, .ref xf, .ref xn])), (xd, .inl (G.2.1, 1200, .inl (nb gD))), (xb, .inl (G.2.1, 40, .inl (nb gB))), (xk, .inl (G.2.1, 16, .inl (nb gK))), (xl, .inl (G.2.1, 8, .inl (nb gL))), (xt, .inl (G.2.1, 192, .inl (nb gT))), (xw, .inl (G.2.1, 64, .inl gW)), (xs, .inl (G.2.1, 16, .inl gS)), (xg, .inl (G.2.1, 32, .inl (nb gG))), (xy, .inl (G.2.1, 16, .inl (nb gY))), (xe, .inl (G.2.1, 8, .inl (nb gE))), (xc, .inl (G.2.1, 1200, .inl (nb gC))), (xf, .inl (G.2.1, 128, .inl (nn gF))), (xn, .inl (G.2.1, 128, .inl (nn gN)))] := hD_31
    replace hS : va_S A sv.heap H_31 locs_31 := hS_31
    clear hP_31 hD_31 hS_31
    refine lv_aload_n hx hb dX5_look_34 rfl (lv_at hl 0 rfl) ?_
    refine lv_iconst (v := nI 0) hx hb dX5_look_35 (by decide) ?_
    refine va_put (D := G.1) (ci := 5) (v := .int (nI 0)) (ty := .int) (C := RX5) (T := TX5) (N := 30) hx hb hts in_wsX50 tyX5 tyX5_ok nmX5 hown hK hP hD hS 0 rfl rfl 20 (by decide) (hts _ wm_414) (fun _ h9 => h9) rfl (by decide +kernel) rfl rfl (Nat.le_of_ble_eq_true rfl) dX5_look_36 (fun H_36 locs_36 hP_36 hD_36 hS_36 => ?_)
    replace hP : va_P G.1 vwCl [(mo, .inr (5, [.int (nI rf), .ref xd, .int (nI n), .int (nI y), .ref xb, .int (nI nb1), .int (nI up), .int (nI wi), .int cr, .ref xk, .ref xl, .ref xt, .int (nI 0), .ref xw, .ref xs, .ref xg, .ref xy, .ref xe, .int (bI (gD a)), .int (bI (gD (a + 1))), .int (nI 0), .int (nI hr), .int br, .int bp, .int (nI gd), .int (nI gp), .int (nI sl), .ref xc, .ref xf, .ref xn])), (xd, .inl (G.2.1, 1200, .inl (nb gD))), (xb, .inl (G.2.1, 40, .inl (nb gB))), (xk, .inl (G.2.1, 16, .inl (nb gK))), (xl, .inl (G.2.1, 8, .inl (nb gL))), (xt, .inl (G.2.1, 192, .inl (nb gT))), (xw, .inl (G.2.1, 64, .inl gW)), (xs, .inl (G.2.1, 16, .inl gS)), (xg, .inl (G.2.1, 32, .inl (nb gG))), (xy, .inl (G.2.1, 16, .inl (nb gY))), (xe, .inl (G.2.1, 8, .inl (nb gE))), (xc, .inl (G.2.1, 1200, .inl (nb gC))), (xf, .inl (G.2.1, 128, .inl (nn gF))), (xn, .inl (G.2.1, 128, .inl (nn gN)))] H_36 := hP_36
    replace hD : va_D A [(mo, .inr (5, [.int (nI rf), .ref xd, .int (nI n), .int (nI y), .ref xb, .int (nI nb1), .int (nI up), .int (nI wi), .int cr, .ref xk, .ref xl, .ref xt, .int (nI 0), .ref xw, .ref xs, .ref xg, .ref xy, .ref xe, .int (bI (gD a)), .int (bI (gD (a + 1))), .int (nI 0), .int (nI hr), .int br, .int bp, .int (nI gd), .int (nI gp), .int (nI sl), .ref xc, .ref xf, .ref xn])), (xd, .inl (G.2.1, 1200, .inl (nb gD))), (xb, .inl (G.2.1, 40, .inl (nb gB))), (xk, .inl (G.2.1, 16, .inl (nb gK))), (xl, .inl (G.2.1, 8, .inl (nb gL))), (xt, .inl (G.2.1, 192, .inl (nb gT))), (xw, .inl (G.2.1, 64, .inl gW)), (xs, .inl (G.2.1, 16, .inl gS)), (xg, .inl (G.2.1, 32, .inl (nb gG))), (xy, .inl (G.2.1, 16, .inl (nb gY))), (xe, .inl (G.2.1, 8, .inl (nb gE))), (xc, .inl (G.2.1, 1200, .inl (nb gC))), (xf, .inl (G.2.1, 128, .inl (nn gF))), (xn, .inl (G.2.1, 128, .inl (nn gN)))] := hD_36
    replace hS : va_S A sv.heap H_36 locs_36 := hS_36
    clear hP_36 hD_36 hS_36
    refine lv_aload_n hx hb dX5_look_39 rfl (lv_at hl 0 rfl) ?_
    refine va_get (D := G.1) (ci := 5) (v := .int (bI (gD a))) (C := RX5) (T := TX5) (N := 30) hx hb hts in_wsX50 hown hK hP 0 rfl rfl 18 (by decide) (hts _ wm_412) (fun _ h9 => h9) rfl dX5_look_40 ?_
    refine lv_iconst (v := nI 1) hx hb dX5_look_43 (by decide) ?_
    refine f_icmp_ne (tgt := 56) (by omega) (by omega) hx hb dX5_look_44 (by decide) (fun c_44 => ?_) (fun c_44 => ?_)
    · skip
      refine lv_aload_n hx hb dX5_look_56 rfl (lv_at hl 0 rfl) ?_
      refine va_get (D := G.1) (ci := 5) (v := .int (bI (gD a))) (C := RX5) (T := TX5) (N := 30) hx hb hts in_wsX50 hown hK hP 0 rfl rfl 18 (by decide) (hts _ wm_412) (fun _ h9 => h9) rfl dX5_look_57 ?_
      refine lv_iconst (v := nI 2) hx hb dX5_look_60 (by decide) ?_
      refine f_icmp_ne (tgt := 71) (by omega) (by omega) hx hb dX5_look_61 (by decide) (fun c_61 => ?_) (fun c_61 => ?_)
      · skip
        refine lv_aload_n hx hb dX5_look_71 rfl (lv_at hl 0 rfl) ?_
        refine va_get (D := G.1) (ci := 5) (v := .int (bI (gD a))) (C := RX5) (T := TX5) (N := 30) hx hb hts in_wsX50 hown hK hP 0 rfl rfl 18 (by decide) (hts _ wm_412) (fun _ h9 => h9) rfl dX5_look_72 ?_
        refine lv_iconst (v := nI 3) hx hb dX5_look_75 (by decide) ?_
        refine f_icmp_ne (tgt := 91) (by omega) (by omega) hx hb dX5_look_76 (by decide) (fun c_76 => ?_) (fun c_76 => ?_)
        · skip
          exfalso; omega
        · skip
          refine lv_aload_n hx hb dX5_look_79 rfl (lv_at hl 0 rfl) ?_
          refine va_get (D := G.1) (ci := 5) (v := .int (bI (gD (a + 1)))) (C := RX5) (T := TX5) (N := 30) hx hb hts in_wsX50 hown hK hP 0 rfl rfl 19 (by decide) (hts _ wm_413) (fun _ h9 => h9) rfl dX5_look_80 ?_
          refine lv_iconst (v := nI 2) hx hb dX5_look_83 (by decide) ?_
          refine f_icmp_ne (tgt := 91) (by omega) (by omega) hx hb dX5_look_84 (by decide) (fun c_84 => ?_) (fun c_84 => ?_)
          · skip
            exfalso; omega
          · skip
            refine lv_iconst (v := nI 1) hx hb dX5_look_87 (by decide) ?_
            refine lv_goto (tgt := 92) hx hb dX5_look_88 (by decide) ?_
            refine lv_istore_n (lv' := [(2, .int (nI 1)), (0, .ref mo), (1, .int (nI a))]) hx hb dX5_look_92 rfl hl (by decide) rfl (fun ls hl2 => ?_)
            replace hl := hl2; clear hl2
            refine lv_iload_n hx hb dX5_look_93 rfl (lv_at hl 0 rfl) ?_
            refine lv_if_eq (tgt := 113) hx hb dX5_look_94 (by decide) (fun c9 => absurd c9 (by decide)) (fun _ => ?_)
            refine lv_iload_n hx hb dX5_look_97 rfl (lv_at hl 2 rfl) ?_
            refine lv_bipush (v := nI 10) hx hb dX5_look_98 (by decide) ?_
            refine lv_iadd hx hb dX5_look_100 ?_
            refine f_top (y := nI (a + 10)) (nI_add _ _) ?_
            refine lv_aload_n hx hb dX5_look_101 rfl (lv_at hl 1 rfl) ?_
            refine va_get (D := G.1) (ci := 5) (v := .int (bI (gD (a + 1)))) (C := RX5) (T := TX5) (N := 30) hx hb hts in_wsX50 hown hK hP 0 rfl rfl 19 (by decide) (hts _ wm_413) (fun _ h9 => h9) rfl dX5_look_102 ?_
            refine lv_iadd hx hb dX5_look_105 ?_
            refine f_top (y := nI (a + 10 + ((gD (a + 1)).toNat))) (nI_add _ _) ?_
            refine lv_aload_n hx hb dX5_look_106 rfl (lv_at hl 1 rfl) ?_
            refine va_get (D := G.1) (ci := 5) (v := .int (nI n)) (C := RX5) (T := TX5) (N := 30) hx hb hts in_wsX50 hown hK hP 0 rfl rfl 2 (by decide) (hts _ wm_376) (fun _ h9 => h9) rfl dX5_look_107 ?_
            refine f_icmp_le (tgt := 115) (by omega) (by omega) hx hb dX5_look_110 (by decide) (fun c_110 => ?_) (fun c_110 => ?_)
            · skip
              refine lv_aload_n hx hb dX5_look_115 rfl (lv_at hl 1 rfl) ?_
              refine va_get (D := G.1) (ci := 5) (v := .int (bI (gD a))) (C := RX5) (T := TX5) (N := 30) hx hb hts in_wsX50 hown hK hP 0 rfl rfl 18 (by decide) (hts _ wm_412) (fun _ h9 => h9) rfl dX5_look_116 ?_
              refine lv_iconst (v := nI 3) hx hb dX5_look_119 (by decide) ?_
              refine f_icmp_ne (tgt := 148) (by omega) (by omega) hx hb dX5_look_120 (by decide) (fun c_120 => ?_) (fun c_120 => ?_)
              · skip
                refine lv_iconst (v := nI 1) hx hb dX5_look_148 (by decide) ?_
                replace hP : va_P G.1 vwCl [(mo, .inr (5, [.int (nI rf), .ref xd, .int (nI n), .int (nI y), .ref xb, .int (nI nb1), .int (nI up), .int (nI wi), .int cr, .ref xk, .ref xl, .ref xt, .int (nI 0), .ref xw, .ref xs, .ref xg, .ref xy, .ref xe, .int (bI (gD a)), .int (bI (gD (a + 1))), .int (nI (pas gD a)), .int (nI hr), .int br, .int bp, .int (nI gd), .int (nI gp), .int (nI sl), .ref xc, .ref xf, .ref xn])), (xd, .inl (G.2.1, 1200, .inl (nb gD))), (xb, .inl (G.2.1, 40, .inl (nb gB))), (xk, .inl (G.2.1, 16, .inl (nb gK))), (xl, .inl (G.2.1, 8, .inl (nb gL))), (xt, .inl (G.2.1, 192, .inl (nb gT))), (xw, .inl (G.2.1, 64, .inl gW)), (xs, .inl (G.2.1, 16, .inl gS)), (xg, .inl (G.2.1, 32, .inl (nb gG))), (xy, .inl (G.2.1, 16, .inl (nb gY))), (xe, .inl (G.2.1, 8, .inl (nb gE))), (xc, .inl (G.2.1, 1200, .inl (nb gC))), (xf, .inl (G.2.1, 128, .inl (nn gF))), (xn, .inl (G.2.1, 128, .inl (nn gN)))] H_36 := by have e9 : (.int (nI 0) : Value) = .int (nI (pas gD a)) := (congrArg (fun z => Value.int (nI z)) (show 0 = pas gD a by unfold pas; rw [if_neg c_120])); rw [← e9]; exact hP
                replace hD : va_D A [(mo, .inr (5, [.int (nI rf), .ref xd, .int (nI n), .int (nI y), .ref xb, .int (nI nb1), .int (nI up), .int (nI wi), .int cr, .ref xk, .ref xl, .ref xt, .int (nI 0), .ref xw, .ref xs, .ref xg, .ref xy, .ref xe, .int (bI (gD a)), .int (bI (gD (a + 1))), .int (nI (pas gD a)), .int (nI hr), .int br, .int bp, .int (nI gd), .int (nI gp), .int (nI sl), .ref xc, .ref xf, .ref xn])), (xd, .inl (G.2.1, 1200, .inl (nb gD))), (xb, .inl (G.2.1, 40, .inl (nb gB))), (xk, .inl (G.2.1, 16, .inl (nb gK))), (xl, .inl (G.2.1, 8, .inl (nb gL))), (xt, .inl (G.2.1, 192, .inl (nb gT))), (xw, .inl (G.2.1, 64, .inl gW)), (xs, .inl (G.2.1, 16, .inl gS)), (xg, .inl (G.2.1, 32, .inl (nb gG))), (xy, .inl (G.2.1, 16, .inl (nb gY))), (xe, .inl (G.2.1, 8, .inl (nb gE))), (xc, .inl (G.2.1, 1200, .inl (nb gC))), (xf, .inl (G.2.1, 128, .inl (nn gF))), (xn, .inl (G.2.1, 128, .inl (nn gN)))] := hD.set (p := 0) rfl
                exact hend (nI 1) () _ _ _ _ rfl rfl hP hD hS dX5_look_149
              · skip
                refine lv_aload_n hx hb dX5_look_123 rfl (lv_at hl 1 rfl) ?_
                refine lv_sipush (v := nI 256) hx hb dX5_look_124 (by decide) ?_
                refine lv_aload_n hx hb dX5_look_127 rfl (lv_at hl 1 rfl) ?_
                refine va_get (D := G.1) (ci := 5) (v := .ref xd) (C := RX5) (T := TX5) (N := 30) hx hb hts in_wsX50 hown hK hP 0 rfl rfl 1 (by decide) (hts _ wm_250) (fun _ h9 => h9) rfl dX5_look_128 ?_
                refine lv_iload_n hx hb dX5_look_131 rfl (lv_at hl 2 rfl) ?_
                refine lv_iconst (v := nI 2) hx hb dX5_look_132 (by decide) ?_
                refine lv_iadd hx hb dX5_look_133 ?_
                refine f_top (y := nI (a + 2)) (nI_add _ _) ?_
                refine f_iald (v := bI (gD (a + 2))) hx hb hK hP 1 rfl (by omega) (by decide) rfl dX5_look_134 ?_
                refine lv_imul hx hb dX5_look_135 ?_
                refine f_top (y := nI (256 * ((gD (a + 2)).toNat))) (pk_mul _ _) ?_
                refine lv_aload_n hx hb dX5_look_136 rfl (lv_at hl 1 rfl) ?_
                refine va_get (D := G.1) (ci := 5) (v := .ref xd) (C := RX5) (T := TX5) (N := 30) hx hb hts in_wsX50 hown hK hP 0 rfl rfl 1 (by decide) (hts _ wm_250) (fun _ h9 => h9) rfl dX5_look_137 ?_
                refine lv_iload_n hx hb dX5_look_140 rfl (lv_at hl 2 rfl) ?_
                refine lv_iconst (v := nI 3) hx hb dX5_look_141 (by decide) ?_
                refine lv_iadd hx hb dX5_look_142 ?_
                refine f_top (y := nI (a + 3)) (nI_add _ _) ?_
                refine f_iald (v := bI (gD (a + 3))) hx hb hK hP 1 rfl (by omega) (by decide) rfl dX5_look_143 ?_
                refine lv_iadd hx hb dX5_look_144 ?_
                refine f_top (y := nI (256 * ((gD (a + 2)).toNat) + ((gD (a + 3)).toNat))) (nI_add _ _) ?_
                refine va_put (D := G.1) (ci := 5) (v := .int (nI (256 * ((gD (a + 2)).toNat) + ((gD (a + 3)).toNat)))) (ty := .int) (C := RX5) (T := TX5) (N := 30) hx hb hts in_wsX50 tyX5 tyX5_ok nmX5 hown hK hP hD hS 0 rfl rfl 20 (by decide) (hts _ wm_414) (fun _ h9 => h9) rfl (by decide +kernel) rfl rfl (Nat.le_of_ble_eq_true rfl) dX5_look_145 (fun H_145 locs_145 hP_145 hD_145 hS_145 => ?_)
                replace hP : va_P G.1 vwCl [(mo, .inr (5, [.int (nI rf), .ref xd, .int (nI n), .int (nI y), .ref xb, .int (nI nb1), .int (nI up), .int (nI wi), .int cr, .ref xk, .ref xl, .ref xt, .int (nI 0), .ref xw, .ref xs, .ref xg, .ref xy, .ref xe, .int (bI (gD a)), .int (bI (gD (a + 1))), .int (nI (256 * ((gD (a + 2)).toNat) + ((gD (a + 3)).toNat))), .int (nI hr), .int br, .int bp, .int (nI gd), .int (nI gp), .int (nI sl), .ref xc, .ref xf, .ref xn])), (xd, .inl (G.2.1, 1200, .inl (nb gD))), (xb, .inl (G.2.1, 40, .inl (nb gB))), (xk, .inl (G.2.1, 16, .inl (nb gK))), (xl, .inl (G.2.1, 8, .inl (nb gL))), (xt, .inl (G.2.1, 192, .inl (nb gT))), (xw, .inl (G.2.1, 64, .inl gW)), (xs, .inl (G.2.1, 16, .inl gS)), (xg, .inl (G.2.1, 32, .inl (nb gG))), (xy, .inl (G.2.1, 16, .inl (nb gY))), (xe, .inl (G.2.1, 8, .inl (nb gE))), (xc, .inl (G.2.1, 1200, .inl (nb gC))), (xf, .inl (G.2.1, 128, .inl (nn gF))), (xn, .inl (G.2.1, 128, .inl (nn gN)))] H_145 := hP_145
                replace hD : va_D A [(mo, .inr (5, [.int (nI rf), .ref xd, .int (nI n), .int (nI y), .ref xb, .int (nI nb1), .int (nI up), .int (nI wi), .int cr, .ref xk, .ref xl, .ref xt, .int (nI 0), .ref xw, .ref xs, .ref xg, .ref xy, .ref xe, .int (bI (gD a)), .int (bI (gD (a + 1))), .int (nI (256 * ((gD (a + 2)).toNat) + ((gD (a + 3)).toNat))), .int (nI hr), .int br, .int bp, .int (nI gd), .int (nI gp), .int (nI sl), .ref xc, .ref xf, .ref xn])), (xd, .inl (G.2.1, 1200, .inl (nb gD))), (xb, .inl (G.2.1, 40, .inl (nb gB))), (xk, .inl (G.2.1, 16, .inl (nb gK))), (xl, .inl (G.2.1, 8, .inl (nb gL))), (xt, .inl (G.2.1, 192, .inl (nb gT))), (xw, .inl (G.2.1, 64, .inl gW)), (xs, .inl (G.2.1, 16, .inl gS)), (xg, .inl (G.2.1, 32, .inl (nb gG))), (xy, .inl (G.2.1, 16, .inl (nb gY))), (xe, .inl (G.2.1, 8, .inl (nb gE))), (xc, .inl (G.2.1, 1200, .inl (nb gC))), (xf, .inl (G.2.1, 128, .inl (nn gF))), (xn, .inl (G.2.1, 128, .inl (nn gN)))] := hD_145
                replace hS : va_S A sv.heap H_145 locs_145 := hS_145
                clear hP_145 hD_145 hS_145
                refine lv_iconst (v := nI 1) hx hb dX5_look_148 (by decide) ?_
                replace hP : va_P G.1 vwCl [(mo, .inr (5, [.int (nI rf), .ref xd, .int (nI n), .int (nI y), .ref xb, .int (nI nb1), .int (nI up), .int (nI wi), .int cr, .ref xk, .ref xl, .ref xt, .int (nI 0), .ref xw, .ref xs, .ref xg, .ref xy, .ref xe, .int (bI (gD a)), .int (bI (gD (a + 1))), .int (nI (pas gD a)), .int (nI hr), .int br, .int bp, .int (nI gd), .int (nI gp), .int (nI sl), .ref xc, .ref xf, .ref xn])), (xd, .inl (G.2.1, 1200, .inl (nb gD))), (xb, .inl (G.2.1, 40, .inl (nb gB))), (xk, .inl (G.2.1, 16, .inl (nb gK))), (xl, .inl (G.2.1, 8, .inl (nb gL))), (xt, .inl (G.2.1, 192, .inl (nb gT))), (xw, .inl (G.2.1, 64, .inl gW)), (xs, .inl (G.2.1, 16, .inl gS)), (xg, .inl (G.2.1, 32, .inl (nb gG))), (xy, .inl (G.2.1, 16, .inl (nb gY))), (xe, .inl (G.2.1, 8, .inl (nb gE))), (xc, .inl (G.2.1, 1200, .inl (nb gC))), (xf, .inl (G.2.1, 128, .inl (nn gF))), (xn, .inl (G.2.1, 128, .inl (nn gN)))] H_145 := by have e9 : (.int (nI (256 * ((gD (a + 2)).toNat) + ((gD (a + 3)).toNat))) : Value) = .int (nI (pas gD a)) := (congrArg (fun z => Value.int (nI z)) (show 256 * ((gD (a + 2)).toNat) + ((gD (a + 3)).toNat) = pas gD a by unfold pas; rw [if_pos c_120]; omega)); rw [← e9]; exact hP
                replace hD : va_D A [(mo, .inr (5, [.int (nI rf), .ref xd, .int (nI n), .int (nI y), .ref xb, .int (nI nb1), .int (nI up), .int (nI wi), .int cr, .ref xk, .ref xl, .ref xt, .int (nI 0), .ref xw, .ref xs, .ref xg, .ref xy, .ref xe, .int (bI (gD a)), .int (bI (gD (a + 1))), .int (nI (pas gD a)), .int (nI hr), .int br, .int bp, .int (nI gd), .int (nI gp), .int (nI sl), .ref xc, .ref xf, .ref xn])), (xd, .inl (G.2.1, 1200, .inl (nb gD))), (xb, .inl (G.2.1, 40, .inl (nb gB))), (xk, .inl (G.2.1, 16, .inl (nb gK))), (xl, .inl (G.2.1, 8, .inl (nb gL))), (xt, .inl (G.2.1, 192, .inl (nb gT))), (xw, .inl (G.2.1, 64, .inl gW)), (xs, .inl (G.2.1, 16, .inl gS)), (xg, .inl (G.2.1, 32, .inl (nb gG))), (xy, .inl (G.2.1, 16, .inl (nb gY))), (xe, .inl (G.2.1, 8, .inl (nb gE))), (xc, .inl (G.2.1, 1200, .inl (nb gC))), (xf, .inl (G.2.1, 128, .inl (nn gF))), (xn, .inl (G.2.1, 128, .inl (nn gN)))] := hD.set (p := 0) rfl
                exact hend (nI 1) () _ _ _ _ rfl rfl hP hD hS dX5_look_149
            · skip
              exfalso; omega
      · skip
        refine lv_aload_n hx hb dX5_look_64 rfl (lv_at hl 0 rfl) ?_
        refine va_get (D := G.1) (ci := 5) (v := .int (bI (gD (a + 1)))) (C := RX5) (T := TX5) (N := 30) hx hb hts in_wsX50 hown hK hP 0 rfl rfl 19 (by decide) (hts _ wm_413) (fun _ h9 => h9) rfl dX5_look_65 ?_
        refine f_if_eq (tgt := 87) (by omega) hx hb dX5_look_68 (by decide) (fun c_68 => ?_) (fun c_68 => ?_)
        · skip
          refine lv_iconst (v := nI 1) hx hb dX5_look_87 (by decide) ?_
          refine lv_goto (tgt := 92) hx hb dX5_look_88 (by decide) ?_
          refine lv_istore_n (lv' := [(2, .int (nI 1)), (0, .ref mo), (1, .int (nI a))]) hx hb dX5_look_92 rfl hl (by decide) rfl (fun ls hl2 => ?_)
          replace hl := hl2; clear hl2
          refine lv_iload_n hx hb dX5_look_93 rfl (lv_at hl 0 rfl) ?_
          refine lv_if_eq (tgt := 113) hx hb dX5_look_94 (by decide) (fun c9 => absurd c9 (by decide)) (fun _ => ?_)
          refine lv_iload_n hx hb dX5_look_97 rfl (lv_at hl 2 rfl) ?_
          refine lv_bipush (v := nI 10) hx hb dX5_look_98 (by decide) ?_
          refine lv_iadd hx hb dX5_look_100 ?_
          refine f_top (y := nI (a + 10)) (nI_add _ _) ?_
          refine lv_aload_n hx hb dX5_look_101 rfl (lv_at hl 1 rfl) ?_
          refine va_get (D := G.1) (ci := 5) (v := .int (bI (gD (a + 1)))) (C := RX5) (T := TX5) (N := 30) hx hb hts in_wsX50 hown hK hP 0 rfl rfl 19 (by decide) (hts _ wm_413) (fun _ h9 => h9) rfl dX5_look_102 ?_
          refine lv_iadd hx hb dX5_look_105 ?_
          refine f_top (y := nI (a + 10 + ((gD (a + 1)).toNat))) (nI_add _ _) ?_
          refine lv_aload_n hx hb dX5_look_106 rfl (lv_at hl 1 rfl) ?_
          refine va_get (D := G.1) (ci := 5) (v := .int (nI n)) (C := RX5) (T := TX5) (N := 30) hx hb hts in_wsX50 hown hK hP 0 rfl rfl 2 (by decide) (hts _ wm_376) (fun _ h9 => h9) rfl dX5_look_107 ?_
          refine f_icmp_le (tgt := 115) (by omega) (by omega) hx hb dX5_look_110 (by decide) (fun c_110 => ?_) (fun c_110 => ?_)
          · skip
            refine lv_aload_n hx hb dX5_look_115 rfl (lv_at hl 1 rfl) ?_
            refine va_get (D := G.1) (ci := 5) (v := .int (bI (gD a))) (C := RX5) (T := TX5) (N := 30) hx hb hts in_wsX50 hown hK hP 0 rfl rfl 18 (by decide) (hts _ wm_412) (fun _ h9 => h9) rfl dX5_look_116 ?_
            refine lv_iconst (v := nI 3) hx hb dX5_look_119 (by decide) ?_
            refine f_icmp_ne (tgt := 148) (by omega) (by omega) hx hb dX5_look_120 (by decide) (fun c_120 => ?_) (fun c_120 => ?_)
            · skip
              refine lv_iconst (v := nI 1) hx hb dX5_look_148 (by decide) ?_
              replace hP : va_P G.1 vwCl [(mo, .inr (5, [.int (nI rf), .ref xd, .int (nI n), .int (nI y), .ref xb, .int (nI nb1), .int (nI up), .int (nI wi), .int cr, .ref xk, .ref xl, .ref xt, .int (nI 0), .ref xw, .ref xs, .ref xg, .ref xy, .ref xe, .int (bI (gD a)), .int (bI (gD (a + 1))), .int (nI (pas gD a)), .int (nI hr), .int br, .int bp, .int (nI gd), .int (nI gp), .int (nI sl), .ref xc, .ref xf, .ref xn])), (xd, .inl (G.2.1, 1200, .inl (nb gD))), (xb, .inl (G.2.1, 40, .inl (nb gB))), (xk, .inl (G.2.1, 16, .inl (nb gK))), (xl, .inl (G.2.1, 8, .inl (nb gL))), (xt, .inl (G.2.1, 192, .inl (nb gT))), (xw, .inl (G.2.1, 64, .inl gW)), (xs, .inl (G.2.1, 16, .inl gS)), (xg, .inl (G.2.1, 32, .inl (nb gG))), (xy, .inl (G.2.1, 16, .inl (nb gY))), (xe, .inl (G.2.1, 8, .inl (nb gE))), (xc, .inl (G.2.1, 1200, .inl (nb gC))), (xf, .inl (G.2.1, 128, .inl (nn gF))), (xn, .inl (G.2.1, 128, .inl (nn gN)))] H_36 := by have e9 : (.int (nI 0) : Value) = .int (nI (pas gD a)) := (congrArg (fun z => Value.int (nI z)) (show 0 = pas gD a by unfold pas; rw [if_neg c_120])); rw [← e9]; exact hP
              replace hD : va_D A [(mo, .inr (5, [.int (nI rf), .ref xd, .int (nI n), .int (nI y), .ref xb, .int (nI nb1), .int (nI up), .int (nI wi), .int cr, .ref xk, .ref xl, .ref xt, .int (nI 0), .ref xw, .ref xs, .ref xg, .ref xy, .ref xe, .int (bI (gD a)), .int (bI (gD (a + 1))), .int (nI (pas gD a)), .int (nI hr), .int br, .int bp, .int (nI gd), .int (nI gp), .int (nI sl), .ref xc, .ref xf, .ref xn])), (xd, .inl (G.2.1, 1200, .inl (nb gD))), (xb, .inl (G.2.1, 40, .inl (nb gB))), (xk, .inl (G.2.1, 16, .inl (nb gK))), (xl, .inl (G.2.1, 8, .inl (nb gL))), (xt, .inl (G.2.1, 192, .inl (nb gT))), (xw, .inl (G.2.1, 64, .inl gW)), (xs, .inl (G.2.1, 16, .inl gS)), (xg, .inl (G.2.1, 32, .inl (nb gG))), (xy, .inl (G.2.1, 16, .inl (nb gY))), (xe, .inl (G.2.1, 8, .inl (nb gE))), (xc, .inl (G.2.1, 1200, .inl (nb gC))), (xf, .inl (G.2.1, 128, .inl (nn gF))), (xn, .inl (G.2.1, 128, .inl (nn gN)))] := hD.set (p := 0) rfl
              exact hend (nI 1) () _ _ _ _ rfl rfl hP hD hS dX5_look_149
            · skip
              refine lv_aload_n hx hb dX5_look_123 rfl (lv_at hl 1 rfl) ?_
              refine lv_sipush (v := nI 256) hx hb dX5_look_124 (by decide) ?_
              refine lv_aload_n hx hb dX5_look_127 rfl (lv_at hl 1 rfl) ?_
              refine va_get (D := G.1) (ci := 5) (v := .ref xd) (C := RX5) (T := TX5) (N := 30) hx hb hts in_wsX50 hown hK hP 0 rfl rfl 1 (by decide) (hts _ wm_250) (fun _ h9 => h9) rfl dX5_look_128 ?_
              refine lv_iload_n hx hb dX5_look_131 rfl (lv_at hl 2 rfl) ?_
              refine lv_iconst (v := nI 2) hx hb dX5_look_132 (by decide) ?_
              refine lv_iadd hx hb dX5_look_133 ?_
              refine f_top (y := nI (a + 2)) (nI_add _ _) ?_
              refine f_iald (v := bI (gD (a + 2))) hx hb hK hP 1 rfl (by omega) (by decide) rfl dX5_look_134 ?_
              refine lv_imul hx hb dX5_look_135 ?_
              refine f_top (y := nI (256 * ((gD (a + 2)).toNat))) (pk_mul _ _) ?_
              refine lv_aload_n hx hb dX5_look_136 rfl (lv_at hl 1 rfl) ?_
              refine va_get (D := G.1) (ci := 5) (v := .ref xd) (C := RX5) (T := TX5) (N := 30) hx hb hts in_wsX50 hown hK hP 0 rfl rfl 1 (by decide) (hts _ wm_250) (fun _ h9 => h9) rfl dX5_look_137 ?_
              refine lv_iload_n hx hb dX5_look_140 rfl (lv_at hl 2 rfl) ?_
              refine lv_iconst (v := nI 3) hx hb dX5_look_141 (by decide) ?_
              refine lv_iadd hx hb dX5_look_142 ?_
              refine f_top (y := nI (a + 3)) (nI_add _ _) ?_
              refine f_iald (v := bI (gD (a + 3))) hx hb hK hP 1 rfl (by omega) (by decide) rfl dX5_look_143 ?_
              refine lv_iadd hx hb dX5_look_144 ?_
              refine f_top (y := nI (256 * ((gD (a + 2)).toNat) + ((gD (a + 3)).toNat))) (nI_add _ _) ?_
              refine va_put (D := G.1) (ci := 5) (v := .int (nI (256 * ((gD (a + 2)).toNat) + ((gD (a + 3)).toNat)))) (ty := .int) (C := RX5) (T := TX5) (N := 30) hx hb hts in_wsX50 tyX5 tyX5_ok nmX5 hown hK hP hD hS 0 rfl rfl 20 (by decide) (hts _ wm_414) (fun _ h9 => h9) rfl (by decide +kernel) rfl rfl (Nat.le_of_ble_eq_true rfl) dX5_look_145 (fun H_145_1 locs_145_1 hP_145_1 hD_145_1 hS_145_1 => ?_)
              replace hP : va_P G.1 vwCl [(mo, .inr (5, [.int (nI rf), .ref xd, .int (nI n), .int (nI y), .ref xb, .int (nI nb1), .int (nI up), .int (nI wi), .int cr, .ref xk, .ref xl, .ref xt, .int (nI 0), .ref xw, .ref xs, .ref xg, .ref xy, .ref xe, .int (bI (gD a)), .int (bI (gD (a + 1))), .int (nI (256 * ((gD (a + 2)).toNat) + ((gD (a + 3)).toNat))), .int (nI hr), .int br, .int bp, .int (nI gd), .int (nI gp), .int (nI sl), .ref xc, .ref xf, .ref xn])), (xd, .inl (G.2.1, 1200, .inl (nb gD))), (xb, .inl (G.2.1, 40, .inl (nb gB))), (xk, .inl (G.2.1, 16, .inl (nb gK))), (xl, .inl (G.2.1, 8, .inl (nb gL))), (xt, .inl (G.2.1, 192, .inl (nb gT))), (xw, .inl (G.2.1, 64, .inl gW)), (xs, .inl (G.2.1, 16, .inl gS)), (xg, .inl (G.2.1, 32, .inl (nb gG))), (xy, .inl (G.2.1, 16, .inl (nb gY))), (xe, .inl (G.2.1, 8, .inl (nb gE))), (xc, .inl (G.2.1, 1200, .inl (nb gC))), (xf, .inl (G.2.1, 128, .inl (nn gF))), (xn, .inl (G.2.1, 128, .inl (nn gN)))] H_145_1 := hP_145_1
              replace hD : va_D A [(mo, .inr (5, [.int (nI rf), .ref xd, .int (nI n), .int (nI y), .ref xb, .int (nI nb1), .int (nI up), .int (nI wi), .int cr, .ref xk, .ref xl, .ref xt, .int (nI 0), .ref xw, .ref xs, .ref xg, .ref xy, .ref xe, .int (bI (gD a)), .int (bI (gD (a + 1))), .int (nI (256 * ((gD (a + 2)).toNat) + ((gD (a + 3)).toNat))), .int (nI hr), .int br, .int bp, .int (nI gd), .int (nI gp), .int (nI sl), .ref xc, .ref xf, .ref xn])), (xd, .inl (G.2.1, 1200, .inl (nb gD))), (xb, .inl (G.2.1, 40, .inl (nb gB))), (xk, .inl (G.2.1, 16, .inl (nb gK))), (xl, .inl (G.2.1, 8, .inl (nb gL))), (xt, .inl (G.2.1, 192, .inl (nb gT))), (xw, .inl (G.2.1, 64, .inl gW)), (xs, .inl (G.2.1, 16, .inl gS)), (xg, .inl (G.2.1, 32, .inl (nb gG))), (xy, .inl (G.2.1, 16, .inl (nb gY))), (xe, .inl (G.2.1, 8, .inl (nb gE))), (xc, .inl (G.2.1, 1200, .inl (nb gC))), (xf, .inl (G.2.1, 128, .inl (nn gF))), (xn, .inl (G.2.1, 128, .inl (nn gN)))] := hD_145_1
              replace hS : va_S A sv.heap H_145_1 locs_145_1 := hS_145_1
              clear hP_145_1 hD_145_1 hS_145_1
              refine lv_iconst (v := nI 1) hx hb dX5_look_148 (by decide) ?_
              replace hP : va_P G.1 vwCl [(mo, .inr (5, [.int (nI rf), .ref xd, .int (nI n), .int (nI y), .ref xb, .int (nI nb1), .int (nI up), .int (nI wi), .int cr, .ref xk, .ref xl, .ref xt, .int (nI 0), .ref xw, .ref xs, .ref xg, .ref xy, .ref xe, .int (bI (gD a)), .int (bI (gD (a + 1))), .int (nI (pas gD a)), .int (nI hr), .int br, .int bp, .int (nI gd), .int (nI gp), .int (nI sl), .ref xc, .ref xf, .ref xn])), (xd, .inl (G.2.1, 1200, .inl (nb gD))), (xb, .inl (G.2.1, 40, .inl (nb gB))), (xk, .inl (G.2.1, 16, .inl (nb gK))), (xl, .inl (G.2.1, 8, .inl (nb gL))), (xt, .inl (G.2.1, 192, .inl (nb gT))), (xw, .inl (G.2.1, 64, .inl gW)), (xs, .inl (G.2.1, 16, .inl gS)), (xg, .inl (G.2.1, 32, .inl (nb gG))), (xy, .inl (G.2.1, 16, .inl (nb gY))), (xe, .inl (G.2.1, 8, .inl (nb gE))), (xc, .inl (G.2.1, 1200, .inl (nb gC))), (xf, .inl (G.2.1, 128, .inl (nn gF))), (xn, .inl (G.2.1, 128, .inl (nn gN)))] H_145_1 := by have e9 : (.int (nI (256 * ((gD (a + 2)).toNat) + ((gD (a + 3)).toNat))) : Value) = .int (nI (pas gD a)) := (congrArg (fun z => Value.int (nI z)) (show 256 * ((gD (a + 2)).toNat) + ((gD (a + 3)).toNat) = pas gD a by unfold pas; rw [if_pos c_120]; omega)); rw [← e9]; exact hP
              replace hD : va_D A [(mo, .inr (5, [.int (nI rf), .ref xd, .int (nI n), .int (nI y), .ref xb, .int (nI nb1), .int (nI up), .int (nI wi), .int cr, .ref xk, .ref xl, .ref xt, .int (nI 0), .ref xw, .ref xs, .ref xg, .ref xy, .ref xe, .int (bI (gD a)), .int (bI (gD (a + 1))), .int (nI (pas gD a)), .int (nI hr), .int br, .int bp, .int (nI gd), .int (nI gp), .int (nI sl), .ref xc, .ref xf, .ref xn])), (xd, .inl (G.2.1, 1200, .inl (nb gD))), (xb, .inl (G.2.1, 40, .inl (nb gB))), (xk, .inl (G.2.1, 16, .inl (nb gK))), (xl, .inl (G.2.1, 8, .inl (nb gL))), (xt, .inl (G.2.1, 192, .inl (nb gT))), (xw, .inl (G.2.1, 64, .inl gW)), (xs, .inl (G.2.1, 16, .inl gS)), (xg, .inl (G.2.1, 32, .inl (nb gG))), (xy, .inl (G.2.1, 16, .inl (nb gY))), (xe, .inl (G.2.1, 8, .inl (nb gE))), (xc, .inl (G.2.1, 1200, .inl (nb gC))), (xf, .inl (G.2.1, 128, .inl (nn gF))), (xn, .inl (G.2.1, 128, .inl (nn gN)))] := hD.set (p := 0) rfl
              exact hend (nI 1) () _ _ _ _ rfl rfl hP hD hS dX5_look_149
          · skip
            exfalso; omega
        · skip
          refine lv_aload_n hx hb dX5_look_71 rfl (lv_at hl 0 rfl) ?_
          refine va_get (D := G.1) (ci := 5) (v := .int (bI (gD a))) (C := RX5) (T := TX5) (N := 30) hx hb hts in_wsX50 hown hK hP 0 rfl rfl 18 (by decide) (hts _ wm_412) (fun _ h9 => h9) rfl dX5_look_72 ?_
          refine lv_iconst (v := nI 3) hx hb dX5_look_75 (by decide) ?_
          refine f_icmp_ne (tgt := 91) (by omega) (by omega) hx hb dX5_look_76 (by decide) (fun c_76 => ?_) (fun c_76 => ?_)
          · skip
            exfalso; omega
          · skip
            refine lv_aload_n hx hb dX5_look_79 rfl (lv_at hl 0 rfl) ?_
            refine va_get (D := G.1) (ci := 5) (v := .int (bI (gD (a + 1)))) (C := RX5) (T := TX5) (N := 30) hx hb hts in_wsX50 hown hK hP 0 rfl rfl 19 (by decide) (hts _ wm_413) (fun _ h9 => h9) rfl dX5_look_80 ?_
            refine lv_iconst (v := nI 2) hx hb dX5_look_83 (by decide) ?_
            refine f_icmp_ne (tgt := 91) (by omega) (by omega) hx hb dX5_look_84 (by decide) (fun c_84 => ?_) (fun c_84 => ?_)
            · skip
              exfalso; omega
            · skip
              refine lv_iconst (v := nI 1) hx hb dX5_look_87 (by decide) ?_
              refine lv_goto (tgt := 92) hx hb dX5_look_88 (by decide) ?_
              refine lv_istore_n (lv' := [(2, .int (nI 1)), (0, .ref mo), (1, .int (nI a))]) hx hb dX5_look_92 rfl hl (by decide) rfl (fun ls hl2 => ?_)
              replace hl := hl2; clear hl2
              refine lv_iload_n hx hb dX5_look_93 rfl (lv_at hl 0 rfl) ?_
              refine lv_if_eq (tgt := 113) hx hb dX5_look_94 (by decide) (fun c9 => absurd c9 (by decide)) (fun _ => ?_)
              refine lv_iload_n hx hb dX5_look_97 rfl (lv_at hl 2 rfl) ?_
              refine lv_bipush (v := nI 10) hx hb dX5_look_98 (by decide) ?_
              refine lv_iadd hx hb dX5_look_100 ?_
              refine f_top (y := nI (a + 10)) (nI_add _ _) ?_
              refine lv_aload_n hx hb dX5_look_101 rfl (lv_at hl 1 rfl) ?_
              refine va_get (D := G.1) (ci := 5) (v := .int (bI (gD (a + 1)))) (C := RX5) (T := TX5) (N := 30) hx hb hts in_wsX50 hown hK hP 0 rfl rfl 19 (by decide) (hts _ wm_413) (fun _ h9 => h9) rfl dX5_look_102 ?_
              refine lv_iadd hx hb dX5_look_105 ?_
              refine f_top (y := nI (a + 10 + ((gD (a + 1)).toNat))) (nI_add _ _) ?_
              refine lv_aload_n hx hb dX5_look_106 rfl (lv_at hl 1 rfl) ?_
              refine va_get (D := G.1) (ci := 5) (v := .int (nI n)) (C := RX5) (T := TX5) (N := 30) hx hb hts in_wsX50 hown hK hP 0 rfl rfl 2 (by decide) (hts _ wm_376) (fun _ h9 => h9) rfl dX5_look_107 ?_
              refine f_icmp_le (tgt := 115) (by omega) (by omega) hx hb dX5_look_110 (by decide) (fun c_110 => ?_) (fun c_110 => ?_)
              · skip
                refine lv_aload_n hx hb dX5_look_115 rfl (lv_at hl 1 rfl) ?_
                refine va_get (D := G.1) (ci := 5) (v := .int (bI (gD a))) (C := RX5) (T := TX5) (N := 30) hx hb hts in_wsX50 hown hK hP 0 rfl rfl 18 (by decide) (hts _ wm_412) (fun _ h9 => h9) rfl dX5_look_116 ?_
                refine lv_iconst (v := nI 3) hx hb dX5_look_119 (by decide) ?_
                refine f_icmp_ne (tgt := 148) (by omega) (by omega) hx hb dX5_look_120 (by decide) (fun c_120 => ?_) (fun c_120 => ?_)
                · skip
                  refine lv_iconst (v := nI 1) hx hb dX5_look_148 (by decide) ?_
                  replace hP : va_P G.1 vwCl [(mo, .inr (5, [.int (nI rf), .ref xd, .int (nI n), .int (nI y), .ref xb, .int (nI nb1), .int (nI up), .int (nI wi), .int cr, .ref xk, .ref xl, .ref xt, .int (nI 0), .ref xw, .ref xs, .ref xg, .ref xy, .ref xe, .int (bI (gD a)), .int (bI (gD (a + 1))), .int (nI (pas gD a)), .int (nI hr), .int br, .int bp, .int (nI gd), .int (nI gp), .int (nI sl), .ref xc, .ref xf, .ref xn])), (xd, .inl (G.2.1, 1200, .inl (nb gD))), (xb, .inl (G.2.1, 40, .inl (nb gB))), (xk, .inl (G.2.1, 16, .inl (nb gK))), (xl, .inl (G.2.1, 8, .inl (nb gL))), (xt, .inl (G.2.1, 192, .inl (nb gT))), (xw, .inl (G.2.1, 64, .inl gW)), (xs, .inl (G.2.1, 16, .inl gS)), (xg, .inl (G.2.1, 32, .inl (nb gG))), (xy, .inl (G.2.1, 16, .inl (nb gY))), (xe, .inl (G.2.1, 8, .inl (nb gE))), (xc, .inl (G.2.1, 1200, .inl (nb gC))), (xf, .inl (G.2.1, 128, .inl (nn gF))), (xn, .inl (G.2.1, 128, .inl (nn gN)))] H_36 := by have e9 : (.int (nI 0) : Value) = .int (nI (pas gD a)) := (congrArg (fun z => Value.int (nI z)) (show 0 = pas gD a by unfold pas; rw [if_neg c_120])); rw [← e9]; exact hP
                  replace hD : va_D A [(mo, .inr (5, [.int (nI rf), .ref xd, .int (nI n), .int (nI y), .ref xb, .int (nI nb1), .int (nI up), .int (nI wi), .int cr, .ref xk, .ref xl, .ref xt, .int (nI 0), .ref xw, .ref xs, .ref xg, .ref xy, .ref xe, .int (bI (gD a)), .int (bI (gD (a + 1))), .int (nI (pas gD a)), .int (nI hr), .int br, .int bp, .int (nI gd), .int (nI gp), .int (nI sl), .ref xc, .ref xf, .ref xn])), (xd, .inl (G.2.1, 1200, .inl (nb gD))), (xb, .inl (G.2.1, 40, .inl (nb gB))), (xk, .inl (G.2.1, 16, .inl (nb gK))), (xl, .inl (G.2.1, 8, .inl (nb gL))), (xt, .inl (G.2.1, 192, .inl (nb gT))), (xw, .inl (G.2.1, 64, .inl gW)), (xs, .inl (G.2.1, 16, .inl gS)), (xg, .inl (G.2.1, 32, .inl (nb gG))), (xy, .inl (G.2.1, 16, .inl (nb gY))), (xe, .inl (G.2.1, 8, .inl (nb gE))), (xc, .inl (G.2.1, 1200, .inl (nb gC))), (xf, .inl (G.2.1, 128, .inl (nn gF))), (xn, .inl (G.2.1, 128, .inl (nn gN)))] := hD.set (p := 0) rfl
                  exact hend (nI 1) () _ _ _ _ rfl rfl hP hD hS dX5_look_149
                · skip
                  refine lv_aload_n hx hb dX5_look_123 rfl (lv_at hl 1 rfl) ?_
                  refine lv_sipush (v := nI 256) hx hb dX5_look_124 (by decide) ?_
                  refine lv_aload_n hx hb dX5_look_127 rfl (lv_at hl 1 rfl) ?_
                  refine va_get (D := G.1) (ci := 5) (v := .ref xd) (C := RX5) (T := TX5) (N := 30) hx hb hts in_wsX50 hown hK hP 0 rfl rfl 1 (by decide) (hts _ wm_250) (fun _ h9 => h9) rfl dX5_look_128 ?_
                  refine lv_iload_n hx hb dX5_look_131 rfl (lv_at hl 2 rfl) ?_
                  refine lv_iconst (v := nI 2) hx hb dX5_look_132 (by decide) ?_
                  refine lv_iadd hx hb dX5_look_133 ?_
                  refine f_top (y := nI (a + 2)) (nI_add _ _) ?_
                  refine f_iald (v := bI (gD (a + 2))) hx hb hK hP 1 rfl (by omega) (by decide) rfl dX5_look_134 ?_
                  refine lv_imul hx hb dX5_look_135 ?_
                  refine f_top (y := nI (256 * ((gD (a + 2)).toNat))) (pk_mul _ _) ?_
                  refine lv_aload_n hx hb dX5_look_136 rfl (lv_at hl 1 rfl) ?_
                  refine va_get (D := G.1) (ci := 5) (v := .ref xd) (C := RX5) (T := TX5) (N := 30) hx hb hts in_wsX50 hown hK hP 0 rfl rfl 1 (by decide) (hts _ wm_250) (fun _ h9 => h9) rfl dX5_look_137 ?_
                  refine lv_iload_n hx hb dX5_look_140 rfl (lv_at hl 2 rfl) ?_
                  refine lv_iconst (v := nI 3) hx hb dX5_look_141 (by decide) ?_
                  refine lv_iadd hx hb dX5_look_142 ?_
                  refine f_top (y := nI (a + 3)) (nI_add _ _) ?_
                  refine f_iald (v := bI (gD (a + 3))) hx hb hK hP 1 rfl (by omega) (by decide) rfl dX5_look_143 ?_
                  refine lv_iadd hx hb dX5_look_144 ?_
                  refine f_top (y := nI (256 * ((gD (a + 2)).toNat) + ((gD (a + 3)).toNat))) (nI_add _ _) ?_
                  refine va_put (D := G.1) (ci := 5) (v := .int (nI (256 * ((gD (a + 2)).toNat) + ((gD (a + 3)).toNat)))) (ty := .int) (C := RX5) (T := TX5) (N := 30) hx hb hts in_wsX50 tyX5 tyX5_ok nmX5 hown hK hP hD hS 0 rfl rfl 20 (by decide) (hts _ wm_414) (fun _ h9 => h9) rfl (by decide +kernel) rfl rfl (Nat.le_of_ble_eq_true rfl) dX5_look_145 (fun H_145_2 locs_145_2 hP_145_2 hD_145_2 hS_145_2 => ?_)
                  replace hP : va_P G.1 vwCl [(mo, .inr (5, [.int (nI rf), .ref xd, .int (nI n), .int (nI y), .ref xb, .int (nI nb1), .int (nI up), .int (nI wi), .int cr, .ref xk, .ref xl, .ref xt, .int (nI 0), .ref xw, .ref xs, .ref xg, .ref xy, .ref xe, .int (bI (gD a)), .int (bI (gD (a + 1))), .int (nI (256 * ((gD (a + 2)).toNat) + ((gD (a + 3)).toNat))), .int (nI hr), .int br, .int bp, .int (nI gd), .int (nI gp), .int (nI sl), .ref xc, .ref xf, .ref xn])), (xd, .inl (G.2.1, 1200, .inl (nb gD))), (xb, .inl (G.2.1, 40, .inl (nb gB))), (xk, .inl (G.2.1, 16, .inl (nb gK))), (xl, .inl (G.2.1, 8, .inl (nb gL))), (xt, .inl (G.2.1, 192, .inl (nb gT))), (xw, .inl (G.2.1, 64, .inl gW)), (xs, .inl (G.2.1, 16, .inl gS)), (xg, .inl (G.2.1, 32, .inl (nb gG))), (xy, .inl (G.2.1, 16, .inl (nb gY))), (xe, .inl (G.2.1, 8, .inl (nb gE))), (xc, .inl (G.2.1, 1200, .inl (nb gC))), (xf, .inl (G.2.1, 128, .inl (nn gF))), (xn, .inl (G.2.1, 128, .inl (nn gN)))] H_145_2 := hP_145_2
                  replace hD : va_D A [(mo, .inr (5, [.int (nI rf), .ref xd, .int (nI n), .int (nI y), .ref xb, .int (nI nb1), .int (nI up), .int (nI wi), .int cr, .ref xk, .ref xl, .ref xt, .int (nI 0), .ref xw, .ref xs, .ref xg, .ref xy, .ref xe, .int (bI (gD a)), .int (bI (gD (a + 1))), .int (nI (256 * ((gD (a + 2)).toNat) + ((gD (a + 3)).toNat))), .int (nI hr), .int br, .int bp, .int (nI gd), .int (nI gp), .int (nI sl), .ref xc, .ref xf, .ref xn])), (xd, .inl (G.2.1, 1200, .inl (nb gD))), (xb, .inl (G.2.1, 40, .inl (nb gB))), (xk, .inl (G.2.1, 16, .inl (nb gK))), (xl, .inl (G.2.1, 8, .inl (nb gL))), (xt, .inl (G.2.1, 192, .inl (nb gT))), (xw, .inl (G.2.1, 64, .inl gW)), (xs, .inl (G.2.1, 16, .inl gS)), (xg, .inl (G.2.1, 32, .inl (nb gG))), (xy, .inl (G.2.1, 16, .inl (nb gY))), (xe, .inl (G.2.1, 8, .inl (nb gE))), (xc, .inl (G.2.1, 1200, .inl (nb gC))), (xf, .inl (G.2.1, 128, .inl (nn gF))), (xn, .inl (G.2.1, 128, .inl (nn gN)))] := hD_145_2
                  replace hS : va_S A sv.heap H_145_2 locs_145_2 := hS_145_2
                  clear hP_145_2 hD_145_2 hS_145_2
                  refine lv_iconst (v := nI 1) hx hb dX5_look_148 (by decide) ?_
                  replace hP : va_P G.1 vwCl [(mo, .inr (5, [.int (nI rf), .ref xd, .int (nI n), .int (nI y), .ref xb, .int (nI nb1), .int (nI up), .int (nI wi), .int cr, .ref xk, .ref xl, .ref xt, .int (nI 0), .ref xw, .ref xs, .ref xg, .ref xy, .ref xe, .int (bI (gD a)), .int (bI (gD (a + 1))), .int (nI (pas gD a)), .int (nI hr), .int br, .int bp, .int (nI gd), .int (nI gp), .int (nI sl), .ref xc, .ref xf, .ref xn])), (xd, .inl (G.2.1, 1200, .inl (nb gD))), (xb, .inl (G.2.1, 40, .inl (nb gB))), (xk, .inl (G.2.1, 16, .inl (nb gK))), (xl, .inl (G.2.1, 8, .inl (nb gL))), (xt, .inl (G.2.1, 192, .inl (nb gT))), (xw, .inl (G.2.1, 64, .inl gW)), (xs, .inl (G.2.1, 16, .inl gS)), (xg, .inl (G.2.1, 32, .inl (nb gG))), (xy, .inl (G.2.1, 16, .inl (nb gY))), (xe, .inl (G.2.1, 8, .inl (nb gE))), (xc, .inl (G.2.1, 1200, .inl (nb gC))), (xf, .inl (G.2.1, 128, .inl (nn gF))), (xn, .inl (G.2.1, 128, .inl (nn gN)))] H_145_2 := by have e9 : (.int (nI (256 * ((gD (a + 2)).toNat) + ((gD (a + 3)).toNat))) : Value) = .int (nI (pas gD a)) := (congrArg (fun z => Value.int (nI z)) (show 256 * ((gD (a + 2)).toNat) + ((gD (a + 3)).toNat) = pas gD a by unfold pas; rw [if_pos c_120]; omega)); rw [← e9]; exact hP
                  replace hD : va_D A [(mo, .inr (5, [.int (nI rf), .ref xd, .int (nI n), .int (nI y), .ref xb, .int (nI nb1), .int (nI up), .int (nI wi), .int cr, .ref xk, .ref xl, .ref xt, .int (nI 0), .ref xw, .ref xs, .ref xg, .ref xy, .ref xe, .int (bI (gD a)), .int (bI (gD (a + 1))), .int (nI (pas gD a)), .int (nI hr), .int br, .int bp, .int (nI gd), .int (nI gp), .int (nI sl), .ref xc, .ref xf, .ref xn])), (xd, .inl (G.2.1, 1200, .inl (nb gD))), (xb, .inl (G.2.1, 40, .inl (nb gB))), (xk, .inl (G.2.1, 16, .inl (nb gK))), (xl, .inl (G.2.1, 8, .inl (nb gL))), (xt, .inl (G.2.1, 192, .inl (nb gT))), (xw, .inl (G.2.1, 64, .inl gW)), (xs, .inl (G.2.1, 16, .inl gS)), (xg, .inl (G.2.1, 32, .inl (nb gG))), (xy, .inl (G.2.1, 16, .inl (nb gY))), (xe, .inl (G.2.1, 8, .inl (nb gE))), (xc, .inl (G.2.1, 1200, .inl (nb gC))), (xf, .inl (G.2.1, 128, .inl (nn gF))), (xn, .inl (G.2.1, 128, .inl (nn gN)))] := hD.set (p := 0) rfl
                  exact hend (nI 1) () _ _ _ _ rfl rfl hP hD hS dX5_look_149
              · skip
                exfalso; omega
    · skip
      refine lv_aload_n hx hb dX5_look_47 rfl (lv_at hl 0 rfl) ?_
      refine va_get (D := G.1) (ci := 5) (v := .int (bI (gD (a + 1)))) (C := RX5) (T := TX5) (N := 30) hx hb hts in_wsX50 hown hK hP 0 rfl rfl 19 (by decide) (hts _ wm_413) (fun _ h9 => h9) rfl dX5_look_48 ?_
      refine lv_bipush (v := nI 40) hx hb dX5_look_51 (by decide) ?_
      refine f_icmp_le (tgt := 87) (by omega) (by omega) hx hb dX5_look_53 (by decide) (fun c_53 => ?_) (fun c_53 => ?_)
      · skip
        refine lv_iconst (v := nI 1) hx hb dX5_look_87 (by decide) ?_
        refine lv_goto (tgt := 92) hx hb dX5_look_88 (by decide) ?_
        refine lv_istore_n (lv' := [(2, .int (nI 1)), (0, .ref mo), (1, .int (nI a))]) hx hb dX5_look_92 rfl hl (by decide) rfl (fun ls hl2 => ?_)
        replace hl := hl2; clear hl2
        refine lv_iload_n hx hb dX5_look_93 rfl (lv_at hl 0 rfl) ?_
        refine lv_if_eq (tgt := 113) hx hb dX5_look_94 (by decide) (fun c9 => absurd c9 (by decide)) (fun _ => ?_)
        refine lv_iload_n hx hb dX5_look_97 rfl (lv_at hl 2 rfl) ?_
        refine lv_bipush (v := nI 10) hx hb dX5_look_98 (by decide) ?_
        refine lv_iadd hx hb dX5_look_100 ?_
        refine f_top (y := nI (a + 10)) (nI_add _ _) ?_
        refine lv_aload_n hx hb dX5_look_101 rfl (lv_at hl 1 rfl) ?_
        refine va_get (D := G.1) (ci := 5) (v := .int (bI (gD (a + 1)))) (C := RX5) (T := TX5) (N := 30) hx hb hts in_wsX50 hown hK hP 0 rfl rfl 19 (by decide) (hts _ wm_413) (fun _ h9 => h9) rfl dX5_look_102 ?_
        refine lv_iadd hx hb dX5_look_105 ?_
        refine f_top (y := nI (a + 10 + ((gD (a + 1)).toNat))) (nI_add _ _) ?_
        refine lv_aload_n hx hb dX5_look_106 rfl (lv_at hl 1 rfl) ?_
        refine va_get (D := G.1) (ci := 5) (v := .int (nI n)) (C := RX5) (T := TX5) (N := 30) hx hb hts in_wsX50 hown hK hP 0 rfl rfl 2 (by decide) (hts _ wm_376) (fun _ h9 => h9) rfl dX5_look_107 ?_
        refine f_icmp_le (tgt := 115) (by omega) (by omega) hx hb dX5_look_110 (by decide) (fun c_110 => ?_) (fun c_110 => ?_)
        · skip
          refine lv_aload_n hx hb dX5_look_115 rfl (lv_at hl 1 rfl) ?_
          refine va_get (D := G.1) (ci := 5) (v := .int (bI (gD a))) (C := RX5) (T := TX5) (N := 30) hx hb hts in_wsX50 hown hK hP 0 rfl rfl 18 (by decide) (hts _ wm_412) (fun _ h9 => h9) rfl dX5_look_116 ?_
          refine lv_iconst (v := nI 3) hx hb dX5_look_119 (by decide) ?_
          refine f_icmp_ne (tgt := 148) (by omega) (by omega) hx hb dX5_look_120 (by decide) (fun c_120 => ?_) (fun c_120 => ?_)
          · skip
            refine lv_iconst (v := nI 1) hx hb dX5_look_148 (by decide) ?_
            replace hP : va_P G.1 vwCl [(mo, .inr (5, [.int (nI rf), .ref xd, .int (nI n), .int (nI y), .ref xb, .int (nI nb1), .int (nI up), .int (nI wi), .int cr, .ref xk, .ref xl, .ref xt, .int (nI 0), .ref xw, .ref xs, .ref xg, .ref xy, .ref xe, .int (bI (gD a)), .int (bI (gD (a + 1))), .int (nI (pas gD a)), .int (nI hr), .int br, .int bp, .int (nI gd), .int (nI gp), .int (nI sl), .ref xc, .ref xf, .ref xn])), (xd, .inl (G.2.1, 1200, .inl (nb gD))), (xb, .inl (G.2.1, 40, .inl (nb gB))), (xk, .inl (G.2.1, 16, .inl (nb gK))), (xl, .inl (G.2.1, 8, .inl (nb gL))), (xt, .inl (G.2.1, 192, .inl (nb gT))), (xw, .inl (G.2.1, 64, .inl gW)), (xs, .inl (G.2.1, 16, .inl gS)), (xg, .inl (G.2.1, 32, .inl (nb gG))), (xy, .inl (G.2.1, 16, .inl (nb gY))), (xe, .inl (G.2.1, 8, .inl (nb gE))), (xc, .inl (G.2.1, 1200, .inl (nb gC))), (xf, .inl (G.2.1, 128, .inl (nn gF))), (xn, .inl (G.2.1, 128, .inl (nn gN)))] H_36 := by have e9 : (.int (nI 0) : Value) = .int (nI (pas gD a)) := (congrArg (fun z => Value.int (nI z)) (show 0 = pas gD a by unfold pas; rw [if_neg c_120])); rw [← e9]; exact hP
            replace hD : va_D A [(mo, .inr (5, [.int (nI rf), .ref xd, .int (nI n), .int (nI y), .ref xb, .int (nI nb1), .int (nI up), .int (nI wi), .int cr, .ref xk, .ref xl, .ref xt, .int (nI 0), .ref xw, .ref xs, .ref xg, .ref xy, .ref xe, .int (bI (gD a)), .int (bI (gD (a + 1))), .int (nI (pas gD a)), .int (nI hr), .int br, .int bp, .int (nI gd), .int (nI gp), .int (nI sl), .ref xc, .ref xf, .ref xn])), (xd, .inl (G.2.1, 1200, .inl (nb gD))), (xb, .inl (G.2.1, 40, .inl (nb gB))), (xk, .inl (G.2.1, 16, .inl (nb gK))), (xl, .inl (G.2.1, 8, .inl (nb gL))), (xt, .inl (G.2.1, 192, .inl (nb gT))), (xw, .inl (G.2.1, 64, .inl gW)), (xs, .inl (G.2.1, 16, .inl gS)), (xg, .inl (G.2.1, 32, .inl (nb gG))), (xy, .inl (G.2.1, 16, .inl (nb gY))), (xe, .inl (G.2.1, 8, .inl (nb gE))), (xc, .inl (G.2.1, 1200, .inl (nb gC))), (xf, .inl (G.2.1, 128, .inl (nn gF))), (xn, .inl (G.2.1, 128, .inl (nn gN)))] := hD.set (p := 0) rfl
            exact hend (nI 1) () _ _ _ _ rfl rfl hP hD hS dX5_look_149
          · skip
            refine lv_aload_n hx hb dX5_look_123 rfl (lv_at hl 1 rfl) ?_
            refine lv_sipush (v := nI 256) hx hb dX5_look_124 (by decide) ?_
            refine lv_aload_n hx hb dX5_look_127 rfl (lv_at hl 1 rfl) ?_
            refine va_get (D := G.1) (ci := 5) (v := .ref xd) (C := RX5) (T := TX5) (N := 30) hx hb hts in_wsX50 hown hK hP 0 rfl rfl 1 (by decide) (hts _ wm_250) (fun _ h9 => h9) rfl dX5_look_128 ?_
            refine lv_iload_n hx hb dX5_look_131 rfl (lv_at hl 2 rfl) ?_
            refine lv_iconst (v := nI 2) hx hb dX5_look_132 (by decide) ?_
            refine lv_iadd hx hb dX5_look_133 ?_
            refine f_top (y := nI (a + 2)) (nI_add _ _) ?_
            refine f_iald (v := bI (gD (a + 2))) hx hb hK hP 1 rfl (by omega) (by decide) rfl dX5_look_134 ?_
            refine lv_imul hx hb dX5_look_135 ?_
            refine f_top (y := nI (256 * ((gD (a + 2)).toNat))) (pk_mul _ _) ?_
            refine lv_aload_n hx hb dX5_look_136 rfl (lv_at hl 1 rfl) ?_
            refine va_get (D := G.1) (ci := 5) (v := .ref xd) (C := RX5) (T := TX5) (N := 30) hx hb hts in_wsX50 hown hK hP 0 rfl rfl 1 (by decide) (hts _ wm_250) (fun _ h9 => h9) rfl dX5_look_137 ?_
            refine lv_iload_n hx hb dX5_look_140 rfl (lv_at hl 2 rfl) ?_
            refine lv_iconst (v := nI 3) hx hb dX5_look_141 (by decide) ?_
            refine lv_iadd hx hb dX5_look_142 ?_
            refine f_top (y := nI (a + 3)) (nI_add _ _) ?_
            refine f_iald (v := bI (gD (a + 3))) hx hb hK hP 1 rfl (by omega) (by decide) rfl dX5_look_143 ?_
            refine lv_iadd hx hb dX5_look_144 ?_
            refine f_top (y := nI (256 * ((gD (a + 2)).toNat) + ((gD (a + 3)).toNat))) (nI_add _ _) ?_
            refine va_put (D := G.1) (ci := 5) (v := .int (nI (256 * ((gD (a + 2)).toNat) + ((gD (a + 3)).toNat)))) (ty := .int) (C := RX5) (T := TX5) (N := 30) hx hb hts in_wsX50 tyX5 tyX5_ok nmX5 hown hK hP hD hS 0 rfl rfl 20 (by decide) (hts _ wm_414) (fun _ h9 => h9) rfl (by decide +kernel) rfl rfl (Nat.le_of_ble_eq_true rfl) dX5_look_145 (fun H_145_3 locs_145_3 hP_145_3 hD_145_3 hS_145_3 => ?_)
            replace hP : va_P G.1 vwCl [(mo, .inr (5, [.int (nI rf), .ref xd, .int (nI n), .int (nI y), .ref xb, .int (nI nb1), .int (nI up), .int (nI wi), .int cr, .ref xk, .ref xl, .ref xt, .int (nI 0), .ref xw, .ref xs, .ref xg, .ref xy, .ref xe, .int (bI (gD a)), .int (bI (gD (a + 1))), .int (nI (256 * ((gD (a + 2)).toNat) + ((gD (a + 3)).toNat))), .int (nI hr), .int br, .int bp, .int (nI gd), .int (nI gp), .int (nI sl), .ref xc, .ref xf, .ref xn])), (xd, .inl (G.2.1, 1200, .inl (nb gD))), (xb, .inl (G.2.1, 40, .inl (nb gB))), (xk, .inl (G.2.1, 16, .inl (nb gK))), (xl, .inl (G.2.1, 8, .inl (nb gL))), (xt, .inl (G.2.1, 192, .inl (nb gT))), (xw, .inl (G.2.1, 64, .inl gW)), (xs, .inl (G.2.1, 16, .inl gS)), (xg, .inl (G.2.1, 32, .inl (nb gG))), (xy, .inl (G.2.1, 16, .inl (nb gY))), (xe, .inl (G.2.1, 8, .inl (nb gE))), (xc, .inl (G.2.1, 1200, .inl (nb gC))), (xf, .inl (G.2.1, 128, .inl (nn gF))), (xn, .inl (G.2.1, 128, .inl (nn gN)))] H_145_3 := hP_145_3
            replace hD : va_D A [(mo, .inr (5, [.int (nI rf), .ref xd, .int (nI n), .int (nI y), .ref xb, .int (nI nb1), .int (nI up), .int (nI wi), .int cr, .ref xk, .ref xl, .ref xt, .int (nI 0), .ref xw, .ref xs, .ref xg, .ref xy, .ref xe, .int (bI (gD a)), .int (bI (gD (a + 1))), .int (nI (256 * ((gD (a + 2)).toNat) + ((gD (a + 3)).toNat))), .int (nI hr), .int br, .int bp, .int (nI gd), .int (nI gp), .int (nI sl), .ref xc, .ref xf, .ref xn])), (xd, .inl (G.2.1, 1200, .inl (nb gD))), (xb, .inl (G.2.1, 40, .inl (nb gB))), (xk, .inl (G.2.1, 16, .inl (nb gK))), (xl, .inl (G.2.1, 8, .inl (nb gL))), (xt, .inl (G.2.1, 192, .inl (nb gT))), (xw, .inl (G.2.1, 64, .inl gW)), (xs, .inl (G.2.1, 16, .inl gS)), (xg, .inl (G.2.1, 32, .inl (nb gG))), (xy, .inl (G.2.1, 16, .inl (nb gY))), (xe, .inl (G.2.1, 8, .inl (nb gE))), (xc, .inl (G.2.1, 1200, .inl (nb gC))), (xf, .inl (G.2.1, 128, .inl (nn gF))), (xn, .inl (G.2.1, 128, .inl (nn gN)))] := hD_145_3
            replace hS : va_S A sv.heap H_145_3 locs_145_3 := hS_145_3
            clear hP_145_3 hD_145_3 hS_145_3
            refine lv_iconst (v := nI 1) hx hb dX5_look_148 (by decide) ?_
            replace hP : va_P G.1 vwCl [(mo, .inr (5, [.int (nI rf), .ref xd, .int (nI n), .int (nI y), .ref xb, .int (nI nb1), .int (nI up), .int (nI wi), .int cr, .ref xk, .ref xl, .ref xt, .int (nI 0), .ref xw, .ref xs, .ref xg, .ref xy, .ref xe, .int (bI (gD a)), .int (bI (gD (a + 1))), .int (nI (pas gD a)), .int (nI hr), .int br, .int bp, .int (nI gd), .int (nI gp), .int (nI sl), .ref xc, .ref xf, .ref xn])), (xd, .inl (G.2.1, 1200, .inl (nb gD))), (xb, .inl (G.2.1, 40, .inl (nb gB))), (xk, .inl (G.2.1, 16, .inl (nb gK))), (xl, .inl (G.2.1, 8, .inl (nb gL))), (xt, .inl (G.2.1, 192, .inl (nb gT))), (xw, .inl (G.2.1, 64, .inl gW)), (xs, .inl (G.2.1, 16, .inl gS)), (xg, .inl (G.2.1, 32, .inl (nb gG))), (xy, .inl (G.2.1, 16, .inl (nb gY))), (xe, .inl (G.2.1, 8, .inl (nb gE))), (xc, .inl (G.2.1, 1200, .inl (nb gC))), (xf, .inl (G.2.1, 128, .inl (nn gF))), (xn, .inl (G.2.1, 128, .inl (nn gN)))] H_145_3 := by have e9 : (.int (nI (256 * ((gD (a + 2)).toNat) + ((gD (a + 3)).toNat))) : Value) = .int (nI (pas gD a)) := (congrArg (fun z => Value.int (nI z)) (show 256 * ((gD (a + 2)).toNat) + ((gD (a + 3)).toNat) = pas gD a by unfold pas; rw [if_pos c_120]; omega)); rw [← e9]; exact hP
            replace hD : va_D A [(mo, .inr (5, [.int (nI rf), .ref xd, .int (nI n), .int (nI y), .ref xb, .int (nI nb1), .int (nI up), .int (nI wi), .int cr, .ref xk, .ref xl, .ref xt, .int (nI 0), .ref xw, .ref xs, .ref xg, .ref xy, .ref xe, .int (bI (gD a)), .int (bI (gD (a + 1))), .int (nI (pas gD a)), .int (nI hr), .int br, .int bp, .int (nI gd), .int (nI gp), .int (nI sl), .ref xc, .ref xf, .ref xn])), (xd, .inl (G.2.1, 1200, .inl (nb gD))), (xb, .inl (G.2.1, 40, .inl (nb gB))), (xk, .inl (G.2.1, 16, .inl (nb gK))), (xl, .inl (G.2.1, 8, .inl (nb gL))), (xt, .inl (G.2.1, 192, .inl (nb gT))), (xw, .inl (G.2.1, 64, .inl gW)), (xs, .inl (G.2.1, 16, .inl gS)), (xg, .inl (G.2.1, 32, .inl (nb gG))), (xy, .inl (G.2.1, 16, .inl (nb gY))), (xe, .inl (G.2.1, 8, .inl (nb gE))), (xc, .inl (G.2.1, 1200, .inl (nb gC))), (xf, .inl (G.2.1, 128, .inl (nn gF))), (xn, .inl (G.2.1, 128, .inl (nn gN)))] := hD.set (p := 0) rfl
            exact hend (nI 1) () _ _ _ _ rfl rfl hP hD hS dX5_look_149
        · skip
          exfalso; omega
      · skip
        refine lv_aload_n hx hb dX5_look_56 rfl (lv_at hl 0 rfl) ?_
        refine va_get (D := G.1) (ci := 5) (v := .int (bI (gD a))) (C := RX5) (T := TX5) (N := 30) hx hb hts in_wsX50 hown hK hP 0 rfl rfl 18 (by decide) (hts _ wm_412) (fun _ h9 => h9) rfl dX5_look_57 ?_
        refine lv_iconst (v := nI 2) hx hb dX5_look_60 (by decide) ?_
        refine f_icmp_ne (tgt := 71) (by omega) (by omega) hx hb dX5_look_61 (by decide) (fun c_61 => ?_) (fun c_61 => ?_)
        · skip
          refine lv_aload_n hx hb dX5_look_71 rfl (lv_at hl 0 rfl) ?_
          refine va_get (D := G.1) (ci := 5) (v := .int (bI (gD a))) (C := RX5) (T := TX5) (N := 30) hx hb hts in_wsX50 hown hK hP 0 rfl rfl 18 (by decide) (hts _ wm_412) (fun _ h9 => h9) rfl dX5_look_72 ?_
          refine lv_iconst (v := nI 3) hx hb dX5_look_75 (by decide) ?_
          refine f_icmp_ne (tgt := 91) (by omega) (by omega) hx hb dX5_look_76 (by decide) (fun c_76 => ?_) (fun c_76 => ?_)
          · skip
            exfalso; omega
          · skip
            refine lv_aload_n hx hb dX5_look_79 rfl (lv_at hl 0 rfl) ?_
            refine va_get (D := G.1) (ci := 5) (v := .int (bI (gD (a + 1)))) (C := RX5) (T := TX5) (N := 30) hx hb hts in_wsX50 hown hK hP 0 rfl rfl 19 (by decide) (hts _ wm_413) (fun _ h9 => h9) rfl dX5_look_80 ?_
            refine lv_iconst (v := nI 2) hx hb dX5_look_83 (by decide) ?_
            refine f_icmp_ne (tgt := 91) (by omega) (by omega) hx hb dX5_look_84 (by decide) (fun c_84 => ?_) (fun c_84 => ?_)
            · skip
              exfalso; omega
            · skip
              refine lv_iconst (v := nI 1) hx hb dX5_look_87 (by decide) ?_
              refine lv_goto (tgt := 92) hx hb dX5_look_88 (by decide) ?_
              refine lv_istore_n (lv' := [(2, .int (nI 1)), (0, .ref mo), (1, .int (nI a))]) hx hb dX5_look_92 rfl hl (by decide) rfl (fun ls hl2 => ?_)
              replace hl := hl2; clear hl2
              refine lv_iload_n hx hb dX5_look_93 rfl (lv_at hl 0 rfl) ?_
              refine lv_if_eq (tgt := 113) hx hb dX5_look_94 (by decide) (fun c9 => absurd c9 (by decide)) (fun _ => ?_)
              refine lv_iload_n hx hb dX5_look_97 rfl (lv_at hl 2 rfl) ?_
              refine lv_bipush (v := nI 10) hx hb dX5_look_98 (by decide) ?_
              refine lv_iadd hx hb dX5_look_100 ?_
              refine f_top (y := nI (a + 10)) (nI_add _ _) ?_
              refine lv_aload_n hx hb dX5_look_101 rfl (lv_at hl 1 rfl) ?_
              refine va_get (D := G.1) (ci := 5) (v := .int (bI (gD (a + 1)))) (C := RX5) (T := TX5) (N := 30) hx hb hts in_wsX50 hown hK hP 0 rfl rfl 19 (by decide) (hts _ wm_413) (fun _ h9 => h9) rfl dX5_look_102 ?_
              refine lv_iadd hx hb dX5_look_105 ?_
              refine f_top (y := nI (a + 10 + ((gD (a + 1)).toNat))) (nI_add _ _) ?_
              refine lv_aload_n hx hb dX5_look_106 rfl (lv_at hl 1 rfl) ?_
              refine va_get (D := G.1) (ci := 5) (v := .int (nI n)) (C := RX5) (T := TX5) (N := 30) hx hb hts in_wsX50 hown hK hP 0 rfl rfl 2 (by decide) (hts _ wm_376) (fun _ h9 => h9) rfl dX5_look_107 ?_
              refine f_icmp_le (tgt := 115) (by omega) (by omega) hx hb dX5_look_110 (by decide) (fun c_110 => ?_) (fun c_110 => ?_)
              · skip
                refine lv_aload_n hx hb dX5_look_115 rfl (lv_at hl 1 rfl) ?_
                refine va_get (D := G.1) (ci := 5) (v := .int (bI (gD a))) (C := RX5) (T := TX5) (N := 30) hx hb hts in_wsX50 hown hK hP 0 rfl rfl 18 (by decide) (hts _ wm_412) (fun _ h9 => h9) rfl dX5_look_116 ?_
                refine lv_iconst (v := nI 3) hx hb dX5_look_119 (by decide) ?_
                refine f_icmp_ne (tgt := 148) (by omega) (by omega) hx hb dX5_look_120 (by decide) (fun c_120 => ?_) (fun c_120 => ?_)
                · skip
                  refine lv_iconst (v := nI 1) hx hb dX5_look_148 (by decide) ?_
                  replace hP : va_P G.1 vwCl [(mo, .inr (5, [.int (nI rf), .ref xd, .int (nI n), .int (nI y), .ref xb, .int (nI nb1), .int (nI up), .int (nI wi), .int cr, .ref xk, .ref xl, .ref xt, .int (nI 0), .ref xw, .ref xs, .ref xg, .ref xy, .ref xe, .int (bI (gD a)), .int (bI (gD (a + 1))), .int (nI (pas gD a)), .int (nI hr), .int br, .int bp, .int (nI gd), .int (nI gp), .int (nI sl), .ref xc, .ref xf, .ref xn])), (xd, .inl (G.2.1, 1200, .inl (nb gD))), (xb, .inl (G.2.1, 40, .inl (nb gB))), (xk, .inl (G.2.1, 16, .inl (nb gK))), (xl, .inl (G.2.1, 8, .inl (nb gL))), (xt, .inl (G.2.1, 192, .inl (nb gT))), (xw, .inl (G.2.1, 64, .inl gW)), (xs, .inl (G.2.1, 16, .inl gS)), (xg, .inl (G.2.1, 32, .inl (nb gG))), (xy, .inl (G.2.1, 16, .inl (nb gY))), (xe, .inl (G.2.1, 8, .inl (nb gE))), (xc, .inl (G.2.1, 1200, .inl (nb gC))), (xf, .inl (G.2.1, 128, .inl (nn gF))), (xn, .inl (G.2.1, 128, .inl (nn gN)))] H_36 := by have e9 : (.int (nI 0) : Value) = .int (nI (pas gD a)) := (congrArg (fun z => Value.int (nI z)) (show 0 = pas gD a by unfold pas; rw [if_neg c_120])); rw [← e9]; exact hP
                  replace hD : va_D A [(mo, .inr (5, [.int (nI rf), .ref xd, .int (nI n), .int (nI y), .ref xb, .int (nI nb1), .int (nI up), .int (nI wi), .int cr, .ref xk, .ref xl, .ref xt, .int (nI 0), .ref xw, .ref xs, .ref xg, .ref xy, .ref xe, .int (bI (gD a)), .int (bI (gD (a + 1))), .int (nI (pas gD a)), .int (nI hr), .int br, .int bp, .int (nI gd), .int (nI gp), .int (nI sl), .ref xc, .ref xf, .ref xn])), (xd, .inl (G.2.1, 1200, .inl (nb gD))), (xb, .inl (G.2.1, 40, .inl (nb gB))), (xk, .inl (G.2.1, 16, .inl (nb gK))), (xl, .inl (G.2.1, 8, .inl (nb gL))), (xt, .inl (G.2.1, 192, .inl (nb gT))), (xw, .inl (G.2.1, 64, .inl gW)), (xs, .inl (G.2.1, 16, .inl gS)), (xg, .inl (G.2.1, 32, .inl (nb gG))), (xy, .inl (G.2.1, 16, .inl (nb gY))), (xe, .inl (G.2.1, 8, .inl (nb gE))), (xc, .inl (G.2.1, 1200, .inl (nb gC))), (xf, .inl (G.2.1, 128, .inl (nn gF))), (xn, .inl (G.2.1, 128, .inl (nn gN)))] := hD.set (p := 0) rfl
                  exact hend (nI 1) () _ _ _ _ rfl rfl hP hD hS dX5_look_149
                · skip
                  refine lv_aload_n hx hb dX5_look_123 rfl (lv_at hl 1 rfl) ?_
                  refine lv_sipush (v := nI 256) hx hb dX5_look_124 (by decide) ?_
                  refine lv_aload_n hx hb dX5_look_127 rfl (lv_at hl 1 rfl) ?_
                  refine va_get (D := G.1) (ci := 5) (v := .ref xd) (C := RX5) (T := TX5) (N := 30) hx hb hts in_wsX50 hown hK hP 0 rfl rfl 1 (by decide) (hts _ wm_250) (fun _ h9 => h9) rfl dX5_look_128 ?_
                  refine lv_iload_n hx hb dX5_look_131 rfl (lv_at hl 2 rfl) ?_
                  refine lv_iconst (v := nI 2) hx hb dX5_look_132 (by decide) ?_
                  refine lv_iadd hx hb dX5_look_133 ?_
                  refine f_top (y := nI (a + 2)) (nI_add _ _) ?_
                  refine f_iald (v := bI (gD (a + 2))) hx hb hK hP 1 rfl (by omega) (by decide) rfl dX5_look_134 ?_
                  refine lv_imul hx hb dX5_look_135 ?_
                  refine f_top (y := nI (256 * ((gD (a + 2)).toNat))) (pk_mul _ _) ?_
                  refine lv_aload_n hx hb dX5_look_136 rfl (lv_at hl 1 rfl) ?_
                  refine va_get (D := G.1) (ci := 5) (v := .ref xd) (C := RX5) (T := TX5) (N := 30) hx hb hts in_wsX50 hown hK hP 0 rfl rfl 1 (by decide) (hts _ wm_250) (fun _ h9 => h9) rfl dX5_look_137 ?_
                  refine lv_iload_n hx hb dX5_look_140 rfl (lv_at hl 2 rfl) ?_
                  refine lv_iconst (v := nI 3) hx hb dX5_look_141 (by decide) ?_
                  refine lv_iadd hx hb dX5_look_142 ?_
                  refine f_top (y := nI (a + 3)) (nI_add _ _) ?_
                  refine f_iald (v := bI (gD (a + 3))) hx hb hK hP 1 rfl (by omega) (by decide) rfl dX5_look_143 ?_
                  refine lv_iadd hx hb dX5_look_144 ?_
                  refine f_top (y := nI (256 * ((gD (a + 2)).toNat) + ((gD (a + 3)).toNat))) (nI_add _ _) ?_
                  refine va_put (D := G.1) (ci := 5) (v := .int (nI (256 * ((gD (a + 2)).toNat) + ((gD (a + 3)).toNat)))) (ty := .int) (C := RX5) (T := TX5) (N := 30) hx hb hts in_wsX50 tyX5 tyX5_ok nmX5 hown hK hP hD hS 0 rfl rfl 20 (by decide) (hts _ wm_414) (fun _ h9 => h9) rfl (by decide +kernel) rfl rfl (Nat.le_of_ble_eq_true rfl) dX5_look_145 (fun H_145_4 locs_145_4 hP_145_4 hD_145_4 hS_145_4 => ?_)
                  replace hP : va_P G.1 vwCl [(mo, .inr (5, [.int (nI rf), .ref xd, .int (nI n), .int (nI y), .ref xb, .int (nI nb1), .int (nI up), .int (nI wi), .int cr, .ref xk, .ref xl, .ref xt, .int (nI 0), .ref xw, .ref xs, .ref xg, .ref xy, .ref xe, .int (bI (gD a)), .int (bI (gD (a + 1))), .int (nI (256 * ((gD (a + 2)).toNat) + ((gD (a + 3)).toNat))), .int (nI hr), .int br, .int bp, .int (nI gd), .int (nI gp), .int (nI sl), .ref xc, .ref xf, .ref xn])), (xd, .inl (G.2.1, 1200, .inl (nb gD))), (xb, .inl (G.2.1, 40, .inl (nb gB))), (xk, .inl (G.2.1, 16, .inl (nb gK))), (xl, .inl (G.2.1, 8, .inl (nb gL))), (xt, .inl (G.2.1, 192, .inl (nb gT))), (xw, .inl (G.2.1, 64, .inl gW)), (xs, .inl (G.2.1, 16, .inl gS)), (xg, .inl (G.2.1, 32, .inl (nb gG))), (xy, .inl (G.2.1, 16, .inl (nb gY))), (xe, .inl (G.2.1, 8, .inl (nb gE))), (xc, .inl (G.2.1, 1200, .inl (nb gC))), (xf, .inl (G.2.1, 128, .inl (nn gF))), (xn, .inl (G.2.1, 128, .inl (nn gN)))] H_145_4 := hP_145_4
                  replace hD : va_D A [(mo, .inr (5, [.int (nI rf), .ref xd, .int (nI n), .int (nI y), .ref xb, .int (nI nb1), .int (nI up), .int (nI wi), .int cr, .ref xk, .ref xl, .ref xt, .int (nI 0), .ref xw, .ref xs, .ref xg, .ref xy, .ref xe, .int (bI (gD a)), .int (bI (gD (a + 1))), .int (nI (256 * ((gD (a + 2)).toNat) + ((gD (a + 3)).toNat))), .int (nI hr), .int br, .int bp, .int (nI gd), .int (nI gp), .int (nI sl), .ref xc, .ref xf, .ref xn])), (xd, .inl (G.2.1, 1200, .inl (nb gD))), (xb, .inl (G.2.1, 40, .inl (nb gB))), (xk, .inl (G.2.1, 16, .inl (nb gK))), (xl, .inl (G.2.1, 8, .inl (nb gL))), (xt, .inl (G.2.1, 192, .inl (nb gT))), (xw, .inl (G.2.1, 64, .inl gW)), (xs, .inl (G.2.1, 16, .inl gS)), (xg, .inl (G.2.1, 32, .inl (nb gG))), (xy, .inl (G.2.1, 16, .inl (nb gY))), (xe, .inl (G.2.1, 8, .inl (nb gE))), (xc, .inl (G.2.1, 1200, .inl (nb gC))), (xf, .inl (G.2.1, 128, .inl (nn gF))), (xn, .inl (G.2.1, 128, .inl (nn gN)))] := hD_145_4
                  replace hS : va_S A sv.heap H_145_4 locs_145_4 := hS_145_4
                  clear hP_145_4 hD_145_4 hS_145_4
                  refine lv_iconst (v := nI 1) hx hb dX5_look_148 (by decide) ?_
                  replace hP : va_P G.1 vwCl [(mo, .inr (5, [.int (nI rf), .ref xd, .int (nI n), .int (nI y), .ref xb, .int (nI nb1), .int (nI up), .int (nI wi), .int cr, .ref xk, .ref xl, .ref xt, .int (nI 0), .ref xw, .ref xs, .ref xg, .ref xy, .ref xe, .int (bI (gD a)), .int (bI (gD (a + 1))), .int (nI (pas gD a)), .int (nI hr), .int br, .int bp, .int (nI gd), .int (nI gp), .int (nI sl), .ref xc, .ref xf, .ref xn])), (xd, .inl (G.2.1, 1200, .inl (nb gD))), (xb, .inl (G.2.1, 40, .inl (nb gB))), (xk, .inl (G.2.1, 16, .inl (nb gK))), (xl, .inl (G.2.1, 8, .inl (nb gL))), (xt, .inl (G.2.1, 192, .inl (nb gT))), (xw, .inl (G.2.1, 64, .inl gW)), (xs, .inl (G.2.1, 16, .inl gS)), (xg, .inl (G.2.1, 32, .inl (nb gG))), (xy, .inl (G.2.1, 16, .inl (nb gY))), (xe, .inl (G.2.1, 8, .inl (nb gE))), (xc, .inl (G.2.1, 1200, .inl (nb gC))), (xf, .inl (G.2.1, 128, .inl (nn gF))), (xn, .inl (G.2.1, 128, .inl (nn gN)))] H_145_4 := by have e9 : (.int (nI (256 * ((gD (a + 2)).toNat) + ((gD (a + 3)).toNat))) : Value) = .int (nI (pas gD a)) := (congrArg (fun z => Value.int (nI z)) (show 256 * ((gD (a + 2)).toNat) + ((gD (a + 3)).toNat) = pas gD a by unfold pas; rw [if_pos c_120]; omega)); rw [← e9]; exact hP
                  replace hD : va_D A [(mo, .inr (5, [.int (nI rf), .ref xd, .int (nI n), .int (nI y), .ref xb, .int (nI nb1), .int (nI up), .int (nI wi), .int cr, .ref xk, .ref xl, .ref xt, .int (nI 0), .ref xw, .ref xs, .ref xg, .ref xy, .ref xe, .int (bI (gD a)), .int (bI (gD (a + 1))), .int (nI (pas gD a)), .int (nI hr), .int br, .int bp, .int (nI gd), .int (nI gp), .int (nI sl), .ref xc, .ref xf, .ref xn])), (xd, .inl (G.2.1, 1200, .inl (nb gD))), (xb, .inl (G.2.1, 40, .inl (nb gB))), (xk, .inl (G.2.1, 16, .inl (nb gK))), (xl, .inl (G.2.1, 8, .inl (nb gL))), (xt, .inl (G.2.1, 192, .inl (nb gT))), (xw, .inl (G.2.1, 64, .inl gW)), (xs, .inl (G.2.1, 16, .inl gS)), (xg, .inl (G.2.1, 32, .inl (nb gG))), (xy, .inl (G.2.1, 16, .inl (nb gY))), (xe, .inl (G.2.1, 8, .inl (nb gE))), (xc, .inl (G.2.1, 1200, .inl (nb gC))), (xf, .inl (G.2.1, 128, .inl (nn gF))), (xn, .inl (G.2.1, 128, .inl (nn gN)))] := hD.set (p := 0) rfl
                  exact hend (nI 1) () _ _ _ _ rfl rfl hP hD hS dX5_look_149
              · skip
                exfalso; omega
        · skip
          refine lv_aload_n hx hb dX5_look_64 rfl (lv_at hl 0 rfl) ?_
          refine va_get (D := G.1) (ci := 5) (v := .int (bI (gD (a + 1)))) (C := RX5) (T := TX5) (N := 30) hx hb hts in_wsX50 hown hK hP 0 rfl rfl 19 (by decide) (hts _ wm_413) (fun _ h9 => h9) rfl dX5_look_65 ?_
          refine f_if_eq (tgt := 87) (by omega) hx hb dX5_look_68 (by decide) (fun c_68 => ?_) (fun c_68 => ?_)
          · skip
            refine lv_iconst (v := nI 1) hx hb dX5_look_87 (by decide) ?_
            refine lv_goto (tgt := 92) hx hb dX5_look_88 (by decide) ?_
            refine lv_istore_n (lv' := [(2, .int (nI 1)), (0, .ref mo), (1, .int (nI a))]) hx hb dX5_look_92 rfl hl (by decide) rfl (fun ls hl2 => ?_)
            replace hl := hl2; clear hl2
            refine lv_iload_n hx hb dX5_look_93 rfl (lv_at hl 0 rfl) ?_
            refine lv_if_eq (tgt := 113) hx hb dX5_look_94 (by decide) (fun c9 => absurd c9 (by decide)) (fun _ => ?_)
            refine lv_iload_n hx hb dX5_look_97 rfl (lv_at hl 2 rfl) ?_
            refine lv_bipush (v := nI 10) hx hb dX5_look_98 (by decide) ?_
            refine lv_iadd hx hb dX5_look_100 ?_
            refine f_top (y := nI (a + 10)) (nI_add _ _) ?_
            refine lv_aload_n hx hb dX5_look_101 rfl (lv_at hl 1 rfl) ?_
            refine va_get (D := G.1) (ci := 5) (v := .int (bI (gD (a + 1)))) (C := RX5) (T := TX5) (N := 30) hx hb hts in_wsX50 hown hK hP 0 rfl rfl 19 (by decide) (hts _ wm_413) (fun _ h9 => h9) rfl dX5_look_102 ?_
            refine lv_iadd hx hb dX5_look_105 ?_
            refine f_top (y := nI (a + 10 + ((gD (a + 1)).toNat))) (nI_add _ _) ?_
            refine lv_aload_n hx hb dX5_look_106 rfl (lv_at hl 1 rfl) ?_
            refine va_get (D := G.1) (ci := 5) (v := .int (nI n)) (C := RX5) (T := TX5) (N := 30) hx hb hts in_wsX50 hown hK hP 0 rfl rfl 2 (by decide) (hts _ wm_376) (fun _ h9 => h9) rfl dX5_look_107 ?_
            refine f_icmp_le (tgt := 115) (by omega) (by omega) hx hb dX5_look_110 (by decide) (fun c_110 => ?_) (fun c_110 => ?_)
            · skip
              refine lv_aload_n hx hb dX5_look_115 rfl (lv_at hl 1 rfl) ?_
              refine va_get (D := G.1) (ci := 5) (v := .int (bI (gD a))) (C := RX5) (T := TX5) (N := 30) hx hb hts in_wsX50 hown hK hP 0 rfl rfl 18 (by decide) (hts _ wm_412) (fun _ h9 => h9) rfl dX5_look_116 ?_
              refine lv_iconst (v := nI 3) hx hb dX5_look_119 (by decide) ?_
              refine f_icmp_ne (tgt := 148) (by omega) (by omega) hx hb dX5_look_120 (by decide) (fun c_120 => ?_) (fun c_120 => ?_)
              · skip
                refine lv_iconst (v := nI 1) hx hb dX5_look_148 (by decide) ?_
                replace hP : va_P G.1 vwCl [(mo, .inr (5, [.int (nI rf), .ref xd, .int (nI n), .int (nI y), .ref xb, .int (nI nb1), .int (nI up), .int (nI wi), .int cr, .ref xk, .ref xl, .ref xt, .int (nI 0), .ref xw, .ref xs, .ref xg, .ref xy, .ref xe, .int (bI (gD a)), .int (bI (gD (a + 1))), .int (nI (pas gD a)), .int (nI hr), .int br, .int bp, .int (nI gd), .int (nI gp), .int (nI sl), .ref xc, .ref xf, .ref xn])), (xd, .inl (G.2.1, 1200, .inl (nb gD))), (xb, .inl (G.2.1, 40, .inl (nb gB))), (xk, .inl (G.2.1, 16, .inl (nb gK))), (xl, .inl (G.2.1, 8, .inl (nb gL))), (xt, .inl (G.2.1, 192, .inl (nb gT))), (xw, .inl (G.2.1, 64, .inl gW)), (xs, .inl (G.2.1, 16, .inl gS)), (xg, .inl (G.2.1, 32, .inl (nb gG))), (xy, .inl (G.2.1, 16, .inl (nb gY))), (xe, .inl (G.2.1, 8, .inl (nb gE))), (xc, .inl (G.2.1, 1200, .inl (nb gC))), (xf, .inl (G.2.1, 128, .inl (nn gF))), (xn, .inl (G.2.1, 128, .inl (nn gN)))] H_36 := by have e9 : (.int (nI 0) : Value) = .int (nI (pas gD a)) := (congrArg (fun z => Value.int (nI z)) (show 0 = pas gD a by unfold pas; rw [if_neg c_120])); rw [← e9]; exact hP
                replace hD : va_D A [(mo, .inr (5, [.int (nI rf), .ref xd, .int (nI n), .int (nI y), .ref xb, .int (nI nb1), .int (nI up), .int (nI wi), .int cr, .ref xk, .ref xl, .ref xt, .int (nI 0), .ref xw, .ref xs, .ref xg, .ref xy, .ref xe, .int (bI (gD a)), .int (bI (gD (a + 1))), .int (nI (pas gD a)), .int (nI hr), .int br, .int bp, .int (nI gd), .int (nI gp), .int (nI sl), .ref xc, .ref xf, .ref xn])), (xd, .inl (G.2.1, 1200, .inl (nb gD))), (xb, .inl (G.2.1, 40, .inl (nb gB))), (xk, .inl (G.2.1, 16, .inl (nb gK))), (xl, .inl (G.2.1, 8, .inl (nb gL))), (xt, .inl (G.2.1, 192, .inl (nb gT))), (xw, .inl (G.2.1, 64, .inl gW)), (xs, .inl (G.2.1, 16, .inl gS)), (xg, .inl (G.2.1, 32, .inl (nb gG))), (xy, .inl (G.2.1, 16, .inl (nb gY))), (xe, .inl (G.2.1, 8, .inl (nb gE))), (xc, .inl (G.2.1, 1200, .inl (nb gC))), (xf, .inl (G.2.1, 128, .inl (nn gF))), (xn, .inl (G.2.1, 128, .inl (nn gN)))] := hD.set (p := 0) rfl
                exact hend (nI 1) () _ _ _ _ rfl rfl hP hD hS dX5_look_149
              · skip
                refine lv_aload_n hx hb dX5_look_123 rfl (lv_at hl 1 rfl) ?_
                refine lv_sipush (v := nI 256) hx hb dX5_look_124 (by decide) ?_
                refine lv_aload_n hx hb dX5_look_127 rfl (lv_at hl 1 rfl) ?_
                refine va_get (D := G.1) (ci := 5) (v := .ref xd) (C := RX5) (T := TX5) (N := 30) hx hb hts in_wsX50 hown hK hP 0 rfl rfl 1 (by decide) (hts _ wm_250) (fun _ h9 => h9) rfl dX5_look_128 ?_
                refine lv_iload_n hx hb dX5_look_131 rfl (lv_at hl 2 rfl) ?_
                refine lv_iconst (v := nI 2) hx hb dX5_look_132 (by decide) ?_
                refine lv_iadd hx hb dX5_look_133 ?_
                refine f_top (y := nI (a + 2)) (nI_add _ _) ?_
                refine f_iald (v := bI (gD (a + 2))) hx hb hK hP 1 rfl (by omega) (by decide) rfl dX5_look_134 ?_
                refine lv_imul hx hb dX5_look_135 ?_
                refine f_top (y := nI (256 * ((gD (a + 2)).toNat))) (pk_mul _ _) ?_
                refine lv_aload_n hx hb dX5_look_136 rfl (lv_at hl 1 rfl) ?_
                refine va_get (D := G.1) (ci := 5) (v := .ref xd) (C := RX5) (T := TX5) (N := 30) hx hb hts in_wsX50 hown hK hP 0 rfl rfl 1 (by decide) (hts _ wm_250) (fun _ h9 => h9) rfl dX5_look_137 ?_
                refine lv_iload_n hx hb dX5_look_140 rfl (lv_at hl 2 rfl) ?_
                refine lv_iconst (v := nI 3) hx hb dX5_look_141 (by decide) ?_
                refine lv_iadd hx hb dX5_look_142 ?_
                refine f_top (y := nI (a + 3)) (nI_add _ _) ?_
                refine f_iald (v := bI (gD (a + 3))) hx hb hK hP 1 rfl (by omega) (by decide) rfl dX5_look_143 ?_
                refine lv_iadd hx hb dX5_look_144 ?_
                refine f_top (y := nI (256 * ((gD (a + 2)).toNat) + ((gD (a + 3)).toNat))) (nI_add _ _) ?_
                refine va_put (D := G.1) (ci := 5) (v := .int (nI (256 * ((gD (a + 2)).toNat) + ((gD (a + 3)).toNat)))) (ty := .int) (C := RX5) (T := TX5) (N := 30) hx hb hts in_wsX50 tyX5 tyX5_ok nmX5 hown hK hP hD hS 0 rfl rfl 20 (by decide) (hts _ wm_414) (fun _ h9 => h9) rfl (by decide +kernel) rfl rfl (Nat.le_of_ble_eq_true rfl) dX5_look_145 (fun H_145_5 locs_145_5 hP_145_5 hD_145_5 hS_145_5 => ?_)
                replace hP : va_P G.1 vwCl [(mo, .inr (5, [.int (nI rf), .ref xd, .int (nI n), .int (nI y), .ref xb, .int (nI nb1), .int (nI up), .int (nI wi), .int cr, .ref xk, .ref xl, .ref xt, .int (nI 0), .ref xw, .ref xs, .ref xg, .ref xy, .ref xe, .int (bI (gD a)), .int (bI (gD (a + 1))), .int (nI (256 * ((gD (a + 2)).toNat) + ((gD (a + 3)).toNat))), .int (nI hr), .int br, .int bp, .int (nI gd), .int (nI gp), .int (nI sl), .ref xc, .ref xf, .ref xn])), (xd, .inl (G.2.1, 1200, .inl (nb gD))), (xb, .inl (G.2.1, 40, .inl (nb gB))), (xk, .inl (G.2.1, 16, .inl (nb gK))), (xl, .inl (G.2.1, 8, .inl (nb gL))), (xt, .inl (G.2.1, 192, .inl (nb gT))), (xw, .inl (G.2.1, 64, .inl gW)), (xs, .inl (G.2.1, 16, .inl gS)), (xg, .inl (G.2.1, 32, .inl (nb gG))), (xy, .inl (G.2.1, 16, .inl (nb gY))), (xe, .inl (G.2.1, 8, .inl (nb gE))), (xc, .inl (G.2.1, 1200, .inl (nb gC))), (xf, .inl (G.2.1, 128, .inl (nn gF))), (xn, .inl (G.2.1, 128, .inl (nn gN)))] H_145_5 := hP_145_5
                replace hD : va_D A [(mo, .inr (5, [.int (nI rf), .ref xd, .int (nI n), .int (nI y), .ref xb, .int (nI nb1), .int (nI up), .int (nI wi), .int cr, .ref xk, .ref xl, .ref xt, .int (nI 0), .ref xw, .ref xs, .ref xg, .ref xy, .ref xe, .int (bI (gD a)), .int (bI (gD (a + 1))), .int (nI (256 * ((gD (a + 2)).toNat) + ((gD (a + 3)).toNat))), .int (nI hr), .int br, .int bp, .int (nI gd), .int (nI gp), .int (nI sl), .ref xc, .ref xf, .ref xn])), (xd, .inl (G.2.1, 1200, .inl (nb gD))), (xb, .inl (G.2.1, 40, .inl (nb gB))), (xk, .inl (G.2.1, 16, .inl (nb gK))), (xl, .inl (G.2.1, 8, .inl (nb gL))), (xt, .inl (G.2.1, 192, .inl (nb gT))), (xw, .inl (G.2.1, 64, .inl gW)), (xs, .inl (G.2.1, 16, .inl gS)), (xg, .inl (G.2.1, 32, .inl (nb gG))), (xy, .inl (G.2.1, 16, .inl (nb gY))), (xe, .inl (G.2.1, 8, .inl (nb gE))), (xc, .inl (G.2.1, 1200, .inl (nb gC))), (xf, .inl (G.2.1, 128, .inl (nn gF))), (xn, .inl (G.2.1, 128, .inl (nn gN)))] := hD_145_5
                replace hS : va_S A sv.heap H_145_5 locs_145_5 := hS_145_5
                clear hP_145_5 hD_145_5 hS_145_5
                refine lv_iconst (v := nI 1) hx hb dX5_look_148 (by decide) ?_
                replace hP : va_P G.1 vwCl [(mo, .inr (5, [.int (nI rf), .ref xd, .int (nI n), .int (nI y), .ref xb, .int (nI nb1), .int (nI up), .int (nI wi), .int cr, .ref xk, .ref xl, .ref xt, .int (nI 0), .ref xw, .ref xs, .ref xg, .ref xy, .ref xe, .int (bI (gD a)), .int (bI (gD (a + 1))), .int (nI (pas gD a)), .int (nI hr), .int br, .int bp, .int (nI gd), .int (nI gp), .int (nI sl), .ref xc, .ref xf, .ref xn])), (xd, .inl (G.2.1, 1200, .inl (nb gD))), (xb, .inl (G.2.1, 40, .inl (nb gB))), (xk, .inl (G.2.1, 16, .inl (nb gK))), (xl, .inl (G.2.1, 8, .inl (nb gL))), (xt, .inl (G.2.1, 192, .inl (nb gT))), (xw, .inl (G.2.1, 64, .inl gW)), (xs, .inl (G.2.1, 16, .inl gS)), (xg, .inl (G.2.1, 32, .inl (nb gG))), (xy, .inl (G.2.1, 16, .inl (nb gY))), (xe, .inl (G.2.1, 8, .inl (nb gE))), (xc, .inl (G.2.1, 1200, .inl (nb gC))), (xf, .inl (G.2.1, 128, .inl (nn gF))), (xn, .inl (G.2.1, 128, .inl (nn gN)))] H_145_5 := by have e9 : (.int (nI (256 * ((gD (a + 2)).toNat) + ((gD (a + 3)).toNat))) : Value) = .int (nI (pas gD a)) := (congrArg (fun z => Value.int (nI z)) (show 256 * ((gD (a + 2)).toNat) + ((gD (a + 3)).toNat) = pas gD a by unfold pas; rw [if_pos c_120]; omega)); rw [← e9]; exact hP
                replace hD : va_D A [(mo, .inr (5, [.int (nI rf), .ref xd, .int (nI n), .int (nI y), .ref xb, .int (nI nb1), .int (nI up), .int (nI wi), .int cr, .ref xk, .ref xl, .ref xt, .int (nI 0), .ref xw, .ref xs, .ref xg, .ref xy, .ref xe, .int (bI (gD a)), .int (bI (gD (a + 1))), .int (nI (pas gD a)), .int (nI hr), .int br, .int bp, .int (nI gd), .int (nI gp), .int (nI sl), .ref xc, .ref xf, .ref xn])), (xd, .inl (G.2.1, 1200, .inl (nb gD))), (xb, .inl (G.2.1, 40, .inl (nb gB))), (xk, .inl (G.2.1, 16, .inl (nb gK))), (xl, .inl (G.2.1, 8, .inl (nb gL))), (xt, .inl (G.2.1, 192, .inl (nb gT))), (xw, .inl (G.2.1, 64, .inl gW)), (xs, .inl (G.2.1, 16, .inl gS)), (xg, .inl (G.2.1, 32, .inl (nb gG))), (xy, .inl (G.2.1, 16, .inl (nb gY))), (xe, .inl (G.2.1, 8, .inl (nb gE))), (xc, .inl (G.2.1, 1200, .inl (nb gC))), (xf, .inl (G.2.1, 128, .inl (nn gF))), (xn, .inl (G.2.1, 128, .inl (nn gN)))] := hD.set (p := 0) rfl
                exact hend (nI 1) () _ _ _ _ rfl rfl hP hD hS dX5_look_149
            · skip
              exfalso; omega
          · skip
            refine lv_aload_n hx hb dX5_look_71 rfl (lv_at hl 0 rfl) ?_
            refine va_get (D := G.1) (ci := 5) (v := .int (bI (gD a))) (C := RX5) (T := TX5) (N := 30) hx hb hts in_wsX50 hown hK hP 0 rfl rfl 18 (by decide) (hts _ wm_412) (fun _ h9 => h9) rfl dX5_look_72 ?_
            refine lv_iconst (v := nI 3) hx hb dX5_look_75 (by decide) ?_
            refine f_icmp_ne (tgt := 91) (by omega) (by omega) hx hb dX5_look_76 (by decide) (fun c_76 => ?_) (fun c_76 => ?_)
            · skip
              exfalso; omega
            · skip
              refine lv_aload_n hx hb dX5_look_79 rfl (lv_at hl 0 rfl) ?_
              refine va_get (D := G.1) (ci := 5) (v := .int (bI (gD (a + 1)))) (C := RX5) (T := TX5) (N := 30) hx hb hts in_wsX50 hown hK hP 0 rfl rfl 19 (by decide) (hts _ wm_413) (fun _ h9 => h9) rfl dX5_look_80 ?_
              refine lv_iconst (v := nI 2) hx hb dX5_look_83 (by decide) ?_
              refine f_icmp_ne (tgt := 91) (by omega) (by omega) hx hb dX5_look_84 (by decide) (fun c_84 => ?_) (fun c_84 => ?_)
              · skip
                exfalso; omega
              · skip
                refine lv_iconst (v := nI 1) hx hb dX5_look_87 (by decide) ?_
                refine lv_goto (tgt := 92) hx hb dX5_look_88 (by decide) ?_
                refine lv_istore_n (lv' := [(2, .int (nI 1)), (0, .ref mo), (1, .int (nI a))]) hx hb dX5_look_92 rfl hl (by decide) rfl (fun ls hl2 => ?_)
                replace hl := hl2; clear hl2
                refine lv_iload_n hx hb dX5_look_93 rfl (lv_at hl 0 rfl) ?_
                refine lv_if_eq (tgt := 113) hx hb dX5_look_94 (by decide) (fun c9 => absurd c9 (by decide)) (fun _ => ?_)
                refine lv_iload_n hx hb dX5_look_97 rfl (lv_at hl 2 rfl) ?_
                refine lv_bipush (v := nI 10) hx hb dX5_look_98 (by decide) ?_
                refine lv_iadd hx hb dX5_look_100 ?_
                refine f_top (y := nI (a + 10)) (nI_add _ _) ?_
                refine lv_aload_n hx hb dX5_look_101 rfl (lv_at hl 1 rfl) ?_
                refine va_get (D := G.1) (ci := 5) (v := .int (bI (gD (a + 1)))) (C := RX5) (T := TX5) (N := 30) hx hb hts in_wsX50 hown hK hP 0 rfl rfl 19 (by decide) (hts _ wm_413) (fun _ h9 => h9) rfl dX5_look_102 ?_
                refine lv_iadd hx hb dX5_look_105 ?_
                refine f_top (y := nI (a + 10 + ((gD (a + 1)).toNat))) (nI_add _ _) ?_
                refine lv_aload_n hx hb dX5_look_106 rfl (lv_at hl 1 rfl) ?_
                refine va_get (D := G.1) (ci := 5) (v := .int (nI n)) (C := RX5) (T := TX5) (N := 30) hx hb hts in_wsX50 hown hK hP 0 rfl rfl 2 (by decide) (hts _ wm_376) (fun _ h9 => h9) rfl dX5_look_107 ?_
                refine f_icmp_le (tgt := 115) (by omega) (by omega) hx hb dX5_look_110 (by decide) (fun c_110 => ?_) (fun c_110 => ?_)
                · skip
                  refine lv_aload_n hx hb dX5_look_115 rfl (lv_at hl 1 rfl) ?_
                  refine va_get (D := G.1) (ci := 5) (v := .int (bI (gD a))) (C := RX5) (T := TX5) (N := 30) hx hb hts in_wsX50 hown hK hP 0 rfl rfl 18 (by decide) (hts _ wm_412) (fun _ h9 => h9) rfl dX5_look_116 ?_
                  refine lv_iconst (v := nI 3) hx hb dX5_look_119 (by decide) ?_
                  refine f_icmp_ne (tgt := 148) (by omega) (by omega) hx hb dX5_look_120 (by decide) (fun c_120 => ?_) (fun c_120 => ?_)
                  · skip
                    refine lv_iconst (v := nI 1) hx hb dX5_look_148 (by decide) ?_
                    replace hP : va_P G.1 vwCl [(mo, .inr (5, [.int (nI rf), .ref xd, .int (nI n), .int (nI y), .ref xb, .int (nI nb1), .int (nI up), .int (nI wi), .int cr, .ref xk, .ref xl, .ref xt, .int (nI 0), .ref xw, .ref xs, .ref xg, .ref xy, .ref xe, .int (bI (gD a)), .int (bI (gD (a + 1))), .int (nI (pas gD a)), .int (nI hr), .int br, .int bp, .int (nI gd), .int (nI gp), .int (nI sl), .ref xc, .ref xf, .ref xn])), (xd, .inl (G.2.1, 1200, .inl (nb gD))), (xb, .inl (G.2.1, 40, .inl (nb gB))), (xk, .inl (G.2.1, 16, .inl (nb gK))), (xl, .inl (G.2.1, 8, .inl (nb gL))), (xt, .inl (G.2.1, 192, .inl (nb gT))), (xw, .inl (G.2.1, 64, .inl gW)), (xs, .inl (G.2.1, 16, .inl gS)), (xg, .inl (G.2.1, 32, .inl (nb gG))), (xy, .inl (G.2.1, 16, .inl (nb gY))), (xe, .inl (G.2.1, 8, .inl (nb gE))), (xc, .inl (G.2.1, 1200, .inl (nb gC))), (xf, .inl (G.2.1, 128, .inl (nn gF))), (xn, .inl (G.2.1, 128, .inl (nn gN)))] H_36 := by have e9 : (.int (nI 0) : Value) = .int (nI (pas gD a)) := (congrArg (fun z => Value.int (nI z)) (show 0 = pas gD a by unfold pas; rw [if_neg c_120])); rw [← e9]; exact hP
                    replace hD : va_D A [(mo, .inr (5, [.int (nI rf), .ref xd, .int (nI n), .int (nI y), .ref xb, .int (nI nb1), .int (nI up), .int (nI wi), .int cr, .ref xk, .ref xl, .ref xt, .int (nI 0), .ref xw, .ref xs, .ref xg, .ref xy, .ref xe, .int (bI (gD a)), .int (bI (gD (a + 1))), .int (nI (pas gD a)), .int (nI hr), .int br, .int bp, .int (nI gd), .int (nI gp), .int (nI sl), .ref xc, .ref xf, .ref xn])), (xd, .inl (G.2.1, 1200, .inl (nb gD))), (xb, .inl (G.2.1, 40, .inl (nb gB))), (xk, .inl (G.2.1, 16, .inl (nb gK))), (xl, .inl (G.2.1, 8, .inl (nb gL))), (xt, .inl (G.2.1, 192, .inl (nb gT))), (xw, .inl (G.2.1, 64, .inl gW)), (xs, .inl (G.2.1, 16, .inl gS)), (xg, .inl (G.2.1, 32, .inl (nb gG))), (xy, .inl (G.2.1, 16, .inl (nb gY))), (xe, .inl (G.2.1, 8, .inl (nb gE))), (xc, .inl (G.2.1, 1200, .inl (nb gC))), (xf, .inl (G.2.1, 128, .inl (nn gF))), (xn, .inl (G.2.1, 128, .inl (nn gN)))] := hD.set (p := 0) rfl
                    exact hend (nI 1) () _ _ _ _ rfl rfl hP hD hS dX5_look_149
                  · skip
                    refine lv_aload_n hx hb dX5_look_123 rfl (lv_at hl 1 rfl) ?_
                    refine lv_sipush (v := nI 256) hx hb dX5_look_124 (by decide) ?_
                    refine lv_aload_n hx hb dX5_look_127 rfl (lv_at hl 1 rfl) ?_
                    refine va_get (D := G.1) (ci := 5) (v := .ref xd) (C := RX5) (T := TX5) (N := 30) hx hb hts in_wsX50 hown hK hP 0 rfl rfl 1 (by decide) (hts _ wm_250) (fun _ h9 => h9) rfl dX5_look_128 ?_
                    refine lv_iload_n hx hb dX5_look_131 rfl (lv_at hl 2 rfl) ?_
                    refine lv_iconst (v := nI 2) hx hb dX5_look_132 (by decide) ?_
                    refine lv_iadd hx hb dX5_look_133 ?_
                    refine f_top (y := nI (a + 2)) (nI_add _ _) ?_
                    refine f_iald (v := bI (gD (a + 2))) hx hb hK hP 1 rfl (by omega) (by decide) rfl dX5_look_134 ?_
                    refine lv_imul hx hb dX5_look_135 ?_
                    refine f_top (y := nI (256 * ((gD (a + 2)).toNat))) (pk_mul _ _) ?_
                    refine lv_aload_n hx hb dX5_look_136 rfl (lv_at hl 1 rfl) ?_
                    refine va_get (D := G.1) (ci := 5) (v := .ref xd) (C := RX5) (T := TX5) (N := 30) hx hb hts in_wsX50 hown hK hP 0 rfl rfl 1 (by decide) (hts _ wm_250) (fun _ h9 => h9) rfl dX5_look_137 ?_
                    refine lv_iload_n hx hb dX5_look_140 rfl (lv_at hl 2 rfl) ?_
                    refine lv_iconst (v := nI 3) hx hb dX5_look_141 (by decide) ?_
                    refine lv_iadd hx hb dX5_look_142 ?_
                    refine f_top (y := nI (a + 3)) (nI_add _ _) ?_
                    refine f_iald (v := bI (gD (a + 3))) hx hb hK hP 1 rfl (by omega) (by decide) rfl dX5_look_143 ?_
                    refine lv_iadd hx hb dX5_look_144 ?_
                    refine f_top (y := nI (256 * ((gD (a + 2)).toNat) + ((gD (a + 3)).toNat))) (nI_add _ _) ?_
                    refine va_put (D := G.1) (ci := 5) (v := .int (nI (256 * ((gD (a + 2)).toNat) + ((gD (a + 3)).toNat)))) (ty := .int) (C := RX5) (T := TX5) (N := 30) hx hb hts in_wsX50 tyX5 tyX5_ok nmX5 hown hK hP hD hS 0 rfl rfl 20 (by decide) (hts _ wm_414) (fun _ h9 => h9) rfl (by decide +kernel) rfl rfl (Nat.le_of_ble_eq_true rfl) dX5_look_145 (fun H_145_6 locs_145_6 hP_145_6 hD_145_6 hS_145_6 => ?_)
                    replace hP : va_P G.1 vwCl [(mo, .inr (5, [.int (nI rf), .ref xd, .int (nI n), .int (nI y), .ref xb, .int (nI nb1), .int (nI up), .int (nI wi), .int cr, .ref xk, .ref xl, .ref xt, .int (nI 0), .ref xw, .ref xs, .ref xg, .ref xy, .ref xe, .int (bI (gD a)), .int (bI (gD (a + 1))), .int (nI (256 * ((gD (a + 2)).toNat) + ((gD (a + 3)).toNat))), .int (nI hr), .int br, .int bp, .int (nI gd), .int (nI gp), .int (nI sl), .ref xc, .ref xf, .ref xn])), (xd, .inl (G.2.1, 1200, .inl (nb gD))), (xb, .inl (G.2.1, 40, .inl (nb gB))), (xk, .inl (G.2.1, 16, .inl (nb gK))), (xl, .inl (G.2.1, 8, .inl (nb gL))), (xt, .inl (G.2.1, 192, .inl (nb gT))), (xw, .inl (G.2.1, 64, .inl gW)), (xs, .inl (G.2.1, 16, .inl gS)), (xg, .inl (G.2.1, 32, .inl (nb gG))), (xy, .inl (G.2.1, 16, .inl (nb gY))), (xe, .inl (G.2.1, 8, .inl (nb gE))), (xc, .inl (G.2.1, 1200, .inl (nb gC))), (xf, .inl (G.2.1, 128, .inl (nn gF))), (xn, .inl (G.2.1, 128, .inl (nn gN)))] H_145_6 := hP_145_6
                    replace hD : va_D A [(mo, .inr (5, [.int (nI rf), .ref xd, .int (nI n), .int (nI y), .ref xb, .int (nI nb1), .int (nI up), .int (nI wi), .int cr, .ref xk, .ref xl, .ref xt, .int (nI 0), .ref xw, .ref xs, .ref xg, .ref xy, .ref xe, .int (bI (gD a)), .int (bI (gD (a + 1))), .int (nI (256 * ((gD (a + 2)).toNat) + ((gD (a + 3)).toNat))), .int (nI hr), .int br, .int bp, .int (nI gd), .int (nI gp), .int (nI sl), .ref xc, .ref xf, .ref xn])), (xd, .inl (G.2.1, 1200, .inl (nb gD))), (xb, .inl (G.2.1, 40, .inl (nb gB))), (xk, .inl (G.2.1, 16, .inl (nb gK))), (xl, .inl (G.2.1, 8, .inl (nb gL))), (xt, .inl (G.2.1, 192, .inl (nb gT))), (xw, .inl (G.2.1, 64, .inl gW)), (xs, .inl (G.2.1, 16, .inl gS)), (xg, .inl (G.2.1, 32, .inl (nb gG))), (xy, .inl (G.2.1, 16, .inl (nb gY))), (xe, .inl (G.2.1, 8, .inl (nb gE))), (xc, .inl (G.2.1, 1200, .inl (nb gC))), (xf, .inl (G.2.1, 128, .inl (nn gF))), (xn, .inl (G.2.1, 128, .inl (nn gN)))] := hD_145_6
                    replace hS : va_S A sv.heap H_145_6 locs_145_6 := hS_145_6
                    clear hP_145_6 hD_145_6 hS_145_6
                    refine lv_iconst (v := nI 1) hx hb dX5_look_148 (by decide) ?_
                    replace hP : va_P G.1 vwCl [(mo, .inr (5, [.int (nI rf), .ref xd, .int (nI n), .int (nI y), .ref xb, .int (nI nb1), .int (nI up), .int (nI wi), .int cr, .ref xk, .ref xl, .ref xt, .int (nI 0), .ref xw, .ref xs, .ref xg, .ref xy, .ref xe, .int (bI (gD a)), .int (bI (gD (a + 1))), .int (nI (pas gD a)), .int (nI hr), .int br, .int bp, .int (nI gd), .int (nI gp), .int (nI sl), .ref xc, .ref xf, .ref xn])), (xd, .inl (G.2.1, 1200, .inl (nb gD))), (xb, .inl (G.2.1, 40, .inl (nb gB))), (xk, .inl (G.2.1, 16, .inl (nb gK))), (xl, .inl (G.2.1, 8, .inl (nb gL))), (xt, .inl (G.2.1, 192, .inl (nb gT))), (xw, .inl (G.2.1, 64, .inl gW)), (xs, .inl (G.2.1, 16, .inl gS)), (xg, .inl (G.2.1, 32, .inl (nb gG))), (xy, .inl (G.2.1, 16, .inl (nb gY))), (xe, .inl (G.2.1, 8, .inl (nb gE))), (xc, .inl (G.2.1, 1200, .inl (nb gC))), (xf, .inl (G.2.1, 128, .inl (nn gF))), (xn, .inl (G.2.1, 128, .inl (nn gN)))] H_145_6 := by have e9 : (.int (nI (256 * ((gD (a + 2)).toNat) + ((gD (a + 3)).toNat))) : Value) = .int (nI (pas gD a)) := (congrArg (fun z => Value.int (nI z)) (show 256 * ((gD (a + 2)).toNat) + ((gD (a + 3)).toNat) = pas gD a by unfold pas; rw [if_pos c_120]; omega)); rw [← e9]; exact hP
                    replace hD : va_D A [(mo, .inr (5, [.int (nI rf), .ref xd, .int (nI n), .int (nI y), .ref xb, .int (nI nb1), .int (nI up), .int (nI wi), .int cr, .ref xk, .ref xl, .ref xt, .int (nI 0), .ref xw, .ref xs, .ref xg, .ref xy, .ref xe, .int (bI (gD a)), .int (bI (gD (a + 1))), .int (nI (pas gD a)), .int (nI hr), .int br, .int bp, .int (nI gd), .int (nI gp), .int (nI sl), .ref xc, .ref xf, .ref xn])), (xd, .inl (G.2.1, 1200, .inl (nb gD))), (xb, .inl (G.2.1, 40, .inl (nb gB))), (xk, .inl (G.2.1, 16, .inl (nb gK))), (xl, .inl (G.2.1, 8, .inl (nb gL))), (xt, .inl (G.2.1, 192, .inl (nb gT))), (xw, .inl (G.2.1, 64, .inl gW)), (xs, .inl (G.2.1, 16, .inl gS)), (xg, .inl (G.2.1, 32, .inl (nb gG))), (xy, .inl (G.2.1, 16, .inl (nb gY))), (xe, .inl (G.2.1, 8, .inl (nb gE))), (xc, .inl (G.2.1, 1200, .inl (nb gC))), (xf, .inl (G.2.1, 128, .inl (nn gF))), (xn, .inl (G.2.1, 128, .inl (nn gN)))] := hD.set (p := 0) rfl
                    exact hend (nI 1) () _ _ _ _ rfl rfl hP hD hS dX5_look_149
                · skip
                  exfalso; omega
  · skip
    exfalso; omega

set_option maxRecDepth 100000 in
set_option maxHeartbeats 4000000 in
theorem kX5_look_n (l : Launch) (G : fG) (mo : Nat) (xd : Nat) (xb : Nat) (xk : Nat) (xl : Nat) (xt : Nat) (xw : Nat) (xs : Nat) (xg : Nat) (xy : Nat) (xe : Nat) (xc : Nat) (xf : Nat) (xn : Nat) (rf : Nat) (n : Nat) (y : Nat) (nb1 : Nat) (up : Nat) (wi : Nat) (cr : Int32) (kd : Nat) (ln : Nat) (ps : Nat) (hr : Nat) (br : Int32) (bp : Int32) (gd : Nat) (gp : Nat) (sl : Nat) (gD : Nat → UInt8) (gB : Nat → UInt8) (gK : Nat → UInt8) (gL : Nat → UInt8) (gT : Nat → UInt8) (gW : Nat → Int32) (gS : Nat → Int32) (gG : Nat → UInt8) (gY : Nat → UInt8) (gE : Nat → UInt8) (gC : Nat → UInt8) (gF : Nat → Nat) (gN : Nat → Nat) (a : Nat) (hn : n ≤ 1200) (ha : a ≤ n) (hw : whole gD n a = false) : fMI l yX5_look (.code yX5_look cX5_look 3 (some .boolean) :: wsA) ({ frames := 0, cells := 0, slots := 0, locals := 0 } : Room) G [.ref mo, .int (nI a)] [(mo, .inr (5, [.int (nI rf), .ref xd, .int (nI n), .int (nI y), .ref xb, .int (nI nb1), .int (nI up), .int (nI wi), .int cr, .ref xk, .ref xl, .ref xt, .int (nI 0), .ref xw, .ref xs, .ref xg, .ref xy, .ref xe, .int (nI kd), .int (nI ln), .int (nI ps), .int (nI hr), .int br, .int bp, .int (nI gd), .int (nI gp), .int (nI sl), .ref xc, .ref xf, .ref xn])), (xd, .inl (G.2.1, 1200, .inl (nb gD))), (xb, .inl (G.2.1, 40, .inl (nb gB))), (xk, .inl (G.2.1, 16, .inl (nb gK))), (xl, .inl (G.2.1, 8, .inl (nb gL))), (xt, .inl (G.2.1, 192, .inl (nb gT))), (xw, .inl (G.2.1, 64, .inl gW)), (xs, .inl (G.2.1, 16, .inl gS)), (xg, .inl (G.2.1, 32, .inl (nb gG))), (xy, .inl (G.2.1, 16, .inl (nb gY))), (xe, .inl (G.2.1, 8, .inl (nb gE))), (xc, .inl (G.2.1, 1200, .inl (nb gC))), (xf, .inl (G.2.1, 128, .inl (nn gF))), (xn, .inl (G.2.1, 128, .inl (nn gN)))] (fun (r9 : Int32) (u : Nat × Nat × Nat) => r9 = nI 0) (fun (u : Nat × Nat × Nat) => [(mo, .inr (5, [.int (nI rf), .ref xd, .int (nI n), .int (nI y), .ref xb, .int (nI nb1), .int (nI up), .int (nI wi), .int cr, .ref xk, .ref xl, .ref xt, .int (nI 0), .ref xw, .ref xs, .ref xg, .ref xy, .ref xe, .int (nI u.1), .int (nI u.2.1), .int (nI u.2.2), .int (nI hr), .int br, .int bp, .int (nI gd), .int (nI gp), .int (nI sl), .ref xc, .ref xf, .ref xn])), (xd, .inl (G.2.1, 1200, .inl (nb gD))), (xb, .inl (G.2.1, 40, .inl (nb gB))), (xk, .inl (G.2.1, 16, .inl (nb gK))), (xl, .inl (G.2.1, 8, .inl (nb gL))), (xt, .inl (G.2.1, 192, .inl (nb gT))), (xw, .inl (G.2.1, 64, .inl gW)), (xs, .inl (G.2.1, 16, .inl gS)), (xg, .inl (G.2.1, 32, .inl (nb gG))), (xy, .inl (G.2.1, 16, .inl (nb gY))), (xe, .inl (G.2.1, 8, .inl (nb gE))), (xc, .inl (G.2.1, 1200, .inl (nb gC))), (xf, .inl (G.2.1, 128, .inl (nn gF))), (xn, .inl (G.2.1, 128, .inl (nn gN)))]) 0 0 := by
  refine fI_start (cc := cX5_look) (maxL := 3) (by decide) rfl (Nat.le_of_ble_eq_true rfl) ?_
  intro prg env sv mid args below meth cd A Q ls hx hb hml hown hts hin hK hP hD hE hA hS hl hend
  replace hown : sv.vm.findClass RX5 = some mid.cls := hown
  replace hP : va_P G.1 vwCl [(mo, .inr (5, [.int (nI rf), .ref xd, .int (nI n), .int (nI y), .ref xb, .int (nI nb1), .int (nI up), .int (nI wi), .int cr, .ref xk, .ref xl, .ref xt, .int (nI 0), .ref xw, .ref xs, .ref xg, .ref xy, .ref xe, .int (nI kd), .int (nI ln), .int (nI ps), .int (nI hr), .int br, .int bp, .int (nI gd), .int (nI gp), .int (nI sl), .ref xc, .ref xf, .ref xn])), (xd, .inl (G.2.1, 1200, .inl (nb gD))), (xb, .inl (G.2.1, 40, .inl (nb gB))), (xk, .inl (G.2.1, 16, .inl (nb gK))), (xl, .inl (G.2.1, 8, .inl (nb gL))), (xt, .inl (G.2.1, 192, .inl (nb gT))), (xw, .inl (G.2.1, 64, .inl gW)), (xs, .inl (G.2.1, 16, .inl gS)), (xg, .inl (G.2.1, 32, .inl (nb gG))), (xy, .inl (G.2.1, 16, .inl (nb gY))), (xe, .inl (G.2.1, 8, .inl (nb gE))), (xc, .inl (G.2.1, 1200, .inl (nb gC))), (xf, .inl (G.2.1, 128, .inl (nn gF))), (xn, .inl (G.2.1, 128, .inl (nn gN)))] sv.heap := hP
  replace hl : lv_has ls 3 [(0, .ref mo), (1, .int (nI a))] := hl
  have z0 := bI_lt (gD a)
  have z1 := bI_lt (gD (a + 1))
  have z2 := bI_lt (gD (a + 2))
  have z3 := bI_lt (gD (a + 3))
  refine lv_iload_n hx hb dX5_look_0 rfl (lv_at hl 1 rfl) ?_
  refine lv_iconst (v := nI 2) hx hb dX5_look_1 (by decide) ?_
  refine lv_iadd hx hb dX5_look_2 ?_
  refine f_top (y := nI (a + 2)) (nI_add _ _) ?_
  refine lv_aload_n hx hb dX5_look_3 rfl (lv_at hl 0 rfl) ?_
  refine va_get (D := G.1) (ci := 5) (v := .int (nI n)) (C := RX5) (T := TX5) (N := 30) hx hb hts in_wsX50 hown hK hP 0 rfl rfl 2 (by decide) (hts _ wm_376) (fun _ h9 => h9) rfl dX5_look_4 ?_
  refine f_icmp_le (tgt := 12) (by omega) (by omega) hx hb dX5_look_7 (by decide) (fun c_7 => ?_) (fun c_7 => ?_)
  · skip
    refine lv_aload_n hx hb dX5_look_12 rfl (lv_at hl 0 rfl) ?_
    refine lv_aload_n hx hb dX5_look_13 rfl (lv_at hl 0 rfl) ?_
    refine va_get (D := G.1) (ci := 5) (v := .ref xd) (C := RX5) (T := TX5) (N := 30) hx hb hts in_wsX50 hown hK hP 0 rfl rfl 1 (by decide) (hts _ wm_250) (fun _ h9 => h9) rfl dX5_look_14 ?_
    refine lv_iload_n hx hb dX5_look_17 rfl (lv_at hl 1 rfl) ?_
    refine f_iald (v := bI (gD a)) hx hb hK hP 1 rfl (by omega) (by decide) rfl dX5_look_18 ?_
    refine va_put (D := G.1) (ci := 5) (v := .int (bI (gD a))) (ty := .int) (C := RX5) (T := TX5) (N := 30) hx hb hts in_wsX50 tyX5 tyX5_ok nmX5 hown hK hP hD hS 0 rfl rfl 18 (by decide) (hts _ wm_412) (fun _ h9 => h9) rfl (by decide +kernel) rfl rfl (Nat.le_of_ble_eq_true rfl) dX5_look_19 (fun H_19 locs_19 hP_19 hD_19 hS_19 => ?_)
    replace hP : va_P G.1 vwCl [(mo, .inr (5, [.int (nI rf), .ref xd, .int (nI n), .int (nI y), .ref xb, .int (nI nb1), .int (nI up), .int (nI wi), .int cr, .ref xk, .ref xl, .ref xt, .int (nI 0), .ref xw, .ref xs, .ref xg, .ref xy, .ref xe, .int (bI (gD a)), .int (nI ln), .int (nI ps), .int (nI hr), .int br, .int bp, .int (nI gd), .int (nI gp), .int (nI sl), .ref xc, .ref xf, .ref xn])), (xd, .inl (G.2.1, 1200, .inl (nb gD))), (xb, .inl (G.2.1, 40, .inl (nb gB))), (xk, .inl (G.2.1, 16, .inl (nb gK))), (xl, .inl (G.2.1, 8, .inl (nb gL))), (xt, .inl (G.2.1, 192, .inl (nb gT))), (xw, .inl (G.2.1, 64, .inl gW)), (xs, .inl (G.2.1, 16, .inl gS)), (xg, .inl (G.2.1, 32, .inl (nb gG))), (xy, .inl (G.2.1, 16, .inl (nb gY))), (xe, .inl (G.2.1, 8, .inl (nb gE))), (xc, .inl (G.2.1, 1200, .inl (nb gC))), (xf, .inl (G.2.1, 128, .inl (nn gF))), (xn, .inl (G.2.1, 128, .inl (nn gN)))] H_19 := hP_19
    replace hD : va_D A [(mo, .inr (5, [.int (nI rf), .ref xd, .int (nI n), .int (nI y), .ref xb, .int (nI nb1), .int (nI up), .int (nI wi), .int cr, .ref xk, .ref xl, .ref xt, .int (nI 0), .ref xw, .ref xs, .ref xg, .ref xy, .ref xe, .int (bI (gD a)), .int (nI ln), .int (nI ps), .int (nI hr), .int br, .int bp, .int (nI gd), .int (nI gp), .int (nI sl), .ref xc, .ref xf, .ref xn])), (xd, .inl (G.2.1, 1200, .inl (nb gD))), (xb, .inl (G.2.1, 40, .inl (nb gB))), (xk, .inl (G.2.1, 16, .inl (nb gK))), (xl, .inl (G.2.1, 8, .inl (nb gL))), (xt, .inl (G.2.1, 192, .inl (nb gT))), (xw, .inl (G.2.1, 64, .inl gW)), (xs, .inl (G.2.1, 16, .inl gS)), (xg, .inl (G.2.1, 32, .inl (nb gG))), (xy, .inl (G.2.1, 16, .inl (nb gY))), (xe, .inl (G.2.1, 8, .inl (nb gE))), (xc, .inl (G.2.1, 1200, .inl (nb gC))), (xf, .inl (G.2.1, 128, .inl (nn gF))), (xn, .inl (G.2.1, 128, .inl (nn gN)))] := hD_19
    replace hS : va_S A sv.heap H_19 locs_19 := hS_19
    clear hP_19 hD_19 hS_19
    refine lv_aload_n hx hb dX5_look_22 rfl (lv_at hl 0 rfl) ?_
    refine lv_aload_n hx hb dX5_look_23 rfl (lv_at hl 0 rfl) ?_
    refine va_get (D := G.1) (ci := 5) (v := .ref xd) (C := RX5) (T := TX5) (N := 30) hx hb hts in_wsX50 hown hK hP 0 rfl rfl 1 (by decide) (hts _ wm_250) (fun _ h9 => h9) rfl dX5_look_24 ?_
    refine lv_iload_n hx hb dX5_look_27 rfl (lv_at hl 1 rfl) ?_
    refine lv_iconst (v := nI 1) hx hb dX5_look_28 (by decide) ?_
    refine lv_iadd hx hb dX5_look_29 ?_
    refine f_top (y := nI (a + 1)) (nI_add _ _) ?_
    refine f_iald (v := bI (gD (a + 1))) hx hb hK hP 1 rfl (by omega) (by decide) rfl dX5_look_30 ?_
    refine va_put (D := G.1) (ci := 5) (v := .int (bI (gD (a + 1)))) (ty := .int) (C := RX5) (T := TX5) (N := 30) hx hb hts in_wsX50 tyX5 tyX5_ok nmX5 hown hK hP hD hS 0 rfl rfl 19 (by decide) (hts _ wm_413) (fun _ h9 => h9) rfl (by decide +kernel) rfl rfl (Nat.le_of_ble_eq_true rfl) dX5_look_31 (fun H_31 locs_31 hP_31 hD_31 hS_31 => ?_)
    replace hP : va_P G.1 vwCl [(mo, .inr (5, [.int (nI rf), .ref xd, .int (nI n), .int (nI y), .ref xb, .int (nI nb1), .int (nI up), .int (nI wi), .int cr, .ref xk, .ref xl, .ref xt, .int (nI 0), .ref xw, .ref xs, .ref xg, .ref xy, .ref xe, .int (bI (gD a)), .int (bI (gD (a + 1))), .int (nI ps), .int (nI hr), .int br, .int bp, .int (nI gd), .int (nI gp), .int (nI sl), .ref xc, .ref xf, .ref xn])), (xd, .inl (G.2.1, 1200, .inl (nb gD))), (xb, .inl (G.2.1, 40, .inl (nb gB))), (xk, .inl (G.2.1, 16, .inl (nb gK))), (xl, .inl (G.2.1, 8, .inl (nb gL))), (xt, .inl (G.2.1, 192, .inl (nb gT))), (xw, .inl (G.2.1, 64, .inl gW)), (xs, .inl (G.2.1, 16, .inl gS)), (xg, .inl (G.2.1, 32, .inl (nb gG))), (xy, .inl (G.2.1, 16, .inl (nb gY))), (xe, .inl (G.2.1, 8, .inl (nb gE))), (xc, .inl (G.2.1, 1200, .inl (nb gC))), (xf, .inl (G.2.1, 128, .inl (nn gF))), (xn, .inl (G.2.1, 128, .inl (nn gN)))] H_31 := hP_31
    replace hD : va_D A [(mo, .inr (5, [.int (nI rf), .ref xd, .int (nI n), .int (nI y), .ref xb, .int (nI nb1), .int (nI up), .int (nI wi), .int cr, .ref xk, .ref xl, .ref xt, .int (nI 0), .ref xw, .ref xs, .ref xg, .ref xy, .ref xe, .int (bI (gD a)), .int (bI (gD (a + 1))), .int (nI ps), .int (nI hr), .int br, .int bp, .int (nI gd), .int (nI gp), .int (nI sl), .ref xc, .ref xf, .ref xn])), (xd, .inl (G.2.1, 1200, .inl (nb gD))), (xb, .inl (G.2.1, 40, .inl (nb gB))), (xk, .inl (G.2.1, 16, .inl (nb gK))), (xl, .inl (G.2.1, 8, .inl (nb gL))), (xt, .inl (G.2.1, 192, .inl (nb gT))), (xw, .inl (G.2.1, 64, .inl gW)), (xs, .inl (G.2.1, 16, .inl gS)), (xg, .inl (G.2.1, 32, .inl (nb gG))), (xy, .inl (G.2.1, 16, .inl (nb gY))), (xe, .inl (G.2.1, 8, .inl (nb gE))), (xc, .inl (G.2.1, 1200, .inl (nb gC))), (xf, .inl (G.2.1, 128, .inl (nn gF))), (xn, .inl (G.2.1, 128, .inl (nn gN)))] := hD_31
    replace hS : va_S A sv.heap H_31 locs_31 := hS_31
    clear hP_31 hD_31 hS_31
    refine lv_aload_n hx hb dX5_look_34 rfl (lv_at hl 0 rfl) ?_
    refine lv_iconst (v := nI 0) hx hb dX5_look_35 (by decide) ?_
    refine va_put (D := G.1) (ci := 5) (v := .int (nI 0)) (ty := .int) (C := RX5) (T := TX5) (N := 30) hx hb hts in_wsX50 tyX5 tyX5_ok nmX5 hown hK hP hD hS 0 rfl rfl 20 (by decide) (hts _ wm_414) (fun _ h9 => h9) rfl (by decide +kernel) rfl rfl (Nat.le_of_ble_eq_true rfl) dX5_look_36 (fun H_36 locs_36 hP_36 hD_36 hS_36 => ?_)
    replace hP : va_P G.1 vwCl [(mo, .inr (5, [.int (nI rf), .ref xd, .int (nI n), .int (nI y), .ref xb, .int (nI nb1), .int (nI up), .int (nI wi), .int cr, .ref xk, .ref xl, .ref xt, .int (nI 0), .ref xw, .ref xs, .ref xg, .ref xy, .ref xe, .int (bI (gD a)), .int (bI (gD (a + 1))), .int (nI 0), .int (nI hr), .int br, .int bp, .int (nI gd), .int (nI gp), .int (nI sl), .ref xc, .ref xf, .ref xn])), (xd, .inl (G.2.1, 1200, .inl (nb gD))), (xb, .inl (G.2.1, 40, .inl (nb gB))), (xk, .inl (G.2.1, 16, .inl (nb gK))), (xl, .inl (G.2.1, 8, .inl (nb gL))), (xt, .inl (G.2.1, 192, .inl (nb gT))), (xw, .inl (G.2.1, 64, .inl gW)), (xs, .inl (G.2.1, 16, .inl gS)), (xg, .inl (G.2.1, 32, .inl (nb gG))), (xy, .inl (G.2.1, 16, .inl (nb gY))), (xe, .inl (G.2.1, 8, .inl (nb gE))), (xc, .inl (G.2.1, 1200, .inl (nb gC))), (xf, .inl (G.2.1, 128, .inl (nn gF))), (xn, .inl (G.2.1, 128, .inl (nn gN)))] H_36 := hP_36
    replace hD : va_D A [(mo, .inr (5, [.int (nI rf), .ref xd, .int (nI n), .int (nI y), .ref xb, .int (nI nb1), .int (nI up), .int (nI wi), .int cr, .ref xk, .ref xl, .ref xt, .int (nI 0), .ref xw, .ref xs, .ref xg, .ref xy, .ref xe, .int (bI (gD a)), .int (bI (gD (a + 1))), .int (nI 0), .int (nI hr), .int br, .int bp, .int (nI gd), .int (nI gp), .int (nI sl), .ref xc, .ref xf, .ref xn])), (xd, .inl (G.2.1, 1200, .inl (nb gD))), (xb, .inl (G.2.1, 40, .inl (nb gB))), (xk, .inl (G.2.1, 16, .inl (nb gK))), (xl, .inl (G.2.1, 8, .inl (nb gL))), (xt, .inl (G.2.1, 192, .inl (nb gT))), (xw, .inl (G.2.1, 64, .inl gW)), (xs, .inl (G.2.1, 16, .inl gS)), (xg, .inl (G.2.1, 32, .inl (nb gG))), (xy, .inl (G.2.1, 16, .inl (nb gY))), (xe, .inl (G.2.1, 8, .inl (nb gE))), (xc, .inl (G.2.1, 1200, .inl (nb gC))), (xf, .inl (G.2.1, 128, .inl (nn gF))), (xn, .inl (G.2.1, 128, .inl (nn gN)))] := hD_36
    replace hS : va_S A sv.heap H_36 locs_36 := hS_36
    clear hP_36 hD_36 hS_36
    refine lv_aload_n hx hb dX5_look_39 rfl (lv_at hl 0 rfl) ?_
    refine va_get (D := G.1) (ci := 5) (v := .int (bI (gD a))) (C := RX5) (T := TX5) (N := 30) hx hb hts in_wsX50 hown hK hP 0 rfl rfl 18 (by decide) (hts _ wm_412) (fun _ h9 => h9) rfl dX5_look_40 ?_
    refine lv_iconst (v := nI 1) hx hb dX5_look_43 (by decide) ?_
    refine f_icmp_ne (tgt := 56) (by omega) (by omega) hx hb dX5_look_44 (by decide) (fun c_44 => ?_) (fun c_44 => ?_)
    · skip
      refine lv_aload_n hx hb dX5_look_56 rfl (lv_at hl 0 rfl) ?_
      refine va_get (D := G.1) (ci := 5) (v := .int (bI (gD a))) (C := RX5) (T := TX5) (N := 30) hx hb hts in_wsX50 hown hK hP 0 rfl rfl 18 (by decide) (hts _ wm_412) (fun _ h9 => h9) rfl dX5_look_57 ?_
      refine lv_iconst (v := nI 2) hx hb dX5_look_60 (by decide) ?_
      refine f_icmp_ne (tgt := 71) (by omega) (by omega) hx hb dX5_look_61 (by decide) (fun c_61 => ?_) (fun c_61 => ?_)
      · skip
        refine lv_aload_n hx hb dX5_look_71 rfl (lv_at hl 0 rfl) ?_
        refine va_get (D := G.1) (ci := 5) (v := .int (bI (gD a))) (C := RX5) (T := TX5) (N := 30) hx hb hts in_wsX50 hown hK hP 0 rfl rfl 18 (by decide) (hts _ wm_412) (fun _ h9 => h9) rfl dX5_look_72 ?_
        refine lv_iconst (v := nI 3) hx hb dX5_look_75 (by decide) ?_
        refine f_icmp_ne (tgt := 91) (by omega) (by omega) hx hb dX5_look_76 (by decide) (fun c_76 => ?_) (fun c_76 => ?_)
        · skip
          refine lv_iconst (v := nI 0) hx hb dX5_look_91 (by decide) ?_
          refine lv_istore_n (lv' := [(2, .int (nI 0)), (0, .ref mo), (1, .int (nI a))]) hx hb dX5_look_92 rfl hl (by decide) rfl (fun ls hl2 => ?_)
          replace hl := hl2; clear hl2
          refine lv_iload_n hx hb dX5_look_93 rfl (lv_at hl 0 rfl) ?_
          refine lv_if_eq (tgt := 113) hx hb dX5_look_94 (by decide) (fun _ => ?_) (fun c9 => absurd (by decide) c9)
          refine lv_iconst (v := nI 0) hx hb dX5_look_113 (by decide) ?_
          exact hend (nI 0) ((gD a).toNat, (gD (a + 1)).toNat, 0) _ _ _ _ rfl rfl hP hD hS dX5_look_114
        · skip
          refine lv_aload_n hx hb dX5_look_79 rfl (lv_at hl 0 rfl) ?_
          refine va_get (D := G.1) (ci := 5) (v := .int (bI (gD (a + 1)))) (C := RX5) (T := TX5) (N := 30) hx hb hts in_wsX50 hown hK hP 0 rfl rfl 19 (by decide) (hts _ wm_413) (fun _ h9 => h9) rfl dX5_look_80 ?_
          refine lv_iconst (v := nI 2) hx hb dX5_look_83 (by decide) ?_
          refine f_icmp_ne (tgt := 91) (by omega) (by omega) hx hb dX5_look_84 (by decide) (fun c_84 => ?_) (fun c_84 => ?_)
          · skip
            refine lv_iconst (v := nI 0) hx hb dX5_look_91 (by decide) ?_
            refine lv_istore_n (lv' := [(2, .int (nI 0)), (0, .ref mo), (1, .int (nI a))]) hx hb dX5_look_92 rfl hl (by decide) rfl (fun ls hl2 => ?_)
            replace hl := hl2; clear hl2
            refine lv_iload_n hx hb dX5_look_93 rfl (lv_at hl 0 rfl) ?_
            refine lv_if_eq (tgt := 113) hx hb dX5_look_94 (by decide) (fun _ => ?_) (fun c9 => absurd (by decide) c9)
            refine lv_iconst (v := nI 0) hx hb dX5_look_113 (by decide) ?_
            exact hend (nI 0) ((gD a).toNat, (gD (a + 1)).toNat, 0) _ _ _ _ rfl rfl hP hD hS dX5_look_114
          · skip
            refine lv_iconst (v := nI 1) hx hb dX5_look_87 (by decide) ?_
            refine lv_goto (tgt := 92) hx hb dX5_look_88 (by decide) ?_
            refine lv_istore_n (lv' := [(2, .int (nI 1)), (0, .ref mo), (1, .int (nI a))]) hx hb dX5_look_92 rfl hl (by decide) rfl (fun ls hl2 => ?_)
            replace hl := hl2; clear hl2
            refine lv_iload_n hx hb dX5_look_93 rfl (lv_at hl 0 rfl) ?_
            refine lv_if_eq (tgt := 113) hx hb dX5_look_94 (by decide) (fun c9 => absurd c9 (by decide)) (fun _ => ?_)
            refine lv_iload_n hx hb dX5_look_97 rfl (lv_at hl 2 rfl) ?_
            refine lv_bipush (v := nI 10) hx hb dX5_look_98 (by decide) ?_
            refine lv_iadd hx hb dX5_look_100 ?_
            refine f_top (y := nI (a + 10)) (nI_add _ _) ?_
            refine lv_aload_n hx hb dX5_look_101 rfl (lv_at hl 1 rfl) ?_
            refine va_get (D := G.1) (ci := 5) (v := .int (bI (gD (a + 1)))) (C := RX5) (T := TX5) (N := 30) hx hb hts in_wsX50 hown hK hP 0 rfl rfl 19 (by decide) (hts _ wm_413) (fun _ h9 => h9) rfl dX5_look_102 ?_
            refine lv_iadd hx hb dX5_look_105 ?_
            refine f_top (y := nI (a + 10 + ((gD (a + 1)).toNat))) (nI_add _ _) ?_
            refine lv_aload_n hx hb dX5_look_106 rfl (lv_at hl 1 rfl) ?_
            refine va_get (D := G.1) (ci := 5) (v := .int (nI n)) (C := RX5) (T := TX5) (N := 30) hx hb hts in_wsX50 hown hK hP 0 rfl rfl 2 (by decide) (hts _ wm_376) (fun _ h9 => h9) rfl dX5_look_107 ?_
            refine f_icmp_le (tgt := 115) (by omega) (by omega) hx hb dX5_look_110 (by decide) (fun c_110 => ?_) (fun c_110 => ?_)
            · skip
              exfalso; rw [show whole gD n a = true from decide_eq_true (by omega)] at hw; cases hw
            · skip
              refine lv_iconst (v := nI 0) hx hb dX5_look_113 (by decide) ?_
              exact hend (nI 0) ((gD a).toNat, (gD (a + 1)).toNat, 0) _ _ _ _ rfl rfl hP hD hS dX5_look_114
      · skip
        refine lv_aload_n hx hb dX5_look_64 rfl (lv_at hl 0 rfl) ?_
        refine va_get (D := G.1) (ci := 5) (v := .int (bI (gD (a + 1)))) (C := RX5) (T := TX5) (N := 30) hx hb hts in_wsX50 hown hK hP 0 rfl rfl 19 (by decide) (hts _ wm_413) (fun _ h9 => h9) rfl dX5_look_65 ?_
        refine f_if_eq (tgt := 87) (by omega) hx hb dX5_look_68 (by decide) (fun c_68 => ?_) (fun c_68 => ?_)
        · skip
          refine lv_iconst (v := nI 1) hx hb dX5_look_87 (by decide) ?_
          refine lv_goto (tgt := 92) hx hb dX5_look_88 (by decide) ?_
          refine lv_istore_n (lv' := [(2, .int (nI 1)), (0, .ref mo), (1, .int (nI a))]) hx hb dX5_look_92 rfl hl (by decide) rfl (fun ls hl2 => ?_)
          replace hl := hl2; clear hl2
          refine lv_iload_n hx hb dX5_look_93 rfl (lv_at hl 0 rfl) ?_
          refine lv_if_eq (tgt := 113) hx hb dX5_look_94 (by decide) (fun c9 => absurd c9 (by decide)) (fun _ => ?_)
          refine lv_iload_n hx hb dX5_look_97 rfl (lv_at hl 2 rfl) ?_
          refine lv_bipush (v := nI 10) hx hb dX5_look_98 (by decide) ?_
          refine lv_iadd hx hb dX5_look_100 ?_
          refine f_top (y := nI (a + 10)) (nI_add _ _) ?_
          refine lv_aload_n hx hb dX5_look_101 rfl (lv_at hl 1 rfl) ?_
          refine va_get (D := G.1) (ci := 5) (v := .int (bI (gD (a + 1)))) (C := RX5) (T := TX5) (N := 30) hx hb hts in_wsX50 hown hK hP 0 rfl rfl 19 (by decide) (hts _ wm_413) (fun _ h9 => h9) rfl dX5_look_102 ?_
          refine lv_iadd hx hb dX5_look_105 ?_
          refine f_top (y := nI (a + 10 + ((gD (a + 1)).toNat))) (nI_add _ _) ?_
          refine lv_aload_n hx hb dX5_look_106 rfl (lv_at hl 1 rfl) ?_
          refine va_get (D := G.1) (ci := 5) (v := .int (nI n)) (C := RX5) (T := TX5) (N := 30) hx hb hts in_wsX50 hown hK hP 0 rfl rfl 2 (by decide) (hts _ wm_376) (fun _ h9 => h9) rfl dX5_look_107 ?_
          refine f_icmp_le (tgt := 115) (by omega) (by omega) hx hb dX5_look_110 (by decide) (fun c_110 => ?_) (fun c_110 => ?_)
          · skip
            exfalso; rw [show whole gD n a = true from decide_eq_true (by omega)] at hw; cases hw
          · skip
            refine lv_iconst (v := nI 0) hx hb dX5_look_113 (by decide) ?_
            exact hend (nI 0) ((gD a).toNat, (gD (a + 1)).toNat, 0) _ _ _ _ rfl rfl hP hD hS dX5_look_114
        · skip
          refine lv_aload_n hx hb dX5_look_71 rfl (lv_at hl 0 rfl) ?_
          refine va_get (D := G.1) (ci := 5) (v := .int (bI (gD a))) (C := RX5) (T := TX5) (N := 30) hx hb hts in_wsX50 hown hK hP 0 rfl rfl 18 (by decide) (hts _ wm_412) (fun _ h9 => h9) rfl dX5_look_72 ?_
          refine lv_iconst (v := nI 3) hx hb dX5_look_75 (by decide) ?_
          refine f_icmp_ne (tgt := 91) (by omega) (by omega) hx hb dX5_look_76 (by decide) (fun c_76 => ?_) (fun c_76 => ?_)
          · skip
            refine lv_iconst (v := nI 0) hx hb dX5_look_91 (by decide) ?_
            refine lv_istore_n (lv' := [(2, .int (nI 0)), (0, .ref mo), (1, .int (nI a))]) hx hb dX5_look_92 rfl hl (by decide) rfl (fun ls hl2 => ?_)
            replace hl := hl2; clear hl2
            refine lv_iload_n hx hb dX5_look_93 rfl (lv_at hl 0 rfl) ?_
            refine lv_if_eq (tgt := 113) hx hb dX5_look_94 (by decide) (fun _ => ?_) (fun c9 => absurd (by decide) c9)
            refine lv_iconst (v := nI 0) hx hb dX5_look_113 (by decide) ?_
            exact hend (nI 0) ((gD a).toNat, (gD (a + 1)).toNat, 0) _ _ _ _ rfl rfl hP hD hS dX5_look_114
          · skip
            refine lv_aload_n hx hb dX5_look_79 rfl (lv_at hl 0 rfl) ?_
            refine va_get (D := G.1) (ci := 5) (v := .int (bI (gD (a + 1)))) (C := RX5) (T := TX5) (N := 30) hx hb hts in_wsX50 hown hK hP 0 rfl rfl 19 (by decide) (hts _ wm_413) (fun _ h9 => h9) rfl dX5_look_80 ?_
            refine lv_iconst (v := nI 2) hx hb dX5_look_83 (by decide) ?_
            refine f_icmp_ne (tgt := 91) (by omega) (by omega) hx hb dX5_look_84 (by decide) (fun c_84 => ?_) (fun c_84 => ?_)
            · skip
              refine lv_iconst (v := nI 0) hx hb dX5_look_91 (by decide) ?_
              refine lv_istore_n (lv' := [(2, .int (nI 0)), (0, .ref mo), (1, .int (nI a))]) hx hb dX5_look_92 rfl hl (by decide) rfl (fun ls hl2 => ?_)
              replace hl := hl2; clear hl2
              refine lv_iload_n hx hb dX5_look_93 rfl (lv_at hl 0 rfl) ?_
              refine lv_if_eq (tgt := 113) hx hb dX5_look_94 (by decide) (fun _ => ?_) (fun c9 => absurd (by decide) c9)
              refine lv_iconst (v := nI 0) hx hb dX5_look_113 (by decide) ?_
              exact hend (nI 0) ((gD a).toNat, (gD (a + 1)).toNat, 0) _ _ _ _ rfl rfl hP hD hS dX5_look_114
            · skip
              refine lv_iconst (v := nI 1) hx hb dX5_look_87 (by decide) ?_
              refine lv_goto (tgt := 92) hx hb dX5_look_88 (by decide) ?_
              refine lv_istore_n (lv' := [(2, .int (nI 1)), (0, .ref mo), (1, .int (nI a))]) hx hb dX5_look_92 rfl hl (by decide) rfl (fun ls hl2 => ?_)
              replace hl := hl2; clear hl2
              refine lv_iload_n hx hb dX5_look_93 rfl (lv_at hl 0 rfl) ?_
              refine lv_if_eq (tgt := 113) hx hb dX5_look_94 (by decide) (fun c9 => absurd c9 (by decide)) (fun _ => ?_)
              refine lv_iload_n hx hb dX5_look_97 rfl (lv_at hl 2 rfl) ?_
              refine lv_bipush (v := nI 10) hx hb dX5_look_98 (by decide) ?_
              refine lv_iadd hx hb dX5_look_100 ?_
              refine f_top (y := nI (a + 10)) (nI_add _ _) ?_
              refine lv_aload_n hx hb dX5_look_101 rfl (lv_at hl 1 rfl) ?_
              refine va_get (D := G.1) (ci := 5) (v := .int (bI (gD (a + 1)))) (C := RX5) (T := TX5) (N := 30) hx hb hts in_wsX50 hown hK hP 0 rfl rfl 19 (by decide) (hts _ wm_413) (fun _ h9 => h9) rfl dX5_look_102 ?_
              refine lv_iadd hx hb dX5_look_105 ?_
              refine f_top (y := nI (a + 10 + ((gD (a + 1)).toNat))) (nI_add _ _) ?_
              refine lv_aload_n hx hb dX5_look_106 rfl (lv_at hl 1 rfl) ?_
              refine va_get (D := G.1) (ci := 5) (v := .int (nI n)) (C := RX5) (T := TX5) (N := 30) hx hb hts in_wsX50 hown hK hP 0 rfl rfl 2 (by decide) (hts _ wm_376) (fun _ h9 => h9) rfl dX5_look_107 ?_
              refine f_icmp_le (tgt := 115) (by omega) (by omega) hx hb dX5_look_110 (by decide) (fun c_110 => ?_) (fun c_110 => ?_)
              · skip
                exfalso; rw [show whole gD n a = true from decide_eq_true (by omega)] at hw; cases hw
              · skip
                refine lv_iconst (v := nI 0) hx hb dX5_look_113 (by decide) ?_
                exact hend (nI 0) ((gD a).toNat, (gD (a + 1)).toNat, 0) _ _ _ _ rfl rfl hP hD hS dX5_look_114
    · skip
      refine lv_aload_n hx hb dX5_look_47 rfl (lv_at hl 0 rfl) ?_
      refine va_get (D := G.1) (ci := 5) (v := .int (bI (gD (a + 1)))) (C := RX5) (T := TX5) (N := 30) hx hb hts in_wsX50 hown hK hP 0 rfl rfl 19 (by decide) (hts _ wm_413) (fun _ h9 => h9) rfl dX5_look_48 ?_
      refine lv_bipush (v := nI 40) hx hb dX5_look_51 (by decide) ?_
      refine f_icmp_le (tgt := 87) (by omega) (by omega) hx hb dX5_look_53 (by decide) (fun c_53 => ?_) (fun c_53 => ?_)
      · skip
        refine lv_iconst (v := nI 1) hx hb dX5_look_87 (by decide) ?_
        refine lv_goto (tgt := 92) hx hb dX5_look_88 (by decide) ?_
        refine lv_istore_n (lv' := [(2, .int (nI 1)), (0, .ref mo), (1, .int (nI a))]) hx hb dX5_look_92 rfl hl (by decide) rfl (fun ls hl2 => ?_)
        replace hl := hl2; clear hl2
        refine lv_iload_n hx hb dX5_look_93 rfl (lv_at hl 0 rfl) ?_
        refine lv_if_eq (tgt := 113) hx hb dX5_look_94 (by decide) (fun c9 => absurd c9 (by decide)) (fun _ => ?_)
        refine lv_iload_n hx hb dX5_look_97 rfl (lv_at hl 2 rfl) ?_
        refine lv_bipush (v := nI 10) hx hb dX5_look_98 (by decide) ?_
        refine lv_iadd hx hb dX5_look_100 ?_
        refine f_top (y := nI (a + 10)) (nI_add _ _) ?_
        refine lv_aload_n hx hb dX5_look_101 rfl (lv_at hl 1 rfl) ?_
        refine va_get (D := G.1) (ci := 5) (v := .int (bI (gD (a + 1)))) (C := RX5) (T := TX5) (N := 30) hx hb hts in_wsX50 hown hK hP 0 rfl rfl 19 (by decide) (hts _ wm_413) (fun _ h9 => h9) rfl dX5_look_102 ?_
        refine lv_iadd hx hb dX5_look_105 ?_
        refine f_top (y := nI (a + 10 + ((gD (a + 1)).toNat))) (nI_add _ _) ?_
        refine lv_aload_n hx hb dX5_look_106 rfl (lv_at hl 1 rfl) ?_
        refine va_get (D := G.1) (ci := 5) (v := .int (nI n)) (C := RX5) (T := TX5) (N := 30) hx hb hts in_wsX50 hown hK hP 0 rfl rfl 2 (by decide) (hts _ wm_376) (fun _ h9 => h9) rfl dX5_look_107 ?_
        refine f_icmp_le (tgt := 115) (by omega) (by omega) hx hb dX5_look_110 (by decide) (fun c_110 => ?_) (fun c_110 => ?_)
        · skip
          exfalso; rw [show whole gD n a = true from decide_eq_true (by omega)] at hw; cases hw
        · skip
          refine lv_iconst (v := nI 0) hx hb dX5_look_113 (by decide) ?_
          exact hend (nI 0) ((gD a).toNat, (gD (a + 1)).toNat, 0) _ _ _ _ rfl rfl hP hD hS dX5_look_114
      · skip
        refine lv_aload_n hx hb dX5_look_56 rfl (lv_at hl 0 rfl) ?_
        refine va_get (D := G.1) (ci := 5) (v := .int (bI (gD a))) (C := RX5) (T := TX5) (N := 30) hx hb hts in_wsX50 hown hK hP 0 rfl rfl 18 (by decide) (hts _ wm_412) (fun _ h9 => h9) rfl dX5_look_57 ?_
        refine lv_iconst (v := nI 2) hx hb dX5_look_60 (by decide) ?_
        refine f_icmp_ne (tgt := 71) (by omega) (by omega) hx hb dX5_look_61 (by decide) (fun c_61 => ?_) (fun c_61 => ?_)
        · skip
          refine lv_aload_n hx hb dX5_look_71 rfl (lv_at hl 0 rfl) ?_
          refine va_get (D := G.1) (ci := 5) (v := .int (bI (gD a))) (C := RX5) (T := TX5) (N := 30) hx hb hts in_wsX50 hown hK hP 0 rfl rfl 18 (by decide) (hts _ wm_412) (fun _ h9 => h9) rfl dX5_look_72 ?_
          refine lv_iconst (v := nI 3) hx hb dX5_look_75 (by decide) ?_
          refine f_icmp_ne (tgt := 91) (by omega) (by omega) hx hb dX5_look_76 (by decide) (fun c_76 => ?_) (fun c_76 => ?_)
          · skip
            refine lv_iconst (v := nI 0) hx hb dX5_look_91 (by decide) ?_
            refine lv_istore_n (lv' := [(2, .int (nI 0)), (0, .ref mo), (1, .int (nI a))]) hx hb dX5_look_92 rfl hl (by decide) rfl (fun ls hl2 => ?_)
            replace hl := hl2; clear hl2
            refine lv_iload_n hx hb dX5_look_93 rfl (lv_at hl 0 rfl) ?_
            refine lv_if_eq (tgt := 113) hx hb dX5_look_94 (by decide) (fun _ => ?_) (fun c9 => absurd (by decide) c9)
            refine lv_iconst (v := nI 0) hx hb dX5_look_113 (by decide) ?_
            exact hend (nI 0) ((gD a).toNat, (gD (a + 1)).toNat, 0) _ _ _ _ rfl rfl hP hD hS dX5_look_114
          · skip
            refine lv_aload_n hx hb dX5_look_79 rfl (lv_at hl 0 rfl) ?_
            refine va_get (D := G.1) (ci := 5) (v := .int (bI (gD (a + 1)))) (C := RX5) (T := TX5) (N := 30) hx hb hts in_wsX50 hown hK hP 0 rfl rfl 19 (by decide) (hts _ wm_413) (fun _ h9 => h9) rfl dX5_look_80 ?_
            refine lv_iconst (v := nI 2) hx hb dX5_look_83 (by decide) ?_
            refine f_icmp_ne (tgt := 91) (by omega) (by omega) hx hb dX5_look_84 (by decide) (fun c_84 => ?_) (fun c_84 => ?_)
            · skip
              refine lv_iconst (v := nI 0) hx hb dX5_look_91 (by decide) ?_
              refine lv_istore_n (lv' := [(2, .int (nI 0)), (0, .ref mo), (1, .int (nI a))]) hx hb dX5_look_92 rfl hl (by decide) rfl (fun ls hl2 => ?_)
              replace hl := hl2; clear hl2
              refine lv_iload_n hx hb dX5_look_93 rfl (lv_at hl 0 rfl) ?_
              refine lv_if_eq (tgt := 113) hx hb dX5_look_94 (by decide) (fun _ => ?_) (fun c9 => absurd (by decide) c9)
              refine lv_iconst (v := nI 0) hx hb dX5_look_113 (by decide) ?_
              exact hend (nI 0) ((gD a).toNat, (gD (a + 1)).toNat, 0) _ _ _ _ rfl rfl hP hD hS dX5_look_114
            · skip
              refine lv_iconst (v := nI 1) hx hb dX5_look_87 (by decide) ?_
              refine lv_goto (tgt := 92) hx hb dX5_look_88 (by decide) ?_
              refine lv_istore_n (lv' := [(2, .int (nI 1)), (0, .ref mo), (1, .int (nI a))]) hx hb dX5_look_92 rfl hl (by decide) rfl (fun ls hl2 => ?_)
              replace hl := hl2; clear hl2
              refine lv_iload_n hx hb dX5_look_93 rfl (lv_at hl 0 rfl) ?_
              refine lv_if_eq (tgt := 113) hx hb dX5_look_94 (by decide) (fun c9 => absurd c9 (by decide)) (fun _ => ?_)
              refine lv_iload_n hx hb dX5_look_97 rfl (lv_at hl 2 rfl) ?_
              refine lv_bipush (v := nI 10) hx hb dX5_look_98 (by decide) ?_
              refine lv_iadd hx hb dX5_look_100 ?_
              refine f_top (y := nI (a + 10)) (nI_add _ _) ?_
              refine lv_aload_n hx hb dX5_look_101 rfl (lv_at hl 1 rfl) ?_
              refine va_get (D := G.1) (ci := 5) (v := .int (bI (gD (a + 1)))) (C := RX5) (T := TX5) (N := 30) hx hb hts in_wsX50 hown hK hP 0 rfl rfl 19 (by decide) (hts _ wm_413) (fun _ h9 => h9) rfl dX5_look_102 ?_
              refine lv_iadd hx hb dX5_look_105 ?_
              refine f_top (y := nI (a + 10 + ((gD (a + 1)).toNat))) (nI_add _ _) ?_
              refine lv_aload_n hx hb dX5_look_106 rfl (lv_at hl 1 rfl) ?_
              refine va_get (D := G.1) (ci := 5) (v := .int (nI n)) (C := RX5) (T := TX5) (N := 30) hx hb hts in_wsX50 hown hK hP 0 rfl rfl 2 (by decide) (hts _ wm_376) (fun _ h9 => h9) rfl dX5_look_107 ?_
              refine f_icmp_le (tgt := 115) (by omega) (by omega) hx hb dX5_look_110 (by decide) (fun c_110 => ?_) (fun c_110 => ?_)
              · skip
                exfalso; rw [show whole gD n a = true from decide_eq_true (by omega)] at hw; cases hw
              · skip
                refine lv_iconst (v := nI 0) hx hb dX5_look_113 (by decide) ?_
                exact hend (nI 0) ((gD a).toNat, (gD (a + 1)).toNat, 0) _ _ _ _ rfl rfl hP hD hS dX5_look_114
        · skip
          refine lv_aload_n hx hb dX5_look_64 rfl (lv_at hl 0 rfl) ?_
          refine va_get (D := G.1) (ci := 5) (v := .int (bI (gD (a + 1)))) (C := RX5) (T := TX5) (N := 30) hx hb hts in_wsX50 hown hK hP 0 rfl rfl 19 (by decide) (hts _ wm_413) (fun _ h9 => h9) rfl dX5_look_65 ?_
          refine f_if_eq (tgt := 87) (by omega) hx hb dX5_look_68 (by decide) (fun c_68 => ?_) (fun c_68 => ?_)
          · skip
            refine lv_iconst (v := nI 1) hx hb dX5_look_87 (by decide) ?_
            refine lv_goto (tgt := 92) hx hb dX5_look_88 (by decide) ?_
            refine lv_istore_n (lv' := [(2, .int (nI 1)), (0, .ref mo), (1, .int (nI a))]) hx hb dX5_look_92 rfl hl (by decide) rfl (fun ls hl2 => ?_)
            replace hl := hl2; clear hl2
            refine lv_iload_n hx hb dX5_look_93 rfl (lv_at hl 0 rfl) ?_
            refine lv_if_eq (tgt := 113) hx hb dX5_look_94 (by decide) (fun c9 => absurd c9 (by decide)) (fun _ => ?_)
            refine lv_iload_n hx hb dX5_look_97 rfl (lv_at hl 2 rfl) ?_
            refine lv_bipush (v := nI 10) hx hb dX5_look_98 (by decide) ?_
            refine lv_iadd hx hb dX5_look_100 ?_
            refine f_top (y := nI (a + 10)) (nI_add _ _) ?_
            refine lv_aload_n hx hb dX5_look_101 rfl (lv_at hl 1 rfl) ?_
            refine va_get (D := G.1) (ci := 5) (v := .int (bI (gD (a + 1)))) (C := RX5) (T := TX5) (N := 30) hx hb hts in_wsX50 hown hK hP 0 rfl rfl 19 (by decide) (hts _ wm_413) (fun _ h9 => h9) rfl dX5_look_102 ?_
            refine lv_iadd hx hb dX5_look_105 ?_
            refine f_top (y := nI (a + 10 + ((gD (a + 1)).toNat))) (nI_add _ _) ?_
            refine lv_aload_n hx hb dX5_look_106 rfl (lv_at hl 1 rfl) ?_
            refine va_get (D := G.1) (ci := 5) (v := .int (nI n)) (C := RX5) (T := TX5) (N := 30) hx hb hts in_wsX50 hown hK hP 0 rfl rfl 2 (by decide) (hts _ wm_376) (fun _ h9 => h9) rfl dX5_look_107 ?_
            refine f_icmp_le (tgt := 115) (by omega) (by omega) hx hb dX5_look_110 (by decide) (fun c_110 => ?_) (fun c_110 => ?_)
            · skip
              exfalso; rw [show whole gD n a = true from decide_eq_true (by omega)] at hw; cases hw
            · skip
              refine lv_iconst (v := nI 0) hx hb dX5_look_113 (by decide) ?_
              exact hend (nI 0) ((gD a).toNat, (gD (a + 1)).toNat, 0) _ _ _ _ rfl rfl hP hD hS dX5_look_114
          · skip
            refine lv_aload_n hx hb dX5_look_71 rfl (lv_at hl 0 rfl) ?_
            refine va_get (D := G.1) (ci := 5) (v := .int (bI (gD a))) (C := RX5) (T := TX5) (N := 30) hx hb hts in_wsX50 hown hK hP 0 rfl rfl 18 (by decide) (hts _ wm_412) (fun _ h9 => h9) rfl dX5_look_72 ?_
            refine lv_iconst (v := nI 3) hx hb dX5_look_75 (by decide) ?_
            refine f_icmp_ne (tgt := 91) (by omega) (by omega) hx hb dX5_look_76 (by decide) (fun c_76 => ?_) (fun c_76 => ?_)
            · skip
              refine lv_iconst (v := nI 0) hx hb dX5_look_91 (by decide) ?_
              refine lv_istore_n (lv' := [(2, .int (nI 0)), (0, .ref mo), (1, .int (nI a))]) hx hb dX5_look_92 rfl hl (by decide) rfl (fun ls hl2 => ?_)
              replace hl := hl2; clear hl2
              refine lv_iload_n hx hb dX5_look_93 rfl (lv_at hl 0 rfl) ?_
              refine lv_if_eq (tgt := 113) hx hb dX5_look_94 (by decide) (fun _ => ?_) (fun c9 => absurd (by decide) c9)
              refine lv_iconst (v := nI 0) hx hb dX5_look_113 (by decide) ?_
              exact hend (nI 0) ((gD a).toNat, (gD (a + 1)).toNat, 0) _ _ _ _ rfl rfl hP hD hS dX5_look_114
            · skip
              refine lv_aload_n hx hb dX5_look_79 rfl (lv_at hl 0 rfl) ?_
              refine va_get (D := G.1) (ci := 5) (v := .int (bI (gD (a + 1)))) (C := RX5) (T := TX5) (N := 30) hx hb hts in_wsX50 hown hK hP 0 rfl rfl 19 (by decide) (hts _ wm_413) (fun _ h9 => h9) rfl dX5_look_80 ?_
              refine lv_iconst (v := nI 2) hx hb dX5_look_83 (by decide) ?_
              refine f_icmp_ne (tgt := 91) (by omega) (by omega) hx hb dX5_look_84 (by decide) (fun c_84 => ?_) (fun c_84 => ?_)
              · skip
                refine lv_iconst (v := nI 0) hx hb dX5_look_91 (by decide) ?_
                refine lv_istore_n (lv' := [(2, .int (nI 0)), (0, .ref mo), (1, .int (nI a))]) hx hb dX5_look_92 rfl hl (by decide) rfl (fun ls hl2 => ?_)
                replace hl := hl2; clear hl2
                refine lv_iload_n hx hb dX5_look_93 rfl (lv_at hl 0 rfl) ?_
                refine lv_if_eq (tgt := 113) hx hb dX5_look_94 (by decide) (fun _ => ?_) (fun c9 => absurd (by decide) c9)
                refine lv_iconst (v := nI 0) hx hb dX5_look_113 (by decide) ?_
                exact hend (nI 0) ((gD a).toNat, (gD (a + 1)).toNat, 0) _ _ _ _ rfl rfl hP hD hS dX5_look_114
              · skip
                refine lv_iconst (v := nI 1) hx hb dX5_look_87 (by decide) ?_
                refine lv_goto (tgt := 92) hx hb dX5_look_88 (by decide) ?_
                refine lv_istore_n (lv' := [(2, .int (nI 1)), (0, .ref mo), (1, .int (nI a))]) hx hb dX5_look_92 rfl hl (by decide) rfl (fun ls hl2 => ?_)
                replace hl := hl2; clear hl2
                refine lv_iload_n hx hb dX5_look_93 rfl (lv_at hl 0 rfl) ?_
                refine lv_if_eq (tgt := 113) hx hb dX5_look_94 (by decide) (fun c9 => absurd c9 (by decide)) (fun _ => ?_)
                refine lv_iload_n hx hb dX5_look_97 rfl (lv_at hl 2 rfl) ?_
                refine lv_bipush (v := nI 10) hx hb dX5_look_98 (by decide) ?_
                refine lv_iadd hx hb dX5_look_100 ?_
                refine f_top (y := nI (a + 10)) (nI_add _ _) ?_
                refine lv_aload_n hx hb dX5_look_101 rfl (lv_at hl 1 rfl) ?_
                refine va_get (D := G.1) (ci := 5) (v := .int (bI (gD (a + 1)))) (C := RX5) (T := TX5) (N := 30) hx hb hts in_wsX50 hown hK hP 0 rfl rfl 19 (by decide) (hts _ wm_413) (fun _ h9 => h9) rfl dX5_look_102 ?_
                refine lv_iadd hx hb dX5_look_105 ?_
                refine f_top (y := nI (a + 10 + ((gD (a + 1)).toNat))) (nI_add _ _) ?_
                refine lv_aload_n hx hb dX5_look_106 rfl (lv_at hl 1 rfl) ?_
                refine va_get (D := G.1) (ci := 5) (v := .int (nI n)) (C := RX5) (T := TX5) (N := 30) hx hb hts in_wsX50 hown hK hP 0 rfl rfl 2 (by decide) (hts _ wm_376) (fun _ h9 => h9) rfl dX5_look_107 ?_
                refine f_icmp_le (tgt := 115) (by omega) (by omega) hx hb dX5_look_110 (by decide) (fun c_110 => ?_) (fun c_110 => ?_)
                · skip
                  exfalso; rw [show whole gD n a = true from decide_eq_true (by omega)] at hw; cases hw
                · skip
                  refine lv_iconst (v := nI 0) hx hb dX5_look_113 (by decide) ?_
                  exact hend (nI 0) ((gD a).toNat, (gD (a + 1)).toNat, 0) _ _ _ _ rfl rfl hP hD hS dX5_look_114
  · skip
    refine lv_iconst (v := nI 0) hx hb dX5_look_10 (by decide) ?_
    exact hend (nI 0) (kd, ln, ps) _ _ _ _ rfl rfl hP hD hS dX5_look_11

set_option maxRecDepth 100000 in
set_option maxHeartbeats 4000000 in
theorem kX5_recover_0 (l : Launch) (G : fG) (mo : Nat) (xd : Nat) (xb : Nat) (xk : Nat) (xl : Nat) (xt : Nat) (xw : Nat) (xs : Nat) (xg : Nat) (xy : Nat) (xe : Nat) (xc : Nat) (xf : Nat) (xn : Nat) (rf : Nat) (n : Nat) (y : Nat) (nb1 : Nat) (wi : Nat) (cr : Int32) (kd : Nat) (ln : Nat) (ps : Nat) (hr : Nat) (br : Int32) (bp : Int32) (gd : Nat) (gp : Nat) (sl : Nat) (gD : Nat → UInt8) (gB : Nat → UInt8) (gK : Nat → UInt8) (gL : Nat → UInt8) (gT : Nat → UInt8) (gW : Nat → Int32) (gS : Nat → Int32) (gG : Nat → UInt8) (gY : Nat → UInt8) (gE : Nat → UInt8) (gC : Nat → UInt8) (gF : Nat → Nat) (gN : Nat → Nat) (hn : n ≤ 1200) (hwi : wi < 65536) (hz : wi ≤ wx gD n 120) : fMI l yX5_recover (.code yX5_recover cX5_recover 6 (some .int) :: wsA) ({ frames := 5, cells := 0, slots := 0, locals := 117 } : Room) G [.ref mo] [(mo, .inr (5, [.int (nI rf), .ref xd, .int (nI n), .int (nI y), .ref xb, .int (nI nb1), .int (nI 0), .int (nI wi), .int cr, .ref xk, .ref xl, .ref xt, .int (nI 0), .ref xw, .ref xs, .ref xg, .ref xy, .ref xe, .int (nI kd), .int (nI ln), .int (nI ps), .int (nI hr), .int br, .int bp, .int (nI gd), .int (nI gp), .int (nI sl), .ref xc, .ref xf, .ref xn])), (xd, .inl (G.2.1, 1200, .inl (nb gD))), (xb, .inl (G.2.1, 40, .inl (nb gB))), (xk, .inl (G.2.1, 16, .inl (nb gK))), (xl, .inl (G.2.1, 8, .inl (nb gL))), (xt, .inl (G.2.1, 192, .inl (nb gT))), (xw, .inl (G.2.1, 64, .inl gW)), (xs, .inl (G.2.1, 16, .inl gS)), (xg, .inl (G.2.1, 32, .inl (nb gG))), (xy, .inl (G.2.1, 16, .inl (nb gY))), (xe, .inl (G.2.1, 8, .inl (nb gE))), (xc, .inl (G.2.1, 1200, .inl (nb gC))), (xf, .inl (G.2.1, 128, .inl (nn gF))), (xn, .inl (G.2.1, 128, .inl (nn gN)))] (fun (r9 : Int32) (u : Nat × Nat × Nat) => r9 = nI 0) (fun (u : Nat × Nat × Nat) => [(mo, .inr (5, [.int (nI 0), .ref xd, .int (nI (wk gD n 120)), .int (nI (wk gD n 120)), .ref xb, .int (nI nb1), .int (nI 1), .int (nI wi), .int cr, .ref xk, .ref xl, .ref xt, .int (nI 0), .ref xw, .ref xs, .ref xg, .ref xy, .ref xe, .int (nI u.1), .int (nI u.2.1), .int (nI u.2.2), .int (nI hr), .int br, .int bp, .int (nI gd), .int (nI gp), .int (nI sl), .ref xc, .ref xf, .ref xn])), (xd, .inl (G.2.1, 1200, .inl (nb gD))), (xb, .inl (G.2.1, 40, .inl (nb gB))), (xk, .inl (G.2.1, 16, .inl (nb gK))), (xl, .inl (G.2.1, 8, .inl (nb (tgB gD (wk gD n 120))))), (xt, .inl (G.2.1, 192, .inl (nb gT))), (xw, .inl (G.2.1, 64, .inl gW)), (xs, .inl (G.2.1, 16, .inl gS)), (xg, .inl (G.2.1, 32, .inl (nb gG))), (xy, .inl (G.2.1, 16, .inl (nb gY))), (xe, .inl (G.2.1, 8, .inl (nb gE))), (xc, .inl (G.2.1, 1200, .inl (nb gC))), (xf, .inl (G.2.1, 128, .inl (nn gF))), (xn, .inl (G.2.1, 128, .inl (nn gN)))]) 0 0 := by
  refine fI_start (cc := cX5_recover) (maxL := 6) (by decide) rfl (Nat.le_of_ble_eq_true rfl) ?_
  intro prg env sv mid args below meth cd A Q ls hx hb hml hown hts hin hK hP hD hE hA hS hl hend
  replace hown : sv.vm.findClass RX5 = some mid.cls := hown
  replace hP : va_P G.1 vwCl [(mo, .inr (5, [.int (nI rf), .ref xd, .int (nI n), .int (nI y), .ref xb, .int (nI nb1), .int (nI 0), .int (nI wi), .int cr, .ref xk, .ref xl, .ref xt, .int (nI 0), .ref xw, .ref xs, .ref xg, .ref xy, .ref xe, .int (nI kd), .int (nI ln), .int (nI ps), .int (nI hr), .int br, .int bp, .int (nI gd), .int (nI gp), .int (nI sl), .ref xc, .ref xf, .ref xn])), (xd, .inl (G.2.1, 1200, .inl (nb gD))), (xb, .inl (G.2.1, 40, .inl (nb gB))), (xk, .inl (G.2.1, 16, .inl (nb gK))), (xl, .inl (G.2.1, 8, .inl (nb gL))), (xt, .inl (G.2.1, 192, .inl (nb gT))), (xw, .inl (G.2.1, 64, .inl gW)), (xs, .inl (G.2.1, 16, .inl gS)), (xg, .inl (G.2.1, 32, .inl (nb gG))), (xy, .inl (G.2.1, 16, .inl (nb gY))), (xe, .inl (G.2.1, 8, .inl (nb gE))), (xc, .inl (G.2.1, 1200, .inl (nb gC))), (xf, .inl (G.2.1, 128, .inl (nn gF))), (xn, .inl (G.2.1, 128, .inl (nn gN)))] sv.heap := hP
  replace hl : lv_has ls 6 [(0, .ref mo)] := hl
  refine lv_aload_n hx hb dX5_recover_0 rfl (lv_at hl 0 rfl) ?_
  refine lv_aload_n hx hb dX5_recover_1 rfl (lv_at hl 0 rfl) ?_
  refine va_get (D := G.1) (ci := 5) (v := .int (nI 0)) (C := RX5) (T := TX5) (N := 30) hx hb hts in_wsX50 hown hK hP 0 rfl rfl 6 (by decide) (hts _ wm_263) (fun _ h9 => h9) rfl dX5_recover_2 ?_
  refine lv_if_eq (tgt := 12) hx hb dX5_recover_5 (by decide) (fun _ => ?_) (fun c9 => absurd (by decide) c9)
  refine lv_iconst (v := nI 0) hx hb dX5_recover_12 (by decide) ?_
  refine fcVI (As := [.int (nI 0)]) (rest := []) (wr := []) (ws1 := fun (u : Unit) => [(mo, .inr (5, [.int (nI 0), .ref xd, .int (nI n), .int (nI y), .ref xb, .int (nI nb1), .int (nI 0), .int (nI wi), .int cr, .ref xk, .ref xl, .ref xt, .int (nI 0), .ref xw, .ref xs, .ref xg, .ref xy, .ref xe, .int (nI kd), .int (nI ln), .int (nI ps), .int (nI hr), .int br, .int bp, .int (nI gd), .int (nI gp), .int (nI sl), .ref xc, .ref xf, .ref xn])), (xd, .inl (G.2.1, 1200, .inl (nb gD))), (xb, .inl (G.2.1, 40, .inl (nb gB))), (xk, .inl (G.2.1, 16, .inl (nb gK))), (xl, .inl (G.2.1, 8, .inl (nb gL))), (xt, .inl (G.2.1, 192, .inl (nb gT))), (xw, .inl (G.2.1, 64, .inl gW)), (xs, .inl (G.2.1, 16, .inl gS)), (xg, .inl (G.2.1, 32, .inl (nb gG))), (xy, .inl (G.2.1, 16, .inl (nb gY))), (xe, .inl (G.2.1, 8, .inl (nb gE))), (xc, .inl (G.2.1, 1200, .inl (nb gC))), (xf, .inl (G.2.1, 128, .inl (nn gF))), (xn, .inl (G.2.1, 128, .inl (nn gN)))]) ⟨hx, hb, hml, hown, hts⟩ hK hE hP hD hS hA hl.1 (kX5_refused_0 l G mo xd xb xk xl xt xw xs xg xy xe xc xf xn rf n y nb1 0 wi cr 0 kd ln ps hr br bp gd gp sl gD gB gK gL gT gW gS gG gY gE gC gF gN ) (cwV 1 hts (gdV wm_389 wm_390 wm_391 wm_267 wm_270) rfl rfl rfl (by decide +kernel) ⟨Nat.le_of_ble_eq_true rfl, Nat.le_of_ble_eq_true rfl⟩) 0 rfl rfl rfl rfl (Nat.le_of_ble_eq_true rfl) dX5_recover_13 ⟨Nat.le_of_ble_eq_true rfl, Nat.le_of_ble_eq_true rfl⟩ [0, 1, 2, 3, 4, 5, 6, 7, 8, 9, 10, 11, 12, 13] [] [0, 1, 2, 3, 4, 5, 6, 7, 8, 9, 10, 11, 12, 13] rfl rfl rfl rfl (by decide) rfl (fun _ => rfl) (fun r_13 u_13 H_13 locs_13 hw_13 hP_13 hD_13 hS_13 => ?_)
  obtain rfl := hw_13
  replace hP : va_P G.1 vwCl [(mo, .inr (5, [.int (nI 0), .ref xd, .int (nI n), .int (nI y), .ref xb, .int (nI nb1), .int (nI 0), .int (nI wi), .int cr, .ref xk, .ref xl, .ref xt, .int (nI 0), .ref xw, .ref xs, .ref xg, .ref xy, .ref xe, .int (nI kd), .int (nI ln), .int (nI ps), .int (nI hr), .int br, .int bp, .int (nI gd), .int (nI gp), .int (nI sl), .ref xc, .ref xf, .ref xn])), (xd, .inl (G.2.1, 1200, .inl (nb gD))), (xb, .inl (G.2.1, 40, .inl (nb gB))), (xk, .inl (G.2.1, 16, .inl (nb gK))), (xl, .inl (G.2.1, 8, .inl (nb gL))), (xt, .inl (G.2.1, 192, .inl (nb gT))), (xw, .inl (G.2.1, 64, .inl gW)), (xs, .inl (G.2.1, 16, .inl gS)), (xg, .inl (G.2.1, 32, .inl (nb gG))), (xy, .inl (G.2.1, 16, .inl (nb gY))), (xe, .inl (G.2.1, 8, .inl (nb gE))), (xc, .inl (G.2.1, 1200, .inl (nb gC))), (xf, .inl (G.2.1, 128, .inl (nn gF))), (xn, .inl (G.2.1, 128, .inl (nn gN)))] H_13 := hP_13
  replace hD : va_D A [(mo, .inr (5, [.int (nI 0), .ref xd, .int (nI n), .int (nI y), .ref xb, .int (nI nb1), .int (nI 0), .int (nI wi), .int cr, .ref xk, .ref xl, .ref xt, .int (nI 0), .ref xw, .ref xs, .ref xg, .ref xy, .ref xe, .int (nI kd), .int (nI ln), .int (nI ps), .int (nI hr), .int br, .int bp, .int (nI gd), .int (nI gp), .int (nI sl), .ref xc, .ref xf, .ref xn])), (xd, .inl (G.2.1, 1200, .inl (nb gD))), (xb, .inl (G.2.1, 40, .inl (nb gB))), (xk, .inl (G.2.1, 16, .inl (nb gK))), (xl, .inl (G.2.1, 8, .inl (nb gL))), (xt, .inl (G.2.1, 192, .inl (nb gT))), (xw, .inl (G.2.1, 64, .inl gW)), (xs, .inl (G.2.1, 16, .inl gS)), (xg, .inl (G.2.1, 32, .inl (nb gG))), (xy, .inl (G.2.1, 16, .inl (nb gY))), (xe, .inl (G.2.1, 8, .inl (nb gE))), (xc, .inl (G.2.1, 1200, .inl (nb gC))), (xf, .inl (G.2.1, 128, .inl (nn gF))), (xn, .inl (G.2.1, 128, .inl (nn gN)))] := hD_13
  replace hS : va_S A sv.heap H_13 locs_13 := hS_13
  clear hP_13 hD_13 hS_13
  refine lv_if_eq (tgt := 21) hx hb dX5_recover_16 (by decide) (fun _ => ?_) (fun c9 => absurd (by decide) c9)
  refine lv_iconst (v := nI 0) hx hb dX5_recover_21 (by decide) ?_
  refine lv_istore_n (lv' := [(1, .int (nI 0)), (0, .ref mo)]) hx hb dX5_recover_22 rfl hl (by decide) rfl (fun ls hl2 => ?_)
  replace hl := hl2; clear hl2
  refine lv_iconst (v := nI 0) hx hb dX5_recover_23 (by decide) ?_
  refine lv_istore_n (lv' := [(2, .int (nI 0)), (1, .int (nI 0)), (0, .ref mo)]) hx hb dX5_recover_24 rfl hl (by decide) rfl (fun ls hl2 => ?_)
  replace hl := hl2; clear hl2
  refine lv_iconst (v := -1) hx hb dX5_recover_25 (by decide) ?_
  refine lv_istore_n (lv' := [(3, .int (-1)), (2, .int (nI 0)), (1, .int (nI 0)), (0, .ref mo)]) hx hb dX5_recover_26 rfl hl (by decide) rfl (fun ls hl2 => ?_)
  replace hl := hl2; clear hl2
  have L_27 : ∀ (n9 : Nat) (k : Nat) (kd1 : Nat) (ln1 : Nat) (ps1 : Nat) (H : Heap) (locs : List Loc) (ls : Array Slot), (121 - k) < n9 → (10 * k ≤ wk gD n k) → va_P G.1 vwCl [(mo, .inr (5, [.int (nI 0), .ref xd, .int (nI n), .int (nI y), .ref xb, .int (nI nb1), .int (nI 0), .int (nI wi), .int cr, .ref xk, .ref xl, .ref xt, .int (nI 0), .ref xw, .ref xs, .ref xg, .ref xy, .ref xe, .int (nI kd1), .int (nI ln1), .int (nI ps1), .int (nI hr), .int br, .int bp, .int (nI gd), .int (nI gp), .int (nI sl), .ref xc, .ref xf, .ref xn])), (xd, .inl (G.2.1, 1200, .inl (nb gD))), (xb, .inl (G.2.1, 40, .inl (nb gB))), (xk, .inl (G.2.1, 16, .inl (nb gK))), (xl, .inl (G.2.1, 8, .inl (nb gL))), (xt, .inl (G.2.1, 192, .inl (nb gT))), (xw, .inl (G.2.1, 64, .inl gW)), (xs, .inl (G.2.1, 16, .inl gS)), (xg, .inl (G.2.1, 32, .inl (nb gG))), (xy, .inl (G.2.1, 16, .inl (nb gY))), (xe, .inl (G.2.1, 8, .inl (nb gE))), (xc, .inl (G.2.1, 1200, .inl (nb gC))), (xf, .inl (G.2.1, 128, .inl (nn gF))), (xn, .inl (G.2.1, 128, .inl (nn gN)))] H → va_D A [(mo, .inr (5, [.int (nI 0), .ref xd, .int (nI n), .int (nI y), .ref xb, .int (nI nb1), .int (nI 0), .int (nI wi), .int cr, .ref xk, .ref xl, .ref xt, .int (nI 0), .ref xw, .ref xs, .ref xg, .ref xy, .ref xe, .int (nI kd1), .int (nI ln1), .int (nI ps1), .int (nI hr), .int br, .int bp, .int (nI gd), .int (nI gp), .int (nI sl), .ref xc, .ref xf, .ref xn])), (xd, .inl (G.2.1, 1200, .inl (nb gD))), (xb, .inl (G.2.1, 40, .inl (nb gB))), (xk, .inl (G.2.1, 16, .inl (nb gK))), (xl, .inl (G.2.1, 8, .inl (nb gL))), (xt, .inl (G.2.1, 192, .inl (nb gT))), (xw, .inl (G.2.1, 64, .inl gW)), (xs, .inl (G.2.1, 16, .inl gS)), (xg, .inl (G.2.1, 32, .inl (nb gG))), (xy, .inl (G.2.1, 16, .inl (nb gY))), (xe, .inl (G.2.1, 8, .inl (nb gE))), (xc, .inl (G.2.1, 1200, .inl (nb gC))), (xf, .inl (G.2.1, 128, .inl (nn gF))), (xn, .inl (G.2.1, 128, .inl (nn gN)))] → va_S A sv.heap H locs → lv_has ls 6 [(0, .ref mo), (1, .int (nI (wk gD n k))), (2, .int (nI (wx gD n k))), (3, .int (lastV (wk gD n k)))] → W prg l env ({ frames := 5, cells := 0, slots := 0, locals := 117 } : Room) sv mid args below meth cd H locs 0 0 Q (F0 mid 27 ls []) := by
    intro n9
    induction n9 with
    | zero => intro k kd1 ln1 ps1 H locs ls hmu; exact absurd hmu (Nat.not_lt_zero _)
    | succ n9 ih_27 =>
      intro k kd1 ln1 ps1 H locs ls hmu_27 hk hP hD hS hl
      have w1 := wk_le (g := gD) (n := n) k
      have w2 := wx_le (g := gD) (n := n) k
      have w3 : k * 65536 ≤ 120 * 65536 := Nat.mul_le_mul_right _ (by omega)
      rcases Bool.eq_false_or_eq_true (whole gD n (wk gD n k)) with hw | hw
      · skip
        have w4 := whole_spec hw
        have w5 := pas_lt gD (wk gD n k)
        have w6 := bI_lt (gD (wk gD n k + 1))
        refine lv_aload_n hx hb dX5_recover_27 rfl (lv_at hl 0 rfl) ?_
        refine lv_iload_n hx hb dX5_recover_28 rfl (lv_at hl 1 rfl) ?_
        refine fcVI (As := [.int (nI (wk gD n k))]) (rest := []) (wr := []) (ws1 := fun (u : Unit) => [(mo, .inr (5, [.int (nI 0), .ref xd, .int (nI n), .int (nI y), .ref xb, .int (nI nb1), .int (nI 0), .int (nI wi), .int cr, .ref xk, .ref xl, .ref xt, .int (nI 0), .ref xw, .ref xs, .ref xg, .ref xy, .ref xe, .int (nI ((gD (wk gD n k)).toNat)), .int (nI ((gD ((wk gD n k) + 1)).toNat)), .int (nI (pas gD (wk gD n k))), .int (nI hr), .int br, .int bp, .int (nI gd), .int (nI gp), .int (nI sl), .ref xc, .ref xf, .ref xn])), (xd, .inl (G.2.1, 1200, .inl (nb gD))), (xb, .inl (G.2.1, 40, .inl (nb gB))), (xk, .inl (G.2.1, 16, .inl (nb gK))), (xl, .inl (G.2.1, 8, .inl (nb gL))), (xt, .inl (G.2.1, 192, .inl (nb gT))), (xw, .inl (G.2.1, 64, .inl gW)), (xs, .inl (G.2.1, 16, .inl gS)), (xg, .inl (G.2.1, 32, .inl (nb gG))), (xy, .inl (G.2.1, 16, .inl (nb gY))), (xe, .inl (G.2.1, 8, .inl (nb gE))), (xc, .inl (G.2.1, 1200, .inl (nb gC))), (xf, .inl (G.2.1, 128, .inl (nn gF))), (xn, .inl (G.2.1, 128, .inl (nn gN)))]) ⟨hx, hb, hml, hown, hts⟩ hK hE hP hD hS hA hl.1 (kX5_look_y l G mo xd xb xk xl xt xw xs xg xy xe xc xf xn 0 n y nb1 0 wi cr kd1 ln1 ps1 hr br bp gd gp sl gD gB gK gL gT gW gS gG gY gE gC gF gN (wk gD n k) (by omega) hw) (cwV 1 hts (gdV wm_416 wm_417 wm_418 wm_267 wm_411) rfl rfl rfl (by decide +kernel) ⟨Nat.le_of_ble_eq_true rfl, Nat.le_of_ble_eq_true rfl⟩) 0 rfl rfl rfl rfl (Nat.le_of_ble_eq_true rfl) dX5_recover_29 ⟨Nat.le_of_ble_eq_true rfl, Nat.le_of_ble_eq_true rfl⟩ [0, 1, 2, 3, 4, 5, 6, 7, 8, 9, 10, 11, 12, 13] [] [0, 1, 2, 3, 4, 5, 6, 7, 8, 9, 10, 11, 12, 13] rfl rfl rfl rfl (by decide) rfl (fun _ => rfl) (fun r_29 u_29 H_29 locs_29 hw_29 hP_29 hD_29 hS_29 => ?_)
        obtain rfl := hw_29
        replace hP : va_P G.1 vwCl [(mo, .inr (5, [.int (nI 0), .ref xd, .int (nI n), .int (nI y), .ref xb, .int (nI nb1), .int (nI 0), .int (nI wi), .int cr, .ref xk, .ref xl, .ref xt, .int (nI 0), .ref xw, .ref xs, .ref xg, .ref xy, .ref xe, .int (nI ((gD (wk gD n k)).toNat)), .int (nI ((gD ((wk gD n k) + 1)).toNat)), .int (nI (pas gD (wk gD n k))), .int (nI hr), .int br, .int bp, .int (nI gd), .int (nI gp), .int (nI sl), .ref xc, .ref xf, .ref xn])), (xd, .inl (G.2.1, 1200, .inl (nb gD))), (xb, .inl (G.2.1, 40, .inl (nb gB))), (xk, .inl (G.2.1, 16, .inl (nb gK))), (xl, .inl (G.2.1, 8, .inl (nb gL))), (xt, .inl (G.2.1, 192, .inl (nb gT))), (xw, .inl (G.2.1, 64, .inl gW)), (xs, .inl (G.2.1, 16, .inl gS)), (xg, .inl (G.2.1, 32, .inl (nb gG))), (xy, .inl (G.2.1, 16, .inl (nb gY))), (xe, .inl (G.2.1, 8, .inl (nb gE))), (xc, .inl (G.2.1, 1200, .inl (nb gC))), (xf, .inl (G.2.1, 128, .inl (nn gF))), (xn, .inl (G.2.1, 128, .inl (nn gN)))] H_29 := hP_29
        replace hD : va_D A [(mo, .inr (5, [.int (nI 0), .ref xd, .int (nI n), .int (nI y), .ref xb, .int (nI nb1), .int (nI 0), .int (nI wi), .int cr, .ref xk, .ref xl, .ref xt, .int (nI 0), .ref xw, .ref xs, .ref xg, .ref xy, .ref xe, .int (nI ((gD (wk gD n k)).toNat)), .int (nI ((gD ((wk gD n k) + 1)).toNat)), .int (nI (pas gD (wk gD n k))), .int (nI hr), .int br, .int bp, .int (nI gd), .int (nI gp), .int (nI sl), .ref xc, .ref xf, .ref xn])), (xd, .inl (G.2.1, 1200, .inl (nb gD))), (xb, .inl (G.2.1, 40, .inl (nb gB))), (xk, .inl (G.2.1, 16, .inl (nb gK))), (xl, .inl (G.2.1, 8, .inl (nb gL))), (xt, .inl (G.2.1, 192, .inl (nb gT))), (xw, .inl (G.2.1, 64, .inl gW)), (xs, .inl (G.2.1, 16, .inl gS)), (xg, .inl (G.2.1, 32, .inl (nb gG))), (xy, .inl (G.2.1, 16, .inl (nb gY))), (xe, .inl (G.2.1, 8, .inl (nb gE))), (xc, .inl (G.2.1, 1200, .inl (nb gC))), (xf, .inl (G.2.1, 128, .inl (nn gF))), (xn, .inl (G.2.1, 128, .inl (nn gN)))] := hD_29
        replace hS : va_S A sv.heap H_29 locs_29 := hS_29
        clear hP_29 hD_29 hS_29
        refine lv_if_eq (tgt := 66) hx hb dX5_recover_32 (by decide) (fun c9 => absurd c9 (by decide)) (fun _ => ?_)
        refine lv_iload_n hx hb dX5_recover_35 rfl (lv_at hl 2 rfl) ?_
        refine lv_aload_n hx hb dX5_recover_36 rfl (lv_at hl 0 rfl) ?_
        refine va_get (D := G.1) (ci := 5) (v := .int (nI (pas gD (wk gD n k)))) (C := RX5) (T := TX5) (N := 30) hx hb hts in_wsX50 hown hK hP 0 rfl rfl 20 (by decide) (hts _ wm_414) (fun _ h9 => h9) rfl dX5_recover_37 ?_
        refine lv_iadd hx hb dX5_recover_40 ?_
        refine f_top (y := nI (wx gD n k + (pas gD (wk gD n k)))) (nI_add _ _) ?_
        refine lv_iconst (v := nI 1) hx hb dX5_recover_41 (by decide) ?_
        refine lv_iadd hx hb dX5_recover_42 ?_
        refine f_top (y := nI (wx gD n k + (pas gD (wk gD n k)) + 1)) (nI_add _ _) ?_
        refine f_top (y := nI (wx gD n (k + 1))) (by rw [wx_t hw]; exact congrArg nI (by omega)) ?_
        refine lv_istore_n (lv' := [(2, .int (nI (wx gD n (k + 1)))), (0, .ref mo), (1, .int (nI (wk gD n k))), (3, .int (lastV (wk gD n k)))]) hx hb dX5_recover_43 rfl hl (by decide) rfl (fun ls hl2 => ?_)
        replace hl := hl2; clear hl2
        refine lv_iload_n hx hb dX5_recover_44 rfl (lv_at hl 2 rfl) ?_
        refine lv_iconst (v := nI 2) hx hb dX5_recover_45 (by decide) ?_
        refine lv_iadd hx hb dX5_recover_46 ?_
        refine f_top (y := nI (wk gD n k + 2)) (nI_add _ _) ?_
        refine lv_aload_n hx hb dX5_recover_47 rfl (lv_at hl 1 rfl) ?_
        refine va_get (D := G.1) (ci := 5) (v := .int (nI ((gD ((wk gD n k) + 1)).toNat))) (C := RX5) (T := TX5) (N := 30) hx hb hts in_wsX50 hown hK hP 0 rfl rfl 19 (by decide) (hts _ wm_413) (fun _ h9 => h9) rfl dX5_recover_48 ?_
        refine lv_iadd hx hb dX5_recover_51 ?_
        refine f_top (y := nI (wk gD n k + 2 + ((gD ((wk gD n k) + 1)).toNat))) (nI_add _ _) ?_
        refine f_top (y := lastV (wk gD n (k + 1))) (by rw [wk_t hw]; unfold lastV; rw [if_neg (by omega)]; exact congrArg nI (by omega)) ?_
        refine lv_istore_n (lv' := [(3, .int (lastV (wk gD n (k + 1)))), (2, .int (nI (wx gD n (k + 1)))), (0, .ref mo), (1, .int (nI (wk gD n k)))]) hx hb dX5_recover_52 rfl hl (by decide) rfl (fun ls hl2 => ?_)
        replace hl := hl2; clear hl2
        refine lv_iload_n hx hb dX5_recover_53 rfl (lv_at hl 3 rfl) ?_
        refine lv_bipush (v := nI 10) hx hb dX5_recover_54 (by decide) ?_
        refine lv_iadd hx hb dX5_recover_56 ?_
        refine f_top (y := nI (wk gD n k + 10)) (nI_add _ _) ?_
        refine lv_aload_n hx hb dX5_recover_57 rfl (lv_at hl 2 rfl) ?_
        refine va_get (D := G.1) (ci := 5) (v := .int (nI ((gD ((wk gD n k) + 1)).toNat))) (C := RX5) (T := TX5) (N := 30) hx hb hts in_wsX50 hown hK hP 0 rfl rfl 19 (by decide) (hts _ wm_413) (fun _ h9 => h9) rfl dX5_recover_58 ?_
        refine lv_iadd hx hb dX5_recover_61 ?_
        refine f_top (y := nI (wk gD n k + 10 + ((gD ((wk gD n k) + 1)).toNat))) (nI_add _ _) ?_
        refine f_top (y := nI (wk gD n (k + 1))) (by rw [wk_t hw]; exact congrArg nI (by omega)) ?_
        refine lv_istore_n (lv' := [(1, .int (nI (wk gD n (k + 1)))), (3, .int (lastV (wk gD n (k + 1)))), (2, .int (nI (wx gD n (k + 1)))), (0, .ref mo)]) hx hb dX5_recover_62 rfl hl (by decide) rfl (fun ls hl2 => ?_)
        replace hl := hl2; clear hl2
        refine lv_goto (tgt := 27) hx hb dX5_recover_63 (by decide) ?_
        exact ih_27 (k + 1) ((gD (wk gD n k)).toNat) ((gD ((wk gD n k) + 1)).toNat) (pas gD (wk gD n k)) _ _ _ (by omega) (wk_10 hk hw) hP hD hS (lv_sub hl [3, 0, 2, 1] rfl)
      · skip
        refine lv_aload_n hx hb dX5_recover_27 rfl (lv_at hl 0 rfl) ?_
        refine lv_iload_n hx hb dX5_recover_28 rfl (lv_at hl 1 rfl) ?_
        refine fcVI (As := [.int (nI (wk gD n k))]) (rest := []) (wr := []) (ws1 := fun (u : Nat × Nat × Nat) => [(mo, .inr (5, [.int (nI 0), .ref xd, .int (nI n), .int (nI y), .ref xb, .int (nI nb1), .int (nI 0), .int (nI wi), .int cr, .ref xk, .ref xl, .ref xt, .int (nI 0), .ref xw, .ref xs, .ref xg, .ref xy, .ref xe, .int (nI u.1), .int (nI u.2.1), .int (nI u.2.2), .int (nI hr), .int br, .int bp, .int (nI gd), .int (nI gp), .int (nI sl), .ref xc, .ref xf, .ref xn])), (xd, .inl (G.2.1, 1200, .inl (nb gD))), (xb, .inl (G.2.1, 40, .inl (nb gB))), (xk, .inl (G.2.1, 16, .inl (nb gK))), (xl, .inl (G.2.1, 8, .inl (nb gL))), (xt, .inl (G.2.1, 192, .inl (nb gT))), (xw, .inl (G.2.1, 64, .inl gW)), (xs, .inl (G.2.1, 16, .inl gS)), (xg, .inl (G.2.1, 32, .inl (nb gG))), (xy, .inl (G.2.1, 16, .inl (nb gY))), (xe, .inl (G.2.1, 8, .inl (nb gE))), (xc, .inl (G.2.1, 1200, .inl (nb gC))), (xf, .inl (G.2.1, 128, .inl (nn gF))), (xn, .inl (G.2.1, 128, .inl (nn gN)))]) ⟨hx, hb, hml, hown, hts⟩ hK hE hP hD hS hA hl.1 (kX5_look_n l G mo xd xb xk xl xt xw xs xg xy xe xc xf xn 0 n y nb1 0 wi cr kd1 ln1 ps1 hr br bp gd gp sl gD gB gK gL gT gW gS gG gY gE gC gF gN (wk gD n k) (by omega) (by omega) hw) (cwV 1 hts (gdV wm_416 wm_417 wm_418 wm_267 wm_411) rfl rfl rfl (by decide +kernel) ⟨Nat.le_of_ble_eq_true rfl, Nat.le_of_ble_eq_true rfl⟩) 0 rfl rfl rfl rfl (Nat.le_of_ble_eq_true rfl) dX5_recover_29 ⟨Nat.le_of_ble_eq_true rfl, Nat.le_of_ble_eq_true rfl⟩ [0, 1, 2, 3, 4, 5, 6, 7, 8, 9, 10, 11, 12, 13] [] [0, 1, 2, 3, 4, 5, 6, 7, 8, 9, 10, 11, 12, 13] rfl rfl rfl rfl (by decide) rfl (fun _ => rfl) (fun r_29_1 u_29_1 H_29_1 locs_29_1 hw_29_1 hP_29_1 hD_29_1 hS_29_1 => ?_)
        obtain ⟨jkd9_1, jln9_2, jps9_3⟩ := u_29_1
        obtain rfl := hw_29_1
        replace hP : va_P G.1 vwCl [(mo, .inr (5, [.int (nI 0), .ref xd, .int (nI n), .int (nI y), .ref xb, .int (nI nb1), .int (nI 0), .int (nI wi), .int cr, .ref xk, .ref xl, .ref xt, .int (nI 0), .ref xw, .ref xs, .ref xg, .ref xy, .ref xe, .int (nI jkd9_1), .int (nI jln9_2), .int (nI jps9_3), .int (nI hr), .int br, .int bp, .int (nI gd), .int (nI gp), .int (nI sl), .ref xc, .ref xf, .ref xn])), (xd, .inl (G.2.1, 1200, .inl (nb gD))), (xb, .inl (G.2.1, 40, .inl (nb gB))), (xk, .inl (G.2.1, 16, .inl (nb gK))), (xl, .inl (G.2.1, 8, .inl (nb gL))), (xt, .inl (G.2.1, 192, .inl (nb gT))), (xw, .inl (G.2.1, 64, .inl gW)), (xs, .inl (G.2.1, 16, .inl gS)), (xg, .inl (G.2.1, 32, .inl (nb gG))), (xy, .inl (G.2.1, 16, .inl (nb gY))), (xe, .inl (G.2.1, 8, .inl (nb gE))), (xc, .inl (G.2.1, 1200, .inl (nb gC))), (xf, .inl (G.2.1, 128, .inl (nn gF))), (xn, .inl (G.2.1, 128, .inl (nn gN)))] H_29_1 := hP_29_1
        replace hD : va_D A [(mo, .inr (5, [.int (nI 0), .ref xd, .int (nI n), .int (nI y), .ref xb, .int (nI nb1), .int (nI 0), .int (nI wi), .int cr, .ref xk, .ref xl, .ref xt, .int (nI 0), .ref xw, .ref xs, .ref xg, .ref xy, .ref xe, .int (nI jkd9_1), .int (nI jln9_2), .int (nI jps9_3), .int (nI hr), .int br, .int bp, .int (nI gd), .int (nI gp), .int (nI sl), .ref xc, .ref xf, .ref xn])), (xd, .inl (G.2.1, 1200, .inl (nb gD))), (xb, .inl (G.2.1, 40, .inl (nb gB))), (xk, .inl (G.2.1, 16, .inl (nb gK))), (xl, .inl (G.2.1, 8, .inl (nb gL))), (xt, .inl (G.2.1, 192, .inl (nb gT))), (xw, .inl (G.2.1, 64, .inl gW)), (xs, .inl (G.2.1, 16, .inl gS)), (xg, .inl (G.2.1, 32, .inl (nb gG))), (xy, .inl (G.2.1, 16, .inl (nb gY))), (xe, .inl (G.2.1, 8, .inl (nb gE))), (xc, .inl (G.2.1, 1200, .inl (nb gC))), (xf, .inl (G.2.1, 128, .inl (nn gF))), (xn, .inl (G.2.1, 128, .inl (nn gN)))] := hD_29_1
        replace hS : va_S A sv.heap H_29_1 locs_29_1 := hS_29_1
        clear hP_29_1 hD_29_1 hS_29_1
        refine lv_if_eq (tgt := 66) hx hb dX5_recover_32 (by decide) (fun _ => ?_) (fun c9 => absurd (by decide) c9)
        have e1 := wk_end (g := gD) (n := n) (k := k) (by omega) hw
        have w7 := wk_08 gD n k
        replace hl : lv_has ls 6 [(0, .ref mo), (1, .int (nI (wk gD n 120))), (2, .int (nI (wx gD n k))), (3, .int (lastV (wk gD n k)))] := by have e9 : (.int (nI (wk gD n k)) : Value) = .int (nI (wk gD n 120)) := (congrArg (fun z => Value.int (nI z)) e1.1.symm); rw [e9] at hl; exact hl
        replace hl : lv_has ls 6 [(0, .ref mo), (1, .int (nI (wk gD n 120))), (2, .int (nI (wx gD n 120))), (3, .int (lastV (wk gD n k)))] := by have e9 : (.int (nI (wx gD n k)) : Value) = .int (nI (wx gD n 120)) := (congrArg (fun z => Value.int (nI z)) e1.2.symm); rw [e9] at hl; exact hl
        replace hl : lv_has ls 6 [(0, .ref mo), (1, .int (nI (wk gD n 120))), (2, .int (nI (wx gD n 120))), (3, .int (lastV (wk gD n 120)))] := by have e9 : (.int (lastV (wk gD n k)) : Value) = .int (lastV (wk gD n 120)) := (congrArg (fun z => Value.int (lastV z)) e1.1.symm); rw [e9] at hl; exact hl
        rw [← e1.1] at w1 w7
        rw [← e1.2] at w2
        refine lv_iload_n hx hb dX5_recover_66 rfl (lv_at hl 2 rfl) ?_
        refine lv_aload_n hx hb dX5_recover_67 rfl (lv_at hl 0 rfl) ?_
        refine va_get (D := G.1) (ci := 5) (v := .int (nI wi)) (C := RX5) (T := TX5) (N := 30) hx hb hts in_wsX50 hown hK hP 0 rfl rfl 7 (by decide) (hts _ wm_378) (fun _ h9 => h9) rfl dX5_recover_68 ?_
        refine f_icmp_ge (tgt := 83) (by omega) (by omega) hx hb dX5_recover_71 (by decide) (fun c_71 => ?_) (fun c_71 => ?_)
        · skip
          refine lv_iconst (v := nI 0) hx hb dX5_recover_83 (by decide) ?_
          refine lv_istore (lv' := [(4, .int (nI 0)), (0, .ref mo), (1, .int (nI (wk gD n 120))), (2, .int (nI (wx gD n 120))), (3, .int (lastV (wk gD n 120)))]) hx hb dX5_recover_84 hl (by decide) rfl (fun ls hl2 => ?_)
          replace hl := hl2; clear hl2
          refine lv_iload hx hb dX5_recover_86 (lv_at hl 0 rfl) ?_
          refine lv_if_le (tgt := 104) hx hb dX5_recover_88 (by decide) (fun _ => ?_) (fun c9 => absurd (by decide) c9)
          refine lv_aload_n hx hb dX5_recover_104 rfl (lv_at hl 1 rfl) ?_
          refine lv_iload_n hx hb dX5_recover_105 rfl (lv_at hl 2 rfl) ?_
          refine va_put (D := G.1) (ci := 5) (v := .int (nI (wk gD n 120))) (ty := .int) (C := RX5) (T := TX5) (N := 30) hx hb hts in_wsX50 tyX5 tyX5_ok nmX5 hown hK hP hD hS 0 rfl rfl 2 (by decide) (hts _ wm_376) (fun _ h9 => h9) rfl (by decide +kernel) rfl rfl (Nat.le_of_ble_eq_true rfl) dX5_recover_106 (fun H_106 locs_106 hP_106 hD_106 hS_106 => ?_)
          replace hP : va_P G.1 vwCl [(mo, .inr (5, [.int (nI 0), .ref xd, .int (nI (wk gD n 120)), .int (nI y), .ref xb, .int (nI nb1), .int (nI 0), .int (nI wi), .int cr, .ref xk, .ref xl, .ref xt, .int (nI 0), .ref xw, .ref xs, .ref xg, .ref xy, .ref xe, .int (nI jkd9_1), .int (nI jln9_2), .int (nI jps9_3), .int (nI hr), .int br, .int bp, .int (nI gd), .int (nI gp), .int (nI sl), .ref xc, .ref xf, .ref xn])), (xd, .inl (G.2.1, 1200, .inl (nb gD))), (xb, .inl (G.2.1, 40, .inl (nb gB))), (xk, .inl (G.2.1, 16, .inl (nb gK))), (xl, .inl (G.2.1, 8, .inl (nb gL))), (xt, .inl (G.2.1, 192, .inl (nb gT))), (xw, .inl (G.2.1, 64, .inl gW)), (xs, .inl (G.2.1, 16, .inl gS)), (xg, .inl (G.2.1, 32, .inl (nb gG))), (xy, .inl (G.2.1, 16, .inl (nb gY))), (xe, .inl (G.2.1, 8, .inl (nb gE))), (xc, .inl (G.2.1, 1200, .inl (nb gC))), (xf, .inl (G.2.1, 128, .inl (nn gF))), (xn, .inl (G.2.1, 128, .inl (nn gN)))] H_106 := hP_106
          replace hD : va_D A [(mo, .inr (5, [.int (nI 0), .ref xd, .int (nI (wk gD n 120)), .int (nI y), .ref xb, .int (nI nb1), .int (nI 0), .int (nI wi), .int cr, .ref xk, .ref xl, .ref xt, .int (nI 0), .ref xw, .ref xs, .ref xg, .ref xy, .ref xe, .int (nI jkd9_1), .int (nI jln9_2), .int (nI jps9_3), .int (nI hr), .int br, .int bp, .int (nI gd), .int (nI gp), .int (nI sl), .ref xc, .ref xf, .ref xn])), (xd, .inl (G.2.1, 1200, .inl (nb gD))), (xb, .inl (G.2.1, 40, .inl (nb gB))), (xk, .inl (G.2.1, 16, .inl (nb gK))), (xl, .inl (G.2.1, 8, .inl (nb gL))), (xt, .inl (G.2.1, 192, .inl (nb gT))), (xw, .inl (G.2.1, 64, .inl gW)), (xs, .inl (G.2.1, 16, .inl gS)), (xg, .inl (G.2.1, 32, .inl (nb gG))), (xy, .inl (G.2.1, 16, .inl (nb gY))), (xe, .inl (G.2.1, 8, .inl (nb gE))), (xc, .inl (G.2.1, 1200, .inl (nb gC))), (xf, .inl (G.2.1, 128, .inl (nn gF))), (xn, .inl (G.2.1, 128, .inl (nn gN)))] := hD_106
          replace hS : va_S A sv.heap H_106 locs_106 := hS_106
          clear hP_106 hD_106 hS_106
          refine lv_aload_n hx hb dX5_recover_109 rfl (lv_at hl 1 rfl) ?_
          refine lv_iload_n hx hb dX5_recover_110 rfl (lv_at hl 2 rfl) ?_
          refine va_put (D := G.1) (ci := 5) (v := .int (nI (wk gD n 120))) (ty := .int) (C := RX5) (T := TX5) (N := 30) hx hb hts in_wsX50 tyX5 tyX5_ok nmX5 hown hK hP hD hS 0 rfl rfl 3 (by decide) (hts _ wm_377) (fun _ h9 => h9) rfl (by decide +kernel) rfl rfl (Nat.le_of_ble_eq_true rfl) dX5_recover_111 (fun H_111 locs_111 hP_111 hD_111 hS_111 => ?_)
          replace hP : va_P G.1 vwCl [(mo, .inr (5, [.int (nI 0), .ref xd, .int (nI (wk gD n 120)), .int (nI (wk gD n 120)), .ref xb, .int (nI nb1), .int (nI 0), .int (nI wi), .int cr, .ref xk, .ref xl, .ref xt, .int (nI 0), .ref xw, .ref xs, .ref xg, .ref xy, .ref xe, .int (nI jkd9_1), .int (nI jln9_2), .int (nI jps9_3), .int (nI hr), .int br, .int bp, .int (nI gd), .int (nI gp), .int (nI sl), .ref xc, .ref xf, .ref xn])), (xd, .inl (G.2.1, 1200, .inl (nb gD))), (xb, .inl (G.2.1, 40, .inl (nb gB))), (xk, .inl (G.2.1, 16, .inl (nb gK))), (xl, .inl (G.2.1, 8, .inl (nb gL))), (xt, .inl (G.2.1, 192, .inl (nb gT))), (xw, .inl (G.2.1, 64, .inl gW)), (xs, .inl (G.2.1, 16, .inl gS)), (xg, .inl (G.2.1, 32, .inl (nb gG))), (xy, .inl (G.2.1, 16, .inl (nb gY))), (xe, .inl (G.2.1, 8, .inl (nb gE))), (xc, .inl (G.2.1, 1200, .inl (nb gC))), (xf, .inl (G.2.1, 128, .inl (nn gF))), (xn, .inl (G.2.1, 128, .inl (nn gN)))] H_111 := hP_111
          replace hD : va_D A [(mo, .inr (5, [.int (nI 0), .ref xd, .int (nI (wk gD n 120)), .int (nI (wk gD n 120)), .ref xb, .int (nI nb1), .int (nI 0), .int (nI wi), .int cr, .ref xk, .ref xl, .ref xt, .int (nI 0), .ref xw, .ref xs, .ref xg, .ref xy, .ref xe, .int (nI jkd9_1), .int (nI jln9_2), .int (nI jps9_3), .int (nI hr), .int br, .int bp, .int (nI gd), .int (nI gp), .int (nI sl), .ref xc, .ref xf, .ref xn])), (xd, .inl (G.2.1, 1200, .inl (nb gD))), (xb, .inl (G.2.1, 40, .inl (nb gB))), (xk, .inl (G.2.1, 16, .inl (nb gK))), (xl, .inl (G.2.1, 8, .inl (nb gL))), (xt, .inl (G.2.1, 192, .inl (nb gT))), (xw, .inl (G.2.1, 64, .inl gW)), (xs, .inl (G.2.1, 16, .inl gS)), (xg, .inl (G.2.1, 32, .inl (nb gG))), (xy, .inl (G.2.1, 16, .inl (nb gY))), (xe, .inl (G.2.1, 8, .inl (nb gE))), (xc, .inl (G.2.1, 1200, .inl (nb gC))), (xf, .inl (G.2.1, 128, .inl (nn gF))), (xn, .inl (G.2.1, 128, .inl (nn gN)))] := hD_111
          replace hS : va_S A sv.heap H_111 locs_111 := hS_111
          clear hP_111 hD_111 hS_111
          refine lv_aload_n hx hb dX5_recover_114 rfl (lv_at hl 1 rfl) ?_
          refine lv_iconst (v := nI 1) hx hb dX5_recover_115 (by decide) ?_
          refine va_put (D := G.1) (ci := 5) (v := .int (nI 1)) (ty := .boolean) (C := RX5) (T := TX5) (N := 30) hx hb hts in_wsX50 tyX5 tyX5_ok nmX5 hown hK hP hD hS 0 rfl rfl 6 (by decide) (hts _ wm_263) (fun _ h9 => h9) rfl (by decide +kernel) rfl rfl (Nat.le_of_ble_eq_true rfl) dX5_recover_116 (fun H_116 locs_116 hP_116 hD_116 hS_116 => ?_)
          replace hP : va_P G.1 vwCl [(mo, .inr (5, [.int (nI 0), .ref xd, .int (nI (wk gD n 120)), .int (nI (wk gD n 120)), .ref xb, .int (nI nb1), .int (nI 1), .int (nI wi), .int cr, .ref xk, .ref xl, .ref xt, .int (nI 0), .ref xw, .ref xs, .ref xg, .ref xy, .ref xe, .int (nI jkd9_1), .int (nI jln9_2), .int (nI jps9_3), .int (nI hr), .int br, .int bp, .int (nI gd), .int (nI gp), .int (nI sl), .ref xc, .ref xf, .ref xn])), (xd, .inl (G.2.1, 1200, .inl (nb gD))), (xb, .inl (G.2.1, 40, .inl (nb gB))), (xk, .inl (G.2.1, 16, .inl (nb gK))), (xl, .inl (G.2.1, 8, .inl (nb gL))), (xt, .inl (G.2.1, 192, .inl (nb gT))), (xw, .inl (G.2.1, 64, .inl gW)), (xs, .inl (G.2.1, 16, .inl gS)), (xg, .inl (G.2.1, 32, .inl (nb gG))), (xy, .inl (G.2.1, 16, .inl (nb gY))), (xe, .inl (G.2.1, 8, .inl (nb gE))), (xc, .inl (G.2.1, 1200, .inl (nb gC))), (xf, .inl (G.2.1, 128, .inl (nn gF))), (xn, .inl (G.2.1, 128, .inl (nn gN)))] H_116 := hP_116
          replace hD : va_D A [(mo, .inr (5, [.int (nI 0), .ref xd, .int (nI (wk gD n 120)), .int (nI (wk gD n 120)), .ref xb, .int (nI nb1), .int (nI 1), .int (nI wi), .int cr, .ref xk, .ref xl, .ref xt, .int (nI 0), .ref xw, .ref xs, .ref xg, .ref xy, .ref xe, .int (nI jkd9_1), .int (nI jln9_2), .int (nI jps9_3), .int (nI hr), .int br, .int bp, .int (nI gd), .int (nI gp), .int (nI sl), .ref xc, .ref xf, .ref xn])), (xd, .inl (G.2.1, 1200, .inl (nb gD))), (xb, .inl (G.2.1, 40, .inl (nb gB))), (xk, .inl (G.2.1, 16, .inl (nb gK))), (xl, .inl (G.2.1, 8, .inl (nb gL))), (xt, .inl (G.2.1, 192, .inl (nb gT))), (xw, .inl (G.2.1, 64, .inl gW)), (xs, .inl (G.2.1, 16, .inl gS)), (xg, .inl (G.2.1, 32, .inl (nb gG))), (xy, .inl (G.2.1, 16, .inl (nb gY))), (xe, .inl (G.2.1, 8, .inl (nb gE))), (xc, .inl (G.2.1, 1200, .inl (nb gC))), (xf, .inl (G.2.1, 128, .inl (nn gF))), (xn, .inl (G.2.1, 128, .inl (nn gN)))] := hD_116
          replace hS : va_S A sv.heap H_116 locs_116 := hS_116
          clear hP_116 hD_116 hS_116
          refine lv_iconst (v := nI 0) hx hb dX5_recover_119 (by decide) ?_
          refine lv_istore (lv' := [(5, .int (nI 0)), (4, .int (nI 0)), (0, .ref mo), (1, .int (nI (wk gD n 120))), (2, .int (nI (wx gD n 120))), (3, .int (lastV (wk gD n 120)))]) hx hb dX5_recover_120 hl (by decide) rfl (fun ls hl2 => ?_)
          replace hl := hl2; clear hl2
          rcases w7 with ha0 | ha0
          · skip
            replace hl : lv_has ls 6 [(5, .int (nI 0)), (4, .int (nI 0)), (0, .ref mo), (1, .int (nI (wk gD n 120))), (2, .int (nI (wx gD n 120))), (3, .int (-1))] := by have e9 : (.int (lastV (wk gD n 120)) : Value) = .int (-1) := (by rw [ha0]; rfl); rw [e9] at hl; exact hl
            have L_122 : ∀ (n9 : Nat) (k9 : Nat) (L1 : Nat → UInt8) (H : Heap) (locs : List Loc) (ls : Array Slot), (9 - k9) < n9 → (k9 ≤ 8) → (∀ j, j < k9 → L1 j = tgB gD (wk gD n 120) j) → va_P G.1 vwCl [(mo, .inr (5, [.int (nI 0), .ref xd, .int (nI (wk gD n 120)), .int (nI (wk gD n 120)), .ref xb, .int (nI nb1), .int (nI 1), .int (nI wi), .int cr, .ref xk, .ref xl, .ref xt, .int (nI 0), .ref xw, .ref xs, .ref xg, .ref xy, .ref xe, .int (nI jkd9_1), .int (nI jln9_2), .int (nI jps9_3), .int (nI hr), .int br, .int bp, .int (nI gd), .int (nI gp), .int (nI sl), .ref xc, .ref xf, .ref xn])), (xd, .inl (G.2.1, 1200, .inl (nb gD))), (xb, .inl (G.2.1, 40, .inl (nb gB))), (xk, .inl (G.2.1, 16, .inl (nb gK))), (xl, .inl (G.2.1, 8, .inl (nb L1))), (xt, .inl (G.2.1, 192, .inl (nb gT))), (xw, .inl (G.2.1, 64, .inl gW)), (xs, .inl (G.2.1, 16, .inl gS)), (xg, .inl (G.2.1, 32, .inl (nb gG))), (xy, .inl (G.2.1, 16, .inl (nb gY))), (xe, .inl (G.2.1, 8, .inl (nb gE))), (xc, .inl (G.2.1, 1200, .inl (nb gC))), (xf, .inl (G.2.1, 128, .inl (nn gF))), (xn, .inl (G.2.1, 128, .inl (nn gN)))] H → va_D A [(mo, .inr (5, [.int (nI 0), .ref xd, .int (nI (wk gD n 120)), .int (nI (wk gD n 120)), .ref xb, .int (nI nb1), .int (nI 1), .int (nI wi), .int cr, .ref xk, .ref xl, .ref xt, .int (nI 0), .ref xw, .ref xs, .ref xg, .ref xy, .ref xe, .int (nI jkd9_1), .int (nI jln9_2), .int (nI jps9_3), .int (nI hr), .int br, .int bp, .int (nI gd), .int (nI gp), .int (nI sl), .ref xc, .ref xf, .ref xn])), (xd, .inl (G.2.1, 1200, .inl (nb gD))), (xb, .inl (G.2.1, 40, .inl (nb gB))), (xk, .inl (G.2.1, 16, .inl (nb gK))), (xl, .inl (G.2.1, 8, .inl (nb L1))), (xt, .inl (G.2.1, 192, .inl (nb gT))), (xw, .inl (G.2.1, 64, .inl gW)), (xs, .inl (G.2.1, 16, .inl gS)), (xg, .inl (G.2.1, 32, .inl (nb gG))), (xy, .inl (G.2.1, 16, .inl (nb gY))), (xe, .inl (G.2.1, 8, .inl (nb gE))), (xc, .inl (G.2.1, 1200, .inl (nb gC))), (xf, .inl (G.2.1, 128, .inl (nn gF))), (xn, .inl (G.2.1, 128, .inl (nn gN)))] → va_S A sv.heap H locs → lv_has ls 6 [(0, .ref mo), (1, .int (nI (wk gD n 120))), (3, .int (-1)), (4, .int (nI 0)), (5, .int (nI k9))] → W prg l env ({ frames := 5, cells := 0, slots := 0, locals := 117 } : Room) sv mid args below meth cd H locs 0 0 Q (F0 mid 122 ls []) := by
              intro n9
              induction n9 with
              | zero => intro k9 L1 H locs ls hmu; exact absurd hmu (Nat.not_lt_zero _)
              | succ n9 ih_122 =>
                intro k9 L1 H locs ls hmu_122 hk9 hL hP hD hS hl
                refine lv_iload hx hb dX5_recover_122 (lv_at hl 4 rfl) ?_
                refine lv_bipush (v := nI 8) hx hb dX5_recover_124 (by decide) ?_
                refine f_icmp_ge (tgt := 159) (by omega) (by omega) hx hb dX5_recover_126 (by decide) (fun c_126 => ?_) (fun c_126 => ?_)
                · skip
                  obtain rfl : k9 = 8 := by omega
                  replace hP : va_P G.1 vwCl [(mo, .inr (5, [.int (nI 0), .ref xd, .int (nI (wk gD n 120)), .int (nI (wk gD n 120)), .ref xb, .int (nI nb1), .int (nI 1), .int (nI wi), .int cr, .ref xk, .ref xl, .ref xt, .int (nI 0), .ref xw, .ref xs, .ref xg, .ref xy, .ref xe, .int (nI jkd9_1), .int (nI jln9_2), .int (nI jps9_3), .int (nI hr), .int br, .int bp, .int (nI gd), .int (nI gp), .int (nI sl), .ref xc, .ref xf, .ref xn])), (xd, .inl (G.2.1, 1200, .inl (nb gD))), (xb, .inl (G.2.1, 40, .inl (nb gB))), (xk, .inl (G.2.1, 16, .inl (nb gK))), (xl, .inl (G.2.1, 8, .inl (nb (tgB gD (wk gD n 120))))), (xt, .inl (G.2.1, 192, .inl (nb gT))), (xw, .inl (G.2.1, 64, .inl gW)), (xs, .inl (G.2.1, 16, .inl gS)), (xg, .inl (G.2.1, 32, .inl (nb gG))), (xy, .inl (G.2.1, 16, .inl (nb gY))), (xe, .inl (G.2.1, 8, .inl (nb gE))), (xc, .inl (G.2.1, 1200, .inl (nb gC))), (xf, .inl (G.2.1, 128, .inl (nn gF))), (xn, .inl (G.2.1, 128, .inl (nn gN)))] H := f_row hP 4 rfl (nb (tgB gD (wk gD n 120))) (fun j hj => congrArg bI (hL j hj))
                  replace hD : va_D A [(mo, .inr (5, [.int (nI 0), .ref xd, .int (nI (wk gD n 120)), .int (nI (wk gD n 120)), .ref xb, .int (nI nb1), .int (nI 1), .int (nI wi), .int cr, .ref xk, .ref xl, .ref xt, .int (nI 0), .ref xw, .ref xs, .ref xg, .ref xy, .ref xe, .int (nI jkd9_1), .int (nI jln9_2), .int (nI jps9_3), .int (nI hr), .int br, .int bp, .int (nI gd), .int (nI gp), .int (nI sl), .ref xc, .ref xf, .ref xn])), (xd, .inl (G.2.1, 1200, .inl (nb gD))), (xb, .inl (G.2.1, 40, .inl (nb gB))), (xk, .inl (G.2.1, 16, .inl (nb gK))), (xl, .inl (G.2.1, 8, .inl (nb (tgB gD (wk gD n 120))))), (xt, .inl (G.2.1, 192, .inl (nb gT))), (xw, .inl (G.2.1, 64, .inl gW)), (xs, .inl (G.2.1, 16, .inl gS)), (xg, .inl (G.2.1, 32, .inl (nb gG))), (xy, .inl (G.2.1, 16, .inl (nb gY))), (xe, .inl (G.2.1, 8, .inl (nb gE))), (xc, .inl (G.2.1, 1200, .inl (nb gC))), (xf, .inl (G.2.1, 128, .inl (nn gF))), (xn, .inl (G.2.1, 128, .inl (nn gN)))] := f_rowD hD 4 rfl
                  refine lv_iload hx hb dX5_recover_159 (lv_at hl 3 rfl) ?_
                  refine lv_if_le (tgt := 227) hx hb dX5_recover_161 (by decide) (fun _ => ?_) (fun c9 => absurd (by decide) c9)
                  refine lv_iload hx hb dX5_recover_227 (lv_at hl 3 rfl) ?_
                  exact hend (nI 0) (jkd9_1, jln9_2, jps9_3) _ _ _ _ rfl rfl hP hD hS dX5_recover_229
                · skip
                  refine lv_aload_n hx hb dX5_recover_129 rfl (lv_at hl 0 rfl) ?_
                  refine va_get (D := G.1) (ci := 5) (v := .ref xl) (C := RX5) (T := TX5) (N := 30) hx hb hts in_wsX50 hown hK hP 0 rfl rfl 10 (by decide) (hts _ wm_253) (fun _ h9 => h9) rfl dX5_recover_130 ?_
                  refine lv_iload hx hb dX5_recover_133 (lv_at hl 4 rfl) ?_
                  refine lv_iload_n hx hb dX5_recover_135 rfl (lv_at hl 2 rfl) ?_
                  refine lv_if_ge (tgt := 143) hx hb dX5_recover_136 (by decide) (fun c9 => absurd c9 (by decide)) (fun _ => ?_)
                  refine lv_iconst (v := nI 0) hx hb dX5_recover_139 (by decide) ?_
                  refine lv_goto (tgt := 152) hx hb dX5_recover_140 (by decide) ?_
                  refine f_top (y := bI (tgB gD (wk gD n 120) k9)) (by unfold tgB; rw [if_pos ha0]; rfl) ?_
                  refine f_iast hx hb hK hP hD hS 4 rfl (by omega) (by decide) dX5_recover_152 (fun H_152 locs_152 hP_152 hD_152 hS_152 => ?_)
                  replace hP_152 : va_P G.1 vwCl [(mo, .inr (5, [.int (nI 0), .ref xd, .int (nI (wk gD n 120)), .int (nI (wk gD n 120)), .ref xb, .int (nI nb1), .int (nI 1), .int (nI wi), .int cr, .ref xk, .ref xl, .ref xt, .int (nI 0), .ref xw, .ref xs, .ref xg, .ref xy, .ref xe, .int (nI jkd9_1), .int (nI jln9_2), .int (nI jps9_3), .int (nI hr), .int br, .int bp, .int (nI gd), .int (nI gp), .int (nI sl), .ref xc, .ref xf, .ref xn])), (xd, .inl (G.2.1, 1200, .inl (nb gD))), (xb, .inl (G.2.1, 40, .inl (nb gB))), (xk, .inl (G.2.1, 16, .inl (nb gK))), (xl, .inl (G.2.1, 8, .inl (nb (upb L1 k9 (tgB gD (wk gD n 120) k9))))), (xt, .inl (G.2.1, 192, .inl (nb gT))), (xw, .inl (G.2.1, 64, .inl gW)), (xs, .inl (G.2.1, 16, .inl gS)), (xg, .inl (G.2.1, 32, .inl (nb gG))), (xy, .inl (G.2.1, 16, .inl (nb gY))), (xe, .inl (G.2.1, 8, .inl (nb gE))), (xc, .inl (G.2.1, 1200, .inl (nb gC))), (xf, .inl (G.2.1, 128, .inl (nn gF))), (xn, .inl (G.2.1, 128, .inl (nn gN)))] H_152 := by have h9 := hP_152; rw [upd_nb] at h9; exact h9
                  replace hD_152 : va_D A [(mo, .inr (5, [.int (nI 0), .ref xd, .int (nI (wk gD n 120)), .int (nI (wk gD n 120)), .ref xb, .int (nI nb1), .int (nI 1), .int (nI wi), .int cr, .ref xk, .ref xl, .ref xt, .int (nI 0), .ref xw, .ref xs, .ref xg, .ref xy, .ref xe, .int (nI jkd9_1), .int (nI jln9_2), .int (nI jps9_3), .int (nI hr), .int br, .int bp, .int (nI gd), .int (nI gp), .int (nI sl), .ref xc, .ref xf, .ref xn])), (xd, .inl (G.2.1, 1200, .inl (nb gD))), (xb, .inl (G.2.1, 40, .inl (nb gB))), (xk, .inl (G.2.1, 16, .inl (nb gK))), (xl, .inl (G.2.1, 8, .inl (nb (upb L1 k9 (tgB gD (wk gD n 120) k9))))), (xt, .inl (G.2.1, 192, .inl (nb gT))), (xw, .inl (G.2.1, 64, .inl gW)), (xs, .inl (G.2.1, 16, .inl gS)), (xg, .inl (G.2.1, 32, .inl (nb gG))), (xy, .inl (G.2.1, 16, .inl (nb gY))), (xe, .inl (G.2.1, 8, .inl (nb gE))), (xc, .inl (G.2.1, 1200, .inl (nb gC))), (xf, .inl (G.2.1, 128, .inl (nn gF))), (xn, .inl (G.2.1, 128, .inl (nn gN)))] := hD.set (p := 4) rfl
                  replace hP : va_P G.1 vwCl [(mo, .inr (5, [.int (nI 0), .ref xd, .int (nI (wk gD n 120)), .int (nI (wk gD n 120)), .ref xb, .int (nI nb1), .int (nI 1), .int (nI wi), .int cr, .ref xk, .ref xl, .ref xt, .int (nI 0), .ref xw, .ref xs, .ref xg, .ref xy, .ref xe, .int (nI jkd9_1), .int (nI jln9_2), .int (nI jps9_3), .int (nI hr), .int br, .int bp, .int (nI gd), .int (nI gp), .int (nI sl), .ref xc, .ref xf, .ref xn])), (xd, .inl (G.2.1, 1200, .inl (nb gD))), (xb, .inl (G.2.1, 40, .inl (nb gB))), (xk, .inl (G.2.1, 16, .inl (nb gK))), (xl, .inl (G.2.1, 8, .inl (nb (upb L1 k9 (tgB gD (wk gD n 120) k9))))), (xt, .inl (G.2.1, 192, .inl (nb gT))), (xw, .inl (G.2.1, 64, .inl gW)), (xs, .inl (G.2.1, 16, .inl gS)), (xg, .inl (G.2.1, 32, .inl (nb gG))), (xy, .inl (G.2.1, 16, .inl (nb gY))), (xe, .inl (G.2.1, 8, .inl (nb gE))), (xc, .inl (G.2.1, 1200, .inl (nb gC))), (xf, .inl (G.2.1, 128, .inl (nn gF))), (xn, .inl (G.2.1, 128, .inl (nn gN)))] H_152 := hP_152
                  replace hD : va_D A [(mo, .inr (5, [.int (nI 0), .ref xd, .int (nI (wk gD n 120)), .int (nI (wk gD n 120)), .ref xb, .int (nI nb1), .int (nI 1), .int (nI wi), .int cr, .ref xk, .ref xl, .ref xt, .int (nI 0), .ref xw, .ref xs, .ref xg, .ref xy, .ref xe, .int (nI jkd9_1), .int (nI jln9_2), .int (nI jps9_3), .int (nI hr), .int br, .int bp, .int (nI gd), .int (nI gp), .int (nI sl), .ref xc, .ref xf, .ref xn])), (xd, .inl (G.2.1, 1200, .inl (nb gD))), (xb, .inl (G.2.1, 40, .inl (nb gB))), (xk, .inl (G.2.1, 16, .inl (nb gK))), (xl, .inl (G.2.1, 8, .inl (nb (upb L1 k9 (tgB gD (wk gD n 120) k9))))), (xt, .inl (G.2.1, 192, .inl (nb gT))), (xw, .inl (G.2.1, 64, .inl gW)), (xs, .inl (G.2.1, 16, .inl gS)), (xg, .inl (G.2.1, 32, .inl (nb gG))), (xy, .inl (G.2.1, 16, .inl (nb gY))), (xe, .inl (G.2.1, 8, .inl (nb gE))), (xc, .inl (G.2.1, 1200, .inl (nb gC))), (xf, .inl (G.2.1, 128, .inl (nn gF))), (xn, .inl (G.2.1, 128, .inl (nn gN)))] := hD_152
                  replace hS : va_S A sv.heap H_152 locs_152 := hS_152
                  clear hP_152 hD_152 hS_152
                  refine lv_iinc (v := nI (k9 + 1)) (lv' := [(5, .int (nI (k9 + 1))), (0, .ref mo), (1, .int (nI (wk gD n 120))), (3, .int (-1)), (4, .int (nI 0))]) hx hb dX5_recover_153 hl (k := 4) rfl (f_inc1 _) (by decide) rfl (fun ls hl2 => ?_)
                  replace hl := hl2; clear hl2
                  refine lv_goto (tgt := 122) hx hb dX5_recover_156 (by decide) ?_
                  exact ih_122 (k9 + 1) (upb L1 k9 (tgB gD (wk gD n 120) k9)) _ _ _ (by omega) (by omega) (upb_ext hL) hP hD hS (lv_sub hl [1, 2, 3, 4, 0] rfl)
            exact L_122 ((9 - 0) + 1) 0 gL _ _ _ (Nat.lt_succ_self _) (by omega) ext_0 hP hD hS (lv_sub hl [2, 3, 5, 1, 0] rfl)
          · skip
            replace hl : lv_has ls 6 [(5, .int (nI 0)), (4, .int (nI 0)), (0, .ref mo), (1, .int (nI (wk gD n 120))), (2, .int (nI (wx gD n 120))), (3, .int (nI (wk gD n 120 - 8)))] := by have e9 : (.int (lastV (wk gD n 120)) : Value) = .int (nI (wk gD n 120 - 8)) := (by unfold lastV; rw [if_neg (by omega)]); rw [e9] at hl; exact hl
            have L_122_1 : ∀ (n9 : Nat) (k9 : Nat) (L1 : Nat → UInt8) (H : Heap) (locs : List Loc) (ls : Array Slot), (9 - k9) < n9 → (k9 ≤ 8) → (∀ j, j < k9 → L1 j = tgB gD (wk gD n 120) j) → va_P G.1 vwCl [(mo, .inr (5, [.int (nI 0), .ref xd, .int (nI (wk gD n 120)), .int (nI (wk gD n 120)), .ref xb, .int (nI nb1), .int (nI 1), .int (nI wi), .int cr, .ref xk, .ref xl, .ref xt, .int (nI 0), .ref xw, .ref xs, .ref xg, .ref xy, .ref xe, .int (nI jkd9_1), .int (nI jln9_2), .int (nI jps9_3), .int (nI hr), .int br, .int bp, .int (nI gd), .int (nI gp), .int (nI sl), .ref xc, .ref xf, .ref xn])), (xd, .inl (G.2.1, 1200, .inl (nb gD))), (xb, .inl (G.2.1, 40, .inl (nb gB))), (xk, .inl (G.2.1, 16, .inl (nb gK))), (xl, .inl (G.2.1, 8, .inl (nb L1))), (xt, .inl (G.2.1, 192, .inl (nb gT))), (xw, .inl (G.2.1, 64, .inl gW)), (xs, .inl (G.2.1, 16, .inl gS)), (xg, .inl (G.2.1, 32, .inl (nb gG))), (xy, .inl (G.2.1, 16, .inl (nb gY))), (xe, .inl (G.2.1, 8, .inl (nb gE))), (xc, .inl (G.2.1, 1200, .inl (nb gC))), (xf, .inl (G.2.1, 128, .inl (nn gF))), (xn, .inl (G.2.1, 128, .inl (nn gN)))] H → va_D A [(mo, .inr (5, [.int (nI 0), .ref xd, .int (nI (wk gD n 120)), .int (nI (wk gD n 120)), .ref xb, .int (nI nb1), .int (nI 1), .int (nI wi), .int cr, .ref xk, .ref xl, .ref xt, .int (nI 0), .ref xw, .ref xs, .ref xg, .ref xy, .ref xe, .int (nI jkd9_1), .int (nI jln9_2), .int (nI jps9_3), .int (nI hr), .int br, .int bp, .int (nI gd), .int (nI gp), .int (nI sl), .ref xc, .ref xf, .ref xn])), (xd, .inl (G.2.1, 1200, .inl (nb gD))), (xb, .inl (G.2.1, 40, .inl (nb gB))), (xk, .inl (G.2.1, 16, .inl (nb gK))), (xl, .inl (G.2.1, 8, .inl (nb L1))), (xt, .inl (G.2.1, 192, .inl (nb gT))), (xw, .inl (G.2.1, 64, .inl gW)), (xs, .inl (G.2.1, 16, .inl gS)), (xg, .inl (G.2.1, 32, .inl (nb gG))), (xy, .inl (G.2.1, 16, .inl (nb gY))), (xe, .inl (G.2.1, 8, .inl (nb gE))), (xc, .inl (G.2.1, 1200, .inl (nb gC))), (xf, .inl (G.2.1, 128, .inl (nn gF))), (xn, .inl (G.2.1, 128, .inl (nn gN)))] → va_S A sv.heap H locs → lv_has ls 6 [(0, .ref mo), (1, .int (nI (wk gD n 120))), (3, .int (nI (wk gD n 120 - 8))), (4, .int (nI 0)), (5, .int (nI k9))] → W prg l env ({ frames := 5, cells := 0, slots := 0, locals := 117 } : Room) sv mid args below meth cd H locs 0 0 Q (F0 mid 122 ls []) := by
              intro n9
              induction n9 with
              | zero => intro k9 L1 H locs ls hmu; exact absurd hmu (Nat.not_lt_zero _)
              | succ n9 ih_122_1 =>
                intro k9 L1 H locs ls hmu_122 hk9 hL hP hD hS hl
                refine lv_iload hx hb dX5_recover_122 (lv_at hl 4 rfl) ?_
                refine lv_bipush (v := nI 8) hx hb dX5_recover_124 (by decide) ?_
                refine f_icmp_ge (tgt := 159) (by omega) (by omega) hx hb dX5_recover_126 (by decide) (fun c_126 => ?_) (fun c_126 => ?_)
                · skip
                  obtain rfl : k9 = 8 := by omega
                  replace hP : va_P G.1 vwCl [(mo, .inr (5, [.int (nI 0), .ref xd, .int (nI (wk gD n 120)), .int (nI (wk gD n 120)), .ref xb, .int (nI nb1), .int (nI 1), .int (nI wi), .int cr, .ref xk, .ref xl, .ref xt, .int (nI 0), .ref xw, .ref xs, .ref xg, .ref xy, .ref xe, .int (nI jkd9_1), .int (nI jln9_2), .int (nI jps9_3), .int (nI hr), .int br, .int bp, .int (nI gd), .int (nI gp), .int (nI sl), .ref xc, .ref xf, .ref xn])), (xd, .inl (G.2.1, 1200, .inl (nb gD))), (xb, .inl (G.2.1, 40, .inl (nb gB))), (xk, .inl (G.2.1, 16, .inl (nb gK))), (xl, .inl (G.2.1, 8, .inl (nb (tgB gD (wk gD n 120))))), (xt, .inl (G.2.1, 192, .inl (nb gT))), (xw, .inl (G.2.1, 64, .inl gW)), (xs, .inl (G.2.1, 16, .inl gS)), (xg, .inl (G.2.1, 32, .inl (nb gG))), (xy, .inl (G.2.1, 16, .inl (nb gY))), (xe, .inl (G.2.1, 8, .inl (nb gE))), (xc, .inl (G.2.1, 1200, .inl (nb gC))), (xf, .inl (G.2.1, 128, .inl (nn gF))), (xn, .inl (G.2.1, 128, .inl (nn gN)))] H := f_row hP 4 rfl (nb (tgB gD (wk gD n 120))) (fun j hj => congrArg bI (hL j hj))
                  replace hD : va_D A [(mo, .inr (5, [.int (nI 0), .ref xd, .int (nI (wk gD n 120)), .int (nI (wk gD n 120)), .ref xb, .int (nI nb1), .int (nI 1), .int (nI wi), .int cr, .ref xk, .ref xl, .ref xt, .int (nI 0), .ref xw, .ref xs, .ref xg, .ref xy, .ref xe, .int (nI jkd9_1), .int (nI jln9_2), .int (nI jps9_3), .int (nI hr), .int br, .int bp, .int (nI gd), .int (nI gp), .int (nI sl), .ref xc, .ref xf, .ref xn])), (xd, .inl (G.2.1, 1200, .inl (nb gD))), (xb, .inl (G.2.1, 40, .inl (nb gB))), (xk, .inl (G.2.1, 16, .inl (nb gK))), (xl, .inl (G.2.1, 8, .inl (nb (tgB gD (wk gD n 120))))), (xt, .inl (G.2.1, 192, .inl (nb gT))), (xw, .inl (G.2.1, 64, .inl gW)), (xs, .inl (G.2.1, 16, .inl gS)), (xg, .inl (G.2.1, 32, .inl (nb gG))), (xy, .inl (G.2.1, 16, .inl (nb gY))), (xe, .inl (G.2.1, 8, .inl (nb gE))), (xc, .inl (G.2.1, 1200, .inl (nb gC))), (xf, .inl (G.2.1, 128, .inl (nn gF))), (xn, .inl (G.2.1, 128, .inl (nn gN)))] := f_rowD hD 4 rfl
                  refine lv_iload hx hb dX5_recover_159 (lv_at hl 3 rfl) ?_
                  refine lv_if_le (tgt := 227) hx hb dX5_recover_161 (by decide) (fun _ => ?_) (fun c9 => absurd (by decide) c9)
                  refine lv_iload hx hb dX5_recover_227 (lv_at hl 3 rfl) ?_
                  exact hend (nI 0) (jkd9_1, jln9_2, jps9_3) _ _ _ _ rfl rfl hP hD hS dX5_recover_229
                · skip
                  refine lv_aload_n hx hb dX5_recover_129 rfl (lv_at hl 0 rfl) ?_
                  refine va_get (D := G.1) (ci := 5) (v := .ref xl) (C := RX5) (T := TX5) (N := 30) hx hb hts in_wsX50 hown hK hP 0 rfl rfl 10 (by decide) (hts _ wm_253) (fun _ h9 => h9) rfl dX5_recover_130 ?_
                  refine lv_iload hx hb dX5_recover_133 (lv_at hl 4 rfl) ?_
                  refine lv_iload_n hx hb dX5_recover_135 rfl (lv_at hl 2 rfl) ?_
                  refine f_if_ge (tgt := 143) (by omega) hx hb dX5_recover_136 (by decide) ?_
                  refine lv_aload_n hx hb dX5_recover_143 rfl (lv_at hl 0 rfl) ?_
                  refine va_get (D := G.1) (ci := 5) (v := .ref xd) (C := RX5) (T := TX5) (N := 30) hx hb hts in_wsX50 hown hK hP 0 rfl rfl 1 (by decide) (hts _ wm_250) (fun _ h9 => h9) rfl dX5_recover_144 ?_
                  refine lv_iload_n hx hb dX5_recover_147 rfl (lv_at hl 2 rfl) ?_
                  refine lv_iload hx hb dX5_recover_148 (lv_at hl 4 rfl) ?_
                  refine lv_iadd hx hb dX5_recover_150 ?_
                  refine f_top (y := nI (wk gD n 120 - 8 + k9)) (nI_add _ _) ?_
                  refine f_iald (v := bI (gD (wk gD n 120 - 8 + k9))) hx hb hK hP 1 rfl (by omega) (by decide) rfl dX5_recover_151 ?_
                  refine f_top (y := bI (tgB gD (wk gD n 120) k9)) (by unfold tgB; rw [if_neg (by omega)]) ?_
                  refine f_iast hx hb hK hP hD hS 4 rfl (by omega) (by decide) dX5_recover_152 (fun H_152_1 locs_152_1 hP_152_1 hD_152_1 hS_152_1 => ?_)
                  replace hP_152_1 : va_P G.1 vwCl [(mo, .inr (5, [.int (nI 0), .ref xd, .int (nI (wk gD n 120)), .int (nI (wk gD n 120)), .ref xb, .int (nI nb1), .int (nI 1), .int (nI wi), .int cr, .ref xk, .ref xl, .ref xt, .int (nI 0), .ref xw, .ref xs, .ref xg, .ref xy, .ref xe, .int (nI jkd9_1), .int (nI jln9_2), .int (nI jps9_3), .int (nI hr), .int br, .int bp, .int (nI gd), .int (nI gp), .int (nI sl), .ref xc, .ref xf, .ref xn])), (xd, .inl (G.2.1, 1200, .inl (nb gD))), (xb, .inl (G.2.1, 40, .inl (nb gB))), (xk, .inl (G.2.1, 16, .inl (nb gK))), (xl, .inl (G.2.1, 8, .inl (nb (upb L1 k9 (tgB gD (wk gD n 120) k9))))), (xt, .inl (G.2.1, 192, .inl (nb gT))), (xw, .inl (G.2.1, 64, .inl gW)), (xs, .inl (G.2.1, 16, .inl gS)), (xg, .inl (G.2.1, 32, .inl (nb gG))), (xy, .inl (G.2.1, 16, .inl (nb gY))), (xe, .inl (G.2.1, 8, .inl (nb gE))), (xc, .inl (G.2.1, 1200, .inl (nb gC))), (xf, .inl (G.2.1, 128, .inl (nn gF))), (xn, .inl (G.2.1, 128, .inl (nn gN)))] H_152_1 := by have h9 := hP_152_1; rw [upd_nb] at h9; exact h9
                  replace hD_152_1 : va_D A [(mo, .inr (5, [.int (nI 0), .ref xd, .int (nI (wk gD n 120)), .int (nI (wk gD n 120)), .ref xb, .int (nI nb1), .int (nI 1), .int (nI wi), .int cr, .ref xk, .ref xl, .ref xt, .int (nI 0), .ref xw, .ref xs, .ref xg, .ref xy, .ref xe, .int (nI jkd9_1), .int (nI jln9_2), .int (nI jps9_3), .int (nI hr), .int br, .int bp, .int (nI gd), .int (nI gp), .int (nI sl), .ref xc, .ref xf, .ref xn])), (xd, .inl (G.2.1, 1200, .inl (nb gD))), (xb, .inl (G.2.1, 40, .inl (nb gB))), (xk, .inl (G.2.1, 16, .inl (nb gK))), (xl, .inl (G.2.1, 8, .inl (nb (upb L1 k9 (tgB gD (wk gD n 120) k9))))), (xt, .inl (G.2.1, 192, .inl (nb gT))), (xw, .inl (G.2.1, 64, .inl gW)), (xs, .inl (G.2.1, 16, .inl gS)), (xg, .inl (G.2.1, 32, .inl (nb gG))), (xy, .inl (G.2.1, 16, .inl (nb gY))), (xe, .inl (G.2.1, 8, .inl (nb gE))), (xc, .inl (G.2.1, 1200, .inl (nb gC))), (xf, .inl (G.2.1, 128, .inl (nn gF))), (xn, .inl (G.2.1, 128, .inl (nn gN)))] := hD.set (p := 4) rfl
                  replace hP : va_P G.1 vwCl [(mo, .inr (5, [.int (nI 0), .ref xd, .int (nI (wk gD n 120)), .int (nI (wk gD n 120)), .ref xb, .int (nI nb1), .int (nI 1), .int (nI wi), .int cr, .ref xk, .ref xl, .ref xt, .int (nI 0), .ref xw, .ref xs, .ref xg, .ref xy, .ref xe, .int (nI jkd9_1), .int (nI jln9_2), .int (nI jps9_3), .int (nI hr), .int br, .int bp, .int (nI gd), .int (nI gp), .int (nI sl), .ref xc, .ref xf, .ref xn])), (xd, .inl (G.2.1, 1200, .inl (nb gD))), (xb, .inl (G.2.1, 40, .inl (nb gB))), (xk, .inl (G.2.1, 16, .inl (nb gK))), (xl, .inl (G.2.1, 8, .inl (nb (upb L1 k9 (tgB gD (wk gD n 120) k9))))), (xt, .inl (G.2.1, 192, .inl (nb gT))), (xw, .inl (G.2.1, 64, .inl gW)), (xs, .inl (G.2.1, 16, .inl gS)), (xg, .inl (G.2.1, 32, .inl (nb gG))), (xy, .inl (G.2.1, 16, .inl (nb gY))), (xe, .inl (G.2.1, 8, .inl (nb gE))), (xc, .inl (G.2.1, 1200, .inl (nb gC))), (xf, .inl (G.2.1, 128, .inl (nn gF))), (xn, .inl (G.2.1, 128, .inl (nn gN)))] H_152_1 := hP_152_1
                  replace hD : va_D A [(mo, .inr (5, [.int (nI 0), .ref xd, .int (nI (wk gD n 120)), .int (nI (wk gD n 120)), .ref xb, .int (nI nb1), .int (nI 1), .int (nI wi), .int cr, .ref xk, .ref xl, .ref xt, .int (nI 0), .ref xw, .ref xs, .ref xg, .ref xy, .ref xe, .int (nI jkd9_1), .int (nI jln9_2), .int (nI jps9_3), .int (nI hr), .int br, .int bp, .int (nI gd), .int (nI gp), .int (nI sl), .ref xc, .ref xf, .ref xn])), (xd, .inl (G.2.1, 1200, .inl (nb gD))), (xb, .inl (G.2.1, 40, .inl (nb gB))), (xk, .inl (G.2.1, 16, .inl (nb gK))), (xl, .inl (G.2.1, 8, .inl (nb (upb L1 k9 (tgB gD (wk gD n 120) k9))))), (xt, .inl (G.2.1, 192, .inl (nb gT))), (xw, .inl (G.2.1, 64, .inl gW)), (xs, .inl (G.2.1, 16, .inl gS)), (xg, .inl (G.2.1, 32, .inl (nb gG))), (xy, .inl (G.2.1, 16, .inl (nb gY))), (xe, .inl (G.2.1, 8, .inl (nb gE))), (xc, .inl (G.2.1, 1200, .inl (nb gC))), (xf, .inl (G.2.1, 128, .inl (nn gF))), (xn, .inl (G.2.1, 128, .inl (nn gN)))] := hD_152_1
                  replace hS : va_S A sv.heap H_152_1 locs_152_1 := hS_152_1
                  clear hP_152_1 hD_152_1 hS_152_1
                  refine lv_iinc (v := nI (k9 + 1)) (lv' := [(5, .int (nI (k9 + 1))), (0, .ref mo), (1, .int (nI (wk gD n 120))), (3, .int (nI (wk gD n 120 - 8))), (4, .int (nI 0))]) hx hb dX5_recover_153 hl (k := 4) rfl (f_inc1 _) (by decide) rfl (fun ls hl2 => ?_)
                  replace hl := hl2; clear hl2
                  refine lv_goto (tgt := 122) hx hb dX5_recover_156 (by decide) ?_
                  exact ih_122_1 (k9 + 1) (upb L1 k9 (tgB gD (wk gD n 120) k9)) _ _ _ (by omega) (by omega) (upb_ext hL) hP hD hS (lv_sub hl [1, 2, 3, 4, 0] rfl)
            exact L_122_1 ((9 - 0) + 1) 0 gL _ _ _ (Nat.lt_succ_self _) (by omega) ext_0 hP hD hS (lv_sub hl [2, 3, 5, 1, 0] rfl)
        · skip
          exfalso; omega
  exact L_27 ((121 - 0) + 1) 0 kd ln ps _ _ _ (Nat.lt_succ_self _) (Nat.le_refl _) hP hD hS (lv_sub hl [3, 2, 1, 0] rfl)

set_option maxRecDepth 100000 in
set_option maxHeartbeats 4000000 in
theorem kX5_recover_full (l : Launch) (G : fG) (mo : Nat) (xd : Nat) (xb : Nat) (xk : Nat) (xl : Nat) (xt : Nat) (xw : Nat) (xs : Nat) (xg : Nat) (xy : Nat) (xe : Nat) (xc : Nat) (xf : Nat) (xn : Nat) (rf : Nat) (n : Nat) (y : Nat) (nb1 : Nat) (wi : Nat) (cr : Int32) (kd : Nat) (ln : Nat) (ps : Nat) (hr : Nat) (br : Int32) (bp : Int32) (gd : Nat) (gp : Nat) (sl : Nat) (gD : Nat → UInt8) (gB : Nat → UInt8) (gK : Nat → UInt8) (gL : Nat → UInt8) (gT : Nat → UInt8) (gW : Nat → Int32) (gS : Nat → Int32) (gG : Nat → UInt8) (gY : Nat → UInt8) (gE : Nat → UInt8) (gC : Nat → UInt8) (gF : Nat → Nat) (gN : Nat → Nat) (hn : n ≤ 1200) (hwi : wi < 65536) (hz : wx gD n 120 < wi) (hf : 1200 < wk gD n 120 + 12) : fMI l yX5_recover (.code yX5_recover cX5_recover 6 (some .int) :: wsA) ({ frames := 5, cells := 0, slots := 0, locals := 117 } : Room) G [.ref mo] [(mo, .inr (5, [.int (nI rf), .ref xd, .int (nI n), .int (nI y), .ref xb, .int (nI nb1), .int (nI 0), .int (nI wi), .int cr, .ref xk, .ref xl, .ref xt, .int (nI 0), .ref xw, .ref xs, .ref xg, .ref xy, .ref xe, .int (nI kd), .int (nI ln), .int (nI ps), .int (nI hr), .int br, .int bp, .int (nI gd), .int (nI gp), .int (nI sl), .ref xc, .ref xf, .ref xn])), (xd, .inl (G.2.1, 1200, .inl (nb gD))), (xb, .inl (G.2.1, 40, .inl (nb gB))), (xk, .inl (G.2.1, 16, .inl (nb gK))), (xl, .inl (G.2.1, 8, .inl (nb gL))), (xt, .inl (G.2.1, 192, .inl (nb gT))), (xw, .inl (G.2.1, 64, .inl gW)), (xs, .inl (G.2.1, 16, .inl gS)), (xg, .inl (G.2.1, 32, .inl (nb gG))), (xy, .inl (G.2.1, 16, .inl (nb gY))), (xe, .inl (G.2.1, 8, .inl (nb gE))), (xc, .inl (G.2.1, 1200, .inl (nb gC))), (xf, .inl (G.2.1, 128, .inl (nn gF))), (xn, .inl (G.2.1, 128, .inl (nn gN)))] (fun (r9 : Int32) (u : Nat × Nat × Nat) => r9 = -2) (fun (u : Nat × Nat × Nat) => [(mo, .inr (5, [.int (nI 0), .ref xd, .int (nI n), .int (nI y), .ref xb, .int (nI nb1), .int (nI 0), .int (nI wi), .int cr, .ref xk, .ref xl, .ref xt, .int (nI 0), .ref xw, .ref xs, .ref xg, .ref xy, .ref xe, .int (nI u.1), .int (nI u.2.1), .int (nI u.2.2), .int (nI hr), .int br, .int bp, .int (nI gd), .int (nI gp), .int (nI sl), .ref xc, .ref xf, .ref xn])), (xd, .inl (G.2.1, 1200, .inl (nb gD))), (xb, .inl (G.2.1, 40, .inl (nb gB))), (xk, .inl (G.2.1, 16, .inl (nb gK))), (xl, .inl (G.2.1, 8, .inl (nb gL))), (xt, .inl (G.2.1, 192, .inl (nb gT))), (xw, .inl (G.2.1, 64, .inl gW)), (xs, .inl (G.2.1, 16, .inl gS)), (xg, .inl (G.2.1, 32, .inl (nb gG))), (xy, .inl (G.2.1, 16, .inl (nb gY))), (xe, .inl (G.2.1, 8, .inl (nb gE))), (xc, .inl (G.2.1, 1200, .inl (nb gC))), (xf, .inl (G.2.1, 128, .inl (nn gF))), (xn, .inl (G.2.1, 128, .inl (nn gN)))]) 0 0 := by
  refine fI_start (cc := cX5_recover) (maxL := 6) (by decide) rfl (Nat.le_of_ble_eq_true rfl) ?_
  intro prg env sv mid args below meth cd A Q ls hx hb hml hown hts hin hK hP hD hE hA hS hl hend
  replace hown : sv.vm.findClass RX5 = some mid.cls := hown
  replace hP : va_P G.1 vwCl [(mo, .inr (5, [.int (nI rf), .ref xd, .int (nI n), .int (nI y), .ref xb, .int (nI nb1), .int (nI 0), .int (nI wi), .int cr, .ref xk, .ref xl, .ref xt, .int (nI 0), .ref xw, .ref xs, .ref xg, .ref xy, .ref xe, .int (nI kd), .int (nI ln), .int (nI ps), .int (nI hr), .int br, .int bp, .int (nI gd), .int (nI gp), .int (nI sl), .ref xc, .ref xf, .ref xn])), (xd, .inl (G.2.1, 1200, .inl (nb gD))), (xb, .inl (G.2.1, 40, .inl (nb gB))), (xk, .inl (G.2.1, 16, .inl (nb gK))), (xl, .inl (G.2.1, 8, .inl (nb gL))), (xt, .inl (G.2.1, 192, .inl (nb gT))), (xw, .inl (G.2.1, 64, .inl gW)), (xs, .inl (G.2.1, 16, .inl gS)), (xg, .inl (G.2.1, 32, .inl (nb gG))), (xy, .inl (G.2.1, 16, .inl (nb gY))), (xe, .inl (G.2.1, 8, .inl (nb gE))), (xc, .inl (G.2.1, 1200, .inl (nb gC))), (xf, .inl (G.2.1, 128, .inl (nn gF))), (xn, .inl (G.2.1, 128, .inl (nn gN)))] sv.heap := hP
  replace hl : lv_has ls 6 [(0, .ref mo)] := hl
  refine lv_aload_n hx hb dX5_recover_0 rfl (lv_at hl 0 rfl) ?_
  refine lv_aload_n hx hb dX5_recover_1 rfl (lv_at hl 0 rfl) ?_
  refine va_get (D := G.1) (ci := 5) (v := .int (nI 0)) (C := RX5) (T := TX5) (N := 30) hx hb hts in_wsX50 hown hK hP 0 rfl rfl 6 (by decide) (hts _ wm_263) (fun _ h9 => h9) rfl dX5_recover_2 ?_
  refine lv_if_eq (tgt := 12) hx hb dX5_recover_5 (by decide) (fun _ => ?_) (fun c9 => absurd (by decide) c9)
  refine lv_iconst (v := nI 0) hx hb dX5_recover_12 (by decide) ?_
  refine fcVI (As := [.int (nI 0)]) (rest := []) (wr := []) (ws1 := fun (u : Unit) => [(mo, .inr (5, [.int (nI 0), .ref xd, .int (nI n), .int (nI y), .ref xb, .int (nI nb1), .int (nI 0), .int (nI wi), .int cr, .ref xk, .ref xl, .ref xt, .int (nI 0), .ref xw, .ref xs, .ref xg, .ref xy, .ref xe, .int (nI kd), .int (nI ln), .int (nI ps), .int (nI hr), .int br, .int bp, .int (nI gd), .int (nI gp), .int (nI sl), .ref xc, .ref xf, .ref xn])), (xd, .inl (G.2.1, 1200, .inl (nb gD))), (xb, .inl (G.2.1, 40, .inl (nb gB))), (xk, .inl (G.2.1, 16, .inl (nb gK))), (xl, .inl (G.2.1, 8, .inl (nb gL))), (xt, .inl (G.2.1, 192, .inl (nb gT))), (xw, .inl (G.2.1, 64, .inl gW)), (xs, .inl (G.2.1, 16, .inl gS)), (xg, .inl (G.2.1, 32, .inl (nb gG))), (xy, .inl (G.2.1, 16, .inl (nb gY))), (xe, .inl (G.2.1, 8, .inl (nb gE))), (xc, .inl (G.2.1, 1200, .inl (nb gC))), (xf, .inl (G.2.1, 128, .inl (nn gF))), (xn, .inl (G.2.1, 128, .inl (nn gN)))]) ⟨hx, hb, hml, hown, hts⟩ hK hE hP hD hS hA hl.1 (kX5_refused_0 l G mo xd xb xk xl xt xw xs xg xy xe xc xf xn rf n y nb1 0 wi cr 0 kd ln ps hr br bp gd gp sl gD gB gK gL gT gW gS gG gY gE gC gF gN ) (cwV 1 hts (gdV wm_389 wm_390 wm_391 wm_267 wm_270) rfl rfl rfl (by decide +kernel) ⟨Nat.le_of_ble_eq_true rfl, Nat.le_of_ble_eq_true rfl⟩) 0 rfl rfl rfl rfl (Nat.le_of_ble_eq_true rfl) dX5_recover_13 ⟨Nat.le_of_ble_eq_true rfl, Nat.le_of_ble_eq_true rfl⟩ [0, 1, 2, 3, 4, 5, 6, 7, 8, 9, 10, 11, 12, 13] [] [0, 1, 2, 3, 4, 5, 6, 7, 8, 9, 10, 11, 12, 13] rfl rfl rfl rfl (by decide) rfl (fun _ => rfl) (fun r_13 u_13 H_13 locs_13 hw_13 hP_13 hD_13 hS_13 => ?_)
  obtain rfl := hw_13
  replace hP : va_P G.1 vwCl [(mo, .inr (5, [.int (nI 0), .ref xd, .int (nI n), .int (nI y), .ref xb, .int (nI nb1), .int (nI 0), .int (nI wi), .int cr, .ref xk, .ref xl, .ref xt, .int (nI 0), .ref xw, .ref xs, .ref xg, .ref xy, .ref xe, .int (nI kd), .int (nI ln), .int (nI ps), .int (nI hr), .int br, .int bp, .int (nI gd), .int (nI gp), .int (nI sl), .ref xc, .ref xf, .ref xn])), (xd, .inl (G.2.1, 1200, .inl (nb gD))), (xb, .inl (G.2.1, 40, .inl (nb gB))), (xk, .inl (G.2.1, 16, .inl (nb gK))), (xl, .inl (G.2.1, 8, .inl (nb gL))), (xt, .inl (G.2.1, 192, .inl (nb gT))), (xw, .inl (G.2.1, 64, .inl gW)), (xs, .inl (G.2.1, 16, .inl gS)), (xg, .inl (G.2.1, 32, .inl (nb gG))), (xy, .inl (G.2.1, 16, .inl (nb gY))), (xe, .inl (G.2.1, 8, .inl (nb gE))), (xc, .inl (G.2.1, 1200, .inl (nb gC))), (xf, .inl (G.2.1, 128, .inl (nn gF))), (xn, .inl (G.2.1, 128, .inl (nn gN)))] H_13 := hP_13
  replace hD : va_D A [(mo, .inr (5, [.int (nI 0), .ref xd, .int (nI n), .int (nI y), .ref xb, .int (nI nb1), .int (nI 0), .int (nI wi), .int cr, .ref xk, .ref xl, .ref xt, .int (nI 0), .ref xw, .ref xs, .ref xg, .ref xy, .ref xe, .int (nI kd), .int (nI ln), .int (nI ps), .int (nI hr), .int br, .int bp, .int (nI gd), .int (nI gp), .int (nI sl), .ref xc, .ref xf, .ref xn])), (xd, .inl (G.2.1, 1200, .inl (nb gD))), (xb, .inl (G.2.1, 40, .inl (nb gB))), (xk, .inl (G.2.1, 16, .inl (nb gK))), (xl, .inl (G.2.1, 8, .inl (nb gL))), (xt, .inl (G.2.1, 192, .inl (nb gT))), (xw, .inl (G.2.1, 64, .inl gW)), (xs, .inl (G.2.1, 16, .inl gS)), (xg, .inl (G.2.1, 32, .inl (nb gG))), (xy, .inl (G.2.1, 16, .inl (nb gY))), (xe, .inl (G.2.1, 8, .inl (nb gE))), (xc, .inl (G.2.1, 1200, .inl (nb gC))), (xf, .inl (G.2.1, 128, .inl (nn gF))), (xn, .inl (G.2.1, 128, .inl (nn gN)))] := hD_13
  replace hS : va_S A sv.heap H_13 locs_13 := hS_13
  clear hP_13 hD_13 hS_13
  refine lv_if_eq (tgt := 21) hx hb dX5_recover_16 (by decide) (fun _ => ?_) (fun c9 => absurd (by decide) c9)
  refine lv_iconst (v := nI 0) hx hb dX5_recover_21 (by decide) ?_
  refine lv_istore_n (lv' := [(1, .int (nI 0)), (0, .ref mo)]) hx hb dX5_recover_22 rfl hl (by decide) rfl (fun ls hl2 => ?_)
  replace hl := hl2; clear hl2
  refine lv_iconst (v := nI 0) hx hb dX5_recover_23 (by decide) ?_
  refine lv_istore_n (lv' := [(2, .int (nI 0)), (1, .int (nI 0)), (0, .ref mo)]) hx hb dX5_recover_24 rfl hl (by decide) rfl (fun ls hl2 => ?_)
  replace hl := hl2; clear hl2
  refine lv_iconst (v := -1) hx hb dX5_recover_25 (by decide) ?_
  refine lv_istore_n (lv' := [(3, .int (-1)), (2, .int (nI 0)), (1, .int (nI 0)), (0, .ref mo)]) hx hb dX5_recover_26 rfl hl (by decide) rfl (fun ls hl2 => ?_)
  replace hl := hl2; clear hl2
  have L_27 : ∀ (n9 : Nat) (k : Nat) (kd1 : Nat) (ln1 : Nat) (ps1 : Nat) (H : Heap) (locs : List Loc) (ls : Array Slot), (121 - k) < n9 → (10 * k ≤ wk gD n k) → va_P G.1 vwCl [(mo, .inr (5, [.int (nI 0), .ref xd, .int (nI n), .int (nI y), .ref xb, .int (nI nb1), .int (nI 0), .int (nI wi), .int cr, .ref xk, .ref xl, .ref xt, .int (nI 0), .ref xw, .ref xs, .ref xg, .ref xy, .ref xe, .int (nI kd1), .int (nI ln1), .int (nI ps1), .int (nI hr), .int br, .int bp, .int (nI gd), .int (nI gp), .int (nI sl), .ref xc, .ref xf, .ref xn])), (xd, .inl (G.2.1, 1200, .inl (nb gD))), (xb, .inl (G.2.1, 40, .inl (nb gB))), (xk, .inl (G.2.1, 16, .inl (nb gK))), (xl, .inl (G.2.1, 8, .inl (nb gL))), (xt, .inl (G.2.1, 192, .inl (nb gT))), (xw, .inl (G.2.1, 64, .inl gW)), (xs, .inl (G.2.1, 16, .inl gS)), (xg, .inl (G.2.1, 32, .inl (nb gG))), (xy, .inl (G.2.1, 16, .inl (nb gY))), (xe, .inl (G.2.1, 8, .inl (nb gE))), (xc, .inl (G.2.1, 1200, .inl (nb gC))), (xf, .inl (G.2.1, 128, .inl (nn gF))), (xn, .inl (G.2.1, 128, .inl (nn gN)))] H → va_D A [(mo, .inr (5, [.int (nI 0), .ref xd, .int (nI n), .int (nI y), .ref xb, .int (nI nb1), .int (nI 0), .int (nI wi), .int cr, .ref xk, .ref xl, .ref xt, .int (nI 0), .ref xw, .ref xs, .ref xg, .ref xy, .ref xe, .int (nI kd1), .int (nI ln1), .int (nI ps1), .int (nI hr), .int br, .int bp, .int (nI gd), .int (nI gp), .int (nI sl), .ref xc, .ref xf, .ref xn])), (xd, .inl (G.2.1, 1200, .inl (nb gD))), (xb, .inl (G.2.1, 40, .inl (nb gB))), (xk, .inl (G.2.1, 16, .inl (nb gK))), (xl, .inl (G.2.1, 8, .inl (nb gL))), (xt, .inl (G.2.1, 192, .inl (nb gT))), (xw, .inl (G.2.1, 64, .inl gW)), (xs, .inl (G.2.1, 16, .inl gS)), (xg, .inl (G.2.1, 32, .inl (nb gG))), (xy, .inl (G.2.1, 16, .inl (nb gY))), (xe, .inl (G.2.1, 8, .inl (nb gE))), (xc, .inl (G.2.1, 1200, .inl (nb gC))), (xf, .inl (G.2.1, 128, .inl (nn gF))), (xn, .inl (G.2.1, 128, .inl (nn gN)))] → va_S A sv.heap H locs → lv_has ls 6 [(0, .ref mo), (1, .int (nI (wk gD n k))), (2, .int (nI (wx gD n k))), (3, .int (lastV (wk gD n k)))] → W prg l env ({ frames := 5, cells := 0, slots := 0, locals := 117 } : Room) sv mid args below meth cd H locs 0 0 Q (F0 mid 27 ls []) := by
    intro n9
    induction n9 with
    | zero => intro k kd1 ln1 ps1 H locs ls hmu; exact absurd hmu (Nat.not_lt_zero _)
    | succ n9 ih_27 =>
      intro k kd1 ln1 ps1 H locs ls hmu_27 hk hP hD hS hl
      have w1 := wk_le (g := gD) (n := n) k
      have w2 := wx_le (g := gD) (n := n) k
      have w3 : k * 65536 ≤ 120 * 65536 := Nat.mul_le_mul_right _ (by omega)
      rcases Bool.eq_false_or_eq_true (whole gD n (wk gD n k)) with hw | hw
      · skip
        have w4 := whole_spec hw
        have w5 := pas_lt gD (wk gD n k)
        have w6 := bI_lt (gD (wk gD n k + 1))
        refine lv_aload_n hx hb dX5_recover_27 rfl (lv_at hl 0 rfl) ?_
        refine lv_iload_n hx hb dX5_recover_28 rfl (lv_at hl 1 rfl) ?_
        refine fcVI (As := [.int (nI (wk gD n k))]) (rest := []) (wr := []) (ws1 := fun (u : Unit) => [(mo, .inr (5, [.int (nI 0), .ref xd, .int (nI n), .int (nI y), .ref xb, .int (nI nb1), .int (nI 0), .int (nI wi), .int cr, .ref xk, .ref xl, .ref xt, .int (nI 0), .ref xw, .ref xs, .ref xg, .ref xy, .ref xe, .int (nI ((gD (wk gD n k)).toNat)), .int (nI ((gD ((wk gD n k) + 1)).toNat)), .int (nI (pas gD (wk gD n k))), .int (nI hr), .int br, .int bp, .int (nI gd), .int (nI gp), .int (nI sl), .ref xc, .ref xf, .ref xn])), (xd, .inl (G.2.1, 1200, .inl (nb gD))), (xb, .inl (G.2.1, 40, .inl (nb gB))), (xk, .inl (G.2.1, 16, .inl (nb gK))), (xl, .inl (G.2.1, 8, .inl (nb gL))), (xt, .inl (G.2.1, 192, .inl (nb gT))), (xw, .inl (G.2.1, 64, .inl gW)), (xs, .inl (G.2.1, 16, .inl gS)), (xg, .inl (G.2.1, 32, .inl (nb gG))), (xy, .inl (G.2.1, 16, .inl (nb gY))), (xe, .inl (G.2.1, 8, .inl (nb gE))), (xc, .inl (G.2.1, 1200, .inl (nb gC))), (xf, .inl (G.2.1, 128, .inl (nn gF))), (xn, .inl (G.2.1, 128, .inl (nn gN)))]) ⟨hx, hb, hml, hown, hts⟩ hK hE hP hD hS hA hl.1 (kX5_look_y l G mo xd xb xk xl xt xw xs xg xy xe xc xf xn 0 n y nb1 0 wi cr kd1 ln1 ps1 hr br bp gd gp sl gD gB gK gL gT gW gS gG gY gE gC gF gN (wk gD n k) (by omega) hw) (cwV 1 hts (gdV wm_416 wm_417 wm_418 wm_267 wm_411) rfl rfl rfl (by decide +kernel) ⟨Nat.le_of_ble_eq_true rfl, Nat.le_of_ble_eq_true rfl⟩) 0 rfl rfl rfl rfl (Nat.le_of_ble_eq_true rfl) dX5_recover_29 ⟨Nat.le_of_ble_eq_true rfl, Nat.le_of_ble_eq_true rfl⟩ [0, 1, 2, 3, 4, 5, 6, 7, 8, 9, 10, 11, 12, 13] [] [0, 1, 2, 3, 4, 5, 6, 7, 8, 9, 10, 11, 12, 13] rfl rfl rfl rfl (by decide) rfl (fun _ => rfl) (fun r_29 u_29 H_29 locs_29 hw_29 hP_29 hD_29 hS_29 => ?_)
        obtain rfl := hw_29
        replace hP : va_P G.1 vwCl [(mo, .inr (5, [.int (nI 0), .ref xd, .int (nI n), .int (nI y), .ref xb, .int (nI nb1), .int (nI 0), .int (nI wi), .int cr, .ref xk, .ref xl, .ref xt, .int (nI 0), .ref xw, .ref xs, .ref xg, .ref xy, .ref xe, .int (nI ((gD (wk gD n k)).toNat)), .int (nI ((gD ((wk gD n k) + 1)).toNat)), .int (nI (pas gD (wk gD n k))), .int (nI hr), .int br, .int bp, .int (nI gd), .int (nI gp), .int (nI sl), .ref xc, .ref xf, .ref xn])), (xd, .inl (G.2.1, 1200, .inl (nb gD))), (xb, .inl (G.2.1, 40, .inl (nb gB))), (xk, .inl (G.2.1, 16, .inl (nb gK))), (xl, .inl (G.2.1, 8, .inl (nb gL))), (xt, .inl (G.2.1, 192, .inl (nb gT))), (xw, .inl (G.2.1, 64, .inl gW)), (xs, .inl (G.2.1, 16, .inl gS)), (xg, .inl (G.2.1, 32, .inl (nb gG))), (xy, .inl (G.2.1, 16, .inl (nb gY))), (xe, .inl (G.2.1, 8, .inl (nb gE))), (xc, .inl (G.2.1, 1200, .inl (nb gC))), (xf, .inl (G.2.1, 128, .inl (nn gF))), (xn, .inl (G.2.1, 128, .inl (nn gN)))] H_29 := hP_29
        replace hD : va_D A [(mo, .inr (5, [.int (nI 0), .ref xd, .int (nI n), .int (nI y), .ref xb, .int (nI nb1), .int (nI 0), .int (nI wi), .int cr, .ref xk, .ref xl, .ref xt, .int (nI 0), .ref xw, .ref xs, .ref xg, .ref xy, .ref xe, .int (nI ((gD (wk gD n k)).toNat)), .int (nI ((gD ((wk gD n k) + 1)).toNat)), .int (nI (pas gD (wk gD n k))), .int (nI hr), .int br, .int bp, .int (nI gd), .int (nI gp), .int (nI sl), .ref xc, .ref xf, .ref xn])), (xd, .inl (G.2.1, 1200, .inl (nb gD))), (xb, .inl (G.2.1, 40, .inl (nb gB))), (xk, .inl (G.2.1, 16, .inl (nb gK))), (xl, .inl (G.2.1, 8, .inl (nb gL))), (xt, .inl (G.2.1, 192, .inl (nb gT))), (xw, .inl (G.2.1, 64, .inl gW)), (xs, .inl (G.2.1, 16, .inl gS)), (xg, .inl (G.2.1, 32, .inl (nb gG))), (xy, .inl (G.2.1, 16, .inl (nb gY))), (xe, .inl (G.2.1, 8, .inl (nb gE))), (xc, .inl (G.2.1, 1200, .inl (nb gC))), (xf, .inl (G.2.1, 128, .inl (nn gF))), (xn, .inl (G.2.1, 128, .inl (nn gN)))] := hD_29
        replace hS : va_S A sv.heap H_29 locs_29 := hS_29
        clear hP_29 hD_29 hS_29
        refine lv_if_eq (tgt := 66) hx hb dX5_recover_32 (by decide) (fun c9 => absurd c9 (by decide)) (fun _ => ?_)
        refine lv_iload_n hx hb dX5_recover_35 rfl (lv_at hl 2 rfl) ?_
        refine lv_aload_n hx hb dX5_recover_36 rfl (lv_at hl 0 rfl) ?_
        refine va_get (D := G.1) (ci := 5) (v := .int (nI (pas gD (wk gD n k)))) (C := RX5) (T := TX5) (N := 30) hx hb hts in_wsX50 hown hK hP 0 rfl rfl 20 (by decide) (hts _ wm_414) (fun _ h9 => h9) rfl dX5_recover_37 ?_
        refine lv_iadd hx hb dX5_recover_40 ?_
        refine f_top (y := nI (wx gD n k + (pas gD (wk gD n k)))) (nI_add _ _) ?_
        refine lv_iconst (v := nI 1) hx hb dX5_recover_41 (by decide) ?_
        refine lv_iadd hx hb dX5_recover_42 ?_
        refine f_top (y := nI (wx gD n k + (pas gD (wk gD n k)) + 1)) (nI_add _ _) ?_
        refine f_top (y := nI (wx gD n (k + 1))) (by rw [wx_t hw]; exact congrArg nI (by omega)) ?_
        refine lv_istore_n (lv' := [(2, .int (nI (wx gD n (k + 1)))), (0, .ref mo), (1, .int (nI (wk gD n k))), (3, .int (lastV (wk gD n k)))]) hx hb dX5_recover_43 rfl hl (by decide) rfl (fun ls hl2 => ?_)
        replace hl := hl2; clear hl2
        refine lv_iload_n hx hb dX5_recover_44 rfl (lv_at hl 2 rfl) ?_
        refine lv_iconst (v := nI 2) hx hb dX5_recover_45 (by decide) ?_
        refine lv_iadd hx hb dX5_recover_46 ?_
        refine f_top (y := nI (wk gD n k + 2)) (nI_add _ _) ?_
        refine lv_aload_n hx hb dX5_recover_47 rfl (lv_at hl 1 rfl) ?_
        refine va_get (D := G.1) (ci := 5) (v := .int (nI ((gD ((wk gD n k) + 1)).toNat))) (C := RX5) (T := TX5) (N := 30) hx hb hts in_wsX50 hown hK hP 0 rfl rfl 19 (by decide) (hts _ wm_413) (fun _ h9 => h9) rfl dX5_recover_48 ?_
        refine lv_iadd hx hb dX5_recover_51 ?_
        refine f_top (y := nI (wk gD n k + 2 + ((gD ((wk gD n k) + 1)).toNat))) (nI_add _ _) ?_
        refine f_top (y := lastV (wk gD n (k + 1))) (by rw [wk_t hw]; unfold lastV; rw [if_neg (by omega)]; exact congrArg nI (by omega)) ?_
        refine lv_istore_n (lv' := [(3, .int (lastV (wk gD n (k + 1)))), (2, .int (nI (wx gD n (k + 1)))), (0, .ref mo), (1, .int (nI (wk gD n k)))]) hx hb dX5_recover_52 rfl hl (by decide) rfl (fun ls hl2 => ?_)
        replace hl := hl2; clear hl2
        refine lv_iload_n hx hb dX5_recover_53 rfl (lv_at hl 3 rfl) ?_
        refine lv_bipush (v := nI 10) hx hb dX5_recover_54 (by decide) ?_
        refine lv_iadd hx hb dX5_recover_56 ?_
        refine f_top (y := nI (wk gD n k + 10)) (nI_add _ _) ?_
        refine lv_aload_n hx hb dX5_recover_57 rfl (lv_at hl 2 rfl) ?_
        refine va_get (D := G.1) (ci := 5) (v := .int (nI ((gD ((wk gD n k) + 1)).toNat))) (C := RX5) (T := TX5) (N := 30) hx hb hts in_wsX50 hown hK hP 0 rfl rfl 19 (by decide) (hts _ wm_413) (fun _ h9 => h9) rfl dX5_recover_58 ?_
        refine lv_iadd hx hb dX5_recover_61 ?_
        refine f_top (y := nI (wk gD n k + 10 + ((gD ((wk gD n k) + 1)).toNat))) (nI_add _ _) ?_
        refine f_top (y := nI (wk gD n (k + 1))) (by rw [wk_t hw]; exact congrArg nI (by omega)) ?_
        refine lv_istore_n (lv' := [(1, .int (nI (wk gD n (k + 1)))), (3, .int (lastV (wk gD n (k + 1)))), (2, .int (nI (wx gD n (k + 1)))), (0, .ref mo)]) hx hb dX5_recover_62 rfl hl (by decide) rfl (fun ls hl2 => ?_)
        replace hl := hl2; clear hl2
        refine lv_goto (tgt := 27) hx hb dX5_recover_63 (by decide) ?_
        exact ih_27 (k + 1) ((gD (wk gD n k)).toNat) ((gD ((wk gD n k) + 1)).toNat) (pas gD (wk gD n k)) _ _ _ (by omega) (wk_10 hk hw) hP hD hS (lv_sub hl [3, 0, 2, 1] rfl)
      · skip
        refine lv_aload_n hx hb dX5_recover_27 rfl (lv_at hl 0 rfl) ?_
        refine lv_iload_n hx hb dX5_recover_28 rfl (lv_at hl 1 rfl) ?_
        refine fcVI (As := [.int (nI (wk gD n k))]) (rest := []) (wr := []) (ws1 := fun (u : Nat × Nat × Nat) => [(mo, .inr (5, [.int (nI 0), .ref xd, .int (nI n), .int (nI y), .ref xb, .int (nI nb1), .int (nI 0), .int (nI wi), .int cr, .ref xk, .ref xl, .ref xt, .int (nI 0), .ref xw, .ref xs, .ref xg, .ref xy, .ref xe, .int (nI u.1), .int (nI u.2.1), .int (nI u.2.2), .int (nI hr), .int br, .int bp, .int (nI gd), .int (nI gp), .int (nI sl), .ref xc, .ref xf, .ref xn])), (xd, .inl (G.2.1, 1200, .inl (nb gD))), (xb, .inl (G.2.1, 40, .inl (nb gB))), (xk, .inl (G.2.1, 16, .inl (nb gK))), (xl, .inl (G.2.1, 8, .inl (nb gL))), (xt, .inl (G.2.1, 192, .inl (nb gT))), (xw, .inl (G.2.1, 64, .inl gW)), (xs, .inl (G.2.1, 16, .inl gS)), (xg, .inl (G.2.1, 32, .inl (nb gG))), (xy, .inl (G.2.1, 16, .inl (nb gY))), (xe, .inl (G.2.1, 8, .inl (nb gE))), (xc, .inl (G.2.1, 1200, .inl (nb gC))), (xf, .inl (G.2.1, 128, .inl (nn gF))), (xn, .inl (G.2.1, 128, .inl (nn gN)))]) ⟨hx, hb, hml, hown, hts⟩ hK hE hP hD hS hA hl.1 (kX5_look_n l G mo xd xb xk xl xt xw xs xg xy xe xc xf xn 0 n y nb1 0 wi cr kd1 ln1 ps1 hr br bp gd gp sl gD gB gK gL gT gW gS gG gY gE gC gF gN (wk gD n k) (by omega) (by omega) hw) (cwV 1 hts (gdV wm_416 wm_417 wm_418 wm_267 wm_411) rfl rfl rfl (by decide +kernel) ⟨Nat.le_of_ble_eq_true rfl, Nat.le_of_ble_eq_true rfl⟩) 0 rfl rfl rfl rfl (Nat.le_of_ble_eq_true rfl) dX5_recover_29 ⟨Nat.le_of_ble_eq_true rfl, Nat.le_of_ble_eq_true rfl⟩ [0, 1, 2, 3, 4, 5, 6, 7, 8, 9, 10, 11, 12, 13] [] [0, 1, 2, 3, 4, 5, 6, 7, 8, 9, 10, 11, 12, 13] rfl rfl rfl rfl (by decide) rfl (fun _ => rfl) (fun r_29_1 u_29_1 H_29_1 locs_29_1 hw_29_1 hP_29_1 hD_29_1 hS_29_1 => ?_)
        obtain ⟨jkd9_1, jln9_2, jps9_3⟩ := u_29_1
        obtain rfl := hw_29_1
        replace hP : va_P G.1 vwCl [(mo, .inr (5, [.int (nI 0), .ref xd, .int (nI n), .int (nI y), .ref xb, .int (nI nb1), .int (nI 0), .int (nI wi), .int cr, .ref xk, .ref xl, .ref xt, .int (nI 0), .ref xw, .ref xs, .ref xg, .ref xy, .ref xe, .int (nI jkd9_1), .int (nI jln9_2), .int (nI jps9_3), .int (nI hr), .int br, .int bp, .int (nI gd), .int (nI gp), .int (nI sl), .ref xc, .ref xf, .ref xn])), (xd, .inl (G.2.1, 1200, .inl (nb gD))), (xb, .inl (G.2.1, 40, .inl (nb gB))), (xk, .inl (G.2.1, 16, .inl (nb gK))), (xl, .inl (G.2.1, 8, .inl (nb gL))), (xt, .inl (G.2.1, 192, .inl (nb gT))), (xw, .inl (G.2.1, 64, .inl gW)), (xs, .inl (G.2.1, 16, .inl gS)), (xg, .inl (G.2.1, 32, .inl (nb gG))), (xy, .inl (G.2.1, 16, .inl (nb gY))), (xe, .inl (G.2.1, 8, .inl (nb gE))), (xc, .inl (G.2.1, 1200, .inl (nb gC))), (xf, .inl (G.2.1, 128, .inl (nn gF))), (xn, .inl (G.2.1, 128, .inl (nn gN)))] H_29_1 := hP_29_1
        replace hD : va_D A [(mo, .inr (5, [.int (nI 0), .ref xd, .int (nI n), .int (nI y), .ref xb, .int (nI nb1), .int (nI 0), .int (nI wi), .int cr, .ref xk, .ref xl, .ref xt, .int (nI 0), .ref xw, .ref xs, .ref xg, .ref xy, .ref xe, .int (nI jkd9_1), .int (nI jln9_2), .int (nI jps9_3), .int (nI hr), .int br, .int bp, .int (nI gd), .int (nI gp), .int (nI sl), .ref xc, .ref xf, .ref xn])), (xd, .inl (G.2.1, 1200, .inl (nb gD))), (xb, .inl (G.2.1, 40, .inl (nb gB))), (xk, .inl (G.2.1, 16, .inl (nb gK))), (xl, .inl (G.2.1, 8, .inl (nb gL))), (xt, .inl (G.2.1, 192, .inl (nb gT))), (xw, .inl (G.2.1, 64, .inl gW)), (xs, .inl (G.2.1, 16, .inl gS)), (xg, .inl (G.2.1, 32, .inl (nb gG))), (xy, .inl (G.2.1, 16, .inl (nb gY))), (xe, .inl (G.2.1, 8, .inl (nb gE))), (xc, .inl (G.2.1, 1200, .inl (nb gC))), (xf, .inl (G.2.1, 128, .inl (nn gF))), (xn, .inl (G.2.1, 128, .inl (nn gN)))] := hD_29_1
        replace hS : va_S A sv.heap H_29_1 locs_29_1 := hS_29_1
        clear hP_29_1 hD_29_1 hS_29_1
        refine lv_if_eq (tgt := 66) hx hb dX5_recover_32 (by decide) (fun _ => ?_) (fun c9 => absurd (by decide) c9)
        have e1 := wk_end (g := gD) (n := n) (k := k) (by omega) hw
        have w7 := wk_08 gD n k
        replace hl : lv_has ls 6 [(0, .ref mo), (1, .int (nI (wk gD n 120))), (2, .int (nI (wx gD n k))), (3, .int (lastV (wk gD n k)))] := by have e9 : (.int (nI (wk gD n k)) : Value) = .int (nI (wk gD n 120)) := (congrArg (fun z => Value.int (nI z)) e1.1.symm); rw [e9] at hl; exact hl
        replace hl : lv_has ls 6 [(0, .ref mo), (1, .int (nI (wk gD n 120))), (2, .int (nI (wx gD n 120))), (3, .int (lastV (wk gD n k)))] := by have e9 : (.int (nI (wx gD n k)) : Value) = .int (nI (wx gD n 120)) := (congrArg (fun z => Value.int (nI z)) e1.2.symm); rw [e9] at hl; exact hl
        replace hl : lv_has ls 6 [(0, .ref mo), (1, .int (nI (wk gD n 120))), (2, .int (nI (wx gD n 120))), (3, .int (lastV (wk gD n 120)))] := by have e9 : (.int (lastV (wk gD n k)) : Value) = .int (lastV (wk gD n 120)) := (congrArg (fun z => Value.int (lastV z)) e1.1.symm); rw [e9] at hl; exact hl
        rw [← e1.1] at w1 w7
        rw [← e1.2] at w2
        refine lv_iload_n hx hb dX5_recover_66 rfl (lv_at hl 2 rfl) ?_
        refine lv_aload_n hx hb dX5_recover_67 rfl (lv_at hl 0 rfl) ?_
        refine va_get (D := G.1) (ci := 5) (v := .int (nI wi)) (C := RX5) (T := TX5) (N := 30) hx hb hts in_wsX50 hown hK hP 0 rfl rfl 7 (by decide) (hts _ wm_378) (fun _ h9 => h9) rfl dX5_recover_68 ?_
        refine f_icmp_ge (tgt := 83) (by omega) (by omega) hx hb dX5_recover_71 (by decide) (fun c_71 => ?_) (fun c_71 => ?_)
        · skip
          exfalso; omega
        · skip
          refine lv_aload_n hx hb dX5_recover_74 rfl (lv_at hl 0 rfl) ?_
          refine va_get (D := G.1) (ci := 5) (v := .int (nI wi)) (C := RX5) (T := TX5) (N := 30) hx hb hts in_wsX50 hown hK hP 0 rfl rfl 7 (by decide) (hts _ wm_378) (fun _ h9 => h9) rfl dX5_recover_75 ?_
          refine lv_iload_n hx hb dX5_recover_78 rfl (lv_at hl 2 rfl) ?_
          refine lv_isub hx hb dX5_recover_79 ?_
          refine f_top (y := nI (wi - (wx gD n 120))) (pk_sub (by omega)) ?_
          refine lv_goto (tgt := 84) hx hb dX5_recover_80 (by decide) ?_
          refine lv_istore (lv' := [(4, .int (nI (wi - (wx gD n 120)))), (0, .ref mo), (1, .int (nI (wk gD n 120))), (2, .int (nI (wx gD n 120))), (3, .int (lastV (wk gD n 120)))]) hx hb dX5_recover_84 hl (by decide) rfl (fun ls hl2 => ?_)
          replace hl := hl2; clear hl2
          refine lv_iload hx hb dX5_recover_86 (lv_at hl 0 rfl) ?_
          refine f_if_le (tgt := 104) (by omega) hx hb dX5_recover_88 (by decide) (fun c_88 => ?_) (fun c_88 => ?_)
          · skip
            exfalso; omega
          · skip
            refine lv_iload_n hx hb dX5_recover_91 rfl (lv_at hl 2 rfl) ?_
            refine lv_bipush (v := nI 12) hx hb dX5_recover_92 (by decide) ?_
            refine lv_iadd hx hb dX5_recover_94 ?_
            refine f_top (y := nI (wk gD n 120 + 12)) (nI_add _ _) ?_
            refine lv_sipush (v := nI 1200) hx hb dX5_recover_95 (by decide) ?_
            refine f_icmp_le (tgt := 104) (by omega) (by omega) hx hb dX5_recover_98 (by decide) (fun c_98 => ?_) (fun c_98 => ?_)
            · skip
              exfalso; omega
            · skip
              refine lv_bipush (v := -2) hx hb dX5_recover_101 (by decide) ?_
              exact hend (-2) (jkd9_1, jln9_2, jps9_3) _ _ _ _ rfl rfl hP hD hS dX5_recover_103
  exact L_27 ((121 - 0) + 1) 0 kd ln ps _ _ _ (Nat.lt_succ_self _) (Nat.le_refl _) hP hD hS (lv_sub hl [3, 2, 1, 0] rfl)

set_option maxRecDepth 100000 in
set_option maxHeartbeats 4000000 in
theorem kX5_recover_g (l : Launch) (G : fG) (mo : Nat) (xd : Nat) (xb : Nat) (xk : Nat) (xl : Nat) (xt : Nat) (xw : Nat) (xs : Nat) (xg : Nat) (xy : Nat) (xe : Nat) (xc : Nat) (xf : Nat) (xn : Nat) (rf : Nat) (n : Nat) (y : Nat) (nb1 : Nat) (wi : Nat) (cr : Int32) (kd : Nat) (ln : Nat) (ps : Nat) (hr : Nat) (br : Int32) (bp : Int32) (gd : Nat) (gp : Nat) (sl : Nat) (gD : Nat → UInt8) (gB : Nat → UInt8) (gK : Nat → UInt8) (gL : Nat → UInt8) (gT : Nat → UInt8) (gW : Nat → Int32) (gS : Nat → Int32) (gG : Nat → UInt8) (gY : Nat → UInt8) (gE : Nat → UInt8) (gC : Nat → UInt8) (gF : Nat → Nat) (gN : Nat → Nat) (hn : n ≤ 1200) (hwi : wi < 65536) (hz : wx gD n 120 < wi) (hf : wk gD n 120 + 12 ≤ 1200) : fMI l yX5_recover (.code yX5_recover cX5_recover 6 (some .int) :: wsA) ({ frames := 5, cells := 0, slots := 0, locals := 117 } : Room) G [.ref mo] [(mo, .inr (5, [.int (nI rf), .ref xd, .int (nI n), .int (nI y), .ref xb, .int (nI nb1), .int (nI 0), .int (nI wi), .int cr, .ref xk, .ref xl, .ref xt, .int (nI 0), .ref xw, .ref xs, .ref xg, .ref xy, .ref xe, .int (nI kd), .int (nI ln), .int (nI ps), .int (nI hr), .int br, .int bp, .int (nI gd), .int (nI gp), .int (nI sl), .ref xc, .ref xf, .ref xn])), (xd, .inl (G.2.1, 1200, .inl (nb gD))), (xb, .inl (G.2.1, 40, .inl (nb gB))), (xk, .inl (G.2.1, 16, .inl (nb gK))), (xl, .inl (G.2.1, 8, .inl (nb gL))), (xt, .inl (G.2.1, 192, .inl (nb gT))), (xw, .inl (G.2.1, 64, .inl gW)), (xs, .inl (G.2.1, 16, .inl gS)), (xg, .inl (G.2.1, 32, .inl (nb gG))), (xy, .inl (G.2.1, 16, .inl (nb gY))), (xe, .inl (G.2.1, 8, .inl (nb gE))), (xc, .inl (G.2.1, 1200, .inl (nb gC))), (xf, .inl (G.2.1, 128, .inl (nn gF))), (xn, .inl (G.2.1, 128, .inl (nn gN)))] (fun (r9 : Int32) (u : (Nat → UInt8) × (Nat → UInt8) × (Nat → UInt8) × (Nat → Int32) × (Nat → Int32) × (Nat → UInt8) × (Nat → UInt8) × (Nat → UInt8) × Nat × Nat × Nat) => r9 = nI (wi - wx gD n 120) ∧ wr2 u.1 gD (wk gD n 120) 3 2 (gapB (wi - wx gD n 120)) (tagW gK wi u.1 (wk gD n 120) (tgB gD (wk gD n 120))) 8 ∧ (∀ j, j < 8 → u.2.1 j = dgB (tagW gK wi u.1 (wk gD n 120) (tgB gD (wk gD n 120))) j)) (fun (u : (Nat → UInt8) × (Nat → UInt8) × (Nat → UInt8) × (Nat → Int32) × (Nat → Int32) × (Nat → UInt8) × (Nat → UInt8) × (Nat → UInt8) × Nat × Nat × Nat) => [(mo, .inr (5, [.int (nI 0), .ref xd, .int (nI (wk gD n 120 + (10 + 2))), .int (nI (wk gD n 120)), .ref xb, .int (nI nb1), .int (nI 1), .int (nI (wi + 1)), .int cr, .ref xk, .ref xl, .ref xt, .int (nI 0), .ref xw, .ref xs, .ref xg, .ref xy, .ref xe, .int (nI u.2.2.2.2.2.2.2.2.1), .int (nI u.2.2.2.2.2.2.2.2.2.1), .int (nI u.2.2.2.2.2.2.2.2.2.2), .int (nI hr), .int br, .int bp, .int (nI gd), .int (nI gp), .int (nI sl), .ref xc, .ref xf, .ref xn])), (xd, .inl (G.2.1, 1200, .inl (nb u.1))), (xb, .inl (G.2.1, 40, .inl (nb gB))), (xk, .inl (G.2.1, 16, .inl (nb (nextKey gK)))), (xl, .inl (G.2.1, 8, .inl (nb u.2.1))), (xt, .inl (G.2.1, 192, .inl (nb u.2.2.1))), (xw, .inl (G.2.1, 64, .inl u.2.2.2.1)), (xs, .inl (G.2.1, 16, .inl u.2.2.2.2.1)), (xg, .inl (G.2.1, 32, .inl (nb u.2.2.2.2.2.1))), (xy, .inl (G.2.1, 16, .inl (nb u.2.2.2.2.2.2.1))), (xe, .inl (G.2.1, 8, .inl (nb u.2.2.2.2.2.2.2.1))), (xc, .inl (G.2.1, 1200, .inl (nb gC))), (xf, .inl (G.2.1, 128, .inl (nn gF))), (xn, .inl (G.2.1, 128, .inl (nn gN)))]) 0 0 := by
  refine fI_start (cc := cX5_recover) (maxL := 6) (by decide) rfl (Nat.le_of_ble_eq_true rfl) ?_
  intro prg env sv mid args below meth cd A Q ls hx hb hml hown hts hin hK hP hD hE hA hS hl hend
  replace hown : sv.vm.findClass RX5 = some mid.cls := hown
  replace hP : va_P G.1 vwCl [(mo, .inr (5, [.int (nI rf), .ref xd, .int (nI n), .int (nI y), .ref xb, .int (nI nb1), .int (nI 0), .int (nI wi), .int cr, .ref xk, .ref xl, .ref xt, .int (nI 0), .ref xw, .ref xs, .ref xg, .ref xy, .ref xe, .int (nI kd), .int (nI ln), .int (nI ps), .int (nI hr), .int br, .int bp, .int (nI gd), .int (nI gp), .int (nI sl), .ref xc, .ref xf, .ref xn])), (xd, .inl (G.2.1, 1200, .inl (nb gD))), (xb, .inl (G.2.1, 40, .inl (nb gB))), (xk, .inl (G.2.1, 16, .inl (nb gK))), (xl, .inl (G.2.1, 8, .inl (nb gL))), (xt, .inl (G.2.1, 192, .inl (nb gT))), (xw, .inl (G.2.1, 64, .inl gW)), (xs, .inl (G.2.1, 16, .inl gS)), (xg, .inl (G.2.1, 32, .inl (nb gG))), (xy, .inl (G.2.1, 16, .inl (nb gY))), (xe, .inl (G.2.1, 8, .inl (nb gE))), (xc, .inl (G.2.1, 1200, .inl (nb gC))), (xf, .inl (G.2.1, 128, .inl (nn gF))), (xn, .inl (G.2.1, 128, .inl (nn gN)))] sv.heap := hP
  replace hl : lv_has ls 6 [(0, .ref mo)] := hl
  refine lv_aload_n hx hb dX5_recover_0 rfl (lv_at hl 0 rfl) ?_
  refine lv_aload_n hx hb dX5_recover_1 rfl (lv_at hl 0 rfl) ?_
  refine va_get (D := G.1) (ci := 5) (v := .int (nI 0)) (C := RX5) (T := TX5) (N := 30) hx hb hts in_wsX50 hown hK hP 0 rfl rfl 6 (by decide) (hts _ wm_263) (fun _ h9 => h9) rfl dX5_recover_2 ?_
  refine lv_if_eq (tgt := 12) hx hb dX5_recover_5 (by decide) (fun _ => ?_) (fun c9 => absurd (by decide) c9)
  refine lv_iconst (v := nI 0) hx hb dX5_recover_12 (by decide) ?_
  refine fcVI (As := [.int (nI 0)]) (rest := []) (wr := []) (ws1 := fun (u : Unit) => [(mo, .inr (5, [.int (nI 0), .ref xd, .int (nI n), .int (nI y), .ref xb, .int (nI nb1), .int (nI 0), .int (nI wi), .int cr, .ref xk, .ref xl, .ref xt, .int (nI 0), .ref xw, .ref xs, .ref xg, .ref xy, .ref xe, .int (nI kd), .int (nI ln), .int (nI ps), .int (nI hr), .int br, .int bp, .int (nI gd), .int (nI gp), .int (nI sl), .ref xc, .ref xf, .ref xn])), (xd, .inl (G.2.1, 1200, .inl (nb gD))), (xb, .inl (G.2.1, 40, .inl (nb gB))), (xk, .inl (G.2.1, 16, .inl (nb gK))), (xl, .inl (G.2.1, 8, .inl (nb gL))), (xt, .inl (G.2.1, 192, .inl (nb gT))), (xw, .inl (G.2.1, 64, .inl gW)), (xs, .inl (G.2.1, 16, .inl gS)), (xg, .inl (G.2.1, 32, .inl (nb gG))), (xy, .inl (G.2.1, 16, .inl (nb gY))), (xe, .inl (G.2.1, 8, .inl (nb gE))), (xc, .inl (G.2.1, 1200, .inl (nb gC))), (xf, .inl (G.2.1, 128, .inl (nn gF))), (xn, .inl (G.2.1, 128, .inl (nn gN)))]) ⟨hx, hb, hml, hown, hts⟩ hK hE hP hD hS hA hl.1 (kX5_refused_0 l G mo xd xb xk xl xt xw xs xg xy xe xc xf xn rf n y nb1 0 wi cr 0 kd ln ps hr br bp gd gp sl gD gB gK gL gT gW gS gG gY gE gC gF gN ) (cwV 1 hts (gdV wm_389 wm_390 wm_391 wm_267 wm_270) rfl rfl rfl (by decide +kernel) ⟨Nat.le_of_ble_eq_true rfl, Nat.le_of_ble_eq_true rfl⟩) 0 rfl rfl rfl rfl (Nat.le_of_ble_eq_true rfl) dX5_recover_13 ⟨Nat.le_of_ble_eq_true rfl, Nat.le_of_ble_eq_true rfl⟩ [0, 1, 2, 3, 4, 5, 6, 7, 8, 9, 10, 11, 12, 13] [] [0, 1, 2, 3, 4, 5, 6, 7, 8, 9, 10, 11, 12, 13] rfl rfl rfl rfl (by decide) rfl (fun _ => rfl) (fun r_13 u_13 H_13 locs_13 hw_13 hP_13 hD_13 hS_13 => ?_)
  obtain rfl := hw_13
  replace hP : va_P G.1 vwCl [(mo, .inr (5, [.int (nI 0), .ref xd, .int (nI n), .int (nI y), .ref xb, .int (nI nb1), .int (nI 0), .int (nI wi), .int cr, .ref xk, .ref xl, .ref xt, .int (nI 0), .ref xw, .ref xs, .ref xg, .ref xy, .ref xe, .int (nI kd), .int (nI ln), .int (nI ps), .int (nI hr), .int br, .int bp, .int (nI gd), .int (nI gp), .int (nI sl), .ref xc, .ref xf, .ref xn])), (xd, .inl (G.2.1, 1200, .inl (nb gD))), (xb, .inl (G.2.1, 40, .inl (nb gB))), (xk, .inl (G.2.1, 16, .inl (nb gK))), (xl, .inl (G.2.1, 8, .inl (nb gL))), (xt, .inl (G.2.1, 192, .inl (nb gT))), (xw, .inl (G.2.1, 64, .inl gW)), (xs, .inl (G.2.1, 16, .inl gS)), (xg, .inl (G.2.1, 32, .inl (nb gG))), (xy, .inl (G.2.1, 16, .inl (nb gY))), (xe, .inl (G.2.1, 8, .inl (nb gE))), (xc, .inl (G.2.1, 1200, .inl (nb gC))), (xf, .inl (G.2.1, 128, .inl (nn gF))), (xn, .inl (G.2.1, 128, .inl (nn gN)))] H_13 := hP_13
  replace hD : va_D A [(mo, .inr (5, [.int (nI 0), .ref xd, .int (nI n), .int (nI y), .ref xb, .int (nI nb1), .int (nI 0), .int (nI wi), .int cr, .ref xk, .ref xl, .ref xt, .int (nI 0), .ref xw, .ref xs, .ref xg, .ref xy, .ref xe, .int (nI kd), .int (nI ln), .int (nI ps), .int (nI hr), .int br, .int bp, .int (nI gd), .int (nI gp), .int (nI sl), .ref xc, .ref xf, .ref xn])), (xd, .inl (G.2.1, 1200, .inl (nb gD))), (xb, .inl (G.2.1, 40, .inl (nb gB))), (xk, .inl (G.2.1, 16, .inl (nb gK))), (xl, .inl (G.2.1, 8, .inl (nb gL))), (xt, .inl (G.2.1, 192, .inl (nb gT))), (xw, .inl (G.2.1, 64, .inl gW)), (xs, .inl (G.2.1, 16, .inl gS)), (xg, .inl (G.2.1, 32, .inl (nb gG))), (xy, .inl (G.2.1, 16, .inl (nb gY))), (xe, .inl (G.2.1, 8, .inl (nb gE))), (xc, .inl (G.2.1, 1200, .inl (nb gC))), (xf, .inl (G.2.1, 128, .inl (nn gF))), (xn, .inl (G.2.1, 128, .inl (nn gN)))] := hD_13
  replace hS : va_S A sv.heap H_13 locs_13 := hS_13
  clear hP_13 hD_13 hS_13
  refine lv_if_eq (tgt := 21) hx hb dX5_recover_16 (by decide) (fun _ => ?_) (fun c9 => absurd (by decide) c9)
  refine lv_iconst (v := nI 0) hx hb dX5_recover_21 (by decide) ?_
  refine lv_istore_n (lv' := [(1, .int (nI 0)), (0, .ref mo)]) hx hb dX5_recover_22 rfl hl (by decide) rfl (fun ls hl2 => ?_)
  replace hl := hl2; clear hl2
  refine lv_iconst (v := nI 0) hx hb dX5_recover_23 (by decide) ?_
  refine lv_istore_n (lv' := [(2, .int (nI 0)), (1, .int (nI 0)), (0, .ref mo)]) hx hb dX5_recover_24 rfl hl (by decide) rfl (fun ls hl2 => ?_)
  replace hl := hl2; clear hl2
  refine lv_iconst (v := -1) hx hb dX5_recover_25 (by decide) ?_
  refine lv_istore_n (lv' := [(3, .int (-1)), (2, .int (nI 0)), (1, .int (nI 0)), (0, .ref mo)]) hx hb dX5_recover_26 rfl hl (by decide) rfl (fun ls hl2 => ?_)
  replace hl := hl2; clear hl2
  have L_27 : ∀ (n9 : Nat) (k : Nat) (kd1 : Nat) (ln1 : Nat) (ps1 : Nat) (H : Heap) (locs : List Loc) (ls : Array Slot), (121 - k) < n9 → (10 * k ≤ wk gD n k) → va_P G.1 vwCl [(mo, .inr (5, [.int (nI 0), .ref xd, .int (nI n), .int (nI y), .ref xb, .int (nI nb1), .int (nI 0), .int (nI wi), .int cr, .ref xk, .ref xl, .ref xt, .int (nI 0), .ref xw, .ref xs, .ref xg, .ref xy, .ref xe, .int (nI kd1), .int (nI ln1), .int (nI ps1), .int (nI hr), .int br, .int bp, .int (nI gd), .int (nI gp), .int (nI sl), .ref xc, .ref xf, .ref xn])), (xd, .inl (G.2.1, 1200, .inl (nb gD))), (xb, .inl (G.2.1, 40, .inl (nb gB))), (xk, .inl (G.2.1, 16, .inl (nb gK))), (xl, .inl (G.2.1, 8, .inl (nb gL))), (xt, .inl (G.2.1, 192, .inl (nb gT))), (xw, .inl (G.2.1, 64, .inl gW)), (xs, .inl (G.2.1, 16, .inl gS)), (xg, .inl (G.2.1, 32, .inl (nb gG))), (xy, .inl (G.2.1, 16, .inl (nb gY))), (xe, .inl (G.2.1, 8, .inl (nb gE))), (xc, .inl (G.2.1, 1200, .inl (nb gC))), (xf, .inl (G.2.1, 128, .inl (nn gF))), (xn, .inl (G.2.1, 128, .inl (nn gN)))] H → va_D A [(mo, .inr (5, [.int (nI 0), .ref xd, .int (nI n), .int (nI y), .ref xb, .int (nI nb1), .int (nI 0), .int (nI wi), .int cr, .ref xk, .ref xl, .ref xt, .int (nI 0), .ref xw, .ref xs, .ref xg, .ref xy, .ref xe, .int (nI kd1), .int (nI ln1), .int (nI ps1), .int (nI hr), .int br, .int bp, .int (nI gd), .int (nI gp), .int (nI sl), .ref xc, .ref xf, .ref xn])), (xd, .inl (G.2.1, 1200, .inl (nb gD))), (xb, .inl (G.2.1, 40, .inl (nb gB))), (xk, .inl (G.2.1, 16, .inl (nb gK))), (xl, .inl (G.2.1, 8, .inl (nb gL))), (xt, .inl (G.2.1, 192, .inl (nb gT))), (xw, .inl (G.2.1, 64, .inl gW)), (xs, .inl (G.2.1, 16, .inl gS)), (xg, .inl (G.2.1, 32, .inl (nb gG))), (xy, .inl (G.2.1, 16, .inl (nb gY))), (xe, .inl (G.2.1, 8, .inl (nb gE))), (xc, .inl (G.2.1, 1200, .inl (nb gC))), (xf, .inl (G.2.1, 128, .inl (nn gF))), (xn, .inl (G.2.1, 128, .inl (nn gN)))] → va_S A sv.heap H locs → lv_has ls 6 [(0, .ref mo), (1, .int (nI (wk gD n k))), (2, .int (nI (wx gD n k))), (3, .int (lastV (wk gD n k)))] → W prg l env ({ frames := 5, cells := 0, slots := 0, locals := 117 } : Room) sv mid args below meth cd H locs 0 0 Q (F0 mid 27 ls []) := by
    intro n9
    induction n9 with
    | zero => intro k kd1 ln1 ps1 H locs ls hmu; exact absurd hmu (Nat.not_lt_zero _)
    | succ n9 ih_27 =>
      intro k kd1 ln1 ps1 H locs ls hmu_27 hk hP hD hS hl
      have w1 := wk_le (g := gD) (n := n) k
      have w2 := wx_le (g := gD) (n := n) k
      have w3 : k * 65536 ≤ 120 * 65536 := Nat.mul_le_mul_right _ (by omega)
      rcases Bool.eq_false_or_eq_true (whole gD n (wk gD n k)) with hw | hw
      · skip
        have w4 := whole_spec hw
        have w5 := pas_lt gD (wk gD n k)
        have w6 := bI_lt (gD (wk gD n k + 1))
        refine lv_aload_n hx hb dX5_recover_27 rfl (lv_at hl 0 rfl) ?_
        refine lv_iload_n hx hb dX5_recover_28 rfl (lv_at hl 1 rfl) ?_
        refine fcVI (As := [.int (nI (wk gD n k))]) (rest := []) (wr := []) (ws1 := fun (u : Unit) => [(mo, .inr (5, [.int (nI 0), .ref xd, .int (nI n), .int (nI y), .ref xb, .int (nI nb1), .int (nI 0), .int (nI wi), .int cr, .ref xk, .ref xl, .ref xt, .int (nI 0), .ref xw, .ref xs, .ref xg, .ref xy, .ref xe, .int (nI ((gD (wk gD n k)).toNat)), .int (nI ((gD ((wk gD n k) + 1)).toNat)), .int (nI (pas gD (wk gD n k))), .int (nI hr), .int br, .int bp, .int (nI gd), .int (nI gp), .int (nI sl), .ref xc, .ref xf, .ref xn])), (xd, .inl (G.2.1, 1200, .inl (nb gD))), (xb, .inl (G.2.1, 40, .inl (nb gB))), (xk, .inl (G.2.1, 16, .inl (nb gK))), (xl, .inl (G.2.1, 8, .inl (nb gL))), (xt, .inl (G.2.1, 192, .inl (nb gT))), (xw, .inl (G.2.1, 64, .inl gW)), (xs, .inl (G.2.1, 16, .inl gS)), (xg, .inl (G.2.1, 32, .inl (nb gG))), (xy, .inl (G.2.1, 16, .inl (nb gY))), (xe, .inl (G.2.1, 8, .inl (nb gE))), (xc, .inl (G.2.1, 1200, .inl (nb gC))), (xf, .inl (G.2.1, 128, .inl (nn gF))), (xn, .inl (G.2.1, 128, .inl (nn gN)))]) ⟨hx, hb, hml, hown, hts⟩ hK hE hP hD hS hA hl.1 (kX5_look_y l G mo xd xb xk xl xt xw xs xg xy xe xc xf xn 0 n y nb1 0 wi cr kd1 ln1 ps1 hr br bp gd gp sl gD gB gK gL gT gW gS gG gY gE gC gF gN (wk gD n k) (by omega) hw) (cwV 1 hts (gdV wm_416 wm_417 wm_418 wm_267 wm_411) rfl rfl rfl (by decide +kernel) ⟨Nat.le_of_ble_eq_true rfl, Nat.le_of_ble_eq_true rfl⟩) 0 rfl rfl rfl rfl (Nat.le_of_ble_eq_true rfl) dX5_recover_29 ⟨Nat.le_of_ble_eq_true rfl, Nat.le_of_ble_eq_true rfl⟩ [0, 1, 2, 3, 4, 5, 6, 7, 8, 9, 10, 11, 12, 13] [] [0, 1, 2, 3, 4, 5, 6, 7, 8, 9, 10, 11, 12, 13] rfl rfl rfl rfl (by decide) rfl (fun _ => rfl) (fun r_29 u_29 H_29 locs_29 hw_29 hP_29 hD_29 hS_29 => ?_)
        obtain rfl := hw_29
        replace hP : va_P G.1 vwCl [(mo, .inr (5, [.int (nI 0), .ref xd, .int (nI n), .int (nI y), .ref xb, .int (nI nb1), .int (nI 0), .int (nI wi), .int cr, .ref xk, .ref xl, .ref xt, .int (nI 0), .ref xw, .ref xs, .ref xg, .ref xy, .ref xe, .int (nI ((gD (wk gD n k)).toNat)), .int (nI ((gD ((wk gD n k) + 1)).toNat)), .int (nI (pas gD (wk gD n k))), .int (nI hr), .int br, .int bp, .int (nI gd), .int (nI gp), .int (nI sl), .ref xc, .ref xf, .ref xn])), (xd, .inl (G.2.1, 1200, .inl (nb gD))), (xb, .inl (G.2.1, 40, .inl (nb gB))), (xk, .inl (G.2.1, 16, .inl (nb gK))), (xl, .inl (G.2.1, 8, .inl (nb gL))), (xt, .inl (G.2.1, 192, .inl (nb gT))), (xw, .inl (G.2.1, 64, .inl gW)), (xs, .inl (G.2.1, 16, .inl gS)), (xg, .inl (G.2.1, 32, .inl (nb gG))), (xy, .inl (G.2.1, 16, .inl (nb gY))), (xe, .inl (G.2.1, 8, .inl (nb gE))), (xc, .inl (G.2.1, 1200, .inl (nb gC))), (xf, .inl (G.2.1, 128, .inl (nn gF))), (xn, .inl (G.2.1, 128, .inl (nn gN)))] H_29 := hP_29
        replace hD : va_D A [(mo, .inr (5, [.int (nI 0), .ref xd, .int (nI n), .int (nI y), .ref xb, .int (nI nb1), .int (nI 0), .int (nI wi), .int cr, .ref xk, .ref xl, .ref xt, .int (nI 0), .ref xw, .ref xs, .ref xg, .ref xy, .ref xe, .int (nI ((gD (wk gD n k)).toNat)), .int (nI ((gD ((wk gD n k) + 1)).toNat)), .int (nI (pas gD (wk gD n k))), .int (nI hr), .int br, .int bp, .int (nI gd), .int (nI gp), .int (nI sl), .ref xc, .ref xf, .ref xn])), (xd, .inl (G.2.1, 1200, .inl (nb gD))), (xb, .inl (G.2.1, 40, .inl (nb gB))), (xk, .inl (G.2.1, 16, .inl (nb gK))), (xl, .inl (G.2.1, 8, .inl (nb gL))), (xt, .inl (G.2.1, 192, .inl (nb gT))), (xw, .inl (G.2.1, 64, .inl gW)), (xs, .inl (G.2.1, 16, .inl gS)), (xg, .inl (G.2.1, 32, .inl (nb gG))), (xy, .inl (G.2.1, 16, .inl (nb gY))), (xe, .inl (G.2.1, 8, .inl (nb gE))), (xc, .inl (G.2.1, 1200, .inl (nb gC))), (xf, .inl (G.2.1, 128, .inl (nn gF))), (xn, .inl (G.2.1, 128, .inl (nn gN)))] := hD_29
        replace hS : va_S A sv.heap H_29 locs_29 := hS_29
        clear hP_29 hD_29 hS_29
        refine lv_if_eq (tgt := 66) hx hb dX5_recover_32 (by decide) (fun c9 => absurd c9 (by decide)) (fun _ => ?_)
        refine lv_iload_n hx hb dX5_recover_35 rfl (lv_at hl 2 rfl) ?_
        refine lv_aload_n hx hb dX5_recover_36 rfl (lv_at hl 0 rfl) ?_
        refine va_get (D := G.1) (ci := 5) (v := .int (nI (pas gD (wk gD n k)))) (C := RX5) (T := TX5) (N := 30) hx hb hts in_wsX50 hown hK hP 0 rfl rfl 20 (by decide) (hts _ wm_414) (fun _ h9 => h9) rfl dX5_recover_37 ?_
        refine lv_iadd hx hb dX5_recover_40 ?_
        refine f_top (y := nI (wx gD n k + (pas gD (wk gD n k)))) (nI_add _ _) ?_
        refine lv_iconst (v := nI 1) hx hb dX5_recover_41 (by decide) ?_
        refine lv_iadd hx hb dX5_recover_42 ?_
        refine f_top (y := nI (wx gD n k + (pas gD (wk gD n k)) + 1)) (nI_add _ _) ?_
        refine f_top (y := nI (wx gD n (k + 1))) (by rw [wx_t hw]; exact congrArg nI (by omega)) ?_
        refine lv_istore_n (lv' := [(2, .int (nI (wx gD n (k + 1)))), (0, .ref mo), (1, .int (nI (wk gD n k))), (3, .int (lastV (wk gD n k)))]) hx hb dX5_recover_43 rfl hl (by decide) rfl (fun ls hl2 => ?_)
        replace hl := hl2; clear hl2
        refine lv_iload_n hx hb dX5_recover_44 rfl (lv_at hl 2 rfl) ?_
        refine lv_iconst (v := nI 2) hx hb dX5_recover_45 (by decide) ?_
        refine lv_iadd hx hb dX5_recover_46 ?_
        refine f_top (y := nI (wk gD n k + 2)) (nI_add _ _) ?_
        refine lv_aload_n hx hb dX5_recover_47 rfl (lv_at hl 1 rfl) ?_
        refine va_get (D := G.1) (ci := 5) (v := .int (nI ((gD ((wk gD n k) + 1)).toNat))) (C := RX5) (T := TX5) (N := 30) hx hb hts in_wsX50 hown hK hP 0 rfl rfl 19 (by decide) (hts _ wm_413) (fun _ h9 => h9) rfl dX5_recover_48 ?_
        refine lv_iadd hx hb dX5_recover_51 ?_
        refine f_top (y := nI (wk gD n k + 2 + ((gD ((wk gD n k) + 1)).toNat))) (nI_add _ _) ?_
        refine f_top (y := lastV (wk gD n (k + 1))) (by rw [wk_t hw]; unfold lastV; rw [if_neg (by omega)]; exact congrArg nI (by omega)) ?_
        refine lv_istore_n (lv' := [(3, .int (lastV (wk gD n (k + 1)))), (2, .int (nI (wx gD n (k + 1)))), (0, .ref mo), (1, .int (nI (wk gD n k)))]) hx hb dX5_recover_52 rfl hl (by decide) rfl (fun ls hl2 => ?_)
        replace hl := hl2; clear hl2
        refine lv_iload_n hx hb dX5_recover_53 rfl (lv_at hl 3 rfl) ?_
        refine lv_bipush (v := nI 10) hx hb dX5_recover_54 (by decide) ?_
        refine lv_iadd hx hb dX5_recover_56 ?_
        refine f_top (y := nI (wk gD n k + 10)) (nI_add _ _) ?_
        refine lv_aload_n hx hb dX5_recover_57 rfl (lv_at hl 2 rfl) ?_
        refine va_get (D := G.1) (ci := 5) (v := .int (nI ((gD ((wk gD n k) + 1)).toNat))) (C := RX5) (T := TX5) (N := 30) hx hb hts in_wsX50 hown hK hP 0 rfl rfl 19 (by decide) (hts _ wm_413) (fun _ h9 => h9) rfl dX5_recover_58 ?_
        refine lv_iadd hx hb dX5_recover_61 ?_
        refine f_top (y := nI (wk gD n k + 10 + ((gD ((wk gD n k) + 1)).toNat))) (nI_add _ _) ?_
        refine f_top (y := nI (wk gD n (k + 1))) (by rw [wk_t hw]; exact congrArg nI (by omega)) ?_
        refine lv_istore_n (lv' := [(1, .int (nI (wk gD n (k + 1)))), (3, .int (lastV (wk gD n (k + 1)))), (2, .int (nI (wx gD n (k + 1)))), (0, .ref mo)]) hx hb dX5_recover_62 rfl hl (by decide) rfl (fun ls hl2 => ?_)
        replace hl := hl2; clear hl2
        refine lv_goto (tgt := 27) hx hb dX5_recover_63 (by decide) ?_
        exact ih_27 (k + 1) ((gD (wk gD n k)).toNat) ((gD ((wk gD n k) + 1)).toNat) (pas gD (wk gD n k)) _ _ _ (by omega) (wk_10 hk hw) hP hD hS (lv_sub hl [3, 0, 2, 1] rfl)
      · skip
        refine lv_aload_n hx hb dX5_recover_27 rfl (lv_at hl 0 rfl) ?_
        refine lv_iload_n hx hb dX5_recover_28 rfl (lv_at hl 1 rfl) ?_
        refine fcVI (As := [.int (nI (wk gD n k))]) (rest := []) (wr := []) (ws1 := fun (u : Nat × Nat × Nat) => [(mo, .inr (5, [.int (nI 0), .ref xd, .int (nI n), .int (nI y), .ref xb, .int (nI nb1), .int (nI 0), .int (nI wi), .int cr, .ref xk, .ref xl, .ref xt, .int (nI 0), .ref xw, .ref xs, .ref xg, .ref xy, .ref xe, .int (nI u.1), .int (nI u.2.1), .int (nI u.2.2), .int (nI hr), .int br, .int bp, .int (nI gd), .int (nI gp), .int (nI sl), .ref xc, .ref xf, .ref xn])), (xd, .inl (G.2.1, 1200, .inl (nb gD))), (xb, .inl (G.2.1, 40, .inl (nb gB))), (xk, .inl (G.2.1, 16, .inl (nb gK))), (xl, .inl (G.2.1, 8, .inl (nb gL))), (xt, .inl (G.2.1, 192, .inl (nb gT))), (xw, .inl (G.2.1, 64, .inl gW)), (xs, .inl (G.2.1, 16, .inl gS)), (xg, .inl (G.2.1, 32, .inl (nb gG))), (xy, .inl (G.2.1, 16, .inl (nb gY))), (xe, .inl (G.2.1, 8, .inl (nb gE))), (xc, .inl (G.2.1, 1200, .inl (nb gC))), (xf, .inl (G.2.1, 128, .inl (nn gF))), (xn, .inl (G.2.1, 128, .inl (nn gN)))]) ⟨hx, hb, hml, hown, hts⟩ hK hE hP hD hS hA hl.1 (kX5_look_n l G mo xd xb xk xl xt xw xs xg xy xe xc xf xn 0 n y nb1 0 wi cr kd1 ln1 ps1 hr br bp gd gp sl gD gB gK gL gT gW gS gG gY gE gC gF gN (wk gD n k) (by omega) (by omega) hw) (cwV 1 hts (gdV wm_416 wm_417 wm_418 wm_267 wm_411) rfl rfl rfl (by decide +kernel) ⟨Nat.le_of_ble_eq_true rfl, Nat.le_of_ble_eq_true rfl⟩) 0 rfl rfl rfl rfl (Nat.le_of_ble_eq_true rfl) dX5_recover_29 ⟨Nat.le_of_ble_eq_true rfl, Nat.le_of_ble_eq_true rfl⟩ [0, 1, 2, 3, 4, 5, 6, 7, 8, 9, 10, 11, 12, 13] [] [0, 1, 2, 3, 4, 5, 6, 7, 8, 9, 10, 11, 12, 13] rfl rfl rfl rfl (by decide) rfl (fun _ => rfl) (fun r_29_1 u_29_1 H_29_1 locs_29_1 hw_29_1 hP_29_1 hD_29_1 hS_29_1 => ?_)
        obtain ⟨jkd9_1, jln9_2, jps9_3⟩ := u_29_1
        obtain rfl := hw_29_1
        replace hP : va_P G.1 vwCl [(mo, .inr (5, [.int (nI 0), .ref xd, .int (nI n), .int (nI y), .ref xb, .int (nI nb1), .int (nI 0), .int (nI wi), .int cr, .ref xk, .ref xl, .ref xt, .int (nI 0), .ref xw, .ref xs, .ref xg, .ref xy, .ref xe, .int (nI jkd9_1), .int (nI jln9_2), .int (nI jps9_3), .int (nI hr), .int br, .int bp, .int (nI gd), .int (nI gp), .int (nI sl), .ref xc, .ref xf, .ref xn])), (xd, .inl (G.2.1, 1200, .inl (nb gD))), (xb, .inl (G.2.1, 40, .inl (nb gB))), (xk, .inl (G.2.1, 16, .inl (nb gK))), (xl, .inl (G.2.1, 8, .inl (nb gL))), (xt, .inl (G.2.1, 192, .inl (nb gT))), (xw, .inl (G.2.1, 64, .inl gW)), (xs, .inl (G.2.1, 16, .inl gS)), (xg, .inl (G.2.1, 32, .inl (nb gG))), (xy, .inl (G.2.1, 16, .inl (nb gY))), (xe, .inl (G.2.1, 8, .inl (nb gE))), (xc, .inl (G.2.1, 1200, .inl (nb gC))), (xf, .inl (G.2.1, 128, .inl (nn gF))), (xn, .inl (G.2.1, 128, .inl (nn gN)))] H_29_1 := hP_29_1
        replace hD : va_D A [(mo, .inr (5, [.int (nI 0), .ref xd, .int (nI n), .int (nI y), .ref xb, .int (nI nb1), .int (nI 0), .int (nI wi), .int cr, .ref xk, .ref xl, .ref xt, .int (nI 0), .ref xw, .ref xs, .ref xg, .ref xy, .ref xe, .int (nI jkd9_1), .int (nI jln9_2), .int (nI jps9_3), .int (nI hr), .int br, .int bp, .int (nI gd), .int (nI gp), .int (nI sl), .ref xc, .ref xf, .ref xn])), (xd, .inl (G.2.1, 1200, .inl (nb gD))), (xb, .inl (G.2.1, 40, .inl (nb gB))), (xk, .inl (G.2.1, 16, .inl (nb gK))), (xl, .inl (G.2.1, 8, .inl (nb gL))), (xt, .inl (G.2.1, 192, .inl (nb gT))), (xw, .inl (G.2.1, 64, .inl gW)), (xs, .inl (G.2.1, 16, .inl gS)), (xg, .inl (G.2.1, 32, .inl (nb gG))), (xy, .inl (G.2.1, 16, .inl (nb gY))), (xe, .inl (G.2.1, 8, .inl (nb gE))), (xc, .inl (G.2.1, 1200, .inl (nb gC))), (xf, .inl (G.2.1, 128, .inl (nn gF))), (xn, .inl (G.2.1, 128, .inl (nn gN)))] := hD_29_1
        replace hS : va_S A sv.heap H_29_1 locs_29_1 := hS_29_1
        clear hP_29_1 hD_29_1 hS_29_1
        refine lv_if_eq (tgt := 66) hx hb dX5_recover_32 (by decide) (fun _ => ?_) (fun c9 => absurd (by decide) c9)
        have e1 := wk_end (g := gD) (n := n) (k := k) (by omega) hw
        have w7 := wk_08 gD n k
        replace hl : lv_has ls 6 [(0, .ref mo), (1, .int (nI (wk gD n 120))), (2, .int (nI (wx gD n k))), (3, .int (lastV (wk gD n k)))] := by have e9 : (.int (nI (wk gD n k)) : Value) = .int (nI (wk gD n 120)) := (congrArg (fun z => Value.int (nI z)) e1.1.symm); rw [e9] at hl; exact hl
        replace hl : lv_has ls 6 [(0, .ref mo), (1, .int (nI (wk gD n 120))), (2, .int (nI (wx gD n 120))), (3, .int (lastV (wk gD n k)))] := by have e9 : (.int (nI (wx gD n k)) : Value) = .int (nI (wx gD n 120)) := (congrArg (fun z => Value.int (nI z)) e1.2.symm); rw [e9] at hl; exact hl
        replace hl : lv_has ls 6 [(0, .ref mo), (1, .int (nI (wk gD n 120))), (2, .int (nI (wx gD n 120))), (3, .int (lastV (wk gD n 120)))] := by have e9 : (.int (lastV (wk gD n k)) : Value) = .int (lastV (wk gD n 120)) := (congrArg (fun z => Value.int (lastV z)) e1.1.symm); rw [e9] at hl; exact hl
        rw [← e1.1] at w1 w7
        rw [← e1.2] at w2
        refine lv_iload_n hx hb dX5_recover_66 rfl (lv_at hl 2 rfl) ?_
        refine lv_aload_n hx hb dX5_recover_67 rfl (lv_at hl 0 rfl) ?_
        refine va_get (D := G.1) (ci := 5) (v := .int (nI wi)) (C := RX5) (T := TX5) (N := 30) hx hb hts in_wsX50 hown hK hP 0 rfl rfl 7 (by decide) (hts _ wm_378) (fun _ h9 => h9) rfl dX5_recover_68 ?_
        refine f_icmp_ge (tgt := 83) (by omega) (by omega) hx hb dX5_recover_71 (by decide) (fun c_71 => ?_) (fun c_71 => ?_)
        · skip
          exfalso; omega
        · skip
          refine lv_aload_n hx hb dX5_recover_74 rfl (lv_at hl 0 rfl) ?_
          refine va_get (D := G.1) (ci := 5) (v := .int (nI wi)) (C := RX5) (T := TX5) (N := 30) hx hb hts in_wsX50 hown hK hP 0 rfl rfl 7 (by decide) (hts _ wm_378) (fun _ h9 => h9) rfl dX5_recover_75 ?_
          refine lv_iload_n hx hb dX5_recover_78 rfl (lv_at hl 2 rfl) ?_
          refine lv_isub hx hb dX5_recover_79 ?_
          refine f_top (y := nI (wi - (wx gD n 120))) (pk_sub (by omega)) ?_
          refine lv_goto (tgt := 84) hx hb dX5_recover_80 (by decide) ?_
          refine lv_istore (lv' := [(4, .int (nI (wi - (wx gD n 120)))), (0, .ref mo), (1, .int (nI (wk gD n 120))), (2, .int (nI (wx gD n 120))), (3, .int (lastV (wk gD n 120)))]) hx hb dX5_recover_84 hl (by decide) rfl (fun ls hl2 => ?_)
          replace hl := hl2; clear hl2
          refine lv_iload hx hb dX5_recover_86 (lv_at hl 0 rfl) ?_
          refine f_if_le (tgt := 104) (by omega) hx hb dX5_recover_88 (by decide) (fun c_88 => ?_) (fun c_88 => ?_)
          · skip
            exfalso; omega
          · skip
            refine lv_iload_n hx hb dX5_recover_91 rfl (lv_at hl 2 rfl) ?_
            refine lv_bipush (v := nI 12) hx hb dX5_recover_92 (by decide) ?_
            refine lv_iadd hx hb dX5_recover_94 ?_
            refine f_top (y := nI (wk gD n 120 + 12)) (nI_add _ _) ?_
            refine lv_sipush (v := nI 1200) hx hb dX5_recover_95 (by decide) ?_
            refine f_icmp_le (tgt := 104) (by omega) (by omega) hx hb dX5_recover_98 (by decide) (fun c_98 => ?_) (fun c_98 => ?_)
            · skip
              refine lv_aload_n hx hb dX5_recover_104 rfl (lv_at hl 1 rfl) ?_
              refine lv_iload_n hx hb dX5_recover_105 rfl (lv_at hl 2 rfl) ?_
              refine va_put (D := G.1) (ci := 5) (v := .int (nI (wk gD n 120))) (ty := .int) (C := RX5) (T := TX5) (N := 30) hx hb hts in_wsX50 tyX5 tyX5_ok nmX5 hown hK hP hD hS 0 rfl rfl 2 (by decide) (hts _ wm_376) (fun _ h9 => h9) rfl (by decide +kernel) rfl rfl (Nat.le_of_ble_eq_true rfl) dX5_recover_106 (fun H_106 locs_106 hP_106 hD_106 hS_106 => ?_)
              replace hP : va_P G.1 vwCl [(mo, .inr (5, [.int (nI 0), .ref xd, .int (nI (wk gD n 120)), .int (nI y), .ref xb, .int (nI nb1), .int (nI 0), .int (nI wi), .int cr, .ref xk, .ref xl, .ref xt, .int (nI 0), .ref xw, .ref xs, .ref xg, .ref xy, .ref xe, .int (nI jkd9_1), .int (nI jln9_2), .int (nI jps9_3), .int (nI hr), .int br, .int bp, .int (nI gd), .int (nI gp), .int (nI sl), .ref xc, .ref xf, .ref xn])), (xd, .inl (G.2.1, 1200, .inl (nb gD))), (xb, .inl (G.2.1, 40, .inl (nb gB))), (xk, .inl (G.2.1, 16, .inl (nb gK))), (xl, .inl (G.2.1, 8, .inl (nb gL))), (xt, .inl (G.2.1, 192, .inl (nb gT))), (xw, .inl (G.2.1, 64, .inl gW)), (xs, .inl (G.2.1, 16, .inl gS)), (xg, .inl (G.2.1, 32, .inl (nb gG))), (xy, .inl (G.2.1, 16, .inl (nb gY))), (xe, .inl (G.2.1, 8, .inl (nb gE))), (xc, .inl (G.2.1, 1200, .inl (nb gC))), (xf, .inl (G.2.1, 128, .inl (nn gF))), (xn, .inl (G.2.1, 128, .inl (nn gN)))] H_106 := hP_106
              replace hD : va_D A [(mo, .inr (5, [.int (nI 0), .ref xd, .int (nI (wk gD n 120)), .int (nI y), .ref xb, .int (nI nb1), .int (nI 0), .int (nI wi), .int cr, .ref xk, .ref xl, .ref xt, .int (nI 0), .ref xw, .ref xs, .ref xg, .ref xy, .ref xe, .int (nI jkd9_1), .int (nI jln9_2), .int (nI jps9_3), .int (nI hr), .int br, .int bp, .int (nI gd), .int (nI gp), .int (nI sl), .ref xc, .ref xf, .ref xn])), (xd, .inl (G.2.1, 1200, .inl (nb gD))), (xb, .inl (G.2.1, 40, .inl (nb gB))), (xk, .inl (G.2.1, 16, .inl (nb gK))), (xl, .inl (G.2.1, 8, .inl (nb gL))), (xt, .inl (G.2.1, 192, .inl (nb gT))), (xw, .inl (G.2.1, 64, .inl gW)), (xs, .inl (G.2.1, 16, .inl gS)), (xg, .inl (G.2.1, 32, .inl (nb gG))), (xy, .inl (G.2.1, 16, .inl (nb gY))), (xe, .inl (G.2.1, 8, .inl (nb gE))), (xc, .inl (G.2.1, 1200, .inl (nb gC))), (xf, .inl (G.2.1, 128, .inl (nn gF))), (xn, .inl (G.2.1, 128, .inl (nn gN)))] := hD_106
              replace hS : va_S A sv.heap H_106 locs_106 := hS_106
              clear hP_106 hD_106 hS_106
              refine lv_aload_n hx hb dX5_recover_109 rfl (lv_at hl 1 rfl) ?_
              refine lv_iload_n hx hb dX5_recover_110 rfl (lv_at hl 2 rfl) ?_
              refine va_put (D := G.1) (ci := 5) (v := .int (nI (wk gD n 120))) (ty := .int) (C := RX5) (T := TX5) (N := 30) hx hb hts in_wsX50 tyX5 tyX5_ok nmX5 hown hK hP hD hS 0 rfl rfl 3 (by decide) (hts _ wm_377) (fun _ h9 => h9) rfl (by decide +kernel) rfl rfl (Nat.le_of_ble_eq_true rfl) dX5_recover_111 (fun H_111 locs_111 hP_111 hD_111 hS_111 => ?_)
              replace hP : va_P G.1 vwCl [(mo, .inr (5, [.int (nI 0), .ref xd, .int (nI (wk gD n 120)), .int (nI (wk gD n 120)), .ref xb, .int (nI nb1), .int (nI 0), .int (nI wi), .int cr, .ref xk, .ref xl, .ref xt, .int (nI 0), .ref xw, .ref xs, .ref xg, .ref xy, .ref xe, .int (nI jkd9_1), .int (nI jln9_2), .int (nI jps9_3), .int (nI hr), .int br, .int bp, .int (nI gd), .int (nI gp), .int (nI sl), .ref xc, .ref xf, .ref xn])), (xd, .inl (G.2.1, 1200, .inl (nb gD))), (xb, .inl (G.2.1, 40, .inl (nb gB))), (xk, .inl (G.2.1, 16, .inl (nb gK))), (xl, .inl (G.2.1, 8, .inl (nb gL))), (xt, .inl (G.2.1, 192, .inl (nb gT))), (xw, .inl (G.2.1, 64, .inl gW)), (xs, .inl (G.2.1, 16, .inl gS)), (xg, .inl (G.2.1, 32, .inl (nb gG))), (xy, .inl (G.2.1, 16, .inl (nb gY))), (xe, .inl (G.2.1, 8, .inl (nb gE))), (xc, .inl (G.2.1, 1200, .inl (nb gC))), (xf, .inl (G.2.1, 128, .inl (nn gF))), (xn, .inl (G.2.1, 128, .inl (nn gN)))] H_111 := hP_111
              replace hD : va_D A [(mo, .inr (5, [.int (nI 0), .ref xd, .int (nI (wk gD n 120)), .int (nI (wk gD n 120)), .ref xb, .int (nI nb1), .int (nI 0), .int (nI wi), .int cr, .ref xk, .ref xl, .ref xt, .int (nI 0), .ref xw, .ref xs, .ref xg, .ref xy, .ref xe, .int (nI jkd9_1), .int (nI jln9_2), .int (nI jps9_3), .int (nI hr), .int br, .int bp, .int (nI gd), .int (nI gp), .int (nI sl), .ref xc, .ref xf, .ref xn])), (xd, .inl (G.2.1, 1200, .inl (nb gD))), (xb, .inl (G.2.1, 40, .inl (nb gB))), (xk, .inl (G.2.1, 16, .inl (nb gK))), (xl, .inl (G.2.1, 8, .inl (nb gL))), (xt, .inl (G.2.1, 192, .inl (nb gT))), (xw, .inl (G.2.1, 64, .inl gW)), (xs, .inl (G.2.1, 16, .inl gS)), (xg, .inl (G.2.1, 32, .inl (nb gG))), (xy, .inl (G.2.1, 16, .inl (nb gY))), (xe, .inl (G.2.1, 8, .inl (nb gE))), (xc, .inl (G.2.1, 1200, .inl (nb gC))), (xf, .inl (G.2.1, 128, .inl (nn gF))), (xn, .inl (G.2.1, 128, .inl (nn gN)))] := hD_111
              replace hS : va_S A sv.heap H_111 locs_111 := hS_111
              clear hP_111 hD_111 hS_111
              refine lv_aload_n hx hb dX5_recover_114 rfl (lv_at hl 1 rfl) ?_
              refine lv_iconst (v := nI 1) hx hb dX5_recover_115 (by decide) ?_
              refine va_put (D := G.1) (ci := 5) (v := .int (nI 1)) (ty := .boolean) (C := RX5) (T := TX5) (N := 30) hx hb hts in_wsX50 tyX5 tyX5_ok nmX5 hown hK hP hD hS 0 rfl rfl 6 (by decide) (hts _ wm_263) (fun _ h9 => h9) rfl (by decide +kernel) rfl rfl (Nat.le_of_ble_eq_true rfl) dX5_recover_116 (fun H_116 locs_116 hP_116 hD_116 hS_116 => ?_)
              replace hP : va_P G.1 vwCl [(mo, .inr (5, [.int (nI 0), .ref xd, .int (nI (wk gD n 120)), .int (nI (wk gD n 120)), .ref xb, .int (nI nb1), .int (nI 1), .int (nI wi), .int cr, .ref xk, .ref xl, .ref xt, .int (nI 0), .ref xw, .ref xs, .ref xg, .ref xy, .ref xe, .int (nI jkd9_1), .int (nI jln9_2), .int (nI jps9_3), .int (nI hr), .int br, .int bp, .int (nI gd), .int (nI gp), .int (nI sl), .ref xc, .ref xf, .ref xn])), (xd, .inl (G.2.1, 1200, .inl (nb gD))), (xb, .inl (G.2.1, 40, .inl (nb gB))), (xk, .inl (G.2.1, 16, .inl (nb gK))), (xl, .inl (G.2.1, 8, .inl (nb gL))), (xt, .inl (G.2.1, 192, .inl (nb gT))), (xw, .inl (G.2.1, 64, .inl gW)), (xs, .inl (G.2.1, 16, .inl gS)), (xg, .inl (G.2.1, 32, .inl (nb gG))), (xy, .inl (G.2.1, 16, .inl (nb gY))), (xe, .inl (G.2.1, 8, .inl (nb gE))), (xc, .inl (G.2.1, 1200, .inl (nb gC))), (xf, .inl (G.2.1, 128, .inl (nn gF))), (xn, .inl (G.2.1, 128, .inl (nn gN)))] H_116 := hP_116
              replace hD : va_D A [(mo, .inr (5, [.int (nI 0), .ref xd, .int (nI (wk gD n 120)), .int (nI (wk gD n 120)), .ref xb, .int (nI nb1), .int (nI 1), .int (nI wi), .int cr, .ref xk, .ref xl, .ref xt, .int (nI 0), .ref xw, .ref xs, .ref xg, .ref xy, .ref xe, .int (nI jkd9_1), .int (nI jln9_2), .int (nI jps9_3), .int (nI hr), .int br, .int bp, .int (nI gd), .int (nI gp), .int (nI sl), .ref xc, .ref xf, .ref xn])), (xd, .inl (G.2.1, 1200, .inl (nb gD))), (xb, .inl (G.2.1, 40, .inl (nb gB))), (xk, .inl (G.2.1, 16, .inl (nb gK))), (xl, .inl (G.2.1, 8, .inl (nb gL))), (xt, .inl (G.2.1, 192, .inl (nb gT))), (xw, .inl (G.2.1, 64, .inl gW)), (xs, .inl (G.2.1, 16, .inl gS)), (xg, .inl (G.2.1, 32, .inl (nb gG))), (xy, .inl (G.2.1, 16, .inl (nb gY))), (xe, .inl (G.2.1, 8, .inl (nb gE))), (xc, .inl (G.2.1, 1200, .inl (nb gC))), (xf, .inl (G.2.1, 128, .inl (nn gF))), (xn, .inl (G.2.1, 128, .inl (nn gN)))] := hD_116
              replace hS : va_S A sv.heap H_116 locs_116 := hS_116
              clear hP_116 hD_116 hS_116
              refine lv_iconst (v := nI 0) hx hb dX5_recover_119 (by decide) ?_
              refine lv_istore (lv' := [(5, .int (nI 0)), (4, .int (nI (wi - (wx gD n 120)))), (0, .ref mo), (1, .int (nI (wk gD n 120))), (2, .int (nI (wx gD n 120))), (3, .int (lastV (wk gD n 120)))]) hx hb dX5_recover_120 hl (by decide) rfl (fun ls hl2 => ?_)
              replace hl := hl2; clear hl2
              rcases w7 with ha0 | ha0
              · skip
                replace hl : lv_has ls 6 [(5, .int (nI 0)), (4, .int (nI (wi - (wx gD n 120)))), (0, .ref mo), (1, .int (nI (wk gD n 120))), (2, .int (nI (wx gD n 120))), (3, .int (-1))] := by have e9 : (.int (lastV (wk gD n 120)) : Value) = .int (-1) := (by rw [ha0]; rfl); rw [e9] at hl; exact hl
                have L_122 : ∀ (n9 : Nat) (k9 : Nat) (L1 : Nat → UInt8) (H : Heap) (locs : List Loc) (ls : Array Slot), (9 - k9) < n9 → (k9 ≤ 8) → (∀ j, j < k9 → L1 j = tgB gD (wk gD n 120) j) → va_P G.1 vwCl [(mo, .inr (5, [.int (nI 0), .ref xd, .int (nI (wk gD n 120)), .int (nI (wk gD n 120)), .ref xb, .int (nI nb1), .int (nI 1), .int (nI wi), .int cr, .ref xk, .ref xl, .ref xt, .int (nI 0), .ref xw, .ref xs, .ref xg, .ref xy, .ref xe, .int (nI jkd9_1), .int (nI jln9_2), .int (nI jps9_3), .int (nI hr), .int br, .int bp, .int (nI gd), .int (nI gp), .int (nI sl), .ref xc, .ref xf, .ref xn])), (xd, .inl (G.2.1, 1200, .inl (nb gD))), (xb, .inl (G.2.1, 40, .inl (nb gB))), (xk, .inl (G.2.1, 16, .inl (nb gK))), (xl, .inl (G.2.1, 8, .inl (nb L1))), (xt, .inl (G.2.1, 192, .inl (nb gT))), (xw, .inl (G.2.1, 64, .inl gW)), (xs, .inl (G.2.1, 16, .inl gS)), (xg, .inl (G.2.1, 32, .inl (nb gG))), (xy, .inl (G.2.1, 16, .inl (nb gY))), (xe, .inl (G.2.1, 8, .inl (nb gE))), (xc, .inl (G.2.1, 1200, .inl (nb gC))), (xf, .inl (G.2.1, 128, .inl (nn gF))), (xn, .inl (G.2.1, 128, .inl (nn gN)))] H → va_D A [(mo, .inr (5, [.int (nI 0), .ref xd, .int (nI (wk gD n 120)), .int (nI (wk gD n 120)), .ref xb, .int (nI nb1), .int (nI 1), .int (nI wi), .int cr, .ref xk, .ref xl, .ref xt, .int (nI 0), .ref xw, .ref xs, .ref xg, .ref xy, .ref xe, .int (nI jkd9_1), .int (nI jln9_2), .int (nI jps9_3), .int (nI hr), .int br, .int bp, .int (nI gd), .int (nI gp), .int (nI sl), .ref xc, .ref xf, .ref xn])), (xd, .inl (G.2.1, 1200, .inl (nb gD))), (xb, .inl (G.2.1, 40, .inl (nb gB))), (xk, .inl (G.2.1, 16, .inl (nb gK))), (xl, .inl (G.2.1, 8, .inl (nb L1))), (xt, .inl (G.2.1, 192, .inl (nb gT))), (xw, .inl (G.2.1, 64, .inl gW)), (xs, .inl (G.2.1, 16, .inl gS)), (xg, .inl (G.2.1, 32, .inl (nb gG))), (xy, .inl (G.2.1, 16, .inl (nb gY))), (xe, .inl (G.2.1, 8, .inl (nb gE))), (xc, .inl (G.2.1, 1200, .inl (nb gC))), (xf, .inl (G.2.1, 128, .inl (nn gF))), (xn, .inl (G.2.1, 128, .inl (nn gN)))] → va_S A sv.heap H locs → lv_has ls 6 [(0, .ref mo), (1, .int (nI (wk gD n 120))), (3, .int (-1)), (4, .int (nI (wi - (wx gD n 120)))), (5, .int (nI k9))] → W prg l env ({ frames := 5, cells := 0, slots := 0, locals := 117 } : Room) sv mid args below meth cd H locs 0 0 Q (F0 mid 122 ls []) := by
                  intro n9
                  induction n9 with
                  | zero => intro k9 L1 H locs ls hmu; exact absurd hmu (Nat.not_lt_zero _)
                  | succ n9 ih_122 =>
                    intro k9 L1 H locs ls hmu_122 hk9 hL hP hD hS hl
                    refine lv_iload hx hb dX5_recover_122 (lv_at hl 4 rfl) ?_
                    refine lv_bipush (v := nI 8) hx hb dX5_recover_124 (by decide) ?_
                    refine f_icmp_ge (tgt := 159) (by omega) (by omega) hx hb dX5_recover_126 (by decide) (fun c_126 => ?_) (fun c_126 => ?_)
                    · skip
                      obtain rfl : k9 = 8 := by omega
                      replace hP : va_P G.1 vwCl [(mo, .inr (5, [.int (nI 0), .ref xd, .int (nI (wk gD n 120)), .int (nI (wk gD n 120)), .ref xb, .int (nI nb1), .int (nI 1), .int (nI wi), .int cr, .ref xk, .ref xl, .ref xt, .int (nI 0), .ref xw, .ref xs, .ref xg, .ref xy, .ref xe, .int (nI jkd9_1), .int (nI jln9_2), .int (nI jps9_3), .int (nI hr), .int br, .int bp, .int (nI gd), .int (nI gp), .int (nI sl), .ref xc, .ref xf, .ref xn])), (xd, .inl (G.2.1, 1200, .inl (nb gD))), (xb, .inl (G.2.1, 40, .inl (nb gB))), (xk, .inl (G.2.1, 16, .inl (nb gK))), (xl, .inl (G.2.1, 8, .inl (nb (tgB gD (wk gD n 120))))), (xt, .inl (G.2.1, 192, .inl (nb gT))), (xw, .inl (G.2.1, 64, .inl gW)), (xs, .inl (G.2.1, 16, .inl gS)), (xg, .inl (G.2.1, 32, .inl (nb gG))), (xy, .inl (G.2.1, 16, .inl (nb gY))), (xe, .inl (G.2.1, 8, .inl (nb gE))), (xc, .inl (G.2.1, 1200, .inl (nb gC))), (xf, .inl (G.2.1, 128, .inl (nn gF))), (xn, .inl (G.2.1, 128, .inl (nn gN)))] H := f_row hP 4 rfl (nb (tgB gD (wk gD n 120))) (fun j hj => congrArg bI (hL j hj))
                      replace hD : va_D A [(mo, .inr (5, [.int (nI 0), .ref xd, .int (nI (wk gD n 120)), .int (nI (wk gD n 120)), .ref xb, .int (nI nb1), .int (nI 1), .int (nI wi), .int cr, .ref xk, .ref xl, .ref xt, .int (nI 0), .ref xw, .ref xs, .ref xg, .ref xy, .ref xe, .int (nI jkd9_1), .int (nI jln9_2), .int (nI jps9_3), .int (nI hr), .int br, .int bp, .int (nI gd), .int (nI gp), .int (nI sl), .ref xc, .ref xf, .ref xn])), (xd, .inl (G.2.1, 1200, .inl (nb gD))), (xb, .inl (G.2.1, 40, .inl (nb gB))), (xk, .inl (G.2.1, 16, .inl (nb gK))), (xl, .inl (G.2.1, 8, .inl (nb (tgB gD (wk gD n 120))))), (xt, .inl (G.2.1, 192, .inl (nb gT))), (xw, .inl (G.2.1, 64, .inl gW)), (xs, .inl (G.2.1, 16, .inl gS)), (xg, .inl (G.2.1, 32, .inl (nb gG))), (xy, .inl (G.2.1, 16, .inl (nb gY))), (xe, .inl (G.2.1, 8, .inl (nb gE))), (xc, .inl (G.2.1, 1200, .inl (nb gC))), (xf, .inl (G.2.1, 128, .inl (nn gF))), (xn, .inl (G.2.1, 128, .inl (nn gN)))] := f_rowD hD 4 rfl
                      refine lv_iload hx hb dX5_recover_159 (lv_at hl 3 rfl) ?_
                      refine f_if_le (tgt := 227) (by omega) hx hb dX5_recover_161 (by decide) (fun c_161 => ?_) (fun c_161 => ?_)
                      · skip
                        exfalso; omega
                      · skip
                        refine lv_aload_n hx hb dX5_recover_164 rfl (lv_at hl 0 rfl) ?_
                        refine va_get (D := G.1) (ci := 5) (v := .ref xd) (C := RX5) (T := TX5) (N := 30) hx hb hts in_wsX50 hown hK hP 0 rfl rfl 1 (by decide) (hts _ wm_250) (fun _ h9 => h9) rfl dX5_recover_165 ?_
                        refine lv_aload_n hx hb dX5_recover_168 rfl (lv_at hl 0 rfl) ?_
                        refine va_get (D := G.1) (ci := 5) (v := .int (nI (wk gD n 120))) (C := RX5) (T := TX5) (N := 30) hx hb hts in_wsX50 hown hK hP 0 rfl rfl 2 (by decide) (hts _ wm_376) (fun _ h9 => h9) rfl dX5_recover_169 ?_
                        refine lv_iconst (v := nI 3) hx hb dX5_recover_172 (by decide) ?_
                        refine f_iast hx hb hK hP hD hS 1 rfl (by omega) (by decide) dX5_recover_173 (fun H_173 locs_173 hP_173 hD_173 hS_173 => ?_)
                        replace hP_173 : va_P G.1 vwCl [(mo, .inr (5, [.int (nI 0), .ref xd, .int (nI (wk gD n 120)), .int (nI (wk gD n 120)), .ref xb, .int (nI nb1), .int (nI 1), .int (nI wi), .int cr, .ref xk, .ref xl, .ref xt, .int (nI 0), .ref xw, .ref xs, .ref xg, .ref xy, .ref xe, .int (nI jkd9_1), .int (nI jln9_2), .int (nI jps9_3), .int (nI hr), .int br, .int bp, .int (nI gd), .int (nI gp), .int (nI sl), .ref xc, .ref xf, .ref xn])), (xd, .inl (G.2.1, 1200, .inl (nb (upb gD (wk gD n 120) (UInt8.ofNat 3))))), (xb, .inl (G.2.1, 40, .inl (nb gB))), (xk, .inl (G.2.1, 16, .inl (nb gK))), (xl, .inl (G.2.1, 8, .inl (nb (tgB gD (wk gD n 120))))), (xt, .inl (G.2.1, 192, .inl (nb gT))), (xw, .inl (G.2.1, 64, .inl gW)), (xs, .inl (G.2.1, 16, .inl gS)), (xg, .inl (G.2.1, 32, .inl (nb gG))), (xy, .inl (G.2.1, 16, .inl (nb gY))), (xe, .inl (G.2.1, 8, .inl (nb gE))), (xc, .inl (G.2.1, 1200, .inl (nb gC))), (xf, .inl (G.2.1, 128, .inl (nn gF))), (xn, .inl (G.2.1, 128, .inl (nn gN)))] H_173 := by have h9 := hP_173; rw [upd_nbl (m := 3) (by decide)] at h9; exact h9
                        replace hD_173 : va_D A [(mo, .inr (5, [.int (nI 0), .ref xd, .int (nI (wk gD n 120)), .int (nI (wk gD n 120)), .ref xb, .int (nI nb1), .int (nI 1), .int (nI wi), .int cr, .ref xk, .ref xl, .ref xt, .int (nI 0), .ref xw, .ref xs, .ref xg, .ref xy, .ref xe, .int (nI jkd9_1), .int (nI jln9_2), .int (nI jps9_3), .int (nI hr), .int br, .int bp, .int (nI gd), .int (nI gp), .int (nI sl), .ref xc, .ref xf, .ref xn])), (xd, .inl (G.2.1, 1200, .inl (nb (upb gD (wk gD n 120) (UInt8.ofNat 3))))), (xb, .inl (G.2.1, 40, .inl (nb gB))), (xk, .inl (G.2.1, 16, .inl (nb gK))), (xl, .inl (G.2.1, 8, .inl (nb (tgB gD (wk gD n 120))))), (xt, .inl (G.2.1, 192, .inl (nb gT))), (xw, .inl (G.2.1, 64, .inl gW)), (xs, .inl (G.2.1, 16, .inl gS)), (xg, .inl (G.2.1, 32, .inl (nb gG))), (xy, .inl (G.2.1, 16, .inl (nb gY))), (xe, .inl (G.2.1, 8, .inl (nb gE))), (xc, .inl (G.2.1, 1200, .inl (nb gC))), (xf, .inl (G.2.1, 128, .inl (nn gF))), (xn, .inl (G.2.1, 128, .inl (nn gN)))] := hD.set (p := 1) rfl
                        replace hP : va_P G.1 vwCl [(mo, .inr (5, [.int (nI 0), .ref xd, .int (nI (wk gD n 120)), .int (nI (wk gD n 120)), .ref xb, .int (nI nb1), .int (nI 1), .int (nI wi), .int cr, .ref xk, .ref xl, .ref xt, .int (nI 0), .ref xw, .ref xs, .ref xg, .ref xy, .ref xe, .int (nI jkd9_1), .int (nI jln9_2), .int (nI jps9_3), .int (nI hr), .int br, .int bp, .int (nI gd), .int (nI gp), .int (nI sl), .ref xc, .ref xf, .ref xn])), (xd, .inl (G.2.1, 1200, .inl (nb (upb gD (wk gD n 120) (UInt8.ofNat 3))))), (xb, .inl (G.2.1, 40, .inl (nb gB))), (xk, .inl (G.2.1, 16, .inl (nb gK))), (xl, .inl (G.2.1, 8, .inl (nb (tgB gD (wk gD n 120))))), (xt, .inl (G.2.1, 192, .inl (nb gT))), (xw, .inl (G.2.1, 64, .inl gW)), (xs, .inl (G.2.1, 16, .inl gS)), (xg, .inl (G.2.1, 32, .inl (nb gG))), (xy, .inl (G.2.1, 16, .inl (nb gY))), (xe, .inl (G.2.1, 8, .inl (nb gE))), (xc, .inl (G.2.1, 1200, .inl (nb gC))), (xf, .inl (G.2.1, 128, .inl (nn gF))), (xn, .inl (G.2.1, 128, .inl (nn gN)))] H_173 := hP_173
                        replace hD : va_D A [(mo, .inr (5, [.int (nI 0), .ref xd, .int (nI (wk gD n 120)), .int (nI (wk gD n 120)), .ref xb, .int (nI nb1), .int (nI 1), .int (nI wi), .int cr, .ref xk, .ref xl, .ref xt, .int (nI 0), .ref xw, .ref xs, .ref xg, .ref xy, .ref xe, .int (nI jkd9_1), .int (nI jln9_2), .int (nI jps9_3), .int (nI hr), .int br, .int bp, .int (nI gd), .int (nI gp), .int (nI sl), .ref xc, .ref xf, .ref xn])), (xd, .inl (G.2.1, 1200, .inl (nb (upb gD (wk gD n 120) (UInt8.ofNat 3))))), (xb, .inl (G.2.1, 40, .inl (nb gB))), (xk, .inl (G.2.1, 16, .inl (nb gK))), (xl, .inl (G.2.1, 8, .inl (nb (tgB gD (wk gD n 120))))), (xt, .inl (G.2.1, 192, .inl (nb gT))), (xw, .inl (G.2.1, 64, .inl gW)), (xs, .inl (G.2.1, 16, .inl gS)), (xg, .inl (G.2.1, 32, .inl (nb gG))), (xy, .inl (G.2.1, 16, .inl (nb gY))), (xe, .inl (G.2.1, 8, .inl (nb gE))), (xc, .inl (G.2.1, 1200, .inl (nb gC))), (xf, .inl (G.2.1, 128, .inl (nn gF))), (xn, .inl (G.2.1, 128, .inl (nn gN)))] := hD_173
                        replace hS : va_S A sv.heap H_173 locs_173 := hS_173
                        clear hP_173 hD_173 hS_173
                        refine lv_aload_n hx hb dX5_recover_174 rfl (lv_at hl 0 rfl) ?_
                        refine va_get (D := G.1) (ci := 5) (v := .ref xd) (C := RX5) (T := TX5) (N := 30) hx hb hts in_wsX50 hown hK hP 0 rfl rfl 1 (by decide) (hts _ wm_250) (fun _ h9 => h9) rfl dX5_recover_175 ?_
                        refine lv_aload_n hx hb dX5_recover_178 rfl (lv_at hl 0 rfl) ?_
                        refine va_get (D := G.1) (ci := 5) (v := .int (nI (wk gD n 120))) (C := RX5) (T := TX5) (N := 30) hx hb hts in_wsX50 hown hK hP 0 rfl rfl 2 (by decide) (hts _ wm_376) (fun _ h9 => h9) rfl dX5_recover_179 ?_
                        refine lv_iconst (v := nI 1) hx hb dX5_recover_182 (by decide) ?_
                        refine lv_iadd hx hb dX5_recover_183 ?_
                        refine f_top (y := nI (wk gD n 120 + 1)) (nI_add _ _) ?_
                        refine lv_iconst (v := nI 2) hx hb dX5_recover_184 (by decide) ?_
                        refine f_iast hx hb hK hP hD hS 1 rfl (by omega) (by decide) dX5_recover_185 (fun H_185 locs_185 hP_185 hD_185 hS_185 => ?_)
                        replace hP_185 : va_P G.1 vwCl [(mo, .inr (5, [.int (nI 0), .ref xd, .int (nI (wk gD n 120)), .int (nI (wk gD n 120)), .ref xb, .int (nI nb1), .int (nI 1), .int (nI wi), .int cr, .ref xk, .ref xl, .ref xt, .int (nI 0), .ref xw, .ref xs, .ref xg, .ref xy, .ref xe, .int (nI jkd9_1), .int (nI jln9_2), .int (nI jps9_3), .int (nI hr), .int br, .int bp, .int (nI gd), .int (nI gp), .int (nI sl), .ref xc, .ref xf, .ref xn])), (xd, .inl (G.2.1, 1200, .inl (nb (upb (upb gD (wk gD n 120) (UInt8.ofNat 3)) (wk gD n 120 + 1) (UInt8.ofNat 2))))), (xb, .inl (G.2.1, 40, .inl (nb gB))), (xk, .inl (G.2.1, 16, .inl (nb gK))), (xl, .inl (G.2.1, 8, .inl (nb (tgB gD (wk gD n 120))))), (xt, .inl (G.2.1, 192, .inl (nb gT))), (xw, .inl (G.2.1, 64, .inl gW)), (xs, .inl (G.2.1, 16, .inl gS)), (xg, .inl (G.2.1, 32, .inl (nb gG))), (xy, .inl (G.2.1, 16, .inl (nb gY))), (xe, .inl (G.2.1, 8, .inl (nb gE))), (xc, .inl (G.2.1, 1200, .inl (nb gC))), (xf, .inl (G.2.1, 128, .inl (nn gF))), (xn, .inl (G.2.1, 128, .inl (nn gN)))] H_185 := by have h9 := hP_185; rw [upd_nbl (m := 2) (by decide)] at h9; exact h9
                        replace hD_185 : va_D A [(mo, .inr (5, [.int (nI 0), .ref xd, .int (nI (wk gD n 120)), .int (nI (wk gD n 120)), .ref xb, .int (nI nb1), .int (nI 1), .int (nI wi), .int cr, .ref xk, .ref xl, .ref xt, .int (nI 0), .ref xw, .ref xs, .ref xg, .ref xy, .ref xe, .int (nI jkd9_1), .int (nI jln9_2), .int (nI jps9_3), .int (nI hr), .int br, .int bp, .int (nI gd), .int (nI gp), .int (nI sl), .ref xc, .ref xf, .ref xn])), (xd, .inl (G.2.1, 1200, .inl (nb (upb (upb gD (wk gD n 120) (UInt8.ofNat 3)) (wk gD n 120 + 1) (UInt8.ofNat 2))))), (xb, .inl (G.2.1, 40, .inl (nb gB))), (xk, .inl (G.2.1, 16, .inl (nb gK))), (xl, .inl (G.2.1, 8, .inl (nb (tgB gD (wk gD n 120))))), (xt, .inl (G.2.1, 192, .inl (nb gT))), (xw, .inl (G.2.1, 64, .inl gW)), (xs, .inl (G.2.1, 16, .inl gS)), (xg, .inl (G.2.1, 32, .inl (nb gG))), (xy, .inl (G.2.1, 16, .inl (nb gY))), (xe, .inl (G.2.1, 8, .inl (nb gE))), (xc, .inl (G.2.1, 1200, .inl (nb gC))), (xf, .inl (G.2.1, 128, .inl (nn gF))), (xn, .inl (G.2.1, 128, .inl (nn gN)))] := hD.set (p := 1) rfl
                        replace hP : va_P G.1 vwCl [(mo, .inr (5, [.int (nI 0), .ref xd, .int (nI (wk gD n 120)), .int (nI (wk gD n 120)), .ref xb, .int (nI nb1), .int (nI 1), .int (nI wi), .int cr, .ref xk, .ref xl, .ref xt, .int (nI 0), .ref xw, .ref xs, .ref xg, .ref xy, .ref xe, .int (nI jkd9_1), .int (nI jln9_2), .int (nI jps9_3), .int (nI hr), .int br, .int bp, .int (nI gd), .int (nI gp), .int (nI sl), .ref xc, .ref xf, .ref xn])), (xd, .inl (G.2.1, 1200, .inl (nb (upb (upb gD (wk gD n 120) (UInt8.ofNat 3)) (wk gD n 120 + 1) (UInt8.ofNat 2))))), (xb, .inl (G.2.1, 40, .inl (nb gB))), (xk, .inl (G.2.1, 16, .inl (nb gK))), (xl, .inl (G.2.1, 8, .inl (nb (tgB gD (wk gD n 120))))), (xt, .inl (G.2.1, 192, .inl (nb gT))), (xw, .inl (G.2.1, 64, .inl gW)), (xs, .inl (G.2.1, 16, .inl gS)), (xg, .inl (G.2.1, 32, .inl (nb gG))), (xy, .inl (G.2.1, 16, .inl (nb gY))), (xe, .inl (G.2.1, 8, .inl (nb gE))), (xc, .inl (G.2.1, 1200, .inl (nb gC))), (xf, .inl (G.2.1, 128, .inl (nn gF))), (xn, .inl (G.2.1, 128, .inl (nn gN)))] H_185 := hP_185
                        replace hD : va_D A [(mo, .inr (5, [.int (nI 0), .ref xd, .int (nI (wk gD n 120)), .int (nI (wk gD n 120)), .ref xb, .int (nI nb1), .int (nI 1), .int (nI wi), .int cr, .ref xk, .ref xl, .ref xt, .int (nI 0), .ref xw, .ref xs, .ref xg, .ref xy, .ref xe, .int (nI jkd9_1), .int (nI jln9_2), .int (nI jps9_3), .int (nI hr), .int br, .int bp, .int (nI gd), .int (nI gp), .int (nI sl), .ref xc, .ref xf, .ref xn])), (xd, .inl (G.2.1, 1200, .inl (nb (upb (upb gD (wk gD n 120) (UInt8.ofNat 3)) (wk gD n 120 + 1) (UInt8.ofNat 2))))), (xb, .inl (G.2.1, 40, .inl (nb gB))), (xk, .inl (G.2.1, 16, .inl (nb gK))), (xl, .inl (G.2.1, 8, .inl (nb (tgB gD (wk gD n 120))))), (xt, .inl (G.2.1, 192, .inl (nb gT))), (xw, .inl (G.2.1, 64, .inl gW)), (xs, .inl (G.2.1, 16, .inl gS)), (xg, .inl (G.2.1, 32, .inl (nb gG))), (xy, .inl (G.2.1, 16, .inl (nb gY))), (xe, .inl (G.2.1, 8, .inl (nb gE))), (xc, .inl (G.2.1, 1200, .inl (nb gC))), (xf, .inl (G.2.1, 128, .inl (nn gF))), (xn, .inl (G.2.1, 128, .inl (nn gN)))] := hD_185
                        replace hS : va_S A sv.heap H_185 locs_185 := hS_185
                        clear hP_185 hD_185 hS_185
                        refine lv_aload_n hx hb dX5_recover_186 rfl (lv_at hl 0 rfl) ?_
                        refine va_get (D := G.1) (ci := 5) (v := .ref xd) (C := RX5) (T := TX5) (N := 30) hx hb hts in_wsX50 hown hK hP 0 rfl rfl 1 (by decide) (hts _ wm_250) (fun _ h9 => h9) rfl dX5_recover_187 ?_
                        refine lv_aload_n hx hb dX5_recover_190 rfl (lv_at hl 0 rfl) ?_
                        refine va_get (D := G.1) (ci := 5) (v := .int (nI (wk gD n 120))) (C := RX5) (T := TX5) (N := 30) hx hb hts in_wsX50 hown hK hP 0 rfl rfl 2 (by decide) (hts _ wm_376) (fun _ h9 => h9) rfl dX5_recover_191 ?_
                        refine lv_iconst (v := nI 2) hx hb dX5_recover_194 (by decide) ?_
                        refine lv_iadd hx hb dX5_recover_195 ?_
                        refine f_top (y := nI (wk gD n 120 + 2)) (nI_add _ _) ?_
                        refine lv_iload hx hb dX5_recover_196 (lv_at hl 3 rfl) ?_
                        refine lv_sipush (v := nI 256) hx hb dX5_recover_198 (by decide) ?_
                        refine lv_idiv hx hb dX5_recover_201 (by decide) ?_
                        refine f_top (y := nI ((wi - (wx gD n 120)) / 256)) (pk_div (by omega) (by decide) (by decide)) ?_
                        refine f_iast hx hb hK hP hD hS 1 rfl (by omega) (by decide) dX5_recover_202 (fun H_202 locs_202 hP_202 hD_202 hS_202 => ?_)
                        replace hP_202 : va_P G.1 vwCl [(mo, .inr (5, [.int (nI 0), .ref xd, .int (nI (wk gD n 120)), .int (nI (wk gD n 120)), .ref xb, .int (nI nb1), .int (nI 1), .int (nI wi), .int cr, .ref xk, .ref xl, .ref xt, .int (nI 0), .ref xw, .ref xs, .ref xg, .ref xy, .ref xe, .int (nI jkd9_1), .int (nI jln9_2), .int (nI jps9_3), .int (nI hr), .int br, .int bp, .int (nI gd), .int (nI gp), .int (nI sl), .ref xc, .ref xf, .ref xn])), (xd, .inl (G.2.1, 1200, .inl (nb (upb (upb (upb gD (wk gD n 120) (UInt8.ofNat 3)) (wk gD n 120 + 1) (UInt8.ofNat 2)) (wk gD n 120 + 2) (UInt8.ofNat ((wi - (wx gD n 120)) / 256)))))), (xb, .inl (G.2.1, 40, .inl (nb gB))), (xk, .inl (G.2.1, 16, .inl (nb gK))), (xl, .inl (G.2.1, 8, .inl (nb (tgB gD (wk gD n 120))))), (xt, .inl (G.2.1, 192, .inl (nb gT))), (xw, .inl (G.2.1, 64, .inl gW)), (xs, .inl (G.2.1, 16, .inl gS)), (xg, .inl (G.2.1, 32, .inl (nb gG))), (xy, .inl (G.2.1, 16, .inl (nb gY))), (xe, .inl (G.2.1, 8, .inl (nb gE))), (xc, .inl (G.2.1, 1200, .inl (nb gC))), (xf, .inl (G.2.1, 128, .inl (nn gF))), (xn, .inl (G.2.1, 128, .inl (nn gN)))] H_202 := by have h9 := hP_202; rw [upd_nbl (m := ((wi - (wx gD n 120)) / 256)) (by omega)] at h9; exact h9
                        replace hD_202 : va_D A [(mo, .inr (5, [.int (nI 0), .ref xd, .int (nI (wk gD n 120)), .int (nI (wk gD n 120)), .ref xb, .int (nI nb1), .int (nI 1), .int (nI wi), .int cr, .ref xk, .ref xl, .ref xt, .int (nI 0), .ref xw, .ref xs, .ref xg, .ref xy, .ref xe, .int (nI jkd9_1), .int (nI jln9_2), .int (nI jps9_3), .int (nI hr), .int br, .int bp, .int (nI gd), .int (nI gp), .int (nI sl), .ref xc, .ref xf, .ref xn])), (xd, .inl (G.2.1, 1200, .inl (nb (upb (upb (upb gD (wk gD n 120) (UInt8.ofNat 3)) (wk gD n 120 + 1) (UInt8.ofNat 2)) (wk gD n 120 + 2) (UInt8.ofNat ((wi - (wx gD n 120)) / 256)))))), (xb, .inl (G.2.1, 40, .inl (nb gB))), (xk, .inl (G.2.1, 16, .inl (nb gK))), (xl, .inl (G.2.1, 8, .inl (nb (tgB gD (wk gD n 120))))), (xt, .inl (G.2.1, 192, .inl (nb gT))), (xw, .inl (G.2.1, 64, .inl gW)), (xs, .inl (G.2.1, 16, .inl gS)), (xg, .inl (G.2.1, 32, .inl (nb gG))), (xy, .inl (G.2.1, 16, .inl (nb gY))), (xe, .inl (G.2.1, 8, .inl (nb gE))), (xc, .inl (G.2.1, 1200, .inl (nb gC))), (xf, .inl (G.2.1, 128, .inl (nn gF))), (xn, .inl (G.2.1, 128, .inl (nn gN)))] := hD.set (p := 1) rfl
                        replace hP : va_P G.1 vwCl [(mo, .inr (5, [.int (nI 0), .ref xd, .int (nI (wk gD n 120)), .int (nI (wk gD n 120)), .ref xb, .int (nI nb1), .int (nI 1), .int (nI wi), .int cr, .ref xk, .ref xl, .ref xt, .int (nI 0), .ref xw, .ref xs, .ref xg, .ref xy, .ref xe, .int (nI jkd9_1), .int (nI jln9_2), .int (nI jps9_3), .int (nI hr), .int br, .int bp, .int (nI gd), .int (nI gp), .int (nI sl), .ref xc, .ref xf, .ref xn])), (xd, .inl (G.2.1, 1200, .inl (nb (upb (upb (upb gD (wk gD n 120) (UInt8.ofNat 3)) (wk gD n 120 + 1) (UInt8.ofNat 2)) (wk gD n 120 + 2) (UInt8.ofNat ((wi - (wx gD n 120)) / 256)))))), (xb, .inl (G.2.1, 40, .inl (nb gB))), (xk, .inl (G.2.1, 16, .inl (nb gK))), (xl, .inl (G.2.1, 8, .inl (nb (tgB gD (wk gD n 120))))), (xt, .inl (G.2.1, 192, .inl (nb gT))), (xw, .inl (G.2.1, 64, .inl gW)), (xs, .inl (G.2.1, 16, .inl gS)), (xg, .inl (G.2.1, 32, .inl (nb gG))), (xy, .inl (G.2.1, 16, .inl (nb gY))), (xe, .inl (G.2.1, 8, .inl (nb gE))), (xc, .inl (G.2.1, 1200, .inl (nb gC))), (xf, .inl (G.2.1, 128, .inl (nn gF))), (xn, .inl (G.2.1, 128, .inl (nn gN)))] H_202 := hP_202
                        replace hD : va_D A [(mo, .inr (5, [.int (nI 0), .ref xd, .int (nI (wk gD n 120)), .int (nI (wk gD n 120)), .ref xb, .int (nI nb1), .int (nI 1), .int (nI wi), .int cr, .ref xk, .ref xl, .ref xt, .int (nI 0), .ref xw, .ref xs, .ref xg, .ref xy, .ref xe, .int (nI jkd9_1), .int (nI jln9_2), .int (nI jps9_3), .int (nI hr), .int br, .int bp, .int (nI gd), .int (nI gp), .int (nI sl), .ref xc, .ref xf, .ref xn])), (xd, .inl (G.2.1, 1200, .inl (nb (upb (upb (upb gD (wk gD n 120) (UInt8.ofNat 3)) (wk gD n 120 + 1) (UInt8.ofNat 2)) (wk gD n 120 + 2) (UInt8.ofNat ((wi - (wx gD n 120)) / 256)))))), (xb, .inl (G.2.1, 40, .inl (nb gB))), (xk, .inl (G.2.1, 16, .inl (nb gK))), (xl, .inl (G.2.1, 8, .inl (nb (tgB gD (wk gD n 120))))), (xt, .inl (G.2.1, 192, .inl (nb gT))), (xw, .inl (G.2.1, 64, .inl gW)), (xs, .inl (G.2.1, 16, .inl gS)), (xg, .inl (G.2.1, 32, .inl (nb gG))), (xy, .inl (G.2.1, 16, .inl (nb gY))), (xe, .inl (G.2.1, 8, .inl (nb gE))), (xc, .inl (G.2.1, 1200, .inl (nb gC))), (xf, .inl (G.2.1, 128, .inl (nn gF))), (xn, .inl (G.2.1, 128, .inl (nn gN)))] := hD_202
                        replace hS : va_S A sv.heap H_202 locs_202 := hS_202
                        clear hP_202 hD_202 hS_202
                        refine lv_aload_n hx hb dX5_recover_203 rfl (lv_at hl 0 rfl) ?_
                        refine va_get (D := G.1) (ci := 5) (v := .ref xd) (C := RX5) (T := TX5) (N := 30) hx hb hts in_wsX50 hown hK hP 0 rfl rfl 1 (by decide) (hts _ wm_250) (fun _ h9 => h9) rfl dX5_recover_204 ?_
                        refine lv_aload_n hx hb dX5_recover_207 rfl (lv_at hl 0 rfl) ?_
                        refine va_get (D := G.1) (ci := 5) (v := .int (nI (wk gD n 120))) (C := RX5) (T := TX5) (N := 30) hx hb hts in_wsX50 hown hK hP 0 rfl rfl 2 (by decide) (hts _ wm_376) (fun _ h9 => h9) rfl dX5_recover_208 ?_
                        refine lv_iconst (v := nI 3) hx hb dX5_recover_211 (by decide) ?_
                        refine lv_iadd hx hb dX5_recover_212 ?_
                        refine f_top (y := nI (wk gD n 120 + 3)) (nI_add _ _) ?_
                        refine lv_iload hx hb dX5_recover_213 (lv_at hl 3 rfl) ?_
                        refine lv_sipush (v := nI 256) hx hb dX5_recover_215 (by decide) ?_
                        refine lv_irem hx hb dX5_recover_218 (by decide) ?_
                        refine f_top (y := nI ((wi - (wx gD n 120)) % 256)) (pk_rem (by omega) (by decide) (by decide)) ?_
                        refine f_iast hx hb hK hP hD hS 1 rfl (by omega) (by decide) dX5_recover_219 (fun H_219 locs_219 hP_219 hD_219 hS_219 => ?_)
                        replace hP_219 : va_P G.1 vwCl [(mo, .inr (5, [.int (nI 0), .ref xd, .int (nI (wk gD n 120)), .int (nI (wk gD n 120)), .ref xb, .int (nI nb1), .int (nI 1), .int (nI wi), .int cr, .ref xk, .ref xl, .ref xt, .int (nI 0), .ref xw, .ref xs, .ref xg, .ref xy, .ref xe, .int (nI jkd9_1), .int (nI jln9_2), .int (nI jps9_3), .int (nI hr), .int br, .int bp, .int (nI gd), .int (nI gp), .int (nI sl), .ref xc, .ref xf, .ref xn])), (xd, .inl (G.2.1, 1200, .inl (nb (upb (upb (upb (upb gD (wk gD n 120) (UInt8.ofNat 3)) (wk gD n 120 + 1) (UInt8.ofNat 2)) (wk gD n 120 + 2) (UInt8.ofNat ((wi - (wx gD n 120)) / 256))) (wk gD n 120 + 3) (UInt8.ofNat ((wi - (wx gD n 120)) % 256)))))), (xb, .inl (G.2.1, 40, .inl (nb gB))), (xk, .inl (G.2.1, 16, .inl (nb gK))), (xl, .inl (G.2.1, 8, .inl (nb (tgB gD (wk gD n 120))))), (xt, .inl (G.2.1, 192, .inl (nb gT))), (xw, .inl (G.2.1, 64, .inl gW)), (xs, .inl (G.2.1, 16, .inl gS)), (xg, .inl (G.2.1, 32, .inl (nb gG))), (xy, .inl (G.2.1, 16, .inl (nb gY))), (xe, .inl (G.2.1, 8, .inl (nb gE))), (xc, .inl (G.2.1, 1200, .inl (nb gC))), (xf, .inl (G.2.1, 128, .inl (nn gF))), (xn, .inl (G.2.1, 128, .inl (nn gN)))] H_219 := by have h9 := hP_219; rw [upd_nbl (m := ((wi - (wx gD n 120)) % 256)) (by omega)] at h9; exact h9
                        replace hD_219 : va_D A [(mo, .inr (5, [.int (nI 0), .ref xd, .int (nI (wk gD n 120)), .int (nI (wk gD n 120)), .ref xb, .int (nI nb1), .int (nI 1), .int (nI wi), .int cr, .ref xk, .ref xl, .ref xt, .int (nI 0), .ref xw, .ref xs, .ref xg, .ref xy, .ref xe, .int (nI jkd9_1), .int (nI jln9_2), .int (nI jps9_3), .int (nI hr), .int br, .int bp, .int (nI gd), .int (nI gp), .int (nI sl), .ref xc, .ref xf, .ref xn])), (xd, .inl (G.2.1, 1200, .inl (nb (upb (upb (upb (upb gD (wk gD n 120) (UInt8.ofNat 3)) (wk gD n 120 + 1) (UInt8.ofNat 2)) (wk gD n 120 + 2) (UInt8.ofNat ((wi - (wx gD n 120)) / 256))) (wk gD n 120 + 3) (UInt8.ofNat ((wi - (wx gD n 120)) % 256)))))), (xb, .inl (G.2.1, 40, .inl (nb gB))), (xk, .inl (G.2.1, 16, .inl (nb gK))), (xl, .inl (G.2.1, 8, .inl (nb (tgB gD (wk gD n 120))))), (xt, .inl (G.2.1, 192, .inl (nb gT))), (xw, .inl (G.2.1, 64, .inl gW)), (xs, .inl (G.2.1, 16, .inl gS)), (xg, .inl (G.2.1, 32, .inl (nb gG))), (xy, .inl (G.2.1, 16, .inl (nb gY))), (xe, .inl (G.2.1, 8, .inl (nb gE))), (xc, .inl (G.2.1, 1200, .inl (nb gC))), (xf, .inl (G.2.1, 128, .inl (nn gF))), (xn, .inl (G.2.1, 128, .inl (nn gN)))] := hD.set (p := 1) rfl
                        replace hP : va_P G.1 vwCl [(mo, .inr (5, [.int (nI 0), .ref xd, .int (nI (wk gD n 120)), .int (nI (wk gD n 120)), .ref xb, .int (nI nb1), .int (nI 1), .int (nI wi), .int cr, .ref xk, .ref xl, .ref xt, .int (nI 0), .ref xw, .ref xs, .ref xg, .ref xy, .ref xe, .int (nI jkd9_1), .int (nI jln9_2), .int (nI jps9_3), .int (nI hr), .int br, .int bp, .int (nI gd), .int (nI gp), .int (nI sl), .ref xc, .ref xf, .ref xn])), (xd, .inl (G.2.1, 1200, .inl (nb (upb (upb (upb (upb gD (wk gD n 120) (UInt8.ofNat 3)) (wk gD n 120 + 1) (UInt8.ofNat 2)) (wk gD n 120 + 2) (UInt8.ofNat ((wi - (wx gD n 120)) / 256))) (wk gD n 120 + 3) (UInt8.ofNat ((wi - (wx gD n 120)) % 256)))))), (xb, .inl (G.2.1, 40, .inl (nb gB))), (xk, .inl (G.2.1, 16, .inl (nb gK))), (xl, .inl (G.2.1, 8, .inl (nb (tgB gD (wk gD n 120))))), (xt, .inl (G.2.1, 192, .inl (nb gT))), (xw, .inl (G.2.1, 64, .inl gW)), (xs, .inl (G.2.1, 16, .inl gS)), (xg, .inl (G.2.1, 32, .inl (nb gG))), (xy, .inl (G.2.1, 16, .inl (nb gY))), (xe, .inl (G.2.1, 8, .inl (nb gE))), (xc, .inl (G.2.1, 1200, .inl (nb gC))), (xf, .inl (G.2.1, 128, .inl (nn gF))), (xn, .inl (G.2.1, 128, .inl (nn gN)))] H_219 := hP_219
                        replace hD : va_D A [(mo, .inr (5, [.int (nI 0), .ref xd, .int (nI (wk gD n 120)), .int (nI (wk gD n 120)), .ref xb, .int (nI nb1), .int (nI 1), .int (nI wi), .int cr, .ref xk, .ref xl, .ref xt, .int (nI 0), .ref xw, .ref xs, .ref xg, .ref xy, .ref xe, .int (nI jkd9_1), .int (nI jln9_2), .int (nI jps9_3), .int (nI hr), .int br, .int bp, .int (nI gd), .int (nI gp), .int (nI sl), .ref xc, .ref xf, .ref xn])), (xd, .inl (G.2.1, 1200, .inl (nb (upb (upb (upb (upb gD (wk gD n 120) (UInt8.ofNat 3)) (wk gD n 120 + 1) (UInt8.ofNat 2)) (wk gD n 120 + 2) (UInt8.ofNat ((wi - (wx gD n 120)) / 256))) (wk gD n 120 + 3) (UInt8.ofNat ((wi - (wx gD n 120)) % 256)))))), (xb, .inl (G.2.1, 40, .inl (nb gB))), (xk, .inl (G.2.1, 16, .inl (nb gK))), (xl, .inl (G.2.1, 8, .inl (nb (tgB gD (wk gD n 120))))), (xt, .inl (G.2.1, 192, .inl (nb gT))), (xw, .inl (G.2.1, 64, .inl gW)), (xs, .inl (G.2.1, 16, .inl gS)), (xg, .inl (G.2.1, 32, .inl (nb gG))), (xy, .inl (G.2.1, 16, .inl (nb gY))), (xe, .inl (G.2.1, 8, .inl (nb gE))), (xc, .inl (G.2.1, 1200, .inl (nb gC))), (xf, .inl (G.2.1, 128, .inl (nn gF))), (xn, .inl (G.2.1, 128, .inl (nn gN)))] := hD_219
                        replace hS : va_S A sv.heap H_219 locs_219 := hS_219
                        clear hP_219 hD_219 hS_219
                        refine lv_aload_n hx hb dX5_recover_220 rfl (lv_at hl 0 rfl) ?_
                        refine lv_iconst (v := nI 2) hx hb dX5_recover_221 (by decide) ?_
                        refine fcVI (As := [.int (nI 2)]) (rest := []) (wr := []) (ws1 := fun (u : (Nat → UInt8) × (Nat → UInt8) × (Nat → UInt8) × (Nat → Int32) × (Nat → Int32) × (Nat → UInt8) × (Nat → UInt8) × (Nat → UInt8)) => [(mo, .inr (5, [.int (nI 0), .ref xd, .int (nI ((wk gD n 120) + (10 + 2))), .int (nI (wk gD n 120)), .ref xb, .int (nI nb1), .int (nI 1), .int (nI (wi + 1)), .int cr, .ref xk, .ref xl, .ref xt, .int (nI 0), .ref xw, .ref xs, .ref xg, .ref xy, .ref xe, .int (nI jkd9_1), .int (nI jln9_2), .int (nI jps9_3), .int (nI hr), .int br, .int bp, .int (nI gd), .int (nI gp), .int (nI sl), .ref xc, .ref xf, .ref xn])), (xd, .inl (G.2.1, 1200, .inl (nb u.1))), (xb, .inl (G.2.1, 40, .inl (nb gB))), (xk, .inl (G.2.1, 16, .inl (nb (nextKey gK)))), (xl, .inl (G.2.1, 8, .inl (nb u.2.1))), (xt, .inl (G.2.1, 192, .inl (nb u.2.2.1))), (xw, .inl (G.2.1, 64, .inl u.2.2.2.1)), (xs, .inl (G.2.1, 16, .inl u.2.2.2.2.1)), (xg, .inl (G.2.1, 32, .inl (nb u.2.2.2.2.2.1))), (xy, .inl (G.2.1, 16, .inl (nb u.2.2.2.2.2.2.1))), (xe, .inl (G.2.1, 8, .inl (nb u.2.2.2.2.2.2.2))), (xc, .inl (G.2.1, 1200, .inl (nb gC))), (xf, .inl (G.2.1, 128, .inl (nn gF))), (xn, .inl (G.2.1, 128, .inl (nn gN)))]) ⟨hx, hb, hml, hown, hts⟩ hK hE hP hD hS hA hl.1 (kX5_write l G mo xd xb xk xl xt xw xs xg xy xe xc xf xn 0 (wk gD n 120) (wk gD n 120) nb1 1 wi cr jkd9_1 jln9_2 jps9_3 hr br bp gd gp sl (upb (upb (upb (upb gD (wk gD n 120) (UInt8.ofNat 3)) (wk gD n 120 + 1) (UInt8.ofNat 2)) (wk gD n 120 + 2) (UInt8.ofNat ((wi - (wx gD n 120)) / 256))) (wk gD n 120 + 3) (UInt8.ofNat ((wi - (wx gD n 120)) % 256))) gB gK (tgB gD (wk gD n 120)) gT gW gS gG gY gE gC gF gN 2 gD 3 (gapB (wi - wx gD n 120)) (wr1_put (k := 1) (wr1_put (k := 0) (rb := gapB (wi - wx gD n 120)) wr1_0)) (by omega) (by decide) (by omega)) (cwV 1 hts (gdV wm_405 wm_406 wm_407 wm_267 wm_393) rfl rfl rfl (by decide +kernel) ⟨Nat.le_of_ble_eq_true rfl, Nat.le_of_ble_eq_true rfl⟩) 0 rfl rfl rfl rfl (Nat.le_of_ble_eq_true rfl) dX5_recover_222 ⟨Nat.le_of_ble_eq_true rfl, Nat.le_of_ble_eq_true rfl⟩ [0, 1, 2, 3, 4, 5, 6, 7, 8, 9, 10, 11, 12, 13] [] [0, 1, 2, 3, 4, 5, 6, 7, 8, 9, 10, 11, 12, 13] rfl rfl rfl rfl (by decide) rfl (fun _ => rfl) (fun r_222 u_222 H_222 locs_222 hw_222 hP_222 hD_222 hS_222 => ?_)
                        obtain ⟨jD9_4, jL9_5, jT9_6, jW9_7, jS9_8, jG9_9, jY9_10, jE9_11⟩ := u_222
                        obtain ⟨rfl, f_12, f_13⟩ := hw_222
                        replace f_12 : wr2 jD9_4 gD (wk gD n 120) 3 2 (gapB (wi - wx gD n 120)) (tagW gK wi jD9_4 (wk gD n 120) (tgB gD (wk gD n 120))) 8 := f_12
                        replace f_13 : (∀ j, j < 8 → jL9_5 j = dgB (tagW gK wi jD9_4 (wk gD n 120) (tgB gD (wk gD n 120))) j) := f_13
                        replace hP : va_P G.1 vwCl [(mo, .inr (5, [.int (nI 0), .ref xd, .int (nI ((wk gD n 120) + (10 + 2))), .int (nI (wk gD n 120)), .ref xb, .int (nI nb1), .int (nI 1), .int (nI (wi + 1)), .int cr, .ref xk, .ref xl, .ref xt, .int (nI 0), .ref xw, .ref xs, .ref xg, .ref xy, .ref xe, .int (nI jkd9_1), .int (nI jln9_2), .int (nI jps9_3), .int (nI hr), .int br, .int bp, .int (nI gd), .int (nI gp), .int (nI sl), .ref xc, .ref xf, .ref xn])), (xd, .inl (G.2.1, 1200, .inl (nb jD9_4))), (xb, .inl (G.2.1, 40, .inl (nb gB))), (xk, .inl (G.2.1, 16, .inl (nb (nextKey gK)))), (xl, .inl (G.2.1, 8, .inl (nb jL9_5))), (xt, .inl (G.2.1, 192, .inl (nb jT9_6))), (xw, .inl (G.2.1, 64, .inl jW9_7)), (xs, .inl (G.2.1, 16, .inl jS9_8)), (xg, .inl (G.2.1, 32, .inl (nb jG9_9))), (xy, .inl (G.2.1, 16, .inl (nb jY9_10))), (xe, .inl (G.2.1, 8, .inl (nb jE9_11))), (xc, .inl (G.2.1, 1200, .inl (nb gC))), (xf, .inl (G.2.1, 128, .inl (nn gF))), (xn, .inl (G.2.1, 128, .inl (nn gN)))] H_222 := hP_222
                        replace hD : va_D A [(mo, .inr (5, [.int (nI 0), .ref xd, .int (nI ((wk gD n 120) + (10 + 2))), .int (nI (wk gD n 120)), .ref xb, .int (nI nb1), .int (nI 1), .int (nI (wi + 1)), .int cr, .ref xk, .ref xl, .ref xt, .int (nI 0), .ref xw, .ref xs, .ref xg, .ref xy, .ref xe, .int (nI jkd9_1), .int (nI jln9_2), .int (nI jps9_3), .int (nI hr), .int br, .int bp, .int (nI gd), .int (nI gp), .int (nI sl), .ref xc, .ref xf, .ref xn])), (xd, .inl (G.2.1, 1200, .inl (nb jD9_4))), (xb, .inl (G.2.1, 40, .inl (nb gB))), (xk, .inl (G.2.1, 16, .inl (nb (nextKey gK)))), (xl, .inl (G.2.1, 8, .inl (nb jL9_5))), (xt, .inl (G.2.1, 192, .inl (nb jT9_6))), (xw, .inl (G.2.1, 64, .inl jW9_7)), (xs, .inl (G.2.1, 16, .inl jS9_8)), (xg, .inl (G.2.1, 32, .inl (nb jG9_9))), (xy, .inl (G.2.1, 16, .inl (nb jY9_10))), (xe, .inl (G.2.1, 8, .inl (nb jE9_11))), (xc, .inl (G.2.1, 1200, .inl (nb gC))), (xf, .inl (G.2.1, 128, .inl (nn gF))), (xn, .inl (G.2.1, 128, .inl (nn gN)))] := hD_222
                        replace hS : va_S A sv.heap H_222 locs_222 := hS_222
                        clear hP_222 hD_222 hS_222
                        refine lv_istore (lv' := [(5, .int (nI wi)), (0, .ref mo), (1, .int (nI (wk gD n 120))), (3, .int (-1)), (4, .int (nI (wi - (wx gD n 120))))]) hx hb dX5_recover_225 hl (by decide) rfl (fun ls hl2 => ?_)
                        replace hl := hl2; clear hl2
                        refine lv_iload hx hb dX5_recover_227 (lv_at hl 4 rfl) ?_
                        exact hend (nI (wi - (wx gD n 120))) (jD9_4, jL9_5, jT9_6, jW9_7, jS9_8, jG9_9, jY9_10, jE9_11, jkd9_1, jln9_2, jps9_3) _ _ _ _ rfl (⟨rfl, f_12, f_13⟩) hP hD hS dX5_recover_229
                    · skip
                      refine lv_aload_n hx hb dX5_recover_129 rfl (lv_at hl 0 rfl) ?_
                      refine va_get (D := G.1) (ci := 5) (v := .ref xl) (C := RX5) (T := TX5) (N := 30) hx hb hts in_wsX50 hown hK hP 0 rfl rfl 10 (by decide) (hts _ wm_253) (fun _ h9 => h9) rfl dX5_recover_130 ?_
                      refine lv_iload hx hb dX5_recover_133 (lv_at hl 4 rfl) ?_
                      refine lv_iload_n hx hb dX5_recover_135 rfl (lv_at hl 2 rfl) ?_
                      refine lv_if_ge (tgt := 143) hx hb dX5_recover_136 (by decide) (fun c9 => absurd c9 (by decide)) (fun _ => ?_)
                      refine lv_iconst (v := nI 0) hx hb dX5_recover_139 (by decide) ?_
                      refine lv_goto (tgt := 152) hx hb dX5_recover_140 (by decide) ?_
                      refine f_top (y := bI (tgB gD (wk gD n 120) k9)) (by unfold tgB; rw [if_pos ha0]; rfl) ?_
                      refine f_iast hx hb hK hP hD hS 4 rfl (by omega) (by decide) dX5_recover_152 (fun H_152 locs_152 hP_152 hD_152 hS_152 => ?_)
                      replace hP_152 : va_P G.1 vwCl [(mo, .inr (5, [.int (nI 0), .ref xd, .int (nI (wk gD n 120)), .int (nI (wk gD n 120)), .ref xb, .int (nI nb1), .int (nI 1), .int (nI wi), .int cr, .ref xk, .ref xl, .ref xt, .int (nI 0), .ref xw, .ref xs, .ref xg, .ref xy, .ref xe, .int (nI jkd9_1), .int (nI jln9_2), .int (nI jps9_3), .int (nI hr), .int br, .int bp, .int (nI gd), .int (nI gp), .int (nI sl), .ref xc, .ref xf, .ref xn])), (xd, .inl (G.2.1, 1200, .inl (nb gD))), (xb, .inl (G.2.1, 40, .inl (nb gB))), (xk, .inl (G.2.1, 16, .inl (nb gK))), (xl, .inl (G.2.1, 8, .inl (nb (upb L1 k9 (tgB gD (wk gD n 120) k9))))), (xt, .inl (G.2.1, 192, .inl (nb gT))), (xw, .inl (G.2.1, 64, .inl gW)), (xs, .inl (G.2.1, 16, .inl gS)), (xg, .inl (G.2.1, 32, .inl (nb gG))), (xy, .inl (G.2.1, 16, .inl (nb gY))), (xe, .inl (G.2.1, 8, .inl (nb gE))), (xc, .inl (G.2.1, 1200, .inl (nb gC))), (xf, .inl (G.2.1, 128, .inl (nn gF))), (xn, .inl (G.2.1, 128, .inl (nn gN)))] H_152 := by have h9 := hP_152; rw [upd_nb] at h9; exact h9
                      replace hD_152 : va_D A [(mo, .inr (5, [.int (nI 0), .ref xd, .int (nI (wk gD n 120)), .int (nI (wk gD n 120)), .ref xb, .int (nI nb1), .int (nI 1), .int (nI wi), .int cr, .ref xk, .ref xl, .ref xt, .int (nI 0), .ref xw, .ref xs, .ref xg, .ref xy, .ref xe, .int (nI jkd9_1), .int (nI jln9_2), .int (nI jps9_3), .int (nI hr), .int br, .int bp, .int (nI gd), .int (nI gp), .int (nI sl), .ref xc, .ref xf, .ref xn])), (xd, .inl (G.2.1, 1200, .inl (nb gD))), (xb, .inl (G.2.1, 40, .inl (nb gB))), (xk, .inl (G.2.1, 16, .inl (nb gK))), (xl, .inl (G.2.1, 8, .inl (nb (upb L1 k9 (tgB gD (wk gD n 120) k9))))), (xt, .inl (G.2.1, 192, .inl (nb gT))), (xw, .inl (G.2.1, 64, .inl gW)), (xs, .inl (G.2.1, 16, .inl gS)), (xg, .inl (G.2.1, 32, .inl (nb gG))), (xy, .inl (G.2.1, 16, .inl (nb gY))), (xe, .inl (G.2.1, 8, .inl (nb gE))), (xc, .inl (G.2.1, 1200, .inl (nb gC))), (xf, .inl (G.2.1, 128, .inl (nn gF))), (xn, .inl (G.2.1, 128, .inl (nn gN)))] := hD.set (p := 4) rfl
                      replace hP : va_P G.1 vwCl [(mo, .inr (5, [.int (nI 0), .ref xd, .int (nI (wk gD n 120)), .int (nI (wk gD n 120)), .ref xb, .int (nI nb1), .int (nI 1), .int (nI wi), .int cr, .ref xk, .ref xl, .ref xt, .int (nI 0), .ref xw, .ref xs, .ref xg, .ref xy, .ref xe, .int (nI jkd9_1), .int (nI jln9_2), .int (nI jps9_3), .int (nI hr), .int br, .int bp, .int (nI gd), .int (nI gp), .int (nI sl), .ref xc, .ref xf, .ref xn])), (xd, .inl (G.2.1, 1200, .inl (nb gD))), (xb, .inl (G.2.1, 40, .inl (nb gB))), (xk, .inl (G.2.1, 16, .inl (nb gK))), (xl, .inl (G.2.1, 8, .inl (nb (upb L1 k9 (tgB gD (wk gD n 120) k9))))), (xt, .inl (G.2.1, 192, .inl (nb gT))), (xw, .inl (G.2.1, 64, .inl gW)), (xs, .inl (G.2.1, 16, .inl gS)), (xg, .inl (G.2.1, 32, .inl (nb gG))), (xy, .inl (G.2.1, 16, .inl (nb gY))), (xe, .inl (G.2.1, 8, .inl (nb gE))), (xc, .inl (G.2.1, 1200, .inl (nb gC))), (xf, .inl (G.2.1, 128, .inl (nn gF))), (xn, .inl (G.2.1, 128, .inl (nn gN)))] H_152 := hP_152
                      replace hD : va_D A [(mo, .inr (5, [.int (nI 0), .ref xd, .int (nI (wk gD n 120)), .int (nI (wk gD n 120)), .ref xb, .int (nI nb1), .int (nI 1), .int (nI wi), .int cr, .ref xk, .ref xl, .ref xt, .int (nI 0), .ref xw, .ref xs, .ref xg, .ref xy, .ref xe, .int (nI jkd9_1), .int (nI jln9_2), .int (nI jps9_3), .int (nI hr), .int br, .int bp, .int (nI gd), .int (nI gp), .int (nI sl), .ref xc, .ref xf, .ref xn])), (xd, .inl (G.2.1, 1200, .inl (nb gD))), (xb, .inl (G.2.1, 40, .inl (nb gB))), (xk, .inl (G.2.1, 16, .inl (nb gK))), (xl, .inl (G.2.1, 8, .inl (nb (upb L1 k9 (tgB gD (wk gD n 120) k9))))), (xt, .inl (G.2.1, 192, .inl (nb gT))), (xw, .inl (G.2.1, 64, .inl gW)), (xs, .inl (G.2.1, 16, .inl gS)), (xg, .inl (G.2.1, 32, .inl (nb gG))), (xy, .inl (G.2.1, 16, .inl (nb gY))), (xe, .inl (G.2.1, 8, .inl (nb gE))), (xc, .inl (G.2.1, 1200, .inl (nb gC))), (xf, .inl (G.2.1, 128, .inl (nn gF))), (xn, .inl (G.2.1, 128, .inl (nn gN)))] := hD_152
                      replace hS : va_S A sv.heap H_152 locs_152 := hS_152
                      clear hP_152 hD_152 hS_152
                      refine lv_iinc (v := nI (k9 + 1)) (lv' := [(5, .int (nI (k9 + 1))), (0, .ref mo), (1, .int (nI (wk gD n 120))), (3, .int (-1)), (4, .int (nI (wi - (wx gD n 120))))]) hx hb dX5_recover_153 hl (k := 4) rfl (f_inc1 _) (by decide) rfl (fun ls hl2 => ?_)
                      replace hl := hl2; clear hl2
                      refine lv_goto (tgt := 122) hx hb dX5_recover_156 (by decide) ?_
                      exact ih_122 (k9 + 1) (upb L1 k9 (tgB gD (wk gD n 120) k9)) _ _ _ (by omega) (by omega) (upb_ext hL) hP hD hS (lv_sub hl [1, 2, 3, 4, 0] rfl)
                exact L_122 ((9 - 0) + 1) 0 gL _ _ _ (Nat.lt_succ_self _) (by omega) ext_0 hP hD hS (lv_sub hl [2, 3, 5, 1, 0] rfl)
              · skip
                replace hl : lv_has ls 6 [(5, .int (nI 0)), (4, .int (nI (wi - (wx gD n 120)))), (0, .ref mo), (1, .int (nI (wk gD n 120))), (2, .int (nI (wx gD n 120))), (3, .int (nI (wk gD n 120 - 8)))] := by have e9 : (.int (lastV (wk gD n 120)) : Value) = .int (nI (wk gD n 120 - 8)) := (by unfold lastV; rw [if_neg (by omega)]); rw [e9] at hl; exact hl
                have L_122_1 : ∀ (n9 : Nat) (k9 : Nat) (L1 : Nat → UInt8) (H : Heap) (locs : List Loc) (ls : Array Slot), (9 - k9) < n9 → (k9 ≤ 8) → (∀ j, j < k9 → L1 j = tgB gD (wk gD n 120) j) → va_P G.1 vwCl [(mo, .inr (5, [.int (nI 0), .ref xd, .int (nI (wk gD n 120)), .int (nI (wk gD n 120)), .ref xb, .int (nI nb1), .int (nI 1), .int (nI wi), .int cr, .ref xk, .ref xl, .ref xt, .int (nI 0), .ref xw, .ref xs, .ref xg, .ref xy, .ref xe, .int (nI jkd9_1), .int (nI jln9_2), .int (nI jps9_3), .int (nI hr), .int br, .int bp, .int (nI gd), .int (nI gp), .int (nI sl), .ref xc, .ref xf, .ref xn])), (xd, .inl (G.2.1, 1200, .inl (nb gD))), (xb, .inl (G.2.1, 40, .inl (nb gB))), (xk, .inl (G.2.1, 16, .inl (nb gK))), (xl, .inl (G.2.1, 8, .inl (nb L1))), (xt, .inl (G.2.1, 192, .inl (nb gT))), (xw, .inl (G.2.1, 64, .inl gW)), (xs, .inl (G.2.1, 16, .inl gS)), (xg, .inl (G.2.1, 32, .inl (nb gG))), (xy, .inl (G.2.1, 16, .inl (nb gY))), (xe, .inl (G.2.1, 8, .inl (nb gE))), (xc, .inl (G.2.1, 1200, .inl (nb gC))), (xf, .inl (G.2.1, 128, .inl (nn gF))), (xn, .inl (G.2.1, 128, .inl (nn gN)))] H → va_D A [(mo, .inr (5, [.int (nI 0), .ref xd, .int (nI (wk gD n 120)), .int (nI (wk gD n 120)), .ref xb, .int (nI nb1), .int (nI 1), .int (nI wi), .int cr, .ref xk, .ref xl, .ref xt, .int (nI 0), .ref xw, .ref xs, .ref xg, .ref xy, .ref xe, .int (nI jkd9_1), .int (nI jln9_2), .int (nI jps9_3), .int (nI hr), .int br, .int bp, .int (nI gd), .int (nI gp), .int (nI sl), .ref xc, .ref xf, .ref xn])), (xd, .inl (G.2.1, 1200, .inl (nb gD))), (xb, .inl (G.2.1, 40, .inl (nb gB))), (xk, .inl (G.2.1, 16, .inl (nb gK))), (xl, .inl (G.2.1, 8, .inl (nb L1))), (xt, .inl (G.2.1, 192, .inl (nb gT))), (xw, .inl (G.2.1, 64, .inl gW)), (xs, .inl (G.2.1, 16, .inl gS)), (xg, .inl (G.2.1, 32, .inl (nb gG))), (xy, .inl (G.2.1, 16, .inl (nb gY))), (xe, .inl (G.2.1, 8, .inl (nb gE))), (xc, .inl (G.2.1, 1200, .inl (nb gC))), (xf, .inl (G.2.1, 128, .inl (nn gF))), (xn, .inl (G.2.1, 128, .inl (nn gN)))] → va_S A sv.heap H locs → lv_has ls 6 [(0, .ref mo), (1, .int (nI (wk gD n 120))), (3, .int (nI (wk gD n 120 - 8))), (4, .int (nI (wi - (wx gD n 120)))), (5, .int (nI k9))] → W prg l env ({ frames := 5, cells := 0, slots := 0, locals := 117 } : Room) sv mid args below meth cd H locs 0 0 Q (F0 mid 122 ls []) := by
                  intro n9
                  induction n9 with
                  | zero => intro k9 L1 H locs ls hmu; exact absurd hmu (Nat.not_lt_zero _)
                  | succ n9 ih_122_1 =>
                    intro k9 L1 H locs ls hmu_122 hk9 hL hP hD hS hl
                    refine lv_iload hx hb dX5_recover_122 (lv_at hl 4 rfl) ?_
                    refine lv_bipush (v := nI 8) hx hb dX5_recover_124 (by decide) ?_
                    refine f_icmp_ge (tgt := 159) (by omega) (by omega) hx hb dX5_recover_126 (by decide) (fun c_126 => ?_) (fun c_126 => ?_)
                    · skip
                      obtain rfl : k9 = 8 := by omega
                      replace hP : va_P G.1 vwCl [(mo, .inr (5, [.int (nI 0), .ref xd, .int (nI (wk gD n 120)), .int (nI (wk gD n 120)), .ref xb, .int (nI nb1), .int (nI 1), .int (nI wi), .int cr, .ref xk, .ref xl, .ref xt, .int (nI 0), .ref xw, .ref xs, .ref xg, .ref xy, .ref xe, .int (nI jkd9_1), .int (nI jln9_2), .int (nI jps9_3), .int (nI hr), .int br, .int bp, .int (nI gd), .int (nI gp), .int (nI sl), .ref xc, .ref xf, .ref xn])), (xd, .inl (G.2.1, 1200, .inl (nb gD))), (xb, .inl (G.2.1, 40, .inl (nb gB))), (xk, .inl (G.2.1, 16, .inl (nb gK))), (xl, .inl (G.2.1, 8, .inl (nb (tgB gD (wk gD n 120))))), (xt, .inl (G.2.1, 192, .inl (nb gT))), (xw, .inl (G.2.1, 64, .inl gW)), (xs, .inl (G.2.1, 16, .inl gS)), (xg, .inl (G.2.1, 32, .inl (nb gG))), (xy, .inl (G.2.1, 16, .inl (nb gY))), (xe, .inl (G.2.1, 8, .inl (nb gE))), (xc, .inl (G.2.1, 1200, .inl (nb gC))), (xf, .inl (G.2.1, 128, .inl (nn gF))), (xn, .inl (G.2.1, 128, .inl (nn gN)))] H := f_row hP 4 rfl (nb (tgB gD (wk gD n 120))) (fun j hj => congrArg bI (hL j hj))
                      replace hD : va_D A [(mo, .inr (5, [.int (nI 0), .ref xd, .int (nI (wk gD n 120)), .int (nI (wk gD n 120)), .ref xb, .int (nI nb1), .int (nI 1), .int (nI wi), .int cr, .ref xk, .ref xl, .ref xt, .int (nI 0), .ref xw, .ref xs, .ref xg, .ref xy, .ref xe, .int (nI jkd9_1), .int (nI jln9_2), .int (nI jps9_3), .int (nI hr), .int br, .int bp, .int (nI gd), .int (nI gp), .int (nI sl), .ref xc, .ref xf, .ref xn])), (xd, .inl (G.2.1, 1200, .inl (nb gD))), (xb, .inl (G.2.1, 40, .inl (nb gB))), (xk, .inl (G.2.1, 16, .inl (nb gK))), (xl, .inl (G.2.1, 8, .inl (nb (tgB gD (wk gD n 120))))), (xt, .inl (G.2.1, 192, .inl (nb gT))), (xw, .inl (G.2.1, 64, .inl gW)), (xs, .inl (G.2.1, 16, .inl gS)), (xg, .inl (G.2.1, 32, .inl (nb gG))), (xy, .inl (G.2.1, 16, .inl (nb gY))), (xe, .inl (G.2.1, 8, .inl (nb gE))), (xc, .inl (G.2.1, 1200, .inl (nb gC))), (xf, .inl (G.2.1, 128, .inl (nn gF))), (xn, .inl (G.2.1, 128, .inl (nn gN)))] := f_rowD hD 4 rfl
                      refine lv_iload hx hb dX5_recover_159 (lv_at hl 3 rfl) ?_
                      refine f_if_le (tgt := 227) (by omega) hx hb dX5_recover_161 (by decide) (fun c_161 => ?_) (fun c_161 => ?_)
                      · skip
                        exfalso; omega
                      · skip
                        refine lv_aload_n hx hb dX5_recover_164 rfl (lv_at hl 0 rfl) ?_
                        refine va_get (D := G.1) (ci := 5) (v := .ref xd) (C := RX5) (T := TX5) (N := 30) hx hb hts in_wsX50 hown hK hP 0 rfl rfl 1 (by decide) (hts _ wm_250) (fun _ h9 => h9) rfl dX5_recover_165 ?_
                        refine lv_aload_n hx hb dX5_recover_168 rfl (lv_at hl 0 rfl) ?_
                        refine va_get (D := G.1) (ci := 5) (v := .int (nI (wk gD n 120))) (C := RX5) (T := TX5) (N := 30) hx hb hts in_wsX50 hown hK hP 0 rfl rfl 2 (by decide) (hts _ wm_376) (fun _ h9 => h9) rfl dX5_recover_169 ?_
                        refine lv_iconst (v := nI 3) hx hb dX5_recover_172 (by decide) ?_
                        refine f_iast hx hb hK hP hD hS 1 rfl (by omega) (by decide) dX5_recover_173 (fun H_173_1 locs_173_1 hP_173_1 hD_173_1 hS_173_1 => ?_)
                        replace hP_173_1 : va_P G.1 vwCl [(mo, .inr (5, [.int (nI 0), .ref xd, .int (nI (wk gD n 120)), .int (nI (wk gD n 120)), .ref xb, .int (nI nb1), .int (nI 1), .int (nI wi), .int cr, .ref xk, .ref xl, .ref xt, .int (nI 0), .ref xw, .ref xs, .ref xg, .ref xy, .ref xe, .int (nI jkd9_1), .int (nI jln9_2), .int (nI jps9_3), .int (nI hr), .int br, .int bp, .int (nI gd), .int (nI gp), .int (nI sl), .ref xc, .ref xf, .ref xn])), (xd, .inl (G.2.1, 1200, .inl (nb (upb gD (wk gD n 120) (UInt8.ofNat 3))))), (xb, .inl (G.2.1, 40, .inl (nb gB))), (xk, .inl (G.2.1, 16, .inl (nb gK))), (xl, .inl (G.2.1, 8, .inl (nb (tgB gD (wk gD n 120))))), (xt, .inl (G.2.1, 192, .inl (nb gT))), (xw, .inl (G.2.1, 64, .inl gW)), (xs, .inl (G.2.1, 16, .inl gS)), (xg, .inl (G.2.1, 32, .inl (nb gG))), (xy, .inl (G.2.1, 16, .inl (nb gY))), (xe, .inl (G.2.1, 8, .inl (nb gE))), (xc, .inl (G.2.1, 1200, .inl (nb gC))), (xf, .inl (G.2.1, 128, .inl (nn gF))), (xn, .inl (G.2.1, 128, .inl (nn gN)))] H_173_1 := by have h9 := hP_173_1; rw [upd_nbl (m := 3) (by decide)] at h9; exact h9
                        replace hD_173_1 : va_D A [(mo, .inr (5, [.int (nI 0), .ref xd, .int (nI (wk gD n 120)), .int (nI (wk gD n 120)), .ref xb, .int (nI nb1), .int (nI 1), .int (nI wi), .int cr, .ref xk, .ref xl, .ref xt, .int (nI 0), .ref xw, .ref xs, .ref xg, .ref xy, .ref xe, .int (nI jkd9_1), .int (nI jln9_2), .int (nI jps9_3), .int (nI hr), .int br, .int bp, .int (nI gd), .int (nI gp), .int (nI sl), .ref xc, .ref xf, .ref xn])), (xd, .inl (G.2.1, 1200, .inl (nb (upb gD (wk gD n 120) (UInt8.ofNat 3))))), (xb, .inl (G.2.1, 40, .inl (nb gB))), (xk, .inl (G.2.1, 16, .inl (nb gK))), (xl, .inl (G.2.1, 8, .inl (nb (tgB gD (wk gD n 120))))), (xt, .inl (G.2.1, 192, .inl (nb gT))), (xw, .inl (G.2.1, 64, .inl gW)), (xs, .inl (G.2.1, 16, .inl gS)), (xg, .inl (G.2.1, 32, .inl (nb gG))), (xy, .inl (G.2.1, 16, .inl (nb gY))), (xe, .inl (G.2.1, 8, .inl (nb gE))), (xc, .inl (G.2.1, 1200, .inl (nb gC))), (xf, .inl (G.2.1, 128, .inl (nn gF))), (xn, .inl (G.2.1, 128, .inl (nn gN)))] := hD.set (p := 1) rfl
                        replace hP : va_P G.1 vwCl [(mo, .inr (5, [.int (nI 0), .ref xd, .int (nI (wk gD n 120)), .int (nI (wk gD n 120)), .ref xb, .int (nI nb1), .int (nI 1), .int (nI wi), .int cr, .ref xk, .ref xl, .ref xt, .int (nI 0), .ref xw, .ref xs, .ref xg, .ref xy, .ref xe, .int (nI jkd9_1), .int (nI jln9_2), .int (nI jps9_3), .int (nI hr), .int br, .int bp, .int (nI gd), .int (nI gp), .int (nI sl), .ref xc, .ref xf, .ref xn])), (xd, .inl (G.2.1, 1200, .inl (nb (upb gD (wk gD n 120) (UInt8.ofNat 3))))), (xb, .inl (G.2.1, 40, .inl (nb gB))), (xk, .inl (G.2.1, 16, .inl (nb gK))), (xl, .inl (G.2.1, 8, .inl (nb (tgB gD (wk gD n 120))))), (xt, .inl (G.2.1, 192, .inl (nb gT))), (xw, .inl (G.2.1, 64, .inl gW)), (xs, .inl (G.2.1, 16, .inl gS)), (xg, .inl (G.2.1, 32, .inl (nb gG))), (xy, .inl (G.2.1, 16, .inl (nb gY))), (xe, .inl (G.2.1, 8, .inl (nb gE))), (xc, .inl (G.2.1, 1200, .inl (nb gC))), (xf, .inl (G.2.1, 128, .inl (nn gF))), (xn, .inl (G.2.1, 128, .inl (nn gN)))] H_173_1 := hP_173_1
                        replace hD : va_D A [(mo, .inr (5, [.int (nI 0), .ref xd, .int (nI (wk gD n 120)), .int (nI (wk gD n 120)), .ref xb, .int (nI nb1), .int (nI 1), .int (nI wi), .int cr, .ref xk, .ref xl, .ref xt, .int (nI 0), .ref xw, .ref xs, .ref xg, .ref xy, .ref xe, .int (nI jkd9_1), .int (nI jln9_2), .int (nI jps9_3), .int (nI hr), .int br, .int bp, .int (nI gd), .int (nI gp), .int (nI sl), .ref xc, .ref xf, .ref xn])), (xd, .inl (G.2.1, 1200, .inl (nb (upb gD (wk gD n 120) (UInt8.ofNat 3))))), (xb, .inl (G.2.1, 40, .inl (nb gB))), (xk, .inl (G.2.1, 16, .inl (nb gK))), (xl, .inl (G.2.1, 8, .inl (nb (tgB gD (wk gD n 120))))), (xt, .inl (G.2.1, 192, .inl (nb gT))), (xw, .inl (G.2.1, 64, .inl gW)), (xs, .inl (G.2.1, 16, .inl gS)), (xg, .inl (G.2.1, 32, .inl (nb gG))), (xy, .inl (G.2.1, 16, .inl (nb gY))), (xe, .inl (G.2.1, 8, .inl (nb gE))), (xc, .inl (G.2.1, 1200, .inl (nb gC))), (xf, .inl (G.2.1, 128, .inl (nn gF))), (xn, .inl (G.2.1, 128, .inl (nn gN)))] := hD_173_1
                        replace hS : va_S A sv.heap H_173_1 locs_173_1 := hS_173_1
                        clear hP_173_1 hD_173_1 hS_173_1
                        refine lv_aload_n hx hb dX5_recover_174 rfl (lv_at hl 0 rfl) ?_
                        refine va_get (D := G.1) (ci := 5) (v := .ref xd) (C := RX5) (T := TX5) (N := 30) hx hb hts in_wsX50 hown hK hP 0 rfl rfl 1 (by decide) (hts _ wm_250) (fun _ h9 => h9) rfl dX5_recover_175 ?_
                        refine lv_aload_n hx hb dX5_recover_178 rfl (lv_at hl 0 rfl) ?_
                        refine va_get (D := G.1) (ci := 5) (v := .int (nI (wk gD n 120))) (C := RX5) (T := TX5) (N := 30) hx hb hts in_wsX50 hown hK hP 0 rfl rfl 2 (by decide) (hts _ wm_376) (fun _ h9 => h9) rfl dX5_recover_179 ?_
                        refine lv_iconst (v := nI 1) hx hb dX5_recover_182 (by decide) ?_
                        refine lv_iadd hx hb dX5_recover_183 ?_
                        refine f_top (y := nI (wk gD n 120 + 1)) (nI_add _ _) ?_
                        refine lv_iconst (v := nI 2) hx hb dX5_recover_184 (by decide) ?_
                        refine f_iast hx hb hK hP hD hS 1 rfl (by omega) (by decide) dX5_recover_185 (fun H_185_1 locs_185_1 hP_185_1 hD_185_1 hS_185_1 => ?_)
                        replace hP_185_1 : va_P G.1 vwCl [(mo, .inr (5, [.int (nI 0), .ref xd, .int (nI (wk gD n 120)), .int (nI (wk gD n 120)), .ref xb, .int (nI nb1), .int (nI 1), .int (nI wi), .int cr, .ref xk, .ref xl, .ref xt, .int (nI 0), .ref xw, .ref xs, .ref xg, .ref xy, .ref xe, .int (nI jkd9_1), .int (nI jln9_2), .int (nI jps9_3), .int (nI hr), .int br, .int bp, .int (nI gd), .int (nI gp), .int (nI sl), .ref xc, .ref xf, .ref xn])), (xd, .inl (G.2.1, 1200, .inl (nb (upb (upb gD (wk gD n 120) (UInt8.ofNat 3)) (wk gD n 120 + 1) (UInt8.ofNat 2))))), (xb, .inl (G.2.1, 40, .inl (nb gB))), (xk, .inl (G.2.1, 16, .inl (nb gK))), (xl, .inl (G.2.1, 8, .inl (nb (tgB gD (wk gD n 120))))), (xt, .inl (G.2.1, 192, .inl (nb gT))), (xw, .inl (G.2.1, 64, .inl gW)), (xs, .inl (G.2.1, 16, .inl gS)), (xg, .inl (G.2.1, 32, .inl (nb gG))), (xy, .inl (G.2.1, 16, .inl (nb gY))), (xe, .inl (G.2.1, 8, .inl (nb gE))), (xc, .inl (G.2.1, 1200, .inl (nb gC))), (xf, .inl (G.2.1, 128, .inl (nn gF))), (xn, .inl (G.2.1, 128, .inl (nn gN)))] H_185_1 := by have h9 := hP_185_1; rw [upd_nbl (m := 2) (by decide)] at h9; exact h9
                        replace hD_185_1 : va_D A [(mo, .inr (5, [.int (nI 0), .ref xd, .int (nI (wk gD n 120)), .int (nI (wk gD n 120)), .ref xb, .int (nI nb1), .int (nI 1), .int (nI wi), .int cr, .ref xk, .ref xl, .ref xt, .int (nI 0), .ref xw, .ref xs, .ref xg, .ref xy, .ref xe, .int (nI jkd9_1), .int (nI jln9_2), .int (nI jps9_3), .int (nI hr), .int br, .int bp, .int (nI gd), .int (nI gp), .int (nI sl), .ref xc, .ref xf, .ref xn])), (xd, .inl (G.2.1, 1200, .inl (nb (upb (upb gD (wk gD n 120) (UInt8.ofNat 3)) (wk gD n 120 + 1) (UInt8.ofNat 2))))), (xb, .inl (G.2.1, 40, .inl (nb gB))), (xk, .inl (G.2.1, 16, .inl (nb gK))), (xl, .inl (G.2.1, 8, .inl (nb (tgB gD (wk gD n 120))))), (xt, .inl (G.2.1, 192, .inl (nb gT))), (xw, .inl (G.2.1, 64, .inl gW)), (xs, .inl (G.2.1, 16, .inl gS)), (xg, .inl (G.2.1, 32, .inl (nb gG))), (xy, .inl (G.2.1, 16, .inl (nb gY))), (xe, .inl (G.2.1, 8, .inl (nb gE))), (xc, .inl (G.2.1, 1200, .inl (nb gC))), (xf, .inl (G.2.1, 128, .inl (nn gF))), (xn, .inl (G.2.1, 128, .inl (nn gN)))] := hD.set (p := 1) rfl
                        replace hP : va_P G.1 vwCl [(mo, .inr (5, [.int (nI 0), .ref xd, .int (nI (wk gD n 120)), .int (nI (wk gD n 120)), .ref xb, .int (nI nb1), .int (nI 1), .int (nI wi), .int cr, .ref xk, .ref xl, .ref xt, .int (nI 0), .ref xw, .ref xs, .ref xg, .ref xy, .ref xe, .int (nI jkd9_1), .int (nI jln9_2), .int (nI jps9_3), .int (nI hr), .int br, .int bp, .int (nI gd), .int (nI gp), .int (nI sl), .ref xc, .ref xf, .ref xn])), (xd, .inl (G.2.1, 1200, .inl (nb (upb (upb gD (wk gD n 120) (UInt8.ofNat 3)) (wk gD n 120 + 1) (UInt8.ofNat 2))))), (xb, .inl (G.2.1, 40, .inl (nb gB))), (xk, .inl (G.2.1, 16, .inl (nb gK))), (xl, .inl (G.2.1, 8, .inl (nb (tgB gD (wk gD n 120))))), (xt, .inl (G.2.1, 192, .inl (nb gT))), (xw, .inl (G.2.1, 64, .inl gW)), (xs, .inl (G.2.1, 16, .inl gS)), (xg, .inl (G.2.1, 32, .inl (nb gG))), (xy, .inl (G.2.1, 16, .inl (nb gY))), (xe, .inl (G.2.1, 8, .inl (nb gE))), (xc, .inl (G.2.1, 1200, .inl (nb gC))), (xf, .inl (G.2.1, 128, .inl (nn gF))), (xn, .inl (G.2.1, 128, .inl (nn gN)))] H_185_1 := hP_185_1
                        replace hD : va_D A [(mo, .inr (5, [.int (nI 0), .ref xd, .int (nI (wk gD n 120)), .int (nI (wk gD n 120)), .ref xb, .int (nI nb1), .int (nI 1), .int (nI wi), .int cr, .ref xk, .ref xl, .ref xt, .int (nI 0), .ref xw, .ref xs, .ref xg, .ref xy, .ref xe, .int (nI jkd9_1), .int (nI jln9_2), .int (nI jps9_3), .int (nI hr), .int br, .int bp, .int (nI gd), .int (nI gp), .int (nI sl), .ref xc, .ref xf, .ref xn])), (xd, .inl (G.2.1, 1200, .inl (nb (upb (upb gD (wk gD n 120) (UInt8.ofNat 3)) (wk gD n 120 + 1) (UInt8.ofNat 2))))), (xb, .inl (G.2.1, 40, .inl (nb gB))), (xk, .inl (G.2.1, 16, .inl (nb gK))), (xl, .inl (G.2.1, 8, .inl (nb (tgB gD (wk gD n 120))))), (xt, .inl (G.2.1, 192, .inl (nb gT))), (xw, .inl (G.2.1, 64, .inl gW)), (xs, .inl (G.2.1, 16, .inl gS)), (xg, .inl (G.2.1, 32, .inl (nb gG))), (xy, .inl (G.2.1, 16, .inl (nb gY))), (xe, .inl (G.2.1, 8, .inl (nb gE))), (xc, .inl (G.2.1, 1200, .inl (nb gC))), (xf, .inl (G.2.1, 128, .inl (nn gF))), (xn, .inl (G.2.1, 128, .inl (nn gN)))] := hD_185_1
                        replace hS : va_S A sv.heap H_185_1 locs_185_1 := hS_185_1
                        clear hP_185_1 hD_185_1 hS_185_1
                        refine lv_aload_n hx hb dX5_recover_186 rfl (lv_at hl 0 rfl) ?_
                        refine va_get (D := G.1) (ci := 5) (v := .ref xd) (C := RX5) (T := TX5) (N := 30) hx hb hts in_wsX50 hown hK hP 0 rfl rfl 1 (by decide) (hts _ wm_250) (fun _ h9 => h9) rfl dX5_recover_187 ?_
                        refine lv_aload_n hx hb dX5_recover_190 rfl (lv_at hl 0 rfl) ?_
                        refine va_get (D := G.1) (ci := 5) (v := .int (nI (wk gD n 120))) (C := RX5) (T := TX5) (N := 30) hx hb hts in_wsX50 hown hK hP 0 rfl rfl 2 (by decide) (hts _ wm_376) (fun _ h9 => h9) rfl dX5_recover_191 ?_
                        refine lv_iconst (v := nI 2) hx hb dX5_recover_194 (by decide) ?_
                        refine lv_iadd hx hb dX5_recover_195 ?_
                        refine f_top (y := nI (wk gD n 120 + 2)) (nI_add _ _) ?_
                        refine lv_iload hx hb dX5_recover_196 (lv_at hl 3 rfl) ?_
                        refine lv_sipush (v := nI 256) hx hb dX5_recover_198 (by decide) ?_
                        refine lv_idiv hx hb dX5_recover_201 (by decide) ?_
                        refine f_top (y := nI ((wi - (wx gD n 120)) / 256)) (pk_div (by omega) (by decide) (by decide)) ?_
                        refine f_iast hx hb hK hP hD hS 1 rfl (by omega) (by decide) dX5_recover_202 (fun H_202_1 locs_202_1 hP_202_1 hD_202_1 hS_202_1 => ?_)
                        replace hP_202_1 : va_P G.1 vwCl [(mo, .inr (5, [.int (nI 0), .ref xd, .int (nI (wk gD n 120)), .int (nI (wk gD n 120)), .ref xb, .int (nI nb1), .int (nI 1), .int (nI wi), .int cr, .ref xk, .ref xl, .ref xt, .int (nI 0), .ref xw, .ref xs, .ref xg, .ref xy, .ref xe, .int (nI jkd9_1), .int (nI jln9_2), .int (nI jps9_3), .int (nI hr), .int br, .int bp, .int (nI gd), .int (nI gp), .int (nI sl), .ref xc, .ref xf, .ref xn])), (xd, .inl (G.2.1, 1200, .inl (nb (upb (upb (upb gD (wk gD n 120) (UInt8.ofNat 3)) (wk gD n 120 + 1) (UInt8.ofNat 2)) (wk gD n 120 + 2) (UInt8.ofNat ((wi - (wx gD n 120)) / 256)))))), (xb, .inl (G.2.1, 40, .inl (nb gB))), (xk, .inl (G.2.1, 16, .inl (nb gK))), (xl, .inl (G.2.1, 8, .inl (nb (tgB gD (wk gD n 120))))), (xt, .inl (G.2.1, 192, .inl (nb gT))), (xw, .inl (G.2.1, 64, .inl gW)), (xs, .inl (G.2.1, 16, .inl gS)), (xg, .inl (G.2.1, 32, .inl (nb gG))), (xy, .inl (G.2.1, 16, .inl (nb gY))), (xe, .inl (G.2.1, 8, .inl (nb gE))), (xc, .inl (G.2.1, 1200, .inl (nb gC))), (xf, .inl (G.2.1, 128, .inl (nn gF))), (xn, .inl (G.2.1, 128, .inl (nn gN)))] H_202_1 := by have h9 := hP_202_1; rw [upd_nbl (m := ((wi - (wx gD n 120)) / 256)) (by omega)] at h9; exact h9
                        replace hD_202_1 : va_D A [(mo, .inr (5, [.int (nI 0), .ref xd, .int (nI (wk gD n 120)), .int (nI (wk gD n 120)), .ref xb, .int (nI nb1), .int (nI 1), .int (nI wi), .int cr, .ref xk, .ref xl, .ref xt, .int (nI 0), .ref xw, .ref xs, .ref xg, .ref xy, .ref xe, .int (nI jkd9_1), .int (nI jln9_2), .int (nI jps9_3), .int (nI hr), .int br, .int bp, .int (nI gd), .int (nI gp), .int (nI sl), .ref xc, .ref xf, .ref xn])), (xd, .inl (G.2.1, 1200, .inl (nb (upb (upb (upb gD (wk gD n 120) (UInt8.ofNat 3)) (wk gD n 120 + 1) (UInt8.ofNat 2)) (wk gD n 120 + 2) (UInt8.ofNat ((wi - (wx gD n 120)) / 256)))))), (xb, .inl (G.2.1, 40, .inl (nb gB))), (xk, .inl (G.2.1, 16, .inl (nb gK))), (xl, .inl (G.2.1, 8, .inl (nb (tgB gD (wk gD n 120))))), (xt, .inl (G.2.1, 192, .inl (nb gT))), (xw, .inl (G.2.1, 64, .inl gW)), (xs, .inl (G.2.1, 16, .inl gS)), (xg, .inl (G.2.1, 32, .inl (nb gG))), (xy, .inl (G.2.1, 16, .inl (nb gY))), (xe, .inl (G.2.1, 8, .inl (nb gE))), (xc, .inl (G.2.1, 1200, .inl (nb gC))), (xf, .inl (G.2.1, 128, .inl (nn gF))), (xn, .inl (G.2.1, 128, .inl (nn gN)))] := hD.set (p := 1) rfl
                        replace hP : va_P G.1 vwCl [(mo, .inr (5, [.int (nI 0), .ref xd, .int (nI (wk gD n 120)), .int (nI (wk gD n 120)), .ref xb, .int (nI nb1), .int (nI 1), .int (nI wi), .int cr, .ref xk, .ref xl, .ref xt, .int (nI 0), .ref xw, .ref xs, .ref xg, .ref xy, .ref xe, .int (nI jkd9_1), .int (nI jln9_2), .int (nI jps9_3), .int (nI hr), .int br, .int bp, .int (nI gd), .int (nI gp), .int (nI sl), .ref xc, .ref xf, .ref xn])), (xd, .inl (G.2.1, 1200, .inl (nb (upb (upb (upb gD (wk gD n 120) (UInt8.ofNat 3)) (wk gD n 120 + 1) (UInt8.ofNat 2)) (wk gD n 120 + 2) (UInt8.ofNat ((wi - (wx gD n 120)) / 256)))))), (xb, .inl (G.2.1, 40, .inl (nb gB))), (xk, .inl (G.2.1, 16, .inl (nb gK))), (xl, .inl (G.2.1, 8, .inl (nb (tgB gD (wk gD n 120))))), (xt, .inl (G.2.1, 192, .inl (nb gT))), (xw, .inl (G.2.1, 64, .inl gW)), (xs, .inl (G.2.1, 16, .inl gS)), (xg, .inl (G.2.1, 32, .inl (nb gG))), (xy, .inl (G.2.1, 16, .inl (nb gY))), (xe, .inl (G.2.1, 8, .inl (nb gE))), (xc, .inl (G.2.1, 1200, .inl (nb gC))), (xf, .inl (G.2.1, 128, .inl (nn gF))), (xn, .inl (G.2.1, 128, .inl (nn gN)))] H_202_1 := hP_202_1
                        replace hD : va_D A [(mo, .inr (5, [.int (nI 0), .ref xd, .int (nI (wk gD n 120)), .int (nI (wk gD n 120)), .ref xb, .int (nI nb1), .int (nI 1), .int (nI wi), .int cr, .ref xk, .ref xl, .ref xt, .int (nI 0), .ref xw, .ref xs, .ref xg, .ref xy, .ref xe, .int (nI jkd9_1), .int (nI jln9_2), .int (nI jps9_3), .int (nI hr), .int br, .int bp, .int (nI gd), .int (nI gp), .int (nI sl), .ref xc, .ref xf, .ref xn])), (xd, .inl (G.2.1, 1200, .inl (nb (upb (upb (upb gD (wk gD n 120) (UInt8.ofNat 3)) (wk gD n 120 + 1) (UInt8.ofNat 2)) (wk gD n 120 + 2) (UInt8.ofNat ((wi - (wx gD n 120)) / 256)))))), (xb, .inl (G.2.1, 40, .inl (nb gB))), (xk, .inl (G.2.1, 16, .inl (nb gK))), (xl, .inl (G.2.1, 8, .inl (nb (tgB gD (wk gD n 120))))), (xt, .inl (G.2.1, 192, .inl (nb gT))), (xw, .inl (G.2.1, 64, .inl gW)), (xs, .inl (G.2.1, 16, .inl gS)), (xg, .inl (G.2.1, 32, .inl (nb gG))), (xy, .inl (G.2.1, 16, .inl (nb gY))), (xe, .inl (G.2.1, 8, .inl (nb gE))), (xc, .inl (G.2.1, 1200, .inl (nb gC))), (xf, .inl (G.2.1, 128, .inl (nn gF))), (xn, .inl (G.2.1, 128, .inl (nn gN)))] := hD_202_1
                        replace hS : va_S A sv.heap H_202_1 locs_202_1 := hS_202_1
                        clear hP_202_1 hD_202_1 hS_202_1
                        refine lv_aload_n hx hb dX5_recover_203 rfl (lv_at hl 0 rfl) ?_
                        refine va_get (D := G.1) (ci := 5) (v := .ref xd) (C := RX5) (T := TX5) (N := 30) hx hb hts in_wsX50 hown hK hP 0 rfl rfl 1 (by decide) (hts _ wm_250) (fun _ h9 => h9) rfl dX5_recover_204 ?_
                        refine lv_aload_n hx hb dX5_recover_207 rfl (lv_at hl 0 rfl) ?_
                        refine va_get (D := G.1) (ci := 5) (v := .int (nI (wk gD n 120))) (C := RX5) (T := TX5) (N := 30) hx hb hts in_wsX50 hown hK hP 0 rfl rfl 2 (by decide) (hts _ wm_376) (fun _ h9 => h9) rfl dX5_recover_208 ?_
                        refine lv_iconst (v := nI 3) hx hb dX5_recover_211 (by decide) ?_
                        refine lv_iadd hx hb dX5_recover_212 ?_
                        refine f_top (y := nI (wk gD n 120 + 3)) (nI_add _ _) ?_
                        refine lv_iload hx hb dX5_recover_213 (lv_at hl 3 rfl) ?_
                        refine lv_sipush (v := nI 256) hx hb dX5_recover_215 (by decide) ?_
                        refine lv_irem hx hb dX5_recover_218 (by decide) ?_
                        refine f_top (y := nI ((wi - (wx gD n 120)) % 256)) (pk_rem (by omega) (by decide) (by decide)) ?_
                        refine f_iast hx hb hK hP hD hS 1 rfl (by omega) (by decide) dX5_recover_219 (fun H_219_1 locs_219_1 hP_219_1 hD_219_1 hS_219_1 => ?_)
                        replace hP_219_1 : va_P G.1 vwCl [(mo, .inr (5, [.int (nI 0), .ref xd, .int (nI (wk gD n 120)), .int (nI (wk gD n 120)), .ref xb, .int (nI nb1), .int (nI 1), .int (nI wi), .int cr, .ref xk, .ref xl, .ref xt, .int (nI 0), .ref xw, .ref xs, .ref xg, .ref xy, .ref xe, .int (nI jkd9_1), .int (nI jln9_2), .int (nI jps9_3), .int (nI hr), .int br, .int bp, .int (nI gd), .int (nI gp), .int (nI sl), .ref xc, .ref xf, .ref xn])), (xd, .inl (G.2.1, 1200, .inl (nb (upb (upb (upb (upb gD (wk gD n 120) (UInt8.ofNat 3)) (wk gD n 120 + 1) (UInt8.ofNat 2)) (wk gD n 120 + 2) (UInt8.ofNat ((wi - (wx gD n 120)) / 256))) (wk gD n 120 + 3) (UInt8.ofNat ((wi - (wx gD n 120)) % 256)))))), (xb, .inl (G.2.1, 40, .inl (nb gB))), (xk, .inl (G.2.1, 16, .inl (nb gK))), (xl, .inl (G.2.1, 8, .inl (nb (tgB gD (wk gD n 120))))), (xt, .inl (G.2.1, 192, .inl (nb gT))), (xw, .inl (G.2.1, 64, .inl gW)), (xs, .inl (G.2.1, 16, .inl gS)), (xg, .inl (G.2.1, 32, .inl (nb gG))), (xy, .inl (G.2.1, 16, .inl (nb gY))), (xe, .inl (G.2.1, 8, .inl (nb gE))), (xc, .inl (G.2.1, 1200, .inl (nb gC))), (xf, .inl (G.2.1, 128, .inl (nn gF))), (xn, .inl (G.2.1, 128, .inl (nn gN)))] H_219_1 := by have h9 := hP_219_1; rw [upd_nbl (m := ((wi - (wx gD n 120)) % 256)) (by omega)] at h9; exact h9
                        replace hD_219_1 : va_D A [(mo, .inr (5, [.int (nI 0), .ref xd, .int (nI (wk gD n 120)), .int (nI (wk gD n 120)), .ref xb, .int (nI nb1), .int (nI 1), .int (nI wi), .int cr, .ref xk, .ref xl, .ref xt, .int (nI 0), .ref xw, .ref xs, .ref xg, .ref xy, .ref xe, .int (nI jkd9_1), .int (nI jln9_2), .int (nI jps9_3), .int (nI hr), .int br, .int bp, .int (nI gd), .int (nI gp), .int (nI sl), .ref xc, .ref xf, .ref xn])), (xd, .inl (G.2.1, 1200, .inl (nb (upb (upb (upb (upb gD (wk gD n 120) (UInt8.ofNat 3)) (wk gD n 120 + 1) (UInt8.ofNat 2)) (wk gD n 120 + 2) (UInt8.ofNat ((wi - (wx gD n 120)) / 256))) (wk gD n 120 + 3) (UInt8.ofNat ((wi - (wx gD n 120)) % 256)))))), (xb, .inl (G.2.1, 40, .inl (nb gB))), (xk, .inl (G.2.1, 16, .inl (nb gK))), (xl, .inl (G.2.1, 8, .inl (nb (tgB gD (wk gD n 120))))), (xt, .inl (G.2.1, 192, .inl (nb gT))), (xw, .inl (G.2.1, 64, .inl gW)), (xs, .inl (G.2.1, 16, .inl gS)), (xg, .inl (G.2.1, 32, .inl (nb gG))), (xy, .inl (G.2.1, 16, .inl (nb gY))), (xe, .inl (G.2.1, 8, .inl (nb gE))), (xc, .inl (G.2.1, 1200, .inl (nb gC))), (xf, .inl (G.2.1, 128, .inl (nn gF))), (xn, .inl (G.2.1, 128, .inl (nn gN)))] := hD.set (p := 1) rfl
                        replace hP : va_P G.1 vwCl [(mo, .inr (5, [.int (nI 0), .ref xd, .int (nI (wk gD n 120)), .int (nI (wk gD n 120)), .ref xb, .int (nI nb1), .int (nI 1), .int (nI wi), .int cr, .ref xk, .ref xl, .ref xt, .int (nI 0), .ref xw, .ref xs, .ref xg, .ref xy, .ref xe, .int (nI jkd9_1), .int (nI jln9_2), .int (nI jps9_3), .int (nI hr), .int br, .int bp, .int (nI gd), .int (nI gp), .int (nI sl), .ref xc, .ref xf, .ref xn])), (xd, .inl (G.2.1, 1200, .inl (nb (upb (upb (upb (upb gD (wk gD n 120) (UInt8.ofNat 3)) (wk gD n 120 + 1) (UInt8.ofNat 2)) (wk gD n 120 + 2) (UInt8.ofNat ((wi - (wx gD n 120)) / 256))) (wk gD n 120 + 3) (UInt8.ofNat ((wi - (wx gD n 120)) % 256)))))), (xb, .inl (G.2.1, 40, .inl (nb gB))), (xk, .inl (G.2.1, 16, .inl (nb gK))), (xl, .inl (G.2.1, 8, .inl (nb (tgB gD (wk gD n 120))))), (xt, .inl (G.2.1, 192, .inl (nb gT))), (xw, .inl (G.2.1, 64, .inl gW)), (xs, .inl (G.2.1, 16, .inl gS)), (xg, .inl (G.2.1, 32, .inl (nb gG))), (xy, .inl (G.2.1, 16, .inl (nb gY))), (xe, .inl (G.2.1, 8, .inl (nb gE))), (xc, .inl (G.2.1, 1200, .inl (nb gC))), (xf, .inl (G.2.1, 128, .inl (nn gF))), (xn, .inl (G.2.1, 128, .inl (nn gN)))] H_219_1 := hP_219_1
                        replace hD : va_D A [(mo, .inr (5, [.int (nI 0), .ref xd, .int (nI (wk gD n 120)), .int (nI (wk gD n 120)), .ref xb, .int (nI nb1), .int (nI 1), .int (nI wi), .int cr, .ref xk, .ref xl, .ref xt, .int (nI 0), .ref xw, .ref xs, .ref xg, .ref xy, .ref xe, .int (nI jkd9_1), .int (nI jln9_2), .int (nI jps9_3), .int (nI hr), .int br, .int bp, .int (nI gd), .int (nI gp), .int (nI sl), .ref xc, .ref xf, .ref xn])), (xd, .inl (G.2.1, 1200, .inl (nb (upb (upb (upb (upb gD (wk gD n 120) (UInt8.ofNat 3)) (wk gD n 120 + 1) (UInt8.ofNat 2)) (wk gD n 120 + 2) (UInt8.ofNat ((wi - (wx gD n 120)) / 256))) (wk gD n 120 + 3) (UInt8.ofNat ((wi - (wx gD n 120)) % 256)))))), (xb, .inl (G.2.1, 40, .inl (nb gB))), (xk, .inl (G.2.1, 16, .inl (nb gK))), (xl, .inl (G.2.1, 8, .inl (nb (tgB gD (wk gD n 120))))), (xt, .inl (G.2.1, 192, .inl (nb gT))), (xw, .inl (G.2.1, 64, .inl gW)), (xs, .inl (G.2.1, 16, .inl gS)), (xg, .inl (G.2.1, 32, .inl (nb gG))), (xy, .inl (G.2.1, 16, .inl (nb gY))), (xe, .inl (G.2.1, 8, .inl (nb gE))), (xc, .inl (G.2.1, 1200, .inl (nb gC))), (xf, .inl (G.2.1, 128, .inl (nn gF))), (xn, .inl (G.2.1, 128, .inl (nn gN)))] := hD_219_1
                        replace hS : va_S A sv.heap H_219_1 locs_219_1 := hS_219_1
                        clear hP_219_1 hD_219_1 hS_219_1
                        refine lv_aload_n hx hb dX5_recover_220 rfl (lv_at hl 0 rfl) ?_
                        refine lv_iconst (v := nI 2) hx hb dX5_recover_221 (by decide) ?_
                        refine fcVI (As := [.int (nI 2)]) (rest := []) (wr := []) (ws1 := fun (u : (Nat → UInt8) × (Nat → UInt8) × (Nat → UInt8) × (Nat → Int32) × (Nat → Int32) × (Nat → UInt8) × (Nat → UInt8) × (Nat → UInt8)) => [(mo, .inr (5, [.int (nI 0), .ref xd, .int (nI ((wk gD n 120) + (10 + 2))), .int (nI (wk gD n 120)), .ref xb, .int (nI nb1), .int (nI 1), .int (nI (wi + 1)), .int cr, .ref xk, .ref xl, .ref xt, .int (nI 0), .ref xw, .ref xs, .ref xg, .ref xy, .ref xe, .int (nI jkd9_1), .int (nI jln9_2), .int (nI jps9_3), .int (nI hr), .int br, .int bp, .int (nI gd), .int (nI gp), .int (nI sl), .ref xc, .ref xf, .ref xn])), (xd, .inl (G.2.1, 1200, .inl (nb u.1))), (xb, .inl (G.2.1, 40, .inl (nb gB))), (xk, .inl (G.2.1, 16, .inl (nb (nextKey gK)))), (xl, .inl (G.2.1, 8, .inl (nb u.2.1))), (xt, .inl (G.2.1, 192, .inl (nb u.2.2.1))), (xw, .inl (G.2.1, 64, .inl u.2.2.2.1)), (xs, .inl (G.2.1, 16, .inl u.2.2.2.2.1)), (xg, .inl (G.2.1, 32, .inl (nb u.2.2.2.2.2.1))), (xy, .inl (G.2.1, 16, .inl (nb u.2.2.2.2.2.2.1))), (xe, .inl (G.2.1, 8, .inl (nb u.2.2.2.2.2.2.2))), (xc, .inl (G.2.1, 1200, .inl (nb gC))), (xf, .inl (G.2.1, 128, .inl (nn gF))), (xn, .inl (G.2.1, 128, .inl (nn gN)))]) ⟨hx, hb, hml, hown, hts⟩ hK hE hP hD hS hA hl.1 (kX5_write l G mo xd xb xk xl xt xw xs xg xy xe xc xf xn 0 (wk gD n 120) (wk gD n 120) nb1 1 wi cr jkd9_1 jln9_2 jps9_3 hr br bp gd gp sl (upb (upb (upb (upb gD (wk gD n 120) (UInt8.ofNat 3)) (wk gD n 120 + 1) (UInt8.ofNat 2)) (wk gD n 120 + 2) (UInt8.ofNat ((wi - (wx gD n 120)) / 256))) (wk gD n 120 + 3) (UInt8.ofNat ((wi - (wx gD n 120)) % 256))) gB gK (tgB gD (wk gD n 120)) gT gW gS gG gY gE gC gF gN 2 gD 3 (gapB (wi - wx gD n 120)) (wr1_put (k := 1) (wr1_put (k := 0) (rb := gapB (wi - wx gD n 120)) wr1_0)) (by omega) (by decide) (by omega)) (cwV 1 hts (gdV wm_405 wm_406 wm_407 wm_267 wm_393) rfl rfl rfl (by decide +kernel) ⟨Nat.le_of_ble_eq_true rfl, Nat.le_of_ble_eq_true rfl⟩) 0 rfl rfl rfl rfl (Nat.le_of_ble_eq_true rfl) dX5_recover_222 ⟨Nat.le_of_ble_eq_true rfl, Nat.le_of_ble_eq_true rfl⟩ [0, 1, 2, 3, 4, 5, 6, 7, 8, 9, 10, 11, 12, 13] [] [0, 1, 2, 3, 4, 5, 6, 7, 8, 9, 10, 11, 12, 13] rfl rfl rfl rfl (by decide) rfl (fun _ => rfl) (fun r_222_1 u_222_1 H_222_1 locs_222_1 hw_222_1 hP_222_1 hD_222_1 hS_222_1 => ?_)
                        obtain ⟨jD9_14, jL9_15, jT9_16, jW9_17, jS9_18, jG9_19, jY9_20, jE9_21⟩ := u_222_1
                        obtain ⟨rfl, f_22, f_23⟩ := hw_222_1
                        replace f_22 : wr2 jD9_14 gD (wk gD n 120) 3 2 (gapB (wi - wx gD n 120)) (tagW gK wi jD9_14 (wk gD n 120) (tgB gD (wk gD n 120))) 8 := f_22
                        replace f_23 : (∀ j, j < 8 → jL9_15 j = dgB (tagW gK wi jD9_14 (wk gD n 120) (tgB gD (wk gD n 120))) j) := f_23
                        replace hP : va_P G.1 vwCl [(mo, .inr (5, [.int (nI 0), .ref xd, .int (nI ((wk gD n 120) + (10 + 2))), .int (nI (wk gD n 120)), .ref xb, .int (nI nb1), .int (nI 1), .int (nI (wi + 1)), .int cr, .ref xk, .ref xl, .ref xt, .int (nI 0), .ref xw, .ref xs, .ref xg, .ref xy, .ref xe, .int (nI jkd9_1), .int (nI jln9_2), .int (nI jps9_3), .int (nI hr), .int br, .int bp, .int (nI gd), .int (nI gp), .int (nI sl), .ref xc, .ref xf, .ref xn])), (xd, .inl (G.2.1, 1200, .inl (nb jD9_14))), (xb, .inl (G.2.1, 40, .inl (nb gB))), (xk, .inl (G.2.1, 16, .inl (nb (nextKey gK)))), (xl, .inl (G.2.1, 8, .inl (nb jL9_15))), (xt, .inl (G.2.1, 192, .inl (nb jT9_16))), (xw, .inl (G.2.1, 64, .inl jW9_17)), (xs, .inl (G.2.1, 16, .inl jS9_18)), (xg, .inl (G.2.1, 32, .inl (nb jG9_19))), (xy, .inl (G.2.1, 16, .inl (nb jY9_20))), (xe, .inl (G.2.1, 8, .inl (nb jE9_21))), (xc, .inl (G.2.1, 1200, .inl (nb gC))), (xf, .inl (G.2.1, 128, .inl (nn gF))), (xn, .inl (G.2.1, 128, .inl (nn gN)))] H_222_1 := hP_222_1
                        replace hD : va_D A [(mo, .inr (5, [.int (nI 0), .ref xd, .int (nI ((wk gD n 120) + (10 + 2))), .int (nI (wk gD n 120)), .ref xb, .int (nI nb1), .int (nI 1), .int (nI (wi + 1)), .int cr, .ref xk, .ref xl, .ref xt, .int (nI 0), .ref xw, .ref xs, .ref xg, .ref xy, .ref xe, .int (nI jkd9_1), .int (nI jln9_2), .int (nI jps9_3), .int (nI hr), .int br, .int bp, .int (nI gd), .int (nI gp), .int (nI sl), .ref xc, .ref xf, .ref xn])), (xd, .inl (G.2.1, 1200, .inl (nb jD9_14))), (xb, .inl (G.2.1, 40, .inl (nb gB))), (xk, .inl (G.2.1, 16, .inl (nb (nextKey gK)))), (xl, .inl (G.2.1, 8, .inl (nb jL9_15))), (xt, .inl (G.2.1, 192, .inl (nb jT9_16))), (xw, .inl (G.2.1, 64, .inl jW9_17)), (xs, .inl (G.2.1, 16, .inl jS9_18)), (xg, .inl (G.2.1, 32, .inl (nb jG9_19))), (xy, .inl (G.2.1, 16, .inl (nb jY9_20))), (xe, .inl (G.2.1, 8, .inl (nb jE9_21))), (xc, .inl (G.2.1, 1200, .inl (nb gC))), (xf, .inl (G.2.1, 128, .inl (nn gF))), (xn, .inl (G.2.1, 128, .inl (nn gN)))] := hD_222_1
                        replace hS : va_S A sv.heap H_222_1 locs_222_1 := hS_222_1
                        clear hP_222_1 hD_222_1 hS_222_1
                        refine lv_istore (lv' := [(5, .int (nI wi)), (0, .ref mo), (1, .int (nI (wk gD n 120))), (3, .int (nI (wk gD n 120 - 8))), (4, .int (nI (wi - (wx gD n 120))))]) hx hb dX5_recover_225 hl (by decide) rfl (fun ls hl2 => ?_)
                        replace hl := hl2; clear hl2
                        refine lv_iload hx hb dX5_recover_227 (lv_at hl 4 rfl) ?_
                        exact hend (nI (wi - (wx gD n 120))) (jD9_14, jL9_15, jT9_16, jW9_17, jS9_18, jG9_19, jY9_20, jE9_21, jkd9_1, jln9_2, jps9_3) _ _ _ _ rfl (⟨rfl, f_22, f_23⟩) hP hD hS dX5_recover_229
                    · skip
                      refine lv_aload_n hx hb dX5_recover_129 rfl (lv_at hl 0 rfl) ?_
                      refine va_get (D := G.1) (ci := 5) (v := .ref xl) (C := RX5) (T := TX5) (N := 30) hx hb hts in_wsX50 hown hK hP 0 rfl rfl 10 (by decide) (hts _ wm_253) (fun _ h9 => h9) rfl dX5_recover_130 ?_
                      refine lv_iload hx hb dX5_recover_133 (lv_at hl 4 rfl) ?_
                      refine lv_iload_n hx hb dX5_recover_135 rfl (lv_at hl 2 rfl) ?_
                      refine f_if_ge (tgt := 143) (by omega) hx hb dX5_recover_136 (by decide) ?_
                      refine lv_aload_n hx hb dX5_recover_143 rfl (lv_at hl 0 rfl) ?_
                      refine va_get (D := G.1) (ci := 5) (v := .ref xd) (C := RX5) (T := TX5) (N := 30) hx hb hts in_wsX50 hown hK hP 0 rfl rfl 1 (by decide) (hts _ wm_250) (fun _ h9 => h9) rfl dX5_recover_144 ?_
                      refine lv_iload_n hx hb dX5_recover_147 rfl (lv_at hl 2 rfl) ?_
                      refine lv_iload hx hb dX5_recover_148 (lv_at hl 4 rfl) ?_
                      refine lv_iadd hx hb dX5_recover_150 ?_
                      refine f_top (y := nI (wk gD n 120 - 8 + k9)) (nI_add _ _) ?_
                      refine f_iald (v := bI (gD (wk gD n 120 - 8 + k9))) hx hb hK hP 1 rfl (by omega) (by decide) rfl dX5_recover_151 ?_
                      refine f_top (y := bI (tgB gD (wk gD n 120) k9)) (by unfold tgB; rw [if_neg (by omega)]) ?_
                      refine f_iast hx hb hK hP hD hS 4 rfl (by omega) (by decide) dX5_recover_152 (fun H_152_1 locs_152_1 hP_152_1 hD_152_1 hS_152_1 => ?_)
                      replace hP_152_1 : va_P G.1 vwCl [(mo, .inr (5, [.int (nI 0), .ref xd, .int (nI (wk gD n 120)), .int (nI (wk gD n 120)), .ref xb, .int (nI nb1), .int (nI 1), .int (nI wi), .int cr, .ref xk, .ref xl, .ref xt, .int (nI 0), .ref xw, .ref xs, .ref xg, .ref xy, .ref xe, .int (nI jkd9_1), .int (nI jln9_2), .int (nI jps9_3), .int (nI hr), .int br, .int bp, .int (nI gd), .int (nI gp), .int (nI sl), .ref xc, .ref xf, .ref xn])), (xd, .inl (G.2.1, 1200, .inl (nb gD))), (xb, .inl (G.2.1, 40, .inl (nb gB))), (xk, .inl (G.2.1, 16, .inl (nb gK))), (xl, .inl (G.2.1, 8, .inl (nb (upb L1 k9 (tgB gD (wk gD n 120) k9))))), (xt, .inl (G.2.1, 192, .inl (nb gT))), (xw, .inl (G.2.1, 64, .inl gW)), (xs, .inl (G.2.1, 16, .inl gS)), (xg, .inl (G.2.1, 32, .inl (nb gG))), (xy, .inl (G.2.1, 16, .inl (nb gY))), (xe, .inl (G.2.1, 8, .inl (nb gE))), (xc, .inl (G.2.1, 1200, .inl (nb gC))), (xf, .inl (G.2.1, 128, .inl (nn gF))), (xn, .inl (G.2.1, 128, .inl (nn gN)))] H_152_1 := by have h9 := hP_152_1; rw [upd_nb] at h9; exact h9
                      replace hD_152_1 : va_D A [(mo, .inr (5, [.int (nI 0), .ref xd, .int (nI (wk gD n 120)), .int (nI (wk gD n 120)), .ref xb, .int (nI nb1), .int (nI 1), .int (nI wi), .int cr, .ref xk, .ref xl, .ref xt, .int (nI 0), .ref xw, .ref xs, .ref xg, .ref xy, .ref xe, .int (nI jkd9_1), .int (nI jln9_2), .int (nI jps9_3), .int (nI hr), .int br, .int bp, .int (nI gd), .int (nI gp), .int (nI sl), .ref xc, .ref xf, .ref xn])), (xd, .inl (G.2.1, 1200, .inl (nb gD))), (xb, .inl (G.2.1, 40, .inl (nb gB))), (xk, .inl (G.2.1, 16, .inl (nb gK))), (xl, .inl (G.2.1, 8, .inl (nb (upb L1 k9 (tgB gD (wk gD n 120) k9))))), (xt, .inl (G.2.1, 192, .inl (nb gT))), (xw, .inl (G.2.1, 64, .inl gW)), (xs, .inl (G.2.1, 16, .inl gS)), (xg, .inl (G.2.1, 32, .inl (nb gG))), (xy, .inl (G.2.1, 16, .inl (nb gY))), (xe, .inl (G.2.1, 8, .inl (nb gE))), (xc, .inl (G.2.1, 1200, .inl (nb gC))), (xf, .inl (G.2.1, 128, .inl (nn gF))), (xn, .inl (G.2.1, 128, .inl (nn gN)))] := hD.set (p := 4) rfl
                      replace hP : va_P G.1 vwCl [(mo, .inr (5, [.int (nI 0), .ref xd, .int (nI (wk gD n 120)), .int (nI (wk gD n 120)), .ref xb, .int (nI nb1), .int (nI 1), .int (nI wi), .int cr, .ref xk, .ref xl, .ref xt, .int (nI 0), .ref xw, .ref xs, .ref xg, .ref xy, .ref xe, .int (nI jkd9_1), .int (nI jln9_2), .int (nI jps9_3), .int (nI hr), .int br, .int bp, .int (nI gd), .int (nI gp), .int (nI sl), .ref xc, .ref xf, .ref xn])), (xd, .inl (G.2.1, 1200, .inl (nb gD))), (xb, .inl (G.2.1, 40, .inl (nb gB))), (xk, .inl (G.2.1, 16, .inl (nb gK))), (xl, .inl (G.2.1, 8, .inl (nb (upb L1 k9 (tgB gD (wk gD n 120) k9))))), (xt, .inl (G.2.1, 192, .inl (nb gT))), (xw, .inl (G.2.1, 64, .inl gW)), (xs, .inl (G.2.1, 16, .inl gS)), (xg, .inl (G.2.1, 32, .inl (nb gG))), (xy, .inl (G.2.1, 16, .inl (nb gY))), (xe, .inl (G.2.1, 8, .inl (nb gE))), (xc, .inl (G.2.1, 1200, .inl (nb gC))), (xf, .inl (G.2.1, 128, .inl (nn gF))), (xn, .inl (G.2.1, 128, .inl (nn gN)))] H_152_1 := hP_152_1
                      replace hD : va_D A [(mo, .inr (5, [.int (nI 0), .ref xd, .int (nI (wk gD n 120)), .int (nI (wk gD n 120)), .ref xb, .int (nI nb1), .int (nI 1), .int (nI wi), .int cr, .ref xk, .ref xl, .ref xt, .int (nI 0), .ref xw, .ref xs, .ref xg, .ref xy, .ref xe, .int (nI jkd9_1), .int (nI jln9_2), .int (nI jps9_3), .int (nI hr), .int br, .int bp, .int (nI gd), .int (nI gp), .int (nI sl), .ref xc, .ref xf, .ref xn])), (xd, .inl (G.2.1, 1200, .inl (nb gD))), (xb, .inl (G.2.1, 40, .inl (nb gB))), (xk, .inl (G.2.1, 16, .inl (nb gK))), (xl, .inl (G.2.1, 8, .inl (nb (upb L1 k9 (tgB gD (wk gD n 120) k9))))), (xt, .inl (G.2.1, 192, .inl (nb gT))), (xw, .inl (G.2.1, 64, .inl gW)), (xs, .inl (G.2.1, 16, .inl gS)), (xg, .inl (G.2.1, 32, .inl (nb gG))), (xy, .inl (G.2.1, 16, .inl (nb gY))), (xe, .inl (G.2.1, 8, .inl (nb gE))), (xc, .inl (G.2.1, 1200, .inl (nb gC))), (xf, .inl (G.2.1, 128, .inl (nn gF))), (xn, .inl (G.2.1, 128, .inl (nn gN)))] := hD_152_1
                      replace hS : va_S A sv.heap H_152_1 locs_152_1 := hS_152_1
                      clear hP_152_1 hD_152_1 hS_152_1
                      refine lv_iinc (v := nI (k9 + 1)) (lv' := [(5, .int (nI (k9 + 1))), (0, .ref mo), (1, .int (nI (wk gD n 120))), (3, .int (nI (wk gD n 120 - 8))), (4, .int (nI (wi - (wx gD n 120))))]) hx hb dX5_recover_153 hl (k := 4) rfl (f_inc1 _) (by decide) rfl (fun ls hl2 => ?_)
                      replace hl := hl2; clear hl2
                      refine lv_goto (tgt := 122) hx hb dX5_recover_156 (by decide) ?_
                      exact ih_122_1 (k9 + 1) (upb L1 k9 (tgB gD (wk gD n 120) k9)) _ _ _ (by omega) (by omega) (upb_ext hL) hP hD hS (lv_sub hl [1, 2, 3, 4, 0] rfl)
                exact L_122_1 ((9 - 0) + 1) 0 gL _ _ _ (Nat.lt_succ_self _) (by omega) ext_0 hP hD hS (lv_sub hl [2, 3, 5, 1, 0] rfl)
            · skip
              exfalso; omega
  exact L_27 ((121 - 0) + 1) 0 kd ln ps _ _ _ (Nat.lt_succ_self _) (Nat.le_refl _) hP hD hS (lv_sub hl [3, 2, 1, 0] rfl)

set_option maxRecDepth 100000 in
set_option maxHeartbeats 4000000 in
theorem kX5_bears (l : Launch) (G : fG) (mo : Nat) (xd : Nat) (xb : Nat) (xk : Nat) (xl : Nat) (xt : Nat) (xw : Nat) (xs : Nat) (xg : Nat) (xy : Nat) (xe : Nat) (xc : Nat) (xf : Nat) (xn : Nat) (rf : Nat) (n : Nat) (y : Nat) (nb1 : Nat) (up : Nat) (wi : Nat) (cr : Int32) (kd : Nat) (ps : Nat) (hr : Nat) (br : Int32) (bp : Int32) (gd : Nat) (gp : Nat) (sl : Nat) (gD : Nat → UInt8) (gB : Nat → UInt8) (gK : Nat → UInt8) (gL : Nat → UInt8) (gT : Nat → UInt8) (gW : Nat → Int32) (gS : Nat → Int32) (gG : Nat → UInt8) (gY : Nat → UInt8) (gE : Nat → UInt8) (gC : Nat → UInt8) (gF : Nat → Nat) (gN : Nat → Nat) (a : Nat) (i : Nat) (hi : i < 2 ^ 31) (ha : a + 10 + (gD (a + 1)).toNat ≤ 1200) (hl9 : (gD (a + 1)).toNat ≤ 40) : fMI l yX5_bears (.code yX5_bears cX5_bears 5 (some .boolean) :: wsA) ({ frames := 4, cells := 0, slots := 0, locals := 95 } : Room) G [.ref mo, .int (nI a), .int (nI i)] [(mo, .inr (5, [.int (nI rf), .ref xd, .int (nI n), .int (nI y), .ref xb, .int (nI nb1), .int (nI up), .int (nI wi), .int cr, .ref xk, .ref xl, .ref xt, .int (nI 0), .ref xw, .ref xs, .ref xg, .ref xy, .ref xe, .int (nI kd), .int (nI ((gD (a + 1)).toNat)), .int (nI ps), .int (nI hr), .int br, .int bp, .int (nI gd), .int (nI gp), .int (nI sl), .ref xc, .ref xf, .ref xn])), (xd, .inl (G.2.1, 1200, .inl (nb gD))), (xb, .inl (G.2.1, 40, .inl (nb gB))), (xk, .inl (G.2.1, 16, .inl (nb gK))), (xl, .inl (G.2.1, 8, .inl (nb gL))), (xt, .inl (G.2.1, 192, .inl (nb gT))), (xw, .inl (G.2.1, 64, .inl gW)), (xs, .inl (G.2.1, 16, .inl gS)), (xg, .inl (G.2.1, 32, .inl (nb gG))), (xy, .inl (G.2.1, 16, .inl (nb gY))), (xe, .inl (G.2.1, 8, .inl (nb gE))), (xc, .inl (G.2.1, 1200, .inl (nb gC))), (xf, .inl (G.2.1, 128, .inl (nn gF))), (xn, .inl (G.2.1, 128, .inl (nn gN)))] (fun (r9 : Int32) (u : (Nat → UInt8) × (Nat → Int32) × (Nat → Int32) × (Nat → UInt8)) => r9 = f_b (tgok gD a (tagW gY i gD a gE))) (fun (u : (Nat → UInt8) × (Nat → Int32) × (Nat → Int32) × (Nat → UInt8)) => [(mo, .inr (5, [.int (nI rf), .ref xd, .int (nI n), .int (nI y), .ref xb, .int (nI nb1), .int (nI up), .int (nI wi), .int cr, .ref xk, .ref xl, .ref xt, .int (nI 0), .ref xw, .ref xs, .ref xg, .ref xy, .ref xe, .int (nI kd), .int (nI ((gD (a + 1)).toNat)), .int (nI ps), .int (nI hr), .int br, .int bp, .int (nI gd), .int (nI gp), .int (nI sl), .ref xc, .ref xf, .ref xn])), (xd, .inl (G.2.1, 1200, .inl (nb gD))), (xb, .inl (G.2.1, 40, .inl (nb gB))), (xk, .inl (G.2.1, 16, .inl (nb gK))), (xl, .inl (G.2.1, 8, .inl (nb gL))), (xt, .inl (G.2.1, 192, .inl (nb u.1))), (xw, .inl (G.2.1, 64, .inl u.2.1)), (xs, .inl (G.2.1, 16, .inl u.2.2.1)), (xg, .inl (G.2.1, 32, .inl (nb u.2.2.2))), (xy, .inl (G.2.1, 16, .inl (nb gY))), (xe, .inl (G.2.1, 8, .inl (nb (tgB gD (a + (10 + (gD (a + 1)).toNat)))))), (xc, .inl (G.2.1, 1200, .inl (nb gC))), (xf, .inl (G.2.1, 128, .inl (nn gF))), (xn, .inl (G.2.1, 128, .inl (nn gN)))]) 0 0 := by
  refine fI_start (cc := cX5_bears) (maxL := 5) (by decide) rfl (Nat.le_of_ble_eq_true rfl) ?_
  intro prg env sv mid args below meth cd A Q ls hx hb hml hown hts hin hK hP hD hE hA hS hl hend
  replace hown : sv.vm.findClass RX5 = some mid.cls := hown
  replace hP : va_P G.1 vwCl [(mo, .inr (5, [.int (nI rf), .ref xd, .int (nI n), .int (nI y), .ref xb, .int (nI nb1), .int (nI up), .int (nI wi), .int cr, .ref xk, .ref xl, .ref xt, .int (nI 0), .ref xw, .ref xs, .ref xg, .ref xy, .ref xe, .int (nI kd), .int (nI ((gD (a + 1)).toNat)), .int (nI ps), .int (nI hr), .int br, .int bp, .int (nI gd), .int (nI gp), .int (nI sl), .ref xc, .ref xf, .ref xn])), (xd, .inl (G.2.1, 1200, .inl (nb gD))), (xb, .inl (G.2.1, 40, .inl (nb gB))), (xk, .inl (G.2.1, 16, .inl (nb gK))), (xl, .inl (G.2.1, 8, .inl (nb gL))), (xt, .inl (G.2.1, 192, .inl (nb gT))), (xw, .inl (G.2.1, 64, .inl gW)), (xs, .inl (G.2.1, 16, .inl gS)), (xg, .inl (G.2.1, 32, .inl (nb gG))), (xy, .inl (G.2.1, 16, .inl (nb gY))), (xe, .inl (G.2.1, 8, .inl (nb gE))), (xc, .inl (G.2.1, 1200, .inl (nb gC))), (xf, .inl (G.2.1, 128, .inl (nn gF))), (xn, .inl (G.2.1, 128, .inl (nn gN)))] sv.heap := hP
  replace hl : lv_has ls 5 [(0, .ref mo), (1, .int (nI a)), (2, .int (nI i))] := hl
  refine lv_aload_n hx hb dX5_bears_0 rfl (lv_at hl 0 rfl) ?_
  refine lv_iload_n hx hb dX5_bears_1 rfl (lv_at hl 2 rfl) ?_
  refine lv_iload_n hx hb dX5_bears_2 rfl (lv_at hl 1 rfl) ?_
  refine fcVV (As := [.int (nI i), .int (nI a)]) (rest := []) (wr := []) (ws1 := fun (u : (Nat → UInt8) × (Nat → Int32) × (Nat → Int32)) => [(mo, .inr (5, [.int (nI rf), .ref xd, .int (nI n), .int (nI y), .ref xb, .int (nI nb1), .int (nI up), .int (nI wi), .int cr, .ref xk, .ref xl, .ref xt, .int (nI 0), .ref xw, .ref xs, .ref xg, .ref xy, .ref xe, .int (nI kd), .int (nI ((gD (a + 1)).toNat)), .int (nI ps), .int (nI hr), .int br, .int bp, .int (nI gd), .int (nI gp), .int (nI sl), .ref xc, .ref xf, .ref xn])), (xd, .inl (G.2.1, 1200, .inl (nb gD))), (xb, .inl (G.2.1, 40, .inl (nb gB))), (xk, .inl (G.2.1, 16, .inl (nb gK))), (xl, .inl (G.2.1, 8, .inl (nb gL))), (xt, .inl (G.2.1, 192, .inl (nb u.1))), (xw, .inl (G.2.1, 64, .inl u.2.1)), (xs, .inl (G.2.1, 16, .inl u.2.2)), (xg, .inl (G.2.1, 32, .inl (nb (dgB (tagW gY i gD a gE))))), (xy, .inl (G.2.1, 16, .inl (nb gY))), (xe, .inl (G.2.1, 8, .inl (nb gE))), (xc, .inl (G.2.1, 1200, .inl (nb gC))), (xf, .inl (G.2.1, 128, .inl (nn gF))), (xn, .inl (G.2.1, 128, .inl (nn gN)))]) ⟨hx, hb, hml, hown, hts⟩ hK hE hP hD hS hA hl.1 (kX5_tag l G mo xd xb xk xl xt xw xs xg xy xe xc xf xn rf n y nb1 up wi cr kd ((gD (a + 1)).toNat) ps hr br bp gd gp sl gD gB gK gL gT gW gS gG gY gE gC gF gN i a hi (by omega) (by omega)) (cwV 2 hts (gdV wm_394 wm_395 wm_396 wm_267 wm_371) rfl rfl rfl (by decide +kernel) ⟨Nat.le_of_ble_eq_true rfl, Nat.le_of_ble_eq_true rfl⟩) 0 rfl rfl rfl rfl (Nat.le_of_ble_eq_true rfl) dX5_bears_3 ⟨Nat.le_of_ble_eq_true rfl, Nat.le_of_ble_eq_true rfl⟩ [0, 1, 2, 3, 4, 5, 6, 7, 8, 9, 10, 11, 12, 13] [] [0, 1, 2, 3, 4, 5, 6, 7, 8, 9, 10, 11, 12, 13] rfl rfl rfl rfl (by decide) rfl (fun _ => rfl) (fun u_3 H_3 locs_3 hw_3 hP_3 hD_3 hS_3 => ?_)
  obtain ⟨jT9_1, jW9_2, jS9_3⟩ := u_3
  replace hP : va_P G.1 vwCl [(mo, .inr (5, [.int (nI rf), .ref xd, .int (nI n), .int (nI y), .ref xb, .int (nI nb1), .int (nI up), .int (nI wi), .int cr, .ref xk, .ref xl, .ref xt, .int (nI 0), .ref xw, .ref xs, .ref xg, .ref xy, .ref xe, .int (nI kd), .int (nI ((gD (a + 1)).toNat)), .int (nI ps), .int (nI hr), .int br, .int bp, .int (nI gd), .int (nI gp), .int (nI sl), .ref xc, .ref xf, .ref xn])), (xd, .inl (G.2.1, 1200, .inl (nb gD))), (xb, .inl (G.2.1, 40, .inl (nb gB))), (xk, .inl (G.2.1, 16, .inl (nb gK))), (xl, .inl (G.2.1, 8, .inl (nb gL))), (xt, .inl (G.2.1, 192, .inl (nb jT9_1))), (xw, .inl (G.2.1, 64, .inl jW9_2)), (xs, .inl (G.2.1, 16, .inl jS9_3)), (xg, .inl (G.2.1, 32, .inl (nb (dgB (tagW gY i gD a gE))))), (xy, .inl (G.2.1, 16, .inl (nb gY))), (xe, .inl (G.2.1, 8, .inl (nb gE))), (xc, .inl (G.2.1, 1200, .inl (nb gC))), (xf, .inl (G.2.1, 128, .inl (nn gF))), (xn, .inl (G.2.1, 128, .inl (nn gN)))] H_3 := hP_3
  replace hD : va_D A [(mo, .inr (5, [.int (nI rf), .ref xd, .int (nI n), .int (nI y), .ref xb, .int (nI nb1), .int (nI up), .int (nI wi), .int cr, .ref xk, .ref xl, .ref xt, .int (nI 0), .ref xw, .ref xs, .ref xg, .ref xy, .ref xe, .int (nI kd), .int (nI ((gD (a + 1)).toNat)), .int (nI ps), .int (nI hr), .int br, .int bp, .int (nI gd), .int (nI gp), .int (nI sl), .ref xc, .ref xf, .ref xn])), (xd, .inl (G.2.1, 1200, .inl (nb gD))), (xb, .inl (G.2.1, 40, .inl (nb gB))), (xk, .inl (G.2.1, 16, .inl (nb gK))), (xl, .inl (G.2.1, 8, .inl (nb gL))), (xt, .inl (G.2.1, 192, .inl (nb jT9_1))), (xw, .inl (G.2.1, 64, .inl jW9_2)), (xs, .inl (G.2.1, 16, .inl jS9_3)), (xg, .inl (G.2.1, 32, .inl (nb (dgB (tagW gY i gD a gE))))), (xy, .inl (G.2.1, 16, .inl (nb gY))), (xe, .inl (G.2.1, 8, .inl (nb gE))), (xc, .inl (G.2.1, 1200, .inl (nb gC))), (xf, .inl (G.2.1, 128, .inl (nn gF))), (xn, .inl (G.2.1, 128, .inl (nn gN)))] := hD_3
  replace hS : va_S A sv.heap H_3 locs_3 := hS_3
  clear hP_3 hD_3 hS_3
  refine lv_iconst (v := nI 1) hx hb dX5_bears_6 (by decide) ?_
  refine lv_istore_n (lv' := [(3, .int (nI 1)), (0, .ref mo), (1, .int (nI a)), (2, .int (nI i))]) hx hb dX5_bears_7 rfl hl (by decide) rfl (fun ls hl2 => ?_)
  replace hl := hl2; clear hl2
  refine lv_iconst (v := nI 0) hx hb dX5_bears_8 (by decide) ?_
  refine lv_istore (lv' := [(4, .int (nI 0)), (3, .int (nI 1)), (0, .ref mo), (1, .int (nI a)), (2, .int (nI i))]) hx hb dX5_bears_9 hl (by decide) rfl (fun ls hl2 => ?_)
  replace hl := hl2; clear hl2
  have L_11 : ∀ (n9 : Nat) (k : Nat) (E1 : Nat → UInt8) (H : Heap) (locs : List Loc) (ls : Array Slot), (9 - k) < n9 → (k ≤ 8) → (∀ j, j < k → E1 j = tgB gD (a + (10 + (gD (a + 1)).toNat)) j) → va_P G.1 vwCl [(mo, .inr (5, [.int (nI rf), .ref xd, .int (nI n), .int (nI y), .ref xb, .int (nI nb1), .int (nI up), .int (nI wi), .int cr, .ref xk, .ref xl, .ref xt, .int (nI 0), .ref xw, .ref xs, .ref xg, .ref xy, .ref xe, .int (nI kd), .int (nI ((gD (a + 1)).toNat)), .int (nI ps), .int (nI hr), .int br, .int bp, .int (nI gd), .int (nI gp), .int (nI sl), .ref xc, .ref xf, .ref xn])), (xd, .inl (G.2.1, 1200, .inl (nb gD))), (xb, .inl (G.2.1, 40, .inl (nb gB))), (xk, .inl (G.2.1, 16, .inl (nb gK))), (xl, .inl (G.2.1, 8, .inl (nb gL))), (xt, .inl (G.2.1, 192, .inl (nb jT9_1))), (xw, .inl (G.2.1, 64, .inl jW9_2)), (xs, .inl (G.2.1, 16, .inl jS9_3)), (xg, .inl (G.2.1, 32, .inl (nb (dgB (tagW gY i gD a gE))))), (xy, .inl (G.2.1, 16, .inl (nb gY))), (xe, .inl (G.2.1, 8, .inl (nb E1))), (xc, .inl (G.2.1, 1200, .inl (nb gC))), (xf, .inl (G.2.1, 128, .inl (nn gF))), (xn, .inl (G.2.1, 128, .inl (nn gN)))] H → va_D A [(mo, .inr (5, [.int (nI rf), .ref xd, .int (nI n), .int (nI y), .ref xb, .int (nI nb1), .int (nI up), .int (nI wi), .int cr, .ref xk, .ref xl, .ref xt, .int (nI 0), .ref xw, .ref xs, .ref xg, .ref xy, .ref xe, .int (nI kd), .int (nI ((gD (a + 1)).toNat)), .int (nI ps), .int (nI hr), .int br, .int bp, .int (nI gd), .int (nI gp), .int (nI sl), .ref xc, .ref xf, .ref xn])), (xd, .inl (G.2.1, 1200, .inl (nb gD))), (xb, .inl (G.2.1, 40, .inl (nb gB))), (xk, .inl (G.2.1, 16, .inl (nb gK))), (xl, .inl (G.2.1, 8, .inl (nb gL))), (xt, .inl (G.2.1, 192, .inl (nb jT9_1))), (xw, .inl (G.2.1, 64, .inl jW9_2)), (xs, .inl (G.2.1, 16, .inl jS9_3)), (xg, .inl (G.2.1, 32, .inl (nb (dgB (tagW gY i gD a gE))))), (xy, .inl (G.2.1, 16, .inl (nb gY))), (xe, .inl (G.2.1, 8, .inl (nb E1))), (xc, .inl (G.2.1, 1200, .inl (nb gC))), (xf, .inl (G.2.1, 128, .inl (nn gF))), (xn, .inl (G.2.1, 128, .inl (nn gN)))] → va_S A sv.heap H locs → lv_has ls 5 [(0, .ref mo), (1, .int (nI a)), (3, .int (f_b (tgk gD a (tagW gY i gD a gE) k))), (4, .int (nI k))] → W prg l env ({ frames := 4, cells := 0, slots := 0, locals := 95 } : Room) sv mid args below meth cd H locs 0 0 Q (F0 mid 11 ls []) := by
    intro n9
    induction n9 with
    | zero => intro k E1 H locs ls hmu; exact absurd hmu (Nat.not_lt_zero _)
    | succ n9 ih_11 =>
      intro k E1 H locs ls hmu_11 hk hE1 hP hD hS hl
      refine lv_iload hx hb dX5_bears_11 (lv_at hl 3 rfl) ?_
      refine lv_bipush (v := nI 8) hx hb dX5_bears_13 (by decide) ?_
      refine f_icmp_ge (tgt := 74) (by omega) (by omega) hx hb dX5_bears_15 (by decide) (fun c_15 => ?_) (fun c_15 => ?_)
      · skip
        obtain rfl : k = 8 := by omega
        replace hP : va_P G.1 vwCl [(mo, .inr (5, [.int (nI rf), .ref xd, .int (nI n), .int (nI y), .ref xb, .int (nI nb1), .int (nI up), .int (nI wi), .int cr, .ref xk, .ref xl, .ref xt, .int (nI 0), .ref xw, .ref xs, .ref xg, .ref xy, .ref xe, .int (nI kd), .int (nI ((gD (a + 1)).toNat)), .int (nI ps), .int (nI hr), .int br, .int bp, .int (nI gd), .int (nI gp), .int (nI sl), .ref xc, .ref xf, .ref xn])), (xd, .inl (G.2.1, 1200, .inl (nb gD))), (xb, .inl (G.2.1, 40, .inl (nb gB))), (xk, .inl (G.2.1, 16, .inl (nb gK))), (xl, .inl (G.2.1, 8, .inl (nb gL))), (xt, .inl (G.2.1, 192, .inl (nb jT9_1))), (xw, .inl (G.2.1, 64, .inl jW9_2)), (xs, .inl (G.2.1, 16, .inl jS9_3)), (xg, .inl (G.2.1, 32, .inl (nb (dgB (tagW gY i gD a gE))))), (xy, .inl (G.2.1, 16, .inl (nb gY))), (xe, .inl (G.2.1, 8, .inl (nb (tgB gD (a + (10 + (gD (a + 1)).toNat)))))), (xc, .inl (G.2.1, 1200, .inl (nb gC))), (xf, .inl (G.2.1, 128, .inl (nn gF))), (xn, .inl (G.2.1, 128, .inl (nn gN)))] H := f_row hP 10 rfl (nb (tgB gD (a + (10 + (gD (a + 1)).toNat)))) (fun j hj => congrArg bI (hE1 j hj))
        replace hD : va_D A [(mo, .inr (5, [.int (nI rf), .ref xd, .int (nI n), .int (nI y), .ref xb, .int (nI nb1), .int (nI up), .int (nI wi), .int cr, .ref xk, .ref xl, .ref xt, .int (nI 0), .ref xw, .ref xs, .ref xg, .ref xy, .ref xe, .int (nI kd), .int (nI ((gD (a + 1)).toNat)), .int (nI ps), .int (nI hr), .int br, .int bp, .int (nI gd), .int (nI gp), .int (nI sl), .ref xc, .ref xf, .ref xn])), (xd, .inl (G.2.1, 1200, .inl (nb gD))), (xb, .inl (G.2.1, 40, .inl (nb gB))), (xk, .inl (G.2.1, 16, .inl (nb gK))), (xl, .inl (G.2.1, 8, .inl (nb gL))), (xt, .inl (G.2.1, 192, .inl (nb jT9_1))), (xw, .inl (G.2.1, 64, .inl jW9_2)), (xs, .inl (G.2.1, 16, .inl jS9_3)), (xg, .inl (G.2.1, 32, .inl (nb (dgB (tagW gY i gD a gE))))), (xy, .inl (G.2.1, 16, .inl (nb gY))), (xe, .inl (G.2.1, 8, .inl (nb (tgB gD (a + (10 + (gD (a + 1)).toNat)))))), (xc, .inl (G.2.1, 1200, .inl (nb gC))), (xf, .inl (G.2.1, 128, .inl (nn gF))), (xn, .inl (G.2.1, 128, .inl (nn gN)))] := f_rowD hD 10 rfl
        refine lv_iload_n hx hb dX5_bears_74 rfl (lv_at hl 2 rfl) ?_
        exact hend (f_b (tgk gD a (tagW gY i gD a gE) 8)) (jT9_1, jW9_2, jS9_3, dgB (tagW gY i gD a gE)) _ _ _ _ f_narz rfl hP hD hS dX5_bears_75
      · skip
        refine lv_aload_n hx hb dX5_bears_18 rfl (lv_at hl 0 rfl) ?_
        refine va_get (D := G.1) (ci := 5) (v := .ref xe) (C := RX5) (T := TX5) (N := 30) hx hb hts in_wsX50 hown hK hP 0 rfl rfl 17 (by decide) (hts _ wm_259) (fun _ h9 => h9) rfl dX5_bears_19 ?_
        refine lv_iload hx hb dX5_bears_22 (lv_at hl 3 rfl) ?_
        refine lv_aload_n hx hb dX5_bears_24 rfl (lv_at hl 0 rfl) ?_
        refine va_get (D := G.1) (ci := 5) (v := .ref xd) (C := RX5) (T := TX5) (N := 30) hx hb hts in_wsX50 hown hK hP 0 rfl rfl 1 (by decide) (hts _ wm_250) (fun _ h9 => h9) rfl dX5_bears_25 ?_
        refine lv_iload_n hx hb dX5_bears_28 rfl (lv_at hl 1 rfl) ?_
        refine lv_iconst (v := nI 2) hx hb dX5_bears_29 (by decide) ?_
        refine lv_iadd hx hb dX5_bears_30 ?_
        refine f_top (y := nI (a + 2)) (nI_add _ _) ?_
        refine lv_aload_n hx hb dX5_bears_31 rfl (lv_at hl 0 rfl) ?_
        refine va_get (D := G.1) (ci := 5) (v := .int (nI ((gD (a + 1)).toNat))) (C := RX5) (T := TX5) (N := 30) hx hb hts in_wsX50 hown hK hP 0 rfl rfl 19 (by decide) (hts _ wm_413) (fun _ h9 => h9) rfl dX5_bears_32 ?_
        refine lv_iadd hx hb dX5_bears_35 ?_
        refine f_top (y := nI (a + 2 + ((gD (a + 1)).toNat))) (nI_add _ _) ?_
        refine lv_iload hx hb dX5_bears_36 (lv_at hl 3 rfl) ?_
        refine lv_iadd hx hb dX5_bears_38 ?_
        refine f_top (y := nI (a + 2 + ((gD (a + 1)).toNat) + k)) (nI_add _ _) ?_
        refine f_iald (v := bI (gD (a + 2 + ((gD (a + 1)).toNat) + k))) hx hb hK hP 1 rfl (by omega) (by decide) rfl dX5_bears_39 ?_
        refine f_top (y := bI (tgB gD (a + (10 + (gD (a + 1)).toNat)) k)) (congrArg bI (show gD (a + 2 + (gD (a + 1)).toNat + k) = tgB gD (a + (10 + (gD (a + 1)).toNat)) k by unfold tgB; rw [if_neg (by omega)]; exact congrArg gD (by omega))) ?_
        refine f_iast hx hb hK hP hD hS 10 rfl (by omega) (by decide) dX5_bears_40 (fun H_40 locs_40 hP_40 hD_40 hS_40 => ?_)
        replace hP_40 : va_P G.1 vwCl [(mo, .inr (5, [.int (nI rf), .ref xd, .int (nI n), .int (nI y), .ref xb, .int (nI nb1), .int (nI up), .int (nI wi), .int cr, .ref xk, .ref xl, .ref xt, .int (nI 0), .ref xw, .ref xs, .ref xg, .ref xy, .ref xe, .int (nI kd), .int (nI ((gD (a + 1)).toNat)), .int (nI ps), .int (nI hr), .int br, .int bp, .int (nI gd), .int (nI gp), .int (nI sl), .ref xc, .ref xf, .ref xn])), (xd, .inl (G.2.1, 1200, .inl (nb gD))), (xb, .inl (G.2.1, 40, .inl (nb gB))), (xk, .inl (G.2.1, 16, .inl (nb gK))), (xl, .inl (G.2.1, 8, .inl (nb gL))), (xt, .inl (G.2.1, 192, .inl (nb jT9_1))), (xw, .inl (G.2.1, 64, .inl jW9_2)), (xs, .inl (G.2.1, 16, .inl jS9_3)), (xg, .inl (G.2.1, 32, .inl (nb (dgB (tagW gY i gD a gE))))), (xy, .inl (G.2.1, 16, .inl (nb gY))), (xe, .inl (G.2.1, 8, .inl (nb (upb E1 k (tgB gD (a + (10 + (gD (a + 1)).toNat)) k))))), (xc, .inl (G.2.1, 1200, .inl (nb gC))), (xf, .inl (G.2.1, 128, .inl (nn gF))), (xn, .inl (G.2.1, 128, .inl (nn gN)))] H_40 := by have h9 := hP_40; rw [upd_nb] at h9; exact h9
        replace hD_40 : va_D A [(mo, .inr (5, [.int (nI rf), .ref xd, .int (nI n), .int (nI y), .ref xb, .int (nI nb1), .int (nI up), .int (nI wi), .int cr, .ref xk, .ref xl, .ref xt, .int (nI 0), .ref xw, .ref xs, .ref xg, .ref xy, .ref xe, .int (nI kd), .int (nI ((gD (a + 1)).toNat)), .int (nI ps), .int (nI hr), .int br, .int bp, .int (nI gd), .int (nI gp), .int (nI sl), .ref xc, .ref xf, .ref xn])), (xd, .inl (G.2.1, 1200, .inl (nb gD))), (xb, .inl (G.2.1, 40, .inl (nb gB))), (xk, .inl (G.2.1, 16, .inl (nb gK))), (xl, .inl (G.2.1, 8, .inl (nb gL))), (xt, .inl (G.2.1, 192, .inl (nb jT9_1))), (xw, .inl (G.2.1, 64, .inl jW9_2)), (xs, .inl (G.2.1, 16, .inl jS9_3)), (xg, .inl (G.2.1, 32, .inl (nb (dgB (tagW gY i gD a gE))))), (xy, .inl (G.2.1, 16, .inl (nb gY))), (xe, .inl (G.2.1, 8, .inl (nb (upb E1 k (tgB gD (a + (10 + (gD (a + 1)).toNat)) k))))), (xc, .inl (G.2.1, 1200, .inl (nb gC))), (xf, .inl (G.2.1, 128, .inl (nn gF))), (xn, .inl (G.2.1, 128, .inl (nn gN)))] := hD.set (p := 10) rfl
        replace hP : va_P G.1 vwCl [(mo, .inr (5, [.int (nI rf), .ref xd, .int (nI n), .int (nI y), .ref xb, .int (nI nb1), .int (nI up), .int (nI wi), .int cr, .ref xk, .ref xl, .ref xt, .int (nI 0), .ref xw, .ref xs, .ref xg, .ref xy, .ref xe, .int (nI kd), .int (nI ((gD (a + 1)).toNat)), .int (nI ps), .int (nI hr), .int br, .int bp, .int (nI gd), .int (nI gp), .int (nI sl), .ref xc, .ref xf, .ref xn])), (xd, .inl (G.2.1, 1200, .inl (nb gD))), (xb, .inl (G.2.1, 40, .inl (nb gB))), (xk, .inl (G.2.1, 16, .inl (nb gK))), (xl, .inl (G.2.1, 8, .inl (nb gL))), (xt, .inl (G.2.1, 192, .inl (nb jT9_1))), (xw, .inl (G.2.1, 64, .inl jW9_2)), (xs, .inl (G.2.1, 16, .inl jS9_3)), (xg, .inl (G.2.1, 32, .inl (nb (dgB (tagW gY i gD a gE))))), (xy, .inl (G.2.1, 16, .inl (nb gY))), (xe, .inl (G.2.1, 8, .inl (nb (upb E1 k (tgB gD (a + (10 + (gD (a + 1)).toNat)) k))))), (xc, .inl (G.2.1, 1200, .inl (nb gC))), (xf, .inl (G.2.1, 128, .inl (nn gF))), (xn, .inl (G.2.1, 128, .inl (nn gN)))] H_40 := hP_40
        replace hD : va_D A [(mo, .inr (5, [.int (nI rf), .ref xd, .int (nI n), .int (nI y), .ref xb, .int (nI nb1), .int (nI up), .int (nI wi), .int cr, .ref xk, .ref xl, .ref xt, .int (nI 0), .ref xw, .ref xs, .ref xg, .ref xy, .ref xe, .int (nI kd), .int (nI ((gD (a + 1)).toNat)), .int (nI ps), .int (nI hr), .int br, .int bp, .int (nI gd), .int (nI gp), .int (nI sl), .ref xc, .ref xf, .ref xn])), (xd, .inl (G.2.1, 1200, .inl (nb gD))), (xb, .inl (G.2.1, 40, .inl (nb gB))), (xk, .inl (G.2.1, 16, .inl (nb gK))), (xl, .inl (G.2.1, 8, .inl (nb gL))), (xt, .inl (G.2.1, 192, .inl (nb jT9_1))), (xw, .inl (G.2.1, 64, .inl jW9_2)), (xs, .inl (G.2.1, 16, .inl jS9_3)), (xg, .inl (G.2.1, 32, .inl (nb (dgB (tagW gY i gD a gE))))), (xy, .inl (G.2.1, 16, .inl (nb gY))), (xe, .inl (G.2.1, 8, .inl (nb (upb E1 k (tgB gD (a + (10 + (gD (a + 1)).toNat)) k))))), (xc, .inl (G.2.1, 1200, .inl (nb gC))), (xf, .inl (G.2.1, 128, .inl (nn gF))), (xn, .inl (G.2.1, 128, .inl (nn gN)))] := hD_40
        replace hS : va_S A sv.heap H_40 locs_40 := hS_40
        clear hP_40 hD_40 hS_40
        refine lv_iload_n hx hb dX5_bears_41 rfl (lv_at hl 2 rfl) ?_
        refine f_if_eqB (tgt := 66) hx hb dX5_bears_42 (by decide) (fun c_42 => ?_) (fun c_42 => ?_)
        · skip
          refine lv_iconst (v := nI 0) hx hb dX5_bears_66 (by decide) ?_
          refine f_top (y := f_b (tgk gD a (tagW gY i gD a gE) (k + 1))) (by rw [tgk_n1 c_42]; rfl) ?_
          refine lv_istore_n (lv' := [(3, .int (f_b (tgk gD a (tagW gY i gD a gE) (k + 1)))), (0, .ref mo), (1, .int (nI a)), (4, .int (nI k))]) hx hb dX5_bears_67 rfl hl (by decide) rfl (fun ls hl2 => ?_)
          replace hl := hl2; clear hl2
          refine lv_iinc (v := nI (k + 1)) (lv' := [(4, .int (nI (k + 1))), (3, .int (f_b (tgk gD a (tagW gY i gD a gE) (k + 1)))), (0, .ref mo), (1, .int (nI a))]) hx hb dX5_bears_68 hl (k := 3) rfl (f_inc1 _) (by decide) rfl (fun ls hl2 => ?_)
          replace hl := hl2; clear hl2
          refine lv_goto (tgt := 11) hx hb dX5_bears_71 (by decide) ?_
          exact ih_11 (k + 1) (upb E1 k (tgB gD (a + (10 + (gD (a + 1)).toNat)) k)) _ _ _ (by omega) (by omega) (upb_ext hE1) hP hD hS (lv_sub hl [2, 3, 1, 0] rfl)
        · skip
          have z2 := bI_lt (tgB gD (a + (10 + (gD (a + 1)).toNat)) k)
          have z3 := bI_lt (dgB (tagW gY i gD a gE) k)
          refine lv_aload_n hx hb dX5_bears_45 rfl (lv_at hl 0 rfl) ?_
          refine va_get (D := G.1) (ci := 5) (v := .ref xe) (C := RX5) (T := TX5) (N := 30) hx hb hts in_wsX50 hown hK hP 0 rfl rfl 17 (by decide) (hts _ wm_259) (fun _ h9 => h9) rfl dX5_bears_46 ?_
          refine lv_iload hx hb dX5_bears_49 (lv_at hl 3 rfl) ?_
          refine f_iald (v := bI ((upb E1 k (tgB gD (a + (10 + (gD (a + 1)).toNat)) k)) k)) hx hb hK hP 10 rfl (by omega) (by decide) rfl dX5_bears_51 ?_
          refine f_top (y := bI (tgB gD (a + (10 + (gD (a + 1)).toNat)) k)) (congrArg bI upb_same) ?_
          refine lv_aload_n hx hb dX5_bears_52 rfl (lv_at hl 0 rfl) ?_
          refine va_get (D := G.1) (ci := 5) (v := .ref xg) (C := RX5) (T := TX5) (N := 30) hx hb hts in_wsX50 hown hK hP 0 rfl rfl 15 (by decide) (hts _ wm_257) (fun _ h9 => h9) rfl dX5_bears_53 ?_
          refine lv_iload hx hb dX5_bears_56 (lv_at hl 3 rfl) ?_
          refine f_iald (v := bI ((dgB (tagW gY i gD a gE)) k)) hx hb hK hP 8 rfl (by omega) (by decide) rfl dX5_bears_58 ?_
          refine f_icmp_ne (tgt := 66) (by omega) (by omega) hx hb dX5_bears_59 (by decide) (fun c_59 => ?_) (fun c_59 => ?_)
          · skip
            refine lv_iconst (v := nI 0) hx hb dX5_bears_66 (by decide) ?_
            have heb : gD (a + (2 + (gD (a + 1)).toNat) + k) = tgB gD (a + (10 + (gD (a + 1)).toNat)) k := by unfold tgB; rw [if_neg (by omega)]; exact congrArg gD (by omega)
            have hne : (gD (a + (2 + (gD (a + 1)).toNat) + k)).toNat ≠ (dgB (tagW gY i gD a gE) k).toNat := by rw [heb]; exact c_59
            refine f_top (y := f_b (tgk gD a (tagW gY i gD a gE) (k + 1))) (by rw [tgk_n2 hne]; rfl) ?_
            refine lv_istore_n (lv' := [(3, .int (f_b (tgk gD a (tagW gY i gD a gE) (k + 1)))), (0, .ref mo), (1, .int (nI a)), (4, .int (nI k))]) hx hb dX5_bears_67 rfl hl (by decide) rfl (fun ls hl2 => ?_)
            replace hl := hl2; clear hl2
            refine lv_iinc (v := nI (k + 1)) (lv' := [(4, .int (nI (k + 1))), (3, .int (f_b (tgk gD a (tagW gY i gD a gE) (k + 1)))), (0, .ref mo), (1, .int (nI a))]) hx hb dX5_bears_68 hl (k := 3) rfl (f_inc1 _) (by decide) rfl (fun ls hl2 => ?_)
            replace hl := hl2; clear hl2
            refine lv_goto (tgt := 11) hx hb dX5_bears_71 (by decide) ?_
            exact ih_11 (k + 1) (upb E1 k (tgB gD (a + (10 + (gD (a + 1)).toNat)) k)) _ _ _ (by omega) (by omega) (upb_ext hE1) hP hD hS (lv_sub hl [2, 3, 1, 0] rfl)
          · skip
            refine lv_iconst (v := nI 1) hx hb dX5_bears_62 (by decide) ?_
            refine lv_goto (tgt := 67) hx hb dX5_bears_63 (by decide) ?_
            have heb : gD (a + (2 + (gD (a + 1)).toNat) + k) = tgB gD (a + (10 + (gD (a + 1)).toNat)) k := by unfold tgB; rw [if_neg (by omega)]; exact congrArg gD (by omega)
            have heq : (gD (a + (2 + (gD (a + 1)).toNat) + k)).toNat = (dgB (tagW gY i gD a gE) k).toNat := by rw [heb]; exact c_59
            refine f_top (y := f_b (tgk gD a (tagW gY i gD a gE) (k + 1))) (by rw [tgk_y c_42 heq]; rfl) ?_
            refine lv_istore_n (lv' := [(3, .int (f_b (tgk gD a (tagW gY i gD a gE) (k + 1)))), (0, .ref mo), (1, .int (nI a)), (4, .int (nI k))]) hx hb dX5_bears_67 rfl hl (by decide) rfl (fun ls hl2 => ?_)
            replace hl := hl2; clear hl2
            refine lv_iinc (v := nI (k + 1)) (lv' := [(4, .int (nI (k + 1))), (3, .int (f_b (tgk gD a (tagW gY i gD a gE) (k + 1)))), (0, .ref mo), (1, .int (nI a))]) hx hb dX5_bears_68 hl (k := 3) rfl (f_inc1 _) (by decide) rfl (fun ls hl2 => ?_)
            replace hl := hl2; clear hl2
            refine lv_goto (tgt := 11) hx hb dX5_bears_71 (by decide) ?_
            exact ih_11 (k + 1) (upb E1 k (tgB gD (a + (10 + (gD (a + 1)).toNat)) k)) _ _ _ (by omega) (by omega) (upb_ext hE1) hP hD hS (lv_sub hl [2, 3, 1, 0] rfl)
  exact L_11 ((9 - 0) + 1) 0 gE _ _ _ (Nat.lt_succ_self _) (by omega) ext_0 hP hD hS (lv_sub hl [2, 3, 1, 0] rfl)
