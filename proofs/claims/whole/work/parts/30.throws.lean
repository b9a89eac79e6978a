set_option maxRecDepth 100000 in
set_option maxHeartbeats 4000000 in
theorem kX4_feed_x1 (l : Launch) (G : fG) (x : Nat) (wc : Nat) (wko : Nat) (lt : Nat) (bu : Nat) (gb : Nat) (ve : Nat) (h : Nat) (d : Nat) (nb1 : Nat) (up : Nat) (cr : Int32) (z : Int32) (a : Int32) (b : Int32) (c0 : Int32) (d0 : Int32) (hfl : l.stackTraces = false) (hz : z < 0 ∨ nI 16 < z) : fMX l yX4_feed (.code yX4_feed cX4_feed 7 (some .int) :: wsA) ({ frames := 6, cells := 1, slots := 6, locals := 90 } : Room) G [.ref x, .int z, .int a, .int b, .int c0, .int d0] [(x, .inr (4, [.ref h, .ref d, .ref wc, .ref lt, .ref bu, .ref gb, .ref ve, .int (nI nb1), .int (nI up), .int cr]))] eIA := by
  refine fX_start (cc := cX4_feed) (maxL := 7) hfl (by decide) rfl (Nat.le_of_ble_eq_true rfl) rfl (by decide +kernel) (Nat.le_of_ble_eq_true rfl) (Nat.le_of_ble_eq_true rfl) (Nat.le_of_ble_eq_true rfl) (Nat.le_of_ble_eq_true rfl) ?_
  intro prg env sv mid args below meth cd A Q ls hx hb hml hown hts hin hK hP hD hE hA hS hl hend
  replace hown : sv.vm.findClass RX4 = some mid.cls := hown
  replace hP : va_P G.1 vwCl [(x, .inr (4, [.ref h, .ref d, .ref wc, .ref lt, .ref bu, .ref gb, .ref ve, .int (nI nb1), .int (nI up), .int cr]))] sv.heap := hP
  replace hl : lv_has ls 7 [(0, .ref x), (1, .int z), (2, .int a), (3, .int b), (4, .int c0), (5, .int d0)] := hl
  refine lv_iload_n hx hb dX4_feed_0 rfl (lv_at hl 1 rfl) ?_
  refine lv_if_lt (tgt := 10) hx hb dX4_feed_1 (by decide) (fun c_1 => ?_) (fun c_1 => ?_)
  · skip
    exact hend 10 73 75 77 _ _ _ ls wm_186 wm_187 (hat_IA hts hE.2.2.2.2.2.2.2.2.2.2.2) hg_IA (List.mem_of_getElem? (i := 0) rfl) hl.1 dX4_feed_10 dX4_feed_13 dX4_feed_14 dX4_feed_16 dX4_feed_19 hP hD hS
  · skip
    refine lv_iload_n hx hb dX4_feed_4 rfl (lv_at hl 1 rfl) ?_
    refine lv_bipush (v := nI 16) hx hb dX4_feed_5 (by decide) ?_
    refine lv_icmp_le (tgt := 20) hx hb dX4_feed_7 (by decide) (fun c_7 => ?_) (fun c_7 => ?_)
    · skip
      exfalso; rcases hz with h | h; exact c_1 h; exact absurd (Int32.lt_of_lt_of_le h c_7) Int32.lt_irrefl
    · skip
      exact hend 10 73 75 77 _ _ _ ls wm_186 wm_187 (hat_IA hts hE.2.2.2.2.2.2.2.2.2.2.2) hg_IA (List.mem_of_getElem? (i := 0) rfl) hl.1 dX4_feed_10 dX4_feed_13 dX4_feed_14 dX4_feed_16 dX4_feed_19 hP hD hS

set_option maxRecDepth 100000 in
set_option maxHeartbeats 4000000 in
theorem kX4_feed_x2 (l : Launch) (G : fG) (x : Nat) (wc : Nat) (wko : Nat) (lt : Nat) (bu : Nat) (gb : Nat) (ve : Nat) (h : Nat) (d : Nat) (nb1 : Nat) (up : Nat) (cr : Int32) (many : Nat) (a : Int32) (b : Int32) (c0 : Int32) (d0 : Int32) (hfl : l.stackTraces = false) (hm : many ≤ 16) (hb4 : 40 < nb1 + many) (hb5 : nb1 ≤ 40) : fMX l yX4_feed (.code yX4_feed cX4_feed 7 (some .int) :: wsA) ({ frames := 6, cells := 1, slots := 6, locals := 90 } : Room) G [.ref x, .int (nI many), .int a, .int b, .int c0, .int d0] [(x, .inr (4, [.ref h, .ref d, .ref wc, .ref lt, .ref bu, .ref gb, .ref ve, .int (nI nb1), .int (nI up), .int cr]))] eIS := by
  refine fX_start (cc := cX4_feed) (maxL := 7) hfl (by decide) rfl (Nat.le_of_ble_eq_true rfl) rfl (by decide +kernel) (Nat.le_of_ble_eq_true rfl) (Nat.le_of_ble_eq_true rfl) (Nat.le_of_ble_eq_true rfl) (Nat.le_of_ble_eq_true rfl) ?_
  intro prg env sv mid args below meth cd A Q ls hx hb hml hown hts hin hK hP hD hE hA hS hl hend
  replace hown : sv.vm.findClass RX4 = some mid.cls := hown
  replace hP : va_P G.1 vwCl [(x, .inr (4, [.ref h, .ref d, .ref wc, .ref lt, .ref bu, .ref gb, .ref ve, .int (nI nb1), .int (nI up), .int cr]))] sv.heap := hP
  replace hl : lv_has ls 7 [(0, .ref x), (1, .int (nI many)), (2, .int a), (3, .int b), (4, .int c0), (5, .int d0)] := hl
  refine lv_iload_n hx hb dX4_feed_0 rfl (lv_at hl 1 rfl) ?_
  refine f_if_lt (tgt := 10) (by omega) hx hb dX4_feed_1 (by decide) ?_
  refine lv_iload_n hx hb dX4_feed_4 rfl (lv_at hl 1 rfl) ?_
  refine lv_bipush (v := nI 16) hx hb dX4_feed_5 (by decide) ?_
  refine f_icmp_le (tgt := 20) (by omega) (by omega) hx hb dX4_feed_7 (by decide) (fun c_7 => ?_) (fun c_7 => ?_)
  · skip
    refine lv_aload_n hx hb dX4_feed_20 rfl (lv_at hl 0 rfl) ?_
    refine va_get (D := G.1) (ci := 4) (v := .int (nI nb1)) (C := RX4) (T := TX4) (N := 10) hx hb hts in_wsX40 hown hK hP 0 rfl rfl 7 (by decide) (hts _ wm_171) (fun _ h9 => h9) rfl dX4_feed_21 ?_
    refine lv_iload_n hx hb dX4_feed_24 rfl (lv_at hl 1 rfl) ?_
    refine lv_iadd hx hb dX4_feed_25 ?_
    refine f_top (y := nI (nb1 + many)) (nI_add _ _) ?_
    refine lv_bipush (v := nI 40) hx hb dX4_feed_26 (by decide) ?_
    refine f_icmp_le (tgt := 41) (by omega) (by omega) hx hb dX4_feed_28 (by decide) (fun c_28 => ?_) (fun c_28 => ?_)
    · skip
      exfalso; omega
    · skip
      exact hend 31 80 82 84 _ _ _ ls wm_188 wm_189 (hat_IS hts hE.2.2.2.2.2.2.2.2.2.2.2) hg_IS (List.mem_of_getElem? (i := 1) rfl) hl.1 dX4_feed_31 dX4_feed_34 dX4_feed_35 dX4_feed_37 dX4_feed_40 hP hD hS
  · skip
    exfalso; omega

set_option maxRecDepth 100000 in
set_option maxHeartbeats 4000000 in
theorem kX4_append_x (l : Launch) (G : fG) (x : Nat) (wc : Nat) (wko : Nat) (lt : Nat) (bu : Nat) (gb : Nat) (ve : Nat) (h : Nat) (d : Nat) (nb1 : Nat) (cr : Int32) (hfl : l.stackTraces = false)  : fMX l yX4_append (.code yX4_append cX4_append 1 (some .int) :: wsA) ({ frames := 6, cells := 1, slots := 6, locals := 129 } : Room) G [.ref x] [(x, .inr (4, [.ref h, .ref d, .ref wc, .ref lt, .ref bu, .ref gb, .ref ve, .int (nI nb1), .int (nI 0), .int cr]))] eIS := by
  refine fX_start (cc := cX4_append) (maxL := 1) hfl (by decide) rfl (Nat.le_of_ble_eq_true rfl) rfl (by decide +kernel) (Nat.le_of_ble_eq_true rfl) (Nat.le_of_ble_eq_true rfl) (Nat.le_of_ble_eq_true rfl) (Nat.le_of_ble_eq_true rfl) ?_
  intro prg env sv mid args below meth cd A Q ls hx hb hml hown hts hin hK hP hD hE hA hS hl hend
  replace hown : sv.vm.findClass RX4 = some mid.cls := hown
  replace hP : va_P G.1 vwCl [(x, .inr (4, [.ref h, .ref d, .ref wc, .ref lt, .ref bu, .ref gb, .ref ve, .int (nI nb1), .int (nI 0), .int cr]))] sv.heap := hP
  replace hl : lv_has ls 1 [(0, .ref x)] := hl
  refine lv_aload_n hx hb dX4_append_0 rfl (lv_at hl 0 rfl) ?_
  refine va_get (D := G.1) (ci := 4) (v := .int (nI 0)) (C := RX4) (T := TX4) (N := 10) hx hb hts in_wsX40 hown hK hP 0 rfl rfl 8 (by decide) (hts _ wm_172) (fun _ h9 => h9) rfl dX4_append_1 ?_
  refine lv_if_ne (tgt := 17) hx hb dX4_append_4 (by decide) (fun c9 => absurd (by decide) c9) (fun _ => ?_)
  exact hend 7 80 89 84 _ _ _ ls wm_188 wm_189 (hat_IS hts hE.2.2.2.2.2.2.2.2.2.2.2) hg_IS (List.mem_of_getElem? (i := 2) rfl) hl.1 dX4_append_7 dX4_append_10 dX4_append_11 dX4_append_13 dX4_append_16 hP hD hS

set_option maxRecDepth 100000 in
set_option maxHeartbeats 4000000 in
theorem kX4_seal_x (l : Launch) (G : fG) (x : Nat) (wc : Nat) (wko : Nat) (lt : Nat) (bu : Nat) (gb : Nat) (ve : Nat) (h : Nat) (d : Nat) (nb1 : Nat) (cr : Int32) (hfl : l.stackTraces = false)  : fMX l yX4_seal (.code yX4_seal cX4_seal 1 (some .int) :: wsA) ({ frames := 6, cells := 1, slots := 6, locals := 129 } : Room) G [.ref x] [(x, .inr (4, [.ref h, .ref d, .ref wc, .ref lt, .ref bu, .ref gb, .ref ve, .int (nI nb1), .int (nI 0), .int cr]))] eIS := by
  refine fX_start (cc := cX4_seal) (maxL := 1) hfl (by decide) rfl (Nat.le_of_ble_eq_true rfl) rfl (by decide +kernel) (Nat.le_of_ble_eq_true rfl) (Nat.le_of_ble_eq_true rfl) (Nat.le_of_ble_eq_true rfl) (Nat.le_of_ble_eq_true rfl) ?_
  intro prg env sv mid args below meth cd A Q ls hx hb hml hown hts hin hK hP hD hE hA hS hl hend
  replace hown : sv.vm.findClass RX4 = some mid.cls := hown
  replace hP : va_P G.1 vwCl [(x, .inr (4, [.ref h, .ref d, .ref wc, .ref lt, .ref bu, .ref gb, .ref ve, .int (nI nb1), .int (nI 0), .int cr]))] sv.heap := hP
  replace hl : lv_has ls 1 [(0, .ref x)] := hl
  refine lv_aload_n hx hb dX4_seal_0 rfl (lv_at hl 0 rfl) ?_
  refine va_get (D := G.1) (ci := 4) (v := .int (nI 0)) (C := RX4) (T := TX4) (N := 10) hx hb hts in_wsX40 hown hK hP 0 rfl rfl 8 (by decide) (hts _ wm_172) (fun _ h9 => h9) rfl dX4_seal_1 ?_
  refine lv_if_ne (tgt := 17) hx hb dX4_seal_4 (by decide) (fun c9 => absurd (by decide) c9) (fun _ => ?_)
  exact hend 7 80 89 84 _ _ _ ls wm_188 wm_189 (hat_IS hts hE.2.2.2.2.2.2.2.2.2.2.2) hg_IS (List.mem_of_getElem? (i := 2) rfl) hl.1 dX4_seal_7 dX4_seal_10 dX4_seal_11 dX4_seal_13 dX4_seal_16 hP hD hS

set_option maxRecDepth 100000 in
set_option maxHeartbeats 4000000 in
theorem kX4_sync_x (l : Launch) (G : fG) (x : Nat) (wc : Nat) (wko : Nat) (lt : Nat) (bu : Nat) (gb : Nat) (ve : Nat) (h : Nat) (d : Nat) (nb1 : Nat) (cr : Int32) (hfl : l.stackTraces = false)  : fMX l yX4_sync (.code yX4_sync cX4_sync 1 (some .int) :: wsA) ({ frames := 6, cells := 1, slots := 6, locals := 90 } : Room) G [.ref x] [(x, .inr (4, [.ref h, .ref d, .ref wc, .ref lt, .ref bu, .ref gb, .ref ve, .int (nI nb1), .int (nI 0), .int cr]))] eIS := by
  refine fX_start (cc := cX4_sync) (maxL := 1) hfl (by decide) rfl (Nat.le_of_ble_eq_true rfl) rfl (by decide +kernel) (Nat.le_of_ble_eq_true rfl) (Nat.le_of_ble_eq_true rfl) (Nat.le_of_ble_eq_true rfl) (Nat.le_of_ble_eq_true rfl) ?_
  intro prg env sv mid args below meth cd A Q ls hx hb hml hown hts hin hK hP hD hE hA hS hl hend
  replace hown : sv.vm.findClass RX4 = some mid.cls := hown
  replace hP : va_P G.1 vwCl [(x, .inr (4, [.ref h, .ref d, .ref wc, .ref lt, .ref bu, .ref gb, .ref ve, .int (nI nb1), .int (nI 0), .int cr]))] sv.heap := hP
  replace hl : lv_has ls 1 [(0, .ref x)] := hl
  refine lv_aload_n hx hb dX4_sync_0 rfl (lv_at hl 0 rfl) ?_
  refine va_get (D := G.1) (ci := 4) (v := .int (nI 0)) (C := RX4) (T := TX4) (N := 10) hx hb hts in_wsX40 hown hK hP 0 rfl rfl 8 (by decide) (hts _ wm_172) (fun _ h9 => h9) rfl dX4_sync_1 ?_
  refine lv_if_ne (tgt := 17) hx hb dX4_sync_4 (by decide) (fun c9 => absurd (by decide) c9) (fun _ => ?_)
  exact hend 7 80 89 84 _ _ _ ls wm_188 wm_189 (hat_IS hts hE.2.2.2.2.2.2.2.2.2.2.2) hg_IS (List.mem_of_getElem? (i := 2) rfl) hl.1 dX4_sync_7 dX4_sync_10 dX4_sync_11 dX4_sync_13 dX4_sync_16 hP hD hS

set_option maxRecDepth 100000 in
set_option maxHeartbeats 4000000 in
theorem kX4_recover_x (l : Launch) (G : fG) (x : Nat) (wc : Nat) (wko : Nat) (lt : Nat) (bu : Nat) (gb : Nat) (ve : Nat) (h : Nat) (d : Nat) (nb1 : Nat) (cr : Int32) (hfl : l.stackTraces = false)  : fMX l yX4_recover (.code yX4_recover cX4_recover 3 (some .int) :: wsA) ({ frames := 6, cells := 1, slots := 6, locals := 129 } : Room) G [.ref x] [(x, .inr (4, [.ref h, .ref d, .ref wc, .ref lt, .ref bu, .ref gb, .ref ve, .int (nI nb1), .int (nI 1), .int cr]))] eIS := by
  refine fX_start (cc := cX4_recover) (maxL := 3) hfl (by decide) rfl (Nat.le_of_ble_eq_true rfl) rfl (by decide +kernel) (Nat.le_of_ble_eq_true rfl) (Nat.le_of_ble_eq_true rfl) (Nat.le_of_ble_eq_true rfl) (Nat.le_of_ble_eq_true rfl) ?_
  intro prg env sv mid args below meth cd A Q ls hx hb hml hown hts hin hK hP hD hE hA hS hl hend
  replace hown : sv.vm.findClass RX4 = some mid.cls := hown
  replace hP : va_P G.1 vwCl [(x, .inr (4, [.ref h, .ref d, .ref wc, .ref lt, .ref bu, .ref gb, .ref ve, .int (nI nb1), .int (nI 1), .int cr]))] sv.heap := hP
  replace hl : lv_has ls 3 [(0, .ref x)] := hl
  refine lv_aload_n hx hb dX4_recover_0 rfl (lv_at hl 0 rfl) ?_
  refine va_get (D := G.1) (ci := 4) (v := .int (nI 1)) (C := RX4) (T := TX4) (N := 10) hx hb hts in_wsX40 hown hK hP 0 rfl rfl 8 (by decide) (hts _ wm_172) (fun _ h9 => h9) rfl dX4_recover_1 ?_
  refine lv_if_eq (tgt := 17) hx hb dX4_recover_4 (by decide) (fun c9 => absurd c9 (by decide)) (fun _ => ?_)
  exact hend 7 80 109 84 _ _ _ ls wm_188 wm_189 (hat_IS hts hE.2.2.2.2.2.2.2.2.2.2.2) hg_IS (List.mem_of_getElem? (i := 4) rfl) hl.1 dX4_recover_7 dX4_recover_10 dX4_recover_11 dX4_recover_13 dX4_recover_16 hP hD hS

set_option maxRecDepth 100000 in
set_option maxHeartbeats 4000000 in
theorem kX4_crash_x (l : Launch) (G : fG) (x : Nat) (wc : Nat) (wko : Nat) (lt : Nat) (bu : Nat) (gb : Nat) (ve : Nat) (h : Nat) (d : Nat) (nb1 : Nat) (up : Nat) (cr : Int32) (z : Int32) (hfl : l.stackTraces = false) (hz : z < 0) : fMX l yX4_crash (.code yX4_crash cX4_crash 4 (some .int) :: wsA) ({ frames := 6, cells := 1, slots := 6, locals := 90 } : Room) G [.ref x, .int z] [(x, .inr (4, [.ref h, .ref d, .ref wc, .ref lt, .ref bu, .ref gb, .ref ve, .int (nI nb1), .int (nI up), .int cr]))] eIA := by
  refine fX_start (cc := cX4_crash) (maxL := 4) hfl (by decide) rfl (Nat.le_of_ble_eq_true rfl) rfl (by decide +kernel) (Nat.le_of_ble_eq_true rfl) (Nat.le_of_ble_eq_true rfl) (Nat.le_of_ble_eq_true rfl) (Nat.le_of_ble_eq_true rfl) ?_
  intro prg env sv mid args below meth cd A Q ls hx hb hml hown hts hin hK hP hD hE hA hS hl hend
  replace hown : sv.vm.findClass RX4 = some mid.cls := hown
  replace hP : va_P G.1 vwCl [(x, .inr (4, [.ref h, .ref d, .ref wc, .ref lt, .ref bu, .ref gb, .ref ve, .int (nI nb1), .int (nI up), .int cr]))] sv.heap := hP
  replace hl : lv_has ls 4 [(0, .ref x), (1, .int z)] := hl
  refine lv_iload_n hx hb dX4_crash_0 rfl (lv_at hl 1 rfl) ?_
  refine lv_if_ge (tgt := 14) hx hb dX4_crash_1 (by decide) (fun c_1 => ?_) (fun c_1 => ?_)
  · skip
    exfalso; exact absurd (Int32.lt_of_lt_of_le hz c_1) Int32.lt_irrefl
  · skip
    exact hend 4 73 101 77 _ _ _ ls wm_186 wm_187 (hat_IA hts hE.2.2.2.2.2.2.2.2.2.2.2) hg_IA (List.mem_of_getElem? (i := 3) rfl) hl.1 dX4_crash_4 dX4_crash_7 dX4_crash_8 dX4_crash_10 dX4_crash_13 hP hD hS

set_option maxRecDepth 100000 in
set_option maxHeartbeats 4000000 in
theorem kX4_told_x (l : Launch) (G : fG) (x : Nat) (wc : Nat) (wko : Nat) (lt : Nat) (bu : Nat) (gb : Nat) (ve : Nat) (h : Nat) (d : Nat) (nb1 : Nat) (up : Nat) (cr : Int32) (z : Int32) (hfl : l.stackTraces = false) (hz : z < 0 ∨ nI 4 < z) : fMX l yX4_told (.code yX4_told cX4_told 2 (some .int) :: wsA) ({ frames := 6, cells := 1, slots := 6, locals := 90 } : Room) G [.ref x, .int z] [(x, .inr (4, [.ref h, .ref d, .ref wc, .ref lt, .ref bu, .ref gb, .ref ve, .int (nI nb1), .int (nI up), .int cr]))] eIA := by
  refine fX_start (cc := cX4_told) (maxL := 2) hfl (by decide) rfl (Nat.le_of_ble_eq_true rfl) rfl (by decide +kernel) (Nat.le_of_ble_eq_true rfl) (Nat.le_of_ble_eq_true rfl) (Nat.le_of_ble_eq_true rfl) (Nat.le_of_ble_eq_true rfl) ?_
  intro prg env sv mid args below meth cd A Q ls hx hb hml hown hts hin hK hP hD hE hA hS hl hend
  replace hown : sv.vm.findClass RX4 = some mid.cls := hown
  replace hP : va_P G.1 vwCl [(x, .inr (4, [.ref h, .ref d, .ref wc, .ref lt, .ref bu, .ref gb, .ref ve, .int (nI nb1), .int (nI up), .int cr]))] sv.heap := hP
  replace hl : lv_has ls 2 [(0, .ref x), (1, .int z)] := hl
  refine lv_iload_n hx hb dX4_told_0 rfl (lv_at hl 1 rfl) ?_
  refine lv_if_lt (tgt := 9) hx hb dX4_told_1 (by decide) (fun c_1 => ?_) (fun c_1 => ?_)
  · skip
    exact hend 9 73 132 77 _ _ _ ls wm_186 wm_187 (hat_IA hts hE.2.2.2.2.2.2.2.2.2.2.2) hg_IA (List.mem_of_getElem? (i := 5) rfl) hl.1 dX4_told_9 dX4_told_12 dX4_told_13 dX4_told_15 dX4_told_18 hP hD hS
  · skip
    refine lv_iload_n hx hb dX4_told_4 rfl (lv_at hl 1 rfl) ?_
    refine lv_iconst (v := nI 4) hx hb dX4_told_5 (by decide) ?_
    refine lv_icmp_le (tgt := 19) hx hb dX4_told_6 (by decide) (fun c_6 => ?_) (fun c_6 => ?_)
    · skip
      exfalso; rcases hz with h | h; exact c_1 h; exact absurd (Int32.lt_of_lt_of_le h c_6) Int32.lt_irrefl
    · skip
      exact hend 9 73 132 77 _ _ _ ls wm_186 wm_187 (hat_IA hts hE.2.2.2.2.2.2.2.2.2.2.2) hg_IA (List.mem_of_getElem? (i := 5) rfl) hl.1 dX4_told_9 dX4_told_12 dX4_told_13 dX4_told_15 dX4_told_18 hP hD hS

set_option maxRecDepth 100000 in
set_option maxHeartbeats 4000000 in
theorem kX4_record_x (l : Launch) (G : fG) (x : Nat) (wc : Nat) (wko : Nat) (lt : Nat) (bu : Nat) (gb : Nat) (ve : Nat) (h : Nat) (d : Nat) (nb1 : Nat) (up : Nat) (cr : Int32) (r : Int32) (z : Int32) (hfl : l.stackTraces = false) (hz : z < 0 ∨ nI 42 < z) : fMX l yX4_record (.code yX4_record cX4_record 3 (some .int) :: wsA) ({ frames := 6, cells := 1, slots := 6, locals := 90 } : Room) G [.ref x, .int r, .int z] [(x, .inr (4, [.ref h, .ref d, .ref wc, .ref lt, .ref bu, .ref gb, .ref ve, .int (nI nb1), .int (nI up), .int cr]))] eIA := by
  refine fX_start (cc := cX4_record) (maxL := 3) hfl (by decide) rfl (Nat.le_of_ble_eq_true rfl) rfl (by decide +kernel) (Nat.le_of_ble_eq_true rfl) (Nat.le_of_ble_eq_true rfl) (Nat.le_of_ble_eq_true rfl) (Nat.le_of_ble_eq_true rfl) ?_
  intro prg env sv mid args below meth cd A Q ls hx hb hml hown hts hin hK hP hD hE hA hS hl hend
  replace hown : sv.vm.findClass RX4 = some mid.cls := hown
  replace hP : va_P G.1 vwCl [(x, .inr (4, [.ref h, .ref d, .ref wc, .ref lt, .ref bu, .ref gb, .ref ve, .int (nI nb1), .int (nI up), .int cr]))] sv.heap := hP
  replace hl : lv_has ls 3 [(0, .ref x), (1, .int r), (2, .int z)] := hl
  refine lv_iload_n hx hb dX4_record_0 rfl (lv_at hl 2 rfl) ?_
  refine lv_if_lt (tgt := 10) hx hb dX4_record_1 (by decide) (fun c_1 => ?_) (fun c_1 => ?_)
  · skip
    exact hend 10 73 137 77 _ _ _ ls wm_186 wm_187 (hat_IA hts hE.2.2.2.2.2.2.2.2.2.2.2) hg_IA (List.mem_of_getElem? (i := 6) rfl) hl.1 dX4_record_10 dX4_record_13 dX4_record_14 dX4_record_16 dX4_record_19 hP hD hS
  · skip
    refine lv_iload_n hx hb dX4_record_4 rfl (lv_at hl 2 rfl) ?_
    refine lv_bipush (v := nI 42) hx hb dX4_record_5 (by decide) ?_
    refine lv_icmp_le (tgt := 20) hx hb dX4_record_7 (by decide) (fun c_7 => ?_) (fun c_7 => ?_)
    · skip
      exfalso; rcases hz with h | h; exact c_1 h; exact absurd (Int32.lt_of_lt_of_le h c_7) Int32.lt_irrefl
    · skip
      exact hend 10 73 137 77 _ _ _ ls wm_186 wm_187 (hat_IA hts hE.2.2.2.2.2.2.2.2.2.2.2) hg_IA (List.mem_of_getElem? (i := 6) rfl) hl.1 dX4_record_10 dX4_record_13 dX4_record_14 dX4_record_16 dX4_record_19 hP hD hS

set_option maxRecDepth 100000 in
set_option maxHeartbeats 4000000 in
theorem kX4_bend_x1 (l : Launch) (G : fG) (x : Nat) (wc : Nat) (wko : Nat) (lt : Nat) (bu : Nat) (gb : Nat) (ve : Nat) (h : Nat) (nb1 : Nat) (up : Nat) (cr : Int32) (d : Nat) (o : Nat) (g : Nat → UInt8) (n : Nat) (y : Nat) (z : Int32) (w : Int32) (hfl : l.stackTraces = false) (hn : n ≤ 1200) (hz : hasB n z = false) : fMX l yX4_bend (.code yX4_bend cX4_bend 3 (some .int) :: wsA) ({ frames := 6, cells := 1, slots := 6, locals := 90 } : Room) G [.ref x, .int z, .int w] [(x, .inr (4, [.ref h, .ref d, .ref wc, .ref lt, .ref bu, .ref gb, .ref ve, .int (nI nb1), .int (nI up), .int cr])), (d, .inr (0, [.ref o, .int (nI n), .int (nI y)])), (o, .inl (G.2.1, 1200, .inl (nb g)))] eIB := by
  refine fX_start (cc := cX4_bend) (maxL := 3) hfl (by decide) rfl (Nat.le_of_ble_eq_true rfl) rfl (by decide +kernel) (Nat.le_of_ble_eq_true rfl) (Nat.le_of_ble_eq_true rfl) (Nat.le_of_ble_eq_true rfl) (Nat.le_of_ble_eq_true rfl) ?_
  intro prg env sv mid args below meth cd A Q ls hx hb hml hown hts hin hK hP hD hE hA hS hl hend
  replace hown : sv.vm.findClass RX4 = some mid.cls := hown
  replace hP : va_P G.1 vwCl [(x, .inr (4, [.ref h, .ref d, .ref wc, .ref lt, .ref bu, .ref gb, .ref ve, .int (nI nb1), .int (nI up), .int cr])), (d, .inr (0, [.ref o, .int (nI n), .int (nI y)])), (o, .inl (G.2.1, 1200, .inl (nb g)))] sv.heap := hP
  replace hl : lv_has ls 3 [(0, .ref x), (1, .int z), (2, .int w)] := hl
  refine lv_aload_n hx hb dX4_bend_0 rfl (lv_at hl 0 rfl) ?_
  refine va_get (D := G.1) (ci := 4) (v := .ref d) (C := RX4) (T := TX4) (N := 10) hx hb hts in_wsX40 hown hK hP 0 rfl rfl 1 (by decide) (hts _ wm_162) (fun _ h9 => h9) rfl dX4_bend_1 ?_
  refine lv_iload_n hx hb dX4_bend_4 rfl (lv_at hl 1 rfl) ?_
  refine fcVI (As := [.int z]) (rest := []) (wr := [(x, .inr (4, [.ref h, .ref d, .ref wc, .ref lt, .ref bu, .ref gb, .ref ve, .int (nI nb1), .int (nI up), .int cr]))]) (ws1 := fun (u : Unit) => [(x, .inr (4, [.ref h, .ref d, .ref wc, .ref lt, .ref bu, .ref gb, .ref ve, .int (nI nb1), .int (nI up), .int cr])), (d, .inr (0, [.ref o, .int (nI n), .int (nI y)])), (o, .inl (G.2.1, 1200, .inl (nb g)))]) ⟨hx, hb, hml, hown, hts⟩ hK hE hP hD hS hA hl.1 (kX0_has l G d o g n y z (by omega)) (cwV 1 hts (gdV wm_232 wm_13 wm_14 wm_15 wm_10) rfl rfl rfl (by decide +kernel) ⟨Nat.le_of_ble_eq_true rfl, Nat.le_of_ble_eq_true rfl⟩) 1 rfl rfl rfl rfl (Nat.le_of_ble_eq_true rfl) dX4_bend_5 ⟨Nat.le_of_ble_eq_true rfl, Nat.le_of_ble_eq_true rfl⟩ [1, 2] [0] [0, 1, 2] rfl rfl rfl rfl (by decide) rfl (fun _ => rfl) (fun r_5 u_5 H_5 locs_5 hw_5 hP_5 hD_5 hS_5 => ?_)
  obtain rfl := hw_5
  replace hP : va_P G.1 vwCl [(x, .inr (4, [.ref h, .ref d, .ref wc, .ref lt, .ref bu, .ref gb, .ref ve, .int (nI nb1), .int (nI up), .int cr])), (d, .inr (0, [.ref o, .int (nI n), .int (nI y)])), (o, .inl (G.2.1, 1200, .inl (nb g)))] H_5 := hP_5
  replace hD : va_D A [(x, .inr (4, [.ref h, .ref d, .ref wc, .ref lt, .ref bu, .ref gb, .ref ve, .int (nI nb1), .int (nI up), .int cr])), (d, .inr (0, [.ref o, .int (nI n), .int (nI y)])), (o, .inl (G.2.1, 1200, .inl (nb g)))] := hD_5
  replace hS : va_S A sv.heap H_5 locs_5 := hS_5
  clear hP_5 hD_5 hS_5
  refine f_if_neB (tgt := 21) hx hb dX4_bend_8 (by decide) (fun c_8 => ?_) (fun c_8 => ?_)
  · skip
    exfalso; rw [hz] at c_8; cases c_8
  · skip
    exact hend 11 146 148 150 _ _ _ ls wm_230 wm_231 (hat_IB hts hE.2.2.2.2.2.2.2.2.2.2.2) hg_IB (List.mem_of_getElem? (i := 7) rfl) hl.1 dX4_bend_11 dX4_bend_14 dX4_bend_15 dX4_bend_17 dX4_bend_20 hP hD hS

set_option maxRecDepth 100000 in
set_option maxHeartbeats 4000000 in
theorem kX4_bend_x2 (l : Launch) (G : fG) (x : Nat) (wc : Nat) (wko : Nat) (lt : Nat) (bu : Nat) (gb : Nat) (ve : Nat) (h : Nat) (nb1 : Nat) (up : Nat) (cr : Int32) (d : Nat) (o : Nat) (g : Nat → UInt8) (n : Nat) (y : Nat) (w : Int32) (z : Int32) (hfl : l.stackTraces = false) (hn : n ≤ 1200) (hh : hasB n w = true) (hz : z < 0 ∨ nI 7 < z) : fMX l yX4_bend (.code yX4_bend cX4_bend 3 (some .int) :: wsA) ({ frames := 6, cells := 1, slots := 6, locals := 90 } : Room) G [.ref x, .int w, .int z] [(x, .inr (4, [.ref h, .ref d, .ref wc, .ref lt, .ref bu, .ref gb, .ref ve, .int (nI nb1), .int (nI up), .int cr])), (d, .inr (0, [.ref o, .int (nI n), .int (nI y)])), (o, .inl (G.2.1, 1200, .inl (nb g)))] eIA := by
  refine fX_start (cc := cX4_bend) (maxL := 3) hfl (by decide) rfl (Nat.le_of_ble_eq_true rfl) rfl (by decide +kernel) (Nat.le_of_ble_eq_true rfl) (Nat.le_of_ble_eq_true rfl) (Nat.le_of_ble_eq_true rfl) (Nat.le_of_ble_eq_true rfl) ?_
  intro prg env sv mid args below meth cd A Q ls hx hb hml hown hts hin hK hP hD hE hA hS hl hend
  replace hown : sv.vm.findClass RX4 = some mid.cls := hown
  replace hP : va_P G.1 vwCl [(x, .inr (4, [.ref h, .ref d, .ref wc, .ref lt, .ref bu, .ref gb, .ref ve, .int (nI nb1), .int (nI up), .int cr])), (d, .inr (0, [.ref o, .int (nI n), .int (nI y)])), (o, .inl (G.2.1, 1200, .inl (nb g)))] sv.heap := hP
  replace hl : lv_has ls 3 [(0, .ref x), (1, .int w), (2, .int z)] := hl
  refine lv_aload_n hx hb dX4_bend_0 rfl (lv_at hl 0 rfl) ?_
  refine va_get (D := G.1) (ci := 4) (v := .ref d) (C := RX4) (T := TX4) (N := 10) hx hb hts in_wsX40 hown hK hP 0 rfl rfl 1 (by decide) (hts _ wm_162) (fun _ h9 => h9) rfl dX4_bend_1 ?_
  refine lv_iload_n hx hb dX4_bend_4 rfl (lv_at hl 1 rfl) ?_
  refine fcVI (As := [.int w]) (rest := []) (wr := [(x, .inr (4, [.ref h, .ref d, .ref wc, .ref lt, .ref bu, .ref gb, .ref ve, .int (nI nb1), .int (nI up), .int cr]))]) (ws1 := fun (u : Unit) => [(x, .inr (4, [.ref h, .ref d, .ref wc, .ref lt, .ref bu, .ref gb, .ref ve, .int (nI nb1), .int (nI up), .int cr])), (d, .inr (0, [.ref o, .int (nI n), .int (nI y)])), (o, .inl (G.2.1, 1200, .inl (nb g)))]) ⟨hx, hb, hml, hown, hts⟩ hK hE hP hD hS hA hl.1 (kX0_has l G d o g n y w (by omega)) (cwV 1 hts (gdV wm_232 wm_13 wm_14 wm_15 wm_10) rfl rfl rfl (by decide +kernel) ⟨Nat.le_of_ble_eq_true rfl, Nat.le_of_ble_eq_true rfl⟩) 1 rfl rfl rfl rfl (Nat.le_of_ble_eq_true rfl) dX4_bend_5 ⟨Nat.le_of_ble_eq_true rfl, Nat.le_of_ble_eq_true rfl⟩ [1, 2] [0] [0, 1, 2] rfl rfl rfl rfl (by decide) rfl (fun _ => rfl) (fun r_5 u_5 H_5 locs_5 hw_5 hP_5 hD_5 hS_5 => ?_)
  obtain rfl := hw_5
  replace hP : va_P G.1 vwCl [(x, .inr (4, [.ref h, .ref d, .ref wc, .ref lt, .ref bu, .ref gb, .ref ve, .int (nI nb1), .int (nI up), .int cr])), (d, .inr (0, [.ref o, .int (nI n), .int (nI y)])), (o, .inl (G.2.1, 1200, .inl (nb g)))] H_5 := hP_5
  replace hD : va_D A [(x, .inr (4, [.ref h, .ref d, .ref wc, .ref lt, .ref bu, .ref gb, .ref ve, .int (nI nb1), .int (nI up), .int cr])), (d, .inr (0, [.ref o, .int (nI n), .int (nI y)])), (o, .inl (G.2.1, 1200, .inl (nb g)))] := hD_5
  replace hS : va_S A sv.heap H_5 locs_5 := hS_5
  clear hP_5 hD_5 hS_5
  refine f_if_neB (tgt := 21) hx hb dX4_bend_8 (by decide) (fun c_8 => ?_) (fun c_8 => ?_)
  · skip
    refine lv_iload_n hx hb dX4_bend_21 rfl (lv_at hl 2 rfl) ?_
    refine lv_if_lt (tgt := 31) hx hb dX4_bend_22 (by decide) (fun c_22 => ?_) (fun c_22 => ?_)
    · skip
      exact hend 31 73 151 77 _ _ _ ls wm_186 wm_187 (hat_IA hts hE.2.2.2.2.2.2.2.2.2.2.2) hg_IA (List.mem_of_getElem? (i := 8) rfl) hl.1 dX4_bend_31 dX4_bend_34 dX4_bend_35 dX4_bend_37 dX4_bend_40 hP hD hS
    · skip
      refine lv_iload_n hx hb dX4_bend_25 rfl (lv_at hl 2 rfl) ?_
      refine lv_bipush (v := nI 7) hx hb dX4_bend_26 (by decide) ?_
      refine lv_icmp_le (tgt := 41) hx hb dX4_bend_28 (by decide) (fun c_28 => ?_) (fun c_28 => ?_)
      · skip
        exfalso; rcases hz with h | h; exact c_22 h; exact absurd (Int32.lt_of_lt_of_le h c_28) Int32.lt_irrefl
      · skip
        exact hend 31 73 151 77 _ _ _ ls wm_186 wm_187 (hat_IA hts hE.2.2.2.2.2.2.2.2.2.2.2) hg_IA (List.mem_of_getElem? (i := 8) rfl) hl.1 dX4_bend_31 dX4_bend_34 dX4_bend_35 dX4_bend_37 dX4_bend_40 hP hD hS
  · skip
    exfalso; rw [hh] at c_8; cases c_8

set_option maxRecDepth 100000 in
set_option maxHeartbeats 4000000 in
theorem kX4_key_x (l : Launch) (G : fG) (x : Nat) (wc : Nat) (wko : Nat) (lt : Nat) (bu : Nat) (gb : Nat) (ve : Nat) (h : Nat) (d : Nat) (nb1 : Nat) (up : Nat) (cr : Int32) (z : Int32) (hfl : l.stackTraces = false) (hz : z < 0 ∨ nI 16 ≤ z) : fMX l yX4_key (.code yX4_key cX4_key 2 (some .int) :: wsA) ({ frames := 6, cells := 1, slots := 6, locals := 90 } : Room) G [.ref x, .int z] [(x, .inr (4, [.ref h, .ref d, .ref wc, .ref lt, .ref bu, .ref gb, .ref ve, .int (nI nb1), .int (nI up), .int cr]))] eIA := by
  refine fX_start (cc := cX4_key) (maxL := 2) hfl (by decide) rfl (Nat.le_of_ble_eq_true rfl) rfl (by decide +kernel) (Nat.le_of_ble_eq_true rfl) (Nat.le_of_ble_eq_true rfl) (Nat.le_of_ble_eq_true rfl) (Nat.le_of_ble_eq_true rfl) ?_
  intro prg env sv mid args below meth cd A Q ls hx hb hml hown hts hin hK hP hD hE hA hS hl hend
  replace hown : sv.vm.findClass RX4 = some mid.cls := hown
  replace hP : va_P G.1 vwCl [(x, .inr (4, [.ref h, .ref d, .ref wc, .ref lt, .ref bu, .ref gb, .ref ve, .int (nI nb1), .int (nI up), .int cr]))] sv.heap := hP
  replace hl : lv_has ls 2 [(0, .ref x), (1, .int z)] := hl
  refine lv_iload_n hx hb dX4_key_0 rfl (lv_at hl 1 rfl) ?_
  refine lv_if_lt (tgt := 10) hx hb dX4_key_1 (by decide) (fun c_1 => ?_) (fun c_1 => ?_)
  · skip
    exact hend 10 73 159 77 _ _ _ ls wm_186 wm_187 (hat_IA hts hE.2.2.2.2.2.2.2.2.2.2.2) hg_IA (List.mem_of_getElem? (i := 9) rfl) hl.1 dX4_key_10 dX4_key_13 dX4_key_14 dX4_key_16 dX4_key_19 hP hD hS
  · skip
    refine lv_iload_n hx hb dX4_key_4 rfl (lv_at hl 1 rfl) ?_
    refine lv_bipush (v := nI 16) hx hb dX4_key_5 (by decide) ?_
    refine lv_icmp_lt (tgt := 20) hx hb dX4_key_7 (by decide) (fun c_7 => ?_) (fun c_7 => ?_)
    · skip
      exfalso; rcases hz with h | h; exact c_1 h; exact absurd (Int32.lt_of_lt_of_le c_7 h) Int32.lt_irrefl
    · skip
      exact hend 10 73 159 77 _ _ _ ls wm_186 wm_187 (hat_IA hts hE.2.2.2.2.2.2.2.2.2.2.2) hg_IA (List.mem_of_getElem? (i := 9) rfl) hl.1 dX4_key_10 dX4_key_13 dX4_key_14 dX4_key_16 dX4_key_19 hP hD hS

set_option maxRecDepth 100000 in
set_option maxHeartbeats 4000000 in
theorem kX4_count_x (l : Launch) (G : fG) (x : Nat) (wc : Nat) (wko : Nat) (lt : Nat) (bu : Nat) (gb : Nat) (ve : Nat) (h : Nat) (d : Nat) (nb1 : Nat) (up : Nat) (cr : Int32) (z : Int32) (hfl : l.stackTraces = false) (hz : z.toInt < 0 ∨ 5 < z.toInt) : fMX l yX4_count (.code yX4_count cX4_count 2 (some .int) :: wsA) ({ frames := 6, cells := 1, slots := 6, locals := 90 } : Room) G [.ref x, .int z] [(x, .inr (4, [.ref h, .ref d, .ref wc, .ref lt, .ref bu, .ref gb, .ref ve, .int (nI nb1), .int (nI up), .int cr]))] eIA := by
  refine fX_start (cc := cX4_count) (maxL := 2) hfl (by decide) rfl (Nat.le_of_ble_eq_true rfl) rfl (by decide +kernel) (Nat.le_of_ble_eq_true rfl) (Nat.le_of_ble_eq_true rfl) (Nat.le_of_ble_eq_true rfl) (Nat.le_of_ble_eq_true rfl) ?_
  intro prg env sv mid args below meth cd A Q ls hx hb hml hown hts hin hK hP hD hE hA hS hl hend
  replace hown : sv.vm.findClass RX4 = some mid.cls := hown
  replace hP : va_P G.1 vwCl [(x, .inr (4, [.ref h, .ref d, .ref wc, .ref lt, .ref bu, .ref gb, .ref ve, .int (nI nb1), .int (nI up), .int cr]))] sv.heap := hP
  replace hl : lv_has ls 2 [(0, .ref x), (1, .int z)] := hl
  refine lv_iload_n hx hb dX4_count_0 rfl (lv_at hl 1 rfl) ?_
  refine lv_tableOut (tgt := 87) hx hb dX4_count_1 hz (by decide) ?_
  exact hend 87 73 164 77 _ _ _ ls wm_186 wm_187 (hat_IA hts hE.2.2.2.2.2.2.2.2.2.2.2) hg_IA (List.mem_of_getElem? (i := 10) rfl) hl.1 dX4_count_87 dX4_count_90 dX4_count_91 dX4_count_93 dX4_count_96 hP hD hS
