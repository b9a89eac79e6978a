set_option maxRecDepth 100000 in
set_option maxHeartbeats 4000000 in
theorem kX1_clear (l : Launch) (G : fG) (h : Nat) (tx1 : Nat) (sc : Nat) (st : Nat) (T : Nat → UInt8) (n : Nat) (S : Nat → Int32) (v : Nat → Int32)  : fMV l yX1_clear (.code yX1_clear cX1_clear 1 none :: wsA) ({ frames := 0, cells := 0, slots := 0, locals := 0 } : Room) G [.ref h] [(h, .inr (1, [.ref tx1, .ref sc, .ref st, .int (nI n)])), (tx1, .inl (G.2.1, 128, .inl (nb T))), (sc, .inl (G.2.1, 64, .inl S)), (st, .inl (G.2.1, 8, .inl v))] (fun (u : Unit) => True) (fun (u : Unit) => [(h, .inr (1, [.ref tx1, .ref sc, .ref st, .int (nI 0)])), (tx1, .inl (G.2.1, 128, .inl (nb T))), (sc, .inl (G.2.1, 64, .inl S)), (st, .inl (G.2.1, 8, .inl v))]) 0 0 := by
  refine fV_start (cc := cX1_clear) (maxL := 1) (by decide) rfl (Nat.le_of_ble_eq_true rfl) ?_
  intro prg env sv mid args below meth cd A Q ls hx hb hml hown hts hin hK hP hD hE hA hS hl hend
  replace hown : sv.vm.findClass RX1 = some mid.cls := hown
  replace hP : va_P G.1 vwCl [(h, .inr (1, [.ref tx1, .ref sc, .ref st, .int (nI n)])), (tx1, .inl (G.2.1, 128, .inl (nb T))), (sc, .inl (G.2.1, 64, .inl S)), (st, .inl (G.2.1, 8, .inl v))] sv.heap := hP
  replace hl : lv_has ls 1 [(0, .ref h)] := hl
  refine lv_aload_n hx hb dX1_clear_0 rfl (lv_at hl 0 rfl) ?_
  refine lv_iconst (v := nI 0) hx hb dX1_clear_1 (by decide) ?_
  refine va_put (D := G.1) (ci := 1) (v := .int (nI 0)) (ty := .int) (C := RX1) (T := TX1) (N := 4) hx hb hts in_wsX10 tyX1 tyX1_ok nmX1 hown hK hP hD hS 0 rfl rfl 3 (by decide) (hts _ wm_47) (fun _ h9 => h9) rfl (by decide +kernel) rfl rfl (Nat.le_of_ble_eq_true rfl) dX1_clear_2 (fun H_2 locs_2 hP_2 hD_2 hS_2 => ?_)
  replace hP : va_P G.1 vwCl [(h, .inr (1, [.ref tx1, .ref sc, .ref st, .int (nI 0)])), (tx1, .inl (G.2.1, 128, .inl (nb T))), (sc, .inl (G.2.1, 64, .inl S)), (st, .inl (G.2.1, 8, .inl v))] H_2 := hP_2
  replace hD : va_D A [(h, .inr (1, [.ref tx1, .ref sc, .ref st, .int (nI 0)])), (tx1, .inl (G.2.1, 128, .inl (nb T))), (sc, .inl (G.2.1, 64, .inl S)), (st, .inl (G.2.1, 8, .inl v))] := hD_2
  replace hS : va_S A sv.heap H_2 locs_2 := hS_2
  clear hP_2 hD_2 hS_2
  exact hend () _ _ _ _ trivial hP hD hS dX1_clear_5

set_option maxRecDepth 100000 in
set_option maxHeartbeats 4000000 in
theorem kX1_put (l : Launch) (G : fG) (h : Nat) (tx1 : Nat) (sc : Nat) (st : Nat) (T : Nat → UInt8) (n : Nat) (S : Nat → Int32) (v : Nat → Int32) (x : Int32) (hn : n < 128) : fMV l yX1_put (.code yX1_put cX1_put 2 none :: wsA) ({ frames := 0, cells := 0, slots := 0, locals := 0 } : Room) G [.ref h, .int x] [(h, .inr (1, [.ref tx1, .ref sc, .ref st, .int (nI n)])), (tx1, .inl (G.2.1, 128, .inl (nb T))), (sc, .inl (G.2.1, 64, .inl S)), (st, .inl (G.2.1, 8, .inl v))] (fun (u : Unit) => True) (fun (u : Unit) => [(h, .inr (1, [.ref tx1, .ref sc, .ref st, .int (nI (n + 1))])), (tx1, .inl (G.2.1, 128, .inl (nb (upb T n (toB x))))), (sc, .inl (G.2.1, 64, .inl S)), (st, .inl (G.2.1, 8, .inl v))]) 0 0 := by
  refine fV_start (cc := cX1_put) (maxL := 2) (by decide) rfl (Nat.le_of_ble_eq_true rfl) ?_
  intro prg env sv mid args below meth cd A Q ls hx hb hml hown hts hin hK hP hD hE hA hS hl hend
  replace hown : sv.vm.findClass RX1 = some mid.cls := hown
  replace hP : va_P G.1 vwCl [(h, .inr (1, [.ref tx1, .ref sc, .ref st, .int (nI n)])), (tx1, .inl (G.2.1, 128, .inl (nb T))), (sc, .inl (G.2.1, 64, .inl S)), (st, .inl (G.2.1, 8, .inl v))] sv.heap := hP
  replace hl : lv_has ls 2 [(0, .ref h), (1, .int x)] := hl
  refine lv_aload_n hx hb dX1_put_0 rfl (lv_at hl 0 rfl) ?_
  refine va_get (D := G.1) (ci := 1) (v := .int (nI n)) (C := RX1) (T := TX1) (N := 4) hx hb hts in_wsX10 hown hK hP 0 rfl rfl 3 (by decide) (hts _ wm_47) (fun _ h9 => h9) rfl dX1_put_1 ?_
  refine f_if_lt (tgt := 43) (by omega) hx hb dX1_put_4 (by decide) ?_
  refine lv_aload_n hx hb dX1_put_7 rfl (lv_at hl 0 rfl) ?_
  refine va_get (D := G.1) (ci := 1) (v := .int (nI n)) (C := RX1) (T := TX1) (N := 4) hx hb hts in_wsX10 hown hK hP 0 rfl rfl 3 (by decide) (hts _ wm_47) (fun _ h9 => h9) rfl dX1_put_8 ?_
  refine lv_aload_n hx hb dX1_put_11 rfl (lv_at hl 0 rfl) ?_
  refine va_get (D := G.1) (ci := 1) (v := .ref tx1) (C := RX1) (T := TX1) (N := 4) hx hb hts in_wsX10 hown hK hP 0 rfl rfl 0 (by decide) (hts _ wm_44) (fun _ h9 => h9) rfl dX1_put_12 ?_
  refine va_alen (x := _) (v := nI 128) hx hb hK hP 1 0 rfl rfl rfl dX1_put_15 ?_
  refine f_icmp_ge (tgt := 43) (by omega) (by omega) hx hb dX1_put_16 (by decide) (fun c_16 => ?_) (fun c_16 => ?_)
  · skip
    exfalso; omega
  · skip
    refine lv_aload_n hx hb dX1_put_19 rfl (lv_at hl 0 rfl) ?_
    refine va_get (D := G.1) (ci := 1) (v := .ref tx1) (C := RX1) (T := TX1) (N := 4) hx hb hts in_wsX10 hown hK hP 0 rfl rfl 0 (by decide) (hts _ wm_44) (fun _ h9 => h9) rfl dX1_put_20 ?_
    refine lv_aload_n hx hb dX1_put_23 rfl (lv_at hl 0 rfl) ?_
    refine va_get (D := G.1) (ci := 1) (v := .int (nI n)) (C := RX1) (T := TX1) (N := 4) hx hb hts in_wsX10 hown hK hP 0 rfl rfl 3 (by decide) (hts _ wm_47) (fun _ h9 => h9) rfl dX1_put_24 ?_
    refine lv_iload_n hx hb dX1_put_27 rfl (lv_at hl 1 rfl) ?_
    refine lv_sipush (v := nI 255) hx hb dX1_put_28 (by decide) ?_
    refine lv_iand hx hb dX1_put_31 ?_
    refine f_top (y := bI (toB x)) (f_255 _) ?_
    refine f_iast hx hb hK hP hD hS 1 rfl (by omega) (by decide) dX1_put_32 (fun H_32 locs_32 hP_32 hD_32 hS_32 => ?_)
    replace hP_32 : va_P G.1 vwCl [(h, .inr (1, [.ref tx1, .ref sc, .ref st, .int (nI n)])), (tx1, .inl (G.2.1, 128, .inl (nb (upb T n (toB x))))), (sc, .inl (G.2.1, 64, .inl S)), (st, .inl (G.2.1, 8, .inl v))] H_32 := by have h9 := hP_32; rw [upd_nb] at h9; exact h9
    replace hD_32 : va_D A [(h, .inr (1, [.ref tx1, .ref sc, .ref st, .int (nI n)])), (tx1, .inl (G.2.1, 128, .inl (nb (upb T n (toB x))))), (sc, .inl (G.2.1, 64, .inl S)), (st, .inl (G.2.1, 8, .inl v))] := hD.set (p := 1) rfl
    replace hP : va_P G.1 vwCl [(h, .inr (1, [.ref tx1, .ref sc, .ref st, .int (nI n)])), (tx1, .inl (G.2.1, 128, .inl (nb (upb T n (toB x))))), (sc, .inl (G.2.1, 64, .inl S)), (st, .inl (G.2.1, 8, .inl v))] H_32 := hP_32
    replace hD : va_D A [(h, .inr (1, [.ref tx1, .ref sc, .ref st, .int (nI n)])), (tx1, .inl (G.2.1, 128, .inl (nb (upb T n (toB x))))), (sc, .inl (G.2.1, 64, .inl S)), (st, .inl (G.2.1, 8, .inl v))] := hD_32
    replace hS : va_S A sv.heap H_32 locs_32 := hS_32
    clear hP_32 hD_32 hS_32
    refine lv_aload_n hx hb dX1_put_33 rfl (lv_at hl 0 rfl) ?_
    refine lv_dup hx hb dX1_put_34 rfl ?_
    refine va_get (D := G.1) (ci := 1) (v := .int (nI n)) (C := RX1) (T := TX1) (N := 4) hx hb hts in_wsX10 hown hK hP 0 rfl rfl 3 (by decide) (hts _ wm_47) (fun _ h9 => h9) rfl dX1_put_35 ?_
    refine lv_iconst (v := nI 1) hx hb dX1_put_38 (by decide) ?_
    refine lv_iadd hx hb dX1_put_39 ?_
    refine f_top (y := nI (n + 1)) (nI_add _ _) ?_
    refine va_put (D := G.1) (ci := 1) (v := .int (nI (n + 1))) (ty := .int) (C := RX1) (T := TX1) (N := 4) hx hb hts in_wsX10 tyX1 tyX1_ok nmX1 hown hK hP hD hS 0 rfl rfl 3 (by decide) (hts _ wm_47) (fun _ h9 => h9) rfl (by decide +kernel) rfl rfl (Nat.le_of_ble_eq_true rfl) dX1_put_40 (fun H_40 locs_40 hP_40 hD_40 hS_40 => ?_)
    replace hP : va_P G.1 vwCl [(h, .inr (1, [.ref tx1, .ref sc, .ref st, .int (nI (n + 1))])), (tx1, .inl (G.2.1, 128, .inl (nb (upb T n (toB x))))), (sc, .inl (G.2.1, 64, .inl S)), (st, .inl (G.2.1, 8, .inl v))] H_40 := hP_40
    replace hD : va_D A [(h, .inr (1, [.ref tx1, .ref sc, .ref st, .int (nI (n + 1))])), (tx1, .inl (G.2.1, 128, .inl (nb (upb T n (toB x))))), (sc, .inl (G.2.1, 64, .inl S)), (st, .inl (G.2.1, 8, .inl v))] := hD_40
    replace hS : va_S A sv.heap H_40 locs_40 := hS_40
    clear hP_40 hD_40 hS_40
    exact hend () _ _ _ _ trivial hP hD hS dX1_put_43

set_option maxRecDepth 100000 in
set_option maxHeartbeats 4000000 in
theorem kX1_hashOctet (l : Launch) (G : fG) (h : Nat) (tx1 : Nat) (sc : Nat) (st : Nat) (T : Nat → UInt8) (n : Nat) (S : Nat → Int32) (v : Nat → Int32) (k : Nat) (hk : k < 32) : fMI l yX1_hashOctet (.code yX1_hashOctet cX1_hashOctet 2 (some .int) :: wsA) ({ frames := 0, cells := 0, slots := 0, locals := 0 } : Room) G [.ref h, .int (nI k)] [(h, .inr (1, [.ref tx1, .ref sc, .ref st, .int (nI n)])), (tx1, .inl (G.2.1, 128, .inl (nb T))), (sc, .inl (G.2.1, 64, .inl S)), (st, .inl (G.2.1, 8, .inl v))] (fun (r9 : Int32) (u : Unit) => r9 = bI (dgB v k)) (fun (u : Unit) => [(h, .inr (1, [.ref tx1, .ref sc, .ref st, .int (nI n)])), (tx1, .inl (G.2.1, 128, .inl (nb T))), (sc, .inl (G.2.1, 64, .inl S)), (st, .inl (G.2.1, 8, .inl v))]) 0 0 := by
  refine fI_start (cc := cX1_hashOctet) (maxL := 2) (by decide) rfl (Nat.le_of_ble_eq_true rfl) ?_
  intro prg env sv mid args below meth cd A Q ls hx hb hml hown hts hin hK hP hD hE hA hS hl hend
  replace hown : sv.vm.findClass RX1 = some mid.cls := hown
  replace hP : va_P G.1 vwCl [(h, .inr (1, [.ref tx1, .ref sc, .ref st, .int (nI n)])), (tx1, .inl (G.2.1, 128, .inl (nb T))), (sc, .inl (G.2.1, 64, .inl S)), (st, .inl (G.2.1, 8, .inl v))] sv.heap := hP
  replace hl : lv_has ls 2 [(0, .ref h), (1, .int (nI k))] := hl
  refine lv_iload_n hx hb dX1_hashOctet_0 rfl (lv_at hl 1 rfl) ?_
  refine f_if_lt (tgt := 10) (by omega) hx hb dX1_hashOctet_1 (by decide) ?_
  refine lv_iload_n hx hb dX1_hashOctet_4 rfl (lv_at hl 1 rfl) ?_
  refine lv_bipush (v := nI 32) hx hb dX1_hashOctet_5 (by decide) ?_
  refine f_icmp_lt (tgt := 12) (by omega) (by omega) hx hb dX1_hashOctet_7 (by decide) (fun c_7 => ?_) (fun c_7 => ?_)
  · skip
    refine lv_aload_n hx hb dX1_hashOctet_12 rfl (lv_at hl 0 rfl) ?_
    refine va_get (D := G.1) (ci := 1) (v := .ref st) (C := RX1) (T := TX1) (N := 4) hx hb hts in_wsX10 hown hK hP 0 rfl rfl 2 (by decide) (hts _ wm_46) (fun _ h9 => h9) rfl dX1_hashOctet_13 ?_
    refine lv_iload_n hx hb dX1_hashOctet_16 rfl (lv_at hl 1 rfl) ?_
    refine lv_iconst (v := nI 2) hx hb dX1_hashOctet_17 (by decide) ?_
    refine lv_ishr hx hb dX1_hashOctet_18 ?_
    refine f_top (y := nI (k / 4)) (pk_shrN (by omega) _ 2 (by decide)) ?_
    refine f_iald (v := v (k / 4)) hx hb hK hP 3 rfl (by omega) (by decide) rfl dX1_hashOctet_19 ?_
    refine lv_bipush (v := nI 24) hx hb dX1_hashOctet_20 (by decide) ?_
    refine lv_bipush (v := nI 8) hx hb dX1_hashOctet_22 (by decide) ?_
    refine lv_iload_n hx hb dX1_hashOctet_24 rfl (lv_at hl 1 rfl) ?_
    refine lv_iconst (v := nI 3) hx hb dX1_hashOctet_25 (by decide) ?_
    refine lv_iand hx hb dX1_hashOctet_26 ?_
    refine f_top (y := nI (k % 4)) (pk_andN (by omega) 2 (by decide)) ?_
    refine lv_imul hx hb dX1_hashOctet_27 ?_
    refine f_top (y := nI (8 * (k % 4))) (pk_mul _ _) ?_
    refine lv_isub hx hb dX1_hashOctet_28 ?_
    refine f_top (y := nI (24 - (8 * (k % 4)))) (pk_sub (by omega)) ?_
    refine lv_iushr (v := f_ush (v (k / 4)) (nI (24 - (8 * (k % 4))))) hx hb dX1_hashOctet_29 rfl ?_
    refine lv_sipush (v := nI 255) hx hb dX1_hashOctet_30 (by decide) ?_
    refine lv_iand hx hb dX1_hashOctet_33 ?_
    refine f_top (y := bI (toB (f_ush (v (k / 4)) (nI (24 - (8 * (k % 4))))))) (f_255 _) ?_
    exact hend (bI (toB (f_ush (v (k / 4)) (nI (24 - (8 * (k % 4))))))) () _ _ _ _ rfl rfl hP hD hS dX1_hashOctet_34
  · skip
    exfalso; omega

set_option maxRecDepth 100000 in
set_option maxHeartbeats 4000000 in
theorem kX1_turned (l : Launch) (G : fG) (x : Int32) (y : Int32)  : fMI l yX1_turned (.code yX1_turned cX1_turned 2 (some .int) :: wsA) ({ frames := 0, cells := 0, slots := 0, locals := 0 } : Room) G [.int x, .int y] [] (fun (r9 : Int32) (u : Unit) => r9 = rotr x y) (fun (u : Unit) => []) 0 0 := by
  refine fI_start (cc := cX1_turned) (maxL := 2) (by decide) rfl (Nat.le_of_ble_eq_true rfl) ?_
  intro prg env sv mid args below meth cd A Q ls hx hb hml hown hts hin hK hP hD hE hA hS hl hend
  replace hown : sv.vm.findClass RX1 = some mid.cls := hown
  replace hP : va_P G.1 vwCl [] sv.heap := hP
  replace hl : lv_has ls 2 [(0, .int x), (1, .int y)] := hl
  refine lv_iload_n hx hb dX1_turned_0 rfl (lv_at hl 0 rfl) ?_
  refine lv_iload_n hx hb dX1_turned_1 rfl (lv_at hl 1 rfl) ?_
  refine lv_iushr (v := f_ush x y) hx hb dX1_turned_2 rfl ?_
  refine lv_iload_n hx hb dX1_turned_3 rfl (lv_at hl 0 rfl) ?_
  refine lv_bipush (v := nI 32) hx hb dX1_turned_4 (by decide) ?_
  refine lv_iload_n hx hb dX1_turned_6 rfl (lv_at hl 1 rfl) ?_
  refine lv_isub hx hb dX1_turned_7 ?_
  refine lv_ishl hx hb dX1_turned_8 ?_
  refine lv_ior hx hb dX1_turned_9 ?_
  exact hend ((f_ush x y) ||| (x <<< (((nI 32) - y) &&& 31))) () _ _ _ _ rfl rfl hP hD hS dX1_turned_10

set_option maxRecDepth 100000 in
set_option maxHeartbeats 4000000 in
theorem kX1_expand (l : Launch) (G : fG) (h : Nat) (tx1 : Nat) (sc : Nat) (st : Nat) (T : Nat → UInt8) (n : Nat) (S : Nat → Int32) (v : Nat → Int32) (a : Nat) (ha : a + 64 ≤ 128) : fMV l yX1_expand (.code yX1_expand cX1_expand 7 none :: wsA) ({ frames := 1, cells := 0, slots := 0, locals := 21 } : Room) G [.ref h, .int (nI a)] [(h, .inr (1, [.ref tx1, .ref sc, .ref st, .int (nI n)])), (tx1, .inl (G.2.1, 128, .inl (nb T))), (sc, .inl (G.2.1, 64, .inl S)), (st, .inl (G.2.1, 8, .inl v))] (fun (u : Unit) => True) (fun (u : Unit) => [(h, .inr (1, [.ref tx1, .ref sc, .ref st, .int (nI n)])), (tx1, .inl (G.2.1, 128, .inl (nb T))), (sc, .inl (G.2.1, 64, .inl (sch T a))), (st, .inl (G.2.1, 8, .inl v))]) 0 0 := by
  refine fV_start (cc := cX1_expand) (maxL := 7) (by decide) rfl (Nat.le_of_ble_eq_true rfl) ?_
  intro prg env sv mid args below meth cd A Q ls hx hb hml hown hts hin hK hP hD hE hA hS hl hend
  replace hown : sv.vm.findClass RX1 = some mid.cls := hown
  replace hP : va_P G.1 vwCl [(h, .inr (1, [.ref tx1, .ref sc, .ref st, .int (nI n)])), (tx1, .inl (G.2.1, 128, .inl (nb T))), (sc, .inl (G.2.1, 64, .inl S)), (st, .inl (G.2.1, 8, .inl v))] sv.heap := hP
  replace hl : lv_has ls 7 [(0, .ref h), (1, .int (nI a))] := hl
  refine lv_iconst (v := nI 0) hx hb dX1_expand_0 (by decide) ?_
  refine lv_istore_n (lv' := [(2, .int (nI 0)), (0, .ref h), (1, .int (nI a))]) hx hb dX1_expand_1 rfl hl (by decide) rfl (fun ls hl2 => ?_)
  replace hl := hl2; clear hl2
  have L_2 : ∀ (n9 : Nat) (t : Nat) (S1 : Nat → Int32) (H : Heap) (locs : List Loc) (ls : Array Slot), (17 - t) < n9 → (t ≤ 16) → (∀ j, j < t → S1 j = sch T a j) → va_P G.1 vwCl [(h, .inr (1, [.ref tx1, .ref sc, .ref st, .int (nI n)])), (tx1, .inl (G.2.1, 128, .inl (nb T))), (sc, .inl (G.2.1, 64, .inl S1)), (st, .inl (G.2.1, 8, .inl v))] H → va_D A [(h, .inr (1, [.ref tx1, .ref sc, .ref st, .int (nI n)])), (tx1, .inl (G.2.1, 128, .inl (nb T))), (sc, .inl (G.2.1, 64, .inl S1)), (st, .inl (G.2.1, 8, .inl v))] → va_S A sv.heap H locs → lv_has ls 7 [(0, .ref h), (1, .int (nI a)), (2, .int (nI t))] → W prg l env ({ frames := 1, cells := 0, slots := 0, locals := 21 } : Room) sv mid args below meth cd H locs 0 0 Q (F0 mid 2 ls []) := by
    intro n9
    induction n9 with
    | zero => intro t S1 H locs ls hmu; exact absurd hmu (Nat.not_lt_zero _)
    | succ n9 ih_2 =>
      intro t S1 H locs ls hmu_2 ht hS1 hP hD hS hl
      refine lv_iload_n hx hb dX1_expand_2 rfl (lv_at hl 2 rfl) ?_
      refine lv_bipush (v := nI 16) hx hb dX1_expand_3 (by decide) ?_
      refine f_icmp_ge (tgt := 68) (by omega) (by omega) hx hb dX1_expand_5 (by decide) (fun c_5 => ?_) (fun c_5 => ?_)
      · skip
        refine lv_bipush (v := nI 16) hx hb dX1_expand_68 (by decide) ?_
        refine lv_istore_n (lv' := [(2, .int (nI 16)), (0, .ref h), (1, .int (nI a))]) hx hb dX1_expand_70 rfl hl (by decide) rfl (fun ls hl2 => ?_)
        replace hl := hl2; clear hl2
        obtain rfl : t = 16 := by omega
        have L_71 : ∀ (n9 : Nat) (t : Nat) (S2 : Nat → Int32) (H : Heap) (locs : List Loc) (ls : Array Slot), (65 - t) < n9 → (16 ≤ t ∧ t ≤ 64) → (∀ j, j < t → S2 j = sch T a j) → va_P G.1 vwCl [(h, .inr (1, [.ref tx1, .ref sc, .ref st, .int (nI n)])), (tx1, .inl (G.2.1, 128, .inl (nb T))), (sc, .inl (G.2.1, 64, .inl S2)), (st, .inl (G.2.1, 8, .inl v))] H → va_D A [(h, .inr (1, [.ref tx1, .ref sc, .ref st, .int (nI n)])), (tx1, .inl (G.2.1, 128, .inl (nb T))), (sc, .inl (G.2.1, 64, .inl S2)), (st, .inl (G.2.1, 8, .inl v))] → va_S A sv.heap H locs → lv_has ls 7 [(0, .ref h), (1, .int (nI a)), (2, .int (nI t))] → W prg l env ({ frames := 1, cells := 0, slots := 0, locals := 21 } : Room) sv mid args below meth cd H locs 0 0 Q (F0 mid 71 ls []) := by
          intro n9
          induction n9 with
          | zero => intro t S2 H locs ls hmu; exact absurd hmu (Nat.not_lt_zero _)
          | succ n9 ih_71 =>
            intro t S2 H locs ls hmu_71 ht1 hS2 hP hD hS hl
            refine lv_iload_n hx hb dX1_expand_71 rfl (lv_at hl 2 rfl) ?_
            refine lv_bipush (v := nI 64) hx hb dX1_expand_72 (by decide) ?_
            refine f_icmp_ge (tgt := 176) (by omega) (by omega) hx hb dX1_expand_74 (by decide) (fun c_74 => ?_) (fun c_74 => ?_)
            · skip
              obtain rfl : t = 64 := by omega
              replace hP : va_P G.1 vwCl [(h, .inr (1, [.ref tx1, .ref sc, .ref st, .int (nI n)])), (tx1, .inl (G.2.1, 128, .inl (nb T))), (sc, .inl (G.2.1, 64, .inl (sch T a))), (st, .inl (G.2.1, 8, .inl v))] H := f_row hP 2 rfl (sch T a) hS2
              replace hD : va_D A [(h, .inr (1, [.ref tx1, .ref sc, .ref st, .int (nI n)])), (tx1, .inl (G.2.1, 128, .inl (nb T))), (sc, .inl (G.2.1, 64, .inl (sch T a))), (st, .inl (G.2.1, 8, .inl v))] := f_rowD hD 2 rfl
              exact hend () _ _ _ _ trivial hP hD hS dX1_expand_176
            · skip
              refine lv_aload_n hx hb dX1_expand_77 rfl (lv_at hl 0 rfl) ?_
              refine va_get (D := G.1) (ci := 1) (v := .ref sc) (C := RX1) (T := TX1) (N := 4) hx hb hts in_wsX10 hown hK hP 0 rfl rfl 1 (by decide) (hts _ wm_45) (fun _ h9 => h9) rfl dX1_expand_78 ?_
              refine lv_iload_n hx hb dX1_expand_81 rfl (lv_at hl 2 rfl) ?_
              refine lv_bipush (v := nI 15) hx hb dX1_expand_82 (by decide) ?_
              refine lv_isub hx hb dX1_expand_84 ?_
              refine f_top (y := nI (t - 15)) (pk_sub (by omega)) ?_
              refine f_iald (v := S2 (t - 15)) hx hb hK hP 2 rfl (by omega) (by decide) rfl dX1_expand_85 ?_
              refine f_top (y := sch T a (t - 15)) (hS2 (t - 15) (by omega)) ?_
              refine lv_istore_n (lv' := [(3, .int (sch T a (t - 15))), (0, .ref h), (1, .int (nI a)), (2, .int (nI t))]) hx hb dX1_expand_86 rfl hl (by decide) rfl (fun ls hl2 => ?_)
              replace hl := hl2; clear hl2
              refine lv_aload_n hx hb dX1_expand_87 rfl (lv_at hl 1 rfl) ?_
              refine va_get (D := G.1) (ci := 1) (v := .ref sc) (C := RX1) (T := TX1) (N := 4) hx hb hts in_wsX10 hown hK hP 0 rfl rfl 1 (by decide) (hts _ wm_45) (fun _ h9 => h9) rfl dX1_expand_88 ?_
              refine lv_iload_n hx hb dX1_expand_91 rfl (lv_at hl 3 rfl) ?_
              refine lv_iconst (v := nI 2) hx hb dX1_expand_92 (by decide) ?_
              refine lv_isub hx hb dX1_expand_93 ?_
              refine f_top (y := nI (t - 2)) (pk_sub (by omega)) ?_
              refine f_iald (v := S2 (t - 2)) hx hb hK hP 2 rfl (by omega) (by decide) rfl dX1_expand_94 ?_
              refine f_top (y := sch T a (t - 2)) (hS2 (t - 2) (by omega)) ?_
              refine lv_istore (lv' := [(4, .int (sch T a (t - 2))), (3, .int (sch T a (t - 15))), (0, .ref h), (1, .int (nI a)), (2, .int (nI t))]) hx hb dX1_expand_95 hl (by decide) rfl (fun ls hl2 => ?_)
              replace hl := hl2; clear hl2
              refine lv_iload_n hx hb dX1_expand_97 rfl (lv_at hl 1 rfl) ?_
              refine lv_bipush (v := nI 7) hx hb dX1_expand_98 (by decide) ?_
              refine fcSI (As := [.int (sch T a (t - 15)), .int (nI 7)]) (rest := []) (wr := [(h, .inr (1, [.ref tx1, .ref sc, .ref st, .int (nI n)])), (tx1, .inl (G.2.1, 128, .inl (nb T))), (sc, .inl (G.2.1, 64, .inl S2)), (st, .inl (G.2.1, 8, .inl v))]) (ws1 := fun (u : Unit) => [(h, .inr (1, [.ref tx1, .ref sc, .ref st, .int (nI n)])), (tx1, .inl (G.2.1, 128, .inl (nb T))), (sc, .inl (G.2.1, 64, .inl S2)), (st, .inl (G.2.1, 8, .inl v))]) ⟨hx, hb, hml, hown, hts⟩ hK hE hP hD hS hA hl.1 (kX1_turned l G (sch T a (t - 15)) (nI 7) ) (va_cwS 2 hts (gdS wm_62 wm_63 wm_56 wm_60) rfl rfl rfl (by decide +kernel) ⟨Nat.le_of_ble_eq_true rfl, Nat.le_of_ble_eq_true rfl⟩) rfl rfl (Nat.le_of_ble_eq_true rfl) dX1_expand_100 ⟨Nat.le_of_ble_eq_true rfl, Nat.le_of_ble_eq_true rfl⟩ [] [0, 1, 2, 3] [0, 1, 2, 3] rfl rfl rfl rfl (by decide) rfl (fun _ => rfl) (fun r_100 u_100 H_100 locs_100 hw_100 hP_100 hD_100 hS_100 => ?_)
              obtain rfl := hw_100
              replace hP : va_P G.1 vwCl [(h, .inr (1, [.ref tx1, .ref sc, .ref st, .int (nI n)])), (tx1, .inl (G.2.1, 128, .inl (nb T))), (sc, .inl (G.2.1, 64, .inl S2)), (st, .inl (G.2.1, 8, .inl v))] H_100 := hP_100
              replace hD : va_D A [(h, .inr (1, [.ref tx1, .ref sc, .ref st, .int (nI n)])), (tx1, .inl (G.2.1, 128, .inl (nb T))), (sc, .inl (G.2.1, 64, .inl S2)), (st, .inl (G.2.1, 8, .inl v))] := hD_100
              replace hS : va_S A sv.heap H_100 locs_100 := hS_100
              clear hP_100 hD_100 hS_100
              refine lv_iload_n hx hb dX1_expand_103 rfl (lv_at hl 1 rfl) ?_
              refine lv_bipush (v := nI 18) hx hb dX1_expand_104 (by decide) ?_
              refine fcSI (As := [.int (sch T a (t - 15)), .int (nI 18)]) (rest := [.int (rotr (sch T a (t - 15)) (nI 7))]) (wr := [(h, .inr (1, [.ref tx1, .ref sc, .ref st, .int (nI n)])), (tx1, .inl (G.2.1, 128, .inl (nb T))), (sc, .inl (G.2.1, 64, .inl S2)), (st, .inl (G.2.1, 8, .inl v))]) (ws1 := fun (u : Unit) => [(h, .inr (1, [.ref tx1, .ref sc, .ref st, .int (nI n)])), (tx1, .inl (G.2.1, 128, .inl (nb T))), (sc, .inl (G.2.1, 64, .inl S2)), (st, .inl (G.2.1, 8, .inl v))]) ⟨hx, hb, hml, hown, hts⟩ hK hE hP hD hS hA hl.1 (kX1_turned l G (sch T a (t - 15)) (nI 18) ) (va_cwS 2 hts (gdS wm_62 wm_63 wm_56 wm_60) rfl rfl rfl (by decide +kernel) ⟨Nat.le_of_ble_eq_true rfl, Nat.le_of_ble_eq_true rfl⟩) rfl rfl (Nat.le_of_ble_eq_true rfl) dX1_expand_106 ⟨Nat.le_of_ble_eq_true rfl, Nat.le_of_ble_eq_true rfl⟩ [] [0, 1, 2, 3] [0, 1, 2, 3] rfl rfl rfl rfl (by decide) rfl (fun _ => rfl) (fun r_106 u_106 H_106 locs_106 hw_106 hP_106 hD_106 hS_106 => ?_)
              obtain rfl := hw_106
              replace hP : va_P G.1 vwCl [(h, .inr (1, [.ref tx1, .ref sc, .ref st, .int (nI n)])), (tx1, .inl (G.2.1, 128, .inl (nb T))), (sc, .inl (G.2.1, 64, .inl S2)), (st, .inl (G.2.1, 8, .inl v))] H_106 := hP_106
              replace hD : va_D A [(h, .inr (1, [.ref tx1, .ref sc, .ref st, .int (nI n)])), (tx1, .inl (G.2.1, 128, .inl (nb T))), (sc, .inl (G.2.1, 64, .inl S2)), (st, .inl (G.2.1, 8, .inl v))] := hD_106
              replace hS : va_S A sv.heap H_106 locs_106 := hS_106
              clear hP_106 hD_106 hS_106
              refine lv_ixor hx hb dX1_expand_109 ?_
              refine lv_iload_n hx hb dX1_expand_110 rfl (lv_at hl 1 rfl) ?_
              refine lv_iconst (v := nI 3) hx hb dX1_expand_111 (by decide) ?_
              refine lv_iushr (v := f_ush (sch T a (t - 15)) (nI 3)) hx hb dX1_expand_112 rfl ?_
              refine lv_ixor hx hb dX1_expand_113 ?_
              refine lv_istore (lv' := [(5, .int (((rotr (sch T a (t - 15)) (nI 7)) ^^^ (rotr (sch T a (t - 15)) (nI 18))) ^^^ (f_ush (sch T a (t - 15)) (nI 3)))), (4, .int (sch T a (t - 2))), (3, .int (sch T a (t - 15))), (0, .ref h), (1, .int (nI a)), (2, .int (nI t))]) hx hb dX1_expand_114 hl (by decide) rfl (fun ls hl2 => ?_)
              replace hl := hl2; clear hl2
              refine lv_iload hx hb dX1_expand_116 (lv_at hl 1 rfl) ?_
              refine lv_bipush (v := nI 17) hx hb dX1_expand_118 (by decide) ?_
              refine fcSI (As := [.int (sch T a (t - 2)), .int (nI 17)]) (rest := []) (wr := [(h, .inr (1, [.ref tx1, .ref sc, .ref st, .int (nI n)])), (tx1, .inl (G.2.1, 128, .inl (nb T))), (sc, .inl (G.2.1, 64, .inl S2)), (st, .inl (G.2.1, 8, .inl v))]) (ws1 := fun (u : Unit) => [(h, .inr (1, [.ref tx1, .ref sc, .ref st, .int (nI n)])), (tx1, .inl (G.2.1, 128, .inl (nb T))), (sc, .inl (G.2.1, 64, .inl S2)), (st, .inl (G.2.1, 8, .inl v))]) ⟨hx, hb, hml, hown, hts⟩ hK hE hP hD hS hA hl.1 (kX1_turned l G (sch T a (t - 2)) (nI 17) ) (va_cwS 2 hts (gdS wm_62 wm_63 wm_56 wm_60) rfl rfl rfl (by decide +kernel) ⟨Nat.le_of_ble_eq_true rfl, Nat.le_of_ble_eq_true rfl⟩) rfl rfl (Nat.le_of_ble_eq_true rfl) dX1_expand_120 ⟨Nat.le_of_ble_eq_true rfl, Nat.le_of_ble_eq_true rfl⟩ [] [0, 1, 2, 3] [0, 1, 2, 3] rfl rfl rfl rfl (by decide) rfl (fun _ => rfl) (fun r_120 u_120 H_120 locs_120 hw_120 hP_120 hD_120 hS_120 => ?_)
              obtain rfl := hw_120
              replace hP : va_P G.1 vwCl [(h, .inr (1, [.ref tx1, .ref sc, .ref st, .int (nI n)])), (tx1, .inl (G.2.1, 128, .inl (nb T))), (sc, .inl (G.2.1, 64, .inl S2)), (st, .inl (G.2.1, 8, .inl v))] H_120 := hP_120
              replace hD : va_D A [(h, .inr (1, [.ref tx1, .ref sc, .ref st, .int (nI n)])), (tx1, .inl (G.2.1, 128, .inl (nb T))), (sc, .inl (G.2.1, 64, .inl S2)), (st, .inl (G.2.1, 8, .inl v))] := hD_120
              replace hS : va_S A sv.heap H_120 locs_120 := hS_120
              clear hP_120 hD_120 hS_120
              refine lv_iload hx hb dX1_expand_123 (lv_at hl 1 rfl) ?_
              refine lv_bipush (v := nI 19) hx hb dX1_expand_125 (by decide) ?_
              refine fcSI (As := [.int (sch T a (t - 2)), .int (nI 19)]) (rest := [.int (rotr (sch T a (t - 2)) (nI 17))]) (wr := [(h, .inr (1, [.ref tx1, .ref sc, .ref st, .int (nI n)])), (tx1, .inl (G.2.1, 128, .inl (nb T))), (sc, .inl (G.2.1, 64, .inl S2)), (st, .inl (G.2.1, 8, .inl v))]) (ws1 := fun (u : Unit) => [(h, .inr (1, [.ref tx1, .ref sc, .ref st, .int (nI n)])), (tx1, .inl (G.2.1, 128, .inl (nb T))), (sc, .inl (G.2.1, 64, .inl S2)), (st, .inl (G.2.1, 8, .inl v))]) ⟨hx, hb, hml, hown, hts⟩ hK hE hP hD hS hA hl.1 (kX1_turned l G (sch T a (t - 2)) (nI 19) ) (va_cwS 2 hts (gdS wm_62 wm_63 wm_56 wm_60) rfl rfl rfl (by decide +kernel) ⟨Nat.le_of_ble_eq_true rfl, Nat.le_of_ble_eq_true rfl⟩) rfl rfl (Nat.le_of_ble_eq_true rfl) dX1_expand_127 ⟨Nat.le_of_ble_eq_true rfl, Nat.le_of_ble_eq_true rfl⟩ [] [0, 1, 2, 3] [0, 1, 2, 3] rfl rfl rfl rfl (by decide) rfl (fun _ => rfl) (fun r_127 u_127 H_127 locs_127 hw_127 hP_127 hD_127 hS_127 => ?_)
              obtain rfl := hw_127
              replace hP : va_P G.1 vwCl [(h, .inr (1, [.ref tx1, .ref sc, .ref st, .int (nI n)])), (tx1, .inl (G.2.1, 128, .inl (nb T))), (sc, .inl (G.2.1, 64, .inl S2)), (st, .inl (G.2.1, 8, .inl v))] H_127 := hP_127
              replace hD : va_D A [(h, .inr (1, [.ref tx1, .ref sc, .ref st, .int (nI n)])), (tx1, .inl (G.2.1, 128, .inl (nb T))), (sc, .inl (G.2.1, 64, .inl S2)), (st, .inl (G.2.1, 8, .inl v))] := hD_127
              replace hS : va_S A sv.heap H_127 locs_127 := hS_127
              clear hP_127 hD_127 hS_127
              refine lv_ixor hx hb dX1_expand_130 ?_
              refine lv_iload hx hb dX1_expand_131 (lv_at hl 1 rfl) ?_
              refine lv_bipush (v := nI 10) hx hb dX1_expand_133 (by decide) ?_
              refine lv_iushr (v := f_ush (sch T a (t - 2)) (nI 10)) hx hb dX1_expand_135 rfl ?_
              refine lv_ixor hx hb dX1_expand_136 ?_
              refine lv_istore (lv' := [(6, .int (((rotr (sch T a (t - 2)) (nI 17)) ^^^ (rotr (sch T a (t - 2)) (nI 19))) ^^^ (f_ush (sch T a (t - 2)) (nI 10)))), (5, .int (((rotr (sch T a (t - 15)) (nI 7)) ^^^ (rotr (sch T a (t - 15)) (nI 18))) ^^^ (f_ush (sch T a (t - 15)) (nI 3)))), (4, .int (sch T a (t - 2))), (3, .int (sch T a (t - 15))), (0, .ref h), (1, .int (nI a)), (2, .int (nI t))]) hx hb dX1_expand_137 hl (by decide) rfl (fun ls hl2 => ?_)
              replace hl := hl2; clear hl2
              refine lv_aload_n hx hb dX1_expand_139 rfl (lv_at hl 4 rfl) ?_
              refine va_get (D := G.1) (ci := 1) (v := .ref sc) (C := RX1) (T := TX1) (N := 4) hx hb hts in_wsX10 hown hK hP 0 rfl rfl 1 (by decide) (hts _ wm_45) (fun _ h9 => h9) rfl dX1_expand_140 ?_
              refine lv_iload_n hx hb dX1_expand_143 rfl (lv_at hl 6 rfl) ?_
              refine lv_aload_n hx hb dX1_expand_144 rfl (lv_at hl 4 rfl) ?_
              refine va_get (D := G.1) (ci := 1) (v := .ref sc) (C := RX1) (T := TX1) (N := 4) hx hb hts in_wsX10 hown hK hP 0 rfl rfl 1 (by decide) (hts _ wm_45) (fun _ h9 => h9) rfl dX1_expand_145 ?_
              refine lv_iload_n hx hb dX1_expand_148 rfl (lv_at hl 6 rfl) ?_
              refine lv_bipush (v := nI 16) hx hb dX1_expand_149 (by decide) ?_
              refine lv_isub hx hb dX1_expand_151 ?_
              refine f_top (y := nI (t - 16)) (pk_sub (by omega)) ?_
              refine f_iald (v := S2 (t - 16)) hx hb hK hP 2 rfl (by omega) (by decide) rfl dX1_expand_152 ?_
              refine f_top (y := sch T a (t - 16)) (hS2 (t - 16) (by omega)) ?_
              refine lv_iload hx hb dX1_expand_153 (lv_at hl 1 rfl) ?_
              refine lv_iadd hx hb dX1_expand_155 ?_
              refine lv_aload_n hx hb dX1_expand_156 rfl (lv_at hl 4 rfl) ?_
              refine va_get (D := G.1) (ci := 1) (v := .ref sc) (C := RX1) (T := TX1) (N := 4) hx hb hts in_wsX10 hown hK hP 0 rfl rfl 1 (by decide) (hts _ wm_45) (fun _ h9 => h9) rfl dX1_expand_157 ?_
              refine lv_iload_n hx hb dX1_expand_160 rfl (lv_at hl 6 rfl) ?_
              refine lv_bipush (v := nI 7) hx hb dX1_expand_161 (by decide) ?_
              refine lv_isub hx hb dX1_expand_163 ?_
              refine f_top (y := nI (t - 7)) (pk_sub (by omega)) ?_
              refine f_iald (v := S2 (t - 7)) hx hb hK hP 2 rfl (by omega) (by decide) rfl dX1_expand_164 ?_
              refine f_top (y := sch T a (t - 7)) (hS2 (t - 7) (by omega)) ?_
              refine lv_iadd hx hb dX1_expand_165 ?_
              refine lv_iload hx hb dX1_expand_166 (lv_at hl 0 rfl) ?_
              refine lv_iadd hx hb dX1_expand_168 ?_
              refine f_top (y := sch T a t) (sch_hi (by omega)).symm ?_
              refine f_iast hx hb hK hP hD hS 2 rfl (by omega) (by decide) dX1_expand_169 (fun H_169 locs_169 hP_169 hD_169 hS_169 => ?_)
              replace hP : va_P G.1 vwCl [(h, .inr (1, [.ref tx1, .ref sc, .ref st, .int (nI n)])), (tx1, .inl (G.2.1, 128, .inl (nb T))), (sc, .inl (G.2.1, 64, .inl (upd S2 t (sch T a t)))), (st, .inl (G.2.1, 8, .inl v))] H_169 := hP_169
              replace hD : va_D A [(h, .inr (1, [.ref tx1, .ref sc, .ref st, .int (nI n)])), (tx1, .inl (G.2.1, 128, .inl (nb T))), (sc, .inl (G.2.1, 64, .inl (upd S2 t (sch T a t)))), (st, .inl (G.2.1, 8, .inl v))] := hD_169
              replace hS : va_S A sv.heap H_169 locs_169 := hS_169
              clear hP_169 hD_169 hS_169
              refine lv_iinc (v := nI (t + 1)) (lv' := [(2, .int (nI (t + 1))), (6, .int (((rotr (sch T a (t - 2)) (nI 17)) ^^^ (rotr (sch T a (t - 2)) (nI 19))) ^^^ (f_ush (sch T a (t - 2)) (nI 10)))), (5, .int (((rotr (sch T a (t - 15)) (nI 7)) ^^^ (rotr (sch T a (t - 15)) (nI 18))) ^^^ (f_ush (sch T a (t - 15)) (nI 3)))), (4, .int (sch T a (t - 2))), (3, .int (sch T a (t - 15))), (0, .ref h), (1, .int (nI a))]) hx hb dX1_expand_170 hl (k := 6) rfl (f_inc1 _) (by decide) rfl (fun ls hl2 => ?_)
              replace hl := hl2; clear hl2
              refine lv_goto (tgt := 71) hx hb dX1_expand_173 (by decide) ?_
              exact ih_71 (t + 1) (upd S2 t (sch T a t)) _ _ _ (by omega) (by omega) (upd_ext hS2) hP hD hS (lv_sub hl [5, 6, 0] rfl)
        exact L_71 ((65 - 16) + 1) 16 S1 _ _ _ (Nat.lt_succ_self _) (by omega) hS1 hP hD hS (lv_sub hl [1, 2, 0] rfl)
      · skip
        refine lv_iload_n hx hb dX1_expand_8 rfl (lv_at hl 1 rfl) ?_
        refine lv_iconst (v := nI 4) hx hb dX1_expand_9 (by decide) ?_
        refine lv_iload_n hx hb dX1_expand_10 rfl (lv_at hl 2 rfl) ?_
        refine lv_imul hx hb dX1_expand_11 ?_
        refine f_top (y := nI (4 * t)) (pk_mul _ _) ?_
        refine lv_iadd hx hb dX1_expand_12 ?_
        refine f_top (y := nI (a + (4 * t))) (nI_add _ _) ?_
        refine lv_istore_n (lv' := [(3, .int (nI (a + (4 * t)))), (0, .ref h), (1, .int (nI a)), (2, .int (nI t))]) hx hb dX1_expand_13 rfl hl (by decide) rfl (fun ls hl2 => ?_)
        replace hl := hl2; clear hl2
        refine lv_aload_n hx hb dX1_expand_14 rfl (lv_at hl 1 rfl) ?_
        refine va_get (D := G.1) (ci := 1) (v := .ref sc) (C := RX1) (T := TX1) (N := 4) hx hb hts in_wsX10 hown hK hP 0 rfl rfl 1 (by decide) (hts _ wm_45) (fun _ h9 => h9) rfl dX1_expand_15 ?_
        refine lv_iload_n hx hb dX1_expand_18 rfl (lv_at hl 3 rfl) ?_
        refine lv_aload_n hx hb dX1_expand_19 rfl (lv_at hl 1 rfl) ?_
        refine va_get (D := G.1) (ci := 1) (v := .ref tx1) (C := RX1) (T := TX1) (N := 4) hx hb hts in_wsX10 hown hK hP 0 rfl rfl 0 (by decide) (hts _ wm_44) (fun _ h9 => h9) rfl dX1_expand_20 ?_
        refine lv_iload_n hx hb dX1_expand_23 rfl (lv_at hl 0 rfl) ?_
        refine f_iald (v := bI (T (a + (4 * t)))) hx hb hK hP 1 rfl (by omega) (by decide) rfl dX1_expand_24 ?_
        refine lv_bipush (v := nI 24) hx hb dX1_expand_25 (by decide) ?_
        refine lv_ishl hx hb dX1_expand_27 ?_
        refine lv_aload_n hx hb dX1_expand_28 rfl (lv_at hl 1 rfl) ?_
        refine va_get (D := G.1) (ci := 1) (v := .ref tx1) (C := RX1) (T := TX1) (N := 4) hx hb hts in_wsX10 hown hK hP 0 rfl rfl 0 (by decide) (hts _ wm_44) (fun _ h9 => h9) rfl dX1_expand_29 ?_
        refine lv_iload_n hx hb dX1_expand_32 rfl (lv_at hl 0 rfl) ?_
        refine lv_iconst (v := nI 1) hx hb dX1_expand_33 (by decide) ?_
        refine lv_iadd hx hb dX1_expand_34 ?_
        refine f_top (y := nI (a + (4 * t) + 1)) (nI_add _ _) ?_
        refine f_iald (v := bI (T (a + (4 * t) + 1))) hx hb hK hP 1 rfl (by omega) (by decide) rfl dX1_expand_35 ?_
        refine lv_bipush (v := nI 16) hx hb dX1_expand_36 (by decide) ?_
        refine lv_ishl hx hb dX1_expand_38 ?_
        refine lv_ior hx hb dX1_expand_39 ?_
        refine lv_aload_n hx hb dX1_expand_40 rfl (lv_at hl 1 rfl) ?_
        refine va_get (D := G.1) (ci := 1) (v := .ref tx1) (C := RX1) (T := TX1) (N := 4) hx hb hts in_wsX10 hown hK hP 0 rfl rfl 0 (by decide) (hts _ wm_44) (fun _ h9 => h9) rfl dX1_expand_41 ?_
        refine lv_iload_n hx hb dX1_expand_44 rfl (lv_at hl 0 rfl) ?_
        refine lv_iconst (v := nI 2) hx hb dX1_expand_45 (by decide) ?_
        refine lv_iadd hx hb dX1_expand_46 ?_
        refine f_top (y := nI (a + (4 * t) + 2)) (nI_add _ _) ?_
        refine f_iald (v := bI (T (a + (4 * t) + 2))) hx hb hK hP 1 rfl (by omega) (by decide) rfl dX1_expand_47 ?_
        refine lv_bipush (v := nI 8) hx hb dX1_expand_48 (by decide) ?_
        refine lv_ishl hx hb dX1_expand_50 ?_
        refine lv_ior hx hb dX1_expand_51 ?_
        refine lv_aload_n hx hb dX1_expand_52 rfl (lv_at hl 1 rfl) ?_
        refine va_get (D := G.1) (ci := 1) (v := .ref tx1) (C := RX1) (T := TX1) (N := 4) hx hb hts in_wsX10 hown hK hP 0 rfl rfl 0 (by decide) (hts _ wm_44) (fun _ h9 => h9) rfl dX1_expand_53 ?_
        refine lv_iload_n hx hb dX1_expand_56 rfl (lv_at hl 0 rfl) ?_
        refine lv_iconst (v := nI 3) hx hb dX1_expand_57 (by decide) ?_
        refine lv_iadd hx hb dX1_expand_58 ?_
        refine f_top (y := nI (a + (4 * t) + 3)) (nI_add _ _) ?_
        refine f_iald (v := bI (T (a + (4 * t) + 3))) hx hb hK hP 1 rfl (by omega) (by decide) rfl dX1_expand_59 ?_
        refine lv_ior hx hb dX1_expand_60 ?_
        refine f_top (y := sch T a t) (sch_lo (by omega)).symm ?_
        refine f_iast hx hb hK hP hD hS 2 rfl (by omega) (by decide) dX1_expand_61 (fun H_61 locs_61 hP_61 hD_61 hS_61 => ?_)
        replace hP : va_P G.1 vwCl [(h, .inr (1, [.ref tx1, .ref sc, .ref st, .int (nI n)])), (tx1, .inl (G.2.1, 128, .inl (nb T))), (sc, .inl (G.2.1, 64, .inl (upd S1 t (sch T a t)))), (st, .inl (G.2.1, 8, .inl v))] H_61 := hP_61
        replace hD : va_D A [(h, .inr (1, [.ref tx1, .ref sc, .ref st, .int (nI n)])), (tx1, .inl (G.2.1, 128, .inl (nb T))), (sc, .inl (G.2.1, 64, .inl (upd S1 t (sch T a t)))), (st, .inl (G.2.1, 8, .inl v))] := hD_61
        replace hS : va_S A sv.heap H_61 locs_61 := hS_61
        clear hP_61 hD_61 hS_61
        refine lv_iinc (v := nI (t + 1)) (lv' := [(2, .int (nI (t + 1))), (3, .int (nI (a + (4 * t)))), (0, .ref h), (1, .int (nI a))]) hx hb dX1_expand_62 hl (k := 3) rfl (f_inc1 _) (by decide) rfl (fun ls hl2 => ?_)
        replace hl := hl2; clear hl2
        refine lv_goto (tgt := 2) hx hb dX1_expand_65 (by decide) ?_
        exact ih_2 (t + 1) (upd S1 t (sch T a t)) _ _ _ (by omega) (by omega) (upd_ext hS1) hP hD hS (lv_sub hl [2, 3, 0] rfl)
  exact L_2 ((17 - 0) + 1) 0 S _ _ _ (Nat.lt_succ_self _) (by omega) ext_0 hP hD hS (lv_sub hl [1, 2, 0] rfl)

set_option maxRecDepth 100000 in
set_option maxHeartbeats 4000000 in
theorem kX1_compress (l : Launch) (G : fG) (h : Nat) (tx1 : Nat) (sc : Nat) (st : Nat) (T : Nat → UInt8) (n : Nat) (S : Nat → Int32) (v : Nat → Int32)  : fMV l yX1_compress (.code yX1_compress cX1_compress 14 none :: wsA) ({ frames := 1, cells := 0, slots := 0, locals := 21 } : Room) G [.ref h] [(h, .inr (1, [.ref tx1, .ref sc, .ref st, .int (nI n)])), (tx1, .inl (G.2.1, 128, .inl (nb T))), (sc, .inl (G.2.1, 64, .inl S)), (st, .inl (G.2.1, 8, .inl v))] (fun (u : Unit) => True) (fun (u : Unit) => [(h, .inr (1, [.ref tx1, .ref sc, .ref st, .int (nI n)])), (tx1, .inl (G.2.1, 128, .inl (nb T))), (sc, .inl (G.2.1, 64, .inl S)), (st, .inl (G.2.1, 8, .inl (bkv S v)))]) 0 0 := by
  refine fV_start (cc := cX1_compress) (maxL := 14) (by decide) rfl (Nat.le_of_ble_eq_true rfl) ?_
  intro prg env sv mid args below meth cd A Q ls hx hb hml hown hts hin hK hP hD hE hA hS hl hend
  replace hown : sv.vm.findClass RX1 = some mid.cls := hown
  replace hP : va_P G.1 vwCl [(h, .inr (1, [.ref tx1, .ref sc, .ref st, .int (nI n)])), (tx1, .inl (G.2.1, 128, .inl (nb T))), (sc, .inl (G.2.1, 64, .inl S)), (st, .inl (G.2.1, 8, .inl v))] sv.heap := hP
  replace hl : lv_has ls 14 [(0, .ref h)] := hl
  refine lv_aload_n hx hb dX1_compress_0 rfl (lv_at hl 0 rfl) ?_
  refine va_get (D := G.1) (ci := 1) (v := .ref st) (C := RX1) (T := TX1) (N := 4) hx hb hts in_wsX10 hown hK hP 0 rfl rfl 2 (by decide) (hts _ wm_46) (fun _ h9 => h9) rfl dX1_compress_1 ?_
  refine lv_iconst (v := nI 0) hx hb dX1_compress_4 (by decide) ?_
  refine f_iald (v := v 0) hx hb hK hP 3 rfl (by omega) (by decide) rfl dX1_compress_5 ?_
  refine lv_istore_n (lv' := [(1, .int (v 0)), (0, .ref h)]) hx hb dX1_compress_6 rfl hl (by decide) rfl (fun ls hl2 => ?_)
  replace hl := hl2; clear hl2
  refine lv_aload_n hx hb dX1_compress_7 rfl (lv_at hl 1 rfl) ?_
  refine va_get (D := G.1) (ci := 1) (v := .ref st) (C := RX1) (T := TX1) (N := 4) hx hb hts in_wsX10 hown hK hP 0 rfl rfl 2 (by decide) (hts _ wm_46) (fun _ h9 => h9) rfl dX1_compress_8 ?_
  refine lv_iconst (v := nI 1) hx hb dX1_compress_11 (by decide) ?_
  refine f_iald (v := v 1) hx hb hK hP 3 rfl (by omega) (by decide) rfl dX1_compress_12 ?_
  refine lv_istore_n (lv' := [(2, .int (v 1)), (1, .int (v 0)), (0, .ref h)]) hx hb dX1_compress_13 rfl hl (by decide) rfl (fun ls hl2 => ?_)
  replace hl := hl2; clear hl2
  refine lv_aload_n hx hb dX1_compress_14 rfl (lv_at hl 2 rfl) ?_
  refine va_get (D := G.1) (ci := 1) (v := .ref st) (C := RX1) (T := TX1) (N := 4) hx hb hts in_wsX10 hown hK hP 0 rfl rfl 2 (by decide) (hts _ wm_46) (fun _ h9 => h9) rfl dX1_compress_15 ?_
  refine lv_iconst (v := nI 2) hx hb dX1_compress_18 (by decide) ?_
  refine f_iald (v := v 2) hx hb hK hP 3 rfl (by omega) (by decide) rfl dX1_compress_19 ?_
  refine lv_istore_n (lv' := [(3, .int (v 2)), (2, .int (v 1)), (1, .int (v 0)), (0, .ref h)]) hx hb dX1_compress_20 rfl hl (by decide) rfl (fun ls hl2 => ?_)
  replace hl := hl2; clear hl2
  refine lv_aload_n hx hb dX1_compress_21 rfl (lv_at hl 3 rfl) ?_
  refine va_get (D := G.1) (ci := 1) (v := .ref st) (C := RX1) (T := TX1) (N := 4) hx hb hts in_wsX10 hown hK hP 0 rfl rfl 2 (by decide) (hts _ wm_46) (fun _ h9 => h9) rfl dX1_compress_22 ?_
  refine lv_iconst (v := nI 3) hx hb dX1_compress_25 (by decide) ?_
  refine f_iald (v := v 3) hx hb hK hP 3 rfl (by omega) (by decide) rfl dX1_compress_26 ?_
  refine lv_istore (lv' := [(4, .int (v 3)), (3, .int (v 2)), (2, .int (v 1)), (1, .int (v 0)), (0, .ref h)]) hx hb dX1_compress_27 hl (by decide) rfl (fun ls hl2 => ?_)
  replace hl := hl2; clear hl2
  refine lv_aload_n hx hb dX1_compress_29 rfl (lv_at hl 4 rfl) ?_
  refine va_get (D := G.1) (ci := 1) (v := .ref st) (C := RX1) (T := TX1) (N := 4) hx hb hts in_wsX10 hown hK hP 0 rfl rfl 2 (by decide) (hts _ wm_46) (fun _ h9 => h9) rfl dX1_compress_30 ?_
  refine lv_iconst (v := nI 4) hx hb dX1_compress_33 (by decide) ?_
  refine f_iald (v := v 4) hx hb hK hP 3 rfl (by omega) (by decide) rfl dX1_compress_34 ?_
  refine lv_istore (lv' := [(5, .int (v 4)), (4, .int (v 3)), (3, .int (v 2)), (2, .int (v 1)), (1, .int (v 0)), (0, .ref h)]) hx hb dX1_compress_35 hl (by decide) rfl (fun ls hl2 => ?_)
  replace hl := hl2; clear hl2
  refine lv_aload_n hx hb dX1_compress_37 rfl (lv_at hl 5 rfl) ?_
  refine va_get (D := G.1) (ci := 1) (v := .ref st) (C := RX1) (T := TX1) (N := 4) hx hb hts in_wsX10 hown hK hP 0 rfl rfl 2 (by decide) (hts _ wm_46) (fun _ h9 => h9) rfl dX1_compress_38 ?_
  refine lv_iconst (v := nI 5) hx hb dX1_compress_41 (by decide) ?_
  refine f_iald (v := v 5) hx hb hK hP 3 rfl (by omega) (by decide) rfl dX1_compress_42 ?_
  refine lv_istore (lv' := [(6, .int (v 5)), (5, .int (v 4)), (4, .int (v 3)), (3, .int (v 2)), (2, .int (v 1)), (1, .int (v 0)), (0, .ref h)]) hx hb dX1_compress_43 hl (by decide) rfl (fun ls hl2 => ?_)
  replace hl := hl2; clear hl2
  refine lv_aload_n hx hb dX1_compress_45 rfl (lv_at hl 6 rfl) ?_
  refine va_get (D := G.1) (ci := 1) (v := .ref st) (C := RX1) (T := TX1) (N := 4) hx hb hts in_wsX10 hown hK hP 0 rfl rfl 2 (by decide) (hts _ wm_46) (fun _ h9 => h9) rfl dX1_compress_46 ?_
  refine lv_bipush (v := nI 6) hx hb dX1_compress_49 (by decide) ?_
  refine f_iald (v := v 6) hx hb hK hP 3 rfl (by omega) (by decide) rfl dX1_compress_51 ?_
  refine lv_istore (lv' := [(7, .int (v 6)), (6, .int (v 5)), (5, .int (v 4)), (4, .int (v 3)), (3, .int (v 2)), (2, .int (v 1)), (1, .int (v 0)), (0, .ref h)]) hx hb dX1_compress_52 hl (by decide) rfl (fun ls hl2 => ?_)
  replace hl := hl2; clear hl2
  refine lv_aload_n hx hb dX1_compress_54 rfl (lv_at hl 7 rfl) ?_
  refine va_get (D := G.1) (ci := 1) (v := .ref st) (C := RX1) (T := TX1) (N := 4) hx hb hts in_wsX10 hown hK hP 0 rfl rfl 2 (by decide) (hts _ wm_46) (fun _ h9 => h9) rfl dX1_compress_55 ?_
  refine lv_bipush (v := nI 7) hx hb dX1_compress_58 (by decide) ?_
  refine f_iald (v := v 7) hx hb hK hP 3 rfl (by omega) (by decide) rfl dX1_compress_60 ?_
  refine lv_istore (lv' := [(8, .int (v 7)), (7, .int (v 6)), (6, .int (v 5)), (5, .int (v 4)), (4, .int (v 3)), (3, .int (v 2)), (2, .int (v 1)), (1, .int (v 0)), (0, .ref h)]) hx hb dX1_compress_61 hl (by decide) rfl (fun ls hl2 => ?_)
  replace hl := hl2; clear hl2
  refine lv_iconst (v := nI 0) hx hb dX1_compress_63 (by decide) ?_
  refine lv_istore (lv' := [(9, .int (nI 0)), (8, .int (v 7)), (7, .int (v 6)), (6, .int (v 5)), (5, .int (v 4)), (4, .int (v 3)), (3, .int (v 2)), (2, .int (v 1)), (1, .int (v 0)), (0, .ref h)]) hx hb dX1_compress_64 hl (by decide) rfl (fun ls hl2 => ?_)
  replace hl := hl2; clear hl2
  have L_66 : ∀ (n9 : Nat) (t : Nat) (H : Heap) (locs : List Loc) (ls : Array Slot), (65 - t) < n9 → (t ≤ 64) → va_P G.1 vwCl [(h, .inr (1, [.ref tx1, .ref sc, .ref st, .int (nI n)])), (tx1, .inl (G.2.1, 128, .inl (nb T))), (sc, .inl (G.2.1, 64, .inl S)), (st, .inl (G.2.1, 8, .inl v))] H → va_D A [(h, .inr (1, [.ref tx1, .ref sc, .ref st, .int (nI n)])), (tx1, .inl (G.2.1, 128, .inl (nb T))), (sc, .inl (G.2.1, 64, .inl S)), (st, .inl (G.2.1, 8, .inl v))] → va_S A sv.heap H locs → lv_has ls 14 [(0, .ref h), (1, .int (rs S v t 0)), (2, .int (rs S v t 1)), (3, .int (rs S v t 2)), (4, .int (rs S v t 3)), (5, .int (rs S v t 4)), (6, .int (rs S v t 5)), (7, .int (rs S v t 6)), (8, .int (rs S v t 7)), (9, .int (nI t))] → W prg l env ({ frames := 1, cells := 0, slots := 0, locals := 21 } : Room) sv mid args below meth cd H locs 0 0 Q (F0 mid 66 ls []) := by
    intro n9
    induction n9 with
    | zero => intro t H locs ls hmu; exact absurd hmu (Nat.not_lt_zero _)
    | succ n9 ih_66 =>
      intro t H locs ls hmu_66 ht hP hD hS hl
      refine lv_iload hx hb dX1_compress_66 (lv_at hl 9 rfl) ?_
      refine lv_bipush (v := nI 64) hx hb dX1_compress_68 (by decide) ?_
      refine f_icmp_ge (tgt := 209) (by omega) (by omega) hx hb dX1_compress_70 (by decide) (fun c_70 => ?_) (fun c_70 => ?_)
      · skip
        obtain rfl : t = 64 := by omega
        refine lv_aload_n hx hb dX1_compress_209 rfl (lv_at hl 0 rfl) ?_
        refine va_get (D := G.1) (ci := 1) (v := .ref st) (C := RX1) (T := TX1) (N := 4) hx hb hts in_wsX10 hown hK hP 0 rfl rfl 2 (by decide) (hts _ wm_46) (fun _ h9 => h9) rfl dX1_compress_210 ?_
        refine lv_iconst (v := nI 0) hx hb dX1_compress_213 (by decide) ?_
        refine lv_dup2_11 hx hb dX1_compress_214 rfl rfl ?_
        refine f_iald (v := v 0) hx hb hK hP 3 rfl (by omega) (by decide) rfl dX1_compress_215 ?_
        refine lv_iload_n hx hb dX1_compress_216 rfl (lv_at hl 1 rfl) ?_
        refine lv_iadd hx hb dX1_compress_217 ?_
        refine f_iast hx hb hK hP hD hS 3 rfl (by omega) (by decide) dX1_compress_218 (fun H_218 locs_218 hP_218 hD_218 hS_218 => ?_)
        replace hP : va_P G.1 vwCl [(h, .inr (1, [.ref tx1, .ref sc, .ref st, .int (nI n)])), (tx1, .inl (G.2.1, 128, .inl (nb T))), (sc, .inl (G.2.1, 64, .inl S)), (st, .inl (G.2.1, 8, .inl (upd v 0 ((v 0) + (rs S v 64 0)))))] H_218 := hP_218
        replace hD : va_D A [(h, .inr (1, [.ref tx1, .ref sc, .ref st, .int (nI n)])), (tx1, .inl (G.2.1, 128, .inl (nb T))), (sc, .inl (G.2.1, 64, .inl S)), (st, .inl (G.2.1, 8, .inl (upd v 0 ((v 0) + (rs S v 64 0)))))] := hD_218
        replace hS : va_S A sv.heap H_218 locs_218 := hS_218
        clear hP_218 hD_218 hS_218
        refine lv_aload_n hx hb dX1_compress_219 rfl (lv_at hl 0 rfl) ?_
        refine va_get (D := G.1) (ci := 1) (v := .ref st) (C := RX1) (T := TX1) (N := 4) hx hb hts in_wsX10 hown hK hP 0 rfl rfl 2 (by decide) (hts _ wm_46) (fun _ h9 => h9) rfl dX1_compress_220 ?_
        refine lv_iconst (v := nI 1) hx hb dX1_compress_223 (by decide) ?_
        refine lv_dup2_11 hx hb dX1_compress_224 rfl rfl ?_
        refine f_iald (v := v 1) hx hb hK hP 3 rfl (by omega) (by decide) rfl dX1_compress_225 ?_
        refine lv_iload_n hx hb dX1_compress_226 rfl (lv_at hl 2 rfl) ?_
        refine lv_iadd hx hb dX1_compress_227 ?_
        refine f_iast hx hb hK hP hD hS 3 rfl (by omega) (by decide) dX1_compress_228 (fun H_228 locs_228 hP_228 hD_228 hS_228 => ?_)
        replace hP : va_P G.1 vwCl [(h, .inr (1, [.ref tx1, .ref sc, .ref st, .int (nI n)])), (tx1, .inl (G.2.1, 128, .inl (nb T))), (sc, .inl (G.2.1, 64, .inl S)), (st, .inl (G.2.1, 8, .inl (upd (upd v 0 ((v 0) + (rs S v 64 0))) 1 ((v 1) + (rs S v 64 1)))))] H_228 := hP_228
        replace hD : va_D A [(h, .inr (1, [.ref tx1, .ref sc, .ref st, .int (nI n)])), (tx1, .inl (G.2.1, 128, .inl (nb T))), (sc, .inl (G.2.1, 64, .inl S)), (st, .inl (G.2.1, 8, .inl (upd (upd v 0 ((v 0) + (rs S v 64 0))) 1 ((v 1) + (rs S v 64 1)))))] := hD_228
        replace hS : va_S A sv.heap H_228 locs_228 := hS_228
        clear hP_228 hD_228 hS_228
        refine lv_aload_n hx hb dX1_compress_229 rfl (lv_at hl 0 rfl) ?_
        refine va_get (D := G.1) (ci := 1) (v := .ref st) (C := RX1) (T := TX1) (N := 4) hx hb hts in_wsX10 hown hK hP 0 rfl rfl 2 (by decide) (hts _ wm_46) (fun _ h9 => h9) rfl dX1_compress_230 ?_
        refine lv_iconst (v := nI 2) hx hb dX1_compress_233 (by decide) ?_
        refine lv_dup2_11 hx hb dX1_compress_234 rfl rfl ?_
        refine f_iald (v := v 2) hx hb hK hP 3 rfl (by omega) (by decide) rfl dX1_compress_235 ?_
        refine lv_iload_n hx hb dX1_compress_236 rfl (lv_at hl 3 rfl) ?_
        refine lv_iadd hx hb dX1_compress_237 ?_
        refine f_iast hx hb hK hP hD hS 3 rfl (by omega) (by decide) dX1_compress_238 (fun H_238 locs_238 hP_238 hD_238 hS_238 => ?_)
        replace hP : va_P G.1 vwCl [(h, .inr (1, [.ref tx1, .ref sc, .ref st, .int (nI n)])), (tx1, .inl (G.2.1, 128, .inl (nb T))), (sc, .inl (G.2.1, 64, .inl S)), (st, .inl (G.2.1, 8, .inl (upd (upd (upd v 0 ((v 0) + (rs S v 64 0))) 1 ((v 1) + (rs S v 64 1))) 2 ((v 2) + (rs S v 64 2)))))] H_238 := hP_238
        replace hD : va_D A [(h, .inr (1, [.ref tx1, .ref sc, .ref st, .int (nI n)])), (tx1, .inl (G.2.1, 128, .inl (nb T))), (sc, .inl (G.2.1, 64, .inl S)), (st, .inl (G.2.1, 8, .inl (upd (upd (upd v 0 ((v 0) + (rs S v 64 0))) 1 ((v 1) + (rs S v 64 1))) 2 ((v 2) + (rs S v 64 2)))))] := hD_238
        replace hS : va_S A sv.heap H_238 locs_238 := hS_238
        clear hP_238 hD_238 hS_238
        refine lv_aload_n hx hb dX1_compress_239 rfl (lv_at hl 0 rfl) ?_
        refine va_get (D := G.1) (ci := 1) (v := .ref st) (C := RX1) (T := TX1) (N := 4) hx hb hts in_wsX10 hown hK hP 0 rfl rfl 2 (by decide) (hts _ wm_46) (fun _ h9 => h9) rfl dX1_compress_240 ?_
        refine lv_iconst (v := nI 3) hx hb dX1_compress_243 (by decide) ?_
        refine lv_dup2_11 hx hb dX1_compress_244 rfl rfl ?_
        refine f_iald (v := v 3) hx hb hK hP 3 rfl (by omega) (by decide) rfl dX1_compress_245 ?_
        refine lv_iload hx hb dX1_compress_246 (lv_at hl 4 rfl) ?_
        refine lv_iadd hx hb dX1_compress_248 ?_
        refine f_iast hx hb hK hP hD hS 3 rfl (by omega) (by decide) dX1_compress_249 (fun H_249 locs_249 hP_249 hD_249 hS_249 => ?_)
        replace hP : va_P G.1 vwCl [(h, .inr (1, [.ref tx1, .ref sc, .ref st, .int (nI n)])), (tx1, .inl (G.2.1, 128, .inl (nb T))), (sc, .inl (G.2.1, 64, .inl S)), (st, .inl (G.2.1, 8, .inl (upd (upd (upd (upd v 0 ((v 0) + (rs S v 64 0))) 1 ((v 1) + (rs S v 64 1))) 2 ((v 2) + (rs S v 64 2))) 3 ((v 3) + (rs S v 64 3)))))] H_249 := hP_249
        replace hD : va_D A [(h, .inr (1, [.ref tx1, .ref sc, .ref st, .int (nI n)])), (tx1, .inl (G.2.1, 128, .inl (nb T))), (sc, .inl (G.2.1, 64, .inl S)), (st, .inl (G.2.1, 8, .inl (upd (upd (upd (upd v 0 ((v 0) + (rs S v 64 0))) 1 ((v 1) + (rs S v 64 1))) 2 ((v 2) + (rs S v 64 2))) 3 ((v 3) + (rs S v 64 3)))))] := hD_249
        replace hS : va_S A sv.heap H_249 locs_249 := hS_249
        clear hP_249 hD_249 hS_249
        refine lv_aload_n hx hb dX1_compress_250 rfl (lv_at hl 0 rfl) ?_
        refine va_get (D := G.1) (ci := 1) (v := .ref st) (C := RX1) (T := TX1) (N := 4) hx hb hts in_wsX10 hown hK hP 0 rfl rfl 2 (by decide) (hts _ wm_46) (fun _ h9 => h9) rfl dX1_compress_251 ?_
        refine lv_iconst (v := nI 4) hx hb dX1_compress_254 (by decide) ?_
        refine lv_dup2_11 hx hb dX1_compress_255 rfl rfl ?_
        refine f_iald (v := v 4) hx hb hK hP 3 rfl (by omega) (by decide) rfl dX1_compress_256 ?_
        refine lv_iload hx hb dX1_compress_257 (lv_at hl 5 rfl) ?_
        refine lv_iadd hx hb dX1_compress_259 ?_
        refine f_iast hx hb hK hP hD hS 3 rfl (by omega) (by decide) dX1_compress_260 (fun H_260 locs_260 hP_260 hD_260 hS_260 => ?_)
        replace hP : va_P G.1 vwCl [(h, .inr (1, [.ref tx1, .ref sc, .ref st, .int (nI n)])), (tx1, .inl (G.2.1, 128, .inl (nb T))), (sc, .inl (G.2.1, 64, .inl S)), (st, .inl (G.2.1, 8, .inl (upd (upd (upd (upd (upd v 0 ((v 0) + (rs S v 64 0))) 1 ((v 1) + (rs S v 64 1))) 2 ((v 2) + (rs S v 64 2))) 3 ((v 3) + (rs S v 64 3))) 4 ((v 4) + (rs S v 64 4)))))] H_260 := hP_260
        replace hD : va_D A [(h, .inr (1, [.ref tx1, .ref sc, .ref st, .int (nI n)])), (tx1, .inl (G.2.1, 128, .inl (nb T))), (sc, .inl (G.2.1, 64, .inl S)), (st, .inl (G.2.1, 8, .inl (upd (upd (upd (upd (upd v 0 ((v 0) + (rs S v 64 0))) 1 ((v 1) + (rs S v 64 1))) 2 ((v 2) + (rs S v 64 2))) 3 ((v 3) + (rs S v 64 3))) 4 ((v 4) + (rs S v 64 4)))))] := hD_260
        replace hS : va_S A sv.heap H_260 locs_260 := hS_260
        clear hP_260 hD_260 hS_260
        refine lv_aload_n hx hb dX1_compress_261 rfl (lv_at hl 0 rfl) ?_
        refine va_get (D := G.1) (ci := 1) (v := .ref st) (C := RX1) (T := TX1) (N := 4) hx hb hts in_wsX10 hown hK hP 0 rfl rfl 2 (by decide) (hts _ wm_46) (fun _ h9 => h9) rfl dX1_compress_262 ?_
        refine lv_iconst (v := nI 5) hx hb dX1_compress_265 (by decide) ?_
        refine lv_dup2_11 hx hb dX1_compress_266 rfl rfl ?_
        refine f_iald (v := v 5) hx hb hK hP 3 rfl (by omega) (by decide) rfl dX1_compress_267 ?_
        refine lv_iload hx hb dX1_compress_268 (lv_at hl 6 rfl) ?_
        refine lv_iadd hx hb dX1_compress_270 ?_
        refine f_iast hx hb hK hP hD hS 3 rfl (by omega) (by decide) dX1_compress_271 (fun H_271 locs_271 hP_271 hD_271 hS_271 => ?_)
        replace hP : va_P G.1 vwCl [(h, .inr (1, [.ref tx1, .ref sc, .ref st, .int (nI n)])), (tx1, .inl (G.2.1, 128, .inl (nb T))), (sc, .inl (G.2.1, 64, .inl S)), (st, .inl (G.2.1, 8, .inl (upd (upd (upd (upd (upd (upd v 0 ((v 0) + (rs S v 64 0))) 1 ((v 1) + (rs S v 64 1))) 2 ((v 2) + (rs S v 64 2))) 3 ((v 3) + (rs S v 64 3))) 4 ((v 4) + (rs S v 64 4))) 5 ((v 5) + (rs S v 64 5)))))] H_271 := hP_271
        replace hD : va_D A [(h, .inr (1, [.ref tx1, .ref sc, .ref st, .int (nI n)])), (tx1, .inl (G.2.1, 128, .inl (nb T))), (sc, .inl (G.2.1, 64, .inl S)), (st, .inl (G.2.1, 8, .inl (upd (upd (upd (upd (upd (upd v 0 ((v 0) + (rs S v 64 0))) 1 ((v 1) + (rs S v 64 1))) 2 ((v 2) + (rs S v 64 2))) 3 ((v 3) + (rs S v 64 3))) 4 ((v 4) + (rs S v 64 4))) 5 ((v 5) + (rs S v 64 5)))))] := hD_271
        replace hS : va_S A sv.heap H_271 locs_271 := hS_271
        clear hP_271 hD_271 hS_271
        refine lv_aload_n hx hb dX1_compress_272 rfl (lv_at hl 0 rfl) ?_
        refine va_get (D := G.1) (ci := 1) (v := .ref st) (C := RX1) (T := TX1) (N := 4) hx hb hts in_wsX10 hown hK hP 0 rfl rfl 2 (by decide) (hts _ wm_46) (fun _ h9 => h9) rfl dX1_compress_273 ?_
        refine lv_bipush (v := nI 6) hx hb dX1_compress_276 (by decide) ?_
        refine lv_dup2_11 hx hb dX1_compress_278 rfl rfl ?_
        refine f_iald (v := v 6) hx hb hK hP 3 rfl (by omega) (by decide) rfl dX1_compress_279 ?_
        refine lv_iload hx hb dX1_compress_280 (lv_at hl 7 rfl) ?_
        refine lv_iadd hx hb dX1_compress_282 ?_
        refine f_iast hx hb hK hP hD hS 3 rfl (by omega) (by decide) dX1_compress_283 (fun H_283 locs_283 hP_283 hD_283 hS_283 => ?_)
        replace hP : va_P G.1 vwCl [(h, .inr (1, [.ref tx1, .ref sc, .ref st, .int (nI n)])), (tx1, .inl (G.2.1, 128, .inl (nb T))), (sc, .inl (G.2.1, 64, .inl S)), (st, .inl (G.2.1, 8, .inl (upd (upd (upd (upd (upd (upd (upd v 0 ((v 0) + (rs S v 64 0))) 1 ((v 1) + (rs S v 64 1))) 2 ((v 2) + (rs S v 64 2))) 3 ((v 3) + (rs S v 64 3))) 4 ((v 4) + (rs S v 64 4))) 5 ((v 5) + (rs S v 64 5))) 6 ((v 6) + (rs S v 64 6)))))] H_283 := hP_283
        replace hD : va_D A [(h, .inr (1, [.ref tx1, .ref sc, .ref st, .int (nI n)])), (tx1, .inl (G.2.1, 128, .inl (nb T))), (sc, .inl (G.2.1, 64, .inl S)), (st, .inl (G.2.1, 8, .inl (upd (upd (upd (upd (upd (upd (upd v 0 ((v 0) + (rs S v 64 0))) 1 ((v 1) + (rs S v 64 1))) 2 ((v 2) + (rs S v 64 2))) 3 ((v 3) + (rs S v 64 3))) 4 ((v 4) + (rs S v 64 4))) 5 ((v 5) + (rs S v 64 5))) 6 ((v 6) + (rs S v 64 6)))))] := hD_283
        replace hS : va_S A sv.heap H_283 locs_283 := hS_283
        clear hP_283 hD_283 hS_283
        refine lv_aload_n hx hb dX1_compress_284 rfl (lv_at hl 0 rfl) ?_
        refine va_get (D := G.1) (ci := 1) (v := .ref st) (C := RX1) (T := TX1) (N := 4) hx hb hts in_wsX10 hown hK hP 0 rfl rfl 2 (by decide) (hts _ wm_46) (fun _ h9 => h9) rfl dX1_compress_285 ?_
        refine lv_bipush (v := nI 7) hx hb dX1_compress_288 (by decide) ?_
        refine lv_dup2_11 hx hb dX1_compress_290 rfl rfl ?_
        refine f_iald (v := v 7) hx hb hK hP 3 rfl (by omega) (by decide) rfl dX1_compress_291 ?_
        refine lv_iload hx hb dX1_compress_292 (lv_at hl 8 rfl) ?_
        refine lv_iadd hx hb dX1_compress_294 ?_
        refine f_iast hx hb hK hP hD hS 3 rfl (by omega) (by decide) dX1_compress_295 (fun H_295 locs_295 hP_295 hD_295 hS_295 => ?_)
        replace hP : va_P G.1 vwCl [(h, .inr (1, [.ref tx1, .ref sc, .ref st, .int (nI n)])), (tx1, .inl (G.2.1, 128, .inl (nb T))), (sc, .inl (G.2.1, 64, .inl S)), (st, .inl (G.2.1, 8, .inl (upd (upd (upd (upd (upd (upd (upd (upd v 0 ((v 0) + (rs S v 64 0))) 1 ((v 1) + (rs S v 64 1))) 2 ((v 2) + (rs S v 64 2))) 3 ((v 3) + (rs S v 64 3))) 4 ((v 4) + (rs S v 64 4))) 5 ((v 5) + (rs S v 64 5))) 6 ((v 6) + (rs S v 64 6))) 7 ((v 7) + (rs S v 64 7)))))] H_295 := hP_295
        replace hD : va_D A [(h, .inr (1, [.ref tx1, .ref sc, .ref st, .int (nI n)])), (tx1, .inl (G.2.1, 128, .inl (nb T))), (sc, .inl (G.2.1, 64, .inl S)), (st, .inl (G.2.1, 8, .inl (upd (upd (upd (upd (upd (upd (upd (upd v 0 ((v 0) + (rs S v 64 0))) 1 ((v 1) + (rs S v 64 1))) 2 ((v 2) + (rs S v 64 2))) 3 ((v 3) + (rs S v 64 3))) 4 ((v 4) + (rs S v 64 4))) 5 ((v 5) + (rs S v 64 5))) 6 ((v 6) + (rs S v 64 6))) 7 ((v 7) + (rs S v 64 7)))))] := hD_295
        replace hS : va_S A sv.heap H_295 locs_295 := hS_295
        clear hP_295 hD_295 hS_295
        replace hP : va_P G.1 vwCl [(h, .inr (1, [.ref tx1, .ref sc, .ref st, .int (nI n)])), (tx1, .inl (G.2.1, 128, .inl (nb T))), (sc, .inl (G.2.1, 64, .inl S)), (st, .inl (G.2.1, 8, .inl (bkv S v)))] H_295 := f_row hP 3 rfl (bkv S v) (bkv8 rfl rfl rfl rfl rfl rfl rfl rfl)
        replace hD : va_D A [(h, .inr (1, [.ref tx1, .ref sc, .ref st, .int (nI n)])), (tx1, .inl (G.2.1, 128, .inl (nb T))), (sc, .inl (G.2.1, 64, .inl S)), (st, .inl (G.2.1, 8, .inl (bkv S v)))] := f_rowD hD 3 rfl
        exact hend () _ _ _ _ trivial hP hD hS dX1_compress_296
      · skip
        refine lv_iload hx hb dX1_compress_73 (lv_at hl 5 rfl) ?_
        refine lv_bipush (v := nI 6) hx hb dX1_compress_75 (by decide) ?_
        refine fcSI (As := [.int (rs S v t 4), .int (nI 6)]) (rest := []) (wr := [(h, .inr (1, [.ref tx1, .ref sc, .ref st, .int (nI n)])), (tx1, .inl (G.2.1, 128, .inl (nb T))), (sc, .inl (G.2.1, 64, .inl S)), (st, .inl (G.2.1, 8, .inl v))]) (ws1 := fun (u : Unit) => [(h, .inr (1, [.ref tx1, .ref sc, .ref st, .int (nI n)])), (tx1, .inl (G.2.1, 128, .inl (nb T))), (sc, .inl (G.2.1, 64, .inl S)), (st, .inl (G.2.1, 8, .inl v))]) ⟨hx, hb, hml, hown, hts⟩ hK hE hP hD hS hA hl.1 (kX1_turned l G (rs S v t 4) (nI 6) ) (va_cwS 2 hts (gdS wm_62 wm_63 wm_56 wm_60) rfl rfl rfl (by decide +kernel) ⟨Nat.le_of_ble_eq_true rfl, Nat.le_of_ble_eq_true rfl⟩) rfl rfl (Nat.le_of_ble_eq_true rfl) dX1_compress_77 ⟨Nat.le_of_ble_eq_true rfl, Nat.le_of_ble_eq_true rfl⟩ [] [0, 1, 2, 3] [0, 1, 2, 3] rfl rfl rfl rfl (by decide) rfl (fun _ => rfl) (fun r_77 u_77 H_77 locs_77 hw_77 hP_77 hD_77 hS_77 => ?_)
        obtain rfl := hw_77
        replace hP : va_P G.1 vwCl [(h, .inr (1, [.ref tx1, .ref sc, .ref st, .int (nI n)])), (tx1, .inl (G.2.1, 128, .inl (nb T))), (sc, .inl (G.2.1, 64, .inl S)), (st, .inl (G.2.1, 8, .inl v))] H_77 := hP_77
        replace hD : va_D A [(h, .inr (1, [.ref tx1, .ref sc, .ref st, .int (nI n)])), (tx1, .inl (G.2.1, 128, .inl (nb T))), (sc, .inl (G.2.1, 64, .inl S)), (st, .inl (G.2.1, 8, .inl v))] := hD_77
        replace hS : va_S A sv.heap H_77 locs_77 := hS_77
        clear hP_77 hD_77 hS_77
        refine lv_iload hx hb dX1_compress_80 (lv_at hl 5 rfl) ?_
        refine lv_bipush (v := nI 11) hx hb dX1_compress_82 (by decide) ?_
        refine fcSI (As := [.int (rs S v t 4), .int (nI 11)]) (rest := [.int (rotr (rs S v t 4) (nI 6))]) (wr := [(h, .inr (1, [.ref tx1, .ref sc, .ref st, .int (nI n)])), (tx1, .inl (G.2.1, 128, .inl (nb T))), (sc, .inl (G.2.1, 64, .inl S)), (st, .inl (G.2.1, 8, .inl v))]) (ws1 := fun (u : Unit) => [(h, .inr (1, [.ref tx1, .ref sc, .ref st, .int (nI n)])), (tx1, .inl (G.2.1, 128, .inl (nb T))), (sc, .inl (G.2.1, 64, .inl S)), (st, .inl (G.2.1, 8, .inl v))]) ⟨hx, hb, hml, hown, hts⟩ hK hE hP hD hS hA hl.1 (kX1_turned l G (rs S v t 4) (nI 11) ) (va_cwS 2 hts (gdS wm_62 wm_63 wm_56 wm_60) rfl rfl rfl (by decide +kernel) ⟨Nat.le_of_ble_eq_true rfl, Nat.le_of_ble_eq_true rfl⟩) rfl rfl (Nat.le_of_ble_eq_true rfl) dX1_compress_84 ⟨Nat.le_of_ble_eq_true rfl, Nat.le_of_ble_eq_true rfl⟩ [] [0, 1, 2, 3] [0, 1, 2, 3] rfl rfl rfl rfl (by decide) rfl (fun _ => rfl) (fun r_84 u_84 H_84 locs_84 hw_84 hP_84 hD_84 hS_84 => ?_)
        obtain rfl := hw_84
        replace hP : va_P G.1 vwCl [(h, .inr (1, [.ref tx1, .ref sc, .ref st, .int (nI n)])), (tx1, .inl (G.2.1, 128, .inl (nb T))), (sc, .inl (G.2.1, 64, .inl S)), (st, .inl (G.2.1, 8, .inl v))] H_84 := hP_84
        replace hD : va_D A [(h, .inr (1, [.ref tx1, .ref sc, .ref st, .int (nI n)])), (tx1, .inl (G.2.1, 128, .inl (nb T))), (sc, .inl (G.2.1, 64, .inl S)), (st, .inl (G.2.1, 8, .inl v))] := hD_84
        replace hS : va_S A sv.heap H_84 locs_84 := hS_84
        clear hP_84 hD_84 hS_84
        refine lv_ixor hx hb dX1_compress_87 ?_
        refine lv_iload hx hb dX1_compress_88 (lv_at hl 5 rfl) ?_
        refine lv_bipush (v := nI 25) hx hb dX1_compress_90 (by decide) ?_
        refine fcSI (As := [.int (rs S v t 4), .int (nI 25)]) (rest := [.int ((rotr (rs S v t 4) (nI 6)) ^^^ (rotr (rs S v t 4) (nI 11)))]) (wr := [(h, .inr (1, [.ref tx1, .ref sc, .ref st, .int (nI n)])), (tx1, .inl (G.2.1, 128, .inl (nb T))), (sc, .inl (G.2.1, 64, .inl S)), (st, .inl (G.2.1, 8, .inl v))]) (ws1 := fun (u : Unit) => [(h, .inr (1, [.ref tx1, .ref sc, .ref st, .int (nI n)])), (tx1, .inl (G.2.1, 128, .inl (nb T))), (sc, .inl (G.2.1, 64, .inl S)), (st, .inl (G.2.1, 8, .inl v))]) ⟨hx, hb, hml, hown, hts⟩ hK hE hP hD hS hA hl.1 (kX1_turned l G (rs S v t 4) (nI 25) ) (va_cwS 2 hts (gdS wm_62 wm_63 wm_56 wm_60) rfl rfl rfl (by decide +kernel) ⟨Nat.le_of_ble_eq_true rfl, Nat.le_of_ble_eq_true rfl⟩) rfl rfl (Nat.le_of_ble_eq_true rfl) dX1_compress_92 ⟨Nat.le_of_ble_eq_true rfl, Nat.le_of_ble_eq_true rfl⟩ [] [0, 1, 2, 3] [0, 1, 2, 3] rfl rfl rfl rfl (by decide) rfl (fun _ => rfl) (fun r_92 u_92 H_92 locs_92 hw_92 hP_92 hD_92 hS_92 => ?_)
        obtain rfl := hw_92
        replace hP : va_P G.1 vwCl [(h, .inr (1, [.ref tx1, .ref sc, .ref st, .int (nI n)])), (tx1, .inl (G.2.1, 128, .inl (nb T))), (sc, .inl (G.2.1, 64, .inl S)), (st, .inl (G.2.1, 8, .inl v))] H_92 := hP_92
        replace hD : va_D A [(h, .inr (1, [.ref tx1, .ref sc, .ref st, .int (nI n)])), (tx1, .inl (G.2.1, 128, .inl (nb T))), (sc, .inl (G.2.1, 64, .inl S)), (st, .inl (G.2.1, 8, .inl v))] := hD_92
        replace hS : va_S A sv.heap H_92 locs_92 := hS_92
        clear hP_92 hD_92 hS_92
        refine lv_ixor hx hb dX1_compress_95 ?_
        refine lv_istore (lv' := [(10, .int (((rotr (rs S v t 4) (nI 6)) ^^^ (rotr (rs S v t 4) (nI 11))) ^^^ (rotr (rs S v t 4) (nI 25)))), (0, .ref h), (1, .int (rs S v t 0)), (2, .int (rs S v t 1)), (3, .int (rs S v t 2)), (4, .int (rs S v t 3)), (5, .int (rs S v t 4)), (6, .int (rs S v t 5)), (7, .int (rs S v t 6)), (8, .int (rs S v t 7)), (9, .int (nI t))]) hx hb dX1_compress_96 hl (by decide) rfl (fun ls hl2 => ?_)
        replace hl := hl2; clear hl2
        refine lv_iload hx hb dX1_compress_98 (lv_at hl 9 rfl) ?_
        refine lv_iload hx hb dX1_compress_100 (lv_at hl 0 rfl) ?_
        refine lv_iadd hx hb dX1_compress_102 ?_
        refine lv_iload hx hb dX1_compress_103 (lv_at hl 6 rfl) ?_
        refine lv_iload hx hb dX1_compress_105 (lv_at hl 7 rfl) ?_
        refine lv_iand hx hb dX1_compress_107 ?_
        refine lv_iload hx hb dX1_compress_108 (lv_at hl 6 rfl) ?_
        refine lv_iconst (v := -1) hx hb dX1_compress_110 (by decide) ?_
        refine lv_ixor hx hb dX1_compress_111 ?_
        refine lv_iload hx hb dX1_compress_112 (lv_at hl 8 rfl) ?_
        refine lv_iand hx hb dX1_compress_114 ?_
        refine lv_ixor hx hb dX1_compress_115 ?_
        refine lv_iadd hx hb dX1_compress_116 ?_
        refine va_getsN (v := .ref G.2.2.2.2) hx hb hE.2.2.1 hS hown (va_Nw.use rfl hE.2.2.2.2.2.2.2.2.2.2.1) (fun _ h9 => h9) dX1_compress_117 ?_
        refine lv_iload hx hb dX1_compress_120 (lv_at hl 10 rfl) ?_
        refine va_ti (v := .int (KW t)) hx hb hE.2.2.2.1 hS (vp_in_nI (by omega) (by decide)) (by rw [nI_clamp (by omega)]) dX1_compress_122 ?_
        refine lv_iadd hx hb dX1_compress_123 ?_
        refine lv_aload_n hx hb dX1_compress_124 rfl (lv_at hl 1 rfl) ?_
        refine va_get (D := G.1) (ci := 1) (v := .ref sc) (C := RX1) (T := TX1) (N := 4) hx hb hts in_wsX10 hown hK hP 0 rfl rfl 1 (by decide) (hts _ wm_45) (fun _ h9 => h9) rfl dX1_compress_125 ?_
        refine lv_iload hx hb dX1_compress_128 (lv_at hl 10 rfl) ?_
        refine f_iald (v := S t) hx hb hK hP 2 rfl (by omega) (by decide) rfl dX1_compress_130 ?_
        refine lv_iadd hx hb dX1_compress_131 ?_
        refine f_top (y := rT1 (rs S v t) (KW t) (S t)) rfl ?_
        refine lv_istore (lv' := [(11, .int (rT1 (rs S v t) (KW t) (S t))), (10, .int (((rotr (rs S v t 4) (nI 6)) ^^^ (rotr (rs S v t 4) (nI 11))) ^^^ (rotr (rs S v t 4) (nI 25)))), (0, .ref h), (1, .int (rs S v t 0)), (2, .int (rs S v t 1)), (3, .int (rs S v t 2)), (4, .int (rs S v t 3)), (5, .int (rs S v t 4)), (6, .int (rs S v t 5)), (7, .int (rs S v t 6)), (8, .int (rs S v t 7)), (9, .int (nI t))]) hx hb dX1_compress_132 hl (by decide) rfl (fun ls hl2 => ?_)
        replace hl := hl2; clear hl2
        refine lv_iload_n hx hb dX1_compress_134 rfl (lv_at hl 3 rfl) ?_
        refine lv_iconst (v := nI 2) hx hb dX1_compress_135 (by decide) ?_
        refine fcSI (As := [.int (rs S v t 0), .int (nI 2)]) (rest := []) (wr := [(h, .inr (1, [.ref tx1, .ref sc, .ref st, .int (nI n)])), (tx1, .inl (G.2.1, 128, .inl (nb T))), (sc, .inl (G.2.1, 64, .inl S)), (st, .inl (G.2.1, 8, .inl v))]) (ws1 := fun (u : Unit) => [(h, .inr (1, [.ref tx1, .ref sc, .ref st, .int (nI n)])), (tx1, .inl (G.2.1, 128, .inl (nb T))), (sc, .inl (G.2.1, 64, .inl S)), (st, .inl (G.2.1, 8, .inl v))]) ⟨hx, hb, hml, hown, hts⟩ hK hE hP hD hS hA hl.1 (kX1_turned l G (rs S v t 0) (nI 2) ) (va_cwS 2 hts (gdS wm_62 wm_63 wm_56 wm_60) rfl rfl rfl (by decide +kernel) ⟨Nat.le_of_ble_eq_true rfl, Nat.le_of_ble_eq_true rfl⟩) rfl rfl (Nat.le_of_ble_eq_true rfl) dX1_compress_136 ⟨Nat.le_of_ble_eq_true rfl, Nat.le_of_ble_eq_true rfl⟩ [] [0, 1, 2, 3] [0, 1, 2, 3] rfl rfl rfl rfl (by decide) rfl (fun _ => rfl) (fun r_136 u_136 H_136 locs_136 hw_136 hP_136 hD_136 hS_136 => ?_)
        obtain rfl := hw_136
        replace hP : va_P G.1 vwCl [(h, .inr (1, [.ref tx1, .ref sc, .ref st, .int (nI n)])), (tx1, .inl (G.2.1, 128, .inl (nb T))), (sc, .inl (G.2.1, 64, .inl S)), (st, .inl (G.2.1, 8, .inl v))] H_136 := hP_136
        replace hD : va_D A [(h, .inr (1, [.ref tx1, .ref sc, .ref st, .int (nI n)])), (tx1, .inl (G.2.1, 128, .inl (nb T))), (sc, .inl (G.2.1, 64, .inl S)), (st, .inl (G.2.1, 8, .inl v))] := hD_136
        replace hS : va_S A sv.heap H_136 locs_136 := hS_136
        clear hP_136 hD_136 hS_136
        refine lv_iload_n hx hb dX1_compress_139 rfl (lv_at hl 3 rfl) ?_
        refine lv_bipush (v := nI 13) hx hb dX1_compress_140 (by decide) ?_
        refine fcSI (As := [.int (rs S v t 0), .int (nI 13)]) (rest := [.int (rotr (rs S v t 0) (nI 2))]) (wr := [(h, .inr (1, [.ref tx1, .ref sc, .ref st, .int (nI n)])), (tx1, .inl (G.2.1, 128, .inl (nb T))), (sc, .inl (G.2.1, 64, .inl S)), (st, .inl (G.2.1, 8, .inl v))]) (ws1 := fun (u : Unit) => [(h, .inr (1, [.ref tx1, .ref sc, .ref st, .int (nI n)])), (tx1, .inl (G.2.1, 128, .inl (nb T))), (sc, .inl (G.2.1, 64, .inl S)), (st, .inl (G.2.1, 8, .inl v))]) ⟨hx, hb, hml, hown, hts⟩ hK hE hP hD hS hA hl.1 (kX1_turned l G (rs S v t 0) (nI 13) ) (va_cwS 2 hts (gdS wm_62 wm_63 wm_56 wm_60) rfl rfl rfl (by decide +kernel) ⟨Nat.le_of_ble_eq_true rfl, Nat.le_of_ble_eq_true rfl⟩) rfl rfl (Nat.le_of_ble_eq_true rfl) dX1_compress_142 ⟨Nat.le_of_ble_eq_true rfl, Nat.le_of_ble_eq_true rfl⟩ [] [0, 1, 2, 3] [0, 1, 2, 3] rfl rfl rfl rfl (by decide) rfl (fun _ => rfl) (fun r_142 u_142 H_142 locs_142 hw_142 hP_142 hD_142 hS_142 => ?_)
        obtain rfl := hw_142
        replace hP : va_P G.1 vwCl [(h, .inr (1, [.ref tx1, .ref sc, .ref st, .int (nI n)])), (tx1, .inl (G.2.1, 128, .inl (nb T))), (sc, .inl (G.2.1, 64, .inl S)), (st, .inl (G.2.1, 8, .inl v))] H_142 := hP_142
        replace hD : va_D A [(h, .inr (1, [.ref tx1, .ref sc, .ref st, .int (nI n)])), (tx1, .inl (G.2.1, 128, .inl (nb T))), (sc, .inl (G.2.1, 64, .inl S)), (st, .inl (G.2.1, 8, .inl v))] := hD_142
        replace hS : va_S A sv.heap H_142 locs_142 := hS_142
        clear hP_142 hD_142 hS_142
        refine lv_ixor hx hb dX1_compress_145 ?_
        refine lv_iload_n hx hb dX1_compress_146 rfl (lv_at hl 3 rfl) ?_
        refine lv_bipush (v := nI 22) hx hb dX1_compress_147 (by decide) ?_
        refine fcSI (As := [.int (rs S v t 0), .int (nI 22)]) (rest := [.int ((rotr (rs S v t 0) (nI 2)) ^^^ (rotr (rs S v t 0) (nI 13)))]) (wr := [(h, .inr (1, [.ref tx1, .ref sc, .ref st, .int (nI n)])), (tx1, .inl (G.2.1, 128, .inl (nb T))), (sc, .inl (G.2.1, 64, .inl S)), (st, .inl (G.2.1, 8, .inl v))]) (ws1 := fun (u : Unit) => [(h, .inr (1, [.ref tx1, .ref sc, .ref st, .int (nI n)])), (tx1, .inl (G.2.1, 128, .inl (nb T))), (sc, .inl (G.2.1, 64, .inl S)), (st, .inl (G.2.1, 8, .inl v))]) ⟨hx, hb, hml, hown, hts⟩ hK hE hP hD hS hA hl.1 (kX1_turned l G (rs S v t 0) (nI 22) ) (va_cwS 2 hts (gdS wm_62 wm_63 wm_56 wm_60) rfl rfl rfl (by decide +kernel) ⟨Nat.le_of_ble_eq_true rfl, Nat.le_of_ble_eq_true rfl⟩) rfl rfl (Nat.le_of_ble_eq_true rfl) dX1_compress_149 ⟨Nat.le_of_ble_eq_true rfl, Nat.le_of_ble_eq_true rfl⟩ [] [0, 1, 2, 3] [0, 1, 2, 3] rfl rfl rfl rfl (by decide) rfl (fun _ => rfl) (fun r_149 u_149 H_149 locs_149 hw_149 hP_149 hD_149 hS_149 => ?_)
        obtain rfl := hw_149
        replace hP : va_P G.1 vwCl [(h, .inr (1, [.ref tx1, .ref sc, .ref st, .int (nI n)])), (tx1, .inl (G.2.1, 128, .inl (nb T))), (sc, .inl (G.2.1, 64, .inl S)), (st, .inl (G.2.1, 8, .inl v))] H_149 := hP_149
        replace hD : va_D A [(h, .inr (1, [.ref tx1, .ref sc, .ref st, .int (nI n)])), (tx1, .inl (G.2.1, 128, .inl (nb T))), (sc, .inl (G.2.1, 64, .inl S)), (st, .inl (G.2.1, 8, .inl v))] := hD_149
        replace hS : va_S A sv.heap H_149 locs_149 := hS_149
        clear hP_149 hD_149 hS_149
        refine lv_ixor hx hb dX1_compress_152 ?_
        refine lv_istore (lv' := [(12, .int (((rotr (rs S v t 0) (nI 2)) ^^^ (rotr (rs S v t 0) (nI 13))) ^^^ (rotr (rs S v t 0) (nI 22)))), (11, .int (rT1 (rs S v t) (KW t) (S t))), (10, .int (((rotr (rs S v t 4) (nI 6)) ^^^ (rotr (rs S v t 4) (nI 11))) ^^^ (rotr (rs S v t 4) (nI 25)))), (0, .ref h), (1, .int (rs S v t 0)), (2, .int (rs S v t 1)), (3, .int (rs S v t 2)), (4, .int (rs S v t 3)), (5, .int (rs S v t 4)), (6, .int (rs S v t 5)), (7, .int (rs S v t 6)), (8, .int (rs S v t 7)), (9, .int (nI t))]) hx hb dX1_compress_153 hl (by decide) rfl (fun ls hl2 => ?_)
        replace hl := hl2; clear hl2
        refine lv_iload hx hb dX1_compress_155 (lv_at hl 0 rfl) ?_
        refine lv_iload_n hx hb dX1_compress_157 rfl (lv_at hl 4 rfl) ?_
        refine lv_iload_n hx hb dX1_compress_158 rfl (lv_at hl 5 rfl) ?_
        refine lv_iand hx hb dX1_compress_159 ?_
        refine lv_iload_n hx hb dX1_compress_160 rfl (lv_at hl 4 rfl) ?_
        refine lv_iload_n hx hb dX1_compress_161 rfl (lv_at hl 6 rfl) ?_
        refine lv_iand hx hb dX1_compress_162 ?_
        refine lv_ixor hx hb dX1_compress_163 ?_
        refine lv_iload_n hx hb dX1_compress_164 rfl (lv_at hl 5 rfl) ?_
        refine lv_iload_n hx hb dX1_compress_165 rfl (lv_at hl 6 rfl) ?_
        refine lv_iand hx hb dX1_compress_166 ?_
        refine lv_ixor hx hb dX1_compress_167 ?_
        refine lv_iadd hx hb dX1_compress_168 ?_
        refine f_top (y := rT2 (rs S v t)) rfl ?_
        refine lv_istore (lv' := [(13, .int (rT2 (rs S v t))), (12, .int (((rotr (rs S v t 0) (nI 2)) ^^^ (rotr (rs S v t 0) (nI 13))) ^^^ (rotr (rs S v t 0) (nI 22)))), (11, .int (rT1 (rs S v t) (KW t) (S t))), (10, .int (((rotr (rs S v t 4) (nI 6)) ^^^ (rotr (rs S v t 4) (nI 11))) ^^^ (rotr (rs S v t 4) (nI 25)))), (0, .ref h), (1, .int (rs S v t 0)), (2, .int (rs S v t 1)), (3, .int (rs S v t 2)), (4, .int (rs S v t 3)), (5, .int (rs S v t 4)), (6, .int (rs S v t 5)), (7, .int (rs S v t 6)), (8, .int (rs S v t 7)), (9, .int (nI t))]) hx hb dX1_compress_169 hl (by decide) rfl (fun ls hl2 => ?_)
        replace hl := hl2; clear hl2
        refine lv_iload hx hb dX1_compress_171 (lv_at hl 11 rfl) ?_
        refine lv_istore (lv' := [(8, .int (rs S v t 6)), (13, .int (rT2 (rs S v t))), (12, .int (((rotr (rs S v t 0) (nI 2)) ^^^ (rotr (rs S v t 0) (nI 13))) ^^^ (rotr (rs S v t 0) (nI 22)))), (11, .int (rT1 (rs S v t) (KW t) (S t))), (10, .int (((rotr (rs S v t 4) (nI 6)) ^^^ (rotr (rs S v t 4) (nI 11))) ^^^ (rotr (rs S v t 4) (nI 25)))), (0, .ref h), (1, .int (rs S v t 0)), (2, .int (rs S v t 1)), (3, .int (rs S v t 2)), (4, .int (rs S v t 3)), (5, .int (rs S v t 4)), (6, .int (rs S v t 5)), (7, .int (rs S v t 6)), (9, .int (nI t))]) hx hb dX1_compress_173 hl (by decide) rfl (fun ls hl2 => ?_)
        replace hl := hl2; clear hl2
        refine lv_iload hx hb dX1_compress_175 (lv_at hl 11 rfl) ?_
        refine lv_istore (lv' := [(7, .int (rs S v t 5)), (8, .int (rs S v t 6)), (13, .int (rT2 (rs S v t))), (12, .int (((rotr (rs S v t 0) (nI 2)) ^^^ (rotr (rs S v t 0) (nI 13))) ^^^ (rotr (rs S v t 0) (nI 22)))), (11, .int (rT1 (rs S v t) (KW t) (S t))), (10, .int (((rotr (rs S v t 4) (nI 6)) ^^^ (rotr (rs S v t 4) (nI 11))) ^^^ (rotr (rs S v t 4) (nI 25)))), (0, .ref h), (1, .int (rs S v t 0)), (2, .int (rs S v t 1)), (3, .int (rs S v t 2)), (4, .int (rs S v t 3)), (5, .int (rs S v t 4)), (6, .int (rs S v t 5)), (9, .int (nI t))]) hx hb dX1_compress_177 hl (by decide) rfl (fun ls hl2 => ?_)
        replace hl := hl2; clear hl2
        refine lv_iload hx hb dX1_compress_179 (lv_at hl 11 rfl) ?_
        refine lv_istore (lv' := [(6, .int (rs S v t 4)), (7, .int (rs S v t 5)), (8, .int (rs S v t 6)), (13, .int (rT2 (rs S v t))), (12, .int (((rotr (rs S v t 0) (nI 2)) ^^^ (rotr (rs S v t 0) (nI 13))) ^^^ (rotr (rs S v t 0) (nI 22)))), (11, .int (rT1 (rs S v t) (KW t) (S t))), (10, .int (((rotr (rs S v t 4) (nI 6)) ^^^ (rotr (rs S v t 4) (nI 11))) ^^^ (rotr (rs S v t 4) (nI 25)))), (0, .ref h), (1, .int (rs S v t 0)), (2, .int (rs S v t 1)), (3, .int (rs S v t 2)), (4, .int (rs S v t 3)), (5, .int (rs S v t 4)), (9, .int (nI t))]) hx hb dX1_compress_181 hl (by decide) rfl (fun ls hl2 => ?_)
        replace hl := hl2; clear hl2
        refine lv_iload hx hb dX1_compress_183 (lv_at hl 11 rfl) ?_
        refine lv_iload hx hb dX1_compress_185 (lv_at hl 5 rfl) ?_
        refine lv_iadd hx hb dX1_compress_187 ?_
        refine f_top (y := rs S v (t + 1) 4) rfl ?_
        refine lv_istore (lv' := [(5, .int (rs S v (t + 1) 4)), (6, .int (rs S v t 4)), (7, .int (rs S v t 5)), (8, .int (rs S v t 6)), (13, .int (rT2 (rs S v t))), (12, .int (((rotr (rs S v t 0) (nI 2)) ^^^ (rotr (rs S v t 0) (nI 13))) ^^^ (rotr (rs S v t 0) (nI 22)))), (11, .int (rT1 (rs S v t) (KW t) (S t))), (10, .int (((rotr (rs S v t 4) (nI 6)) ^^^ (rotr (rs S v t 4) (nI 11))) ^^^ (rotr (rs S v t 4) (nI 25)))), (0, .ref h), (1, .int (rs S v t 0)), (2, .int (rs S v t 1)), (3, .int (rs S v t 2)), (4, .int (rs S v t 3)), (9, .int (nI t))]) hx hb dX1_compress_188 hl (by decide) rfl (fun ls hl2 => ?_)
        replace hl := hl2; clear hl2
        refine lv_iload_n hx hb dX1_compress_190 rfl (lv_at hl 11 rfl) ?_
        refine lv_istore (lv' := [(4, .int (rs S v t 2)), (5, .int (rs S v (t + 1) 4)), (6, .int (rs S v t 4)), (7, .int (rs S v t 5)), (8, .int (rs S v t 6)), (13, .int (rT2 (rs S v t))), (12, .int (((rotr (rs S v t 0) (nI 2)) ^^^ (rotr (rs S v t 0) (nI 13))) ^^^ (rotr (rs S v t 0) (nI 22)))), (11, .int (rT1 (rs S v t) (KW t) (S t))), (10, .int (((rotr (rs S v t 4) (nI 6)) ^^^ (rotr (rs S v t 4) (nI 11))) ^^^ (rotr (rs S v t 4) (nI 25)))), (0, .ref h), (1, .int (rs S v t 0)), (2, .int (rs S v t 1)), (3, .int (rs S v t 2)), (9, .int (nI t))]) hx hb dX1_compress_191 hl (by decide) rfl (fun ls hl2 => ?_)
        replace hl := hl2; clear hl2
        refine lv_iload_n hx hb dX1_compress_193 rfl (lv_at hl 11 rfl) ?_
        refine lv_istore_n (lv' := [(3, .int (rs S v t 1)), (4, .int (rs S v t 2)), (5, .int (rs S v (t + 1) 4)), (6, .int (rs S v t 4)), (7, .int (rs S v t 5)), (8, .int (rs S v t 6)), (13, .int (rT2 (rs S v t))), (12, .int (((rotr (rs S v t 0) (nI 2)) ^^^ (rotr (rs S v t 0) (nI 13))) ^^^ (rotr (rs S v t 0) (nI 22)))), (11, .int (rT1 (rs S v t) (KW t) (S t))), (10, .int (((rotr (rs S v t 4) (nI 6)) ^^^ (rotr (rs S v t 4) (nI 11))) ^^^ (rotr (rs S v t 4) (nI 25)))), (0, .ref h), (1, .int (rs S v t 0)), (2, .int (rs S v t 1)), (9, .int (nI t))]) hx hb dX1_compress_194 rfl hl (by decide) rfl (fun ls hl2 => ?_)
        replace hl := hl2; clear hl2
        refine lv_iload_n hx hb dX1_compress_195 rfl (lv_at hl 11 rfl) ?_
        refine lv_istore_n (lv' := [(2, .int (rs S v t 0)), (3, .int (rs S v t 1)), (4, .int (rs S v t 2)), (5, .int (rs S v (t + 1) 4)), (6, .int (rs S v t 4)), (7, .int (rs S v t 5)), (8, .int (rs S v t 6)), (13, .int (rT2 (rs S v t))), (12, .int (((rotr (rs S v t 0) (nI 2)) ^^^ (rotr (rs S v t 0) (nI 13))) ^^^ (rotr (rs S v t 0) (nI 22)))), (11, .int (rT1 (rs S v t) (KW t) (S t))), (10, .int (((rotr (rs S v t 4) (nI 6)) ^^^ (rotr (rs S v t 4) (nI 11))) ^^^ (rotr (rs S v t 4) (nI 25)))), (0, .ref h), (1, .int (rs S v t 0)), (9, .int (nI t))]) hx hb dX1_compress_196 rfl hl (by decide) rfl (fun ls hl2 => ?_)
        replace hl := hl2; clear hl2
        refine lv_iload hx hb dX1_compress_197 (lv_at hl 9 rfl) ?_
        refine lv_iload hx hb dX1_compress_199 (lv_at hl 7 rfl) ?_
        refine lv_iadd hx hb dX1_compress_201 ?_
        refine f_top (y := rs S v (t + 1) 0) rfl ?_
        refine lv_istore_n (lv' := [(1, .int (rs S v (t + 1) 0)), (2, .int (rs S v t 0)), (3, .int (rs S v t 1)), (4, .int (rs S v t 2)), (5, .int (rs S v (t + 1) 4)), (6, .int (rs S v t 4)), (7, .int (rs S v t 5)), (8, .int (rs S v t 6)), (13, .int (rT2 (rs S v t))), (12, .int (((rotr (rs S v t 0) (nI 2)) ^^^ (rotr (rs S v t 0) (nI 13))) ^^^ (rotr (rs S v t 0) (nI 22)))), (11, .int (rT1 (rs S v t) (KW t) (S t))), (10, .int (((rotr (rs S v t 4) (nI 6)) ^^^ (rotr (rs S v t 4) (nI 11))) ^^^ (rotr (rs S v t 4) (nI 25)))), (0, .ref h), (9, .int (nI t))]) hx hb dX1_compress_202 rfl hl (by decide) rfl (fun ls hl2 => ?_)
        replace hl := hl2; clear hl2
        refine lv_iinc (v := nI (t + 1)) (lv' := [(9, .int (nI (t + 1))), (1, .int (rs S v (t + 1) 0)), (2, .int (rs S v t 0)), (3, .int (rs S v t 1)), (4, .int (rs S v t 2)), (5, .int (rs S v (t + 1) 4)), (6, .int (rs S v t 4)), (7, .int (rs S v t 5)), (8, .int (rs S v t 6)), (13, .int (rT2 (rs S v t))), (12, .int (((rotr (rs S v t 0) (nI 2)) ^^^ (rotr (rs S v t 0) (nI 13))) ^^^ (rotr (rs S v t 0) (nI 22)))), (11, .int (rT1 (rs S v t) (KW t) (S t))), (10, .int (((rotr (rs S v t 4) (nI 6)) ^^^ (rotr (rs S v t 4) (nI 11))) ^^^ (rotr (rs S v t 4) (nI 25)))), (0, .ref h)]) hx hb dX1_compress_203 hl (k := 13) rfl (f_inc1 _) (by decide) rfl (fun ls hl2 => ?_)
        replace hl := hl2; clear hl2
        refine lv_goto (tgt := 66) hx hb dX1_compress_206 (by decide) ?_
        exact ih_66 (t + 1) _ _ _ (by omega) (by omega) hP hD hS (lv_sub hl [13, 1, 2, 3, 4, 5, 6, 7, 8, 0] rfl)
  exact L_66 ((65 - 0) + 1) 0 _ _ _ (Nat.lt_succ_self _) (by omega) hP hD hS (lv_sub hl [9, 8, 7, 6, 5, 4, 3, 2, 1, 0] rfl)

set_option maxRecDepth 100000 in
set_option maxHeartbeats 4000000 in
theorem kX1_finish (l : Launch) (G : fG) (h : Nat) (tx1 : Nat) (sc : Nat) (st : Nat) (T : Nat → UInt8) (n : Nat) (S : Nat → Int32) (v : Nat → Int32) (L : List UInt8) (hT : tx T L) (hn : n = L.length) (hl9 : L.length ≤ 119) : fMV l yX1_finish (.code yX1_finish cX1_finish 4 none :: wsA) ({ frames := 2, cells := 0, slots := 0, locals := 54 } : Room) G [.ref h] [(h, .inr (1, [.ref tx1, .ref sc, .ref st, .int (nI n)])), (tx1, .inl (G.2.1, 128, .inl (nb T))), (sc, .inl (G.2.1, 64, .inl S)), (st, .inl (G.2.1, 8, .inl v))] (fun (u : (Nat → UInt8) × Nat × (Nat → Int32)) => True) (fun (u : (Nat → UInt8) × Nat × (Nat → Int32)) => [(h, .inr (1, [.ref tx1, .ref sc, .ref st, .int (nI u.2.1)])), (tx1, .inl (G.2.1, 128, .inl (nb u.1))), (sc, .inl (G.2.1, 64, .inl u.2.2)), (st, .inl (G.2.1, 8, .inl (shaW L)))]) 0 0 := by
  refine fV_start (cc := cX1_finish) (maxL := 4) (by decide) rfl (Nat.le_of_ble_eq_true rfl) ?_
  intro prg env sv mid args below meth cd A Q ls hx hb hml hown hts hin hK hP hD hE hA hS hl hend
  replace hown : sv.vm.findClass RX1 = some mid.cls := hown
  replace hP : va_P G.1 vwCl [(h, .inr (1, [.ref tx1, .ref sc, .ref st, .int (nI n)])), (tx1, .inl (G.2.1, 128, .inl (nb T))), (sc, .inl (G.2.1, 64, .inl S)), (st, .inl (G.2.1, 8, .inl v))] sv.heap := hP
  replace hl : lv_has ls 4 [(0, .ref h)] := hl
  refine lv_aload_n hx hb dX1_finish_0 rfl (lv_at hl 0 rfl) ?_
  refine va_get (D := G.1) (ci := 1) (v := .int (nI n)) (C := RX1) (T := TX1) (N := 4) hx hb hts in_wsX10 hown hK hP 0 rfl rfl 3 (by decide) (hts _ wm_47) (fun _ h9 => h9) rfl dX1_finish_1 ?_
  refine lv_bipush (v := nI 8) hx hb dX1_finish_4 (by decide) ?_
  refine lv_imul hx hb dX1_finish_6 ?_
  refine f_top (y := nI (n * 8)) (pk_mul _ _) ?_
  refine lv_istore_n (lv' := [(1, .int (nI (n * 8))), (0, .ref h)]) hx hb dX1_finish_7 rfl hl (by decide) rfl (fun ls hl2 => ?_)
  replace hl := hl2; clear hl2
  refine lv_aload_n hx hb dX1_finish_8 rfl (lv_at hl 1 rfl) ?_
  refine lv_sipush (v := nI 128) hx hb dX1_finish_9 (by decide) ?_
  refine fcVV (As := [.int (nI 128)]) (rest := []) (wr := []) (ws1 := fun (u : Unit) => [(h, .inr (1, [.ref tx1, .ref sc, .ref st, .int (nI (n + 1))])), (tx1, .inl (G.2.1, 128, .inl (nb (upb T n (toB (nI 128)))))), (sc, .inl (G.2.1, 64, .inl S)), (st, .inl (G.2.1, 8, .inl v))]) ⟨hx, hb, hml, hown, hts⟩ hK hE hP hD hS hA hl.1 (kX1_put l G h tx1 sc st T n S v (nI 128) (by omega)) (cwV 1 hts (gdV wm_57 wm_58 wm_59 wm_56 wm_49) rfl rfl rfl (by decide +kernel) ⟨Nat.le_of_ble_eq_true rfl, Nat.le_of_ble_eq_true rfl⟩) 0 rfl rfl rfl rfl (Nat.le_of_ble_eq_true rfl) dX1_finish_12 ⟨Nat.le_of_ble_eq_true rfl, Nat.le_of_ble_eq_true rfl⟩ [0, 1, 2, 3] [] [0, 1, 2, 3] rfl rfl rfl rfl (by decide) rfl (fun _ => rfl) (fun u_12 H_12 locs_12 hw_12 hP_12 hD_12 hS_12 => ?_)
  replace hP : va_P G.1 vwCl [(h, .inr (1, [.ref tx1, .ref sc, .ref st, .int (nI (n + 1))])), (tx1, .inl (G.2.1, 128, .inl (nb (upb T n (toB (nI 128)))))), (sc, .inl (G.2.1, 64, .inl S)), (st, .inl (G.2.1, 8, .inl v))] H_12 := hP_12
  replace hD : va_D A [(h, .inr (1, [.ref tx1, .ref sc, .ref st, .int (nI (n + 1))])), (tx1, .inl (G.2.1, 128, .inl (nb (upb T n (toB (nI 128)))))), (sc, .inl (G.2.1, 64, .inl S)), (st, .inl (G.2.1, 8, .inl v))] := hD_12
  replace hS : va_S A sv.heap H_12 locs_12 := hS_12
  clear hP_12 hD_12 hS_12
  have e0 := pad_init (b := toB (nI 128)) hT hn rfl
  refine lv_aload_n hx hb dX1_finish_15 rfl (lv_at hl 1 rfl) ?_
  refine va_get (D := G.1) (ci := 1) (v := .int (nI (n + 1))) (C := RX1) (T := TX1) (N := 4) hx hb hts in_wsX10 hown hK hP 0 rfl rfl 3 (by decide) (hts _ wm_47) (fun _ h9 => h9) rfl dX1_finish_16 ?_
  refine lv_bipush (v := nI 8) hx hb dX1_finish_19 (by decide) ?_
  refine lv_iadd hx hb dX1_finish_21 ?_
  refine f_top (y := nI (n + 1 + 8)) (nI_add _ _) ?_
  refine lv_bipush (v := nI 64) hx hb dX1_finish_22 (by decide) ?_
  refine f_icmp_gt (tgt := 32) (by omega) (by omega) hx hb dX1_finish_24 (by decide) (fun c_24 => ?_) (fun c_24 => ?_)
  · skip
    refine lv_sipush (v := nI 128) hx hb dX1_finish_32 (by decide) ?_
    refine lv_istore_n (lv' := [(2, .int (nI 128)), (1, .int (nI (n * 8))), (0, .ref h)]) hx hb dX1_finish_35 rfl hl (by decide) rfl (fun ls hl2 => ?_)
    replace hl := hl2; clear hl2
    refine lv_aload_n hx hb dX1_finish_36 rfl (lv_at hl 2 rfl) ?_
    refine va_get (D := G.1) (ci := 1) (v := .int (nI (n + 1))) (C := RX1) (T := TX1) (N := 4) hx hb hts in_wsX10 hown hK hP 0 rfl rfl 3 (by decide) (hts _ wm_47) (fun _ h9 => h9) rfl dX1_finish_37 ?_
    refine lv_istore_n (lv' := [(3, .int (nI (n + 1))), (2, .int (nI 128)), (1, .int (nI (n * 8))), (0, .ref h)]) hx hb dX1_finish_40 rfl hl (by decide) rfl (fun ls hl2 => ?_)
    replace hl := hl2; clear hl2
    have hz : szP L = 128 := szP_2 (by omega)
    have L_41 : ∀ (n9 : Nat) (k : Nat) (T1 : Nat → UInt8) (H : Heap) (locs : List Loc) (ls : Array Slot), (129 - k) < n9 → (L.length < k ∧ k ≤ 124) → (∀ j, j < k → T1 j = padP L j) → va_P G.1 vwCl [(h, .inr (1, [.ref tx1, .ref sc, .ref st, .int (nI k)])), (tx1, .inl (G.2.1, 128, .inl (nb T1))), (sc, .inl (G.2.1, 64, .inl S)), (st, .inl (G.2.1, 8, .inl v))] H → va_D A [(h, .inr (1, [.ref tx1, .ref sc, .ref st, .int (nI k)])), (tx1, .inl (G.2.1, 128, .inl (nb T1))), (sc, .inl (G.2.1, 64, .inl S)), (st, .inl (G.2.1, 8, .inl v))] → va_S A sv.heap H locs → lv_has ls 4 [(0, .ref h), (1, .int (nI (n * 8))), (2, .int (nI 128)), (3, .int (nI k))] → W prg l env ({ frames := 2, cells := 0, slots := 0, locals := 54 } : Room) sv mid args below meth cd H locs 0 0 Q (F0 mid 41 ls []) := by
      intro n9
      induction n9 with
      | zero => intro k T1 H locs ls hmu; exact absurd hmu (Nat.not_lt_zero _)
      | succ n9 ih_41 =>
        intro k T1 H locs ls hmu_41 hk hT1 hP hD hS hl
        refine lv_iload_n hx hb dX1_finish_41 rfl (lv_at hl 3 rfl) ?_
        refine lv_iload_n hx hb dX1_finish_42 rfl (lv_at hl 2 rfl) ?_
        refine lv_iconst (v := nI 4) hx hb dX1_finish_43 (by decide) ?_
        refine lv_isub hx hb dX1_finish_44 ?_
        refine f_top (y := nI 124) (by decide) ?_
        refine f_icmp_ge (tgt := 59) (by omega) (by omega) hx hb dX1_finish_45 (by decide) (fun c_45 => ?_) (fun c_45 => ?_)
        · skip
          obtain rfl : k = 124 := by omega
          refine lv_bipush (v := nI 24) hx hb dX1_finish_59 (by decide) ?_
          refine lv_istore_n (lv' := [(3, .int (nI 24)), (0, .ref h), (1, .int (nI (n * 8))), (2, .int (nI 128))]) hx hb dX1_finish_61 rfl hl (by decide) rfl (fun ls hl2 => ?_)
          replace hl := hl2; clear hl2
          refine lv_iload_n hx hb dX1_finish_62 rfl (lv_at hl 0 rfl) ?_
          refine lv_if_lt (tgt := 79) hx hb dX1_finish_63 (by decide) (fun c9 => absurd c9 (by decide)) (fun _ => ?_)
          refine lv_aload_n hx hb dX1_finish_66 rfl (lv_at hl 1 rfl) ?_
          refine lv_iload_n hx hb dX1_finish_67 rfl (lv_at hl 2 rfl) ?_
          refine lv_iload_n hx hb dX1_finish_68 rfl (lv_at hl 0 rfl) ?_
          refine lv_iushr (v := f_ush (nI (n * 8)) (nI 24)) hx hb dX1_finish_69 rfl ?_
          refine fcVV (As := [.int (f_ush (nI (n * 8)) (nI 24))]) (rest := []) (wr := []) (ws1 := fun (u : Unit) => [(h, .inr (1, [.ref tx1, .ref sc, .ref st, .int (nI (124 + 1))])), (tx1, .inl (G.2.1, 128, .inl (nb (upb T1 124 (toB (f_ush (nI (n * 8)) (nI 24))))))), (sc, .inl (G.2.1, 64, .inl S)), (st, .inl (G.2.1, 8, .inl v))]) ⟨hx, hb, hml, hown, hts⟩ hK hE hP hD hS hA hl.1 (kX1_put l G h tx1 sc st T1 124 S v (f_ush (nI (n * 8)) (nI 24)) (by omega)) (cwV 1 hts (gdV wm_57 wm_58 wm_59 wm_56 wm_49) rfl rfl rfl (by decide +kernel) ⟨Nat.le_of_ble_eq_true rfl, Nat.le_of_ble_eq_true rfl⟩) 0 rfl rfl rfl rfl (Nat.le_of_ble_eq_true rfl) dX1_finish_70 ⟨Nat.le_of_ble_eq_true rfl, Nat.le_of_ble_eq_true rfl⟩ [0, 1, 2, 3] [] [0, 1, 2, 3] rfl rfl rfl rfl (by decide) rfl (fun _ => rfl) (fun u_70 H_70 locs_70 hw_70 hP_70 hD_70 hS_70 => ?_)
          replace hP : va_P G.1 vwCl [(h, .inr (1, [.ref tx1, .ref sc, .ref st, .int (nI (124 + 1))])), (tx1, .inl (G.2.1, 128, .inl (nb (upb T1 124 (toB (f_ush (nI (n * 8)) (nI 24))))))), (sc, .inl (G.2.1, 64, .inl S)), (st, .inl (G.2.1, 8, .inl v))] H_70 := hP_70
          replace hD : va_D A [(h, .inr (1, [.ref tx1, .ref sc, .ref st, .int (nI (124 + 1))])), (tx1, .inl (G.2.1, 128, .inl (nb (upb T1 124 (toB (f_ush (nI (n * 8)) (nI 24))))))), (sc, .inl (G.2.1, 64, .inl S)), (st, .inl (G.2.1, 8, .inl v))] := hD_70
          replace hS : va_S A sv.heap H_70 locs_70 := hS_70
          clear hP_70 hD_70 hS_70
          replace hT1 := pad_len (b := toB (f_ush (nI (n * 8)) (nI 24))) (s := 0) hT1 (by omega) (by omega) (by rw [hn])
          refine lv_iinc (v := nI 16) (lv' := [(3, .int (nI 16)), (0, .ref h), (1, .int (nI (n * 8))), (2, .int (nI 128))]) hx hb dX1_finish_73 hl (k := 0) rfl (by decide) (by decide) rfl (fun ls hl2 => ?_)
          replace hl := hl2; clear hl2
          refine lv_goto (tgt := 62) hx hb dX1_finish_76 (by decide) ?_
          refine lv_iload_n hx hb dX1_finish_62 rfl (lv_at hl 0 rfl) ?_
          refine lv_if_lt (tgt := 79) hx hb dX1_finish_63 (by decide) (fun c9 => absurd c9 (by decide)) (fun _ => ?_)
          refine lv_aload_n hx hb dX1_finish_66 rfl (lv_at hl 1 rfl) ?_
          refine lv_iload_n hx hb dX1_finish_67 rfl (lv_at hl 2 rfl) ?_
          refine lv_iload_n hx hb dX1_finish_68 rfl (lv_at hl 0 rfl) ?_
          refine lv_iushr (v := f_ush (nI (n * 8)) (nI 16)) hx hb dX1_finish_69 rfl ?_
          refine fcVV (As := [.int (f_ush (nI (n * 8)) (nI 16))]) (rest := []) (wr := []) (ws1 := fun (u : Unit) => [(h, .inr (1, [.ref tx1, .ref sc, .ref st, .int (nI ((124 + 1) + 1))])), (tx1, .inl (G.2.1, 128, .inl (nb (upb (upb T1 124 (toB (f_ush (nI (n * 8)) (nI 24)))) (124 + 1) (toB (f_ush (nI (n * 8)) (nI 16))))))), (sc, .inl (G.2.1, 64, .inl S)), (st, .inl (G.2.1, 8, .inl v))]) ⟨hx, hb, hml, hown, hts⟩ hK hE hP hD hS hA hl.1 (kX1_put l G h tx1 sc st (upb T1 124 (toB (f_ush (nI (n * 8)) (nI 24)))) (124 + 1) S v (f_ush (nI (n * 8)) (nI 16)) (by omega)) (cwV 1 hts (gdV wm_57 wm_58 wm_59 wm_56 wm_49) rfl rfl rfl (by decide +kernel) ⟨Nat.le_of_ble_eq_true rfl, Nat.le_of_ble_eq_true rfl⟩) 0 rfl rfl rfl rfl (Nat.le_of_ble_eq_true rfl) dX1_finish_70 ⟨Nat.le_of_ble_eq_true rfl, Nat.le_of_ble_eq_true rfl⟩ [0, 1, 2, 3] [] [0, 1, 2, 3] rfl rfl rfl rfl (by decide) rfl (fun _ => rfl) (fun u_70_1 H_70_1 locs_70_1 hw_70_1 hP_70_1 hD_70_1 hS_70_1 => ?_)
          replace hP : va_P G.1 vwCl [(h, .inr (1, [.ref tx1, .ref sc, .ref st, .int (nI ((124 + 1) + 1))])), (tx1, .inl (G.2.1, 128, .inl (nb (upb (upb T1 124 (toB (f_ush (nI (n * 8)) (nI 24)))) (124 + 1) (toB (f_ush (nI (n * 8)) (nI 16))))))), (sc, .inl (G.2.1, 64, .inl S)), (st, .inl (G.2.1, 8, .inl v))] H_70_1 := hP_70_1
          replace hD : va_D A [(h, .inr (1, [.ref tx1, .ref sc, .ref st, .int (nI ((124 + 1) + 1))])), (tx1, .inl (G.2.1, 128, .inl (nb (upb (upb T1 124 (toB (f_ush (nI (n * 8)) (nI 24)))) (124 + 1) (toB (f_ush (nI (n * 8)) (nI 16))))))), (sc, .inl (G.2.1, 64, .inl S)), (st, .inl (G.2.1, 8, .inl v))] := hD_70_1
          replace hS : va_S A sv.heap H_70_1 locs_70_1 := hS_70_1
          clear hP_70_1 hD_70_1 hS_70_1
          replace hT1 := pad_len (b := toB (f_ush (nI (n * 8)) (nI 16))) (s := 1) hT1 (by omega) (by omega) (by rw [hn])
          refine lv_iinc (v := nI 8) (lv' := [(3, .int (nI 8)), (0, .ref h), (1, .int (nI (n * 8))), (2, .int (nI 128))]) hx hb dX1_finish_73 hl (k := 0) rfl (by decide) (by decide) rfl (fun ls hl2 => ?_)
          replace hl := hl2; clear hl2
          refine lv_goto (tgt := 62) hx hb dX1_finish_76 (by decide) ?_
          refine lv_iload_n hx hb dX1_finish_62 rfl (lv_at hl 0 rfl) ?_
          refine lv_if_lt (tgt := 79) hx hb dX1_finish_63 (by decide) (fun c9 => absurd c9 (by decide)) (fun _ => ?_)
          refine lv_aload_n hx hb dX1_finish_66 rfl (lv_at hl 1 rfl) ?_
          refine lv_iload_n hx hb dX1_finish_67 rfl (lv_at hl 2 rfl) ?_
          refine lv_iload_n hx hb dX1_finish_68 rfl (lv_at hl 0 rfl) ?_
          refine lv_iushr (v := f_ush (nI (n * 8)) (nI 8)) hx hb dX1_finish_69 rfl ?_
          refine fcVV (As := [.int (f_ush (nI (n * 8)) (nI 8))]) (rest := []) (wr := []) (ws1 := fun (u : Unit) => [(h, .inr (1, [.ref tx1, .ref sc, .ref st, .int (nI (((124 + 1) + 1) + 1))])), (tx1, .inl (G.2.1, 128, .inl (nb (upb (upb (upb T1 124 (toB (f_ush (nI (n * 8)) (nI 24)))) (124 + 1) (toB (f_ush (nI (n * 8)) (nI 16)))) ((124 + 1) + 1) (toB (f_ush (nI (n * 8)) (nI 8))))))), (sc, .inl (G.2.1, 64, .inl S)), (st, .inl (G.2.1, 8, .inl v))]) ⟨hx, hb, hml, hown, hts⟩ hK hE hP hD hS hA hl.1 (kX1_put l G h tx1 sc st (upb (upb T1 124 (toB (f_ush (nI (n * 8)) (nI 24)))) (124 + 1) (toB (f_ush (nI (n * 8)) (nI 16)))) ((124 + 1) + 1) S v (f_ush (nI (n * 8)) (nI 8)) (by omega)) (cwV 1 hts (gdV wm_57 wm_58 wm_59 wm_56 wm_49) rfl rfl rfl (by decide +kernel) ⟨Nat.le_of_ble_eq_true rfl, Nat.le_of_ble_eq_true rfl⟩) 0 rfl rfl rfl rfl (Nat.le_of_ble_eq_true rfl) dX1_finish_70 ⟨Nat.le_of_ble_eq_true rfl, Nat.le_of_ble_eq_true rfl⟩ [0, 1, 2, 3] [] [0, 1, 2, 3] rfl rfl rfl rfl (by decide) rfl (fun _ => rfl) (fun u_70_2 H_70_2 locs_70_2 hw_70_2 hP_70_2 hD_70_2 hS_70_2 => ?_)
          replace hP : va_P G.1 vwCl [(h, .inr (1, [.ref tx1, .ref sc, .ref st, .int (nI (((124 + 1) + 1) + 1))])), (tx1, .inl (G.2.1, 128, .inl (nb (upb (upb (upb T1 124 (toB (f_ush (nI (n * 8)) (nI 24)))) (124 + 1) (toB (f_ush (nI (n * 8)) (nI 16)))) ((124 + 1) + 1) (toB (f_ush (nI (n * 8)) (nI 8))))))), (sc, .inl (G.2.1, 64, .inl S)), (st, .inl (G.2.1, 8, .inl v))] H_70_2 := hP_70_2
          replace hD : va_D A [(h, .inr (1, [.ref tx1, .ref sc, .ref st, .int (nI (((124 + 1) + 1) + 1))])), (tx1, .inl (G.2.1, 128, .inl (nb (upb (upb (upb T1 124 (toB (f_ush (nI (n * 8)) (nI 24)))) (124 + 1) (toB (f_ush (nI (n * 8)) (nI 16)))) ((124 + 1) + 1) (toB (f_ush (nI (n * 8)) (nI 8))))))), (sc, .inl (G.2.1, 64, .inl S)), (st, .inl (G.2.1, 8, .inl v))] := hD_70_2
          replace hS : va_S A sv.heap H_70_2 locs_70_2 := hS_70_2
          clear hP_70_2 hD_70_2 hS_70_2
          replace hT1 := pad_len (b := toB (f_ush (nI (n * 8)) (nI 8))) (s := 2) hT1 (by omega) (by omega) (by rw [hn])
          refine lv_iinc (v := nI 0) (lv' := [(3, .int (nI 0)), (0, .ref h), (1, .int (nI (n * 8))), (2, .int (nI 128))]) hx hb dX1_finish_73 hl (k := 0) rfl (by decide) (by decide) rfl (fun ls hl2 => ?_)
          replace hl := hl2; clear hl2
          refine lv_goto (tgt := 62) hx hb dX1_finish_76 (by decide) ?_
          refine lv_iload_n hx hb dX1_finish_62 rfl (lv_at hl 0 rfl) ?_
          refine lv_if_lt (tgt := 79) hx hb dX1_finish_63 (by decide) (fun c9 => absurd c9 (by decide)) (fun _ => ?_)
          refine lv_aload_n hx hb dX1_finish_66 rfl (lv_at hl 1 rfl) ?_
          refine lv_iload_n hx hb dX1_finish_67 rfl (lv_at hl 2 rfl) ?_
          refine lv_iload_n hx hb dX1_finish_68 rfl (lv_at hl 0 rfl) ?_
          refine lv_iushr (v := f_ush (nI (n * 8)) (nI 0)) hx hb dX1_finish_69 rfl ?_
          refine fcVV (As := [.int (f_ush (nI (n * 8)) (nI 0))]) (rest := []) (wr := []) (ws1 := fun (u : Unit) => [(h, .inr (1, [.ref tx1, .ref sc, .ref st, .int (nI ((((124 + 1) + 1) + 1) + 1))])), (tx1, .inl (G.2.1, 128, .inl (nb (upb (upb (upb (upb T1 124 (toB (f_ush (nI (n * 8)) (nI 24)))) (124 + 1) (toB (f_ush (nI (n * 8)) (nI 16)))) ((124 + 1) + 1) (toB (f_ush (nI (n * 8)) (nI 8)))) (((124 + 1) + 1) + 1) (toB (f_ush (nI (n * 8)) (nI 0))))))), (sc, .inl (G.2.1, 64, .inl S)), (st, .inl (G.2.1, 8, .inl v))]) ⟨hx, hb, hml, hown, hts⟩ hK hE hP hD hS hA hl.1 (kX1_put l G h tx1 sc st (upb (upb (upb T1 124 (toB (f_ush (nI (n * 8)) (nI 24)))) (124 + 1) (toB (f_ush (nI (n * 8)) (nI 16)))) ((124 + 1) + 1) (toB (f_ush (nI (n * 8)) (nI 8)))) (((124 + 1) + 1) + 1) S v (f_ush (nI (n * 8)) (nI 0)) (by omega)) (cwV 1 hts (gdV wm_57 wm_58 wm_59 wm_56 wm_49) rfl rfl rfl (by decide +kernel) ⟨Nat.le_of_ble_eq_true rfl, Nat.le_of_ble_eq_true rfl⟩) 0 rfl rfl rfl rfl (Nat.le_of_ble_eq_true rfl) dX1_finish_70 ⟨Nat.le_of_ble_eq_true rfl, Nat.le_of_ble_eq_true rfl⟩ [0, 1, 2, 3] [] [0, 1, 2, 3] rfl rfl rfl rfl (by decide) rfl (fun _ => rfl) (fun u_70_3 H_70_3 locs_70_3 hw_70_3 hP_70_3 hD_70_3 hS_70_3 => ?_)
          replace hP : va_P G.1 vwCl [(h, .inr (1, [.ref tx1, .ref sc, .ref st, .int (nI ((((124 + 1) + 1) + 1) + 1))])), (tx1, .inl (G.2.1, 128, .inl (nb (upb (upb (upb (upb T1 124 (toB (f_ush (nI (n * 8)) (nI 24)))) (124 + 1) (toB (f_ush (nI (n * 8)) (nI 16)))) ((124 + 1) + 1) (toB (f_ush (nI (n * 8)) (nI 8)))) (((124 + 1) + 1) + 1) (toB (f_ush (nI (n * 8)) (nI 0))))))), (sc, .inl (G.2.1, 64, .inl S)), (st, .inl (G.2.1, 8, .inl v))] H_70_3 := hP_70_3
          replace hD : va_D A [(h, .inr (1, [.ref tx1, .ref sc, .ref st, .int (nI ((((124 + 1) + 1) + 1) + 1))])), (tx1, .inl (G.2.1, 128, .inl (nb (upb (upb (upb (upb T1 124 (toB (f_ush (nI (n * 8)) (nI 24)))) (124 + 1) (toB (f_ush (nI (n * 8)) (nI 16)))) ((124 + 1) + 1) (toB (f_ush (nI (n * 8)) (nI 8)))) (((124 + 1) + 1) + 1) (toB (f_ush (nI (n * 8)) (nI 0))))))), (sc, .inl (G.2.1, 64, .inl S)), (st, .inl (G.2.1, 8, .inl v))] := hD_70_3
          replace hS : va_S A sv.heap H_70_3 locs_70_3 := hS_70_3
          clear hP_70_3 hD_70_3 hS_70_3
          replace hT1 := pad_len (b := toB (f_ush (nI (n * 8)) (nI 0))) (s := 3) hT1 (by omega) (by omega) (by rw [hn])
          refine lv_iinc (v := -8) (lv' := [(3, .int (-8)), (0, .ref h), (1, .int (nI (n * 8))), (2, .int (nI 128))]) hx hb dX1_finish_73 hl (k := 0) rfl (by decide) (by decide) rfl (fun ls hl2 => ?_)
          replace hl := hl2; clear hl2
          refine lv_goto (tgt := 62) hx hb dX1_finish_76 (by decide) ?_
          refine lv_iload_n hx hb dX1_finish_62 rfl (lv_at hl 0 rfl) ?_
          refine lv_if_lt (tgt := 79) hx hb dX1_finish_63 (by decide) (fun _ => ?_) (fun c9 => absurd (by decide) c9)
          refine lv_iconst (v := nI 0) hx hb dX1_finish_79 (by decide) ?_
          refine lv_istore_n (lv' := [(3, .int (nI 0)), (0, .ref h), (1, .int (nI (n * 8))), (2, .int (nI 128))]) hx hb dX1_finish_80 rfl hl (by decide) rfl (fun ls hl2 => ?_)
          replace hl := hl2; clear hl2
          have L_81 : ∀ (n9 : Nat) (k : Nat) (v1 : Nat → Int32) (H : Heap) (locs : List Loc) (ls : Array Slot), (9 - k) < n9 → (k ≤ 8) → (∀ j, j < k → v1 j = HI j) → va_P G.1 vwCl [(h, .inr (1, [.ref tx1, .ref sc, .ref st, .int (nI ((((124 + 1) + 1) + 1) + 1))])), (tx1, .inl (G.2.1, 128, .inl (nb (upb (upb (upb (upb T1 124 (toB (f_ush (nI (n * 8)) (nI 24)))) (124 + 1) (toB (f_ush (nI (n * 8)) (nI 16)))) ((124 + 1) + 1) (toB (f_ush (nI (n * 8)) (nI 8)))) (((124 + 1) + 1) + 1) (toB (f_ush (nI (n * 8)) (nI 0))))))), (sc, .inl (G.2.1, 64, .inl S)), (st, .inl (G.2.1, 8, .inl v1))] H → va_D A [(h, .inr (1, [.ref tx1, .ref sc, .ref st, .int (nI ((((124 + 1) + 1) + 1) + 1))])), (tx1, .inl (G.2.1, 128, .inl (nb (upb (upb (upb (upb T1 124 (toB (f_ush (nI (n * 8)) (nI 24)))) (124 + 1) (toB (f_ush (nI (n * 8)) (nI 16)))) ((124 + 1) + 1) (toB (f_ush (nI (n * 8)) (nI 8)))) (((124 + 1) + 1) + 1) (toB (f_ush (nI (n * 8)) (nI 0))))))), (sc, .inl (G.2.1, 64, .inl S)), (st, .inl (G.2.1, 8, .inl v1))] → va_S A sv.heap H locs → lv_has ls 4 [(0, .ref h), (2, .int (nI 128)), (3, .int (nI k))] → W prg l env ({ frames := 2, cells := 0, slots := 0, locals := 54 } : Room) sv mid args below meth cd H locs 0 0 Q (F0 mid 81 ls []) := by
            intro n9
            induction n9 with
            | zero => intro k v1 H locs ls hmu; exact absurd hmu (Nat.not_lt_zero _)
            | succ n9 ih_81 =>
              intro k v1 H locs ls hmu_81 hk1 hv1 hP hD hS hl
              refine lv_iload_n hx hb dX1_finish_81 rfl (lv_at hl 2 rfl) ?_
              refine lv_bipush (v := nI 8) hx hb dX1_finish_82 (by decide) ?_
              refine f_icmp_ge (tgt := 104) (by omega) (by omega) hx hb dX1_finish_84 (by decide) (fun c_84 => ?_) (fun c_84 => ?_)
              · skip
                obtain rfl : k = 8 := by omega
                replace hP : va_P G.1 vwCl [(h, .inr (1, [.ref tx1, .ref sc, .ref st, .int (nI ((((124 + 1) + 1) + 1) + 1))])), (tx1, .inl (G.2.1, 128, .inl (nb (upb (upb (upb (upb T1 124 (toB (f_ush (nI (n * 8)) (nI 24)))) (124 + 1) (toB (f_ush (nI (n * 8)) (nI 16)))) ((124 + 1) + 1) (toB (f_ush (nI (n * 8)) (nI 8)))) (((124 + 1) + 1) + 1) (toB (f_ush (nI (n * 8)) (nI 0))))))), (sc, .inl (G.2.1, 64, .inl S)), (st, .inl (G.2.1, 8, .inl HI))] H := f_row hP 3 rfl (HI) hv1
                replace hD : va_D A [(h, .inr (1, [.ref tx1, .ref sc, .ref st, .int (nI ((((124 + 1) + 1) + 1) + 1))])), (tx1, .inl (G.2.1, 128, .inl (nb (upb (upb (upb (upb T1 124 (toB (f_ush (nI (n * 8)) (nI 24)))) (124 + 1) (toB (f_ush (nI (n * 8)) (nI 16)))) ((124 + 1) + 1) (toB (f_ush (nI (n * 8)) (nI 8)))) (((124 + 1) + 1) + 1) (toB (f_ush (nI (n * 8)) (nI 0))))))), (sc, .inl (G.2.1, 64, .inl S)), (st, .inl (G.2.1, 8, .inl HI))] := f_rowD hD 3 rfl
                refine lv_iconst (v := nI 0) hx hb dX1_finish_104 (by decide) ?_
                refine lv_istore_n (lv' := [(3, .int (nI 0)), (0, .ref h), (2, .int (nI 128))]) hx hb dX1_finish_105 rfl hl (by decide) rfl (fun ls hl2 => ?_)
                replace hl := hl2; clear hl2
                refine lv_iload_n hx hb dX1_finish_106 rfl (lv_at hl 0 rfl) ?_
                refine lv_bipush (v := nI 64) hx hb dX1_finish_107 (by decide) ?_
                refine lv_iadd hx hb dX1_finish_109 ?_
                refine f_top (y := nI 64) (by decide) ?_
                refine lv_iload_n hx hb dX1_finish_110 rfl (lv_at hl 2 rfl) ?_
                refine lv_icmp_gt (tgt := 129) hx hb dX1_finish_111 (by decide) (fun c9 => absurd c9 (by decide)) (fun _ => ?_)
                refine lv_aload_n hx hb dX1_finish_114 rfl (lv_at hl 1 rfl) ?_
                refine lv_iload_n hx hb dX1_finish_115 rfl (lv_at hl 0 rfl) ?_
                refine fcVV (As := [.int (nI 0)]) (rest := []) (wr := []) (ws1 := fun (u : Unit) => [(h, .inr (1, [.ref tx1, .ref sc, .ref st, .int (nI ((((124 + 1) + 1) + 1) + 1))])), (tx1, .inl (G.2.1, 128, .inl (nb (upb (upb (upb (upb T1 124 (toB (f_ush (nI (n * 8)) (nI 24)))) (124 + 1) (toB (f_ush (nI (n * 8)) (nI 16)))) ((124 + 1) + 1) (toB (f_ush (nI (n * 8)) (nI 8)))) (((124 + 1) + 1) + 1) (toB (f_ush (nI (n * 8)) (nI 0))))))), (sc, .inl (G.2.1, 64, .inl (sch (upb (upb (upb (upb T1 124 (toB (f_ush (nI (n * 8)) (nI 24)))) (124 + 1) (toB (f_ush (nI (n * 8)) (nI 16)))) ((124 + 1) + 1) (toB (f_ush (nI (n * 8)) (nI 8)))) (((124 + 1) + 1) + 1) (toB (f_ush (nI (n * 8)) (nI 0)))) 0))), (st, .inl (G.2.1, 8, .inl HI))]) ⟨hx, hb, hml, hown, hts⟩ hK hE hP hD hS hA hl.1 (kX1_expand l G h tx1 sc st (upb (upb (upb (upb T1 124 (toB (f_ush (nI (n * 8)) (nI 24)))) (124 + 1) (toB (f_ush (nI (n * 8)) (nI 16)))) ((124 + 1) + 1) (toB (f_ush (nI (n * 8)) (nI 8)))) (((124 + 1) + 1) + 1) (toB (f_ush (nI (n * 8)) (nI 0)))) ((((124 + 1) + 1) + 1) + 1) S HI 0 (by omega)) (cwV 1 hts (gdV wm_66 wm_67 wm_68 wm_56 wm_61) rfl rfl rfl (by decide +kernel) ⟨Nat.le_of_ble_eq_true rfl, Nat.le_of_ble_eq_true rfl⟩) 0 rfl rfl rfl rfl (Nat.le_of_ble_eq_true rfl) dX1_finish_116 ⟨Nat.le_of_ble_eq_true rfl, Nat.le_of_ble_eq_true rfl⟩ [0, 1, 2, 3] [] [0, 1, 2, 3] rfl rfl rfl rfl (by decide) rfl (fun _ => rfl) (fun u_116 H_116 locs_116 hw_116 hP_116 hD_116 hS_116 => ?_)
                replace hP : va_P G.1 vwCl [(h, .inr (1, [.ref tx1, .ref sc, .ref st, .int (nI ((((124 + 1) + 1) + 1) + 1))])), (tx1, .inl (G.2.1, 128, .inl (nb (upb (upb (upb (upb T1 124 (toB (f_ush (nI (n * 8)) (nI 24)))) (124 + 1) (toB (f_ush (nI (n * 8)) (nI 16)))) ((124 + 1) + 1) (toB (f_ush (nI (n * 8)) (nI 8)))) (((124 + 1) + 1) + 1) (toB (f_ush (nI (n * 8)) (nI 0))))))), (sc, .inl (G.2.1, 64, .inl (sch (upb (upb (upb (upb T1 124 (toB (f_ush (nI (n * 8)) (nI 24)))) (124 + 1) (toB (f_ush (nI (n * 8)) (nI 16)))) ((124 + 1) + 1) (toB (f_ush (nI (n * 8)) (nI 8)))) (((124 + 1) + 1) + 1) (toB (f_ush (nI (n * 8)) (nI 0)))) 0))), (st, .inl (G.2.1, 8, .inl HI))] H_116 := hP_116
                replace hD : va_D A [(h, .inr (1, [.ref tx1, .ref sc, .ref st, .int (nI ((((124 + 1) + 1) + 1) + 1))])), (tx1, .inl (G.2.1, 128, .inl (nb (upb (upb (upb (upb T1 124 (toB (f_ush (nI (n * 8)) (nI 24)))) (124 + 1) (toB (f_ush (nI (n * 8)) (nI 16)))) ((124 + 1) + 1) (toB (f_ush (nI (n * 8)) (nI 8)))) (((124 + 1) + 1) + 1) (toB (f_ush (nI (n * 8)) (nI 0))))))), (sc, .inl (G.2.1, 64, .inl (sch (upb (upb (upb (upb T1 124 (toB (f_ush (nI (n * 8)) (nI 24)))) (124 + 1) (toB (f_ush (nI (n * 8)) (nI 16)))) ((124 + 1) + 1) (toB (f_ush (nI (n * 8)) (nI 8)))) (((124 + 1) + 1) + 1) (toB (f_ush (nI (n * 8)) (nI 0)))) 0))), (st, .inl (G.2.1, 8, .inl HI))] := hD_116
                replace hS : va_S A sv.heap H_116 locs_116 := hS_116
                clear hP_116 hD_116 hS_116
                refine lv_aload_n hx hb dX1_finish_119 rfl (lv_at hl 1 rfl) ?_
                refine fcVV (As := []) (rest := []) (wr := []) (ws1 := fun (u : Unit) => [(h, .inr (1, [.ref tx1, .ref sc, .ref st, .int (nI ((((124 + 1) + 1) + 1) + 1))])), (tx1, .inl (G.2.1, 128, .inl (nb (upb (upb (upb (upb T1 124 (toB (f_ush (nI (n * 8)) (nI 24)))) (124 + 1) (toB (f_ush (nI (n * 8)) (nI 16)))) ((124 + 1) + 1) (toB (f_ush (nI (n * 8)) (nI 8)))) (((124 + 1) + 1) + 1) (toB (f_ush (nI (n * 8)) (nI 0))))))), (sc, .inl (G.2.1, 64, .inl (sch (upb (upb (upb (upb T1 124 (toB (f_ush (nI (n * 8)) (nI 24)))) (124 + 1) (toB (f_ush (nI (n * 8)) (nI 16)))) ((124 + 1) + 1) (toB (f_ush (nI (n * 8)) (nI 8)))) (((124 + 1) + 1) + 1) (toB (f_ush (nI (n * 8)) (nI 0)))) 0))), (st, .inl (G.2.1, 8, .inl (bkv (sch (upb (upb (upb (upb T1 124 (toB (f_ush (nI (n * 8)) (nI 24)))) (124 + 1) (toB (f_ush (nI (n * 8)) (nI 16)))) ((124 + 1) + 1) (toB (f_ush (nI (n * 8)) (nI 8)))) (((124 + 1) + 1) + 1) (toB (f_ush (nI (n * 8)) (nI 0)))) 0) HI)))]) ⟨hx, hb, hml, hown, hts⟩ hK hE hP hD hS hA hl.1 (kX1_compress l G h tx1 sc st (upb (upb (upb (upb T1 124 (toB (f_ush (nI (n * 8)) (nI 24)))) (124 + 1) (toB (f_ush (nI (n * 8)) (nI 16)))) ((124 + 1) + 1) (toB (f_ush (nI (n * 8)) (nI 8)))) (((124 + 1) + 1) + 1) (toB (f_ush (nI (n * 8)) (nI 0)))) ((((124 + 1) + 1) + 1) + 1) (sch (upb (upb (upb (upb T1 124 (toB (f_ush (nI (n * 8)) (nI 24)))) (124 + 1) (toB (f_ush (nI (n * 8)) (nI 16)))) ((124 + 1) + 1) (toB (f_ush (nI (n * 8)) (nI 8)))) (((124 + 1) + 1) + 1) (toB (f_ush (nI (n * 8)) (nI 0)))) 0) HI ) (cwV 0 hts (gdV wm_69 wm_70 wm_71 wm_56 wm_64) rfl rfl rfl (by decide +kernel) ⟨Nat.le_of_ble_eq_true rfl, Nat.le_of_ble_eq_true rfl⟩) 0 rfl rfl rfl rfl (Nat.le_of_ble_eq_true rfl) dX1_finish_120 ⟨Nat.le_of_ble_eq_true rfl, Nat.le_of_ble_eq_true rfl⟩ [0, 1, 2, 3] [] [0, 1, 2, 3] rfl rfl rfl rfl (by decide) rfl (fun _ => rfl) (fun u_120 H_120 locs_120 hw_120 hP_120 hD_120 hS_120 => ?_)
                replace hP : va_P G.1 vwCl [(h, .inr (1, [.ref tx1, .ref sc, .ref st, .int (nI ((((124 + 1) + 1) + 1) + 1))])), (tx1, .inl (G.2.1, 128, .inl (nb (upb (upb (upb (upb T1 124 (toB (f_ush (nI (n * 8)) (nI 24)))) (124 + 1) (toB (f_ush (nI (n * 8)) (nI 16)))) ((124 + 1) + 1) (toB (f_ush (nI (n * 8)) (nI 8)))) (((124 + 1) + 1) + 1) (toB (f_ush (nI (n * 8)) (nI 0))))))), (sc, .inl (G.2.1, 64, .inl (sch (upb (upb (upb (upb T1 124 (toB (f_ush (nI (n * 8)) (nI 24)))) (124 + 1) (toB (f_ush (nI (n * 8)) (nI 16)))) ((124 + 1) + 1) (toB (f_ush (nI (n * 8)) (nI 8)))) (((124 + 1) + 1) + 1) (toB (f_ush (nI (n * 8)) (nI 0)))) 0))), (st, .inl (G.2.1, 8, .inl (bkv (sch (upb (upb (upb (upb T1 124 (toB (f_ush (nI (n * 8)) (nI 24)))) (124 + 1) (toB (f_ush (nI (n * 8)) (nI 16)))) ((124 + 1) + 1) (toB (f_ush (nI (n * 8)) (nI 8)))) (((124 + 1) + 1) + 1) (toB (f_ush (nI (n * 8)) (nI 0)))) 0) HI)))] H_120 := hP_120
                replace hD : va_D A [(h, .inr (1, [.ref tx1, .ref sc, .ref st, .int (nI ((((124 + 1) + 1) + 1) + 1))])), (tx1, .inl (G.2.1, 128, .inl (nb (upb (upb (upb (upb T1 124 (toB (f_ush (nI (n * 8)) (nI 24)))) (124 + 1) (toB (f_ush (nI (n * 8)) (nI 16)))) ((124 + 1) + 1) (toB (f_ush (nI (n * 8)) (nI 8)))) (((124 + 1) + 1) + 1) (toB (f_ush (nI (n * 8)) (nI 0))))))), (sc, .inl (G.2.1, 64, .inl (sch (upb (upb (upb (upb T1 124 (toB (f_ush (nI (n * 8)) (nI 24)))) (124 + 1) (toB (f_ush (nI (n * 8)) (nI 16)))) ((124 + 1) + 1) (toB (f_ush (nI (n * 8)) (nI 8)))) (((124 + 1) + 1) + 1) (toB (f_ush (nI (n * 8)) (nI 0)))) 0))), (st, .inl (G.2.1, 8, .inl (bkv (sch (upb (upb (upb (upb T1 124 (toB (f_ush (nI (n * 8)) (nI 24)))) (124 + 1) (toB (f_ush (nI (n * 8)) (nI 16)))) ((124 + 1) + 1) (toB (f_ush (nI (n * 8)) (nI 8)))) (((124 + 1) + 1) + 1) (toB (f_ush (nI (n * 8)) (nI 0)))) 0) HI)))] := hD_120
                replace hS : va_S A sv.heap H_120 locs_120 := hS_120
                clear hP_120 hD_120 hS_120
                refine lv_iinc (v := nI 64) (lv' := [(3, .int (nI 64)), (0, .ref h), (2, .int (nI 128))]) hx hb dX1_finish_123 hl (k := 0) rfl (by decide) (by decide) rfl (fun ls hl2 => ?_)
                replace hl := hl2; clear hl2
                refine lv_goto (tgt := 106) hx hb dX1_finish_126 (by decide) ?_
                refine lv_iload_n hx hb dX1_finish_106 rfl (lv_at hl 0 rfl) ?_
                refine lv_bipush (v := nI 64) hx hb dX1_finish_107 (by decide) ?_
                refine lv_iadd hx hb dX1_finish_109 ?_
                refine f_top (y := nI 128) (by decide) ?_
                refine lv_iload_n hx hb dX1_finish_110 rfl (lv_at hl 2 rfl) ?_
                refine lv_icmp_gt (tgt := 129) hx hb dX1_finish_111 (by decide) (fun c9 => absurd c9 (by decide)) (fun _ => ?_)
                refine lv_aload_n hx hb dX1_finish_114 rfl (lv_at hl 1 rfl) ?_
                refine lv_iload_n hx hb dX1_finish_115 rfl (lv_at hl 0 rfl) ?_
                refine fcVV (As := [.int (nI 64)]) (rest := []) (wr := []) (ws1 := fun (u : Unit) => [(h, .inr (1, [.ref tx1, .ref sc, .ref st, .int (nI ((((124 + 1) + 1) + 1) + 1))])), (tx1, .inl (G.2.1, 128, .inl (nb (upb (upb (upb (upb T1 124 (toB (f_ush (nI (n * 8)) (nI 24)))) (124 + 1) (toB (f_ush (nI (n * 8)) (nI 16)))) ((124 + 1) + 1) (toB (f_ush (nI (n * 8)) (nI 8)))) (((124 + 1) + 1) + 1) (toB (f_ush (nI (n * 8)) (nI 0))))))), (sc, .inl (G.2.1, 64, .inl (sch (upb (upb (upb (upb T1 124 (toB (f_ush (nI (n * 8)) (nI 24)))) (124 + 1) (toB (f_ush (nI (n * 8)) (nI 16)))) ((124 + 1) + 1) (toB (f_ush (nI (n * 8)) (nI 8)))) (((124 + 1) + 1) + 1) (toB (f_ush (nI (n * 8)) (nI 0)))) 64))), (st, .inl (G.2.1, 8, .inl (bkv (sch (upb (upb (upb (upb T1 124 (toB (f_ush (nI (n * 8)) (nI 24)))) (124 + 1) (toB (f_ush (nI (n * 8)) (nI 16)))) ((124 + 1) + 1) (toB (f_ush (nI (n * 8)) (nI 8)))) (((124 + 1) + 1) + 1) (toB (f_ush (nI (n * 8)) (nI 0)))) 0) HI)))]) ⟨hx, hb, hml, hown, hts⟩ hK hE hP hD hS hA hl.1 (kX1_expand l G h tx1 sc st (upb (upb (upb (upb T1 124 (toB (f_ush (nI (n * 8)) (nI 24)))) (124 + 1) (toB (f_ush (nI (n * 8)) (nI 16)))) ((124 + 1) + 1) (toB (f_ush (nI (n * 8)) (nI 8)))) (((124 + 1) + 1) + 1) (toB (f_ush (nI (n * 8)) (nI 0)))) ((((124 + 1) + 1) + 1) + 1) (sch (upb (upb (upb (upb T1 124 (toB (f_ush (nI (n * 8)) (nI 24)))) (124 + 1) (toB (f_ush (nI (n * 8)) (nI 16)))) ((124 + 1) + 1) (toB (f_ush (nI (n * 8)) (nI 8)))) (((124 + 1) + 1) + 1) (toB (f_ush (nI (n * 8)) (nI 0)))) 0) (bkv (sch (upb (upb (upb (upb T1 124 (toB (f_ush (nI (n * 8)) (nI 24)))) (124 + 1) (toB (f_ush (nI (n * 8)) (nI 16)))) ((124 + 1) + 1) (toB (f_ush (nI (n * 8)) (nI 8)))) (((124 + 1) + 1) + 1) (toB (f_ush (nI (n * 8)) (nI 0)))) 0) HI) 64 (by omega)) (cwV 1 hts (gdV wm_66 wm_67 wm_68 wm_56 wm_61) rfl rfl rfl (by decide +kernel) ⟨Nat.le_of_ble_eq_true rfl, Nat.le_of_ble_eq_true rfl⟩) 0 rfl rfl rfl rfl (Nat.le_of_ble_eq_true rfl) dX1_finish_116 ⟨Nat.le_of_ble_eq_true rfl, Nat.le_of_ble_eq_true rfl⟩ [0, 1, 2, 3] [] [0, 1, 2, 3] rfl rfl rfl rfl (by decide) rfl (fun _ => rfl) (fun u_116_1 H_116_1 locs_116_1 hw_116_1 hP_116_1 hD_116_1 hS_116_1 => ?_)
                replace hP : va_P G.1 vwCl [(h, .inr (1, [.ref tx1, .ref sc, .ref st, .int (nI ((((124 + 1) + 1) + 1) + 1))])), (tx1, .inl (G.2.1, 128, .inl (nb (upb (upb (upb (upb T1 124 (toB (f_ush (nI (n * 8)) (nI 24)))) (124 + 1) (toB (f_ush (nI (n * 8)) (nI 16)))) ((124 + 1) + 1) (toB (f_ush (nI (n * 8)) (nI 8)))) (((124 + 1) + 1) + 1) (toB (f_ush (nI (n * 8)) (nI 0))))))), (sc, .inl (G.2.1, 64, .inl (sch (upb (upb (upb (upb T1 124 (toB (f_ush (nI (n * 8)) (nI 24)))) (124 + 1) (toB (f_ush (nI (n * 8)) (nI 16)))) ((124 + 1) + 1) (toB (f_ush (nI (n * 8)) (nI 8)))) (((124 + 1) + 1) + 1) (toB (f_ush (nI (n * 8)) (nI 0)))) 64))), (st, .inl (G.2.1, 8, .inl (bkv (sch (upb (upb (upb (upb T1 124 (toB (f_ush (nI (n * 8)) (nI 24)))) (124 + 1) (toB (f_ush (nI (n * 8)) (nI 16)))) ((124 + 1) + 1) (toB (f_ush (nI (n * 8)) (nI 8)))) (((124 + 1) + 1) + 1) (toB (f_ush (nI (n * 8)) (nI 0)))) 0) HI)))] H_116_1 := hP_116_1
                replace hD : va_D A [(h, .inr (1, [.ref tx1, .ref sc, .ref st, .int (nI ((((124 + 1) + 1) + 1) + 1))])), (tx1, .inl (G.2.1, 128, .inl (nb (upb (upb (upb (upb T1 124 (toB (f_ush (nI (n * 8)) (nI 24)))) (124 + 1) (toB (f_ush (nI (n * 8)) (nI 16)))) ((124 + 1) + 1) (toB (f_ush (nI (n * 8)) (nI 8)))) (((124 + 1) + 1) + 1) (toB (f_ush (nI (n * 8)) (nI 0))))))), (sc, .inl (G.2.1, 64, .inl (sch (upb (upb (upb (upb T1 124 (toB (f_ush (nI (n * 8)) (nI 24)))) (124 + 1) (toB (f_ush (nI (n * 8)) (nI 16)))) ((124 + 1) + 1) (toB (f_ush (nI (n * 8)) (nI 8)))) (((124 + 1) + 1) + 1) (toB (f_ush (nI (n * 8)) (nI 0)))) 64))), (st, .inl (G.2.1, 8, .inl (bkv (sch (upb (upb (upb (upb T1 124 (toB (f_ush (nI (n * 8)) (nI 24)))) (124 + 1) (toB (f_ush (nI (n * 8)) (nI 16)))) ((124 + 1) + 1) (toB (f_ush (nI (n * 8)) (nI 8)))) (((124 + 1) + 1) + 1) (toB (f_ush (nI (n * 8)) (nI 0)))) 0) HI)))] := hD_116_1
                replace hS : va_S A sv.heap H_116_1 locs_116_1 := hS_116_1
                clear hP_116_1 hD_116_1 hS_116_1
                refine lv_aload_n hx hb dX1_finish_119 rfl (lv_at hl 1 rfl) ?_
                refine fcVV (As := []) (rest := []) (wr := []) (ws1 := fun (u : Unit) => [(h, .inr (1, [.ref tx1, .ref sc, .ref st, .int (nI ((((124 + 1) + 1) + 1) + 1))])), (tx1, .inl (G.2.1, 128, .inl (nb (upb (upb (upb (upb T1 124 (toB (f_ush (nI (n * 8)) (nI 24)))) (124 + 1) (toB (f_ush (nI (n * 8)) (nI 16)))) ((124 + 1) + 1) (toB (f_ush (nI (n * 8)) (nI 8)))) (((124 + 1) + 1) + 1) (toB (f_ush (nI (n * 8)) (nI 0))))))), (sc, .inl (G.2.1, 64, .inl (sch (upb (upb (upb (upb T1 124 (toB (f_ush (nI (n * 8)) (nI 24)))) (124 + 1) (toB (f_ush (nI (n * 8)) (nI 16)))) ((124 + 1) + 1) (toB (f_ush (nI (n * 8)) (nI 8)))) (((124 + 1) + 1) + 1) (toB (f_ush (nI (n * 8)) (nI 0)))) 64))), (st, .inl (G.2.1, 8, .inl (bkv (sch (upb (upb (upb (upb T1 124 (toB (f_ush (nI (n * 8)) (nI 24)))) (124 + 1) (toB (f_ush (nI (n * 8)) (nI 16)))) ((124 + 1) + 1) (toB (f_ush (nI (n * 8)) (nI 8)))) (((124 + 1) + 1) + 1) (toB (f_ush (nI (n * 8)) (nI 0)))) 64) (bkv (sch (upb (upb (upb (upb T1 124 (toB (f_ush (nI (n * 8)) (nI 24)))) (124 + 1) (toB (f_ush (nI (n * 8)) (nI 16)))) ((124 + 1) + 1) (toB (f_ush (nI (n * 8)) (nI 8)))) (((124 + 1) + 1) + 1) (toB (f_ush (nI (n * 8)) (nI 0)))) 0) HI))))]) ⟨hx, hb, hml, hown, hts⟩ hK hE hP hD hS hA hl.1 (kX1_compress l G h tx1 sc st (upb (upb (upb (upb T1 124 (toB (f_ush (nI (n * 8)) (nI 24)))) (124 + 1) (toB (f_ush (nI (n * 8)) (nI 16)))) ((124 + 1) + 1) (toB (f_ush (nI (n * 8)) (nI 8)))) (((124 + 1) + 1) + 1) (toB (f_ush (nI (n * 8)) (nI 0)))) ((((124 + 1) + 1) + 1) + 1) (sch (upb (upb (upb (upb T1 124 (toB (f_ush (nI (n * 8)) (nI 24)))) (124 + 1) (toB (f_ush (nI (n * 8)) (nI 16)))) ((124 + 1) + 1) (toB (f_ush (nI (n * 8)) (nI 8)))) (((124 + 1) + 1) + 1) (toB (f_ush (nI (n * 8)) (nI 0)))) 64) (bkv (sch (upb (upb (upb (upb T1 124 (toB (f_ush (nI (n * 8)) (nI 24)))) (124 + 1) (toB (f_ush (nI (n * 8)) (nI 16)))) ((124 + 1) + 1) (toB (f_ush (nI (n * 8)) (nI 8)))) (((124 + 1) + 1) + 1) (toB (f_ush (nI (n * 8)) (nI 0)))) 0) HI) ) (cwV 0 hts (gdV wm_69 wm_70 wm_71 wm_56 wm_64) rfl rfl rfl (by decide +kernel) ⟨Nat.le_of_ble_eq_true rfl, Nat.le_of_ble_eq_true rfl⟩) 0 rfl rfl rfl rfl (Nat.le_of_ble_eq_true rfl) dX1_finish_120 ⟨Nat.le_of_ble_eq_true rfl, Nat.le_of_ble_eq_true rfl⟩ [0, 1, 2, 3] [] [0, 1, 2, 3] rfl rfl rfl rfl (by decide) rfl (fun _ => rfl) (fun u_120_1 H_120_1 locs_120_1 hw_120_1 hP_120_1 hD_120_1 hS_120_1 => ?_)
                replace hP : va_P G.1 vwCl [(h, .inr (1, [.ref tx1, .ref sc, .ref st, .int (nI ((((124 + 1) + 1) + 1) + 1))])), (tx1, .inl (G.2.1, 128, .inl (nb (upb (upb (upb (upb T1 124 (toB (f_ush (nI (n * 8)) (nI 24)))) (124 + 1) (toB (f_ush (nI (n * 8)) (nI 16)))) ((124 + 1) + 1) (toB (f_ush (nI (n * 8)) (nI 8)))) (((124 + 1) + 1) + 1) (toB (f_ush (nI (n * 8)) (nI 0))))))), (sc, .inl (G.2.1, 64, .inl (sch (upb (upb (upb (upb T1 124 (toB (f_ush (nI (n * 8)) (nI 24)))) (124 + 1) (toB (f_ush (nI (n * 8)) (nI 16)))) ((124 + 1) + 1) (toB (f_ush (nI (n * 8)) (nI 8)))) (((124 + 1) + 1) + 1) (toB (f_ush (nI (n * 8)) (nI 0)))) 64))), (st, .inl (G.2.1, 8, .inl (bkv (sch (upb (upb (upb (upb T1 124 (toB (f_ush (nI (n * 8)) (nI 24)))) (124 + 1) (toB (f_ush (nI (n * 8)) (nI 16)))) ((124 + 1) + 1) (toB (f_ush (nI (n * 8)) (nI 8)))) (((124 + 1) + 1) + 1) (toB (f_ush (nI (n * 8)) (nI 0)))) 64) (bkv (sch (upb (upb (upb (upb T1 124 (toB (f_ush (nI (n * 8)) (nI 24)))) (124 + 1) (toB (f_ush (nI (n * 8)) (nI 16)))) ((124 + 1) + 1) (toB (f_ush (nI (n * 8)) (nI 8)))) (((124 + 1) + 1) + 1) (toB (f_ush (nI (n * 8)) (nI 0)))) 0) HI))))] H_120_1 := hP_120_1
                replace hD : va_D A [(h, .inr (1, [.ref tx1, .ref sc, .ref st, .int (nI ((((124 + 1) + 1) + 1) + 1))])), (tx1, .inl (G.2.1, 128, .inl (nb (upb (upb (upb (upb T1 124 (toB (f_ush (nI (n * 8)) (nI 24)))) (124 + 1) (toB (f_ush (nI (n * 8)) (nI 16)))) ((124 + 1) + 1) (toB (f_ush (nI (n * 8)) (nI 8)))) (((124 + 1) + 1) + 1) (toB (f_ush (nI (n * 8)) (nI 0))))))), (sc, .inl (G.2.1, 64, .inl (sch (upb (upb (upb (upb T1 124 (toB (f_ush (nI (n * 8)) (nI 24)))) (124 + 1) (toB (f_ush (nI (n * 8)) (nI 16)))) ((124 + 1) + 1) (toB (f_ush (nI (n * 8)) (nI 8)))) (((124 + 1) + 1) + 1) (toB (f_ush (nI (n * 8)) (nI 0)))) 64))), (st, .inl (G.2.1, 8, .inl (bkv (sch (upb (upb (upb (upb T1 124 (toB (f_ush (nI (n * 8)) (nI 24)))) (124 + 1) (toB (f_ush (nI (n * 8)) (nI 16)))) ((124 + 1) + 1) (toB (f_ush (nI (n * 8)) (nI 8)))) (((124 + 1) + 1) + 1) (toB (f_ush (nI (n * 8)) (nI 0)))) 64) (bkv (sch (upb (upb (upb (upb T1 124 (toB (f_ush (nI (n * 8)) (nI 24)))) (124 + 1) (toB (f_ush (nI (n * 8)) (nI 16)))) ((124 + 1) + 1) (toB (f_ush (nI (n * 8)) (nI 8)))) (((124 + 1) + 1) + 1) (toB (f_ush (nI (n * 8)) (nI 0)))) 0) HI))))] := hD_120_1
                replace hS : va_S A sv.heap H_120_1 locs_120_1 := hS_120_1
                clear hP_120_1 hD_120_1 hS_120_1
                refine lv_iinc (v := nI 128) (lv' := [(3, .int (nI 128)), (0, .ref h), (2, .int (nI 128))]) hx hb dX1_finish_123 hl (k := 0) rfl (by decide) (by decide) rfl (fun ls hl2 => ?_)
                replace hl := hl2; clear hl2
                refine lv_goto (tgt := 106) hx hb dX1_finish_126 (by decide) ?_
                refine lv_iload_n hx hb dX1_finish_106 rfl (lv_at hl 0 rfl) ?_
                refine lv_bipush (v := nI 64) hx hb dX1_finish_107 (by decide) ?_
                refine lv_iadd hx hb dX1_finish_109 ?_
                refine f_top (y := nI 192) (by decide) ?_
                refine lv_iload_n hx hb dX1_finish_110 rfl (lv_at hl 2 rfl) ?_
                refine lv_icmp_gt (tgt := 129) hx hb dX1_finish_111 (by decide) (fun _ => ?_) (fun c9 => absurd (by decide) c9)
                replace hP : va_P G.1 vwCl [(h, .inr (1, [.ref tx1, .ref sc, .ref st, .int (nI ((((124 + 1) + 1) + 1) + 1))])), (tx1, .inl (G.2.1, 128, .inl (nb (upb (upb (upb (upb T1 124 (toB (f_ush (nI (n * 8)) (nI 24)))) (124 + 1) (toB (f_ush (nI (n * 8)) (nI 16)))) ((124 + 1) + 1) (toB (f_ush (nI (n * 8)) (nI 8)))) (((124 + 1) + 1) + 1) (toB (f_ush (nI (n * 8)) (nI 0))))))), (sc, .inl (G.2.1, 64, .inl (sch (upb (upb (upb (upb T1 124 (toB (f_ush (nI (n * 8)) (nI 24)))) (124 + 1) (toB (f_ush (nI (n * 8)) (nI 16)))) ((124 + 1) + 1) (toB (f_ush (nI (n * 8)) (nI 8)))) (((124 + 1) + 1) + 1) (toB (f_ush (nI (n * 8)) (nI 0)))) 64))), (st, .inl (G.2.1, 8, .inl (shaW L)))] H_120_1 := f_row hP 3 rfl (shaW L) (fun j hj => congrFun (fin_2 (T := upb (upb (upb (upb T1 124 (toB (f_ush (nI (n * 8)) (nI 24)))) (124 + 1) (toB (f_ush (nI (n * 8)) (nI 16)))) ((124 + 1) + 1) (toB (f_ush (nI (n * 8)) (nI 8)))) (((124 + 1) + 1) + 1) (toB (f_ush (nI (n * 8)) (nI 0)))) (by omega) hT1) j)
                replace hD : va_D A [(h, .inr (1, [.ref tx1, .ref sc, .ref st, .int (nI ((((124 + 1) + 1) + 1) + 1))])), (tx1, .inl (G.2.1, 128, .inl (nb (upb (upb (upb (upb T1 124 (toB (f_ush (nI (n * 8)) (nI 24)))) (124 + 1) (toB (f_ush (nI (n * 8)) (nI 16)))) ((124 + 1) + 1) (toB (f_ush (nI (n * 8)) (nI 8)))) (((124 + 1) + 1) + 1) (toB (f_ush (nI (n * 8)) (nI 0))))))), (sc, .inl (G.2.1, 64, .inl (sch (upb (upb (upb (upb T1 124 (toB (f_ush (nI (n * 8)) (nI 24)))) (124 + 1) (toB (f_ush (nI (n * 8)) (nI 16)))) ((124 + 1) + 1) (toB (f_ush (nI (n * 8)) (nI 8)))) (((124 + 1) + 1) + 1) (toB (f_ush (nI (n * 8)) (nI 0)))) 64))), (st, .inl (G.2.1, 8, .inl (shaW L)))] := f_rowD hD 3 rfl
                exact hend (upb (upb (upb (upb T1 124 (toB (f_ush (nI (n * 8)) (nI 24)))) (124 + 1) (toB (f_ush (nI (n * 8)) (nI 16)))) ((124 + 1) + 1) (toB (f_ush (nI (n * 8)) (nI 8)))) (((124 + 1) + 1) + 1) (toB (f_ush (nI (n * 8)) (nI 0))), (((124 + 1) + 1) + 1) + 1, sch (upb (upb (upb (upb T1 124 (toB (f_ush (nI (n * 8)) (nI 24)))) (124 + 1) (toB (f_ush (nI (n * 8)) (nI 16)))) ((124 + 1) + 1) (toB (f_ush (nI (n * 8)) (nI 8)))) (((124 + 1) + 1) + 1) (toB (f_ush (nI (n * 8)) (nI 0)))) 64) _ _ _ _ trivial hP hD hS dX1_finish_129
              · skip
                refine lv_aload_n hx hb dX1_finish_87 rfl (lv_at hl 0 rfl) ?_
                refine va_get (D := G.1) (ci := 1) (v := .ref st) (C := RX1) (T := TX1) (N := 4) hx hb hts in_wsX10 hown hK hP 0 rfl rfl 2 (by decide) (hts _ wm_46) (fun _ h9 => h9) rfl dX1_finish_88 ?_
                refine lv_iload_n hx hb dX1_finish_91 rfl (lv_at hl 2 rfl) ?_
                refine va_getsN (v := .ref G.2.2.2.1) hx hb hE.1 hS hown (va_Nw.use rfl hE.2.2.2.2.2.2.2.2.2.1) (fun _ h9 => h9) dX1_finish_92 ?_
                refine lv_iload_n hx hb dX1_finish_95 rfl (lv_at hl 2 rfl) ?_
                refine va_ti (v := .int (HI k)) hx hb hE.2.1 hS (vp_in_nI (by omega) (by decide)) (by rw [nI_clamp (by omega)]) dX1_finish_96 ?_
                refine f_iast hx hb hK hP hD hS 3 rfl (by omega) (by decide) dX1_finish_97 (fun H_97 locs_97 hP_97 hD_97 hS_97 => ?_)
                replace hP : va_P G.1 vwCl [(h, .inr (1, [.ref tx1, .ref sc, .ref st, .int (nI ((((124 + 1) + 1) + 1) + 1))])), (tx1, .inl (G.2.1, 128, .inl (nb (upb (upb (upb (upb T1 124 (toB (f_ush (nI (n * 8)) (nI 24)))) (124 + 1) (toB (f_ush (nI (n * 8)) (nI 16)))) ((124 + 1) + 1) (toB (f_ush (nI (n * 8)) (nI 8)))) (((124 + 1) + 1) + 1) (toB (f_ush (nI (n * 8)) (nI 0))))))), (sc, .inl (G.2.1, 64, .inl S)), (st, .inl (G.2.1, 8, .inl (upd v1 k (HI k))))] H_97 := hP_97
                replace hD : va_D A [(h, .inr (1, [.ref tx1, .ref sc, .ref st, .int (nI ((((124 + 1) + 1) + 1) + 1))])), (tx1, .inl (G.2.1, 128, .inl (nb (upb (upb (upb (upb T1 124 (toB (f_ush (nI (n * 8)) (nI 24)))) (124 + 1) (toB (f_ush (nI (n * 8)) (nI 16)))) ((124 + 1) + 1) (toB (f_ush (nI (n * 8)) (nI 8)))) (((124 + 1) + 1) + 1) (toB (f_ush (nI (n * 8)) (nI 0))))))), (sc, .inl (G.2.1, 64, .inl S)), (st, .inl (G.2.1, 8, .inl (upd v1 k (HI k))))] := hD_97
                replace hS : va_S A sv.heap H_97 locs_97 := hS_97
                clear hP_97 hD_97 hS_97
                refine lv_iinc (v := nI (k + 1)) (lv' := [(3, .int (nI (k + 1))), (0, .ref h), (2, .int (nI 128))]) hx hb dX1_finish_98 hl (k := 2) rfl (f_inc1 _) (by decide) rfl (fun ls hl2 => ?_)
                replace hl := hl2; clear hl2
                refine lv_goto (tgt := 81) hx hb dX1_finish_101 (by decide) ?_
                exact ih_81 (k + 1) (upd v1 k (HI k)) _ _ _ (by omega) (by omega) (upd_ext hv1) hP hD hS (lv_sub hl [1, 2, 0] rfl)
          exact L_81 ((9 - 0) + 1) 0 v _ _ _ (Nat.lt_succ_self _) (by omega) ext_0 hP hD hS (lv_sub hl [1, 3, 0] rfl)
        · skip
          refine lv_aload_n hx hb dX1_finish_48 rfl (lv_at hl 0 rfl) ?_
          refine lv_iconst (v := nI 0) hx hb dX1_finish_49 (by decide) ?_
          refine fcVV (As := [.int (nI 0)]) (rest := []) (wr := []) (ws1 := fun (u : Unit) => [(h, .inr (1, [.ref tx1, .ref sc, .ref st, .int (nI (k + 1))])), (tx1, .inl (G.2.1, 128, .inl (nb (upb T1 k (toB (nI 0)))))), (sc, .inl (G.2.1, 64, .inl S)), (st, .inl (G.2.1, 8, .inl v))]) ⟨hx, hb, hml, hown, hts⟩ hK hE hP hD hS hA hl.1 (kX1_put l G h tx1 sc st T1 k S v (nI 0) (by omega)) (cwV 1 hts (gdV wm_57 wm_58 wm_59 wm_56 wm_49) rfl rfl rfl (by decide +kernel) ⟨Nat.le_of_ble_eq_true rfl, Nat.le_of_ble_eq_true rfl⟩) 0 rfl rfl rfl rfl (Nat.le_of_ble_eq_true rfl) dX1_finish_50 ⟨Nat.le_of_ble_eq_true rfl, Nat.le_of_ble_eq_true rfl⟩ [0, 1, 2, 3] [] [0, 1, 2, 3] rfl rfl rfl rfl (by decide) rfl (fun _ => rfl) (fun u_50 H_50 locs_50 hw_50 hP_50 hD_50 hS_50 => ?_)
          replace hP : va_P G.1 vwCl [(h, .inr (1, [.ref tx1, .ref sc, .ref st, .int (nI (k + 1))])), (tx1, .inl (G.2.1, 128, .inl (nb (upb T1 k (toB (nI 0)))))), (sc, .inl (G.2.1, 64, .inl S)), (st, .inl (G.2.1, 8, .inl v))] H_50 := hP_50
          replace hD : va_D A [(h, .inr (1, [.ref tx1, .ref sc, .ref st, .int (nI (k + 1))])), (tx1, .inl (G.2.1, 128, .inl (nb (upb T1 k (toB (nI 0)))))), (sc, .inl (G.2.1, 64, .inl S)), (st, .inl (G.2.1, 8, .inl v))] := hD_50
          replace hS : va_S A sv.heap H_50 locs_50 := hS_50
          clear hP_50 hD_50 hS_50
          refine lv_iinc (v := nI (k + 1)) (lv' := [(3, .int (nI (k + 1))), (0, .ref h), (1, .int (nI (n * 8))), (2, .int (nI 128))]) hx hb dX1_finish_53 hl (k := 3) rfl (f_inc1 _) (by decide) rfl (fun ls hl2 => ?_)
          replace hl := hl2; clear hl2
          refine lv_goto (tgt := 41) hx hb dX1_finish_56 (by decide) ?_
          exact ih_41 (k + 1) (upb T1 k (toB (nI 0))) _ _ _ (by omega) (by omega) (pad_zero (b := toB (nI 0)) hT1 hk.1 (by omega) rfl) hP hD hS (lv_sub hl [1, 2, 3, 0] rfl)
    exact L_41 ((129 - (n + 1)) + 1) (n + 1) (upb T n (toB (nI 128))) _ _ _ (Nat.lt_succ_self _) (by omega) e0 hP hD hS (lv_sub hl [3, 2, 1, 0] rfl)
  · skip
    refine lv_bipush (v := nI 64) hx hb dX1_finish_27 (by decide) ?_
    refine lv_goto (tgt := 35) hx hb dX1_finish_29 (by decide) ?_
    refine lv_istore_n (lv' := [(2, .int (nI 64)), (1, .int (nI (n * 8))), (0, .ref h)]) hx hb dX1_finish_35 rfl hl (by decide) rfl (fun ls hl2 => ?_)
    replace hl := hl2; clear hl2
    refine lv_aload_n hx hb dX1_finish_36 rfl (lv_at hl 2 rfl) ?_
    refine va_get (D := G.1) (ci := 1) (v := .int (nI (n + 1))) (C := RX1) (T := TX1) (N := 4) hx hb hts in_wsX10 hown hK hP 0 rfl rfl 3 (by decide) (hts _ wm_47) (fun _ h9 => h9) rfl dX1_finish_37 ?_
    refine lv_istore_n (lv' := [(3, .int (nI (n + 1))), (2, .int (nI 64)), (1, .int (nI (n * 8))), (0, .ref h)]) hx hb dX1_finish_40 rfl hl (by decide) rfl (fun ls hl2 => ?_)
    replace hl := hl2; clear hl2
    have hz : szP L = 64 := szP_1 (by omega)
    have L_41_1 : ∀ (n9 : Nat) (k : Nat) (T1 : Nat → UInt8) (H : Heap) (locs : List Loc) (ls : Array Slot), (65 - k) < n9 → (L.length < k ∧ k ≤ 60) → (∀ j, j < k → T1 j = padP L j) → va_P G.1 vwCl [(h, .inr (1, [.ref tx1, .ref sc, .ref st, .int (nI k)])), (tx1, .inl (G.2.1, 128, .inl (nb T1))), (sc, .inl (G.2.1, 64, .inl S)), (st, .inl (G.2.1, 8, .inl v))] H → va_D A [(h, .inr (1, [.ref tx1, .ref sc, .ref st, .int (nI k)])), (tx1, .inl (G.2.1, 128, .inl (nb T1))), (sc, .inl (G.2.1, 64, .inl S)), (st, .inl (G.2.1, 8, .inl v))] → va_S A sv.heap H locs → lv_has ls 4 [(0, .ref h), (1, .int (nI (n * 8))), (2, .int (nI 64)), (3, .int (nI k))] → W prg l env ({ frames := 2, cells := 0, slots := 0, locals := 54 } : Room) sv mid args below meth cd H locs 0 0 Q (F0 mid 41 ls []) := by
      intro n9
      induction n9 with
      | zero => intro k T1 H locs ls hmu; exact absurd hmu (Nat.not_lt_zero _)
      | succ n9 ih_41_1 =>
        intro k T1 H locs ls hmu_41 hk hT1 hP hD hS hl
        refine lv_iload_n hx hb dX1_finish_41 rfl (lv_at hl 3 rfl) ?_
        refine lv_iload_n hx hb dX1_finish_42 rfl (lv_at hl 2 rfl) ?_
        refine lv_iconst (v := nI 4) hx hb dX1_finish_43 (by decide) ?_
        refine lv_isub hx hb dX1_finish_44 ?_
        refine f_top (y := nI 60) (by decide) ?_
        refine f_icmp_ge (tgt := 59) (by omega) (by omega) hx hb dX1_finish_45 (by decide) (fun c_45 => ?_) (fun c_45 => ?_)
        · skip
          obtain rfl : k = 60 := by omega
          refine lv_bipush (v := nI 24) hx hb dX1_finish_59 (by decide) ?_
          refine lv_istore_n (lv' := [(3, .int (nI 24)), (0, .ref h), (1, .int (nI (n * 8))), (2, .int (nI 64))]) hx hb dX1_finish_61 rfl hl (by decide) rfl (fun ls hl2 => ?_)
          replace hl := hl2; clear hl2
          refine lv_iload_n hx hb dX1_finish_62 rfl (lv_at hl 0 rfl) ?_
          refine lv_if_lt (tgt := 79) hx hb dX1_finish_63 (by decide) (fun c9 => absurd c9 (by decide)) (fun _ => ?_)
          refine lv_aload_n hx hb dX1_finish_66 rfl (lv_at hl 1 rfl) ?_
          refine lv_iload_n hx hb dX1_finish_67 rfl (lv_at hl 2 rfl) ?_
          refine lv_iload_n hx hb dX1_finish_68 rfl (lv_at hl 0 rfl) ?_
          refine lv_iushr (v := f_ush (nI (n * 8)) (nI 24)) hx hb dX1_finish_69 rfl ?_
          refine fcVV (As := [.int (f_ush (nI (n * 8)) (nI 24))]) (rest := []) (wr := []) (ws1 := fun (u : Unit) => [(h, .inr (1, [.ref tx1, .ref sc, .ref st, .int (nI (60 + 1))])), (tx1, .inl (G.2.1, 128, .inl (nb (upb T1 60 (toB (f_ush (nI (n * 8)) (nI 24))))))), (sc, .inl (G.2.1, 64, .inl S)), (st, .inl (G.2.1, 8, .inl v))]) ⟨hx, hb, hml, hown, hts⟩ hK hE hP hD hS hA hl.1 (kX1_put l G h tx1 sc st T1 60 S v (f_ush (nI (n * 8)) (nI 24)) (by omega)) (cwV 1 hts (gdV wm_57 wm_58 wm_59 wm_56 wm_49) rfl rfl rfl (by decide +kernel) ⟨Nat.le_of_ble_eq_true rfl, Nat.le_of_ble_eq_true rfl⟩) 0 rfl rfl rfl rfl (Nat.le_of_ble_eq_true rfl) dX1_finish_70 ⟨Nat.le_of_ble_eq_true rfl, Nat.le_of_ble_eq_true rfl⟩ [0, 1, 2, 3] [] [0, 1, 2, 3] rfl rfl rfl rfl (by decide) rfl (fun _ => rfl) (fun u_70_4 H_70_4 locs_70_4 hw_70_4 hP_70_4 hD_70_4 hS_70_4 => ?_)
          replace hP : va_P G.1 vwCl [(h, .inr (1, [.ref tx1, .ref sc, .ref st, .int (nI (60 + 1))])), (tx1, .inl (G.2.1, 128, .inl (nb (upb T1 60 (toB (f_ush (nI (n * 8)) (nI 24))))))), (sc, .inl (G.2.1, 64, .inl S)), (st, .inl (G.2.1, 8, .inl v))] H_70_4 := hP_70_4
          replace hD : va_D A [(h, .inr (1, [.ref tx1, .ref sc, .ref st, .int (nI (60 + 1))])), (tx1, .inl (G.2.1, 128, .inl (nb (upb T1 60 (toB (f_ush (nI (n * 8)) (nI 24))))))), (sc, .inl (G.2.1, 64, .inl S)), (st, .inl (G.2.1, 8, .inl v))] := hD_70_4
          replace hS : va_S A sv.heap H_70_4 locs_70_4 := hS_70_4
          clear hP_70_4 hD_70_4 hS_70_4
          replace hT1 := pad_len (b := toB (f_ush (nI (n * 8)) (nI 24))) (s := 0) hT1 (by omega) (by omega) (by rw [hn])
          refine lv_iinc (v := nI 16) (lv' := [(3, .int (nI 16)), (0, .ref h), (1, .int (nI (n * 8))), (2, .int (nI 64))]) hx hb dX1_finish_73 hl (k := 0) rfl (by decide) (by decide) rfl (fun ls hl2 => ?_)
          replace hl := hl2; clear hl2
          refine lv_goto (tgt := 62) hx hb dX1_finish_76 (by decide) ?_
          refine lv_iload_n hx hb dX1_finish_62 rfl (lv_at hl 0 rfl) ?_
          refine lv_if_lt (tgt := 79) hx hb dX1_finish_63 (by decide) (fun c9 => absurd c9 (by decide)) (fun _ => ?_)
          refine lv_aload_n hx hb dX1_finish_66 rfl (lv_at hl 1 rfl) ?_
          refine lv_iload_n hx hb dX1_finish_67 rfl (lv_at hl 2 rfl) ?_
          refine lv_iload_n hx hb dX1_finish_68 rfl (lv_at hl 0 rfl) ?_
          refine lv_iushr (v := f_ush (nI (n * 8)) (nI 16)) hx hb dX1_finish_69 rfl ?_
          refine fcVV (As := [.int (f_ush (nI (n * 8)) (nI 16))]) (rest := []) (wr := []) (ws1 := fun (u : Unit) => [(h, .inr (1, [.ref tx1, .ref sc, .ref st, .int (nI ((60 + 1) + 1))])), (tx1, .inl (G.2.1, 128, .inl (nb (upb (upb T1 60 (toB (f_ush (nI (n * 8)) (nI 24)))) (60 + 1) (toB (f_ush (nI (n * 8)) (nI 16))))))), (sc, .inl (G.2.1, 64, .inl S)), (st, .inl (G.2.1, 8, .inl v))]) ⟨hx, hb, hml, hown, hts⟩ hK hE hP hD hS hA hl.1 (kX1_put l G h tx1 sc st (upb T1 60 (toB (f_ush (nI (n * 8)) (nI 24)))) (60 + 1) S v (f_ush (nI (n * 8)) (nI 16)) (by omega)) (cwV 1 hts (gdV wm_57 wm_58 wm_59 wm_56 wm_49) rfl rfl rfl (by decide +kernel) ⟨Nat.le_of_ble_eq_true rfl, Nat.le_of_ble_eq_true rfl⟩) 0 rfl rfl rfl rfl (Nat.le_of_ble_eq_true rfl) dX1_finish_70 ⟨Nat.le_of_ble_eq_true rfl, Nat.le_of_ble_eq_true rfl⟩ [0, 1, 2, 3] [] [0, 1, 2, 3] rfl rfl rfl rfl (by decide) rfl (fun _ => rfl) (fun u_70_5 H_70_5 locs_70_5 hw_70_5 hP_70_5 hD_70_5 hS_70_5 => ?_)
          replace hP : va_P G.1 vwCl [(h, .inr (1, [.ref tx1, .ref sc, .ref st, .int (nI ((60 + 1) + 1))])), (tx1, .inl (G.2.1, 128, .inl (nb (upb (upb T1 60 (toB (f_ush (nI (n * 8)) (nI 24)))) (60 + 1) (toB (f_ush (nI (n * 8)) (nI 16))))))), (sc, .inl (G.2.1, 64, .inl S)), (st, .inl (G.2.1, 8, .inl v))] H_70_5 := hP_70_5
          replace hD : va_D A [(h, .inr (1, [.ref tx1, .ref sc, .ref st, .int (nI ((60 + 1) + 1))])), (tx1, .inl (G.2.1, 128, .inl (nb (upb (upb T1 60 (toB (f_ush (nI (n * 8)) (nI 24)))) (60 + 1) (toB (f_ush (nI (n * 8)) (nI 16))))))), (sc, .inl (G.2.1, 64, .inl S)), (st, .inl (G.2.1, 8, .inl v))] := hD_70_5
          replace hS : va_S A sv.heap H_70_5 locs_70_5 := hS_70_5
          clear hP_70_5 hD_70_5 hS_70_5
          replace hT1 := pad_len (b := toB (f_ush (nI (n * 8)) (nI 16))) (s := 1) hT1 (by omega) (by omega) (by rw [hn])
          refine lv_iinc (v := nI 8) (lv' := [(3, .int (nI 8)), (0, .ref h), (1, .int (nI (n * 8))), (2, .int (nI 64))]) hx hb dX1_finish_73 hl (k := 0) rfl (by decide) (by decide) rfl (fun ls hl2 => ?_)
          replace hl := hl2; clear hl2
          refine lv_goto (tgt := 62) hx hb dX1_finish_76 (by decide) ?_
          refine lv_iload_n hx hb dX1_finish_62 rfl (lv_at hl 0 rfl) ?_
          refine lv_if_lt (tgt := 79) hx hb dX1_finish_63 (by decide) (fun c9 => absurd c9 (by decide)) (fun _ => ?_)
          refine lv_aload_n hx hb dX1_finish_66 rfl (lv_at hl 1 rfl) ?_
          refine lv_iload_n hx hb dX1_finish_67 rfl (lv_at hl 2 rfl) ?_
          refine lv_iload_n hx hb dX1_finish_68 rfl (lv_at hl 0 rfl) ?_
          refine lv_iushr (v := f_ush (nI (n * 8)) (nI 8)) hx hb dX1_finish_69 rfl ?_
          refine fcVV (As := [.int (f_ush (nI (n * 8)) (nI 8))]) (rest := []) (wr := []) (ws1 := fun (u : Unit) => [(h, .inr (1, [.ref tx1, .ref sc, .ref st, .int (nI (((60 + 1) + 1) + 1))])), (tx1, .inl (G.2.1, 128, .inl (nb (upb (upb (upb T1 60 (toB (f_ush (nI (n * 8)) (nI 24)))) (60 + 1) (toB (f_ush (nI (n * 8)) (nI 16)))) ((60 + 1) + 1) (toB (f_ush (nI (n * 8)) (nI 8))))))), (sc, .inl (G.2.1, 64, .inl S)), (st, .inl (G.2.1, 8, .inl v))]) ⟨hx, hb, hml, hown, hts⟩ hK hE hP hD hS hA hl.1 (kX1_put l G h tx1 sc st (upb (upb T1 60 (toB (f_ush (nI (n * 8)) (nI 24)))) (60 + 1) (toB (f_ush (nI (n * 8)) (nI 16)))) ((60 + 1) + 1) S v (f_ush (nI (n * 8)) (nI 8)) (by omega)) (cwV 1 hts (gdV wm_57 wm_58 wm_59 wm_56 wm_49) rfl rfl rfl (by decide +kernel) ⟨Nat.le_of_ble_eq_true rfl, Nat.le_of_ble_eq_true rfl⟩) 0 rfl rfl rfl rfl (Nat.le_of_ble_eq_true rfl) dX1_finish_70 ⟨Nat.le_of_ble_eq_true rfl, Nat.le_of_ble_eq_true rfl⟩ [0, 1, 2, 3] [] [0, 1, 2, 3] rfl rfl rfl rfl (by decide) rfl (fun _ => rfl) (fun u_70_6 H_70_6 locs_70_6 hw_70_6 hP_70_6 hD_70_6 hS_70_6 => ?_)
          replace hP : va_P G.1 vwCl [(h, .inr (1, [.ref tx1, .ref sc, .ref st, .int (nI (((60 + 1) + 1) + 1))])), (tx1, .inl (G.2.1, 128, .inl (nb (upb (upb (upb T1 60 (toB (f_ush (nI (n * 8)) (nI 24)))) (60 + 1) (toB (f_ush (nI (n * 8)) (nI 16)))) ((60 + 1) + 1) (toB (f_ush (nI (n * 8)) (nI 8))))))), (sc, .inl (G.2.1, 64, .inl S)), (st, .inl (G.2.1, 8, .inl v))] H_70_6 := hP_70_6
          replace hD : va_D A [(h, .inr (1, [.ref tx1, .ref sc, .ref st, .int (nI (((60 + 1) + 1) + 1))])), (tx1, .inl (G.2.1, 128, .inl (nb (upb (upb (upb T1 60 (toB (f_ush (nI (n * 8)) (nI 24)))) (60 + 1) (toB (f_ush (nI (n * 8)) (nI 16)))) ((60 + 1) + 1) (toB (f_ush (nI (n * 8)) (nI 8))))))), (sc, .inl (G.2.1, 64, .inl S)), (st, .inl (G.2.1, 8, .inl v))] := hD_70_6
          replace hS : va_S A sv.heap H_70_6 locs_70_6 := hS_70_6
          clear hP_70_6 hD_70_6 hS_70_6
          replace hT1 := pad_len (b := toB (f_ush (nI (n * 8)) (nI 8))) (s := 2) hT1 (by omega) (by omega) (by rw [hn])
          refine lv_iinc (v := nI 0) (lv' := [(3, .int (nI 0)), (0, .ref h), (1, .int (nI (n * 8))), (2, .int (nI 64))]) hx hb dX1_finish_73 hl (k := 0) rfl (by decide) (by decide) rfl (fun ls hl2 => ?_)
          replace hl := hl2; clear hl2
          refine lv_goto (tgt := 62) hx hb dX1_finish_76 (by decide) ?_
          refine lv_iload_n hx hb dX1_finish_62 rfl (lv_at hl 0 rfl) ?_
          refine lv_if_lt (tgt := 79) hx hb dX1_finish_63 (by decide) (fun c9 => absurd c9 (by decide)) (fun _ => ?_)
          refine lv_aload_n hx hb dX1_finish_66 rfl (lv_at hl 1 rfl) ?_
          refine lv_iload_n hx hb dX1_finish_67 rfl (lv_at hl 2 rfl) ?_
          refine lv_iload_n hx hb dX1_finish_68 rfl (lv_at hl 0 rfl) ?_
          refine lv_iushr (v := f_ush (nI (n * 8)) (nI 0)) hx hb dX1_finish_69 rfl ?_
          refine fcVV (As := [.int (f_ush (nI (n * 8)) (nI 0))]) (rest := []) (wr := []) (ws1 := fun (u : Unit) => [(h, .inr (1, [.ref tx1, .ref sc, .ref st, .int (nI ((((60 + 1) + 1) + 1) + 1))])), (tx1, .inl (G.2.1, 128, .inl (nb (upb (upb (upb (upb T1 60 (toB (f_ush (nI (n * 8)) (nI 24)))) (60 + 1) (toB (f_ush (nI (n * 8)) (nI 16)))) ((60 + 1) + 1) (toB (f_ush (nI (n * 8)) (nI 8)))) (((60 + 1) + 1) + 1) (toB (f_ush (nI (n * 8)) (nI 0))))))), (sc, .inl (G.2.1, 64, .inl S)), (st, .inl (G.2.1, 8, .inl v))]) ⟨hx, hb, hml, hown, hts⟩ hK hE hP hD hS hA hl.1 (kX1_put l G h tx1 sc st (upb (upb (upb T1 60 (toB (f_ush (nI (n * 8)) (nI 24)))) (60 + 1) (toB (f_ush (nI (n * 8)) (nI 16)))) ((60 + 1) + 1) (toB (f_ush (nI (n * 8)) (nI 8)))) (((60 + 1) + 1) + 1) S v (f_ush (nI (n * 8)) (nI 0)) (by omega)) (cwV 1 hts (gdV wm_57 wm_58 wm_59 wm_56 wm_49) rfl rfl rfl (by decide +kernel) ⟨Nat.le_of_ble_eq_true rfl, Nat.le_of_ble_eq_true rfl⟩) 0 rfl rfl rfl rfl (Nat.le_of_ble_eq_true rfl) dX1_finish_70 ⟨Nat.le_of_ble_eq_true rfl, Nat.le_of_ble_eq_true rfl⟩ [0, 1, 2, 3] [] [0, 1, 2, 3] rfl rfl rfl rfl (by decide) rfl (fun _ => rfl) (fun u_70_7 H_70_7 locs_70_7 hw_70_7 hP_70_7 hD_70_7 hS_70_7 => ?_)
          replace hP : va_P G.1 vwCl [(h, .inr (1, [.ref tx1, .ref sc, .ref st, .int (nI ((((60 + 1) + 1) + 1) + 1))])), (tx1, .inl (G.2.1, 128, .inl (nb (upb (upb (upb (upb T1 60 (toB (f_ush (nI (n * 8)) (nI 24)))) (60 + 1) (toB (f_ush (nI (n * 8)) (nI 16)))) ((60 + 1) + 1) (toB (f_ush (nI (n * 8)) (nI 8)))) (((60 + 1) + 1) + 1) (toB (f_ush (nI (n * 8)) (nI 0))))))), (sc, .inl (G.2.1, 64, .inl S)), (st, .inl (G.2.1, 8, .inl v))] H_70_7 := hP_70_7
          replace hD : va_D A [(h, .inr (1, [.ref tx1, .ref sc, .ref st, .int (nI ((((60 + 1) + 1) + 1) + 1))])), (tx1, .inl (G.2.1, 128, .inl (nb (upb (upb (upb (upb T1 60 (toB (f_ush (nI (n * 8)) (nI 24)))) (60 + 1) (toB (f_ush (nI (n * 8)) (nI 16)))) ((60 + 1) + 1) (toB (f_ush (nI (n * 8)) (nI 8)))) (((60 + 1) + 1) + 1) (toB (f_ush (nI (n * 8)) (nI 0))))))), (sc, .inl (G.2.1, 64, .inl S)), (st, .inl (G.2.1, 8, .inl v))] := hD_70_7
          replace hS : va_S A sv.heap H_70_7 locs_70_7 := hS_70_7
          clear hP_70_7 hD_70_7 hS_70_7
          replace hT1 := pad_len (b := toB (f_ush (nI (n * 8)) (nI 0))) (s := 3) hT1 (by omega) (by omega) (by rw [hn])
          refine lv_iinc (v := -8) (lv' := [(3, .int (-8)), (0, .ref h), (1, .int (nI (n * 8))), (2, .int (nI 64))]) hx hb dX1_finish_73 hl (k := 0) rfl (by decide) (by decide) rfl (fun ls hl2 => ?_)
          replace hl := hl2; clear hl2
          refine lv_goto (tgt := 62) hx hb dX1_finish_76 (by decide) ?_
          refine lv_iload_n hx hb dX1_finish_62 rfl (lv_at hl 0 rfl) ?_
          refine lv_if_lt (tgt := 79) hx hb dX1_finish_63 (by decide) (fun _ => ?_) (fun c9 => absurd (by decide) c9)
          refine lv_iconst (v := nI 0) hx hb dX1_finish_79 (by decide) ?_
          refine lv_istore_n (lv' := [(3, .int (nI 0)), (0, .ref h), (1, .int (nI (n * 8))), (2, .int (nI 64))]) hx hb dX1_finish_80 rfl hl (by decide) rfl (fun ls hl2 => ?_)
          replace hl := hl2; clear hl2
          have L_81_1 : ∀ (n9 : Nat) (k : Nat) (v1 : Nat → Int32) (H : Heap) (locs : List Loc) (ls : Array Slot), (9 - k) < n9 → (k ≤ 8) → (∀ j, j < k → v1 j = HI j) → va_P G.1 vwCl [(h, .inr (1, [.ref tx1, .ref sc, .ref st, .int (nI ((((60 + 1) + 1) + 1) + 1))])), (tx1, .inl (G.2.1, 128, .inl (nb (upb (upb (upb (upb T1 60 (toB (f_ush (nI (n * 8)) (nI 24)))) (60 + 1) (toB (f_ush (nI (n * 8)) (nI 16)))) ((60 + 1) + 1) (toB (f_ush (nI (n * 8)) (nI 8)))) (((60 + 1) + 1) + 1) (toB (f_ush (nI (n * 8)) (nI 0))))))), (sc, .inl (G.2.1, 64, .inl S)), (st, .inl (G.2.1, 8, .inl v1))] H → va_D A [(h, .inr (1, [.ref tx1, .ref sc, .ref st, .int (nI ((((60 + 1) + 1) + 1) + 1))])), (tx1, .inl (G.2.1, 128, .inl (nb (upb (upb (upb (upb T1 60 (toB (f_ush (nI (n * 8)) (nI 24)))) (60 + 1) (toB (f_ush (nI (n * 8)) (nI 16)))) ((60 + 1) + 1) (toB (f_ush (nI (n * 8)) (nI 8)))) (((60 + 1) + 1) + 1) (toB (f_ush (nI (n * 8)) (nI 0))))))), (sc, .inl (G.2.1, 64, .inl S)), (st, .inl (G.2.1, 8, .inl v1))] → va_S A sv.heap H locs → lv_has ls 4 [(0, .ref h), (2, .int (nI 64)), (3, .int (nI k))] → W prg l env ({ frames := 2, cells := 0, slots := 0, locals := 54 } : Room) sv mid args below meth cd H locs 0 0 Q (F0 mid 81 ls []) := by
            intro n9
            induction n9 with
            | zero => intro k v1 H locs ls hmu; exact absurd hmu (Nat.not_lt_zero _)
            | succ n9 ih_81_1 =>
              intro k v1 H locs ls hmu_81 hk1 hv1 hP hD hS hl
              refine lv_iload_n hx hb dX1_finish_81 rfl (lv_at hl 2 rfl) ?_
              refine lv_bipush (v := nI 8) hx hb dX1_finish_82 (by decide) ?_
              refine f_icmp_ge (tgt := 104) (by omega) (by omega) hx hb dX1_finish_84 (by decide) (fun c_84 => ?_) (fun c_84 => ?_)
              · skip
                obtain rfl : k = 8 := by omega
                replace hP : va_P G.1 vwCl [(h, .inr (1, [.ref tx1, .ref sc, .ref st, .int (nI ((((60 + 1) + 1) + 1) + 1))])), (tx1, .inl (G.2.1, 128, .inl (nb (upb (upb (upb (upb T1 60 (toB (f_ush (nI (n * 8)) (nI 24)))) (60 + 1) (toB (f_ush (nI (n * 8)) (nI 16)))) ((60 + 1) + 1) (toB (f_ush (nI (n * 8)) (nI 8)))) (((60 + 1) + 1) + 1) (toB (f_ush (nI (n * 8)) (nI 0))))))), (sc, .inl (G.2.1, 64, .inl S)), (st, .inl (G.2.1, 8, .inl HI))] H := f_row hP 3 rfl (HI) hv1
                replace hD : va_D A [(h, .inr (1, [.ref tx1, .ref sc, .ref st, .int (nI ((((60 + 1) + 1) + 1) + 1))])), (tx1, .inl (G.2.1, 128, .inl (nb (upb (upb (upb (upb T1 60 (toB (f_ush (nI (n * 8)) (nI 24)))) (60 + 1) (toB (f_ush (nI (n * 8)) (nI 16)))) ((60 + 1) + 1) (toB (f_ush (nI (n * 8)) (nI 8)))) (((60 + 1) + 1) + 1) (toB (f_ush (nI (n * 8)) (nI 0))))))), (sc, .inl (G.2.1, 64, .inl S)), (st, .inl (G.2.1, 8, .inl HI))] := f_rowD hD 3 rfl
                refine lv_iconst (v := nI 0) hx hb dX1_finish_104 (by decide) ?_
                refine lv_istore_n (lv' := [(3, .int (nI 0)), (0, .ref h), (2, .int (nI 64))]) hx hb dX1_finish_105 rfl hl (by decide) rfl (fun ls hl2 => ?_)
                replace hl := hl2; clear hl2
                refine lv_iload_n hx hb dX1_finish_106 rfl (lv_at hl 0 rfl) ?_
                refine lv_bipush (v := nI 64) hx hb dX1_finish_107 (by decide) ?_
                refine lv_iadd hx hb dX1_finish_109 ?_
                refine f_top (y := nI 64) (by decide) ?_
                refine lv_iload_n hx hb dX1_finish_110 rfl (lv_at hl 2 rfl) ?_
                refine lv_icmp_gt (tgt := 129) hx hb dX1_finish_111 (by decide) (fun c9 => absurd c9 (by decide)) (fun _ => ?_)
                refine lv_aload_n hx hb dX1_finish_114 rfl (lv_at hl 1 rfl) ?_
                refine lv_iload_n hx hb dX1_finish_115 rfl (lv_at hl 0 rfl) ?_
                refine fcVV (As := [.int (nI 0)]) (rest := []) (wr := []) (ws1 := fun (u : Unit) => [(h, .inr (1, [.ref tx1, .ref sc, .ref st, .int (nI ((((60 + 1) + 1) + 1) + 1))])), (tx1, .inl (G.2.1, 128, .inl (nb (upb (upb (upb (upb T1 60 (toB (f_ush (nI (n * 8)) (nI 24)))) (60 + 1) (toB (f_ush (nI (n * 8)) (nI 16)))) ((60 + 1) + 1) (toB (f_ush (nI (n * 8)) (nI 8)))) (((60 + 1) + 1) + 1) (toB (f_ush (nI (n * 8)) (nI 0))))))), (sc, .inl (G.2.1, 64, .inl (sch (upb (upb (upb (upb T1 60 (toB (f_ush (nI (n * 8)) (nI 24)))) (60 + 1) (toB (f_ush (nI (n * 8)) (nI 16)))) ((60 + 1) + 1) (toB (f_ush (nI (n * 8)) (nI 8)))) (((60 + 1) + 1) + 1) (toB (f_ush (nI (n * 8)) (nI 0)))) 0))), (st, .inl (G.2.1, 8, .inl HI))]) ⟨hx, hb, hml, hown, hts⟩ hK hE hP hD hS hA hl.1 (kX1_expand l G h tx1 sc st (upb (upb (upb (upb T1 60 (toB (f_ush (nI (n * 8)) (nI 24)))) (60 + 1) (toB (f_ush (nI (n * 8)) (nI 16)))) ((60 + 1) + 1) (toB (f_ush (nI (n * 8)) (nI 8)))) (((60 + 1) + 1) + 1) (toB (f_ush (nI (n * 8)) (nI 0)))) ((((60 + 1) + 1) + 1) + 1) S HI 0 (by omega)) (cwV 1 hts (gdV wm_66 wm_67 wm_68 wm_56 wm_61) rfl rfl rfl (by decide +kernel) ⟨Nat.le_of_ble_eq_true rfl, Nat.le_of_ble_eq_true rfl⟩) 0 rfl rfl rfl rfl (Nat.le_of_ble_eq_true rfl) dX1_finish_116 ⟨Nat.le_of_ble_eq_true rfl, Nat.le_of_ble_eq_true rfl⟩ [0, 1, 2, 3] [] [0, 1, 2, 3] rfl rfl rfl rfl (by decide) rfl (fun _ => rfl) (fun u_116_2 H_116_2 locs_116_2 hw_116_2 hP_116_2 hD_116_2 hS_116_2 => ?_)
                replace hP : va_P G.1 vwCl [(h, .inr (1, [.ref tx1, .ref sc, .ref st, .int (nI ((((60 + 1) + 1) + 1) + 1))])), (tx1, .inl (G.2.1, 128, .inl (nb (upb (upb (upb (upb T1 60 (toB (f_ush (nI (n * 8)) (nI 24)))) (60 + 1) (toB (f_ush (nI (n * 8)) (nI 16)))) ((60 + 1) + 1) (toB (f_ush (nI (n * 8)) (nI 8)))) (((60 + 1) + 1) + 1) (toB (f_ush (nI (n * 8)) (nI 0))))))), (sc, .inl (G.2.1, 64, .inl (sch (upb (upb (upb (upb T1 60 (toB (f_ush (nI (n * 8)) (nI 24)))) (60 + 1) (toB (f_ush (nI (n * 8)) (nI 16)))) ((60 + 1) + 1) (toB (f_ush (nI (n * 8)) (nI 8)))) (((60 + 1) + 1) + 1) (toB (f_ush (nI (n * 8)) (nI 0)))) 0))), (st, .inl (G.2.1, 8, .inl HI))] H_116_2 := hP_116_2
                replace hD : va_D A [(h, .inr (1, [.ref tx1, .ref sc, .ref st, .int (nI ((((60 + 1) + 1) + 1) + 1))])), (tx1, .inl (G.2.1, 128, .inl (nb (upb (upb (upb (upb T1 60 (toB (f_ush (nI (n * 8)) (nI 24)))) (60 + 1) (toB (f_ush (nI (n * 8)) (nI 16)))) ((60 + 1) + 1) (toB (f_ush (nI (n * 8)) (nI 8)))) (((60 + 1) + 1) + 1) (toB (f_ush (nI (n * 8)) (nI 0))))))), (sc, .inl (G.2.1, 64, .inl (sch (upb (upb (upb (upb T1 60 (toB (f_ush (nI (n * 8)) (nI 24)))) (60 + 1) (toB (f_ush (nI (n * 8)) (nI 16)))) ((60 + 1) + 1) (toB (f_ush (nI (n * 8)) (nI 8)))) (((60 + 1) + 1) + 1) (toB (f_ush (nI (n * 8)) (nI 0)))) 0))), (st, .inl (G.2.1, 8, .inl HI))] := hD_116_2
                replace hS : va_S A sv.heap H_116_2 locs_116_2 := hS_116_2
                clear hP_116_2 hD_116_2 hS_116_2
                refine lv_aload_n hx hb dX1_finish_119 rfl (lv_at hl 1 rfl) ?_
                refine fcVV (As := []) (rest := []) (wr := []) (ws1 := fun (u : Unit) => [(h, .inr (1, [.ref tx1, .ref sc, .ref st, .int (nI ((((60 + 1) + 1) + 1) + 1))])), (tx1, .inl (G.2.1, 128, .inl (nb (upb (upb (upb (upb T1 60 (toB (f_ush (nI (n * 8)) (nI 24)))) (60 + 1) (toB (f_ush (nI (n * 8)) (nI 16)))) ((60 + 1) + 1) (toB (f_ush (nI (n * 8)) (nI 8)))) (((60 + 1) + 1) + 1) (toB (f_ush (nI (n * 8)) (nI 0))))))), (sc, .inl (G.2.1, 64, .inl (sch (upb (upb (upb (upb T1 60 (toB (f_ush (nI (n * 8)) (nI 24)))) (60 + 1) (toB (f_ush (nI (n * 8)) (nI 16)))) ((60 + 1) + 1) (toB (f_ush (nI (n * 8)) (nI 8)))) (((60 + 1) + 1) + 1) (toB (f_ush (nI (n * 8)) (nI 0)))) 0))), (st, .inl (G.2.1, 8, .inl (bkv (sch (upb (upb (upb (upb T1 60 (toB (f_ush (nI (n * 8)) (nI 24)))) (60 + 1) (toB (f_ush (nI (n * 8)) (nI 16)))) ((60 + 1) + 1) (toB (f_ush (nI (n * 8)) (nI 8)))) (((60 + 1) + 1) + 1) (toB (f_ush (nI (n * 8)) (nI 0)))) 0) HI)))]) ⟨hx, hb, hml, hown, hts⟩ hK hE hP hD hS hA hl.1 (kX1_compress l G h tx1 sc st (upb (upb (upb (upb T1 60 (toB (f_ush (nI (n * 8)) (nI 24)))) (60 + 1) (toB (f_ush (nI (n * 8)) (nI 16)))) ((60 + 1) + 1) (toB (f_ush (nI (n * 8)) (nI 8)))) (((60 + 1) + 1) + 1) (toB (f_ush (nI (n * 8)) (nI 0)))) ((((60 + 1) + 1) + 1) + 1) (sch (upb (upb (upb (upb T1 60 (toB (f_ush (nI (n * 8)) (nI 24)))) (60 + 1) (toB (f_ush (nI (n * 8)) (nI 16)))) ((60 + 1) + 1) (toB (f_ush (nI (n * 8)) (nI 8)))) (((60 + 1) + 1) + 1) (toB (f_ush (nI (n * 8)) (nI 0)))) 0) HI ) (cwV 0 hts (gdV wm_69 wm_70 wm_71 wm_56 wm_64) rfl rfl rfl (by decide +kernel) ⟨Nat.le_of_ble_eq_true rfl, Nat.le_of_ble_eq_true rfl⟩) 0 rfl rfl rfl rfl (Nat.le_of_ble_eq_true rfl) dX1_finish_120 ⟨Nat.le_of_ble_eq_true rfl, Nat.le_of_ble_eq_true rfl⟩ [0, 1, 2, 3] [] [0, 1, 2, 3] rfl rfl rfl rfl (by decide) rfl (fun _ => rfl) (fun u_120_2 H_120_2 locs_120_2 hw_120_2 hP_120_2 hD_120_2 hS_120_2 => ?_)
                replace hP : va_P G.1 vwCl [(h, .inr (1, [.ref tx1, .ref sc, .ref st, .int (nI ((((60 + 1) + 1) + 1) + 1))])), (tx1, .inl (G.2.1, 128, .inl (nb (upb (upb (upb (upb T1 60 (toB (f_ush (nI (n * 8)) (nI 24)))) (60 + 1) (toB (f_ush (nI (n * 8)) (nI 16)))) ((60 + 1) + 1) (toB (f_ush (nI (n * 8)) (nI 8)))) (((60 + 1) + 1) + 1) (toB (f_ush (nI (n * 8)) (nI 0))))))), (sc, .inl (G.2.1, 64, .inl (sch (upb (upb (upb (upb T1 60 (toB (f_ush (nI (n * 8)) (nI 24)))) (60 + 1) (toB (f_ush (nI (n * 8)) (nI 16)))) ((60 + 1) + 1) (toB (f_ush (nI (n * 8)) (nI 8)))) (((60 + 1) + 1) + 1) (toB (f_ush (nI (n * 8)) (nI 0)))) 0))), (st, .inl (G.2.1, 8, .inl (bkv (sch (upb (upb (upb (upb T1 60 (toB (f_ush (nI (n * 8)) (nI 24)))) (60 + 1) (toB (f_ush (nI (n * 8)) (nI 16)))) ((60 + 1) + 1) (toB (f_ush (nI (n * 8)) (nI 8)))) (((60 + 1) + 1) + 1) (toB (f_ush (nI (n * 8)) (nI 0)))) 0) HI)))] H_120_2 := hP_120_2
                replace hD : va_D A [(h, .inr (1, [.ref tx1, .ref sc, .ref st, .int (nI ((((60 + 1) + 1) + 1) + 1))])), (tx1, .inl (G.2.1, 128, .inl (nb (upb (upb (upb (upb T1 60 (toB (f_ush (nI (n * 8)) (nI 24)))) (60 + 1) (toB (f_ush (nI (n * 8)) (nI 16)))) ((60 + 1) + 1) (toB (f_ush (nI (n * 8)) (nI 8)))) (((60 + 1) + 1) + 1) (toB (f_ush (nI (n * 8)) (nI 0))))))), (sc, .inl (G.2.1, 64, .inl (sch (upb (upb (upb (upb T1 60 (toB (f_ush (nI (n * 8)) (nI 24)))) (60 + 1) (toB (f_ush (nI (n * 8)) (nI 16)))) ((60 + 1) + 1) (toB (f_ush (nI (n * 8)) (nI 8)))) (((60 + 1) + 1) + 1) (toB (f_ush (nI (n * 8)) (nI 0)))) 0))), (st, .inl (G.2.1, 8, .inl (bkv (sch (upb (upb (upb (upb T1 60 (toB (f_ush (nI (n * 8)) (nI 24)))) (60 + 1) (toB (f_ush (nI (n * 8)) (nI 16)))) ((60 + 1) + 1) (toB (f_ush (nI (n * 8)) (nI 8)))) (((60 + 1) + 1) + 1) (toB (f_ush (nI (n * 8)) (nI 0)))) 0) HI)))] := hD_120_2
                replace hS : va_S A sv.heap H_120_2 locs_120_2 := hS_120_2
                clear hP_120_2 hD_120_2 hS_120_2
                refine lv_iinc (v := nI 64) (lv' := [(3, .int (nI 64)), (0, .ref h), (2, .int (nI 64))]) hx hb dX1_finish_123 hl (k := 0) rfl (by decide) (by decide) rfl (fun ls hl2 => ?_)
                replace hl := hl2; clear hl2
                refine lv_goto (tgt := 106) hx hb dX1_finish_126 (by decide) ?_
                refine lv_iload_n hx hb dX1_finish_106 rfl (lv_at hl 0 rfl) ?_
                refine lv_bipush (v := nI 64) hx hb dX1_finish_107 (by decide) ?_
                refine lv_iadd hx hb dX1_finish_109 ?_
                refine f_top (y := nI 128) (by decide) ?_
                refine lv_iload_n hx hb dX1_finish_110 rfl (lv_at hl 2 rfl) ?_
                refine lv_icmp_gt (tgt := 129) hx hb dX1_finish_111 (by decide) (fun _ => ?_) (fun c9 => absurd (by decide) c9)
                replace hP : va_P G.1 vwCl [(h, .inr (1, [.ref tx1, .ref sc, .ref st, .int (nI ((((60 + 1) + 1) + 1) + 1))])), (tx1, .inl (G.2.1, 128, .inl (nb (upb (upb (upb (upb T1 60 (toB (f_ush (nI (n * 8)) (nI 24)))) (60 + 1) (toB (f_ush (nI (n * 8)) (nI 16)))) ((60 + 1) + 1) (toB (f_ush (nI (n * 8)) (nI 8)))) (((60 + 1) + 1) + 1) (toB (f_ush (nI (n * 8)) (nI 0))))))), (sc, .inl (G.2.1, 64, .inl (sch (upb (upb (upb (upb T1 60 (toB (f_ush (nI (n * 8)) (nI 24)))) (60 + 1) (toB (f_ush (nI (n * 8)) (nI 16)))) ((60 + 1) + 1) (toB (f_ush (nI (n * 8)) (nI 8)))) (((60 + 1) + 1) + 1) (toB (f_ush (nI (n * 8)) (nI 0)))) 0))), (st, .inl (G.2.1, 8, .inl (shaW L)))] H_120_2 := f_row hP 3 rfl (shaW L) (fun j hj => congrFun (fin_1 (T := upb (upb (upb (upb T1 60 (toB (f_ush (nI (n * 8)) (nI 24)))) (60 + 1) (toB (f_ush (nI (n * 8)) (nI 16)))) ((60 + 1) + 1) (toB (f_ush (nI (n * 8)) (nI 8)))) (((60 + 1) + 1) + 1) (toB (f_ush (nI (n * 8)) (nI 0)))) (by omega) hT1) j)
                replace hD : va_D A [(h, .inr (1, [.ref tx1, .ref sc, .ref st, .int (nI ((((60 + 1) + 1) + 1) + 1))])), (tx1, .inl (G.2.1, 128, .inl (nb (upb (upb (upb (upb T1 60 (toB (f_ush (nI (n * 8)) (nI 24)))) (60 + 1) (toB (f_ush (nI (n * 8)) (nI 16)))) ((60 + 1) + 1) (toB (f_ush (nI (n * 8)) (nI 8)))) (((60 + 1) + 1) + 1) (toB (f_ush (nI (n * 8)) (nI 0))))))), (sc, .inl (G.2.1, 64, .inl (sch (upb (upb (upb (upb T1 60 (toB (f_ush (nI (n * 8)) (nI 24)))) (60 + 1) (toB (f_ush (nI (n * 8)) (nI 16)))) ((60 + 1) + 1) (toB (f_ush (nI (n * 8)) (nI 8)))) (((60 + 1) + 1) + 1) (toB (f_ush (nI (n * 8)) (nI 0)))) 0))), (st, .inl (G.2.1, 8, .inl (shaW L)))] := f_rowD hD 3 rfl
                exact hend (upb (upb (upb (upb T1 60 (toB (f_ush (nI (n * 8)) (nI 24)))) (60 + 1) (toB (f_ush (nI (n * 8)) (nI 16)))) ((60 + 1) + 1) (toB (f_ush (nI (n * 8)) (nI 8)))) (((60 + 1) + 1) + 1) (toB (f_ush (nI (n * 8)) (nI 0))), (((60 + 1) + 1) + 1) + 1, sch (upb (upb (upb (upb T1 60 (toB (f_ush (nI (n * 8)) (nI 24)))) (60 + 1) (toB (f_ush (nI (n * 8)) (nI 16)))) ((60 + 1) + 1) (toB (f_ush (nI (n * 8)) (nI 8)))) (((60 + 1) + 1) + 1) (toB (f_ush (nI (n * 8)) (nI 0)))) 0) _ _ _ _ trivial hP hD hS dX1_finish_129
              · skip
                refine lv_aload_n hx hb dX1_finish_87 rfl (lv_at hl 0 rfl) ?_
                refine va_get (D := G.1) (ci := 1) (v := .ref st) (C := RX1) (T := TX1) (N := 4) hx hb hts in_wsX10 hown hK hP 0 rfl rfl 2 (by decide) (hts _ wm_46) (fun _ h9 => h9) rfl dX1_finish_88 ?_
                refine lv_iload_n hx hb dX1_finish_91 rfl (lv_at hl 2 rfl) ?_
                refine va_getsN (v := .ref G.2.2.2.1) hx hb hE.1 hS hown (va_Nw.use rfl hE.2.2.2.2.2.2.2.2.2.1) (fun _ h9 => h9) dX1_finish_92 ?_
                refine lv_iload_n hx hb dX1_finish_95 rfl (lv_at hl 2 rfl) ?_
                refine va_ti (v := .int (HI k)) hx hb hE.2.1 hS (vp_in_nI (by omega) (by decide)) (by rw [nI_clamp (by omega)]) dX1_finish_96 ?_
                refine f_iast hx hb hK hP hD hS 3 rfl (by omega) (by decide) dX1_finish_97 (fun H_97_1 locs_97_1 hP_97_1 hD_97_1 hS_97_1 => ?_)
                replace hP : va_P G.1 vwCl [(h, .inr (1, [.ref tx1, .ref sc, .ref st, .int (nI ((((60 + 1) + 1) + 1) + 1))])), (tx1, .inl (G.2.1, 128, .inl (nb (upb (upb (upb (upb T1 60 (toB (f_ush (nI (n * 8)) (nI 24)))) (60 + 1) (toB (f_ush (nI (n * 8)) (nI 16)))) ((60 + 1) + 1) (toB (f_ush (nI (n * 8)) (nI 8)))) (((60 + 1) + 1) + 1) (toB (f_ush (nI (n * 8)) (nI 0))))))), (sc, .inl (G.2.1, 64, .inl S)), (st, .inl (G.2.1, 8, .inl (upd v1 k (HI k))))] H_97_1 := hP_97_1
                replace hD : va_D A [(h, .inr (1, [.ref tx1, .ref sc, .ref st, .int (nI ((((60 + 1) + 1) + 1) + 1))])), (tx1, .inl (G.2.1, 128, .inl (nb (upb (upb (upb (upb T1 60 (toB (f_ush (nI (n * 8)) (nI 24)))) (60 + 1) (toB (f_ush (nI (n * 8)) (nI 16)))) ((60 + 1) + 1) (toB (f_ush (nI (n * 8)) (nI 8)))) (((60 + 1) + 1) + 1) (toB (f_ush (nI (n * 8)) (nI 0))))))), (sc, .inl (G.2.1, 64, .inl S)), (st, .inl (G.2.1, 8, .inl (upd v1 k (HI k))))] := hD_97_1
                replace hS : va_S A sv.heap H_97_1 locs_97_1 := hS_97_1
                clear hP_97_1 hD_97_1 hS_97_1
                refine lv_iinc (v := nI (k + 1)) (lv' := [(3, .int (nI (k + 1))), (0, .ref h), (2, .int (nI 64))]) hx hb dX1_finish_98 hl (k := 2) rfl (f_inc1 _) (by decide) rfl (fun ls hl2 => ?_)
                replace hl := hl2; clear hl2
                refine lv_goto (tgt := 81) hx hb dX1_finish_101 (by decide) ?_
                exact ih_81_1 (k + 1) (upd v1 k (HI k)) _ _ _ (by omega) (by omega) (upd_ext hv1) hP hD hS (lv_sub hl [1, 2, 0] rfl)
          exact L_81_1 ((9 - 0) + 1) 0 v _ _ _ (Nat.lt_succ_self _) (by omega) ext_0 hP hD hS (lv_sub hl [1, 3, 0] rfl)
        · skip
          refine lv_aload_n hx hb dX1_finish_48 rfl (lv_at hl 0 rfl) ?_
          refine lv_iconst (v := nI 0) hx hb dX1_finish_49 (by decide) ?_
          refine fcVV (As := [.int (nI 0)]) (rest := []) (wr := []) (ws1 := fun (u : Unit) => [(h, .inr (1, [.ref tx1, .ref sc, .ref st, .int (nI (k + 1))])), (tx1, .inl (G.2.1, 128, .inl (nb (upb T1 k (toB (nI 0)))))), (sc, .inl (G.2.1, 64, .inl S)), (st, .inl (G.2.1, 8, .inl v))]) ⟨hx, hb, hml, hown, hts⟩ hK hE hP hD hS hA hl.1 (kX1_put l G h tx1 sc st T1 k S v (nI 0) (by omega)) (cwV 1 hts (gdV wm_57 wm_58 wm_59 wm_56 wm_49) rfl rfl rfl (by decide +kernel) ⟨Nat.le_of_ble_eq_true rfl, Nat.le_of_ble_eq_true rfl⟩) 0 rfl rfl rfl rfl (Nat.le_of_ble_eq_true rfl) dX1_finish_50 ⟨Nat.le_of_ble_eq_true rfl, Nat.le_of_ble_eq_true rfl⟩ [0, 1, 2, 3] [] [0, 1, 2, 3] rfl rfl rfl rfl (by decide) rfl (fun _ => rfl) (fun u_50_1 H_50_1 locs_50_1 hw_50_1 hP_50_1 hD_50_1 hS_50_1 => ?_)
          replace hP : va_P G.1 vwCl [(h, .inr (1, [.ref tx1, .ref sc, .ref st, .int (nI (k + 1))])), (tx1, .inl (G.2.1, 128, .inl (nb (upb T1 k (toB (nI 0)))))), (sc, .inl (G.2.1, 64, .inl S)), (st, .inl (G.2.1, 8, .inl v))] H_50_1 := hP_50_1
          replace hD : va_D A [(h, .inr (1, [.ref tx1, .ref sc, .ref st, .int (nI (k + 1))])), (tx1, .inl (G.2.1, 128, .inl (nb (upb T1 k (toB (nI 0)))))), (sc, .inl (G.2.1, 64, .inl S)), (st, .inl (G.2.1, 8, .inl v))] := hD_50_1
          replace hS : va_S A sv.heap H_50_1 locs_50_1 := hS_50_1
          clear hP_50_1 hD_50_1 hS_50_1
          refine lv_iinc (v := nI (k + 1)) (lv' := [(3, .int (nI (k + 1))), (0, .ref h), (1, .int (nI (n * 8))), (2, .int (nI 64))]) hx hb dX1_finish_53 hl (k := 3) rfl (f_inc1 _) (by decide) rfl (fun ls hl2 => ?_)
          replace hl := hl2; clear hl2
          refine lv_goto (tgt := 41) hx hb dX1_finish_56 (by decide) ?_
          exact ih_41_1 (k + 1) (upb T1 k (toB (nI 0))) _ _ _ (by omega) (by omega) (pad_zero (b := toB (nI 0)) hT1 hk.1 (by omega) rfl) hP hD hS (lv_sub hl [1, 2, 3, 0] rfl)
    exact L_41_1 ((65 - (n + 1)) + 1) (n + 1) (upb T n (toB (nI 128))) _ _ _ (Nat.lt_succ_self _) (by omega) e0 hP hD hS (lv_sub hl [3, 2, 1, 0] rfl)
