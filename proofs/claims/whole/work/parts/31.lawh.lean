set_option maxRecDepth 100000 in
set_option maxHeartbeats 4000000 in
theorem kL_feed (l : Launch) (G : fG) (x : Nat) (wc : Nat) (wko : Nat) (lt : Nat) (bu : Nat) (gb : Nat) (ve : Nat) (h : Nat) (d : Nat) (nb1 : Nat) (up : Nat) (cr : Int32) (bb : Nat → UInt8) (many : Nat) (a : Int32) (b : Int32) (c0 : Int32) (d0 : Int32) (out : Nat) (ol : Nat → Int64) (hm : many ≤ 16) (hb4 : nb1 + many ≤ 40) : fMI l yL_feed (.codeWith yL_feed cL_feed 8 (some .int) [(0, 16, 19, 13), (0, 16, 23, 15)] :: wsA) ({ frames := 7, cells := 1, slots := 6, locals := 116 } : Room) G [.ref x, .int (nI many), .int a, .int b, .int c0, .int d0, .ref out] [(x, .inr (4, [.ref h, .ref d, .ref wc, .ref lt, .ref bu, .ref gb, .ref ve, .int (nI nb1), .int (nI up), .int cr])), (bu, .inl (G.2.1, 40, .inl (nb bb))), (out, .inl (G.2.2.1, 1, .inr (.inl ol)))] (fun (r9 : Int32) (u : (Nat → UInt8)) => r9 = nI 0 ∧ (∀ j, j < nb1 → u j = bb j) ∧ (∀ j, j < many → u (nb1 + j) = oct4 a b c0 d0 j)) (fun (u : (Nat → UInt8)) => [(x, .inr (4, [.ref h, .ref d, .ref wc, .ref lt, .ref bu, .ref gb, .ref ve, .int (nI (nb1 + many)), .int (nI up), .int cr])), (bu, .inl (G.2.1, 40, .inl (nb u))), (out, .inl (G.2.2.1, 1, .inr (.inl (vp_updL ol 0 (nI (nb1 + many)).toInt64))))]) 1 6 := by
  refine fH_start (cc := cL_feed) (maxL := 8) (by decide) rfl (Nat.le_of_ble_eq_true rfl) ?_
  intro prg env sv mid args below meth cd A Q ls hx hb hml hown hts htab hK hP hD hE hA hS hl hend
  replace hown : sv.vm.findClass RL = some mid.cls := hown
  replace hP : va_P G.1 vwCl [(x, .inr (4, [.ref h, .ref d, .ref wc, .ref lt, .ref bu, .ref gb, .ref ve, .int (nI nb1), .int (nI up), .int cr])), (bu, .inl (G.2.1, 40, .inl (nb bb))), (out, .inl (G.2.2.1, 1, .inr (.inl ol)))] sv.heap := hP
  replace hl : lv_has ls 8 [(0, .ref x), (1, .int (nI many)), (2, .int a), (3, .int b), (4, .int c0), (5, .int d0), (6, .ref out)] := hl
  refine lv_aload hx hb dL_feed_0 (lv_at hl 6 rfl) ?_
  refine lv_iconst (v := nI 0) hx hb dL_feed_2 (by decide) ?_
  refine lv_aload_n hx hb dL_feed_3 rfl (lv_at hl 0 rfl) ?_
  refine lv_iload_n hx hb dL_feed_4 rfl (lv_at hl 1 rfl) ?_
  refine lv_iload_n hx hb dL_feed_5 rfl (lv_at hl 2 rfl) ?_
  refine lv_iload_n hx hb dL_feed_6 rfl (lv_at hl 3 rfl) ?_
  refine lv_iload hx hb dL_feed_7 (lv_at hl 4 rfl) ?_
  refine lv_iload hx hb dL_feed_9 (lv_at hl 5 rfl) ?_
  refine fcVI (As := [.int (nI many), .int a, .int b, .int c0, .int d0]) (rest := [.int (nI 0), .ref out]) (wr := [(out, .inl (G.2.2.1, 1, .inr (.inl ol)))]) (ws1 := fun (u : (Nat → UInt8)) => [(x, .inr (4, [.ref h, .ref d, .ref wc, .ref lt, .ref bu, .ref gb, .ref ve, .int (nI (nb1 + many)), .int (nI up), .int cr])), (bu, .inl (G.2.1, 40, .inl (nb u))), (out, .inl (G.2.2.1, 1, .inr (.inl ol)))]) ⟨hx, hb, hml, hown, hts⟩ hK hE hP hD hS hA hl.1 (kX4_feed l G x wc wko lt bu gb ve h d nb1 up cr bb many a b c0 d0 hm hb4) (cwV 5 hts (gdV wm_433 wm_434 wm_435 wm_23 wm_185) rfl rfl rfl (by decide +kernel) ⟨Nat.le_of_ble_eq_true rfl, Nat.le_of_ble_eq_true rfl⟩) 0 rfl rfl rfl rfl (Nat.le_of_ble_eq_true rfl) dL_feed_11 ⟨Nat.le_of_ble_eq_true rfl, Nat.le_of_ble_eq_true rfl⟩ [0, 1] [2] [1, 2, 0] rfl rfl rfl rfl (by decide) rfl (fun _ => rfl) (fun r_11 u_11 H_11 locs_11 hw_11 hP_11 hD_11 hS_11 => ?_)
  obtain ⟨jbb2_1, rfl⟩ : ∃ z, z = u_11 := ⟨_, rfl⟩
  obtain ⟨rfl, f_2, f_3⟩ := hw_11
  replace f_2 : (∀ j, j < nb1 → jbb2_1 j = bb j) := f_2
  replace f_3 : (∀ j, j < many → jbb2_1 (nb1 + j) = oct4 a b c0 d0 j) := f_3
  replace hP : va_P G.1 vwCl [(x, .inr (4, [.ref h, .ref d, .ref wc, .ref lt, .ref bu, .ref gb, .ref ve, .int (nI (nb1 + many)), .int (nI up), .int cr])), (bu, .inl (G.2.1, 40, .inl (nb jbb2_1))), (out, .inl (G.2.2.1, 1, .inr (.inl ol)))] H_11 := hP_11
  replace hD : va_D A [(x, .inr (4, [.ref h, .ref d, .ref wc, .ref lt, .ref bu, .ref gb, .ref ve, .int (nI (nb1 + many)), .int (nI up), .int cr])), (bu, .inl (G.2.1, 40, .inl (nb jbb2_1))), (out, .inl (G.2.2.1, 1, .inr (.inl ol)))] := hD_11
  replace hS : va_S A sv.heap H_11 locs_11 := hS_11
  clear hP_11 hD_11 hS_11
  refine lv_i2l hx hb dL_feed_14 rfl ?_
  refine f_last hx hb hK hP hD hS 2 rfl dL_feed_15 (fun H_15 locs_15 hP_15 hD_15 hS_15 => ?_)
  replace hP : va_P G.1 vwCl [(x, .inr (4, [.ref h, .ref d, .ref wc, .ref lt, .ref bu, .ref gb, .ref ve, .int (nI (nb1 + many)), .int (nI up), .int cr])), (bu, .inl (G.2.1, 40, .inl (nb jbb2_1))), (out, .inl (G.2.2.1, 1, .inr (.inl (vp_updL ol 0 ((nI (nb1 + many)).toInt64)))))] H_15 := hP_15
  replace hD : va_D A [(x, .inr (4, [.ref h, .ref d, .ref wc, .ref lt, .ref bu, .ref gb, .ref ve, .int (nI (nb1 + many)), .int (nI up), .int cr])), (bu, .inl (G.2.1, 40, .inl (nb jbb2_1))), (out, .inl (G.2.2.1, 1, .inr (.inl (vp_updL ol 0 ((nI (nb1 + many)).toInt64)))))] := hD_15
  replace hS : va_S A sv.heap H_15 locs_15 := hS_15
  clear hP_15 hD_15 hS_15
  refine lv_goto (tgt := 27) hx hb dL_feed_16 (by decide) ?_
  refine lv_iconst (v := nI 0) hx hb dL_feed_27 (by decide) ?_
  refine W.widen (k := 1) (n := 6) (by omega) (by omega) ?_
  exact hend (nI 0) jbb2_1 _ _ _ _ rfl (⟨rfl, f_2, f_3⟩) hP hD hS dL_feed_28

set_option maxRecDepth 100000 in
set_option maxHeartbeats 4000000 in
theorem kL_append (l : Launch) (G : fG) (x : Nat) (wc : Nat) (wko : Nat) (lt : Nat) (bu : Nat) (gb : Nat) (ve : Nat) (nb1 : Nat) (cr : Int32) (h : Nat) (tx1 : Nat) (sc : Nat) (st : Nat) (T : Nat → UInt8) (n0 : Nat) (S : Nat → Int32) (v : Nat → Int32) (d : Nat) (o : Nat) (g : Nat → UInt8) (n : Nat) (y : Nat) (wkey : Nat → UInt8) (wi : Nat) (lb : Nat → UInt8) (bb : Nat → UInt8) (out : Nat) (ol : Nat → Int64) (hn : n + (10 + nb1) ≤ 1200) (hl9 : nb1 ≤ 40) (hwi : wi < 2 ^ 31) : fMI l yL_append (.codeWith yL_append cL_append 3 (some .int) [(0, 8, 11, 15)] :: wsA) ({ frames := 7, cells := 1, slots := 6, locals := 149 } : Room) G [.ref x, .ref out] [(x, .inr (4, [.ref h, .ref d, .ref wc, .ref lt, .ref bu, .ref gb, .ref ve, .int (nI nb1), .int (nI 1), .int cr])), (h, .inr (1, [.ref tx1, .ref sc, .ref st, .int (nI n0)])), (tx1, .inl (G.2.1, 128, .inl (nb T))), (sc, .inl (G.2.1, 64, .inl S)), (st, .inl (G.2.1, 8, .inl v)), (d, .inr (0, [.ref o, .int (nI n), .int (nI y)])), (o, .inl (G.2.1, 1200, .inl (nb g))), (wc, .inr (2, [.ref wko, .int (nI wi)])), (wko, .inl (G.2.1, 16, .inl (nb wkey))), (lt, .inl (G.2.1, 8, .inl (nb lb))), (bu, .inl (G.2.1, 40, .inl (nb bb))), (out, .inl (G.2.2.1, 1, .inr (.inl ol)))] (fun (r9 : Int32) (u : (Nat → UInt8) × Nat × (Nat → Int32) × (Nat → Int32) × (Nat → UInt8) × (Nat → UInt8)) => r9 = nI 0 ∧ wr2 u.2.2.2.2.1 g n 1 nb1 bb (tagW wkey wi u.2.2.2.2.1 n lb) 8 ∧ (∀ j, j < 8 → u.2.2.2.2.2 j = dgB (tagW wkey wi u.2.2.2.2.1 n lb) j)) (fun (u : (Nat → UInt8) × Nat × (Nat → Int32) × (Nat → Int32) × (Nat → UInt8) × (Nat → UInt8)) => [(x, .inr (4, [.ref h, .ref d, .ref wc, .ref lt, .ref bu, .ref gb, .ref ve, .int (nI nb1), .int (nI 1), .int cr])), (h, .inr (1, [.ref tx1, .ref sc, .ref st, .int (nI u.2.1)])), (tx1, .inl (G.2.1, 128, .inl (nb u.1))), (sc, .inl (G.2.1, 64, .inl u.2.2.1)), (st, .inl (G.2.1, 8, .inl u.2.2.2.1)), (d, .inr (0, [.ref o, .int (nI (n + (10 + nb1))), .int (nI y)])), (o, .inl (G.2.1, 1200, .inl (nb u.2.2.2.2.1))), (wc, .inr (2, [.ref wko, .int (nI (wi + 1))])), (wko, .inl (G.2.1, 16, .inl (nb (nextKey wkey)))), (lt, .inl (G.2.1, 8, .inl (nb u.2.2.2.2.2))), (bu, .inl (G.2.1, 40, .inl (nb bb))), (out, .inl (G.2.2.1, 1, .inr (.inl (vp_updL ol 0 (nI wi).toInt64))))]) 1 6 := by
  refine fH_start (cc := cL_append) (maxL := 3) (by decide) rfl (Nat.le_of_ble_eq_true rfl) ?_
  intro prg env sv mid args below meth cd A Q ls hx hb hml hown hts htab hK hP hD hE hA hS hl hend
  replace hown : sv.vm.findClass RL = some mid.cls := hown
  replace hP : va_P G.1 vwCl [(x, .inr (4, [.ref h, .ref d, .ref wc, .ref lt, .ref bu, .ref gb, .ref ve, .int (nI nb1), .int (nI 1), .int cr])), (h, .inr (1, [.ref tx1, .ref sc, .ref st, .int (nI n0)])), (tx1, .inl (G.2.1, 128, .inl (nb T))), (sc, .inl (G.2.1, 64, .inl S)), (st, .inl (G.2.1, 8, .inl v)), (d, .inr (0, [.ref o, .int (nI n), .int (nI y)])), (o, .inl (G.2.1, 1200, .inl (nb g))), (wc, .inr (2, [.ref wko, .int (nI wi)])), (wko, .inl (G.2.1, 16, .inl (nb wkey))), (lt, .inl (G.2.1, 8, .inl (nb lb))), (bu, .inl (G.2.1, 40, .inl (nb bb))), (out, .inl (G.2.2.1, 1, .inr (.inl ol)))] sv.heap := hP
  replace hl : lv_has ls 3 [(0, .ref x), (1, .ref out)] := hl
  refine lv_aload_n hx hb dL_append_0 rfl (lv_at hl 1 rfl) ?_
  refine lv_iconst (v := nI 0) hx hb dL_append_1 (by decide) ?_
  refine lv_aload_n hx hb dL_append_2 rfl (lv_at hl 0 rfl) ?_
  refine fcVI (As := []) (rest := [.int (nI 0), .ref out]) (wr := [(out, .inl (G.2.2.1, 1, .inr (.inl ol)))]) (ws1 := fun (u : (Nat → UInt8) × Nat × (Nat → Int32) × (Nat → Int32) × (Nat → UInt8) × (Nat → UInt8)) => [(x, .inr (4, [.ref h, .ref d, .ref wc, .ref lt, .ref bu, .ref gb, .ref ve, .int (nI nb1), .int (nI 1), .int cr])), (h, .inr (1, [.ref tx1, .ref sc, .ref st, .int (nI u.2.1)])), (tx1, .inl (G.2.1, 128, .inl (nb u.1))), (sc, .inl (G.2.1, 64, .inl u.2.2.1)), (st, .inl (G.2.1, 8, .inl u.2.2.2.1)), (d, .inr (0, [.ref o, .int (nI (n + (10 + nb1))), .int (nI y)])), (o, .inl (G.2.1, 1200, .inl (nb u.2.2.2.2.1))), (wc, .inr (2, [.ref wko, .int (nI (wi + 1))])), (wko, .inl (G.2.1, 16, .inl (nb (nextKey wkey)))), (lt, .inl (G.2.1, 8, .inl (nb u.2.2.2.2.2))), (bu, .inl (G.2.1, 40, .inl (nb bb))), (out, .inl (G.2.2.1, 1, .inr (.inl ol)))]) ⟨hx, hb, hml, hown, hts⟩ hK hE hP hD hS hA hl.1 (kX4_append l G x wc wko lt bu gb ve nb1 cr h tx1 sc st T n0 S v d o g n y wkey wi lb bb hn hl9 hwi) (cwV 0 hts (gdV wm_437 wm_438 wm_439 wm_23 wm_200) rfl rfl rfl (by decide +kernel) ⟨Nat.le_of_ble_eq_true rfl, Nat.le_of_ble_eq_true rfl⟩) 0 rfl rfl rfl rfl (Nat.le_of_ble_eq_true rfl) dL_append_3 ⟨Nat.le_of_ble_eq_true rfl, Nat.le_of_ble_eq_true rfl⟩ [0, 1, 2, 3, 4, 5, 6, 7, 8, 9, 10] [11] [1, 2, 3, 4, 5, 6, 7, 8, 9, 10, 11, 0] rfl rfl rfl rfl (by decide) rfl (fun _ => rfl) (fun r_3 u_3 H_3 locs_3 hw_3 hP_3 hD_3 hS_3 => ?_)
  obtain ⟨jT2_1, jn2_2, jS2_3, jv2_4, jg2_5, jlb2_6⟩ := u_3
  obtain ⟨rfl, f_7, f_8⟩ := hw_3
  replace f_7 : wr2 jg2_5 g n 1 nb1 bb (tagW wkey wi jg2_5 n lb) 8 := f_7
  replace f_8 : (∀ j, j < 8 → jlb2_6 j = dgB (tagW wkey wi jg2_5 n lb) j) := f_8
  replace hP : va_P G.1 vwCl [(x, .inr (4, [.ref h, .ref d, .ref wc, .ref lt, .ref bu, .ref gb, .ref ve, .int (nI nb1), .int (nI 1), .int cr])), (h, .inr (1, [.ref tx1, .ref sc, .ref st, .int (nI jn2_2)])), (tx1, .inl (G.2.1, 128, .inl (nb jT2_1))), (sc, .inl (G.2.1, 64, .inl jS2_3)), (st, .inl (G.2.1, 8, .inl jv2_4)), (d, .inr (0, [.ref o, .int (nI (n + (10 + nb1))), .int (nI y)])), (o, .inl (G.2.1, 1200, .inl (nb jg2_5))), (wc, .inr (2, [.ref wko, .int (nI (wi + 1))])), (wko, .inl (G.2.1, 16, .inl (nb (nextKey wkey)))), (lt, .inl (G.2.1, 8, .inl (nb jlb2_6))), (bu, .inl (G.2.1, 40, .inl (nb bb))), (out, .inl (G.2.2.1, 1, .inr (.inl ol)))] H_3 := hP_3
  replace hD : va_D A [(x, .inr (4, [.ref h, .ref d, .ref wc, .ref lt, .ref bu, .ref gb, .ref ve, .int (nI nb1), .int (nI 1), .int cr])), (h, .inr (1, [.ref tx1, .ref sc, .ref st, .int (nI jn2_2)])), (tx1, .inl (G.2.1, 128, .inl (nb jT2_1))), (sc, .inl (G.2.1, 64, .inl jS2_3)), (st, .inl (G.2.1, 8, .inl jv2_4)), (d, .inr (0, [.ref o, .int (nI (n + (10 + nb1))), .int (nI y)])), (o, .inl (G.2.1, 1200, .inl (nb jg2_5))), (wc, .inr (2, [.ref wko, .int (nI (wi + 1))])), (wko, .inl (G.2.1, 16, .inl (nb (nextKey wkey)))), (lt, .inl (G.2.1, 8, .inl (nb jlb2_6))), (bu, .inl (G.2.1, 40, .inl (nb bb))), (out, .inl (G.2.2.1, 1, .inr (.inl ol)))] := hD_3
  replace hS : va_S A sv.heap H_3 locs_3 := hS_3
  clear hP_3 hD_3 hS_3
  refine lv_i2l hx hb dL_append_6 rfl ?_
  refine f_last hx hb hK hP hD hS 11 rfl dL_append_7 (fun H_7 locs_7 hP_7 hD_7 hS_7 => ?_)
  replace hP : va_P G.1 vwCl [(x, .inr (4, [.ref h, .ref d, .ref wc, .ref lt, .ref bu, .ref gb, .ref ve, .int (nI nb1), .int (nI 1), .int cr])), (h, .inr (1, [.ref tx1, .ref sc, .ref st, .int (nI jn2_2)])), (tx1, .inl (G.2.1, 128, .inl (nb jT2_1))), (sc, .inl (G.2.1, 64, .inl jS2_3)), (st, .inl (G.2.1, 8, .inl jv2_4)), (d, .inr (0, [.ref o, .int (nI (n + (10 + nb1))), .int (nI y)])), (o, .inl (G.2.1, 1200, .inl (nb jg2_5))), (wc, .inr (2, [.ref wko, .int (nI (wi + 1))])), (wko, .inl (G.2.1, 16, .inl (nb (nextKey wkey)))), (lt, .inl (G.2.1, 8, .inl (nb jlb2_6))), (bu, .inl (G.2.1, 40, .inl (nb bb))), (out, .inl (G.2.2.1, 1, .inr (.inl (vp_updL ol 0 ((nI wi).toInt64)))))] H_7 := hP_7
  replace hD : va_D A [(x, .inr (4, [.ref h, .ref d, .ref wc, .ref lt, .ref bu, .ref gb, .ref ve, .int (nI nb1), .int (nI 1), .int cr])), (h, .inr (1, [.ref tx1, .ref sc, .ref st, .int (nI jn2_2)])), (tx1, .inl (G.2.1, 128, .inl (nb jT2_1))), (sc, .inl (G.2.1, 64, .inl jS2_3)), (st, .inl (G.2.1, 8, .inl jv2_4)), (d, .inr (0, [.ref o, .int (nI (n + (10 + nb1))), .int (nI y)])), (o, .inl (G.2.1, 1200, .inl (nb jg2_5))), (wc, .inr (2, [.ref wko, .int (nI (wi + 1))])), (wko, .inl (G.2.1, 16, .inl (nb (nextKey wkey)))), (lt, .inl (G.2.1, 8, .inl (nb jlb2_6))), (bu, .inl (G.2.1, 40, .inl (nb bb))), (out, .inl (G.2.2.1, 1, .inr (.inl (vp_updL ol 0 ((nI wi).toInt64)))))] := hD_7
  replace hS : va_S A sv.heap H_7 locs_7 := hS_7
  clear hP_7 hD_7 hS_7
  refine lv_goto (tgt := 14) hx hb dL_append_8 (by decide) ?_
  refine lv_iconst (v := nI 0) hx hb dL_append_14 (by decide) ?_
  refine W.widen (k := 1) (n := 6) (by omega) (by omega) ?_
  exact hend (nI 0) (jT2_1, jn2_2, jS2_3, jv2_4, jg2_5, jlb2_6) _ _ _ _ rfl (⟨rfl, f_7, f_8⟩) hP hD hS dL_append_15

set_option maxRecDepth 100000 in
set_option maxHeartbeats 4000000 in
theorem kL_append_full (l : Launch) (G : fG) (x : Nat) (wc : Nat) (wko : Nat) (lt : Nat) (bu : Nat) (gb : Nat) (ve : Nat) (nb1 : Nat) (cr : Int32) (h : Nat) (tx1 : Nat) (sc : Nat) (st : Nat) (T : Nat → UInt8) (n0 : Nat) (S : Nat → Int32) (v : Nat → Int32) (d : Nat) (o : Nat) (g : Nat → UInt8) (n : Nat) (y : Nat) (wkey : Nat → UInt8) (wi : Nat) (lb : Nat → UInt8) (bb : Nat → UInt8) (out : Nat) (ol : Nat → Int64) (hn : 1200 < n + (10 + nb1)) (hn1 : n ≤ 1200) (hl9 : nb1 ≤ 40) : fMI l yL_append (.codeWith yL_append cL_append 3 (some .int) [(0, 8, 11, 15)] :: wsA) ({ frames := 7, cells := 1, slots := 6, locals := 149 } : Room) G [.ref x, .ref out] [(x, .inr (4, [.ref h, .ref d, .ref wc, .ref lt, .ref bu, .ref gb, .ref ve, .int (nI nb1), .int (nI 1), .int cr])), (h, .inr (1, [.ref tx1, .ref sc, .ref st, .int (nI n0)])), (tx1, .inl (G.2.1, 128, .inl (nb T))), (sc, .inl (G.2.1, 64, .inl S)), (st, .inl (G.2.1, 8, .inl v)), (d, .inr (0, [.ref o, .int (nI n), .int (nI y)])), (o, .inl (G.2.1, 1200, .inl (nb g))), (wc, .inr (2, [.ref wko, .int (nI wi)])), (wko, .inl (G.2.1, 16, .inl (nb wkey))), (lt, .inl (G.2.1, 8, .inl (nb lb))), (bu, .inl (G.2.1, 40, .inl (nb bb))), (out, .inl (G.2.2.1, 1, .inr (.inl ol)))] (fun (r9 : Int32) (u : Unit) => r9 = nI 0) (fun (u : Unit) => [(x, .inr (4, [.ref h, .ref d, .ref wc, .ref lt, .ref bu, .ref gb, .ref ve, .int (nI nb1), .int (nI 1), .int cr])), (h, .inr (1, [.ref tx1, .ref sc, .ref st, .int (nI n0)])), (tx1, .inl (G.2.1, 128, .inl (nb T))), (sc, .inl (G.2.1, 64, .inl S)), (st, .inl (G.2.1, 8, .inl v)), (d, .inr (0, [.ref o, .int (nI n), .int (nI y)])), (o, .inl (G.2.1, 1200, .inl (nb g))), (wc, .inr (2, [.ref wko, .int (nI wi)])), (wko, .inl (G.2.1, 16, .inl (nb wkey))), (lt, .inl (G.2.1, 8, .inl (nb lb))), (bu, .inl (G.2.1, 40, .inl (nb bb))), (out, .inl (G.2.2.1, 1, .inr (.inl (vp_updL ol 0 (-2 : Int32).toInt64))))]) 1 6 := by
  refine fH_start (cc := cL_append) (maxL := 3) (by decide) rfl (Nat.le_of_ble_eq_true rfl) ?_
  intro prg env sv mid args below meth cd A Q ls hx hb hml hown hts htab hK hP hD hE hA hS hl hend
  replace hown : sv.vm.findClass RL = some mid.cls := hown
  replace hP : va_P G.1 vwCl [(x, .inr (4, [.ref h, .ref d, .ref wc, .ref lt, .ref bu, .ref gb, .ref ve, .int (nI nb1), .int (nI 1), .int cr])), (h, .inr (1, [.ref tx1, .ref sc, .ref st, .int (nI n0)])), (tx1, .inl (G.2.1, 128, .inl (nb T))), (sc, .inl (G.2.1, 64, .inl S)), (st, .inl (G.2.1, 8, .inl v)), (d, .inr (0, [.ref o, .int (nI n), .int (nI y)])), (o, .inl (G.2.1, 1200, .inl (nb g))), (wc, .inr (2, [.ref wko, .int (nI wi)])), (wko, .inl (G.2.1, 16, .inl (nb wkey))), (lt, .inl (G.2.1, 8, .inl (nb lb))), (bu, .inl (G.2.1, 40, .inl (nb bb))), (out, .inl (G.2.2.1, 1, .inr (.inl ol)))] sv.heap := hP
  replace hl : lv_has ls 3 [(0, .ref x), (1, .ref out)] := hl
  refine lv_aload_n hx hb dL_append_0 rfl (lv_at hl 1 rfl) ?_
  refine lv_iconst (v := nI 0) hx hb dL_append_1 (by decide) ?_
  refine lv_aload_n hx hb dL_append_2 rfl (lv_at hl 0 rfl) ?_
  refine fcVI (As := []) (rest := [.int (nI 0), .ref out]) (wr := [(out, .inl (G.2.2.1, 1, .inr (.inl ol)))]) (ws1 := fun (u : Unit) => [(x, .inr (4, [.ref h, .ref d, .ref wc, .ref lt, .ref bu, .ref gb, .ref ve, .int (nI nb1), .int (nI 1), .int cr])), (h, .inr (1, [.ref tx1, .ref sc, .ref st, .int (nI n0)])), (tx1, .inl (G.2.1, 128, .inl (nb T))), (sc, .inl (G.2.1, 64, .inl S)), (st, .inl (G.2.1, 8, .inl v)), (d, .inr (0, [.ref o, .int (nI n), .int (nI y)])), (o, .inl (G.2.1, 1200, .inl (nb g))), (wc, .inr (2, [.ref wko, .int (nI wi)])), (wko, .inl (G.2.1, 16, .inl (nb wkey))), (lt, .inl (G.2.1, 8, .inl (nb lb))), (bu, .inl (G.2.1, 40, .inl (nb bb))), (out, .inl (G.2.2.1, 1, .inr (.inl ol)))]) ⟨hx, hb, hml, hown, hts⟩ hK hE hP hD hS hA hl.1 (kX4_append_full l G x wc wko lt bu gb ve nb1 cr h tx1 sc st T n0 S v d o g n y wkey wi lb bb hn hn1 hl9) (cwV 0 hts (gdV wm_437 wm_438 wm_439 wm_23 wm_200) rfl rfl rfl (by decide +kernel) ⟨Nat.le_of_ble_eq_true rfl, Nat.le_of_ble_eq_true rfl⟩) 0 rfl rfl rfl rfl (Nat.le_of_ble_eq_true rfl) dL_append_3 ⟨Nat.le_of_ble_eq_true rfl, Nat.le_of_ble_eq_true rfl⟩ [0, 1, 2, 3, 4, 5, 6, 7, 8, 9, 10] [11] [1, 2, 3, 4, 5, 6, 7, 8, 9, 10, 11, 0] rfl rfl rfl rfl (by decide) rfl (fun _ => rfl) (fun r_3 u_3 H_3 locs_3 hw_3 hP_3 hD_3 hS_3 => ?_)
  obtain rfl := hw_3
  replace hP : va_P G.1 vwCl [(x, .inr (4, [.ref h, .ref d, .ref wc, .ref lt, .ref bu, .ref gb, .ref ve, .int (nI nb1), .int (nI 1), .int cr])), (h, .inr (1, [.ref tx1, .ref sc, .ref st, .int (nI n0)])), (tx1, .inl (G.2.1, 128, .inl (nb T))), (sc, .inl (G.2.1, 64, .inl S)), (st, .inl (G.2.1, 8, .inl v)), (d, .inr (0, [.ref o, .int (nI n), .int (nI y)])), (o, .inl (G.2.1, 1200, .inl (nb g))), (wc, .inr (2, [.ref wko, .int (nI wi)])), (wko, .inl (G.2.1, 16, .inl (nb wkey))), (lt, .inl (G.2.1, 8, .inl (nb lb))), (bu, .inl (G.2.1, 40, .inl (nb bb))), (out, .inl (G.2.2.1, 1, .inr (.inl ol)))] H_3 := hP_3
  replace hD : va_D A [(x, .inr (4, [.ref h, .ref d, .ref wc, .ref lt, .ref bu, .ref gb, .ref ve, .int (nI nb1), .int (nI 1), .int cr])), (h, .inr (1, [.ref tx1, .ref sc, .ref st, .int (nI n0)])), (tx1, .inl (G.2.1, 128, .inl (nb T))), (sc, .inl (G.2.1, 64, .inl S)), (st, .inl (G.2.1, 8, .inl v)), (d, .inr (0, [.ref o, .int (nI n), .int (nI y)])), (o, .inl (G.2.1, 1200, .inl (nb g))), (wc, .inr (2, [.ref wko, .int (nI wi)])), (wko, .inl (G.2.1, 16, .inl (nb wkey))), (lt, .inl (G.2.1, 8, .inl (nb lb))), (bu, .inl (G.2.1, 40, .inl (nb bb))), (out, .inl (G.2.2.1, 1, .inr (.inl ol)))] := hD_3
  replace hS : va_S A sv.heap H_3 locs_3 := hS_3
  clear hP_3 hD_3 hS_3
  refine lv_i2l hx hb dL_append_6 rfl ?_
  refine f_last hx hb hK hP hD hS 11 rfl dL_append_7 (fun H_7 locs_7 hP_7 hD_7 hS_7 => ?_)
  replace hP : va_P G.1 vwCl [(x, .inr (4, [.ref h, .ref d, .ref wc, .ref lt, .ref bu, .ref gb, .ref ve, .int (nI nb1), .int (nI 1), .int cr])), (h, .inr (1, [.ref tx1, .ref sc, .ref st, .int (nI n0)])), (tx1, .inl (G.2.1, 128, .inl (nb T))), (sc, .inl (G.2.1, 64, .inl S)), (st, .inl (G.2.1, 8, .inl v)), (d, .inr (0, [.ref o, .int (nI n), .int (nI y)])), (o, .inl (G.2.1, 1200, .inl (nb g))), (wc, .inr (2, [.ref wko, .int (nI wi)])), (wko, .inl (G.2.1, 16, .inl (nb wkey))), (lt, .inl (G.2.1, 8, .inl (nb lb))), (bu, .inl (G.2.1, 40, .inl (nb bb))), (out, .inl (G.2.2.1, 1, .inr (.inl (vp_updL ol 0 ((-2 : Int32).toInt64)))))] H_7 := hP_7
  replace hD : va_D A [(x, .inr (4, [.ref h, .ref d, .ref wc, .ref lt, .ref bu, .ref gb, .ref ve, .int (nI nb1), .int (nI 1), .int cr])), (h, .inr (1, [.ref tx1, .ref sc, .ref st, .int (nI n0)])), (tx1, .inl (G.2.1, 128, .inl (nb T))), (sc, .inl (G.2.1, 64, .inl S)), (st, .inl (G.2.1, 8, .inl v)), (d, .inr (0, [.ref o, .int (nI n), .int (nI y)])), (o, .inl (G.2.1, 1200, .inl (nb g))), (wc, .inr (2, [.ref wko, .int (nI wi)])), (wko, .inl (G.2.1, 16, .inl (nb wkey))), (lt, .inl (G.2.1, 8, .inl (nb lb))), (bu, .inl (G.2.1, 40, .inl (nb bb))), (out, .inl (G.2.2.1, 1, .inr (.inl (vp_updL ol 0 ((-2 : Int32).toInt64)))))] := hD_7
  replace hS : va_S A sv.heap H_7 locs_7 := hS_7
  clear hP_7 hD_7 hS_7
  refine lv_goto (tgt := 14) hx hb dL_append_8 (by decide) ?_
  refine lv_iconst (v := nI 0) hx hb dL_append_14 (by decide) ?_
  refine W.widen (k := 1) (n := 6) (by omega) (by omega) ?_
  exact hend (nI 0) () _ _ _ _ rfl rfl hP hD hS dL_append_15

set_option maxRecDepth 100000 in
set_option maxHeartbeats 4000000 in
theorem kL_seal (l : Launch) (G : fG) (x : Nat) (wc : Nat) (wko : Nat) (lt : Nat) (bu : Nat) (gb : Nat) (ve : Nat) (nb1 : Nat) (cr : Int32) (h : Nat) (tx1 : Nat) (sc : Nat) (st : Nat) (T : Nat → UInt8) (n0 : Nat) (S : Nat → Int32) (v : Nat → Int32) (d : Nat) (o : Nat) (g : Nat → UInt8) (n : Nat) (y : Nat) (wkey : Nat → UInt8) (wi : Nat) (lb : Nat → UInt8) (bb : Nat → UInt8) (out : Nat) (ol : Nat → Int64) (hn : n + (10 + 0) ≤ 1200) (hl9 : nb1 ≤ 40) (hwi : wi < 2 ^ 31) : fMI l yL_seal (.codeWith yL_seal cL_seal 3 (some .int) [(0, 8, 11, 15)] :: wsA) ({ frames := 7, cells := 1, slots := 6, locals := 149 } : Room) G [.ref x, .ref out] [(x, .inr (4, [.ref h, .ref d, .ref wc, .ref lt, .ref bu, .ref gb, .ref ve, .int (nI nb1), .int (nI 1), .int cr])), (h, .inr (1, [.ref tx1, .ref sc, .ref st, .int (nI n0)])), (tx1, .inl (G.2.1, 128, .inl (nb T))), (sc, .inl (G.2.1, 64, .inl S)), (st, .inl (G.2.1, 8, .inl v)), (d, .inr (0, [.ref o, .int (nI n), .int (nI y)])), (o, .inl (G.2.1, 1200, .inl (nb g))), (wc, .inr (2, [.ref wko, .int (nI wi)])), (wko, .inl (G.2.1, 16, .inl (nb wkey))), (lt, .inl (G.2.1, 8, .inl (nb lb))), (bu, .inl (G.2.1, 40, .inl (nb bb))), (out, .inl (G.2.2.1, 1, .inr (.inl ol)))] (fun (r9 : Int32) (u : (Nat → UInt8) × Nat × (Nat → Int32) × (Nat → Int32) × (Nat → UInt8) × (Nat → UInt8)) => r9 = nI 0 ∧ wr2 u.2.2.2.2.1 g n 2 0 bb (tagW wkey wi u.2.2.2.2.1 n lb) 8 ∧ (∀ j, j < 8 → u.2.2.2.2.2 j = dgB (tagW wkey wi u.2.2.2.2.1 n lb) j)) (fun (u : (Nat → UInt8) × Nat × (Nat → Int32) × (Nat → Int32) × (Nat → UInt8) × (Nat → UInt8)) => [(x, .inr (4, [.ref h, .ref d, .ref wc, .ref lt, .ref bu, .ref gb, .ref ve, .int (nI nb1), .int (nI 1), .int cr])), (h, .inr (1, [.ref tx1, .ref sc, .ref st, .int (nI u.2.1)])), (tx1, .inl (G.2.1, 128, .inl (nb u.1))), (sc, .inl (G.2.1, 64, .inl u.2.2.1)), (st, .inl (G.2.1, 8, .inl u.2.2.2.1)), (d, .inr (0, [.ref o, .int (nI (n + (10 + 0))), .int (nI y)])), (o, .inl (G.2.1, 1200, .inl (nb u.2.2.2.2.1))), (wc, .inr (2, [.ref wko, .int (nI (wi + 1))])), (wko, .inl (G.2.1, 16, .inl (nb (nextKey wkey)))), (lt, .inl (G.2.1, 8, .inl (nb u.2.2.2.2.2))), (bu, .inl (G.2.1, 40, .inl (nb bb))), (out, .inl (G.2.2.1, 1, .inr (.inl (vp_updL ol 0 (nI wi).toInt64))))]) 1 6 := by
  refine fH_start (cc := cL_seal) (maxL := 3) (by decide) rfl (Nat.le_of_ble_eq_true rfl) ?_
  intro prg env sv mid args below meth cd A Q ls hx hb hml hown hts htab hK hP hD hE hA hS hl hend
  replace hown : sv.vm.findClass RL = some mid.cls := hown
  replace hP : va_P G.1 vwCl [(x, .inr (4, [.ref h, .ref d, .ref wc, .ref lt, .ref bu, .ref gb, .ref ve, .int (nI nb1), .int (nI 1), .int cr])), (h, .inr (1, [.ref tx1, .ref sc, .ref st, .int (nI n0)])), (tx1, .inl (G.2.1, 128, .inl (nb T))), (sc, .inl (G.2.1, 64, .inl S)), (st, .inl (G.2.1, 8, .inl v)), (d, .inr (0, [.ref o, .int (nI n), .int (nI y)])), (o, .inl (G.2.1, 1200, .inl (nb g))), (wc, .inr (2, [.ref wko, .int (nI wi)])), (wko, .inl (G.2.1, 16, .inl (nb wkey))), (lt, .inl (G.2.1, 8, .inl (nb lb))), (bu, .inl (G.2.1, 40, .inl (nb bb))), (out, .inl (G.2.2.1, 1, .inr (.inl ol)))] sv.heap := hP
  replace hl : lv_has ls 3 [(0, .ref x), (1, .ref out)] := hl
  refine lv_aload_n hx hb dL_seal_0 rfl (lv_at hl 1 rfl) ?_
  refine lv_iconst (v := nI 0) hx hb dL_seal_1 (by decide) ?_
  refine lv_aload_n hx hb dL_seal_2 rfl (lv_at hl 0 rfl) ?_
  refine fcVI (As := []) (rest := [.int (nI 0), .ref out]) (wr := [(out, .inl (G.2.2.1, 1, .inr (.inl ol)))]) (ws1 := fun (u : (Nat → UInt8) × Nat × (Nat → Int32) × (Nat → Int32) × (Nat → UInt8) × (Nat → UInt8)) => [(x, .inr (4, [.ref h, .ref d, .ref wc, .ref lt, .ref bu, .ref gb, .ref ve, .int (nI nb1), .int (nI 1), .int cr])), (h, .inr (1, [.ref tx1, .ref sc, .ref st, .int (nI u.2.1)])), (tx1, .inl (G.2.1, 128, .inl (nb u.1))), (sc, .inl (G.2.1, 64, .inl u.2.2.1)), (st, .inl (G.2.1, 8, .inl u.2.2.2.1)), (d, .inr (0, [.ref o, .int (nI (n + (10 + 0))), .int (nI y)])), (o, .inl (G.2.1, 1200, .inl (nb u.2.2.2.2.1))), (wc, .inr (2, [.ref wko, .int (nI (wi + 1))])), (wko, .inl (G.2.1, 16, .inl (nb (nextKey wkey)))), (lt, .inl (G.2.1, 8, .inl (nb u.2.2.2.2.2))), (bu, .inl (G.2.1, 40, .inl (nb bb))), (out, .inl (G.2.2.1, 1, .inr (.inl ol)))]) ⟨hx, hb, hml, hown, hts⟩ hK hE hP hD hS hA hl.1 (kX4_seal l G x wc wko lt bu gb ve nb1 cr h tx1 sc st T n0 S v d o g n y wkey wi lb bb hn hl9 hwi) (cwV 0 hts (gdV wm_441 wm_442 wm_443 wm_23 wm_204) rfl rfl rfl (by decide +kernel) ⟨Nat.le_of_ble_eq_true rfl, Nat.le_of_ble_eq_true rfl⟩) 0 rfl rfl rfl rfl (Nat.le_of_ble_eq_true rfl) dL_seal_3 ⟨Nat.le_of_ble_eq_true rfl, Nat.le_of_ble_eq_true rfl⟩ [0, 1, 2, 3, 4, 5, 6, 7, 8, 9, 10] [11] [1, 2, 3, 4, 5, 6, 7, 8, 9, 10, 11, 0] rfl rfl rfl rfl (by decide) rfl (fun _ => rfl) (fun r_3 u_3 H_3 locs_3 hw_3 hP_3 hD_3 hS_3 => ?_)
  obtain ⟨jT2_1, jn2_2, jS2_3, jv2_4, jg2_5, jlb2_6⟩ := u_3
  obtain ⟨rfl, f_7, f_8⟩ := hw_3
  replace f_7 : wr2 jg2_5 g n 2 0 bb (tagW wkey wi jg2_5 n lb) 8 := f_7
  replace f_8 : (∀ j, j < 8 → jlb2_6 j = dgB (tagW wkey wi jg2_5 n lb) j) := f_8
  replace hP : va_P G.1 vwCl [(x, .inr (4, [.ref h, .ref d, .ref wc, .ref lt, .ref bu, .ref gb, .ref ve, .int (nI nb1), .int (nI 1), .int cr])), (h, .inr (1, [.ref tx1, .ref sc, .ref st, .int (nI jn2_2)])), (tx1, .inl (G.2.1, 128, .inl (nb jT2_1))), (sc, .inl (G.2.1, 64, .inl jS2_3)), (st, .inl (G.2.1, 8, .inl jv2_4)), (d, .inr (0, [.ref o, .int (nI (n + (10 + 0))), .int (nI y)])), (o, .inl (G.2.1, 1200, .inl (nb jg2_5))), (wc, .inr (2, [.ref wko, .int (nI (wi + 1))])), (wko, .inl (G.2.1, 16, .inl (nb (nextKey wkey)))), (lt, .inl (G.2.1, 8, .inl (nb jlb2_6))), (bu, .inl (G.2.1, 40, .inl (nb bb))), (out, .inl (G.2.2.1, 1, .inr (.inl ol)))] H_3 := hP_3
  replace hD : va_D A [(x, .inr (4, [.ref h, .ref d, .ref wc, .ref lt, .ref bu, .ref gb, .ref ve, .int (nI nb1), .int (nI 1), .int cr])), (h, .inr (1, [.ref tx1, .ref sc, .ref st, .int (nI jn2_2)])), (tx1, .inl (G.2.1, 128, .inl (nb jT2_1))), (sc, .inl (G.2.1, 64, .inl jS2_3)), (st, .inl (G.2.1, 8, .inl jv2_4)), (d, .inr (0, [.ref o, .int (nI (n + (10 + 0))), .int (nI y)])), (o, .inl (G.2.1, 1200, .inl (nb jg2_5))), (wc, .inr (2, [.ref wko, .int (nI (wi + 1))])), (wko, .inl (G.2.1, 16, .inl (nb (nextKey wkey)))), (lt, .inl (G.2.1, 8, .inl (nb jlb2_6))), (bu, .inl (G.2.1, 40, .inl (nb bb))), (out, .inl (G.2.2.1, 1, .inr (.inl ol)))] := hD_3
  replace hS : va_S A sv.heap H_3 locs_3 := hS_3
  clear hP_3 hD_3 hS_3
  refine lv_i2l hx hb dL_seal_6 rfl ?_
  refine f_last hx hb hK hP hD hS 11 rfl dL_seal_7 (fun H_7 locs_7 hP_7 hD_7 hS_7 => ?_)
  replace hP : va_P G.1 vwCl [(x, .inr (4, [.ref h, .ref d, .ref wc, .ref lt, .ref bu, .ref gb, .ref ve, .int (nI nb1), .int (nI 1), .int cr])), (h, .inr (1, [.ref tx1, .ref sc, .ref st, .int (nI jn2_2)])), (tx1, .inl (G.2.1, 128, .inl (nb jT2_1))), (sc, .inl (G.2.1, 64, .inl jS2_3)), (st, .inl (G.2.1, 8, .inl jv2_4)), (d, .inr (0, [.ref o, .int (nI (n + (10 + 0))), .int (nI y)])), (o, .inl (G.2.1, 1200, .inl (nb jg2_5))), (wc, .inr (2, [.ref wko, .int (nI (wi + 1))])), (wko, .inl (G.2.1, 16, .inl (nb (nextKey wkey)))), (lt, .inl (G.2.1, 8, .inl (nb jlb2_6))), (bu, .inl (G.2.1, 40, .inl (nb bb))), (out, .inl (G.2.2.1, 1, .inr (.inl (vp_updL ol 0 ((nI wi).toInt64)))))] H_7 := hP_7
  replace hD : va_D A [(x, .inr (4, [.ref h, .ref d, .ref wc, .ref lt, .ref bu, .ref gb, .ref ve, .int (nI nb1), .int (nI 1), .int cr])), (h, .inr (1, [.ref tx1, .ref sc, .ref st, .int (nI jn2_2)])), (tx1, .inl (G.2.1, 128, .inl (nb jT2_1))), (sc, .inl (G.2.1, 64, .inl jS2_3)), (st, .inl (G.2.1, 8, .inl jv2_4)), (d, .inr (0, [.ref o, .int (nI (n + (10 + 0))), .int (nI y)])), (o, .inl (G.2.1, 1200, .inl (nb jg2_5))), (wc, .inr (2, [.ref wko, .int (nI (wi + 1))])), (wko, .inl (G.2.1, 16, .inl (nb (nextKey wkey)))), (lt, .inl (G.2.1, 8, .inl (nb jlb2_6))), (bu, .inl (G.2.1, 40, .inl (nb bb))), (out, .inl (G.2.2.1, 1, .inr (.inl (vp_updL ol 0 ((nI wi).toInt64)))))] := hD_7
  replace hS : va_S A sv.heap H_7 locs_7 := hS_7
  clear hP_7 hD_7 hS_7
  refine lv_goto (tgt := 14) hx hb dL_seal_8 (by decide) ?_
  refine lv_iconst (v := nI 0) hx hb dL_seal_14 (by decide) ?_
  refine W.widen (k := 1) (n := 6) (by omega) (by omega) ?_
  exact hend (nI 0) (jT2_1, jn2_2, jS2_3, jv2_4, jg2_5, jlb2_6) _ _ _ _ rfl (⟨rfl, f_7, f_8⟩) hP hD hS dL_seal_15

set_option maxRecDepth 100000 in
set_option maxHeartbeats 4000000 in
theorem kL_seal_full (l : Launch) (G : fG) (x : Nat) (wc : Nat) (wko : Nat) (lt : Nat) (bu : Nat) (gb : Nat) (ve : Nat) (nb1 : Nat) (cr : Int32) (h : Nat) (tx1 : Nat) (sc : Nat) (st : Nat) (T : Nat → UInt8) (n0 : Nat) (S : Nat → Int32) (v : Nat → Int32) (d : Nat) (o : Nat) (g : Nat → UInt8) (n : Nat) (y : Nat) (wkey : Nat → UInt8) (wi : Nat) (lb : Nat → UInt8) (bb : Nat → UInt8) (out : Nat) (ol : Nat → Int64) (hn : 1200 < n + (10 + 0)) (hn1 : n ≤ 1200) (hl9 : nb1 ≤ 40) : fMI l yL_seal (.codeWith yL_seal cL_seal 3 (some .int) [(0, 8, 11, 15)] :: wsA) ({ frames := 7, cells := 1, slots := 6, locals := 149 } : Room) G [.ref x, .ref out] [(x, .inr (4, [.ref h, .ref d, .ref wc, .ref lt, .ref bu, .ref gb, .ref ve, .int (nI nb1), .int (nI 1), .int cr])), (h, .inr (1, [.ref tx1, .ref sc, .ref st, .int (nI n0)])), (tx1, .inl (G.2.1, 128, .inl (nb T))), (sc, .inl (G.2.1, 64, .inl S)), (st, .inl (G.2.1, 8, .inl v)), (d, .inr (0, [.ref o, .int (nI n), .int (nI y)])), (o, .inl (G.2.1, 1200, .inl (nb g))), (wc, .inr (2, [.ref wko, .int (nI wi)])), (wko, .inl (G.2.1, 16, .inl (nb wkey))), (lt, .inl (G.2.1, 8, .inl (nb lb))), (bu, .inl (G.2.1, 40, .inl (nb bb))), (out, .inl (G.2.2.1, 1, .inr (.inl ol)))] (fun (r9 : Int32) (u : Unit) => r9 = nI 0) (fun (u : Unit) => [(x, .inr (4, [.ref h, .ref d, .ref wc, .ref lt, .ref bu, .ref gb, .ref ve, .int (nI nb1), .int (nI 1), .int cr])), (h, .inr (1, [.ref tx1, .ref sc, .ref st, .int (nI n0)])), (tx1, .inl (G.2.1, 128, .inl (nb T))), (sc, .inl (G.2.1, 64, .inl S)), (st, .inl (G.2.1, 8, .inl v)), (d, .inr (0, [.ref o, .int (nI n), .int (nI y)])), (o, .inl (G.2.1, 1200, .inl (nb g))), (wc, .inr (2, [.ref wko, .int (nI wi)])), (wko, .inl (G.2.1, 16, .inl (nb wkey))), (lt, .inl (G.2.1, 8, .inl (nb lb))), (bu, .inl (G.2.1, 40, .inl (nb bb))), (out, .inl (G.2.2.1, 1, .inr (.inl (vp_updL ol 0 (-2 : Int32).toInt64))))]) 1 6 := by
  refine fH_start (cc := cL_seal) (maxL := 3) (by decide) rfl (Nat.le_of_ble_eq_true rfl) ?_
  intro prg env sv mid args below meth cd A Q ls hx hb hml hown hts htab hK hP hD hE hA hS hl hend
  replace hown : sv.vm.findClass RL = some mid.cls := hown
  replace hP : va_P G.1 vwCl [(x, .inr (4, [.ref h, .ref d, .ref wc, .ref lt, .ref bu, .ref gb, .ref ve, .int (nI nb1), .int (nI 1), .int cr])), (h, .inr (1, [.ref tx1, .ref sc, .ref st, .int (nI n0)])), (tx1, .inl (G.2.1, 128, .inl (nb T))), (sc, .inl (G.2.1, 64, .inl S)), (st, .inl (G.2.1, 8, .inl v)), (d, .inr (0, [.ref o, .int (nI n), .int (nI y)])), (o, .inl (G.2.1, 1200, .inl (nb g))), (wc, .inr (2, [.ref wko, .int (nI wi)])), (wko, .inl (G.2.1, 16, .inl (nb wkey))), (lt, .inl (G.2.1, 8, .inl (nb lb))), (bu, .inl (G.2.1, 40, .inl (nb bb))), (out, .inl (G.2.2.1, 1, .inr (.inl ol)))] sv.heap := hP
  replace hl : lv_has ls 3 [(0, .ref x), (1, .ref out)] := hl
  refine lv_aload_n hx hb dL_seal_0 rfl (lv_at hl 1 rfl) ?_
  refine lv_iconst (v := nI 0) hx hb dL_seal_1 (by decide) ?_
  refine lv_aload_n hx hb dL_seal_2 rfl (lv_at hl 0 rfl) ?_
  refine fcVI (As := []) (rest := [.int (nI 0), .ref out]) (wr := [(out, .inl (G.2.2.1, 1, .inr (.inl ol)))]) (ws1 := fun (u : Unit) => [(x, .inr (4, [.ref h, .ref d, .ref wc, .ref lt, .ref bu, .ref gb, .ref ve, .int (nI nb1), .int (nI 1), .int cr])), (h, .inr (1, [.ref tx1, .ref sc, .ref st, .int (nI n0)])), (tx1, .inl (G.2.1, 128, .inl (nb T))), (sc, .inl (G.2.1, 64, .inl S)), (st, .inl (G.2.1, 8, .inl v)), (d, .inr (0, [.ref o, .int (nI n), .int (nI y)])), (o, .inl (G.2.1, 1200, .inl (nb g))), (wc, .inr (2, [.ref wko, .int (nI wi)])), (wko, .inl (G.2.1, 16, .inl (nb wkey))), (lt, .inl (G.2.1, 8, .inl (nb lb))), (bu, .inl (G.2.1, 40, .inl (nb bb))), (out, .inl (G.2.2.1, 1, .inr (.inl ol)))]) ⟨hx, hb, hml, hown, hts⟩ hK hE hP hD hS hA hl.1 (kX4_seal_full l G x wc wko lt bu gb ve nb1 cr h tx1 sc st T n0 S v d o g n y wkey wi lb bb hn hn1 hl9) (cwV 0 hts (gdV wm_441 wm_442 wm_443 wm_23 wm_204) rfl rfl rfl (by decide +kernel) ⟨Nat.le_of_ble_eq_true rfl, Nat.le_of_ble_eq_true rfl⟩) 0 rfl rfl rfl rfl (Nat.le_of_ble_eq_true rfl) dL_seal_3 ⟨Nat.le_of_ble_eq_true rfl, Nat.le_of_ble_eq_true rfl⟩ [0, 1, 2, 3, 4, 5, 6, 7, 8, 9, 10] [11] [1, 2, 3, 4, 5, 6, 7, 8, 9, 10, 11, 0] rfl rfl rfl rfl (by decide) rfl (fun _ => rfl) (fun r_3 u_3 H_3 locs_3 hw_3 hP_3 hD_3 hS_3 => ?_)
  obtain rfl := hw_3
  replace hP : va_P G.1 vwCl [(x, .inr (4, [.ref h, .ref d, .ref wc, .ref lt, .ref bu, .ref gb, .ref ve, .int (nI nb1), .int (nI 1), .int cr])), (h, .inr (1, [.ref tx1, .ref sc, .ref st, .int (nI n0)])), (tx1, .inl (G.2.1, 128, .inl (nb T))), (sc, .inl (G.2.1, 64, .inl S)), (st, .inl (G.2.1, 8, .inl v)), (d, .inr (0, [.ref o, .int (nI n), .int (nI y)])), (o, .inl (G.2.1, 1200, .inl (nb g))), (wc, .inr (2, [.ref wko, .int (nI wi)])), (wko, .inl (G.2.1, 16, .inl (nb wkey))), (lt, .inl (G.2.1, 8, .inl (nb lb))), (bu, .inl (G.2.1, 40, .inl (nb bb))), (out, .inl (G.2.2.1, 1, .inr (.inl ol)))] H_3 := hP_3
  replace hD : va_D A [(x, .inr (4, [.ref h, .ref d, .ref wc, .ref lt, .ref bu, .ref gb, .ref ve, .int (nI nb1), .int (nI 1), .int cr])), (h, .inr (1, [.ref tx1, .ref sc, .ref st, .int (nI n0)])), (tx1, .inl (G.2.1, 128, .inl (nb T))), (sc, .inl (G.2.1, 64, .inl S)), (st, .inl (G.2.1, 8, .inl v)), (d, .inr (0, [.ref o, .int (nI n), .int (nI y)])), (o, .inl (G.2.1, 1200, .inl (nb g))), (wc, .inr (2, [.ref wko, .int (nI wi)])), (wko, .inl (G.2.1, 16, .inl (nb wkey))), (lt, .inl (G.2.1, 8, .inl (nb lb))), (bu, .inl (G.2.1, 40, .inl (nb bb))), (out, .inl (G.2.2.1, 1, .inr (.inl ol)))] := hD_3
  replace hS : va_S A sv.heap H_3 locs_3 := hS_3
  clear hP_3 hD_3 hS_3
  refine lv_i2l hx hb dL_seal_6 rfl ?_
  refine f_last hx hb hK hP hD hS 11 rfl dL_seal_7 (fun H_7 locs_7 hP_7 hD_7 hS_7 => ?_)
  replace hP : va_P G.1 vwCl [(x, .inr (4, [.ref h, .ref d, .ref wc, .ref lt, .ref bu, .ref gb, .ref ve, .int (nI nb1), .int (nI 1), .int cr])), (h, .inr (1, [.ref tx1, .ref sc, .ref st, .int (nI n0)])), (tx1, .inl (G.2.1, 128, .inl (nb T))), (sc, .inl (G.2.1, 64, .inl S)), (st, .inl (G.2.1, 8, .inl v)), (d, .inr (0, [.ref o, .int (nI n), .int (nI y)])), (o, .inl (G.2.1, 1200, .inl (nb g))), (wc, .inr (2, [.ref wko, .int (nI wi)])), (wko, .inl (G.2.1, 16, .inl (nb wkey))), (lt, .inl (G.2.1, 8, .inl (nb lb))), (bu, .inl (G.2.1, 40, .inl (nb bb))), (out, .inl (G.2.2.1, 1, .inr (.inl (vp_updL ol 0 ((-2 : Int32).toInt64)))))] H_7 := hP_7
  replace hD : va_D A [(x, .inr (4, [.ref h, .ref d, .ref wc, .ref lt, .ref bu, .ref gb, .ref ve, .int (nI nb1), .int (nI 1), .int cr])), (h, .inr (1, [.ref tx1, .ref sc, .ref st, .int (nI n0)])), (tx1, .inl (G.2.1, 128, .inl (nb T))), (sc, .inl (G.2.1, 64, .inl S)), (st, .inl (G.2.1, 8, .inl v)), (d, .inr (0, [.ref o, .int (nI n), .int (nI y)])), (o, .inl (G.2.1, 1200, .inl (nb g))), (wc, .inr (2, [.ref wko, .int (nI wi)])), (wko, .inl (G.2.1, 16, .inl (nb wkey))), (lt, .inl (G.2.1, 8, .inl (nb lb))), (bu, .inl (G.2.1, 40, .inl (nb bb))), (out, .inl (G.2.2.1, 1, .inr (.inl (vp_updL ol 0 ((-2 : Int32).toInt64)))))] := hD_7
  replace hS : va_S A sv.heap H_7 locs_7 := hS_7
  clear hP_7 hD_7 hS_7
  refine lv_goto (tgt := 14) hx hb dL_seal_8 (by decide) ?_
  refine lv_iconst (v := nI 0) hx hb dL_seal_14 (by decide) ?_
  refine W.widen (k := 1) (n := 6) (by omega) (by omega) ?_
  exact hend (nI 0) () _ _ _ _ rfl rfl hP hD hS dL_seal_15

set_option maxRecDepth 100000 in
set_option maxHeartbeats 4000000 in
theorem kL_sync (l : Launch) (G : fG) (x : Nat) (wc : Nat) (wko : Nat) (lt : Nat) (bu : Nat) (gb : Nat) (ve : Nat) (h : Nat) (nb1 : Nat) (cr : Int32) (d : Nat) (o : Nat) (g : Nat → UInt8) (n : Nat) (y : Nat) (out : Nat) (ol : Nat → Int64)  : fMI l yL_sync (.codeWith yL_sync cL_sync 3 (some .int) [(0, 8, 11, 15)] :: wsA) ({ frames := 7, cells := 1, slots := 6, locals := 110 } : Room) G [.ref x, .ref out] [(x, .inr (4, [.ref h, .ref d, .ref wc, .ref lt, .ref bu, .ref gb, .ref ve, .int (nI nb1), .int (nI 1), .int cr])), (d, .inr (0, [.ref o, .int (nI n), .int (nI y)])), (o, .inl (G.2.1, 1200, .inl (nb g))), (out, .inl (G.2.2.1, 1, .inr (.inl ol)))] (fun (r9 : Int32) (u : Unit) => r9 = nI 0) (fun (u : Unit) => [(x, .inr (4, [.ref h, .ref d, .ref wc, .ref lt, .ref bu, .ref gb, .ref ve, .int (nI nb1), .int (nI 1), .int cr])), (d, .inr (0, [.ref o, .int (nI n), .int (nI n)])), (o, .inl (G.2.1, 1200, .inl (nb g))), (out, .inl (G.2.2.1, 1, .inr (.inl (vp_updL ol 0 (nI n).toInt64))))]) 1 6 := by
  refine fH_start (cc := cL_sync) (maxL := 3) (by decide) rfl (Nat.le_of_ble_eq_true rfl) ?_
  intro prg env sv mid args below meth cd A Q ls hx hb hml hown hts htab hK hP hD hE hA hS hl hend
  replace hown : sv.vm.findClass RL = some mid.cls := hown
  replace hP : va_P G.1 vwCl [(x, .inr (4, [.ref h, .ref d, .ref wc, .ref lt, .ref bu, .ref gb, .ref ve, .int (nI nb1), .int (nI 1), .int cr])), (d, .inr (0, [.ref o, .int (nI n), .int (nI y)])), (o, .inl (G.2.1, 1200, .inl (nb g))), (out, .inl (G.2.2.1, 1, .inr (.inl ol)))] sv.heap := hP
  replace hl : lv_has ls 3 [(0, .ref x), (1, .ref out)] := hl
  refine lv_aload_n hx hb dL_sync_0 rfl (lv_at hl 1 rfl) ?_
  refine lv_iconst (v := nI 0) hx hb dL_sync_1 (by decide) ?_
  refine lv_aload_n hx hb dL_sync_2 rfl (lv_at hl 0 rfl) ?_
  refine fcVI (As := []) (rest := [.int (nI 0), .ref out]) (wr := [(out, .inl (G.2.2.1, 1, .inr (.inl ol)))]) (ws1 := fun (u : Unit) => [(x, .inr (4, [.ref h, .ref d, .ref wc, .ref lt, .ref bu, .ref gb, .ref ve, .int (nI nb1), .int (nI 1), .int cr])), (d, .inr (0, [.ref o, .int (nI n), .int (nI n)])), (o, .inl (G.2.1, 1200, .inl (nb g))), (out, .inl (G.2.2.1, 1, .inr (.inl ol)))]) ⟨hx, hb, hml, hown, hts⟩ hK hE hP hD hS hA hl.1 (kX4_sync l G x wc wko lt bu gb ve h nb1 cr d o g n y ) (cwV 0 hts (gdV wm_445 wm_446 wm_447 wm_23 wm_205) rfl rfl rfl (by decide +kernel) ⟨Nat.le_of_ble_eq_true rfl, Nat.le_of_ble_eq_true rfl⟩) 0 rfl rfl rfl rfl (Nat.le_of_ble_eq_true rfl) dL_sync_3 ⟨Nat.le_of_ble_eq_true rfl, Nat.le_of_ble_eq_true rfl⟩ [0, 1, 2] [3] [1, 2, 3, 0] rfl rfl rfl rfl (by decide) rfl (fun _ => rfl) (fun r_3 u_3 H_3 locs_3 hw_3 hP_3 hD_3 hS_3 => ?_)
  obtain rfl := hw_3
  replace hP : va_P G.1 vwCl [(x, .inr (4, [.ref h, .ref d, .ref wc, .ref lt, .ref bu, .ref gb, .ref ve, .int (nI nb1), .int (nI 1), .int cr])), (d, .inr (0, [.ref o, .int (nI n), .int (nI n)])), (o, .inl (G.2.1, 1200, .inl (nb g))), (out, .inl (G.2.2.1, 1, .inr (.inl ol)))] H_3 := hP_3
  replace hD : va_D A [(x, .inr (4, [.ref h, .ref d, .ref wc, .ref lt, .ref bu, .ref gb, .ref ve, .int (nI nb1), .int (nI 1), .int cr])), (d, .inr (0, [.ref o, .int (nI n), .int (nI n)])), (o, .inl (G.2.1, 1200, .inl (nb g))), (out, .inl (G.2.2.1, 1, .inr (.inl ol)))] := hD_3
  replace hS : va_S A sv.heap H_3 locs_3 := hS_3
  clear hP_3 hD_3 hS_3
  refine lv_i2l hx hb dL_sync_6 rfl ?_
  refine f_last hx hb hK hP hD hS 3 rfl dL_sync_7 (fun H_7 locs_7 hP_7 hD_7 hS_7 => ?_)
  replace hP : va_P G.1 vwCl [(x, .inr (4, [.ref h, .ref d, .ref wc, .ref lt, .ref bu, .ref gb, .ref ve, .int (nI nb1), .int (nI 1), .int cr])), (d, .inr (0, [.ref o, .int (nI n), .int (nI n)])), (o, .inl (G.2.1, 1200, .inl (nb g))), (out, .inl (G.2.2.1, 1, .inr (.inl (vp_updL ol 0 ((nI n).toInt64)))))] H_7 := hP_7
  replace hD : va_D A [(x, .inr (4, [.ref h, .ref d, .ref wc, .ref lt, .ref bu, .ref gb, .ref ve, .int (nI nb1), .int (nI 1), .int cr])), (d, .inr (0, [.ref o, .int (nI n), .int (nI n)])), (o, .inl (G.2.1, 1200, .inl (nb g))), (out, .inl (G.2.2.1, 1, .inr (.inl (vp_updL ol 0 ((nI n).toInt64)))))] := hD_7
  replace hS : va_S A sv.heap H_7 locs_7 := hS_7
  clear hP_7 hD_7 hS_7
  refine lv_goto (tgt := 14) hx hb dL_sync_8 (by decide) ?_
  refine lv_iconst (v := nI 0) hx hb dL_sync_14 (by decide) ?_
  refine W.widen (k := 1) (n := 6) (by omega) (by omega) ?_
  exact hend (nI 0) () _ _ _ _ rfl rfl hP hD hS dL_sync_15

set_option maxRecDepth 100000 in
set_option maxHeartbeats 4000000 in
theorem kL_crash (l : Launch) (G : fG) (x : Nat) (wc : Nat) (wko : Nat) (lt : Nat) (bu : Nat) (gb : Nat) (ve : Nat) (h : Nat) (nb1 : Nat) (up : Nat) (cr : Int32) (d : Nat) (o : Nat) (g : Nat → UInt8) (n : Nat) (y : Nat) (k : Nat) (out : Nat) (ol : Nat → Int64) (hn : n ≤ 1200) (hy : y ≤ n) (hk : k < 2 ^ 31) : fMI l yL_crash (.codeWith yL_crash cL_crash 4 (some .int) [(0, 9, 12, 13)] :: wsA) ({ frames := 7, cells := 1, slots := 6, locals := 113 } : Room) G [.ref x, .int (nI k), .ref out] [(x, .inr (4, [.ref h, .ref d, .ref wc, .ref lt, .ref bu, .ref gb, .ref ve, .int (nI nb1), .int (nI up), .int cr])), (d, .inr (0, [.ref o, .int (nI n), .int (nI y)])), (o, .inl (G.2.1, 1200, .inl (nb g))), (out, .inl (G.2.2.1, 1, .inr (.inl ol)))] (fun (r9 : Int32) (u : Unit) => r9 = nI 0) (fun (u : Unit) => [(x, .inr (4, [.ref h, .ref d, .ref wc, .ref lt, .ref bu, .ref gb, .ref ve, .int (nI nb1), .int (nI 0), .int (cr + nI 1)])), (d, .inr (0, [.ref o, .int (nI (y + min k (n - y))), .int (nI y)])), (o, .inl (G.2.1, 1200, .inl (nb g))), (out, .inl (G.2.2.1, 1, .inr (.inl (vp_updL ol 0 (nI ((n - y) - min k (n - y))).toInt64))))]) 1 6 := by
  refine fH_start (cc := cL_crash) (maxL := 4) (by decide) rfl (Nat.le_of_ble_eq_true rfl) ?_
  intro prg env sv mid args below meth cd A Q ls hx hb hml hown hts htab hK hP hD hE hA hS hl hend
  replace hown : sv.vm.findClass RL = some mid.cls := hown
  replace hP : va_P G.1 vwCl [(x, .inr (4, [.ref h, .ref d, .ref wc, .ref lt, .ref bu, .ref gb, .ref ve, .int (nI nb1), .int (nI up), .int cr])), (d, .inr (0, [.ref o, .int (nI n), .int (nI y)])), (o, .inl (G.2.1, 1200, .inl (nb g))), (out, .inl (G.2.2.1, 1, .inr (.inl ol)))] sv.heap := hP
  replace hl : lv_has ls 4 [(0, .ref x), (1, .int (nI k)), (2, .ref out)] := hl
  refine lv_aload_n hx hb dL_crash_0 rfl (lv_at hl 2 rfl) ?_
  refine lv_iconst (v := nI 0) hx hb dL_crash_1 (by decide) ?_
  refine lv_aload_n hx hb dL_crash_2 rfl (lv_at hl 0 rfl) ?_
  refine lv_iload_n hx hb dL_crash_3 rfl (lv_at hl 1 rfl) ?_
  refine fcVI (As := [.int (nI k)]) (rest := [.int (nI 0), .ref out]) (wr := [(out, .inl (G.2.2.1, 1, .inr (.inl ol)))]) (ws1 := fun (u : Unit) => [(x, .inr (4, [.ref h, .ref d, .ref wc, .ref lt, .ref bu, .ref gb, .ref ve, .int (nI nb1), .int (nI 0), .int (cr + nI 1)])), (d, .inr (0, [.ref o, .int (nI (y + min k (n - y))), .int (nI y)])), (o, .inl (G.2.1, 1200, .inl (nb g))), (out, .inl (G.2.2.1, 1, .inr (.inl ol)))]) ⟨hx, hb, hml, hown, hts⟩ hK hE hP hD hS hA hl.1 (kX4_crash l G x wc wko lt bu gb ve h nb1 up cr d o g n y k hn hy hk) (cwV 1 hts (gdV wm_449 wm_450 wm_451 wm_23 wm_207) rfl rfl rfl (by decide +kernel) ⟨Nat.le_of_ble_eq_true rfl, Nat.le_of_ble_eq_true rfl⟩) 0 rfl rfl rfl rfl (Nat.le_of_ble_eq_true rfl) dL_crash_4 ⟨Nat.le_of_ble_eq_true rfl, Nat.le_of_ble_eq_true rfl⟩ [0, 1, 2] [3] [1, 2, 3, 0] rfl rfl rfl rfl (by decide) rfl (fun _ => rfl) (fun r_4 u_4 H_4 locs_4 hw_4 hP_4 hD_4 hS_4 => ?_)
  obtain rfl := hw_4
  replace hP : va_P G.1 vwCl [(x, .inr (4, [.ref h, .ref d, .ref wc, .ref lt, .ref bu, .ref gb, .ref ve, .int (nI nb1), .int (nI 0), .int (cr + nI 1)])), (d, .inr (0, [.ref o, .int (nI (y + min k (n - y))), .int (nI y)])), (o, .inl (G.2.1, 1200, .inl (nb g))), (out, .inl (G.2.2.1, 1, .inr (.inl ol)))] H_4 := hP_4
  replace hD : va_D A [(x, .inr (4, [.ref h, .ref d, .ref wc, .ref lt, .ref bu, .ref gb, .ref ve, .int (nI nb1), .int (nI 0), .int (cr + nI 1)])), (d, .inr (0, [.ref o, .int (nI (y + min k (n - y))), .int (nI y)])), (o, .inl (G.2.1, 1200, .inl (nb g))), (out, .inl (G.2.2.1, 1, .inr (.inl ol)))] := hD_4
  replace hS : va_S A sv.heap H_4 locs_4 := hS_4
  clear hP_4 hD_4 hS_4
  refine lv_i2l hx hb dL_crash_7 rfl ?_
  refine f_last hx hb hK hP hD hS 3 rfl dL_crash_8 (fun H_8 locs_8 hP_8 hD_8 hS_8 => ?_)
  replace hP : va_P G.1 vwCl [(x, .inr (4, [.ref h, .ref d, .ref wc, .ref lt, .ref bu, .ref gb, .ref ve, .int (nI nb1), .int (nI 0), .int (cr + nI 1)])), (d, .inr (0, [.ref o, .int (nI (y + min k (n - y))), .int (nI y)])), (o, .inl (G.2.1, 1200, .inl (nb g))), (out, .inl (G.2.2.1, 1, .inr (.inl (vp_updL ol 0 ((nI ((n - y) - min k (n - y))).toInt64)))))] H_8 := hP_8
  replace hD : va_D A [(x, .inr (4, [.ref h, .ref d, .ref wc, .ref lt, .ref bu, .ref gb, .ref ve, .int (nI nb1), .int (nI 0), .int (cr + nI 1)])), (d, .inr (0, [.ref o, .int (nI (y + min k (n - y))), .int (nI y)])), (o, .inl (G.2.1, 1200, .inl (nb g))), (out, .inl (G.2.2.1, 1, .inr (.inl (vp_updL ol 0 ((nI ((n - y) - min k (n - y))).toInt64)))))] := hD_8
  replace hS : va_S A sv.heap H_8 locs_8 := hS_8
  clear hP_8 hD_8 hS_8
  refine lv_goto (tgt := 15) hx hb dL_crash_9 (by decide) ?_
  refine lv_iconst (v := nI 0) hx hb dL_crash_15 (by decide) ?_
  refine W.widen (k := 1) (n := 6) (by omega) (by omega) ?_
  exact hend (nI 0) () _ _ _ _ rfl rfl hP hD hS dL_crash_16

set_option maxRecDepth 100000 in
set_option maxHeartbeats 4000000 in
theorem kL_recover_0 (l : Launch) (G : fG) (x : Nat) (wc : Nat) (wko : Nat) (lt : Nat) (bu : Nat) (gb : Nat) (ve : Nat) (nb1 : Nat) (cr : Int32) (h : Nat) (tx1 : Nat) (sc : Nat) (st : Nat) (T : Nat → UInt8) (n0 : Nat) (S : Nat → Int32) (v : Nat → Int32) (d : Nat) (o : Nat) (g : Nat → UInt8) (n : Nat) (y : Nat) (wkey : Nat → UInt8) (wi : Nat) (lb : Nat → UInt8) (gbb : Nat → UInt8) (out : Nat) (ol : Nat → Int64) (hn : n ≤ 1200) (hwi : wi < 2 ^ 30) (hz : wi ≤ wx g n 120) : fMI l yL_recover (.codeWith yL_recover cL_recover 3 (some .int) [(0, 8, 11, 15)] :: wsA) ({ frames := 7, cells := 1, slots := 6, locals := 151 } : Room) G [.ref x, .ref out] [(x, .inr (4, [.ref h, .ref d, .ref wc, .ref lt, .ref bu, .ref gb, .ref ve, .int (nI nb1), .int (nI 0), .int cr])), (h, .inr (1, [.ref tx1, .ref sc, .ref st, .int (nI n0)])), (tx1, .inl (G.2.1, 128, .inl (nb T))), (sc, .inl (G.2.1, 64, .inl S)), (st, .inl (G.2.1, 8, .inl v)), (d, .inr (0, [.ref o, .int (nI n), .int (nI y)])), (o, .inl (G.2.1, 1200, .inl (nb g))), (wc, .inr (2, [.ref wko, .int (nI wi)])), (wko, .inl (G.2.1, 16, .inl (nb wkey))), (lt, .inl (G.2.1, 8, .inl (nb lb))), (gb, .inl (G.2.1, 2, .inl (nb gbb))), (out, .inl (G.2.2.1, 1, .inr (.inl ol)))] (fun (r9 : Int32) (u : Unit) => r9 = nI 0) (fun (u : Unit) => [(x, .inr (4, [.ref h, .ref d, .ref wc, .ref lt, .ref bu, .ref gb, .ref ve, .int (nI nb1), .int (nI 1), .int cr])), (h, .inr (1, [.ref tx1, .ref sc, .ref st, .int (nI n0)])), (tx1, .inl (G.2.1, 128, .inl (nb T))), (sc, .inl (G.2.1, 64, .inl S)), (st, .inl (G.2.1, 8, .inl v)), (d, .inr (0, [.ref o, .int (nI (wk g n 120)), .int (nI (wk g n 120))])), (o, .inl (G.2.1, 1200, .inl (nb g))), (wc, .inr (2, [.ref wko, .int (nI wi)])), (wko, .inl (G.2.1, 16, .inl (nb wkey))), (lt, .inl (G.2.1, 8, .inl (nb (tgB g (wk g n 120))))), (gb, .inl (G.2.1, 2, .inl (nb gbb))), (out, .inl (G.2.2.1, 1, .inr (.inl (vp_updL ol 0 (nI 0).toInt64))))]) 1 6 := by
  refine fH_start (cc := cL_recover) (maxL := 3) (by decide) rfl (Nat.le_of_ble_eq_true rfl) ?_
  intro prg env sv mid args below meth cd A Q ls hx hb hml hown hts htab hK hP hD hE hA hS hl hend
  replace hown : sv.vm.findClass RL = some mid.cls := hown
  replace hP : va_P G.1 vwCl [(x, .inr (4, [.ref h, .ref d, .ref wc, .ref lt, .ref bu, .ref gb, .ref ve, .int (nI nb1), .int (nI 0), .int cr])), (h, .inr (1, [.ref tx1, .ref sc, .ref st, .int (nI n0)])), (tx1, .inl (G.2.1, 128, .inl (nb T))), (sc, .inl (G.2.1, 64, .inl S)), (st, .inl (G.2.1, 8, .inl v)), (d, .inr (0, [.ref o, .int (nI n), .int (nI y)])), (o, .inl (G.2.1, 1200, .inl (nb g))), (wc, .inr (2, [.ref wko, .int (nI wi)])), (wko, .inl (G.2.1, 16, .inl (nb wkey))), (lt, .inl (G.2.1, 8, .inl (nb lb))), (gb, .inl (G.2.1, 2, .inl (nb gbb))), (out, .inl (G.2.2.1, 1, .inr (.inl ol)))] sv.heap := hP
  replace hl : lv_has ls 3 [(0, .ref x), (1, .ref out)] := hl
  refine lv_aload_n hx hb dL_recover_0 rfl (lv_at hl 1 rfl) ?_
  refine lv_iconst (v := nI 0) hx hb dL_recover_1 (by decide) ?_
  refine lv_aload_n hx hb dL_recover_2 rfl (lv_at hl 0 rfl) ?_
  refine fcVI (As := []) (rest := [.int (nI 0), .ref out]) (wr := [(out, .inl (G.2.2.1, 1, .inr (.inl ol)))]) (ws1 := fun (u : Unit) => [(x, .inr (4, [.ref h, .ref d, .ref wc, .ref lt, .ref bu, .ref gb, .ref ve, .int (nI nb1), .int (nI 1), .int cr])), (h, .inr (1, [.ref tx1, .ref sc, .ref st, .int (nI n0)])), (tx1, .inl (G.2.1, 128, .inl (nb T))), (sc, .inl (G.2.1, 64, .inl S)), (st, .inl (G.2.1, 8, .inl v)), (d, .inr (0, [.ref o, .int (nI (wk g n 120)), .int (nI (wk g n 120))])), (o, .inl (G.2.1, 1200, .inl (nb g))), (wc, .inr (2, [.ref wko, .int (nI wi)])), (wko, .inl (G.2.1, 16, .inl (nb wkey))), (lt, .inl (G.2.1, 8, .inl (nb (tgB g (wk g n 120))))), (gb, .inl (G.2.1, 2, .inl (nb gbb))), (out, .inl (G.2.2.1, 1, .inr (.inl ol)))]) ⟨hx, hb, hml, hown, hts⟩ hK hE hP hD hS hA hl.1 (kX4_recover_0 l G x wc wko lt bu gb ve nb1 cr h tx1 sc st T n0 S v d o g n y wkey wi lb gbb hn hwi hz) (cwV 0 hts (gdV wm_453 wm_454 wm_455 wm_23 wm_211) rfl rfl rfl (by decide +kernel) ⟨Nat.le_of_ble_eq_true rfl, Nat.le_of_ble_eq_true rfl⟩) 0 rfl rfl rfl rfl (Nat.le_of_ble_eq_true rfl) dL_recover_3 ⟨Nat.le_of_ble_eq_true rfl, Nat.le_of_ble_eq_true rfl⟩ [0, 1, 2, 3, 4, 5, 6, 7, 8, 9, 10] [11] [1, 2, 3, 4, 5, 6, 7, 8, 9, 10, 11, 0] rfl rfl rfl rfl (by decide) rfl (fun _ => rfl) (fun r_3 u_3 H_3 locs_3 hw_3 hP_3 hD_3 hS_3 => ?_)
  obtain rfl := hw_3
  replace hP : va_P G.1 vwCl [(x, .inr (4, [.ref h, .ref d, .ref wc, .ref lt, .ref bu, .ref gb, .ref ve, .int (nI nb1), .int (nI 1), .int cr])), (h, .inr (1, [.ref tx1, .ref sc, .ref st, .int (nI n0)])), (tx1, .inl (G.2.1, 128, .inl (nb T))), (sc, .inl (G.2.1, 64, .inl S)), (st, .inl (G.2.1, 8, .inl v)), (d, .inr (0, [.ref o, .int (nI (wk g n 120)), .int (nI (wk g n 120))])), (o, .inl (G.2.1, 1200, .inl (nb g))), (wc, .inr (2, [.ref wko, .int (nI wi)])), (wko, .inl (G.2.1, 16, .inl (nb wkey))), (lt, .inl (G.2.1, 8, .inl (nb (tgB g (wk g n 120))))), (gb, .inl (G.2.1, 2, .inl (nb gbb))), (out, .inl (G.2.2.1, 1, .inr (.inl ol)))] H_3 := hP_3
  replace hD : va_D A [(x, .inr (4, [.ref h, .ref d, .ref wc, .ref lt, .ref bu, .ref gb, .ref ve, .int (nI nb1), .int (nI 1), .int cr])), (h, .inr (1, [.ref tx1, .ref sc, .ref st, .int (nI n0)])), (tx1, .inl (G.2.1, 128, .inl (nb T))), (sc, .inl (G.2.1, 64, .inl S)), (st, .inl (G.2.1, 8, .inl v)), (d, .inr (0, [.ref o, .int (nI (wk g n 120)), .int (nI (wk g n 120))])), (o, .inl (G.2.1, 1200, .inl (nb g))), (wc, .inr (2, [.ref wko, .int (nI wi)])), (wko, .inl (G.2.1, 16, .inl (nb wkey))), (lt, .inl (G.2.1, 8, .inl (nb (tgB g (wk g n 120))))), (gb, .inl (G.2.1, 2, .inl (nb gbb))), (out, .inl (G.2.2.1, 1, .inr (.inl ol)))] := hD_3
  replace hS : va_S A sv.heap H_3 locs_3 := hS_3
  clear hP_3 hD_3 hS_3
  refine lv_i2l hx hb dL_recover_6 rfl ?_
  refine f_last hx hb hK hP hD hS 11 rfl dL_recover_7 (fun H_7 locs_7 hP_7 hD_7 hS_7 => ?_)
  replace hP : va_P G.1 vwCl [(x, .inr (4, [.ref h, .ref d, .ref wc, .ref lt, .ref bu, .ref gb, .ref ve, .int (nI nb1), .int (nI 1), .int cr])), (h, .inr (1, [.ref tx1, .ref sc, .ref st, .int (nI n0)])), (tx1, .inl (G.2.1, 128, .inl (nb T))), (sc, .inl (G.2.1, 64, .inl S)), (st, .inl (G.2.1, 8, .inl v)), (d, .inr (0, [.ref o, .int (nI (wk g n 120)), .int (nI (wk g n 120))])), (o, .inl (G.2.1, 1200, .inl (nb g))), (wc, .inr (2, [.ref wko, .int (nI wi)])), (wko, .inl (G.2.1, 16, .inl (nb wkey))), (lt, .inl (G.2.1, 8, .inl (nb (tgB g (wk g n 120))))), (gb, .inl (G.2.1, 2, .inl (nb gbb))), (out, .inl (G.2.2.1, 1, .inr (.inl (vp_updL ol 0 ((nI 0).toInt64)))))] H_7 := hP_7
  replace hD : va_D A [(x, .inr (4, [.ref h, .ref d, .ref wc, .ref lt, .ref bu, .ref gb, .ref ve, .int (nI nb1), .int (nI 1), .int cr])), (h, .inr (1, [.ref tx1, .ref sc, .ref st, .int (nI n0)])), (tx1, .inl (G.2.1, 128, .inl (nb T))), (sc, .inl (G.2.1, 64, .inl S)), (st, .inl (G.2.1, 8, .inl v)), (d, .inr (0, [.ref o, .int (nI (wk g n 120)), .int (nI (wk g n 120))])), (o, .inl (G.2.1, 1200, .inl (nb g))), (wc, .inr (2, [.ref wko, .int (nI wi)])), (wko, .inl (G.2.1, 16, .inl (nb wkey))), (lt, .inl (G.2.1, 8, .inl (nb (tgB g (wk g n 120))))), (gb, .inl (G.2.1, 2, .inl (nb gbb))), (out, .inl (G.2.2.1, 1, .inr (.inl (vp_updL ol 0 ((nI 0).toInt64)))))] := hD_7
  replace hS : va_S A sv.heap H_7 locs_7 := hS_7
  clear hP_7 hD_7 hS_7
  refine lv_goto (tgt := 14) hx hb dL_recover_8 (by decide) ?_
  refine lv_iconst (v := nI 0) hx hb dL_recover_14 (by decide) ?_
  refine W.widen (k := 1) (n := 6) (by omega) (by omega) ?_
  exact hend (nI 0) () _ _ _ _ rfl rfl hP hD hS dL_recover_15

set_option maxRecDepth 100000 in
set_option maxHeartbeats 4000000 in
theorem kL_recover_full (l : Launch) (G : fG) (x : Nat) (wc : Nat) (wko : Nat) (lt : Nat) (bu : Nat) (gb : Nat) (ve : Nat) (nb1 : Nat) (cr : Int32) (h : Nat) (tx1 : Nat) (sc : Nat) (st : Nat) (T : Nat → UInt8) (n0 : Nat) (S : Nat → Int32) (v : Nat → Int32) (d : Nat) (o : Nat) (g : Nat → UInt8) (n : Nat) (y : Nat) (wkey : Nat → UInt8) (wi : Nat) (lb : Nat → UInt8) (gbb : Nat → UInt8) (out : Nat) (ol : Nat → Int64) (hn : n ≤ 1200) (hwi : wi < 2 ^ 30) (hz : wx g n 120 < wi) (hf : 1200 < wk g n 120 + 12) : fMI l yL_recover (.codeWith yL_recover cL_recover 3 (some .int) [(0, 8, 11, 15)] :: wsA) ({ frames := 7, cells := 1, slots := 6, locals := 151 } : Room) G [.ref x, .ref out] [(x, .inr (4, [.ref h, .ref d, .ref wc, .ref lt, .ref bu, .ref gb, .ref ve, .int (nI nb1), .int (nI 0), .int cr])), (h, .inr (1, [.ref tx1, .ref sc, .ref st, .int (nI n0)])), (tx1, .inl (G.2.1, 128, .inl (nb T))), (sc, .inl (G.2.1, 64, .inl S)), (st, .inl (G.2.1, 8, .inl v)), (d, .inr (0, [.ref o, .int (nI n), .int (nI y)])), (o, .inl (G.2.1, 1200, .inl (nb g))), (wc, .inr (2, [.ref wko, .int (nI wi)])), (wko, .inl (G.2.1, 16, .inl (nb wkey))), (lt, .inl (G.2.1, 8, .inl (nb lb))), (gb, .inl (G.2.1, 2, .inl (nb gbb))), (out, .inl (G.2.2.1, 1, .inr (.inl ol)))] (fun (r9 : Int32) (u : Unit) => r9 = nI 0) (fun (u : Unit) => [(x, .inr (4, [.ref h, .ref d, .ref wc, .ref lt, .ref bu, .ref gb, .ref ve, .int (nI nb1), .int (nI 0), .int cr])), (h, .inr (1, [.ref tx1, .ref sc, .ref st, .int (nI n0)])), (tx1, .inl (G.2.1, 128, .inl (nb T))), (sc, .inl (G.2.1, 64, .inl S)), (st, .inl (G.2.1, 8, .inl v)), (d, .inr (0, [.ref o, .int (nI n), .int (nI y)])), (o, .inl (G.2.1, 1200, .inl (nb g))), (wc, .inr (2, [.ref wko, .int (nI wi)])), (wko, .inl (G.2.1, 16, .inl (nb wkey))), (lt, .inl (G.2.1, 8, .inl (nb lb))), (gb, .inl (G.2.1, 2, .inl (nb gbb))), (out, .inl (G.2.2.1, 1, .inr (.inl (vp_updL ol 0 (-2 : Int32).toInt64))))]) 1 6 := by
  refine fH_start (cc := cL_recover) (maxL := 3) (by decide) rfl (Nat.le_of_ble_eq_true rfl) ?_
  intro prg env sv mid args below meth cd A Q ls hx hb hml hown hts htab hK hP hD hE hA hS hl hend
  replace hown : sv.vm.findClass RL = some mid.cls := hown
  replace hP : va_P G.1 vwCl [(x, .inr (4, [.ref h, .ref d, .ref wc, .ref lt, .ref bu, .ref gb, .ref ve, .int (nI nb1), .int (nI 0), .int cr])), (h, .inr (1, [.ref tx1, .ref sc, .ref st, .int (nI n0)])), (tx1, .inl (G.2.1, 128, .inl (nb T))), (sc, .inl (G.2.1, 64, .inl S)), (st, .inl (G.2.1, 8, .inl v)), (d, .inr (0, [.ref o, .int (nI n), .int (nI y)])), (o, .inl (G.2.1, 1200, .inl (nb g))), (wc, .inr (2, [.ref wko, .int (nI wi)])), (wko, .inl (G.2.1, 16, .inl (nb wkey))), (lt, .inl (G.2.1, 8, .inl (nb lb))), (gb, .inl (G.2.1, 2, .inl (nb gbb))), (out, .inl (G.2.2.1, 1, .inr (.inl ol)))] sv.heap := hP
  replace hl : lv_has ls 3 [(0, .ref x), (1, .ref out)] := hl
  refine lv_aload_n hx hb dL_recover_0 rfl (lv_at hl 1 rfl) ?_
  refine lv_iconst (v := nI 0) hx hb dL_recover_1 (by decide) ?_
  refine lv_aload_n hx hb dL_recover_2 rfl (lv_at hl 0 rfl) ?_
  refine fcVI (As := []) (rest := [.int (nI 0), .ref out]) (wr := [(out, .inl (G.2.2.1, 1, .inr (.inl ol)))]) (ws1 := fun (u : Unit) => [(x, .inr (4, [.ref h, .ref d, .ref wc, .ref lt, .ref bu, .ref gb, .ref ve, .int (nI nb1), .int (nI 0), .int cr])), (h, .inr (1, [.ref tx1, .ref sc, .ref st, .int (nI n0)])), (tx1, .inl (G.2.1, 128, .inl (nb T))), (sc, .inl (G.2.1, 64, .inl S)), (st, .inl (G.2.1, 8, .inl v)), (d, .inr (0, [.ref o, .int (nI n), .int (nI y)])), (o, .inl (G.2.1, 1200, .inl (nb g))), (wc, .inr (2, [.ref wko, .int (nI wi)])), (wko, .inl (G.2.1, 16, .inl (nb wkey))), (lt, .inl (G.2.1, 8, .inl (nb lb))), (gb, .inl (G.2.1, 2, .inl (nb gbb))), (out, .inl (G.2.2.1, 1, .inr (.inl ol)))]) ⟨hx, hb, hml, hown, hts⟩ hK hE hP hD hS hA hl.1 (kX4_recover_full l G x wc wko lt bu gb ve nb1 cr h tx1 sc st T n0 S v d o g n y wkey wi lb gbb hn hwi hz hf) (cwV 0 hts (gdV wm_453 wm_454 wm_455 wm_23 wm_211) rfl rfl rfl (by decide +kernel) ⟨Nat.le_of_ble_eq_true rfl, Nat.le_of_ble_eq_true rfl⟩) 0 rfl rfl rfl rfl (Nat.le_of_ble_eq_true rfl) dL_recover_3 ⟨Nat.le_of_ble_eq_true rfl, Nat.le_of_ble_eq_true rfl⟩ [0, 1, 2, 3, 4, 5, 6, 7, 8, 9, 10] [11] [1, 2, 3, 4, 5, 6, 7, 8, 9, 10, 11, 0] rfl rfl rfl rfl (by decide) rfl (fun _ => rfl) (fun r_3 u_3 H_3 locs_3 hw_3 hP_3 hD_3 hS_3 => ?_)
  obtain rfl := hw_3
  replace hP : va_P G.1 vwCl [(x, .inr (4, [.ref h, .ref d, .ref wc, .ref lt, .ref bu, .ref gb, .ref ve, .int (nI nb1), .int (nI 0), .int cr])), (h, .inr (1, [.ref tx1, .ref sc, .ref st, .int (nI n0)])), (tx1, .inl (G.2.1, 128, .inl (nb T))), (sc, .inl (G.2.1, 64, .inl S)), (st, .inl (G.2.1, 8, .inl v)), (d, .inr (0, [.ref o, .int (nI n), .int (nI y)])), (o, .inl (G.2.1, 1200, .inl (nb g))), (wc, .inr (2, [.ref wko, .int (nI wi)])), (wko, .inl (G.2.1, 16, .inl (nb wkey))), (lt, .inl (G.2.1, 8, .inl (nb lb))), (gb, .inl (G.2.1, 2, .inl (nb gbb))), (out, .inl (G.2.2.1, 1, .inr (.inl ol)))] H_3 := hP_3
  replace hD : va_D A [(x, .inr (4, [.ref h, .ref d, .ref wc, .ref lt, .ref bu, .ref gb, .ref ve, .int (nI nb1), .int (nI 0), .int cr])), (h, .inr (1, [.ref tx1, .ref sc, .ref st, .int (nI n0)])), (tx1, .inl (G.2.1, 128, .inl (nb T))), (sc, .inl (G.2.1, 64, .inl S)), (st, .inl (G.2.1, 8, .inl v)), (d, .inr (0, [.ref o, .int (nI n), .int (nI y)])), (o, .inl (G.2.1, 1200, .inl (nb g))), (wc, .inr (2, [.ref wko, .int (nI wi)])), (wko, .inl (G.2.1, 16, .inl (nb wkey))), (lt, .inl (G.2.1, 8, .inl (nb lb))), (gb, .inl (G.2.1, 2, .inl (nb gbb))), (out, .inl (G.2.2.1, 1, .inr (.inl ol)))] := hD_3
  replace hS : va_S A sv.heap H_3 locs_3 := hS_3
  clear hP_3 hD_3 hS_3
  refine lv_i2l hx hb dL_recover_6 rfl ?_
  refine f_last hx hb hK hP hD hS 11 rfl dL_recover_7 (fun H_7 locs_7 hP_7 hD_7 hS_7 => ?_)
  replace hP : va_P G.1 vwCl [(x, .inr (4, [.ref h, .ref d, .ref wc, .ref lt, .ref bu, .ref gb, .ref ve, .int (nI nb1), .int (nI 0), .int cr])), (h, .inr (1, [.ref tx1, .ref sc, .ref st, .int (nI n0)])), (tx1, .inl (G.2.1, 128, .inl (nb T))), (sc, .inl (G.2.1, 64, .inl S)), (st, .inl (G.2.1, 8, .inl v)), (d, .inr (0, [.ref o, .int (nI n), .int (nI y)])), (o, .inl (G.2.1, 1200, .inl (nb g))), (wc, .inr (2, [.ref wko, .int (nI wi)])), (wko, .inl (G.2.1, 16, .inl (nb wkey))), (lt, .inl (G.2.1, 8, .inl (nb lb))), (gb, .inl (G.2.1, 2, .inl (nb gbb))), (out, .inl (G.2.2.1, 1, .inr (.inl (vp_updL ol 0 ((-2 : Int32).toInt64)))))] H_7 := hP_7
  replace hD : va_D A [(x, .inr (4, [.ref h, .ref d, .ref wc, .ref lt, .ref bu, .ref gb, .ref ve, .int (nI nb1), .int (nI 0), .int cr])), (h, .inr (1, [.ref tx1, .ref sc, .ref st, .int (nI n0)])), (tx1, .inl (G.2.1, 128, .inl (nb T))), (sc, .inl (G.2.1, 64, .inl S)), (st, .inl (G.2.1, 8, .inl v)), (d, .inr (0, [.ref o, .int (nI n), .int (nI y)])), (o, .inl (G.2.1, 1200, .inl (nb g))), (wc, .inr (2, [.ref wko, .int (nI wi)])), (wko, .inl (G.2.1, 16, .inl (nb wkey))), (lt, .inl (G.2.1, 8, .inl (nb lb))), (gb, .inl (G.2.1, 2, .inl (nb gbb))), (out, .inl (G.2.2.1, 1, .inr (.inl (vp_updL ol 0 ((-2 : Int32).toInt64)))))] := hD_7
  replace hS : va_S A sv.heap H_7 locs_7 := hS_7
  clear hP_7 hD_7 hS_7
  refine lv_goto (tgt := 14) hx hb dL_recover_8 (by decide) ?_
  refine lv_iconst (v := nI 0) hx hb dL_recover_14 (by decide) ?_
  refine W.widen (k := 1) (n := 6) (by omega) (by omega) ?_
  exact hend (nI 0) () _ _ _ _ rfl rfl hP hD hS dL_recover_15

set_option maxRecDepth 100000 in
set_option maxHeartbeats 4000000 in
theorem kL_recover_g (l : Launch) (G : fG) (x : Nat) (wc : Nat) (wko : Nat) (lt : Nat) (bu : Nat) (gb : Nat) (ve : Nat) (nb1 : Nat) (cr : Int32) (h : Nat) (tx1 : Nat) (sc : Nat) (st : Nat) (T : Nat → UInt8) (n0 : Nat) (S : Nat → Int32) (v : Nat → Int32) (d : Nat) (o : Nat) (g : Nat → UInt8) (n : Nat) (y : Nat) (wkey : Nat → UInt8) (wi : Nat) (lb : Nat → UInt8) (gbb : Nat → UInt8) (out : Nat) (ol : Nat → Int64) (hn : n ≤ 1200) (hwi : wi < 2 ^ 30) (hz : wx g n 120 < wi) (hf : wk g n 120 + 12 ≤ 1200) : fMI l yL_recover (.codeWith yL_recover cL_recover 3 (some .int) [(0, 8, 11, 15)] :: wsA) ({ frames := 7, cells := 1, slots := 6, locals := 151 } : Room) G [.ref x, .ref out] [(x, .inr (4, [.ref h, .ref d, .ref wc, .ref lt, .ref bu, .ref gb, .ref ve, .int (nI nb1), .int (nI 0), .int cr])), (h, .inr (1, [.ref tx1, .ref sc, .ref st, .int (nI n0)])), (tx1, .inl (G.2.1, 128, .inl (nb T))), (sc, .inl (G.2.1, 64, .inl S)), (st, .inl (G.2.1, 8, .inl v)), (d, .inr (0, [.ref o, .int (nI n), .int (nI y)])), (o, .inl (G.2.1, 1200, .inl (nb g))), (wc, .inr (2, [.ref wko, .int (nI wi)])), (wko, .inl (G.2.1, 16, .inl (nb wkey))), (lt, .inl (G.2.1, 8, .inl (nb lb))), (gb, .inl (G.2.1, 2, .inl (nb gbb))), (out, .inl (G.2.2.1, 1, .inr (.inl ol)))] (fun (r9 : Int32) (u : (Nat → UInt8) × Nat × (Nat → Int32) × (Nat → Int32) × (Nat → UInt8) × (Nat → UInt8)) => r9 = nI 0 ∧ wr2 u.2.2.2.2.1 g (wk g n 120) 3 2 (upb (upb gbb 0 (toB (f_ush (nI (wi - wx g n 120)) (nI 8)))) 1 (toB (nI (wi - wx g n 120)))) (tagW wkey wi u.2.2.2.2.1 (wk g n 120) (tgB g (wk g n 120))) 8 ∧ (∀ j, j < 8 → u.2.2.2.2.2 j = dgB (tagW wkey wi u.2.2.2.2.1 (wk g n 120) (tgB g (wk g n 120))) j)) (fun (u : (Nat → UInt8) × Nat × (Nat → Int32) × (Nat → Int32) × (Nat → UInt8) × (Nat → UInt8)) => [(x, .inr (4, [.ref h, .ref d, .ref wc, .ref lt, .ref bu, .ref gb, .ref ve, .int (nI nb1), .int (nI 1), .int cr])), (h, .inr (1, [.ref tx1, .ref sc, .ref st, .int (nI u.2.1)])), (tx1, .inl (G.2.1, 128, .inl (nb u.1))), (sc, .inl (G.2.1, 64, .inl u.2.2.1)), (st, .inl (G.2.1, 8, .inl u.2.2.2.1)), (d, .inr (0, [.ref o, .int (nI (wk g n 120 + (10 + 2))), .int (nI (wk g n 120))])), (o, .inl (G.2.1, 1200, .inl (nb u.2.2.2.2.1))), (wc, .inr (2, [.ref wko, .int (nI (wi + 1))])), (wko, .inl (G.2.1, 16, .inl (nb (nextKey wkey)))), (lt, .inl (G.2.1, 8, .inl (nb u.2.2.2.2.2))), (gb, .inl (G.2.1, 2, .inl (nb (upb (upb gbb 0 (toB (f_ush (nI (wi - wx g n 120)) (nI 8)))) 1 (toB (nI (wi - wx g n 120))))))), (out, .inl (G.2.2.1, 1, .inr (.inl (vp_updL ol 0 (nI (wi - wx g n 120)).toInt64))))]) 1 6 := by
  refine fH_start (cc := cL_recover) (maxL := 3) (by decide) rfl (Nat.le_of_ble_eq_true rfl) ?_
  intro prg env sv mid args below meth cd A Q ls hx hb hml hown hts htab hK hP hD hE hA hS hl hend
  replace hown : sv.vm.findClass RL = some mid.cls := hown
  replace hP : va_P G.1 vwCl [(x, .inr (4, [.ref h, .ref d, .ref wc, .ref lt, .ref bu, .ref gb, .ref ve, .int (nI nb1), .int (nI 0), .int cr])), (h, .inr (1, [.ref tx1, .ref sc, .ref st, .int (nI n0)])), (tx1, .inl (G.2.1, 128, .inl (nb T))), (sc, .inl (G.2.1, 64, .inl S)), (st, .inl (G.2.1, 8, .inl v)), (d, .inr (0, [.ref o, .int (nI n), .int (nI y)])), (o, .inl (G.2.1, 1200, .inl (nb g))), (wc, .inr (2, [.ref wko, .int (nI wi)])), (wko, .inl (G.2.1, 16, .inl (nb wkey))), (lt, .inl (G.2.1, 8, .inl (nb lb))), (gb, .inl (G.2.1, 2, .inl (nb gbb))), (out, .inl (G.2.2.1, 1, .inr (.inl ol)))] sv.heap := hP
  replace hl : lv_has ls 3 [(0, .ref x), (1, .ref out)] := hl
  refine lv_aload_n hx hb dL_recover_0 rfl (lv_at hl 1 rfl) ?_
  refine lv_iconst (v := nI 0) hx hb dL_recover_1 (by decide) ?_
  refine lv_aload_n hx hb dL_recover_2 rfl (lv_at hl 0 rfl) ?_
  refine fcVI (As := []) (rest := [.int (nI 0), .ref out]) (wr := [(out, .inl (G.2.2.1, 1, .inr (.inl ol)))]) (ws1 := fun (u : (Nat → UInt8) × Nat × (Nat → Int32) × (Nat → Int32) × (Nat → UInt8) × (Nat → UInt8)) => [(x, .inr (4, [.ref h, .ref d, .ref wc, .ref lt, .ref bu, .ref gb, .ref ve, .int (nI nb1), .int (nI 1), .int cr])), (h, .inr (1, [.ref tx1, .ref sc, .ref st, .int (nI u.2.1)])), (tx1, .inl (G.2.1, 128, .inl (nb u.1))), (sc, .inl (G.2.1, 64, .inl u.2.2.1)), (st, .inl (G.2.1, 8, .inl u.2.2.2.1)), (d, .inr (0, [.ref o, .int (nI (wk g n 120 + (10 + 2))), .int (nI (wk g n 120))])), (o, .inl (G.2.1, 1200, .inl (nb u.2.2.2.2.1))), (wc, .inr (2, [.ref wko, .int (nI (wi + 1))])), (wko, .inl (G.2.1, 16, .inl (nb (nextKey wkey)))), (lt, .inl (G.2.1, 8, .inl (nb u.2.2.2.2.2))), (gb, .inl (G.2.1, 2, .inl (nb (upb (upb gbb 0 (toB (f_ush (nI (wi - wx g n 120)) (nI 8)))) 1 (toB (nI (wi - wx g n 120))))))), (out, .inl (G.2.2.1, 1, .inr (.inl ol)))]) ⟨hx, hb, hml, hown, hts⟩ hK hE hP hD hS hA hl.1 (kX4_recover_g l G x wc wko lt bu gb ve nb1 cr h tx1 sc st T n0 S v d o g n y wkey wi lb gbb hn hwi hz hf) (cwV 0 hts (gdV wm_453 wm_454 wm_455 wm_23 wm_211) rfl rfl rfl (by decide +kernel) ⟨Nat.le_of_ble_eq_true rfl, Nat.le_of_ble_eq_true rfl⟩) 0 rfl rfl rfl rfl (Nat.le_of_ble_eq_true rfl) dL_recover_3 ⟨Nat.le_of_ble_eq_true rfl, Nat.le_of_ble_eq_true rfl⟩ [0, 1, 2, 3, 4, 5, 6, 7, 8, 9, 10] [11] [1, 2, 3, 4, 5, 6, 7, 8, 9, 10, 11, 0] rfl rfl rfl rfl (by decide) rfl (fun _ => rfl) (fun r_3 u_3 H_3 locs_3 hw_3 hP_3 hD_3 hS_3 => ?_)
  obtain ⟨jT2_1, jn2_2, jS2_3, jv2_4, jg2_5, jlb2_6⟩ := u_3
  obtain ⟨rfl, f_7, f_8⟩ := hw_3
  replace f_7 : wr2 jg2_5 g (wk g n 120) 3 2 (upb (upb gbb 0 (toB (f_ush (nI (wi - wx g n 120)) (nI 8)))) 1 (toB (nI (wi - wx g n 120)))) (tagW wkey wi jg2_5 (wk g n 120) (tgB g (wk g n 120))) 8 := f_7
  replace f_8 : (∀ j, j < 8 → jlb2_6 j = dgB (tagW wkey wi jg2_5 (wk g n 120) (tgB g (wk g n 120))) j) := f_8
  replace hP : va_P G.1 vwCl [(x, .inr (4, [.ref h, .ref d, .ref wc, .ref lt, .ref bu, .ref gb, .ref ve, .int (nI nb1), .int (nI 1), .int cr])), (h, .inr (1, [.ref tx1, .ref sc, .ref st, .int (nI jn2_2)])), (tx1, .inl (G.2.1, 128, .inl (nb jT2_1))), (sc, .inl (G.2.1, 64, .inl jS2_3)), (st, .inl (G.2.1, 8, .inl jv2_4)), (d, .inr (0, [.ref o, .int (nI (wk g n 120 + (10 + 2))), .int (nI (wk g n 120))])), (o, .inl (G.2.1, 1200, .inl (nb jg2_5))), (wc, .inr (2, [.ref wko, .int (nI (wi + 1))])), (wko, .inl (G.2.1, 16, .inl (nb (nextKey wkey)))), (lt, .inl (G.2.1, 8, .inl (nb jlb2_6))), (gb, .inl (G.2.1, 2, .inl (nb (upb (upb gbb 0 (toB (f_ush (nI (wi - wx g n 120)) (nI 8)))) 1 (toB (nI (wi - wx g n 120))))))), (out, .inl (G.2.2.1, 1, .inr (.inl ol)))] H_3 := hP_3
  replace hD : va_D A [(x, .inr (4, [.ref h, .ref d, .ref wc, .ref lt, .ref bu, .ref gb, .ref ve, .int (nI nb1), .int (nI 1), .int cr])), (h, .inr (1, [.ref tx1, .ref sc, .ref st, .int (nI jn2_2)])), (tx1, .inl (G.2.1, 128, .inl (nb jT2_1))), (sc, .inl (G.2.1, 64, .inl jS2_3)), (st, .inl (G.2.1, 8, .inl jv2_4)), (d, .inr (0, [.ref o, .int (nI (wk g n 120 + (10 + 2))), .int (nI (wk g n 120))])), (o, .inl (G.2.1, 1200, .inl (nb jg2_5))), (wc, .inr (2, [.ref wko, .int (nI (wi + 1))])), (wko, .inl (G.2.1, 16, .inl (nb (nextKey wkey)))), (lt, .inl (G.2.1, 8, .inl (nb jlb2_6))), (gb, .inl (G.2.1, 2, .inl (nb (upb (upb gbb 0 (toB (f_ush (nI (wi - wx g n 120)) (nI 8)))) 1 (toB (nI (wi - wx g n 120))))))), (out, .inl (G.2.2.1, 1, .inr (.inl ol)))] := hD_3
  replace hS : va_S A sv.heap H_3 locs_3 := hS_3
  clear hP_3 hD_3 hS_3
  refine lv_i2l hx hb dL_recover_6 rfl ?_
  refine f_last hx hb hK hP hD hS 11 rfl dL_recover_7 (fun H_7 locs_7 hP_7 hD_7 hS_7 => ?_)
  replace hP : va_P G.1 vwCl [(x, .inr (4, [.ref h, .ref d, .ref wc, .ref lt, .ref bu, .ref gb, .ref ve, .int (nI nb1), .int (nI 1), .int cr])), (h, .inr (1, [.ref tx1, .ref sc, .ref st, .int (nI jn2_2)])), (tx1, .inl (G.2.1, 128, .inl (nb jT2_1))), (sc, .inl (G.2.1, 64, .inl jS2_3)), (st, .inl (G.2.1, 8, .inl jv2_4)), (d, .inr (0, [.ref o, .int (nI (wk g n 120 + (10 + 2))), .int (nI (wk g n 120))])), (o, .inl (G.2.1, 1200, .inl (nb jg2_5))), (wc, .inr (2, [.ref wko, .int (nI (wi + 1))])), (wko, .inl (G.2.1, 16, .inl (nb (nextKey wkey)))), (lt, .inl (G.2.1, 8, .inl (nb jlb2_6))), (gb, .inl (G.2.1, 2, .inl (nb (upb (upb gbb 0 (toB (f_ush (nI (wi - wx g n 120)) (nI 8)))) 1 (toB (nI (wi - wx g n 120))))))), (out, .inl (G.2.2.1, 1, .inr (.inl (vp_updL ol 0 ((nI (wi - wx g n 120)).toInt64)))))] H_7 := hP_7
  replace hD : va_D A [(x, .inr (4, [.ref h, .ref d, .ref wc, .ref lt, .ref bu, .ref gb, .ref ve, .int (nI nb1), .int (nI 1), .int cr])), (h, .inr (1, [.ref tx1, .ref sc, .ref st, .int (nI jn2_2)])), (tx1, .inl (G.2.1, 128, .inl (nb jT2_1))), (sc, .inl (G.2.1, 64, .inl jS2_3)), (st, .inl (G.2.1, 8, .inl jv2_4)), (d, .inr (0, [.ref o, .int (nI (wk g n 120 + (10 + 2))), .int (nI (wk g n 120))])), (o, .inl (G.2.1, 1200, .inl (nb jg2_5))), (wc, .inr (2, [.ref wko, .int (nI (wi + 1))])), (wko, .inl (G.2.1, 16, .inl (nb (nextKey wkey)))), (lt, .inl (G.2.1, 8, .inl (nb jlb2_6))), (gb, .inl (G.2.1, 2, .inl (nb (upb (upb gbb 0 (toB (f_ush (nI (wi - wx g n 120)) (nI 8)))) 1 (toB (nI (wi - wx g n 120))))))), (out, .inl (G.2.2.1, 1, .inr (.inl (vp_updL ol 0 ((nI (wi - wx g n 120)).toInt64)))))] := hD_7
  replace hS : va_S A sv.heap H_7 locs_7 := hS_7
  clear hP_7 hD_7 hS_7
  refine lv_goto (tgt := 14) hx hb dL_recover_8 (by decide) ?_
  refine lv_iconst (v := nI 0) hx hb dL_recover_14 (by decide) ?_
  refine W.widen (k := 1) (n := 6) (by omega) (by omega) ?_
  exact hend (nI 0) (jT2_1, jn2_2, jS2_3, jv2_4, jg2_5, jlb2_6) _ _ _ _ rfl (⟨rfl, f_7, f_8⟩) hP hD hS dL_recover_15

set_option maxRecDepth 100000 in
set_option maxHeartbeats 4000000 in
theorem kL_told (l : Launch) (G : fG) (x : Nat) (wc : Nat) (wko : Nat) (lt : Nat) (bu : Nat) (gb : Nat) (h : Nat) (d : Nat) (nb1 : Nat) (up : Nat) (cr : Int32) (ve : Nat) (tb : Nat) (sd : Nat) (so : Nat) (bg : Nat) (ix : Nat) (c : Nat) (ko : Nat) (key : Nat → UInt8) (i : Nat) (hr : Nat) (gd : Nat) (bd : Int32) (pq1 : Nat) (tbf : Nat → UInt8) (sg : Nat → UInt8) (sn : Nat) (sy : Nat) (B : Nat → Nat) (X : Nat → Nat) (w : Nat) (out : Nat) (ol : Nat → Int64) (hv : okV sg sn gd B) (hw : w ≤ 4) (hh : hr ≤ 1) : fMI l yL_told (.codeWith yL_told cL_told 4 (some .int) [(0, 9, 12, 13)] :: wsA) ({ frames := 7, cells := 1, slots := 6, locals := 111 } : Room) G [.ref x, .int (nI w), .ref out] [(x, .inr (4, [.ref h, .ref d, .ref wc, .ref lt, .ref bu, .ref gb, .ref ve, .int (nI nb1), .int (nI up), .int cr])), (ve, .inr (3, [.ref c, .ref tb, .ref sd, .ref bg, .ref ix, .int (nI hr), .int (nI gd), .int bd, .int (nI pq1)])), (c, .inr (2, [.ref ko, .int (nI i)])), (ko, .inl (G.2.1, 16, .inl (nb key))), (tb, .inl (G.2.1, 8, .inl (nb tbf))), (sd, .inr (0, [.ref so, .int (nI sn), .int (nI sy)])), (so, .inl (G.2.1, 1200, .inl (nb sg))), (bg, .inl (G.2.1, 120, .inl (nn B))), (ix, .inl (G.2.1, 120, .inl (nn X))), (out, .inl (G.2.2.1, 1, .inr (.inl ol)))] (fun (r9 : Int32) (u : Unit) => r9 = nI 0) (fun (u : Unit) => [(x, .inr (4, [.ref h, .ref d, .ref wc, .ref lt, .ref bu, .ref gb, .ref ve, .int (nI nb1), .int (nI up), .int cr])), (ve, .inr (3, [.ref c, .ref tb, .ref sd, .ref bg, .ref ix, .int (nI hr), .int (nI gd), .int bd, .int (nI pq1)])), (c, .inr (2, [.ref ko, .int (nI i)])), (ko, .inl (G.2.1, 16, .inl (nb key))), (tb, .inl (G.2.1, 8, .inl (nb tbf))), (sd, .inr (0, [.ref so, .int (nI sn), .int (nI sy)])), (so, .inl (G.2.1, 1200, .inl (nb sg))), (bg, .inl (G.2.1, 120, .inl (nn B))), (ix, .inl (G.2.1, 120, .inl (nn X))), (out, .inl (G.2.2.1, 1, .inr (.inl (vp_updL ol 0 (toldV hr gd bd pq1 sg B w).toInt64))))]) 1 6 := by
  refine fH_start (cc := cL_told) (maxL := 4) (by decide) rfl (Nat.le_of_ble_eq_true rfl) ?_
  intro prg env sv mid args below meth cd A Q ls hx hb hml hown hts htab hK hP hD hE hA hS hl hend
  replace hown : sv.vm.findClass RL = some mid.cls := hown
  replace hP : va_P G.1 vwCl [(x, .inr (4, [.ref h, .ref d, .ref wc, .ref lt, .ref bu, .ref gb, .ref ve, .int (nI nb1), .int (nI up), .int cr])), (ve, .inr (3, [.ref c, .ref tb, .ref sd, .ref bg, .ref ix, .int (nI hr), .int (nI gd), .int bd, .int (nI pq1)])), (c, .inr (2, [.ref ko, .int (nI i)])), (ko, .inl (G.2.1, 16, .inl (nb key))), (tb, .inl (G.2.1, 8, .inl (nb tbf))), (sd, .inr (0, [.ref so, .int (nI sn), .int (nI sy)])), (so, .inl (G.2.1, 1200, .inl (nb sg))), (bg, .inl (G.2.1, 120, .inl (nn B))), (ix, .inl (G.2.1, 120, .inl (nn X))), (out, .inl (G.2.2.1, 1, .inr (.inl ol)))] sv.heap := hP
  replace hl : lv_has ls 4 [(0, .ref x), (1, .int (nI w)), (2, .ref out)] := hl
  refine lv_aload_n hx hb dL_told_0 rfl (lv_at hl 2 rfl) ?_
  refine lv_iconst (v := nI 0) hx hb dL_told_1 (by decide) ?_
  refine lv_aload_n hx hb dL_told_2 rfl (lv_at hl 0 rfl) ?_
  refine lv_iload_n hx hb dL_told_3 rfl (lv_at hl 1 rfl) ?_
  refine fcVI (As := [.int (nI w)]) (rest := [.int (nI 0), .ref out]) (wr := [(out, .inl (G.2.2.1, 1, .inr (.inl ol)))]) (ws1 := fun (u : Unit) => [(x, .inr (4, [.ref h, .ref d, .ref wc, .ref lt, .ref bu, .ref gb, .ref ve, .int (nI nb1), .int (nI up), .int cr])), (ve, .inr (3, [.ref c, .ref tb, .ref sd, .ref bg, .ref ix, .int (nI hr), .int (nI gd), .int bd, .int (nI pq1)])), (c, .inr (2, [.ref ko, .int (nI i)])), (ko, .inl (G.2.1, 16, .inl (nb key))), (tb, .inl (G.2.1, 8, .inl (nb tbf))), (sd, .inr (0, [.ref so, .int (nI sn), .int (nI sy)])), (so, .inl (G.2.1, 1200, .inl (nb sg))), (bg, .inl (G.2.1, 120, .inl (nn B))), (ix, .inl (G.2.1, 120, .inl (nn X))), (out, .inl (G.2.2.1, 1, .inr (.inl ol)))]) ⟨hx, hb, hml, hown, hts⟩ hK hE hP hD hS hA hl.1 (kX4_told l G x wc wko lt bu gb h d nb1 up cr ve tb sd so bg ix c ko key i hr gd bd pq1 tbf sg sn sy B X w hv hw hh) (cwV 1 hts (gdV wm_457 wm_458 wm_459 wm_23 wm_223) rfl rfl rfl (by decide +kernel) ⟨Nat.le_of_ble_eq_true rfl, Nat.le_of_ble_eq_true rfl⟩) 0 rfl rfl rfl rfl (Nat.le_of_ble_eq_true rfl) dL_told_4 ⟨Nat.le_of_ble_eq_true rfl, Nat.le_of_ble_eq_true rfl⟩ [0, 1, 2, 3, 4, 5, 6, 7, 8] [9] [1, 2, 3, 4, 5, 6, 7, 8, 9, 0] rfl rfl rfl rfl (by decide) rfl (fun _ => rfl) (fun r_4 u_4 H_4 locs_4 hw_4 hP_4 hD_4 hS_4 => ?_)
  obtain rfl := hw_4
  replace hP : va_P G.1 vwCl [(x, .inr (4, [.ref h, .ref d, .ref wc, .ref lt, .ref bu, .ref gb, .ref ve, .int (nI nb1), .int (nI up), .int cr])), (ve, .inr (3, [.ref c, .ref tb, .ref sd, .ref bg, .ref ix, .int (nI hr), .int (nI gd), .int bd, .int (nI pq1)])), (c, .inr (2, [.ref ko, .int (nI i)])), (ko, .inl (G.2.1, 16, .inl (nb key))), (tb, .inl (G.2.1, 8, .inl (nb tbf))), (sd, .inr (0, [.ref so, .int (nI sn), .int (nI sy)])), (so, .inl (G.2.1, 1200, .inl (nb sg))), (bg, .inl (G.2.1, 120, .inl (nn B))), (ix, .inl (G.2.1, 120, .inl (nn X))), (out, .inl (G.2.2.1, 1, .inr (.inl ol)))] H_4 := hP_4
  replace hD : va_D A [(x, .inr (4, [.ref h, .ref d, .ref wc, .ref lt, .ref bu, .ref gb, .ref ve, .int (nI nb1), .int (nI up), .int cr])), (ve, .inr (3, [.ref c, .ref tb, .ref sd, .ref bg, .ref ix, .int (nI hr), .int (nI gd), .int bd, .int (nI pq1)])), (c, .inr (2, [.ref ko, .int (nI i)])), (ko, .inl (G.2.1, 16, .inl (nb key))), (tb, .inl (G.2.1, 8, .inl (nb tbf))), (sd, .inr (0, [.ref so, .int (nI sn), .int (nI sy)])), (so, .inl (G.2.1, 1200, .inl (nb sg))), (bg, .inl (G.2.1, 120, .inl (nn B))), (ix, .inl (G.2.1, 120, .inl (nn X))), (out, .inl (G.2.2.1, 1, .inr (.inl ol)))] := hD_4
  replace hS : va_S A sv.heap H_4 locs_4 := hS_4
  clear hP_4 hD_4 hS_4
  refine lv_i2l hx hb dL_told_7 rfl ?_
  refine f_last hx hb hK hP hD hS 9 rfl dL_told_8 (fun H_8 locs_8 hP_8 hD_8 hS_8 => ?_)
  replace hP : va_P G.1 vwCl [(x, .inr (4, [.ref h, .ref d, .ref wc, .ref lt, .ref bu, .ref gb, .ref ve, .int (nI nb1), .int (nI up), .int cr])), (ve, .inr (3, [.ref c, .ref tb, .ref sd, .ref bg, .ref ix, .int (nI hr), .int (nI gd), .int bd, .int (nI pq1)])), (c, .inr (2, [.ref ko, .int (nI i)])), (ko, .inl (G.2.1, 16, .inl (nb key))), (tb, .inl (G.2.1, 8, .inl (nb tbf))), (sd, .inr (0, [.ref so, .int (nI sn), .int (nI sy)])), (so, .inl (G.2.1, 1200, .inl (nb sg))), (bg, .inl (G.2.1, 120, .inl (nn B))), (ix, .inl (G.2.1, 120, .inl (nn X))), (out, .inl (G.2.2.1, 1, .inr (.inl (vp_updL ol 0 ((toldV hr gd bd pq1 sg B w).toInt64)))))] H_8 := hP_8
  replace hD : va_D A [(x, .inr (4, [.ref h, .ref d, .ref wc, .ref lt, .ref bu, .ref gb, .ref ve, .int (nI nb1), .int (nI up), .int cr])), (ve, .inr (3, [.ref c, .ref tb, .ref sd, .ref bg, .ref ix, .int (nI hr), .int (nI gd), .int bd, .int (nI pq1)])), (c, .inr (2, [.ref ko, .int (nI i)])), (ko, .inl (G.2.1, 16, .inl (nb key))), (tb, .inl (G.2.1, 8, .inl (nb tbf))), (sd, .inr (0, [.ref so, .int (nI sn), .int (nI sy)])), (so, .inl (G.2.1, 1200, .inl (nb sg))), (bg, .inl (G.2.1, 120, .inl (nn B))), (ix, .inl (G.2.1, 120, .inl (nn X))), (out, .inl (G.2.2.1, 1, .inr (.inl (vp_updL ol 0 ((toldV hr gd bd pq1 sg B w).toInt64)))))] := hD_8
  replace hS : va_S A sv.heap H_8 locs_8 := hS_8
  clear hP_8 hD_8 hS_8
  refine lv_goto (tgt := 15) hx hb dL_told_9 (by decide) ?_
  refine lv_iconst (v := nI 0) hx hb dL_told_15 (by decide) ?_
  refine W.widen (k := 1) (n := 6) (by omega) (by omega) ?_
  exact hend (nI 0) () _ _ _ _ rfl rfl hP hD hS dL_told_16

set_option maxRecDepth 100000 in
set_option maxHeartbeats 4000000 in
theorem kL_record_in (l : Launch) (G : fG) (x : Nat) (wc : Nat) (wko : Nat) (lt : Nat) (bu : Nat) (gb : Nat) (h : Nat) (d : Nat) (nb1 : Nat) (up : Nat) (cr : Int32) (ve : Nat) (tb : Nat) (sd : Nat) (so : Nat) (bg : Nat) (ix : Nat) (c : Nat) (ko : Nat) (key : Nat → UInt8) (i : Nat) (hr : Nat) (gd : Nat) (bd : Int32) (pq1 : Nat) (tbf : Nat → UInt8) (sg : Nat → UInt8) (sn : Nat) (sy : Nat) (B : Nat → Nat) (X : Nat → Nat) (r : Nat) (w : Nat) (out : Nat) (ol : Nat → Int64) (hv : okV sg sn gd B) (hw : w ≤ 42) (hrr : r < gd) : fMI l yL_record (.codeWith yL_record cL_record 5 (some .int) [(0, 10, 13, 13)] :: wsA) ({ frames := 7, cells := 1, slots := 6, locals := 112 } : Room) G [.ref x, .int (nI r), .int (nI w), .ref out] [(x, .inr (4, [.ref h, .ref d, .ref wc, .ref lt, .ref bu, .ref gb, .ref ve, .int (nI nb1), .int (nI up), .int cr])), (ve, .inr (3, [.ref c, .ref tb, .ref sd, .ref bg, .ref ix, .int (nI hr), .int (nI gd), .int bd, .int (nI pq1)])), (c, .inr (2, [.ref ko, .int (nI i)])), (ko, .inl (G.2.1, 16, .inl (nb key))), (tb, .inl (G.2.1, 8, .inl (nb tbf))), (sd, .inr (0, [.ref so, .int (nI sn), .int (nI sy)])), (so, .inl (G.2.1, 1200, .inl (nb sg))), (bg, .inl (G.2.1, 120, .inl (nn B))), (ix, .inl (G.2.1, 120, .inl (nn X))), (out, .inl (G.2.2.1, 1, .inr (.inl ol)))] (fun (r9 : Int32) (u : Unit) => r9 = nI 0) (fun (u : Unit) => [(x, .inr (4, [.ref h, .ref d, .ref wc, .ref lt, .ref bu, .ref gb, .ref ve, .int (nI nb1), .int (nI up), .int cr])), (ve, .inr (3, [.ref c, .ref tb, .ref sd, .ref bg, .ref ix, .int (nI hr), .int (nI gd), .int bd, .int (nI pq1)])), (c, .inr (2, [.ref ko, .int (nI i)])), (ko, .inl (G.2.1, 16, .inl (nb key))), (tb, .inl (G.2.1, 8, .inl (nb tbf))), (sd, .inr (0, [.ref so, .int (nI sn), .int (nI sy)])), (so, .inl (G.2.1, 1200, .inl (nb sg))), (bg, .inl (G.2.1, 120, .inl (nn B))), (ix, .inl (G.2.1, 120, .inl (nn X))), (out, .inl (G.2.2.1, 1, .inr (.inl (vp_updL ol 0 (partV sg B X r w).toInt64))))]) 1 6 := by
  refine fH_start (cc := cL_record) (maxL := 5) (by decide) rfl (Nat.le_of_ble_eq_true rfl) ?_
  intro prg env sv mid args below meth cd A Q ls hx hb hml hown hts htab hK hP hD hE hA hS hl hend
  replace hown : sv.vm.findClass RL = some mid.cls := hown
  replace hP : va_P G.1 vwCl [(x, .inr (4, [.ref h, .ref d, .ref wc, .ref lt, .ref bu, .ref gb, .ref ve, .int (nI nb1), .int (nI up), .int cr])), (ve, .inr (3, [.ref c, .ref tb, .ref sd, .ref bg, .ref ix, .int (nI hr), .int (nI gd), .int bd, .int (nI pq1)])), (c, .inr (2, [.ref ko, .int (nI i)])), (ko, .inl (G.2.1, 16, .inl (nb key))), (tb, .inl (G.2.1, 8, .inl (nb tbf))), (sd, .inr (0, [.ref so, .int (nI sn), .int (nI sy)])), (so, .inl (G.2.1, 1200, .inl (nb sg))), (bg, .inl (G.2.1, 120, .inl (nn B))), (ix, .inl (G.2.1, 120, .inl (nn X))), (out, .inl (G.2.2.1, 1, .inr (.inl ol)))] sv.heap := hP
  replace hl : lv_has ls 5 [(0, .ref x), (1, .int (nI r)), (2, .int (nI w)), (3, .ref out)] := hl
  refine lv_aload_n hx hb dL_record_0 rfl (lv_at hl 3 rfl) ?_
  refine lv_iconst (v := nI 0) hx hb dL_record_1 (by decide) ?_
  refine lv_aload_n hx hb dL_record_2 rfl (lv_at hl 0 rfl) ?_
  refine lv_iload_n hx hb dL_record_3 rfl (lv_at hl 1 rfl) ?_
  refine lv_iload_n hx hb dL_record_4 rfl (lv_at hl 2 rfl) ?_
  refine fcVI (As := [.int (nI r), .int (nI w)]) (rest := [.int (nI 0), .ref out]) (wr := [(out, .inl (G.2.2.1, 1, .inr (.inl ol)))]) (ws1 := fun (u : Unit) => [(x, .inr (4, [.ref h, .ref d, .ref wc, .ref lt, .ref bu, .ref gb, .ref ve, .int (nI nb1), .int (nI up), .int cr])), (ve, .inr (3, [.ref c, .ref tb, .ref sd, .ref bg, .ref ix, .int (nI hr), .int (nI gd), .int bd, .int (nI pq1)])), (c, .inr (2, [.ref ko, .int (nI i)])), (ko, .inl (G.2.1, 16, .inl (nb key))), (tb, .inl (G.2.1, 8, .inl (nb tbf))), (sd, .inr (0, [.ref so, .int (nI sn), .int (nI sy)])), (so, .inl (G.2.1, 1200, .inl (nb sg))), (bg, .inl (G.2.1, 120, .inl (nn B))), (ix, .inl (G.2.1, 120, .inl (nn X))), (out, .inl (G.2.2.1, 1, .inr (.inl ol)))]) ⟨hx, hb, hml, hown, hts⟩ hK hE hP hD hS hA hl.1 (kX4_record_in l G x wc wko lt bu gb h d nb1 up cr ve tb sd so bg ix c ko key i hr gd bd pq1 tbf sg sn sy B X r w hv hw hrr) (cwV 2 hts (gdV wm_461 wm_462 wm_463 wm_23 wm_227) rfl rfl rfl (by decide +kernel) ⟨Nat.le_of_ble_eq_true rfl, Nat.le_of_ble_eq_true rfl⟩) 0 rfl rfl rfl rfl (Nat.le_of_ble_eq_true rfl) dL_record_5 ⟨Nat.le_of_ble_eq_true rfl, Nat.le_of_ble_eq_true rfl⟩ [0, 1, 2, 3, 4, 5, 6, 7, 8] [9] [1, 2, 3, 4, 5, 6, 7, 8, 9, 0] rfl rfl rfl rfl (by decide) rfl (fun _ => rfl) (fun r_5 u_5 H_5 locs_5 hw_5 hP_5 hD_5 hS_5 => ?_)
  obtain rfl := hw_5
  replace hP : va_P G.1 vwCl [(x, .inr (4, [.ref h, .ref d, .ref wc, .ref lt, .ref bu, .ref gb, .ref ve, .int (nI nb1), .int (nI up), .int cr])), (ve, .inr (3, [.ref c, .ref tb, .ref sd, .ref bg, .ref ix, .int (nI hr), .int (nI gd), .int bd, .int (nI pq1)])), (c, .inr (2, [.ref ko, .int (nI i)])), (ko, .inl (G.2.1, 16, .inl (nb key))), (tb, .inl (G.2.1, 8, .inl (nb tbf))), (sd, .inr (0, [.ref so, .int (nI sn), .int (nI sy)])), (so, .inl (G.2.1, 1200, .inl (nb sg))), (bg, .inl (G.2.1, 120, .inl (nn B))), (ix, .inl (G.2.1, 120, .inl (nn X))), (out, .inl (G.2.2.1, 1, .inr (.inl ol)))] H_5 := hP_5
  replace hD : va_D A [(x, .inr (4, [.ref h, .ref d, .ref wc, .ref lt, .ref bu, .ref gb, .ref ve, .int (nI nb1), .int (nI up), .int cr])), (ve, .inr (3, [.ref c, .ref tb, .ref sd, .ref bg, .ref ix, .int (nI hr), .int (nI gd), .int bd, .int (nI pq1)])), (c, .inr (2, [.ref ko, .int (nI i)])), (ko, .inl (G.2.1, 16, .inl (nb key))), (tb, .inl (G.2.1, 8, .inl (nb tbf))), (sd, .inr (0, [.ref so, .int (nI sn), .int (nI sy)])), (so, .inl (G.2.1, 1200, .inl (nb sg))), (bg, .inl (G.2.1, 120, .inl (nn B))), (ix, .inl (G.2.1, 120, .inl (nn X))), (out, .inl (G.2.2.1, 1, .inr (.inl ol)))] := hD_5
  replace hS : va_S A sv.heap H_5 locs_5 := hS_5
  clear hP_5 hD_5 hS_5
  refine lv_i2l hx hb dL_record_8 rfl ?_
  refine f_last hx hb hK hP hD hS 9 rfl dL_record_9 (fun H_9 locs_9 hP_9 hD_9 hS_9 => ?_)
  replace hP : va_P G.1 vwCl [(x, .inr (4, [.ref h, .ref d, .ref wc, .ref lt, .ref bu, .ref gb, .ref ve, .int (nI nb1), .int (nI up), .int cr])), (ve, .inr (3, [.ref c, .ref tb, .ref sd, .ref bg, .ref ix, .int (nI hr), .int (nI gd), .int bd, .int (nI pq1)])), (c, .inr (2, [.ref ko, .int (nI i)])), (ko, .inl (G.2.1, 16, .inl (nb key))), (tb, .inl (G.2.1, 8, .inl (nb tbf))), (sd, .inr (0, [.ref so, .int (nI sn), .int (nI sy)])), (so, .inl (G.2.1, 1200, .inl (nb sg))), (bg, .inl (G.2.1, 120, .inl (nn B))), (ix, .inl (G.2.1, 120, .inl (nn X))), (out, .inl (G.2.2.1, 1, .inr (.inl (vp_updL ol 0 ((partV sg B X r w).toInt64)))))] H_9 := hP_9
  replace hD : va_D A [(x, .inr (4, [.ref h, .ref d, .ref wc, .ref lt, .ref bu, .ref gb, .ref ve, .int (nI nb1), .int (nI up), .int cr])), (ve, .inr (3, [.ref c, .ref tb, .ref sd, .ref bg, .ref ix, .int (nI hr), .int (nI gd), .int bd, .int (nI pq1)])), (c, .inr (2, [.ref ko, .int (nI i)])), (ko, .inl (G.2.1, 16, .inl (nb key))), (tb, .inl (G.2.1, 8, .inl (nb tbf))), (sd, .inr (0, [.ref so, .int (nI sn), .int (nI sy)])), (so, .inl (G.2.1, 1200, .inl (nb sg))), (bg, .inl (G.2.1, 120, .inl (nn B))), (ix, .inl (G.2.1, 120, .inl (nn X))), (out, .inl (G.2.2.1, 1, .inr (.inl (vp_updL ol 0 ((partV sg B X r w).toInt64)))))] := hD_9
  replace hS : va_S A sv.heap H_9 locs_9 := hS_9
  clear hP_9 hD_9 hS_9
  refine lv_goto (tgt := 17) hx hb dL_record_10 (by decide) ?_
  refine lv_iconst (v := nI 0) hx hb dL_record_17 (by decide) ?_
  refine W.widen (k := 1) (n := 6) (by omega) (by omega) ?_
  exact hend (nI 0) () _ _ _ _ rfl rfl hP hD hS dL_record_18

set_option maxRecDepth 100000 in
set_option maxHeartbeats 4000000 in
theorem kL_record_out (l : Launch) (G : fG) (x : Nat) (wc : Nat) (wko : Nat) (lt : Nat) (bu : Nat) (gb : Nat) (h : Nat) (d : Nat) (nb1 : Nat) (up : Nat) (cr : Int32) (ve : Nat) (tb : Nat) (sd : Nat) (so : Nat) (bg : Nat) (ix : Nat) (c : Nat) (ko : Nat) (key : Nat → UInt8) (i : Nat) (hr : Nat) (gd : Nat) (bd : Int32) (pq1 : Nat) (tbf : Nat → UInt8) (sg : Nat → UInt8) (sn : Nat) (sy : Nat) (B : Nat → Nat) (X : Nat → Nat) (r : Int32) (w : Nat) (out : Nat) (ol : Nat → Int64) (hrr : r < 0 ∨ nI gd ≤ r) (hw : w ≤ 42) : fMI l yL_record (.codeWith yL_record cL_record 5 (some .int) [(0, 10, 13, 13)] :: wsA) ({ frames := 7, cells := 1, slots := 6, locals := 112 } : Room) G [.ref x, .int r, .int (nI w), .ref out] [(x, .inr (4, [.ref h, .ref d, .ref wc, .ref lt, .ref bu, .ref gb, .ref ve, .int (nI nb1), .int (nI up), .int cr])), (ve, .inr (3, [.ref c, .ref tb, .ref sd, .ref bg, .ref ix, .int (nI hr), .int (nI gd), .int bd, .int (nI pq1)])), (c, .inr (2, [.ref ko, .int (nI i)])), (ko, .inl (G.2.1, 16, .inl (nb key))), (tb, .inl (G.2.1, 8, .inl (nb tbf))), (sd, .inr (0, [.ref so, .int (nI sn), .int (nI sy)])), (so, .inl (G.2.1, 1200, .inl (nb sg))), (bg, .inl (G.2.1, 120, .inl (nn B))), (ix, .inl (G.2.1, 120, .inl (nn X))), (out, .inl (G.2.2.1, 1, .inr (.inl ol)))] (fun (r9 : Int32) (u : Unit) => r9 = nI 0) (fun (u : Unit) => [(x, .inr (4, [.ref h, .ref d, .ref wc, .ref lt, .ref bu, .ref gb, .ref ve, .int (nI nb1), .int (nI up), .int cr])), (ve, .inr (3, [.ref c, .ref tb, .ref sd, .ref bg, .ref ix, .int (nI hr), .int (nI gd), .int bd, .int (nI pq1)])), (c, .inr (2, [.ref ko, .int (nI i)])), (ko, .inl (G.2.1, 16, .inl (nb key))), (tb, .inl (G.2.1, 8, .inl (nb tbf))), (sd, .inr (0, [.ref so, .int (nI sn), .int (nI sy)])), (so, .inl (G.2.1, 1200, .inl (nb sg))), (bg, .inl (G.2.1, 120, .inl (nn B))), (ix, .inl (G.2.1, 120, .inl (nn X))), (out, .inl (G.2.2.1, 1, .inr (.inl (vp_updL ol 0 (-1 : Int32).toInt64))))]) 1 6 := by
  refine fH_start (cc := cL_record) (maxL := 5) (by decide) rfl (Nat.le_of_ble_eq_true rfl) ?_
  intro prg env sv mid args below meth cd A Q ls hx hb hml hown hts htab hK hP hD hE hA hS hl hend
  replace hown : sv.vm.findClass RL = some mid.cls := hown
  replace hP : va_P G.1 vwCl [(x, .inr (4, [.ref h, .ref d, .ref wc, .ref lt, .ref bu, .ref gb, .ref ve, .int (nI nb1), .int (nI up), .int cr])), (ve, .inr (3, [.ref c, .ref tb, .ref sd, .ref bg, .ref ix, .int (nI hr), .int (nI gd), .int bd, .int (nI pq1)])), (c, .inr (2, [.ref ko, .int (nI i)])), (ko, .inl (G.2.1, 16, .inl (nb key))), (tb, .inl (G.2.1, 8, .inl (nb tbf))), (sd, .inr (0, [.ref so, .int (nI sn), .int (nI sy)])), (so, .inl (G.2.1, 1200, .inl (nb sg))), (bg, .inl (G.2.1, 120, .inl (nn B))), (ix, .inl (G.2.1, 120, .inl (nn X))), (out, .inl (G.2.2.1, 1, .inr (.inl ol)))] sv.heap := hP
  replace hl : lv_has ls 5 [(0, .ref x), (1, .int r), (2, .int (nI w)), (3, .ref out)] := hl
  refine lv_aload_n hx hb dL_record_0 rfl (lv_at hl 3 rfl) ?_
  refine lv_iconst (v := nI 0) hx hb dL_record_1 (by decide) ?_
  refine lv_aload_n hx hb dL_record_2 rfl (lv_at hl 0 rfl) ?_
  refine lv_iload_n hx hb dL_record_3 rfl (lv_at hl 1 rfl) ?_
  refine lv_iload_n hx hb dL_record_4 rfl (lv_at hl 2 rfl) ?_
  refine fcVI (As := [.int r, .int (nI w)]) (rest := [.int (nI 0), .ref out]) (wr := [(out, .inl (G.2.2.1, 1, .inr (.inl ol)))]) (ws1 := fun (u : Unit) => [(x, .inr (4, [.ref h, .ref d, .ref wc, .ref lt, .ref bu, .ref gb, .ref ve, .int (nI nb1), .int (nI up), .int cr])), (ve, .inr (3, [.ref c, .ref tb, .ref sd, .ref bg, .ref ix, .int (nI hr), .int (nI gd), .int bd, .int (nI pq1)])), (c, .inr (2, [.ref ko, .int (nI i)])), (ko, .inl (G.2.1, 16, .inl (nb key))), (tb, .inl (G.2.1, 8, .inl (nb tbf))), (sd, .inr (0, [.ref so, .int (nI sn), .int (nI sy)])), (so, .inl (G.2.1, 1200, .inl (nb sg))), (bg, .inl (G.2.1, 120, .inl (nn B))), (ix, .inl (G.2.1, 120, .inl (nn X))), (out, .inl (G.2.2.1, 1, .inr (.inl ol)))]) ⟨hx, hb, hml, hown, hts⟩ hK hE hP hD hS hA hl.1 (kX4_record_out l G x wc wko lt bu gb h d nb1 up cr ve tb sd so bg ix c ko key i hr gd bd pq1 tbf sg sn sy B X r w hrr hw) (cwV 2 hts (gdV wm_461 wm_462 wm_463 wm_23 wm_227) rfl rfl rfl (by decide +kernel) ⟨Nat.le_of_ble_eq_true rfl, Nat.le_of_ble_eq_true rfl⟩) 0 rfl rfl rfl rfl (Nat.le_of_ble_eq_true rfl) dL_record_5 ⟨Nat.le_of_ble_eq_true rfl, Nat.le_of_ble_eq_true rfl⟩ [0, 1, 2, 3, 4, 5, 6, 7, 8] [9] [1, 2, 3, 4, 5, 6, 7, 8, 9, 0] rfl rfl rfl rfl (by decide) rfl (fun _ => rfl) (fun r_5 u_5 H_5 locs_5 hw_5 hP_5 hD_5 hS_5 => ?_)
  obtain rfl := hw_5
  replace hP : va_P G.1 vwCl [(x, .inr (4, [.ref h, .ref d, .ref wc, .ref lt, .ref bu, .ref gb, .ref ve, .int (nI nb1), .int (nI up), .int cr])), (ve, .inr (3, [.ref c, .ref tb, .ref sd, .ref bg, .ref ix, .int (nI hr), .int (nI gd), .int bd, .int (nI pq1)])), (c, .inr (2, [.ref ko, .int (nI i)])), (ko, .inl (G.2.1, 16, .inl (nb key))), (tb, .inl (G.2.1, 8, .inl (nb tbf))), (sd, .inr (0, [.ref so, .int (nI sn), .int (nI sy)])), (so, .inl (G.2.1, 1200, .inl (nb sg))), (bg, .inl (G.2.1, 120, .inl (nn B))), (ix, .inl (G.2.1, 120, .inl (nn X))), (out, .inl (G.2.2.1, 1, .inr (.inl ol)))] H_5 := hP_5
  replace hD : va_D A [(x, .inr (4, [.ref h, .ref d, .ref wc, .ref lt, .ref bu, .ref gb, .ref ve, .int (nI nb1), .int (nI up), .int cr])), (ve, .inr (3, [.ref c, .ref tb, .ref sd, .ref bg, .ref ix, .int (nI hr), .int (nI gd), .int bd, .int (nI pq1)])), (c, .inr (2, [.ref ko, .int (nI i)])), (ko, .inl (G.2.1, 16, .inl (nb key))), (tb, .inl (G.2.1, 8, .inl (nb tbf))), (sd, .inr (0, [.ref so, .int (nI sn), .int (nI sy)])), (so, .inl (G.2.1, 1200, .inl (nb sg))), (bg, .inl (G.2.1, 120, .inl (nn B))), (ix, .inl (G.2.1, 120, .inl (nn X))), (out, .inl (G.2.2.1, 1, .inr (.inl ol)))] := hD_5
  replace hS : va_S A sv.heap H_5 locs_5 := hS_5
  clear hP_5 hD_5 hS_5
  refine lv_i2l hx hb dL_record_8 rfl ?_
  refine f_last hx hb hK hP hD hS 9 rfl dL_record_9 (fun H_9 locs_9 hP_9 hD_9 hS_9 => ?_)
  replace hP : va_P G.1 vwCl [(x, .inr (4, [.ref h, .ref d, .ref wc, .ref lt, .ref bu, .ref gb, .ref ve, .int (nI nb1), .int (nI up), .int cr])), (ve, .inr (3, [.ref c, .ref tb, .ref sd, .ref bg, .ref ix, .int (nI hr), .int (nI gd), .int bd, .int (nI pq1)])), (c, .inr (2, [.ref ko, .int (nI i)])), (ko, .inl (G.2.1, 16, .inl (nb key))), (tb, .inl (G.2.1, 8, .inl (nb tbf))), (sd, .inr (0, [.ref so, .int (nI sn), .int (nI sy)])), (so, .inl (G.2.1, 1200, .inl (nb sg))), (bg, .inl (G.2.1, 120, .inl (nn B))), (ix, .inl (G.2.1, 120, .inl (nn X))), (out, .inl (G.2.2.1, 1, .inr (.inl (vp_updL ol 0 ((-1 : Int32).toInt64)))))] H_9 := hP_9
  replace hD : va_D A [(x, .inr (4, [.ref h, .ref d, .ref wc, .ref lt, .ref bu, .ref gb, .ref ve, .int (nI nb1), .int (nI up), .int cr])), (ve, .inr (3, [.ref c, .ref tb, .ref sd, .ref bg, .ref ix, .int (nI hr), .int (nI gd), .int bd, .int (nI pq1)])), (c, .inr (2, [.ref ko, .int (nI i)])), (ko, .inl (G.2.1, 16, .inl (nb key))), (tb, .inl (G.2.1, 8, .inl (nb tbf))), (sd, .inr (0, [.ref so, .int (nI sn), .int (nI sy)])), (so, .inl (G.2.1, 1200, .inl (nb sg))), (bg, .inl (G.2.1, 120, .inl (nn B))), (ix, .inl (G.2.1, 120, .inl (nn X))), (out, .inl (G.2.2.1, 1, .inr (.inl (vp_updL ol 0 ((-1 : Int32).toInt64)))))] := hD_9
  replace hS : va_S A sv.heap H_9 locs_9 := hS_9
  clear hP_9 hD_9 hS_9
  refine lv_goto (tgt := 17) hx hb dL_record_10 (by decide) ?_
  refine lv_iconst (v := nI 0) hx hb dL_record_17 (by decide) ?_
  refine W.widen (k := 1) (n := 6) (by omega) (by omega) ?_
  exact hend (nI 0) () _ _ _ _ rfl rfl hP hD hS dL_record_18

set_option maxRecDepth 100000 in
set_option maxHeartbeats 4000000 in
theorem kL_bend (l : Launch) (G : fG) (x : Nat) (wc : Nat) (wko : Nat) (lt : Nat) (bu : Nat) (gb : Nat) (ve : Nat) (h : Nat) (nb1 : Nat) (up : Nat) (cr : Int32) (d : Nat) (o : Nat) (g : Nat → UInt8) (n : Nat) (y : Nat) (a : Nat) (k : Nat) (out : Nat) (ol : Nat → Int64) (hn : n ≤ 1200) (ha : a < n) (hk : k < 8) : fMI l yL_bend (.codeWith yL_bend cL_bend 5 (some .int) [(0, 10, 13, 44), (0, 10, 17, 13)] :: wsA) ({ frames := 7, cells := 1, slots := 6, locals := 112 } : Room) G [.ref x, .int (nI a), .int (nI k), .ref out] [(x, .inr (4, [.ref h, .ref d, .ref wc, .ref lt, .ref bu, .ref gb, .ref ve, .int (nI nb1), .int (nI up), .int cr])), (d, .inr (0, [.ref o, .int (nI n), .int (nI y)])), (o, .inl (G.2.1, 1200, .inl (nb g))), (out, .inl (G.2.2.1, 1, .inr (.inl ol)))] (fun (r9 : Int32) (u : Unit) => r9 = nI 0) (fun (u : Unit) => [(x, .inr (4, [.ref h, .ref d, .ref wc, .ref lt, .ref bu, .ref gb, .ref ve, .int (nI nb1), .int (nI up), .int cr])), (d, .inr (0, [.ref o, .int (nI n), .int (nI y)])), (o, .inl (G.2.1, 1200, .inl (nb (upb g a (bxr (g a) k))))), (out, .inl (G.2.2.1, 1, .inr (.inl (vp_updL ol 0 (bI (bxr (g a) k)).toInt64))))]) 1 6 := by
  refine fH_start (cc := cL_bend) (maxL := 5) (by decide) rfl (Nat.le_of_ble_eq_true rfl) ?_
  intro prg env sv mid args below meth cd A Q ls hx hb hml hown hts htab hK hP hD hE hA hS hl hend
  replace hown : sv.vm.findClass RL = some mid.cls := hown
  replace hP : va_P G.1 vwCl [(x, .inr (4, [.ref h, .ref d, .ref wc, .ref lt, .ref bu, .ref gb, .ref ve, .int (nI nb1), .int (nI up), .int cr])), (d, .inr (0, [.ref o, .int (nI n), .int (nI y)])), (o, .inl (G.2.1, 1200, .inl (nb g))), (out, .inl (G.2.2.1, 1, .inr (.inl ol)))] sv.heap := hP
  replace hl : lv_has ls 5 [(0, .ref x), (1, .int (nI a)), (2, .int (nI k)), (3, .ref out)] := hl
  refine lv_aload_n hx hb dL_bend_0 rfl (lv_at hl 3 rfl) ?_
  refine lv_iconst (v := nI 0) hx hb dL_bend_1 (by decide) ?_
  refine lv_aload_n hx hb dL_bend_2 rfl (lv_at hl 0 rfl) ?_
  refine lv_iload_n hx hb dL_bend_3 rfl (lv_at hl 1 rfl) ?_
  refine lv_iload_n hx hb dL_bend_4 rfl (lv_at hl 2 rfl) ?_
  refine fcVI (As := [.int (nI a), .int (nI k)]) (rest := [.int (nI 0), .ref out]) (wr := [(out, .inl (G.2.2.1, 1, .inr (.inl ol)))]) (ws1 := fun (u : Unit) => [(x, .inr (4, [.ref h, .ref d, .ref wc, .ref lt, .ref bu, .ref gb, .ref ve, .int (nI nb1), .int (nI up), .int cr])), (d, .inr (0, [.ref o, .int (nI n), .int (nI y)])), (o, .inl (G.2.1, 1200, .inl (nb (upb g a (bxr (g a) k))))), (out, .inl (G.2.2.1, 1, .inr (.inl ol)))]) ⟨hx, hb, hml, hown, hts⟩ hK hE hP hD hS hA hl.1 (kX4_bend l G x wc wko lt bu gb ve h nb1 up cr d o g n y a k hn ha hk) (cwV 2 hts (gdV wm_466 wm_467 wm_468 wm_23 wm_229) rfl rfl rfl (by decide +kernel) ⟨Nat.le_of_ble_eq_true rfl, Nat.le_of_ble_eq_true rfl⟩) 0 rfl rfl rfl rfl (Nat.le_of_ble_eq_true rfl) dL_bend_5 ⟨Nat.le_of_ble_eq_true rfl, Nat.le_of_ble_eq_true rfl⟩ [0, 1, 2] [3] [1, 2, 3, 0] rfl rfl rfl rfl (by decide) rfl (fun _ => rfl) (fun r_5 u_5 H_5 locs_5 hw_5 hP_5 hD_5 hS_5 => ?_)
  obtain rfl := hw_5
  replace hP : va_P G.1 vwCl [(x, .inr (4, [.ref h, .ref d, .ref wc, .ref lt, .ref bu, .ref gb, .ref ve, .int (nI nb1), .int (nI up), .int cr])), (d, .inr (0, [.ref o, .int (nI n), .int (nI y)])), (o, .inl (G.2.1, 1200, .inl (nb (upb g a (bxr (g a) k))))), (out, .inl (G.2.2.1, 1, .inr (.inl ol)))] H_5 := hP_5
  replace hD : va_D A [(x, .inr (4, [.ref h, .ref d, .ref wc, .ref lt, .ref bu, .ref gb, .ref ve, .int (nI nb1), .int (nI up), .int cr])), (d, .inr (0, [.ref o, .int (nI n), .int (nI y)])), (o, .inl (G.2.1, 1200, .inl (nb (upb g a (bxr (g a) k))))), (out, .inl (G.2.2.1, 1, .inr (.inl ol)))] := hD_5
  replace hS : va_S A sv.heap H_5 locs_5 := hS_5
  clear hP_5 hD_5 hS_5
  refine lv_i2l hx hb dL_bend_8 rfl ?_
  refine f_last hx hb hK hP hD hS 3 rfl dL_bend_9 (fun H_9 locs_9 hP_9 hD_9 hS_9 => ?_)
  replace hP : va_P G.1 vwCl [(x, .inr (4, [.ref h, .ref d, .ref wc, .ref lt, .ref bu, .ref gb, .ref ve, .int (nI nb1), .int (nI up), .int cr])), (d, .inr (0, [.ref o, .int (nI n), .int (nI y)])), (o, .inl (G.2.1, 1200, .inl (nb (upb g a (bxr (g a) k))))), (out, .inl (G.2.2.1, 1, .inr (.inl (vp_updL ol 0 ((bI (bxr (g a) k)).toInt64)))))] H_9 := hP_9
  replace hD : va_D A [(x, .inr (4, [.ref h, .ref d, .ref wc, .ref lt, .ref bu, .ref gb, .ref ve, .int (nI nb1), .int (nI up), .int cr])), (d, .inr (0, [.ref o, .int (nI n), .int (nI y)])), (o, .inl (G.2.1, 1200, .inl (nb (upb g a (bxr (g a) k))))), (out, .inl (G.2.2.1, 1, .inr (.inl (vp_updL ol 0 ((bI (bxr (g a) k)).toInt64)))))] := hD_9
  replace hS : va_S A sv.heap H_9 locs_9 := hS_9
  clear hP_9 hD_9 hS_9
  refine lv_goto (tgt := 21) hx hb dL_bend_10 (by decide) ?_
  refine lv_iconst (v := nI 0) hx hb dL_bend_21 (by decide) ?_
  refine W.widen (k := 1) (n := 6) (by omega) (by omega) ?_
  exact hend (nI 0) () _ _ _ _ rfl rfl hP hD hS dL_bend_22

set_option maxRecDepth 100000 in
set_option maxHeartbeats 4000000 in
theorem kL_key (l : Launch) (G : fG) (x : Nat) (wc : Nat) (wko : Nat) (lt : Nat) (bu : Nat) (gb : Nat) (ve : Nat) (h : Nat) (d : Nat) (nb1 : Nat) (up : Nat) (cr : Int32) (wkey : Nat → UInt8) (wi : Nat) (k : Nat) (out : Nat) (ol : Nat → Int64) (hk : k < 16) : fMI l yL_key (.codeWith yL_key cL_key 4 (some .int) [(0, 9, 12, 13)] :: wsA) ({ frames := 7, cells := 1, slots := 6, locals := 111 } : Room) G [.ref x, .int (nI k), .ref out] [(x, .inr (4, [.ref h, .ref d, .ref wc, .ref lt, .ref bu, .ref gb, .ref ve, .int (nI nb1), .int (nI up), .int cr])), (wc, .inr (2, [.ref wko, .int (nI wi)])), (wko, .inl (G.2.1, 16, .inl (nb wkey))), (out, .inl (G.2.2.1, 1, .inr (.inl ol)))] (fun (r9 : Int32) (u : Unit) => r9 = nI 0) (fun (u : Unit) => [(x, .inr (4, [.ref h, .ref d, .ref wc, .ref lt, .ref bu, .ref gb, .ref ve, .int (nI nb1), .int (nI up), .int cr])), (wc, .inr (2, [.ref wko, .int (nI wi)])), (wko, .inl (G.2.1, 16, .inl (nb wkey))), (out, .inl (G.2.2.1, 1, .inr (.inl (vp_updL ol 0 (bI (wkey k)).toInt64))))]) 1 6 := by
  refine fH_start (cc := cL_key) (maxL := 4) (by decide) rfl (Nat.le_of_ble_eq_true rfl) ?_
  intro prg env sv mid args below meth cd A Q ls hx hb hml hown hts htab hK hP hD hE hA hS hl hend
  replace hown : sv.vm.findClass RL = some mid.cls := hown
  replace hP : va_P G.1 vwCl [(x, .inr (4, [.ref h, .ref d, .ref wc, .ref lt, .ref bu, .ref gb, .ref ve, .int (nI nb1), .int (nI up), .int cr])), (wc, .inr (2, [.ref wko, .int (nI wi)])), (wko, .inl (G.2.1, 16, .inl (nb wkey))), (out, .inl (G.2.2.1, 1, .inr (.inl ol)))] sv.heap := hP
  replace hl : lv_has ls 4 [(0, .ref x), (1, .int (nI k)), (2, .ref out)] := hl
  refine lv_aload_n hx hb dL_key_0 rfl (lv_at hl 2 rfl) ?_
  refine lv_iconst (v := nI 0) hx hb dL_key_1 (by decide) ?_
  refine lv_aload_n hx hb dL_key_2 rfl (lv_at hl 0 rfl) ?_
  refine lv_iload_n hx hb dL_key_3 rfl (lv_at hl 1 rfl) ?_
  refine fcVI (As := [.int (nI k)]) (rest := [.int (nI 0), .ref out]) (wr := [(out, .inl (G.2.2.1, 1, .inr (.inl ol)))]) (ws1 := fun (u : Unit) => [(x, .inr (4, [.ref h, .ref d, .ref wc, .ref lt, .ref bu, .ref gb, .ref ve, .int (nI nb1), .int (nI up), .int cr])), (wc, .inr (2, [.ref wko, .int (nI wi)])), (wko, .inl (G.2.1, 16, .inl (nb wkey))), (out, .inl (G.2.2.1, 1, .inr (.inl ol)))]) ⟨hx, hb, hml, hown, hts⟩ hK hE hP hD hS hA hl.1 (kX4_key l G x wc wko lt bu gb ve h d nb1 up cr wkey wi k hk) (cwV 1 hts (gdV wm_470 wm_471 wm_472 wm_23 wm_238) rfl rfl rfl (by decide +kernel) ⟨Nat.le_of_ble_eq_true rfl, Nat.le_of_ble_eq_true rfl⟩) 0 rfl rfl rfl rfl (Nat.le_of_ble_eq_true rfl) dL_key_4 ⟨Nat.le_of_ble_eq_true rfl, Nat.le_of_ble_eq_true rfl⟩ [0, 1, 2] [3] [1, 2, 3, 0] rfl rfl rfl rfl (by decide) rfl (fun _ => rfl) (fun r_4 u_4 H_4 locs_4 hw_4 hP_4 hD_4 hS_4 => ?_)
  obtain rfl := hw_4
  replace hP : va_P G.1 vwCl [(x, .inr (4, [.ref h, .ref d, .ref wc, .ref lt, .ref bu, .ref gb, .ref ve, .int (nI nb1), .int (nI up), .int cr])), (wc, .inr (2, [.ref wko, .int (nI wi)])), (wko, .inl (G.2.1, 16, .inl (nb wkey))), (out, .inl (G.2.2.1, 1, .inr (.inl ol)))] H_4 := hP_4
  replace hD : va_D A [(x, .inr (4, [.ref h, .ref d, .ref wc, .ref lt, .ref bu, .ref gb, .ref ve, .int (nI nb1), .int (nI up), .int cr])), (wc, .inr (2, [.ref wko, .int (nI wi)])), (wko, .inl (G.2.1, 16, .inl (nb wkey))), (out, .inl (G.2.2.1, 1, .inr (.inl ol)))] := hD_4
  replace hS : va_S A sv.heap H_4 locs_4 := hS_4
  clear hP_4 hD_4 hS_4
  refine lv_i2l hx hb dL_key_7 rfl ?_
  refine f_last hx hb hK hP hD hS 3 rfl dL_key_8 (fun H_8 locs_8 hP_8 hD_8 hS_8 => ?_)
  replace hP : va_P G.1 vwCl [(x, .inr (4, [.ref h, .ref d, .ref wc, .ref lt, .ref bu, .ref gb, .ref ve, .int (nI nb1), .int (nI up), .int cr])), (wc, .inr (2, [.ref wko, .int (nI wi)])), (wko, .inl (G.2.1, 16, .inl (nb wkey))), (out, .inl (G.2.2.1, 1, .inr (.inl (vp_updL ol 0 ((bI (wkey k)).toInt64)))))] H_8 := hP_8
  replace hD : va_D A [(x, .inr (4, [.ref h, .ref d, .ref wc, .ref lt, .ref bu, .ref gb, .ref ve, .int (nI nb1), .int (nI up), .int cr])), (wc, .inr (2, [.ref wko, .int (nI wi)])), (wko, .inl (G.2.1, 16, .inl (nb wkey))), (out, .inl (G.2.2.1, 1, .inr (.inl (vp_updL ol 0 ((bI (wkey k)).toInt64)))))] := hD_8
  replace hS : va_S A sv.heap H_8 locs_8 := hS_8
  clear hP_8 hD_8 hS_8
  refine lv_goto (tgt := 15) hx hb dL_key_9 (by decide) ?_
  refine lv_iconst (v := nI 0) hx hb dL_key_15 (by decide) ?_
  refine W.widen (k := 1) (n := 6) (by omega) (by omega) ?_
  exact hend (nI 0) () _ _ _ _ rfl rfl hP hD hS dL_key_16

set_option maxRecDepth 100000 in
set_option maxHeartbeats 4000000 in
theorem kL_count (l : Launch) (G : fG) (x : Nat) (wc : Nat) (wko : Nat) (lt : Nat) (bu : Nat) (gb : Nat) (ve : Nat) (h : Nat) (nb1 : Nat) (up : Nat) (cr : Int32) (d : Nat) (o : Nat) (g : Nat → UInt8) (n : Nat) (y : Nat) (wkey : Nat → UInt8) (wi : Nat) (w : Nat) (out : Nat) (ol : Nat → Int64) (hw : w ≤ 5) (hu : up ≤ 1) : fMI l yL_count (.codeWith yL_count cL_count 4 (some .int) [(0, 9, 12, 13)] :: wsA) ({ frames := 7, cells := 1, slots := 6, locals := 111 } : Room) G [.ref x, .int (nI w), .ref out] [(x, .inr (4, [.ref h, .ref d, .ref wc, .ref lt, .ref bu, .ref gb, .ref ve, .int (nI nb1), .int (nI up), .int cr])), (d, .inr (0, [.ref o, .int (nI n), .int (nI y)])), (o, .inl (G.2.1, 1200, .inl (nb g))), (wc, .inr (2, [.ref wko, .int (nI wi)])), (wko, .inl (G.2.1, 16, .inl (nb wkey))), (out, .inl (G.2.2.1, 1, .inr (.inl ol)))] (fun (r9 : Int32) (u : Unit) => r9 = nI 0) (fun (u : Unit) => [(x, .inr (4, [.ref h, .ref d, .ref wc, .ref lt, .ref bu, .ref gb, .ref ve, .int (nI nb1), .int (nI up), .int cr])), (d, .inr (0, [.ref o, .int (nI n), .int (nI y)])), (o, .inl (G.2.1, 1200, .inl (nb g))), (wc, .inr (2, [.ref wko, .int (nI wi)])), (wko, .inl (G.2.1, 16, .inl (nb wkey))), (out, .inl (G.2.2.1, 1, .inr (.inl (vp_updL ol 0 (cntV n y wi up cr nb1 w).toInt64))))]) 1 6 := by
  refine fH_start (cc := cL_count) (maxL := 4) (by decide) rfl (Nat.le_of_ble_eq_true rfl) ?_
  intro prg env sv mid args below meth cd A Q ls hx hb hml hown hts htab hK hP hD hE hA hS hl hend
  replace hown : sv.vm.findClass RL = some mid.cls := hown
  replace hP : va_P G.1 vwCl [(x, .inr (4, [.ref h, .ref d, .ref wc, .ref lt, .ref bu, .ref gb, .ref ve, .int (nI nb1), .int (nI up), .int cr])), (d, .inr (0, [.ref o, .int (nI n), .int (nI y)])), (o, .inl (G.2.1, 1200, .inl (nb g))), (wc, .inr (2, [.ref wko, .int (nI wi)])), (wko, .inl (G.2.1, 16, .inl (nb wkey))), (out, .inl (G.2.2.1, 1, .inr (.inl ol)))] sv.heap := hP
  replace hl : lv_has ls 4 [(0, .ref x), (1, .int (nI w)), (2, .ref out)] := hl
  refine lv_aload_n hx hb dL_count_0 rfl (lv_at hl 2 rfl) ?_
  refine lv_iconst (v := nI 0) hx hb dL_count_1 (by decide) ?_
  refine lv_aload_n hx hb dL_count_2 rfl (lv_at hl 0 rfl) ?_
  refine lv_iload_n hx hb dL_count_3 rfl (lv_at hl 1 rfl) ?_
  refine fcVI (As := [.int (nI w)]) (rest := [.int (nI 0), .ref out]) (wr := [(out, .inl (G.2.2.1, 1, .inr (.inl ol)))]) (ws1 := fun (u : Unit) => [(x, .inr (4, [.ref h, .ref d, .ref wc, .ref lt, .ref bu, .ref gb, .ref ve, .int (nI nb1), .int (nI up), .int cr])), (d, .inr (0, [.ref o, .int (nI n), .int (nI y)])), (o, .inl (G.2.1, 1200, .inl (nb g))), (wc, .inr (2, [.ref wko, .int (nI wi)])), (wko, .inl (G.2.1, 16, .inl (nb wkey))), (out, .inl (G.2.2.1, 1, .inr (.inl ol)))]) ⟨hx, hb, hml, hown, hts⟩ hK hE hP hD hS hA hl.1 (kX4_count l G x wc wko lt bu gb ve h nb1 up cr d o g n y wkey wi w hw hu) (cwV 1 hts (gdV wm_474 wm_475 wm_476 wm_23 wm_240) rfl rfl rfl (by decide +kernel) ⟨Nat.le_of_ble_eq_true rfl, Nat.le_of_ble_eq_true rfl⟩) 0 rfl rfl rfl rfl (Nat.le_of_ble_eq_true rfl) dL_count_4 ⟨Nat.le_of_ble_eq_true rfl, Nat.le_of_ble_eq_true rfl⟩ [0, 1, 2, 3, 4] [5] [1, 2, 3, 4, 5, 0] rfl rfl rfl rfl (by decide) rfl (fun _ => rfl) (fun r_4 u_4 H_4 locs_4 hw_4 hP_4 hD_4 hS_4 => ?_)
  obtain rfl := hw_4
  replace hP : va_P G.1 vwCl [(x, .inr (4, [.ref h, .ref d, .ref wc, .ref lt, .ref bu, .ref gb, .ref ve, .int (nI nb1), .int (nI up), .int cr])), (d, .inr (0, [.ref o, .int (nI n), .int (nI y)])), (o, .inl (G.2.1, 1200, .inl (nb g))), (wc, .inr (2, [.ref wko, .int (nI wi)])), (wko, .inl (G.2.1, 16, .inl (nb wkey))), (out, .inl (G.2.2.1, 1, .inr (.inl ol)))] H_4 := hP_4
  replace hD : va_D A [(x, .inr (4, [.ref h, .ref d, .ref wc, .ref lt, .ref bu, .ref gb, .ref ve, .int (nI nb1), .int (nI up), .int cr])), (d, .inr (0, [.ref o, .int (nI n), .int (nI y)])), (o, .inl (G.2.1, 1200, .inl (nb g))), (wc, .inr (2, [.ref wko, .int (nI wi)])), (wko, .inl (G.2.1, 16, .inl (nb wkey))), (out, .inl (G.2.2.1, 1, .inr (.inl ol)))] := hD_4
  replace hS : va_S A sv.heap H_4 locs_4 := hS_4
  clear hP_4 hD_4 hS_4
  refine lv_i2l hx hb dL_count_7 rfl ?_
  refine f_last hx hb hK hP hD hS 5 rfl dL_count_8 (fun H_8 locs_8 hP_8 hD_8 hS_8 => ?_)
  replace hP : va_P G.1 vwCl [(x, .inr (4, [.ref h, .ref d, .ref wc, .ref lt, .ref bu, .ref gb, .ref ve, .int (nI nb1), .int (nI up), .int cr])), (d, .inr (0, [.ref o, .int (nI n), .int (nI y)])), (o, .inl (G.2.1, 1200, .inl (nb g))), (wc, .inr (2, [.ref wko, .int (nI wi)])), (wko, .inl (G.2.1, 16, .inl (nb wkey))), (out, .inl (G.2.2.1, 1, .inr (.inl (vp_updL ol 0 ((cntV n y wi up cr nb1 w).toInt64)))))] H_8 := hP_8
  replace hD : va_D A [(x, .inr (4, [.ref h, .ref d, .ref wc, .ref lt, .ref bu, .ref gb, .ref ve, .int (nI nb1), .int (nI up), .int cr])), (d, .inr (0, [.ref o, .int (nI n), .int (nI y)])), (o, .inl (G.2.1, 1200, .inl (nb g))), (wc, .inr (2, [.ref wko, .int (nI wi)])), (wko, .inl (G.2.1, 16, .inl (nb wkey))), (out, .inl (G.2.2.1, 1, .inr (.inl (vp_updL ol 0 ((cntV n y wi up cr nb1 w).toInt64)))))] := hD_8
  replace hS : va_S A sv.heap H_8 locs_8 := hS_8
  clear hP_8 hD_8 hS_8
  refine lv_goto (tgt := 15) hx hb dL_count_9 (by decide) ?_
  refine lv_iconst (v := nI 0) hx hb dL_count_15 (by decide) ?_
  refine W.widen (k := 1) (n := 6) (by omega) (by omega) ?_
  exact hend (nI 0) () _ _ _ _ rfl rfl hP hD hS dL_count_16

set_option maxRecDepth 100000 in
set_option maxHeartbeats 4000000 in
theorem kL_feed_x1 (l : Launch) (G : fG) (x : Nat) (wc : Nat) (wko : Nat) (lt : Nat) (bu : Nat) (gb : Nat) (ve : Nat) (h : Nat) (d : Nat) (nb1 : Nat) (up : Nat) (cr : Int32) (z : Int32) (a : Int32) (b : Int32) (c0 : Int32) (d0 : Int32) (out : Nat) (ol : Nat → Int64) (hfl : l.stackTraces = false) (hz : z < 0 ∨ nI 16 < z) : fMI l yL_feed (.codeWith yL_feed cL_feed 8 (some .int) [(0, 16, 19, 13), (0, 16, 23, 15)] :: wsA) ({ frames := 7, cells := 1, slots := 6, locals := 116 } : Room) G [.ref x, .int z, .int a, .int b, .int c0, .int d0, .ref out] [(x, .inr (4, [.ref h, .ref d, .ref wc, .ref lt, .ref bu, .ref gb, .ref ve, .int (nI nb1), .int (nI up), .int cr])), (out, .inl (G.2.2.1, 1, .inr (.inl ol)))] (fun (r9 : Int32) (u : Unit) => r9 = nI 1) (fun (u : Unit) => [(x, .inr (4, [.ref h, .ref d, .ref wc, .ref lt, .ref bu, .ref gb, .ref ve, .int (nI nb1), .int (nI up), .int cr])), (out, .inl (G.2.2.1, 1, .inr (.inl ol)))]) 1 6 := by
  refine fH_start (cc := cL_feed) (maxL := 8) (by decide) rfl (Nat.le_of_ble_eq_true rfl) ?_
  intro prg env sv mid args below meth cd A Q ls hx hb hml hown hts htab hK hP hD hE hA hS hl hend
  replace hown : sv.vm.findClass RL = some mid.cls := hown
  replace hP : va_P G.1 vwCl [(x, .inr (4, [.ref h, .ref d, .ref wc, .ref lt, .ref bu, .ref gb, .ref ve, .int (nI nb1), .int (nI up), .int cr])), (out, .inl (G.2.2.1, 1, .inr (.inl ol)))] sv.heap := hP
  replace hl : lv_has ls 8 [(0, .ref x), (1, .int z), (2, .int a), (3, .int b), (4, .int c0), (5, .int d0), (6, .ref out)] := hl
  refine lv_aload hx hb dL_feed_0 (lv_at hl 6 rfl) ?_
  refine lv_iconst (v := nI 0) hx hb dL_feed_2 (by decide) ?_
  refine lv_aload_n hx hb dL_feed_3 rfl (lv_at hl 0 rfl) ?_
  refine lv_iload_n hx hb dL_feed_4 rfl (lv_at hl 1 rfl) ?_
  refine lv_iload_n hx hb dL_feed_5 rfl (lv_at hl 2 rfl) ?_
  refine lv_iload_n hx hb dL_feed_6 rfl (lv_at hl 3 rfl) ?_
  refine lv_iload hx hb dL_feed_7 (lv_at hl 4 rfl) ?_
  refine lv_iload hx hb dL_feed_9 (lv_at hl 5 rfl) ?_
  refine fcX (As := [.int z, .int a, .int b, .int c0, .int d0]) (rest := [.int (nI 0), .ref out]) (wr := [(out, .inl (G.2.2.1, 1, .inr (.inl ol)))]) ⟨hx, hb, hml, hown, hts⟩ hK hE hP hD hS hA hl.1 (kX4_feed_x1 l G x wc wko lt bu gb ve h d nb1 up cr z a b c0 d0 hfl hz) (cwV 5 hts (gdV wm_433 wm_434 wm_435 wm_23 wm_185) rfl rfl rfl (by decide +kernel) ⟨Nat.le_of_ble_eq_true rfl, Nat.le_of_ble_eq_true rfl⟩) 0 rfl rfl rfl rfl (Nat.le_of_ble_eq_true rfl) dL_feed_11 ⟨Nat.le_of_ble_eq_true rfl, Nat.le_of_ble_eq_true rfl⟩ [0] [1] [1, 0] rfl rfl rfl rfl (by decide) rfl rfl (fun q_11 ce_11 H_11 locs_11 hcell_11 hvm_11 hcl_11 hP_11 hD_11 hS_11 => ?_)
  replace hP : va_P G.1 vwCl [(x, .inr (4, [.ref h, .ref d, .ref wc, .ref lt, .ref bu, .ref gb, .ref ve, .int (nI nb1), .int (nI up), .int cr])), (out, .inl (G.2.2.1, 1, .inr (.inl ol)))] H_11 := hP_11
  replace hD : va_D A [(x, .inr (4, [.ref h, .ref d, .ref wc, .ref lt, .ref bu, .ref gb, .ref ve, .int (nI nb1), .int (nI up), .int cr])), (out, .inl (G.2.2.1, 1, .inr (.inl ol)))] := hD_11
  replace hS : va_S A sv.heap H_11 locs_11 := hS_11
  clear hP_11 hD_11 hS_11
  refine vx_catch (own := RL) (name := eIA) (E := eIA) hown [] (⟨0, 16, 19, 13⟩ : ExceptionTableEntry) [(⟨0, 16, 23, 15⟩ : ExceptionTableEntry)] (by rw [htab]; rfl) (fun z h9 => absurd h9 List.not_mem_nil) (by decide) (by decide) (hts _ wm_431) (va_Nw.use rfl hE.2.2.2.2.2.2.2.2.2.2.2.1) hcell_11 hvm_11 hcl_11 ?_
  refine lv_astore (lv' := [(7, .ref q_11), (0, .ref x), (1, .int z), (2, .int a), (3, .int b), (4, .int c0), (5, .int d0), (6, .ref out)]) hx hb dL_feed_19 hl (by decide) rfl (fun ls hl2 => ?_)
  replace hl := hl2; clear hl2
  refine lv_iconst (v := nI 1) hx hb dL_feed_21 (by decide) ?_
  exact hend (nI 1) () _ _ _ _ rfl rfl hP hD hS dL_feed_22

set_option maxRecDepth 100000 in
set_option maxHeartbeats 4000000 in
theorem kL_feed_x2 (l : Launch) (G : fG) (x : Nat) (wc : Nat) (wko : Nat) (lt : Nat) (bu : Nat) (gb : Nat) (ve : Nat) (h : Nat) (d : Nat) (nb1 : Nat) (up : Nat) (cr : Int32) (many : Nat) (a : Int32) (b : Int32) (c0 : Int32) (d0 : Int32) (out : Nat) (ol : Nat → Int64) (hfl : l.stackTraces = false) (hm : many ≤ 16) (hb4 : 40 < nb1 + many) (hb5 : nb1 ≤ 40) : fMI l yL_feed (.codeWith yL_feed cL_feed 8 (some .int) [(0, 16, 19, 13), (0, 16, 23, 15)] :: wsA) ({ frames := 7, cells := 1, slots := 6, locals := 116 } : Room) G [.ref x, .int (nI many), .int a, .int b, .int c0, .int d0, .ref out] [(x, .inr (4, [.ref h, .ref d, .ref wc, .ref lt, .ref bu, .ref gb, .ref ve, .int (nI nb1), .int (nI up), .int cr])), (out, .inl (G.2.2.1, 1, .inr (.inl ol)))] (fun (r9 : Int32) (u : Unit) => r9 = nI 2) (fun (u : Unit) => [(x, .inr (4, [.ref h, .ref d, .ref wc, .ref lt, .ref bu, .ref gb, .ref ve, .int (nI nb1), .int (nI up), .int cr])), (out, .inl (G.2.2.1, 1, .inr (.inl ol)))]) 1 6 := by
  refine fH_start (cc := cL_feed) (maxL := 8) (by decide) rfl (Nat.le_of_ble_eq_true rfl) ?_
  intro prg env sv mid args below meth cd A Q ls hx hb hml hown hts htab hK hP hD hE hA hS hl hend
  replace hown : sv.vm.findClass RL = some mid.cls := hown
  replace hP : va_P G.1 vwCl [(x, .inr (4, [.ref h, .ref d, .ref wc, .ref lt, .ref bu, .ref gb, .ref ve, .int (nI nb1), .int (nI up), .int cr])), (out, .inl (G.2.2.1, 1, .inr (.inl ol)))] sv.heap := hP
  replace hl : lv_has ls 8 [(0, .ref x), (1, .int (nI many)), (2, .int a), (3, .int b), (4, .int c0), (5, .int d0), (6, .ref out)] := hl
  refine lv_aload hx hb dL_feed_0 (lv_at hl 6 rfl) ?_
  refine lv_iconst (v := nI 0) hx hb dL_feed_2 (by decide) ?_
  refine lv_aload_n hx hb dL_feed_3 rfl (lv_at hl 0 rfl) ?_
  refine lv_iload_n hx hb dL_feed_4 rfl (lv_at hl 1 rfl) ?_
  refine lv_iload_n hx hb dL_feed_5 rfl (lv_at hl 2 rfl) ?_
  refine lv_iload_n hx hb dL_feed_6 rfl (lv_at hl 3 rfl) ?_
  refine lv_iload hx hb dL_feed_7 (lv_at hl 4 rfl) ?_
  refine lv_iload hx hb dL_feed_9 (lv_at hl 5 rfl) ?_
  refine fcX (As := [.int (nI many), .int a, .int b, .int c0, .int d0]) (rest := [.int (nI 0), .ref out]) (wr := [(out, .inl (G.2.2.1, 1, .inr (.inl ol)))]) ⟨hx, hb, hml, hown, hts⟩ hK hE hP hD hS hA hl.1 (kX4_feed_x2 l G x wc wko lt bu gb ve h d nb1 up cr many a b c0 d0 hfl hm hb4 hb5) (cwV 5 hts (gdV wm_433 wm_434 wm_435 wm_23 wm_185) rfl rfl rfl (by decide +kernel) ⟨Nat.le_of_ble_eq_true rfl, Nat.le_of_ble_eq_true rfl⟩) 0 rfl rfl rfl rfl (Nat.le_of_ble_eq_true rfl) dL_feed_11 ⟨Nat.le_of_ble_eq_true rfl, Nat.le_of_ble_eq_true rfl⟩ [0] [1] [1, 0] rfl rfl rfl rfl (by decide) rfl rfl (fun q_11 ce_11 H_11 locs_11 hcell_11 hvm_11 hcl_11 hP_11 hD_11 hS_11 => ?_)
  replace hP : va_P G.1 vwCl [(x, .inr (4, [.ref h, .ref d, .ref wc, .ref lt, .ref bu, .ref gb, .ref ve, .int (nI nb1), .int (nI up), .int cr])), (out, .inl (G.2.2.1, 1, .inr (.inl ol)))] H_11 := hP_11
  replace hD : va_D A [(x, .inr (4, [.ref h, .ref d, .ref wc, .ref lt, .ref bu, .ref gb, .ref ve, .int (nI nb1), .int (nI up), .int cr])), (out, .inl (G.2.2.1, 1, .inr (.inl ol)))] := hD_11
  replace hS : va_S A sv.heap H_11 locs_11 := hS_11
  clear hP_11 hD_11 hS_11
  refine vx_catch (own := RL) (name := eIS) (E := eIS) hown [(⟨0, 16, 19, 13⟩ : ExceptionTableEntry)] (⟨0, 16, 23, 15⟩ : ExceptionTableEntry) [] (by rw [htab]; rfl) (fun z h9 => by rw [List.mem_singleton.mp h9]; exact Or.inr ⟨by decide, eIA, (hts _ wm_431), hE.2.2.2.2.2.2.2.2.2.2.2.2.2.2.1⟩) (by decide) (by decide) (hts _ wm_432) (va_Nw.use rfl hE.2.2.2.2.2.2.2.2.2.2.2.2.1) hcell_11 hvm_11 hcl_11 ?_
  refine lv_astore (lv' := [(7, .ref q_11), (0, .ref x), (1, .int (nI many)), (2, .int a), (3, .int b), (4, .int c0), (5, .int d0), (6, .ref out)]) hx hb dL_feed_23 hl (by decide) rfl (fun ls hl2 => ?_)
  replace hl := hl2; clear hl2
  refine lv_iconst (v := nI 2) hx hb dL_feed_25 (by decide) ?_
  exact hend (nI 2) () _ _ _ _ rfl rfl hP hD hS dL_feed_26

set_option maxRecDepth 100000 in
set_option maxHeartbeats 4000000 in
theorem kL_append_x (l : Launch) (G : fG) (x : Nat) (wc : Nat) (wko : Nat) (lt : Nat) (bu : Nat) (gb : Nat) (ve : Nat) (h : Nat) (d : Nat) (nb1 : Nat) (cr : Int32) (out : Nat) (ol : Nat → Int64) (hfl : l.stackTraces = false) : fMI l yL_append (.codeWith yL_append cL_append 3 (some .int) [(0, 8, 11, 15)] :: wsA) ({ frames := 7, cells := 1, slots := 6, locals := 149 } : Room) G [.ref x, .ref out] [(x, .inr (4, [.ref h, .ref d, .ref wc, .ref lt, .ref bu, .ref gb, .ref ve, .int (nI nb1), .int (nI 0), .int cr])), (out, .inl (G.2.2.1, 1, .inr (.inl ol)))] (fun (r9 : Int32) (u : Unit) => r9 = nI 1) (fun (u : Unit) => [(x, .inr (4, [.ref h, .ref d, .ref wc, .ref lt, .ref bu, .ref gb, .ref ve, .int (nI nb1), .int (nI 0), .int cr])), (out, .inl (G.2.2.1, 1, .inr (.inl ol)))]) 1 6 := by
  refine fH_start (cc := cL_append) (maxL := 3) (by decide) rfl (Nat.le_of_ble_eq_true rfl) ?_
  intro prg env sv mid args below meth cd A Q ls hx hb hml hown hts htab hK hP hD hE hA hS hl hend
  replace hown : sv.vm.findClass RL = some mid.cls := hown
  replace hP : va_P G.1 vwCl [(x, .inr (4, [.ref h, .ref d, .ref wc, .ref lt, .ref bu, .ref gb, .ref ve, .int (nI nb1), .int (nI 0), .int cr])), (out, .inl (G.2.2.1, 1, .inr (.inl ol)))] sv.heap := hP
  replace hl : lv_has ls 3 [(0, .ref x), (1, .ref out)] := hl
  refine lv_aload_n hx hb dL_append_0 rfl (lv_at hl 1 rfl) ?_
  refine lv_iconst (v := nI 0) hx hb dL_append_1 (by decide) ?_
  refine lv_aload_n hx hb dL_append_2 rfl (lv_at hl 0 rfl) ?_
  refine fcX (As := []) (rest := [.int (nI 0), .ref out]) (wr := [(out, .inl (G.2.2.1, 1, .inr (.inl ol)))]) ⟨hx, hb, hml, hown, hts⟩ hK hE hP hD hS hA hl.1 (kX4_append_x l G x wc wko lt bu gb ve h d nb1 cr hfl ) (cwV 0 hts (gdV wm_437 wm_438 wm_439 wm_23 wm_200) rfl rfl rfl (by decide +kernel) ⟨Nat.le_of_ble_eq_true rfl, Nat.le_of_ble_eq_true rfl⟩) 0 rfl rfl rfl rfl (Nat.le_of_ble_eq_true rfl) dL_append_3 ⟨Nat.le_of_ble_eq_true rfl, Nat.le_of_ble_eq_true rfl⟩ [0] [1] [1, 0] rfl rfl rfl rfl (by decide) rfl rfl (fun q_3 ce_3 H_3 locs_3 hcell_3 hvm_3 hcl_3 hP_3 hD_3 hS_3 => ?_)
  replace hP : va_P G.1 vwCl [(x, .inr (4, [.ref h, .ref d, .ref wc, .ref lt, .ref bu, .ref gb, .ref ve, .int (nI nb1), .int (nI 0), .int cr])), (out, .inl (G.2.2.1, 1, .inr (.inl ol)))] H_3 := hP_3
  replace hD : va_D A [(x, .inr (4, [.ref h, .ref d, .ref wc, .ref lt, .ref bu, .ref gb, .ref ve, .int (nI nb1), .int (nI 0), .int cr])), (out, .inl (G.2.2.1, 1, .inr (.inl ol)))] := hD_3
  replace hS : va_S A sv.heap H_3 locs_3 := hS_3
  clear hP_3 hD_3 hS_3
  refine vx_catch (own := RL) (name := eIS) (E := eIS) hown [] (⟨0, 8, 11, 15⟩ : ExceptionTableEntry) [] (by rw [htab]; rfl) (fun z h9 => absurd h9 List.not_mem_nil) (by decide) (by decide) (hts _ wm_432) (va_Nw.use rfl hE.2.2.2.2.2.2.2.2.2.2.2.2.1) hcell_3 hvm_3 hcl_3 ?_
  refine lv_astore_n (lv' := [(2, .ref q_3), (0, .ref x), (1, .ref out)]) hx hb dL_append_11 rfl hl (by decide) rfl (fun ls hl2 => ?_)
  replace hl := hl2; clear hl2
  refine lv_iconst (v := nI 1) hx hb dL_append_12 (by decide) ?_
  exact hend (nI 1) () _ _ _ _ rfl rfl hP hD hS dL_append_13

set_option maxRecDepth 100000 in
set_option maxHeartbeats 4000000 in
theorem kL_seal_x (l : Launch) (G : fG) (x : Nat) (wc : Nat) (wko : Nat) (lt : Nat) (bu : Nat) (gb : Nat) (ve : Nat) (h : Nat) (d : Nat) (nb1 : Nat) (cr : Int32) (out : Nat) (ol : Nat → Int64) (hfl : l.stackTraces = false) : fMI l yL_seal (.codeWith yL_seal cL_seal 3 (some .int) [(0, 8, 11, 15)] :: wsA) ({ frames := 7, cells := 1, slots := 6, locals := 149 } : Room) G [.ref x, .ref out] [(x, .inr (4, [.ref h, .ref d, .ref wc, .ref lt, .ref bu, .ref gb, .ref ve, .int (nI nb1), .int (nI 0), .int cr])), (out, .inl (G.2.2.1, 1, .inr (.inl ol)))] (fun (r9 : Int32) (u : Unit) => r9 = nI 1) (fun (u : Unit) => [(x, .inr (4, [.ref h, .ref d, .ref wc, .ref lt, .ref bu, .ref gb, .ref ve, .int (nI nb1), .int (nI 0), .int cr])), (out, .inl (G.2.2.1, 1, .inr (.inl ol)))]) 1 6 := by
  refine fH_start (cc := cL_seal) (maxL := 3) (by decide) rfl (Nat.le_of_ble_eq_true rfl) ?_
  intro prg env sv mid args below meth cd A Q ls hx hb hml hown hts htab hK hP hD hE hA hS hl hend
  replace hown : sv.vm.findClass RL = some mid.cls := hown
  replace hP : va_P G.1 vwCl [(x, .inr (4, [.ref h, .ref d, .ref wc, .ref lt, .ref bu, .ref gb, .ref ve, .int (nI nb1), .int (nI 0), .int cr])), (out, .inl (G.2.2.1, 1, .inr (.inl ol)))] sv.heap := hP
  replace hl : lv_has ls 3 [(0, .ref x), (1, .ref out)] := hl
  refine lv_aload_n hx hb dL_seal_0 rfl (lv_at hl 1 rfl) ?_
  refine lv_iconst (v := nI 0) hx hb dL_seal_1 (by decide) ?_
  refine lv_aload_n hx hb dL_seal_2 rfl (lv_at hl 0 rfl) ?_
  refine fcX (As := []) (rest := [.int (nI 0), .ref out]) (wr := [(out, .inl (G.2.2.1, 1, .inr (.inl ol)))]) ⟨hx, hb, hml, hown, hts⟩ hK hE hP hD hS hA hl.1 (kX4_seal_x l G x wc wko lt bu gb ve h d nb1 cr hfl ) (cwV 0 hts (gdV wm_441 wm_442 wm_443 wm_23 wm_204) rfl rfl rfl (by decide +kernel) ⟨Nat.le_of_ble_eq_true rfl, Nat.le_of_ble_eq_true rfl⟩) 0 rfl rfl rfl rfl (Nat.le_of_ble_eq_true rfl) dL_seal_3 ⟨Nat.le_of_ble_eq_true rfl, Nat.le_of_ble_eq_true rfl⟩ [0] [1] [1, 0] rfl rfl rfl rfl (by decide) rfl rfl (fun q_3 ce_3 H_3 locs_3 hcell_3 hvm_3 hcl_3 hP_3 hD_3 hS_3 => ?_)
  replace hP : va_P G.1 vwCl [(x, .inr (4, [.ref h, .ref d, .ref wc, .ref lt, .ref bu, .ref gb, .ref ve, .int (nI nb1), .int (nI 0), .int cr])), (out, .inl (G.2.2.1, 1, .inr (.inl ol)))] H_3 := hP_3
  replace hD : va_D A [(x, .inr (4, [.ref h, .ref d, .ref wc, .ref lt, .ref bu, .ref gb, .ref ve, .int (nI nb1), .int (nI 0), .int cr])), (out, .inl (G.2.2.1, 1, .inr (.inl ol)))] := hD_3
  replace hS : va_S A sv.heap H_3 locs_3 := hS_3
  clear hP_3 hD_3 hS_3
  refine vx_catch (own := RL) (name := eIS) (E := eIS) hown [] (⟨0, 8, 11, 15⟩ : ExceptionTableEntry) [] (by rw [htab]; rfl) (fun z h9 => absurd h9 List.not_mem_nil) (by decide) (by decide) (hts _ wm_432) (va_Nw.use rfl hE.2.2.2.2.2.2.2.2.2.2.2.2.1) hcell_3 hvm_3 hcl_3 ?_
  refine lv_astore_n (lv' := [(2, .ref q_3), (0, .ref x), (1, .ref out)]) hx hb dL_seal_11 rfl hl (by decide) rfl (fun ls hl2 => ?_)
  replace hl := hl2; clear hl2
  refine lv_iconst (v := nI 1) hx hb dL_seal_12 (by decide) ?_
  exact hend (nI 1) () _ _ _ _ rfl rfl hP hD hS dL_seal_13

set_option maxRecDepth 100000 in
set_option maxHeartbeats 4000000 in
theorem kL_sync_x (l : Launch) (G : fG) (x : Nat) (wc : Nat) (wko : Nat) (lt : Nat) (bu : Nat) (gb : Nat) (ve : Nat) (h : Nat) (d : Nat) (nb1 : Nat) (cr : Int32) (out : Nat) (ol : Nat → Int64) (hfl : l.stackTraces = false) : fMI l yL_sync (.codeWith yL_sync cL_sync 3 (some .int) [(0, 8, 11, 15)] :: wsA) ({ frames := 7, cells := 1, slots := 6, locals := 110 } : Room) G [.ref x, .ref out] [(x, .inr (4, [.ref h, .ref d, .ref wc, .ref lt, .ref bu, .ref gb, .ref ve, .int (nI nb1), .int (nI 0), .int cr])), (out, .inl (G.2.2.1, 1, .inr (.inl ol)))] (fun (r9 : Int32) (u : Unit) => r9 = nI 1) (fun (u : Unit) => [(x, .inr (4, [.ref h, .ref d, .ref wc, .ref lt, .ref bu, .ref gb, .ref ve, .int (nI nb1), .int (nI 0), .int cr])), (out, .inl (G.2.2.1, 1, .inr (.inl ol)))]) 1 6 := by
  refine fH_start (cc := cL_sync) (maxL := 3) (by decide) rfl (Nat.le_of_ble_eq_true rfl) ?_
  intro prg env sv mid args below meth cd A Q ls hx hb hml hown hts htab hK hP hD hE hA hS hl hend
  replace hown : sv.vm.findClass RL = some mid.cls := hown
  replace hP : va_P G.1 vwCl [(x, .inr (4, [.ref h, .ref d, .ref wc, .ref lt, .ref bu, .ref gb, .ref ve, .int (nI nb1), .int (nI 0), .int cr])), (out, .inl (G.2.2.1, 1, .inr (.inl ol)))] sv.heap := hP
  replace hl : lv_has ls 3 [(0, .ref x), (1, .ref out)] := hl
  refine lv_aload_n hx hb dL_sync_0 rfl (lv_at hl 1 rfl) ?_
  refine lv_iconst (v := nI 0) hx hb dL_sync_1 (by decide) ?_
  refine lv_aload_n hx hb dL_sync_2 rfl (lv_at hl 0 rfl) ?_
  refine fcX (As := []) (rest := [.int (nI 0), .ref out]) (wr := [(out, .inl (G.2.2.1, 1, .inr (.inl ol)))]) ⟨hx, hb, hml, hown, hts⟩ hK hE hP hD hS hA hl.1 (kX4_sync_x l G x wc wko lt bu gb ve h d nb1 cr hfl ) (cwV 0 hts (gdV wm_445 wm_446 wm_447 wm_23 wm_205) rfl rfl rfl (by decide +kernel) ⟨Nat.le_of_ble_eq_true rfl, Nat.le_of_ble_eq_true rfl⟩) 0 rfl rfl rfl rfl (Nat.le_of_ble_eq_true rfl) dL_sync_3 ⟨Nat.le_of_ble_eq_true rfl, Nat.le_of_ble_eq_true rfl⟩ [0] [1] [1, 0] rfl rfl rfl rfl (by decide) rfl rfl (fun q_3 ce_3 H_3 locs_3 hcell_3 hvm_3 hcl_3 hP_3 hD_3 hS_3 => ?_)
  replace hP : va_P G.1 vwCl [(x, .inr (4, [.ref h, .ref d, .ref wc, .ref lt, .ref bu, .ref gb, .ref ve, .int (nI nb1), .int (nI 0), .int cr])), (out, .inl (G.2.2.1, 1, .inr (.inl ol)))] H_3 := hP_3
  replace hD : va_D A [(x, .inr (4, [.ref h, .ref d, .ref wc, .ref lt, .ref bu, .ref gb, .ref ve, .int (nI nb1), .int (nI 0), .int cr])), (out, .inl (G.2.2.1, 1, .inr (.inl ol)))] := hD_3
  replace hS : va_S A sv.heap H_3 locs_3 := hS_3
  clear hP_3 hD_3 hS_3
  refine vx_catch (own := RL) (name := eIS) (E := eIS) hown [] (⟨0, 8, 11, 15⟩ : ExceptionTableEntry) [] (by rw [htab]; rfl) (fun z h9 => absurd h9 List.not_mem_nil) (by decide) (by decide) (hts _ wm_432) (va_Nw.use rfl hE.2.2.2.2.2.2.2.2.2.2.2.2.1) hcell_3 hvm_3 hcl_3 ?_
  refine lv_astore_n (lv' := [(2, .ref q_3), (0, .ref x), (1, .ref out)]) hx hb dL_sync_11 rfl hl (by decide) rfl (fun ls hl2 => ?_)
  replace hl := hl2; clear hl2
  refine lv_iconst (v := nI 1) hx hb dL_sync_12 (by decide) ?_
  exact hend (nI 1) () _ _ _ _ rfl rfl hP hD hS dL_sync_13

set_option maxRecDepth 100000 in
set_option maxHeartbeats 4000000 in
theorem kL_crash_x (l : Launch) (G : fG) (x : Nat) (wc : Nat) (wko : Nat) (lt : Nat) (bu : Nat) (gb : Nat) (ve : Nat) (h : Nat) (d : Nat) (nb1 : Nat) (up : Nat) (cr : Int32) (z : Int32) (out : Nat) (ol : Nat → Int64) (hfl : l.stackTraces = false) (hz : z < 0) : fMI l yL_crash (.codeWith yL_crash cL_crash 4 (some .int) [(0, 9, 12, 13)] :: wsA) ({ frames := 7, cells := 1, slots := 6, locals := 113 } : Room) G [.ref x, .int z, .ref out] [(x, .inr (4, [.ref h, .ref d, .ref wc, .ref lt, .ref bu, .ref gb, .ref ve, .int (nI nb1), .int (nI up), .int cr])), (out, .inl (G.2.2.1, 1, .inr (.inl ol)))] (fun (r9 : Int32) (u : Unit) => r9 = nI 1) (fun (u : Unit) => [(x, .inr (4, [.ref h, .ref d, .ref wc, .ref lt, .ref bu, .ref gb, .ref ve, .int (nI nb1), .int (nI up), .int cr])), (out, .inl (G.2.2.1, 1, .inr (.inl ol)))]) 1 6 := by
  refine fH_start (cc := cL_crash) (maxL := 4) (by decide) rfl (Nat.le_of_ble_eq_true rfl) ?_
  intro prg env sv mid args below meth cd A Q ls hx hb hml hown hts htab hK hP hD hE hA hS hl hend
  replace hown : sv.vm.findClass RL = some mid.cls := hown
  replace hP : va_P G.1 vwCl [(x, .inr (4, [.ref h, .ref d, .ref wc, .ref lt, .ref bu, .ref gb, .ref ve, .int (nI nb1), .int (nI up), .int cr])), (out, .inl (G.2.2.1, 1, .inr (.inl ol)))] sv.heap := hP
  replace hl : lv_has ls 4 [(0, .ref x), (1, .int z), (2, .ref out)] := hl
  refine lv_aload_n hx hb dL_crash_0 rfl (lv_at hl 2 rfl) ?_
  refine lv_iconst (v := nI 0) hx hb dL_crash_1 (by decide) ?_
  refine lv_aload_n hx hb dL_crash_2 rfl (lv_at hl 0 rfl) ?_
  refine lv_iload_n hx hb dL_crash_3 rfl (lv_at hl 1 rfl) ?_
  refine fcX (As := [.int z]) (rest := [.int (nI 0), .ref out]) (wr := [(out, .inl (G.2.2.1, 1, .inr (.inl ol)))]) ⟨hx, hb, hml, hown, hts⟩ hK hE hP hD hS hA hl.1 (kX4_crash_x l G x wc wko lt bu gb ve h d nb1 up cr z hfl hz) (cwV 1 hts (gdV wm_449 wm_450 wm_451 wm_23 wm_207) rfl rfl rfl (by decide +kernel) ⟨Nat.le_of_ble_eq_true rfl, Nat.le_of_ble_eq_true rfl⟩) 0 rfl rfl rfl rfl (Nat.le_of_ble_eq_true rfl) dL_crash_4 ⟨Nat.le_of_ble_eq_true rfl, Nat.le_of_ble_eq_true rfl⟩ [0] [1] [1, 0] rfl rfl rfl rfl (by decide) rfl rfl (fun q_4 ce_4 H_4 locs_4 hcell_4 hvm_4 hcl_4 hP_4 hD_4 hS_4 => ?_)
  replace hP : va_P G.1 vwCl [(x, .inr (4, [.ref h, .ref d, .ref wc, .ref lt, .ref bu, .ref gb, .ref ve, .int (nI nb1), .int (nI up), .int cr])), (out, .inl (G.2.2.1, 1, .inr (.inl ol)))] H_4 := hP_4
  replace hD : va_D A [(x, .inr (4, [.ref h, .ref d, .ref wc, .ref lt, .ref bu, .ref gb, .ref ve, .int (nI nb1), .int (nI up), .int cr])), (out, .inl (G.2.2.1, 1, .inr (.inl ol)))] := hD_4
  replace hS : va_S A sv.heap H_4 locs_4 := hS_4
  clear hP_4 hD_4 hS_4
  refine vx_catch (own := RL) (name := eIA) (E := eIA) hown [] (⟨0, 9, 12, 13⟩ : ExceptionTableEntry) [] (by rw [htab]; rfl) (fun z h9 => absurd h9 List.not_mem_nil) (by decide) (by decide) (hts _ wm_431) (va_Nw.use rfl hE.2.2.2.2.2.2.2.2.2.2.2.1) hcell_4 hvm_4 hcl_4 ?_
  refine lv_astore_n (lv' := [(3, .ref q_4), (0, .ref x), (1, .int z), (2, .ref out)]) hx hb dL_crash_12 rfl hl (by decide) rfl (fun ls hl2 => ?_)
  replace hl := hl2; clear hl2
  refine lv_iconst (v := nI 1) hx hb dL_crash_13 (by decide) ?_
  exact hend (nI 1) () _ _ _ _ rfl rfl hP hD hS dL_crash_14

set_option maxRecDepth 100000 in
set_option maxHeartbeats 4000000 in
theorem kL_recover_x (l : Launch) (G : fG) (x : Nat) (wc : Nat) (wko : Nat) (lt : Nat) (bu : Nat) (gb : Nat) (ve : Nat) (h : Nat) (d : Nat) (nb1 : Nat) (cr : Int32) (out : Nat) (ol : Nat → Int64) (hfl : l.stackTraces = false) : fMI l yL_recover (.codeWith yL_recover cL_recover 3 (some .int) [(0, 8, 11, 15)] :: wsA) ({ frames := 7, cells := 1, slots := 6, locals := 151 } : Room) G [.ref x, .ref out] [(x, .inr (4, [.ref h, .ref d, .ref wc, .ref lt, .ref bu, .ref gb, .ref ve, .int (nI nb1), .int (nI 1), .int cr])), (out, .inl (G.2.2.1, 1, .inr (.inl ol)))] (fun (r9 : Int32) (u : Unit) => r9 = nI 1) (fun (u : Unit) => [(x, .inr (4, [.ref h, .ref d, .ref wc, .ref lt, .ref bu, .ref gb, .ref ve, .int (nI nb1), .int (nI 1), .int cr])), (out, .inl (G.2.2.1, 1, .inr (.inl ol)))]) 1 6 := by
  refine fH_start (cc := cL_recover) (maxL := 3) (by decide) rfl (Nat.le_of_ble_eq_true rfl) ?_
  intro prg env sv mid args below meth cd A Q ls hx hb hml hown hts htab hK hP hD hE hA hS hl hend
  replace hown : sv.vm.findClass RL = some mid.cls := hown
  replace hP : va_P G.1 vwCl [(x, .inr (4, [.ref h, .ref d, .ref wc, .ref lt, .ref bu, .ref gb, .ref ve, .int (nI nb1), .int (nI 1), .int cr])), (out, .inl (G.2.2.1, 1, .inr (.inl ol)))] sv.heap := hP
  replace hl : lv_has ls 3 [(0, .ref x), (1, .ref out)] := hl
  refine lv_aload_n hx hb dL_recover_0 rfl (lv_at hl 1 rfl) ?_
  refine lv_iconst (v := nI 0) hx hb dL_recover_1 (by decide) ?_
  refine lv_aload_n hx hb dL_recover_2 rfl (lv_at hl 0 rfl) ?_
  refine fcX (As := []) (rest := [.int (nI 0), .ref out]) (wr := [(out, .inl (G.2.2.1, 1, .inr (.inl ol)))]) ⟨hx, hb, hml, hown, hts⟩ hK hE hP hD hS hA hl.1 (kX4_recover_x l G x wc wko lt bu gb ve h d nb1 cr hfl ) (cwV 0 hts (gdV wm_453 wm_454 wm_455 wm_23 wm_211) rfl rfl rfl (by decide +kernel) ⟨Nat.le_of_ble_eq_true rfl, Nat.le_of_ble_eq_true rfl⟩) 0 rfl rfl rfl rfl (Nat.le_of_ble_eq_true rfl) dL_recover_3 ⟨Nat.le_of_ble_eq_true rfl, Nat.le_of_ble_eq_true rfl⟩ [0] [1] [1, 0] rfl rfl rfl rfl (by decide) rfl rfl (fun q_3 ce_3 H_3 locs_3 hcell_3 hvm_3 hcl_3 hP_3 hD_3 hS_3 => ?_)
  replace hP : va_P G.1 vwCl [(x, .inr (4, [.ref h, .ref d, .ref wc, .ref lt, .ref bu, .ref gb, .ref ve, .int (nI nb1), .int (nI 1), .int cr])), (out, .inl (G.2.2.1, 1, .inr (.inl ol)))] H_3 := hP_3
  replace hD : va_D A [(x, .inr (4, [.ref h, .ref d, .ref wc, .ref lt, .ref bu, .ref gb, .ref ve, .int (nI nb1), .int (nI 1), .int cr])), (out, .inl (G.2.2.1, 1, .inr (.inl ol)))] := hD_3
  replace hS : va_S A sv.heap H_3 locs_3 := hS_3
  clear hP_3 hD_3 hS_3
  refine vx_catch (own := RL) (name := eIS) (E := eIS) hown [] (⟨0, 8, 11, 15⟩ : ExceptionTableEntry) [] (by rw [htab]; rfl) (fun z h9 => absurd h9 List.not_mem_nil) (by decide) (by decide) (hts _ wm_432) (va_Nw.use rfl hE.2.2.2.2.2.2.2.2.2.2.2.2.1) hcell_3 hvm_3 hcl_3 ?_
  refine lv_astore_n (lv' := [(2, .ref q_3), (0, .ref x), (1, .ref out)]) hx hb dL_recover_11 rfl hl (by decide) rfl (fun ls hl2 => ?_)
  replace hl := hl2; clear hl2
  refine lv_iconst (v := nI 1) hx hb dL_recover_12 (by decide) ?_
  exact hend (nI 1) () _ _ _ _ rfl rfl hP hD hS dL_recover_13

set_option maxRecDepth 100000 in
set_option maxHeartbeats 4000000 in
theorem kL_told_x (l : Launch) (G : fG) (x : Nat) (wc : Nat) (wko : Nat) (lt : Nat) (bu : Nat) (gb : Nat) (ve : Nat) (h : Nat) (d : Nat) (nb1 : Nat) (up : Nat) (cr : Int32) (z : Int32) (out : Nat) (ol : Nat → Int64) (hfl : l.stackTraces = false) (hz : z < 0 ∨ nI 4 < z) : fMI l yL_told (.codeWith yL_told cL_told 4 (some .int) [(0, 9, 12, 13)] :: wsA) ({ frames := 7, cells := 1, slots := 6, locals := 111 } : Room) G [.ref x, .int z, .ref out] [(x, .inr (4, [.ref h, .ref d, .ref wc, .ref lt, .ref bu, .ref gb, .ref ve, .int (nI nb1), .int (nI up), .int cr])), (out, .inl (G.2.2.1, 1, .inr (.inl ol)))] (fun (r9 : Int32) (u : Unit) => r9 = nI 1) (fun (u : Unit) => [(x, .inr (4, [.ref h, .ref d, .ref wc, .ref lt, .ref bu, .ref gb, .ref ve, .int (nI nb1), .int (nI up), .int cr])), (out, .inl (G.2.2.1, 1, .inr (.inl ol)))]) 1 6 := by
  refine fH_start (cc := cL_told) (maxL := 4) (by decide) rfl (Nat.le_of_ble_eq_true rfl) ?_
  intro prg env sv mid args below meth cd A Q ls hx hb hml hown hts htab hK hP hD hE hA hS hl hend
  replace hown : sv.vm.findClass RL = some mid.cls := hown
  replace hP : va_P G.1 vwCl [(x, .inr (4, [.ref h, .ref d, .ref wc, .ref lt, .ref bu, .ref gb, .ref ve, .int (nI nb1), .int (nI up), .int cr])), (out, .inl (G.2.2.1, 1, .inr (.inl ol)))] sv.heap := hP
  replace hl : lv_has ls 4 [(0, .ref x), (1, .int z), (2, .ref out)] := hl
  refine lv_aload_n hx hb dL_told_0 rfl (lv_at hl 2 rfl) ?_
  refine lv_iconst (v := nI 0) hx hb dL_told_1 (by decide) ?_
  refine lv_aload_n hx hb dL_told_2 rfl (lv_at hl 0 rfl) ?_
  refine lv_iload_n hx hb dL_told_3 rfl (lv_at hl 1 rfl) ?_
  refine fcX (As := [.int z]) (rest := [.int (nI 0), .ref out]) (wr := [(out, .inl (G.2.2.1, 1, .inr (.inl ol)))]) ⟨hx, hb, hml, hown, hts⟩ hK hE hP hD hS hA hl.1 (kX4_told_x l G x wc wko lt bu gb ve h d nb1 up cr z hfl hz) (cwV 1 hts (gdV wm_457 wm_458 wm_459 wm_23 wm_223) rfl rfl rfl (by decide +kernel) ⟨Nat.le_of_ble_eq_true rfl, Nat.le_of_ble_eq_true rfl⟩) 0 rfl rfl rfl rfl (Nat.le_of_ble_eq_true rfl) dL_told_4 ⟨Nat.le_of_ble_eq_true rfl, Nat.le_of_ble_eq_true rfl⟩ [0] [1] [1, 0] rfl rfl rfl rfl (by decide) rfl rfl (fun q_4 ce_4 H_4 locs_4 hcell_4 hvm_4 hcl_4 hP_4 hD_4 hS_4 => ?_)
  replace hP : va_P G.1 vwCl [(x, .inr (4, [.ref h, .ref d, .ref wc, .ref lt, .ref bu, .ref gb, .ref ve, .int (nI nb1), .int (nI up), .int cr])), (out, .inl (G.2.2.1, 1, .inr (.inl ol)))] H_4 := hP_4
  replace hD : va_D A [(x, .inr (4, [.ref h, .ref d, .ref wc, .ref lt, .ref bu, .ref gb, .ref ve, .int (nI nb1), .int (nI up), .int cr])), (out, .inl (G.2.2.1, 1, .inr (.inl ol)))] := hD_4
  replace hS : va_S A sv.heap H_4 locs_4 := hS_4
  clear hP_4 hD_4 hS_4
  refine vx_catch (own := RL) (name := eIA) (E := eIA) hown [] (⟨0, 9, 12, 13⟩ : ExceptionTableEntry) [] (by rw [htab]; rfl) (fun z h9 => absurd h9 List.not_mem_nil) (by decide) (by decide) (hts _ wm_431) (va_Nw.use rfl hE.2.2.2.2.2.2.2.2.2.2.2.1) hcell_4 hvm_4 hcl_4 ?_
  refine lv_astore_n (lv' := [(3, .ref q_4), (0, .ref x), (1, .int z), (2, .ref out)]) hx hb dL_told_12 rfl hl (by decide) rfl (fun ls hl2 => ?_)
  replace hl := hl2; clear hl2
  refine lv_iconst (v := nI 1) hx hb dL_told_13 (by decide) ?_
  exact hend (nI 1) () _ _ _ _ rfl rfl hP hD hS dL_told_14

set_option maxRecDepth 100000 in
set_option maxHeartbeats 4000000 in
theorem kL_record_x (l : Launch) (G : fG) (x : Nat) (wc : Nat) (wko : Nat) (lt : Nat) (bu : Nat) (gb : Nat) (ve : Nat) (h : Nat) (d : Nat) (nb1 : Nat) (up : Nat) (cr : Int32) (r : Int32) (z : Int32) (out : Nat) (ol : Nat → Int64) (hfl : l.stackTraces = false) (hz : z < 0 ∨ nI 42 < z) : fMI l yL_record (.codeWith yL_record cL_record 5 (some .int) [(0, 10, 13, 13)] :: wsA) ({ frames := 7, cells := 1, slots := 6, locals := 112 } : Room) G [.ref x, .int r, .int z, .ref out] [(x, .inr (4, [.ref h, .ref d, .ref wc, .ref lt, .ref bu, .ref gb, .ref ve, .int (nI nb1), .int (nI up), .int cr])), (out, .inl (G.2.2.1, 1, .inr (.inl ol)))] (fun (r9 : Int32) (u : Unit) => r9 = nI 1) (fun (u : Unit) => [(x, .inr (4, [.ref h, .ref d, .ref wc, .ref lt, .ref bu, .ref gb, .ref ve, .int (nI nb1), .int (nI up), .int cr])), (out, .inl (G.2.2.1, 1, .inr (.inl ol)))]) 1 6 := by
  refine fH_start (cc := cL_record) (maxL := 5) (by decide) rfl (Nat.le_of_ble_eq_true rfl) ?_
  intro prg env sv mid args below meth cd A Q ls hx hb hml hown hts htab hK hP hD hE hA hS hl hend
  replace hown : sv.vm.findClass RL = some mid.cls := hown
  replace hP : va_P G.1 vwCl [(x, .inr (4, [.ref h, .ref d, .ref wc, .ref lt, .ref bu, .ref gb, .ref ve, .int (nI nb1), .int (nI up), .int cr])), (out, .inl (G.2.2.1, 1, .inr (.inl ol)))] sv.heap := hP
  replace hl : lv_has ls 5 [(0, .ref x), (1, .int r), (2, .int z), (3, .ref out)] := hl
  refine lv_aload_n hx hb dL_record_0 rfl (lv_at hl 3 rfl) ?_
  refine lv_iconst (v := nI 0) hx hb dL_record_1 (by decide) ?_
  refine lv_aload_n hx hb dL_record_2 rfl (lv_at hl 0 rfl) ?_
  refine lv_iload_n hx hb dL_record_3 rfl (lv_at hl 1 rfl) ?_
  refine lv_iload_n hx hb dL_record_4 rfl (lv_at hl 2 rfl) ?_
  refine fcX (As := [.int r, .int z]) (rest := [.int (nI 0), .ref out]) (wr := [(out, .inl (G.2.2.1, 1, .inr (.inl ol)))]) ⟨hx, hb, hml, hown, hts⟩ hK hE hP hD hS hA hl.1 (kX4_record_x l G x wc wko lt bu gb ve h d nb1 up cr r z hfl hz) (cwV 2 hts (gdV wm_461 wm_462 wm_463 wm_23 wm_227) rfl rfl rfl (by decide +kernel) ⟨Nat.le_of_ble_eq_true rfl, Nat.le_of_ble_eq_true rfl⟩) 0 rfl rfl rfl rfl (Nat.le_of_ble_eq_true rfl) dL_record_5 ⟨Nat.le_of_ble_eq_true rfl, Nat.le_of_ble_eq_true rfl⟩ [0] [1] [1, 0] rfl rfl rfl rfl (by decide) rfl rfl (fun q_5 ce_5 H_5 locs_5 hcell_5 hvm_5 hcl_5 hP_5 hD_5 hS_5 => ?_)
  replace hP : va_P G.1 vwCl [(x, .inr (4, [.ref h, .ref d, .ref wc, .ref lt, .ref bu, .ref gb, .ref ve, .int (nI nb1), .int (nI up), .int cr])), (out, .inl (G.2.2.1, 1, .inr (.inl ol)))] H_5 := hP_5
  replace hD : va_D A [(x, .inr (4, [.ref h, .ref d, .ref wc, .ref lt, .ref bu, .ref gb, .ref ve, .int (nI nb1), .int (nI up), .int cr])), (out, .inl (G.2.2.1, 1, .inr (.inl ol)))] := hD_5
  replace hS : va_S A sv.heap H_5 locs_5 := hS_5
  clear hP_5 hD_5 hS_5
  refine vx_catch (own := RL) (name := eIA) (E := eIA) hown [] (⟨0, 10, 13, 13⟩ : ExceptionTableEntry) [] (by rw [htab]; rfl) (fun z h9 => absurd h9 List.not_mem_nil) (by decide) (by decide) (hts _ wm_431) (va_Nw.use rfl hE.2.2.2.2.2.2.2.2.2.2.2.1) hcell_5 hvm_5 hcl_5 ?_
  refine lv_astore (lv' := [(4, .ref q_5), (0, .ref x), (1, .int r), (2, .int z), (3, .ref out)]) hx hb dL_record_13 hl (by decide) rfl (fun ls hl2 => ?_)
  replace hl := hl2; clear hl2
  refine lv_iconst (v := nI 1) hx hb dL_record_15 (by decide) ?_
  exact hend (nI 1) () _ _ _ _ rfl rfl hP hD hS dL_record_16

set_option maxRecDepth 100000 in
set_option maxHeartbeats 4000000 in
theorem kL_bend_x1 (l : Launch) (G : fG) (x : Nat) (wc : Nat) (wko : Nat) (lt : Nat) (bu : Nat) (gb : Nat) (ve : Nat) (h : Nat) (nb1 : Nat) (up : Nat) (cr : Int32) (d : Nat) (o : Nat) (g : Nat → UInt8) (n : Nat) (y : Nat) (z : Int32) (w : Int32) (out : Nat) (ol : Nat → Int64) (hfl : l.stackTraces = false) (hn : n ≤ 1200) (hz : hasB n z = false) : fMI l yL_bend (.codeWith yL_bend cL_bend 5 (some .int) [(0, 10, 13, 44), (0, 10, 17, 13)] :: wsA) ({ frames := 7, cells := 1, slots := 6, locals := 112 } : Room) G [.ref x, .int z, .int w, .ref out] [(x, .inr (4, [.ref h, .ref d, .ref wc, .ref lt, .ref bu, .ref gb, .ref ve, .int (nI nb1), .int (nI up), .int cr])), (d, .inr (0, [.ref o, .int (nI n), .int (nI y)])), (o, .inl (G.2.1, 1200, .inl (nb g))), (out, .inl (G.2.2.1, 1, .inr (.inl ol)))] (fun (r9 : Int32) (u : Unit) => r9 = nI 1) (fun (u : Unit) => [(x, .inr (4, [.ref h, .ref d, .ref wc, .ref lt, .ref bu, .ref gb, .ref ve, .int (nI nb1), .int (nI up), .int cr])), (d, .inr (0, [.ref o, .int (nI n), .int (nI y)])), (o, .inl (G.2.1, 1200, .inl (nb g))), (out, .inl (G.2.2.1, 1, .inr (.inl ol)))]) 1 6 := by
  refine fH_start (cc := cL_bend) (maxL := 5) (by decide) rfl (Nat.le_of_ble_eq_true rfl) ?_
  intro prg env sv mid args below meth cd A Q ls hx hb hml hown hts htab hK hP hD hE hA hS hl hend
  replace hown : sv.vm.findClass RL = some mid.cls := hown
  replace hP : va_P G.1 vwCl [(x, .inr (4, [.ref h, .ref d, .ref wc, .ref lt, .ref bu, .ref gb, .ref ve, .int (nI nb1), .int (nI up), .int cr])), (d, .inr (0, [.ref o, .int (nI n), .int (nI y)])), (o, .inl (G.2.1, 1200, .inl (nb g))), (out, .inl (G.2.2.1, 1, .inr (.inl ol)))] sv.heap := hP
  replace hl : lv_has ls 5 [(0, .ref x), (1, .int z), (2, .int w), (3, .ref out)] := hl
  refine lv_aload_n hx hb dL_bend_0 rfl (lv_at hl 3 rfl) ?_
  refine lv_iconst (v := nI 0) hx hb dL_bend_1 (by decide) ?_
  refine lv_aload_n hx hb dL_bend_2 rfl (lv_at hl 0 rfl) ?_
  refine lv_iload_n hx hb dL_bend_3 rfl (lv_at hl 1 rfl) ?_
  refine lv_iload_n hx hb dL_bend_4 rfl (lv_at hl 2 rfl) ?_
  refine fcX (As := [.int z, .int w]) (rest := [.int (nI 0), .ref out]) (wr := [(out, .inl (G.2.2.1, 1, .inr (.inl ol)))]) ⟨hx, hb, hml, hown, hts⟩ hK hE hP hD hS hA hl.1 (kX4_bend_x1 l G x wc wko lt bu gb ve h nb1 up cr d o g n y z w hfl hn hz) (cwV 2 hts (gdV wm_466 wm_467 wm_468 wm_23 wm_229) rfl rfl rfl (by decide +kernel) ⟨Nat.le_of_ble_eq_true rfl, Nat.le_of_ble_eq_true rfl⟩) 0 rfl rfl rfl rfl (Nat.le_of_ble_eq_true rfl) dL_bend_5 ⟨Nat.le_of_ble_eq_true rfl, Nat.le_of_ble_eq_true rfl⟩ [0, 1, 2] [3] [1, 2, 3, 0] rfl rfl rfl rfl (by decide) rfl rfl (fun q_5 ce_5 H_5 locs_5 hcell_5 hvm_5 hcl_5 hP_5 hD_5 hS_5 => ?_)
  replace hP : va_P G.1 vwCl [(x, .inr (4, [.ref h, .ref d, .ref wc, .ref lt, .ref bu, .ref gb, .ref ve, .int (nI nb1), .int (nI up), .int cr])), (d, .inr (0, [.ref o, .int (nI n), .int (nI y)])), (o, .inl (G.2.1, 1200, .inl (nb g))), (out, .inl (G.2.2.1, 1, .inr (.inl ol)))] H_5 := hP_5
  replace hD : va_D A [(x, .inr (4, [.ref h, .ref d, .ref wc, .ref lt, .ref bu, .ref gb, .ref ve, .int (nI nb1), .int (nI up), .int cr])), (d, .inr (0, [.ref o, .int (nI n), .int (nI y)])), (o, .inl (G.2.1, 1200, .inl (nb g))), (out, .inl (G.2.2.1, 1, .inr (.inl ol)))] := hD_5
  replace hS : va_S A sv.heap H_5 locs_5 := hS_5
  clear hP_5 hD_5 hS_5
  refine vx_catch (own := RL) (name := eIB) (E := eIB) hown [] (⟨0, 10, 13, 44⟩ : ExceptionTableEntry) [(⟨0, 10, 17, 13⟩ : ExceptionTableEntry)] (by rw [htab]; rfl) (fun z h9 => absurd h9 List.not_mem_nil) (by decide) (by decide) (hts _ wm_465) (va_Nw.use rfl hE.2.2.2.2.2.2.2.2.2.2.2.2.2.1) hcell_5 hvm_5 hcl_5 ?_
  refine lv_astore (lv' := [(4, .ref q_5), (0, .ref x), (1, .int z), (2, .int w), (3, .ref out)]) hx hb dL_bend_13 hl (by decide) rfl (fun ls hl2 => ?_)
  replace hl := hl2; clear hl2
  refine lv_iconst (v := nI 1) hx hb dL_bend_15 (by decide) ?_
  exact hend (nI 1) () _ _ _ _ rfl rfl hP hD hS dL_bend_16

set_option maxRecDepth 100000 in
set_option maxHeartbeats 4000000 in
theorem kL_bend_x2 (l : Launch) (G : fG) (x : Nat) (wc : Nat) (wko : Nat) (lt : Nat) (bu : Nat) (gb : Nat) (ve : Nat) (h : Nat) (nb1 : Nat) (up : Nat) (cr : Int32) (d : Nat) (o : Nat) (g : Nat → UInt8) (n : Nat) (y : Nat) (w : Int32) (z : Int32) (out : Nat) (ol : Nat → Int64) (hfl : l.stackTraces = false) (hn : n ≤ 1200) (hh : hasB n w = true) (hz : z < 0 ∨ nI 7 < z) : fMI l yL_bend (.codeWith yL_bend cL_bend 5 (some .int) [(0, 10, 13, 44), (0, 10, 17, 13)] :: wsA) ({ frames := 7, cells := 1, slots := 6, locals := 112 } : Room) G [.ref x, .int w, .int z, .ref out] [(x, .inr (4, [.ref h, .ref d, .ref wc, .ref lt, .ref bu, .ref gb, .ref ve, .int (nI nb1), .int (nI up), .int cr])), (d, .inr (0, [.ref o, .int (nI n), .int (nI y)])), (o, .inl (G.2.1, 1200, .inl (nb g))), (out, .inl (G.2.2.1, 1, .inr (.inl ol)))] (fun (r9 : Int32) (u : Unit) => r9 = nI 2) (fun (u : Unit) => [(x, .inr (4, [.ref h, .ref d, .ref wc, .ref lt, .ref bu, .ref gb, .ref ve, .int (nI nb1), .int (nI up), .int cr])), (d, .inr (0, [.ref o, .int (nI n), .int (nI y)])), (o, .inl (G.2.1, 1200, .inl (nb g))), (out, .inl (G.2.2.1, 1, .inr (.inl ol)))]) 1 6 := by
  refine fH_start (cc := cL_bend) (maxL := 5) (by decide) rfl (Nat.le_of_ble_eq_true rfl) ?_
  intro prg env sv mid args below meth cd A Q ls hx hb hml hown hts htab hK hP hD hE hA hS hl hend
  replace hown : sv.vm.findClass RL = some mid.cls := hown
  replace hP : va_P G.1 vwCl [(x, .inr (4, [.ref h, .ref d, .ref wc, .ref lt, .ref bu, .ref gb, .ref ve, .int (nI nb1), .int (nI up), .int cr])), (d, .inr (0, [.ref o, .int (nI n), .int (nI y)])), (o, .inl (G.2.1, 1200, .inl (nb g))), (out, .inl (G.2.2.1, 1, .inr (.inl ol)))] sv.heap := hP
  replace hl : lv_has ls 5 [(0, .ref x), (1, .int w), (2, .int z), (3, .ref out)] := hl
  refine lv_aload_n hx hb dL_bend_0 rfl (lv_at hl 3 rfl) ?_
  refine lv_iconst (v := nI 0) hx hb dL_bend_1 (by decide) ?_
  refine lv_aload_n hx hb dL_bend_2 rfl (lv_at hl 0 rfl) ?_
  refine lv_iload_n hx hb dL_bend_3 rfl (lv_at hl 1 rfl) ?_
  refine lv_iload_n hx hb dL_bend_4 rfl (lv_at hl 2 rfl) ?_
  refine fcX (As := [.int w, .int z]) (rest := [.int (nI 0), .ref out]) (wr := [(out, .inl (G.2.2.1, 1, .inr (.inl ol)))]) ⟨hx, hb, hml, hown, hts⟩ hK hE hP hD hS hA hl.1 (kX4_bend_x2 l G x wc wko lt bu gb ve h nb1 up cr d o g n y w z hfl hn hh hz) (cwV 2 hts (gdV wm_466 wm_467 wm_468 wm_23 wm_229) rfl rfl rfl (by decide +kernel) ⟨Nat.le_of_ble_eq_true rfl, Nat.le_of_ble_eq_true rfl⟩) 0 rfl rfl rfl rfl (Nat.le_of_ble_eq_true rfl) dL_bend_5 ⟨Nat.le_of_ble_eq_true rfl, Nat.le_of_ble_eq_true rfl⟩ [0, 1, 2] [3] [1, 2, 3, 0] rfl rfl rfl rfl (by decide) rfl rfl (fun q_5 ce_5 H_5 locs_5 hcell_5 hvm_5 hcl_5 hP_5 hD_5 hS_5 => ?_)
  replace hP : va_P G.1 vwCl [(x, .inr (4, [.ref h, .ref d, .ref wc, .ref lt, .ref bu, .ref gb, .ref ve, .int (nI nb1), .int (nI up), .int cr])), (d, .inr (0, [.ref o, .int (nI n), .int (nI y)])), (o, .inl (G.2.1, 1200, .inl (nb g))), (out, .inl (G.2.2.1, 1, .inr (.inl ol)))] H_5 := hP_5
  replace hD : va_D A [(x, .inr (4, [.ref h, .ref d, .ref wc, .ref lt, .ref bu, .ref gb, .ref ve, .int (nI nb1), .int (nI up), .int cr])), (d, .inr (0, [.ref o, .int (nI n), .int (nI y)])), (o, .inl (G.2.1, 1200, .inl (nb g))), (out, .inl (G.2.2.1, 1, .inr (.inl ol)))] := hD_5
  replace hS : va_S A sv.heap H_5 locs_5 := hS_5
  clear hP_5 hD_5 hS_5
  refine vx_catch (own := RL) (name := eIA) (E := eIA) hown [(⟨0, 10, 13, 44⟩ : ExceptionTableEntry)] (⟨0, 10, 17, 13⟩ : ExceptionTableEntry) [] (by rw [htab]; rfl) (fun z h9 => by rw [List.mem_singleton.mp h9]; exact Or.inr ⟨by decide, eIB, (hts _ wm_465), hE.2.2.2.2.2.2.2.2.2.2.2.2.2.2.2.1⟩) (by decide) (by decide) (hts _ wm_431) (va_Nw.use rfl hE.2.2.2.2.2.2.2.2.2.2.2.1) hcell_5 hvm_5 hcl_5 ?_
  refine lv_astore (lv' := [(4, .ref q_5), (0, .ref x), (1, .int w), (2, .int z), (3, .ref out)]) hx hb dL_bend_17 hl (by decide) rfl (fun ls hl2 => ?_)
  replace hl := hl2; clear hl2
  refine lv_iconst (v := nI 2) hx hb dL_bend_19 (by decide) ?_
  exact hend (nI 2) () _ _ _ _ rfl rfl hP hD hS dL_bend_20

set_option maxRecDepth 100000 in
set_option maxHeartbeats 4000000 in
theorem kL_key_x (l : Launch) (G : fG) (x : Nat) (wc : Nat) (wko : Nat) (lt : Nat) (bu : Nat) (gb : Nat) (ve : Nat) (h : Nat) (d : Nat) (nb1 : Nat) (up : Nat) (cr : Int32) (z : Int32) (out : Nat) (ol : Nat → Int64) (hfl : l.stackTraces = false) (hz : z < 0 ∨ nI 16 ≤ z) : fMI l yL_key (.codeWith yL_key cL_key 4 (some .int) [(0, 9, 12, 13)] :: wsA) ({ frames := 7, cells := 1, slots := 6, locals := 111 } : Room) G [.ref x, .int z, .ref out] [(x, .inr (4, [.ref h, .ref d, .ref wc, .ref lt, .ref bu, .ref gb, .ref ve, .int (nI nb1), .int (nI up), .int cr])), (out, .inl (G.2.2.1, 1, .inr (.inl ol)))] (fun (r9 : Int32) (u : Unit) => r9 = nI 1) (fun (u : Unit) => [(x, .inr (4, [.ref h, .ref d, .ref wc, .ref lt, .ref bu, .ref gb, .ref ve, .int (nI nb1), .int (nI up), .int cr])), (out, .inl (G.2.2.1, 1, .inr (.inl ol)))]) 1 6 := by
  refine fH_start (cc := cL_key) (maxL := 4) (by decide) rfl (Nat.le_of_ble_eq_true rfl) ?_
  intro prg env sv mid args below meth cd A Q ls hx hb hml hown hts htab hK hP hD hE hA hS hl hend
  replace hown : sv.vm.findClass RL = some mid.cls := hown
  replace hP : va_P G.1 vwCl [(x, .inr (4, [.ref h, .ref d, .ref wc, .ref lt, .ref bu, .ref gb, .ref ve, .int (nI nb1), .int (nI up), .int cr])), (out, .inl (G.2.2.1, 1, .inr (.inl ol)))] sv.heap := hP
  replace hl : lv_has ls 4 [(0, .ref x), (1, .int z), (2, .ref out)] := hl
  refine lv_aload_n hx hb dL_key_0 rfl (lv_at hl 2 rfl) ?_
  refine lv_iconst (v := nI 0) hx hb dL_key_1 (by decide) ?_
  refine lv_aload_n hx hb dL_key_2 rfl (lv_at hl 0 rfl) ?_
  refine lv_iload_n hx hb dL_key_3 rfl (lv_at hl 1 rfl) ?_
  refine fcX (As := [.int z]) (rest := [.int (nI 0), .ref out]) (wr := [(out, .inl (G.2.2.1, 1, .inr (.inl ol)))]) ⟨hx, hb, hml, hown, hts⟩ hK hE hP hD hS hA hl.1 (kX4_key_x l G x wc wko lt bu gb ve h d nb1 up cr z hfl hz) (cwV 1 hts (gdV wm_470 wm_471 wm_472 wm_23 wm_238) rfl rfl rfl (by decide +kernel) ⟨Nat.le_of_ble_eq_true rfl, Nat.le_of_ble_eq_true rfl⟩) 0 rfl rfl rfl rfl (Nat.le_of_ble_eq_true rfl) dL_key_4 ⟨Nat.le_of_ble_eq_true rfl, Nat.le_of_ble_eq_true rfl⟩ [0] [1] [1, 0] rfl rfl rfl rfl (by decide) rfl rfl (fun q_4 ce_4 H_4 locs_4 hcell_4 hvm_4 hcl_4 hP_4 hD_4 hS_4 => ?_)
  replace hP : va_P G.1 vwCl [(x, .inr (4, [.ref h, .ref d, .ref wc, .ref lt, .ref bu, .ref gb, .ref ve, .int (nI nb1), .int (nI up), .int cr])), (out, .inl (G.2.2.1, 1, .inr (.inl ol)))] H_4 := hP_4
  replace hD : va_D A [(x, .inr (4, [.ref h, .ref d, .ref wc, .ref lt, .ref bu, .ref gb, .ref ve, .int (nI nb1), .int (nI up), .int cr])), (out, .inl (G.2.2.1, 1, .inr (.inl ol)))] := hD_4
  replace hS : va_S A sv.heap H_4 locs_4 := hS_4
  clear hP_4 hD_4 hS_4
  refine vx_catch (own := RL) (name := eIA) (E := eIA) hown [] (⟨0, 9, 12, 13⟩ : ExceptionTableEntry) [] (by rw [htab]; rfl) (fun z h9 => absurd h9 List.not_mem_nil) (by decide) (by decide) (hts _ wm_431) (va_Nw.use rfl hE.2.2.2.2.2.2.2.2.2.2.2.1) hcell_4 hvm_4 hcl_4 ?_
  refine lv_astore_n (lv' := [(3, .ref q_4), (0, .ref x), (1, .int z), (2, .ref out)]) hx hb dL_key_12 rfl hl (by decide) rfl (fun ls hl2 => ?_)
  replace hl := hl2; clear hl2
  refine lv_iconst (v := nI 1) hx hb dL_key_13 (by decide) ?_
  exact hend (nI 1) () _ _ _ _ rfl rfl hP hD hS dL_key_14

set_option maxRecDepth 100000 in
set_option maxHeartbeats 4000000 in
theorem kL_count_x (l : Launch) (G : fG) (x : Nat) (wc : Nat) (wko : Nat) (lt : Nat) (bu : Nat) (gb : Nat) (ve : Nat) (h : Nat) (d : Nat) (nb1 : Nat) (up : Nat) (cr : Int32) (z : Int32) (out : Nat) (ol : Nat → Int64) (hfl : l.stackTraces = false) (hz : z.toInt < 0 ∨ 5 < z.toInt) : fMI l yL_count (.codeWith yL_count cL_count 4 (some .int) [(0, 9, 12, 13)] :: wsA) ({ frames := 7, cells := 1, slots := 6, locals := 111 } : Room) G [.ref x, .int z, .ref out] [(x, .inr (4, [.ref h, .ref d, .ref wc, .ref lt, .ref bu, .ref gb, .ref ve, .int (nI nb1), .int (nI up), .int cr])), (out, .inl (G.2.2.1, 1, .inr (.inl ol)))] (fun (r9 : Int32) (u : Unit) => r9 = nI 1) (fun (u : Unit) => [(x, .inr (4, [.ref h, .ref d, .ref wc, .ref lt, .ref bu, .ref gb, .ref ve, .int (nI nb1), .int (nI up), .int cr])), (out, .inl (G.2.2.1, 1, .inr (.inl ol)))]) 1 6 := by
  refine fH_start (cc := cL_count) (maxL := 4) (by decide) rfl (Nat.le_of_ble_eq_true rfl) ?_
  intro prg env sv mid args below meth cd A Q ls hx hb hml hown hts htab hK hP hD hE hA hS hl hend
  replace hown : sv.vm.findClass RL = some mid.cls := hown
  replace hP : va_P G.1 vwCl [(x, .inr (4, [.ref h, .ref d, .ref wc, .ref lt, .ref bu, .ref gb, .ref ve, .int (nI nb1), .int (nI up), .int cr])), (out, .inl (G.2.2.1, 1, .inr (.inl ol)))] sv.heap := hP
  replace hl : lv_has ls 4 [(0, .ref x), (1, .int z), (2, .ref out)] := hl
  refine lv_aload_n hx hb dL_count_0 rfl (lv_at hl 2 rfl) ?_
  refine lv_iconst (v := nI 0) hx hb dL_count_1 (by decide) ?_
  refine lv_aload_n hx hb dL_count_2 rfl (lv_at hl 0 rfl) ?_
  refine lv_iload_n hx hb dL_count_3 rfl (lv_at hl 1 rfl) ?_
  refine fcX (As := [.int z]) (rest := [.int (nI 0), .ref out]) (wr := [(out, .inl (G.2.2.1, 1, .inr (.inl ol)))]) ⟨hx, hb, hml, hown, hts⟩ hK hE hP hD hS hA hl.1 (kX4_count_x l G x wc wko lt bu gb ve h d nb1 up cr z hfl hz) (cwV 1 hts (gdV wm_474 wm_475 wm_476 wm_23 wm_240) rfl rfl rfl (by decide +kernel) ⟨Nat.le_of_ble_eq_true rfl, Nat.le_of_ble_eq_true rfl⟩) 0 rfl rfl rfl rfl (Nat.le_of_ble_eq_true rfl) dL_count_4 ⟨Nat.le_of_ble_eq_true rfl, Nat.le_of_ble_eq_true rfl⟩ [0] [1] [1, 0] rfl rfl rfl rfl (by decide) rfl rfl (fun q_4 ce_4 H_4 locs_4 hcell_4 hvm_4 hcl_4 hP_4 hD_4 hS_4 => ?_)
  replace hP : va_P G.1 vwCl [(x, .inr (4, [.ref h, .ref d, .ref wc, .ref lt, .ref bu, .ref gb, .ref ve, .int (nI nb1), .int (nI up), .int cr])), (out, .inl (G.2.2.1, 1, .inr (.inl ol)))] H_4 := hP_4
  replace hD : va_D A [(x, .inr (4, [.ref h, .ref d, .ref wc, .ref lt, .ref bu, .ref gb, .ref ve, .int (nI nb1), .int (nI up), .int cr])), (out, .inl (G.2.2.1, 1, .inr (.inl ol)))] := hD_4
  replace hS : va_S A sv.heap H_4 locs_4 := hS_4
  clear hP_4 hD_4 hS_4
  refine vx_catch (own := RL) (name := eIA) (E := eIA) hown [] (⟨0, 9, 12, 13⟩ : ExceptionTableEntry) [] (by rw [htab]; rfl) (fun z h9 => absurd h9 List.not_mem_nil) (by decide) (by decide) (hts _ wm_431) (va_Nw.use rfl hE.2.2.2.2.2.2.2.2.2.2.2.1) hcell_4 hvm_4 hcl_4 ?_
  refine lv_astore_n (lv' := [(3, .ref q_4), (0, .ref x), (1, .int z), (2, .ref out)]) hx hb dL_count_12 rfl hl (by decide) rfl (fun ls hl2 => ?_)
  replace hl := hl2; clear hl2
  refine lv_iconst (v := nI 1) hx hb dL_count_13 (by decide) ?_
  exact hend (nI 1) () _ _ _ _ rfl rfl hP hD hS dL_count_14
