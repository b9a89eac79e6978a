set_option maxRecDepth 100000 in
set_option maxHeartbeats 8000000 in
/-- the law's loop: from its head to its end, whatever the script says -/
theorem law_loop {prg : Program} {l : Launch} {env : Env} {sv : State} {mid : MethodId} {args : Array Value} {below : List Frame} {meth : Method} {cd : Code} {G : fG} {A : Nat → Prop} {Q : State → Prop} {b L : Nat} {sq : Nat → Int32} {x h tx1 sc st d o wc wko lt bu gb ve c ko tb sd so bg ix mo xd xb xk xl xt xw xs xg xy xe xc xf xn out : Nat} (C0 : LCx prg l sv mid args cd G A b L sq) (hend : ∀ (cells slots : Nat) (H : Heap) (locs : List Loc) (ls : Array Slot), cells ≤ 176 → slots ≤ 7144 → va_S A sv.heap H locs → W prg l env room_1 sv mid args below meth cd H locs cells slots Q (F0 mid 920 ls [])) : ∀ (m k : Nat), k ≤ 64 → 64 - k < m → LIn prg l env sv mid args below meth cd G A Q b L sq x h tx1 sc st d o wc wko lt bu gb ve c ko tb sd so bg ix mo xd xb xk xl xt xw xs xg xy xe xc xf xn out k (35 + k) (6042 + 6 * k) 23 := by
  intro m
  induction m with
  | zero => intro k _ h; exact absurd h (Nat.not_lt_zero _)
  | succ m ih =>
    intro k hk hm
    obtain ⟨hx, hb, hml, hown, hts, hX, hbl, hbA, hK, hE, hA, hfl, hL⟩ := id C0
    have hgo : 6 * k + 6 ≤ L → LGo prg l env sv mid args below meth cd G A Q b L sq x h tx1 sc st d o wc wko lt bu gb ve c ko tb sd so bg ix mo xd xb xk xl xt xw xs xg xy xe xc xf xn out k (35 + k) (6042 + 6 * k) := by
      intro hi
      intro T n0 S v g n y wkey wi lb bb gbb nb1 up cr key i tbf sg sn sy B X hr gd bd pq1 rf kd ln ps br bp gp sl gD gB gL gT gW gS gG gY gE gC gF gN ol mn my mnb mup mwi mcr mhr mgd mkey H locs ls he htm htv hP hD hS hl
      obtain ⟨rfl, rfl, rfl, rfl, rfl, rfl, rfl, rfl, rfl⟩ := he
      rw [show 6042 + 6 * k + 6 = 6042 + 6 * (k + 1) by omega, show 35 + k + 1 = 35 + (k + 1) by omega]
      refine lv_iinc (v := nI (6 * (k + 1))) (lv' := [(4, .int (nI (6 * (k + 1)))), (0, .ref b), (1, .ref x), (2, .ref mo), (3, .ref out)]) hx hb dL_law_914 hl (k := 4) rfl (by rw [show 6 * (k + 1) = 6 * k + 6 by omega]; exact f_inck _ 6 rfl) (by decide) rfl (fun ls hl2 => ?_)
      refine lv_goto (tgt := 23) hx hb dL_law_917 (by decide) ?_
      exact ih (k + 1) (by omega) (by omega) _ _ _ _ _ _ _ _ _ _ _ _ _ _ _ _ _ _ _ _ _ _ _ _ _ _ _ _ _ _ _ _ _ _ _ _ _ _ _ _ _ _ _ _ _ _ _ _ H locs ls htm htv hP hD hS (lv_sub hl2 [1, 2, 3, 4, 0] rfl)
    intro T n0 S v g n y wkey wi lb bb gbb nb1 up cr key i tbf sg sn sy B X hr gd bd pq1 rf kd ln ps br bp gp sl gD gB gL gT gW gS gG gY gE gC gF gN ol H locs ls htm htv hP hD hS hl
    refine lv_iload hx hb dL_law_23 (lv_at hl 4 rfl) ?_
    refine lv_aload_n hx hb dL_law_25 rfl (lv_at hl 0 rfl) ?_
    refine f_slen hx hb hX hbl hbA hS dL_law_26 ?_
    refine lv_bipush (v := nI 6) hx hb dL_law_27 (by decide) ?_
    refine lv_isub hx hb dL_law_29 ?_
    refine lv_icmp_gt (tgt := 920) hx hb dL_law_30 (by decide) (fun c_30 => ?_) (fun c_30 => ?_)
    · exact hend _ _ H locs ls (by omega) (by omega) hS
    · have hi := loop_go hL (by omega) c_30
      have hk3 : k ≤ 63 := by omega
      obtain ⟨z0, hz0⟩ : ∃ z, sq (6 * k) = z := ⟨_, rfl⟩
      refine lv_aload_n hx hb dL_law_33 rfl (lv_at hl 0 rfl) ?_
      refine lv_iload hx hb dL_law_34 (lv_at hl 4 rfl) ?_
      refine f_sld hx hb hX hbl hbA hS (by omega) hL hz0 dL_law_36 ?_
      refine lv_bipush (v := nI 15) hx hb dL_law_37 (by decide) ?_
      refine lv_iand hx hb dL_law_39 ?_
      obtain ⟨m9, hm9, e9⟩ : ∃ m9, m9 < 16 ∧ z0 &&& nI 15 = nI m9 := ⟨_, Nat.mod_lt _ (by decide), pk_and z0 4 (by decide)⟩
      refine f_top (y := nI m9) e9 ?_
      clear e9
      rcases (show m9 = 0 ∨ m9 = 1 ∨ m9 = 2 ∨ m9 = 3 ∨ m9 = 4 ∨ m9 = 5 ∨ m9 = 6 ∨ m9 = 7 ∨ m9 = 8 ∨ m9 = 9 ∨ m9 = 10 ∨ m9 = 11 ∨ m9 = 12 ∨ m9 = 13 ∨ m9 = 14 ∨ m9 = 15 by omega) with rfl | rfl | rfl | rfl | rfl | rfl | rfl | rfl | rfl | rfl | rfl | rfl | rfl | rfl | rfl | rfl
      · refine lv_tableIn (tgt := 116) hx hb dL_law_40 (by decide) (by decide) rfl (by decide) ?_
        exact cs_begin C0 (by omega) hi (by omega) (by omega) (hgo hi) T n0 S v g n y wkey wi lb bb gbb nb1 up cr key i tbf sg sn sy B X hr gd bd pq1 rf kd ln ps br bp gp sl gD gB gL gT gW gS gG gY gE gC gF gN ol H locs ls htm htv hP hD hS hl
      · refine lv_tableIn (tgt := 175) hx hb dL_law_40 (by decide) (by decide) rfl (by decide) ?_
        exact cs_feed C0 (by omega) hi (by omega) (by omega) (hgo hi) T n0 S v g n y wkey wi lb bb gbb nb1 up cr key i tbf sg sn sy B X hr gd bd pq1 rf kd ln ps br bp gp sl gD gB gL gT gW gS gG gY gE gC gF gN ol H locs ls htm htv hP hD hS hl
      · refine lv_tableIn (tgt := 279) hx hb dL_law_40 (by decide) (by decide) rfl (by decide) ?_
        exact cs_erase C0 (by omega) hi (by omega) (by omega) (hgo hi) T n0 S v g n y wkey wi lb bb gbb nb1 up cr key i tbf sg sn sy B X hr gd bd pq1 rf kd ln ps br bp gp sl gD gB gL gT gW gS gG gY gE gC gF gN ol H locs ls htm htv hP hD hS hl
      · refine lv_tableIn (tgt := 292) hx hb dL_law_40 (by decide) (by decide) rfl (by decide) ?_
        exact cs_append C0 (by omega) hi (by omega) (by omega) (hgo hi) T n0 S v g n y wkey wi lb bb gbb nb1 up cr key i tbf sg sn sy B X hr gd bd pq1 rf kd ln ps br bp gp sl gD gB gL gT gW gS gG gY gE gC gF gN ol H locs ls htm htv hP hD hS hl
      · refine lv_tableIn (tgt := 336) hx hb dL_law_40 (by decide) (by decide) rfl (by decide) ?_
        exact cs_seal C0 (by omega) hi (by omega) (by omega) (hgo hi) T n0 S v g n y wkey wi lb bb gbb nb1 up cr key i tbf sg sn sy B X hr gd bd pq1 rf kd ln ps br bp gp sl gD gB gL gT gW gS gG gY gE gC gF gN ol H locs ls htm htv hP hD hS hl
      · refine lv_tableIn (tgt := 380) hx hb dL_law_40 (by decide) (by decide) rfl (by decide) ?_
        exact cs_sync C0 (by omega) hi (by omega) (by omega) (hgo hi) T n0 S v g n y wkey wi lb bb gbb nb1 up cr key i tbf sg sn sy B X hr gd bd pq1 rf kd ln ps br bp gp sl gD gB gL gT gW gS gG gY gE gC gF gN ol H locs ls htm htv hP hD hS hl
      · refine lv_tableIn (tgt := 424) hx hb dL_law_40 (by decide) (by decide) rfl (by decide) ?_
        exact cs_crash C0 (by omega) hi (by omega) (by omega) (hgo hi) T n0 S v g n y wkey wi lb bb gbb nb1 up cr key i tbf sg sn sy B X hr gd bd pq1 rf kd ln ps br bp gp sl gD gB gL gT gW gS gG gY gE gC gF gN ol H locs ls htm htv hP hD hS hl
      · refine lv_tableIn (tgt := 480) hx hb dL_law_40 (by decide) (by decide) rfl (by decide) ?_
        exact cs_recover C0 (by omega) hi (by omega) (by omega) (hgo hi) T n0 S v g n y wkey wi lb bb gbb nb1 up cr key i tbf sg sn sy B X hr gd bd pq1 rf kd ln ps br bp gp sl gD gB gL gT gW gS gG gY gE gC gF gN ol H locs ls htm htv hP hD hS hl
      · refine lv_tableIn (tgt := 524) hx hb dL_law_40 (by decide) (by decide) rfl (by decide) ?_
        exact cs_verify C0 (by omega) hi (by omega) (by omega) (hgo hi) T n0 S v g n y wkey wi lb bb gbb nb1 up cr key i tbf sg sn sy B X hr gd bd pq1 rf kd ln ps br bp gp sl gD gB gL gT gW gS gG gY gE gC gF gN ol H locs ls htm htv hP hD hS hl
      · refine lv_tableIn (tgt := 585) hx hb dL_law_40 (by decide) (by decide) rfl (by decide) ?_
        exact cs_told C0 (by omega) hi (by omega) (by omega) (hgo hi) T n0 S v g n y wkey wi lb bb gbb nb1 up cr key i tbf sg sn sy B X hr gd bd pq1 rf kd ln ps br bp gp sl gD gB gL gT gW gS gG gY gE gC gF gN ol H locs ls htm htv hP hD hS hl
      · refine lv_tableIn (tgt := 641) hx hb dL_law_40 (by decide) (by decide) rfl (by decide) ?_
        exact cs_record C0 (by omega) hi (by omega) (by omega) (hgo hi) T n0 S v g n y wkey wi lb bb gbb nb1 up cr key i tbf sg sn sy B X hr gd bd pq1 rf kd ln ps br bp gp sl gD gB gL gT gW gS gG gY gE gC gF gN ol H locs ls htm htv hP hD hS hl
      · refine lv_tableIn (tgt := 709) hx hb dL_law_40 (by decide) (by decide) rfl (by decide) ?_
        exact cs_bend C0 (by omega) hi (by omega) (by omega) (hgo hi) T n0 S v g n y wkey wi lb bb gbb nb1 up cr key i tbf sg sn sy B X hr gd bd pq1 rf kd ln ps br bp gp sl gD gB gL gT gW gS gG gY gE gC gF gN ol H locs ls htm htv hP hD hS hl
      · refine lv_tableIn (tgt := 777) hx hb dL_law_40 (by decide) (by decide) rfl (by decide) ?_
        exact cs_octet C0 (by omega) hi (by omega) (by omega) (hgo hi) T n0 S v g n y wkey wi lb bb gbb nb1 up cr key i tbf sg sn sy B X hr gd bd pq1 rf kd ln ps br bp gp sl gD gB gL gT gW gS gG gY gE gC gF gN ol H locs ls htm htv hP hD hS hl
      · refine lv_tableIn (tgt := 802) hx hb dL_law_40 (by decide) (by decide) rfl (by decide) ?_
        exact cs_key C0 (by omega) hi (by omega) (by omega) (hgo hi) T n0 S v g n y wkey wi lb bb gbb nb1 up cr key i tbf sg sn sy B X hr gd bd pq1 rf kd ln ps br bp gp sl gD gB gL gT gW gS gG gY gE gC gF gN ol H locs ls htm htv hP hD hS hl
      · refine lv_tableIn (tgt := 858) hx hb dL_law_40 (by decide) (by decide) rfl (by decide) ?_
        exact cs_count C0 (by omega) hi (by omega) (by omega) (hgo hi) T n0 S v g n y wkey wi lb bb gbb nb1 up cr key i tbf sg sn sy B X hr gd bd pq1 rf kd ln ps br bp gp sl gD gB gL gT gW gS gG gY gE gC gF gN ol H locs ls htm htv hP hD hS hl
      · refine lv_tableOut (tgt := 914) hx hb dL_law_40 (by decide) (by decide) ?_
        obtain ⟨t1, t2, t3, t4, t5, t6, t7, t8⟩ := htm
        refine W.widen (k := 35 + k + 1) (n := 6042 + 6 * k + 6) (by omega) (by omega) ?_
        exact hgo hi T n0 S v g n y wkey wi lb bb gbb nb1 up cr key i tbf sg sn sy B X hr gd bd pq1 rf kd ln ps br bp gp sl gD gB gL gT gW gS gG gY gE gC gF gN ol n y nb1 up wi cr hr gd wkey H locs ls ⟨rfl, rfl, rfl, rfl, rfl, rfl, rfl, rfl, rfl⟩ ⟨t1, t2, t3, t4, Nat.le_succ_of_le t5, t6, t7, t8⟩ htv hP hD hS hl
