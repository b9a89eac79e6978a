/-! ===== the words of wsA are words of the tables ===== -/
theorem tb_0 : ∀ w ∈ wa_0, w ∈ lw_tbl := fun w h => (goodIn_p wa_0 [66, 41, 116, 221, 199, 195] (by decide +kernel) (by decide +kernel) w h).1
theorem tb_1 : ∀ w ∈ wa_1, w ∈ lw_tbl := fun w h => (goodIn_p wa_1 [506, 232, 229, 289, 236, 443] (by decide +kernel) (by decide +kernel) w h).1
theorem tb_2 : ∀ w ∈ wa_2, w ∈ lw_tbl := fun w h => (goodIn_p wa_2 [449, 191, 202, 46] (by decide +kernel) (by decide +kernel) w h).1
theorem tb_3 : ∀ w ∈ wa_3, w ∈ lw_tbl := fun w h => (goodIn_p wa_3 [244, 248, 272, 281, 262, 259] (by decide +kernel) (by decide +kernel) w h).1
theorem tb_4 : ∀ w ∈ wa_4, w ∈ lw_tbl := fun w h => (goodIn_p wa_4 [266, 252, 277] (by decide +kernel) (by decide +kernel) w h).1
theorem tb_5 : ∀ w ∈ wa_5, w ∈ lw_tbl := fun w h => (goodIn_p wa_5 [85, 187, 184, 240] (by decide +kernel) (by decide +kernel) w h).1
theorem tb_6 : ∀ w ∈ wa_6, w ∈ lw_tbl := fun w h => (goodIn_p wa_6 [112, 103] (by decide +kernel) (by decide +kernel) w h).1
theorem tb_7 : ∀ w ∈ wa_7, w ∈ lw_tbl := fun w h => (goodIn_p wa_7 [225] (by decide +kernel) (by decide +kernel) w h).1
theorem tb_8 : ∀ w ∈ wa_8, w ∈ lw_tbl := fun w h => (goodIn_p wa_8 [215] (by decide +kernel) (by decide +kernel) w h).1
theorem tb_9 : ∀ w ∈ wa_9, w ∈ lw_tbl := fun w h => (goodIn_p wa_9 [467, 463, 38] (by decide +kernel) (by decide +kernel) w h).1
theorem tb_10 : ∀ w ∈ wa_10, w ∈ lw_tbl := fun w h => (goodIn_p wa_10 [] (by decide +kernel) (by decide +kernel) w h).1
theorem tb_11 : ∀ w ∈ wa_11, w ∈ lw_tbl := fun w h => (goodIn_p wa_11 [179, 304, 207] (by decide +kernel) (by decide +kernel) w h).1
theorem tb_12 : ∀ w ∈ wa_12, w ∈ lw_tbl := fun w h => (goodIn_p wa_12 [401, 396, 413, 420, 427] (by decide +kernel) (by decide +kernel) w h).1
theorem tb_13 : ∀ w ∈ wa_13, w ∈ lw_tbl := fun w h => (goodIn_p wa_13 [431, 438, 211, 458] (by decide +kernel) (by decide +kernel) w h).1
theorem tb_14 : ∀ w ∈ wa_14, w ∈ lw_tbl := fun w h => (goodIn_p wa_14 [474, 484, 294, 513] (by decide +kernel) (by decide +kernel) w h).1
theorem tb_15 : ∀ w ∈ wa_15, w ∈ lw_tbl := fun w h => (goodIn_p wa_15 [521, 532, 527] (by decide +kernel) (by decide +kernel) w h).1
theorem tb_16 : ∀ w ∈ wa_16, w ∈ lw_tbl := fun w h => (goodIn_p wa_16 [627, 646, 703] (by decide +kernel) (by decide +kernel) w h).1
theorem tb_17 : ∀ w ∈ wa_17, w ∈ lw_tbl := fun w h => (goodIn_p wa_17 [] (by decide +kernel) (by decide +kernel) w h).1
theorem tb_18 : ∀ w ∈ wa_18, w ∈ lw_tbl := fun w h => (goodIn_p wa_18 [] (by decide +kernel) (by decide +kernel) w h).1
theorem tb_19 : ∀ w ∈ wa_19, w ∈ lw_tbl := fun w h => (goodIn_p wa_19 [] (by decide +kernel) (by decide +kernel) w h).1
theorem tb_20 : ∀ w ∈ wa_20, w ∈ lw_tbl := fun w h => (goodIn_p wa_20 [] (by decide +kernel) (by decide +kernel) w h).1
theorem tb_21 : ∀ w ∈ wa_21, w ∈ lw_tbl := fun w h => (goodIn_p wa_21 [685, 700, 674, 678] (by decide +kernel) (by decide +kernel) w h).1
theorem tb_22 : ∀ w ∈ wa_22, w ∈ lw_tbl := fun w h => (goodIn_p wa_22 [697, 682, 771] (by decide +kernel) (by decide +kernel) w h).1
theorem tb_23 : ∀ w ∈ wa_23, w ∈ lw_tbl := fun w h => (goodIn_p wa_23 [670, 666, 635, 638, 631] (by decide +kernel) (by decide +kernel) w h).1
theorem tb_24 : ∀ w ∈ wa_24, w ∈ lw_tbl := fun w h => (goodIn_p wa_24 [642, 650, 662] (by decide +kernel) (by decide +kernel) w h).1
theorem tb_25 : ∀ w ∈ wa_25, w ∈ lw_tbl := fun w h => (goodIn_p wa_25 [658, 654, 775, 779, 783, 791, 787] (by decide +kernel) (by decide +kernel) w h).1
theorem tb_26 : ∀ w ∈ wa_26, w ∈ lw_tbl := fun w h => (goodIn_p wa_26 [799, 795, 803, 807, 811, 815, 819, 823] (by decide +kernel) (by decide +kernel) w h).1
theorem tb_27 : ∀ w ∈ wa_27, w ∈ lw_tbl := fun w h => (goodIn_p wa_27 [] (by decide +kernel) (by decide +kernel) w h).1
theorem tb_28 : ∀ w ∈ wa_28, w ∈ lw_tbl := fun w h => (goodIn_p wa_28 [] (by decide +kernel) (by decide +kernel) w h).1
theorem tb_29 : ∀ w ∈ wa_29, w ∈ lw_tbl := fun w h => (goodIn_p wa_29 [] (by decide +kernel) (by decide +kernel) w h).1
theorem tb_30 : ∀ w ∈ wa_30, w ∈ lw_tbl := fun w h => (goodIn_p wa_30 [] (by decide +kernel) (by decide +kernel) w h).1
theorem tb_31 : ∀ w ∈ wa_31, w ∈ lw_tbl := fun w h => (goodIn_p wa_31 [] (by decide +kernel) (by decide +kernel) w h).1
theorem tb_32 : ∀ w ∈ wa_32, w ∈ lw_tbl := fun w h => (goodIn_p wa_32 [] (by decide +kernel) (by decide +kernel) w h).1
theorem tb_33 : ∀ w ∈ wa_33, w ∈ lw_tbl := fun w h => (goodIn_p wa_33 [] (by decide +kernel) (by decide +kernel) w h).1
theorem tb_34 : ∀ w ∈ wa_34, w ∈ lw_tbl := fun w h => (goodIn_p wa_34 [] (by decide +kernel) (by decide +kernel) w h).1
theorem tb_35 : ∀ w ∈ wa_35, w ∈ lw_tbl := fun w h => (goodIn_p wa_35 [] (by decide +kernel) (by decide +kernel) w h).1
theorem tb_X0 : ∀ w ∈ wsX00, w ∈ lw_tbl := by decide +kernel
theorem tb_X1 : ∀ w ∈ wsX10, w ∈ lw_tbl := by decide +kernel
theorem tb_X2 : ∀ w ∈ wsX20, w ∈ lw_tbl := by decide +kernel
theorem tb_X3 : ∀ w ∈ wsX30, w ∈ lw_tbl := by decide +kernel
theorem tb_X4 : ∀ w ∈ wsX40, w ∈ lw_tbl := by decide +kernel
theorem tb_X5 : ∀ w ∈ wsX50, w ∈ lw_tbl := by decide +kernel
theorem tb_x0 : ∀ w ∈ wx_0, w ∈ lw_tbl := by decide +kernel
theorem tb_x1 : ∀ w ∈ wx_1, w ∈ lw_tbl := by decide +kernel
theorem tb_x2 : ∀ w ∈ wx_2, w ∈ lw_tbl := by decide +kernel
theorem tb_app {a b : List Cond} (ha : ∀ w ∈ a, w ∈ lw_tbl) (hb : ∀ w ∈ b, w ∈ lw_tbl) : ∀ w ∈ a ++ b, w ∈ lw_tbl := fun w h => (List.mem_append.mp h).elim (ha w) (hb w)
theorem wsA_tb : ∀ w ∈ wsA, w ∈ lw_tbl := (tb_app tb_0 (tb_app tb_1 (tb_app tb_2 (tb_app tb_3 (tb_app tb_4 (tb_app tb_5 (tb_app tb_6 (tb_app tb_7 (tb_app tb_8 (tb_app tb_9 (tb_app tb_10 (tb_app tb_11 (tb_app tb_12 (tb_app tb_13 (tb_app tb_14 (tb_app tb_15 (tb_app tb_16 (tb_app tb_17 (tb_app tb_18 (tb_app tb_19 (tb_app tb_20 (tb_app tb_21 (tb_app tb_22 (tb_app tb_23 (tb_app tb_24 (tb_app tb_25 (tb_app tb_26 (tb_app tb_27 (tb_app tb_28 (tb_app tb_29 (tb_app tb_30 (tb_app tb_31 (tb_app tb_32 (tb_app tb_33 (tb_app tb_34 (tb_app tb_35 (tb_app tb_X0 (tb_app tb_X1 (tb_app tb_X2 (tb_app tb_X3 (tb_app tb_X4 (tb_app tb_X5 (tb_app tb_x0 (tb_app tb_x1 tb_x2))))))))))))))))))))))))))))))))))))))))))))
