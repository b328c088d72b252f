/-! WHAT IS MADE: the ends, the class -/
set_option maxRecDepth 100000 in
set_option maxHeartbeats 4000000 in
theorem ci_X3_9 {G : zG} {rf : Nat → Nat → Option Nat} {I : zI} {J : zJ} (hr : ∀ x, 9 ≤ x → x ≤ 33 → rf x = zrf x) (hi : ∀ x, 9 ≤ x → x ≤ 33 → I x = fun _ => 0) (hj : ∀ x, 9 ≤ x → x ≤ 33 → J x = fun _ => 0) : zK G mX3_init 3 [.ref 9] (8, zkd, zup rf 9 (rP 9 0)) I J (zB2 (32, zkd, rf) (fun I' J' => ∃ Ic, tabX Ic ∧ (∀ x, x < 11 ∨ 15 < x → Ic x = I x) ∧ I' = zwr (zwr (zwr Ic 9 4 (nI 8)) 9 6 (nI 0)) 9 12 (-1) ∧ J' = zup J 32 (zflL (-4000000000000000000) (J 32) 10))) := by
  refine zK_of kX3_init.2.2.2.2.1 (Nat.le_of_ble_eq_true rfl) ?_
  show V G mX3_init 3 _ 0 [(0, .ref 9)] [] (0, 0) (8, zkd, zup rf 9 (rP 9 0)) I J
  refine V_aload_n dX3_init_0 rfl ?_
  refine V_obj dX3_init_1 jX3_5 (Nat.le_of_ble_eq_true rfl) (Nat.le_of_ble_eq_true rfl) ?_
  refine V_aload_n dX3_init_4 rfl ?_
  refine W_new (cc := 2) (m' := 9) (a := 10) (c1' := 1) (c2' := 5) dX3_init_5 (by decide) cX3_11 zins2 zini2 rfl rfl rfl (hi 10 (by decide) (by decide)) (hj 10 (by decide) (by decide)) ⟨rfl, rfl⟩ ⟨Nat.le_of_ble_eq_true rfl, Nat.le_of_ble_eq_true rfl⟩ ?_
  refine V_dup dX3_init_8 rfl ?_
  refine V_callI (As := []) (st := [.ref 10, .ref 9]) (a := 10) dX3_init_9 rfl kX2_init lX3_13 (Nat.le_of_ble_eq_true rfl) rfl rfl (Nat.le_of_ble_eq_true rfl) ⟨Nat.le_of_ble_eq_true rfl, Nat.le_of_ble_eq_true rfl⟩ (ci_X2_10 (fun x h1 h2 => (zup_n (by omega)).trans (hr x (by omega) (by omega))) (fun x h1 h2 => hi x (by omega) (by omega)) (fun x h1 h2 => hj x (by omega) (by omega))) ?_
  rintro _ _ Ic _ ⟨rfl, rfl, hTc, hCx, eJ⟩
  obtain rfl := eJ.symm
  refine W_putR (n := 0) (k := 0) (b := 10) dX3_init_12 fX3_14 gX3_14 ⟨Nat.le_of_ble_eq_true rfl, Nat.le_of_ble_eq_true rfl⟩ rfl rfl rfl rfl rfl (fun _ => ⟨rfl, rfl⟩) (Nat.le_of_ble_eq_true rfl) rfl (by decide +kernel) ?_
  refine V_aload_n dX3_init_15 rfl ?_
  refine W_new (cc := 8) (m' := 15) (a := 16) (c1' := 7) (c2' := 736) dX3_init_16 (by decide) cX3_18 zins8 zini8 rfl rfl rfl ((hCx 16 (by decide)).trans (hi 16 (by decide) (by decide))) (hj 16 (by decide) (by decide)) ⟨rfl, rfl⟩ ⟨Nat.le_of_ble_eq_true rfl, Nat.le_of_ble_eq_true rfl⟩ ?_
  refine V_dup dX3_init_19 rfl ?_
  refine V_callI (As := []) (st := [.ref 16, .ref 9]) (a := 16) dX3_init_20 rfl kX8_init lX3_20 (Nat.le_of_ble_eq_true rfl) rfl rfl (Nat.le_of_ble_eq_true rfl) ⟨Nat.le_of_ble_eq_true rfl, Nat.le_of_ble_eq_true rfl⟩ (ci_X8_16 (fun x h1 h2 => (zup_n (by omega)).trans (hr x (by omega) (by omega))) (fun x h1 h2 => (hCx x (by omega)).trans (hi x (by omega) (by omega))) (fun x h1 h2 => hj x (by omega) (by omega))) ?_
  rintro _ _ _ _ ⟨rfl, rfl, eI, eJ⟩
  obtain rfl := eI.symm
  obtain rfl := eJ.symm
  refine W_putR (n := 1) (k := 1) (b := 16) dX3_init_23 fX3_21 gX3_21 ⟨Nat.le_of_ble_eq_true rfl, Nat.le_of_ble_eq_true rfl⟩ rfl rfl rfl rfl rfl (fun _ => ⟨rfl, rfl⟩) (Nat.le_of_ble_eq_true rfl) rfl (by decide +kernel) ?_
  refine V_aload_n dX3_init_26 rfl ?_
  refine V_iconst (v := nI 4) dX3_init_27 rfl ?_
  refine W_newQ (m' := 17) (a := 18) (c1' := 9) (c2' := 980) dX3_init_28 cX3_18 rfl rfl rfl ((hCx 18 (by decide)).trans (hi 18 (by decide) (by decide))) (hj 18 (by decide) (by decide)) (by decide) ⟨rfl, rfl⟩ ⟨Nat.le_of_ble_eq_true rfl, Nat.le_of_ble_eq_true rfl⟩ ?_
  refine V_dup dX3_init_31 rfl ?_
  refine V_iconst (v := nI 0) dX3_init_32 rfl ?_
  refine W_new (cc := 8) (m' := 18) (a := 19) (c1' := 10) (c2' := 983) dX3_init_33 (by decide) cX3_18 zins8 zini8 rfl rfl rfl ((hCx 19 (by decide)).trans (hi 19 (by decide) (by decide))) (hj 19 (by decide) (by decide)) ⟨rfl, rfl⟩ ⟨Nat.le_of_ble_eq_true rfl, Nat.le_of_ble_eq_true rfl⟩ ?_
  refine V_dup dX3_init_36 rfl ?_
  refine V_callI (As := []) (st := [.ref 19, .int (nI 0), .ref 18, .ref 18, .ref 9]) (a := 19) dX3_init_37 rfl kX8_init lX3_20 (Nat.le_of_ble_eq_true rfl) rfl rfl (Nat.le_of_ble_eq_true rfl) ⟨Nat.le_of_ble_eq_true rfl, Nat.le_of_ble_eq_true rfl⟩ (ci_X8_19 (fun x h1 h2 => (zup_n (by omega)).trans ((zup_n (by omega)).trans (hr x (by omega) (by omega)))) (fun x h1 h2 => (hCx x (by omega)).trans (hi x (by omega) (by omega))) (fun x h1 h2 => hj x (by omega) (by omega))) ?_
  rintro _ _ _ _ ⟨rfl, rfl, eI, eJ⟩
  obtain rfl := eI.symm
  obtain rfl := eJ.symm
  refine W_aast (cc := 0) (n := 0) (k := 0) (b := 19) dX3_init_40 ⟨Nat.le_of_ble_eq_true rfl, Nat.le_of_ble_eq_true rfl⟩ rfl ⟨Nat.le_of_ble_eq_true rfl, Nat.le_of_ble_eq_true rfl⟩ rfl (by decide) (by decide) (Nat.le_of_ble_eq_true rfl) rfl (by decide +kernel) ?_
  refine V_dup dX3_init_41 rfl ?_
  refine V_iconst (v := nI 1) dX3_init_42 rfl ?_
  refine W_new (cc := 8) (m' := 20) (a := 21) (c1' := 12) (c2' := 1226) dX3_init_43 (by decide) cX3_18 zins8 zini8 rfl rfl rfl ((hCx 21 (by decide)).trans (hi 21 (by decide) (by decide))) (hj 21 (by decide) (by decide)) ⟨rfl, rfl⟩ ⟨Nat.le_of_ble_eq_true rfl, Nat.le_of_ble_eq_true rfl⟩ ?_
  refine V_dup dX3_init_46 rfl ?_
  refine V_callI (As := []) (st := [.ref 21, .int (nI 1), .ref 18, .ref 18, .ref 9]) (a := 21) dX3_init_47 rfl kX8_init lX3_20 (Nat.le_of_ble_eq_true rfl) rfl rfl (Nat.le_of_ble_eq_true rfl) ⟨Nat.le_of_ble_eq_true rfl, Nat.le_of_ble_eq_true rfl⟩ (ci_X8_21 (fun x h1 h2 => (zup_n (by omega)).trans ((zup_n (by omega)).trans (hr x (by omega) (by omega)))) (fun x h1 h2 => (hCx x (by omega)).trans (hi x (by omega) (by omega))) (fun x h1 h2 => hj x (by omega) (by omega))) ?_
  rintro _ _ _ _ ⟨rfl, rfl, eI, eJ⟩
  obtain rfl := eI.symm
  obtain rfl := eJ.symm
  refine W_aast (cc := 0) (n := 1) (k := 1) (b := 21) dX3_init_50 ⟨Nat.le_of_ble_eq_true rfl, Nat.le_of_ble_eq_true rfl⟩ rfl ⟨Nat.le_of_ble_eq_true rfl, Nat.le_of_ble_eq_true rfl⟩ rfl (by decide) (by decide) (Nat.le_of_ble_eq_true rfl) rfl (by decide +kernel) ?_
  refine V_dup dX3_init_51 rfl ?_
  refine V_iconst (v := nI 2) dX3_init_52 rfl ?_
  refine W_new (cc := 8) (m' := 22) (a := 23) (c1' := 14) (c2' := 1469) dX3_init_53 (by decide) cX3_18 zins8 zini8 rfl rfl rfl ((hCx 23 (by decide)).trans (hi 23 (by decide) (by decide))) (hj 23 (by decide) (by decide)) ⟨rfl, rfl⟩ ⟨Nat.le_of_ble_eq_true rfl, Nat.le_of_ble_eq_true rfl⟩ ?_
  refine V_dup dX3_init_56 rfl ?_
  refine V_callI (As := []) (st := [.ref 23, .int (nI 2), .ref 18, .ref 18, .ref 9]) (a := 23) dX3_init_57 rfl kX8_init lX3_20 (Nat.le_of_ble_eq_true rfl) rfl rfl (Nat.le_of_ble_eq_true rfl) ⟨Nat.le_of_ble_eq_true rfl, Nat.le_of_ble_eq_true rfl⟩ (ci_X8_23 (fun x h1 h2 => (zup_n (by omega)).trans ((zup_n (by omega)).trans (hr x (by omega) (by omega)))) (fun x h1 h2 => (hCx x (by omega)).trans (hi x (by omega) (by omega))) (fun x h1 h2 => hj x (by omega) (by omega))) ?_
  rintro _ _ _ _ ⟨rfl, rfl, eI, eJ⟩
  obtain rfl := eI.symm
  obtain rfl := eJ.symm
  refine W_aast (cc := 0) (n := 2) (k := 2) (b := 23) dX3_init_60 ⟨Nat.le_of_ble_eq_true rfl, Nat.le_of_ble_eq_true rfl⟩ rfl ⟨Nat.le_of_ble_eq_true rfl, Nat.le_of_ble_eq_true rfl⟩ rfl (by decide) (by decide) (Nat.le_of_ble_eq_true rfl) rfl (by decide +kernel) ?_
  refine V_dup dX3_init_61 rfl ?_
  refine V_iconst (v := nI 3) dX3_init_62 rfl ?_
  refine W_new (cc := 8) (m' := 24) (a := 25) (c1' := 16) (c2' := 1712) dX3_init_63 (by decide) cX3_18 zins8 zini8 rfl rfl rfl ((hCx 25 (by decide)).trans (hi 25 (by decide) (by decide))) (hj 25 (by decide) (by decide)) ⟨rfl, rfl⟩ ⟨Nat.le_of_ble_eq_true rfl, Nat.le_of_ble_eq_true rfl⟩ ?_
  refine V_dup dX3_init_66 rfl ?_
  refine V_callI (As := []) (st := [.ref 25, .int (nI 3), .ref 18, .ref 18, .ref 9]) (a := 25) dX3_init_67 rfl kX8_init lX3_20 (Nat.le_of_ble_eq_true rfl) rfl rfl (Nat.le_of_ble_eq_true rfl) ⟨Nat.le_of_ble_eq_true rfl, Nat.le_of_ble_eq_true rfl⟩ (ci_X8_25 (fun x h1 h2 => (zup_n (by omega)).trans ((zup_n (by omega)).trans (hr x (by omega) (by omega)))) (fun x h1 h2 => (hCx x (by omega)).trans (hi x (by omega) (by omega))) (fun x h1 h2 => hj x (by omega) (by omega))) ?_
  rintro _ _ _ _ ⟨rfl, rfl, eI, eJ⟩
  obtain rfl := eI.symm
  obtain rfl := eJ.symm
  refine W_aast (cc := 0) (n := 3) (k := 3) (b := 25) dX3_init_70 ⟨Nat.le_of_ble_eq_true rfl, Nat.le_of_ble_eq_true rfl⟩ rfl ⟨Nat.le_of_ble_eq_true rfl, Nat.le_of_ble_eq_true rfl⟩ rfl (by decide) (by decide) (Nat.le_of_ble_eq_true rfl) rfl (by decide +kernel) ?_
  refine W_end ((zup_n (by decide)).trans (hr 18 (by decide) (by decide))) (by decide +kernel) ?_
  refine W_putR (n := 2) (k := 2) (b := 18) dX3_init_71 fX3_25 gX3_25 ⟨Nat.le_of_ble_eq_true rfl, Nat.le_of_ble_eq_true rfl⟩ rfl rfl rfl rfl rfl (fun _ => ⟨rfl, rfl⟩) (Nat.le_of_ble_eq_true rfl) rfl (by decide +kernel) ?_
  refine V_aload_n dX3_init_74 rfl ?_
  refine W_new (cc := 9) (m' := 26) (a := 27) (c1' := 18) (c2' := 1955) dX3_init_75 (by decide) cX3_29 zins9 zini9 rfl rfl rfl ((hCx 27 (by decide)).trans (hi 27 (by decide) (by decide))) (hj 27 (by decide) (by decide)) ⟨rfl, rfl⟩ ⟨Nat.le_of_ble_eq_true rfl, Nat.le_of_ble_eq_true rfl⟩ ?_
  refine V_dup dX3_init_78 rfl ?_
  refine V_callI (As := []) (st := [.ref 27, .ref 9]) (a := 27) dX3_init_79 rfl kX9_init lX3_31 (Nat.le_of_ble_eq_true rfl) rfl rfl (Nat.le_of_ble_eq_true rfl) ⟨Nat.le_of_ble_eq_true rfl, Nat.le_of_ble_eq_true rfl⟩ (ci_X9_27 (fun x h1 h2 => (zup_n (by omega)).trans (hr x (by omega) (by omega))) (fun x h1 h2 => (hCx x (by omega)).trans (hi x (by omega) (by omega))) (fun x h1 h2 => hj x (by omega) (by omega))) ?_
  rintro _ _ _ _ ⟨rfl, rfl, eI, eJ⟩
  obtain rfl := eI.symm
  obtain rfl := eJ.symm
  refine W_putR (n := 3) (k := 3) (b := 27) dX3_init_82 fX3_32 gX3_32 ⟨Nat.le_of_ble_eq_true rfl, Nat.le_of_ble_eq_true rfl⟩ rfl rfl rfl rfl rfl (fun _ => ⟨rfl, rfl⟩) (Nat.le_of_ble_eq_true rfl) rfl (by decide +kernel) ?_
  refine V_aload_n dX3_init_85 rfl ?_
  refine V_bipush (v := nI 8) dX3_init_86 rfl ?_
  refine V_putW dX3_init_88 fX3_36 ⟨Nat.le_of_ble_eq_true rfl, Nat.le_of_ble_eq_true rfl⟩ rfl rfl rfl ⟨rfl, rfl⟩ ?_
  refine V_aload_n dX3_init_91 rfl ?_
  refine V_sipush (v := nI 3822) dX3_init_92 rfl ?_
  refine W_newI (m' := 29) (a := 30) (c1' := 21) (c2' := 5810) dX3_init_95 rfl rfl rfl ((zup_n (by decide)).trans ((hr 30 (by decide) (by decide)).trans rfl)) (by rw [zw_o (by decide)]; exact (hCx 30 (by decide)).trans (hi 30 (by decide) (by decide))) (hj 30 (by decide) (by decide)) (Nat.lt_of_le_of_lt (Nat.le_of_ble_eq_true rfl) (show 100000 < 2 ^ 20 by decide)) ⟨rfl, rfl⟩ ⟨Nat.le_of_ble_eq_true rfl, Nat.le_of_ble_eq_true rfl⟩ ?_
  refine W_putR (n := 4) (k := 5) (b := 30) dX3_init_97 fX3_40 gX3_40 ⟨Nat.le_of_ble_eq_true rfl, Nat.le_of_ble_eq_true rfl⟩ rfl rfl rfl rfl rfl (fun _ => ⟨rfl, rfl⟩) (Nat.le_of_ble_eq_true rfl) rfl (by decide +kernel) ?_
  refine V_aload_n dX3_init_100 rfl ?_
  refine V_iconst (v := nI 0) dX3_init_101 rfl ?_
  refine V_putW dX3_init_102 fX3_44 ⟨Nat.le_of_ble_eq_true rfl, Nat.le_of_ble_eq_true rfl⟩ rfl rfl rfl ⟨rfl, rfl⟩ ?_
  refine V_aload_n dX3_init_105 rfl ?_
  refine V_sipush (v := nI 3822) dX3_init_106 rfl ?_
  refine W_newL (m' := 30) (a := 31) (c1' := 22) (c2' := 9632) dX3_init_109 rfl rfl rfl ((zup_n (by decide)).trans ((hr 31 (by decide) (by decide)).trans rfl)) (by rw [zw_o (by decide), zw_o (by decide)]; exact (hCx 31 (by decide)).trans (hi 31 (by decide) (by decide))) (hj 31 (by decide) (by decide)) (Nat.lt_of_le_of_lt (Nat.le_of_ble_eq_true rfl) (show 100000 < 2 ^ 20 by decide)) ⟨rfl, rfl⟩ ⟨Nat.le_of_ble_eq_true rfl, Nat.le_of_ble_eq_true rfl⟩ ?_
  refine W_putR (n := 6) (k := 9) (b := 31) dX3_init_111 fX3_47 gX3_47 ⟨Nat.le_of_ble_eq_true rfl, Nat.le_of_ble_eq_true rfl⟩ rfl rfl rfl rfl rfl (fun _ => ⟨rfl, rfl⟩) (Nat.le_of_ble_eq_true rfl) rfl (by decide +kernel) ?_
  refine V_aload_n dX3_init_114 rfl ?_
  refine V_bipush (v := nI 10) dX3_init_115 rfl ?_
  refine W_newL (m' := 31) (a := 32) (c1' := 23) (c2' := 9642) dX3_init_117 rfl rfl rfl ((zup_n (by decide)).trans ((hr 32 (by decide) (by decide)).trans rfl)) (by rw [zw_o (by decide), zw_o (by decide)]; exact (hCx 32 (by decide)).trans (hi 32 (by decide) (by decide))) (hj 32 (by decide) (by decide)) (Nat.lt_of_le_of_lt (Nat.le_of_ble_eq_true rfl) (show 100000 < 2 ^ 20 by decide)) ⟨rfl, rfl⟩ ⟨Nat.le_of_ble_eq_true rfl, Nat.le_of_ble_eq_true rfl⟩ ?_
  refine W_putR (n := 10) (k := 10) (b := 32) dX3_init_119 fX3_51 gX3_51 ⟨Nat.le_of_ble_eq_true rfl, Nat.le_of_ble_eq_true rfl⟩ rfl rfl rfl rfl rfl (fun _ => ⟨rfl, rfl⟩) (Nat.le_of_ble_eq_true rfl) rfl (by decide +kernel) ?_
  refine V_aload_n dX3_init_122 rfl ?_
  refine V_bipush (v := nI 14) dX3_init_123 rfl ?_
  refine W_newL (m' := 32) (a := 33) (c1' := 24) (c2' := 9656) dX3_init_125 rfl rfl rfl ((zup_n (by decide)).trans ((hr 33 (by decide) (by decide)).trans rfl)) (by rw [zw_o (by decide), zw_o (by decide)]; exact (hCx 33 (by decide)).trans (hi 33 (by decide) (by decide))) (hj 33 (by decide) (by decide)) (Nat.lt_of_le_of_lt (Nat.le_of_ble_eq_true rfl) (show 100000 < 2 ^ 20 by decide)) ⟨rfl, rfl⟩ ⟨Nat.le_of_ble_eq_true rfl, Nat.le_of_ble_eq_true rfl⟩ ?_
  refine W_putR (n := 11) (k := 11) (b := 33) dX3_init_127 fX3_54 gX3_54 ⟨Nat.le_of_ble_eq_true rfl, Nat.le_of_ble_eq_true rfl⟩ rfl rfl rfl rfl rfl (fun _ => ⟨rfl, rfl⟩) (Nat.le_of_ble_eq_true rfl) rfl (by decide +kernel) ?_
  refine V_aload_n dX3_init_130 rfl ?_
  refine V_iconst (v := (-1)) dX3_init_131 rfl ?_
  refine V_putW dX3_init_132 fX3_57 ⟨Nat.le_of_ble_eq_true rfl, Nat.le_of_ble_eq_true rfl⟩ rfl rfl rfl ⟨rfl, rfl⟩ ?_
  refine V_aload_n dX3_init_135 rfl ?_
  refine V_getR (b := 32) dX3_init_136 fX3_51 ⟨Nat.le_of_ble_eq_true rfl, Nat.le_of_ble_eq_true rfl⟩ rfl rfl rfl ?_
  refine V_ldc2 dX3_init_139 qX3_60 ?_
  refine V_callS (As := [.ref 32, .long (-4000000000000000000)]) (st := []) dX3_init_142 kJ7_fill_d0a16 lX3_62 (by decide) rfl rfl (Nat.le_of_ble_eq_true rfl) ⟨Nat.le_of_ble_eq_true rfl, Nat.le_of_ble_eq_true rfl⟩ (c_fillLS ⟨Nat.le_of_ble_eq_true rfl, Nat.le_of_ble_eq_true rfl⟩ rfl (by decide)) ?_
  rintro r sh' _ _ ⟨rfl, rfl, rfl, rfl⟩
  refine W_end (hr 9 (Nat.le_of_ble_eq_true rfl) (Nat.le_of_ble_eq_true rfl)) (by decide +kernel) ?_
  exact V_ret ⟨rfl, dX3_init_145⟩ ⟨Nat.le_of_ble_eq_true rfl, Nat.le_of_ble_eq_true rfl⟩ ⟨rfl, rfl, Ic, hTc, hCx, rfl, rfl⟩

set_option maxRecDepth 100000 in
set_option maxHeartbeats 4000000 in
theorem ci_X11_2 {G : zG} {rf : Nat → Nat → Option Nat} {I : zI} {J : zJ} (hr : ∀ x, 2 ≤ x → x ≤ 61 → rf x = zrf x) (hi : ∀ x, 2 ≤ x → x ≤ 61 → I x = fun _ => 0) (hj : ∀ x, 2 ≤ x → x ≤ 61 → J x = fun _ => 0) : zK G mX11_init 4 [.ref 2] (1, zkd, zup rf 2 (rP 2 0)) I J (zB2 (60, zkd, rf) (fun I' J' => ∃ Ic, tabX Ic ∧ (∀ x, x < 11 ∨ 15 < x → Ic x = (zwr (zwr I 2 0 (nI 8)) 2 1 (nI 1)) x) ∧ I' = zwr (zwr (zwr (zwr (zwr (zwr (zwr (zwr Ic 9 4 (nI 8)) 9 6 (nI 0)) 9 12 (-1)) 36 5 (-1)) 49 4 (nI 50)) 49 5 (nI 50)) 58 4 (nI 50)) 58 5 (nI 50) ∧ J' = zup J 32 (zflL (-4000000000000000000) (J 32) 10))) := by
  refine zK_of kX11_init.2.2.2.2.1 (Nat.le_of_ble_eq_true rfl) ?_
  show V G mX11_init 4 _ 0 [(0, .ref 2)] [] (0, 0) (1, zkd, zup rf 2 (rP 2 0)) I J
  refine V_aload_n dX11_init_0 rfl ?_
  refine V_obj dX11_init_1 jX11_1 (Nat.le_of_ble_eq_true rfl) (Nat.le_of_ble_eq_true rfl) ?_
  refine V_aload_n dX11_init_4 rfl ?_
  refine V_bipush (v := nI 8) dX11_init_5 rfl ?_
  refine V_putW dX11_init_7 fX11_7 ⟨Nat.le_of_ble_eq_true rfl, Nat.le_of_ble_eq_true rfl⟩ rfl rfl rfl ⟨rfl, rfl⟩ ?_
  refine V_aload_n dX11_init_10 rfl ?_
  refine V_iconst (v := nI 1) dX11_init_11 rfl ?_
  refine V_putW dX11_init_12 fX11_13 ⟨Nat.le_of_ble_eq_true rfl, Nat.le_of_ble_eq_true rfl⟩ rfl rfl rfl ⟨rfl, rfl⟩ ?_
  refine V_aload_n dX11_init_15 rfl ?_
  refine W_new (cc := 10) (m' := 2) (a := 3) (c1' := 1) (c2' := 2) dX11_init_16 (by decide) cX11_16 zins10 zini10 rfl rfl rfl (by rw [zw_o (by decide), zw_o (by decide)]; exact hi 3 (by decide) (by decide)) (hj 3 (by decide) (by decide)) ⟨rfl, rfl⟩ ⟨Nat.le_of_ble_eq_true rfl, Nat.le_of_ble_eq_true rfl⟩ ?_
  refine V_dup dX11_init_19 rfl ?_
  refine V_callI (As := []) (st := [.ref 3, .ref 2]) (a := 3) dX11_init_20 rfl kX10_init lX11_18 (Nat.le_of_ble_eq_true rfl) rfl rfl (Nat.le_of_ble_eq_true rfl) ⟨Nat.le_of_ble_eq_true rfl, Nat.le_of_ble_eq_true rfl⟩ (ci_X10_3 (fun x h1 h2 => (zup_n (by omega)).trans (hr x (by omega) (by omega))) (fun x h1 h2 => (by rw [zw_o (by omega), zw_o (by omega)]; exact hi x (by omega) (by omega))) (fun x h1 h2 => hj x (by omega) (by omega))) ?_
  rintro _ _ _ _ ⟨rfl, rfl, eI, eJ⟩
  obtain rfl := eI.symm
  obtain rfl := eJ.symm
  refine W_putR (n := 0) (k := 2) (b := 3) dX11_init_23 fX11_19 gX11_19 ⟨Nat.le_of_ble_eq_true rfl, Nat.le_of_ble_eq_true rfl⟩ rfl rfl rfl rfl rfl (fun _ => ⟨rfl, rfl⟩) (Nat.le_of_ble_eq_true rfl) rfl (by decide +kernel) ?_
  refine V_aload_n dX11_init_26 rfl ?_
  refine W_new (cc := 1) (m' := 4) (a := 5) (c1' := 3) (c2' := 267) dX11_init_27 (by decide) cX11_23 zins1 zini1 rfl rfl rfl (by rw [zw_o (by decide), zw_o (by decide)]; exact hi 5 (by decide) (by decide)) (hj 5 (by decide) (by decide)) ⟨rfl, rfl⟩ ⟨Nat.le_of_ble_eq_true rfl, Nat.le_of_ble_eq_true rfl⟩ ?_
  refine V_dup dX11_init_30 rfl ?_
  refine V_callI (As := []) (st := [.ref 5, .ref 2]) (a := 5) dX11_init_31 rfl kX1_init lX11_25 (Nat.le_of_ble_eq_true rfl) rfl rfl (Nat.le_of_ble_eq_true rfl) ⟨Nat.le_of_ble_eq_true rfl, Nat.le_of_ble_eq_true rfl⟩ (ci_X1_5 (fun x h1 h2 => (zup_n (by omega)).trans (hr x (by omega) (by omega))) (fun x h1 h2 => (by rw [zw_o (by omega), zw_o (by omega)]; exact hi x (by omega) (by omega))) (fun x h1 h2 => hj x (by omega) (by omega))) ?_
  rintro _ _ _ _ ⟨rfl, rfl, eI, eJ⟩
  obtain rfl := eI.symm
  obtain rfl := eJ.symm
  refine W_putR (n := 3) (k := 3) (b := 5) dX11_init_34 fX11_26 gX11_26 ⟨Nat.le_of_ble_eq_true rfl, Nat.le_of_ble_eq_true rfl⟩ rfl rfl rfl rfl rfl (fun _ => ⟨rfl, rfl⟩) (Nat.le_of_ble_eq_true rfl) rfl (by decide +kernel) ?_
  refine V_aload_n dX11_init_37 rfl ?_
  refine W_new (cc := 3) (m' := 8) (a := 9) (c1' := 7) (c2' := 763) dX11_init_38 (by decide) cX11_30 zins3 zini3 rfl rfl rfl (by rw [zw_o (by decide), zw_o (by decide)]; exact hi 9 (by decide) (by decide)) (hj 9 (by decide) (by decide)) ⟨rfl, rfl⟩ ⟨Nat.le_of_ble_eq_true rfl, Nat.le_of_ble_eq_true rfl⟩ ?_
  refine V_dup dX11_init_41 rfl ?_
  refine V_callI (As := []) (st := [.ref 9, .ref 2]) (a := 9) dX11_init_42 rfl kX3_init lX11_32 (Nat.le_of_ble_eq_true rfl) rfl rfl (Nat.le_of_ble_eq_true rfl) ⟨Nat.le_of_ble_eq_true rfl, Nat.le_of_ble_eq_true rfl⟩ (ci_X3_9 (fun x h1 h2 => (zup_n (by omega)).trans (hr x (by omega) (by omega))) (fun x h1 h2 => (by rw [zw_o (by omega), zw_o (by omega)]; exact hi x (by omega) (by omega))) (fun x h1 h2 => hj x (by omega) (by omega))) ?_
  rintro _ _ _ _ ⟨rfl, rfl, Ic, hTc, hCx, eI, eJ⟩
  obtain rfl := eI.symm
  obtain rfl := eJ.symm
  refine W_putR (n := 4) (k := 4) (b := 9) dX11_init_45 fX11_33 gX11_33 ⟨Nat.le_of_ble_eq_true rfl, Nat.le_of_ble_eq_true rfl⟩ rfl rfl rfl rfl rfl (fun _ => ⟨rfl, rfl⟩) (Nat.le_of_ble_eq_true rfl) rfl (by decide +kernel) ?_
  refine V_aload_n dX11_init_48 rfl ?_
  refine V_aload_n dX11_init_49 rfl ?_
  refine V_getR (b := 9) dX11_init_50 fX11_33 ⟨Nat.le_of_ble_eq_true rfl, Nat.le_of_ble_eq_true rfl⟩ rfl rfl rfl ?_
  refine V_getR (b := 10) dX11_init_53 fX11_37 ⟨Nat.le_of_ble_eq_true rfl, Nat.le_of_ble_eq_true rfl⟩ rfl rfl (congrFun ((zup_n (f := rP 2 5) (a := 2) (b := 9) (by decide)).trans (hr 9 (by decide) (by decide))) 0) ?_
  refine W_putR (n := 5) (k := 5) (b := 10) dX11_init_56 fX11_41 gX11_41 ⟨Nat.le_of_ble_eq_true rfl, Nat.le_of_ble_eq_true rfl⟩ rfl rfl rfl rfl rfl (fun _ => ⟨rfl, rfl⟩) (Nat.le_of_ble_eq_true rfl) rfl (by decide +kernel) ?_
  refine V_aload_n dX11_init_59 rfl ?_
  refine V_aload_n dX11_init_60 rfl ?_
  refine V_getR (b := 9) dX11_init_61 fX11_33 ⟨Nat.le_of_ble_eq_true rfl, Nat.le_of_ble_eq_true rfl⟩ rfl rfl rfl ?_
  refine V_getR (b := 16) dX11_init_64 fX11_42 ⟨Nat.le_of_ble_eq_true rfl, Nat.le_of_ble_eq_true rfl⟩ rfl rfl (congrFun ((zup_n (f := rP 2 6) (a := 2) (b := 9) (by decide)).trans (hr 9 (by decide) (by decide))) 1) ?_
  refine W_putR (n := 6) (k := 6) (b := 16) dX11_init_67 fX11_46 gX11_46 ⟨Nat.le_of_ble_eq_true rfl, Nat.le_of_ble_eq_true rfl⟩ rfl rfl rfl rfl rfl (fun _ => ⟨rfl, rfl⟩) (Nat.le_of_ble_eq_true rfl) rfl (by decide +kernel) ?_
  refine V_aload_n dX11_init_70 rfl ?_
  refine V_aload_n dX11_init_71 rfl ?_
  refine V_getR (b := 9) dX11_init_72 fX11_33 ⟨Nat.le_of_ble_eq_true rfl, Nat.le_of_ble_eq_true rfl⟩ rfl rfl rfl ?_
  refine V_getR (b := 18) dX11_init_75 fX11_49 ⟨Nat.le_of_ble_eq_true rfl, Nat.le_of_ble_eq_true rfl⟩ rfl rfl (congrFun ((zup_n (f := rP 2 7) (a := 2) (b := 9) (by decide)).trans (hr 9 (by decide) (by decide))) 2) ?_
  refine W_putR (n := 7) (k := 7) (b := 18) dX11_init_78 fX11_53 gX11_53 ⟨Nat.le_of_ble_eq_true rfl, Nat.le_of_ble_eq_true rfl⟩ rfl rfl rfl rfl rfl (fun _ => ⟨rfl, rfl⟩) (Nat.le_of_ble_eq_true rfl) rfl (by decide +kernel) ?_
  refine V_aload_n dX11_init_81 rfl ?_
  refine W_new (cc := 7) (m' := 33) (a := 34) (c1' := 32) (c2' := 10420) dX11_init_82 (by decide) cX11_54 zins7 zini7 rfl rfl rfl (by rw [zw_o (by decide), zw_o (by decide), zw_o (by decide)]; exact (hCx 34 (by decide)).trans ((zw_o (by decide)).trans ((zw_o (by decide)).trans (hi 34 (by decide) (by decide))))) ((zup_n (by decide)).trans (hj 34 (by decide) (by decide))) ⟨rfl, rfl⟩ ⟨Nat.le_of_ble_eq_true rfl, Nat.le_of_ble_eq_true rfl⟩ ?_
  refine V_dup dX11_init_85 rfl ?_
  refine V_callI (As := []) (st := [.ref 34, .ref 2]) (a := 34) dX11_init_86 rfl kX7_init lX11_56 (Nat.le_of_ble_eq_true rfl) rfl rfl (Nat.le_of_ble_eq_true rfl) ⟨Nat.le_of_ble_eq_true rfl, Nat.le_of_ble_eq_true rfl⟩ (ci_X7_34 (fun x h1 h2 => (zup_n (by omega)).trans (hr x (by omega) (by omega))) (fun x h1 h2 => (by rw [zw_o (by omega), zw_o (by omega), zw_o (by omega)]; exact (hCx x (by omega)).trans ((zw_o (by omega)).trans ((zw_o (by omega)).trans (hi x (by omega) (by omega)))))) (fun x h1 h2 => (zup_n (by omega)).trans (hj x (by omega) (by omega)))) ?_
  rintro _ _ _ _ ⟨rfl, rfl, eI, eJ⟩
  obtain rfl := eI.symm
  obtain rfl := eJ.symm
  refine W_putR (n := 8) (k := 8) (b := 34) dX11_init_89 fX11_57 gX11_57 ⟨Nat.le_of_ble_eq_true rfl, Nat.le_of_ble_eq_true rfl⟩ rfl rfl rfl rfl rfl (fun _ => ⟨rfl, rfl⟩) (Nat.le_of_ble_eq_true rfl) rfl (by decide +kernel) ?_
  refine V_aload_n dX11_init_92 rfl ?_
  refine W_new (cc := 6) (m' := 35) (a := 36) (c1' := 34) (c2' := 10818) dX11_init_93 (by decide) cX11_61 zins6 zini6 rfl rfl rfl (by rw [zw_o (by decide), zw_o (by decide), zw_o (by decide)]; exact (hCx 36 (by decide)).trans ((zw_o (by decide)).trans ((zw_o (by decide)).trans (hi 36 (by decide) (by decide))))) ((zup_n (by decide)).trans (hj 36 (by decide) (by decide))) ⟨rfl, rfl⟩ ⟨Nat.le_of_ble_eq_true rfl, Nat.le_of_ble_eq_true rfl⟩ ?_
  refine V_dup dX11_init_96 rfl ?_
  refine V_callI (As := []) (st := [.ref 36, .ref 2]) (a := 36) dX11_init_97 rfl kX6_init lX11_63 (Nat.le_of_ble_eq_true rfl) rfl rfl (Nat.le_of_ble_eq_true rfl) ⟨Nat.le_of_ble_eq_true rfl, Nat.le_of_ble_eq_true rfl⟩ (ci_X6_36 (fun x h1 h2 => (zup_n (by omega)).trans (hr x (by omega) (by omega))) (fun x h1 h2 => (by rw [zw_o (by omega), zw_o (by omega), zw_o (by omega)]; exact (hCx x (by omega)).trans ((zw_o (by omega)).trans ((zw_o (by omega)).trans (hi x (by omega) (by omega)))))) (fun x h1 h2 => (zup_n (by omega)).trans (hj x (by omega) (by omega)))) ?_
  rintro _ _ _ _ ⟨rfl, rfl, eI, eJ⟩
  obtain rfl := eI.symm
  obtain rfl := eJ.symm
  refine W_putR (n := 9) (k := 9) (b := 36) dX11_init_100 fX11_64 gX11_64 ⟨Nat.le_of_ble_eq_true rfl, Nat.le_of_ble_eq_true rfl⟩ rfl rfl rfl rfl rfl (fun _ => ⟨rfl, rfl⟩) (Nat.le_of_ble_eq_true rfl) rfl (by decide +kernel) ?_
  refine V_aload_n dX11_init_103 rfl ?_
  refine W_new (cc := 5) (m' := 40) (a := 41) (c1' := 39) (c2' := 10852) dX11_init_104 (by decide) cX11_68 zins5 zini5 rfl rfl rfl (by rw [zw_o (by decide), zw_o (by decide), zw_o (by decide), zw_o (by decide)]; exact (hCx 41 (by decide)).trans ((zw_o (by decide)).trans ((zw_o (by decide)).trans (hi 41 (by decide) (by decide))))) ((zup_n (by decide)).trans (hj 41 (by decide) (by decide))) ⟨rfl, rfl⟩ ⟨Nat.le_of_ble_eq_true rfl, Nat.le_of_ble_eq_true rfl⟩ ?_
  refine V_dup dX11_init_107 rfl ?_
  refine V_callI (As := []) (st := [.ref 41, .ref 2]) (a := 41) dX11_init_108 rfl kX5_init lX11_70 (Nat.le_of_ble_eq_true rfl) rfl rfl (Nat.le_of_ble_eq_true rfl) ⟨Nat.le_of_ble_eq_true rfl, Nat.le_of_ble_eq_true rfl⟩ (ci_X5_41 (fun x h1 h2 => (zup_n (by omega)).trans (hr x (by omega) (by omega))) (fun x h1 h2 => (by rw [zw_o (by omega), zw_o (by omega), zw_o (by omega), zw_o (by omega)]; exact (hCx x (by omega)).trans ((zw_o (by omega)).trans ((zw_o (by omega)).trans (hi x (by omega) (by omega)))))) (fun x h1 h2 => (zup_n (by omega)).trans (hj x (by omega) (by omega)))) ?_
  rintro _ _ _ _ ⟨rfl, rfl, eI, eJ⟩
  obtain rfl := eI.symm
  obtain rfl := eJ.symm
  refine W_putR (n := 10) (k := 10) (b := 41) dX11_init_111 fX11_71 gX11_71 ⟨Nat.le_of_ble_eq_true rfl, Nat.le_of_ble_eq_true rfl⟩ rfl rfl rfl rfl rfl (fun _ => ⟨rfl, rfl⟩) (Nat.le_of_ble_eq_true rfl) rfl (by decide +kernel) ?_
  refine V_aload_n dX11_init_114 rfl ?_
  refine W_new (cc := 0) (m' := 43) (a := 44) (c1' := 42) (c2' := 10985) dX11_init_115 (by decide) cX11_75 zins0 zini0 rfl rfl rfl (by rw [zw_o (by decide), zw_o (by decide), zw_o (by decide), zw_o (by decide)]; exact (hCx 44 (by decide)).trans ((zw_o (by decide)).trans ((zw_o (by decide)).trans (hi 44 (by decide) (by decide))))) ((zup_n (by decide)).trans (hj 44 (by decide) (by decide))) ⟨rfl, rfl⟩ ⟨Nat.le_of_ble_eq_true rfl, Nat.le_of_ble_eq_true rfl⟩ ?_
  refine V_dup dX11_init_118 rfl ?_
  refine V_callI (As := []) (st := [.ref 44, .ref 2]) (a := 44) dX11_init_119 rfl kX0_init lX11_77 (Nat.le_of_ble_eq_true rfl) rfl rfl (Nat.le_of_ble_eq_true rfl) ⟨Nat.le_of_ble_eq_true rfl, Nat.le_of_ble_eq_true rfl⟩ (ci_X0_44 (fun x h1 h2 => (zup_n (by omega)).trans (hr x (by omega) (by omega))) (fun x h1 h2 => (by rw [zw_o (by omega), zw_o (by omega), zw_o (by omega), zw_o (by omega)]; exact (hCx x (by omega)).trans ((zw_o (by omega)).trans ((zw_o (by omega)).trans (hi x (by omega) (by omega)))))) (fun x h1 h2 => (zup_n (by omega)).trans (hj x (by omega) (by omega)))) ?_
  rintro _ _ _ _ ⟨rfl, rfl, eI, eJ⟩
  obtain rfl := eI.symm
  obtain rfl := eJ.symm
  refine W_putR (n := 11) (k := 11) (b := 44) dX11_init_122 fX11_78 gX11_78 ⟨Nat.le_of_ble_eq_true rfl, Nat.le_of_ble_eq_true rfl⟩ rfl rfl rfl rfl rfl (fun _ => ⟨rfl, rfl⟩) (Nat.le_of_ble_eq_true rfl) rfl (by decide +kernel) ?_
  refine V_aload_n dX11_init_125 rfl ?_
  refine W_new (cc := 4) (m' := 48) (a := 49) (c1' := 47) (c2' := 11015) dX11_init_126 (by decide) cX11_82 zins4 zini4 rfl rfl rfl (by rw [zw_o (by decide), zw_o (by decide), zw_o (by decide), zw_o (by decide)]; exact (hCx 49 (by decide)).trans ((zw_o (by decide)).trans ((zw_o (by decide)).trans (hi 49 (by decide) (by decide))))) ((zup_n (by decide)).trans (hj 49 (by decide) (by decide))) ⟨rfl, rfl⟩ ⟨Nat.le_of_ble_eq_true rfl, Nat.le_of_ble_eq_true rfl⟩ ?_
  refine V_dup dX11_init_129 rfl ?_
  refine V_callI (As := []) (st := [.ref 49, .ref 2]) (a := 49) dX11_init_130 rfl kX4_init lX11_84 (Nat.le_of_ble_eq_true rfl) rfl rfl (Nat.le_of_ble_eq_true rfl) ⟨Nat.le_of_ble_eq_true rfl, Nat.le_of_ble_eq_true rfl⟩ (ci_X4_49 (fun x h1 h2 => (zup_n (by omega)).trans (hr x (by omega) (by omega))) (fun x h1 h2 => (by rw [zw_o (by omega), zw_o (by omega), zw_o (by omega), zw_o (by omega)]; exact (hCx x (by omega)).trans ((zw_o (by omega)).trans ((zw_o (by omega)).trans (hi x (by omega) (by omega)))))) (fun x h1 h2 => (zup_n (by omega)).trans (hj x (by omega) (by omega)))) ?_
  rintro _ _ _ _ ⟨rfl, rfl, eI, eJ⟩
  obtain rfl := eI.symm
  obtain rfl := eJ.symm
  refine W_putR (n := 12) (k := 12) (b := 49) dX11_init_133 fX11_85 gX11_85 ⟨Nat.le_of_ble_eq_true rfl, Nat.le_of_ble_eq_true rfl⟩ rfl rfl rfl rfl rfl (fun _ => ⟨rfl, rfl⟩) (Nat.le_of_ble_eq_true rfl) rfl (by decide +kernel) ?_
  refine V_aload_n dX11_init_136 rfl ?_
  refine W_new (cc := 0) (m' := 52) (a := 53) (c1' := 51) (c2' := 11056) dX11_init_137 (by decide) cX11_75 zins0 zini0 rfl rfl rfl (by rw [zw_o (by decide), zw_o (by decide), zw_o (by decide), zw_o (by decide), zw_o (by decide), zw_o (by decide)]; exact (hCx 53 (by decide)).trans ((zw_o (by decide)).trans ((zw_o (by decide)).trans (hi 53 (by decide) (by decide))))) ((zup_n (by decide)).trans (hj 53 (by decide) (by decide))) ⟨rfl, rfl⟩ ⟨Nat.le_of_ble_eq_true rfl, Nat.le_of_ble_eq_true rfl⟩ ?_
  refine V_dup dX11_init_140 rfl ?_
  refine V_callI (As := []) (st := [.ref 53, .ref 2]) (a := 53) dX11_init_141 rfl kX0_init lX11_77 (Nat.le_of_ble_eq_true rfl) rfl rfl (Nat.le_of_ble_eq_true rfl) ⟨Nat.le_of_ble_eq_true rfl, Nat.le_of_ble_eq_true rfl⟩ (ci_X0_53 (fun x h1 h2 => (zup_n (by omega)).trans (hr x (by omega) (by omega))) (fun x h1 h2 => (by rw [zw_o (by omega), zw_o (by omega), zw_o (by omega), zw_o (by omega), zw_o (by omega), zw_o (by omega)]; exact (hCx x (by omega)).trans ((zw_o (by omega)).trans ((zw_o (by omega)).trans (hi x (by omega) (by omega)))))) (fun x h1 h2 => (zup_n (by omega)).trans (hj x (by omega) (by omega)))) ?_
  rintro _ _ _ _ ⟨rfl, rfl, eI, eJ⟩
  obtain rfl := eI.symm
  obtain rfl := eJ.symm
  refine W_putR (n := 13) (k := 16) (b := 53) dX11_init_144 fX11_89 gX11_89 ⟨Nat.le_of_ble_eq_true rfl, Nat.le_of_ble_eq_true rfl⟩ rfl rfl rfl rfl rfl (fun _ => ⟨rfl, rfl⟩) (Nat.le_of_ble_eq_true rfl) rfl (by decide +kernel) ?_
  refine V_aload_n dX11_init_147 rfl ?_
  refine W_new (cc := 4) (m' := 57) (a := 58) (c1' := 56) (c2' := 11086) dX11_init_148 (by decide) cX11_82 zins4 zini4 rfl rfl rfl (by rw [zw_o (by decide), zw_o (by decide), zw_o (by decide), zw_o (by decide), zw_o (by decide), zw_o (by decide)]; exact (hCx 58 (by decide)).trans ((zw_o (by decide)).trans ((zw_o (by decide)).trans (hi 58 (by decide) (by decide))))) ((zup_n (by decide)).trans (hj 58 (by decide) (by decide))) ⟨rfl, rfl⟩ ⟨Nat.le_of_ble_eq_true rfl, Nat.le_of_ble_eq_true rfl⟩ ?_
  refine V_dup dX11_init_151 rfl ?_
  refine V_callI (As := []) (st := [.ref 58, .ref 2]) (a := 58) dX11_init_152 rfl kX4_init lX11_84 (Nat.le_of_ble_eq_true rfl) rfl rfl (Nat.le_of_ble_eq_true rfl) ⟨Nat.le_of_ble_eq_true rfl, Nat.le_of_ble_eq_true rfl⟩ (ci_X4_58 (fun x h1 h2 => (zup_n (by omega)).trans (hr x (by omega) (by omega))) (fun x h1 h2 => (by rw [zw_o (by omega), zw_o (by omega), zw_o (by omega), zw_o (by omega), zw_o (by omega), zw_o (by omega)]; exact (hCx x (by omega)).trans ((zw_o (by omega)).trans ((zw_o (by omega)).trans (hi x (by omega) (by omega)))))) (fun x h1 h2 => (zup_n (by omega)).trans (hj x (by omega) (by omega)))) ?_
  rintro _ _ _ _ ⟨rfl, rfl, eI, eJ⟩
  obtain rfl := eI.symm
  obtain rfl := eJ.symm
  refine W_putR (n := 17) (k := 17) (b := 58) dX11_init_155 fX11_92 gX11_92 ⟨Nat.le_of_ble_eq_true rfl, Nat.le_of_ble_eq_true rfl⟩ rfl rfl rfl rfl rfl (fun _ => ⟨rfl, rfl⟩) (Nat.le_of_ble_eq_true rfl) rfl (by decide +kernel) ?_
  refine W_end (hr 2 (Nat.le_of_ble_eq_true rfl) (Nat.le_of_ble_eq_true rfl)) (by decide +kernel) ?_
  exact V_ret ⟨rfl, dX11_init_158⟩ ⟨Nat.le_of_ble_eq_true rfl, Nat.le_of_ble_eq_true rfl⟩ ⟨rfl, rfl, Ic, hTc, hCx, rfl, rfl⟩

