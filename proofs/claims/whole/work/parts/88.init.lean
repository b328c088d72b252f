/-! WHAT IS MADE: the class's small constructors -/
set_option maxRecDepth 100000 in
set_option maxHeartbeats 4000000 in
theorem ci_X8_6 {G : zG} {rf : Nat → Nat → Option Nat} {I : zI} {J : zJ} (hr : ∀ x, 6 ≤ x → x ≤ 7 → rf x = zrf x) (hi : ∀ x, 6 ≤ x → x ≤ 7 → I x = fun _ => 0) (hj : ∀ x, 6 ≤ x → x ≤ 7 → J x = fun _ => 0) : zK G mX8_init 1 [.ref 6] (5, zkd, zup rf 6 (rP 6 0)) I J (zB2 (6, zkd, rf) (fun I' J' => I' = I ∧ J' = J)) := by
  refine zK_of kX8_init.2.2.2.2.1 (Nat.le_of_ble_eq_true rfl) ?_
  show V G mX8_init 1 _ 0 [(0, .ref 6)] [] (0, 0) (5, zkd, zup rf 6 (rP 6 0)) I J
  refine V_aload_n dX8_init_0 rfl ?_
  refine V_obj dX8_init_1 jX8_5 (Nat.le_of_ble_eq_true rfl) (Nat.le_of_ble_eq_true rfl) ?_
  refine V_aload_n dX8_init_4 rfl ?_
  refine V_sipush (v := nI 240) dX8_init_5 rfl ?_
  refine W_newI (m' := 6) (a := 7) (c1' := 1) (c2' := 240) dX8_init_8 rfl rfl rfl ((zup_n (by decide)).trans ((hr 7 (by decide) (by decide)).trans rfl)) (hi 7 (by decide) (by decide)) (hj 7 (by decide) (by decide)) (Nat.lt_of_le_of_lt (Nat.le_of_ble_eq_true rfl) (show 100000 < 2 ^ 20 by decide)) ⟨rfl, rfl⟩ ⟨Nat.le_of_ble_eq_true rfl, Nat.le_of_ble_eq_true rfl⟩ ?_
  refine W_putR (n := 0) (k := 0) (b := 7) dX8_init_10 fX8_11 gX8_11 ⟨Nat.le_of_ble_eq_true rfl, Nat.le_of_ble_eq_true rfl⟩ rfl rfl rfl rfl rfl (fun _ => ⟨rfl, rfl⟩) (Nat.le_of_ble_eq_true rfl) rfl (by decide +kernel) ?_
  refine W_end (hr 6 (Nat.le_of_ble_eq_true rfl) (Nat.le_of_ble_eq_true rfl)) (by decide +kernel) ?_
  exact V_ret ⟨rfl, dX8_init_13⟩ ⟨Nat.le_of_ble_eq_true rfl, Nat.le_of_ble_eq_true rfl⟩ ⟨rfl, rfl, rfl, rfl⟩

set_option maxRecDepth 100000 in
set_option maxHeartbeats 4000000 in
theorem ci_X8_16 {G : zG} {rf : Nat → Nat → Option Nat} {I : zI} {J : zJ} (hr : ∀ x, 16 ≤ x → x ≤ 17 → rf x = zrf x) (hi : ∀ x, 16 ≤ x → x ≤ 17 → I x = fun _ => 0) (hj : ∀ x, 16 ≤ x → x ≤ 17 → J x = fun _ => 0) : zK G mX8_init 1 [.ref 16] (15, zkd, zup rf 16 (rP 16 0)) I J (zB2 (16, zkd, rf) (fun I' J' => I' = I ∧ J' = J)) := by
  refine zK_of kX8_init.2.2.2.2.1 (Nat.le_of_ble_eq_true rfl) ?_
  show V G mX8_init 1 _ 0 [(0, .ref 16)] [] (0, 0) (15, zkd, zup rf 16 (rP 16 0)) I J
  refine V_aload_n dX8_init_0 rfl ?_
  refine V_obj dX8_init_1 jX8_5 (Nat.le_of_ble_eq_true rfl) (Nat.le_of_ble_eq_true rfl) ?_
  refine V_aload_n dX8_init_4 rfl ?_
  refine V_sipush (v := nI 240) dX8_init_5 rfl ?_
  refine W_newI (m' := 16) (a := 17) (c1' := 1) (c2' := 240) dX8_init_8 rfl rfl rfl ((zup_n (by decide)).trans ((hr 17 (by decide) (by decide)).trans rfl)) (hi 17 (by decide) (by decide)) (hj 17 (by decide) (by decide)) (Nat.lt_of_le_of_lt (Nat.le_of_ble_eq_true rfl) (show 100000 < 2 ^ 20 by decide)) ⟨rfl, rfl⟩ ⟨Nat.le_of_ble_eq_true rfl, Nat.le_of_ble_eq_true rfl⟩ ?_
  refine W_putR (n := 0) (k := 0) (b := 17) dX8_init_10 fX8_11 gX8_11 ⟨Nat.le_of_ble_eq_true rfl, Nat.le_of_ble_eq_true rfl⟩ rfl rfl rfl rfl rfl (fun _ => ⟨rfl, rfl⟩) (Nat.le_of_ble_eq_true rfl) rfl (by decide +kernel) ?_
  refine W_end (hr 16 (Nat.le_of_ble_eq_true rfl) (Nat.le_of_ble_eq_true rfl)) (by decide +kernel) ?_
  exact V_ret ⟨rfl, dX8_init_13⟩ ⟨Nat.le_of_ble_eq_true rfl, Nat.le_of_ble_eq_true rfl⟩ ⟨rfl, rfl, rfl, rfl⟩

set_option maxRecDepth 100000 in
set_option maxHeartbeats 4000000 in
theorem ci_X8_19 {G : zG} {rf : Nat → Nat → Option Nat} {I : zI} {J : zJ} (hr : ∀ x, 19 ≤ x → x ≤ 20 → rf x = zrf x) (hi : ∀ x, 19 ≤ x → x ≤ 20 → I x = fun _ => 0) (hj : ∀ x, 19 ≤ x → x ≤ 20 → J x = fun _ => 0) : zK G mX8_init 1 [.ref 19] (18, zkd, zup rf 19 (rP 19 0)) I J (zB2 (19, zkd, rf) (fun I' J' => I' = I ∧ J' = J)) := by
  refine zK_of kX8_init.2.2.2.2.1 (Nat.le_of_ble_eq_true rfl) ?_
  show V G mX8_init 1 _ 0 [(0, .ref 19)] [] (0, 0) (18, zkd, zup rf 19 (rP 19 0)) I J
  refine V_aload_n dX8_init_0 rfl ?_
  refine V_obj dX8_init_1 jX8_5 (Nat.le_of_ble_eq_true rfl) (Nat.le_of_ble_eq_true rfl) ?_
  refine V_aload_n dX8_init_4 rfl ?_
  refine V_sipush (v := nI 240) dX8_init_5 rfl ?_
  refine W_newI (m' := 19) (a := 20) (c1' := 1) (c2' := 240) dX8_init_8 rfl rfl rfl ((zup_n (by decide)).trans ((hr 20 (by decide) (by decide)).trans rfl)) (hi 20 (by decide) (by decide)) (hj 20 (by decide) (by decide)) (Nat.lt_of_le_of_lt (Nat.le_of_ble_eq_true rfl) (show 100000 < 2 ^ 20 by decide)) ⟨rfl, rfl⟩ ⟨Nat.le_of_ble_eq_true rfl, Nat.le_of_ble_eq_true rfl⟩ ?_
  refine W_putR (n := 0) (k := 0) (b := 20) dX8_init_10 fX8_11 gX8_11 ⟨Nat.le_of_ble_eq_true rfl, Nat.le_of_ble_eq_true rfl⟩ rfl rfl rfl rfl rfl (fun _ => ⟨rfl, rfl⟩) (Nat.le_of_ble_eq_true rfl) rfl (by decide +kernel) ?_
  refine W_end (hr 19 (Nat.le_of_ble_eq_true rfl) (Nat.le_of_ble_eq_true rfl)) (by decide +kernel) ?_
  exact V_ret ⟨rfl, dX8_init_13⟩ ⟨Nat.le_of_ble_eq_true rfl, Nat.le_of_ble_eq_true rfl⟩ ⟨rfl, rfl, rfl, rfl⟩

set_option maxRecDepth 100000 in
set_option maxHeartbeats 4000000 in
theorem ci_X8_21 {G : zG} {rf : Nat → Nat → Option Nat} {I : zI} {J : zJ} (hr : ∀ x, 21 ≤ x → x ≤ 22 → rf x = zrf x) (hi : ∀ x, 21 ≤ x → x ≤ 22 → I x = fun _ => 0) (hj : ∀ x, 21 ≤ x → x ≤ 22 → J x = fun _ => 0) : zK G mX8_init 1 [.ref 21] (20, zkd, zup rf 21 (rP 21 0)) I J (zB2 (21, zkd, rf) (fun I' J' => I' = I ∧ J' = J)) := by
  refine zK_of kX8_init.2.2.2.2.1 (Nat.le_of_ble_eq_true rfl) ?_
  show V G mX8_init 1 _ 0 [(0, .ref 21)] [] (0, 0) (20, zkd, zup rf 21 (rP 21 0)) I J
  refine V_aload_n dX8_init_0 rfl ?_
  refine V_obj dX8_init_1 jX8_5 (Nat.le_of_ble_eq_true rfl) (Nat.le_of_ble_eq_true rfl) ?_
  refine V_aload_n dX8_init_4 rfl ?_
  refine V_sipush (v := nI 240) dX8_init_5 rfl ?_
  refine W_newI (m' := 21) (a := 22) (c1' := 1) (c2' := 240) dX8_init_8 rfl rfl rfl ((zup_n (by decide)).trans ((hr 22 (by decide) (by decide)).trans rfl)) (hi 22 (by decide) (by decide)) (hj 22 (by decide) (by decide)) (Nat.lt_of_le_of_lt (Nat.le_of_ble_eq_true rfl) (show 100000 < 2 ^ 20 by decide)) ⟨rfl, rfl⟩ ⟨Nat.le_of_ble_eq_true rfl, Nat.le_of_ble_eq_true rfl⟩ ?_
  refine W_putR (n := 0) (k := 0) (b := 22) dX8_init_10 fX8_11 gX8_11 ⟨Nat.le_of_ble_eq_true rfl, Nat.le_of_ble_eq_true rfl⟩ rfl rfl rfl rfl rfl (fun _ => ⟨rfl, rfl⟩) (Nat.le_of_ble_eq_true rfl) rfl (by decide +kernel) ?_
  refine W_end (hr 21 (Nat.le_of_ble_eq_true rfl) (Nat.le_of_ble_eq_true rfl)) (by decide +kernel) ?_
  exact V_ret ⟨rfl, dX8_init_13⟩ ⟨Nat.le_of_ble_eq_true rfl, Nat.le_of_ble_eq_true rfl⟩ ⟨rfl, rfl, rfl, rfl⟩

set_option maxRecDepth 100000 in
set_option maxHeartbeats 4000000 in
theorem ci_X8_23 {G : zG} {rf : Nat → Nat → Option Nat} {I : zI} {J : zJ} (hr : ∀ x, 23 ≤ x → x ≤ 24 → rf x = zrf x) (hi : ∀ x, 23 ≤ x → x ≤ 24 → I x = fun _ => 0) (hj : ∀ x, 23 ≤ x → x ≤ 24 → J x = fun _ => 0) : zK G mX8_init 1 [.ref 23] (22, zkd, zup rf 23 (rP 23 0)) I J (zB2 (23, zkd, rf) (fun I' J' => I' = I ∧ J' = J)) := by
  refine zK_of kX8_init.2.2.2.2.1 (Nat.le_of_ble_eq_true rfl) ?_
  show V G mX8_init 1 _ 0 [(0, .ref 23)] [] (0, 0) (22, zkd, zup rf 23 (rP 23 0)) I J
  refine V_aload_n dX8_init_0 rfl ?_
  refine V_obj dX8_init_1 jX8_5 (Nat.le_of_ble_eq_true rfl) (Nat.le_of_ble_eq_true rfl) ?_
  refine V_aload_n dX8_init_4 rfl ?_
  refine V_sipush (v := nI 240) dX8_init_5 rfl ?_
  refine W_newI (m' := 23) (a := 24) (c1' := 1) (c2' := 240) dX8_init_8 rfl rfl rfl ((zup_n (by decide)).trans ((hr 24 (by decide) (by decide)).trans rfl)) (hi 24 (by decide) (by decide)) (hj 24 (by decide) (by decide)) (Nat.lt_of_le_of_lt (Nat.le_of_ble_eq_true rfl) (show 100000 < 2 ^ 20 by decide)) ⟨rfl, rfl⟩ ⟨Nat.le_of_ble_eq_true rfl, Nat.le_of_ble_eq_true rfl⟩ ?_
  refine W_putR (n := 0) (k := 0) (b := 24) dX8_init_10 fX8_11 gX8_11 ⟨Nat.le_of_ble_eq_true rfl, Nat.le_of_ble_eq_true rfl⟩ rfl rfl rfl rfl rfl (fun _ => ⟨rfl, rfl⟩) (Nat.le_of_ble_eq_true rfl) rfl (by decide +kernel) ?_
  refine W_end (hr 23 (Nat.le_of_ble_eq_true rfl) (Nat.le_of_ble_eq_true rfl)) (by decide +kernel) ?_
  exact V_ret ⟨rfl, dX8_init_13⟩ ⟨Nat.le_of_ble_eq_true rfl, Nat.le_of_ble_eq_true rfl⟩ ⟨rfl, rfl, rfl, rfl⟩

set_option maxRecDepth 100000 in
set_option maxHeartbeats 4000000 in
theorem ci_X8_25 {G : zG} {rf : Nat → Nat → Option Nat} {I : zI} {J : zJ} (hr : ∀ x, 25 ≤ x → x ≤ 26 → rf x = zrf x) (hi : ∀ x, 25 ≤ x → x ≤ 26 → I x = fun _ => 0) (hj : ∀ x, 25 ≤ x → x ≤ 26 → J x = fun _ => 0) : zK G mX8_init 1 [.ref 25] (24, zkd, zup rf 25 (rP 25 0)) I J (zB2 (25, zkd, rf) (fun I' J' => I' = I ∧ J' = J)) := by
  refine zK_of kX8_init.2.2.2.2.1 (Nat.le_of_ble_eq_true rfl) ?_
  show V G mX8_init 1 _ 0 [(0, .ref 25)] [] (0, 0) (24, zkd, zup rf 25 (rP 25 0)) I J
  refine V_aload_n dX8_init_0 rfl ?_
  refine V_obj dX8_init_1 jX8_5 (Nat.le_of_ble_eq_true rfl) (Nat.le_of_ble_eq_true rfl) ?_
  refine V_aload_n dX8_init_4 rfl ?_
  refine V_sipush (v := nI 240) dX8_init_5 rfl ?_
  refine W_newI (m' := 25) (a := 26) (c1' := 1) (c2' := 240) dX8_init_8 rfl rfl rfl ((zup_n (by decide)).trans ((hr 26 (by decide) (by decide)).trans rfl)) (hi 26 (by decide) (by decide)) (hj 26 (by decide) (by decide)) (Nat.lt_of_le_of_lt (Nat.le_of_ble_eq_true rfl) (show 100000 < 2 ^ 20 by decide)) ⟨rfl, rfl⟩ ⟨Nat.le_of_ble_eq_true rfl, Nat.le_of_ble_eq_true rfl⟩ ?_
  refine W_putR (n := 0) (k := 0) (b := 26) dX8_init_10 fX8_11 gX8_11 ⟨Nat.le_of_ble_eq_true rfl, Nat.le_of_ble_eq_true rfl⟩ rfl rfl rfl rfl rfl (fun _ => ⟨rfl, rfl⟩) (Nat.le_of_ble_eq_true rfl) rfl (by decide +kernel) ?_
  refine W_end (hr 25 (Nat.le_of_ble_eq_true rfl) (Nat.le_of_ble_eq_true rfl)) (by decide +kernel) ?_
  exact V_ret ⟨rfl, dX8_init_13⟩ ⟨Nat.le_of_ble_eq_true rfl, Nat.le_of_ble_eq_true rfl⟩ ⟨rfl, rfl, rfl, rfl⟩

set_option maxRecDepth 100000 in
set_option maxHeartbeats 4000000 in
theorem ci_X10_3 {G : zG} {rf : Nat → Nat → Option Nat} {I : zI} {J : zJ} (hr : ∀ x, 3 ≤ x → x ≤ 4 → rf x = zrf x) (hi : ∀ x, 3 ≤ x → x ≤ 4 → I x = fun _ => 0) (hj : ∀ x, 3 ≤ x → x ≤ 4 → J x = fun _ => 0) : zK G mX10_init 1 [.ref 3] (2, zkd, zup rf 3 (rP 3 0)) I J (zB2 (3, zkd, rf) (fun I' J' => I' = I ∧ J' = J)) := by
  refine zK_of kX10_init.2.2.2.2.1 (Nat.le_of_ble_eq_true rfl) ?_
  show V G mX10_init 1 _ 0 [(0, .ref 3)] [] (0, 0) (2, zkd, zup rf 3 (rP 3 0)) I J
  refine V_aload_n dX10_init_0 rfl ?_
  refine V_obj dX10_init_1 jX10_1 (Nat.le_of_ble_eq_true rfl) (Nat.le_of_ble_eq_true rfl) ?_
  refine V_aload_n dX10_init_4 rfl ?_
  refine V_sipush (v := nI 260) dX10_init_5 rfl ?_
  refine W_newB (m' := 3) (a := 4) (c1' := 1) (c2' := 260) dX10_init_8 rfl rfl rfl ((zup_n (by decide)).trans ((hr 4 (by decide) (by decide)).trans rfl)) (hi 4 (by decide) (by decide)) (hj 4 (by decide) (by decide)) (Nat.lt_of_le_of_lt (Nat.le_of_ble_eq_true rfl) (show 100000 < 2 ^ 20 by decide)) ⟨rfl, rfl⟩ ⟨Nat.le_of_ble_eq_true rfl, Nat.le_of_ble_eq_true rfl⟩ ?_
  refine W_putR (n := 0) (k := 0) (b := 4) dX10_init_10 fX10_9 gX10_9 ⟨Nat.le_of_ble_eq_true rfl, Nat.le_of_ble_eq_true rfl⟩ rfl rfl rfl rfl rfl (fun _ => ⟨rfl, rfl⟩) (Nat.le_of_ble_eq_true rfl) rfl (by decide +kernel) ?_
  refine W_end (hr 3 (Nat.le_of_ble_eq_true rfl) (Nat.le_of_ble_eq_true rfl)) (by decide +kernel) ?_
  exact V_ret ⟨rfl, dX10_init_13⟩ ⟨Nat.le_of_ble_eq_true rfl, Nat.le_of_ble_eq_true rfl⟩ ⟨rfl, rfl, rfl, rfl⟩

set_option maxRecDepth 100000 in
set_option maxHeartbeats 4000000 in
theorem ci_X1_5 {G : zG} {rf : Nat → Nat → Option Nat} {I : zI} {J : zJ} (hr : ∀ x, 5 ≤ x → x ≤ 8 → rf x = zrf x) (hi : ∀ x, 5 ≤ x → x ≤ 8 → I x = fun _ => 0) (hj : ∀ x, 5 ≤ x → x ≤ 8 → J x = fun _ => 0) : zK G mX1_init 2 [.ref 5] (4, zkd, zup rf 5 (rP 5 0)) I J (zB2 (7, zkd, rf) (fun I' J' => I' = I ∧ J' = J)) := by
  refine zK_of kX1_init.2.2.2.2.1 (Nat.le_of_ble_eq_true rfl) ?_
  show V G mX1_init 2 _ 0 [(0, .ref 5)] [] (0, 0) (4, zkd, zup rf 5 (rP 5 0)) I J
  refine V_aload_n dX1_init_0 rfl ?_
  refine V_obj dX1_init_1 jX1_3 (Nat.le_of_ble_eq_true rfl) (Nat.le_of_ble_eq_true rfl) ?_
  refine V_aload_n dX1_init_4 rfl ?_
  refine W_new (cc := 8) (m' := 5) (a := 6) (c1' := 1) (c2' := 3) dX1_init_5 (by decide) cX1_9 zins8 zini8 rfl rfl rfl (hi 6 (by decide) (by decide)) (hj 6 (by decide) (by decide)) ⟨rfl, rfl⟩ ⟨Nat.le_of_ble_eq_true rfl, Nat.le_of_ble_eq_true rfl⟩ ?_
  refine V_dup dX1_init_8 rfl ?_
  refine V_callI (As := []) (st := [.ref 6, .ref 5]) (a := 6) dX1_init_9 rfl kX8_init lX1_11 (Nat.le_of_ble_eq_true rfl) rfl rfl (Nat.le_of_ble_eq_true rfl) ⟨Nat.le_of_ble_eq_true rfl, Nat.le_of_ble_eq_true rfl⟩ (ci_X8_6 (fun x h1 h2 => (zup_n (by omega)).trans (hr x (by omega) (by omega))) (fun x h1 h2 => hi x (by omega) (by omega)) (fun x h1 h2 => hj x (by omega) (by omega))) ?_
  rintro _ _ _ _ ⟨rfl, rfl, rfl, rfl⟩
  refine W_putR (n := 0) (k := 0) (b := 6) dX1_init_12 fX1_12 gX1_12 ⟨Nat.le_of_ble_eq_true rfl, Nat.le_of_ble_eq_true rfl⟩ rfl rfl rfl rfl rfl (fun _ => ⟨rfl, rfl⟩) (Nat.le_of_ble_eq_true rfl) rfl (by decide +kernel) ?_
  refine V_aload_n dX1_init_15 rfl ?_
  refine V_sipush (v := nI 240) dX1_init_16 rfl ?_
  refine W_newB (m' := 7) (a := 8) (c1' := 3) (c2' := 483) dX1_init_19 rfl rfl rfl ((zup_n (by decide)).trans ((hr 8 (by decide) (by decide)).trans rfl)) (hi 8 (by decide) (by decide)) (hj 8 (by decide) (by decide)) (Nat.lt_of_le_of_lt (Nat.le_of_ble_eq_true rfl) (show 100000 < 2 ^ 20 by decide)) ⟨rfl, rfl⟩ ⟨Nat.le_of_ble_eq_true rfl, Nat.le_of_ble_eq_true rfl⟩ ?_
  refine W_putR (n := 1) (k := 1) (b := 8) dX1_init_21 fX1_18 gX1_18 ⟨Nat.le_of_ble_eq_true rfl, Nat.le_of_ble_eq_true rfl⟩ rfl rfl rfl rfl rfl (fun _ => ⟨rfl, rfl⟩) (Nat.le_of_ble_eq_true rfl) rfl (by decide +kernel) ?_
  refine W_end (hr 5 (Nat.le_of_ble_eq_true rfl) (Nat.le_of_ble_eq_true rfl)) (by decide +kernel) ?_
  exact V_ret ⟨rfl, dX1_init_24⟩ ⟨Nat.le_of_ble_eq_true rfl, Nat.le_of_ble_eq_true rfl⟩ ⟨rfl, rfl, rfl, rfl⟩

set_option maxRecDepth 100000 in
set_option maxHeartbeats 4000000 in
theorem ci_X7_34 {G : zG} {rf : Nat → Nat → Option Nat} {I : zI} {J : zJ} (hr : ∀ x, 34 ≤ x → x ≤ 35 → rf x = zrf x) (hi : ∀ x, 34 ≤ x → x ≤ 35 → I x = fun _ => 0) (hj : ∀ x, 34 ≤ x → x ≤ 35 → J x = fun _ => 0) : zK G mX7_init 1 [.ref 34] (33, zkd, zup rf 34 (rP 34 0)) I J (zB2 (34, zkd, rf) (fun I' J' => I' = I ∧ J' = J)) := by
  refine zK_of kX7_init.2.2.2.2.1 (Nat.le_of_ble_eq_true rfl) ?_
  show V G mX7_init 1 _ 0 [(0, .ref 34)] [] (0, 0) (33, zkd, zup rf 34 (rP 34 0)) I J
  refine V_aload_n dX7_init_0 rfl ?_
  refine V_obj dX7_init_1 jX7_3 (Nat.le_of_ble_eq_true rfl) (Nat.le_of_ble_eq_true rfl) ?_
  refine V_aload_n dX7_init_4 rfl ?_
  refine V_sipush (v := nI 392) dX7_init_5 rfl ?_
  refine W_newI (m' := 34) (a := 35) (c1' := 1) (c2' := 392) dX7_init_8 rfl rfl rfl ((zup_n (by decide)).trans ((hr 35 (by decide) (by decide)).trans rfl)) (hi 35 (by decide) (by decide)) (hj 35 (by decide) (by decide)) (Nat.lt_of_le_of_lt (Nat.le_of_ble_eq_true rfl) (show 100000 < 2 ^ 20 by decide)) ⟨rfl, rfl⟩ ⟨Nat.le_of_ble_eq_true rfl, Nat.le_of_ble_eq_true rfl⟩ ?_
  refine W_putR (n := 0) (k := 0) (b := 35) dX7_init_10 fX7_11 gX7_11 ⟨Nat.le_of_ble_eq_true rfl, Nat.le_of_ble_eq_true rfl⟩ rfl rfl rfl rfl rfl (fun _ => ⟨rfl, rfl⟩) (Nat.le_of_ble_eq_true rfl) rfl (by decide +kernel) ?_
  refine W_end (hr 34 (Nat.le_of_ble_eq_true rfl) (Nat.le_of_ble_eq_true rfl)) (by decide +kernel) ?_
  exact V_ret ⟨rfl, dX7_init_13⟩ ⟨Nat.le_of_ble_eq_true rfl, Nat.le_of_ble_eq_true rfl⟩ ⟨rfl, rfl, rfl, rfl⟩

set_option maxRecDepth 100000 in
set_option maxHeartbeats 4000000 in
theorem ci_X6_36 {G : zG} {rf : Nat → Nat → Option Nat} {I : zI} {J : zJ} (hr : ∀ x, 36 ≤ x → x ≤ 40 → rf x = zrf x) (hi : ∀ x, 36 ≤ x → x ≤ 40 → I x = fun _ => 0) (hj : ∀ x, 36 ≤ x → x ≤ 40 → J x = fun _ => 0) : zK G mX6_init 1 [.ref 36] (35, zkd, zup rf 36 (rP 36 0)) I J (zB2 (39, zkd, rf) (fun I' J' => I' = zwr I 36 5 (-1) ∧ J' = J)) := by
  refine zK_of kX6_init.2.2.2.2.1 (Nat.le_of_ble_eq_true rfl) ?_
  show V G mX6_init 1 _ 0 [(0, .ref 36)] [] (0, 0) (35, zkd, zup rf 36 (rP 36 0)) I J
  refine V_aload_n dX6_init_0 rfl ?_
  refine V_obj dX6_init_1 jX6_3 (Nat.le_of_ble_eq_true rfl) (Nat.le_of_ble_eq_true rfl) ?_
  refine V_aload_n dX6_init_4 rfl ?_
  refine V_bipush (v := nI 6) dX6_init_5 rfl ?_
  refine W_newI (m' := 36) (a := 37) (c1' := 1) (c2' := 6) dX6_init_7 rfl rfl rfl ((zup_n (by decide)).trans ((hr 37 (by decide) (by decide)).trans rfl)) (hi 37 (by decide) (by decide)) (hj 37 (by decide) (by decide)) (Nat.lt_of_le_of_lt (Nat.le_of_ble_eq_true rfl) (show 100000 < 2 ^ 20 by decide)) ⟨rfl, rfl⟩ ⟨Nat.le_of_ble_eq_true rfl, Nat.le_of_ble_eq_true rfl⟩ ?_
  refine W_putR (n := 0) (k := 0) (b := 37) dX6_init_9 fX6_9 gX6_9 ⟨Nat.le_of_ble_eq_true rfl, Nat.le_of_ble_eq_true rfl⟩ rfl rfl rfl rfl rfl (fun _ => ⟨rfl, rfl⟩) (Nat.le_of_ble_eq_true rfl) rfl (by decide +kernel) ?_
  refine V_aload_n dX6_init_12 rfl ?_
  refine V_bipush (v := nI 6) dX6_init_13 rfl ?_
  refine W_newI (m' := 37) (a := 38) (c1' := 2) (c2' := 12) dX6_init_15 rfl rfl rfl ((zup_n (by decide)).trans ((hr 38 (by decide) (by decide)).trans rfl)) (hi 38 (by decide) (by decide)) (hj 38 (by decide) (by decide)) (Nat.lt_of_le_of_lt (Nat.le_of_ble_eq_true rfl) (show 100000 < 2 ^ 20 by decide)) ⟨rfl, rfl⟩ ⟨Nat.le_of_ble_eq_true rfl, Nat.le_of_ble_eq_true rfl⟩ ?_
  refine W_putR (n := 1) (k := 1) (b := 38) dX6_init_17 fX6_15 gX6_15 ⟨Nat.le_of_ble_eq_true rfl, Nat.le_of_ble_eq_true rfl⟩ rfl rfl rfl rfl rfl (fun _ => ⟨rfl, rfl⟩) (Nat.le_of_ble_eq_true rfl) rfl (by decide +kernel) ?_
  refine V_aload_n dX6_init_20 rfl ?_
  refine V_bipush (v := nI 7) dX6_init_21 rfl ?_
  refine W_newI (m' := 38) (a := 39) (c1' := 3) (c2' := 19) dX6_init_23 rfl rfl rfl ((zup_n (by decide)).trans ((hr 39 (by decide) (by decide)).trans rfl)) (hi 39 (by decide) (by decide)) (hj 39 (by decide) (by decide)) (Nat.lt_of_le_of_lt (Nat.le_of_ble_eq_true rfl) (show 100000 < 2 ^ 20 by decide)) ⟨rfl, rfl⟩ ⟨Nat.le_of_ble_eq_true rfl, Nat.le_of_ble_eq_true rfl⟩ ?_
  refine W_putR (n := 2) (k := 2) (b := 39) dX6_init_25 fX6_18 gX6_18 ⟨Nat.le_of_ble_eq_true rfl, Nat.le_of_ble_eq_true rfl⟩ rfl rfl rfl rfl rfl (fun _ => ⟨rfl, rfl⟩) (Nat.le_of_ble_eq_true rfl) rfl (by decide +kernel) ?_
  refine V_aload_n dX6_init_28 rfl ?_
  refine V_bipush (v := nI 7) dX6_init_29 rfl ?_
  refine W_newI (m' := 39) (a := 40) (c1' := 4) (c2' := 26) dX6_init_31 rfl rfl rfl ((zup_n (by decide)).trans ((hr 40 (by decide) (by decide)).trans rfl)) (hi 40 (by decide) (by decide)) (hj 40 (by decide) (by decide)) (Nat.lt_of_le_of_lt (Nat.le_of_ble_eq_true rfl) (show 100000 < 2 ^ 20 by decide)) ⟨rfl, rfl⟩ ⟨Nat.le_of_ble_eq_true rfl, Nat.le_of_ble_eq_true rfl⟩ ?_
  refine W_putR (n := 3) (k := 3) (b := 40) dX6_init_33 fX6_21 gX6_21 ⟨Nat.le_of_ble_eq_true rfl, Nat.le_of_ble_eq_true rfl⟩ rfl rfl rfl rfl rfl (fun _ => ⟨rfl, rfl⟩) (Nat.le_of_ble_eq_true rfl) rfl (by decide +kernel) ?_
  refine V_aload_n dX6_init_36 rfl ?_
  refine V_iconst (v := (-1)) dX6_init_37 rfl ?_
  refine V_putW dX6_init_38 fX6_24 ⟨Nat.le_of_ble_eq_true rfl, Nat.le_of_ble_eq_true rfl⟩ rfl rfl rfl ⟨rfl, rfl⟩ ?_
  refine W_end (hr 36 (Nat.le_of_ble_eq_true rfl) (Nat.le_of_ble_eq_true rfl)) (by decide +kernel) ?_
  exact V_ret ⟨rfl, dX6_init_41⟩ ⟨Nat.le_of_ble_eq_true rfl, Nat.le_of_ble_eq_true rfl⟩ ⟨rfl, rfl, rfl, rfl⟩

set_option maxRecDepth 100000 in
set_option maxHeartbeats 4000000 in
theorem ci_X5_41 {G : zG} {rf : Nat → Nat → Option Nat} {I : zI} {J : zJ} (hr : ∀ x, 41 ≤ x → x ≤ 43 → rf x = zrf x) (hi : ∀ x, 41 ≤ x → x ≤ 43 → I x = fun _ => 0) (hj : ∀ x, 41 ≤ x → x ≤ 43 → J x = fun _ => 0) : zK G mX5_init 1 [.ref 41] (40, zkd, zup rf 41 (rP 41 0)) I J (zB2 (42, zkd, rf) (fun I' J' => I' = I ∧ J' = J)) := by
  refine zK_of kX5_init.2.2.2.2.1 (Nat.le_of_ble_eq_true rfl) ?_
  show V G mX5_init 1 _ 0 [(0, .ref 41)] [] (0, 0) (40, zkd, zup rf 41 (rP 41 0)) I J
  refine V_aload_n dX5_init_0 rfl ?_
  refine V_obj dX5_init_1 jX5_3 (Nat.le_of_ble_eq_true rfl) (Nat.le_of_ble_eq_true rfl) ?_
  refine V_aload_n dX5_init_4 rfl ?_
  refine V_bipush (v := nI 64) dX5_init_5 rfl ?_
  refine W_newI (m' := 41) (a := 42) (c1' := 1) (c2' := 64) dX5_init_7 rfl rfl rfl ((zup_n (by decide)).trans ((hr 42 (by decide) (by decide)).trans rfl)) (hi 42 (by decide) (by decide)) (hj 42 (by decide) (by decide)) (Nat.lt_of_le_of_lt (Nat.le_of_ble_eq_true rfl) (show 100000 < 2 ^ 20 by decide)) ⟨rfl, rfl⟩ ⟨Nat.le_of_ble_eq_true rfl, Nat.le_of_ble_eq_true rfl⟩ ?_
  refine W_putR (n := 0) (k := 0) (b := 42) dX5_init_9 fX5_11 gX5_11 ⟨Nat.le_of_ble_eq_true rfl, Nat.le_of_ble_eq_true rfl⟩ rfl rfl rfl rfl rfl (fun _ => ⟨rfl, rfl⟩) (Nat.le_of_ble_eq_true rfl) rfl (by decide +kernel) ?_
  refine V_aload_n dX5_init_12 rfl ?_
  refine V_bipush (v := nI 64) dX5_init_13 rfl ?_
  refine W_newI (m' := 42) (a := 43) (c1' := 2) (c2' := 128) dX5_init_15 rfl rfl rfl ((zup_n (by decide)).trans ((hr 43 (by decide) (by decide)).trans rfl)) (hi 43 (by decide) (by decide)) (hj 43 (by decide) (by decide)) (Nat.lt_of_le_of_lt (Nat.le_of_ble_eq_true rfl) (show 100000 < 2 ^ 20 by decide)) ⟨rfl, rfl⟩ ⟨Nat.le_of_ble_eq_true rfl, Nat.le_of_ble_eq_true rfl⟩ ?_
  refine W_putR (n := 1) (k := 1) (b := 43) dX5_init_17 fX5_15 gX5_15 ⟨Nat.le_of_ble_eq_true rfl, Nat.le_of_ble_eq_true rfl⟩ rfl rfl rfl rfl rfl (fun _ => ⟨rfl, rfl⟩) (Nat.le_of_ble_eq_true rfl) rfl (by decide +kernel) ?_
  refine W_end (hr 41 (Nat.le_of_ble_eq_true rfl) (Nat.le_of_ble_eq_true rfl)) (by decide +kernel) ?_
  exact V_ret ⟨rfl, dX5_init_20⟩ ⟨Nat.le_of_ble_eq_true rfl, Nat.le_of_ble_eq_true rfl⟩ ⟨rfl, rfl, rfl, rfl⟩

set_option maxRecDepth 100000 in
set_option maxHeartbeats 4000000 in
theorem ci_X0_44 {G : zG} {rf : Nat → Nat → Option Nat} {I : zI} {J : zJ} (hr : ∀ x, 44 ≤ x → x ≤ 48 → rf x = zrf x) (hi : ∀ x, 44 ≤ x → x ≤ 48 → I x = fun _ => 0) (hj : ∀ x, 44 ≤ x → x ≤ 48 → J x = fun _ => 0) : zK G mX0_init 1 [.ref 44] (43, zkd, zup rf 44 (rP 44 0)) I J (zB2 (47, zkd, rf) (fun I' J' => I' = I ∧ J' = J)) := by
  refine zK_of kX0_init.2.2.2.2.1 (Nat.le_of_ble_eq_true rfl) ?_
  show V G mX0_init 1 _ 0 [(0, .ref 44)] [] (0, 0) (43, zkd, zup rf 44 (rP 44 0)) I J
  refine V_aload_n dX0_init_0 rfl ?_
  refine V_obj dX0_init_1 jX0_3 (Nat.le_of_ble_eq_true rfl) (Nat.le_of_ble_eq_true rfl) ?_
  refine V_aload_n dX0_init_4 rfl ?_
  refine V_iconst (v := nI 5) dX0_init_5 rfl ?_
  refine W_newI (m' := 44) (a := 45) (c1' := 1) (c2' := 5) dX0_init_6 rfl rfl rfl ((zup_n (by decide)).trans ((hr 45 (by decide) (by decide)).trans rfl)) (hi 45 (by decide) (by decide)) (hj 45 (by decide) (by decide)) (Nat.lt_of_le_of_lt (Nat.le_of_ble_eq_true rfl) (show 100000 < 2 ^ 20 by decide)) ⟨rfl, rfl⟩ ⟨Nat.le_of_ble_eq_true rfl, Nat.le_of_ble_eq_true rfl⟩ ?_
  refine W_putR (n := 0) (k := 0) (b := 45) dX0_init_8 fX0_9 gX0_9 ⟨Nat.le_of_ble_eq_true rfl, Nat.le_of_ble_eq_true rfl⟩ rfl rfl rfl rfl rfl (fun _ => ⟨rfl, rfl⟩) (Nat.le_of_ble_eq_true rfl) rfl (by decide +kernel) ?_
  refine V_aload_n dX0_init_11 rfl ?_
  refine V_iconst (v := nI 5) dX0_init_12 rfl ?_
  refine W_newI (m' := 45) (a := 46) (c1' := 2) (c2' := 10) dX0_init_13 rfl rfl rfl ((zup_n (by decide)).trans ((hr 46 (by decide) (by decide)).trans rfl)) (hi 46 (by decide) (by decide)) (hj 46 (by decide) (by decide)) (Nat.lt_of_le_of_lt (Nat.le_of_ble_eq_true rfl) (show 100000 < 2 ^ 20 by decide)) ⟨rfl, rfl⟩ ⟨Nat.le_of_ble_eq_true rfl, Nat.le_of_ble_eq_true rfl⟩ ?_
  refine W_putR (n := 1) (k := 1) (b := 46) dX0_init_15 fX0_15 gX0_15 ⟨Nat.le_of_ble_eq_true rfl, Nat.le_of_ble_eq_true rfl⟩ rfl rfl rfl rfl rfl (fun _ => ⟨rfl, rfl⟩) (Nat.le_of_ble_eq_true rfl) rfl (by decide +kernel) ?_
  refine V_aload_n dX0_init_18 rfl ?_
  refine V_bipush (v := nI 7) dX0_init_19 rfl ?_
  refine W_newI (m' := 46) (a := 47) (c1' := 3) (c2' := 17) dX0_init_21 rfl rfl rfl ((zup_n (by decide)).trans ((hr 47 (by decide) (by decide)).trans rfl)) (hi 47 (by decide) (by decide)) (hj 47 (by decide) (by decide)) (Nat.lt_of_le_of_lt (Nat.le_of_ble_eq_true rfl) (show 100000 < 2 ^ 20 by decide)) ⟨rfl, rfl⟩ ⟨Nat.le_of_ble_eq_true rfl, Nat.le_of_ble_eq_true rfl⟩ ?_
  refine W_putR (n := 2) (k := 2) (b := 47) dX0_init_23 fX0_18 gX0_18 ⟨Nat.le_of_ble_eq_true rfl, Nat.le_of_ble_eq_true rfl⟩ rfl rfl rfl rfl rfl (fun _ => ⟨rfl, rfl⟩) (Nat.le_of_ble_eq_true rfl) rfl (by decide +kernel) ?_
  refine V_aload_n dX0_init_26 rfl ?_
  refine V_bipush (v := nI 7) dX0_init_27 rfl ?_
  refine W_newI (m' := 47) (a := 48) (c1' := 4) (c2' := 24) dX0_init_29 rfl rfl rfl ((zup_n (by decide)).trans ((hr 48 (by decide) (by decide)).trans rfl)) (hi 48 (by decide) (by decide)) (hj 48 (by decide) (by decide)) (Nat.lt_of_le_of_lt (Nat.le_of_ble_eq_true rfl) (show 100000 < 2 ^ 20 by decide)) ⟨rfl, rfl⟩ ⟨Nat.le_of_ble_eq_true rfl, Nat.le_of_ble_eq_true rfl⟩ ?_
  refine W_putR (n := 3) (k := 3) (b := 48) dX0_init_31 fX0_21 gX0_21 ⟨Nat.le_of_ble_eq_true rfl, Nat.le_of_ble_eq_true rfl⟩ rfl rfl rfl rfl rfl (fun _ => ⟨rfl, rfl⟩) (Nat.le_of_ble_eq_true rfl) rfl (by decide +kernel) ?_
  refine W_end (hr 44 (Nat.le_of_ble_eq_true rfl) (Nat.le_of_ble_eq_true rfl)) (by decide +kernel) ?_
  exact V_ret ⟨rfl, dX0_init_34⟩ ⟨Nat.le_of_ble_eq_true rfl, Nat.le_of_ble_eq_true rfl⟩ ⟨rfl, rfl, rfl, rfl⟩

set_option maxRecDepth 100000 in
set_option maxHeartbeats 4000000 in
theorem ci_X0_53 {G : zG} {rf : Nat → Nat → Option Nat} {I : zI} {J : zJ} (hr : ∀ x, 53 ≤ x → x ≤ 57 → rf x = zrf x) (hi : ∀ x, 53 ≤ x → x ≤ 57 → I x = fun _ => 0) (hj : ∀ x, 53 ≤ x → x ≤ 57 → J x = fun _ => 0) : zK G mX0_init 1 [.ref 53] (52, zkd, zup rf 53 (rP 53 0)) I J (zB2 (56, zkd, rf) (fun I' J' => I' = I ∧ J' = J)) := by
  refine zK_of kX0_init.2.2.2.2.1 (Nat.le_of_ble_eq_true rfl) ?_
  show V G mX0_init 1 _ 0 [(0, .ref 53)] [] (0, 0) (52, zkd, zup rf 53 (rP 53 0)) I J
  refine V_aload_n dX0_init_0 rfl ?_
  refine V_obj dX0_init_1 jX0_3 (Nat.le_of_ble_eq_true rfl) (Nat.le_of_ble_eq_true rfl) ?_
  refine V_aload_n dX0_init_4 rfl ?_
  refine V_iconst (v := nI 5) dX0_init_5 rfl ?_
  refine W_newI (m' := 53) (a := 54) (c1' := 1) (c2' := 5) dX0_init_6 rfl rfl rfl ((zup_n (by decide)).trans ((hr 54 (by decide) (by decide)).trans rfl)) (hi 54 (by decide) (by decide)) (hj 54 (by decide) (by decide)) (Nat.lt_of_le_of_lt (Nat.le_of_ble_eq_true rfl) (show 100000 < 2 ^ 20 by decide)) ⟨rfl, rfl⟩ ⟨Nat.le_of_ble_eq_true rfl, Nat.le_of_ble_eq_true rfl⟩ ?_
  refine W_putR (n := 0) (k := 0) (b := 54) dX0_init_8 fX0_9 gX0_9 ⟨Nat.le_of_ble_eq_true rfl, Nat.le_of_ble_eq_true rfl⟩ rfl rfl rfl rfl rfl (fun _ => ⟨rfl, rfl⟩) (Nat.le_of_ble_eq_true rfl) rfl (by decide +kernel) ?_
  refine V_aload_n dX0_init_11 rfl ?_
  refine V_iconst (v := nI 5) dX0_init_12 rfl ?_
  refine W_newI (m' := 54) (a := 55) (c1' := 2) (c2' := 10) dX0_init_13 rfl rfl rfl ((zup_n (by decide)).trans ((hr 55 (by decide) (by decide)).trans rfl)) (hi 55 (by decide) (by decide)) (hj 55 (by decide) (by decide)) (Nat.lt_of_le_of_lt (Nat.le_of_ble_eq_true rfl) (show 100000 < 2 ^ 20 by decide)) ⟨rfl, rfl⟩ ⟨Nat.le_of_ble_eq_true rfl, Nat.le_of_ble_eq_true rfl⟩ ?_
  refine W_putR (n := 1) (k := 1) (b := 55) dX0_init_15 fX0_15 gX0_15 ⟨Nat.le_of_ble_eq_true rfl, Nat.le_of_ble_eq_true rfl⟩ rfl rfl rfl rfl rfl (fun _ => ⟨rfl, rfl⟩) (Nat.le_of_ble_eq_true rfl) rfl (by decide +kernel) ?_
  refine V_aload_n dX0_init_18 rfl ?_
  refine V_bipush (v := nI 7) dX0_init_19 rfl ?_
  refine W_newI (m' := 55) (a := 56) (c1' := 3) (c2' := 17) dX0_init_21 rfl rfl rfl ((zup_n (by decide)).trans ((hr 56 (by decide) (by decide)).trans rfl)) (hi 56 (by decide) (by decide)) (hj 56 (by decide) (by decide)) (Nat.lt_of_le_of_lt (Nat.le_of_ble_eq_true rfl) (show 100000 < 2 ^ 20 by decide)) ⟨rfl, rfl⟩ ⟨Nat.le_of_ble_eq_true rfl, Nat.le_of_ble_eq_true rfl⟩ ?_
  refine W_putR (n := 2) (k := 2) (b := 56) dX0_init_23 fX0_18 gX0_18 ⟨Nat.le_of_ble_eq_true rfl, Nat.le_of_ble_eq_true rfl⟩ rfl rfl rfl rfl rfl (fun _ => ⟨rfl, rfl⟩) (Nat.le_of_ble_eq_true rfl) rfl (by decide +kernel) ?_
  refine V_aload_n dX0_init_26 rfl ?_
  refine V_bipush (v := nI 7) dX0_init_27 rfl ?_
  refine W_newI (m' := 56) (a := 57) (c1' := 4) (c2' := 24) dX0_init_29 rfl rfl rfl ((zup_n (by decide)).trans ((hr 57 (by decide) (by decide)).trans rfl)) (hi 57 (by decide) (by decide)) (hj 57 (by decide) (by decide)) (Nat.lt_of_le_of_lt (Nat.le_of_ble_eq_true rfl) (show 100000 < 2 ^ 20 by decide)) ⟨rfl, rfl⟩ ⟨Nat.le_of_ble_eq_true rfl, Nat.le_of_ble_eq_true rfl⟩ ?_
  refine W_putR (n := 3) (k := 3) (b := 57) dX0_init_31 fX0_21 gX0_21 ⟨Nat.le_of_ble_eq_true rfl, Nat.le_of_ble_eq_true rfl⟩ rfl rfl rfl rfl rfl (fun _ => ⟨rfl, rfl⟩) (Nat.le_of_ble_eq_true rfl) rfl (by decide +kernel) ?_
  refine W_end (hr 53 (Nat.le_of_ble_eq_true rfl) (Nat.le_of_ble_eq_true rfl)) (by decide +kernel) ?_
  exact V_ret ⟨rfl, dX0_init_34⟩ ⟨Nat.le_of_ble_eq_true rfl, Nat.le_of_ble_eq_true rfl⟩ ⟨rfl, rfl, rfl, rfl⟩

set_option maxRecDepth 100000 in
set_option maxHeartbeats 4000000 in
theorem ci_X4_49 {G : zG} {rf : Nat → Nat → Option Nat} {I : zI} {J : zJ} (hr : ∀ x, 49 ≤ x → x ≤ 52 → rf x = zrf x) (hi : ∀ x, 49 ≤ x → x ≤ 52 → I x = fun _ => 0) (hj : ∀ x, 49 ≤ x → x ≤ 52 → J x = fun _ => 0) : zK G mX4_init 1 [.ref 49] (48, zkd, zup rf 49 (rP 49 0)) I J (zB2 (51, zkd, rf) (fun I' J' => I' = zwr (zwr I 49 4 (nI 50)) 49 5 (nI 50) ∧ J' = J)) := by
  refine zK_of kX4_init.2.2.2.2.1 (Nat.le_of_ble_eq_true rfl) ?_
  show V G mX4_init 1 _ 0 [(0, .ref 49)] [] (0, 0) (48, zkd, zup rf 49 (rP 49 0)) I J
  refine V_aload_n dX4_init_0 rfl ?_
  refine V_obj dX4_init_1 jX4_3 (Nat.le_of_ble_eq_true rfl) (Nat.le_of_ble_eq_true rfl) ?_
  refine V_aload_n dX4_init_4 rfl ?_
  refine V_bipush (v := nI 12) dX4_init_5 rfl ?_
  refine W_newI (m' := 49) (a := 50) (c1' := 1) (c2' := 12) dX4_init_7 rfl rfl rfl ((zup_n (by decide)).trans ((hr 50 (by decide) (by decide)).trans rfl)) (hi 50 (by decide) (by decide)) (hj 50 (by decide) (by decide)) (Nat.lt_of_le_of_lt (Nat.le_of_ble_eq_true rfl) (show 100000 < 2 ^ 20 by decide)) ⟨rfl, rfl⟩ ⟨Nat.le_of_ble_eq_true rfl, Nat.le_of_ble_eq_true rfl⟩ ?_
  refine W_putR (n := 0) (k := 0) (b := 50) dX4_init_9 fX4_11 gX4_11 ⟨Nat.le_of_ble_eq_true rfl, Nat.le_of_ble_eq_true rfl⟩ rfl rfl rfl rfl rfl (fun _ => ⟨rfl, rfl⟩) (Nat.le_of_ble_eq_true rfl) rfl (by decide +kernel) ?_
  refine V_aload_n dX4_init_12 rfl ?_
  refine V_bipush (v := nI 12) dX4_init_13 rfl ?_
  refine W_newI (m' := 50) (a := 51) (c1' := 2) (c2' := 24) dX4_init_15 rfl rfl rfl ((zup_n (by decide)).trans ((hr 51 (by decide) (by decide)).trans rfl)) (hi 51 (by decide) (by decide)) (hj 51 (by decide) (by decide)) (Nat.lt_of_le_of_lt (Nat.le_of_ble_eq_true rfl) (show 100000 < 2 ^ 20 by decide)) ⟨rfl, rfl⟩ ⟨Nat.le_of_ble_eq_true rfl, Nat.le_of_ble_eq_true rfl⟩ ?_
  refine W_putR (n := 1) (k := 1) (b := 51) dX4_init_17 fX4_15 gX4_15 ⟨Nat.le_of_ble_eq_true rfl, Nat.le_of_ble_eq_true rfl⟩ rfl rfl rfl rfl rfl (fun _ => ⟨rfl, rfl⟩) (Nat.le_of_ble_eq_true rfl) rfl (by decide +kernel) ?_
  refine V_aload_n dX4_init_20 rfl ?_
  refine V_bipush (v := nI 12) dX4_init_21 rfl ?_
  refine W_newI (m' := 51) (a := 52) (c1' := 3) (c2' := 36) dX4_init_23 rfl rfl rfl ((zup_n (by decide)).trans ((hr 52 (by decide) (by decide)).trans rfl)) (hi 52 (by decide) (by decide)) (hj 52 (by decide) (by decide)) (Nat.lt_of_le_of_lt (Nat.le_of_ble_eq_true rfl) (show 100000 < 2 ^ 20 by decide)) ⟨rfl, rfl⟩ ⟨Nat.le_of_ble_eq_true rfl, Nat.le_of_ble_eq_true rfl⟩ ?_
  refine W_putR (n := 2) (k := 2) (b := 52) dX4_init_25 fX4_18 gX4_18 ⟨Nat.le_of_ble_eq_true rfl, Nat.le_of_ble_eq_true rfl⟩ rfl rfl rfl rfl rfl (fun _ => ⟨rfl, rfl⟩) (Nat.le_of_ble_eq_true rfl) rfl (by decide +kernel) ?_
  refine V_aload_n dX4_init_28 rfl ?_
  refine V_bipush (v := nI 50) dX4_init_29 rfl ?_
  refine V_putW dX4_init_31 fX4_21 ⟨Nat.le_of_ble_eq_true rfl, Nat.le_of_ble_eq_true rfl⟩ rfl rfl rfl ⟨rfl, rfl⟩ ?_
  refine V_aload_n dX4_init_34 rfl ?_
  refine V_bipush (v := nI 50) dX4_init_35 rfl ?_
  refine V_putW dX4_init_37 fX4_25 ⟨Nat.le_of_ble_eq_true rfl, Nat.le_of_ble_eq_true rfl⟩ rfl rfl rfl ⟨rfl, rfl⟩ ?_
  refine W_end (hr 49 (Nat.le_of_ble_eq_true rfl) (Nat.le_of_ble_eq_true rfl)) (by decide +kernel) ?_
  exact V_ret ⟨rfl, dX4_init_40⟩ ⟨Nat.le_of_ble_eq_true rfl, Nat.le_of_ble_eq_true rfl⟩ ⟨rfl, rfl, rfl, rfl⟩

set_option maxRecDepth 100000 in
set_option maxHeartbeats 4000000 in
theorem ci_X4_58 {G : zG} {rf : Nat → Nat → Option Nat} {I : zI} {J : zJ} (hr : ∀ x, 58 ≤ x → x ≤ 61 → rf x = zrf x) (hi : ∀ x, 58 ≤ x → x ≤ 61 → I x = fun _ => 0) (hj : ∀ x, 58 ≤ x → x ≤ 61 → J x = fun _ => 0) : zK G mX4_init 1 [.ref 58] (57, zkd, zup rf 58 (rP 58 0)) I J (zB2 (60, zkd, rf) (fun I' J' => I' = zwr (zwr I 58 4 (nI 50)) 58 5 (nI 50) ∧ J' = J)) := by
  refine zK_of kX4_init.2.2.2.2.1 (Nat.le_of_ble_eq_true rfl) ?_
  show V G mX4_init 1 _ 0 [(0, .ref 58)] [] (0, 0) (57, zkd, zup rf 58 (rP 58 0)) I J
  refine V_aload_n dX4_init_0 rfl ?_
  refine V_obj dX4_init_1 jX4_3 (Nat.le_of_ble_eq_true rfl) (Nat.le_of_ble_eq_true rfl) ?_
  refine V_aload_n dX4_init_4 rfl ?_
  refine V_bipush (v := nI 12) dX4_init_5 rfl ?_
  refine W_newI (m' := 58) (a := 59) (c1' := 1) (c2' := 12) dX4_init_7 rfl rfl rfl ((zup_n (by decide)).trans ((hr 59 (by decide) (by decide)).trans rfl)) (hi 59 (by decide) (by decide)) (hj 59 (by decide) (by decide)) (Nat.lt_of_le_of_lt (Nat.le_of_ble_eq_true rfl) (show 100000 < 2 ^ 20 by decide)) ⟨rfl, rfl⟩ ⟨Nat.le_of_ble_eq_true rfl, Nat.le_of_ble_eq_true rfl⟩ ?_
  refine W_putR (n := 0) (k := 0) (b := 59) dX4_init_9 fX4_11 gX4_11 ⟨Nat.le_of_ble_eq_true rfl, Nat.le_of_ble_eq_true rfl⟩ rfl rfl rfl rfl rfl (fun _ => ⟨rfl, rfl⟩) (Nat.le_of_ble_eq_true rfl) rfl (by decide +kernel) ?_
  refine V_aload_n dX4_init_12 rfl ?_
  refine V_bipush (v := nI 12) dX4_init_13 rfl ?_
  refine W_newI (m' := 59) (a := 60) (c1' := 2) (c2' := 24) dX4_init_15 rfl rfl rfl ((zup_n (by decide)).trans ((hr 60 (by decide) (by decide)).trans rfl)) (hi 60 (by decide) (by decide)) (hj 60 (by decide) (by decide)) (Nat.lt_of_le_of_lt (Nat.le_of_ble_eq_true rfl) (show 100000 < 2 ^ 20 by decide)) ⟨rfl, rfl⟩ ⟨Nat.le_of_ble_eq_true rfl, Nat.le_of_ble_eq_true rfl⟩ ?_
  refine W_putR (n := 1) (k := 1) (b := 60) dX4_init_17 fX4_15 gX4_15 ⟨Nat.le_of_ble_eq_true rfl, Nat.le_of_ble_eq_true rfl⟩ rfl rfl rfl rfl rfl (fun _ => ⟨rfl, rfl⟩) (Nat.le_of_ble_eq_true rfl) rfl (by decide +kernel) ?_
  refine V_aload_n dX4_init_20 rfl ?_
  refine V_bipush (v := nI 12) dX4_init_21 rfl ?_
  refine W_newI (m' := 60) (a := 61) (c1' := 3) (c2' := 36) dX4_init_23 rfl rfl rfl ((zup_n (by decide)).trans ((hr 61 (by decide) (by decide)).trans rfl)) (hi 61 (by decide) (by decide)) (hj 61 (by decide) (by decide)) (Nat.lt_of_le_of_lt (Nat.le_of_ble_eq_true rfl) (show 100000 < 2 ^ 20 by decide)) ⟨rfl, rfl⟩ ⟨Nat.le_of_ble_eq_true rfl, Nat.le_of_ble_eq_true rfl⟩ ?_
  refine W_putR (n := 2) (k := 2) (b := 61) dX4_init_25 fX4_18 gX4_18 ⟨Nat.le_of_ble_eq_true rfl, Nat.le_of_ble_eq_true rfl⟩ rfl rfl rfl rfl rfl (fun _ => ⟨rfl, rfl⟩) (Nat.le_of_ble_eq_true rfl) rfl (by decide +kernel) ?_
  refine V_aload_n dX4_init_28 rfl ?_
  refine V_bipush (v := nI 50) dX4_init_29 rfl ?_
  refine V_putW dX4_init_31 fX4_21 ⟨Nat.le_of_ble_eq_true rfl, Nat.le_of_ble_eq_true rfl⟩ rfl rfl rfl ⟨rfl, rfl⟩ ?_
  refine V_aload_n dX4_init_34 rfl ?_
  refine V_bipush (v := nI 50) dX4_init_35 rfl ?_
  refine V_putW dX4_init_37 fX4_25 ⟨Nat.le_of_ble_eq_true rfl, Nat.le_of_ble_eq_true rfl⟩ rfl rfl rfl ⟨rfl, rfl⟩ ?_
  refine W_end (hr 58 (Nat.le_of_ble_eq_true rfl) (Nat.le_of_ble_eq_true rfl)) (by decide +kernel) ?_
  exact V_ret ⟨rfl, dX4_init_40⟩ ⟨Nat.le_of_ble_eq_true rfl, Nat.le_of_ble_eq_true rfl⟩ ⟨rfl, rfl, rfl, rfl⟩

set_option maxRecDepth 100000 in
set_option maxHeartbeats 4000000 in
theorem ci_X9_27 {G : zG} {rf : Nat → Nat → Option Nat} {I : zI} {J : zJ} (hr : ∀ x, 27 ≤ x → x ≤ 29 → rf x = zrf x) (hi : ∀ x, 27 ≤ x → x ≤ 29 → I x = fun _ => 0) (hj : ∀ x, 27 ≤ x → x ≤ 29 → J x = fun _ => 0) : zK G mX9_init 1 [.ref 27] (26, zkd, zup rf 27 (rP 27 0)) I J (zB2 (28, zkd, rf) (fun I' J' => I' = I ∧ J' = J)) := by
  refine zK_of kX9_init.2.2.2.2.1 (Nat.le_of_ble_eq_true rfl) ?_
  show V G mX9_init 1 _ 0 [(0, .ref 27)] [] (0, 0) (26, zkd, zup rf 27 (rP 27 0)) I J
  refine V_aload_n dX9_init_0 rfl ?_
  refine V_obj dX9_init_1 jX9_1 (Nat.le_of_ble_eq_true rfl) (Nat.le_of_ble_eq_true rfl) ?_
  refine V_aload_n dX9_init_4 rfl ?_
  refine V_bipush (v := nI 9) dX9_init_5 rfl ?_
  refine W_newI (m' := 27) (a := 28) (c1' := 1) (c2' := 9) dX9_init_7 rfl rfl rfl ((zup_n (by decide)).trans ((hr 28 (by decide) (by decide)).trans rfl)) (hi 28 (by decide) (by decide)) (hj 28 (by decide) (by decide)) (Nat.lt_of_le_of_lt (Nat.le_of_ble_eq_true rfl) (show 100000 < 2 ^ 20 by decide)) ⟨rfl, rfl⟩ ⟨Nat.le_of_ble_eq_true rfl, Nat.le_of_ble_eq_true rfl⟩ ?_
  refine W_putR (n := 0) (k := 0) (b := 28) dX9_init_9 fX9_7 gX9_7 ⟨Nat.le_of_ble_eq_true rfl, Nat.le_of_ble_eq_true rfl⟩ rfl rfl rfl rfl rfl (fun _ => ⟨rfl, rfl⟩) (Nat.le_of_ble_eq_true rfl) rfl (by decide +kernel) ?_
  refine V_aload_n dX9_init_12 rfl ?_
  refine V_bipush (v := nI 24) dX9_init_13 rfl ?_
  refine W_newI (m' := 28) (a := 29) (c1' := 2) (c2' := 33) dX9_init_15 rfl rfl rfl ((zup_n (by decide)).trans ((hr 29 (by decide) (by decide)).trans rfl)) (hi 29 (by decide) (by decide)) (hj 29 (by decide) (by decide)) (Nat.lt_of_le_of_lt (Nat.le_of_ble_eq_true rfl) (show 100000 < 2 ^ 20 by decide)) ⟨rfl, rfl⟩ ⟨Nat.le_of_ble_eq_true rfl, Nat.le_of_ble_eq_true rfl⟩ ?_
  refine W_putR (n := 1) (k := 1) (b := 29) dX9_init_17 fX9_13 gX9_13 ⟨Nat.le_of_ble_eq_true rfl, Nat.le_of_ble_eq_true rfl⟩ rfl rfl rfl rfl rfl (fun _ => ⟨rfl, rfl⟩) (Nat.le_of_ble_eq_true rfl) rfl (by decide +kernel) ?_
  refine W_end (hr 27 (Nat.le_of_ble_eq_true rfl) (Nat.le_of_ble_eq_true rfl)) (by decide +kernel) ?_
  exact V_ret ⟨rfl, dX9_init_20⟩ ⟨Nat.le_of_ble_eq_true rfl, Nat.le_of_ble_eq_true rfl⟩ ⟨rfl, rfl, rfl, rfl⟩

