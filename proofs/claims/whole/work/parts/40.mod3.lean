/-! THE MODEL: its tape, far, seed, kept ones, book -/
set_option maxRecDepth 100000 in
set_option maxHeartbeats 4000000 in
theorem w_farY {G : zG} {I : zI} {J : zJ} {n : Nat} (h6 : 6 ≤ n) (h10 : n ≤ 10) : zK G mX12_far 1 [.ref 62, .int (nI n)] zsh I J (zA1 (.int (nI 1)) (fun I' J' => I' = zwr (zwr (zwr I 62 4 (nI n)) 62 5 (nI n)) 62 46 (-1) ∧ J = J')) := by
  refine zK_of kX12_far.2.2.2.2.1 (Nat.le_of_ble_eq_true rfl) ?_
  show V G mX12_far 1 _ 0 [(0, .ref 62), (1, .int (nI n))] [] (0, 0) zsh I J
  refine V_iload_n dX12_far_0 rfl ?_
  refine V_bipush (v := nI 6) dX12_far_1 rfl ?_
  refine V_bipush (v := nI 10) dX12_far_3 rfl ?_
  refine V_callS (As := [.int (nI n), .int (nI 6), .int (nI 10)]) (st := []) dX12_far_5 kX12_in lX12_173 (by decide) rfl rfl (Nat.le_of_ble_eq_true rfl) ⟨Nat.le_of_ble_eq_true rfl, Nat.le_of_ble_eq_true rfl⟩ (w_inY rfl rfl (a := 6) (b := 10) ((inZ_k (by omega)).mpr (by omega))) ?_
  rintro _ _ _ _ ⟨rfl, rfl, rfl, rfl⟩
  refine V_if_ne (tgt := 13) dX12_far_8 rfl (fun _ => ?_) (fun h => absurd h (by decide))
  refine V_aload_n dX12_far_13 rfl ?_
  refine V_iload_n dX12_far_14 rfl ?_
  refine V_putW dX12_far_15 fX12_139 ⟨Nat.le_of_ble_eq_true rfl, Nat.le_of_ble_eq_true rfl⟩ rfl rfl rfl ⟨rfl, rfl⟩ ?_
  refine V_aload_n dX12_far_18 rfl ?_
  refine V_iload_n dX12_far_19 rfl ?_
  refine V_putW dX12_far_20 fX12_143 ⟨Nat.le_of_ble_eq_true rfl, Nat.le_of_ble_eq_true rfl⟩ rfl rfl rfl ⟨rfl, rfl⟩ ?_
  refine V_aload_n dX12_far_23 rfl ?_
  refine V_iconst (v := (-1)) dX12_far_24 rfl ?_
  refine V_putW dX12_far_25 fX12_155 ⟨Nat.le_of_ble_eq_true rfl, Nat.le_of_ble_eq_true rfl⟩ rfl rfl rfl ⟨rfl, rfl⟩ ?_
  refine V_iconst (v := nI 1) dX12_far_28 rfl ?_
  exact V_iret ⟨Or.inr ⟨rfl, Or.inr rfl⟩, dX12_far_29⟩ ⟨Nat.le_of_ble_eq_true rfl, Nat.le_of_ble_eq_true rfl⟩ ⟨rfl, rfl, rfl, rfl⟩

set_option maxRecDepth 100000 in
set_option maxHeartbeats 4000000 in
theorem w_farN {G : zG} {I : zI} {J : zJ} {n : Int32} (h : ¬ inZ n 6 10) : zK G mX12_far 1 [.ref 62, .int n] zsh I J (zA0 (.int (nI 0)) I J) := by
  refine zK_of kX12_far.2.2.2.2.1 (Nat.le_of_ble_eq_true rfl) ?_
  show V G mX12_far 1 _ 0 [(0, .ref 62), (1, .int n)] [] (0, 0) zsh I J
  refine V_iload_n dX12_far_0 rfl ?_
  refine V_bipush (v := nI 6) dX12_far_1 rfl ?_
  refine V_bipush (v := nI 10) dX12_far_3 rfl ?_
  refine V_callS (As := [.int n, .int (nI 6), .int (nI 10)]) (st := []) dX12_far_5 kX12_in lX12_173 (by decide) rfl rfl (Nat.le_of_ble_eq_true rfl) ⟨Nat.le_of_ble_eq_true rfl, Nat.le_of_ble_eq_true rfl⟩ (w_inN rfl rfl (a := 6) (b := 10) h) ?_
  rintro _ _ _ _ ⟨rfl, rfl, rfl, rfl⟩
  refine V_if_ne (tgt := 13) dX12_far_8 rfl (fun h => absurd h (by decide)) (fun _ => ?_)
  refine V_iconst (v := nI 0) dX12_far_11 rfl ?_
  exact V_iret ⟨Or.inr ⟨rfl, Or.inl rfl⟩, dX12_far_12⟩ ⟨Nat.le_of_ble_eq_true rfl, Nat.le_of_ble_eq_true rfl⟩ ⟨rfl, rfl, rfl, rfl⟩

set_option maxRecDepth 100000 in
set_option maxHeartbeats 4000000 in
theorem w_seedY {G : zG} {I : zI} {J : zJ} {x : Nat} (hx : x ≤ 65535) : zK G mX12_seed 1 [.ref 62, .int (nI x)] zsh I J (zA1 (.int (nI 1)) (fun I' J' => I' = zwr I 62 6 (nI x) ∧ J = J')) := by
  refine zK_of kX12_seed.2.2.2.2.1 (Nat.le_of_ble_eq_true rfl) ?_
  show V G mX12_seed 1 _ 0 [(0, .ref 62), (1, .int (nI x))] [] (0, 0) zsh I J
  refine V_iload_n dX12_seed_0 rfl ?_
  refine V_iconst (v := nI 0) dX12_seed_1 rfl ?_
  refine V_ldcw dX12_seed_2 qX12_488 ?_
  refine V_eqI (y := nI 65535) rfl ?_
  refine V_callS (As := [.int (nI x), .int (nI 0), .int (nI 65535)]) (st := []) dX12_seed_5 kX12_in lX12_173 (by decide) rfl rfl (Nat.le_of_ble_eq_true rfl) ⟨Nat.le_of_ble_eq_true rfl, Nat.le_of_ble_eq_true rfl⟩ (w_inY rfl rfl (a := 0) (b := 65535) ((inZ_k (by omega)).mpr (by omega))) ?_
  rintro _ _ _ _ ⟨rfl, rfl, rfl, rfl⟩
  refine V_if_ne (tgt := 13) dX12_seed_8 rfl (fun _ => ?_) (fun h => absurd h (by decide))
  refine V_aload_n dX12_seed_13 rfl ?_
  refine V_iload_n dX12_seed_14 rfl ?_
  refine V_putW dX12_seed_15 fX12_146 ⟨Nat.le_of_ble_eq_true rfl, Nat.le_of_ble_eq_true rfl⟩ rfl rfl rfl ⟨rfl, rfl⟩ ?_
  refine V_iconst (v := nI 1) dX12_seed_18 rfl ?_
  exact V_iret ⟨Or.inr ⟨rfl, Or.inr rfl⟩, dX12_seed_19⟩ ⟨Nat.le_of_ble_eq_true rfl, Nat.le_of_ble_eq_true rfl⟩ ⟨rfl, rfl, rfl, rfl⟩

set_option maxRecDepth 100000 in
set_option maxHeartbeats 4000000 in
theorem w_seedN {G : zG} {I : zI} {J : zJ} {x : Int32} (hx : ¬ inZ x 0 65535) : zK G mX12_seed 1 [.ref 62, .int x] zsh I J (zA0 (.int (nI 0)) I J) := by
  refine zK_of kX12_seed.2.2.2.2.1 (Nat.le_of_ble_eq_true rfl) ?_
  show V G mX12_seed 1 _ 0 [(0, .ref 62), (1, .int x)] [] (0, 0) zsh I J
  refine V_iload_n dX12_seed_0 rfl ?_
  refine V_iconst (v := nI 0) dX12_seed_1 rfl ?_
  refine V_ldcw dX12_seed_2 qX12_488 ?_
  refine V_eqI (y := nI 65535) rfl ?_
  refine V_callS (As := [.int x, .int (nI 0), .int (nI 65535)]) (st := []) dX12_seed_5 kX12_in lX12_173 (by decide) rfl rfl (Nat.le_of_ble_eq_true rfl) ⟨Nat.le_of_ble_eq_true rfl, Nat.le_of_ble_eq_true rfl⟩ (w_inN rfl rfl (a := 0) (b := 65535) hx) ?_
  rintro _ _ _ _ ⟨rfl, rfl, rfl, rfl⟩
  refine V_if_ne (tgt := 13) dX12_seed_8 rfl (fun h => absurd h (by decide)) (fun _ => ?_)
  refine V_iconst (v := nI 0) dX12_seed_11 rfl ?_
  exact V_iret ⟨Or.inr ⟨rfl, Or.inl rfl⟩, dX12_seed_12⟩ ⟨Nat.le_of_ble_eq_true rfl, Nat.le_of_ble_eq_true rfl⟩ ⟨rfl, rfl, rfl, rfl⟩

def taddM (I : zI) (t : Nat) (v : Int32) : zI := zwr (zwr (zwr (zwr (zwr (zwr (zwr (zwr I 66 t (vp_nar .byte ((v >>> ((nI 24) &&& 31)).toInt8.toInt32))) 62 7 (nI (t + 1))) 66 (t + 1) (vp_nar .byte ((v >>> ((nI 16) &&& 31)).toInt8.toInt32))) 62 7 (nI ((t + 1) + 1))) 66 ((t + 1) + 1) (vp_nar .byte ((v >>> ((nI 8) &&& 31)).toInt8.toInt32))) 62 7 (nI (((t + 1) + 1) + 1))) 66 (((t + 1) + 1) + 1) (vp_nar .byte ((v >>> ((nI 0) &&& 31)).toInt8.toInt32))) 62 7 (nI ((((t + 1) + 1) + 1) + 1))
set_option maxRecDepth 100000 in
set_option maxHeartbeats 4000000 in
theorem w_types {G : zG} {I : zI} {J : zJ} {t : Nat} (ht : I 62 7 = nI t) (ht2 : t + 4 ≤ 260) {v : Int32} : zK G mX12_types 0 [.ref 62, .int v] zsh I J (zA2 (fun I' J' => I' = taddM I t v ∧ J = J')) := by
  refine zK_of kX12_types.2.2.2.2.1 (Nat.le_of_ble_eq_true rfl) ?_
  show V G mX12_types 0 _ 0 [(0, .ref 62), (1, .int v)] [] (0, 0) zsh I J
  refine V_iconst (v := nI 3) dX12_types_0 rfl ?_
  refine V_istore_n (ls' := [(2, .int (nI 3)), (0, .ref 62), (1, .int v)]) dX12_types_1 (by decide) rfl ?_
  refine V_iload_n dX12_types_2 rfl ?_
  refine V_if_lt (tgt := 38) dX12_types_3 rfl (fun h => absurd h (by decide)) (fun _ => ?_)
  refine V_aload_n dX12_types_6 rfl ?_
  refine V_getR (b := 66) dX12_types_7 fX12_19 ⟨Nat.le_of_ble_eq_true rfl, Nat.le_of_ble_eq_true rfl⟩ rfl rfl rfl ?_
  refine V_aload_n dX12_types_10 rfl ?_
  refine V_getI dX12_types_11 fX12_212 ⟨Nat.le_of_ble_eq_true rfl, Nat.le_of_ble_eq_true rfl⟩ rfl rfl ?_
  refine V_eqI (y := nI t) ht ?_
  refine V_iload_n dX12_types_14 rfl ?_
  refine V_bipush (v := nI 8) dX12_types_15 rfl ?_
  refine V_iload_n dX12_types_17 rfl ?_
  refine V_imulN dX12_types_18 ?_
  refine V_eqI (y := nI 24) rfl ?_
  refine V_ishr dX12_types_19 ?_
  refine V_i2b dX12_types_20 ?_
  refine V_bastN (k := t) dX12_types_21 ⟨Nat.le_of_ble_eq_true rfl, Nat.le_of_ble_eq_true rfl⟩ rfl (by decide) (by omega) ?_
  refine V_aload_n dX12_types_22 rfl ?_
  refine V_aload_n dX12_types_23 rfl ?_
  refine V_getI dX12_types_24 fX12_212 ⟨Nat.le_of_ble_eq_true rfl, Nat.le_of_ble_eq_true rfl⟩ rfl rfl ?_
  refine V_eqI (y := I 62 7) rfl ?_
  refine V_eqI (y := nI t) ht ?_
  refine V_iconst (v := nI 1) dX12_types_27 rfl ?_
  refine V_iaddN dX12_types_28 ?_
  refine V_putW dX12_types_29 fX12_212 ⟨Nat.le_of_ble_eq_true rfl, Nat.le_of_ble_eq_true rfl⟩ rfl rfl rfl ⟨rfl, rfl⟩ ?_
  refine V_iinc (v := nI 2) (ls' := [(2, .int (nI 2)), (0, .ref 62), (1, .int v)]) dX12_types_32 rfl (by decide) (by decide) rfl ?_
  refine V_goto (tgt := 2) dX12_types_35 rfl ?_
  refine V_iload_n dX12_types_2 rfl ?_
  refine V_if_lt (tgt := 38) dX12_types_3 rfl (fun h => absurd h (by decide)) (fun _ => ?_)
  refine V_aload_n dX12_types_6 rfl ?_
  refine V_getR (b := 66) dX12_types_7 fX12_19 ⟨Nat.le_of_ble_eq_true rfl, Nat.le_of_ble_eq_true rfl⟩ rfl rfl rfl ?_
  refine V_aload_n dX12_types_10 rfl ?_
  refine V_getI dX12_types_11 fX12_212 ⟨Nat.le_of_ble_eq_true rfl, Nat.le_of_ble_eq_true rfl⟩ rfl rfl ?_
  refine V_eqI (y := nI (t + 1)) rfl ?_
  refine V_iload_n dX12_types_14 rfl ?_
  refine V_bipush (v := nI 8) dX12_types_15 rfl ?_
  refine V_iload_n dX12_types_17 rfl ?_
  refine V_imulN dX12_types_18 ?_
  refine V_eqI (y := nI 16) rfl ?_
  refine V_ishr dX12_types_19 ?_
  refine V_i2b dX12_types_20 ?_
  refine V_bastN (k := t + 1) dX12_types_21 ⟨Nat.le_of_ble_eq_true rfl, Nat.le_of_ble_eq_true rfl⟩ rfl (by decide) (by omega) ?_
  refine V_aload_n dX12_types_22 rfl ?_
  refine V_aload_n dX12_types_23 rfl ?_
  refine V_getI dX12_types_24 fX12_212 ⟨Nat.le_of_ble_eq_true rfl, Nat.le_of_ble_eq_true rfl⟩ rfl rfl ?_
  refine V_eqI (y := nI (t + 1)) rfl ?_
  refine V_iconst (v := nI 1) dX12_types_27 rfl ?_
  refine V_iaddN dX12_types_28 ?_
  refine V_putW dX12_types_29 fX12_212 ⟨Nat.le_of_ble_eq_true rfl, Nat.le_of_ble_eq_true rfl⟩ rfl rfl rfl ⟨rfl, rfl⟩ ?_
  refine V_iinc (v := nI 1) (ls' := [(2, .int (nI 1)), (0, .ref 62), (1, .int v)]) dX12_types_32 rfl (by decide) (by decide) rfl ?_
  refine V_goto (tgt := 2) dX12_types_35 rfl ?_
  refine V_iload_n dX12_types_2 rfl ?_
  refine V_if_lt (tgt := 38) dX12_types_3 rfl (fun h => absurd h (by decide)) (fun _ => ?_)
  refine V_aload_n dX12_types_6 rfl ?_
  refine V_getR (b := 66) dX12_types_7 fX12_19 ⟨Nat.le_of_ble_eq_true rfl, Nat.le_of_ble_eq_true rfl⟩ rfl rfl rfl ?_
  refine V_aload_n dX12_types_10 rfl ?_
  refine V_getI dX12_types_11 fX12_212 ⟨Nat.le_of_ble_eq_true rfl, Nat.le_of_ble_eq_true rfl⟩ rfl rfl ?_
  refine V_eqI (y := nI ((t + 1) + 1)) rfl ?_
  refine V_iload_n dX12_types_14 rfl ?_
  refine V_bipush (v := nI 8) dX12_types_15 rfl ?_
  refine V_iload_n dX12_types_17 rfl ?_
  refine V_imulN dX12_types_18 ?_
  refine V_eqI (y := nI 8) rfl ?_
  refine V_ishr dX12_types_19 ?_
  refine V_i2b dX12_types_20 ?_
  refine V_bastN (k := (t + 1) + 1) dX12_types_21 ⟨Nat.le_of_ble_eq_true rfl, Nat.le_of_ble_eq_true rfl⟩ rfl (by decide) (by omega) ?_
  refine V_aload_n dX12_types_22 rfl ?_
  refine V_aload_n dX12_types_23 rfl ?_
  refine V_getI dX12_types_24 fX12_212 ⟨Nat.le_of_ble_eq_true rfl, Nat.le_of_ble_eq_true rfl⟩ rfl rfl ?_
  refine V_eqI (y := nI ((t + 1) + 1)) rfl ?_
  refine V_iconst (v := nI 1) dX12_types_27 rfl ?_
  refine V_iaddN dX12_types_28 ?_
  refine V_putW dX12_types_29 fX12_212 ⟨Nat.le_of_ble_eq_true rfl, Nat.le_of_ble_eq_true rfl⟩ rfl rfl rfl ⟨rfl, rfl⟩ ?_
  refine V_iinc (v := nI 0) (ls' := [(2, .int (nI 0)), (0, .ref 62), (1, .int v)]) dX12_types_32 rfl (by decide) (by decide) rfl ?_
  refine V_goto (tgt := 2) dX12_types_35 rfl ?_
  refine V_iload_n dX12_types_2 rfl ?_
  refine V_if_lt (tgt := 38) dX12_types_3 rfl (fun h => absurd h (by decide)) (fun _ => ?_)
  refine V_aload_n dX12_types_6 rfl ?_
  refine V_getR (b := 66) dX12_types_7 fX12_19 ⟨Nat.le_of_ble_eq_true rfl, Nat.le_of_ble_eq_true rfl⟩ rfl rfl rfl ?_
  refine V_aload_n dX12_types_10 rfl ?_
  refine V_getI dX12_types_11 fX12_212 ⟨Nat.le_of_ble_eq_true rfl, Nat.le_of_ble_eq_true rfl⟩ rfl rfl ?_
  refine V_eqI (y := nI (((t + 1) + 1) + 1)) rfl ?_
  refine V_iload_n dX12_types_14 rfl ?_
  refine V_bipush (v := nI 8) dX12_types_15 rfl ?_
  refine V_iload_n dX12_types_17 rfl ?_
  refine V_imulN dX12_types_18 ?_
  refine V_eqI (y := nI 0) rfl ?_
  refine V_ishr dX12_types_19 ?_
  refine V_i2b dX12_types_20 ?_
  refine V_bastN (k := ((t + 1) + 1) + 1) dX12_types_21 ⟨Nat.le_of_ble_eq_true rfl, Nat.le_of_ble_eq_true rfl⟩ rfl (by decide) (by omega) ?_
  refine V_aload_n dX12_types_22 rfl ?_
  refine V_aload_n dX12_types_23 rfl ?_
  refine V_getI dX12_types_24 fX12_212 ⟨Nat.le_of_ble_eq_true rfl, Nat.le_of_ble_eq_true rfl⟩ rfl rfl ?_
  refine V_eqI (y := nI (((t + 1) + 1) + 1)) rfl ?_
  refine V_iconst (v := nI 1) dX12_types_27 rfl ?_
  refine V_iaddN dX12_types_28 ?_
  refine V_putW dX12_types_29 fX12_212 ⟨Nat.le_of_ble_eq_true rfl, Nat.le_of_ble_eq_true rfl⟩ rfl rfl rfl ⟨rfl, rfl⟩ ?_
  refine V_iinc (v := (-1)) (ls' := [(2, .int (-1)), (0, .ref 62), (1, .int v)]) dX12_types_32 rfl (by decide) (by decide) rfl ?_
  refine V_goto (tgt := 2) dX12_types_35 rfl ?_
  refine V_iload_n dX12_types_2 rfl ?_
  refine V_if_lt (tgt := 38) dX12_types_3 rfl (fun _ => ?_) (fun h => absurd h (by decide))
  exact V_ret ⟨rfl, dX12_types_38⟩ ⟨Nat.le_of_ble_eq_true rfl, Nat.le_of_ble_eq_true rfl⟩ ⟨rfl, rfl, rfl, rfl⟩

def tfeedM (I : zI) (t : Nat) (a b c d e : Int32) : zI := (taddM (taddM (taddM (taddM (taddM I t a) (t + 4) b) (t + 8) c) (t + 12) d) (t + 16) e)
set_option maxRecDepth 100000 in
set_option maxHeartbeats 4000000 in
theorem w_feedY {G : zG} {I : zI} {J : zJ} {t : Nat} (ht : I 62 7 = nI t) (ht2 : t ≤ 260) {a b c d e : Int32} (h : t + 20 ≤ 260) : zK G mX12_feed 1 [.ref 62, .int a, .int b, .int c, .int d, .int e] zsh I J (zA1 (.int (nI (t + 20))) (fun I' J' => I' = tfeedM I t a b c d e ∧ J = J')) := by
  refine zK_of kX12_feed.2.2.2.2.1 (Nat.le_of_ble_eq_true rfl) ?_
  show V G mX12_feed 1 _ 0 [(0, .ref 62), (1, .int a), (2, .int b), (3, .int c), (4, .int d), (5, .int e)] [] (0, 0) zsh I J
  refine V_aload_n dX12_feed_0 rfl ?_
  refine V_getI dX12_feed_1 fX12_212 ⟨Nat.le_of_ble_eq_true rfl, Nat.le_of_ble_eq_true rfl⟩ rfl rfl ?_
  refine V_eqI (y := nI t) ht ?_
  refine V_bipush (v := nI 20) dX12_feed_4 rfl ?_
  refine V_iaddN dX12_feed_6 ?_
  refine V_sipush (v := nI 260) dX12_feed_7 rfl ?_
  refine V_icmp_leN (tgt := 15) dX12_feed_10 rfl (by omega) (by omega) (fun _ => ?_) (fun h => absurd h (by omega))
  refine V_aload_n dX12_feed_15 rfl ?_
  refine V_iload_n dX12_feed_16 rfl ?_
  refine V_callV (As := [.int a]) (st := []) (a := 62) dX12_feed_17 kX12_types lX12_215 (by decide) rfl rfl (Nat.le_of_ble_eq_true rfl) ⟨Nat.le_of_ble_eq_true rfl, Nat.le_of_ble_eq_true rfl⟩ ⟨Nat.le_of_ble_eq_true rfl, Nat.le_of_ble_eq_true rfl⟩ rfl ⟨rfl, by decide⟩ (w_types (t := t) ht (by omega)) ?_
  rintro r sh' I' J' ⟨rfl, rfl, rfl, rfl⟩
  refine V_aload_n dX12_feed_20 rfl ?_
  refine V_iload_n dX12_feed_21 rfl ?_
  refine V_callV (As := [.int b]) (st := []) (a := 62) dX12_feed_22 kX12_types lX12_215 (by decide) rfl rfl (Nat.le_of_ble_eq_true rfl) ⟨Nat.le_of_ble_eq_true rfl, Nat.le_of_ble_eq_true rfl⟩ ⟨Nat.le_of_ble_eq_true rfl, Nat.le_of_ble_eq_true rfl⟩ rfl ⟨rfl, by decide⟩ (w_types (t := t + 4) rfl (by omega)) ?_
  rintro r sh' I' J' ⟨rfl, rfl, rfl, rfl⟩
  refine V_aload_n dX12_feed_25 rfl ?_
  refine V_iload_n dX12_feed_26 rfl ?_
  refine V_callV (As := [.int c]) (st := []) (a := 62) dX12_feed_27 kX12_types lX12_215 (by decide) rfl rfl (Nat.le_of_ble_eq_true rfl) ⟨Nat.le_of_ble_eq_true rfl, Nat.le_of_ble_eq_true rfl⟩ ⟨Nat.le_of_ble_eq_true rfl, Nat.le_of_ble_eq_true rfl⟩ rfl ⟨rfl, by decide⟩ (w_types (t := t + 8) rfl (by omega)) ?_
  rintro r sh' I' J' ⟨rfl, rfl, rfl, rfl⟩
  refine V_aload_n dX12_feed_30 rfl ?_
  refine V_iload dX12_feed_31 rfl ?_
  refine V_callV (As := [.int d]) (st := []) (a := 62) dX12_feed_33 kX12_types lX12_215 (by decide) rfl rfl (Nat.le_of_ble_eq_true rfl) ⟨Nat.le_of_ble_eq_true rfl, Nat.le_of_ble_eq_true rfl⟩ ⟨Nat.le_of_ble_eq_true rfl, Nat.le_of_ble_eq_true rfl⟩ rfl ⟨rfl, by decide⟩ (w_types (t := t + 12) rfl (by omega)) ?_
  rintro r sh' I' J' ⟨rfl, rfl, rfl, rfl⟩
  refine V_aload_n dX12_feed_36 rfl ?_
  refine V_iload dX12_feed_37 rfl ?_
  refine V_callV (As := [.int e]) (st := []) (a := 62) dX12_feed_39 kX12_types lX12_215 (by decide) rfl rfl (Nat.le_of_ble_eq_true rfl) ⟨Nat.le_of_ble_eq_true rfl, Nat.le_of_ble_eq_true rfl⟩ ⟨Nat.le_of_ble_eq_true rfl, Nat.le_of_ble_eq_true rfl⟩ rfl ⟨rfl, by decide⟩ (w_types (t := t + 16) rfl (by omega)) ?_
  rintro r sh' I' J' ⟨rfl, rfl, rfl, rfl⟩
  refine V_aload_n dX12_feed_42 rfl ?_
  refine V_getI dX12_feed_43 fX12_212 ⟨Nat.le_of_ble_eq_true rfl, Nat.le_of_ble_eq_true rfl⟩ rfl rfl ?_
  exact V_iret ⟨Or.inl rfl, dX12_feed_46⟩ ⟨Nat.le_of_ble_eq_true rfl, Nat.le_of_ble_eq_true rfl⟩ ⟨rfl, rfl, rfl, rfl⟩

set_option maxRecDepth 100000 in
set_option maxHeartbeats 4000000 in
theorem w_feedN {G : zG} {I : zI} {J : zJ} {t : Nat} (ht : I 62 7 = nI t) (ht2 : t ≤ 260) {a b c d e : Int32} (h : ¬ t + 20 ≤ 260) : zK G mX12_feed 1 [.ref 62, .int a, .int b, .int c, .int d, .int e] zsh I J (zA0 (.int (-1)) I J) := by
  refine zK_of kX12_feed.2.2.2.2.1 (Nat.le_of_ble_eq_true rfl) ?_
  show V G mX12_feed 1 _ 0 [(0, .ref 62), (1, .int a), (2, .int b), (3, .int c), (4, .int d), (5, .int e)] [] (0, 0) zsh I J
  refine V_aload_n dX12_feed_0 rfl ?_
  refine V_getI dX12_feed_1 fX12_212 ⟨Nat.le_of_ble_eq_true rfl, Nat.le_of_ble_eq_true rfl⟩ rfl rfl ?_
  refine V_eqI (y := nI t) ht ?_
  refine V_bipush (v := nI 20) dX12_feed_4 rfl ?_
  refine V_iaddN dX12_feed_6 ?_
  refine V_sipush (v := nI 260) dX12_feed_7 rfl ?_
  refine V_icmp_leN (tgt := 15) dX12_feed_10 rfl (by omega) (by omega) (fun h => absurd h (by omega)) (fun _ => ?_)
  refine V_iconst (v := (-1)) dX12_feed_13 rfl ?_
  exact V_iret ⟨Or.inl rfl, dX12_feed_14⟩ ⟨Nat.le_of_ble_eq_true rfl, Nat.le_of_ble_eq_true rfl⟩ ⟨rfl, rfl, rfl, rfl⟩

set_option maxRecDepth 100000 in
set_option maxHeartbeats 4000000 in
theorem w_tapeNumber {G : zG} {I : zI} {J : zJ} {p : Nat} (hp : p < 65) : zK G mX12_tapeNumber 0 [.ref 62, .int (nI p)] zsh I J (zA0 (.int (tnum (I 66) p)) I J) := by
  refine zK_of kX12_tapeNumber.2.2.2.2.1 (Nat.le_of_ble_eq_true rfl) ?_
  show V G mX12_tapeNumber 0 _ 0 [(0, .ref 62), (1, .int (nI p))] [] (0, 0) zsh I J
  refine V_iconst (v := nI 0) dX12_tapeNumber_0 rfl ?_
  refine V_istore_n (ls' := [(2, .int (nI 0)), (0, .ref 62), (1, .int (nI p))]) dX12_tapeNumber_1 (by decide) rfl ?_
  refine V_iconst (v := nI 4) dX12_tapeNumber_2 rfl ?_
  refine V_iload_n dX12_tapeNumber_3 rfl ?_
  refine V_imulN dX12_tapeNumber_4 ?_
  refine V_istore_n (ls' := [(3, .int (nI (4 * p))), (2, .int (nI 0)), (0, .ref 62), (1, .int (nI p))]) dX12_tapeNumber_5 (by decide) rfl ?_
  refine V_iload_n dX12_tapeNumber_6 rfl ?_
  refine V_iconst (v := nI 4) dX12_tapeNumber_7 rfl ?_
  refine V_iload_n dX12_tapeNumber_8 rfl ?_
  refine V_imulN dX12_tapeNumber_9 ?_
  refine V_iconst (v := nI 4) dX12_tapeNumber_10 rfl ?_
  refine V_iaddN dX12_tapeNumber_11 ?_
  refine V_icmp_geN (tgt := 37) dX12_tapeNumber_12 rfl (by omega) (by omega) (fun h => absurd h (by omega)) (fun _ => ?_)
  refine V_iload_n dX12_tapeNumber_15 rfl ?_
  refine V_bipush (v := nI 8) dX12_tapeNumber_16 rfl ?_
  refine V_ishl dX12_tapeNumber_18 ?_
  refine V_aload_n dX12_tapeNumber_19 rfl ?_
  refine V_getR (b := 66) dX12_tapeNumber_20 fX12_19 ⟨Nat.le_of_ble_eq_true rfl, Nat.le_of_ble_eq_true rfl⟩ rfl rfl rfl ?_
  refine V_iload_n dX12_tapeNumber_23 rfl ?_
  refine V_baldN (k := 4 * p) dX12_tapeNumber_24 ⟨Nat.le_of_ble_eq_true rfl, Nat.le_of_ble_eq_true rfl⟩ rfl (by decide) (by omega) ?_
  refine V_sipush (v := nI 255) dX12_tapeNumber_25 rfl ?_
  refine V_iand dX12_tapeNumber_28 ?_
  refine V_ior dX12_tapeNumber_29 ?_
  refine V_istore_n (ls' := [(2, .int (((nI 0) <<< ((nI 8) &&& 31)) ||| ((I 66 (4 * p)) &&& (nI 255)))), (3, .int (nI (4 * p))), (0, .ref 62), (1, .int (nI p))]) dX12_tapeNumber_30 (by decide) rfl ?_
  refine V_iincN (ls' := [(3, .int (nI ((4 * p) + 1))), (2, .int (((nI 0) <<< ((nI 8) &&& 31)) ||| ((I 66 (4 * p)) &&& (nI 255)))), (0, .ref 62), (1, .int (nI p))]) (n := 1) dX12_tapeNumber_31 rfl rfl (by decide) (by decide) rfl ?_
  refine V_goto (tgt := 6) dX12_tapeNumber_34 rfl ?_
  refine V_iload_n dX12_tapeNumber_6 rfl ?_
  refine V_iconst (v := nI 4) dX12_tapeNumber_7 rfl ?_
  refine V_iload_n dX12_tapeNumber_8 rfl ?_
  refine V_imulN dX12_tapeNumber_9 ?_
  refine V_iconst (v := nI 4) dX12_tapeNumber_10 rfl ?_
  refine V_iaddN dX12_tapeNumber_11 ?_
  refine V_icmp_geN (tgt := 37) dX12_tapeNumber_12 rfl (by omega) (by omega) (fun h => absurd h (by omega)) (fun _ => ?_)
  refine V_iload_n dX12_tapeNumber_15 rfl ?_
  refine V_bipush (v := nI 8) dX12_tapeNumber_16 rfl ?_
  refine V_ishl dX12_tapeNumber_18 ?_
  refine V_aload_n dX12_tapeNumber_19 rfl ?_
  refine V_getR (b := 66) dX12_tapeNumber_20 fX12_19 ⟨Nat.le_of_ble_eq_true rfl, Nat.le_of_ble_eq_true rfl⟩ rfl rfl rfl ?_
  refine V_iload_n dX12_tapeNumber_23 rfl ?_
  refine V_baldN (k := (4 * p) + 1) dX12_tapeNumber_24 ⟨Nat.le_of_ble_eq_true rfl, Nat.le_of_ble_eq_true rfl⟩ rfl (by decide) (by omega) ?_
  refine V_sipush (v := nI 255) dX12_tapeNumber_25 rfl ?_
  refine V_iand dX12_tapeNumber_28 ?_
  refine V_ior dX12_tapeNumber_29 ?_
  refine V_istore_n (ls' := [(2, .int (((((nI 0) <<< ((nI 8) &&& 31)) ||| ((I 66 (4 * p)) &&& (nI 255))) <<< ((nI 8) &&& 31)) ||| ((I 66 ((4 * p) + 1)) &&& (nI 255)))), (3, .int (nI ((4 * p) + 1))), (0, .ref 62), (1, .int (nI p))]) dX12_tapeNumber_30 (by decide) rfl ?_
  refine V_iincN (ls' := [(3, .int (nI (((4 * p) + 1) + 1))), (2, .int (((((nI 0) <<< ((nI 8) &&& 31)) ||| ((I 66 (4 * p)) &&& (nI 255))) <<< ((nI 8) &&& 31)) ||| ((I 66 ((4 * p) + 1)) &&& (nI 255)))), (0, .ref 62), (1, .int (nI p))]) (n := 1) dX12_tapeNumber_31 rfl rfl (by decide) (by decide) rfl ?_
  refine V_goto (tgt := 6) dX12_tapeNumber_34 rfl ?_
  refine V_iload_n dX12_tapeNumber_6 rfl ?_
  refine V_iconst (v := nI 4) dX12_tapeNumber_7 rfl ?_
  refine V_iload_n dX12_tapeNumber_8 rfl ?_
  refine V_imulN dX12_tapeNumber_9 ?_
  refine V_iconst (v := nI 4) dX12_tapeNumber_10 rfl ?_
  refine V_iaddN dX12_tapeNumber_11 ?_
  refine V_icmp_geN (tgt := 37) dX12_tapeNumber_12 rfl (by omega) (by omega) (fun h => absurd h (by omega)) (fun _ => ?_)
  refine V_iload_n dX12_tapeNumber_15 rfl ?_
  refine V_bipush (v := nI 8) dX12_tapeNumber_16 rfl ?_
  refine V_ishl dX12_tapeNumber_18 ?_
  refine V_aload_n dX12_tapeNumber_19 rfl ?_
  refine V_getR (b := 66) dX12_tapeNumber_20 fX12_19 ⟨Nat.le_of_ble_eq_true rfl, Nat.le_of_ble_eq_true rfl⟩ rfl rfl rfl ?_
  refine V_iload_n dX12_tapeNumber_23 rfl ?_
  refine V_baldN (k := ((4 * p) + 1) + 1) dX12_tapeNumber_24 ⟨Nat.le_of_ble_eq_true rfl, Nat.le_of_ble_eq_true rfl⟩ rfl (by decide) (by omega) ?_
  refine V_sipush (v := nI 255) dX12_tapeNumber_25 rfl ?_
  refine V_iand dX12_tapeNumber_28 ?_
  refine V_ior dX12_tapeNumber_29 ?_
  refine V_istore_n (ls' := [(2, .int (((((((nI 0) <<< ((nI 8) &&& 31)) ||| ((I 66 (4 * p)) &&& (nI 255))) <<< ((nI 8) &&& 31)) ||| ((I 66 ((4 * p) + 1)) &&& (nI 255))) <<< ((nI 8) &&& 31)) ||| ((I 66 (((4 * p) + 1) + 1)) &&& (nI 255)))), (3, .int (nI (((4 * p) + 1) + 1))), (0, .ref 62), (1, .int (nI p))]) dX12_tapeNumber_30 (by decide) rfl ?_
  refine V_iincN (ls' := [(3, .int (nI ((((4 * p) + 1) + 1) + 1))), (2, .int (((((((nI 0) <<< ((nI 8) &&& 31)) ||| ((I 66 (4 * p)) &&& (nI 255))) <<< ((nI 8) &&& 31)) ||| ((I 66 ((4 * p) + 1)) &&& (nI 255))) <<< ((nI 8) &&& 31)) ||| ((I 66 (((4 * p) + 1) + 1)) &&& (nI 255)))), (0, .ref 62), (1, .int (nI p))]) (n := 1) dX12_tapeNumber_31 rfl rfl (by decide) (by decide) rfl ?_
  refine V_goto (tgt := 6) dX12_tapeNumber_34 rfl ?_
  refine V_iload_n dX12_tapeNumber_6 rfl ?_
  refine V_iconst (v := nI 4) dX12_tapeNumber_7 rfl ?_
  refine V_iload_n dX12_tapeNumber_8 rfl ?_
  refine V_imulN dX12_tapeNumber_9 ?_
  refine V_iconst (v := nI 4) dX12_tapeNumber_10 rfl ?_
  refine V_iaddN dX12_tapeNumber_11 ?_
  refine V_icmp_geN (tgt := 37) dX12_tapeNumber_12 rfl (by omega) (by omega) (fun h => absurd h (by omega)) (fun _ => ?_)
  refine V_iload_n dX12_tapeNumber_15 rfl ?_
  refine V_bipush (v := nI 8) dX12_tapeNumber_16 rfl ?_
  refine V_ishl dX12_tapeNumber_18 ?_
  refine V_aload_n dX12_tapeNumber_19 rfl ?_
  refine V_getR (b := 66) dX12_tapeNumber_20 fX12_19 ⟨Nat.le_of_ble_eq_true rfl, Nat.le_of_ble_eq_true rfl⟩ rfl rfl rfl ?_
  refine V_iload_n dX12_tapeNumber_23 rfl ?_
  refine V_baldN (k := (((4 * p) + 1) + 1) + 1) dX12_tapeNumber_24 ⟨Nat.le_of_ble_eq_true rfl, Nat.le_of_ble_eq_true rfl⟩ rfl (by decide) (by omega) ?_
  refine V_sipush (v := nI 255) dX12_tapeNumber_25 rfl ?_
  refine V_iand dX12_tapeNumber_28 ?_
  refine V_ior dX12_tapeNumber_29 ?_
  refine V_istore_n (ls' := [(2, .int (((((((((nI 0) <<< ((nI 8) &&& 31)) ||| ((I 66 (4 * p)) &&& (nI 255))) <<< ((nI 8) &&& 31)) ||| ((I 66 ((4 * p) + 1)) &&& (nI 255))) <<< ((nI 8) &&& 31)) ||| ((I 66 (((4 * p) + 1) + 1)) &&& (nI 255))) <<< ((nI 8) &&& 31)) ||| ((I 66 ((((4 * p) + 1) + 1) + 1)) &&& (nI 255)))), (3, .int (nI ((((4 * p) + 1) + 1) + 1))), (0, .ref 62), (1, .int (nI p))]) dX12_tapeNumber_30 (by decide) rfl ?_
  refine V_iincN (ls' := [(3, .int (nI (((((4 * p) + 1) + 1) + 1) + 1))), (2, .int (((((((((nI 0) <<< ((nI 8) &&& 31)) ||| ((I 66 (4 * p)) &&& (nI 255))) <<< ((nI 8) &&& 31)) ||| ((I 66 ((4 * p) + 1)) &&& (nI 255))) <<< ((nI 8) &&& 31)) ||| ((I 66 (((4 * p) + 1) + 1)) &&& (nI 255))) <<< ((nI 8) &&& 31)) ||| ((I 66 ((((4 * p) + 1) + 1) + 1)) &&& (nI 255)))), (0, .ref 62), (1, .int (nI p))]) (n := 1) dX12_tapeNumber_31 rfl rfl (by decide) (by decide) rfl ?_
  refine V_goto (tgt := 6) dX12_tapeNumber_34 rfl ?_
  refine V_iload_n dX12_tapeNumber_6 rfl ?_
  refine V_iconst (v := nI 4) dX12_tapeNumber_7 rfl ?_
  refine V_iload_n dX12_tapeNumber_8 rfl ?_
  refine V_imulN dX12_tapeNumber_9 ?_
  refine V_iconst (v := nI 4) dX12_tapeNumber_10 rfl ?_
  refine V_iaddN dX12_tapeNumber_11 ?_
  refine V_icmp_geN (tgt := 37) dX12_tapeNumber_12 rfl (by omega) (by omega) (fun _ => ?_) (fun h => absurd h (by omega))
  refine V_iload_n dX12_tapeNumber_37 rfl ?_
  exact V_iret ⟨Or.inl rfl, dX12_tapeNumber_38⟩ ⟨Nat.le_of_ble_eq_true rfl, Nat.le_of_ble_eq_true rfl⟩ ⟨rfl, rfl, rfl, rfl⟩

set_option maxRecDepth 100000 in
set_option maxHeartbeats 4000000 in
theorem lp_checkM {G : zG} {I : zI} {J : zJ} {n : Nat} (hn : n ≤ 8) : ∀ m i, i + m = n → V G mX12_check 1 (zA0 (.int (chkL (I 66) (I 95) m i)) I J) 30 [(0, .ref 62), (1, .int (nI n)), (2, .int (nI i))] [] (0, 0) zsh I J := by
  intro m
  induction m with
  | zero =>
    intro i hk
    refine V_iload_n dX12_check_30 rfl ?_
    refine V_iload_n dX12_check_31 rfl ?_
    refine V_icmp_geN (tgt := 57) dX12_check_32 rfl (by omega) (by omega) (fun _ => ?_) (fun h => absurd h (by omega))
    refine V_iconst (v := (-1)) dX12_check_57 rfl ?_
    exact V_iret ⟨Or.inl rfl, dX12_check_58⟩ ⟨Nat.le_of_ble_eq_true rfl, Nat.le_of_ble_eq_true rfl⟩ ⟨rfl, rfl, rfl, rfl⟩
  | succ m ih =>
    intro i hk
    refine V_iload_n dX12_check_30 rfl ?_
    refine V_iload_n dX12_check_31 rfl ?_
    refine V_icmp_geN (tgt := 57) dX12_check_32 rfl (by omega) (by omega) (fun h => absurd h (by omega)) (fun _ => ?_)
    refine V_aload_n dX12_check_35 rfl ?_
    refine V_iload_n dX12_check_36 rfl ?_
    refine V_callV (As := [.int (nI i)]) (st := []) (a := 62) dX12_check_37 kX12_tapeNumber lX12_511 (by decide) rfl rfl (Nat.le_of_ble_eq_true rfl) ⟨Nat.le_of_ble_eq_true rfl, Nat.le_of_ble_eq_true rfl⟩ ⟨Nat.le_of_ble_eq_true rfl, Nat.le_of_ble_eq_true rfl⟩ rfl ⟨rfl, by decide⟩ (w_tapeNumber (by omega)) ?_
    rintro _ _ _ _ ⟨rfl, rfl, rfl, rfl⟩
    refine V_aload_n dX12_check_40 rfl ?_
    refine V_getR (b := 95) dX12_check_41 fX12_109 ⟨Nat.le_of_ble_eq_true rfl, Nat.le_of_ble_eq_true rfl⟩ rfl rfl rfl ?_
    refine V_iload_n dX12_check_44 rfl ?_
    refine V_ialdN (k := i) dX12_check_45 ⟨Nat.le_of_ble_eq_true rfl, Nat.le_of_ble_eq_true rfl⟩ rfl (by decide) (by omega) ?_
    refine V_icmp_eq (tgt := 51) dX12_check_46 rfl (fun h46 => ?_) (fun h46 => ?_)
    · skip
      refine V_iincN (ls' := [(2, .int (nI (i + 1))), (0, .ref 62), (1, .int (nI n))]) (n := 1) dX12_check_51 rfl rfl (by decide) (by decide) rfl ?_
      refine V_goto (tgt := 30) dX12_check_54 rfl ?_
      refine V_sub2 (ls' := [(0, .ref 62), (1, .int (nI n)), (2, .int (nI (i + 1)))]) (List.forall_mem_cons.mpr ⟨rfl, List.forall_mem_cons.mpr ⟨rfl, List.forall_mem_cons.mpr ⟨rfl, fun _ h => absurd h List.not_mem_nil⟩⟩⟩) ?_
      rw [show chkL (I 66) (I 95) (m + 1) i = chkL (I 66) (I 95) m (i + 1) from if_pos h46]
      exact ih (i + 1) (by omega)
    · skip
      refine V_iload_n dX12_check_49 rfl ?_
      exact V_iret ⟨Or.inl rfl, dX12_check_50⟩ ⟨Nat.le_of_ble_eq_true rfl, Nat.le_of_ble_eq_true rfl⟩ ⟨rfl, congrArg (fun z => some (Value.int z)) (show nI i = (if tnum (I 66) i = I 95 i then chkL (I 66) (I 95) m (i + 1) else nI i) from (if_neg h46).symm), rfl, rfl⟩

set_option maxRecDepth 100000 in
set_option maxHeartbeats 4000000 in
theorem w_checkY {G : zG} {I : zI} {J : zJ} {t : Nat} (ht : I 62 7 = nI t) (ht2 : t ≤ 260) {n : Nat} (hn : n ≤ 8) (h4 : 4 * n ≤ t) : zK G mX12_check 1 [.ref 62, .int (nI n)] zsh I J (zA1 (.int (chkL (I 66) (I 95) n 0)) (fun I' J' => I' = zwr I 62 7 (nI 0) ∧ J = J')) := by
  refine zK_of kX12_check.2.2.2.2.1 (Nat.le_of_ble_eq_true rfl) ?_
  show V G mX12_check 1 _ 0 [(0, .ref 62), (1, .int (nI n))] [] (0, 0) zsh I J
  refine V_iload_n dX12_check_0 rfl ?_
  refine V_iconst (v := nI 0) dX12_check_1 rfl ?_
  refine V_bipush (v := nI 8) dX12_check_2 rfl ?_
  refine V_callS (As := [.int (nI n), .int (nI 0), .int (nI 8)]) (st := []) dX12_check_4 kX12_in lX12_173 (by decide) rfl rfl (Nat.le_of_ble_eq_true rfl) ⟨Nat.le_of_ble_eq_true rfl, Nat.le_of_ble_eq_true rfl⟩ (w_inY rfl rfl (a := 0) (b := 8) ((inZ_k (by omega)).mpr (by omega))) ?_
  rintro _ _ _ _ ⟨rfl, rfl, rfl, rfl⟩
  refine V_if_eq (tgt := 20) dX12_check_7 rfl (fun h => absurd h (by decide)) (fun _ => ?_)
  refine V_iload_n dX12_check_10 rfl ?_
  refine V_aload_n dX12_check_11 rfl ?_
  refine V_getI dX12_check_12 fX12_212 ⟨Nat.le_of_ble_eq_true rfl, Nat.le_of_ble_eq_true rfl⟩ rfl rfl ?_
  refine V_eqI (y := nI t) ht ?_
  refine V_iconst (v := nI 4) dX12_check_15 rfl ?_
  refine V_idivN dX12_check_16 (by omega) (by omega) (by omega) ?_
  refine V_icmp_leN (tgt := 23) dX12_check_17 rfl (by omega) (by omega) (fun _ => ?_) (fun h => absurd h (by omega))
  refine V_aload_n dX12_check_23 rfl ?_
  refine V_iconst (v := nI 0) dX12_check_24 rfl ?_
  refine V_putW dX12_check_25 fX12_212 ⟨Nat.le_of_ble_eq_true rfl, Nat.le_of_ble_eq_true rfl⟩ rfl rfl rfl ⟨rfl, rfl⟩ ?_
  refine V_iconst (v := nI 0) dX12_check_28 rfl ?_
  refine V_istore_n (ls' := [(2, .int (nI 0)), (0, .ref 62), (1, .int (nI n))]) dX12_check_29 (by decide) rfl ?_
  refine V_sub2 (ls' := [(0, .ref 62), (1, .int (nI n)), (2, .int (nI 0))]) (List.forall_mem_cons.mpr ⟨rfl, List.forall_mem_cons.mpr ⟨rfl, List.forall_mem_cons.mpr ⟨rfl, fun _ h => absurd h List.not_mem_nil⟩⟩⟩) ?_
  refine zQ_mono ?_ (lp_checkM (I := zwr I 62 7 (nI 0)) hn n 0 (Nat.zero_add n))
  rintro r sh' I' J' ⟨rfl, h1, rfl, rfl⟩
  exact ⟨rfl, h1, rfl, rfl⟩

set_option maxRecDepth 100000 in
set_option maxHeartbeats 4000000 in
theorem w_checkN {G : zG} {I : zI} {J : zJ} {t : Nat} (ht : I 62 7 = nI t) (ht2 : t ≤ 260) {n : Int32} (hn : ¬ (inZ n 0 8 ∧ 4 * n.toInt ≤ t)) : zK G mX12_check 1 [.ref 62, .int n] zsh I J (zA0 (.int (-2)) I J) := by
  refine zK_of kX12_check.2.2.2.2.1 (Nat.le_of_ble_eq_true rfl) ?_
  show V G mX12_check 1 _ 0 [(0, .ref 62), (1, .int n)] [] (0, 0) zsh I J
  by_cases h8 : inZ n 0 8
  · obtain ⟨k, rfl, hk0, hk⟩ := inZ_n h8 (by decide)
    have h4 : ¬ 4 * k ≤ t := fun h => hn ⟨h8, by rw [nI_toInt (by omega)]; omega⟩
    refine V_iload_n dX12_check_0 rfl ?_
    refine V_iconst (v := nI 0) dX12_check_1 rfl ?_
    refine V_bipush (v := nI 8) dX12_check_2 rfl ?_
    refine V_callS (As := [.int (nI k), .int (nI 0), .int (nI 8)]) (st := []) dX12_check_4 kX12_in lX12_173 (by decide) rfl rfl (Nat.le_of_ble_eq_true rfl) ⟨Nat.le_of_ble_eq_true rfl, Nat.le_of_ble_eq_true rfl⟩ (w_inY rfl rfl (a := 0) (b := 8) ((inZ_k (by omega)).mpr (by omega))) ?_
    rintro _ _ _ _ ⟨rfl, rfl, rfl, rfl⟩
    refine V_if_eq (tgt := 20) dX12_check_7 rfl (fun h => absurd h (by decide)) (fun _ => ?_)
    refine V_iload_n dX12_check_10 rfl ?_
    refine V_aload_n dX12_check_11 rfl ?_
    refine V_getI dX12_check_12 fX12_212 ⟨Nat.le_of_ble_eq_true rfl, Nat.le_of_ble_eq_true rfl⟩ rfl rfl ?_
    refine V_eqI (y := nI t) ht ?_
    refine V_iconst (v := nI 4) dX12_check_15 rfl ?_
    refine V_idivN dX12_check_16 (by omega) (by omega) (by omega) ?_
    refine V_icmp_leN (tgt := 23) dX12_check_17 rfl (by omega) (by omega) (fun h => absurd h (by omega)) (fun _ => ?_)
    refine V_bipush (v := (-2)) dX12_check_20 rfl ?_
    exact V_iret ⟨Or.inl rfl, dX12_check_22⟩ ⟨Nat.le_of_ble_eq_true rfl, Nat.le_of_ble_eq_true rfl⟩ ⟨rfl, rfl, rfl, rfl⟩
  · skip
    refine V_iload_n dX12_check_0 rfl ?_
    refine V_iconst (v := nI 0) dX12_check_1 rfl ?_
    refine V_bipush (v := nI 8) dX12_check_2 rfl ?_
    refine V_callS (As := [.int n, .int (nI 0), .int (nI 8)]) (st := []) dX12_check_4 kX12_in lX12_173 (by decide) rfl rfl (Nat.le_of_ble_eq_true rfl) ⟨Nat.le_of_ble_eq_true rfl, Nat.le_of_ble_eq_true rfl⟩ (w_inN rfl rfl (a := 0) (b := 8) h8) ?_
    rintro _ _ _ _ ⟨rfl, rfl, rfl, rfl⟩
    refine V_if_eq (tgt := 20) dX12_check_7 rfl (fun _ => ?_) (fun h => absurd h (by decide))
    refine V_bipush (v := (-2)) dX12_check_20 rfl ?_
    exact V_iret ⟨Or.inl rfl, dX12_check_22⟩ ⟨Nat.le_of_ble_eq_true rfl, Nat.le_of_ble_eq_true rfl⟩ ⟨rfl, rfl, rfl, rfl⟩

def mcp (I : zI) (a b n : Nat) : zI := zup I b (zcp (I a) (I b) n)
theorem mcp_0 {I : zI} {a b : Nat} : mcp I a b 0 = I := by
  unfold mcp
  funext x j
  by_cases h : x = b
  · subst h
    rw [zup_s]
    exact if_neg (Nat.not_lt_zero _)
  · rw [zup_n h]
theorem mcp_s {I : zI} {a b k : Nat} : zwr (mcp I a b k) b k (I a k) = mcp I a b (k + 1) := by
  unfold mcp
  funext x j
  rw [zwr_at]
  by_cases h : x = b
  · subst h
    rw [zup_s, zup_s]
    unfold zcp
    by_cases hj : j = k
    · subst hj; rw [if_pos ⟨rfl, rfl⟩, if_pos (by omega)]
    · rw [if_neg (fun h => hj h.2)]
      by_cases h2 : j < k
      · rw [if_pos h2, if_pos (by omega)]
      · rw [if_neg h2, if_neg (by omega)]
  · rw [if_neg (fun e => h e.1), zup_n h, zup_n h]
theorem mcp_n {I : zI} {a b n x : Nat} (h : x ≠ b) : mcp I a b n x = I x := zup_n h
set_option maxRecDepth 100000 in
set_option maxHeartbeats 4000000 in
theorem lp_copies {G : zG} {I : zI} {J : zJ} {a b n n0 n1 : Nat} (ha : zin zsh a) (hka : zkd a = (1, n0)) (hb : zin zsh b) (hkb : zkd b = (1, n1)) (hab : a ≠ b) (h0 : n ≤ n0) (h1 : n ≤ n1) (h31 : n0 < 2 ^ 31) (h32 : n1 < 2 ^ 31) : ∀ m k, k + m = n → V G mX12_copies 0 (zA2 (fun I' J' => I' = mcp I a b n ∧ J = J')) 2 [(0, .ref a), (1, .ref b), (2, .int (nI n)), (3, .int (nI k))] [] (0, 0) zsh (mcp I a b k) J := by
  intro m
  induction m with
  | zero =>
    intro k hk
    refine V_iload_n dX12_copies_2 rfl ?_
    refine V_iload_n dX12_copies_3 rfl ?_
    refine V_icmp_geN (tgt := 19) dX12_copies_4 rfl (by omega) (by omega) (fun _ => ?_) (fun h => absurd h (by omega))
    exact V_ret ⟨rfl, dX12_copies_19⟩ ⟨Nat.le_of_ble_eq_true rfl, Nat.le_of_ble_eq_true rfl⟩ ⟨rfl, rfl, by rw [show k = n by omega], rfl⟩
  | succ m ih =>
    intro k hk
    refine V_iload_n dX12_copies_2 rfl ?_
    refine V_iload_n dX12_copies_3 rfl ?_
    refine V_icmp_geN (tgt := 19) dX12_copies_4 rfl (by omega) (by omega) (fun h => absurd h (by omega)) (fun _ => ?_)
    refine V_aload_n dX12_copies_7 rfl ?_
    refine V_iload_n dX12_copies_8 rfl ?_
    refine V_aload_n dX12_copies_9 rfl ?_
    refine V_iload_n dX12_copies_10 rfl ?_
    refine V_ialdN (k := k) dX12_copies_11 ha hka (by omega) (by omega) ?_
    refine V_eqI (y := I a k) (congrFun (mcp_n hab) k) ?_
    refine V_iastN (k := k) dX12_copies_12 hb hkb (by omega) (by omega) ?_
    refine V_iincN (ls' := [(3, .int (nI (k + 1))), (0, .ref a), (1, .ref b), (2, .int (nI n))]) (n := 1) dX12_copies_13 rfl rfl (by decide) (by decide) rfl ?_
    refine V_goto (tgt := 2) dX12_copies_16 rfl ?_
    rw [mcp_s]
    refine V_sub2 (ls' := [(0, .ref a), (1, .ref b), (2, .int (nI n)), (3, .int (nI (k + 1)))]) (List.forall_mem_cons.mpr ⟨rfl, List.forall_mem_cons.mpr ⟨rfl, List.forall_mem_cons.mpr ⟨rfl, List.forall_mem_cons.mpr ⟨rfl, fun _ h => absurd h List.not_mem_nil⟩⟩⟩⟩) ?_
    exact ih (k + 1) (by omega)

set_option maxRecDepth 100000 in
set_option maxHeartbeats 4000000 in
theorem w_copies {G : zG} {I : zI} {J : zJ} {a b n n0 n1 : Nat} (ha : zin zsh a) (hka : zkd a = (1, n0)) (hb : zin zsh b) (hkb : zkd b = (1, n1)) (hab : a ≠ b) (h0 : n ≤ n0) (h1 : n ≤ n1) (h31 : n0 < 2 ^ 31) (h32 : n1 < 2 ^ 31) : zK G mX12_copies 0 [.ref a, .ref b, .int (nI n)] zsh I J (zA2 (fun I' J' => I' = mcp I a b n ∧ J = J')) := by
  refine zK_of kX12_copies.2.2.2.2.1 (Nat.le_of_ble_eq_true rfl) ?_
  show V G mX12_copies 0 _ 0 [(0, .ref a), (1, .ref b), (2, .int (nI n))] [] (0, 0) zsh I J
  refine V_iconst (v := nI 0) dX12_copies_0 rfl ?_
  refine V_istore_n (ls' := [(3, .int (nI 0)), (0, .ref a), (1, .ref b), (2, .int (nI n))]) dX12_copies_1 (by decide) rfl ?_
  refine V_sub2 (ls' := [(0, .ref a), (1, .ref b), (2, .int (nI n)), (3, .int (nI 0))]) (List.forall_mem_cons.mpr ⟨rfl, List.forall_mem_cons.mpr ⟨rfl, List.forall_mem_cons.mpr ⟨rfl, List.forall_mem_cons.mpr ⟨rfl, fun _ h => absurd h List.not_mem_nil⟩⟩⟩⟩) ?_
  have e := lp_copies (G := G) (I := I) (J := J) ha hka hb hkb hab h0 h1 h31 h32 n 0 (Nat.zero_add n)
  rw [mcp_0] at e
  exact e

/-- the model's book: shots and hits by how far -/
def bkM (I : zI) (a b : Nat) (s h : Nat → Nat) : Prop := sm5 s ≤ 60 ∧ ∀ k, k < 5 → I a k = nI (s k) ∧ I b k = nI (h k) ∧ h k ≤ s k ∧ s k ≤ 60
def smK (s : Nat → Nat) : Nat → Nat
  | 0 => 0
  | k + 1 => smK s k + s k
theorem smK_5 {s : Nat → Nat} : smK s 5 = sm5 s := by
  show 0 + s 0 + s 1 + s 2 + s 3 + s 4 = s 0 + s 1 + s 2 + s 3 + s 4
  omega
theorem smK_le {s : Nat → Nat} : ∀ k, (∀ i, i < k → s i ≤ 60) → smK s k ≤ 60 * k
  | 0, _ => Nat.le_refl _
  | k + 1, h => by
    have := smK_le k (fun i hi => h i (by omega))
    have := h k (by omega)
    show smK s k + s k ≤ 60 * (k + 1)
    omega
set_option maxRecDepth 100000 in
set_option maxHeartbeats 4000000 in
theorem lp_shotsAll {G : zG} {I : zI} {J : zJ} {s h : Nat → Nat} (hb : bkM I 91 92 s h) : ∀ m k, k + m = 5 → V G mX12_shotsAll 0 (zA0 (.int (nI (sm5 s))) I J) 4 [(0, .ref 62), (1, .int (nI (smK s k))), (2, .int (nI k))] [] (0, 0) zsh I J := by
  intro m
  induction m with
  | zero =>
    intro k hk
    refine V_iload_n dX12_shotsAll_4 rfl ?_
    refine V_iconst (v := nI 5) dX12_shotsAll_5 rfl ?_
    refine V_icmp_geN (tgt := 24) dX12_shotsAll_6 rfl (by omega) (by omega) (fun _ => ?_) (fun h => absurd h (by omega))
    refine V_iload_n dX12_shotsAll_24 rfl ?_
    exact V_iret ⟨Or.inl rfl, dX12_shotsAll_25⟩ ⟨Nat.le_of_ble_eq_true rfl, Nat.le_of_ble_eq_true rfl⟩ ⟨rfl, by rw [show k = 5 by omega, smK_5], rfl, rfl⟩
  | succ m ih =>
    intro k hk
    refine V_iload_n dX12_shotsAll_4 rfl ?_
    refine V_iconst (v := nI 5) dX12_shotsAll_5 rfl ?_
    refine V_icmp_geN (tgt := 24) dX12_shotsAll_6 rfl (by omega) (by omega) (fun h => absurd h (by omega)) (fun _ => ?_)
    refine V_iload_n dX12_shotsAll_9 rfl ?_
    refine V_aload_n dX12_shotsAll_10 rfl ?_
    refine V_getR (b := 91) dX12_shotsAll_11 fX12_97 ⟨Nat.le_of_ble_eq_true rfl, Nat.le_of_ble_eq_true rfl⟩ rfl rfl rfl ?_
    refine V_iload_n dX12_shotsAll_14 rfl ?_
    refine V_ialdN (k := k) dX12_shotsAll_15 ⟨Nat.le_of_ble_eq_true rfl, Nat.le_of_ble_eq_true rfl⟩ rfl (by decide) (by omega) ?_
    refine V_eqI (y := nI (s k)) (hb.2 _ (by omega)).1 ?_
    refine V_iaddN dX12_shotsAll_16 ?_
    refine V_istore_n (ls' := [(1, .int (nI ((smK s k) + (s k)))), (0, .ref 62), (2, .int (nI k))]) dX12_shotsAll_17 (by decide) rfl ?_
    refine V_iincN (ls' := [(2, .int (nI (k + 1))), (1, .int (nI ((smK s k) + (s k)))), (0, .ref 62)]) (n := 1) dX12_shotsAll_18 rfl rfl (by decide) (by decide) rfl ?_
    refine V_goto (tgt := 4) dX12_shotsAll_21 rfl ?_
    refine V_sub2 (ls' := [(0, .ref 62), (1, .int (nI (smK s (k + 1)))), (2, .int (nI (k + 1)))]) (List.forall_mem_cons.mpr ⟨rfl, List.forall_mem_cons.mpr ⟨(congrArg (fun z => some (Value.int z)) rfl), List.forall_mem_cons.mpr ⟨rfl, fun _ h => absurd h List.not_mem_nil⟩⟩⟩) ?_
    exact ih (k + 1) (by omega)

set_option maxRecDepth 100000 in
set_option maxHeartbeats 4000000 in
theorem w_shotsAll {G : zG} {I : zI} {J : zJ} {s h : Nat → Nat} (hb : bkM I 91 92 s h) : zK G mX12_shotsAll 0 [.ref 62] zsh I J (zA0 (.int (nI (sm5 s))) I J) := by
  refine zK_of kX12_shotsAll.2.2.2.2.1 (Nat.le_of_ble_eq_true rfl) ?_
  show V G mX12_shotsAll 0 _ 0 [(0, .ref 62)] [] (0, 0) zsh I J
  refine V_iconst (v := nI 0) dX12_shotsAll_0 rfl ?_
  refine V_istore_n (ls' := [(1, .int (nI 0)), (0, .ref 62)]) dX12_shotsAll_1 (by decide) rfl ?_
  refine V_iconst (v := nI 0) dX12_shotsAll_2 rfl ?_
  refine V_istore_n (ls' := [(2, .int (nI 0)), (1, .int (nI 0)), (0, .ref 62)]) dX12_shotsAll_3 (by decide) rfl ?_
  refine V_sub2 (ls' := [(0, .ref 62), (1, .int (nI (smK s 0))), (2, .int (nI 0))]) (List.forall_mem_cons.mpr ⟨rfl, List.forall_mem_cons.mpr ⟨(congrArg (fun z => some (Value.int z)) rfl), List.forall_mem_cons.mpr ⟨rfl, fun _ h => absurd h List.not_mem_nil⟩⟩⟩) ?_
  exact lp_shotsAll hb 5 0 rfl

/-- one shot more -/
def baddM (I : zI) (i b : Nat) (s h : Nat → Nat) : zI := if b = 1 then zwr (zwr I 91 i (nI (s i + 1))) 92 i (nI (h i + 1)) else zwr I 91 i (nI (s i + 1))
theorem bkM_add {I : zI} {s h : Nat → Nat} {i b : Nat} (hb : bkM I 91 92 s h) (hi : i < 5) (h60 : sm5 s < 60) (hb1 : b ≤ 1) : bkM (baddM I i b s h) 91 92 (updN s i (s i + 1)) (updN h i (h i + b)) ∧ sm5 (updN s i (s i + 1)) = sm5 s + 1 := by
  have e5 : sm5 (updN s i (s i + 1)) = sm5 s + 1 := by
    unfold sm5 updN
    rcases (show i = 0 ∨ i = 1 ∨ i = 2 ∨ i = 3 ∨ i = 4 by omega) with e | e | e | e | e <;> subst e <;> simp <;> omega
  refine ⟨⟨by omega, fun k hk => ?_⟩, e5⟩
  obtain ⟨h1, h2, h3, h4⟩ := hb.2 k hk
  have hs : s i < 60 := by
    have := hb.1
    unfold sm5 at h60
    rcases (show i = 0 ∨ i = 1 ∨ i = 2 ∨ i = 3 ∨ i = 4 by omega) with e | e | e | e | e <;> subst e <;> omega
  have hh := (hb.2 i hi).2.2.1
  unfold baddM updN
  by_cases hki : k = i
  · subst hki
    rcases (show b = 0 ∨ b = 1 by omega) with e | e <;> subst e
    · simp [zwr_at, h2]; omega
    · simp [zwr_at]; omega
  · rcases (show b = 0 ∨ b = 1 by omega) with e | e <;> subst e
    · simp [zwr_at, hki, h1, h2]; omega
    · simp [zwr_at, hki, h1, h2]; omega
set_option maxRecDepth 100000 in
set_option maxHeartbeats 4000000 in
theorem w_shotY0 {G : zG} {I : zI} {J : zJ} {s h : Nat → Nat} (hb : bkM I 91 92 s h) {n : Nat} (h6 : 6 ≤ n) (h10 : n ≤ 10) (h60 : sm5 s < 60) : zK G mX12_shot 1 [.ref 62, .int (nI n), .int (nI 0)] zsh I J (zA1 (.int (nI (sm5 s + 1))) (fun I' J' => I' = baddM I (n - 6) 0 s h ∧ J = J')) := by
  refine zK_of kX12_shot.2.2.2.2.1 (Nat.le_of_ble_eq_true rfl) ?_
  show V G mX12_shot 1 _ 0 [(0, .ref 62), (1, .int (nI n)), (2, .int (nI 0))] [] (0, 0) zsh I J
  refine V_iload_n dX12_shot_0 rfl ?_
  refine V_bipush (v := nI 6) dX12_shot_1 rfl ?_
  refine V_bipush (v := nI 10) dX12_shot_3 rfl ?_
  refine V_callS (As := [.int (nI n), .int (nI 6), .int (nI 10)]) (st := []) dX12_shot_5 kX12_in lX12_173 (by decide) rfl rfl (Nat.le_of_ble_eq_true rfl) ⟨Nat.le_of_ble_eq_true rfl, Nat.le_of_ble_eq_true rfl⟩ (w_inY rfl rfl (a := 6) (b := 10) ((inZ_k (by omega)).mpr (by omega))) ?_
  rintro _ _ _ _ ⟨rfl, rfl, rfl, rfl⟩
  refine V_if_eq (tgt := 20) dX12_shot_8 rfl (fun h => absurd h (by decide)) (fun _ => ?_)
  refine V_aload_n dX12_shot_11 rfl ?_
  refine V_callV (As := []) (st := []) (a := 62) dX12_shot_12 kX12_shotsAll lX12_442 (by decide) rfl rfl (Nat.le_of_ble_eq_true rfl) ⟨Nat.le_of_ble_eq_true rfl, Nat.le_of_ble_eq_true rfl⟩ ⟨Nat.le_of_ble_eq_true rfl, Nat.le_of_ble_eq_true rfl⟩ rfl ⟨rfl, by decide⟩ (w_shotsAll hb) ?_
  rintro _ _ _ _ ⟨rfl, rfl, rfl, rfl⟩
  refine V_bipush (v := nI 60) dX12_shot_15 rfl ?_
  refine V_icmp_neN (tgt := 22) dX12_shot_17 rfl (by omega) (by omega) (fun _ => ?_) (fun h => absurd h (by omega))
  refine V_aload_n dX12_shot_22 rfl ?_
  refine V_getR (b := 91) dX12_shot_23 fX12_97 ⟨Nat.le_of_ble_eq_true rfl, Nat.le_of_ble_eq_true rfl⟩ rfl rfl rfl ?_
  refine V_iload_n dX12_shot_26 rfl ?_
  refine V_bipush (v := nI 6) dX12_shot_27 rfl ?_
  refine V_isubN dX12_shot_29 (by omega) ?_
  refine V_aload_n dX12_shot_30 rfl ?_
  refine V_getR (b := 91) dX12_shot_31 fX12_97 ⟨Nat.le_of_ble_eq_true rfl, Nat.le_of_ble_eq_true rfl⟩ rfl rfl rfl ?_
  refine V_iload_n dX12_shot_34 rfl ?_
  refine V_bipush (v := nI 6) dX12_shot_35 rfl ?_
  refine V_isubN dX12_shot_37 (by omega) ?_
  refine V_ialdN (k := n - 6) dX12_shot_38 ⟨Nat.le_of_ble_eq_true rfl, Nat.le_of_ble_eq_true rfl⟩ rfl (by decide) (by omega) ?_
  refine V_eqI (y := nI (s (n - 6))) (hb.2 _ (by omega)).1 ?_
  refine V_iconst (v := nI 1) dX12_shot_39 rfl ?_
  refine V_iaddN dX12_shot_40 ?_
  refine V_iastN (k := n - 6) dX12_shot_41 ⟨Nat.le_of_ble_eq_true rfl, Nat.le_of_ble_eq_true rfl⟩ rfl (by decide) (by omega) ?_
  refine V_iload_n dX12_shot_42 rfl ?_
  refine V_if_eq (tgt := 66) dX12_shot_43 rfl (fun _ => ?_) (fun h => absurd h (by decide))
  refine V_aload_n dX12_shot_66 rfl ?_
  have hA := bkM_add (i := n - 6) (b := 0) hb (by omega) h60 (by decide)
  refine V_callV (As := []) (st := []) (a := 62) dX12_shot_67 kX12_shotsAll lX12_442 (by decide) rfl rfl (Nat.le_of_ble_eq_true rfl) ⟨Nat.le_of_ble_eq_true rfl, Nat.le_of_ble_eq_true rfl⟩ ⟨Nat.le_of_ble_eq_true rfl, Nat.le_of_ble_eq_true rfl⟩ rfl ⟨rfl, by decide⟩ (w_shotsAll hA.1) ?_
  rintro _ _ _ _ ⟨rfl, rfl, rfl, rfl⟩
  refine V_eqI (y := nI (sm5 s + 1)) (by rw [hA.2]) ?_
  exact V_iret ⟨Or.inl rfl, dX12_shot_70⟩ ⟨Nat.le_of_ble_eq_true rfl, Nat.le_of_ble_eq_true rfl⟩ ⟨rfl, rfl, rfl, rfl⟩

set_option maxRecDepth 100000 in
set_option maxHeartbeats 4000000 in
theorem w_shotY1 {G : zG} {I : zI} {J : zJ} {s h : Nat → Nat} (hb : bkM I 91 92 s h) {n : Nat} (h6 : 6 ≤ n) (h10 : n ≤ 10) (h60 : sm5 s < 60) : zK G mX12_shot 1 [.ref 62, .int (nI n), .int (nI 1)] zsh I J (zA1 (.int (nI (sm5 s + 1))) (fun I' J' => I' = baddM I (n - 6) 1 s h ∧ J = J')) := by
  refine zK_of kX12_shot.2.2.2.2.1 (Nat.le_of_ble_eq_true rfl) ?_
  show V G mX12_shot 1 _ 0 [(0, .ref 62), (1, .int (nI n)), (2, .int (nI 1))] [] (0, 0) zsh I J
  refine V_iload_n dX12_shot_0 rfl ?_
  refine V_bipush (v := nI 6) dX12_shot_1 rfl ?_
  refine V_bipush (v := nI 10) dX12_shot_3 rfl ?_
  refine V_callS (As := [.int (nI n), .int (nI 6), .int (nI 10)]) (st := []) dX12_shot_5 kX12_in lX12_173 (by decide) rfl rfl (Nat.le_of_ble_eq_true rfl) ⟨Nat.le_of_ble_eq_true rfl, Nat.le_of_ble_eq_true rfl⟩ (w_inY rfl rfl (a := 6) (b := 10) ((inZ_k (by omega)).mpr (by omega))) ?_
  rintro _ _ _ _ ⟨rfl, rfl, rfl, rfl⟩
  refine V_if_eq (tgt := 20) dX12_shot_8 rfl (fun h => absurd h (by decide)) (fun _ => ?_)
  refine V_aload_n dX12_shot_11 rfl ?_
  refine V_callV (As := []) (st := []) (a := 62) dX12_shot_12 kX12_shotsAll lX12_442 (by decide) rfl rfl (Nat.le_of_ble_eq_true rfl) ⟨Nat.le_of_ble_eq_true rfl, Nat.le_of_ble_eq_true rfl⟩ ⟨Nat.le_of_ble_eq_true rfl, Nat.le_of_ble_eq_true rfl⟩ rfl ⟨rfl, by decide⟩ (w_shotsAll hb) ?_
  rintro _ _ _ _ ⟨rfl, rfl, rfl, rfl⟩
  refine V_bipush (v := nI 60) dX12_shot_15 rfl ?_
  refine V_icmp_neN (tgt := 22) dX12_shot_17 rfl (by omega) (by omega) (fun _ => ?_) (fun h => absurd h (by omega))
  refine V_aload_n dX12_shot_22 rfl ?_
  refine V_getR (b := 91) dX12_shot_23 fX12_97 ⟨Nat.le_of_ble_eq_true rfl, Nat.le_of_ble_eq_true rfl⟩ rfl rfl rfl ?_
  refine V_iload_n dX12_shot_26 rfl ?_
  refine V_bipush (v := nI 6) dX12_shot_27 rfl ?_
  refine V_isubN dX12_shot_29 (by omega) ?_
  refine V_aload_n dX12_shot_30 rfl ?_
  refine V_getR (b := 91) dX12_shot_31 fX12_97 ⟨Nat.le_of_ble_eq_true rfl, Nat.le_of_ble_eq_true rfl⟩ rfl rfl rfl ?_
  refine V_iload_n dX12_shot_34 rfl ?_
  refine V_bipush (v := nI 6) dX12_shot_35 rfl ?_
  refine V_isubN dX12_shot_37 (by omega) ?_
  refine V_ialdN (k := n - 6) dX12_shot_38 ⟨Nat.le_of_ble_eq_true rfl, Nat.le_of_ble_eq_true rfl⟩ rfl (by decide) (by omega) ?_
  refine V_eqI (y := nI (s (n - 6))) (hb.2 _ (by omega)).1 ?_
  refine V_iconst (v := nI 1) dX12_shot_39 rfl ?_
  refine V_iaddN dX12_shot_40 ?_
  refine V_iastN (k := n - 6) dX12_shot_41 ⟨Nat.le_of_ble_eq_true rfl, Nat.le_of_ble_eq_true rfl⟩ rfl (by decide) (by omega) ?_
  refine V_iload_n dX12_shot_42 rfl ?_
  refine V_if_eq (tgt := 66) dX12_shot_43 rfl (fun h => absurd h (by decide)) (fun _ => ?_)
  refine V_aload_n dX12_shot_46 rfl ?_
  refine V_getR (b := 92) dX12_shot_47 fX12_100 ⟨Nat.le_of_ble_eq_true rfl, Nat.le_of_ble_eq_true rfl⟩ rfl rfl rfl ?_
  refine V_iload_n dX12_shot_50 rfl ?_
  refine V_bipush (v := nI 6) dX12_shot_51 rfl ?_
  refine V_isubN dX12_shot_53 (by omega) ?_
  refine V_aload_n dX12_shot_54 rfl ?_
  refine V_getR (b := 92) dX12_shot_55 fX12_100 ⟨Nat.le_of_ble_eq_true rfl, Nat.le_of_ble_eq_true rfl⟩ rfl rfl rfl ?_
  refine V_iload_n dX12_shot_58 rfl ?_
  refine V_bipush (v := nI 6) dX12_shot_59 rfl ?_
  refine V_isubN dX12_shot_61 (by omega) ?_
  refine V_ialdN (k := n - 6) dX12_shot_62 ⟨Nat.le_of_ble_eq_true rfl, Nat.le_of_ble_eq_true rfl⟩ rfl (by decide) (by omega) ?_
  refine V_eqI (y := I 92 (n - 6)) rfl ?_
  refine V_eqI (y := nI (h (n - 6))) (hb.2 _ (by omega)).2.1 ?_
  refine V_iconst (v := nI 1) dX12_shot_63 rfl ?_
  refine V_iaddN dX12_shot_64 ?_
  refine V_iastN (k := n - 6) dX12_shot_65 ⟨Nat.le_of_ble_eq_true rfl, Nat.le_of_ble_eq_true rfl⟩ rfl (by decide) (by omega) ?_
  refine V_aload_n dX12_shot_66 rfl ?_
  have hA := bkM_add (i := n - 6) (b := 1) hb (by omega) h60 (by decide)
  refine V_callV (As := []) (st := []) (a := 62) dX12_shot_67 kX12_shotsAll lX12_442 (by decide) rfl rfl (Nat.le_of_ble_eq_true rfl) ⟨Nat.le_of_ble_eq_true rfl, Nat.le_of_ble_eq_true rfl⟩ ⟨Nat.le_of_ble_eq_true rfl, Nat.le_of_ble_eq_true rfl⟩ rfl ⟨rfl, by decide⟩ (w_shotsAll hA.1) ?_
  rintro _ _ _ _ ⟨rfl, rfl, rfl, rfl⟩
  refine V_eqI (y := nI (sm5 s + 1)) (by rw [hA.2]) ?_
  exact V_iret ⟨Or.inl rfl, dX12_shot_70⟩ ⟨Nat.le_of_ble_eq_true rfl, Nat.le_of_ble_eq_true rfl⟩ ⟨rfl, rfl, rfl, rfl⟩

set_option maxRecDepth 100000 in
set_option maxHeartbeats 4000000 in
theorem w_shotN {G : zG} {I : zI} {J : zJ} {s h : Nat → Nat} (hb : bkM I 91 92 s h) {n b : Int32} (hn : ¬ (inZ n 6 10 ∧ sm5 s < 60)) : zK G mX12_shot 1 [.ref 62, .int n, .int b] zsh I J (zA0 (.int (-1)) I J) := by
  refine zK_of kX12_shot.2.2.2.2.1 (Nat.le_of_ble_eq_true rfl) ?_
  show V G mX12_shot 1 _ 0 [(0, .ref 62), (1, .int n), (2, .int b)] [] (0, 0) zsh I J
  have hb9 := hb.1
  by_cases hf : inZ n 6 10
  · have h60 : ¬ sm5 s < 60 := fun h => hn ⟨hf, h⟩
    refine V_iload_n dX12_shot_0 rfl ?_
    refine V_bipush (v := nI 6) dX12_shot_1 rfl ?_
    refine V_bipush (v := nI 10) dX12_shot_3 rfl ?_
    refine V_callS (As := [.int n, .int (nI 6), .int (nI 10)]) (st := []) dX12_shot_5 kX12_in lX12_173 (by decide) rfl rfl (Nat.le_of_ble_eq_true rfl) ⟨Nat.le_of_ble_eq_true rfl, Nat.le_of_ble_eq_true rfl⟩ (w_inY rfl rfl (a := 6) (b := 10) hf) ?_
    rintro _ _ _ _ ⟨rfl, rfl, rfl, rfl⟩
    refine V_if_eq (tgt := 20) dX12_shot_8 rfl (fun h => absurd h (by decide)) (fun _ => ?_)
    refine V_aload_n dX12_shot_11 rfl ?_
    refine V_callV (As := []) (st := []) (a := 62) dX12_shot_12 kX12_shotsAll lX12_442 (by decide) rfl rfl (Nat.le_of_ble_eq_true rfl) ⟨Nat.le_of_ble_eq_true rfl, Nat.le_of_ble_eq_true rfl⟩ ⟨Nat.le_of_ble_eq_true rfl, Nat.le_of_ble_eq_true rfl⟩ rfl ⟨rfl, by decide⟩ (w_shotsAll hb) ?_
    rintro _ _ _ _ ⟨rfl, rfl, rfl, rfl⟩
    refine V_bipush (v := nI 60) dX12_shot_15 rfl ?_
    refine V_icmp_neN (tgt := 22) dX12_shot_17 rfl (by omega) (by omega) (fun h => absurd h (by omega)) (fun _ => ?_)
    refine V_iconst (v := (-1)) dX12_shot_20 rfl ?_
    exact V_iret ⟨Or.inl rfl, dX12_shot_21⟩ ⟨Nat.le_of_ble_eq_true rfl, Nat.le_of_ble_eq_true rfl⟩ ⟨rfl, rfl, rfl, rfl⟩
  · skip
    refine V_iload_n dX12_shot_0 rfl ?_
    refine V_bipush (v := nI 6) dX12_shot_1 rfl ?_
    refine V_bipush (v := nI 10) dX12_shot_3 rfl ?_
    refine V_callS (As := [.int n, .int (nI 6), .int (nI 10)]) (st := []) dX12_shot_5 kX12_in lX12_173 (by decide) rfl rfl (Nat.le_of_ble_eq_true rfl) ⟨Nat.le_of_ble_eq_true rfl, Nat.le_of_ble_eq_true rfl⟩ (w_inN rfl rfl (a := 6) (b := 10) hf) ?_
    rintro _ _ _ _ ⟨rfl, rfl, rfl, rfl⟩
    refine V_if_eq (tgt := 20) dX12_shot_8 rfl (fun _ => ?_) (fun h => absurd h (by decide))
    refine V_iconst (v := (-1)) dX12_shot_20 rfl ?_
    exact V_iret ⟨Or.inl rfl, dX12_shot_21⟩ ⟨Nat.le_of_ble_eq_true rfl, Nat.le_of_ble_eq_true rfl⟩ ⟨rfl, rfl, rfl, rfl⟩

set_option maxRecDepth 100000 in
set_option maxHeartbeats 4000000 in
theorem w_book {G : zG} {I : zI} {J : zJ} {s h : Nat → Nat} (hb : bkM I 91 92 s h) {x : Int32} : zK G mX12_book 1 [.ref 62, .int x] zsh I J (zA0 (.int (onN 41 x (-1) (telB s h))) I J) := by
  refine zK_of kX12_book.2.2.2.2.1 (Nat.le_of_ble_eq_true rfl) ?_
  show V G mX12_book 1 _ 0 [(0, .ref 62), (1, .int x)] [] (0, 0) zsh I J
  have hb5 := fun k hk => (hb.2 k hk).2.2
  have q0 := hb5 0 (by decide)
  have q1 := hb5 1 (by decide)
  have q2 := hb5 2 (by decide)
  have q3 := hb5 3 (by decide)
  have q4 := hb5 4 (by decide)
  rcases ix3 x 41 (by decide) with hx | hx | ⟨k, hk, rfl⟩
  · skip
    refine V_iload_n dX12_book_0 rfl ?_
    refine V_if_ne (tgt := 9) dX12_book_1 rfl (fun _ => ?_) (fun h => absurd h (by rw [oz_eq]; omega))
    refine V_iload_n dX12_book_9 rfl ?_
    refine V_iconst (v := nI 1) dX12_book_10 rfl ?_
    refine V_icmp_ne (tgt := 49) dX12_book_11 rfl (fun _ => ?_) (fun h => absurd h (by rw [oi_eq (by decide)]; omega))
    refine V_iload_n dX12_book_49 rfl ?_
    refine V_bipush (v := nI 16) dX12_book_50 rfl ?_
    refine V_bipush (v := nI 20) dX12_book_52 rfl ?_
    refine V_callS (As := [.int x, .int (nI 16), .int (nI 20)]) (st := []) dX12_book_54 kX12_in lX12_173 (by decide) rfl rfl (Nat.le_of_ble_eq_true rfl) ⟨Nat.le_of_ble_eq_true rfl, Nat.le_of_ble_eq_true rfl⟩ (w_inN rfl rfl (a := 16) (b := 20) (fun h => by have h1 := h.1; have h2 := h.2; omega)) ?_
    rintro _ _ _ _ ⟨rfl, rfl, rfl, rfl⟩
    refine V_if_eq (tgt := 70) dX12_book_57 rfl (fun _ => ?_) (fun h => absurd h (by decide))
    refine V_iload_n dX12_book_70 rfl ?_
    refine V_bipush (v := nI 26) dX12_book_71 rfl ?_
    refine V_bipush (v := nI 30) dX12_book_73 rfl ?_
    refine V_callS (As := [.int x, .int (nI 26), .int (nI 30)]) (st := []) dX12_book_75 kX12_in lX12_173 (by decide) rfl rfl (Nat.le_of_ble_eq_true rfl) ⟨Nat.le_of_ble_eq_true rfl, Nat.le_of_ble_eq_true rfl⟩ (w_inN rfl rfl (a := 26) (b := 30) (fun h => by have h1 := h.1; have h2 := h.2; omega)) ?_
    rintro _ _ _ _ ⟨rfl, rfl, rfl, rfl⟩
    refine V_if_eq (tgt := 93) dX12_book_78 rfl (fun _ => ?_) (fun h => absurd h (by decide))
    refine V_iconst (v := (-1)) dX12_book_93 rfl ?_
    exact V_iret ⟨Or.inl rfl, dX12_book_94⟩ ⟨Nat.le_of_ble_eq_true rfl, Nat.le_of_ble_eq_true rfl⟩ ⟨rfl, congrArg (fun z => some (Value.int z)) (onN_lo hx).symm, rfl, rfl⟩
  · skip
    refine V_iload_n dX12_book_0 rfl ?_
    refine V_if_ne (tgt := 9) dX12_book_1 rfl (fun _ => ?_) (fun h => absurd h (by rw [oz_eq]; omega))
    refine V_iload_n dX12_book_9 rfl ?_
    refine V_iconst (v := nI 1) dX12_book_10 rfl ?_
    refine V_icmp_ne (tgt := 49) dX12_book_11 rfl (fun _ => ?_) (fun h => absurd h (by rw [oi_eq (by decide)]; omega))
    refine V_iload_n dX12_book_49 rfl ?_
    refine V_bipush (v := nI 16) dX12_book_50 rfl ?_
    refine V_bipush (v := nI 20) dX12_book_52 rfl ?_
    refine V_callS (As := [.int x, .int (nI 16), .int (nI 20)]) (st := []) dX12_book_54 kX12_in lX12_173 (by decide) rfl rfl (Nat.le_of_ble_eq_true rfl) ⟨Nat.le_of_ble_eq_true rfl, Nat.le_of_ble_eq_true rfl⟩ (w_inN rfl rfl (a := 16) (b := 20) (fun h => by have h1 := h.1; have h2 := h.2; omega)) ?_
    rintro _ _ _ _ ⟨rfl, rfl, rfl, rfl⟩
    refine V_if_eq (tgt := 70) dX12_book_57 rfl (fun _ => ?_) (fun h => absurd h (by decide))
    refine V_iload_n dX12_book_70 rfl ?_
    refine V_bipush (v := nI 26) dX12_book_71 rfl ?_
    refine V_bipush (v := nI 30) dX12_book_73 rfl ?_
    refine V_callS (As := [.int x, .int (nI 26), .int (nI 30)]) (st := []) dX12_book_75 kX12_in lX12_173 (by decide) rfl rfl (Nat.le_of_ble_eq_true rfl) ⟨Nat.le_of_ble_eq_true rfl, Nat.le_of_ble_eq_true rfl⟩ (w_inN rfl rfl (a := 26) (b := 30) (fun h => by have h1 := h.1; have h2 := h.2; omega)) ?_
    rintro _ _ _ _ ⟨rfl, rfl, rfl, rfl⟩
    refine V_if_eq (tgt := 93) dX12_book_78 rfl (fun _ => ?_) (fun h => absurd h (by decide))
    refine V_iconst (v := (-1)) dX12_book_93 rfl ?_
    exact V_iret ⟨Or.inl rfl, dX12_book_94⟩ ⟨Nat.le_of_ble_eq_true rfl, Nat.le_of_ble_eq_true rfl⟩ ⟨rfl, congrArg (fun z => some (Value.int z)) (onN_hi hx).symm, rfl, rfl⟩
  · by_cases hA : 16 ≤ k ∧ k < 21
    · skip
      refine V_iload_n dX12_book_0 rfl ?_
      refine V_if_neN (tgt := 9) dX12_book_1 rfl (by omega) (fun _ => ?_) (fun h => absurd h (by omega))
      refine V_iload_n dX12_book_9 rfl ?_
      refine V_iconst (v := nI 1) dX12_book_10 rfl ?_
      refine V_icmp_neN (tgt := 49) dX12_book_11 rfl (by omega) (by omega) (fun _ => ?_) (fun h => absurd h (by omega))
      refine V_iload_n dX12_book_49 rfl ?_
      refine V_bipush (v := nI 16) dX12_book_50 rfl ?_
      refine V_bipush (v := nI 20) dX12_book_52 rfl ?_
      refine V_callS (As := [.int (nI k), .int (nI 16), .int (nI 20)]) (st := []) dX12_book_54 kX12_in lX12_173 (by decide) rfl rfl (Nat.le_of_ble_eq_true rfl) ⟨Nat.le_of_ble_eq_true rfl, Nat.le_of_ble_eq_true rfl⟩ (w_inY rfl rfl (a := 16) (b := 20) ((inZ_k (by omega)).mpr (by omega))) ?_
      rintro _ _ _ _ ⟨rfl, rfl, rfl, rfl⟩
      refine V_if_eq (tgt := 70) dX12_book_57 rfl (fun h => absurd h (by decide)) (fun _ => ?_)
      refine V_aload_n dX12_book_60 rfl ?_
      refine V_getR (b := 91) dX12_book_61 fX12_97 ⟨Nat.le_of_ble_eq_true rfl, Nat.le_of_ble_eq_true rfl⟩ rfl rfl rfl ?_
      refine V_iload_n dX12_book_64 rfl ?_
      refine V_bipush (v := nI 16) dX12_book_65 rfl ?_
      refine V_isubN dX12_book_67 (by omega) ?_
      refine V_ialdN (k := k - 16) dX12_book_68 ⟨Nat.le_of_ble_eq_true rfl, Nat.le_of_ble_eq_true rfl⟩ rfl (by decide) (by omega) ?_
      refine V_eqI (y := nI (s (k - 16))) (hb.2 _ (by omega)).1 ?_
      exact V_iret ⟨Or.inl rfl, dX12_book_69⟩ ⟨Nat.le_of_ble_eq_true rfl, Nat.le_of_ble_eq_true rfl⟩ ⟨rfl, congrArg (fun z => some (Value.int z)) ((onN_k (f := (telB s h)) (by omega) (by decide)).trans ((if_neg (by omega)).trans ((if_neg (by omega)).trans (if_pos hA)))).symm, rfl, rfl⟩
    · by_cases hB : 26 ≤ k ∧ k < 31
      · skip
        refine V_iload_n dX12_book_0 rfl ?_
        refine V_if_neN (tgt := 9) dX12_book_1 rfl (by omega) (fun _ => ?_) (fun h => absurd h (by omega))
        refine V_iload_n dX12_book_9 rfl ?_
        refine V_iconst (v := nI 1) dX12_book_10 rfl ?_
        refine V_icmp_neN (tgt := 49) dX12_book_11 rfl (by omega) (by omega) (fun _ => ?_) (fun h => absurd h (by omega))
        refine V_iload_n dX12_book_49 rfl ?_
        refine V_bipush (v := nI 16) dX12_book_50 rfl ?_
        refine V_bipush (v := nI 20) dX12_book_52 rfl ?_
        refine V_callS (As := [.int (nI k), .int (nI 16), .int (nI 20)]) (st := []) dX12_book_54 kX12_in lX12_173 (by decide) rfl rfl (Nat.le_of_ble_eq_true rfl) ⟨Nat.le_of_ble_eq_true rfl, Nat.le_of_ble_eq_true rfl⟩ (w_inN rfl rfl (a := 16) (b := 20) (fun h => by have h1 := (inZ_k (by omega)).mp h; omega)) ?_
        rintro _ _ _ _ ⟨rfl, rfl, rfl, rfl⟩
        refine V_if_eq (tgt := 70) dX12_book_57 rfl (fun _ => ?_) (fun h => absurd h (by decide))
        refine V_iload_n dX12_book_70 rfl ?_
        refine V_bipush (v := nI 26) dX12_book_71 rfl ?_
        refine V_bipush (v := nI 30) dX12_book_73 rfl ?_
        refine V_callS (As := [.int (nI k), .int (nI 26), .int (nI 30)]) (st := []) dX12_book_75 kX12_in lX12_173 (by decide) rfl rfl (Nat.le_of_ble_eq_true rfl) ⟨Nat.le_of_ble_eq_true rfl, Nat.le_of_ble_eq_true rfl⟩ (w_inY rfl rfl (a := 26) (b := 30) ((inZ_k (by omega)).mpr (by omega))) ?_
        rintro _ _ _ _ ⟨rfl, rfl, rfl, rfl⟩
        refine V_if_eq (tgt := 93) dX12_book_78 rfl (fun h => absurd h (by decide)) (fun _ => ?_)
        refine V_aload_n dX12_book_81 rfl ?_
        refine V_getR (b := 92) dX12_book_82 fX12_100 ⟨Nat.le_of_ble_eq_true rfl, Nat.le_of_ble_eq_true rfl⟩ rfl rfl rfl ?_
        refine V_iload_n dX12_book_85 rfl ?_
        refine V_bipush (v := nI 26) dX12_book_86 rfl ?_
        refine V_isubN dX12_book_88 (by omega) ?_
        refine V_ialdN (k := k - 26) dX12_book_89 ⟨Nat.le_of_ble_eq_true rfl, Nat.le_of_ble_eq_true rfl⟩ rfl (by decide) (by omega) ?_
        refine V_eqI (y := nI (h (k - 26))) (hb.2 _ (by omega)).2.1 ?_
        refine V_goto (tgt := 94) dX12_book_90 rfl ?_
        exact V_iret ⟨Or.inl rfl, dX12_book_94⟩ ⟨Nat.le_of_ble_eq_true rfl, Nat.le_of_ble_eq_true rfl⟩ ⟨rfl, congrArg (fun z => some (Value.int z)) ((onN_k (f := (telB s h)) (by omega) (by decide)).trans ((if_neg (by omega)).trans ((if_neg (by omega)).trans ((if_neg hA).trans (if_pos hB))))).symm, rfl, rfl⟩
      · skip
        refine V_iload_n dX12_book_0 rfl ?_
        refine V_if_neN (tgt := 9) dX12_book_1 rfl (by omega) (fun h1 => ?_) (fun h1 => ?_)
        · skip
          refine V_iload_n dX12_book_9 rfl ?_
          refine V_iconst (v := nI 1) dX12_book_10 rfl ?_
          refine V_icmp_neN (tgt := 49) dX12_book_11 rfl (by omega) (by omega) (fun h11 => ?_) (fun h11 => ?_)
          · skip
            refine V_iload_n dX12_book_49 rfl ?_
            refine V_bipush (v := nI 16) dX12_book_50 rfl ?_
            refine V_bipush (v := nI 20) dX12_book_52 rfl ?_
            refine V_callS (As := [.int (nI k), .int (nI 16), .int (nI 20)]) (st := []) dX12_book_54 kX12_in lX12_173 (by decide) rfl rfl (Nat.le_of_ble_eq_true rfl) ⟨Nat.le_of_ble_eq_true rfl, Nat.le_of_ble_eq_true rfl⟩ (w_inN rfl rfl (a := 16) (b := 20) (fun h => by have h1 := (inZ_k (by omega)).mp h; omega)) ?_
            rintro _ _ _ _ ⟨rfl, rfl, rfl, rfl⟩
            refine V_if_eq (tgt := 70) dX12_book_57 rfl (fun _ => ?_) (fun h => absurd h (by decide))
            refine V_iload_n dX12_book_70 rfl ?_
            refine V_bipush (v := nI 26) dX12_book_71 rfl ?_
            refine V_bipush (v := nI 30) dX12_book_73 rfl ?_
            refine V_callS (As := [.int (nI k), .int (nI 26), .int (nI 30)]) (st := []) dX12_book_75 kX12_in lX12_173 (by decide) rfl rfl (Nat.le_of_ble_eq_true rfl) ⟨Nat.le_of_ble_eq_true rfl, Nat.le_of_ble_eq_true rfl⟩ (w_inN rfl rfl (a := 26) (b := 30) (fun h => by have h1 := (inZ_k (by omega)).mp h; omega)) ?_
            rintro _ _ _ _ ⟨rfl, rfl, rfl, rfl⟩
            refine V_if_eq (tgt := 93) dX12_book_78 rfl (fun _ => ?_) (fun h => absurd h (by decide))
            refine V_iconst (v := (-1)) dX12_book_93 rfl ?_
            exact V_iret ⟨Or.inl rfl, dX12_book_94⟩ ⟨Nat.le_of_ble_eq_true rfl, Nat.le_of_ble_eq_true rfl⟩ ⟨rfl, congrArg (fun z => some (Value.int z)) ((onN_k (f := (telB s h)) (by omega) (by decide)).trans ((if_neg (by omega)).trans ((if_neg (by omega)).trans ((if_neg hA).trans (if_neg hB))))).symm, rfl, rfl⟩
          · skip
            refine V_aload_n dX12_book_14 rfl ?_
            refine V_getR (b := 92) dX12_book_15 fX12_100 ⟨Nat.le_of_ble_eq_true rfl, Nat.le_of_ble_eq_true rfl⟩ rfl rfl rfl ?_
            refine V_iconst (v := nI 0) dX12_book_18 rfl ?_
            refine V_ialdN (k := 0) dX12_book_19 ⟨Nat.le_of_ble_eq_true rfl, Nat.le_of_ble_eq_true rfl⟩ rfl (by decide) (by omega) ?_
            refine V_eqI (y := nI (h 0)) (hb.2 _ (by omega)).2.1 ?_
            refine V_aload_n dX12_book_20 rfl ?_
            refine V_getR (b := 92) dX12_book_21 fX12_100 ⟨Nat.le_of_ble_eq_true rfl, Nat.le_of_ble_eq_true rfl⟩ rfl rfl rfl ?_
            refine V_iconst (v := nI 1) dX12_book_24 rfl ?_
            refine V_ialdN (k := 1) dX12_book_25 ⟨Nat.le_of_ble_eq_true rfl, Nat.le_of_ble_eq_true rfl⟩ rfl (by decide) (by omega) ?_
            refine V_eqI (y := nI (h 1)) (hb.2 _ (by omega)).2.1 ?_
            refine V_iaddN dX12_book_26 ?_
            refine V_aload_n dX12_book_27 rfl ?_
            refine V_getR (b := 92) dX12_book_28 fX12_100 ⟨Nat.le_of_ble_eq_true rfl, Nat.le_of_ble_eq_true rfl⟩ rfl rfl rfl ?_
            refine V_iconst (v := nI 2) dX12_book_31 rfl ?_
            refine V_ialdN (k := 2) dX12_book_32 ⟨Nat.le_of_ble_eq_true rfl, Nat.le_of_ble_eq_true rfl⟩ rfl (by decide) (by omega) ?_
            refine V_eqI (y := nI (h 2)) (hb.2 _ (by omega)).2.1 ?_
            refine V_iaddN dX12_book_33 ?_
            refine V_aload_n dX12_book_34 rfl ?_
            refine V_getR (b := 92) dX12_book_35 fX12_100 ⟨Nat.le_of_ble_eq_true rfl, Nat.le_of_ble_eq_true rfl⟩ rfl rfl rfl ?_
            refine V_iconst (v := nI 3) dX12_book_38 rfl ?_
            refine V_ialdN (k := 3) dX12_book_39 ⟨Nat.le_of_ble_eq_true rfl, Nat.le_of_ble_eq_true rfl⟩ rfl (by decide) (by omega) ?_
            refine V_eqI (y := nI (h 3)) (hb.2 _ (by omega)).2.1 ?_
            refine V_iaddN dX12_book_40 ?_
            refine V_aload_n dX12_book_41 rfl ?_
            refine V_getR (b := 92) dX12_book_42 fX12_100 ⟨Nat.le_of_ble_eq_true rfl, Nat.le_of_ble_eq_true rfl⟩ rfl rfl rfl ?_
            refine V_iconst (v := nI 4) dX12_book_45 rfl ?_
            refine V_ialdN (k := 4) dX12_book_46 ⟨Nat.le_of_ble_eq_true rfl, Nat.le_of_ble_eq_true rfl⟩ rfl (by decide) (by omega) ?_
            refine V_eqI (y := nI (h 4)) (hb.2 _ (by omega)).2.1 ?_
            refine V_iaddN dX12_book_47 ?_
            exact V_iret ⟨Or.inl rfl, dX12_book_48⟩ ⟨Nat.le_of_ble_eq_true rfl, Nat.le_of_ble_eq_true rfl⟩ ⟨rfl, congrArg (fun z => some (Value.int z)) ((onN_k (f := (telB s h)) (by omega) (by decide)).trans ((if_neg (by omega)).trans (if_pos (by omega)))).symm, rfl, rfl⟩
        · skip
          refine V_aload_n dX12_book_4 rfl ?_
          refine V_callV (As := []) (st := []) (a := 62) dX12_book_5 kX12_shotsAll lX12_442 (by decide) rfl rfl (Nat.le_of_ble_eq_true rfl) ⟨Nat.le_of_ble_eq_true rfl, Nat.le_of_ble_eq_true rfl⟩ ⟨Nat.le_of_ble_eq_true rfl, Nat.le_of_ble_eq_true rfl⟩ rfl ⟨rfl, by decide⟩ (w_shotsAll hb) ?_
          rintro _ _ _ _ ⟨rfl, rfl, rfl, rfl⟩
          exact V_iret ⟨Or.inl rfl, dX12_book_8⟩ ⟨Nat.le_of_ble_eq_true rfl, Nat.le_of_ble_eq_true rfl⟩ ⟨rfl, congrArg (fun z => some (Value.int z)) ((onN_k (f := (telB s h)) (by omega) (by decide)).trans (if_pos (by omega))).symm, rfl, rfl⟩

def keepM (I : zI) : zI := (mcp (mcp (mcp (mcp (mcp (zwr (zwr (zwr (zwr (zwr (zwr I 62 62 (nI 1)) 62 63 (I 62 4)) 62 64 (I 62 6)) 62 65 (I 62 56)) 62 66 (I 62 57)) 62 67 (I 62 58)) 91 100 5) 92 101 5) 97 102 12) 98 103 12) 99 104 12)
set_option maxRecDepth 100000 in
set_option maxHeartbeats 4000000 in
theorem w_keep {G : zG} {I : zI} {J : zJ} {s h : Nat → Nat} (hb : bkM I 91 92 s h) : zK G mX12_keep 1 [.ref 62] zsh I J (zA1 (.int (nI (sm5 s))) (fun I' J' => I' = keepM I ∧ J = J')) := by
  refine zK_of kX12_keep.2.2.2.2.1 (Nat.le_of_ble_eq_true rfl) ?_
  show V G mX12_keep 1 _ 0 [(0, .ref 62)] [] (0, 0) zsh I J
  refine V_aload_n dX12_keep_0 rfl ?_
  refine V_iconst (v := nI 1) dX12_keep_1 rfl ?_
  refine V_putW dX12_keep_2 fX12_489 ⟨Nat.le_of_ble_eq_true rfl, Nat.le_of_ble_eq_true rfl⟩ rfl rfl rfl ⟨rfl, rfl⟩ ?_
  refine V_aload_n dX12_keep_5 rfl ?_
  refine V_aload_n dX12_keep_6 rfl ?_
  refine V_getI dX12_keep_7 fX12_139 ⟨Nat.le_of_ble_eq_true rfl, Nat.le_of_ble_eq_true rfl⟩ rfl rfl ?_
  refine V_eqI (y := I 62 4) rfl ?_
  refine V_putW dX12_keep_10 fX12_492 ⟨Nat.le_of_ble_eq_true rfl, Nat.le_of_ble_eq_true rfl⟩ rfl rfl rfl ⟨rfl, rfl⟩ ?_
  refine V_aload_n dX12_keep_13 rfl ?_
  refine V_aload_n dX12_keep_14 rfl ?_
  refine V_getI dX12_keep_15 fX12_146 ⟨Nat.le_of_ble_eq_true rfl, Nat.le_of_ble_eq_true rfl⟩ rfl rfl ?_
  refine V_eqI (y := I 62 6) rfl ?_
  refine V_putW dX12_keep_18 fX12_495 ⟨Nat.le_of_ble_eq_true rfl, Nat.le_of_ble_eq_true rfl⟩ rfl rfl rfl ⟨rfl, rfl⟩ ?_
  refine V_aload_n dX12_keep_21 rfl ?_
  refine V_aload_n dX12_keep_22 rfl ?_
  refine V_getI dX12_keep_23 fX12_469 ⟨Nat.le_of_ble_eq_true rfl, Nat.le_of_ble_eq_true rfl⟩ rfl rfl ?_
  refine V_eqI (y := I 62 56) rfl ?_
  refine V_putW dX12_keep_26 fX12_498 ⟨Nat.le_of_ble_eq_true rfl, Nat.le_of_ble_eq_true rfl⟩ rfl rfl rfl ⟨rfl, rfl⟩ ?_
  refine V_aload_n dX12_keep_29 rfl ?_
  refine V_aload_n dX12_keep_30 rfl ?_
  refine V_getI dX12_keep_31 fX12_149 ⟨Nat.le_of_ble_eq_true rfl, Nat.le_of_ble_eq_true rfl⟩ rfl rfl ?_
  refine V_eqI (y := I 62 57) rfl ?_
  refine V_putW dX12_keep_34 fX12_501 ⟨Nat.le_of_ble_eq_true rfl, Nat.le_of_ble_eq_true rfl⟩ rfl rfl rfl ⟨rfl, rfl⟩ ?_
  refine V_aload_n dX12_keep_37 rfl ?_
  refine V_aload_n dX12_keep_38 rfl ?_
  refine V_getI dX12_keep_39 fX12_152 ⟨Nat.le_of_ble_eq_true rfl, Nat.le_of_ble_eq_true rfl⟩ rfl rfl ?_
  refine V_eqI (y := I 62 58) rfl ?_
  refine V_putW dX12_keep_42 fX12_504 ⟨Nat.le_of_ble_eq_true rfl, Nat.le_of_ble_eq_true rfl⟩ rfl rfl rfl ⟨rfl, rfl⟩ ?_
  refine V_aload_n dX12_keep_45 rfl ?_
  refine V_getR (b := 91) dX12_keep_46 fX12_97 ⟨Nat.le_of_ble_eq_true rfl, Nat.le_of_ble_eq_true rfl⟩ rfl rfl rfl ?_
  refine V_aload_n dX12_keep_49 rfl ?_
  refine V_getR (b := 100) dX12_keep_50 fX12_124 ⟨Nat.le_of_ble_eq_true rfl, Nat.le_of_ble_eq_true rfl⟩ rfl rfl rfl ?_
  refine V_iconst (v := nI 5) dX12_keep_53 rfl ?_
  refine V_callS (As := [.ref 91, .ref 100, .int (nI 5)]) (st := []) dX12_keep_54 kX12_copies lX12_507 (by decide) rfl rfl (Nat.le_of_ble_eq_true rfl) ⟨Nat.le_of_ble_eq_true rfl, Nat.le_of_ble_eq_true rfl⟩ (w_copies (n0 := 5) (n1 := 5) ⟨Nat.le_of_ble_eq_true rfl, Nat.le_of_ble_eq_true rfl⟩ rfl ⟨Nat.le_of_ble_eq_true rfl, Nat.le_of_ble_eq_true rfl⟩ rfl (by decide) (by decide) (by decide) (by decide) (by decide)) ?_
  rintro r sh' I' J' ⟨rfl, rfl, rfl, rfl⟩
  refine V_aload_n dX12_keep_57 rfl ?_
  refine V_getR (b := 92) dX12_keep_58 fX12_100 ⟨Nat.le_of_ble_eq_true rfl, Nat.le_of_ble_eq_true rfl⟩ rfl rfl rfl ?_
  refine V_aload_n dX12_keep_61 rfl ?_
  refine V_getR (b := 101) dX12_keep_62 fX12_127 ⟨Nat.le_of_ble_eq_true rfl, Nat.le_of_ble_eq_true rfl⟩ rfl rfl rfl ?_
  refine V_iconst (v := nI 5) dX12_keep_65 rfl ?_
  refine V_callS (As := [.ref 92, .ref 101, .int (nI 5)]) (st := []) dX12_keep_66 kX12_copies lX12_507 (by decide) rfl rfl (Nat.le_of_ble_eq_true rfl) ⟨Nat.le_of_ble_eq_true rfl, Nat.le_of_ble_eq_true rfl⟩ (w_copies (n0 := 5) (n1 := 5) ⟨Nat.le_of_ble_eq_true rfl, Nat.le_of_ble_eq_true rfl⟩ rfl ⟨Nat.le_of_ble_eq_true rfl, Nat.le_of_ble_eq_true rfl⟩ rfl (by decide) (by decide) (by decide) (by decide) (by decide)) ?_
  rintro r sh' I' J' ⟨rfl, rfl, rfl, rfl⟩
  refine V_aload_n dX12_keep_69 rfl ?_
  refine V_getR (b := 97) dX12_keep_70 fX12_115 ⟨Nat.le_of_ble_eq_true rfl, Nat.le_of_ble_eq_true rfl⟩ rfl rfl rfl ?_
  refine V_aload_n dX12_keep_73 rfl ?_
  refine V_getR (b := 102) dX12_keep_74 fX12_130 ⟨Nat.le_of_ble_eq_true rfl, Nat.le_of_ble_eq_true rfl⟩ rfl rfl rfl ?_
  refine V_bipush (v := nI 12) dX12_keep_77 rfl ?_
  refine V_callS (As := [.ref 97, .ref 102, .int (nI 12)]) (st := []) dX12_keep_79 kX12_copies lX12_507 (by decide) rfl rfl (Nat.le_of_ble_eq_true rfl) ⟨Nat.le_of_ble_eq_true rfl, Nat.le_of_ble_eq_true rfl⟩ (w_copies (n0 := 12) (n1 := 12) ⟨Nat.le_of_ble_eq_true rfl, Nat.le_of_ble_eq_true rfl⟩ rfl ⟨Nat.le_of_ble_eq_true rfl, Nat.le_of_ble_eq_true rfl⟩ rfl (by decide) (by decide) (by decide) (by decide) (by decide)) ?_
  rintro r sh' I' J' ⟨rfl, rfl, rfl, rfl⟩
  refine V_aload_n dX12_keep_82 rfl ?_
  refine V_getR (b := 98) dX12_keep_83 fX12_118 ⟨Nat.le_of_ble_eq_true rfl, Nat.le_of_ble_eq_true rfl⟩ rfl rfl rfl ?_
  refine V_aload_n dX12_keep_86 rfl ?_
  refine V_getR (b := 103) dX12_keep_87 fX12_133 ⟨Nat.le_of_ble_eq_true rfl, Nat.le_of_ble_eq_true rfl⟩ rfl rfl rfl ?_
  refine V_bipush (v := nI 12) dX12_keep_90 rfl ?_
  refine V_callS (As := [.ref 98, .ref 103, .int (nI 12)]) (st := []) dX12_keep_92 kX12_copies lX12_507 (by decide) rfl rfl (Nat.le_of_ble_eq_true rfl) ⟨Nat.le_of_ble_eq_true rfl, Nat.le_of_ble_eq_true rfl⟩ (w_copies (n0 := 12) (n1 := 12) ⟨Nat.le_of_ble_eq_true rfl, Nat.le_of_ble_eq_true rfl⟩ rfl ⟨Nat.le_of_ble_eq_true rfl, Nat.le_of_ble_eq_true rfl⟩ rfl (by decide) (by decide) (by decide) (by decide) (by decide)) ?_
  rintro r sh' I' J' ⟨rfl, rfl, rfl, rfl⟩
  refine V_aload_n dX12_keep_95 rfl ?_
  refine V_getR (b := 99) dX12_keep_96 fX12_121 ⟨Nat.le_of_ble_eq_true rfl, Nat.le_of_ble_eq_true rfl⟩ rfl rfl rfl ?_
  refine V_aload_n dX12_keep_99 rfl ?_
  refine V_getR (b := 104) dX12_keep_100 fX12_136 ⟨Nat.le_of_ble_eq_true rfl, Nat.le_of_ble_eq_true rfl⟩ rfl rfl rfl ?_
  refine V_bipush (v := nI 12) dX12_keep_103 rfl ?_
  refine V_callS (As := [.ref 99, .ref 104, .int (nI 12)]) (st := []) dX12_keep_105 kX12_copies lX12_507 (by decide) rfl rfl (Nat.le_of_ble_eq_true rfl) ⟨Nat.le_of_ble_eq_true rfl, Nat.le_of_ble_eq_true rfl⟩ (w_copies (n0 := 12) (n1 := 12) ⟨Nat.le_of_ble_eq_true rfl, Nat.le_of_ble_eq_true rfl⟩ rfl ⟨Nat.le_of_ble_eq_true rfl, Nat.le_of_ble_eq_true rfl⟩ rfl (by decide) (by decide) (by decide) (by decide) (by decide)) ?_
  rintro r sh' I' J' ⟨rfl, rfl, rfl, rfl⟩
  refine V_aload_n dX12_keep_108 rfl ?_
  have hb2 : bkM ((mcp (mcp (mcp (mcp (mcp (zwr (zwr (zwr (zwr (zwr (zwr I 62 62 (nI 1)) 62 63 (I 62 4)) 62 64 (I 62 6)) 62 65 (I 62 56)) 62 66 (I 62 57)) 62 67 (I 62 58)) 91 100 5) 92 101 5) 97 102 12) 98 103 12) 99 104 12)) 91 92 s h := hb
  refine V_callV (As := []) (st := []) (a := 62) dX12_keep_109 kX12_shotsAll lX12_442 (by decide) rfl rfl (Nat.le_of_ble_eq_true rfl) ⟨Nat.le_of_ble_eq_true rfl, Nat.le_of_ble_eq_true rfl⟩ ⟨Nat.le_of_ble_eq_true rfl, Nat.le_of_ble_eq_true rfl⟩ rfl ⟨rfl, by decide⟩ (w_shotsAll hb2) ?_
  rintro _ _ _ _ ⟨rfl, rfl, rfl, rfl⟩
  exact V_iret ⟨Or.inl rfl, dX12_keep_112⟩ ⟨Nat.le_of_ble_eq_true rfl, Nat.le_of_ble_eq_true rfl⟩ ⟨rfl, rfl, rfl, rfl⟩

def undoM (I : zI) : zI := zwr (mcp (mcp (mcp (mcp (mcp (zwr (zwr (zwr (zwr (zwr (zwr I 62 4 (I 62 63)) 62 5 (I 62 63)) 62 6 (I 62 64)) 62 56 (I 62 65)) 62 57 (I 62 66)) 62 58 (I 62 67)) 100 91 5) 101 92 5) 102 97 12) 103 98 12) 104 99 12) 62 46 (-1)
set_option maxRecDepth 100000 in
set_option maxHeartbeats 4000000 in
theorem w_undoY {G : zG} {I : zI} {J : zJ} (hk : I 62 62 = nI 1) : zK G mX12_undo 1 [.ref 62] zsh I J (zA1 (.int (nI 1)) (fun I' J' => I' = undoM I ∧ J = J')) := by
  refine zK_of kX12_undo.2.2.2.2.1 (Nat.le_of_ble_eq_true rfl) ?_
  show V G mX12_undo 1 _ 0 [(0, .ref 62)] [] (0, 0) zsh I J
  refine V_aload_n dX12_undo_0 rfl ?_
  refine V_getI dX12_undo_1 fX12_489 ⟨Nat.le_of_ble_eq_true rfl, Nat.le_of_ble_eq_true rfl⟩ rfl rfl ?_
  refine V_eqI (y := nI 1) hk ?_
  refine V_if_ne (tgt := 9) dX12_undo_4 rfl (fun _ => ?_) (fun h => absurd h (by decide))
  refine V_aload_n dX12_undo_9 rfl ?_
  refine V_aload_n dX12_undo_10 rfl ?_
  refine V_getI dX12_undo_11 fX12_492 ⟨Nat.le_of_ble_eq_true rfl, Nat.le_of_ble_eq_true rfl⟩ rfl rfl ?_
  refine V_putW dX12_undo_14 fX12_139 ⟨Nat.le_of_ble_eq_true rfl, Nat.le_of_ble_eq_true rfl⟩ rfl rfl rfl ⟨rfl, rfl⟩ ?_
  refine V_aload_n dX12_undo_17 rfl ?_
  refine V_aload_n dX12_undo_18 rfl ?_
  refine V_getI dX12_undo_19 fX12_492 ⟨Nat.le_of_ble_eq_true rfl, Nat.le_of_ble_eq_true rfl⟩ rfl rfl ?_
  refine V_eqI (y := I 62 63) rfl ?_
  refine V_putW dX12_undo_22 fX12_143 ⟨Nat.le_of_ble_eq_true rfl, Nat.le_of_ble_eq_true rfl⟩ rfl rfl rfl ⟨rfl, rfl⟩ ?_
  refine V_aload_n dX12_undo_25 rfl ?_
  refine V_aload_n dX12_undo_26 rfl ?_
  refine V_getI dX12_undo_27 fX12_495 ⟨Nat.le_of_ble_eq_true rfl, Nat.le_of_ble_eq_true rfl⟩ rfl rfl ?_
  refine V_eqI (y := I 62 64) rfl ?_
  refine V_putW dX12_undo_30 fX12_146 ⟨Nat.le_of_ble_eq_true rfl, Nat.le_of_ble_eq_true rfl⟩ rfl rfl rfl ⟨rfl, rfl⟩ ?_
  refine V_aload_n dX12_undo_33 rfl ?_
  refine V_aload_n dX12_undo_34 rfl ?_
  refine V_getI dX12_undo_35 fX12_498 ⟨Nat.le_of_ble_eq_true rfl, Nat.le_of_ble_eq_true rfl⟩ rfl rfl ?_
  refine V_eqI (y := I 62 65) rfl ?_
  refine V_putW dX12_undo_38 fX12_469 ⟨Nat.le_of_ble_eq_true rfl, Nat.le_of_ble_eq_true rfl⟩ rfl rfl rfl ⟨rfl, rfl⟩ ?_
  refine V_aload_n dX12_undo_41 rfl ?_
  refine V_aload_n dX12_undo_42 rfl ?_
  refine V_getI dX12_undo_43 fX12_501 ⟨Nat.le_of_ble_eq_true rfl, Nat.le_of_ble_eq_true rfl⟩ rfl rfl ?_
  refine V_eqI (y := I 62 66) rfl ?_
  refine V_putW dX12_undo_46 fX12_149 ⟨Nat.le_of_ble_eq_true rfl, Nat.le_of_ble_eq_true rfl⟩ rfl rfl rfl ⟨rfl, rfl⟩ ?_
  refine V_aload_n dX12_undo_49 rfl ?_
  refine V_aload_n dX12_undo_50 rfl ?_
  refine V_getI dX12_undo_51 fX12_504 ⟨Nat.le_of_ble_eq_true rfl, Nat.le_of_ble_eq_true rfl⟩ rfl rfl ?_
  refine V_eqI (y := I 62 67) rfl ?_
  refine V_putW dX12_undo_54 fX12_152 ⟨Nat.le_of_ble_eq_true rfl, Nat.le_of_ble_eq_true rfl⟩ rfl rfl rfl ⟨rfl, rfl⟩ ?_
  refine V_aload_n dX12_undo_57 rfl ?_
  refine V_getR (b := 100) dX12_undo_58 fX12_124 ⟨Nat.le_of_ble_eq_true rfl, Nat.le_of_ble_eq_true rfl⟩ rfl rfl rfl ?_
  refine V_aload_n dX12_undo_61 rfl ?_
  refine V_getR (b := 91) dX12_undo_62 fX12_97 ⟨Nat.le_of_ble_eq_true rfl, Nat.le_of_ble_eq_true rfl⟩ rfl rfl rfl ?_
  refine V_iconst (v := nI 5) dX12_undo_65 rfl ?_
  refine V_callS (As := [.ref 100, .ref 91, .int (nI 5)]) (st := []) dX12_undo_66 kX12_copies lX12_507 (by decide) rfl rfl (Nat.le_of_ble_eq_true rfl) ⟨Nat.le_of_ble_eq_true rfl, Nat.le_of_ble_eq_true rfl⟩ (w_copies (n0 := 5) (n1 := 5) ⟨Nat.le_of_ble_eq_true rfl, Nat.le_of_ble_eq_true rfl⟩ rfl ⟨Nat.le_of_ble_eq_true rfl, Nat.le_of_ble_eq_true rfl⟩ rfl (by decide) (by decide) (by decide) (by decide) (by decide)) ?_
  rintro r sh' I' J' ⟨rfl, rfl, rfl, rfl⟩
  refine V_aload_n dX12_undo_69 rfl ?_
  refine V_getR (b := 101) dX12_undo_70 fX12_127 ⟨Nat.le_of_ble_eq_true rfl, Nat.le_of_ble_eq_true rfl⟩ rfl rfl rfl ?_
  refine V_aload_n dX12_undo_73 rfl ?_
  refine V_getR (b := 92) dX12_undo_74 fX12_100 ⟨Nat.le_of_ble_eq_true rfl, Nat.le_of_ble_eq_true rfl⟩ rfl rfl rfl ?_
  refine V_iconst (v := nI 5) dX12_undo_77 rfl ?_
  refine V_callS (As := [.ref 101, .ref 92, .int (nI 5)]) (st := []) dX12_undo_78 kX12_copies lX12_507 (by decide) rfl rfl (Nat.le_of_ble_eq_true rfl) ⟨Nat.le_of_ble_eq_true rfl, Nat.le_of_ble_eq_true rfl⟩ (w_copies (n0 := 5) (n1 := 5) ⟨Nat.le_of_ble_eq_true rfl, Nat.le_of_ble_eq_true rfl⟩ rfl ⟨Nat.le_of_ble_eq_true rfl, Nat.le_of_ble_eq_true rfl⟩ rfl (by decide) (by decide) (by decide) (by decide) (by decide)) ?_
  rintro r sh' I' J' ⟨rfl, rfl, rfl, rfl⟩
  refine V_aload_n dX12_undo_81 rfl ?_
  refine V_getR (b := 102) dX12_undo_82 fX12_130 ⟨Nat.le_of_ble_eq_true rfl, Nat.le_of_ble_eq_true rfl⟩ rfl rfl rfl ?_
  refine V_aload_n dX12_undo_85 rfl ?_
  refine V_getR (b := 97) dX12_undo_86 fX12_115 ⟨Nat.le_of_ble_eq_true rfl, Nat.le_of_ble_eq_true rfl⟩ rfl rfl rfl ?_
  refine V_bipush (v := nI 12) dX12_undo_89 rfl ?_
  refine V_callS (As := [.ref 102, .ref 97, .int (nI 12)]) (st := []) dX12_undo_91 kX12_copies lX12_507 (by decide) rfl rfl (Nat.le_of_ble_eq_true rfl) ⟨Nat.le_of_ble_eq_true rfl, Nat.le_of_ble_eq_true rfl⟩ (w_copies (n0 := 12) (n1 := 12) ⟨Nat.le_of_ble_eq_true rfl, Nat.le_of_ble_eq_true rfl⟩ rfl ⟨Nat.le_of_ble_eq_true rfl, Nat.le_of_ble_eq_true rfl⟩ rfl (by decide) (by decide) (by decide) (by decide) (by decide)) ?_
  rintro r sh' I' J' ⟨rfl, rfl, rfl, rfl⟩
  refine V_aload_n dX12_undo_94 rfl ?_
  refine V_getR (b := 103) dX12_undo_95 fX12_133 ⟨Nat.le_of_ble_eq_true rfl, Nat.le_of_ble_eq_true rfl⟩ rfl rfl rfl ?_
  refine V_aload_n dX12_undo_98 rfl ?_
  refine V_getR (b := 98) dX12_undo_99 fX12_118 ⟨Nat.le_of_ble_eq_true rfl, Nat.le_of_ble_eq_true rfl⟩ rfl rfl rfl ?_
  refine V_bipush (v := nI 12) dX12_undo_102 rfl ?_
  refine V_callS (As := [.ref 103, .ref 98, .int (nI 12)]) (st := []) dX12_undo_104 kX12_copies lX12_507 (by decide) rfl rfl (Nat.le_of_ble_eq_true rfl) ⟨Nat.le_of_ble_eq_true rfl, Nat.le_of_ble_eq_true rfl⟩ (w_copies (n0 := 12) (n1 := 12) ⟨Nat.le_of_ble_eq_true rfl, Nat.le_of_ble_eq_true rfl⟩ rfl ⟨Nat.le_of_ble_eq_true rfl, Nat.le_of_ble_eq_true rfl⟩ rfl (by decide) (by decide) (by decide) (by decide) (by decide)) ?_
  rintro r sh' I' J' ⟨rfl, rfl, rfl, rfl⟩
  refine V_aload_n dX12_undo_107 rfl ?_
  refine V_getR (b := 104) dX12_undo_108 fX12_136 ⟨Nat.le_of_ble_eq_true rfl, Nat.le_of_ble_eq_true rfl⟩ rfl rfl rfl ?_
  refine V_aload_n dX12_undo_111 rfl ?_
  refine V_getR (b := 99) dX12_undo_112 fX12_121 ⟨Nat.le_of_ble_eq_true rfl, Nat.le_of_ble_eq_true rfl⟩ rfl rfl rfl ?_
  refine V_bipush (v := nI 12) dX12_undo_115 rfl ?_
  refine V_callS (As := [.ref 104, .ref 99, .int (nI 12)]) (st := []) dX12_undo_117 kX12_copies lX12_507 (by decide) rfl rfl (Nat.le_of_ble_eq_true rfl) ⟨Nat.le_of_ble_eq_true rfl, Nat.le_of_ble_eq_true rfl⟩ (w_copies (n0 := 12) (n1 := 12) ⟨Nat.le_of_ble_eq_true rfl, Nat.le_of_ble_eq_true rfl⟩ rfl ⟨Nat.le_of_ble_eq_true rfl, Nat.le_of_ble_eq_true rfl⟩ rfl (by decide) (by decide) (by decide) (by decide) (by decide)) ?_
  rintro r sh' I' J' ⟨rfl, rfl, rfl, rfl⟩
  refine V_aload_n dX12_undo_120 rfl ?_
  refine V_iconst (v := (-1)) dX12_undo_121 rfl ?_
  refine V_putW dX12_undo_122 fX12_155 ⟨Nat.le_of_ble_eq_true rfl, Nat.le_of_ble_eq_true rfl⟩ rfl rfl rfl ⟨rfl, rfl⟩ ?_
  refine V_iconst (v := nI 1) dX12_undo_125 rfl ?_
  exact V_iret ⟨Or.inr ⟨rfl, Or.inr rfl⟩, dX12_undo_126⟩ ⟨Nat.le_of_ble_eq_true rfl, Nat.le_of_ble_eq_true rfl⟩ ⟨rfl, rfl, rfl, rfl⟩

set_option maxRecDepth 100000 in
set_option maxHeartbeats 4000000 in
theorem w_undoN {G : zG} {I : zI} {J : zJ} (hk : I 62 62 = nI 0) : zK G mX12_undo 0 [.ref 62] zsh I J (zA0 (.int (nI 0)) I J) := by
  refine zK_of kX12_undo.2.2.2.2.1 (Nat.le_of_ble_eq_true rfl) ?_
  show V G mX12_undo 0 _ 0 [(0, .ref 62)] [] (0, 0) zsh I J
  refine V_aload_n dX12_undo_0 rfl ?_
  refine V_getI dX12_undo_1 fX12_489 ⟨Nat.le_of_ble_eq_true rfl, Nat.le_of_ble_eq_true rfl⟩ rfl rfl ?_
  refine V_eqI (y := nI 0) hk ?_
  refine V_if_ne (tgt := 9) dX12_undo_4 rfl (fun h => absurd h (by decide)) (fun _ => ?_)
  refine V_iconst (v := nI 0) dX12_undo_7 rfl ?_
  exact V_iret ⟨Or.inr ⟨rfl, Or.inl rfl⟩, dX12_undo_8⟩ ⟨Nat.le_of_ble_eq_true rfl, Nat.le_of_ble_eq_true rfl⟩ ⟨rfl, rfl, rfl, rfl⟩

