/-! THE CLASS: the tape; the log -/
set_option maxRecDepth 100000 in
set_option maxHeartbeats 4000000 in
theorem c_hasRoom10 {G : zG} {I : zI} {J : zJ} {t : Nat} (ht : I 3 1 = nI t) (ht2 : t ≤ 260) : zK G mX10_hasRoomForFive 0 [.ref 3] zsh I J (zA0 (.int (nI (if t + 20 ≤ 260 then 1 else 0))) I J) := by
  refine zK_of kX10_hasRoomForFive.2.2.2.2.1 (Nat.le_of_ble_eq_true rfl) ?_
  show V G mX10_hasRoomForFive 0 _ 0 [(0, .ref 3)] [] (0, 0) zsh I J
  refine V_aload_n dX10_hasRoomForFive_0 rfl ?_
  refine V_getI dX10_hasRoomForFive_1 fX10_13 ⟨Nat.le_of_ble_eq_true rfl, Nat.le_of_ble_eq_true rfl⟩ rfl rfl ?_
  refine V_eqI (y := nI t) ht ?_
  refine V_bipush (v := nI 20) dX10_hasRoomForFive_4 rfl ?_
  refine V_iaddN dX10_hasRoomForFive_6 ?_
  refine V_sipush (v := nI 260) dX10_hasRoomForFive_7 rfl ?_
  refine V_icmp_gtN (tgt := 17) dX10_hasRoomForFive_10 rfl (by omega) (by omega) (fun h10 => ?_) (fun h10 => ?_)
  · skip
    refine V_iconst (v := nI 0) dX10_hasRoomForFive_17 rfl ?_
    exact V_iret ⟨Or.inr ⟨rfl, Or.inl rfl⟩, dX10_hasRoomForFive_18⟩ ⟨Nat.le_of_ble_eq_true rfl, Nat.le_of_ble_eq_true rfl⟩ ⟨rfl, congrArg (fun z => some (Value.int (nI z))) (by split <;> omega), rfl, rfl⟩
  · skip
    refine V_iconst (v := nI 1) dX10_hasRoomForFive_13 rfl ?_
    refine V_goto (tgt := 18) dX10_hasRoomForFive_14 rfl ?_
    exact V_iret ⟨Or.inr ⟨rfl, Or.inr rfl⟩, dX10_hasRoomForFive_18⟩ ⟨Nat.le_of_ble_eq_true rfl, Nat.le_of_ble_eq_true rfl⟩ ⟨rfl, congrArg (fun z => some (Value.int (nI z))) (by split <;> omega), rfl, rfl⟩

def tadd (I : zI) (t : Nat) (v : Int32) : zI := zwr (zwr (zwr (zwr (zwr (zwr (zwr (zwr I 4 t (vp_nar .byte ((v >>> ((nI 24) &&& 31)).toInt8.toInt32))) 3 1 (nI (t + 1))) 4 (t + 1) (vp_nar .byte ((v >>> ((nI 16) &&& 31)).toInt8.toInt32))) 3 1 (nI ((t + 1) + 1))) 4 ((t + 1) + 1) (vp_nar .byte ((v >>> ((nI 8) &&& 31)).toInt8.toInt32))) 3 1 (nI (((t + 1) + 1) + 1))) 4 (((t + 1) + 1) + 1) (vp_nar .byte ((v >>> ((nI 0) &&& 31)).toInt8.toInt32))) 3 1 (nI ((((t + 1) + 1) + 1) + 1))
set_option maxRecDepth 100000 in
set_option maxHeartbeats 4000000 in
theorem c_addNumber {G : zG} {I : zI} {J : zJ} {t : Nat} (ht : I 3 1 = nI t) (ht2 : t + 4 ≤ 260) {v : Int32} : zK G mX10_addNumber 0 [.ref 3, .int v] zsh I J (zA2 (fun I' J' => I' = tadd I t v ∧ J = J')) := by
  refine zK_of kX10_addNumber.2.2.2.2.1 (Nat.le_of_ble_eq_true rfl) ?_
  show V G mX10_addNumber 0 _ 0 [(0, .ref 3), (1, .int v)] [] (0, 0) zsh I J
  refine V_bipush (v := nI 24) dX10_addNumber_0 rfl ?_
  refine V_istore_n (ls' := [(2, .int (nI 24)), (0, .ref 3), (1, .int v)]) dX10_addNumber_2 (by decide) rfl ?_
  refine V_iload_n dX10_addNumber_3 rfl ?_
  refine V_if_lt (tgt := 46) dX10_addNumber_4 rfl (fun h => absurd h (by decide)) (fun _ => ?_)
  refine V_aload_n dX10_addNumber_7 rfl ?_
  refine V_getI dX10_addNumber_8 fX10_13 ⟨Nat.le_of_ble_eq_true rfl, Nat.le_of_ble_eq_true rfl⟩ rfl rfl ?_
  refine V_eqI (y := nI t) ht ?_
  refine V_sipush (v := nI 260) dX10_addNumber_11 rfl ?_
  refine V_icmp_geN (tgt := 46) dX10_addNumber_14 rfl (by omega) (by omega) (fun h => absurd h (by omega)) (fun _ => ?_)
  refine V_aload_n dX10_addNumber_17 rfl ?_
  refine V_getR (b := 4) dX10_addNumber_18 fX10_9 ⟨Nat.le_of_ble_eq_true rfl, Nat.le_of_ble_eq_true rfl⟩ rfl rfl rfl ?_
  refine V_aload_n dX10_addNumber_21 rfl ?_
  refine V_getI dX10_addNumber_22 fX10_13 ⟨Nat.le_of_ble_eq_true rfl, Nat.le_of_ble_eq_true rfl⟩ rfl rfl ?_
  refine V_eqI (y := nI t) ht ?_
  refine V_iload_n dX10_addNumber_25 rfl ?_
  refine V_iload_n dX10_addNumber_26 rfl ?_
  refine V_ishr dX10_addNumber_27 ?_
  refine V_i2b dX10_addNumber_28 ?_
  refine V_bastN (k := t) dX10_addNumber_29 ⟨Nat.le_of_ble_eq_true rfl, Nat.le_of_ble_eq_true rfl⟩ rfl (by decide) (by omega) ?_
  refine V_aload_n dX10_addNumber_30 rfl ?_
  refine V_dup dX10_addNumber_31 rfl ?_
  refine V_getI dX10_addNumber_32 fX10_13 ⟨Nat.le_of_ble_eq_true rfl, Nat.le_of_ble_eq_true rfl⟩ rfl rfl ?_
  refine V_eqI (y := I 3 1) rfl ?_
  refine V_eqI (y := nI t) ht ?_
  refine V_iconst (v := nI 1) dX10_addNumber_35 rfl ?_
  refine V_iaddN dX10_addNumber_36 ?_
  refine V_putW dX10_addNumber_37 fX10_13 ⟨Nat.le_of_ble_eq_true rfl, Nat.le_of_ble_eq_true rfl⟩ rfl rfl rfl ⟨rfl, rfl⟩ ?_
  refine V_iinc (v := nI 16) (ls' := [(2, .int (nI 16)), (0, .ref 3), (1, .int v)]) dX10_addNumber_40 rfl (by decide) (by decide) rfl ?_
  refine V_goto (tgt := 3) dX10_addNumber_43 rfl ?_
  refine V_iload_n dX10_addNumber_3 rfl ?_
  refine V_if_lt (tgt := 46) dX10_addNumber_4 rfl (fun h => absurd h (by decide)) (fun _ => ?_)
  refine V_aload_n dX10_addNumber_7 rfl ?_
  refine V_getI dX10_addNumber_8 fX10_13 ⟨Nat.le_of_ble_eq_true rfl, Nat.le_of_ble_eq_true rfl⟩ rfl rfl ?_
  refine V_eqI (y := nI (t + 1)) rfl ?_
  refine V_sipush (v := nI 260) dX10_addNumber_11 rfl ?_
  refine V_icmp_geN (tgt := 46) dX10_addNumber_14 rfl (by omega) (by omega) (fun h => absurd h (by omega)) (fun _ => ?_)
  refine V_aload_n dX10_addNumber_17 rfl ?_
  refine V_getR (b := 4) dX10_addNumber_18 fX10_9 ⟨Nat.le_of_ble_eq_true rfl, Nat.le_of_ble_eq_true rfl⟩ rfl rfl rfl ?_
  refine V_aload_n dX10_addNumber_21 rfl ?_
  refine V_getI dX10_addNumber_22 fX10_13 ⟨Nat.le_of_ble_eq_true rfl, Nat.le_of_ble_eq_true rfl⟩ rfl rfl ?_
  refine V_eqI (y := nI (t + 1)) rfl ?_
  refine V_iload_n dX10_addNumber_25 rfl ?_
  refine V_iload_n dX10_addNumber_26 rfl ?_
  refine V_ishr dX10_addNumber_27 ?_
  refine V_i2b dX10_addNumber_28 ?_
  refine V_bastN (k := t + 1) dX10_addNumber_29 ⟨Nat.le_of_ble_eq_true rfl, Nat.le_of_ble_eq_true rfl⟩ rfl (by decide) (by omega) ?_
  refine V_aload_n dX10_addNumber_30 rfl ?_
  refine V_dup dX10_addNumber_31 rfl ?_
  refine V_getI dX10_addNumber_32 fX10_13 ⟨Nat.le_of_ble_eq_true rfl, Nat.le_of_ble_eq_true rfl⟩ rfl rfl ?_
  refine V_eqI (y := nI (t + 1)) rfl ?_
  refine V_iconst (v := nI 1) dX10_addNumber_35 rfl ?_
  refine V_iaddN dX10_addNumber_36 ?_
  refine V_putW dX10_addNumber_37 fX10_13 ⟨Nat.le_of_ble_eq_true rfl, Nat.le_of_ble_eq_true rfl⟩ rfl rfl rfl ⟨rfl, rfl⟩ ?_
  refine V_iinc (v := nI 8) (ls' := [(2, .int (nI 8)), (0, .ref 3), (1, .int v)]) dX10_addNumber_40 rfl (by decide) (by decide) rfl ?_
  refine V_goto (tgt := 3) dX10_addNumber_43 rfl ?_
  refine V_iload_n dX10_addNumber_3 rfl ?_
  refine V_if_lt (tgt := 46) dX10_addNumber_4 rfl (fun h => absurd h (by decide)) (fun _ => ?_)
  refine V_aload_n dX10_addNumber_7 rfl ?_
  refine V_getI dX10_addNumber_8 fX10_13 ⟨Nat.le_of_ble_eq_true rfl, Nat.le_of_ble_eq_true rfl⟩ rfl rfl ?_
  refine V_eqI (y := nI ((t + 1) + 1)) rfl ?_
  refine V_sipush (v := nI 260) dX10_addNumber_11 rfl ?_
  refine V_icmp_geN (tgt := 46) dX10_addNumber_14 rfl (by omega) (by omega) (fun h => absurd h (by omega)) (fun _ => ?_)
  refine V_aload_n dX10_addNumber_17 rfl ?_
  refine V_getR (b := 4) dX10_addNumber_18 fX10_9 ⟨Nat.le_of_ble_eq_true rfl, Nat.le_of_ble_eq_true rfl⟩ rfl rfl rfl ?_
  refine V_aload_n dX10_addNumber_21 rfl ?_
  refine V_getI dX10_addNumber_22 fX10_13 ⟨Nat.le_of_ble_eq_true rfl, Nat.le_of_ble_eq_true rfl⟩ rfl rfl ?_
  refine V_eqI (y := nI ((t + 1) + 1)) rfl ?_
  refine V_iload_n dX10_addNumber_25 rfl ?_
  refine V_iload_n dX10_addNumber_26 rfl ?_
  refine V_ishr dX10_addNumber_27 ?_
  refine V_i2b dX10_addNumber_28 ?_
  refine V_bastN (k := (t + 1) + 1) dX10_addNumber_29 ⟨Nat.le_of_ble_eq_true rfl, Nat.le_of_ble_eq_true rfl⟩ rfl (by decide) (by omega) ?_
  refine V_aload_n dX10_addNumber_30 rfl ?_
  refine V_dup dX10_addNumber_31 rfl ?_
  refine V_getI dX10_addNumber_32 fX10_13 ⟨Nat.le_of_ble_eq_true rfl, Nat.le_of_ble_eq_true rfl⟩ rfl rfl ?_
  refine V_eqI (y := nI ((t + 1) + 1)) rfl ?_
  refine V_iconst (v := nI 1) dX10_addNumber_35 rfl ?_
  refine V_iaddN dX10_addNumber_36 ?_
  refine V_putW dX10_addNumber_37 fX10_13 ⟨Nat.le_of_ble_eq_true rfl, Nat.le_of_ble_eq_true rfl⟩ rfl rfl rfl ⟨rfl, rfl⟩ ?_
  refine V_iinc (v := nI 0) (ls' := [(2, .int (nI 0)), (0, .ref 3), (1, .int v)]) dX10_addNumber_40 rfl (by decide) (by decide) rfl ?_
  refine V_goto (tgt := 3) dX10_addNumber_43 rfl ?_
  refine V_iload_n dX10_addNumber_3 rfl ?_
  refine V_if_lt (tgt := 46) dX10_addNumber_4 rfl (fun h => absurd h (by decide)) (fun _ => ?_)
  refine V_aload_n dX10_addNumber_7 rfl ?_
  refine V_getI dX10_addNumber_8 fX10_13 ⟨Nat.le_of_ble_eq_true rfl, Nat.le_of_ble_eq_true rfl⟩ rfl rfl ?_
  refine V_eqI (y := nI (((t + 1) + 1) + 1)) rfl ?_
  refine V_sipush (v := nI 260) dX10_addNumber_11 rfl ?_
  refine V_icmp_geN (tgt := 46) dX10_addNumber_14 rfl (by omega) (by omega) (fun h => absurd h (by omega)) (fun _ => ?_)
  refine V_aload_n dX10_addNumber_17 rfl ?_
  refine V_getR (b := 4) dX10_addNumber_18 fX10_9 ⟨Nat.le_of_ble_eq_true rfl, Nat.le_of_ble_eq_true rfl⟩ rfl rfl rfl ?_
  refine V_aload_n dX10_addNumber_21 rfl ?_
  refine V_getI dX10_addNumber_22 fX10_13 ⟨Nat.le_of_ble_eq_true rfl, Nat.le_of_ble_eq_true rfl⟩ rfl rfl ?_
  refine V_eqI (y := nI (((t + 1) + 1) + 1)) rfl ?_
  refine V_iload_n dX10_addNumber_25 rfl ?_
  refine V_iload_n dX10_addNumber_26 rfl ?_
  refine V_ishr dX10_addNumber_27 ?_
  refine V_i2b dX10_addNumber_28 ?_
  refine V_bastN (k := ((t + 1) + 1) + 1) dX10_addNumber_29 ⟨Nat.le_of_ble_eq_true rfl, Nat.le_of_ble_eq_true rfl⟩ rfl (by decide) (by omega) ?_
  refine V_aload_n dX10_addNumber_30 rfl ?_
  refine V_dup dX10_addNumber_31 rfl ?_
  refine V_getI dX10_addNumber_32 fX10_13 ⟨Nat.le_of_ble_eq_true rfl, Nat.le_of_ble_eq_true rfl⟩ rfl rfl ?_
  refine V_eqI (y := nI (((t + 1) + 1) + 1)) rfl ?_
  refine V_iconst (v := nI 1) dX10_addNumber_35 rfl ?_
  refine V_iaddN dX10_addNumber_36 ?_
  refine V_putW dX10_addNumber_37 fX10_13 ⟨Nat.le_of_ble_eq_true rfl, Nat.le_of_ble_eq_true rfl⟩ rfl rfl rfl ⟨rfl, rfl⟩ ?_
  refine V_iinc (v := (-8)) (ls' := [(2, .int (-8)), (0, .ref 3), (1, .int v)]) dX10_addNumber_40 rfl (by decide) (by decide) rfl ?_
  refine V_goto (tgt := 3) dX10_addNumber_43 rfl ?_
  refine V_iload_n dX10_addNumber_3 rfl ?_
  refine V_if_lt (tgt := 46) dX10_addNumber_4 rfl (fun _ => ?_) (fun h => absurd h (by decide))
  exact V_ret ⟨rfl, dX10_addNumber_46⟩ ⟨Nat.le_of_ble_eq_true rfl, Nat.le_of_ble_eq_true rfl⟩ ⟨rfl, rfl, rfl, rfl⟩

def tnum (f : Nat → Int32) (p : Nat) : Int32 := ((((((((nI 0) <<< ((nI 8) &&& 31)) ||| ((f (4 * p)) &&& (nI 255))) <<< ((nI 8) &&& 31)) ||| ((f ((4 * p) + 1)) &&& (nI 255))) <<< ((nI 8) &&& 31)) ||| ((f (((4 * p) + 1) + 1)) &&& (nI 255))) <<< ((nI 8) &&& 31)) ||| ((f ((((4 * p) + 1) + 1) + 1)) &&& (nI 255))
set_option maxRecDepth 100000 in
set_option maxHeartbeats 4000000 in
theorem c_numberAt {G : zG} {I : zI} {J : zJ} {p : Nat} (hp : p < 65) : zK G mX10_numberAt 0 [.ref 3, .int (nI p)] zsh I J (zA0 (.int (tnum (I 4) p)) I J) := by
  refine zK_of kX10_numberAt.2.2.2.2.1 (Nat.le_of_ble_eq_true rfl) ?_
  show V G mX10_numberAt 0 _ 0 [(0, .ref 3), (1, .int (nI p))] [] (0, 0) zsh I J
  refine V_iconst (v := nI 0) dX10_numberAt_0 rfl ?_
  refine V_istore_n (ls' := [(2, .int (nI 0)), (0, .ref 3), (1, .int (nI p))]) dX10_numberAt_1 (by decide) rfl ?_
  refine V_iconst (v := nI 4) dX10_numberAt_2 rfl ?_
  refine V_iload_n dX10_numberAt_3 rfl ?_
  refine V_imulN dX10_numberAt_4 ?_
  refine V_istore_n (ls' := [(3, .int (nI (4 * p))), (2, .int (nI 0)), (0, .ref 3), (1, .int (nI p))]) dX10_numberAt_5 (by decide) rfl ?_
  refine V_iload_n dX10_numberAt_6 rfl ?_
  refine V_iconst (v := nI 4) dX10_numberAt_7 rfl ?_
  refine V_iload_n dX10_numberAt_8 rfl ?_
  refine V_imulN dX10_numberAt_9 ?_
  refine V_iconst (v := nI 4) dX10_numberAt_10 rfl ?_
  refine V_iaddN dX10_numberAt_11 ?_
  refine V_icmp_geN (tgt := 48) dX10_numberAt_12 rfl (by omega) (by omega) (fun h => absurd h (by omega)) (fun _ => ?_)
  refine V_iload_n dX10_numberAt_15 rfl ?_
  refine V_if_ltN (tgt := 48) dX10_numberAt_16 rfl (by omega) ?_
  refine V_iload_n dX10_numberAt_19 rfl ?_
  refine V_sipush (v := nI 260) dX10_numberAt_20 rfl ?_
  refine V_icmp_geN (tgt := 48) dX10_numberAt_23 rfl (by omega) (by omega) (fun h => absurd h (by omega)) (fun _ => ?_)
  refine V_iload_n dX10_numberAt_26 rfl ?_
  refine V_bipush (v := nI 8) dX10_numberAt_27 rfl ?_
  refine V_ishl dX10_numberAt_29 ?_
  refine V_aload_n dX10_numberAt_30 rfl ?_
  refine V_getR (b := 4) dX10_numberAt_31 fX10_9 ⟨Nat.le_of_ble_eq_true rfl, Nat.le_of_ble_eq_true rfl⟩ rfl rfl rfl ?_
  refine V_iload_n dX10_numberAt_34 rfl ?_
  refine V_baldN (k := 4 * p) dX10_numberAt_35 ⟨Nat.le_of_ble_eq_true rfl, Nat.le_of_ble_eq_true rfl⟩ rfl (by decide) (by omega) ?_
  refine V_sipush (v := nI 255) dX10_numberAt_36 rfl ?_
  refine V_iand dX10_numberAt_39 ?_
  refine V_ior dX10_numberAt_40 ?_
  refine V_istore_n (ls' := [(2, .int (((nI 0) <<< ((nI 8) &&& 31)) ||| ((I 4 (4 * p)) &&& (nI 255)))), (3, .int (nI (4 * p))), (0, .ref 3), (1, .int (nI p))]) dX10_numberAt_41 (by decide) rfl ?_
  refine V_iincN (ls' := [(3, .int (nI ((4 * p) + 1))), (2, .int (((nI 0) <<< ((nI 8) &&& 31)) ||| ((I 4 (4 * p)) &&& (nI 255)))), (0, .ref 3), (1, .int (nI p))]) (n := 1) dX10_numberAt_42 rfl rfl (by decide) (by decide) rfl ?_
  refine V_goto (tgt := 6) dX10_numberAt_45 rfl ?_
  refine V_iload_n dX10_numberAt_6 rfl ?_
  refine V_iconst (v := nI 4) dX10_numberAt_7 rfl ?_
  refine V_iload_n dX10_numberAt_8 rfl ?_
  refine V_imulN dX10_numberAt_9 ?_
  refine V_iconst (v := nI 4) dX10_numberAt_10 rfl ?_
  refine V_iaddN dX10_numberAt_11 ?_
  refine V_icmp_geN (tgt := 48) dX10_numberAt_12 rfl (by omega) (by omega) (fun h => absurd h (by omega)) (fun _ => ?_)
  refine V_iload_n dX10_numberAt_15 rfl ?_
  refine V_if_ltN (tgt := 48) dX10_numberAt_16 rfl (by omega) ?_
  refine V_iload_n dX10_numberAt_19 rfl ?_
  refine V_sipush (v := nI 260) dX10_numberAt_20 rfl ?_
  refine V_icmp_geN (tgt := 48) dX10_numberAt_23 rfl (by omega) (by omega) (fun h => absurd h (by omega)) (fun _ => ?_)
  refine V_iload_n dX10_numberAt_26 rfl ?_
  refine V_bipush (v := nI 8) dX10_numberAt_27 rfl ?_
  refine V_ishl dX10_numberAt_29 ?_
  refine V_aload_n dX10_numberAt_30 rfl ?_
  refine V_getR (b := 4) dX10_numberAt_31 fX10_9 ⟨Nat.le_of_ble_eq_true rfl, Nat.le_of_ble_eq_true rfl⟩ rfl rfl rfl ?_
  refine V_iload_n dX10_numberAt_34 rfl ?_
  refine V_baldN (k := (4 * p) + 1) dX10_numberAt_35 ⟨Nat.le_of_ble_eq_true rfl, Nat.le_of_ble_eq_true rfl⟩ rfl (by decide) (by omega) ?_
  refine V_sipush (v := nI 255) dX10_numberAt_36 rfl ?_
  refine V_iand dX10_numberAt_39 ?_
  refine V_ior dX10_numberAt_40 ?_
  refine V_istore_n (ls' := [(2, .int (((((nI 0) <<< ((nI 8) &&& 31)) ||| ((I 4 (4 * p)) &&& (nI 255))) <<< ((nI 8) &&& 31)) ||| ((I 4 ((4 * p) + 1)) &&& (nI 255)))), (3, .int (nI ((4 * p) + 1))), (0, .ref 3), (1, .int (nI p))]) dX10_numberAt_41 (by decide) rfl ?_
  refine V_iincN (ls' := [(3, .int (nI (((4 * p) + 1) + 1))), (2, .int (((((nI 0) <<< ((nI 8) &&& 31)) ||| ((I 4 (4 * p)) &&& (nI 255))) <<< ((nI 8) &&& 31)) ||| ((I 4 ((4 * p) + 1)) &&& (nI 255)))), (0, .ref 3), (1, .int (nI p))]) (n := 1) dX10_numberAt_42 rfl rfl (by decide) (by decide) rfl ?_
  refine V_goto (tgt := 6) dX10_numberAt_45 rfl ?_
  refine V_iload_n dX10_numberAt_6 rfl ?_
  refine V_iconst (v := nI 4) dX10_numberAt_7 rfl ?_
  refine V_iload_n dX10_numberAt_8 rfl ?_
  refine V_imulN dX10_numberAt_9 ?_
  refine V_iconst (v := nI 4) dX10_numberAt_10 rfl ?_
  refine V_iaddN dX10_numberAt_11 ?_
  refine V_icmp_geN (tgt := 48) dX10_numberAt_12 rfl (by omega) (by omega) (fun h => absurd h (by omega)) (fun _ => ?_)
  refine V_iload_n dX10_numberAt_15 rfl ?_
  refine V_if_ltN (tgt := 48) dX10_numberAt_16 rfl (by omega) ?_
  refine V_iload_n dX10_numberAt_19 rfl ?_
  refine V_sipush (v := nI 260) dX10_numberAt_20 rfl ?_
  refine V_icmp_geN (tgt := 48) dX10_numberAt_23 rfl (by omega) (by omega) (fun h => absurd h (by omega)) (fun _ => ?_)
  refine V_iload_n dX10_numberAt_26 rfl ?_
  refine V_bipush (v := nI 8) dX10_numberAt_27 rfl ?_
  refine V_ishl dX10_numberAt_29 ?_
  refine V_aload_n dX10_numberAt_30 rfl ?_
  refine V_getR (b := 4) dX10_numberAt_31 fX10_9 ⟨Nat.le_of_ble_eq_true rfl, Nat.le_of_ble_eq_true rfl⟩ rfl rfl rfl ?_
  refine V_iload_n dX10_numberAt_34 rfl ?_
  refine V_baldN (k := ((4 * p) + 1) + 1) dX10_numberAt_35 ⟨Nat.le_of_ble_eq_true rfl, Nat.le_of_ble_eq_true rfl⟩ rfl (by decide) (by omega) ?_
  refine V_sipush (v := nI 255) dX10_numberAt_36 rfl ?_
  refine V_iand dX10_numberAt_39 ?_
  refine V_ior dX10_numberAt_40 ?_
  refine V_istore_n (ls' := [(2, .int (((((((nI 0) <<< ((nI 8) &&& 31)) ||| ((I 4 (4 * p)) &&& (nI 255))) <<< ((nI 8) &&& 31)) ||| ((I 4 ((4 * p) + 1)) &&& (nI 255))) <<< ((nI 8) &&& 31)) ||| ((I 4 (((4 * p) + 1) + 1)) &&& (nI 255)))), (3, .int (nI (((4 * p) + 1) + 1))), (0, .ref 3), (1, .int (nI p))]) dX10_numberAt_41 (by decide) rfl ?_
  refine V_iincN (ls' := [(3, .int (nI ((((4 * p) + 1) + 1) + 1))), (2, .int (((((((nI 0) <<< ((nI 8) &&& 31)) ||| ((I 4 (4 * p)) &&& (nI 255))) <<< ((nI 8) &&& 31)) ||| ((I 4 ((4 * p) + 1)) &&& (nI 255))) <<< ((nI 8) &&& 31)) ||| ((I 4 (((4 * p) + 1) + 1)) &&& (nI 255)))), (0, .ref 3), (1, .int (nI p))]) (n := 1) dX10_numberAt_42 rfl rfl (by decide) (by decide) rfl ?_
  refine V_goto (tgt := 6) dX10_numberAt_45 rfl ?_
  refine V_iload_n dX10_numberAt_6 rfl ?_
  refine V_iconst (v := nI 4) dX10_numberAt_7 rfl ?_
  refine V_iload_n dX10_numberAt_8 rfl ?_
  refine V_imulN dX10_numberAt_9 ?_
  refine V_iconst (v := nI 4) dX10_numberAt_10 rfl ?_
  refine V_iaddN dX10_numberAt_11 ?_
  refine V_icmp_geN (tgt := 48) dX10_numberAt_12 rfl (by omega) (by omega) (fun h => absurd h (by omega)) (fun _ => ?_)
  refine V_iload_n dX10_numberAt_15 rfl ?_
  refine V_if_ltN (tgt := 48) dX10_numberAt_16 rfl (by omega) ?_
  refine V_iload_n dX10_numberAt_19 rfl ?_
  refine V_sipush (v := nI 260) dX10_numberAt_20 rfl ?_
  refine V_icmp_geN (tgt := 48) dX10_numberAt_23 rfl (by omega) (by omega) (fun h => absurd h (by omega)) (fun _ => ?_)
  refine V_iload_n dX10_numberAt_26 rfl ?_
  refine V_bipush (v := nI 8) dX10_numberAt_27 rfl ?_
  refine V_ishl dX10_numberAt_29 ?_
  refine V_aload_n dX10_numberAt_30 rfl ?_
  refine V_getR (b := 4) dX10_numberAt_31 fX10_9 ⟨Nat.le_of_ble_eq_true rfl, Nat.le_of_ble_eq_true rfl⟩ rfl rfl rfl ?_
  refine V_iload_n dX10_numberAt_34 rfl ?_
  refine V_baldN (k := (((4 * p) + 1) + 1) + 1) dX10_numberAt_35 ⟨Nat.le_of_ble_eq_true rfl, Nat.le_of_ble_eq_true rfl⟩ rfl (by decide) (by omega) ?_
  refine V_sipush (v := nI 255) dX10_numberAt_36 rfl ?_
  refine V_iand dX10_numberAt_39 ?_
  refine V_ior dX10_numberAt_40 ?_
  refine V_istore_n (ls' := [(2, .int (((((((((nI 0) <<< ((nI 8) &&& 31)) ||| ((I 4 (4 * p)) &&& (nI 255))) <<< ((nI 8) &&& 31)) ||| ((I 4 ((4 * p) + 1)) &&& (nI 255))) <<< ((nI 8) &&& 31)) ||| ((I 4 (((4 * p) + 1) + 1)) &&& (nI 255))) <<< ((nI 8) &&& 31)) ||| ((I 4 ((((4 * p) + 1) + 1) + 1)) &&& (nI 255)))), (3, .int (nI ((((4 * p) + 1) + 1) + 1))), (0, .ref 3), (1, .int (nI p))]) dX10_numberAt_41 (by decide) rfl ?_
  refine V_iincN (ls' := [(3, .int (nI (((((4 * p) + 1) + 1) + 1) + 1))), (2, .int (((((((((nI 0) <<< ((nI 8) &&& 31)) ||| ((I 4 (4 * p)) &&& (nI 255))) <<< ((nI 8) &&& 31)) ||| ((I 4 ((4 * p) + 1)) &&& (nI 255))) <<< ((nI 8) &&& 31)) ||| ((I 4 (((4 * p) + 1) + 1)) &&& (nI 255))) <<< ((nI 8) &&& 31)) ||| ((I 4 ((((4 * p) + 1) + 1) + 1)) &&& (nI 255)))), (0, .ref 3), (1, .int (nI p))]) (n := 1) dX10_numberAt_42 rfl rfl (by decide) (by decide) rfl ?_
  refine V_goto (tgt := 6) dX10_numberAt_45 rfl ?_
  refine V_iload_n dX10_numberAt_6 rfl ?_
  refine V_iconst (v := nI 4) dX10_numberAt_7 rfl ?_
  refine V_iload_n dX10_numberAt_8 rfl ?_
  refine V_imulN dX10_numberAt_9 ?_
  refine V_iconst (v := nI 4) dX10_numberAt_10 rfl ?_
  refine V_iaddN dX10_numberAt_11 ?_
  refine V_icmp_geN (tgt := 48) dX10_numberAt_12 rfl (by omega) (by omega) (fun _ => ?_) (fun h => absurd h (by omega))
  refine V_iload_n dX10_numberAt_48 rfl ?_
  exact V_iret ⟨Or.inl rfl, dX10_numberAt_49⟩ ⟨Nat.le_of_ble_eq_true rfl, Nat.le_of_ble_eq_true rfl⟩ ⟨rfl, rfl, rfl, rfl⟩

/-- the log of the class: n throws, what and by whom, the states' places -/
def lgX (I : zI) (n la : Nat) (th sd c0 c1 : Nat → Nat) : Prop := I 36 5 = nI n ∧ n ≤ 6 ∧ I 36 4 = nI la ∧ la ≤ 1 ∧ (∀ k, k < n → I 37 k = nI (th k) ∧ I 38 k = nI (sd k) ∧ th k ≤ 2 ∧ sd k ≤ 1) ∧ (∀ k, k ≤ n → I 39 k = nI (c0 k) ∧ I 40 k = nI (c1 k) ∧ c0 k < 56 ∧ c1 k < 56)
set_option maxRecDepth 100000 in
set_option maxHeartbeats 4000000 in
theorem c_forget {G : zG} {I : zI} {J : zJ}  : zK G mX6_forget 0 [.ref 36] zsh I J (zA2 (fun I' J' => I' = zwr I 36 5 (-1) ∧ J = J')) := by
  refine zK_of kX6_forget.2.2.2.2.1 (Nat.le_of_ble_eq_true rfl) ?_
  show V G mX6_forget 0 _ 0 [(0, .ref 36)] [] (0, 0) zsh I J
  refine V_aload_n dX6_forget_0 rfl ?_
  refine V_iconst (v := (-1)) dX6_forget_1 rfl ?_
  refine V_putW dX6_forget_2 fX6_24 ⟨Nat.le_of_ble_eq_true rfl, Nat.le_of_ble_eq_true rfl⟩ rfl rfl rfl ⟨rfl, rfl⟩ ?_
  exact V_ret ⟨rfl, dX6_forget_5⟩ ⟨Nat.le_of_ble_eq_true rfl, Nat.le_of_ble_eq_true rfl⟩ ⟨rfl, rfl, rfl, rfl⟩

def lbeg (I : zI) (p q last : Nat) : zI := zwr (zwr (zwr (zwr I 36 5 (nI 0)) 36 4 (nI last)) 39 0 (nI p)) 40 0 (nI q)
set_option maxRecDepth 100000 in
set_option maxHeartbeats 4000000 in
theorem c_begin {G : zG} {I : zI} {J : zJ} {p q last : Nat} : zK G mX6_begin 0 [.ref 36, .int (nI p), .int (nI q), .int (nI last)] zsh I J (zA2 (fun I' J' => I' = lbeg I p q last ∧ J = J')) := by
  refine zK_of kX6_begin.2.2.2.2.1 (Nat.le_of_ble_eq_true rfl) ?_
  show V G mX6_begin 0 _ 0 [(0, .ref 36), (1, .int (nI p)), (2, .int (nI q)), (3, .int (nI last))] [] (0, 0) zsh I J
  refine V_aload_n dX6_begin_0 rfl ?_
  refine V_iconst (v := nI 0) dX6_begin_1 rfl ?_
  refine V_putW dX6_begin_2 fX6_24 ⟨Nat.le_of_ble_eq_true rfl, Nat.le_of_ble_eq_true rfl⟩ rfl rfl rfl ⟨rfl, rfl⟩ ?_
  refine V_aload_n dX6_begin_5 rfl ?_
  refine V_iload_n dX6_begin_6 rfl ?_
  refine V_putW dX6_begin_7 fX6_28 ⟨Nat.le_of_ble_eq_true rfl, Nat.le_of_ble_eq_true rfl⟩ rfl rfl rfl ⟨rfl, rfl⟩ ?_
  refine V_aload_n dX6_begin_10 rfl ?_
  refine V_getR (b := 39) dX6_begin_11 fX6_18 ⟨Nat.le_of_ble_eq_true rfl, Nat.le_of_ble_eq_true rfl⟩ rfl rfl rfl ?_
  refine V_iconst (v := nI 0) dX6_begin_14 rfl ?_
  refine V_iload_n dX6_begin_15 rfl ?_
  refine V_iastN (k := 0) dX6_begin_16 ⟨Nat.le_of_ble_eq_true rfl, Nat.le_of_ble_eq_true rfl⟩ rfl (by decide) (by omega) ?_
  refine V_aload_n dX6_begin_17 rfl ?_
  refine V_getR (b := 40) dX6_begin_18 fX6_21 ⟨Nat.le_of_ble_eq_true rfl, Nat.le_of_ble_eq_true rfl⟩ rfl rfl rfl ?_
  refine V_iconst (v := nI 0) dX6_begin_21 rfl ?_
  refine V_iload_n dX6_begin_22 rfl ?_
  refine V_iastN (k := 0) dX6_begin_23 ⟨Nat.le_of_ble_eq_true rfl, Nat.le_of_ble_eq_true rfl⟩ rfl (by decide) (by omega) ?_
  exact V_ret ⟨rfl, dX6_begin_24⟩ ⟨Nat.le_of_ble_eq_true rfl, Nat.le_of_ble_eq_true rfl⟩ ⟨rfl, rfl, rfl, rfl⟩

def ladd (I : zI) (n w s p q : Nat) : zI := zwr (zwr (zwr (zwr (zwr I 37 n (nI w)) 38 n (nI s)) 36 5 (nI (n + 1))) 39 (n + 1) (nI p)) 40 (n + 1) (nI q)
set_option maxRecDepth 100000 in
set_option maxHeartbeats 4000000 in
theorem c_add6 {G : zG} {I : zI} {J : zJ} {n w s p q : Nat} (hn : I 36 5 = nI n) (hn6 : n < 6) : zK G mX6_add 0 [.ref 36, .int (nI w), .int (nI s), .int (nI p), .int (nI q)] zsh I J (zA2 (fun I' J' => I' = ladd I n w s p q ∧ J = J')) := by
  refine zK_of kX6_add.2.2.2.2.1 (Nat.le_of_ble_eq_true rfl) ?_
  show V G mX6_add 0 _ 0 [(0, .ref 36), (1, .int (nI w)), (2, .int (nI s)), (3, .int (nI p)), (4, .int (nI q))] [] (0, 0) zsh I J
  refine V_aload_n dX6_add_0 rfl ?_
  refine V_getI dX6_add_1 fX6_24 ⟨Nat.le_of_ble_eq_true rfl, Nat.le_of_ble_eq_true rfl⟩ rfl rfl ?_
  refine V_eqI (y := nI n) hn ?_
  refine V_if_ltN (tgt := 67) dX6_add_4 rfl (by omega) ?_
  refine V_aload_n dX6_add_7 rfl ?_
  refine V_getI dX6_add_8 fX6_24 ⟨Nat.le_of_ble_eq_true rfl, Nat.le_of_ble_eq_true rfl⟩ rfl rfl ?_
  refine V_eqI (y := nI n) hn ?_
  refine V_bipush (v := nI 6) dX6_add_11 rfl ?_
  refine V_icmp_geN (tgt := 67) dX6_add_13 rfl (by omega) (by omega) (fun h => absurd h (by omega)) (fun _ => ?_)
  refine V_aload_n dX6_add_16 rfl ?_
  refine V_getR (b := 37) dX6_add_17 fX6_9 ⟨Nat.le_of_ble_eq_true rfl, Nat.le_of_ble_eq_true rfl⟩ rfl rfl rfl ?_
  refine V_aload_n dX6_add_20 rfl ?_
  refine V_getI dX6_add_21 fX6_24 ⟨Nat.le_of_ble_eq_true rfl, Nat.le_of_ble_eq_true rfl⟩ rfl rfl ?_
  refine V_eqI (y := nI n) hn ?_
  refine V_iload_n dX6_add_24 rfl ?_
  refine V_iastN (k := n) dX6_add_25 ⟨Nat.le_of_ble_eq_true rfl, Nat.le_of_ble_eq_true rfl⟩ rfl (by decide) (by omega) ?_
  refine V_aload_n dX6_add_26 rfl ?_
  refine V_getR (b := 38) dX6_add_27 fX6_15 ⟨Nat.le_of_ble_eq_true rfl, Nat.le_of_ble_eq_true rfl⟩ rfl rfl rfl ?_
  refine V_aload_n dX6_add_30 rfl ?_
  refine V_getI dX6_add_31 fX6_24 ⟨Nat.le_of_ble_eq_true rfl, Nat.le_of_ble_eq_true rfl⟩ rfl rfl ?_
  refine V_eqI (y := I 36 5) rfl ?_
  refine V_eqI (y := nI n) hn ?_
  refine V_iload_n dX6_add_34 rfl ?_
  refine V_iastN (k := n) dX6_add_35 ⟨Nat.le_of_ble_eq_true rfl, Nat.le_of_ble_eq_true rfl⟩ rfl (by decide) (by omega) ?_
  refine V_aload_n dX6_add_36 rfl ?_
  refine V_dup dX6_add_37 rfl ?_
  refine V_getI dX6_add_38 fX6_24 ⟨Nat.le_of_ble_eq_true rfl, Nat.le_of_ble_eq_true rfl⟩ rfl rfl ?_
  refine V_eqI (y := I 36 5) rfl ?_
  refine V_eqI (y := nI n) hn ?_
  refine V_iconst (v := nI 1) dX6_add_41 rfl ?_
  refine V_iaddN dX6_add_42 ?_
  refine V_putW dX6_add_43 fX6_24 ⟨Nat.le_of_ble_eq_true rfl, Nat.le_of_ble_eq_true rfl⟩ rfl rfl rfl ⟨rfl, rfl⟩ ?_
  refine V_aload_n dX6_add_46 rfl ?_
  refine V_getR (b := 39) dX6_add_47 fX6_18 ⟨Nat.le_of_ble_eq_true rfl, Nat.le_of_ble_eq_true rfl⟩ rfl rfl rfl ?_
  refine V_aload_n dX6_add_50 rfl ?_
  refine V_getI dX6_add_51 fX6_24 ⟨Nat.le_of_ble_eq_true rfl, Nat.le_of_ble_eq_true rfl⟩ rfl rfl ?_
  refine V_eqI (y := nI (n + 1)) rfl ?_
  refine V_iload_n dX6_add_54 rfl ?_
  refine V_iastN (k := n + 1) dX6_add_55 ⟨Nat.le_of_ble_eq_true rfl, Nat.le_of_ble_eq_true rfl⟩ rfl (by decide) (by omega) ?_
  refine V_aload_n dX6_add_56 rfl ?_
  refine V_getR (b := 40) dX6_add_57 fX6_21 ⟨Nat.le_of_ble_eq_true rfl, Nat.le_of_ble_eq_true rfl⟩ rfl rfl rfl ?_
  refine V_aload_n dX6_add_60 rfl ?_
  refine V_getI dX6_add_61 fX6_24 ⟨Nat.le_of_ble_eq_true rfl, Nat.le_of_ble_eq_true rfl⟩ rfl rfl ?_
  refine V_eqI (y := nI (n + 1)) rfl ?_
  refine V_iload dX6_add_64 rfl ?_
  refine V_iastN (k := n + 1) dX6_add_66 ⟨Nat.le_of_ble_eq_true rfl, Nat.le_of_ble_eq_true rfl⟩ rfl (by decide) (by omega) ?_
  exact V_ret ⟨rfl, dX6_add_67⟩ ⟨Nat.le_of_ble_eq_true rfl, Nat.le_of_ble_eq_true rfl⟩ ⟨rfl, rfl, rfl, rfl⟩

set_option maxRecDepth 100000 in
set_option maxHeartbeats 4000000 in
theorem c_codeOf0 {G : zG} {I : zI} {J : zJ} {n la : Nat} {th sd c0 c1 : Nat → Nat} (hL : lgX I n la th sd c0 c1) {i : Nat} (hi : i ≤ n) : zK G mX6_codeOf0 1 [.ref 36, .int (nI i)] zsh I J (zA0 (.int (nI (c0 i))) I J) := by
  refine zK_of kX6_codeOf0.2.2.2.2.1 (Nat.le_of_ble_eq_true rfl) ?_
  show V G mX6_codeOf0 1 _ 0 [(0, .ref 36), (1, .int (nI i))] [] (0, 0) zsh I J
  obtain ⟨hn, hn6, hla, hla1, hr, hc⟩ := id hL
  refine V_aload_n dX6_codeOf0_0 rfl ?_
  refine V_getR (b := 39) dX6_codeOf0_1 fX6_18 ⟨Nat.le_of_ble_eq_true rfl, Nat.le_of_ble_eq_true rfl⟩ rfl rfl rfl ?_
  refine V_iload_n dX6_codeOf0_4 rfl ?_
  refine V_callS (As := [.ref 39, .int (nI i)]) (st := []) dX6_codeOf0_5 kX11_at lX6_31 (by decide) rfl rfl (Nat.le_of_ble_eq_true rfl) ⟨Nat.le_of_ble_eq_true rfl, Nat.le_of_ble_eq_true rfl⟩ (c_at (a := 39) (n := 7) ⟨Nat.le_of_ble_eq_true rfl, Nat.le_of_ble_eq_true rfl⟩ rfl (by decide) (by omega)) ?_
  rintro _ _ _ _ ⟨rfl, rfl, rfl, rfl⟩
  refine V_eqI (y := nI (c0 i)) (hc i (by omega)).1 ?_
  exact V_iret ⟨Or.inl rfl, dX6_codeOf0_8⟩ ⟨Nat.le_of_ble_eq_true rfl, Nat.le_of_ble_eq_true rfl⟩ ⟨rfl, rfl, rfl, rfl⟩

set_option maxRecDepth 100000 in
set_option maxHeartbeats 4000000 in
theorem c_codeOf1 {G : zG} {I : zI} {J : zJ} {n la : Nat} {th sd c0 c1 : Nat → Nat} (hL : lgX I n la th sd c0 c1) {i : Nat} (hi : i ≤ n) : zK G mX6_codeOf1 1 [.ref 36, .int (nI i)] zsh I J (zA0 (.int (nI (c1 i))) I J) := by
  refine zK_of kX6_codeOf1.2.2.2.2.1 (Nat.le_of_ble_eq_true rfl) ?_
  show V G mX6_codeOf1 1 _ 0 [(0, .ref 36), (1, .int (nI i))] [] (0, 0) zsh I J
  obtain ⟨hn, hn6, hla, hla1, hr, hc⟩ := id hL
  refine V_aload_n dX6_codeOf1_0 rfl ?_
  refine V_getR (b := 40) dX6_codeOf1_1 fX6_21 ⟨Nat.le_of_ble_eq_true rfl, Nat.le_of_ble_eq_true rfl⟩ rfl rfl rfl ?_
  refine V_iload_n dX6_codeOf1_4 rfl ?_
  refine V_callS (As := [.ref 40, .int (nI i)]) (st := []) dX6_codeOf1_5 kX11_at lX6_31 (by decide) rfl rfl (Nat.le_of_ble_eq_true rfl) ⟨Nat.le_of_ble_eq_true rfl, Nat.le_of_ble_eq_true rfl⟩ (c_at (a := 40) (n := 7) ⟨Nat.le_of_ble_eq_true rfl, Nat.le_of_ble_eq_true rfl⟩ rfl (by decide) (by omega)) ?_
  rintro _ _ _ _ ⟨rfl, rfl, rfl, rfl⟩
  refine V_eqI (y := nI (c1 i)) (hc i (by omega)).2.1 ?_
  exact V_iret ⟨Or.inl rfl, dX6_codeOf1_8⟩ ⟨Nat.le_of_ble_eq_true rfl, Nat.le_of_ble_eq_true rfl⟩ ⟨rfl, rfl, rfl, rfl⟩

set_option maxRecDepth 100000 in
set_option maxHeartbeats 4000000 in
theorem c_throwOf {G : zG} {I : zI} {J : zJ} {n la : Nat} {th sd c0 c1 : Nat → Nat} (hL : lgX I n la th sd c0 c1) {i : Nat} (hi : i < n) : zK G mX6_throwOf 1 [.ref 36, .int (nI i)] zsh I J (zA0 (.int (nI (th i))) I J) := by
  refine zK_of kX6_throwOf.2.2.2.2.1 (Nat.le_of_ble_eq_true rfl) ?_
  show V G mX6_throwOf 1 _ 0 [(0, .ref 36), (1, .int (nI i))] [] (0, 0) zsh I J
  obtain ⟨hn, hn6, hla, hla1, hr, hc⟩ := id hL
  refine V_aload_n dX6_throwOf_0 rfl ?_
  refine V_getR (b := 37) dX6_throwOf_1 fX6_9 ⟨Nat.le_of_ble_eq_true rfl, Nat.le_of_ble_eq_true rfl⟩ rfl rfl rfl ?_
  refine V_iload_n dX6_throwOf_4 rfl ?_
  refine V_callS (As := [.ref 37, .int (nI i)]) (st := []) dX6_throwOf_5 kX11_at lX6_31 (by decide) rfl rfl (Nat.le_of_ble_eq_true rfl) ⟨Nat.le_of_ble_eq_true rfl, Nat.le_of_ble_eq_true rfl⟩ (c_at (a := 37) (n := 6) ⟨Nat.le_of_ble_eq_true rfl, Nat.le_of_ble_eq_true rfl⟩ rfl (by decide) (by omega)) ?_
  rintro _ _ _ _ ⟨rfl, rfl, rfl, rfl⟩
  refine V_eqI (y := nI (th i)) (hr i (by omega)).1 ?_
  exact V_iret ⟨Or.inl rfl, dX6_throwOf_8⟩ ⟨Nat.le_of_ble_eq_true rfl, Nat.le_of_ble_eq_true rfl⟩ ⟨rfl, rfl, rfl, rfl⟩

def sLast (la : Nat) (sd : Nat → Nat) (i : Nat) : Nat := if i = 0 then la else sd (i - 1)
set_option maxRecDepth 100000 in
set_option maxHeartbeats 4000000 in
theorem c_lastAhead {G : zG} {I : zI} {J : zJ} {n la : Nat} {th sd c0 c1 : Nat → Nat} (hL : lgX I n la th sd c0 c1) {i : Nat} (hi : i ≤ n) : zK G mX6_lastAhead 1 [.ref 36, .int (nI i)] zsh I J (zA0 (.int (nI (sLast la sd i))) I J) := by
  refine zK_of kX6_lastAhead.2.2.2.2.1 (Nat.le_of_ble_eq_true rfl) ?_
  show V G mX6_lastAhead 1 _ 0 [(0, .ref 36), (1, .int (nI i))] [] (0, 0) zsh I J
  obtain ⟨hn, hn6, hla, hla1, hr, hc⟩ := id hL
  refine V_iload_n dX6_lastAhead_0 rfl ?_
  refine V_if_neN (tgt := 11) dX6_lastAhead_1 rfl (by omega) (fun h1 => ?_) (fun h1 => ?_)
  · skip
    refine V_aload_n dX6_lastAhead_11 rfl ?_
    refine V_getR (b := 38) dX6_lastAhead_12 fX6_15 ⟨Nat.le_of_ble_eq_true rfl, Nat.le_of_ble_eq_true rfl⟩ rfl rfl rfl ?_
    refine V_iload_n dX6_lastAhead_15 rfl ?_
    refine V_iconst (v := nI 1) dX6_lastAhead_16 rfl ?_
    refine V_isubN dX6_lastAhead_17 (by omega) ?_
    refine V_callS (As := [.ref 38, .int (nI (i - 1))]) (st := []) dX6_lastAhead_18 kX11_at lX6_31 (by decide) rfl rfl (Nat.le_of_ble_eq_true rfl) ⟨Nat.le_of_ble_eq_true rfl, Nat.le_of_ble_eq_true rfl⟩ (c_at (a := 38) (n := 6) ⟨Nat.le_of_ble_eq_true rfl, Nat.le_of_ble_eq_true rfl⟩ rfl (by decide) (by omega)) ?_
    rintro _ _ _ _ ⟨rfl, rfl, rfl, rfl⟩
    refine V_eqI (y := nI (sd (i - 1))) (hr (i - 1) (by omega)).2.1 ?_
    exact V_iret ⟨Or.inl rfl, dX6_lastAhead_21⟩ ⟨Nat.le_of_ble_eq_true rfl, Nat.le_of_ble_eq_true rfl⟩ ⟨rfl, congrArg (fun z => some (Value.int (nI z))) (by unfold sLast; split <;> first | rfl | omega), rfl, rfl⟩
  · skip
    refine V_aload_n dX6_lastAhead_4 rfl ?_
    refine V_getI dX6_lastAhead_5 fX6_28 ⟨Nat.le_of_ble_eq_true rfl, Nat.le_of_ble_eq_true rfl⟩ rfl rfl ?_
    refine V_eqI (y := nI la) hla ?_
    refine V_goto (tgt := 21) dX6_lastAhead_8 rfl ?_
    exact V_iret ⟨Or.inl rfl, dX6_lastAhead_21⟩ ⟨Nat.le_of_ble_eq_true rfl, Nat.le_of_ble_eq_true rfl⟩ ⟨rfl, congrArg (fun z => some (Value.int (nI z))) (by unfold sLast; split <;> first | rfl | omega), rfl, rfl⟩

set_option maxRecDepth 100000 in
set_option maxHeartbeats 4000000 in
theorem c_lastOf0 {G : zG} {I : zI} {J : zJ} {n la : Nat} {th sd c0 c1 : Nat → Nat} (hL : lgX I n la th sd c0 c1) : zK G mX6_lastOf0 2 [.ref 36] zsh I J (zA0 (.int (nI (c0 n))) I J) := by
  refine zK_of kX6_lastOf0.2.2.2.2.1 (Nat.le_of_ble_eq_true rfl) ?_
  show V G mX6_lastOf0 2 _ 0 [(0, .ref 36)] [] (0, 0) zsh I J
  obtain ⟨hn, hn6, hla, hla1, hr, hc⟩ := id hL
  refine V_aload_n dX6_lastOf0_0 rfl ?_
  refine V_aload_n dX6_lastOf0_1 rfl ?_
  refine V_getI dX6_lastOf0_2 fX6_24 ⟨Nat.le_of_ble_eq_true rfl, Nat.le_of_ble_eq_true rfl⟩ rfl rfl ?_
  refine V_eqI (y := nI n) hn ?_
  refine V_callV (As := [.int (nI n)]) (st := []) (a := 36) dX6_lastOf0_5 kX6_codeOf0 lX6_35 (by decide) rfl rfl (Nat.le_of_ble_eq_true rfl) ⟨Nat.le_of_ble_eq_true rfl, Nat.le_of_ble_eq_true rfl⟩ ⟨Nat.le_of_ble_eq_true rfl, Nat.le_of_ble_eq_true rfl⟩ rfl ⟨rfl, by decide⟩ (c_codeOf0 hL (by omega)) ?_
  rintro _ _ _ _ ⟨rfl, rfl, rfl, rfl⟩
  exact V_iret ⟨Or.inl rfl, dX6_lastOf0_8⟩ ⟨Nat.le_of_ble_eq_true rfl, Nat.le_of_ble_eq_true rfl⟩ ⟨rfl, rfl, rfl, rfl⟩

set_option maxRecDepth 100000 in
set_option maxHeartbeats 4000000 in
theorem c_lastOf1 {G : zG} {I : zI} {J : zJ} {n la : Nat} {th sd c0 c1 : Nat → Nat} (hL : lgX I n la th sd c0 c1) : zK G mX6_lastOf1 2 [.ref 36] zsh I J (zA0 (.int (nI (c1 n))) I J) := by
  refine zK_of kX6_lastOf1.2.2.2.2.1 (Nat.le_of_ble_eq_true rfl) ?_
  show V G mX6_lastOf1 2 _ 0 [(0, .ref 36)] [] (0, 0) zsh I J
  obtain ⟨hn, hn6, hla, hla1, hr, hc⟩ := id hL
  refine V_aload_n dX6_lastOf1_0 rfl ?_
  refine V_aload_n dX6_lastOf1_1 rfl ?_
  refine V_getI dX6_lastOf1_2 fX6_24 ⟨Nat.le_of_ble_eq_true rfl, Nat.le_of_ble_eq_true rfl⟩ rfl rfl ?_
  refine V_eqI (y := nI n) hn ?_
  refine V_callV (As := [.int (nI n)]) (st := []) (a := 36) dX6_lastOf1_5 kX6_codeOf1 lX6_39 (by decide) rfl rfl (Nat.le_of_ble_eq_true rfl) ⟨Nat.le_of_ble_eq_true rfl, Nat.le_of_ble_eq_true rfl⟩ ⟨Nat.le_of_ble_eq_true rfl, Nat.le_of_ble_eq_true rfl⟩ rfl ⟨rfl, by decide⟩ (c_codeOf1 hL (by omega)) ?_
  rintro _ _ _ _ ⟨rfl, rfl, rfl, rfl⟩
  exact V_iret ⟨Or.inl rfl, dX6_lastOf1_8⟩ ⟨Nat.le_of_ble_eq_true rfl, Nat.le_of_ble_eq_true rfl⟩ ⟨rfl, rfl, rfl, rfl⟩

set_option maxRecDepth 100000 in
set_option maxHeartbeats 4000000 in
theorem c_lastSide {G : zG} {I : zI} {J : zJ} {n la : Nat} {th sd c0 c1 : Nat → Nat} (hL : lgX I n la th sd c0 c1) : zK G mX6_lastSide 2 [.ref 36] zsh I J (zA0 (.int (nI (sLast la sd n))) I J) := by
  refine zK_of kX6_lastSide.2.2.2.2.1 (Nat.le_of_ble_eq_true rfl) ?_
  show V G mX6_lastSide 2 _ 0 [(0, .ref 36)] [] (0, 0) zsh I J
  obtain ⟨hn, hn6, hla, hla1, hr, hc⟩ := id hL
  refine V_aload_n dX6_lastSide_0 rfl ?_
  refine V_aload_n dX6_lastSide_1 rfl ?_
  refine V_getI dX6_lastSide_2 fX6_24 ⟨Nat.le_of_ble_eq_true rfl, Nat.le_of_ble_eq_true rfl⟩ rfl rfl ?_
  refine V_eqI (y := nI n) hn ?_
  refine V_callV (As := [.int (nI n)]) (st := []) (a := 36) dX6_lastSide_5 kX6_lastAhead lX6_42 (by decide) rfl rfl (Nat.le_of_ble_eq_true rfl) ⟨Nat.le_of_ble_eq_true rfl, Nat.le_of_ble_eq_true rfl⟩ ⟨Nat.le_of_ble_eq_true rfl, Nat.le_of_ble_eq_true rfl⟩ rfl ⟨rfl, by decide⟩ (c_lastAhead hL (by omega)) ?_
  rintro _ _ _ _ ⟨rfl, rfl, rfl, rfl⟩
  exact V_iret ⟨Or.inl rfl, dX6_lastSide_8⟩ ⟨Nat.le_of_ble_eq_true rfl, Nat.le_of_ble_eq_true rfl⟩ ⟨rfl, rfl, rfl, rfl⟩

theorem sLast_le {I : zI} {n la : Nat} {th sd c0 c1 : Nat → Nat} (hL : lgX I n la th sd c0 c1) {i : Nat} (hi : i ≤ n) : sLast la sd i ≤ 1 := by
  obtain ⟨-, -, -, h1, h2, -⟩ := hL
  unfold sLast
  split
  · exact h1
  · exact (h2 (i - 1) (by omega)).2.2.2
theorem sSide_le {p q last : Nat} : sSide p q last ≤ 1 := by
  unfold sSide
  repeat' split
  all_goals omega
theorem sWho_le {p q last : Nat} : sWho p q last ≤ 2 := by
  have h := sSide_le (p := p) (q := q) (last := last)
  unfold sWho
  repeat' split
  all_goals omega
set_option maxRecDepth 100000 in
set_option maxHeartbeats 4000000 in
theorem c_isOver {G : zG} {I : zI} {J : zJ} (hT : tabX I) {n la : Nat} {th sd c0 c1 : Nat → Nat} (hL : lgX I n la th sd c0 c1) : zK G mX6_isOver 3 [.ref 36, .ref 10] zsh I J (zA0 (.int (nI (if sWho (c0 n) (c1 n) (sLast la sd n) = 2 then 1 else 0))) I J) := by
  refine zK_of kX6_isOver.2.2.2.2.1 (Nat.le_of_ble_eq_true rfl) ?_
  show V G mX6_isOver 3 _ 0 [(0, .ref 36), (1, .ref 10)] [] (0, 0) zsh I J
  obtain ⟨hn, hn6, hla, hla1, hr, hc⟩ := id hL
  have h1 := (hc n (Nat.le_refl _)).2.2.1
  have h2 := (hc n (Nat.le_refl _)).2.2.2
  have h3 := sLast_le hL (Nat.le_refl n)
  have h4 := sWho_le (p := c0 n) (q := c1 n) (last := sLast la sd n)
  refine V_aload_n dX6_isOver_0 rfl ?_
  refine V_aload_n dX6_isOver_1 rfl ?_
  refine V_callV (As := []) (st := [.ref 10]) (a := 36) dX6_isOver_2 kX6_lastOf0 lX6_45 (by decide) rfl rfl (Nat.le_of_ble_eq_true rfl) ⟨Nat.le_of_ble_eq_true rfl, Nat.le_of_ble_eq_true rfl⟩ ⟨Nat.le_of_ble_eq_true rfl, Nat.le_of_ble_eq_true rfl⟩ rfl ⟨rfl, by decide⟩ (c_lastOf0 hL) ?_
  rintro _ _ _ _ ⟨rfl, rfl, rfl, rfl⟩
  refine V_aload_n dX6_isOver_5 rfl ?_
  refine V_callV (As := []) (st := [.int (nI (c0 n)), .ref 10]) (a := 36) dX6_isOver_6 kX6_lastOf1 lX6_49 (by decide) rfl rfl (Nat.le_of_ble_eq_true rfl) ⟨Nat.le_of_ble_eq_true rfl, Nat.le_of_ble_eq_true rfl⟩ ⟨Nat.le_of_ble_eq_true rfl, Nat.le_of_ble_eq_true rfl⟩ rfl ⟨rfl, by decide⟩ (c_lastOf1 hL) ?_
  rintro _ _ _ _ ⟨rfl, rfl, rfl, rfl⟩
  refine V_aload_n dX6_isOver_9 rfl ?_
  refine V_callV (As := []) (st := [.int (nI (c1 n)), .int (nI (c0 n)), .ref 10]) (a := 36) dX6_isOver_10 kX6_lastSide lX6_52 (by decide) rfl rfl (Nat.le_of_ble_eq_true rfl) ⟨Nat.le_of_ble_eq_true rfl, Nat.le_of_ble_eq_true rfl⟩ ⟨Nat.le_of_ble_eq_true rfl, Nat.le_of_ble_eq_true rfl⟩ rfl ⟨rfl, by decide⟩ (c_lastSide hL) ?_
  rintro _ _ _ _ ⟨rfl, rfl, rfl, rfl⟩
  refine V_callV (As := [.int (nI (c0 n)), .int (nI (c1 n)), .int (nI (sLast la sd n))]) (st := []) (a := 10) dX6_isOver_13 kX2_whoPlays lX6_55 (by decide) rfl rfl (Nat.le_of_ble_eq_true rfl) ⟨Nat.le_of_ble_eq_true rfl, Nat.le_of_ble_eq_true rfl⟩ ⟨Nat.le_of_ble_eq_true rfl, Nat.le_of_ble_eq_true rfl⟩ rfl ⟨rfl, by decide⟩ (c_whoPlays hT (by omega) (by omega) (by omega)) ?_
  rintro _ _ _ _ ⟨rfl, rfl, rfl, rfl⟩
  refine V_iconst (v := nI 2) dX6_isOver_16 rfl ?_
  refine V_icmp_neN (tgt := 24) dX6_isOver_17 rfl (by omega) (by omega) (fun h17 => ?_) (fun h17 => ?_)
  · skip
    refine V_iconst (v := nI 0) dX6_isOver_24 rfl ?_
    exact V_iret ⟨Or.inr ⟨rfl, Or.inl rfl⟩, dX6_isOver_25⟩ ⟨Nat.le_of_ble_eq_true rfl, Nat.le_of_ble_eq_true rfl⟩ ⟨rfl, congrArg (fun z => some (Value.int (nI z))) (by split <;> first | rfl | omega), rfl, rfl⟩
  · skip
    refine V_iconst (v := nI 1) dX6_isOver_20 rfl ?_
    refine V_goto (tgt := 25) dX6_isOver_21 rfl ?_
    exact V_iret ⟨Or.inr ⟨rfl, Or.inr rfl⟩, dX6_isOver_25⟩ ⟨Nat.le_of_ble_eq_true rfl, Nat.le_of_ble_eq_true rfl⟩ ⟨rfl, congrArg (fun z => some (Value.int (nI z))) (by split <;> first | rfl | omega), rfl, rfl⟩

