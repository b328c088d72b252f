/-! THE CLASS: the match; what the log tells -/
def ratM (c : Nat → Int64) (v : Nat → Int32) : Int32 :=
  if 0 + c 0 + c 1 + c 2 + c 4 + c 5 + c 6 = 0 then nI 500000 else ((0 + c 0 * (v 0).toInt64 + c 1 * (v 1).toInt64 + c 2 * (v 2).toInt64 + c 4 * (v 4).toInt64 + c 5 * (v 5).toInt64 + c 6 * (v 6).toInt64) / (0 + c 0 + c 1 + c 2 + c 4 + c 5 + c 6)).toInt32
def wM (cn : Nat → Nat → Int64) (x y f : Nat) : Int32 :=
  if hx : 13 ≤ x then nI 1000000 else if hy : 13 ≤ y then nI 0 else
  ratM (cn f) (fun k => if h : k < 3 then wM cn x (min (y + (3 - k)) 13) 1 else if h2 : 3 < k then wM cn (min (x + (k - 3)) 13) y 0 else 0)
termination_by 26 - x - y
decreasing_by all_goals omega
def vM (cn : Nat → Nat → Int64) (x y k : Nat) : Int32 := if k < 3 then wM cn x (min (y + (3 - k)) 13) 1 else if 3 < k then wM cn (min (x + (k - 3)) 13) y 0 else 0
theorem wM_13 {cn : Nat → Nat → Int64} {x y f : Nat} (h : 13 ≤ x) : wM cn x y f = nI 1000000 := by
  rw [wM, dif_pos h]
theorem wM_y {cn : Nat → Nat → Int64} {x y f : Nat} (h : ¬ 13 ≤ x) (h2 : 13 ≤ y) : wM cn x y f = nI 0 := by
  rw [wM, dif_neg h, dif_pos h2]
theorem wM_r {cn : Nat → Nat → Int64} {x y f : Nat} (h : ¬ 13 ≤ x) (h2 : ¬ 13 ≤ y) : wM cn x y f = ratM (cn f) (vM cn x y) := by
  rw [wM, dif_neg h, dif_neg h2]
  congr 1
set_option maxRecDepth 100000 in
set_option maxHeartbeats 4000000 in
theorem c_spotOf7 {G : zG} {I : zI} {J : zJ} {x y f : Nat} (hx : x < 2 ^ 31) (hy : y < 2 ^ 31) : zK G mX7_spotOf 1 [.int (nI x), .int (nI y), .int (nI f)] zsh I J (zA0 (.int (nI (2 * (14 * min x 13 + min y 13) + f))) I J) := by
  refine zK_of kX7_spotOf.2.2.2.2.1 (Nat.le_of_ble_eq_true rfl) ?_
  show V G mX7_spotOf 1 _ 0 [(0, .int (nI x)), (1, .int (nI y)), (2, .int (nI f))] [] (0, 0) zsh I J
  refine V_iconst (v := nI 2) dX7_spotOf_0 rfl ?_
  refine V_bipush (v := nI 14) dX7_spotOf_1 rfl ?_
  refine V_iload_n dX7_spotOf_3 rfl ?_
  refine V_bipush (v := nI 13) dX7_spotOf_4 rfl ?_
  refine V_mminN dX7_spotOf_6 jX7_31 (by decide) (Nat.le_of_ble_eq_true rfl) ⟨Nat.le_of_ble_eq_true rfl, Nat.le_of_ble_eq_true rfl⟩ (by omega) (by omega) ?_
  refine V_imulN dX7_spotOf_9 ?_
  refine V_iload_n dX7_spotOf_10 rfl ?_
  refine V_bipush (v := nI 13) dX7_spotOf_11 rfl ?_
  refine V_mminN dX7_spotOf_13 jX7_31 (by decide) (Nat.le_of_ble_eq_true rfl) ⟨Nat.le_of_ble_eq_true rfl, Nat.le_of_ble_eq_true rfl⟩ (by omega) (by omega) ?_
  refine V_iaddN dX7_spotOf_16 ?_
  refine V_imulN dX7_spotOf_17 ?_
  refine V_iload_n dX7_spotOf_18 rfl ?_
  refine V_iaddN dX7_spotOf_19 ?_
  exact V_iret ⟨Or.inl rfl, dX7_spotOf_20⟩ ⟨Nat.le_of_ble_eq_true rfl, Nat.le_of_ble_eq_true rfl⟩ ⟨rfl, rfl, rfl, rfl⟩

set_option maxRecDepth 100000 in
set_option maxHeartbeats 4000000 in
theorem c_put7 {G : zG} {I : zI} {J : zJ} {x y f : Nat} (hx : x ≤ 13) (hy : y ≤ 13) (hf : f ≤ 1) {v : Int32} : zK G mX7_put 2 [.ref 34, .int (nI x), .int (nI y), .int (nI f), .int v] zsh I J (zA2 (fun I' J' => I' = zwr I 35 (2 * (14 * x + y) + f) v ∧ J = J')) := by
  refine zK_of kX7_put.2.2.2.2.1 (Nat.le_of_ble_eq_true rfl) ?_
  show V G mX7_put 2 _ 0 [(0, .ref 34), (1, .int (nI x)), (2, .int (nI y)), (3, .int (nI f)), (4, .int v)] [] (0, 0) zsh I J
  refine V_iload_n dX7_put_0 rfl ?_
  refine V_iload_n dX7_put_1 rfl ?_
  refine V_iload_n dX7_put_2 rfl ?_
  refine V_callS (As := [.int (nI x), .int (nI y), .int (nI f)]) (st := []) dX7_put_3 kX7_spotOf lX7_23 (by decide) rfl rfl (Nat.le_of_ble_eq_true rfl) ⟨Nat.le_of_ble_eq_true rfl, Nat.le_of_ble_eq_true rfl⟩ (c_spotOf7 (by omega) (by omega)) ?_
  rintro _ _ _ _ ⟨rfl, rfl, rfl, rfl⟩
  refine V_istore (ls' := [(5, .int (nI (2 * (14 * min x 13 + min y 13) + f))), (0, .ref 34), (1, .int (nI x)), (2, .int (nI y)), (3, .int (nI f)), (4, .int v)]) dX7_put_6 (by decide) rfl ?_
  refine V_iload dX7_put_8 rfl ?_
  refine V_if_ltN (tgt := 32) dX7_put_10 rfl (by omega) ?_
  refine V_iload dX7_put_13 rfl ?_
  refine V_aload_n dX7_put_15 rfl ?_
  refine V_getR (b := 35) dX7_put_16 fX7_11 ⟨Nat.le_of_ble_eq_true rfl, Nat.le_of_ble_eq_true rfl⟩ rfl rfl rfl ?_
  refine V_alen (v := nI 392) dX7_put_19 ⟨Nat.le_of_ble_eq_true rfl, Nat.le_of_ble_eq_true rfl⟩ rfl (by decide) rfl ?_
  refine V_icmp_geN (tgt := 32) dX7_put_20 rfl (by omega) (by omega) (fun h => absurd h (by omega)) (fun _ => ?_)
  refine V_aload_n dX7_put_23 rfl ?_
  refine V_getR (b := 35) dX7_put_24 fX7_11 ⟨Nat.le_of_ble_eq_true rfl, Nat.le_of_ble_eq_true rfl⟩ rfl rfl rfl ?_
  refine V_iload dX7_put_27 rfl ?_
  refine V_iload dX7_put_29 rfl ?_
  refine V_iastN (k := 2 * (14 * min x 13 + min y 13) + f) dX7_put_31 ⟨Nat.le_of_ble_eq_true rfl, Nat.le_of_ble_eq_true rfl⟩ rfl (by decide) (by omega) ?_
  exact V_ret ⟨rfl, dX7_put_32⟩ ⟨Nat.le_of_ble_eq_true rfl, Nat.le_of_ble_eq_true rfl⟩ ⟨rfl, rfl, by rw [show min x 13 = x by omega, show min y 13 = y by omega], rfl⟩

/-- the counts' chances by who plays first, out of a row -/
def cnJ (J : zJ) : Nat → Nat → Int64 := fun f k => J 33 (7 * f + k)
theorem nI_subn (y k : Nat) : nI y - (-(nI k)) = nI (y + k) := by
  have : nI (y + k) = nI y + nI k := by unfold nI; rw [Int32.ofNat_add]
  rw [this, Int32.sub_eq_add_neg, Int32.neg_neg]
set_option maxRecDepth 100000 in
set_option maxHeartbeats 4000000 in
theorem c_chanceAt0 {G : zG} {I : zI} {J : zJ} {x y : Nat} (hx : x ≤ 13) (hy : y ≤ 13) (hme : ∀ x' y' g, x' ≤ 13 → y' ≤ 13 → g ≤ 1 → (x < x' ∧ y = y' ∨ x = x' ∧ y < y') → I 35 (2 * (14 * x' + y') + g) = wM (cnJ J) x' y' g) : zK G mX7_chanceAt 2 [.ref 34, .ref 33, .int (nI x), .int (nI y), .int (nI 0)] zsh I J (zA0 (.int (wM (cnJ J) x y 0)) I J) := by
  refine zK_of kX7_chanceAt.2.2.2.2.1 (Nat.le_of_ble_eq_true rfl) ?_
  show V G mX7_chanceAt 2 _ 0 [(0, .ref 34), (1, .ref 33), (2, .int (nI x)), (3, .int (nI y)), (4, .int (nI 0))] [] (0, 0) zsh I J
  refine V_iload_n dX7_chanceAt_0 rfl ?_
  refine V_bipush (v := nI 13) dX7_chanceAt_1 rfl ?_
  refine V_icmp_geN (tgt := 12) dX7_chanceAt_3 rfl (by omega) (by omega) (fun h3 => ?_) (fun h3 => ?_)
  · skip
    refine V_iload_n dX7_chanceAt_12 rfl ?_
    refine V_bipush (v := nI 13) dX7_chanceAt_13 rfl ?_
    refine V_icmp_ltN (tgt := 23) dX7_chanceAt_15 rfl (by omega) (by omega) (fun h15 => ?_) (fun h15 => ?_)
    · skip
      refine V_iconst (v := nI 0) dX7_chanceAt_23 rfl ?_
      exact V_iret ⟨Or.inl rfl, dX7_chanceAt_24⟩ ⟨Nat.le_of_ble_eq_true rfl, Nat.le_of_ble_eq_true rfl⟩ ⟨rfl, congrArg (fun z => some (Value.int z)) (by first | exact (wM_y (by omega) (by omega)).symm | (exfalso; omega)), rfl, rfl⟩
    · skip
      refine V_ldc dX7_chanceAt_18 qX7_37 ?_
      refine V_eqI (y := nI 1000000) rfl ?_
      refine V_goto (tgt := 24) dX7_chanceAt_20 rfl ?_
      exact V_iret ⟨Or.inl rfl, dX7_chanceAt_24⟩ ⟨Nat.le_of_ble_eq_true rfl, Nat.le_of_ble_eq_true rfl⟩ ⟨rfl, congrArg (fun z => some (Value.int z)) (wM_13 (by omega)).symm, rfl, rfl⟩
  · skip
    refine V_iload_n dX7_chanceAt_6 rfl ?_
    refine V_bipush (v := nI 13) dX7_chanceAt_7 rfl ?_
    refine V_icmp_ltN (tgt := 25) dX7_chanceAt_9 rfl (by omega) (by omega) (fun h9 => ?_) (fun h9 => ?_)
    · skip
      refine V_lconst (v := 0) dX7_chanceAt_25 rfl ?_
      refine V_lstore (ls' := [(5, .long 0), (0, .ref 34), (1, .ref 33), (2, .int (nI x)), (3, .int (nI y)), (4, .int (nI 0))]) dX7_chanceAt_26 (by decide) rfl ?_
      refine V_lconst (v := 0) dX7_chanceAt_28 rfl ?_
      refine V_lstore (ls' := [(7, .long 0), (5, .long 0), (0, .ref 34), (1, .ref 33), (2, .int (nI x)), (3, .int (nI y)), (4, .int (nI 0))]) dX7_chanceAt_29 (by decide) rfl ?_
      refine V_bipush (v := (-3)) dX7_chanceAt_31 rfl ?_
      refine V_istore (ls' := [(9, .int (-3)), (7, .long 0), (5, .long 0), (0, .ref 34), (1, .ref 33), (2, .int (nI x)), (3, .int (nI y)), (4, .int (nI 0))]) dX7_chanceAt_33 (by decide) rfl ?_
      refine V_iload dX7_chanceAt_35 rfl ?_
      refine V_iconst (v := nI 3) dX7_chanceAt_37 rfl ?_
      refine V_icmp_gt (tgt := 133) dX7_chanceAt_38 rfl (fun h => absurd h (by decide)) (fun _ => ?_)
      refine V_iload dX7_chanceAt_41 rfl ?_
      refine V_bipush (v := nI 7) dX7_chanceAt_43 rfl ?_
      refine V_imulN dX7_chanceAt_45 ?_
      refine V_eqI (y := nI 0) rfl ?_
      refine V_iload dX7_chanceAt_46 rfl ?_
      refine V_iadd dX7_chanceAt_48 (V_eqI (y := (-3)) (by decide) ?_)
      refine V_iconst (v := nI 3) dX7_chanceAt_49 rfl ?_
      refine V_iadd dX7_chanceAt_50 (V_eqI (y := nI 0) (by decide) ?_)
      refine V_istore (ls' := [(10, .int (nI 0)), (9, .int (-3)), (7, .long 0), (5, .long 0), (0, .ref 34), (1, .ref 33), (2, .int (nI x)), (3, .int (nI y)), (4, .int (nI 0))]) dX7_chanceAt_51 (by decide) rfl ?_
      refine V_iload dX7_chanceAt_53 rfl ?_
      refine V_if_eq (tgt := 127) dX7_chanceAt_55 rfl (fun h => absurd h (by decide)) (fun _ => ?_)
      refine V_iload dX7_chanceAt_58 rfl ?_
      refine V_if_lt (tgt := 127) dX7_chanceAt_60 rfl (fun h => absurd h (by decide)) (fun _ => ?_)
      refine V_iload dX7_chanceAt_63 rfl ?_
      refine V_aload_n dX7_chanceAt_65 rfl ?_
      refine V_alen (v := nI 14) dX7_chanceAt_66 ⟨Nat.le_of_ble_eq_true rfl, Nat.le_of_ble_eq_true rfl⟩ rfl (by decide) rfl ?_
      refine V_icmp_ge (tgt := 127) dX7_chanceAt_67 rfl (fun h => absurd h (by decide)) (fun _ => ?_)
      refine V_iload dX7_chanceAt_70 rfl ?_
      refine V_if_le (tgt := 87) dX7_chanceAt_72 rfl (fun _ => ?_) (fun h => absurd h (by decide))
      refine V_iload_n dX7_chanceAt_87 rfl ?_
      refine V_iload_n dX7_chanceAt_88 rfl ?_
      refine V_iload dX7_chanceAt_89 rfl ?_
      refine V_isub dX7_chanceAt_91 (V_eqI (y := nI (y + 3)) (nI_subn y 3) ?_)
      refine V_iconst (v := nI 1) dX7_chanceAt_92 rfl ?_
      refine V_callS (As := [.int (nI x), .int (nI (y + 3)), .int (nI 1)]) (st := []) dX7_chanceAt_93 kX7_spotOf lX7_23 (by decide) rfl rfl (Nat.le_of_ble_eq_true rfl) ⟨Nat.le_of_ble_eq_true rfl, Nat.le_of_ble_eq_true rfl⟩ (c_spotOf7 (by omega) (by omega)) ?_
      rintro _ _ _ _ ⟨rfl, rfl, rfl, rfl⟩
      refine V_istore (ls' := [(11, .int (nI (2 * (14 * min x 13 + min (y + 3) 13) + 1))), (10, .int (nI 0)), (9, .int (-3)), (7, .long 0), (5, .long 0), (0, .ref 34), (1, .ref 33), (2, .int (nI x)), (3, .int (nI y)), (4, .int (nI 0))]) dX7_chanceAt_96 (by decide) rfl ?_
      refine V_lload dX7_chanceAt_98 rfl ?_
      refine V_aload_n dX7_chanceAt_100 rfl ?_
      refine V_iload dX7_chanceAt_101 rfl ?_
      refine V_laldN (k := 0) dX7_chanceAt_103 ⟨Nat.le_of_ble_eq_true rfl, Nat.le_of_ble_eq_true rfl⟩ rfl (by decide) (by omega) ?_
      refine V_aload_n dX7_chanceAt_104 rfl ?_
      refine V_getR (b := 35) dX7_chanceAt_105 fX7_11 ⟨Nat.le_of_ble_eq_true rfl, Nat.le_of_ble_eq_true rfl⟩ rfl rfl rfl ?_
      refine V_iload dX7_chanceAt_108 rfl ?_
      refine V_callS (As := [.ref 35, .int (nI (2 * (14 * min x 13 + min (y + 3) 13) + 1))]) (st := [.long (J 33 0), .long 0]) dX7_chanceAt_110 kX11_at lX7_27 (by decide) rfl rfl (Nat.le_of_ble_eq_true rfl) ⟨Nat.le_of_ble_eq_true rfl, Nat.le_of_ble_eq_true rfl⟩ (c_at (a := 35) (n := 392) ⟨Nat.le_of_ble_eq_true rfl, Nat.le_of_ble_eq_true rfl⟩ rfl (by decide) (by omega)) ?_
      rintro _ _ _ _ ⟨rfl, rfl, rfl, rfl⟩
      refine V_eqI (y := vM (cnJ J) x y 0) (by rw [show min x 13 = x by omega, hme x (min (y + 3) 13) 1 (by omega) (by omega) (by omega) (by omega)]; rfl) ?_
      refine V_i2l dX7_chanceAt_113 ?_
      refine V_lmul dX7_chanceAt_114 ?_
      refine V_ladd dX7_chanceAt_115 ?_
      refine V_lstore (ls' := [(5, .long (0 + ((J 33 0) * ((vM (cnJ J) x y 0).toInt64)))), (11, .int (nI (2 * (14 * min x 13 + min (y + 3) 13) + 1))), (10, .int (nI 0)), (9, .int (-3)), (7, .long 0), (0, .ref 34), (1, .ref 33), (2, .int (nI x)), (3, .int (nI y)), (4, .int (nI 0))]) dX7_chanceAt_116 (by decide) rfl ?_
      refine V_lload dX7_chanceAt_118 rfl ?_
      refine V_aload_n dX7_chanceAt_120 rfl ?_
      refine V_iload dX7_chanceAt_121 rfl ?_
      refine V_laldN (k := 0) dX7_chanceAt_123 ⟨Nat.le_of_ble_eq_true rfl, Nat.le_of_ble_eq_true rfl⟩ rfl (by decide) (by omega) ?_
      refine V_ladd dX7_chanceAt_124 ?_
      refine V_lstore (ls' := [(7, .long (0 + (J 33 0))), (5, .long (0 + ((J 33 0) * ((vM (cnJ J) x y 0).toInt64)))), (11, .int (nI (2 * (14 * min x 13 + min (y + 3) 13) + 1))), (10, .int (nI 0)), (9, .int (-3)), (0, .ref 34), (1, .ref 33), (2, .int (nI x)), (3, .int (nI y)), (4, .int (nI 0))]) dX7_chanceAt_125 (by decide) rfl ?_
      refine V_iinc (v := (-2)) (ls' := [(9, .int (-2)), (7, .long (0 + (J 33 0))), (5, .long (0 + ((J 33 0) * ((vM (cnJ J) x y 0).toInt64)))), (11, .int (nI (2 * (14 * min x 13 + min (y + 3) 13) + 1))), (10, .int (nI 0)), (0, .ref 34), (1, .ref 33), (2, .int (nI x)), (3, .int (nI y)), (4, .int (nI 0))]) dX7_chanceAt_127 rfl (by decide) (by decide) rfl ?_
      refine V_goto (tgt := 35) dX7_chanceAt_130 rfl ?_
      refine V_iload dX7_chanceAt_35 rfl ?_
      refine V_iconst (v := nI 3) dX7_chanceAt_37 rfl ?_
      refine V_icmp_gt (tgt := 133) dX7_chanceAt_38 rfl (fun h => absurd h (by decide)) (fun _ => ?_)
      refine V_iload dX7_chanceAt_41 rfl ?_
      refine V_bipush (v := nI 7) dX7_chanceAt_43 rfl ?_
      refine V_imulN dX7_chanceAt_45 ?_
      refine V_eqI (y := nI 0) rfl ?_
      refine V_iload dX7_chanceAt_46 rfl ?_
      refine V_iadd dX7_chanceAt_48 (V_eqI (y := (-2)) (by decide) ?_)
      refine V_iconst (v := nI 3) dX7_chanceAt_49 rfl ?_
      refine V_iadd dX7_chanceAt_50 (V_eqI (y := nI 1) (by decide) ?_)
      refine V_istore (ls' := [(10, .int (nI 1)), (9, .int (-2)), (7, .long (0 + (J 33 0))), (5, .long (0 + ((J 33 0) * ((vM (cnJ J) x y 0).toInt64)))), (11, .int (nI (2 * (14 * min x 13 + min (y + 3) 13) + 1))), (0, .ref 34), (1, .ref 33), (2, .int (nI x)), (3, .int (nI y)), (4, .int (nI 0))]) dX7_chanceAt_51 (by decide) rfl ?_
      refine V_iload dX7_chanceAt_53 rfl ?_
      refine V_if_eq (tgt := 127) dX7_chanceAt_55 rfl (fun h => absurd h (by decide)) (fun _ => ?_)
      refine V_iload dX7_chanceAt_58 rfl ?_
      refine V_if_lt (tgt := 127) dX7_chanceAt_60 rfl (fun h => absurd h (by decide)) (fun _ => ?_)
      refine V_iload dX7_chanceAt_63 rfl ?_
      refine V_aload_n dX7_chanceAt_65 rfl ?_
      refine V_alen (v := nI 14) dX7_chanceAt_66 ⟨Nat.le_of_ble_eq_true rfl, Nat.le_of_ble_eq_true rfl⟩ rfl (by decide) rfl ?_
      refine V_icmp_ge (tgt := 127) dX7_chanceAt_67 rfl (fun h => absurd h (by decide)) (fun _ => ?_)
      refine V_iload dX7_chanceAt_70 rfl ?_
      refine V_if_le (tgt := 87) dX7_chanceAt_72 rfl (fun _ => ?_) (fun h => absurd h (by decide))
      refine V_iload_n dX7_chanceAt_87 rfl ?_
      refine V_iload_n dX7_chanceAt_88 rfl ?_
      refine V_iload dX7_chanceAt_89 rfl ?_
      refine V_isub dX7_chanceAt_91 (V_eqI (y := nI (y + 2)) (nI_subn y 2) ?_)
      refine V_iconst (v := nI 1) dX7_chanceAt_92 rfl ?_
      refine V_callS (As := [.int (nI x), .int (nI (y + 2)), .int (nI 1)]) (st := []) dX7_chanceAt_93 kX7_spotOf lX7_23 (by decide) rfl rfl (Nat.le_of_ble_eq_true rfl) ⟨Nat.le_of_ble_eq_true rfl, Nat.le_of_ble_eq_true rfl⟩ (c_spotOf7 (by omega) (by omega)) ?_
      rintro _ _ _ _ ⟨rfl, rfl, rfl, rfl⟩
      refine V_istore (ls' := [(11, .int (nI (2 * (14 * min x 13 + min (y + 2) 13) + 1))), (10, .int (nI 1)), (9, .int (-2)), (7, .long (0 + (J 33 0))), (5, .long (0 + ((J 33 0) * ((vM (cnJ J) x y 0).toInt64)))), (0, .ref 34), (1, .ref 33), (2, .int (nI x)), (3, .int (nI y)), (4, .int (nI 0))]) dX7_chanceAt_96 (by decide) rfl ?_
      refine V_lload dX7_chanceAt_98 rfl ?_
      refine V_aload_n dX7_chanceAt_100 rfl ?_
      refine V_iload dX7_chanceAt_101 rfl ?_
      refine V_laldN (k := 1) dX7_chanceAt_103 ⟨Nat.le_of_ble_eq_true rfl, Nat.le_of_ble_eq_true rfl⟩ rfl (by decide) (by omega) ?_
      refine V_aload_n dX7_chanceAt_104 rfl ?_
      refine V_getR (b := 35) dX7_chanceAt_105 fX7_11 ⟨Nat.le_of_ble_eq_true rfl, Nat.le_of_ble_eq_true rfl⟩ rfl rfl rfl ?_
      refine V_iload dX7_chanceAt_108 rfl ?_
      refine V_callS (As := [.ref 35, .int (nI (2 * (14 * min x 13 + min (y + 2) 13) + 1))]) (st := [.long (J 33 1), .long (0 + ((J 33 0) * ((vM (cnJ J) x y 0).toInt64)))]) dX7_chanceAt_110 kX11_at lX7_27 (by decide) rfl rfl (Nat.le_of_ble_eq_true rfl) ⟨Nat.le_of_ble_eq_true rfl, Nat.le_of_ble_eq_true rfl⟩ (c_at (a := 35) (n := 392) ⟨Nat.le_of_ble_eq_true rfl, Nat.le_of_ble_eq_true rfl⟩ rfl (by decide) (by omega)) ?_
      rintro _ _ _ _ ⟨rfl, rfl, rfl, rfl⟩
      refine V_eqI (y := vM (cnJ J) x y 1) (by rw [show min x 13 = x by omega, hme x (min (y + 2) 13) 1 (by omega) (by omega) (by omega) (by omega)]; rfl) ?_
      refine V_i2l dX7_chanceAt_113 ?_
      refine V_lmul dX7_chanceAt_114 ?_
      refine V_ladd dX7_chanceAt_115 ?_
      refine V_lstore (ls' := [(5, .long ((0 + ((J 33 0) * ((vM (cnJ J) x y 0).toInt64))) + ((J 33 1) * ((vM (cnJ J) x y 1).toInt64)))), (11, .int (nI (2 * (14 * min x 13 + min (y + 2) 13) + 1))), (10, .int (nI 1)), (9, .int (-2)), (7, .long (0 + (J 33 0))), (0, .ref 34), (1, .ref 33), (2, .int (nI x)), (3, .int (nI y)), (4, .int (nI 0))]) dX7_chanceAt_116 (by decide) rfl ?_
      refine V_lload dX7_chanceAt_118 rfl ?_
      refine V_aload_n dX7_chanceAt_120 rfl ?_
      refine V_iload dX7_chanceAt_121 rfl ?_
      refine V_laldN (k := 1) dX7_chanceAt_123 ⟨Nat.le_of_ble_eq_true rfl, Nat.le_of_ble_eq_true rfl⟩ rfl (by decide) (by omega) ?_
      refine V_ladd dX7_chanceAt_124 ?_
      refine V_lstore (ls' := [(7, .long ((0 + (J 33 0)) + (J 33 1))), (5, .long ((0 + ((J 33 0) * ((vM (cnJ J) x y 0).toInt64))) + ((J 33 1) * ((vM (cnJ J) x y 1).toInt64)))), (11, .int (nI (2 * (14 * min x 13 + min (y + 2) 13) + 1))), (10, .int (nI 1)), (9, .int (-2)), (0, .ref 34), (1, .ref 33), (2, .int (nI x)), (3, .int (nI y)), (4, .int (nI 0))]) dX7_chanceAt_125 (by decide) rfl ?_
      refine V_iinc (v := (-1)) (ls' := [(9, .int (-1)), (7, .long ((0 + (J 33 0)) + (J 33 1))), (5, .long ((0 + ((J 33 0) * ((vM (cnJ J) x y 0).toInt64))) + ((J 33 1) * ((vM (cnJ J) x y 1).toInt64)))), (11, .int (nI (2 * (14 * min x 13 + min (y + 2) 13) + 1))), (10, .int (nI 1)), (0, .ref 34), (1, .ref 33), (2, .int (nI x)), (3, .int (nI y)), (4, .int (nI 0))]) dX7_chanceAt_127 rfl (by decide) (by decide) rfl ?_
      refine V_goto (tgt := 35) dX7_chanceAt_130 rfl ?_
      refine V_iload dX7_chanceAt_35 rfl ?_
      refine V_iconst (v := nI 3) dX7_chanceAt_37 rfl ?_
      refine V_icmp_gt (tgt := 133) dX7_chanceAt_38 rfl (fun h => absurd h (by decide)) (fun _ => ?_)
      refine V_iload dX7_chanceAt_41 rfl ?_
      refine V_bipush (v := nI 7) dX7_chanceAt_43 rfl ?_
      refine V_imulN dX7_chanceAt_45 ?_
      refine V_eqI (y := nI 0) rfl ?_
      refine V_iload dX7_chanceAt_46 rfl ?_
      refine V_iadd dX7_chanceAt_48 (V_eqI (y := (-1)) (by decide) ?_)
      refine V_iconst (v := nI 3) dX7_chanceAt_49 rfl ?_
      refine V_iadd dX7_chanceAt_50 (V_eqI (y := nI 2) (by decide) ?_)
      refine V_istore (ls' := [(10, .int (nI 2)), (9, .int (-1)), (7, .long ((0 + (J 33 0)) + (J 33 1))), (5, .long ((0 + ((J 33 0) * ((vM (cnJ J) x y 0).toInt64))) + ((J 33 1) * ((vM (cnJ J) x y 1).toInt64)))), (11, .int (nI (2 * (14 * min x 13 + min (y + 2) 13) + 1))), (0, .ref 34), (1, .ref 33), (2, .int (nI x)), (3, .int (nI y)), (4, .int (nI 0))]) dX7_chanceAt_51 (by decide) rfl ?_
      refine V_iload dX7_chanceAt_53 rfl ?_
      refine V_if_eq (tgt := 127) dX7_chanceAt_55 rfl (fun h => absurd h (by decide)) (fun _ => ?_)
      refine V_iload dX7_chanceAt_58 rfl ?_
      refine V_if_lt (tgt := 127) dX7_chanceAt_60 rfl (fun h => absurd h (by decide)) (fun _ => ?_)
      refine V_iload dX7_chanceAt_63 rfl ?_
      refine V_aload_n dX7_chanceAt_65 rfl ?_
      refine V_alen (v := nI 14) dX7_chanceAt_66 ⟨Nat.le_of_ble_eq_true rfl, Nat.le_of_ble_eq_true rfl⟩ rfl (by decide) rfl ?_
      refine V_icmp_ge (tgt := 127) dX7_chanceAt_67 rfl (fun h => absurd h (by decide)) (fun _ => ?_)
      refine V_iload dX7_chanceAt_70 rfl ?_
      refine V_if_le (tgt := 87) dX7_chanceAt_72 rfl (fun _ => ?_) (fun h => absurd h (by decide))
      refine V_iload_n dX7_chanceAt_87 rfl ?_
      refine V_iload_n dX7_chanceAt_88 rfl ?_
      refine V_iload dX7_chanceAt_89 rfl ?_
      refine V_isub dX7_chanceAt_91 (V_eqI (y := nI (y + 1)) (nI_subn y 1) ?_)
      refine V_iconst (v := nI 1) dX7_chanceAt_92 rfl ?_
      refine V_callS (As := [.int (nI x), .int (nI (y + 1)), .int (nI 1)]) (st := []) dX7_chanceAt_93 kX7_spotOf lX7_23 (by decide) rfl rfl (Nat.le_of_ble_eq_true rfl) ⟨Nat.le_of_ble_eq_true rfl, Nat.le_of_ble_eq_true rfl⟩ (c_spotOf7 (by omega) (by omega)) ?_
      rintro _ _ _ _ ⟨rfl, rfl, rfl, rfl⟩
      refine V_istore (ls' := [(11, .int (nI (2 * (14 * min x 13 + min (y + 1) 13) + 1))), (10, .int (nI 2)), (9, .int (-1)), (7, .long ((0 + (J 33 0)) + (J 33 1))), (5, .long ((0 + ((J 33 0) * ((vM (cnJ J) x y 0).toInt64))) + ((J 33 1) * ((vM (cnJ J) x y 1).toInt64)))), (0, .ref 34), (1, .ref 33), (2, .int (nI x)), (3, .int (nI y)), (4, .int (nI 0))]) dX7_chanceAt_96 (by decide) rfl ?_
      refine V_lload dX7_chanceAt_98 rfl ?_
      refine V_aload_n dX7_chanceAt_100 rfl ?_
      refine V_iload dX7_chanceAt_101 rfl ?_
      refine V_laldN (k := 2) dX7_chanceAt_103 ⟨Nat.le_of_ble_eq_true rfl, Nat.le_of_ble_eq_true rfl⟩ rfl (by decide) (by omega) ?_
      refine V_aload_n dX7_chanceAt_104 rfl ?_
      refine V_getR (b := 35) dX7_chanceAt_105 fX7_11 ⟨Nat.le_of_ble_eq_true rfl, Nat.le_of_ble_eq_true rfl⟩ rfl rfl rfl ?_
      refine V_iload dX7_chanceAt_108 rfl ?_
      refine V_callS (As := [.ref 35, .int (nI (2 * (14 * min x 13 + min (y + 1) 13) + 1))]) (st := [.long (J 33 2), .long ((0 + ((J 33 0) * ((vM (cnJ J) x y 0).toInt64))) + ((J 33 1) * ((vM (cnJ J) x y 1).toInt64)))]) dX7_chanceAt_110 kX11_at lX7_27 (by decide) rfl rfl (Nat.le_of_ble_eq_true rfl) ⟨Nat.le_of_ble_eq_true rfl, Nat.le_of_ble_eq_true rfl⟩ (c_at (a := 35) (n := 392) ⟨Nat.le_of_ble_eq_true rfl, Nat.le_of_ble_eq_true rfl⟩ rfl (by decide) (by omega)) ?_
      rintro _ _ _ _ ⟨rfl, rfl, rfl, rfl⟩
      refine V_eqI (y := vM (cnJ J) x y 2) (by rw [show min x 13 = x by omega, hme x (min (y + 1) 13) 1 (by omega) (by omega) (by omega) (by omega)]; rfl) ?_
      refine V_i2l dX7_chanceAt_113 ?_
      refine V_lmul dX7_chanceAt_114 ?_
      refine V_ladd dX7_chanceAt_115 ?_
      refine V_lstore (ls' := [(5, .long (((0 + ((J 33 0) * ((vM (cnJ J) x y 0).toInt64))) + ((J 33 1) * ((vM (cnJ J) x y 1).toInt64))) + ((J 33 2) * ((vM (cnJ J) x y 2).toInt64)))), (11, .int (nI (2 * (14 * min x 13 + min (y + 1) 13) + 1))), (10, .int (nI 2)), (9, .int (-1)), (7, .long ((0 + (J 33 0)) + (J 33 1))), (0, .ref 34), (1, .ref 33), (2, .int (nI x)), (3, .int (nI y)), (4, .int (nI 0))]) dX7_chanceAt_116 (by decide) rfl ?_
      refine V_lload dX7_chanceAt_118 rfl ?_
      refine V_aload_n dX7_chanceAt_120 rfl ?_
      refine V_iload dX7_chanceAt_121 rfl ?_
      refine V_laldN (k := 2) dX7_chanceAt_123 ⟨Nat.le_of_ble_eq_true rfl, Nat.le_of_ble_eq_true rfl⟩ rfl (by decide) (by omega) ?_
      refine V_ladd dX7_chanceAt_124 ?_
      refine V_lstore (ls' := [(7, .long (((0 + (J 33 0)) + (J 33 1)) + (J 33 2))), (5, .long (((0 + ((J 33 0) * ((vM (cnJ J) x y 0).toInt64))) + ((J 33 1) * ((vM (cnJ J) x y 1).toInt64))) + ((J 33 2) * ((vM (cnJ J) x y 2).toInt64)))), (11, .int (nI (2 * (14 * min x 13 + min (y + 1) 13) + 1))), (10, .int (nI 2)), (9, .int (-1)), (0, .ref 34), (1, .ref 33), (2, .int (nI x)), (3, .int (nI y)), (4, .int (nI 0))]) dX7_chanceAt_125 (by decide) rfl ?_
      refine V_iinc (v := nI 0) (ls' := [(9, .int (nI 0)), (7, .long (((0 + (J 33 0)) + (J 33 1)) + (J 33 2))), (5, .long (((0 + ((J 33 0) * ((vM (cnJ J) x y 0).toInt64))) + ((J 33 1) * ((vM (cnJ J) x y 1).toInt64))) + ((J 33 2) * ((vM (cnJ J) x y 2).toInt64)))), (11, .int (nI (2 * (14 * min x 13 + min (y + 1) 13) + 1))), (10, .int (nI 2)), (0, .ref 34), (1, .ref 33), (2, .int (nI x)), (3, .int (nI y)), (4, .int (nI 0))]) dX7_chanceAt_127 rfl (by decide) (by decide) rfl ?_
      refine V_goto (tgt := 35) dX7_chanceAt_130 rfl ?_
      refine V_iload dX7_chanceAt_35 rfl ?_
      refine V_iconst (v := nI 3) dX7_chanceAt_37 rfl ?_
      refine V_icmp_gt (tgt := 133) dX7_chanceAt_38 rfl (fun h => absurd h (by decide)) (fun _ => ?_)
      refine V_iload dX7_chanceAt_41 rfl ?_
      refine V_bipush (v := nI 7) dX7_chanceAt_43 rfl ?_
      refine V_imulN dX7_chanceAt_45 ?_
      refine V_eqI (y := nI 0) rfl ?_
      refine V_iload dX7_chanceAt_46 rfl ?_
      refine V_iaddN dX7_chanceAt_48 ?_
      refine V_eqI (y := nI 0) rfl ?_
      refine V_iconst (v := nI 3) dX7_chanceAt_49 rfl ?_
      refine V_iaddN dX7_chanceAt_50 ?_
      refine V_eqI (y := nI 3) rfl ?_
      refine V_istore (ls' := [(10, .int (nI 3)), (9, .int (nI 0)), (7, .long (((0 + (J 33 0)) + (J 33 1)) + (J 33 2))), (5, .long (((0 + ((J 33 0) * ((vM (cnJ J) x y 0).toInt64))) + ((J 33 1) * ((vM (cnJ J) x y 1).toInt64))) + ((J 33 2) * ((vM (cnJ J) x y 2).toInt64)))), (11, .int (nI (2 * (14 * min x 13 + min (y + 1) 13) + 1))), (0, .ref 34), (1, .ref 33), (2, .int (nI x)), (3, .int (nI y)), (4, .int (nI 0))]) dX7_chanceAt_51 (by decide) rfl ?_
      refine V_iload dX7_chanceAt_53 rfl ?_
      refine V_if_eq (tgt := 127) dX7_chanceAt_55 rfl (fun _ => ?_) (fun h => absurd h (by decide))
      refine V_iinc (v := nI 1) (ls' := [(9, .int (nI 1)), (10, .int (nI 3)), (7, .long (((0 + (J 33 0)) + (J 33 1)) + (J 33 2))), (5, .long (((0 + ((J 33 0) * ((vM (cnJ J) x y 0).toInt64))) + ((J 33 1) * ((vM (cnJ J) x y 1).toInt64))) + ((J 33 2) * ((vM (cnJ J) x y 2).toInt64)))), (11, .int (nI (2 * (14 * min x 13 + min (y + 1) 13) + 1))), (0, .ref 34), (1, .ref 33), (2, .int (nI x)), (3, .int (nI y)), (4, .int (nI 0))]) dX7_chanceAt_127 rfl (by decide) (by decide) rfl ?_
      refine V_goto (tgt := 35) dX7_chanceAt_130 rfl ?_
      refine V_iload dX7_chanceAt_35 rfl ?_
      refine V_iconst (v := nI 3) dX7_chanceAt_37 rfl ?_
      refine V_icmp_gt (tgt := 133) dX7_chanceAt_38 rfl (fun h => absurd h (by decide)) (fun _ => ?_)
      refine V_iload dX7_chanceAt_41 rfl ?_
      refine V_bipush (v := nI 7) dX7_chanceAt_43 rfl ?_
      refine V_imulN dX7_chanceAt_45 ?_
      refine V_eqI (y := nI 0) rfl ?_
      refine V_iload dX7_chanceAt_46 rfl ?_
      refine V_iaddN dX7_chanceAt_48 ?_
      refine V_eqI (y := nI 1) rfl ?_
      refine V_iconst (v := nI 3) dX7_chanceAt_49 rfl ?_
      refine V_iaddN dX7_chanceAt_50 ?_
      refine V_eqI (y := nI 4) rfl ?_
      refine V_istore (ls' := [(10, .int (nI 4)), (9, .int (nI 1)), (7, .long (((0 + (J 33 0)) + (J 33 1)) + (J 33 2))), (5, .long (((0 + ((J 33 0) * ((vM (cnJ J) x y 0).toInt64))) + ((J 33 1) * ((vM (cnJ J) x y 1).toInt64))) + ((J 33 2) * ((vM (cnJ J) x y 2).toInt64)))), (11, .int (nI (2 * (14 * min x 13 + min (y + 1) 13) + 1))), (0, .ref 34), (1, .ref 33), (2, .int (nI x)), (3, .int (nI y)), (4, .int (nI 0))]) dX7_chanceAt_51 (by decide) rfl ?_
      refine V_iload dX7_chanceAt_53 rfl ?_
      refine V_if_eq (tgt := 127) dX7_chanceAt_55 rfl (fun h => absurd h (by decide)) (fun _ => ?_)
      refine V_iload dX7_chanceAt_58 rfl ?_
      refine V_if_lt (tgt := 127) dX7_chanceAt_60 rfl (fun h => absurd h (by decide)) (fun _ => ?_)
      refine V_iload dX7_chanceAt_63 rfl ?_
      refine V_aload_n dX7_chanceAt_65 rfl ?_
      refine V_alen (v := nI 14) dX7_chanceAt_66 ⟨Nat.le_of_ble_eq_true rfl, Nat.le_of_ble_eq_true rfl⟩ rfl (by decide) rfl ?_
      refine V_icmp_ge (tgt := 127) dX7_chanceAt_67 rfl (fun h => absurd h (by decide)) (fun _ => ?_)
      refine V_iload dX7_chanceAt_70 rfl ?_
      refine V_if_le (tgt := 87) dX7_chanceAt_72 rfl (fun h => absurd h (by decide)) (fun _ => ?_)
      refine V_iload_n dX7_chanceAt_75 rfl ?_
      refine V_iload dX7_chanceAt_76 rfl ?_
      refine V_iaddN dX7_chanceAt_78 ?_
      refine V_iload_n dX7_chanceAt_79 rfl ?_
      refine V_iconst (v := nI 0) dX7_chanceAt_80 rfl ?_
      refine V_callS (As := [.int (nI (x + 1)), .int (nI y), .int (nI 0)]) (st := []) dX7_chanceAt_81 kX7_spotOf lX7_23 (by decide) rfl rfl (Nat.le_of_ble_eq_true rfl) ⟨Nat.le_of_ble_eq_true rfl, Nat.le_of_ble_eq_true rfl⟩ (c_spotOf7 (by omega) (by omega)) ?_
      rintro _ _ _ _ ⟨rfl, rfl, rfl, rfl⟩
      refine V_goto (tgt := 96) dX7_chanceAt_84 rfl ?_
      refine V_istore (ls' := [(11, .int (nI (2 * (14 * min (x + 1) 13 + min y 13) + 0))), (10, .int (nI 4)), (9, .int (nI 1)), (7, .long (((0 + (J 33 0)) + (J 33 1)) + (J 33 2))), (5, .long (((0 + ((J 33 0) * ((vM (cnJ J) x y 0).toInt64))) + ((J 33 1) * ((vM (cnJ J) x y 1).toInt64))) + ((J 33 2) * ((vM (cnJ J) x y 2).toInt64)))), (0, .ref 34), (1, .ref 33), (2, .int (nI x)), (3, .int (nI y)), (4, .int (nI 0))]) dX7_chanceAt_96 (by decide) rfl ?_
      refine V_lload dX7_chanceAt_98 rfl ?_
      refine V_aload_n dX7_chanceAt_100 rfl ?_
      refine V_iload dX7_chanceAt_101 rfl ?_
      refine V_laldN (k := 4) dX7_chanceAt_103 ⟨Nat.le_of_ble_eq_true rfl, Nat.le_of_ble_eq_true rfl⟩ rfl (by decide) (by omega) ?_
      refine V_aload_n dX7_chanceAt_104 rfl ?_
      refine V_getR (b := 35) dX7_chanceAt_105 fX7_11 ⟨Nat.le_of_ble_eq_true rfl, Nat.le_of_ble_eq_true rfl⟩ rfl rfl rfl ?_
      refine V_iload dX7_chanceAt_108 rfl ?_
      refine V_callS (As := [.ref 35, .int (nI (2 * (14 * min (x + 1) 13 + min y 13) + 0))]) (st := [.long (J 33 4), .long (((0 + ((J 33 0) * ((vM (cnJ J) x y 0).toInt64))) + ((J 33 1) * ((vM (cnJ J) x y 1).toInt64))) + ((J 33 2) * ((vM (cnJ J) x y 2).toInt64)))]) dX7_chanceAt_110 kX11_at lX7_27 (by decide) rfl rfl (Nat.le_of_ble_eq_true rfl) ⟨Nat.le_of_ble_eq_true rfl, Nat.le_of_ble_eq_true rfl⟩ (c_at (a := 35) (n := 392) ⟨Nat.le_of_ble_eq_true rfl, Nat.le_of_ble_eq_true rfl⟩ rfl (by decide) (by omega)) ?_
      rintro _ _ _ _ ⟨rfl, rfl, rfl, rfl⟩
      refine V_eqI (y := vM (cnJ J) x y 4) (by rw [show min y 13 = y by omega, hme (min (x + 1) 13) y 0 (by omega) (by omega) (by omega) (by omega)]; rfl) ?_
      refine V_i2l dX7_chanceAt_113 ?_
      refine V_lmul dX7_chanceAt_114 ?_
      refine V_ladd dX7_chanceAt_115 ?_
      refine V_lstore (ls' := [(5, .long ((((0 + ((J 33 0) * ((vM (cnJ J) x y 0).toInt64))) + ((J 33 1) * ((vM (cnJ J) x y 1).toInt64))) + ((J 33 2) * ((vM (cnJ J) x y 2).toInt64))) + ((J 33 4) * ((vM (cnJ J) x y 4).toInt64)))), (11, .int (nI (2 * (14 * min (x + 1) 13 + min y 13) + 0))), (10, .int (nI 4)), (9, .int (nI 1)), (7, .long (((0 + (J 33 0)) + (J 33 1)) + (J 33 2))), (0, .ref 34), (1, .ref 33), (2, .int (nI x)), (3, .int (nI y)), (4, .int (nI 0))]) dX7_chanceAt_116 (by decide) rfl ?_
      refine V_lload dX7_chanceAt_118 rfl ?_
      refine V_aload_n dX7_chanceAt_120 rfl ?_
      refine V_iload dX7_chanceAt_121 rfl ?_
      refine V_laldN (k := 4) dX7_chanceAt_123 ⟨Nat.le_of_ble_eq_true rfl, Nat.le_of_ble_eq_true rfl⟩ rfl (by decide) (by omega) ?_
      refine V_ladd dX7_chanceAt_124 ?_
      refine V_lstore (ls' := [(7, .long ((((0 + (J 33 0)) + (J 33 1)) + (J 33 2)) + (J 33 4))), (5, .long ((((0 + ((J 33 0) * ((vM (cnJ J) x y 0).toInt64))) + ((J 33 1) * ((vM (cnJ J) x y 1).toInt64))) + ((J 33 2) * ((vM (cnJ J) x y 2).toInt64))) + ((J 33 4) * ((vM (cnJ J) x y 4).toInt64)))), (11, .int (nI (2 * (14 * min (x + 1) 13 + min y 13) + 0))), (10, .int (nI 4)), (9, .int (nI 1)), (0, .ref 34), (1, .ref 33), (2, .int (nI x)), (3, .int (nI y)), (4, .int (nI 0))]) dX7_chanceAt_125 (by decide) rfl ?_
      refine V_iinc (v := nI 2) (ls' := [(9, .int (nI 2)), (7, .long ((((0 + (J 33 0)) + (J 33 1)) + (J 33 2)) + (J 33 4))), (5, .long ((((0 + ((J 33 0) * ((vM (cnJ J) x y 0).toInt64))) + ((J 33 1) * ((vM (cnJ J) x y 1).toInt64))) + ((J 33 2) * ((vM (cnJ J) x y 2).toInt64))) + ((J 33 4) * ((vM (cnJ J) x y 4).toInt64)))), (11, .int (nI (2 * (14 * min (x + 1) 13 + min y 13) + 0))), (10, .int (nI 4)), (0, .ref 34), (1, .ref 33), (2, .int (nI x)), (3, .int (nI y)), (4, .int (nI 0))]) dX7_chanceAt_127 rfl (by decide) (by decide) rfl ?_
      refine V_goto (tgt := 35) dX7_chanceAt_130 rfl ?_
      refine V_iload dX7_chanceAt_35 rfl ?_
      refine V_iconst (v := nI 3) dX7_chanceAt_37 rfl ?_
      refine V_icmp_gt (tgt := 133) dX7_chanceAt_38 rfl (fun h => absurd h (by decide)) (fun _ => ?_)
      refine V_iload dX7_chanceAt_41 rfl ?_
      refine V_bipush (v := nI 7) dX7_chanceAt_43 rfl ?_
      refine V_imulN dX7_chanceAt_45 ?_
      refine V_eqI (y := nI 0) rfl ?_
      refine V_iload dX7_chanceAt_46 rfl ?_
      refine V_iaddN dX7_chanceAt_48 ?_
      refine V_eqI (y := nI 2) rfl ?_
      refine V_iconst (v := nI 3) dX7_chanceAt_49 rfl ?_
      refine V_iaddN dX7_chanceAt_50 ?_
      refine V_eqI (y := nI 5) rfl ?_
      refine V_istore (ls' := [(10, .int (nI 5)), (9, .int (nI 2)), (7, .long ((((0 + (J 33 0)) + (J 33 1)) + (J 33 2)) + (J 33 4))), (5, .long ((((0 + ((J 33 0) * ((vM (cnJ J) x y 0).toInt64))) + ((J 33 1) * ((vM (cnJ J) x y 1).toInt64))) + ((J 33 2) * ((vM (cnJ J) x y 2).toInt64))) + ((J 33 4) * ((vM (cnJ J) x y 4).toInt64)))), (11, .int (nI (2 * (14 * min (x + 1) 13 + min y 13) + 0))), (0, .ref 34), (1, .ref 33), (2, .int (nI x)), (3, .int (nI y)), (4, .int (nI 0))]) dX7_chanceAt_51 (by decide) rfl ?_
      refine V_iload dX7_chanceAt_53 rfl ?_
      refine V_if_eq (tgt := 127) dX7_chanceAt_55 rfl (fun h => absurd h (by decide)) (fun _ => ?_)
      refine V_iload dX7_chanceAt_58 rfl ?_
      refine V_if_lt (tgt := 127) dX7_chanceAt_60 rfl (fun h => absurd h (by decide)) (fun _ => ?_)
      refine V_iload dX7_chanceAt_63 rfl ?_
      refine V_aload_n dX7_chanceAt_65 rfl ?_
      refine V_alen (v := nI 14) dX7_chanceAt_66 ⟨Nat.le_of_ble_eq_true rfl, Nat.le_of_ble_eq_true rfl⟩ rfl (by decide) rfl ?_
      refine V_icmp_ge (tgt := 127) dX7_chanceAt_67 rfl (fun h => absurd h (by decide)) (fun _ => ?_)
      refine V_iload dX7_chanceAt_70 rfl ?_
      refine V_if_le (tgt := 87) dX7_chanceAt_72 rfl (fun h => absurd h (by decide)) (fun _ => ?_)
      refine V_iload_n dX7_chanceAt_75 rfl ?_
      refine V_iload dX7_chanceAt_76 rfl ?_
      refine V_iaddN dX7_chanceAt_78 ?_
      refine V_iload_n dX7_chanceAt_79 rfl ?_
      refine V_iconst (v := nI 0) dX7_chanceAt_80 rfl ?_
      refine V_callS (As := [.int (nI (x + 2)), .int (nI y), .int (nI 0)]) (st := []) dX7_chanceAt_81 kX7_spotOf lX7_23 (by decide) rfl rfl (Nat.le_of_ble_eq_true rfl) ⟨Nat.le_of_ble_eq_true rfl, Nat.le_of_ble_eq_true rfl⟩ (c_spotOf7 (by omega) (by omega)) ?_
      rintro _ _ _ _ ⟨rfl, rfl, rfl, rfl⟩
      refine V_goto (tgt := 96) dX7_chanceAt_84 rfl ?_
      refine V_istore (ls' := [(11, .int (nI (2 * (14 * min (x + 2) 13 + min y 13) + 0))), (10, .int (nI 5)), (9, .int (nI 2)), (7, .long ((((0 + (J 33 0)) + (J 33 1)) + (J 33 2)) + (J 33 4))), (5, .long ((((0 + ((J 33 0) * ((vM (cnJ J) x y 0).toInt64))) + ((J 33 1) * ((vM (cnJ J) x y 1).toInt64))) + ((J 33 2) * ((vM (cnJ J) x y 2).toInt64))) + ((J 33 4) * ((vM (cnJ J) x y 4).toInt64)))), (0, .ref 34), (1, .ref 33), (2, .int (nI x)), (3, .int (nI y)), (4, .int (nI 0))]) dX7_chanceAt_96 (by decide) rfl ?_
      refine V_lload dX7_chanceAt_98 rfl ?_
      refine V_aload_n dX7_chanceAt_100 rfl ?_
      refine V_iload dX7_chanceAt_101 rfl ?_
      refine V_laldN (k := 5) dX7_chanceAt_103 ⟨Nat.le_of_ble_eq_true rfl, Nat.le_of_ble_eq_true rfl⟩ rfl (by decide) (by omega) ?_
      refine V_aload_n dX7_chanceAt_104 rfl ?_
      refine V_getR (b := 35) dX7_chanceAt_105 fX7_11 ⟨Nat.le_of_ble_eq_true rfl, Nat.le_of_ble_eq_true rfl⟩ rfl rfl rfl ?_
      refine V_iload dX7_chanceAt_108 rfl ?_
      refine V_callS (As := [.ref 35, .int (nI (2 * (14 * min (x + 2) 13 + min y 13) + 0))]) (st := [.long (J 33 5), .long ((((0 + ((J 33 0) * ((vM (cnJ J) x y 0).toInt64))) + ((J 33 1) * ((vM (cnJ J) x y 1).toInt64))) + ((J 33 2) * ((vM (cnJ J) x y 2).toInt64))) + ((J 33 4) * ((vM (cnJ J) x y 4).toInt64)))]) dX7_chanceAt_110 kX11_at lX7_27 (by decide) rfl rfl (Nat.le_of_ble_eq_true rfl) ⟨Nat.le_of_ble_eq_true rfl, Nat.le_of_ble_eq_true rfl⟩ (c_at (a := 35) (n := 392) ⟨Nat.le_of_ble_eq_true rfl, Nat.le_of_ble_eq_true rfl⟩ rfl (by decide) (by omega)) ?_
      rintro _ _ _ _ ⟨rfl, rfl, rfl, rfl⟩
      refine V_eqI (y := vM (cnJ J) x y 5) (by rw [show min y 13 = y by omega, hme (min (x + 2) 13) y 0 (by omega) (by omega) (by omega) (by omega)]; rfl) ?_
      refine V_i2l dX7_chanceAt_113 ?_
      refine V_lmul dX7_chanceAt_114 ?_
      refine V_ladd dX7_chanceAt_115 ?_
      refine V_lstore (ls' := [(5, .long (((((0 + ((J 33 0) * ((vM (cnJ J) x y 0).toInt64))) + ((J 33 1) * ((vM (cnJ J) x y 1).toInt64))) + ((J 33 2) * ((vM (cnJ J) x y 2).toInt64))) + ((J 33 4) * ((vM (cnJ J) x y 4).toInt64))) + ((J 33 5) * ((vM (cnJ J) x y 5).toInt64)))), (11, .int (nI (2 * (14 * min (x + 2) 13 + min y 13) + 0))), (10, .int (nI 5)), (9, .int (nI 2)), (7, .long ((((0 + (J 33 0)) + (J 33 1)) + (J 33 2)) + (J 33 4))), (0, .ref 34), (1, .ref 33), (2, .int (nI x)), (3, .int (nI y)), (4, .int (nI 0))]) dX7_chanceAt_116 (by decide) rfl ?_
      refine V_lload dX7_chanceAt_118 rfl ?_
      refine V_aload_n dX7_chanceAt_120 rfl ?_
      refine V_iload dX7_chanceAt_121 rfl ?_
      refine V_laldN (k := 5) dX7_chanceAt_123 ⟨Nat.le_of_ble_eq_true rfl, Nat.le_of_ble_eq_true rfl⟩ rfl (by decide) (by omega) ?_
      refine V_ladd dX7_chanceAt_124 ?_
      refine V_lstore (ls' := [(7, .long (((((0 + (J 33 0)) + (J 33 1)) + (J 33 2)) + (J 33 4)) + (J 33 5))), (5, .long (((((0 + ((J 33 0) * ((vM (cnJ J) x y 0).toInt64))) + ((J 33 1) * ((vM (cnJ J) x y 1).toInt64))) + ((J 33 2) * ((vM (cnJ J) x y 2).toInt64))) + ((J 33 4) * ((vM (cnJ J) x y 4).toInt64))) + ((J 33 5) * ((vM (cnJ J) x y 5).toInt64)))), (11, .int (nI (2 * (14 * min (x + 2) 13 + min y 13) + 0))), (10, .int (nI 5)), (9, .int (nI 2)), (0, .ref 34), (1, .ref 33), (2, .int (nI x)), (3, .int (nI y)), (4, .int (nI 0))]) dX7_chanceAt_125 (by decide) rfl ?_
      refine V_iinc (v := nI 3) (ls' := [(9, .int (nI 3)), (7, .long (((((0 + (J 33 0)) + (J 33 1)) + (J 33 2)) + (J 33 4)) + (J 33 5))), (5, .long (((((0 + ((J 33 0) * ((vM (cnJ J) x y 0).toInt64))) + ((J 33 1) * ((vM (cnJ J) x y 1).toInt64))) + ((J 33 2) * ((vM (cnJ J) x y 2).toInt64))) + ((J 33 4) * ((vM (cnJ J) x y 4).toInt64))) + ((J 33 5) * ((vM (cnJ J) x y 5).toInt64)))), (11, .int (nI (2 * (14 * min (x + 2) 13 + min y 13) + 0))), (10, .int (nI 5)), (0, .ref 34), (1, .ref 33), (2, .int (nI x)), (3, .int (nI y)), (4, .int (nI 0))]) dX7_chanceAt_127 rfl (by decide) (by decide) rfl ?_
      refine V_goto (tgt := 35) dX7_chanceAt_130 rfl ?_
      refine V_iload dX7_chanceAt_35 rfl ?_
      refine V_iconst (v := nI 3) dX7_chanceAt_37 rfl ?_
      refine V_icmp_gt (tgt := 133) dX7_chanceAt_38 rfl (fun h => absurd h (by decide)) (fun _ => ?_)
      refine V_iload dX7_chanceAt_41 rfl ?_
      refine V_bipush (v := nI 7) dX7_chanceAt_43 rfl ?_
      refine V_imulN dX7_chanceAt_45 ?_
      refine V_eqI (y := nI 0) rfl ?_
      refine V_iload dX7_chanceAt_46 rfl ?_
      refine V_iaddN dX7_chanceAt_48 ?_
      refine V_eqI (y := nI 3) rfl ?_
      refine V_iconst (v := nI 3) dX7_chanceAt_49 rfl ?_
      refine V_iaddN dX7_chanceAt_50 ?_
      refine V_eqI (y := nI 6) rfl ?_
      refine V_istore (ls' := [(10, .int (nI 6)), (9, .int (nI 3)), (7, .long (((((0 + (J 33 0)) + (J 33 1)) + (J 33 2)) + (J 33 4)) + (J 33 5))), (5, .long (((((0 + ((J 33 0) * ((vM (cnJ J) x y 0).toInt64))) + ((J 33 1) * ((vM (cnJ J) x y 1).toInt64))) + ((J 33 2) * ((vM (cnJ J) x y 2).toInt64))) + ((J 33 4) * ((vM (cnJ J) x y 4).toInt64))) + ((J 33 5) * ((vM (cnJ J) x y 5).toInt64)))), (11, .int (nI (2 * (14 * min (x + 2) 13 + min y 13) + 0))), (0, .ref 34), (1, .ref 33), (2, .int (nI x)), (3, .int (nI y)), (4, .int (nI 0))]) dX7_chanceAt_51 (by decide) rfl ?_
      refine V_iload dX7_chanceAt_53 rfl ?_
      refine V_if_eq (tgt := 127) dX7_chanceAt_55 rfl (fun h => absurd h (by decide)) (fun _ => ?_)
      refine V_iload dX7_chanceAt_58 rfl ?_
      refine V_if_lt (tgt := 127) dX7_chanceAt_60 rfl (fun h => absurd h (by decide)) (fun _ => ?_)
      refine V_iload dX7_chanceAt_63 rfl ?_
      refine V_aload_n dX7_chanceAt_65 rfl ?_
      refine V_alen (v := nI 14) dX7_chanceAt_66 ⟨Nat.le_of_ble_eq_true rfl, Nat.le_of_ble_eq_true rfl⟩ rfl (by decide) rfl ?_
      refine V_icmp_ge (tgt := 127) dX7_chanceAt_67 rfl (fun h => absurd h (by decide)) (fun _ => ?_)
      refine V_iload dX7_chanceAt_70 rfl ?_
      refine V_if_le (tgt := 87) dX7_chanceAt_72 rfl (fun h => absurd h (by decide)) (fun _ => ?_)
      refine V_iload_n dX7_chanceAt_75 rfl ?_
      refine V_iload dX7_chanceAt_76 rfl ?_
      refine V_iaddN dX7_chanceAt_78 ?_
      refine V_iload_n dX7_chanceAt_79 rfl ?_
      refine V_iconst (v := nI 0) dX7_chanceAt_80 rfl ?_
      refine V_callS (As := [.int (nI (x + 3)), .int (nI y), .int (nI 0)]) (st := []) dX7_chanceAt_81 kX7_spotOf lX7_23 (by decide) rfl rfl (Nat.le_of_ble_eq_true rfl) ⟨Nat.le_of_ble_eq_true rfl, Nat.le_of_ble_eq_true rfl⟩ (c_spotOf7 (by omega) (by omega)) ?_
      rintro _ _ _ _ ⟨rfl, rfl, rfl, rfl⟩
      refine V_goto (tgt := 96) dX7_chanceAt_84 rfl ?_
      refine V_istore (ls' := [(11, .int (nI (2 * (14 * min (x + 3) 13 + min y 13) + 0))), (10, .int (nI 6)), (9, .int (nI 3)), (7, .long (((((0 + (J 33 0)) + (J 33 1)) + (J 33 2)) + (J 33 4)) + (J 33 5))), (5, .long (((((0 + ((J 33 0) * ((vM (cnJ J) x y 0).toInt64))) + ((J 33 1) * ((vM (cnJ J) x y 1).toInt64))) + ((J 33 2) * ((vM (cnJ J) x y 2).toInt64))) + ((J 33 4) * ((vM (cnJ J) x y 4).toInt64))) + ((J 33 5) * ((vM (cnJ J) x y 5).toInt64)))), (0, .ref 34), (1, .ref 33), (2, .int (nI x)), (3, .int (nI y)), (4, .int (nI 0))]) dX7_chanceAt_96 (by decide) rfl ?_
      refine V_lload dX7_chanceAt_98 rfl ?_
      refine V_aload_n dX7_chanceAt_100 rfl ?_
      refine V_iload dX7_chanceAt_101 rfl ?_
      refine V_laldN (k := 6) dX7_chanceAt_103 ⟨Nat.le_of_ble_eq_true rfl, Nat.le_of_ble_eq_true rfl⟩ rfl (by decide) (by omega) ?_
      refine V_aload_n dX7_chanceAt_104 rfl ?_
      refine V_getR (b := 35) dX7_chanceAt_105 fX7_11 ⟨Nat.le_of_ble_eq_true rfl, Nat.le_of_ble_eq_true rfl⟩ rfl rfl rfl ?_
      refine V_iload dX7_chanceAt_108 rfl ?_
      refine V_callS (As := [.ref 35, .int (nI (2 * (14 * min (x + 3) 13 + min y 13) + 0))]) (st := [.long (J 33 6), .long (((((0 + ((J 33 0) * ((vM (cnJ J) x y 0).toInt64))) + ((J 33 1) * ((vM (cnJ J) x y 1).toInt64))) + ((J 33 2) * ((vM (cnJ J) x y 2).toInt64))) + ((J 33 4) * ((vM (cnJ J) x y 4).toInt64))) + ((J 33 5) * ((vM (cnJ J) x y 5).toInt64)))]) dX7_chanceAt_110 kX11_at lX7_27 (by decide) rfl rfl (Nat.le_of_ble_eq_true rfl) ⟨Nat.le_of_ble_eq_true rfl, Nat.le_of_ble_eq_true rfl⟩ (c_at (a := 35) (n := 392) ⟨Nat.le_of_ble_eq_true rfl, Nat.le_of_ble_eq_true rfl⟩ rfl (by decide) (by omega)) ?_
      rintro _ _ _ _ ⟨rfl, rfl, rfl, rfl⟩
      refine V_eqI (y := vM (cnJ J) x y 6) (by rw [show min y 13 = y by omega, hme (min (x + 3) 13) y 0 (by omega) (by omega) (by omega) (by omega)]; rfl) ?_
      refine V_i2l dX7_chanceAt_113 ?_
      refine V_lmul dX7_chanceAt_114 ?_
      refine V_ladd dX7_chanceAt_115 ?_
      refine V_lstore (ls' := [(5, .long ((((((0 + ((J 33 0) * ((vM (cnJ J) x y 0).toInt64))) + ((J 33 1) * ((vM (cnJ J) x y 1).toInt64))) + ((J 33 2) * ((vM (cnJ J) x y 2).toInt64))) + ((J 33 4) * ((vM (cnJ J) x y 4).toInt64))) + ((J 33 5) * ((vM (cnJ J) x y 5).toInt64))) + ((J 33 6) * ((vM (cnJ J) x y 6).toInt64)))), (11, .int (nI (2 * (14 * min (x + 3) 13 + min y 13) + 0))), (10, .int (nI 6)), (9, .int (nI 3)), (7, .long (((((0 + (J 33 0)) + (J 33 1)) + (J 33 2)) + (J 33 4)) + (J 33 5))), (0, .ref 34), (1, .ref 33), (2, .int (nI x)), (3, .int (nI y)), (4, .int (nI 0))]) dX7_chanceAt_116 (by decide) rfl ?_
      refine V_lload dX7_chanceAt_118 rfl ?_
      refine V_aload_n dX7_chanceAt_120 rfl ?_
      refine V_iload dX7_chanceAt_121 rfl ?_
      refine V_laldN (k := 6) dX7_chanceAt_123 ⟨Nat.le_of_ble_eq_true rfl, Nat.le_of_ble_eq_true rfl⟩ rfl (by decide) (by omega) ?_
      refine V_ladd dX7_chanceAt_124 ?_
      refine V_lstore (ls' := [(7, .long ((((((0 + (J 33 0)) + (J 33 1)) + (J 33 2)) + (J 33 4)) + (J 33 5)) + (J 33 6))), (5, .long ((((((0 + ((J 33 0) * ((vM (cnJ J) x y 0).toInt64))) + ((J 33 1) * ((vM (cnJ J) x y 1).toInt64))) + ((J 33 2) * ((vM (cnJ J) x y 2).toInt64))) + ((J 33 4) * ((vM (cnJ J) x y 4).toInt64))) + ((J 33 5) * ((vM (cnJ J) x y 5).toInt64))) + ((J 33 6) * ((vM (cnJ J) x y 6).toInt64)))), (11, .int (nI (2 * (14 * min (x + 3) 13 + min y 13) + 0))), (10, .int (nI 6)), (9, .int (nI 3)), (0, .ref 34), (1, .ref 33), (2, .int (nI x)), (3, .int (nI y)), (4, .int (nI 0))]) dX7_chanceAt_125 (by decide) rfl ?_
      refine V_iinc (v := nI 4) (ls' := [(9, .int (nI 4)), (7, .long ((((((0 + (J 33 0)) + (J 33 1)) + (J 33 2)) + (J 33 4)) + (J 33 5)) + (J 33 6))), (5, .long ((((((0 + ((J 33 0) * ((vM (cnJ J) x y 0).toInt64))) + ((J 33 1) * ((vM (cnJ J) x y 1).toInt64))) + ((J 33 2) * ((vM (cnJ J) x y 2).toInt64))) + ((J 33 4) * ((vM (cnJ J) x y 4).toInt64))) + ((J 33 5) * ((vM (cnJ J) x y 5).toInt64))) + ((J 33 6) * ((vM (cnJ J) x y 6).toInt64)))), (11, .int (nI (2 * (14 * min (x + 3) 13 + min y 13) + 0))), (10, .int (nI 6)), (0, .ref 34), (1, .ref 33), (2, .int (nI x)), (3, .int (nI y)), (4, .int (nI 0))]) dX7_chanceAt_127 rfl (by decide) (by decide) rfl ?_
      refine V_goto (tgt := 35) dX7_chanceAt_130 rfl ?_
      refine V_iload dX7_chanceAt_35 rfl ?_
      refine V_iconst (v := nI 3) dX7_chanceAt_37 rfl ?_
      refine V_icmp_gt (tgt := 133) dX7_chanceAt_38 rfl (fun _ => ?_) (fun h => absurd h (by decide))
      refine V_lload dX7_chanceAt_133 rfl ?_
      refine V_lconst (v := 0) dX7_chanceAt_135 rfl ?_
      refine V_lcmp dX7_chanceAt_136 ?_
      refine V_if_ne (tgt := 145) dX7_chanceAt_137 rfl (fun h137 => ?_) (fun h137 => ?_)
      · skip
        refine V_lload dX7_chanceAt_145 rfl ?_
        refine V_lload dX7_chanceAt_147 rfl ?_
        refine V_ldiv dX7_chanceAt_149 (fun h => h137 (wl_eq.mpr h)) ?_
        refine V_l2i dX7_chanceAt_150 ?_
        exact V_iret ⟨Or.inl rfl, dX7_chanceAt_151⟩ ⟨Nat.le_of_ble_eq_true rfl, Nat.le_of_ble_eq_true rfl⟩ ⟨rfl, congrArg (fun z => some (Value.int z)) (by rw [wM_r (by omega) (by omega)]; exact (if_neg (fun h => h137 (wl_eq.mpr h))).symm), rfl, rfl⟩
      · skip
        refine V_ldc dX7_chanceAt_140 qX7_40 ?_
        refine V_eqI (y := nI 500000) rfl ?_
        refine V_goto (tgt := 151) dX7_chanceAt_142 rfl ?_
        exact V_iret ⟨Or.inl rfl, dX7_chanceAt_151⟩ ⟨Nat.le_of_ble_eq_true rfl, Nat.le_of_ble_eq_true rfl⟩ ⟨rfl, congrArg (fun z => some (Value.int z)) (by rw [wM_r (by omega) (by omega)]; exact (if_pos (wl_eq.mp h137)).symm), rfl, rfl⟩
    · skip
      refine V_iload_n dX7_chanceAt_12 rfl ?_
      refine V_bipush (v := nI 13) dX7_chanceAt_13 rfl ?_
      refine V_icmp_ltN (tgt := 23) dX7_chanceAt_15 rfl (by omega) (by omega) (fun h15 => ?_) (fun h15 => ?_)
      · skip
        refine V_iconst (v := nI 0) dX7_chanceAt_23 rfl ?_
        exact V_iret ⟨Or.inl rfl, dX7_chanceAt_24⟩ ⟨Nat.le_of_ble_eq_true rfl, Nat.le_of_ble_eq_true rfl⟩ ⟨rfl, congrArg (fun z => some (Value.int z)) (by first | exact (wM_y (by omega) (by omega)).symm | (exfalso; omega)), rfl, rfl⟩
      · skip
        refine V_ldc dX7_chanceAt_18 qX7_37 ?_
        refine V_eqI (y := nI 1000000) rfl ?_
        refine V_goto (tgt := 24) dX7_chanceAt_20 rfl ?_
        exact V_iret ⟨Or.inl rfl, dX7_chanceAt_24⟩ ⟨Nat.le_of_ble_eq_true rfl, Nat.le_of_ble_eq_true rfl⟩ ⟨rfl, congrArg (fun z => some (Value.int z)) (wM_13 (by omega)).symm, rfl, rfl⟩

set_option maxRecDepth 100000 in
set_option maxHeartbeats 4000000 in
theorem c_chanceAt1 {G : zG} {I : zI} {J : zJ} {x y : Nat} (hx : x ≤ 13) (hy : y ≤ 13) (hme : ∀ x' y' g, x' ≤ 13 → y' ≤ 13 → g ≤ 1 → (x < x' ∧ y = y' ∨ x = x' ∧ y < y') → I 35 (2 * (14 * x' + y') + g) = wM (cnJ J) x' y' g) : zK G mX7_chanceAt 2 [.ref 34, .ref 33, .int (nI x), .int (nI y), .int (nI 1)] zsh I J (zA0 (.int (wM (cnJ J) x y 1)) I J) := by
  refine zK_of kX7_chanceAt.2.2.2.2.1 (Nat.le_of_ble_eq_true rfl) ?_
  show V G mX7_chanceAt 2 _ 0 [(0, .ref 34), (1, .ref 33), (2, .int (nI x)), (3, .int (nI y)), (4, .int (nI 1))] [] (0, 0) zsh I J
  refine V_iload_n dX7_chanceAt_0 rfl ?_
  refine V_bipush (v := nI 13) dX7_chanceAt_1 rfl ?_
  refine V_icmp_geN (tgt := 12) dX7_chanceAt_3 rfl (by omega) (by omega) (fun h3 => ?_) (fun h3 => ?_)
  · skip
    refine V_iload_n dX7_chanceAt_12 rfl ?_
    refine V_bipush (v := nI 13) dX7_chanceAt_13 rfl ?_
    refine V_icmp_ltN (tgt := 23) dX7_chanceAt_15 rfl (by omega) (by omega) (fun h15 => ?_) (fun h15 => ?_)
    · skip
      refine V_iconst (v := nI 0) dX7_chanceAt_23 rfl ?_
      exact V_iret ⟨Or.inl rfl, dX7_chanceAt_24⟩ ⟨Nat.le_of_ble_eq_true rfl, Nat.le_of_ble_eq_true rfl⟩ ⟨rfl, congrArg (fun z => some (Value.int z)) (by first | exact (wM_y (by omega) (by omega)).symm | (exfalso; omega)), rfl, rfl⟩
    · skip
      refine V_ldc dX7_chanceAt_18 qX7_37 ?_
      refine V_eqI (y := nI 1000000) rfl ?_
      refine V_goto (tgt := 24) dX7_chanceAt_20 rfl ?_
      exact V_iret ⟨Or.inl rfl, dX7_chanceAt_24⟩ ⟨Nat.le_of_ble_eq_true rfl, Nat.le_of_ble_eq_true rfl⟩ ⟨rfl, congrArg (fun z => some (Value.int z)) (wM_13 (by omega)).symm, rfl, rfl⟩
  · skip
    refine V_iload_n dX7_chanceAt_6 rfl ?_
    refine V_bipush (v := nI 13) dX7_chanceAt_7 rfl ?_
    refine V_icmp_ltN (tgt := 25) dX7_chanceAt_9 rfl (by omega) (by omega) (fun h9 => ?_) (fun h9 => ?_)
    · skip
      refine V_lconst (v := 0) dX7_chanceAt_25 rfl ?_
      refine V_lstore (ls' := [(5, .long 0), (0, .ref 34), (1, .ref 33), (2, .int (nI x)), (3, .int (nI y)), (4, .int (nI 1))]) dX7_chanceAt_26 (by decide) rfl ?_
      refine V_lconst (v := 0) dX7_chanceAt_28 rfl ?_
      refine V_lstore (ls' := [(7, .long 0), (5, .long 0), (0, .ref 34), (1, .ref 33), (2, .int (nI x)), (3, .int (nI y)), (4, .int (nI 1))]) dX7_chanceAt_29 (by decide) rfl ?_
      refine V_bipush (v := (-3)) dX7_chanceAt_31 rfl ?_
      refine V_istore (ls' := [(9, .int (-3)), (7, .long 0), (5, .long 0), (0, .ref 34), (1, .ref 33), (2, .int (nI x)), (3, .int (nI y)), (4, .int (nI 1))]) dX7_chanceAt_33 (by decide) rfl ?_
      refine V_iload dX7_chanceAt_35 rfl ?_
      refine V_iconst (v := nI 3) dX7_chanceAt_37 rfl ?_
      refine V_icmp_gt (tgt := 133) dX7_chanceAt_38 rfl (fun h => absurd h (by decide)) (fun _ => ?_)
      refine V_iload dX7_chanceAt_41 rfl ?_
      refine V_bipush (v := nI 7) dX7_chanceAt_43 rfl ?_
      refine V_imulN dX7_chanceAt_45 ?_
      refine V_eqI (y := nI 7) rfl ?_
      refine V_iload dX7_chanceAt_46 rfl ?_
      refine V_iadd dX7_chanceAt_48 (V_eqI (y := nI 4) (by decide) ?_)
      refine V_iconst (v := nI 3) dX7_chanceAt_49 rfl ?_
      refine V_iaddN dX7_chanceAt_50 ?_
      refine V_eqI (y := nI 7) rfl ?_
      refine V_istore (ls' := [(10, .int (nI 7)), (9, .int (-3)), (7, .long 0), (5, .long 0), (0, .ref 34), (1, .ref 33), (2, .int (nI x)), (3, .int (nI y)), (4, .int (nI 1))]) dX7_chanceAt_51 (by decide) rfl ?_
      refine V_iload dX7_chanceAt_53 rfl ?_
      refine V_if_eq (tgt := 127) dX7_chanceAt_55 rfl (fun h => absurd h (by decide)) (fun _ => ?_)
      refine V_iload dX7_chanceAt_58 rfl ?_
      refine V_if_lt (tgt := 127) dX7_chanceAt_60 rfl (fun h => absurd h (by decide)) (fun _ => ?_)
      refine V_iload dX7_chanceAt_63 rfl ?_
      refine V_aload_n dX7_chanceAt_65 rfl ?_
      refine V_alen (v := nI 14) dX7_chanceAt_66 ⟨Nat.le_of_ble_eq_true rfl, Nat.le_of_ble_eq_true rfl⟩ rfl (by decide) rfl ?_
      refine V_icmp_ge (tgt := 127) dX7_chanceAt_67 rfl (fun h => absurd h (by decide)) (fun _ => ?_)
      refine V_iload dX7_chanceAt_70 rfl ?_
      refine V_if_le (tgt := 87) dX7_chanceAt_72 rfl (fun _ => ?_) (fun h => absurd h (by decide))
      refine V_iload_n dX7_chanceAt_87 rfl ?_
      refine V_iload_n dX7_chanceAt_88 rfl ?_
      refine V_iload dX7_chanceAt_89 rfl ?_
      refine V_isub dX7_chanceAt_91 (V_eqI (y := nI (y + 3)) (nI_subn y 3) ?_)
      refine V_iconst (v := nI 1) dX7_chanceAt_92 rfl ?_
      refine V_callS (As := [.int (nI x), .int (nI (y + 3)), .int (nI 1)]) (st := []) dX7_chanceAt_93 kX7_spotOf lX7_23 (by decide) rfl rfl (Nat.le_of_ble_eq_true rfl) ⟨Nat.le_of_ble_eq_true rfl, Nat.le_of_ble_eq_true rfl⟩ (c_spotOf7 (by omega) (by omega)) ?_
      rintro _ _ _ _ ⟨rfl, rfl, rfl, rfl⟩
      refine V_istore (ls' := [(11, .int (nI (2 * (14 * min x 13 + min (y + 3) 13) + 1))), (10, .int (nI 7)), (9, .int (-3)), (7, .long 0), (5, .long 0), (0, .ref 34), (1, .ref 33), (2, .int (nI x)), (3, .int (nI y)), (4, .int (nI 1))]) dX7_chanceAt_96 (by decide) rfl ?_
      refine V_lload dX7_chanceAt_98 rfl ?_
      refine V_aload_n dX7_chanceAt_100 rfl ?_
      refine V_iload dX7_chanceAt_101 rfl ?_
      refine V_laldN (k := 7) dX7_chanceAt_103 ⟨Nat.le_of_ble_eq_true rfl, Nat.le_of_ble_eq_true rfl⟩ rfl (by decide) (by omega) ?_
      refine V_aload_n dX7_chanceAt_104 rfl ?_
      refine V_getR (b := 35) dX7_chanceAt_105 fX7_11 ⟨Nat.le_of_ble_eq_true rfl, Nat.le_of_ble_eq_true rfl⟩ rfl rfl rfl ?_
      refine V_iload dX7_chanceAt_108 rfl ?_
      refine V_callS (As := [.ref 35, .int (nI (2 * (14 * min x 13 + min (y + 3) 13) + 1))]) (st := [.long (J 33 7), .long 0]) dX7_chanceAt_110 kX11_at lX7_27 (by decide) rfl rfl (Nat.le_of_ble_eq_true rfl) ⟨Nat.le_of_ble_eq_true rfl, Nat.le_of_ble_eq_true rfl⟩ (c_at (a := 35) (n := 392) ⟨Nat.le_of_ble_eq_true rfl, Nat.le_of_ble_eq_true rfl⟩ rfl (by decide) (by omega)) ?_
      rintro _ _ _ _ ⟨rfl, rfl, rfl, rfl⟩
      refine V_eqI (y := vM (cnJ J) x y 0) (by rw [show min x 13 = x by omega, hme x (min (y + 3) 13) 1 (by omega) (by omega) (by omega) (by omega)]; rfl) ?_
      refine V_i2l dX7_chanceAt_113 ?_
      refine V_lmul dX7_chanceAt_114 ?_
      refine V_ladd dX7_chanceAt_115 ?_
      refine V_lstore (ls' := [(5, .long (0 + ((J 33 7) * ((vM (cnJ J) x y 0).toInt64)))), (11, .int (nI (2 * (14 * min x 13 + min (y + 3) 13) + 1))), (10, .int (nI 7)), (9, .int (-3)), (7, .long 0), (0, .ref 34), (1, .ref 33), (2, .int (nI x)), (3, .int (nI y)), (4, .int (nI 1))]) dX7_chanceAt_116 (by decide) rfl ?_
      refine V_lload dX7_chanceAt_118 rfl ?_
      refine V_aload_n dX7_chanceAt_120 rfl ?_
      refine V_iload dX7_chanceAt_121 rfl ?_
      refine V_laldN (k := 7) dX7_chanceAt_123 ⟨Nat.le_of_ble_eq_true rfl, Nat.le_of_ble_eq_true rfl⟩ rfl (by decide) (by omega) ?_
      refine V_ladd dX7_chanceAt_124 ?_
      refine V_lstore (ls' := [(7, .long (0 + (J 33 7))), (5, .long (0 + ((J 33 7) * ((vM (cnJ J) x y 0).toInt64)))), (11, .int (nI (2 * (14 * min x 13 + min (y + 3) 13) + 1))), (10, .int (nI 7)), (9, .int (-3)), (0, .ref 34), (1, .ref 33), (2, .int (nI x)), (3, .int (nI y)), (4, .int (nI 1))]) dX7_chanceAt_125 (by decide) rfl ?_
      refine V_iinc (v := (-2)) (ls' := [(9, .int (-2)), (7, .long (0 + (J 33 7))), (5, .long (0 + ((J 33 7) * ((vM (cnJ J) x y 0).toInt64)))), (11, .int (nI (2 * (14 * min x 13 + min (y + 3) 13) + 1))), (10, .int (nI 7)), (0, .ref 34), (1, .ref 33), (2, .int (nI x)), (3, .int (nI y)), (4, .int (nI 1))]) dX7_chanceAt_127 rfl (by decide) (by decide) rfl ?_
      refine V_goto (tgt := 35) dX7_chanceAt_130 rfl ?_
      refine V_iload dX7_chanceAt_35 rfl ?_
      refine V_iconst (v := nI 3) dX7_chanceAt_37 rfl ?_
      refine V_icmp_gt (tgt := 133) dX7_chanceAt_38 rfl (fun h => absurd h (by decide)) (fun _ => ?_)
      refine V_iload dX7_chanceAt_41 rfl ?_
      refine V_bipush (v := nI 7) dX7_chanceAt_43 rfl ?_
      refine V_imulN dX7_chanceAt_45 ?_
      refine V_eqI (y := nI 7) rfl ?_
      refine V_iload dX7_chanceAt_46 rfl ?_
      refine V_iadd dX7_chanceAt_48 (V_eqI (y := nI 5) (by decide) ?_)
      refine V_iconst (v := nI 3) dX7_chanceAt_49 rfl ?_
      refine V_iaddN dX7_chanceAt_50 ?_
      refine V_eqI (y := nI 8) rfl ?_
      refine V_istore (ls' := [(10, .int (nI 8)), (9, .int (-2)), (7, .long (0 + (J 33 7))), (5, .long (0 + ((J 33 7) * ((vM (cnJ J) x y 0).toInt64)))), (11, .int (nI (2 * (14 * min x 13 + min (y + 3) 13) + 1))), (0, .ref 34), (1, .ref 33), (2, .int (nI x)), (3, .int (nI y)), (4, .int (nI 1))]) dX7_chanceAt_51 (by decide) rfl ?_
      refine V_iload dX7_chanceAt_53 rfl ?_
      refine V_if_eq (tgt := 127) dX7_chanceAt_55 rfl (fun h => absurd h (by decide)) (fun _ => ?_)
      refine V_iload dX7_chanceAt_58 rfl ?_
      refine V_if_lt (tgt := 127) dX7_chanceAt_60 rfl (fun h => absurd h (by decide)) (fun _ => ?_)
      refine V_iload dX7_chanceAt_63 rfl ?_
      refine V_aload_n dX7_chanceAt_65 rfl ?_
      refine V_alen (v := nI 14) dX7_chanceAt_66 ⟨Nat.le_of_ble_eq_true rfl, Nat.le_of_ble_eq_true rfl⟩ rfl (by decide) rfl ?_
      refine V_icmp_ge (tgt := 127) dX7_chanceAt_67 rfl (fun h => absurd h (by decide)) (fun _ => ?_)
      refine V_iload dX7_chanceAt_70 rfl ?_
      refine V_if_le (tgt := 87) dX7_chanceAt_72 rfl (fun _ => ?_) (fun h => absurd h (by decide))
      refine V_iload_n dX7_chanceAt_87 rfl ?_
      refine V_iload_n dX7_chanceAt_88 rfl ?_
      refine V_iload dX7_chanceAt_89 rfl ?_
      refine V_isub dX7_chanceAt_91 (V_eqI (y := nI (y + 2)) (nI_subn y 2) ?_)
      refine V_iconst (v := nI 1) dX7_chanceAt_92 rfl ?_
      refine V_callS (As := [.int (nI x), .int (nI (y + 2)), .int (nI 1)]) (st := []) dX7_chanceAt_93 kX7_spotOf lX7_23 (by decide) rfl rfl (Nat.le_of_ble_eq_true rfl) ⟨Nat.le_of_ble_eq_true rfl, Nat.le_of_ble_eq_true rfl⟩ (c_spotOf7 (by omega) (by omega)) ?_
      rintro _ _ _ _ ⟨rfl, rfl, rfl, rfl⟩
      refine V_istore (ls' := [(11, .int (nI (2 * (14 * min x 13 + min (y + 2) 13) + 1))), (10, .int (nI 8)), (9, .int (-2)), (7, .long (0 + (J 33 7))), (5, .long (0 + ((J 33 7) * ((vM (cnJ J) x y 0).toInt64)))), (0, .ref 34), (1, .ref 33), (2, .int (nI x)), (3, .int (nI y)), (4, .int (nI 1))]) dX7_chanceAt_96 (by decide) rfl ?_
      refine V_lload dX7_chanceAt_98 rfl ?_
      refine V_aload_n dX7_chanceAt_100 rfl ?_
      refine V_iload dX7_chanceAt_101 rfl ?_
      refine V_laldN (k := 8) dX7_chanceAt_103 ⟨Nat.le_of_ble_eq_true rfl, Nat.le_of_ble_eq_true rfl⟩ rfl (by decide) (by omega) ?_
      refine V_aload_n dX7_chanceAt_104 rfl ?_
      refine V_getR (b := 35) dX7_chanceAt_105 fX7_11 ⟨Nat.le_of_ble_eq_true rfl, Nat.le_of_ble_eq_true rfl⟩ rfl rfl rfl ?_
      refine V_iload dX7_chanceAt_108 rfl ?_
      refine V_callS (As := [.ref 35, .int (nI (2 * (14 * min x 13 + min (y + 2) 13) + 1))]) (st := [.long (J 33 8), .long (0 + ((J 33 7) * ((vM (cnJ J) x y 0).toInt64)))]) dX7_chanceAt_110 kX11_at lX7_27 (by decide) rfl rfl (Nat.le_of_ble_eq_true rfl) ⟨Nat.le_of_ble_eq_true rfl, Nat.le_of_ble_eq_true rfl⟩ (c_at (a := 35) (n := 392) ⟨Nat.le_of_ble_eq_true rfl, Nat.le_of_ble_eq_true rfl⟩ rfl (by decide) (by omega)) ?_
      rintro _ _ _ _ ⟨rfl, rfl, rfl, rfl⟩
      refine V_eqI (y := vM (cnJ J) x y 1) (by rw [show min x 13 = x by omega, hme x (min (y + 2) 13) 1 (by omega) (by omega) (by omega) (by omega)]; rfl) ?_
      refine V_i2l dX7_chanceAt_113 ?_
      refine V_lmul dX7_chanceAt_114 ?_
      refine V_ladd dX7_chanceAt_115 ?_
      refine V_lstore (ls' := [(5, .long ((0 + ((J 33 7) * ((vM (cnJ J) x y 0).toInt64))) + ((J 33 8) * ((vM (cnJ J) x y 1).toInt64)))), (11, .int (nI (2 * (14 * min x 13 + min (y + 2) 13) + 1))), (10, .int (nI 8)), (9, .int (-2)), (7, .long (0 + (J 33 7))), (0, .ref 34), (1, .ref 33), (2, .int (nI x)), (3, .int (nI y)), (4, .int (nI 1))]) dX7_chanceAt_116 (by decide) rfl ?_
      refine V_lload dX7_chanceAt_118 rfl ?_
      refine V_aload_n dX7_chanceAt_120 rfl ?_
      refine V_iload dX7_chanceAt_121 rfl ?_
      refine V_laldN (k := 8) dX7_chanceAt_123 ⟨Nat.le_of_ble_eq_true rfl, Nat.le_of_ble_eq_true rfl⟩ rfl (by decide) (by omega) ?_
      refine V_ladd dX7_chanceAt_124 ?_
      refine V_lstore (ls' := [(7, .long ((0 + (J 33 7)) + (J 33 8))), (5, .long ((0 + ((J 33 7) * ((vM (cnJ J) x y 0).toInt64))) + ((J 33 8) * ((vM (cnJ J) x y 1).toInt64)))), (11, .int (nI (2 * (14 * min x 13 + min (y + 2) 13) + 1))), (10, .int (nI 8)), (9, .int (-2)), (0, .ref 34), (1, .ref 33), (2, .int (nI x)), (3, .int (nI y)), (4, .int (nI 1))]) dX7_chanceAt_125 (by decide) rfl ?_
      refine V_iinc (v := (-1)) (ls' := [(9, .int (-1)), (7, .long ((0 + (J 33 7)) + (J 33 8))), (5, .long ((0 + ((J 33 7) * ((vM (cnJ J) x y 0).toInt64))) + ((J 33 8) * ((vM (cnJ J) x y 1).toInt64)))), (11, .int (nI (2 * (14 * min x 13 + min (y + 2) 13) + 1))), (10, .int (nI 8)), (0, .ref 34), (1, .ref 33), (2, .int (nI x)), (3, .int (nI y)), (4, .int (nI 1))]) dX7_chanceAt_127 rfl (by decide) (by decide) rfl ?_
      refine V_goto (tgt := 35) dX7_chanceAt_130 rfl ?_
      refine V_iload dX7_chanceAt_35 rfl ?_
      refine V_iconst (v := nI 3) dX7_chanceAt_37 rfl ?_
      refine V_icmp_gt (tgt := 133) dX7_chanceAt_38 rfl (fun h => absurd h (by decide)) (fun _ => ?_)
      refine V_iload dX7_chanceAt_41 rfl ?_
      refine V_bipush (v := nI 7) dX7_chanceAt_43 rfl ?_
      refine V_imulN dX7_chanceAt_45 ?_
      refine V_eqI (y := nI 7) rfl ?_
      refine V_iload dX7_chanceAt_46 rfl ?_
      refine V_iadd dX7_chanceAt_48 (V_eqI (y := nI 6) (by decide) ?_)
      refine V_iconst (v := nI 3) dX7_chanceAt_49 rfl ?_
      refine V_iaddN dX7_chanceAt_50 ?_
      refine V_eqI (y := nI 9) rfl ?_
      refine V_istore (ls' := [(10, .int (nI 9)), (9, .int (-1)), (7, .long ((0 + (J 33 7)) + (J 33 8))), (5, .long ((0 + ((J 33 7) * ((vM (cnJ J) x y 0).toInt64))) + ((J 33 8) * ((vM (cnJ J) x y 1).toInt64)))), (11, .int (nI (2 * (14 * min x 13 + min (y + 2) 13) + 1))), (0, .ref 34), (1, .ref 33), (2, .int (nI x)), (3, .int (nI y)), (4, .int (nI 1))]) dX7_chanceAt_51 (by decide) rfl ?_
      refine V_iload dX7_chanceAt_53 rfl ?_
      refine V_if_eq (tgt := 127) dX7_chanceAt_55 rfl (fun h => absurd h (by decide)) (fun _ => ?_)
      refine V_iload dX7_chanceAt_58 rfl ?_
      refine V_if_lt (tgt := 127) dX7_chanceAt_60 rfl (fun h => absurd h (by decide)) (fun _ => ?_)
      refine V_iload dX7_chanceAt_63 rfl ?_
      refine V_aload_n dX7_chanceAt_65 rfl ?_
      refine V_alen (v := nI 14) dX7_chanceAt_66 ⟨Nat.le_of_ble_eq_true rfl, Nat.le_of_ble_eq_true rfl⟩ rfl (by decide) rfl ?_
      refine V_icmp_ge (tgt := 127) dX7_chanceAt_67 rfl (fun h => absurd h (by decide)) (fun _ => ?_)
      refine V_iload dX7_chanceAt_70 rfl ?_
      refine V_if_le (tgt := 87) dX7_chanceAt_72 rfl (fun _ => ?_) (fun h => absurd h (by decide))
      refine V_iload_n dX7_chanceAt_87 rfl ?_
      refine V_iload_n dX7_chanceAt_88 rfl ?_
      refine V_iload dX7_chanceAt_89 rfl ?_
      refine V_isub dX7_chanceAt_91 (V_eqI (y := nI (y + 1)) (nI_subn y 1) ?_)
      refine V_iconst (v := nI 1) dX7_chanceAt_92 rfl ?_
      refine V_callS (As := [.int (nI x), .int (nI (y + 1)), .int (nI 1)]) (st := []) dX7_chanceAt_93 kX7_spotOf lX7_23 (by decide) rfl rfl (Nat.le_of_ble_eq_true rfl) ⟨Nat.le_of_ble_eq_true rfl, Nat.le_of_ble_eq_true rfl⟩ (c_spotOf7 (by omega) (by omega)) ?_
      rintro _ _ _ _ ⟨rfl, rfl, rfl, rfl⟩
      refine V_istore (ls' := [(11, .int (nI (2 * (14 * min x 13 + min (y + 1) 13) + 1))), (10, .int (nI 9)), (9, .int (-1)), (7, .long ((0 + (J 33 7)) + (J 33 8))), (5, .long ((0 + ((J 33 7) * ((vM (cnJ J) x y 0).toInt64))) + ((J 33 8) * ((vM (cnJ J) x y 1).toInt64)))), (0, .ref 34), (1, .ref 33), (2, .int (nI x)), (3, .int (nI y)), (4, .int (nI 1))]) dX7_chanceAt_96 (by decide) rfl ?_
      refine V_lload dX7_chanceAt_98 rfl ?_
      refine V_aload_n dX7_chanceAt_100 rfl ?_
      refine V_iload dX7_chanceAt_101 rfl ?_
      refine V_laldN (k := 9) dX7_chanceAt_103 ⟨Nat.le_of_ble_eq_true rfl, Nat.le_of_ble_eq_true rfl⟩ rfl (by decide) (by omega) ?_
      refine V_aload_n dX7_chanceAt_104 rfl ?_
      refine V_getR (b := 35) dX7_chanceAt_105 fX7_11 ⟨Nat.le_of_ble_eq_true rfl, Nat.le_of_ble_eq_true rfl⟩ rfl rfl rfl ?_
      refine V_iload dX7_chanceAt_108 rfl ?_
      refine V_callS (As := [.ref 35, .int (nI (2 * (14 * min x 13 + min (y + 1) 13) + 1))]) (st := [.long (J 33 9), .long ((0 + ((J 33 7) * ((vM (cnJ J) x y 0).toInt64))) + ((J 33 8) * ((vM (cnJ J) x y 1).toInt64)))]) dX7_chanceAt_110 kX11_at lX7_27 (by decide) rfl rfl (Nat.le_of_ble_eq_true rfl) ⟨Nat.le_of_ble_eq_true rfl, Nat.le_of_ble_eq_true rfl⟩ (c_at (a := 35) (n := 392) ⟨Nat.le_of_ble_eq_true rfl, Nat.le_of_ble_eq_true rfl⟩ rfl (by decide) (by omega)) ?_
      rintro _ _ _ _ ⟨rfl, rfl, rfl, rfl⟩
      refine V_eqI (y := vM (cnJ J) x y 2) (by rw [show min x 13 = x by omega, hme x (min (y + 1) 13) 1 (by omega) (by omega) (by omega) (by omega)]; rfl) ?_
      refine V_i2l dX7_chanceAt_113 ?_
      refine V_lmul dX7_chanceAt_114 ?_
      refine V_ladd dX7_chanceAt_115 ?_
      refine V_lstore (ls' := [(5, .long (((0 + ((J 33 7) * ((vM (cnJ J) x y 0).toInt64))) + ((J 33 8) * ((vM (cnJ J) x y 1).toInt64))) + ((J 33 9) * ((vM (cnJ J) x y 2).toInt64)))), (11, .int (nI (2 * (14 * min x 13 + min (y + 1) 13) + 1))), (10, .int (nI 9)), (9, .int (-1)), (7, .long ((0 + (J 33 7)) + (J 33 8))), (0, .ref 34), (1, .ref 33), (2, .int (nI x)), (3, .int (nI y)), (4, .int (nI 1))]) dX7_chanceAt_116 (by decide) rfl ?_
      refine V_lload dX7_chanceAt_118 rfl ?_
      refine V_aload_n dX7_chanceAt_120 rfl ?_
      refine V_iload dX7_chanceAt_121 rfl ?_
      refine V_laldN (k := 9) dX7_chanceAt_123 ⟨Nat.le_of_ble_eq_true rfl, Nat.le_of_ble_eq_true rfl⟩ rfl (by decide) (by omega) ?_
      refine V_ladd dX7_chanceAt_124 ?_
      refine V_lstore (ls' := [(7, .long (((0 + (J 33 7)) + (J 33 8)) + (J 33 9))), (5, .long (((0 + ((J 33 7) * ((vM (cnJ J) x y 0).toInt64))) + ((J 33 8) * ((vM (cnJ J) x y 1).toInt64))) + ((J 33 9) * ((vM (cnJ J) x y 2).toInt64)))), (11, .int (nI (2 * (14 * min x 13 + min (y + 1) 13) + 1))), (10, .int (nI 9)), (9, .int (-1)), (0, .ref 34), (1, .ref 33), (2, .int (nI x)), (3, .int (nI y)), (4, .int (nI 1))]) dX7_chanceAt_125 (by decide) rfl ?_
      refine V_iinc (v := nI 0) (ls' := [(9, .int (nI 0)), (7, .long (((0 + (J 33 7)) + (J 33 8)) + (J 33 9))), (5, .long (((0 + ((J 33 7) * ((vM (cnJ J) x y 0).toInt64))) + ((J 33 8) * ((vM (cnJ J) x y 1).toInt64))) + ((J 33 9) * ((vM (cnJ J) x y 2).toInt64)))), (11, .int (nI (2 * (14 * min x 13 + min (y + 1) 13) + 1))), (10, .int (nI 9)), (0, .ref 34), (1, .ref 33), (2, .int (nI x)), (3, .int (nI y)), (4, .int (nI 1))]) dX7_chanceAt_127 rfl (by decide) (by decide) rfl ?_
      refine V_goto (tgt := 35) dX7_chanceAt_130 rfl ?_
      refine V_iload dX7_chanceAt_35 rfl ?_
      refine V_iconst (v := nI 3) dX7_chanceAt_37 rfl ?_
      refine V_icmp_gt (tgt := 133) dX7_chanceAt_38 rfl (fun h => absurd h (by decide)) (fun _ => ?_)
      refine V_iload dX7_chanceAt_41 rfl ?_
      refine V_bipush (v := nI 7) dX7_chanceAt_43 rfl ?_
      refine V_imulN dX7_chanceAt_45 ?_
      refine V_eqI (y := nI 7) rfl ?_
      refine V_iload dX7_chanceAt_46 rfl ?_
      refine V_iaddN dX7_chanceAt_48 ?_
      refine V_eqI (y := nI 7) rfl ?_
      refine V_iconst (v := nI 3) dX7_chanceAt_49 rfl ?_
      refine V_iaddN dX7_chanceAt_50 ?_
      refine V_eqI (y := nI 10) rfl ?_
      refine V_istore (ls' := [(10, .int (nI 10)), (9, .int (nI 0)), (7, .long (((0 + (J 33 7)) + (J 33 8)) + (J 33 9))), (5, .long (((0 + ((J 33 7) * ((vM (cnJ J) x y 0).toInt64))) + ((J 33 8) * ((vM (cnJ J) x y 1).toInt64))) + ((J 33 9) * ((vM (cnJ J) x y 2).toInt64)))), (11, .int (nI (2 * (14 * min x 13 + min (y + 1) 13) + 1))), (0, .ref 34), (1, .ref 33), (2, .int (nI x)), (3, .int (nI y)), (4, .int (nI 1))]) dX7_chanceAt_51 (by decide) rfl ?_
      refine V_iload dX7_chanceAt_53 rfl ?_
      refine V_if_eq (tgt := 127) dX7_chanceAt_55 rfl (fun _ => ?_) (fun h => absurd h (by decide))
      refine V_iinc (v := nI 1) (ls' := [(9, .int (nI 1)), (10, .int (nI 10)), (7, .long (((0 + (J 33 7)) + (J 33 8)) + (J 33 9))), (5, .long (((0 + ((J 33 7) * ((vM (cnJ J) x y 0).toInt64))) + ((J 33 8) * ((vM (cnJ J) x y 1).toInt64))) + ((J 33 9) * ((vM (cnJ J) x y 2).toInt64)))), (11, .int (nI (2 * (14 * min x 13 + min (y + 1) 13) + 1))), (0, .ref 34), (1, .ref 33), (2, .int (nI x)), (3, .int (nI y)), (4, .int (nI 1))]) dX7_chanceAt_127 rfl (by decide) (by decide) rfl ?_
      refine V_goto (tgt := 35) dX7_chanceAt_130 rfl ?_
      refine V_iload dX7_chanceAt_35 rfl ?_
      refine V_iconst (v := nI 3) dX7_chanceAt_37 rfl ?_
      refine V_icmp_gt (tgt := 133) dX7_chanceAt_38 rfl (fun h => absurd h (by decide)) (fun _ => ?_)
      refine V_iload dX7_chanceAt_41 rfl ?_
      refine V_bipush (v := nI 7) dX7_chanceAt_43 rfl ?_
      refine V_imulN dX7_chanceAt_45 ?_
      refine V_eqI (y := nI 7) rfl ?_
      refine V_iload dX7_chanceAt_46 rfl ?_
      refine V_iaddN dX7_chanceAt_48 ?_
      refine V_eqI (y := nI 8) rfl ?_
      refine V_iconst (v := nI 3) dX7_chanceAt_49 rfl ?_
      refine V_iaddN dX7_chanceAt_50 ?_
      refine V_eqI (y := nI 11) rfl ?_
      refine V_istore (ls' := [(10, .int (nI 11)), (9, .int (nI 1)), (7, .long (((0 + (J 33 7)) + (J 33 8)) + (J 33 9))), (5, .long (((0 + ((J 33 7) * ((vM (cnJ J) x y 0).toInt64))) + ((J 33 8) * ((vM (cnJ J) x y 1).toInt64))) + ((J 33 9) * ((vM (cnJ J) x y 2).toInt64)))), (11, .int (nI (2 * (14 * min x 13 + min (y + 1) 13) + 1))), (0, .ref 34), (1, .ref 33), (2, .int (nI x)), (3, .int (nI y)), (4, .int (nI 1))]) dX7_chanceAt_51 (by decide) rfl ?_
      refine V_iload dX7_chanceAt_53 rfl ?_
      refine V_if_eq (tgt := 127) dX7_chanceAt_55 rfl (fun h => absurd h (by decide)) (fun _ => ?_)
      refine V_iload dX7_chanceAt_58 rfl ?_
      refine V_if_lt (tgt := 127) dX7_chanceAt_60 rfl (fun h => absurd h (by decide)) (fun _ => ?_)
      refine V_iload dX7_chanceAt_63 rfl ?_
      refine V_aload_n dX7_chanceAt_65 rfl ?_
      refine V_alen (v := nI 14) dX7_chanceAt_66 ⟨Nat.le_of_ble_eq_true rfl, Nat.le_of_ble_eq_true rfl⟩ rfl (by decide) rfl ?_
      refine V_icmp_ge (tgt := 127) dX7_chanceAt_67 rfl (fun h => absurd h (by decide)) (fun _ => ?_)
      refine V_iload dX7_chanceAt_70 rfl ?_
      refine V_if_le (tgt := 87) dX7_chanceAt_72 rfl (fun h => absurd h (by decide)) (fun _ => ?_)
      refine V_iload_n dX7_chanceAt_75 rfl ?_
      refine V_iload dX7_chanceAt_76 rfl ?_
      refine V_iaddN dX7_chanceAt_78 ?_
      refine V_iload_n dX7_chanceAt_79 rfl ?_
      refine V_iconst (v := nI 0) dX7_chanceAt_80 rfl ?_
      refine V_callS (As := [.int (nI (x + 1)), .int (nI y), .int (nI 0)]) (st := []) dX7_chanceAt_81 kX7_spotOf lX7_23 (by decide) rfl rfl (Nat.le_of_ble_eq_true rfl) ⟨Nat.le_of_ble_eq_true rfl, Nat.le_of_ble_eq_true rfl⟩ (c_spotOf7 (by omega) (by omega)) ?_
      rintro _ _ _ _ ⟨rfl, rfl, rfl, rfl⟩
      refine V_goto (tgt := 96) dX7_chanceAt_84 rfl ?_
      refine V_istore (ls' := [(11, .int (nI (2 * (14 * min (x + 1) 13 + min y 13) + 0))), (10, .int (nI 11)), (9, .int (nI 1)), (7, .long (((0 + (J 33 7)) + (J 33 8)) + (J 33 9))), (5, .long (((0 + ((J 33 7) * ((vM (cnJ J) x y 0).toInt64))) + ((J 33 8) * ((vM (cnJ J) x y 1).toInt64))) + ((J 33 9) * ((vM (cnJ J) x y 2).toInt64)))), (0, .ref 34), (1, .ref 33), (2, .int (nI x)), (3, .int (nI y)), (4, .int (nI 1))]) dX7_chanceAt_96 (by decide) rfl ?_
      refine V_lload dX7_chanceAt_98 rfl ?_
      refine V_aload_n dX7_chanceAt_100 rfl ?_
      refine V_iload dX7_chanceAt_101 rfl ?_
      refine V_laldN (k := 11) dX7_chanceAt_103 ⟨Nat.le_of_ble_eq_true rfl, Nat.le_of_ble_eq_true rfl⟩ rfl (by decide) (by omega) ?_
      refine V_aload_n dX7_chanceAt_104 rfl ?_
      refine V_getR (b := 35) dX7_chanceAt_105 fX7_11 ⟨Nat.le_of_ble_eq_true rfl, Nat.le_of_ble_eq_true rfl⟩ rfl rfl rfl ?_
      refine V_iload dX7_chanceAt_108 rfl ?_
      refine V_callS (As := [.ref 35, .int (nI (2 * (14 * min (x + 1) 13 + min y 13) + 0))]) (st := [.long (J 33 11), .long (((0 + ((J 33 7) * ((vM (cnJ J) x y 0).toInt64))) + ((J 33 8) * ((vM (cnJ J) x y 1).toInt64))) + ((J 33 9) * ((vM (cnJ J) x y 2).toInt64)))]) dX7_chanceAt_110 kX11_at lX7_27 (by decide) rfl rfl (Nat.le_of_ble_eq_true rfl) ⟨Nat.le_of_ble_eq_true rfl, Nat.le_of_ble_eq_true rfl⟩ (c_at (a := 35) (n := 392) ⟨Nat.le_of_ble_eq_true rfl, Nat.le_of_ble_eq_true rfl⟩ rfl (by decide) (by omega)) ?_
      rintro _ _ _ _ ⟨rfl, rfl, rfl, rfl⟩
      refine V_eqI (y := vM (cnJ J) x y 4) (by rw [show min y 13 = y by omega, hme (min (x + 1) 13) y 0 (by omega) (by omega) (by omega) (by omega)]; rfl) ?_
      refine V_i2l dX7_chanceAt_113 ?_
      refine V_lmul dX7_chanceAt_114 ?_
      refine V_ladd dX7_chanceAt_115 ?_
      refine V_lstore (ls' := [(5, .long ((((0 + ((J 33 7) * ((vM (cnJ J) x y 0).toInt64))) + ((J 33 8) * ((vM (cnJ J) x y 1).toInt64))) + ((J 33 9) * ((vM (cnJ J) x y 2).toInt64))) + ((J 33 11) * ((vM (cnJ J) x y 4).toInt64)))), (11, .int (nI (2 * (14 * min (x + 1) 13 + min y 13) + 0))), (10, .int (nI 11)), (9, .int (nI 1)), (7, .long (((0 + (J 33 7)) + (J 33 8)) + (J 33 9))), (0, .ref 34), (1, .ref 33), (2, .int (nI x)), (3, .int (nI y)), (4, .int (nI 1))]) dX7_chanceAt_116 (by decide) rfl ?_
      refine V_lload dX7_chanceAt_118 rfl ?_
      refine V_aload_n dX7_chanceAt_120 rfl ?_
      refine V_iload dX7_chanceAt_121 rfl ?_
      refine V_laldN (k := 11) dX7_chanceAt_123 ⟨Nat.le_of_ble_eq_true rfl, Nat.le_of_ble_eq_true rfl⟩ rfl (by decide) (by omega) ?_
      refine V_ladd dX7_chanceAt_124 ?_
      refine V_lstore (ls' := [(7, .long ((((0 + (J 33 7)) + (J 33 8)) + (J 33 9)) + (J 33 11))), (5, .long ((((0 + ((J 33 7) * ((vM (cnJ J) x y 0).toInt64))) + ((J 33 8) * ((vM (cnJ J) x y 1).toInt64))) + ((J 33 9) * ((vM (cnJ J) x y 2).toInt64))) + ((J 33 11) * ((vM (cnJ J) x y 4).toInt64)))), (11, .int (nI (2 * (14 * min (x + 1) 13 + min y 13) + 0))), (10, .int (nI 11)), (9, .int (nI 1)), (0, .ref 34), (1, .ref 33), (2, .int (nI x)), (3, .int (nI y)), (4, .int (nI 1))]) dX7_chanceAt_125 (by decide) rfl ?_
      refine V_iinc (v := nI 2) (ls' := [(9, .int (nI 2)), (7, .long ((((0 + (J 33 7)) + (J 33 8)) + (J 33 9)) + (J 33 11))), (5, .long ((((0 + ((J 33 7) * ((vM (cnJ J) x y 0).toInt64))) + ((J 33 8) * ((vM (cnJ J) x y 1).toInt64))) + ((J 33 9) * ((vM (cnJ J) x y 2).toInt64))) + ((J 33 11) * ((vM (cnJ J) x y 4).toInt64)))), (11, .int (nI (2 * (14 * min (x + 1) 13 + min y 13) + 0))), (10, .int (nI 11)), (0, .ref 34), (1, .ref 33), (2, .int (nI x)), (3, .int (nI y)), (4, .int (nI 1))]) dX7_chanceAt_127 rfl (by decide) (by decide) rfl ?_
      refine V_goto (tgt := 35) dX7_chanceAt_130 rfl ?_
      refine V_iload dX7_chanceAt_35 rfl ?_
      refine V_iconst (v := nI 3) dX7_chanceAt_37 rfl ?_
      refine V_icmp_gt (tgt := 133) dX7_chanceAt_38 rfl (fun h => absurd h (by decide)) (fun _ => ?_)
      refine V_iload dX7_chanceAt_41 rfl ?_
      refine V_bipush (v := nI 7) dX7_chanceAt_43 rfl ?_
      refine V_imulN dX7_chanceAt_45 ?_
      refine V_eqI (y := nI 7) rfl ?_
      refine V_iload dX7_chanceAt_46 rfl ?_
      refine V_iaddN dX7_chanceAt_48 ?_
      refine V_eqI (y := nI 9) rfl ?_
      refine V_iconst (v := nI 3) dX7_chanceAt_49 rfl ?_
      refine V_iaddN dX7_chanceAt_50 ?_
      refine V_eqI (y := nI 12) rfl ?_
      refine V_istore (ls' := [(10, .int (nI 12)), (9, .int (nI 2)), (7, .long ((((0 + (J 33 7)) + (J 33 8)) + (J 33 9)) + (J 33 11))), (5, .long ((((0 + ((J 33 7) * ((vM (cnJ J) x y 0).toInt64))) + ((J 33 8) * ((vM (cnJ J) x y 1).toInt64))) + ((J 33 9) * ((vM (cnJ J) x y 2).toInt64))) + ((J 33 11) * ((vM (cnJ J) x y 4).toInt64)))), (11, .int (nI (2 * (14 * min (x + 1) 13 + min y 13) + 0))), (0, .ref 34), (1, .ref 33), (2, .int (nI x)), (3, .int (nI y)), (4, .int (nI 1))]) dX7_chanceAt_51 (by decide) rfl ?_
      refine V_iload dX7_chanceAt_53 rfl ?_
      refine V_if_eq (tgt := 127) dX7_chanceAt_55 rfl (fun h => absurd h (by decide)) (fun _ => ?_)
      refine V_iload dX7_chanceAt_58 rfl ?_
      refine V_if_lt (tgt := 127) dX7_chanceAt_60 rfl (fun h => absurd h (by decide)) (fun _ => ?_)
      refine V_iload dX7_chanceAt_63 rfl ?_
      refine V_aload_n dX7_chanceAt_65 rfl ?_
      refine V_alen (v := nI 14) dX7_chanceAt_66 ⟨Nat.le_of_ble_eq_true rfl, Nat.le_of_ble_eq_true rfl⟩ rfl (by decide) rfl ?_
      refine V_icmp_ge (tgt := 127) dX7_chanceAt_67 rfl (fun h => absurd h (by decide)) (fun _ => ?_)
      refine V_iload dX7_chanceAt_70 rfl ?_
      refine V_if_le (tgt := 87) dX7_chanceAt_72 rfl (fun h => absurd h (by decide)) (fun _ => ?_)
      refine V_iload_n dX7_chanceAt_75 rfl ?_
      refine V_iload dX7_chanceAt_76 rfl ?_
      refine V_iaddN dX7_chanceAt_78 ?_
      refine V_iload_n dX7_chanceAt_79 rfl ?_
      refine V_iconst (v := nI 0) dX7_chanceAt_80 rfl ?_
      refine V_callS (As := [.int (nI (x + 2)), .int (nI y), .int (nI 0)]) (st := []) dX7_chanceAt_81 kX7_spotOf lX7_23 (by decide) rfl rfl (Nat.le_of_ble_eq_true rfl) ⟨Nat.le_of_ble_eq_true rfl, Nat.le_of_ble_eq_true rfl⟩ (c_spotOf7 (by omega) (by omega)) ?_
      rintro _ _ _ _ ⟨rfl, rfl, rfl, rfl⟩
      refine V_goto (tgt := 96) dX7_chanceAt_84 rfl ?_
      refine V_istore (ls' := [(11, .int (nI (2 * (14 * min (x + 2) 13 + min y 13) + 0))), (10, .int (nI 12)), (9, .int (nI 2)), (7, .long ((((0 + (J 33 7)) + (J 33 8)) + (J 33 9)) + (J 33 11))), (5, .long ((((0 + ((J 33 7) * ((vM (cnJ J) x y 0).toInt64))) + ((J 33 8) * ((vM (cnJ J) x y 1).toInt64))) + ((J 33 9) * ((vM (cnJ J) x y 2).toInt64))) + ((J 33 11) * ((vM (cnJ J) x y 4).toInt64)))), (0, .ref 34), (1, .ref 33), (2, .int (nI x)), (3, .int (nI y)), (4, .int (nI 1))]) dX7_chanceAt_96 (by decide) rfl ?_
      refine V_lload dX7_chanceAt_98 rfl ?_
      refine V_aload_n dX7_chanceAt_100 rfl ?_
      refine V_iload dX7_chanceAt_101 rfl ?_
      refine V_laldN (k := 12) dX7_chanceAt_103 ⟨Nat.le_of_ble_eq_true rfl, Nat.le_of_ble_eq_true rfl⟩ rfl (by decide) (by omega) ?_
      refine V_aload_n dX7_chanceAt_104 rfl ?_
      refine V_getR (b := 35) dX7_chanceAt_105 fX7_11 ⟨Nat.le_of_ble_eq_true rfl, Nat.le_of_ble_eq_true rfl⟩ rfl rfl rfl ?_
      refine V_iload dX7_chanceAt_108 rfl ?_
      refine V_callS (As := [.ref 35, .int (nI (2 * (14 * min (x + 2) 13 + min y 13) + 0))]) (st := [.long (J 33 12), .long ((((0 + ((J 33 7) * ((vM (cnJ J) x y 0).toInt64))) + ((J 33 8) * ((vM (cnJ J) x y 1).toInt64))) + ((J 33 9) * ((vM (cnJ J) x y 2).toInt64))) + ((J 33 11) * ((vM (cnJ J) x y 4).toInt64)))]) dX7_chanceAt_110 kX11_at lX7_27 (by decide) rfl rfl (Nat.le_of_ble_eq_true rfl) ⟨Nat.le_of_ble_eq_true rfl, Nat.le_of_ble_eq_true rfl⟩ (c_at (a := 35) (n := 392) ⟨Nat.le_of_ble_eq_true rfl, Nat.le_of_ble_eq_true rfl⟩ rfl (by decide) (by omega)) ?_
      rintro _ _ _ _ ⟨rfl, rfl, rfl, rfl⟩
      refine V_eqI (y := vM (cnJ J) x y 5) (by rw [show min y 13 = y by omega, hme (min (x + 2) 13) y 0 (by omega) (by omega) (by omega) (by omega)]; rfl) ?_
      refine V_i2l dX7_chanceAt_113 ?_
      refine V_lmul dX7_chanceAt_114 ?_
      refine V_ladd dX7_chanceAt_115 ?_
      refine V_lstore (ls' := [(5, .long (((((0 + ((J 33 7) * ((vM (cnJ J) x y 0).toInt64))) + ((J 33 8) * ((vM (cnJ J) x y 1).toInt64))) + ((J 33 9) * ((vM (cnJ J) x y 2).toInt64))) + ((J 33 11) * ((vM (cnJ J) x y 4).toInt64))) + ((J 33 12) * ((vM (cnJ J) x y 5).toInt64)))), (11, .int (nI (2 * (14 * min (x + 2) 13 + min y 13) + 0))), (10, .int (nI 12)), (9, .int (nI 2)), (7, .long ((((0 + (J 33 7)) + (J 33 8)) + (J 33 9)) + (J 33 11))), (0, .ref 34), (1, .ref 33), (2, .int (nI x)), (3, .int (nI y)), (4, .int (nI 1))]) dX7_chanceAt_116 (by decide) rfl ?_
      refine V_lload dX7_chanceAt_118 rfl ?_
      refine V_aload_n dX7_chanceAt_120 rfl ?_
      refine V_iload dX7_chanceAt_121 rfl ?_
      refine V_laldN (k := 12) dX7_chanceAt_123 ⟨Nat.le_of_ble_eq_true rfl, Nat.le_of_ble_eq_true rfl⟩ rfl (by decide) (by omega) ?_
      refine V_ladd dX7_chanceAt_124 ?_
      refine V_lstore (ls' := [(7, .long (((((0 + (J 33 7)) + (J 33 8)) + (J 33 9)) + (J 33 11)) + (J 33 12))), (5, .long (((((0 + ((J 33 7) * ((vM (cnJ J) x y 0).toInt64))) + ((J 33 8) * ((vM (cnJ J) x y 1).toInt64))) + ((J 33 9) * ((vM (cnJ J) x y 2).toInt64))) + ((J 33 11) * ((vM (cnJ J) x y 4).toInt64))) + ((J 33 12) * ((vM (cnJ J) x y 5).toInt64)))), (11, .int (nI (2 * (14 * min (x + 2) 13 + min y 13) + 0))), (10, .int (nI 12)), (9, .int (nI 2)), (0, .ref 34), (1, .ref 33), (2, .int (nI x)), (3, .int (nI y)), (4, .int (nI 1))]) dX7_chanceAt_125 (by decide) rfl ?_
      refine V_iinc (v := nI 3) (ls' := [(9, .int (nI 3)), (7, .long (((((0 + (J 33 7)) + (J 33 8)) + (J 33 9)) + (J 33 11)) + (J 33 12))), (5, .long (((((0 + ((J 33 7) * ((vM (cnJ J) x y 0).toInt64))) + ((J 33 8) * ((vM (cnJ J) x y 1).toInt64))) + ((J 33 9) * ((vM (cnJ J) x y 2).toInt64))) + ((J 33 11) * ((vM (cnJ J) x y 4).toInt64))) + ((J 33 12) * ((vM (cnJ J) x y 5).toInt64)))), (11, .int (nI (2 * (14 * min (x + 2) 13 + min y 13) + 0))), (10, .int (nI 12)), (0, .ref 34), (1, .ref 33), (2, .int (nI x)), (3, .int (nI y)), (4, .int (nI 1))]) dX7_chanceAt_127 rfl (by decide) (by decide) rfl ?_
      refine V_goto (tgt := 35) dX7_chanceAt_130 rfl ?_
      refine V_iload dX7_chanceAt_35 rfl ?_
      refine V_iconst (v := nI 3) dX7_chanceAt_37 rfl ?_
      refine V_icmp_gt (tgt := 133) dX7_chanceAt_38 rfl (fun h => absurd h (by decide)) (fun _ => ?_)
      refine V_iload dX7_chanceAt_41 rfl ?_
      refine V_bipush (v := nI 7) dX7_chanceAt_43 rfl ?_
      refine V_imulN dX7_chanceAt_45 ?_
      refine V_eqI (y := nI 7) rfl ?_
      refine V_iload dX7_chanceAt_46 rfl ?_
      refine V_iaddN dX7_chanceAt_48 ?_
      refine V_eqI (y := nI 10) rfl ?_
      refine V_iconst (v := nI 3) dX7_chanceAt_49 rfl ?_
      refine V_iaddN dX7_chanceAt_50 ?_
      refine V_eqI (y := nI 13) rfl ?_
      refine V_istore (ls' := [(10, .int (nI 13)), (9, .int (nI 3)), (7, .long (((((0 + (J 33 7)) + (J 33 8)) + (J 33 9)) + (J 33 11)) + (J 33 12))), (5, .long (((((0 + ((J 33 7) * ((vM (cnJ J) x y 0).toInt64))) + ((J 33 8) * ((vM (cnJ J) x y 1).toInt64))) + ((J 33 9) * ((vM (cnJ J) x y 2).toInt64))) + ((J 33 11) * ((vM (cnJ J) x y 4).toInt64))) + ((J 33 12) * ((vM (cnJ J) x y 5).toInt64)))), (11, .int (nI (2 * (14 * min (x + 2) 13 + min y 13) + 0))), (0, .ref 34), (1, .ref 33), (2, .int (nI x)), (3, .int (nI y)), (4, .int (nI 1))]) dX7_chanceAt_51 (by decide) rfl ?_
      refine V_iload dX7_chanceAt_53 rfl ?_
      refine V_if_eq (tgt := 127) dX7_chanceAt_55 rfl (fun h => absurd h (by decide)) (fun _ => ?_)
      refine V_iload dX7_chanceAt_58 rfl ?_
      refine V_if_lt (tgt := 127) dX7_chanceAt_60 rfl (fun h => absurd h (by decide)) (fun _ => ?_)
      refine V_iload dX7_chanceAt_63 rfl ?_
      refine V_aload_n dX7_chanceAt_65 rfl ?_
      refine V_alen (v := nI 14) dX7_chanceAt_66 ⟨Nat.le_of_ble_eq_true rfl, Nat.le_of_ble_eq_true rfl⟩ rfl (by decide) rfl ?_
      refine V_icmp_ge (tgt := 127) dX7_chanceAt_67 rfl (fun h => absurd h (by decide)) (fun _ => ?_)
      refine V_iload dX7_chanceAt_70 rfl ?_
      refine V_if_le (tgt := 87) dX7_chanceAt_72 rfl (fun h => absurd h (by decide)) (fun _ => ?_)
      refine V_iload_n dX7_chanceAt_75 rfl ?_
      refine V_iload dX7_chanceAt_76 rfl ?_
      refine V_iaddN dX7_chanceAt_78 ?_
      refine V_iload_n dX7_chanceAt_79 rfl ?_
      refine V_iconst (v := nI 0) dX7_chanceAt_80 rfl ?_
      refine V_callS (As := [.int (nI (x + 3)), .int (nI y), .int (nI 0)]) (st := []) dX7_chanceAt_81 kX7_spotOf lX7_23 (by decide) rfl rfl (Nat.le_of_ble_eq_true rfl) ⟨Nat.le_of_ble_eq_true rfl, Nat.le_of_ble_eq_true rfl⟩ (c_spotOf7 (by omega) (by omega)) ?_
      rintro _ _ _ _ ⟨rfl, rfl, rfl, rfl⟩
      refine V_goto (tgt := 96) dX7_chanceAt_84 rfl ?_
      refine V_istore (ls' := [(11, .int (nI (2 * (14 * min (x + 3) 13 + min y 13) + 0))), (10, .int (nI 13)), (9, .int (nI 3)), (7, .long (((((0 + (J 33 7)) + (J 33 8)) + (J 33 9)) + (J 33 11)) + (J 33 12))), (5, .long (((((0 + ((J 33 7) * ((vM (cnJ J) x y 0).toInt64))) + ((J 33 8) * ((vM (cnJ J) x y 1).toInt64))) + ((J 33 9) * ((vM (cnJ J) x y 2).toInt64))) + ((J 33 11) * ((vM (cnJ J) x y 4).toInt64))) + ((J 33 12) * ((vM (cnJ J) x y 5).toInt64)))), (0, .ref 34), (1, .ref 33), (2, .int (nI x)), (3, .int (nI y)), (4, .int (nI 1))]) dX7_chanceAt_96 (by decide) rfl ?_
      refine V_lload dX7_chanceAt_98 rfl ?_
      refine V_aload_n dX7_chanceAt_100 rfl ?_
      refine V_iload dX7_chanceAt_101 rfl ?_
      refine V_laldN (k := 13) dX7_chanceAt_103 ⟨Nat.le_of_ble_eq_true rfl, Nat.le_of_ble_eq_true rfl⟩ rfl (by decide) (by omega) ?_
      refine V_aload_n dX7_chanceAt_104 rfl ?_
      refine V_getR (b := 35) dX7_chanceAt_105 fX7_11 ⟨Nat.le_of_ble_eq_true rfl, Nat.le_of_ble_eq_true rfl⟩ rfl rfl rfl ?_
      refine V_iload dX7_chanceAt_108 rfl ?_
      refine V_callS (As := [.ref 35, .int (nI (2 * (14 * min (x + 3) 13 + min y 13) + 0))]) (st := [.long (J 33 13), .long (((((0 + ((J 33 7) * ((vM (cnJ J) x y 0).toInt64))) + ((J 33 8) * ((vM (cnJ J) x y 1).toInt64))) + ((J 33 9) * ((vM (cnJ J) x y 2).toInt64))) + ((J 33 11) * ((vM (cnJ J) x y 4).toInt64))) + ((J 33 12) * ((vM (cnJ J) x y 5).toInt64)))]) dX7_chanceAt_110 kX11_at lX7_27 (by decide) rfl rfl (Nat.le_of_ble_eq_true rfl) ⟨Nat.le_of_ble_eq_true rfl, Nat.le_of_ble_eq_true rfl⟩ (c_at (a := 35) (n := 392) ⟨Nat.le_of_ble_eq_true rfl, Nat.le_of_ble_eq_true rfl⟩ rfl (by decide) (by omega)) ?_
      rintro _ _ _ _ ⟨rfl, rfl, rfl, rfl⟩
      refine V_eqI (y := vM (cnJ J) x y 6) (by rw [show min y 13 = y by omega, hme (min (x + 3) 13) y 0 (by omega) (by omega) (by omega) (by omega)]; rfl) ?_
      refine V_i2l dX7_chanceAt_113 ?_
      refine V_lmul dX7_chanceAt_114 ?_
      refine V_ladd dX7_chanceAt_115 ?_
      refine V_lstore (ls' := [(5, .long ((((((0 + ((J 33 7) * ((vM (cnJ J) x y 0).toInt64))) + ((J 33 8) * ((vM (cnJ J) x y 1).toInt64))) + ((J 33 9) * ((vM (cnJ J) x y 2).toInt64))) + ((J 33 11) * ((vM (cnJ J) x y 4).toInt64))) + ((J 33 12) * ((vM (cnJ J) x y 5).toInt64))) + ((J 33 13) * ((vM (cnJ J) x y 6).toInt64)))), (11, .int (nI (2 * (14 * min (x + 3) 13 + min y 13) + 0))), (10, .int (nI 13)), (9, .int (nI 3)), (7, .long (((((0 + (J 33 7)) + (J 33 8)) + (J 33 9)) + (J 33 11)) + (J 33 12))), (0, .ref 34), (1, .ref 33), (2, .int (nI x)), (3, .int (nI y)), (4, .int (nI 1))]) dX7_chanceAt_116 (by decide) rfl ?_
      refine V_lload dX7_chanceAt_118 rfl ?_
      refine V_aload_n dX7_chanceAt_120 rfl ?_
      refine V_iload dX7_chanceAt_121 rfl ?_
      refine V_laldN (k := 13) dX7_chanceAt_123 ⟨Nat.le_of_ble_eq_true rfl, Nat.le_of_ble_eq_true rfl⟩ rfl (by decide) (by omega) ?_
      refine V_ladd dX7_chanceAt_124 ?_
      refine V_lstore (ls' := [(7, .long ((((((0 + (J 33 7)) + (J 33 8)) + (J 33 9)) + (J 33 11)) + (J 33 12)) + (J 33 13))), (5, .long ((((((0 + ((J 33 7) * ((vM (cnJ J) x y 0).toInt64))) + ((J 33 8) * ((vM (cnJ J) x y 1).toInt64))) + ((J 33 9) * ((vM (cnJ J) x y 2).toInt64))) + ((J 33 11) * ((vM (cnJ J) x y 4).toInt64))) + ((J 33 12) * ((vM (cnJ J) x y 5).toInt64))) + ((J 33 13) * ((vM (cnJ J) x y 6).toInt64)))), (11, .int (nI (2 * (14 * min (x + 3) 13 + min y 13) + 0))), (10, .int (nI 13)), (9, .int (nI 3)), (0, .ref 34), (1, .ref 33), (2, .int (nI x)), (3, .int (nI y)), (4, .int (nI 1))]) dX7_chanceAt_125 (by decide) rfl ?_
      refine V_iinc (v := nI 4) (ls' := [(9, .int (nI 4)), (7, .long ((((((0 + (J 33 7)) + (J 33 8)) + (J 33 9)) + (J 33 11)) + (J 33 12)) + (J 33 13))), (5, .long ((((((0 + ((J 33 7) * ((vM (cnJ J) x y 0).toInt64))) + ((J 33 8) * ((vM (cnJ J) x y 1).toInt64))) + ((J 33 9) * ((vM (cnJ J) x y 2).toInt64))) + ((J 33 11) * ((vM (cnJ J) x y 4).toInt64))) + ((J 33 12) * ((vM (cnJ J) x y 5).toInt64))) + ((J 33 13) * ((vM (cnJ J) x y 6).toInt64)))), (11, .int (nI (2 * (14 * min (x + 3) 13 + min y 13) + 0))), (10, .int (nI 13)), (0, .ref 34), (1, .ref 33), (2, .int (nI x)), (3, .int (nI y)), (4, .int (nI 1))]) dX7_chanceAt_127 rfl (by decide) (by decide) rfl ?_
      refine V_goto (tgt := 35) dX7_chanceAt_130 rfl ?_
      refine V_iload dX7_chanceAt_35 rfl ?_
      refine V_iconst (v := nI 3) dX7_chanceAt_37 rfl ?_
      refine V_icmp_gt (tgt := 133) dX7_chanceAt_38 rfl (fun _ => ?_) (fun h => absurd h (by decide))
      refine V_lload dX7_chanceAt_133 rfl ?_
      refine V_lconst (v := 0) dX7_chanceAt_135 rfl ?_
      refine V_lcmp dX7_chanceAt_136 ?_
      refine V_if_ne (tgt := 145) dX7_chanceAt_137 rfl (fun h137 => ?_) (fun h137 => ?_)
      · skip
        refine V_lload dX7_chanceAt_145 rfl ?_
        refine V_lload dX7_chanceAt_147 rfl ?_
        refine V_ldiv dX7_chanceAt_149 (fun h => h137 (wl_eq.mpr h)) ?_
        refine V_l2i dX7_chanceAt_150 ?_
        exact V_iret ⟨Or.inl rfl, dX7_chanceAt_151⟩ ⟨Nat.le_of_ble_eq_true rfl, Nat.le_of_ble_eq_true rfl⟩ ⟨rfl, congrArg (fun z => some (Value.int z)) (by rw [wM_r (by omega) (by omega)]; exact (if_neg (fun h => h137 (wl_eq.mpr h))).symm), rfl, rfl⟩
      · skip
        refine V_ldc dX7_chanceAt_140 qX7_40 ?_
        refine V_eqI (y := nI 500000) rfl ?_
        refine V_goto (tgt := 151) dX7_chanceAt_142 rfl ?_
        exact V_iret ⟨Or.inl rfl, dX7_chanceAt_151⟩ ⟨Nat.le_of_ble_eq_true rfl, Nat.le_of_ble_eq_true rfl⟩ ⟨rfl, congrArg (fun z => some (Value.int z)) (by rw [wM_r (by omega) (by omega)]; exact (if_pos (wl_eq.mp h137)).symm), rfl, rfl⟩
    · skip
      refine V_iload_n dX7_chanceAt_12 rfl ?_
      refine V_bipush (v := nI 13) dX7_chanceAt_13 rfl ?_
      refine V_icmp_ltN (tgt := 23) dX7_chanceAt_15 rfl (by omega) (by omega) (fun h15 => ?_) (fun h15 => ?_)
      · skip
        refine V_iconst (v := nI 0) dX7_chanceAt_23 rfl ?_
        exact V_iret ⟨Or.inl rfl, dX7_chanceAt_24⟩ ⟨Nat.le_of_ble_eq_true rfl, Nat.le_of_ble_eq_true rfl⟩ ⟨rfl, congrArg (fun z => some (Value.int z)) (by first | exact (wM_y (by omega) (by omega)).symm | (exfalso; omega)), rfl, rfl⟩
      · skip
        refine V_ldc dX7_chanceAt_18 qX7_37 ?_
        refine V_eqI (y := nI 1000000) rfl ?_
        refine V_goto (tgt := 24) dX7_chanceAt_20 rfl ?_
        exact V_iret ⟨Or.inl rfl, dX7_chanceAt_24⟩ ⟨Nat.le_of_ble_eq_true rfl, Nat.le_of_ble_eq_true rfl⟩ ⟨rfl, congrArg (fun z => some (Value.int z)) (wM_13 (by omega)).symm, rfl, rfl⟩

theorem mI_lt {k b : Nat} (h : k ≤ b) (hb : b < 2 ^ 31) : nI k + (-1) < nI b := by
  cases k with
  | zero => exact nI_gt_neg hb (by decide)
  | succ k => rw [pk_m1 k, Int32.lt_iff_toInt_lt, nI_toInt (by omega), nI_toInt hb]; omega
theorem zwr_o35 {I I1 : zI} {k : Nat} {v : Int32} (h : ∀ c, c ≠ 35 → I1 c = I c) : ∀ c, c ≠ 35 → zwr I1 35 k v c = I c := fun c hc => (zup_n hc).trans (h c hc)
set_option maxRecDepth 100000 in
set_option maxHeartbeats 4000000 in
theorem lp_match1 {G : zG} {I : zI} {J : zJ} {a b f : Nat} (ha : a ≤ 13) (hb : b ≤ 13) (hf : f ≤ 1) {x : Nat} (hx : x ≤ 13) {Q : zQ} : ∀ n (I1 : zI), b + n ≤ 14 → (∀ c, c ≠ 35 → I1 c = I c) → (∀ x' y' g, x < x' → x' ≤ 13 → b ≤ y' → y' ≤ 13 → g ≤ 1 → I1 35 (2 * (14 * x' + y') + g) = wM (cnJ J) x' y' g) → (∀ y' g, b + n ≤ y' → y' ≤ 13 → g ≤ 1 → I1 35 (2 * (14 * x + y') + g) = wM (cnJ J) x y' g) → (∀ I2 : zI, (∀ c, c ≠ 35 → I2 c = I c) → (∀ x' y' g, x ≤ x' → x' ≤ 13 → b ≤ y' → y' ≤ 13 → g ≤ 1 → I2 35 (2 * (14 * x' + y') + g) = wM (cnJ J) x' y' g) → V G mX7_chanceOf0 3 Q 64 [(0, .ref 34), (1, .ref 33), (2, .int (nI a)), (3, .int (nI b)), (4, .int (nI f)), (5, .int (nI x)), (6, .int (nI b + (-1)))] [] (0, 0) zsh I2 J) → V G mX7_chanceOf0 3 Q 14 [(0, .ref 34), (1, .ref 33), (2, .int (nI a)), (3, .int (nI b)), (4, .int (nI f)), (5, .int (nI x)), (6, .int (nI (b + n) + (-1)))] [] (0, 0) zsh I1 J := by
  intro n
  induction n with
  | zero =>
    intro I1 hn ho hO hI hQ
    refine V_iload dX7_chanceOf0_14 rfl ?_
    refine V_iload_n dX7_chanceOf0_16 rfl ?_
    refine V_icmp_lt (tgt := 64) dX7_chanceOf0_17 rfl (fun _ => ?_) (fun h => absurd (mI_lt (by omega) (by omega)) h)
    exact hQ I1 ho (fun x' y' g h1 h2 h3 h4 h5 => (Nat.lt_or_eq_of_le h1).elim (fun h => hO x' y' g h h2 h3 h4 h5) (fun h => h ▸ hI y' g (by omega) h4 h5))
  | succ n ih =>
    intro I1 hn ho hO hI hQ
    rw [show nI (b + (n + 1)) + (-1) = nI (b + n) from pk_m1 _]
    have hme : ∀ x' y' g, x' ≤ 13 → y' ≤ 13 → g ≤ 1 → (x < x' ∧ b + n = y' ∨ x = x' ∧ b + n < y') → I1 35 (2 * (14 * x' + y') + g) = wM (cnJ J) x' y' g := fun x' y' g h1 h2 h3 h4 => h4.elim (fun h => hO x' y' g h.1 h1 (by omega) h2 h3) (fun h => by rw [← h.1]; exact hI y' g (by omega) h2 h3)
    refine V_iload dX7_chanceOf0_14 rfl ?_
    refine V_iload_n dX7_chanceOf0_16 rfl ?_
    refine V_icmp_ltN (tgt := 64) dX7_chanceOf0_17 rfl (by omega) (by omega) (fun h => absurd h (by omega)) (fun _ => ?_)
    refine V_aload_n dX7_chanceOf0_20 rfl ?_
    refine V_iload dX7_chanceOf0_21 rfl ?_
    refine V_iload dX7_chanceOf0_23 rfl ?_
    refine V_iconst (v := nI 0) dX7_chanceOf0_25 rfl ?_
    refine V_aload_n dX7_chanceOf0_26 rfl ?_
    refine V_aload_n dX7_chanceOf0_27 rfl ?_
    refine V_iload dX7_chanceOf0_28 rfl ?_
    refine V_iload dX7_chanceOf0_30 rfl ?_
    refine V_iconst (v := nI 0) dX7_chanceOf0_32 rfl ?_
    refine V_callV (As := [.ref 33, .int (nI x), .int (nI (b + n)), .int (nI 0)]) (st := [.int (nI 0), .int (nI (b + n)), .int (nI x), .ref 34]) (a := 34) dX7_chanceOf0_33 kX7_chanceAt lX7_15 (by decide) rfl rfl (Nat.le_of_ble_eq_true rfl) ⟨Nat.le_of_ble_eq_true rfl, Nat.le_of_ble_eq_true rfl⟩ ⟨Nat.le_of_ble_eq_true rfl, Nat.le_of_ble_eq_true rfl⟩ rfl ⟨rfl, by decide⟩ (c_chanceAt0 (by omega) (by omega) hme) ?_
    rintro _ _ _ _ ⟨rfl, rfl, rfl, rfl⟩
    refine V_callV (As := [.int (nI x), .int (nI (b + n)), .int (nI 0), .int (wM (cnJ J) x (b + n) 0)]) (st := []) (a := 34) dX7_chanceOf0_36 kX7_put lX7_19 (by decide) rfl rfl (Nat.le_of_ble_eq_true rfl) ⟨Nat.le_of_ble_eq_true rfl, Nat.le_of_ble_eq_true rfl⟩ ⟨Nat.le_of_ble_eq_true rfl, Nat.le_of_ble_eq_true rfl⟩ rfl ⟨rfl, by decide⟩ (c_put7 (by omega) (by omega) (by omega)) ?_
    rintro _ _ _ _ ⟨rfl, rfl, rfl, rfl⟩
    have hme2 : ∀ x' y' g, x' ≤ 13 → y' ≤ 13 → g ≤ 1 → (x < x' ∧ b + n = y' ∨ x = x' ∧ b + n < y') → zwr I1 35 (2 * (14 * x + (b + n)) + 0) (wM (cnJ J) x (b + n) 0) 35 (2 * (14 * x' + y') + g) = wM (cnJ J) x' y' g := fun x' y' g h1 h2 h3 h4 => by rw [zwr_at, if_neg (by omega)]; exact hme x' y' g h1 h2 h3 h4
    refine V_aload_n dX7_chanceOf0_39 rfl ?_
    refine V_iload dX7_chanceOf0_40 rfl ?_
    refine V_iload dX7_chanceOf0_42 rfl ?_
    refine V_iconst (v := nI 1) dX7_chanceOf0_44 rfl ?_
    refine V_aload_n dX7_chanceOf0_45 rfl ?_
    refine V_aload_n dX7_chanceOf0_46 rfl ?_
    refine V_iload dX7_chanceOf0_47 rfl ?_
    refine V_iload dX7_chanceOf0_49 rfl ?_
    refine V_iconst (v := nI 1) dX7_chanceOf0_51 rfl ?_
    refine V_callV (As := [.ref 33, .int (nI x), .int (nI (b + n)), .int (nI 1)]) (st := [.int (nI 1), .int (nI (b + n)), .int (nI x), .ref 34]) (a := 34) dX7_chanceOf0_52 kX7_chanceAt lX7_15 (by decide) rfl rfl (Nat.le_of_ble_eq_true rfl) ⟨Nat.le_of_ble_eq_true rfl, Nat.le_of_ble_eq_true rfl⟩ ⟨Nat.le_of_ble_eq_true rfl, Nat.le_of_ble_eq_true rfl⟩ rfl ⟨rfl, by decide⟩ (c_chanceAt1 (by omega) (by omega) hme2) ?_
    rintro _ _ _ _ ⟨rfl, rfl, rfl, rfl⟩
    refine V_callV (As := [.int (nI x), .int (nI (b + n)), .int (nI 1), .int (wM (cnJ J) x (b + n) 1)]) (st := []) (a := 34) dX7_chanceOf0_55 kX7_put lX7_19 (by decide) rfl rfl (Nat.le_of_ble_eq_true rfl) ⟨Nat.le_of_ble_eq_true rfl, Nat.le_of_ble_eq_true rfl⟩ ⟨Nat.le_of_ble_eq_true rfl, Nat.le_of_ble_eq_true rfl⟩ rfl ⟨rfl, by decide⟩ (c_put7 (by omega) (by omega) (by omega)) ?_
    rintro _ _ _ _ ⟨rfl, rfl, rfl, rfl⟩
    refine V_iinc (v := nI (b + n) + (-1)) (ls' := [(6, .int (nI (b + n) + (-1))), (0, .ref 34), (1, .ref 33), (2, .int (nI a)), (3, .int (nI b)), (4, .int (nI f)), (5, .int (nI x))]) dX7_chanceOf0_58 rfl rfl (by decide) rfl ?_
    refine V_goto (tgt := 14) dX7_chanceOf0_61 rfl ?_
    refine V_sub2 (ls' := [(0, .ref 34), (1, .ref 33), (2, .int (nI a)), (3, .int (nI b)), (4, .int (nI f)), (5, .int (nI x)), (6, .int (nI (b + n) + (-1)))]) (List.forall_mem_cons.mpr ⟨rfl, List.forall_mem_cons.mpr ⟨rfl, List.forall_mem_cons.mpr ⟨rfl, List.forall_mem_cons.mpr ⟨rfl, List.forall_mem_cons.mpr ⟨rfl, List.forall_mem_cons.mpr ⟨rfl, List.forall_mem_cons.mpr ⟨rfl, fun _ h => absurd h List.not_mem_nil⟩⟩⟩⟩⟩⟩⟩) ?_
    refine ih _ (by omega) (zwr_o35 (zwr_o35 ho)) ?_ ?_ hQ
    · intro x' y' g h1 h2 h3 h4 h5
      rw [zwr_at, if_neg (by omega), zwr_at, if_neg (by omega)]
      exact hO x' y' g h1 h2 h3 h4 h5
    · intro y' g h1 h2 h3
      rw [zwr_at]
      by_cases e1 : y' = b + n ∧ g = 1
      · obtain ⟨rfl, rfl⟩ := e1; rw [if_pos ⟨rfl, rfl⟩]
      · rw [if_neg (by omega), zwr_at]
        by_cases e0 : y' = b + n
        · subst e0; obtain rfl : g = 0 := by omega
          rw [if_pos ⟨rfl, rfl⟩]
        · rw [if_neg (by omega)]; exact hI y' g (by omega) h2 h3

set_option maxRecDepth 100000 in
set_option maxHeartbeats 4000000 in
theorem lp_match0 {G : zG} {I : zI} {J : zJ} {a b f : Nat} (ha : a ≤ 13) (hb : b ≤ 13) (hf : f ≤ 1) : ∀ m (I1 : zI), a + m ≤ 14 → (∀ c, c ≠ 35 → I1 c = I c) → (∀ x' y' g, a + m ≤ x' → x' ≤ 13 → b ≤ y' → y' ≤ 13 → g ≤ 1 → I1 35 (2 * (14 * x' + y') + g) = wM (cnJ J) x' y' g) → V G mX7_chanceOf0 3 (zP (fun r I' J' => r = some (.int (wM (cnJ J) a b f)) ∧ (∀ c, c ≠ 35 → I' c = I c) ∧ J = J')) 4 [(0, .ref 34), (1, .ref 33), (2, .int (nI a)), (3, .int (nI b)), (4, .int (nI f)), (5, .int (nI (a + m) + (-1)))] [] (0, 0) zsh I1 J := by
  intro m
  induction m with
  | zero =>
    intro I1 hn ho hO
    refine V_iload dX7_chanceOf0_4 rfl ?_
    refine V_iload_n dX7_chanceOf0_6 rfl ?_
    refine V_icmp_lt (tgt := 70) dX7_chanceOf0_7 rfl (fun _ => ?_) (fun h => absurd (mI_lt (by omega) (by omega)) h)
    refine V_aload_n dX7_chanceOf0_70 rfl ?_
    refine V_getR (b := 35) dX7_chanceOf0_71 fX7_11 ⟨Nat.le_of_ble_eq_true rfl, Nat.le_of_ble_eq_true rfl⟩ rfl rfl rfl ?_
    refine V_iload_n dX7_chanceOf0_74 rfl ?_
    refine V_iload_n dX7_chanceOf0_75 rfl ?_
    refine V_iload dX7_chanceOf0_76 rfl ?_
    refine V_callS (As := [.int (nI a), .int (nI b), .int (nI f)]) (st := [.ref 35]) dX7_chanceOf0_78 kX7_spotOf lX7_23 (by decide) rfl rfl (Nat.le_of_ble_eq_true rfl) ⟨Nat.le_of_ble_eq_true rfl, Nat.le_of_ble_eq_true rfl⟩ (c_spotOf7 (by omega) (by omega)) ?_
    rintro _ _ _ _ ⟨rfl, rfl, rfl, rfl⟩
    refine V_eqI (y := nI (2 * (14 * a + b) + f)) (by rw [show min a 13 = a by omega, show min b 13 = b by omega]) ?_
    refine V_callS (As := [.ref 35, .int (nI (2 * (14 * a + b) + f))]) (st := []) dX7_chanceOf0_81 kX11_at lX7_27 (by decide) rfl rfl (Nat.le_of_ble_eq_true rfl) ⟨Nat.le_of_ble_eq_true rfl, Nat.le_of_ble_eq_true rfl⟩ (c_at (a := 35) (n := 392) ⟨Nat.le_of_ble_eq_true rfl, Nat.le_of_ble_eq_true rfl⟩ rfl (by decide) (by omega)) ?_
    rintro _ _ _ _ ⟨rfl, rfl, rfl, rfl⟩
    refine V_eqI (y := wM (cnJ J) a b f) (hO a b f (by omega) ha (by omega) hb hf) ?_
    exact V_iret ⟨Or.inl rfl, dX7_chanceOf0_84⟩ ⟨Nat.le_of_ble_eq_true rfl, Nat.le_of_ble_eq_true rfl⟩ ⟨rfl, rfl, ho, rfl⟩
  | succ m ih =>
    intro I1 hn ho hO
    rw [show nI (a + (m + 1)) + (-1) = nI (a + m) from pk_m1 _]
    refine V_iload dX7_chanceOf0_4 rfl ?_
    refine V_iload_n dX7_chanceOf0_6 rfl ?_
    refine V_icmp_ltN (tgt := 70) dX7_chanceOf0_7 rfl (by omega) (by omega) (fun h => absurd h (by omega)) (fun _ => ?_)
    refine V_bipush (v := nI 13) dX7_chanceOf0_10 rfl ?_
    refine V_istore (ls' := [(6, .int (nI 13)), (0, .ref 34), (1, .ref 33), (2, .int (nI a)), (3, .int (nI b)), (4, .int (nI f)), (5, .int (nI (a + m)))]) dX7_chanceOf0_12 (by decide) rfl ?_
    refine V_sub2 (ls' := [(0, .ref 34), (1, .ref 33), (2, .int (nI a)), (3, .int (nI b)), (4, .int (nI f)), (5, .int (nI (a + m))), (6, .int (nI 13))]) (List.forall_mem_cons.mpr ⟨rfl, List.forall_mem_cons.mpr ⟨rfl, List.forall_mem_cons.mpr ⟨rfl, List.forall_mem_cons.mpr ⟨rfl, List.forall_mem_cons.mpr ⟨rfl, List.forall_mem_cons.mpr ⟨rfl, List.forall_mem_cons.mpr ⟨rfl, fun _ h => absurd h List.not_mem_nil⟩⟩⟩⟩⟩⟩⟩) ?_
    rw [show nI 13 = nI (b + (14 - b)) + (-1) from by rw [show b + (14 - b) = 13 + 1 by omega]; exact (pk_m1 13).symm]
    refine lp_match1 ha hb hf (x := a + m) (by omega) (14 - b) I1 (by omega) ho (fun x' y' g h1 h2 h3 h4 h5 => hO x' y' g (by omega) h2 h3 h4 h5) (fun y' g h1 h2 h3 => absurd h2 (by omega)) ?_
    intro I2 ho2 hO2
    refine V_iinc (v := nI (a + m) + (-1)) (ls' := [(5, .int (nI (a + m) + (-1))), (0, .ref 34), (1, .ref 33), (2, .int (nI a)), (3, .int (nI b)), (4, .int (nI f)), (6, .int (nI b + (-1)))]) dX7_chanceOf0_64 rfl rfl (by decide) rfl ?_
    refine V_goto (tgt := 4) dX7_chanceOf0_67 rfl ?_
    refine V_sub2 (ls' := [(0, .ref 34), (1, .ref 33), (2, .int (nI a)), (3, .int (nI b)), (4, .int (nI f)), (5, .int (nI (a + m) + (-1)))]) (List.forall_mem_cons.mpr ⟨rfl, List.forall_mem_cons.mpr ⟨rfl, List.forall_mem_cons.mpr ⟨rfl, List.forall_mem_cons.mpr ⟨rfl, List.forall_mem_cons.mpr ⟨rfl, List.forall_mem_cons.mpr ⟨rfl, fun _ h => absurd h List.not_mem_nil⟩⟩⟩⟩⟩⟩) ?_
    exact ih I2 (by omega) ho2 hO2

set_option maxRecDepth 100000 in
set_option maxHeartbeats 4000000 in
theorem c_chanceOf0 {G : zG} {I : zI} {J : zJ} {a b f : Nat} (ha : a ≤ 13) (hb : b ≤ 13) (hf : f ≤ 1) : zK G mX7_chanceOf0 3 [.ref 34, .ref 33, .int (nI a), .int (nI b), .int (nI f)] zsh I J (zP (fun r I' J' => r = some (.int (wM (cnJ J) a b f)) ∧ (∀ c, c ≠ 35 → I' c = I c) ∧ J = J')) := by
  refine zK_of kX7_chanceOf0.2.2.2.2.1 (Nat.le_of_ble_eq_true rfl) ?_
  show V G mX7_chanceOf0 3 _ 0 [(0, .ref 34), (1, .ref 33), (2, .int (nI a)), (3, .int (nI b)), (4, .int (nI f))] [] (0, 0) zsh I J
  refine V_bipush (v := nI 13) dX7_chanceOf0_0 rfl ?_
  refine V_istore (ls' := [(5, .int (nI 13)), (0, .ref 34), (1, .ref 33), (2, .int (nI a)), (3, .int (nI b)), (4, .int (nI f))]) dX7_chanceOf0_2 (by decide) rfl ?_
  refine V_sub2 (ls' := [(0, .ref 34), (1, .ref 33), (2, .int (nI a)), (3, .int (nI b)), (4, .int (nI f)), (5, .int (nI 13))]) (List.forall_mem_cons.mpr ⟨rfl, List.forall_mem_cons.mpr ⟨rfl, List.forall_mem_cons.mpr ⟨rfl, List.forall_mem_cons.mpr ⟨rfl, List.forall_mem_cons.mpr ⟨rfl, List.forall_mem_cons.mpr ⟨rfl, fun _ h => absurd h List.not_mem_nil⟩⟩⟩⟩⟩⟩) ?_
  rw [show nI 13 = nI (a + (14 - a)) + (-1) from by rw [show a + (14 - a) = 13 + 1 by omega]; exact (pk_m1 13).symm]
  exact lp_match0 ha hb hf (14 - a) I (by omega) (fun _ _ => rfl) (fun x' y' g h1 h2 => absurd h2 (by omega))

def telL (n : Nat) (th sd c0 c1 : Nat → Nat) (k : Nat) : Int32 := if k = 0 then nI n else if 10 ≤ k ∧ k < 10 + n then nI (th (k - 10)) else if 20 ≤ k ∧ k < 20 + n then nI (sd (k - 20)) else if 30 ≤ k ∧ k ≤ 30 + n then nI (tC (c0 (k - 30))) else if 40 ≤ k ∧ k ≤ 40 + n then nI (tC (c1 (k - 40))) else -1
set_option maxRecDepth 100000 in
set_option maxHeartbeats 4000000 in
theorem c_tellL {G : zG} {I : zI} {J : zJ} {n la : Nat} {th sd c0 c1 : Nat → Nat} (hL : lgX I n la th sd c0 c1) {what : Int32} : zK G mX6_tell 2 [.ref 36, .ref 10, .int what] zsh I J (zA0 (.int (onN 47 what (-1) (telL n th sd c0 c1))) I J) := by
  obtain ⟨hn, hn6, hla, hla1, hr, hc⟩ := id hL
  refine zK_of kX6_tell.2.2.2.2.1 (Nat.le_of_ble_eq_true rfl) ?_
  show V G mX6_tell 2 _ 0 [(0, .ref 36), (1, .ref 10), (2, .int what)] [] (0, 0) zsh I J
  rcases ix3 what 47 (by decide) with hw | hw | ⟨k, hk, rfl⟩
  · skip
    refine V_iload_n dX6_tell_0 rfl ?_
    refine V_if_ne (tgt := 9) dX6_tell_1 rfl (fun _ => ?_) (fun h => absurd h (by rw [oz_eq]; omega))
    refine V_iload_n dX6_tell_9 rfl ?_
    refine V_bipush (v := nI 10) dX6_tell_10 rfl ?_
    refine V_icmp_lt (tgt := 35) dX6_tell_12 rfl (fun _ => ?_) (fun h => absurd (by rw [oi_lt (by decide)]; omega) h)
    refine V_iload_n dX6_tell_35 rfl ?_
    refine V_bipush (v := nI 20) dX6_tell_36 rfl ?_
    refine V_icmp_lt (tgt := 64) dX6_tell_38 rfl (fun _ => ?_) (fun h => absurd (by rw [oi_lt (by decide)]; omega) h)
    refine V_iload_n dX6_tell_64 rfl ?_
    refine V_bipush (v := nI 30) dX6_tell_65 rfl ?_
    refine V_icmp_lt (tgt := 94) dX6_tell_67 rfl (fun _ => ?_) (fun h => absurd (by rw [oi_lt (by decide)]; omega) h)
    refine V_iload_n dX6_tell_94 rfl ?_
    refine V_bipush (v := nI 40) dX6_tell_95 rfl ?_
    refine V_icmp_lt (tgt := 124) dX6_tell_97 rfl (fun _ => ?_) (fun h => absurd (by rw [oi_lt (by decide)]; omega) h)
    refine V_iconst (v := (-1)) dX6_tell_124 rfl ?_
    exact V_iret ⟨Or.inl rfl, dX6_tell_125⟩ ⟨Nat.le_of_ble_eq_true rfl, Nat.le_of_ble_eq_true rfl⟩ ⟨rfl, congrArg (fun z => some (Value.int z)) (onN_lo hw).symm, rfl, rfl⟩
  · skip
    refine V_iload_n dX6_tell_0 rfl ?_
    refine V_if_ne (tgt := 9) dX6_tell_1 rfl (fun _ => ?_) (fun h => absurd h (by rw [oz_eq]; omega))
    refine V_iload_n dX6_tell_9 rfl ?_
    refine V_bipush (v := nI 10) dX6_tell_10 rfl ?_
    refine V_icmp_lt (tgt := 35) dX6_tell_12 rfl (fun h => absurd h (by rw [oi_lt (by decide)]; omega)) (fun _ => ?_)
    refine V_iload_n dX6_tell_15 rfl ?_
    refine V_bipush (v := nI 10) dX6_tell_16 rfl ?_
    refine V_aload_n dX6_tell_18 rfl ?_
    refine V_getI dX6_tell_19 fX6_24 ⟨Nat.le_of_ble_eq_true rfl, Nat.le_of_ble_eq_true rfl⟩ rfl rfl ?_
    refine V_eqI (y := nI n) hn ?_
    refine V_iaddN dX6_tell_22 ?_
    refine V_icmp_ge (tgt := 35) dX6_tell_23 rfl (fun _ => ?_) (fun h => absurd (by rw [oi_ge (by omega)]; omega) h)
    refine V_iload_n dX6_tell_35 rfl ?_
    refine V_bipush (v := nI 20) dX6_tell_36 rfl ?_
    refine V_icmp_lt (tgt := 64) dX6_tell_38 rfl (fun h => absurd h (by rw [oi_lt (by decide)]; omega)) (fun _ => ?_)
    refine V_iload_n dX6_tell_41 rfl ?_
    refine V_bipush (v := nI 20) dX6_tell_42 rfl ?_
    refine V_aload_n dX6_tell_44 rfl ?_
    refine V_getI dX6_tell_45 fX6_24 ⟨Nat.le_of_ble_eq_true rfl, Nat.le_of_ble_eq_true rfl⟩ rfl rfl ?_
    refine V_eqI (y := nI n) hn ?_
    refine V_iaddN dX6_tell_48 ?_
    refine V_icmp_ge (tgt := 64) dX6_tell_49 rfl (fun _ => ?_) (fun h => absurd (by rw [oi_ge (by omega)]; omega) h)
    refine V_iload_n dX6_tell_64 rfl ?_
    refine V_bipush (v := nI 30) dX6_tell_65 rfl ?_
    refine V_icmp_lt (tgt := 94) dX6_tell_67 rfl (fun h => absurd h (by rw [oi_lt (by decide)]; omega)) (fun _ => ?_)
    refine V_iload_n dX6_tell_70 rfl ?_
    refine V_bipush (v := nI 30) dX6_tell_71 rfl ?_
    refine V_aload_n dX6_tell_73 rfl ?_
    refine V_getI dX6_tell_74 fX6_24 ⟨Nat.le_of_ble_eq_true rfl, Nat.le_of_ble_eq_true rfl⟩ rfl rfl ?_
    refine V_eqI (y := nI n) hn ?_
    refine V_iaddN dX6_tell_77 ?_
    refine V_icmp_gt (tgt := 94) dX6_tell_78 rfl (fun _ => ?_) (fun h => absurd (by rw [oi_gt (by omega)]; omega) h)
    refine V_iload_n dX6_tell_94 rfl ?_
    refine V_bipush (v := nI 40) dX6_tell_95 rfl ?_
    refine V_icmp_lt (tgt := 124) dX6_tell_97 rfl (fun h => absurd h (by rw [oi_lt (by decide)]; omega)) (fun _ => ?_)
    refine V_iload_n dX6_tell_100 rfl ?_
    refine V_bipush (v := nI 40) dX6_tell_101 rfl ?_
    refine V_aload_n dX6_tell_103 rfl ?_
    refine V_getI dX6_tell_104 fX6_24 ⟨Nat.le_of_ble_eq_true rfl, Nat.le_of_ble_eq_true rfl⟩ rfl rfl ?_
    refine V_eqI (y := nI n) hn ?_
    refine V_iaddN dX6_tell_107 ?_
    refine V_icmp_gt (tgt := 124) dX6_tell_108 rfl (fun _ => ?_) (fun h => absurd (by rw [oi_gt (by omega)]; omega) h)
    refine V_iconst (v := (-1)) dX6_tell_124 rfl ?_
    exact V_iret ⟨Or.inl rfl, dX6_tell_125⟩ ⟨Nat.le_of_ble_eq_true rfl, Nat.le_of_ble_eq_true rfl⟩ ⟨rfl, congrArg (fun z => some (Value.int z)) (onN_hi hw).symm, rfl, rfl⟩
  · skip
    refine V_iload_n dX6_tell_0 rfl ?_
    refine V_if_neN (tgt := 9) dX6_tell_1 rfl (by omega) (fun h1 => ?_) (fun h1 => ?_)
    · skip
      refine V_iload_n dX6_tell_9 rfl ?_
      refine V_bipush (v := nI 10) dX6_tell_10 rfl ?_
      refine V_icmp_ltN (tgt := 35) dX6_tell_12 rfl (by omega) (by omega) (fun h12 => ?_) (fun h12 => ?_)
      · skip
        refine V_iload_n dX6_tell_35 rfl ?_
        refine V_bipush (v := nI 20) dX6_tell_36 rfl ?_
        refine V_icmp_ltN (tgt := 64) dX6_tell_38 rfl (by omega) (by omega) (fun h38 => ?_) (fun h38 => ?_)
        · skip
          refine V_iload_n dX6_tell_64 rfl ?_
          refine V_bipush (v := nI 30) dX6_tell_65 rfl ?_
          refine V_icmp_ltN (tgt := 94) dX6_tell_67 rfl (by omega) (by omega) (fun h67 => ?_) (fun h67 => ?_)
          · skip
            refine V_iload_n dX6_tell_94 rfl ?_
            refine V_bipush (v := nI 40) dX6_tell_95 rfl ?_
            refine V_icmp_ltN (tgt := 124) dX6_tell_97 rfl (by omega) (by omega) (fun h97 => ?_) (fun h97 => ?_)
            · skip
              refine V_iconst (v := (-1)) dX6_tell_124 rfl ?_
              exact V_iret ⟨Or.inl rfl, dX6_tell_125⟩ ⟨Nat.le_of_ble_eq_true rfl, Nat.le_of_ble_eq_true rfl⟩ ⟨rfl, congrArg (fun z => some (Value.int z)) (by rw [onN_k hk (by decide)]; unfold telL; first | (exfalso; omega; done) | ((repeat' first | rw [if_pos (by omega)] | rw [if_neg (by omega)]) <;> (first | rfl | (congr 1; omega)))), rfl, rfl⟩
            · skip
              refine V_iload_n dX6_tell_100 rfl ?_
              refine V_bipush (v := nI 40) dX6_tell_101 rfl ?_
              refine V_aload_n dX6_tell_103 rfl ?_
              refine V_getI dX6_tell_104 fX6_24 ⟨Nat.le_of_ble_eq_true rfl, Nat.le_of_ble_eq_true rfl⟩ rfl rfl ?_
              refine V_eqI (y := nI n) hn ?_
              refine V_iaddN dX6_tell_107 ?_
              refine V_icmp_gtN (tgt := 124) dX6_tell_108 rfl (by omega) (by omega) (fun h108 => ?_) (fun h108 => ?_)
              · skip
                refine V_iconst (v := (-1)) dX6_tell_124 rfl ?_
                exact V_iret ⟨Or.inl rfl, dX6_tell_125⟩ ⟨Nat.le_of_ble_eq_true rfl, Nat.le_of_ble_eq_true rfl⟩ ⟨rfl, congrArg (fun z => some (Value.int z)) (by rw [onN_k hk (by decide)]; unfold telL; first | (exfalso; omega; done) | ((repeat' first | rw [if_pos (by omega)] | rw [if_neg (by omega)]) <;> (first | rfl | (congr 1; omega)))), rfl, rfl⟩
              · skip
                refine V_aload_n dX6_tell_111 rfl ?_
                refine V_aload_n dX6_tell_112 rfl ?_
                refine V_iload_n dX6_tell_113 rfl ?_
                refine V_bipush (v := nI 40) dX6_tell_114 rfl ?_
                refine V_isubN dX6_tell_116 (by omega) ?_
                refine V_callV (As := [.int (nI (k - 40))]) (st := [.ref 10]) (a := 36) dX6_tell_117 kX6_codeOf1 lX6_39 (by decide) rfl rfl (Nat.le_of_ble_eq_true rfl) ⟨Nat.le_of_ble_eq_true rfl, Nat.le_of_ble_eq_true rfl⟩ ⟨Nat.le_of_ble_eq_true rfl, Nat.le_of_ble_eq_true rfl⟩ rfl ⟨rfl, by decide⟩ (c_codeOf1 hL (by omega)) ?_
                rintro _ _ _ _ ⟨rfl, rfl, rfl, rfl⟩
                refine V_callV (As := [.int (nI (c1 (k - 40)))]) (st := []) (a := 10) dX6_tell_120 kX2_codeAt lX6_64 (by decide) rfl rfl (Nat.le_of_ble_eq_true rfl) ⟨Nat.le_of_ble_eq_true rfl, Nat.le_of_ble_eq_true rfl⟩ ⟨Nat.le_of_ble_eq_true rfl, Nat.le_of_ble_eq_true rfl⟩ rfl ⟨rfl, by decide⟩ (c_codeAt (hc _ (by omega)).2.2.2) ?_
                rintro _ _ _ _ ⟨rfl, rfl, rfl, rfl⟩
                exact V_iret ⟨Or.inl rfl, dX6_tell_123⟩ ⟨Nat.le_of_ble_eq_true rfl, Nat.le_of_ble_eq_true rfl⟩ ⟨rfl, congrArg (fun z => some (Value.int z)) (by rw [onN_k hk (by decide)]; unfold telL; first | (exfalso; omega; done) | ((repeat' first | rw [if_pos (by omega)] | rw [if_neg (by omega)]) <;> (first | rfl | (congr 1; omega)))), rfl, rfl⟩
          · skip
            refine V_iload_n dX6_tell_70 rfl ?_
            refine V_bipush (v := nI 30) dX6_tell_71 rfl ?_
            refine V_aload_n dX6_tell_73 rfl ?_
            refine V_getI dX6_tell_74 fX6_24 ⟨Nat.le_of_ble_eq_true rfl, Nat.le_of_ble_eq_true rfl⟩ rfl rfl ?_
            refine V_eqI (y := nI n) hn ?_
            refine V_iaddN dX6_tell_77 ?_
            refine V_icmp_gtN (tgt := 94) dX6_tell_78 rfl (by omega) (by omega) (fun h78 => ?_) (fun h78 => ?_)
            · skip
              refine V_iload_n dX6_tell_94 rfl ?_
              refine V_bipush (v := nI 40) dX6_tell_95 rfl ?_
              refine V_icmp_ltN (tgt := 124) dX6_tell_97 rfl (by omega) (by omega) (fun h97 => ?_) (fun h97 => ?_)
              · skip
                refine V_iconst (v := (-1)) dX6_tell_124 rfl ?_
                exact V_iret ⟨Or.inl rfl, dX6_tell_125⟩ ⟨Nat.le_of_ble_eq_true rfl, Nat.le_of_ble_eq_true rfl⟩ ⟨rfl, congrArg (fun z => some (Value.int z)) (by rw [onN_k hk (by decide)]; unfold telL; first | (exfalso; omega; done) | ((repeat' first | rw [if_pos (by omega)] | rw [if_neg (by omega)]) <;> (first | rfl | (congr 1; omega)))), rfl, rfl⟩
              · skip
                refine V_iload_n dX6_tell_100 rfl ?_
                refine V_bipush (v := nI 40) dX6_tell_101 rfl ?_
                refine V_aload_n dX6_tell_103 rfl ?_
                refine V_getI dX6_tell_104 fX6_24 ⟨Nat.le_of_ble_eq_true rfl, Nat.le_of_ble_eq_true rfl⟩ rfl rfl ?_
                refine V_eqI (y := nI n) hn ?_
                refine V_iaddN dX6_tell_107 ?_
                refine V_icmp_gtN (tgt := 124) dX6_tell_108 rfl (by omega) (by omega) (fun h108 => ?_) (fun h108 => ?_)
                · skip
                  refine V_iconst (v := (-1)) dX6_tell_124 rfl ?_
                  exact V_iret ⟨Or.inl rfl, dX6_tell_125⟩ ⟨Nat.le_of_ble_eq_true rfl, Nat.le_of_ble_eq_true rfl⟩ ⟨rfl, congrArg (fun z => some (Value.int z)) (by rw [onN_k hk (by decide)]; unfold telL; first | (exfalso; omega; done) | ((repeat' first | rw [if_pos (by omega)] | rw [if_neg (by omega)]) <;> (first | rfl | (congr 1; omega)))), rfl, rfl⟩
                · skip
                  refine V_aload_n dX6_tell_111 rfl ?_
                  refine V_aload_n dX6_tell_112 rfl ?_
                  refine V_iload_n dX6_tell_113 rfl ?_
                  refine V_bipush (v := nI 40) dX6_tell_114 rfl ?_
                  refine V_isubN dX6_tell_116 (by omega) ?_
                  refine V_callV (As := [.int (nI (k - 40))]) (st := [.ref 10]) (a := 36) dX6_tell_117 kX6_codeOf1 lX6_39 (by decide) rfl rfl (Nat.le_of_ble_eq_true rfl) ⟨Nat.le_of_ble_eq_true rfl, Nat.le_of_ble_eq_true rfl⟩ ⟨Nat.le_of_ble_eq_true rfl, Nat.le_of_ble_eq_true rfl⟩ rfl ⟨rfl, by decide⟩ (c_codeOf1 hL (by omega)) ?_
                  rintro _ _ _ _ ⟨rfl, rfl, rfl, rfl⟩
                  refine V_callV (As := [.int (nI (c1 (k - 40)))]) (st := []) (a := 10) dX6_tell_120 kX2_codeAt lX6_64 (by decide) rfl rfl (Nat.le_of_ble_eq_true rfl) ⟨Nat.le_of_ble_eq_true rfl, Nat.le_of_ble_eq_true rfl⟩ ⟨Nat.le_of_ble_eq_true rfl, Nat.le_of_ble_eq_true rfl⟩ rfl ⟨rfl, by decide⟩ (c_codeAt (hc _ (by omega)).2.2.2) ?_
                  rintro _ _ _ _ ⟨rfl, rfl, rfl, rfl⟩
                  exact V_iret ⟨Or.inl rfl, dX6_tell_123⟩ ⟨Nat.le_of_ble_eq_true rfl, Nat.le_of_ble_eq_true rfl⟩ ⟨rfl, congrArg (fun z => some (Value.int z)) (by rw [onN_k hk (by decide)]; unfold telL; first | (exfalso; omega; done) | ((repeat' first | rw [if_pos (by omega)] | rw [if_neg (by omega)]) <;> (first | rfl | (congr 1; omega)))), rfl, rfl⟩
            · skip
              refine V_aload_n dX6_tell_81 rfl ?_
              refine V_aload_n dX6_tell_82 rfl ?_
              refine V_iload_n dX6_tell_83 rfl ?_
              refine V_bipush (v := nI 30) dX6_tell_84 rfl ?_
              refine V_isubN dX6_tell_86 (by omega) ?_
              refine V_callV (As := [.int (nI (k - 30))]) (st := [.ref 10]) (a := 36) dX6_tell_87 kX6_codeOf0 lX6_35 (by decide) rfl rfl (Nat.le_of_ble_eq_true rfl) ⟨Nat.le_of_ble_eq_true rfl, Nat.le_of_ble_eq_true rfl⟩ ⟨Nat.le_of_ble_eq_true rfl, Nat.le_of_ble_eq_true rfl⟩ rfl ⟨rfl, by decide⟩ (c_codeOf0 hL (by omega)) ?_
              rintro _ _ _ _ ⟨rfl, rfl, rfl, rfl⟩
              refine V_callV (As := [.int (nI (c0 (k - 30)))]) (st := []) (a := 10) dX6_tell_90 kX2_codeAt lX6_64 (by decide) rfl rfl (Nat.le_of_ble_eq_true rfl) ⟨Nat.le_of_ble_eq_true rfl, Nat.le_of_ble_eq_true rfl⟩ ⟨Nat.le_of_ble_eq_true rfl, Nat.le_of_ble_eq_true rfl⟩ rfl ⟨rfl, by decide⟩ (c_codeAt (hc _ (by omega)).2.2.1) ?_
              rintro _ _ _ _ ⟨rfl, rfl, rfl, rfl⟩
              exact V_iret ⟨Or.inl rfl, dX6_tell_93⟩ ⟨Nat.le_of_ble_eq_true rfl, Nat.le_of_ble_eq_true rfl⟩ ⟨rfl, congrArg (fun z => some (Value.int z)) (by rw [onN_k hk (by decide)]; unfold telL; first | (exfalso; omega; done) | ((repeat' first | rw [if_pos (by omega)] | rw [if_neg (by omega)]) <;> (first | rfl | (congr 1; omega)))), rfl, rfl⟩
        · skip
          refine V_iload_n dX6_tell_41 rfl ?_
          refine V_bipush (v := nI 20) dX6_tell_42 rfl ?_
          refine V_aload_n dX6_tell_44 rfl ?_
          refine V_getI dX6_tell_45 fX6_24 ⟨Nat.le_of_ble_eq_true rfl, Nat.le_of_ble_eq_true rfl⟩ rfl rfl ?_
          refine V_eqI (y := nI n) hn ?_
          refine V_iaddN dX6_tell_48 ?_
          refine V_icmp_geN (tgt := 64) dX6_tell_49 rfl (by omega) (by omega) (fun h49 => ?_) (fun h49 => ?_)
          · skip
            refine V_iload_n dX6_tell_64 rfl ?_
            refine V_bipush (v := nI 30) dX6_tell_65 rfl ?_
            refine V_icmp_ltN (tgt := 94) dX6_tell_67 rfl (by omega) (by omega) (fun h67 => ?_) (fun h67 => ?_)
            · skip
              refine V_iload_n dX6_tell_94 rfl ?_
              refine V_bipush (v := nI 40) dX6_tell_95 rfl ?_
              refine V_icmp_ltN (tgt := 124) dX6_tell_97 rfl (by omega) (by omega) (fun h97 => ?_) (fun h97 => ?_)
              · skip
                refine V_iconst (v := (-1)) dX6_tell_124 rfl ?_
                exact V_iret ⟨Or.inl rfl, dX6_tell_125⟩ ⟨Nat.le_of_ble_eq_true rfl, Nat.le_of_ble_eq_true rfl⟩ ⟨rfl, congrArg (fun z => some (Value.int z)) (by rw [onN_k hk (by decide)]; unfold telL; first | (exfalso; omega; done) | ((repeat' first | rw [if_pos (by omega)] | rw [if_neg (by omega)]) <;> (first | rfl | (congr 1; omega)))), rfl, rfl⟩
              · skip
                refine V_iload_n dX6_tell_100 rfl ?_
                refine V_bipush (v := nI 40) dX6_tell_101 rfl ?_
                refine V_aload_n dX6_tell_103 rfl ?_
                refine V_getI dX6_tell_104 fX6_24 ⟨Nat.le_of_ble_eq_true rfl, Nat.le_of_ble_eq_true rfl⟩ rfl rfl ?_
                refine V_eqI (y := nI n) hn ?_
                refine V_iaddN dX6_tell_107 ?_
                refine V_icmp_gtN (tgt := 124) dX6_tell_108 rfl (by omega) (by omega) (fun h108 => ?_) (fun h108 => ?_)
                · skip
                  refine V_iconst (v := (-1)) dX6_tell_124 rfl ?_
                  exact V_iret ⟨Or.inl rfl, dX6_tell_125⟩ ⟨Nat.le_of_ble_eq_true rfl, Nat.le_of_ble_eq_true rfl⟩ ⟨rfl, congrArg (fun z => some (Value.int z)) (by rw [onN_k hk (by decide)]; unfold telL; first | (exfalso; omega; done) | ((repeat' first | rw [if_pos (by omega)] | rw [if_neg (by omega)]) <;> (first | rfl | (congr 1; omega)))), rfl, rfl⟩
                · skip
                  refine V_aload_n dX6_tell_111 rfl ?_
                  refine V_aload_n dX6_tell_112 rfl ?_
                  refine V_iload_n dX6_tell_113 rfl ?_
                  refine V_bipush (v := nI 40) dX6_tell_114 rfl ?_
                  refine V_isubN dX6_tell_116 (by omega) ?_
                  refine V_callV (As := [.int (nI (k - 40))]) (st := [.ref 10]) (a := 36) dX6_tell_117 kX6_codeOf1 lX6_39 (by decide) rfl rfl (Nat.le_of_ble_eq_true rfl) ⟨Nat.le_of_ble_eq_true rfl, Nat.le_of_ble_eq_true rfl⟩ ⟨Nat.le_of_ble_eq_true rfl, Nat.le_of_ble_eq_true rfl⟩ rfl ⟨rfl, by decide⟩ (c_codeOf1 hL (by omega)) ?_
                  rintro _ _ _ _ ⟨rfl, rfl, rfl, rfl⟩
                  refine V_callV (As := [.int (nI (c1 (k - 40)))]) (st := []) (a := 10) dX6_tell_120 kX2_codeAt lX6_64 (by decide) rfl rfl (Nat.le_of_ble_eq_true rfl) ⟨Nat.le_of_ble_eq_true rfl, Nat.le_of_ble_eq_true rfl⟩ ⟨Nat.le_of_ble_eq_true rfl, Nat.le_of_ble_eq_true rfl⟩ rfl ⟨rfl, by decide⟩ (c_codeAt (hc _ (by omega)).2.2.2) ?_
                  rintro _ _ _ _ ⟨rfl, rfl, rfl, rfl⟩
                  exact V_iret ⟨Or.inl rfl, dX6_tell_123⟩ ⟨Nat.le_of_ble_eq_true rfl, Nat.le_of_ble_eq_true rfl⟩ ⟨rfl, congrArg (fun z => some (Value.int z)) (by rw [onN_k hk (by decide)]; unfold telL; first | (exfalso; omega; done) | ((repeat' first | rw [if_pos (by omega)] | rw [if_neg (by omega)]) <;> (first | rfl | (congr 1; omega)))), rfl, rfl⟩
            · skip
              refine V_iload_n dX6_tell_70 rfl ?_
              refine V_bipush (v := nI 30) dX6_tell_71 rfl ?_
              refine V_aload_n dX6_tell_73 rfl ?_
              refine V_getI dX6_tell_74 fX6_24 ⟨Nat.le_of_ble_eq_true rfl, Nat.le_of_ble_eq_true rfl⟩ rfl rfl ?_
              refine V_eqI (y := nI n) hn ?_
              refine V_iaddN dX6_tell_77 ?_
              refine V_icmp_gtN (tgt := 94) dX6_tell_78 rfl (by omega) (by omega) (fun h78 => ?_) (fun h78 => ?_)
              · skip
                refine V_iload_n dX6_tell_94 rfl ?_
                refine V_bipush (v := nI 40) dX6_tell_95 rfl ?_
                refine V_icmp_ltN (tgt := 124) dX6_tell_97 rfl (by omega) (by omega) (fun h97 => ?_) (fun h97 => ?_)
                · skip
                  refine V_iconst (v := (-1)) dX6_tell_124 rfl ?_
                  exact V_iret ⟨Or.inl rfl, dX6_tell_125⟩ ⟨Nat.le_of_ble_eq_true rfl, Nat.le_of_ble_eq_true rfl⟩ ⟨rfl, congrArg (fun z => some (Value.int z)) (by rw [onN_k hk (by decide)]; unfold telL; first | (exfalso; omega; done) | ((repeat' first | rw [if_pos (by omega)] | rw [if_neg (by omega)]) <;> (first | rfl | (congr 1; omega)))), rfl, rfl⟩
                · skip
                  refine V_iload_n dX6_tell_100 rfl ?_
                  refine V_bipush (v := nI 40) dX6_tell_101 rfl ?_
                  refine V_aload_n dX6_tell_103 rfl ?_
                  refine V_getI dX6_tell_104 fX6_24 ⟨Nat.le_of_ble_eq_true rfl, Nat.le_of_ble_eq_true rfl⟩ rfl rfl ?_
                  refine V_eqI (y := nI n) hn ?_
                  refine V_iaddN dX6_tell_107 ?_
                  refine V_icmp_gtN (tgt := 124) dX6_tell_108 rfl (by omega) (by omega) (fun h108 => ?_) (fun h108 => ?_)
                  · skip
                    refine V_iconst (v := (-1)) dX6_tell_124 rfl ?_
                    exact V_iret ⟨Or.inl rfl, dX6_tell_125⟩ ⟨Nat.le_of_ble_eq_true rfl, Nat.le_of_ble_eq_true rfl⟩ ⟨rfl, congrArg (fun z => some (Value.int z)) (by rw [onN_k hk (by decide)]; unfold telL; first | (exfalso; omega; done) | ((repeat' first | rw [if_pos (by omega)] | rw [if_neg (by omega)]) <;> (first | rfl | (congr 1; omega)))), rfl, rfl⟩
                  · skip
                    refine V_aload_n dX6_tell_111 rfl ?_
                    refine V_aload_n dX6_tell_112 rfl ?_
                    refine V_iload_n dX6_tell_113 rfl ?_
                    refine V_bipush (v := nI 40) dX6_tell_114 rfl ?_
                    refine V_isubN dX6_tell_116 (by omega) ?_
                    refine V_callV (As := [.int (nI (k - 40))]) (st := [.ref 10]) (a := 36) dX6_tell_117 kX6_codeOf1 lX6_39 (by decide) rfl rfl (Nat.le_of_ble_eq_true rfl) ⟨Nat.le_of_ble_eq_true rfl, Nat.le_of_ble_eq_true rfl⟩ ⟨Nat.le_of_ble_eq_true rfl, Nat.le_of_ble_eq_true rfl⟩ rfl ⟨rfl, by decide⟩ (c_codeOf1 hL (by omega)) ?_
                    rintro _ _ _ _ ⟨rfl, rfl, rfl, rfl⟩
                    refine V_callV (As := [.int (nI (c1 (k - 40)))]) (st := []) (a := 10) dX6_tell_120 kX2_codeAt lX6_64 (by decide) rfl rfl (Nat.le_of_ble_eq_true rfl) ⟨Nat.le_of_ble_eq_true rfl, Nat.le_of_ble_eq_true rfl⟩ ⟨Nat.le_of_ble_eq_true rfl, Nat.le_of_ble_eq_true rfl⟩ rfl ⟨rfl, by decide⟩ (c_codeAt (hc _ (by omega)).2.2.2) ?_
                    rintro _ _ _ _ ⟨rfl, rfl, rfl, rfl⟩
                    exact V_iret ⟨Or.inl rfl, dX6_tell_123⟩ ⟨Nat.le_of_ble_eq_true rfl, Nat.le_of_ble_eq_true rfl⟩ ⟨rfl, congrArg (fun z => some (Value.int z)) (by rw [onN_k hk (by decide)]; unfold telL; first | (exfalso; omega; done) | ((repeat' first | rw [if_pos (by omega)] | rw [if_neg (by omega)]) <;> (first | rfl | (congr 1; omega)))), rfl, rfl⟩
              · skip
                refine V_aload_n dX6_tell_81 rfl ?_
                refine V_aload_n dX6_tell_82 rfl ?_
                refine V_iload_n dX6_tell_83 rfl ?_
                refine V_bipush (v := nI 30) dX6_tell_84 rfl ?_
                refine V_isubN dX6_tell_86 (by omega) ?_
                refine V_callV (As := [.int (nI (k - 30))]) (st := [.ref 10]) (a := 36) dX6_tell_87 kX6_codeOf0 lX6_35 (by decide) rfl rfl (Nat.le_of_ble_eq_true rfl) ⟨Nat.le_of_ble_eq_true rfl, Nat.le_of_ble_eq_true rfl⟩ ⟨Nat.le_of_ble_eq_true rfl, Nat.le_of_ble_eq_true rfl⟩ rfl ⟨rfl, by decide⟩ (c_codeOf0 hL (by omega)) ?_
                rintro _ _ _ _ ⟨rfl, rfl, rfl, rfl⟩
                refine V_callV (As := [.int (nI (c0 (k - 30)))]) (st := []) (a := 10) dX6_tell_90 kX2_codeAt lX6_64 (by decide) rfl rfl (Nat.le_of_ble_eq_true rfl) ⟨Nat.le_of_ble_eq_true rfl, Nat.le_of_ble_eq_true rfl⟩ ⟨Nat.le_of_ble_eq_true rfl, Nat.le_of_ble_eq_true rfl⟩ rfl ⟨rfl, by decide⟩ (c_codeAt (hc _ (by omega)).2.2.1) ?_
                rintro _ _ _ _ ⟨rfl, rfl, rfl, rfl⟩
                exact V_iret ⟨Or.inl rfl, dX6_tell_93⟩ ⟨Nat.le_of_ble_eq_true rfl, Nat.le_of_ble_eq_true rfl⟩ ⟨rfl, congrArg (fun z => some (Value.int z)) (by rw [onN_k hk (by decide)]; unfold telL; first | (exfalso; omega; done) | ((repeat' first | rw [if_pos (by omega)] | rw [if_neg (by omega)]) <;> (first | rfl | (congr 1; omega)))), rfl, rfl⟩
          · skip
            refine V_aload_n dX6_tell_52 rfl ?_
            refine V_getR (b := 38) dX6_tell_53 fX6_15 ⟨Nat.le_of_ble_eq_true rfl, Nat.le_of_ble_eq_true rfl⟩ rfl rfl rfl ?_
            refine V_iload_n dX6_tell_56 rfl ?_
            refine V_bipush (v := nI 20) dX6_tell_57 rfl ?_
            refine V_isubN dX6_tell_59 (by omega) ?_
            refine V_callS (As := [.ref 38, .int (nI (k - 20))]) (st := []) dX6_tell_60 kX11_at lX6_31 (by decide) rfl rfl (Nat.le_of_ble_eq_true rfl) ⟨Nat.le_of_ble_eq_true rfl, Nat.le_of_ble_eq_true rfl⟩ (c_at (a := 38) (n := 6) ⟨Nat.le_of_ble_eq_true rfl, Nat.le_of_ble_eq_true rfl⟩ rfl (by decide) (by omega)) ?_
            rintro _ _ _ _ ⟨rfl, rfl, rfl, rfl⟩
            refine V_eqI (y := nI (sd (k - 20))) (hr (k - 20) (by omega)).2.1 ?_
            exact V_iret ⟨Or.inl rfl, dX6_tell_63⟩ ⟨Nat.le_of_ble_eq_true rfl, Nat.le_of_ble_eq_true rfl⟩ ⟨rfl, congrArg (fun z => some (Value.int z)) (by rw [onN_k hk (by decide)]; unfold telL; first | (exfalso; omega; done) | ((repeat' first | rw [if_pos (by omega)] | rw [if_neg (by omega)]) <;> (first | rfl | (congr 1; omega)))), rfl, rfl⟩
      · skip
        refine V_iload_n dX6_tell_15 rfl ?_
        refine V_bipush (v := nI 10) dX6_tell_16 rfl ?_
        refine V_aload_n dX6_tell_18 rfl ?_
        refine V_getI dX6_tell_19 fX6_24 ⟨Nat.le_of_ble_eq_true rfl, Nat.le_of_ble_eq_true rfl⟩ rfl rfl ?_
        refine V_eqI (y := nI n) hn ?_
        refine V_iaddN dX6_tell_22 ?_
        refine V_icmp_geN (tgt := 35) dX6_tell_23 rfl (by omega) (by omega) (fun h23 => ?_) (fun h23 => ?_)
        · skip
          refine V_iload_n dX6_tell_35 rfl ?_
          refine V_bipush (v := nI 20) dX6_tell_36 rfl ?_
          refine V_icmp_ltN (tgt := 64) dX6_tell_38 rfl (by omega) (by omega) (fun h38 => ?_) (fun h38 => ?_)
          · skip
            refine V_iload_n dX6_tell_64 rfl ?_
            refine V_bipush (v := nI 30) dX6_tell_65 rfl ?_
            refine V_icmp_ltN (tgt := 94) dX6_tell_67 rfl (by omega) (by omega) (fun h67 => ?_) (fun h67 => ?_)
            · skip
              refine V_iload_n dX6_tell_94 rfl ?_
              refine V_bipush (v := nI 40) dX6_tell_95 rfl ?_
              refine V_icmp_ltN (tgt := 124) dX6_tell_97 rfl (by omega) (by omega) (fun h97 => ?_) (fun h97 => ?_)
              · skip
                refine V_iconst (v := (-1)) dX6_tell_124 rfl ?_
                exact V_iret ⟨Or.inl rfl, dX6_tell_125⟩ ⟨Nat.le_of_ble_eq_true rfl, Nat.le_of_ble_eq_true rfl⟩ ⟨rfl, congrArg (fun z => some (Value.int z)) (by rw [onN_k hk (by decide)]; unfold telL; first | (exfalso; omega; done) | ((repeat' first | rw [if_pos (by omega)] | rw [if_neg (by omega)]) <;> (first | rfl | (congr 1; omega)))), rfl, rfl⟩
              · skip
                refine V_iload_n dX6_tell_100 rfl ?_
                refine V_bipush (v := nI 40) dX6_tell_101 rfl ?_
                refine V_aload_n dX6_tell_103 rfl ?_
                refine V_getI dX6_tell_104 fX6_24 ⟨Nat.le_of_ble_eq_true rfl, Nat.le_of_ble_eq_true rfl⟩ rfl rfl ?_
                refine V_eqI (y := nI n) hn ?_
                refine V_iaddN dX6_tell_107 ?_
                refine V_icmp_gtN (tgt := 124) dX6_tell_108 rfl (by omega) (by omega) (fun h108 => ?_) (fun h108 => ?_)
                · skip
                  refine V_iconst (v := (-1)) dX6_tell_124 rfl ?_
                  exact V_iret ⟨Or.inl rfl, dX6_tell_125⟩ ⟨Nat.le_of_ble_eq_true rfl, Nat.le_of_ble_eq_true rfl⟩ ⟨rfl, congrArg (fun z => some (Value.int z)) (by rw [onN_k hk (by decide)]; unfold telL; first | (exfalso; omega; done) | ((repeat' first | rw [if_pos (by omega)] | rw [if_neg (by omega)]) <;> (first | rfl | (congr 1; omega)))), rfl, rfl⟩
                · skip
                  refine V_aload_n dX6_tell_111 rfl ?_
                  refine V_aload_n dX6_tell_112 rfl ?_
                  refine V_iload_n dX6_tell_113 rfl ?_
                  refine V_bipush (v := nI 40) dX6_tell_114 rfl ?_
                  refine V_isubN dX6_tell_116 (by omega) ?_
                  refine V_callV (As := [.int (nI (k - 40))]) (st := [.ref 10]) (a := 36) dX6_tell_117 kX6_codeOf1 lX6_39 (by decide) rfl rfl (Nat.le_of_ble_eq_true rfl) ⟨Nat.le_of_ble_eq_true rfl, Nat.le_of_ble_eq_true rfl⟩ ⟨Nat.le_of_ble_eq_true rfl, Nat.le_of_ble_eq_true rfl⟩ rfl ⟨rfl, by decide⟩ (c_codeOf1 hL (by omega)) ?_
                  rintro _ _ _ _ ⟨rfl, rfl, rfl, rfl⟩
                  refine V_callV (As := [.int (nI (c1 (k - 40)))]) (st := []) (a := 10) dX6_tell_120 kX2_codeAt lX6_64 (by decide) rfl rfl (Nat.le_of_ble_eq_true rfl) ⟨Nat.le_of_ble_eq_true rfl, Nat.le_of_ble_eq_true rfl⟩ ⟨Nat.le_of_ble_eq_true rfl, Nat.le_of_ble_eq_true rfl⟩ rfl ⟨rfl, by decide⟩ (c_codeAt (hc _ (by omega)).2.2.2) ?_
                  rintro _ _ _ _ ⟨rfl, rfl, rfl, rfl⟩
                  exact V_iret ⟨Or.inl rfl, dX6_tell_123⟩ ⟨Nat.le_of_ble_eq_true rfl, Nat.le_of_ble_eq_true rfl⟩ ⟨rfl, congrArg (fun z => some (Value.int z)) (by rw [onN_k hk (by decide)]; unfold telL; first | (exfalso; omega; done) | ((repeat' first | rw [if_pos (by omega)] | rw [if_neg (by omega)]) <;> (first | rfl | (congr 1; omega)))), rfl, rfl⟩
            · skip
              refine V_iload_n dX6_tell_70 rfl ?_
              refine V_bipush (v := nI 30) dX6_tell_71 rfl ?_
              refine V_aload_n dX6_tell_73 rfl ?_
              refine V_getI dX6_tell_74 fX6_24 ⟨Nat.le_of_ble_eq_true rfl, Nat.le_of_ble_eq_true rfl⟩ rfl rfl ?_
              refine V_eqI (y := nI n) hn ?_
              refine V_iaddN dX6_tell_77 ?_
              refine V_icmp_gtN (tgt := 94) dX6_tell_78 rfl (by omega) (by omega) (fun h78 => ?_) (fun h78 => ?_)
              · skip
                refine V_iload_n dX6_tell_94 rfl ?_
                refine V_bipush (v := nI 40) dX6_tell_95 rfl ?_
                refine V_icmp_ltN (tgt := 124) dX6_tell_97 rfl (by omega) (by omega) (fun h97 => ?_) (fun h97 => ?_)
                · skip
                  refine V_iconst (v := (-1)) dX6_tell_124 rfl ?_
                  exact V_iret ⟨Or.inl rfl, dX6_tell_125⟩ ⟨Nat.le_of_ble_eq_true rfl, Nat.le_of_ble_eq_true rfl⟩ ⟨rfl, congrArg (fun z => some (Value.int z)) (by rw [onN_k hk (by decide)]; unfold telL; first | (exfalso; omega; done) | ((repeat' first | rw [if_pos (by omega)] | rw [if_neg (by omega)]) <;> (first | rfl | (congr 1; omega)))), rfl, rfl⟩
                · skip
                  refine V_iload_n dX6_tell_100 rfl ?_
                  refine V_bipush (v := nI 40) dX6_tell_101 rfl ?_
                  refine V_aload_n dX6_tell_103 rfl ?_
                  refine V_getI dX6_tell_104 fX6_24 ⟨Nat.le_of_ble_eq_true rfl, Nat.le_of_ble_eq_true rfl⟩ rfl rfl ?_
                  refine V_eqI (y := nI n) hn ?_
                  refine V_iaddN dX6_tell_107 ?_
                  refine V_icmp_gtN (tgt := 124) dX6_tell_108 rfl (by omega) (by omega) (fun h108 => ?_) (fun h108 => ?_)
                  · skip
                    refine V_iconst (v := (-1)) dX6_tell_124 rfl ?_
                    exact V_iret ⟨Or.inl rfl, dX6_tell_125⟩ ⟨Nat.le_of_ble_eq_true rfl, Nat.le_of_ble_eq_true rfl⟩ ⟨rfl, congrArg (fun z => some (Value.int z)) (by rw [onN_k hk (by decide)]; unfold telL; first | (exfalso; omega; done) | ((repeat' first | rw [if_pos (by omega)] | rw [if_neg (by omega)]) <;> (first | rfl | (congr 1; omega)))), rfl, rfl⟩
                  · skip
                    refine V_aload_n dX6_tell_111 rfl ?_
                    refine V_aload_n dX6_tell_112 rfl ?_
                    refine V_iload_n dX6_tell_113 rfl ?_
                    refine V_bipush (v := nI 40) dX6_tell_114 rfl ?_
                    refine V_isubN dX6_tell_116 (by omega) ?_
                    refine V_callV (As := [.int (nI (k - 40))]) (st := [.ref 10]) (a := 36) dX6_tell_117 kX6_codeOf1 lX6_39 (by decide) rfl rfl (Nat.le_of_ble_eq_true rfl) ⟨Nat.le_of_ble_eq_true rfl, Nat.le_of_ble_eq_true rfl⟩ ⟨Nat.le_of_ble_eq_true rfl, Nat.le_of_ble_eq_true rfl⟩ rfl ⟨rfl, by decide⟩ (c_codeOf1 hL (by omega)) ?_
                    rintro _ _ _ _ ⟨rfl, rfl, rfl, rfl⟩
                    refine V_callV (As := [.int (nI (c1 (k - 40)))]) (st := []) (a := 10) dX6_tell_120 kX2_codeAt lX6_64 (by decide) rfl rfl (Nat.le_of_ble_eq_true rfl) ⟨Nat.le_of_ble_eq_true rfl, Nat.le_of_ble_eq_true rfl⟩ ⟨Nat.le_of_ble_eq_true rfl, Nat.le_of_ble_eq_true rfl⟩ rfl ⟨rfl, by decide⟩ (c_codeAt (hc _ (by omega)).2.2.2) ?_
                    rintro _ _ _ _ ⟨rfl, rfl, rfl, rfl⟩
                    exact V_iret ⟨Or.inl rfl, dX6_tell_123⟩ ⟨Nat.le_of_ble_eq_true rfl, Nat.le_of_ble_eq_true rfl⟩ ⟨rfl, congrArg (fun z => some (Value.int z)) (by rw [onN_k hk (by decide)]; unfold telL; first | (exfalso; omega; done) | ((repeat' first | rw [if_pos (by omega)] | rw [if_neg (by omega)]) <;> (first | rfl | (congr 1; omega)))), rfl, rfl⟩
              · skip
                refine V_aload_n dX6_tell_81 rfl ?_
                refine V_aload_n dX6_tell_82 rfl ?_
                refine V_iload_n dX6_tell_83 rfl ?_
                refine V_bipush (v := nI 30) dX6_tell_84 rfl ?_
                refine V_isubN dX6_tell_86 (by omega) ?_
                refine V_callV (As := [.int (nI (k - 30))]) (st := [.ref 10]) (a := 36) dX6_tell_87 kX6_codeOf0 lX6_35 (by decide) rfl rfl (Nat.le_of_ble_eq_true rfl) ⟨Nat.le_of_ble_eq_true rfl, Nat.le_of_ble_eq_true rfl⟩ ⟨Nat.le_of_ble_eq_true rfl, Nat.le_of_ble_eq_true rfl⟩ rfl ⟨rfl, by decide⟩ (c_codeOf0 hL (by omega)) ?_
                rintro _ _ _ _ ⟨rfl, rfl, rfl, rfl⟩
                refine V_callV (As := [.int (nI (c0 (k - 30)))]) (st := []) (a := 10) dX6_tell_90 kX2_codeAt lX6_64 (by decide) rfl rfl (Nat.le_of_ble_eq_true rfl) ⟨Nat.le_of_ble_eq_true rfl, Nat.le_of_ble_eq_true rfl⟩ ⟨Nat.le_of_ble_eq_true rfl, Nat.le_of_ble_eq_true rfl⟩ rfl ⟨rfl, by decide⟩ (c_codeAt (hc _ (by omega)).2.2.1) ?_
                rintro _ _ _ _ ⟨rfl, rfl, rfl, rfl⟩
                exact V_iret ⟨Or.inl rfl, dX6_tell_93⟩ ⟨Nat.le_of_ble_eq_true rfl, Nat.le_of_ble_eq_true rfl⟩ ⟨rfl, congrArg (fun z => some (Value.int z)) (by rw [onN_k hk (by decide)]; unfold telL; first | (exfalso; omega; done) | ((repeat' first | rw [if_pos (by omega)] | rw [if_neg (by omega)]) <;> (first | rfl | (congr 1; omega)))), rfl, rfl⟩
          · skip
            refine V_iload_n dX6_tell_41 rfl ?_
            refine V_bipush (v := nI 20) dX6_tell_42 rfl ?_
            refine V_aload_n dX6_tell_44 rfl ?_
            refine V_getI dX6_tell_45 fX6_24 ⟨Nat.le_of_ble_eq_true rfl, Nat.le_of_ble_eq_true rfl⟩ rfl rfl ?_
            refine V_eqI (y := nI n) hn ?_
            refine V_iaddN dX6_tell_48 ?_
            refine V_icmp_geN (tgt := 64) dX6_tell_49 rfl (by omega) (by omega) (fun h49 => ?_) (fun h49 => ?_)
            · skip
              refine V_iload_n dX6_tell_64 rfl ?_
              refine V_bipush (v := nI 30) dX6_tell_65 rfl ?_
              refine V_icmp_ltN (tgt := 94) dX6_tell_67 rfl (by omega) (by omega) (fun h67 => ?_) (fun h67 => ?_)
              · skip
                refine V_iload_n dX6_tell_94 rfl ?_
                refine V_bipush (v := nI 40) dX6_tell_95 rfl ?_
                refine V_icmp_ltN (tgt := 124) dX6_tell_97 rfl (by omega) (by omega) (fun h97 => ?_) (fun h97 => ?_)
                · skip
                  refine V_iconst (v := (-1)) dX6_tell_124 rfl ?_
                  exact V_iret ⟨Or.inl rfl, dX6_tell_125⟩ ⟨Nat.le_of_ble_eq_true rfl, Nat.le_of_ble_eq_true rfl⟩ ⟨rfl, congrArg (fun z => some (Value.int z)) (by rw [onN_k hk (by decide)]; unfold telL; first | (exfalso; omega; done) | ((repeat' first | rw [if_pos (by omega)] | rw [if_neg (by omega)]) <;> (first | rfl | (congr 1; omega)))), rfl, rfl⟩
                · skip
                  refine V_iload_n dX6_tell_100 rfl ?_
                  refine V_bipush (v := nI 40) dX6_tell_101 rfl ?_
                  refine V_aload_n dX6_tell_103 rfl ?_
                  refine V_getI dX6_tell_104 fX6_24 ⟨Nat.le_of_ble_eq_true rfl, Nat.le_of_ble_eq_true rfl⟩ rfl rfl ?_
                  refine V_eqI (y := nI n) hn ?_
                  refine V_iaddN dX6_tell_107 ?_
                  refine V_icmp_gtN (tgt := 124) dX6_tell_108 rfl (by omega) (by omega) (fun h108 => ?_) (fun h108 => ?_)
                  · skip
                    refine V_iconst (v := (-1)) dX6_tell_124 rfl ?_
                    exact V_iret ⟨Or.inl rfl, dX6_tell_125⟩ ⟨Nat.le_of_ble_eq_true rfl, Nat.le_of_ble_eq_true rfl⟩ ⟨rfl, congrArg (fun z => some (Value.int z)) (by rw [onN_k hk (by decide)]; unfold telL; first | (exfalso; omega; done) | ((repeat' first | rw [if_pos (by omega)] | rw [if_neg (by omega)]) <;> (first | rfl | (congr 1; omega)))), rfl, rfl⟩
                  · skip
                    refine V_aload_n dX6_tell_111 rfl ?_
                    refine V_aload_n dX6_tell_112 rfl ?_
                    refine V_iload_n dX6_tell_113 rfl ?_
                    refine V_bipush (v := nI 40) dX6_tell_114 rfl ?_
                    refine V_isubN dX6_tell_116 (by omega) ?_
                    refine V_callV (As := [.int (nI (k - 40))]) (st := [.ref 10]) (a := 36) dX6_tell_117 kX6_codeOf1 lX6_39 (by decide) rfl rfl (Nat.le_of_ble_eq_true rfl) ⟨Nat.le_of_ble_eq_true rfl, Nat.le_of_ble_eq_true rfl⟩ ⟨Nat.le_of_ble_eq_true rfl, Nat.le_of_ble_eq_true rfl⟩ rfl ⟨rfl, by decide⟩ (c_codeOf1 hL (by omega)) ?_
                    rintro _ _ _ _ ⟨rfl, rfl, rfl, rfl⟩
                    refine V_callV (As := [.int (nI (c1 (k - 40)))]) (st := []) (a := 10) dX6_tell_120 kX2_codeAt lX6_64 (by decide) rfl rfl (Nat.le_of_ble_eq_true rfl) ⟨Nat.le_of_ble_eq_true rfl, Nat.le_of_ble_eq_true rfl⟩ ⟨Nat.le_of_ble_eq_true rfl, Nat.le_of_ble_eq_true rfl⟩ rfl ⟨rfl, by decide⟩ (c_codeAt (hc _ (by omega)).2.2.2) ?_
                    rintro _ _ _ _ ⟨rfl, rfl, rfl, rfl⟩
                    exact V_iret ⟨Or.inl rfl, dX6_tell_123⟩ ⟨Nat.le_of_ble_eq_true rfl, Nat.le_of_ble_eq_true rfl⟩ ⟨rfl, congrArg (fun z => some (Value.int z)) (by rw [onN_k hk (by decide)]; unfold telL; first | (exfalso; omega; done) | ((repeat' first | rw [if_pos (by omega)] | rw [if_neg (by omega)]) <;> (first | rfl | (congr 1; omega)))), rfl, rfl⟩
              · skip
                refine V_iload_n dX6_tell_70 rfl ?_
                refine V_bipush (v := nI 30) dX6_tell_71 rfl ?_
                refine V_aload_n dX6_tell_73 rfl ?_
                refine V_getI dX6_tell_74 fX6_24 ⟨Nat.le_of_ble_eq_true rfl, Nat.le_of_ble_eq_true rfl⟩ rfl rfl ?_
                refine V_eqI (y := nI n) hn ?_
                refine V_iaddN dX6_tell_77 ?_
                refine V_icmp_gtN (tgt := 94) dX6_tell_78 rfl (by omega) (by omega) (fun h78 => ?_) (fun h78 => ?_)
                · skip
                  refine V_iload_n dX6_tell_94 rfl ?_
                  refine V_bipush (v := nI 40) dX6_tell_95 rfl ?_
                  refine V_icmp_ltN (tgt := 124) dX6_tell_97 rfl (by omega) (by omega) (fun h97 => ?_) (fun h97 => ?_)
                  · skip
                    refine V_iconst (v := (-1)) dX6_tell_124 rfl ?_
                    exact V_iret ⟨Or.inl rfl, dX6_tell_125⟩ ⟨Nat.le_of_ble_eq_true rfl, Nat.le_of_ble_eq_true rfl⟩ ⟨rfl, congrArg (fun z => some (Value.int z)) (by rw [onN_k hk (by decide)]; unfold telL; first | (exfalso; omega; done) | ((repeat' first | rw [if_pos (by omega)] | rw [if_neg (by omega)]) <;> (first | rfl | (congr 1; omega)))), rfl, rfl⟩
                  · skip
                    refine V_iload_n dX6_tell_100 rfl ?_
                    refine V_bipush (v := nI 40) dX6_tell_101 rfl ?_
                    refine V_aload_n dX6_tell_103 rfl ?_
                    refine V_getI dX6_tell_104 fX6_24 ⟨Nat.le_of_ble_eq_true rfl, Nat.le_of_ble_eq_true rfl⟩ rfl rfl ?_
                    refine V_eqI (y := nI n) hn ?_
                    refine V_iaddN dX6_tell_107 ?_
                    refine V_icmp_gtN (tgt := 124) dX6_tell_108 rfl (by omega) (by omega) (fun h108 => ?_) (fun h108 => ?_)
                    · skip
                      refine V_iconst (v := (-1)) dX6_tell_124 rfl ?_
                      exact V_iret ⟨Or.inl rfl, dX6_tell_125⟩ ⟨Nat.le_of_ble_eq_true rfl, Nat.le_of_ble_eq_true rfl⟩ ⟨rfl, congrArg (fun z => some (Value.int z)) (by rw [onN_k hk (by decide)]; unfold telL; first | (exfalso; omega; done) | ((repeat' first | rw [if_pos (by omega)] | rw [if_neg (by omega)]) <;> (first | rfl | (congr 1; omega)))), rfl, rfl⟩
                    · skip
                      refine V_aload_n dX6_tell_111 rfl ?_
                      refine V_aload_n dX6_tell_112 rfl ?_
                      refine V_iload_n dX6_tell_113 rfl ?_
                      refine V_bipush (v := nI 40) dX6_tell_114 rfl ?_
                      refine V_isubN dX6_tell_116 (by omega) ?_
                      refine V_callV (As := [.int (nI (k - 40))]) (st := [.ref 10]) (a := 36) dX6_tell_117 kX6_codeOf1 lX6_39 (by decide) rfl rfl (Nat.le_of_ble_eq_true rfl) ⟨Nat.le_of_ble_eq_true rfl, Nat.le_of_ble_eq_true rfl⟩ ⟨Nat.le_of_ble_eq_true rfl, Nat.le_of_ble_eq_true rfl⟩ rfl ⟨rfl, by decide⟩ (c_codeOf1 hL (by omega)) ?_
                      rintro _ _ _ _ ⟨rfl, rfl, rfl, rfl⟩
                      refine V_callV (As := [.int (nI (c1 (k - 40)))]) (st := []) (a := 10) dX6_tell_120 kX2_codeAt lX6_64 (by decide) rfl rfl (Nat.le_of_ble_eq_true rfl) ⟨Nat.le_of_ble_eq_true rfl, Nat.le_of_ble_eq_true rfl⟩ ⟨Nat.le_of_ble_eq_true rfl, Nat.le_of_ble_eq_true rfl⟩ rfl ⟨rfl, by decide⟩ (c_codeAt (hc _ (by omega)).2.2.2) ?_
                      rintro _ _ _ _ ⟨rfl, rfl, rfl, rfl⟩
                      exact V_iret ⟨Or.inl rfl, dX6_tell_123⟩ ⟨Nat.le_of_ble_eq_true rfl, Nat.le_of_ble_eq_true rfl⟩ ⟨rfl, congrArg (fun z => some (Value.int z)) (by rw [onN_k hk (by decide)]; unfold telL; first | (exfalso; omega; done) | ((repeat' first | rw [if_pos (by omega)] | rw [if_neg (by omega)]) <;> (first | rfl | (congr 1; omega)))), rfl, rfl⟩
                · skip
                  refine V_aload_n dX6_tell_81 rfl ?_
                  refine V_aload_n dX6_tell_82 rfl ?_
                  refine V_iload_n dX6_tell_83 rfl ?_
                  refine V_bipush (v := nI 30) dX6_tell_84 rfl ?_
                  refine V_isubN dX6_tell_86 (by omega) ?_
                  refine V_callV (As := [.int (nI (k - 30))]) (st := [.ref 10]) (a := 36) dX6_tell_87 kX6_codeOf0 lX6_35 (by decide) rfl rfl (Nat.le_of_ble_eq_true rfl) ⟨Nat.le_of_ble_eq_true rfl, Nat.le_of_ble_eq_true rfl⟩ ⟨Nat.le_of_ble_eq_true rfl, Nat.le_of_ble_eq_true rfl⟩ rfl ⟨rfl, by decide⟩ (c_codeOf0 hL (by omega)) ?_
                  rintro _ _ _ _ ⟨rfl, rfl, rfl, rfl⟩
                  refine V_callV (As := [.int (nI (c0 (k - 30)))]) (st := []) (a := 10) dX6_tell_90 kX2_codeAt lX6_64 (by decide) rfl rfl (Nat.le_of_ble_eq_true rfl) ⟨Nat.le_of_ble_eq_true rfl, Nat.le_of_ble_eq_true rfl⟩ ⟨Nat.le_of_ble_eq_true rfl, Nat.le_of_ble_eq_true rfl⟩ rfl ⟨rfl, by decide⟩ (c_codeAt (hc _ (by omega)).2.2.1) ?_
                  rintro _ _ _ _ ⟨rfl, rfl, rfl, rfl⟩
                  exact V_iret ⟨Or.inl rfl, dX6_tell_93⟩ ⟨Nat.le_of_ble_eq_true rfl, Nat.le_of_ble_eq_true rfl⟩ ⟨rfl, congrArg (fun z => some (Value.int z)) (by rw [onN_k hk (by decide)]; unfold telL; first | (exfalso; omega; done) | ((repeat' first | rw [if_pos (by omega)] | rw [if_neg (by omega)]) <;> (first | rfl | (congr 1; omega)))), rfl, rfl⟩
            · skip
              refine V_aload_n dX6_tell_52 rfl ?_
              refine V_getR (b := 38) dX6_tell_53 fX6_15 ⟨Nat.le_of_ble_eq_true rfl, Nat.le_of_ble_eq_true rfl⟩ rfl rfl rfl ?_
              refine V_iload_n dX6_tell_56 rfl ?_
              refine V_bipush (v := nI 20) dX6_tell_57 rfl ?_
              refine V_isubN dX6_tell_59 (by omega) ?_
              refine V_callS (As := [.ref 38, .int (nI (k - 20))]) (st := []) dX6_tell_60 kX11_at lX6_31 (by decide) rfl rfl (Nat.le_of_ble_eq_true rfl) ⟨Nat.le_of_ble_eq_true rfl, Nat.le_of_ble_eq_true rfl⟩ (c_at (a := 38) (n := 6) ⟨Nat.le_of_ble_eq_true rfl, Nat.le_of_ble_eq_true rfl⟩ rfl (by decide) (by omega)) ?_
              rintro _ _ _ _ ⟨rfl, rfl, rfl, rfl⟩
              refine V_eqI (y := nI (sd (k - 20))) (hr (k - 20) (by omega)).2.1 ?_
              exact V_iret ⟨Or.inl rfl, dX6_tell_63⟩ ⟨Nat.le_of_ble_eq_true rfl, Nat.le_of_ble_eq_true rfl⟩ ⟨rfl, congrArg (fun z => some (Value.int z)) (by rw [onN_k hk (by decide)]; unfold telL; first | (exfalso; omega; done) | ((repeat' first | rw [if_pos (by omega)] | rw [if_neg (by omega)]) <;> (first | rfl | (congr 1; omega)))), rfl, rfl⟩
        · skip
          refine V_aload_n dX6_tell_26 rfl ?_
          refine V_iload_n dX6_tell_27 rfl ?_
          refine V_bipush (v := nI 10) dX6_tell_28 rfl ?_
          refine V_isubN dX6_tell_30 (by omega) ?_
          refine V_callV (As := [.int (nI (k - 10))]) (st := []) (a := 36) dX6_tell_31 kX6_throwOf lX6_61 (by decide) rfl rfl (Nat.le_of_ble_eq_true rfl) ⟨Nat.le_of_ble_eq_true rfl, Nat.le_of_ble_eq_true rfl⟩ ⟨Nat.le_of_ble_eq_true rfl, Nat.le_of_ble_eq_true rfl⟩ rfl ⟨rfl, by decide⟩ (c_throwOf hL (by omega)) ?_
          rintro _ _ _ _ ⟨rfl, rfl, rfl, rfl⟩
          exact V_iret ⟨Or.inl rfl, dX6_tell_34⟩ ⟨Nat.le_of_ble_eq_true rfl, Nat.le_of_ble_eq_true rfl⟩ ⟨rfl, congrArg (fun z => some (Value.int z)) (by rw [onN_k hk (by decide)]; unfold telL; first | (exfalso; omega; done) | ((repeat' first | rw [if_pos (by omega)] | rw [if_neg (by omega)]) <;> (first | rfl | (congr 1; omega)))), rfl, rfl⟩
    · skip
      refine V_aload_n dX6_tell_4 rfl ?_
      refine V_getI dX6_tell_5 fX6_24 ⟨Nat.le_of_ble_eq_true rfl, Nat.le_of_ble_eq_true rfl⟩ rfl rfl ?_
      refine V_eqI (y := nI n) hn ?_
      exact V_iret ⟨Or.inl rfl, dX6_tell_8⟩ ⟨Nat.le_of_ble_eq_true rfl, Nat.le_of_ble_eq_true rfl⟩ ⟨rfl, congrArg (fun z => some (Value.int z)) (by rw [onN_k hk (by decide)]; unfold telL; first | (exfalso; omega; done) | ((repeat' first | rw [if_pos (by omega)] | rw [if_neg (by omega)]) <;> (first | rfl | (congr 1; omega)))), rfl, rfl⟩

set_option maxRecDepth 100000 in
set_option maxHeartbeats 4000000 in
theorem c_tellL0 {G : zG} {I : zI} {J : zJ} (hn : I 36 5 = -1) {what : Int32} : zK G mX6_tell 2 [.ref 36, .ref 10, .int what] zsh I J (zA0 (.int (-1)) I J) := by
  refine zK_of kX6_tell.2.2.2.2.1 (Nat.le_of_ble_eq_true rfl) ?_
  show V G mX6_tell 2 _ 0 [(0, .ref 36), (1, .ref 10), (2, .int what)] [] (0, 0) zsh I J
  rcases ix3 what 47 (by decide) with hw | hw | ⟨k, hk, rfl⟩
  · skip
    refine V_iload_n dX6_tell_0 rfl ?_
    refine V_if_ne (tgt := 9) dX6_tell_1 rfl (fun _ => ?_) (fun h => absurd h (by rw [oz_eq]; omega))
    refine V_iload_n dX6_tell_9 rfl ?_
    refine V_bipush (v := nI 10) dX6_tell_10 rfl ?_
    refine V_icmp_lt (tgt := 35) dX6_tell_12 rfl (fun _ => ?_) (fun h => absurd (by rw [oi_lt (by decide)]; omega) h)
    refine V_iload_n dX6_tell_35 rfl ?_
    refine V_bipush (v := nI 20) dX6_tell_36 rfl ?_
    refine V_icmp_lt (tgt := 64) dX6_tell_38 rfl (fun _ => ?_) (fun h => absurd (by rw [oi_lt (by decide)]; omega) h)
    refine V_iload_n dX6_tell_64 rfl ?_
    refine V_bipush (v := nI 30) dX6_tell_65 rfl ?_
    refine V_icmp_lt (tgt := 94) dX6_tell_67 rfl (fun _ => ?_) (fun h => absurd (by rw [oi_lt (by decide)]; omega) h)
    refine V_iload_n dX6_tell_94 rfl ?_
    refine V_bipush (v := nI 40) dX6_tell_95 rfl ?_
    refine V_icmp_lt (tgt := 124) dX6_tell_97 rfl (fun _ => ?_) (fun h => absurd (by rw [oi_lt (by decide)]; omega) h)
    refine V_iconst (v := (-1)) dX6_tell_124 rfl ?_
    exact V_iret ⟨Or.inl rfl, dX6_tell_125⟩ ⟨Nat.le_of_ble_eq_true rfl, Nat.le_of_ble_eq_true rfl⟩ ⟨rfl, rfl, rfl, rfl⟩
  · skip
    refine V_iload_n dX6_tell_0 rfl ?_
    refine V_if_ne (tgt := 9) dX6_tell_1 rfl (fun _ => ?_) (fun h => absurd h (by rw [oz_eq]; omega))
    refine V_iload_n dX6_tell_9 rfl ?_
    refine V_bipush (v := nI 10) dX6_tell_10 rfl ?_
    refine V_icmp_lt (tgt := 35) dX6_tell_12 rfl (fun h => absurd h (by rw [oi_lt (by decide)]; omega)) (fun _ => ?_)
    refine V_iload_n dX6_tell_15 rfl ?_
    refine V_bipush (v := nI 10) dX6_tell_16 rfl ?_
    refine V_aload_n dX6_tell_18 rfl ?_
    refine V_getI dX6_tell_19 fX6_24 ⟨Nat.le_of_ble_eq_true rfl, Nat.le_of_ble_eq_true rfl⟩ rfl rfl ?_
    refine V_eqI (y := (-1)) hn ?_
    refine V_iadd dX6_tell_22 (V_eqI (y := nI 9) (by decide) ?_)
    refine V_icmp_ge (tgt := 35) dX6_tell_23 rfl (fun _ => ?_) (fun h => absurd (by rw [oi_ge (by decide)]; omega) h)
    refine V_iload_n dX6_tell_35 rfl ?_
    refine V_bipush (v := nI 20) dX6_tell_36 rfl ?_
    refine V_icmp_lt (tgt := 64) dX6_tell_38 rfl (fun h => absurd h (by rw [oi_lt (by decide)]; omega)) (fun _ => ?_)
    refine V_iload_n dX6_tell_41 rfl ?_
    refine V_bipush (v := nI 20) dX6_tell_42 rfl ?_
    refine V_aload_n dX6_tell_44 rfl ?_
    refine V_getI dX6_tell_45 fX6_24 ⟨Nat.le_of_ble_eq_true rfl, Nat.le_of_ble_eq_true rfl⟩ rfl rfl ?_
    refine V_eqI (y := (-1)) hn ?_
    refine V_iadd dX6_tell_48 (V_eqI (y := nI 19) (by decide) ?_)
    refine V_icmp_ge (tgt := 64) dX6_tell_49 rfl (fun _ => ?_) (fun h => absurd (by rw [oi_ge (by decide)]; omega) h)
    refine V_iload_n dX6_tell_64 rfl ?_
    refine V_bipush (v := nI 30) dX6_tell_65 rfl ?_
    refine V_icmp_lt (tgt := 94) dX6_tell_67 rfl (fun h => absurd h (by rw [oi_lt (by decide)]; omega)) (fun _ => ?_)
    refine V_iload_n dX6_tell_70 rfl ?_
    refine V_bipush (v := nI 30) dX6_tell_71 rfl ?_
    refine V_aload_n dX6_tell_73 rfl ?_
    refine V_getI dX6_tell_74 fX6_24 ⟨Nat.le_of_ble_eq_true rfl, Nat.le_of_ble_eq_true rfl⟩ rfl rfl ?_
    refine V_eqI (y := (-1)) hn ?_
    refine V_iadd dX6_tell_77 (V_eqI (y := nI 29) (by decide) ?_)
    refine V_icmp_gt (tgt := 94) dX6_tell_78 rfl (fun _ => ?_) (fun h => absurd (by rw [oi_gt (by decide)]; omega) h)
    refine V_iload_n dX6_tell_94 rfl ?_
    refine V_bipush (v := nI 40) dX6_tell_95 rfl ?_
    refine V_icmp_lt (tgt := 124) dX6_tell_97 rfl (fun h => absurd h (by rw [oi_lt (by decide)]; omega)) (fun _ => ?_)
    refine V_iload_n dX6_tell_100 rfl ?_
    refine V_bipush (v := nI 40) dX6_tell_101 rfl ?_
    refine V_aload_n dX6_tell_103 rfl ?_
    refine V_getI dX6_tell_104 fX6_24 ⟨Nat.le_of_ble_eq_true rfl, Nat.le_of_ble_eq_true rfl⟩ rfl rfl ?_
    refine V_eqI (y := (-1)) hn ?_
    refine V_iadd dX6_tell_107 (V_eqI (y := nI 39) (by decide) ?_)
    refine V_icmp_gt (tgt := 124) dX6_tell_108 rfl (fun _ => ?_) (fun h => absurd (by rw [oi_gt (by decide)]; omega) h)
    refine V_iconst (v := (-1)) dX6_tell_124 rfl ?_
    exact V_iret ⟨Or.inl rfl, dX6_tell_125⟩ ⟨Nat.le_of_ble_eq_true rfl, Nat.le_of_ble_eq_true rfl⟩ ⟨rfl, rfl, rfl, rfl⟩
  · skip
    refine V_iload_n dX6_tell_0 rfl ?_
    refine V_if_neN (tgt := 9) dX6_tell_1 rfl (by omega) (fun h1 => ?_) (fun h1 => ?_)
    · skip
      refine V_iload_n dX6_tell_9 rfl ?_
      refine V_bipush (v := nI 10) dX6_tell_10 rfl ?_
      refine V_icmp_ltN (tgt := 35) dX6_tell_12 rfl (by omega) (by omega) (fun h12 => ?_) (fun h12 => ?_)
      · skip
        refine V_iload_n dX6_tell_35 rfl ?_
        refine V_bipush (v := nI 20) dX6_tell_36 rfl ?_
        refine V_icmp_ltN (tgt := 64) dX6_tell_38 rfl (by omega) (by omega) (fun h38 => ?_) (fun h38 => ?_)
        · skip
          refine V_iload_n dX6_tell_64 rfl ?_
          refine V_bipush (v := nI 30) dX6_tell_65 rfl ?_
          refine V_icmp_ltN (tgt := 94) dX6_tell_67 rfl (by omega) (by omega) (fun h67 => ?_) (fun h67 => ?_)
          · skip
            refine V_iload_n dX6_tell_94 rfl ?_
            refine V_bipush (v := nI 40) dX6_tell_95 rfl ?_
            refine V_icmp_ltN (tgt := 124) dX6_tell_97 rfl (by omega) (by omega) (fun h97 => ?_) (fun h97 => ?_)
            · skip
              refine V_iconst (v := (-1)) dX6_tell_124 rfl ?_
              exact V_iret ⟨Or.inl rfl, dX6_tell_125⟩ ⟨Nat.le_of_ble_eq_true rfl, Nat.le_of_ble_eq_true rfl⟩ ⟨rfl, rfl, rfl, rfl⟩
            · skip
              refine V_iload_n dX6_tell_100 rfl ?_
              refine V_bipush (v := nI 40) dX6_tell_101 rfl ?_
              refine V_aload_n dX6_tell_103 rfl ?_
              refine V_getI dX6_tell_104 fX6_24 ⟨Nat.le_of_ble_eq_true rfl, Nat.le_of_ble_eq_true rfl⟩ rfl rfl ?_
              refine V_eqI (y := (-1)) hn ?_
              refine V_iadd dX6_tell_107 (V_eqI (y := nI 39) (by decide) ?_)
              refine V_icmp_gtN (tgt := 124) dX6_tell_108 rfl (by omega) (by omega) (fun _ => ?_) (fun h => absurd h (by omega))
              refine V_iconst (v := (-1)) dX6_tell_124 rfl ?_
              exact V_iret ⟨Or.inl rfl, dX6_tell_125⟩ ⟨Nat.le_of_ble_eq_true rfl, Nat.le_of_ble_eq_true rfl⟩ ⟨rfl, rfl, rfl, rfl⟩
          · skip
            refine V_iload_n dX6_tell_70 rfl ?_
            refine V_bipush (v := nI 30) dX6_tell_71 rfl ?_
            refine V_aload_n dX6_tell_73 rfl ?_
            refine V_getI dX6_tell_74 fX6_24 ⟨Nat.le_of_ble_eq_true rfl, Nat.le_of_ble_eq_true rfl⟩ rfl rfl ?_
            refine V_eqI (y := (-1)) hn ?_
            refine V_iadd dX6_tell_77 (V_eqI (y := nI 29) (by decide) ?_)
            refine V_icmp_gtN (tgt := 94) dX6_tell_78 rfl (by omega) (by omega) (fun _ => ?_) (fun h => absurd h (by omega))
            refine V_iload_n dX6_tell_94 rfl ?_
            refine V_bipush (v := nI 40) dX6_tell_95 rfl ?_
            refine V_icmp_ltN (tgt := 124) dX6_tell_97 rfl (by omega) (by omega) (fun h97 => ?_) (fun h97 => ?_)
            · skip
              refine V_iconst (v := (-1)) dX6_tell_124 rfl ?_
              exact V_iret ⟨Or.inl rfl, dX6_tell_125⟩ ⟨Nat.le_of_ble_eq_true rfl, Nat.le_of_ble_eq_true rfl⟩ ⟨rfl, rfl, rfl, rfl⟩
            · skip
              refine V_iload_n dX6_tell_100 rfl ?_
              refine V_bipush (v := nI 40) dX6_tell_101 rfl ?_
              refine V_aload_n dX6_tell_103 rfl ?_
              refine V_getI dX6_tell_104 fX6_24 ⟨Nat.le_of_ble_eq_true rfl, Nat.le_of_ble_eq_true rfl⟩ rfl rfl ?_
              refine V_eqI (y := (-1)) hn ?_
              refine V_iadd dX6_tell_107 (V_eqI (y := nI 39) (by decide) ?_)
              refine V_icmp_gtN (tgt := 124) dX6_tell_108 rfl (by omega) (by omega) (fun _ => ?_) (fun h => absurd h (by omega))
              refine V_iconst (v := (-1)) dX6_tell_124 rfl ?_
              exact V_iret ⟨Or.inl rfl, dX6_tell_125⟩ ⟨Nat.le_of_ble_eq_true rfl, Nat.le_of_ble_eq_true rfl⟩ ⟨rfl, rfl, rfl, rfl⟩
        · skip
          refine V_iload_n dX6_tell_41 rfl ?_
          refine V_bipush (v := nI 20) dX6_tell_42 rfl ?_
          refine V_aload_n dX6_tell_44 rfl ?_
          refine V_getI dX6_tell_45 fX6_24 ⟨Nat.le_of_ble_eq_true rfl, Nat.le_of_ble_eq_true rfl⟩ rfl rfl ?_
          refine V_eqI (y := (-1)) hn ?_
          refine V_iadd dX6_tell_48 (V_eqI (y := nI 19) (by decide) ?_)
          refine V_icmp_geN (tgt := 64) dX6_tell_49 rfl (by omega) (by omega) (fun _ => ?_) (fun h => absurd h (by omega))
          refine V_iload_n dX6_tell_64 rfl ?_
          refine V_bipush (v := nI 30) dX6_tell_65 rfl ?_
          refine V_icmp_ltN (tgt := 94) dX6_tell_67 rfl (by omega) (by omega) (fun h67 => ?_) (fun h67 => ?_)
          · skip
            refine V_iload_n dX6_tell_94 rfl ?_
            refine V_bipush (v := nI 40) dX6_tell_95 rfl ?_
            refine V_icmp_ltN (tgt := 124) dX6_tell_97 rfl (by omega) (by omega) (fun h97 => ?_) (fun h97 => ?_)
            · skip
              refine V_iconst (v := (-1)) dX6_tell_124 rfl ?_
              exact V_iret ⟨Or.inl rfl, dX6_tell_125⟩ ⟨Nat.le_of_ble_eq_true rfl, Nat.le_of_ble_eq_true rfl⟩ ⟨rfl, rfl, rfl, rfl⟩
            · skip
              refine V_iload_n dX6_tell_100 rfl ?_
              refine V_bipush (v := nI 40) dX6_tell_101 rfl ?_
              refine V_aload_n dX6_tell_103 rfl ?_
              refine V_getI dX6_tell_104 fX6_24 ⟨Nat.le_of_ble_eq_true rfl, Nat.le_of_ble_eq_true rfl⟩ rfl rfl ?_
              refine V_eqI (y := (-1)) hn ?_
              refine V_iadd dX6_tell_107 (V_eqI (y := nI 39) (by decide) ?_)
              refine V_icmp_gtN (tgt := 124) dX6_tell_108 rfl (by omega) (by omega) (fun _ => ?_) (fun h => absurd h (by omega))
              refine V_iconst (v := (-1)) dX6_tell_124 rfl ?_
              exact V_iret ⟨Or.inl rfl, dX6_tell_125⟩ ⟨Nat.le_of_ble_eq_true rfl, Nat.le_of_ble_eq_true rfl⟩ ⟨rfl, rfl, rfl, rfl⟩
          · skip
            refine V_iload_n dX6_tell_70 rfl ?_
            refine V_bipush (v := nI 30) dX6_tell_71 rfl ?_
            refine V_aload_n dX6_tell_73 rfl ?_
            refine V_getI dX6_tell_74 fX6_24 ⟨Nat.le_of_ble_eq_true rfl, Nat.le_of_ble_eq_true rfl⟩ rfl rfl ?_
            refine V_eqI (y := (-1)) hn ?_
            refine V_iadd dX6_tell_77 (V_eqI (y := nI 29) (by decide) ?_)
            refine V_icmp_gtN (tgt := 94) dX6_tell_78 rfl (by omega) (by omega) (fun _ => ?_) (fun h => absurd h (by omega))
            refine V_iload_n dX6_tell_94 rfl ?_
            refine V_bipush (v := nI 40) dX6_tell_95 rfl ?_
            refine V_icmp_ltN (tgt := 124) dX6_tell_97 rfl (by omega) (by omega) (fun h97 => ?_) (fun h97 => ?_)
            · skip
              refine V_iconst (v := (-1)) dX6_tell_124 rfl ?_
              exact V_iret ⟨Or.inl rfl, dX6_tell_125⟩ ⟨Nat.le_of_ble_eq_true rfl, Nat.le_of_ble_eq_true rfl⟩ ⟨rfl, rfl, rfl, rfl⟩
            · skip
              refine V_iload_n dX6_tell_100 rfl ?_
              refine V_bipush (v := nI 40) dX6_tell_101 rfl ?_
              refine V_aload_n dX6_tell_103 rfl ?_
              refine V_getI dX6_tell_104 fX6_24 ⟨Nat.le_of_ble_eq_true rfl, Nat.le_of_ble_eq_true rfl⟩ rfl rfl ?_
              refine V_eqI (y := (-1)) hn ?_
              refine V_iadd dX6_tell_107 (V_eqI (y := nI 39) (by decide) ?_)
              refine V_icmp_gtN (tgt := 124) dX6_tell_108 rfl (by omega) (by omega) (fun _ => ?_) (fun h => absurd h (by omega))
              refine V_iconst (v := (-1)) dX6_tell_124 rfl ?_
              exact V_iret ⟨Or.inl rfl, dX6_tell_125⟩ ⟨Nat.le_of_ble_eq_true rfl, Nat.le_of_ble_eq_true rfl⟩ ⟨rfl, rfl, rfl, rfl⟩
      · skip
        refine V_iload_n dX6_tell_15 rfl ?_
        refine V_bipush (v := nI 10) dX6_tell_16 rfl ?_
        refine V_aload_n dX6_tell_18 rfl ?_
        refine V_getI dX6_tell_19 fX6_24 ⟨Nat.le_of_ble_eq_true rfl, Nat.le_of_ble_eq_true rfl⟩ rfl rfl ?_
        refine V_eqI (y := (-1)) hn ?_
        refine V_iadd dX6_tell_22 (V_eqI (y := nI 9) (by decide) ?_)
        refine V_icmp_geN (tgt := 35) dX6_tell_23 rfl (by omega) (by omega) (fun _ => ?_) (fun h => absurd h (by omega))
        refine V_iload_n dX6_tell_35 rfl ?_
        refine V_bipush (v := nI 20) dX6_tell_36 rfl ?_
        refine V_icmp_ltN (tgt := 64) dX6_tell_38 rfl (by omega) (by omega) (fun h38 => ?_) (fun h38 => ?_)
        · skip
          refine V_iload_n dX6_tell_64 rfl ?_
          refine V_bipush (v := nI 30) dX6_tell_65 rfl ?_
          refine V_icmp_ltN (tgt := 94) dX6_tell_67 rfl (by omega) (by omega) (fun h67 => ?_) (fun h67 => ?_)
          · skip
            refine V_iload_n dX6_tell_94 rfl ?_
            refine V_bipush (v := nI 40) dX6_tell_95 rfl ?_
            refine V_icmp_ltN (tgt := 124) dX6_tell_97 rfl (by omega) (by omega) (fun h97 => ?_) (fun h97 => ?_)
            · skip
              refine V_iconst (v := (-1)) dX6_tell_124 rfl ?_
              exact V_iret ⟨Or.inl rfl, dX6_tell_125⟩ ⟨Nat.le_of_ble_eq_true rfl, Nat.le_of_ble_eq_true rfl⟩ ⟨rfl, rfl, rfl, rfl⟩
            · skip
              refine V_iload_n dX6_tell_100 rfl ?_
              refine V_bipush (v := nI 40) dX6_tell_101 rfl ?_
              refine V_aload_n dX6_tell_103 rfl ?_
              refine V_getI dX6_tell_104 fX6_24 ⟨Nat.le_of_ble_eq_true rfl, Nat.le_of_ble_eq_true rfl⟩ rfl rfl ?_
              refine V_eqI (y := (-1)) hn ?_
              refine V_iadd dX6_tell_107 (V_eqI (y := nI 39) (by decide) ?_)
              refine V_icmp_gtN (tgt := 124) dX6_tell_108 rfl (by omega) (by omega) (fun _ => ?_) (fun h => absurd h (by omega))
              refine V_iconst (v := (-1)) dX6_tell_124 rfl ?_
              exact V_iret ⟨Or.inl rfl, dX6_tell_125⟩ ⟨Nat.le_of_ble_eq_true rfl, Nat.le_of_ble_eq_true rfl⟩ ⟨rfl, rfl, rfl, rfl⟩
          · skip
            refine V_iload_n dX6_tell_70 rfl ?_
            refine V_bipush (v := nI 30) dX6_tell_71 rfl ?_
            refine V_aload_n dX6_tell_73 rfl ?_
            refine V_getI dX6_tell_74 fX6_24 ⟨Nat.le_of_ble_eq_true rfl, Nat.le_of_ble_eq_true rfl⟩ rfl rfl ?_
            refine V_eqI (y := (-1)) hn ?_
            refine V_iadd dX6_tell_77 (V_eqI (y := nI 29) (by decide) ?_)
            refine V_icmp_gtN (tgt := 94) dX6_tell_78 rfl (by omega) (by omega) (fun _ => ?_) (fun h => absurd h (by omega))
            refine V_iload_n dX6_tell_94 rfl ?_
            refine V_bipush (v := nI 40) dX6_tell_95 rfl ?_
            refine V_icmp_ltN (tgt := 124) dX6_tell_97 rfl (by omega) (by omega) (fun h97 => ?_) (fun h97 => ?_)
            · skip
              refine V_iconst (v := (-1)) dX6_tell_124 rfl ?_
              exact V_iret ⟨Or.inl rfl, dX6_tell_125⟩ ⟨Nat.le_of_ble_eq_true rfl, Nat.le_of_ble_eq_true rfl⟩ ⟨rfl, rfl, rfl, rfl⟩
            · skip
              refine V_iload_n dX6_tell_100 rfl ?_
              refine V_bipush (v := nI 40) dX6_tell_101 rfl ?_
              refine V_aload_n dX6_tell_103 rfl ?_
              refine V_getI dX6_tell_104 fX6_24 ⟨Nat.le_of_ble_eq_true rfl, Nat.le_of_ble_eq_true rfl⟩ rfl rfl ?_
              refine V_eqI (y := (-1)) hn ?_
              refine V_iadd dX6_tell_107 (V_eqI (y := nI 39) (by decide) ?_)
              refine V_icmp_gtN (tgt := 124) dX6_tell_108 rfl (by omega) (by omega) (fun _ => ?_) (fun h => absurd h (by omega))
              refine V_iconst (v := (-1)) dX6_tell_124 rfl ?_
              exact V_iret ⟨Or.inl rfl, dX6_tell_125⟩ ⟨Nat.le_of_ble_eq_true rfl, Nat.le_of_ble_eq_true rfl⟩ ⟨rfl, rfl, rfl, rfl⟩
        · skip
          refine V_iload_n dX6_tell_41 rfl ?_
          refine V_bipush (v := nI 20) dX6_tell_42 rfl ?_
          refine V_aload_n dX6_tell_44 rfl ?_
          refine V_getI dX6_tell_45 fX6_24 ⟨Nat.le_of_ble_eq_true rfl, Nat.le_of_ble_eq_true rfl⟩ rfl rfl ?_
          refine V_eqI (y := (-1)) hn ?_
          refine V_iadd dX6_tell_48 (V_eqI (y := nI 19) (by decide) ?_)
          refine V_icmp_geN (tgt := 64) dX6_tell_49 rfl (by omega) (by omega) (fun _ => ?_) (fun h => absurd h (by omega))
          refine V_iload_n dX6_tell_64 rfl ?_
          refine V_bipush (v := nI 30) dX6_tell_65 rfl ?_
          refine V_icmp_ltN (tgt := 94) dX6_tell_67 rfl (by omega) (by omega) (fun h67 => ?_) (fun h67 => ?_)
          · skip
            refine V_iload_n dX6_tell_94 rfl ?_
            refine V_bipush (v := nI 40) dX6_tell_95 rfl ?_
            refine V_icmp_ltN (tgt := 124) dX6_tell_97 rfl (by omega) (by omega) (fun h97 => ?_) (fun h97 => ?_)
            · skip
              refine V_iconst (v := (-1)) dX6_tell_124 rfl ?_
              exact V_iret ⟨Or.inl rfl, dX6_tell_125⟩ ⟨Nat.le_of_ble_eq_true rfl, Nat.le_of_ble_eq_true rfl⟩ ⟨rfl, rfl, rfl, rfl⟩
            · skip
              refine V_iload_n dX6_tell_100 rfl ?_
              refine V_bipush (v := nI 40) dX6_tell_101 rfl ?_
              refine V_aload_n dX6_tell_103 rfl ?_
              refine V_getI dX6_tell_104 fX6_24 ⟨Nat.le_of_ble_eq_true rfl, Nat.le_of_ble_eq_true rfl⟩ rfl rfl ?_
              refine V_eqI (y := (-1)) hn ?_
              refine V_iadd dX6_tell_107 (V_eqI (y := nI 39) (by decide) ?_)
              refine V_icmp_gtN (tgt := 124) dX6_tell_108 rfl (by omega) (by omega) (fun _ => ?_) (fun h => absurd h (by omega))
              refine V_iconst (v := (-1)) dX6_tell_124 rfl ?_
              exact V_iret ⟨Or.inl rfl, dX6_tell_125⟩ ⟨Nat.le_of_ble_eq_true rfl, Nat.le_of_ble_eq_true rfl⟩ ⟨rfl, rfl, rfl, rfl⟩
          · skip
            refine V_iload_n dX6_tell_70 rfl ?_
            refine V_bipush (v := nI 30) dX6_tell_71 rfl ?_
            refine V_aload_n dX6_tell_73 rfl ?_
            refine V_getI dX6_tell_74 fX6_24 ⟨Nat.le_of_ble_eq_true rfl, Nat.le_of_ble_eq_true rfl⟩ rfl rfl ?_
            refine V_eqI (y := (-1)) hn ?_
            refine V_iadd dX6_tell_77 (V_eqI (y := nI 29) (by decide) ?_)
            refine V_icmp_gtN (tgt := 94) dX6_tell_78 rfl (by omega) (by omega) (fun _ => ?_) (fun h => absurd h (by omega))
            refine V_iload_n dX6_tell_94 rfl ?_
            refine V_bipush (v := nI 40) dX6_tell_95 rfl ?_
            refine V_icmp_ltN (tgt := 124) dX6_tell_97 rfl (by omega) (by omega) (fun h97 => ?_) (fun h97 => ?_)
            · skip
              refine V_iconst (v := (-1)) dX6_tell_124 rfl ?_
              exact V_iret ⟨Or.inl rfl, dX6_tell_125⟩ ⟨Nat.le_of_ble_eq_true rfl, Nat.le_of_ble_eq_true rfl⟩ ⟨rfl, rfl, rfl, rfl⟩
            · skip
              refine V_iload_n dX6_tell_100 rfl ?_
              refine V_bipush (v := nI 40) dX6_tell_101 rfl ?_
              refine V_aload_n dX6_tell_103 rfl ?_
              refine V_getI dX6_tell_104 fX6_24 ⟨Nat.le_of_ble_eq_true rfl, Nat.le_of_ble_eq_true rfl⟩ rfl rfl ?_
              refine V_eqI (y := (-1)) hn ?_
              refine V_iadd dX6_tell_107 (V_eqI (y := nI 39) (by decide) ?_)
              refine V_icmp_gtN (tgt := 124) dX6_tell_108 rfl (by omega) (by omega) (fun _ => ?_) (fun h => absurd h (by omega))
              refine V_iconst (v := (-1)) dX6_tell_124 rfl ?_
              exact V_iret ⟨Or.inl rfl, dX6_tell_125⟩ ⟨Nat.le_of_ble_eq_true rfl, Nat.le_of_ble_eq_true rfl⟩ ⟨rfl, rfl, rfl, rfl⟩
    · skip
      refine V_aload_n dX6_tell_4 rfl ?_
      refine V_getI dX6_tell_5 fX6_24 ⟨Nat.le_of_ble_eq_true rfl, Nat.le_of_ble_eq_true rfl⟩ rfl rfl ?_
      refine V_eqI (y := (-1)) hn ?_
      exact V_iret ⟨Or.inl rfl, dX6_tell_8⟩ ⟨Nat.le_of_ble_eq_true rfl, Nat.le_of_ble_eq_true rfl⟩ ⟨rfl, rfl, rfl, rfl⟩

