/-! THE MODEL: one state settled -/
theorem woc_y {one x : Int32} (h : ¬ x < one) : sWoc 2 one x = 1 := by
  have h2 : one ≤ x := Int32.not_lt.mp h
  simp [sWoc, h2]
theorem woc_n {one x : Int32} (h : x < one) : sWoc 2 one x = 0 := by
  have h2 : ¬ one ≤ x := Int32.not_le.mpr h
  simp [sWoc, h2]
set_option maxRecDepth 100000 in
set_option maxHeartbeats 4000000 in
theorem w_over0 {G : zG} {I : zI} {J : zJ} (hT : mT I) {p q l : Nat} (hp : p < 56) (hq : q < 56) (hl : l ≤ 1) {one : Int32} : zK G mX12_overAt 4 [.ref 62, .int (nI (stN p q l)), .int (nI 0)] zsh I J (zA0 (.long (sWoc 1 one (sPts p q))) I J) := by
  refine zK_of kX12_overAt.2.2.2.2.1 (Nat.le_of_ble_eq_true rfl) ?_
  show V G mX12_overAt 4 _ 0 [(0, .ref 62), (1, .int (nI (stN p q l))), (2, .int (nI 0))] [] (0, 0) zsh I J
  refine V_aload_n dX12_overAt_0 rfl ?_
  refine V_iload_n dX12_overAt_1 rfl ?_
  refine V_iconst (v := nI 0) dX12_overAt_2 rfl ?_
  refine V_callS (As := [.int (nI (stN p q l)), .int (nI 0)]) (st := [.ref 62]) dX12_overAt_3 kX12_standIn lX12_181 (by decide) rfl rfl (Nat.le_of_ble_eq_true rfl) ⟨Nat.le_of_ble_eq_true rfl, Nat.le_of_ble_eq_true rfl⟩ (w_standIn hp hq hl (by decide)) ?_
  rintro _ _ _ _ ⟨rfl, rfl, rfl, rfl⟩
  refine V_eqI (y := nI p) rfl ?_
  refine V_iload_n dX12_overAt_6 rfl ?_
  refine V_iconst (v := nI 1) dX12_overAt_7 rfl ?_
  refine V_callS (As := [.int (nI (stN p q l)), .int (nI 1)]) (st := [.int (nI p), .ref 62]) dX12_overAt_8 kX12_standIn lX12_181 (by decide) rfl rfl (Nat.le_of_ble_eq_true rfl) ⟨Nat.le_of_ble_eq_true rfl, Nat.le_of_ble_eq_true rfl⟩ (w_standIn hp hq hl (by decide)) ?_
  rintro _ _ _ _ ⟨rfl, rfl, rfl, rfl⟩
  refine V_eqI (y := nI q) rfl ?_
  refine V_callV (As := [.int (nI p), .int (nI q)]) (st := []) (a := 62) dX12_overAt_11 kX12_pointsIn lX12_209 (by decide) rfl rfl (Nat.le_of_ble_eq_true rfl) ⟨Nat.le_of_ble_eq_true rfl, Nat.le_of_ble_eq_true rfl⟩ ⟨Nat.le_of_ble_eq_true rfl, Nat.le_of_ble_eq_true rfl⟩ rfl ⟨rfl, by decide⟩ (w_pointsIn hT hp hq) ?_
  rintro _ _ _ _ ⟨rfl, rfl, rfl, rfl⟩
  refine V_istore_n (ls' := [(3, .int (sPts p q)), (0, .ref 62), (1, .int (nI (stN p q l))), (2, .int (nI 0))]) dX12_overAt_14 (by decide) rfl ?_
  refine V_iload_n dX12_overAt_15 rfl ?_
  refine V_if_ne (tgt := 22) dX12_overAt_16 rfl (fun h => absurd h (by decide)) (fun _ => ?_)
  refine V_iload_n dX12_overAt_19 rfl ?_
  refine V_i2l dX12_overAt_20 ?_
  exact V_lret ⟨rfl, dX12_overAt_21⟩ ⟨Nat.le_of_ble_eq_true rfl, Nat.le_of_ble_eq_true rfl⟩ ⟨rfl, congrArg (fun z => some (Value.long z)) (if_pos rfl).symm, rfl, rfl⟩

set_option maxRecDepth 100000 in
set_option maxHeartbeats 4000000 in
theorem w_over2 {G : zG} {I : zI} {J : zJ} (hT : mT I) {p q l : Nat} (hp : p < 56) (hq : q < 56) (hl : l ≤ 1) {one : Int32} (hone : I 62 35 = one) : zK G mX12_overAt 4 [.ref 62, .int (nI (stN p q l)), .int (nI 2)] zsh I J (zA0 (.long (sWoc 2 one (sPts p q))) I J) := by
  refine zK_of kX12_overAt.2.2.2.2.1 (Nat.le_of_ble_eq_true rfl) ?_
  show V G mX12_overAt 4 _ 0 [(0, .ref 62), (1, .int (nI (stN p q l))), (2, .int (nI 2))] [] (0, 0) zsh I J
  refine V_aload_n dX12_overAt_0 rfl ?_
  refine V_iload_n dX12_overAt_1 rfl ?_
  refine V_iconst (v := nI 0) dX12_overAt_2 rfl ?_
  refine V_callS (As := [.int (nI (stN p q l)), .int (nI 0)]) (st := [.ref 62]) dX12_overAt_3 kX12_standIn lX12_181 (by decide) rfl rfl (Nat.le_of_ble_eq_true rfl) ⟨Nat.le_of_ble_eq_true rfl, Nat.le_of_ble_eq_true rfl⟩ (w_standIn hp hq hl (by decide)) ?_
  rintro _ _ _ _ ⟨rfl, rfl, rfl, rfl⟩
  refine V_eqI (y := nI p) rfl ?_
  refine V_iload_n dX12_overAt_6 rfl ?_
  refine V_iconst (v := nI 1) dX12_overAt_7 rfl ?_
  refine V_callS (As := [.int (nI (stN p q l)), .int (nI 1)]) (st := [.int (nI p), .ref 62]) dX12_overAt_8 kX12_standIn lX12_181 (by decide) rfl rfl (Nat.le_of_ble_eq_true rfl) ⟨Nat.le_of_ble_eq_true rfl, Nat.le_of_ble_eq_true rfl⟩ (w_standIn hp hq hl (by decide)) ?_
  rintro _ _ _ _ ⟨rfl, rfl, rfl, rfl⟩
  refine V_eqI (y := nI q) rfl ?_
  refine V_callV (As := [.int (nI p), .int (nI q)]) (st := []) (a := 62) dX12_overAt_11 kX12_pointsIn lX12_209 (by decide) rfl rfl (Nat.le_of_ble_eq_true rfl) ⟨Nat.le_of_ble_eq_true rfl, Nat.le_of_ble_eq_true rfl⟩ ⟨Nat.le_of_ble_eq_true rfl, Nat.le_of_ble_eq_true rfl⟩ rfl ⟨rfl, by decide⟩ (w_pointsIn hT hp hq) ?_
  rintro _ _ _ _ ⟨rfl, rfl, rfl, rfl⟩
  refine V_istore_n (ls' := [(3, .int (sPts p q)), (0, .ref 62), (1, .int (nI (stN p q l))), (2, .int (nI 2))]) dX12_overAt_14 (by decide) rfl ?_
  refine V_iload_n dX12_overAt_15 rfl ?_
  refine V_if_ne (tgt := 22) dX12_overAt_16 rfl (fun _ => ?_) (fun h => absurd h (by decide))
  refine V_iload_n dX12_overAt_22 rfl ?_
  refine V_iconst (v := nI 1) dX12_overAt_23 rfl ?_
  refine V_icmp_ne (tgt := 38) dX12_overAt_24 rfl (fun _ => ?_) (fun h => absurd h (by decide))
  refine V_iload_n dX12_overAt_38 rfl ?_
  refine V_aload_n dX12_overAt_39 rfl ?_
  refine V_getI dX12_overAt_40 fX12_353 ⟨Nat.le_of_ble_eq_true rfl, Nat.le_of_ble_eq_true rfl⟩ rfl rfl ?_
  refine V_eqI (y := one) hone ?_
  refine V_icmp_lt (tgt := 50) dX12_overAt_43 rfl (fun h43 => ?_) (fun h43 => ?_)
  · skip
    refine V_lconst (v := 0) dX12_overAt_50 rfl ?_
    exact V_lret ⟨rfl, dX12_overAt_51⟩ ⟨Nat.le_of_ble_eq_true rfl, Nat.le_of_ble_eq_true rfl⟩ ⟨rfl, congrArg (fun z => some (Value.long z)) (woc_n h43).symm, rfl, rfl⟩
  · skip
    refine V_lconst (v := 1) dX12_overAt_46 rfl ?_
    refine V_goto (tgt := 51) dX12_overAt_47 rfl ?_
    exact V_lret ⟨rfl, dX12_overAt_51⟩ ⟨Nat.le_of_ble_eq_true rfl, Nat.le_of_ble_eq_true rfl⟩ ⟨rfl, congrArg (fun z => some (Value.long z)) (woc_y h43).symm, rfl, rfl⟩

