/-! THE MODEL: its reader's small methods -/
abbrev txW (I0 : zI) (tx : Nat → Nat) (n : Nat) : Prop := ∀ p, sgn (txI (I0 66)) n p = sgn tx n p
section
variable {I0 I : zI} {n q z : Nat} {st cs : List (Nat × Nat)} {tx : Nat → Nat}
theorem Wd.sg (h : Wd I0 I n q z st cs) (hx : txW I0 tx n) (p : Nat) : sgn (txI (I 66)) n p = sgn tx n p := by rw [h.f1 66 (by decide) (by decide) (by decide)]; exact hx p
theorem sg_le (hx : txW I0 tx n) (p : Nat) : sgn tx n p ≤ 256 := by rw [← hx p]; exact sgn_256 (f := I0 66) n p
theorem w_hereW {G : zG} {J : zJ} (h : Wd I0 I n q z st cs) (hx : txW I0 tx n) : zK G mX12_here 0 [.ref 62] zsh I J (zA0 (.int (nxI (sgn tx n q))) I J) := by
  rw [← h.sg hx q]
  exact w_here h.mr
theorem w_digW {G : zG} {J : zJ} (h : Wd I0 I n q z st cs) (hx : txW I0 tx n) : zK G mX12_isDigit 1 [.ref 62] zsh I J (zA0 (.int (nI (if 48 ≤ sgn tx n q ∧ sgn tx n q ≤ 57 then 1 else 0))) I J) := by
  rw [← h.sg hx q]
  exact w_isDigit h.mr
end
def sgO (k : Nat) : Nat := if k = 2 then 43 else if k = 3 then 45 else if k = 4 then 42 else if k = 5 then 47 else 37
theorem encM_sg {k : Nat} (h2 : 2 ≤ k) (h6 : k ≤ 6) : 1048576 * k + 0 = encM (2, sgO k) := by
  rcases (show k = 2 ∨ k = 3 ∨ k = 4 ∨ k = 5 ∨ k = 6 by omega) with rfl | rfl | rfl | rfl | rfl <;> decide
set_option maxRecDepth 100000 in
set_option maxHeartbeats 4000000 in
theorem w_notes {G : zG} {I : zI} {J : zJ} {c k v : Nat} (hc : I 62 13 = nI c) (hc2 : c < 260) : zK G mX12_notes 0 [.ref 62, .int (nI k), .int (nI v)] zsh I J (zA2 (fun I' J' => I' = noteI I c (1048576 * k + v) ∧ J = J')) := by
  refine zK_of kX12_notes.2.2.2.2.1 (Nat.le_of_ble_eq_true rfl) ?_
  show V G mX12_notes 0 _ 0 [(0, .ref 62), (1, .int (nI k)), (2, .int (nI v))] [] (0, 0) zsh I J
  refine V_aload_n dX12_notes_0 rfl ?_
  refine V_getR (b := 67) dX12_notes_1 fX12_23 ⟨Nat.le_of_ble_eq_true rfl, Nat.le_of_ble_eq_true rfl⟩ rfl rfl rfl ?_
  refine V_aload_n dX12_notes_4 rfl ?_
  refine V_getI dX12_notes_5 fX12_243 ⟨Nat.le_of_ble_eq_true rfl, Nat.le_of_ble_eq_true rfl⟩ rfl rfl ?_
  refine V_eqI (y := nI c) hc ?_
  refine V_ldc dX12_notes_8 qX12_246 ?_
  refine V_eqI (y := nI 1048576) rfl ?_
  refine V_iload_n dX12_notes_10 rfl ?_
  refine V_imulN dX12_notes_11 ?_
  refine V_iload_n dX12_notes_12 rfl ?_
  refine V_iaddN dX12_notes_13 ?_
  refine V_iastN (k := c) dX12_notes_14 ⟨Nat.le_of_ble_eq_true rfl, Nat.le_of_ble_eq_true rfl⟩ rfl (by decide) (by omega) ?_
  refine V_aload_n dX12_notes_15 rfl ?_
  refine V_aload_n dX12_notes_16 rfl ?_
  refine V_getI dX12_notes_17 fX12_243 ⟨Nat.le_of_ble_eq_true rfl, Nat.le_of_ble_eq_true rfl⟩ rfl rfl ?_
  refine V_eqI (y := I 62 13) rfl ?_
  refine V_eqI (y := nI c) hc ?_
  refine V_iconst (v := nI 1) dX12_notes_20 rfl ?_
  refine V_iaddN dX12_notes_21 ?_
  refine V_putW dX12_notes_22 fX12_243 ⟨Nat.le_of_ble_eq_true rfl, Nat.le_of_ble_eq_true rfl⟩ rfl rfl rfl ⟨rfl, rfl⟩ ?_
  exact V_ret ⟨rfl, dX12_notes_25⟩ ⟨Nat.le_of_ble_eq_true rfl, Nat.le_of_ble_eq_true rfl⟩ ⟨rfl, rfl, rfl, rfl⟩

set_option maxRecDepth 100000 in
set_option maxHeartbeats 4000000 in
theorem w_top0 {G : zG} {I : zI} {J : zJ} {I0 : zI} {n q z : Nat} {cs : List (Nat × Nat)} (h : Wd I0 I n q z [] cs) : zK G mX12_waitTop 0 [.ref 62] zsh I J (zA0 (.int (-1)) I J) := by
  refine zK_of kX12_waitTop.2.2.2.2.1 (Nat.le_of_ble_eq_true rfl) ?_
  show V G mX12_waitTop 0 _ 0 [(0, .ref 62)] [] (0, 0) zsh I J
  refine V_aload_n dX12_waitTop_0 rfl ?_
  refine V_getI dX12_waitTop_1 fX12_250 ⟨Nat.le_of_ble_eq_true rfl, Nat.le_of_ble_eq_true rfl⟩ rfl rfl ?_
  refine V_eqI (y := nI 0) h.hw ?_
  refine V_if_ne (tgt := 11) dX12_waitTop_4 rfl (fun h => absurd h (by decide)) (fun _ => ?_)
  refine V_iconst (v := (-1)) dX12_waitTop_7 rfl ?_
  refine V_goto (tgt := 25) dX12_waitTop_8 rfl ?_
  exact V_iret ⟨Or.inl rfl, dX12_waitTop_25⟩ ⟨Nat.le_of_ble_eq_true rfl, Nat.le_of_ble_eq_true rfl⟩ ⟨rfl, rfl, rfl, rfl⟩

set_option maxRecDepth 100000 in
set_option maxHeartbeats 4000000 in
theorem w_topX {G : zG} {I : zI} {J : zJ} {I0 : zI} {n q z : Nat} {x : Nat × Nat} {r cs : List (Nat × Nat)} (h : Wd I0 I n q z (x :: r) cs)  : zK G mX12_waitTop 0 [.ref 62] zsh I J (zA0 (.int (nI x.1)) I J) := by
  refine zK_of kX12_waitTop.2.2.2.2.1 (Nat.le_of_ble_eq_true rfl) ?_
  show V G mX12_waitTop 0 _ 0 [(0, .ref 62)] [] (0, 0) zsh I J
  have hk := h.hk x List.mem_cons_self
  have hsq : r.length + 1 ≤ q := h.sq
  have hqn := h.qn
  have hn240 := h.n240
  refine V_aload_n dX12_waitTop_0 rfl ?_
  refine V_getI dX12_waitTop_1 fX12_250 ⟨Nat.le_of_ble_eq_true rfl, Nat.le_of_ble_eq_true rfl⟩ rfl rfl ?_
  refine V_eqI (y := nI (r.length + 1)) h.hw ?_
  refine V_if_neN (tgt := 11) dX12_waitTop_4 rfl (by omega) (fun h4 => ?_) (fun h4 => ?_)
  · skip
    refine V_aload_n dX12_waitTop_11 rfl ?_
    refine V_getR (b := 68) dX12_waitTop_12 fX12_26 ⟨Nat.le_of_ble_eq_true rfl, Nat.le_of_ble_eq_true rfl⟩ rfl rfl rfl ?_
    refine V_aload_n dX12_waitTop_15 rfl ?_
    refine V_getI dX12_waitTop_16 fX12_250 ⟨Nat.le_of_ble_eq_true rfl, Nat.le_of_ble_eq_true rfl⟩ rfl rfl ?_
    refine V_eqI (y := nI (r.length + 1)) h.hw ?_
    refine V_iconst (v := nI 1) dX12_waitTop_19 rfl ?_
    refine V_isubN dX12_waitTop_20 (by omega) ?_
    refine V_ialdN (k := (r.length + 1) - 1) dX12_waitTop_21 ⟨Nat.le_of_ble_eq_true rfl, Nat.le_of_ble_eq_true rfl⟩ rfl (by decide) (by omega) ?_
    refine V_eqI (y := nI (1048576 * x.1 + x.2)) h.top ?_
    refine V_ldc dX12_waitTop_22 qX12_246 ?_
    refine V_eqI (y := nI 1048576) rfl ?_
    refine V_idivN dX12_waitTop_24 (by omega) (by omega) (by omega) ?_
    exact V_iret ⟨Or.inl rfl, dX12_waitTop_25⟩ ⟨Nat.le_of_ble_eq_true rfl, Nat.le_of_ble_eq_true rfl⟩ ⟨rfl, congrArg (fun z => some (Value.int (nI z))) (by omega), rfl, rfl⟩
  · skip
    refine V_iconst (v := (-1)) dX12_waitTop_7 rfl ?_
    refine V_goto (tgt := 25) dX12_waitTop_8 rfl ?_
    exact V_iret ⟨Or.inl rfl, dX12_waitTop_25⟩ ⟨Nat.le_of_ble_eq_true rfl, Nat.le_of_ble_eq_true rfl⟩ ⟨rfl, congrArg (fun z => some (Value.int (nI z))) (by omega), rfl, rfl⟩

set_option maxRecDepth 100000 in
set_option maxHeartbeats 4000000 in
theorem w_factOf {G : zG} {I : zI} {J : zJ} {c : Nat} (hc : c ≤ 256) : zK G mX12_factOf 0 [.int (nxI c)] zsh I J (zA0 (.int (if ltP c < 9 then nI (ltP c) else -1)) I J) := by
  refine zK_of kX12_factOf.2.2.2.2.1 (Nat.le_of_ble_eq_true rfl) ?_
  show V G mX12_factOf 0 _ 0 [(0, .int (nxI c))] [] (0, 0) zsh I J
  by_cases hr : 102 ≤ c ∧ c ≤ 118
  · rw [nxI_c (by omega)]
    rcases (show c = 102 ∨ c = 103 ∨ c = 104 ∨ c = 105 ∨ c = 106 ∨ c = 107 ∨ c = 108 ∨ c = 109 ∨ c = 110 ∨ c = 111 ∨ c = 112 ∨ c = 113 ∨ c = 114 ∨ c = 115 ∨ c = 116 ∨ c = 117 ∨ c = 118 by omega) with rfl | rfl | rfl | rfl | rfl | rfl | rfl | rfl | rfl | rfl | rfl | rfl | rfl | rfl | rfl | rfl | rfl
    · skip
      refine V_iload_n dX12_factOf_0 rfl ?_
      refine V_tsIn (off := 93) (tgt := 94) dX12_factOf_1 (by decide) (by decide) rfl rfl ?_
      refine V_iconst (v := nI 5) dX12_factOf_94 rfl ?_
      exact V_iret ⟨Or.inl rfl, dX12_factOf_95⟩ ⟨Nat.le_of_ble_eq_true rfl, Nat.le_of_ble_eq_true rfl⟩ ⟨rfl, rfl, rfl, rfl⟩
    · skip
      refine V_iload_n dX12_factOf_0 rfl ?_
      refine V_tsIn (off := 104) (tgt := 105) dX12_factOf_1 (by decide) (by decide) rfl rfl ?_
      refine V_iconst (v := (-1)) dX12_factOf_105 rfl ?_
      exact V_iret ⟨Or.inl rfl, dX12_factOf_106⟩ ⟨Nat.le_of_ble_eq_true rfl, Nat.le_of_ble_eq_true rfl⟩ ⟨rfl, rfl, rfl, rfl⟩
    · skip
      refine V_iload_n dX12_factOf_0 rfl ?_
      refine V_tsIn (off := 104) (tgt := 105) dX12_factOf_1 (by decide) (by decide) rfl rfl ?_
      refine V_iconst (v := (-1)) dX12_factOf_105 rfl ?_
      exact V_iret ⟨Or.inl rfl, dX12_factOf_106⟩ ⟨Nat.le_of_ble_eq_true rfl, Nat.le_of_ble_eq_true rfl⟩ ⟨rfl, rfl, rfl, rfl⟩
    · skip
      refine V_iload_n dX12_factOf_0 rfl ?_
      refine V_tsIn (off := 83) (tgt := 84) dX12_factOf_1 (by decide) (by decide) rfl rfl ?_
      refine V_iconst (v := nI 0) dX12_factOf_84 rfl ?_
      exact V_iret ⟨Or.inl rfl, dX12_factOf_85⟩ ⟨Nat.le_of_ble_eq_true rfl, Nat.le_of_ble_eq_true rfl⟩ ⟨rfl, rfl, rfl, rfl⟩
    · skip
      refine V_iload_n dX12_factOf_0 rfl ?_
      refine V_tsIn (off := 104) (tgt := 105) dX12_factOf_1 (by decide) (by decide) rfl rfl ?_
      refine V_iconst (v := (-1)) dX12_factOf_105 rfl ?_
      exact V_iret ⟨Or.inl rfl, dX12_factOf_106⟩ ⟨Nat.le_of_ble_eq_true rfl, Nat.le_of_ble_eq_true rfl⟩ ⟨rfl, rfl, rfl, rfl⟩
    · skip
      refine V_iload_n dX12_factOf_0 rfl ?_
      refine V_tsIn (off := 104) (tgt := 105) dX12_factOf_1 (by decide) (by decide) rfl rfl ?_
      refine V_iconst (v := (-1)) dX12_factOf_105 rfl ?_
      exact V_iret ⟨Or.inl rfl, dX12_factOf_106⟩ ⟨Nat.le_of_ble_eq_true rfl, Nat.le_of_ble_eq_true rfl⟩ ⟨rfl, rfl, rfl, rfl⟩
    · skip
      refine V_iload_n dX12_factOf_0 rfl ?_
      refine V_tsIn (off := 95) (tgt := 96) dX12_factOf_1 (by decide) (by decide) rfl rfl ?_
      refine V_bipush (v := nI 6) dX12_factOf_96 rfl ?_
      exact V_iret ⟨Or.inl rfl, dX12_factOf_98⟩ ⟨Nat.le_of_ble_eq_true rfl, Nat.le_of_ble_eq_true rfl⟩ ⟨rfl, rfl, rfl, rfl⟩
    · skip
      refine V_iload_n dX12_factOf_0 rfl ?_
      refine V_tsIn (off := 89) (tgt := 90) dX12_factOf_1 (by decide) (by decide) rfl rfl ?_
      refine V_iconst (v := nI 3) dX12_factOf_90 rfl ?_
      exact V_iret ⟨Or.inl rfl, dX12_factOf_91⟩ ⟨Nat.le_of_ble_eq_true rfl, Nat.le_of_ble_eq_true rfl⟩ ⟨rfl, rfl, rfl, rfl⟩
    · skip
      refine V_iload_n dX12_factOf_0 rfl ?_
      refine V_tsIn (off := 91) (tgt := 92) dX12_factOf_1 (by decide) (by decide) rfl rfl ?_
      refine V_iconst (v := nI 4) dX12_factOf_92 rfl ?_
      exact V_iret ⟨Or.inl rfl, dX12_factOf_93⟩ ⟨Nat.le_of_ble_eq_true rfl, Nat.le_of_ble_eq_true rfl⟩ ⟨rfl, rfl, rfl, rfl⟩
    · skip
      refine V_iload_n dX12_factOf_0 rfl ?_
      refine V_tsIn (off := 101) (tgt := 102) dX12_factOf_1 (by decide) (by decide) rfl rfl ?_
      refine V_bipush (v := nI 8) dX12_factOf_102 rfl ?_
      exact V_iret ⟨Or.inl rfl, dX12_factOf_104⟩ ⟨Nat.le_of_ble_eq_true rfl, Nat.le_of_ble_eq_true rfl⟩ ⟨rfl, rfl, rfl, rfl⟩
    · skip
      refine V_iload_n dX12_factOf_0 rfl ?_
      refine V_tsIn (off := 104) (tgt := 105) dX12_factOf_1 (by decide) (by decide) rfl rfl ?_
      refine V_iconst (v := (-1)) dX12_factOf_105 rfl ?_
      exact V_iret ⟨Or.inl rfl, dX12_factOf_106⟩ ⟨Nat.le_of_ble_eq_true rfl, Nat.le_of_ble_eq_true rfl⟩ ⟨rfl, rfl, rfl, rfl⟩
    · skip
      refine V_iload_n dX12_factOf_0 rfl ?_
      refine V_tsIn (off := 104) (tgt := 105) dX12_factOf_1 (by decide) (by decide) rfl rfl ?_
      refine V_iconst (v := (-1)) dX12_factOf_105 rfl ?_
      exact V_iret ⟨Or.inl rfl, dX12_factOf_106⟩ ⟨Nat.le_of_ble_eq_true rfl, Nat.le_of_ble_eq_true rfl⟩ ⟨rfl, rfl, rfl, rfl⟩
    · skip
      refine V_iload_n dX12_factOf_0 rfl ?_
      refine V_tsIn (off := 104) (tgt := 105) dX12_factOf_1 (by decide) (by decide) rfl rfl ?_
      refine V_iconst (v := (-1)) dX12_factOf_105 rfl ?_
      exact V_iret ⟨Or.inl rfl, dX12_factOf_106⟩ ⟨Nat.le_of_ble_eq_true rfl, Nat.le_of_ble_eq_true rfl⟩ ⟨rfl, rfl, rfl, rfl⟩
    · skip
      refine V_iload_n dX12_factOf_0 rfl ?_
      refine V_tsIn (off := 98) (tgt := 99) dX12_factOf_1 (by decide) (by decide) rfl rfl ?_
      refine V_bipush (v := nI 7) dX12_factOf_99 rfl ?_
      exact V_iret ⟨Or.inl rfl, dX12_factOf_101⟩ ⟨Nat.le_of_ble_eq_true rfl, Nat.le_of_ble_eq_true rfl⟩ ⟨rfl, rfl, rfl, rfl⟩
    · skip
      refine V_iload_n dX12_factOf_0 rfl ?_
      refine V_tsIn (off := 104) (tgt := 105) dX12_factOf_1 (by decide) (by decide) rfl rfl ?_
      refine V_iconst (v := (-1)) dX12_factOf_105 rfl ?_
      exact V_iret ⟨Or.inl rfl, dX12_factOf_106⟩ ⟨Nat.le_of_ble_eq_true rfl, Nat.le_of_ble_eq_true rfl⟩ ⟨rfl, rfl, rfl, rfl⟩
    · skip
      refine V_iload_n dX12_factOf_0 rfl ?_
      refine V_tsIn (off := 85) (tgt := 86) dX12_factOf_1 (by decide) (by decide) rfl rfl ?_
      refine V_iconst (v := nI 1) dX12_factOf_86 rfl ?_
      exact V_iret ⟨Or.inl rfl, dX12_factOf_87⟩ ⟨Nat.le_of_ble_eq_true rfl, Nat.le_of_ble_eq_true rfl⟩ ⟨rfl, rfl, rfl, rfl⟩
    · skip
      refine V_iload_n dX12_factOf_0 rfl ?_
      refine V_tsIn (off := 87) (tgt := 88) dX12_factOf_1 (by decide) (by decide) rfl rfl ?_
      refine V_iconst (v := nI 2) dX12_factOf_88 rfl ?_
      exact V_iret ⟨Or.inl rfl, dX12_factOf_89⟩ ⟨Nat.le_of_ble_eq_true rfl, Nat.le_of_ble_eq_true rfl⟩ ⟨rfl, rfl, rfl, rfl⟩
  · have h9 : ¬ ltP c < 9 := by unfold ltP; rw [if_neg (show ¬ c = 105 by omega), if_neg (show ¬ c = 117 by omega), if_neg (show ¬ c = 118 by omega), if_neg (show ¬ c = 109 by omega), if_neg (show ¬ c = 110 by omega), if_neg (show ¬ c = 102 by omega), if_neg (show ¬ c = 108 by omega), if_neg (show ¬ c = 115 by omega), if_neg (show ¬ c = 111 by omega)]; decide
    rw [if_neg h9]
    refine V_iload_n dX12_factOf_0 rfl ?_
    refine V_tsOut (tgt := 105) dX12_factOf_1 (by rw [nxI_toInt hc]; split <;> omega) rfl ?_
    refine V_iconst (v := (-1)) dX12_factOf_105 rfl ?_
    exact V_iret ⟨Or.inl rfl, dX12_factOf_106⟩ ⟨Nat.le_of_ble_eq_true rfl, Nat.le_of_ble_eq_true rfl⟩ ⟨rfl, rfl, rfl, rfl⟩

abbrev sgs (c : Nat) : Prop := c = 43 ∨ c = 45 ∨ c = 42 ∨ c = 47 ∨ c = 37
set_option maxRecDepth 100000 in
set_option maxHeartbeats 4000000 in
theorem w_sumSign {G : zG} {I : zI} {J : zJ} {c : Nat} (hc : c ≤ 256) : zK G mX12_sumSign 0 [.int (nxI c)] zsh I J (zA0 (.int (if sgs c then nI (opS c) else -1)) I J) := by
  refine zK_of kX12_sumSign.2.2.2.2.1 (Nat.le_of_ble_eq_true rfl) ?_
  show V G mX12_sumSign 0 _ 0 [(0, .int (nxI c))] [] (0, 0) zsh I J
  refine V_iload_n dX12_sumSign_0 rfl ?_
  refine V_bipush (v := nI 43) dX12_sumSign_1 rfl ?_
  refine V_icmp_neX (tgt := 10) dX12_sumSign_3 rfl hc (by decide) (fun h3 => ?_) (fun h3 => ?_)
  · skip
    refine V_iload_n dX12_sumSign_10 rfl ?_
    refine V_bipush (v := nI 45) dX12_sumSign_11 rfl ?_
    refine V_icmp_neX (tgt := 20) dX12_sumSign_13 rfl hc (by decide) (fun h13 => ?_) (fun h13 => ?_)
    · skip
      refine V_iload_n dX12_sumSign_20 rfl ?_
      refine V_bipush (v := nI 42) dX12_sumSign_21 rfl ?_
      refine V_icmp_neX (tgt := 30) dX12_sumSign_23 rfl hc (by decide) (fun h23 => ?_) (fun h23 => ?_)
      · skip
        refine V_iload_n dX12_sumSign_30 rfl ?_
        refine V_bipush (v := nI 47) dX12_sumSign_31 rfl ?_
        refine V_icmp_neX (tgt := 40) dX12_sumSign_33 rfl hc (by decide) (fun h33 => ?_) (fun h33 => ?_)
        · skip
          refine V_iload_n dX12_sumSign_40 rfl ?_
          refine V_bipush (v := nI 37) dX12_sumSign_41 rfl ?_
          refine V_icmp_neX (tgt := 51) dX12_sumSign_43 rfl hc (by decide) (fun h43 => ?_) (fun h43 => ?_)
          · skip
            refine V_iconst (v := (-1)) dX12_sumSign_51 rfl ?_
            exact V_iret ⟨Or.inl rfl, dX12_sumSign_52⟩ ⟨Nat.le_of_ble_eq_true rfl, Nat.le_of_ble_eq_true rfl⟩ ⟨rfl, congrArg (fun z => some (Value.int z)) (if_neg (by omega)).symm, rfl, rfl⟩
          · skip
            refine V_bipush (v := nI 6) dX12_sumSign_46 rfl ?_
            refine V_goto (tgt := 52) dX12_sumSign_48 rfl ?_
            exact V_iret ⟨Or.inl rfl, dX12_sumSign_52⟩ ⟨Nat.le_of_ble_eq_true rfl, Nat.le_of_ble_eq_true rfl⟩ ⟨rfl, congrArg (fun z => some (Value.int z)) (by rw [if_pos (by omega), h43]; rfl), rfl, rfl⟩
        · skip
          refine V_iconst (v := nI 5) dX12_sumSign_36 rfl ?_
          refine V_goto (tgt := 52) dX12_sumSign_37 rfl ?_
          exact V_iret ⟨Or.inl rfl, dX12_sumSign_52⟩ ⟨Nat.le_of_ble_eq_true rfl, Nat.le_of_ble_eq_true rfl⟩ ⟨rfl, congrArg (fun z => some (Value.int z)) (by rw [if_pos (by omega), h33]; rfl), rfl, rfl⟩
      · skip
        refine V_iconst (v := nI 4) dX12_sumSign_26 rfl ?_
        refine V_goto (tgt := 52) dX12_sumSign_27 rfl ?_
        exact V_iret ⟨Or.inl rfl, dX12_sumSign_52⟩ ⟨Nat.le_of_ble_eq_true rfl, Nat.le_of_ble_eq_true rfl⟩ ⟨rfl, congrArg (fun z => some (Value.int z)) (by rw [if_pos (by omega), h23]; rfl), rfl, rfl⟩
    · skip
      refine V_iconst (v := nI 3) dX12_sumSign_16 rfl ?_
      refine V_goto (tgt := 52) dX12_sumSign_17 rfl ?_
      exact V_iret ⟨Or.inl rfl, dX12_sumSign_52⟩ ⟨Nat.le_of_ble_eq_true rfl, Nat.le_of_ble_eq_true rfl⟩ ⟨rfl, congrArg (fun z => some (Value.int z)) (by rw [if_pos (by omega), h13]; rfl), rfl, rfl⟩
  · skip
    refine V_iconst (v := nI 2) dX12_sumSign_6 rfl ?_
    refine V_goto (tgt := 52) dX12_sumSign_7 rfl ?_
    exact V_iret ⟨Or.inl rfl, dX12_sumSign_52⟩ ⟨Nat.le_of_ble_eq_true rfl, Nat.le_of_ble_eq_true rfl⟩ ⟨rfl, congrArg (fun z => some (Value.int z)) (by rw [if_pos (by omega), h3]; rfl), rfl, rfl⟩

set_option maxRecDepth 100000 in
set_option maxHeartbeats 4000000 in
theorem w_opensY {G : zG} {I : zI} {J : zJ} {I0 : zI} {n q z : Nat} {st cs : List (Nat × Nat)} (h : Wd I0 I n q z st cs) {y : Nat} (hqn2 : q < n) (hop : y = 10 ∨ y = 13 ∨ y = 14) (h6 : opn st < 6) : zK G mX12_opens 1 [.ref 62, .int (nI y)] zsh I J (zP (fun r I' J' => r = some (.int (nI 1)) ∧ Wd I0 I' n (q + 1) z ((y, 0) :: st) cs ∧ J = J')) := by
  refine zK_of kX12_opens.2.2.2.2.1 (Nat.le_of_ble_eq_true rfl) ?_
  show V G mX12_opens 1 _ 0 [(0, .ref 62), (1, .int (nI y))] [] (0, 0) zsh I J
  have ho6 := h.o6
  have hsq := h.sq
  have hqn := h.qn
  have hn240 := h.n240
  refine V_aload_n dX12_opens_0 rfl ?_
  refine V_getI dX12_opens_1 fX12_247 ⟨Nat.le_of_ble_eq_true rfl, Nat.le_of_ble_eq_true rfl⟩ rfl rfl ?_
  refine V_eqI (y := nI (opn st)) h.ho ?_
  refine V_bipush (v := nI 6) dX12_opens_4 rfl ?_
  refine V_icmp_neN (tgt := 19) dX12_opens_6 rfl (by omega) (by omega) (fun _ => ?_) (fun h => absurd h (by omega))
  refine V_aload_n dX12_opens_19 rfl ?_
  refine V_aload_n dX12_opens_20 rfl ?_
  refine V_getI dX12_opens_21 fX12_247 ⟨Nat.le_of_ble_eq_true rfl, Nat.le_of_ble_eq_true rfl⟩ rfl rfl ?_
  refine V_eqI (y := nI (opn st)) h.ho ?_
  refine V_iconst (v := nI 1) dX12_opens_24 rfl ?_
  refine V_iaddN dX12_opens_25 ?_
  refine V_putW dX12_opens_26 fX12_247 ⟨Nat.le_of_ble_eq_true rfl, Nat.le_of_ble_eq_true rfl⟩ rfl rfl rfl ⟨rfl, rfl⟩ ?_
  refine V_aload_n dX12_opens_29 rfl ?_
  refine V_getR (b := 68) dX12_opens_30 fX12_26 ⟨Nat.le_of_ble_eq_true rfl, Nat.le_of_ble_eq_true rfl⟩ rfl rfl rfl ?_
  refine V_aload_n dX12_opens_33 rfl ?_
  refine V_getI dX12_opens_34 fX12_250 ⟨Nat.le_of_ble_eq_true rfl, Nat.le_of_ble_eq_true rfl⟩ rfl rfl ?_
  refine V_eqI (y := I 62 14) rfl ?_
  refine V_eqI (y := nI st.length) h.hw ?_
  refine V_ldc dX12_opens_37 qX12_246 ?_
  refine V_eqI (y := nI 1048576) rfl ?_
  refine V_iload_n dX12_opens_39 rfl ?_
  refine V_imulN dX12_opens_40 ?_
  refine V_iastN (k := st.length) dX12_opens_41 ⟨Nat.le_of_ble_eq_true rfl, Nat.le_of_ble_eq_true rfl⟩ rfl (by decide) (by omega) ?_
  refine V_aload_n dX12_opens_42 rfl ?_
  refine V_aload_n dX12_opens_43 rfl ?_
  refine V_getI dX12_opens_44 fX12_250 ⟨Nat.le_of_ble_eq_true rfl, Nat.le_of_ble_eq_true rfl⟩ rfl rfl ?_
  refine V_eqI (y := I 62 14) rfl ?_
  refine V_eqI (y := nI st.length) h.hw ?_
  refine V_iconst (v := nI 1) dX12_opens_47 rfl ?_
  refine V_iaddN dX12_opens_48 ?_
  refine V_putW dX12_opens_49 fX12_250 ⟨Nat.le_of_ble_eq_true rfl, Nat.le_of_ble_eq_true rfl⟩ rfl rfl rfl ⟨rfl, rfl⟩ ?_
  refine V_aload_n dX12_opens_52 rfl ?_
  refine V_aload_n dX12_opens_53 rfl ?_
  refine V_getI dX12_opens_54 fX12_219 ⟨Nat.le_of_ble_eq_true rfl, Nat.le_of_ble_eq_true rfl⟩ rfl rfl ?_
  refine V_eqI (y := I 62 8) rfl ?_
  refine V_eqI (y := nI q) h.hq ?_
  refine V_iconst (v := nI 1) dX12_opens_57 rfl ?_
  refine V_iaddN dX12_opens_58 ?_
  refine V_putW dX12_opens_59 fX12_219 ⟨Nat.le_of_ble_eq_true rfl, Nat.le_of_ble_eq_true rfl⟩ rfl rfl rfl ⟨rfl, rfl⟩ ?_
  refine V_iconst (v := nI 1) dX12_opens_62 rfl ?_
  exact V_iret ⟨Or.inr ⟨rfl, Or.inr rfl⟩, dX12_opens_63⟩ ⟨Nat.le_of_ble_eq_true rfl, Nat.le_of_ble_eq_true rfl⟩ ⟨rfl, rfl, h.opens hqn2 hop h6, rfl⟩

set_option maxRecDepth 100000 in
set_option maxHeartbeats 4000000 in
theorem w_opensN {G : zG} {I : zI} {J : zJ} {I0 : zI} {n q z : Nat} {st cs : List (Nat × Nat)} (h : Wd I0 I n q z st cs) {y : Nat} (h6 : opn st = 6) : zK G mX12_opens 1 [.ref 62, .int (nI y)] zsh I J (zP (fun r I' J' => r = some (.int (nI 0)) ∧ Fq I0 I' 5 q ∧ J = J')) := by
  refine zK_of kX12_opens.2.2.2.2.1 (Nat.le_of_ble_eq_true rfl) ?_
  show V G mX12_opens 1 _ 0 [(0, .ref 62), (1, .int (nI y))] [] (0, 0) zsh I J
  have ho6 := h.o6
  have hsq := h.sq
  have hqn := h.qn
  have hn240 := h.n240
  refine V_aload_n dX12_opens_0 rfl ?_
  refine V_getI dX12_opens_1 fX12_247 ⟨Nat.le_of_ble_eq_true rfl, Nat.le_of_ble_eq_true rfl⟩ rfl rfl ?_
  refine V_eqI (y := nI (opn st)) h.ho ?_
  refine V_bipush (v := nI 6) dX12_opens_4 rfl ?_
  refine V_icmp_neN (tgt := 19) dX12_opens_6 rfl (by omega) (by omega) (fun h => absurd h (by omega)) (fun _ => ?_)
  refine V_aload_n dX12_opens_9 rfl ?_
  refine V_iconst (v := nI 5) dX12_opens_10 rfl ?_
  refine V_aload_n dX12_opens_11 rfl ?_
  refine V_getI dX12_opens_12 fX12_219 ⟨Nat.le_of_ble_eq_true rfl, Nat.le_of_ble_eq_true rfl⟩ rfl rfl ?_
  refine V_eqI (y := nI q) h.hq ?_
  refine V_callV (As := [.int (nI 5), .int (nI q)]) (st := []) (a := 62) dX12_opens_15 kX12_wrongAt lX12_232 (by decide) rfl rfl (Nat.le_of_ble_eq_true rfl) ⟨Nat.le_of_ble_eq_true rfl, Nat.le_of_ble_eq_true rfl⟩ ⟨Nat.le_of_ble_eq_true rfl, Nat.le_of_ble_eq_true rfl⟩ rfl ⟨rfl, by decide⟩ w_wrongAt ?_
  rintro r sh' _ _ ⟨rfl, rfl, rfl, rfl⟩
  exact V_iret ⟨Or.inr ⟨rfl, Or.inl rfl⟩, dX12_opens_18⟩ ⟨Nat.le_of_ble_eq_true rfl, Nat.le_of_ble_eq_true rfl⟩ ⟨rfl, rfl, h.fail, rfl⟩

def nmR (tx : Nat → Nat) (n : Nat) (k p v : Nat) : Nat × Nat × Nat := if 48 ≤ sgn tx n (numR tx n k p v).2 ∧ sgn tx n (numR tx n k p v).2 ≤ 57 then (2, (numR tx n k p v).2, 0) else (0, (numR tx n k p v).2, (numR tx n k p v).1)
theorem nmR_d {tx : Nat → Nat} {n k p v : Nat} (h : 48 ≤ sgn tx n p ∧ sgn tx n p ≤ 57) : nmR tx n (k + 1) p v = nmR tx n k (p + 1) (10 * v + sgn tx n p - 48) := by
  have e : numR tx n (k + 1) p v = numR tx n k (p + 1) (10 * v + sgn tx n p - 48) := if_pos h
  unfold nmR
  rw [e]
theorem nmR_e {tx : Nat → Nat} {n k p v : Nat} (h : ¬ (48 ≤ sgn tx n p ∧ sgn tx n p ≤ 57)) : nmR tx n k p v = (0, p, v) := by
  have e : numR tx n k p v = (v, p) := by
    cases k with
    | zero => rfl
    | succ k => exact if_neg h
  unfold nmR
  rw [e, if_neg h]
theorem nmR_0 {tx : Nat → Nat} {n p v : Nat} (h : 48 ≤ sgn tx n p ∧ sgn tx n p ≤ 57) : nmR tx n 0 p v = (2, p, 0) := if_pos h
set_option maxRecDepth 100000 in
set_option maxHeartbeats 4000000 in
theorem lp_numW {G : zG} {I0 : zI} {J : zJ} {n q z : Nat} {st cs : List (Nat × Nat)} {tx : Nat → Nat} (hx : txW I0 tx n) (hn : n ≤ 240) : ∀ k p v (I1 : zI), k ≤ 5 → p + k = q + 5 → v < 10 ^ (5 - k) → Wd I0 I1 n p z st cs → I1 62 11 = nI v → V G mX12_readsNumber 2 (zP (fun w I' J' => ((nmR tx n k p v).1 = 0 → w = some (.int (nI 1)) ∧ Wd I0 I' n (nmR tx n k p v).2.1 z st cs ∧ I' 62 11 = nI (nmR tx n k p v).2.2 ∧ (nmR tx n k p v).2.2 < 100000) ∧ ((nmR tx n k p v).1 ≠ 0 → w = some (.int (nI 0)) ∧ Fq I0 I' (nmR tx n k p v).1 (nmR tx n k p v).2.1) ∧ J = J')) 10 [(0, .ref 62), (1, .int (nI q))] [] (0, 0) zsh I1 J := by
  intro k
  induction k with
  | zero =>
    intro p v I1 hk5 hp hv9 hW hv0
    have hqn := hW.qn
    have hvb : v < 100000 := hv9
    by_cases hd : 48 ≤ sgn tx n p ∧ sgn tx n p ≤ 57
    · skip
      have hpn : p < n := sgn_ltn (tx := tx) (by omega)
      refine V_aload_n dX12_readsNumber_10 rfl ?_
      refine V_callV (As := []) (st := []) (a := 62) dX12_readsNumber_11 kX12_isDigit lX12_239 (by decide) rfl rfl (Nat.le_of_ble_eq_true rfl) ⟨Nat.le_of_ble_eq_true rfl, Nat.le_of_ble_eq_true rfl⟩ ⟨Nat.le_of_ble_eq_true rfl, Nat.le_of_ble_eq_true rfl⟩ rfl ⟨rfl, by decide⟩ (q_y (w_digW hW hx) hd) ?_
      rintro _ _ _ _ ⟨rfl, rfl, rfl, rfl⟩
      refine V_if_eq (tgt := 69) dX12_readsNumber_14 rfl (fun h => absurd h (by decide)) (fun _ => ?_)
      refine V_aload_n dX12_readsNumber_17 rfl ?_
      refine V_getI dX12_readsNumber_18 fX12_219 ⟨Nat.le_of_ble_eq_true rfl, Nat.le_of_ble_eq_true rfl⟩ rfl rfl ?_
      refine V_eqI (y := nI p) hW.hq ?_
      refine V_iload_n dX12_readsNumber_21 rfl ?_
      refine V_iconst (v := nI 5) dX12_readsNumber_22 rfl ?_
      refine V_iaddN dX12_readsNumber_23 ?_
      refine V_icmp_neN (tgt := 37) dX12_readsNumber_24 rfl (by omega) (by omega) (fun h => absurd h (by omega)) (fun _ => ?_)
      refine V_aload_n dX12_readsNumber_27 rfl ?_
      refine V_iconst (v := nI 2) dX12_readsNumber_28 rfl ?_
      refine V_aload_n dX12_readsNumber_29 rfl ?_
      refine V_getI dX12_readsNumber_30 fX12_219 ⟨Nat.le_of_ble_eq_true rfl, Nat.le_of_ble_eq_true rfl⟩ rfl rfl ?_
      refine V_eqI (y := nI p) hW.hq ?_
      refine V_callV (As := [.int (nI 2), .int (nI p)]) (st := []) (a := 62) dX12_readsNumber_33 kX12_wrongAt lX12_232 (by decide) rfl rfl (Nat.le_of_ble_eq_true rfl) ⟨Nat.le_of_ble_eq_true rfl, Nat.le_of_ble_eq_true rfl⟩ ⟨Nat.le_of_ble_eq_true rfl, Nat.le_of_ble_eq_true rfl⟩ rfl ⟨rfl, by decide⟩ w_wrongAt ?_
      rintro r sh' _ _ ⟨rfl, rfl, rfl, rfl⟩
      exact V_iret ⟨Or.inr ⟨rfl, Or.inl rfl⟩, dX12_readsNumber_36⟩ ⟨Nat.le_of_ble_eq_true rfl, Nat.le_of_ble_eq_true rfl⟩ ⟨rfl, fun h => absurd h (by rw [nmR_0 hd]; exact Nat.succ_ne_zero _), fun _ => ⟨rfl, by rw [nmR_0 hd]; exact hW.fail⟩, rfl⟩
    · skip
      refine V_aload_n dX12_readsNumber_10 rfl ?_
      refine V_callV (As := []) (st := []) (a := 62) dX12_readsNumber_11 kX12_isDigit lX12_239 (by decide) rfl rfl (Nat.le_of_ble_eq_true rfl) ⟨Nat.le_of_ble_eq_true rfl, Nat.le_of_ble_eq_true rfl⟩ ⟨Nat.le_of_ble_eq_true rfl, Nat.le_of_ble_eq_true rfl⟩ rfl ⟨rfl, by decide⟩ (q_n (w_digW hW hx) hd) ?_
      rintro _ _ _ _ ⟨rfl, rfl, rfl, rfl⟩
      refine V_if_eq (tgt := 69) dX12_readsNumber_14 rfl (fun _ => ?_) (fun h => absurd h (by decide))
      refine V_iconst (v := nI 1) dX12_readsNumber_69 rfl ?_
      exact V_iret ⟨Or.inr ⟨rfl, Or.inr rfl⟩, dX12_readsNumber_70⟩ ⟨Nat.le_of_ble_eq_true rfl, Nat.le_of_ble_eq_true rfl⟩ ⟨rfl, fun _ => ⟨rfl, by rw [nmR_e hd]; exact hW, by rw [nmR_e hd]; exact hv0, by rw [nmR_e hd]; exact hvb⟩, fun h => absurd (by rw [nmR_e hd]) h, rfl⟩
  | succ k ih =>
    intro p v I1 hk5 hp hv9 hW hv0
    have hqn := hW.qn
    have hvb : v < 100000 := Nat.lt_of_lt_of_le hv9 (Nat.le_trans (Nat.pow_le_pow_right (n := 10) (by decide) (show 5 - (k + 1) ≤ 5 by omega)) (by decide))
    have hpw : 10 ^ (5 - k) = 10 * 10 ^ (5 - (k + 1)) := by rw [show 5 - k = (5 - (k + 1)) + 1 by omega, Nat.pow_succ, Nat.mul_comm]
    by_cases hd : 48 ≤ sgn tx n p ∧ sgn tx n p ≤ 57
    · skip
      have hpn : p < n := sgn_ltn (tx := tx) (by omega)
      refine V_aload_n dX12_readsNumber_10 rfl ?_
      refine V_callV (As := []) (st := []) (a := 62) dX12_readsNumber_11 kX12_isDigit lX12_239 (by decide) rfl rfl (Nat.le_of_ble_eq_true rfl) ⟨Nat.le_of_ble_eq_true rfl, Nat.le_of_ble_eq_true rfl⟩ ⟨Nat.le_of_ble_eq_true rfl, Nat.le_of_ble_eq_true rfl⟩ rfl ⟨rfl, by decide⟩ (q_y (w_digW hW hx) hd) ?_
      rintro _ _ _ _ ⟨rfl, rfl, rfl, rfl⟩
      refine V_if_eq (tgt := 69) dX12_readsNumber_14 rfl (fun h => absurd h (by decide)) (fun _ => ?_)
      refine V_aload_n dX12_readsNumber_17 rfl ?_
      refine V_getI dX12_readsNumber_18 fX12_219 ⟨Nat.le_of_ble_eq_true rfl, Nat.le_of_ble_eq_true rfl⟩ rfl rfl ?_
      refine V_eqI (y := nI p) hW.hq ?_
      refine V_iload_n dX12_readsNumber_21 rfl ?_
      refine V_iconst (v := nI 5) dX12_readsNumber_22 rfl ?_
      refine V_iaddN dX12_readsNumber_23 ?_
      refine V_icmp_neN (tgt := 37) dX12_readsNumber_24 rfl (by omega) (by omega) (fun _ => ?_) (fun h => absurd h (by omega))
      refine V_aload_n dX12_readsNumber_37 rfl ?_
      refine V_bipush (v := nI 10) dX12_readsNumber_38 rfl ?_
      refine V_aload_n dX12_readsNumber_40 rfl ?_
      refine V_getI dX12_readsNumber_41 fX12_236 ⟨Nat.le_of_ble_eq_true rfl, Nat.le_of_ble_eq_true rfl⟩ rfl rfl ?_
      refine V_eqI (y := nI v) hv0 ?_
      refine V_imulN dX12_readsNumber_44 ?_
      refine V_aload_n dX12_readsNumber_45 rfl ?_
      refine V_callV (As := []) (st := [.int (nI (10 * v)), .ref 62]) (a := 62) dX12_readsNumber_46 kX12_here lX12_225 (by decide) rfl rfl (Nat.le_of_ble_eq_true rfl) ⟨Nat.le_of_ble_eq_true rfl, Nat.le_of_ble_eq_true rfl⟩ ⟨Nat.le_of_ble_eq_true rfl, Nat.le_of_ble_eq_true rfl⟩ rfl ⟨rfl, by decide⟩ (w_hereW hW hx) ?_
      rintro _ _ _ _ ⟨rfl, rfl, rfl, rfl⟩
      refine V_eqI (y := nI (sgn tx n p)) (nxI_c (by omega)) ?_
      refine V_iaddN dX12_readsNumber_49 ?_
      refine V_bipush (v := nI 48) dX12_readsNumber_50 rfl ?_
      refine V_isubN dX12_readsNumber_52 (by omega) ?_
      refine V_putW dX12_readsNumber_53 fX12_236 ⟨Nat.le_of_ble_eq_true rfl, Nat.le_of_ble_eq_true rfl⟩ rfl rfl rfl ⟨rfl, rfl⟩ ?_
      refine V_aload_n dX12_readsNumber_56 rfl ?_
      refine V_aload_n dX12_readsNumber_57 rfl ?_
      refine V_getI dX12_readsNumber_58 fX12_219 ⟨Nat.le_of_ble_eq_true rfl, Nat.le_of_ble_eq_true rfl⟩ rfl rfl ?_
      refine V_eqI (y := I1 62 8) rfl ?_
      refine V_eqI (y := nI p) hW.hq ?_
      refine V_iconst (v := nI 1) dX12_readsNumber_61 rfl ?_
      refine V_iaddN dX12_readsNumber_62 ?_
      refine V_putW dX12_readsNumber_63 fX12_219 ⟨Nat.le_of_ble_eq_true rfl, Nat.le_of_ble_eq_true rfl⟩ rfl rfl rfl ⟨rfl, rfl⟩ ?_
      refine V_goto (tgt := 10) dX12_readsNumber_66 rfl ?_
      refine V_sub2 (ls' := [(0, .ref 62), (1, .int (nI q))]) (List.forall_mem_cons.mpr ⟨rfl, List.forall_mem_cons.mpr ⟨rfl, fun _ h => absurd h List.not_mem_nil⟩⟩) ?_
      rw [nmR_d hd]
      exact ih (p + 1) (10 * v + sgn tx n p - 48) _ (by omega) (by omega) (by rw [hpw]; omega) ((hW.num).next hpn) (by simp [zwr_at])
    · skip
      refine V_aload_n dX12_readsNumber_10 rfl ?_
      refine V_callV (As := []) (st := []) (a := 62) dX12_readsNumber_11 kX12_isDigit lX12_239 (by decide) rfl rfl (Nat.le_of_ble_eq_true rfl) ⟨Nat.le_of_ble_eq_true rfl, Nat.le_of_ble_eq_true rfl⟩ ⟨Nat.le_of_ble_eq_true rfl, Nat.le_of_ble_eq_true rfl⟩ rfl ⟨rfl, by decide⟩ (q_n (w_digW hW hx) hd) ?_
      rintro _ _ _ _ ⟨rfl, rfl, rfl, rfl⟩
      refine V_if_eq (tgt := 69) dX12_readsNumber_14 rfl (fun _ => ?_) (fun h => absurd h (by decide))
      refine V_iconst (v := nI 1) dX12_readsNumber_69 rfl ?_
      exact V_iret ⟨Or.inr ⟨rfl, Or.inr rfl⟩, dX12_readsNumber_70⟩ ⟨Nat.le_of_ble_eq_true rfl, Nat.le_of_ble_eq_true rfl⟩ ⟨rfl, fun _ => ⟨rfl, by rw [nmR_e hd]; exact hW, by rw [nmR_e hd]; exact hv0, by rw [nmR_e hd]; exact hvb⟩, fun h => absurd (by rw [nmR_e hd]) h, rfl⟩

set_option maxRecDepth 100000 in
set_option maxHeartbeats 4000000 in
theorem w_readsNumber {G : zG} {I0 I : zI} {J : zJ} {n q z : Nat} {st cs : List (Nat × Nat)} {tx : Nat → Nat} (h : Wd I0 I n q z st cs) (hx : txW I0 tx n)  : zK G mX12_readsNumber 2 [.ref 62] zsh I J (zP (fun w I' J' => ((nmR tx n 5 q 0).1 = 0 → w = some (.int (nI 1)) ∧ Wd I0 I' n (nmR tx n 5 q 0).2.1 z st cs ∧ I' 62 11 = nI (nmR tx n 5 q 0).2.2 ∧ (nmR tx n 5 q 0).2.2 < 100000) ∧ ((nmR tx n 5 q 0).1 ≠ 0 → w = some (.int (nI 0)) ∧ Fq I0 I' (nmR tx n 5 q 0).1 (nmR tx n 5 q 0).2.1) ∧ J = J')) := by
  refine zK_of kX12_readsNumber.2.2.2.2.1 (Nat.le_of_ble_eq_true rfl) ?_
  show V G mX12_readsNumber 2 _ 0 [(0, .ref 62)] [] (0, 0) zsh I J
  refine V_aload_n dX12_readsNumber_0 rfl ?_
  refine V_getI dX12_readsNumber_1 fX12_219 ⟨Nat.le_of_ble_eq_true rfl, Nat.le_of_ble_eq_true rfl⟩ rfl rfl ?_
  refine V_eqI (y := nI q) h.hq ?_
  refine V_istore_n (ls' := [(1, .int (nI q)), (0, .ref 62)]) dX12_readsNumber_4 (by decide) rfl ?_
  refine V_aload_n dX12_readsNumber_5 rfl ?_
  refine V_iconst (v := nI 0) dX12_readsNumber_6 rfl ?_
  refine V_putW dX12_readsNumber_7 fX12_236 ⟨Nat.le_of_ble_eq_true rfl, Nat.le_of_ble_eq_true rfl⟩ rfl rfl rfl ⟨rfl, rfl⟩ ?_
  refine V_sub2 (ls' := [(0, .ref 62), (1, .int (nI q))]) (List.forall_mem_cons.mpr ⟨rfl, List.forall_mem_cons.mpr ⟨rfl, fun _ h => absurd h List.not_mem_nil⟩⟩) ?_
  exact lp_numW hx h.n240 5 q 0 _ (by decide) rfl (by decide) h.num (by simp [zwr_at])

