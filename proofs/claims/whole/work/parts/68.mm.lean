/-! THE MODEL: the match -/
theorem nI_k3 {k : Nat} (h : k ≤ 7) : (nI k - nI 3) + nI 3 = nI k ∧ (nI k - nI 3) + nI 10 = nI (7 + k) ∧ (nI k - nI 3) + 1 = nI (k + 1) - nI 3 ∧ (nI 3 < nI k - nI 3 ↔ k = 7) := by
  rcases (show k = 0 ∨ k = 1 ∨ k = 2 ∨ k = 3 ∨ k = 4 ∨ k = 5 ∨ k = 6 ∨ k = 7 by omega) with rfl | rfl | rfl | rfl | rfl | rfl | rfl | rfl <;> decide
theorem vC_e {Rl : Nat → Nat → (Nat → Int32) → Int32} {Lf : Nat → (Nat → Int32) → Int32} {far l k : Nat} : (vX 3 (nI k - nI 3) 0 Rl Lf far 55 55 l).1 = vC Lf far l k := congrArg Prod.fst vX_3
set_option maxRecDepth 100000 in
set_option maxHeartbeats 4000000 in
theorem lp_ends {G : zG} {I : zI} {J : zJ} {Q : zQ} {a : List (Nat × List (Nat × Nat) × List (Nat × Nat))} {M : Nat → ((Nat → Int32) → Option Int32) × ((Nat → Int32) → Option Int32)} {ar : Nat → List (Nat × List (Nat × Nat) × List (Nat × Nat))} {Mr : Nat → Nat → ((Nat → Int32) → Option Int32) × ((Nat → Int32) → Option Int32)} {far : Nat} (h6 : 6 ≤ far) (h10 : far ≤ 10) (K : ∀ (I1 : zI) (J1 : zJ), soR I1 J1 a M ar Mr far → offX I J I1 J1 → (∀ i, i < 7 → J1 87 i = vC (lfM a M) far 1 i ∧ J1 87 (7 + i) = vC (lfM a M) far 0 i) → I1 62 5 = nI far → Q none zsh I1 J1) : ∀ n k (I1 : zI) (J1 : zJ), k + n = 7 → soR I1 J1 a M ar Mr far → offX I J I1 J1 → I1 62 5 = nI far → sgV 1 (-1) (-1) (rlM ar Mr) (lfM a M) far I1 J1 → (∀ i, i < k → J1 87 i = vC (lfM a M) far 1 i ∧ J1 87 (7 + i) = vC (lfM a M) far 0 i) → V G mX12_laysEnds 10 Q 7 [(0, .ref 62), (1, .int (nI k - nI 3))] [] (0, 0) zsh I1 J1 := by
  intro n
  induction n with
  | zero =>
    intro k I1 J1 hkn i1 i2 i3 i4 i5
    have hk3 := nI_k3 (k := k) (by omega)
    have hk7 : k = 7 := by omega
    refine V_iload_n dX12_laysEnds_7 rfl ?_
    refine V_iconst (v := nI 3) dX12_laysEnds_8 rfl ?_
    refine V_icmp_gt (tgt := 60) dX12_laysEnds_9 rfl (fun _ => ?_) (fun h => absurd (hk3.2.2.2.mpr hk7) h)
    exact V_ret ⟨rfl, dX12_laysEnds_60⟩ ⟨Nat.le_of_ble_eq_true rfl, Nat.le_of_ble_eq_true rfl⟩ (K I1 J1 i1 i2 (hk7 ▸ i5) i3)
  | succ n ih =>
    intro k I1 J1 hkn i1 i2 i3 i4 i5
    have hk3 := nI_k3 (k := k) (by omega)
    refine V_iload_n dX12_laysEnds_7 rfl ?_
    refine V_iconst (v := nI 3) dX12_laysEnds_8 rfl ?_
    refine V_icmp_gt (tgt := 60) dX12_laysEnds_9 rfl (fun h => absurd (hk3.2.2.2.mp h) (by omega)) (fun _ => ?_)
    refine V_aload_n dX12_laysEnds_12 rfl ?_
    refine V_iload_n dX12_laysEnds_13 rfl ?_
    refine V_callV (As := [.int (nI k - nI 3)]) (st := []) (a := 62) dX12_laysEnds_14 kX12_laysLikely lX12_395 (by decide) rfl rfl (Nat.le_of_ble_eq_true rfl) ⟨Nat.le_of_ble_eq_true rfl, Nat.le_of_ble_eq_true rfl⟩ ⟨Nat.le_of_ble_eq_true rfl, Nat.le_of_ble_eq_true rfl⟩ rfl ⟨rfl, by decide⟩ (w_laysLikely i1 h6 h10 i3 i4) ?_
    rintro r sh' I2 J2 ⟨rfl, rfl, hq7, hq8, hR2, hX2, hq5, hq6⟩
    refine V_aload_n dX12_laysEnds_17 rfl ?_
    refine V_getR (b := 87) dX12_laysEnds_18 fX12_85 ⟨Nat.le_of_ble_eq_true rfl, Nat.le_of_ble_eq_true rfl⟩ rfl rfl rfl ?_
    refine V_iload_n dX12_laysEnds_21 rfl ?_
    refine V_iconst (v := nI 3) dX12_laysEnds_22 rfl ?_
    refine V_iadd dX12_laysEnds_23 (V_eqI (y := nI k) hk3.1 ?_)
    refine V_aload_n dX12_laysEnds_24 rfl ?_
    refine V_getR (b := 84) dX12_laysEnds_25 fX12_76 ⟨Nat.le_of_ble_eq_true rfl, Nat.le_of_ble_eq_true rfl⟩ rfl rfl rfl ?_
    refine V_aload_n dX12_laysEnds_28 rfl ?_
    refine V_iconst (v := nI 0) dX12_laysEnds_29 rfl ?_
    refine V_callV (As := [.int (nI 0)]) (st := [.ref 84, .int (nI k), .ref 87]) (a := 62) dX12_laysEnds_30 kX12_begin lX12_398 (by decide) rfl rfl (Nat.le_of_ble_eq_true rfl) ⟨Nat.le_of_ble_eq_true rfl, Nat.le_of_ble_eq_true rfl⟩ ⟨Nat.le_of_ble_eq_true rfl, Nat.le_of_ble_eq_true rfl⟩ rfl ⟨rfl, by decide⟩ (w_begin hR2.1.1 (f := 0) (by omega)) ?_
    rintro _ _ _ _ ⟨rfl, rfl, rfl, rfl⟩
    refine V_laldN (k := stN 55 55 (1 - 0)) dX12_laysEnds_33 ⟨Nat.le_of_ble_eq_true rfl, Nat.le_of_ble_eq_true rfl⟩ rfl (by decide) (stN_lt (by decide) (by decide) (by decide)) ?_
    refine V_eqL (y := vC (lfM a M) far 1 k) ((hq7 55 55 _ (by decide) (by decide) (by omega)).trans vC_e) ?_
    refine V_lastN (k := k) dX12_laysEnds_34 ⟨Nat.le_of_ble_eq_true rfl, Nat.le_of_ble_eq_true rfl⟩ rfl (by decide) (by omega) ?_
    refine V_aload_n dX12_laysEnds_35 rfl ?_
    refine V_getR (b := 87) dX12_laysEnds_36 fX12_85 ⟨Nat.le_of_ble_eq_true rfl, Nat.le_of_ble_eq_true rfl⟩ rfl rfl rfl ?_
    refine V_iload_n dX12_laysEnds_39 rfl ?_
    refine V_bipush (v := nI 10) dX12_laysEnds_40 rfl ?_
    refine V_iadd dX12_laysEnds_42 (V_eqI (y := nI (7 + k)) hk3.2.1 ?_)
    refine V_aload_n dX12_laysEnds_43 rfl ?_
    refine V_getR (b := 84) dX12_laysEnds_44 fX12_76 ⟨Nat.le_of_ble_eq_true rfl, Nat.le_of_ble_eq_true rfl⟩ rfl rfl rfl ?_
    refine V_aload_n dX12_laysEnds_47 rfl ?_
    refine V_iconst (v := nI 1) dX12_laysEnds_48 rfl ?_
    refine V_callV (As := [.int (nI 1)]) (st := [.ref 84, .int (nI (7 + k)), .ref 87]) (a := 62) dX12_laysEnds_49 kX12_begin lX12_398 (by decide) rfl rfl (Nat.le_of_ble_eq_true rfl) ⟨Nat.le_of_ble_eq_true rfl, Nat.le_of_ble_eq_true rfl⟩ ⟨Nat.le_of_ble_eq_true rfl, Nat.le_of_ble_eq_true rfl⟩ rfl ⟨rfl, by decide⟩ (w_begin hR2.1.1 (f := 1) (by omega)) ?_
    rintro _ _ _ _ ⟨rfl, rfl, rfl, rfl⟩
    refine V_laldN (k := stN 55 55 (1 - 1)) dX12_laysEnds_52 ⟨Nat.le_of_ble_eq_true rfl, Nat.le_of_ble_eq_true rfl⟩ rfl (by decide) (stN_lt (by decide) (by decide) (by decide)) ?_
    refine V_eqL (y := J2 84 (stN 55 55 (1 - 1))) rfl ?_
    refine V_eqL (y := vC (lfM a M) far 0 k) ((hq7 55 55 _ (by decide) (by decide) (by omega)).trans vC_e) ?_
    refine V_lastN (k := 7 + k) dX12_laysEnds_53 ⟨Nat.le_of_ble_eq_true rfl, Nat.le_of_ble_eq_true rfl⟩ rfl (by decide) (by omega) ?_
    refine V_iinc (v := (nI k - nI 3) + 1) (ls' := [(1, .int ((nI k - nI 3) + 1)), (0, .ref 62)]) dX12_laysEnds_54 rfl rfl (by decide) rfl ?_
    refine V_goto (tgt := 7) dX12_laysEnds_57 rfl ?_
    refine V_sub2 (ls' := [(0, .ref 62), (1, .int (nI (k + 1) - nI 3))]) (List.forall_mem_cons.mpr ⟨rfl, List.forall_mem_cons.mpr ⟨(congrArg (fun z => some (Value.int z)) hk3.2.2.1), fun _ h => absurd h List.not_mem_nil⟩⟩) ?_
    refine ih (k + 1) I2 _ (by omega) (soR_J (soR_J hR2 (zwl_o (by decide))) (zwl_o (by decide))) (offX_J (offX_J (offX_t i2 hX2) (by omega)) (by omega)) hq5 (sgV_c hq8 rfl ((zwl_o (by decide)).trans (zwl_o (by decide)))) (fun i hi => ?_)
    have e := i5 i
    rw [← hq6 87 (by decide)] at e
    by_cases ek : i = k
    · subst ek
      exact ⟨by simp [zwl_at, show i ≠ 7 + i by omega], by simp [zwl_at]⟩
    · have e2 := e (by omega)
      exact ⟨by simp [zwl_at, ek, show i ≠ 7 + k by omega, e2.1], by simp [zwl_at, ek, show 7 + i ≠ k by omega, show 7 + i ≠ 7 + k by omega, e2.2]⟩

set_option maxRecDepth 100000 in
set_option maxHeartbeats 4000000 in
theorem w_laysEnds {G : zG} {I : zI} {J : zJ} {a : List (Nat × List (Nat × Nat) × List (Nat × Nat))} {M : Nat → ((Nat → Int32) → Option Int32) × ((Nat → Int32) → Option Int32)} {ar : Nat → List (Nat × List (Nat × Nat) × List (Nat × Nat))} {Mr : Nat → Nat → ((Nat → Int32) → Option Int32) × ((Nat → Int32) → Option Int32)} {far : Nat} (hR : soR I J a M ar Mr far) (h6 : 6 ≤ far) (h10 : far ≤ 10)  : zK G mX12_laysEnds 10 [.ref 62] zsh I J (zP (fun r I' J' => r = none ∧ soR I' J' a M ar Mr far ∧ offX I J I' J' ∧ (∀ i, i < 7 → J' 87 i = vC (lfM a M) far 1 i ∧ J' 87 (7 + i) = vC (lfM a M) far 0 i) ∧ I' 62 5 = nI far)) := by
  refine zK_of kX12_laysEnds.2.2.2.2.1 (Nat.le_of_ble_eq_true rfl) ?_
  show V G mX12_laysEnds 10 _ 0 [(0, .ref 62)] [] (0, 0) zsh I J
  refine V_aload_n dX12_laysEnds_0 rfl ?_
  refine V_callV (As := []) (st := []) (a := 62) dX12_laysEnds_1 kX12_solvesBest lX12_390 (by decide) rfl rfl (Nat.le_of_ble_eq_true rfl) ⟨Nat.le_of_ble_eq_true rfl, Nat.le_of_ble_eq_true rfl⟩ ⟨Nat.le_of_ble_eq_true rfl, Nat.le_of_ble_eq_true rfl⟩ rfl ⟨rfl, by decide⟩ (w_solvesBest hR h6 h10) ?_
  rintro r sh' I1 J1 ⟨rfl, rfl, hq1, hR1, hX, hq5⟩
  refine V_bipush (v := (-3)) dX12_laysEnds_4 rfl ?_
  refine V_istore_n (ls' := [(1, .int (-3)), (0, .ref 62)]) dX12_laysEnds_6 (by decide) rfl ?_
  refine V_sub2 (ls' := [(0, .ref 62), (1, .int (nI 0 - nI 3))]) (List.forall_mem_cons.mpr ⟨rfl, List.forall_mem_cons.mpr ⟨(congrArg (fun z => some (Value.int z)) (by decide)), fun _ h => absurd h List.not_mem_nil⟩⟩) ?_
  refine lp_ends h6 h10 (fun I2 J2 g1 g2 g3 g4 => ?_) 7 0 I1 J1 (by omega) hR1 hX hq5 hq1 (fun i hi => absurd hi (by omega))
  exact ⟨rfl, rfl, g1, g2, g3, g4⟩

theorem nI_a3 (n : Nat) : nI n + (-3) + nI 3 = nI n ∧ nI n + (-2) + nI 3 = nI (n + 1) ∧ nI n + (-1) + nI 3 = nI (n + 2) := by
  refine ⟨?_, ?_, ?_⟩
  · rw [Int32.add_assoc, show (-3 : Int32) + nI 3 = 0 from by decide, Int32.add_zero]
  · rw [Int32.add_assoc, show (-2 : Int32) + nI 3 = nI 1 from by decide]
    unfold nI
    rw [Int32.ofNat_add]
  · rw [Int32.add_assoc, show (-1 : Int32) + nI 3 = nI 2 from by decide]
    unfold nI
    rw [Int32.ofNat_add]
set_option maxRecDepth 100000 in
set_option maxHeartbeats 4000000 in
theorem w_winsBy {G : zG} {I : zI} {J : zJ} {cn : Nat → Nat → Int64} {x y f : Nat} (hx : x ≤ 13) (hy : y ≤ 13) (hf : f ≤ 1) (hcn : ∀ k, k < 7 → J 87 (7 * f + k) = cn f k) (hme : ∀ x' y' g, x' ≤ 13 → y' ≤ 13 → g ≤ 1 → (x < x' ∧ y = y' ∨ x = x' ∧ y < y') → I 88 (28 * x' + 2 * y' + g) = wM cn x' y' g) : zK G mX12_winsBy 2 [.ref 62, .int (nI x), .int (nI y), .int (nI f)] zsh I J (zA0 (.int (wM cn x y f)) I J) := by
  refine zK_of kX12_winsBy.2.2.2.2.1 (Nat.le_of_ble_eq_true rfl) ?_
  show V G mX12_winsBy 2 _ 0 [(0, .ref 62), (1, .int (nI x)), (2, .int (nI y)), (3, .int (nI f))] [] (0, 0) zsh I J
  obtain ⟨c0, hc0⟩ : ∃ c, J 87 (7 * f) = c := ⟨_, rfl⟩
  obtain ⟨c1, hc1⟩ : ∃ c, J 87 (7 * f + 1) = c := ⟨_, rfl⟩
  obtain ⟨c2, hc2⟩ : ∃ c, J 87 (7 * f + 2) = c := ⟨_, rfl⟩
  obtain ⟨c4, hc4⟩ : ∃ c, J 87 (7 * f + 4) = c := ⟨_, rfl⟩
  obtain ⟨c5, hc5⟩ : ∃ c, J 87 (7 * f + 5) = c := ⟨_, rfl⟩
  obtain ⟨c6, hc6⟩ : ∃ c, J 87 (7 * f + 6) = c := ⟨_, rfl⟩
  have hrat : ratM (cn f) (vM cn x y) = if 0 + c0 + c1 + c2 + c4 + c5 + c6 = 0 then nI 500000 else ((0 + c0 * (vM cn x y 0).toInt64 + c1 * (vM cn x y 1).toInt64 + c2 * (vM cn x y 2).toInt64 + c4 * (vM cn x y 4).toInt64 + c5 * (vM cn x y 5).toInt64 + c6 * (vM cn x y 6).toInt64) / (0 + c0 + c1 + c2 + c4 + c5 + c6)).toInt32 := by
    rw [← hc0, ← hc1, ← hc2, ← hc4, ← hc5, ← hc6, show J 87 (7 * f) = cn f 0 from hcn 0 (by omega), hcn 1 (by omega), hcn 2 (by omega), hcn 4 (by omega), hcn 5 (by omega), hcn 6 (by omega)]
    rfl
  refine V_iload_n dX12_winsBy_0 rfl ?_
  refine V_bipush (v := nI 13) dX12_winsBy_1 rfl ?_
  refine V_icmp_neN (tgt := 10) dX12_winsBy_3 rfl (by omega) (by omega) (fun h3 => ?_) (fun h3 => ?_)
  · skip
    refine V_iload_n dX12_winsBy_10 rfl ?_
    refine V_bipush (v := nI 13) dX12_winsBy_11 rfl ?_
    refine V_icmp_neN (tgt := 18) dX12_winsBy_13 rfl (by omega) (by omega) (fun h13 => ?_) (fun h13 => ?_)
    · skip
      refine V_lconst (v := 0) dX12_winsBy_18 rfl ?_
      refine V_lstore (ls' := [(4, .long 0), (0, .ref 62), (1, .int (nI x)), (2, .int (nI y)), (3, .int (nI f))]) dX12_winsBy_19 (by decide) rfl ?_
      refine V_lconst (v := 0) dX12_winsBy_21 rfl ?_
      refine V_lstore (ls' := [(6, .long 0), (4, .long 0), (0, .ref 62), (1, .int (nI x)), (2, .int (nI y)), (3, .int (nI f))]) dX12_winsBy_22 (by decide) rfl ?_
      refine V_bipush (v := (-3)) dX12_winsBy_24 rfl ?_
      refine V_istore (ls' := [(8, .int (-3)), (6, .long 0), (4, .long 0), (0, .ref 62), (1, .int (nI x)), (2, .int (nI y)), (3, .int (nI f))]) dX12_winsBy_26 (by decide) rfl ?_
      refine V_iload dX12_winsBy_28 rfl ?_
      refine V_iconst (v := nI 3) dX12_winsBy_30 rfl ?_
      refine V_icmp_gt (tgt := 131) dX12_winsBy_31 rfl (fun h => absurd h (by decide)) (fun _ => ?_)
      refine V_iload dX12_winsBy_34 rfl ?_
      refine V_if_ne (tgt := 42) dX12_winsBy_36 rfl (fun _ => ?_) (fun h => absurd h (by decide))
      refine V_aload_n dX12_winsBy_42 rfl ?_
      refine V_getR (b := 87) dX12_winsBy_43 fX12_85 ⟨Nat.le_of_ble_eq_true rfl, Nat.le_of_ble_eq_true rfl⟩ rfl rfl rfl ?_
      refine V_bipush (v := nI 7) dX12_winsBy_46 rfl ?_
      refine V_iload_n dX12_winsBy_48 rfl ?_
      refine V_imulN dX12_winsBy_49 ?_
      refine V_iload dX12_winsBy_50 rfl ?_
      refine V_iadd dX12_winsBy_52 ?_
      refine V_iconst (v := nI 3) dX12_winsBy_53 rfl ?_
      refine V_iadd dX12_winsBy_54 (V_eqI (y := nI (7 * f)) (nI_a3 (7 * f)).1 ?_)
      refine V_laldN (k := 7 * f) dX12_winsBy_55 ⟨Nat.le_of_ble_eq_true rfl, Nat.le_of_ble_eq_true rfl⟩ rfl (by decide) (by omega) ?_
      refine V_eqL (y := c0) hc0 ?_
      refine V_lstore (ls' := [(9, .long c0), (8, .int (-3)), (6, .long 0), (4, .long 0), (0, .ref 62), (1, .int (nI x)), (2, .int (nI y)), (3, .int (nI f))]) dX12_winsBy_56 (by decide) rfl ?_
      refine V_iload dX12_winsBy_58 rfl ?_
      refine V_if_le (tgt := 82) dX12_winsBy_60 rfl (fun _ => ?_) (fun h => absurd h (by decide))
      refine V_bipush (v := nI 28) dX12_winsBy_82 rfl ?_
      refine V_iload_n dX12_winsBy_84 rfl ?_
      refine V_imulN dX12_winsBy_85 ?_
      refine V_iconst (v := nI 2) dX12_winsBy_86 rfl ?_
      refine V_bipush (v := nI 13) dX12_winsBy_87 rfl ?_
      refine V_iload_n dX12_winsBy_89 rfl ?_
      refine V_iload dX12_winsBy_90 rfl ?_
      refine V_isub dX12_winsBy_92 (V_eqI (y := nI (y + 3)) (nI_subn y 3) ?_)
      refine V_callS (As := [.int (nI 13), .int (nI (y + 3))]) (st := [.int (nI 2), .int (nI (28 * x))]) dX12_winsBy_93 kX12_min lX12_420 (by decide) rfl rfl (Nat.le_of_ble_eq_true rfl) ⟨Nat.le_of_ble_eq_true rfl, Nat.le_of_ble_eq_true rfl⟩ (w_minN (by omega) (by omega)) ?_
      rintro _ _ _ _ ⟨rfl, rfl, rfl, rfl⟩
      refine V_imulN dX12_winsBy_96 ?_
      refine V_iaddN dX12_winsBy_97 ?_
      refine V_iconst (v := nI 1) dX12_winsBy_98 rfl ?_
      refine V_iaddN dX12_winsBy_99 ?_
      refine V_istore (ls' := [(11, .int (nI (((28 * x) + (2 * (min 13 (y + 3)))) + 1))), (9, .long c0), (8, .int (-3)), (6, .long 0), (4, .long 0), (0, .ref 62), (1, .int (nI x)), (2, .int (nI y)), (3, .int (nI f))]) dX12_winsBy_100 (by decide) rfl ?_
      refine V_lload dX12_winsBy_102 rfl ?_
      refine V_lload dX12_winsBy_104 rfl ?_
      refine V_ladd dX12_winsBy_106 ?_
      refine V_lstore (ls' := [(6, .long (0 + c0)), (11, .int (nI (((28 * x) + (2 * (min 13 (y + 3)))) + 1))), (9, .long c0), (8, .int (-3)), (4, .long 0), (0, .ref 62), (1, .int (nI x)), (2, .int (nI y)), (3, .int (nI f))]) dX12_winsBy_107 (by decide) rfl ?_
      refine V_lload dX12_winsBy_109 rfl ?_
      refine V_lload dX12_winsBy_111 rfl ?_
      refine V_aload_n dX12_winsBy_113 rfl ?_
      refine V_getR (b := 88) dX12_winsBy_114 fX12_88 ⟨Nat.le_of_ble_eq_true rfl, Nat.le_of_ble_eq_true rfl⟩ rfl rfl rfl ?_
      refine V_iload dX12_winsBy_117 rfl ?_
      refine V_ialdN (k := ((28 * x) + (2 * (min 13 (y + 3)))) + 1) dX12_winsBy_119 ⟨Nat.le_of_ble_eq_true rfl, Nat.le_of_ble_eq_true rfl⟩ rfl (by decide) (by omega) ?_
      refine V_eqI (y := vM cn x y 0) (by rw [Nat.min_comm 13 (y + 3), hme x (min (y + 3) 13) 1 (by omega) (by omega) (by omega) (by omega)]; rfl) ?_
      refine V_i2l dX12_winsBy_120 ?_
      refine V_lmul dX12_winsBy_121 ?_
      refine V_ladd dX12_winsBy_122 ?_
      refine V_lstore (ls' := [(4, .long (0 + (c0 * ((vM cn x y 0).toInt64)))), (6, .long (0 + c0)), (11, .int (nI (((28 * x) + (2 * (min 13 (y + 3)))) + 1))), (9, .long c0), (8, .int (-3)), (0, .ref 62), (1, .int (nI x)), (2, .int (nI y)), (3, .int (nI f))]) dX12_winsBy_123 (by decide) rfl ?_
      refine V_iinc (v := (-2)) (ls' := [(8, .int (-2)), (4, .long (0 + (c0 * ((vM cn x y 0).toInt64)))), (6, .long (0 + c0)), (11, .int (nI (((28 * x) + (2 * (min 13 (y + 3)))) + 1))), (9, .long c0), (0, .ref 62), (1, .int (nI x)), (2, .int (nI y)), (3, .int (nI f))]) dX12_winsBy_125 rfl (by decide) (by decide) rfl ?_
      refine V_goto (tgt := 28) dX12_winsBy_128 rfl ?_
      refine V_iload dX12_winsBy_28 rfl ?_
      refine V_iconst (v := nI 3) dX12_winsBy_30 rfl ?_
      refine V_icmp_gt (tgt := 131) dX12_winsBy_31 rfl (fun h => absurd h (by decide)) (fun _ => ?_)
      refine V_iload dX12_winsBy_34 rfl ?_
      refine V_if_ne (tgt := 42) dX12_winsBy_36 rfl (fun _ => ?_) (fun h => absurd h (by decide))
      refine V_aload_n dX12_winsBy_42 rfl ?_
      refine V_getR (b := 87) dX12_winsBy_43 fX12_85 ⟨Nat.le_of_ble_eq_true rfl, Nat.le_of_ble_eq_true rfl⟩ rfl rfl rfl ?_
      refine V_bipush (v := nI 7) dX12_winsBy_46 rfl ?_
      refine V_iload_n dX12_winsBy_48 rfl ?_
      refine V_imulN dX12_winsBy_49 ?_
      refine V_iload dX12_winsBy_50 rfl ?_
      refine V_iadd dX12_winsBy_52 ?_
      refine V_iconst (v := nI 3) dX12_winsBy_53 rfl ?_
      refine V_iadd dX12_winsBy_54 (V_eqI (y := nI (7 * f + 1)) (nI_a3 (7 * f)).2.1 ?_)
      refine V_laldN (k := 7 * f + 1) dX12_winsBy_55 ⟨Nat.le_of_ble_eq_true rfl, Nat.le_of_ble_eq_true rfl⟩ rfl (by decide) (by omega) ?_
      refine V_eqL (y := c1) hc1 ?_
      refine V_lstore (ls' := [(9, .long c1), (8, .int (-2)), (4, .long (0 + (c0 * ((vM cn x y 0).toInt64)))), (6, .long (0 + c0)), (11, .int (nI (((28 * x) + (2 * (min 13 (y + 3)))) + 1))), (0, .ref 62), (1, .int (nI x)), (2, .int (nI y)), (3, .int (nI f))]) dX12_winsBy_56 (by decide) rfl ?_
      refine V_iload dX12_winsBy_58 rfl ?_
      refine V_if_le (tgt := 82) dX12_winsBy_60 rfl (fun _ => ?_) (fun h => absurd h (by decide))
      refine V_bipush (v := nI 28) dX12_winsBy_82 rfl ?_
      refine V_iload_n dX12_winsBy_84 rfl ?_
      refine V_imulN dX12_winsBy_85 ?_
      refine V_iconst (v := nI 2) dX12_winsBy_86 rfl ?_
      refine V_bipush (v := nI 13) dX12_winsBy_87 rfl ?_
      refine V_iload_n dX12_winsBy_89 rfl ?_
      refine V_iload dX12_winsBy_90 rfl ?_
      refine V_isub dX12_winsBy_92 (V_eqI (y := nI (y + 2)) (nI_subn y 2) ?_)
      refine V_callS (As := [.int (nI 13), .int (nI (y + 2))]) (st := [.int (nI 2), .int (nI (28 * x))]) dX12_winsBy_93 kX12_min lX12_420 (by decide) rfl rfl (Nat.le_of_ble_eq_true rfl) ⟨Nat.le_of_ble_eq_true rfl, Nat.le_of_ble_eq_true rfl⟩ (w_minN (by omega) (by omega)) ?_
      rintro _ _ _ _ ⟨rfl, rfl, rfl, rfl⟩
      refine V_imulN dX12_winsBy_96 ?_
      refine V_iaddN dX12_winsBy_97 ?_
      refine V_iconst (v := nI 1) dX12_winsBy_98 rfl ?_
      refine V_iaddN dX12_winsBy_99 ?_
      refine V_istore (ls' := [(11, .int (nI (((28 * x) + (2 * (min 13 (y + 2)))) + 1))), (9, .long c1), (8, .int (-2)), (4, .long (0 + (c0 * ((vM cn x y 0).toInt64)))), (6, .long (0 + c0)), (0, .ref 62), (1, .int (nI x)), (2, .int (nI y)), (3, .int (nI f))]) dX12_winsBy_100 (by decide) rfl ?_
      refine V_lload dX12_winsBy_102 rfl ?_
      refine V_lload dX12_winsBy_104 rfl ?_
      refine V_ladd dX12_winsBy_106 ?_
      refine V_lstore (ls' := [(6, .long ((0 + c0) + c1)), (11, .int (nI (((28 * x) + (2 * (min 13 (y + 2)))) + 1))), (9, .long c1), (8, .int (-2)), (4, .long (0 + (c0 * ((vM cn x y 0).toInt64)))), (0, .ref 62), (1, .int (nI x)), (2, .int (nI y)), (3, .int (nI f))]) dX12_winsBy_107 (by decide) rfl ?_
      refine V_lload dX12_winsBy_109 rfl ?_
      refine V_lload dX12_winsBy_111 rfl ?_
      refine V_aload_n dX12_winsBy_113 rfl ?_
      refine V_getR (b := 88) dX12_winsBy_114 fX12_88 ⟨Nat.le_of_ble_eq_true rfl, Nat.le_of_ble_eq_true rfl⟩ rfl rfl rfl ?_
      refine V_iload dX12_winsBy_117 rfl ?_
      refine V_ialdN (k := ((28 * x) + (2 * (min 13 (y + 2)))) + 1) dX12_winsBy_119 ⟨Nat.le_of_ble_eq_true rfl, Nat.le_of_ble_eq_true rfl⟩ rfl (by decide) (by omega) ?_
      refine V_eqI (y := vM cn x y 1) (by rw [Nat.min_comm 13 (y + 2), hme x (min (y + 2) 13) 1 (by omega) (by omega) (by omega) (by omega)]; rfl) ?_
      refine V_i2l dX12_winsBy_120 ?_
      refine V_lmul dX12_winsBy_121 ?_
      refine V_ladd dX12_winsBy_122 ?_
      refine V_lstore (ls' := [(4, .long ((0 + (c0 * ((vM cn x y 0).toInt64))) + (c1 * ((vM cn x y 1).toInt64)))), (6, .long ((0 + c0) + c1)), (11, .int (nI (((28 * x) + (2 * (min 13 (y + 2)))) + 1))), (9, .long c1), (8, .int (-2)), (0, .ref 62), (1, .int (nI x)), (2, .int (nI y)), (3, .int (nI f))]) dX12_winsBy_123 (by decide) rfl ?_
      refine V_iinc (v := (-1)) (ls' := [(8, .int (-1)), (4, .long ((0 + (c0 * ((vM cn x y 0).toInt64))) + (c1 * ((vM cn x y 1).toInt64)))), (6, .long ((0 + c0) + c1)), (11, .int (nI (((28 * x) + (2 * (min 13 (y + 2)))) + 1))), (9, .long c1), (0, .ref 62), (1, .int (nI x)), (2, .int (nI y)), (3, .int (nI f))]) dX12_winsBy_125 rfl (by decide) (by decide) rfl ?_
      refine V_goto (tgt := 28) dX12_winsBy_128 rfl ?_
      refine V_iload dX12_winsBy_28 rfl ?_
      refine V_iconst (v := nI 3) dX12_winsBy_30 rfl ?_
      refine V_icmp_gt (tgt := 131) dX12_winsBy_31 rfl (fun h => absurd h (by decide)) (fun _ => ?_)
      refine V_iload dX12_winsBy_34 rfl ?_
      refine V_if_ne (tgt := 42) dX12_winsBy_36 rfl (fun _ => ?_) (fun h => absurd h (by decide))
      refine V_aload_n dX12_winsBy_42 rfl ?_
      refine V_getR (b := 87) dX12_winsBy_43 fX12_85 ⟨Nat.le_of_ble_eq_true rfl, Nat.le_of_ble_eq_true rfl⟩ rfl rfl rfl ?_
      refine V_bipush (v := nI 7) dX12_winsBy_46 rfl ?_
      refine V_iload_n dX12_winsBy_48 rfl ?_
      refine V_imulN dX12_winsBy_49 ?_
      refine V_iload dX12_winsBy_50 rfl ?_
      refine V_iadd dX12_winsBy_52 ?_
      refine V_iconst (v := nI 3) dX12_winsBy_53 rfl ?_
      refine V_iadd dX12_winsBy_54 (V_eqI (y := nI (7 * f + 2)) (nI_a3 (7 * f)).2.2 ?_)
      refine V_laldN (k := 7 * f + 2) dX12_winsBy_55 ⟨Nat.le_of_ble_eq_true rfl, Nat.le_of_ble_eq_true rfl⟩ rfl (by decide) (by omega) ?_
      refine V_eqL (y := c2) hc2 ?_
      refine V_lstore (ls' := [(9, .long c2), (8, .int (-1)), (4, .long ((0 + (c0 * ((vM cn x y 0).toInt64))) + (c1 * ((vM cn x y 1).toInt64)))), (6, .long ((0 + c0) + c1)), (11, .int (nI (((28 * x) + (2 * (min 13 (y + 2)))) + 1))), (0, .ref 62), (1, .int (nI x)), (2, .int (nI y)), (3, .int (nI f))]) dX12_winsBy_56 (by decide) rfl ?_
      refine V_iload dX12_winsBy_58 rfl ?_
      refine V_if_le (tgt := 82) dX12_winsBy_60 rfl (fun _ => ?_) (fun h => absurd h (by decide))
      refine V_bipush (v := nI 28) dX12_winsBy_82 rfl ?_
      refine V_iload_n dX12_winsBy_84 rfl ?_
      refine V_imulN dX12_winsBy_85 ?_
      refine V_iconst (v := nI 2) dX12_winsBy_86 rfl ?_
      refine V_bipush (v := nI 13) dX12_winsBy_87 rfl ?_
      refine V_iload_n dX12_winsBy_89 rfl ?_
      refine V_iload dX12_winsBy_90 rfl ?_
      refine V_isub dX12_winsBy_92 (V_eqI (y := nI (y + 1)) (nI_subn y 1) ?_)
      refine V_callS (As := [.int (nI 13), .int (nI (y + 1))]) (st := [.int (nI 2), .int (nI (28 * x))]) dX12_winsBy_93 kX12_min lX12_420 (by decide) rfl rfl (Nat.le_of_ble_eq_true rfl) ⟨Nat.le_of_ble_eq_true rfl, Nat.le_of_ble_eq_true rfl⟩ (w_minN (by omega) (by omega)) ?_
      rintro _ _ _ _ ⟨rfl, rfl, rfl, rfl⟩
      refine V_imulN dX12_winsBy_96 ?_
      refine V_iaddN dX12_winsBy_97 ?_
      refine V_iconst (v := nI 1) dX12_winsBy_98 rfl ?_
      refine V_iaddN dX12_winsBy_99 ?_
      refine V_istore (ls' := [(11, .int (nI (((28 * x) + (2 * (min 13 (y + 1)))) + 1))), (9, .long c2), (8, .int (-1)), (4, .long ((0 + (c0 * ((vM cn x y 0).toInt64))) + (c1 * ((vM cn x y 1).toInt64)))), (6, .long ((0 + c0) + c1)), (0, .ref 62), (1, .int (nI x)), (2, .int (nI y)), (3, .int (nI f))]) dX12_winsBy_100 (by decide) rfl ?_
      refine V_lload dX12_winsBy_102 rfl ?_
      refine V_lload dX12_winsBy_104 rfl ?_
      refine V_ladd dX12_winsBy_106 ?_
      refine V_lstore (ls' := [(6, .long (((0 + c0) + c1) + c2)), (11, .int (nI (((28 * x) + (2 * (min 13 (y + 1)))) + 1))), (9, .long c2), (8, .int (-1)), (4, .long ((0 + (c0 * ((vM cn x y 0).toInt64))) + (c1 * ((vM cn x y 1).toInt64)))), (0, .ref 62), (1, .int (nI x)), (2, .int (nI y)), (3, .int (nI f))]) dX12_winsBy_107 (by decide) rfl ?_
      refine V_lload dX12_winsBy_109 rfl ?_
      refine V_lload dX12_winsBy_111 rfl ?_
      refine V_aload_n dX12_winsBy_113 rfl ?_
      refine V_getR (b := 88) dX12_winsBy_114 fX12_88 ⟨Nat.le_of_ble_eq_true rfl, Nat.le_of_ble_eq_true rfl⟩ rfl rfl rfl ?_
      refine V_iload dX12_winsBy_117 rfl ?_
      refine V_ialdN (k := ((28 * x) + (2 * (min 13 (y + 1)))) + 1) dX12_winsBy_119 ⟨Nat.le_of_ble_eq_true rfl, Nat.le_of_ble_eq_true rfl⟩ rfl (by decide) (by omega) ?_
      refine V_eqI (y := vM cn x y 2) (by rw [Nat.min_comm 13 (y + 1), hme x (min (y + 1) 13) 1 (by omega) (by omega) (by omega) (by omega)]; rfl) ?_
      refine V_i2l dX12_winsBy_120 ?_
      refine V_lmul dX12_winsBy_121 ?_
      refine V_ladd dX12_winsBy_122 ?_
      refine V_lstore (ls' := [(4, .long (((0 + (c0 * ((vM cn x y 0).toInt64))) + (c1 * ((vM cn x y 1).toInt64))) + (c2 * ((vM cn x y 2).toInt64)))), (6, .long (((0 + c0) + c1) + c2)), (11, .int (nI (((28 * x) + (2 * (min 13 (y + 1)))) + 1))), (9, .long c2), (8, .int (-1)), (0, .ref 62), (1, .int (nI x)), (2, .int (nI y)), (3, .int (nI f))]) dX12_winsBy_123 (by decide) rfl ?_
      refine V_iinc (v := nI 0) (ls' := [(8, .int (nI 0)), (4, .long (((0 + (c0 * ((vM cn x y 0).toInt64))) + (c1 * ((vM cn x y 1).toInt64))) + (c2 * ((vM cn x y 2).toInt64)))), (6, .long (((0 + c0) + c1) + c2)), (11, .int (nI (((28 * x) + (2 * (min 13 (y + 1)))) + 1))), (9, .long c2), (0, .ref 62), (1, .int (nI x)), (2, .int (nI y)), (3, .int (nI f))]) dX12_winsBy_125 rfl (by decide) (by decide) rfl ?_
      refine V_goto (tgt := 28) dX12_winsBy_128 rfl ?_
      refine V_iload dX12_winsBy_28 rfl ?_
      refine V_iconst (v := nI 3) dX12_winsBy_30 rfl ?_
      refine V_icmp_gt (tgt := 131) dX12_winsBy_31 rfl (fun h => absurd h (by decide)) (fun _ => ?_)
      refine V_iload dX12_winsBy_34 rfl ?_
      refine V_if_ne (tgt := 42) dX12_winsBy_36 rfl (fun h => absurd h (by decide)) (fun _ => ?_)
      refine V_goto (tgt := 125) dX12_winsBy_39 rfl ?_
      refine V_iinc (v := nI 1) (ls' := [(8, .int (nI 1)), (4, .long (((0 + (c0 * ((vM cn x y 0).toInt64))) + (c1 * ((vM cn x y 1).toInt64))) + (c2 * ((vM cn x y 2).toInt64)))), (6, .long (((0 + c0) + c1) + c2)), (11, .int (nI (((28 * x) + (2 * (min 13 (y + 1)))) + 1))), (9, .long c2), (0, .ref 62), (1, .int (nI x)), (2, .int (nI y)), (3, .int (nI f))]) dX12_winsBy_125 rfl (by decide) (by decide) rfl ?_
      refine V_goto (tgt := 28) dX12_winsBy_128 rfl ?_
      refine V_iload dX12_winsBy_28 rfl ?_
      refine V_iconst (v := nI 3) dX12_winsBy_30 rfl ?_
      refine V_icmp_gt (tgt := 131) dX12_winsBy_31 rfl (fun h => absurd h (by decide)) (fun _ => ?_)
      refine V_iload dX12_winsBy_34 rfl ?_
      refine V_if_ne (tgt := 42) dX12_winsBy_36 rfl (fun _ => ?_) (fun h => absurd h (by decide))
      refine V_aload_n dX12_winsBy_42 rfl ?_
      refine V_getR (b := 87) dX12_winsBy_43 fX12_85 ⟨Nat.le_of_ble_eq_true rfl, Nat.le_of_ble_eq_true rfl⟩ rfl rfl rfl ?_
      refine V_bipush (v := nI 7) dX12_winsBy_46 rfl ?_
      refine V_iload_n dX12_winsBy_48 rfl ?_
      refine V_imulN dX12_winsBy_49 ?_
      refine V_iload dX12_winsBy_50 rfl ?_
      refine V_iaddN dX12_winsBy_52 ?_
      refine V_iconst (v := nI 3) dX12_winsBy_53 rfl ?_
      refine V_iaddN dX12_winsBy_54 ?_
      refine V_laldN (k := (7 * f) + 4) dX12_winsBy_55 ⟨Nat.le_of_ble_eq_true rfl, Nat.le_of_ble_eq_true rfl⟩ rfl (by decide) (by omega) ?_
      refine V_eqL (y := c4) hc4 ?_
      refine V_lstore (ls' := [(9, .long c4), (8, .int (nI 1)), (4, .long (((0 + (c0 * ((vM cn x y 0).toInt64))) + (c1 * ((vM cn x y 1).toInt64))) + (c2 * ((vM cn x y 2).toInt64)))), (6, .long (((0 + c0) + c1) + c2)), (11, .int (nI (((28 * x) + (2 * (min 13 (y + 1)))) + 1))), (0, .ref 62), (1, .int (nI x)), (2, .int (nI y)), (3, .int (nI f))]) dX12_winsBy_56 (by decide) rfl ?_
      refine V_iload dX12_winsBy_58 rfl ?_
      refine V_if_le (tgt := 82) dX12_winsBy_60 rfl (fun h => absurd h (by decide)) (fun _ => ?_)
      refine V_bipush (v := nI 28) dX12_winsBy_63 rfl ?_
      refine V_bipush (v := nI 13) dX12_winsBy_65 rfl ?_
      refine V_iload_n dX12_winsBy_67 rfl ?_
      refine V_iload dX12_winsBy_68 rfl ?_
      refine V_iaddN dX12_winsBy_70 ?_
      refine V_callS (As := [.int (nI 13), .int (nI (x + 1))]) (st := [.int (nI 28)]) dX12_winsBy_71 kX12_min lX12_420 (by decide) rfl rfl (Nat.le_of_ble_eq_true rfl) ⟨Nat.le_of_ble_eq_true rfl, Nat.le_of_ble_eq_true rfl⟩ (w_minN (by omega) (by omega)) ?_
      rintro _ _ _ _ ⟨rfl, rfl, rfl, rfl⟩
      refine V_imulN dX12_winsBy_74 ?_
      refine V_iconst (v := nI 2) dX12_winsBy_75 rfl ?_
      refine V_iload_n dX12_winsBy_76 rfl ?_
      refine V_imulN dX12_winsBy_77 ?_
      refine V_iaddN dX12_winsBy_78 ?_
      refine V_goto (tgt := 100) dX12_winsBy_79 rfl ?_
      refine V_istore (ls' := [(11, .int (nI ((28 * (min 13 (x + 1))) + (2 * y)))), (9, .long c4), (8, .int (nI 1)), (4, .long (((0 + (c0 * ((vM cn x y 0).toInt64))) + (c1 * ((vM cn x y 1).toInt64))) + (c2 * ((vM cn x y 2).toInt64)))), (6, .long (((0 + c0) + c1) + c2)), (0, .ref 62), (1, .int (nI x)), (2, .int (nI y)), (3, .int (nI f))]) dX12_winsBy_100 (by decide) rfl ?_
      refine V_lload dX12_winsBy_102 rfl ?_
      refine V_lload dX12_winsBy_104 rfl ?_
      refine V_ladd dX12_winsBy_106 ?_
      refine V_lstore (ls' := [(6, .long ((((0 + c0) + c1) + c2) + c4)), (11, .int (nI ((28 * (min 13 (x + 1))) + (2 * y)))), (9, .long c4), (8, .int (nI 1)), (4, .long (((0 + (c0 * ((vM cn x y 0).toInt64))) + (c1 * ((vM cn x y 1).toInt64))) + (c2 * ((vM cn x y 2).toInt64)))), (0, .ref 62), (1, .int (nI x)), (2, .int (nI y)), (3, .int (nI f))]) dX12_winsBy_107 (by decide) rfl ?_
      refine V_lload dX12_winsBy_109 rfl ?_
      refine V_lload dX12_winsBy_111 rfl ?_
      refine V_aload_n dX12_winsBy_113 rfl ?_
      refine V_getR (b := 88) dX12_winsBy_114 fX12_88 ⟨Nat.le_of_ble_eq_true rfl, Nat.le_of_ble_eq_true rfl⟩ rfl rfl rfl ?_
      refine V_iload dX12_winsBy_117 rfl ?_
      refine V_ialdN (k := (28 * (min 13 (x + 1))) + (2 * y)) dX12_winsBy_119 ⟨Nat.le_of_ble_eq_true rfl, Nat.le_of_ble_eq_true rfl⟩ rfl (by decide) (by omega) ?_
      refine V_eqI (y := vM cn x y 4) (by have h := hme (min (x + 1) 13) y 0 (by omega) (by omega) (by omega) (by omega); rw [Nat.add_zero] at h; rw [Nat.min_comm 13 (x + 1), h]; rfl) ?_
      refine V_i2l dX12_winsBy_120 ?_
      refine V_lmul dX12_winsBy_121 ?_
      refine V_ladd dX12_winsBy_122 ?_
      refine V_lstore (ls' := [(4, .long ((((0 + (c0 * ((vM cn x y 0).toInt64))) + (c1 * ((vM cn x y 1).toInt64))) + (c2 * ((vM cn x y 2).toInt64))) + (c4 * ((vM cn x y 4).toInt64)))), (6, .long ((((0 + c0) + c1) + c2) + c4)), (11, .int (nI ((28 * (min 13 (x + 1))) + (2 * y)))), (9, .long c4), (8, .int (nI 1)), (0, .ref 62), (1, .int (nI x)), (2, .int (nI y)), (3, .int (nI f))]) dX12_winsBy_123 (by decide) rfl ?_
      refine V_iinc (v := nI 2) (ls' := [(8, .int (nI 2)), (4, .long ((((0 + (c0 * ((vM cn x y 0).toInt64))) + (c1 * ((vM cn x y 1).toInt64))) + (c2 * ((vM cn x y 2).toInt64))) + (c4 * ((vM cn x y 4).toInt64)))), (6, .long ((((0 + c0) + c1) + c2) + c4)), (11, .int (nI ((28 * (min 13 (x + 1))) + (2 * y)))), (9, .long c4), (0, .ref 62), (1, .int (nI x)), (2, .int (nI y)), (3, .int (nI f))]) dX12_winsBy_125 rfl (by decide) (by decide) rfl ?_
      refine V_goto (tgt := 28) dX12_winsBy_128 rfl ?_
      refine V_iload dX12_winsBy_28 rfl ?_
      refine V_iconst (v := nI 3) dX12_winsBy_30 rfl ?_
      refine V_icmp_gt (tgt := 131) dX12_winsBy_31 rfl (fun h => absurd h (by decide)) (fun _ => ?_)
      refine V_iload dX12_winsBy_34 rfl ?_
      refine V_if_ne (tgt := 42) dX12_winsBy_36 rfl (fun _ => ?_) (fun h => absurd h (by decide))
      refine V_aload_n dX12_winsBy_42 rfl ?_
      refine V_getR (b := 87) dX12_winsBy_43 fX12_85 ⟨Nat.le_of_ble_eq_true rfl, Nat.le_of_ble_eq_true rfl⟩ rfl rfl rfl ?_
      refine V_bipush (v := nI 7) dX12_winsBy_46 rfl ?_
      refine V_iload_n dX12_winsBy_48 rfl ?_
      refine V_imulN dX12_winsBy_49 ?_
      refine V_iload dX12_winsBy_50 rfl ?_
      refine V_iaddN dX12_winsBy_52 ?_
      refine V_iconst (v := nI 3) dX12_winsBy_53 rfl ?_
      refine V_iaddN dX12_winsBy_54 ?_
      refine V_laldN (k := (7 * f) + 5) dX12_winsBy_55 ⟨Nat.le_of_ble_eq_true rfl, Nat.le_of_ble_eq_true rfl⟩ rfl (by decide) (by omega) ?_
      refine V_eqL (y := c5) hc5 ?_
      refine V_lstore (ls' := [(9, .long c5), (8, .int (nI 2)), (4, .long ((((0 + (c0 * ((vM cn x y 0).toInt64))) + (c1 * ((vM cn x y 1).toInt64))) + (c2 * ((vM cn x y 2).toInt64))) + (c4 * ((vM cn x y 4).toInt64)))), (6, .long ((((0 + c0) + c1) + c2) + c4)), (11, .int (nI ((28 * (min 13 (x + 1))) + (2 * y)))), (0, .ref 62), (1, .int (nI x)), (2, .int (nI y)), (3, .int (nI f))]) dX12_winsBy_56 (by decide) rfl ?_
      refine V_iload dX12_winsBy_58 rfl ?_
      refine V_if_le (tgt := 82) dX12_winsBy_60 rfl (fun h => absurd h (by decide)) (fun _ => ?_)
      refine V_bipush (v := nI 28) dX12_winsBy_63 rfl ?_
      refine V_bipush (v := nI 13) dX12_winsBy_65 rfl ?_
      refine V_iload_n dX12_winsBy_67 rfl ?_
      refine V_iload dX12_winsBy_68 rfl ?_
      refine V_iaddN dX12_winsBy_70 ?_
      refine V_callS (As := [.int (nI 13), .int (nI (x + 2))]) (st := [.int (nI 28)]) dX12_winsBy_71 kX12_min lX12_420 (by decide) rfl rfl (Nat.le_of_ble_eq_true rfl) ⟨Nat.le_of_ble_eq_true rfl, Nat.le_of_ble_eq_true rfl⟩ (w_minN (by omega) (by omega)) ?_
      rintro _ _ _ _ ⟨rfl, rfl, rfl, rfl⟩
      refine V_imulN dX12_winsBy_74 ?_
      refine V_iconst (v := nI 2) dX12_winsBy_75 rfl ?_
      refine V_iload_n dX12_winsBy_76 rfl ?_
      refine V_imulN dX12_winsBy_77 ?_
      refine V_iaddN dX12_winsBy_78 ?_
      refine V_goto (tgt := 100) dX12_winsBy_79 rfl ?_
      refine V_istore (ls' := [(11, .int (nI ((28 * (min 13 (x + 2))) + (2 * y)))), (9, .long c5), (8, .int (nI 2)), (4, .long ((((0 + (c0 * ((vM cn x y 0).toInt64))) + (c1 * ((vM cn x y 1).toInt64))) + (c2 * ((vM cn x y 2).toInt64))) + (c4 * ((vM cn x y 4).toInt64)))), (6, .long ((((0 + c0) + c1) + c2) + c4)), (0, .ref 62), (1, .int (nI x)), (2, .int (nI y)), (3, .int (nI f))]) dX12_winsBy_100 (by decide) rfl ?_
      refine V_lload dX12_winsBy_102 rfl ?_
      refine V_lload dX12_winsBy_104 rfl ?_
      refine V_ladd dX12_winsBy_106 ?_
      refine V_lstore (ls' := [(6, .long (((((0 + c0) + c1) + c2) + c4) + c5)), (11, .int (nI ((28 * (min 13 (x + 2))) + (2 * y)))), (9, .long c5), (8, .int (nI 2)), (4, .long ((((0 + (c0 * ((vM cn x y 0).toInt64))) + (c1 * ((vM cn x y 1).toInt64))) + (c2 * ((vM cn x y 2).toInt64))) + (c4 * ((vM cn x y 4).toInt64)))), (0, .ref 62), (1, .int (nI x)), (2, .int (nI y)), (3, .int (nI f))]) dX12_winsBy_107 (by decide) rfl ?_
      refine V_lload dX12_winsBy_109 rfl ?_
      refine V_lload dX12_winsBy_111 rfl ?_
      refine V_aload_n dX12_winsBy_113 rfl ?_
      refine V_getR (b := 88) dX12_winsBy_114 fX12_88 ⟨Nat.le_of_ble_eq_true rfl, Nat.le_of_ble_eq_true rfl⟩ rfl rfl rfl ?_
      refine V_iload dX12_winsBy_117 rfl ?_
      refine V_ialdN (k := (28 * (min 13 (x + 2))) + (2 * y)) dX12_winsBy_119 ⟨Nat.le_of_ble_eq_true rfl, Nat.le_of_ble_eq_true rfl⟩ rfl (by decide) (by omega) ?_
      refine V_eqI (y := vM cn x y 5) (by have h := hme (min (x + 2) 13) y 0 (by omega) (by omega) (by omega) (by omega); rw [Nat.add_zero] at h; rw [Nat.min_comm 13 (x + 2), h]; rfl) ?_
      refine V_i2l dX12_winsBy_120 ?_
      refine V_lmul dX12_winsBy_121 ?_
      refine V_ladd dX12_winsBy_122 ?_
      refine V_lstore (ls' := [(4, .long (((((0 + (c0 * ((vM cn x y 0).toInt64))) + (c1 * ((vM cn x y 1).toInt64))) + (c2 * ((vM cn x y 2).toInt64))) + (c4 * ((vM cn x y 4).toInt64))) + (c5 * ((vM cn x y 5).toInt64)))), (6, .long (((((0 + c0) + c1) + c2) + c4) + c5)), (11, .int (nI ((28 * (min 13 (x + 2))) + (2 * y)))), (9, .long c5), (8, .int (nI 2)), (0, .ref 62), (1, .int (nI x)), (2, .int (nI y)), (3, .int (nI f))]) dX12_winsBy_123 (by decide) rfl ?_
      refine V_iinc (v := nI 3) (ls' := [(8, .int (nI 3)), (4, .long (((((0 + (c0 * ((vM cn x y 0).toInt64))) + (c1 * ((vM cn x y 1).toInt64))) + (c2 * ((vM cn x y 2).toInt64))) + (c4 * ((vM cn x y 4).toInt64))) + (c5 * ((vM cn x y 5).toInt64)))), (6, .long (((((0 + c0) + c1) + c2) + c4) + c5)), (11, .int (nI ((28 * (min 13 (x + 2))) + (2 * y)))), (9, .long c5), (0, .ref 62), (1, .int (nI x)), (2, .int (nI y)), (3, .int (nI f))]) dX12_winsBy_125 rfl (by decide) (by decide) rfl ?_
      refine V_goto (tgt := 28) dX12_winsBy_128 rfl ?_
      refine V_iload dX12_winsBy_28 rfl ?_
      refine V_iconst (v := nI 3) dX12_winsBy_30 rfl ?_
      refine V_icmp_gt (tgt := 131) dX12_winsBy_31 rfl (fun h => absurd h (by decide)) (fun _ => ?_)
      refine V_iload dX12_winsBy_34 rfl ?_
      refine V_if_ne (tgt := 42) dX12_winsBy_36 rfl (fun _ => ?_) (fun h => absurd h (by decide))
      refine V_aload_n dX12_winsBy_42 rfl ?_
      refine V_getR (b := 87) dX12_winsBy_43 fX12_85 ⟨Nat.le_of_ble_eq_true rfl, Nat.le_of_ble_eq_true rfl⟩ rfl rfl rfl ?_
      refine V_bipush (v := nI 7) dX12_winsBy_46 rfl ?_
      refine V_iload_n dX12_winsBy_48 rfl ?_
      refine V_imulN dX12_winsBy_49 ?_
      refine V_iload dX12_winsBy_50 rfl ?_
      refine V_iaddN dX12_winsBy_52 ?_
      refine V_iconst (v := nI 3) dX12_winsBy_53 rfl ?_
      refine V_iaddN dX12_winsBy_54 ?_
      refine V_laldN (k := (7 * f) + 6) dX12_winsBy_55 ⟨Nat.le_of_ble_eq_true rfl, Nat.le_of_ble_eq_true rfl⟩ rfl (by decide) (by omega) ?_
      refine V_eqL (y := c6) hc6 ?_
      refine V_lstore (ls' := [(9, .long c6), (8, .int (nI 3)), (4, .long (((((0 + (c0 * ((vM cn x y 0).toInt64))) + (c1 * ((vM cn x y 1).toInt64))) + (c2 * ((vM cn x y 2).toInt64))) + (c4 * ((vM cn x y 4).toInt64))) + (c5 * ((vM cn x y 5).toInt64)))), (6, .long (((((0 + c0) + c1) + c2) + c4) + c5)), (11, .int (nI ((28 * (min 13 (x + 2))) + (2 * y)))), (0, .ref 62), (1, .int (nI x)), (2, .int (nI y)), (3, .int (nI f))]) dX12_winsBy_56 (by decide) rfl ?_
      refine V_iload dX12_winsBy_58 rfl ?_
      refine V_if_le (tgt := 82) dX12_winsBy_60 rfl (fun h => absurd h (by decide)) (fun _ => ?_)
      refine V_bipush (v := nI 28) dX12_winsBy_63 rfl ?_
      refine V_bipush (v := nI 13) dX12_winsBy_65 rfl ?_
      refine V_iload_n dX12_winsBy_67 rfl ?_
      refine V_iload dX12_winsBy_68 rfl ?_
      refine V_iaddN dX12_winsBy_70 ?_
      refine V_callS (As := [.int (nI 13), .int (nI (x + 3))]) (st := [.int (nI 28)]) dX12_winsBy_71 kX12_min lX12_420 (by decide) rfl rfl (Nat.le_of_ble_eq_true rfl) ⟨Nat.le_of_ble_eq_true rfl, Nat.le_of_ble_eq_true rfl⟩ (w_minN (by omega) (by omega)) ?_
      rintro _ _ _ _ ⟨rfl, rfl, rfl, rfl⟩
      refine V_imulN dX12_winsBy_74 ?_
      refine V_iconst (v := nI 2) dX12_winsBy_75 rfl ?_
      refine V_iload_n dX12_winsBy_76 rfl ?_
      refine V_imulN dX12_winsBy_77 ?_
      refine V_iaddN dX12_winsBy_78 ?_
      refine V_goto (tgt := 100) dX12_winsBy_79 rfl ?_
      refine V_istore (ls' := [(11, .int (nI ((28 * (min 13 (x + 3))) + (2 * y)))), (9, .long c6), (8, .int (nI 3)), (4, .long (((((0 + (c0 * ((vM cn x y 0).toInt64))) + (c1 * ((vM cn x y 1).toInt64))) + (c2 * ((vM cn x y 2).toInt64))) + (c4 * ((vM cn x y 4).toInt64))) + (c5 * ((vM cn x y 5).toInt64)))), (6, .long (((((0 + c0) + c1) + c2) + c4) + c5)), (0, .ref 62), (1, .int (nI x)), (2, .int (nI y)), (3, .int (nI f))]) dX12_winsBy_100 (by decide) rfl ?_
      refine V_lload dX12_winsBy_102 rfl ?_
      refine V_lload dX12_winsBy_104 rfl ?_
      refine V_ladd dX12_winsBy_106 ?_
      refine V_lstore (ls' := [(6, .long ((((((0 + c0) + c1) + c2) + c4) + c5) + c6)), (11, .int (nI ((28 * (min 13 (x + 3))) + (2 * y)))), (9, .long c6), (8, .int (nI 3)), (4, .long (((((0 + (c0 * ((vM cn x y 0).toInt64))) + (c1 * ((vM cn x y 1).toInt64))) + (c2 * ((vM cn x y 2).toInt64))) + (c4 * ((vM cn x y 4).toInt64))) + (c5 * ((vM cn x y 5).toInt64)))), (0, .ref 62), (1, .int (nI x)), (2, .int (nI y)), (3, .int (nI f))]) dX12_winsBy_107 (by decide) rfl ?_
      refine V_lload dX12_winsBy_109 rfl ?_
      refine V_lload dX12_winsBy_111 rfl ?_
      refine V_aload_n dX12_winsBy_113 rfl ?_
      refine V_getR (b := 88) dX12_winsBy_114 fX12_88 ⟨Nat.le_of_ble_eq_true rfl, Nat.le_of_ble_eq_true rfl⟩ rfl rfl rfl ?_
      refine V_iload dX12_winsBy_117 rfl ?_
      refine V_ialdN (k := (28 * (min 13 (x + 3))) + (2 * y)) dX12_winsBy_119 ⟨Nat.le_of_ble_eq_true rfl, Nat.le_of_ble_eq_true rfl⟩ rfl (by decide) (by omega) ?_
      refine V_eqI (y := vM cn x y 6) (by have h := hme (min (x + 3) 13) y 0 (by omega) (by omega) (by omega) (by omega); rw [Nat.add_zero] at h; rw [Nat.min_comm 13 (x + 3), h]; rfl) ?_
      refine V_i2l dX12_winsBy_120 ?_
      refine V_lmul dX12_winsBy_121 ?_
      refine V_ladd dX12_winsBy_122 ?_
      refine V_lstore (ls' := [(4, .long ((((((0 + (c0 * ((vM cn x y 0).toInt64))) + (c1 * ((vM cn x y 1).toInt64))) + (c2 * ((vM cn x y 2).toInt64))) + (c4 * ((vM cn x y 4).toInt64))) + (c5 * ((vM cn x y 5).toInt64))) + (c6 * ((vM cn x y 6).toInt64)))), (6, .long ((((((0 + c0) + c1) + c2) + c4) + c5) + c6)), (11, .int (nI ((28 * (min 13 (x + 3))) + (2 * y)))), (9, .long c6), (8, .int (nI 3)), (0, .ref 62), (1, .int (nI x)), (2, .int (nI y)), (3, .int (nI f))]) dX12_winsBy_123 (by decide) rfl ?_
      refine V_iinc (v := nI 4) (ls' := [(8, .int (nI 4)), (4, .long ((((((0 + (c0 * ((vM cn x y 0).toInt64))) + (c1 * ((vM cn x y 1).toInt64))) + (c2 * ((vM cn x y 2).toInt64))) + (c4 * ((vM cn x y 4).toInt64))) + (c5 * ((vM cn x y 5).toInt64))) + (c6 * ((vM cn x y 6).toInt64)))), (6, .long ((((((0 + c0) + c1) + c2) + c4) + c5) + c6)), (11, .int (nI ((28 * (min 13 (x + 3))) + (2 * y)))), (9, .long c6), (0, .ref 62), (1, .int (nI x)), (2, .int (nI y)), (3, .int (nI f))]) dX12_winsBy_125 rfl (by decide) (by decide) rfl ?_
      refine V_goto (tgt := 28) dX12_winsBy_128 rfl ?_
      refine V_iload dX12_winsBy_28 rfl ?_
      refine V_iconst (v := nI 3) dX12_winsBy_30 rfl ?_
      refine V_icmp_gt (tgt := 131) dX12_winsBy_31 rfl (fun _ => ?_) (fun h => absurd h (by decide))
      refine V_lload dX12_winsBy_131 rfl ?_
      refine V_lconst (v := 0) dX12_winsBy_133 rfl ?_
      refine V_lcmp dX12_winsBy_134 ?_
      refine V_if_ne (tgt := 144) dX12_winsBy_135 rfl (fun h135 => ?_) (fun h135 => ?_)
      · skip
        refine V_lload dX12_winsBy_144 rfl ?_
        refine V_lload dX12_winsBy_146 rfl ?_
        refine V_ldiv dX12_winsBy_148 (fun h => h135 (wl_eq.mpr h)) ?_
        refine V_l2i dX12_winsBy_149 ?_
        exact V_iret ⟨Or.inl rfl, dX12_winsBy_150⟩ ⟨Nat.le_of_ble_eq_true rfl, Nat.le_of_ble_eq_true rfl⟩ ⟨rfl, congrArg (fun z => some (Value.int z)) ((by rw [wM_r (by omega) (by omega)]; exact (hrat.trans (if_neg (fun h => h135 (wl_eq.mpr h)))).symm)), rfl, rfl⟩
      · skip
        refine V_ldcw dX12_winsBy_138 qX12_423 ?_
        refine V_eqI (y := nI 500000) rfl ?_
        refine V_goto (tgt := 150) dX12_winsBy_141 rfl ?_
        exact V_iret ⟨Or.inl rfl, dX12_winsBy_150⟩ ⟨Nat.le_of_ble_eq_true rfl, Nat.le_of_ble_eq_true rfl⟩ ⟨rfl, congrArg (fun z => some (Value.int z)) ((by rw [wM_r (by omega) (by omega)]; exact (hrat.trans (if_pos (wl_eq.mp h135))).symm)), rfl, rfl⟩
    · skip
      refine V_iconst (v := nI 0) dX12_winsBy_16 rfl ?_
      exact V_iret ⟨Or.inl rfl, dX12_winsBy_17⟩ ⟨Nat.le_of_ble_eq_true rfl, Nat.le_of_ble_eq_true rfl⟩ ⟨rfl, congrArg (fun z => some (Value.int z)) ((by first | exact (wM_y (by omega) (by omega)).symm | (exfalso; omega))), rfl, rfl⟩
  · skip
    refine V_ldcw dX12_winsBy_6 qX12_419 ?_
    refine V_eqI (y := nI 1000000) rfl ?_
    exact V_iret ⟨Or.inl rfl, dX12_winsBy_9⟩ ⟨Nat.le_of_ble_eq_true rfl, Nat.le_of_ble_eq_true rfl⟩ ⟨rfl, congrArg (fun z => some (Value.int z)) ((wM_13 (by omega)).symm), rfl, rfl⟩

theorem zwr_o88 {I I1 : zI} {k : Nat} {v : Int32} (h : ∀ c, c ≠ 88 → I1 c = I c) : ∀ c, c ≠ 88 → zwr I1 88 k v c = I c := fun c hc => (zup_n hc).trans (h c hc)
set_option maxRecDepth 100000 in
set_option maxHeartbeats 4000000 in
theorem lp_mm1 {G : zG} {I : zI} {J : zJ} {a b f : Nat} (ha : a ≤ 13) (hb : b ≤ 13) (hf : f ≤ 1) {cn : Nat → Nat → Int64} (hcn : ∀ g k, g ≤ 1 → k < 7 → J 87 (7 * g + k) = cn g k) {x : Nat} (hx : x ≤ 13) {Q : zQ} : ∀ n (I1 : zI), b + n ≤ 14 → (∀ c, c ≠ 88 → I1 c = I c) → (∀ x' y' g, x < x' → x' ≤ 13 → b ≤ y' → y' ≤ 13 → g ≤ 1 → I1 88 (28 * x' + 2 * y' + g) = wM cn x' y' g) → (∀ y' g, b + n ≤ y' → y' ≤ 13 → g ≤ 1 → I1 88 (28 * x + 2 * y' + g) = wM cn x y' g) → (∀ I2 : zI, (∀ c, c ≠ 88 → I2 c = I c) → (∀ x' y' g, x ≤ x' → x' ≤ 13 → b ≤ y' → y' ≤ 13 → g ≤ 1 → I2 88 (28 * x' + 2 * y' + g) = wM cn x' y' g) → V G mX12_match 11 Q 114 [(0, .ref 62), (1, .int (nI a)), (2, .int (nI b)), (3, .int (nI f)), (4, .int (nI x))] [] (0, 0) zsh I2 J) → V G mX12_match 11 Q 59 [(0, .ref 62), (1, .int (nI a)), (2, .int (nI b)), (3, .int (nI f)), (4, .int (nI x)), (5, .int (nI (b + n) + (-1)))] [] (0, 0) zsh I1 J := by
  intro n
  induction n with
  | zero =>
    intro I1 hn ho hO hI hQ
    refine V_iload dX12_match_59 rfl ?_
    refine V_iload_n dX12_match_61 rfl ?_
    refine V_icmp_lt (tgt := 114) dX12_match_62 rfl (fun _ => ?_) (fun h => absurd (mI_lt (by omega) (by omega)) h)
    refine V_sub2 (ls' := [(0, .ref 62), (1, .int (nI a)), (2, .int (nI b)), (3, .int (nI f)), (4, .int (nI x))]) (List.forall_mem_cons.mpr ⟨rfl, List.forall_mem_cons.mpr ⟨rfl, List.forall_mem_cons.mpr ⟨rfl, List.forall_mem_cons.mpr ⟨rfl, List.forall_mem_cons.mpr ⟨rfl, fun _ h => absurd h List.not_mem_nil⟩⟩⟩⟩⟩) ?_
    exact hQ I1 ho (fun x' y' g h1 h2 h3 h4 h5 => (Nat.lt_or_eq_of_le h1).elim (fun h => hO x' y' g h h2 h3 h4 h5) (fun h => h ▸ hI y' g (by omega) h4 h5))
  | succ n ih =>
    intro I1 hn ho hO hI hQ
    rw [show nI (b + (n + 1)) + (-1) = nI (b + n) from pk_m1 _]
    have hme : ∀ x' y' g, x' ≤ 13 → y' ≤ 13 → g ≤ 1 → (x < x' ∧ b + n = y' ∨ x = x' ∧ b + n < y') → I1 88 (28 * x' + 2 * y' + g) = wM cn x' y' g := fun x' y' g h1 h2 h3 h4 => h4.elim (fun h => hO x' y' g h.1 h1 (by omega) h2 h3) (fun h => by rw [← h.1]; exact hI y' g (by omega) h2 h3)
    refine V_iload dX12_match_59 rfl ?_
    refine V_iload_n dX12_match_61 rfl ?_
    refine V_icmp_ltN (tgt := 114) dX12_match_62 rfl (by omega) (by omega) (fun h => absurd h (by omega)) (fun _ => ?_)
    refine V_iconst (v := nI 0) dX12_match_65 rfl ?_
    refine V_istore (ls' := [(6, .int (nI 0)), (0, .ref 62), (1, .int (nI a)), (2, .int (nI b)), (3, .int (nI f)), (4, .int (nI x)), (5, .int (nI (b + n)))]) dX12_match_66 (by decide) rfl ?_
    refine V_iload dX12_match_68 rfl ?_
    refine V_iconst (v := nI 2) dX12_match_70 rfl ?_
    refine V_icmp_ge (tgt := 108) dX12_match_71 rfl (fun h => absurd h (by decide)) (fun _ => ?_)
    refine V_aload_n dX12_match_74 rfl ?_
    refine V_getR (b := 88) dX12_match_75 fX12_88 ⟨Nat.le_of_ble_eq_true rfl, Nat.le_of_ble_eq_true rfl⟩ rfl rfl rfl ?_
    refine V_bipush (v := nI 28) dX12_match_78 rfl ?_
    refine V_iload dX12_match_80 rfl ?_
    refine V_imulN dX12_match_82 ?_
    refine V_iconst (v := nI 2) dX12_match_83 rfl ?_
    refine V_iload dX12_match_84 rfl ?_
    refine V_imulN dX12_match_86 ?_
    refine V_iaddN dX12_match_87 ?_
    refine V_iload dX12_match_88 rfl ?_
    refine V_iaddN dX12_match_90 ?_
    refine V_eqI (y := nI ((28 * x) + (2 * (b + n)))) rfl ?_
    refine V_aload_n dX12_match_91 rfl ?_
    refine V_iload dX12_match_92 rfl ?_
    refine V_iload dX12_match_94 rfl ?_
    refine V_iload dX12_match_96 rfl ?_
    refine V_callV (As := [.int (nI x), .int (nI (b + n)), .int (nI 0)]) (st := [.int (nI ((28 * x) + (2 * (b + n)))), .ref 88]) (a := 62) dX12_match_98 kX12_winsBy lX12_427 (by decide) rfl rfl (Nat.le_of_ble_eq_true rfl) ⟨Nat.le_of_ble_eq_true rfl, Nat.le_of_ble_eq_true rfl⟩ ⟨Nat.le_of_ble_eq_true rfl, Nat.le_of_ble_eq_true rfl⟩ rfl ⟨rfl, by decide⟩ (w_winsBy (by omega) (by omega) (by omega) (fun k hk => hcn 0 k (by omega) hk) hme) ?_
    rintro _ _ _ _ ⟨rfl, rfl, rfl, rfl⟩
    refine V_iastN (k := (28 * x) + (2 * (b + n))) dX12_match_101 ⟨Nat.le_of_ble_eq_true rfl, Nat.le_of_ble_eq_true rfl⟩ rfl (by decide) (by omega) ?_
    have hme2 : ∀ x' y' g, x' ≤ 13 → y' ≤ 13 → g ≤ 1 → (x < x' ∧ b + n = y' ∨ x = x' ∧ b + n < y') → zwr I1 88 ((28 * x) + (2 * (b + n))) (wM cn x (b + n) 0) 88 (28 * x' + 2 * y' + g) = wM cn x' y' g := fun x' y' g h1 h2 h3 h4 => by rw [zwr_at, if_neg (by omega)]; exact hme x' y' g h1 h2 h3 h4
    refine V_iinc (v := nI 1) (ls' := [(6, .int (nI 1)), (0, .ref 62), (1, .int (nI a)), (2, .int (nI b)), (3, .int (nI f)), (4, .int (nI x)), (5, .int (nI (b + n)))]) dX12_match_102 rfl (by decide) (by decide) rfl ?_
    refine V_goto (tgt := 68) dX12_match_105 rfl ?_
    refine V_iload dX12_match_68 rfl ?_
    refine V_iconst (v := nI 2) dX12_match_70 rfl ?_
    refine V_icmp_ge (tgt := 108) dX12_match_71 rfl (fun h => absurd h (by decide)) (fun _ => ?_)
    refine V_aload_n dX12_match_74 rfl ?_
    refine V_getR (b := 88) dX12_match_75 fX12_88 ⟨Nat.le_of_ble_eq_true rfl, Nat.le_of_ble_eq_true rfl⟩ rfl rfl rfl ?_
    refine V_bipush (v := nI 28) dX12_match_78 rfl ?_
    refine V_iload dX12_match_80 rfl ?_
    refine V_imulN dX12_match_82 ?_
    refine V_iconst (v := nI 2) dX12_match_83 rfl ?_
    refine V_iload dX12_match_84 rfl ?_
    refine V_imulN dX12_match_86 ?_
    refine V_iaddN dX12_match_87 ?_
    refine V_iload dX12_match_88 rfl ?_
    refine V_iaddN dX12_match_90 ?_
    refine V_aload_n dX12_match_91 rfl ?_
    refine V_iload dX12_match_92 rfl ?_
    refine V_iload dX12_match_94 rfl ?_
    refine V_iload dX12_match_96 rfl ?_
    refine V_callV (As := [.int (nI x), .int (nI (b + n)), .int (nI 1)]) (st := [.int (nI (((28 * x) + (2 * (b + n))) + 1)), .ref 88]) (a := 62) dX12_match_98 kX12_winsBy lX12_427 (by decide) rfl rfl (Nat.le_of_ble_eq_true rfl) ⟨Nat.le_of_ble_eq_true rfl, Nat.le_of_ble_eq_true rfl⟩ ⟨Nat.le_of_ble_eq_true rfl, Nat.le_of_ble_eq_true rfl⟩ rfl ⟨rfl, by decide⟩ (w_winsBy (by omega) (by omega) (by omega) (fun k hk => hcn 1 k (by omega) hk) hme2) ?_
    rintro _ _ _ _ ⟨rfl, rfl, rfl, rfl⟩
    refine V_iastN (k := ((28 * x) + (2 * (b + n))) + 1) dX12_match_101 ⟨Nat.le_of_ble_eq_true rfl, Nat.le_of_ble_eq_true rfl⟩ rfl (by decide) (by omega) ?_
    refine V_iinc (v := nI 2) (ls' := [(6, .int (nI 2)), (0, .ref 62), (1, .int (nI a)), (2, .int (nI b)), (3, .int (nI f)), (4, .int (nI x)), (5, .int (nI (b + n)))]) dX12_match_102 rfl (by decide) (by decide) rfl ?_
    refine V_goto (tgt := 68) dX12_match_105 rfl ?_
    refine V_iload dX12_match_68 rfl ?_
    refine V_iconst (v := nI 2) dX12_match_70 rfl ?_
    refine V_icmp_ge (tgt := 108) dX12_match_71 rfl (fun _ => ?_) (fun h => absurd h (by decide))
    refine V_iinc (v := nI (b + n) + (-1)) (ls' := [(5, .int (nI (b + n) + (-1))), (6, .int (nI 2)), (0, .ref 62), (1, .int (nI a)), (2, .int (nI b)), (3, .int (nI f)), (4, .int (nI x))]) dX12_match_108 rfl rfl (by decide) rfl ?_
    refine V_goto (tgt := 59) dX12_match_111 rfl ?_
    refine V_sub2 (ls' := [(0, .ref 62), (1, .int (nI a)), (2, .int (nI b)), (3, .int (nI f)), (4, .int (nI x)), (5, .int (nI (b + n) + (-1)))]) (List.forall_mem_cons.mpr ⟨rfl, List.forall_mem_cons.mpr ⟨rfl, List.forall_mem_cons.mpr ⟨rfl, List.forall_mem_cons.mpr ⟨rfl, List.forall_mem_cons.mpr ⟨rfl, List.forall_mem_cons.mpr ⟨rfl, fun _ h => absurd h List.not_mem_nil⟩⟩⟩⟩⟩⟩) ?_
    refine ih _ (by omega) (zwr_o88 (zwr_o88 ho)) ?_ ?_ hQ
    · intro x' y' g h1 h2 h3 h4 h5
      rw [zwr_at, if_neg (by omega), zwr_at, if_neg (by omega)]
      exact hO x' y' g h1 h2 h3 h4 h5
    · intro y' g h1 h2 h3
      rw [zwr_at]
      by_cases e1 : y' = b + n ∧ g = 1
      · obtain ⟨rfl, rfl⟩ := e1; rw [if_pos ⟨rfl, by omega⟩]
      · rw [if_neg (by omega), zwr_at]
        by_cases e0 : y' = b + n
        · subst e0; obtain rfl : g = 0 := by omega
          rw [if_pos ⟨rfl, by omega⟩]
        · rw [if_neg (by omega)]; exact hI y' g (by omega) h2 h3

set_option maxRecDepth 100000 in
set_option maxHeartbeats 4000000 in
theorem lp_mm0 {G : zG} {I : zI} {J : zJ} {a b f : Nat} (ha : a ≤ 13) (hb : b ≤ 13) (hf : f ≤ 1) {cn : Nat → Nat → Int64} (hcn : ∀ g k, g ≤ 1 → k < 7 → J 87 (7 * g + k) = cn g k) : ∀ m (I1 : zI), a + m ≤ 14 → (∀ c, c ≠ 88 → I1 c = I c) → (∀ x' y' g, a + m ≤ x' → x' ≤ 13 → b ≤ y' → y' ≤ 13 → g ≤ 1 → I1 88 (28 * x' + 2 * y' + g) = wM cn x' y' g) → V G mX12_match 11 (zP (fun r I' J' => r = some (.int (wM cn a b f)) ∧ (∀ c, c ≠ 88 → I' c = I c) ∧ J = J')) 49 [(0, .ref 62), (1, .int (nI a)), (2, .int (nI b)), (3, .int (nI f)), (4, .int (nI (a + m) + (-1)))] [] (0, 0) zsh I1 J := by
  intro m
  induction m with
  | zero =>
    intro I1 hn ho hO
    refine V_iload dX12_match_49 rfl ?_
    refine V_iload_n dX12_match_51 rfl ?_
    refine V_icmp_lt (tgt := 120) dX12_match_52 rfl (fun _ => ?_) (fun h => absurd (mI_lt (by omega) (by omega)) h)
    refine V_aload_n dX12_match_120 rfl ?_
    refine V_getR (b := 88) dX12_match_121 fX12_88 ⟨Nat.le_of_ble_eq_true rfl, Nat.le_of_ble_eq_true rfl⟩ rfl rfl rfl ?_
    refine V_bipush (v := nI 28) dX12_match_124 rfl ?_
    refine V_iload_n dX12_match_126 rfl ?_
    refine V_imulN dX12_match_127 ?_
    refine V_iconst (v := nI 2) dX12_match_128 rfl ?_
    refine V_iload_n dX12_match_129 rfl ?_
    refine V_imulN dX12_match_130 ?_
    refine V_iaddN dX12_match_131 ?_
    refine V_iload_n dX12_match_132 rfl ?_
    refine V_iaddN dX12_match_133 ?_
    refine V_ialdN (k := ((28 * a) + (2 * b)) + f) dX12_match_134 ⟨Nat.le_of_ble_eq_true rfl, Nat.le_of_ble_eq_true rfl⟩ rfl (by decide) (by omega) ?_
    refine V_eqI (y := wM cn a b f) (hO a b f (by omega) ha (by omega) hb hf) ?_
    exact V_iret ⟨Or.inl rfl, dX12_match_135⟩ ⟨Nat.le_of_ble_eq_true rfl, Nat.le_of_ble_eq_true rfl⟩ ⟨rfl, rfl, ho, rfl⟩
  | succ m ih =>
    intro I1 hn ho hO
    rw [show nI (a + (m + 1)) + (-1) = nI (a + m) from pk_m1 _]
    refine V_iload dX12_match_49 rfl ?_
    refine V_iload_n dX12_match_51 rfl ?_
    refine V_icmp_ltN (tgt := 120) dX12_match_52 rfl (by omega) (by omega) (fun h => absurd h (by omega)) (fun _ => ?_)
    refine V_bipush (v := nI 13) dX12_match_55 rfl ?_
    refine V_istore (ls' := [(5, .int (nI 13)), (0, .ref 62), (1, .int (nI a)), (2, .int (nI b)), (3, .int (nI f)), (4, .int (nI (a + m)))]) dX12_match_57 (by decide) rfl ?_
    refine V_sub2 (ls' := [(0, .ref 62), (1, .int (nI a)), (2, .int (nI b)), (3, .int (nI f)), (4, .int (nI (a + m))), (5, .int (nI 13))]) (List.forall_mem_cons.mpr ⟨rfl, List.forall_mem_cons.mpr ⟨rfl, List.forall_mem_cons.mpr ⟨rfl, List.forall_mem_cons.mpr ⟨rfl, List.forall_mem_cons.mpr ⟨rfl, List.forall_mem_cons.mpr ⟨rfl, fun _ h => absurd h List.not_mem_nil⟩⟩⟩⟩⟩⟩) ?_
    rw [show nI 13 = nI (b + (14 - b)) + (-1) from by rw [show b + (14 - b) = 13 + 1 by omega]; exact (pk_m1 13).symm]
    refine lp_mm1 ha hb hf hcn (x := a + m) (by omega) (14 - b) I1 (by omega) ho (fun x' y' g h1 h2 h3 h4 h5 => hO x' y' g (by omega) h2 h3 h4 h5) (fun y' g h1 h2 h3 => absurd h2 (by omega)) ?_
    intro I2 ho2 hO2
    refine V_iinc (v := nI (a + m) + (-1)) (ls' := [(4, .int (nI (a + m) + (-1))), (0, .ref 62), (1, .int (nI a)), (2, .int (nI b)), (3, .int (nI f))]) dX12_match_114 rfl rfl (by decide) rfl ?_
    refine V_goto (tgt := 49) dX12_match_117 rfl ?_
    refine V_sub2 (ls' := [(0, .ref 62), (1, .int (nI a)), (2, .int (nI b)), (3, .int (nI f)), (4, .int (nI (a + m) + (-1)))]) (List.forall_mem_cons.mpr ⟨rfl, List.forall_mem_cons.mpr ⟨rfl, List.forall_mem_cons.mpr ⟨rfl, List.forall_mem_cons.mpr ⟨rfl, List.forall_mem_cons.mpr ⟨rfl, fun _ h => absurd h List.not_mem_nil⟩⟩⟩⟩⟩) ?_
    exact ih I2 (by omega) ho2 hO2

theorem soR_88 {a : List (Nat × List (Nat × Nat) × List (Nat × Nat))} {M : Nat → ((Nat → Int32) → Option Int32) × ((Nat → Int32) → Option Int32)} {ar : Nat → List (Nat × List (Nat × Nat) × List (Nat × Nat))} {Mr : Nat → Nat → ((Nat → Int32) → Option Int32) × ((Nat → Int32) → Option Int32)} {far : Nat} {I I' : zI} {J : zJ} (h : soR I J a M ar Mr far) (e : ∀ c, c ≠ 88 → I' c = I c) : soR I' J a M ar Mr far := by
  have e2 : ∀ k, 73 ≤ k → k ≤ 78 → I' k = I k := fun k h1 h2 => e k (by omega)
  refine ⟨⟨mT_c h.1.1 (e 63 (by decide)) (e 64 (by decide)) (e 65 (by decide)), mpI_c h.1.2.1 e2, fun k hk => ⟨mpI_c (h.1.2.2.1 k hk).1 e2, (h.1.2.2.1 k hk).2⟩, chA_c h.1.2.2.2 (congrFun (e 62 (by decide)) 32) (e 82 (by decide))⟩, (congrFun (e 62 (by decide)) 4).trans h.2.1, soK_c h.2.2 (fun k _ => congrFun (e 62 (by decide)) k) (e 85 (by decide)) rfl⟩
theorem offX_88 {I : zI} {J : zJ} {I1 I2 : zI} {J1 : zJ} (h : offX I J I1 J1) (e : ∀ c, c ≠ 88 → I2 c = I1 c) : offX I J I2 J1 := ⟨fun a h1 h3 h4 h5 h6 h7 h8 => (e a h8).trans (h.1 a h1 h3 h4 h5 h6 h7 h8), fun k hk h5 => (congrFun (e 62 (by decide)) k).trans (h.2.1 k hk h5), h.2.2⟩
theorem mtS_e {Lf : Nat → (Nat → Int32) → Int32} {far a b f : Nat} (ha : a ≤ 13) (hb : b ≤ 13) : wM (cnV Lf far) a b f = mtS Lf far a b f := by
  unfold mtS
  by_cases h : a = 13
  · rw [if_pos h, wM_13 (by omega)]
  · rw [if_neg h]
    by_cases h2 : b = 13
    · rw [if_pos h2, wM_y (by omega) (by omega)]
    · rw [if_neg h2]
theorem V_imp {G : zG} {M : zM} {d pc : Nat} {Q Q' : zQ} {ls : List (Nat × Value)} {st : List Value} {cs : Nat × Nat} {sh : zS} {I : zI} {J : zJ} (h : ∀ r sh I J, Q r sh I J → Q' r sh I J) (k : V G M d Q pc ls st cs sh I J) : V G M d Q' pc ls st cs sh I J := by
  intro p e R s m args below meth c H locs la Z C E hR hS hl
  exact k p e R s m args below meth c H locs la Z C (fun r sh I J H locs la pc c1 c2 hq => E r sh I J H locs la pc c1 c2 (h r sh I J hq)) hR hS hl
set_option maxRecDepth 100000 in
set_option maxHeartbeats 4000000 in
theorem w_matchY {G : zG} {I : zI} {J : zJ} {a0 : List (Nat × List (Nat × Nat) × List (Nat × Nat))} {M : Nat → ((Nat → Int32) → Option Int32) × ((Nat → Int32) → Option Int32)} {ar : Nat → List (Nat × List (Nat × Nat) × List (Nat × Nat))} {Mr : Nat → Nat → ((Nat → Int32) → Option Int32) × ((Nat → Int32) → Option Int32)} {far : Nat} (hR : soR I J a0 M ar Mr far) (h6 : 6 ≤ far) (h10 : far ≤ 10) {a b f : Nat} (ha : a ≤ 13) (hb : b ≤ 13) (h13 : ¬ (a = 13 ∧ b = 13)) (hf : f ≤ 1) : zK G mX12_match 11 [.ref 62, .int (nI a), .int (nI b), .int (nI f)] zsh I J (zP (fun r I' J' => r = some (.int (mtS (lfM a0 M) far a b f)) ∧ soR I' J' a0 M ar Mr far ∧ offX I J I' J' ∧ I' 62 5 = nI far)) := by
  refine zK_of kX12_match.2.2.2.2.1 (Nat.le_of_ble_eq_true rfl) ?_
  show V G mX12_match 11 _ 0 [(0, .ref 62), (1, .int (nI a)), (2, .int (nI b)), (3, .int (nI f))] [] (0, 0) zsh I J
  refine V_iload_n dX12_match_0 rfl ?_
  refine V_iconst (v := nI 0) dX12_match_1 rfl ?_
  refine V_bipush (v := nI 13) dX12_match_2 rfl ?_
  refine V_callS (As := [.int (nI a), .int (nI 0), .int (nI 13)]) (st := []) dX12_match_4 kX12_in lX12_173 (by decide) rfl rfl (Nat.le_of_ble_eq_true rfl) ⟨Nat.le_of_ble_eq_true rfl, Nat.le_of_ble_eq_true rfl⟩ (w_inY (a := 0) (b := 13) (by decide) (by decide) ((inZ_k (by omega)).mpr (by omega))) ?_
  rintro _ _ _ _ ⟨rfl, rfl, rfl, rfl⟩
  refine V_if_eq (tgt := 39) dX12_match_7 rfl (fun h => absurd h (by decide)) (fun _ => ?_)
  refine V_iload_n dX12_match_10 rfl ?_
  refine V_iconst (v := nI 0) dX12_match_11 rfl ?_
  refine V_bipush (v := nI 13) dX12_match_12 rfl ?_
  refine V_callS (As := [.int (nI b), .int (nI 0), .int (nI 13)]) (st := []) dX12_match_14 kX12_in lX12_173 (by decide) rfl rfl (Nat.le_of_ble_eq_true rfl) ⟨Nat.le_of_ble_eq_true rfl, Nat.le_of_ble_eq_true rfl⟩ (w_inY (a := 0) (b := 13) (by decide) (by decide) ((inZ_k (by omega)).mpr (by omega))) ?_
  rintro _ _ _ _ ⟨rfl, rfl, rfl, rfl⟩
  refine V_if_eq (tgt := 39) dX12_match_17 rfl (fun h => absurd h (by decide)) (fun _ => ?_)
  refine V_iload_n dX12_match_20 rfl ?_
  refine V_bipush (v := nI 13) dX12_match_21 rfl ?_
  refine V_icmp_neN (tgt := 32) dX12_match_23 rfl (by omega) (by omega) (fun h23 => ?_) (fun h23 => ?_)
  · skip
    refine V_iload_n dX12_match_32 rfl ?_
    refine V_callS (As := [.int (nI f)]) (st := []) dX12_match_33 kX12_isSide lX12_196 (by decide) rfl rfl (Nat.le_of_ble_eq_true rfl) ⟨Nat.le_of_ble_eq_true rfl, Nat.le_of_ble_eq_true rfl⟩ (q_y (w_isSide) ((inZ_k (by omega)).mpr (by omega))) ?_
    rintro _ _ _ _ ⟨rfl, rfl, rfl, rfl⟩
    refine V_if_ne (tgt := 41) dX12_match_36 rfl (fun _ => ?_) (fun h => absurd h (by decide))
    refine V_aload_n dX12_match_41 rfl ?_
    refine V_callV (As := []) (st := []) (a := 62) dX12_match_42 kX12_laysEnds lX12_424 (by decide) rfl rfl (Nat.le_of_ble_eq_true rfl) ⟨Nat.le_of_ble_eq_true rfl, Nat.le_of_ble_eq_true rfl⟩ ⟨Nat.le_of_ble_eq_true rfl, Nat.le_of_ble_eq_true rfl⟩ rfl ⟨rfl, by decide⟩ (w_laysEnds hR h6 h10) ?_
    rintro r sh' I1 J1 ⟨rfl, rfl, hR1, hX1, hE1, hf1⟩
    refine V_bipush (v := nI 13) dX12_match_45 rfl ?_
    refine V_istore (ls' := [(4, .int (nI 13)), (0, .ref 62), (1, .int (nI a)), (2, .int (nI b)), (3, .int (nI f))]) dX12_match_47 (by decide) rfl ?_
    refine V_sub2 (ls' := [(0, .ref 62), (1, .int (nI a)), (2, .int (nI b)), (3, .int (nI f)), (4, .int (nI 13))]) (List.forall_mem_cons.mpr ⟨rfl, List.forall_mem_cons.mpr ⟨rfl, List.forall_mem_cons.mpr ⟨rfl, List.forall_mem_cons.mpr ⟨rfl, List.forall_mem_cons.mpr ⟨rfl, fun _ h => absurd h List.not_mem_nil⟩⟩⟩⟩⟩) ?_
    rw [show nI 13 = nI (a + (14 - a)) + (-1) from by rw [show a + (14 - a) = 13 + 1 by omega]; exact (pk_m1 13).symm]
    refine V_imp ?_ (lp_mm0 ha hb hf (cn := cnV (lfM a0 M) far) (fun g k hg hk => ?_) (14 - a) I1 (by omega) (fun _ _ => rfl) (fun x' y' g h1 h2 => absurd h2 (by omega)))
    · rintro r sh I2 J2 ⟨rfl, rfl, e, rfl⟩
      exact ⟨rfl, congrArg (fun z => some (Value.int z)) (mtS_e ha hb), soR_88 hR1 e, offX_88 hX1 e, (congrFun (e 62 (by decide)) 5).trans hf1⟩
    · rcases (show g = 0 ∨ g = 1 by omega) with rfl | rfl
      · rw [Nat.mul_zero, Nat.zero_add]
        exact (hE1 k hk).1
      · exact (hE1 k hk).2
  · skip
    refine V_iload_n dX12_match_26 rfl ?_
    refine V_bipush (v := nI 13) dX12_match_27 rfl ?_
    refine V_icmp_eqN (tgt := 39) dX12_match_29 rfl (by omega) (by omega) (fun h29 => ?_) (fun h29 => ?_)
    · skip
      refine V_iconst (v := (-1)) dX12_match_39 rfl ?_
      exact V_iret ⟨Or.inl rfl, dX12_match_40⟩ ⟨Nat.le_of_ble_eq_true rfl, Nat.le_of_ble_eq_true rfl⟩ (by exfalso; omega)
    · skip
      refine V_iload_n dX12_match_32 rfl ?_
      refine V_callS (As := [.int (nI f)]) (st := []) dX12_match_33 kX12_isSide lX12_196 (by decide) rfl rfl (Nat.le_of_ble_eq_true rfl) ⟨Nat.le_of_ble_eq_true rfl, Nat.le_of_ble_eq_true rfl⟩ (q_y (w_isSide) ((inZ_k (by omega)).mpr (by omega))) ?_
      rintro _ _ _ _ ⟨rfl, rfl, rfl, rfl⟩
      refine V_if_ne (tgt := 41) dX12_match_36 rfl (fun _ => ?_) (fun h => absurd h (by decide))
      refine V_aload_n dX12_match_41 rfl ?_
      refine V_callV (As := []) (st := []) (a := 62) dX12_match_42 kX12_laysEnds lX12_424 (by decide) rfl rfl (Nat.le_of_ble_eq_true rfl) ⟨Nat.le_of_ble_eq_true rfl, Nat.le_of_ble_eq_true rfl⟩ ⟨Nat.le_of_ble_eq_true rfl, Nat.le_of_ble_eq_true rfl⟩ rfl ⟨rfl, by decide⟩ (w_laysEnds hR h6 h10) ?_
      rintro r sh' I1 J1 ⟨rfl, rfl, hR1, hX1, hE1, hf1⟩
      refine V_bipush (v := nI 13) dX12_match_45 rfl ?_
      refine V_istore (ls' := [(4, .int (nI 13)), (0, .ref 62), (1, .int (nI a)), (2, .int (nI b)), (3, .int (nI f))]) dX12_match_47 (by decide) rfl ?_
      refine V_sub2 (ls' := [(0, .ref 62), (1, .int (nI a)), (2, .int (nI b)), (3, .int (nI f)), (4, .int (nI 13))]) (List.forall_mem_cons.mpr ⟨rfl, List.forall_mem_cons.mpr ⟨rfl, List.forall_mem_cons.mpr ⟨rfl, List.forall_mem_cons.mpr ⟨rfl, List.forall_mem_cons.mpr ⟨rfl, fun _ h => absurd h List.not_mem_nil⟩⟩⟩⟩⟩) ?_
      rw [show nI 13 = nI (a + (14 - a)) + (-1) from by rw [show a + (14 - a) = 13 + 1 by omega]; exact (pk_m1 13).symm]
      refine V_imp ?_ (lp_mm0 ha hb hf (cn := cnV (lfM a0 M) far) (fun g k hg hk => ?_) (14 - a) I1 (by omega) (fun _ _ => rfl) (fun x' y' g h1 h2 => absurd h2 (by omega)))
      · rintro r sh I2 J2 ⟨rfl, rfl, e, rfl⟩
        exact ⟨rfl, congrArg (fun z => some (Value.int z)) (mtS_e ha hb), soR_88 hR1 e, offX_88 hX1 e, (congrFun (e 62 (by decide)) 5).trans hf1⟩
      · rcases (show g = 0 ∨ g = 1 by omega) with rfl | rfl
        · rw [Nat.mul_zero, Nat.zero_add]
          exact (hE1 k hk).1
        · exact (hE1 k hk).2

set_option maxRecDepth 100000 in
set_option maxHeartbeats 4000000 in
theorem w_matchN {G : zG} {I : zI} {J : zJ} {a b f : Int32} (hO : ¬ mtO a b f) : zK G mX12_match 1 [.ref 62, .int a, .int b, .int f] zsh I J (zA0 (.int (-1)) I J) := by
  refine zK_of kX12_match.2.2.2.2.1 (Nat.le_of_ble_eq_true rfl) ?_
  show V G mX12_match 1 _ 0 [(0, .ref 62), (1, .int a), (2, .int b), (3, .int f)] [] (0, 0) zsh I J
  by_cases ha : inZ a 0 13
  · obtain ⟨a, rfl, ha1, ha2⟩ := inZ_n ha (by decide)
    by_cases hb : inZ b 0 13
    · obtain ⟨b, rfl, hb1, hb2⟩ := inZ_n hb (by decide)
      by_cases h13 : a = 13 ∧ b = 13
      · obtain ⟨rfl, rfl⟩ := h13
        refine V_iload_n dX12_match_0 rfl ?_
        refine V_iconst (v := nI 0) dX12_match_1 rfl ?_
        refine V_bipush (v := nI 13) dX12_match_2 rfl ?_
        refine V_callS (As := [.int (nI 13), .int (nI 0), .int (nI 13)]) (st := []) dX12_match_4 kX12_in lX12_173 (by decide) rfl rfl (Nat.le_of_ble_eq_true rfl) ⟨Nat.le_of_ble_eq_true rfl, Nat.le_of_ble_eq_true rfl⟩ (w_inY (a := 0) (b := 13) (by decide) (by decide) ((inZ_k (by omega)).mpr (by omega))) ?_
        rintro _ _ _ _ ⟨rfl, rfl, rfl, rfl⟩
        refine V_if_eq (tgt := 39) dX12_match_7 rfl (fun h => absurd h (by decide)) (fun _ => ?_)
        refine V_iload_n dX12_match_10 rfl ?_
        refine V_iconst (v := nI 0) dX12_match_11 rfl ?_
        refine V_bipush (v := nI 13) dX12_match_12 rfl ?_
        refine V_callS (As := [.int (nI 13), .int (nI 0), .int (nI 13)]) (st := []) dX12_match_14 kX12_in lX12_173 (by decide) rfl rfl (Nat.le_of_ble_eq_true rfl) ⟨Nat.le_of_ble_eq_true rfl, Nat.le_of_ble_eq_true rfl⟩ (w_inY (a := 0) (b := 13) (by decide) (by decide) ((inZ_k (by omega)).mpr (by omega))) ?_
        rintro _ _ _ _ ⟨rfl, rfl, rfl, rfl⟩
        refine V_if_eq (tgt := 39) dX12_match_17 rfl (fun h => absurd h (by decide)) (fun _ => ?_)
        refine V_iload_n dX12_match_20 rfl ?_
        refine V_bipush (v := nI 13) dX12_match_21 rfl ?_
        refine V_icmp_ne (tgt := 32) dX12_match_23 rfl (fun h => absurd h (by decide)) (fun _ => ?_)
        refine V_iload_n dX12_match_26 rfl ?_
        refine V_bipush (v := nI 13) dX12_match_27 rfl ?_
        refine V_icmp_eq (tgt := 39) dX12_match_29 rfl (fun _ => ?_) (fun h => absurd h (by decide))
        refine V_iconst (v := (-1)) dX12_match_39 rfl ?_
        exact V_iret ⟨Or.inl rfl, dX12_match_40⟩ ⟨Nat.le_of_ble_eq_true rfl, Nat.le_of_ble_eq_true rfl⟩ ⟨rfl, rfl, rfl, rfl⟩
      · have hf : ¬ inZ f 0 1 := fun hf => hO ⟨ha, hb, fun e => h13 (by rw [nI_toInt (by omega), nI_toInt (by omega)] at e; omega), hf⟩
        refine V_iload_n dX12_match_0 rfl ?_
        refine V_iconst (v := nI 0) dX12_match_1 rfl ?_
        refine V_bipush (v := nI 13) dX12_match_2 rfl ?_
        refine V_callS (As := [.int (nI a), .int (nI 0), .int (nI 13)]) (st := []) dX12_match_4 kX12_in lX12_173 (by decide) rfl rfl (Nat.le_of_ble_eq_true rfl) ⟨Nat.le_of_ble_eq_true rfl, Nat.le_of_ble_eq_true rfl⟩ (w_inY (a := 0) (b := 13) (by decide) (by decide) ((inZ_k (by omega)).mpr (by omega))) ?_
        rintro _ _ _ _ ⟨rfl, rfl, rfl, rfl⟩
        refine V_if_eq (tgt := 39) dX12_match_7 rfl (fun h => absurd h (by decide)) (fun _ => ?_)
        refine V_iload_n dX12_match_10 rfl ?_
        refine V_iconst (v := nI 0) dX12_match_11 rfl ?_
        refine V_bipush (v := nI 13) dX12_match_12 rfl ?_
        refine V_callS (As := [.int (nI b), .int (nI 0), .int (nI 13)]) (st := []) dX12_match_14 kX12_in lX12_173 (by decide) rfl rfl (Nat.le_of_ble_eq_true rfl) ⟨Nat.le_of_ble_eq_true rfl, Nat.le_of_ble_eq_true rfl⟩ (w_inY (a := 0) (b := 13) (by decide) (by decide) ((inZ_k (by omega)).mpr (by omega))) ?_
        rintro _ _ _ _ ⟨rfl, rfl, rfl, rfl⟩
        refine V_if_eq (tgt := 39) dX12_match_17 rfl (fun h => absurd h (by decide)) (fun _ => ?_)
        refine V_iload_n dX12_match_20 rfl ?_
        refine V_bipush (v := nI 13) dX12_match_21 rfl ?_
        refine V_icmp_neN (tgt := 32) dX12_match_23 rfl (by omega) (by omega) (fun h23 => ?_) (fun h23 => ?_)
        · skip
          refine V_iload_n dX12_match_32 rfl ?_
          refine V_callS (As := [.int f]) (st := []) dX12_match_33 kX12_isSide lX12_196 (by decide) rfl rfl (Nat.le_of_ble_eq_true rfl) ⟨Nat.le_of_ble_eq_true rfl, Nat.le_of_ble_eq_true rfl⟩ (q_n (w_isSide) hf) ?_
          rintro _ _ _ _ ⟨rfl, rfl, rfl, rfl⟩
          refine V_if_ne (tgt := 41) dX12_match_36 rfl (fun h => absurd h (by decide)) (fun _ => ?_)
          refine V_iconst (v := (-1)) dX12_match_39 rfl ?_
          exact V_iret ⟨Or.inl rfl, dX12_match_40⟩ ⟨Nat.le_of_ble_eq_true rfl, Nat.le_of_ble_eq_true rfl⟩ ⟨rfl, rfl, rfl, rfl⟩
        · skip
          refine V_iload_n dX12_match_26 rfl ?_
          refine V_bipush (v := nI 13) dX12_match_27 rfl ?_
          refine V_icmp_eqN (tgt := 39) dX12_match_29 rfl (by omega) (by omega) (fun h29 => ?_) (fun h29 => ?_)
          · skip
            refine V_iconst (v := (-1)) dX12_match_39 rfl ?_
            exact V_iret ⟨Or.inl rfl, dX12_match_40⟩ ⟨Nat.le_of_ble_eq_true rfl, Nat.le_of_ble_eq_true rfl⟩ ⟨rfl, rfl, rfl, rfl⟩
          · skip
            refine V_iload_n dX12_match_32 rfl ?_
            refine V_callS (As := [.int f]) (st := []) dX12_match_33 kX12_isSide lX12_196 (by decide) rfl rfl (Nat.le_of_ble_eq_true rfl) ⟨Nat.le_of_ble_eq_true rfl, Nat.le_of_ble_eq_true rfl⟩ (q_n (w_isSide) hf) ?_
            rintro _ _ _ _ ⟨rfl, rfl, rfl, rfl⟩
            refine V_if_ne (tgt := 41) dX12_match_36 rfl (fun h => absurd h (by decide)) (fun _ => ?_)
            refine V_iconst (v := (-1)) dX12_match_39 rfl ?_
            exact V_iret ⟨Or.inl rfl, dX12_match_40⟩ ⟨Nat.le_of_ble_eq_true rfl, Nat.le_of_ble_eq_true rfl⟩ ⟨rfl, rfl, rfl, rfl⟩
    · skip
      refine V_iload_n dX12_match_0 rfl ?_
      refine V_iconst (v := nI 0) dX12_match_1 rfl ?_
      refine V_bipush (v := nI 13) dX12_match_2 rfl ?_
      refine V_callS (As := [.int (nI a), .int (nI 0), .int (nI 13)]) (st := []) dX12_match_4 kX12_in lX12_173 (by decide) rfl rfl (Nat.le_of_ble_eq_true rfl) ⟨Nat.le_of_ble_eq_true rfl, Nat.le_of_ble_eq_true rfl⟩ (w_inY (a := 0) (b := 13) (by decide) (by decide) ((inZ_k (by omega)).mpr (by omega))) ?_
      rintro _ _ _ _ ⟨rfl, rfl, rfl, rfl⟩
      refine V_if_eq (tgt := 39) dX12_match_7 rfl (fun h => absurd h (by decide)) (fun _ => ?_)
      refine V_iload_n dX12_match_10 rfl ?_
      refine V_iconst (v := nI 0) dX12_match_11 rfl ?_
      refine V_bipush (v := nI 13) dX12_match_12 rfl ?_
      refine V_callS (As := [.int b, .int (nI 0), .int (nI 13)]) (st := []) dX12_match_14 kX12_in lX12_173 (by decide) rfl rfl (Nat.le_of_ble_eq_true rfl) ⟨Nat.le_of_ble_eq_true rfl, Nat.le_of_ble_eq_true rfl⟩ (w_inN (a := 0) (b := 13) (by decide) (by decide) hb) ?_
      rintro _ _ _ _ ⟨rfl, rfl, rfl, rfl⟩
      refine V_if_eq (tgt := 39) dX12_match_17 rfl (fun _ => ?_) (fun h => absurd h (by decide))
      refine V_iconst (v := (-1)) dX12_match_39 rfl ?_
      exact V_iret ⟨Or.inl rfl, dX12_match_40⟩ ⟨Nat.le_of_ble_eq_true rfl, Nat.le_of_ble_eq_true rfl⟩ ⟨rfl, rfl, rfl, rfl⟩
  · skip
    refine V_iload_n dX12_match_0 rfl ?_
    refine V_iconst (v := nI 0) dX12_match_1 rfl ?_
    refine V_bipush (v := nI 13) dX12_match_2 rfl ?_
    refine V_callS (As := [.int a, .int (nI 0), .int (nI 13)]) (st := []) dX12_match_4 kX12_in lX12_173 (by decide) rfl rfl (Nat.le_of_ble_eq_true rfl) ⟨Nat.le_of_ble_eq_true rfl, Nat.le_of_ble_eq_true rfl⟩ (w_inN (a := 0) (b := 13) (by decide) (by decide) ha) ?_
    rintro _ _ _ _ ⟨rfl, rfl, rfl, rfl⟩
    refine V_if_eq (tgt := 39) dX12_match_7 rfl (fun _ => ?_) (fun h => absurd h (by decide))
    refine V_iconst (v := (-1)) dX12_match_39 rfl ?_
    exact V_iret ⟨Or.inl rfl, dX12_match_40⟩ ⟨Nat.le_of_ble_eq_true rfl, Nat.le_of_ble_eq_true rfl⟩ ⟨rfl, rfl, rfl, rfl⟩

