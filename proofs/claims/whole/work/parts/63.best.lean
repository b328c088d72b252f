/-! THE MODEL: what is best -/
/-- what a solver's call leaves alone -/
def offX (I : zI) (J : zJ) (I' : zI) (J' : zJ) : Prop := (∀ a, a ≠ 62 → a ≠ 79 → a ≠ 80 → a ≠ 81 → a ≠ 82 → a ≠ 85 → a ≠ 88 → I' a = I a) ∧ (∀ k, k < 32 ∨ k = 36 ∨ k = 37 ∨ k = 38 ∨ 42 < k → k ≠ 5 → I' 62 k = I 62 k) ∧ ∀ b, b ≠ 83 → b ≠ 84 → b ≠ 86 → b ≠ 87 → J' b = J b
theorem offX_r {I : zI} {J : zJ} : offX I J I J := ⟨fun _ _ _ _ _ _ _ _ => rfl, fun _ _ _ => rfl, fun _ _ _ _ _ => rfl⟩
theorem offX_w {A B C : zI} {X Y Z : zJ} (h : offX A X B Y) (h2 : offW B C) (h3 : ∀ b, b ≠ 83 → b ≠ 84 → b ≠ 86 → b ≠ 87 → Z b = Y b) : offX A X C Z := ⟨fun a h1 q3 h4 h5 h6 h7 h8 => (h2.1 a h1 q3 h4 h5 h6 h7).trans (h.1 a h1 q3 h4 h5 h6 h7 h8), fun k hk h5 => (h2.2 k hk h5).trans (h.2.1 k hk h5), fun b q1 q2 q3 q4 => (h3 b q1 q2 q3 q4).trans (h.2.2 b q1 q2 q3 q4)⟩
theorem offX_t {A B C : zI} {X Y Z : zJ} (h : offX A X B Y) (h2 : offX B Y C Z) : offX A X C Z := ⟨fun a h1 q3 h4 h5 h6 h7 h8 => (h2.1 a h1 q3 h4 h5 h6 h7 h8).trans (h.1 a h1 q3 h4 h5 h6 h7 h8), fun k hk h5 => (h2.2.1 k hk h5).trans (h.2.1 k hk h5), fun b q1 q2 q3 q4 => (h2.2.2 b q1 q2 q3 q4).trans (h.2.2 b q1 q2 q3 q4)⟩
/-- the solver's part of what holds between two calls -/
def soR (I : zI) (J : zJ) (a : List (Nat × List (Nat × Nat) × List (Nat × Nat))) (M : Nat → ((Nat → Int32) → Option Int32) × ((Nat → Int32) → Option Int32)) (ar : Nat → List (Nat × List (Nat × Nat) × List (Nat × Nat))) (Mr : Nat → Nat → ((Nat → Int32) → Option Int32) × ((Nat → Int32) → Option Int32)) (far : Nat) : Prop := svI I a M ar Mr ∧ I 62 4 = nI far ∧ soK (rlM ar Mr) (lfM a M) I J
theorem soK_c {Rl : Nat → Nat → (Nat → Int32) → Int32} {Lf : Nat → (Nat → Int32) → Int32} {I I' : zI} {J J' : zJ} (h : soK Rl Lf I J) (e : ∀ k, k = 33 ∨ k = 34 ∨ 39 ≤ k ∧ k ≤ 42 → I' 62 k = I 62 k) (e85 : I' 85 = I 85) (e83 : J' 83 = J 83) : soK Rl Lf I' J' := by
  unfold soK sgV at *
  rw [e 33 (by omega), e 34 (by omega), e 39 (by omega), e 40 (by omega), e 41 (by omega), e 42 (by omega), e85, e83]
  exact h
theorem sgV_c {kd one two : Int32} {Rl : Nat → Nat → (Nat → Int32) → Int32} {Lf : Nat → (Nat → Int32) → Int32} {far : Nat} {I I' : zI} {J J' : zJ} (h : sgV kd one two Rl Lf far I J) (e85 : I' 85 = I 85) (e83 : J' 83 = J 83) : sgV kd one two Rl Lf far I' J' := by
  unfold sgV at *
  rw [e85, e83]
  exact h
theorem ruX_m : ruX (-1) := Or.inl rfl
set_option maxRecDepth 100000 in
set_option maxHeartbeats 4000000 in
theorem w_solvesBest {G : zG} {I : zI} {J : zJ} {a : List (Nat × List (Nat × Nat) × List (Nat × Nat))} {M : Nat → ((Nat → Int32) → Option Int32) × ((Nat → Int32) → Option Int32)} {ar : Nat → List (Nat × List (Nat × Nat) × List (Nat × Nat))} {Mr : Nat → Nat → ((Nat → Int32) → Option Int32) × ((Nat → Int32) → Option Int32)} {far : Nat} (hR : soR I J a M ar Mr far) (h6 : 6 ≤ far) (h10 : far ≤ 10)  : zK G mX12_solvesBest 9 [.ref 62] zsh I J (zP (fun r I' J' => r = none ∧ sgV 1 (-1) (-1) (rlM ar Mr) (lfM a M) far I' J' ∧ soR I' J' a M ar Mr far ∧ offX I J I' J' ∧ I' 62 5 = nI far)) := by
  refine zK_of kX12_solvesBest.2.2.2.2.1 (Nat.le_of_ble_eq_true rfl) ?_
  show V G mX12_solvesBest 9 _ 0 [(0, .ref 62)] [] (0, 0) zsh I J
  refine V_aload_n dX12_solvesBest_0 rfl ?_
  refine V_aload_n dX12_solvesBest_1 rfl ?_
  refine V_getI dX12_solvesBest_2 fX12_139 ⟨Nat.le_of_ble_eq_true rfl, Nat.le_of_ble_eq_true rfl⟩ rfl rfl ?_
  refine V_eqI (y := nI far) hR.2.1 ?_
  refine V_putW dX12_solvesBest_5 fX12_143 ⟨Nat.le_of_ble_eq_true rfl, Nat.le_of_ble_eq_true rfl⟩ rfl rfl rfl ⟨rfl, rfl⟩ ?_
  refine V_aload_n dX12_solvesBest_8 rfl ?_
  refine V_iconst (v := nI 0) dX12_solvesBest_9 rfl ?_
  refine V_iconst (v := (-1)) dX12_solvesBest_10 rfl ?_
  refine V_iconst (v := (-1)) dX12_solvesBest_11 rfl ?_
  have hW : offW I (zwr I 62 5 (nI far)) := offW_z offW_r (by omega)
  have hc2 := chA_c (I' := zwr I 62 5 (nI far)) hR.1.2.2.2 rfl rfl
  have hS2 := svI_w hR.1 hW hc2
  refine V_callV (As := [.int (nI 0), .int (-1), .int (-1)]) (st := []) (a := 62) dX12_solvesBest_12 kX12_solves lX12_385 (by decide) rfl rfl (Nat.le_of_ble_eq_true rfl) ⟨Nat.le_of_ble_eq_true rfl, Nat.le_of_ble_eq_true rfl⟩ ⟨Nat.le_of_ble_eq_true rfl, Nat.le_of_ble_eq_true rfl⟩ rfl ⟨rfl, by decide⟩ (w_solves (I := zwr I 62 5 (nI far)) hS2 (show (zwr I 62 5 (nI far)) 62 5 = nI far from rfl) h6 h10 (kd := 1) (one := (-1)) (two := (-1)) (Or.inl ⟨rfl, rfl, ruX_m, ruX_m, rfl, rfl⟩) (soK_c hR.2.2 (fun k hk => by have : k ≠ 5 ∧ k ≠ 35 := (by omega); simp [zwr_at, this.1, this.2]) rfl rfl)) ?_
  rintro r sh' I1 J1 ⟨rfl, rfl, hq1, hq2, hq3, hq4, hq5, hq6⟩
  have hOW := offW_t hW hq2
  have hX : offX I J I1 J1 := offX_w offX_r hOW (fun b q _ _ _ => hq6 b q)
  have hR1 : soR I1 J1 a M ar Mr far := ⟨svI_w hR.1 hOW hq4, (hOW.2 4 (by omega) (by omega)).trans hR.2.1, hq3⟩
  exact V_ret ⟨rfl, dX12_solvesBest_15⟩ ⟨Nat.le_of_ble_eq_true rfl, Nat.le_of_ble_eq_true rfl⟩ ⟨rfl, rfl, hq1, hR1, hX, hq5⟩

set_option maxRecDepth 100000 in
set_option maxHeartbeats 4000000 in
theorem w_best {G : zG} {I : zI} {J : zJ} {a : List (Nat × List (Nat × Nat) × List (Nat × Nat))} {M : Nat → ((Nat → Int32) → Option Int32) × ((Nat → Int32) → Option Int32)} {ar : Nat → List (Nat × List (Nat × Nat) × List (Nat × Nat))} {Mr : Nat → Nat → ((Nat → Int32) → Option Int32) × ((Nat → Int32) → Option Int32)} {far : Nat} (hR : soR I J a M ar Mr far) (h6 : 6 ≤ far) (h10 : far ≤ 10) (hf5 : I 62 5 = nI far) {code other last w : Int32} : zK G mX12_best 10 [.ref 62, .int code, .int other, .int last, .int w] zsh I J (zP (fun r I' J' => r = some (.long (onS (stO code other last) (-2000000000000000000) (fun p q l => on01 w (-2000000000000000000) (vX 1 (-1) (-1) (rlM ar Mr) (lfM a M) far p q l).1 (thrX 1 (-1) (-1) (rlM ar Mr) (lfM a M) far p q l).toInt64))) ∧ soR I' J' a M ar Mr far ∧ offX I J I' J' ∧ I' 62 5 = nI far)) := by
  refine zK_of kX12_best.2.2.2.2.1 (Nat.le_of_ble_eq_true rfl) ?_
  show V G mX12_best 10 _ 0 [(0, .ref 62), (1, .int code), (2, .int other), (3, .int last), (4, .int w)] [] (0, 0) zsh I J
  rcases hst : stO code other last with _ | ⟨p, q, l⟩
  · skip
    refine V_aload_n dX12_best_0 rfl ?_
    refine V_iload_n dX12_best_1 rfl ?_
    refine V_iload_n dX12_best_2 rfl ?_
    refine V_iload_n dX12_best_3 rfl ?_
    refine V_callV (As := [.int code, .int other, .int last]) (st := []) (a := 62) dX12_best_4 kX12_told lX12_203 (by decide) rfl rfl (Nat.le_of_ble_eq_true rfl) ⟨Nat.le_of_ble_eq_true rfl, Nat.le_of_ble_eq_true rfl⟩ ⟨Nat.le_of_ble_eq_true rfl, Nat.le_of_ble_eq_true rfl⟩ rfl ⟨rfl, by decide⟩ (w_toldN hR.1.1 hst) ?_
    rintro _ _ _ _ ⟨rfl, rfl, rfl, rfl⟩
    refine V_istore (ls' := [(5, .int (-1)), (0, .ref 62), (1, .int code), (2, .int other), (3, .int last), (4, .int w)]) dX12_best_7 (by decide) rfl ?_
    refine V_iload dX12_best_9 rfl ?_
    refine V_iconst (v := (-1)) dX12_best_11 rfl ?_
    refine V_icmp_eq (tgt := 25) dX12_best_12 rfl (fun _ => ?_) (fun h => absurd h (by decide))
    refine V_ldc2 dX12_best_25 qX12_388 ?_
    exact V_lret ⟨rfl, dX12_best_28⟩ ⟨Nat.le_of_ble_eq_true rfl, Nat.le_of_ble_eq_true rfl⟩ ⟨rfl, rfl, hR, offX_r, hf5⟩
  · have hlq := stO_s hst
    have hl1 : l ≤ 1 := hlq.2.2.2.1
    have hp56 : p < 56 := hlq.2.2.2.2.1
    have hq56 : q < 56 := hlq.2.2.2.2.2
    have hsl := stN_lt hp56 hq56 hl1
    by_cases hw : inZ w 0 1
    · rcases inZ01 hw with rfl | rfl
      · skip
        refine V_aload_n dX12_best_0 rfl ?_
        refine V_iload_n dX12_best_1 rfl ?_
        refine V_iload_n dX12_best_2 rfl ?_
        refine V_iload_n dX12_best_3 rfl ?_
        refine V_callV (As := [.int code, .int other, .int last]) (st := []) (a := 62) dX12_best_4 kX12_told lX12_203 (by decide) rfl rfl (Nat.le_of_ble_eq_true rfl) ⟨Nat.le_of_ble_eq_true rfl, Nat.le_of_ble_eq_true rfl⟩ ⟨Nat.le_of_ble_eq_true rfl, Nat.le_of_ble_eq_true rfl⟩ rfl ⟨rfl, by decide⟩ (w_toldS hR.1.1 hst) ?_
        rintro _ _ _ _ ⟨rfl, rfl, rfl, rfl⟩
        refine V_istore (ls' := [(5, .int (nI (stN p q l))), (0, .ref 62), (1, .int code), (2, .int other), (3, .int last), (4, .int (nI 0))]) dX12_best_7 (by decide) rfl ?_
        refine V_iload dX12_best_9 rfl ?_
        refine V_iconst (v := (-1)) dX12_best_11 rfl ?_
        refine V_icmp_eq (tgt := 25) dX12_best_12 rfl (fun h => absurd h (nI_ne_neg (by omega) (by decide))) (fun _ => ?_)
        refine V_iload dX12_best_15 rfl ?_
        refine V_iconst (v := nI 0) dX12_best_17 rfl ?_
        refine V_iconst (v := nI 1) dX12_best_18 rfl ?_
        refine V_callS (As := [.int (nI 0), .int (nI 0), .int (nI 1)]) (st := []) dX12_best_19 kX12_in lX12_173 (by decide) rfl rfl (Nat.le_of_ble_eq_true rfl) ⟨Nat.le_of_ble_eq_true rfl, Nat.le_of_ble_eq_true rfl⟩ (w_inY (a := 0) (b := 1) (by decide) (by decide) ((inZ_k (by omega)).mpr (by omega))) ?_
        rintro _ _ _ _ ⟨rfl, rfl, rfl, rfl⟩
        refine V_if_ne (tgt := 29) dX12_best_22 rfl (fun _ => ?_) (fun h => absurd h (by decide))
        refine V_aload_n dX12_best_29 rfl ?_
        refine V_callV (As := []) (st := []) (a := 62) dX12_best_30 kX12_solvesBest lX12_390 (by decide) rfl rfl (Nat.le_of_ble_eq_true rfl) ⟨Nat.le_of_ble_eq_true rfl, Nat.le_of_ble_eq_true rfl⟩ ⟨Nat.le_of_ble_eq_true rfl, Nat.le_of_ble_eq_true rfl⟩ rfl ⟨rfl, by decide⟩ (w_solvesBest hR h6 h10) ?_
        rintro r sh' I1 J1 ⟨rfl, rfl, hq1, hR1, hX, hq5⟩
        refine V_iload dX12_best_33 rfl ?_
        refine V_if_ne (tgt := 48) dX12_best_35 rfl (fun h => absurd h (by decide)) (fun _ => ?_)
        refine V_aload_n dX12_best_38 rfl ?_
        refine V_getR (b := 83) dX12_best_39 fX12_72 ⟨Nat.le_of_ble_eq_true rfl, Nat.le_of_ble_eq_true rfl⟩ rfl rfl rfl ?_
        refine V_iload dX12_best_42 rfl ?_
        refine V_laldN (k := stN p q l) dX12_best_44 ⟨Nat.le_of_ble_eq_true rfl, Nat.le_of_ble_eq_true rfl⟩ rfl (by decide) (by omega) ?_
        refine V_eqL (y := (vX 1 (-1) (-1) (rlM ar Mr) (lfM a M) far p q l).1) (hq1 p q l hp56 hq56 hl1).1 ?_
        refine V_goto (tgt := 56) dX12_best_45 rfl ?_
        exact V_lret ⟨rfl, dX12_best_56⟩ ⟨Nat.le_of_ble_eq_true rfl, Nat.le_of_ble_eq_true rfl⟩ ⟨rfl, rfl, hR1, hX, hq5⟩
      · skip
        refine V_aload_n dX12_best_0 rfl ?_
        refine V_iload_n dX12_best_1 rfl ?_
        refine V_iload_n dX12_best_2 rfl ?_
        refine V_iload_n dX12_best_3 rfl ?_
        refine V_callV (As := [.int code, .int other, .int last]) (st := []) (a := 62) dX12_best_4 kX12_told lX12_203 (by decide) rfl rfl (Nat.le_of_ble_eq_true rfl) ⟨Nat.le_of_ble_eq_true rfl, Nat.le_of_ble_eq_true rfl⟩ ⟨Nat.le_of_ble_eq_true rfl, Nat.le_of_ble_eq_true rfl⟩ rfl ⟨rfl, by decide⟩ (w_toldS hR.1.1 hst) ?_
        rintro _ _ _ _ ⟨rfl, rfl, rfl, rfl⟩
        refine V_istore (ls' := [(5, .int (nI (stN p q l))), (0, .ref 62), (1, .int code), (2, .int other), (3, .int last), (4, .int (nI 1))]) dX12_best_7 (by decide) rfl ?_
        refine V_iload dX12_best_9 rfl ?_
        refine V_iconst (v := (-1)) dX12_best_11 rfl ?_
        refine V_icmp_eq (tgt := 25) dX12_best_12 rfl (fun h => absurd h (nI_ne_neg (by omega) (by decide))) (fun _ => ?_)
        refine V_iload dX12_best_15 rfl ?_
        refine V_iconst (v := nI 0) dX12_best_17 rfl ?_
        refine V_iconst (v := nI 1) dX12_best_18 rfl ?_
        refine V_callS (As := [.int (nI 1), .int (nI 0), .int (nI 1)]) (st := []) dX12_best_19 kX12_in lX12_173 (by decide) rfl rfl (Nat.le_of_ble_eq_true rfl) ⟨Nat.le_of_ble_eq_true rfl, Nat.le_of_ble_eq_true rfl⟩ (w_inY (a := 0) (b := 1) (by decide) (by decide) ((inZ_k (by omega)).mpr (by omega))) ?_
        rintro _ _ _ _ ⟨rfl, rfl, rfl, rfl⟩
        refine V_if_ne (tgt := 29) dX12_best_22 rfl (fun _ => ?_) (fun h => absurd h (by decide))
        refine V_aload_n dX12_best_29 rfl ?_
        refine V_callV (As := []) (st := []) (a := 62) dX12_best_30 kX12_solvesBest lX12_390 (by decide) rfl rfl (Nat.le_of_ble_eq_true rfl) ⟨Nat.le_of_ble_eq_true rfl, Nat.le_of_ble_eq_true rfl⟩ ⟨Nat.le_of_ble_eq_true rfl, Nat.le_of_ble_eq_true rfl⟩ rfl ⟨rfl, by decide⟩ (w_solvesBest hR h6 h10) ?_
        rintro r sh' I1 J1 ⟨rfl, rfl, hq1, hR1, hX, hq5⟩
        refine V_iload dX12_best_33 rfl ?_
        refine V_if_ne (tgt := 48) dX12_best_35 rfl (fun _ => ?_) (fun h => absurd h (by decide))
        refine V_aload_n dX12_best_48 rfl ?_
        refine V_getR (b := 85) dX12_best_49 fX12_79 ⟨Nat.le_of_ble_eq_true rfl, Nat.le_of_ble_eq_true rfl⟩ rfl rfl rfl ?_
        refine V_iload dX12_best_52 rfl ?_
        refine V_baldN (k := stN p q l) dX12_best_54 ⟨Nat.le_of_ble_eq_true rfl, Nat.le_of_ble_eq_true rfl⟩ rfl (by decide) (by omega) ?_
        refine V_eqI (y := thrX 1 (-1) (-1) (rlM ar Mr) (lfM a M) far p q l) (hq1 p q l hp56 hq56 hl1).2 ?_
        refine V_i2l dX12_best_55 ?_
        exact V_lret ⟨rfl, dX12_best_56⟩ ⟨Nat.le_of_ble_eq_true rfl, Nat.le_of_ble_eq_true rfl⟩ ⟨rfl, rfl, hR1, hX, hq5⟩
    · skip
      refine V_aload_n dX12_best_0 rfl ?_
      refine V_iload_n dX12_best_1 rfl ?_
      refine V_iload_n dX12_best_2 rfl ?_
      refine V_iload_n dX12_best_3 rfl ?_
      refine V_callV (As := [.int code, .int other, .int last]) (st := []) (a := 62) dX12_best_4 kX12_told lX12_203 (by decide) rfl rfl (Nat.le_of_ble_eq_true rfl) ⟨Nat.le_of_ble_eq_true rfl, Nat.le_of_ble_eq_true rfl⟩ ⟨Nat.le_of_ble_eq_true rfl, Nat.le_of_ble_eq_true rfl⟩ rfl ⟨rfl, by decide⟩ (w_toldS hR.1.1 hst) ?_
      rintro _ _ _ _ ⟨rfl, rfl, rfl, rfl⟩
      refine V_istore (ls' := [(5, .int (nI (stN p q l))), (0, .ref 62), (1, .int code), (2, .int other), (3, .int last), (4, .int w)]) dX12_best_7 (by decide) rfl ?_
      refine V_iload dX12_best_9 rfl ?_
      refine V_iconst (v := (-1)) dX12_best_11 rfl ?_
      refine V_icmp_eq (tgt := 25) dX12_best_12 rfl (fun h => absurd h (nI_ne_neg (by omega) (by decide))) (fun _ => ?_)
      refine V_iload dX12_best_15 rfl ?_
      refine V_iconst (v := nI 0) dX12_best_17 rfl ?_
      refine V_iconst (v := nI 1) dX12_best_18 rfl ?_
      refine V_callS (As := [.int w, .int (nI 0), .int (nI 1)]) (st := []) dX12_best_19 kX12_in lX12_173 (by decide) rfl rfl (Nat.le_of_ble_eq_true rfl) ⟨Nat.le_of_ble_eq_true rfl, Nat.le_of_ble_eq_true rfl⟩ (w_inN (a := 0) (b := 1) (by decide) (by decide) hw) ?_
      rintro _ _ _ _ ⟨rfl, rfl, rfl, rfl⟩
      refine V_if_ne (tgt := 29) dX12_best_22 rfl (fun h => absurd h (by decide)) (fun _ => ?_)
      refine V_ldc2 dX12_best_25 qX12_388 ?_
      exact V_lret ⟨rfl, dX12_best_28⟩ ⟨Nat.le_of_ble_eq_true rfl, Nat.le_of_ble_eq_true rfl⟩ ⟨rfl, congrArg (fun z => some (Value.long z)) (on01_n hw).symm, hR, offX_r, hf5⟩

set_option maxRecDepth 100000 in
set_option maxHeartbeats 4000000 in
theorem w_goFor {G : zG} {I : zI} {J : zJ} {a : List (Nat × List (Nat × Nat) × List (Nat × Nat))} {M : Nat → ((Nat → Int32) → Option Int32) × ((Nat → Int32) → Option Int32)} {ar : Nat → List (Nat × List (Nat × Nat) × List (Nat × Nat))} {Mr : Nat → Nat → ((Nat → Int32) → Option Int32) × ((Nat → Int32) → Option Int32)} {far : Nat} (hR : soR I J a M ar Mr far) (h6 : 6 ≤ far) (h10 : far ≤ 10) (hf5 : I 62 5 = nI far) {code other last x w : Int32} : zK G mX12_goFor 10 [.ref 62, .int code, .int other, .int last, .int x, .int w] zsh I J (zP (fun r I' J' => r = some (.long (onS (stO code other last) (-2000000000000000000) (fun p q l => if inZ x (-3) 3 then on01 w (-2000000000000000000) (vX 2 x 0 (rlM ar Mr) (lfM a M) far p q l).1 (thrX 2 x 0 (rlM ar Mr) (lfM a M) far p q l).toInt64 else -2000000000000000000))) ∧ soR I' J' a M ar Mr far ∧ offX I J I' J' ∧ I' 62 5 = nI far)) := by
  refine zK_of kX12_goFor.2.2.2.2.1 (Nat.le_of_ble_eq_true rfl) ?_
  show V G mX12_goFor 10 _ 0 [(0, .ref 62), (1, .int code), (2, .int other), (3, .int last), (4, .int x), (5, .int w)] [] (0, 0) zsh I J
  rcases hst : stO code other last with _ | ⟨p, q, l⟩
  · skip
    refine V_aload_n dX12_goFor_0 rfl ?_
    refine V_iload_n dX12_goFor_1 rfl ?_
    refine V_iload_n dX12_goFor_2 rfl ?_
    refine V_iload_n dX12_goFor_3 rfl ?_
    refine V_callV (As := [.int code, .int other, .int last]) (st := []) (a := 62) dX12_goFor_4 kX12_told lX12_203 (by decide) rfl rfl (Nat.le_of_ble_eq_true rfl) ⟨Nat.le_of_ble_eq_true rfl, Nat.le_of_ble_eq_true rfl⟩ ⟨Nat.le_of_ble_eq_true rfl, Nat.le_of_ble_eq_true rfl⟩ rfl ⟨rfl, by decide⟩ (w_toldN hR.1.1 hst) ?_
    rintro _ _ _ _ ⟨rfl, rfl, rfl, rfl⟩
    refine V_istore (ls' := [(6, .int (-1)), (0, .ref 62), (1, .int code), (2, .int other), (3, .int last), (4, .int x), (5, .int w)]) dX12_goFor_7 (by decide) rfl ?_
    refine V_iload dX12_goFor_9 rfl ?_
    refine V_iconst (v := (-1)) dX12_goFor_11 rfl ?_
    refine V_icmp_eq (tgt := 36) dX12_goFor_12 rfl (fun _ => ?_) (fun h => absurd h (by decide))
    refine V_ldc2 dX12_goFor_36 qX12_388 ?_
    exact V_lret ⟨rfl, dX12_goFor_39⟩ ⟨Nat.le_of_ble_eq_true rfl, Nat.le_of_ble_eq_true rfl⟩ ⟨rfl, rfl, hR, offX_r, hf5⟩
  · have hlq := stO_s hst
    have hl1 : l ≤ 1 := hlq.2.2.2.1
    have hp56 : p < 56 := hlq.2.2.2.2.1
    have hq56 : q < 56 := hlq.2.2.2.2.2
    have hsl := stN_lt hp56 hq56 hl1
    by_cases hx : inZ x (-3) 3
    · by_cases hw : inZ w 0 1
      · rcases inZ01 hw with rfl | rfl
        · skip
          refine V_aload_n dX12_goFor_0 rfl ?_
          refine V_iload_n dX12_goFor_1 rfl ?_
          refine V_iload_n dX12_goFor_2 rfl ?_
          refine V_iload_n dX12_goFor_3 rfl ?_
          refine V_callV (As := [.int code, .int other, .int last]) (st := []) (a := 62) dX12_goFor_4 kX12_told lX12_203 (by decide) rfl rfl (Nat.le_of_ble_eq_true rfl) ⟨Nat.le_of_ble_eq_true rfl, Nat.le_of_ble_eq_true rfl⟩ ⟨Nat.le_of_ble_eq_true rfl, Nat.le_of_ble_eq_true rfl⟩ rfl ⟨rfl, by decide⟩ (w_toldS hR.1.1 hst) ?_
          rintro _ _ _ _ ⟨rfl, rfl, rfl, rfl⟩
          refine V_istore (ls' := [(6, .int (nI (stN p q l))), (0, .ref 62), (1, .int code), (2, .int other), (3, .int last), (4, .int x), (5, .int (nI 0))]) dX12_goFor_7 (by decide) rfl ?_
          refine V_iload dX12_goFor_9 rfl ?_
          refine V_iconst (v := (-1)) dX12_goFor_11 rfl ?_
          refine V_icmp_eq (tgt := 36) dX12_goFor_12 rfl (fun h => absurd h (nI_ne_neg (by omega) (by decide))) (fun _ => ?_)
          refine V_iload dX12_goFor_15 rfl ?_
          refine V_bipush (v := (-3)) dX12_goFor_17 rfl ?_
          refine V_iconst (v := nI 3) dX12_goFor_19 rfl ?_
          refine V_callS (As := [.int x, .int (-3), .int (nI 3)]) (st := []) dX12_goFor_20 kX12_in lX12_173 (by decide) rfl rfl (Nat.le_of_ble_eq_true rfl) ⟨Nat.le_of_ble_eq_true rfl, Nat.le_of_ble_eq_true rfl⟩ (w_inY (a := -3) (b := 3) (by decide) (by decide) hx) ?_
          rintro _ _ _ _ ⟨rfl, rfl, rfl, rfl⟩
          refine V_if_eq (tgt := 36) dX12_goFor_23 rfl (fun h => absurd h (by decide)) (fun _ => ?_)
          refine V_iload dX12_goFor_26 rfl ?_
          refine V_iconst (v := nI 0) dX12_goFor_28 rfl ?_
          refine V_iconst (v := nI 1) dX12_goFor_29 rfl ?_
          refine V_callS (As := [.int (nI 0), .int (nI 0), .int (nI 1)]) (st := []) dX12_goFor_30 kX12_in lX12_173 (by decide) rfl rfl (Nat.le_of_ble_eq_true rfl) ⟨Nat.le_of_ble_eq_true rfl, Nat.le_of_ble_eq_true rfl⟩ (w_inY (a := 0) (b := 1) (by decide) (by decide) ((inZ_k (by omega)).mpr (by omega))) ?_
          rintro _ _ _ _ ⟨rfl, rfl, rfl, rfl⟩
          refine V_if_ne (tgt := 40) dX12_goFor_33 rfl (fun _ => ?_) (fun h => absurd h (by decide))
          refine V_aload_n dX12_goFor_40 rfl ?_
          refine V_aload_n dX12_goFor_41 rfl ?_
          refine V_getI dX12_goFor_42 fX12_139 ⟨Nat.le_of_ble_eq_true rfl, Nat.le_of_ble_eq_true rfl⟩ rfl rfl ?_
          refine V_eqI (y := nI far) hR.2.1 ?_
          refine V_putW dX12_goFor_45 fX12_143 ⟨Nat.le_of_ble_eq_true rfl, Nat.le_of_ble_eq_true rfl⟩ rfl rfl rfl ⟨rfl, rfl⟩ ?_
          refine V_aload_n dX12_goFor_48 rfl ?_
          refine V_iload dX12_goFor_49 rfl ?_
          refine V_putW dX12_goFor_51 fX12_353 ⟨Nat.le_of_ble_eq_true rfl, Nat.le_of_ble_eq_true rfl⟩ rfl rfl rfl ⟨rfl, rfl⟩ ?_
          refine V_aload_n dX12_goFor_54 rfl ?_
          refine V_iconst (v := nI 2) dX12_goFor_55 rfl ?_
          refine V_iconst (v := (-1)) dX12_goFor_56 rfl ?_
          refine V_iconst (v := (-1)) dX12_goFor_57 rfl ?_
          have hW : offW I (zwr (zwr I 62 5 (nI far)) 62 35 x) := offW_z (offW_z offW_r (by omega)) (by omega)
          have hc2 := chA_c (I' := zwr (zwr I 62 5 (nI far)) 62 35 x) hR.1.2.2.2 rfl rfl
          have hS2 := svI_w hR.1 hW hc2
          refine V_callV (As := [.int (nI 2), .int (-1), .int (-1)]) (st := []) (a := 62) dX12_goFor_58 kX12_solves lX12_385 (by decide) rfl rfl (Nat.le_of_ble_eq_true rfl) ⟨Nat.le_of_ble_eq_true rfl, Nat.le_of_ble_eq_true rfl⟩ ⟨Nat.le_of_ble_eq_true rfl, Nat.le_of_ble_eq_true rfl⟩ rfl ⟨rfl, by decide⟩ (w_solves (I := zwr (zwr I 62 5 (nI far)) 62 35 x) hS2 (show (zwr (zwr I 62 5 (nI far)) 62 35 x) 62 5 = nI far from rfl) h6 h10 (kd := 2) (one := x) (two := 0) (Or.inr ⟨rfl, rfl, rfl, rfl, rfl, rfl⟩) (soK_c hR.2.2 (fun k hk => by have : k ≠ 5 ∧ k ≠ 35 := (by omega); simp [zwr_at, this.1, this.2]) rfl rfl)) ?_
          rintro r sh' I1 J1 ⟨rfl, rfl, hq1, hq2, hq3, hq4, hq5, hq6⟩
          have hOW := offW_t hW hq2
          have hX : offX I J I1 J1 := offX_w offX_r hOW (fun b q _ _ _ => hq6 b q)
          have hR1 : soR I1 J1 a M ar Mr far := ⟨svI_w hR.1 hOW hq4, (hOW.2 4 (by omega) (by omega)).trans hR.2.1, hq3⟩
          refine V_iload dX12_goFor_61 rfl ?_
          refine V_if_ne (tgt := 76) dX12_goFor_63 rfl (fun h => absurd h (by decide)) (fun _ => ?_)
          refine V_aload_n dX12_goFor_66 rfl ?_
          refine V_getR (b := 83) dX12_goFor_67 fX12_72 ⟨Nat.le_of_ble_eq_true rfl, Nat.le_of_ble_eq_true rfl⟩ rfl rfl rfl ?_
          refine V_iload dX12_goFor_70 rfl ?_
          refine V_laldN (k := stN p q l) dX12_goFor_72 ⟨Nat.le_of_ble_eq_true rfl, Nat.le_of_ble_eq_true rfl⟩ rfl (by decide) (by omega) ?_
          refine V_eqL (y := (vX 2 x 0 (rlM ar Mr) (lfM a M) far p q l).1) (hq1 p q l hp56 hq56 hl1).1 ?_
          refine V_goto (tgt := 84) dX12_goFor_73 rfl ?_
          exact V_lret ⟨rfl, dX12_goFor_84⟩ ⟨Nat.le_of_ble_eq_true rfl, Nat.le_of_ble_eq_true rfl⟩ ⟨rfl, congrArg (fun z => some (Value.long z)) (if_pos hx).symm, hR1, hX, hq5⟩
        · skip
          refine V_aload_n dX12_goFor_0 rfl ?_
          refine V_iload_n dX12_goFor_1 rfl ?_
          refine V_iload_n dX12_goFor_2 rfl ?_
          refine V_iload_n dX12_goFor_3 rfl ?_
          refine V_callV (As := [.int code, .int other, .int last]) (st := []) (a := 62) dX12_goFor_4 kX12_told lX12_203 (by decide) rfl rfl (Nat.le_of_ble_eq_true rfl) ⟨Nat.le_of_ble_eq_true rfl, Nat.le_of_ble_eq_true rfl⟩ ⟨Nat.le_of_ble_eq_true rfl, Nat.le_of_ble_eq_true rfl⟩ rfl ⟨rfl, by decide⟩ (w_toldS hR.1.1 hst) ?_
          rintro _ _ _ _ ⟨rfl, rfl, rfl, rfl⟩
          refine V_istore (ls' := [(6, .int (nI (stN p q l))), (0, .ref 62), (1, .int code), (2, .int other), (3, .int last), (4, .int x), (5, .int (nI 1))]) dX12_goFor_7 (by decide) rfl ?_
          refine V_iload dX12_goFor_9 rfl ?_
          refine V_iconst (v := (-1)) dX12_goFor_11 rfl ?_
          refine V_icmp_eq (tgt := 36) dX12_goFor_12 rfl (fun h => absurd h (nI_ne_neg (by omega) (by decide))) (fun _ => ?_)
          refine V_iload dX12_goFor_15 rfl ?_
          refine V_bipush (v := (-3)) dX12_goFor_17 rfl ?_
          refine V_iconst (v := nI 3) dX12_goFor_19 rfl ?_
          refine V_callS (As := [.int x, .int (-3), .int (nI 3)]) (st := []) dX12_goFor_20 kX12_in lX12_173 (by decide) rfl rfl (Nat.le_of_ble_eq_true rfl) ⟨Nat.le_of_ble_eq_true rfl, Nat.le_of_ble_eq_true rfl⟩ (w_inY (a := -3) (b := 3) (by decide) (by decide) hx) ?_
          rintro _ _ _ _ ⟨rfl, rfl, rfl, rfl⟩
          refine V_if_eq (tgt := 36) dX12_goFor_23 rfl (fun h => absurd h (by decide)) (fun _ => ?_)
          refine V_iload dX12_goFor_26 rfl ?_
          refine V_iconst (v := nI 0) dX12_goFor_28 rfl ?_
          refine V_iconst (v := nI 1) dX12_goFor_29 rfl ?_
          refine V_callS (As := [.int (nI 1), .int (nI 0), .int (nI 1)]) (st := []) dX12_goFor_30 kX12_in lX12_173 (by decide) rfl rfl (Nat.le_of_ble_eq_true rfl) ⟨Nat.le_of_ble_eq_true rfl, Nat.le_of_ble_eq_true rfl⟩ (w_inY (a := 0) (b := 1) (by decide) (by decide) ((inZ_k (by omega)).mpr (by omega))) ?_
          rintro _ _ _ _ ⟨rfl, rfl, rfl, rfl⟩
          refine V_if_ne (tgt := 40) dX12_goFor_33 rfl (fun _ => ?_) (fun h => absurd h (by decide))
          refine V_aload_n dX12_goFor_40 rfl ?_
          refine V_aload_n dX12_goFor_41 rfl ?_
          refine V_getI dX12_goFor_42 fX12_139 ⟨Nat.le_of_ble_eq_true rfl, Nat.le_of_ble_eq_true rfl⟩ rfl rfl ?_
          refine V_eqI (y := nI far) hR.2.1 ?_
          refine V_putW dX12_goFor_45 fX12_143 ⟨Nat.le_of_ble_eq_true rfl, Nat.le_of_ble_eq_true rfl⟩ rfl rfl rfl ⟨rfl, rfl⟩ ?_
          refine V_aload_n dX12_goFor_48 rfl ?_
          refine V_iload dX12_goFor_49 rfl ?_
          refine V_putW dX12_goFor_51 fX12_353 ⟨Nat.le_of_ble_eq_true rfl, Nat.le_of_ble_eq_true rfl⟩ rfl rfl rfl ⟨rfl, rfl⟩ ?_
          refine V_aload_n dX12_goFor_54 rfl ?_
          refine V_iconst (v := nI 2) dX12_goFor_55 rfl ?_
          refine V_iconst (v := (-1)) dX12_goFor_56 rfl ?_
          refine V_iconst (v := (-1)) dX12_goFor_57 rfl ?_
          have hW : offW I (zwr (zwr I 62 5 (nI far)) 62 35 x) := offW_z (offW_z offW_r (by omega)) (by omega)
          have hc2 := chA_c (I' := zwr (zwr I 62 5 (nI far)) 62 35 x) hR.1.2.2.2 rfl rfl
          have hS2 := svI_w hR.1 hW hc2
          refine V_callV (As := [.int (nI 2), .int (-1), .int (-1)]) (st := []) (a := 62) dX12_goFor_58 kX12_solves lX12_385 (by decide) rfl rfl (Nat.le_of_ble_eq_true rfl) ⟨Nat.le_of_ble_eq_true rfl, Nat.le_of_ble_eq_true rfl⟩ ⟨Nat.le_of_ble_eq_true rfl, Nat.le_of_ble_eq_true rfl⟩ rfl ⟨rfl, by decide⟩ (w_solves (I := zwr (zwr I 62 5 (nI far)) 62 35 x) hS2 (show (zwr (zwr I 62 5 (nI far)) 62 35 x) 62 5 = nI far from rfl) h6 h10 (kd := 2) (one := x) (two := 0) (Or.inr ⟨rfl, rfl, rfl, rfl, rfl, rfl⟩) (soK_c hR.2.2 (fun k hk => by have : k ≠ 5 ∧ k ≠ 35 := (by omega); simp [zwr_at, this.1, this.2]) rfl rfl)) ?_
          rintro r sh' I1 J1 ⟨rfl, rfl, hq1, hq2, hq3, hq4, hq5, hq6⟩
          have hOW := offW_t hW hq2
          have hX : offX I J I1 J1 := offX_w offX_r hOW (fun b q _ _ _ => hq6 b q)
          have hR1 : soR I1 J1 a M ar Mr far := ⟨svI_w hR.1 hOW hq4, (hOW.2 4 (by omega) (by omega)).trans hR.2.1, hq3⟩
          refine V_iload dX12_goFor_61 rfl ?_
          refine V_if_ne (tgt := 76) dX12_goFor_63 rfl (fun _ => ?_) (fun h => absurd h (by decide))
          refine V_aload_n dX12_goFor_76 rfl ?_
          refine V_getR (b := 85) dX12_goFor_77 fX12_79 ⟨Nat.le_of_ble_eq_true rfl, Nat.le_of_ble_eq_true rfl⟩ rfl rfl rfl ?_
          refine V_iload dX12_goFor_80 rfl ?_
          refine V_baldN (k := stN p q l) dX12_goFor_82 ⟨Nat.le_of_ble_eq_true rfl, Nat.le_of_ble_eq_true rfl⟩ rfl (by decide) (by omega) ?_
          refine V_eqI (y := thrX 2 x 0 (rlM ar Mr) (lfM a M) far p q l) (hq1 p q l hp56 hq56 hl1).2 ?_
          refine V_i2l dX12_goFor_83 ?_
          exact V_lret ⟨rfl, dX12_goFor_84⟩ ⟨Nat.le_of_ble_eq_true rfl, Nat.le_of_ble_eq_true rfl⟩ ⟨rfl, congrArg (fun z => some (Value.long z)) (if_pos hx).symm, hR1, hX, hq5⟩
      · skip
        refine V_aload_n dX12_goFor_0 rfl ?_
        refine V_iload_n dX12_goFor_1 rfl ?_
        refine V_iload_n dX12_goFor_2 rfl ?_
        refine V_iload_n dX12_goFor_3 rfl ?_
        refine V_callV (As := [.int code, .int other, .int last]) (st := []) (a := 62) dX12_goFor_4 kX12_told lX12_203 (by decide) rfl rfl (Nat.le_of_ble_eq_true rfl) ⟨Nat.le_of_ble_eq_true rfl, Nat.le_of_ble_eq_true rfl⟩ ⟨Nat.le_of_ble_eq_true rfl, Nat.le_of_ble_eq_true rfl⟩ rfl ⟨rfl, by decide⟩ (w_toldS hR.1.1 hst) ?_
        rintro _ _ _ _ ⟨rfl, rfl, rfl, rfl⟩
        refine V_istore (ls' := [(6, .int (nI (stN p q l))), (0, .ref 62), (1, .int code), (2, .int other), (3, .int last), (4, .int x), (5, .int w)]) dX12_goFor_7 (by decide) rfl ?_
        refine V_iload dX12_goFor_9 rfl ?_
        refine V_iconst (v := (-1)) dX12_goFor_11 rfl ?_
        refine V_icmp_eq (tgt := 36) dX12_goFor_12 rfl (fun h => absurd h (nI_ne_neg (by omega) (by decide))) (fun _ => ?_)
        refine V_iload dX12_goFor_15 rfl ?_
        refine V_bipush (v := (-3)) dX12_goFor_17 rfl ?_
        refine V_iconst (v := nI 3) dX12_goFor_19 rfl ?_
        refine V_callS (As := [.int x, .int (-3), .int (nI 3)]) (st := []) dX12_goFor_20 kX12_in lX12_173 (by decide) rfl rfl (Nat.le_of_ble_eq_true rfl) ⟨Nat.le_of_ble_eq_true rfl, Nat.le_of_ble_eq_true rfl⟩ (w_inY (a := -3) (b := 3) (by decide) (by decide) hx) ?_
        rintro _ _ _ _ ⟨rfl, rfl, rfl, rfl⟩
        refine V_if_eq (tgt := 36) dX12_goFor_23 rfl (fun h => absurd h (by decide)) (fun _ => ?_)
        refine V_iload dX12_goFor_26 rfl ?_
        refine V_iconst (v := nI 0) dX12_goFor_28 rfl ?_
        refine V_iconst (v := nI 1) dX12_goFor_29 rfl ?_
        refine V_callS (As := [.int w, .int (nI 0), .int (nI 1)]) (st := []) dX12_goFor_30 kX12_in lX12_173 (by decide) rfl rfl (Nat.le_of_ble_eq_true rfl) ⟨Nat.le_of_ble_eq_true rfl, Nat.le_of_ble_eq_true rfl⟩ (w_inN (a := 0) (b := 1) (by decide) (by decide) hw) ?_
        rintro _ _ _ _ ⟨rfl, rfl, rfl, rfl⟩
        refine V_if_ne (tgt := 40) dX12_goFor_33 rfl (fun h => absurd h (by decide)) (fun _ => ?_)
        refine V_ldc2 dX12_goFor_36 qX12_388 ?_
        exact V_lret ⟨rfl, dX12_goFor_39⟩ ⟨Nat.le_of_ble_eq_true rfl, Nat.le_of_ble_eq_true rfl⟩ ⟨rfl, congrArg (fun z => some (Value.long z)) ((if_pos hx).trans (on01_n hw)).symm, hR, offX_r, hf5⟩
    · skip
      refine V_aload_n dX12_goFor_0 rfl ?_
      refine V_iload_n dX12_goFor_1 rfl ?_
      refine V_iload_n dX12_goFor_2 rfl ?_
      refine V_iload_n dX12_goFor_3 rfl ?_
      refine V_callV (As := [.int code, .int other, .int last]) (st := []) (a := 62) dX12_goFor_4 kX12_told lX12_203 (by decide) rfl rfl (Nat.le_of_ble_eq_true rfl) ⟨Nat.le_of_ble_eq_true rfl, Nat.le_of_ble_eq_true rfl⟩ ⟨Nat.le_of_ble_eq_true rfl, Nat.le_of_ble_eq_true rfl⟩ rfl ⟨rfl, by decide⟩ (w_toldS hR.1.1 hst) ?_
      rintro _ _ _ _ ⟨rfl, rfl, rfl, rfl⟩
      refine V_istore (ls' := [(6, .int (nI (stN p q l))), (0, .ref 62), (1, .int code), (2, .int other), (3, .int last), (4, .int x), (5, .int w)]) dX12_goFor_7 (by decide) rfl ?_
      refine V_iload dX12_goFor_9 rfl ?_
      refine V_iconst (v := (-1)) dX12_goFor_11 rfl ?_
      refine V_icmp_eq (tgt := 36) dX12_goFor_12 rfl (fun h => absurd h (nI_ne_neg (by omega) (by decide))) (fun _ => ?_)
      refine V_iload dX12_goFor_15 rfl ?_
      refine V_bipush (v := (-3)) dX12_goFor_17 rfl ?_
      refine V_iconst (v := nI 3) dX12_goFor_19 rfl ?_
      refine V_callS (As := [.int x, .int (-3), .int (nI 3)]) (st := []) dX12_goFor_20 kX12_in lX12_173 (by decide) rfl rfl (Nat.le_of_ble_eq_true rfl) ⟨Nat.le_of_ble_eq_true rfl, Nat.le_of_ble_eq_true rfl⟩ (w_inN (a := -3) (b := 3) (by decide) (by decide) hx) ?_
      rintro _ _ _ _ ⟨rfl, rfl, rfl, rfl⟩
      refine V_if_eq (tgt := 36) dX12_goFor_23 rfl (fun _ => ?_) (fun h => absurd h (by decide))
      refine V_ldc2 dX12_goFor_36 qX12_388 ?_
      exact V_lret ⟨rfl, dX12_goFor_39⟩ ⟨Nat.le_of_ble_eq_true rfl, Nat.le_of_ble_eq_true rfl⟩ ⟨rfl, congrArg (fun z => some (Value.long z)) (if_neg hx).symm, hR, offX_r, hf5⟩

