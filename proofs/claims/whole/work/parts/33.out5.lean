/-! THE CLASS: shots, balls, rolling, kept ones, counts -/
set_option maxRecDepth 100000 in
set_option maxHeartbeats 4000000 in
theorem c_farY {G : zG} {I : zI} {J : zJ} {n : Nat} (h6 : 6 ≤ n) (h10 : n ≤ 10) : zK G mX11_far 1 [.ref 2, .int (nI n)] zsh I J (zA1 (.int (nI 1)) (fun I' J' => I' = zwr (zwr I 2 0 (nI n)) 36 5 (-1) ∧ J = J')) := by
  refine zK_of kX11_far.2.2.2.2.1 (Nat.le_of_ble_eq_true rfl) ?_
  show V G mX11_far 1 _ 0 [(0, .ref 2), (1, .int (nI n))] [] (0, 0) zsh I J
  refine V_iload_n dX11_far_0 rfl ?_
  refine V_callS (As := [.int (nI n)]) (st := []) dX11_far_1 kX11_isFar lX11_95 (by decide) rfl rfl (Nat.le_of_ble_eq_true rfl) ⟨Nat.le_of_ble_eq_true rfl, Nat.le_of_ble_eq_true rfl⟩ (q_y q_isFar ((inZ_k (by omega)).mpr (by omega))) ?_
  rintro _ _ _ _ ⟨rfl, rfl, rfl, rfl⟩
  refine V_if_ne (tgt := 9) dX11_far_4 rfl (fun _ => ?_) (fun h => absurd h (by decide))
  refine V_aload_n dX11_far_9 rfl ?_
  refine V_iload_n dX11_far_10 rfl ?_
  refine V_putW dX11_far_11 fX11_7 ⟨Nat.le_of_ble_eq_true rfl, Nat.le_of_ble_eq_true rfl⟩ rfl rfl rfl ⟨rfl, rfl⟩ ?_
  refine V_aload_n dX11_far_14 rfl ?_
  refine V_getR (b := 36) dX11_far_15 fX11_64 ⟨Nat.le_of_ble_eq_true rfl, Nat.le_of_ble_eq_true rfl⟩ rfl rfl rfl ?_
  refine V_callV (As := []) (st := []) (a := 36) dX11_far_18 kX6_forget lX11_99 (by decide) rfl rfl (Nat.le_of_ble_eq_true rfl) ⟨Nat.le_of_ble_eq_true rfl, Nat.le_of_ble_eq_true rfl⟩ ⟨Nat.le_of_ble_eq_true rfl, Nat.le_of_ble_eq_true rfl⟩ rfl ⟨rfl, by decide⟩ c_forget ?_
  rintro r sh' I' J' ⟨rfl, rfl, rfl, rfl⟩
  refine V_iconst (v := nI 1) dX11_far_21 rfl ?_
  exact V_iret ⟨Or.inr ⟨rfl, Or.inr rfl⟩, dX11_far_22⟩ ⟨Nat.le_of_ble_eq_true rfl, Nat.le_of_ble_eq_true rfl⟩ ⟨rfl, rfl, rfl, rfl⟩

set_option maxRecDepth 100000 in
set_option maxHeartbeats 4000000 in
theorem c_farN {G : zG} {I : zI} {J : zJ} {n : Int32} (h : ¬ inZ n 6 10) : zK G mX11_far 1 [.ref 2, .int n] zsh I J (zA0 (.int (nI 0)) I J) := by
  refine zK_of kX11_far.2.2.2.2.1 (Nat.le_of_ble_eq_true rfl) ?_
  show V G mX11_far 1 _ 0 [(0, .ref 2), (1, .int n)] [] (0, 0) zsh I J
  refine V_iload_n dX11_far_0 rfl ?_
  refine V_callS (As := [.int n]) (st := []) dX11_far_1 kX11_isFar lX11_95 (by decide) rfl rfl (Nat.le_of_ble_eq_true rfl) ⟨Nat.le_of_ble_eq_true rfl, Nat.le_of_ble_eq_true rfl⟩ (q_n q_isFar h) ?_
  rintro _ _ _ _ ⟨rfl, rfl, rfl, rfl⟩
  refine V_if_ne (tgt := 9) dX11_far_4 rfl (fun h => absurd h (by decide)) (fun _ => ?_)
  refine V_iconst (v := nI 0) dX11_far_7 rfl ?_
  exact V_iret ⟨Or.inr ⟨rfl, Or.inl rfl⟩, dX11_far_8⟩ ⟨Nat.le_of_ble_eq_true rfl, Nat.le_of_ble_eq_true rfl⟩ ⟨rfl, rfl, rfl, rfl⟩

def tfeed (I : zI) (t : Nat) (a b c d e : Int32) : zI := (tadd (tadd (tadd (tadd (tadd I t a) (t + 4) b) (t + 8) c) (t + 12) d) (t + 16) e)
set_option maxRecDepth 100000 in
set_option maxHeartbeats 4000000 in
theorem c_feedY {G : zG} {I : zI} {J : zJ} {t : Nat} (ht : I 3 1 = nI t) (ht2 : t ≤ 260) {a b c d e : Int32} (h : t + 20 ≤ 260) : zK G mX11_feed 1 [.ref 2, .int a, .int b, .int c, .int d, .int e] zsh I J (zA1 (.int (nI (t + 20))) (fun I' J' => I' = tfeed I t a b c d e ∧ J = J')) := by
  refine zK_of kX11_feed.2.2.2.2.1 (Nat.le_of_ble_eq_true rfl) ?_
  show V G mX11_feed 1 _ 0 [(0, .ref 2), (1, .int a), (2, .int b), (3, .int c), (4, .int d), (5, .int e)] [] (0, 0) zsh I J
  refine V_aload_n dX11_feed_0 rfl ?_
  refine V_getR (b := 3) dX11_feed_1 fX11_19 ⟨Nat.le_of_ble_eq_true rfl, Nat.le_of_ble_eq_true rfl⟩ rfl rfl rfl ?_
  refine V_callV (As := []) (st := []) (a := 3) dX11_feed_4 kX10_hasRoomForFive lX11_102 (by decide) rfl rfl (Nat.le_of_ble_eq_true rfl) ⟨Nat.le_of_ble_eq_true rfl, Nat.le_of_ble_eq_true rfl⟩ ⟨Nat.le_of_ble_eq_true rfl, Nat.le_of_ble_eq_true rfl⟩ rfl ⟨rfl, by decide⟩ (c_hasRoom10 ht ht2) ?_
  rintro _ _ _ _ ⟨rfl, rfl, rfl, rfl⟩
  rw [if_pos h]
  refine V_if_ne (tgt := 12) dX11_feed_7 rfl (fun _ => ?_) (fun h => absurd h (by decide))
  refine V_aload_n dX11_feed_12 rfl ?_
  refine V_getR (b := 3) dX11_feed_13 fX11_19 ⟨Nat.le_of_ble_eq_true rfl, Nat.le_of_ble_eq_true rfl⟩ rfl rfl rfl ?_
  refine V_iload_n dX11_feed_16 rfl ?_
  refine V_callV (As := [.int a]) (st := []) (a := 3) dX11_feed_17 kX10_addNumber lX11_106 (by decide) rfl rfl (Nat.le_of_ble_eq_true rfl) ⟨Nat.le_of_ble_eq_true rfl, Nat.le_of_ble_eq_true rfl⟩ ⟨Nat.le_of_ble_eq_true rfl, Nat.le_of_ble_eq_true rfl⟩ rfl ⟨rfl, by decide⟩ (c_addNumber (t := t) ht (by omega)) ?_
  rintro r sh' I' J' ⟨rfl, rfl, rfl, rfl⟩
  refine V_aload_n dX11_feed_20 rfl ?_
  refine V_getR (b := 3) dX11_feed_21 fX11_19 ⟨Nat.le_of_ble_eq_true rfl, Nat.le_of_ble_eq_true rfl⟩ rfl rfl rfl ?_
  refine V_iload_n dX11_feed_24 rfl ?_
  refine V_callV (As := [.int b]) (st := []) (a := 3) dX11_feed_25 kX10_addNumber lX11_106 (by decide) rfl rfl (Nat.le_of_ble_eq_true rfl) ⟨Nat.le_of_ble_eq_true rfl, Nat.le_of_ble_eq_true rfl⟩ ⟨Nat.le_of_ble_eq_true rfl, Nat.le_of_ble_eq_true rfl⟩ rfl ⟨rfl, by decide⟩ (c_addNumber (t := t + 4) rfl (by omega)) ?_
  rintro r sh' I' J' ⟨rfl, rfl, rfl, rfl⟩
  refine V_aload_n dX11_feed_28 rfl ?_
  refine V_getR (b := 3) dX11_feed_29 fX11_19 ⟨Nat.le_of_ble_eq_true rfl, Nat.le_of_ble_eq_true rfl⟩ rfl rfl rfl ?_
  refine V_iload_n dX11_feed_32 rfl ?_
  refine V_callV (As := [.int c]) (st := []) (a := 3) dX11_feed_33 kX10_addNumber lX11_106 (by decide) rfl rfl (Nat.le_of_ble_eq_true rfl) ⟨Nat.le_of_ble_eq_true rfl, Nat.le_of_ble_eq_true rfl⟩ ⟨Nat.le_of_ble_eq_true rfl, Nat.le_of_ble_eq_true rfl⟩ rfl ⟨rfl, by decide⟩ (c_addNumber (t := t + 8) rfl (by omega)) ?_
  rintro r sh' I' J' ⟨rfl, rfl, rfl, rfl⟩
  refine V_aload_n dX11_feed_36 rfl ?_
  refine V_getR (b := 3) dX11_feed_37 fX11_19 ⟨Nat.le_of_ble_eq_true rfl, Nat.le_of_ble_eq_true rfl⟩ rfl rfl rfl ?_
  refine V_iload dX11_feed_40 rfl ?_
  refine V_callV (As := [.int d]) (st := []) (a := 3) dX11_feed_42 kX10_addNumber lX11_106 (by decide) rfl rfl (Nat.le_of_ble_eq_true rfl) ⟨Nat.le_of_ble_eq_true rfl, Nat.le_of_ble_eq_true rfl⟩ ⟨Nat.le_of_ble_eq_true rfl, Nat.le_of_ble_eq_true rfl⟩ rfl ⟨rfl, by decide⟩ (c_addNumber (t := t + 12) rfl (by omega)) ?_
  rintro r sh' I' J' ⟨rfl, rfl, rfl, rfl⟩
  refine V_aload_n dX11_feed_45 rfl ?_
  refine V_getR (b := 3) dX11_feed_46 fX11_19 ⟨Nat.le_of_ble_eq_true rfl, Nat.le_of_ble_eq_true rfl⟩ rfl rfl rfl ?_
  refine V_iload dX11_feed_49 rfl ?_
  refine V_callV (As := [.int e]) (st := []) (a := 3) dX11_feed_51 kX10_addNumber lX11_106 (by decide) rfl rfl (Nat.le_of_ble_eq_true rfl) ⟨Nat.le_of_ble_eq_true rfl, Nat.le_of_ble_eq_true rfl⟩ ⟨Nat.le_of_ble_eq_true rfl, Nat.le_of_ble_eq_true rfl⟩ rfl ⟨rfl, by decide⟩ (c_addNumber (t := t + 16) rfl (by omega)) ?_
  rintro r sh' I' J' ⟨rfl, rfl, rfl, rfl⟩
  refine V_aload_n dX11_feed_54 rfl ?_
  refine V_getR (b := 3) dX11_feed_55 fX11_19 ⟨Nat.le_of_ble_eq_true rfl, Nat.le_of_ble_eq_true rfl⟩ rfl rfl rfl ?_
  refine V_getI dX11_feed_58 fX11_110 ⟨Nat.le_of_ble_eq_true rfl, Nat.le_of_ble_eq_true rfl⟩ rfl rfl ?_
  exact V_iret ⟨Or.inl rfl, dX11_feed_61⟩ ⟨Nat.le_of_ble_eq_true rfl, Nat.le_of_ble_eq_true rfl⟩ ⟨rfl, rfl, rfl, rfl⟩

set_option maxRecDepth 100000 in
set_option maxHeartbeats 4000000 in
theorem c_feedN {G : zG} {I : zI} {J : zJ} {t : Nat} (ht : I 3 1 = nI t) (ht2 : t ≤ 260) {a b c d e : Int32} (h : ¬ t + 20 ≤ 260) : zK G mX11_feed 1 [.ref 2, .int a, .int b, .int c, .int d, .int e] zsh I J (zA0 (.int (-1)) I J) := by
  refine zK_of kX11_feed.2.2.2.2.1 (Nat.le_of_ble_eq_true rfl) ?_
  show V G mX11_feed 1 _ 0 [(0, .ref 2), (1, .int a), (2, .int b), (3, .int c), (4, .int d), (5, .int e)] [] (0, 0) zsh I J
  refine V_aload_n dX11_feed_0 rfl ?_
  refine V_getR (b := 3) dX11_feed_1 fX11_19 ⟨Nat.le_of_ble_eq_true rfl, Nat.le_of_ble_eq_true rfl⟩ rfl rfl rfl ?_
  refine V_callV (As := []) (st := []) (a := 3) dX11_feed_4 kX10_hasRoomForFive lX11_102 (by decide) rfl rfl (Nat.le_of_ble_eq_true rfl) ⟨Nat.le_of_ble_eq_true rfl, Nat.le_of_ble_eq_true rfl⟩ ⟨Nat.le_of_ble_eq_true rfl, Nat.le_of_ble_eq_true rfl⟩ rfl ⟨rfl, by decide⟩ (c_hasRoom10 ht ht2) ?_
  rintro _ _ _ _ ⟨rfl, rfl, rfl, rfl⟩
  rw [if_neg h]
  refine V_if_ne (tgt := 12) dX11_feed_7 rfl (fun h => absurd h (by decide)) (fun _ => ?_)
  refine V_iconst (v := (-1)) dX11_feed_10 rfl ?_
  exact V_iret ⟨Or.inl rfl, dX11_feed_11⟩ ⟨Nat.le_of_ble_eq_true rfl, Nat.le_of_ble_eq_true rfl⟩ ⟨rfl, rfl, rfl, rfl⟩

set_option maxRecDepth 100000 in
set_option maxHeartbeats 4000000 in
theorem c_shotY0 {G : zG} {I : zI} {J : zJ} {s h : Nat → Nat} (hb : bkX I 44 s h) {n : Nat} (h6 : 6 ≤ n) (h10 : n ≤ 10) (h60 : sm5 s < 60) : zK G mX11_shot 1 [.ref 2, .int (nI n), .int (nI 0)] zsh I J (zA1 (.int (nI (sm5 s + 1))) (fun I' J' => I' = badd I (n - 6) 0 s h ∧ J = J')) := by
  refine zK_of kX11_shot.2.2.2.2.1 (Nat.le_of_ble_eq_true rfl) ?_
  show V G mX11_shot 1 _ 0 [(0, .ref 2), (1, .int (nI n)), (2, .int (nI 0))] [] (0, 0) zsh I J
  refine V_iload_n dX11_shot_0 rfl ?_
  refine V_callS (As := [.int (nI n)]) (st := []) dX11_shot_1 kX11_isFar lX11_95 (by decide) rfl rfl (Nat.le_of_ble_eq_true rfl) ⟨Nat.le_of_ble_eq_true rfl, Nat.le_of_ble_eq_true rfl⟩ (q_y q_isFar ((inZ_k (by omega)).mpr (by omega))) ?_
  rintro _ _ _ _ ⟨rfl, rfl, rfl, rfl⟩
  refine V_if_eq (tgt := 29) dX11_shot_4 rfl (fun h => absurd h (by decide)) (fun _ => ?_)
  refine V_aload_n dX11_shot_7 rfl ?_
  refine V_getR (b := 44) dX11_shot_8 fX11_78 ⟨Nat.le_of_ble_eq_true rfl, Nat.le_of_ble_eq_true rfl⟩ rfl rfl rfl ?_
  refine V_callV (As := []) (st := []) (a := 44) dX11_shot_11 kX0_hasRoom lX11_256 (by decide) rfl rfl (Nat.le_of_ble_eq_true rfl) ⟨Nat.le_of_ble_eq_true rfl, Nat.le_of_ble_eq_true rfl⟩ ⟨Nat.le_of_ble_eq_true rfl, Nat.le_of_ble_eq_true rfl⟩ rfl ⟨rfl, by decide⟩ (c_hasRoomB hb) ?_
  rintro _ _ _ _ ⟨rfl, rfl, rfl, rfl⟩
  rw [if_pos h60]
  refine V_if_eq (tgt := 29) dX11_shot_14 rfl (fun h => absurd h (by decide)) (fun _ => ?_)
  refine V_aload_n dX11_shot_17 rfl ?_
  refine V_getR (b := 44) dX11_shot_18 fX11_78 ⟨Nat.le_of_ble_eq_true rfl, Nat.le_of_ble_eq_true rfl⟩ rfl rfl rfl ?_
  refine V_iload_n dX11_shot_21 rfl ?_
  refine V_iload_n dX11_shot_22 rfl ?_
  refine V_callV (As := [.int (nI n), .int (nI 0)]) (st := []) (a := 44) dX11_shot_23 kX0_add lX11_259 (by decide) rfl rfl (Nat.le_of_ble_eq_true rfl) ⟨Nat.le_of_ble_eq_true rfl, Nat.le_of_ble_eq_true rfl⟩ ⟨Nat.le_of_ble_eq_true rfl, Nat.le_of_ble_eq_true rfl⟩ rfl ⟨rfl, by decide⟩ (c_addB0 hb h6 h10) ?_
  rintro r sh' I' J' ⟨rfl, rfl, rfl, rfl⟩
  refine V_goto (tgt := 30) dX11_shot_26 rfl ?_
  exact V_iret ⟨Or.inl rfl, dX11_shot_30⟩ ⟨Nat.le_of_ble_eq_true rfl, Nat.le_of_ble_eq_true rfl⟩ ⟨rfl, rfl, rfl, rfl⟩

set_option maxRecDepth 100000 in
set_option maxHeartbeats 4000000 in
theorem c_shotY1 {G : zG} {I : zI} {J : zJ} {s h : Nat → Nat} (hb : bkX I 44 s h) {n : Nat} (h6 : 6 ≤ n) (h10 : n ≤ 10) (h60 : sm5 s < 60) : zK G mX11_shot 1 [.ref 2, .int (nI n), .int (nI 1)] zsh I J (zA1 (.int (nI (sm5 s + 1))) (fun I' J' => I' = badd I (n - 6) 1 s h ∧ J = J')) := by
  refine zK_of kX11_shot.2.2.2.2.1 (Nat.le_of_ble_eq_true rfl) ?_
  show V G mX11_shot 1 _ 0 [(0, .ref 2), (1, .int (nI n)), (2, .int (nI 1))] [] (0, 0) zsh I J
  refine V_iload_n dX11_shot_0 rfl ?_
  refine V_callS (As := [.int (nI n)]) (st := []) dX11_shot_1 kX11_isFar lX11_95 (by decide) rfl rfl (Nat.le_of_ble_eq_true rfl) ⟨Nat.le_of_ble_eq_true rfl, Nat.le_of_ble_eq_true rfl⟩ (q_y q_isFar ((inZ_k (by omega)).mpr (by omega))) ?_
  rintro _ _ _ _ ⟨rfl, rfl, rfl, rfl⟩
  refine V_if_eq (tgt := 29) dX11_shot_4 rfl (fun h => absurd h (by decide)) (fun _ => ?_)
  refine V_aload_n dX11_shot_7 rfl ?_
  refine V_getR (b := 44) dX11_shot_8 fX11_78 ⟨Nat.le_of_ble_eq_true rfl, Nat.le_of_ble_eq_true rfl⟩ rfl rfl rfl ?_
  refine V_callV (As := []) (st := []) (a := 44) dX11_shot_11 kX0_hasRoom lX11_256 (by decide) rfl rfl (Nat.le_of_ble_eq_true rfl) ⟨Nat.le_of_ble_eq_true rfl, Nat.le_of_ble_eq_true rfl⟩ ⟨Nat.le_of_ble_eq_true rfl, Nat.le_of_ble_eq_true rfl⟩ rfl ⟨rfl, by decide⟩ (c_hasRoomB hb) ?_
  rintro _ _ _ _ ⟨rfl, rfl, rfl, rfl⟩
  rw [if_pos h60]
  refine V_if_eq (tgt := 29) dX11_shot_14 rfl (fun h => absurd h (by decide)) (fun _ => ?_)
  refine V_aload_n dX11_shot_17 rfl ?_
  refine V_getR (b := 44) dX11_shot_18 fX11_78 ⟨Nat.le_of_ble_eq_true rfl, Nat.le_of_ble_eq_true rfl⟩ rfl rfl rfl ?_
  refine V_iload_n dX11_shot_21 rfl ?_
  refine V_iload_n dX11_shot_22 rfl ?_
  refine V_callV (As := [.int (nI n), .int (nI 1)]) (st := []) (a := 44) dX11_shot_23 kX0_add lX11_259 (by decide) rfl rfl (Nat.le_of_ble_eq_true rfl) ⟨Nat.le_of_ble_eq_true rfl, Nat.le_of_ble_eq_true rfl⟩ ⟨Nat.le_of_ble_eq_true rfl, Nat.le_of_ble_eq_true rfl⟩ rfl ⟨rfl, by decide⟩ (c_addB1 hb h6 h10) ?_
  rintro r sh' I' J' ⟨rfl, rfl, rfl, rfl⟩
  refine V_goto (tgt := 30) dX11_shot_26 rfl ?_
  exact V_iret ⟨Or.inl rfl, dX11_shot_30⟩ ⟨Nat.le_of_ble_eq_true rfl, Nat.le_of_ble_eq_true rfl⟩ ⟨rfl, rfl, rfl, rfl⟩

set_option maxRecDepth 100000 in
set_option maxHeartbeats 4000000 in
theorem c_shotN {G : zG} {I : zI} {J : zJ} {s h : Nat → Nat} (hb : bkX I 44 s h) {n b : Int32} (hn : ¬ (inZ n 6 10 ∧ sm5 s < 60)) : zK G mX11_shot 1 [.ref 2, .int n, .int b] zsh I J (zA0 (.int (-1)) I J) := by
  refine zK_of kX11_shot.2.2.2.2.1 (Nat.le_of_ble_eq_true rfl) ?_
  show V G mX11_shot 1 _ 0 [(0, .ref 2), (1, .int n), (2, .int b)] [] (0, 0) zsh I J
  by_cases hf : inZ n 6 10
  · have h60 : ¬ sm5 s < 60 := fun h60 => hn ⟨hf, h60⟩
    refine V_iload_n dX11_shot_0 rfl ?_
    refine V_callS (As := [.int n]) (st := []) dX11_shot_1 kX11_isFar lX11_95 (by decide) rfl rfl (Nat.le_of_ble_eq_true rfl) ⟨Nat.le_of_ble_eq_true rfl, Nat.le_of_ble_eq_true rfl⟩ (q_y q_isFar hf) ?_
    rintro _ _ _ _ ⟨rfl, rfl, rfl, rfl⟩
    refine V_if_eq (tgt := 29) dX11_shot_4 rfl (fun h => absurd h (by decide)) (fun _ => ?_)
    refine V_aload_n dX11_shot_7 rfl ?_
    refine V_getR (b := 44) dX11_shot_8 fX11_78 ⟨Nat.le_of_ble_eq_true rfl, Nat.le_of_ble_eq_true rfl⟩ rfl rfl rfl ?_
    refine V_callV (As := []) (st := []) (a := 44) dX11_shot_11 kX0_hasRoom lX11_256 (by decide) rfl rfl (Nat.le_of_ble_eq_true rfl) ⟨Nat.le_of_ble_eq_true rfl, Nat.le_of_ble_eq_true rfl⟩ ⟨Nat.le_of_ble_eq_true rfl, Nat.le_of_ble_eq_true rfl⟩ rfl ⟨rfl, by decide⟩ (c_hasRoomB hb) ?_
    rintro _ _ _ _ ⟨rfl, rfl, rfl, rfl⟩
    rw [if_neg h60]
    refine V_if_eq (tgt := 29) dX11_shot_14 rfl (fun _ => ?_) (fun h => absurd h (by decide))
    refine V_iconst (v := (-1)) dX11_shot_29 rfl ?_
    exact V_iret ⟨Or.inl rfl, dX11_shot_30⟩ ⟨Nat.le_of_ble_eq_true rfl, Nat.le_of_ble_eq_true rfl⟩ ⟨rfl, rfl, rfl, rfl⟩
  · skip
    refine V_iload_n dX11_shot_0 rfl ?_
    refine V_callS (As := [.int n]) (st := []) dX11_shot_1 kX11_isFar lX11_95 (by decide) rfl rfl (Nat.le_of_ble_eq_true rfl) ⟨Nat.le_of_ble_eq_true rfl, Nat.le_of_ble_eq_true rfl⟩ (q_n q_isFar hf) ?_
    rintro _ _ _ _ ⟨rfl, rfl, rfl, rfl⟩
    refine V_if_eq (tgt := 29) dX11_shot_4 rfl (fun _ => ?_) (fun h => absurd h (by decide))
    refine V_iconst (v := (-1)) dX11_shot_29 rfl ?_
    exact V_iret ⟨Or.inl rfl, dX11_shot_30⟩ ⟨Nat.le_of_ble_eq_true rfl, Nat.le_of_ble_eq_true rfl⟩ ⟨rfl, rfl, rfl, rfl⟩

set_option maxRecDepth 100000 in
set_option maxHeartbeats 4000000 in
theorem c_book {G : zG} {I : zI} {J : zJ} {s h : Nat → Nat} (hb : bkX I 44 s h) {x : Int32} : zK G mX11_book 3 [.ref 2, .int x] zsh I J (zA0 (.int (onN 41 x (-1) (telB s h))) I J) := by
  refine zK_of kX11_book.2.2.2.2.1 (Nat.le_of_ble_eq_true rfl) ?_
  show V G mX11_book 3 _ 0 [(0, .ref 2), (1, .int x)] [] (0, 0) zsh I J
  refine V_aload_n dX11_book_0 rfl ?_
  refine V_getR (b := 44) dX11_book_1 fX11_78 ⟨Nat.le_of_ble_eq_true rfl, Nat.le_of_ble_eq_true rfl⟩ rfl rfl rfl ?_
  refine V_iload_n dX11_book_4 rfl ?_
  refine V_callV (As := [.int x]) (st := []) (a := 44) dX11_book_5 kX0_tell lX11_263 (by decide) rfl rfl (Nat.le_of_ble_eq_true rfl) ⟨Nat.le_of_ble_eq_true rfl, Nat.le_of_ble_eq_true rfl⟩ ⟨Nat.le_of_ble_eq_true rfl, Nat.le_of_ble_eq_true rfl⟩ rfl ⟨rfl, by decide⟩ (c_tellB hb) ?_
  rintro _ _ _ _ ⟨rfl, rfl, rfl, rfl⟩
  exact V_iret ⟨Or.inl rfl, dX11_book_8⟩ ⟨Nat.le_of_ble_eq_true rfl, Nat.le_of_ble_eq_true rfl⟩ ⟨rfl, rfl, rfl, rfl⟩

set_option maxRecDepth 100000 in
set_option maxHeartbeats 4000000 in
theorem c_fitsY {G : zG} {I : zI} {J : zJ} {s h : Nat → Nat} (hb : bkX I 44 s h) {a1 l1 a2 l2 : Nat} (h1 : a1 ≤ 10) (h2 : l1 ≤ 3) (h3 : a2 ≤ 10) (h4 : l2 ≤ 3) : zK G mX11_fits 3 [.ref 2, .int (nI a1), .int (nI l1), .int (nI a2), .int (nI l2)] zsh I J (zP (fun r I' J' => r = some (.int (nI (cmpS (pRow a1 l1 s h 5) (pRow a2 l2 s h 5) 7))) ∧ (∀ b, b ≠ 47 → b ≠ 48 → I' b = I b) ∧ J = J')) := by
  refine zK_of kX11_fits.2.2.2.2.1 (Nat.le_of_ble_eq_true rfl) ?_
  show V G mX11_fits 3 _ 0 [(0, .ref 2), (1, .int (nI a1)), (2, .int (nI l1)), (3, .int (nI a2)), (4, .int (nI l2))] [] (0, 0) zsh I J
  refine V_iload_n dX11_fits_0 rfl ?_
  refine V_iload_n dX11_fits_1 rfl ?_
  refine V_callS (As := [.int (nI a1), .int (nI l1)]) (st := []) dX11_fits_2 kX11_isGuess lX11_265 (by decide) rfl rfl (Nat.le_of_ble_eq_true rfl) ⟨Nat.le_of_ble_eq_true rfl, Nat.le_of_ble_eq_true rfl⟩ (q_y q_isGuess ⟨(inZ_k (by omega)).mpr (by omega), (inZ_k (by omega)).mpr (by omega)⟩) ?_
  rintro _ _ _ _ ⟨rfl, rfl, rfl, rfl⟩
  refine V_if_eq (tgt := 17) dX11_fits_5 rfl (fun h => absurd h (by decide)) (fun _ => ?_)
  refine V_iload_n dX11_fits_8 rfl ?_
  refine V_iload dX11_fits_9 rfl ?_
  refine V_callS (As := [.int (nI a2), .int (nI l2)]) (st := []) dX11_fits_11 kX11_isGuess lX11_265 (by decide) rfl rfl (Nat.le_of_ble_eq_true rfl) ⟨Nat.le_of_ble_eq_true rfl, Nat.le_of_ble_eq_true rfl⟩ (q_y q_isGuess ⟨(inZ_k (by omega)).mpr (by omega), (inZ_k (by omega)).mpr (by omega)⟩) ?_
  rintro _ _ _ _ ⟨rfl, rfl, rfl, rfl⟩
  refine V_if_ne (tgt := 19) dX11_fits_14 rfl (fun _ => ?_) (fun h => absurd h (by decide))
  refine V_aload_n dX11_fits_19 rfl ?_
  refine V_getR (b := 44) dX11_fits_20 fX11_78 ⟨Nat.le_of_ble_eq_true rfl, Nat.le_of_ble_eq_true rfl⟩ rfl rfl rfl ?_
  refine V_iload_n dX11_fits_23 rfl ?_
  refine V_iload_n dX11_fits_24 rfl ?_
  refine V_iload_n dX11_fits_25 rfl ?_
  refine V_iload dX11_fits_26 rfl ?_
  refine V_callV (As := [.int (nI a1), .int (nI l1), .int (nI a2), .int (nI l2)]) (st := []) (a := 44) dX11_fits_28 kX0_better lX11_268 (by decide) rfl rfl (Nat.le_of_ble_eq_true rfl) ⟨Nat.le_of_ble_eq_true rfl, Nat.le_of_ble_eq_true rfl⟩ ⟨Nat.le_of_ble_eq_true rfl, Nat.le_of_ble_eq_true rfl⟩ rfl ⟨rfl, by decide⟩ (c_better hb h1 h2 h3 h4) ?_
  rintro r sh' I' J' ⟨rfl, rfl, ho, rfl⟩
  exact V_iret ⟨Or.inl rfl, dX11_fits_31⟩ ⟨Nat.le_of_ble_eq_true rfl, Nat.le_of_ble_eq_true rfl⟩ ⟨rfl, rfl, ho, rfl⟩

set_option maxRecDepth 100000 in
set_option maxHeartbeats 4000000 in
theorem c_fitsN {G : zG} {I : zI} {J : zJ} {a1 l1 a2 l2 : Int32} (hn : ¬ ((inZ a1 0 10 ∧ inZ l1 0 3) ∧ inZ a2 0 10 ∧ inZ l2 0 3)) : zK G mX11_fits 1 [.ref 2, .int a1, .int l1, .int a2, .int l2] zsh I J (zA0 (.int (-1)) I J) := by
  refine zK_of kX11_fits.2.2.2.2.1 (Nat.le_of_ble_eq_true rfl) ?_
  show V G mX11_fits 1 _ 0 [(0, .ref 2), (1, .int a1), (2, .int l1), (3, .int a2), (4, .int l2)] [] (0, 0) zsh I J
  by_cases hg : inZ a1 0 10 ∧ inZ l1 0 3
  · skip
    refine V_iload_n dX11_fits_0 rfl ?_
    refine V_iload_n dX11_fits_1 rfl ?_
    refine V_callS (As := [.int a1, .int l1]) (st := []) dX11_fits_2 kX11_isGuess lX11_265 (by decide) rfl rfl (Nat.le_of_ble_eq_true rfl) ⟨Nat.le_of_ble_eq_true rfl, Nat.le_of_ble_eq_true rfl⟩ (q_y q_isGuess hg) ?_
    rintro _ _ _ _ ⟨rfl, rfl, rfl, rfl⟩
    refine V_if_eq (tgt := 17) dX11_fits_5 rfl (fun h => absurd h (by decide)) (fun _ => ?_)
    refine V_iload_n dX11_fits_8 rfl ?_
    refine V_iload dX11_fits_9 rfl ?_
    refine V_callS (As := [.int a2, .int l2]) (st := []) dX11_fits_11 kX11_isGuess lX11_265 (by decide) rfl rfl (Nat.le_of_ble_eq_true rfl) ⟨Nat.le_of_ble_eq_true rfl, Nat.le_of_ble_eq_true rfl⟩ (q_n q_isGuess (fun h => hn ⟨hg, h⟩)) ?_
    rintro _ _ _ _ ⟨rfl, rfl, rfl, rfl⟩
    refine V_if_ne (tgt := 19) dX11_fits_14 rfl (fun h => absurd h (by decide)) (fun _ => ?_)
    refine V_iconst (v := (-1)) dX11_fits_17 rfl ?_
    exact V_iret ⟨Or.inl rfl, dX11_fits_18⟩ ⟨Nat.le_of_ble_eq_true rfl, Nat.le_of_ble_eq_true rfl⟩ ⟨rfl, rfl, rfl, rfl⟩
  · skip
    refine V_iload_n dX11_fits_0 rfl ?_
    refine V_iload_n dX11_fits_1 rfl ?_
    refine V_callS (As := [.int a1, .int l1]) (st := []) dX11_fits_2 kX11_isGuess lX11_265 (by decide) rfl rfl (Nat.le_of_ble_eq_true rfl) ⟨Nat.le_of_ble_eq_true rfl, Nat.le_of_ble_eq_true rfl⟩ (q_n q_isGuess hg) ?_
    rintro _ _ _ _ ⟨rfl, rfl, rfl, rfl⟩
    refine V_if_eq (tgt := 17) dX11_fits_5 rfl (fun _ => ?_) (fun h => absurd h (by decide))
    refine V_iconst (v := (-1)) dX11_fits_17 rfl ?_
    exact V_iret ⟨Or.inl rfl, dX11_fits_18⟩ ⟨Nat.le_of_ble_eq_true rfl, Nat.le_of_ble_eq_true rfl⟩ ⟨rfl, rfl, rfl, rfl⟩

/-- where it stops (0), how far it went -/
def rolR (f : Nat → Int32) (way x y p w : Nat) : Int32 := if w = 0 then fen (rolS f way 8 x y (nI p)).1 else nI (rolS f way 8 x y (nI p)).2
set_option maxRecDepth 100000 in
set_option maxHeartbeats 4000000 in
theorem c_roll0 {G : zG} {I : zI} {J : zJ} {x y p w : Nat} (hx : x < 8) (hy : y < 8) (hp : p ≤ 9) (hw : w ≤ 1) : zK G mX11_roll 3 [.ref 2, .int (nI x), .int (nI y), .int (nI 0), .int (nI p), .int (nI w)] zsh I J (zP (fun r I' J' => r = some (.int (rolR (I 42) 0 x y p w)) ∧ (∀ a, a ≠ 41 → I' a = I a) ∧ J = J')) := by
  refine zK_of kX11_roll.2.2.2.2.1 (Nat.le_of_ble_eq_true rfl) ?_
  show V G mX11_roll 3 _ 0 [(0, .ref 2), (1, .int (nI x)), (2, .int (nI y)), (3, .int (nI 0)), (4, .int (nI p)), (5, .int (nI w))] [] (0, 0) zsh I J
  refine V_iload_n dX11_roll_0 rfl ?_
  refine V_iload_n dX11_roll_1 rfl ?_
  refine V_callS (As := [.int (nI x), .int (nI y)]) (st := []) dX11_roll_2 kX11_isSpot lX11_271 (by decide) rfl rfl (Nat.le_of_ble_eq_true rfl) ⟨Nat.le_of_ble_eq_true rfl, Nat.le_of_ble_eq_true rfl⟩ (q_y q_isSpot ⟨(inZ_k (by omega)).mpr (by omega), (inZ_k (by omega)).mpr (by omega)⟩) ?_
  rintro _ _ _ _ ⟨rfl, rfl, rfl, rfl⟩
  refine V_if_eq (tgt := 40) dX11_roll_5 rfl (fun h => absurd h (by decide)) (fun _ => ?_)
  refine V_iload_n dX11_roll_8 rfl ?_
  refine V_if_lt (tgt := 40) dX11_roll_9 rfl (fun h => absurd h (by decide)) (fun _ => ?_)
  refine V_iload_n dX11_roll_12 rfl ?_
  refine V_iconst (v := nI 3) dX11_roll_13 rfl ?_
  refine V_icmp_gt (tgt := 40) dX11_roll_14 rfl (fun h => absurd h (by decide)) (fun _ => ?_)
  refine V_iload dX11_roll_17 rfl ?_
  refine V_if_ltN (tgt := 40) dX11_roll_19 rfl (by omega) ?_
  refine V_iload dX11_roll_22 rfl ?_
  refine V_bipush (v := nI 9) dX11_roll_24 rfl ?_
  refine V_icmp_gtN (tgt := 40) dX11_roll_26 rfl (by omega) (by omega) (fun h => absurd h (by omega)) (fun _ => ?_)
  refine V_iload dX11_roll_29 rfl ?_
  refine V_if_ltN (tgt := 40) dX11_roll_31 rfl (by omega) ?_
  refine V_iload dX11_roll_34 rfl ?_
  refine V_iconst (v := nI 1) dX11_roll_36 rfl ?_
  refine V_icmp_leN (tgt := 42) dX11_roll_37 rfl (by omega) (by omega) (fun _ => ?_) (fun h => absurd h (by omega))
  refine V_aload_n dX11_roll_42 rfl ?_
  refine V_getR (b := 41) dX11_roll_43 fX11_71 ⟨Nat.le_of_ble_eq_true rfl, Nat.le_of_ble_eq_true rfl⟩ rfl rfl rfl ?_
  refine V_iload_n dX11_roll_46 rfl ?_
  refine V_iload_n dX11_roll_47 rfl ?_
  refine V_iload_n dX11_roll_48 rfl ?_
  refine V_iload dX11_roll_49 rfl ?_
  refine V_callV (As := [.int (nI x), .int (nI y), .int (nI 0), .int (nI p)]) (st := []) (a := 41) dX11_roll_51 kX5_push lX11_274 (by decide) rfl rfl (Nat.le_of_ble_eq_true rfl) ⟨Nat.le_of_ble_eq_true rfl, Nat.le_of_ble_eq_true rfl⟩ ⟨Nat.le_of_ble_eq_true rfl, Nat.le_of_ble_eq_true rfl⟩ rfl ⟨rfl, by decide⟩ (c_push0 hx hy) ?_
  rintro r sh' I' J' ⟨rfl, rfl, rfl, rfl⟩
  refine V_iload dX11_roll_54 rfl ?_
  refine V_if_neN (tgt := 69) dX11_roll_56 rfl (by omega) (fun h56 => ?_) (fun h56 => ?_)
  · skip
    refine V_aload_n dX11_roll_69 rfl ?_
    refine V_getR (b := 41) dX11_roll_70 fX11_71 ⟨Nat.le_of_ble_eq_true rfl, Nat.le_of_ble_eq_true rfl⟩ rfl rfl rfl ?_
    refine V_getI dX11_roll_73 fX11_281 ⟨Nat.le_of_ble_eq_true rfl, Nat.le_of_ble_eq_true rfl⟩ rfl rfl ?_
    refine V_eqI (y := nI (rolS (I 42) 0 8 x y (nI p)).2) rfl ?_
    exact V_iret ⟨Or.inl rfl, dX11_roll_76⟩ ⟨Nat.le_of_ble_eq_true rfl, Nat.le_of_ble_eq_true rfl⟩ ⟨rfl, congrArg (fun z => some (Value.int z)) (if_neg h56).symm, fun a ha => (zup_n ha).trans (zup_n ha), rfl⟩
  · skip
    refine V_aload_n dX11_roll_59 rfl ?_
    refine V_getR (b := 41) dX11_roll_60 fX11_71 ⟨Nat.le_of_ble_eq_true rfl, Nat.le_of_ble_eq_true rfl⟩ rfl rfl rfl ?_
    refine V_getI dX11_roll_63 fX11_278 ⟨Nat.le_of_ble_eq_true rfl, Nat.le_of_ble_eq_true rfl⟩ rfl rfl ?_
    refine V_eqI (y := fen (rolS (I 42) 0 8 x y (nI p)).1) rfl ?_
    refine V_goto (tgt := 76) dX11_roll_66 rfl ?_
    exact V_iret ⟨Or.inl rfl, dX11_roll_76⟩ ⟨Nat.le_of_ble_eq_true rfl, Nat.le_of_ble_eq_true rfl⟩ ⟨rfl, congrArg (fun z => some (Value.int z)) (if_pos h56).symm, fun a ha => (zup_n ha).trans (zup_n ha), rfl⟩

set_option maxRecDepth 100000 in
set_option maxHeartbeats 4000000 in
theorem c_roll1 {G : zG} {I : zI} {J : zJ} {x y p w : Nat} (hx : x < 8) (hy : y < 8) (hp : p ≤ 9) (hw : w ≤ 1) : zK G mX11_roll 3 [.ref 2, .int (nI x), .int (nI y), .int (nI 1), .int (nI p), .int (nI w)] zsh I J (zP (fun r I' J' => r = some (.int (rolR (I 42) 1 x y p w)) ∧ (∀ a, a ≠ 41 → I' a = I a) ∧ J = J')) := by
  refine zK_of kX11_roll.2.2.2.2.1 (Nat.le_of_ble_eq_true rfl) ?_
  show V G mX11_roll 3 _ 0 [(0, .ref 2), (1, .int (nI x)), (2, .int (nI y)), (3, .int (nI 1)), (4, .int (nI p)), (5, .int (nI w))] [] (0, 0) zsh I J
  refine V_iload_n dX11_roll_0 rfl ?_
  refine V_iload_n dX11_roll_1 rfl ?_
  refine V_callS (As := [.int (nI x), .int (nI y)]) (st := []) dX11_roll_2 kX11_isSpot lX11_271 (by decide) rfl rfl (Nat.le_of_ble_eq_true rfl) ⟨Nat.le_of_ble_eq_true rfl, Nat.le_of_ble_eq_true rfl⟩ (q_y q_isSpot ⟨(inZ_k (by omega)).mpr (by omega), (inZ_k (by omega)).mpr (by omega)⟩) ?_
  rintro _ _ _ _ ⟨rfl, rfl, rfl, rfl⟩
  refine V_if_eq (tgt := 40) dX11_roll_5 rfl (fun h => absurd h (by decide)) (fun _ => ?_)
  refine V_iload_n dX11_roll_8 rfl ?_
  refine V_if_lt (tgt := 40) dX11_roll_9 rfl (fun h => absurd h (by decide)) (fun _ => ?_)
  refine V_iload_n dX11_roll_12 rfl ?_
  refine V_iconst (v := nI 3) dX11_roll_13 rfl ?_
  refine V_icmp_gt (tgt := 40) dX11_roll_14 rfl (fun h => absurd h (by decide)) (fun _ => ?_)
  refine V_iload dX11_roll_17 rfl ?_
  refine V_if_ltN (tgt := 40) dX11_roll_19 rfl (by omega) ?_
  refine V_iload dX11_roll_22 rfl ?_
  refine V_bipush (v := nI 9) dX11_roll_24 rfl ?_
  refine V_icmp_gtN (tgt := 40) dX11_roll_26 rfl (by omega) (by omega) (fun h => absurd h (by omega)) (fun _ => ?_)
  refine V_iload dX11_roll_29 rfl ?_
  refine V_if_ltN (tgt := 40) dX11_roll_31 rfl (by omega) ?_
  refine V_iload dX11_roll_34 rfl ?_
  refine V_iconst (v := nI 1) dX11_roll_36 rfl ?_
  refine V_icmp_leN (tgt := 42) dX11_roll_37 rfl (by omega) (by omega) (fun _ => ?_) (fun h => absurd h (by omega))
  refine V_aload_n dX11_roll_42 rfl ?_
  refine V_getR (b := 41) dX11_roll_43 fX11_71 ⟨Nat.le_of_ble_eq_true rfl, Nat.le_of_ble_eq_true rfl⟩ rfl rfl rfl ?_
  refine V_iload_n dX11_roll_46 rfl ?_
  refine V_iload_n dX11_roll_47 rfl ?_
  refine V_iload_n dX11_roll_48 rfl ?_
  refine V_iload dX11_roll_49 rfl ?_
  refine V_callV (As := [.int (nI x), .int (nI y), .int (nI 1), .int (nI p)]) (st := []) (a := 41) dX11_roll_51 kX5_push lX11_274 (by decide) rfl rfl (Nat.le_of_ble_eq_true rfl) ⟨Nat.le_of_ble_eq_true rfl, Nat.le_of_ble_eq_true rfl⟩ ⟨Nat.le_of_ble_eq_true rfl, Nat.le_of_ble_eq_true rfl⟩ rfl ⟨rfl, by decide⟩ (c_push1 hx hy) ?_
  rintro r sh' I' J' ⟨rfl, rfl, rfl, rfl⟩
  refine V_iload dX11_roll_54 rfl ?_
  refine V_if_neN (tgt := 69) dX11_roll_56 rfl (by omega) (fun h56 => ?_) (fun h56 => ?_)
  · skip
    refine V_aload_n dX11_roll_69 rfl ?_
    refine V_getR (b := 41) dX11_roll_70 fX11_71 ⟨Nat.le_of_ble_eq_true rfl, Nat.le_of_ble_eq_true rfl⟩ rfl rfl rfl ?_
    refine V_getI dX11_roll_73 fX11_281 ⟨Nat.le_of_ble_eq_true rfl, Nat.le_of_ble_eq_true rfl⟩ rfl rfl ?_
    refine V_eqI (y := nI (rolS (I 42) 1 8 x y (nI p)).2) rfl ?_
    exact V_iret ⟨Or.inl rfl, dX11_roll_76⟩ ⟨Nat.le_of_ble_eq_true rfl, Nat.le_of_ble_eq_true rfl⟩ ⟨rfl, congrArg (fun z => some (Value.int z)) (if_neg h56).symm, fun a ha => (zup_n ha).trans (zup_n ha), rfl⟩
  · skip
    refine V_aload_n dX11_roll_59 rfl ?_
    refine V_getR (b := 41) dX11_roll_60 fX11_71 ⟨Nat.le_of_ble_eq_true rfl, Nat.le_of_ble_eq_true rfl⟩ rfl rfl rfl ?_
    refine V_getI dX11_roll_63 fX11_278 ⟨Nat.le_of_ble_eq_true rfl, Nat.le_of_ble_eq_true rfl⟩ rfl rfl ?_
    refine V_eqI (y := fen (rolS (I 42) 1 8 x y (nI p)).1) rfl ?_
    refine V_goto (tgt := 76) dX11_roll_66 rfl ?_
    exact V_iret ⟨Or.inl rfl, dX11_roll_76⟩ ⟨Nat.le_of_ble_eq_true rfl, Nat.le_of_ble_eq_true rfl⟩ ⟨rfl, congrArg (fun z => some (Value.int z)) (if_pos h56).symm, fun a ha => (zup_n ha).trans (zup_n ha), rfl⟩

set_option maxRecDepth 100000 in
set_option maxHeartbeats 4000000 in
theorem c_roll2 {G : zG} {I : zI} {J : zJ} {x y p w : Nat} (hx : x < 8) (hy : y < 8) (hp : p ≤ 9) (hw : w ≤ 1) : zK G mX11_roll 3 [.ref 2, .int (nI x), .int (nI y), .int (nI 2), .int (nI p), .int (nI w)] zsh I J (zP (fun r I' J' => r = some (.int (rolR (I 42) 2 x y p w)) ∧ (∀ a, a ≠ 41 → I' a = I a) ∧ J = J')) := by
  refine zK_of kX11_roll.2.2.2.2.1 (Nat.le_of_ble_eq_true rfl) ?_
  show V G mX11_roll 3 _ 0 [(0, .ref 2), (1, .int (nI x)), (2, .int (nI y)), (3, .int (nI 2)), (4, .int (nI p)), (5, .int (nI w))] [] (0, 0) zsh I J
  refine V_iload_n dX11_roll_0 rfl ?_
  refine V_iload_n dX11_roll_1 rfl ?_
  refine V_callS (As := [.int (nI x), .int (nI y)]) (st := []) dX11_roll_2 kX11_isSpot lX11_271 (by decide) rfl rfl (Nat.le_of_ble_eq_true rfl) ⟨Nat.le_of_ble_eq_true rfl, Nat.le_of_ble_eq_true rfl⟩ (q_y q_isSpot ⟨(inZ_k (by omega)).mpr (by omega), (inZ_k (by omega)).mpr (by omega)⟩) ?_
  rintro _ _ _ _ ⟨rfl, rfl, rfl, rfl⟩
  refine V_if_eq (tgt := 40) dX11_roll_5 rfl (fun h => absurd h (by decide)) (fun _ => ?_)
  refine V_iload_n dX11_roll_8 rfl ?_
  refine V_if_lt (tgt := 40) dX11_roll_9 rfl (fun h => absurd h (by decide)) (fun _ => ?_)
  refine V_iload_n dX11_roll_12 rfl ?_
  refine V_iconst (v := nI 3) dX11_roll_13 rfl ?_
  refine V_icmp_gt (tgt := 40) dX11_roll_14 rfl (fun h => absurd h (by decide)) (fun _ => ?_)
  refine V_iload dX11_roll_17 rfl ?_
  refine V_if_ltN (tgt := 40) dX11_roll_19 rfl (by omega) ?_
  refine V_iload dX11_roll_22 rfl ?_
  refine V_bipush (v := nI 9) dX11_roll_24 rfl ?_
  refine V_icmp_gtN (tgt := 40) dX11_roll_26 rfl (by omega) (by omega) (fun h => absurd h (by omega)) (fun _ => ?_)
  refine V_iload dX11_roll_29 rfl ?_
  refine V_if_ltN (tgt := 40) dX11_roll_31 rfl (by omega) ?_
  refine V_iload dX11_roll_34 rfl ?_
  refine V_iconst (v := nI 1) dX11_roll_36 rfl ?_
  refine V_icmp_leN (tgt := 42) dX11_roll_37 rfl (by omega) (by omega) (fun _ => ?_) (fun h => absurd h (by omega))
  refine V_aload_n dX11_roll_42 rfl ?_
  refine V_getR (b := 41) dX11_roll_43 fX11_71 ⟨Nat.le_of_ble_eq_true rfl, Nat.le_of_ble_eq_true rfl⟩ rfl rfl rfl ?_
  refine V_iload_n dX11_roll_46 rfl ?_
  refine V_iload_n dX11_roll_47 rfl ?_
  refine V_iload_n dX11_roll_48 rfl ?_
  refine V_iload dX11_roll_49 rfl ?_
  refine V_callV (As := [.int (nI x), .int (nI y), .int (nI 2), .int (nI p)]) (st := []) (a := 41) dX11_roll_51 kX5_push lX11_274 (by decide) rfl rfl (Nat.le_of_ble_eq_true rfl) ⟨Nat.le_of_ble_eq_true rfl, Nat.le_of_ble_eq_true rfl⟩ ⟨Nat.le_of_ble_eq_true rfl, Nat.le_of_ble_eq_true rfl⟩ rfl ⟨rfl, by decide⟩ (c_push2 hx hy) ?_
  rintro r sh' I' J' ⟨rfl, rfl, rfl, rfl⟩
  refine V_iload dX11_roll_54 rfl ?_
  refine V_if_neN (tgt := 69) dX11_roll_56 rfl (by omega) (fun h56 => ?_) (fun h56 => ?_)
  · skip
    refine V_aload_n dX11_roll_69 rfl ?_
    refine V_getR (b := 41) dX11_roll_70 fX11_71 ⟨Nat.le_of_ble_eq_true rfl, Nat.le_of_ble_eq_true rfl⟩ rfl rfl rfl ?_
    refine V_getI dX11_roll_73 fX11_281 ⟨Nat.le_of_ble_eq_true rfl, Nat.le_of_ble_eq_true rfl⟩ rfl rfl ?_
    refine V_eqI (y := nI (rolS (I 42) 2 8 x y (nI p)).2) rfl ?_
    exact V_iret ⟨Or.inl rfl, dX11_roll_76⟩ ⟨Nat.le_of_ble_eq_true rfl, Nat.le_of_ble_eq_true rfl⟩ ⟨rfl, congrArg (fun z => some (Value.int z)) (if_neg h56).symm, fun a ha => (zup_n ha).trans (zup_n ha), rfl⟩
  · skip
    refine V_aload_n dX11_roll_59 rfl ?_
    refine V_getR (b := 41) dX11_roll_60 fX11_71 ⟨Nat.le_of_ble_eq_true rfl, Nat.le_of_ble_eq_true rfl⟩ rfl rfl rfl ?_
    refine V_getI dX11_roll_63 fX11_278 ⟨Nat.le_of_ble_eq_true rfl, Nat.le_of_ble_eq_true rfl⟩ rfl rfl ?_
    refine V_eqI (y := fen (rolS (I 42) 2 8 x y (nI p)).1) rfl ?_
    refine V_goto (tgt := 76) dX11_roll_66 rfl ?_
    exact V_iret ⟨Or.inl rfl, dX11_roll_76⟩ ⟨Nat.le_of_ble_eq_true rfl, Nat.le_of_ble_eq_true rfl⟩ ⟨rfl, congrArg (fun z => some (Value.int z)) (if_pos h56).symm, fun a ha => (zup_n ha).trans (zup_n ha), rfl⟩

set_option maxRecDepth 100000 in
set_option maxHeartbeats 4000000 in
theorem c_roll3 {G : zG} {I : zI} {J : zJ} {x y p w : Nat} (hx : x < 8) (hy : y < 8) (hp : p ≤ 9) (hw : w ≤ 1) : zK G mX11_roll 3 [.ref 2, .int (nI x), .int (nI y), .int (nI 3), .int (nI p), .int (nI w)] zsh I J (zP (fun r I' J' => r = some (.int (rolR (I 42) 3 x y p w)) ∧ (∀ a, a ≠ 41 → I' a = I a) ∧ J = J')) := by
  refine zK_of kX11_roll.2.2.2.2.1 (Nat.le_of_ble_eq_true rfl) ?_
  show V G mX11_roll 3 _ 0 [(0, .ref 2), (1, .int (nI x)), (2, .int (nI y)), (3, .int (nI 3)), (4, .int (nI p)), (5, .int (nI w))] [] (0, 0) zsh I J
  refine V_iload_n dX11_roll_0 rfl ?_
  refine V_iload_n dX11_roll_1 rfl ?_
  refine V_callS (As := [.int (nI x), .int (nI y)]) (st := []) dX11_roll_2 kX11_isSpot lX11_271 (by decide) rfl rfl (Nat.le_of_ble_eq_true rfl) ⟨Nat.le_of_ble_eq_true rfl, Nat.le_of_ble_eq_true rfl⟩ (q_y q_isSpot ⟨(inZ_k (by omega)).mpr (by omega), (inZ_k (by omega)).mpr (by omega)⟩) ?_
  rintro _ _ _ _ ⟨rfl, rfl, rfl, rfl⟩
  refine V_if_eq (tgt := 40) dX11_roll_5 rfl (fun h => absurd h (by decide)) (fun _ => ?_)
  refine V_iload_n dX11_roll_8 rfl ?_
  refine V_if_lt (tgt := 40) dX11_roll_9 rfl (fun h => absurd h (by decide)) (fun _ => ?_)
  refine V_iload_n dX11_roll_12 rfl ?_
  refine V_iconst (v := nI 3) dX11_roll_13 rfl ?_
  refine V_icmp_gt (tgt := 40) dX11_roll_14 rfl (fun h => absurd h (by decide)) (fun _ => ?_)
  refine V_iload dX11_roll_17 rfl ?_
  refine V_if_ltN (tgt := 40) dX11_roll_19 rfl (by omega) ?_
  refine V_iload dX11_roll_22 rfl ?_
  refine V_bipush (v := nI 9) dX11_roll_24 rfl ?_
  refine V_icmp_gtN (tgt := 40) dX11_roll_26 rfl (by omega) (by omega) (fun h => absurd h (by omega)) (fun _ => ?_)
  refine V_iload dX11_roll_29 rfl ?_
  refine V_if_ltN (tgt := 40) dX11_roll_31 rfl (by omega) ?_
  refine V_iload dX11_roll_34 rfl ?_
  refine V_iconst (v := nI 1) dX11_roll_36 rfl ?_
  refine V_icmp_leN (tgt := 42) dX11_roll_37 rfl (by omega) (by omega) (fun _ => ?_) (fun h => absurd h (by omega))
  refine V_aload_n dX11_roll_42 rfl ?_
  refine V_getR (b := 41) dX11_roll_43 fX11_71 ⟨Nat.le_of_ble_eq_true rfl, Nat.le_of_ble_eq_true rfl⟩ rfl rfl rfl ?_
  refine V_iload_n dX11_roll_46 rfl ?_
  refine V_iload_n dX11_roll_47 rfl ?_
  refine V_iload_n dX11_roll_48 rfl ?_
  refine V_iload dX11_roll_49 rfl ?_
  refine V_callV (As := [.int (nI x), .int (nI y), .int (nI 3), .int (nI p)]) (st := []) (a := 41) dX11_roll_51 kX5_push lX11_274 (by decide) rfl rfl (Nat.le_of_ble_eq_true rfl) ⟨Nat.le_of_ble_eq_true rfl, Nat.le_of_ble_eq_true rfl⟩ ⟨Nat.le_of_ble_eq_true rfl, Nat.le_of_ble_eq_true rfl⟩ rfl ⟨rfl, by decide⟩ (c_push3 hx hy) ?_
  rintro r sh' I' J' ⟨rfl, rfl, rfl, rfl⟩
  refine V_iload dX11_roll_54 rfl ?_
  refine V_if_neN (tgt := 69) dX11_roll_56 rfl (by omega) (fun h56 => ?_) (fun h56 => ?_)
  · skip
    refine V_aload_n dX11_roll_69 rfl ?_
    refine V_getR (b := 41) dX11_roll_70 fX11_71 ⟨Nat.le_of_ble_eq_true rfl, Nat.le_of_ble_eq_true rfl⟩ rfl rfl rfl ?_
    refine V_getI dX11_roll_73 fX11_281 ⟨Nat.le_of_ble_eq_true rfl, Nat.le_of_ble_eq_true rfl⟩ rfl rfl ?_
    refine V_eqI (y := nI (rolS (I 42) 3 8 x y (nI p)).2) rfl ?_
    exact V_iret ⟨Or.inl rfl, dX11_roll_76⟩ ⟨Nat.le_of_ble_eq_true rfl, Nat.le_of_ble_eq_true rfl⟩ ⟨rfl, congrArg (fun z => some (Value.int z)) (if_neg h56).symm, fun a ha => (zup_n ha).trans (zup_n ha), rfl⟩
  · skip
    refine V_aload_n dX11_roll_59 rfl ?_
    refine V_getR (b := 41) dX11_roll_60 fX11_71 ⟨Nat.le_of_ble_eq_true rfl, Nat.le_of_ble_eq_true rfl⟩ rfl rfl rfl ?_
    refine V_getI dX11_roll_63 fX11_278 ⟨Nat.le_of_ble_eq_true rfl, Nat.le_of_ble_eq_true rfl⟩ rfl rfl ?_
    refine V_eqI (y := fen (rolS (I 42) 3 8 x y (nI p)).1) rfl ?_
    refine V_goto (tgt := 76) dX11_roll_66 rfl ?_
    exact V_iret ⟨Or.inl rfl, dX11_roll_76⟩ ⟨Nat.le_of_ble_eq_true rfl, Nat.le_of_ble_eq_true rfl⟩ ⟨rfl, congrArg (fun z => some (Value.int z)) (if_pos h56).symm, fun a ha => (zup_n ha).trans (zup_n ha), rfl⟩

set_option maxRecDepth 100000 in
set_option maxHeartbeats 4000000 in
theorem c_rollN {G : zG} {I : zI} {J : zJ} {x y g p w : Int32} (hn : ¬ ((inZ x 0 7 ∧ inZ y 0 7) ∧ inZ g 0 3 ∧ inZ p 0 9 ∧ inZ w 0 1)) : zK G mX11_roll 1 [.ref 2, .int x, .int y, .int g, .int p, .int w] zsh I J (zA0 (.int (-1)) I J) := by
  refine zK_of kX11_roll.2.2.2.2.1 (Nat.le_of_ble_eq_true rfl) ?_
  show V G mX11_roll 1 _ 0 [(0, .ref 2), (1, .int x), (2, .int y), (3, .int g), (4, .int p), (5, .int w)] [] (0, 0) zsh I J
  by_cases hs : inZ x 0 7 ∧ inZ y 0 7
  · skip
    refine V_iload_n dX11_roll_0 rfl ?_
    refine V_iload_n dX11_roll_1 rfl ?_
    refine V_callS (As := [.int x, .int y]) (st := []) dX11_roll_2 kX11_isSpot lX11_271 (by decide) rfl rfl (Nat.le_of_ble_eq_true rfl) ⟨Nat.le_of_ble_eq_true rfl, Nat.le_of_ble_eq_true rfl⟩ (q_y q_isSpot hs) ?_
    rintro _ _ _ _ ⟨rfl, rfl, rfl, rfl⟩
    refine V_if_eq (tgt := 40) dX11_roll_5 rfl (fun h => absurd h (by decide)) (fun _ => ?_)
    refine V_iload_n dX11_roll_8 rfl ?_
    refine V_if_ltZ (tgt := 40) (a := g.toInt) dX11_roll_9 rfl rfl (fun h9 => ?_) (fun h9 => ?_)
    · skip
      refine V_iconst (v := (-1)) dX11_roll_40 rfl ?_
      exact V_iret ⟨Or.inl rfl, dX11_roll_41⟩ ⟨Nat.le_of_ble_eq_true rfl, Nat.le_of_ble_eq_true rfl⟩ ⟨rfl, rfl, rfl, rfl⟩
    · skip
      refine V_iload_n dX11_roll_12 rfl ?_
      refine V_iconst (v := nI 3) dX11_roll_13 rfl ?_
      refine V_icmp_gtZ (tgt := 40) (a := g.toInt) (b := 3) dX11_roll_14 rfl rfl (by decide) (fun h14 => ?_) (fun h14 => ?_)
      · skip
        refine V_iconst (v := (-1)) dX11_roll_40 rfl ?_
        exact V_iret ⟨Or.inl rfl, dX11_roll_41⟩ ⟨Nat.le_of_ble_eq_true rfl, Nat.le_of_ble_eq_true rfl⟩ ⟨rfl, rfl, rfl, rfl⟩
      · skip
        refine V_iload dX11_roll_17 rfl ?_
        refine V_if_ltZ (tgt := 40) (a := p.toInt) dX11_roll_19 rfl rfl (fun h19 => ?_) (fun h19 => ?_)
        · skip
          refine V_iconst (v := (-1)) dX11_roll_40 rfl ?_
          exact V_iret ⟨Or.inl rfl, dX11_roll_41⟩ ⟨Nat.le_of_ble_eq_true rfl, Nat.le_of_ble_eq_true rfl⟩ ⟨rfl, rfl, rfl, rfl⟩
        · skip
          refine V_iload dX11_roll_22 rfl ?_
          refine V_bipush (v := nI 9) dX11_roll_24 rfl ?_
          refine V_icmp_gtZ (tgt := 40) (a := p.toInt) (b := 9) dX11_roll_26 rfl rfl (by decide) (fun h26 => ?_) (fun h26 => ?_)
          · skip
            refine V_iconst (v := (-1)) dX11_roll_40 rfl ?_
            exact V_iret ⟨Or.inl rfl, dX11_roll_41⟩ ⟨Nat.le_of_ble_eq_true rfl, Nat.le_of_ble_eq_true rfl⟩ ⟨rfl, rfl, rfl, rfl⟩
          · skip
            refine V_iload dX11_roll_29 rfl ?_
            refine V_if_ltZ (tgt := 40) (a := w.toInt) dX11_roll_31 rfl rfl (fun h31 => ?_) (fun h31 => ?_)
            · skip
              refine V_iconst (v := (-1)) dX11_roll_40 rfl ?_
              exact V_iret ⟨Or.inl rfl, dX11_roll_41⟩ ⟨Nat.le_of_ble_eq_true rfl, Nat.le_of_ble_eq_true rfl⟩ ⟨rfl, rfl, rfl, rfl⟩
            · skip
              refine V_iload dX11_roll_34 rfl ?_
              refine V_iconst (v := nI 1) dX11_roll_36 rfl ?_
              refine V_icmp_leZ (tgt := 42) (a := w.toInt) (b := 1) dX11_roll_37 rfl rfl (by decide) (fun h37 => ?_) (fun h37 => ?_)
              · skip
                exfalso; exact hn ⟨hs, by omega, by omega, by omega⟩
              · skip
                refine V_iconst (v := (-1)) dX11_roll_40 rfl ?_
                exact V_iret ⟨Or.inl rfl, dX11_roll_41⟩ ⟨Nat.le_of_ble_eq_true rfl, Nat.le_of_ble_eq_true rfl⟩ ⟨rfl, rfl, rfl, rfl⟩
  · skip
    refine V_iload_n dX11_roll_0 rfl ?_
    refine V_iload_n dX11_roll_1 rfl ?_
    refine V_callS (As := [.int x, .int y]) (st := []) dX11_roll_2 kX11_isSpot lX11_271 (by decide) rfl rfl (Nat.le_of_ble_eq_true rfl) ⟨Nat.le_of_ble_eq_true rfl, Nat.le_of_ble_eq_true rfl⟩ (q_n q_isSpot hs) ?_
    rintro _ _ _ _ ⟨rfl, rfl, rfl, rfl⟩
    refine V_if_eq (tgt := 40) dX11_roll_5 rfl (fun _ => ?_) (fun h => absurd h (by decide))
    refine V_iconst (v := (-1)) dX11_roll_40 rfl ?_
    exact V_iret ⟨Or.inl rfl, dX11_roll_41⟩ ⟨Nat.le_of_ble_eq_true rfl, Nat.le_of_ble_eq_true rfl⟩ ⟨rfl, rfl, rfl, rfl⟩

/-- where to lay it (0), how hard (1), where it stops then (2) -/
def layR (r : Option (Nat × Nat × Nat × Nat)) (w : Nat) : Int32 := match r with
  | none => -2
  | some b => if w = 0 then nI b.2.1 else if w = 1 then nI b.2.2.1 else nI b.2.2.2
set_option maxRecDepth 100000 in
set_option maxHeartbeats 4000000 in
theorem c_layY {G : zG} {I : zI} {J : zJ} {x y w : Nat} (hx : x < 8) (hy : y < 8) (hw : w ≤ 2) : zK G mX11_lay 4 [.ref 2, .int (nI x), .int (nI y), .int (nI w)] zsh I J (zP (fun r I' J' => r = some (.int (layR (layS (I 42) x y 72) w)) ∧ (∀ a, a ≠ 41 → I' a = I a) ∧ J = J')) := by
  refine zK_of kX11_lay.2.2.2.2.1 (Nat.le_of_ble_eq_true rfl) ?_
  show V G mX11_lay 4 _ 0 [(0, .ref 2), (1, .int (nI x)), (2, .int (nI y)), (3, .int (nI w))] [] (0, 0) zsh I J
  obtain ⟨r, hr⟩ : ∃ r, layS (I 42) x y 72 = r := ⟨_, rfl⟩
  cases r with
  | none =>
    refine V_iload_n dX11_lay_0 rfl ?_
    refine V_iload_n dX11_lay_1 rfl ?_
    refine V_callS (As := [.int (nI x), .int (nI y)]) (st := []) dX11_lay_2 kX11_isSpot lX11_271 (by decide) rfl rfl (Nat.le_of_ble_eq_true rfl) ⟨Nat.le_of_ble_eq_true rfl, Nat.le_of_ble_eq_true rfl⟩ (q_y q_isSpot ⟨(inZ_k (by omega)).mpr (by omega), (inZ_k (by omega)).mpr (by omega)⟩) ?_
    rintro _ _ _ _ ⟨rfl, rfl, rfl, rfl⟩
    refine V_if_eq (tgt := 17) dX11_lay_5 rfl (fun h => absurd h (by decide)) (fun _ => ?_)
    refine V_iload_n dX11_lay_8 rfl ?_
    refine V_if_ltN (tgt := 17) dX11_lay_9 rfl (by omega) ?_
    refine V_iload_n dX11_lay_12 rfl ?_
    refine V_iconst (v := nI 2) dX11_lay_13 rfl ?_
    refine V_icmp_leN (tgt := 19) dX11_lay_14 rfl (by omega) (by omega) (fun _ => ?_) (fun h => absurd h (by omega))
    refine V_aload_n dX11_lay_19 rfl ?_
    refine V_getR (b := 41) dX11_lay_20 fX11_71 ⟨Nat.le_of_ble_eq_true rfl, Nat.le_of_ble_eq_true rfl⟩ rfl rfl rfl ?_
    refine V_iload_n dX11_lay_23 rfl ?_
    refine V_iload_n dX11_lay_24 rfl ?_
    refine V_callV (As := [.int (nI x), .int (nI y)]) (st := []) (a := 41) dX11_lay_25 kX5_layNear lX11_284 (by decide) rfl rfl (Nat.le_of_ble_eq_true rfl) ⟨Nat.le_of_ble_eq_true rfl, Nat.le_of_ble_eq_true rfl⟩ ⟨Nat.le_of_ble_eq_true rfl, Nat.le_of_ble_eq_true rfl⟩ rfl ⟨rfl, by decide⟩ (c_layNear hx hy) ?_
    rintro r sh' I' J' ⟨rfl, rfl, hL, rfl⟩
    refine V_eqI (y := nI 0) (by rw [hr]; rfl) ?_
    refine V_if_ne (tgt := 34) dX11_lay_28 rfl (fun h => absurd h (by decide)) (fun _ => ?_)
    refine V_bipush (v := (-2)) dX11_lay_31 rfl ?_
    exact V_iret ⟨Or.inl rfl, dX11_lay_33⟩ ⟨Nat.le_of_ble_eq_true rfl, Nat.le_of_ble_eq_true rfl⟩ ⟨rfl, by rw [hr]; rfl, hL.1, rfl⟩
  | some b =>
    refine V_iload_n dX11_lay_0 rfl ?_
    refine V_iload_n dX11_lay_1 rfl ?_
    refine V_callS (As := [.int (nI x), .int (nI y)]) (st := []) dX11_lay_2 kX11_isSpot lX11_271 (by decide) rfl rfl (Nat.le_of_ble_eq_true rfl) ⟨Nat.le_of_ble_eq_true rfl, Nat.le_of_ble_eq_true rfl⟩ (q_y q_isSpot ⟨(inZ_k (by omega)).mpr (by omega), (inZ_k (by omega)).mpr (by omega)⟩) ?_
    rintro _ _ _ _ ⟨rfl, rfl, rfl, rfl⟩
    refine V_if_eq (tgt := 17) dX11_lay_5 rfl (fun h => absurd h (by decide)) (fun _ => ?_)
    refine V_iload_n dX11_lay_8 rfl ?_
    refine V_if_ltN (tgt := 17) dX11_lay_9 rfl (by omega) ?_
    refine V_iload_n dX11_lay_12 rfl ?_
    refine V_iconst (v := nI 2) dX11_lay_13 rfl ?_
    refine V_icmp_leN (tgt := 19) dX11_lay_14 rfl (by omega) (by omega) (fun _ => ?_) (fun h => absurd h (by omega))
    refine V_aload_n dX11_lay_19 rfl ?_
    refine V_getR (b := 41) dX11_lay_20 fX11_71 ⟨Nat.le_of_ble_eq_true rfl, Nat.le_of_ble_eq_true rfl⟩ rfl rfl rfl ?_
    refine V_iload_n dX11_lay_23 rfl ?_
    refine V_iload_n dX11_lay_24 rfl ?_
    refine V_callV (As := [.int (nI x), .int (nI y)]) (st := []) (a := 41) dX11_lay_25 kX5_layNear lX11_284 (by decide) rfl rfl (Nat.le_of_ble_eq_true rfl) ⟨Nat.le_of_ble_eq_true rfl, Nat.le_of_ble_eq_true rfl⟩ ⟨Nat.le_of_ble_eq_true rfl, Nat.le_of_ble_eq_true rfl⟩ rfl ⟨rfl, by decide⟩ (c_layNear hx hy) ?_
    rintro r sh' I' J' ⟨rfl, rfl, hL, rfl⟩
    refine V_eqI (y := nI 1) (by rw [hr]; rfl) ?_
    refine V_if_ne (tgt := 34) dX11_lay_28 rfl (fun _ => ?_) (fun h => absurd h (by decide))
    refine V_iload_n dX11_lay_34 rfl ?_
    refine V_iconst (v := nI 2) dX11_lay_35 rfl ?_
    refine V_icmp_neN (tgt := 47) dX11_lay_36 rfl (by omega) (by omega) (fun h36 => ?_) (fun h36 => ?_)
    · skip
      refine V_iload_n dX11_lay_47 rfl ?_
      refine V_if_neN (tgt := 61) dX11_lay_48 rfl (by omega) (fun h48 => ?_) (fun h48 => ?_)
      · skip
        refine V_aload_n dX11_lay_61 rfl ?_
        refine V_getR (b := 41) dX11_lay_62 fX11_71 ⟨Nat.le_of_ble_eq_true rfl, Nat.le_of_ble_eq_true rfl⟩ rfl rfl rfl ?_
        refine V_getI dX11_lay_65 fX11_293 ⟨Nat.le_of_ble_eq_true rfl, Nat.le_of_ble_eq_true rfl⟩ rfl rfl ?_
        refine V_eqI (y := nI b.2.2.1) ((hL.2 b hr).2.1) ?_
        exact V_iret ⟨Or.inl rfl, dX11_lay_68⟩ ⟨Nat.le_of_ble_eq_true rfl, Nat.le_of_ble_eq_true rfl⟩ ⟨rfl, by rw [hr]; exact congrArg (fun z => some (Value.int z)) ((if_neg h48).trans (if_pos (by omega))).symm, hL.1, rfl⟩
      · skip
        refine V_aload_n dX11_lay_51 rfl ?_
        refine V_getR (b := 41) dX11_lay_52 fX11_71 ⟨Nat.le_of_ble_eq_true rfl, Nat.le_of_ble_eq_true rfl⟩ rfl rfl rfl ?_
        refine V_getI dX11_lay_55 fX11_290 ⟨Nat.le_of_ble_eq_true rfl, Nat.le_of_ble_eq_true rfl⟩ rfl rfl ?_
        refine V_eqI (y := nI b.2.1) ((hL.2 b hr).1) ?_
        refine V_goto (tgt := 68) dX11_lay_58 rfl ?_
        exact V_iret ⟨Or.inl rfl, dX11_lay_68⟩ ⟨Nat.le_of_ble_eq_true rfl, Nat.le_of_ble_eq_true rfl⟩ ⟨rfl, by rw [hr]; exact congrArg (fun z => some (Value.int z)) (if_pos h48).symm, hL.1, rfl⟩
    · skip
      refine V_aload_n dX11_lay_39 rfl ?_
      refine V_getR (b := 41) dX11_lay_40 fX11_71 ⟨Nat.le_of_ble_eq_true rfl, Nat.le_of_ble_eq_true rfl⟩ rfl rfl rfl ?_
      refine V_getI dX11_lay_43 fX11_287 ⟨Nat.le_of_ble_eq_true rfl, Nat.le_of_ble_eq_true rfl⟩ rfl rfl ?_
      refine V_eqI (y := nI b.2.2.2) ((hL.2 b hr).2.2) ?_
      exact V_iret ⟨Or.inl rfl, dX11_lay_46⟩ ⟨Nat.le_of_ble_eq_true rfl, Nat.le_of_ble_eq_true rfl⟩ ⟨rfl, by rw [hr]; exact congrArg (fun z => some (Value.int z)) ((if_neg (by omega)).trans (if_neg (by omega))).symm, hL.1, rfl⟩

set_option maxRecDepth 100000 in
set_option maxHeartbeats 4000000 in
theorem c_layN {G : zG} {I : zI} {J : zJ} {x y w : Int32} (hn : ¬ ((inZ x 0 7 ∧ inZ y 0 7) ∧ inZ w 0 2)) : zK G mX11_lay 1 [.ref 2, .int x, .int y, .int w] zsh I J (zA0 (.int (-1)) I J) := by
  refine zK_of kX11_lay.2.2.2.2.1 (Nat.le_of_ble_eq_true rfl) ?_
  show V G mX11_lay 1 _ 0 [(0, .ref 2), (1, .int x), (2, .int y), (3, .int w)] [] (0, 0) zsh I J
  by_cases hs : inZ x 0 7 ∧ inZ y 0 7
  · skip
    refine V_iload_n dX11_lay_0 rfl ?_
    refine V_iload_n dX11_lay_1 rfl ?_
    refine V_callS (As := [.int x, .int y]) (st := []) dX11_lay_2 kX11_isSpot lX11_271 (by decide) rfl rfl (Nat.le_of_ble_eq_true rfl) ⟨Nat.le_of_ble_eq_true rfl, Nat.le_of_ble_eq_true rfl⟩ (q_y q_isSpot hs) ?_
    rintro _ _ _ _ ⟨rfl, rfl, rfl, rfl⟩
    refine V_if_eq (tgt := 17) dX11_lay_5 rfl (fun h => absurd h (by decide)) (fun _ => ?_)
    refine V_iload_n dX11_lay_8 rfl ?_
    refine V_if_ltZ (tgt := 17) (a := w.toInt) dX11_lay_9 rfl rfl (fun h9 => ?_) (fun h9 => ?_)
    · skip
      refine V_iconst (v := (-1)) dX11_lay_17 rfl ?_
      exact V_iret ⟨Or.inl rfl, dX11_lay_18⟩ ⟨Nat.le_of_ble_eq_true rfl, Nat.le_of_ble_eq_true rfl⟩ ⟨rfl, rfl, rfl, rfl⟩
    · skip
      refine V_iload_n dX11_lay_12 rfl ?_
      refine V_iconst (v := nI 2) dX11_lay_13 rfl ?_
      refine V_icmp_leZ (tgt := 19) (a := w.toInt) (b := 2) dX11_lay_14 rfl rfl (by decide) (fun h14 => ?_) (fun h14 => ?_)
      · skip
        exfalso; exact hn ⟨hs, by omega⟩
      · skip
        refine V_iconst (v := (-1)) dX11_lay_17 rfl ?_
        exact V_iret ⟨Or.inl rfl, dX11_lay_18⟩ ⟨Nat.le_of_ble_eq_true rfl, Nat.le_of_ble_eq_true rfl⟩ ⟨rfl, rfl, rfl, rfl⟩
  · skip
    refine V_iload_n dX11_lay_0 rfl ?_
    refine V_iload_n dX11_lay_1 rfl ?_
    refine V_callS (As := [.int x, .int y]) (st := []) dX11_lay_2 kX11_isSpot lX11_271 (by decide) rfl rfl (Nat.le_of_ble_eq_true rfl) ⟨Nat.le_of_ble_eq_true rfl, Nat.le_of_ble_eq_true rfl⟩ (q_n q_isSpot hs) ?_
    rintro _ _ _ _ ⟨rfl, rfl, rfl, rfl⟩
    refine V_if_eq (tgt := 17) dX11_lay_5 rfl (fun _ => ?_) (fun h => absurd h (by decide))
    refine V_iconst (v := (-1)) dX11_lay_17 rfl ?_
    exact V_iret ⟨Or.inl rfl, dX11_lay_18⟩ ⟨Nat.le_of_ble_eq_true rfl, Nat.le_of_ble_eq_true rfl⟩ ⟨rfl, rfl, rfl, rfl⟩

set_option maxRecDepth 100000 in
set_option maxHeartbeats 4000000 in
theorem c_ballY {G : zG} {I : zI} {J : zJ} {m : Nat} {sd xs ys : Nat → Nat} {px py : Nat} (hF : fdX I m sd xs ys px py) {s x y : Nat} (hs : s ≤ 1) (hx : x ≤ 99) (hy : y ≤ 99) (h12 : m < 12) : zK G mX11_ball 1 [.ref 2, .int (nI s), .int (nI x), .int (nI y)] zsh I J (zA1 (.int (nI m)) (fun I' J' => I' = fadd I m s x y ∧ J = J')) := by
  refine zK_of kX11_ball.2.2.2.2.1 (Nat.le_of_ble_eq_true rfl) ?_
  show V G mX11_ball 1 _ 0 [(0, .ref 2), (1, .int (nI s)), (2, .int (nI x)), (3, .int (nI y))] [] (0, 0) zsh I J
  refine V_iload_n dX11_ball_0 rfl ?_
  refine V_callS (As := [.int (nI s)]) (st := []) dX11_ball_1 kX11_isSide lX11_198 (by decide) rfl rfl (Nat.le_of_ble_eq_true rfl) ⟨Nat.le_of_ble_eq_true rfl, Nat.le_of_ble_eq_true rfl⟩ (q_y q_isSide ((inZ_k (by omega)).mpr (by omega))) ?_
  rintro _ _ _ _ ⟨rfl, rfl, rfl, rfl⟩
  refine V_if_eq (tgt := 38) dX11_ball_4 rfl (fun h => absurd h (by decide)) (fun _ => ?_)
  refine V_iload_n dX11_ball_7 rfl ?_
  refine V_iload_n dX11_ball_8 rfl ?_
  refine V_callS (As := [.int (nI x), .int (nI y)]) (st := []) dX11_ball_9 kX11_isPlace lX11_296 (by decide) rfl rfl (Nat.le_of_ble_eq_true rfl) ⟨Nat.le_of_ble_eq_true rfl, Nat.le_of_ble_eq_true rfl⟩ (q_y q_isPlace ⟨(inZ_k (by omega)).mpr (by omega), (inZ_k (by omega)).mpr (by omega)⟩) ?_
  rintro _ _ _ _ ⟨rfl, rfl, rfl, rfl⟩
  refine V_if_eq (tgt := 38) dX11_ball_12 rfl (fun h => absurd h (by decide)) (fun _ => ?_)
  refine V_aload_n dX11_ball_15 rfl ?_
  refine V_getR (b := 49) dX11_ball_16 fX11_85 ⟨Nat.le_of_ble_eq_true rfl, Nat.le_of_ble_eq_true rfl⟩ rfl rfl rfl ?_
  refine V_callV (As := []) (st := []) (a := 49) dX11_ball_19 kX4_hasRoom lX11_299 (by decide) rfl rfl (Nat.le_of_ble_eq_true rfl) ⟨Nat.le_of_ble_eq_true rfl, Nat.le_of_ble_eq_true rfl⟩ ⟨Nat.le_of_ble_eq_true rfl, Nat.le_of_ble_eq_true rfl⟩ rfl ⟨rfl, by decide⟩ (c_hasRoom4 hF) ?_
  rintro _ _ _ _ ⟨rfl, rfl, rfl, rfl⟩
  refine V_eqI (y := nI 1) (if_pos h12) ?_
  refine V_if_eq (tgt := 38) dX11_ball_22 rfl (fun h => absurd h (by decide)) (fun _ => ?_)
  refine V_aload_n dX11_ball_25 rfl ?_
  refine V_getR (b := 49) dX11_ball_26 fX11_85 ⟨Nat.le_of_ble_eq_true rfl, Nat.le_of_ble_eq_true rfl⟩ rfl rfl rfl ?_
  refine V_iload_n dX11_ball_29 rfl ?_
  refine V_iload_n dX11_ball_30 rfl ?_
  refine V_iload_n dX11_ball_31 rfl ?_
  refine V_callV (As := [.int (nI s), .int (nI x), .int (nI y)]) (st := []) (a := 49) dX11_ball_32 kX4_add lX11_300 (by decide) rfl rfl (Nat.le_of_ble_eq_true rfl) ⟨Nat.le_of_ble_eq_true rfl, Nat.le_of_ble_eq_true rfl⟩ ⟨Nat.le_of_ble_eq_true rfl, Nat.le_of_ble_eq_true rfl⟩ rfl ⟨rfl, by decide⟩ (c_add4 hF h12) ?_
  rintro r sh' I' J' ⟨rfl, rfl, rfl, rfl⟩
  refine V_goto (tgt := 39) dX11_ball_35 rfl ?_
  exact V_iret ⟨Or.inl rfl, dX11_ball_39⟩ ⟨Nat.le_of_ble_eq_true rfl, Nat.le_of_ble_eq_true rfl⟩ ⟨rfl, rfl, rfl, rfl⟩

set_option maxRecDepth 100000 in
set_option maxHeartbeats 4000000 in
theorem c_ballN {G : zG} {I : zI} {J : zJ} {m : Nat} {sd xs ys : Nat → Nat} {px py : Nat} (hF : fdX I m sd xs ys px py) {s x y : Int32} (hn : ¬ (inZ s 0 1 ∧ (inZ x 0 99 ∧ inZ y 0 99) ∧ m < 12)) : zK G mX11_ball 1 [.ref 2, .int s, .int x, .int y] zsh I J (zA0 (.int (-1)) I J) := by
  refine zK_of kX11_ball.2.2.2.2.1 (Nat.le_of_ble_eq_true rfl) ?_
  show V G mX11_ball 1 _ 0 [(0, .ref 2), (1, .int s), (2, .int x), (3, .int y)] [] (0, 0) zsh I J
  by_cases hs : inZ s 0 1
  · by_cases hp : inZ x 0 99 ∧ inZ y 0 99
    · have h12 : ¬ m < 12 := fun h => hn ⟨hs, hp, h⟩
      refine V_iload_n dX11_ball_0 rfl ?_
      refine V_callS (As := [.int s]) (st := []) dX11_ball_1 kX11_isSide lX11_198 (by decide) rfl rfl (Nat.le_of_ble_eq_true rfl) ⟨Nat.le_of_ble_eq_true rfl, Nat.le_of_ble_eq_true rfl⟩ (q_y q_isSide hs) ?_
      rintro _ _ _ _ ⟨rfl, rfl, rfl, rfl⟩
      refine V_if_eq (tgt := 38) dX11_ball_4 rfl (fun h => absurd h (by decide)) (fun _ => ?_)
      refine V_iload_n dX11_ball_7 rfl ?_
      refine V_iload_n dX11_ball_8 rfl ?_
      refine V_callS (As := [.int x, .int y]) (st := []) dX11_ball_9 kX11_isPlace lX11_296 (by decide) rfl rfl (Nat.le_of_ble_eq_true rfl) ⟨Nat.le_of_ble_eq_true rfl, Nat.le_of_ble_eq_true rfl⟩ (q_y q_isPlace hp) ?_
      rintro _ _ _ _ ⟨rfl, rfl, rfl, rfl⟩
      refine V_if_eq (tgt := 38) dX11_ball_12 rfl (fun h => absurd h (by decide)) (fun _ => ?_)
      refine V_aload_n dX11_ball_15 rfl ?_
      refine V_getR (b := 49) dX11_ball_16 fX11_85 ⟨Nat.le_of_ble_eq_true rfl, Nat.le_of_ble_eq_true rfl⟩ rfl rfl rfl ?_
      refine V_callV (As := []) (st := []) (a := 49) dX11_ball_19 kX4_hasRoom lX11_299 (by decide) rfl rfl (Nat.le_of_ble_eq_true rfl) ⟨Nat.le_of_ble_eq_true rfl, Nat.le_of_ble_eq_true rfl⟩ ⟨Nat.le_of_ble_eq_true rfl, Nat.le_of_ble_eq_true rfl⟩ rfl ⟨rfl, by decide⟩ (c_hasRoom4 hF) ?_
      rintro _ _ _ _ ⟨rfl, rfl, rfl, rfl⟩
      refine V_eqI (y := nI 0) (if_neg h12) ?_
      refine V_if_eq (tgt := 38) dX11_ball_22 rfl (fun _ => ?_) (fun h => absurd h (by decide))
      refine V_iconst (v := (-1)) dX11_ball_38 rfl ?_
      exact V_iret ⟨Or.inl rfl, dX11_ball_39⟩ ⟨Nat.le_of_ble_eq_true rfl, Nat.le_of_ble_eq_true rfl⟩ ⟨rfl, rfl, rfl, rfl⟩
    · skip
      refine V_iload_n dX11_ball_0 rfl ?_
      refine V_callS (As := [.int s]) (st := []) dX11_ball_1 kX11_isSide lX11_198 (by decide) rfl rfl (Nat.le_of_ble_eq_true rfl) ⟨Nat.le_of_ble_eq_true rfl, Nat.le_of_ble_eq_true rfl⟩ (q_y q_isSide hs) ?_
      rintro _ _ _ _ ⟨rfl, rfl, rfl, rfl⟩
      refine V_if_eq (tgt := 38) dX11_ball_4 rfl (fun h => absurd h (by decide)) (fun _ => ?_)
      refine V_iload_n dX11_ball_7 rfl ?_
      refine V_iload_n dX11_ball_8 rfl ?_
      refine V_callS (As := [.int x, .int y]) (st := []) dX11_ball_9 kX11_isPlace lX11_296 (by decide) rfl rfl (Nat.le_of_ble_eq_true rfl) ⟨Nat.le_of_ble_eq_true rfl, Nat.le_of_ble_eq_true rfl⟩ (q_n q_isPlace hp) ?_
      rintro _ _ _ _ ⟨rfl, rfl, rfl, rfl⟩
      refine V_if_eq (tgt := 38) dX11_ball_12 rfl (fun _ => ?_) (fun h => absurd h (by decide))
      refine V_iconst (v := (-1)) dX11_ball_38 rfl ?_
      exact V_iret ⟨Or.inl rfl, dX11_ball_39⟩ ⟨Nat.le_of_ble_eq_true rfl, Nat.le_of_ble_eq_true rfl⟩ ⟨rfl, rfl, rfl, rfl⟩
  · skip
    refine V_iload_n dX11_ball_0 rfl ?_
    refine V_callS (As := [.int s]) (st := []) dX11_ball_1 kX11_isSide lX11_198 (by decide) rfl rfl (Nat.le_of_ble_eq_true rfl) ⟨Nat.le_of_ble_eq_true rfl, Nat.le_of_ble_eq_true rfl⟩ (q_n q_isSide hs) ?_
    rintro _ _ _ _ ⟨rfl, rfl, rfl, rfl⟩
    refine V_if_eq (tgt := 38) dX11_ball_4 rfl (fun _ => ?_) (fun h => absurd h (by decide))
    refine V_iconst (v := (-1)) dX11_ball_38 rfl ?_
    exact V_iret ⟨Or.inl rfl, dX11_ball_39⟩ ⟨Nat.le_of_ble_eq_true rfl, Nat.le_of_ble_eq_true rfl⟩ ⟨rfl, rfl, rfl, rfl⟩

set_option maxRecDepth 100000 in
set_option maxHeartbeats 4000000 in
theorem c_pigY {G : zG} {I : zI} {J : zJ} {x y : Nat} (hx : x ≤ 99) (hy : y ≤ 99) : zK G mX11_pig 1 [.ref 2, .int (nI x), .int (nI y)] zsh I J (zA1 (.int (nI 1)) (fun I' J' => I' = zwr (zwr I 49 4 (nI x)) 49 5 (nI y) ∧ J = J')) := by
  refine zK_of kX11_pig.2.2.2.2.1 (Nat.le_of_ble_eq_true rfl) ?_
  show V G mX11_pig 1 _ 0 [(0, .ref 2), (1, .int (nI x)), (2, .int (nI y))] [] (0, 0) zsh I J
  refine V_iload_n dX11_pig_0 rfl ?_
  refine V_iload_n dX11_pig_1 rfl ?_
  refine V_callS (As := [.int (nI x), .int (nI y)]) (st := []) dX11_pig_2 kX11_isPlace lX11_296 (by decide) rfl rfl (Nat.le_of_ble_eq_true rfl) ⟨Nat.le_of_ble_eq_true rfl, Nat.le_of_ble_eq_true rfl⟩ (q_y q_isPlace ⟨(inZ_k (by omega)).mpr (by omega), (inZ_k (by omega)).mpr (by omega)⟩) ?_
  rintro _ _ _ _ ⟨rfl, rfl, rfl, rfl⟩
  refine V_if_ne (tgt := 10) dX11_pig_5 rfl (fun _ => ?_) (fun h => absurd h (by decide))
  refine V_aload_n dX11_pig_10 rfl ?_
  refine V_getR (b := 49) dX11_pig_11 fX11_85 ⟨Nat.le_of_ble_eq_true rfl, Nat.le_of_ble_eq_true rfl⟩ rfl rfl rfl ?_
  refine V_iload_n dX11_pig_14 rfl ?_
  refine V_putW dX11_pig_15 fX11_302 ⟨Nat.le_of_ble_eq_true rfl, Nat.le_of_ble_eq_true rfl⟩ rfl rfl rfl ⟨rfl, rfl⟩ ?_
  refine V_aload_n dX11_pig_18 rfl ?_
  refine V_getR (b := 49) dX11_pig_19 fX11_85 ⟨Nat.le_of_ble_eq_true rfl, Nat.le_of_ble_eq_true rfl⟩ rfl rfl rfl ?_
  refine V_iload_n dX11_pig_22 rfl ?_
  refine V_putW dX11_pig_23 fX11_305 ⟨Nat.le_of_ble_eq_true rfl, Nat.le_of_ble_eq_true rfl⟩ rfl rfl rfl ⟨rfl, rfl⟩ ?_
  refine V_iconst (v := nI 1) dX11_pig_26 rfl ?_
  exact V_iret ⟨Or.inr ⟨rfl, Or.inr rfl⟩, dX11_pig_27⟩ ⟨Nat.le_of_ble_eq_true rfl, Nat.le_of_ble_eq_true rfl⟩ ⟨rfl, rfl, rfl, rfl⟩

set_option maxRecDepth 100000 in
set_option maxHeartbeats 4000000 in
theorem c_pigN {G : zG} {I : zI} {J : zJ} {x y : Int32} (hn : ¬ (inZ x 0 99 ∧ inZ y 0 99)) : zK G mX11_pig 1 [.ref 2, .int x, .int y] zsh I J (zA0 (.int (nI 0)) I J) := by
  refine zK_of kX11_pig.2.2.2.2.1 (Nat.le_of_ble_eq_true rfl) ?_
  show V G mX11_pig 1 _ 0 [(0, .ref 2), (1, .int x), (2, .int y)] [] (0, 0) zsh I J
  refine V_iload_n dX11_pig_0 rfl ?_
  refine V_iload_n dX11_pig_1 rfl ?_
  refine V_callS (As := [.int x, .int y]) (st := []) dX11_pig_2 kX11_isPlace lX11_296 (by decide) rfl rfl (Nat.le_of_ble_eq_true rfl) ⟨Nat.le_of_ble_eq_true rfl, Nat.le_of_ble_eq_true rfl⟩ (q_n q_isPlace hn) ?_
  rintro _ _ _ _ ⟨rfl, rfl, rfl, rfl⟩
  refine V_if_ne (tgt := 10) dX11_pig_5 rfl (fun h => absurd h (by decide)) (fun _ => ?_)
  refine V_iconst (v := nI 0) dX11_pig_8 rfl ?_
  exact V_iret ⟨Or.inr ⟨rfl, Or.inl rfl⟩, dX11_pig_9⟩ ⟨Nat.le_of_ble_eq_true rfl, Nat.le_of_ble_eq_true rfl⟩ ⟨rfl, rfl, rfl, rfl⟩

set_option maxRecDepth 100000 in
set_option maxHeartbeats 4000000 in
theorem c_goneY {G : zG} {I : zI} {J : zJ} {m : Nat} {sd xs ys : Nat → Nat} {px py : Nat} (hF : fdX I m sd xs ys px py) {i : Nat} (hi : i < m) : zK G mX11_gone 2 [.ref 2, .int (nI i)] zsh I J (zA1 (.int (nI 1)) (fun I' J' => I' = zup (frem I i (m - 1)) 49 (upd (I 49) 3 (nI (m - 1))) ∧ J = J')) := by
  refine zK_of kX11_gone.2.2.2.2.1 (Nat.le_of_ble_eq_true rfl) ?_
  show V G mX11_gone 2 _ 0 [(0, .ref 2), (1, .int (nI i))] [] (0, 0) zsh I J
  have hm12 := hF.2.1
  refine V_iload_n dX11_gone_0 rfl ?_
  refine V_if_ltN (tgt := 15) dX11_gone_1 rfl (by omega) ?_
  refine V_iload_n dX11_gone_4 rfl ?_
  refine V_aload_n dX11_gone_5 rfl ?_
  refine V_getR (b := 49) dX11_gone_6 fX11_85 ⟨Nat.le_of_ble_eq_true rfl, Nat.le_of_ble_eq_true rfl⟩ rfl rfl rfl ?_
  refine V_getI dX11_gone_9 fX11_308 ⟨Nat.le_of_ble_eq_true rfl, Nat.le_of_ble_eq_true rfl⟩ rfl rfl ?_
  refine V_eqI (y := nI m) hF.1 ?_
  refine V_icmp_ltN (tgt := 17) dX11_gone_12 rfl (by omega) (by omega) (fun _ => ?_) (fun h => absurd h (by omega))
  refine V_aload_n dX11_gone_17 rfl ?_
  refine V_getR (b := 49) dX11_gone_18 fX11_85 ⟨Nat.le_of_ble_eq_true rfl, Nat.le_of_ble_eq_true rfl⟩ rfl rfl rfl ?_
  refine V_iload_n dX11_gone_21 rfl ?_
  refine V_callV (As := [.int (nI i)]) (st := []) (a := 49) dX11_gone_22 kX4_remove lX11_309 (by decide) rfl rfl (Nat.le_of_ble_eq_true rfl) ⟨Nat.le_of_ble_eq_true rfl, Nat.le_of_ble_eq_true rfl⟩ ⟨Nat.le_of_ble_eq_true rfl, Nat.le_of_ble_eq_true rfl⟩ rfl ⟨rfl, by decide⟩ (c_remove4 hF hi) ?_
  rintro r sh' I' J' ⟨rfl, rfl, rfl, rfl⟩
  refine V_iconst (v := nI 1) dX11_gone_25 rfl ?_
  exact V_iret ⟨Or.inr ⟨rfl, Or.inr rfl⟩, dX11_gone_26⟩ ⟨Nat.le_of_ble_eq_true rfl, Nat.le_of_ble_eq_true rfl⟩ ⟨rfl, rfl, rfl, rfl⟩

set_option maxRecDepth 100000 in
set_option maxHeartbeats 4000000 in
theorem c_goneN {G : zG} {I : zI} {J : zJ} {m : Nat} {sd xs ys : Nat → Nat} {px py : Nat} (hF : fdX I m sd xs ys px py) {i : Int32} (hn : ¬ (0 ≤ i.toInt ∧ i.toInt < m)) : zK G mX11_gone 1 [.ref 2, .int i] zsh I J (zA0 (.int (nI 0)) I J) := by
  refine zK_of kX11_gone.2.2.2.2.1 (Nat.le_of_ble_eq_true rfl) ?_
  show V G mX11_gone 1 _ 0 [(0, .ref 2), (1, .int i)] [] (0, 0) zsh I J
  have hm12 := hF.2.1
  refine V_iload_n dX11_gone_0 rfl ?_
  refine V_if_ltZ (tgt := 15) (a := i.toInt) dX11_gone_1 rfl rfl (fun h1 => ?_) (fun h1 => ?_)
  · skip
    refine V_iconst (v := nI 0) dX11_gone_15 rfl ?_
    exact V_iret ⟨Or.inr ⟨rfl, Or.inl rfl⟩, dX11_gone_16⟩ ⟨Nat.le_of_ble_eq_true rfl, Nat.le_of_ble_eq_true rfl⟩ ⟨rfl, rfl, rfl, rfl⟩
  · skip
    refine V_iload_n dX11_gone_4 rfl ?_
    refine V_aload_n dX11_gone_5 rfl ?_
    refine V_getR (b := 49) dX11_gone_6 fX11_85 ⟨Nat.le_of_ble_eq_true rfl, Nat.le_of_ble_eq_true rfl⟩ rfl rfl rfl ?_
    refine V_getI dX11_gone_9 fX11_308 ⟨Nat.le_of_ble_eq_true rfl, Nat.le_of_ble_eq_true rfl⟩ rfl rfl ?_
    refine V_eqI (y := nI m) hF.1 ?_
    refine V_icmp_ltZ (tgt := 17) (a := i.toInt) (b := ((m : Nat) : Int)) dX11_gone_12 rfl rfl (nI_toInt (by omega)) (fun h12 => ?_) (fun h12 => ?_)
    · skip
      exfalso; omega
    · skip
      refine V_iconst (v := nI 0) dX11_gone_15 rfl ?_
      exact V_iret ⟨Or.inr ⟨rfl, Or.inl rfl⟩, dX11_gone_16⟩ ⟨Nat.le_of_ble_eq_true rfl, Nat.le_of_ble_eq_true rfl⟩ ⟨rfl, rfl, rfl, rfl⟩

def meaS (m : Nat) (sd xs ys : Nat → Nat) (px py : Nat) (x : Int32) : Int32 :=
  if x = nI 0 then fWhose (fnear (fsq xs ys px py) (fsel sd 0 (-1)) m) (fnear (fsq xs ys px py) (fsel sd 1 (-1)) m) else
  if x = nI 1 then fpts (fsq xs ys px py) sd m (-1) else if x = nI 2 then fen (fnb (fsq xs ys px py) m) else
  if x = nI 3 then fns (fsq xs ys px py) (fnb (fsq xs ys px py) m) else -100
set_option maxRecDepth 100000 in
set_option maxHeartbeats 4000000 in
theorem c_measured {G : zG} {I : zI} {J : zJ} {m : Nat} {sd xs ys : Nat → Nat} {px py : Nat} (hF : fdX I m sd xs ys px py) {x : Int32} : zK G mX11_measured 4 [.ref 2, .int x] zsh I J (zA0 (.int (meaS m sd xs ys px py x)) I J) := by
  refine zK_of kX11_measured.2.2.2.2.1 (Nat.le_of_ble_eq_true rfl) ?_
  show V G mX11_measured 4 _ 0 [(0, .ref 2), (1, .int x)] [] (0, 0) zsh I J
  by_cases hx : inZ x 0 3
  · rcases inZ03 hx with e | e | e | e <;> subst e
    · skip
      refine V_iload_n dX11_measured_0 rfl ?_
      refine V_tsIn (off := 31) (tgt := 32) dX11_measured_1 (by decide) (by decide) rfl rfl ?_
      refine V_aload_n dX11_measured_32 rfl ?_
      refine V_getR (b := 49) dX11_measured_33 fX11_85 ⟨Nat.le_of_ble_eq_true rfl, Nat.le_of_ble_eq_true rfl⟩ rfl rfl rfl ?_
      refine V_callV (As := []) (st := []) (a := 49) dX11_measured_36 kX4_whose lX11_312 (by decide) rfl rfl (Nat.le_of_ble_eq_true rfl) ⟨Nat.le_of_ble_eq_true rfl, Nat.le_of_ble_eq_true rfl⟩ ⟨Nat.le_of_ble_eq_true rfl, Nat.le_of_ble_eq_true rfl⟩ rfl ⟨rfl, by decide⟩ (c_whose hF) ?_
      rintro _ _ _ _ ⟨rfl, rfl, rfl, rfl⟩
      exact V_iret ⟨Or.inl rfl, dX11_measured_39⟩ ⟨Nat.le_of_ble_eq_true rfl, Nat.le_of_ble_eq_true rfl⟩ ⟨rfl, congrArg (fun z => some (Value.int z)) (if_pos rfl).symm, rfl, rfl⟩
    · skip
      refine V_iload_n dX11_measured_0 rfl ?_
      refine V_tsIn (off := 39) (tgt := 40) dX11_measured_1 (by decide) (by decide) rfl rfl ?_
      refine V_aload_n dX11_measured_40 rfl ?_
      refine V_getR (b := 49) dX11_measured_41 fX11_85 ⟨Nat.le_of_ble_eq_true rfl, Nat.le_of_ble_eq_true rfl⟩ rfl rfl rfl ?_
      refine V_iconst (v := (-1)) dX11_measured_44 rfl ?_
      refine V_callV (As := [.int (-1)]) (st := []) (a := 49) dX11_measured_45 kX4_pointsWithout lX11_315 (by decide) rfl rfl (Nat.le_of_ble_eq_true rfl) ⟨Nat.le_of_ble_eq_true rfl, Nat.le_of_ble_eq_true rfl⟩ ⟨Nat.le_of_ble_eq_true rfl, Nat.le_of_ble_eq_true rfl⟩ rfl ⟨rfl, by decide⟩ (c_pointsWithout hF) ?_
      rintro _ _ _ _ ⟨rfl, rfl, rfl, rfl⟩
      exact V_iret ⟨Or.inl rfl, dX11_measured_48⟩ ⟨Nat.le_of_ble_eq_true rfl, Nat.le_of_ble_eq_true rfl⟩ ⟨rfl, congrArg (fun z => some (Value.int z)) ((if_neg (by decide)).trans (if_pos rfl)).symm, rfl, rfl⟩
    · skip
      refine V_iload_n dX11_measured_0 rfl ?_
      refine V_tsIn (off := 48) (tgt := 49) dX11_measured_1 (by decide) (by decide) rfl rfl ?_
      refine V_aload_n dX11_measured_49 rfl ?_
      refine V_getR (b := 49) dX11_measured_50 fX11_85 ⟨Nat.le_of_ble_eq_true rfl, Nat.le_of_ble_eq_true rfl⟩ rfl rfl rfl ?_
      refine V_callV (As := []) (st := []) (a := 49) dX11_measured_53 kX4_nearestBall lX11_318 (by decide) rfl rfl (Nat.le_of_ble_eq_true rfl) ⟨Nat.le_of_ble_eq_true rfl, Nat.le_of_ble_eq_true rfl⟩ ⟨Nat.le_of_ble_eq_true rfl, Nat.le_of_ble_eq_true rfl⟩ rfl ⟨rfl, by decide⟩ (c_nearestBall hF) ?_
      rintro _ _ _ _ ⟨rfl, rfl, rfl, rfl⟩
      exact V_iret ⟨Or.inl rfl, dX11_measured_56⟩ ⟨Nat.le_of_ble_eq_true rfl, Nat.le_of_ble_eq_true rfl⟩ ⟨rfl, congrArg (fun z => some (Value.int z)) ((if_neg (by decide)).trans ((if_neg (by decide)).trans (if_pos rfl))).symm, rfl, rfl⟩
    · skip
      refine V_iload_n dX11_measured_0 rfl ?_
      refine V_tsIn (off := 56) (tgt := 57) dX11_measured_1 (by decide) (by decide) rfl rfl ?_
      refine V_aload_n dX11_measured_57 rfl ?_
      refine V_getR (b := 49) dX11_measured_58 fX11_85 ⟨Nat.le_of_ble_eq_true rfl, Nat.le_of_ble_eq_true rfl⟩ rfl rfl rfl ?_
      refine V_callV (As := []) (st := []) (a := 49) dX11_measured_61 kX4_nearestSquare lX11_321 (by decide) rfl rfl (Nat.le_of_ble_eq_true rfl) ⟨Nat.le_of_ble_eq_true rfl, Nat.le_of_ble_eq_true rfl⟩ ⟨Nat.le_of_ble_eq_true rfl, Nat.le_of_ble_eq_true rfl⟩ rfl ⟨rfl, by decide⟩ (c_nearestSquare hF) ?_
      rintro _ _ _ _ ⟨rfl, rfl, rfl, rfl⟩
      exact V_iret ⟨Or.inl rfl, dX11_measured_64⟩ ⟨Nat.le_of_ble_eq_true rfl, Nat.le_of_ble_eq_true rfl⟩ ⟨rfl, congrArg (fun z => some (Value.int z)) ((if_neg (by decide)).trans ((if_neg (by decide)).trans ((if_neg (by decide)).trans (if_pos rfl)))).symm, rfl, rfl⟩
  · skip
    refine V_iload_n dX11_measured_0 rfl ?_
    refine V_tsOut (tgt := 65) dX11_measured_1 (by omega) rfl ?_
    refine V_bipush (v := (-100)) dX11_measured_65 rfl ?_
    exact V_iret ⟨Or.inl rfl, dX11_measured_67⟩ ⟨Nat.le_of_ble_eq_true rfl, Nat.le_of_ble_eq_true rfl⟩ ⟨rfl, congrArg (fun z => some (Value.int z)) ((if_neg (fun e => hx (by subst e; decide))).trans ((if_neg (fun e => hx (by subst e; decide))).trans ((if_neg (fun e => hx (by subst e; decide))).trans (if_neg (fun e => hx (by subst e; decide)))))).symm, rfl, rfl⟩

set_option maxRecDepth 100000 in
set_option maxHeartbeats 4000000 in
theorem c_toShootY {G : zG} {I : zI} {J : zJ} {m : Nat} {sd xs ys : Nat → Nat} {px py : Nat} (hF : fdX I m sd xs ys px py) {s : Nat} (hs : s ≤ 1) : zK G mX11_toShoot 5 [.ref 2, .int (nI s)] zsh I J (zA0 (.int (fen (fbs (fgs (fsq xs ys px py) sd m s) (fun k => decide (sd k = 1 - s)) m).1)) I J) := by
  refine zK_of kX11_toShoot.2.2.2.2.1 (Nat.le_of_ble_eq_true rfl) ?_
  show V G mX11_toShoot 5 _ 0 [(0, .ref 2), (1, .int (nI s))] [] (0, 0) zsh I J
  refine V_iload_n dX11_toShoot_0 rfl ?_
  refine V_callS (As := [.int (nI s)]) (st := []) dX11_toShoot_1 kX11_isSide lX11_198 (by decide) rfl rfl (Nat.le_of_ble_eq_true rfl) ⟨Nat.le_of_ble_eq_true rfl, Nat.le_of_ble_eq_true rfl⟩ (q_y q_isSide ((inZ_k (by omega)).mpr (by omega))) ?_
  rintro _ _ _ _ ⟨rfl, rfl, rfl, rfl⟩
  refine V_if_eq (tgt := 18) dX11_toShoot_4 rfl (fun h => absurd h (by decide)) (fun _ => ?_)
  refine V_aload_n dX11_toShoot_7 rfl ?_
  refine V_getR (b := 49) dX11_toShoot_8 fX11_85 ⟨Nat.le_of_ble_eq_true rfl, Nat.le_of_ble_eq_true rfl⟩ rfl rfl rfl ?_
  refine V_iload_n dX11_toShoot_11 rfl ?_
  refine V_callV (As := [.int (nI s)]) (st := []) (a := 49) dX11_toShoot_12 kX4_ballToShoot lX11_324 (by decide) rfl rfl (Nat.le_of_ble_eq_true rfl) ⟨Nat.le_of_ble_eq_true rfl, Nat.le_of_ble_eq_true rfl⟩ ⟨Nat.le_of_ble_eq_true rfl, Nat.le_of_ble_eq_true rfl⟩ rfl ⟨rfl, by decide⟩ (c_ballToShoot hF hs) ?_
  rintro _ _ _ _ ⟨rfl, rfl, rfl, rfl⟩
  refine V_goto (tgt := 19) dX11_toShoot_15 rfl ?_
  exact V_iret ⟨Or.inl rfl, dX11_toShoot_19⟩ ⟨Nat.le_of_ble_eq_true rfl, Nat.le_of_ble_eq_true rfl⟩ ⟨rfl, rfl, rfl, rfl⟩

set_option maxRecDepth 100000 in
set_option maxHeartbeats 4000000 in
theorem c_toShootN {G : zG} {I : zI} {J : zJ} {s : Int32} (hs : ¬ inZ s 0 1) : zK G mX11_toShoot 1 [.ref 2, .int s] zsh I J (zA0 (.int (-1)) I J) := by
  refine zK_of kX11_toShoot.2.2.2.2.1 (Nat.le_of_ble_eq_true rfl) ?_
  show V G mX11_toShoot 1 _ 0 [(0, .ref 2), (1, .int s)] [] (0, 0) zsh I J
  refine V_iload_n dX11_toShoot_0 rfl ?_
  refine V_callS (As := [.int s]) (st := []) dX11_toShoot_1 kX11_isSide lX11_198 (by decide) rfl rfl (Nat.le_of_ble_eq_true rfl) ⟨Nat.le_of_ble_eq_true rfl, Nat.le_of_ble_eq_true rfl⟩ (q_n q_isSide hs) ?_
  rintro _ _ _ _ ⟨rfl, rfl, rfl, rfl⟩
  refine V_if_eq (tgt := 18) dX11_toShoot_4 rfl (fun _ => ?_) (fun h => absurd h (by decide))
  refine V_iconst (v := (-1)) dX11_toShoot_18 rfl ?_
  exact V_iret ⟨Or.inl rfl, dX11_toShoot_19⟩ ⟨Nat.le_of_ble_eq_true rfl, Nat.le_of_ble_eq_true rfl⟩ ⟨rfl, rfl, rfl, rfl⟩

set_option maxRecDepth 100000 in
set_option maxHeartbeats 4000000 in
theorem c_seedY {G : zG} {I : zI} {J : zJ} {x : Nat} (hx : x ≤ 65535) : zK G mX11_seed 0 [.ref 2, .int (nI x)] zsh I J (zA1 (.int (nI 1)) (fun I' J' => I' = zwr I 2 1 (nI x) ∧ J = J')) := by
  refine zK_of kX11_seed.2.2.2.2.1 (Nat.le_of_ble_eq_true rfl) ?_
  show V G mX11_seed 0 _ 0 [(0, .ref 2), (1, .int (nI x))] [] (0, 0) zsh I J
  refine V_iload_n dX11_seed_0 rfl ?_
  refine V_if_ltN (tgt := 11) dX11_seed_1 rfl (by omega) ?_
  refine V_iload_n dX11_seed_4 rfl ?_
  refine V_ldcw dX11_seed_5 qX11_327 ?_
  refine V_eqI (y := nI 65535) rfl ?_
  refine V_icmp_leN (tgt := 13) dX11_seed_8 rfl (by omega) (by omega) (fun _ => ?_) (fun h => absurd h (by omega))
  refine V_aload_n dX11_seed_13 rfl ?_
  refine V_iload_n dX11_seed_14 rfl ?_
  refine V_putW dX11_seed_15 fX11_13 ⟨Nat.le_of_ble_eq_true rfl, Nat.le_of_ble_eq_true rfl⟩ rfl rfl rfl ⟨rfl, rfl⟩ ?_
  refine V_iconst (v := nI 1) dX11_seed_18 rfl ?_
  exact V_iret ⟨Or.inr ⟨rfl, Or.inr rfl⟩, dX11_seed_19⟩ ⟨Nat.le_of_ble_eq_true rfl, Nat.le_of_ble_eq_true rfl⟩ ⟨rfl, rfl, rfl, rfl⟩

set_option maxRecDepth 100000 in
set_option maxHeartbeats 4000000 in
theorem c_seedN {G : zG} {I : zI} {J : zJ} {x : Int32} (hx : ¬ inZ x 0 65535) : zK G mX11_seed 0 [.ref 2, .int x] zsh I J (zA0 (.int (nI 0)) I J) := by
  refine zK_of kX11_seed.2.2.2.2.1 (Nat.le_of_ble_eq_true rfl) ?_
  show V G mX11_seed 0 _ 0 [(0, .ref 2), (1, .int x)] [] (0, 0) zsh I J
  refine V_iload_n dX11_seed_0 rfl ?_
  refine V_if_ltZ (tgt := 11) (a := x.toInt) dX11_seed_1 rfl rfl (fun h1 => ?_) (fun h1 => ?_)
  · skip
    refine V_iconst (v := nI 0) dX11_seed_11 rfl ?_
    exact V_iret ⟨Or.inr ⟨rfl, Or.inl rfl⟩, dX11_seed_12⟩ ⟨Nat.le_of_ble_eq_true rfl, Nat.le_of_ble_eq_true rfl⟩ ⟨rfl, rfl, rfl, rfl⟩
  · skip
    refine V_iload_n dX11_seed_4 rfl ?_
    refine V_ldcw dX11_seed_5 qX11_327 ?_
    refine V_eqI (y := nI 65535) rfl ?_
    refine V_icmp_leZ (tgt := 13) (a := x.toInt) (b := 65535) dX11_seed_8 rfl rfl (by decide) (fun h8 => ?_) (fun h8 => ?_)
    · skip
      exfalso; omega
    · skip
      refine V_iconst (v := nI 0) dX11_seed_11 rfl ?_
      exact V_iret ⟨Or.inr ⟨rfl, Or.inl rfl⟩, dX11_seed_12⟩ ⟨Nat.le_of_ble_eq_true rfl, Nat.le_of_ble_eq_true rfl⟩ ⟨rfl, rfl, rfl, rfl⟩

def keepI (I : zI) (s : Nat → Nat) : zI := fcopyK (bcp_keep (zwr (zwr (zwr I 2 13 (nI 1)) 2 14 (I 2 0)) 2 15 (I 2 1)) s)
set_option maxRecDepth 100000 in
set_option maxHeartbeats 4000000 in
theorem c_keep {G : zG} {I : zI} {J : zJ} {s h : Nat → Nat} (hb : bkX I 44 s h) : zK G mX11_keep 2 [.ref 2] zsh I J (zA1 (.int (nI (sm5 s))) (fun I' J' => I' = keepI I s ∧ J = J')) := by
  refine zK_of kX11_keep.2.2.2.2.1 (Nat.le_of_ble_eq_true rfl) ?_
  show V G mX11_keep 2 _ 0 [(0, .ref 2)] [] (0, 0) zsh I J
  refine V_aload_n dX11_keep_0 rfl ?_
  refine V_iconst (v := nI 1) dX11_keep_1 rfl ?_
  refine V_putW dX11_keep_2 fX11_328 ⟨Nat.le_of_ble_eq_true rfl, Nat.le_of_ble_eq_true rfl⟩ rfl rfl rfl ⟨rfl, rfl⟩ ?_
  refine V_aload_n dX11_keep_5 rfl ?_
  refine V_aload_n dX11_keep_6 rfl ?_
  refine V_getI dX11_keep_7 fX11_7 ⟨Nat.le_of_ble_eq_true rfl, Nat.le_of_ble_eq_true rfl⟩ rfl rfl ?_
  refine V_eqI (y := I 2 0) rfl ?_
  refine V_putW dX11_keep_10 fX11_332 ⟨Nat.le_of_ble_eq_true rfl, Nat.le_of_ble_eq_true rfl⟩ rfl rfl rfl ⟨rfl, rfl⟩ ?_
  refine V_aload_n dX11_keep_13 rfl ?_
  refine V_aload_n dX11_keep_14 rfl ?_
  refine V_getI dX11_keep_15 fX11_13 ⟨Nat.le_of_ble_eq_true rfl, Nat.le_of_ble_eq_true rfl⟩ rfl rfl ?_
  refine V_eqI (y := I 2 1) rfl ?_
  refine V_putW dX11_keep_18 fX11_335 ⟨Nat.le_of_ble_eq_true rfl, Nat.le_of_ble_eq_true rfl⟩ rfl rfl rfl ⟨rfl, rfl⟩ ?_
  refine V_aload_n dX11_keep_21 rfl ?_
  refine V_getR (b := 53) dX11_keep_22 fX11_89 ⟨Nat.le_of_ble_eq_true rfl, Nat.le_of_ble_eq_true rfl⟩ rfl rfl rfl ?_
  refine V_aload_n dX11_keep_25 rfl ?_
  refine V_getR (b := 44) dX11_keep_26 fX11_78 ⟨Nat.le_of_ble_eq_true rfl, Nat.le_of_ble_eq_true rfl⟩ rfl rfl rfl ?_
  have hb2 : bkX (zwr (zwr (zwr I 2 13 (nI 1)) 2 14 (I 2 0)) 2 15 (I 2 1)) 44 s h := hb
  refine V_callV (As := [.ref 44]) (st := []) (a := 53) dX11_keep_29 kX0_copyFrom lX11_338 (by decide) rfl rfl (Nat.le_of_ble_eq_true rfl) ⟨Nat.le_of_ble_eq_true rfl, Nat.le_of_ble_eq_true rfl⟩ ⟨Nat.le_of_ble_eq_true rfl, Nat.le_of_ble_eq_true rfl⟩ rfl ⟨rfl, by decide⟩ (c_bcopy_keep (h := h) hb2) ?_
  rintro r sh' I' J' ⟨rfl, rfl, rfl, rfl⟩
  refine V_aload_n dX11_keep_32 rfl ?_
  refine V_getR (b := 58) dX11_keep_33 fX11_92 ⟨Nat.le_of_ble_eq_true rfl, Nat.le_of_ble_eq_true rfl⟩ rfl rfl rfl ?_
  refine V_aload_n dX11_keep_36 rfl ?_
  refine V_getR (b := 49) dX11_keep_37 fX11_85 ⟨Nat.le_of_ble_eq_true rfl, Nat.le_of_ble_eq_true rfl⟩ rfl rfl rfl ?_
  refine V_callV (As := [.ref 49]) (st := []) (a := 58) dX11_keep_40 kX4_copyFrom lX11_341 (by decide) rfl rfl (Nat.le_of_ble_eq_true rfl) ⟨Nat.le_of_ble_eq_true rfl, Nat.le_of_ble_eq_true rfl⟩ ⟨Nat.le_of_ble_eq_true rfl, Nat.le_of_ble_eq_true rfl⟩ rfl ⟨rfl, by decide⟩ c_copyFrom4K ?_
  rintro r sh' I' J' ⟨rfl, rfl, rfl, rfl⟩
  refine V_aload_n dX11_keep_43 rfl ?_
  refine V_getR (b := 44) dX11_keep_44 fX11_78 ⟨Nat.le_of_ble_eq_true rfl, Nat.le_of_ble_eq_true rfl⟩ rfl rfl rfl ?_
  refine V_getI dX11_keep_47 fX11_344 ⟨Nat.le_of_ble_eq_true rfl, Nat.le_of_ble_eq_true rfl⟩ rfl rfl ?_
  refine V_eqI (y := nI (sm5 s)) hb.1 ?_
  exact V_iret ⟨Or.inl rfl, dX11_keep_50⟩ ⟨Nat.le_of_ble_eq_true rfl, Nat.le_of_ble_eq_true rfl⟩ ⟨rfl, rfl, rfl, rfl⟩

def undoI (I : zI) (s : Nat → Nat) : zI := zwr (fcopyU (bcp_undo (zwr (zwr I 2 0 (I 2 14)) 2 1 (I 2 15)) s)) 36 5 (-1)
set_option maxRecDepth 100000 in
set_option maxHeartbeats 4000000 in
theorem c_undoY {G : zG} {I : zI} {J : zJ} {s h : Nat → Nat} (hb : bkX I 53 s h) (hk : I 2 13 = nI 1) : zK G mX11_undo 2 [.ref 2] zsh I J (zA1 (.int (nI 1)) (fun I' J' => I' = undoI I s ∧ J = J')) := by
  refine zK_of kX11_undo.2.2.2.2.1 (Nat.le_of_ble_eq_true rfl) ?_
  show V G mX11_undo 2 _ 0 [(0, .ref 2)] [] (0, 0) zsh I J
  refine V_aload_n dX11_undo_0 rfl ?_
  refine V_getI dX11_undo_1 fX11_328 ⟨Nat.le_of_ble_eq_true rfl, Nat.le_of_ble_eq_true rfl⟩ rfl rfl ?_
  refine V_eqI (y := nI 1) hk ?_
  refine V_if_ne (tgt := 9) dX11_undo_4 rfl (fun _ => ?_) (fun h => absurd h (by decide))
  refine V_aload_n dX11_undo_9 rfl ?_
  refine V_aload_n dX11_undo_10 rfl ?_
  refine V_getI dX11_undo_11 fX11_332 ⟨Nat.le_of_ble_eq_true rfl, Nat.le_of_ble_eq_true rfl⟩ rfl rfl ?_
  refine V_putW dX11_undo_14 fX11_7 ⟨Nat.le_of_ble_eq_true rfl, Nat.le_of_ble_eq_true rfl⟩ rfl rfl rfl ⟨rfl, rfl⟩ ?_
  refine V_aload_n dX11_undo_17 rfl ?_
  refine V_aload_n dX11_undo_18 rfl ?_
  refine V_getI dX11_undo_19 fX11_335 ⟨Nat.le_of_ble_eq_true rfl, Nat.le_of_ble_eq_true rfl⟩ rfl rfl ?_
  refine V_eqI (y := I 2 15) rfl ?_
  refine V_putW dX11_undo_22 fX11_13 ⟨Nat.le_of_ble_eq_true rfl, Nat.le_of_ble_eq_true rfl⟩ rfl rfl rfl ⟨rfl, rfl⟩ ?_
  refine V_aload_n dX11_undo_25 rfl ?_
  refine V_getR (b := 44) dX11_undo_26 fX11_78 ⟨Nat.le_of_ble_eq_true rfl, Nat.le_of_ble_eq_true rfl⟩ rfl rfl rfl ?_
  refine V_aload_n dX11_undo_29 rfl ?_
  refine V_getR (b := 53) dX11_undo_30 fX11_89 ⟨Nat.le_of_ble_eq_true rfl, Nat.le_of_ble_eq_true rfl⟩ rfl rfl rfl ?_
  have hb2 : bkX (zwr (zwr I 2 0 (I 2 14)) 2 1 (I 2 15)) 53 s h := hb
  refine V_callV (As := [.ref 53]) (st := []) (a := 44) dX11_undo_33 kX0_copyFrom lX11_338 (by decide) rfl rfl (Nat.le_of_ble_eq_true rfl) ⟨Nat.le_of_ble_eq_true rfl, Nat.le_of_ble_eq_true rfl⟩ ⟨Nat.le_of_ble_eq_true rfl, Nat.le_of_ble_eq_true rfl⟩ rfl ⟨rfl, by decide⟩ (c_bcopy_undo (h := h) hb2) ?_
  rintro r sh' I' J' ⟨rfl, rfl, rfl, rfl⟩
  refine V_aload_n dX11_undo_36 rfl ?_
  refine V_getR (b := 49) dX11_undo_37 fX11_85 ⟨Nat.le_of_ble_eq_true rfl, Nat.le_of_ble_eq_true rfl⟩ rfl rfl rfl ?_
  refine V_aload_n dX11_undo_40 rfl ?_
  refine V_getR (b := 58) dX11_undo_41 fX11_92 ⟨Nat.le_of_ble_eq_true rfl, Nat.le_of_ble_eq_true rfl⟩ rfl rfl rfl ?_
  refine V_callV (As := [.ref 58]) (st := []) (a := 49) dX11_undo_44 kX4_copyFrom lX11_341 (by decide) rfl rfl (Nat.le_of_ble_eq_true rfl) ⟨Nat.le_of_ble_eq_true rfl, Nat.le_of_ble_eq_true rfl⟩ ⟨Nat.le_of_ble_eq_true rfl, Nat.le_of_ble_eq_true rfl⟩ rfl ⟨rfl, by decide⟩ c_copyFrom4U ?_
  rintro r sh' I' J' ⟨rfl, rfl, rfl, rfl⟩
  refine V_aload_n dX11_undo_47 rfl ?_
  refine V_getR (b := 36) dX11_undo_48 fX11_64 ⟨Nat.le_of_ble_eq_true rfl, Nat.le_of_ble_eq_true rfl⟩ rfl rfl rfl ?_
  refine V_callV (As := []) (st := []) (a := 36) dX11_undo_51 kX6_forget lX11_99 (by decide) rfl rfl (Nat.le_of_ble_eq_true rfl) ⟨Nat.le_of_ble_eq_true rfl, Nat.le_of_ble_eq_true rfl⟩ ⟨Nat.le_of_ble_eq_true rfl, Nat.le_of_ble_eq_true rfl⟩ rfl ⟨rfl, by decide⟩ c_forget ?_
  rintro r sh' I' J' ⟨rfl, rfl, rfl, rfl⟩
  refine V_iconst (v := nI 1) dX11_undo_54 rfl ?_
  exact V_iret ⟨Or.inr ⟨rfl, Or.inr rfl⟩, dX11_undo_55⟩ ⟨Nat.le_of_ble_eq_true rfl, Nat.le_of_ble_eq_true rfl⟩ ⟨rfl, rfl, rfl, rfl⟩

set_option maxRecDepth 100000 in
set_option maxHeartbeats 4000000 in
theorem c_undoN {G : zG} {I : zI} {J : zJ} (hk : I 2 13 = nI 0) : zK G mX11_undo 0 [.ref 2] zsh I J (zA0 (.int (nI 0)) I J) := by
  refine zK_of kX11_undo.2.2.2.2.1 (Nat.le_of_ble_eq_true rfl) ?_
  show V G mX11_undo 0 _ 0 [(0, .ref 2)] [] (0, 0) zsh I J
  refine V_aload_n dX11_undo_0 rfl ?_
  refine V_getI dX11_undo_1 fX11_328 ⟨Nat.le_of_ble_eq_true rfl, Nat.le_of_ble_eq_true rfl⟩ rfl rfl ?_
  refine V_eqI (y := nI 0) hk ?_
  refine V_if_ne (tgt := 9) dX11_undo_4 rfl (fun h => absurd h (by decide)) (fun _ => ?_)
  refine V_iconst (v := nI 0) dX11_undo_7 rfl ?_
  exact V_iret ⟨Or.inr ⟨rfl, Or.inl rfl⟩, dX11_undo_8⟩ ⟨Nat.le_of_ble_eq_true rfl, Nat.le_of_ble_eq_true rfl⟩ ⟨rfl, rfl, rfl, rfl⟩

def chkL (f g : Nat → Int32) : Nat → Nat → Int32
  | 0, _ => -1
  | m + 1, i => if tnum f i = g i then chkL f g m (i + 1) else nI i
set_option maxRecDepth 100000 in
set_option maxHeartbeats 4000000 in
theorem lp_check {G : zG} {I : zI} {J : zJ} {n : Nat} (hn : n ≤ 8) : ∀ m i, i + m = n → V G mX11_check 2 (zA0 (.int (chkL (I 4) (I 42) m i)) I J) 36 [(0, .ref 2), (1, .int (nI n)), (2, .int (nI i))] [] (0, 0) zsh I J := by
  intro m
  induction m with
  | zero =>
    intro i hk
    refine V_iload_n dX11_check_36 rfl ?_
    refine V_iload_n dX11_check_37 rfl ?_
    refine V_icmp_geN (tgt := 68) dX11_check_38 rfl (by omega) (by omega) (fun _ => ?_) (fun h => absurd h (by omega))
    refine V_iconst (v := (-1)) dX11_check_68 rfl ?_
    exact V_iret ⟨Or.inl rfl, dX11_check_69⟩ ⟨Nat.le_of_ble_eq_true rfl, Nat.le_of_ble_eq_true rfl⟩ ⟨rfl, rfl, rfl, rfl⟩
  | succ m ih =>
    intro i hk
    refine V_iload_n dX11_check_36 rfl ?_
    refine V_iload_n dX11_check_37 rfl ?_
    refine V_icmp_geN (tgt := 68) dX11_check_38 rfl (by omega) (by omega) (fun h => absurd h (by omega)) (fun _ => ?_)
    refine V_aload_n dX11_check_41 rfl ?_
    refine V_getR (b := 3) dX11_check_42 fX11_19 ⟨Nat.le_of_ble_eq_true rfl, Nat.le_of_ble_eq_true rfl⟩ rfl rfl rfl ?_
    refine V_iload_n dX11_check_45 rfl ?_
    refine V_callV (As := [.int (nI i)]) (st := []) (a := 3) dX11_check_46 kX10_numberAt lX11_345 (by decide) rfl rfl (Nat.le_of_ble_eq_true rfl) ⟨Nat.le_of_ble_eq_true rfl, Nat.le_of_ble_eq_true rfl⟩ ⟨Nat.le_of_ble_eq_true rfl, Nat.le_of_ble_eq_true rfl⟩ rfl ⟨rfl, by decide⟩ (c_numberAt (by omega)) ?_
    rintro _ _ _ _ ⟨rfl, rfl, rfl, rfl⟩
    refine V_aload_n dX11_check_49 rfl ?_
    refine V_getR (b := 41) dX11_check_50 fX11_71 ⟨Nat.le_of_ble_eq_true rfl, Nat.le_of_ble_eq_true rfl⟩ rfl rfl rfl ?_
    refine V_iload_n dX11_check_53 rfl ?_
    refine V_callV (As := [.int (nI i)]) (st := [.int (tnum (I 4) i)]) (a := 41) dX11_check_54 kX5_heightAt lX11_348 (by decide) rfl rfl (Nat.le_of_ble_eq_true rfl) ⟨Nat.le_of_ble_eq_true rfl, Nat.le_of_ble_eq_true rfl⟩ ⟨Nat.le_of_ble_eq_true rfl, Nat.le_of_ble_eq_true rfl⟩ rfl ⟨rfl, by decide⟩ (c_heightAt (by omega)) ?_
    rintro _ _ _ _ ⟨rfl, rfl, rfl, rfl⟩
    refine V_icmp_eq (tgt := 62) dX11_check_57 rfl (fun h57 => ?_) (fun h57 => ?_)
    · skip
      refine V_iincN (ls' := [(2, .int (nI (i + 1))), (0, .ref 2), (1, .int (nI n))]) (n := 1) dX11_check_62 rfl rfl (by decide) (by decide) rfl ?_
      refine V_goto (tgt := 36) dX11_check_65 rfl ?_
      refine V_sub2 (ls' := [(0, .ref 2), (1, .int (nI n)), (2, .int (nI (i + 1)))]) (List.forall_mem_cons.mpr ⟨rfl, List.forall_mem_cons.mpr ⟨rfl, List.forall_mem_cons.mpr ⟨rfl, fun _ h => absurd h List.not_mem_nil⟩⟩⟩) ?_
      rw [show chkL (I 4) (I 42) (m + 1) i = chkL (I 4) (I 42) m (i + 1) from if_pos h57]
      exact ih (i + 1) (by omega)
    · skip
      refine V_iload_n dX11_check_60 rfl ?_
      exact V_iret ⟨Or.inl rfl, dX11_check_61⟩ ⟨Nat.le_of_ble_eq_true rfl, Nat.le_of_ble_eq_true rfl⟩ ⟨rfl, congrArg (fun z => some (Value.int z)) (show nI i = (if tnum (I 4) i = I 42 i then chkL (I 4) (I 42) m (i + 1) else nI i) from (if_neg h57).symm), rfl, rfl⟩

set_option maxRecDepth 100000 in
set_option maxHeartbeats 4000000 in
theorem c_checkY {G : zG} {I : zI} {J : zJ} {t : Nat} (ht : I 3 1 = nI t) (ht2 : t ≤ 260) {n : Nat} (hn : n ≤ 8) (h4 : 4 * n ≤ t) : zK G mX11_check 2 [.ref 2, .int (nI n)] zsh I J (zA1 (.int (chkL (I 4) (I 42) n 0)) (fun I' J' => I' = zwr I 3 1 (nI 0) ∧ J = J')) := by
  refine zK_of kX11_check.2.2.2.2.1 (Nat.le_of_ble_eq_true rfl) ?_
  show V G mX11_check 2 _ 0 [(0, .ref 2), (1, .int (nI n))] [] (0, 0) zsh I J
  refine V_iload_n dX11_check_0 rfl ?_
  refine V_if_ltN (tgt := 23) dX11_check_1 rfl (by omega) ?_
  refine V_iload_n dX11_check_4 rfl ?_
  refine V_bipush (v := nI 8) dX11_check_5 rfl ?_
  refine V_icmp_gtN (tgt := 23) dX11_check_7 rfl (by omega) (by omega) (fun h => absurd h (by omega)) (fun _ => ?_)
  refine V_iconst (v := nI 4) dX11_check_10 rfl ?_
  refine V_iload_n dX11_check_11 rfl ?_
  refine V_imulN dX11_check_12 ?_
  refine V_aload_n dX11_check_13 rfl ?_
  refine V_getR (b := 3) dX11_check_14 fX11_19 ⟨Nat.le_of_ble_eq_true rfl, Nat.le_of_ble_eq_true rfl⟩ rfl rfl rfl ?_
  refine V_getI dX11_check_17 fX11_110 ⟨Nat.le_of_ble_eq_true rfl, Nat.le_of_ble_eq_true rfl⟩ rfl rfl ?_
  refine V_eqI (y := nI t) ht ?_
  refine V_icmp_leN (tgt := 26) dX11_check_20 rfl (by omega) (by omega) (fun _ => ?_) (fun h => absurd h (by omega))
  refine V_aload_n dX11_check_26 rfl ?_
  refine V_getR (b := 3) dX11_check_27 fX11_19 ⟨Nat.le_of_ble_eq_true rfl, Nat.le_of_ble_eq_true rfl⟩ rfl rfl rfl ?_
  refine V_iconst (v := nI 0) dX11_check_30 rfl ?_
  refine V_putW dX11_check_31 fX11_110 ⟨Nat.le_of_ble_eq_true rfl, Nat.le_of_ble_eq_true rfl⟩ rfl rfl rfl ⟨rfl, rfl⟩ ?_
  refine V_iconst (v := nI 0) dX11_check_34 rfl ?_
  refine V_istore_n (ls' := [(2, .int (nI 0)), (0, .ref 2), (1, .int (nI n))]) dX11_check_35 (by decide) rfl ?_
  refine V_sub2 (ls' := [(0, .ref 2), (1, .int (nI n)), (2, .int (nI 0))]) (List.forall_mem_cons.mpr ⟨rfl, List.forall_mem_cons.mpr ⟨rfl, List.forall_mem_cons.mpr ⟨rfl, fun _ h => absurd h List.not_mem_nil⟩⟩⟩) ?_
  refine zQ_mono ?_ (lp_check (I := zwr I 3 1 (nI 0)) hn n 0 (Nat.zero_add n))
  rintro r sh' I' J' ⟨rfl, h1, rfl, rfl⟩
  exact ⟨rfl, h1, rfl, rfl⟩

