/-! THE MODEL: its log told, what was wrong -/
/-- the states that a log tells -/
def lgS (n la : Nat) (sd c0 c1 : Nat → Nat) : Prop := ∀ i, i ≤ n → c0 i < 56 ∧ c1 i < 56 ∧ sLast la sd i ≤ 1
set_option maxRecDepth 100000 in
set_option maxHeartbeats 4000000 in
theorem w_log {G : zG} {I : zI} {J : zJ} (hT : mT I) {n la : Nat} {th sd c0 c1 : Nat → Nat} (hL : lgW I n la th sd c0 c1) (hS : lgS n la sd c0 c1) (hM : lgM n la th sd c0 c1) {x : Int32} : zK G mX12_log 4 [.ref 62, .int x] zsh I J (zA0 (.int (onN 47 x (-1) (telL n th sd c0 c1))) I J) := by
  have hn6 := hL.2.1
  refine zK_of kX12_log.2.2.2.2.1 (Nat.le_of_ble_eq_true rfl) ?_
  show V G mX12_log 4 _ 0 [(0, .ref 62), (1, .int x)] [] (0, 0) zsh I J
  rcases ix3 x 47 (by decide) with hw | hw | ⟨k, hk, rfl⟩
  · skip
    refine V_aload_n dX12_log_0 rfl ?_
    refine V_getI dX12_log_1 fX12_155 ⟨Nat.le_of_ble_eq_true rfl, Nat.le_of_ble_eq_true rfl⟩ rfl rfl ?_
    refine V_eqI (y := nI n) hL.1 ?_
    refine V_iconst (v := (-1)) dX12_log_4 rfl ?_
    refine V_icmp_ne (tgt := 10) dX12_log_5 rfl (fun _ => ?_) (fun h => absurd h (nI_ne_neg (by omega) (by decide)))
    refine V_iload_n dX12_log_10 rfl ?_
    refine V_if_ne (tgt := 19) dX12_log_11 rfl (fun _ => ?_) (fun h => absurd h (by rw [oz_eq]; omega))
    refine V_iload_n dX12_log_19 rfl ?_
    refine V_bipush (v := nI 10) dX12_log_20 rfl ?_
    refine V_bipush (v := nI 9) dX12_log_22 rfl ?_
    refine V_aload_n dX12_log_24 rfl ?_
    refine V_getI dX12_log_25 fX12_155 ⟨Nat.le_of_ble_eq_true rfl, Nat.le_of_ble_eq_true rfl⟩ rfl rfl ?_
    refine V_eqI (y := nI n) hL.1 ?_
    refine V_iaddN dX12_log_28 ?_
    refine V_callS (As := [.int x, .int (nI 10), .int (nI (9 + n))]) (st := []) dX12_log_29 kX12_in lX12_173 (by decide) rfl rfl (Nat.le_of_ble_eq_true rfl) ⟨Nat.le_of_ble_eq_true rfl, Nat.le_of_ble_eq_true rfl⟩ (w_inN (a := 10) (b := ((9 + n : Nat) : Int)) (by decide) (nI_toInt (by omega)) (fun h => by have h1 := h.1; have h2 := h.2; omega)) ?_
    rintro _ _ _ _ ⟨rfl, rfl, rfl, rfl⟩
    refine V_if_eq (tgt := 45) dX12_log_32 rfl (fun _ => ?_) (fun h => absurd h (by decide))
    refine V_iload_n dX12_log_45 rfl ?_
    refine V_bipush (v := nI 20) dX12_log_46 rfl ?_
    refine V_bipush (v := nI 19) dX12_log_48 rfl ?_
    refine V_aload_n dX12_log_50 rfl ?_
    refine V_getI dX12_log_51 fX12_155 ⟨Nat.le_of_ble_eq_true rfl, Nat.le_of_ble_eq_true rfl⟩ rfl rfl ?_
    refine V_eqI (y := nI n) hL.1 ?_
    refine V_iaddN dX12_log_54 ?_
    refine V_callS (As := [.int x, .int (nI 20), .int (nI (19 + n))]) (st := []) dX12_log_55 kX12_in lX12_173 (by decide) rfl rfl (Nat.le_of_ble_eq_true rfl) ⟨Nat.le_of_ble_eq_true rfl, Nat.le_of_ble_eq_true rfl⟩ (w_inN (a := 20) (b := ((19 + n : Nat) : Int)) (by decide) (nI_toInt (by omega)) (fun h => by have h1 := h.1; have h2 := h.2; omega)) ?_
    rintro _ _ _ _ ⟨rfl, rfl, rfl, rfl⟩
    refine V_if_eq (tgt := 75) dX12_log_58 rfl (fun _ => ?_) (fun h => absurd h (by decide))
    refine V_iload_n dX12_log_75 rfl ?_
    refine V_bipush (v := nI 30) dX12_log_76 rfl ?_
    refine V_bipush (v := nI 30) dX12_log_78 rfl ?_
    refine V_aload_n dX12_log_80 rfl ?_
    refine V_getI dX12_log_81 fX12_155 ⟨Nat.le_of_ble_eq_true rfl, Nat.le_of_ble_eq_true rfl⟩ rfl rfl ?_
    refine V_eqI (y := nI n) hL.1 ?_
    refine V_iaddN dX12_log_84 ?_
    refine V_callS (As := [.int x, .int (nI 30), .int (nI (30 + n))]) (st := []) dX12_log_85 kX12_in lX12_173 (by decide) rfl rfl (Nat.le_of_ble_eq_true rfl) ⟨Nat.le_of_ble_eq_true rfl, Nat.le_of_ble_eq_true rfl⟩ (w_inN (a := 30) (b := ((30 + n : Nat) : Int)) (by decide) (nI_toInt (by omega)) (fun h => by have h1 := h.1; have h2 := h.2; omega)) ?_
    rintro _ _ _ _ ⟨rfl, rfl, rfl, rfl⟩
    refine V_if_eq (tgt := 110) dX12_log_88 rfl (fun _ => ?_) (fun h => absurd h (by decide))
    refine V_iload_n dX12_log_110 rfl ?_
    refine V_bipush (v := nI 40) dX12_log_111 rfl ?_
    refine V_bipush (v := nI 40) dX12_log_113 rfl ?_
    refine V_aload_n dX12_log_115 rfl ?_
    refine V_getI dX12_log_116 fX12_155 ⟨Nat.le_of_ble_eq_true rfl, Nat.le_of_ble_eq_true rfl⟩ rfl rfl ?_
    refine V_eqI (y := nI n) hL.1 ?_
    refine V_iaddN dX12_log_119 ?_
    refine V_callS (As := [.int x, .int (nI 40), .int (nI (40 + n))]) (st := []) dX12_log_120 kX12_in lX12_173 (by decide) rfl rfl (Nat.le_of_ble_eq_true rfl) ⟨Nat.le_of_ble_eq_true rfl, Nat.le_of_ble_eq_true rfl⟩ (w_inN (a := 40) (b := ((40 + n : Nat) : Int)) (by decide) (nI_toInt (by omega)) (fun h => by have h1 := h.1; have h2 := h.2; omega)) ?_
    rintro _ _ _ _ ⟨rfl, rfl, rfl, rfl⟩
    refine V_if_eq (tgt := 147) dX12_log_123 rfl (fun _ => ?_) (fun h => absurd h (by decide))
    refine V_iconst (v := (-1)) dX12_log_147 rfl ?_
    exact V_iret ⟨Or.inl rfl, dX12_log_148⟩ ⟨Nat.le_of_ble_eq_true rfl, Nat.le_of_ble_eq_true rfl⟩ ⟨rfl, congrArg (fun z => some (Value.int z)) (onN_lo hw).symm, rfl, rfl⟩
  · skip
    refine V_aload_n dX12_log_0 rfl ?_
    refine V_getI dX12_log_1 fX12_155 ⟨Nat.le_of_ble_eq_true rfl, Nat.le_of_ble_eq_true rfl⟩ rfl rfl ?_
    refine V_eqI (y := nI n) hL.1 ?_
    refine V_iconst (v := (-1)) dX12_log_4 rfl ?_
    refine V_icmp_ne (tgt := 10) dX12_log_5 rfl (fun _ => ?_) (fun h => absurd h (nI_ne_neg (by omega) (by decide)))
    refine V_iload_n dX12_log_10 rfl ?_
    refine V_if_ne (tgt := 19) dX12_log_11 rfl (fun _ => ?_) (fun h => absurd h (by rw [oz_eq]; omega))
    refine V_iload_n dX12_log_19 rfl ?_
    refine V_bipush (v := nI 10) dX12_log_20 rfl ?_
    refine V_bipush (v := nI 9) dX12_log_22 rfl ?_
    refine V_aload_n dX12_log_24 rfl ?_
    refine V_getI dX12_log_25 fX12_155 ⟨Nat.le_of_ble_eq_true rfl, Nat.le_of_ble_eq_true rfl⟩ rfl rfl ?_
    refine V_eqI (y := nI n) hL.1 ?_
    refine V_iaddN dX12_log_28 ?_
    refine V_callS (As := [.int x, .int (nI 10), .int (nI (9 + n))]) (st := []) dX12_log_29 kX12_in lX12_173 (by decide) rfl rfl (Nat.le_of_ble_eq_true rfl) ⟨Nat.le_of_ble_eq_true rfl, Nat.le_of_ble_eq_true rfl⟩ (w_inN (a := 10) (b := ((9 + n : Nat) : Int)) (by decide) (nI_toInt (by omega)) (fun h => by have h1 := h.1; have h2 := h.2; omega)) ?_
    rintro _ _ _ _ ⟨rfl, rfl, rfl, rfl⟩
    refine V_if_eq (tgt := 45) dX12_log_32 rfl (fun _ => ?_) (fun h => absurd h (by decide))
    refine V_iload_n dX12_log_45 rfl ?_
    refine V_bipush (v := nI 20) dX12_log_46 rfl ?_
    refine V_bipush (v := nI 19) dX12_log_48 rfl ?_
    refine V_aload_n dX12_log_50 rfl ?_
    refine V_getI dX12_log_51 fX12_155 ⟨Nat.le_of_ble_eq_true rfl, Nat.le_of_ble_eq_true rfl⟩ rfl rfl ?_
    refine V_eqI (y := nI n) hL.1 ?_
    refine V_iaddN dX12_log_54 ?_
    refine V_callS (As := [.int x, .int (nI 20), .int (nI (19 + n))]) (st := []) dX12_log_55 kX12_in lX12_173 (by decide) rfl rfl (Nat.le_of_ble_eq_true rfl) ⟨Nat.le_of_ble_eq_true rfl, Nat.le_of_ble_eq_true rfl⟩ (w_inN (a := 20) (b := ((19 + n : Nat) : Int)) (by decide) (nI_toInt (by omega)) (fun h => by have h1 := h.1; have h2 := h.2; omega)) ?_
    rintro _ _ _ _ ⟨rfl, rfl, rfl, rfl⟩
    refine V_if_eq (tgt := 75) dX12_log_58 rfl (fun _ => ?_) (fun h => absurd h (by decide))
    refine V_iload_n dX12_log_75 rfl ?_
    refine V_bipush (v := nI 30) dX12_log_76 rfl ?_
    refine V_bipush (v := nI 30) dX12_log_78 rfl ?_
    refine V_aload_n dX12_log_80 rfl ?_
    refine V_getI dX12_log_81 fX12_155 ⟨Nat.le_of_ble_eq_true rfl, Nat.le_of_ble_eq_true rfl⟩ rfl rfl ?_
    refine V_eqI (y := nI n) hL.1 ?_
    refine V_iaddN dX12_log_84 ?_
    refine V_callS (As := [.int x, .int (nI 30), .int (nI (30 + n))]) (st := []) dX12_log_85 kX12_in lX12_173 (by decide) rfl rfl (Nat.le_of_ble_eq_true rfl) ⟨Nat.le_of_ble_eq_true rfl, Nat.le_of_ble_eq_true rfl⟩ (w_inN (a := 30) (b := ((30 + n : Nat) : Int)) (by decide) (nI_toInt (by omega)) (fun h => by have h1 := h.1; have h2 := h.2; omega)) ?_
    rintro _ _ _ _ ⟨rfl, rfl, rfl, rfl⟩
    refine V_if_eq (tgt := 110) dX12_log_88 rfl (fun _ => ?_) (fun h => absurd h (by decide))
    refine V_iload_n dX12_log_110 rfl ?_
    refine V_bipush (v := nI 40) dX12_log_111 rfl ?_
    refine V_bipush (v := nI 40) dX12_log_113 rfl ?_
    refine V_aload_n dX12_log_115 rfl ?_
    refine V_getI dX12_log_116 fX12_155 ⟨Nat.le_of_ble_eq_true rfl, Nat.le_of_ble_eq_true rfl⟩ rfl rfl ?_
    refine V_eqI (y := nI n) hL.1 ?_
    refine V_iaddN dX12_log_119 ?_
    refine V_callS (As := [.int x, .int (nI 40), .int (nI (40 + n))]) (st := []) dX12_log_120 kX12_in lX12_173 (by decide) rfl rfl (Nat.le_of_ble_eq_true rfl) ⟨Nat.le_of_ble_eq_true rfl, Nat.le_of_ble_eq_true rfl⟩ (w_inN (a := 40) (b := ((40 + n : Nat) : Int)) (by decide) (nI_toInt (by omega)) (fun h => by have h1 := h.1; have h2 := h.2; omega)) ?_
    rintro _ _ _ _ ⟨rfl, rfl, rfl, rfl⟩
    refine V_if_eq (tgt := 147) dX12_log_123 rfl (fun _ => ?_) (fun h => absurd h (by decide))
    refine V_iconst (v := (-1)) dX12_log_147 rfl ?_
    exact V_iret ⟨Or.inl rfl, dX12_log_148⟩ ⟨Nat.le_of_ble_eq_true rfl, Nat.le_of_ble_eq_true rfl⟩ ⟨rfl, congrArg (fun z => some (Value.int z)) (onN_hi hw).symm, rfl, rfl⟩
  · skip
    refine V_aload_n dX12_log_0 rfl ?_
    refine V_getI dX12_log_1 fX12_155 ⟨Nat.le_of_ble_eq_true rfl, Nat.le_of_ble_eq_true rfl⟩ rfl rfl ?_
    refine V_eqI (y := nI n) hL.1 ?_
    refine V_iconst (v := (-1)) dX12_log_4 rfl ?_
    refine V_icmp_ne (tgt := 10) dX12_log_5 rfl (fun _ => ?_) (fun h => absurd h (nI_ne_neg (by omega) (by decide)))
    refine V_iload_n dX12_log_10 rfl ?_
    refine V_if_neN (tgt := 19) dX12_log_11 rfl (by omega) (fun h11 => ?_) (fun h11 => ?_)
    · skip
      by_cases f10 : 10 ≤ k ∧ k < 10 + n
      · skip
        refine V_iload_n dX12_log_19 rfl ?_
        refine V_bipush (v := nI 10) dX12_log_20 rfl ?_
        refine V_bipush (v := nI 9) dX12_log_22 rfl ?_
        refine V_aload_n dX12_log_24 rfl ?_
        refine V_getI dX12_log_25 fX12_155 ⟨Nat.le_of_ble_eq_true rfl, Nat.le_of_ble_eq_true rfl⟩ rfl rfl ?_
        refine V_eqI (y := nI n) hL.1 ?_
        refine V_iaddN dX12_log_28 ?_
        refine V_callS (As := [.int (nI k), .int (nI 10), .int (nI (9 + n))]) (st := []) dX12_log_29 kX12_in lX12_173 (by decide) rfl rfl (Nat.le_of_ble_eq_true rfl) ⟨Nat.le_of_ble_eq_true rfl, Nat.le_of_ble_eq_true rfl⟩ (w_inY (a := 10) (b := ((9 + n : Nat) : Int)) (by decide) (nI_toInt (by omega)) ((inZ_k (by omega)).mpr (by omega))) ?_
        rintro _ _ _ _ ⟨rfl, rfl, rfl, rfl⟩
        refine V_if_eq (tgt := 45) dX12_log_32 rfl (fun h => absurd h (by decide)) (fun _ => ?_)
        refine V_aload_n dX12_log_35 rfl ?_
        refine V_getR (b := 90) dX12_log_36 fX12_94 ⟨Nat.le_of_ble_eq_true rfl, Nat.le_of_ble_eq_true rfl⟩ rfl rfl rfl ?_
        refine V_iload_n dX12_log_39 rfl ?_
        refine V_bipush (v := nI 10) dX12_log_40 rfl ?_
        refine V_isubN dX12_log_42 (by omega) ?_
        refine V_ialdN (k := k - 10) dX12_log_43 ⟨Nat.le_of_ble_eq_true rfl, Nat.le_of_ble_eq_true rfl⟩ rfl (by decide) (by have := hL.2.1; omega) ?_
        refine V_eqI (y := nI (th (k - 10))) (hL.2.2.1 _ (by omega)) ?_
        exact V_iret ⟨Or.inl rfl, dX12_log_44⟩ ⟨Nat.le_of_ble_eq_true rfl, Nat.le_of_ble_eq_true rfl⟩ ⟨rfl, congrArg (fun z => some (Value.int z)) (by rw [onN_k hk (by decide)]; unfold telL; first | (exfalso; omega; done) | ((repeat' first | rw [if_pos (by omega)] | rw [if_neg (by omega)]) <;> (first | rfl | (congr 1; omega)))), rfl, rfl⟩
      · skip
        refine V_iload_n dX12_log_19 rfl ?_
        refine V_bipush (v := nI 10) dX12_log_20 rfl ?_
        refine V_bipush (v := nI 9) dX12_log_22 rfl ?_
        refine V_aload_n dX12_log_24 rfl ?_
        refine V_getI dX12_log_25 fX12_155 ⟨Nat.le_of_ble_eq_true rfl, Nat.le_of_ble_eq_true rfl⟩ rfl rfl ?_
        refine V_eqI (y := nI n) hL.1 ?_
        refine V_iaddN dX12_log_28 ?_
        refine V_callS (As := [.int (nI k), .int (nI 10), .int (nI (9 + n))]) (st := []) dX12_log_29 kX12_in lX12_173 (by decide) rfl rfl (Nat.le_of_ble_eq_true rfl) ⟨Nat.le_of_ble_eq_true rfl, Nat.le_of_ble_eq_true rfl⟩ (w_inN (a := 10) (b := ((9 + n : Nat) : Int)) (by decide) (nI_toInt (by omega)) (fun h => by have h2 := (inZ_k (by omega)).mp h; omega)) ?_
        rintro _ _ _ _ ⟨rfl, rfl, rfl, rfl⟩
        refine V_if_eq (tgt := 45) dX12_log_32 rfl (fun _ => ?_) (fun h => absurd h (by decide))
        by_cases f20 : 20 ≤ k ∧ k < 20 + n
        · skip
          refine V_iload_n dX12_log_45 rfl ?_
          refine V_bipush (v := nI 20) dX12_log_46 rfl ?_
          refine V_bipush (v := nI 19) dX12_log_48 rfl ?_
          refine V_aload_n dX12_log_50 rfl ?_
          refine V_getI dX12_log_51 fX12_155 ⟨Nat.le_of_ble_eq_true rfl, Nat.le_of_ble_eq_true rfl⟩ rfl rfl ?_
          refine V_eqI (y := nI n) hL.1 ?_
          refine V_iaddN dX12_log_54 ?_
          refine V_callS (As := [.int (nI k), .int (nI 20), .int (nI (19 + n))]) (st := []) dX12_log_55 kX12_in lX12_173 (by decide) rfl rfl (Nat.le_of_ble_eq_true rfl) ⟨Nat.le_of_ble_eq_true rfl, Nat.le_of_ble_eq_true rfl⟩ (w_inY (a := 20) (b := ((19 + n : Nat) : Int)) (by decide) (nI_toInt (by omega)) ((inZ_k (by omega)).mpr (by omega))) ?_
          rintro _ _ _ _ ⟨rfl, rfl, rfl, rfl⟩
          refine V_if_eq (tgt := 75) dX12_log_58 rfl (fun h => absurd h (by decide)) (fun _ => ?_)
          refine V_aload_n dX12_log_61 rfl ?_
          refine V_aload_n dX12_log_62 rfl ?_
          refine V_getR (b := 89) dX12_log_63 fX12_91 ⟨Nat.le_of_ble_eq_true rfl, Nat.le_of_ble_eq_true rfl⟩ rfl rfl rfl ?_
          refine V_iload_n dX12_log_66 rfl ?_
          refine V_bipush (v := nI 20) dX12_log_67 rfl ?_
          refine V_isubN dX12_log_69 (by omega) ?_
          refine V_ialdN (k := k - 20) dX12_log_70 ⟨Nat.le_of_ble_eq_true rfl, Nat.le_of_ble_eq_true rfl⟩ rfl (by decide) (by have := hL.2.1; omega) ?_
          refine V_eqI (y := nI (stN (c0 (k - 20)) (c1 (k - 20)) (sLast la sd (k - 20)))) (hL.2.2.2 _ (by omega)) ?_
          refine V_callV (As := [.int (nI (stN (c0 (k - 20)) (c1 (k - 20)) (sLast la sd (k - 20))))]) (st := []) (a := 62) dX12_log_71 kX12_turnIn lX12_206 (by decide) rfl rfl (Nat.le_of_ble_eq_true rfl) ⟨Nat.le_of_ble_eq_true rfl, Nat.le_of_ble_eq_true rfl⟩ ⟨Nat.le_of_ble_eq_true rfl, Nat.le_of_ble_eq_true rfl⟩ rfl ⟨rfl, by decide⟩ (w_turnIn hT (hS _ (by omega)).1 (hS _ (by omega)).2.1 (hS _ (by omega)).2.2) ?_
          rintro _ _ _ _ ⟨rfl, rfl, rfl, rfl⟩
          refine V_eqI (y := nI (sd (k - 20))) (congrArg nI (hM (k - 20) (by omega)).2.2.2.2.1.symm) ?_
          exact V_iret ⟨Or.inl rfl, dX12_log_74⟩ ⟨Nat.le_of_ble_eq_true rfl, Nat.le_of_ble_eq_true rfl⟩ ⟨rfl, congrArg (fun z => some (Value.int z)) (by rw [onN_k hk (by decide)]; unfold telL; first | (exfalso; omega; done) | ((repeat' first | rw [if_pos (by omega)] | rw [if_neg (by omega)]) <;> (first | rfl | (congr 1; omega)))), rfl, rfl⟩
        · skip
          refine V_iload_n dX12_log_45 rfl ?_
          refine V_bipush (v := nI 20) dX12_log_46 rfl ?_
          refine V_bipush (v := nI 19) dX12_log_48 rfl ?_
          refine V_aload_n dX12_log_50 rfl ?_
          refine V_getI dX12_log_51 fX12_155 ⟨Nat.le_of_ble_eq_true rfl, Nat.le_of_ble_eq_true rfl⟩ rfl rfl ?_
          refine V_eqI (y := nI n) hL.1 ?_
          refine V_iaddN dX12_log_54 ?_
          refine V_callS (As := [.int (nI k), .int (nI 20), .int (nI (19 + n))]) (st := []) dX12_log_55 kX12_in lX12_173 (by decide) rfl rfl (Nat.le_of_ble_eq_true rfl) ⟨Nat.le_of_ble_eq_true rfl, Nat.le_of_ble_eq_true rfl⟩ (w_inN (a := 20) (b := ((19 + n : Nat) : Int)) (by decide) (nI_toInt (by omega)) (fun h => by have h2 := (inZ_k (by omega)).mp h; omega)) ?_
          rintro _ _ _ _ ⟨rfl, rfl, rfl, rfl⟩
          refine V_if_eq (tgt := 75) dX12_log_58 rfl (fun _ => ?_) (fun h => absurd h (by decide))
          by_cases f30 : 30 ≤ k ∧ k ≤ 30 + n
          · skip
            refine V_iload_n dX12_log_75 rfl ?_
            refine V_bipush (v := nI 30) dX12_log_76 rfl ?_
            refine V_bipush (v := nI 30) dX12_log_78 rfl ?_
            refine V_aload_n dX12_log_80 rfl ?_
            refine V_getI dX12_log_81 fX12_155 ⟨Nat.le_of_ble_eq_true rfl, Nat.le_of_ble_eq_true rfl⟩ rfl rfl ?_
            refine V_eqI (y := nI n) hL.1 ?_
            refine V_iaddN dX12_log_84 ?_
            refine V_callS (As := [.int (nI k), .int (nI 30), .int (nI (30 + n))]) (st := []) dX12_log_85 kX12_in lX12_173 (by decide) rfl rfl (Nat.le_of_ble_eq_true rfl) ⟨Nat.le_of_ble_eq_true rfl, Nat.le_of_ble_eq_true rfl⟩ (w_inY (a := 30) (b := ((30 + n : Nat) : Int)) (by decide) (nI_toInt (by omega)) ((inZ_k (by omega)).mpr (by omega))) ?_
            rintro _ _ _ _ ⟨rfl, rfl, rfl, rfl⟩
            refine V_if_eq (tgt := 110) dX12_log_88 rfl (fun h => absurd h (by decide)) (fun _ => ?_)
            refine V_aload_n dX12_log_91 rfl ?_
            refine V_getR (b := 63) dX12_log_92 fX12_7 ⟨Nat.le_of_ble_eq_true rfl, Nat.le_of_ble_eq_true rfl⟩ rfl rfl rfl ?_
            refine V_aload_n dX12_log_95 rfl ?_
            refine V_getR (b := 89) dX12_log_96 fX12_91 ⟨Nat.le_of_ble_eq_true rfl, Nat.le_of_ble_eq_true rfl⟩ rfl rfl rfl ?_
            refine V_iload_n dX12_log_99 rfl ?_
            refine V_bipush (v := nI 30) dX12_log_100 rfl ?_
            refine V_isubN dX12_log_102 (by omega) ?_
            refine V_ialdN (k := k - 30) dX12_log_103 ⟨Nat.le_of_ble_eq_true rfl, Nat.le_of_ble_eq_true rfl⟩ rfl (by decide) (by have := hL.2.1; omega) ?_
            refine V_eqI (y := nI (stN (c0 (k - 30)) (c1 (k - 30)) (sLast la sd (k - 30)))) (hL.2.2.2 _ (by omega)) ?_
            refine V_iconst (v := nI 0) dX12_log_104 rfl ?_
            refine V_callS (As := [.int (nI (stN (c0 (k - 30)) (c1 (k - 30)) (sLast la sd (k - 30)))), .int (nI 0)]) (st := [.ref 63]) dX12_log_105 kX12_standIn lX12_181 (by decide) rfl rfl (Nat.le_of_ble_eq_true rfl) ⟨Nat.le_of_ble_eq_true rfl, Nat.le_of_ble_eq_true rfl⟩ (w_standIn (hS _ (by omega)).1 (hS _ (by omega)).2.1 (hS _ (by omega)).2.2 (by decide)) ?_
            rintro _ _ _ _ ⟨rfl, rfl, rfl, rfl⟩
            refine V_eqI (y := nI (c0 (k - 30))) rfl ?_
            refine V_ialdN (k := c0 (k - 30)) dX12_log_108 ⟨Nat.le_of_ble_eq_true rfl, Nat.le_of_ble_eq_true rfl⟩ rfl (by decide) (hS _ (by omega)).1 ?_
            refine V_eqI (y := nI (tC (c0 (k - 30)))) (hT.1 _ (by first | exact (hS _ (by omega)).1 | exact (hS _ (by omega)).2.1)) ?_
            exact V_iret ⟨Or.inl rfl, dX12_log_109⟩ ⟨Nat.le_of_ble_eq_true rfl, Nat.le_of_ble_eq_true rfl⟩ ⟨rfl, congrArg (fun z => some (Value.int z)) (by rw [onN_k hk (by decide)]; unfold telL; first | (exfalso; omega; done) | ((repeat' first | rw [if_pos (by omega)] | rw [if_neg (by omega)]) <;> (first | rfl | (congr 1; omega)))), rfl, rfl⟩
          · skip
            refine V_iload_n dX12_log_75 rfl ?_
            refine V_bipush (v := nI 30) dX12_log_76 rfl ?_
            refine V_bipush (v := nI 30) dX12_log_78 rfl ?_
            refine V_aload_n dX12_log_80 rfl ?_
            refine V_getI dX12_log_81 fX12_155 ⟨Nat.le_of_ble_eq_true rfl, Nat.le_of_ble_eq_true rfl⟩ rfl rfl ?_
            refine V_eqI (y := nI n) hL.1 ?_
            refine V_iaddN dX12_log_84 ?_
            refine V_callS (As := [.int (nI k), .int (nI 30), .int (nI (30 + n))]) (st := []) dX12_log_85 kX12_in lX12_173 (by decide) rfl rfl (Nat.le_of_ble_eq_true rfl) ⟨Nat.le_of_ble_eq_true rfl, Nat.le_of_ble_eq_true rfl⟩ (w_inN (a := 30) (b := ((30 + n : Nat) : Int)) (by decide) (nI_toInt (by omega)) (fun h => by have h2 := (inZ_k (by omega)).mp h; omega)) ?_
            rintro _ _ _ _ ⟨rfl, rfl, rfl, rfl⟩
            refine V_if_eq (tgt := 110) dX12_log_88 rfl (fun _ => ?_) (fun h => absurd h (by decide))
            by_cases f40 : 40 ≤ k ∧ k ≤ 40 + n
            · skip
              refine V_iload_n dX12_log_110 rfl ?_
              refine V_bipush (v := nI 40) dX12_log_111 rfl ?_
              refine V_bipush (v := nI 40) dX12_log_113 rfl ?_
              refine V_aload_n dX12_log_115 rfl ?_
              refine V_getI dX12_log_116 fX12_155 ⟨Nat.le_of_ble_eq_true rfl, Nat.le_of_ble_eq_true rfl⟩ rfl rfl ?_
              refine V_eqI (y := nI n) hL.1 ?_
              refine V_iaddN dX12_log_119 ?_
              refine V_callS (As := [.int (nI k), .int (nI 40), .int (nI (40 + n))]) (st := []) dX12_log_120 kX12_in lX12_173 (by decide) rfl rfl (Nat.le_of_ble_eq_true rfl) ⟨Nat.le_of_ble_eq_true rfl, Nat.le_of_ble_eq_true rfl⟩ (w_inY (a := 40) (b := ((40 + n : Nat) : Int)) (by decide) (nI_toInt (by omega)) ((inZ_k (by omega)).mpr (by omega))) ?_
              rintro _ _ _ _ ⟨rfl, rfl, rfl, rfl⟩
              refine V_if_eq (tgt := 147) dX12_log_123 rfl (fun h => absurd h (by decide)) (fun _ => ?_)
              refine V_aload_n dX12_log_126 rfl ?_
              refine V_getR (b := 63) dX12_log_127 fX12_7 ⟨Nat.le_of_ble_eq_true rfl, Nat.le_of_ble_eq_true rfl⟩ rfl rfl rfl ?_
              refine V_aload_n dX12_log_130 rfl ?_
              refine V_getR (b := 89) dX12_log_131 fX12_91 ⟨Nat.le_of_ble_eq_true rfl, Nat.le_of_ble_eq_true rfl⟩ rfl rfl rfl ?_
              refine V_iload_n dX12_log_134 rfl ?_
              refine V_bipush (v := nI 40) dX12_log_135 rfl ?_
              refine V_isubN dX12_log_137 (by omega) ?_
              refine V_ialdN (k := k - 40) dX12_log_138 ⟨Nat.le_of_ble_eq_true rfl, Nat.le_of_ble_eq_true rfl⟩ rfl (by decide) (by omega) ?_
              refine V_eqI (y := nI (stN (c0 (k - 40)) (c1 (k - 40)) (sLast la sd (k - 40)))) (hL.2.2.2 _ (by omega)) ?_
              refine V_iconst (v := nI 1) dX12_log_139 rfl ?_
              refine V_callS (As := [.int (nI (stN (c0 (k - 40)) (c1 (k - 40)) (sLast la sd (k - 40)))), .int (nI 1)]) (st := [.ref 63]) dX12_log_140 kX12_standIn lX12_181 (by decide) rfl rfl (Nat.le_of_ble_eq_true rfl) ⟨Nat.le_of_ble_eq_true rfl, Nat.le_of_ble_eq_true rfl⟩ (w_standIn (hS _ (by omega)).1 (hS _ (by omega)).2.1 (hS _ (by omega)).2.2 (by decide)) ?_
              rintro _ _ _ _ ⟨rfl, rfl, rfl, rfl⟩
              refine V_eqI (y := nI (c1 (k - 40))) rfl ?_
              refine V_ialdN (k := c1 (k - 40)) dX12_log_143 ⟨Nat.le_of_ble_eq_true rfl, Nat.le_of_ble_eq_true rfl⟩ rfl (by decide) (hS _ (by omega)).2.1 ?_
              refine V_eqI (y := nI (tC (c1 (k - 40)))) (hT.1 _ (by first | exact (hS _ (by omega)).1 | exact (hS _ (by omega)).2.1)) ?_
              refine V_goto (tgt := 148) dX12_log_144 rfl ?_
              exact V_iret ⟨Or.inl rfl, dX12_log_148⟩ ⟨Nat.le_of_ble_eq_true rfl, Nat.le_of_ble_eq_true rfl⟩ ⟨rfl, congrArg (fun z => some (Value.int z)) (by rw [onN_k hk (by decide)]; unfold telL; first | (exfalso; omega; done) | ((repeat' first | rw [if_pos (by omega)] | rw [if_neg (by omega)]) <;> (first | rfl | (congr 1; omega)))), rfl, rfl⟩
            · skip
              refine V_iload_n dX12_log_110 rfl ?_
              refine V_bipush (v := nI 40) dX12_log_111 rfl ?_
              refine V_bipush (v := nI 40) dX12_log_113 rfl ?_
              refine V_aload_n dX12_log_115 rfl ?_
              refine V_getI dX12_log_116 fX12_155 ⟨Nat.le_of_ble_eq_true rfl, Nat.le_of_ble_eq_true rfl⟩ rfl rfl ?_
              refine V_eqI (y := nI n) hL.1 ?_
              refine V_iaddN dX12_log_119 ?_
              refine V_callS (As := [.int (nI k), .int (nI 40), .int (nI (40 + n))]) (st := []) dX12_log_120 kX12_in lX12_173 (by decide) rfl rfl (Nat.le_of_ble_eq_true rfl) ⟨Nat.le_of_ble_eq_true rfl, Nat.le_of_ble_eq_true rfl⟩ (w_inN (a := 40) (b := ((40 + n : Nat) : Int)) (by decide) (nI_toInt (by omega)) (fun h => by have h2 := (inZ_k (by omega)).mp h; omega)) ?_
              rintro _ _ _ _ ⟨rfl, rfl, rfl, rfl⟩
              refine V_if_eq (tgt := 147) dX12_log_123 rfl (fun _ => ?_) (fun h => absurd h (by decide))
              refine V_iconst (v := (-1)) dX12_log_147 rfl ?_
              exact V_iret ⟨Or.inl rfl, dX12_log_148⟩ ⟨Nat.le_of_ble_eq_true rfl, Nat.le_of_ble_eq_true rfl⟩ ⟨rfl, congrArg (fun z => some (Value.int z)) (by rw [onN_k hk (by decide)]; unfold telL; first | (exfalso; omega; done) | ((repeat' first | rw [if_pos (by omega)] | rw [if_neg (by omega)]) <;> (first | rfl | (congr 1; omega)))), rfl, rfl⟩
    · skip
      refine V_aload_n dX12_log_14 rfl ?_
      refine V_getI dX12_log_15 fX12_155 ⟨Nat.le_of_ble_eq_true rfl, Nat.le_of_ble_eq_true rfl⟩ rfl rfl ?_
      refine V_eqI (y := nI n) hL.1 ?_
      exact V_iret ⟨Or.inl rfl, dX12_log_18⟩ ⟨Nat.le_of_ble_eq_true rfl, Nat.le_of_ble_eq_true rfl⟩ ⟨rfl, congrArg (fun z => some (Value.int z)) (by rw [onN_k hk (by decide)]; unfold telL; first | (exfalso; omega; done) | ((repeat' first | rw [if_pos (by omega)] | rw [if_neg (by omega)]) <;> (first | rfl | (congr 1; omega)))), rfl, rfl⟩

set_option maxRecDepth 100000 in
set_option maxHeartbeats 4000000 in
theorem w_logN {G : zG} {I : zI} {J : zJ} (hn : I 62 46 = -1) {x : Int32} : zK G mX12_log 4 [.ref 62, .int x] zsh I J (zA0 (.int (-1)) I J) := by
  refine zK_of kX12_log.2.2.2.2.1 (Nat.le_of_ble_eq_true rfl) ?_
  show V G mX12_log 4 _ 0 [(0, .ref 62), (1, .int x)] [] (0, 0) zsh I J
  refine V_aload_n dX12_log_0 rfl ?_
  refine V_getI dX12_log_1 fX12_155 ⟨Nat.le_of_ble_eq_true rfl, Nat.le_of_ble_eq_true rfl⟩ rfl rfl ?_
  refine V_eqI (y := (-1)) hn ?_
  refine V_iconst (v := (-1)) dX12_log_4 rfl ?_
  refine V_icmp_ne (tgt := 10) dX12_log_5 rfl (fun h => absurd h (by decide)) (fun _ => ?_)
  refine V_iconst (v := (-1)) dX12_log_8 rfl ?_
  exact V_iret ⟨Or.inl rfl, dX12_log_9⟩ ⟨Nat.le_of_ble_eq_true rfl, Nat.le_of_ble_eq_true rfl⟩ ⟨rfl, rfl, rfl, rfl⟩

