/-! THE MODEL: chance told -/
theorem chA_of {I : zI} {Lf : Nat → (Nat → Int32) → Int32} {far : Nat} (h10 : far ≤ 10) (h : I 62 32 = nI far) (hc : chI I Lf far) : chA I Lf := fun f _ h2 h3 => by
  have e : far = f := (nI_eq (by omega) (by omega)).mp (h.symm.trans h3)
  rw [← e]
  exact hc
theorem chV_s {Lf : Nat → (Nat → Int32) → Int32} {far p q l th k : Nat} (h : k ≤ 3 ↔ th = 1) : chV Lf (fct p q l (sWho p q l) far) th k = sCh Lf far p q l k := if_pos h
set_option maxRecDepth 100000 in
set_option maxHeartbeats 4000000 in
theorem w_chance {G : zG} {I : zI} {J : zJ} (hT : mT I) {far : Nat} {a : List (Nat × List (Nat × Nat) × List (Nat × Nat))} {M : Nat → ((Nat → Int32) → Option Int32) × ((Nat → Int32) → Option Int32)} (hf : I 62 5 = nI far) (h6 : 6 ≤ far) (h10 : far ≤ 10) (hP : mpI I 0 a M) (hc : chA I (lfM a M)) {code other last t w : Int32} : zK G mX12_chance 6 [.ref 62, .int code, .int other, .int last, .int t, .int w] zsh I J (zP (fun r I' J' => r = some (.int (onS (stO code other last) (-1) (fun p q l => onO (prO t w) (-1) (fun k => chS (lfM a M) far p q l k)))) ∧ offL I I' ∧ chA I' (lfM a M) ∧ J = J')) := by
  refine zK_of kX12_chance.2.2.2.2.1 (Nat.le_of_ble_eq_true rfl) ?_
  show V G mX12_chance 6 _ 0 [(0, .ref 62), (1, .int code), (2, .int other), (3, .int last), (4, .int t), (5, .int w)] [] (0, 0) zsh I J
  rcases hst : stO code other last with _ | ⟨p, q, l⟩
  · skip
    refine V_aload_n dX12_chance_0 rfl ?_
    refine V_iload_n dX12_chance_1 rfl ?_
    refine V_iload_n dX12_chance_2 rfl ?_
    refine V_iload_n dX12_chance_3 rfl ?_
    refine V_callV (As := [.int code, .int other, .int last]) (st := []) (a := 62) dX12_chance_4 kX12_told lX12_203 (by decide) rfl rfl (Nat.le_of_ble_eq_true rfl) ⟨Nat.le_of_ble_eq_true rfl, Nat.le_of_ble_eq_true rfl⟩ ⟨Nat.le_of_ble_eq_true rfl, Nat.le_of_ble_eq_true rfl⟩ rfl ⟨rfl, by decide⟩ (w_toldN hT hst) ?_
    rintro _ _ _ _ ⟨rfl, rfl, rfl, rfl⟩
    refine V_istore (ls' := [(6, .int (-1)), (0, .ref 62), (1, .int code), (2, .int other), (3, .int last), (4, .int t), (5, .int w)]) dX12_chance_7 (by decide) rfl ?_
    refine V_iload dX12_chance_9 rfl ?_
    refine V_iconst (v := (-1)) dX12_chance_11 rfl ?_
    refine V_icmp_eq (tgt := 35) dX12_chance_12 rfl (fun _ => ?_) (fun h => absurd h (by decide))
    refine V_iconst (v := (-1)) dX12_chance_35 rfl ?_
    exact V_iret ⟨Or.inl rfl, dX12_chance_36⟩ ⟨Nat.le_of_ble_eq_true rfl, Nat.le_of_ble_eq_true rfl⟩ ⟨rfl, rfl, offL_r, hc, rfl⟩
  · have hlq := stO_s hst
    have hl1 : l ≤ 1 := hlq.2.2.2.1
    have hp56 : p < 56 := hlq.2.2.2.2.1
    have hq56 : q < 56 := hlq.2.2.2.2.2
    have hw2 : sWho p q l ≤ 2 := sWho_le
    have hsl := stN_lt hp56 hq56 hl1
    rcases hpr : prO t w with _ | k
    · have hpn := prO_n hpr
      refine V_aload_n dX12_chance_0 rfl ?_
      refine V_iload_n dX12_chance_1 rfl ?_
      refine V_iload_n dX12_chance_2 rfl ?_
      refine V_iload_n dX12_chance_3 rfl ?_
      refine V_callV (As := [.int code, .int other, .int last]) (st := []) (a := 62) dX12_chance_4 kX12_told lX12_203 (by decide) rfl rfl (Nat.le_of_ble_eq_true rfl) ⟨Nat.le_of_ble_eq_true rfl, Nat.le_of_ble_eq_true rfl⟩ ⟨Nat.le_of_ble_eq_true rfl, Nat.le_of_ble_eq_true rfl⟩ rfl ⟨rfl, by decide⟩ (w_toldS hT hst) ?_
      rintro _ _ _ _ ⟨rfl, rfl, rfl, rfl⟩
      refine V_istore (ls' := [(6, .int (nI (stN p q l))), (0, .ref 62), (1, .int code), (2, .int other), (3, .int last), (4, .int t), (5, .int w)]) dX12_chance_7 (by decide) rfl ?_
      refine V_iload dX12_chance_9 rfl ?_
      refine V_iconst (v := (-1)) dX12_chance_11 rfl ?_
      refine V_icmp_eq (tgt := 35) dX12_chance_12 rfl (fun h => absurd h (nI_ne_neg (by omega) (by decide))) (fun _ => ?_)
      by_cases htz : inZ t 1 2
      · skip
        refine V_iload dX12_chance_15 rfl ?_
        refine V_iconst (v := nI 1) dX12_chance_17 rfl ?_
        refine V_iconst (v := nI 2) dX12_chance_18 rfl ?_
        refine V_callS (As := [.int t, .int (nI 1), .int (nI 2)]) (st := []) dX12_chance_19 kX12_in lX12_173 (by decide) rfl rfl (Nat.le_of_ble_eq_true rfl) ⟨Nat.le_of_ble_eq_true rfl, Nat.le_of_ble_eq_true rfl⟩ (w_inY (a := 1) (b := 2) rfl (by decide) htz) ?_
        rintro _ _ _ _ ⟨rfl, rfl, rfl, rfl⟩
        refine V_if_eq (tgt := 35) dX12_chance_22 rfl (fun h => absurd h (by decide)) (fun _ => ?_)
        refine V_aload_n dX12_chance_25 rfl ?_
        refine V_iload dX12_chance_26 rfl ?_
        refine V_callV (As := [.int (nI (stN p q l))]) (st := []) (a := 62) dX12_chance_28 kX12_turnIn lX12_206 (by decide) rfl rfl (Nat.le_of_ble_eq_true rfl) ⟨Nat.le_of_ble_eq_true rfl, Nat.le_of_ble_eq_true rfl⟩ ⟨Nat.le_of_ble_eq_true rfl, Nat.le_of_ble_eq_true rfl⟩ rfl ⟨rfl, by decide⟩ (w_turnIn hT hp56 hq56 hl1) ?_
        rintro _ _ _ _ ⟨rfl, rfl, rfl, rfl⟩
        refine V_iconst (v := nI 2) dX12_chance_31 rfl ?_
        refine V_icmp_neN (tgt := 37) dX12_chance_32 rfl (by omega) (by omega) (fun h32 => ?_) (fun h32 => ?_)
        · skip
          refine V_iload dX12_chance_37 rfl ?_
          refine V_iconst (v := nI 1) dX12_chance_39 rfl ?_
          refine V_icmp_neZ (tgt := 56) (a := t.toInt) (b := 1) dX12_chance_40 rfl rfl (by decide) (fun h40 => ?_) (fun h40 => ?_)
          · skip
            refine V_iload dX12_chance_56 rfl ?_
            refine V_iconst (v := nI 4) dX12_chance_58 rfl ?_
            refine V_bipush (v := nI 6) dX12_chance_59 rfl ?_
            refine V_callS (As := [.int w, .int (nI 4), .int (nI 6)]) (st := []) dX12_chance_61 kX12_in lX12_173 (by decide) rfl rfl (Nat.le_of_ble_eq_true rfl) ⟨Nat.le_of_ble_eq_true rfl, Nat.le_of_ble_eq_true rfl⟩ (w_inN (a := 4) (b := 6) rfl (by decide) (fun h => hpn (Or.inr ⟨by have h1 := htz.1; have h2 := htz.2; omega, h⟩))) ?_
            rintro _ _ _ _ ⟨rfl, rfl, rfl, rfl⟩
            refine V_if_eq (tgt := 82) dX12_chance_64 rfl (fun _ => ?_) (fun h => absurd h (by decide))
            refine V_iconst (v := (-1)) dX12_chance_82 rfl ?_
            exact V_iret ⟨Or.inl rfl, dX12_chance_83⟩ ⟨Nat.le_of_ble_eq_true rfl, Nat.le_of_ble_eq_true rfl⟩ ⟨rfl, rfl, offL_r, hc, rfl⟩
          · skip
            refine V_iload dX12_chance_43 rfl ?_
            refine V_iconst (v := nI 0) dX12_chance_45 rfl ?_
            refine V_iconst (v := nI 3) dX12_chance_46 rfl ?_
            refine V_callS (As := [.int w, .int (nI 0), .int (nI 3)]) (st := []) dX12_chance_47 kX12_in lX12_173 (by decide) rfl rfl (Nat.le_of_ble_eq_true rfl) ⟨Nat.le_of_ble_eq_true rfl, Nat.le_of_ble_eq_true rfl⟩ (w_inN (a := 0) (b := 3) rfl (by decide) (fun h => hpn (Or.inl ⟨h40, h⟩))) ?_
            rintro _ _ _ _ ⟨rfl, rfl, rfl, rfl⟩
            refine V_if_ne (tgt := 84) dX12_chance_50 rfl (fun h => absurd h (by decide)) (fun _ => ?_)
            refine V_goto (tgt := 82) dX12_chance_53 rfl ?_
            refine V_iconst (v := (-1)) dX12_chance_82 rfl ?_
            exact V_iret ⟨Or.inl rfl, dX12_chance_83⟩ ⟨Nat.le_of_ble_eq_true rfl, Nat.le_of_ble_eq_true rfl⟩ ⟨rfl, rfl, offL_r, hc, rfl⟩
        · skip
          refine V_iconst (v := (-1)) dX12_chance_35 rfl ?_
          exact V_iret ⟨Or.inl rfl, dX12_chance_36⟩ ⟨Nat.le_of_ble_eq_true rfl, Nat.le_of_ble_eq_true rfl⟩ ⟨rfl, rfl, offL_r, hc, rfl⟩
      · skip
        refine V_iload dX12_chance_15 rfl ?_
        refine V_iconst (v := nI 1) dX12_chance_17 rfl ?_
        refine V_iconst (v := nI 2) dX12_chance_18 rfl ?_
        refine V_callS (As := [.int t, .int (nI 1), .int (nI 2)]) (st := []) dX12_chance_19 kX12_in lX12_173 (by decide) rfl rfl (Nat.le_of_ble_eq_true rfl) ⟨Nat.le_of_ble_eq_true rfl, Nat.le_of_ble_eq_true rfl⟩ (w_inN (a := 1) (b := 2) rfl (by decide) htz) ?_
        rintro _ _ _ _ ⟨rfl, rfl, rfl, rfl⟩
        refine V_if_eq (tgt := 35) dX12_chance_22 rfl (fun _ => ?_) (fun h => absurd h (by decide))
        refine V_iconst (v := (-1)) dX12_chance_35 rfl ?_
        exact V_iret ⟨Or.inl rfl, dX12_chance_36⟩ ⟨Nat.le_of_ble_eq_true rfl, Nat.le_of_ble_eq_true rfl⟩ ⟨rfl, rfl, offL_r, hc, rfl⟩
    · obtain ⟨rfl, hk⟩ := prO_s hpr
      rcases hk with ⟨rfl, hk⟩ | ⟨rfl, hk⟩
      · skip
        refine V_aload_n dX12_chance_0 rfl ?_
        refine V_iload_n dX12_chance_1 rfl ?_
        refine V_iload_n dX12_chance_2 rfl ?_
        refine V_iload_n dX12_chance_3 rfl ?_
        refine V_callV (As := [.int code, .int other, .int last]) (st := []) (a := 62) dX12_chance_4 kX12_told lX12_203 (by decide) rfl rfl (Nat.le_of_ble_eq_true rfl) ⟨Nat.le_of_ble_eq_true rfl, Nat.le_of_ble_eq_true rfl⟩ ⟨Nat.le_of_ble_eq_true rfl, Nat.le_of_ble_eq_true rfl⟩ rfl ⟨rfl, by decide⟩ (w_toldS hT hst) ?_
        rintro _ _ _ _ ⟨rfl, rfl, rfl, rfl⟩
        refine V_istore (ls' := [(6, .int (nI (stN p q l))), (0, .ref 62), (1, .int code), (2, .int other), (3, .int last), (4, .int (nI 1)), (5, .int (nI k))]) dX12_chance_7 (by decide) rfl ?_
        refine V_iload dX12_chance_9 rfl ?_
        refine V_iconst (v := (-1)) dX12_chance_11 rfl ?_
        refine V_icmp_eq (tgt := 35) dX12_chance_12 rfl (fun h => absurd h (nI_ne_neg (by omega) (by decide))) (fun _ => ?_)
        refine V_iload dX12_chance_15 rfl ?_
        refine V_iconst (v := nI 1) dX12_chance_17 rfl ?_
        refine V_iconst (v := nI 2) dX12_chance_18 rfl ?_
        refine V_callS (As := [.int (nI 1), .int (nI 1), .int (nI 2)]) (st := []) dX12_chance_19 kX12_in lX12_173 (by decide) rfl rfl (Nat.le_of_ble_eq_true rfl) ⟨Nat.le_of_ble_eq_true rfl, Nat.le_of_ble_eq_true rfl⟩ (w_inY (a := 1) (b := 2) rfl (by decide) ((inZ_k (by omega)).mpr (by omega))) ?_
        rintro _ _ _ _ ⟨rfl, rfl, rfl, rfl⟩
        refine V_if_eq (tgt := 35) dX12_chance_22 rfl (fun h => absurd h (by decide)) (fun _ => ?_)
        refine V_aload_n dX12_chance_25 rfl ?_
        refine V_iload dX12_chance_26 rfl ?_
        refine V_callV (As := [.int (nI (stN p q l))]) (st := []) (a := 62) dX12_chance_28 kX12_turnIn lX12_206 (by decide) rfl rfl (Nat.le_of_ble_eq_true rfl) ⟨Nat.le_of_ble_eq_true rfl, Nat.le_of_ble_eq_true rfl⟩ ⟨Nat.le_of_ble_eq_true rfl, Nat.le_of_ble_eq_true rfl⟩ rfl ⟨rfl, by decide⟩ (w_turnIn hT hp56 hq56 hl1) ?_
        rintro _ _ _ _ ⟨rfl, rfl, rfl, rfl⟩
        refine V_iconst (v := nI 2) dX12_chance_31 rfl ?_
        refine V_icmp_neN (tgt := 37) dX12_chance_32 rfl (by omega) (by omega) (fun h32 => ?_) (fun h32 => ?_)
        · skip
          refine V_iload dX12_chance_37 rfl ?_
          refine V_iconst (v := nI 1) dX12_chance_39 rfl ?_
          refine V_icmp_ne (tgt := 56) dX12_chance_40 rfl (fun h => absurd h (by decide)) (fun _ => ?_)
          refine V_iload dX12_chance_43 rfl ?_
          refine V_iconst (v := nI 0) dX12_chance_45 rfl ?_
          refine V_iconst (v := nI 3) dX12_chance_46 rfl ?_
          refine V_callS (As := [.int (nI k), .int (nI 0), .int (nI 3)]) (st := []) dX12_chance_47 kX12_in lX12_173 (by decide) rfl rfl (Nat.le_of_ble_eq_true rfl) ⟨Nat.le_of_ble_eq_true rfl, Nat.le_of_ble_eq_true rfl⟩ (w_inY (a := 0) (b := 3) rfl (by decide) ((inZ_k (by omega)).mpr (by omega))) ?_
          rintro _ _ _ _ ⟨rfl, rfl, rfl, rfl⟩
          refine V_if_ne (tgt := 84) dX12_chance_50 rfl (fun _ => ?_) (fun h => absurd h (by decide))
          refine V_aload_n dX12_chance_84 rfl ?_
          refine V_iload dX12_chance_85 rfl ?_
          refine V_aload_n dX12_chance_87 rfl ?_
          refine V_iload dX12_chance_88 rfl ?_
          refine V_callV (As := [.int (nI (stN p q l))]) (st := [.int (nI (stN p q l)), .ref 62]) (a := 62) dX12_chance_90 kX12_turnIn lX12_206 (by decide) rfl rfl (Nat.le_of_ble_eq_true rfl) ⟨Nat.le_of_ble_eq_true rfl, Nat.le_of_ble_eq_true rfl⟩ ⟨Nat.le_of_ble_eq_true rfl, Nat.le_of_ble_eq_true rfl⟩ rfl ⟨rfl, by decide⟩ (w_turnIn hT hp56 hq56 hl1) ?_
          rintro _ _ _ _ ⟨rfl, rfl, rfl, rfl⟩
          refine V_iload dX12_chance_93 rfl ?_
          refine V_callV (As := [.int (nI (stN p q l)), .int (nI (sWho p q l)), .int (nI 1)]) (st := []) (a := 62) dX12_chance_95 kX12_laysChances lX12_347 (by decide) rfl rfl (Nat.le_of_ble_eq_true rfl) ⟨Nat.le_of_ble_eq_true rfl, Nat.le_of_ble_eq_true rfl⟩ ⟨Nat.le_of_ble_eq_true rfl, Nat.le_of_ble_eq_true rfl⟩ rfl ⟨rfl, by decide⟩ (w_lays hT hp56 hq56 hl1 hf h6 h10 hP hc (by omega) (by omega)) ?_
          rintro r sh' I' J' ⟨rfl, rfl, hq9, rfl⟩
          refine V_aload_n dX12_chance_98 rfl ?_
          refine V_getR (b := 81) dX12_chance_99 fX12_65 ⟨Nat.le_of_ble_eq_true rfl, Nat.le_of_ble_eq_true rfl⟩ rfl rfl rfl ?_
          refine V_iload dX12_chance_102 rfl ?_
          refine V_ialdN (k := k) dX12_chance_104 ⟨Nat.le_of_ble_eq_true rfl, Nat.le_of_ble_eq_true rfl⟩ rfl (by decide) (by omega) ?_
          refine V_eqI (y := nI (sCh (lfM a M) far p q l k)) ((hq9.2.1 k (by omega)).trans (congrArg nI (chV_s (by omega)))) ?_
          exact V_iret ⟨Or.inl rfl, dX12_chance_105⟩ ⟨Nat.le_of_ble_eq_true rfl, Nat.le_of_ble_eq_true rfl⟩ ⟨rfl, congrArg (fun z => some (Value.int z)) (if_neg (fun h => h.elim h32 (fun h => by first | exact h.2 hcs | (have := h.1; omega)))).symm, hq9.1, chA_of h10 hq9.2.2.1 hq9.2.2.2, rfl⟩
        · skip
          refine V_iconst (v := (-1)) dX12_chance_35 rfl ?_
          exact V_iret ⟨Or.inl rfl, dX12_chance_36⟩ ⟨Nat.le_of_ble_eq_true rfl, Nat.le_of_ble_eq_true rfl⟩ ⟨rfl, congrArg (fun z => some (Value.int z)) (if_pos (by first | exact Or.inl h32 | exact Or.inr ⟨by omega, hcs⟩)).symm, offL_r, hc, rfl⟩
      · skip
        refine V_aload_n dX12_chance_0 rfl ?_
        refine V_iload_n dX12_chance_1 rfl ?_
        refine V_iload_n dX12_chance_2 rfl ?_
        refine V_iload_n dX12_chance_3 rfl ?_
        refine V_callV (As := [.int code, .int other, .int last]) (st := []) (a := 62) dX12_chance_4 kX12_told lX12_203 (by decide) rfl rfl (Nat.le_of_ble_eq_true rfl) ⟨Nat.le_of_ble_eq_true rfl, Nat.le_of_ble_eq_true rfl⟩ ⟨Nat.le_of_ble_eq_true rfl, Nat.le_of_ble_eq_true rfl⟩ rfl ⟨rfl, by decide⟩ (w_toldS hT hst) ?_
        rintro _ _ _ _ ⟨rfl, rfl, rfl, rfl⟩
        refine V_istore (ls' := [(6, .int (nI (stN p q l))), (0, .ref 62), (1, .int code), (2, .int other), (3, .int last), (4, .int (nI 2)), (5, .int (nI k))]) dX12_chance_7 (by decide) rfl ?_
        refine V_iload dX12_chance_9 rfl ?_
        refine V_iconst (v := (-1)) dX12_chance_11 rfl ?_
        refine V_icmp_eq (tgt := 35) dX12_chance_12 rfl (fun h => absurd h (nI_ne_neg (by omega) (by decide))) (fun _ => ?_)
        refine V_iload dX12_chance_15 rfl ?_
        refine V_iconst (v := nI 1) dX12_chance_17 rfl ?_
        refine V_iconst (v := nI 2) dX12_chance_18 rfl ?_
        refine V_callS (As := [.int (nI 2), .int (nI 1), .int (nI 2)]) (st := []) dX12_chance_19 kX12_in lX12_173 (by decide) rfl rfl (Nat.le_of_ble_eq_true rfl) ⟨Nat.le_of_ble_eq_true rfl, Nat.le_of_ble_eq_true rfl⟩ (w_inY (a := 1) (b := 2) rfl (by decide) ((inZ_k (by omega)).mpr (by omega))) ?_
        rintro _ _ _ _ ⟨rfl, rfl, rfl, rfl⟩
        refine V_if_eq (tgt := 35) dX12_chance_22 rfl (fun h => absurd h (by decide)) (fun _ => ?_)
        refine V_aload_n dX12_chance_25 rfl ?_
        refine V_iload dX12_chance_26 rfl ?_
        refine V_callV (As := [.int (nI (stN p q l))]) (st := []) (a := 62) dX12_chance_28 kX12_turnIn lX12_206 (by decide) rfl rfl (Nat.le_of_ble_eq_true rfl) ⟨Nat.le_of_ble_eq_true rfl, Nat.le_of_ble_eq_true rfl⟩ ⟨Nat.le_of_ble_eq_true rfl, Nat.le_of_ble_eq_true rfl⟩ rfl ⟨rfl, by decide⟩ (w_turnIn hT hp56 hq56 hl1) ?_
        rintro _ _ _ _ ⟨rfl, rfl, rfl, rfl⟩
        refine V_iconst (v := nI 2) dX12_chance_31 rfl ?_
        refine V_icmp_neN (tgt := 37) dX12_chance_32 rfl (by omega) (by omega) (fun h32 => ?_) (fun h32 => ?_)
        · skip
          refine V_iload dX12_chance_37 rfl ?_
          refine V_iconst (v := nI 1) dX12_chance_39 rfl ?_
          refine V_icmp_ne (tgt := 56) dX12_chance_40 rfl (fun _ => ?_) (fun h => absurd h (by decide))
          refine V_iload dX12_chance_56 rfl ?_
          refine V_iconst (v := nI 4) dX12_chance_58 rfl ?_
          refine V_bipush (v := nI 6) dX12_chance_59 rfl ?_
          refine V_callS (As := [.int (nI k), .int (nI 4), .int (nI 6)]) (st := []) dX12_chance_61 kX12_in lX12_173 (by decide) rfl rfl (Nat.le_of_ble_eq_true rfl) ⟨Nat.le_of_ble_eq_true rfl, Nat.le_of_ble_eq_true rfl⟩ (w_inY (a := 4) (b := 6) rfl (by decide) ((inZ_k (by omega)).mpr (by omega))) ?_
          rintro _ _ _ _ ⟨rfl, rfl, rfl, rfl⟩
          refine V_if_eq (tgt := 82) dX12_chance_64 rfl (fun h => absurd h (by decide)) (fun _ => ?_)
          refine V_aload_n dX12_chance_67 rfl ?_
          refine V_iload dX12_chance_68 rfl ?_
          refine V_aload_n dX12_chance_70 rfl ?_
          refine V_iload dX12_chance_71 rfl ?_
          refine V_callV (As := [.int (nI (stN p q l))]) (st := [.int (nI (stN p q l)), .ref 62]) (a := 62) dX12_chance_73 kX12_turnIn lX12_206 (by decide) rfl rfl (Nat.le_of_ble_eq_true rfl) ⟨Nat.le_of_ble_eq_true rfl, Nat.le_of_ble_eq_true rfl⟩ ⟨Nat.le_of_ble_eq_true rfl, Nat.le_of_ble_eq_true rfl⟩ rfl ⟨rfl, by decide⟩ (w_turnIn hT hp56 hq56 hl1) ?_
          rintro _ _ _ _ ⟨rfl, rfl, rfl, rfl⟩
          by_cases hcs : sCan p q (sWho p q l) = true
          · skip
            refine V_callV (As := [.int (nI (stN p q l)), .int (nI (sWho p q l))]) (st := []) (a := 62) dX12_chance_76 kX12_canShoot lX12_337 (by decide) rfl rfl (Nat.le_of_ble_eq_true rfl) ⟨Nat.le_of_ble_eq_true rfl, Nat.le_of_ble_eq_true rfl⟩ ⟨Nat.le_of_ble_eq_true rfl, Nat.le_of_ble_eq_true rfl⟩ rfl ⟨rfl, by decide⟩ (q_y (w_canShoot hT hp56 hq56 hl1 (by omega)) hcs) ?_
            rintro _ _ _ _ ⟨rfl, rfl, rfl, rfl⟩
            refine V_if_ne (tgt := 84) dX12_chance_79 rfl (fun _ => ?_) (fun h => absurd h (by decide))
            refine V_aload_n dX12_chance_84 rfl ?_
            refine V_iload dX12_chance_85 rfl ?_
            refine V_aload_n dX12_chance_87 rfl ?_
            refine V_iload dX12_chance_88 rfl ?_
            refine V_callV (As := [.int (nI (stN p q l))]) (st := [.int (nI (stN p q l)), .ref 62]) (a := 62) dX12_chance_90 kX12_turnIn lX12_206 (by decide) rfl rfl (Nat.le_of_ble_eq_true rfl) ⟨Nat.le_of_ble_eq_true rfl, Nat.le_of_ble_eq_true rfl⟩ ⟨Nat.le_of_ble_eq_true rfl, Nat.le_of_ble_eq_true rfl⟩ rfl ⟨rfl, by decide⟩ (w_turnIn hT hp56 hq56 hl1) ?_
            rintro _ _ _ _ ⟨rfl, rfl, rfl, rfl⟩
            refine V_iload dX12_chance_93 rfl ?_
            refine V_callV (As := [.int (nI (stN p q l)), .int (nI (sWho p q l)), .int (nI 2)]) (st := []) (a := 62) dX12_chance_95 kX12_laysChances lX12_347 (by decide) rfl rfl (Nat.le_of_ble_eq_true rfl) ⟨Nat.le_of_ble_eq_true rfl, Nat.le_of_ble_eq_true rfl⟩ ⟨Nat.le_of_ble_eq_true rfl, Nat.le_of_ble_eq_true rfl⟩ rfl ⟨rfl, by decide⟩ (w_lays hT hp56 hq56 hl1 hf h6 h10 hP hc (by omega) (by omega)) ?_
            rintro r sh' I' J' ⟨rfl, rfl, hq9, rfl⟩
            refine V_aload_n dX12_chance_98 rfl ?_
            refine V_getR (b := 81) dX12_chance_99 fX12_65 ⟨Nat.le_of_ble_eq_true rfl, Nat.le_of_ble_eq_true rfl⟩ rfl rfl rfl ?_
            refine V_iload dX12_chance_102 rfl ?_
            refine V_ialdN (k := k) dX12_chance_104 ⟨Nat.le_of_ble_eq_true rfl, Nat.le_of_ble_eq_true rfl⟩ rfl (by decide) (by omega) ?_
            refine V_eqI (y := nI (sCh (lfM a M) far p q l k)) ((hq9.2.1 k (by omega)).trans (congrArg nI (chV_s (by omega)))) ?_
            exact V_iret ⟨Or.inl rfl, dX12_chance_105⟩ ⟨Nat.le_of_ble_eq_true rfl, Nat.le_of_ble_eq_true rfl⟩ ⟨rfl, congrArg (fun z => some (Value.int z)) (if_neg (fun h => h.elim h32 (fun h => by first | exact h.2 hcs | (have := h.1; omega)))).symm, hq9.1, chA_of h10 hq9.2.2.1 hq9.2.2.2, rfl⟩
          · skip
            refine V_callV (As := [.int (nI (stN p q l)), .int (nI (sWho p q l))]) (st := []) (a := 62) dX12_chance_76 kX12_canShoot lX12_337 (by decide) rfl rfl (Nat.le_of_ble_eq_true rfl) ⟨Nat.le_of_ble_eq_true rfl, Nat.le_of_ble_eq_true rfl⟩ ⟨Nat.le_of_ble_eq_true rfl, Nat.le_of_ble_eq_true rfl⟩ rfl ⟨rfl, by decide⟩ (q_n (w_canShoot hT hp56 hq56 hl1 (by omega)) hcs) ?_
            rintro _ _ _ _ ⟨rfl, rfl, rfl, rfl⟩
            refine V_if_ne (tgt := 84) dX12_chance_79 rfl (fun h => absurd h (by decide)) (fun _ => ?_)
            refine V_iconst (v := (-1)) dX12_chance_82 rfl ?_
            exact V_iret ⟨Or.inl rfl, dX12_chance_83⟩ ⟨Nat.le_of_ble_eq_true rfl, Nat.le_of_ble_eq_true rfl⟩ ⟨rfl, congrArg (fun z => some (Value.int z)) (if_pos (by first | exact Or.inl h32 | exact Or.inr ⟨by omega, hcs⟩)).symm, offL_r, hc, rfl⟩
        · skip
          refine V_iconst (v := (-1)) dX12_chance_35 rfl ?_
          exact V_iret ⟨Or.inl rfl, dX12_chance_36⟩ ⟨Nat.le_of_ble_eq_true rfl, Nat.le_of_ble_eq_true rfl⟩ ⟨rfl, congrArg (fun z => some (Value.int z)) (if_pos (by first | exact Or.inl h32 | exact Or.inr ⟨by omega, hcs⟩)).symm, offL_r, hc, rfl⟩

