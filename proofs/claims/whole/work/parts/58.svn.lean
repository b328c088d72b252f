/-! THE MODEL: one state settled where there is no rule -/
set_option maxRecDepth 100000 in
set_option maxHeartbeats 4000000 in
theorem w_svN {G : zG} {I : zI} {J : zJ} (hT : mT I) {far : Nat} {a : List (Nat × List (Nat × Nat) × List (Nat × Nat))} {M : Nat → ((Nat → Int32) → Option Int32) × ((Nat → Int32) → Option Int32)} (hf : I 62 5 = nI far) (h6 : 6 ≤ far) (h10 : far ≤ 10) (hP : mpI I 0 a M) (hc : chA I (lfM a M)) {Rl : Nat → Nat → (Nat → Int32) → Int32} {one two : Int32} {kd : Int32} {md : Nat} {p q l : Nat} (hp : p < 56) (hq : q < 56) (hl : l ≤ 1) (hw : sWho p q l ≤ 1) (hcn : ¬ sCan p q (sWho p q l) = true) (hr : (if sWho p q l = 0 then I 62 33 else I 62 34) = -1) (hJ : ∀ part, part ≤ 6 → J 83 (stN (sNx p q l part).1 (sNx p q l part).2 (sWho p q l)) = (vX kd one two Rl (lfM a M) far (sNx p q l part).1 (sNx p q l part).2 (sWho p q l)).1) : zK G mX12_solvesAt 7 [.ref 62, .int (nI (stN p q l)), .int (nI md)] zsh I J (zP (fun r I' J' => r = none ∧ (offV I I' (stN p q l) ∧ I' 85 (stN p q l) = nI 1) ∧ chA I' (lfM a M) ∧ J' = zwl J 83 (stN p q l) (vX kd one two Rl (lfM a M) far p q l).1)) := by
  refine zK_of kX12_solvesAt.2.2.2.2.1 (Nat.le_of_ble_eq_true rfl) ?_
  show V G mX12_solvesAt 7 _ 0 [(0, .ref 62), (1, .int (nI (stN p q l))), (2, .int (nI md))] [] (0, 0) zsh I J
  have hst := stN_lt hp hq hl
  have hW1 : sW (fun a b c => J 83 (stN a b c)) (lfM a M) far p q l 1 = sW (fun x y z => (vX kd one two Rl (lfM a M) far x y z).1) (lfM a M) far p q l 1 := sW_c hJ
  refine V_aload_n dX12_solvesAt_0 rfl ?_
  refine V_iload_n dX12_solvesAt_1 rfl ?_
  refine V_callV (As := [.int (nI (stN p q l))]) (st := []) (a := 62) dX12_solvesAt_2 kX12_turnIn lX12_206 (by decide) rfl rfl (Nat.le_of_ble_eq_true rfl) ⟨Nat.le_of_ble_eq_true rfl, Nat.le_of_ble_eq_true rfl⟩ ⟨Nat.le_of_ble_eq_true rfl, Nat.le_of_ble_eq_true rfl⟩ rfl ⟨rfl, by decide⟩ (w_turnIn hT hp hq hl) ?_
  rintro _ _ _ _ ⟨rfl, rfl, rfl, rfl⟩
  refine V_istore_n (ls' := [(3, .int (nI (sWho p q l))), (0, .ref 62), (1, .int (nI (stN p q l))), (2, .int (nI md))]) dX12_solvesAt_5 (by decide) rfl ?_
  refine V_iload_n dX12_solvesAt_6 rfl ?_
  refine V_iconst (v := nI 2) dX12_solvesAt_7 rfl ?_
  refine V_icmp_neN (tgt := 31) dX12_solvesAt_8 rfl (by omega) (by omega) (fun _ => ?_) (fun h => absurd h (by omega))
  refine V_iload_n dX12_solvesAt_31 rfl ?_
  refine V_if_neN (tgt := 42) dX12_solvesAt_32 rfl (by omega) (fun h32 => ?_) (fun h32 => ?_)
  · skip
    refine V_aload_n dX12_solvesAt_42 rfl ?_
    refine V_getI dX12_solvesAt_43 fX12_363 ⟨Nat.le_of_ble_eq_true rfl, Nat.le_of_ble_eq_true rfl⟩ rfl rfl ?_
    refine V_eqI (y := (-1)) ((if_neg h32).symm.trans hr) ?_
    refine V_istore (ls' := [(4, .int (-1)), (3, .int (nI (sWho p q l))), (0, .ref 62), (1, .int (nI (stN p q l))), (2, .int (nI md))]) dX12_solvesAt_46 (by decide) rfl ?_
    refine V_aload_n dX12_solvesAt_48 rfl ?_
    refine V_getR (b := 85) dX12_solvesAt_49 fX12_79 ⟨Nat.le_of_ble_eq_true rfl, Nat.le_of_ble_eq_true rfl⟩ rfl rfl rfl ?_
    refine V_iload_n dX12_solvesAt_52 rfl ?_
    refine V_iconst (v := nI 1) dX12_solvesAt_53 rfl ?_
    refine V_bastN (k := stN p q l) dX12_solvesAt_54 ⟨Nat.le_of_ble_eq_true rfl, Nat.le_of_ble_eq_true rfl⟩ rfl (by decide) (by omega) ?_
    refine V_iload dX12_solvesAt_55 rfl ?_
    refine V_iconst (v := (-1)) dX12_solvesAt_57 rfl ?_
    refine V_icmp_eq (tgt := 99) dX12_solvesAt_58 rfl (fun _ => ?_) (fun h => absurd h (by decide))
    refine V_aload_n dX12_solvesAt_99 rfl ?_
    refine V_getR (b := 83) dX12_solvesAt_100 fX12_72 ⟨Nat.le_of_ble_eq_true rfl, Nat.le_of_ble_eq_true rfl⟩ rfl rfl rfl ?_
    refine V_iload_n dX12_solvesAt_103 rfl ?_
    refine V_aload_n dX12_solvesAt_104 rfl ?_
    refine V_iload_n dX12_solvesAt_105 rfl ?_
    refine V_iload_n dX12_solvesAt_106 rfl ?_
    refine V_iconst (v := nI 1) dX12_solvesAt_107 rfl ?_
    refine V_aload_n dX12_solvesAt_108 rfl ?_
    refine V_getR (b := 83) dX12_solvesAt_109 fX12_72 ⟨Nat.le_of_ble_eq_true rfl, Nat.le_of_ble_eq_true rfl⟩ rfl rfl rfl ?_
    refine V_callV (As := [.int (nI (stN p q l)), .int (nI (sWho p q l)), .int (nI 1), .ref 83]) (st := [.int (nI (stN p q l)), .ref 83]) (a := 62) dX12_solvesAt_112 kX12_valueBy lX12_369 (by decide) rfl rfl (Nat.le_of_ble_eq_true rfl) ⟨Nat.le_of_ble_eq_true rfl, Nat.le_of_ble_eq_true rfl⟩ ⟨Nat.le_of_ble_eq_true rfl, Nat.le_of_ble_eq_true rfl⟩ rfl ⟨rfl, by decide⟩ (w_valueBy (I := zwr I 85 (stN p q l) (vp_nar .byte (nI 1))) (va := 83) (mT_c hT rfl rfl rfl) hf h6 h10 (mpI_c hP (fun k h1 h2 => by funext j; have : k ≠ 85 := (by omega); simp [zwr_at, this])) (chA_c hc rfl rfl) hp hq hl hw ⟨⟨Nat.le_of_ble_eq_true rfl, Nat.le_of_ble_eq_true rfl⟩, rfl⟩ (Or.inl rfl) (fun h => absurd h (by decide))) ?_
    rintro r sh' I' J' ⟨rfl, rfl, hq1, hq2, rfl⟩
    refine V_lastN (k := stN p q l) dX12_solvesAt_115 ⟨Nat.le_of_ble_eq_true rfl, Nat.le_of_ble_eq_true rfl⟩ rfl (by decide) (by omega) ?_
    refine V_aload_n dX12_solvesAt_116 rfl ?_
    refine V_iload_n dX12_solvesAt_117 rfl ?_
    refine V_iload_n dX12_solvesAt_118 rfl ?_
    refine V_callV (As := [.int (nI (stN p q l)), .int (nI (sWho p q l))]) (st := []) (a := 62) dX12_solvesAt_119 kX12_canShoot lX12_337 (by decide) rfl rfl (Nat.le_of_ble_eq_true rfl) ⟨Nat.le_of_ble_eq_true rfl, Nat.le_of_ble_eq_true rfl⟩ ⟨Nat.le_of_ble_eq_true rfl, Nat.le_of_ble_eq_true rfl⟩ rfl ⟨rfl, by decide⟩ (q_n (w_canShoot (mT_l (I := zwr I 85 (stN p q l) (vp_nar .byte (nI 1))) (mT_c hT rfl rfl rfl) hq1) hp hq hl hw) hcn) ?_
    rintro _ _ _ _ ⟨rfl, rfl, rfl, rfl⟩
    refine V_if_ne (tgt := 126) dX12_solvesAt_122 rfl (fun h => absurd h (by decide)) (fun _ => ?_)
    exact V_ret ⟨rfl, dX12_solvesAt_125⟩ ⟨Nat.le_of_ble_eq_true rfl, Nat.le_of_ble_eq_true rfl⟩ ⟨rfl, rfl, ⟨offV_l (offV_z offV_r) hq1, (congrFun (hq1.1 85 (by decide) (by decide) (by decide) (by decide) (by decide)) _).trans (by simp [zwr_at]; decide)⟩, hq2, by rw [vX_s hp hq hw, sTold_n hcn, ← hW1]; rfl⟩
  · skip
    refine V_aload_n dX12_solvesAt_35 rfl ?_
    refine V_getI dX12_solvesAt_36 fX12_360 ⟨Nat.le_of_ble_eq_true rfl, Nat.le_of_ble_eq_true rfl⟩ rfl rfl ?_
    refine V_eqI (y := (-1)) ((if_pos h32).symm.trans hr) ?_
    refine V_goto (tgt := 46) dX12_solvesAt_39 rfl ?_
    refine V_istore (ls' := [(4, .int (-1)), (3, .int (nI (sWho p q l))), (0, .ref 62), (1, .int (nI (stN p q l))), (2, .int (nI md))]) dX12_solvesAt_46 (by decide) rfl ?_
    refine V_aload_n dX12_solvesAt_48 rfl ?_
    refine V_getR (b := 85) dX12_solvesAt_49 fX12_79 ⟨Nat.le_of_ble_eq_true rfl, Nat.le_of_ble_eq_true rfl⟩ rfl rfl rfl ?_
    refine V_iload_n dX12_solvesAt_52 rfl ?_
    refine V_iconst (v := nI 1) dX12_solvesAt_53 rfl ?_
    refine V_bastN (k := stN p q l) dX12_solvesAt_54 ⟨Nat.le_of_ble_eq_true rfl, Nat.le_of_ble_eq_true rfl⟩ rfl (by decide) (by omega) ?_
    refine V_iload dX12_solvesAt_55 rfl ?_
    refine V_iconst (v := (-1)) dX12_solvesAt_57 rfl ?_
    refine V_icmp_eq (tgt := 99) dX12_solvesAt_58 rfl (fun _ => ?_) (fun h => absurd h (by decide))
    refine V_aload_n dX12_solvesAt_99 rfl ?_
    refine V_getR (b := 83) dX12_solvesAt_100 fX12_72 ⟨Nat.le_of_ble_eq_true rfl, Nat.le_of_ble_eq_true rfl⟩ rfl rfl rfl ?_
    refine V_iload_n dX12_solvesAt_103 rfl ?_
    refine V_aload_n dX12_solvesAt_104 rfl ?_
    refine V_iload_n dX12_solvesAt_105 rfl ?_
    refine V_iload_n dX12_solvesAt_106 rfl ?_
    refine V_iconst (v := nI 1) dX12_solvesAt_107 rfl ?_
    refine V_aload_n dX12_solvesAt_108 rfl ?_
    refine V_getR (b := 83) dX12_solvesAt_109 fX12_72 ⟨Nat.le_of_ble_eq_true rfl, Nat.le_of_ble_eq_true rfl⟩ rfl rfl rfl ?_
    refine V_callV (As := [.int (nI (stN p q l)), .int (nI (sWho p q l)), .int (nI 1), .ref 83]) (st := [.int (nI (stN p q l)), .ref 83]) (a := 62) dX12_solvesAt_112 kX12_valueBy lX12_369 (by decide) rfl rfl (Nat.le_of_ble_eq_true rfl) ⟨Nat.le_of_ble_eq_true rfl, Nat.le_of_ble_eq_true rfl⟩ ⟨Nat.le_of_ble_eq_true rfl, Nat.le_of_ble_eq_true rfl⟩ rfl ⟨rfl, by decide⟩ (w_valueBy (I := zwr I 85 (stN p q l) (vp_nar .byte (nI 1))) (va := 83) (mT_c hT rfl rfl rfl) hf h6 h10 (mpI_c hP (fun k h1 h2 => by funext j; have : k ≠ 85 := (by omega); simp [zwr_at, this])) (chA_c hc rfl rfl) hp hq hl hw ⟨⟨Nat.le_of_ble_eq_true rfl, Nat.le_of_ble_eq_true rfl⟩, rfl⟩ (Or.inl rfl) (fun h => absurd h (by decide))) ?_
    rintro r sh' I' J' ⟨rfl, rfl, hq1, hq2, rfl⟩
    refine V_lastN (k := stN p q l) dX12_solvesAt_115 ⟨Nat.le_of_ble_eq_true rfl, Nat.le_of_ble_eq_true rfl⟩ rfl (by decide) (by omega) ?_
    refine V_aload_n dX12_solvesAt_116 rfl ?_
    refine V_iload_n dX12_solvesAt_117 rfl ?_
    refine V_iload_n dX12_solvesAt_118 rfl ?_
    refine V_callV (As := [.int (nI (stN p q l)), .int (nI (sWho p q l))]) (st := []) (a := 62) dX12_solvesAt_119 kX12_canShoot lX12_337 (by decide) rfl rfl (Nat.le_of_ble_eq_true rfl) ⟨Nat.le_of_ble_eq_true rfl, Nat.le_of_ble_eq_true rfl⟩ ⟨Nat.le_of_ble_eq_true rfl, Nat.le_of_ble_eq_true rfl⟩ rfl ⟨rfl, by decide⟩ (q_n (w_canShoot (mT_l (I := zwr I 85 (stN p q l) (vp_nar .byte (nI 1))) (mT_c hT rfl rfl rfl) hq1) hp hq hl hw) hcn) ?_
    rintro _ _ _ _ ⟨rfl, rfl, rfl, rfl⟩
    refine V_if_ne (tgt := 126) dX12_solvesAt_122 rfl (fun h => absurd h (by decide)) (fun _ => ?_)
    exact V_ret ⟨rfl, dX12_solvesAt_125⟩ ⟨Nat.le_of_ble_eq_true rfl, Nat.le_of_ble_eq_true rfl⟩ ⟨rfl, rfl, ⟨offV_l (offV_z offV_r) hq1, (congrFun (hq1.1 85 (by decide) (by decide) (by decide) (by decide) (by decide)) _).trans (by simp [zwr_at]; decide)⟩, hq2, by rw [vX_s hp hq hw, sTold_n hcn, ← hW1]; rfl⟩

