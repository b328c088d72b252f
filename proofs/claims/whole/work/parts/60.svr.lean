/-! THE MODEL: one state settled by a rule -/
theorem pk_1 {w : Nat} {a b : Int64} : sPick 1 w a b = (a, false) := if_pos rfl
theorem pk_2 {w : Nat} {a b : Int64} : sPick 2 w a b = (b, true) := (if_neg (by decide)).trans (if_pos rfl)
theorem vX_r {one two : Int32} {Rl : Nat → Nat → (Nat → Int32) → Int32} {Lf : Nat → (Nat → Int32) → Int32} {far p q l k t : Nat} {v : Int32} (hp : p < 56) (hq : q < 56) (hw : sWho p q l ≤ 1) (hk : k < 4) (hr : (if sWho p q l = 0 then one else two) = nI k) (hu : Rl k 114 (fcS p q l far) = v) (ht : t = if v = 2 ∧ sCan p q (sWho p q l) = true then 2 else 1) : vX 1 one two Rl Lf far p q l = (sW (fun x y z => (vX 1 one two Rl Lf far x y z).1) Lf far p q l t, decide (t = 2)) := by
  rw [vX_s hp hq hw]
  by_cases hc : sCan p q (sWho p q l) = true
  · rw [sTold_r hc hk hr, hu]
    by_cases h2 : v = 2
    · rw [if_pos ⟨h2, hc⟩] at ht
      rw [if_pos h2, ht, pk_2]
      rfl
    · rw [if_neg (fun h => h2 h.1)] at ht
      rw [if_neg h2, ht, pk_1]
      rfl
  · rw [if_neg (fun h => hc h.2)] at ht
    rw [sTold_n hc, ht, pk_1]
    rfl
theorem at85r {v : Int64 × Bool} {u : Int64} {I I1 : zI} {s t : Nat} (ht : t = 1 ∨ t = 2) (hv : v = (u, decide (t = 2))) (h1 : offL (zwr I 85 s (vp_nar .byte (nI t).toInt8.toInt32)) I1) : I1 85 s = if v.2 = true then nI 2 else nI 1 := by
  rw [hv, h1.1 85 (by decide) (by decide) (by decide) (by decide) (by decide)]
  simp only [zwr_at]
  rw [if_pos ⟨trivial, trivial⟩]
  rcases ht with e | e <;> subst e
  · rw [if_neg (show ¬ decide (1 = 2) = true from Bool.false_ne_true)]
    decide
  · rw [if_pos (show decide (2 = 2) = true from rfl)]
    decide
theorem offF_L {I I' : zI} (h : offF I I') : offL I I' := ⟨fun a _ h1 h2 _ _ => h a h1 h2, fun k _ => congrFun (h 62 (by decide) (by decide)) k⟩
theorem z82 {I I1 : zI} {s : Nat} {x y : Int32} (h : offF (zwr I 85 s x) I1) : zwr I1 85 s y 82 = I 82 := by
  funext j
  rw [show zwr I1 85 s y 82 j = I1 82 j from by simp [zwr_at], h 82 (by decide) (by decide)]
  simp [zwr_at]
theorem mT_v {I I' : zI} {s : Nat} (h : mT I) (e : offV I I' s) : mT I' := mT_c h (e.1 63 (by decide) (by decide) (by decide) (by decide) (by decide) (by decide)) (e.1 64 (by decide) (by decide) (by decide) (by decide) (by decide) (by decide)) (e.1 65 (by decide) (by decide) (by decide) (by decide) (by decide) (by decide))
theorem mpI_v {I I' : zI} {s t : Nat} {a : List (Nat × List (Nat × Nat) × List (Nat × Nat))} {M : Nat → ((Nat → Int32) → Option Int32) × ((Nat → Int32) → Option Int32)} (h : mpI I t a M) (e : offV I I' s) : mpI I' t a M := mpI_c h (fun k h1 h2 => e.1 k (by omega) (by omega) (by omega) (by omega) (by omega) (by omega))
set_option maxRecDepth 100000 in
set_option maxHeartbeats 4000000 in
theorem w_svR {G : zG} {I : zI} {J : zJ} (hT : mT I) {far : Nat} {a : List (Nat × List (Nat × Nat) × List (Nat × Nat))} {M : Nat → ((Nat → Int32) → Option Int32) × ((Nat → Int32) → Option Int32)} (hf : I 62 5 = nI far) (h6 : 6 ≤ far) (h10 : far ≤ 10) (hP : mpI I 0 a M) (hc : chA I (lfM a M)) {Rl : Nat → Nat → (Nat → Int32) → Int32} {one two : Int32} {md : Nat} {p q l : Nat} (hp : p < 56) (hq : q < 56) (hl : l ≤ 1) (hw : sWho p q l ≤ 1) {k : Nat} (hk : k < 4) {a2 : List (Nat × List (Nat × Nat) × List (Nat × Nat))} {M2 : Nat → ((Nat → Int32) → Option Int32) × ((Nat → Int32) → Option Int32)} (hR : mpI I (k + 1) a2 M2) (h114 : ∀ (j c : Nat) (g1 g2 : List (Nat × Nat)), a2[j]? = some (c, g1, g2) → c = 114) (hRl : Rl k 114 (fcS p q l far) = mnL a2 M2 114 (fct p q l (sWho p q l) far) a2.length 0) (hr : (if sWho p q l = 0 then I 62 33 else I 62 34) = nI k) (hrr : (if sWho p q l = 0 then one else two) = nI k) (hJ : ∀ part, part ≤ 6 → J 83 (stN (sNx p q l part).1 (sNx p q l part).2 (sWho p q l)) = (vX 1 one two Rl (lfM a M) far (sNx p q l part).1 (sNx p q l part).2 (sWho p q l)).1) : zK G mX12_solvesAt 7 [.ref 62, .int (nI (stN p q l)), .int (nI md)] zsh I J (zP (fun r I' J' => r = none ∧ (offV I I' (stN p q l) ∧ I' 85 (stN p q l) = if (vX 1 one two Rl (lfM a M) far p q l).2 = true then nI 2 else nI 1) ∧ chA I' (lfM a M) ∧ J' = zwl J 83 (stN p q l) (vX 1 one two Rl (lfM a M) far p q l).1)) := by
  refine zK_of kX12_solvesAt.2.2.2.2.1 (Nat.le_of_ble_eq_true rfl) ?_
  show V G mX12_solvesAt 7 _ 0 [(0, .ref 62), (1, .int (nI (stN p q l))), (2, .int (nI md))] [] (0, 0) zsh I J
  have hst := stN_lt hp hq hl
  obtain ⟨t, ht0⟩ : ∃ t : Nat, t = if mnL a2 M2 114 (fct p q l (sWho p q l) far) a2.length 0 = 2 ∧ sCan p q (sWho p q l) = true then 2 else 1 := ⟨_, rfl⟩
  have ht : t = 1 ∨ t = 2 := by rw [ht0]; split <;> omega
  have hcan : t = 2 → sCan p q (sWho p q l) = true := fun h => by rw [ht0] at h; split at h; (rename_i g; exact g.2); exact absurd h (by decide)
  obtain ⟨u1, hu1⟩ : ∃ u, u = sW (fun x y z => (vX 1 one two Rl (lfM a M) far x y z).1) (lfM a M) far p q l t := ⟨_, rfl⟩
  have hW1 : sW (fun a b c => J 83 (stN a b c)) (lfM a M) far p q l t = u1 := (sW_c hJ).trans hu1.symm
  have hv := (vX_r hp hq hw hk hrr hRl ht0).trans (congrArg (fun z => (z, decide (t = 2))) hu1.symm)
  have hV0 := offV_z (A := I) (x := vp_nar .byte (nI 1)) (offV_r (st := stN p q l))
  refine V_aload_n dX12_solvesAt_0 rfl ?_
  refine V_iload_n dX12_solvesAt_1 rfl ?_
  refine V_callV (As := [.int (nI (stN p q l))]) (st := []) (a := 62) dX12_solvesAt_2 kX12_turnIn lX12_206 (by decide) rfl rfl (Nat.le_of_ble_eq_true rfl) ⟨Nat.le_of_ble_eq_true rfl, Nat.le_of_ble_eq_true rfl⟩ ⟨Nat.le_of_ble_eq_true rfl, Nat.le_of_ble_eq_true rfl⟩ rfl ⟨rfl, by decide⟩ (w_turnIn hT hp hq hl) ?_
  rintro _ _ _ _ ⟨rfl, rfl, rfl, rfl⟩
  refine V_istore_n (ls' := [(3, .int (nI (sWho p q l))), (0, .ref 62), (1, .int (nI (stN p q l))), (2, .int (nI md))]) dX12_solvesAt_5 (by decide) rfl ?_
  refine V_iload_n dX12_solvesAt_6 rfl ?_
  refine V_iconst (v := nI 2) dX12_solvesAt_7 rfl ?_
  refine V_icmp_neN (tgt := 31) dX12_solvesAt_8 rfl (by omega) (by omega) (fun _ => ?_) (fun h => absurd h (by omega))
  refine V_iload_n dX12_solvesAt_31 rfl ?_
  refine V_if_neN (tgt := 42) dX12_solvesAt_32 rfl (by omega) (fun h32 => ?_) (fun h32 => ?_)
  · skip
    refine V_aload_n dX12_solvesAt_42 rfl ?_
    refine V_getI dX12_solvesAt_43 fX12_363 ⟨Nat.le_of_ble_eq_true rfl, Nat.le_of_ble_eq_true rfl⟩ rfl rfl ?_
    refine V_eqI (y := nI k) ((if_neg h32).symm.trans hr) ?_
    refine V_istore (ls' := [(4, .int (nI k)), (3, .int (nI (sWho p q l))), (0, .ref 62), (1, .int (nI (stN p q l))), (2, .int (nI md))]) dX12_solvesAt_46 (by decide) rfl ?_
    refine V_aload_n dX12_solvesAt_48 rfl ?_
    refine V_getR (b := 85) dX12_solvesAt_49 fX12_79 ⟨Nat.le_of_ble_eq_true rfl, Nat.le_of_ble_eq_true rfl⟩ rfl rfl rfl ?_
    refine V_iload_n dX12_solvesAt_52 rfl ?_
    refine V_iconst (v := nI 1) dX12_solvesAt_53 rfl ?_
    refine V_bastN (k := stN p q l) dX12_solvesAt_54 ⟨Nat.le_of_ble_eq_true rfl, Nat.le_of_ble_eq_true rfl⟩ rfl (by decide) (by omega) ?_
    refine V_iload dX12_solvesAt_55 rfl ?_
    refine V_iconst (v := (-1)) dX12_solvesAt_57 rfl ?_
    refine V_icmp_eq (tgt := 99) dX12_solvesAt_58 rfl (fun h => absurd h (nI_ne_neg (by omega) (by decide))) (fun _ => ?_)
    refine V_aload_n dX12_solvesAt_61 rfl ?_
    refine V_iload dX12_solvesAt_62 rfl ?_
    refine V_iload_n dX12_solvesAt_64 rfl ?_
    refine V_iload_n dX12_solvesAt_65 rfl ?_
    refine V_callV (As := [.int (nI k), .int (nI (stN p q l)), .int (nI (sWho p q l))]) (st := []) (a := 62) dX12_solvesAt_66 kX12_ruled lX12_366 (by decide) rfl rfl (Nat.le_of_ble_eq_true rfl) ⟨Nat.le_of_ble_eq_true rfl, Nat.le_of_ble_eq_true rfl⟩ ⟨Nat.le_of_ble_eq_true rfl, Nat.le_of_ble_eq_true rfl⟩ rfl ⟨rfl, by decide⟩ (w_ruled (I := zwr I 85 (stN p q l) (vp_nar .byte (nI 1))) (mT_v hT hV0) hf hp hq hl hw hk (mpI_v hR hV0) h114) ?_
    rintro r sh' I1 J' ⟨rfl, rfl, hq0, rfl⟩
    refine V_eqI (y := nI t) (congrArg nI ht0.symm) ?_
    have hV1 := offV_z (x := vp_nar .byte (nI t).toInt8.toInt32) (offV_l hV0 (offF_L hq0))
    refine V_istore (ls' := [(5, .int (nI t)), (4, .int (nI k)), (3, .int (nI (sWho p q l))), (0, .ref 62), (1, .int (nI (stN p q l))), (2, .int (nI md))]) dX12_solvesAt_69 (by decide) rfl ?_
    refine V_aload_n dX12_solvesAt_71 rfl ?_
    refine V_getR (b := 85) dX12_solvesAt_72 fX12_79 ⟨Nat.le_of_ble_eq_true rfl, Nat.le_of_ble_eq_true rfl⟩ rfl rfl rfl ?_
    refine V_iload_n dX12_solvesAt_75 rfl ?_
    refine V_iload dX12_solvesAt_76 rfl ?_
    refine V_i2b dX12_solvesAt_78 ?_
    refine V_bastN (k := stN p q l) dX12_solvesAt_79 ⟨Nat.le_of_ble_eq_true rfl, Nat.le_of_ble_eq_true rfl⟩ rfl (by decide) (by omega) ?_
    refine V_aload_n dX12_solvesAt_80 rfl ?_
    refine V_getR (b := 83) dX12_solvesAt_81 fX12_72 ⟨Nat.le_of_ble_eq_true rfl, Nat.le_of_ble_eq_true rfl⟩ rfl rfl rfl ?_
    refine V_iload_n dX12_solvesAt_84 rfl ?_
    refine V_aload_n dX12_solvesAt_85 rfl ?_
    refine V_iload_n dX12_solvesAt_86 rfl ?_
    refine V_iload_n dX12_solvesAt_87 rfl ?_
    refine V_iload dX12_solvesAt_88 rfl ?_
    refine V_aload_n dX12_solvesAt_90 rfl ?_
    refine V_getR (b := 83) dX12_solvesAt_91 fX12_72 ⟨Nat.le_of_ble_eq_true rfl, Nat.le_of_ble_eq_true rfl⟩ rfl rfl rfl ?_
    refine V_callV (As := [.int (nI (stN p q l)), .int (nI (sWho p q l)), .int (nI t), .ref 83]) (st := [.int (nI (stN p q l)), .ref 83]) (a := 62) dX12_solvesAt_94 kX12_valueBy lX12_369 (by decide) rfl rfl (Nat.le_of_ble_eq_true rfl) ⟨Nat.le_of_ble_eq_true rfl, Nat.le_of_ble_eq_true rfl⟩ ⟨Nat.le_of_ble_eq_true rfl, Nat.le_of_ble_eq_true rfl⟩ rfl ⟨rfl, by decide⟩ (w_valueBy (I := zwr I1 85 (stN p q l) (vp_nar .byte ((nI t).toInt8.toInt32))) (va := 83) (mT_v hT hV1) ((hV1.2.1 5 (by decide)).trans hf) h6 h10 (mpI_v hP hV1) (chA_c hc (congrFun (hq0 62 (by decide) (by decide)) 32) (z82 hq0)) hp hq hl hw ⟨⟨Nat.le_of_ble_eq_true rfl, Nat.le_of_ble_eq_true rfl⟩, rfl⟩ ht hcan) ?_
    rintro r sh' I' J' ⟨rfl, rfl, hq1, hq2, rfl⟩
    refine V_eqL (y := u1) hW1 ?_
    refine V_lastN (k := stN p q l) dX12_solvesAt_97 ⟨Nat.le_of_ble_eq_true rfl, Nat.le_of_ble_eq_true rfl⟩ rfl (by decide) (by omega) ?_
    exact V_ret ⟨rfl, dX12_solvesAt_98⟩ ⟨Nat.le_of_ble_eq_true rfl, Nat.le_of_ble_eq_true rfl⟩ ⟨rfl, rfl, ⟨offV_l hV1 hq1, at85r ht hv hq1⟩, hq2, by rw [hv]⟩
  · skip
    refine V_aload_n dX12_solvesAt_35 rfl ?_
    refine V_getI dX12_solvesAt_36 fX12_360 ⟨Nat.le_of_ble_eq_true rfl, Nat.le_of_ble_eq_true rfl⟩ rfl rfl ?_
    refine V_eqI (y := nI k) ((if_pos h32).symm.trans hr) ?_
    refine V_goto (tgt := 46) dX12_solvesAt_39 rfl ?_
    refine V_istore (ls' := [(4, .int (nI k)), (3, .int (nI (sWho p q l))), (0, .ref 62), (1, .int (nI (stN p q l))), (2, .int (nI md))]) dX12_solvesAt_46 (by decide) rfl ?_
    refine V_aload_n dX12_solvesAt_48 rfl ?_
    refine V_getR (b := 85) dX12_solvesAt_49 fX12_79 ⟨Nat.le_of_ble_eq_true rfl, Nat.le_of_ble_eq_true rfl⟩ rfl rfl rfl ?_
    refine V_iload_n dX12_solvesAt_52 rfl ?_
    refine V_iconst (v := nI 1) dX12_solvesAt_53 rfl ?_
    refine V_bastN (k := stN p q l) dX12_solvesAt_54 ⟨Nat.le_of_ble_eq_true rfl, Nat.le_of_ble_eq_true rfl⟩ rfl (by decide) (by omega) ?_
    refine V_iload dX12_solvesAt_55 rfl ?_
    refine V_iconst (v := (-1)) dX12_solvesAt_57 rfl ?_
    refine V_icmp_eq (tgt := 99) dX12_solvesAt_58 rfl (fun h => absurd h (nI_ne_neg (by omega) (by decide))) (fun _ => ?_)
    refine V_aload_n dX12_solvesAt_61 rfl ?_
    refine V_iload dX12_solvesAt_62 rfl ?_
    refine V_iload_n dX12_solvesAt_64 rfl ?_
    refine V_iload_n dX12_solvesAt_65 rfl ?_
    refine V_callV (As := [.int (nI k), .int (nI (stN p q l)), .int (nI (sWho p q l))]) (st := []) (a := 62) dX12_solvesAt_66 kX12_ruled lX12_366 (by decide) rfl rfl (Nat.le_of_ble_eq_true rfl) ⟨Nat.le_of_ble_eq_true rfl, Nat.le_of_ble_eq_true rfl⟩ ⟨Nat.le_of_ble_eq_true rfl, Nat.le_of_ble_eq_true rfl⟩ rfl ⟨rfl, by decide⟩ (w_ruled (I := zwr I 85 (stN p q l) (vp_nar .byte (nI 1))) (mT_v hT hV0) hf hp hq hl hw hk (mpI_v hR hV0) h114) ?_
    rintro r sh' I1 J' ⟨rfl, rfl, hq0, rfl⟩
    refine V_eqI (y := nI t) (congrArg nI ht0.symm) ?_
    have hV1 := offV_z (x := vp_nar .byte (nI t).toInt8.toInt32) (offV_l hV0 (offF_L hq0))
    refine V_istore (ls' := [(5, .int (nI t)), (4, .int (nI k)), (3, .int (nI (sWho p q l))), (0, .ref 62), (1, .int (nI (stN p q l))), (2, .int (nI md))]) dX12_solvesAt_69 (by decide) rfl ?_
    refine V_aload_n dX12_solvesAt_71 rfl ?_
    refine V_getR (b := 85) dX12_solvesAt_72 fX12_79 ⟨Nat.le_of_ble_eq_true rfl, Nat.le_of_ble_eq_true rfl⟩ rfl rfl rfl ?_
    refine V_iload_n dX12_solvesAt_75 rfl ?_
    refine V_iload dX12_solvesAt_76 rfl ?_
    refine V_i2b dX12_solvesAt_78 ?_
    refine V_bastN (k := stN p q l) dX12_solvesAt_79 ⟨Nat.le_of_ble_eq_true rfl, Nat.le_of_ble_eq_true rfl⟩ rfl (by decide) (by omega) ?_
    refine V_aload_n dX12_solvesAt_80 rfl ?_
    refine V_getR (b := 83) dX12_solvesAt_81 fX12_72 ⟨Nat.le_of_ble_eq_true rfl, Nat.le_of_ble_eq_true rfl⟩ rfl rfl rfl ?_
    refine V_iload_n dX12_solvesAt_84 rfl ?_
    refine V_aload_n dX12_solvesAt_85 rfl ?_
    refine V_iload_n dX12_solvesAt_86 rfl ?_
    refine V_iload_n dX12_solvesAt_87 rfl ?_
    refine V_iload dX12_solvesAt_88 rfl ?_
    refine V_aload_n dX12_solvesAt_90 rfl ?_
    refine V_getR (b := 83) dX12_solvesAt_91 fX12_72 ⟨Nat.le_of_ble_eq_true rfl, Nat.le_of_ble_eq_true rfl⟩ rfl rfl rfl ?_
    refine V_callV (As := [.int (nI (stN p q l)), .int (nI (sWho p q l)), .int (nI t), .ref 83]) (st := [.int (nI (stN p q l)), .ref 83]) (a := 62) dX12_solvesAt_94 kX12_valueBy lX12_369 (by decide) rfl rfl (Nat.le_of_ble_eq_true rfl) ⟨Nat.le_of_ble_eq_true rfl, Nat.le_of_ble_eq_true rfl⟩ ⟨Nat.le_of_ble_eq_true rfl, Nat.le_of_ble_eq_true rfl⟩ rfl ⟨rfl, by decide⟩ (w_valueBy (I := zwr I1 85 (stN p q l) (vp_nar .byte ((nI t).toInt8.toInt32))) (va := 83) (mT_v hT hV1) ((hV1.2.1 5 (by decide)).trans hf) h6 h10 (mpI_v hP hV1) (chA_c hc (congrFun (hq0 62 (by decide) (by decide)) 32) (z82 hq0)) hp hq hl hw ⟨⟨Nat.le_of_ble_eq_true rfl, Nat.le_of_ble_eq_true rfl⟩, rfl⟩ ht hcan) ?_
    rintro r sh' I' J' ⟨rfl, rfl, hq1, hq2, rfl⟩
    refine V_eqL (y := u1) hW1 ?_
    refine V_lastN (k := stN p q l) dX12_solvesAt_97 ⟨Nat.le_of_ble_eq_true rfl, Nat.le_of_ble_eq_true rfl⟩ rfl (by decide) (by omega) ?_
    exact V_ret ⟨rfl, dX12_solvesAt_98⟩ ⟨Nat.le_of_ble_eq_true rfl, Nat.le_of_ble_eq_true rfl⟩ ⟨rfl, rfl, ⟨offV_l hV1 hq1, at85r ht hv hq1⟩, hq2, by rw [hv]⟩

