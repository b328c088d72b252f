/-! THE MODEL: what was wrong -/
theorem L_sub {a b : Int64} (h1 : -(2 ^ 63) ≤ a.toInt - b.toInt) (h2 : a.toInt - b.toInt < 2 ^ 63) : (a - b).toInt = a.toInt - b.toInt := by
  rw [Int64.toInt_sub]
  exact Int.bmod_eq_of_le (by omega) (by omega)
section
variable {kd one two : Int32} {Rl : Nat → Nat → (Nat → Int32) → Int32} {Lf : Nat → (Nat → Int32) → Int32} {far p q l : Nat}
theorem sW_bd {bt : Nat → Nat → Nat → Nat} {h t : Nat} (hh : h ≤ 5) : -(10 ^ 17) ≤ (sW (fun a b l => (sV kd one two Rl bt Lf far h a b l).1) Lf far p q l t).toInt ∧ (sW (fun a b l => (sV kd one two Rl bt Lf far h a b l).1) Lf far p q l t).toInt ≤ 10 ^ 17 := by
  have ih := sV_bd (kd := kd) (one := one) (two := two) (Rl := Rl) (bt := bt) (Lf := Lf) (far := far) h (by omega)
  have hp : (400 : Int) ^ h ≤ 400 ^ 5 := by
    rcases (show h = 0 ∨ h = 1 ∨ h = 2 ∨ h = 3 ∨ h = 4 ∨ h = 5 by omega) with e | e | e | e | e | e <;> subst e <;> decide
  have hp0 : (0 : Int) ≤ 400 ^ h := Int.pow_nonneg (by decide)
  have e5 : (400 : Int) ^ 5 = 10240000000000 := by decide
  rw [e5] at hp
  generalize (400 : Int) ^ h = z at *
  have z0 : (0 : Int64).toInt = 0 := rfl
  have h4 := sSum_bd (v := fun a b l => (sV kd one two Rl bt Lf far h a b l).1) (Lf := Lf) (far := far) (p := p) (q := q) (last := l) (B := 3 * z) (by omega) (by omega) ih 4 0 0 0 (by omega) (by rw [z0]; omega) (by rw [z0]; omega) (by omega)
  have h3 := sSum_bd (v := fun a b l => (sV kd one two Rl bt Lf far h a b l).1) (Lf := Lf) (far := far) (p := p) (q := q) (last := l) (B := 3 * z) (by omega) (by omega) ih 3 4 0 0 (by omega) (by rw [z0]; omega) (by rw [z0]; omega) (by omega)
  unfold sW
  split <;> omega
theorem wX_e {t : Nat} (hp : p < 56) (hq : q < 56) (hw : sWho p q l ≤ 1) : wX kd one two Rl Lf far p q l t = sW (fun a b c => (vX kd one two Rl Lf far a b c).1) Lf far p q l t := sW_c (fun part hpa => by
  have h3 := (sNx_ok (last := l) hp hq hw hpa).2.2
  unfold vX
  rw [show hnd (sNx p q l part).1 (sNx p q l part).2 = hnd p q - 1 by omega])
theorem wX_bd {t : Nat} (hp : p < 56) (hq : q < 56) : -(10 ^ 17) ≤ (wX kd one two Rl Lf far p q l t).toInt ∧ (wX kd one two Rl Lf far p q l t).toInt ≤ 10 ^ 17 := sW_bd (by have := hnd_6 hp hq; omega)
/-- the best throw is no worse than another -/
theorem vX_ge {t : Nat} (hp : p < 56) (hq : q < 56) (hw : sWho p q l ≤ 1) (ht : t = 1 ∨ t = 2 ∧ sCan p q (sWho p q l) = true) : if sWho p q l = 0 then (wX 1 (-1) (-1) Rl Lf far p q l t).toInt ≤ (vX 1 (-1) (-1) Rl Lf far p q l).1.toInt else (vX 1 (-1) (-1) Rl Lf far p q l).1.toInt ≤ (wX 1 (-1) (-1) Rl Lf far p q l t).toInt := by
  rw [vX_s hp hq hw, ← wX_e hp hq hw, ← wX_e hp hq hw]
  by_cases hc : sCan p q (sWho p q l) = true
  · rw [sTold_c hc (by decide) (fun _ => by split <;> rfl)]
    by_cases g : if sWho p q l = 0 then wX 1 (-1) (-1) Rl Lf far p q l 1 < wX 1 (-1) (-1) Rl Lf far p q l 2 else wX 1 (-1) (-1) Rl Lf far p q l 2 < wX 1 (-1) (-1) Rl Lf far p q l 1
    · rw [pk_y g]
      by_cases h0 : sWho p q l = 0
      · rw [if_pos h0, Int64.lt_iff_toInt_lt] at g
        rw [if_pos h0]
        dsimp only
        rcases ht with rfl | ⟨rfl, _⟩
        · omega
        · exact Int.le_refl _
      · rw [if_neg h0, Int64.lt_iff_toInt_lt] at g
        rw [if_neg h0]
        dsimp only
        rcases ht with rfl | ⟨rfl, _⟩
        · omega
        · exact Int.le_refl _
    · rw [pk_n g]
      by_cases h0 : sWho p q l = 0
      · rw [if_pos h0, Int64.lt_iff_toInt_lt] at g
        rw [if_pos h0]
        dsimp only
        rcases ht with rfl | ⟨rfl, _⟩
        · omega
        · omega
      · rw [if_neg h0, Int64.lt_iff_toInt_lt] at g
        rw [if_neg h0]
        dsimp only
        rcases ht with rfl | ⟨rfl, _⟩
        · omega
        · omega
  · obtain rfl : t = 1 := ht.resolve_right (fun h => hc h.2)
    rw [sTold_n hc, pk_1]
    dsimp only
    split <;> omega
theorem loss_0 {t : Nat} (hp : p < 56) (hq : q < 56) (hw : sWho p q l = 0) (ht : t = 1 ∨ t = 2 ∧ sCan p q (sWho p q l) = true) : (vX 1 (-1) (-1) Rl Lf far p q l).1 - wX 1 (-1) (-1) Rl Lf far p q l t = lossX 1 (-1) (-1) Rl Lf far p q l t := by
  have hg := vX_ge (Rl := Rl) (Lf := Lf) (far := far) hp hq (by omega) ht
  have b1 := vX_b (kd := 1) (one := -1) (two := -1) (Rl := Rl) (Lf := Lf) (far := far) (l := l) hp hq
  have b2 := wX_bd (kd := 1) (one := -1) (two := -1) (Rl := Rl) (Lf := Lf) (far := far) (l := l) (t := t) hp hq
  rw [if_pos hw] at hg
  unfold lossX
  rw [if_neg (by omega), if_pos hw, if_neg]
  rw [Int64.lt_iff_toInt_lt, L_sub (by omega) (by omega), show (0 : Int64).toInt = 0 from rfl]
  omega
theorem loss_1 {t : Nat} (hp : p < 56) (hq : q < 56) (hw : sWho p q l = 1) (ht : t = 1 ∨ t = 2 ∧ sCan p q (sWho p q l) = true) : wX 1 (-1) (-1) Rl Lf far p q l t - (vX 1 (-1) (-1) Rl Lf far p q l).1 = lossX 1 (-1) (-1) Rl Lf far p q l t := by
  have hg := vX_ge (Rl := Rl) (Lf := Lf) (far := far) hp hq (by omega) ht
  have b1 := vX_b (kd := 1) (one := -1) (two := -1) (Rl := Rl) (Lf := Lf) (far := far) (l := l) hp hq
  have b2 := wX_bd (kd := 1) (one := -1) (two := -1) (Rl := Rl) (Lf := Lf) (far := far) (l := l) (t := t) hp hq
  rw [if_neg (by omega)] at hg
  unfold lossX
  have e2 : ¬ sWho p q l = 2 := by omega
  have e0 : ¬ sWho p q l = 0 := by omega
  rw [if_neg e2, if_neg e0, Int64.neg_sub, if_neg]
  rw [Int64.lt_iff_toInt_lt, L_sub (by omega) (by omega), show (0 : Int64).toInt = 0 from rfl]
  omega
end
theorem lossX_nn {Rl Rl2 : Nat → Nat → (Nat → Int32) → Int32} {Lf : Nat → (Nat → Int32) → Int32} {far p q l t : Nat} : lossX 1 (-1) (-1) Rl Lf far p q l t = lossX 1 (-1) (-1) Rl2 Lf far p q l t := by
  have e : wX 1 (-1) (-1) Rl Lf far p q l t = wX 1 (-1) (-1) Rl2 Lf far p q l t := by
    unfold wX
    congr 1
    funext a b c
    rw [sV_nn (Rl := Rl) (Rl2 := Rl2) (bt := btV Lf far) (bt2 := btV Lf far)]
  unfold lossX
  rw [e, vX_nn (Rl := Rl) (Rl2 := Rl2)]
set_option maxRecDepth 100000 in
set_option maxHeartbeats 4000000 in
theorem lp_wrIn {G : zG} {I : zI} {J : zJ} {Q : zQ} {i : Nat} (hi : i < 100) : ∀ m c x, c + m = i → Q (some (.long (l100 m x))) zsh I J → V G mX12_wrongIn 7 Q 71 [(0, .ref 62), (1, .int (nI i)), (5, .long x), (7, .int (nI c))] [] (0, 0) zsh I J := by
  intro m
  induction m with
  | zero =>
    intro c x hc hQ
    refine V_iload dX12_wrongIn_71 rfl ?_
    refine V_iload_n dX12_wrongIn_73 rfl ?_
    refine V_icmp_geN (tgt := 91) dX12_wrongIn_74 rfl (by omega) (by omega) (fun _ => ?_) (fun h => absurd h (by omega))
    refine V_lload dX12_wrongIn_91 rfl ?_
    exact V_lret ⟨rfl, dX12_wrongIn_93⟩ ⟨Nat.le_of_ble_eq_true rfl, Nat.le_of_ble_eq_true rfl⟩ hQ
  | succ m ih =>
    intro c x hc hQ
    refine V_iload dX12_wrongIn_71 rfl ?_
    refine V_iload_n dX12_wrongIn_73 rfl ?_
    refine V_icmp_geN (tgt := 91) dX12_wrongIn_74 rfl (by omega) (by omega) (fun h => absurd h (by omega)) (fun _ => ?_)
    refine V_lload dX12_wrongIn_77 rfl ?_
    refine V_ldc2 dX12_wrongIn_79 qX12_437 ?_
    refine V_lmul dX12_wrongIn_82 ?_
    refine V_lstore (ls' := [(5, .long (x * 100)), (0, .ref 62), (1, .int (nI i)), (7, .int (nI c))]) dX12_wrongIn_83 (by decide) rfl ?_
    refine V_iincN (ls' := [(7, .int (nI (c + 1))), (5, .long (x * 100)), (0, .ref 62), (1, .int (nI i))]) (n := 1) dX12_wrongIn_85 rfl rfl (by decide) (by decide) rfl ?_
    refine V_goto (tgt := 71) dX12_wrongIn_88 rfl ?_
    refine V_sub2 (ls' := [(0, .ref 62), (1, .int (nI i)), (5, .long (x * 100)), (7, .int (nI (c + 1)))]) (List.forall_mem_cons.mpr ⟨rfl, List.forall_mem_cons.mpr ⟨rfl, List.forall_mem_cons.mpr ⟨rfl, List.forall_mem_cons.mpr ⟨rfl, fun _ h => absurd h List.not_mem_nil⟩⟩⟩⟩) ?_
    exact ih (c + 1) _ (by omega) hQ

set_option maxRecDepth 100000 in
set_option maxHeartbeats 4000000 in
theorem w_wrongIn0 {G : zG} {I : zI} {J : zJ} {a : List (Nat × List (Nat × Nat) × List (Nat × Nat))} {M : Nat → ((Nat → Int32) → Option Int32) × ((Nat → Int32) → Option Int32)} {ar : Nat → List (Nat × List (Nat × Nat) × List (Nat × Nat))} {Mr : Nat → Nat → ((Nat → Int32) → Option Int32) × ((Nat → Int32) → Option Int32)} {far : Nat} (hR : soR I J a M ar Mr far) (h6 : 6 ≤ far) (h10 : far ≤ 10) (hf : I 62 5 = nI far) (hV : sgV 1 (-1) (-1) (rlM ar Mr) (lfM a M) far I J) {i p q l t : Nat} (hi : i < 6) (h89 : I 89 i = nI (stN p q l)) (h90 : I 90 i = nI t) (hp : p < 56) (hq : q < 56) (hl : l ≤ 1) (hw : sWho p q l ≤ 1) (ht : t = 1 ∨ t = 2 ∧ sCan p q (sWho p q l) = true) : zK G mX12_wrongIn 7 [.ref 62, .int (nI i)] zsh I J (zP (fun r I' J' => r = some (.long (l100 i (lossX 1 (-1) (-1) (fun _ _ _ => 0) (lfM a M) far p q l t))) ∧ soR I' J' a M ar Mr far ∧ offX I J I' J' ∧ sgV 1 (-1) (-1) (rlM ar Mr) (lfM a M) far I' J' ∧ I' 62 5 = nI far)) := by
  refine zK_of kX12_wrongIn.2.2.2.2.1 (Nat.le_of_ble_eq_true rfl) ?_
  show V G mX12_wrongIn 7 _ 0 [(0, .ref 62), (1, .int (nI i))] [] (0, 0) zsh I J
  have hst := stN_lt hp hq hl
  obtain ⟨u, hu⟩ : ∃ u, lossX 1 (-1) (-1) (rlM ar Mr) (lfM a M) far p q l t = u := ⟨_, rfl⟩
  have hfin : some (Value.long (l100 i u)) = some (.long (l100 i (lossX 1 (-1) (-1) (fun _ _ _ => 0) (lfM a M) far p q l t))) := by rw [← hu, lossX_nn]
  refine V_aload_n dX12_wrongIn_0 rfl ?_
  refine V_aload_n dX12_wrongIn_1 rfl ?_
  refine V_getR (b := 89) dX12_wrongIn_2 fX12_91 ⟨Nat.le_of_ble_eq_true rfl, Nat.le_of_ble_eq_true rfl⟩ rfl rfl rfl ?_
  refine V_iload_n dX12_wrongIn_5 rfl ?_
  refine V_ialdN (k := i) dX12_wrongIn_6 ⟨Nat.le_of_ble_eq_true rfl, Nat.le_of_ble_eq_true rfl⟩ rfl (by decide) (by omega) ?_
  refine V_eqI (y := nI (stN p q l)) h89 ?_
  refine V_callV (As := [.int (nI (stN p q l))]) (st := []) (a := 62) dX12_wrongIn_7 kX12_turnIn lX12_206 (by decide) rfl rfl (Nat.le_of_ble_eq_true rfl) ⟨Nat.le_of_ble_eq_true rfl, Nat.le_of_ble_eq_true rfl⟩ ⟨Nat.le_of_ble_eq_true rfl, Nat.le_of_ble_eq_true rfl⟩ rfl ⟨rfl, by decide⟩ (w_turnIn hR.1.1 hp hq hl) ?_
  rintro _ _ _ _ ⟨rfl, rfl, rfl, rfl⟩
  refine V_istore_n (ls' := [(2, .int (nI (sWho p q l))), (0, .ref 62), (1, .int (nI i))]) dX12_wrongIn_10 (by decide) rfl ?_
  refine V_aload_n dX12_wrongIn_11 rfl ?_
  refine V_aload_n dX12_wrongIn_12 rfl ?_
  refine V_getR (b := 89) dX12_wrongIn_13 fX12_91 ⟨Nat.le_of_ble_eq_true rfl, Nat.le_of_ble_eq_true rfl⟩ rfl rfl rfl ?_
  refine V_iload_n dX12_wrongIn_16 rfl ?_
  refine V_ialdN (k := i) dX12_wrongIn_17 ⟨Nat.le_of_ble_eq_true rfl, Nat.le_of_ble_eq_true rfl⟩ rfl (by decide) (by omega) ?_
  refine V_eqI (y := nI (stN p q l)) h89 ?_
  refine V_iload_n dX12_wrongIn_18 rfl ?_
  refine V_aload_n dX12_wrongIn_19 rfl ?_
  refine V_getR (b := 90) dX12_wrongIn_20 fX12_94 ⟨Nat.le_of_ble_eq_true rfl, Nat.le_of_ble_eq_true rfl⟩ rfl rfl rfl ?_
  refine V_iload_n dX12_wrongIn_23 rfl ?_
  refine V_ialdN (k := i) dX12_wrongIn_24 ⟨Nat.le_of_ble_eq_true rfl, Nat.le_of_ble_eq_true rfl⟩ rfl (by decide) (by omega) ?_
  refine V_eqI (y := nI t) h90 ?_
  refine V_aload_n dX12_wrongIn_25 rfl ?_
  refine V_getR (b := 83) dX12_wrongIn_26 fX12_72 ⟨Nat.le_of_ble_eq_true rfl, Nat.le_of_ble_eq_true rfl⟩ rfl rfl rfl ?_
  refine V_callV (As := [.int (nI (stN p q l)), .int (nI (sWho p q l)), .int (nI t), .ref 83]) (st := []) (a := 62) dX12_wrongIn_29 kX12_valueBy lX12_369 (by decide) rfl rfl (Nat.le_of_ble_eq_true rfl) ⟨Nat.le_of_ble_eq_true rfl, Nat.le_of_ble_eq_true rfl⟩ ⟨Nat.le_of_ble_eq_true rfl, Nat.le_of_ble_eq_true rfl⟩ rfl ⟨rfl, by decide⟩ (w_valueBy (va := 83) hR.1.1 hf h6 h10 hR.1.2.1 hR.1.2.2.2 hp hq hl hw ⟨⟨Nat.le_of_ble_eq_true rfl, Nat.le_of_ble_eq_true rfl⟩, rfl⟩ (ht.imp id (fun h => h.1)) (fun h => ht.elim (fun g => absurd (g.symm.trans h) (by decide)) (fun g => g.2))) ?_
  rintro r sh' I1 J1 ⟨rfl, rfl, hq1, hq2, rfl⟩
  refine V_eqL (y := wX 1 (-1) (-1) (rlM ar Mr) (lfM a M) far p q l t) ((sW_c (fun part hpa => by have hs := sNx_ok (last := l) hp hq hw hpa; exact (hV _ _ _ hs.1 hs.2.1 hw).1)).trans (wX_e hp hq hw).symm) ?_
  refine V_lstore_n (ls' := [(3, .long (wX 1 (-1) (-1) (rlM ar Mr) (lfM a M) far p q l t)), (2, .int (nI (sWho p q l))), (0, .ref 62), (1, .int (nI i))]) dX12_wrongIn_32 (by decide) rfl ?_
  refine V_iload_n dX12_wrongIn_33 rfl ?_
  refine V_if_neN (tgt := 53) dX12_wrongIn_34 rfl (by omega) (fun h34 => ?_) (fun h34 => ?_)
  · skip
    refine V_lload_n dX12_wrongIn_53 rfl ?_
    refine V_aload_n dX12_wrongIn_54 rfl ?_
    refine V_getR (b := 83) dX12_wrongIn_55 fX12_72 ⟨Nat.le_of_ble_eq_true rfl, Nat.le_of_ble_eq_true rfl⟩ rfl rfl rfl ?_
    refine V_aload_n dX12_wrongIn_58 rfl ?_
    refine V_getR (b := 89) dX12_wrongIn_59 fX12_91 ⟨Nat.le_of_ble_eq_true rfl, Nat.le_of_ble_eq_true rfl⟩ rfl rfl rfl ?_
    refine V_iload_n dX12_wrongIn_62 rfl ?_
    refine V_ialdN (k := i) dX12_wrongIn_63 ⟨Nat.le_of_ble_eq_true rfl, Nat.le_of_ble_eq_true rfl⟩ rfl (by decide) (by omega) ?_
    refine V_eqI (y := nI (stN p q l)) ((congrFun (hq1.1 89 (by decide) (by decide) (by decide) (by decide) (by decide)) i).trans h89) ?_
    refine V_laldN (k := stN p q l) dX12_wrongIn_64 ⟨Nat.le_of_ble_eq_true rfl, Nat.le_of_ble_eq_true rfl⟩ rfl (by decide) (by omega) ?_
    refine V_eqL (y := (vX 1 (-1) (-1) (rlM ar Mr) (lfM a M) far p q l).1) (hV p q l hp hq hl).1 ?_
    refine V_lsub dX12_wrongIn_65 (V_eqL (y := u) ((loss_1 hp hq (by omega) ht).trans hu) ?_)
    refine V_lstore (ls' := [(5, .long u), (3, .long (wX 1 (-1) (-1) (rlM ar Mr) (lfM a M) far p q l t)), (2, .int (nI (sWho p q l))), (0, .ref 62), (1, .int (nI i))]) dX12_wrongIn_66 (by decide) rfl ?_
    refine V_iconst (v := nI 0) dX12_wrongIn_68 rfl ?_
    refine V_istore (ls' := [(7, .int (nI 0)), (5, .long u), (3, .long (wX 1 (-1) (-1) (rlM ar Mr) (lfM a M) far p q l t)), (2, .int (nI (sWho p q l))), (0, .ref 62), (1, .int (nI i))]) dX12_wrongIn_69 (by decide) rfl ?_
    refine V_sub2 (ls' := [(0, .ref 62), (1, .int (nI i)), (5, .long u), (7, .int (nI 0))]) (List.forall_mem_cons.mpr ⟨rfl, List.forall_mem_cons.mpr ⟨rfl, List.forall_mem_cons.mpr ⟨rfl, List.forall_mem_cons.mpr ⟨rfl, fun _ h => absurd h List.not_mem_nil⟩⟩⟩⟩) ?_
    exact lp_wrIn (i := i) (by omega) i 0 u (Nat.zero_add _) ⟨rfl, hfin, soR_l hR hq1 hq2, offX_w offX_r ⟨fun b h1 h2 h3 h4 h5 _ => hq1.1 b h1 h2 h3 h4 h5, fun k hk _ => hq1.2 k (by omega)⟩ (fun _ _ _ _ _ => rfl), sgV_c hV (hq1.1 85 (by decide) (by decide) (by decide) (by decide) (by decide)) rfl, (hq1.2 5 (by decide)).trans hf⟩
  · skip
    refine V_aload_n dX12_wrongIn_37 rfl ?_
    refine V_getR (b := 83) dX12_wrongIn_38 fX12_72 ⟨Nat.le_of_ble_eq_true rfl, Nat.le_of_ble_eq_true rfl⟩ rfl rfl rfl ?_
    refine V_aload_n dX12_wrongIn_41 rfl ?_
    refine V_getR (b := 89) dX12_wrongIn_42 fX12_91 ⟨Nat.le_of_ble_eq_true rfl, Nat.le_of_ble_eq_true rfl⟩ rfl rfl rfl ?_
    refine V_iload_n dX12_wrongIn_45 rfl ?_
    refine V_ialdN (k := i) dX12_wrongIn_46 ⟨Nat.le_of_ble_eq_true rfl, Nat.le_of_ble_eq_true rfl⟩ rfl (by decide) (by omega) ?_
    refine V_eqI (y := nI (stN p q l)) ((congrFun (hq1.1 89 (by decide) (by decide) (by decide) (by decide) (by decide)) i).trans h89) ?_
    refine V_laldN (k := stN p q l) dX12_wrongIn_47 ⟨Nat.le_of_ble_eq_true rfl, Nat.le_of_ble_eq_true rfl⟩ rfl (by decide) (by omega) ?_
    refine V_eqL (y := (vX 1 (-1) (-1) (rlM ar Mr) (lfM a M) far p q l).1) (hV p q l hp hq hl).1 ?_
    refine V_lload_n dX12_wrongIn_48 rfl ?_
    refine V_lsub dX12_wrongIn_49 (V_eqL (y := u) ((loss_0 hp hq h34 ht).trans hu) ?_)
    refine V_goto (tgt := 66) dX12_wrongIn_50 rfl ?_
    refine V_lstore (ls' := [(5, .long u), (3, .long (wX 1 (-1) (-1) (rlM ar Mr) (lfM a M) far p q l t)), (2, .int (nI (sWho p q l))), (0, .ref 62), (1, .int (nI i))]) dX12_wrongIn_66 (by decide) rfl ?_
    refine V_iconst (v := nI 0) dX12_wrongIn_68 rfl ?_
    refine V_istore (ls' := [(7, .int (nI 0)), (5, .long u), (3, .long (wX 1 (-1) (-1) (rlM ar Mr) (lfM a M) far p q l t)), (2, .int (nI (sWho p q l))), (0, .ref 62), (1, .int (nI i))]) dX12_wrongIn_69 (by decide) rfl ?_
    refine V_sub2 (ls' := [(0, .ref 62), (1, .int (nI i)), (5, .long u), (7, .int (nI 0))]) (List.forall_mem_cons.mpr ⟨rfl, List.forall_mem_cons.mpr ⟨rfl, List.forall_mem_cons.mpr ⟨rfl, List.forall_mem_cons.mpr ⟨rfl, fun _ h => absurd h List.not_mem_nil⟩⟩⟩⟩) ?_
    exact lp_wrIn (i := i) (by omega) i 0 u (Nat.zero_add _) ⟨rfl, hfin, soR_l hR hq1 hq2, offX_w offX_r ⟨fun b h1 h2 h3 h4 h5 _ => hq1.1 b h1 h2 h3 h4 h5, fun k hk _ => hq1.2 k (by omega)⟩ (fun _ _ _ _ _ => rfl), sgV_c hV (hq1.1 85 (by decide) (by decide) (by decide) (by decide) (by decide)) rfl, (hq1.2 5 (by decide)).trans hf⟩

set_option maxRecDepth 100000 in
set_option maxHeartbeats 4000000 in
theorem w_wrongIn {G : zG} {I : zI} {J : zJ} {a : List (Nat × List (Nat × Nat) × List (Nat × Nat))} {M : Nat → ((Nat → Int32) → Option Int32) × ((Nat → Int32) → Option Int32)} {ar : Nat → List (Nat × List (Nat × Nat) × List (Nat × Nat))} {Mr : Nat → Nat → ((Nat → Int32) → Option Int32) × ((Nat → Int32) → Option Int32)} {far : Nat} (hR : soR I J a M ar Mr far) (h6 : 6 ≤ far) (h10 : far ≤ 10) (hf : I 62 5 = nI far) (hV : sgV 1 (-1) (-1) (rlM ar Mr) (lfM a M) far I J) {n la : Nat} {th sd c0 c1 : Nat → Nat} (hL : lgW I n la th sd c0 c1) (hS : lgS n la sd c0 c1) (hM : lgM n la th sd c0 c1) {i : Nat} (hi : i < n) : zK G mX12_wrongIn 7 [.ref 62, .int (nI i)] zsh I J (zP (fun r I' J' => r = some (.long (wrU (lfM a M) far la th sd c0 c1 i)) ∧ soR I' J' a M ar Mr far ∧ offX I J I' J' ∧ sgV 1 (-1) (-1) (rlM ar Mr) (lfM a M) far I' J' ∧ I' 62 5 = nI far)) := by
  have hm := hM i hi
  exact w_wrongIn0 hR h6 h10 hf hV (by have := hL.2.1; omega) (hL.2.2.2 i (by omega)) (hL.2.2.1 i hi) hm.1 hm.2.1 hm.2.2.1 (sWho_n2 hm.2.2.2.1) (hm.2.2.2.2.1 ▸ hm.2.2.2.2.2)

theorem lgW_x {I : zI} {J : zJ} {I' : zI} {J' : zJ} {n la : Nat} {th sd c0 c1 : Nat → Nat} (h : lgW I n la th sd c0 c1) (e : offX I J I' J') : lgW I' n la th sd c0 c1 := by
  unfold lgW
  rw [e.1 89 (by decide) (by decide) (by decide) (by decide) (by decide) (by decide) (by decide), e.1 90 (by decide) (by decide) (by decide) (by decide) (by decide) (by decide) (by decide), e.2.1 46 (by omega) (by omega)]
  exact h
theorem wrL_y {u : Nat → Int64} {m c v : Nat} (h : u v < u c) : wrL u (m + 1) c v (u v) = wrL u m (c + 1) c (u c) := if_pos h
theorem wrL_n {u : Nat → Int64} {m c v : Nat} (h : ¬ u v < u c) : wrL u (m + 1) c v (u v) = wrL u m (c + 1) v (u v) := if_neg h
set_option maxRecDepth 100000 in
set_option maxHeartbeats 4000000 in
theorem lp_wrongW {G : zG} {I : zI} {J : zJ} {Q : zQ} {a : List (Nat × List (Nat × Nat) × List (Nat × Nat))} {M : Nat → ((Nat → Int32) → Option Int32) × ((Nat → Int32) → Option Int32)} {ar : Nat → List (Nat × List (Nat × Nat) × List (Nat × Nat))} {Mr : Nat → Nat → ((Nat → Int32) → Option Int32) × ((Nat → Int32) → Option Int32)} {far : Nat} (h6 : 6 ≤ far) (h10 : far ≤ 10) {n la : Nat} {th sd c0 c1 : Nat → Nat} (hL : lgW I n la th sd c0 c1) (hS : lgS n la sd c0 c1) (hM : lgM n la th sd c0 c1) {i : Int32} {w : Nat} (hw : w ≤ 2) : ∀ m c v (I1 : zI) (J1 : zJ), c + m = n → 1 ≤ c → v < n → soR I1 J1 a M ar Mr far → offX I J I1 J1 → sgV 1 (-1) (-1) (rlM ar Mr) (lfM a M) far I1 J1 → I1 62 5 = nI far → (∀ (I2 : zI) (J2 : zJ), soR I2 J2 a M ar Mr far → offX I J I2 J2 → I2 62 5 = nI far → Q (some (.long (if w = 1 then (nI (wrL (wrU (lfM a M) far la th sd c0 c1) m c v (wrU (lfM a M) far la th sd c0 c1 v)).1).toInt64 else (wrL (wrU (lfM a M) far la th sd c0 c1) m c v (wrU (lfM a M) far la th sd c0 c1 v)).2))) zsh I2 J2) → V G mX12_wrong 11 Q 58 [(0, .ref 62), (1, .int i), (2, .int (nI w)), (3, .int (nI v)), (4, .int (nI c))] [] (0, 0) zsh I1 J1 := by
  have hn6 := hL.2.1
  intro m
  induction m with
  | zero =>
    intro c v I1 J1 hc h1 hv i1 i2 i3 i4 hQ
    refine V_iload dX12_wrong_58 rfl ?_
    refine V_aload_n dX12_wrong_60 rfl ?_
    refine V_getI dX12_wrong_61 fX12_155 ⟨Nat.le_of_ble_eq_true rfl, Nat.le_of_ble_eq_true rfl⟩ rfl rfl ?_
    refine V_eqI (y := nI n) (lgW_x hL i2).1 ?_
    refine V_icmp_geN (tgt := 91) dX12_wrong_64 rfl (by omega) (by omega) (fun _ => ?_) (fun h => absurd h (by omega))
    refine V_iload_n dX12_wrong_91 rfl ?_
    refine V_iconst (v := nI 1) dX12_wrong_92 rfl ?_
    refine V_icmp_neN (tgt := 101) dX12_wrong_93 rfl (by omega) (by omega) (fun h93 => ?_) (fun h93 => ?_)
    · skip
      refine V_aload_n dX12_wrong_101 rfl ?_
      refine V_iload_n dX12_wrong_102 rfl ?_
      refine V_callV (As := [.int (nI v)]) (st := []) (a := 62) dX12_wrong_103 kX12_wrongIn lX12_439 (by decide) rfl rfl (Nat.le_of_ble_eq_true rfl) ⟨Nat.le_of_ble_eq_true rfl, Nat.le_of_ble_eq_true rfl⟩ ⟨Nat.le_of_ble_eq_true rfl, Nat.le_of_ble_eq_true rfl⟩ rfl ⟨rfl, by decide⟩ (w_wrongIn i1 h6 h10 i4 i3 (lgW_x hL i2) hS hM (i := v) (by omega)) ?_
      rintro r sh' I2 J2 ⟨rfl, rfl, hR2, hY2, hV2, hf2⟩
      have hX2 := offX_t i2 hY2
      exact V_lret ⟨rfl, dX12_wrong_106⟩ ⟨Nat.le_of_ble_eq_true rfl, Nat.le_of_ble_eq_true rfl⟩ (by have h := hQ _ _ hR2 hX2 hf2; rw [if_neg (by omega)] at h; exact h)
    · skip
      refine V_iload_n dX12_wrong_96 rfl ?_
      refine V_i2l dX12_wrong_97 ?_
      refine V_goto (tgt := 106) dX12_wrong_98 rfl ?_
      exact V_lret ⟨rfl, dX12_wrong_106⟩ ⟨Nat.le_of_ble_eq_true rfl, Nat.le_of_ble_eq_true rfl⟩ (by have h := hQ _ _ i1 i2 i4; rw [if_pos (by omega)] at h; exact h)
  | succ m ih =>
    intro c v I1 J1 hc h1 hv i1 i2 i3 i4 hQ
    refine V_iload dX12_wrong_58 rfl ?_
    refine V_aload_n dX12_wrong_60 rfl ?_
    refine V_getI dX12_wrong_61 fX12_155 ⟨Nat.le_of_ble_eq_true rfl, Nat.le_of_ble_eq_true rfl⟩ rfl rfl ?_
    refine V_eqI (y := nI n) (lgW_x hL i2).1 ?_
    refine V_icmp_geN (tgt := 91) dX12_wrong_64 rfl (by omega) (by omega) (fun h => absurd h (by omega)) (fun _ => ?_)
    refine V_aload_n dX12_wrong_67 rfl ?_
    refine V_iload dX12_wrong_68 rfl ?_
    refine V_callV (As := [.int (nI c)]) (st := []) (a := 62) dX12_wrong_70 kX12_wrongIn lX12_439 (by decide) rfl rfl (Nat.le_of_ble_eq_true rfl) ⟨Nat.le_of_ble_eq_true rfl, Nat.le_of_ble_eq_true rfl⟩ ⟨Nat.le_of_ble_eq_true rfl, Nat.le_of_ble_eq_true rfl⟩ rfl ⟨rfl, by decide⟩ (w_wrongIn i1 h6 h10 i4 i3 (lgW_x hL i2) hS hM (i := c) (by omega)) ?_
    rintro r sh' I2 J2 ⟨rfl, rfl, hR2, hY2, hV2, hf2⟩
    have hX2 := offX_t i2 hY2
    refine V_aload_n dX12_wrong_73 rfl ?_
    refine V_iload_n dX12_wrong_74 rfl ?_
    refine V_callV (As := [.int (nI v)]) (st := [.long (wrU (lfM a M) far la th sd c0 c1 c)]) (a := 62) dX12_wrong_75 kX12_wrongIn lX12_439 (by decide) rfl rfl (Nat.le_of_ble_eq_true rfl) ⟨Nat.le_of_ble_eq_true rfl, Nat.le_of_ble_eq_true rfl⟩ ⟨Nat.le_of_ble_eq_true rfl, Nat.le_of_ble_eq_true rfl⟩ rfl ⟨rfl, by decide⟩ (w_wrongIn hR2 h6 h10 hf2 hV2 (lgW_x hL hX2) hS hM (i := v) (by omega)) ?_
    rintro r sh' I3 J3 ⟨rfl, rfl, hR3, hY3, hV3, hf3⟩
    have hX3 := offX_t hX2 hY3
    refine V_lcmp dX12_wrong_78 ?_
    refine V_if_le (tgt := 85) dX12_wrong_79 rfl (fun hX => ?_) (fun hX => ?_)
    · skip
      rw [wrL_n (wl_gt.mp hX)] at hQ
      refine V_iincN (ls' := [(4, .int (nI (c + 1))), (0, .ref 62), (1, .int i), (2, .int (nI w)), (3, .int (nI v))]) (n := 1) dX12_wrong_85 rfl rfl (by decide) (by decide) rfl ?_
      refine V_goto (tgt := 58) dX12_wrong_88 rfl ?_
      refine V_sub2 (ls' := [(0, .ref 62), (1, .int i), (2, .int (nI w)), (3, .int (nI v)), (4, .int (nI (c + 1)))]) (List.forall_mem_cons.mpr ⟨rfl, List.forall_mem_cons.mpr ⟨rfl, List.forall_mem_cons.mpr ⟨rfl, List.forall_mem_cons.mpr ⟨rfl, List.forall_mem_cons.mpr ⟨rfl, fun _ h => absurd h List.not_mem_nil⟩⟩⟩⟩⟩) ?_
      exact ih (c + 1) v I3 J3 (by omega) (by omega) (by omega) hR3 hX3 hV3 hf3 hQ
    · skip
      rw [wrL_y (i64_g hX)] at hQ
      refine V_iload dX12_wrong_82 rfl ?_
      refine V_istore_n (ls' := [(3, .int (nI c)), (0, .ref 62), (1, .int i), (2, .int (nI w)), (4, .int (nI c))]) dX12_wrong_84 (by decide) rfl ?_
      refine V_iincN (ls' := [(4, .int (nI (c + 1))), (3, .int (nI c)), (0, .ref 62), (1, .int i), (2, .int (nI w))]) (n := 1) dX12_wrong_85 rfl rfl (by decide) (by decide) rfl ?_
      refine V_goto (tgt := 58) dX12_wrong_88 rfl ?_
      refine V_sub2 (ls' := [(0, .ref 62), (1, .int i), (2, .int (nI w)), (3, .int (nI c)), (4, .int (nI (c + 1)))]) (List.forall_mem_cons.mpr ⟨rfl, List.forall_mem_cons.mpr ⟨rfl, List.forall_mem_cons.mpr ⟨rfl, List.forall_mem_cons.mpr ⟨rfl, List.forall_mem_cons.mpr ⟨rfl, fun _ h => absurd h List.not_mem_nil⟩⟩⟩⟩⟩) ?_
      exact ih (c + 1) c I3 J3 (by omega) (by omega) (by omega) hR3 hX3 hV3 hf3 hQ

set_option maxRecDepth 100000 in
set_option maxHeartbeats 4000000 in
theorem w_wrong0 {G : zG} {I : zI} {J : zJ} {a : List (Nat × List (Nat × Nat) × List (Nat × Nat))} {M : Nat → ((Nat → Int32) → Option Int32) × ((Nat → Int32) → Option Int32)} {ar : Nat → List (Nat × List (Nat × Nat) × List (Nat × Nat))} {Mr : Nat → Nat → ((Nat → Int32) → Option Int32) × ((Nat → Int32) → Option Int32)} {far : Nat} (hR : soR I J a M ar Mr far) (h6 : 6 ≤ far) (h10 : far ≤ 10) {n la : Nat} {th sd c0 c1 : Nat → Nat} (hL : lgW I n la th sd c0 c1) (hS : lgS n la sd c0 c1) (hM : lgM n la th sd c0 c1) {i : Nat} (hi : i < n) : zK G mX12_wrong 11 [.ref 62, .int (nI i), .int (nI 0)] zsh I J (zP (fun r I' J' => r = some (.long (wrU (lfM a M) far la th sd c0 c1 i)) ∧ soR I' J' a M ar Mr far ∧ offX I J I' J' ∧ I' 62 5 = nI far)) := by
  have hn6 := hL.2.1
  refine zK_of kX12_wrong.2.2.2.2.1 (Nat.le_of_ble_eq_true rfl) ?_
  show V G mX12_wrong 11 _ 0 [(0, .ref 62), (1, .int (nI i)), (2, .int (nI 0))] [] (0, 0) zsh I J
  refine V_iload_n dX12_wrong_0 rfl ?_
  refine V_iconst (v := nI 0) dX12_wrong_1 rfl ?_
  refine V_iconst (v := nI 2) dX12_wrong_2 rfl ?_
  refine V_callS (As := [.int (nI 0), .int (nI 0), .int (nI 2)]) (st := []) dX12_wrong_3 kX12_in lX12_173 (by decide) rfl rfl (Nat.le_of_ble_eq_true rfl) ⟨Nat.le_of_ble_eq_true rfl, Nat.le_of_ble_eq_true rfl⟩ (w_inY (a := 0) (b := 2) (by decide) (by decide) ((inZ_k (by omega)).mpr (by omega))) ?_
  rintro _ _ _ _ ⟨rfl, rfl, rfl, rfl⟩
  refine V_if_eq (tgt := 35) dX12_wrong_6 rfl (fun h => absurd h (by decide)) (fun _ => ?_)
  refine V_aload_n dX12_wrong_9 rfl ?_
  refine V_getI dX12_wrong_10 fX12_155 ⟨Nat.le_of_ble_eq_true rfl, Nat.le_of_ble_eq_true rfl⟩ rfl rfl ?_
  refine V_eqI (y := nI n) hL.1 ?_
  refine V_iconst (v := nI 1) dX12_wrong_13 rfl ?_
  refine V_icmp_ltN (tgt := 35) dX12_wrong_14 rfl (by omega) (by omega) (fun h14 => ?_) (fun h14 => ?_)
  · skip
    refine V_ldc2 dX12_wrong_35 qX12_393 ?_
    exact V_lret ⟨rfl, dX12_wrong_38⟩ ⟨Nat.le_of_ble_eq_true rfl, Nat.le_of_ble_eq_true rfl⟩ (by first | exact ⟨rfl, rfl, hR2, offX_t hX hY2, hf2⟩ | (exfalso; omega))
  · skip
    refine V_iload_n dX12_wrong_17 rfl ?_
    refine V_if_ne (tgt := 39) dX12_wrong_18 rfl (fun h => absurd h (by decide)) (fun _ => ?_)
    refine V_iload_n dX12_wrong_21 rfl ?_
    refine V_iconst (v := nI 0) dX12_wrong_22 rfl ?_
    refine V_aload_n dX12_wrong_23 rfl ?_
    refine V_getI dX12_wrong_24 fX12_155 ⟨Nat.le_of_ble_eq_true rfl, Nat.le_of_ble_eq_true rfl⟩ rfl rfl ?_
    refine V_eqI (y := nI n) hL.1 ?_
    refine V_iconst (v := nI 1) dX12_wrong_27 rfl ?_
    refine V_isubN dX12_wrong_28 (by omega) ?_
    refine V_callS (As := [.int (nI i), .int (nI 0), .int (nI (n - 1))]) (st := []) dX12_wrong_29 kX12_in lX12_173 (by decide) rfl rfl (Nat.le_of_ble_eq_true rfl) ⟨Nat.le_of_ble_eq_true rfl, Nat.le_of_ble_eq_true rfl⟩ (w_inY (a := 0) (b := ((n - 1 : Nat) : Int)) (by decide) (nI_toInt (by omega)) ((inZ_k (by omega)).mpr (by omega))) ?_
    rintro _ _ _ _ ⟨rfl, rfl, rfl, rfl⟩
    refine V_if_ne (tgt := 39) dX12_wrong_32 rfl (fun _ => ?_) (fun h => absurd h (by decide))
    refine V_aload_n dX12_wrong_39 rfl ?_
    refine V_callV (As := []) (st := []) (a := 62) dX12_wrong_40 kX12_solvesBest lX12_390 (by decide) rfl rfl (Nat.le_of_ble_eq_true rfl) ⟨Nat.le_of_ble_eq_true rfl, Nat.le_of_ble_eq_true rfl⟩ ⟨Nat.le_of_ble_eq_true rfl, Nat.le_of_ble_eq_true rfl⟩ rfl ⟨rfl, by decide⟩ (w_solvesBest hR h6 h10) ?_
    rintro r sh' I1 J1 ⟨rfl, rfl, hq1, hR1, hX, hq5⟩
    refine V_iload_n dX12_wrong_43 rfl ?_
    refine V_if_ne (tgt := 53) dX12_wrong_44 rfl (fun h => absurd h (by decide)) (fun _ => ?_)
    refine V_aload_n dX12_wrong_47 rfl ?_
    refine V_iload_n dX12_wrong_48 rfl ?_
    refine V_callV (As := [.int (nI i)]) (st := []) (a := 62) dX12_wrong_49 kX12_wrongIn lX12_439 (by decide) rfl rfl (Nat.le_of_ble_eq_true rfl) ⟨Nat.le_of_ble_eq_true rfl, Nat.le_of_ble_eq_true rfl⟩ ⟨Nat.le_of_ble_eq_true rfl, Nat.le_of_ble_eq_true rfl⟩ rfl ⟨rfl, by decide⟩ (w_wrongIn hR1 h6 h10 hq5 hq1 (lgW_x hL hX) hS hM (i := i) (by omega)) ?_
    rintro r sh' I2 J2 ⟨rfl, rfl, hR2, hY2, hV2, hf2⟩
    exact V_lret ⟨rfl, dX12_wrong_52⟩ ⟨Nat.le_of_ble_eq_true rfl, Nat.le_of_ble_eq_true rfl⟩ (by first | exact ⟨rfl, rfl, hR2, offX_t hX hY2, hf2⟩ | (exfalso; omega))

set_option maxRecDepth 100000 in
set_option maxHeartbeats 4000000 in
theorem w_wrong1 {G : zG} {I : zI} {J : zJ} {a : List (Nat × List (Nat × Nat) × List (Nat × Nat))} {M : Nat → ((Nat → Int32) → Option Int32) × ((Nat → Int32) → Option Int32)} {ar : Nat → List (Nat × List (Nat × Nat) × List (Nat × Nat))} {Mr : Nat → Nat → ((Nat → Int32) → Option Int32) × ((Nat → Int32) → Option Int32)} {far : Nat} (hR : soR I J a M ar Mr far) (h6 : 6 ≤ far) (h10 : far ≤ 10) {n la : Nat} {th sd c0 c1 : Nat → Nat} (hL : lgW I n la th sd c0 c1) (hS : lgS n la sd c0 c1) (hM : lgM n la th sd c0 c1) {i : Int32} (h1n : 1 ≤ n) : zK G mX12_wrong 11 [.ref 62, .int i, .int (nI 1)] zsh I J (zP (fun r I' J' => r = some (.long ((nI (wrL (wrU (lfM a M) far la th sd c0 c1) (n - 1) 1 0 (wrU (lfM a M) far la th sd c0 c1 0)).1).toInt64)) ∧ soR I' J' a M ar Mr far ∧ offX I J I' J' ∧ I' 62 5 = nI far)) := by
  have hn6 := hL.2.1
  refine zK_of kX12_wrong.2.2.2.2.1 (Nat.le_of_ble_eq_true rfl) ?_
  show V G mX12_wrong 11 _ 0 [(0, .ref 62), (1, .int i), (2, .int (nI 1))] [] (0, 0) zsh I J
  refine V_iload_n dX12_wrong_0 rfl ?_
  refine V_iconst (v := nI 0) dX12_wrong_1 rfl ?_
  refine V_iconst (v := nI 2) dX12_wrong_2 rfl ?_
  refine V_callS (As := [.int (nI 1), .int (nI 0), .int (nI 2)]) (st := []) dX12_wrong_3 kX12_in lX12_173 (by decide) rfl rfl (Nat.le_of_ble_eq_true rfl) ⟨Nat.le_of_ble_eq_true rfl, Nat.le_of_ble_eq_true rfl⟩ (w_inY (a := 0) (b := 2) (by decide) (by decide) ((inZ_k (by omega)).mpr (by omega))) ?_
  rintro _ _ _ _ ⟨rfl, rfl, rfl, rfl⟩
  refine V_if_eq (tgt := 35) dX12_wrong_6 rfl (fun h => absurd h (by decide)) (fun _ => ?_)
  refine V_aload_n dX12_wrong_9 rfl ?_
  refine V_getI dX12_wrong_10 fX12_155 ⟨Nat.le_of_ble_eq_true rfl, Nat.le_of_ble_eq_true rfl⟩ rfl rfl ?_
  refine V_eqI (y := nI n) hL.1 ?_
  refine V_iconst (v := nI 1) dX12_wrong_13 rfl ?_
  refine V_icmp_ltN (tgt := 35) dX12_wrong_14 rfl (by omega) (by omega) (fun h14 => ?_) (fun h14 => ?_)
  · skip
    refine V_ldc2 dX12_wrong_35 qX12_393 ?_
    exact V_lret ⟨rfl, dX12_wrong_38⟩ ⟨Nat.le_of_ble_eq_true rfl, Nat.le_of_ble_eq_true rfl⟩ (by exfalso; omega)
  · skip
    refine V_iload_n dX12_wrong_17 rfl ?_
    refine V_if_ne (tgt := 39) dX12_wrong_18 rfl (fun _ => ?_) (fun h => absurd h (by decide))
    refine V_aload_n dX12_wrong_39 rfl ?_
    refine V_callV (As := []) (st := []) (a := 62) dX12_wrong_40 kX12_solvesBest lX12_390 (by decide) rfl rfl (Nat.le_of_ble_eq_true rfl) ⟨Nat.le_of_ble_eq_true rfl, Nat.le_of_ble_eq_true rfl⟩ ⟨Nat.le_of_ble_eq_true rfl, Nat.le_of_ble_eq_true rfl⟩ rfl ⟨rfl, by decide⟩ (w_solvesBest hR h6 h10) ?_
    rintro r sh' I1 J1 ⟨rfl, rfl, hq1, hR1, hX, hq5⟩
    refine V_iload_n dX12_wrong_43 rfl ?_
    refine V_if_ne (tgt := 53) dX12_wrong_44 rfl (fun _ => ?_) (fun h => absurd h (by decide))
    refine V_iconst (v := nI 0) dX12_wrong_53 rfl ?_
    refine V_istore_n (ls' := [(3, .int (nI 0)), (0, .ref 62), (1, .int i), (2, .int (nI 1))]) dX12_wrong_54 (by decide) rfl ?_
    refine V_iconst (v := nI 1) dX12_wrong_55 rfl ?_
    refine V_istore (ls' := [(4, .int (nI 1)), (3, .int (nI 0)), (0, .ref 62), (1, .int i), (2, .int (nI 1))]) dX12_wrong_56 (by decide) rfl ?_
    refine V_sub2 (ls' := [(0, .ref 62), (1, .int i), (2, .int (nI 1)), (3, .int (nI 0)), (4, .int (nI 1))]) (List.forall_mem_cons.mpr ⟨rfl, List.forall_mem_cons.mpr ⟨rfl, List.forall_mem_cons.mpr ⟨rfl, List.forall_mem_cons.mpr ⟨rfl, List.forall_mem_cons.mpr ⟨rfl, fun _ h => absurd h List.not_mem_nil⟩⟩⟩⟩⟩) ?_
    refine lp_wrongW h6 h10 hL hS hM (w := 1) (by omega) (n - 1) 1 0 I1 J1 (by omega) (by omega) (by omega) hR1 hX hq1 hq5 (fun I2 J2 g1 g2 g3 => ?_)
    exact ⟨rfl, rfl, g1, g2, g3⟩

set_option maxRecDepth 100000 in
set_option maxHeartbeats 4000000 in
theorem w_wrong2 {G : zG} {I : zI} {J : zJ} {a : List (Nat × List (Nat × Nat) × List (Nat × Nat))} {M : Nat → ((Nat → Int32) → Option Int32) × ((Nat → Int32) → Option Int32)} {ar : Nat → List (Nat × List (Nat × Nat) × List (Nat × Nat))} {Mr : Nat → Nat → ((Nat → Int32) → Option Int32) × ((Nat → Int32) → Option Int32)} {far : Nat} (hR : soR I J a M ar Mr far) (h6 : 6 ≤ far) (h10 : far ≤ 10) {n la : Nat} {th sd c0 c1 : Nat → Nat} (hL : lgW I n la th sd c0 c1) (hS : lgS n la sd c0 c1) (hM : lgM n la th sd c0 c1) {i : Int32} (h1n : 1 ≤ n) : zK G mX12_wrong 11 [.ref 62, .int i, .int (nI 2)] zsh I J (zP (fun r I' J' => r = some (.long ((wrL (wrU (lfM a M) far la th sd c0 c1) (n - 1) 1 0 (wrU (lfM a M) far la th sd c0 c1 0)).2)) ∧ soR I' J' a M ar Mr far ∧ offX I J I' J' ∧ I' 62 5 = nI far)) := by
  have hn6 := hL.2.1
  refine zK_of kX12_wrong.2.2.2.2.1 (Nat.le_of_ble_eq_true rfl) ?_
  show V G mX12_wrong 11 _ 0 [(0, .ref 62), (1, .int i), (2, .int (nI 2))] [] (0, 0) zsh I J
  refine V_iload_n dX12_wrong_0 rfl ?_
  refine V_iconst (v := nI 0) dX12_wrong_1 rfl ?_
  refine V_iconst (v := nI 2) dX12_wrong_2 rfl ?_
  refine V_callS (As := [.int (nI 2), .int (nI 0), .int (nI 2)]) (st := []) dX12_wrong_3 kX12_in lX12_173 (by decide) rfl rfl (Nat.le_of_ble_eq_true rfl) ⟨Nat.le_of_ble_eq_true rfl, Nat.le_of_ble_eq_true rfl⟩ (w_inY (a := 0) (b := 2) (by decide) (by decide) ((inZ_k (by omega)).mpr (by omega))) ?_
  rintro _ _ _ _ ⟨rfl, rfl, rfl, rfl⟩
  refine V_if_eq (tgt := 35) dX12_wrong_6 rfl (fun h => absurd h (by decide)) (fun _ => ?_)
  refine V_aload_n dX12_wrong_9 rfl ?_
  refine V_getI dX12_wrong_10 fX12_155 ⟨Nat.le_of_ble_eq_true rfl, Nat.le_of_ble_eq_true rfl⟩ rfl rfl ?_
  refine V_eqI (y := nI n) hL.1 ?_
  refine V_iconst (v := nI 1) dX12_wrong_13 rfl ?_
  refine V_icmp_ltN (tgt := 35) dX12_wrong_14 rfl (by omega) (by omega) (fun h14 => ?_) (fun h14 => ?_)
  · skip
    refine V_ldc2 dX12_wrong_35 qX12_393 ?_
    exact V_lret ⟨rfl, dX12_wrong_38⟩ ⟨Nat.le_of_ble_eq_true rfl, Nat.le_of_ble_eq_true rfl⟩ (by exfalso; omega)
  · skip
    refine V_iload_n dX12_wrong_17 rfl ?_
    refine V_if_ne (tgt := 39) dX12_wrong_18 rfl (fun _ => ?_) (fun h => absurd h (by decide))
    refine V_aload_n dX12_wrong_39 rfl ?_
    refine V_callV (As := []) (st := []) (a := 62) dX12_wrong_40 kX12_solvesBest lX12_390 (by decide) rfl rfl (Nat.le_of_ble_eq_true rfl) ⟨Nat.le_of_ble_eq_true rfl, Nat.le_of_ble_eq_true rfl⟩ ⟨Nat.le_of_ble_eq_true rfl, Nat.le_of_ble_eq_true rfl⟩ rfl ⟨rfl, by decide⟩ (w_solvesBest hR h6 h10) ?_
    rintro r sh' I1 J1 ⟨rfl, rfl, hq1, hR1, hX, hq5⟩
    refine V_iload_n dX12_wrong_43 rfl ?_
    refine V_if_ne (tgt := 53) dX12_wrong_44 rfl (fun _ => ?_) (fun h => absurd h (by decide))
    refine V_iconst (v := nI 0) dX12_wrong_53 rfl ?_
    refine V_istore_n (ls' := [(3, .int (nI 0)), (0, .ref 62), (1, .int i), (2, .int (nI 2))]) dX12_wrong_54 (by decide) rfl ?_
    refine V_iconst (v := nI 1) dX12_wrong_55 rfl ?_
    refine V_istore (ls' := [(4, .int (nI 1)), (3, .int (nI 0)), (0, .ref 62), (1, .int i), (2, .int (nI 2))]) dX12_wrong_56 (by decide) rfl ?_
    refine V_sub2 (ls' := [(0, .ref 62), (1, .int i), (2, .int (nI 2)), (3, .int (nI 0)), (4, .int (nI 1))]) (List.forall_mem_cons.mpr ⟨rfl, List.forall_mem_cons.mpr ⟨rfl, List.forall_mem_cons.mpr ⟨rfl, List.forall_mem_cons.mpr ⟨rfl, List.forall_mem_cons.mpr ⟨rfl, fun _ h => absurd h List.not_mem_nil⟩⟩⟩⟩⟩) ?_
    refine lp_wrongW h6 h10 hL hS hM (w := 2) (by omega) (n - 1) 1 0 I1 J1 (by omega) (by omega) (by omega) hR1 hX hq1 hq5 (fun I2 J2 g1 g2 g3 => ?_)
    exact ⟨rfl, rfl, g1, g2, g3⟩

set_option maxRecDepth 100000 in
set_option maxHeartbeats 4000000 in
theorem w_wrongN {G : zG} {I : zI} {J : zJ} (hL : I 62 46 = -1 ∨ ∃ n, n ≤ 6 ∧ I 62 46 = nI n) {i w : Int32} (hN : ¬ (inZ w 0 2 ∧ 1 ≤ (I 62 46).toInt ∧ (w.toInt = 0 → 0 ≤ i.toInt ∧ i.toInt < (I 62 46).toInt))) : zK G mX12_wrong 1 [.ref 62, .int i, .int w] zsh I J (zA0 (.long (-1)) I J) := by
  refine zK_of kX12_wrong.2.2.2.2.1 (Nat.le_of_ble_eq_true rfl) ?_
  show V G mX12_wrong 1 _ 0 [(0, .ref 62), (1, .int i), (2, .int w)] [] (0, 0) zsh I J
  by_cases hw : inZ w 0 2
  · obtain ⟨v, rfl, hv1, hv2⟩ := inZ_n hw (by decide)
    rcases hL with hL | ⟨n, hn6, hL⟩
    · skip
      refine V_iload_n dX12_wrong_0 rfl ?_
      refine V_iconst (v := nI 0) dX12_wrong_1 rfl ?_
      refine V_iconst (v := nI 2) dX12_wrong_2 rfl ?_
      refine V_callS (As := [.int (nI v), .int (nI 0), .int (nI 2)]) (st := []) dX12_wrong_3 kX12_in lX12_173 (by decide) rfl rfl (Nat.le_of_ble_eq_true rfl) ⟨Nat.le_of_ble_eq_true rfl, Nat.le_of_ble_eq_true rfl⟩ (w_inY (a := 0) (b := 2) (by decide) (by decide) ((inZ_k (by omega)).mpr (by omega))) ?_
      rintro _ _ _ _ ⟨rfl, rfl, rfl, rfl⟩
      refine V_if_eq (tgt := 35) dX12_wrong_6 rfl (fun h => absurd h (by decide)) (fun _ => ?_)
      refine V_aload_n dX12_wrong_9 rfl ?_
      refine V_getI dX12_wrong_10 fX12_155 ⟨Nat.le_of_ble_eq_true rfl, Nat.le_of_ble_eq_true rfl⟩ rfl rfl ?_
      refine V_eqI (y := (-1)) hL ?_
      refine V_iconst (v := nI 1) dX12_wrong_13 rfl ?_
      refine V_icmp_lt (tgt := 35) dX12_wrong_14 rfl (fun _ => ?_) (fun h => absurd h (by decide))
      refine V_ldc2 dX12_wrong_35 qX12_393 ?_
      exact V_lret ⟨rfl, dX12_wrong_38⟩ ⟨Nat.le_of_ble_eq_true rfl, Nat.le_of_ble_eq_true rfl⟩ ⟨rfl, rfl, rfl, rfl⟩
    · by_cases h1 : 1 ≤ n
      · have e1 : (I 62 46).toInt = n := by rw [hL, nI_toInt (by omega)]
        have ev : (nI v).toInt = v := nI_toInt (by omega)
        obtain rfl : v = 0 := Classical.byContradiction (fun h => hN ⟨hw, by omega, fun e => absurd e (by omega)⟩)
        have hi : ¬ (0 ≤ i.toInt ∧ i.toInt < n) := fun h => hN ⟨hw, by omega, fun _ => by omega⟩
        refine V_iload_n dX12_wrong_0 rfl ?_
        refine V_iconst (v := nI 0) dX12_wrong_1 rfl ?_
        refine V_iconst (v := nI 2) dX12_wrong_2 rfl ?_
        refine V_callS (As := [.int (nI 0), .int (nI 0), .int (nI 2)]) (st := []) dX12_wrong_3 kX12_in lX12_173 (by decide) rfl rfl (Nat.le_of_ble_eq_true rfl) ⟨Nat.le_of_ble_eq_true rfl, Nat.le_of_ble_eq_true rfl⟩ (w_inY (a := 0) (b := 2) (by decide) (by decide) ((inZ_k (by omega)).mpr (by omega))) ?_
        rintro _ _ _ _ ⟨rfl, rfl, rfl, rfl⟩
        refine V_if_eq (tgt := 35) dX12_wrong_6 rfl (fun h => absurd h (by decide)) (fun _ => ?_)
        refine V_aload_n dX12_wrong_9 rfl ?_
        refine V_getI dX12_wrong_10 fX12_155 ⟨Nat.le_of_ble_eq_true rfl, Nat.le_of_ble_eq_true rfl⟩ rfl rfl ?_
        refine V_eqI (y := nI n) hL ?_
        refine V_iconst (v := nI 1) dX12_wrong_13 rfl ?_
        refine V_icmp_ltN (tgt := 35) dX12_wrong_14 rfl (by omega) (by omega) (fun h => absurd h (by omega)) (fun _ => ?_)
        refine V_iload_n dX12_wrong_17 rfl ?_
        refine V_if_ne (tgt := 39) dX12_wrong_18 rfl (fun h => absurd h (by decide)) (fun _ => ?_)
        refine V_iload_n dX12_wrong_21 rfl ?_
        refine V_iconst (v := nI 0) dX12_wrong_22 rfl ?_
        refine V_aload_n dX12_wrong_23 rfl ?_
        refine V_getI dX12_wrong_24 fX12_155 ⟨Nat.le_of_ble_eq_true rfl, Nat.le_of_ble_eq_true rfl⟩ rfl rfl ?_
        refine V_eqI (y := nI n) hL ?_
        refine V_iconst (v := nI 1) dX12_wrong_27 rfl ?_
        refine V_isubN dX12_wrong_28 (by omega) ?_
        refine V_callS (As := [.int i, .int (nI 0), .int (nI (n - 1))]) (st := []) dX12_wrong_29 kX12_in lX12_173 (by decide) rfl rfl (Nat.le_of_ble_eq_true rfl) ⟨Nat.le_of_ble_eq_true rfl, Nat.le_of_ble_eq_true rfl⟩ (w_inN (a := 0) (b := ((n - 1 : Nat) : Int)) (by decide) (nI_toInt (by omega)) (fun h => hi ⟨h.1, by have h2 := h.2; omega⟩)) ?_
        rintro _ _ _ _ ⟨rfl, rfl, rfl, rfl⟩
        refine V_if_ne (tgt := 39) dX12_wrong_32 rfl (fun h => absurd h (by decide)) (fun _ => ?_)
        refine V_ldc2 dX12_wrong_35 qX12_393 ?_
        exact V_lret ⟨rfl, dX12_wrong_38⟩ ⟨Nat.le_of_ble_eq_true rfl, Nat.le_of_ble_eq_true rfl⟩ ⟨rfl, rfl, rfl, rfl⟩
      · skip
        refine V_iload_n dX12_wrong_0 rfl ?_
        refine V_iconst (v := nI 0) dX12_wrong_1 rfl ?_
        refine V_iconst (v := nI 2) dX12_wrong_2 rfl ?_
        refine V_callS (As := [.int (nI v), .int (nI 0), .int (nI 2)]) (st := []) dX12_wrong_3 kX12_in lX12_173 (by decide) rfl rfl (Nat.le_of_ble_eq_true rfl) ⟨Nat.le_of_ble_eq_true rfl, Nat.le_of_ble_eq_true rfl⟩ (w_inY (a := 0) (b := 2) (by decide) (by decide) ((inZ_k (by omega)).mpr (by omega))) ?_
        rintro _ _ _ _ ⟨rfl, rfl, rfl, rfl⟩
        refine V_if_eq (tgt := 35) dX12_wrong_6 rfl (fun h => absurd h (by decide)) (fun _ => ?_)
        refine V_aload_n dX12_wrong_9 rfl ?_
        refine V_getI dX12_wrong_10 fX12_155 ⟨Nat.le_of_ble_eq_true rfl, Nat.le_of_ble_eq_true rfl⟩ rfl rfl ?_
        refine V_eqI (y := nI n) hL ?_
        refine V_iconst (v := nI 1) dX12_wrong_13 rfl ?_
        refine V_icmp_ltN (tgt := 35) dX12_wrong_14 rfl (by omega) (by omega) (fun _ => ?_) (fun h => absurd h (by omega))
        refine V_ldc2 dX12_wrong_35 qX12_393 ?_
        exact V_lret ⟨rfl, dX12_wrong_38⟩ ⟨Nat.le_of_ble_eq_true rfl, Nat.le_of_ble_eq_true rfl⟩ ⟨rfl, rfl, rfl, rfl⟩
  · skip
    refine V_iload_n dX12_wrong_0 rfl ?_
    refine V_iconst (v := nI 0) dX12_wrong_1 rfl ?_
    refine V_iconst (v := nI 2) dX12_wrong_2 rfl ?_
    refine V_callS (As := [.int w, .int (nI 0), .int (nI 2)]) (st := []) dX12_wrong_3 kX12_in lX12_173 (by decide) rfl rfl (Nat.le_of_ble_eq_true rfl) ⟨Nat.le_of_ble_eq_true rfl, Nat.le_of_ble_eq_true rfl⟩ (w_inN (a := 0) (b := 2) (by decide) (by decide) hw) ?_
    rintro _ _ _ _ ⟨rfl, rfl, rfl, rfl⟩
    refine V_if_eq (tgt := 35) dX12_wrong_6 rfl (fun _ => ?_) (fun h => absurd h (by decide))
    refine V_ldc2 dX12_wrong_35 qX12_393 ?_
    exact V_lret ⟨rfl, dX12_wrong_38⟩ ⟨Nat.le_of_ble_eq_true rfl, Nat.le_of_ble_eq_true rfl⟩ ⟨rfl, rfl, rfl, rfl⟩

