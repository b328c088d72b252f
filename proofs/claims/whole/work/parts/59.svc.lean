/-! THE MODEL: one state settled by a choice -/
theorem zwl_2 {J : zJ} {a k : Nat} {x y : Int64} : zwl (zwl J a k x) a k y = zwl J a k y := by
  funext b j
  simp only [zwl_at]
  split <;> rfl
theorem pk_y {w : Nat} {a b : Int64} (h : if w = 0 then a < b else b < a) : sPick 0 w a b = (b, true) := by
  unfold sPick
  rw [if_neg (by decide), if_neg (by decide), if_pos h]
theorem pk_n {w : Nat} {a b : Int64} (h : ¬ if w = 0 then a < b else b < a) : sPick 0 w a b = (a, false) := by
  unfold sPick
  rw [if_neg (by decide), if_neg (by decide), if_neg h]
theorem vX_c {kd one two : Int32} {Rl : Nat → Nat → (Nat → Int32) → Int32} {Lf : Nat → (Nat → Int32) → Int32} {far p q l : Nat} {u1 u2 : Int64} (hp : p < 56) (hq : q < 56) (hw : sWho p q l ≤ 1) (hcn : sCan p q (sWho p q l) = true) (h3 : ¬ kd = 3) (hr : kd = 1 → (if sWho p q l = 0 then one else two) = -1) (h1 : u1 = sW (fun x y z => (vX kd one two Rl Lf far x y z).1) Lf far p q l 1) (h2 : u2 = sW (fun x y z => (vX kd one two Rl Lf far x y z).1) Lf far p q l 2) : vX kd one two Rl Lf far p q l = sPick 0 (sWho p q l) u1 u2 := by
  rw [h1, h2, vX_s hp hq hw, sTold_c hcn h3 hr]
theorem lg_y0 {w : Nat} {a b : Int64} (hw : w = 0) (h : ¬ lg_cmp b a ≤ 0) : if w = 0 then a < b else b < a := by
  rw [if_pos hw]
  exact Classical.byContradiction (fun g => absurd (wl_gt.mpr g) h)
theorem lg_n0 {w : Nat} {a b : Int64} (hw : w = 0) (h : lg_cmp b a ≤ 0) : ¬ if w = 0 then a < b else b < a := by
  rw [if_pos hw]
  exact wl_gt.mp h
theorem lg_y1 {w : Nat} {a b : Int64} (hw : ¬ w = 0) (h : ¬ 0 ≤ lg_cmp b a) : if w = 0 then a < b else b < a := by
  rw [if_neg hw]
  exact Classical.byContradiction (fun g => absurd (wl_lt.mpr g) h)
theorem lg_n1 {w : Nat} {a b : Int64} (hw : ¬ w = 0) (h : 0 ≤ lg_cmp b a) : ¬ if w = 0 then a < b else b < a := by
  rw [if_neg hw]
  exact wl_lt.mp h
theorem at85y {v : Int64 × Bool} {u : Int64} {I : zI} {s : Nat} (hv : v = (u, true)) : zwr I 85 s (vp_nar .byte (nI 2)) 85 s = if v.2 = true then nI 2 else nI 1 := by
  rw [hv, if_pos rfl]
  simp only [zwr_at]
  rw [if_pos ⟨trivial, trivial⟩]
  decide
theorem at85n {v : Int64 × Bool} {u : Int64} {I I1 I2 : zI} {s : Nat} (hv : v = (u, false)) (h1 : offL (zwr I 85 s (vp_nar .byte (nI 1))) I1) (h2 : offL I1 I2) : I2 85 s = if v.2 = true then nI 2 else nI 1 := by
  rw [hv, if_neg Bool.false_ne_true, h2.1 85 (by decide) (by decide) (by decide) (by decide) (by decide), h1.1 85 (by decide) (by decide) (by decide) (by decide) (by decide)]
  simp only [zwr_at]
  rw [if_pos ⟨trivial, trivial⟩]
  decide
set_option maxRecDepth 100000 in
set_option maxHeartbeats 4000000 in
theorem w_svC {G : zG} {I : zI} {J : zJ} (hT : mT I) {far : Nat} {a : List (Nat × List (Nat × Nat) × List (Nat × Nat))} {M : Nat → ((Nat → Int32) → Option Int32) × ((Nat → Int32) → Option Int32)} (hf : I 62 5 = nI far) (h6 : 6 ≤ far) (h10 : far ≤ 10) (hP : mpI I 0 a M) (hc : chA I (lfM a M)) {Rl : Nat → Nat → (Nat → Int32) → Int32} {one two : Int32} {kd : Int32} {md : Nat} (h3 : ¬ kd = 3) {p q l : Nat} (hp : p < 56) (hq : q < 56) (hl : l ≤ 1) (hw : sWho p q l ≤ 1) (hcn : sCan p q (sWho p q l) = true) (hr : (if sWho p q l = 0 then I 62 33 else I 62 34) = -1) (hrr : kd = 1 → (if sWho p q l = 0 then one else two) = -1) (hJ : ∀ part, part ≤ 6 → J 83 (stN (sNx p q l part).1 (sNx p q l part).2 (sWho p q l)) = (vX kd one two Rl (lfM a M) far (sNx p q l part).1 (sNx p q l part).2 (sWho p q l)).1) : zK G mX12_solvesAt 7 [.ref 62, .int (nI (stN p q l)), .int (nI md)] zsh I J (zP (fun r I' J' => r = none ∧ (offV I I' (stN p q l) ∧ I' 85 (stN p q l) = if (vX kd one two Rl (lfM a M) far p q l).2 = true then nI 2 else nI 1) ∧ chA I' (lfM a M) ∧ J' = zwl J 83 (stN p q l) (vX kd one two Rl (lfM a M) far p q l).1)) := by
  refine zK_of kX12_solvesAt.2.2.2.2.1 (Nat.le_of_ble_eq_true rfl) ?_
  show V G mX12_solvesAt 7 _ 0 [(0, .ref 62), (1, .int (nI (stN p q l))), (2, .int (nI md))] [] (0, 0) zsh I J
  have hst := stN_lt hp hq hl
  obtain ⟨u1, hu1⟩ : ∃ u, u = sW (fun x y z => (vX kd one two Rl (lfM a M) far x y z).1) (lfM a M) far p q l 1 := ⟨_, rfl⟩
  obtain ⟨u2, hu2⟩ : ∃ u, u = sW (fun x y z => (vX kd one two Rl (lfM a M) far x y z).1) (lfM a M) far p q l 2 := ⟨_, rfl⟩
  have hW1 : sW (fun a b c => J 83 (stN a b c)) (lfM a M) far p q l 1 = u1 := (sW_c hJ).trans hu1.symm
  have hW2 : sW (fun a b c => zwl J 83 (stN p q l) u1 83 (stN a b c)) (lfM a M) far p q l 2 = u2 := (sW_c (fun part hpa => (show zwl J 83 (stN p q l) u1 83 _ = J 83 _ from by have hn := nx_ne (part := part) hp hq hl hw hpa; simp only [zwl_at]; rw [if_neg (fun h => hn h.2)]).trans (hJ part hpa))).trans hu2.symm
  have hvx := vX_c hp hq hw hcn h3 hrr hu1 hu2
  refine V_aload_n dX12_solvesAt_0 rfl ?_
  refine V_iload_n dX12_solvesAt_1 rfl ?_
  refine V_callV (As := [.int (nI (stN p q l))]) (st := []) (a := 62) dX12_solvesAt_2 kX12_turnIn lX12_206 (by decide) rfl rfl (Nat.le_of_ble_eq_true rfl) ⟨Nat.le_of_ble_eq_true rfl, Nat.le_of_ble_eq_true rfl⟩ ⟨Nat.le_of_ble_eq_true rfl, Nat.le_of_ble_eq_true rfl⟩ rfl ⟨rfl, by decide⟩ (w_turnIn hT hp hq hl) ?_
  rintro _ _ _ _ ⟨rfl, rfl, rfl, rfl⟩
  refine V_istore_n (ls' := [(3, .int (nI (sWho p q l))), (0, .ref 62), (1, .int (nI (stN p q l))), (2, .int (nI md))]) dX12_solvesAt_5 (by decide) rfl ?_
  refine V_iload_n dX12_solvesAt_6 rfl ?_
  refine V_iconst (v := nI 2) dX12_solvesAt_7 rfl ?_
  refine V_icmp_neN (tgt := 31) dX12_solvesAt_8 rfl (by omega) (by omega) (fun _ => ?_) (fun h => absurd h (by omega))
  refine V_iload_n dX12_solvesAt_31 rfl ?_
  refine V_if_neN (tgt := 42) dX12_solvesAt_32 rfl (by omega) (fun h32 => ?_) (fun h32 => ?_)
  · skip
    refine V_aload_n dX12_solvesAt_42 rfl ?_
    refine V_getI dX12_solvesAt_43 fX12_363 ⟨Nat.le_of_ble_eq_true rfl, Nat.le_of_ble_eq_true rfl⟩ rfl rfl ?_
    refine V_eqI (y := (-1)) ((if_neg h32).symm.trans hr) ?_
    refine V_istore (ls' := [(4, .int (-1)), (3, .int (nI (sWho p q l))), (0, .ref 62), (1, .int (nI (stN p q l))), (2, .int (nI md))]) dX12_solvesAt_46 (by decide) rfl ?_
    refine V_aload_n dX12_solvesAt_48 rfl ?_
    refine V_getR (b := 85) dX12_solvesAt_49 fX12_79 ⟨Nat.le_of_ble_eq_true rfl, Nat.le_of_ble_eq_true rfl⟩ rfl rfl rfl ?_
    refine V_iload_n dX12_solvesAt_52 rfl ?_
    refine V_iconst (v := nI 1) dX12_solvesAt_53 rfl ?_
    refine V_bastN (k := stN p q l) dX12_solvesAt_54 ⟨Nat.le_of_ble_eq_true rfl, Nat.le_of_ble_eq_true rfl⟩ rfl (by decide) (by omega) ?_
    refine V_iload dX12_solvesAt_55 rfl ?_
    refine V_iconst (v := (-1)) dX12_solvesAt_57 rfl ?_
    refine V_icmp_eq (tgt := 99) dX12_solvesAt_58 rfl (fun _ => ?_) (fun h => absurd h (by decide))
    refine V_aload_n dX12_solvesAt_99 rfl ?_
    refine V_getR (b := 83) dX12_solvesAt_100 fX12_72 ⟨Nat.le_of_ble_eq_true rfl, Nat.le_of_ble_eq_true rfl⟩ rfl rfl rfl ?_
    refine V_iload_n dX12_solvesAt_103 rfl ?_
    refine V_aload_n dX12_solvesAt_104 rfl ?_
    refine V_iload_n dX12_solvesAt_105 rfl ?_
    refine V_iload_n dX12_solvesAt_106 rfl ?_
    refine V_iconst (v := nI 1) dX12_solvesAt_107 rfl ?_
    refine V_aload_n dX12_solvesAt_108 rfl ?_
    refine V_getR (b := 83) dX12_solvesAt_109 fX12_72 ⟨Nat.le_of_ble_eq_true rfl, Nat.le_of_ble_eq_true rfl⟩ rfl rfl rfl ?_
    refine V_callV (As := [.int (nI (stN p q l)), .int (nI (sWho p q l)), .int (nI 1), .ref 83]) (st := [.int (nI (stN p q l)), .ref 83]) (a := 62) dX12_solvesAt_112 kX12_valueBy lX12_369 (by decide) rfl rfl (Nat.le_of_ble_eq_true rfl) ⟨Nat.le_of_ble_eq_true rfl, Nat.le_of_ble_eq_true rfl⟩ ⟨Nat.le_of_ble_eq_true rfl, Nat.le_of_ble_eq_true rfl⟩ rfl ⟨rfl, by decide⟩ (w_valueBy (I := zwr I 85 (stN p q l) (vp_nar .byte (nI 1))) (va := 83) (mT_c hT rfl rfl rfl) hf h6 h10 (mpI_c hP (fun k h1 h2 => by funext j; have : k ≠ 85 := (by omega); simp [zwr_at, this])) (chA_c hc rfl rfl) hp hq hl hw ⟨⟨Nat.le_of_ble_eq_true rfl, Nat.le_of_ble_eq_true rfl⟩, rfl⟩ (Or.inl rfl) (fun h => absurd h (by decide))) ?_
    rintro r sh' I' J' ⟨rfl, rfl, hq1, hq2, rfl⟩
    refine V_eqL (y := u1) hW1 ?_
    refine V_lastN (k := stN p q l) dX12_solvesAt_115 ⟨Nat.le_of_ble_eq_true rfl, Nat.le_of_ble_eq_true rfl⟩ rfl (by decide) (by omega) ?_
    refine V_aload_n dX12_solvesAt_116 rfl ?_
    refine V_iload_n dX12_solvesAt_117 rfl ?_
    refine V_iload_n dX12_solvesAt_118 rfl ?_
    refine V_callV (As := [.int (nI (stN p q l)), .int (nI (sWho p q l))]) (st := []) (a := 62) dX12_solvesAt_119 kX12_canShoot lX12_337 (by decide) rfl rfl (Nat.le_of_ble_eq_true rfl) ⟨Nat.le_of_ble_eq_true rfl, Nat.le_of_ble_eq_true rfl⟩ ⟨Nat.le_of_ble_eq_true rfl, Nat.le_of_ble_eq_true rfl⟩ rfl ⟨rfl, by decide⟩ (q_y (w_canShoot (mT_l (I := zwr I 85 (stN p q l) (vp_nar .byte (nI 1))) (mT_c hT rfl rfl rfl) hq1) hp hq hl hw) hcn) ?_
    rintro _ _ _ _ ⟨rfl, rfl, rfl, rfl⟩
    refine V_if_ne (tgt := 126) dX12_solvesAt_122 rfl (fun _ => ?_) (fun h => absurd h (by decide))
    refine V_aload_n dX12_solvesAt_126 rfl ?_
    refine V_iload_n dX12_solvesAt_127 rfl ?_
    refine V_iload_n dX12_solvesAt_128 rfl ?_
    refine V_iconst (v := nI 2) dX12_solvesAt_129 rfl ?_
    refine V_aload_n dX12_solvesAt_130 rfl ?_
    refine V_getR (b := 83) dX12_solvesAt_131 fX12_72 ⟨Nat.le_of_ble_eq_true rfl, Nat.le_of_ble_eq_true rfl⟩ rfl rfl rfl ?_
    refine V_callV (As := [.int (nI (stN p q l)), .int (nI (sWho p q l)), .int (nI 2), .ref 83]) (st := []) (a := 62) dX12_solvesAt_134 kX12_valueBy lX12_369 (by decide) rfl rfl (Nat.le_of_ble_eq_true rfl) ⟨Nat.le_of_ble_eq_true rfl, Nat.le_of_ble_eq_true rfl⟩ ⟨Nat.le_of_ble_eq_true rfl, Nat.le_of_ble_eq_true rfl⟩ rfl ⟨rfl, by decide⟩ (w_valueBy (I := I') (va := 83) (mT_l (I := zwr I 85 (stN p q l) (vp_nar .byte (nI 1))) (mT_c hT rfl rfl rfl) hq1) ((hq1.2 5 (by decide)).trans hf) h6 h10 (mpI_l (I := zwr I 85 (stN p q l) (vp_nar .byte (nI 1))) (mpI_c hP (fun k h1 h2 => by funext j; have : k ≠ 85 := (by omega); simp [zwr_at, this])) hq1) hq2 hp hq hl hw ⟨⟨Nat.le_of_ble_eq_true rfl, Nat.le_of_ble_eq_true rfl⟩, rfl⟩ (Or.inr rfl) (fun _ => hcn)) ?_
    rintro r sh' I2 J' ⟨rfl, rfl, hq3, hq4, rfl⟩
    refine V_eqL (y := u2) hW2 ?_
    refine V_lstore (ls' := [(5, .long u2), (4, .int (-1)), (3, .int (nI (sWho p q l))), (0, .ref 62), (1, .int (nI (stN p q l))), (2, .int (nI md))]) dX12_solvesAt_137 (by decide) rfl ?_
    refine V_iload_n dX12_solvesAt_139 rfl ?_
    refine V_if_neN (tgt := 158) dX12_solvesAt_140 rfl (by omega) (fun h140 => ?_) (fun h140 => ?_)
    · skip
      refine V_lload dX12_solvesAt_158 rfl ?_
      refine V_aload_n dX12_solvesAt_160 rfl ?_
      refine V_getR (b := 83) dX12_solvesAt_161 fX12_72 ⟨Nat.le_of_ble_eq_true rfl, Nat.le_of_ble_eq_true rfl⟩ rfl rfl rfl ?_
      refine V_iload_n dX12_solvesAt_164 rfl ?_
      refine V_laldN (k := stN p q l) dX12_solvesAt_165 ⟨Nat.le_of_ble_eq_true rfl, Nat.le_of_ble_eq_true rfl⟩ rfl (by decide) (by omega) ?_
      refine V_eqL (y := u1) (by simp [zwl_at]) ?_
      refine V_lcmp dX12_solvesAt_166 ?_
      refine V_if_lt (tgt := 171) dX12_solvesAt_167 rfl (fun hX => ?_) (fun hX => ?_)
      · skip
        refine V_aload_n dX12_solvesAt_171 rfl ?_
        refine V_getR (b := 83) dX12_solvesAt_172 fX12_72 ⟨Nat.le_of_ble_eq_true rfl, Nat.le_of_ble_eq_true rfl⟩ rfl rfl rfl ?_
        refine V_iload_n dX12_solvesAt_175 rfl ?_
        refine V_lload dX12_solvesAt_176 rfl ?_
        refine V_lastN (k := stN p q l) dX12_solvesAt_178 ⟨Nat.le_of_ble_eq_true rfl, Nat.le_of_ble_eq_true rfl⟩ rfl (by decide) (by omega) ?_
        refine V_aload_n dX12_solvesAt_179 rfl ?_
        refine V_getR (b := 85) dX12_solvesAt_180 fX12_79 ⟨Nat.le_of_ble_eq_true rfl, Nat.le_of_ble_eq_true rfl⟩ rfl rfl rfl ?_
        refine V_iload_n dX12_solvesAt_183 rfl ?_
        refine V_iconst (v := nI 2) dX12_solvesAt_184 rfl ?_
        refine V_bastN (k := stN p q l) dX12_solvesAt_185 ⟨Nat.le_of_ble_eq_true rfl, Nat.le_of_ble_eq_true rfl⟩ rfl (by decide) (by omega) ?_
        have hv := hvx.trans (pk_y (lg_y1 h140 (Int32.not_le.mpr hX)))
        exact V_ret ⟨rfl, dX12_solvesAt_186⟩ ⟨Nat.le_of_ble_eq_true rfl, Nat.le_of_ble_eq_true rfl⟩ ⟨rfl, rfl, ⟨offV_z (offV_l (offV_l (offV_z offV_r) hq1) hq3), at85y hv⟩, chA_c hq4 rfl rfl, by rw [hv]; exact zwl_2⟩
      · skip
        have hv := hvx.trans (pk_n (lg_n1 h140 (Int32.not_lt.mp hX)))
        exact V_ret ⟨rfl, dX12_solvesAt_170⟩ ⟨Nat.le_of_ble_eq_true rfl, Nat.le_of_ble_eq_true rfl⟩ ⟨rfl, rfl, ⟨offV_l (offV_l (offV_z offV_r) hq1) hq3, at85n hv hq1 hq3⟩, hq4, by rw [hv]⟩
    · skip
      refine V_lload dX12_solvesAt_143 rfl ?_
      refine V_aload_n dX12_solvesAt_145 rfl ?_
      refine V_getR (b := 83) dX12_solvesAt_146 fX12_72 ⟨Nat.le_of_ble_eq_true rfl, Nat.le_of_ble_eq_true rfl⟩ rfl rfl rfl ?_
      refine V_iload_n dX12_solvesAt_149 rfl ?_
      refine V_laldN (k := stN p q l) dX12_solvesAt_150 ⟨Nat.le_of_ble_eq_true rfl, Nat.le_of_ble_eq_true rfl⟩ rfl (by decide) (by omega) ?_
      refine V_eqL (y := u1) (by simp [zwl_at]) ?_
      refine V_lcmp dX12_solvesAt_151 ?_
      refine V_if_gt (tgt := 171) dX12_solvesAt_152 rfl (fun hX => ?_) (fun hX => ?_)
      · skip
        refine V_aload_n dX12_solvesAt_171 rfl ?_
        refine V_getR (b := 83) dX12_solvesAt_172 fX12_72 ⟨Nat.le_of_ble_eq_true rfl, Nat.le_of_ble_eq_true rfl⟩ rfl rfl rfl ?_
        refine V_iload_n dX12_solvesAt_175 rfl ?_
        refine V_lload dX12_solvesAt_176 rfl ?_
        refine V_lastN (k := stN p q l) dX12_solvesAt_178 ⟨Nat.le_of_ble_eq_true rfl, Nat.le_of_ble_eq_true rfl⟩ rfl (by decide) (by omega) ?_
        refine V_aload_n dX12_solvesAt_179 rfl ?_
        refine V_getR (b := 85) dX12_solvesAt_180 fX12_79 ⟨Nat.le_of_ble_eq_true rfl, Nat.le_of_ble_eq_true rfl⟩ rfl rfl rfl ?_
        refine V_iload_n dX12_solvesAt_183 rfl ?_
        refine V_iconst (v := nI 2) dX12_solvesAt_184 rfl ?_
        refine V_bastN (k := stN p q l) dX12_solvesAt_185 ⟨Nat.le_of_ble_eq_true rfl, Nat.le_of_ble_eq_true rfl⟩ rfl (by decide) (by omega) ?_
        have hv := hvx.trans (pk_y (lg_y0 h140 (Int32.not_le.mpr hX)))
        exact V_ret ⟨rfl, dX12_solvesAt_186⟩ ⟨Nat.le_of_ble_eq_true rfl, Nat.le_of_ble_eq_true rfl⟩ ⟨rfl, rfl, ⟨offV_z (offV_l (offV_l (offV_z offV_r) hq1) hq3), at85y hv⟩, chA_c hq4 rfl rfl, by rw [hv]; exact zwl_2⟩
      · skip
        refine V_goto (tgt := 170) dX12_solvesAt_155 rfl ?_
        have hv := hvx.trans (pk_n (lg_n0 h140 (Int32.not_lt.mp hX)))
        exact V_ret ⟨rfl, dX12_solvesAt_170⟩ ⟨Nat.le_of_ble_eq_true rfl, Nat.le_of_ble_eq_true rfl⟩ ⟨rfl, rfl, ⟨offV_l (offV_l (offV_z offV_r) hq1) hq3, at85n hv hq1 hq3⟩, hq4, by rw [hv]⟩
  · skip
    refine V_aload_n dX12_solvesAt_35 rfl ?_
    refine V_getI dX12_solvesAt_36 fX12_360 ⟨Nat.le_of_ble_eq_true rfl, Nat.le_of_ble_eq_true rfl⟩ rfl rfl ?_
    refine V_eqI (y := (-1)) ((if_pos h32).symm.trans hr) ?_
    refine V_goto (tgt := 46) dX12_solvesAt_39 rfl ?_
    refine V_istore (ls' := [(4, .int (-1)), (3, .int (nI (sWho p q l))), (0, .ref 62), (1, .int (nI (stN p q l))), (2, .int (nI md))]) dX12_solvesAt_46 (by decide) rfl ?_
    refine V_aload_n dX12_solvesAt_48 rfl ?_
    refine V_getR (b := 85) dX12_solvesAt_49 fX12_79 ⟨Nat.le_of_ble_eq_true rfl, Nat.le_of_ble_eq_true rfl⟩ rfl rfl rfl ?_
    refine V_iload_n dX12_solvesAt_52 rfl ?_
    refine V_iconst (v := nI 1) dX12_solvesAt_53 rfl ?_
    refine V_bastN (k := stN p q l) dX12_solvesAt_54 ⟨Nat.le_of_ble_eq_true rfl, Nat.le_of_ble_eq_true rfl⟩ rfl (by decide) (by omega) ?_
    refine V_iload dX12_solvesAt_55 rfl ?_
    refine V_iconst (v := (-1)) dX12_solvesAt_57 rfl ?_
    refine V_icmp_eq (tgt := 99) dX12_solvesAt_58 rfl (fun _ => ?_) (fun h => absurd h (by decide))
    refine V_aload_n dX12_solvesAt_99 rfl ?_
    refine V_getR (b := 83) dX12_solvesAt_100 fX12_72 ⟨Nat.le_of_ble_eq_true rfl, Nat.le_of_ble_eq_true rfl⟩ rfl rfl rfl ?_
    refine V_iload_n dX12_solvesAt_103 rfl ?_
    refine V_aload_n dX12_solvesAt_104 rfl ?_
    refine V_iload_n dX12_solvesAt_105 rfl ?_
    refine V_iload_n dX12_solvesAt_106 rfl ?_
    refine V_iconst (v := nI 1) dX12_solvesAt_107 rfl ?_
    refine V_aload_n dX12_solvesAt_108 rfl ?_
    refine V_getR (b := 83) dX12_solvesAt_109 fX12_72 ⟨Nat.le_of_ble_eq_true rfl, Nat.le_of_ble_eq_true rfl⟩ rfl rfl rfl ?_
    refine V_callV (As := [.int (nI (stN p q l)), .int (nI (sWho p q l)), .int (nI 1), .ref 83]) (st := [.int (nI (stN p q l)), .ref 83]) (a := 62) dX12_solvesAt_112 kX12_valueBy lX12_369 (by decide) rfl rfl (Nat.le_of_ble_eq_true rfl) ⟨Nat.le_of_ble_eq_true rfl, Nat.le_of_ble_eq_true rfl⟩ ⟨Nat.le_of_ble_eq_true rfl, Nat.le_of_ble_eq_true rfl⟩ rfl ⟨rfl, by decide⟩ (w_valueBy (I := zwr I 85 (stN p q l) (vp_nar .byte (nI 1))) (va := 83) (mT_c hT rfl rfl rfl) hf h6 h10 (mpI_c hP (fun k h1 h2 => by funext j; have : k ≠ 85 := (by omega); simp [zwr_at, this])) (chA_c hc rfl rfl) hp hq hl hw ⟨⟨Nat.le_of_ble_eq_true rfl, Nat.le_of_ble_eq_true rfl⟩, rfl⟩ (Or.inl rfl) (fun h => absurd h (by decide))) ?_
    rintro r sh' I' J' ⟨rfl, rfl, hq1, hq2, rfl⟩
    refine V_eqL (y := u1) hW1 ?_
    refine V_lastN (k := stN p q l) dX12_solvesAt_115 ⟨Nat.le_of_ble_eq_true rfl, Nat.le_of_ble_eq_true rfl⟩ rfl (by decide) (by omega) ?_
    refine V_aload_n dX12_solvesAt_116 rfl ?_
    refine V_iload_n dX12_solvesAt_117 rfl ?_
    refine V_iload_n dX12_solvesAt_118 rfl ?_
    refine V_callV (As := [.int (nI (stN p q l)), .int (nI (sWho p q l))]) (st := []) (a := 62) dX12_solvesAt_119 kX12_canShoot lX12_337 (by decide) rfl rfl (Nat.le_of_ble_eq_true rfl) ⟨Nat.le_of_ble_eq_true rfl, Nat.le_of_ble_eq_true rfl⟩ ⟨Nat.le_of_ble_eq_true rfl, Nat.le_of_ble_eq_true rfl⟩ rfl ⟨rfl, by decide⟩ (q_y (w_canShoot (mT_l (I := zwr I 85 (stN p q l) (vp_nar .byte (nI 1))) (mT_c hT rfl rfl rfl) hq1) hp hq hl hw) hcn) ?_
    rintro _ _ _ _ ⟨rfl, rfl, rfl, rfl⟩
    refine V_if_ne (tgt := 126) dX12_solvesAt_122 rfl (fun _ => ?_) (fun h => absurd h (by decide))
    refine V_aload_n dX12_solvesAt_126 rfl ?_
    refine V_iload_n dX12_solvesAt_127 rfl ?_
    refine V_iload_n dX12_solvesAt_128 rfl ?_
    refine V_iconst (v := nI 2) dX12_solvesAt_129 rfl ?_
    refine V_aload_n dX12_solvesAt_130 rfl ?_
    refine V_getR (b := 83) dX12_solvesAt_131 fX12_72 ⟨Nat.le_of_ble_eq_true rfl, Nat.le_of_ble_eq_true rfl⟩ rfl rfl rfl ?_
    refine V_callV (As := [.int (nI (stN p q l)), .int (nI (sWho p q l)), .int (nI 2), .ref 83]) (st := []) (a := 62) dX12_solvesAt_134 kX12_valueBy lX12_369 (by decide) rfl rfl (Nat.le_of_ble_eq_true rfl) ⟨Nat.le_of_ble_eq_true rfl, Nat.le_of_ble_eq_true rfl⟩ ⟨Nat.le_of_ble_eq_true rfl, Nat.le_of_ble_eq_true rfl⟩ rfl ⟨rfl, by decide⟩ (w_valueBy (I := I') (va := 83) (mT_l (I := zwr I 85 (stN p q l) (vp_nar .byte (nI 1))) (mT_c hT rfl rfl rfl) hq1) ((hq1.2 5 (by decide)).trans hf) h6 h10 (mpI_l (I := zwr I 85 (stN p q l) (vp_nar .byte (nI 1))) (mpI_c hP (fun k h1 h2 => by funext j; have : k ≠ 85 := (by omega); simp [zwr_at, this])) hq1) hq2 hp hq hl hw ⟨⟨Nat.le_of_ble_eq_true rfl, Nat.le_of_ble_eq_true rfl⟩, rfl⟩ (Or.inr rfl) (fun _ => hcn)) ?_
    rintro r sh' I2 J' ⟨rfl, rfl, hq3, hq4, rfl⟩
    refine V_eqL (y := u2) hW2 ?_
    refine V_lstore (ls' := [(5, .long u2), (4, .int (-1)), (3, .int (nI (sWho p q l))), (0, .ref 62), (1, .int (nI (stN p q l))), (2, .int (nI md))]) dX12_solvesAt_137 (by decide) rfl ?_
    refine V_iload_n dX12_solvesAt_139 rfl ?_
    refine V_if_neN (tgt := 158) dX12_solvesAt_140 rfl (by omega) (fun h140 => ?_) (fun h140 => ?_)
    · skip
      refine V_lload dX12_solvesAt_158 rfl ?_
      refine V_aload_n dX12_solvesAt_160 rfl ?_
      refine V_getR (b := 83) dX12_solvesAt_161 fX12_72 ⟨Nat.le_of_ble_eq_true rfl, Nat.le_of_ble_eq_true rfl⟩ rfl rfl rfl ?_
      refine V_iload_n dX12_solvesAt_164 rfl ?_
      refine V_laldN (k := stN p q l) dX12_solvesAt_165 ⟨Nat.le_of_ble_eq_true rfl, Nat.le_of_ble_eq_true rfl⟩ rfl (by decide) (by omega) ?_
      refine V_eqL (y := u1) (by simp [zwl_at]) ?_
      refine V_lcmp dX12_solvesAt_166 ?_
      refine V_if_lt (tgt := 171) dX12_solvesAt_167 rfl (fun hX => ?_) (fun hX => ?_)
      · skip
        refine V_aload_n dX12_solvesAt_171 rfl ?_
        refine V_getR (b := 83) dX12_solvesAt_172 fX12_72 ⟨Nat.le_of_ble_eq_true rfl, Nat.le_of_ble_eq_true rfl⟩ rfl rfl rfl ?_
        refine V_iload_n dX12_solvesAt_175 rfl ?_
        refine V_lload dX12_solvesAt_176 rfl ?_
        refine V_lastN (k := stN p q l) dX12_solvesAt_178 ⟨Nat.le_of_ble_eq_true rfl, Nat.le_of_ble_eq_true rfl⟩ rfl (by decide) (by omega) ?_
        refine V_aload_n dX12_solvesAt_179 rfl ?_
        refine V_getR (b := 85) dX12_solvesAt_180 fX12_79 ⟨Nat.le_of_ble_eq_true rfl, Nat.le_of_ble_eq_true rfl⟩ rfl rfl rfl ?_
        refine V_iload_n dX12_solvesAt_183 rfl ?_
        refine V_iconst (v := nI 2) dX12_solvesAt_184 rfl ?_
        refine V_bastN (k := stN p q l) dX12_solvesAt_185 ⟨Nat.le_of_ble_eq_true rfl, Nat.le_of_ble_eq_true rfl⟩ rfl (by decide) (by omega) ?_
        have hv := hvx.trans (pk_y (lg_y1 h140 (Int32.not_le.mpr hX)))
        exact V_ret ⟨rfl, dX12_solvesAt_186⟩ ⟨Nat.le_of_ble_eq_true rfl, Nat.le_of_ble_eq_true rfl⟩ ⟨rfl, rfl, ⟨offV_z (offV_l (offV_l (offV_z offV_r) hq1) hq3), at85y hv⟩, chA_c hq4 rfl rfl, by rw [hv]; exact zwl_2⟩
      · skip
        have hv := hvx.trans (pk_n (lg_n1 h140 (Int32.not_lt.mp hX)))
        exact V_ret ⟨rfl, dX12_solvesAt_170⟩ ⟨Nat.le_of_ble_eq_true rfl, Nat.le_of_ble_eq_true rfl⟩ ⟨rfl, rfl, ⟨offV_l (offV_l (offV_z offV_r) hq1) hq3, at85n hv hq1 hq3⟩, hq4, by rw [hv]⟩
    · skip
      refine V_lload dX12_solvesAt_143 rfl ?_
      refine V_aload_n dX12_solvesAt_145 rfl ?_
      refine V_getR (b := 83) dX12_solvesAt_146 fX12_72 ⟨Nat.le_of_ble_eq_true rfl, Nat.le_of_ble_eq_true rfl⟩ rfl rfl rfl ?_
      refine V_iload_n dX12_solvesAt_149 rfl ?_
      refine V_laldN (k := stN p q l) dX12_solvesAt_150 ⟨Nat.le_of_ble_eq_true rfl, Nat.le_of_ble_eq_true rfl⟩ rfl (by decide) (by omega) ?_
      refine V_eqL (y := u1) (by simp [zwl_at]) ?_
      refine V_lcmp dX12_solvesAt_151 ?_
      refine V_if_gt (tgt := 171) dX12_solvesAt_152 rfl (fun hX => ?_) (fun hX => ?_)
      · skip
        refine V_aload_n dX12_solvesAt_171 rfl ?_
        refine V_getR (b := 83) dX12_solvesAt_172 fX12_72 ⟨Nat.le_of_ble_eq_true rfl, Nat.le_of_ble_eq_true rfl⟩ rfl rfl rfl ?_
        refine V_iload_n dX12_solvesAt_175 rfl ?_
        refine V_lload dX12_solvesAt_176 rfl ?_
        refine V_lastN (k := stN p q l) dX12_solvesAt_178 ⟨Nat.le_of_ble_eq_true rfl, Nat.le_of_ble_eq_true rfl⟩ rfl (by decide) (by omega) ?_
        refine V_aload_n dX12_solvesAt_179 rfl ?_
        refine V_getR (b := 85) dX12_solvesAt_180 fX12_79 ⟨Nat.le_of_ble_eq_true rfl, Nat.le_of_ble_eq_true rfl⟩ rfl rfl rfl ?_
        refine V_iload_n dX12_solvesAt_183 rfl ?_
        refine V_iconst (v := nI 2) dX12_solvesAt_184 rfl ?_
        refine V_bastN (k := stN p q l) dX12_solvesAt_185 ⟨Nat.le_of_ble_eq_true rfl, Nat.le_of_ble_eq_true rfl⟩ rfl (by decide) (by omega) ?_
        have hv := hvx.trans (pk_y (lg_y0 h140 (Int32.not_le.mpr hX)))
        exact V_ret ⟨rfl, dX12_solvesAt_186⟩ ⟨Nat.le_of_ble_eq_true rfl, Nat.le_of_ble_eq_true rfl⟩ ⟨rfl, rfl, ⟨offV_z (offV_l (offV_l (offV_z offV_r) hq1) hq3), at85y hv⟩, chA_c hq4 rfl rfl, by rw [hv]; exact zwl_2⟩
      · skip
        refine V_goto (tgt := 170) dX12_solvesAt_155 rfl ?_
        have hv := hvx.trans (pk_n (lg_n0 h140 (Int32.not_lt.mp hX)))
        exact V_ret ⟨rfl, dX12_solvesAt_170⟩ ⟨Nat.le_of_ble_eq_true rfl, Nat.le_of_ble_eq_true rfl⟩ ⟨rfl, rfl, ⟨offV_l (offV_l (offV_z offV_r) hq1) hq3, at85n hv hq1 hq3⟩, hq4, by rw [hv]⟩

