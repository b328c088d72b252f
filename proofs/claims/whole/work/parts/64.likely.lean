/-! THE MODEL: how likely a count is -/
theorem wc1_y {one x : Int32} (h : x = one) : sWoc 3 one x = 1 := by simp [sWoc, h]
theorem wc1_n {one x : Int32} (h : ¬ x = one) : sWoc 3 one x = 0 := by simp [sWoc, h]
set_option maxRecDepth 100000 in
set_option maxHeartbeats 4000000 in
theorem w_over1 {G : zG} {I : zI} {J : zJ} (hT : mT I) {p q l : Nat} (hp : p < 56) (hq : q < 56) (hl : l ≤ 1) {one : Int32} (hone : I 62 35 = one) : zK G mX12_overAt 4 [.ref 62, .int (nI (stN p q l)), .int (nI 1)] zsh I J (zA0 (.long (sWoc 3 one (sPts p q))) I J) := by
  refine zK_of kX12_overAt.2.2.2.2.1 (Nat.le_of_ble_eq_true rfl) ?_
  show V G mX12_overAt 4 _ 0 [(0, .ref 62), (1, .int (nI (stN p q l))), (2, .int (nI 1))] [] (0, 0) zsh I J
  refine V_aload_n dX12_overAt_0 rfl ?_
  refine V_iload_n dX12_overAt_1 rfl ?_
  refine V_iconst (v := nI 0) dX12_overAt_2 rfl ?_
  refine V_callS (As := [.int (nI (stN p q l)), .int (nI 0)]) (st := [.ref 62]) dX12_overAt_3 kX12_standIn lX12_181 (by decide) rfl rfl (Nat.le_of_ble_eq_true rfl) ⟨Nat.le_of_ble_eq_true rfl, Nat.le_of_ble_eq_true rfl⟩ (w_standIn hp hq hl (by decide)) ?_
  rintro _ _ _ _ ⟨rfl, rfl, rfl, rfl⟩
  refine V_eqI (y := nI p) rfl ?_
  refine V_iload_n dX12_overAt_6 rfl ?_
  refine V_iconst (v := nI 1) dX12_overAt_7 rfl ?_
  refine V_callS (As := [.int (nI (stN p q l)), .int (nI 1)]) (st := [.int (nI p), .ref 62]) dX12_overAt_8 kX12_standIn lX12_181 (by decide) rfl rfl (Nat.le_of_ble_eq_true rfl) ⟨Nat.le_of_ble_eq_true rfl, Nat.le_of_ble_eq_true rfl⟩ (w_standIn hp hq hl (by decide)) ?_
  rintro _ _ _ _ ⟨rfl, rfl, rfl, rfl⟩
  refine V_eqI (y := nI q) rfl ?_
  refine V_callV (As := [.int (nI p), .int (nI q)]) (st := []) (a := 62) dX12_overAt_11 kX12_pointsIn lX12_209 (by decide) rfl rfl (Nat.le_of_ble_eq_true rfl) ⟨Nat.le_of_ble_eq_true rfl, Nat.le_of_ble_eq_true rfl⟩ ⟨Nat.le_of_ble_eq_true rfl, Nat.le_of_ble_eq_true rfl⟩ rfl ⟨rfl, by decide⟩ (w_pointsIn hT hp hq) ?_
  rintro _ _ _ _ ⟨rfl, rfl, rfl, rfl⟩
  refine V_istore_n (ls' := [(3, .int (sPts p q)), (0, .ref 62), (1, .int (nI (stN p q l))), (2, .int (nI 1))]) dX12_overAt_14 (by decide) rfl ?_
  refine V_iload_n dX12_overAt_15 rfl ?_
  refine V_if_ne (tgt := 22) dX12_overAt_16 rfl (fun _ => ?_) (fun h => absurd h (by decide))
  refine V_iload_n dX12_overAt_22 rfl ?_
  refine V_iconst (v := nI 1) dX12_overAt_23 rfl ?_
  refine V_icmp_ne (tgt := 38) dX12_overAt_24 rfl (fun h => absurd h (by decide)) (fun _ => ?_)
  refine V_iload_n dX12_overAt_27 rfl ?_
  refine V_aload_n dX12_overAt_28 rfl ?_
  refine V_getI dX12_overAt_29 fX12_353 ⟨Nat.le_of_ble_eq_true rfl, Nat.le_of_ble_eq_true rfl⟩ rfl rfl ?_
  refine V_eqI (y := one) hone ?_
  refine V_icmp_ne (tgt := 50) dX12_overAt_32 rfl (fun h32 => ?_) (fun h32 => ?_)
  · skip
    refine V_lconst (v := 0) dX12_overAt_50 rfl ?_
    exact V_lret ⟨rfl, dX12_overAt_51⟩ ⟨Nat.le_of_ble_eq_true rfl, Nat.le_of_ble_eq_true rfl⟩ ⟨rfl, congrArg (fun z => some (Value.long z)) (wc1_n h32).symm, rfl, rfl⟩
  · skip
    refine V_goto (tgt := 46) dX12_overAt_35 rfl ?_
    refine V_lconst (v := 1) dX12_overAt_46 rfl ?_
    refine V_goto (tgt := 51) dX12_overAt_47 rfl ?_
    exact V_lret ⟨rfl, dX12_overAt_51⟩ ⟨Nat.le_of_ble_eq_true rfl, Nat.le_of_ble_eq_true rfl⟩ ⟨rfl, congrArg (fun z => some (Value.long z)) (wc1_y (h32)).symm, rfl, rfl⟩

section
variable {Rl : Nat → Nat → (Nat → Int32) → Int32} {Lf : Nat → (Nat → Int32) → Int32} {far : Nat} {p q l : Nat}
theorem btV_e : btV Lf far p q l = if (vX 1 (-1) (-1) Rl Lf far p q l).2 = true then 2 else 1 := by
  unfold btV vX
  rw [sV_nn (Rl2 := Rl) (bt2 := btV Lf far)]
theorem thrX_bt (hw : sWho p q l ≤ 1) : thrX 1 (-1) (-1) Rl Lf far p q l = nI (btV Lf far p q l) := by
  rw [thrX_1 hw, btV_e (Rl := Rl)]
  split <;> rfl
theorem btV_12 : btV Lf far p q l = 1 ∨ btV Lf far p q l = 2 := by
  unfold btV
  split
  · exact Or.inr rfl
  · exact Or.inl rfl
theorem btV_can (hp : p < 56) (hq : q < 56) (hw : sWho p q l ≤ 1) (h2 : btV Lf far p q l = 2) : sCan p q (sWho p q l) = true := Classical.byContradiction (fun hc => by
  rw [btV_e (Rl := fun _ _ _ => 0), vX_s hp hq hw, sTold_n hc, pk_1, if_neg Bool.false_ne_true] at h2
  exact absurd h2 (by decide))
theorem vX3_s {x two : Int32} (hp : p < 56) (hq : q < 56) (hw : sWho p q l ≤ 1) : (vX 3 x two Rl Lf far p q l).1 = sW (fun a b c => (vX 3 x two Rl Lf far a b c).1) Lf far p q l (btV Lf far p q l) := by
  rw [vX_s hp hq hw]
  by_cases hc : sCan p q (sWho p q l) = true
  · have e : sTold 3 x two Rl (btV Lf far) far p q l = btV Lf far p q l := by
      unfold sTold
      rw [if_neg (by rw [hc]; decide), if_pos rfl]
    rw [e]
    rcases btV_12 (Lf := Lf) (far := far) (p := p) (q := q) (l := l) with h | h
    · rw [h, pk_1]
    · rw [h, pk_2]
  · rw [sTold_n hc, pk_1]
    rcases btV_12 (Lf := Lf) (far := far) (p := p) (q := q) (l := l) with h | h
    · rw [h]
    · exact absurd (btV_can hp hq hw h) hc
end
def dnL (f : Nat → Nat → Nat → Int64) (J : zJ) (h s : Nat) : Prop := ∀ p q l, p < 56 → q < 56 → l ≤ 1 → (hnd p q < h ∨ hnd p q = h ∧ stN p q l < s) → J 84 (stN p q l) = f p q l
section
variable {f : Nat → Nat → Nat → Int64} {J : zJ} {h p q l : Nat}
theorem dnL_n (hd : dnL f J h (stN p q l)) (hq : q < 56) (hl : l ≤ 1) (hn : ¬ hnd p q = h) : dnL f J h (stN p q l + 1) := fun p' q' l' hp' hq' hl' hh => by
  rcases hh with hh | ⟨h1, h2⟩
  · exact hd p' q' l' hp' hq' hl' (Or.inl hh)
  · by_cases e : stN p' q' l' = stN p q l
    · obtain ⟨e1, e2, _⟩ := stN_inj hq' hl' hq hl e
      subst e1; subst e2
      exact absurd h1 hn
    · exact hd p' q' l' hp' hq' hl' (Or.inr ⟨h1, by omega⟩)
theorem dnL_y {v : Int64} (hd : dnL f J h (stN p q l)) (hq : q < 56) (hl : l ≤ 1) (hv : v = f p q l) : dnL f (zwl J 84 (stN p q l) v) h (stN p q l + 1) := fun p' q' l' hp' hq' hl' hh => by
  by_cases e : stN p' q' l' = stN p q l
  · obtain ⟨e1, e2, e3⟩ := stN_inj hq' hl' hq hl e
    subst e1; subst e2; subst e3
    simp [zwl_at, hv]
  · have g := hd p' q' l' hp' hq' hl' (hh.imp id (fun x => ⟨x.1, by have := x.2; omega⟩))
    simp [zwl_at, e, g]
theorem dnL_o (hd : dnL f J h 6272) : dnL f J (h + 1) 0 := fun p' q' l' hp' hq' hl' hh => hd p' q' l' hp' hq' hl' (by have := stN_lt hp' hq' hl'; omega)
theorem dnL_z : dnL f J 0 0 := fun _ _ _ _ _ _ hh => by omega
theorem dnL_J (hd : dnL f J (hnd p q) (stN p q l)) (hp : p < 56) (hq : q < 56) (hl : l ≤ 1) (hw : sWho p q l ≤ 1) : ∀ part, part ≤ 6 → J 84 (stN (sNx p q l part).1 (sNx p q l part).2 (sWho p q l)) = f (sNx p q l part).1 (sNx p q l part).2 (sWho p q l) := fun part hpa => by
  obtain ⟨h1, h2, h3⟩ := sNx_ok (last := l) (part := part) hp hq hw hpa
  exact hd _ _ _ h1 h2 hw (Or.inl (by omega))
end
theorem svI_l {I I' : zI} {a : List (Nat × List (Nat × Nat) × List (Nat × Nat))} {M : Nat → ((Nat → Int32) → Option Int32) × ((Nat → Int32) → Option Int32)} {ar : Nat → List (Nat × List (Nat × Nat) × List (Nat × Nat))} {Mr : Nat → Nat → ((Nat → Int32) → Option Int32) × ((Nat → Int32) → Option Int32)} (h : svI I a M ar Mr) (e : offL I I') (hc : chA I' (lfM a M)) : svI I' a M ar Mr := ⟨mT_l h.1 e, mpI_l h.2.1 e, fun k hk => ⟨mpI_l (h.2.2.1 k hk).1 e, (h.2.2.1 k hk).2⟩, hc⟩
theorem hnd_w {p q l h : Nat} (hp : p < 56) (hq : q < 56) (hl : l ≤ 1) (hh : hnd p q = h) (h0 : ¬ h = 0) : sWho p q l ≤ 1 := by
  obtain ⟨k, rfl⟩ := Nat.exists_eq_succ_of_ne_zero h0
  exact sWho_le1 hp hq (hnd_ok hp hq hl hh).2.2.2
set_option maxRecDepth 100000 in
set_option maxHeartbeats 4000000 in
theorem lp_likI {G : zG} {I0 : zI} {J0 : zJ} {Q : zQ} {a : List (Nat × List (Nat × Nat) × List (Nat × Nat))} {M : Nat → ((Nat → Int32) → Option Int32) × ((Nat → Int32) → Option Int32)} {ar : Nat → List (Nat × List (Nat × Nat) × List (Nat × Nat))} {Mr : Nat → Nat → ((Nat → Int32) → Option Int32) × ((Nat → Int32) → Option Int32)} (hS : svI I0 a M ar Mr) {far : Nat} (hf : I0 62 5 = nI far) (h6 : 6 ≤ far) (h10 : far ≤ 10) {x : Int32} (hx : I0 62 35 = x) (hV : sgV 1 (-1) (-1) (rlM ar Mr) (lfM a M) far I0 J0) {h : Nat} (hh : h ≤ 6) (K : ∀ (I1 : zI) (J1 : zJ), offL I0 I1 → (∀ b, b ≠ 84 → J1 b = J0 b) → chA I1 (lfM a M) → dnL (fun y z w => (vX 3 x 0 (rlM ar Mr) (lfM a M) far y z w).1) J1 (h + 1) 0 → V G mX12_laysLikely 7 Q 7 [(0, .ref 62), (1, .int x), (2, .int (nI (h + 1)))] [] (0, 0) zsh I1 J1) : ∀ n s (I1 : zI) (J1 : zJ), s + n = 6272 → offL I0 I1 → (∀ b, b ≠ 84 → J1 b = J0 b) → chA I1 (lfM a M) → dnL (fun y z w => (vX 3 x 0 (rlM ar Mr) (lfM a M) far y z w).1) J1 h s → V G mX12_laysLikely 7 Q 15 [(0, .ref 62), (1, .int x), (2, .int (nI h)), (3, .int (nI s))] [] (0, 0) zsh I1 J1 := by
  intro n
  induction n with
  | zero =>
    intro s I1 J1 hsn i1 i2 i3 i4
    have hs : s = 6272 := by omega
    refine V_iload_n dX12_laysLikely_15 rfl ?_
    refine V_sipush (v := nI 6272) dX12_laysLikely_16 rfl ?_
    refine V_icmp_geN (tgt := 79) dX12_laysLikely_19 rfl (by omega) (by omega) (fun _ => ?_) (fun h => absurd h (by omega))
    refine V_iincN (ls' := [(2, .int (nI (h + 1))), (0, .ref 62), (1, .int x), (3, .int (nI s))]) (n := 1) dX12_laysLikely_79 rfl rfl (by decide) (by decide) rfl ?_
    refine V_goto (tgt := 7) dX12_laysLikely_82 rfl ?_
    refine V_sub2 (ls' := [(0, .ref 62), (1, .int x), (2, .int (nI (h + 1)))]) (List.forall_mem_cons.mpr ⟨rfl, List.forall_mem_cons.mpr ⟨rfl, List.forall_mem_cons.mpr ⟨rfl, fun _ h => absurd h List.not_mem_nil⟩⟩⟩) ?_
    exact K I1 J1 i1 i2 i3 (dnL_o (show dnL (fun y z w => (vX 3 x 0 (rlM ar Mr) (lfM a M) far y z w).1) J1 h 6272 from hs ▸ i4))
  | succ n ih =>
    intro s I1 J1 hsn i1 i2 i3 i4
    obtain ⟨p, q, l, hp, hq, hl, rfl⟩ := stN_ex (s := s) (by omega)
    have hst := stN_lt hp hq hl
    have hn6 := hnd_6 hp hq
    have hS1 := svI_l hS i1 i3
    refine V_iload_n dX12_laysLikely_15 rfl ?_
    refine V_sipush (v := nI 6272) dX12_laysLikely_16 rfl ?_
    refine V_icmp_geN (tgt := 79) dX12_laysLikely_19 rfl (by omega) (by omega) (fun h => absurd h (by omega)) (fun _ => ?_)
    refine V_aload_n dX12_laysLikely_22 rfl ?_
    refine V_iload_n dX12_laysLikely_23 rfl ?_
    refine V_callV (As := [.int (nI (stN p q l))]) (st := []) (a := 62) dX12_laysLikely_24 kX12_handsIn lX12_187 (by decide) rfl rfl (Nat.le_of_ble_eq_true rfl) ⟨Nat.le_of_ble_eq_true rfl, Nat.le_of_ble_eq_true rfl⟩ ⟨Nat.le_of_ble_eq_true rfl, Nat.le_of_ble_eq_true rfl⟩ rfl ⟨rfl, by decide⟩ (w_handsIn hS1.1 hp hq hl) ?_
    rintro _ _ _ _ ⟨rfl, rfl, rfl, rfl⟩
    refine V_iload_n dX12_laysLikely_27 rfl ?_
    refine V_icmp_eqN (tgt := 34) dX12_laysLikely_28 rfl (by omega) (by omega) (fun h124 => ?_) (fun h123 => ?_)
    · skip
      refine V_aload_n dX12_laysLikely_34 rfl ?_
      refine V_getR (b := 84) dX12_laysLikely_35 fX12_76 ⟨Nat.le_of_ble_eq_true rfl, Nat.le_of_ble_eq_true rfl⟩ rfl rfl rfl ?_
      refine V_iload_n dX12_laysLikely_38 rfl ?_
      refine V_iload_n dX12_laysLikely_39 rfl ?_
      refine V_if_neN (tgt := 52) dX12_laysLikely_40 rfl (by omega) (fun h40 => ?_) (fun h40 => ?_)
      · skip
        have hw := hnd_w hp hq hl h124 h40
        obtain ⟨u1, hu⟩ : ∃ u, u = (fun y z w => (vX 3 x 0 (rlM ar Mr) (lfM a M) far y z w).1) p q l := ⟨_, rfl⟩
        have hu1 : sW (fun y z w => J1 84 (stN y z w)) (lfM a M) far p q l (btV (lfM a M) far p q l) = u1 := (sW_c (dnL_J (h124 ▸ i4) hp hq hl hw)).trans ((vX3_s hp hq hw).symm.trans hu.symm)
        refine V_aload_n dX12_laysLikely_52 rfl ?_
        refine V_iload_n dX12_laysLikely_53 rfl ?_
        refine V_aload_n dX12_laysLikely_54 rfl ?_
        refine V_iload_n dX12_laysLikely_55 rfl ?_
        refine V_callV (As := [.int (nI (stN p q l))]) (st := [.int (nI (stN p q l)), .ref 62, .int (nI (stN p q l)), .ref 84]) (a := 62) dX12_laysLikely_56 kX12_turnIn lX12_206 (by decide) rfl rfl (Nat.le_of_ble_eq_true rfl) ⟨Nat.le_of_ble_eq_true rfl, Nat.le_of_ble_eq_true rfl⟩ ⟨Nat.le_of_ble_eq_true rfl, Nat.le_of_ble_eq_true rfl⟩ rfl ⟨rfl, by decide⟩ (w_turnIn hS1.1 hp hq hl) ?_
        rintro _ _ _ _ ⟨rfl, rfl, rfl, rfl⟩
        refine V_aload_n dX12_laysLikely_59 rfl ?_
        refine V_getR (b := 85) dX12_laysLikely_60 fX12_79 ⟨Nat.le_of_ble_eq_true rfl, Nat.le_of_ble_eq_true rfl⟩ rfl rfl rfl ?_
        refine V_iload_n dX12_laysLikely_63 rfl ?_
        refine V_baldN (k := stN p q l) dX12_laysLikely_64 ⟨Nat.le_of_ble_eq_true rfl, Nat.le_of_ble_eq_true rfl⟩ rfl (by decide) (by omega) ?_
        refine V_eqI (y := nI (btV (lfM a M) far p q l)) ((congrFun (i1.1 85 (by decide) (by decide) (by decide) (by decide) (by decide)) _).trans ((hV p q l hp hq hl).2.trans (thrX_bt hw))) ?_
        refine V_aload_n dX12_laysLikely_65 rfl ?_
        refine V_getR (b := 84) dX12_laysLikely_66 fX12_76 ⟨Nat.le_of_ble_eq_true rfl, Nat.le_of_ble_eq_true rfl⟩ rfl rfl rfl ?_
        refine V_callV (As := [.int (nI (stN p q l)), .int (nI (sWho p q l)), .int (nI (btV (lfM a M) far p q l)), .ref 84]) (st := [.int (nI (stN p q l)), .ref 84]) (a := 62) dX12_laysLikely_69 kX12_valueBy lX12_369 (by decide) rfl rfl (Nat.le_of_ble_eq_true rfl) ⟨Nat.le_of_ble_eq_true rfl, Nat.le_of_ble_eq_true rfl⟩ ⟨Nat.le_of_ble_eq_true rfl, Nat.le_of_ble_eq_true rfl⟩ rfl ⟨rfl, by decide⟩ (w_valueBy (va := 84) hS1.1 ((i1.2 5 (by decide)).trans hf) h6 h10 hS1.2.1 i3 hp hq hl hw ⟨⟨Nat.le_of_ble_eq_true rfl, Nat.le_of_ble_eq_true rfl⟩, rfl⟩ btV_12 (btV_can hp hq hw)) ?_
        rintro r sh' I2 J2 ⟨rfl, rfl, hq1, hq2, rfl⟩
        refine V_eqL (y := u1) hu1 ?_
        refine V_lastN (k := stN p q l) dX12_laysLikely_72 ⟨Nat.le_of_ble_eq_true rfl, Nat.le_of_ble_eq_true rfl⟩ rfl (by decide) (by omega) ?_
        refine V_iincN (ls' := [(3, .int (nI ((stN p q l) + 1))), (0, .ref 62), (1, .int x), (2, .int (nI h))]) (n := 1) dX12_laysLikely_73 rfl rfl (by decide) (by decide) rfl ?_
        refine V_goto (tgt := 15) dX12_laysLikely_76 rfl ?_
        refine V_sub2 (ls' := [(0, .ref 62), (1, .int x), (2, .int (nI h)), (3, .int (nI ((stN p q l) + 1)))]) (List.forall_mem_cons.mpr ⟨rfl, List.forall_mem_cons.mpr ⟨rfl, List.forall_mem_cons.mpr ⟨rfl, List.forall_mem_cons.mpr ⟨rfl, fun _ h => absurd h List.not_mem_nil⟩⟩⟩⟩) ?_
        exact ih (stN p q l + 1) I2 _ (by omega) (offL_t i1 hq1) (fun b hb => (zwl_o hb).trans (i2 b hb)) hq2 (dnL_y i4 hq hl hu)
      · skip
        refine V_aload_n dX12_laysLikely_43 rfl ?_
        refine V_iload_n dX12_laysLikely_44 rfl ?_
        refine V_iconst (v := nI 1) dX12_laysLikely_45 rfl ?_
        refine V_callV (As := [.int (nI (stN p q l)), .int (nI 1)]) (st := [.int (nI (stN p q l)), .ref 84]) (a := 62) dX12_laysLikely_46 kX12_overAt lX12_356 (by decide) rfl rfl (Nat.le_of_ble_eq_true rfl) ⟨Nat.le_of_ble_eq_true rfl, Nat.le_of_ble_eq_true rfl⟩ ⟨Nat.le_of_ble_eq_true rfl, Nat.le_of_ble_eq_true rfl⟩ rfl ⟨rfl, by decide⟩ (w_over1 hS1.1 hp hq hl ((i1.2 35 (by decide)).trans hx)) ?_
        rintro _ _ _ _ ⟨rfl, rfl, rfl, rfl⟩
        have hv : sWoc 3 x (sPts p q) = (fun y z w => (vX 3 x 0 (rlM ar Mr) (lfM a M) far y z w).1) p q l := (congrArg Prod.fst (vX_0 (kd := 3) (one := x) (two := 0) (Rl := rlM ar Mr) (Lf := lfM a M) (far := far) (hnd_0 hp hq (h124.trans h40)).1)).symm
        refine V_goto (tgt := 72) dX12_laysLikely_49 rfl ?_
        refine V_lastN (k := stN p q l) dX12_laysLikely_72 ⟨Nat.le_of_ble_eq_true rfl, Nat.le_of_ble_eq_true rfl⟩ rfl (by decide) (by omega) ?_
        refine V_iincN (ls' := [(3, .int (nI ((stN p q l) + 1))), (0, .ref 62), (1, .int x), (2, .int (nI h))]) (n := 1) dX12_laysLikely_73 rfl rfl (by decide) (by decide) rfl ?_
        refine V_goto (tgt := 15) dX12_laysLikely_76 rfl ?_
        refine V_sub2 (ls' := [(0, .ref 62), (1, .int x), (2, .int (nI h)), (3, .int (nI ((stN p q l) + 1)))]) (List.forall_mem_cons.mpr ⟨rfl, List.forall_mem_cons.mpr ⟨rfl, List.forall_mem_cons.mpr ⟨rfl, List.forall_mem_cons.mpr ⟨rfl, fun _ h => absurd h List.not_mem_nil⟩⟩⟩⟩) ?_
        exact ih (stN p q l + 1) I1 _ (by omega) i1 (fun b hb => (zwl_o hb).trans (i2 b hb)) i3 (dnL_y i4 hq hl hv)
    · skip
      refine V_goto (tgt := 73) dX12_laysLikely_31 rfl ?_
      refine V_iincN (ls' := [(3, .int (nI ((stN p q l) + 1))), (0, .ref 62), (1, .int x), (2, .int (nI h))]) (n := 1) dX12_laysLikely_73 rfl rfl (by decide) (by decide) rfl ?_
      refine V_goto (tgt := 15) dX12_laysLikely_76 rfl ?_
      refine V_sub2 (ls' := [(0, .ref 62), (1, .int x), (2, .int (nI h)), (3, .int (nI ((stN p q l) + 1)))]) (List.forall_mem_cons.mpr ⟨rfl, List.forall_mem_cons.mpr ⟨rfl, List.forall_mem_cons.mpr ⟨rfl, List.forall_mem_cons.mpr ⟨rfl, fun _ h => absurd h List.not_mem_nil⟩⟩⟩⟩) ?_
      exact ih (stN p q l + 1) I1 J1 (by omega) i1 i2 i3 (dnL_n i4 hq hl h123)

set_option maxRecDepth 100000 in
set_option maxHeartbeats 4000000 in
theorem lp_likO {G : zG} {I0 : zI} {J0 : zJ} {Q : zQ} {a : List (Nat × List (Nat × Nat) × List (Nat × Nat))} {M : Nat → ((Nat → Int32) → Option Int32) × ((Nat → Int32) → Option Int32)} {ar : Nat → List (Nat × List (Nat × Nat) × List (Nat × Nat))} {Mr : Nat → Nat → ((Nat → Int32) → Option Int32) × ((Nat → Int32) → Option Int32)} (hS : svI I0 a M ar Mr) {far : Nat} (hf : I0 62 5 = nI far) (h6 : 6 ≤ far) (h10 : far ≤ 10) {x : Int32} (hx : I0 62 35 = x) (hV : sgV 1 (-1) (-1) (rlM ar Mr) (lfM a M) far I0 J0) (K : ∀ (I1 : zI) (J1 : zJ), offL I0 I1 → (∀ b, b ≠ 84 → J1 b = J0 b) → chA I1 (lfM a M) → (∀ p q l, p < 56 → q < 56 → l ≤ 1 → J1 84 (stN p q l) = (fun y z w => (vX 3 x 0 (rlM ar Mr) (lfM a M) far y z w).1) p q l) → Q none zsh I1 J1) : ∀ n h (I1 : zI) (J1 : zJ), h + n = 7 → offL I0 I1 → (∀ b, b ≠ 84 → J1 b = J0 b) → chA I1 (lfM a M) → dnL (fun y z w => (vX 3 x 0 (rlM ar Mr) (lfM a M) far y z w).1) J1 h 0 → V G mX12_laysLikely 7 Q 7 [(0, .ref 62), (1, .int x), (2, .int (nI h))] [] (0, 0) zsh I1 J1 := by
  intro n
  induction n with
  | zero =>
    intro h I1 J1 hsn i1 i2 i3 i4
    have hs : h = 7 := by omega
    refine V_iload_n dX12_laysLikely_7 rfl ?_
    refine V_bipush (v := nI 6) dX12_laysLikely_8 rfl ?_
    refine V_icmp_gtN (tgt := 85) dX12_laysLikely_10 rfl (by omega) (by omega) (fun _ => ?_) (fun h => absurd h (by omega))
    exact V_ret ⟨rfl, dX12_laysLikely_85⟩ ⟨Nat.le_of_ble_eq_true rfl, Nat.le_of_ble_eq_true rfl⟩ (K I1 J1 i1 i2 i3 (fun p q l hp hq hl => i4 p q l hp hq hl (Or.inl (by have := hnd_6 hp hq; omega))))
  | succ n ih =>
    intro h I1 J1 hsn i1 i2 i3 i4
    refine V_iload_n dX12_laysLikely_7 rfl ?_
    refine V_bipush (v := nI 6) dX12_laysLikely_8 rfl ?_
    refine V_icmp_gtN (tgt := 85) dX12_laysLikely_10 rfl (by omega) (by omega) (fun h => absurd h (by omega)) (fun _ => ?_)
    refine V_iconst (v := nI 0) dX12_laysLikely_13 rfl ?_
    refine V_istore_n (ls' := [(3, .int (nI 0)), (0, .ref 62), (1, .int x), (2, .int (nI h))]) dX12_laysLikely_14 (by decide) rfl ?_
    refine V_sub2 (ls' := [(0, .ref 62), (1, .int x), (2, .int (nI h)), (3, .int (nI 0))]) (List.forall_mem_cons.mpr ⟨rfl, List.forall_mem_cons.mpr ⟨rfl, List.forall_mem_cons.mpr ⟨rfl, List.forall_mem_cons.mpr ⟨rfl, fun _ h => absurd h List.not_mem_nil⟩⟩⟩⟩) ?_
    exact lp_likI hS hf h6 h10 hx hV (by omega) (fun I2 J2 g1 g2 g3 g4 => ih (h + 1) I2 J2 (by omega) g1 g2 g3 g4) 6272 0 I1 J1 (by omega) i1 i2 i3 i4

set_option maxRecDepth 100000 in
set_option maxHeartbeats 4000000 in
theorem w_laysLikely {G : zG} {I : zI} {J : zJ} {a : List (Nat × List (Nat × Nat) × List (Nat × Nat))} {M : Nat → ((Nat → Int32) → Option Int32) × ((Nat → Int32) → Option Int32)} {ar : Nat → List (Nat × List (Nat × Nat) × List (Nat × Nat))} {Mr : Nat → Nat → ((Nat → Int32) → Option Int32) × ((Nat → Int32) → Option Int32)} {far : Nat} (hR : soR I J a M ar Mr far) (h6 : 6 ≤ far) (h10 : far ≤ 10) (hf : I 62 5 = nI far) (hV : sgV 1 (-1) (-1) (rlM ar Mr) (lfM a M) far I J) {x : Int32} : zK G mX12_laysLikely 7 [.ref 62, .int x] zsh I J (zP (fun r I' J' => r = none ∧ (∀ p q l, p < 56 → q < 56 → l ≤ 1 → J' 84 (stN p q l) = (fun y z w => (vX 3 x 0 (rlM ar Mr) (lfM a M) far y z w).1) p q l) ∧ sgV 1 (-1) (-1) (rlM ar Mr) (lfM a M) far I' J' ∧ soR I' J' a M ar Mr far ∧ offX I J I' J' ∧ I' 62 5 = nI far ∧ ∀ b, b ≠ 84 → J' b = J b)) := by
  refine zK_of kX12_laysLikely.2.2.2.2.1 (Nat.le_of_ble_eq_true rfl) ?_
  show V G mX12_laysLikely 7 _ 0 [(0, .ref 62), (1, .int x)] [] (0, 0) zsh I J
  refine V_aload_n dX12_laysLikely_0 rfl ?_
  refine V_iload_n dX12_laysLikely_1 rfl ?_
  refine V_putW dX12_laysLikely_2 fX12_353 ⟨Nat.le_of_ble_eq_true rfl, Nat.le_of_ble_eq_true rfl⟩ rfl rfl rfl ⟨rfl, rfl⟩ ?_
  refine V_iconst (v := nI 0) dX12_laysLikely_5 rfl ?_
  refine V_istore_n (ls' := [(2, .int (nI 0)), (0, .ref 62), (1, .int x)]) dX12_laysLikely_6 (by decide) rfl ?_
  refine V_sub2 (ls' := [(0, .ref 62), (1, .int x), (2, .int (nI 0))]) (List.forall_mem_cons.mpr ⟨rfl, List.forall_mem_cons.mpr ⟨rfl, List.forall_mem_cons.mpr ⟨rfl, fun _ h => absurd h List.not_mem_nil⟩⟩⟩) ?_
  have hW : offW I (zwr I 62 35 x) := offW_z offW_r (by omega)
  have hc2 := chA_c (I' := zwr I 62 35 x) hR.1.2.2.2 rfl rfl
  refine lp_likO (svI_w hR.1 hW hc2) (show (zwr I 62 35 x) 62 5 = nI far from hf) h6 h10 (x := x) rfl (sgV_c hV rfl rfl) (fun I1 J1 g1 g2 g3 g4 => ?_) 7 0 _ J (by omega) offL_r (fun _ _ => rfl) hc2 dnL_z
  have hOW : offW I I1 := offW_t hW ⟨fun b h1 h2 h3 h4 h5 _ => g1.1 b h1 h2 h3 h4 h5, fun k hk _ => g1.2 k (by omega)⟩
  have e85 : I1 85 = I 85 := g1.1 85 (by decide) (by decide) (by decide) (by decide) (by decide)
  exact ⟨rfl, rfl, g4, sgV_c hV e85 (g2 83 (by decide)), ⟨svI_w hR.1 hOW g3, (hOW.2 4 (by omega) (by omega)).trans hR.2.1, soK_c hR.2.2 (fun k hk => (g1.2 k (by omega)).trans (by have : k ≠ 35 := (by omega); simp [zwr_at, this])) e85 (g2 83 (by decide))⟩, offX_w offX_r hOW (fun b _ q _ _ => g2 b q), (g1.2 5 (by decide)).trans hf, g2⟩

set_option maxRecDepth 100000 in
set_option maxHeartbeats 4000000 in
theorem w_likely {G : zG} {I : zI} {J : zJ} {a : List (Nat × List (Nat × Nat) × List (Nat × Nat))} {M : Nat → ((Nat → Int32) → Option Int32) × ((Nat → Int32) → Option Int32)} {ar : Nat → List (Nat × List (Nat × Nat) × List (Nat × Nat))} {Mr : Nat → Nat → ((Nat → Int32) → Option Int32) × ((Nat → Int32) → Option Int32)} {far : Nat} (hR : soR I J a M ar Mr far) (h6 : 6 ≤ far) (h10 : far ≤ 10) (hf5 : I 62 5 = nI far) {code other last x : Int32} : zK G mX12_likely 10 [.ref 62, .int code, .int other, .int last, .int x] zsh I J (zP (fun r I' J' => r = some (.long (onS (stO code other last) (-1) (fun p q l => if inZ x (-3) 3 then (vX 3 x 0 (rlM ar Mr) (lfM a M) far p q l).1 else -1))) ∧ soR I' J' a M ar Mr far ∧ offX I J I' J' ∧ I' 62 5 = nI far)) := by
  refine zK_of kX12_likely.2.2.2.2.1 (Nat.le_of_ble_eq_true rfl) ?_
  show V G mX12_likely 10 _ 0 [(0, .ref 62), (1, .int code), (2, .int other), (3, .int last), (4, .int x)] [] (0, 0) zsh I J
  rcases hst : stO code other last with _ | ⟨p, q, l⟩
  · skip
    refine V_aload_n dX12_likely_0 rfl ?_
    refine V_iload_n dX12_likely_1 rfl ?_
    refine V_iload_n dX12_likely_2 rfl ?_
    refine V_iload_n dX12_likely_3 rfl ?_
    refine V_callV (As := [.int code, .int other, .int last]) (st := []) (a := 62) dX12_likely_4 kX12_told lX12_203 (by decide) rfl rfl (Nat.le_of_ble_eq_true rfl) ⟨Nat.le_of_ble_eq_true rfl, Nat.le_of_ble_eq_true rfl⟩ ⟨Nat.le_of_ble_eq_true rfl, Nat.le_of_ble_eq_true rfl⟩ rfl ⟨rfl, by decide⟩ (w_toldN hR.1.1 hst) ?_
    rintro _ _ _ _ ⟨rfl, rfl, rfl, rfl⟩
    refine V_istore (ls' := [(5, .int (-1)), (0, .ref 62), (1, .int code), (2, .int other), (3, .int last), (4, .int x)]) dX12_likely_7 (by decide) rfl ?_
    refine V_iload dX12_likely_9 rfl ?_
    refine V_iconst (v := (-1)) dX12_likely_11 rfl ?_
    refine V_icmp_eq (tgt := 26) dX12_likely_12 rfl (fun _ => ?_) (fun h => absurd h (by decide))
    refine V_ldc2 dX12_likely_26 qX12_393 ?_
    exact V_lret ⟨rfl, dX12_likely_29⟩ ⟨Nat.le_of_ble_eq_true rfl, Nat.le_of_ble_eq_true rfl⟩ ⟨rfl, rfl, hR, offX_r, hf5⟩
  · have hlq := stO_s hst
    have hl1 : l ≤ 1 := hlq.2.2.2.1
    have hp56 : p < 56 := hlq.2.2.2.2.1
    have hq56 : q < 56 := hlq.2.2.2.2.2
    have hsl := stN_lt hp56 hq56 hl1
    by_cases hx : inZ x (-3) 3
    · skip
      refine V_aload_n dX12_likely_0 rfl ?_
      refine V_iload_n dX12_likely_1 rfl ?_
      refine V_iload_n dX12_likely_2 rfl ?_
      refine V_iload_n dX12_likely_3 rfl ?_
      refine V_callV (As := [.int code, .int other, .int last]) (st := []) (a := 62) dX12_likely_4 kX12_told lX12_203 (by decide) rfl rfl (Nat.le_of_ble_eq_true rfl) ⟨Nat.le_of_ble_eq_true rfl, Nat.le_of_ble_eq_true rfl⟩ ⟨Nat.le_of_ble_eq_true rfl, Nat.le_of_ble_eq_true rfl⟩ rfl ⟨rfl, by decide⟩ (w_toldS hR.1.1 hst) ?_
      rintro _ _ _ _ ⟨rfl, rfl, rfl, rfl⟩
      refine V_istore (ls' := [(5, .int (nI (stN p q l))), (0, .ref 62), (1, .int code), (2, .int other), (3, .int last), (4, .int x)]) dX12_likely_7 (by decide) rfl ?_
      refine V_iload dX12_likely_9 rfl ?_
      refine V_iconst (v := (-1)) dX12_likely_11 rfl ?_
      refine V_icmp_eq (tgt := 26) dX12_likely_12 rfl (fun h => absurd h (nI_ne_neg (by omega) (by decide))) (fun _ => ?_)
      refine V_iload dX12_likely_15 rfl ?_
      refine V_bipush (v := (-3)) dX12_likely_17 rfl ?_
      refine V_iconst (v := nI 3) dX12_likely_19 rfl ?_
      refine V_callS (As := [.int x, .int (-3), .int (nI 3)]) (st := []) dX12_likely_20 kX12_in lX12_173 (by decide) rfl rfl (Nat.le_of_ble_eq_true rfl) ⟨Nat.le_of_ble_eq_true rfl, Nat.le_of_ble_eq_true rfl⟩ (w_inY (a := -3) (b := 3) (by decide) (by decide) hx) ?_
      rintro _ _ _ _ ⟨rfl, rfl, rfl, rfl⟩
      refine V_if_ne (tgt := 30) dX12_likely_23 rfl (fun _ => ?_) (fun h => absurd h (by decide))
      refine V_aload_n dX12_likely_30 rfl ?_
      refine V_callV (As := []) (st := []) (a := 62) dX12_likely_31 kX12_solvesBest lX12_390 (by decide) rfl rfl (Nat.le_of_ble_eq_true rfl) ⟨Nat.le_of_ble_eq_true rfl, Nat.le_of_ble_eq_true rfl⟩ ⟨Nat.le_of_ble_eq_true rfl, Nat.le_of_ble_eq_true rfl⟩ rfl ⟨rfl, by decide⟩ (w_solvesBest hR h6 h10) ?_
      rintro r sh' I1 J1 ⟨rfl, rfl, hq1, hR1, hX, hq5⟩
      refine V_aload_n dX12_likely_34 rfl ?_
      refine V_iload dX12_likely_35 rfl ?_
      refine V_callV (As := [.int x]) (st := []) (a := 62) dX12_likely_37 kX12_laysLikely lX12_395 (by decide) rfl rfl (Nat.le_of_ble_eq_true rfl) ⟨Nat.le_of_ble_eq_true rfl, Nat.le_of_ble_eq_true rfl⟩ ⟨Nat.le_of_ble_eq_true rfl, Nat.le_of_ble_eq_true rfl⟩ rfl ⟨rfl, by decide⟩ (w_laysLikely hR1 h6 h10 hq5 hq1) ?_
      rintro r sh' I2 J2 ⟨rfl, rfl, hq7, _, hR2, hX2, hq9, _⟩
      refine V_aload_n dX12_likely_40 rfl ?_
      refine V_getR (b := 84) dX12_likely_41 fX12_76 ⟨Nat.le_of_ble_eq_true rfl, Nat.le_of_ble_eq_true rfl⟩ rfl rfl rfl ?_
      refine V_iload dX12_likely_44 rfl ?_
      refine V_laldN (k := stN p q l) dX12_likely_46 ⟨Nat.le_of_ble_eq_true rfl, Nat.le_of_ble_eq_true rfl⟩ rfl (by decide) (by omega) ?_
      refine V_eqL (y := (vX 3 x 0 (rlM ar Mr) (lfM a M) far p q l).1) (hq7 p q l hp56 hq56 hl1) ?_
      exact V_lret ⟨rfl, dX12_likely_47⟩ ⟨Nat.le_of_ble_eq_true rfl, Nat.le_of_ble_eq_true rfl⟩ ⟨rfl, congrArg (fun z => some (Value.long z)) (if_pos hx).symm, hR2, offX_t hX hX2, hq9⟩
    · skip
      refine V_aload_n dX12_likely_0 rfl ?_
      refine V_iload_n dX12_likely_1 rfl ?_
      refine V_iload_n dX12_likely_2 rfl ?_
      refine V_iload_n dX12_likely_3 rfl ?_
      refine V_callV (As := [.int code, .int other, .int last]) (st := []) (a := 62) dX12_likely_4 kX12_told lX12_203 (by decide) rfl rfl (Nat.le_of_ble_eq_true rfl) ⟨Nat.le_of_ble_eq_true rfl, Nat.le_of_ble_eq_true rfl⟩ ⟨Nat.le_of_ble_eq_true rfl, Nat.le_of_ble_eq_true rfl⟩ rfl ⟨rfl, by decide⟩ (w_toldS hR.1.1 hst) ?_
      rintro _ _ _ _ ⟨rfl, rfl, rfl, rfl⟩
      refine V_istore (ls' := [(5, .int (nI (stN p q l))), (0, .ref 62), (1, .int code), (2, .int other), (3, .int last), (4, .int x)]) dX12_likely_7 (by decide) rfl ?_
      refine V_iload dX12_likely_9 rfl ?_
      refine V_iconst (v := (-1)) dX12_likely_11 rfl ?_
      refine V_icmp_eq (tgt := 26) dX12_likely_12 rfl (fun h => absurd h (nI_ne_neg (by omega) (by decide))) (fun _ => ?_)
      refine V_iload dX12_likely_15 rfl ?_
      refine V_bipush (v := (-3)) dX12_likely_17 rfl ?_
      refine V_iconst (v := nI 3) dX12_likely_19 rfl ?_
      refine V_callS (As := [.int x, .int (-3), .int (nI 3)]) (st := []) dX12_likely_20 kX12_in lX12_173 (by decide) rfl rfl (Nat.le_of_ble_eq_true rfl) ⟨Nat.le_of_ble_eq_true rfl, Nat.le_of_ble_eq_true rfl⟩ (w_inN (a := -3) (b := 3) (by decide) (by decide) hx) ?_
      rintro _ _ _ _ ⟨rfl, rfl, rfl, rfl⟩
      refine V_if_ne (tgt := 30) dX12_likely_23 rfl (fun h => absurd h (by decide)) (fun _ => ?_)
      refine V_ldc2 dX12_likely_26 qX12_393 ?_
      exact V_lret ⟨rfl, dX12_likely_29⟩ ⟨Nat.le_of_ble_eq_true rfl, Nat.le_of_ble_eq_true rfl⟩ ⟨rfl, congrArg (fun z => some (Value.long z)) (if_neg hx).symm, hR, offX_r, hf5⟩

