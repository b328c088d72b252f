/-! THE MODEL: from where to throw, by rules, the last ball -/
section
variable {a : List (Nat × List (Nat × Nat) × List (Nat × Nat))} {M : Nat → ((Nat → Int32) → Option Int32) × ((Nat → Int32) → Option Int32)} {ar : Nat → List (Nat × List (Nat × Nat) × List (Nat × Nat))} {Mr : Nat → Nat → ((Nat → Int32) → Option Int32) × ((Nat → Int32) → Option Int32)} {far : Nat}
theorem soR_5 {I : zI} {J : zJ} {x : Int32} (h : soR I J a M ar Mr far) : soR (zwr I 62 5 x) J a M ar Mr far := by
  have hW : offW I (zwr I 62 5 x) := offW_z offW_r (by omega)
  exact ⟨svI_w h.1 hW (chA_c h.1.2.2.2 rfl rfl), (hW.2 4 (by omega) (by omega)).trans h.2.1, soK_c h.2.2 (fun k hk => by have : k ≠ 5 := (by omega); simp [zwr_at, this]) rfl rfl⟩
theorem offX_5 {I : zI} {J : zJ} {I1 : zI} {J1 : zJ} {x : Int32} (h : offX I J I1 J1) : offX I J (zwr I1 62 5 x) J1 := offX_w h (offW_z offW_r (by omega)) (fun _ _ _ _ _ => rfl)
/-- solved for rules -/
theorem w_solN {G : zG} {I : zI} {J : zJ} (hR : soR I J a M ar Mr far) {f : Nat} (hf : I 62 5 = nI f) (h6 : 6 ≤ f) (h10 : f ≤ 10) {one two : Int32} (h1 : ruX one) (h2 : ruX two) : zK G mX12_solves 8 [.ref 62, .int (nI 0), .int one, .int two] zsh I J (zP (fun r I' J' => r = none ∧ sgV 1 one two (rlM ar Mr) (lfM a M) f I' J' ∧ soR I' J' a M ar Mr far ∧ offX I J I' J' ∧ I' 62 5 = nI f)) := by
  refine zK_imp (w_solves hR.1 hf h6 h10 (Or.inl ⟨rfl, rfl, h1, h2, rfl, rfl⟩) hR.2.2) ?_
  rintro r sh I' J' ⟨rfl, rfl, g1, g2, g3, g4, g5, g6⟩
  exact ⟨rfl, rfl, g1, ⟨svI_w hR.1 g2 g4, (g2.2 4 (by omega) (by omega)).trans hR.2.1, g3⟩, offX_w offX_r g2 (fun b q _ _ _ => g6 b q), g5⟩
theorem w_solF {G : zG} {I : zI} {J : zJ} (hR : soR I J a M ar Mr far) {f : Nat} (h6 : 6 ≤ f) (h10 : f ≤ 10) {one two : Int32} (h1 : ruX one) (h2 : ruX two) : zK G mX12_solves 8 [.ref 62, .int (nI 0), .int one, .int two] zsh (zwr I 62 5 (nI f)) J (zP (fun r I' J' => r = none ∧ sgV 1 one two (rlM ar Mr) (lfM a M) f I' J' ∧ soR I' J' a M ar Mr far ∧ offX I J I' J' ∧ I' 62 5 = nI f)) := by
  refine zK_imp (w_solN (soR_5 hR) (show zwr I 62 5 (nI f) 62 5 = nI f from rfl) h6 h10 h1 h2) ?_
  rintro r sh I' J' ⟨rfl, rfl, g1, g2, g3, g4⟩
  exact ⟨rfl, rfl, g1, g2, offX_t (offX_5 offX_r) g3, g4⟩
end
theorem vB_e {Rl : Nat → Nat → (Nat → Int32) → Int32} {Lf : Nat → (Nat → Int32) → Int32} {f s : Nat} : (vX 1 (-1) (-1) Rl Lf f 55 55 (1 - s)).1 = vB Lf f s := congrArg Prod.fst vX_nn
theorem ttL_y {v : Nat → Int64} {s n f c : Nat} {x : Int64} (h : if s = 0 then x < v f else v f < x) : ttL v s (n + 1) f c x = ttL v s n (f + 1) f (v f) := if_pos h
theorem ttL_n {v : Nat → Int64} {s n f c : Nat} {x : Int64} (h : ¬ if s = 0 then x < v f else v f < x) : ttL v s (n + 1) f c x = ttL v s n (f + 1) c x := if_neg h
set_option maxRecDepth 100000 in
set_option maxHeartbeats 4000000 in
theorem lp_tt {G : zG} {I : zI} {J : zJ} {Q : zQ} {a : List (Nat × List (Nat × Nat) × List (Nat × Nat))} {M : Nat → ((Nat → Int32) → Option Int32) × ((Nat → Int32) → Option Int32)} {ar : Nat → List (Nat × List (Nat × Nat) × List (Nat × Nat))} {Mr : Nat → Nat → ((Nat → Int32) → Option Int32) × ((Nat → Int32) → Option Int32)} {far : Nat} {s w : Nat} (hs : s ≤ 1) (hw : w ≤ 1) : ∀ n f c x (I1 : zI) (J1 : zJ), f + n = 11 → 6 ≤ f → c ≤ 10 → soR I1 J1 a M ar Mr far → offX I J I1 J1 → (∀ (I2 : zI) (J2 : zJ), soR I2 J2 a M ar Mr far → offX I J I2 J2 → I2 62 5 = nI far → Q (some (.long (if w = 0 then (nI (ttL (fun f => vB (lfM a M) f s) s n f c x).1).toInt64 else (ttL (fun f => vB (lfM a M) f s) s n f c x).2))) zsh I2 J2) → V G mX12_toThrow 10 Q 29 [(0, .ref 62), (1, .int (nI s)), (2, .int (nI w)), (3, .int (nI c)), (4, .long x), (6, .int (nI f))] [] (0, 0) zsh I1 J1 := by
  have hst : stN 55 55 (1 - s) < 6272 := stN_lt (by decide) (by decide) (by omega)
  intro n
  induction n with
  | zero =>
    intro f c x I1 J1 hf h6 hc i1 i2 hQ
    refine V_iload dX12_toThrow_29 rfl ?_
    refine V_bipush (v := nI 10) dX12_toThrow_31 rfl ?_
    refine V_icmp_gtN (tgt := 105) dX12_toThrow_33 rfl (by omega) (by omega) (fun _ => ?_) (fun h => absurd h (by omega))
    refine V_aload_n dX12_toThrow_105 rfl ?_
    refine V_aload_n dX12_toThrow_106 rfl ?_
    refine V_getI dX12_toThrow_107 fX12_139 ⟨Nat.le_of_ble_eq_true rfl, Nat.le_of_ble_eq_true rfl⟩ rfl rfl ?_
    refine V_eqI (y := nI far) i1.2.1 ?_
    refine V_putW dX12_toThrow_110 fX12_143 ⟨Nat.le_of_ble_eq_true rfl, Nat.le_of_ble_eq_true rfl⟩ rfl rfl rfl ⟨rfl, rfl⟩ ?_
    refine V_iload_n dX12_toThrow_113 rfl ?_
    refine V_if_neN (tgt := 122) dX12_toThrow_114 rfl (by omega) (fun h114 => ?_) (fun h114 => ?_)
    · skip
      refine V_lload dX12_toThrow_122 rfl ?_
      exact V_lret ⟨rfl, dX12_toThrow_124⟩ ⟨Nat.le_of_ble_eq_true rfl, Nat.le_of_ble_eq_true rfl⟩ (by have h := hQ _ _ (soR_5 (x := nI far) i1) (offX_5 (x := nI far) i2) rfl; rw [if_neg h114] at h; exact h)
    · skip
      refine V_iload_n dX12_toThrow_117 rfl ?_
      refine V_i2l dX12_toThrow_118 ?_
      refine V_goto (tgt := 124) dX12_toThrow_119 rfl ?_
      exact V_lret ⟨rfl, dX12_toThrow_124⟩ ⟨Nat.le_of_ble_eq_true rfl, Nat.le_of_ble_eq_true rfl⟩ (by have h := hQ _ _ (soR_5 (x := nI far) i1) (offX_5 (x := nI far) i2) rfl; rw [if_pos h114] at h; exact h)
  | succ n ih =>
    intro f c x I1 J1 hf h6 hc i1 i2 hQ
    refine V_iload dX12_toThrow_29 rfl ?_
    refine V_bipush (v := nI 10) dX12_toThrow_31 rfl ?_
    refine V_icmp_gtN (tgt := 105) dX12_toThrow_33 rfl (by omega) (by omega) (fun h => absurd h (by omega)) (fun _ => ?_)
    refine V_aload_n dX12_toThrow_36 rfl ?_
    refine V_iload dX12_toThrow_37 rfl ?_
    refine V_putW dX12_toThrow_39 fX12_143 ⟨Nat.le_of_ble_eq_true rfl, Nat.le_of_ble_eq_true rfl⟩ rfl rfl rfl ⟨rfl, rfl⟩ ?_
    refine V_aload_n dX12_toThrow_42 rfl ?_
    refine V_iconst (v := nI 0) dX12_toThrow_43 rfl ?_
    refine V_iconst (v := (-1)) dX12_toThrow_44 rfl ?_
    refine V_iconst (v := (-1)) dX12_toThrow_45 rfl ?_
    refine V_callV (As := [.int (nI 0), .int (-1), .int (-1)]) (st := []) (a := 62) dX12_toThrow_46 kX12_solves lX12_385 (by decide) rfl rfl (Nat.le_of_ble_eq_true rfl) ⟨Nat.le_of_ble_eq_true rfl, Nat.le_of_ble_eq_true rfl⟩ ⟨Nat.le_of_ble_eq_true rfl, Nat.le_of_ble_eq_true rfl⟩ rfl ⟨rfl, by decide⟩ (w_solF i1 (f := f) (by omega) (by omega) ruX_m ruX_m) ?_
    rintro r sh' I2 J2 ⟨rfl, rfl, hq1, hR2, hX2, hq5⟩
    have hX3 := offX_t i2 hX2
    refine V_aload_n dX12_toThrow_49 rfl ?_
    refine V_getR (b := 83) dX12_toThrow_50 fX12_72 ⟨Nat.le_of_ble_eq_true rfl, Nat.le_of_ble_eq_true rfl⟩ rfl rfl rfl ?_
    refine V_aload_n dX12_toThrow_53 rfl ?_
    refine V_iload_n dX12_toThrow_54 rfl ?_
    refine V_callV (As := [.int (nI s)]) (st := [.ref 83]) (a := 62) dX12_toThrow_55 kX12_begin lX12_398 (by decide) rfl rfl (Nat.le_of_ble_eq_true rfl) ⟨Nat.le_of_ble_eq_true rfl, Nat.le_of_ble_eq_true rfl⟩ ⟨Nat.le_of_ble_eq_true rfl, Nat.le_of_ble_eq_true rfl⟩ rfl ⟨rfl, by decide⟩ (w_begin hR2.1.1 (f := s) (by omega)) ?_
    rintro _ _ _ _ ⟨rfl, rfl, rfl, rfl⟩
    refine V_laldN (k := stN 55 55 (1 - s)) dX12_toThrow_58 ⟨Nat.le_of_ble_eq_true rfl, Nat.le_of_ble_eq_true rfl⟩ rfl (by decide) (by omega) ?_
    refine V_eqL (y := vB (lfM a M) f s) ((hq1 55 55 _ (by decide) (by decide) (by omega)).1.trans vB_e) ?_
    refine V_lstore (ls' := [(7, .long (vB (lfM a M) f s)), (0, .ref 62), (1, .int (nI s)), (2, .int (nI w)), (3, .int (nI c)), (4, .long x), (6, .int (nI f))]) dX12_toThrow_59 (by decide) rfl ?_
    refine V_iload_n dX12_toThrow_61 rfl ?_
    refine V_iconst (v := (-1)) dX12_toThrow_62 rfl ?_
    refine V_icmp_eq (tgt := 92) dX12_toThrow_63 rfl (fun h => absurd h (nI_ne_neg (by omega) (by decide))) (fun _ => ?_)
    refine V_iload_n dX12_toThrow_66 rfl ?_
    refine V_if_neN (tgt := 81) dX12_toThrow_67 rfl (by omega) (fun h67 => ?_) (fun h67 => ?_)
    · skip
      refine V_lload dX12_toThrow_81 rfl ?_
      refine V_lload dX12_toThrow_83 rfl ?_
      refine V_lcmp dX12_toThrow_85 ?_
      refine V_if_lt (tgt := 92) dX12_toThrow_86 rfl (fun hX => ?_) (fun hX => ?_)
      · skip
        rw [ttL_y (v := (fun f => vB (lfM a M) f s)) (n := n) (c := c) (lg_y1 h67 (Int32.not_le.mpr hX))] at hQ
        refine V_iload dX12_toThrow_92 rfl ?_
        refine V_istore_n (ls' := [(3, .int (nI f)), (7, .long (vB (lfM a M) f s)), (0, .ref 62), (1, .int (nI s)), (2, .int (nI w)), (4, .long x), (6, .int (nI f))]) dX12_toThrow_94 (by decide) rfl ?_
        refine V_lload dX12_toThrow_95 rfl ?_
        refine V_lstore (ls' := [(4, .long (vB (lfM a M) f s)), (3, .int (nI f)), (7, .long (vB (lfM a M) f s)), (0, .ref 62), (1, .int (nI s)), (2, .int (nI w)), (6, .int (nI f))]) dX12_toThrow_97 (by decide) rfl ?_
        refine V_iincN (ls' := [(6, .int (nI (f + 1))), (4, .long (vB (lfM a M) f s)), (3, .int (nI f)), (7, .long (vB (lfM a M) f s)), (0, .ref 62), (1, .int (nI s)), (2, .int (nI w))]) (n := 1) dX12_toThrow_99 rfl rfl (by decide) (by decide) rfl ?_
        refine V_goto (tgt := 29) dX12_toThrow_102 rfl ?_
        refine V_sub2 (ls' := [(0, .ref 62), (1, .int (nI s)), (2, .int (nI w)), (3, .int (nI f)), (4, .long (vB (lfM a M) f s)), (6, .int (nI (f + 1)))]) (List.forall_mem_cons.mpr ⟨rfl, List.forall_mem_cons.mpr ⟨rfl, List.forall_mem_cons.mpr ⟨rfl, List.forall_mem_cons.mpr ⟨rfl, List.forall_mem_cons.mpr ⟨rfl, List.forall_mem_cons.mpr ⟨rfl, fun _ h => absurd h List.not_mem_nil⟩⟩⟩⟩⟩⟩) ?_
        exact ih (f + 1) f (vB (lfM a M) f s) I2 J2 (by omega) (by omega) (by omega) hR2 hX3 hQ
      · skip
        rw [ttL_n (v := (fun f => vB (lfM a M) f s)) (n := n) (c := c) (lg_n1 h67 (Int32.not_lt.mp hX))] at hQ
        refine V_goto (tgt := 99) dX12_toThrow_89 rfl ?_
        refine V_iincN (ls' := [(6, .int (nI (f + 1))), (7, .long (vB (lfM a M) f s)), (0, .ref 62), (1, .int (nI s)), (2, .int (nI w)), (3, .int (nI c)), (4, .long x)]) (n := 1) dX12_toThrow_99 rfl rfl (by decide) (by decide) rfl ?_
        refine V_goto (tgt := 29) dX12_toThrow_102 rfl ?_
        refine V_sub2 (ls' := [(0, .ref 62), (1, .int (nI s)), (2, .int (nI w)), (3, .int (nI c)), (4, .long x), (6, .int (nI (f + 1)))]) (List.forall_mem_cons.mpr ⟨rfl, List.forall_mem_cons.mpr ⟨rfl, List.forall_mem_cons.mpr ⟨rfl, List.forall_mem_cons.mpr ⟨rfl, List.forall_mem_cons.mpr ⟨rfl, List.forall_mem_cons.mpr ⟨rfl, fun _ h => absurd h List.not_mem_nil⟩⟩⟩⟩⟩⟩) ?_
        exact ih (f + 1) c x I2 J2 (by omega) (by omega) (by omega) hR2 hX3 hQ
    · skip
      refine V_lload dX12_toThrow_70 rfl ?_
      refine V_lload dX12_toThrow_72 rfl ?_
      refine V_lcmp dX12_toThrow_74 ?_
      refine V_if_gt (tgt := 92) dX12_toThrow_75 rfl (fun hX => ?_) (fun hX => ?_)
      · skip
        rw [ttL_y (v := (fun f => vB (lfM a M) f s)) (n := n) (c := c) (lg_y0 h67 (Int32.not_le.mpr hX))] at hQ
        refine V_iload dX12_toThrow_92 rfl ?_
        refine V_istore_n (ls' := [(3, .int (nI f)), (7, .long (vB (lfM a M) f s)), (0, .ref 62), (1, .int (nI s)), (2, .int (nI w)), (4, .long x), (6, .int (nI f))]) dX12_toThrow_94 (by decide) rfl ?_
        refine V_lload dX12_toThrow_95 rfl ?_
        refine V_lstore (ls' := [(4, .long (vB (lfM a M) f s)), (3, .int (nI f)), (7, .long (vB (lfM a M) f s)), (0, .ref 62), (1, .int (nI s)), (2, .int (nI w)), (6, .int (nI f))]) dX12_toThrow_97 (by decide) rfl ?_
        refine V_iincN (ls' := [(6, .int (nI (f + 1))), (4, .long (vB (lfM a M) f s)), (3, .int (nI f)), (7, .long (vB (lfM a M) f s)), (0, .ref 62), (1, .int (nI s)), (2, .int (nI w))]) (n := 1) dX12_toThrow_99 rfl rfl (by decide) (by decide) rfl ?_
        refine V_goto (tgt := 29) dX12_toThrow_102 rfl ?_
        refine V_sub2 (ls' := [(0, .ref 62), (1, .int (nI s)), (2, .int (nI w)), (3, .int (nI f)), (4, .long (vB (lfM a M) f s)), (6, .int (nI (f + 1)))]) (List.forall_mem_cons.mpr ⟨rfl, List.forall_mem_cons.mpr ⟨rfl, List.forall_mem_cons.mpr ⟨rfl, List.forall_mem_cons.mpr ⟨rfl, List.forall_mem_cons.mpr ⟨rfl, List.forall_mem_cons.mpr ⟨rfl, fun _ h => absurd h List.not_mem_nil⟩⟩⟩⟩⟩⟩) ?_
        exact ih (f + 1) f (vB (lfM a M) f s) I2 J2 (by omega) (by omega) (by omega) hR2 hX3 hQ
      · skip
        rw [ttL_n (v := (fun f => vB (lfM a M) f s)) (n := n) (c := c) (lg_n0 h67 (Int32.not_lt.mp hX))] at hQ
        refine V_goto (tgt := 99) dX12_toThrow_78 rfl ?_
        refine V_iincN (ls' := [(6, .int (nI (f + 1))), (7, .long (vB (lfM a M) f s)), (0, .ref 62), (1, .int (nI s)), (2, .int (nI w)), (3, .int (nI c)), (4, .long x)]) (n := 1) dX12_toThrow_99 rfl rfl (by decide) (by decide) rfl ?_
        refine V_goto (tgt := 29) dX12_toThrow_102 rfl ?_
        refine V_sub2 (ls' := [(0, .ref 62), (1, .int (nI s)), (2, .int (nI w)), (3, .int (nI c)), (4, .long x), (6, .int (nI (f + 1)))]) (List.forall_mem_cons.mpr ⟨rfl, List.forall_mem_cons.mpr ⟨rfl, List.forall_mem_cons.mpr ⟨rfl, List.forall_mem_cons.mpr ⟨rfl, List.forall_mem_cons.mpr ⟨rfl, List.forall_mem_cons.mpr ⟨rfl, fun _ h => absurd h List.not_mem_nil⟩⟩⟩⟩⟩⟩) ?_
        exact ih (f + 1) c x I2 J2 (by omega) (by omega) (by omega) hR2 hX3 hQ

set_option maxRecDepth 100000 in
set_option maxHeartbeats 4000000 in
theorem w_toThrow {G : zG} {I : zI} {J : zJ} {a : List (Nat × List (Nat × Nat) × List (Nat × Nat))} {M : Nat → ((Nat → Int32) → Option Int32) × ((Nat → Int32) → Option Int32)} {ar : Nat → List (Nat × List (Nat × Nat) × List (Nat × Nat))} {Mr : Nat → Nat → ((Nat → Int32) → Option Int32) × ((Nat → Int32) → Option Int32)} {far : Nat} (hR : soR I J a M ar Mr far) (h6 : 6 ≤ far) (h10 : far ≤ 10) (hf5 : I 62 5 = nI far) {s w : Int32} : zK G mX12_toThrow 10 [.ref 62, .int s, .int w] zsh I J (zP (fun r I' J' => r = some (.long (if inZ s 0 1 ∧ inZ w 0 1 then on01 s 0 (on01 w 0 (nI (ttL (fun f => vB (lfM a M) f 0) 0 4 7 6 (vB (lfM a M) 6 0)).1).toInt64 (ttL (fun f => vB (lfM a M) f 0) 0 4 7 6 (vB (lfM a M) 6 0)).2) (on01 w 0 (nI (ttL (fun f => vB (lfM a M) f 1) 1 4 7 6 (vB (lfM a M) 6 1)).1).toInt64 (ttL (fun f => vB (lfM a M) f 1) 1 4 7 6 (vB (lfM a M) 6 1)).2) else -2000000000000000000)) ∧ soR I' J' a M ar Mr far ∧ offX I J I' J' ∧ I' 62 5 = nI far)) := by
  refine zK_of kX12_toThrow.2.2.2.2.1 (Nat.le_of_ble_eq_true rfl) ?_
  show V G mX12_toThrow 10 _ 0 [(0, .ref 62), (1, .int s), (2, .int w)] [] (0, 0) zsh I J
  by_cases hs : inZ s 0 1
  · by_cases hw : inZ w 0 1
    · rcases inZ01 hs with rfl | rfl <;> rcases inZ01 hw with rfl | rfl
      · skip
        refine V_iload_n dX12_toThrow_0 rfl ?_
        refine V_callS (As := [.int (nI 0)]) (st := []) dX12_toThrow_1 kX12_isSide lX12_196 (by decide) rfl rfl (Nat.le_of_ble_eq_true rfl) ⟨Nat.le_of_ble_eq_true rfl, Nat.le_of_ble_eq_true rfl⟩ (q_y (w_isSide) ((inZ_k (by omega)).mpr (by omega))) ?_
        rintro _ _ _ _ ⟨rfl, rfl, rfl, rfl⟩
        refine V_if_eq (tgt := 16) dX12_toThrow_4 rfl (fun h => absurd h (by decide)) (fun _ => ?_)
        refine V_iload_n dX12_toThrow_7 rfl ?_
        refine V_iconst (v := nI 0) dX12_toThrow_8 rfl ?_
        refine V_iconst (v := nI 1) dX12_toThrow_9 rfl ?_
        refine V_callS (As := [.int (nI 0), .int (nI 0), .int (nI 1)]) (st := []) dX12_toThrow_10 kX12_in lX12_173 (by decide) rfl rfl (Nat.le_of_ble_eq_true rfl) ⟨Nat.le_of_ble_eq_true rfl, Nat.le_of_ble_eq_true rfl⟩ (w_inY (a := 0) (b := 1) (by decide) (by decide) ((inZ_k (by omega)).mpr (by omega))) ?_
        rintro _ _ _ _ ⟨rfl, rfl, rfl, rfl⟩
        refine V_if_ne (tgt := 20) dX12_toThrow_13 rfl (fun _ => ?_) (fun h => absurd h (by decide))
        refine V_iconst (v := (-1)) dX12_toThrow_20 rfl ?_
        refine V_istore_n (ls' := [(3, .int (-1)), (0, .ref 62), (1, .int (nI 0)), (2, .int (nI 0))]) dX12_toThrow_21 (by decide) rfl ?_
        refine V_lconst (v := 0) dX12_toThrow_22 rfl ?_
        refine V_lstore (ls' := [(4, .long 0), (3, .int (-1)), (0, .ref 62), (1, .int (nI 0)), (2, .int (nI 0))]) dX12_toThrow_23 (by decide) rfl ?_
        refine V_bipush (v := nI 6) dX12_toThrow_25 rfl ?_
        refine V_istore (ls' := [(6, .int (nI 6)), (4, .long 0), (3, .int (-1)), (0, .ref 62), (1, .int (nI 0)), (2, .int (nI 0))]) dX12_toThrow_27 (by decide) rfl ?_
        refine V_iload dX12_toThrow_29 rfl ?_
        refine V_bipush (v := nI 10) dX12_toThrow_31 rfl ?_
        refine V_icmp_gt (tgt := 105) dX12_toThrow_33 rfl (fun h => absurd h (by decide)) (fun _ => ?_)
        refine V_aload_n dX12_toThrow_36 rfl ?_
        refine V_iload dX12_toThrow_37 rfl ?_
        refine V_putW dX12_toThrow_39 fX12_143 ⟨Nat.le_of_ble_eq_true rfl, Nat.le_of_ble_eq_true rfl⟩ rfl rfl rfl ⟨rfl, rfl⟩ ?_
        refine V_aload_n dX12_toThrow_42 rfl ?_
        refine V_iconst (v := nI 0) dX12_toThrow_43 rfl ?_
        refine V_iconst (v := (-1)) dX12_toThrow_44 rfl ?_
        refine V_iconst (v := (-1)) dX12_toThrow_45 rfl ?_
        refine V_callV (As := [.int (nI 0), .int (-1), .int (-1)]) (st := []) (a := 62) dX12_toThrow_46 kX12_solves lX12_385 (by decide) rfl rfl (Nat.le_of_ble_eq_true rfl) ⟨Nat.le_of_ble_eq_true rfl, Nat.le_of_ble_eq_true rfl⟩ ⟨Nat.le_of_ble_eq_true rfl, Nat.le_of_ble_eq_true rfl⟩ rfl ⟨rfl, by decide⟩ (w_solF hR (f := 6) (by omega) (by omega) ruX_m ruX_m) ?_
        rintro r sh' I2 J2 ⟨rfl, rfl, hq1, hR2, hX2, hq5⟩
        have hX3 := hX2
        refine V_aload_n dX12_toThrow_49 rfl ?_
        refine V_getR (b := 83) dX12_toThrow_50 fX12_72 ⟨Nat.le_of_ble_eq_true rfl, Nat.le_of_ble_eq_true rfl⟩ rfl rfl rfl ?_
        refine V_aload_n dX12_toThrow_53 rfl ?_
        refine V_iload_n dX12_toThrow_54 rfl ?_
        refine V_callV (As := [.int (nI 0)]) (st := [.ref 83]) (a := 62) dX12_toThrow_55 kX12_begin lX12_398 (by decide) rfl rfl (Nat.le_of_ble_eq_true rfl) ⟨Nat.le_of_ble_eq_true rfl, Nat.le_of_ble_eq_true rfl⟩ ⟨Nat.le_of_ble_eq_true rfl, Nat.le_of_ble_eq_true rfl⟩ rfl ⟨rfl, by decide⟩ (w_begin hR2.1.1 (f := 0) (by omega)) ?_
        rintro _ _ _ _ ⟨rfl, rfl, rfl, rfl⟩
        refine V_laldN (k := stN 55 55 (1 - 0)) dX12_toThrow_58 ⟨Nat.le_of_ble_eq_true rfl, Nat.le_of_ble_eq_true rfl⟩ rfl (by decide) (stN_lt (by decide) (by decide) (by decide)) ?_
        refine V_eqL (y := vB (lfM a M) 6 0) ((hq1 55 55 _ (by decide) (by decide) (by omega)).1.trans vB_e) ?_
        refine V_lstore (ls' := [(7, .long (vB (lfM a M) 6 0)), (6, .int (nI 6)), (4, .long 0), (3, .int (-1)), (0, .ref 62), (1, .int (nI 0)), (2, .int (nI 0))]) dX12_toThrow_59 (by decide) rfl ?_
        refine V_iload_n dX12_toThrow_61 rfl ?_
        refine V_iconst (v := (-1)) dX12_toThrow_62 rfl ?_
        refine V_icmp_eq (tgt := 92) dX12_toThrow_63 rfl (fun _ => ?_) (fun h => absurd h (by decide))
        refine V_iload dX12_toThrow_92 rfl ?_
        refine V_istore_n (ls' := [(3, .int (nI 6)), (7, .long (vB (lfM a M) 6 0)), (6, .int (nI 6)), (4, .long 0), (0, .ref 62), (1, .int (nI 0)), (2, .int (nI 0))]) dX12_toThrow_94 (by decide) rfl ?_
        refine V_lload dX12_toThrow_95 rfl ?_
        refine V_lstore (ls' := [(4, .long (vB (lfM a M) 6 0)), (3, .int (nI 6)), (7, .long (vB (lfM a M) 6 0)), (6, .int (nI 6)), (0, .ref 62), (1, .int (nI 0)), (2, .int (nI 0))]) dX12_toThrow_97 (by decide) rfl ?_
        refine V_iinc (v := nI 7) (ls' := [(6, .int (nI 7)), (4, .long (vB (lfM a M) 6 0)), (3, .int (nI 6)), (7, .long (vB (lfM a M) 6 0)), (0, .ref 62), (1, .int (nI 0)), (2, .int (nI 0))]) dX12_toThrow_99 rfl (by decide) (by decide) rfl ?_
        refine V_goto (tgt := 29) dX12_toThrow_102 rfl ?_
        refine V_sub2 (ls' := [(0, .ref 62), (1, .int (nI 0)), (2, .int (nI 0)), (3, .int (nI 6)), (4, .long (vB (lfM a M) 6 0)), (6, .int (nI 7))]) (List.forall_mem_cons.mpr ⟨rfl, List.forall_mem_cons.mpr ⟨rfl, List.forall_mem_cons.mpr ⟨rfl, List.forall_mem_cons.mpr ⟨rfl, List.forall_mem_cons.mpr ⟨rfl, List.forall_mem_cons.mpr ⟨rfl, fun _ h => absurd h List.not_mem_nil⟩⟩⟩⟩⟩⟩) ?_
        exact lp_tt (s := 0) (w := 0) (by omega) (by omega) 4 7 6 _ I2 J2 (by omega) (by omega) (by omega) hR2 hX3 (fun I3 J3 g1 g2 g3 => ⟨rfl, rfl, g1, g2, g3⟩)
      · skip
        refine V_iload_n dX12_toThrow_0 rfl ?_
        refine V_callS (As := [.int (nI 0)]) (st := []) dX12_toThrow_1 kX12_isSide lX12_196 (by decide) rfl rfl (Nat.le_of_ble_eq_true rfl) ⟨Nat.le_of_ble_eq_true rfl, Nat.le_of_ble_eq_true rfl⟩ (q_y (w_isSide) ((inZ_k (by omega)).mpr (by omega))) ?_
        rintro _ _ _ _ ⟨rfl, rfl, rfl, rfl⟩
        refine V_if_eq (tgt := 16) dX12_toThrow_4 rfl (fun h => absurd h (by decide)) (fun _ => ?_)
        refine V_iload_n dX12_toThrow_7 rfl ?_
        refine V_iconst (v := nI 0) dX12_toThrow_8 rfl ?_
        refine V_iconst (v := nI 1) dX12_toThrow_9 rfl ?_
        refine V_callS (As := [.int (nI 1), .int (nI 0), .int (nI 1)]) (st := []) dX12_toThrow_10 kX12_in lX12_173 (by decide) rfl rfl (Nat.le_of_ble_eq_true rfl) ⟨Nat.le_of_ble_eq_true rfl, Nat.le_of_ble_eq_true rfl⟩ (w_inY (a := 0) (b := 1) (by decide) (by decide) ((inZ_k (by omega)).mpr (by omega))) ?_
        rintro _ _ _ _ ⟨rfl, rfl, rfl, rfl⟩
        refine V_if_ne (tgt := 20) dX12_toThrow_13 rfl (fun _ => ?_) (fun h => absurd h (by decide))
        refine V_iconst (v := (-1)) dX12_toThrow_20 rfl ?_
        refine V_istore_n (ls' := [(3, .int (-1)), (0, .ref 62), (1, .int (nI 0)), (2, .int (nI 1))]) dX12_toThrow_21 (by decide) rfl ?_
        refine V_lconst (v := 0) dX12_toThrow_22 rfl ?_
        refine V_lstore (ls' := [(4, .long 0), (3, .int (-1)), (0, .ref 62), (1, .int (nI 0)), (2, .int (nI 1))]) dX12_toThrow_23 (by decide) rfl ?_
        refine V_bipush (v := nI 6) dX12_toThrow_25 rfl ?_
        refine V_istore (ls' := [(6, .int (nI 6)), (4, .long 0), (3, .int (-1)), (0, .ref 62), (1, .int (nI 0)), (2, .int (nI 1))]) dX12_toThrow_27 (by decide) rfl ?_
        refine V_iload dX12_toThrow_29 rfl ?_
        refine V_bipush (v := nI 10) dX12_toThrow_31 rfl ?_
        refine V_icmp_gt (tgt := 105) dX12_toThrow_33 rfl (fun h => absurd h (by decide)) (fun _ => ?_)
        refine V_aload_n dX12_toThrow_36 rfl ?_
        refine V_iload dX12_toThrow_37 rfl ?_
        refine V_putW dX12_toThrow_39 fX12_143 ⟨Nat.le_of_ble_eq_true rfl, Nat.le_of_ble_eq_true rfl⟩ rfl rfl rfl ⟨rfl, rfl⟩ ?_
        refine V_aload_n dX12_toThrow_42 rfl ?_
        refine V_iconst (v := nI 0) dX12_toThrow_43 rfl ?_
        refine V_iconst (v := (-1)) dX12_toThrow_44 rfl ?_
        refine V_iconst (v := (-1)) dX12_toThrow_45 rfl ?_
        refine V_callV (As := [.int (nI 0), .int (-1), .int (-1)]) (st := []) (a := 62) dX12_toThrow_46 kX12_solves lX12_385 (by decide) rfl rfl (Nat.le_of_ble_eq_true rfl) ⟨Nat.le_of_ble_eq_true rfl, Nat.le_of_ble_eq_true rfl⟩ ⟨Nat.le_of_ble_eq_true rfl, Nat.le_of_ble_eq_true rfl⟩ rfl ⟨rfl, by decide⟩ (w_solF hR (f := 6) (by omega) (by omega) ruX_m ruX_m) ?_
        rintro r sh' I2 J2 ⟨rfl, rfl, hq1, hR2, hX2, hq5⟩
        have hX3 := hX2
        refine V_aload_n dX12_toThrow_49 rfl ?_
        refine V_getR (b := 83) dX12_toThrow_50 fX12_72 ⟨Nat.le_of_ble_eq_true rfl, Nat.le_of_ble_eq_true rfl⟩ rfl rfl rfl ?_
        refine V_aload_n dX12_toThrow_53 rfl ?_
        refine V_iload_n dX12_toThrow_54 rfl ?_
        refine V_callV (As := [.int (nI 0)]) (st := [.ref 83]) (a := 62) dX12_toThrow_55 kX12_begin lX12_398 (by decide) rfl rfl (Nat.le_of_ble_eq_true rfl) ⟨Nat.le_of_ble_eq_true rfl, Nat.le_of_ble_eq_true rfl⟩ ⟨Nat.le_of_ble_eq_true rfl, Nat.le_of_ble_eq_true rfl⟩ rfl ⟨rfl, by decide⟩ (w_begin hR2.1.1 (f := 0) (by omega)) ?_
        rintro _ _ _ _ ⟨rfl, rfl, rfl, rfl⟩
        refine V_laldN (k := stN 55 55 (1 - 0)) dX12_toThrow_58 ⟨Nat.le_of_ble_eq_true rfl, Nat.le_of_ble_eq_true rfl⟩ rfl (by decide) (stN_lt (by decide) (by decide) (by decide)) ?_
        refine V_eqL (y := vB (lfM a M) 6 0) ((hq1 55 55 _ (by decide) (by decide) (by omega)).1.trans vB_e) ?_
        refine V_lstore (ls' := [(7, .long (vB (lfM a M) 6 0)), (6, .int (nI 6)), (4, .long 0), (3, .int (-1)), (0, .ref 62), (1, .int (nI 0)), (2, .int (nI 1))]) dX12_toThrow_59 (by decide) rfl ?_
        refine V_iload_n dX12_toThrow_61 rfl ?_
        refine V_iconst (v := (-1)) dX12_toThrow_62 rfl ?_
        refine V_icmp_eq (tgt := 92) dX12_toThrow_63 rfl (fun _ => ?_) (fun h => absurd h (by decide))
        refine V_iload dX12_toThrow_92 rfl ?_
        refine V_istore_n (ls' := [(3, .int (nI 6)), (7, .long (vB (lfM a M) 6 0)), (6, .int (nI 6)), (4, .long 0), (0, .ref 62), (1, .int (nI 0)), (2, .int (nI 1))]) dX12_toThrow_94 (by decide) rfl ?_
        refine V_lload dX12_toThrow_95 rfl ?_
        refine V_lstore (ls' := [(4, .long (vB (lfM a M) 6 0)), (3, .int (nI 6)), (7, .long (vB (lfM a M) 6 0)), (6, .int (nI 6)), (0, .ref 62), (1, .int (nI 0)), (2, .int (nI 1))]) dX12_toThrow_97 (by decide) rfl ?_
        refine V_iinc (v := nI 7) (ls' := [(6, .int (nI 7)), (4, .long (vB (lfM a M) 6 0)), (3, .int (nI 6)), (7, .long (vB (lfM a M) 6 0)), (0, .ref 62), (1, .int (nI 0)), (2, .int (nI 1))]) dX12_toThrow_99 rfl (by decide) (by decide) rfl ?_
        refine V_goto (tgt := 29) dX12_toThrow_102 rfl ?_
        refine V_sub2 (ls' := [(0, .ref 62), (1, .int (nI 0)), (2, .int (nI 1)), (3, .int (nI 6)), (4, .long (vB (lfM a M) 6 0)), (6, .int (nI 7))]) (List.forall_mem_cons.mpr ⟨rfl, List.forall_mem_cons.mpr ⟨rfl, List.forall_mem_cons.mpr ⟨rfl, List.forall_mem_cons.mpr ⟨rfl, List.forall_mem_cons.mpr ⟨rfl, List.forall_mem_cons.mpr ⟨rfl, fun _ h => absurd h List.not_mem_nil⟩⟩⟩⟩⟩⟩) ?_
        exact lp_tt (s := 0) (w := 1) (by omega) (by omega) 4 7 6 _ I2 J2 (by omega) (by omega) (by omega) hR2 hX3 (fun I3 J3 g1 g2 g3 => ⟨rfl, rfl, g1, g2, g3⟩)
      · skip
        refine V_iload_n dX12_toThrow_0 rfl ?_
        refine V_callS (As := [.int (nI 1)]) (st := []) dX12_toThrow_1 kX12_isSide lX12_196 (by decide) rfl rfl (Nat.le_of_ble_eq_true rfl) ⟨Nat.le_of_ble_eq_true rfl, Nat.le_of_ble_eq_true rfl⟩ (q_y (w_isSide) ((inZ_k (by omega)).mpr (by omega))) ?_
        rintro _ _ _ _ ⟨rfl, rfl, rfl, rfl⟩
        refine V_if_eq (tgt := 16) dX12_toThrow_4 rfl (fun h => absurd h (by decide)) (fun _ => ?_)
        refine V_iload_n dX12_toThrow_7 rfl ?_
        refine V_iconst (v := nI 0) dX12_toThrow_8 rfl ?_
        refine V_iconst (v := nI 1) dX12_toThrow_9 rfl ?_
        refine V_callS (As := [.int (nI 0), .int (nI 0), .int (nI 1)]) (st := []) dX12_toThrow_10 kX12_in lX12_173 (by decide) rfl rfl (Nat.le_of_ble_eq_true rfl) ⟨Nat.le_of_ble_eq_true rfl, Nat.le_of_ble_eq_true rfl⟩ (w_inY (a := 0) (b := 1) (by decide) (by decide) ((inZ_k (by omega)).mpr (by omega))) ?_
        rintro _ _ _ _ ⟨rfl, rfl, rfl, rfl⟩
        refine V_if_ne (tgt := 20) dX12_toThrow_13 rfl (fun _ => ?_) (fun h => absurd h (by decide))
        refine V_iconst (v := (-1)) dX12_toThrow_20 rfl ?_
        refine V_istore_n (ls' := [(3, .int (-1)), (0, .ref 62), (1, .int (nI 1)), (2, .int (nI 0))]) dX12_toThrow_21 (by decide) rfl ?_
        refine V_lconst (v := 0) dX12_toThrow_22 rfl ?_
        refine V_lstore (ls' := [(4, .long 0), (3, .int (-1)), (0, .ref 62), (1, .int (nI 1)), (2, .int (nI 0))]) dX12_toThrow_23 (by decide) rfl ?_
        refine V_bipush (v := nI 6) dX12_toThrow_25 rfl ?_
        refine V_istore (ls' := [(6, .int (nI 6)), (4, .long 0), (3, .int (-1)), (0, .ref 62), (1, .int (nI 1)), (2, .int (nI 0))]) dX12_toThrow_27 (by decide) rfl ?_
        refine V_iload dX12_toThrow_29 rfl ?_
        refine V_bipush (v := nI 10) dX12_toThrow_31 rfl ?_
        refine V_icmp_gt (tgt := 105) dX12_toThrow_33 rfl (fun h => absurd h (by decide)) (fun _ => ?_)
        refine V_aload_n dX12_toThrow_36 rfl ?_
        refine V_iload dX12_toThrow_37 rfl ?_
        refine V_putW dX12_toThrow_39 fX12_143 ⟨Nat.le_of_ble_eq_true rfl, Nat.le_of_ble_eq_true rfl⟩ rfl rfl rfl ⟨rfl, rfl⟩ ?_
        refine V_aload_n dX12_toThrow_42 rfl ?_
        refine V_iconst (v := nI 0) dX12_toThrow_43 rfl ?_
        refine V_iconst (v := (-1)) dX12_toThrow_44 rfl ?_
        refine V_iconst (v := (-1)) dX12_toThrow_45 rfl ?_
        refine V_callV (As := [.int (nI 0), .int (-1), .int (-1)]) (st := []) (a := 62) dX12_toThrow_46 kX12_solves lX12_385 (by decide) rfl rfl (Nat.le_of_ble_eq_true rfl) ⟨Nat.le_of_ble_eq_true rfl, Nat.le_of_ble_eq_true rfl⟩ ⟨Nat.le_of_ble_eq_true rfl, Nat.le_of_ble_eq_true rfl⟩ rfl ⟨rfl, by decide⟩ (w_solF hR (f := 6) (by omega) (by omega) ruX_m ruX_m) ?_
        rintro r sh' I2 J2 ⟨rfl, rfl, hq1, hR2, hX2, hq5⟩
        have hX3 := hX2
        refine V_aload_n dX12_toThrow_49 rfl ?_
        refine V_getR (b := 83) dX12_toThrow_50 fX12_72 ⟨Nat.le_of_ble_eq_true rfl, Nat.le_of_ble_eq_true rfl⟩ rfl rfl rfl ?_
        refine V_aload_n dX12_toThrow_53 rfl ?_
        refine V_iload_n dX12_toThrow_54 rfl ?_
        refine V_callV (As := [.int (nI 1)]) (st := [.ref 83]) (a := 62) dX12_toThrow_55 kX12_begin lX12_398 (by decide) rfl rfl (Nat.le_of_ble_eq_true rfl) ⟨Nat.le_of_ble_eq_true rfl, Nat.le_of_ble_eq_true rfl⟩ ⟨Nat.le_of_ble_eq_true rfl, Nat.le_of_ble_eq_true rfl⟩ rfl ⟨rfl, by decide⟩ (w_begin hR2.1.1 (f := 1) (by omega)) ?_
        rintro _ _ _ _ ⟨rfl, rfl, rfl, rfl⟩
        refine V_laldN (k := stN 55 55 (1 - 1)) dX12_toThrow_58 ⟨Nat.le_of_ble_eq_true rfl, Nat.le_of_ble_eq_true rfl⟩ rfl (by decide) (stN_lt (by decide) (by decide) (by decide)) ?_
        refine V_eqL (y := vB (lfM a M) 6 1) ((hq1 55 55 _ (by decide) (by decide) (by omega)).1.trans vB_e) ?_
        refine V_lstore (ls' := [(7, .long (vB (lfM a M) 6 1)), (6, .int (nI 6)), (4, .long 0), (3, .int (-1)), (0, .ref 62), (1, .int (nI 1)), (2, .int (nI 0))]) dX12_toThrow_59 (by decide) rfl ?_
        refine V_iload_n dX12_toThrow_61 rfl ?_
        refine V_iconst (v := (-1)) dX12_toThrow_62 rfl ?_
        refine V_icmp_eq (tgt := 92) dX12_toThrow_63 rfl (fun _ => ?_) (fun h => absurd h (by decide))
        refine V_iload dX12_toThrow_92 rfl ?_
        refine V_istore_n (ls' := [(3, .int (nI 6)), (7, .long (vB (lfM a M) 6 1)), (6, .int (nI 6)), (4, .long 0), (0, .ref 62), (1, .int (nI 1)), (2, .int (nI 0))]) dX12_toThrow_94 (by decide) rfl ?_
        refine V_lload dX12_toThrow_95 rfl ?_
        refine V_lstore (ls' := [(4, .long (vB (lfM a M) 6 1)), (3, .int (nI 6)), (7, .long (vB (lfM a M) 6 1)), (6, .int (nI 6)), (0, .ref 62), (1, .int (nI 1)), (2, .int (nI 0))]) dX12_toThrow_97 (by decide) rfl ?_
        refine V_iinc (v := nI 7) (ls' := [(6, .int (nI 7)), (4, .long (vB (lfM a M) 6 1)), (3, .int (nI 6)), (7, .long (vB (lfM a M) 6 1)), (0, .ref 62), (1, .int (nI 1)), (2, .int (nI 0))]) dX12_toThrow_99 rfl (by decide) (by decide) rfl ?_
        refine V_goto (tgt := 29) dX12_toThrow_102 rfl ?_
        refine V_sub2 (ls' := [(0, .ref 62), (1, .int (nI 1)), (2, .int (nI 0)), (3, .int (nI 6)), (4, .long (vB (lfM a M) 6 1)), (6, .int (nI 7))]) (List.forall_mem_cons.mpr ⟨rfl, List.forall_mem_cons.mpr ⟨rfl, List.forall_mem_cons.mpr ⟨rfl, List.forall_mem_cons.mpr ⟨rfl, List.forall_mem_cons.mpr ⟨rfl, List.forall_mem_cons.mpr ⟨rfl, fun _ h => absurd h List.not_mem_nil⟩⟩⟩⟩⟩⟩) ?_
        exact lp_tt (s := 1) (w := 0) (by omega) (by omega) 4 7 6 _ I2 J2 (by omega) (by omega) (by omega) hR2 hX3 (fun I3 J3 g1 g2 g3 => ⟨rfl, rfl, g1, g2, g3⟩)
      · skip
        refine V_iload_n dX12_toThrow_0 rfl ?_
        refine V_callS (As := [.int (nI 1)]) (st := []) dX12_toThrow_1 kX12_isSide lX12_196 (by decide) rfl rfl (Nat.le_of_ble_eq_true rfl) ⟨Nat.le_of_ble_eq_true rfl, Nat.le_of_ble_eq_true rfl⟩ (q_y (w_isSide) ((inZ_k (by omega)).mpr (by omega))) ?_
        rintro _ _ _ _ ⟨rfl, rfl, rfl, rfl⟩
        refine V_if_eq (tgt := 16) dX12_toThrow_4 rfl (fun h => absurd h (by decide)) (fun _ => ?_)
        refine V_iload_n dX12_toThrow_7 rfl ?_
        refine V_iconst (v := nI 0) dX12_toThrow_8 rfl ?_
        refine V_iconst (v := nI 1) dX12_toThrow_9 rfl ?_
        refine V_callS (As := [.int (nI 1), .int (nI 0), .int (nI 1)]) (st := []) dX12_toThrow_10 kX12_in lX12_173 (by decide) rfl rfl (Nat.le_of_ble_eq_true rfl) ⟨Nat.le_of_ble_eq_true rfl, Nat.le_of_ble_eq_true rfl⟩ (w_inY (a := 0) (b := 1) (by decide) (by decide) ((inZ_k (by omega)).mpr (by omega))) ?_
        rintro _ _ _ _ ⟨rfl, rfl, rfl, rfl⟩
        refine V_if_ne (tgt := 20) dX12_toThrow_13 rfl (fun _ => ?_) (fun h => absurd h (by decide))
        refine V_iconst (v := (-1)) dX12_toThrow_20 rfl ?_
        refine V_istore_n (ls' := [(3, .int (-1)), (0, .ref 62), (1, .int (nI 1)), (2, .int (nI 1))]) dX12_toThrow_21 (by decide) rfl ?_
        refine V_lconst (v := 0) dX12_toThrow_22 rfl ?_
        refine V_lstore (ls' := [(4, .long 0), (3, .int (-1)), (0, .ref 62), (1, .int (nI 1)), (2, .int (nI 1))]) dX12_toThrow_23 (by decide) rfl ?_
        refine V_bipush (v := nI 6) dX12_toThrow_25 rfl ?_
        refine V_istore (ls' := [(6, .int (nI 6)), (4, .long 0), (3, .int (-1)), (0, .ref 62), (1, .int (nI 1)), (2, .int (nI 1))]) dX12_toThrow_27 (by decide) rfl ?_
        refine V_iload dX12_toThrow_29 rfl ?_
        refine V_bipush (v := nI 10) dX12_toThrow_31 rfl ?_
        refine V_icmp_gt (tgt := 105) dX12_toThrow_33 rfl (fun h => absurd h (by decide)) (fun _ => ?_)
        refine V_aload_n dX12_toThrow_36 rfl ?_
        refine V_iload dX12_toThrow_37 rfl ?_
        refine V_putW dX12_toThrow_39 fX12_143 ⟨Nat.le_of_ble_eq_true rfl, Nat.le_of_ble_eq_true rfl⟩ rfl rfl rfl ⟨rfl, rfl⟩ ?_
        refine V_aload_n dX12_toThrow_42 rfl ?_
        refine V_iconst (v := nI 0) dX12_toThrow_43 rfl ?_
        refine V_iconst (v := (-1)) dX12_toThrow_44 rfl ?_
        refine V_iconst (v := (-1)) dX12_toThrow_45 rfl ?_
        refine V_callV (As := [.int (nI 0), .int (-1), .int (-1)]) (st := []) (a := 62) dX12_toThrow_46 kX12_solves lX12_385 (by decide) rfl rfl (Nat.le_of_ble_eq_true rfl) ⟨Nat.le_of_ble_eq_true rfl, Nat.le_of_ble_eq_true rfl⟩ ⟨Nat.le_of_ble_eq_true rfl, Nat.le_of_ble_eq_true rfl⟩ rfl ⟨rfl, by decide⟩ (w_solF hR (f := 6) (by omega) (by omega) ruX_m ruX_m) ?_
        rintro r sh' I2 J2 ⟨rfl, rfl, hq1, hR2, hX2, hq5⟩
        have hX3 := hX2
        refine V_aload_n dX12_toThrow_49 rfl ?_
        refine V_getR (b := 83) dX12_toThrow_50 fX12_72 ⟨Nat.le_of_ble_eq_true rfl, Nat.le_of_ble_eq_true rfl⟩ rfl rfl rfl ?_
        refine V_aload_n dX12_toThrow_53 rfl ?_
        refine V_iload_n dX12_toThrow_54 rfl ?_
        refine V_callV (As := [.int (nI 1)]) (st := [.ref 83]) (a := 62) dX12_toThrow_55 kX12_begin lX12_398 (by decide) rfl rfl (Nat.le_of_ble_eq_true rfl) ⟨Nat.le_of_ble_eq_true rfl, Nat.le_of_ble_eq_true rfl⟩ ⟨Nat.le_of_ble_eq_true rfl, Nat.le_of_ble_eq_true rfl⟩ rfl ⟨rfl, by decide⟩ (w_begin hR2.1.1 (f := 1) (by omega)) ?_
        rintro _ _ _ _ ⟨rfl, rfl, rfl, rfl⟩
        refine V_laldN (k := stN 55 55 (1 - 1)) dX12_toThrow_58 ⟨Nat.le_of_ble_eq_true rfl, Nat.le_of_ble_eq_true rfl⟩ rfl (by decide) (stN_lt (by decide) (by decide) (by decide)) ?_
        refine V_eqL (y := vB (lfM a M) 6 1) ((hq1 55 55 _ (by decide) (by decide) (by omega)).1.trans vB_e) ?_
        refine V_lstore (ls' := [(7, .long (vB (lfM a M) 6 1)), (6, .int (nI 6)), (4, .long 0), (3, .int (-1)), (0, .ref 62), (1, .int (nI 1)), (2, .int (nI 1))]) dX12_toThrow_59 (by decide) rfl ?_
        refine V_iload_n dX12_toThrow_61 rfl ?_
        refine V_iconst (v := (-1)) dX12_toThrow_62 rfl ?_
        refine V_icmp_eq (tgt := 92) dX12_toThrow_63 rfl (fun _ => ?_) (fun h => absurd h (by decide))
        refine V_iload dX12_toThrow_92 rfl ?_
        refine V_istore_n (ls' := [(3, .int (nI 6)), (7, .long (vB (lfM a M) 6 1)), (6, .int (nI 6)), (4, .long 0), (0, .ref 62), (1, .int (nI 1)), (2, .int (nI 1))]) dX12_toThrow_94 (by decide) rfl ?_
        refine V_lload dX12_toThrow_95 rfl ?_
        refine V_lstore (ls' := [(4, .long (vB (lfM a M) 6 1)), (3, .int (nI 6)), (7, .long (vB (lfM a M) 6 1)), (6, .int (nI 6)), (0, .ref 62), (1, .int (nI 1)), (2, .int (nI 1))]) dX12_toThrow_97 (by decide) rfl ?_
        refine V_iinc (v := nI 7) (ls' := [(6, .int (nI 7)), (4, .long (vB (lfM a M) 6 1)), (3, .int (nI 6)), (7, .long (vB (lfM a M) 6 1)), (0, .ref 62), (1, .int (nI 1)), (2, .int (nI 1))]) dX12_toThrow_99 rfl (by decide) (by decide) rfl ?_
        refine V_goto (tgt := 29) dX12_toThrow_102 rfl ?_
        refine V_sub2 (ls' := [(0, .ref 62), (1, .int (nI 1)), (2, .int (nI 1)), (3, .int (nI 6)), (4, .long (vB (lfM a M) 6 1)), (6, .int (nI 7))]) (List.forall_mem_cons.mpr ⟨rfl, List.forall_mem_cons.mpr ⟨rfl, List.forall_mem_cons.mpr ⟨rfl, List.forall_mem_cons.mpr ⟨rfl, List.forall_mem_cons.mpr ⟨rfl, List.forall_mem_cons.mpr ⟨rfl, fun _ h => absurd h List.not_mem_nil⟩⟩⟩⟩⟩⟩) ?_
        exact lp_tt (s := 1) (w := 1) (by omega) (by omega) 4 7 6 _ I2 J2 (by omega) (by omega) (by omega) hR2 hX3 (fun I3 J3 g1 g2 g3 => ⟨rfl, rfl, g1, g2, g3⟩)
    · skip
      refine V_iload_n dX12_toThrow_0 rfl ?_
      refine V_callS (As := [.int s]) (st := []) dX12_toThrow_1 kX12_isSide lX12_196 (by decide) rfl rfl (Nat.le_of_ble_eq_true rfl) ⟨Nat.le_of_ble_eq_true rfl, Nat.le_of_ble_eq_true rfl⟩ (q_y (w_isSide) hs) ?_
      rintro _ _ _ _ ⟨rfl, rfl, rfl, rfl⟩
      refine V_if_eq (tgt := 16) dX12_toThrow_4 rfl (fun h => absurd h (by decide)) (fun _ => ?_)
      refine V_iload_n dX12_toThrow_7 rfl ?_
      refine V_iconst (v := nI 0) dX12_toThrow_8 rfl ?_
      refine V_iconst (v := nI 1) dX12_toThrow_9 rfl ?_
      refine V_callS (As := [.int w, .int (nI 0), .int (nI 1)]) (st := []) dX12_toThrow_10 kX12_in lX12_173 (by decide) rfl rfl (Nat.le_of_ble_eq_true rfl) ⟨Nat.le_of_ble_eq_true rfl, Nat.le_of_ble_eq_true rfl⟩ (w_inN (a := 0) (b := 1) (by decide) (by decide) hw) ?_
      rintro _ _ _ _ ⟨rfl, rfl, rfl, rfl⟩
      refine V_if_ne (tgt := 20) dX12_toThrow_13 rfl (fun h => absurd h (by decide)) (fun _ => ?_)
      refine V_ldc2 dX12_toThrow_16 qX12_388 ?_
      exact V_lret ⟨rfl, dX12_toThrow_19⟩ ⟨Nat.le_of_ble_eq_true rfl, Nat.le_of_ble_eq_true rfl⟩ ⟨rfl, congrArg (fun z => some (Value.long z)) (if_neg (fun h => hw h.2)).symm, hR, offX_r, hf5⟩
  · skip
    refine V_iload_n dX12_toThrow_0 rfl ?_
    refine V_callS (As := [.int s]) (st := []) dX12_toThrow_1 kX12_isSide lX12_196 (by decide) rfl rfl (Nat.le_of_ble_eq_true rfl) ⟨Nat.le_of_ble_eq_true rfl, Nat.le_of_ble_eq_true rfl⟩ (q_n (w_isSide) hs) ?_
    rintro _ _ _ _ ⟨rfl, rfl, rfl, rfl⟩
    refine V_if_eq (tgt := 16) dX12_toThrow_4 rfl (fun _ => ?_) (fun h => absurd h (by decide))
    refine V_ldc2 dX12_toThrow_16 qX12_388 ?_
    exact V_lret ⟨rfl, dX12_toThrow_19⟩ ⟨Nat.le_of_ble_eq_true rfl, Nat.le_of_ble_eq_true rfl⟩ ⟨rfl, congrArg (fun z => some (Value.long z)) (if_neg (fun h => hs h.1)).symm, hR, offX_r, hf5⟩

theorem ply_ru {cc : Nat → Nat} {x : Int32} (h : ply cc x) : ruX x := h.elim Or.inl (fun h => by
  obtain ⟨k, hk, h1, h2⟩ := inZ_n h.1 (by decide)
  exact Or.inr ⟨k, by omega, hk⟩)
set_option maxRecDepth 100000 in
set_option maxHeartbeats 4000000 in
theorem w_by {G : zG} {I : zI} {J : zJ} {a : List (Nat × List (Nat × Nat) × List (Nat × Nat))} {M : Nat → ((Nat → Int32) → Option Int32) × ((Nat → Int32) → Option Int32)} {ar : Nat → List (Nat × List (Nat × Nat) × List (Nat × Nat))} {Mr : Nat → Nat → ((Nat → Int32) → Option Int32) × ((Nat → Int32) → Option Int32)} {far : Nat} (hR : soR I J a M ar Mr far) (h6 : 6 ≤ far) (h10 : far ≤ 10) (hf5 : I 62 5 = nI far) {c0 : Nat} {cc : Nat → Nat} (hC : cM I c0 cc) {j k code other last w : Int32} : zK G mX12_by 10 [.ref 62, .int j, .int k, .int code, .int other, .int last, .int w] zsh I J (zP (fun r I' J' => r = some (.long (if ply cc j ∧ ply cc k then onS (stO code other last) (-2000000000000000000) (fun p q l => on01 w (-2000000000000000000) (vX 1 j k (rlM ar Mr) (lfM a M) far p q l).1 (thrX 1 j k (rlM ar Mr) (lfM a M) far p q l).toInt64) else -2000000000000000000)) ∧ soR I' J' a M ar Mr far ∧ offX I J I' J' ∧ I' 62 5 = nI far)) := by
  refine zK_of kX12_by.2.2.2.2.1 (Nat.le_of_ble_eq_true rfl) ?_
  show V G mX12_by 10 _ 0 [(0, .ref 62), (1, .int j), (2, .int k), (3, .int code), (4, .int other), (5, .int last), (6, .int w)] [] (0, 0) zsh I J
  by_cases hj : ply cc j
  · by_cases hk : ply cc k
    · rcases hst : stO code other last with _ | ⟨p, q, l⟩
      · skip
        refine V_aload_n dX12_by_0 rfl ?_
        refine V_iload_n dX12_by_1 rfl ?_
        refine V_iload dX12_by_2 rfl ?_
        refine V_iload dX12_by_4 rfl ?_
        refine V_callV (As := [.int code, .int other, .int last]) (st := []) (a := 62) dX12_by_6 kX12_told lX12_203 (by decide) rfl rfl (Nat.le_of_ble_eq_true rfl) ⟨Nat.le_of_ble_eq_true rfl, Nat.le_of_ble_eq_true rfl⟩ ⟨Nat.le_of_ble_eq_true rfl, Nat.le_of_ble_eq_true rfl⟩ rfl ⟨rfl, by decide⟩ (w_toldN hR.1.1 hst) ?_
        rintro _ _ _ _ ⟨rfl, rfl, rfl, rfl⟩
        refine V_istore (ls' := [(7, .int (-1)), (0, .ref 62), (1, .int j), (2, .int k), (3, .int code), (4, .int other), (5, .int last), (6, .int w)]) dX12_by_9 (by decide) rfl ?_
        refine V_aload_n dX12_by_11 rfl ?_
        refine V_iload_n dX12_by_12 rfl ?_
        refine V_callV (As := [.int j]) (st := []) (a := 62) dX12_by_13 kX12_isKnown lX12_404 (by decide) rfl rfl (Nat.le_of_ble_eq_true rfl) ⟨Nat.le_of_ble_eq_true rfl, Nat.le_of_ble_eq_true rfl⟩ ⟨Nat.le_of_ble_eq_true rfl, Nat.le_of_ble_eq_true rfl⟩ rfl ⟨rfl, by decide⟩ (q_y (w_isKnown hC) hj) ?_
        rintro _ _ _ _ ⟨rfl, rfl, rfl, rfl⟩
        refine V_if_eq (tgt := 43) dX12_by_16 rfl (fun h => absurd h (by decide)) (fun _ => ?_)
        refine V_aload_n dX12_by_19 rfl ?_
        refine V_iload_n dX12_by_20 rfl ?_
        refine V_callV (As := [.int k]) (st := []) (a := 62) dX12_by_21 kX12_isKnown lX12_404 (by decide) rfl rfl (Nat.le_of_ble_eq_true rfl) ⟨Nat.le_of_ble_eq_true rfl, Nat.le_of_ble_eq_true rfl⟩ ⟨Nat.le_of_ble_eq_true rfl, Nat.le_of_ble_eq_true rfl⟩ rfl ⟨rfl, by decide⟩ (q_y (w_isKnown hC) hk) ?_
        rintro _ _ _ _ ⟨rfl, rfl, rfl, rfl⟩
        refine V_if_eq (tgt := 43) dX12_by_24 rfl (fun h => absurd h (by decide)) (fun _ => ?_)
        refine V_iload dX12_by_27 rfl ?_
        refine V_iconst (v := (-1)) dX12_by_29 rfl ?_
        refine V_icmp_eq (tgt := 43) dX12_by_30 rfl (fun _ => ?_) (fun h => absurd h (by decide))
        refine V_ldc2 dX12_by_43 qX12_388 ?_
        exact V_lret ⟨rfl, dX12_by_46⟩ ⟨Nat.le_of_ble_eq_true rfl, Nat.le_of_ble_eq_true rfl⟩ ⟨rfl, congrArg (fun z => some (Value.long z)) (if_pos ⟨hj, hk⟩).symm, hR, offX_r, hf5⟩
      · have hlq := stO_s hst
        have hl1 : l ≤ 1 := hlq.2.2.2.1
        have hp56 : p < 56 := hlq.2.2.2.2.1
        have hq56 : q < 56 := hlq.2.2.2.2.2
        have hsl := stN_lt hp56 hq56 hl1
        by_cases hw : inZ w 0 1
        · rcases inZ01 hw with rfl | rfl
          · skip
            refine V_aload_n dX12_by_0 rfl ?_
            refine V_iload_n dX12_by_1 rfl ?_
            refine V_iload dX12_by_2 rfl ?_
            refine V_iload dX12_by_4 rfl ?_
            refine V_callV (As := [.int code, .int other, .int last]) (st := []) (a := 62) dX12_by_6 kX12_told lX12_203 (by decide) rfl rfl (Nat.le_of_ble_eq_true rfl) ⟨Nat.le_of_ble_eq_true rfl, Nat.le_of_ble_eq_true rfl⟩ ⟨Nat.le_of_ble_eq_true rfl, Nat.le_of_ble_eq_true rfl⟩ rfl ⟨rfl, by decide⟩ (w_toldS hR.1.1 hst) ?_
            rintro _ _ _ _ ⟨rfl, rfl, rfl, rfl⟩
            refine V_istore (ls' := [(7, .int (nI (stN p q l))), (0, .ref 62), (1, .int j), (2, .int k), (3, .int code), (4, .int other), (5, .int last), (6, .int (nI 0))]) dX12_by_9 (by decide) rfl ?_
            refine V_aload_n dX12_by_11 rfl ?_
            refine V_iload_n dX12_by_12 rfl ?_
            refine V_callV (As := [.int j]) (st := []) (a := 62) dX12_by_13 kX12_isKnown lX12_404 (by decide) rfl rfl (Nat.le_of_ble_eq_true rfl) ⟨Nat.le_of_ble_eq_true rfl, Nat.le_of_ble_eq_true rfl⟩ ⟨Nat.le_of_ble_eq_true rfl, Nat.le_of_ble_eq_true rfl⟩ rfl ⟨rfl, by decide⟩ (q_y (w_isKnown hC) hj) ?_
            rintro _ _ _ _ ⟨rfl, rfl, rfl, rfl⟩
            refine V_if_eq (tgt := 43) dX12_by_16 rfl (fun h => absurd h (by decide)) (fun _ => ?_)
            refine V_aload_n dX12_by_19 rfl ?_
            refine V_iload_n dX12_by_20 rfl ?_
            refine V_callV (As := [.int k]) (st := []) (a := 62) dX12_by_21 kX12_isKnown lX12_404 (by decide) rfl rfl (Nat.le_of_ble_eq_true rfl) ⟨Nat.le_of_ble_eq_true rfl, Nat.le_of_ble_eq_true rfl⟩ ⟨Nat.le_of_ble_eq_true rfl, Nat.le_of_ble_eq_true rfl⟩ rfl ⟨rfl, by decide⟩ (q_y (w_isKnown hC) hk) ?_
            rintro _ _ _ _ ⟨rfl, rfl, rfl, rfl⟩
            refine V_if_eq (tgt := 43) dX12_by_24 rfl (fun h => absurd h (by decide)) (fun _ => ?_)
            refine V_iload dX12_by_27 rfl ?_
            refine V_iconst (v := (-1)) dX12_by_29 rfl ?_
            refine V_icmp_eq (tgt := 43) dX12_by_30 rfl (fun h => absurd h (nI_ne_neg (by omega) (by decide))) (fun _ => ?_)
            refine V_iload dX12_by_33 rfl ?_
            refine V_iconst (v := nI 0) dX12_by_35 rfl ?_
            refine V_iconst (v := nI 1) dX12_by_36 rfl ?_
            refine V_callS (As := [.int (nI 0), .int (nI 0), .int (nI 1)]) (st := []) dX12_by_37 kX12_in lX12_173 (by decide) rfl rfl (Nat.le_of_ble_eq_true rfl) ⟨Nat.le_of_ble_eq_true rfl, Nat.le_of_ble_eq_true rfl⟩ (w_inY (a := 0) (b := 1) (by decide) (by decide) ((inZ_k (by omega)).mpr (by omega))) ?_
            rintro _ _ _ _ ⟨rfl, rfl, rfl, rfl⟩
            refine V_if_ne (tgt := 47) dX12_by_40 rfl (fun _ => ?_) (fun h => absurd h (by decide))
            refine V_aload_n dX12_by_47 rfl ?_
            refine V_aload_n dX12_by_48 rfl ?_
            refine V_getI dX12_by_49 fX12_139 ⟨Nat.le_of_ble_eq_true rfl, Nat.le_of_ble_eq_true rfl⟩ rfl rfl ?_
            refine V_eqI (y := nI far) hR.2.1 ?_
            refine V_putW dX12_by_52 fX12_143 ⟨Nat.le_of_ble_eq_true rfl, Nat.le_of_ble_eq_true rfl⟩ rfl rfl rfl ⟨rfl, rfl⟩ ?_
            refine V_aload_n dX12_by_55 rfl ?_
            refine V_iconst (v := nI 0) dX12_by_56 rfl ?_
            refine V_iload_n dX12_by_57 rfl ?_
            refine V_iload_n dX12_by_58 rfl ?_
            refine V_callV (As := [.int (nI 0), .int j, .int k]) (st := []) (a := 62) dX12_by_59 kX12_solves lX12_385 (by decide) rfl rfl (Nat.le_of_ble_eq_true rfl) ⟨Nat.le_of_ble_eq_true rfl, Nat.le_of_ble_eq_true rfl⟩ ⟨Nat.le_of_ble_eq_true rfl, Nat.le_of_ble_eq_true rfl⟩ rfl ⟨rfl, by decide⟩ (w_solF hR h6 h10 (ply_ru hj) (ply_ru hk)) ?_
            rintro r sh' I1 J1 ⟨rfl, rfl, hq1, hR1, hX, hq5⟩
            refine V_iload dX12_by_62 rfl ?_
            refine V_if_ne (tgt := 77) dX12_by_64 rfl (fun h => absurd h (by decide)) (fun _ => ?_)
            refine V_aload_n dX12_by_67 rfl ?_
            refine V_getR (b := 83) dX12_by_68 fX12_72 ⟨Nat.le_of_ble_eq_true rfl, Nat.le_of_ble_eq_true rfl⟩ rfl rfl rfl ?_
            refine V_iload dX12_by_71 rfl ?_
            refine V_laldN (k := stN p q l) dX12_by_73 ⟨Nat.le_of_ble_eq_true rfl, Nat.le_of_ble_eq_true rfl⟩ rfl (by decide) (by omega) ?_
            refine V_eqL (y := (vX 1 j k (rlM ar Mr) (lfM a M) far p q l).1) (hq1 p q l hp56 hq56 hl1).1 ?_
            refine V_goto (tgt := 85) dX12_by_74 rfl ?_
            exact V_lret ⟨rfl, dX12_by_85⟩ ⟨Nat.le_of_ble_eq_true rfl, Nat.le_of_ble_eq_true rfl⟩ ⟨rfl, congrArg (fun z => some (Value.long z)) (if_pos ⟨hj, hk⟩).symm, hR1, hX, hq5⟩
          · skip
            refine V_aload_n dX12_by_0 rfl ?_
            refine V_iload_n dX12_by_1 rfl ?_
            refine V_iload dX12_by_2 rfl ?_
            refine V_iload dX12_by_4 rfl ?_
            refine V_callV (As := [.int code, .int other, .int last]) (st := []) (a := 62) dX12_by_6 kX12_told lX12_203 (by decide) rfl rfl (Nat.le_of_ble_eq_true rfl) ⟨Nat.le_of_ble_eq_true rfl, Nat.le_of_ble_eq_true rfl⟩ ⟨Nat.le_of_ble_eq_true rfl, Nat.le_of_ble_eq_true rfl⟩ rfl ⟨rfl, by decide⟩ (w_toldS hR.1.1 hst) ?_
            rintro _ _ _ _ ⟨rfl, rfl, rfl, rfl⟩
            refine V_istore (ls' := [(7, .int (nI (stN p q l))), (0, .ref 62), (1, .int j), (2, .int k), (3, .int code), (4, .int other), (5, .int last), (6, .int (nI 1))]) dX12_by_9 (by decide) rfl ?_
            refine V_aload_n dX12_by_11 rfl ?_
            refine V_iload_n dX12_by_12 rfl ?_
            refine V_callV (As := [.int j]) (st := []) (a := 62) dX12_by_13 kX12_isKnown lX12_404 (by decide) rfl rfl (Nat.le_of_ble_eq_true rfl) ⟨Nat.le_of_ble_eq_true rfl, Nat.le_of_ble_eq_true rfl⟩ ⟨Nat.le_of_ble_eq_true rfl, Nat.le_of_ble_eq_true rfl⟩ rfl ⟨rfl, by decide⟩ (q_y (w_isKnown hC) hj) ?_
            rintro _ _ _ _ ⟨rfl, rfl, rfl, rfl⟩
            refine V_if_eq (tgt := 43) dX12_by_16 rfl (fun h => absurd h (by decide)) (fun _ => ?_)
            refine V_aload_n dX12_by_19 rfl ?_
            refine V_iload_n dX12_by_20 rfl ?_
            refine V_callV (As := [.int k]) (st := []) (a := 62) dX12_by_21 kX12_isKnown lX12_404 (by decide) rfl rfl (Nat.le_of_ble_eq_true rfl) ⟨Nat.le_of_ble_eq_true rfl, Nat.le_of_ble_eq_true rfl⟩ ⟨Nat.le_of_ble_eq_true rfl, Nat.le_of_ble_eq_true rfl⟩ rfl ⟨rfl, by decide⟩ (q_y (w_isKnown hC) hk) ?_
            rintro _ _ _ _ ⟨rfl, rfl, rfl, rfl⟩
            refine V_if_eq (tgt := 43) dX12_by_24 rfl (fun h => absurd h (by decide)) (fun _ => ?_)
            refine V_iload dX12_by_27 rfl ?_
            refine V_iconst (v := (-1)) dX12_by_29 rfl ?_
            refine V_icmp_eq (tgt := 43) dX12_by_30 rfl (fun h => absurd h (nI_ne_neg (by omega) (by decide))) (fun _ => ?_)
            refine V_iload dX12_by_33 rfl ?_
            refine V_iconst (v := nI 0) dX12_by_35 rfl ?_
            refine V_iconst (v := nI 1) dX12_by_36 rfl ?_
            refine V_callS (As := [.int (nI 1), .int (nI 0), .int (nI 1)]) (st := []) dX12_by_37 kX12_in lX12_173 (by decide) rfl rfl (Nat.le_of_ble_eq_true rfl) ⟨Nat.le_of_ble_eq_true rfl, Nat.le_of_ble_eq_true rfl⟩ (w_inY (a := 0) (b := 1) (by decide) (by decide) ((inZ_k (by omega)).mpr (by omega))) ?_
            rintro _ _ _ _ ⟨rfl, rfl, rfl, rfl⟩
            refine V_if_ne (tgt := 47) dX12_by_40 rfl (fun _ => ?_) (fun h => absurd h (by decide))
            refine V_aload_n dX12_by_47 rfl ?_
            refine V_aload_n dX12_by_48 rfl ?_
            refine V_getI dX12_by_49 fX12_139 ⟨Nat.le_of_ble_eq_true rfl, Nat.le_of_ble_eq_true rfl⟩ rfl rfl ?_
            refine V_eqI (y := nI far) hR.2.1 ?_
            refine V_putW dX12_by_52 fX12_143 ⟨Nat.le_of_ble_eq_true rfl, Nat.le_of_ble_eq_true rfl⟩ rfl rfl rfl ⟨rfl, rfl⟩ ?_
            refine V_aload_n dX12_by_55 rfl ?_
            refine V_iconst (v := nI 0) dX12_by_56 rfl ?_
            refine V_iload_n dX12_by_57 rfl ?_
            refine V_iload_n dX12_by_58 rfl ?_
            refine V_callV (As := [.int (nI 0), .int j, .int k]) (st := []) (a := 62) dX12_by_59 kX12_solves lX12_385 (by decide) rfl rfl (Nat.le_of_ble_eq_true rfl) ⟨Nat.le_of_ble_eq_true rfl, Nat.le_of_ble_eq_true rfl⟩ ⟨Nat.le_of_ble_eq_true rfl, Nat.le_of_ble_eq_true rfl⟩ rfl ⟨rfl, by decide⟩ (w_solF hR h6 h10 (ply_ru hj) (ply_ru hk)) ?_
            rintro r sh' I1 J1 ⟨rfl, rfl, hq1, hR1, hX, hq5⟩
            refine V_iload dX12_by_62 rfl ?_
            refine V_if_ne (tgt := 77) dX12_by_64 rfl (fun _ => ?_) (fun h => absurd h (by decide))
            refine V_aload_n dX12_by_77 rfl ?_
            refine V_getR (b := 85) dX12_by_78 fX12_79 ⟨Nat.le_of_ble_eq_true rfl, Nat.le_of_ble_eq_true rfl⟩ rfl rfl rfl ?_
            refine V_iload dX12_by_81 rfl ?_
            refine V_baldN (k := stN p q l) dX12_by_83 ⟨Nat.le_of_ble_eq_true rfl, Nat.le_of_ble_eq_true rfl⟩ rfl (by decide) (by omega) ?_
            refine V_eqI (y := thrX 1 j k (rlM ar Mr) (lfM a M) far p q l) (hq1 p q l hp56 hq56 hl1).2 ?_
            refine V_i2l dX12_by_84 ?_
            exact V_lret ⟨rfl, dX12_by_85⟩ ⟨Nat.le_of_ble_eq_true rfl, Nat.le_of_ble_eq_true rfl⟩ ⟨rfl, congrArg (fun z => some (Value.long z)) (if_pos ⟨hj, hk⟩).symm, hR1, hX, hq5⟩
        · skip
          refine V_aload_n dX12_by_0 rfl ?_
          refine V_iload_n dX12_by_1 rfl ?_
          refine V_iload dX12_by_2 rfl ?_
          refine V_iload dX12_by_4 rfl ?_
          refine V_callV (As := [.int code, .int other, .int last]) (st := []) (a := 62) dX12_by_6 kX12_told lX12_203 (by decide) rfl rfl (Nat.le_of_ble_eq_true rfl) ⟨Nat.le_of_ble_eq_true rfl, Nat.le_of_ble_eq_true rfl⟩ ⟨Nat.le_of_ble_eq_true rfl, Nat.le_of_ble_eq_true rfl⟩ rfl ⟨rfl, by decide⟩ (w_toldS hR.1.1 hst) ?_
          rintro _ _ _ _ ⟨rfl, rfl, rfl, rfl⟩
          refine V_istore (ls' := [(7, .int (nI (stN p q l))), (0, .ref 62), (1, .int j), (2, .int k), (3, .int code), (4, .int other), (5, .int last), (6, .int w)]) dX12_by_9 (by decide) rfl ?_
          refine V_aload_n dX12_by_11 rfl ?_
          refine V_iload_n dX12_by_12 rfl ?_
          refine V_callV (As := [.int j]) (st := []) (a := 62) dX12_by_13 kX12_isKnown lX12_404 (by decide) rfl rfl (Nat.le_of_ble_eq_true rfl) ⟨Nat.le_of_ble_eq_true rfl, Nat.le_of_ble_eq_true rfl⟩ ⟨Nat.le_of_ble_eq_true rfl, Nat.le_of_ble_eq_true rfl⟩ rfl ⟨rfl, by decide⟩ (q_y (w_isKnown hC) hj) ?_
          rintro _ _ _ _ ⟨rfl, rfl, rfl, rfl⟩
          refine V_if_eq (tgt := 43) dX12_by_16 rfl (fun h => absurd h (by decide)) (fun _ => ?_)
          refine V_aload_n dX12_by_19 rfl ?_
          refine V_iload_n dX12_by_20 rfl ?_
          refine V_callV (As := [.int k]) (st := []) (a := 62) dX12_by_21 kX12_isKnown lX12_404 (by decide) rfl rfl (Nat.le_of_ble_eq_true rfl) ⟨Nat.le_of_ble_eq_true rfl, Nat.le_of_ble_eq_true rfl⟩ ⟨Nat.le_of_ble_eq_true rfl, Nat.le_of_ble_eq_true rfl⟩ rfl ⟨rfl, by decide⟩ (q_y (w_isKnown hC) hk) ?_
          rintro _ _ _ _ ⟨rfl, rfl, rfl, rfl⟩
          refine V_if_eq (tgt := 43) dX12_by_24 rfl (fun h => absurd h (by decide)) (fun _ => ?_)
          refine V_iload dX12_by_27 rfl ?_
          refine V_iconst (v := (-1)) dX12_by_29 rfl ?_
          refine V_icmp_eq (tgt := 43) dX12_by_30 rfl (fun h => absurd h (nI_ne_neg (by omega) (by decide))) (fun _ => ?_)
          refine V_iload dX12_by_33 rfl ?_
          refine V_iconst (v := nI 0) dX12_by_35 rfl ?_
          refine V_iconst (v := nI 1) dX12_by_36 rfl ?_
          refine V_callS (As := [.int w, .int (nI 0), .int (nI 1)]) (st := []) dX12_by_37 kX12_in lX12_173 (by decide) rfl rfl (Nat.le_of_ble_eq_true rfl) ⟨Nat.le_of_ble_eq_true rfl, Nat.le_of_ble_eq_true rfl⟩ (w_inN (a := 0) (b := 1) (by decide) (by decide) hw) ?_
          rintro _ _ _ _ ⟨rfl, rfl, rfl, rfl⟩
          refine V_if_ne (tgt := 47) dX12_by_40 rfl (fun h => absurd h (by decide)) (fun _ => ?_)
          refine V_ldc2 dX12_by_43 qX12_388 ?_
          exact V_lret ⟨rfl, dX12_by_46⟩ ⟨Nat.le_of_ble_eq_true rfl, Nat.le_of_ble_eq_true rfl⟩ ⟨rfl, congrArg (fun z => some (Value.long z)) ((if_pos ⟨hj, hk⟩).trans (on01_n hw)).symm, hR, offX_r, hf5⟩
    · rcases hst : stO code other last with _ | ⟨p, q, l⟩
      · skip
        refine V_aload_n dX12_by_0 rfl ?_
        refine V_iload_n dX12_by_1 rfl ?_
        refine V_iload dX12_by_2 rfl ?_
        refine V_iload dX12_by_4 rfl ?_
        refine V_callV (As := [.int code, .int other, .int last]) (st := []) (a := 62) dX12_by_6 kX12_told lX12_203 (by decide) rfl rfl (Nat.le_of_ble_eq_true rfl) ⟨Nat.le_of_ble_eq_true rfl, Nat.le_of_ble_eq_true rfl⟩ ⟨Nat.le_of_ble_eq_true rfl, Nat.le_of_ble_eq_true rfl⟩ rfl ⟨rfl, by decide⟩ (w_toldN hR.1.1 hst) ?_
        rintro _ _ _ _ ⟨rfl, rfl, rfl, rfl⟩
        refine V_istore (ls' := [(7, .int (-1)), (0, .ref 62), (1, .int j), (2, .int k), (3, .int code), (4, .int other), (5, .int last), (6, .int w)]) dX12_by_9 (by decide) rfl ?_
        refine V_aload_n dX12_by_11 rfl ?_
        refine V_iload_n dX12_by_12 rfl ?_
        refine V_callV (As := [.int j]) (st := []) (a := 62) dX12_by_13 kX12_isKnown lX12_404 (by decide) rfl rfl (Nat.le_of_ble_eq_true rfl) ⟨Nat.le_of_ble_eq_true rfl, Nat.le_of_ble_eq_true rfl⟩ ⟨Nat.le_of_ble_eq_true rfl, Nat.le_of_ble_eq_true rfl⟩ rfl ⟨rfl, by decide⟩ (q_y (w_isKnown hC) hj) ?_
        rintro _ _ _ _ ⟨rfl, rfl, rfl, rfl⟩
        refine V_if_eq (tgt := 43) dX12_by_16 rfl (fun h => absurd h (by decide)) (fun _ => ?_)
        refine V_aload_n dX12_by_19 rfl ?_
        refine V_iload_n dX12_by_20 rfl ?_
        refine V_callV (As := [.int k]) (st := []) (a := 62) dX12_by_21 kX12_isKnown lX12_404 (by decide) rfl rfl (Nat.le_of_ble_eq_true rfl) ⟨Nat.le_of_ble_eq_true rfl, Nat.le_of_ble_eq_true rfl⟩ ⟨Nat.le_of_ble_eq_true rfl, Nat.le_of_ble_eq_true rfl⟩ rfl ⟨rfl, by decide⟩ (q_n (w_isKnown hC) hk) ?_
        rintro _ _ _ _ ⟨rfl, rfl, rfl, rfl⟩
        refine V_if_eq (tgt := 43) dX12_by_24 rfl (fun _ => ?_) (fun h => absurd h (by decide))
        refine V_ldc2 dX12_by_43 qX12_388 ?_
        exact V_lret ⟨rfl, dX12_by_46⟩ ⟨Nat.le_of_ble_eq_true rfl, Nat.le_of_ble_eq_true rfl⟩ ⟨rfl, congrArg (fun z => some (Value.long z)) (if_neg (fun h => hk h.2)).symm, hR, offX_r, hf5⟩
      · have hlq := stO_s hst
        have hl1 : l ≤ 1 := hlq.2.2.2.1
        have hp56 : p < 56 := hlq.2.2.2.2.1
        have hq56 : q < 56 := hlq.2.2.2.2.2
        have hsl := stN_lt hp56 hq56 hl1
        refine V_aload_n dX12_by_0 rfl ?_
        refine V_iload_n dX12_by_1 rfl ?_
        refine V_iload dX12_by_2 rfl ?_
        refine V_iload dX12_by_4 rfl ?_
        refine V_callV (As := [.int code, .int other, .int last]) (st := []) (a := 62) dX12_by_6 kX12_told lX12_203 (by decide) rfl rfl (Nat.le_of_ble_eq_true rfl) ⟨Nat.le_of_ble_eq_true rfl, Nat.le_of_ble_eq_true rfl⟩ ⟨Nat.le_of_ble_eq_true rfl, Nat.le_of_ble_eq_true rfl⟩ rfl ⟨rfl, by decide⟩ (w_toldS hR.1.1 hst) ?_
        rintro _ _ _ _ ⟨rfl, rfl, rfl, rfl⟩
        refine V_istore (ls' := [(7, .int (nI (stN p q l))), (0, .ref 62), (1, .int j), (2, .int k), (3, .int code), (4, .int other), (5, .int last), (6, .int w)]) dX12_by_9 (by decide) rfl ?_
        refine V_aload_n dX12_by_11 rfl ?_
        refine V_iload_n dX12_by_12 rfl ?_
        refine V_callV (As := [.int j]) (st := []) (a := 62) dX12_by_13 kX12_isKnown lX12_404 (by decide) rfl rfl (Nat.le_of_ble_eq_true rfl) ⟨Nat.le_of_ble_eq_true rfl, Nat.le_of_ble_eq_true rfl⟩ ⟨Nat.le_of_ble_eq_true rfl, Nat.le_of_ble_eq_true rfl⟩ rfl ⟨rfl, by decide⟩ (q_y (w_isKnown hC) hj) ?_
        rintro _ _ _ _ ⟨rfl, rfl, rfl, rfl⟩
        refine V_if_eq (tgt := 43) dX12_by_16 rfl (fun h => absurd h (by decide)) (fun _ => ?_)
        refine V_aload_n dX12_by_19 rfl ?_
        refine V_iload_n dX12_by_20 rfl ?_
        refine V_callV (As := [.int k]) (st := []) (a := 62) dX12_by_21 kX12_isKnown lX12_404 (by decide) rfl rfl (Nat.le_of_ble_eq_true rfl) ⟨Nat.le_of_ble_eq_true rfl, Nat.le_of_ble_eq_true rfl⟩ ⟨Nat.le_of_ble_eq_true rfl, Nat.le_of_ble_eq_true rfl⟩ rfl ⟨rfl, by decide⟩ (q_n (w_isKnown hC) hk) ?_
        rintro _ _ _ _ ⟨rfl, rfl, rfl, rfl⟩
        refine V_if_eq (tgt := 43) dX12_by_24 rfl (fun _ => ?_) (fun h => absurd h (by decide))
        refine V_ldc2 dX12_by_43 qX12_388 ?_
        exact V_lret ⟨rfl, dX12_by_46⟩ ⟨Nat.le_of_ble_eq_true rfl, Nat.le_of_ble_eq_true rfl⟩ ⟨rfl, congrArg (fun z => some (Value.long z)) (if_neg (fun h => hk h.2)).symm, hR, offX_r, hf5⟩
  · rcases hst : stO code other last with _ | ⟨p, q, l⟩
    · skip
      refine V_aload_n dX12_by_0 rfl ?_
      refine V_iload_n dX12_by_1 rfl ?_
      refine V_iload dX12_by_2 rfl ?_
      refine V_iload dX12_by_4 rfl ?_
      refine V_callV (As := [.int code, .int other, .int last]) (st := []) (a := 62) dX12_by_6 kX12_told lX12_203 (by decide) rfl rfl (Nat.le_of_ble_eq_true rfl) ⟨Nat.le_of_ble_eq_true rfl, Nat.le_of_ble_eq_true rfl⟩ ⟨Nat.le_of_ble_eq_true rfl, Nat.le_of_ble_eq_true rfl⟩ rfl ⟨rfl, by decide⟩ (w_toldN hR.1.1 hst) ?_
      rintro _ _ _ _ ⟨rfl, rfl, rfl, rfl⟩
      refine V_istore (ls' := [(7, .int (-1)), (0, .ref 62), (1, .int j), (2, .int k), (3, .int code), (4, .int other), (5, .int last), (6, .int w)]) dX12_by_9 (by decide) rfl ?_
      refine V_aload_n dX12_by_11 rfl ?_
      refine V_iload_n dX12_by_12 rfl ?_
      refine V_callV (As := [.int j]) (st := []) (a := 62) dX12_by_13 kX12_isKnown lX12_404 (by decide) rfl rfl (Nat.le_of_ble_eq_true rfl) ⟨Nat.le_of_ble_eq_true rfl, Nat.le_of_ble_eq_true rfl⟩ ⟨Nat.le_of_ble_eq_true rfl, Nat.le_of_ble_eq_true rfl⟩ rfl ⟨rfl, by decide⟩ (q_n (w_isKnown hC) hj) ?_
      rintro _ _ _ _ ⟨rfl, rfl, rfl, rfl⟩
      refine V_if_eq (tgt := 43) dX12_by_16 rfl (fun _ => ?_) (fun h => absurd h (by decide))
      refine V_ldc2 dX12_by_43 qX12_388 ?_
      exact V_lret ⟨rfl, dX12_by_46⟩ ⟨Nat.le_of_ble_eq_true rfl, Nat.le_of_ble_eq_true rfl⟩ ⟨rfl, congrArg (fun z => some (Value.long z)) (if_neg (fun h => hj h.1)).symm, hR, offX_r, hf5⟩
    · have hlq := stO_s hst
      have hl1 : l ≤ 1 := hlq.2.2.2.1
      have hp56 : p < 56 := hlq.2.2.2.2.1
      have hq56 : q < 56 := hlq.2.2.2.2.2
      have hsl := stN_lt hp56 hq56 hl1
      refine V_aload_n dX12_by_0 rfl ?_
      refine V_iload_n dX12_by_1 rfl ?_
      refine V_iload dX12_by_2 rfl ?_
      refine V_iload dX12_by_4 rfl ?_
      refine V_callV (As := [.int code, .int other, .int last]) (st := []) (a := 62) dX12_by_6 kX12_told lX12_203 (by decide) rfl rfl (Nat.le_of_ble_eq_true rfl) ⟨Nat.le_of_ble_eq_true rfl, Nat.le_of_ble_eq_true rfl⟩ ⟨Nat.le_of_ble_eq_true rfl, Nat.le_of_ble_eq_true rfl⟩ rfl ⟨rfl, by decide⟩ (w_toldS hR.1.1 hst) ?_
      rintro _ _ _ _ ⟨rfl, rfl, rfl, rfl⟩
      refine V_istore (ls' := [(7, .int (nI (stN p q l))), (0, .ref 62), (1, .int j), (2, .int k), (3, .int code), (4, .int other), (5, .int last), (6, .int w)]) dX12_by_9 (by decide) rfl ?_
      refine V_aload_n dX12_by_11 rfl ?_
      refine V_iload_n dX12_by_12 rfl ?_
      refine V_callV (As := [.int j]) (st := []) (a := 62) dX12_by_13 kX12_isKnown lX12_404 (by decide) rfl rfl (Nat.le_of_ble_eq_true rfl) ⟨Nat.le_of_ble_eq_true rfl, Nat.le_of_ble_eq_true rfl⟩ ⟨Nat.le_of_ble_eq_true rfl, Nat.le_of_ble_eq_true rfl⟩ rfl ⟨rfl, by decide⟩ (q_n (w_isKnown hC) hj) ?_
      rintro _ _ _ _ ⟨rfl, rfl, rfl, rfl⟩
      refine V_if_eq (tgt := 43) dX12_by_16 rfl (fun _ => ?_) (fun h => absurd h (by decide))
      refine V_ldc2 dX12_by_43 qX12_388 ?_
      exact V_lret ⟨rfl, dX12_by_46⟩ ⟨Nat.le_of_ble_eq_true rfl, Nat.le_of_ble_eq_true rfl⟩ ⟨rfl, congrArg (fun z => some (Value.long z)) (if_neg (fun h => hj h.1)).symm, hR, offX_r, hf5⟩

set_option maxRecDepth 100000 in
set_option maxHeartbeats 4000000 in
theorem w_lastBall {G : zG} {I : zI} {J : zJ} {a : List (Nat × List (Nat × Nat) × List (Nat × Nat))} {M : Nat → ((Nat → Int32) → Option Int32) × ((Nat → Int32) → Option Int32)} {ar : Nat → List (Nat × List (Nat × Nat) × List (Nat × Nat))} {Mr : Nat → Nat → ((Nat → Int32) → Option Int32) × ((Nat → Int32) → Option Int32)} {far : Nat} (hR : soR I J a M ar Mr far) (h6 : 6 ≤ far) (h10 : far ≤ 10) (hf5 : I 62 5 = nI far) {w : Int32} : zK G mX12_lastBall 10 [.ref 62, .int w] zsh I J (zP (fun r I' J' => r = some (.long (if inZ w 0 2 then (if w = nI 0 then vB (lfM a M) far 1 - vB (lfM a M) far 0 else if w = nI 1 then vB (lfM a M) far 0 else vB (lfM a M) far 1) else -2000000000000000000)) ∧ soR I' J' a M ar Mr far ∧ offX I J I' J' ∧ I' 62 5 = nI far)) := by
  refine zK_of kX12_lastBall.2.2.2.2.1 (Nat.le_of_ble_eq_true rfl) ?_
  show V G mX12_lastBall 10 _ 0 [(0, .ref 62), (1, .int w)] [] (0, 0) zsh I J
  by_cases hw : inZ w 0 2
  · obtain ⟨v, rfl, hv1, hv2⟩ := inZ_n hw (by decide)
    rcases (show v = 0 ∨ v = 1 ∨ v = 2 by omega) with rfl | rfl | rfl
    · skip
      refine V_iload_n dX12_lastBall_0 rfl ?_
      refine V_iconst (v := nI 0) dX12_lastBall_1 rfl ?_
      refine V_iconst (v := nI 2) dX12_lastBall_2 rfl ?_
      refine V_callS (As := [.int (nI 0), .int (nI 0), .int (nI 2)]) (st := []) dX12_lastBall_3 kX12_in lX12_173 (by decide) rfl rfl (Nat.le_of_ble_eq_true rfl) ⟨Nat.le_of_ble_eq_true rfl, Nat.le_of_ble_eq_true rfl⟩ (w_inY (a := 0) (b := 2) (by decide) (by decide) ((inZ_k (by omega)).mpr (by omega))) ?_
      rintro _ _ _ _ ⟨rfl, rfl, rfl, rfl⟩
      refine V_if_ne (tgt := 13) dX12_lastBall_6 rfl (fun _ => ?_) (fun h => absurd h (by decide))
      refine V_aload_n dX12_lastBall_13 rfl ?_
      refine V_callV (As := []) (st := []) (a := 62) dX12_lastBall_14 kX12_solvesBest lX12_390 (by decide) rfl rfl (Nat.le_of_ble_eq_true rfl) ⟨Nat.le_of_ble_eq_true rfl, Nat.le_of_ble_eq_true rfl⟩ ⟨Nat.le_of_ble_eq_true rfl, Nat.le_of_ble_eq_true rfl⟩ rfl ⟨rfl, by decide⟩ (w_solvesBest hR h6 h10) ?_
      rintro r sh' I1 J1 ⟨rfl, rfl, hq1, hR1, hX, hq5⟩
      refine V_aload_n dX12_lastBall_17 rfl ?_
      refine V_getR (b := 83) dX12_lastBall_18 fX12_72 ⟨Nat.le_of_ble_eq_true rfl, Nat.le_of_ble_eq_true rfl⟩ rfl rfl rfl ?_
      refine V_aload_n dX12_lastBall_21 rfl ?_
      refine V_iconst (v := nI 0) dX12_lastBall_22 rfl ?_
      refine V_callV (As := [.int (nI 0)]) (st := [.ref 83]) (a := 62) dX12_lastBall_23 kX12_begin lX12_398 (by decide) rfl rfl (Nat.le_of_ble_eq_true rfl) ⟨Nat.le_of_ble_eq_true rfl, Nat.le_of_ble_eq_true rfl⟩ ⟨Nat.le_of_ble_eq_true rfl, Nat.le_of_ble_eq_true rfl⟩ rfl ⟨rfl, by decide⟩ (w_begin hR1.1.1 (f := 0) (by omega)) ?_
      rintro _ _ _ _ ⟨rfl, rfl, rfl, rfl⟩
      refine V_laldN (k := stN 55 55 (1 - 0)) dX12_lastBall_26 ⟨Nat.le_of_ble_eq_true rfl, Nat.le_of_ble_eq_true rfl⟩ rfl (by decide) (stN_lt (by decide) (by decide) (by decide)) ?_
      refine V_eqL (y := vB (lfM a M) far 0) ((hq1 55 55 _ (by decide) (by decide) (by omega)).1.trans vB_e) ?_
      refine V_lstore_n (ls' := [(2, .long (vB (lfM a M) far 0)), (0, .ref 62), (1, .int (nI 0))]) dX12_lastBall_27 (by decide) rfl ?_
      refine V_aload_n dX12_lastBall_28 rfl ?_
      refine V_getR (b := 83) dX12_lastBall_29 fX12_72 ⟨Nat.le_of_ble_eq_true rfl, Nat.le_of_ble_eq_true rfl⟩ rfl rfl rfl ?_
      refine V_aload_n dX12_lastBall_32 rfl ?_
      refine V_iconst (v := nI 1) dX12_lastBall_33 rfl ?_
      refine V_callV (As := [.int (nI 1)]) (st := [.ref 83]) (a := 62) dX12_lastBall_34 kX12_begin lX12_398 (by decide) rfl rfl (Nat.le_of_ble_eq_true rfl) ⟨Nat.le_of_ble_eq_true rfl, Nat.le_of_ble_eq_true rfl⟩ ⟨Nat.le_of_ble_eq_true rfl, Nat.le_of_ble_eq_true rfl⟩ rfl ⟨rfl, by decide⟩ (w_begin hR1.1.1 (f := 1) (by omega)) ?_
      rintro _ _ _ _ ⟨rfl, rfl, rfl, rfl⟩
      refine V_laldN (k := stN 55 55 (1 - 1)) dX12_lastBall_37 ⟨Nat.le_of_ble_eq_true rfl, Nat.le_of_ble_eq_true rfl⟩ rfl (by decide) (stN_lt (by decide) (by decide) (by decide)) ?_
      refine V_eqL (y := vB (lfM a M) far 1) ((hq1 55 55 _ (by decide) (by decide) (by omega)).1.trans vB_e) ?_
      refine V_lstore (ls' := [(4, .long (vB (lfM a M) far 1)), (2, .long (vB (lfM a M) far 0)), (0, .ref 62), (1, .int (nI 0))]) dX12_lastBall_38 (by decide) rfl ?_
      refine V_iload_n dX12_lastBall_40 rfl ?_
      refine V_if_ne (tgt := 51) dX12_lastBall_41 rfl (fun h => absurd h (by decide)) (fun _ => ?_)
      refine V_lload dX12_lastBall_44 rfl ?_
      refine V_lload_n dX12_lastBall_46 rfl ?_
      refine V_lsub dX12_lastBall_47 ?_
      refine V_goto (tgt := 62) dX12_lastBall_48 rfl ?_
      exact V_lret ⟨rfl, dX12_lastBall_62⟩ ⟨Nat.le_of_ble_eq_true rfl, Nat.le_of_ble_eq_true rfl⟩ ⟨rfl, congrArg (fun z => some (Value.long z)) ((if_pos hw).trans (if_pos rfl)).symm, hR1, hX, hq5⟩
    · skip
      refine V_iload_n dX12_lastBall_0 rfl ?_
      refine V_iconst (v := nI 0) dX12_lastBall_1 rfl ?_
      refine V_iconst (v := nI 2) dX12_lastBall_2 rfl ?_
      refine V_callS (As := [.int (nI 1), .int (nI 0), .int (nI 2)]) (st := []) dX12_lastBall_3 kX12_in lX12_173 (by decide) rfl rfl (Nat.le_of_ble_eq_true rfl) ⟨Nat.le_of_ble_eq_true rfl, Nat.le_of_ble_eq_true rfl⟩ (w_inY (a := 0) (b := 2) (by decide) (by decide) ((inZ_k (by omega)).mpr (by omega))) ?_
      rintro _ _ _ _ ⟨rfl, rfl, rfl, rfl⟩
      refine V_if_ne (tgt := 13) dX12_lastBall_6 rfl (fun _ => ?_) (fun h => absurd h (by decide))
      refine V_aload_n dX12_lastBall_13 rfl ?_
      refine V_callV (As := []) (st := []) (a := 62) dX12_lastBall_14 kX12_solvesBest lX12_390 (by decide) rfl rfl (Nat.le_of_ble_eq_true rfl) ⟨Nat.le_of_ble_eq_true rfl, Nat.le_of_ble_eq_true rfl⟩ ⟨Nat.le_of_ble_eq_true rfl, Nat.le_of_ble_eq_true rfl⟩ rfl ⟨rfl, by decide⟩ (w_solvesBest hR h6 h10) ?_
      rintro r sh' I1 J1 ⟨rfl, rfl, hq1, hR1, hX, hq5⟩
      refine V_aload_n dX12_lastBall_17 rfl ?_
      refine V_getR (b := 83) dX12_lastBall_18 fX12_72 ⟨Nat.le_of_ble_eq_true rfl, Nat.le_of_ble_eq_true rfl⟩ rfl rfl rfl ?_
      refine V_aload_n dX12_lastBall_21 rfl ?_
      refine V_iconst (v := nI 0) dX12_lastBall_22 rfl ?_
      refine V_callV (As := [.int (nI 0)]) (st := [.ref 83]) (a := 62) dX12_lastBall_23 kX12_begin lX12_398 (by decide) rfl rfl (Nat.le_of_ble_eq_true rfl) ⟨Nat.le_of_ble_eq_true rfl, Nat.le_of_ble_eq_true rfl⟩ ⟨Nat.le_of_ble_eq_true rfl, Nat.le_of_ble_eq_true rfl⟩ rfl ⟨rfl, by decide⟩ (w_begin hR1.1.1 (f := 0) (by omega)) ?_
      rintro _ _ _ _ ⟨rfl, rfl, rfl, rfl⟩
      refine V_laldN (k := stN 55 55 (1 - 0)) dX12_lastBall_26 ⟨Nat.le_of_ble_eq_true rfl, Nat.le_of_ble_eq_true rfl⟩ rfl (by decide) (stN_lt (by decide) (by decide) (by decide)) ?_
      refine V_eqL (y := vB (lfM a M) far 0) ((hq1 55 55 _ (by decide) (by decide) (by omega)).1.trans vB_e) ?_
      refine V_lstore_n (ls' := [(2, .long (vB (lfM a M) far 0)), (0, .ref 62), (1, .int (nI 1))]) dX12_lastBall_27 (by decide) rfl ?_
      refine V_aload_n dX12_lastBall_28 rfl ?_
      refine V_getR (b := 83) dX12_lastBall_29 fX12_72 ⟨Nat.le_of_ble_eq_true rfl, Nat.le_of_ble_eq_true rfl⟩ rfl rfl rfl ?_
      refine V_aload_n dX12_lastBall_32 rfl ?_
      refine V_iconst (v := nI 1) dX12_lastBall_33 rfl ?_
      refine V_callV (As := [.int (nI 1)]) (st := [.ref 83]) (a := 62) dX12_lastBall_34 kX12_begin lX12_398 (by decide) rfl rfl (Nat.le_of_ble_eq_true rfl) ⟨Nat.le_of_ble_eq_true rfl, Nat.le_of_ble_eq_true rfl⟩ ⟨Nat.le_of_ble_eq_true rfl, Nat.le_of_ble_eq_true rfl⟩ rfl ⟨rfl, by decide⟩ (w_begin hR1.1.1 (f := 1) (by omega)) ?_
      rintro _ _ _ _ ⟨rfl, rfl, rfl, rfl⟩
      refine V_laldN (k := stN 55 55 (1 - 1)) dX12_lastBall_37 ⟨Nat.le_of_ble_eq_true rfl, Nat.le_of_ble_eq_true rfl⟩ rfl (by decide) (stN_lt (by decide) (by decide) (by decide)) ?_
      refine V_eqL (y := vB (lfM a M) far 1) ((hq1 55 55 _ (by decide) (by decide) (by omega)).1.trans vB_e) ?_
      refine V_lstore (ls' := [(4, .long (vB (lfM a M) far 1)), (2, .long (vB (lfM a M) far 0)), (0, .ref 62), (1, .int (nI 1))]) dX12_lastBall_38 (by decide) rfl ?_
      refine V_iload_n dX12_lastBall_40 rfl ?_
      refine V_if_ne (tgt := 51) dX12_lastBall_41 rfl (fun _ => ?_) (fun h => absurd h (by decide))
      refine V_iload_n dX12_lastBall_51 rfl ?_
      refine V_iconst (v := nI 1) dX12_lastBall_52 rfl ?_
      refine V_icmp_ne (tgt := 60) dX12_lastBall_53 rfl (fun h => absurd h (by decide)) (fun _ => ?_)
      refine V_lload_n dX12_lastBall_56 rfl ?_
      refine V_goto (tgt := 62) dX12_lastBall_57 rfl ?_
      exact V_lret ⟨rfl, dX12_lastBall_62⟩ ⟨Nat.le_of_ble_eq_true rfl, Nat.le_of_ble_eq_true rfl⟩ ⟨rfl, congrArg (fun z => some (Value.long z)) ((if_pos hw).trans ((if_neg (by decide)).trans (if_pos rfl))).symm, hR1, hX, hq5⟩
    · skip
      refine V_iload_n dX12_lastBall_0 rfl ?_
      refine V_iconst (v := nI 0) dX12_lastBall_1 rfl ?_
      refine V_iconst (v := nI 2) dX12_lastBall_2 rfl ?_
      refine V_callS (As := [.int (nI 2), .int (nI 0), .int (nI 2)]) (st := []) dX12_lastBall_3 kX12_in lX12_173 (by decide) rfl rfl (Nat.le_of_ble_eq_true rfl) ⟨Nat.le_of_ble_eq_true rfl, Nat.le_of_ble_eq_true rfl⟩ (w_inY (a := 0) (b := 2) (by decide) (by decide) ((inZ_k (by omega)).mpr (by omega))) ?_
      rintro _ _ _ _ ⟨rfl, rfl, rfl, rfl⟩
      refine V_if_ne (tgt := 13) dX12_lastBall_6 rfl (fun _ => ?_) (fun h => absurd h (by decide))
      refine V_aload_n dX12_lastBall_13 rfl ?_
      refine V_callV (As := []) (st := []) (a := 62) dX12_lastBall_14 kX12_solvesBest lX12_390 (by decide) rfl rfl (Nat.le_of_ble_eq_true rfl) ⟨Nat.le_of_ble_eq_true rfl, Nat.le_of_ble_eq_true rfl⟩ ⟨Nat.le_of_ble_eq_true rfl, Nat.le_of_ble_eq_true rfl⟩ rfl ⟨rfl, by decide⟩ (w_solvesBest hR h6 h10) ?_
      rintro r sh' I1 J1 ⟨rfl, rfl, hq1, hR1, hX, hq5⟩
      refine V_aload_n dX12_lastBall_17 rfl ?_
      refine V_getR (b := 83) dX12_lastBall_18 fX12_72 ⟨Nat.le_of_ble_eq_true rfl, Nat.le_of_ble_eq_true rfl⟩ rfl rfl rfl ?_
      refine V_aload_n dX12_lastBall_21 rfl ?_
      refine V_iconst (v := nI 0) dX12_lastBall_22 rfl ?_
      refine V_callV (As := [.int (nI 0)]) (st := [.ref 83]) (a := 62) dX12_lastBall_23 kX12_begin lX12_398 (by decide) rfl rfl (Nat.le_of_ble_eq_true rfl) ⟨Nat.le_of_ble_eq_true rfl, Nat.le_of_ble_eq_true rfl⟩ ⟨Nat.le_of_ble_eq_true rfl, Nat.le_of_ble_eq_true rfl⟩ rfl ⟨rfl, by decide⟩ (w_begin hR1.1.1 (f := 0) (by omega)) ?_
      rintro _ _ _ _ ⟨rfl, rfl, rfl, rfl⟩
      refine V_laldN (k := stN 55 55 (1 - 0)) dX12_lastBall_26 ⟨Nat.le_of_ble_eq_true rfl, Nat.le_of_ble_eq_true rfl⟩ rfl (by decide) (stN_lt (by decide) (by decide) (by decide)) ?_
      refine V_eqL (y := vB (lfM a M) far 0) ((hq1 55 55 _ (by decide) (by decide) (by omega)).1.trans vB_e) ?_
      refine V_lstore_n (ls' := [(2, .long (vB (lfM a M) far 0)), (0, .ref 62), (1, .int (nI 2))]) dX12_lastBall_27 (by decide) rfl ?_
      refine V_aload_n dX12_lastBall_28 rfl ?_
      refine V_getR (b := 83) dX12_lastBall_29 fX12_72 ⟨Nat.le_of_ble_eq_true rfl, Nat.le_of_ble_eq_true rfl⟩ rfl rfl rfl ?_
      refine V_aload_n dX12_lastBall_32 rfl ?_
      refine V_iconst (v := nI 1) dX12_lastBall_33 rfl ?_
      refine V_callV (As := [.int (nI 1)]) (st := [.ref 83]) (a := 62) dX12_lastBall_34 kX12_begin lX12_398 (by decide) rfl rfl (Nat.le_of_ble_eq_true rfl) ⟨Nat.le_of_ble_eq_true rfl, Nat.le_of_ble_eq_true rfl⟩ ⟨Nat.le_of_ble_eq_true rfl, Nat.le_of_ble_eq_true rfl⟩ rfl ⟨rfl, by decide⟩ (w_begin hR1.1.1 (f := 1) (by omega)) ?_
      rintro _ _ _ _ ⟨rfl, rfl, rfl, rfl⟩
      refine V_laldN (k := stN 55 55 (1 - 1)) dX12_lastBall_37 ⟨Nat.le_of_ble_eq_true rfl, Nat.le_of_ble_eq_true rfl⟩ rfl (by decide) (stN_lt (by decide) (by decide) (by decide)) ?_
      refine V_eqL (y := vB (lfM a M) far 1) ((hq1 55 55 _ (by decide) (by decide) (by omega)).1.trans vB_e) ?_
      refine V_lstore (ls' := [(4, .long (vB (lfM a M) far 1)), (2, .long (vB (lfM a M) far 0)), (0, .ref 62), (1, .int (nI 2))]) dX12_lastBall_38 (by decide) rfl ?_
      refine V_iload_n dX12_lastBall_40 rfl ?_
      refine V_if_ne (tgt := 51) dX12_lastBall_41 rfl (fun _ => ?_) (fun h => absurd h (by decide))
      refine V_iload_n dX12_lastBall_51 rfl ?_
      refine V_iconst (v := nI 1) dX12_lastBall_52 rfl ?_
      refine V_icmp_ne (tgt := 60) dX12_lastBall_53 rfl (fun _ => ?_) (fun h => absurd h (by decide))
      refine V_lload dX12_lastBall_60 rfl ?_
      exact V_lret ⟨rfl, dX12_lastBall_62⟩ ⟨Nat.le_of_ble_eq_true rfl, Nat.le_of_ble_eq_true rfl⟩ ⟨rfl, congrArg (fun z => some (Value.long z)) ((if_pos hw).trans ((if_neg (by decide)).trans (if_neg (by decide)))).symm, hR1, hX, hq5⟩
  · skip
    refine V_iload_n dX12_lastBall_0 rfl ?_
    refine V_iconst (v := nI 0) dX12_lastBall_1 rfl ?_
    refine V_iconst (v := nI 2) dX12_lastBall_2 rfl ?_
    refine V_callS (As := [.int w, .int (nI 0), .int (nI 2)]) (st := []) dX12_lastBall_3 kX12_in lX12_173 (by decide) rfl rfl (Nat.le_of_ble_eq_true rfl) ⟨Nat.le_of_ble_eq_true rfl, Nat.le_of_ble_eq_true rfl⟩ (w_inN (a := 0) (b := 2) (by decide) (by decide) hw) ?_
    rintro _ _ _ _ ⟨rfl, rfl, rfl, rfl⟩
    refine V_if_ne (tgt := 13) dX12_lastBall_6 rfl (fun h => absurd h (by decide)) (fun _ => ?_)
    refine V_ldc2 dX12_lastBall_9 qX12_388 ?_
    exact V_lret ⟨rfl, dX12_lastBall_12⟩ ⟨Nat.le_of_ble_eq_true rfl, Nat.le_of_ble_eq_true rfl⟩ ⟨rfl, congrArg (fun z => some (Value.long z)) (if_neg hw).symm, hR, offX_r, hf5⟩

