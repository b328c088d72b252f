/-! THE MODEL: the table of rules, the game -/
/-- what the table tells of the pairs before one -/
def tbV (Rl : Nat → Nat → (Nat → Int32) → Int32) (Lf : Nat → (Nat → Int32) → Int32) (far j k : Nat) : Int64 := (vX 1 (nI j) (nI k) Rl Lf far 55 55 1).1
def tbJ (Rl : Nat → Nat → (Nat → Int32) → Int32) (Lf : Nat → (Nat → Int32) → Int32) (far : Nat) (cc : Nat → Nat) (J : zJ) (n : Nat) : Prop := ∀ j k, j < 4 → k < 4 → 4 * j + k < n → 0 < cc j → 0 < cc k → J 86 (4 * j + k) = tbV Rl Lf far j k
theorem tbJ_n {Rl : Nat → Nat → (Nat → Int32) → Int32} {Lf : Nat → (Nat → Int32) → Int32} {far : Nat} {cc : Nat → Nat} {J : zJ} {j k : Nat} (hj : j < 4) (hk : k < 4) (h : tbJ Rl Lf far cc J (4 * j + k)) (hn : ¬ (0 < cc j ∧ 0 < cc k)) : tbJ Rl Lf far cc J (4 * j + (k + 1)) := fun j' k' h1 h2 h3 h4 h5 => by
  by_cases e : 4 * j' + k' = 4 * j + k
  · obtain ⟨rfl, rfl⟩ : j' = j ∧ k' = k := by omega
    exact absurd ⟨h4, h5⟩ hn
  · exact h j' k' h1 h2 (by omega) h4 h5
theorem tbJ_y {Rl : Nat → Nat → (Nat → Int32) → Int32} {Lf : Nat → (Nat → Int32) → Int32} {far : Nat} {cc : Nat → Nat} {J J' : zJ} {j k : Nat} (hj : j < 4) (hk : k < 4) (h : tbJ Rl Lf far cc J (4 * j + k)) (e86 : J' 86 = J 86) : tbJ Rl Lf far cc (zwl J' 86 (4 * j + k) (tbV Rl Lf far j k)) (4 * j + (k + 1)) := fun j' k' h1 h2 h3 h4 h5 => by
  by_cases e : 4 * j' + k' = 4 * j + k
  · obtain ⟨rfl, rfl⟩ : j' = j ∧ k' = k := by omega
    simp [zwl_at]
  · have g := h j' k' h1 h2 (by omega) h4 h5
    rw [← e86] at g
    simp [zwl_at, e, g]
theorem cM_x {I : zI} {J : zJ} {I' : zI} {J' : zJ} {c0 : Nat} {cc : Nat → Nat} (h : cM I c0 cc) (e : offX I J I' J') : cM I' c0 cc := by
  unfold cM
  rw [e.1 74 (by decide) (by decide) (by decide) (by decide) (by decide) (by decide) (by decide)]
  exact h
theorem ruX_k {k : Nat} (h : k < 4) : ruX (nI k) := Or.inr ⟨k, h, rfl⟩
section
variable {a : List (Nat × List (Nat × Nat) × List (Nat × Nat))} {M : Nat → ((Nat → Int32) → Option Int32) × ((Nat → Int32) → Option Int32)} {ar : Nat → List (Nat × List (Nat × Nat) × List (Nat × Nat))} {Mr : Nat → Nat → ((Nat → Int32) → Option Int32) × ((Nat → Int32) → Option Int32)} {far : Nat}
theorem soR_J {I : zI} {J J' : zJ} (h : soR I J a M ar Mr far) (e : J' 83 = J 83) : soR I J' a M ar Mr far := ⟨h.1, h.2.1, soK_c h.2.2 (fun _ _ => rfl) rfl e⟩
theorem offX_J {I : zI} {J : zJ} {I1 : zI} {J1 : zJ} {b k : Nat} {x : Int64} (h : offX I J I1 J1) (hb : b = 84 ∨ b = 86 ∨ b = 87) : offX I J I1 (zwl J1 b k x) := offX_w h offW_r (fun c _ h4 h6 h7 => zwl_o (by omega))
/-- a solver's call that only the solved table forgets: the table of rules stays -/
theorem w_solT {G : zG} {I : zI} {J : zJ} (hR : soR I J a M ar Mr far) {f : Nat} (hf : I 62 5 = nI f) (h6 : 6 ≤ f) (h10 : f ≤ 10) {one two : Int32} (h1 : ruX one) (h2 : ruX two) : zK G mX12_solves 8 [.ref 62, .int (nI 0), .int one, .int two] zsh I J (zP (fun r I' J' => r = none ∧ sgV 1 one two (rlM ar Mr) (lfM a M) f I' J' ∧ soR I' J' a M ar Mr far ∧ offX I J I' J' ∧ I' 62 5 = nI f ∧ ∀ b, b ≠ 83 → J' b = J b)) := by
  refine zK_imp (w_solves hR.1 hf h6 h10 (Or.inl ⟨rfl, rfl, h1, h2, rfl, rfl⟩) hR.2.2) ?_
  rintro r sh I' J' ⟨rfl, rfl, g1, g2, g3, g4, g5, g6⟩
  exact ⟨rfl, rfl, g1, ⟨svI_w hR.1 g2 g4, (g2.2 4 (by omega) (by omega)).trans hR.2.1, g3⟩, offX_w offX_r g2 (fun b q _ _ _ => g6 b q), g5, g6⟩
end
set_option maxRecDepth 100000 in
set_option maxHeartbeats 4000000 in
theorem lp_tabI {G : zG} {I : zI} {J : zJ} {Q : zQ} {a : List (Nat × List (Nat × Nat) × List (Nat × Nat))} {M : Nat → ((Nat → Int32) → Option Int32) × ((Nat → Int32) → Option Int32)} {ar : Nat → List (Nat × List (Nat × Nat) × List (Nat × Nat))} {Mr : Nat → Nat → ((Nat → Int32) → Option Int32) × ((Nat → Int32) → Option Int32)} {far : Nat} (h6 : 6 ≤ far) (h10 : far ≤ 10) {c0 : Nat} {cc : Nat → Nat} (hC : cM I c0 cc) {j : Nat} (hj : j < 4) (K : ∀ (I1 : zI) (J1 : zJ), soR I1 J1 a M ar Mr far → offX I J I1 J1 → I1 62 5 = nI far → tbJ (rlM ar Mr) (lfM a M) far cc J1 (4 * (j + 1)) → V G mX12_laysTable 9 Q 10 [(0, .ref 62), (1, .int (nI (j + 1)))] [] (0, 0) zsh I1 J1) : ∀ n k (I1 : zI) (J1 : zJ), k + n = 4 → soR I1 J1 a M ar Mr far → offX I J I1 J1 → I1 62 5 = nI far → tbJ (rlM ar Mr) (lfM a M) far cc J1 (4 * j + k) → V G mX12_laysTable 9 Q 17 [(0, .ref 62), (1, .int (nI j)), (2, .int (nI k))] [] (0, 0) zsh I1 J1 := by
  intro n
  induction n with
  | zero =>
    intro k I1 J1 hk i1 i2 i3 i4
    refine V_iload_n dX12_laysTable_17 rfl ?_
    refine V_iconst (v := nI 4) dX12_laysTable_18 rfl ?_
    refine V_icmp_geN (tgt := 74) dX12_laysTable_19 rfl (by omega) (by omega) (fun _ => ?_) (fun h => absurd h (by omega))
    refine V_iincN (ls' := [(1, .int (nI (j + 1))), (0, .ref 62), (2, .int (nI k))]) (n := 1) dX12_laysTable_74 rfl rfl (by decide) (by decide) rfl ?_
    refine V_goto (tgt := 10) dX12_laysTable_77 rfl ?_
    refine V_sub2 (ls' := [(0, .ref 62), (1, .int (nI (j + 1)))]) (List.forall_mem_cons.mpr ⟨rfl, List.forall_mem_cons.mpr ⟨rfl, fun _ h => absurd h List.not_mem_nil⟩⟩) ?_
    exact K I1 J1 i1 i2 i3 (show tbJ (rlM ar Mr) (lfM a M) far cc J1 (4 * (j + 1)) from fun j' k' h1 h2 h3 => i4 j' k' h1 h2 (by omega))
  | succ n ih =>
    intro k I1 J1 hkn i1 i2 i3 i4
    have hk : k < 4 := by omega
    refine V_iload_n dX12_laysTable_17 rfl ?_
    refine V_iconst (v := nI 4) dX12_laysTable_18 rfl ?_
    refine V_icmp_geN (tgt := 74) dX12_laysTable_19 rfl (by omega) (by omega) (fun h => absurd h (by omega)) (fun _ => ?_)
    by_cases hj0 : 0 < cc j
    · skip
      refine V_aload_n dX12_laysTable_22 rfl ?_
      refine V_iload_n dX12_laysTable_23 rfl ?_
      refine V_callV (As := [.int (nI j)]) (st := []) (a := 62) dX12_laysTable_24 kX12_isTold lX12_401 (by decide) rfl rfl (Nat.le_of_ble_eq_true rfl) ⟨Nat.le_of_ble_eq_true rfl, Nat.le_of_ble_eq_true rfl⟩ ⟨Nat.le_of_ble_eq_true rfl, Nat.le_of_ble_eq_true rfl⟩ rfl ⟨rfl, by decide⟩ (tldY (cM_x hC i2) hj hj0) ?_
      rintro _ _ _ _ ⟨rfl, rfl, rfl, rfl⟩
      refine V_if_eq (tgt := 68) dX12_laysTable_27 rfl (fun h => absurd h (by decide)) (fun _ => ?_)
      by_cases hk0 : 0 < cc k
      · skip
        refine V_aload_n dX12_laysTable_30 rfl ?_
        refine V_iload_n dX12_laysTable_31 rfl ?_
        refine V_callV (As := [.int (nI k)]) (st := []) (a := 62) dX12_laysTable_32 kX12_isTold lX12_401 (by decide) rfl rfl (Nat.le_of_ble_eq_true rfl) ⟨Nat.le_of_ble_eq_true rfl, Nat.le_of_ble_eq_true rfl⟩ ⟨Nat.le_of_ble_eq_true rfl, Nat.le_of_ble_eq_true rfl⟩ rfl ⟨rfl, by decide⟩ (tldY (cM_x hC i2) hk hk0) ?_
        rintro _ _ _ _ ⟨rfl, rfl, rfl, rfl⟩
        refine V_if_ne (tgt := 41) dX12_laysTable_35 rfl (fun _ => ?_) (fun h => absurd h (by decide))
        refine V_aload_n dX12_laysTable_41 rfl ?_
        refine V_iconst (v := nI 0) dX12_laysTable_42 rfl ?_
        refine V_iload_n dX12_laysTable_43 rfl ?_
        refine V_iload_n dX12_laysTable_44 rfl ?_
        refine V_callV (As := [.int (nI 0), .int (nI j), .int (nI k)]) (st := []) (a := 62) dX12_laysTable_45 kX12_solves lX12_385 (by decide) rfl rfl (Nat.le_of_ble_eq_true rfl) ⟨Nat.le_of_ble_eq_true rfl, Nat.le_of_ble_eq_true rfl⟩ ⟨Nat.le_of_ble_eq_true rfl, Nat.le_of_ble_eq_true rfl⟩ rfl ⟨rfl, by decide⟩ (w_solT i1 i3 h6 h10 (ruX_k hj) (ruX_k hk)) ?_
        rintro r sh' I2 J2 ⟨rfl, rfl, hq1, hR2, hX2, hq5, hJ2⟩
        refine V_aload_n dX12_laysTable_48 rfl ?_
        refine V_getR (b := 86) dX12_laysTable_49 fX12_82 ⟨Nat.le_of_ble_eq_true rfl, Nat.le_of_ble_eq_true rfl⟩ rfl rfl rfl ?_
        refine V_iconst (v := nI 4) dX12_laysTable_52 rfl ?_
        refine V_iload_n dX12_laysTable_53 rfl ?_
        refine V_imulN dX12_laysTable_54 ?_
        refine V_iload_n dX12_laysTable_55 rfl ?_
        refine V_iaddN dX12_laysTable_56 ?_
        refine V_aload_n dX12_laysTable_57 rfl ?_
        refine V_getR (b := 83) dX12_laysTable_58 fX12_72 ⟨Nat.le_of_ble_eq_true rfl, Nat.le_of_ble_eq_true rfl⟩ rfl rfl rfl ?_
        refine V_aload_n dX12_laysTable_61 rfl ?_
        refine V_iconst (v := nI 0) dX12_laysTable_62 rfl ?_
        refine V_callV (As := [.int (nI 0)]) (st := [.ref 83, .int (nI ((4 * j) + k)), .ref 86]) (a := 62) dX12_laysTable_63 kX12_begin lX12_398 (by decide) rfl rfl (Nat.le_of_ble_eq_true rfl) ⟨Nat.le_of_ble_eq_true rfl, Nat.le_of_ble_eq_true rfl⟩ ⟨Nat.le_of_ble_eq_true rfl, Nat.le_of_ble_eq_true rfl⟩ rfl ⟨rfl, by decide⟩ (w_begin hR2.1.1 (f := 0) (by omega)) ?_
        rintro _ _ _ _ ⟨rfl, rfl, rfl, rfl⟩
        refine V_laldN (k := stN 55 55 (1 - 0)) dX12_laysTable_66 ⟨Nat.le_of_ble_eq_true rfl, Nat.le_of_ble_eq_true rfl⟩ rfl (by decide) (by decide) ?_
        refine V_eqL (y := tbV (rlM ar Mr) (lfM a M) far j k) (hq1 55 55 _ (by decide) (by decide) (by omega)).1 ?_
        refine V_lastN (k := (4 * j) + k) dX12_laysTable_67 ⟨Nat.le_of_ble_eq_true rfl, Nat.le_of_ble_eq_true rfl⟩ rfl (by decide) (by omega) ?_
        refine V_iincN (ls' := [(2, .int (nI (k + 1))), (0, .ref 62), (1, .int (nI j))]) (n := 1) dX12_laysTable_68 rfl rfl (by decide) (by decide) rfl ?_
        refine V_goto (tgt := 17) dX12_laysTable_71 rfl ?_
        refine V_sub2 (ls' := [(0, .ref 62), (1, .int (nI j)), (2, .int (nI (k + 1)))]) (List.forall_mem_cons.mpr ⟨rfl, List.forall_mem_cons.mpr ⟨rfl, List.forall_mem_cons.mpr ⟨rfl, fun _ h => absurd h List.not_mem_nil⟩⟩⟩) ?_
        exact ih (k + 1) I2 _ (by omega) (soR_J hR2 (zwl_o (by decide))) (offX_J (offX_t i2 hX2) (by omega)) hq5 (tbJ_y hj hk i4 (hJ2 86 (by decide)))
      · skip
        refine V_aload_n dX12_laysTable_30 rfl ?_
        refine V_iload_n dX12_laysTable_31 rfl ?_
        refine V_callV (As := [.int (nI k)]) (st := []) (a := 62) dX12_laysTable_32 kX12_isTold lX12_401 (by decide) rfl rfl (Nat.le_of_ble_eq_true rfl) ⟨Nat.le_of_ble_eq_true rfl, Nat.le_of_ble_eq_true rfl⟩ ⟨Nat.le_of_ble_eq_true rfl, Nat.le_of_ble_eq_true rfl⟩ rfl ⟨rfl, by decide⟩ (tldN (cM_x hC i2) hk hk0) ?_
        rintro _ _ _ _ ⟨rfl, rfl, rfl, rfl⟩
        refine V_if_ne (tgt := 41) dX12_laysTable_35 rfl (fun h => absurd h (by decide)) (fun _ => ?_)
        refine V_goto (tgt := 68) dX12_laysTable_38 rfl ?_
        refine V_iincN (ls' := [(2, .int (nI (k + 1))), (0, .ref 62), (1, .int (nI j))]) (n := 1) dX12_laysTable_68 rfl rfl (by decide) (by decide) rfl ?_
        refine V_goto (tgt := 17) dX12_laysTable_71 rfl ?_
        refine V_sub2 (ls' := [(0, .ref 62), (1, .int (nI j)), (2, .int (nI (k + 1)))]) (List.forall_mem_cons.mpr ⟨rfl, List.forall_mem_cons.mpr ⟨rfl, List.forall_mem_cons.mpr ⟨rfl, fun _ h => absurd h List.not_mem_nil⟩⟩⟩) ?_
        exact ih (k + 1) I1 J1 (by omega) i1 i2 i3 (tbJ_n hj hk i4 (fun h => hk0 h.2))
    · skip
      refine V_aload_n dX12_laysTable_22 rfl ?_
      refine V_iload_n dX12_laysTable_23 rfl ?_
      refine V_callV (As := [.int (nI j)]) (st := []) (a := 62) dX12_laysTable_24 kX12_isTold lX12_401 (by decide) rfl rfl (Nat.le_of_ble_eq_true rfl) ⟨Nat.le_of_ble_eq_true rfl, Nat.le_of_ble_eq_true rfl⟩ ⟨Nat.le_of_ble_eq_true rfl, Nat.le_of_ble_eq_true rfl⟩ rfl ⟨rfl, by decide⟩ (tldN (cM_x hC i2) hj hj0) ?_
      rintro _ _ _ _ ⟨rfl, rfl, rfl, rfl⟩
      refine V_if_eq (tgt := 68) dX12_laysTable_27 rfl (fun _ => ?_) (fun h => absurd h (by decide))
      refine V_iincN (ls' := [(2, .int (nI (k + 1))), (0, .ref 62), (1, .int (nI j))]) (n := 1) dX12_laysTable_68 rfl rfl (by decide) (by decide) rfl ?_
      refine V_goto (tgt := 17) dX12_laysTable_71 rfl ?_
      refine V_sub2 (ls' := [(0, .ref 62), (1, .int (nI j)), (2, .int (nI (k + 1)))]) (List.forall_mem_cons.mpr ⟨rfl, List.forall_mem_cons.mpr ⟨rfl, List.forall_mem_cons.mpr ⟨rfl, fun _ h => absurd h List.not_mem_nil⟩⟩⟩) ?_
      exact ih (k + 1) I1 J1 (by omega) i1 i2 i3 (tbJ_n hj hk i4 (fun h => hj0 h.1))

set_option maxRecDepth 100000 in
set_option maxHeartbeats 4000000 in
theorem lp_tabO {G : zG} {I : zI} {J : zJ} {Q : zQ} {a : List (Nat × List (Nat × Nat) × List (Nat × Nat))} {M : Nat → ((Nat → Int32) → Option Int32) × ((Nat → Int32) → Option Int32)} {ar : Nat → List (Nat × List (Nat × Nat) × List (Nat × Nat))} {Mr : Nat → Nat → ((Nat → Int32) → Option Int32) × ((Nat → Int32) → Option Int32)} {far : Nat} (h6 : 6 ≤ far) (h10 : far ≤ 10) {c0 : Nat} {cc : Nat → Nat} (hC : cM I c0 cc) (K : ∀ (I1 : zI) (J1 : zJ), soR I1 J1 a M ar Mr far → offX I J I1 J1 → (∀ j k, j < 4 → k < 4 → 0 < cc j → 0 < cc k → J1 86 (4 * j + k) = tbV (rlM ar Mr) (lfM a M) far j k) → I1 62 5 = nI far → Q none zsh I1 J1) : ∀ n j (I1 : zI) (J1 : zJ), j + n = 4 → soR I1 J1 a M ar Mr far → offX I J I1 J1 → I1 62 5 = nI far → tbJ (rlM ar Mr) (lfM a M) far cc J1 (4 * j) → V G mX12_laysTable 9 Q 10 [(0, .ref 62), (1, .int (nI j))] [] (0, 0) zsh I1 J1 := by
  intro n
  induction n with
  | zero =>
    intro j I1 J1 hjn i1 i2 i3 i4
    refine V_iload_n dX12_laysTable_10 rfl ?_
    refine V_iconst (v := nI 4) dX12_laysTable_11 rfl ?_
    refine V_icmp_geN (tgt := 80) dX12_laysTable_12 rfl (by omega) (by omega) (fun _ => ?_) (fun h => absurd h (by omega))
    exact V_ret ⟨rfl, dX12_laysTable_80⟩ ⟨Nat.le_of_ble_eq_true rfl, Nat.le_of_ble_eq_true rfl⟩ (K I1 J1 i1 i2 (fun j' k' h1 h2 h3 h4 => i4 j' k' h1 h2 (by omega) h3 h4) i3)
  | succ n ih =>
    intro j I1 J1 hjn i1 i2 i3 i4
    refine V_iload_n dX12_laysTable_10 rfl ?_
    refine V_iconst (v := nI 4) dX12_laysTable_11 rfl ?_
    refine V_icmp_geN (tgt := 80) dX12_laysTable_12 rfl (by omega) (by omega) (fun h => absurd h (by omega)) (fun _ => ?_)
    refine V_iconst (v := nI 0) dX12_laysTable_15 rfl ?_
    refine V_istore_n (ls' := [(2, .int (nI 0)), (0, .ref 62), (1, .int (nI j))]) dX12_laysTable_16 (by decide) rfl ?_
    refine V_sub2 (ls' := [(0, .ref 62), (1, .int (nI j)), (2, .int (nI 0))]) (List.forall_mem_cons.mpr ⟨rfl, List.forall_mem_cons.mpr ⟨rfl, List.forall_mem_cons.mpr ⟨rfl, fun _ h => absurd h List.not_mem_nil⟩⟩⟩) ?_
    exact lp_tabI h6 h10 hC (by omega) (fun I2 J2 g1 g2 g3 g4 => ih (j + 1) I2 J2 (by omega) g1 g2 g3 g4) 4 0 I1 J1 (by omega) i1 i2 i3 i4

set_option maxRecDepth 100000 in
set_option maxHeartbeats 4000000 in
theorem w_laysTable {G : zG} {I : zI} {J : zJ} {a : List (Nat × List (Nat × Nat) × List (Nat × Nat))} {M : Nat → ((Nat → Int32) → Option Int32) × ((Nat → Int32) → Option Int32)} {ar : Nat → List (Nat × List (Nat × Nat) × List (Nat × Nat))} {Mr : Nat → Nat → ((Nat → Int32) → Option Int32) × ((Nat → Int32) → Option Int32)} {far : Nat} (hR : soR I J a M ar Mr far) (h6 : 6 ≤ far) (h10 : far ≤ 10) {c0 : Nat} {cc : Nat → Nat} (hC : cM I c0 cc)  : zK G mX12_laysTable 9 [.ref 62] zsh I J (zP (fun r I' J' => r = none ∧ soR I' J' a M ar Mr far ∧ offX I J I' J' ∧ (∀ j k, j < 4 → k < 4 → 0 < cc j → 0 < cc k → J' 86 (4 * j + k) = tbV (rlM ar Mr) (lfM a M) far j k) ∧ I' 62 5 = nI far)) := by
  refine zK_of kX12_laysTable.2.2.2.2.1 (Nat.le_of_ble_eq_true rfl) ?_
  show V G mX12_laysTable 9 _ 0 [(0, .ref 62)] [] (0, 0) zsh I J
  refine V_aload_n dX12_laysTable_0 rfl ?_
  refine V_aload_n dX12_laysTable_1 rfl ?_
  refine V_getI dX12_laysTable_2 fX12_139 ⟨Nat.le_of_ble_eq_true rfl, Nat.le_of_ble_eq_true rfl⟩ rfl rfl ?_
  refine V_eqI (y := nI far) hR.2.1 ?_
  refine V_putW dX12_laysTable_5 fX12_143 ⟨Nat.le_of_ble_eq_true rfl, Nat.le_of_ble_eq_true rfl⟩ rfl rfl rfl ⟨rfl, rfl⟩ ?_
  refine V_iconst (v := nI 0) dX12_laysTable_8 rfl ?_
  refine V_istore_n (ls' := [(1, .int (nI 0)), (0, .ref 62)]) dX12_laysTable_9 (by decide) rfl ?_
  refine V_sub2 (ls' := [(0, .ref 62), (1, .int (nI 0))]) (List.forall_mem_cons.mpr ⟨rfl, List.forall_mem_cons.mpr ⟨rfl, fun _ h => absurd h List.not_mem_nil⟩⟩) ?_
  refine lp_tabO h6 h10 hC (fun I1 J1 g1 g2 g3 g4 => ?_) 4 0 _ J (by omega) (soR_5 hR) (offX_5 offX_r) (show zwr I 62 5 (nI far) 62 5 = nI far from rfl) (fun _ _ _ _ h _ _ => absurd h (by omega))
  exact ⟨rfl, rfl, g1, g2, g3, g4⟩

theorem worS_1 {Rl : Nat → Nat → (Nat → Int32) → Int32} {Lf : Nat → (Nat → Int32) → Int32} {far : Nat} {cc : Nat → Nat} {j : Nat} : worS Rl Lf far cc 1 j = wfL (fun k => tbV Rl Lf far j k) cc 1 4 0 4000000000000000000 := by
  unfold worS
  rw [if_pos rfl, show ruV Rl Lf far 1 j = (fun k => tbV Rl Lf far j k) from funext (fun k => if_pos rfl)]
theorem worS_0 {Rl : Nat → Nat → (Nat → Int32) → Int32} {Lf : Nat → (Nat → Int32) → Int32} {far : Nat} {cc : Nat → Nat} {j : Nat} : worS Rl Lf far cc 0 j = wfL (fun k => tbV Rl Lf far k j) cc 0 4 0 (-4000000000000000000) := by
  unfold worS
  rw [if_neg (by decide), show ruV Rl Lf far 0 j = (fun k => tbV Rl Lf far k j) from funext (fun k => if_neg (by decide))]
section
variable {u : Nat → Int64} {cc : Nat → Nat} {s n j lo : Nat}
theorem gmz (h : 0 < cc j) : gmL u cc s (n + 1) j none 0 = gmL u cc s n (j + 1) (some j) (u j) := if_pos ⟨h, Or.inl rfl⟩
theorem gmf {ch : Option Nat} {x : Int64} (h : ¬ 0 < cc j) : gmL u cc s (n + 1) j ch x = gmL u cc s n (j + 1) ch x := if_neg (fun h2 => h h2.1)
theorem gm1y (h : 0 < cc j) (hX : u lo < u j) : gmL u cc 1 (n + 1) j (some lo) (u lo) = gmL u cc 1 n (j + 1) (some j) (u j) := if_pos ⟨h, Or.inr hX⟩
theorem gm1n (hX : ¬ u lo < u j) : gmL u cc 1 (n + 1) j (some lo) (u lo) = gmL u cc 1 n (j + 1) (some lo) (u lo) := if_neg (fun h => h.2.elim (by simp) hX)
theorem gm0y (h : 0 < cc j) (hX : u j < u lo) : gmL u cc 0 (n + 1) j (some lo) (u lo) = gmL u cc 0 n (j + 1) (some j) (u j) := if_pos ⟨h, Or.inr hX⟩
theorem gm0n (hX : ¬ u j < u lo) : gmL u cc 0 (n + 1) j (some lo) (u lo) = gmL u cc 0 n (j + 1) (some lo) (u lo) := if_neg (fun h => h.2.elim (by simp) hX)
end
theorem i64_g {a b : Int64} (h : ¬ lg_cmp a b ≤ 0) : b < a := Classical.byContradiction (fun g => h (wl_gt.mpr g))
section
variable {lo hi w : Nat} {x y : Int64}
theorem gam_0 (h : w = 0) : gamA (if w < 2 then (some lo, x) else (some hi, y)) w = x := by subst h; rfl
theorem gam_1 (h : w = 1) : gamA (if w < 2 then (some lo, x) else (some hi, y)) w = (nI lo).toInt64 := by subst h; rfl
theorem gam_2 (h : w = 2) : gamA (if w < 2 then (some lo, x) else (some hi, y)) w = y := by subst h; rfl
theorem gam_3 (h : w = 3) : gamA (if w < 2 then (some lo, x) else (some hi, y)) w = (nI hi).toInt64 := by subst h; rfl
end
theorem gamA_n {w : Nat} {x y : Int64} : gamA (if w < 2 then (none, x) else (none, y)) w = -2 := by split <;> rfl
theorem gamS_e {Rl : Nat → Nat → (Nat → Int32) → Int32} {Lf : Nat → (Nat → Int32) → Int32} {far : Nat} {cc : Nat → Nat} {v : Nat} (hv : v < 2 ^ 31) : gamA (gamS Rl Lf far cc (if (nI v).toInt.toNat < 2 then 1 else 0)) (nI v).toInt.toNat = gamA (if v < 2 then gmL (worS Rl Lf far cc 1) cc 1 4 0 none 0 else gmL (worS Rl Lf far cc 0) cc 0 4 0 none 0) v := by
  rw [nI_toInt hv, Int.toNat_natCast]
  by_cases h : v < 2
  · rw [if_pos h, if_pos h]
    rfl
  · rw [if_neg h, if_neg h]
    rfl
set_option maxRecDepth 100000 in
set_option maxHeartbeats 4000000 in
theorem lp_gameS {G : zG} {I : zI} {J : zJ} {Q : zQ} {a : List (Nat × List (Nat × Nat) × List (Nat × Nat))} {M : Nat → ((Nat → Int32) → Option Int32) × ((Nat → Int32) → Option Int32)} {ar : Nat → List (Nat × List (Nat × Nat) × List (Nat × Nat))} {Mr : Nat → Nat → ((Nat → Int32) → Option Int32) × ((Nat → Int32) → Option Int32)} {far : Nat} {c0 : Nat} {cc : Nat → Nat} (hC : cM I c0 cc) {w : Nat} (hw : w ≤ 3) (hTb : (∀ j k, j < 4 → k < 4 → 0 < cc j → 0 < cc k → J 86 (4 * j + k) = tbV (rlM ar Mr) (lfM a M) far j k)) : ∀ n j lo hi, j + n = 4 → (lo < 4 ∧ 0 < cc lo) → (hi < 4 ∧ 0 < cc hi) → Q (some (.long (gamA (if w < 2 then gmL (worS (rlM ar Mr) (lfM a M) far cc 1) cc 1 n j (some lo) (worS (rlM ar Mr) (lfM a M) far cc 1 lo) else gmL (worS (rlM ar Mr) (lfM a M) far cc 0) cc 0 n j (some hi) (worS (rlM ar Mr) (lfM a M) far cc 0 hi)) w))) zsh I J → V G mX12_game 10 Q 24 [(0, .ref 62), (1, .int (nI w)), (2, .int (nI lo)), (3, .int (nI hi)), (4, .int (nI j))] [] (0, 0) zsh I J := by
  intro n
  induction n with
  | zero =>
    intro j lo hi hj hlo hhi hQ
    refine V_iload dX12_game_24 rfl ?_
    refine V_iconst (v := nI 4) dX12_game_26 rfl ?_
    refine V_icmp_geN (tgt := 94) dX12_game_27 rfl (by omega) (by omega) (fun _ => ?_) (fun h => absurd h (by omega))
    refine V_iload_n dX12_game_94 rfl ?_
    refine V_iconst (v := (-1)) dX12_game_95 rfl ?_
    refine V_icmp_ne (tgt := 103) dX12_game_96 rfl (fun _ => ?_) (fun h => absurd h (nI_ne_neg (by omega) (by decide)))
    refine V_iload_n dX12_game_103 rfl ?_
    refine V_if_neN (tgt := 115) dX12_game_104 rfl (by omega) (fun h104 => ?_) (fun h104 => ?_)
    · skip
      refine V_iload_n dX12_game_115 rfl ?_
      refine V_iconst (v := nI 1) dX12_game_116 rfl ?_
      refine V_icmp_neN (tgt := 125) dX12_game_117 rfl (by omega) (by omega) (fun h117 => ?_) (fun h117 => ?_)
      · skip
        refine V_iload_n dX12_game_125 rfl ?_
        refine V_iconst (v := nI 2) dX12_game_126 rfl ?_
        refine V_icmp_neN (tgt := 138) dX12_game_127 rfl (by omega) (by omega) (fun h127 => ?_) (fun h127 => ?_)
        · skip
          refine V_iload_n dX12_game_138 rfl ?_
          refine V_i2l dX12_game_139 ?_
          exact V_lret ⟨rfl, dX12_game_140⟩ ⟨Nat.le_of_ble_eq_true rfl, Nat.le_of_ble_eq_true rfl⟩ (by have h : Q (some (.long (gamA (if w < 2 then (some lo, worS (rlM ar Mr) (lfM a M) far cc 1 lo) else (some hi, worS (rlM ar Mr) (lfM a M) far cc 0 hi)) w))) zsh I J := hQ; rw [gam_3 (by omega)] at h; exact h)
        · skip
          refine V_aload_n dX12_game_130 rfl ?_
          refine V_iload_n dX12_game_131 rfl ?_
          refine V_callV (As := [.int (nI hi)]) (st := []) (a := 62) dX12_game_132 kX12_highOf lX12_414 (by decide) rfl rfl (Nat.le_of_ble_eq_true rfl) ⟨Nat.le_of_ble_eq_true rfl, Nat.le_of_ble_eq_true rfl⟩ ⟨Nat.le_of_ble_eq_true rfl, Nat.le_of_ble_eq_true rfl⟩ rfl ⟨rfl, by decide⟩ (w_highOf hC hhi.1 hhi.2 (v := fun k => tbV (rlM ar Mr) (lfM a M) far k hi) (fun k hk hk0 => hTb k hi hk hhi.1 hk0 hhi.2) (fun k _ _ => vX_b (by decide) (by decide))) ?_
          rintro _ _ _ _ ⟨rfl, rfl, rfl, rfl⟩
          refine V_eqL (y := worS (rlM ar Mr) (lfM a M) far cc 0 hi) worS_0.symm ?_
          refine V_goto (tgt := 140) dX12_game_135 rfl ?_
          exact V_lret ⟨rfl, dX12_game_140⟩ ⟨Nat.le_of_ble_eq_true rfl, Nat.le_of_ble_eq_true rfl⟩ (by have h : Q (some (.long (gamA (if w < 2 then (some lo, worS (rlM ar Mr) (lfM a M) far cc 1 lo) else (some hi, worS (rlM ar Mr) (lfM a M) far cc 0 hi)) w))) zsh I J := hQ; rw [gam_2 (by omega)] at h; exact h)
      · skip
        refine V_iload_n dX12_game_120 rfl ?_
        refine V_i2l dX12_game_121 ?_
        refine V_goto (tgt := 140) dX12_game_122 rfl ?_
        exact V_lret ⟨rfl, dX12_game_140⟩ ⟨Nat.le_of_ble_eq_true rfl, Nat.le_of_ble_eq_true rfl⟩ (by have h : Q (some (.long (gamA (if w < 2 then (some lo, worS (rlM ar Mr) (lfM a M) far cc 1 lo) else (some hi, worS (rlM ar Mr) (lfM a M) far cc 0 hi)) w))) zsh I J := hQ; rw [gam_1 (by omega)] at h; exact h)
    · skip
      refine V_aload_n dX12_game_107 rfl ?_
      refine V_iload_n dX12_game_108 rfl ?_
      refine V_callV (As := [.int (nI lo)]) (st := []) (a := 62) dX12_game_109 kX12_lowOf lX12_410 (by decide) rfl rfl (Nat.le_of_ble_eq_true rfl) ⟨Nat.le_of_ble_eq_true rfl, Nat.le_of_ble_eq_true rfl⟩ ⟨Nat.le_of_ble_eq_true rfl, Nat.le_of_ble_eq_true rfl⟩ rfl ⟨rfl, by decide⟩ (w_lowOf hC hlo.1 hlo.2 (v := fun k => tbV (rlM ar Mr) (lfM a M) far lo k) (fun k hk hk0 => hTb lo k hlo.1 hk hlo.2 hk0) (fun k _ _ => vX_b (by decide) (by decide))) ?_
      rintro _ _ _ _ ⟨rfl, rfl, rfl, rfl⟩
      refine V_eqL (y := worS (rlM ar Mr) (lfM a M) far cc 1 lo) worS_1.symm ?_
      refine V_goto (tgt := 140) dX12_game_112 rfl ?_
      exact V_lret ⟨rfl, dX12_game_140⟩ ⟨Nat.le_of_ble_eq_true rfl, Nat.le_of_ble_eq_true rfl⟩ (by have h : Q (some (.long (gamA (if w < 2 then (some lo, worS (rlM ar Mr) (lfM a M) far cc 1 lo) else (some hi, worS (rlM ar Mr) (lfM a M) far cc 0 hi)) w))) zsh I J := hQ; rw [gam_0 (by omega)] at h; exact h)
  | succ n ih =>
    intro j lo hi hj hlo hhi hQ
    refine V_iload dX12_game_24 rfl ?_
    refine V_iconst (v := nI 4) dX12_game_26 rfl ?_
    refine V_icmp_geN (tgt := 94) dX12_game_27 rfl (by omega) (by omega) (fun h => absurd h (by omega)) (fun _ => ?_)
    by_cases hj0 : 0 < cc j
    · skip
      refine V_aload_n dX12_game_30 rfl ?_
      refine V_iload dX12_game_31 rfl ?_
      refine V_callV (As := [.int (nI j)]) (st := []) (a := 62) dX12_game_33 kX12_isTold lX12_401 (by decide) rfl rfl (Nat.le_of_ble_eq_true rfl) ⟨Nat.le_of_ble_eq_true rfl, Nat.le_of_ble_eq_true rfl⟩ ⟨Nat.le_of_ble_eq_true rfl, Nat.le_of_ble_eq_true rfl⟩ rfl ⟨rfl, by decide⟩ (tldY hC (by omega) hj0) ?_
      rintro _ _ _ _ ⟨rfl, rfl, rfl, rfl⟩
      refine V_if_ne (tgt := 42) dX12_game_36 rfl (fun _ => ?_) (fun h => absurd h (by decide))
      refine V_iload_n dX12_game_42 rfl ?_
      refine V_iconst (v := (-1)) dX12_game_43 rfl ?_
      refine V_icmp_eq (tgt := 62) dX12_game_44 rfl (fun h => absurd h (nI_ne_neg (by omega) (by decide))) (fun _ => ?_)
      refine V_aload_n dX12_game_47 rfl ?_
      refine V_iload dX12_game_48 rfl ?_
      refine V_callV (As := [.int (nI j)]) (st := []) (a := 62) dX12_game_50 kX12_lowOf lX12_410 (by decide) rfl rfl (Nat.le_of_ble_eq_true rfl) ⟨Nat.le_of_ble_eq_true rfl, Nat.le_of_ble_eq_true rfl⟩ ⟨Nat.le_of_ble_eq_true rfl, Nat.le_of_ble_eq_true rfl⟩ rfl ⟨rfl, by decide⟩ (w_lowOf hC (by omega) hj0 (v := fun k => tbV (rlM ar Mr) (lfM a M) far j k) (fun k hk hk0 => hTb j k (by omega) hk hj0 hk0) (fun k _ _ => vX_b (by decide) (by decide))) ?_
      rintro _ _ _ _ ⟨rfl, rfl, rfl, rfl⟩
      refine V_eqL (y := worS (rlM ar Mr) (lfM a M) far cc 1 j) worS_1.symm ?_
      refine V_aload_n dX12_game_53 rfl ?_
      refine V_iload_n dX12_game_54 rfl ?_
      refine V_callV (As := [.int (nI lo)]) (st := [.long (worS (rlM ar Mr) (lfM a M) far cc 1 j)]) (a := 62) dX12_game_55 kX12_lowOf lX12_410 (by decide) rfl rfl (Nat.le_of_ble_eq_true rfl) ⟨Nat.le_of_ble_eq_true rfl, Nat.le_of_ble_eq_true rfl⟩ ⟨Nat.le_of_ble_eq_true rfl, Nat.le_of_ble_eq_true rfl⟩ rfl ⟨rfl, by decide⟩ (w_lowOf hC hlo.1 hlo.2 (v := fun k => tbV (rlM ar Mr) (lfM a M) far lo k) (fun k hk hk0 => hTb lo k hlo.1 hk hlo.2 hk0) (fun k _ _ => vX_b (by decide) (by decide))) ?_
      rintro _ _ _ _ ⟨rfl, rfl, rfl, rfl⟩
      refine V_eqL (y := worS (rlM ar Mr) (lfM a M) far cc 1 lo) worS_1.symm ?_
      refine V_lcmp dX12_game_58 ?_
      refine V_if_le (tgt := 65) dX12_game_59 rfl (fun hX => ?_) (fun hX => ?_)
      · skip
        have hL := gm1n (cc := cc) (n := n) (wl_gt.mp hX)
        refine V_iload_n dX12_game_65 rfl ?_
        refine V_iconst (v := (-1)) dX12_game_66 rfl ?_
        refine V_icmp_eq (tgt := 85) dX12_game_67 rfl (fun h => absurd h (nI_ne_neg (by omega) (by decide))) (fun _ => ?_)
        refine V_aload_n dX12_game_70 rfl ?_
        refine V_iload dX12_game_71 rfl ?_
        refine V_callV (As := [.int (nI j)]) (st := []) (a := 62) dX12_game_73 kX12_highOf lX12_414 (by decide) rfl rfl (Nat.le_of_ble_eq_true rfl) ⟨Nat.le_of_ble_eq_true rfl, Nat.le_of_ble_eq_true rfl⟩ ⟨Nat.le_of_ble_eq_true rfl, Nat.le_of_ble_eq_true rfl⟩ rfl ⟨rfl, by decide⟩ (w_highOf hC (by omega) hj0 (v := fun k => tbV (rlM ar Mr) (lfM a M) far k j) (fun k hk hk0 => hTb k j hk (by omega) hk0 hj0) (fun k _ _ => vX_b (by decide) (by decide))) ?_
        rintro _ _ _ _ ⟨rfl, rfl, rfl, rfl⟩
        refine V_eqL (y := worS (rlM ar Mr) (lfM a M) far cc 0 j) worS_0.symm ?_
        refine V_aload_n dX12_game_76 rfl ?_
        refine V_iload_n dX12_game_77 rfl ?_
        refine V_callV (As := [.int (nI hi)]) (st := [.long (worS (rlM ar Mr) (lfM a M) far cc 0 j)]) (a := 62) dX12_game_78 kX12_highOf lX12_414 (by decide) rfl rfl (Nat.le_of_ble_eq_true rfl) ⟨Nat.le_of_ble_eq_true rfl, Nat.le_of_ble_eq_true rfl⟩ ⟨Nat.le_of_ble_eq_true rfl, Nat.le_of_ble_eq_true rfl⟩ rfl ⟨rfl, by decide⟩ (w_highOf hC hhi.1 hhi.2 (v := fun k => tbV (rlM ar Mr) (lfM a M) far k hi) (fun k hk hk0 => hTb k hi hk hhi.1 hk0 hhi.2) (fun k _ _ => vX_b (by decide) (by decide))) ?_
        rintro _ _ _ _ ⟨rfl, rfl, rfl, rfl⟩
        refine V_eqL (y := worS (rlM ar Mr) (lfM a M) far cc 0 hi) worS_0.symm ?_
        refine V_lcmp dX12_game_81 ?_
        refine V_if_ge (tgt := 88) dX12_game_82 rfl (fun hY => ?_) (fun hY => ?_)
        · skip
          have hH := gm0n (cc := cc) (n := n) (wl_lt.mp hY)
          refine V_iincN (ls' := [(4, .int (nI (j + 1))), (0, .ref 62), (1, .int (nI w)), (2, .int (nI lo)), (3, .int (nI hi))]) (n := 1) dX12_game_88 rfl rfl (by decide) (by decide) rfl ?_
          refine V_goto (tgt := 24) dX12_game_91 rfl ?_
          refine V_sub2 (ls' := [(0, .ref 62), (1, .int (nI w)), (2, .int (nI lo)), (3, .int (nI hi)), (4, .int (nI (j + 1)))]) (List.forall_mem_cons.mpr ⟨rfl, List.forall_mem_cons.mpr ⟨rfl, List.forall_mem_cons.mpr ⟨rfl, List.forall_mem_cons.mpr ⟨rfl, List.forall_mem_cons.mpr ⟨rfl, fun _ h => absurd h List.not_mem_nil⟩⟩⟩⟩⟩) ?_
          rw [hL, hH] at hQ
          exact ih (j + 1) lo hi (by omega) hlo hhi hQ
        · skip
          have hH := gm0y (cc := cc) (n := n) hj0 (i64_y hY)
          refine V_iload dX12_game_85 rfl ?_
          refine V_istore_n (ls' := [(3, .int (nI j)), (0, .ref 62), (1, .int (nI w)), (2, .int (nI lo)), (4, .int (nI j))]) dX12_game_87 (by decide) rfl ?_
          refine V_iincN (ls' := [(4, .int (nI (j + 1))), (3, .int (nI j)), (0, .ref 62), (1, .int (nI w)), (2, .int (nI lo))]) (n := 1) dX12_game_88 rfl rfl (by decide) (by decide) rfl ?_
          refine V_goto (tgt := 24) dX12_game_91 rfl ?_
          refine V_sub2 (ls' := [(0, .ref 62), (1, .int (nI w)), (2, .int (nI lo)), (3, .int (nI j)), (4, .int (nI (j + 1)))]) (List.forall_mem_cons.mpr ⟨rfl, List.forall_mem_cons.mpr ⟨rfl, List.forall_mem_cons.mpr ⟨rfl, List.forall_mem_cons.mpr ⟨rfl, List.forall_mem_cons.mpr ⟨rfl, fun _ h => absurd h List.not_mem_nil⟩⟩⟩⟩⟩) ?_
          rw [hL, hH] at hQ
          exact ih (j + 1) lo j (by omega) hlo ⟨by omega, hj0⟩ hQ
      · skip
        have hL := gm1y (cc := cc) (n := n) hj0 (i64_g hX)
        refine V_iload dX12_game_62 rfl ?_
        refine V_istore_n (ls' := [(2, .int (nI j)), (0, .ref 62), (1, .int (nI w)), (3, .int (nI hi)), (4, .int (nI j))]) dX12_game_64 (by decide) rfl ?_
        refine V_iload_n dX12_game_65 rfl ?_
        refine V_iconst (v := (-1)) dX12_game_66 rfl ?_
        refine V_icmp_eq (tgt := 85) dX12_game_67 rfl (fun h => absurd h (nI_ne_neg (by omega) (by decide))) (fun _ => ?_)
        refine V_aload_n dX12_game_70 rfl ?_
        refine V_iload dX12_game_71 rfl ?_
        refine V_callV (As := [.int (nI j)]) (st := []) (a := 62) dX12_game_73 kX12_highOf lX12_414 (by decide) rfl rfl (Nat.le_of_ble_eq_true rfl) ⟨Nat.le_of_ble_eq_true rfl, Nat.le_of_ble_eq_true rfl⟩ ⟨Nat.le_of_ble_eq_true rfl, Nat.le_of_ble_eq_true rfl⟩ rfl ⟨rfl, by decide⟩ (w_highOf hC (by omega) hj0 (v := fun k => tbV (rlM ar Mr) (lfM a M) far k j) (fun k hk hk0 => hTb k j hk (by omega) hk0 hj0) (fun k _ _ => vX_b (by decide) (by decide))) ?_
        rintro _ _ _ _ ⟨rfl, rfl, rfl, rfl⟩
        refine V_eqL (y := worS (rlM ar Mr) (lfM a M) far cc 0 j) worS_0.symm ?_
        refine V_aload_n dX12_game_76 rfl ?_
        refine V_iload_n dX12_game_77 rfl ?_
        refine V_callV (As := [.int (nI hi)]) (st := [.long (worS (rlM ar Mr) (lfM a M) far cc 0 j)]) (a := 62) dX12_game_78 kX12_highOf lX12_414 (by decide) rfl rfl (Nat.le_of_ble_eq_true rfl) ⟨Nat.le_of_ble_eq_true rfl, Nat.le_of_ble_eq_true rfl⟩ ⟨Nat.le_of_ble_eq_true rfl, Nat.le_of_ble_eq_true rfl⟩ rfl ⟨rfl, by decide⟩ (w_highOf hC hhi.1 hhi.2 (v := fun k => tbV (rlM ar Mr) (lfM a M) far k hi) (fun k hk hk0 => hTb k hi hk hhi.1 hk0 hhi.2) (fun k _ _ => vX_b (by decide) (by decide))) ?_
        rintro _ _ _ _ ⟨rfl, rfl, rfl, rfl⟩
        refine V_eqL (y := worS (rlM ar Mr) (lfM a M) far cc 0 hi) worS_0.symm ?_
        refine V_lcmp dX12_game_81 ?_
        refine V_if_ge (tgt := 88) dX12_game_82 rfl (fun hY => ?_) (fun hY => ?_)
        · skip
          have hH := gm0n (cc := cc) (n := n) (wl_lt.mp hY)
          refine V_iincN (ls' := [(4, .int (nI (j + 1))), (2, .int (nI j)), (0, .ref 62), (1, .int (nI w)), (3, .int (nI hi))]) (n := 1) dX12_game_88 rfl rfl (by decide) (by decide) rfl ?_
          refine V_goto (tgt := 24) dX12_game_91 rfl ?_
          refine V_sub2 (ls' := [(0, .ref 62), (1, .int (nI w)), (2, .int (nI j)), (3, .int (nI hi)), (4, .int (nI (j + 1)))]) (List.forall_mem_cons.mpr ⟨rfl, List.forall_mem_cons.mpr ⟨rfl, List.forall_mem_cons.mpr ⟨rfl, List.forall_mem_cons.mpr ⟨rfl, List.forall_mem_cons.mpr ⟨rfl, fun _ h => absurd h List.not_mem_nil⟩⟩⟩⟩⟩) ?_
          rw [hL, hH] at hQ
          exact ih (j + 1) j hi (by omega) ⟨by omega, hj0⟩ hhi hQ
        · skip
          have hH := gm0y (cc := cc) (n := n) hj0 (i64_y hY)
          refine V_iload dX12_game_85 rfl ?_
          refine V_istore_n (ls' := [(3, .int (nI j)), (2, .int (nI j)), (0, .ref 62), (1, .int (nI w)), (4, .int (nI j))]) dX12_game_87 (by decide) rfl ?_
          refine V_iincN (ls' := [(4, .int (nI (j + 1))), (3, .int (nI j)), (2, .int (nI j)), (0, .ref 62), (1, .int (nI w))]) (n := 1) dX12_game_88 rfl rfl (by decide) (by decide) rfl ?_
          refine V_goto (tgt := 24) dX12_game_91 rfl ?_
          refine V_sub2 (ls' := [(0, .ref 62), (1, .int (nI w)), (2, .int (nI j)), (3, .int (nI j)), (4, .int (nI (j + 1)))]) (List.forall_mem_cons.mpr ⟨rfl, List.forall_mem_cons.mpr ⟨rfl, List.forall_mem_cons.mpr ⟨rfl, List.forall_mem_cons.mpr ⟨rfl, List.forall_mem_cons.mpr ⟨rfl, fun _ h => absurd h List.not_mem_nil⟩⟩⟩⟩⟩) ?_
          rw [hL, hH] at hQ
          exact ih (j + 1) j j (by omega) ⟨by omega, hj0⟩ ⟨by omega, hj0⟩ hQ
    · skip
      refine V_aload_n dX12_game_30 rfl ?_
      refine V_iload dX12_game_31 rfl ?_
      refine V_callV (As := [.int (nI j)]) (st := []) (a := 62) dX12_game_33 kX12_isTold lX12_401 (by decide) rfl rfl (Nat.le_of_ble_eq_true rfl) ⟨Nat.le_of_ble_eq_true rfl, Nat.le_of_ble_eq_true rfl⟩ ⟨Nat.le_of_ble_eq_true rfl, Nat.le_of_ble_eq_true rfl⟩ rfl ⟨rfl, by decide⟩ (tldN hC (by omega) hj0) ?_
      rintro _ _ _ _ ⟨rfl, rfl, rfl, rfl⟩
      refine V_if_ne (tgt := 42) dX12_game_36 rfl (fun h => absurd h (by decide)) (fun _ => ?_)
      refine V_goto (tgt := 88) dX12_game_39 rfl ?_
      refine V_iincN (ls' := [(4, .int (nI (j + 1))), (0, .ref 62), (1, .int (nI w)), (2, .int (nI lo)), (3, .int (nI hi))]) (n := 1) dX12_game_88 rfl rfl (by decide) (by decide) rfl ?_
      refine V_goto (tgt := 24) dX12_game_91 rfl ?_
      refine V_sub2 (ls' := [(0, .ref 62), (1, .int (nI w)), (2, .int (nI lo)), (3, .int (nI hi)), (4, .int (nI (j + 1)))]) (List.forall_mem_cons.mpr ⟨rfl, List.forall_mem_cons.mpr ⟨rfl, List.forall_mem_cons.mpr ⟨rfl, List.forall_mem_cons.mpr ⟨rfl, List.forall_mem_cons.mpr ⟨rfl, fun _ h => absurd h List.not_mem_nil⟩⟩⟩⟩⟩) ?_
      rw [gmf hj0, gmf hj0] at hQ
      exact ih (j + 1) lo hi (by omega) hlo hhi hQ

set_option maxRecDepth 100000 in
set_option maxHeartbeats 4000000 in
theorem lp_gameN {G : zG} {I : zI} {J : zJ} {Q : zQ} {a : List (Nat × List (Nat × Nat) × List (Nat × Nat))} {M : Nat → ((Nat → Int32) → Option Int32) × ((Nat → Int32) → Option Int32)} {ar : Nat → List (Nat × List (Nat × Nat) × List (Nat × Nat))} {Mr : Nat → Nat → ((Nat → Int32) → Option Int32) × ((Nat → Int32) → Option Int32)} {far : Nat} {c0 : Nat} {cc : Nat → Nat} (hC : cM I c0 cc) {w : Nat} (hw : w ≤ 3) (hTb : (∀ j k, j < 4 → k < 4 → 0 < cc j → 0 < cc k → J 86 (4 * j + k) = tbV (rlM ar Mr) (lfM a M) far j k)) : ∀ n j, j + n = 4 → Q (some (.long (gamA (if w < 2 then gmL (worS (rlM ar Mr) (lfM a M) far cc 1) cc 1 n j none 0 else gmL (worS (rlM ar Mr) (lfM a M) far cc 0) cc 0 n j none 0) w))) zsh I J → V G mX12_game 10 Q 24 [(0, .ref 62), (1, .int (nI w)), (2, .int (-1)), (3, .int (-1)), (4, .int (nI j))] [] (0, 0) zsh I J := by
  intro n
  induction n with
  | zero =>
    intro j hj hQ
    refine V_iload dX12_game_24 rfl ?_
    refine V_iconst (v := nI 4) dX12_game_26 rfl ?_
    refine V_icmp_geN (tgt := 94) dX12_game_27 rfl (by omega) (by omega) (fun _ => ?_) (fun h => absurd h (by omega))
    refine V_iload_n dX12_game_94 rfl ?_
    refine V_iconst (v := (-1)) dX12_game_95 rfl ?_
    refine V_icmp_ne (tgt := 103) dX12_game_96 rfl (fun h => absurd h (by decide)) (fun _ => ?_)
    refine V_ldc2 dX12_game_99 qX12_417 ?_
    exact V_lret ⟨rfl, dX12_game_102⟩ ⟨Nat.le_of_ble_eq_true rfl, Nat.le_of_ble_eq_true rfl⟩ (by have h : Q (some (.long (gamA (if w < 2 then (none, 0) else (none, 0)) w))) zsh I J := hQ; rw [gamA_n] at h; exact h)
  | succ n ih =>
    intro j hj hQ
    refine V_iload dX12_game_24 rfl ?_
    refine V_iconst (v := nI 4) dX12_game_26 rfl ?_
    refine V_icmp_geN (tgt := 94) dX12_game_27 rfl (by omega) (by omega) (fun h => absurd h (by omega)) (fun _ => ?_)
    by_cases hj0 : 0 < cc j
    · skip
      refine V_aload_n dX12_game_30 rfl ?_
      refine V_iload dX12_game_31 rfl ?_
      refine V_callV (As := [.int (nI j)]) (st := []) (a := 62) dX12_game_33 kX12_isTold lX12_401 (by decide) rfl rfl (Nat.le_of_ble_eq_true rfl) ⟨Nat.le_of_ble_eq_true rfl, Nat.le_of_ble_eq_true rfl⟩ ⟨Nat.le_of_ble_eq_true rfl, Nat.le_of_ble_eq_true rfl⟩ rfl ⟨rfl, by decide⟩ (tldY hC (by omega) hj0) ?_
      rintro _ _ _ _ ⟨rfl, rfl, rfl, rfl⟩
      refine V_if_ne (tgt := 42) dX12_game_36 rfl (fun _ => ?_) (fun h => absurd h (by decide))
      refine V_iload_n dX12_game_42 rfl ?_
      refine V_iconst (v := (-1)) dX12_game_43 rfl ?_
      refine V_icmp_eq (tgt := 62) dX12_game_44 rfl (fun _ => ?_) (fun h => absurd h (by decide))
      refine V_iload dX12_game_62 rfl ?_
      refine V_istore_n (ls' := [(2, .int (nI j)), (0, .ref 62), (1, .int (nI w)), (3, .int (-1)), (4, .int (nI j))]) dX12_game_64 (by decide) rfl ?_
      refine V_iload_n dX12_game_65 rfl ?_
      refine V_iconst (v := (-1)) dX12_game_66 rfl ?_
      refine V_icmp_eq (tgt := 85) dX12_game_67 rfl (fun _ => ?_) (fun h => absurd h (by decide))
      refine V_iload dX12_game_85 rfl ?_
      refine V_istore_n (ls' := [(3, .int (nI j)), (2, .int (nI j)), (0, .ref 62), (1, .int (nI w)), (4, .int (nI j))]) dX12_game_87 (by decide) rfl ?_
      refine V_iincN (ls' := [(4, .int (nI (j + 1))), (3, .int (nI j)), (2, .int (nI j)), (0, .ref 62), (1, .int (nI w))]) (n := 1) dX12_game_88 rfl rfl (by decide) (by decide) rfl ?_
      refine V_goto (tgt := 24) dX12_game_91 rfl ?_
      refine V_sub2 (ls' := [(0, .ref 62), (1, .int (nI w)), (2, .int (nI j)), (3, .int (nI j)), (4, .int (nI (j + 1)))]) (List.forall_mem_cons.mpr ⟨rfl, List.forall_mem_cons.mpr ⟨rfl, List.forall_mem_cons.mpr ⟨rfl, List.forall_mem_cons.mpr ⟨rfl, List.forall_mem_cons.mpr ⟨rfl, fun _ h => absurd h List.not_mem_nil⟩⟩⟩⟩⟩) ?_
      rw [gmz hj0, gmz hj0] at hQ
      exact lp_gameS hC hw hTb n (j + 1) j j (by omega) ⟨by omega, hj0⟩ ⟨by omega, hj0⟩ hQ
    · skip
      refine V_aload_n dX12_game_30 rfl ?_
      refine V_iload dX12_game_31 rfl ?_
      refine V_callV (As := [.int (nI j)]) (st := []) (a := 62) dX12_game_33 kX12_isTold lX12_401 (by decide) rfl rfl (Nat.le_of_ble_eq_true rfl) ⟨Nat.le_of_ble_eq_true rfl, Nat.le_of_ble_eq_true rfl⟩ ⟨Nat.le_of_ble_eq_true rfl, Nat.le_of_ble_eq_true rfl⟩ rfl ⟨rfl, by decide⟩ (tldN hC (by omega) hj0) ?_
      rintro _ _ _ _ ⟨rfl, rfl, rfl, rfl⟩
      refine V_if_ne (tgt := 42) dX12_game_36 rfl (fun h => absurd h (by decide)) (fun _ => ?_)
      refine V_goto (tgt := 88) dX12_game_39 rfl ?_
      refine V_iincN (ls' := [(4, .int (nI (j + 1))), (0, .ref 62), (1, .int (nI w)), (2, .int (-1)), (3, .int (-1))]) (n := 1) dX12_game_88 rfl rfl (by decide) (by decide) rfl ?_
      refine V_goto (tgt := 24) dX12_game_91 rfl ?_
      refine V_sub2 (ls' := [(0, .ref 62), (1, .int (nI w)), (2, .int (-1)), (3, .int (-1)), (4, .int (nI (j + 1)))]) (List.forall_mem_cons.mpr ⟨rfl, List.forall_mem_cons.mpr ⟨rfl, List.forall_mem_cons.mpr ⟨rfl, List.forall_mem_cons.mpr ⟨rfl, List.forall_mem_cons.mpr ⟨rfl, fun _ h => absurd h List.not_mem_nil⟩⟩⟩⟩⟩) ?_
      rw [gmf hj0, gmf hj0] at hQ
      exact ih (j + 1) (by omega) hQ

set_option maxRecDepth 100000 in
set_option maxHeartbeats 4000000 in
theorem w_game {G : zG} {I : zI} {J : zJ} {a : List (Nat × List (Nat × Nat) × List (Nat × Nat))} {M : Nat → ((Nat → Int32) → Option Int32) × ((Nat → Int32) → Option Int32)} {ar : Nat → List (Nat × List (Nat × Nat) × List (Nat × Nat))} {Mr : Nat → Nat → ((Nat → Int32) → Option Int32) × ((Nat → Int32) → Option Int32)} {far : Nat} (hR : soR I J a M ar Mr far) (h6 : 6 ≤ far) (h10 : far ≤ 10) (hf5 : I 62 5 = nI far) {c0 : Nat} {cc : Nat → Nat} (hC : cM I c0 cc) {w : Int32} : zK G mX12_game 10 [.ref 62, .int w] zsh I J (zP (fun r I' J' => r = some (.long (if inZ w 0 3 then gamA (gamS (rlM ar Mr) (lfM a M) far cc (if w.toInt.toNat < 2 then 1 else 0)) w.toInt.toNat else -1)) ∧ soR I' J' a M ar Mr far ∧ offX I J I' J' ∧ I' 62 5 = nI far)) := by
  refine zK_of kX12_game.2.2.2.2.1 (Nat.le_of_ble_eq_true rfl) ?_
  show V G mX12_game 10 _ 0 [(0, .ref 62), (1, .int w)] [] (0, 0) zsh I J
  by_cases hw : inZ w 0 3
  · obtain ⟨v, rfl, hv1, hv2⟩ := inZ_n hw (by decide)
    refine V_iload_n dX12_game_0 rfl ?_
    refine V_iconst (v := nI 0) dX12_game_1 rfl ?_
    refine V_iconst (v := nI 3) dX12_game_2 rfl ?_
    refine V_callS (As := [.int (nI v), .int (nI 0), .int (nI 3)]) (st := []) dX12_game_3 kX12_in lX12_173 (by decide) rfl rfl (Nat.le_of_ble_eq_true rfl) ⟨Nat.le_of_ble_eq_true rfl, Nat.le_of_ble_eq_true rfl⟩ (w_inY (a := 0) (b := 3) (by decide) (by decide) ((inZ_k (by omega)).mpr (by omega))) ?_
    rintro _ _ _ _ ⟨rfl, rfl, rfl, rfl⟩
    refine V_if_ne (tgt := 13) dX12_game_6 rfl (fun _ => ?_) (fun h => absurd h (by decide))
    refine V_iconst (v := (-1)) dX12_game_13 rfl ?_
    refine V_istore_n (ls' := [(2, .int (-1)), (0, .ref 62), (1, .int (nI v))]) dX12_game_14 (by decide) rfl ?_
    refine V_iconst (v := (-1)) dX12_game_15 rfl ?_
    refine V_istore_n (ls' := [(3, .int (-1)), (2, .int (-1)), (0, .ref 62), (1, .int (nI v))]) dX12_game_16 (by decide) rfl ?_
    refine V_aload_n dX12_game_17 rfl ?_
    refine V_callV (As := []) (st := []) (a := 62) dX12_game_18 kX12_laysTable lX12_407 (by decide) rfl rfl (Nat.le_of_ble_eq_true rfl) ⟨Nat.le_of_ble_eq_true rfl, Nat.le_of_ble_eq_true rfl⟩ ⟨Nat.le_of_ble_eq_true rfl, Nat.le_of_ble_eq_true rfl⟩ rfl ⟨rfl, by decide⟩ (w_laysTable hR h6 h10 hC) ?_
    rintro r sh' I1 J1 ⟨rfl, rfl, hR1, hX1, hT1, hf1⟩
    refine V_iconst (v := nI 0) dX12_game_21 rfl ?_
    refine V_istore (ls' := [(4, .int (nI 0)), (3, .int (-1)), (2, .int (-1)), (0, .ref 62), (1, .int (nI v))]) dX12_game_22 (by decide) rfl ?_
    refine V_sub2 (ls' := [(0, .ref 62), (1, .int (nI v)), (2, .int (-1)), (3, .int (-1)), (4, .int (nI 0))]) (List.forall_mem_cons.mpr ⟨rfl, List.forall_mem_cons.mpr ⟨rfl, List.forall_mem_cons.mpr ⟨rfl, List.forall_mem_cons.mpr ⟨rfl, List.forall_mem_cons.mpr ⟨rfl, fun _ h => absurd h List.not_mem_nil⟩⟩⟩⟩⟩) ?_
    exact lp_gameN (cM_x hC hX1) (w := v) (by omega) hT1 4 0 rfl ⟨rfl, congrArg (fun z => some (Value.long z)) ((if_pos hw).trans (gamS_e (by omega))).symm, hR1, hX1, hf1⟩
  · skip
    refine V_iload_n dX12_game_0 rfl ?_
    refine V_iconst (v := nI 0) dX12_game_1 rfl ?_
    refine V_iconst (v := nI 3) dX12_game_2 rfl ?_
    refine V_callS (As := [.int w, .int (nI 0), .int (nI 3)]) (st := []) dX12_game_3 kX12_in lX12_173 (by decide) rfl rfl (Nat.le_of_ble_eq_true rfl) ⟨Nat.le_of_ble_eq_true rfl, Nat.le_of_ble_eq_true rfl⟩ (w_inN (a := 0) (b := 3) (by decide) (by decide) hw) ?_
    rintro _ _ _ _ ⟨rfl, rfl, rfl, rfl⟩
    refine V_if_ne (tgt := 13) dX12_game_6 rfl (fun h => absurd h (by decide)) (fun _ => ?_)
    refine V_ldc2 dX12_game_9 qX12_393 ?_
    exact V_lret ⟨rfl, dX12_game_12⟩ ⟨Nat.le_of_ble_eq_true rfl, Nat.le_of_ble_eq_true rfl⟩ ⟨rfl, congrArg (fun z => some (Value.long z)) (if_neg hw).symm, hR, offX_r, hf5⟩

