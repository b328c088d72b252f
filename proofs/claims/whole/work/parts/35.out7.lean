/-! THE CLASS: a law, a rule taken -/
theorem pTxt_pl {tx : Nat → Nat} {n b : Nat} : ∀ k p acc, plA acc acc.length + 3 * acc.length ≤ p → (pTxt tx n b k p (plA acc acc.length) acc.length acc).1 = 0 → plA (pTxt tx n b k p (plA acc acc.length) acc.length acc).2.2 (pTxt tx n b k p (plA acc acc.length) acc.length acc).2.2.length + 3 * (pTxt tx n b k p (plA acc acc.length) acc.length acc).2.2.length ≤ (pTxt tx n b k p (plA acc acc.length) acc.length acc).2.1 := by
  intro k
  induction k with
  | zero => intro p acc h _; exact h
  | succ k ih =>
    intro p acc hp h
    have hln := fun h => pCls_len (tx := tx) (n := n) (b := b) (p := p) (s := plA acc acc.length) (cl := acc.length) h
    obtain ⟨fc, q, g1, g2, hr⟩ := ex4 (pCls tx n b p (plA acc acc.length) acc.length)
    unfold pTxt at h ⊢
    rw [hr] at h hln ⊢
    by_cases h0 : fc = 0
    · rw [if_neg (fun h => h h0)] at h ⊢
      have hl : p + 3 + g1.length + g2.length ≤ q := (hln h0).2.2
      have hlq2 : (acc ++ [(sgn tx n p, g1, g2)]).length = acc.length + 1 := by rw [List.length_append]; rfl
      have hpq : plA (acc ++ [(sgn tx n p, g1, g2)]) (acc ++ [(sgn tx n p, g1, g2)]).length = plA acc acc.length + g1.length + g2.length := by rw [hlq2]; exact plA_end
      by_cases c1 : n ≤ q
      · rw [if_pos c1]
        show plA (acc ++ [(sgn tx n p, g1, g2)]) (acc ++ [(sgn tx n p, g1, g2)]).length + 3 * (acc ++ [(sgn tx n p, g1, g2)]).length ≤ q
        rw [hpq, hlq2]
        omega
      · rw [if_neg c1] at h ⊢
        by_cases c2 : sgn tx n q = 59
        · rw [if_neg (fun h => h c2)] at h ⊢
          have e : pTxt tx n b k (q + 1) (plA acc acc.length + g1.length + g2.length) (acc.length + 1) (acc ++ [(sgn tx n p, g1, g2)]) = pTxt tx n b k (q + 1) (plA (acc ++ [(sgn tx n p, g1, g2)]) (acc ++ [(sgn tx n p, g1, g2)]).length) (acc ++ [(sgn tx n p, g1, g2)]).length (acc ++ [(sgn tx n p, g1, g2)]) := by rw [hpq, hlq2]
          have h2 : (pTxt tx n b k (q + 1) (plA (acc ++ [(sgn tx n p, g1, g2)]) (acc ++ [(sgn tx n p, g1, g2)]).length) (acc ++ [(sgn tx n p, g1, g2)]).length (acc ++ [(sgn tx n p, g1, g2)])).1 = 0 := by rw [← e]; exact h
          have := ih (q + 1) (acc ++ [(sgn tx n p, g1, g2)]) (by rw [hpq, hlq2]; omega) h2
          rw [← e] at this
          exact this
        · rw [if_pos c2] at h; exact absurd h (Nat.succ_ne_zero _)
    · rw [if_pos h0] at h; exact absurd h h0
theorem pTxt_240 {tx : Nat → Nat} {n b : Nat} (hn : n ≤ 240) (h : (pTxt tx n b 17 0 0 0 []).1 = 0) : plA (pTxt tx n b 17 0 0 0 []).2.2 (pTxt tx n b 17 0 0 0 []).2.2.length + 3 * (pTxt tx n b 17 0 0 0 []).2.2.length ≤ 240 := by
  have h1 := pTxt_pl (tx := tx) (n := n) (b := b) 17 0 [] (Nat.le_refl _) h
  have h2 := (pTxt_n (tx := tx) (n := n) (b := b) 17 0 0 0 [] (Nat.zero_le _) rfl rfl (Nat.zero_le _)).1.2
  exact Nat.le_trans h1 (Nat.le_trans h2 hn)
/-- what a text leaves the tape and the reader with -/
def rdO (I I' : zI) : Prop := ∀ a, a ≠ 3 → a ≠ 5 → a ≠ 6 → a ≠ 7 → a ≠ 8 → I' a = I a
def lawP (I : zI) (J : zJ) (T : Nat × Nat × List (Nat × List (Nat × Nat) × List (Nat × Nat))) (I' : zI) (J' : zJ) : Prop :=
  I' 3 1 = nI 0 ∧ (T.1 = 0 → clOK (I' 17) T.2.2 ∧ I' 16 2 = nI T.2.2.length ∧ I' 36 5 = -1 ∧ I' 9 4 = I 9 4 ∧ (∀ j, j < 3822 → I' 30 j = nI 0) ∧ I' 9 12 = -1 ∧ I' 9 6 = nI 0 ∧ (∀ j, j < 10 → J' 32 j = -4000000000000000000) ∧ (∀ a, a ≠ 3 → a ≠ 5 → a ≠ 6 → a ≠ 7 → a ≠ 8 → a ≠ 9 → a ≠ 16 → a ≠ 17 → a ≠ 30 → a ≠ 36 → I' a = I a) ∧ ∀ a, a ≠ 32 → J' a = J a) ∧ (T.1 ≠ 0 → rdO I I' ∧ J' = J)
def rulP (k : Nat) (I : zI) (J : zJ) (T : Nat × Nat × List (Nat × List (Nat × Nat) × List (Nat × Nat))) (I' : zI) (J' : zJ) : Prop :=
  I' 3 1 = nI 0 ∧ J' = J ∧ (T.1 = 0 → clOK (I' (19 + 2 * k + 1)) T.2.2 ∧ I' (19 + 2 * k) 2 = nI T.2.2.length ∧ I' 9 6 = nI 0 ∧ (∀ j, j ≠ 6 → I' 9 j = I 9 j) ∧ ∀ a, a ≠ 3 → a ≠ 5 → a ≠ 6 → a ≠ 7 → a ≠ 8 → a ≠ 9 → a ≠ 19 + 2 * k → a ≠ 19 + 2 * k + 1 → I' a = I a) ∧ (T.1 ≠ 0 → rdO I I')
theorem clOK_cp {f g : Nat → Int32} {tx : Nat → Nat} {n b : Nat} (hn : n ≤ 240) (h : (pTxt tx n b 17 0 0 0 []).1 = 0) (hc : clOK f (pTxt tx n b 17 0 0 0 []).2.2) : clOK (zcp f g 240) (pTxt tx n b 17 0 0 0 []).2.2 := clOK_o hc (pTxt_240 hn h) (fun i hi => if_pos hi)
set_option maxRecDepth 100000 in
set_option maxHeartbeats 4000000 in
theorem c_lawY {G : zG} {I : zI} {J : zJ} {t : Nat} (ht : I 3 1 = nI t) (ht2 : t ≤ 260) (hby : ∀ j, fits .byte (.int (I 4 j)) = true) {n : Nat} (h1 : 1 ≤ n) (h2 : n ≤ 240) (h3 : n ≤ t) : zK G mX11_law 18 [.ref 2, .int (nI n)] zsh I J (zP (fun r I' J' => r = some (.int (if (pTxt (txI (I 4)) n 1 17 0 0 0 []).1 = 0 then nI (pTxt (txI (I 4)) n 1 17 0 0 0 []).2.2.length else fltI (pTxt (txI (I 4)) n 1 17 0 0 0 []).1 (pTxt (txI (I 4)) n 1 17 0 0 0 []).2.1)) ∧ lawP I J (pTxt (txI (I 4)) n 1 17 0 0 0 []) I' J')) := by
  refine zK_of kX11_law.2.2.2.2.1 (Nat.le_of_ble_eq_true rfl) ?_
  show V G mX11_law 18 _ 0 [(0, .ref 2), (1, .int (nI n))] [] (0, 0) zsh I J
  have hT := pTxt_n (tx := txI (I 4)) (n := n) (b := 1) 17 0 0 0 [] (Nat.zero_le _) rfl rfl (Nat.zero_le _)
  have hT2 := hT.2
  refine V_aload_n dX11_law_0 rfl ?_
  refine V_iload_n dX11_law_1 rfl ?_
  refine V_sipush (v := nI 240) dX11_law_2 rfl ?_
  refine V_callV (As := [.int (nI n), .int (nI 240)]) (st := []) (a := 2) dX11_law_5 kX11_canTake lX11_113 (by decide) rfl rfl (Nat.le_of_ble_eq_true rfl) ⟨Nat.le_of_ble_eq_true rfl, Nat.le_of_ble_eq_true rfl⟩ ⟨Nat.le_of_ble_eq_true rfl, Nat.le_of_ble_eq_true rfl⟩ rfl ⟨rfl, by decide⟩ (q_y (q_canTake ht ht2 (by decide)) (tkO_k h1 h2 h3 (by decide))) ?_
  rintro _ _ _ _ ⟨rfl, rfl, rfl, rfl⟩
  refine V_if_ne (tgt := 13) dX11_law_8 rfl (fun _ => ?_) (fun h => absurd h (by decide))
  refine V_aload_n dX11_law_13 rfl ?_
  refine V_getR (b := 5) dX11_law_14 fX11_26 ⟨Nat.le_of_ble_eq_true rfl, Nat.le_of_ble_eq_true rfl⟩ rfl rfl rfl ?_
  refine V_aload_n dX11_law_17 rfl ?_
  refine V_getR (b := 3) dX11_law_18 fX11_19 ⟨Nat.le_of_ble_eq_true rfl, Nat.le_of_ble_eq_true rfl⟩ rfl rfl rfl ?_
  refine V_getR (b := 4) dX11_law_21 fX11_117 ⟨Nat.le_of_ble_eq_true rfl, Nat.le_of_ble_eq_true rfl⟩ rfl rfl rfl ?_
  refine V_iload_n dX11_law_24 rfl ?_
  refine V_iconst (v := nI 1) dX11_law_25 rfl ?_
  by_cases h0 : (pTxt (txI (I 4)) n 1 17 0 0 0 []).1 = 0
  · skip
    refine V_callV (As := [.ref 4, .int (nI n), .int (nI 1)]) (st := []) (a := 5) dX11_law_26 kX1_readText lX11_121 (by decide) rfl rfl (Nat.le_of_ble_eq_true rfl) ⟨Nat.le_of_ble_eq_true rfl, Nat.le_of_ble_eq_true rfl⟩ ⟨Nat.le_of_ble_eq_true rfl, Nat.le_of_ble_eq_true rfl⟩ rfl ⟨rfl, by decide⟩ (c_readText1 (by omega) (by decide) (fun j _ => hby j)) ?_
    rintro r sh' I1 J1 ⟨rfl, hJ1, g1, hv, g2⟩
    subst hJ1
    have hv2 : r = some (.int (nI (pTxt (txI (I 4)) n 1 17 0 0 0 []).2.2.length)) := by rw [hv, if_pos h0]
    subst hv2
    obtain ⟨g3, g4, z1, hz1, g5⟩ := g2 h0
    refine V_istore_n (ls' := [(2, .int (nI ((pTxt (txI (I 4)) n 1 17 0 0 0 []).2.2.length))), (0, .ref 2), (1, .int (nI n))]) dX11_law_29 (by decide) rfl ?_
    refine V_aload_n dX11_law_30 rfl ?_
    refine V_getR (b := 3) dX11_law_31 fX11_19 ⟨Nat.le_of_ble_eq_true rfl, Nat.le_of_ble_eq_true rfl⟩ rfl rfl rfl ?_
    refine V_iconst (v := nI 0) dX11_law_34 rfl ?_
    refine V_putW dX11_law_35 fX11_110 ⟨Nat.le_of_ble_eq_true rfl, Nat.le_of_ble_eq_true rfl⟩ rfl rfl rfl ⟨rfl, rfl⟩ ?_
    refine V_iload_n dX11_law_38 rfl ?_
    have hT3 := hT2 h0
    refine V_if_leN (tgt := 70) dX11_law_39 rfl (by omega) (fun h => absurd h (by omega)) (fun _ => ?_)
    refine V_aload_n dX11_law_42 rfl ?_
    refine V_getR (b := 16) dX11_law_43 fX11_46 ⟨Nat.le_of_ble_eq_true rfl, Nat.le_of_ble_eq_true rfl⟩ rfl rfl rfl ?_
    refine V_aload_n dX11_law_46 rfl ?_
    refine V_getR (b := 5) dX11_law_47 fX11_26 ⟨Nat.le_of_ble_eq_true rfl, Nat.le_of_ble_eq_true rfl⟩ rfl rfl rfl ?_
    refine V_getR (b := 6) dX11_law_50 fX11_125 ⟨Nat.le_of_ble_eq_true rfl, Nat.le_of_ble_eq_true rfl⟩ rfl rfl rfl ?_
    refine V_callV (As := [.ref 6]) (st := []) (a := 16) dX11_law_53 kX8_copyFrom lX11_128 (by decide) rfl rfl (Nat.le_of_ble_eq_true rfl) ⟨Nat.le_of_ble_eq_true rfl, Nat.le_of_ble_eq_true rfl⟩ ⟨Nat.le_of_ble_eq_true rfl, Nat.le_of_ble_eq_true rfl⟩ rfl ⟨rfl, by decide⟩ (c_copyFrom8 prog_16 (by decide)) ?_
    rintro r sh' I' J' ⟨rfl, rfl, rfl, rfl⟩
    refine V_aload_n dX11_law_56 rfl ?_
    refine V_getR (b := 9) dX11_law_57 fX11_33 ⟨Nat.le_of_ble_eq_true rfl, Nat.le_of_ble_eq_true rfl⟩ rfl rfl rfl ?_
    refine V_callV (As := []) (st := []) (a := 9) dX11_law_60 kX3_forgetLaw lX11_134 (by decide) rfl rfl (Nat.le_of_ble_eq_true rfl) ⟨Nat.le_of_ble_eq_true rfl, Nat.le_of_ble_eq_true rfl⟩ ⟨Nat.le_of_ble_eq_true rfl, Nat.le_of_ble_eq_true rfl⟩ rfl ⟨rfl, by decide⟩ c_forgetLaw ?_
    rintro r sh' I' J' ⟨rfl, rfl, rfl, rfl⟩
    refine V_aload_n dX11_law_63 rfl ?_
    refine V_getR (b := 36) dX11_law_64 fX11_64 ⟨Nat.le_of_ble_eq_true rfl, Nat.le_of_ble_eq_true rfl⟩ rfl rfl rfl ?_
    refine V_callV (As := []) (st := []) (a := 36) dX11_law_67 kX6_forget lX11_99 (by decide) rfl rfl (Nat.le_of_ble_eq_true rfl) ⟨Nat.le_of_ble_eq_true rfl, Nat.le_of_ble_eq_true rfl⟩ ⟨Nat.le_of_ble_eq_true rfl, Nat.le_of_ble_eq_true rfl⟩ rfl ⟨rfl, by decide⟩ c_forget ?_
    rintro r sh' I' J' ⟨rfl, rfl, rfl, rfl⟩
    refine V_iload_n dX11_law_70 rfl ?_
    exact V_iret ⟨Or.inl rfl, dX11_law_71⟩ ⟨Nat.le_of_ble_eq_true rfl, Nat.le_of_ble_eq_true rfl⟩ ⟨rfl, congrArg (fun z => some (Value.int z)) (if_pos h0).symm, rfl, fun _ => ⟨clOK_cp h2 h0 g3, g4, rfl, congrFun (g1 9 (by decide) (by decide) (by decide) (by decide)) 4, fun j hj => if_pos hj, rfl, rfl, fun j hj => if_pos hj, fun a a3 a5 a6 a7 a8 a9 a16 a17 a30 a36 => (zup_n a36).trans ((zup_n a9).trans ((zup_n a9).trans ((zup_n a30).trans ((zup_n a16).trans ((zup_n a16).trans ((zup_n a17).trans ((zup_n a3).trans (g1 a a5 a6 a7 a8)))))))), fun a ha => zup_n ha⟩, fun h => absurd h0 h⟩
  · skip
    refine V_callV (As := [.ref 4, .int (nI n), .int (nI 1)]) (st := []) (a := 5) dX11_law_26 kX1_readText lX11_121 (by decide) rfl rfl (Nat.le_of_ble_eq_true rfl) ⟨Nat.le_of_ble_eq_true rfl, Nat.le_of_ble_eq_true rfl⟩ ⟨Nat.le_of_ble_eq_true rfl, Nat.le_of_ble_eq_true rfl⟩ rfl ⟨rfl, by decide⟩ (c_readText1 (by omega) (by decide) (fun j _ => hby j)) ?_
    rintro r sh' I1 J1 ⟨rfl, hJ1, g1, hv, g2⟩
    subst hJ1
    have hv2 : r = some (.int (fltI (pTxt (txI (I 4)) n 1 17 0 0 0 []).1 (pTxt (txI (I 4)) n 1 17 0 0 0 []).2.1)) := by rw [hv, if_neg h0]
    subst hv2
    have hfn := fltI_neg hT.1.1 h0 hT.1.2 h2
    refine V_istore_n (ls' := [(2, .int (fltI (pTxt (txI (I 4)) n 1 17 0 0 0 []).1 (pTxt (txI (I 4)) n 1 17 0 0 0 []).2.1)), (0, .ref 2), (1, .int (nI n))]) dX11_law_29 (by decide) rfl ?_
    refine V_aload_n dX11_law_30 rfl ?_
    refine V_getR (b := 3) dX11_law_31 fX11_19 ⟨Nat.le_of_ble_eq_true rfl, Nat.le_of_ble_eq_true rfl⟩ rfl rfl rfl ?_
    refine V_iconst (v := nI 0) dX11_law_34 rfl ?_
    refine V_putW dX11_law_35 fX11_110 ⟨Nat.le_of_ble_eq_true rfl, Nat.le_of_ble_eq_true rfl⟩ rfl rfl rfl ⟨rfl, rfl⟩ ?_
    refine V_iload_n dX11_law_38 rfl ?_
    refine V_if_le (tgt := 70) dX11_law_39 rfl (fun _ => ?_) (fun h => absurd (by rw [oz_le]; omega) h)
    refine V_iload_n dX11_law_70 rfl ?_
    exact V_iret ⟨Or.inl rfl, dX11_law_71⟩ ⟨Nat.le_of_ble_eq_true rfl, Nat.le_of_ble_eq_true rfl⟩ ⟨rfl, congrArg (fun z => some (Value.int z)) (if_neg h0).symm, rfl, fun h => absurd h h0, fun _ => ⟨fun a a3 a5 a6 a7 a8 => (zup_n a3).trans (g1 a a5 a6 a7 a8), rfl⟩⟩

set_option maxRecDepth 100000 in
set_option maxHeartbeats 4000000 in
theorem c_lawN {G : zG} {I : zI} {J : zJ} {t : Nat} (ht : I 3 1 = nI t) (ht2 : t ≤ 260) {n : Int32} (hn : ¬ tkO n 240 t) : zK G mX11_law 1 [.ref 2, .int n] zsh I J (zA0 (.int (-1)) I J) := by
  refine zK_of kX11_law.2.2.2.2.1 (Nat.le_of_ble_eq_true rfl) ?_
  show V G mX11_law 1 _ 0 [(0, .ref 2), (1, .int n)] [] (0, 0) zsh I J
  refine V_aload_n dX11_law_0 rfl ?_
  refine V_iload_n dX11_law_1 rfl ?_
  refine V_sipush (v := nI 240) dX11_law_2 rfl ?_
  refine V_callV (As := [.int n, .int (nI 240)]) (st := []) (a := 2) dX11_law_5 kX11_canTake lX11_113 (by decide) rfl rfl (Nat.le_of_ble_eq_true rfl) ⟨Nat.le_of_ble_eq_true rfl, Nat.le_of_ble_eq_true rfl⟩ ⟨Nat.le_of_ble_eq_true rfl, Nat.le_of_ble_eq_true rfl⟩ rfl ⟨rfl, by decide⟩ (q_n (q_canTake ht ht2 (by decide)) hn) ?_
  rintro _ _ _ _ ⟨rfl, rfl, rfl, rfl⟩
  refine V_if_ne (tgt := 13) dX11_law_8 rfl (fun h => absurd h (by decide)) (fun _ => ?_)
  refine V_iconst (v := (-1)) dX11_law_11 rfl ?_
  exact V_iret ⟨Or.inl rfl, dX11_law_12⟩ ⟨Nat.le_of_ble_eq_true rfl, Nat.le_of_ble_eq_true rfl⟩ ⟨rfl, rfl, rfl, rfl⟩

set_option maxRecDepth 100000 in
set_option maxHeartbeats 4000000 in
theorem c_ruleY {G : zG} {I : zI} {J : zJ} {t : Nat} (ht : I 3 1 = nI t) (ht2 : t ≤ 260) (hby : ∀ j, fits .byte (.int (I 4 j)) = true) {k n : Nat} (hk : k < 4) (h1 : 1 ≤ n) (h2 : n ≤ 240) (h3 : n ≤ t) : zK G mX11_rule 18 [.ref 2, .int (nI k), .int (nI n)] zsh I J (zP (fun r I' J' => r = some (.int (if (pTxt (txI (I 4)) n 0 17 0 0 0 []).1 = 0 then nI (pTxt (txI (I 4)) n 0 17 0 0 0 []).2.2.length else fltI (pTxt (txI (I 4)) n 0 17 0 0 0 []).1 (pTxt (txI (I 4)) n 0 17 0 0 0 []).2.1)) ∧ rulP k I J (pTxt (txI (I 4)) n 0 17 0 0 0 []) I' J')) := by
  refine zK_of kX11_rule.2.2.2.2.1 (Nat.le_of_ble_eq_true rfl) ?_
  show V G mX11_rule 18 _ 0 [(0, .ref 2), (1, .int (nI k)), (2, .int (nI n))] [] (0, 0) zsh I J
  have hT := pTxt_n (tx := txI (I 4)) (n := n) (b := 0) 17 0 0 0 [] (Nat.zero_le _) rfl rfl (Nat.zero_le _)
  have hT2 := hT.2
  refine V_iload_n dX11_rule_0 rfl ?_
  refine V_callS (As := [.int (nI k)]) (st := []) dX11_rule_1 kX11_isRule lX11_137 (by decide) rfl rfl (Nat.le_of_ble_eq_true rfl) ⟨Nat.le_of_ble_eq_true rfl, Nat.le_of_ble_eq_true rfl⟩ (q_y q_isRule ((inZ_k (by omega)).mpr (by omega))) ?_
  rintro _ _ _ _ ⟨rfl, rfl, rfl, rfl⟩
  refine V_if_eq (tgt := 18) dX11_rule_4 rfl (fun h => absurd h (by decide)) (fun _ => ?_)
  refine V_aload_n dX11_rule_7 rfl ?_
  refine V_iload_n dX11_rule_8 rfl ?_
  refine V_sipush (v := nI 240) dX11_rule_9 rfl ?_
  refine V_callV (As := [.int (nI n), .int (nI 240)]) (st := []) (a := 2) dX11_rule_12 kX11_canTake lX11_113 (by decide) rfl rfl (Nat.le_of_ble_eq_true rfl) ⟨Nat.le_of_ble_eq_true rfl, Nat.le_of_ble_eq_true rfl⟩ ⟨Nat.le_of_ble_eq_true rfl, Nat.le_of_ble_eq_true rfl⟩ rfl ⟨rfl, by decide⟩ (q_y (q_canTake ht ht2 (by decide)) (tkO_k h1 h2 h3 (by decide))) ?_
  rintro _ _ _ _ ⟨rfl, rfl, rfl, rfl⟩
  refine V_if_ne (tgt := 20) dX11_rule_15 rfl (fun _ => ?_) (fun h => absurd h (by decide))
  refine V_aload_n dX11_rule_20 rfl ?_
  refine V_getR (b := 5) dX11_rule_21 fX11_26 ⟨Nat.le_of_ble_eq_true rfl, Nat.le_of_ble_eq_true rfl⟩ rfl rfl rfl ?_
  refine V_aload_n dX11_rule_24 rfl ?_
  refine V_getR (b := 3) dX11_rule_25 fX11_19 ⟨Nat.le_of_ble_eq_true rfl, Nat.le_of_ble_eq_true rfl⟩ rfl rfl rfl ?_
  refine V_getR (b := 4) dX11_rule_28 fX11_117 ⟨Nat.le_of_ble_eq_true rfl, Nat.le_of_ble_eq_true rfl⟩ rfl rfl rfl ?_
  refine V_iload_n dX11_rule_31 rfl ?_
  refine V_iconst (v := nI 0) dX11_rule_32 rfl ?_
  by_cases h0 : (pTxt (txI (I 4)) n 0 17 0 0 0 []).1 = 0
  · skip
    refine V_callV (As := [.ref 4, .int (nI n), .int (nI 0)]) (st := []) (a := 5) dX11_rule_33 kX1_readText lX11_121 (by decide) rfl rfl (Nat.le_of_ble_eq_true rfl) ⟨Nat.le_of_ble_eq_true rfl, Nat.le_of_ble_eq_true rfl⟩ ⟨Nat.le_of_ble_eq_true rfl, Nat.le_of_ble_eq_true rfl⟩ rfl ⟨rfl, by decide⟩ (c_readText1 (by omega) (by decide) (fun j _ => hby j)) ?_
    rintro r sh' I1 J1 ⟨rfl, hJ1, g1, hv, g2⟩
    subst hJ1
    have hv2 : r = some (.int (nI (pTxt (txI (I 4)) n 0 17 0 0 0 []).2.2.length)) := by rw [hv, if_pos h0]
    subst hv2
    obtain ⟨g3, g4, z1, hz1, g5⟩ := g2 h0
    refine V_istore_n (ls' := [(3, .int (nI ((pTxt (txI (I 4)) n 0 17 0 0 0 []).2.2.length))), (0, .ref 2), (1, .int (nI k)), (2, .int (nI n))]) dX11_rule_36 (by decide) rfl ?_
    refine V_aload_n dX11_rule_37 rfl ?_
    refine V_getR (b := 3) dX11_rule_38 fX11_19 ⟨Nat.le_of_ble_eq_true rfl, Nat.le_of_ble_eq_true rfl⟩ rfl rfl rfl ?_
    refine V_iconst (v := nI 0) dX11_rule_41 rfl ?_
    refine V_putW dX11_rule_42 fX11_110 ⟨Nat.le_of_ble_eq_true rfl, Nat.le_of_ble_eq_true rfl⟩ rfl rfl rfl ⟨rfl, rfl⟩ ?_
    refine V_iload_n dX11_rule_45 rfl ?_
    have hT3 := hT2 h0
    refine V_if_leN (tgt := 72) dX11_rule_46 rfl (by omega) (fun h => absurd h (by omega)) (fun _ => ?_)
    refine V_aload_n dX11_rule_49 rfl ?_
    refine V_getR (b := 18) dX11_rule_50 fX11_53 ⟨Nat.le_of_ble_eq_true rfl, Nat.le_of_ble_eq_true rfl⟩ rfl rfl rfl ?_
    refine V_iload_n dX11_rule_53 rfl ?_
    refine V_aald (b := (19 + 2 * k)) dX11_rule_54 ⟨Nat.le_of_ble_eq_true rfl, Nat.le_of_ble_eq_true rfl⟩ rfl (vp_in_nI hk (by decide)) (by rw [nI_clamp (by omega)]; rcases (show k = 0 ∨ k = 1 ∨ k = 2 ∨ k = 3 by omega) with h | h | h | h <;> subst h <;> rfl) ?_
    refine V_aload_n dX11_rule_55 rfl ?_
    refine V_getR (b := 5) dX11_rule_56 fX11_26 ⟨Nat.le_of_ble_eq_true rfl, Nat.le_of_ble_eq_true rfl⟩ rfl rfl rfl ?_
    refine V_getR (b := 6) dX11_rule_59 fX11_125 ⟨Nat.le_of_ble_eq_true rfl, Nat.le_of_ble_eq_true rfl⟩ rfl rfl rfl ?_
    refine V_callV (As := [.ref 6]) (st := []) (a := (19 + 2 * k)) dX11_rule_62 kX8_copyFrom lX11_128 (by decide) rfl rfl (Nat.le_of_ble_eq_true rfl) ⟨Nat.le_of_ble_eq_true rfl, Nat.le_of_ble_eq_true rfl⟩ (prog_r hk).1 (prog_r hk).2.2.1 ⟨rfl, by decide⟩ (c_copyFrom8 (prog_r hk) (by omega)) ?_
    rintro r sh' I' J' ⟨rfl, rfl, rfl, rfl⟩
    refine V_aload_n dX11_rule_65 rfl ?_
    refine V_getR (b := 9) dX11_rule_66 fX11_33 ⟨Nat.le_of_ble_eq_true rfl, Nat.le_of_ble_eq_true rfl⟩ rfl rfl rfl ?_
    refine V_callV (As := []) (st := []) (a := 9) dX11_rule_69 kX3_forgetWorths lX11_140 (by decide) rfl rfl (Nat.le_of_ble_eq_true rfl) ⟨Nat.le_of_ble_eq_true rfl, Nat.le_of_ble_eq_true rfl⟩ ⟨Nat.le_of_ble_eq_true rfl, Nat.le_of_ble_eq_true rfl⟩ rfl ⟨rfl, by decide⟩ c_forgetWorths ?_
    rintro r sh' I' J' ⟨rfl, rfl, rfl, rfl⟩
    refine V_iload_n dX11_rule_72 rfl ?_
    exact V_iret ⟨Or.inl rfl, dX11_rule_73⟩ ⟨Nat.le_of_ble_eq_true rfl, Nat.le_of_ble_eq_true rfl⟩ ⟨rfl, congrArg (fun z => some (Value.int z)) (if_pos h0).symm, (zwr_at.trans (if_neg (fun h => absurd h.1 (by decide)))).trans ((congrFun (zup_n (show (3 : Nat) ≠ 19 + 2 * k by omega)) 1).trans ((congrFun (zup_n (show (3 : Nat) ≠ 19 + 2 * k by omega)) 1).trans (congrFun (zup_n (show (3 : Nat) ≠ 19 + 2 * k + 1 by omega)) 1))), rfl, fun _ => ⟨clOK_o (f := zcp (I1 7) (I1 (19 + 2 * k + 1)) 240) (clOK_cp h2 h0 g3) (Nat.le_refl _) (fun i _ => congrFun ((zup_n (show (19 + 2 * k + 1 : Nat) ≠ 9 by omega)).trans ((zup_n (show (19 + 2 * k + 1 : Nat) ≠ 19 + 2 * k by omega)).trans ((zup_n (show (19 + 2 * k + 1 : Nat) ≠ 19 + 2 * k by omega)).trans ((zup_s).trans (by rw [show zwr I1 3 1 (nI 0) (19 + 2 * k + 1) = I1 (19 + 2 * k + 1) from zup_n (by omega)]; rfl))))) i), (congrFun (zup_n (show (19 + 2 * k : Nat) ≠ 9 by omega)) 2).trans ((zwr_at.trans (if_pos ⟨rfl, rfl⟩)).trans g4), rfl, fun j hj => (zwr_at.trans (if_neg (fun h => hj h.2))).trans (congrFun ((zup_n (show (9 : Nat) ≠ 19 + 2 * k by omega)).trans ((zup_n (show (9 : Nat) ≠ 19 + 2 * k by omega)).trans ((zup_n (show (9 : Nat) ≠ 19 + 2 * k + 1 by omega)).trans ((zup_n (by decide)).trans (g1 9 (by decide) (by decide) (by decide) (by decide)))))) j), fun a a3 a5 a6 a7 a8 a9 a16 a17 => (zup_n a9).trans ((zup_n a16).trans ((zup_n a16).trans ((zup_n a17).trans ((zup_n a3).trans (g1 a a5 a6 a7 a8)))))⟩, fun h => absurd h0 h⟩
  · skip
    refine V_callV (As := [.ref 4, .int (nI n), .int (nI 0)]) (st := []) (a := 5) dX11_rule_33 kX1_readText lX11_121 (by decide) rfl rfl (Nat.le_of_ble_eq_true rfl) ⟨Nat.le_of_ble_eq_true rfl, Nat.le_of_ble_eq_true rfl⟩ ⟨Nat.le_of_ble_eq_true rfl, Nat.le_of_ble_eq_true rfl⟩ rfl ⟨rfl, by decide⟩ (c_readText1 (by omega) (by decide) (fun j _ => hby j)) ?_
    rintro r sh' I1 J1 ⟨rfl, hJ1, g1, hv, g2⟩
    subst hJ1
    have hv2 : r = some (.int (fltI (pTxt (txI (I 4)) n 0 17 0 0 0 []).1 (pTxt (txI (I 4)) n 0 17 0 0 0 []).2.1)) := by rw [hv, if_neg h0]
    subst hv2
    have hfn := fltI_neg hT.1.1 h0 hT.1.2 h2
    refine V_istore_n (ls' := [(3, .int (fltI (pTxt (txI (I 4)) n 0 17 0 0 0 []).1 (pTxt (txI (I 4)) n 0 17 0 0 0 []).2.1)), (0, .ref 2), (1, .int (nI k)), (2, .int (nI n))]) dX11_rule_36 (by decide) rfl ?_
    refine V_aload_n dX11_rule_37 rfl ?_
    refine V_getR (b := 3) dX11_rule_38 fX11_19 ⟨Nat.le_of_ble_eq_true rfl, Nat.le_of_ble_eq_true rfl⟩ rfl rfl rfl ?_
    refine V_iconst (v := nI 0) dX11_rule_41 rfl ?_
    refine V_putW dX11_rule_42 fX11_110 ⟨Nat.le_of_ble_eq_true rfl, Nat.le_of_ble_eq_true rfl⟩ rfl rfl rfl ⟨rfl, rfl⟩ ?_
    refine V_iload_n dX11_rule_45 rfl ?_
    refine V_if_le (tgt := 72) dX11_rule_46 rfl (fun _ => ?_) (fun h => absurd (by rw [oz_le]; omega) h)
    refine V_iload_n dX11_rule_72 rfl ?_
    exact V_iret ⟨Or.inl rfl, dX11_rule_73⟩ ⟨Nat.le_of_ble_eq_true rfl, Nat.le_of_ble_eq_true rfl⟩ ⟨rfl, congrArg (fun z => some (Value.int z)) (if_neg h0).symm, rfl, rfl, fun h => absurd h h0, fun _ => fun a a3 a5 a6 a7 a8 => (zup_n a3).trans (g1 a a5 a6 a7 a8)⟩

set_option maxRecDepth 100000 in
set_option maxHeartbeats 4000000 in
theorem c_ruleN {G : zG} {I : zI} {J : zJ} {t : Nat} (ht : I 3 1 = nI t) (ht2 : t ≤ 260) {k n : Int32} (hN : ¬ (inZ k 0 3 ∧ tkO n 240 t)) : zK G mX11_rule 1 [.ref 2, .int k, .int n] zsh I J (zA0 (.int (-1)) I J) := by
  refine zK_of kX11_rule.2.2.2.2.1 (Nat.le_of_ble_eq_true rfl) ?_
  show V G mX11_rule 1 _ 0 [(0, .ref 2), (1, .int k), (2, .int n)] [] (0, 0) zsh I J
  by_cases hR : inZ k 0 3
  · have hn : ¬ tkO n 240 t := fun h => hN ⟨hR, h⟩
    refine V_iload_n dX11_rule_0 rfl ?_
    refine V_callS (As := [.int k]) (st := []) dX11_rule_1 kX11_isRule lX11_137 (by decide) rfl rfl (Nat.le_of_ble_eq_true rfl) ⟨Nat.le_of_ble_eq_true rfl, Nat.le_of_ble_eq_true rfl⟩ (q_y q_isRule hR) ?_
    rintro _ _ _ _ ⟨rfl, rfl, rfl, rfl⟩
    refine V_if_eq (tgt := 18) dX11_rule_4 rfl (fun h => absurd h (by decide)) (fun _ => ?_)
    refine V_aload_n dX11_rule_7 rfl ?_
    refine V_iload_n dX11_rule_8 rfl ?_
    refine V_sipush (v := nI 240) dX11_rule_9 rfl ?_
    refine V_callV (As := [.int n, .int (nI 240)]) (st := []) (a := 2) dX11_rule_12 kX11_canTake lX11_113 (by decide) rfl rfl (Nat.le_of_ble_eq_true rfl) ⟨Nat.le_of_ble_eq_true rfl, Nat.le_of_ble_eq_true rfl⟩ ⟨Nat.le_of_ble_eq_true rfl, Nat.le_of_ble_eq_true rfl⟩ rfl ⟨rfl, by decide⟩ (q_n (q_canTake ht ht2 (by decide)) hn) ?_
    rintro _ _ _ _ ⟨rfl, rfl, rfl, rfl⟩
    refine V_if_ne (tgt := 20) dX11_rule_15 rfl (fun h => absurd h (by decide)) (fun _ => ?_)
    refine V_iconst (v := (-1)) dX11_rule_18 rfl ?_
    exact V_iret ⟨Or.inl rfl, dX11_rule_19⟩ ⟨Nat.le_of_ble_eq_true rfl, Nat.le_of_ble_eq_true rfl⟩ ⟨rfl, rfl, rfl, rfl⟩
  · skip
    refine V_iload_n dX11_rule_0 rfl ?_
    refine V_callS (As := [.int k]) (st := []) dX11_rule_1 kX11_isRule lX11_137 (by decide) rfl rfl (Nat.le_of_ble_eq_true rfl) ⟨Nat.le_of_ble_eq_true rfl, Nat.le_of_ble_eq_true rfl⟩ (q_n q_isRule hR) ?_
    rintro _ _ _ _ ⟨rfl, rfl, rfl, rfl⟩
    refine V_if_eq (tgt := 18) dX11_rule_4 rfl (fun _ => ?_) (fun h => absurd h (by decide))
    refine V_iconst (v := (-1)) dX11_rule_18 rfl ?_
    exact V_iret ⟨Or.inl rfl, dX11_rule_19⟩ ⟨Nat.le_of_ble_eq_true rfl, Nat.le_of_ble_eq_true rfl⟩ ⟨rfl, rfl, rfl, rfl⟩

theorem eA_rule {Lf : Nat → (Nat → Int32) → Int32} {Rl : Nat → Nat → (Nat → Int32) → Int32} {R' : Nat → (Nat → Int32) → Int32} {I I' : zI} {J : zJ} {k : Nat} (hk : k < 4) (h : eA Lf Rl I J) (hp : progI I' (19 + 2 * k) R') (e : ∀ a, 10 ≤ a → a ≤ 30 → a ≠ 19 + 2 * k → a ≠ 19 + 2 * k + 1 → I' a = I a) (h9 : ∀ j, j ≠ 6 → I' 9 j = I 9 j) (h96 : I' 9 6 = nI 0) : eA Lf (fun i => if i = k then R' else Rl i) I' J := by
  obtain ⟨far, h10, ⟨hE, hC, hO⟩, b1, b2⟩ := h
  obtain ⟨h1, h2, h3, h4, h5⟩ := hE
  have e30 := e 30 (by decide) (by decide) (by omega) (by omega)
  have hC2 : clos I' Lf far := by
    unfold clos clo nbk bk at *
    rw [e30]
    exact hC
  refine ⟨far, h10, ⟨⟨tabX_c h1 ⟨e 11 (by decide) (by decide) (by omega) (by omega), e 12 (by decide) (by decide) (by omega) (by omega), e 13 (by decide) (by decide) (by omega) (by omega), e 14 (by decide) (by decide) (by omega) (by omega), e 15 (by decide) (by decide) (by omega) (by omega)⟩, progI_c h2 (e 16 (by decide) (by decide) (by omega) (by omega)) (e 17 (by decide) (by decide) (by omega) (by omega)), fun i hi => ?_, by rw [h9 4 (by decide)]; exact h4, fun p q l hs => by rw [e30]; exact h5 p q l hs⟩, hC2, fun h6 => absurd h96 h6⟩, b1, ?_⟩
  · by_cases hik : i = k
    · subst hik
      show progI I' (19 + 2 * i) (if i = i then R' else Rl i)
      rw [if_pos rfl]
      exact hp
    · show progI I' (19 + 2 * i) (if i = k then R' else Rl i)
      rw [if_neg hik]
      exact progI_c (h3 i hi) (e _ (by omega) (by omega) (by omega) (by omega)) (e _ (by omega) (by omega) (by omega) (by omega))
  · unfold eB2 at b2 ⊢
    rw [h9 12 (by decide)]
    exact b2
