/-! THE MODEL: rules asked, chances asked -/
def offF (I I' : zI) : Prop := ∀ a, a ≠ 79 → a ≠ 80 → I' a = I a
theorem offF_m {A B C : zI} (h : offF A B) (h2 : offM B C) : offF A C := fun a h3 h4 => (h2 a h3).trans (h a h3 h4)
set_option maxRecDepth 100000 in
set_option maxHeartbeats 4000000 in
theorem lp_ruled {G : zG} {I I0 : zI} {J : zJ} (hT : mT I) (h0 : offF I0 I) {p q l : Nat} (hp : p < 56) (hq : q < 56) (hl : l ≤ 1) {w : Nat} (hw : w ≤ 1) {k : Nat} (hk : k < 4) {a : List (Nat × List (Nat × Nat) × List (Nat × Nat))} {M : Nat → ((Nat → Int32) → Option Int32) × ((Nat → Int32) → Option Int32)} (hP : mpI I (k + 1) a M) (h114 : ∀ (j c : Nat) (g1 g2 : List (Nat × Nat)), a[j]? = some (c, g1, g2) → c = 114) : ∀ n j (I1 : zI), j + n = a.length → offM I I1 → V G mX12_ruled 4 (zP (fun r I' J' => r = some (.int (nI (if mnL a M 114 (I 80) n j = 2 ∧ sCan p q w = true then 2 else 1))) ∧ offF I0 I' ∧ J = J')) 14 [(0, .ref 62), (1, .int (nI k)), (2, .int (nI (stN p q l))), (3, .int (nI w)), (4, .int (nI (16 * (k + 1) + j)))] [] (0, 0) zsh I1 J := by
  have h16 := hP.2.1
  have hst := stN_lt hp hq hl
  have hq9 := hq
  intro n
  induction n with
  | zero =>
    intro j I1 hj hoff
    have hje : j = a.length := by omega
    refine V_iload dX12_ruled_14 rfl ?_
    refine V_bipush (v := nI 16) dX12_ruled_16 rfl ?_
    refine V_iload_n dX12_ruled_18 rfl ?_
    refine V_iconst (v := nI 1) dX12_ruled_19 rfl ?_
    refine V_iaddN dX12_ruled_20 ?_
    refine V_imulN dX12_ruled_21 ?_
    refine V_aload_n dX12_ruled_22 rfl ?_
    refine V_getR (b := 74) dX12_ruled_23 fX12_44 ⟨Nat.le_of_ble_eq_true rfl, Nat.le_of_ble_eq_true rfl⟩ rfl rfl rfl ?_
    refine V_iload_n dX12_ruled_26 rfl ?_
    refine V_iconst (v := nI 1) dX12_ruled_27 rfl ?_
    refine V_iaddN dX12_ruled_28 ?_
    refine V_ialdN (k := k + 1) dX12_ruled_29 ⟨Nat.le_of_ble_eq_true rfl, Nat.le_of_ble_eq_true rfl⟩ rfl (by decide) (by omega) ?_
    refine V_eqI (y := nI a.length) (by rw [hoff 74 (by decide)]; exact hP.2.2.2.1) ?_
    refine V_iaddN dX12_ruled_30 ?_
    refine V_icmp_geN (tgt := 102) dX12_ruled_31 rfl (by omega) (by omega) (fun _ => ?_) (fun h => absurd h (by omega))
    refine V_iconst (v := nI 1) dX12_ruled_102 rfl ?_
    exact V_iret ⟨Or.inl rfl, dX12_ruled_103⟩ ⟨Nat.le_of_ble_eq_true rfl, Nat.le_of_ble_eq_true rfl⟩ ⟨rfl, congrArg (fun z => some (Value.int (nI z))) ((if_neg (fun h => absurd h.1 (show ¬ (0 : Int32) = 2 by decide))).symm), offF_m h0 hoff, rfl⟩
  | succ n ih =>
    intro j I1 hjn hoff
    have hlen : j < a.length := by omega
    obtain ⟨x, hx⟩ : ∃ x, a[j]? = some x := ⟨a[j], List.getElem?_eq_getElem hlen⟩
    obtain ⟨c, g1, g2⟩ := x
    have hj := hx
    have hcl := hP.2.2.2.2 j c g1 g2 hx
    have hlt : ltA a j = c := by unfold ltA; rw [hx]
    have hc256 := hcl.1
    have hb240 := (mp_le hP (show k + 1 ≤ 4 by omega) hx).2.1
    refine V_iload dX12_ruled_14 rfl ?_
    refine V_bipush (v := nI 16) dX12_ruled_16 rfl ?_
    refine V_iload_n dX12_ruled_18 rfl ?_
    refine V_iconst (v := nI 1) dX12_ruled_19 rfl ?_
    refine V_iaddN dX12_ruled_20 ?_
    refine V_imulN dX12_ruled_21 ?_
    refine V_aload_n dX12_ruled_22 rfl ?_
    refine V_getR (b := 74) dX12_ruled_23 fX12_44 ⟨Nat.le_of_ble_eq_true rfl, Nat.le_of_ble_eq_true rfl⟩ rfl rfl rfl ?_
    refine V_iload_n dX12_ruled_26 rfl ?_
    refine V_iconst (v := nI 1) dX12_ruled_27 rfl ?_
    refine V_iaddN dX12_ruled_28 ?_
    refine V_ialdN (k := k + 1) dX12_ruled_29 ⟨Nat.le_of_ble_eq_true rfl, Nat.le_of_ble_eq_true rfl⟩ rfl (by decide) (by omega) ?_
    refine V_eqI (y := nI a.length) (by rw [hoff 74 (by decide)]; exact hP.2.2.2.1) ?_
    refine V_iaddN dX12_ruled_30 ?_
    refine V_icmp_geN (tgt := 102) dX12_ruled_31 rfl (by omega) (by omega) (fun h => absurd h (by omega)) (fun _ => ?_)
    refine V_aload_n dX12_ruled_34 rfl ?_
    refine V_aload_n dX12_ruled_35 rfl ?_
    refine V_getR (b := 77) dX12_ruled_36 fX12_53 ⟨Nat.le_of_ble_eq_true rfl, Nat.le_of_ble_eq_true rfl⟩ rfl rfl rfl ?_
    refine V_iload dX12_ruled_39 rfl ?_
    refine V_ialdN (k := 16 * (k + 1) + j) dX12_ruled_41 ⟨Nat.le_of_ble_eq_true rfl, Nat.le_of_ble_eq_true rfl⟩ rfl (by decide) (by omega) ?_
    refine V_eqI (y := nI (260 * (k + 1) + plA a j + g1.length)) (by rw [hoff 77 (by decide)]; exact (congrArg (I 77) (show 16 * (k + 1) + j = 16 * (k + 1) + j by omega)).trans hcl.2.2.2.1) ?_
    refine V_aload_n dX12_ruled_42 rfl ?_
    refine V_getR (b := 78) dX12_ruled_43 fX12_56 ⟨Nat.le_of_ble_eq_true rfl, Nat.le_of_ble_eq_true rfl⟩ rfl rfl rfl ?_
    refine V_iload dX12_ruled_46 rfl ?_
    refine V_ialdN (k := 16 * (k + 1) + j) dX12_ruled_48 ⟨Nat.le_of_ble_eq_true rfl, Nat.le_of_ble_eq_true rfl⟩ rfl (by decide) (by omega) ?_
    refine V_eqI (y := nI (260 * (k + 1) + plA a j + g1.length + g2.length)) (by rw [hoff 78 (by decide)]; exact (congrArg (I 78) (show 16 * (k + 1) + j = 16 * (k + 1) + j by omega)).trans hcl.2.2.2.2.1) ?_
    refine V_callV (As := [.int (nI (260 * (k + 1) + plA a j + g1.length)), .int (nI (260 * (k + 1) + plA a j + g1.length + g2.length))]) (st := []) (a := 62) dX12_ruled_49 kX12_comesTo lX12_328 (by decide) rfl rfl (Nat.le_of_ble_eq_true rfl) ⟨Nat.le_of_ble_eq_true rfl, Nat.le_of_ble_eq_true rfl⟩ ⟨Nat.le_of_ble_eq_true rfl, Nat.le_of_ble_eq_true rfl⟩ rfl ⟨rfl, by decide⟩ (w_comesC (mpI_o hP hoff) (show k + 1 ≤ 4 by omega) hj) ?_
    rintro r sh' I' J' ⟨rfl, rfl, hq, rfl⟩
    have hoff2 := offM_t hoff hq
    rw [hoff 80 (by decide)]
    refine V_iconst (v := nI 1) dX12_ruled_52 rfl ?_
    refine V_icmp_eq (tgt := 59) dX12_ruled_53 rfl (fun h53 => ?_) (fun h53 => ?_)
    · skip
      refine V_aload_n dX12_ruled_59 rfl ?_
      refine V_aload_n dX12_ruled_60 rfl ?_
      refine V_getR (b := 76) dX12_ruled_61 fX12_50 ⟨Nat.le_of_ble_eq_true rfl, Nat.le_of_ble_eq_true rfl⟩ rfl rfl rfl ?_
      refine V_iload dX12_ruled_64 rfl ?_
      refine V_ialdN (k := 16 * (k + 1) + j) dX12_ruled_66 ⟨Nat.le_of_ble_eq_true rfl, Nat.le_of_ble_eq_true rfl⟩ rfl (by decide) (by omega) ?_
      refine V_eqI (y := nI (260 * (k + 1) + plA a j)) (by rw [hoff2 76 (by decide)]; exact (congrArg (I 76) (show 16 * (k + 1) + j = 16 * (k + 1) + j by omega)).trans hcl.2.2.1) ?_
      refine V_aload_n dX12_ruled_67 rfl ?_
      refine V_getR (b := 77) dX12_ruled_68 fX12_53 ⟨Nat.le_of_ble_eq_true rfl, Nat.le_of_ble_eq_true rfl⟩ rfl rfl rfl ?_
      refine V_iload dX12_ruled_71 rfl ?_
      refine V_ialdN (k := 16 * (k + 1) + j) dX12_ruled_73 ⟨Nat.le_of_ble_eq_true rfl, Nat.le_of_ble_eq_true rfl⟩ rfl (by decide) (by omega) ?_
      refine V_eqI (y := nI (260 * (k + 1) + plA a j + g1.length)) (by rw [hoff2 77 (by decide)]; exact (congrArg (I 77) (show 16 * (k + 1) + j = 16 * (k + 1) + j by omega)).trans hcl.2.2.2.1) ?_
      refine V_callV (As := [.int (nI (260 * (k + 1) + plA a j)), .int (nI (260 * (k + 1) + plA a j + g1.length))]) (st := []) (a := 62) dX12_ruled_74 kX12_comesTo lX12_328 (by decide) rfl rfl (Nat.le_of_ble_eq_true rfl) ⟨Nat.le_of_ble_eq_true rfl, Nat.le_of_ble_eq_true rfl⟩ ⟨Nat.le_of_ble_eq_true rfl, Nat.le_of_ble_eq_true rfl⟩ rfl ⟨rfl, by decide⟩ (w_comesE (mpI_o hP hoff2) (show k + 1 ≤ 4 by omega) hj) ?_
      rintro r sh' I' J' ⟨rfl, rfl, hq, rfl⟩
      have hoff3 := offM_t hoff2 hq
      rw [hoff2 80 (by decide)]
      refine V_iconst (v := nI 2) dX12_ruled_77 rfl ?_
      refine V_icmp_ne (tgt := 94) dX12_ruled_78 rfl (fun h78 => ?_) (fun h78 => ?_)
      · skip
        refine V_iconst (v := nI 1) dX12_ruled_94 rfl ?_
        exact V_iret ⟨Or.inl rfl, dX12_ruled_95⟩ ⟨Nat.le_of_ble_eq_true rfl, Nat.le_of_ble_eq_true rfl⟩ ⟨rfl, congrArg (fun z => some (Value.int (nI z))) (by rw [mnL_1 ⟨hlt.trans (h114 j c g1 g2 hx), gd1 h53⟩]; exact (if_neg (fun h => h78 h.1)).symm), offF_m h0 hoff3, rfl⟩
      · skip
        by_cases hcan : sCan p q w = true
        · skip
          refine V_aload_n dX12_ruled_81 rfl ?_
          refine V_iload_n dX12_ruled_82 rfl ?_
          refine V_iload_n dX12_ruled_83 rfl ?_
          refine V_callV (As := [.int (nI (stN p q l)), .int (nI w)]) (st := []) (a := 62) dX12_ruled_84 kX12_canShoot lX12_337 (by decide) rfl rfl (Nat.le_of_ble_eq_true rfl) ⟨Nat.le_of_ble_eq_true rfl, Nat.le_of_ble_eq_true rfl⟩ ⟨Nat.le_of_ble_eq_true rfl, Nat.le_of_ble_eq_true rfl⟩ rfl ⟨rfl, by decide⟩ (q_y (w_canShoot (mT_c hT (hoff3 63 (by decide)) (hoff3 64 (by decide)) (hoff3 65 (by decide))) hp hq9 hl hw) hcan) ?_
          rintro _ _ _ _ ⟨rfl, rfl, rfl, rfl⟩
          refine V_if_eq (tgt := 94) dX12_ruled_87 rfl (fun h => absurd h (by decide)) (fun _ => ?_)
          refine V_iconst (v := nI 2) dX12_ruled_90 rfl ?_
          refine V_goto (tgt := 95) dX12_ruled_91 rfl ?_
          exact V_iret ⟨Or.inl rfl, dX12_ruled_95⟩ ⟨Nat.le_of_ble_eq_true rfl, Nat.le_of_ble_eq_true rfl⟩ ⟨rfl, congrArg (fun z => some (Value.int (nI z))) (by rw [mnL_1 ⟨hlt.trans (h114 j c g1 g2 hx), gd1 h53⟩]; exact (if_pos ⟨h78, hcan⟩).symm), offF_m h0 hoff3, rfl⟩
        · skip
          refine V_aload_n dX12_ruled_81 rfl ?_
          refine V_iload_n dX12_ruled_82 rfl ?_
          refine V_iload_n dX12_ruled_83 rfl ?_
          refine V_callV (As := [.int (nI (stN p q l)), .int (nI w)]) (st := []) (a := 62) dX12_ruled_84 kX12_canShoot lX12_337 (by decide) rfl rfl (Nat.le_of_ble_eq_true rfl) ⟨Nat.le_of_ble_eq_true rfl, Nat.le_of_ble_eq_true rfl⟩ ⟨Nat.le_of_ble_eq_true rfl, Nat.le_of_ble_eq_true rfl⟩ rfl ⟨rfl, by decide⟩ (q_n (w_canShoot (mT_c hT (hoff3 63 (by decide)) (hoff3 64 (by decide)) (hoff3 65 (by decide))) hp hq9 hl hw) hcan) ?_
          rintro _ _ _ _ ⟨rfl, rfl, rfl, rfl⟩
          refine V_if_eq (tgt := 94) dX12_ruled_87 rfl (fun _ => ?_) (fun h => absurd h (by decide))
          refine V_iconst (v := nI 1) dX12_ruled_94 rfl ?_
          exact V_iret ⟨Or.inl rfl, dX12_ruled_95⟩ ⟨Nat.le_of_ble_eq_true rfl, Nat.le_of_ble_eq_true rfl⟩ ⟨rfl, congrArg (fun z => some (Value.int (nI z))) (by rw [mnL_1 ⟨hlt.trans (h114 j c g1 g2 hx), gd1 h53⟩]; exact (if_neg (fun h => hcan h.2)).symm), offF_m h0 hoff3, rfl⟩
    · skip
      refine V_goto (tgt := 96) dX12_ruled_56 rfl ?_
      refine V_iincN (ls' := [(4, .int (nI ((16 * (k + 1) + j) + 1))), (0, .ref 62), (1, .int (nI k)), (2, .int (nI (stN p q l))), (3, .int (nI w))]) (n := 1) dX12_ruled_96 rfl rfl (by decide) (by decide) rfl ?_
      refine V_goto (tgt := 14) dX12_ruled_99 rfl ?_
      rw [mnL_0 (fun h => gd1n h53 h.2)]
      refine V_sub2 (ls' := [(0, .ref 62), (1, .int (nI k)), (2, .int (nI (stN p q l))), (3, .int (nI w)), (4, .int (nI ((16 * (k + 1) + j) + 1)))]) (List.forall_mem_cons.mpr ⟨rfl, List.forall_mem_cons.mpr ⟨rfl, List.forall_mem_cons.mpr ⟨rfl, List.forall_mem_cons.mpr ⟨rfl, List.forall_mem_cons.mpr ⟨rfl, fun _ h => absurd h List.not_mem_nil⟩⟩⟩⟩⟩) ?_
      exact ih (j + 1) _ (by omega) hoff2

set_option maxRecDepth 100000 in
set_option maxHeartbeats 4000000 in
theorem w_ruled {G : zG} {I : zI} {J : zJ} (hT : mT I) {far : Nat} (hf : I 62 5 = nI far) {p q l : Nat} (hp : p < 56) (hq : q < 56) (hl : l ≤ 1) {w : Nat} (hw : w ≤ 1) {k : Nat} (hk : k < 4) {a : List (Nat × List (Nat × Nat) × List (Nat × Nat))} {M : Nat → ((Nat → Int32) → Option Int32) × ((Nat → Int32) → Option Int32)} (hP : mpI I (k + 1) a M) (h114 : ∀ (j c : Nat) (g1 g2 : List (Nat × Nat)), a[j]? = some (c, g1, g2) → c = 114) : zK G mX12_ruled 4 [.ref 62, .int (nI k), .int (nI (stN p q l)), .int (nI w)] zsh I J (zP (fun r I' J' => r = some (.int (nI (if mnL a M 114 (fct p q l w far) a.length 0 = 2 ∧ sCan p q w = true then 2 else 1))) ∧ offF I I' ∧ J = J')) := by
  refine zK_of kX12_ruled.2.2.2.2.1 (Nat.le_of_ble_eq_true rfl) ?_
  show V G mX12_ruled 4 _ 0 [(0, .ref 62), (1, .int (nI k)), (2, .int (nI (stN p q l))), (3, .int (nI w))] [] (0, 0) zsh I J
  refine V_aload_n dX12_ruled_0 rfl ?_
  refine V_iload_n dX12_ruled_1 rfl ?_
  refine V_iload_n dX12_ruled_2 rfl ?_
  refine V_callV (As := [.int (nI (stN p q l)), .int (nI w)]) (st := []) (a := 62) dX12_ruled_3 kX12_feels lX12_334 (by decide) rfl rfl (Nat.le_of_ble_eq_true rfl) ⟨Nat.le_of_ble_eq_true rfl, Nat.le_of_ble_eq_true rfl⟩ ⟨Nat.le_of_ble_eq_true rfl, Nat.le_of_ble_eq_true rfl⟩ rfl ⟨rfl, by decide⟩ (w_feels hT hp hq hl hw hf) ?_
  rintro r sh' I' J' ⟨rfl, rfl, hq2, rfl⟩
  refine V_bipush (v := nI 16) dX12_ruled_6 rfl ?_
  refine V_iload_n dX12_ruled_8 rfl ?_
  refine V_iconst (v := nI 1) dX12_ruled_9 rfl ?_
  refine V_iaddN dX12_ruled_10 ?_
  refine V_imulN dX12_ruled_11 ?_
  refine V_istore (ls' := [(4, .int (nI (16 * (k + 1)))), (0, .ref 62), (1, .int (nI k)), (2, .int (nI (stN p q l))), (3, .int (nI w))]) dX12_ruled_12 (by decide) rfl ?_
  refine V_sub2 (ls' := [(0, .ref 62), (1, .int (nI k)), (2, .int (nI (stN p q l))), (3, .int (nI w)), (4, .int (nI (16 * (k + 1))))]) (List.forall_mem_cons.mpr ⟨rfl, List.forall_mem_cons.mpr ⟨rfl, List.forall_mem_cons.mpr ⟨rfl, List.forall_mem_cons.mpr ⟨rfl, List.forall_mem_cons.mpr ⟨rfl, fun _ h => absurd h List.not_mem_nil⟩⟩⟩⟩⟩) ?_
  have e := mnL_9 (letter := 114) hP.1 hq2.2 a.length 0 (Nat.zero_add _)
  rw [← e]
  exact lp_ruled (mT_c hT (hq2.1 63 (by decide)) (hq2.1 64 (by decide)) (hq2.1 65 (by decide))) (fun a _ h => hq2.1 a h) hp hq hl hw hk (mpI_c hP (fun k h1 h2 => hq2.1 k (by omega))) h114 a.length 0 I' (Nat.zero_add _) (fun _ _ => rfl)

