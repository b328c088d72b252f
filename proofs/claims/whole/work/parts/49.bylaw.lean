/-! THE MODEL: the law and rules asked -/
/-- text t of the model (0: the law) has the clauses a, which mean M -/
def mpI (I : zI) (t : Nat) (a : List (Nat × List (Nat × Nat) × List (Nat × Nat))) (M : Nat → ((Nat → Int32) → Option Int32) × ((Nat → Int32) → Option Int32)) : Prop := meanT a M ∧ a.length ≤ 16 ∧ plA a a.length + 3 * a.length ≤ 240 ∧ I 74 t = nI a.length ∧ ∀ j c g1 g2, a[j]? = some (c, g1, g2) → c < 256 ∧ I 75 (16 * t + j) = nI c ∧ I 76 (16 * t + j) = nI (260 * t + plA a j) ∧ I 77 (16 * t + j) = nI (260 * t + plA a j + g1.length) ∧ I 78 (16 * t + j) = nI (260 * t + plA a j + g1.length + g2.length) ∧ cmAt (I 73) (260 * t + plA a j) (g1 ++ g2)
theorem mpI_c {I I' : zI} {t : Nat} {a : List (Nat × List (Nat × Nat) × List (Nat × Nat))} {M : Nat → ((Nat → Int32) → Option Int32) × ((Nat → Int32) → Option Int32)} (h : mpI I t a M) (e : ∀ k, 73 ≤ k → k ≤ 78 → I' k = I k) : mpI I' t a M := by
  unfold mpI
  rw [e 73 (by decide) (by decide), e 74 (by decide) (by decide), e 75 (by decide) (by decide), e 76 (by decide) (by decide), e 77 (by decide) (by decide), e 78 (by decide) (by decide)]
  exact h
theorem offM_t {A B C : zI} (h : offM A B) (h2 : offM B C) : offM A C := fun a ha => (h2 a ha).trans (h a ha)
theorem mpI_o {I I' : zI} {t : Nat} {a : List (Nat × List (Nat × Nat) × List (Nat × Nat))} {M : Nat → ((Nat → Int32) → Option Int32) × ((Nat → Int32) → Option Int32)} (h : mpI I t a M) (e : offM I I') : mpI I' t a M := mpI_c h (fun k h1 h2 => e k (by omega))
theorem bndM_a {x : Int32} {m : Nat} (h : ¬ 0 ≤ x) : nI 0 = nI (bnd x m) := by
  have h1 : ¬ (0 : Int) ≤ x.toInt := fun q => h (Int32.le_iff_toInt_le.mpr q)
  exact congrArg nI (by unfold bnd; omega)
theorem bndM_c {x : Int32} {m : Nat} (hm : m < 2 ^ 31) (h : 0 ≤ x) (h2 : x ≤ nI m) : x = nI (bnd x m) := by
  have h1 : (0 : Int) ≤ x.toInt := Int32.le_iff_toInt_le.mp h
  have h3 := Int32.le_iff_toInt_le.mp h2
  rw [nI_toInt hm] at h3
  apply Int32.toInt_inj.mp
  rw [nI_toInt (Nat.lt_of_le_of_lt bnd_le hm)]
  unfold bnd
  omega
theorem bndM_b {x : Int32} {m : Nat} (hm : m < 2 ^ 31) (h2 : ¬ x ≤ nI m) : nI m = nI (bnd x m) := by
  have h3 : ¬ x.toInt ≤ (nI m).toInt := fun q => h2 (Int32.le_iff_toInt_le.mpr q)
  rw [nI_toInt hm] at h3
  exact congrArg nI (by unfold bnd; omega)
theorem gd1 {d : Option Int32} (h : d.getD 0 = 1) : d = some 1 := by
  cases d with
  | none => exact absurd h (by decide)
  | some v => exact congrArg some h
theorem gd1n {d : Option Int32} (h : ¬ d.getD 0 = 1) : ¬ d = some 1 := fun e => h (by rw [e]; rfl)
theorem mnL_0 {a : List (Nat × List (Nat × Nat) × List (Nat × Nat))} {M : Nat → ((Nat → Int32) → Option Int32) × ((Nat → Int32) → Option Int32)} {letter : Nat} {L : Nat → Int32} {n j : Nat} (h : ¬ (ltA a j = letter ∧ (M j).2 L = some 1)) : mnL a M letter L (n + 1) j = mnL a M letter L n (j + 1) := if_neg h
theorem mnL_1 {a : List (Nat × List (Nat × Nat) × List (Nat × Nat))} {M : Nat → ((Nat → Int32) → Option Int32) × ((Nat → Int32) → Option Int32)} {letter : Nat} {L : Nat → Int32} {n j : Nat} (h : ltA a j = letter ∧ (M j).2 L = some 1) : mnL a M letter L (n + 1) j = ((M j).1 L).getD 0 := if_pos h
set_option maxRecDepth 100000 in
set_option maxHeartbeats 4000000 in
theorem cs_end {G : zG} {I : zI} {J : zJ} {Q : zQ} {a : Int32} {tt b : Nat} {v : Int32} (ht : tt ≤ 1300) (hq : ∀ I2, offM I I2 → Q (some (.int v)) zsh I2 J) : cHd G I J Q a tt b tt [v] := by
  intro I1 hr
  show V G mX12_comesTo 1 Q 16 [(0, .ref 62), (1, .int a), (2, .int (nI tt)), (3, .int (nI 1)), (4, .int (nI b)), (5, .int (nI tt))] [] (0, 0) zsh I1 J
  refine V_iload dX12_comesTo_16 rfl ?_
  refine V_iload_n dX12_comesTo_18 rfl ?_
  refine V_icmp_geN (tgt := 233) dX12_comesTo_19 rfl (by omega) (by omega) (fun _ => ?_) (fun h => absurd h (by omega))
  refine V_aload_n dX12_comesTo_233 rfl ?_
  refine V_getR (b := 79) dX12_comesTo_234 fX12_59 ⟨Nat.le_of_ble_eq_true rfl, Nat.le_of_ble_eq_true rfl⟩ rfl rfl rfl ?_
  refine V_iconst (v := nI 0) dX12_comesTo_237 rfl ?_
  refine V_ialdN (k := 0) dX12_comesTo_238 ⟨Nat.le_of_ble_eq_true rfl, Nat.le_of_ble_eq_true rfl⟩ rfl (by decide) (by omega) ?_
  refine V_eqI (y := v) (rmI_pop hr).1 ?_
  exact V_iret ⟨Or.inl rfl, dX12_comesTo_239⟩ ⟨Nat.le_of_ble_eq_true rfl, Nat.le_of_ble_eq_true rfl⟩ (hq _ hr.1)

set_option maxRecDepth 100000 in
set_option maxHeartbeats 4000000 in
theorem w_come {G : zG} {I : zI} {J : zJ} {h : Nat} {g : List (Nat × Nat)} {D : (Nat → Int32) → Option Int32} {b0 : Nat → Nat} (hp : cmP h g D b0) (h260 : h ≤ 260) {fr tt : Nat} (ht : tt ≤ 1300) (hb : b0 (260 * (fr / 260)) = fr) (he : b0 (260 * (fr / 260)) + g.length = tt) (hm : cmAt (I 73) (b0 (260 * (fr / 260))) g) : zK G mX12_comesTo 1 [.ref 62, .int (nI fr), .int (nI tt)] zsh I J (zP (fun r I' J' => r = some (.int ((D (I 80)).getD 0)) ∧ offM I I' ∧ J = J')) := by
  refine zK_of kX12_comesTo.2.2.2.2.1 (Nat.le_of_ble_eq_true rfl) ?_
  show V G mX12_comesTo 1 _ 0 [(0, .ref 62), (1, .int (nI fr)), (2, .int (nI tt))] [] (0, 0) zsh I J
  refine V_iconst (v := nI 0) dX12_comesTo_0 rfl ?_
  refine V_istore_n (ls' := [(3, .int (nI 0)), (0, .ref 62), (1, .int (nI fr)), (2, .int (nI tt))]) dX12_comesTo_1 (by decide) rfl ?_
  refine V_sipush (v := nI 260) dX12_comesTo_2 rfl ?_
  refine V_iload_n dX12_comesTo_5 rfl ?_
  refine V_sipush (v := nI 260) dX12_comesTo_6 rfl ?_
  refine V_idivN dX12_comesTo_9 (by omega) (by omega) (by omega) ?_
  refine V_imulN dX12_comesTo_10 ?_
  refine V_istore (ls' := [(4, .int (nI (260 * (fr / 260)))), (3, .int (nI 0)), (0, .ref 62), (1, .int (nI fr)), (2, .int (nI tt))]) dX12_comesTo_11 (by decide) rfl ?_
  refine V_iload_n dX12_comesTo_13 rfl ?_
  refine V_istore (ls' := [(5, .int (nI fr)), (4, .int (nI (260 * (fr / 260)))), (3, .int (nI 0)), (0, .ref 62), (1, .int (nI fr)), (2, .int (nI tt))]) dX12_comesTo_14 (by decide) rfl ?_
  refine V_sub2 (ls' := [(0, .ref 62), (1, .int (nI fr)), (2, .int (nI tt)), (3, .int (nI 0)), (4, .int (nI (260 * (fr / 260)))), (5, .int (nI fr))]) (List.forall_mem_cons.mpr ⟨rfl, List.forall_mem_cons.mpr ⟨rfl, List.forall_mem_cons.mpr ⟨rfl, List.forall_mem_cons.mpr ⟨rfl, List.forall_mem_cons.mpr ⟨rfl, List.forall_mem_cons.mpr ⟨rfl, fun _ h => absurd h List.not_mem_nil⟩⟩⟩⟩⟩⟩) ?_
  have hq : cHd G I J (zP (fun r I' J' => r = some (.int ((D (I 80)).getD 0)) ∧ offM I I' ∧ J = J')) (nI fr) tt (260 * (fr / 260)) (b0 (260 * (fr / 260))) [] := hp.2 G I J _ (nI fr) tt (260 * (fr / 260)) [] hm (by omega) (by omega) ht (by show 0 + h ≤ 260; omega) (fun d I2 h2 => ⟨rfl, by rw [d]; rfl, h2, rfl⟩) (fun v d => by rw [he]; exact cs_end ht (fun I2 h2 => ⟨rfl, by rw [d]; rfl, h2, rfl⟩))
  rw [hb] at hq
  exact hq I ⟨fun _ _ => rfl, fun k hk => absurd hk (Nat.not_lt_zero k)⟩

theorem mp_le {I : zI} {t : Nat} {a : List (Nat × List (Nat × Nat) × List (Nat × Nat))} {M : Nat → ((Nat → Int32) → Option Int32) × ((Nat → Int32) → Option Int32)} (hP : mpI I t a M) (ht4 : t ≤ 4) {j c : Nat} {g1 g2 : List (Nat × Nat)} (hj : a[j]? = some (c, g1, g2)) : j < a.length ∧ plA a j + g1.length + g2.length ≤ 240 ∧ plA a j + g1.length + g2.length + 3 * a.length ≤ 240 := by
  have hl : j < a.length := by
    rcases Nat.lt_or_ge j a.length with h | h
    · exact h
    · rw [List.getElem?_eq_none h] at hj; exact absurd hj (by simp)
  have e1 : plA a (j + 1) = plA a j + g1.length + g2.length := plA_step hj
  have e2 := plA_mono (a := a) (show j + 1 ≤ a.length from hl)
  have e3 := hP.2.2.1
  omega
theorem w_comesE {G : zG} {I : zI} {J : zJ} {t : Nat} {a : List (Nat × List (Nat × Nat) × List (Nat × Nat))} {M : Nat → ((Nat → Int32) → Option Int32) × ((Nat → Int32) → Option Int32)} (hP : mpI I t a M) (ht4 : t ≤ 4) {j c : Nat} {g1 g2 : List (Nat × Nat)} (hj : a[j]? = some (c, g1, g2)) : zK G mX12_comesTo 1 [.ref 62, .int (nI (260 * t + plA a j)), .int (nI (260 * t + plA a j + g1.length))] zsh I J (zP (fun r I' J' => r = some (.int (((M j).1 (I 80)).getD 0)) ∧ offM I I' ∧ J = J')) := by
  obtain ⟨h0, h1, h2⟩ := mp_le hP ht4 hj
  obtain ⟨⟨h, hh, e⟩, _⟩ := hP.1 j c g1 g2 hj
  exact w_come (cmE e (fun _ => 260 * t + plA a j)) (by omega) (by omega) rfl rfl (cmAt_l (hP.2.2.2.2 j c g1 g2 hj).2.2.2.2.2)
theorem w_comesC {G : zG} {I : zI} {J : zJ} {t : Nat} {a : List (Nat × List (Nat × Nat) × List (Nat × Nat))} {M : Nat → ((Nat → Int32) → Option Int32) × ((Nat → Int32) → Option Int32)} (hP : mpI I t a M) (ht4 : t ≤ 4) {j c : Nat} {g1 g2 : List (Nat × Nat)} (hj : a[j]? = some (c, g1, g2)) : zK G mX12_comesTo 1 [.ref 62, .int (nI (260 * t + plA a j + g1.length)), .int (nI (260 * t + plA a j + g1.length + g2.length))] zsh I J (zP (fun r I' J' => r = some (.int (((M j).2 (I 80)).getD 0)) ∧ offM I I' ∧ J = J')) := by
  obtain ⟨h0, h1, h2⟩ := mp_le hP ht4 hj
  obtain ⟨_, ⟨h, hh, e⟩⟩ := hP.1 j c g1 g2 hj
  have e260 : 260 * ((260 * t + plA a j + g1.length) / 260) = 260 * t := by omega
  exact w_come (cmC e (by omega)) (by omega) (by omega) (by rw [e260]; show 260 * t + (plA a j + g1.length) = _; omega) (by rw [e260]; show 260 * t + (plA a j + g1.length) + g2.length = _; omega) (by rw [e260]; show cmAt (I 73) (260 * t + (plA a j + g1.length)) g2; rw [show 260 * t + (plA a j + g1.length) = 260 * t + plA a j + g1.length by omega]; exact cmAt_r (hP.2.2.2.2 j c g1 g2 hj).2.2.2.2.2)
set_option maxRecDepth 100000 in
set_option maxHeartbeats 4000000 in
theorem lp_byLaw {G : zG} {I : zI} {J : zJ} {a : List (Nat × List (Nat × Nat) × List (Nat × Nat))} {M : Nat → ((Nat → Int32) → Option Int32) × ((Nat → Int32) → Option Int32)} (hP : mpI I 0 a M) {letter m : Nat} (hm : m < 2 ^ 31) (hle : letter < 2 ^ 31) : ∀ n j (I1 : zI), j + n = a.length → offM I I1 → V G mX12_byLaw 2 (zP (fun r I' J' => r = some (.int (nI (bnd (mnL a M letter (I 80) n j) m))) ∧ offM I I' ∧ J = J')) 2 [(0, .ref 62), (1, .int (nI letter)), (2, .int (nI m)), (3, .int (nI j))] [] (0, 0) zsh I1 J := by
  have h16 := hP.2.1
  intro n
  induction n with
  | zero =>
    intro j I1 hj hoff
    have hje : j = a.length := by omega
    refine V_iload_n dX12_byLaw_2 rfl ?_
    refine V_aload_n dX12_byLaw_3 rfl ?_
    refine V_getR (b := 74) dX12_byLaw_4 fX12_44 ⟨Nat.le_of_ble_eq_true rfl, Nat.le_of_ble_eq_true rfl⟩ rfl rfl rfl ?_
    refine V_iconst (v := nI 0) dX12_byLaw_7 rfl ?_
    refine V_ialdN (k := 0) dX12_byLaw_8 ⟨Nat.le_of_ble_eq_true rfl, Nat.le_of_ble_eq_true rfl⟩ rfl (by decide) (by omega) ?_
    refine V_eqI (y := nI a.length) (by rw [hoff 74 (by decide)]; exact hP.2.2.2.1) ?_
    refine V_icmp_geN (tgt := 91) dX12_byLaw_9 rfl (by omega) (by omega) (fun _ => ?_) (fun h => absurd h (by omega))
    refine V_iconst (v := nI 0) dX12_byLaw_91 rfl ?_
    exact V_iret ⟨Or.inl rfl, dX12_byLaw_92⟩ ⟨Nat.le_of_ble_eq_true rfl, Nat.le_of_ble_eq_true rfl⟩ ⟨rfl, congrArg (fun z => some (Value.int z)) (congrArg nI (show 0 = bnd 0 m by unfold bnd; rw [show (0 : Int32).toInt = 0 from rfl]; omega)), hoff, rfl⟩
  | succ n ih =>
    intro j I1 hjn hoff
    have hlen : j < a.length := by omega
    obtain ⟨x, hx⟩ : ∃ x, a[j]? = some x := ⟨a[j], List.getElem?_eq_getElem hlen⟩
    obtain ⟨c, g1, g2⟩ := x
    have hj := hx
    have hcl := hP.2.2.2.2 j c g1 g2 hx
    have hlt : ltA a j = c := by unfold ltA; rw [hx]
    have hc256 := hcl.1
    have hb240 := (mp_le hP (Nat.zero_le _) hx).2.1
    refine V_iload_n dX12_byLaw_2 rfl ?_
    refine V_aload_n dX12_byLaw_3 rfl ?_
    refine V_getR (b := 74) dX12_byLaw_4 fX12_44 ⟨Nat.le_of_ble_eq_true rfl, Nat.le_of_ble_eq_true rfl⟩ rfl rfl rfl ?_
    refine V_iconst (v := nI 0) dX12_byLaw_7 rfl ?_
    refine V_ialdN (k := 0) dX12_byLaw_8 ⟨Nat.le_of_ble_eq_true rfl, Nat.le_of_ble_eq_true rfl⟩ rfl (by decide) (by omega) ?_
    refine V_eqI (y := nI a.length) (by rw [hoff 74 (by decide)]; exact hP.2.2.2.1) ?_
    refine V_icmp_geN (tgt := 91) dX12_byLaw_9 rfl (by omega) (by omega) (fun h => absurd h (by omega)) (fun _ => ?_)
    refine V_aload_n dX12_byLaw_12 rfl ?_
    refine V_getR (b := 75) dX12_byLaw_13 fX12_47 ⟨Nat.le_of_ble_eq_true rfl, Nat.le_of_ble_eq_true rfl⟩ rfl rfl rfl ?_
    refine V_iload_n dX12_byLaw_16 rfl ?_
    refine V_ialdN (k := j) dX12_byLaw_17 ⟨Nat.le_of_ble_eq_true rfl, Nat.le_of_ble_eq_true rfl⟩ rfl (by decide) (by omega) ?_
    refine V_eqI (y := nI c) (by rw [hoff 75 (by decide)]; exact (congrArg (I 75) (show j = 16 * 0 + j by omega)).trans hcl.2.1) ?_
    refine V_iload_n dX12_byLaw_18 rfl ?_
    refine V_icmp_neN (tgt := 85) dX12_byLaw_19 rfl (by omega) (by omega) (fun h19 => ?_) (fun h19 => ?_)
    · skip
      refine V_iincN (ls' := [(3, .int (nI (j + 1))), (0, .ref 62), (1, .int (nI letter)), (2, .int (nI m))]) (n := 1) dX12_byLaw_85 rfl rfl (by decide) (by decide) rfl ?_
      refine V_goto (tgt := 2) dX12_byLaw_88 rfl ?_
      rw [mnL_0 (fun h => h19 (hlt.symm.trans h.1))]
      refine V_sub2 (ls' := [(0, .ref 62), (1, .int (nI letter)), (2, .int (nI m)), (3, .int (nI (j + 1)))]) (List.forall_mem_cons.mpr ⟨rfl, List.forall_mem_cons.mpr ⟨rfl, List.forall_mem_cons.mpr ⟨rfl, List.forall_mem_cons.mpr ⟨rfl, fun _ h => absurd h List.not_mem_nil⟩⟩⟩⟩) ?_
      exact ih (j + 1) _ (by omega) hoff
    · skip
      refine V_aload_n dX12_byLaw_22 rfl ?_
      refine V_aload_n dX12_byLaw_23 rfl ?_
      refine V_getR (b := 77) dX12_byLaw_24 fX12_53 ⟨Nat.le_of_ble_eq_true rfl, Nat.le_of_ble_eq_true rfl⟩ rfl rfl rfl ?_
      refine V_iload_n dX12_byLaw_27 rfl ?_
      refine V_ialdN (k := j) dX12_byLaw_28 ⟨Nat.le_of_ble_eq_true rfl, Nat.le_of_ble_eq_true rfl⟩ rfl (by decide) (by omega) ?_
      refine V_eqI (y := nI (260 * 0 + plA a j + g1.length)) (by rw [hoff 77 (by decide)]; exact (congrArg (I 77) (show j = 16 * 0 + j by omega)).trans hcl.2.2.2.1) ?_
      refine V_aload_n dX12_byLaw_29 rfl ?_
      refine V_getR (b := 78) dX12_byLaw_30 fX12_56 ⟨Nat.le_of_ble_eq_true rfl, Nat.le_of_ble_eq_true rfl⟩ rfl rfl rfl ?_
      refine V_iload_n dX12_byLaw_33 rfl ?_
      refine V_ialdN (k := j) dX12_byLaw_34 ⟨Nat.le_of_ble_eq_true rfl, Nat.le_of_ble_eq_true rfl⟩ rfl (by decide) (by omega) ?_
      refine V_eqI (y := nI (260 * 0 + plA a j + g1.length + g2.length)) (by rw [hoff 78 (by decide)]; exact (congrArg (I 78) (show j = 16 * 0 + j by omega)).trans hcl.2.2.2.2.1) ?_
      refine V_callV (As := [.int (nI (260 * 0 + plA a j + g1.length)), .int (nI (260 * 0 + plA a j + g1.length + g2.length))]) (st := []) (a := 62) dX12_byLaw_35 kX12_comesTo lX12_328 (by decide) rfl rfl (Nat.le_of_ble_eq_true rfl) ⟨Nat.le_of_ble_eq_true rfl, Nat.le_of_ble_eq_true rfl⟩ ⟨Nat.le_of_ble_eq_true rfl, Nat.le_of_ble_eq_true rfl⟩ rfl ⟨rfl, by decide⟩ (w_comesC (mpI_o hP hoff) (Nat.zero_le _) hj) ?_
      rintro r sh' I' J' ⟨rfl, rfl, hq, rfl⟩
      have hoff2 := offM_t hoff hq
      rw [hoff 80 (by decide)]
      refine V_iconst (v := nI 1) dX12_byLaw_38 rfl ?_
      refine V_icmp_eq (tgt := 45) dX12_byLaw_39 rfl (fun h39 => ?_) (fun h39 => ?_)
      · skip
        refine V_aload_n dX12_byLaw_45 rfl ?_
        refine V_aload_n dX12_byLaw_46 rfl ?_
        refine V_getR (b := 76) dX12_byLaw_47 fX12_50 ⟨Nat.le_of_ble_eq_true rfl, Nat.le_of_ble_eq_true rfl⟩ rfl rfl rfl ?_
        refine V_iload_n dX12_byLaw_50 rfl ?_
        refine V_ialdN (k := j) dX12_byLaw_51 ⟨Nat.le_of_ble_eq_true rfl, Nat.le_of_ble_eq_true rfl⟩ rfl (by decide) (by omega) ?_
        refine V_eqI (y := nI (260 * 0 + plA a j)) (by rw [hoff2 76 (by decide)]; exact (congrArg (I 76) (show j = 16 * 0 + j by omega)).trans hcl.2.2.1) ?_
        refine V_aload_n dX12_byLaw_52 rfl ?_
        refine V_getR (b := 77) dX12_byLaw_53 fX12_53 ⟨Nat.le_of_ble_eq_true rfl, Nat.le_of_ble_eq_true rfl⟩ rfl rfl rfl ?_
        refine V_iload_n dX12_byLaw_56 rfl ?_
        refine V_ialdN (k := j) dX12_byLaw_57 ⟨Nat.le_of_ble_eq_true rfl, Nat.le_of_ble_eq_true rfl⟩ rfl (by decide) (by omega) ?_
        refine V_eqI (y := nI (260 * 0 + plA a j + g1.length)) (by rw [hoff2 77 (by decide)]; exact (congrArg (I 77) (show j = 16 * 0 + j by omega)).trans hcl.2.2.2.1) ?_
        refine V_callV (As := [.int (nI (260 * 0 + plA a j)), .int (nI (260 * 0 + plA a j + g1.length))]) (st := []) (a := 62) dX12_byLaw_58 kX12_comesTo lX12_328 (by decide) rfl rfl (Nat.le_of_ble_eq_true rfl) ⟨Nat.le_of_ble_eq_true rfl, Nat.le_of_ble_eq_true rfl⟩ ⟨Nat.le_of_ble_eq_true rfl, Nat.le_of_ble_eq_true rfl⟩ rfl ⟨rfl, by decide⟩ (w_comesE (mpI_o hP hoff2) (Nat.zero_le _) hj) ?_
        rintro r sh' I' J' ⟨rfl, rfl, hq, rfl⟩
        have hoff3 := offM_t hoff2 hq
        rw [hoff2 80 (by decide)]
        refine V_istore (ls' := [(4, .int (((M j).1 (I 80)).getD 0)), (0, .ref 62), (1, .int (nI letter)), (2, .int (nI m)), (3, .int (nI j))]) dX12_byLaw_61 (by decide) rfl ?_
        refine V_iload dX12_byLaw_63 rfl ?_
        refine V_if_ge (tgt := 72) dX12_byLaw_65 rfl (fun h65 => ?_) (fun h65 => ?_)
        · skip
          refine V_iload dX12_byLaw_72 rfl ?_
          refine V_iload_n dX12_byLaw_74 rfl ?_
          refine V_icmp_le (tgt := 82) dX12_byLaw_75 rfl (fun h75 => ?_) (fun h75 => ?_)
          · skip
            refine V_iload dX12_byLaw_82 rfl ?_
            exact V_iret ⟨Or.inl rfl, dX12_byLaw_84⟩ ⟨Nat.le_of_ble_eq_true rfl, Nat.le_of_ble_eq_true rfl⟩ ⟨rfl, congrArg (fun z => some (Value.int z)) (by rw [mnL_1 ⟨hlt.trans h19, gd1 h39⟩]; exact (bndM_c hm h65 h75)), hoff3, rfl⟩
          · skip
            refine V_iload_n dX12_byLaw_78 rfl ?_
            refine V_goto (tgt := 84) dX12_byLaw_79 rfl ?_
            exact V_iret ⟨Or.inl rfl, dX12_byLaw_84⟩ ⟨Nat.le_of_ble_eq_true rfl, Nat.le_of_ble_eq_true rfl⟩ ⟨rfl, congrArg (fun z => some (Value.int z)) (by rw [mnL_1 ⟨hlt.trans h19, gd1 h39⟩]; exact (bndM_b hm h75)), hoff3, rfl⟩
        · skip
          refine V_iconst (v := nI 0) dX12_byLaw_68 rfl ?_
          refine V_goto (tgt := 84) dX12_byLaw_69 rfl ?_
          exact V_iret ⟨Or.inl rfl, dX12_byLaw_84⟩ ⟨Nat.le_of_ble_eq_true rfl, Nat.le_of_ble_eq_true rfl⟩ ⟨rfl, congrArg (fun z => some (Value.int z)) (by rw [mnL_1 ⟨hlt.trans h19, gd1 h39⟩]; exact (bndM_a h65)), hoff3, rfl⟩
      · skip
        refine V_goto (tgt := 85) dX12_byLaw_42 rfl ?_
        refine V_iincN (ls' := [(3, .int (nI (j + 1))), (0, .ref 62), (1, .int (nI letter)), (2, .int (nI m))]) (n := 1) dX12_byLaw_85 rfl rfl (by decide) (by decide) rfl ?_
        refine V_goto (tgt := 2) dX12_byLaw_88 rfl ?_
        rw [mnL_0 (fun h => gd1n h39 h.2)]
        refine V_sub2 (ls' := [(0, .ref 62), (1, .int (nI letter)), (2, .int (nI m)), (3, .int (nI (j + 1)))]) (List.forall_mem_cons.mpr ⟨rfl, List.forall_mem_cons.mpr ⟨rfl, List.forall_mem_cons.mpr ⟨rfl, List.forall_mem_cons.mpr ⟨rfl, fun _ h => absurd h List.not_mem_nil⟩⟩⟩⟩) ?_
        exact ih (j + 1) _ (by omega) hoff2

set_option maxRecDepth 100000 in
set_option maxHeartbeats 4000000 in
theorem w_byLaw {G : zG} {I : zI} {J : zJ} {a : List (Nat × List (Nat × Nat) × List (Nat × Nat))} {M : Nat → ((Nat → Int32) → Option Int32) × ((Nat → Int32) → Option Int32)} (hP : mpI I 0 a M) {letter m : Nat} (hm : m < 2 ^ 31) (hle : letter < 2 ^ 31) : zK G mX12_byLaw 2 [.ref 62, .int (nI letter), .int (nI m)] zsh I J (zP (fun r I' J' => r = some (.int (nI (bnd (mnL a M letter (I 80) a.length 0) m))) ∧ offM I I' ∧ J = J')) := by
  refine zK_of kX12_byLaw.2.2.2.2.1 (Nat.le_of_ble_eq_true rfl) ?_
  show V G mX12_byLaw 2 _ 0 [(0, .ref 62), (1, .int (nI letter)), (2, .int (nI m))] [] (0, 0) zsh I J
  refine V_iconst (v := nI 0) dX12_byLaw_0 rfl ?_
  refine V_istore_n (ls' := [(3, .int (nI 0)), (0, .ref 62), (1, .int (nI letter)), (2, .int (nI m))]) dX12_byLaw_1 (by decide) rfl ?_
  refine V_sub2 (ls' := [(0, .ref 62), (1, .int (nI letter)), (2, .int (nI m)), (3, .int (nI 0))]) (List.forall_mem_cons.mpr ⟨rfl, List.forall_mem_cons.mpr ⟨rfl, List.forall_mem_cons.mpr ⟨rfl, List.forall_mem_cons.mpr ⟨rfl, fun _ h => absurd h List.not_mem_nil⟩⟩⟩⟩) ?_
  exact lp_byLaw hP hm hle a.length 0 I (Nat.zero_add _) (fun _ _ => rfl)

