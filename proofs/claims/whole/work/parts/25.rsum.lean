/-! THE CLASS: its reader of sums -/
theorem ex3 {α : Type} (r : Nat × Nat × α) : ∃ fc q g, r = (fc, q, g) := ⟨r.1, r.2.1, r.2.2, rfl⟩
theorem ex4 {α β : Type} (r : Nat × Nat × α × β) : ∃ fc q g1 g2, r = (fc, q, g1, g2) := ⟨r.1, r.2.1, r.2.2.1, r.2.2.2, rfl⟩
/-- a text's sign as a number: -1 where there is none -/
def nxI (c : Nat) : Int32 := if c = 256 then -1 else nI c
theorem nxI_c {c : Nat} (h : c ≠ 256) : nxI c = nI c := if_neg h
theorem nxI_eq {c k : Nat} (hc : c ≤ 256) (hk : k < 256) : nxI c = nI k ↔ c = k := by
  unfold nxI
  split
  · exact ⟨fun h => absurd h (nI_ne_neg2 (by omega) (by decide)), fun h => by omega⟩
  · exact nI_eq (by omega) (by omega)
theorem sgn_le {tx : Nat → Nat} (h : ∀ p, tx p < 256) (n p : Nat) : sgn tx n p ≤ 256 := by
  unfold sgn
  have := h p
  split <;> omega
theorem sgn_lt {tx : Nat → Nat} {n p c : Nat} (h : sgn tx n p = c) (hc : c ≠ 256) : p < n := by
  unfold sgn at h
  split at h
  · assumption
  · exact absurd h.symm hc
theorem sgn_ltn {tx : Nat → Nat} {n p : Nat} (h : sgn tx n p ≠ 256) : p < n := sgn_lt rfl h
/-- the reader's text is this one -/
def txk (I : zI) (tx : Nat → Nat) (n : Nat) : Prop := ∀ p, sgn (txI (I 8)) n p = sgn tx n p
theorem txk_le {I : zI} {tx : Nat → Nat} {n : Nat} (h : txk I tx n) (p : Nat) : sgn tx n p ≤ 256 := by rw [← h p]; exact sgn_le (fun _ => txI_lt) n p
theorem V_icmp_eqX {G : zG} {M : zM} {d pc : Nat} {ls : List (Nat × Value)} {st : List Value} {cs : Nat × Nat} {sh : zS} {I : zI} {J : zJ} {Q : zQ} {c k : Nat} {off : Int} {tgt : Nat} (hdg : decode (zcc M) pc = .ok (.if_icmp .eq off, 3)) (ht : (pc : Int) + off = (tgt : Int)) (hc : c ≤ 256) (hk : k < 256) (k1 : c = k → V G M d Q tgt ls st cs sh I J) (k2 : ¬ c = k → V G M d Q (pc + 3) ls st cs sh I J) : V G M d Q pc ls (.int (nI k) :: .int (nxI c) :: st) cs sh I J :=
  V_icmp_eq hdg ht (fun h => k1 ((nxI_eq hc hk).mp h)) (fun h => k2 (fun e => h ((nxI_eq hc hk).mpr e)))
theorem V_icmp_neX {G : zG} {M : zM} {d pc : Nat} {ls : List (Nat × Value)} {st : List Value} {cs : Nat × Nat} {sh : zS} {I : zI} {J : zJ} {Q : zQ} {c k : Nat} {off : Int} {tgt : Nat} (hdg : decode (zcc M) pc = .ok (.if_icmp .ne off, 3)) (ht : (pc : Int) + off = (tgt : Int)) (hc : c ≤ 256) (hk : k < 256) (k1 : ¬ c = k → V G M d Q tgt ls st cs sh I J) (k2 : c = k → V G M d Q (pc + 3) ls st cs sh I J) : V G M d Q pc ls (.int (nI k) :: .int (nxI c) :: st) cs sh I J :=
  V_icmp_ne hdg ht (fun h => k1 (fun e => h ((nxI_eq hc hk).mpr e))) (fun h => k2 ((nxI_eq hc hk).mp h))
theorem rdR_ok {off n s q : Nat} {I I' : zI} {J : zJ} {r : Nat × Nat × List (Nat × Nat)} {g : List (Nat × Nat)} (hr : r = (0, q, g)) (h : rdS off I I' n s q g) : rdR off I J n s r (some (.int (nI 1))) zsh I' J := by
  subst hr
  exact ⟨rfl, rfl, fun _ => ⟨rfl, h⟩, fun h => absurd rfl h⟩
theorem rdR_no {off n s fc q : Nat} {I I' : zI} {J : zJ} {r : Nat × Nat × List (Nat × Nat)} {g : List (Nat × Nat)} (hr : r = (fc, q, g)) (h0 : fc ≠ 0) (h : rdF I I') (h4 : I' 5 4 = fltI fc q) : rdR off I J n s r (some (.int (nI 0))) zsh I' J := by
  subst hr
  exact ⟨rfl, rfl, fun h => absurd h h0, fun _ => ⟨rfl, h, h4⟩⟩
theorem zK_rdY {G : zG} {M : zM} {d off n s q : Nat} {as : List Value} {I : zI} {J : zJ} {r : Nat × Nat × List (Nat × Nat)} {g : List (Nat × Nat)} (h : zK G M d as zsh I J (rdR off I J n s r)) (hr : r = (0, q, g)) : zK G M d as zsh I J (zP (fun v I' J' => v = some (.int (nI 1)) ∧ rdS off I I' n s q g ∧ J = J')) := by
  subst hr
  exact zK_imp h (fun v sh I' J' hq => ⟨hq.1, (hq.2.2.1 rfl).1, (hq.2.2.1 rfl).2, hq.2.1⟩)
theorem zK_rdN {G : zG} {M : zM} {d off n s fc q : Nat} {as : List Value} {I : zI} {J : zJ} {r : Nat × Nat × List (Nat × Nat)} {g : List (Nat × Nat)} (h : zK G M d as zsh I J (rdR off I J n s r)) (hr : r = (fc, q, g)) (h0 : fc ≠ 0) : zK G M d as zsh I J (zP (fun v I' J' => v = some (.int (nI 0)) ∧ rdF I I' ∧ I' 5 4 = fltI fc q ∧ J = J')) := by
  subst hr
  exact zK_imp h (fun v sh I' J' hq => ⟨hq.1, (hq.2.2.2 h0).1, (hq.2.2.2 h0).2.1, (hq.2.2.2 h0).2.2, hq.2.1⟩)
theorem rdS_x {off n s p : Nat} {I I' : zI} {g : List (Nat × Nat)} {tx : Nat → Nat} (h : rdS off I I' n s p g) (hx : txk I tx n) : txk I' tx n := fun i => by rw [h.1.1 8 (by decide) (by decide) (by decide)]; exact hx i
/-- a fault is noted -/
theorem rdF_no {I : zI} {x : Int32} : rdF I (zwr I 5 4 x) := ⟨fun a b _ _ => zup_n b, rfl, rfl⟩
theorem zwr_54 {I : zI} {x : Int32} : zwr I 5 4 x 5 4 = x := zwr_at.trans (if_pos ⟨rfl, rfl⟩)
theorem enc_lo {off k a : Nat} (h : k < 3) : encS off (k, a) = nI (1048576 * k + a) := by
  show nI (1048576 * k + (if 3 ≤ k then a + off else a)) = _
  rw [if_neg (by omega)]
set_option maxRecDepth 100000 in
set_option maxHeartbeats 4000000 in
theorem c_next1 {G : zG} {I : zI} {J : zJ} {n p s : Nat} {tx : Nat → Nat} (h : rdI I n p s) (hx : txk I tx n) : zK G mX1_next 0 [.ref 5] zsh I J (zA0 (.int (nxI (sgn tx n p))) I J) := by
  refine zK_of kX1_next.2.2.2.2.1 (Nat.le_of_ble_eq_true rfl) ?_
  show V G mX1_next 0 _ 0 [(0, .ref 5)] [] (0, 0) zsh I J
  have h2 := h.2.1
  have h3 := h.2.2.2.1
  refine V_aload_n dX1_next_0 rfl ?_
  refine V_getI dX1_next_1 fX1_41 ⟨Nat.le_of_ble_eq_true rfl, Nat.le_of_ble_eq_true rfl⟩ rfl rfl ?_
  refine V_eqI (y := nI p) h.2.2.1 ?_
  refine V_if_ltN (tgt := 46) dX1_next_4 rfl (by omega) ?_
  refine V_aload_n dX1_next_7 rfl ?_
  refine V_getI dX1_next_8 fX1_41 ⟨Nat.le_of_ble_eq_true rfl, Nat.le_of_ble_eq_true rfl⟩ rfl rfl ?_
  refine V_eqI (y := nI p) h.2.2.1 ?_
  refine V_aload_n dX1_next_11 rfl ?_
  refine V_getI dX1_next_12 fX1_31 ⟨Nat.le_of_ble_eq_true rfl, Nat.le_of_ble_eq_true rfl⟩ rfl rfl ?_
  refine V_eqI (y := nI n) h.1 ?_
  refine V_icmp_geN (tgt := 46) dX1_next_15 rfl (by omega) (by omega) (fun h15 => ?_) (fun h15 => ?_)
  · skip
    refine V_iconst (v := (-1)) dX1_next_46 rfl ?_
    exact V_iret ⟨Or.inl rfl, dX1_next_47⟩ ⟨Nat.le_of_ble_eq_true rfl, Nat.le_of_ble_eq_true rfl⟩ ⟨rfl, by rw [← hx p, sgn_out (by omega)]; rfl, rfl, rfl⟩
  · skip
    refine V_aload_n dX1_next_18 rfl ?_
    refine V_getI dX1_next_19 fX1_41 ⟨Nat.le_of_ble_eq_true rfl, Nat.le_of_ble_eq_true rfl⟩ rfl rfl ?_
    refine V_eqI (y := nI p) h.2.2.1 ?_
    refine V_aload_n dX1_next_22 rfl ?_
    refine V_getR (b := 8) dX1_next_23 fX1_18 ⟨Nat.le_of_ble_eq_true rfl, Nat.le_of_ble_eq_true rfl⟩ rfl rfl rfl ?_
    refine V_alen (v := nI 240) dX1_next_26 ⟨Nat.le_of_ble_eq_true rfl, Nat.le_of_ble_eq_true rfl⟩ rfl (by decide) rfl ?_
    refine V_icmp_geN (tgt := 46) dX1_next_27 rfl (by omega) (by omega) (fun h => absurd h (by omega)) (fun _ => ?_)
    refine V_aload_n dX1_next_30 rfl ?_
    refine V_getR (b := 8) dX1_next_31 fX1_18 ⟨Nat.le_of_ble_eq_true rfl, Nat.le_of_ble_eq_true rfl⟩ rfl rfl rfl ?_
    refine V_aload_n dX1_next_34 rfl ?_
    refine V_getI dX1_next_35 fX1_41 ⟨Nat.le_of_ble_eq_true rfl, Nat.le_of_ble_eq_true rfl⟩ rfl rfl ?_
    refine V_eqI (y := nI p) h.2.2.1 ?_
    refine V_baldN (k := p) dX1_next_38 ⟨Nat.le_of_ble_eq_true rfl, Nat.le_of_ble_eq_true rfl⟩ rfl (by decide) (by omega) ?_
    refine V_sipush (v := nI 255) dX1_next_39 rfl ?_
    refine V_iand dX1_next_42 (V_eqI (y := nI (txI (I 8) p)) txI_and ?_)
    refine V_goto (tgt := 47) dX1_next_43 rfl ?_
    exact V_iret ⟨Or.inl rfl, dX1_next_47⟩ ⟨Nat.le_of_ble_eq_true rfl, Nat.le_of_ble_eq_true rfl⟩ ⟨rfl, by rw [← hx p, sgn_in (by omega), nxI_c (by have := @txI_lt (I 8) p; omega)], rfl, rfl⟩

set_option maxRecDepth 100000 in
set_option maxHeartbeats 4000000 in
theorem c_refuse1 {G : zG} {I : zI} {J : zJ} {n p s fc : Nat} (h : rdI I n p s) : zK G mX1_refuse 0 [.ref 5, .int (nI fc)] zsh I J (zA1 (.int (nI 0)) (fun I' J' => I' = zwr I 5 4 (fltI fc p) ∧ J = J')) := by
  refine zK_of kX1_refuse.2.2.2.2.1 (Nat.le_of_ble_eq_true rfl) ?_
  show V G mX1_refuse 0 _ 0 [(0, .ref 5), (1, .int (nI fc))] [] (0, 0) zsh I J
  have h2 := h.2.1
  have h3 := h.2.2.2.1
  refine V_aload_n dX1_refuse_0 rfl ?_
  refine V_sipush (v := (-1000)) dX1_refuse_1 rfl ?_
  refine V_iload_n dX1_refuse_4 rfl ?_
  refine V_imul dX1_refuse_5 ?_
  refine V_aload_n dX1_refuse_6 rfl ?_
  refine V_getI dX1_refuse_7 fX1_41 ⟨Nat.le_of_ble_eq_true rfl, Nat.le_of_ble_eq_true rfl⟩ rfl rfl ?_
  refine V_eqI (y := nI p) h.2.2.1 ?_
  refine V_isub dX1_refuse_10 ?_
  refine V_putW dX1_refuse_11 fX1_44 ⟨Nat.le_of_ble_eq_true rfl, Nat.le_of_ble_eq_true rfl⟩ rfl rfl rfl ⟨rfl, rfl⟩ ?_
  refine V_iconst (v := nI 0) dX1_refuse_14 rfl ?_
  exact V_iret ⟨Or.inr ⟨rfl, Or.inl rfl⟩, dX1_refuse_15⟩ ⟨Nat.le_of_ble_eq_true rfl, Nat.le_of_ble_eq_true rfl⟩ ⟨rfl, rfl, rfl, rfl⟩

set_option maxRecDepth 100000 in
set_option maxHeartbeats 4000000 in
theorem c_pass1y {G : zG} {I : zI} {J : zJ} {n p s : Nat} {tx : Nat → Nat} (h : rdI I n p s) (hx : txk I tx n) {k : Nat} (hkk : k < 256) (hk : sgn tx n p = k) : zK G mX1_pass 1 [.ref 5, .int (nI k)] zsh I J (zA1 (.int (nI 1)) (fun I' J' => I' = zwr I 5 3 (nI (p + 1)) ∧ J = J')) := by
  refine zK_of kX1_pass.2.2.2.2.1 (Nat.le_of_ble_eq_true rfl) ?_
  show V G mX1_pass 1 _ 0 [(0, .ref 5), (1, .int (nI k))] [] (0, 0) zsh I J
  have h2 := h.2.1
  have h3 := h.2.2.2.1
  refine V_aload_n dX1_pass_0 rfl ?_
  refine V_callV (As := []) (st := []) (a := 5) dX1_pass_1 kX1_next lX1_61 (by decide) rfl rfl (Nat.le_of_ble_eq_true rfl) ⟨Nat.le_of_ble_eq_true rfl, Nat.le_of_ble_eq_true rfl⟩ ⟨Nat.le_of_ble_eq_true rfl, Nat.le_of_ble_eq_true rfl⟩ rfl ⟨rfl, by decide⟩ (c_next1 h hx) ?_
  rintro _ _ _ _ ⟨rfl, rfl, rfl, rfl⟩
  refine V_iload_n dX1_pass_4 rfl ?_
  refine V_icmp_eqX (tgt := 14) dX1_pass_5 rfl (txk_le hx _) (by omega) (fun _ => ?_) (fun h => absurd hk h)
  refine V_aload_n dX1_pass_14 rfl ?_
  refine V_dup dX1_pass_15 rfl ?_
  refine V_getI dX1_pass_16 fX1_41 ⟨Nat.le_of_ble_eq_true rfl, Nat.le_of_ble_eq_true rfl⟩ rfl rfl ?_
  refine V_eqI (y := nI p) h.2.2.1 ?_
  refine V_iconst (v := nI 1) dX1_pass_19 rfl ?_
  refine V_iaddN dX1_pass_20 ?_
  refine V_putW dX1_pass_21 fX1_41 ⟨Nat.le_of_ble_eq_true rfl, Nat.le_of_ble_eq_true rfl⟩ rfl rfl rfl ⟨rfl, rfl⟩ ?_
  refine V_iconst (v := nI 1) dX1_pass_24 rfl ?_
  exact V_iret ⟨Or.inr ⟨rfl, Or.inr rfl⟩, dX1_pass_25⟩ ⟨Nat.le_of_ble_eq_true rfl, Nat.le_of_ble_eq_true rfl⟩ ⟨rfl, rfl, rfl, rfl⟩

set_option maxRecDepth 100000 in
set_option maxHeartbeats 4000000 in
theorem c_pass1n {G : zG} {I : zI} {J : zJ} {n p s : Nat} {tx : Nat → Nat} (h : rdI I n p s) (hx : txk I tx n) {k : Nat} (hkk : k < 256) (hk : ¬ sgn tx n p = k) : zK G mX1_pass 1 [.ref 5, .int (nI k)] zsh I J (zA1 (.int (nI 0)) (fun I' J' => I' = zwr I 5 4 (fltI 1 p) ∧ J = J')) := by
  refine zK_of kX1_pass.2.2.2.2.1 (Nat.le_of_ble_eq_true rfl) ?_
  show V G mX1_pass 1 _ 0 [(0, .ref 5), (1, .int (nI k))] [] (0, 0) zsh I J
  have h2 := h.2.1
  have h3 := h.2.2.2.1
  refine V_aload_n dX1_pass_0 rfl ?_
  refine V_callV (As := []) (st := []) (a := 5) dX1_pass_1 kX1_next lX1_61 (by decide) rfl rfl (Nat.le_of_ble_eq_true rfl) ⟨Nat.le_of_ble_eq_true rfl, Nat.le_of_ble_eq_true rfl⟩ ⟨Nat.le_of_ble_eq_true rfl, Nat.le_of_ble_eq_true rfl⟩ rfl ⟨rfl, by decide⟩ (c_next1 h hx) ?_
  rintro _ _ _ _ ⟨rfl, rfl, rfl, rfl⟩
  refine V_iload_n dX1_pass_4 rfl ?_
  refine V_icmp_eqX (tgt := 14) dX1_pass_5 rfl (txk_le hx _) (by omega) (fun h => absurd h hk) (fun _ => ?_)
  refine V_aload_n dX1_pass_8 rfl ?_
  refine V_iconst (v := nI 1) dX1_pass_9 rfl ?_
  refine V_callV (As := [.int (nI 1)]) (st := []) (a := 5) dX1_pass_10 kX1_refuse lX1_65 (by decide) rfl rfl (Nat.le_of_ble_eq_true rfl) ⟨Nat.le_of_ble_eq_true rfl, Nat.le_of_ble_eq_true rfl⟩ ⟨Nat.le_of_ble_eq_true rfl, Nat.le_of_ble_eq_true rfl⟩ rfl ⟨rfl, by decide⟩ (c_refuse1 h) ?_
  rintro r sh' I' J' ⟨rfl, rfl, rfl, rfl⟩
  exact V_iret ⟨Or.inr ⟨rfl, Or.inl rfl⟩, dX1_pass_13⟩ ⟨Nat.le_of_ble_eq_true rfl, Nat.le_of_ble_eq_true rfl⟩ ⟨rfl, rfl, rfl, rfl⟩

set_option maxRecDepth 100000 in
set_option maxHeartbeats 4000000 in
theorem c_open1y {G : zG} {I : zI} {J : zJ} {n p s dp : Nat} (h : rdI I n p s) (hd : dp < 6) : zK G mX1_open 1 [.ref 5, .int (nI dp)] zsh I J (zA1 (.int (nI 1)) (fun I' J' => I' = zwr I 5 3 (nI (p + 1)) ∧ J = J')) := by
  refine zK_of kX1_open.2.2.2.2.1 (Nat.le_of_ble_eq_true rfl) ?_
  show V G mX1_open 1 _ 0 [(0, .ref 5), (1, .int (nI dp))] [] (0, 0) zsh I J
  have h2 := h.2.1
  have h3 := h.2.2.2.1
  refine V_iload_n dX1_open_0 rfl ?_
  refine V_bipush (v := nI 6) dX1_open_1 rfl ?_
  refine V_icmp_ltN (tgt := 12) dX1_open_3 rfl (by omega) (by omega) (fun _ => ?_) (fun h => absurd h (by omega))
  refine V_aload_n dX1_open_12 rfl ?_
  refine V_dup dX1_open_13 rfl ?_
  refine V_getI dX1_open_14 fX1_41 ⟨Nat.le_of_ble_eq_true rfl, Nat.le_of_ble_eq_true rfl⟩ rfl rfl ?_
  refine V_eqI (y := nI p) h.2.2.1 ?_
  refine V_iconst (v := nI 1) dX1_open_17 rfl ?_
  refine V_iaddN dX1_open_18 ?_
  refine V_putW dX1_open_19 fX1_41 ⟨Nat.le_of_ble_eq_true rfl, Nat.le_of_ble_eq_true rfl⟩ rfl rfl rfl ⟨rfl, rfl⟩ ?_
  refine V_iconst (v := nI 1) dX1_open_22 rfl ?_
  exact V_iret ⟨Or.inr ⟨rfl, Or.inr rfl⟩, dX1_open_23⟩ ⟨Nat.le_of_ble_eq_true rfl, Nat.le_of_ble_eq_true rfl⟩ ⟨rfl, rfl, rfl, rfl⟩

set_option maxRecDepth 100000 in
set_option maxHeartbeats 4000000 in
theorem c_open1n {G : zG} {I : zI} {J : zJ} {n p s dp : Nat} (h : rdI I n p s) (hd : 6 ≤ dp) (hd9 : dp < 2 ^ 31) : zK G mX1_open 1 [.ref 5, .int (nI dp)] zsh I J (zA1 (.int (nI 0)) (fun I' J' => I' = zwr I 5 4 (fltI 5 p) ∧ J = J')) := by
  refine zK_of kX1_open.2.2.2.2.1 (Nat.le_of_ble_eq_true rfl) ?_
  show V G mX1_open 1 _ 0 [(0, .ref 5), (1, .int (nI dp))] [] (0, 0) zsh I J
  have h2 := h.2.1
  have h3 := h.2.2.2.1
  refine V_iload_n dX1_open_0 rfl ?_
  refine V_bipush (v := nI 6) dX1_open_1 rfl ?_
  refine V_icmp_ltN (tgt := 12) dX1_open_3 rfl (by omega) (by omega) (fun h => absurd h (by omega)) (fun _ => ?_)
  refine V_aload_n dX1_open_6 rfl ?_
  refine V_iconst (v := nI 5) dX1_open_7 rfl ?_
  refine V_callV (As := [.int (nI 5)]) (st := []) (a := 5) dX1_open_8 kX1_refuse lX1_65 (by decide) rfl rfl (Nat.le_of_ble_eq_true rfl) ⟨Nat.le_of_ble_eq_true rfl, Nat.le_of_ble_eq_true rfl⟩ ⟨Nat.le_of_ble_eq_true rfl, Nat.le_of_ble_eq_true rfl⟩ rfl ⟨rfl, by decide⟩ (c_refuse1 h) ?_
  rintro r sh' I' J' ⟨rfl, rfl, rfl, rfl⟩
  exact V_iret ⟨Or.inr ⟨rfl, Or.inl rfl⟩, dX1_open_11⟩ ⟨Nat.le_of_ble_eq_true rfl, Nat.le_of_ble_eq_true rfl⟩ ⟨rfl, rfl, rfl, rfl⟩

set_option maxRecDepth 100000 in
set_option maxHeartbeats 4000000 in
theorem c_isDigitM {G : zG} {I : zI} {J : zJ}  : zK G mX1_isDigit 0 [.int (-1)] zsh I J (zA0 (.int (nI 0)) I J) := by
  refine zK_of kX1_isDigit.2.2.2.2.1 (Nat.le_of_ble_eq_true rfl) ?_
  show V G mX1_isDigit 0 _ 0 [(0, .int (-1))] [] (0, 0) zsh I J
  refine V_iload_n dX1_isDigit_0 rfl ?_
  refine V_bipush (v := nI 48) dX1_isDigit_1 rfl ?_
  refine V_icmp_lt (tgt := 16) dX1_isDigit_3 rfl (fun _ => ?_) (fun h => absurd h (by decide))
  refine V_iconst (v := nI 0) dX1_isDigit_16 rfl ?_
  exact V_iret ⟨Or.inr ⟨rfl, Or.inl rfl⟩, dX1_isDigit_17⟩ ⟨Nat.le_of_ble_eq_true rfl, Nat.le_of_ble_eq_true rfl⟩ ⟨rfl, rfl, rfl, rfl⟩

set_option maxRecDepth 100000 in
set_option maxHeartbeats 4000000 in
theorem c_isDigitC {G : zG} {I : zI} {J : zJ} {c : Nat} (hc : c < 2 ^ 31) : zK G mX1_isDigit 0 [.int (nI c)] zsh I J (zA0 (.int (nI (if 48 ≤ c ∧ c ≤ 57 then 1 else 0))) I J) := by
  refine zK_of kX1_isDigit.2.2.2.2.1 (Nat.le_of_ble_eq_true rfl) ?_
  show V G mX1_isDigit 0 _ 0 [(0, .int (nI c))] [] (0, 0) zsh I J
  refine V_iload_n dX1_isDigit_0 rfl ?_
  refine V_bipush (v := nI 48) dX1_isDigit_1 rfl ?_
  refine V_icmp_ltN (tgt := 16) dX1_isDigit_3 rfl (by omega) (by omega) (fun h3 => ?_) (fun h3 => ?_)
  · skip
    refine V_iconst (v := nI 0) dX1_isDigit_16 rfl ?_
    exact V_iret ⟨Or.inr ⟨rfl, Or.inl rfl⟩, dX1_isDigit_17⟩ ⟨Nat.le_of_ble_eq_true rfl, Nat.le_of_ble_eq_true rfl⟩ ⟨rfl, by rw [if_neg (by omega)], rfl, rfl⟩
  · skip
    refine V_iload_n dX1_isDigit_6 rfl ?_
    refine V_bipush (v := nI 57) dX1_isDigit_7 rfl ?_
    refine V_icmp_gtN (tgt := 16) dX1_isDigit_9 rfl (by omega) (by omega) (fun h9 => ?_) (fun h9 => ?_)
    · skip
      refine V_iconst (v := nI 0) dX1_isDigit_16 rfl ?_
      exact V_iret ⟨Or.inr ⟨rfl, Or.inl rfl⟩, dX1_isDigit_17⟩ ⟨Nat.le_of_ble_eq_true rfl, Nat.le_of_ble_eq_true rfl⟩ ⟨rfl, by rw [if_neg (by omega)], rfl, rfl⟩
    · skip
      refine V_iconst (v := nI 1) dX1_isDigit_12 rfl ?_
      refine V_goto (tgt := 17) dX1_isDigit_13 rfl ?_
      exact V_iret ⟨Or.inr ⟨rfl, Or.inr rfl⟩, dX1_isDigit_17⟩ ⟨Nat.le_of_ble_eq_true rfl, Nat.le_of_ble_eq_true rfl⟩ ⟨rfl, by rw [if_pos (by omega)], rfl, rfl⟩

theorem c_isDigit {G : zG} {I : zI} {J : zJ} {c : Nat} (hc : c ≤ 256) : zK G mX1_isDigit 0 [.int (nxI c)] zsh I J (zA0 (.int (nI (if 48 ≤ c ∧ c ≤ 57 then 1 else 0))) I J) := by
  by_cases h : c = 256
  · subst h; exact c_isDigitM
  · rw [nxI_c h]; exact c_isDigitC (by omega)
theorem c_isDigitY {G : zG} {I : zI} {J : zJ} {c : Nat} (hc : c ≤ 256) (h : 48 ≤ c ∧ c ≤ 57) : zK G mX1_isDigit 0 [.int (nxI c)] zsh I J (zA0 (.int (nI 1)) I J) := by
  have := c_isDigit (G := G) (I := I) (J := J) hc
  rw [if_pos h] at this
  exact this
theorem c_isDigitN {G : zG} {I : zI} {J : zJ} {c : Nat} (hc : c ≤ 256) (h : ¬ (48 ≤ c ∧ c ≤ 57)) : zK G mX1_isDigit 0 [.int (nxI c)] zsh I J (zA0 (.int (nI 0)) I J) := by
  have := c_isDigit (G := G) (I := I) (J := J) hc
  rw [if_neg h] at this
  exact this
set_option maxRecDepth 100000 in
set_option maxHeartbeats 4000000 in
theorem c_letterPlace {G : zG} {I : zI} {J : zJ} {c : Nat} (hc : c ≤ 256) : zK G mX1_letterPlace 0 [.int (nxI c)] zsh I J (zA0 (.int (if ltP c < 9 then nI (ltP c) else -1)) I J) := by
  refine zK_of kX1_letterPlace.2.2.2.2.1 (Nat.le_of_ble_eq_true rfl) ?_
  show V G mX1_letterPlace 0 _ 0 [(0, .int (nxI c))] [] (0, 0) zsh I J
  by_cases hin : 102 ≤ c ∧ c ≤ 118
  · rcases (show c = 102 ∨ c = 103 ∨ c = 104 ∨ c = 105 ∨ c = 106 ∨ c = 107 ∨ c = 108 ∨ c = 109 ∨ c = 110 ∨ c = 111 ∨ c = 112 ∨ c = 113 ∨ c = 114 ∨ c = 115 ∨ c = 116 ∨ c = 117 ∨ c = 118 by omega) with e | e | e | e | e | e | e | e | e | e | e | e | e | e | e | e | e <;> subst e
    · skip
      refine V_iload_n dX1_letterPlace_0 rfl ?_
      refine V_tsIn (off := 93) (tgt := 94) dX1_letterPlace_1 (by decide) (by decide) rfl rfl ?_
      refine V_iconst (v := nI 5) dX1_letterPlace_94 rfl ?_
      exact V_iret ⟨Or.inl rfl, dX1_letterPlace_95⟩ ⟨Nat.le_of_ble_eq_true rfl, Nat.le_of_ble_eq_true rfl⟩ ⟨rfl, rfl, rfl, rfl⟩
    · skip
      refine V_iload_n dX1_letterPlace_0 rfl ?_
      refine V_tsIn (off := 104) (tgt := 105) dX1_letterPlace_1 (by decide) (by decide) rfl rfl ?_
      refine V_iconst (v := (-1)) dX1_letterPlace_105 rfl ?_
      exact V_iret ⟨Or.inl rfl, dX1_letterPlace_106⟩ ⟨Nat.le_of_ble_eq_true rfl, Nat.le_of_ble_eq_true rfl⟩ ⟨rfl, rfl, rfl, rfl⟩
    · skip
      refine V_iload_n dX1_letterPlace_0 rfl ?_
      refine V_tsIn (off := 104) (tgt := 105) dX1_letterPlace_1 (by decide) (by decide) rfl rfl ?_
      refine V_iconst (v := (-1)) dX1_letterPlace_105 rfl ?_
      exact V_iret ⟨Or.inl rfl, dX1_letterPlace_106⟩ ⟨Nat.le_of_ble_eq_true rfl, Nat.le_of_ble_eq_true rfl⟩ ⟨rfl, rfl, rfl, rfl⟩
    · skip
      refine V_iload_n dX1_letterPlace_0 rfl ?_
      refine V_tsIn (off := 83) (tgt := 84) dX1_letterPlace_1 (by decide) (by decide) rfl rfl ?_
      refine V_iconst (v := nI 0) dX1_letterPlace_84 rfl ?_
      exact V_iret ⟨Or.inl rfl, dX1_letterPlace_85⟩ ⟨Nat.le_of_ble_eq_true rfl, Nat.le_of_ble_eq_true rfl⟩ ⟨rfl, rfl, rfl, rfl⟩
    · skip
      refine V_iload_n dX1_letterPlace_0 rfl ?_
      refine V_tsIn (off := 104) (tgt := 105) dX1_letterPlace_1 (by decide) (by decide) rfl rfl ?_
      refine V_iconst (v := (-1)) dX1_letterPlace_105 rfl ?_
      exact V_iret ⟨Or.inl rfl, dX1_letterPlace_106⟩ ⟨Nat.le_of_ble_eq_true rfl, Nat.le_of_ble_eq_true rfl⟩ ⟨rfl, rfl, rfl, rfl⟩
    · skip
      refine V_iload_n dX1_letterPlace_0 rfl ?_
      refine V_tsIn (off := 104) (tgt := 105) dX1_letterPlace_1 (by decide) (by decide) rfl rfl ?_
      refine V_iconst (v := (-1)) dX1_letterPlace_105 rfl ?_
      exact V_iret ⟨Or.inl rfl, dX1_letterPlace_106⟩ ⟨Nat.le_of_ble_eq_true rfl, Nat.le_of_ble_eq_true rfl⟩ ⟨rfl, rfl, rfl, rfl⟩
    · skip
      refine V_iload_n dX1_letterPlace_0 rfl ?_
      refine V_tsIn (off := 95) (tgt := 96) dX1_letterPlace_1 (by decide) (by decide) rfl rfl ?_
      refine V_bipush (v := nI 6) dX1_letterPlace_96 rfl ?_
      exact V_iret ⟨Or.inl rfl, dX1_letterPlace_98⟩ ⟨Nat.le_of_ble_eq_true rfl, Nat.le_of_ble_eq_true rfl⟩ ⟨rfl, rfl, rfl, rfl⟩
    · skip
      refine V_iload_n dX1_letterPlace_0 rfl ?_
      refine V_tsIn (off := 89) (tgt := 90) dX1_letterPlace_1 (by decide) (by decide) rfl rfl ?_
      refine V_iconst (v := nI 3) dX1_letterPlace_90 rfl ?_
      exact V_iret ⟨Or.inl rfl, dX1_letterPlace_91⟩ ⟨Nat.le_of_ble_eq_true rfl, Nat.le_of_ble_eq_true rfl⟩ ⟨rfl, rfl, rfl, rfl⟩
    · skip
      refine V_iload_n dX1_letterPlace_0 rfl ?_
      refine V_tsIn (off := 91) (tgt := 92) dX1_letterPlace_1 (by decide) (by decide) rfl rfl ?_
      refine V_iconst (v := nI 4) dX1_letterPlace_92 rfl ?_
      exact V_iret ⟨Or.inl rfl, dX1_letterPlace_93⟩ ⟨Nat.le_of_ble_eq_true rfl, Nat.le_of_ble_eq_true rfl⟩ ⟨rfl, rfl, rfl, rfl⟩
    · skip
      refine V_iload_n dX1_letterPlace_0 rfl ?_
      refine V_tsIn (off := 101) (tgt := 102) dX1_letterPlace_1 (by decide) (by decide) rfl rfl ?_
      refine V_bipush (v := nI 8) dX1_letterPlace_102 rfl ?_
      exact V_iret ⟨Or.inl rfl, dX1_letterPlace_104⟩ ⟨Nat.le_of_ble_eq_true rfl, Nat.le_of_ble_eq_true rfl⟩ ⟨rfl, rfl, rfl, rfl⟩
    · skip
      refine V_iload_n dX1_letterPlace_0 rfl ?_
      refine V_tsIn (off := 104) (tgt := 105) dX1_letterPlace_1 (by decide) (by decide) rfl rfl ?_
      refine V_iconst (v := (-1)) dX1_letterPlace_105 rfl ?_
      exact V_iret ⟨Or.inl rfl, dX1_letterPlace_106⟩ ⟨Nat.le_of_ble_eq_true rfl, Nat.le_of_ble_eq_true rfl⟩ ⟨rfl, rfl, rfl, rfl⟩
    · skip
      refine V_iload_n dX1_letterPlace_0 rfl ?_
      refine V_tsIn (off := 104) (tgt := 105) dX1_letterPlace_1 (by decide) (by decide) rfl rfl ?_
      refine V_iconst (v := (-1)) dX1_letterPlace_105 rfl ?_
      exact V_iret ⟨Or.inl rfl, dX1_letterPlace_106⟩ ⟨Nat.le_of_ble_eq_true rfl, Nat.le_of_ble_eq_true rfl⟩ ⟨rfl, rfl, rfl, rfl⟩
    · skip
      refine V_iload_n dX1_letterPlace_0 rfl ?_
      refine V_tsIn (off := 104) (tgt := 105) dX1_letterPlace_1 (by decide) (by decide) rfl rfl ?_
      refine V_iconst (v := (-1)) dX1_letterPlace_105 rfl ?_
      exact V_iret ⟨Or.inl rfl, dX1_letterPlace_106⟩ ⟨Nat.le_of_ble_eq_true rfl, Nat.le_of_ble_eq_true rfl⟩ ⟨rfl, rfl, rfl, rfl⟩
    · skip
      refine V_iload_n dX1_letterPlace_0 rfl ?_
      refine V_tsIn (off := 98) (tgt := 99) dX1_letterPlace_1 (by decide) (by decide) rfl rfl ?_
      refine V_bipush (v := nI 7) dX1_letterPlace_99 rfl ?_
      exact V_iret ⟨Or.inl rfl, dX1_letterPlace_101⟩ ⟨Nat.le_of_ble_eq_true rfl, Nat.le_of_ble_eq_true rfl⟩ ⟨rfl, rfl, rfl, rfl⟩
    · skip
      refine V_iload_n dX1_letterPlace_0 rfl ?_
      refine V_tsIn (off := 104) (tgt := 105) dX1_letterPlace_1 (by decide) (by decide) rfl rfl ?_
      refine V_iconst (v := (-1)) dX1_letterPlace_105 rfl ?_
      exact V_iret ⟨Or.inl rfl, dX1_letterPlace_106⟩ ⟨Nat.le_of_ble_eq_true rfl, Nat.le_of_ble_eq_true rfl⟩ ⟨rfl, rfl, rfl, rfl⟩
    · skip
      refine V_iload_n dX1_letterPlace_0 rfl ?_
      refine V_tsIn (off := 85) (tgt := 86) dX1_letterPlace_1 (by decide) (by decide) rfl rfl ?_
      refine V_iconst (v := nI 1) dX1_letterPlace_86 rfl ?_
      exact V_iret ⟨Or.inl rfl, dX1_letterPlace_87⟩ ⟨Nat.le_of_ble_eq_true rfl, Nat.le_of_ble_eq_true rfl⟩ ⟨rfl, rfl, rfl, rfl⟩
    · skip
      refine V_iload_n dX1_letterPlace_0 rfl ?_
      refine V_tsIn (off := 87) (tgt := 88) dX1_letterPlace_1 (by decide) (by decide) rfl rfl ?_
      refine V_iconst (v := nI 2) dX1_letterPlace_88 rfl ?_
      exact V_iret ⟨Or.inl rfl, dX1_letterPlace_89⟩ ⟨Nat.le_of_ble_eq_true rfl, Nat.le_of_ble_eq_true rfl⟩ ⟨rfl, rfl, rfl, rfl⟩
  · have hl : ltP c = 9 := by unfold ltP; repeat rw [if_neg (by omega)]
    rw [hl]
    have hout : (nxI c).toInt < 102 ∨ 118 < (nxI c).toInt := by
      by_cases h : c = 256
      · subst h; exact Or.inl (by decide)
      · rw [nxI_c h, nI_toInt (by omega)]; omega
    refine V_iload_n dX1_letterPlace_0 rfl ?_
    refine V_tsOut (tgt := 105) dX1_letterPlace_1 hout rfl ?_
    refine V_iconst (v := (-1)) dX1_letterPlace_105 rfl ?_
    exact V_iret ⟨Or.inl rfl, dX1_letterPlace_106⟩ ⟨Nat.le_of_ble_eq_true rfl, Nat.le_of_ble_eq_true rfl⟩ ⟨rfl, rfl, rfl, rfl⟩

theorem sgI_0 : sgI 0 = -1 := rfl
theorem sgI_c {a : Nat} (h : a ≠ 0) : sgI a = nI a := if_neg h
set_option maxRecDepth 100000 in
set_option maxHeartbeats 4000000 in
theorem c_addSign {G : zG} {I : zI} {J : zJ} {off n p s a : Nat} (h : rdI I n p s) (ha : a < 256) : zK G mX1_addSign 1 [.ref 5, .int (sgI a)] zsh I J (zA2 (fun I' J' => rdS off I I' n s p (sgL a) ∧ J = J')) := by
  refine zK_of kX1_addSign.2.2.2.2.1 (Nat.le_of_ble_eq_true rfl) ?_
  show V G mX1_addSign 1 _ 0 [(0, .ref 5), (1, .int (sgI a))] [] (0, 0) zsh I J
  by_cases h0 : a = 0
  · subst h0
    rw [sgI_0]
    refine V_iload_n dX1_addSign_0 rfl ?_
    refine V_iconst (v := (-1)) dX1_addSign_1 rfl ?_
    refine V_icmp_eq (tgt := 17) dX1_addSign_2 rfl (fun _ => ?_) (fun h => absurd h (by decide))
    exact V_ret ⟨rfl, dX1_addSign_17⟩ ⟨Nat.le_of_ble_eq_true rfl, Nat.le_of_ble_eq_true rfl⟩ ⟨rfl, rfl, rdS_r h, rfl⟩
  · rw [sgI_c h0]
    refine V_iload_n dX1_addSign_0 rfl ?_
    refine V_iconst (v := (-1)) dX1_addSign_1 rfl ?_
    refine V_icmp_eq (tgt := 17) dX1_addSign_2 rfl (fun h => absurd h (nI_ne_neg (by omega) (by decide))) (fun _ => ?_)
    refine V_aload_n dX1_addSign_5 rfl ?_
    refine V_getR (b := 6) dX1_addSign_6 fX1_12 ⟨Nat.le_of_ble_eq_true rfl, Nat.le_of_ble_eq_true rfl⟩ rfl rfl rfl ?_
    refine V_iconst (v := nI 2) dX1_addSign_9 rfl ?_
    refine V_iload_n dX1_addSign_10 rfl ?_
    refine V_callS (As := [.int (nI 2), .int (nI a)]) (st := [.ref 6]) dX1_addSign_11 kX8_step lX1_91 (by decide) rfl rfl (Nat.le_of_ble_eq_true rfl) ⟨Nat.le_of_ble_eq_true rfl, Nat.le_of_ble_eq_true rfl⟩ (c_step8 (by decide) (by omega)) ?_
    rintro _ _ _ _ ⟨rfl, rfl, rfl, rfl⟩
    refine V_callV (As := [.int (nI (1048576 * 2 + a))]) (st := []) (a := 6) dX1_addSign_14 kX8_add lX1_74 (by decide) rfl rfl (Nat.le_of_ble_eq_true rfl) ⟨Nat.le_of_ble_eq_true rfl, Nat.le_of_ble_eq_true rfl⟩ ⟨Nat.le_of_ble_eq_true rfl, Nat.le_of_ble_eq_true rfl⟩ rfl ⟨rfl, by decide⟩ (c_add8 (s := s) h.2.2.2.2) ?_
    rintro r sh' I' J' ⟨rfl, rfl, rfl, rfl⟩
    exact V_ret ⟨rfl, dX1_addSign_17⟩ ⟨Nat.le_of_ble_eq_true rfl, Nat.le_of_ble_eq_true rfl⟩ ⟨rfl, rfl, (by have e := rdS_add (off := off) (c := (2, a)) h; rw [enc_lo (by decide)] at e; unfold sgL; rw [if_neg h0]; exact e), rfl⟩

def pNumF (tx : Nat → Nat) (n k p v : Nat) : Nat × Nat × List (Nat × Nat) :=
  if 48 ≤ sgn tx n (numR tx n k p v).2 ∧ sgn tx n (numR tx n k p v).2 ≤ 57 then (2, (numR tx n k p v).2, []) else (0, (numR tx n k p v).2, [(0, (numR tx n k p v).1)])
theorem rdS_i {off n s p : Nat} {I I' : zI} {g : List (Nat × Nat)} (h : rdS off I I' n s p g) : rdI I' n p (s + g.length) := h.2.2.1
/-- the same, from the first world on -/
theorem rdS_n {off n s p : Nat} {I I' : zI} {g : List (Nat × Nat)} (h : rdS off I I' n s p g) (hp : p < n) : rdS off I (zwr I' 5 3 (nI (p + 1))) n s (p + 1) g := by
  have := rdS_t h (rdS_at (off := off) (rdS_i h) hp)
  rw [List.append_nil] at this
  exact this
set_option maxRecDepth 100000 in
set_option maxHeartbeats 4000000 in
theorem lp_num {G : zG} {I : zI} {J : zJ} {off n s : Nat} {tx : Nat → Nat} (hx : txk I tx n) : ∀ k dg p v (Ic : zI), dg + k = 5 → v < 10 ^ dg → 10 ^ dg * 10 ^ k = 100000 → rdS off I Ic n s p [] → V G mX1_readNumber 1 (rdR off I J n s (pNumF tx n k p v)) 4 [(0, .ref 5), (1, .int (nI v)), (2, .int (nI dg))] [] (0, 0) zsh Ic J := by
  intro k
  induction k with
  | zero =>
    intro dg p v Ic hk hv h5 hc
    have eN : numR tx n 0 p v = (v, p) := rfl
    have hv5 : v < 100000 := by rw [Nat.pow_zero, Nat.mul_one] at h5; omega
    have h9 := (rdS_i hc).2.1
    have h8 := (rdS_i hc).2.2.2.1
    refine V_iload_n dX1_readNumber_4 rfl ?_
    refine V_iconst (v := nI 5) dX1_readNumber_5 rfl ?_
    refine V_icmp_geN (tgt := 48) dX1_readNumber_6 rfl (by omega) (by omega) (fun _ => ?_) (fun h => absurd h (by omega))
    refine V_aload_n dX1_readNumber_48 rfl ?_
    by_cases hd2 : 48 ≤ sgn tx n p ∧ sgn tx n p ≤ 57
    · skip
      refine V_callV (As := []) (st := []) (a := 5) dX1_readNumber_49 kX1_next lX1_61 (by decide) rfl rfl (Nat.le_of_ble_eq_true rfl) ⟨Nat.le_of_ble_eq_true rfl, Nat.le_of_ble_eq_true rfl⟩ ⟨Nat.le_of_ble_eq_true rfl, Nat.le_of_ble_eq_true rfl⟩ rfl ⟨rfl, by decide⟩ (c_next1 (rdS_i hc) (rdS_x hc hx)) ?_
      rintro _ _ _ _ ⟨rfl, rfl, rfl, rfl⟩
      refine V_callS (As := [.int (nxI (sgn tx n p))]) (st := []) dX1_readNumber_52 kX1_isDigit lX1_103 (by decide) rfl rfl (Nat.le_of_ble_eq_true rfl) ⟨Nat.le_of_ble_eq_true rfl, Nat.le_of_ble_eq_true rfl⟩ (c_isDigitY (txk_le hx _) hd2) ?_
      rintro _ _ _ _ ⟨rfl, rfl, rfl, rfl⟩
      refine V_if_eq (tgt := 64) dX1_readNumber_55 rfl (fun h => absurd h (by decide)) (fun _ => ?_)
      refine V_aload_n dX1_readNumber_58 rfl ?_
      refine V_iconst (v := nI 2) dX1_readNumber_59 rfl ?_
      refine V_callV (As := [.int (nI 2)]) (st := []) (a := 5) dX1_readNumber_60 kX1_refuse lX1_65 (by decide) rfl rfl (Nat.le_of_ble_eq_true rfl) ⟨Nat.le_of_ble_eq_true rfl, Nat.le_of_ble_eq_true rfl⟩ ⟨Nat.le_of_ble_eq_true rfl, Nat.le_of_ble_eq_true rfl⟩ rfl ⟨rfl, by decide⟩ (c_refuse1 (rdS_i hc)) ?_
      rintro r sh' I' J' ⟨rfl, rfl, rfl, rfl⟩
      exact V_iret ⟨Or.inr ⟨rfl, Or.inl rfl⟩, dX1_readNumber_63⟩ ⟨Nat.le_of_ble_eq_true rfl, Nat.le_of_ble_eq_true rfl⟩ (rdR_no (fc := 2) (q := p) (g := []) (by unfold pNumF; rw [eN]; exact if_pos hd2) (by decide) (rdF_t hc.1 rdF_no) zwr_54)
    · skip
      refine V_callV (As := []) (st := []) (a := 5) dX1_readNumber_49 kX1_next lX1_61 (by decide) rfl rfl (Nat.le_of_ble_eq_true rfl) ⟨Nat.le_of_ble_eq_true rfl, Nat.le_of_ble_eq_true rfl⟩ ⟨Nat.le_of_ble_eq_true rfl, Nat.le_of_ble_eq_true rfl⟩ rfl ⟨rfl, by decide⟩ (c_next1 (rdS_i hc) (rdS_x hc hx)) ?_
      rintro _ _ _ _ ⟨rfl, rfl, rfl, rfl⟩
      refine V_callS (As := [.int (nxI (sgn tx n p))]) (st := []) dX1_readNumber_52 kX1_isDigit lX1_103 (by decide) rfl rfl (Nat.le_of_ble_eq_true rfl) ⟨Nat.le_of_ble_eq_true rfl, Nat.le_of_ble_eq_true rfl⟩ (c_isDigitN (txk_le hx _) hd2) ?_
      rintro _ _ _ _ ⟨rfl, rfl, rfl, rfl⟩
      refine V_if_eq (tgt := 64) dX1_readNumber_55 rfl (fun _ => ?_) (fun h => absurd h (by decide))
      refine V_aload_n dX1_readNumber_64 rfl ?_
      refine V_getR (b := 6) dX1_readNumber_65 fX1_12 ⟨Nat.le_of_ble_eq_true rfl, Nat.le_of_ble_eq_true rfl⟩ rfl rfl rfl ?_
      refine V_iconst (v := nI 0) dX1_readNumber_68 rfl ?_
      refine V_iload_n dX1_readNumber_69 rfl ?_
      refine V_callS (As := [.int (nI 0), .int (nI v)]) (st := [.ref 6]) dX1_readNumber_70 kX8_step lX1_91 (by decide) rfl rfl (Nat.le_of_ble_eq_true rfl) ⟨Nat.le_of_ble_eq_true rfl, Nat.le_of_ble_eq_true rfl⟩ (c_step8 (by decide) (by omega)) ?_
      rintro _ _ _ _ ⟨rfl, rfl, rfl, rfl⟩
      refine V_callV (As := [.int (nI (1048576 * 0 + v))]) (st := []) (a := 6) dX1_readNumber_73 kX8_add lX1_74 (by decide) rfl rfl (Nat.le_of_ble_eq_true rfl) ⟨Nat.le_of_ble_eq_true rfl, Nat.le_of_ble_eq_true rfl⟩ ⟨Nat.le_of_ble_eq_true rfl, Nat.le_of_ble_eq_true rfl⟩ rfl ⟨rfl, by decide⟩ (c_add8 (s := s + 0) (rdS_i hc).2.2.2.2) ?_
      rintro r sh' I' J' ⟨rfl, rfl, rfl, rfl⟩
      refine V_iconst (v := nI 1) dX1_readNumber_76 rfl ?_
      exact V_iret ⟨Or.inr ⟨rfl, Or.inr rfl⟩, dX1_readNumber_77⟩ ⟨Nat.le_of_ble_eq_true rfl, Nat.le_of_ble_eq_true rfl⟩ (rdR_ok (q := p) (by unfold pNumF; rw [eN]; exact if_neg hd2) (by have e := rdS_t hc (rdS_add (off := off) (c := (0, v)) (rdS_i hc)); rw [enc_lo (by decide)] at e; exact e))
  | succ k ih =>
    intro dg p v Ic hk hv h5 hc
    have hle : 10 ^ dg ≤ 100000 := by rw [← h5]; exact Nat.le_mul_of_pos_right _ (Nat.pow_pos (by decide))
    have hv5 : v < 100000 := by omega
    have h9 := (rdS_i hc).2.1
    have h8 := (rdS_i hc).2.2.2.1
    refine V_iload_n dX1_readNumber_4 rfl ?_
    refine V_iconst (v := nI 5) dX1_readNumber_5 rfl ?_
    refine V_icmp_geN (tgt := 48) dX1_readNumber_6 rfl (by omega) (by omega) (fun h => absurd h (by omega)) (fun _ => ?_)
    refine V_aload_n dX1_readNumber_9 rfl ?_
    by_cases hd : 48 ≤ sgn tx n p ∧ sgn tx n p ≤ 57
    · skip
      have hp : p < n := sgn_ltn (tx := tx) (by omega)
      have eF : pNumF tx n (k + 1) p v = pNumF tx n k (p + 1) (10 * v + sgn tx n p - 48) := by
        have e : numR tx n (k + 1) p v = numR tx n k (p + 1) (10 * v + sgn tx n p - 48) := by
          conv => lhs; unfold numR
          rw [if_pos hd]
        unfold pNumF
        rw [e]
      refine V_callV (As := []) (st := []) (a := 5) dX1_readNumber_10 kX1_next lX1_61 (by decide) rfl rfl (Nat.le_of_ble_eq_true rfl) ⟨Nat.le_of_ble_eq_true rfl, Nat.le_of_ble_eq_true rfl⟩ ⟨Nat.le_of_ble_eq_true rfl, Nat.le_of_ble_eq_true rfl⟩ rfl ⟨rfl, by decide⟩ (c_next1 (rdS_i hc) (rdS_x hc hx)) ?_
      rintro _ _ _ _ ⟨rfl, rfl, rfl, rfl⟩
      refine V_callS (As := [.int (nxI (sgn tx n p))]) (st := []) dX1_readNumber_13 kX1_isDigit lX1_103 (by decide) rfl rfl (Nat.le_of_ble_eq_true rfl) ⟨Nat.le_of_ble_eq_true rfl, Nat.le_of_ble_eq_true rfl⟩ (c_isDigitY (txk_le hx _) hd) ?_
      rintro _ _ _ _ ⟨rfl, rfl, rfl, rfl⟩
      refine V_if_eq (tgt := 48) dX1_readNumber_16 rfl (fun h => absurd h (by decide)) (fun _ => ?_)
      refine V_bipush (v := nI 10) dX1_readNumber_19 rfl ?_
      refine V_iload_n dX1_readNumber_21 rfl ?_
      refine V_imulN dX1_readNumber_22 ?_
      refine V_aload_n dX1_readNumber_23 rfl ?_
      refine V_callV (As := []) (st := [.int (nI (10 * v))]) (a := 5) dX1_readNumber_24 kX1_next lX1_61 (by decide) rfl rfl (Nat.le_of_ble_eq_true rfl) ⟨Nat.le_of_ble_eq_true rfl, Nat.le_of_ble_eq_true rfl⟩ ⟨Nat.le_of_ble_eq_true rfl, Nat.le_of_ble_eq_true rfl⟩ rfl ⟨rfl, by decide⟩ (c_next1 (rdS_i hc) (rdS_x hc hx)) ?_
      rintro _ _ _ _ ⟨rfl, rfl, rfl, rfl⟩
      refine V_eqI (y := nI (sgn tx n p)) (nxI_c (by omega)) ?_
      refine V_iaddN dX1_readNumber_27 ?_
      refine V_bipush (v := nI 48) dX1_readNumber_28 rfl ?_
      refine V_isubN dX1_readNumber_30 (by omega) ?_
      refine V_istore_n (ls' := [(1, .int (nI (((10 * v) + (sgn tx n p)) - 48))), (0, .ref 5), (2, .int (nI dg))]) dX1_readNumber_31 (by decide) rfl ?_
      refine V_aload_n dX1_readNumber_32 rfl ?_
      refine V_dup dX1_readNumber_33 rfl ?_
      refine V_getI dX1_readNumber_34 fX1_41 ⟨Nat.le_of_ble_eq_true rfl, Nat.le_of_ble_eq_true rfl⟩ rfl rfl ?_
      refine V_eqI (y := nI p) (rdS_i hc).2.2.1 ?_
      refine V_iconst (v := nI 1) dX1_readNumber_37 rfl ?_
      refine V_iaddN dX1_readNumber_38 ?_
      refine V_putW dX1_readNumber_39 fX1_41 ⟨Nat.le_of_ble_eq_true rfl, Nat.le_of_ble_eq_true rfl⟩ rfl rfl rfl ⟨rfl, rfl⟩ ?_
      refine V_iincN (ls' := [(2, .int (nI (dg + 1))), (1, .int (nI (((10 * v) + (sgn tx n p)) - 48))), (0, .ref 5)]) (n := 1) dX1_readNumber_42 rfl rfl (by decide) (by decide) rfl ?_
      refine V_goto (tgt := 4) dX1_readNumber_45 rfl ?_
      refine V_sub2 (ls' := [(0, .ref 5), (1, .int (nI (((10 * v) + (sgn tx n p)) - 48))), (2, .int (nI (dg + 1)))]) (List.forall_mem_cons.mpr ⟨rfl, List.forall_mem_cons.mpr ⟨rfl, List.forall_mem_cons.mpr ⟨rfl, fun _ h => absurd h List.not_mem_nil⟩⟩⟩) ?_
      rw [eF]
      exact ih (dg + 1) (p + 1) _ _ (by omega) (by rw [Nat.pow_succ]; omega) (by rw [← h5, Nat.pow_succ, Nat.pow_succ, Nat.mul_assoc, Nat.mul_comm 10]) (rdS_n hc hp)
    · skip
      have eN : numR tx n (k + 1) p v = (v, p) := by
        unfold numR
        rw [if_neg hd]
      refine V_callV (As := []) (st := []) (a := 5) dX1_readNumber_10 kX1_next lX1_61 (by decide) rfl rfl (Nat.le_of_ble_eq_true rfl) ⟨Nat.le_of_ble_eq_true rfl, Nat.le_of_ble_eq_true rfl⟩ ⟨Nat.le_of_ble_eq_true rfl, Nat.le_of_ble_eq_true rfl⟩ rfl ⟨rfl, by decide⟩ (c_next1 (rdS_i hc) (rdS_x hc hx)) ?_
      rintro _ _ _ _ ⟨rfl, rfl, rfl, rfl⟩
      refine V_callS (As := [.int (nxI (sgn tx n p))]) (st := []) dX1_readNumber_13 kX1_isDigit lX1_103 (by decide) rfl rfl (Nat.le_of_ble_eq_true rfl) ⟨Nat.le_of_ble_eq_true rfl, Nat.le_of_ble_eq_true rfl⟩ (c_isDigitN (txk_le hx _) hd) ?_
      rintro _ _ _ _ ⟨rfl, rfl, rfl, rfl⟩
      refine V_if_eq (tgt := 48) dX1_readNumber_16 rfl (fun _ => ?_) (fun h => absurd h (by decide))
      refine V_aload_n dX1_readNumber_48 rfl ?_
      by_cases hd2 : 48 ≤ sgn tx n p ∧ sgn tx n p ≤ 57
      · skip
        refine V_callV (As := []) (st := []) (a := 5) dX1_readNumber_49 kX1_next lX1_61 (by decide) rfl rfl (Nat.le_of_ble_eq_true rfl) ⟨Nat.le_of_ble_eq_true rfl, Nat.le_of_ble_eq_true rfl⟩ ⟨Nat.le_of_ble_eq_true rfl, Nat.le_of_ble_eq_true rfl⟩ rfl ⟨rfl, by decide⟩ (c_next1 (rdS_i hc) (rdS_x hc hx)) ?_
        rintro _ _ _ _ ⟨rfl, rfl, rfl, rfl⟩
        refine V_callS (As := [.int (nxI (sgn tx n p))]) (st := []) dX1_readNumber_52 kX1_isDigit lX1_103 (by decide) rfl rfl (Nat.le_of_ble_eq_true rfl) ⟨Nat.le_of_ble_eq_true rfl, Nat.le_of_ble_eq_true rfl⟩ (c_isDigitY (txk_le hx _) hd2) ?_
        rintro _ _ _ _ ⟨rfl, rfl, rfl, rfl⟩
        refine V_if_eq (tgt := 64) dX1_readNumber_55 rfl (fun h => absurd h (by decide)) (fun _ => ?_)
        refine V_aload_n dX1_readNumber_58 rfl ?_
        refine V_iconst (v := nI 2) dX1_readNumber_59 rfl ?_
        refine V_callV (As := [.int (nI 2)]) (st := []) (a := 5) dX1_readNumber_60 kX1_refuse lX1_65 (by decide) rfl rfl (Nat.le_of_ble_eq_true rfl) ⟨Nat.le_of_ble_eq_true rfl, Nat.le_of_ble_eq_true rfl⟩ ⟨Nat.le_of_ble_eq_true rfl, Nat.le_of_ble_eq_true rfl⟩ rfl ⟨rfl, by decide⟩ (c_refuse1 (rdS_i hc)) ?_
        rintro r sh' I' J' ⟨rfl, rfl, rfl, rfl⟩
        exact V_iret ⟨Or.inr ⟨rfl, Or.inl rfl⟩, dX1_readNumber_63⟩ ⟨Nat.le_of_ble_eq_true rfl, Nat.le_of_ble_eq_true rfl⟩ (rdR_no (fc := 2) (q := p) (g := []) (by unfold pNumF; rw [eN]; exact if_pos hd2) (by decide) (rdF_t hc.1 rdF_no) zwr_54)
      · skip
        refine V_callV (As := []) (st := []) (a := 5) dX1_readNumber_49 kX1_next lX1_61 (by decide) rfl rfl (Nat.le_of_ble_eq_true rfl) ⟨Nat.le_of_ble_eq_true rfl, Nat.le_of_ble_eq_true rfl⟩ ⟨Nat.le_of_ble_eq_true rfl, Nat.le_of_ble_eq_true rfl⟩ rfl ⟨rfl, by decide⟩ (c_next1 (rdS_i hc) (rdS_x hc hx)) ?_
        rintro _ _ _ _ ⟨rfl, rfl, rfl, rfl⟩
        refine V_callS (As := [.int (nxI (sgn tx n p))]) (st := []) dX1_readNumber_52 kX1_isDigit lX1_103 (by decide) rfl rfl (Nat.le_of_ble_eq_true rfl) ⟨Nat.le_of_ble_eq_true rfl, Nat.le_of_ble_eq_true rfl⟩ (c_isDigitN (txk_le hx _) hd2) ?_
        rintro _ _ _ _ ⟨rfl, rfl, rfl, rfl⟩
        refine V_if_eq (tgt := 64) dX1_readNumber_55 rfl (fun _ => ?_) (fun h => absurd h (by decide))
        refine V_aload_n dX1_readNumber_64 rfl ?_
        refine V_getR (b := 6) dX1_readNumber_65 fX1_12 ⟨Nat.le_of_ble_eq_true rfl, Nat.le_of_ble_eq_true rfl⟩ rfl rfl rfl ?_
        refine V_iconst (v := nI 0) dX1_readNumber_68 rfl ?_
        refine V_iload_n dX1_readNumber_69 rfl ?_
        refine V_callS (As := [.int (nI 0), .int (nI v)]) (st := [.ref 6]) dX1_readNumber_70 kX8_step lX1_91 (by decide) rfl rfl (Nat.le_of_ble_eq_true rfl) ⟨Nat.le_of_ble_eq_true rfl, Nat.le_of_ble_eq_true rfl⟩ (c_step8 (by decide) (by omega)) ?_
        rintro _ _ _ _ ⟨rfl, rfl, rfl, rfl⟩
        refine V_callV (As := [.int (nI (1048576 * 0 + v))]) (st := []) (a := 6) dX1_readNumber_73 kX8_add lX1_74 (by decide) rfl rfl (Nat.le_of_ble_eq_true rfl) ⟨Nat.le_of_ble_eq_true rfl, Nat.le_of_ble_eq_true rfl⟩ ⟨Nat.le_of_ble_eq_true rfl, Nat.le_of_ble_eq_true rfl⟩ rfl ⟨rfl, by decide⟩ (c_add8 (s := s + 0) (rdS_i hc).2.2.2.2) ?_
        rintro r sh' I' J' ⟨rfl, rfl, rfl, rfl⟩
        refine V_iconst (v := nI 1) dX1_readNumber_76 rfl ?_
        exact V_iret ⟨Or.inr ⟨rfl, Or.inr rfl⟩, dX1_readNumber_77⟩ ⟨Nat.le_of_ble_eq_true rfl, Nat.le_of_ble_eq_true rfl⟩ (rdR_ok (q := p) (by unfold pNumF; rw [eN]; exact if_neg hd2) (by have e := rdS_t hc (rdS_add (off := off) (c := (0, v)) (rdS_i hc)); rw [enc_lo (by decide)] at e; exact e))

set_option maxRecDepth 100000 in
set_option maxHeartbeats 4000000 in
theorem c_readNumber {G : zG} {I : zI} {J : zJ} {off n p s : Nat} {tx : Nat → Nat} (h : rdI I n p s) (hx : txk I tx n) : zK G mX1_readNumber 1 [.ref 5] zsh I J (rdR off I J n s (pNum tx n p)) := by
  refine zK_of kX1_readNumber.2.2.2.2.1 (Nat.le_of_ble_eq_true rfl) ?_
  show V G mX1_readNumber 1 _ 0 [(0, .ref 5)] [] (0, 0) zsh I J
  refine V_iconst (v := nI 0) dX1_readNumber_0 rfl ?_
  refine V_istore_n (ls' := [(1, .int (nI 0)), (0, .ref 5)]) dX1_readNumber_1 (by decide) rfl ?_
  refine V_iconst (v := nI 0) dX1_readNumber_2 rfl ?_
  refine V_istore_n (ls' := [(2, .int (nI 0)), (1, .int (nI 0)), (0, .ref 5)]) dX1_readNumber_3 (by decide) rfl ?_
  refine V_sub2 (ls' := [(0, .ref 5), (1, .int (nI 0)), (2, .int (nI 0))]) (List.forall_mem_cons.mpr ⟨rfl, List.forall_mem_cons.mpr ⟨rfl, List.forall_mem_cons.mpr ⟨rfl, fun _ h => absurd h List.not_mem_nil⟩⟩⟩) ?_
  exact lp_num hx 5 0 p 0 I rfl (by decide) (by decide) (rdS_r h)

def pBrE (tx : Nat → Nat) (n : Nat) : Nat → Nat → Nat × Nat × List (Nat × Nat)
  | 0, p => (5, p, [])
  | e + 1, p => pBr tx n (pSum tx n e) p
theorem pBrE_s {tx : Nat → Nat} {n e p : Nat} : pBrE tx n (e + 1) p = pBr tx n (pSum tx n e) p := rfl
theorem pSum_E {tx : Nat → Nat} {n : Nat} : ∀ e p, pSum tx n e p = pSumL tx n (pBrE tx n e) 240 p 0 0 []
  | 0, _ => rfl
  | _ + 1, _ => rfl
/-- the contract of readSum with e levels left -/
def sumK (G : zG) (J : zJ) (tx : Nat → Nat) (off n e : Nat) : Prop := ∀ (I : zI) (p s dp : Nat), dp + e = 6 → rdI I n p s → txk I tx n → zK G mX1_readSum (3 + 2 * e) [.ref 5, .int (nI dp)] zsh I J (rdR off I J n s (pSum tx n e p))
set_option maxRecDepth 100000 in
set_option maxHeartbeats 4000000 in
theorem c_factor0 {G : zG} {I : zI} {J : zJ} {off n p s : Nat} {tx : Nat → Nat} (h : rdI I n p s) (hx : txk I tx n) : zK G mX1_readFactor (2 + 2 * 0) [.ref 5, .int (nI 6)] zsh I J (rdR off I J n s (pFac tx n (pBrE tx n (0)) p)) := by
  refine zK_of kX1_readFactor.2.2.2.2.1 (Nat.le_of_ble_eq_true rfl) ?_
  show V G mX1_readFactor (2 + 2 * 0) _ 0 [(0, .ref 5), (1, .int (nI 6))] [] (0, 0) zsh I J
  have hn9 := h.2.1
  have hp9 := h.2.2.2.1
  refine V_aload_n dX1_readFactor_0 rfl ?_
  refine V_callV (As := []) (st := []) (a := 5) dX1_readFactor_1 kX1_next lX1_61 (by omega) rfl rfl (Nat.le_of_ble_eq_true rfl) ⟨Nat.le_of_ble_eq_true rfl, Nat.le_of_ble_eq_true rfl⟩ ⟨Nat.le_of_ble_eq_true rfl, Nat.le_of_ble_eq_true rfl⟩ rfl ⟨rfl, by decide⟩ (c_next1 h hx) ?_
  rintro _ _ _ _ ⟨rfl, rfl, rfl, rfl⟩
  refine V_istore_n (ls' := [(2, .int (nxI (sgn tx n p))), (0, .ref 5), (1, .int (nI 6))]) dX1_readFactor_4 (by decide) rfl ?_
  refine V_iload_n dX1_readFactor_5 rfl ?_
  refine V_bipush (v := nI 91) dX1_readFactor_6 rfl ?_
  refine V_icmp_neX (tgt := 44) dX1_readFactor_8 rfl (txk_le hx _) (by decide) (fun h8 => ?_) (fun h8 => ?_)
  · skip
    refine V_iload_n dX1_readFactor_44 rfl ?_
    by_cases hd : 48 ≤ sgn tx n p ∧ sgn tx n p ≤ 57
    · skip
      refine V_callS (As := [.int (nxI (sgn tx n p))]) (st := []) dX1_readFactor_45 kX1_isDigit lX1_103 (by omega) rfl rfl (Nat.le_of_ble_eq_true rfl) ⟨Nat.le_of_ble_eq_true rfl, Nat.le_of_ble_eq_true rfl⟩ (c_isDigitY (txk_le hx _) hd) ?_
      rintro _ _ _ _ ⟨rfl, rfl, rfl, rfl⟩
      refine V_if_eq (tgt := 56) dX1_readFactor_48 rfl (fun h => absurd h (by decide)) (fun _ => ?_)
      refine V_aload_n dX1_readFactor_51 rfl ?_
      by_cases h0 : (pNum tx n p).1 = 0
      · skip
        refine V_callV (As := []) (st := []) (a := 5) dX1_readFactor_52 kX1_readNumber lX1_106 (by omega) rfl rfl (Nat.le_of_ble_eq_true rfl) ⟨Nat.le_of_ble_eq_true rfl, Nat.le_of_ble_eq_true rfl⟩ ⟨Nat.le_of_ble_eq_true rfl, Nat.le_of_ble_eq_true rfl⟩ rfl ⟨rfl, by decide⟩ (zK_rdY (c_readNumber (off := off) h hx) (q := (pNum tx n p).2.1) (g := (pNum tx n p).2.2) (Prod.ext h0 rfl)) ?_
        rintro r sh' I' J' ⟨rfl, rfl, hS, rfl⟩
        exact V_iret ⟨Or.inr ⟨rfl, Or.inr rfl⟩, dX1_readFactor_55⟩ ⟨Nat.le_of_ble_eq_true rfl, Nat.le_of_ble_eq_true rfl⟩ (rdR_ok (by unfold pFac; rw [if_neg h8, if_pos hd]; exact Prod.ext h0 rfl) hS)
      · skip
        refine V_callV (As := []) (st := []) (a := 5) dX1_readFactor_52 kX1_readNumber lX1_106 (by omega) rfl rfl (Nat.le_of_ble_eq_true rfl) ⟨Nat.le_of_ble_eq_true rfl, Nat.le_of_ble_eq_true rfl⟩ ⟨Nat.le_of_ble_eq_true rfl, Nat.le_of_ble_eq_true rfl⟩ rfl ⟨rfl, by decide⟩ (zK_rdN (c_readNumber (off := off) h hx) (fc := (pNum tx n p).1) (q := (pNum tx n p).2.1) (g := (pNum tx n p).2.2) rfl h0) ?_
        rintro r sh' I' J' ⟨rfl, rfl, hF, h4, rfl⟩
        exact V_iret ⟨Or.inr ⟨rfl, Or.inl rfl⟩, dX1_readFactor_55⟩ ⟨Nat.le_of_ble_eq_true rfl, Nat.le_of_ble_eq_true rfl⟩ (rdR_no (by unfold pFac; rw [if_neg h8, if_pos hd]) h0 hF h4)
    · skip
      refine V_callS (As := [.int (nxI (sgn tx n p))]) (st := []) dX1_readFactor_45 kX1_isDigit lX1_103 (by omega) rfl rfl (Nat.le_of_ble_eq_true rfl) ⟨Nat.le_of_ble_eq_true rfl, Nat.le_of_ble_eq_true rfl⟩ (c_isDigitN (txk_le hx _) hd) ?_
      rintro _ _ _ _ ⟨rfl, rfl, rfl, rfl⟩
      refine V_if_eq (tgt := 56) dX1_readFactor_48 rfl (fun _ => ?_) (fun h => absurd h (by decide))
      refine V_iload_n dX1_readFactor_56 rfl ?_
      by_cases hl : ltP (sgn tx n p) < 9
      · skip
        refine V_callS (As := [.int (nxI (sgn tx n p))]) (st := []) dX1_readFactor_57 kX1_letterPlace lX1_110 (by omega) rfl rfl (Nat.le_of_ble_eq_true rfl) ⟨Nat.le_of_ble_eq_true rfl, Nat.le_of_ble_eq_true rfl⟩ (c_letterPlace (txk_le hx _)) ?_
        rintro _ _ _ _ ⟨rfl, rfl, rfl, rfl⟩
        rw [if_pos hl]
        refine V_istore_n (ls' := [(3, .int (nI (ltP (sgn tx n p)))), (2, .int (nxI (sgn tx n p))), (0, .ref 5), (1, .int (nI 6))]) dX1_readFactor_60 (by decide) rfl ?_
        refine V_iload_n dX1_readFactor_61 rfl ?_
        refine V_if_geN (tgt := 71) dX1_readFactor_62 rfl (by omega) ?_
        have hpn : p < n := sgn_ltn (tx := tx) (by intro h256; rw [h256] at hl; exact absurd hl (by decide))
        refine V_aload_n dX1_readFactor_71 rfl ?_
        refine V_dup dX1_readFactor_72 rfl ?_
        refine V_getI dX1_readFactor_73 fX1_41 ⟨Nat.le_of_ble_eq_true rfl, Nat.le_of_ble_eq_true rfl⟩ rfl rfl ?_
        refine V_eqI (y := nI p) h.2.2.1 ?_
        refine V_iconst (v := nI 1) dX1_readFactor_76 rfl ?_
        refine V_iaddN dX1_readFactor_77 ?_
        refine V_putW dX1_readFactor_78 fX1_41 ⟨Nat.le_of_ble_eq_true rfl, Nat.le_of_ble_eq_true rfl⟩ rfl rfl rfl ⟨rfl, rfl⟩ ?_
        refine V_aload_n dX1_readFactor_81 rfl ?_
        refine V_getR (b := 6) dX1_readFactor_82 fX1_12 ⟨Nat.le_of_ble_eq_true rfl, Nat.le_of_ble_eq_true rfl⟩ rfl rfl rfl ?_
        refine V_iconst (v := nI 1) dX1_readFactor_85 rfl ?_
        refine V_iload_n dX1_readFactor_86 rfl ?_
        refine V_callS (As := [.int (nI 1), .int (nI (ltP (sgn tx n p)))]) (st := [.ref 6]) dX1_readFactor_87 kX8_step lX1_91 (by omega) rfl rfl (Nat.le_of_ble_eq_true rfl) ⟨Nat.le_of_ble_eq_true rfl, Nat.le_of_ble_eq_true rfl⟩ (c_step8 (by decide) (by have := hl; omega)) ?_
        rintro _ _ _ _ ⟨rfl, rfl, rfl, rfl⟩
        refine V_callV (As := [.int (nI (1048576 * 1 + ltP (sgn tx n p)))]) (st := []) (a := 6) dX1_readFactor_90 kX8_add lX1_74 (by omega) rfl rfl (Nat.le_of_ble_eq_true rfl) ⟨Nat.le_of_ble_eq_true rfl, Nat.le_of_ble_eq_true rfl⟩ ⟨Nat.le_of_ble_eq_true rfl, Nat.le_of_ble_eq_true rfl⟩ rfl ⟨rfl, by decide⟩ (c_add8 (rdS_i (rdS_at (off := off) h hpn)).2.2.2.2) ?_
        rintro r sh' I' J' ⟨rfl, rfl, rfl, rfl⟩
        refine V_iconst (v := nI 1) dX1_readFactor_93 rfl ?_
        exact V_iret ⟨Or.inr ⟨rfl, Or.inr rfl⟩, dX1_readFactor_94⟩ ⟨Nat.le_of_ble_eq_true rfl, Nat.le_of_ble_eq_true rfl⟩ (rdR_ok (q := p + 1) (g := [(1, ltP (sgn tx n p))]) (by unfold pFac; rw [if_neg h8, if_neg hd, if_pos hl]) (by have e := rdS_t (rdS_at (off := off) h hpn) (rdS_add (off := off) (c := (1, ltP (sgn tx n p))) (rdS_i (rdS_at (off := off) h hpn))); rw [enc_lo (by decide)] at e; exact e))
      · skip
        refine V_callS (As := [.int (nxI (sgn tx n p))]) (st := []) dX1_readFactor_57 kX1_letterPlace lX1_110 (by omega) rfl rfl (Nat.le_of_ble_eq_true rfl) ⟨Nat.le_of_ble_eq_true rfl, Nat.le_of_ble_eq_true rfl⟩ (c_letterPlace (txk_le hx _)) ?_
        rintro _ _ _ _ ⟨rfl, rfl, rfl, rfl⟩
        rw [if_neg hl]
        refine V_istore_n (ls' := [(3, .int (-1)), (2, .int (nxI (sgn tx n p))), (0, .ref 5), (1, .int (nI 6))]) dX1_readFactor_60 (by decide) rfl ?_
        refine V_iload_n dX1_readFactor_61 rfl ?_
        refine V_if_ge (tgt := 71) dX1_readFactor_62 rfl (fun h => absurd h (by decide)) (fun _ => ?_)
        refine V_aload_n dX1_readFactor_65 rfl ?_
        refine V_iconst (v := nI 1) dX1_readFactor_66 rfl ?_
        refine V_callV (As := [.int (nI 1)]) (st := []) (a := 5) dX1_readFactor_67 kX1_refuse lX1_65 (by omega) rfl rfl (Nat.le_of_ble_eq_true rfl) ⟨Nat.le_of_ble_eq_true rfl, Nat.le_of_ble_eq_true rfl⟩ ⟨Nat.le_of_ble_eq_true rfl, Nat.le_of_ble_eq_true rfl⟩ rfl ⟨rfl, by decide⟩ (c_refuse1 h) ?_
        rintro r sh' I' J' ⟨rfl, rfl, rfl, rfl⟩
        exact V_iret ⟨Or.inr ⟨rfl, Or.inl rfl⟩, dX1_readFactor_70⟩ ⟨Nat.le_of_ble_eq_true rfl, Nat.le_of_ble_eq_true rfl⟩ (rdR_no (fc := 1) (q := p) (g := []) (by unfold pFac; rw [if_neg h8, if_neg hd, if_neg hl]) (by decide) rdF_no zwr_54)
  · skip
    refine V_aload_n dX1_readFactor_11 rfl ?_
    refine V_iload_n dX1_readFactor_12 rfl ?_
    refine V_callV (As := [.int (nI 6)]) (st := []) (a := 5) dX1_readFactor_13 kX1_open lX1_94 (by omega) rfl rfl (Nat.le_of_ble_eq_true rfl) ⟨Nat.le_of_ble_eq_true rfl, Nat.le_of_ble_eq_true rfl⟩ ⟨Nat.le_of_ble_eq_true rfl, Nat.le_of_ble_eq_true rfl⟩ rfl ⟨rfl, by decide⟩ (c_open1n h (by omega) (by omega)) ?_
    rintro r sh' I' J' ⟨rfl, rfl, rfl, rfl⟩
    refine V_if_eq (tgt := 42) dX1_readFactor_16 rfl (fun _ => ?_) (fun h => absurd h (by decide))
    refine V_iconst (v := nI 0) dX1_readFactor_42 rfl ?_
    exact V_iret ⟨Or.inr ⟨rfl, Or.inl rfl⟩, dX1_readFactor_43⟩ ⟨Nat.le_of_ble_eq_true rfl, Nat.le_of_ble_eq_true rfl⟩ (rdR_no (fc := 5) (q := p) (g := []) (by unfold pFac; rw [if_pos h8]; rfl) (by decide) rdF_no zwr_54)

set_option maxRecDepth 100000 in
set_option maxHeartbeats 4000000 in
theorem c_factorS {G : zG} {I : zI} {J : zJ} {off n p s : Nat} {tx : Nat → Nat} (h : rdI I n p s) (hx : txk I tx n) {e dp : Nat} (hdp : dp + (e + 1) = 6) (hS : sumK G J tx off n e) : zK G mX1_readFactor (2 + 2 * (e + 1)) [.ref 5, .int (nI dp)] zsh I J (rdR off I J n s (pFac tx n (pBrE tx n (e + 1)) p)) := by
  refine zK_of kX1_readFactor.2.2.2.2.1 (Nat.le_of_ble_eq_true rfl) ?_
  show V G mX1_readFactor (2 + 2 * (e + 1)) _ 0 [(0, .ref 5), (1, .int (nI dp))] [] (0, 0) zsh I J
  have hn9 := h.2.1
  have hp9 := h.2.2.2.1
  refine V_aload_n dX1_readFactor_0 rfl ?_
  refine V_callV (As := []) (st := []) (a := 5) dX1_readFactor_1 kX1_next lX1_61 (by omega) rfl rfl (Nat.le_of_ble_eq_true rfl) ⟨Nat.le_of_ble_eq_true rfl, Nat.le_of_ble_eq_true rfl⟩ ⟨Nat.le_of_ble_eq_true rfl, Nat.le_of_ble_eq_true rfl⟩ rfl ⟨rfl, by decide⟩ (c_next1 h hx) ?_
  rintro _ _ _ _ ⟨rfl, rfl, rfl, rfl⟩
  refine V_istore_n (ls' := [(2, .int (nxI (sgn tx n p))), (0, .ref 5), (1, .int (nI dp))]) dX1_readFactor_4 (by decide) rfl ?_
  refine V_iload_n dX1_readFactor_5 rfl ?_
  refine V_bipush (v := nI 91) dX1_readFactor_6 rfl ?_
  refine V_icmp_neX (tgt := 44) dX1_readFactor_8 rfl (txk_le hx _) (by decide) (fun h8 => ?_) (fun h8 => ?_)
  · skip
    refine V_iload_n dX1_readFactor_44 rfl ?_
    by_cases hd : 48 ≤ sgn tx n p ∧ sgn tx n p ≤ 57
    · skip
      refine V_callS (As := [.int (nxI (sgn tx n p))]) (st := []) dX1_readFactor_45 kX1_isDigit lX1_103 (by omega) rfl rfl (Nat.le_of_ble_eq_true rfl) ⟨Nat.le_of_ble_eq_true rfl, Nat.le_of_ble_eq_true rfl⟩ (c_isDigitY (txk_le hx _) hd) ?_
      rintro _ _ _ _ ⟨rfl, rfl, rfl, rfl⟩
      refine V_if_eq (tgt := 56) dX1_readFactor_48 rfl (fun h => absurd h (by decide)) (fun _ => ?_)
      refine V_aload_n dX1_readFactor_51 rfl ?_
      by_cases h0 : (pNum tx n p).1 = 0
      · skip
        refine V_callV (As := []) (st := []) (a := 5) dX1_readFactor_52 kX1_readNumber lX1_106 (by omega) rfl rfl (Nat.le_of_ble_eq_true rfl) ⟨Nat.le_of_ble_eq_true rfl, Nat.le_of_ble_eq_true rfl⟩ ⟨Nat.le_of_ble_eq_true rfl, Nat.le_of_ble_eq_true rfl⟩ rfl ⟨rfl, by decide⟩ (zK_rdY (c_readNumber (off := off) h hx) (q := (pNum tx n p).2.1) (g := (pNum tx n p).2.2) (Prod.ext h0 rfl)) ?_
        rintro r sh' I' J' ⟨rfl, rfl, hS, rfl⟩
        exact V_iret ⟨Or.inr ⟨rfl, Or.inr rfl⟩, dX1_readFactor_55⟩ ⟨Nat.le_of_ble_eq_true rfl, Nat.le_of_ble_eq_true rfl⟩ (rdR_ok (by unfold pFac; rw [if_neg h8, if_pos hd]; exact Prod.ext h0 rfl) hS)
      · skip
        refine V_callV (As := []) (st := []) (a := 5) dX1_readFactor_52 kX1_readNumber lX1_106 (by omega) rfl rfl (Nat.le_of_ble_eq_true rfl) ⟨Nat.le_of_ble_eq_true rfl, Nat.le_of_ble_eq_true rfl⟩ ⟨Nat.le_of_ble_eq_true rfl, Nat.le_of_ble_eq_true rfl⟩ rfl ⟨rfl, by decide⟩ (zK_rdN (c_readNumber (off := off) h hx) (fc := (pNum tx n p).1) (q := (pNum tx n p).2.1) (g := (pNum tx n p).2.2) rfl h0) ?_
        rintro r sh' I' J' ⟨rfl, rfl, hF, h4, rfl⟩
        exact V_iret ⟨Or.inr ⟨rfl, Or.inl rfl⟩, dX1_readFactor_55⟩ ⟨Nat.le_of_ble_eq_true rfl, Nat.le_of_ble_eq_true rfl⟩ (rdR_no (by unfold pFac; rw [if_neg h8, if_pos hd]) h0 hF h4)
    · skip
      refine V_callS (As := [.int (nxI (sgn tx n p))]) (st := []) dX1_readFactor_45 kX1_isDigit lX1_103 (by omega) rfl rfl (Nat.le_of_ble_eq_true rfl) ⟨Nat.le_of_ble_eq_true rfl, Nat.le_of_ble_eq_true rfl⟩ (c_isDigitN (txk_le hx _) hd) ?_
      rintro _ _ _ _ ⟨rfl, rfl, rfl, rfl⟩
      refine V_if_eq (tgt := 56) dX1_readFactor_48 rfl (fun _ => ?_) (fun h => absurd h (by decide))
      refine V_iload_n dX1_readFactor_56 rfl ?_
      by_cases hl : ltP (sgn tx n p) < 9
      · skip
        refine V_callS (As := [.int (nxI (sgn tx n p))]) (st := []) dX1_readFactor_57 kX1_letterPlace lX1_110 (by omega) rfl rfl (Nat.le_of_ble_eq_true rfl) ⟨Nat.le_of_ble_eq_true rfl, Nat.le_of_ble_eq_true rfl⟩ (c_letterPlace (txk_le hx _)) ?_
        rintro _ _ _ _ ⟨rfl, rfl, rfl, rfl⟩
        rw [if_pos hl]
        refine V_istore_n (ls' := [(3, .int (nI (ltP (sgn tx n p)))), (2, .int (nxI (sgn tx n p))), (0, .ref 5), (1, .int (nI dp))]) dX1_readFactor_60 (by decide) rfl ?_
        refine V_iload_n dX1_readFactor_61 rfl ?_
        refine V_if_geN (tgt := 71) dX1_readFactor_62 rfl (by omega) ?_
        have hpn : p < n := sgn_ltn (tx := tx) (by intro h256; rw [h256] at hl; exact absurd hl (by decide))
        refine V_aload_n dX1_readFactor_71 rfl ?_
        refine V_dup dX1_readFactor_72 rfl ?_
        refine V_getI dX1_readFactor_73 fX1_41 ⟨Nat.le_of_ble_eq_true rfl, Nat.le_of_ble_eq_true rfl⟩ rfl rfl ?_
        refine V_eqI (y := nI p) h.2.2.1 ?_
        refine V_iconst (v := nI 1) dX1_readFactor_76 rfl ?_
        refine V_iaddN dX1_readFactor_77 ?_
        refine V_putW dX1_readFactor_78 fX1_41 ⟨Nat.le_of_ble_eq_true rfl, Nat.le_of_ble_eq_true rfl⟩ rfl rfl rfl ⟨rfl, rfl⟩ ?_
        refine V_aload_n dX1_readFactor_81 rfl ?_
        refine V_getR (b := 6) dX1_readFactor_82 fX1_12 ⟨Nat.le_of_ble_eq_true rfl, Nat.le_of_ble_eq_true rfl⟩ rfl rfl rfl ?_
        refine V_iconst (v := nI 1) dX1_readFactor_85 rfl ?_
        refine V_iload_n dX1_readFactor_86 rfl ?_
        refine V_callS (As := [.int (nI 1), .int (nI (ltP (sgn tx n p)))]) (st := [.ref 6]) dX1_readFactor_87 kX8_step lX1_91 (by omega) rfl rfl (Nat.le_of_ble_eq_true rfl) ⟨Nat.le_of_ble_eq_true rfl, Nat.le_of_ble_eq_true rfl⟩ (c_step8 (by decide) (by have := hl; omega)) ?_
        rintro _ _ _ _ ⟨rfl, rfl, rfl, rfl⟩
        refine V_callV (As := [.int (nI (1048576 * 1 + ltP (sgn tx n p)))]) (st := []) (a := 6) dX1_readFactor_90 kX8_add lX1_74 (by omega) rfl rfl (Nat.le_of_ble_eq_true rfl) ⟨Nat.le_of_ble_eq_true rfl, Nat.le_of_ble_eq_true rfl⟩ ⟨Nat.le_of_ble_eq_true rfl, Nat.le_of_ble_eq_true rfl⟩ rfl ⟨rfl, by decide⟩ (c_add8 (rdS_i (rdS_at (off := off) h hpn)).2.2.2.2) ?_
        rintro r sh' I' J' ⟨rfl, rfl, rfl, rfl⟩
        refine V_iconst (v := nI 1) dX1_readFactor_93 rfl ?_
        exact V_iret ⟨Or.inr ⟨rfl, Or.inr rfl⟩, dX1_readFactor_94⟩ ⟨Nat.le_of_ble_eq_true rfl, Nat.le_of_ble_eq_true rfl⟩ (rdR_ok (q := p + 1) (g := [(1, ltP (sgn tx n p))]) (by unfold pFac; rw [if_neg h8, if_neg hd, if_pos hl]) (by have e := rdS_t (rdS_at (off := off) h hpn) (rdS_add (off := off) (c := (1, ltP (sgn tx n p))) (rdS_i (rdS_at (off := off) h hpn))); rw [enc_lo (by decide)] at e; exact e))
      · skip
        refine V_callS (As := [.int (nxI (sgn tx n p))]) (st := []) dX1_readFactor_57 kX1_letterPlace lX1_110 (by omega) rfl rfl (Nat.le_of_ble_eq_true rfl) ⟨Nat.le_of_ble_eq_true rfl, Nat.le_of_ble_eq_true rfl⟩ (c_letterPlace (txk_le hx _)) ?_
        rintro _ _ _ _ ⟨rfl, rfl, rfl, rfl⟩
        rw [if_neg hl]
        refine V_istore_n (ls' := [(3, .int (-1)), (2, .int (nxI (sgn tx n p))), (0, .ref 5), (1, .int (nI dp))]) dX1_readFactor_60 (by decide) rfl ?_
        refine V_iload_n dX1_readFactor_61 rfl ?_
        refine V_if_ge (tgt := 71) dX1_readFactor_62 rfl (fun h => absurd h (by decide)) (fun _ => ?_)
        refine V_aload_n dX1_readFactor_65 rfl ?_
        refine V_iconst (v := nI 1) dX1_readFactor_66 rfl ?_
        refine V_callV (As := [.int (nI 1)]) (st := []) (a := 5) dX1_readFactor_67 kX1_refuse lX1_65 (by omega) rfl rfl (Nat.le_of_ble_eq_true rfl) ⟨Nat.le_of_ble_eq_true rfl, Nat.le_of_ble_eq_true rfl⟩ ⟨Nat.le_of_ble_eq_true rfl, Nat.le_of_ble_eq_true rfl⟩ rfl ⟨rfl, by decide⟩ (c_refuse1 h) ?_
        rintro r sh' I' J' ⟨rfl, rfl, rfl, rfl⟩
        exact V_iret ⟨Or.inr ⟨rfl, Or.inl rfl⟩, dX1_readFactor_70⟩ ⟨Nat.le_of_ble_eq_true rfl, Nat.le_of_ble_eq_true rfl⟩ (rdR_no (fc := 1) (q := p) (g := []) (by unfold pFac; rw [if_neg h8, if_neg hd, if_neg hl]) (by decide) rdF_no zwr_54)
  · skip
    have hpn : p < n := sgn_lt h8 (by decide)
    refine V_aload_n dX1_readFactor_11 rfl ?_
    refine V_iload_n dX1_readFactor_12 rfl ?_
    refine V_callV (As := [.int (nI dp)]) (st := []) (a := 5) dX1_readFactor_13 kX1_open lX1_94 (by omega) rfl rfl (Nat.le_of_ble_eq_true rfl) ⟨Nat.le_of_ble_eq_true rfl, Nat.le_of_ble_eq_true rfl⟩ ⟨Nat.le_of_ble_eq_true rfl, Nat.le_of_ble_eq_true rfl⟩ rfl ⟨rfl, by decide⟩ (c_open1y h (by omega)) ?_
    rintro r sh' I' J' ⟨rfl, rfl, rfl, rfl⟩
    refine V_if_eq (tgt := 42) dX1_readFactor_16 rfl (fun h => absurd h (by decide)) (fun _ => ?_)
    refine V_aload_n dX1_readFactor_19 rfl ?_
    refine V_iload_n dX1_readFactor_20 rfl ?_
    refine V_iconst (v := nI 1) dX1_readFactor_21 rfl ?_
    refine V_iaddN dX1_readFactor_22 ?_
    obtain ⟨fc, q, g, hr⟩ : ∃ fc q g, pSum tx n e (p + 1) = (fc, q, g)   := ex3 _
    by_cases hfc : fc = 0
    · skip
      subst hfc
      refine V_callV (As := [.int (nI (dp + 1))]) (st := []) (a := 5) dX1_readFactor_23 kX1_readSum lX1_78 (by omega) rfl rfl (Nat.le_of_ble_eq_true rfl) ⟨Nat.le_of_ble_eq_true rfl, Nat.le_of_ble_eq_true rfl⟩ ⟨Nat.le_of_ble_eq_true rfl, Nat.le_of_ble_eq_true rfl⟩ rfl ⟨rfl, by decide⟩ (zK_rdY (hS (zwr I 5 3 (nI (p + 1))) (p + 1) (s + 0) (dp + 1) (by omega) (rdS_i (rdS_at (off := off) h hpn)) (rdS_x (rdS_at (off := off) h hpn) hx)) hr) ?_
      rintro r sh' Ic J' ⟨rfl, rfl, hB, rfl⟩
      have hc := rdS_t (rdS_at (off := off) h hpn) hB
      refine V_if_eq (tgt := 42) dX1_readFactor_26 rfl (fun h => absurd h (by decide)) (fun _ => ?_)
      refine V_aload_n dX1_readFactor_29 rfl ?_
      refine V_bipush (v := nI 93) dX1_readFactor_30 rfl ?_
      by_cases h93 : sgn tx n q = 93
      · skip
        refine V_callV (As := [.int (nI 93)]) (st := []) (a := 5) dX1_readFactor_32 kX1_pass lX1_57 (by omega) rfl rfl (Nat.le_of_ble_eq_true rfl) ⟨Nat.le_of_ble_eq_true rfl, Nat.le_of_ble_eq_true rfl⟩ ⟨Nat.le_of_ble_eq_true rfl, Nat.le_of_ble_eq_true rfl⟩ rfl ⟨rfl, by decide⟩ (c_pass1y (rdS_i hc) (rdS_x hc hx) (by decide) h93) ?_
        rintro r sh' I' J' ⟨rfl, rfl, rfl, rfl⟩
        refine V_if_eq (tgt := 42) dX1_readFactor_35 rfl (fun h => absurd h (by decide)) (fun _ => ?_)
        refine V_iconst (v := nI 1) dX1_readFactor_38 rfl ?_
        refine V_goto (tgt := 43) dX1_readFactor_39 rfl ?_
        exact V_iret ⟨Or.inr ⟨rfl, Or.inr rfl⟩, dX1_readFactor_43⟩ ⟨Nat.le_of_ble_eq_true rfl, Nat.le_of_ble_eq_true rfl⟩ (rdR_ok (q := q + 1) (g := g) (by unfold pFac; rw [if_pos h8, pBrE_s]; unfold pBr; rw [hr]; exact (if_neg (fun h => h rfl)).trans (if_pos h93)) (rdS_n hc (sgn_lt h93 (by decide))))
      · skip
        refine V_callV (As := [.int (nI 93)]) (st := []) (a := 5) dX1_readFactor_32 kX1_pass lX1_57 (by omega) rfl rfl (Nat.le_of_ble_eq_true rfl) ⟨Nat.le_of_ble_eq_true rfl, Nat.le_of_ble_eq_true rfl⟩ ⟨Nat.le_of_ble_eq_true rfl, Nat.le_of_ble_eq_true rfl⟩ rfl ⟨rfl, by decide⟩ (c_pass1n (rdS_i hc) (rdS_x hc hx) (by decide) h93) ?_
        rintro r sh' I' J' ⟨rfl, rfl, rfl, rfl⟩
        refine V_if_eq (tgt := 42) dX1_readFactor_35 rfl (fun _ => ?_) (fun h => absurd h (by decide))
        refine V_iconst (v := nI 0) dX1_readFactor_42 rfl ?_
        exact V_iret ⟨Or.inr ⟨rfl, Or.inl rfl⟩, dX1_readFactor_43⟩ ⟨Nat.le_of_ble_eq_true rfl, Nat.le_of_ble_eq_true rfl⟩ (rdR_no (fc := 1) (q := q) (g := []) (by unfold pFac; rw [if_pos h8, pBrE_s]; unfold pBr; rw [hr]; exact (if_neg (fun h => h rfl)).trans (if_neg h93)) (by decide) (rdF_t hc.1 rdF_no) zwr_54)
    · skip
      refine V_callV (As := [.int (nI (dp + 1))]) (st := []) (a := 5) dX1_readFactor_23 kX1_readSum lX1_78 (by omega) rfl rfl (Nat.le_of_ble_eq_true rfl) ⟨Nat.le_of_ble_eq_true rfl, Nat.le_of_ble_eq_true rfl⟩ ⟨Nat.le_of_ble_eq_true rfl, Nat.le_of_ble_eq_true rfl⟩ rfl ⟨rfl, by decide⟩ (zK_rdN (hS (zwr I 5 3 (nI (p + 1))) (p + 1) (s + 0) (dp + 1) (by omega) (rdS_i (rdS_at (off := off) h hpn)) (rdS_x (rdS_at (off := off) h hpn) hx)) hr hfc) ?_
      rintro r sh' Ic J' ⟨rfl, rfl, hF, h4, rfl⟩
      refine V_if_eq (tgt := 42) dX1_readFactor_26 rfl (fun _ => ?_) (fun h => absurd h (by decide))
      refine V_iconst (v := nI 0) dX1_readFactor_42 rfl ?_
      exact V_iret ⟨Or.inr ⟨rfl, Or.inl rfl⟩, dX1_readFactor_43⟩ ⟨Nat.le_of_ble_eq_true rfl, Nat.le_of_ble_eq_true rfl⟩ (rdR_no (q := q) (g := []) (by unfold pFac; rw [if_pos h8, pBrE_s]; unfold pBr; rw [hr]; exact if_pos hfc) hfc (rdF_t (rdS_at (off := off) h hpn).1 hF) h4)

theorem c_factorE {G : zG} {J : zJ} {off n : Nat} {tx : Nat → Nat} : ∀ e, (∀ e', e = e' + 1 → sumK G J tx off n e') → ∀ (I : zI) (p s dp : Nat), dp + e = 6 → rdI I n p s → txk I tx n → zK G mX1_readFactor (2 + 2 * e) [.ref 5, .int (nI dp)] zsh I J (rdR off I J n s (pFac tx n (pBrE tx n e) p))
  | 0, _, I, p, s, dp, hd, h, hx => by
    have e : dp = 6 := by omega
    subst e
    exact c_factor0 h hx
  | e + 1, hS, I, p, s, dp, hd, h, hx => c_factorS h hx hd (hS e rfl)
set_option maxRecDepth 100000 in
set_option maxHeartbeats 4000000 in
theorem lp_sum {G : zG} {I : zI} {J : zJ} {off n s e dp : Nat} {tx : Nat → Nat} (hx : txk I tx n) (hdp : dp + e = 6) (hF : ∀ (I : zI) (p s dp : Nat), dp + e = 6 → rdI I n p s → txk I tx n → zK G mX1_readFactor (2 + 2 * e) [.ref 5, .int (nI dp)] zsh I J (rdR off I J n s (pFac tx n (pBrE tx n e) p))) : ∀ k i p a m acc (Ic : zI), i + k = 240 → a < 256 → m < 256 → rdS off I Ic n s p acc → V G mX1_readSum (3 + 2 * e) (rdR off I J n s (pSumL tx n (pBrE tx n e) k p a m acc)) 7 [(0, .ref 5), (1, .int (nI dp)), (2, .int (sgI a)), (3, .int (sgI m)), (4, .int (nI i))] [] (0, 0) zsh Ic J := by
  intro k
  induction k with
  | zero =>
    intro i p a m acc Ic hk ha hm hc
    refine V_iload dX1_readSum_7 rfl ?_
    refine V_sipush (v := nI 240) dX1_readSum_9 rfl ?_
    refine V_icmp_geN (tgt := 105) dX1_readSum_12 rfl (by omega) (by omega) (fun _ => ?_) (fun h => absurd h (by omega))
    refine V_aload_n dX1_readSum_105 rfl ?_
    refine V_iconst (v := nI 1) dX1_readSum_106 rfl ?_
    refine V_callV (As := [.int (nI 1)]) (st := []) (a := 5) dX1_readSum_107 kX1_refuse lX1_65 (by omega) rfl rfl (Nat.le_of_ble_eq_true rfl) ⟨Nat.le_of_ble_eq_true rfl, Nat.le_of_ble_eq_true rfl⟩ ⟨Nat.le_of_ble_eq_true rfl, Nat.le_of_ble_eq_true rfl⟩ rfl ⟨rfl, by decide⟩ (c_refuse1 (rdS_i hc)) ?_
    rintro r sh' I' J' ⟨rfl, rfl, rfl, rfl⟩
    exact V_iret ⟨Or.inr ⟨rfl, Or.inl rfl⟩, dX1_readSum_110⟩ ⟨Nat.le_of_ble_eq_true rfl, Nat.le_of_ble_eq_true rfl⟩ (rdR_no (fc := 1) (q := p) (g := []) rfl (by decide) (rdF_t hc.1 rdF_no) zwr_54)
  | succ k ih =>
    intro i p a m acc Ic hk ha hm hc
    refine V_iload dX1_readSum_7 rfl ?_
    refine V_sipush (v := nI 240) dX1_readSum_9 rfl ?_
    refine V_icmp_geN (tgt := 105) dX1_readSum_12 rfl (by omega) (by omega) (fun h => absurd h (by omega)) (fun _ => ?_)
    refine V_aload_n dX1_readSum_15 rfl ?_
    refine V_iload_n dX1_readSum_16 rfl ?_
    obtain ⟨fc, q, g, hr⟩ : ∃ fc q g, pFac tx n (pBrE tx n e) p = (fc, q, g)   := ex3 _
    by_cases hfc : fc = 0
    · skip
      subst hfc
      refine V_callV (As := [.int (nI dp)]) (st := []) (a := 5) dX1_readSum_17 kX1_readFactor lX1_97 (by omega) rfl rfl (Nat.le_of_ble_eq_true rfl) ⟨Nat.le_of_ble_eq_true rfl, Nat.le_of_ble_eq_true rfl⟩ ⟨Nat.le_of_ble_eq_true rfl, Nat.le_of_ble_eq_true rfl⟩ rfl ⟨rfl, by decide⟩ (zK_rdY (hF Ic p (s + acc.length) dp hdp (rdS_i hc) (rdS_x hc hx)) hr) ?_
      rintro r sh' I1 J' ⟨rfl, rfl, hB, rfl⟩
      have hc1 := rdS_t hc hB
      refine V_if_ne (tgt := 25) dX1_readSum_20 rfl (fun _ => ?_) (fun h => absurd h (by decide))
      refine V_aload_n dX1_readSum_25 rfl ?_
      refine V_iload_n dX1_readSum_26 rfl ?_
      refine V_callV (As := [.int (sgI m)]) (st := []) (a := 5) dX1_readSum_27 kX1_addSign lX1_100 (by omega) rfl rfl (Nat.le_of_ble_eq_true rfl) ⟨Nat.le_of_ble_eq_true rfl, Nat.le_of_ble_eq_true rfl⟩ ⟨Nat.le_of_ble_eq_true rfl, Nat.le_of_ble_eq_true rfl⟩ rfl ⟨rfl, by decide⟩ (c_addSign (off := off) (rdS_i hc1) hm) ?_
      rintro r sh' I2 J' ⟨rfl, rfl, hB2, rfl⟩
      have hc2 := rdS_t hc1 hB2
      refine V_iconst (v := (-1)) dX1_readSum_30 rfl ?_
      refine V_istore_n (ls' := [(3, .int (-1)), (0, .ref 5), (1, .int (nI dp)), (2, .int (sgI a)), (4, .int (nI i))]) dX1_readSum_31 (by decide) rfl ?_
      refine V_aload_n dX1_readSum_32 rfl ?_
      refine V_callV (As := []) (st := []) (a := 5) dX1_readSum_33 kX1_next lX1_61 (by omega) rfl rfl (Nat.le_of_ble_eq_true rfl) ⟨Nat.le_of_ble_eq_true rfl, Nat.le_of_ble_eq_true rfl⟩ ⟨Nat.le_of_ble_eq_true rfl, Nat.le_of_ble_eq_true rfl⟩ rfl ⟨rfl, by decide⟩ (c_next1 (rdS_i hc2) (rdS_x hc2 hx)) ?_
      rintro _ _ _ _ ⟨rfl, rfl, rfl, rfl⟩
      refine V_istore (ls' := [(5, .int (nxI (sgn tx n q))), (3, .int (-1)), (0, .ref 5), (1, .int (nI dp)), (2, .int (sgI a)), (4, .int (nI i))]) dX1_readSum_36 (by decide) rfl ?_
      refine V_iload dX1_readSum_38 rfl ?_
      refine V_bipush (v := nI 42) dX1_readSum_40 rfl ?_
      refine V_icmp_eqX (tgt := 59) dX1_readSum_42 rfl (txk_le hx _) (by decide) (fun h42 => ?_) (fun h42 => ?_)
      · skip
        refine V_iload dX1_readSum_59 rfl ?_
        refine V_istore_n (ls' := [(3, .int (nxI (sgn tx n q))), (5, .int (nxI (sgn tx n q))), (0, .ref 5), (1, .int (nI dp)), (2, .int (sgI a)), (4, .int (nI i))]) dX1_readSum_61 (by decide) rfl ?_
        refine V_goto (tgt := 89) dX1_readSum_62 rfl ?_
        refine V_aload_n dX1_readSum_89 rfl ?_
        refine V_dup dX1_readSum_90 rfl ?_
        refine V_getI dX1_readSum_91 fX1_41 ⟨Nat.le_of_ble_eq_true rfl, Nat.le_of_ble_eq_true rfl⟩ rfl rfl ?_
        refine V_eqI (y := nI q) (rdS_i hc2).2.2.1 ?_
        refine V_iconst (v := nI 1) dX1_readSum_94 rfl ?_
        refine V_iaddN dX1_readSum_95 ?_
        refine V_putW dX1_readSum_96 fX1_41 ⟨Nat.le_of_ble_eq_true rfl, Nat.le_of_ble_eq_true rfl⟩ rfl rfl rfl ⟨rfl, rfl⟩ ?_
        refine V_iincN (ls' := [(4, .int (nI (i + 1))), (3, .int (nxI (sgn tx n q))), (5, .int (nxI (sgn tx n q))), (0, .ref 5), (1, .int (nI dp)), (2, .int (sgI a))]) (n := 1) dX1_readSum_99 rfl rfl (by decide) (by decide) rfl ?_
        refine V_goto (tgt := 7) dX1_readSum_102 rfl ?_
        have hq := sgn_ltn (tx := tx) (n := n) (p := q) (by omega)
        have hsg : sgI (sgn tx n q) = nxI (sgn tx n q) := by rw [sgI_c (by omega), nxI_c (by omega)]
        have hsg := hsg.symm
        refine V_sub2 (ls' := [(0, .ref 5), (1, .int (nI dp)), (2, .int (sgI a)), (3, .int (sgI (sgn tx n q))), (4, .int (nI (i + 1)))]) (List.forall_mem_cons.mpr ⟨rfl, List.forall_mem_cons.mpr ⟨rfl, List.forall_mem_cons.mpr ⟨rfl, List.forall_mem_cons.mpr ⟨(congrArg (fun z => some (Value.int z)) hsg), List.forall_mem_cons.mpr ⟨rfl, fun _ h => absurd h List.not_mem_nil⟩⟩⟩⟩⟩) ?_
        have e9 : pSumL tx n (pBrE tx n e) (k + 1) p a m acc = pSumL tx n (pBrE tx n e) k (q + 1) a (sgn tx n q) (acc ++ g ++ sgL m) := by
          conv => lhs; unfold pSumL
          rw [hr]
          exact (if_neg (fun h => h rfl)).trans (if_pos (by show sgn tx n q = 42 ∨ sgn tx n q = 47 ∨ sgn tx n q = 37; omega))
        rw [e9]
        exact ih (i + 1) (q + 1) a (sgn tx n q) _ _ (by omega) ha (by omega) (rdS_n hc2 hq)
      · skip
        refine V_iload dX1_readSum_45 rfl ?_
        refine V_bipush (v := nI 47) dX1_readSum_47 rfl ?_
        refine V_icmp_eqX (tgt := 59) dX1_readSum_49 rfl (txk_le hx _) (by decide) (fun h49 => ?_) (fun h49 => ?_)
        · skip
          refine V_iload dX1_readSum_59 rfl ?_
          refine V_istore_n (ls' := [(3, .int (nxI (sgn tx n q))), (5, .int (nxI (sgn tx n q))), (0, .ref 5), (1, .int (nI dp)), (2, .int (sgI a)), (4, .int (nI i))]) dX1_readSum_61 (by decide) rfl ?_
          refine V_goto (tgt := 89) dX1_readSum_62 rfl ?_
          refine V_aload_n dX1_readSum_89 rfl ?_
          refine V_dup dX1_readSum_90 rfl ?_
          refine V_getI dX1_readSum_91 fX1_41 ⟨Nat.le_of_ble_eq_true rfl, Nat.le_of_ble_eq_true rfl⟩ rfl rfl ?_
          refine V_eqI (y := nI q) (rdS_i hc2).2.2.1 ?_
          refine V_iconst (v := nI 1) dX1_readSum_94 rfl ?_
          refine V_iaddN dX1_readSum_95 ?_
          refine V_putW dX1_readSum_96 fX1_41 ⟨Nat.le_of_ble_eq_true rfl, Nat.le_of_ble_eq_true rfl⟩ rfl rfl rfl ⟨rfl, rfl⟩ ?_
          refine V_iincN (ls' := [(4, .int (nI (i + 1))), (3, .int (nxI (sgn tx n q))), (5, .int (nxI (sgn tx n q))), (0, .ref 5), (1, .int (nI dp)), (2, .int (sgI a))]) (n := 1) dX1_readSum_99 rfl rfl (by decide) (by decide) rfl ?_
          refine V_goto (tgt := 7) dX1_readSum_102 rfl ?_
          have hq := sgn_ltn (tx := tx) (n := n) (p := q) (by omega)
          have hsg : sgI (sgn tx n q) = nxI (sgn tx n q) := by rw [sgI_c (by omega), nxI_c (by omega)]
          have hsg := hsg.symm
          refine V_sub2 (ls' := [(0, .ref 5), (1, .int (nI dp)), (2, .int (sgI a)), (3, .int (sgI (sgn tx n q))), (4, .int (nI (i + 1)))]) (List.forall_mem_cons.mpr ⟨rfl, List.forall_mem_cons.mpr ⟨rfl, List.forall_mem_cons.mpr ⟨rfl, List.forall_mem_cons.mpr ⟨(congrArg (fun z => some (Value.int z)) hsg), List.forall_mem_cons.mpr ⟨rfl, fun _ h => absurd h List.not_mem_nil⟩⟩⟩⟩⟩) ?_
          have e9 : pSumL tx n (pBrE tx n e) (k + 1) p a m acc = pSumL tx n (pBrE tx n e) k (q + 1) a (sgn tx n q) (acc ++ g ++ sgL m) := by
            conv => lhs; unfold pSumL
            rw [hr]
            exact (if_neg (fun h => h rfl)).trans (if_pos (by show sgn tx n q = 42 ∨ sgn tx n q = 47 ∨ sgn tx n q = 37; omega))
          rw [e9]
          exact ih (i + 1) (q + 1) a (sgn tx n q) _ _ (by omega) ha (by omega) (rdS_n hc2 hq)
        · skip
          refine V_iload dX1_readSum_52 rfl ?_
          refine V_bipush (v := nI 37) dX1_readSum_54 rfl ?_
          refine V_icmp_neX (tgt := 65) dX1_readSum_56 rfl (txk_le hx _) (by decide) (fun h56 => ?_) (fun h56 => ?_)
          · skip
            refine V_aload_n dX1_readSum_65 rfl ?_
            refine V_iload_n dX1_readSum_66 rfl ?_
            refine V_callV (As := [.int (sgI a)]) (st := []) (a := 5) dX1_readSum_67 kX1_addSign lX1_100 (by omega) rfl rfl (Nat.le_of_ble_eq_true rfl) ⟨Nat.le_of_ble_eq_true rfl, Nat.le_of_ble_eq_true rfl⟩ ⟨Nat.le_of_ble_eq_true rfl, Nat.le_of_ble_eq_true rfl⟩ rfl ⟨rfl, by decide⟩ (c_addSign (off := off) (rdS_i hc2) ha) ?_
            rintro r sh' I3 J' ⟨rfl, rfl, hB3, rfl⟩
            have hc3 := rdS_t hc2 hB3
            refine V_iload dX1_readSum_70 rfl ?_
            refine V_bipush (v := nI 43) dX1_readSum_72 rfl ?_
            refine V_icmp_eqX (tgt := 86) dX1_readSum_74 rfl (txk_le hx _) (by decide) (fun h74 => ?_) (fun h74 => ?_)
            · skip
              refine V_iload dX1_readSum_86 rfl ?_
              refine V_istore_n (ls' := [(2, .int (nxI (sgn tx n q))), (5, .int (nxI (sgn tx n q))), (3, .int (-1)), (0, .ref 5), (1, .int (nI dp)), (4, .int (nI i))]) dX1_readSum_88 (by decide) rfl ?_
              refine V_aload_n dX1_readSum_89 rfl ?_
              refine V_dup dX1_readSum_90 rfl ?_
              refine V_getI dX1_readSum_91 fX1_41 ⟨Nat.le_of_ble_eq_true rfl, Nat.le_of_ble_eq_true rfl⟩ rfl rfl ?_
              refine V_eqI (y := nI q) (rdS_i hc3).2.2.1 ?_
              refine V_iconst (v := nI 1) dX1_readSum_94 rfl ?_
              refine V_iaddN dX1_readSum_95 ?_
              refine V_putW dX1_readSum_96 fX1_41 ⟨Nat.le_of_ble_eq_true rfl, Nat.le_of_ble_eq_true rfl⟩ rfl rfl rfl ⟨rfl, rfl⟩ ?_
              refine V_iincN (ls' := [(4, .int (nI (i + 1))), (2, .int (nxI (sgn tx n q))), (5, .int (nxI (sgn tx n q))), (3, .int (-1)), (0, .ref 5), (1, .int (nI dp))]) (n := 1) dX1_readSum_99 rfl rfl (by decide) (by decide) rfl ?_
              refine V_goto (tgt := 7) dX1_readSum_102 rfl ?_
              have hq := sgn_ltn (tx := tx) (n := n) (p := q) (by omega)
              have hsg : nxI (sgn tx n q) = sgI (sgn tx n q) := by rw [sgI_c (by omega), nxI_c (by omega)]
              refine V_sub2 (ls' := [(0, .ref 5), (1, .int (nI dp)), (2, .int (sgI (sgn tx n q))), (3, .int (sgI 0)), (4, .int (nI (i + 1)))]) (List.forall_mem_cons.mpr ⟨rfl, List.forall_mem_cons.mpr ⟨rfl, List.forall_mem_cons.mpr ⟨(congrArg (fun z => some (Value.int z)) hsg), List.forall_mem_cons.mpr ⟨(congrArg (fun z => some (Value.int z)) sgI_0), List.forall_mem_cons.mpr ⟨rfl, fun _ h => absurd h List.not_mem_nil⟩⟩⟩⟩⟩) ?_
              have e9 : pSumL tx n (pBrE tx n e) (k + 1) p a m acc = pSumL tx n (pBrE tx n e) k (q + 1) (sgn tx n q) 0 (acc ++ g ++ sgL m ++ sgL a) := by
                conv => lhs; unfold pSumL
                rw [hr]
                exact (if_neg (fun h => h rfl)).trans ((if_neg (by show ¬ (sgn tx n q = 42 ∨ sgn tx n q = 47 ∨ sgn tx n q = 37); omega)).trans (if_pos (by show sgn tx n q = 43 ∨ sgn tx n q = 45; omega)))
              rw [e9]
              exact ih (i + 1) (q + 1) (sgn tx n q) 0 _ _ (by omega) (by omega) (by decide) (rdS_n hc3 hq)
            · skip
              refine V_iload dX1_readSum_77 rfl ?_
              refine V_bipush (v := nI 45) dX1_readSum_79 rfl ?_
              refine V_icmp_eqX (tgt := 86) dX1_readSum_81 rfl (txk_le hx _) (by decide) (fun h81 => ?_) (fun h81 => ?_)
              · skip
                refine V_iload dX1_readSum_86 rfl ?_
                refine V_istore_n (ls' := [(2, .int (nxI (sgn tx n q))), (5, .int (nxI (sgn tx n q))), (3, .int (-1)), (0, .ref 5), (1, .int (nI dp)), (4, .int (nI i))]) dX1_readSum_88 (by decide) rfl ?_
                refine V_aload_n dX1_readSum_89 rfl ?_
                refine V_dup dX1_readSum_90 rfl ?_
                refine V_getI dX1_readSum_91 fX1_41 ⟨Nat.le_of_ble_eq_true rfl, Nat.le_of_ble_eq_true rfl⟩ rfl rfl ?_
                refine V_eqI (y := nI q) (rdS_i hc3).2.2.1 ?_
                refine V_iconst (v := nI 1) dX1_readSum_94 rfl ?_
                refine V_iaddN dX1_readSum_95 ?_
                refine V_putW dX1_readSum_96 fX1_41 ⟨Nat.le_of_ble_eq_true rfl, Nat.le_of_ble_eq_true rfl⟩ rfl rfl rfl ⟨rfl, rfl⟩ ?_
                refine V_iincN (ls' := [(4, .int (nI (i + 1))), (2, .int (nxI (sgn tx n q))), (5, .int (nxI (sgn tx n q))), (3, .int (-1)), (0, .ref 5), (1, .int (nI dp))]) (n := 1) dX1_readSum_99 rfl rfl (by decide) (by decide) rfl ?_
                refine V_goto (tgt := 7) dX1_readSum_102 rfl ?_
                have hq := sgn_ltn (tx := tx) (n := n) (p := q) (by omega)
                have hsg : nxI (sgn tx n q) = sgI (sgn tx n q) := by rw [sgI_c (by omega), nxI_c (by omega)]
                refine V_sub2 (ls' := [(0, .ref 5), (1, .int (nI dp)), (2, .int (sgI (sgn tx n q))), (3, .int (sgI 0)), (4, .int (nI (i + 1)))]) (List.forall_mem_cons.mpr ⟨rfl, List.forall_mem_cons.mpr ⟨rfl, List.forall_mem_cons.mpr ⟨(congrArg (fun z => some (Value.int z)) hsg), List.forall_mem_cons.mpr ⟨(congrArg (fun z => some (Value.int z)) sgI_0), List.forall_mem_cons.mpr ⟨rfl, fun _ h => absurd h List.not_mem_nil⟩⟩⟩⟩⟩) ?_
                have e9 : pSumL tx n (pBrE tx n e) (k + 1) p a m acc = pSumL tx n (pBrE tx n e) k (q + 1) (sgn tx n q) 0 (acc ++ g ++ sgL m ++ sgL a) := by
                  conv => lhs; unfold pSumL
                  rw [hr]
                  exact (if_neg (fun h => h rfl)).trans ((if_neg (by show ¬ (sgn tx n q = 42 ∨ sgn tx n q = 47 ∨ sgn tx n q = 37); omega)).trans (if_pos (by show sgn tx n q = 43 ∨ sgn tx n q = 45; omega)))
                rw [e9]
                exact ih (i + 1) (q + 1) (sgn tx n q) 0 _ _ (by omega) (by omega) (by decide) (rdS_n hc3 hq)
              · skip
                refine V_iconst (v := nI 1) dX1_readSum_84 rfl ?_
                exact V_iret ⟨Or.inr ⟨rfl, Or.inr rfl⟩, dX1_readSum_85⟩ ⟨Nat.le_of_ble_eq_true rfl, Nat.le_of_ble_eq_true rfl⟩ (rdR_ok (q := q) (g := acc ++ g ++ sgL m ++ sgL a) (by conv => { lhs; unfold pSumL }; rw [hr]; exact (if_neg (fun h => h rfl)).trans ((if_neg (by show ¬ (sgn tx n q = 42 ∨ sgn tx n q = 47 ∨ sgn tx n q = 37); omega)).trans (if_neg (by show ¬ (sgn tx n q = 43 ∨ sgn tx n q = 45); omega)))) hc3)
          · skip
            refine V_iload dX1_readSum_59 rfl ?_
            refine V_istore_n (ls' := [(3, .int (nxI (sgn tx n q))), (5, .int (nxI (sgn tx n q))), (0, .ref 5), (1, .int (nI dp)), (2, .int (sgI a)), (4, .int (nI i))]) dX1_readSum_61 (by decide) rfl ?_
            refine V_goto (tgt := 89) dX1_readSum_62 rfl ?_
            refine V_aload_n dX1_readSum_89 rfl ?_
            refine V_dup dX1_readSum_90 rfl ?_
            refine V_getI dX1_readSum_91 fX1_41 ⟨Nat.le_of_ble_eq_true rfl, Nat.le_of_ble_eq_true rfl⟩ rfl rfl ?_
            refine V_eqI (y := nI q) (rdS_i hc2).2.2.1 ?_
            refine V_iconst (v := nI 1) dX1_readSum_94 rfl ?_
            refine V_iaddN dX1_readSum_95 ?_
            refine V_putW dX1_readSum_96 fX1_41 ⟨Nat.le_of_ble_eq_true rfl, Nat.le_of_ble_eq_true rfl⟩ rfl rfl rfl ⟨rfl, rfl⟩ ?_
            refine V_iincN (ls' := [(4, .int (nI (i + 1))), (3, .int (nxI (sgn tx n q))), (5, .int (nxI (sgn tx n q))), (0, .ref 5), (1, .int (nI dp)), (2, .int (sgI a))]) (n := 1) dX1_readSum_99 rfl rfl (by decide) (by decide) rfl ?_
            refine V_goto (tgt := 7) dX1_readSum_102 rfl ?_
            have hq := sgn_ltn (tx := tx) (n := n) (p := q) (by omega)
            have hsg : sgI (sgn tx n q) = nxI (sgn tx n q) := by rw [sgI_c (by omega), nxI_c (by omega)]
            have hsg := hsg.symm
            refine V_sub2 (ls' := [(0, .ref 5), (1, .int (nI dp)), (2, .int (sgI a)), (3, .int (sgI (sgn tx n q))), (4, .int (nI (i + 1)))]) (List.forall_mem_cons.mpr ⟨rfl, List.forall_mem_cons.mpr ⟨rfl, List.forall_mem_cons.mpr ⟨rfl, List.forall_mem_cons.mpr ⟨(congrArg (fun z => some (Value.int z)) hsg), List.forall_mem_cons.mpr ⟨rfl, fun _ h => absurd h List.not_mem_nil⟩⟩⟩⟩⟩) ?_
            have e9 : pSumL tx n (pBrE tx n e) (k + 1) p a m acc = pSumL tx n (pBrE tx n e) k (q + 1) a (sgn tx n q) (acc ++ g ++ sgL m) := by
              conv => lhs; unfold pSumL
              rw [hr]
              exact (if_neg (fun h => h rfl)).trans (if_pos (by show sgn tx n q = 42 ∨ sgn tx n q = 47 ∨ sgn tx n q = 37; omega))
            rw [e9]
            exact ih (i + 1) (q + 1) a (sgn tx n q) _ _ (by omega) ha (by omega) (rdS_n hc2 hq)
    · skip
      refine V_callV (As := [.int (nI dp)]) (st := []) (a := 5) dX1_readSum_17 kX1_readFactor lX1_97 (by omega) rfl rfl (Nat.le_of_ble_eq_true rfl) ⟨Nat.le_of_ble_eq_true rfl, Nat.le_of_ble_eq_true rfl⟩ ⟨Nat.le_of_ble_eq_true rfl, Nat.le_of_ble_eq_true rfl⟩ rfl ⟨rfl, by decide⟩ (zK_rdN (hF Ic p (s + acc.length) dp hdp (rdS_i hc) (rdS_x hc hx)) hr hfc) ?_
      rintro r sh' I1 J' ⟨rfl, rfl, hN, h4, rfl⟩
      refine V_if_ne (tgt := 25) dX1_readSum_20 rfl (fun h => absurd h (by decide)) (fun _ => ?_)
      refine V_iconst (v := nI 0) dX1_readSum_23 rfl ?_
      exact V_iret ⟨Or.inr ⟨rfl, Or.inl rfl⟩, dX1_readSum_24⟩ ⟨Nat.le_of_ble_eq_true rfl, Nat.le_of_ble_eq_true rfl⟩ (rdR_no (q := q) (g := []) (by conv => { lhs; unfold pSumL }; rw [hr]; exact if_pos hfc) hfc (rdF_t hc.1 hN) h4)

set_option maxRecDepth 100000 in
set_option maxHeartbeats 4000000 in
theorem c_sumF {G : zG} {I : zI} {J : zJ} {off n p s e dp : Nat} {tx : Nat → Nat} (h : rdI I n p s) (hx : txk I tx n) (hdp : dp + e = 6) (hF : ∀ (I : zI) (p s dp : Nat), dp + e = 6 → rdI I n p s → txk I tx n → zK G mX1_readFactor (2 + 2 * e) [.ref 5, .int (nI dp)] zsh I J (rdR off I J n s (pFac tx n (pBrE tx n e) p))) : zK G mX1_readSum (3 + 2 * e) [.ref 5, .int (nI dp)] zsh I J (rdR off I J n s (pSum tx n e p)) := by
  refine zK_of kX1_readSum.2.2.2.2.1 (Nat.le_of_ble_eq_true rfl) ?_
  show V G mX1_readSum (3 + 2 * e) _ 0 [(0, .ref 5), (1, .int (nI dp))] [] (0, 0) zsh I J
  refine V_iconst (v := (-1)) dX1_readSum_0 rfl ?_
  refine V_istore_n (ls' := [(2, .int (-1)), (0, .ref 5), (1, .int (nI dp))]) dX1_readSum_1 (by decide) rfl ?_
  refine V_iconst (v := (-1)) dX1_readSum_2 rfl ?_
  refine V_istore_n (ls' := [(3, .int (-1)), (2, .int (-1)), (0, .ref 5), (1, .int (nI dp))]) dX1_readSum_3 (by decide) rfl ?_
  refine V_iconst (v := nI 0) dX1_readSum_4 rfl ?_
  refine V_istore (ls' := [(4, .int (nI 0)), (3, .int (-1)), (2, .int (-1)), (0, .ref 5), (1, .int (nI dp))]) dX1_readSum_5 (by decide) rfl ?_
  refine V_sub2 (ls' := [(0, .ref 5), (1, .int (nI dp)), (2, .int (sgI 0)), (3, .int (sgI 0)), (4, .int (nI 0))]) (List.forall_mem_cons.mpr ⟨rfl, List.forall_mem_cons.mpr ⟨rfl, List.forall_mem_cons.mpr ⟨(congrArg (fun z => some (Value.int z)) sgI_0.symm), List.forall_mem_cons.mpr ⟨(congrArg (fun z => some (Value.int z)) sgI_0.symm), List.forall_mem_cons.mpr ⟨rfl, fun _ h => absurd h List.not_mem_nil⟩⟩⟩⟩⟩) ?_
  rw [pSum_E]
  exact lp_sum hx hdp hF 240 0 p 0 0 [] I rfl (by decide) (by decide) (rdS_r h)

theorem c_sum {G : zG} {J : zJ} {off n : Nat} {tx : Nat → Nat} : ∀ e, sumK G J tx off n e
  | 0 => fun I p s dp hd h hx => c_sumF h hx hd (c_factorE 0 (fun _ h => absurd h (by omega)))
  | e + 1 => fun I p s dp hd h hx => c_sumF h hx hd (c_factorE (e + 1) (fun e' he => by
      have e2 : e' = e := by omega
      subst e2
      exact c_sum e'))
