/-! THE MODEL: its reader: factors -/
def any14 (l : List (Nat × Nat)) : Bool := l.any (fun x => decide (x.1 = 14))
theorem any14_y {x : Nat × Nat} {l : List (Nat × Nat)} (h : x.1 = 14) : any14 (x :: l) = true := by simp [any14, h]
theorem any14_n {x : Nat × Nat} {l : List (Nat × Nat)} (h : ¬ x.1 = 14) : any14 (x :: l) = any14 l := by simp [any14, h]
set_option maxRecDepth 100000 in
set_option maxHeartbeats 4000000 in
theorem lp_hasO {G : zG} {I : zI} {J : zJ} {Q : zQ} {I0 : zI} {n q z : Nat} {st cs : List (Nat × Nat)} (h : Wd I0 I n q z st cs) {b : Nat} : ∀ m i, i + m = st.length → Q (some (.int (nI (if any14 (st.reverse.drop i) = true then 1 else 0)))) zsh I J → V G mX12_hasOpenSum 1 Q 2 [(0, .ref 62), (1, .int (nI b)), (2, .int (nI i))] [] (0, 0) zsh I J := by
  have hsq := h.sq
  have hqn := h.qn
  have hn := h.n240
  intro m
  induction m with
  | zero =>
    intro i hi hQ
    have hz : any14 (st.reverse.drop i) = false := by rw [List.drop_eq_nil_of_le (by rw [List.length_reverse]; omega)]; rfl
    refine V_iload_n dX12_hasOpenSum_2 rfl ?_
    refine V_aload_n dX12_hasOpenSum_3 rfl ?_
    refine V_getI dX12_hasOpenSum_4 fX12_250 ⟨Nat.le_of_ble_eq_true rfl, Nat.le_of_ble_eq_true rfl⟩ rfl rfl ?_
    refine V_eqI (y := nI st.length) h.hw ?_
    refine V_icmp_geN (tgt := 32) dX12_hasOpenSum_7 rfl (by omega) (by omega) (fun _ => ?_) (fun h => absurd h (by omega))
    refine V_iconst (v := nI 0) dX12_hasOpenSum_32 rfl ?_
    exact V_iret ⟨Or.inr ⟨rfl, Or.inl rfl⟩, dX12_hasOpenSum_33⟩ ⟨Nat.le_of_ble_eq_true rfl, Nat.le_of_ble_eq_true rfl⟩ (by rw [hz] at hQ; exact hQ)
  | succ m ih =>
    intro i hi hQ
    have hil : i < st.reverse.length := by rw [List.length_reverse]; omega
    obtain ⟨x, hx⟩ : ∃ x, st.reverse[i]? = some x := ⟨_, List.getElem?_eq_getElem hil⟩
    have hk := h.hk x (List.mem_reverse.mp (List.mem_of_getElem? hx))
    rw [List.drop_eq_getElem_cons hil, show st.reverse[i] = x from Option.some.inj ((List.getElem?_eq_getElem hil).symm.trans hx)] at hQ
    refine V_iload_n dX12_hasOpenSum_2 rfl ?_
    refine V_aload_n dX12_hasOpenSum_3 rfl ?_
    refine V_getI dX12_hasOpenSum_4 fX12_250 ⟨Nat.le_of_ble_eq_true rfl, Nat.le_of_ble_eq_true rfl⟩ rfl rfl ?_
    refine V_eqI (y := nI st.length) h.hw ?_
    refine V_icmp_geN (tgt := 32) dX12_hasOpenSum_7 rfl (by omega) (by omega) (fun h => absurd h (by omega)) (fun _ => ?_)
    refine V_aload_n dX12_hasOpenSum_10 rfl ?_
    refine V_getR (b := 68) dX12_hasOpenSum_11 fX12_26 ⟨Nat.le_of_ble_eq_true rfl, Nat.le_of_ble_eq_true rfl⟩ rfl rfl rfl ?_
    refine V_iload_n dX12_hasOpenSum_14 rfl ?_
    refine V_ialdN (k := i) dX12_hasOpenSum_15 ⟨Nat.le_of_ble_eq_true rfl, Nat.le_of_ble_eq_true rfl⟩ rfl (by decide) (by omega) ?_
    refine V_eqI (y := nI (1048576 * x.1 + x.2)) (h.hst i x hx) ?_
    refine V_ldc dX12_hasOpenSum_16 qX12_246 ?_
    refine V_eqI (y := nI 1048576) rfl ?_
    refine V_idivN dX12_hasOpenSum_18 (by omega) (by omega) (by omega) ?_
    refine V_bipush (v := nI 14) dX12_hasOpenSum_19 rfl ?_
    refine V_icmp_neN (tgt := 26) dX12_hasOpenSum_21 rfl (by omega) (by omega) (fun h21 => ?_) (fun h21 => ?_)
    · skip
      refine V_iincN (ls' := [(2, .int (nI (i + 1))), (0, .ref 62), (1, .int (nI b))]) (n := 1) dX12_hasOpenSum_26 rfl rfl (by decide) (by decide) rfl ?_
      refine V_goto (tgt := 2) dX12_hasOpenSum_29 rfl ?_
      refine V_sub2 (ls' := [(0, .ref 62), (1, .int (nI b)), (2, .int (nI (i + 1)))]) (List.forall_mem_cons.mpr ⟨rfl, List.forall_mem_cons.mpr ⟨rfl, List.forall_mem_cons.mpr ⟨rfl, fun _ h => absurd h List.not_mem_nil⟩⟩⟩) ?_
      rw [any14_n (by omega)] at hQ
      exact ih (i + 1) (by omega) hQ
    · skip
      refine V_iconst (v := nI 1) dX12_hasOpenSum_24 rfl ?_
      exact V_iret ⟨Or.inr ⟨rfl, Or.inr rfl⟩, dX12_hasOpenSum_25⟩ ⟨Nat.le_of_ble_eq_true rfl, Nat.le_of_ble_eq_true rfl⟩ (by rw [any14_y (by omega)] at hQ; exact hQ)

set_option maxRecDepth 100000 in
set_option maxHeartbeats 4000000 in
theorem w_hasO {G : zG} {I : zI} {J : zJ} {I0 : zI} {n q z : Nat} {l r cs : List (Nat × Nat)} (h : Wd I0 I n q z (l ++ r) cs) : zK G mX12_hasOpenSum 1 [.ref 62, .int (nI r.length)] zsh I J (zA0 (.int (nI (if any14 l = true then 1 else 0))) I J) := by
  refine zK_of kX12_hasOpenSum.2.2.2.2.1 (Nat.le_of_ble_eq_true rfl) ?_
  show V G mX12_hasOpenSum 1 _ 0 [(0, .ref 62), (1, .int (nI r.length))] [] (0, 0) zsh I J
  refine V_iload_n dX12_hasOpenSum_0 rfl ?_
  refine V_istore_n (ls' := [(2, .int (nI r.length)), (0, .ref 62), (1, .int (nI r.length))]) dX12_hasOpenSum_1 (by decide) rfl ?_
  refine V_sub2 (ls' := [(0, .ref 62), (1, .int (nI r.length)), (2, .int (nI r.length))]) (List.forall_mem_cons.mpr ⟨rfl, List.forall_mem_cons.mpr ⟨rfl, List.forall_mem_cons.mpr ⟨rfl, fun _ h => absurd h List.not_mem_nil⟩⟩⟩) ?_
  refine lp_hasO h l.length r.length (by rw [List.length_append]; omega) ?_
  have e : any14 ((l ++ r).reverse.drop r.length) = any14 l := by
    rw [List.reverse_append, show (r.reverse ++ l.reverse).drop r.length = l.reverse from by rw [← List.length_reverse (as := r)]; exact List.drop_left]
    simp [any14]
  rw [e]
  exact ⟨rfl, rfl, rfl, rfl⟩

/-- a factor, the brackets ahead of it: how many opened -/
def fcR (tx : Nat → Nat) (n : Nat) : Nat → Nat → Nat × Nat × Nat × List (Nat × Nat)
  | 0, p => if sgn tx n p = 91 then (5, p, 0, []) else if 48 ≤ sgn tx n p ∧ sgn tx n p ≤ 57 then ((nmR tx n 5 p 0).1, (nmR tx n 5 p 0).2.1, 0, [(0, (nmR tx n 5 p 0).2.2)]) else if ltP (sgn tx n p) < 9 then (0, p + 1, 0, [(1, ltP (sgn tx n p))]) else (1, p, 0, [])
  | e + 1, p => if sgn tx n p = 91 then ((fcR tx n e (p + 1)).1, (fcR tx n e (p + 1)).2.1, (fcR tx n e (p + 1)).2.2.1 + 1, (fcR tx n e (p + 1)).2.2.2) else if 48 ≤ sgn tx n p ∧ sgn tx n p ≤ 57 then ((nmR tx n 5 p 0).1, (nmR tx n 5 p 0).2.1, 0, [(0, (nmR tx n 5 p 0).2.2)]) else if ltP (sgn tx n p) < 9 then (0, p + 1, 0, [(1, ltP (sgn tx n p))]) else (1, p, 0, [])
section
variable {tx : Nat → Nat} {n p : Nat}
theorem fcR_o0 (h : sgn tx n p = 91) : fcR tx n 0 p = (5, p, 0, []) := if_pos h
theorem fcR_o {e : Nat} (h : sgn tx n p = 91) : fcR tx n (e + 1) p = ((fcR tx n e (p + 1)).1, (fcR tx n e (p + 1)).2.1, (fcR tx n e (p + 1)).2.2.1 + 1, (fcR tx n e (p + 1)).2.2.2) := if_pos h
theorem fcR_a {e : Nat} (h : ¬ sgn tx n p = 91) : fcR tx n e p = if 48 ≤ sgn tx n p ∧ sgn tx n p ≤ 57 then ((nmR tx n 5 p 0).1, (nmR tx n 5 p 0).2.1, 0, [(0, (nmR tx n 5 p 0).2.2)]) else if ltP (sgn tx n p) < 9 then (0, p + 1, 0, [(1, ltP (sgn tx n p))]) else (1, p, 0, []) := by
  cases e with
  | zero => exact if_neg h
  | succ e => exact if_neg h
theorem fcR_d {e : Nat} (h : ¬ sgn tx n p = 91) (hd : 48 ≤ sgn tx n p ∧ sgn tx n p ≤ 57) : fcR tx n e p = ((nmR tx n 5 p 0).1, (nmR tx n 5 p 0).2.1, 0, [(0, (nmR tx n 5 p 0).2.2)]) := (fcR_a h).trans (if_pos hd)
theorem fcR_l {e : Nat} (h : ¬ sgn tx n p = 91) (hd : ¬ (48 ≤ sgn tx n p ∧ sgn tx n p ≤ 57)) (hl : ltP (sgn tx n p) < 9) : fcR tx n e p = (0, p + 1, 0, [(1, ltP (sgn tx n p))]) := (fcR_a h).trans ((if_neg hd).trans (if_pos hl))
theorem fcR_n {e : Nat} (h : ¬ sgn tx n p = 91) (hd : ¬ (48 ≤ sgn tx n p ∧ sgn tx n p ≤ 57)) (hl : ¬ ltP (sgn tx n p) < 9) : fcR tx n e p = (1, p, 0, []) := (fcR_a h).trans ((if_neg hd).trans (if_neg hl))
theorem numR_ge : ∀ k p v, p ≤ (numR tx n k p v).2
  | 0, p, _ => Nat.le_refl _
  | k + 1, p, v => by
    unfold numR
    split
    · have := numR_ge k (p + 1) (10 * v + sgn tx n p - 48)
      omega
    · exact Nat.le_refl _
theorem nmR_ge {k v : Nat} (h : 48 ≤ sgn tx n p ∧ sgn tx n p ≤ 57) : p + 1 ≤ (nmR tx n (k + 1) p v).2.1 := by
  rw [nmR_d h]
  unfold nmR
  split <;> exact numR_ge _ _ _
end
/-- so many brackets open above -/
def brk (k : Nat) (st : List (Nat × Nat)) : List (Nat × Nat) := List.replicate k (14, 0) ++ st
theorem brk_0 {st : List (Nat × Nat)} : brk 0 st = st := rfl
theorem brk_s {k : Nat} {st : List (Nat × Nat)} : brk k ((14, 0) :: st) = brk (k + 1) st := by
  unfold brk
  rw [show List.replicate (k + 1) ((14, 0) : Nat × Nat) = List.replicate k (14, 0) ++ [(14, 0)] from List.replicate_succ', List.append_assoc]
  rfl
def fcQ (I0 : zI) (J : zJ) (n z : Nat) (st cs : List (Nat × Nat)) (r : Nat × Nat × Nat × List (Nat × Nat)) : zQ := zP (fun w I' J' => (r.1 = 0 → w = some (.int (nI 1)) ∧ Wd I0 I' n r.2.1 z (brk r.2.2.1 st) (cs ++ r.2.2.2)) ∧ (r.1 ≠ 0 → w = some (.int (nI 0)) ∧ Fq I0 I' r.1 r.2.1) ∧ J = J')
theorem fcQ_no {I0 I : zI} {J : zJ} {n z fc q : Nat} {st cs : List (Nat × Nat)} {r : Nat × Nat × Nat × List (Nat × Nat)} {g : Nat × List (Nat × Nat)} (hr : r = (fc, q, g)) (h0 : fc ≠ 0) (h : Fq I0 I fc q) : fcQ I0 J n z st cs r (some (.int (nI 0))) zsh I J := by
  subst hr
  exact ⟨rfl, fun e => absurd e h0, fun _ => ⟨rfl, h⟩, rfl⟩
theorem fcQ_yes {I0 I : zI} {J : zJ} {n z q k : Nat} {st cs g : List (Nat × Nat)} {r : Nat × Nat × Nat × List (Nat × Nat)} (hr : r = (0, q, k, g)) (h : Wd I0 I n q z (brk k st) (cs ++ g)) : fcQ I0 J n z st cs r (some (.int (nI 1))) zsh I J := by
  subst hr
  exact ⟨rfl, fun _ => ⟨rfl, h⟩, fun e => absurd rfl e, rfl⟩
theorem ltP_n {tx : Nat → Nat} {n p : Nat} (h : ltP (sgn tx n p) < 9) : p < n := by
  refine sgn_ltn (tx := tx) (fun e => ?_)
  rw [e] at h
  exact absurd h (by decide)
theorem enc_l {l : Nat} (h : l < 9) : 1048576 * 1 + l = encM (1, l) := rfl
theorem enc_0 {v : Nat} (h : v < 100000) : 1048576 * 0 + v = encM (0, v) := by
  show 1048576 * 0 + v = 1048576 * 0 + v
  rfl
theorem fcQ_o {I0 : zI} {J : zJ} {n z : Nat} {st cs : List (Nat × Nat)} {r r2 : Nat × Nat × Nat × List (Nat × Nat)} (h : r2 = (r.1, r.2.1, r.2.2.1 + 1, r.2.2.2)) : ∀ w sh I' J', fcQ I0 J n z ((14, 0) :: st) cs r w sh I' J' → fcQ I0 J n z st cs r2 w sh I' J' := by
  subst h
  intro w sh I' J' ⟨h1, h2, h3, h4⟩
  refine ⟨h1, fun h => ?_, h3, h4⟩
  obtain ⟨g1, g2⟩ := h2 h
  rw [brk_s] at g2
  exact ⟨g1, g2⟩
set_option maxRecDepth 100000 in
set_option maxHeartbeats 4000000 in
theorem lp_factor {G : zG} {I0 : zI} {J : zJ} {n z : Nat} {cs : List (Nat × Nat)} {tx : Nat → Nat} (hx : txW I0 tx n) : ∀ e p st (I1 : zI), opn st + e = 6 → Wd I0 I1 n p z st cs → V G mX12_readsFactor 3 (fcQ I0 J n z st cs (fcR tx n e p)) 0 [(0, .ref 62)] [] (0, 0) zsh I1 J := by
  intro e
  induction e with
  | zero =>
    intro p st I1 he hW
    have hqn := hW.qn
    have hn240 := hW.n240
    by_cases ho : sgn tx n p = 91
    · skip
      have hpn : p < n := sgn_ltn (tx := tx) (by omega)
      refine V_aload_n dX12_readsFactor_0 rfl ?_
      refine V_callV (As := []) (st := []) (a := 62) dX12_readsFactor_1 kX12_here lX12_225 (by decide) rfl rfl (Nat.le_of_ble_eq_true rfl) ⟨Nat.le_of_ble_eq_true rfl, Nat.le_of_ble_eq_true rfl⟩ ⟨Nat.le_of_ble_eq_true rfl, Nat.le_of_ble_eq_true rfl⟩ rfl ⟨rfl, by decide⟩ (w_hereW hW hx) ?_
      rintro _ _ _ _ ⟨rfl, rfl, rfl, rfl⟩
      refine V_bipush (v := nI 91) dX12_readsFactor_4 rfl ?_
      refine V_icmp_neX (tgt := 20) dX12_readsFactor_6 rfl (sg_le hx _) (by decide) (fun h => absurd ho h) (fun _ => ?_)
      refine V_aload_n dX12_readsFactor_9 rfl ?_
      refine V_bipush (v := nI 14) dX12_readsFactor_10 rfl ?_
      refine V_callV (As := [.int (nI 14)]) (st := []) (a := 62) dX12_readsFactor_12 kX12_opens lX12_260 (by decide) rfl rfl (Nat.le_of_ble_eq_true rfl) ⟨Nat.le_of_ble_eq_true rfl, Nat.le_of_ble_eq_true rfl⟩ ⟨Nat.le_of_ble_eq_true rfl, Nat.le_of_ble_eq_true rfl⟩ rfl ⟨rfl, by decide⟩ (w_opensN hW (by omega)) ?_
      rintro r sh' I2 _ ⟨rfl, rfl, hF, rfl⟩
      refine V_if_ne (tgt := 0) dX12_readsFactor_15 rfl (fun h => absurd h (by decide)) (fun _ => ?_)
      refine V_iconst (v := nI 0) dX12_readsFactor_18 rfl ?_
      exact V_iret ⟨Or.inr ⟨rfl, Or.inl rfl⟩, dX12_readsFactor_19⟩ ⟨Nat.le_of_ble_eq_true rfl, Nat.le_of_ble_eq_true rfl⟩ (fcQ_no (fcR_o0 ho) (by decide) hF)
    · skip
      refine V_aload_n dX12_readsFactor_0 rfl ?_
      refine V_callV (As := []) (st := []) (a := 62) dX12_readsFactor_1 kX12_here lX12_225 (by decide) rfl rfl (Nat.le_of_ble_eq_true rfl) ⟨Nat.le_of_ble_eq_true rfl, Nat.le_of_ble_eq_true rfl⟩ ⟨Nat.le_of_ble_eq_true rfl, Nat.le_of_ble_eq_true rfl⟩ rfl ⟨rfl, by decide⟩ (w_hereW hW hx) ?_
      rintro _ _ _ _ ⟨rfl, rfl, rfl, rfl⟩
      refine V_bipush (v := nI 91) dX12_readsFactor_4 rfl ?_
      refine V_icmp_neX (tgt := 20) dX12_readsFactor_6 rfl (sg_le hx _) (by decide) (fun _ => ?_) (fun h => absurd h ho)
      by_cases hd : 48 ≤ sgn tx n p ∧ sgn tx n p ≤ 57
      · skip
        have hpn : p < n := sgn_ltn (tx := tx) (by omega)
        have hge : p + 1 ≤ (nmR tx n 5 p 0).2.1 := nmR_ge (k := 4) hd
        have hcq := hW.cq
        refine V_aload_n dX12_readsFactor_20 rfl ?_
        refine V_callV (As := []) (st := []) (a := 62) dX12_readsFactor_21 kX12_isDigit lX12_239 (by decide) rfl rfl (Nat.le_of_ble_eq_true rfl) ⟨Nat.le_of_ble_eq_true rfl, Nat.le_of_ble_eq_true rfl⟩ ⟨Nat.le_of_ble_eq_true rfl, Nat.le_of_ble_eq_true rfl⟩ rfl ⟨rfl, by decide⟩ (q_y (w_digW hW hx) hd) ?_
        rintro _ _ _ _ ⟨rfl, rfl, rfl, rfl⟩
        refine V_if_eq (tgt := 47) dX12_readsFactor_24 rfl (fun h => absurd h (by decide)) (fun _ => ?_)
        refine V_aload_n dX12_readsFactor_27 rfl ?_
        refine V_callV (As := []) (st := []) (a := 62) dX12_readsFactor_28 kX12_readsNumber lX12_263 (by decide) rfl rfl (Nat.le_of_ble_eq_true rfl) ⟨Nat.le_of_ble_eq_true rfl, Nat.le_of_ble_eq_true rfl⟩ ⟨Nat.le_of_ble_eq_true rfl, Nat.le_of_ble_eq_true rfl⟩ rfl ⟨rfl, by decide⟩ (w_readsNumber hW hx) ?_
        rintro r sh' I2 _ ⟨rfl, hN1, hN2, rfl⟩
        by_cases hr : (nmR tx n 5 p 0).1 = 0
        · skip
          obtain ⟨rfl, hWn, hv⟩ := hN1 hr
          have hWn2 := hWn.more (z' := z + 1) (by omega)
          refine V_if_ne (tgt := 36) dX12_readsFactor_31 rfl (fun _ => ?_) (fun h => absurd h (by decide))
          refine V_aload_n dX12_readsFactor_36 rfl ?_
          refine V_iconst (v := nI 0) dX12_readsFactor_37 rfl ?_
          refine V_aload_n dX12_readsFactor_38 rfl ?_
          refine V_getI dX12_readsFactor_39 fX12_236 ⟨Nat.le_of_ble_eq_true rfl, Nat.le_of_ble_eq_true rfl⟩ rfl rfl ?_
          refine V_eqI (y := nI ((nmR tx n 5 p 0).2.2)) hv.1 ?_
          refine V_callV (As := [.int (nI 0), .int (nI ((nmR tx n 5 p 0).2.2))]) (st := []) (a := 62) dX12_readsFactor_42 kX12_notes lX12_256 (by decide) rfl rfl (Nat.le_of_ble_eq_true rfl) ⟨Nat.le_of_ble_eq_true rfl, Nat.le_of_ble_eq_true rfl⟩ ⟨Nat.le_of_ble_eq_true rfl, Nat.le_of_ble_eq_true rfl⟩ rfl ⟨rfl, by decide⟩ (w_notes hWn.hc (by omega)) ?_
          rintro r sh' _ _ ⟨rfl, rfl, rfl, rfl⟩
          refine V_iconst (v := nI 1) dX12_readsFactor_45 rfl ?_
          exact V_iret ⟨Or.inr ⟨rfl, Or.inr rfl⟩, dX12_readsFactor_46⟩ ⟨Nat.le_of_ble_eq_true rfl, Nat.le_of_ble_eq_true rfl⟩ (fcQ_yes ((fcR_d ho hd).trans (by rw [hr])) (hWn2.note (c := (0, (nmR tx n 5 p 0).2.2)) (enc_0 hv.2)))
        · skip
          obtain ⟨rfl, _⟩ := hN2 hr
          refine V_if_ne (tgt := 36) dX12_readsFactor_31 rfl (fun h => absurd h (by decide)) (fun _ => ?_)
          refine V_iconst (v := nI 0) dX12_readsFactor_34 rfl ?_
          exact V_iret ⟨Or.inr ⟨rfl, Or.inl rfl⟩, dX12_readsFactor_35⟩ ⟨Nat.le_of_ble_eq_true rfl, Nat.le_of_ble_eq_true rfl⟩ (fcQ_no (fcR_d ho hd) hr (hN2 hr).2)
      · skip
        refine V_aload_n dX12_readsFactor_20 rfl ?_
        refine V_callV (As := []) (st := []) (a := 62) dX12_readsFactor_21 kX12_isDigit lX12_239 (by decide) rfl rfl (Nat.le_of_ble_eq_true rfl) ⟨Nat.le_of_ble_eq_true rfl, Nat.le_of_ble_eq_true rfl⟩ ⟨Nat.le_of_ble_eq_true rfl, Nat.le_of_ble_eq_true rfl⟩ rfl ⟨rfl, by decide⟩ (q_n (w_digW hW hx) hd) ?_
        rintro _ _ _ _ ⟨rfl, rfl, rfl, rfl⟩
        refine V_if_eq (tgt := 47) dX12_readsFactor_24 rfl (fun _ => ?_) (fun h => absurd h (by decide))
        by_cases hl : ltP (sgn tx n p) < 9
        · skip
          have hpn : p < n := ltP_n hl
          refine V_aload_n dX12_readsFactor_47 rfl ?_
          refine V_callV (As := []) (st := []) (a := 62) dX12_readsFactor_48 kX12_here lX12_225 (by decide) rfl rfl (Nat.le_of_ble_eq_true rfl) ⟨Nat.le_of_ble_eq_true rfl, Nat.le_of_ble_eq_true rfl⟩ ⟨Nat.le_of_ble_eq_true rfl, Nat.le_of_ble_eq_true rfl⟩ rfl ⟨rfl, by decide⟩ (w_hereW hW hx) ?_
          rintro _ _ _ _ ⟨rfl, rfl, rfl, rfl⟩
          refine V_callS (As := [.int (nxI (sgn tx n p))]) (st := []) dX12_readsFactor_51 kX12_factOf lX12_266 (by decide) rfl rfl (Nat.le_of_ble_eq_true rfl) ⟨Nat.le_of_ble_eq_true rfl, Nat.le_of_ble_eq_true rfl⟩ (w_factOf (sg_le hx p)) ?_
          rintro _ _ _ _ ⟨rfl, rfl, rfl, rfl⟩
          refine V_eqI (y := nI (ltP (sgn tx n p))) (if_pos hl) ?_
          refine V_istore_n (ls' := [(1, .int (nI (ltP (sgn tx n p)))), (0, .ref 62)]) dX12_readsFactor_54 (by decide) rfl ?_
          refine V_iload_n dX12_readsFactor_55 rfl ?_
          refine V_iconst (v := (-1)) dX12_readsFactor_56 rfl ?_
          refine V_icmp_ne (tgt := 70) dX12_readsFactor_57 rfl (fun _ => ?_) (fun h => absurd h (nI_ne_neg (by omega) (by decide)))
          refine V_aload_n dX12_readsFactor_70 rfl ?_
          refine V_iconst (v := nI 1) dX12_readsFactor_71 rfl ?_
          refine V_iload_n dX12_readsFactor_72 rfl ?_
          refine V_callV (As := [.int (nI 1), .int (nI (ltP (sgn tx n p)))]) (st := []) (a := 62) dX12_readsFactor_73 kX12_notes lX12_256 (by decide) rfl rfl (Nat.le_of_ble_eq_true rfl) ⟨Nat.le_of_ble_eq_true rfl, Nat.le_of_ble_eq_true rfl⟩ ⟨Nat.le_of_ble_eq_true rfl, Nat.le_of_ble_eq_true rfl⟩ rfl ⟨rfl, by decide⟩ (w_notes hW.hc (by have := hW.cq; omega)) ?_
          rintro r sh' _ _ ⟨rfl, rfl, rfl, rfl⟩
          refine V_aload_n dX12_readsFactor_76 rfl ?_
          refine V_aload_n dX12_readsFactor_77 rfl ?_
          refine V_getI dX12_readsFactor_78 fX12_219 ⟨Nat.le_of_ble_eq_true rfl, Nat.le_of_ble_eq_true rfl⟩ rfl rfl ?_
          refine V_eqI (y := noteI I1 cs.length (1048576 * 1 + ltP (sgn tx n p)) 62 8) rfl ?_
          refine V_eqI (y := nI p) hW.hq ?_
          refine V_iconst (v := nI 1) dX12_readsFactor_81 rfl ?_
          refine V_iaddN dX12_readsFactor_82 ?_
          refine V_putW dX12_readsFactor_83 fX12_219 ⟨Nat.le_of_ble_eq_true rfl, Nat.le_of_ble_eq_true rfl⟩ rfl rfl rfl ⟨rfl, rfl⟩ ?_
          refine V_iconst (v := nI 1) dX12_readsFactor_86 rfl ?_
          exact V_iret ⟨Or.inr ⟨rfl, Or.inr rfl⟩, dX12_readsFactor_87⟩ ⟨Nat.le_of_ble_eq_true rfl, Nat.le_of_ble_eq_true rfl⟩ (fcQ_yes (fcR_l ho hd hl) (by rw [note_8]; exact (hW.nextz hpn).note (c := (1, ltP (sgn tx n p))) (enc_l hl)))
        · skip
          refine V_aload_n dX12_readsFactor_47 rfl ?_
          refine V_callV (As := []) (st := []) (a := 62) dX12_readsFactor_48 kX12_here lX12_225 (by decide) rfl rfl (Nat.le_of_ble_eq_true rfl) ⟨Nat.le_of_ble_eq_true rfl, Nat.le_of_ble_eq_true rfl⟩ ⟨Nat.le_of_ble_eq_true rfl, Nat.le_of_ble_eq_true rfl⟩ rfl ⟨rfl, by decide⟩ (w_hereW hW hx) ?_
          rintro _ _ _ _ ⟨rfl, rfl, rfl, rfl⟩
          refine V_callS (As := [.int (nxI (sgn tx n p))]) (st := []) dX12_readsFactor_51 kX12_factOf lX12_266 (by decide) rfl rfl (Nat.le_of_ble_eq_true rfl) ⟨Nat.le_of_ble_eq_true rfl, Nat.le_of_ble_eq_true rfl⟩ (w_factOf (sg_le hx p)) ?_
          rintro _ _ _ _ ⟨rfl, rfl, rfl, rfl⟩
          refine V_eqI (y := (-1)) (if_neg hl) ?_
          refine V_istore_n (ls' := [(1, .int (-1)), (0, .ref 62)]) dX12_readsFactor_54 (by decide) rfl ?_
          refine V_iload_n dX12_readsFactor_55 rfl ?_
          refine V_iconst (v := (-1)) dX12_readsFactor_56 rfl ?_
          refine V_icmp_ne (tgt := 70) dX12_readsFactor_57 rfl (fun h => absurd h (by decide)) (fun _ => ?_)
          refine V_aload_n dX12_readsFactor_60 rfl ?_
          refine V_iconst (v := nI 1) dX12_readsFactor_61 rfl ?_
          refine V_aload_n dX12_readsFactor_62 rfl ?_
          refine V_getI dX12_readsFactor_63 fX12_219 ⟨Nat.le_of_ble_eq_true rfl, Nat.le_of_ble_eq_true rfl⟩ rfl rfl ?_
          refine V_eqI (y := nI p) hW.hq ?_
          refine V_callV (As := [.int (nI 1), .int (nI p)]) (st := []) (a := 62) dX12_readsFactor_66 kX12_wrongAt lX12_232 (by decide) rfl rfl (Nat.le_of_ble_eq_true rfl) ⟨Nat.le_of_ble_eq_true rfl, Nat.le_of_ble_eq_true rfl⟩ ⟨Nat.le_of_ble_eq_true rfl, Nat.le_of_ble_eq_true rfl⟩ rfl ⟨rfl, by decide⟩ w_wrongAt ?_
          rintro r sh' _ _ ⟨rfl, rfl, rfl, rfl⟩
          exact V_iret ⟨Or.inr ⟨rfl, Or.inl rfl⟩, dX12_readsFactor_69⟩ ⟨Nat.le_of_ble_eq_true rfl, Nat.le_of_ble_eq_true rfl⟩ (fcQ_no (fcR_n ho hd hl) (by decide) hW.fail)
  | succ e ih =>
    intro p st I1 he hW
    have hqn := hW.qn
    have hn240 := hW.n240
    by_cases ho : sgn tx n p = 91
    · skip
      have hpn : p < n := sgn_ltn (tx := tx) (by omega)
      refine V_aload_n dX12_readsFactor_0 rfl ?_
      refine V_callV (As := []) (st := []) (a := 62) dX12_readsFactor_1 kX12_here lX12_225 (by decide) rfl rfl (Nat.le_of_ble_eq_true rfl) ⟨Nat.le_of_ble_eq_true rfl, Nat.le_of_ble_eq_true rfl⟩ ⟨Nat.le_of_ble_eq_true rfl, Nat.le_of_ble_eq_true rfl⟩ rfl ⟨rfl, by decide⟩ (w_hereW hW hx) ?_
      rintro _ _ _ _ ⟨rfl, rfl, rfl, rfl⟩
      refine V_bipush (v := nI 91) dX12_readsFactor_4 rfl ?_
      refine V_icmp_neX (tgt := 20) dX12_readsFactor_6 rfl (sg_le hx _) (by decide) (fun h => absurd ho h) (fun _ => ?_)
      refine V_aload_n dX12_readsFactor_9 rfl ?_
      refine V_bipush (v := nI 14) dX12_readsFactor_10 rfl ?_
      refine V_callV (As := [.int (nI 14)]) (st := []) (a := 62) dX12_readsFactor_12 kX12_opens lX12_260 (by decide) rfl rfl (Nat.le_of_ble_eq_true rfl) ⟨Nat.le_of_ble_eq_true rfl, Nat.le_of_ble_eq_true rfl⟩ ⟨Nat.le_of_ble_eq_true rfl, Nat.le_of_ble_eq_true rfl⟩ rfl ⟨rfl, by decide⟩ (w_opensY hW hpn (by omega) (by omega)) ?_
      rintro r sh' I2 _ ⟨rfl, rfl, hW2, rfl⟩
      refine V_if_ne (tgt := 0) dX12_readsFactor_15 rfl (fun _ => ?_) (fun h => absurd h (by decide))
      refine V_sub2 (ls' := [(0, .ref 62)]) (List.forall_mem_cons.mpr ⟨rfl, fun _ h => absurd h List.not_mem_nil⟩) ?_
      have h9 := ih (p + 1) ((14, 0) :: st) I2 (by rw [opn_y (x := (14, 0)) (by decide)]; omega) hW2
      rw [fcR_o ho]
      exact V_imp (fcQ_o rfl) h9
    · skip
      refine V_aload_n dX12_readsFactor_0 rfl ?_
      refine V_callV (As := []) (st := []) (a := 62) dX12_readsFactor_1 kX12_here lX12_225 (by decide) rfl rfl (Nat.le_of_ble_eq_true rfl) ⟨Nat.le_of_ble_eq_true rfl, Nat.le_of_ble_eq_true rfl⟩ ⟨Nat.le_of_ble_eq_true rfl, Nat.le_of_ble_eq_true rfl⟩ rfl ⟨rfl, by decide⟩ (w_hereW hW hx) ?_
      rintro _ _ _ _ ⟨rfl, rfl, rfl, rfl⟩
      refine V_bipush (v := nI 91) dX12_readsFactor_4 rfl ?_
      refine V_icmp_neX (tgt := 20) dX12_readsFactor_6 rfl (sg_le hx _) (by decide) (fun _ => ?_) (fun h => absurd h ho)
      by_cases hd : 48 ≤ sgn tx n p ∧ sgn tx n p ≤ 57
      · skip
        have hpn : p < n := sgn_ltn (tx := tx) (by omega)
        have hge : p + 1 ≤ (nmR tx n 5 p 0).2.1 := nmR_ge (k := 4) hd
        have hcq := hW.cq
        refine V_aload_n dX12_readsFactor_20 rfl ?_
        refine V_callV (As := []) (st := []) (a := 62) dX12_readsFactor_21 kX12_isDigit lX12_239 (by decide) rfl rfl (Nat.le_of_ble_eq_true rfl) ⟨Nat.le_of_ble_eq_true rfl, Nat.le_of_ble_eq_true rfl⟩ ⟨Nat.le_of_ble_eq_true rfl, Nat.le_of_ble_eq_true rfl⟩ rfl ⟨rfl, by decide⟩ (q_y (w_digW hW hx) hd) ?_
        rintro _ _ _ _ ⟨rfl, rfl, rfl, rfl⟩
        refine V_if_eq (tgt := 47) dX12_readsFactor_24 rfl (fun h => absurd h (by decide)) (fun _ => ?_)
        refine V_aload_n dX12_readsFactor_27 rfl ?_
        refine V_callV (As := []) (st := []) (a := 62) dX12_readsFactor_28 kX12_readsNumber lX12_263 (by decide) rfl rfl (Nat.le_of_ble_eq_true rfl) ⟨Nat.le_of_ble_eq_true rfl, Nat.le_of_ble_eq_true rfl⟩ ⟨Nat.le_of_ble_eq_true rfl, Nat.le_of_ble_eq_true rfl⟩ rfl ⟨rfl, by decide⟩ (w_readsNumber hW hx) ?_
        rintro r sh' I2 _ ⟨rfl, hN1, hN2, rfl⟩
        by_cases hr : (nmR tx n 5 p 0).1 = 0
        · skip
          obtain ⟨rfl, hWn, hv⟩ := hN1 hr
          have hWn2 := hWn.more (z' := z + 1) (by omega)
          refine V_if_ne (tgt := 36) dX12_readsFactor_31 rfl (fun _ => ?_) (fun h => absurd h (by decide))
          refine V_aload_n dX12_readsFactor_36 rfl ?_
          refine V_iconst (v := nI 0) dX12_readsFactor_37 rfl ?_
          refine V_aload_n dX12_readsFactor_38 rfl ?_
          refine V_getI dX12_readsFactor_39 fX12_236 ⟨Nat.le_of_ble_eq_true rfl, Nat.le_of_ble_eq_true rfl⟩ rfl rfl ?_
          refine V_eqI (y := nI ((nmR tx n 5 p 0).2.2)) hv.1 ?_
          refine V_callV (As := [.int (nI 0), .int (nI ((nmR tx n 5 p 0).2.2))]) (st := []) (a := 62) dX12_readsFactor_42 kX12_notes lX12_256 (by decide) rfl rfl (Nat.le_of_ble_eq_true rfl) ⟨Nat.le_of_ble_eq_true rfl, Nat.le_of_ble_eq_true rfl⟩ ⟨Nat.le_of_ble_eq_true rfl, Nat.le_of_ble_eq_true rfl⟩ rfl ⟨rfl, by decide⟩ (w_notes hWn.hc (by omega)) ?_
          rintro r sh' _ _ ⟨rfl, rfl, rfl, rfl⟩
          refine V_iconst (v := nI 1) dX12_readsFactor_45 rfl ?_
          exact V_iret ⟨Or.inr ⟨rfl, Or.inr rfl⟩, dX12_readsFactor_46⟩ ⟨Nat.le_of_ble_eq_true rfl, Nat.le_of_ble_eq_true rfl⟩ (fcQ_yes ((fcR_d ho hd).trans (by rw [hr])) (hWn2.note (c := (0, (nmR tx n 5 p 0).2.2)) (enc_0 hv.2)))
        · skip
          obtain ⟨rfl, _⟩ := hN2 hr
          refine V_if_ne (tgt := 36) dX12_readsFactor_31 rfl (fun h => absurd h (by decide)) (fun _ => ?_)
          refine V_iconst (v := nI 0) dX12_readsFactor_34 rfl ?_
          exact V_iret ⟨Or.inr ⟨rfl, Or.inl rfl⟩, dX12_readsFactor_35⟩ ⟨Nat.le_of_ble_eq_true rfl, Nat.le_of_ble_eq_true rfl⟩ (fcQ_no (fcR_d ho hd) hr (hN2 hr).2)
      · skip
        refine V_aload_n dX12_readsFactor_20 rfl ?_
        refine V_callV (As := []) (st := []) (a := 62) dX12_readsFactor_21 kX12_isDigit lX12_239 (by decide) rfl rfl (Nat.le_of_ble_eq_true rfl) ⟨Nat.le_of_ble_eq_true rfl, Nat.le_of_ble_eq_true rfl⟩ ⟨Nat.le_of_ble_eq_true rfl, Nat.le_of_ble_eq_true rfl⟩ rfl ⟨rfl, by decide⟩ (q_n (w_digW hW hx) hd) ?_
        rintro _ _ _ _ ⟨rfl, rfl, rfl, rfl⟩
        refine V_if_eq (tgt := 47) dX12_readsFactor_24 rfl (fun _ => ?_) (fun h => absurd h (by decide))
        by_cases hl : ltP (sgn tx n p) < 9
        · skip
          have hpn : p < n := ltP_n hl
          refine V_aload_n dX12_readsFactor_47 rfl ?_
          refine V_callV (As := []) (st := []) (a := 62) dX12_readsFactor_48 kX12_here lX12_225 (by decide) rfl rfl (Nat.le_of_ble_eq_true rfl) ⟨Nat.le_of_ble_eq_true rfl, Nat.le_of_ble_eq_true rfl⟩ ⟨Nat.le_of_ble_eq_true rfl, Nat.le_of_ble_eq_true rfl⟩ rfl ⟨rfl, by decide⟩ (w_hereW hW hx) ?_
          rintro _ _ _ _ ⟨rfl, rfl, rfl, rfl⟩
          refine V_callS (As := [.int (nxI (sgn tx n p))]) (st := []) dX12_readsFactor_51 kX12_factOf lX12_266 (by decide) rfl rfl (Nat.le_of_ble_eq_true rfl) ⟨Nat.le_of_ble_eq_true rfl, Nat.le_of_ble_eq_true rfl⟩ (w_factOf (sg_le hx p)) ?_
          rintro _ _ _ _ ⟨rfl, rfl, rfl, rfl⟩
          refine V_eqI (y := nI (ltP (sgn tx n p))) (if_pos hl) ?_
          refine V_istore_n (ls' := [(1, .int (nI (ltP (sgn tx n p)))), (0, .ref 62)]) dX12_readsFactor_54 (by decide) rfl ?_
          refine V_iload_n dX12_readsFactor_55 rfl ?_
          refine V_iconst (v := (-1)) dX12_readsFactor_56 rfl ?_
          refine V_icmp_ne (tgt := 70) dX12_readsFactor_57 rfl (fun _ => ?_) (fun h => absurd h (nI_ne_neg (by omega) (by decide)))
          refine V_aload_n dX12_readsFactor_70 rfl ?_
          refine V_iconst (v := nI 1) dX12_readsFactor_71 rfl ?_
          refine V_iload_n dX12_readsFactor_72 rfl ?_
          refine V_callV (As := [.int (nI 1), .int (nI (ltP (sgn tx n p)))]) (st := []) (a := 62) dX12_readsFactor_73 kX12_notes lX12_256 (by decide) rfl rfl (Nat.le_of_ble_eq_true rfl) ⟨Nat.le_of_ble_eq_true rfl, Nat.le_of_ble_eq_true rfl⟩ ⟨Nat.le_of_ble_eq_true rfl, Nat.le_of_ble_eq_true rfl⟩ rfl ⟨rfl, by decide⟩ (w_notes hW.hc (by have := hW.cq; omega)) ?_
          rintro r sh' _ _ ⟨rfl, rfl, rfl, rfl⟩
          refine V_aload_n dX12_readsFactor_76 rfl ?_
          refine V_aload_n dX12_readsFactor_77 rfl ?_
          refine V_getI dX12_readsFactor_78 fX12_219 ⟨Nat.le_of_ble_eq_true rfl, Nat.le_of_ble_eq_true rfl⟩ rfl rfl ?_
          refine V_eqI (y := noteI I1 cs.length (1048576 * 1 + ltP (sgn tx n p)) 62 8) rfl ?_
          refine V_eqI (y := nI p) hW.hq ?_
          refine V_iconst (v := nI 1) dX12_readsFactor_81 rfl ?_
          refine V_iaddN dX12_readsFactor_82 ?_
          refine V_putW dX12_readsFactor_83 fX12_219 ⟨Nat.le_of_ble_eq_true rfl, Nat.le_of_ble_eq_true rfl⟩ rfl rfl rfl ⟨rfl, rfl⟩ ?_
          refine V_iconst (v := nI 1) dX12_readsFactor_86 rfl ?_
          exact V_iret ⟨Or.inr ⟨rfl, Or.inr rfl⟩, dX12_readsFactor_87⟩ ⟨Nat.le_of_ble_eq_true rfl, Nat.le_of_ble_eq_true rfl⟩ (fcQ_yes (fcR_l ho hd hl) (by rw [note_8]; exact (hW.nextz hpn).note (c := (1, ltP (sgn tx n p))) (enc_l hl)))
        · skip
          refine V_aload_n dX12_readsFactor_47 rfl ?_
          refine V_callV (As := []) (st := []) (a := 62) dX12_readsFactor_48 kX12_here lX12_225 (by decide) rfl rfl (Nat.le_of_ble_eq_true rfl) ⟨Nat.le_of_ble_eq_true rfl, Nat.le_of_ble_eq_true rfl⟩ ⟨Nat.le_of_ble_eq_true rfl, Nat.le_of_ble_eq_true rfl⟩ rfl ⟨rfl, by decide⟩ (w_hereW hW hx) ?_
          rintro _ _ _ _ ⟨rfl, rfl, rfl, rfl⟩
          refine V_callS (As := [.int (nxI (sgn tx n p))]) (st := []) dX12_readsFactor_51 kX12_factOf lX12_266 (by decide) rfl rfl (Nat.le_of_ble_eq_true rfl) ⟨Nat.le_of_ble_eq_true rfl, Nat.le_of_ble_eq_true rfl⟩ (w_factOf (sg_le hx p)) ?_
          rintro _ _ _ _ ⟨rfl, rfl, rfl, rfl⟩
          refine V_eqI (y := (-1)) (if_neg hl) ?_
          refine V_istore_n (ls' := [(1, .int (-1)), (0, .ref 62)]) dX12_readsFactor_54 (by decide) rfl ?_
          refine V_iload_n dX12_readsFactor_55 rfl ?_
          refine V_iconst (v := (-1)) dX12_readsFactor_56 rfl ?_
          refine V_icmp_ne (tgt := 70) dX12_readsFactor_57 rfl (fun h => absurd h (by decide)) (fun _ => ?_)
          refine V_aload_n dX12_readsFactor_60 rfl ?_
          refine V_iconst (v := nI 1) dX12_readsFactor_61 rfl ?_
          refine V_aload_n dX12_readsFactor_62 rfl ?_
          refine V_getI dX12_readsFactor_63 fX12_219 ⟨Nat.le_of_ble_eq_true rfl, Nat.le_of_ble_eq_true rfl⟩ rfl rfl ?_
          refine V_eqI (y := nI p) hW.hq ?_
          refine V_callV (As := [.int (nI 1), .int (nI p)]) (st := []) (a := 62) dX12_readsFactor_66 kX12_wrongAt lX12_232 (by decide) rfl rfl (Nat.le_of_ble_eq_true rfl) ⟨Nat.le_of_ble_eq_true rfl, Nat.le_of_ble_eq_true rfl⟩ ⟨Nat.le_of_ble_eq_true rfl, Nat.le_of_ble_eq_true rfl⟩ rfl ⟨rfl, by decide⟩ w_wrongAt ?_
          rintro r sh' _ _ ⟨rfl, rfl, rfl, rfl⟩
          exact V_iret ⟨Or.inr ⟨rfl, Or.inl rfl⟩, dX12_readsFactor_69⟩ ⟨Nat.le_of_ble_eq_true rfl, Nat.le_of_ble_eq_true rfl⟩ (fcQ_no (fcR_n ho hd hl) (by decide) hW.fail)

set_option maxRecDepth 100000 in
set_option maxHeartbeats 4000000 in
theorem w_factor {G : zG} {I0 I : zI} {J : zJ} {n z p e : Nat} {st cs : List (Nat × Nat)} {tx : Nat → Nat} (h : Wd I0 I n p z st cs) (hx : txW I0 tx n) (he : opn st + e = 6) : zK G mX12_readsFactor 3 [.ref 62] zsh I J (fcQ I0 J n z st cs (fcR tx n e p)) := by
  refine zK_of kX12_readsFactor.2.2.2.2.1 (Nat.le_of_ble_eq_true rfl) ?_
  show V G mX12_readsFactor 3 _ 0 [(0, .ref 62)] [] (0, 0) zsh I J
  exact lp_factor hx e p st I he h

set_option maxRecDepth 100000 in
set_option maxHeartbeats 4000000 in
theorem w_jumps {G : zG} {I : zI} {J : zJ} {I0 : zI} {n p z : Nat} {st cs : List (Nat × Nat)} (h : Wd I0 I n p z st cs) (hpn : p < n) {y : Nat} (hy : y = 11 ∨ y = 12) : zK G mX12_jumps 1 [.ref 62, .int (nI y)] zsh I J (zP (fun r I' J' => r = none ∧ Wd I0 I' n (p + 1) z ((y, cs.length) :: st) (cs ++ [(y - 8, 0)]) ∧ J = J')) := by
  refine zK_of kX12_jumps.2.2.2.2.1 (Nat.le_of_ble_eq_true rfl) ?_
  show V G mX12_jumps 1 _ 0 [(0, .ref 62), (1, .int (nI y))] [] (0, 0) zsh I J
  have hsq := h.sq
  have hcq := h.cq
  have hn := h.n240
  refine V_aload_n dX12_jumps_0 rfl ?_
  refine V_getR (b := 68) dX12_jumps_1 fX12_26 ⟨Nat.le_of_ble_eq_true rfl, Nat.le_of_ble_eq_true rfl⟩ rfl rfl rfl ?_
  refine V_aload_n dX12_jumps_4 rfl ?_
  refine V_getI dX12_jumps_5 fX12_250 ⟨Nat.le_of_ble_eq_true rfl, Nat.le_of_ble_eq_true rfl⟩ rfl rfl ?_
  refine V_eqI (y := nI st.length) h.hw ?_
  refine V_ldc dX12_jumps_8 qX12_246 ?_
  refine V_eqI (y := nI 1048576) rfl ?_
  refine V_iload_n dX12_jumps_10 rfl ?_
  refine V_imulN dX12_jumps_11 ?_
  refine V_aload_n dX12_jumps_12 rfl ?_
  refine V_getI dX12_jumps_13 fX12_243 ⟨Nat.le_of_ble_eq_true rfl, Nat.le_of_ble_eq_true rfl⟩ rfl rfl ?_
  refine V_eqI (y := nI cs.length) h.hc ?_
  refine V_iaddN dX12_jumps_16 ?_
  refine V_iastN (k := st.length) dX12_jumps_17 ⟨Nat.le_of_ble_eq_true rfl, Nat.le_of_ble_eq_true rfl⟩ rfl (by decide) (by omega) ?_
  refine V_aload_n dX12_jumps_18 rfl ?_
  refine V_aload_n dX12_jumps_19 rfl ?_
  refine V_getI dX12_jumps_20 fX12_250 ⟨Nat.le_of_ble_eq_true rfl, Nat.le_of_ble_eq_true rfl⟩ rfl rfl ?_
  refine V_eqI (y := I 62 14) rfl ?_
  refine V_eqI (y := nI st.length) h.hw ?_
  refine V_iconst (v := nI 1) dX12_jumps_23 rfl ?_
  refine V_iaddN dX12_jumps_24 ?_
  refine V_putW dX12_jumps_25 fX12_250 ⟨Nat.le_of_ble_eq_true rfl, Nat.le_of_ble_eq_true rfl⟩ rfl rfl rfl ⟨rfl, rfl⟩ ?_
  refine V_aload_n dX12_jumps_28 rfl ?_
  refine V_iload_n dX12_jumps_29 rfl ?_
  refine V_iconst (v := nI 0) dX12_jumps_30 rfl ?_
  refine V_callV (As := [.int (nI y), .int (nI 0)]) (st := []) (a := 62) dX12_jumps_31 kX12_notes lX12_256 (by decide) rfl rfl (Nat.le_of_ble_eq_true rfl) ⟨Nat.le_of_ble_eq_true rfl, Nat.le_of_ble_eq_true rfl⟩ ⟨Nat.le_of_ble_eq_true rfl, Nat.le_of_ble_eq_true rfl⟩ rfl ⟨rfl, by decide⟩ (w_notes h.hc (by omega)) ?_
  rintro r sh' _ _ ⟨rfl, rfl, rfl, rfl⟩
  refine V_aload_n dX12_jumps_34 rfl ?_
  refine V_aload_n dX12_jumps_35 rfl ?_
  refine V_getI dX12_jumps_36 fX12_219 ⟨Nat.le_of_ble_eq_true rfl, Nat.le_of_ble_eq_true rfl⟩ rfl rfl ?_
  refine V_eqI (y := noteI (zwr (zwr I 68 st.length (nI ((1048576 * y) + cs.length))) 62 14 (nI (st.length + 1))) cs.length (1048576 * y + 0) 62 8) rfl ?_
  refine V_eqI (y := nI p) h.hq ?_
  refine V_iconst (v := nI 1) dX12_jumps_39 rfl ?_
  refine V_iaddN dX12_jumps_40 ?_
  refine V_putW dX12_jumps_41 fX12_219 ⟨Nat.le_of_ble_eq_true rfl, Nat.le_of_ble_eq_true rfl⟩ rfl rfl rfl ⟨rfl, rfl⟩ ?_
  exact V_ret ⟨rfl, dX12_jumps_44⟩ ⟨Nat.le_of_ble_eq_true rfl, Nat.le_of_ble_eq_true rfl⟩ ⟨rfl, rfl, h.jump hpn hy (enc_j hy).symm, rfl⟩

set_option maxRecDepth 100000 in
set_option maxHeartbeats 4000000 in
theorem w_isClause {G : zG} {I : zI} {J : zJ} {c t : Nat} (hc : c ≤ 256) (ht : t < 2 ^ 31) : zK G mX12_isClause 0 [.int (nxI c), .int (nI t)] zsh I J (zA0 (.int (nI (if clG (if t = 0 then 1 else 0) c then 1 else 0))) I J) := by
  refine zK_of kX12_isClause.2.2.2.2.1 (Nat.le_of_ble_eq_true rfl) ?_
  show V G mX12_isClause 0 _ 0 [(0, .int (nxI c)), (1, .int (nI t))] [] (0, 0) zsh I J
  have e0 : (if t = 0 then 1 else 0) = 1 ∨ ¬ t = 0 := by by_cases h : t = 0 <;> simp [h]
  have e1 : ¬ (if t = 0 then 1 else 0) = 1 ∨ t = 0 := by by_cases h : t = 0 <;> simp [h]
  refine V_iload_n dX12_isClause_0 rfl ?_
  refine V_if_leN (tgt := 18) dX12_isClause_1 rfl (by omega) (fun h1 => ?_) (fun h1 => ?_)
  · skip
    refine V_iload_n dX12_isClause_18 rfl ?_
    refine V_bipush (v := nI 97) dX12_isClause_19 rfl ?_
    refine V_icmp_eqX (tgt := 48) dX12_isClause_21 rfl hc (by decide) (fun h21 => ?_) (fun h21 => ?_)
    · skip
      refine V_iconst (v := nI 1) dX12_isClause_48 rfl ?_
      refine V_goto (tgt := 53) dX12_isClause_49 rfl ?_
      exact V_iret ⟨Or.inr ⟨rfl, Or.inr rfl⟩, dX12_isClause_53⟩ ⟨Nat.le_of_ble_eq_true rfl, Nat.le_of_ble_eq_true rfl⟩ ⟨rfl, congrArg (fun z => some (Value.int (nI z))) (if_pos (by omega)).symm, rfl, rfl⟩
    · skip
      refine V_iload_n dX12_isClause_24 rfl ?_
      refine V_bipush (v := nI 98) dX12_isClause_25 rfl ?_
      refine V_icmp_eqX (tgt := 48) dX12_isClause_27 rfl hc (by decide) (fun h27 => ?_) (fun h27 => ?_)
      · skip
        refine V_iconst (v := nI 1) dX12_isClause_48 rfl ?_
        refine V_goto (tgt := 53) dX12_isClause_49 rfl ?_
        exact V_iret ⟨Or.inr ⟨rfl, Or.inr rfl⟩, dX12_isClause_53⟩ ⟨Nat.le_of_ble_eq_true rfl, Nat.le_of_ble_eq_true rfl⟩ ⟨rfl, congrArg (fun z => some (Value.int (nI z))) (if_pos (by omega)).symm, rfl, rfl⟩
      · skip
        refine V_iload_n dX12_isClause_30 rfl ?_
        refine V_bipush (v := nI 99) dX12_isClause_31 rfl ?_
        refine V_icmp_eqX (tgt := 48) dX12_isClause_33 rfl hc (by decide) (fun h33 => ?_) (fun h33 => ?_)
        · skip
          refine V_iconst (v := nI 1) dX12_isClause_48 rfl ?_
          refine V_goto (tgt := 53) dX12_isClause_49 rfl ?_
          exact V_iret ⟨Or.inr ⟨rfl, Or.inr rfl⟩, dX12_isClause_53⟩ ⟨Nat.le_of_ble_eq_true rfl, Nat.le_of_ble_eq_true rfl⟩ ⟨rfl, congrArg (fun z => some (Value.int (nI z))) (if_pos (by omega)).symm, rfl, rfl⟩
        · skip
          refine V_iload_n dX12_isClause_36 rfl ?_
          refine V_bipush (v := nI 104) dX12_isClause_37 rfl ?_
          refine V_icmp_eqX (tgt := 48) dX12_isClause_39 rfl hc (by decide) (fun h39 => ?_) (fun h39 => ?_)
          · skip
            refine V_iconst (v := nI 1) dX12_isClause_48 rfl ?_
            refine V_goto (tgt := 53) dX12_isClause_49 rfl ?_
            exact V_iret ⟨Or.inr ⟨rfl, Or.inr rfl⟩, dX12_isClause_53⟩ ⟨Nat.le_of_ble_eq_true rfl, Nat.le_of_ble_eq_true rfl⟩ ⟨rfl, congrArg (fun z => some (Value.int (nI z))) (if_pos (by omega)).symm, rfl, rfl⟩
          · skip
            refine V_iload_n dX12_isClause_42 rfl ?_
            refine V_bipush (v := nI 107) dX12_isClause_43 rfl ?_
            refine V_icmp_neX (tgt := 52) dX12_isClause_45 rfl hc (by decide) (fun h45 => ?_) (fun h45 => ?_)
            · skip
              refine V_iconst (v := nI 0) dX12_isClause_52 rfl ?_
              exact V_iret ⟨Or.inr ⟨rfl, Or.inl rfl⟩, dX12_isClause_53⟩ ⟨Nat.le_of_ble_eq_true rfl, Nat.le_of_ble_eq_true rfl⟩ ⟨rfl, congrArg (fun z => some (Value.int (nI z))) (if_neg (by omega)).symm, rfl, rfl⟩
            · skip
              refine V_iconst (v := nI 1) dX12_isClause_48 rfl ?_
              refine V_goto (tgt := 53) dX12_isClause_49 rfl ?_
              exact V_iret ⟨Or.inr ⟨rfl, Or.inr rfl⟩, dX12_isClause_53⟩ ⟨Nat.le_of_ble_eq_true rfl, Nat.le_of_ble_eq_true rfl⟩ ⟨rfl, congrArg (fun z => some (Value.int (nI z))) (if_pos (by omega)).symm, rfl, rfl⟩
  · skip
    refine V_iload_n dX12_isClause_4 rfl ?_
    refine V_bipush (v := nI 114) dX12_isClause_5 rfl ?_
    refine V_icmp_neX (tgt := 14) dX12_isClause_7 rfl hc (by decide) (fun h7 => ?_) (fun h7 => ?_)
    · skip
      refine V_iconst (v := nI 0) dX12_isClause_14 rfl ?_
      refine V_goto (tgt := 53) dX12_isClause_15 rfl ?_
      exact V_iret ⟨Or.inr ⟨rfl, Or.inl rfl⟩, dX12_isClause_53⟩ ⟨Nat.le_of_ble_eq_true rfl, Nat.le_of_ble_eq_true rfl⟩ ⟨rfl, congrArg (fun z => some (Value.int (nI z))) (if_neg (by omega)).symm, rfl, rfl⟩
    · skip
      refine V_iconst (v := nI 1) dX12_isClause_10 rfl ?_
      refine V_goto (tgt := 53) dX12_isClause_11 rfl ?_
      exact V_iret ⟨Or.inr ⟨rfl, Or.inr rfl⟩, dX12_isClause_53⟩ ⟨Nat.le_of_ble_eq_true rfl, Nat.le_of_ble_eq_true rfl⟩ ⟨rfl, congrArg (fun z => some (Value.int (nI z))) (if_pos (by omega)).symm, rfl, rfl⟩

