/-! THE MODEL: its reader: a C -/
theorem encM_cm {c : Nat} (h : c = 60 ∨ c = 62 ∨ c = 61) : 1048576 * opS c + 0 = encM (2, c) := by rcases h with rfl | rfl | rfl <;> decide
/-- what a comparison comes to -/
def cmQ (I0 : zI) (J : zJ) (n : Nat) (st cs : List (Nat × Nat)) (r : Nat × Nat × List (Nat × Nat)) : zQ := zP (fun w I' J' => (r.1 = 0 → w = some (.int (nI 1)) ∧ Wd I0 I' n r.2.1 0 (endS st (cs ++ r.2.2)).1 (endS st (cs ++ r.2.2)).2) ∧ (r.1 ≠ 0 → w = some (.int (nI 0)) ∧ Fq I0 I' r.1 r.2.1) ∧ J = J')
theorem cmQ_no {I0 I : zI} {J : zJ} {n fc q : Nat} {st cs : List (Nat × Nat)} {r : Nat × Nat × List (Nat × Nat)} {g : List (Nat × Nat)} (hr : r = (fc, q, g)) (h0 : fc ≠ 0) (h : Fq I0 I fc q) : cmQ I0 J n st cs r (some (.int (nI 0))) zsh I J := by
  subst hr
  exact ⟨rfl, fun e => absurd e h0, fun _ => ⟨rfl, h⟩, rfl⟩
section
variable {tx : Nat → Nat} {n e p q q2 fc : Nat} {g g2 : List (Nat × Nat)}
theorem pCmp_1 (h : pSum tx n e p = (fc, q, g)) (h0 : fc ≠ 0) : pCmp tx n e p = (fc, q, []) := by
  unfold pCmp
  rw [h]
  exact if_pos h0
theorem pCmp_2 (h : pSum tx n e p = (0, q, g)) (hc : ¬ (sgn tx n q = 60 ∨ sgn tx n q = 62 ∨ sgn tx n q = 61)) : pCmp tx n e p = (1, q, []) := by
  unfold pCmp
  rw [h]
  exact (if_neg (fun h => h rfl)).trans (if_pos hc)
theorem pCmp_3 (h : pSum tx n e p = (0, q, g)) (hc : sgn tx n q = 60 ∨ sgn tx n q = 62 ∨ sgn tx n q = 61) (h2 : pSum tx n e (q + 1) = (fc, q2, g2)) (h0 : fc ≠ 0) : pCmp tx n e p = (fc, q2, []) := by
  unfold pCmp
  rw [h]
  refine (if_neg (fun h => h rfl)).trans ((if_neg (fun h => h hc)).trans ?_)
  show (if (pSum tx n e (q + 1)).1 ≠ 0 then _ else _) = _
  rw [h2]
  exact if_pos h0
theorem pCmp_4 (h : pSum tx n e p = (0, q, g)) (hc : sgn tx n q = 60 ∨ sgn tx n q = 62 ∨ sgn tx n q = 61) (h2 : pSum tx n e (q + 1) = (0, q2, g2)) : pCmp tx n e p = (0, q2, g ++ g2 ++ [(2, sgn tx n q)]) := by
  unfold pCmp
  rw [h]
  refine (if_neg (fun h => h rfl)).trans ((if_neg (fun h => h hc)).trans ?_)
  show (if (pSum tx n e (q + 1)).1 ≠ 0 then _ else _) = _
  rw [h2]
  exact if_neg (fun h => h rfl)
end
set_option maxRecDepth 100000 in
set_option maxHeartbeats 4000000 in
theorem w_readsCompared {G : zG} {I0 I : zI} {J : zJ} {n p e : Nat} {st cs : List (Nat × Nat)} {tx : Nat → Nat} (hx : txW I0 tx n) (h : Wd I0 I n p 0 st cs) (he : opn st + e = 6) (hno : noSg st) (hq1 : 1 ≤ p) : zK G mX12_readsCompared 5 [.ref 62] zsh I J (cmQ I0 J n st cs (pCmp tx n e p)) := by
  refine zK_of kX12_readsCompared.2.2.2.2.1 (Nat.le_of_ble_eq_true rfl) ?_
  show V G mX12_readsCompared 5 _ 0 [(0, .ref 62)] [] (0, 0) zsh I J
  have hqn := h.qn
  have hn := h.n240
  obtain ⟨fc1, q1, g1, hr⟩ := ex3 (pSum tx n e p)
  refine V_aload_n dX12_readsCompared_0 rfl ?_
  refine V_callV (As := []) (st := []) (a := 62) dX12_readsCompared_1 kX12_readsSum lX12_282 (by decide) rfl rfl (Nat.le_of_ble_eq_true rfl) ⟨Nat.le_of_ble_eq_true rfl, Nat.le_of_ble_eq_true rfl⟩ ⟨Nat.le_of_ble_eq_true rfl, Nat.le_of_ble_eq_true rfl⟩ rfl ⟨rfl, by decide⟩ (w_readsSum hx h he hno hq1) ?_
  rintro r sh' I2 _ ⟨rfl, hA1, hA2, rfl⟩
  rw [hr] at hA1 hA2
  by_cases h0 : fc1 = 0
  · skip
    obtain ⟨rfl, hWa⟩ := hA1 h0
    subst h0
    have hWa : Wd I0 I2 n q1 0 st (cs ++ g1) := hWa
    refine V_if_ne (tgt := 9) dX12_readsCompared_4 rfl (fun _ => ?_) (fun h => absurd h (by decide))
    rcases (show sgn tx n q1 = 60 ∨ sgn tx n q1 = 62 ∨ sgn tx n q1 = 61 ∨ ¬ (sgn tx n q1 = 60 ∨ sgn tx n q1 = 62 ∨ sgn tx n q1 = 61) by omega) with hc | hc | hc | hc
    · skip
      have hcc : sgn tx n q1 = 60 ∨ sgn tx n q1 = 62 ∨ sgn tx n q1 = 61 := by omega
      have hq1n : q1 < n := sgn_ltn (tx := tx) (by omega)
      have hop : 7 ≤ opS (sgn tx n q1) ∧ opS (sgn tx n q1) ≤ 9 := by rw [hc]; decide
      refine V_aload_n dX12_readsCompared_9 rfl ?_
      refine V_callV (As := []) (st := []) (a := 62) dX12_readsCompared_10 kX12_here lX12_225 (by decide) rfl rfl (Nat.le_of_ble_eq_true rfl) ⟨Nat.le_of_ble_eq_true rfl, Nat.le_of_ble_eq_true rfl⟩ ⟨Nat.le_of_ble_eq_true rfl, Nat.le_of_ble_eq_true rfl⟩ rfl ⟨rfl, by decide⟩ (w_hereW hWa hx) ?_
      rintro _ _ _ _ ⟨rfl, rfl, rfl, rfl⟩
      refine V_bipush (v := nI 60) dX12_readsCompared_13 rfl ?_
      refine V_icmp_neX (tgt := 23) dX12_readsCompared_15 rfl (sg_le hx _) (by decide) (fun h => absurd hc h) (fun _ => ?_)
      refine V_bipush (v := nI 7) dX12_readsCompared_18 rfl ?_
      refine V_goto (tgt := 52) dX12_readsCompared_20 rfl ?_
      refine V_eqI (y := nI (opS (sgn tx n q1))) (by rw [hc]; rfl) ?_
      refine V_istore_n (ls' := [(1, .int (nI (opS (sgn tx n q1)))), (0, .ref 62)]) dX12_readsCompared_52 (by decide) rfl ?_
      refine V_iload_n dX12_readsCompared_53 rfl ?_
      refine V_iconst (v := (-1)) dX12_readsCompared_54 rfl ?_
      refine V_icmp_ne (tgt := 68) dX12_readsCompared_55 rfl (fun _ => ?_) (fun h => absurd h (nI_ne_neg (by omega) (by decide)))
      refine V_aload_n dX12_readsCompared_68 rfl ?_
      refine V_aload_n dX12_readsCompared_69 rfl ?_
      refine V_getI dX12_readsCompared_70 fX12_219 ⟨Nat.le_of_ble_eq_true rfl, Nat.le_of_ble_eq_true rfl⟩ rfl rfl ?_
      refine V_eqI (y := nI q1) hWa.hq ?_
      refine V_iconst (v := nI 1) dX12_readsCompared_73 rfl ?_
      refine V_iaddN dX12_readsCompared_74 ?_
      refine V_putW dX12_readsCompared_75 fX12_219 ⟨Nat.le_of_ble_eq_true rfl, Nat.le_of_ble_eq_true rfl⟩ rfl rfl rfl ⟨rfl, rfl⟩ ?_
      obtain ⟨fc2, q2, g2, hr2⟩ := ex3 (pSum tx n e (q1 + 1))
      refine V_aload_n dX12_readsCompared_78 rfl ?_
      have hW1 : Wd I0 (zwr I2 62 8 (nI (q1 + 1))) n (q1 + 1) 0 st (cs ++ g1) := hWa.next hq1n
      refine V_callV (As := []) (st := []) (a := 62) dX12_readsCompared_79 kX12_readsSum lX12_282 (by decide) rfl rfl (Nat.le_of_ble_eq_true rfl) ⟨Nat.le_of_ble_eq_true rfl, Nat.le_of_ble_eq_true rfl⟩ ⟨Nat.le_of_ble_eq_true rfl, Nat.le_of_ble_eq_true rfl⟩ rfl ⟨rfl, by decide⟩ (w_readsSum hx hW1 he hno (by omega)) ?_
      rintro r sh' I3 _ ⟨rfl, hB1, hB2, rfl⟩
      rw [hr2] at hB1 hB2
      by_cases h00 : fc2 = 0
      · skip
        obtain ⟨rfl, hWb⟩ := hB1 h00
        subst h00
        have hWb : Wd I0 I3 n q2 0 st (cs ++ g1 ++ g2) := hWb
        refine V_if_ne (tgt := 87) dX12_readsCompared_82 rfl (fun _ => ?_) (fun h => absurd h (by decide))
        refine V_aload_n dX12_readsCompared_87 rfl ?_
        refine V_iload_n dX12_readsCompared_88 rfl ?_
        refine V_iconst (v := nI 0) dX12_readsCompared_89 rfl ?_
        have hlb := pSum_len (tx := tx) (n := n) e (q1 + 1) (by rw [hr2])
        rw [hr2] at hlb
        have hla := pSum_len (tx := tx) (n := n) e p (by rw [hr])
        rw [hr] at hla
        have hla2 : p + g1.length ≤ q1 := hla
        have hlb2 : q1 + 1 + g2.length ≤ q2 := hlb
        have hlen : (cs ++ g1 ++ g2).length = cs.length + g1.length + g2.length := by rw [List.length_append, List.length_append]
        have hcq := h.cq
        have hqb := hWb.qn
        refine V_callV (As := [.int (nI (opS (sgn tx n q1))), .int (nI 0)]) (st := []) (a := 62) dX12_readsCompared_90 kX12_notes lX12_256 (by decide) rfl rfl (Nat.le_of_ble_eq_true rfl) ⟨Nat.le_of_ble_eq_true rfl, Nat.le_of_ble_eq_true rfl⟩ ⟨Nat.le_of_ble_eq_true rfl, Nat.le_of_ble_eq_true rfl⟩ rfl ⟨rfl, by decide⟩ (w_notes hWb.hc (by omega)) ?_
        rintro r sh' _ _ ⟨rfl, rfl, rfl, rfl⟩
        refine V_aload_n dX12_readsCompared_93 rfl ?_
        have hWn := (hWb.more (z' := 1) (by omega)).note (encM_cm hcc)
        refine V_callV (As := []) (st := []) (a := 62) dX12_readsCompared_94 kX12_endsPiece lX12_285 (by decide) rfl rfl (Nat.le_of_ble_eq_true rfl) ⟨Nat.le_of_ble_eq_true rfl, Nat.le_of_ble_eq_true rfl⟩ ⟨Nat.le_of_ble_eq_true rfl, Nat.le_of_ble_eq_true rfl⟩ rfl ⟨rfl, by decide⟩ (w_endsP hWn) ?_
        rintro r sh' I5 _ ⟨rfl, rfl, hWe, rfl⟩
        refine V_iconst (v := nI 1) dX12_readsCompared_97 rfl ?_
        exact V_iret ⟨Or.inr ⟨rfl, Or.inr rfl⟩, dX12_readsCompared_98⟩ ⟨Nat.le_of_ble_eq_true rfl, Nat.le_of_ble_eq_true rfl⟩ ⟨rfl, fun _ => ⟨rfl, by rw [pCmp_4 hr hcc hr2]; simp only [← List.append_assoc]; exact hWe⟩, fun h => absurd (by rw [pCmp_4 hr hcc hr2]) h, rfl⟩
      · skip
        obtain ⟨rfl, hF⟩ := hB2 h00
        refine V_if_ne (tgt := 87) dX12_readsCompared_82 rfl (fun h => absurd h (by decide)) (fun _ => ?_)
        refine V_iconst (v := nI 0) dX12_readsCompared_85 rfl ?_
        exact V_iret ⟨Or.inr ⟨rfl, Or.inl rfl⟩, dX12_readsCompared_86⟩ ⟨Nat.le_of_ble_eq_true rfl, Nat.le_of_ble_eq_true rfl⟩ (cmQ_no (pCmp_3 hr hcc hr2 h00) h00 hF)
    · skip
      have hcc : sgn tx n q1 = 60 ∨ sgn tx n q1 = 62 ∨ sgn tx n q1 = 61 := by omega
      have hq1n : q1 < n := sgn_ltn (tx := tx) (by omega)
      have hop : 7 ≤ opS (sgn tx n q1) ∧ opS (sgn tx n q1) ≤ 9 := by rw [hc]; decide
      refine V_aload_n dX12_readsCompared_9 rfl ?_
      refine V_callV (As := []) (st := []) (a := 62) dX12_readsCompared_10 kX12_here lX12_225 (by decide) rfl rfl (Nat.le_of_ble_eq_true rfl) ⟨Nat.le_of_ble_eq_true rfl, Nat.le_of_ble_eq_true rfl⟩ ⟨Nat.le_of_ble_eq_true rfl, Nat.le_of_ble_eq_true rfl⟩ rfl ⟨rfl, by decide⟩ (w_hereW hWa hx) ?_
      rintro _ _ _ _ ⟨rfl, rfl, rfl, rfl⟩
      refine V_bipush (v := nI 60) dX12_readsCompared_13 rfl ?_
      refine V_icmp_neX (tgt := 23) dX12_readsCompared_15 rfl (sg_le hx _) (by decide) (fun _ => ?_) (fun h => absurd h (by omega))
      refine V_aload_n dX12_readsCompared_23 rfl ?_
      refine V_callV (As := []) (st := []) (a := 62) dX12_readsCompared_24 kX12_here lX12_225 (by decide) rfl rfl (Nat.le_of_ble_eq_true rfl) ⟨Nat.le_of_ble_eq_true rfl, Nat.le_of_ble_eq_true rfl⟩ ⟨Nat.le_of_ble_eq_true rfl, Nat.le_of_ble_eq_true rfl⟩ rfl ⟨rfl, by decide⟩ (w_hereW hWa hx) ?_
      rintro _ _ _ _ ⟨rfl, rfl, rfl, rfl⟩
      refine V_bipush (v := nI 62) dX12_readsCompared_27 rfl ?_
      refine V_icmp_neX (tgt := 37) dX12_readsCompared_29 rfl (sg_le hx _) (by decide) (fun h => absurd hc h) (fun _ => ?_)
      refine V_bipush (v := nI 8) dX12_readsCompared_32 rfl ?_
      refine V_goto (tgt := 52) dX12_readsCompared_34 rfl ?_
      refine V_eqI (y := nI (opS (sgn tx n q1))) (by rw [hc]; rfl) ?_
      refine V_istore_n (ls' := [(1, .int (nI (opS (sgn tx n q1)))), (0, .ref 62)]) dX12_readsCompared_52 (by decide) rfl ?_
      refine V_iload_n dX12_readsCompared_53 rfl ?_
      refine V_iconst (v := (-1)) dX12_readsCompared_54 rfl ?_
      refine V_icmp_ne (tgt := 68) dX12_readsCompared_55 rfl (fun _ => ?_) (fun h => absurd h (nI_ne_neg (by omega) (by decide)))
      refine V_aload_n dX12_readsCompared_68 rfl ?_
      refine V_aload_n dX12_readsCompared_69 rfl ?_
      refine V_getI dX12_readsCompared_70 fX12_219 ⟨Nat.le_of_ble_eq_true rfl, Nat.le_of_ble_eq_true rfl⟩ rfl rfl ?_
      refine V_eqI (y := nI q1) hWa.hq ?_
      refine V_iconst (v := nI 1) dX12_readsCompared_73 rfl ?_
      refine V_iaddN dX12_readsCompared_74 ?_
      refine V_putW dX12_readsCompared_75 fX12_219 ⟨Nat.le_of_ble_eq_true rfl, Nat.le_of_ble_eq_true rfl⟩ rfl rfl rfl ⟨rfl, rfl⟩ ?_
      obtain ⟨fc2, q2, g2, hr2⟩ := ex3 (pSum tx n e (q1 + 1))
      refine V_aload_n dX12_readsCompared_78 rfl ?_
      have hW1 : Wd I0 (zwr I2 62 8 (nI (q1 + 1))) n (q1 + 1) 0 st (cs ++ g1) := hWa.next hq1n
      refine V_callV (As := []) (st := []) (a := 62) dX12_readsCompared_79 kX12_readsSum lX12_282 (by decide) rfl rfl (Nat.le_of_ble_eq_true rfl) ⟨Nat.le_of_ble_eq_true rfl, Nat.le_of_ble_eq_true rfl⟩ ⟨Nat.le_of_ble_eq_true rfl, Nat.le_of_ble_eq_true rfl⟩ rfl ⟨rfl, by decide⟩ (w_readsSum hx hW1 he hno (by omega)) ?_
      rintro r sh' I3 _ ⟨rfl, hB1, hB2, rfl⟩
      rw [hr2] at hB1 hB2
      by_cases h00 : fc2 = 0
      · skip
        obtain ⟨rfl, hWb⟩ := hB1 h00
        subst h00
        have hWb : Wd I0 I3 n q2 0 st (cs ++ g1 ++ g2) := hWb
        refine V_if_ne (tgt := 87) dX12_readsCompared_82 rfl (fun _ => ?_) (fun h => absurd h (by decide))
        refine V_aload_n dX12_readsCompared_87 rfl ?_
        refine V_iload_n dX12_readsCompared_88 rfl ?_
        refine V_iconst (v := nI 0) dX12_readsCompared_89 rfl ?_
        have hlb := pSum_len (tx := tx) (n := n) e (q1 + 1) (by rw [hr2])
        rw [hr2] at hlb
        have hla := pSum_len (tx := tx) (n := n) e p (by rw [hr])
        rw [hr] at hla
        have hla2 : p + g1.length ≤ q1 := hla
        have hlb2 : q1 + 1 + g2.length ≤ q2 := hlb
        have hlen : (cs ++ g1 ++ g2).length = cs.length + g1.length + g2.length := by rw [List.length_append, List.length_append]
        have hcq := h.cq
        have hqb := hWb.qn
        refine V_callV (As := [.int (nI (opS (sgn tx n q1))), .int (nI 0)]) (st := []) (a := 62) dX12_readsCompared_90 kX12_notes lX12_256 (by decide) rfl rfl (Nat.le_of_ble_eq_true rfl) ⟨Nat.le_of_ble_eq_true rfl, Nat.le_of_ble_eq_true rfl⟩ ⟨Nat.le_of_ble_eq_true rfl, Nat.le_of_ble_eq_true rfl⟩ rfl ⟨rfl, by decide⟩ (w_notes hWb.hc (by omega)) ?_
        rintro r sh' _ _ ⟨rfl, rfl, rfl, rfl⟩
        refine V_aload_n dX12_readsCompared_93 rfl ?_
        have hWn := (hWb.more (z' := 1) (by omega)).note (encM_cm hcc)
        refine V_callV (As := []) (st := []) (a := 62) dX12_readsCompared_94 kX12_endsPiece lX12_285 (by decide) rfl rfl (Nat.le_of_ble_eq_true rfl) ⟨Nat.le_of_ble_eq_true rfl, Nat.le_of_ble_eq_true rfl⟩ ⟨Nat.le_of_ble_eq_true rfl, Nat.le_of_ble_eq_true rfl⟩ rfl ⟨rfl, by decide⟩ (w_endsP hWn) ?_
        rintro r sh' I5 _ ⟨rfl, rfl, hWe, rfl⟩
        refine V_iconst (v := nI 1) dX12_readsCompared_97 rfl ?_
        exact V_iret ⟨Or.inr ⟨rfl, Or.inr rfl⟩, dX12_readsCompared_98⟩ ⟨Nat.le_of_ble_eq_true rfl, Nat.le_of_ble_eq_true rfl⟩ ⟨rfl, fun _ => ⟨rfl, by rw [pCmp_4 hr hcc hr2]; simp only [← List.append_assoc]; exact hWe⟩, fun h => absurd (by rw [pCmp_4 hr hcc hr2]) h, rfl⟩
      · skip
        obtain ⟨rfl, hF⟩ := hB2 h00
        refine V_if_ne (tgt := 87) dX12_readsCompared_82 rfl (fun h => absurd h (by decide)) (fun _ => ?_)
        refine V_iconst (v := nI 0) dX12_readsCompared_85 rfl ?_
        exact V_iret ⟨Or.inr ⟨rfl, Or.inl rfl⟩, dX12_readsCompared_86⟩ ⟨Nat.le_of_ble_eq_true rfl, Nat.le_of_ble_eq_true rfl⟩ (cmQ_no (pCmp_3 hr hcc hr2 h00) h00 hF)
    · skip
      have hcc : sgn tx n q1 = 60 ∨ sgn tx n q1 = 62 ∨ sgn tx n q1 = 61 := by omega
      have hq1n : q1 < n := sgn_ltn (tx := tx) (by omega)
      have hop : 7 ≤ opS (sgn tx n q1) ∧ opS (sgn tx n q1) ≤ 9 := by rw [hc]; decide
      refine V_aload_n dX12_readsCompared_9 rfl ?_
      refine V_callV (As := []) (st := []) (a := 62) dX12_readsCompared_10 kX12_here lX12_225 (by decide) rfl rfl (Nat.le_of_ble_eq_true rfl) ⟨Nat.le_of_ble_eq_true rfl, Nat.le_of_ble_eq_true rfl⟩ ⟨Nat.le_of_ble_eq_true rfl, Nat.le_of_ble_eq_true rfl⟩ rfl ⟨rfl, by decide⟩ (w_hereW hWa hx) ?_
      rintro _ _ _ _ ⟨rfl, rfl, rfl, rfl⟩
      refine V_bipush (v := nI 60) dX12_readsCompared_13 rfl ?_
      refine V_icmp_neX (tgt := 23) dX12_readsCompared_15 rfl (sg_le hx _) (by decide) (fun _ => ?_) (fun h => absurd h (by omega))
      refine V_aload_n dX12_readsCompared_23 rfl ?_
      refine V_callV (As := []) (st := []) (a := 62) dX12_readsCompared_24 kX12_here lX12_225 (by decide) rfl rfl (Nat.le_of_ble_eq_true rfl) ⟨Nat.le_of_ble_eq_true rfl, Nat.le_of_ble_eq_true rfl⟩ ⟨Nat.le_of_ble_eq_true rfl, Nat.le_of_ble_eq_true rfl⟩ rfl ⟨rfl, by decide⟩ (w_hereW hWa hx) ?_
      rintro _ _ _ _ ⟨rfl, rfl, rfl, rfl⟩
      refine V_bipush (v := nI 62) dX12_readsCompared_27 rfl ?_
      refine V_icmp_neX (tgt := 37) dX12_readsCompared_29 rfl (sg_le hx _) (by decide) (fun _ => ?_) (fun h => absurd h (by omega))
      refine V_aload_n dX12_readsCompared_37 rfl ?_
      refine V_callV (As := []) (st := []) (a := 62) dX12_readsCompared_38 kX12_here lX12_225 (by decide) rfl rfl (Nat.le_of_ble_eq_true rfl) ⟨Nat.le_of_ble_eq_true rfl, Nat.le_of_ble_eq_true rfl⟩ ⟨Nat.le_of_ble_eq_true rfl, Nat.le_of_ble_eq_true rfl⟩ rfl ⟨rfl, by decide⟩ (w_hereW hWa hx) ?_
      rintro _ _ _ _ ⟨rfl, rfl, rfl, rfl⟩
      refine V_bipush (v := nI 61) dX12_readsCompared_41 rfl ?_
      refine V_icmp_neX (tgt := 51) dX12_readsCompared_43 rfl (sg_le hx _) (by decide) (fun h => absurd hc h) (fun _ => ?_)
      refine V_bipush (v := nI 9) dX12_readsCompared_46 rfl ?_
      refine V_goto (tgt := 52) dX12_readsCompared_48 rfl ?_
      refine V_eqI (y := nI (opS (sgn tx n q1))) (by rw [hc]; rfl) ?_
      refine V_istore_n (ls' := [(1, .int (nI (opS (sgn tx n q1)))), (0, .ref 62)]) dX12_readsCompared_52 (by decide) rfl ?_
      refine V_iload_n dX12_readsCompared_53 rfl ?_
      refine V_iconst (v := (-1)) dX12_readsCompared_54 rfl ?_
      refine V_icmp_ne (tgt := 68) dX12_readsCompared_55 rfl (fun _ => ?_) (fun h => absurd h (nI_ne_neg (by omega) (by decide)))
      refine V_aload_n dX12_readsCompared_68 rfl ?_
      refine V_aload_n dX12_readsCompared_69 rfl ?_
      refine V_getI dX12_readsCompared_70 fX12_219 ⟨Nat.le_of_ble_eq_true rfl, Nat.le_of_ble_eq_true rfl⟩ rfl rfl ?_
      refine V_eqI (y := nI q1) hWa.hq ?_
      refine V_iconst (v := nI 1) dX12_readsCompared_73 rfl ?_
      refine V_iaddN dX12_readsCompared_74 ?_
      refine V_putW dX12_readsCompared_75 fX12_219 ⟨Nat.le_of_ble_eq_true rfl, Nat.le_of_ble_eq_true rfl⟩ rfl rfl rfl ⟨rfl, rfl⟩ ?_
      obtain ⟨fc2, q2, g2, hr2⟩ := ex3 (pSum tx n e (q1 + 1))
      refine V_aload_n dX12_readsCompared_78 rfl ?_
      have hW1 : Wd I0 (zwr I2 62 8 (nI (q1 + 1))) n (q1 + 1) 0 st (cs ++ g1) := hWa.next hq1n
      refine V_callV (As := []) (st := []) (a := 62) dX12_readsCompared_79 kX12_readsSum lX12_282 (by decide) rfl rfl (Nat.le_of_ble_eq_true rfl) ⟨Nat.le_of_ble_eq_true rfl, Nat.le_of_ble_eq_true rfl⟩ ⟨Nat.le_of_ble_eq_true rfl, Nat.le_of_ble_eq_true rfl⟩ rfl ⟨rfl, by decide⟩ (w_readsSum hx hW1 he hno (by omega)) ?_
      rintro r sh' I3 _ ⟨rfl, hB1, hB2, rfl⟩
      rw [hr2] at hB1 hB2
      by_cases h00 : fc2 = 0
      · skip
        obtain ⟨rfl, hWb⟩ := hB1 h00
        subst h00
        have hWb : Wd I0 I3 n q2 0 st (cs ++ g1 ++ g2) := hWb
        refine V_if_ne (tgt := 87) dX12_readsCompared_82 rfl (fun _ => ?_) (fun h => absurd h (by decide))
        refine V_aload_n dX12_readsCompared_87 rfl ?_
        refine V_iload_n dX12_readsCompared_88 rfl ?_
        refine V_iconst (v := nI 0) dX12_readsCompared_89 rfl ?_
        have hlb := pSum_len (tx := tx) (n := n) e (q1 + 1) (by rw [hr2])
        rw [hr2] at hlb
        have hla := pSum_len (tx := tx) (n := n) e p (by rw [hr])
        rw [hr] at hla
        have hla2 : p + g1.length ≤ q1 := hla
        have hlb2 : q1 + 1 + g2.length ≤ q2 := hlb
        have hlen : (cs ++ g1 ++ g2).length = cs.length + g1.length + g2.length := by rw [List.length_append, List.length_append]
        have hcq := h.cq
        have hqb := hWb.qn
        refine V_callV (As := [.int (nI (opS (sgn tx n q1))), .int (nI 0)]) (st := []) (a := 62) dX12_readsCompared_90 kX12_notes lX12_256 (by decide) rfl rfl (Nat.le_of_ble_eq_true rfl) ⟨Nat.le_of_ble_eq_true rfl, Nat.le_of_ble_eq_true rfl⟩ ⟨Nat.le_of_ble_eq_true rfl, Nat.le_of_ble_eq_true rfl⟩ rfl ⟨rfl, by decide⟩ (w_notes hWb.hc (by omega)) ?_
        rintro r sh' _ _ ⟨rfl, rfl, rfl, rfl⟩
        refine V_aload_n dX12_readsCompared_93 rfl ?_
        have hWn := (hWb.more (z' := 1) (by omega)).note (encM_cm hcc)
        refine V_callV (As := []) (st := []) (a := 62) dX12_readsCompared_94 kX12_endsPiece lX12_285 (by decide) rfl rfl (Nat.le_of_ble_eq_true rfl) ⟨Nat.le_of_ble_eq_true rfl, Nat.le_of_ble_eq_true rfl⟩ ⟨Nat.le_of_ble_eq_true rfl, Nat.le_of_ble_eq_true rfl⟩ rfl ⟨rfl, by decide⟩ (w_endsP hWn) ?_
        rintro r sh' I5 _ ⟨rfl, rfl, hWe, rfl⟩
        refine V_iconst (v := nI 1) dX12_readsCompared_97 rfl ?_
        exact V_iret ⟨Or.inr ⟨rfl, Or.inr rfl⟩, dX12_readsCompared_98⟩ ⟨Nat.le_of_ble_eq_true rfl, Nat.le_of_ble_eq_true rfl⟩ ⟨rfl, fun _ => ⟨rfl, by rw [pCmp_4 hr hcc hr2]; simp only [← List.append_assoc]; exact hWe⟩, fun h => absurd (by rw [pCmp_4 hr hcc hr2]) h, rfl⟩
      · skip
        obtain ⟨rfl, hF⟩ := hB2 h00
        refine V_if_ne (tgt := 87) dX12_readsCompared_82 rfl (fun h => absurd h (by decide)) (fun _ => ?_)
        refine V_iconst (v := nI 0) dX12_readsCompared_85 rfl ?_
        exact V_iret ⟨Or.inr ⟨rfl, Or.inl rfl⟩, dX12_readsCompared_86⟩ ⟨Nat.le_of_ble_eq_true rfl, Nat.le_of_ble_eq_true rfl⟩ (cmQ_no (pCmp_3 hr hcc hr2 h00) h00 hF)
    · skip
      refine V_aload_n dX12_readsCompared_9 rfl ?_
      refine V_callV (As := []) (st := []) (a := 62) dX12_readsCompared_10 kX12_here lX12_225 (by decide) rfl rfl (Nat.le_of_ble_eq_true rfl) ⟨Nat.le_of_ble_eq_true rfl, Nat.le_of_ble_eq_true rfl⟩ ⟨Nat.le_of_ble_eq_true rfl, Nat.le_of_ble_eq_true rfl⟩ rfl ⟨rfl, by decide⟩ (w_hereW hWa hx) ?_
      rintro _ _ _ _ ⟨rfl, rfl, rfl, rfl⟩
      refine V_bipush (v := nI 60) dX12_readsCompared_13 rfl ?_
      refine V_icmp_neX (tgt := 23) dX12_readsCompared_15 rfl (sg_le hx _) (by decide) (fun _ => ?_) (fun h => absurd h (by omega))
      refine V_aload_n dX12_readsCompared_23 rfl ?_
      refine V_callV (As := []) (st := []) (a := 62) dX12_readsCompared_24 kX12_here lX12_225 (by decide) rfl rfl (Nat.le_of_ble_eq_true rfl) ⟨Nat.le_of_ble_eq_true rfl, Nat.le_of_ble_eq_true rfl⟩ ⟨Nat.le_of_ble_eq_true rfl, Nat.le_of_ble_eq_true rfl⟩ rfl ⟨rfl, by decide⟩ (w_hereW hWa hx) ?_
      rintro _ _ _ _ ⟨rfl, rfl, rfl, rfl⟩
      refine V_bipush (v := nI 62) dX12_readsCompared_27 rfl ?_
      refine V_icmp_neX (tgt := 37) dX12_readsCompared_29 rfl (sg_le hx _) (by decide) (fun _ => ?_) (fun h => absurd h (by omega))
      refine V_aload_n dX12_readsCompared_37 rfl ?_
      refine V_callV (As := []) (st := []) (a := 62) dX12_readsCompared_38 kX12_here lX12_225 (by decide) rfl rfl (Nat.le_of_ble_eq_true rfl) ⟨Nat.le_of_ble_eq_true rfl, Nat.le_of_ble_eq_true rfl⟩ ⟨Nat.le_of_ble_eq_true rfl, Nat.le_of_ble_eq_true rfl⟩ rfl ⟨rfl, by decide⟩ (w_hereW hWa hx) ?_
      rintro _ _ _ _ ⟨rfl, rfl, rfl, rfl⟩
      refine V_bipush (v := nI 61) dX12_readsCompared_41 rfl ?_
      refine V_icmp_neX (tgt := 51) dX12_readsCompared_43 rfl (sg_le hx _) (by decide) (fun _ => ?_) (fun h => absurd h (by omega))
      refine V_iconst (v := (-1)) dX12_readsCompared_51 rfl ?_
      refine V_istore_n (ls' := [(1, .int (-1)), (0, .ref 62)]) dX12_readsCompared_52 (by decide) rfl ?_
      refine V_iload_n dX12_readsCompared_53 rfl ?_
      refine V_iconst (v := (-1)) dX12_readsCompared_54 rfl ?_
      refine V_icmp_ne (tgt := 68) dX12_readsCompared_55 rfl (fun h => absurd h (by decide)) (fun _ => ?_)
      refine V_aload_n dX12_readsCompared_58 rfl ?_
      refine V_iconst (v := nI 1) dX12_readsCompared_59 rfl ?_
      refine V_aload_n dX12_readsCompared_60 rfl ?_
      refine V_getI dX12_readsCompared_61 fX12_219 ⟨Nat.le_of_ble_eq_true rfl, Nat.le_of_ble_eq_true rfl⟩ rfl rfl ?_
      refine V_eqI (y := nI q1) hWa.hq ?_
      refine V_callV (As := [.int (nI 1), .int (nI q1)]) (st := []) (a := 62) dX12_readsCompared_64 kX12_wrongAt lX12_232 (by decide) rfl rfl (Nat.le_of_ble_eq_true rfl) ⟨Nat.le_of_ble_eq_true rfl, Nat.le_of_ble_eq_true rfl⟩ ⟨Nat.le_of_ble_eq_true rfl, Nat.le_of_ble_eq_true rfl⟩ rfl ⟨rfl, by decide⟩ w_wrongAt ?_
      rintro r sh' _ _ ⟨rfl, rfl, rfl, rfl⟩
      exact V_iret ⟨Or.inr ⟨rfl, Or.inl rfl⟩, dX12_readsCompared_67⟩ ⟨Nat.le_of_ble_eq_true rfl, Nat.le_of_ble_eq_true rfl⟩ (cmQ_no (pCmp_2 hr hc) (by decide) hWa.fail)
  · skip
    obtain ⟨rfl, hF⟩ := hA2 h0
    refine V_if_ne (tgt := 9) dX12_readsCompared_4 rfl (fun h => absurd h (by decide)) (fun _ => ?_)
    refine V_iconst (v := nI 0) dX12_readsCompared_7 rfl ?_
    exact V_iret ⟨Or.inr ⟨rfl, Or.inl rfl⟩, dX12_readsCompared_8⟩ ⟨Nat.le_of_ble_eq_true rfl, Nat.le_of_ble_eq_true rfl⟩ (cmQ_no (pCmp_1 hr h0) h0 hF)

def rdPc (G : zG) (J : zJ) (Q : zQ) (n : Nat) (I0 : zI) (p : Nat) (st cs : List (Nat × Nat)) : Prop := ∀ I2, Wd I0 I2 n p 0 st cs → V G mX12_readsCondition 6 Q 40 [(0, .ref 62)] [] (0, 0) zsh I2 J
def rdAc (G : zG) (J : zJ) (Q : zQ) (n : Nat) (I0 : zI) (p : Nat) (st cs : List (Nat × Nat)) : Prop := ∀ I2, Wd I0 I2 n p 0 st cs → V G mX12_readsCondition 6 Q 92 [(0, .ref 62)] [] (0, 0) zsh I2 J
set_option maxRecDepth 100000 in
set_option maxHeartbeats 4000000 in
theorem cd_open_n {G : zG} {I0 : zI} {J : zJ} {Q : zQ} {n p : Nat} {st cs : List (Nat × Nat)} {tx : Nat → Nat} (hx : txW I0 tx n) (hc : sgn tx n p = 33) (h6 : opn st < 6) (hk : rdPc G J Q n I0 (p + 1) ((10, 0) :: st) cs) : rdPc G J Q n I0 p st cs := by
  intro I2 hW
  have hsq := hW.sq
  have hqn := hW.qn
  have hn240 := hW.n240
  have hcq := hW.cq
  have hpn : p < n := sgn_ltn (tx := tx) (by omega)
  refine V_aload_n dX12_readsCondition_40 rfl ?_
  refine V_callV (As := []) (st := []) (a := 62) dX12_readsCondition_41 kX12_here lX12_225 (by decide) rfl rfl (Nat.le_of_ble_eq_true rfl) ⟨Nat.le_of_ble_eq_true rfl, Nat.le_of_ble_eq_true rfl⟩ ⟨Nat.le_of_ble_eq_true rfl, Nat.le_of_ble_eq_true rfl⟩ rfl ⟨rfl, by decide⟩ (w_hereW hW hx) ?_
  rintro _ _ _ _ ⟨rfl, rfl, rfl, rfl⟩
  refine V_bipush (v := nI 33) dX12_readsCondition_44 rfl ?_
  refine V_icmp_eqX (tgt := 58) dX12_readsCondition_46 rfl (sg_le hx _) (by decide) (fun _ => ?_) (fun h => absurd h (by omega))
  refine V_aload_n dX12_readsCondition_58 rfl ?_
  refine V_aload_n dX12_readsCondition_59 rfl ?_
  refine V_callV (As := []) (st := [.ref 62]) (a := 62) dX12_readsCondition_60 kX12_here lX12_225 (by decide) rfl rfl (Nat.le_of_ble_eq_true rfl) ⟨Nat.le_of_ble_eq_true rfl, Nat.le_of_ble_eq_true rfl⟩ ⟨Nat.le_of_ble_eq_true rfl, Nat.le_of_ble_eq_true rfl⟩ rfl ⟨rfl, by decide⟩ (w_hereW hW hx) ?_
  rintro _ _ _ _ ⟨rfl, rfl, rfl, rfl⟩
  refine V_bipush (v := nI 33) dX12_readsCondition_63 rfl ?_
  refine V_icmp_neX (tgt := 73) dX12_readsCondition_65 rfl (sg_le hx _) (by decide) (fun h => absurd h (by omega)) (fun _ => ?_)
  refine V_bipush (v := nI 10) dX12_readsCondition_68 rfl ?_
  refine V_goto (tgt := 75) dX12_readsCondition_70 rfl ?_
  refine V_callV (As := [.int (nI 10)]) (st := []) (a := 62) dX12_readsCondition_75 kX12_opens lX12_260 (by decide) rfl rfl (Nat.le_of_ble_eq_true rfl) ⟨Nat.le_of_ble_eq_true rfl, Nat.le_of_ble_eq_true rfl⟩ ⟨Nat.le_of_ble_eq_true rfl, Nat.le_of_ble_eq_true rfl⟩ rfl ⟨rfl, by decide⟩ (w_opensY hW hpn (by decide) h6) ?_
  rintro r sh' I3 _ ⟨rfl, rfl, hW2, rfl⟩
  refine V_if_ne (tgt := 40) dX12_readsCondition_78 rfl (fun _ => ?_) (fun h => absurd h (by decide))
  refine V_sub2 (ls' := [(0, .ref 62)]) (List.forall_mem_cons.mpr ⟨rfl, fun _ h => absurd h List.not_mem_nil⟩) ?_
  exact hk _ hW2

set_option maxRecDepth 100000 in
set_option maxHeartbeats 4000000 in
theorem cd_full_n {G : zG} {I0 : zI} {J : zJ} {Q : zQ} {n p : Nat} {st cs : List (Nat × Nat)} {tx : Nat → Nat} (hx : txW I0 tx n) (hc : sgn tx n p = 33) (h6 : opn st = 6) (hf : smFl J Q I0 5 p) : rdPc G J Q n I0 p st cs := by
  intro I2 hW
  have hsq := hW.sq
  have hqn := hW.qn
  have hn240 := hW.n240
  have hcq := hW.cq
  refine V_aload_n dX12_readsCondition_40 rfl ?_
  refine V_callV (As := []) (st := []) (a := 62) dX12_readsCondition_41 kX12_here lX12_225 (by decide) rfl rfl (Nat.le_of_ble_eq_true rfl) ⟨Nat.le_of_ble_eq_true rfl, Nat.le_of_ble_eq_true rfl⟩ ⟨Nat.le_of_ble_eq_true rfl, Nat.le_of_ble_eq_true rfl⟩ rfl ⟨rfl, by decide⟩ (w_hereW hW hx) ?_
  rintro _ _ _ _ ⟨rfl, rfl, rfl, rfl⟩
  refine V_bipush (v := nI 33) dX12_readsCondition_44 rfl ?_
  refine V_icmp_eqX (tgt := 58) dX12_readsCondition_46 rfl (sg_le hx _) (by decide) (fun _ => ?_) (fun h => absurd h (by omega))
  refine V_aload_n dX12_readsCondition_58 rfl ?_
  refine V_aload_n dX12_readsCondition_59 rfl ?_
  refine V_callV (As := []) (st := [.ref 62]) (a := 62) dX12_readsCondition_60 kX12_here lX12_225 (by decide) rfl rfl (Nat.le_of_ble_eq_true rfl) ⟨Nat.le_of_ble_eq_true rfl, Nat.le_of_ble_eq_true rfl⟩ ⟨Nat.le_of_ble_eq_true rfl, Nat.le_of_ble_eq_true rfl⟩ rfl ⟨rfl, by decide⟩ (w_hereW hW hx) ?_
  rintro _ _ _ _ ⟨rfl, rfl, rfl, rfl⟩
  refine V_bipush (v := nI 33) dX12_readsCondition_63 rfl ?_
  refine V_icmp_neX (tgt := 73) dX12_readsCondition_65 rfl (sg_le hx _) (by decide) (fun h => absurd h (by omega)) (fun _ => ?_)
  refine V_bipush (v := nI 10) dX12_readsCondition_68 rfl ?_
  refine V_goto (tgt := 75) dX12_readsCondition_70 rfl ?_
  refine V_callV (As := [.int (nI 10)]) (st := []) (a := 62) dX12_readsCondition_75 kX12_opens lX12_260 (by decide) rfl rfl (Nat.le_of_ble_eq_true rfl) ⟨Nat.le_of_ble_eq_true rfl, Nat.le_of_ble_eq_true rfl⟩ ⟨Nat.le_of_ble_eq_true rfl, Nat.le_of_ble_eq_true rfl⟩ rfl ⟨rfl, by decide⟩ (w_opensN hW h6) ?_
  rintro r sh' I3 _ ⟨rfl, rfl, hF, rfl⟩
  refine V_if_ne (tgt := 40) dX12_readsCondition_78 rfl (fun h => absurd h (by decide)) (fun _ => ?_)
  refine V_iconst (v := nI 0) dX12_readsCondition_81 rfl ?_
  exact V_iret ⟨Or.inr ⟨rfl, Or.inl rfl⟩, dX12_readsCondition_82⟩ ⟨Nat.le_of_ble_eq_true rfl, Nat.le_of_ble_eq_true rfl⟩ (hf _ hF)

set_option maxRecDepth 100000 in
set_option maxHeartbeats 4000000 in
theorem cd_open_o {G : zG} {I0 : zI} {J : zJ} {Q : zQ} {n p : Nat} {st cs : List (Nat × Nat)} {tx : Nat → Nat} (hx : txW I0 tx n) (hc : sgn tx n p = 40) (h6 : opn st < 6) (hk : rdPc G J Q n I0 (p + 1) ((13, 0) :: st) cs) : rdPc G J Q n I0 p st cs := by
  intro I2 hW
  have hsq := hW.sq
  have hqn := hW.qn
  have hn240 := hW.n240
  have hcq := hW.cq
  have hpn : p < n := sgn_ltn (tx := tx) (by omega)
  refine V_aload_n dX12_readsCondition_40 rfl ?_
  refine V_callV (As := []) (st := []) (a := 62) dX12_readsCondition_41 kX12_here lX12_225 (by decide) rfl rfl (Nat.le_of_ble_eq_true rfl) ⟨Nat.le_of_ble_eq_true rfl, Nat.le_of_ble_eq_true rfl⟩ ⟨Nat.le_of_ble_eq_true rfl, Nat.le_of_ble_eq_true rfl⟩ rfl ⟨rfl, by decide⟩ (w_hereW hW hx) ?_
  rintro _ _ _ _ ⟨rfl, rfl, rfl, rfl⟩
  refine V_bipush (v := nI 33) dX12_readsCondition_44 rfl ?_
  refine V_icmp_eqX (tgt := 58) dX12_readsCondition_46 rfl (sg_le hx _) (by decide) (fun h => absurd h (by omega)) (fun _ => ?_)
  refine V_aload_n dX12_readsCondition_49 rfl ?_
  refine V_callV (As := []) (st := []) (a := 62) dX12_readsCondition_50 kX12_here lX12_225 (by decide) rfl rfl (Nat.le_of_ble_eq_true rfl) ⟨Nat.le_of_ble_eq_true rfl, Nat.le_of_ble_eq_true rfl⟩ ⟨Nat.le_of_ble_eq_true rfl, Nat.le_of_ble_eq_true rfl⟩ rfl ⟨rfl, by decide⟩ (w_hereW hW hx) ?_
  rintro _ _ _ _ ⟨rfl, rfl, rfl, rfl⟩
  refine V_bipush (v := nI 40) dX12_readsCondition_53 rfl ?_
  refine V_icmp_neX (tgt := 83) dX12_readsCondition_55 rfl (sg_le hx _) (by decide) (fun h => absurd h (by omega)) (fun _ => ?_)
  refine V_aload_n dX12_readsCondition_58 rfl ?_
  refine V_aload_n dX12_readsCondition_59 rfl ?_
  refine V_callV (As := []) (st := [.ref 62]) (a := 62) dX12_readsCondition_60 kX12_here lX12_225 (by decide) rfl rfl (Nat.le_of_ble_eq_true rfl) ⟨Nat.le_of_ble_eq_true rfl, Nat.le_of_ble_eq_true rfl⟩ ⟨Nat.le_of_ble_eq_true rfl, Nat.le_of_ble_eq_true rfl⟩ rfl ⟨rfl, by decide⟩ (w_hereW hW hx) ?_
  rintro _ _ _ _ ⟨rfl, rfl, rfl, rfl⟩
  refine V_bipush (v := nI 33) dX12_readsCondition_63 rfl ?_
  refine V_icmp_neX (tgt := 73) dX12_readsCondition_65 rfl (sg_le hx _) (by decide) (fun _ => ?_) (fun h => absurd h (by omega))
  refine V_bipush (v := nI 13) dX12_readsCondition_73 rfl ?_
  refine V_callV (As := [.int (nI 13)]) (st := []) (a := 62) dX12_readsCondition_75 kX12_opens lX12_260 (by decide) rfl rfl (Nat.le_of_ble_eq_true rfl) ⟨Nat.le_of_ble_eq_true rfl, Nat.le_of_ble_eq_true rfl⟩ ⟨Nat.le_of_ble_eq_true rfl, Nat.le_of_ble_eq_true rfl⟩ rfl ⟨rfl, by decide⟩ (w_opensY hW hpn (by decide) h6) ?_
  rintro r sh' I3 _ ⟨rfl, rfl, hW2, rfl⟩
  refine V_if_ne (tgt := 40) dX12_readsCondition_78 rfl (fun _ => ?_) (fun h => absurd h (by decide))
  refine V_sub2 (ls' := [(0, .ref 62)]) (List.forall_mem_cons.mpr ⟨rfl, fun _ h => absurd h List.not_mem_nil⟩) ?_
  exact hk _ hW2

set_option maxRecDepth 100000 in
set_option maxHeartbeats 4000000 in
theorem cd_full_o {G : zG} {I0 : zI} {J : zJ} {Q : zQ} {n p : Nat} {st cs : List (Nat × Nat)} {tx : Nat → Nat} (hx : txW I0 tx n) (hc : sgn tx n p = 40) (h6 : opn st = 6) (hf : smFl J Q I0 5 p) : rdPc G J Q n I0 p st cs := by
  intro I2 hW
  have hsq := hW.sq
  have hqn := hW.qn
  have hn240 := hW.n240
  have hcq := hW.cq
  refine V_aload_n dX12_readsCondition_40 rfl ?_
  refine V_callV (As := []) (st := []) (a := 62) dX12_readsCondition_41 kX12_here lX12_225 (by decide) rfl rfl (Nat.le_of_ble_eq_true rfl) ⟨Nat.le_of_ble_eq_true rfl, Nat.le_of_ble_eq_true rfl⟩ ⟨Nat.le_of_ble_eq_true rfl, Nat.le_of_ble_eq_true rfl⟩ rfl ⟨rfl, by decide⟩ (w_hereW hW hx) ?_
  rintro _ _ _ _ ⟨rfl, rfl, rfl, rfl⟩
  refine V_bipush (v := nI 33) dX12_readsCondition_44 rfl ?_
  refine V_icmp_eqX (tgt := 58) dX12_readsCondition_46 rfl (sg_le hx _) (by decide) (fun h => absurd h (by omega)) (fun _ => ?_)
  refine V_aload_n dX12_readsCondition_49 rfl ?_
  refine V_callV (As := []) (st := []) (a := 62) dX12_readsCondition_50 kX12_here lX12_225 (by decide) rfl rfl (Nat.le_of_ble_eq_true rfl) ⟨Nat.le_of_ble_eq_true rfl, Nat.le_of_ble_eq_true rfl⟩ ⟨Nat.le_of_ble_eq_true rfl, Nat.le_of_ble_eq_true rfl⟩ rfl ⟨rfl, by decide⟩ (w_hereW hW hx) ?_
  rintro _ _ _ _ ⟨rfl, rfl, rfl, rfl⟩
  refine V_bipush (v := nI 40) dX12_readsCondition_53 rfl ?_
  refine V_icmp_neX (tgt := 83) dX12_readsCondition_55 rfl (sg_le hx _) (by decide) (fun h => absurd h (by omega)) (fun _ => ?_)
  refine V_aload_n dX12_readsCondition_58 rfl ?_
  refine V_aload_n dX12_readsCondition_59 rfl ?_
  refine V_callV (As := []) (st := [.ref 62]) (a := 62) dX12_readsCondition_60 kX12_here lX12_225 (by decide) rfl rfl (Nat.le_of_ble_eq_true rfl) ⟨Nat.le_of_ble_eq_true rfl, Nat.le_of_ble_eq_true rfl⟩ ⟨Nat.le_of_ble_eq_true rfl, Nat.le_of_ble_eq_true rfl⟩ rfl ⟨rfl, by decide⟩ (w_hereW hW hx) ?_
  rintro _ _ _ _ ⟨rfl, rfl, rfl, rfl⟩
  refine V_bipush (v := nI 33) dX12_readsCondition_63 rfl ?_
  refine V_icmp_neX (tgt := 73) dX12_readsCondition_65 rfl (sg_le hx _) (by decide) (fun _ => ?_) (fun h => absurd h (by omega))
  refine V_bipush (v := nI 13) dX12_readsCondition_73 rfl ?_
  refine V_callV (As := [.int (nI 13)]) (st := []) (a := 62) dX12_readsCondition_75 kX12_opens lX12_260 (by decide) rfl rfl (Nat.le_of_ble_eq_true rfl) ⟨Nat.le_of_ble_eq_true rfl, Nat.le_of_ble_eq_true rfl⟩ ⟨Nat.le_of_ble_eq_true rfl, Nat.le_of_ble_eq_true rfl⟩ rfl ⟨rfl, by decide⟩ (w_opensN hW h6) ?_
  rintro r sh' I3 _ ⟨rfl, rfl, hF, rfl⟩
  refine V_if_ne (tgt := 40) dX12_readsCondition_78 rfl (fun h => absurd h (by decide)) (fun _ => ?_)
  refine V_iconst (v := nI 0) dX12_readsCondition_81 rfl ?_
  exact V_iret ⟨Or.inr ⟨rfl, Or.inl rfl⟩, dX12_readsCondition_82⟩ ⟨Nat.le_of_ble_eq_true rfl, Nat.le_of_ble_eq_true rfl⟩ (hf _ hF)

set_option maxRecDepth 100000 in
set_option maxHeartbeats 4000000 in
theorem cd_cmp {G : zG} {I0 : zI} {J : zJ} {Q : zQ} {n p e : Nat} {st cs : List (Nat × Nat)} {tx : Nat → Nat} (hx : txW I0 tx n) (hc : ¬ sgn tx n p = 33) (hc2 : ¬ sgn tx n p = 40) (he : opn st + e = 6) (hno : noSg st) (hp1 : 1 ≤ p) (hf : (pCmp tx n e p).1 ≠ 0 → smFl J Q I0 (pCmp tx n e p).1 (pCmp tx n e p).2.1) (hk : (pCmp tx n e p).1 = 0 → rdAc G J Q n I0 (pCmp tx n e p).2.1 (endS st (cs ++ (pCmp tx n e p).2.2)).1 (endS st (cs ++ (pCmp tx n e p).2.2)).2) : rdPc G J Q n I0 p st cs := by
  intro I2 hW
  have hsq := hW.sq
  have hqn := hW.qn
  have hn240 := hW.n240
  have hcq := hW.cq
  refine V_aload_n dX12_readsCondition_40 rfl ?_
  refine V_callV (As := []) (st := []) (a := 62) dX12_readsCondition_41 kX12_here lX12_225 (by decide) rfl rfl (Nat.le_of_ble_eq_true rfl) ⟨Nat.le_of_ble_eq_true rfl, Nat.le_of_ble_eq_true rfl⟩ ⟨Nat.le_of_ble_eq_true rfl, Nat.le_of_ble_eq_true rfl⟩ rfl ⟨rfl, by decide⟩ (w_hereW hW hx) ?_
  rintro _ _ _ _ ⟨rfl, rfl, rfl, rfl⟩
  refine V_bipush (v := nI 33) dX12_readsCondition_44 rfl ?_
  refine V_icmp_eqX (tgt := 58) dX12_readsCondition_46 rfl (sg_le hx _) (by decide) (fun h => absurd h (by omega)) (fun _ => ?_)
  refine V_aload_n dX12_readsCondition_49 rfl ?_
  refine V_callV (As := []) (st := []) (a := 62) dX12_readsCondition_50 kX12_here lX12_225 (by decide) rfl rfl (Nat.le_of_ble_eq_true rfl) ⟨Nat.le_of_ble_eq_true rfl, Nat.le_of_ble_eq_true rfl⟩ ⟨Nat.le_of_ble_eq_true rfl, Nat.le_of_ble_eq_true rfl⟩ rfl ⟨rfl, by decide⟩ (w_hereW hW hx) ?_
  rintro _ _ _ _ ⟨rfl, rfl, rfl, rfl⟩
  refine V_bipush (v := nI 40) dX12_readsCondition_53 rfl ?_
  refine V_icmp_neX (tgt := 83) dX12_readsCondition_55 rfl (sg_le hx _) (by decide) (fun _ => ?_) (fun h => absurd h (by omega))
  refine V_aload_n dX12_readsCondition_83 rfl ?_
  refine V_callV (As := []) (st := []) (a := 62) dX12_readsCondition_84 kX12_readsCompared lX12_288 (by decide) rfl rfl (Nat.le_of_ble_eq_true rfl) ⟨Nat.le_of_ble_eq_true rfl, Nat.le_of_ble_eq_true rfl⟩ ⟨Nat.le_of_ble_eq_true rfl, Nat.le_of_ble_eq_true rfl⟩ rfl ⟨rfl, by decide⟩ (w_readsCompared hx hW he hno hp1) ?_
  rintro r sh' I3 _ ⟨rfl, hA1, hA2, rfl⟩
  by_cases h0 : (pCmp tx n e p).1 = 0
  · skip
    obtain ⟨rfl, hWa⟩ := hA1 h0
    refine V_if_ne (tgt := 92) dX12_readsCondition_87 rfl (fun _ => ?_) (fun h => absurd h (by decide))
    refine V_sub2 (ls' := [(0, .ref 62)]) (List.forall_mem_cons.mpr ⟨rfl, fun _ h => absurd h List.not_mem_nil⟩) ?_
    exact hk h0 _ hWa
  · skip
    obtain ⟨rfl, hF⟩ := hA2 h0
    refine V_if_ne (tgt := 92) dX12_readsCondition_87 rfl (fun h => absurd h (by decide)) (fun _ => ?_)
    refine V_iconst (v := nI 0) dX12_readsCondition_90 rfl ?_
    exact V_iret ⟨Or.inr ⟨rfl, Or.inl rfl⟩, dX12_readsCondition_91⟩ ⟨Nat.le_of_ble_eq_true rfl, Nat.le_of_ble_eq_true rfl⟩ (hf h0 _ hF)

set_option maxRecDepth 100000 in
set_option maxHeartbeats 4000000 in
theorem cd_closeE {G : zG} {I0 : zI} {J : zJ} {Q : zQ} {n p : Nat} {st cs cs2 : List (Nat × Nat)} {tx : Nat → Nat} (hx : txW I0 tx n) (hc : sgn tx n p = 41) (hK : lndK 1 st cs) (hl : lndS 1 st cs = ([(13, 0)], cs2)) (hk : ∀ I2, Wd I0 I2 n (p + 1) 0 [] cs2 → Q (some (.int (nI 1))) zsh I2 J) : rdAc G J Q n I0 p st cs := by
  intro I2 hW
  have hsq := hW.sq
  have hqn := hW.qn
  have hn240 := hW.n240
  have hcq := hW.cq
  have hpn : p < n := sgn_ltn (tx := tx) (by omega)
  refine V_aload_n dX12_readsCondition_92 rfl ?_
  refine V_callV (As := []) (st := []) (a := 62) dX12_readsCondition_93 kX12_here lX12_225 (by decide) rfl rfl (Nat.le_of_ble_eq_true rfl) ⟨Nat.le_of_ble_eq_true rfl, Nat.le_of_ble_eq_true rfl⟩ ⟨Nat.le_of_ble_eq_true rfl, Nat.le_of_ble_eq_true rfl⟩ rfl ⟨rfl, by decide⟩ (w_hereW hW hx) ?_
  rintro _ _ _ _ ⟨rfl, rfl, rfl, rfl⟩
  refine V_bipush (v := nI 41) dX12_readsCondition_96 rfl ?_
  refine V_icmp_neX (tgt := 152) dX12_readsCondition_98 rfl (sg_le hx _) (by decide) (fun h => absurd h (by omega)) (fun _ => ?_)
  refine V_aload_n dX12_readsCondition_101 rfl ?_
  refine V_iconst (v := nI 1) dX12_readsCondition_102 rfl ?_
  refine V_callV (As := [.int (nI 1)]) (st := []) (a := 62) dX12_readsCondition_103 kX12_lands lX12_291 (by decide) rfl rfl (Nat.le_of_ble_eq_true rfl) ⟨Nat.le_of_ble_eq_true rfl, Nat.le_of_ble_eq_true rfl⟩ ⟨Nat.le_of_ble_eq_true rfl, Nat.le_of_ble_eq_true rfl⟩ rfl ⟨rfl, by decide⟩ (w_lands hW (b := 1) (by decide) hK) ?_
  rintro r sh' I3 _ ⟨rfl, rfl, hW3, rfl⟩
  rw [hl] at hW3
  dsimp only at hW3
  have hW3s := hW3.sq
  have hW3c := hW3.cq
  refine V_aload_n dX12_readsCondition_106 rfl ?_
  refine V_aload_n dX12_readsCondition_107 rfl ?_
  refine V_getI dX12_readsCondition_108 fX12_250 ⟨Nat.le_of_ble_eq_true rfl, Nat.le_of_ble_eq_true rfl⟩ rfl rfl ?_
  refine V_eqI (y := nI 1) hW3.hw ?_
  refine V_iconst (v := nI 1) dX12_readsCondition_111 rfl ?_
  refine V_isubN dX12_readsCondition_112 (by omega) ?_
  refine V_putW dX12_readsCondition_113 fX12_250 ⟨Nat.le_of_ble_eq_true rfl, Nat.le_of_ble_eq_true rfl⟩ rfl rfl rfl ⟨rfl, rfl⟩ ?_
  refine V_aload_n dX12_readsCondition_116 rfl ?_
  refine V_aload_n dX12_readsCondition_117 rfl ?_
  refine V_getI dX12_readsCondition_118 fX12_247 ⟨Nat.le_of_ble_eq_true rfl, Nat.le_of_ble_eq_true rfl⟩ rfl rfl ?_
  refine V_eqI (y := I3 62 12) rfl ?_
  refine V_eqI (y := nI 1) hW3.ho ?_
  refine V_iconst (v := nI 1) dX12_readsCondition_121 rfl ?_
  refine V_isubN dX12_readsCondition_122 (by omega) ?_
  refine V_putW dX12_readsCondition_123 fX12_247 ⟨Nat.le_of_ble_eq_true rfl, Nat.le_of_ble_eq_true rfl⟩ rfl rfl rfl ⟨rfl, rfl⟩ ?_
  refine V_aload_n dX12_readsCondition_126 rfl ?_
  refine V_aload_n dX12_readsCondition_127 rfl ?_
  refine V_getI dX12_readsCondition_128 fX12_219 ⟨Nat.le_of_ble_eq_true rfl, Nat.le_of_ble_eq_true rfl⟩ rfl rfl ?_
  refine V_eqI (y := I3 62 8) rfl ?_
  refine V_eqI (y := nI p) hW3.hq ?_
  refine V_iconst (v := nI 1) dX12_readsCondition_131 rfl ?_
  refine V_iaddN dX12_readsCondition_132 ?_
  refine V_putW dX12_readsCondition_133 fX12_219 ⟨Nat.le_of_ble_eq_true rfl, Nat.le_of_ble_eq_true rfl⟩ rfl rfl rfl ⟨rfl, rfl⟩ ?_
  refine V_aload_n dX12_readsCondition_136 rfl ?_
  refine V_getI dX12_readsCondition_137 fX12_250 ⟨Nat.le_of_ble_eq_true rfl, Nat.le_of_ble_eq_true rfl⟩ rfl rfl ?_
  refine V_eqI (y := nI (1 - 1)) rfl ?_
  refine V_if_neN (tgt := 145) dX12_readsCondition_140 rfl (by omega) (fun h => absurd h (by omega)) (fun _ => ?_)
  refine V_iconst (v := nI 1) dX12_readsCondition_143 rfl ?_
  exact V_iret ⟨Or.inr ⟨rfl, Or.inr rfl⟩, dX12_readsCondition_144⟩ ⟨Nat.le_of_ble_eq_true rfl, Nat.le_of_ble_eq_true rfl⟩ (hk _ ((hW3.close (z' := 0) (by decide) rfl).next hpn))

set_option maxRecDepth 100000 in
set_option maxHeartbeats 4000000 in
theorem cd_closeN {G : zG} {I0 : zI} {J : zJ} {Q : zQ} {n p : Nat} {st st2 cs cs2 : List (Nat × Nat)} {tx : Nat → Nat} (hx : txW I0 tx n) (hc : sgn tx n p = 41) (hK : lndK 1 st cs) (hl : lndS 1 st cs = ((13, 0) :: st2, cs2)) (h2 : 1 ≤ st2.length) (hk : rdAc G J Q n I0 (p + 1) (endS st2 cs2).1 (endS st2 cs2).2) : rdAc G J Q n I0 p st cs := by
  intro I2 hW
  have hsq := hW.sq
  have hqn := hW.qn
  have hn240 := hW.n240
  have hcq := hW.cq
  have hpn : p < n := sgn_ltn (tx := tx) (by omega)
  refine V_aload_n dX12_readsCondition_92 rfl ?_
  refine V_callV (As := []) (st := []) (a := 62) dX12_readsCondition_93 kX12_here lX12_225 (by decide) rfl rfl (Nat.le_of_ble_eq_true rfl) ⟨Nat.le_of_ble_eq_true rfl, Nat.le_of_ble_eq_true rfl⟩ ⟨Nat.le_of_ble_eq_true rfl, Nat.le_of_ble_eq_true rfl⟩ rfl ⟨rfl, by decide⟩ (w_hereW hW hx) ?_
  rintro _ _ _ _ ⟨rfl, rfl, rfl, rfl⟩
  refine V_bipush (v := nI 41) dX12_readsCondition_96 rfl ?_
  refine V_icmp_neX (tgt := 152) dX12_readsCondition_98 rfl (sg_le hx _) (by decide) (fun h => absurd h (by omega)) (fun _ => ?_)
  refine V_aload_n dX12_readsCondition_101 rfl ?_
  refine V_iconst (v := nI 1) dX12_readsCondition_102 rfl ?_
  refine V_callV (As := [.int (nI 1)]) (st := []) (a := 62) dX12_readsCondition_103 kX12_lands lX12_291 (by decide) rfl rfl (Nat.le_of_ble_eq_true rfl) ⟨Nat.le_of_ble_eq_true rfl, Nat.le_of_ble_eq_true rfl⟩ ⟨Nat.le_of_ble_eq_true rfl, Nat.le_of_ble_eq_true rfl⟩ rfl ⟨rfl, by decide⟩ (w_lands hW (b := 1) (by decide) hK) ?_
  rintro r sh' I3 _ ⟨rfl, rfl, hW3, rfl⟩
  rw [hl] at hW3
  dsimp only at hW3
  have hW3s := hW3.sq
  have hW3c := hW3.cq
  have hW3t : st2.length + 1 ≤ p := hW3.sq
  refine V_aload_n dX12_readsCondition_106 rfl ?_
  refine V_aload_n dX12_readsCondition_107 rfl ?_
  refine V_getI dX12_readsCondition_108 fX12_250 ⟨Nat.le_of_ble_eq_true rfl, Nat.le_of_ble_eq_true rfl⟩ rfl rfl ?_
  refine V_eqI (y := nI (st2.length + 1)) hW3.hw ?_
  refine V_iconst (v := nI 1) dX12_readsCondition_111 rfl ?_
  refine V_isubN dX12_readsCondition_112 (by omega) ?_
  refine V_putW dX12_readsCondition_113 fX12_250 ⟨Nat.le_of_ble_eq_true rfl, Nat.le_of_ble_eq_true rfl⟩ rfl rfl rfl ⟨rfl, rfl⟩ ?_
  refine V_aload_n dX12_readsCondition_116 rfl ?_
  refine V_aload_n dX12_readsCondition_117 rfl ?_
  refine V_getI dX12_readsCondition_118 fX12_247 ⟨Nat.le_of_ble_eq_true rfl, Nat.le_of_ble_eq_true rfl⟩ rfl rfl ?_
  refine V_eqI (y := I3 62 12) rfl ?_
  refine V_eqI (y := nI (opn st2 + 1)) (hW3.ho.trans (congrArg nI (opn_y (x := (13, 0)) (by decide)))) ?_
  refine V_iconst (v := nI 1) dX12_readsCondition_121 rfl ?_
  refine V_isubN dX12_readsCondition_122 (by omega) ?_
  refine V_putW dX12_readsCondition_123 fX12_247 ⟨Nat.le_of_ble_eq_true rfl, Nat.le_of_ble_eq_true rfl⟩ rfl rfl rfl ⟨rfl, rfl⟩ ?_
  refine V_aload_n dX12_readsCondition_126 rfl ?_
  refine V_aload_n dX12_readsCondition_127 rfl ?_
  refine V_getI dX12_readsCondition_128 fX12_219 ⟨Nat.le_of_ble_eq_true rfl, Nat.le_of_ble_eq_true rfl⟩ rfl rfl ?_
  refine V_eqI (y := I3 62 8) rfl ?_
  refine V_eqI (y := nI p) hW3.hq ?_
  refine V_iconst (v := nI 1) dX12_readsCondition_131 rfl ?_
  refine V_iaddN dX12_readsCondition_132 ?_
  refine V_putW dX12_readsCondition_133 fX12_219 ⟨Nat.le_of_ble_eq_true rfl, Nat.le_of_ble_eq_true rfl⟩ rfl rfl rfl ⟨rfl, rfl⟩ ?_
  refine V_aload_n dX12_readsCondition_136 rfl ?_
  refine V_getI dX12_readsCondition_137 fX12_250 ⟨Nat.le_of_ble_eq_true rfl, Nat.le_of_ble_eq_true rfl⟩ rfl rfl ?_
  refine V_eqI (y := nI ((st2.length + 1) - 1)) rfl ?_
  refine V_if_neN (tgt := 145) dX12_readsCondition_140 rfl (by omega) (fun _ => ?_) (fun h => absurd h (by omega))
  refine V_aload_n dX12_readsCondition_145 rfl ?_
  have hW4 := (hW3.close (z' := 0) (by decide) rfl).next hpn
  refine V_callV (As := []) (st := []) (a := 62) dX12_readsCondition_146 kX12_endsPiece lX12_285 (by decide) rfl rfl (Nat.le_of_ble_eq_true rfl) ⟨Nat.le_of_ble_eq_true rfl, Nat.le_of_ble_eq_true rfl⟩ ⟨Nat.le_of_ble_eq_true rfl, Nat.le_of_ble_eq_true rfl⟩ rfl ⟨rfl, by decide⟩ (w_endsP hW4) ?_
  rintro r sh' I5 _ ⟨rfl, rfl, hW5, rfl⟩
  refine V_goto (tgt := 92) dX12_readsCondition_149 rfl ?_
  refine V_sub2 (ls' := [(0, .ref 62)]) (List.forall_mem_cons.mpr ⟨rfl, fun _ h => absurd h List.not_mem_nil⟩) ?_
  exact hk _ hW5

set_option maxRecDepth 100000 in
set_option maxHeartbeats 4000000 in
theorem cd_wrong {G : zG} {I0 : zI} {J : zJ} {Q : zQ} {n p : Nat} {st cs : List (Nat × Nat)} {tx : Nat → Nat} (hx : txW I0 tx n) (hc : ¬ sgn tx n p = 41) (hc2 : ¬ sgn tx n p = 38) (hc3 : ¬ sgn tx n p = 124) (hf : smFl J Q I0 1 p) : rdAc G J Q n I0 p st cs := by
  intro I2 hW
  have hsq := hW.sq
  have hqn := hW.qn
  have hn240 := hW.n240
  have hcq := hW.cq
  refine V_aload_n dX12_readsCondition_92 rfl ?_
  refine V_callV (As := []) (st := []) (a := 62) dX12_readsCondition_93 kX12_here lX12_225 (by decide) rfl rfl (Nat.le_of_ble_eq_true rfl) ⟨Nat.le_of_ble_eq_true rfl, Nat.le_of_ble_eq_true rfl⟩ ⟨Nat.le_of_ble_eq_true rfl, Nat.le_of_ble_eq_true rfl⟩ rfl ⟨rfl, by decide⟩ (w_hereW hW hx) ?_
  rintro _ _ _ _ ⟨rfl, rfl, rfl, rfl⟩
  refine V_bipush (v := nI 41) dX12_readsCondition_96 rfl ?_
  refine V_icmp_neX (tgt := 152) dX12_readsCondition_98 rfl (sg_le hx _) (by decide) (fun _ => ?_) (fun h => absurd h (by omega))
  refine V_aload_n dX12_readsCondition_152 rfl ?_
  refine V_callV (As := []) (st := []) (a := 62) dX12_readsCondition_153 kX12_here lX12_225 (by decide) rfl rfl (Nat.le_of_ble_eq_true rfl) ⟨Nat.le_of_ble_eq_true rfl, Nat.le_of_ble_eq_true rfl⟩ ⟨Nat.le_of_ble_eq_true rfl, Nat.le_of_ble_eq_true rfl⟩ rfl ⟨rfl, by decide⟩ (w_hereW hW hx) ?_
  rintro _ _ _ _ ⟨rfl, rfl, rfl, rfl⟩
  refine V_bipush (v := nI 38) dX12_readsCondition_156 rfl ?_
  refine V_icmp_eqX (tgt := 180) dX12_readsCondition_158 rfl (sg_le hx _) (by decide) (fun h => absurd h (by omega)) (fun _ => ?_)
  refine V_aload_n dX12_readsCondition_161 rfl ?_
  refine V_callV (As := []) (st := []) (a := 62) dX12_readsCondition_162 kX12_here lX12_225 (by decide) rfl rfl (Nat.le_of_ble_eq_true rfl) ⟨Nat.le_of_ble_eq_true rfl, Nat.le_of_ble_eq_true rfl⟩ ⟨Nat.le_of_ble_eq_true rfl, Nat.le_of_ble_eq_true rfl⟩ rfl ⟨rfl, by decide⟩ (w_hereW hW hx) ?_
  rintro _ _ _ _ ⟨rfl, rfl, rfl, rfl⟩
  refine V_bipush (v := nI 124) dX12_readsCondition_165 rfl ?_
  refine V_icmp_eqX (tgt := 180) dX12_readsCondition_167 rfl (sg_le hx _) (by decide) (fun h => absurd h (by omega)) (fun _ => ?_)
  refine V_aload_n dX12_readsCondition_170 rfl ?_
  refine V_iconst (v := nI 1) dX12_readsCondition_171 rfl ?_
  refine V_aload_n dX12_readsCondition_172 rfl ?_
  refine V_getI dX12_readsCondition_173 fX12_219 ⟨Nat.le_of_ble_eq_true rfl, Nat.le_of_ble_eq_true rfl⟩ rfl rfl ?_
  refine V_eqI (y := nI p) hW.hq ?_
  refine V_callV (As := [.int (nI 1), .int (nI p)]) (st := []) (a := 62) dX12_readsCondition_176 kX12_wrongAt lX12_232 (by decide) rfl rfl (Nat.le_of_ble_eq_true rfl) ⟨Nat.le_of_ble_eq_true rfl, Nat.le_of_ble_eq_true rfl⟩ ⟨Nat.le_of_ble_eq_true rfl, Nat.le_of_ble_eq_true rfl⟩ rfl ⟨rfl, by decide⟩ w_wrongAt ?_
  rintro r sh' _ _ ⟨rfl, rfl, rfl, rfl⟩
  exact V_iret ⟨Or.inr ⟨rfl, Or.inl rfl⟩, dX12_readsCondition_179⟩ ⟨Nat.le_of_ble_eq_true rfl, Nat.le_of_ble_eq_true rfl⟩ (hf _ hW.fail)

set_option maxRecDepth 100000 in
set_option maxHeartbeats 4000000 in
theorem cd_jump0 {G : zG} {I0 : zI} {J : zJ} {Q : zQ} {n p : Nat} {st st2 cs cs2 : List (Nat × Nat)} {tx : Nat → Nat} (hx : txW I0 tx n) (hc : sgn tx n p = 38) (hK : lndK 0 st cs) (hl : lndS 0 st cs = (st2, cs2)) (hk : rdPc G J Q n I0 (p + 1) ((11, cs2.length) :: st2) (cs2 ++ [(3, 0)])) : rdAc G J Q n I0 p st cs := by
  intro I2 hW
  have hsq := hW.sq
  have hqn := hW.qn
  have hn240 := hW.n240
  have hcq := hW.cq
  have hpn : p < n := sgn_ltn (tx := tx) (by omega)
  refine V_aload_n dX12_readsCondition_92 rfl ?_
  refine V_callV (As := []) (st := []) (a := 62) dX12_readsCondition_93 kX12_here lX12_225 (by decide) rfl rfl (Nat.le_of_ble_eq_true rfl) ⟨Nat.le_of_ble_eq_true rfl, Nat.le_of_ble_eq_true rfl⟩ ⟨Nat.le_of_ble_eq_true rfl, Nat.le_of_ble_eq_true rfl⟩ rfl ⟨rfl, by decide⟩ (w_hereW hW hx) ?_
  rintro _ _ _ _ ⟨rfl, rfl, rfl, rfl⟩
  refine V_bipush (v := nI 41) dX12_readsCondition_96 rfl ?_
  refine V_icmp_neX (tgt := 152) dX12_readsCondition_98 rfl (sg_le hx _) (by decide) (fun _ => ?_) (fun h => absurd h (by omega))
  refine V_aload_n dX12_readsCondition_152 rfl ?_
  refine V_callV (As := []) (st := []) (a := 62) dX12_readsCondition_153 kX12_here lX12_225 (by decide) rfl rfl (Nat.le_of_ble_eq_true rfl) ⟨Nat.le_of_ble_eq_true rfl, Nat.le_of_ble_eq_true rfl⟩ ⟨Nat.le_of_ble_eq_true rfl, Nat.le_of_ble_eq_true rfl⟩ rfl ⟨rfl, by decide⟩ (w_hereW hW hx) ?_
  rintro _ _ _ _ ⟨rfl, rfl, rfl, rfl⟩
  refine V_bipush (v := nI 38) dX12_readsCondition_156 rfl ?_
  refine V_icmp_eqX (tgt := 180) dX12_readsCondition_158 rfl (sg_le hx _) (by decide) (fun _ => ?_) (fun h => absurd h (by omega))
  refine V_aload_n dX12_readsCondition_180 rfl ?_
  refine V_aload_n dX12_readsCondition_181 rfl ?_
  refine V_callV (As := []) (st := [.ref 62]) (a := 62) dX12_readsCondition_182 kX12_here lX12_225 (by decide) rfl rfl (Nat.le_of_ble_eq_true rfl) ⟨Nat.le_of_ble_eq_true rfl, Nat.le_of_ble_eq_true rfl⟩ ⟨Nat.le_of_ble_eq_true rfl, Nat.le_of_ble_eq_true rfl⟩ rfl ⟨rfl, by decide⟩ (w_hereW hW hx) ?_
  rintro _ _ _ _ ⟨rfl, rfl, rfl, rfl⟩
  refine V_bipush (v := nI 124) dX12_readsCondition_185 rfl ?_
  refine V_icmp_neX (tgt := 194) dX12_readsCondition_187 rfl (sg_le hx _) (by decide) (fun _ => ?_) (fun h => absurd h (by omega))
  refine V_iconst (v := nI 0) dX12_readsCondition_194 rfl ?_
  refine V_callV (As := [.int (nI 0)]) (st := []) (a := 62) dX12_readsCondition_195 kX12_lands lX12_291 (by decide) rfl rfl (Nat.le_of_ble_eq_true rfl) ⟨Nat.le_of_ble_eq_true rfl, Nat.le_of_ble_eq_true rfl⟩ ⟨Nat.le_of_ble_eq_true rfl, Nat.le_of_ble_eq_true rfl⟩ rfl ⟨rfl, by decide⟩ (w_lands hW (b := 0) (by decide) hK) ?_
  rintro r sh' I3 _ ⟨rfl, rfl, hW3, rfl⟩
  rw [hl] at hW3
  dsimp only at hW3
  have hW3s := hW3.sq
  have hW3c := hW3.cq
  refine V_aload_n dX12_readsCondition_198 rfl ?_
  refine V_aload_n dX12_readsCondition_199 rfl ?_
  refine V_callV (As := []) (st := [.ref 62]) (a := 62) dX12_readsCondition_200 kX12_here lX12_225 (by decide) rfl rfl (Nat.le_of_ble_eq_true rfl) ⟨Nat.le_of_ble_eq_true rfl, Nat.le_of_ble_eq_true rfl⟩ ⟨Nat.le_of_ble_eq_true rfl, Nat.le_of_ble_eq_true rfl⟩ rfl ⟨rfl, by decide⟩ (w_hereW hW3 hx) ?_
  rintro _ _ _ _ ⟨rfl, rfl, rfl, rfl⟩
  refine V_bipush (v := nI 38) dX12_readsCondition_203 rfl ?_
  refine V_icmp_neX (tgt := 213) dX12_readsCondition_205 rfl (sg_le hx _) (by decide) (fun h => absurd h (by omega)) (fun _ => ?_)
  refine V_bipush (v := nI 11) dX12_readsCondition_208 rfl ?_
  refine V_goto (tgt := 215) dX12_readsCondition_210 rfl ?_
  refine V_callV (As := [.int (nI 11)]) (st := []) (a := 62) dX12_readsCondition_215 kX12_jumps lX12_294 (by decide) rfl rfl (Nat.le_of_ble_eq_true rfl) ⟨Nat.le_of_ble_eq_true rfl, Nat.le_of_ble_eq_true rfl⟩ ⟨Nat.le_of_ble_eq_true rfl, Nat.le_of_ble_eq_true rfl⟩ rfl ⟨rfl, by decide⟩ (w_jumps hW3 hpn (by decide)) ?_
  rintro r sh' I4 _ ⟨rfl, rfl, hW4, rfl⟩
  refine V_goto (tgt := 40) dX12_readsCondition_218 rfl ?_
  refine V_sub2 (ls' := [(0, .ref 62)]) (List.forall_mem_cons.mpr ⟨rfl, fun _ h => absurd h List.not_mem_nil⟩) ?_
  exact hk _ hW4

set_option maxRecDepth 100000 in
set_option maxHeartbeats 4000000 in
theorem cd_jump1 {G : zG} {I0 : zI} {J : zJ} {Q : zQ} {n p : Nat} {st st2 cs cs2 : List (Nat × Nat)} {tx : Nat → Nat} (hx : txW I0 tx n) (hc : sgn tx n p = 124) (hK : lndK 1 st cs) (hl : lndS 1 st cs = (st2, cs2)) (hk : rdPc G J Q n I0 (p + 1) ((12, cs2.length) :: st2) (cs2 ++ [(4, 0)])) : rdAc G J Q n I0 p st cs := by
  intro I2 hW
  have hsq := hW.sq
  have hqn := hW.qn
  have hn240 := hW.n240
  have hcq := hW.cq
  have hpn : p < n := sgn_ltn (tx := tx) (by omega)
  refine V_aload_n dX12_readsCondition_92 rfl ?_
  refine V_callV (As := []) (st := []) (a := 62) dX12_readsCondition_93 kX12_here lX12_225 (by decide) rfl rfl (Nat.le_of_ble_eq_true rfl) ⟨Nat.le_of_ble_eq_true rfl, Nat.le_of_ble_eq_true rfl⟩ ⟨Nat.le_of_ble_eq_true rfl, Nat.le_of_ble_eq_true rfl⟩ rfl ⟨rfl, by decide⟩ (w_hereW hW hx) ?_
  rintro _ _ _ _ ⟨rfl, rfl, rfl, rfl⟩
  refine V_bipush (v := nI 41) dX12_readsCondition_96 rfl ?_
  refine V_icmp_neX (tgt := 152) dX12_readsCondition_98 rfl (sg_le hx _) (by decide) (fun _ => ?_) (fun h => absurd h (by omega))
  refine V_aload_n dX12_readsCondition_152 rfl ?_
  refine V_callV (As := []) (st := []) (a := 62) dX12_readsCondition_153 kX12_here lX12_225 (by decide) rfl rfl (Nat.le_of_ble_eq_true rfl) ⟨Nat.le_of_ble_eq_true rfl, Nat.le_of_ble_eq_true rfl⟩ ⟨Nat.le_of_ble_eq_true rfl, Nat.le_of_ble_eq_true rfl⟩ rfl ⟨rfl, by decide⟩ (w_hereW hW hx) ?_
  rintro _ _ _ _ ⟨rfl, rfl, rfl, rfl⟩
  refine V_bipush (v := nI 38) dX12_readsCondition_156 rfl ?_
  refine V_icmp_eqX (tgt := 180) dX12_readsCondition_158 rfl (sg_le hx _) (by decide) (fun h => absurd h (by omega)) (fun _ => ?_)
  refine V_aload_n dX12_readsCondition_161 rfl ?_
  refine V_callV (As := []) (st := []) (a := 62) dX12_readsCondition_162 kX12_here lX12_225 (by decide) rfl rfl (Nat.le_of_ble_eq_true rfl) ⟨Nat.le_of_ble_eq_true rfl, Nat.le_of_ble_eq_true rfl⟩ ⟨Nat.le_of_ble_eq_true rfl, Nat.le_of_ble_eq_true rfl⟩ rfl ⟨rfl, by decide⟩ (w_hereW hW hx) ?_
  rintro _ _ _ _ ⟨rfl, rfl, rfl, rfl⟩
  refine V_bipush (v := nI 124) dX12_readsCondition_165 rfl ?_
  refine V_icmp_eqX (tgt := 180) dX12_readsCondition_167 rfl (sg_le hx _) (by decide) (fun _ => ?_) (fun h => absurd h (by omega))
  refine V_aload_n dX12_readsCondition_180 rfl ?_
  refine V_aload_n dX12_readsCondition_181 rfl ?_
  refine V_callV (As := []) (st := [.ref 62]) (a := 62) dX12_readsCondition_182 kX12_here lX12_225 (by decide) rfl rfl (Nat.le_of_ble_eq_true rfl) ⟨Nat.le_of_ble_eq_true rfl, Nat.le_of_ble_eq_true rfl⟩ ⟨Nat.le_of_ble_eq_true rfl, Nat.le_of_ble_eq_true rfl⟩ rfl ⟨rfl, by decide⟩ (w_hereW hW hx) ?_
  rintro _ _ _ _ ⟨rfl, rfl, rfl, rfl⟩
  refine V_bipush (v := nI 124) dX12_readsCondition_185 rfl ?_
  refine V_icmp_neX (tgt := 194) dX12_readsCondition_187 rfl (sg_le hx _) (by decide) (fun h => absurd h (by omega)) (fun _ => ?_)
  refine V_iconst (v := nI 1) dX12_readsCondition_190 rfl ?_
  refine V_goto (tgt := 195) dX12_readsCondition_191 rfl ?_
  refine V_callV (As := [.int (nI 1)]) (st := []) (a := 62) dX12_readsCondition_195 kX12_lands lX12_291 (by decide) rfl rfl (Nat.le_of_ble_eq_true rfl) ⟨Nat.le_of_ble_eq_true rfl, Nat.le_of_ble_eq_true rfl⟩ ⟨Nat.le_of_ble_eq_true rfl, Nat.le_of_ble_eq_true rfl⟩ rfl ⟨rfl, by decide⟩ (w_lands hW (b := 1) (by decide) hK) ?_
  rintro r sh' I3 _ ⟨rfl, rfl, hW3, rfl⟩
  rw [hl] at hW3
  dsimp only at hW3
  have hW3s := hW3.sq
  have hW3c := hW3.cq
  refine V_aload_n dX12_readsCondition_198 rfl ?_
  refine V_aload_n dX12_readsCondition_199 rfl ?_
  refine V_callV (As := []) (st := [.ref 62]) (a := 62) dX12_readsCondition_200 kX12_here lX12_225 (by decide) rfl rfl (Nat.le_of_ble_eq_true rfl) ⟨Nat.le_of_ble_eq_true rfl, Nat.le_of_ble_eq_true rfl⟩ ⟨Nat.le_of_ble_eq_true rfl, Nat.le_of_ble_eq_true rfl⟩ rfl ⟨rfl, by decide⟩ (w_hereW hW3 hx) ?_
  rintro _ _ _ _ ⟨rfl, rfl, rfl, rfl⟩
  refine V_bipush (v := nI 38) dX12_readsCondition_203 rfl ?_
  refine V_icmp_neX (tgt := 213) dX12_readsCondition_205 rfl (sg_le hx _) (by decide) (fun _ => ?_) (fun h => absurd h (by omega))
  refine V_bipush (v := nI 12) dX12_readsCondition_213 rfl ?_
  refine V_callV (As := [.int (nI 12)]) (st := []) (a := 62) dX12_readsCondition_215 kX12_jumps lX12_294 (by decide) rfl rfl (Nat.le_of_ble_eq_true rfl) ⟨Nat.le_of_ble_eq_true rfl, Nat.le_of_ble_eq_true rfl⟩ ⟨Nat.le_of_ble_eq_true rfl, Nat.le_of_ble_eq_true rfl⟩ rfl ⟨rfl, by decide⟩ (w_jumps hW3 hpn (by decide)) ?_
  rintro r sh' I4 _ ⟨rfl, rfl, hW4, rfl⟩
  refine V_goto (tgt := 40) dX12_readsCondition_218 rfl ?_
  refine V_sub2 (ls' := [(0, .ref 62)]) (List.forall_mem_cons.mpr ⟨rfl, fun _ h => absurd h List.not_mem_nil⟩) ?_
  exact hk _ hW4

