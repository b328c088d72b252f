/-! THE CLASS: its reader of conditions -/
def lset (l : List (Nat × Nat)) (j : Nat) (c : Nat × Nat) : List (Nat × Nat) := if j = 0 then l else l.set (j - 1) c
theorem lset_len {l : List (Nat × Nat)} {j : Nat} {c : Nat × Nat} : (lset l j c).length = l.length := by
  unfold lset
  split
  · rfl
  · exact List.length_set
def pCmp (tx : Nat → Nat) (n e p : Nat) : Nat × Nat × List (Nat × Nat) :=
  if (pSum tx n e p).1 ≠ 0 then ((pSum tx n e p).1, (pSum tx n e p).2.1, []) else
  if ¬ (sgn tx n (pSum tx n e p).2.1 = 60 ∨ sgn tx n (pSum tx n e p).2.1 = 62 ∨ sgn tx n (pSum tx n e p).2.1 = 61) then (1, (pSum tx n e p).2.1, []) else
  if (pSum tx n e ((pSum tx n e p).2.1 + 1)).1 ≠ 0 then ((pSum tx n e ((pSum tx n e p).2.1 + 1)).1, (pSum tx n e ((pSum tx n e p).2.1 + 1)).2.1, []) else
  (0, (pSum tx n e ((pSum tx n e p).2.1 + 1)).2.1, (pSum tx n e p).2.2 ++ (pSum tx n e ((pSum tx n e p).2.1 + 1)).2.2 ++ [(2, sgn tx n (pSum tx n e p).2.1)])
def cnd1 (s j : Nat) (g : List (Nat × Nat)) : List (Nat × Nat) := lset g j (3, s + g.length)
def cnd2 (s t : Nat) (g : List (Nat × Nat)) : List (Nat × Nat) := lset g t (4, s + g.length)
/-- pieces and parts: p the place, s where the codes begin, j and t what still waits for where to go on (0: none), acc what there is -/
def pCndL (tx : Nat → Nat) (n : Nat) (pc : Nat → Nat → Nat × Nat × List (Nat × Nat)) : Nat → Nat → Nat → Nat → Nat → List (Nat × Nat) → Nat × Nat × List (Nat × Nat)
  | 0, p, _, _, _, _ => (1, p, [])
  | k + 1, p, s, j, t, acc =>
    if (pc p (s + acc.length)).1 ≠ 0 then ((pc p (s + acc.length)).1, (pc p (s + acc.length)).2.1, []) else
    if sgn tx n (pc p (s + acc.length)).2.1 = 38 then pCndL tx n pc k ((pc p (s + acc.length)).2.1 + 1) s ((acc ++ (pc p (s + acc.length)).2.2).length + 1) t (cnd1 s j (acc ++ (pc p (s + acc.length)).2.2) ++ [(0, 0)]) else
    if sgn tx n (pc p (s + acc.length)).2.1 = 124 then pCndL tx n pc k ((pc p (s + acc.length)).2.1 + 1) s 0 ((acc ++ (pc p (s + acc.length)).2.2).length + 1) (cnd2 s t (cnd1 s j (acc ++ (pc p (s + acc.length)).2.2)) ++ [(0, 0)]) else
    (0, (pc p (s + acc.length)).2.1, cnd2 s t (cnd1 s j (acc ++ (pc p (s + acc.length)).2.2)))
def pOpn (tx : Nat → Nat) (n : Nat) (cnd : Nat × Nat × List (Nat × Nat)) : Nat × Nat × List (Nat × Nat) :=
  if cnd.1 ≠ 0 then (cnd.1, cnd.2.1, []) else if sgn tx n cnd.2.1 = 41 then (0, cnd.2.1 + 1, cnd.2.2) else (1, cnd.2.1, [])
def pNot (r : Nat × Nat × List (Nat × Nat)) : Nat × Nat × List (Nat × Nat) := if r.1 ≠ 0 then (r.1, r.2.1, []) else (0, r.2.1, r.2.2 ++ [(2, 33)])
/-- a P, with so many levels left -/
def pPce (tx : Nat → Nat) (n : Nat) : Nat → Nat → Nat → Nat × Nat × List (Nat × Nat)
  | 0, p, _ => if sgn tx n p = 33 then (5, p, []) else if sgn tx n p = 40 then (5, p, []) else pCmp tx n 0 p
  | e + 1, p, s => if sgn tx n p = 33 then pNot (pPce tx n e (p + 1) s) else if sgn tx n p = 40 then pOpn tx n (pCndL tx n (pPce tx n e) 240 (p + 1) s 0 0 []) else pCmp tx n (e + 1) p
/-- a C -/
def pCnd (tx : Nat → Nat) (n e p s : Nat) : Nat × Nat × List (Nat × Nat) := pCndL tx n (pPce tx n e) 240 p s 0 0 []
theorem pPce_c0 {tx : Nat → Nat} {n p s : Nat} (h : ¬ sgn tx n p = 33) (h2 : ¬ sgn tx n p = 40) : pPce tx n 0 p s = pCmp tx n 0 p := by
  unfold pPce
  rw [if_neg h, if_neg h2]
theorem pPce_cS {tx : Nat → Nat} {n e p s : Nat} (h : ¬ sgn tx n p = 33) (h2 : ¬ sgn tx n p = 40) : pPce tx n (e + 1) p s = pCmp tx n (e + 1) p := by
  conv => lhs; unfold pPce
  rw [if_neg h, if_neg h2]
theorem pPce_n {tx : Nat → Nat} {n e p s : Nat} (h : sgn tx n p = 33) : pPce tx n (e + 1) p s = pNot (pPce tx n e (p + 1) s) := by
  conv => lhs; unfold pPce
  rw [if_pos h]
theorem pPce_o {tx : Nat → Nat} {n e p s : Nat} (h : ¬ sgn tx n p = 33) (h2 : sgn tx n p = 40) : pPce tx n (e + 1) p s = pOpn tx n (pCnd tx n e (p + 1) s) := by
  conv => lhs; unfold pPce
  rw [if_neg h, if_pos h2]
  unfold pCnd
  exact Eq.refl _
theorem pPce_n0 {tx : Nat → Nat} {n p s : Nat} (h : sgn tx n p = 33) : pPce tx n 0 p s = (5, p, []) := by
  unfold pPce
  rw [if_pos h]
theorem pPce_o0 {tx : Nat → Nat} {n p s : Nat} (h : ¬ sgn tx n p = 33) (h2 : sgn tx n p = 40) : pPce tx n 0 p s = (5, p, []) := by
  unfold pPce
  rw [if_neg h, if_pos h2]
/-- what waits, as the class keeps it -/
def skI (S j : Nat) : Int32 := if j = 0 then -1 else nI (min (S + (j - 1)) 240)
theorem skI_0 {S : Nat} : skI S 0 = -1 := rfl
theorem skI_s {S l : Nat} : skI S (l + 1) = nI (min (S + l) 240) := if_neg (by omega)
theorem rdS_pput {off n S p t j : Nat} {I I' : zI} {g : List (Nat × Nat)} {x : Int32} {c : Nat × Nat} (h : rdS off I I' n S p g) (hj : j < g.length) (ht : t = S + j ∨ 240 ≤ t ∧ 240 < S + g.length) (hx : S + g.length ≤ 240 → x = encS off c) : rdS off I (pput I' t x) n S p (g.set j c) := by
  obtain ⟨h1, h2, h3, h4, h5⟩ := h
  have el : (g.set j c).length = g.length := List.length_set
  unfold pput
  by_cases h240 : t < 240
  · have e : t = S + j := by omega
    subst e
    rw [if_pos h240]
    refine ⟨rdF_t h1 ⟨fun a _ _ d => zup_n d, rfl, rfl⟩, h2, by rw [el]; exact h3, fun i hi => ?_, fun hl k d hd => ?_⟩
    · rw [zwr_at, if_neg (fun h => absurd h.2 (by omega))]; exact h4 i hi
    · rw [el] at hl
      rw [zwr_at]
      by_cases hk : k = j
      · subst hk
        rw [if_pos ⟨rfl, rfl⟩, hx hl]
        rw [List.getElem?_set_self hj] at hd
        exact congrArg (encS off) (Option.some.inj hd)
      · rw [if_neg (fun h => hk (by omega))]
        rw [List.getElem?_set_ne (fun h => hk h.symm)] at hd
        exact h5 hl k d hd
  · rw [if_neg h240]
    refine ⟨h1, h2, by rw [el]; exact h3, h4, fun hl => ?_⟩
    rw [el] at hl
    omega
theorem enc_hi {off k a : Nat} (h : 3 ≤ k) : encS off (k, a) = nI (1048576 * k + (a + off)) := by
  show nI (1048576 * k + (if 3 ≤ k then a + off else a)) = _
  rw [if_pos h]
theorem c_patch {G : zG} {I Ic : zI} {J : zJ} {off n s p j k : Nat} {g : List (Nat × Nat)} (hc : rdS off I Ic n (s + off) p g) (hj : j ≤ g.length) (hk : 3 ≤ k) : zK G mX8_put 0 [.ref 6, .int (skI (s + off) j), .int (nI (1048576 * k + min (s + off + g.length) 240))] zsh Ic J (zA2 (fun I' J' => rdS off I I' n (s + off) p (lset g j (k, s + g.length)) ∧ J = J')) := by
  by_cases h0 : j = 0
  · subst h0
    exact zK_imp c_put8n (fun r sh I' J' hq => ⟨hq.1, hq.2.1, by rw [hq.2.2.1]; exact hc, hq.2.2.2⟩)
  · rw [show skI (s + off) j = nI (min (s + off + (j - 1)) 240) from if_neg h0]
    refine zK_imp (c_put8 (by omega)) (fun r sh I' J' hq => ⟨hq.1, hq.2.1, ?_, hq.2.2.2⟩)
    rw [hq.2.2.1]
    unfold lset
    rw [if_neg h0]
    refine rdS_pput hc (by omega) (by omega) (fun hl => ?_)
    rw [enc_hi hk]
    congr 2
    omega
/-- the contracts of readPiece and readCondition with e levels left -/
def pceK (G : zG) (J : zJ) (tx : Nat → Nat) (off n e : Nat) : Prop := ∀ (I : zI) (p s dp : Nat), dp + e = 6 → rdI I n p (s + off) → txk I tx n → zK G mX1_readPiece (4 + 2 * e) [.ref 5, .int (nI dp)] zsh I J (rdR off I J n (s + off) (pPce tx n e p s))
def cndK (G : zG) (J : zJ) (tx : Nat → Nat) (off n e : Nat) : Prop := ∀ (I : zI) (p s dp : Nat), dp + e = 6 → rdI I n p (s + off) → txk I tx n → zK G mX1_readCondition (5 + 2 * e) [.ref 5, .int (nI dp)] zsh I J (rdR off I J n (s + off) (pCnd tx n e p s))
set_option maxRecDepth 100000 in
set_option maxHeartbeats 4000000 in
theorem lp_cnd {G : zG} {I : zI} {J : zJ} {off n s e dp : Nat} {tx : Nat → Nat} (hx : txk I tx n) (hdp : dp + e = 6) (hP : pceK G J tx off n e) : ∀ k i p j t acc (Ic : zI), i + k = 240 → j ≤ acc.length → t ≤ acc.length → rdS off I Ic n (s + off) p acc → V G mX1_readCondition (5 + 2 * e) (rdR off I J n (s + off) (pCndL tx n (pPce tx n e) k p s j t acc)) 7 [(0, .ref 5), (1, .int (nI dp)), (2, .int (skI (s + off) j)), (3, .int (skI (s + off) t)), (4, .int (nI i))] [] (0, 0) zsh Ic J := by
  intro k
  induction k with
  | zero =>
    intro i p j t acc Ic hk hj ht hc
    refine V_iload dX1_readCondition_7 rfl ?_
    refine V_sipush (v := nI 240) dX1_readCondition_9 rfl ?_
    refine V_icmp_geN (tgt := 130) dX1_readCondition_12 rfl (by omega) (by omega) (fun _ => ?_) (fun h => absurd h (by omega))
    refine V_aload_n dX1_readCondition_130 rfl ?_
    refine V_iconst (v := nI 1) dX1_readCondition_131 rfl ?_
    refine V_callV (As := [.int (nI 1)]) (st := []) (a := 5) dX1_readCondition_132 kX1_refuse lX1_65 (by omega) rfl rfl (Nat.le_of_ble_eq_true rfl) ⟨Nat.le_of_ble_eq_true rfl, Nat.le_of_ble_eq_true rfl⟩ ⟨Nat.le_of_ble_eq_true rfl, Nat.le_of_ble_eq_true rfl⟩ rfl ⟨rfl, by decide⟩ (c_refuse1 (rdS_i hc)) ?_
    rintro r sh' I' J' ⟨rfl, rfl, rfl, rfl⟩
    exact V_iret ⟨Or.inr ⟨rfl, Or.inl rfl⟩, dX1_readCondition_135⟩ ⟨Nat.le_of_ble_eq_true rfl, Nat.le_of_ble_eq_true rfl⟩ (rdR_no (fc := 1) (q := p) (g := []) rfl (by decide) (rdF_t hc.1 rdF_no) zwr_54)
  | succ k ih =>
    intro i p j t acc Ic hk hj ht hc
    refine V_iload dX1_readCondition_7 rfl ?_
    refine V_sipush (v := nI 240) dX1_readCondition_9 rfl ?_
    refine V_icmp_geN (tgt := 130) dX1_readCondition_12 rfl (by omega) (by omega) (fun h => absurd h (by omega)) (fun _ => ?_)
    refine V_aload_n dX1_readCondition_15 rfl ?_
    refine V_iload_n dX1_readCondition_16 rfl ?_
    obtain ⟨fc, q, g, hr⟩ : ∃ fc q g, pPce tx n e p (s + acc.length) = (fc, q, g) := ex3 _
    have hci : rdI Ic n p (s + acc.length + off) := by rw [show s + acc.length + off = s + off + acc.length by omega]; exact rdS_i hc
    by_cases hfc : fc = 0
    · skip
      subst hfc
      refine V_callV (As := [.int (nI dp)]) (st := []) (a := 5) dX1_readCondition_17 kX1_readPiece lX1_88 (by omega) rfl rfl (Nat.le_of_ble_eq_true rfl) ⟨Nat.le_of_ble_eq_true rfl, Nat.le_of_ble_eq_true rfl⟩ ⟨Nat.le_of_ble_eq_true rfl, Nat.le_of_ble_eq_true rfl⟩ rfl ⟨rfl, by decide⟩ (zK_rdY (hP Ic p (s + acc.length) dp hdp hci (rdS_x hc hx)) hr) ?_
      rintro r sh' I1 J' ⟨rfl, rfl, hB, rfl⟩
      rw [show s + acc.length + off = s + off + acc.length by omega] at hB
      have hc1 := rdS_t hc hB
      have hl0 : acc.length ≤ (acc ++ g).length := by rw [List.length_append]; omega
      generalize hG0 : acc ++ g = G0 at hc1 hl0
      refine V_if_ne (tgt := 25) dX1_readCondition_20 rfl (fun _ => ?_) (fun h => absurd h (by decide))
      refine V_aload_n dX1_readCondition_25 rfl ?_
      refine V_getR (b := 6) dX1_readCondition_26 fX1_12 ⟨Nat.le_of_ble_eq_true rfl, Nat.le_of_ble_eq_true rfl⟩ rfl rfl rfl ?_
      refine V_iload_n dX1_readCondition_29 rfl ?_
      refine V_iconst (v := nI 3) dX1_readCondition_30 rfl ?_
      refine V_aload_n dX1_readCondition_31 rfl ?_
      refine V_getR (b := 6) dX1_readCondition_32 fX1_12 ⟨Nat.le_of_ble_eq_true rfl, Nat.le_of_ble_eq_true rfl⟩ rfl rfl rfl ?_
      refine V_getI dX1_readCondition_35 fX1_71 ⟨Nat.le_of_ble_eq_true rfl, Nat.le_of_ble_eq_true rfl⟩ rfl rfl ?_
      refine V_eqI (y := nI (min (s + off + G0.length) 240)) (rdS_i hc1).2.2.2.2 ?_
      refine V_callS (As := [.int (nI 3), .int (nI (min (s + off + G0.length) 240))]) (st := [.int (skI (s + off) j), .ref 6]) dX1_readCondition_38 kX8_step lX1_91 (by omega) rfl rfl (Nat.le_of_ble_eq_true rfl) ⟨Nat.le_of_ble_eq_true rfl, Nat.le_of_ble_eq_true rfl⟩ (c_step8 (by decide) (by omega)) ?_
      rintro _ _ _ _ ⟨rfl, rfl, rfl, rfl⟩
      refine V_callV (As := [.int (skI (s + off) j), .int (nI (1048576 * 3 + min (s + off + G0.length) 240))]) (st := []) (a := 6) dX1_readCondition_41 kX8_put lX1_81 (by omega) rfl rfl (Nat.le_of_ble_eq_true rfl) ⟨Nat.le_of_ble_eq_true rfl, Nat.le_of_ble_eq_true rfl⟩ ⟨Nat.le_of_ble_eq_true rfl, Nat.le_of_ble_eq_true rfl⟩ rfl ⟨rfl, by decide⟩ (c_patch hc1 (by omega) (by decide)) ?_
      rintro r sh' I2 J' ⟨rfl, rfl, hc2, rfl⟩
      have hl1 : (lset G0 j (3, s + G0.length)).length = G0.length := lset_len
      generalize hG1 : lset G0 j (3, s + G0.length) = G1 at hc2 hl1
      refine V_iconst (v := (-1)) dX1_readCondition_44 rfl ?_
      refine V_istore_n (ls' := [(2, .int (-1)), (0, .ref 5), (1, .int (nI dp)), (3, .int (skI (s + off) t)), (4, .int (nI i))]) dX1_readCondition_45 (by decide) rfl ?_
      refine V_aload_n dX1_readCondition_46 rfl ?_
      refine V_callV (As := []) (st := []) (a := 5) dX1_readCondition_47 kX1_next lX1_61 (by omega) rfl rfl (Nat.le_of_ble_eq_true rfl) ⟨Nat.le_of_ble_eq_true rfl, Nat.le_of_ble_eq_true rfl⟩ ⟨Nat.le_of_ble_eq_true rfl, Nat.le_of_ble_eq_true rfl⟩ rfl ⟨rfl, by decide⟩ (c_next1 (rdS_i hc2) (rdS_x hc2 hx)) ?_
      rintro _ _ _ _ ⟨rfl, rfl, rfl, rfl⟩
      refine V_istore (ls' := [(5, .int (nxI (sgn tx n q))), (2, .int (-1)), (0, .ref 5), (1, .int (nI dp)), (3, .int (skI (s + off) t)), (4, .int (nI i))]) dX1_readCondition_50 (by decide) rfl ?_
      refine V_iload dX1_readCondition_52 rfl ?_
      refine V_bipush (v := nI 38) dX1_readCondition_54 rfl ?_
      refine V_icmp_neX (tgt := 70) dX1_readCondition_56 rfl (txk_le hx _) (by decide) (fun h56 => ?_) (fun h56 => ?_)
      · skip
        refine V_aload_n dX1_readCondition_70 rfl ?_
        refine V_getR (b := 6) dX1_readCondition_71 fX1_12 ⟨Nat.le_of_ble_eq_true rfl, Nat.le_of_ble_eq_true rfl⟩ rfl rfl rfl ?_
        refine V_iload_n dX1_readCondition_74 rfl ?_
        refine V_iconst (v := nI 4) dX1_readCondition_75 rfl ?_
        refine V_aload_n dX1_readCondition_76 rfl ?_
        refine V_getR (b := 6) dX1_readCondition_77 fX1_12 ⟨Nat.le_of_ble_eq_true rfl, Nat.le_of_ble_eq_true rfl⟩ rfl rfl rfl ?_
        refine V_getI dX1_readCondition_80 fX1_71 ⟨Nat.le_of_ble_eq_true rfl, Nat.le_of_ble_eq_true rfl⟩ rfl rfl ?_
        refine V_eqI (y := nI (min (s + off + G1.length) 240)) (rdS_i hc2).2.2.2.2 ?_
        refine V_callS (As := [.int (nI 4), .int (nI (min (s + off + G1.length) 240))]) (st := [.int (skI (s + off) t), .ref 6]) dX1_readCondition_83 kX8_step lX1_91 (by omega) rfl rfl (Nat.le_of_ble_eq_true rfl) ⟨Nat.le_of_ble_eq_true rfl, Nat.le_of_ble_eq_true rfl⟩ (c_step8 (by decide) (by omega)) ?_
        rintro _ _ _ _ ⟨rfl, rfl, rfl, rfl⟩
        refine V_callV (As := [.int (skI (s + off) t), .int (nI (1048576 * 4 + min (s + off + G1.length) 240))]) (st := []) (a := 6) dX1_readCondition_86 kX8_put lX1_81 (by omega) rfl rfl (Nat.le_of_ble_eq_true rfl) ⟨Nat.le_of_ble_eq_true rfl, Nat.le_of_ble_eq_true rfl⟩ ⟨Nat.le_of_ble_eq_true rfl, Nat.le_of_ble_eq_true rfl⟩ rfl ⟨rfl, by decide⟩ (c_patch hc2 (by omega) (by decide)) ?_
        rintro r sh' I3 J' ⟨rfl, rfl, hc3, rfl⟩
        have hl2 : (lset G1 t (4, s + G1.length)).length = G1.length := lset_len
        generalize hG2 : lset G1 t (4, s + G1.length) = G2 at hc3 hl2
        refine V_iload dX1_readCondition_89 rfl ?_
        refine V_bipush (v := nI 124) dX1_readCondition_91 rfl ?_
        refine V_icmp_eqX (tgt := 98) dX1_readCondition_93 rfl (txk_le hx _) (by decide) (fun h93 => ?_) (fun h93 => ?_)
        · skip
          refine V_aload_n dX1_readCondition_98 rfl ?_
          refine V_getR (b := 6) dX1_readCondition_99 fX1_12 ⟨Nat.le_of_ble_eq_true rfl, Nat.le_of_ble_eq_true rfl⟩ rfl rfl rfl ?_
          refine V_getI dX1_readCondition_102 fX1_71 ⟨Nat.le_of_ble_eq_true rfl, Nat.le_of_ble_eq_true rfl⟩ rfl rfl ?_
          refine V_eqI (y := nI (min (s + off + G2.length) 240)) (rdS_i hc3).2.2.2.2 ?_
          refine V_istore_n (ls' := [(3, .int (nI (min (s + off + G2.length) 240))), (5, .int (nxI (sgn tx n q))), (2, .int (-1)), (0, .ref 5), (1, .int (nI dp)), (4, .int (nI i))]) dX1_readCondition_105 (by decide) rfl ?_
          refine V_aload_n dX1_readCondition_106 rfl ?_
          refine V_getR (b := 6) dX1_readCondition_107 fX1_12 ⟨Nat.le_of_ble_eq_true rfl, Nat.le_of_ble_eq_true rfl⟩ rfl rfl rfl ?_
          refine V_iconst (v := nI 0) dX1_readCondition_110 rfl ?_
          refine V_callV (As := [.int (nI 0)]) (st := []) (a := 6) dX1_readCondition_111 kX8_add lX1_74 (by omega) rfl rfl (Nat.le_of_ble_eq_true rfl) ⟨Nat.le_of_ble_eq_true rfl, Nat.le_of_ble_eq_true rfl⟩ ⟨Nat.le_of_ble_eq_true rfl, Nat.le_of_ble_eq_true rfl⟩ rfl ⟨rfl, by decide⟩ (c_add8 (rdS_i hc3).2.2.2.2) ?_
          rintro r sh' I' J' ⟨rfl, rfl, rfl, rfl⟩
          have hc4 := rdS_t hc3 (rdS_add (off := off) (c := (0, 0)) (rdS_i hc3))
          rw [enc_lo (by decide)] at hc4
          refine V_aload_n dX1_readCondition_114 rfl ?_
          refine V_dup dX1_readCondition_115 rfl ?_
          refine V_getI dX1_readCondition_116 fX1_41 ⟨Nat.le_of_ble_eq_true rfl, Nat.le_of_ble_eq_true rfl⟩ rfl rfl ?_
          refine V_eqI (y := nI q) (rdS_i hc4).2.2.1 ?_
          refine V_iconst (v := nI 1) dX1_readCondition_119 rfl ?_
          refine V_iaddN dX1_readCondition_120 ?_
          refine V_putW dX1_readCondition_121 fX1_41 ⟨Nat.le_of_ble_eq_true rfl, Nat.le_of_ble_eq_true rfl⟩ rfl rfl rfl ⟨rfl, rfl⟩ ?_
          refine V_iincN (ls' := [(4, .int (nI (i + 1))), (3, .int (nI (min (s + off + G2.length) 240))), (5, .int (nxI (sgn tx n q))), (2, .int (-1)), (0, .ref 5), (1, .int (nI dp))]) (n := 1) dX1_readCondition_124 rfl rfl (by decide) (by decide) rfl ?_
          refine V_goto (tgt := 7) dX1_readCondition_127 rfl ?_
          have hq := sgn_ltn (tx := tx) (n := n) (p := q) (by omega)
          refine V_sub2 (ls' := [(0, .ref 5), (1, .int (nI dp)), (2, .int (skI (s + off) 0)), (3, .int (skI (s + off) (G0.length + 1))), (4, .int (nI (i + 1)))]) (List.forall_mem_cons.mpr ⟨rfl, List.forall_mem_cons.mpr ⟨rfl, List.forall_mem_cons.mpr ⟨(congrArg (fun z => some (Value.int z)) skI_0.symm), List.forall_mem_cons.mpr ⟨(congrArg (fun z => some (Value.int z)) (by rw [skI_s, hl2, hl1])), List.forall_mem_cons.mpr ⟨rfl, fun _ h => absurd h List.not_mem_nil⟩⟩⟩⟩⟩) ?_
          have e9 : (pCndL tx n (pPce tx n e) (k + 1) p s j t acc) = pCndL tx n (pPce tx n e) k (q + 1) s 0 (G0.length + 1) (G2 ++ [(0, 0)]) := by
            conv => lhs; unfold pCndL
            rw [hr]
            show (if _ then _ else if sgn tx n q = 38 then pCndL tx n (pPce tx n e) k (q + 1) s ((acc ++ g).length + 1) t (lset (acc ++ g) j (3, s + (acc ++ g).length) ++ [(0, 0)]) else if sgn tx n q = 124 then pCndL tx n (pPce tx n e) k (q + 1) s 0 ((acc ++ g).length + 1) (lset (lset (acc ++ g) j (3, s + (acc ++ g).length)) t (4, s + (lset (acc ++ g) j (3, s + (acc ++ g).length)).length) ++ [(0, 0)]) else _) = _
            rw [hG0, hG1, hG2]
            exact (if_neg (fun h => h rfl)).trans ((if_neg h56).trans (if_pos h93))
          rw [e9]
          exact ih (i + 1) (q + 1) 0 (G0.length + 1) (G2 ++ [(0, 0)]) _ (by omega) (by rw [List.length_append]; show _ ≤ _ + 1; omega) (by rw [List.length_append]; show _ ≤ _ + 1; omega) (rdS_n hc4 hq)
        · skip
          refine V_iconst (v := nI 1) dX1_readCondition_96 rfl ?_
          exact V_iret ⟨Or.inr ⟨rfl, Or.inr rfl⟩, dX1_readCondition_97⟩ ⟨Nat.le_of_ble_eq_true rfl, Nat.le_of_ble_eq_true rfl⟩ (rdR_ok (q := q) (g := G2) (by conv => { lhs; unfold pCndL }; rw [hr]; show (if _ then _ else if sgn tx n q = 38 then _ else if sgn tx n q = 124 then _ else (0, q, lset (lset (acc ++ g) j (3, s + (acc ++ g).length)) t (4, s + (lset (acc ++ g) j (3, s + (acc ++ g).length)).length))) = _; rw [hG0, hG1, hG2]; exact (if_neg (fun h => h rfl)).trans ((if_neg h56).trans (if_neg h93))) hc3)
      · skip
        refine V_aload_n dX1_readCondition_59 rfl ?_
        refine V_getR (b := 6) dX1_readCondition_60 fX1_12 ⟨Nat.le_of_ble_eq_true rfl, Nat.le_of_ble_eq_true rfl⟩ rfl rfl rfl ?_
        refine V_getI dX1_readCondition_63 fX1_71 ⟨Nat.le_of_ble_eq_true rfl, Nat.le_of_ble_eq_true rfl⟩ rfl rfl ?_
        refine V_eqI (y := nI (min (s + off + G1.length) 240)) (rdS_i hc2).2.2.2.2 ?_
        refine V_istore_n (ls' := [(2, .int (nI (min (s + off + G1.length) 240))), (5, .int (nxI (sgn tx n q))), (0, .ref 5), (1, .int (nI dp)), (3, .int (skI (s + off) t)), (4, .int (nI i))]) dX1_readCondition_66 (by decide) rfl ?_
        refine V_goto (tgt := 106) dX1_readCondition_67 rfl ?_
        refine V_aload_n dX1_readCondition_106 rfl ?_
        refine V_getR (b := 6) dX1_readCondition_107 fX1_12 ⟨Nat.le_of_ble_eq_true rfl, Nat.le_of_ble_eq_true rfl⟩ rfl rfl rfl ?_
        refine V_iconst (v := nI 0) dX1_readCondition_110 rfl ?_
        refine V_callV (As := [.int (nI 0)]) (st := []) (a := 6) dX1_readCondition_111 kX8_add lX1_74 (by omega) rfl rfl (Nat.le_of_ble_eq_true rfl) ⟨Nat.le_of_ble_eq_true rfl, Nat.le_of_ble_eq_true rfl⟩ ⟨Nat.le_of_ble_eq_true rfl, Nat.le_of_ble_eq_true rfl⟩ rfl ⟨rfl, by decide⟩ (c_add8 (rdS_i hc2).2.2.2.2) ?_
        rintro r sh' I' J' ⟨rfl, rfl, rfl, rfl⟩
        have hc4 := rdS_t hc2 (rdS_add (off := off) (c := (0, 0)) (rdS_i hc2))
        rw [enc_lo (by decide)] at hc4
        refine V_aload_n dX1_readCondition_114 rfl ?_
        refine V_dup dX1_readCondition_115 rfl ?_
        refine V_getI dX1_readCondition_116 fX1_41 ⟨Nat.le_of_ble_eq_true rfl, Nat.le_of_ble_eq_true rfl⟩ rfl rfl ?_
        refine V_eqI (y := nI q) (rdS_i hc4).2.2.1 ?_
        refine V_iconst (v := nI 1) dX1_readCondition_119 rfl ?_
        refine V_iaddN dX1_readCondition_120 ?_
        refine V_putW dX1_readCondition_121 fX1_41 ⟨Nat.le_of_ble_eq_true rfl, Nat.le_of_ble_eq_true rfl⟩ rfl rfl rfl ⟨rfl, rfl⟩ ?_
        refine V_iincN (ls' := [(4, .int (nI (i + 1))), (2, .int (nI (min (s + off + G1.length) 240))), (5, .int (nxI (sgn tx n q))), (0, .ref 5), (1, .int (nI dp)), (3, .int (skI (s + off) t))]) (n := 1) dX1_readCondition_124 rfl rfl (by decide) (by decide) rfl ?_
        refine V_goto (tgt := 7) dX1_readCondition_127 rfl ?_
        have hq := sgn_ltn (tx := tx) (n := n) (p := q) (by omega)
        refine V_sub2 (ls' := [(0, .ref 5), (1, .int (nI dp)), (2, .int (skI (s + off) (G0.length + 1))), (3, .int (skI (s + off) t)), (4, .int (nI (i + 1)))]) (List.forall_mem_cons.mpr ⟨rfl, List.forall_mem_cons.mpr ⟨rfl, List.forall_mem_cons.mpr ⟨(congrArg (fun z => some (Value.int z)) (by rw [skI_s, hl1])), List.forall_mem_cons.mpr ⟨rfl, List.forall_mem_cons.mpr ⟨rfl, fun _ h => absurd h List.not_mem_nil⟩⟩⟩⟩⟩) ?_
        have e9 : (pCndL tx n (pPce tx n e) (k + 1) p s j t acc) = pCndL tx n (pPce tx n e) k (q + 1) s (G0.length + 1) t (G1 ++ [(0, 0)]) := by
          conv => lhs; unfold pCndL
          rw [hr]
          show (if _ then _ else if sgn tx n q = 38 then pCndL tx n (pPce tx n e) k (q + 1) s ((acc ++ g).length + 1) t (lset (acc ++ g) j (3, s + (acc ++ g).length) ++ [(0, 0)]) else if sgn tx n q = 124 then pCndL tx n (pPce tx n e) k (q + 1) s 0 ((acc ++ g).length + 1) (lset (lset (acc ++ g) j (3, s + (acc ++ g).length)) t (4, s + (lset (acc ++ g) j (3, s + (acc ++ g).length)).length) ++ [(0, 0)]) else _) = _
          rw [hG0, hG1]
          exact (if_neg (fun h => h rfl)).trans (if_pos h56)
        rw [e9]
        exact ih (i + 1) (q + 1) (G0.length + 1) t (G1 ++ [(0, 0)]) _ (by omega) (by rw [List.length_append]; show _ ≤ _ + 1; omega) (by rw [List.length_append]; show _ ≤ _ + 1; omega) (rdS_n hc4 hq)
    · skip
      refine V_callV (As := [.int (nI dp)]) (st := []) (a := 5) dX1_readCondition_17 kX1_readPiece lX1_88 (by omega) rfl rfl (Nat.le_of_ble_eq_true rfl) ⟨Nat.le_of_ble_eq_true rfl, Nat.le_of_ble_eq_true rfl⟩ ⟨Nat.le_of_ble_eq_true rfl, Nat.le_of_ble_eq_true rfl⟩ rfl ⟨rfl, by decide⟩ (zK_rdN (hP Ic p (s + acc.length) dp hdp hci (rdS_x hc hx)) hr hfc) ?_
      rintro r sh' I1 J' ⟨rfl, rfl, hN, h4, rfl⟩
      refine V_if_ne (tgt := 25) dX1_readCondition_20 rfl (fun h => absurd h (by decide)) (fun _ => ?_)
      refine V_iconst (v := nI 0) dX1_readCondition_23 rfl ?_
      exact V_iret ⟨Or.inr ⟨rfl, Or.inl rfl⟩, dX1_readCondition_24⟩ ⟨Nat.le_of_ble_eq_true rfl, Nat.le_of_ble_eq_true rfl⟩ (rdR_no (q := q) (g := []) (by conv => { lhs; unfold pCndL }; rw [hr]; exact if_pos hfc) hfc (rdF_t hc.1 hN) h4)

set_option maxRecDepth 100000 in
set_option maxHeartbeats 4000000 in
theorem c_cndF {G : zG} {I : zI} {J : zJ} {off n p s e dp : Nat} {tx : Nat → Nat} (h : rdI I n p (s + off)) (hx : txk I tx n) (hdp : dp + e = 6) (hP : pceK G J tx off n e) : zK G mX1_readCondition (5 + 2 * e) [.ref 5, .int (nI dp)] zsh I J (rdR off I J n (s + off) (pCnd tx n e p s)) := by
  refine zK_of kX1_readCondition.2.2.2.2.1 (Nat.le_of_ble_eq_true rfl) ?_
  show V G mX1_readCondition (5 + 2 * e) _ 0 [(0, .ref 5), (1, .int (nI dp))] [] (0, 0) zsh I J
  refine V_iconst (v := (-1)) dX1_readCondition_0 rfl ?_
  refine V_istore_n (ls' := [(2, .int (-1)), (0, .ref 5), (1, .int (nI dp))]) dX1_readCondition_1 (by decide) rfl ?_
  refine V_iconst (v := (-1)) dX1_readCondition_2 rfl ?_
  refine V_istore_n (ls' := [(3, .int (-1)), (2, .int (-1)), (0, .ref 5), (1, .int (nI dp))]) dX1_readCondition_3 (by decide) rfl ?_
  refine V_iconst (v := nI 0) dX1_readCondition_4 rfl ?_
  refine V_istore (ls' := [(4, .int (nI 0)), (3, .int (-1)), (2, .int (-1)), (0, .ref 5), (1, .int (nI dp))]) dX1_readCondition_5 (by decide) rfl ?_
  refine V_sub2 (ls' := [(0, .ref 5), (1, .int (nI dp)), (2, .int (skI (s + off) 0)), (3, .int (skI (s + off) 0)), (4, .int (nI 0))]) (List.forall_mem_cons.mpr ⟨rfl, List.forall_mem_cons.mpr ⟨rfl, List.forall_mem_cons.mpr ⟨(congrArg (fun z => some (Value.int z)) skI_0.symm), List.forall_mem_cons.mpr ⟨(congrArg (fun z => some (Value.int z)) skI_0.symm), List.forall_mem_cons.mpr ⟨rfl, fun _ h => absurd h List.not_mem_nil⟩⟩⟩⟩⟩) ?_
  unfold pCnd
  exact lp_cnd hx hdp hP 240 0 p 0 0 [] I rfl (Nat.le_refl _) (Nat.le_refl _) (rdS_r h)

set_option maxRecDepth 100000 in
set_option maxHeartbeats 4000000 in
theorem c_piece0 {G : zG} {I : zI} {J : zJ} {off n p s : Nat} {tx : Nat → Nat} (h : rdI I n p (s + off)) (hx : txk I tx n) : zK G mX1_readPiece (4 + 2 * 0) [.ref 5, .int (nI 6)] zsh I J (rdR off I J n (s + off) (pPce tx n 0 p s)) := by
  refine zK_of kX1_readPiece.2.2.2.2.1 (Nat.le_of_ble_eq_true rfl) ?_
  show V G mX1_readPiece (4 + 2 * 0) _ 0 [(0, .ref 5), (1, .int (nI 6))] [] (0, 0) zsh I J
  have hn9 := h.2.1
  have hp9 := h.2.2.2.1
  refine V_aload_n dX1_readPiece_0 rfl ?_
  refine V_callV (As := []) (st := []) (a := 5) dX1_readPiece_1 kX1_next lX1_61 (by omega) rfl rfl (Nat.le_of_ble_eq_true rfl) ⟨Nat.le_of_ble_eq_true rfl, Nat.le_of_ble_eq_true rfl⟩ ⟨Nat.le_of_ble_eq_true rfl, Nat.le_of_ble_eq_true rfl⟩ rfl ⟨rfl, by decide⟩ (c_next1 h hx) ?_
  rintro _ _ _ _ ⟨rfl, rfl, rfl, rfl⟩
  refine V_istore_n (ls' := [(2, .int (nxI (sgn tx n p))), (0, .ref 5), (1, .int (nI 6))]) dX1_readPiece_4 (by decide) rfl ?_
  refine V_iload_n dX1_readPiece_5 rfl ?_
  refine V_bipush (v := nI 33) dX1_readPiece_6 rfl ?_
  refine V_icmp_neX (tgt := 45) dX1_readPiece_8 rfl (txk_le hx _) (by decide) (fun h8 => ?_) (fun h8 => ?_)
  · skip
    refine V_iload_n dX1_readPiece_45 rfl ?_
    refine V_bipush (v := nI 40) dX1_readPiece_46 rfl ?_
    refine V_icmp_neX (tgt := 84) dX1_readPiece_48 rfl (txk_le hx _) (by decide) (fun h48 => ?_) (fun h48 => ?_)
    · skip
      refine V_aload_n dX1_readPiece_84 rfl ?_
      refine V_iload_n dX1_readPiece_85 rfl ?_
      obtain ⟨fc, q, g, hr⟩ : ∃ fc q g, pSum tx n 0 p = (fc, q, g) := ex3 _
      by_cases hfc : fc = 0
      · skip
        subst hfc
        refine V_callV (As := [.int (nI 6)]) (st := []) (a := 5) dX1_readPiece_86 kX1_readSum lX1_78 (by omega) rfl rfl (Nat.le_of_ble_eq_true rfl) ⟨Nat.le_of_ble_eq_true rfl, Nat.le_of_ble_eq_true rfl⟩ ⟨Nat.le_of_ble_eq_true rfl, Nat.le_of_ble_eq_true rfl⟩ rfl ⟨rfl, by decide⟩ (zK_rdY (c_sum (off := off) 0 I p (s + off) 6 (by omega) h hx) hr) ?_
        rintro r sh' I1 J' ⟨rfl, rfl, hc, rfl⟩
        refine V_if_ne (tgt := 94) dX1_readPiece_89 rfl (fun _ => ?_) (fun h => absurd h (by decide))
        refine V_aload_n dX1_readPiece_94 rfl ?_
        refine V_callV (As := []) (st := []) (a := 5) dX1_readPiece_95 kX1_next lX1_61 (by omega) rfl rfl (Nat.le_of_ble_eq_true rfl) ⟨Nat.le_of_ble_eq_true rfl, Nat.le_of_ble_eq_true rfl⟩ ⟨Nat.le_of_ble_eq_true rfl, Nat.le_of_ble_eq_true rfl⟩ rfl ⟨rfl, by decide⟩ (c_next1 (rdS_i hc) (rdS_x hc hx)) ?_
        rintro _ _ _ _ ⟨rfl, rfl, rfl, rfl⟩
        refine V_istore_n (ls' := [(3, .int (nxI (sgn tx n q))), (2, .int (nxI (sgn tx n p))), (0, .ref 5), (1, .int (nI 6))]) dX1_readPiece_98 (by decide) rfl ?_
        refine V_iload_n dX1_readPiece_99 rfl ?_
        refine V_bipush (v := nI 60) dX1_readPiece_100 rfl ?_
        refine V_icmp_eqX (tgt := 123) dX1_readPiece_102 rfl (txk_le hx _) (by decide) (fun h102 => ?_) (fun h102 => ?_)
        · skip
          have hcs : sgn tx n q = 60 ∨ sgn tx n q = 62 ∨ sgn tx n q = 61 := by omega
          have hq := sgn_ltn (tx := tx) (n := n) (p := q) (by omega)
          refine V_aload_n dX1_readPiece_123 rfl ?_
          refine V_dup dX1_readPiece_124 rfl ?_
          refine V_getI dX1_readPiece_125 fX1_41 ⟨Nat.le_of_ble_eq_true rfl, Nat.le_of_ble_eq_true rfl⟩ rfl rfl ?_
          refine V_eqI (y := nI q) (rdS_i hc).2.2.1 ?_
          refine V_iconst (v := nI 1) dX1_readPiece_128 rfl ?_
          refine V_iaddN dX1_readPiece_129 ?_
          refine V_putW dX1_readPiece_130 fX1_41 ⟨Nat.le_of_ble_eq_true rfl, Nat.le_of_ble_eq_true rfl⟩ rfl rfl rfl ⟨rfl, rfl⟩ ?_
          refine V_aload_n dX1_readPiece_133 rfl ?_
          refine V_iload_n dX1_readPiece_134 rfl ?_
          have hc1 := rdS_n hc hq
          obtain ⟨fc2, q2, g2, hr2⟩ : ∃ fc q2 g, pSum tx n 0 (q + 1) = (fc, q2, g) := ex3 _
          by_cases hfc2 : fc2 = 0
          · skip
            subst hfc2
            refine V_callV (As := [.int (nI 6)]) (st := []) (a := 5) dX1_readPiece_135 kX1_readSum lX1_78 (by omega) rfl rfl (Nat.le_of_ble_eq_true rfl) ⟨Nat.le_of_ble_eq_true rfl, Nat.le_of_ble_eq_true rfl⟩ ⟨Nat.le_of_ble_eq_true rfl, Nat.le_of_ble_eq_true rfl⟩ rfl ⟨rfl, by decide⟩ (zK_rdY (c_sum (off := off) 0 (zwr I1 5 3 (nI (q + 1))) (q + 1) (s + off + g.length) 6 (by omega) (rdS_i hc1) (rdS_x hc1 hx)) hr2) ?_
            rintro r sh' I2 J' ⟨rfl, rfl, hB, rfl⟩
            have hc2 := rdS_t hc1 hB
            refine V_if_ne (tgt := 143) dX1_readPiece_138 rfl (fun _ => ?_) (fun h => absurd h (by decide))
            refine V_aload_n dX1_readPiece_143 rfl ?_
            refine V_getR (b := 6) dX1_readPiece_144 fX1_12 ⟨Nat.le_of_ble_eq_true rfl, Nat.le_of_ble_eq_true rfl⟩ rfl rfl rfl ?_
            refine V_iconst (v := nI 2) dX1_readPiece_147 rfl ?_
            refine V_iload_n dX1_readPiece_148 rfl ?_
            refine V_eqI (y := nI (sgn tx n q)) (nxI_c (by omega)) ?_
            refine V_callS (As := [.int (nI 2), .int (nI (sgn tx n q))]) (st := [.ref 6]) dX1_readPiece_149 kX8_step lX1_91 (by omega) rfl rfl (Nat.le_of_ble_eq_true rfl) ⟨Nat.le_of_ble_eq_true rfl, Nat.le_of_ble_eq_true rfl⟩ (c_step8 (by decide) (by omega)) ?_
            rintro _ _ _ _ ⟨rfl, rfl, rfl, rfl⟩
            refine V_callV (As := [.int (nI (1048576 * 2 + sgn tx n q))]) (st := []) (a := 6) dX1_readPiece_152 kX8_add lX1_74 (by omega) rfl rfl (Nat.le_of_ble_eq_true rfl) ⟨Nat.le_of_ble_eq_true rfl, Nat.le_of_ble_eq_true rfl⟩ ⟨Nat.le_of_ble_eq_true rfl, Nat.le_of_ble_eq_true rfl⟩ rfl ⟨rfl, by decide⟩ (c_add8 (rdS_i hc2).2.2.2.2) ?_
            rintro r sh' I' J' ⟨rfl, rfl, rfl, rfl⟩
            refine V_iconst (v := nI 1) dX1_readPiece_155 rfl ?_
            exact V_iret ⟨Or.inr ⟨rfl, Or.inr rfl⟩, dX1_readPiece_156⟩ ⟨Nat.le_of_ble_eq_true rfl, Nat.le_of_ble_eq_true rfl⟩ (rdR_ok (q := q2) (g := g ++ g2 ++ [(2, sgn tx n q)]) (by rw [pPce_c0 h8 h48]; unfold pCmp; rw [hr]; refine (if_neg (fun h => h rfl)).trans ((if_neg (fun h => h hcs)).trans ?_); show (if (pSum tx n _ (q + 1)).1 ≠ 0 then _ else (0, (pSum tx n _ (q + 1)).2.1, g ++ (pSum tx n _ (q + 1)).2.2 ++ [(2, sgn tx n q)])) = _; rw [hr2]; exact if_neg (fun h => h rfl)) (by have e := rdS_t hc2 (rdS_add (off := off) (c := (2, sgn tx n q)) (rdS_i hc2)); rw [enc_lo (by decide)] at e; exact e))
          · skip
            refine V_callV (As := [.int (nI 6)]) (st := []) (a := 5) dX1_readPiece_135 kX1_readSum lX1_78 (by omega) rfl rfl (Nat.le_of_ble_eq_true rfl) ⟨Nat.le_of_ble_eq_true rfl, Nat.le_of_ble_eq_true rfl⟩ ⟨Nat.le_of_ble_eq_true rfl, Nat.le_of_ble_eq_true rfl⟩ rfl ⟨rfl, by decide⟩ (zK_rdN (c_sum (off := off) 0 (zwr I1 5 3 (nI (q + 1))) (q + 1) (s + off + g.length) 6 (by omega) (rdS_i hc1) (rdS_x hc1 hx)) hr2 hfc2) ?_
            rintro r sh' I2 J' ⟨rfl, rfl, hN, h4, rfl⟩
            refine V_if_ne (tgt := 143) dX1_readPiece_138 rfl (fun h => absurd h (by decide)) (fun _ => ?_)
            refine V_iconst (v := nI 0) dX1_readPiece_141 rfl ?_
            exact V_iret ⟨Or.inr ⟨rfl, Or.inl rfl⟩, dX1_readPiece_142⟩ ⟨Nat.le_of_ble_eq_true rfl, Nat.le_of_ble_eq_true rfl⟩ (rdR_no (fc := fc2) (q := q2) (g := []) (by rw [pPce_c0 h8 h48]; unfold pCmp; rw [hr]; refine (if_neg (fun h => h rfl)).trans ((if_neg (fun h => h hcs)).trans ?_); show (if (pSum tx n _ (q + 1)).1 ≠ 0 then _ else _) = _; rw [hr2]; exact if_pos hfc2) hfc2 (rdF_t hc1.1 hN) h4)
        · skip
          refine V_iload_n dX1_readPiece_105 rfl ?_
          refine V_bipush (v := nI 62) dX1_readPiece_106 rfl ?_
          refine V_icmp_eqX (tgt := 123) dX1_readPiece_108 rfl (txk_le hx _) (by decide) (fun h108 => ?_) (fun h108 => ?_)
          · skip
            have hcs : sgn tx n q = 60 ∨ sgn tx n q = 62 ∨ sgn tx n q = 61 := by omega
            have hq := sgn_ltn (tx := tx) (n := n) (p := q) (by omega)
            refine V_aload_n dX1_readPiece_123 rfl ?_
            refine V_dup dX1_readPiece_124 rfl ?_
            refine V_getI dX1_readPiece_125 fX1_41 ⟨Nat.le_of_ble_eq_true rfl, Nat.le_of_ble_eq_true rfl⟩ rfl rfl ?_
            refine V_eqI (y := nI q) (rdS_i hc).2.2.1 ?_
            refine V_iconst (v := nI 1) dX1_readPiece_128 rfl ?_
            refine V_iaddN dX1_readPiece_129 ?_
            refine V_putW dX1_readPiece_130 fX1_41 ⟨Nat.le_of_ble_eq_true rfl, Nat.le_of_ble_eq_true rfl⟩ rfl rfl rfl ⟨rfl, rfl⟩ ?_
            refine V_aload_n dX1_readPiece_133 rfl ?_
            refine V_iload_n dX1_readPiece_134 rfl ?_
            have hc1 := rdS_n hc hq
            obtain ⟨fc2, q2, g2, hr2⟩ : ∃ fc q2 g, pSum tx n 0 (q + 1) = (fc, q2, g) := ex3 _
            by_cases hfc2 : fc2 = 0
            · skip
              subst hfc2
              refine V_callV (As := [.int (nI 6)]) (st := []) (a := 5) dX1_readPiece_135 kX1_readSum lX1_78 (by omega) rfl rfl (Nat.le_of_ble_eq_true rfl) ⟨Nat.le_of_ble_eq_true rfl, Nat.le_of_ble_eq_true rfl⟩ ⟨Nat.le_of_ble_eq_true rfl, Nat.le_of_ble_eq_true rfl⟩ rfl ⟨rfl, by decide⟩ (zK_rdY (c_sum (off := off) 0 (zwr I1 5 3 (nI (q + 1))) (q + 1) (s + off + g.length) 6 (by omega) (rdS_i hc1) (rdS_x hc1 hx)) hr2) ?_
              rintro r sh' I2 J' ⟨rfl, rfl, hB, rfl⟩
              have hc2 := rdS_t hc1 hB
              refine V_if_ne (tgt := 143) dX1_readPiece_138 rfl (fun _ => ?_) (fun h => absurd h (by decide))
              refine V_aload_n dX1_readPiece_143 rfl ?_
              refine V_getR (b := 6) dX1_readPiece_144 fX1_12 ⟨Nat.le_of_ble_eq_true rfl, Nat.le_of_ble_eq_true rfl⟩ rfl rfl rfl ?_
              refine V_iconst (v := nI 2) dX1_readPiece_147 rfl ?_
              refine V_iload_n dX1_readPiece_148 rfl ?_
              refine V_eqI (y := nI (sgn tx n q)) (nxI_c (by omega)) ?_
              refine V_callS (As := [.int (nI 2), .int (nI (sgn tx n q))]) (st := [.ref 6]) dX1_readPiece_149 kX8_step lX1_91 (by omega) rfl rfl (Nat.le_of_ble_eq_true rfl) ⟨Nat.le_of_ble_eq_true rfl, Nat.le_of_ble_eq_true rfl⟩ (c_step8 (by decide) (by omega)) ?_
              rintro _ _ _ _ ⟨rfl, rfl, rfl, rfl⟩
              refine V_callV (As := [.int (nI (1048576 * 2 + sgn tx n q))]) (st := []) (a := 6) dX1_readPiece_152 kX8_add lX1_74 (by omega) rfl rfl (Nat.le_of_ble_eq_true rfl) ⟨Nat.le_of_ble_eq_true rfl, Nat.le_of_ble_eq_true rfl⟩ ⟨Nat.le_of_ble_eq_true rfl, Nat.le_of_ble_eq_true rfl⟩ rfl ⟨rfl, by decide⟩ (c_add8 (rdS_i hc2).2.2.2.2) ?_
              rintro r sh' I' J' ⟨rfl, rfl, rfl, rfl⟩
              refine V_iconst (v := nI 1) dX1_readPiece_155 rfl ?_
              exact V_iret ⟨Or.inr ⟨rfl, Or.inr rfl⟩, dX1_readPiece_156⟩ ⟨Nat.le_of_ble_eq_true rfl, Nat.le_of_ble_eq_true rfl⟩ (rdR_ok (q := q2) (g := g ++ g2 ++ [(2, sgn tx n q)]) (by rw [pPce_c0 h8 h48]; unfold pCmp; rw [hr]; refine (if_neg (fun h => h rfl)).trans ((if_neg (fun h => h hcs)).trans ?_); show (if (pSum tx n _ (q + 1)).1 ≠ 0 then _ else (0, (pSum tx n _ (q + 1)).2.1, g ++ (pSum tx n _ (q + 1)).2.2 ++ [(2, sgn tx n q)])) = _; rw [hr2]; exact if_neg (fun h => h rfl)) (by have e := rdS_t hc2 (rdS_add (off := off) (c := (2, sgn tx n q)) (rdS_i hc2)); rw [enc_lo (by decide)] at e; exact e))
            · skip
              refine V_callV (As := [.int (nI 6)]) (st := []) (a := 5) dX1_readPiece_135 kX1_readSum lX1_78 (by omega) rfl rfl (Nat.le_of_ble_eq_true rfl) ⟨Nat.le_of_ble_eq_true rfl, Nat.le_of_ble_eq_true rfl⟩ ⟨Nat.le_of_ble_eq_true rfl, Nat.le_of_ble_eq_true rfl⟩ rfl ⟨rfl, by decide⟩ (zK_rdN (c_sum (off := off) 0 (zwr I1 5 3 (nI (q + 1))) (q + 1) (s + off + g.length) 6 (by omega) (rdS_i hc1) (rdS_x hc1 hx)) hr2 hfc2) ?_
              rintro r sh' I2 J' ⟨rfl, rfl, hN, h4, rfl⟩
              refine V_if_ne (tgt := 143) dX1_readPiece_138 rfl (fun h => absurd h (by decide)) (fun _ => ?_)
              refine V_iconst (v := nI 0) dX1_readPiece_141 rfl ?_
              exact V_iret ⟨Or.inr ⟨rfl, Or.inl rfl⟩, dX1_readPiece_142⟩ ⟨Nat.le_of_ble_eq_true rfl, Nat.le_of_ble_eq_true rfl⟩ (rdR_no (fc := fc2) (q := q2) (g := []) (by rw [pPce_c0 h8 h48]; unfold pCmp; rw [hr]; refine (if_neg (fun h => h rfl)).trans ((if_neg (fun h => h hcs)).trans ?_); show (if (pSum tx n _ (q + 1)).1 ≠ 0 then _ else _) = _; rw [hr2]; exact if_pos hfc2) hfc2 (rdF_t hc1.1 hN) h4)
          · skip
            refine V_iload_n dX1_readPiece_111 rfl ?_
            refine V_bipush (v := nI 61) dX1_readPiece_112 rfl ?_
            refine V_icmp_eqX (tgt := 123) dX1_readPiece_114 rfl (txk_le hx _) (by decide) (fun h114 => ?_) (fun h114 => ?_)
            · skip
              have hcs : sgn tx n q = 60 ∨ sgn tx n q = 62 ∨ sgn tx n q = 61 := by omega
              have hq := sgn_ltn (tx := tx) (n := n) (p := q) (by omega)
              refine V_aload_n dX1_readPiece_123 rfl ?_
              refine V_dup dX1_readPiece_124 rfl ?_
              refine V_getI dX1_readPiece_125 fX1_41 ⟨Nat.le_of_ble_eq_true rfl, Nat.le_of_ble_eq_true rfl⟩ rfl rfl ?_
              refine V_eqI (y := nI q) (rdS_i hc).2.2.1 ?_
              refine V_iconst (v := nI 1) dX1_readPiece_128 rfl ?_
              refine V_iaddN dX1_readPiece_129 ?_
              refine V_putW dX1_readPiece_130 fX1_41 ⟨Nat.le_of_ble_eq_true rfl, Nat.le_of_ble_eq_true rfl⟩ rfl rfl rfl ⟨rfl, rfl⟩ ?_
              refine V_aload_n dX1_readPiece_133 rfl ?_
              refine V_iload_n dX1_readPiece_134 rfl ?_
              have hc1 := rdS_n hc hq
              obtain ⟨fc2, q2, g2, hr2⟩ : ∃ fc q2 g, pSum tx n 0 (q + 1) = (fc, q2, g) := ex3 _
              by_cases hfc2 : fc2 = 0
              · skip
                subst hfc2
                refine V_callV (As := [.int (nI 6)]) (st := []) (a := 5) dX1_readPiece_135 kX1_readSum lX1_78 (by omega) rfl rfl (Nat.le_of_ble_eq_true rfl) ⟨Nat.le_of_ble_eq_true rfl, Nat.le_of_ble_eq_true rfl⟩ ⟨Nat.le_of_ble_eq_true rfl, Nat.le_of_ble_eq_true rfl⟩ rfl ⟨rfl, by decide⟩ (zK_rdY (c_sum (off := off) 0 (zwr I1 5 3 (nI (q + 1))) (q + 1) (s + off + g.length) 6 (by omega) (rdS_i hc1) (rdS_x hc1 hx)) hr2) ?_
                rintro r sh' I2 J' ⟨rfl, rfl, hB, rfl⟩
                have hc2 := rdS_t hc1 hB
                refine V_if_ne (tgt := 143) dX1_readPiece_138 rfl (fun _ => ?_) (fun h => absurd h (by decide))
                refine V_aload_n dX1_readPiece_143 rfl ?_
                refine V_getR (b := 6) dX1_readPiece_144 fX1_12 ⟨Nat.le_of_ble_eq_true rfl, Nat.le_of_ble_eq_true rfl⟩ rfl rfl rfl ?_
                refine V_iconst (v := nI 2) dX1_readPiece_147 rfl ?_
                refine V_iload_n dX1_readPiece_148 rfl ?_
                refine V_eqI (y := nI (sgn tx n q)) (nxI_c (by omega)) ?_
                refine V_callS (As := [.int (nI 2), .int (nI (sgn tx n q))]) (st := [.ref 6]) dX1_readPiece_149 kX8_step lX1_91 (by omega) rfl rfl (Nat.le_of_ble_eq_true rfl) ⟨Nat.le_of_ble_eq_true rfl, Nat.le_of_ble_eq_true rfl⟩ (c_step8 (by decide) (by omega)) ?_
                rintro _ _ _ _ ⟨rfl, rfl, rfl, rfl⟩
                refine V_callV (As := [.int (nI (1048576 * 2 + sgn tx n q))]) (st := []) (a := 6) dX1_readPiece_152 kX8_add lX1_74 (by omega) rfl rfl (Nat.le_of_ble_eq_true rfl) ⟨Nat.le_of_ble_eq_true rfl, Nat.le_of_ble_eq_true rfl⟩ ⟨Nat.le_of_ble_eq_true rfl, Nat.le_of_ble_eq_true rfl⟩ rfl ⟨rfl, by decide⟩ (c_add8 (rdS_i hc2).2.2.2.2) ?_
                rintro r sh' I' J' ⟨rfl, rfl, rfl, rfl⟩
                refine V_iconst (v := nI 1) dX1_readPiece_155 rfl ?_
                exact V_iret ⟨Or.inr ⟨rfl, Or.inr rfl⟩, dX1_readPiece_156⟩ ⟨Nat.le_of_ble_eq_true rfl, Nat.le_of_ble_eq_true rfl⟩ (rdR_ok (q := q2) (g := g ++ g2 ++ [(2, sgn tx n q)]) (by rw [pPce_c0 h8 h48]; unfold pCmp; rw [hr]; refine (if_neg (fun h => h rfl)).trans ((if_neg (fun h => h hcs)).trans ?_); show (if (pSum tx n _ (q + 1)).1 ≠ 0 then _ else (0, (pSum tx n _ (q + 1)).2.1, g ++ (pSum tx n _ (q + 1)).2.2 ++ [(2, sgn tx n q)])) = _; rw [hr2]; exact if_neg (fun h => h rfl)) (by have e := rdS_t hc2 (rdS_add (off := off) (c := (2, sgn tx n q)) (rdS_i hc2)); rw [enc_lo (by decide)] at e; exact e))
              · skip
                refine V_callV (As := [.int (nI 6)]) (st := []) (a := 5) dX1_readPiece_135 kX1_readSum lX1_78 (by omega) rfl rfl (Nat.le_of_ble_eq_true rfl) ⟨Nat.le_of_ble_eq_true rfl, Nat.le_of_ble_eq_true rfl⟩ ⟨Nat.le_of_ble_eq_true rfl, Nat.le_of_ble_eq_true rfl⟩ rfl ⟨rfl, by decide⟩ (zK_rdN (c_sum (off := off) 0 (zwr I1 5 3 (nI (q + 1))) (q + 1) (s + off + g.length) 6 (by omega) (rdS_i hc1) (rdS_x hc1 hx)) hr2 hfc2) ?_
                rintro r sh' I2 J' ⟨rfl, rfl, hN, h4, rfl⟩
                refine V_if_ne (tgt := 143) dX1_readPiece_138 rfl (fun h => absurd h (by decide)) (fun _ => ?_)
                refine V_iconst (v := nI 0) dX1_readPiece_141 rfl ?_
                exact V_iret ⟨Or.inr ⟨rfl, Or.inl rfl⟩, dX1_readPiece_142⟩ ⟨Nat.le_of_ble_eq_true rfl, Nat.le_of_ble_eq_true rfl⟩ (rdR_no (fc := fc2) (q := q2) (g := []) (by rw [pPce_c0 h8 h48]; unfold pCmp; rw [hr]; refine (if_neg (fun h => h rfl)).trans ((if_neg (fun h => h hcs)).trans ?_); show (if (pSum tx n _ (q + 1)).1 ≠ 0 then _ else _) = _; rw [hr2]; exact if_pos hfc2) hfc2 (rdF_t hc1.1 hN) h4)
            · skip
              refine V_aload_n dX1_readPiece_117 rfl ?_
              refine V_iconst (v := nI 1) dX1_readPiece_118 rfl ?_
              refine V_callV (As := [.int (nI 1)]) (st := []) (a := 5) dX1_readPiece_119 kX1_refuse lX1_65 (by omega) rfl rfl (Nat.le_of_ble_eq_true rfl) ⟨Nat.le_of_ble_eq_true rfl, Nat.le_of_ble_eq_true rfl⟩ ⟨Nat.le_of_ble_eq_true rfl, Nat.le_of_ble_eq_true rfl⟩ rfl ⟨rfl, by decide⟩ (c_refuse1 (rdS_i hc)) ?_
              rintro r sh' I' J' ⟨rfl, rfl, rfl, rfl⟩
              exact V_iret ⟨Or.inr ⟨rfl, Or.inl rfl⟩, dX1_readPiece_122⟩ ⟨Nat.le_of_ble_eq_true rfl, Nat.le_of_ble_eq_true rfl⟩ (rdR_no (fc := 1) (q := q) (g := []) (by rw [pPce_c0 h8 h48]; unfold pCmp; rw [hr]; exact (if_neg (fun h => h rfl)).trans (if_pos (by show ¬ (sgn tx n q = 60 ∨ sgn tx n q = 62 ∨ sgn tx n q = 61); omega))) (by decide) (rdF_t hc.1 rdF_no) zwr_54)
      · skip
        refine V_callV (As := [.int (nI 6)]) (st := []) (a := 5) dX1_readPiece_86 kX1_readSum lX1_78 (by omega) rfl rfl (Nat.le_of_ble_eq_true rfl) ⟨Nat.le_of_ble_eq_true rfl, Nat.le_of_ble_eq_true rfl⟩ ⟨Nat.le_of_ble_eq_true rfl, Nat.le_of_ble_eq_true rfl⟩ rfl ⟨rfl, by decide⟩ (zK_rdN (c_sum (off := off) 0 I p (s + off) 6 (by omega) h hx) hr hfc) ?_
        rintro r sh' I1 J' ⟨rfl, rfl, hN, h4, rfl⟩
        refine V_if_ne (tgt := 94) dX1_readPiece_89 rfl (fun h => absurd h (by decide)) (fun _ => ?_)
        refine V_iconst (v := nI 0) dX1_readPiece_92 rfl ?_
        exact V_iret ⟨Or.inr ⟨rfl, Or.inl rfl⟩, dX1_readPiece_93⟩ ⟨Nat.le_of_ble_eq_true rfl, Nat.le_of_ble_eq_true rfl⟩ (rdR_no (fc := fc) (q := q) (g := []) (by rw [pPce_c0 h8 h48]; unfold pCmp; rw [hr]; exact if_pos hfc) hfc hN h4)
    · skip
      refine V_aload_n dX1_readPiece_51 rfl ?_
      refine V_iload_n dX1_readPiece_52 rfl ?_
      refine V_callV (As := [.int (nI 6)]) (st := []) (a := 5) dX1_readPiece_53 kX1_open lX1_94 (by omega) rfl rfl (Nat.le_of_ble_eq_true rfl) ⟨Nat.le_of_ble_eq_true rfl, Nat.le_of_ble_eq_true rfl⟩ ⟨Nat.le_of_ble_eq_true rfl, Nat.le_of_ble_eq_true rfl⟩ rfl ⟨rfl, by decide⟩ (c_open1n h (by omega) (by omega)) ?_
      rintro r sh' I' J' ⟨rfl, rfl, rfl, rfl⟩
      refine V_if_eq (tgt := 82) dX1_readPiece_56 rfl (fun _ => ?_) (fun h => absurd h (by decide))
      refine V_iconst (v := nI 0) dX1_readPiece_82 rfl ?_
      exact V_iret ⟨Or.inr ⟨rfl, Or.inl rfl⟩, dX1_readPiece_83⟩ ⟨Nat.le_of_ble_eq_true rfl, Nat.le_of_ble_eq_true rfl⟩ (rdR_no (fc := 5) (q := p) (g := []) (by exact pPce_o0 h8 h48) (by decide) rdF_no zwr_54)
  · skip
    refine V_aload_n dX1_readPiece_11 rfl ?_
    refine V_iload_n dX1_readPiece_12 rfl ?_
    refine V_callV (As := [.int (nI 6)]) (st := []) (a := 5) dX1_readPiece_13 kX1_open lX1_94 (by omega) rfl rfl (Nat.le_of_ble_eq_true rfl) ⟨Nat.le_of_ble_eq_true rfl, Nat.le_of_ble_eq_true rfl⟩ ⟨Nat.le_of_ble_eq_true rfl, Nat.le_of_ble_eq_true rfl⟩ rfl ⟨rfl, by decide⟩ (c_open1n h (by omega) (by omega)) ?_
    rintro r sh' I' J' ⟨rfl, rfl, rfl, rfl⟩
    refine V_if_eq (tgt := 29) dX1_readPiece_16 rfl (fun _ => ?_) (fun h => absurd h (by decide))
    refine V_iconst (v := nI 0) dX1_readPiece_29 rfl ?_
    exact V_iret ⟨Or.inr ⟨rfl, Or.inl rfl⟩, dX1_readPiece_30⟩ ⟨Nat.le_of_ble_eq_true rfl, Nat.le_of_ble_eq_true rfl⟩ (rdR_no (fc := 5) (q := p) (g := []) (by exact pPce_n0 h8) (by decide) rdF_no zwr_54)

set_option maxRecDepth 100000 in
set_option maxHeartbeats 4000000 in
theorem c_pieceS {G : zG} {I : zI} {J : zJ} {off n p s : Nat} {tx : Nat → Nat} (h : rdI I n p (s + off)) (hx : txk I tx n) {e dp : Nat} (hdp : dp + (e + 1) = 6) (hP : pceK G J tx off n e) (hC : cndK G J tx off n e) : zK G mX1_readPiece (4 + 2 * (e + 1)) [.ref 5, .int (nI dp)] zsh I J (rdR off I J n (s + off) (pPce tx n (e + 1) p s)) := by
  refine zK_of kX1_readPiece.2.2.2.2.1 (Nat.le_of_ble_eq_true rfl) ?_
  show V G mX1_readPiece (4 + 2 * (e + 1)) _ 0 [(0, .ref 5), (1, .int (nI dp))] [] (0, 0) zsh I J
  have hn9 := h.2.1
  have hp9 := h.2.2.2.1
  refine V_aload_n dX1_readPiece_0 rfl ?_
  refine V_callV (As := []) (st := []) (a := 5) dX1_readPiece_1 kX1_next lX1_61 (by omega) rfl rfl (Nat.le_of_ble_eq_true rfl) ⟨Nat.le_of_ble_eq_true rfl, Nat.le_of_ble_eq_true rfl⟩ ⟨Nat.le_of_ble_eq_true rfl, Nat.le_of_ble_eq_true rfl⟩ rfl ⟨rfl, by decide⟩ (c_next1 h hx) ?_
  rintro _ _ _ _ ⟨rfl, rfl, rfl, rfl⟩
  refine V_istore_n (ls' := [(2, .int (nxI (sgn tx n p))), (0, .ref 5), (1, .int (nI dp))]) dX1_readPiece_4 (by decide) rfl ?_
  refine V_iload_n dX1_readPiece_5 rfl ?_
  refine V_bipush (v := nI 33) dX1_readPiece_6 rfl ?_
  refine V_icmp_neX (tgt := 45) dX1_readPiece_8 rfl (txk_le hx _) (by decide) (fun h8 => ?_) (fun h8 => ?_)
  · skip
    refine V_iload_n dX1_readPiece_45 rfl ?_
    refine V_bipush (v := nI 40) dX1_readPiece_46 rfl ?_
    refine V_icmp_neX (tgt := 84) dX1_readPiece_48 rfl (txk_le hx _) (by decide) (fun h48 => ?_) (fun h48 => ?_)
    · skip
      refine V_aload_n dX1_readPiece_84 rfl ?_
      refine V_iload_n dX1_readPiece_85 rfl ?_
      obtain ⟨fc, q, g, hr⟩ : ∃ fc q g, pSum tx n (e + 1) p = (fc, q, g) := ex3 _
      by_cases hfc : fc = 0
      · skip
        subst hfc
        refine V_callV (As := [.int (nI dp)]) (st := []) (a := 5) dX1_readPiece_86 kX1_readSum lX1_78 (by omega) rfl rfl (Nat.le_of_ble_eq_true rfl) ⟨Nat.le_of_ble_eq_true rfl, Nat.le_of_ble_eq_true rfl⟩ ⟨Nat.le_of_ble_eq_true rfl, Nat.le_of_ble_eq_true rfl⟩ rfl ⟨rfl, by decide⟩ (zK_rdY (c_sum (off := off) (e + 1) I p (s + off) dp (by omega) h hx) hr) ?_
        rintro r sh' I1 J' ⟨rfl, rfl, hc, rfl⟩
        refine V_if_ne (tgt := 94) dX1_readPiece_89 rfl (fun _ => ?_) (fun h => absurd h (by decide))
        refine V_aload_n dX1_readPiece_94 rfl ?_
        refine V_callV (As := []) (st := []) (a := 5) dX1_readPiece_95 kX1_next lX1_61 (by omega) rfl rfl (Nat.le_of_ble_eq_true rfl) ⟨Nat.le_of_ble_eq_true rfl, Nat.le_of_ble_eq_true rfl⟩ ⟨Nat.le_of_ble_eq_true rfl, Nat.le_of_ble_eq_true rfl⟩ rfl ⟨rfl, by decide⟩ (c_next1 (rdS_i hc) (rdS_x hc hx)) ?_
        rintro _ _ _ _ ⟨rfl, rfl, rfl, rfl⟩
        refine V_istore_n (ls' := [(3, .int (nxI (sgn tx n q))), (2, .int (nxI (sgn tx n p))), (0, .ref 5), (1, .int (nI dp))]) dX1_readPiece_98 (by decide) rfl ?_
        refine V_iload_n dX1_readPiece_99 rfl ?_
        refine V_bipush (v := nI 60) dX1_readPiece_100 rfl ?_
        refine V_icmp_eqX (tgt := 123) dX1_readPiece_102 rfl (txk_le hx _) (by decide) (fun h102 => ?_) (fun h102 => ?_)
        · skip
          have hcs : sgn tx n q = 60 ∨ sgn tx n q = 62 ∨ sgn tx n q = 61 := by omega
          have hq := sgn_ltn (tx := tx) (n := n) (p := q) (by omega)
          refine V_aload_n dX1_readPiece_123 rfl ?_
          refine V_dup dX1_readPiece_124 rfl ?_
          refine V_getI dX1_readPiece_125 fX1_41 ⟨Nat.le_of_ble_eq_true rfl, Nat.le_of_ble_eq_true rfl⟩ rfl rfl ?_
          refine V_eqI (y := nI q) (rdS_i hc).2.2.1 ?_
          refine V_iconst (v := nI 1) dX1_readPiece_128 rfl ?_
          refine V_iaddN dX1_readPiece_129 ?_
          refine V_putW dX1_readPiece_130 fX1_41 ⟨Nat.le_of_ble_eq_true rfl, Nat.le_of_ble_eq_true rfl⟩ rfl rfl rfl ⟨rfl, rfl⟩ ?_
          refine V_aload_n dX1_readPiece_133 rfl ?_
          refine V_iload_n dX1_readPiece_134 rfl ?_
          have hc1 := rdS_n hc hq
          obtain ⟨fc2, q2, g2, hr2⟩ : ∃ fc q2 g, pSum tx n (e + 1) (q + 1) = (fc, q2, g) := ex3 _
          by_cases hfc2 : fc2 = 0
          · skip
            subst hfc2
            refine V_callV (As := [.int (nI dp)]) (st := []) (a := 5) dX1_readPiece_135 kX1_readSum lX1_78 (by omega) rfl rfl (Nat.le_of_ble_eq_true rfl) ⟨Nat.le_of_ble_eq_true rfl, Nat.le_of_ble_eq_true rfl⟩ ⟨Nat.le_of_ble_eq_true rfl, Nat.le_of_ble_eq_true rfl⟩ rfl ⟨rfl, by decide⟩ (zK_rdY (c_sum (off := off) (e + 1) (zwr I1 5 3 (nI (q + 1))) (q + 1) (s + off + g.length) dp (by omega) (rdS_i hc1) (rdS_x hc1 hx)) hr2) ?_
            rintro r sh' I2 J' ⟨rfl, rfl, hB, rfl⟩
            have hc2 := rdS_t hc1 hB
            refine V_if_ne (tgt := 143) dX1_readPiece_138 rfl (fun _ => ?_) (fun h => absurd h (by decide))
            refine V_aload_n dX1_readPiece_143 rfl ?_
            refine V_getR (b := 6) dX1_readPiece_144 fX1_12 ⟨Nat.le_of_ble_eq_true rfl, Nat.le_of_ble_eq_true rfl⟩ rfl rfl rfl ?_
            refine V_iconst (v := nI 2) dX1_readPiece_147 rfl ?_
            refine V_iload_n dX1_readPiece_148 rfl ?_
            refine V_eqI (y := nI (sgn tx n q)) (nxI_c (by omega)) ?_
            refine V_callS (As := [.int (nI 2), .int (nI (sgn tx n q))]) (st := [.ref 6]) dX1_readPiece_149 kX8_step lX1_91 (by omega) rfl rfl (Nat.le_of_ble_eq_true rfl) ⟨Nat.le_of_ble_eq_true rfl, Nat.le_of_ble_eq_true rfl⟩ (c_step8 (by decide) (by omega)) ?_
            rintro _ _ _ _ ⟨rfl, rfl, rfl, rfl⟩
            refine V_callV (As := [.int (nI (1048576 * 2 + sgn tx n q))]) (st := []) (a := 6) dX1_readPiece_152 kX8_add lX1_74 (by omega) rfl rfl (Nat.le_of_ble_eq_true rfl) ⟨Nat.le_of_ble_eq_true rfl, Nat.le_of_ble_eq_true rfl⟩ ⟨Nat.le_of_ble_eq_true rfl, Nat.le_of_ble_eq_true rfl⟩ rfl ⟨rfl, by decide⟩ (c_add8 (rdS_i hc2).2.2.2.2) ?_
            rintro r sh' I' J' ⟨rfl, rfl, rfl, rfl⟩
            refine V_iconst (v := nI 1) dX1_readPiece_155 rfl ?_
            exact V_iret ⟨Or.inr ⟨rfl, Or.inr rfl⟩, dX1_readPiece_156⟩ ⟨Nat.le_of_ble_eq_true rfl, Nat.le_of_ble_eq_true rfl⟩ (rdR_ok (q := q2) (g := g ++ g2 ++ [(2, sgn tx n q)]) (by rw [pPce_cS h8 h48]; unfold pCmp; rw [hr]; refine (if_neg (fun h => h rfl)).trans ((if_neg (fun h => h hcs)).trans ?_); show (if (pSum tx n _ (q + 1)).1 ≠ 0 then _ else (0, (pSum tx n _ (q + 1)).2.1, g ++ (pSum tx n _ (q + 1)).2.2 ++ [(2, sgn tx n q)])) = _; rw [hr2]; exact if_neg (fun h => h rfl)) (by have e := rdS_t hc2 (rdS_add (off := off) (c := (2, sgn tx n q)) (rdS_i hc2)); rw [enc_lo (by decide)] at e; exact e))
          · skip
            refine V_callV (As := [.int (nI dp)]) (st := []) (a := 5) dX1_readPiece_135 kX1_readSum lX1_78 (by omega) rfl rfl (Nat.le_of_ble_eq_true rfl) ⟨Nat.le_of_ble_eq_true rfl, Nat.le_of_ble_eq_true rfl⟩ ⟨Nat.le_of_ble_eq_true rfl, Nat.le_of_ble_eq_true rfl⟩ rfl ⟨rfl, by decide⟩ (zK_rdN (c_sum (off := off) (e + 1) (zwr I1 5 3 (nI (q + 1))) (q + 1) (s + off + g.length) dp (by omega) (rdS_i hc1) (rdS_x hc1 hx)) hr2 hfc2) ?_
            rintro r sh' I2 J' ⟨rfl, rfl, hN, h4, rfl⟩
            refine V_if_ne (tgt := 143) dX1_readPiece_138 rfl (fun h => absurd h (by decide)) (fun _ => ?_)
            refine V_iconst (v := nI 0) dX1_readPiece_141 rfl ?_
            exact V_iret ⟨Or.inr ⟨rfl, Or.inl rfl⟩, dX1_readPiece_142⟩ ⟨Nat.le_of_ble_eq_true rfl, Nat.le_of_ble_eq_true rfl⟩ (rdR_no (fc := fc2) (q := q2) (g := []) (by rw [pPce_cS h8 h48]; unfold pCmp; rw [hr]; refine (if_neg (fun h => h rfl)).trans ((if_neg (fun h => h hcs)).trans ?_); show (if (pSum tx n _ (q + 1)).1 ≠ 0 then _ else _) = _; rw [hr2]; exact if_pos hfc2) hfc2 (rdF_t hc1.1 hN) h4)
        · skip
          refine V_iload_n dX1_readPiece_105 rfl ?_
          refine V_bipush (v := nI 62) dX1_readPiece_106 rfl ?_
          refine V_icmp_eqX (tgt := 123) dX1_readPiece_108 rfl (txk_le hx _) (by decide) (fun h108 => ?_) (fun h108 => ?_)
          · skip
            have hcs : sgn tx n q = 60 ∨ sgn tx n q = 62 ∨ sgn tx n q = 61 := by omega
            have hq := sgn_ltn (tx := tx) (n := n) (p := q) (by omega)
            refine V_aload_n dX1_readPiece_123 rfl ?_
            refine V_dup dX1_readPiece_124 rfl ?_
            refine V_getI dX1_readPiece_125 fX1_41 ⟨Nat.le_of_ble_eq_true rfl, Nat.le_of_ble_eq_true rfl⟩ rfl rfl ?_
            refine V_eqI (y := nI q) (rdS_i hc).2.2.1 ?_
            refine V_iconst (v := nI 1) dX1_readPiece_128 rfl ?_
            refine V_iaddN dX1_readPiece_129 ?_
            refine V_putW dX1_readPiece_130 fX1_41 ⟨Nat.le_of_ble_eq_true rfl, Nat.le_of_ble_eq_true rfl⟩ rfl rfl rfl ⟨rfl, rfl⟩ ?_
            refine V_aload_n dX1_readPiece_133 rfl ?_
            refine V_iload_n dX1_readPiece_134 rfl ?_
            have hc1 := rdS_n hc hq
            obtain ⟨fc2, q2, g2, hr2⟩ : ∃ fc q2 g, pSum tx n (e + 1) (q + 1) = (fc, q2, g) := ex3 _
            by_cases hfc2 : fc2 = 0
            · skip
              subst hfc2
              refine V_callV (As := [.int (nI dp)]) (st := []) (a := 5) dX1_readPiece_135 kX1_readSum lX1_78 (by omega) rfl rfl (Nat.le_of_ble_eq_true rfl) ⟨Nat.le_of_ble_eq_true rfl, Nat.le_of_ble_eq_true rfl⟩ ⟨Nat.le_of_ble_eq_true rfl, Nat.le_of_ble_eq_true rfl⟩ rfl ⟨rfl, by decide⟩ (zK_rdY (c_sum (off := off) (e + 1) (zwr I1 5 3 (nI (q + 1))) (q + 1) (s + off + g.length) dp (by omega) (rdS_i hc1) (rdS_x hc1 hx)) hr2) ?_
              rintro r sh' I2 J' ⟨rfl, rfl, hB, rfl⟩
              have hc2 := rdS_t hc1 hB
              refine V_if_ne (tgt := 143) dX1_readPiece_138 rfl (fun _ => ?_) (fun h => absurd h (by decide))
              refine V_aload_n dX1_readPiece_143 rfl ?_
              refine V_getR (b := 6) dX1_readPiece_144 fX1_12 ⟨Nat.le_of_ble_eq_true rfl, Nat.le_of_ble_eq_true rfl⟩ rfl rfl rfl ?_
              refine V_iconst (v := nI 2) dX1_readPiece_147 rfl ?_
              refine V_iload_n dX1_readPiece_148 rfl ?_
              refine V_eqI (y := nI (sgn tx n q)) (nxI_c (by omega)) ?_
              refine V_callS (As := [.int (nI 2), .int (nI (sgn tx n q))]) (st := [.ref 6]) dX1_readPiece_149 kX8_step lX1_91 (by omega) rfl rfl (Nat.le_of_ble_eq_true rfl) ⟨Nat.le_of_ble_eq_true rfl, Nat.le_of_ble_eq_true rfl⟩ (c_step8 (by decide) (by omega)) ?_
              rintro _ _ _ _ ⟨rfl, rfl, rfl, rfl⟩
              refine V_callV (As := [.int (nI (1048576 * 2 + sgn tx n q))]) (st := []) (a := 6) dX1_readPiece_152 kX8_add lX1_74 (by omega) rfl rfl (Nat.le_of_ble_eq_true rfl) ⟨Nat.le_of_ble_eq_true rfl, Nat.le_of_ble_eq_true rfl⟩ ⟨Nat.le_of_ble_eq_true rfl, Nat.le_of_ble_eq_true rfl⟩ rfl ⟨rfl, by decide⟩ (c_add8 (rdS_i hc2).2.2.2.2) ?_
              rintro r sh' I' J' ⟨rfl, rfl, rfl, rfl⟩
              refine V_iconst (v := nI 1) dX1_readPiece_155 rfl ?_
              exact V_iret ⟨Or.inr ⟨rfl, Or.inr rfl⟩, dX1_readPiece_156⟩ ⟨Nat.le_of_ble_eq_true rfl, Nat.le_of_ble_eq_true rfl⟩ (rdR_ok (q := q2) (g := g ++ g2 ++ [(2, sgn tx n q)]) (by rw [pPce_cS h8 h48]; unfold pCmp; rw [hr]; refine (if_neg (fun h => h rfl)).trans ((if_neg (fun h => h hcs)).trans ?_); show (if (pSum tx n _ (q + 1)).1 ≠ 0 then _ else (0, (pSum tx n _ (q + 1)).2.1, g ++ (pSum tx n _ (q + 1)).2.2 ++ [(2, sgn tx n q)])) = _; rw [hr2]; exact if_neg (fun h => h rfl)) (by have e := rdS_t hc2 (rdS_add (off := off) (c := (2, sgn tx n q)) (rdS_i hc2)); rw [enc_lo (by decide)] at e; exact e))
            · skip
              refine V_callV (As := [.int (nI dp)]) (st := []) (a := 5) dX1_readPiece_135 kX1_readSum lX1_78 (by omega) rfl rfl (Nat.le_of_ble_eq_true rfl) ⟨Nat.le_of_ble_eq_true rfl, Nat.le_of_ble_eq_true rfl⟩ ⟨Nat.le_of_ble_eq_true rfl, Nat.le_of_ble_eq_true rfl⟩ rfl ⟨rfl, by decide⟩ (zK_rdN (c_sum (off := off) (e + 1) (zwr I1 5 3 (nI (q + 1))) (q + 1) (s + off + g.length) dp (by omega) (rdS_i hc1) (rdS_x hc1 hx)) hr2 hfc2) ?_
              rintro r sh' I2 J' ⟨rfl, rfl, hN, h4, rfl⟩
              refine V_if_ne (tgt := 143) dX1_readPiece_138 rfl (fun h => absurd h (by decide)) (fun _ => ?_)
              refine V_iconst (v := nI 0) dX1_readPiece_141 rfl ?_
              exact V_iret ⟨Or.inr ⟨rfl, Or.inl rfl⟩, dX1_readPiece_142⟩ ⟨Nat.le_of_ble_eq_true rfl, Nat.le_of_ble_eq_true rfl⟩ (rdR_no (fc := fc2) (q := q2) (g := []) (by rw [pPce_cS h8 h48]; unfold pCmp; rw [hr]; refine (if_neg (fun h => h rfl)).trans ((if_neg (fun h => h hcs)).trans ?_); show (if (pSum tx n _ (q + 1)).1 ≠ 0 then _ else _) = _; rw [hr2]; exact if_pos hfc2) hfc2 (rdF_t hc1.1 hN) h4)
          · skip
            refine V_iload_n dX1_readPiece_111 rfl ?_
            refine V_bipush (v := nI 61) dX1_readPiece_112 rfl ?_
            refine V_icmp_eqX (tgt := 123) dX1_readPiece_114 rfl (txk_le hx _) (by decide) (fun h114 => ?_) (fun h114 => ?_)
            · skip
              have hcs : sgn tx n q = 60 ∨ sgn tx n q = 62 ∨ sgn tx n q = 61 := by omega
              have hq := sgn_ltn (tx := tx) (n := n) (p := q) (by omega)
              refine V_aload_n dX1_readPiece_123 rfl ?_
              refine V_dup dX1_readPiece_124 rfl ?_
              refine V_getI dX1_readPiece_125 fX1_41 ⟨Nat.le_of_ble_eq_true rfl, Nat.le_of_ble_eq_true rfl⟩ rfl rfl ?_
              refine V_eqI (y := nI q) (rdS_i hc).2.2.1 ?_
              refine V_iconst (v := nI 1) dX1_readPiece_128 rfl ?_
              refine V_iaddN dX1_readPiece_129 ?_
              refine V_putW dX1_readPiece_130 fX1_41 ⟨Nat.le_of_ble_eq_true rfl, Nat.le_of_ble_eq_true rfl⟩ rfl rfl rfl ⟨rfl, rfl⟩ ?_
              refine V_aload_n dX1_readPiece_133 rfl ?_
              refine V_iload_n dX1_readPiece_134 rfl ?_
              have hc1 := rdS_n hc hq
              obtain ⟨fc2, q2, g2, hr2⟩ : ∃ fc q2 g, pSum tx n (e + 1) (q + 1) = (fc, q2, g) := ex3 _
              by_cases hfc2 : fc2 = 0
              · skip
                subst hfc2
                refine V_callV (As := [.int (nI dp)]) (st := []) (a := 5) dX1_readPiece_135 kX1_readSum lX1_78 (by omega) rfl rfl (Nat.le_of_ble_eq_true rfl) ⟨Nat.le_of_ble_eq_true rfl, Nat.le_of_ble_eq_true rfl⟩ ⟨Nat.le_of_ble_eq_true rfl, Nat.le_of_ble_eq_true rfl⟩ rfl ⟨rfl, by decide⟩ (zK_rdY (c_sum (off := off) (e + 1) (zwr I1 5 3 (nI (q + 1))) (q + 1) (s + off + g.length) dp (by omega) (rdS_i hc1) (rdS_x hc1 hx)) hr2) ?_
                rintro r sh' I2 J' ⟨rfl, rfl, hB, rfl⟩
                have hc2 := rdS_t hc1 hB
                refine V_if_ne (tgt := 143) dX1_readPiece_138 rfl (fun _ => ?_) (fun h => absurd h (by decide))
                refine V_aload_n dX1_readPiece_143 rfl ?_
                refine V_getR (b := 6) dX1_readPiece_144 fX1_12 ⟨Nat.le_of_ble_eq_true rfl, Nat.le_of_ble_eq_true rfl⟩ rfl rfl rfl ?_
                refine V_iconst (v := nI 2) dX1_readPiece_147 rfl ?_
                refine V_iload_n dX1_readPiece_148 rfl ?_
                refine V_eqI (y := nI (sgn tx n q)) (nxI_c (by omega)) ?_
                refine V_callS (As := [.int (nI 2), .int (nI (sgn tx n q))]) (st := [.ref 6]) dX1_readPiece_149 kX8_step lX1_91 (by omega) rfl rfl (Nat.le_of_ble_eq_true rfl) ⟨Nat.le_of_ble_eq_true rfl, Nat.le_of_ble_eq_true rfl⟩ (c_step8 (by decide) (by omega)) ?_
                rintro _ _ _ _ ⟨rfl, rfl, rfl, rfl⟩
                refine V_callV (As := [.int (nI (1048576 * 2 + sgn tx n q))]) (st := []) (a := 6) dX1_readPiece_152 kX8_add lX1_74 (by omega) rfl rfl (Nat.le_of_ble_eq_true rfl) ⟨Nat.le_of_ble_eq_true rfl, Nat.le_of_ble_eq_true rfl⟩ ⟨Nat.le_of_ble_eq_true rfl, Nat.le_of_ble_eq_true rfl⟩ rfl ⟨rfl, by decide⟩ (c_add8 (rdS_i hc2).2.2.2.2) ?_
                rintro r sh' I' J' ⟨rfl, rfl, rfl, rfl⟩
                refine V_iconst (v := nI 1) dX1_readPiece_155 rfl ?_
                exact V_iret ⟨Or.inr ⟨rfl, Or.inr rfl⟩, dX1_readPiece_156⟩ ⟨Nat.le_of_ble_eq_true rfl, Nat.le_of_ble_eq_true rfl⟩ (rdR_ok (q := q2) (g := g ++ g2 ++ [(2, sgn tx n q)]) (by rw [pPce_cS h8 h48]; unfold pCmp; rw [hr]; refine (if_neg (fun h => h rfl)).trans ((if_neg (fun h => h hcs)).trans ?_); show (if (pSum tx n _ (q + 1)).1 ≠ 0 then _ else (0, (pSum tx n _ (q + 1)).2.1, g ++ (pSum tx n _ (q + 1)).2.2 ++ [(2, sgn tx n q)])) = _; rw [hr2]; exact if_neg (fun h => h rfl)) (by have e := rdS_t hc2 (rdS_add (off := off) (c := (2, sgn tx n q)) (rdS_i hc2)); rw [enc_lo (by decide)] at e; exact e))
              · skip
                refine V_callV (As := [.int (nI dp)]) (st := []) (a := 5) dX1_readPiece_135 kX1_readSum lX1_78 (by omega) rfl rfl (Nat.le_of_ble_eq_true rfl) ⟨Nat.le_of_ble_eq_true rfl, Nat.le_of_ble_eq_true rfl⟩ ⟨Nat.le_of_ble_eq_true rfl, Nat.le_of_ble_eq_true rfl⟩ rfl ⟨rfl, by decide⟩ (zK_rdN (c_sum (off := off) (e + 1) (zwr I1 5 3 (nI (q + 1))) (q + 1) (s + off + g.length) dp (by omega) (rdS_i hc1) (rdS_x hc1 hx)) hr2 hfc2) ?_
                rintro r sh' I2 J' ⟨rfl, rfl, hN, h4, rfl⟩
                refine V_if_ne (tgt := 143) dX1_readPiece_138 rfl (fun h => absurd h (by decide)) (fun _ => ?_)
                refine V_iconst (v := nI 0) dX1_readPiece_141 rfl ?_
                exact V_iret ⟨Or.inr ⟨rfl, Or.inl rfl⟩, dX1_readPiece_142⟩ ⟨Nat.le_of_ble_eq_true rfl, Nat.le_of_ble_eq_true rfl⟩ (rdR_no (fc := fc2) (q := q2) (g := []) (by rw [pPce_cS h8 h48]; unfold pCmp; rw [hr]; refine (if_neg (fun h => h rfl)).trans ((if_neg (fun h => h hcs)).trans ?_); show (if (pSum tx n _ (q + 1)).1 ≠ 0 then _ else _) = _; rw [hr2]; exact if_pos hfc2) hfc2 (rdF_t hc1.1 hN) h4)
            · skip
              refine V_aload_n dX1_readPiece_117 rfl ?_
              refine V_iconst (v := nI 1) dX1_readPiece_118 rfl ?_
              refine V_callV (As := [.int (nI 1)]) (st := []) (a := 5) dX1_readPiece_119 kX1_refuse lX1_65 (by omega) rfl rfl (Nat.le_of_ble_eq_true rfl) ⟨Nat.le_of_ble_eq_true rfl, Nat.le_of_ble_eq_true rfl⟩ ⟨Nat.le_of_ble_eq_true rfl, Nat.le_of_ble_eq_true rfl⟩ rfl ⟨rfl, by decide⟩ (c_refuse1 (rdS_i hc)) ?_
              rintro r sh' I' J' ⟨rfl, rfl, rfl, rfl⟩
              exact V_iret ⟨Or.inr ⟨rfl, Or.inl rfl⟩, dX1_readPiece_122⟩ ⟨Nat.le_of_ble_eq_true rfl, Nat.le_of_ble_eq_true rfl⟩ (rdR_no (fc := 1) (q := q) (g := []) (by rw [pPce_cS h8 h48]; unfold pCmp; rw [hr]; exact (if_neg (fun h => h rfl)).trans (if_pos (by show ¬ (sgn tx n q = 60 ∨ sgn tx n q = 62 ∨ sgn tx n q = 61); omega))) (by decide) (rdF_t hc.1 rdF_no) zwr_54)
      · skip
        refine V_callV (As := [.int (nI dp)]) (st := []) (a := 5) dX1_readPiece_86 kX1_readSum lX1_78 (by omega) rfl rfl (Nat.le_of_ble_eq_true rfl) ⟨Nat.le_of_ble_eq_true rfl, Nat.le_of_ble_eq_true rfl⟩ ⟨Nat.le_of_ble_eq_true rfl, Nat.le_of_ble_eq_true rfl⟩ rfl ⟨rfl, by decide⟩ (zK_rdN (c_sum (off := off) (e + 1) I p (s + off) dp (by omega) h hx) hr hfc) ?_
        rintro r sh' I1 J' ⟨rfl, rfl, hN, h4, rfl⟩
        refine V_if_ne (tgt := 94) dX1_readPiece_89 rfl (fun h => absurd h (by decide)) (fun _ => ?_)
        refine V_iconst (v := nI 0) dX1_readPiece_92 rfl ?_
        exact V_iret ⟨Or.inr ⟨rfl, Or.inl rfl⟩, dX1_readPiece_93⟩ ⟨Nat.le_of_ble_eq_true rfl, Nat.le_of_ble_eq_true rfl⟩ (rdR_no (fc := fc) (q := q) (g := []) (by rw [pPce_cS h8 h48]; unfold pCmp; rw [hr]; exact if_pos hfc) hfc hN h4)
    · skip
      refine V_aload_n dX1_readPiece_51 rfl ?_
      refine V_iload_n dX1_readPiece_52 rfl ?_
      refine V_callV (As := [.int (nI dp)]) (st := []) (a := 5) dX1_readPiece_53 kX1_open lX1_94 (by omega) rfl rfl (Nat.le_of_ble_eq_true rfl) ⟨Nat.le_of_ble_eq_true rfl, Nat.le_of_ble_eq_true rfl⟩ ⟨Nat.le_of_ble_eq_true rfl, Nat.le_of_ble_eq_true rfl⟩ rfl ⟨rfl, by decide⟩ (c_open1y h (by omega)) ?_
      rintro r sh' I' J' ⟨rfl, rfl, rfl, rfl⟩
      refine V_if_eq (tgt := 82) dX1_readPiece_56 rfl (fun h => absurd h (by decide)) (fun _ => ?_)
      refine V_aload_n dX1_readPiece_59 rfl ?_
      refine V_iload_n dX1_readPiece_60 rfl ?_
      refine V_iconst (v := nI 1) dX1_readPiece_61 rfl ?_
      refine V_iaddN dX1_readPiece_62 ?_
      have hc0 := rdS_at (off := off) h (sgn_lt h48 (by decide))
      have hci : rdI (zwr I 5 3 (nI (p + 1))) n (p + 1) (s + off) := rdS_i hc0
      obtain ⟨fc, q, g, hr⟩ : ∃ fc q g, pCnd tx n e (p + 1) s = (fc, q, g) := ex3 _
      by_cases hfc : fc = 0
      · skip
        subst hfc
        refine V_callV (As := [.int (nI (dp + 1))]) (st := []) (a := 5) dX1_readPiece_63 kX1_readCondition lX1_85 (by omega) rfl rfl (Nat.le_of_ble_eq_true rfl) ⟨Nat.le_of_ble_eq_true rfl, Nat.le_of_ble_eq_true rfl⟩ ⟨Nat.le_of_ble_eq_true rfl, Nat.le_of_ble_eq_true rfl⟩ rfl ⟨rfl, by decide⟩ (zK_rdY (hC (zwr I 5 3 (nI (p + 1))) (p + 1) s (dp + 1) (by omega) hci (rdS_x hc0 hx)) hr) ?_
        rintro r sh' I2 J' ⟨rfl, rfl, hB, rfl⟩
        have hc2 := rdS_t hc0 (show rdS off (zwr I 5 3 (nI (p + 1))) I2 n (s + off + [].length) q g from hB)
        rw [List.nil_append] at hc2
        refine V_if_eq (tgt := 82) dX1_readPiece_66 rfl (fun h => absurd h (by decide)) (fun _ => ?_)
        refine V_aload_n dX1_readPiece_69 rfl ?_
        refine V_bipush (v := nI 41) dX1_readPiece_70 rfl ?_
        by_cases h41 : sgn tx n q = 41
        · skip
          refine V_callV (As := [.int (nI 41)]) (st := []) (a := 5) dX1_readPiece_72 kX1_pass lX1_57 (by omega) rfl rfl (Nat.le_of_ble_eq_true rfl) ⟨Nat.le_of_ble_eq_true rfl, Nat.le_of_ble_eq_true rfl⟩ ⟨Nat.le_of_ble_eq_true rfl, Nat.le_of_ble_eq_true rfl⟩ rfl ⟨rfl, by decide⟩ (c_pass1y (rdS_i hc2) (rdS_x hc2 hx) (by decide) h41) ?_
          rintro r sh' I' J' ⟨rfl, rfl, rfl, rfl⟩
          refine V_if_eq (tgt := 82) dX1_readPiece_75 rfl (fun h => absurd h (by decide)) (fun _ => ?_)
          refine V_iconst (v := nI 1) dX1_readPiece_78 rfl ?_
          refine V_goto (tgt := 83) dX1_readPiece_79 rfl ?_
          exact V_iret ⟨Or.inr ⟨rfl, Or.inr rfl⟩, dX1_readPiece_83⟩ ⟨Nat.le_of_ble_eq_true rfl, Nat.le_of_ble_eq_true rfl⟩ (rdR_ok (q := q + 1) (g := g) (by rw [pPce_o h8 h48]; unfold pOpn; rw [hr]; exact (if_neg (fun h => h rfl)).trans (if_pos h41)) (rdS_n hc2 (sgn_lt h41 (by decide))))
        · skip
          refine V_callV (As := [.int (nI 41)]) (st := []) (a := 5) dX1_readPiece_72 kX1_pass lX1_57 (by omega) rfl rfl (Nat.le_of_ble_eq_true rfl) ⟨Nat.le_of_ble_eq_true rfl, Nat.le_of_ble_eq_true rfl⟩ ⟨Nat.le_of_ble_eq_true rfl, Nat.le_of_ble_eq_true rfl⟩ rfl ⟨rfl, by decide⟩ (c_pass1n (rdS_i hc2) (rdS_x hc2 hx) (by decide) h41) ?_
          rintro r sh' I' J' ⟨rfl, rfl, rfl, rfl⟩
          refine V_if_eq (tgt := 82) dX1_readPiece_75 rfl (fun _ => ?_) (fun h => absurd h (by decide))
          refine V_iconst (v := nI 0) dX1_readPiece_82 rfl ?_
          exact V_iret ⟨Or.inr ⟨rfl, Or.inl rfl⟩, dX1_readPiece_83⟩ ⟨Nat.le_of_ble_eq_true rfl, Nat.le_of_ble_eq_true rfl⟩ (rdR_no (fc := 1) (q := q) (g := []) (by rw [pPce_o h8 h48]; unfold pOpn; rw [hr]; exact (if_neg (fun h => h rfl)).trans (if_neg h41)) (by decide) (rdF_t hc2.1 rdF_no) zwr_54)
      · skip
        refine V_callV (As := [.int (nI (dp + 1))]) (st := []) (a := 5) dX1_readPiece_63 kX1_readCondition lX1_85 (by omega) rfl rfl (Nat.le_of_ble_eq_true rfl) ⟨Nat.le_of_ble_eq_true rfl, Nat.le_of_ble_eq_true rfl⟩ ⟨Nat.le_of_ble_eq_true rfl, Nat.le_of_ble_eq_true rfl⟩ rfl ⟨rfl, by decide⟩ (zK_rdN (hC (zwr I 5 3 (nI (p + 1))) (p + 1) s (dp + 1) (by omega) hci (rdS_x hc0 hx)) hr hfc) ?_
        rintro r sh' I2 J' ⟨rfl, rfl, hN, h4, rfl⟩
        refine V_if_eq (tgt := 82) dX1_readPiece_66 rfl (fun _ => ?_) (fun h => absurd h (by decide))
        refine V_iconst (v := nI 0) dX1_readPiece_82 rfl ?_
        exact V_iret ⟨Or.inr ⟨rfl, Or.inl rfl⟩, dX1_readPiece_83⟩ ⟨Nat.le_of_ble_eq_true rfl, Nat.le_of_ble_eq_true rfl⟩ (rdR_no (fc := fc) (q := q) (g := []) (by rw [pPce_o h8 h48]; unfold pOpn; rw [hr]; exact if_pos hfc) hfc (rdF_t hc0.1 hN) h4)
  · skip
    refine V_aload_n dX1_readPiece_11 rfl ?_
    refine V_iload_n dX1_readPiece_12 rfl ?_
    refine V_callV (As := [.int (nI dp)]) (st := []) (a := 5) dX1_readPiece_13 kX1_open lX1_94 (by omega) rfl rfl (Nat.le_of_ble_eq_true rfl) ⟨Nat.le_of_ble_eq_true rfl, Nat.le_of_ble_eq_true rfl⟩ ⟨Nat.le_of_ble_eq_true rfl, Nat.le_of_ble_eq_true rfl⟩ rfl ⟨rfl, by decide⟩ (c_open1y h (by omega)) ?_
    rintro r sh' I' J' ⟨rfl, rfl, rfl, rfl⟩
    refine V_if_eq (tgt := 29) dX1_readPiece_16 rfl (fun h => absurd h (by decide)) (fun _ => ?_)
    refine V_aload_n dX1_readPiece_19 rfl ?_
    refine V_iload_n dX1_readPiece_20 rfl ?_
    refine V_iconst (v := nI 1) dX1_readPiece_21 rfl ?_
    refine V_iaddN dX1_readPiece_22 ?_
    have hc0 := rdS_at (off := off) h (sgn_lt h8 (by decide))
    have hci : rdI (zwr I 5 3 (nI (p + 1))) n (p + 1) (s + off) := rdS_i hc0
    obtain ⟨fc, q, g, hr⟩ : ∃ fc q g, pPce tx n e (p + 1) s = (fc, q, g) := ex3 _
    by_cases hfc : fc = 0
    · skip
      subst hfc
      refine V_callV (As := [.int (nI (dp + 1))]) (st := []) (a := 5) dX1_readPiece_23 kX1_readPiece lX1_88 (by omega) rfl rfl (Nat.le_of_ble_eq_true rfl) ⟨Nat.le_of_ble_eq_true rfl, Nat.le_of_ble_eq_true rfl⟩ ⟨Nat.le_of_ble_eq_true rfl, Nat.le_of_ble_eq_true rfl⟩ rfl ⟨rfl, by decide⟩ (zK_rdY (hP (zwr I 5 3 (nI (p + 1))) (p + 1) s (dp + 1) (by omega) hci (rdS_x hc0 hx)) hr) ?_
      rintro r sh' I2 J' ⟨rfl, rfl, hB, rfl⟩
      have hc2 := rdS_t hc0 (show rdS off (zwr I 5 3 (nI (p + 1))) I2 n (s + off + [].length) q g from hB)
      refine V_if_ne (tgt := 31) dX1_readPiece_26 rfl (fun _ => ?_) (fun h => absurd h (by decide))
      refine V_aload_n dX1_readPiece_31 rfl ?_
      refine V_getR (b := 6) dX1_readPiece_32 fX1_12 ⟨Nat.le_of_ble_eq_true rfl, Nat.le_of_ble_eq_true rfl⟩ rfl rfl rfl ?_
      refine V_iconst (v := nI 2) dX1_readPiece_35 rfl ?_
      refine V_iload_n dX1_readPiece_36 rfl ?_
      refine V_eqI (y := nI 33) (by rw [h8]; rfl) ?_
      refine V_callS (As := [.int (nI 2), .int (nI 33)]) (st := [.ref 6]) dX1_readPiece_37 kX8_step lX1_91 (by omega) rfl rfl (Nat.le_of_ble_eq_true rfl) ⟨Nat.le_of_ble_eq_true rfl, Nat.le_of_ble_eq_true rfl⟩ (c_step8 (by decide) (by omega)) ?_
      rintro _ _ _ _ ⟨rfl, rfl, rfl, rfl⟩
      refine V_callV (As := [.int (nI (1048576 * 2 + 33))]) (st := []) (a := 6) dX1_readPiece_40 kX8_add lX1_74 (by omega) rfl rfl (Nat.le_of_ble_eq_true rfl) ⟨Nat.le_of_ble_eq_true rfl, Nat.le_of_ble_eq_true rfl⟩ ⟨Nat.le_of_ble_eq_true rfl, Nat.le_of_ble_eq_true rfl⟩ rfl ⟨rfl, by decide⟩ (c_add8 (rdS_i hc2).2.2.2.2) ?_
      rintro r sh' I' J' ⟨rfl, rfl, rfl, rfl⟩
      refine V_iconst (v := nI 1) dX1_readPiece_43 rfl ?_
      exact V_iret ⟨Or.inr ⟨rfl, Or.inr rfl⟩, dX1_readPiece_44⟩ ⟨Nat.le_of_ble_eq_true rfl, Nat.le_of_ble_eq_true rfl⟩ (rdR_ok (q := q) (g := g ++ [(2, 33)]) (by rw [pPce_n h8]; unfold pNot; rw [hr]; exact if_neg (fun h => h rfl)) (by have e := rdS_t hc2 (rdS_add (off := off) (c := (2, 33)) (rdS_i hc2)); rw [enc_lo (by decide), List.nil_append] at e; exact e))
    · skip
      refine V_callV (As := [.int (nI (dp + 1))]) (st := []) (a := 5) dX1_readPiece_23 kX1_readPiece lX1_88 (by omega) rfl rfl (Nat.le_of_ble_eq_true rfl) ⟨Nat.le_of_ble_eq_true rfl, Nat.le_of_ble_eq_true rfl⟩ ⟨Nat.le_of_ble_eq_true rfl, Nat.le_of_ble_eq_true rfl⟩ rfl ⟨rfl, by decide⟩ (zK_rdN (hP (zwr I 5 3 (nI (p + 1))) (p + 1) s (dp + 1) (by omega) hci (rdS_x hc0 hx)) hr hfc) ?_
      rintro r sh' I2 J' ⟨rfl, rfl, hN, h4, rfl⟩
      refine V_if_ne (tgt := 31) dX1_readPiece_26 rfl (fun h => absurd h (by decide)) (fun _ => ?_)
      refine V_iconst (v := nI 0) dX1_readPiece_29 rfl ?_
      exact V_iret ⟨Or.inr ⟨rfl, Or.inl rfl⟩, dX1_readPiece_30⟩ ⟨Nat.le_of_ble_eq_true rfl, Nat.le_of_ble_eq_true rfl⟩ (rdR_no (fc := fc) (q := q) (g := []) (by rw [pPce_n h8]; unfold pNot; rw [hr]; exact if_pos hfc) hfc (rdF_t hc0.1 hN) h4)

theorem c_piece {G : zG} {J : zJ} {off n : Nat} {tx : Nat → Nat} : ∀ e, pceK G J tx off n e
  | 0 => fun I p s dp hd h hx => by
    have e : dp = 6 := by omega
    subst e
    exact c_piece0 h hx
  | e + 1 => fun I p s dp hd h hx => c_pieceS h hx hd (c_piece e) (fun I p s dp hd h hx => c_cndF h hx hd (c_piece e))
theorem c_cond {G : zG} {J : zJ} {off n : Nat} {tx : Nat → Nat} (e : Nat) : cndK G J tx off n e := fun I p s dp hd h hx => c_cndF h hx hd (c_piece e)
