/-! THE CLASS: counts; texts taken from the tape -/
/-- a reading's fault and place are small -/
def okN (n : Nat) {α : Type} (r : Nat × Nat × α) : Prop := r.1 ≤ 5 ∧ r.2.1 ≤ n
theorem numR_n {tx : Nat → Nat} {n : Nat} : ∀ k p v, p ≤ n → (numR tx n k p v).2 ≤ n
  | 0, _, _, h => h
  | k + 1, p, v, h => by
    unfold numR
    split
    · rename_i c
      exact numR_n k _ _ (sgn_ltn (tx := tx) (by omega))
    · exact h
theorem pFac_n {tx : Nat → Nat} {n : Nat} {br : Nat → Nat × Nat × List (Nat × Nat)} (hb : ∀ p, p < n → okN n (br p)) (hb5 : ∀ p, n ≤ p → True) (p : Nat) (hp : p ≤ n) : okN n (pFac tx n br p) := by
  unfold pFac
  by_cases c1 : sgn tx n p = 91
  · rw [if_pos c1]; exact hb p (sgn_lt c1 (by decide))
  · rw [if_neg c1]
    by_cases c2 : 48 ≤ sgn tx n p ∧ sgn tx n p ≤ 57
    · rw [if_pos c2]
      have h9 := numR_n (tx := tx) 5 p 0 hp
      unfold pNum
      split
      · exact ⟨Nat.le_of_ble_eq_true rfl, h9⟩
      · exact ⟨Nat.zero_le _, h9⟩
    · rw [if_neg c2]
      by_cases c3 : ltP (sgn tx n p) < 9
      · rw [if_pos c3]; exact ⟨Nat.zero_le _, sgn_ltn (tx := tx) (by intro h; rw [h] at c3; exact absurd c3 (by decide))⟩
      · rw [if_neg c3]; exact ⟨Nat.le_of_ble_eq_true rfl, hp⟩
theorem pSumL_n {tx : Nat → Nat} {n : Nat} {br : Nat → Nat × Nat × List (Nat × Nat)} (hb : ∀ p, p < n → okN n (br p)) : ∀ k p a m acc, p ≤ n → okN n (pSumL tx n br k p a m acc) := by
  intro k
  induction k with
  | zero => intro p a m acc hp; exact ⟨Nat.le_of_ble_eq_true rfl, hp⟩
  | succ k ih =>
    intro p a m acc hp
    have hf := pFac_n (tx := tx) hb (fun _ _ => trivial) p hp
    obtain ⟨fc, q, g, hr⟩ := ex3 (pFac tx n br p)
    unfold pSumL
    rw [hr] at hf ⊢
    by_cases h0 : fc = 0
    · rw [if_neg (fun h => h h0)]
      by_cases c1 : sgn tx n q = 42 ∨ sgn tx n q = 47 ∨ sgn tx n q = 37
      · rw [if_pos c1]
        exact ih _ _ _ _ (sgn_ltn (tx := tx) (show sgn tx n q ≠ 256 by omega))
      · rw [if_neg c1]
        by_cases c2 : sgn tx n q = 43 ∨ sgn tx n q = 45
        · rw [if_pos c2]
          exact ih _ _ _ _ (sgn_ltn (tx := tx) (show sgn tx n q ≠ 256 by omega))
        · rw [if_neg c2]
          exact ⟨Nat.zero_le _, hf.2⟩
    · rw [if_pos h0]
      exact hf
theorem pSum_n {tx : Nat → Nat} {n : Nat} : ∀ e p, p ≤ n → okN n (pSum tx n e p)
  | 0, p, h => pSumL_n (fun p hp => ⟨Nat.le_refl _, Nat.le_of_lt hp⟩) 240 p 0 0 [] h
  | e + 1, p, h => pSumL_n (fun p hp => by
      have h1 := pSum_n (tx := tx) (n := n) e (p + 1) hp
      unfold pBr
      by_cases c : (pSum tx n e (p + 1)).1 = 0
      · rw [if_neg (fun h => h c)]
        by_cases c2 : sgn tx n (pSum tx n e (p + 1)).2.1 = 93
        · rw [if_pos c2]; exact ⟨Nat.zero_le _, sgn_lt c2 (by decide)⟩
        · rw [if_neg c2]; exact ⟨Nat.le_of_ble_eq_true rfl, h1.2⟩
      · rw [if_pos c]; exact h1) 240 p 0 0 [] h
theorem pCmp_n {tx : Nat → Nat} {n e p : Nat} (hp : p ≤ n) : okN n (pCmp tx n e p) := by
  unfold pCmp
  have h1 := pSum_n (tx := tx) e p hp
  by_cases c : (pSum tx n e p).1 = 0
  · rw [if_neg (fun h => h c)]
    by_cases c2 : sgn tx n (pSum tx n e p).2.1 = 60 ∨ sgn tx n (pSum tx n e p).2.1 = 62 ∨ sgn tx n (pSum tx n e p).2.1 = 61
    · rw [if_neg (fun h => h c2)]
      have h2 := pSum_n (tx := tx) (n := n) e ((pSum tx n e p).2.1 + 1) (sgn_ltn (tx := tx) (by omega))
      by_cases c3 : (pSum tx n e ((pSum tx n e p).2.1 + 1)).1 = 0
      · rw [if_neg (fun h => h c3)]; exact ⟨Nat.zero_le _, h2.2⟩
      · rw [if_pos c3]; exact h2
    · rw [if_pos c2]; exact ⟨Nat.le_of_ble_eq_true rfl, h1.2⟩
  · rw [if_pos c]; exact h1
theorem pCndL_n {tx : Nat → Nat} {n : Nat} {pc : Nat → Nat → Nat × Nat × List (Nat × Nat)} (hp : ∀ p s, p ≤ n → okN n (pc p s)) (s : Nat) : ∀ k p j t acc, p ≤ n → okN n (pCndL tx n pc k p s j t acc) := by
  intro k
  induction k with
  | zero => intro p j t acc h; exact ⟨Nat.le_of_ble_eq_true rfl, h⟩
  | succ k ih =>
    intro p j t acc h
    have hf := hp p (s + acc.length) h
    obtain ⟨fc, q, g, hr⟩ := ex3 (pc p (s + acc.length))
    unfold pCndL
    rw [hr] at hf ⊢
    by_cases h0 : fc = 0
    · rw [if_neg (fun h => h h0)]
      by_cases c1 : sgn tx n q = 38
      · rw [if_pos c1]; exact ih _ _ _ _ (sgn_lt c1 (by decide))
      · rw [if_neg c1]
        by_cases c2 : sgn tx n q = 124
        · rw [if_pos c2]; exact ih _ _ _ _ (sgn_lt c2 (by decide))
        · rw [if_neg c2]; exact ⟨Nat.zero_le _, hf.2⟩
    · rw [if_pos h0]; exact hf
theorem pOpn_n {tx : Nat → Nat} {n : Nat} {r : Nat × Nat × List (Nat × Nat)} (h : okN n r) : okN n (pOpn tx n r) := by
  unfold pOpn
  by_cases c : r.1 = 0
  · rw [if_neg (fun h => h c)]
    by_cases c2 : sgn tx n r.2.1 = 41
    · rw [if_pos c2]; exact ⟨Nat.zero_le _, sgn_lt c2 (by decide)⟩
    · rw [if_neg c2]; exact ⟨Nat.le_of_ble_eq_true rfl, h.2⟩
  · rw [if_pos c]; exact h
theorem pNot_n {n : Nat} {r : Nat × Nat × List (Nat × Nat)} (h : okN n r) : okN n (pNot r) := by
  unfold pNot
  by_cases c : r.1 = 0
  · rw [if_neg (fun h => h c)]; exact ⟨Nat.zero_le _, h.2⟩
  · rw [if_pos c]; exact h
theorem pPce_N {tx : Nat → Nat} {n : Nat} : ∀ e p s, p ≤ n → okN n (pPce tx n e p s)
  | 0, p, s, h => by
    by_cases c1 : sgn tx n p = 33
    · rw [pPce_n0 c1]; exact ⟨Nat.le_refl _, h⟩
    · by_cases c2 : sgn tx n p = 40
      · rw [pPce_o0 c1 c2]; exact ⟨Nat.le_refl _, h⟩
      · rw [pPce_c0 c1 c2]; exact pCmp_n h
  | e + 1, p, s, h => by
    by_cases c1 : sgn tx n p = 33
    · rw [pPce_n c1]; exact pNot_n (pPce_N e (p + 1) s (sgn_lt c1 (by decide)))
    · by_cases c2 : sgn tx n p = 40
      · rw [pPce_o c1 c2]
        refine pOpn_n ?_
        unfold pCnd
        exact pCndL_n (fun p s h => pPce_N e p s h) s 240 (p + 1) 0 0 [] (sgn_lt c2 (by decide))
      · rw [pPce_cS c1 c2]; exact pCmp_n h
theorem pCnd_n {tx : Nat → Nat} {n e p s : Nat} (h : p ≤ n) : okN n (pCnd tx n e p s) := by
  unfold pCnd
  exact pCndL_n (fun p s h => pPce_N e p s h) s 240 p 0 0 [] h
theorem pCls_n {tx : Nat → Nat} {n b p s cl : Nat} (hp : p ≤ n) : okN n (pCls tx n b p s cl) := by
  unfold pCls
  by_cases h1 : clG b (sgn tx n p)
  · rw [if_neg (fun h => h h1)]
    have hpn : p < n := sgn_ltn (tx := tx) (by unfold clG at h1; omega)
    by_cases h2 : 16 ≤ cl
    · rw [if_pos h2]; exact ⟨Nat.le_of_ble_eq_true rfl, hp⟩
    · rw [if_neg h2]
      have e3 := pSum_n (tx := tx) (n := n) 6 (p + 1) hpn
      by_cases h3 : (pSum tx n 6 (p + 1)).1 = 0
      · rw [if_neg (fun h => h h3)]
        by_cases h4 : sgn tx n (pSum tx n 6 (p + 1)).2.1 = 40
        · rw [if_neg (fun h => h h4)]
          have e5 := pCnd_n (tx := tx) (n := n) (e := 5) (p := (pSum tx n 6 (p + 1)).2.1 + 1) (s := s + (pSum tx n 6 (p + 1)).2.2.length) (sgn_lt h4 (by decide))
          by_cases h5 : (pCnd tx n 5 ((pSum tx n 6 (p + 1)).2.1 + 1) (s + (pSum tx n 6 (p + 1)).2.2.length)).1 = 0
          · rw [if_neg (fun h => h h5)]
            by_cases h6 : sgn tx n (pCnd tx n 5 ((pSum tx n 6 (p + 1)).2.1 + 1) (s + (pSum tx n 6 (p + 1)).2.2.length)).2.1 = 41
            · rw [if_neg (fun h => h h6)]; exact ⟨Nat.zero_le _, sgn_lt h6 (by decide)⟩
            · rw [if_pos h6]; exact ⟨Nat.le_of_ble_eq_true rfl, e5.2⟩
          · rw [if_pos h5]; exact e5
        · rw [if_pos h4]; exact ⟨Nat.le_of_ble_eq_true rfl, e3.2⟩
      · rw [if_pos h3]; exact e3
  · rw [if_pos h1]; exact ⟨Nat.le_of_ble_eq_true rfl, hp⟩
/-- a text read: at most 16 clauses, one at least -/
theorem pTxt_n {tx : Nat → Nat} {n b : Nat} : ∀ k p s cl acc, p ≤ n → acc.length = cl → cl + k = 17 → cl ≤ 16 → okN n (pTxt tx n b k p s cl acc) ∧ ((pTxt tx n b k p s cl acc).1 = 0 → 1 ≤ (pTxt tx n b k p s cl acc).2.2.length ∧ (pTxt tx n b k p s cl acc).2.2.length ≤ 16) := by
  intro k
  induction k with
  | zero => intros; omega
  | succ k ih =>
    intro p s cl acc hp hl hk h16
    have hf := pCls_n (tx := tx) (b := b) (s := s) (cl := cl) hp
    have hln := fun h => pCls_len (tx := tx) (n := n) (b := b) (p := p) (s := s) (cl := cl) h
    obtain ⟨fc, q, g, hr⟩ := ex3 (pCls tx n b p s cl)
    unfold pTxt
    rw [hr] at hf hln ⊢
    have el : (acc ++ [(sgn tx n p, g)]).length = cl + 1 := by rw [List.length_append, hl]; rfl
    by_cases h0 : fc = 0
    · rw [if_neg (fun h => h h0)]
      have hc := (hln h0).2.1
      by_cases c1 : n ≤ q
      · rw [if_pos c1]
        refine ⟨⟨Nat.zero_le _, hf.2⟩, fun _ => ?_⟩
        show 1 ≤ (acc ++ [(sgn tx n p, g)]).length ∧ (acc ++ [(sgn tx n p, g)]).length ≤ 16
        rw [el]
        omega
      · rw [if_neg c1]
        by_cases c2 : sgn tx n q = 59
        · rw [if_neg (fun h => h c2)]
          exact ih (q + 1) _ (cl + 1) _ (sgn_lt c2 (by decide)) el (by omega) (by omega)
        · rw [if_pos c2]
          exact ⟨⟨Nat.le_of_ble_eq_true rfl, hf.2⟩, fun h => absurd h (Nat.succ_ne_zero _)⟩
    · rw [if_pos h0]
      exact ⟨hf, fun h => absurd h h0⟩
theorem fltI_neg {fc p n : Nat} (h : fc ≤ 5) (h0 : fc ≠ 0) (hp : p ≤ n) (hn : n ≤ 240) : (fltI fc p).toInt < 0 := by
  rw [fltI_int (by omega) (by omega)]
  omega
set_option maxRecDepth 100000 in
set_option maxHeartbeats 4000000 in
theorem q_canTake {G : zG} {I : zI} {J : zJ} {t : Nat} (ht : I 3 1 = nI t) (ht2 : t ≤ 260) {n : Int32} {M : Nat} (hM : M ≤ 240) : zK G mX11_canTake 0 [.ref 2, .int n, .int (nI M)] zsh I J (zA0 (.int (nI (if 1 ≤ n.toInt ∧ n.toInt ≤ (M : Int) ∧ n.toInt ≤ (t : Int) then 1 else 0))) I J) := by
  refine zK_of kX11_canTake.2.2.2.2.1 (Nat.le_of_ble_eq_true rfl) ?_
  show V G mX11_canTake 0 _ 0 [(0, .ref 2), (1, .int n), (2, .int (nI M))] [] (0, 0) zsh I J
  refine V_iload_n dX11_canTake_0 rfl ?_
  refine V_iconst (v := nI 1) dX11_canTake_1 rfl ?_
  refine V_icmp_ltZ (tgt := 25) (a := n.toInt) (b := 1) dX11_canTake_2 rfl rfl (by decide) (fun h2 => ?_) (fun h2 => ?_)
  · skip
    refine V_iconst (v := nI 0) dX11_canTake_25 rfl ?_
    exact V_iret ⟨Or.inr ⟨rfl, Or.inl rfl⟩, dX11_canTake_26⟩ ⟨Nat.le_of_ble_eq_true rfl, Nat.le_of_ble_eq_true rfl⟩ ⟨rfl, by rw [if_neg (by omega)], rfl, rfl⟩
  · skip
    refine V_iload_n dX11_canTake_5 rfl ?_
    refine V_iload_n dX11_canTake_6 rfl ?_
    refine V_icmp_gtZ (tgt := 25) (a := n.toInt) (b := ((M : Nat) : Int)) dX11_canTake_7 rfl rfl (nI_toInt (by omega)) (fun h7 => ?_) (fun h7 => ?_)
    · skip
      refine V_iconst (v := nI 0) dX11_canTake_25 rfl ?_
      exact V_iret ⟨Or.inr ⟨rfl, Or.inl rfl⟩, dX11_canTake_26⟩ ⟨Nat.le_of_ble_eq_true rfl, Nat.le_of_ble_eq_true rfl⟩ ⟨rfl, by rw [if_neg (by omega)], rfl, rfl⟩
    · skip
      refine V_iload_n dX11_canTake_10 rfl ?_
      refine V_aload_n dX11_canTake_11 rfl ?_
      refine V_getR (b := 3) dX11_canTake_12 fX11_19 ⟨Nat.le_of_ble_eq_true rfl, Nat.le_of_ble_eq_true rfl⟩ rfl rfl rfl ?_
      refine V_getI dX11_canTake_15 fX11_110 ⟨Nat.le_of_ble_eq_true rfl, Nat.le_of_ble_eq_true rfl⟩ rfl rfl ?_
      refine V_eqI (y := nI t) ht ?_
      refine V_icmp_gtZ (tgt := 25) (a := n.toInt) (b := ((t : Nat) : Int)) dX11_canTake_18 rfl rfl (nI_toInt (by omega)) (fun h18 => ?_) (fun h18 => ?_)
      · skip
        refine V_iconst (v := nI 0) dX11_canTake_25 rfl ?_
        exact V_iret ⟨Or.inr ⟨rfl, Or.inl rfl⟩, dX11_canTake_26⟩ ⟨Nat.le_of_ble_eq_true rfl, Nat.le_of_ble_eq_true rfl⟩ ⟨rfl, by rw [if_neg (by omega)], rfl, rfl⟩
      · skip
        refine V_iconst (v := nI 1) dX11_canTake_21 rfl ?_
        refine V_goto (tgt := 26) dX11_canTake_22 rfl ?_
        exact V_iret ⟨Or.inr ⟨rfl, Or.inr rfl⟩, dX11_canTake_26⟩ ⟨Nat.le_of_ble_eq_true rfl, Nat.le_of_ble_eq_true rfl⟩ ⟨rfl, by rw [if_pos (by omega)], rfl, rfl⟩

abbrev tkO (n : Int32) (M t : Nat) : Prop := 1 ≤ n.toInt ∧ n.toInt ≤ (M : Int) ∧ n.toInt ≤ (t : Int)
theorem tkO_k {k M t : Nat} (hk : 1 ≤ k) (h : k ≤ M) (h2 : k ≤ t) (hM : M ≤ 240) : tkO (nI k) M t := by
  unfold tkO
  rw [nI_toInt (by omega)]
  omega
set_option maxRecDepth 100000 in
set_option maxHeartbeats 4000000 in
theorem c_checkN {G : zG} {I : zI} {J : zJ} {t : Nat} (ht : I 3 1 = nI t) (ht2 : t ≤ 260) {n : Int32} (hn : ¬ (inZ n 0 8 ∧ 4 * n.toInt ≤ t)) : zK G mX11_check 1 [.ref 2, .int n] zsh I J (zA0 (.int (-2)) I J) := by
  refine zK_of kX11_check.2.2.2.2.1 (Nat.le_of_ble_eq_true rfl) ?_
  show V G mX11_check 1 _ 0 [(0, .ref 2), (1, .int n)] [] (0, 0) zsh I J
  by_cases h8 : inZ n 0 8
  · obtain ⟨k, rfl, hk0, hk⟩ := inZ_n h8 (by decide)
    have h4 : ¬ 4 * k ≤ t := fun h => hn ⟨h8, by rw [nI_toInt (by omega)]; omega⟩
    refine V_iload_n dX11_check_0 rfl ?_
    refine V_if_ltN (tgt := 23) dX11_check_1 rfl (by omega) ?_
    refine V_iload_n dX11_check_4 rfl ?_
    refine V_bipush (v := nI 8) dX11_check_5 rfl ?_
    refine V_icmp_gtN (tgt := 23) dX11_check_7 rfl (by omega) (by omega) (fun h => absurd h (by omega)) (fun _ => ?_)
    refine V_iconst (v := nI 4) dX11_check_10 rfl ?_
    refine V_iload_n dX11_check_11 rfl ?_
    refine V_imulN dX11_check_12 ?_
    refine V_aload_n dX11_check_13 rfl ?_
    refine V_getR (b := 3) dX11_check_14 fX11_19 ⟨Nat.le_of_ble_eq_true rfl, Nat.le_of_ble_eq_true rfl⟩ rfl rfl rfl ?_
    refine V_getI dX11_check_17 fX11_110 ⟨Nat.le_of_ble_eq_true rfl, Nat.le_of_ble_eq_true rfl⟩ rfl rfl ?_
    refine V_eqI (y := nI t) ht ?_
    refine V_icmp_leN (tgt := 26) dX11_check_20 rfl (by omega) (by omega) (fun h => absurd h (by omega)) (fun _ => ?_)
    refine V_bipush (v := (-2)) dX11_check_23 rfl ?_
    exact V_iret ⟨Or.inl rfl, dX11_check_25⟩ ⟨Nat.le_of_ble_eq_true rfl, Nat.le_of_ble_eq_true rfl⟩ ⟨rfl, rfl, rfl, rfl⟩
  · skip
    refine V_iload_n dX11_check_0 rfl ?_
    refine V_if_ltZ (tgt := 23) (a := n.toInt) dX11_check_1 rfl rfl (fun h1 => ?_) (fun h1 => ?_)
    · skip
      refine V_bipush (v := (-2)) dX11_check_23 rfl ?_
      exact V_iret ⟨Or.inl rfl, dX11_check_25⟩ ⟨Nat.le_of_ble_eq_true rfl, Nat.le_of_ble_eq_true rfl⟩ ⟨rfl, rfl, rfl, rfl⟩
    · skip
      refine V_iload_n dX11_check_4 rfl ?_
      refine V_bipush (v := nI 8) dX11_check_5 rfl ?_
      refine V_icmp_gtZ (tgt := 23) (a := n.toInt) (b := 8) dX11_check_7 rfl rfl (by decide) (fun h7 => ?_) (fun h7 => ?_)
      · skip
        refine V_bipush (v := (-2)) dX11_check_23 rfl ?_
        exact V_iret ⟨Or.inl rfl, dX11_check_25⟩ ⟨Nat.le_of_ble_eq_true rfl, Nat.le_of_ble_eq_true rfl⟩ ⟨rfl, rfl, rfl, rfl⟩
      · skip
        exfalso; omega

def cntM (cc : Nat → Nat) (m : Nat) (sd xs ys : Nat → Nat) (H : Nat → Int32) (k : Nat) : Int32 :=
  if 10 ≤ k ∧ k < 14 then nI (cc (k - 10)) else if 20 ≤ k ∧ k < 20 + m then nI (sd (k - 20)) else
  if 40 ≤ k ∧ k < 40 + m then nI (100 * ys (k - 40) + xs (k - 40)) else if 100 ≤ k ∧ k < 164 then H (k - 100) else -1
def cntS (far c0 t x : Nat) (cc : Nat → Nat) (m : Nat) (sd xs ys : Nat → Nat) (px py : Nat) (H : Nat → Int32) (k : Nat) : Int32 :=
  if k = 0 then nI far else if k = 1 then nI c0 else if k = 2 then nI t else if k = 3 then nI x else if k = 4 then nI m else
  if k = 5 then nI (100 * py + px) else cntM cc m sd xs ys H k
set_option maxRecDepth 100000 in
set_option maxHeartbeats 4000000 in
theorem c_countMany {G : zG} {I : zI} {J : zJ} {m : Nat} {sd xs ys : Nat → Nat} {px py : Nat} (hF : fdX I m sd xs ys px py) {c0 : Nat} {cc : Nat → Nat} (hC : cC I c0 cc) {x : Int32} : zK G mX11_countOfMany 3 [.ref 2, .int x] zsh I J (zA0 (.int (onN 164 x (-1) (cntM cc m sd xs ys (I 42)))) I J) := by
  refine zK_of kX11_countOfMany.2.2.2.2.1 (Nat.le_of_ble_eq_true rfl) ?_
  show V G mX11_countOfMany 3 _ 0 [(0, .ref 2), (1, .int x)] [] (0, 0) zsh I J
  have hm12 := hF.2.1
  rcases ix3 x 164 (by decide) with hx | hx | ⟨k, hk, rfl⟩
  · skip
    refine V_iload_n dX11_countOfMany_0 rfl ?_
    refine V_bipush (v := nI 10) dX11_countOfMany_1 rfl ?_
    refine V_icmp_lt (tgt := 25) dX11_countOfMany_3 rfl (fun _ => ?_) (fun h => absurd (by rw [oi_lt (by decide)]; omega) h)
    refine V_iload_n dX11_countOfMany_25 rfl ?_
    refine V_bipush (v := nI 20) dX11_countOfMany_26 rfl ?_
    refine V_icmp_lt (tgt := 57) dX11_countOfMany_28 rfl (fun _ => ?_) (fun h => absurd (by rw [oi_lt (by decide)]; omega) h)
    refine V_iload_n dX11_countOfMany_57 rfl ?_
    refine V_bipush (v := nI 40) dX11_countOfMany_58 rfl ?_
    refine V_icmp_lt (tgt := 89) dX11_countOfMany_60 rfl (fun _ => ?_) (fun h => absurd (by rw [oi_lt (by decide)]; omega) h)
    refine V_iload_n dX11_countOfMany_89 rfl ?_
    refine V_bipush (v := nI 100) dX11_countOfMany_90 rfl ?_
    refine V_icmp_lt (tgt := 114) dX11_countOfMany_92 rfl (fun _ => ?_) (fun h => absurd (by rw [oi_lt (by decide)]; omega) h)
    refine V_iconst (v := (-1)) dX11_countOfMany_114 rfl ?_
    exact V_iret ⟨Or.inl rfl, dX11_countOfMany_115⟩ ⟨Nat.le_of_ble_eq_true rfl, Nat.le_of_ble_eq_true rfl⟩ ⟨rfl, congrArg (fun z => some (Value.int z)) (onN_lo hx).symm, rfl, rfl⟩
  · skip
    refine V_iload_n dX11_countOfMany_0 rfl ?_
    refine V_bipush (v := nI 10) dX11_countOfMany_1 rfl ?_
    refine V_icmp_ltZ (tgt := 25) (a := x.toInt) (b := 10) dX11_countOfMany_3 rfl rfl (by decide) (fun h3 => ?_) (fun h3 => ?_)
    · skip
      refine V_iload_n dX11_countOfMany_25 rfl ?_
      refine V_bipush (v := nI 20) dX11_countOfMany_26 rfl ?_
      refine V_icmp_ltZ (tgt := 57) (a := x.toInt) (b := 20) dX11_countOfMany_28 rfl rfl (by decide) (fun h28 => ?_) (fun h28 => ?_)
      · skip
        refine V_iload_n dX11_countOfMany_57 rfl ?_
        refine V_bipush (v := nI 40) dX11_countOfMany_58 rfl ?_
        refine V_icmp_ltZ (tgt := 89) (a := x.toInt) (b := 40) dX11_countOfMany_60 rfl rfl (by decide) (fun h60 => ?_) (fun h60 => ?_)
        · skip
          refine V_iload_n dX11_countOfMany_89 rfl ?_
          refine V_bipush (v := nI 100) dX11_countOfMany_90 rfl ?_
          refine V_icmp_ltZ (tgt := 114) (a := x.toInt) (b := 100) dX11_countOfMany_92 rfl rfl (by decide) (fun h92 => ?_) (fun h92 => ?_)
          · skip
            refine V_iconst (v := (-1)) dX11_countOfMany_114 rfl ?_
            exact V_iret ⟨Or.inl rfl, dX11_countOfMany_115⟩ ⟨Nat.le_of_ble_eq_true rfl, Nat.le_of_ble_eq_true rfl⟩ ⟨rfl, congrArg (fun z => some (Value.int z)) (onN_hi hx).symm, rfl, rfl⟩
          · skip
            refine V_iload_n dX11_countOfMany_95 rfl ?_
            refine V_sipush (v := nI 164) dX11_countOfMany_96 rfl ?_
            refine V_icmp_geZ (tgt := 114) (a := x.toInt) (b := 164) dX11_countOfMany_99 rfl rfl (by decide) (fun h99 => ?_) (fun h99 => ?_)
            · skip
              refine V_iconst (v := (-1)) dX11_countOfMany_114 rfl ?_
              exact V_iret ⟨Or.inl rfl, dX11_countOfMany_115⟩ ⟨Nat.le_of_ble_eq_true rfl, Nat.le_of_ble_eq_true rfl⟩ ⟨rfl, congrArg (fun z => some (Value.int z)) (onN_hi hx).symm, rfl, rfl⟩
            · skip
              exfalso; omega
        · skip
          refine V_iload_n dX11_countOfMany_63 rfl ?_
          refine V_bipush (v := nI 40) dX11_countOfMany_64 rfl ?_
          refine V_aload_n dX11_countOfMany_66 rfl ?_
          refine V_getR (b := 49) dX11_countOfMany_67 fX11_85 ⟨Nat.le_of_ble_eq_true rfl, Nat.le_of_ble_eq_true rfl⟩ rfl rfl rfl ?_
          refine V_getI dX11_countOfMany_70 fX11_308 ⟨Nat.le_of_ble_eq_true rfl, Nat.le_of_ble_eq_true rfl⟩ rfl rfl ?_
          refine V_eqI (y := nI m) hF.1 ?_
          refine V_iaddN dX11_countOfMany_73 ?_
          refine V_icmp_geZ (tgt := 89) (a := x.toInt) (b := ((40 + m : Nat) : Int)) dX11_countOfMany_74 rfl rfl (nI_toInt (by omega)) (fun h74 => ?_) (fun h74 => ?_)
          · skip
            refine V_iload_n dX11_countOfMany_89 rfl ?_
            refine V_bipush (v := nI 100) dX11_countOfMany_90 rfl ?_
            refine V_icmp_ltZ (tgt := 114) (a := x.toInt) (b := 100) dX11_countOfMany_92 rfl rfl (by decide) (fun h92 => ?_) (fun h92 => ?_)
            · skip
              refine V_iconst (v := (-1)) dX11_countOfMany_114 rfl ?_
              exact V_iret ⟨Or.inl rfl, dX11_countOfMany_115⟩ ⟨Nat.le_of_ble_eq_true rfl, Nat.le_of_ble_eq_true rfl⟩ ⟨rfl, congrArg (fun z => some (Value.int z)) (onN_hi hx).symm, rfl, rfl⟩
            · skip
              refine V_iload_n dX11_countOfMany_95 rfl ?_
              refine V_sipush (v := nI 164) dX11_countOfMany_96 rfl ?_
              refine V_icmp_geZ (tgt := 114) (a := x.toInt) (b := 164) dX11_countOfMany_99 rfl rfl (by decide) (fun h99 => ?_) (fun h99 => ?_)
              · skip
                refine V_iconst (v := (-1)) dX11_countOfMany_114 rfl ?_
                exact V_iret ⟨Or.inl rfl, dX11_countOfMany_115⟩ ⟨Nat.le_of_ble_eq_true rfl, Nat.le_of_ble_eq_true rfl⟩ ⟨rfl, congrArg (fun z => some (Value.int z)) (onN_hi hx).symm, rfl, rfl⟩
              · skip
                exfalso; omega
          · skip
            exfalso; omega
      · skip
        refine V_iload_n dX11_countOfMany_31 rfl ?_
        refine V_bipush (v := nI 20) dX11_countOfMany_32 rfl ?_
        refine V_aload_n dX11_countOfMany_34 rfl ?_
        refine V_getR (b := 49) dX11_countOfMany_35 fX11_85 ⟨Nat.le_of_ble_eq_true rfl, Nat.le_of_ble_eq_true rfl⟩ rfl rfl rfl ?_
        refine V_getI dX11_countOfMany_38 fX11_308 ⟨Nat.le_of_ble_eq_true rfl, Nat.le_of_ble_eq_true rfl⟩ rfl rfl ?_
        refine V_eqI (y := nI m) hF.1 ?_
        refine V_iaddN dX11_countOfMany_41 ?_
        refine V_icmp_geZ (tgt := 57) (a := x.toInt) (b := ((20 + m : Nat) : Int)) dX11_countOfMany_42 rfl rfl (nI_toInt (by omega)) (fun h42 => ?_) (fun h42 => ?_)
        · skip
          refine V_iload_n dX11_countOfMany_57 rfl ?_
          refine V_bipush (v := nI 40) dX11_countOfMany_58 rfl ?_
          refine V_icmp_ltZ (tgt := 89) (a := x.toInt) (b := 40) dX11_countOfMany_60 rfl rfl (by decide) (fun h60 => ?_) (fun h60 => ?_)
          · skip
            refine V_iload_n dX11_countOfMany_89 rfl ?_
            refine V_bipush (v := nI 100) dX11_countOfMany_90 rfl ?_
            refine V_icmp_ltZ (tgt := 114) (a := x.toInt) (b := 100) dX11_countOfMany_92 rfl rfl (by decide) (fun h92 => ?_) (fun h92 => ?_)
            · skip
              refine V_iconst (v := (-1)) dX11_countOfMany_114 rfl ?_
              exact V_iret ⟨Or.inl rfl, dX11_countOfMany_115⟩ ⟨Nat.le_of_ble_eq_true rfl, Nat.le_of_ble_eq_true rfl⟩ ⟨rfl, congrArg (fun z => some (Value.int z)) (onN_hi hx).symm, rfl, rfl⟩
            · skip
              refine V_iload_n dX11_countOfMany_95 rfl ?_
              refine V_sipush (v := nI 164) dX11_countOfMany_96 rfl ?_
              refine V_icmp_geZ (tgt := 114) (a := x.toInt) (b := 164) dX11_countOfMany_99 rfl rfl (by decide) (fun h99 => ?_) (fun h99 => ?_)
              · skip
                refine V_iconst (v := (-1)) dX11_countOfMany_114 rfl ?_
                exact V_iret ⟨Or.inl rfl, dX11_countOfMany_115⟩ ⟨Nat.le_of_ble_eq_true rfl, Nat.le_of_ble_eq_true rfl⟩ ⟨rfl, congrArg (fun z => some (Value.int z)) (onN_hi hx).symm, rfl, rfl⟩
              · skip
                exfalso; omega
          · skip
            refine V_iload_n dX11_countOfMany_63 rfl ?_
            refine V_bipush (v := nI 40) dX11_countOfMany_64 rfl ?_
            refine V_aload_n dX11_countOfMany_66 rfl ?_
            refine V_getR (b := 49) dX11_countOfMany_67 fX11_85 ⟨Nat.le_of_ble_eq_true rfl, Nat.le_of_ble_eq_true rfl⟩ rfl rfl rfl ?_
            refine V_getI dX11_countOfMany_70 fX11_308 ⟨Nat.le_of_ble_eq_true rfl, Nat.le_of_ble_eq_true rfl⟩ rfl rfl ?_
            refine V_eqI (y := nI m) hF.1 ?_
            refine V_iaddN dX11_countOfMany_73 ?_
            refine V_icmp_geZ (tgt := 89) (a := x.toInt) (b := ((40 + m : Nat) : Int)) dX11_countOfMany_74 rfl rfl (nI_toInt (by omega)) (fun h74 => ?_) (fun h74 => ?_)
            · skip
              refine V_iload_n dX11_countOfMany_89 rfl ?_
              refine V_bipush (v := nI 100) dX11_countOfMany_90 rfl ?_
              refine V_icmp_ltZ (tgt := 114) (a := x.toInt) (b := 100) dX11_countOfMany_92 rfl rfl (by decide) (fun h92 => ?_) (fun h92 => ?_)
              · skip
                refine V_iconst (v := (-1)) dX11_countOfMany_114 rfl ?_
                exact V_iret ⟨Or.inl rfl, dX11_countOfMany_115⟩ ⟨Nat.le_of_ble_eq_true rfl, Nat.le_of_ble_eq_true rfl⟩ ⟨rfl, congrArg (fun z => some (Value.int z)) (onN_hi hx).symm, rfl, rfl⟩
              · skip
                refine V_iload_n dX11_countOfMany_95 rfl ?_
                refine V_sipush (v := nI 164) dX11_countOfMany_96 rfl ?_
                refine V_icmp_geZ (tgt := 114) (a := x.toInt) (b := 164) dX11_countOfMany_99 rfl rfl (by decide) (fun h99 => ?_) (fun h99 => ?_)
                · skip
                  refine V_iconst (v := (-1)) dX11_countOfMany_114 rfl ?_
                  exact V_iret ⟨Or.inl rfl, dX11_countOfMany_115⟩ ⟨Nat.le_of_ble_eq_true rfl, Nat.le_of_ble_eq_true rfl⟩ ⟨rfl, congrArg (fun z => some (Value.int z)) (onN_hi hx).symm, rfl, rfl⟩
                · skip
                  exfalso; omega
            · skip
              exfalso; omega
        · skip
          exfalso; omega
    · skip
      refine V_iload_n dX11_countOfMany_6 rfl ?_
      refine V_bipush (v := nI 14) dX11_countOfMany_7 rfl ?_
      refine V_icmp_geZ (tgt := 25) (a := x.toInt) (b := 14) dX11_countOfMany_9 rfl rfl (by decide) (fun h9 => ?_) (fun h9 => ?_)
      · skip
        refine V_iload_n dX11_countOfMany_25 rfl ?_
        refine V_bipush (v := nI 20) dX11_countOfMany_26 rfl ?_
        refine V_icmp_ltZ (tgt := 57) (a := x.toInt) (b := 20) dX11_countOfMany_28 rfl rfl (by decide) (fun h28 => ?_) (fun h28 => ?_)
        · skip
          refine V_iload_n dX11_countOfMany_57 rfl ?_
          refine V_bipush (v := nI 40) dX11_countOfMany_58 rfl ?_
          refine V_icmp_ltZ (tgt := 89) (a := x.toInt) (b := 40) dX11_countOfMany_60 rfl rfl (by decide) (fun h60 => ?_) (fun h60 => ?_)
          · skip
            refine V_iload_n dX11_countOfMany_89 rfl ?_
            refine V_bipush (v := nI 100) dX11_countOfMany_90 rfl ?_
            refine V_icmp_ltZ (tgt := 114) (a := x.toInt) (b := 100) dX11_countOfMany_92 rfl rfl (by decide) (fun h92 => ?_) (fun h92 => ?_)
            · skip
              refine V_iconst (v := (-1)) dX11_countOfMany_114 rfl ?_
              exact V_iret ⟨Or.inl rfl, dX11_countOfMany_115⟩ ⟨Nat.le_of_ble_eq_true rfl, Nat.le_of_ble_eq_true rfl⟩ ⟨rfl, congrArg (fun z => some (Value.int z)) (onN_hi hx).symm, rfl, rfl⟩
            · skip
              refine V_iload_n dX11_countOfMany_95 rfl ?_
              refine V_sipush (v := nI 164) dX11_countOfMany_96 rfl ?_
              refine V_icmp_geZ (tgt := 114) (a := x.toInt) (b := 164) dX11_countOfMany_99 rfl rfl (by decide) (fun h99 => ?_) (fun h99 => ?_)
              · skip
                refine V_iconst (v := (-1)) dX11_countOfMany_114 rfl ?_
                exact V_iret ⟨Or.inl rfl, dX11_countOfMany_115⟩ ⟨Nat.le_of_ble_eq_true rfl, Nat.le_of_ble_eq_true rfl⟩ ⟨rfl, congrArg (fun z => some (Value.int z)) (onN_hi hx).symm, rfl, rfl⟩
              · skip
                exfalso; omega
          · skip
            refine V_iload_n dX11_countOfMany_63 rfl ?_
            refine V_bipush (v := nI 40) dX11_countOfMany_64 rfl ?_
            refine V_aload_n dX11_countOfMany_66 rfl ?_
            refine V_getR (b := 49) dX11_countOfMany_67 fX11_85 ⟨Nat.le_of_ble_eq_true rfl, Nat.le_of_ble_eq_true rfl⟩ rfl rfl rfl ?_
            refine V_getI dX11_countOfMany_70 fX11_308 ⟨Nat.le_of_ble_eq_true rfl, Nat.le_of_ble_eq_true rfl⟩ rfl rfl ?_
            refine V_eqI (y := nI m) hF.1 ?_
            refine V_iaddN dX11_countOfMany_73 ?_
            refine V_icmp_geZ (tgt := 89) (a := x.toInt) (b := ((40 + m : Nat) : Int)) dX11_countOfMany_74 rfl rfl (nI_toInt (by omega)) (fun h74 => ?_) (fun h74 => ?_)
            · skip
              refine V_iload_n dX11_countOfMany_89 rfl ?_
              refine V_bipush (v := nI 100) dX11_countOfMany_90 rfl ?_
              refine V_icmp_ltZ (tgt := 114) (a := x.toInt) (b := 100) dX11_countOfMany_92 rfl rfl (by decide) (fun h92 => ?_) (fun h92 => ?_)
              · skip
                refine V_iconst (v := (-1)) dX11_countOfMany_114 rfl ?_
                exact V_iret ⟨Or.inl rfl, dX11_countOfMany_115⟩ ⟨Nat.le_of_ble_eq_true rfl, Nat.le_of_ble_eq_true rfl⟩ ⟨rfl, congrArg (fun z => some (Value.int z)) (onN_hi hx).symm, rfl, rfl⟩
              · skip
                refine V_iload_n dX11_countOfMany_95 rfl ?_
                refine V_sipush (v := nI 164) dX11_countOfMany_96 rfl ?_
                refine V_icmp_geZ (tgt := 114) (a := x.toInt) (b := 164) dX11_countOfMany_99 rfl rfl (by decide) (fun h99 => ?_) (fun h99 => ?_)
                · skip
                  refine V_iconst (v := (-1)) dX11_countOfMany_114 rfl ?_
                  exact V_iret ⟨Or.inl rfl, dX11_countOfMany_115⟩ ⟨Nat.le_of_ble_eq_true rfl, Nat.le_of_ble_eq_true rfl⟩ ⟨rfl, congrArg (fun z => some (Value.int z)) (onN_hi hx).symm, rfl, rfl⟩
                · skip
                  exfalso; omega
            · skip
              exfalso; omega
        · skip
          refine V_iload_n dX11_countOfMany_31 rfl ?_
          refine V_bipush (v := nI 20) dX11_countOfMany_32 rfl ?_
          refine V_aload_n dX11_countOfMany_34 rfl ?_
          refine V_getR (b := 49) dX11_countOfMany_35 fX11_85 ⟨Nat.le_of_ble_eq_true rfl, Nat.le_of_ble_eq_true rfl⟩ rfl rfl rfl ?_
          refine V_getI dX11_countOfMany_38 fX11_308 ⟨Nat.le_of_ble_eq_true rfl, Nat.le_of_ble_eq_true rfl⟩ rfl rfl ?_
          refine V_eqI (y := nI m) hF.1 ?_
          refine V_iaddN dX11_countOfMany_41 ?_
          refine V_icmp_geZ (tgt := 57) (a := x.toInt) (b := ((20 + m : Nat) : Int)) dX11_countOfMany_42 rfl rfl (nI_toInt (by omega)) (fun h42 => ?_) (fun h42 => ?_)
          · skip
            refine V_iload_n dX11_countOfMany_57 rfl ?_
            refine V_bipush (v := nI 40) dX11_countOfMany_58 rfl ?_
            refine V_icmp_ltZ (tgt := 89) (a := x.toInt) (b := 40) dX11_countOfMany_60 rfl rfl (by decide) (fun h60 => ?_) (fun h60 => ?_)
            · skip
              refine V_iload_n dX11_countOfMany_89 rfl ?_
              refine V_bipush (v := nI 100) dX11_countOfMany_90 rfl ?_
              refine V_icmp_ltZ (tgt := 114) (a := x.toInt) (b := 100) dX11_countOfMany_92 rfl rfl (by decide) (fun h92 => ?_) (fun h92 => ?_)
              · skip
                refine V_iconst (v := (-1)) dX11_countOfMany_114 rfl ?_
                exact V_iret ⟨Or.inl rfl, dX11_countOfMany_115⟩ ⟨Nat.le_of_ble_eq_true rfl, Nat.le_of_ble_eq_true rfl⟩ ⟨rfl, congrArg (fun z => some (Value.int z)) (onN_hi hx).symm, rfl, rfl⟩
              · skip
                refine V_iload_n dX11_countOfMany_95 rfl ?_
                refine V_sipush (v := nI 164) dX11_countOfMany_96 rfl ?_
                refine V_icmp_geZ (tgt := 114) (a := x.toInt) (b := 164) dX11_countOfMany_99 rfl rfl (by decide) (fun h99 => ?_) (fun h99 => ?_)
                · skip
                  refine V_iconst (v := (-1)) dX11_countOfMany_114 rfl ?_
                  exact V_iret ⟨Or.inl rfl, dX11_countOfMany_115⟩ ⟨Nat.le_of_ble_eq_true rfl, Nat.le_of_ble_eq_true rfl⟩ ⟨rfl, congrArg (fun z => some (Value.int z)) (onN_hi hx).symm, rfl, rfl⟩
                · skip
                  exfalso; omega
            · skip
              refine V_iload_n dX11_countOfMany_63 rfl ?_
              refine V_bipush (v := nI 40) dX11_countOfMany_64 rfl ?_
              refine V_aload_n dX11_countOfMany_66 rfl ?_
              refine V_getR (b := 49) dX11_countOfMany_67 fX11_85 ⟨Nat.le_of_ble_eq_true rfl, Nat.le_of_ble_eq_true rfl⟩ rfl rfl rfl ?_
              refine V_getI dX11_countOfMany_70 fX11_308 ⟨Nat.le_of_ble_eq_true rfl, Nat.le_of_ble_eq_true rfl⟩ rfl rfl ?_
              refine V_eqI (y := nI m) hF.1 ?_
              refine V_iaddN dX11_countOfMany_73 ?_
              refine V_icmp_geZ (tgt := 89) (a := x.toInt) (b := ((40 + m : Nat) : Int)) dX11_countOfMany_74 rfl rfl (nI_toInt (by omega)) (fun h74 => ?_) (fun h74 => ?_)
              · skip
                refine V_iload_n dX11_countOfMany_89 rfl ?_
                refine V_bipush (v := nI 100) dX11_countOfMany_90 rfl ?_
                refine V_icmp_ltZ (tgt := 114) (a := x.toInt) (b := 100) dX11_countOfMany_92 rfl rfl (by decide) (fun h92 => ?_) (fun h92 => ?_)
                · skip
                  refine V_iconst (v := (-1)) dX11_countOfMany_114 rfl ?_
                  exact V_iret ⟨Or.inl rfl, dX11_countOfMany_115⟩ ⟨Nat.le_of_ble_eq_true rfl, Nat.le_of_ble_eq_true rfl⟩ ⟨rfl, congrArg (fun z => some (Value.int z)) (onN_hi hx).symm, rfl, rfl⟩
                · skip
                  refine V_iload_n dX11_countOfMany_95 rfl ?_
                  refine V_sipush (v := nI 164) dX11_countOfMany_96 rfl ?_
                  refine V_icmp_geZ (tgt := 114) (a := x.toInt) (b := 164) dX11_countOfMany_99 rfl rfl (by decide) (fun h99 => ?_) (fun h99 => ?_)
                  · skip
                    refine V_iconst (v := (-1)) dX11_countOfMany_114 rfl ?_
                    exact V_iret ⟨Or.inl rfl, dX11_countOfMany_115⟩ ⟨Nat.le_of_ble_eq_true rfl, Nat.le_of_ble_eq_true rfl⟩ ⟨rfl, congrArg (fun z => some (Value.int z)) (onN_hi hx).symm, rfl, rfl⟩
                  · skip
                    exfalso; omega
              · skip
                exfalso; omega
          · skip
            exfalso; omega
      · skip
        exfalso; omega
  · by_cases hr : 10 ≤ k ∧ k < 14
    · rcases (show k = 10 ∨ k = 11 ∨ k = 12 ∨ k = 13 by omega) with e | e | e | e <;> subst e
      · skip
        refine V_iload_n dX11_countOfMany_0 rfl ?_
        refine V_bipush (v := nI 10) dX11_countOfMany_1 rfl ?_
        refine V_icmp_lt (tgt := 25) dX11_countOfMany_3 rfl (fun h => absurd h (by decide)) (fun _ => ?_)
        refine V_iload_n dX11_countOfMany_6 rfl ?_
        refine V_bipush (v := nI 14) dX11_countOfMany_7 rfl ?_
        refine V_icmp_ge (tgt := 25) dX11_countOfMany_9 rfl (fun h => absurd h (by decide)) (fun _ => ?_)
        refine V_aload_n dX11_countOfMany_12 rfl ?_
        refine V_getR (b := 18) dX11_countOfMany_13 fX11_53 ⟨Nat.le_of_ble_eq_true rfl, Nat.le_of_ble_eq_true rfl⟩ rfl rfl rfl ?_
        refine V_iload_n dX11_countOfMany_16 rfl ?_
        refine V_bipush (v := nI 10) dX11_countOfMany_17 rfl ?_
        refine V_isubN dX11_countOfMany_19 (by omega) ?_
        refine V_aald (b := 19) dX11_countOfMany_20 ⟨Nat.le_of_ble_eq_true rfl, Nat.le_of_ble_eq_true rfl⟩ rfl (vp_in_nI (by decide) (by decide)) (by decide) ?_
        refine V_getI dX11_countOfMany_21 fX11_351 ⟨Nat.le_of_ble_eq_true rfl, Nat.le_of_ble_eq_true rfl⟩ rfl rfl ?_
        refine V_eqI (y := nI (cc 0)) (hC.2.2 0 (by decide)).1 ?_
        exact V_iret ⟨Or.inl rfl, dX11_countOfMany_24⟩ ⟨Nat.le_of_ble_eq_true rfl, Nat.le_of_ble_eq_true rfl⟩ ⟨rfl, congrArg (fun z => some (Value.int z)) ((onN_k (n := 164) (k := 10) (d := -1) (f := (cntM cc m sd xs ys (I 42))) (by decide) (by decide)).trans (if_pos (show 10 ≤ 10 ∧ 10 < 14 by decide))).symm, rfl, rfl⟩
      · skip
        refine V_iload_n dX11_countOfMany_0 rfl ?_
        refine V_bipush (v := nI 10) dX11_countOfMany_1 rfl ?_
        refine V_icmp_lt (tgt := 25) dX11_countOfMany_3 rfl (fun h => absurd h (by decide)) (fun _ => ?_)
        refine V_iload_n dX11_countOfMany_6 rfl ?_
        refine V_bipush (v := nI 14) dX11_countOfMany_7 rfl ?_
        refine V_icmp_ge (tgt := 25) dX11_countOfMany_9 rfl (fun h => absurd h (by decide)) (fun _ => ?_)
        refine V_aload_n dX11_countOfMany_12 rfl ?_
        refine V_getR (b := 18) dX11_countOfMany_13 fX11_53 ⟨Nat.le_of_ble_eq_true rfl, Nat.le_of_ble_eq_true rfl⟩ rfl rfl rfl ?_
        refine V_iload_n dX11_countOfMany_16 rfl ?_
        refine V_bipush (v := nI 10) dX11_countOfMany_17 rfl ?_
        refine V_isubN dX11_countOfMany_19 (by omega) ?_
        refine V_aald (b := 21) dX11_countOfMany_20 ⟨Nat.le_of_ble_eq_true rfl, Nat.le_of_ble_eq_true rfl⟩ rfl (vp_in_nI (by decide) (by decide)) (by decide) ?_
        refine V_getI dX11_countOfMany_21 fX11_351 ⟨Nat.le_of_ble_eq_true rfl, Nat.le_of_ble_eq_true rfl⟩ rfl rfl ?_
        refine V_eqI (y := nI (cc 1)) (hC.2.2 1 (by decide)).1 ?_
        exact V_iret ⟨Or.inl rfl, dX11_countOfMany_24⟩ ⟨Nat.le_of_ble_eq_true rfl, Nat.le_of_ble_eq_true rfl⟩ ⟨rfl, congrArg (fun z => some (Value.int z)) ((onN_k (n := 164) (k := 11) (d := -1) (f := (cntM cc m sd xs ys (I 42))) (by decide) (by decide)).trans (if_pos (show 10 ≤ 11 ∧ 11 < 14 by decide))).symm, rfl, rfl⟩
      · skip
        refine V_iload_n dX11_countOfMany_0 rfl ?_
        refine V_bipush (v := nI 10) dX11_countOfMany_1 rfl ?_
        refine V_icmp_lt (tgt := 25) dX11_countOfMany_3 rfl (fun h => absurd h (by decide)) (fun _ => ?_)
        refine V_iload_n dX11_countOfMany_6 rfl ?_
        refine V_bipush (v := nI 14) dX11_countOfMany_7 rfl ?_
        refine V_icmp_ge (tgt := 25) dX11_countOfMany_9 rfl (fun h => absurd h (by decide)) (fun _ => ?_)
        refine V_aload_n dX11_countOfMany_12 rfl ?_
        refine V_getR (b := 18) dX11_countOfMany_13 fX11_53 ⟨Nat.le_of_ble_eq_true rfl, Nat.le_of_ble_eq_true rfl⟩ rfl rfl rfl ?_
        refine V_iload_n dX11_countOfMany_16 rfl ?_
        refine V_bipush (v := nI 10) dX11_countOfMany_17 rfl ?_
        refine V_isubN dX11_countOfMany_19 (by omega) ?_
        refine V_aald (b := 23) dX11_countOfMany_20 ⟨Nat.le_of_ble_eq_true rfl, Nat.le_of_ble_eq_true rfl⟩ rfl (vp_in_nI (by decide) (by decide)) (by decide) ?_
        refine V_getI dX11_countOfMany_21 fX11_351 ⟨Nat.le_of_ble_eq_true rfl, Nat.le_of_ble_eq_true rfl⟩ rfl rfl ?_
        refine V_eqI (y := nI (cc 2)) (hC.2.2 2 (by decide)).1 ?_
        exact V_iret ⟨Or.inl rfl, dX11_countOfMany_24⟩ ⟨Nat.le_of_ble_eq_true rfl, Nat.le_of_ble_eq_true rfl⟩ ⟨rfl, congrArg (fun z => some (Value.int z)) ((onN_k (n := 164) (k := 12) (d := -1) (f := (cntM cc m sd xs ys (I 42))) (by decide) (by decide)).trans (if_pos (show 10 ≤ 12 ∧ 12 < 14 by decide))).symm, rfl, rfl⟩
      · skip
        refine V_iload_n dX11_countOfMany_0 rfl ?_
        refine V_bipush (v := nI 10) dX11_countOfMany_1 rfl ?_
        refine V_icmp_lt (tgt := 25) dX11_countOfMany_3 rfl (fun h => absurd h (by decide)) (fun _ => ?_)
        refine V_iload_n dX11_countOfMany_6 rfl ?_
        refine V_bipush (v := nI 14) dX11_countOfMany_7 rfl ?_
        refine V_icmp_ge (tgt := 25) dX11_countOfMany_9 rfl (fun h => absurd h (by decide)) (fun _ => ?_)
        refine V_aload_n dX11_countOfMany_12 rfl ?_
        refine V_getR (b := 18) dX11_countOfMany_13 fX11_53 ⟨Nat.le_of_ble_eq_true rfl, Nat.le_of_ble_eq_true rfl⟩ rfl rfl rfl ?_
        refine V_iload_n dX11_countOfMany_16 rfl ?_
        refine V_bipush (v := nI 10) dX11_countOfMany_17 rfl ?_
        refine V_isubN dX11_countOfMany_19 (by omega) ?_
        refine V_aald (b := 25) dX11_countOfMany_20 ⟨Nat.le_of_ble_eq_true rfl, Nat.le_of_ble_eq_true rfl⟩ rfl (vp_in_nI (by decide) (by decide)) (by decide) ?_
        refine V_getI dX11_countOfMany_21 fX11_351 ⟨Nat.le_of_ble_eq_true rfl, Nat.le_of_ble_eq_true rfl⟩ rfl rfl ?_
        refine V_eqI (y := nI (cc 3)) (hC.2.2 3 (by decide)).1 ?_
        exact V_iret ⟨Or.inl rfl, dX11_countOfMany_24⟩ ⟨Nat.le_of_ble_eq_true rfl, Nat.le_of_ble_eq_true rfl⟩ ⟨rfl, congrArg (fun z => some (Value.int z)) ((onN_k (n := 164) (k := 13) (d := -1) (f := (cntM cc m sd xs ys (I 42))) (by decide) (by decide)).trans (if_pos (show 10 ≤ 13 ∧ 13 < 14 by decide))).symm, rfl, rfl⟩
    · skip
      refine V_iload_n dX11_countOfMany_0 rfl ?_
      refine V_bipush (v := nI 10) dX11_countOfMany_1 rfl ?_
      refine V_icmp_ltN (tgt := 25) dX11_countOfMany_3 rfl (by omega) (by omega) (fun h3 => ?_) (fun h3 => ?_)
      · skip
        refine V_iload_n dX11_countOfMany_25 rfl ?_
        refine V_bipush (v := nI 20) dX11_countOfMany_26 rfl ?_
        refine V_icmp_ltN (tgt := 57) dX11_countOfMany_28 rfl (by omega) (by omega) (fun h28 => ?_) (fun h28 => ?_)
        · skip
          refine V_iload_n dX11_countOfMany_57 rfl ?_
          refine V_bipush (v := nI 40) dX11_countOfMany_58 rfl ?_
          refine V_icmp_ltN (tgt := 89) dX11_countOfMany_60 rfl (by omega) (by omega) (fun h60 => ?_) (fun h60 => ?_)
          · skip
            refine V_iload_n dX11_countOfMany_89 rfl ?_
            refine V_bipush (v := nI 100) dX11_countOfMany_90 rfl ?_
            refine V_icmp_ltN (tgt := 114) dX11_countOfMany_92 rfl (by omega) (by omega) (fun h92 => ?_) (fun h92 => ?_)
            · skip
              refine V_iconst (v := (-1)) dX11_countOfMany_114 rfl ?_
              exact V_iret ⟨Or.inl rfl, dX11_countOfMany_115⟩ ⟨Nat.le_of_ble_eq_true rfl, Nat.le_of_ble_eq_true rfl⟩ ⟨rfl, congrArg (fun z => some (Value.int z)) ((onN_k (f := (cntM cc m sd xs ys (I 42))) (by omega) (by decide)).trans ((if_neg hr).trans ((if_neg (by omega)).trans ((if_neg (by omega)).trans (if_neg (by omega)))))).symm, rfl, rfl⟩
            · skip
              refine V_iload_n dX11_countOfMany_95 rfl ?_
              refine V_sipush (v := nI 164) dX11_countOfMany_96 rfl ?_
              refine V_icmp_geN (tgt := 114) dX11_countOfMany_99 rfl (by omega) (by omega) (fun h99 => ?_) (fun h99 => ?_)
              · skip
                refine V_iconst (v := (-1)) dX11_countOfMany_114 rfl ?_
                exact V_iret ⟨Or.inl rfl, dX11_countOfMany_115⟩ ⟨Nat.le_of_ble_eq_true rfl, Nat.le_of_ble_eq_true rfl⟩ ⟨rfl, congrArg (fun z => some (Value.int z)) ((onN_k (f := (cntM cc m sd xs ys (I 42))) (by omega) (by decide)).trans ((if_neg hr).trans ((if_neg (by omega)).trans ((if_neg (by omega)).trans (if_neg (by omega)))))).symm, rfl, rfl⟩
              · skip
                refine V_aload_n dX11_countOfMany_102 rfl ?_
                refine V_getR (b := 41) dX11_countOfMany_103 fX11_71 ⟨Nat.le_of_ble_eq_true rfl, Nat.le_of_ble_eq_true rfl⟩ rfl rfl rfl ?_
                refine V_iload_n dX11_countOfMany_106 rfl ?_
                refine V_bipush (v := nI 100) dX11_countOfMany_107 rfl ?_
                refine V_isubN dX11_countOfMany_109 (by omega) ?_
                refine V_callV (As := [.int (nI (k - 100))]) (st := []) (a := 41) dX11_countOfMany_110 kX5_heightAt lX11_348 (by decide) rfl rfl (Nat.le_of_ble_eq_true rfl) ⟨Nat.le_of_ble_eq_true rfl, Nat.le_of_ble_eq_true rfl⟩ ⟨Nat.le_of_ble_eq_true rfl, Nat.le_of_ble_eq_true rfl⟩ rfl ⟨rfl, by decide⟩ (c_heightAt (by omega)) ?_
                rintro _ _ _ _ ⟨rfl, rfl, rfl, rfl⟩
                exact V_iret ⟨Or.inl rfl, dX11_countOfMany_113⟩ ⟨Nat.le_of_ble_eq_true rfl, Nat.le_of_ble_eq_true rfl⟩ ⟨rfl, congrArg (fun z => some (Value.int z)) ((onN_k (f := (cntM cc m sd xs ys (I 42))) (by omega) (by decide)).trans ((if_neg hr).trans ((if_neg (by omega)).trans ((if_neg (by omega)).trans (if_pos (by omega)))))).symm, rfl, rfl⟩
          · skip
            refine V_iload_n dX11_countOfMany_63 rfl ?_
            refine V_bipush (v := nI 40) dX11_countOfMany_64 rfl ?_
            refine V_aload_n dX11_countOfMany_66 rfl ?_
            refine V_getR (b := 49) dX11_countOfMany_67 fX11_85 ⟨Nat.le_of_ble_eq_true rfl, Nat.le_of_ble_eq_true rfl⟩ rfl rfl rfl ?_
            refine V_getI dX11_countOfMany_70 fX11_308 ⟨Nat.le_of_ble_eq_true rfl, Nat.le_of_ble_eq_true rfl⟩ rfl rfl ?_
            refine V_eqI (y := nI m) hF.1 ?_
            refine V_iaddN dX11_countOfMany_73 ?_
            refine V_icmp_geN (tgt := 89) dX11_countOfMany_74 rfl (by omega) (by omega) (fun h74 => ?_) (fun h74 => ?_)
            · skip
              refine V_iload_n dX11_countOfMany_89 rfl ?_
              refine V_bipush (v := nI 100) dX11_countOfMany_90 rfl ?_
              refine V_icmp_ltN (tgt := 114) dX11_countOfMany_92 rfl (by omega) (by omega) (fun h92 => ?_) (fun h92 => ?_)
              · skip
                refine V_iconst (v := (-1)) dX11_countOfMany_114 rfl ?_
                exact V_iret ⟨Or.inl rfl, dX11_countOfMany_115⟩ ⟨Nat.le_of_ble_eq_true rfl, Nat.le_of_ble_eq_true rfl⟩ ⟨rfl, congrArg (fun z => some (Value.int z)) ((onN_k (f := (cntM cc m sd xs ys (I 42))) (by omega) (by decide)).trans ((if_neg hr).trans ((if_neg (by omega)).trans ((if_neg (by omega)).trans (if_neg (by omega)))))).symm, rfl, rfl⟩
              · skip
                refine V_iload_n dX11_countOfMany_95 rfl ?_
                refine V_sipush (v := nI 164) dX11_countOfMany_96 rfl ?_
                refine V_icmp_geN (tgt := 114) dX11_countOfMany_99 rfl (by omega) (by omega) (fun h99 => ?_) (fun h99 => ?_)
                · skip
                  refine V_iconst (v := (-1)) dX11_countOfMany_114 rfl ?_
                  exact V_iret ⟨Or.inl rfl, dX11_countOfMany_115⟩ ⟨Nat.le_of_ble_eq_true rfl, Nat.le_of_ble_eq_true rfl⟩ ⟨rfl, congrArg (fun z => some (Value.int z)) ((onN_k (f := (cntM cc m sd xs ys (I 42))) (by omega) (by decide)).trans ((if_neg hr).trans ((if_neg (by omega)).trans ((if_neg (by omega)).trans (if_neg (by omega)))))).symm, rfl, rfl⟩
                · skip
                  refine V_aload_n dX11_countOfMany_102 rfl ?_
                  refine V_getR (b := 41) dX11_countOfMany_103 fX11_71 ⟨Nat.le_of_ble_eq_true rfl, Nat.le_of_ble_eq_true rfl⟩ rfl rfl rfl ?_
                  refine V_iload_n dX11_countOfMany_106 rfl ?_
                  refine V_bipush (v := nI 100) dX11_countOfMany_107 rfl ?_
                  refine V_isubN dX11_countOfMany_109 (by omega) ?_
                  refine V_callV (As := [.int (nI (k - 100))]) (st := []) (a := 41) dX11_countOfMany_110 kX5_heightAt lX11_348 (by decide) rfl rfl (Nat.le_of_ble_eq_true rfl) ⟨Nat.le_of_ble_eq_true rfl, Nat.le_of_ble_eq_true rfl⟩ ⟨Nat.le_of_ble_eq_true rfl, Nat.le_of_ble_eq_true rfl⟩ rfl ⟨rfl, by decide⟩ (c_heightAt (by omega)) ?_
                  rintro _ _ _ _ ⟨rfl, rfl, rfl, rfl⟩
                  exact V_iret ⟨Or.inl rfl, dX11_countOfMany_113⟩ ⟨Nat.le_of_ble_eq_true rfl, Nat.le_of_ble_eq_true rfl⟩ ⟨rfl, congrArg (fun z => some (Value.int z)) ((onN_k (f := (cntM cc m sd xs ys (I 42))) (by omega) (by decide)).trans ((if_neg hr).trans ((if_neg (by omega)).trans ((if_neg (by omega)).trans (if_pos (by omega)))))).symm, rfl, rfl⟩
            · skip
              refine V_aload_n dX11_countOfMany_77 rfl ?_
              refine V_getR (b := 49) dX11_countOfMany_78 fX11_85 ⟨Nat.le_of_ble_eq_true rfl, Nat.le_of_ble_eq_true rfl⟩ rfl rfl rfl ?_
              refine V_iload_n dX11_countOfMany_81 rfl ?_
              refine V_bipush (v := nI 40) dX11_countOfMany_82 rfl ?_
              refine V_isubN dX11_countOfMany_84 (by omega) ?_
              refine V_callV (As := [.int (nI (k - 40))]) (st := []) (a := 49) dX11_countOfMany_85 kX4_placeOf lX11_360 (by decide) rfl rfl (Nat.le_of_ble_eq_true rfl) ⟨Nat.le_of_ble_eq_true rfl, Nat.le_of_ble_eq_true rfl⟩ ⟨Nat.le_of_ble_eq_true rfl, Nat.le_of_ble_eq_true rfl⟩ rfl ⟨rfl, by decide⟩ (c_placeOf4 hF (by omega)) ?_
              rintro _ _ _ _ ⟨rfl, rfl, rfl, rfl⟩
              exact V_iret ⟨Or.inl rfl, dX11_countOfMany_88⟩ ⟨Nat.le_of_ble_eq_true rfl, Nat.le_of_ble_eq_true rfl⟩ ⟨rfl, congrArg (fun z => some (Value.int z)) ((onN_k (f := (cntM cc m sd xs ys (I 42))) (by omega) (by decide)).trans ((if_neg hr).trans ((if_neg (by omega)).trans (if_pos (by omega))))).symm, rfl, rfl⟩
        · skip
          refine V_iload_n dX11_countOfMany_31 rfl ?_
          refine V_bipush (v := nI 20) dX11_countOfMany_32 rfl ?_
          refine V_aload_n dX11_countOfMany_34 rfl ?_
          refine V_getR (b := 49) dX11_countOfMany_35 fX11_85 ⟨Nat.le_of_ble_eq_true rfl, Nat.le_of_ble_eq_true rfl⟩ rfl rfl rfl ?_
          refine V_getI dX11_countOfMany_38 fX11_308 ⟨Nat.le_of_ble_eq_true rfl, Nat.le_of_ble_eq_true rfl⟩ rfl rfl ?_
          refine V_eqI (y := nI m) hF.1 ?_
          refine V_iaddN dX11_countOfMany_41 ?_
          refine V_icmp_geN (tgt := 57) dX11_countOfMany_42 rfl (by omega) (by omega) (fun h42 => ?_) (fun h42 => ?_)
          · skip
            refine V_iload_n dX11_countOfMany_57 rfl ?_
            refine V_bipush (v := nI 40) dX11_countOfMany_58 rfl ?_
            refine V_icmp_ltN (tgt := 89) dX11_countOfMany_60 rfl (by omega) (by omega) (fun h60 => ?_) (fun h60 => ?_)
            · skip
              refine V_iload_n dX11_countOfMany_89 rfl ?_
              refine V_bipush (v := nI 100) dX11_countOfMany_90 rfl ?_
              refine V_icmp_ltN (tgt := 114) dX11_countOfMany_92 rfl (by omega) (by omega) (fun h92 => ?_) (fun h92 => ?_)
              · skip
                refine V_iconst (v := (-1)) dX11_countOfMany_114 rfl ?_
                exact V_iret ⟨Or.inl rfl, dX11_countOfMany_115⟩ ⟨Nat.le_of_ble_eq_true rfl, Nat.le_of_ble_eq_true rfl⟩ ⟨rfl, congrArg (fun z => some (Value.int z)) ((onN_k (f := (cntM cc m sd xs ys (I 42))) (by omega) (by decide)).trans ((if_neg hr).trans ((if_neg (by omega)).trans ((if_neg (by omega)).trans (if_neg (by omega)))))).symm, rfl, rfl⟩
              · skip
                refine V_iload_n dX11_countOfMany_95 rfl ?_
                refine V_sipush (v := nI 164) dX11_countOfMany_96 rfl ?_
                refine V_icmp_geN (tgt := 114) dX11_countOfMany_99 rfl (by omega) (by omega) (fun h99 => ?_) (fun h99 => ?_)
                · skip
                  refine V_iconst (v := (-1)) dX11_countOfMany_114 rfl ?_
                  exact V_iret ⟨Or.inl rfl, dX11_countOfMany_115⟩ ⟨Nat.le_of_ble_eq_true rfl, Nat.le_of_ble_eq_true rfl⟩ ⟨rfl, congrArg (fun z => some (Value.int z)) ((onN_k (f := (cntM cc m sd xs ys (I 42))) (by omega) (by decide)).trans ((if_neg hr).trans ((if_neg (by omega)).trans ((if_neg (by omega)).trans (if_neg (by omega)))))).symm, rfl, rfl⟩
                · skip
                  refine V_aload_n dX11_countOfMany_102 rfl ?_
                  refine V_getR (b := 41) dX11_countOfMany_103 fX11_71 ⟨Nat.le_of_ble_eq_true rfl, Nat.le_of_ble_eq_true rfl⟩ rfl rfl rfl ?_
                  refine V_iload_n dX11_countOfMany_106 rfl ?_
                  refine V_bipush (v := nI 100) dX11_countOfMany_107 rfl ?_
                  refine V_isubN dX11_countOfMany_109 (by omega) ?_
                  refine V_callV (As := [.int (nI (k - 100))]) (st := []) (a := 41) dX11_countOfMany_110 kX5_heightAt lX11_348 (by decide) rfl rfl (Nat.le_of_ble_eq_true rfl) ⟨Nat.le_of_ble_eq_true rfl, Nat.le_of_ble_eq_true rfl⟩ ⟨Nat.le_of_ble_eq_true rfl, Nat.le_of_ble_eq_true rfl⟩ rfl ⟨rfl, by decide⟩ (c_heightAt (by omega)) ?_
                  rintro _ _ _ _ ⟨rfl, rfl, rfl, rfl⟩
                  exact V_iret ⟨Or.inl rfl, dX11_countOfMany_113⟩ ⟨Nat.le_of_ble_eq_true rfl, Nat.le_of_ble_eq_true rfl⟩ ⟨rfl, congrArg (fun z => some (Value.int z)) ((onN_k (f := (cntM cc m sd xs ys (I 42))) (by omega) (by decide)).trans ((if_neg hr).trans ((if_neg (by omega)).trans ((if_neg (by omega)).trans (if_pos (by omega)))))).symm, rfl, rfl⟩
            · skip
              refine V_iload_n dX11_countOfMany_63 rfl ?_
              refine V_bipush (v := nI 40) dX11_countOfMany_64 rfl ?_
              refine V_aload_n dX11_countOfMany_66 rfl ?_
              refine V_getR (b := 49) dX11_countOfMany_67 fX11_85 ⟨Nat.le_of_ble_eq_true rfl, Nat.le_of_ble_eq_true rfl⟩ rfl rfl rfl ?_
              refine V_getI dX11_countOfMany_70 fX11_308 ⟨Nat.le_of_ble_eq_true rfl, Nat.le_of_ble_eq_true rfl⟩ rfl rfl ?_
              refine V_eqI (y := nI m) hF.1 ?_
              refine V_iaddN dX11_countOfMany_73 ?_
              refine V_icmp_geN (tgt := 89) dX11_countOfMany_74 rfl (by omega) (by omega) (fun h74 => ?_) (fun h74 => ?_)
              · skip
                refine V_iload_n dX11_countOfMany_89 rfl ?_
                refine V_bipush (v := nI 100) dX11_countOfMany_90 rfl ?_
                refine V_icmp_ltN (tgt := 114) dX11_countOfMany_92 rfl (by omega) (by omega) (fun h92 => ?_) (fun h92 => ?_)
                · skip
                  refine V_iconst (v := (-1)) dX11_countOfMany_114 rfl ?_
                  exact V_iret ⟨Or.inl rfl, dX11_countOfMany_115⟩ ⟨Nat.le_of_ble_eq_true rfl, Nat.le_of_ble_eq_true rfl⟩ ⟨rfl, congrArg (fun z => some (Value.int z)) ((onN_k (f := (cntM cc m sd xs ys (I 42))) (by omega) (by decide)).trans ((if_neg hr).trans ((if_neg (by omega)).trans ((if_neg (by omega)).trans (if_neg (by omega)))))).symm, rfl, rfl⟩
                · skip
                  refine V_iload_n dX11_countOfMany_95 rfl ?_
                  refine V_sipush (v := nI 164) dX11_countOfMany_96 rfl ?_
                  refine V_icmp_geN (tgt := 114) dX11_countOfMany_99 rfl (by omega) (by omega) (fun h99 => ?_) (fun h99 => ?_)
                  · skip
                    refine V_iconst (v := (-1)) dX11_countOfMany_114 rfl ?_
                    exact V_iret ⟨Or.inl rfl, dX11_countOfMany_115⟩ ⟨Nat.le_of_ble_eq_true rfl, Nat.le_of_ble_eq_true rfl⟩ ⟨rfl, congrArg (fun z => some (Value.int z)) ((onN_k (f := (cntM cc m sd xs ys (I 42))) (by omega) (by decide)).trans ((if_neg hr).trans ((if_neg (by omega)).trans ((if_neg (by omega)).trans (if_neg (by omega)))))).symm, rfl, rfl⟩
                  · skip
                    refine V_aload_n dX11_countOfMany_102 rfl ?_
                    refine V_getR (b := 41) dX11_countOfMany_103 fX11_71 ⟨Nat.le_of_ble_eq_true rfl, Nat.le_of_ble_eq_true rfl⟩ rfl rfl rfl ?_
                    refine V_iload_n dX11_countOfMany_106 rfl ?_
                    refine V_bipush (v := nI 100) dX11_countOfMany_107 rfl ?_
                    refine V_isubN dX11_countOfMany_109 (by omega) ?_
                    refine V_callV (As := [.int (nI (k - 100))]) (st := []) (a := 41) dX11_countOfMany_110 kX5_heightAt lX11_348 (by decide) rfl rfl (Nat.le_of_ble_eq_true rfl) ⟨Nat.le_of_ble_eq_true rfl, Nat.le_of_ble_eq_true rfl⟩ ⟨Nat.le_of_ble_eq_true rfl, Nat.le_of_ble_eq_true rfl⟩ rfl ⟨rfl, by decide⟩ (c_heightAt (by omega)) ?_
                    rintro _ _ _ _ ⟨rfl, rfl, rfl, rfl⟩
                    exact V_iret ⟨Or.inl rfl, dX11_countOfMany_113⟩ ⟨Nat.le_of_ble_eq_true rfl, Nat.le_of_ble_eq_true rfl⟩ ⟨rfl, congrArg (fun z => some (Value.int z)) ((onN_k (f := (cntM cc m sd xs ys (I 42))) (by omega) (by decide)).trans ((if_neg hr).trans ((if_neg (by omega)).trans ((if_neg (by omega)).trans (if_pos (by omega)))))).symm, rfl, rfl⟩
              · skip
                refine V_aload_n dX11_countOfMany_77 rfl ?_
                refine V_getR (b := 49) dX11_countOfMany_78 fX11_85 ⟨Nat.le_of_ble_eq_true rfl, Nat.le_of_ble_eq_true rfl⟩ rfl rfl rfl ?_
                refine V_iload_n dX11_countOfMany_81 rfl ?_
                refine V_bipush (v := nI 40) dX11_countOfMany_82 rfl ?_
                refine V_isubN dX11_countOfMany_84 (by omega) ?_
                refine V_callV (As := [.int (nI (k - 40))]) (st := []) (a := 49) dX11_countOfMany_85 kX4_placeOf lX11_360 (by decide) rfl rfl (Nat.le_of_ble_eq_true rfl) ⟨Nat.le_of_ble_eq_true rfl, Nat.le_of_ble_eq_true rfl⟩ ⟨Nat.le_of_ble_eq_true rfl, Nat.le_of_ble_eq_true rfl⟩ rfl ⟨rfl, by decide⟩ (c_placeOf4 hF (by omega)) ?_
                rintro _ _ _ _ ⟨rfl, rfl, rfl, rfl⟩
                exact V_iret ⟨Or.inl rfl, dX11_countOfMany_88⟩ ⟨Nat.le_of_ble_eq_true rfl, Nat.le_of_ble_eq_true rfl⟩ ⟨rfl, congrArg (fun z => some (Value.int z)) ((onN_k (f := (cntM cc m sd xs ys (I 42))) (by omega) (by decide)).trans ((if_neg hr).trans ((if_neg (by omega)).trans (if_pos (by omega))))).symm, rfl, rfl⟩
          · skip
            refine V_aload_n dX11_countOfMany_45 rfl ?_
            refine V_getR (b := 49) dX11_countOfMany_46 fX11_85 ⟨Nat.le_of_ble_eq_true rfl, Nat.le_of_ble_eq_true rfl⟩ rfl rfl rfl ?_
            refine V_iload_n dX11_countOfMany_49 rfl ?_
            refine V_bipush (v := nI 20) dX11_countOfMany_50 rfl ?_
            refine V_isubN dX11_countOfMany_52 (by omega) ?_
            refine V_callV (As := [.int (nI (k - 20))]) (st := []) (a := 49) dX11_countOfMany_53 kX4_sideOf lX11_357 (by decide) rfl rfl (Nat.le_of_ble_eq_true rfl) ⟨Nat.le_of_ble_eq_true rfl, Nat.le_of_ble_eq_true rfl⟩ ⟨Nat.le_of_ble_eq_true rfl, Nat.le_of_ble_eq_true rfl⟩ rfl ⟨rfl, by decide⟩ (c_sideOf hF (by omega)) ?_
            rintro _ _ _ _ ⟨rfl, rfl, rfl, rfl⟩
            exact V_iret ⟨Or.inl rfl, dX11_countOfMany_56⟩ ⟨Nat.le_of_ble_eq_true rfl, Nat.le_of_ble_eq_true rfl⟩ ⟨rfl, congrArg (fun z => some (Value.int z)) ((onN_k (f := (cntM cc m sd xs ys (I 42))) (by omega) (by decide)).trans ((if_neg hr).trans (if_pos (by omega)))).symm, rfl, rfl⟩
      · skip
        refine V_iload_n dX11_countOfMany_6 rfl ?_
        refine V_bipush (v := nI 14) dX11_countOfMany_7 rfl ?_
        refine V_icmp_geN (tgt := 25) dX11_countOfMany_9 rfl (by omega) (by omega) (fun h9 => ?_) (fun h9 => ?_)
        · skip
          refine V_iload_n dX11_countOfMany_25 rfl ?_
          refine V_bipush (v := nI 20) dX11_countOfMany_26 rfl ?_
          refine V_icmp_ltN (tgt := 57) dX11_countOfMany_28 rfl (by omega) (by omega) (fun h28 => ?_) (fun h28 => ?_)
          · skip
            refine V_iload_n dX11_countOfMany_57 rfl ?_
            refine V_bipush (v := nI 40) dX11_countOfMany_58 rfl ?_
            refine V_icmp_ltN (tgt := 89) dX11_countOfMany_60 rfl (by omega) (by omega) (fun h60 => ?_) (fun h60 => ?_)
            · skip
              refine V_iload_n dX11_countOfMany_89 rfl ?_
              refine V_bipush (v := nI 100) dX11_countOfMany_90 rfl ?_
              refine V_icmp_ltN (tgt := 114) dX11_countOfMany_92 rfl (by omega) (by omega) (fun h92 => ?_) (fun h92 => ?_)
              · skip
                refine V_iconst (v := (-1)) dX11_countOfMany_114 rfl ?_
                exact V_iret ⟨Or.inl rfl, dX11_countOfMany_115⟩ ⟨Nat.le_of_ble_eq_true rfl, Nat.le_of_ble_eq_true rfl⟩ ⟨rfl, congrArg (fun z => some (Value.int z)) ((onN_k (f := (cntM cc m sd xs ys (I 42))) (by omega) (by decide)).trans ((if_neg hr).trans ((if_neg (by omega)).trans ((if_neg (by omega)).trans (if_neg (by omega)))))).symm, rfl, rfl⟩
              · skip
                refine V_iload_n dX11_countOfMany_95 rfl ?_
                refine V_sipush (v := nI 164) dX11_countOfMany_96 rfl ?_
                refine V_icmp_geN (tgt := 114) dX11_countOfMany_99 rfl (by omega) (by omega) (fun h99 => ?_) (fun h99 => ?_)
                · skip
                  refine V_iconst (v := (-1)) dX11_countOfMany_114 rfl ?_
                  exact V_iret ⟨Or.inl rfl, dX11_countOfMany_115⟩ ⟨Nat.le_of_ble_eq_true rfl, Nat.le_of_ble_eq_true rfl⟩ ⟨rfl, congrArg (fun z => some (Value.int z)) ((onN_k (f := (cntM cc m sd xs ys (I 42))) (by omega) (by decide)).trans ((if_neg hr).trans ((if_neg (by omega)).trans ((if_neg (by omega)).trans (if_neg (by omega)))))).symm, rfl, rfl⟩
                · skip
                  refine V_aload_n dX11_countOfMany_102 rfl ?_
                  refine V_getR (b := 41) dX11_countOfMany_103 fX11_71 ⟨Nat.le_of_ble_eq_true rfl, Nat.le_of_ble_eq_true rfl⟩ rfl rfl rfl ?_
                  refine V_iload_n dX11_countOfMany_106 rfl ?_
                  refine V_bipush (v := nI 100) dX11_countOfMany_107 rfl ?_
                  refine V_isubN dX11_countOfMany_109 (by omega) ?_
                  refine V_callV (As := [.int (nI (k - 100))]) (st := []) (a := 41) dX11_countOfMany_110 kX5_heightAt lX11_348 (by decide) rfl rfl (Nat.le_of_ble_eq_true rfl) ⟨Nat.le_of_ble_eq_true rfl, Nat.le_of_ble_eq_true rfl⟩ ⟨Nat.le_of_ble_eq_true rfl, Nat.le_of_ble_eq_true rfl⟩ rfl ⟨rfl, by decide⟩ (c_heightAt (by omega)) ?_
                  rintro _ _ _ _ ⟨rfl, rfl, rfl, rfl⟩
                  exact V_iret ⟨Or.inl rfl, dX11_countOfMany_113⟩ ⟨Nat.le_of_ble_eq_true rfl, Nat.le_of_ble_eq_true rfl⟩ ⟨rfl, congrArg (fun z => some (Value.int z)) ((onN_k (f := (cntM cc m sd xs ys (I 42))) (by omega) (by decide)).trans ((if_neg hr).trans ((if_neg (by omega)).trans ((if_neg (by omega)).trans (if_pos (by omega)))))).symm, rfl, rfl⟩
            · skip
              refine V_iload_n dX11_countOfMany_63 rfl ?_
              refine V_bipush (v := nI 40) dX11_countOfMany_64 rfl ?_
              refine V_aload_n dX11_countOfMany_66 rfl ?_
              refine V_getR (b := 49) dX11_countOfMany_67 fX11_85 ⟨Nat.le_of_ble_eq_true rfl, Nat.le_of_ble_eq_true rfl⟩ rfl rfl rfl ?_
              refine V_getI dX11_countOfMany_70 fX11_308 ⟨Nat.le_of_ble_eq_true rfl, Nat.le_of_ble_eq_true rfl⟩ rfl rfl ?_
              refine V_eqI (y := nI m) hF.1 ?_
              refine V_iaddN dX11_countOfMany_73 ?_
              refine V_icmp_geN (tgt := 89) dX11_countOfMany_74 rfl (by omega) (by omega) (fun h74 => ?_) (fun h74 => ?_)
              · skip
                refine V_iload_n dX11_countOfMany_89 rfl ?_
                refine V_bipush (v := nI 100) dX11_countOfMany_90 rfl ?_
                refine V_icmp_ltN (tgt := 114) dX11_countOfMany_92 rfl (by omega) (by omega) (fun h92 => ?_) (fun h92 => ?_)
                · skip
                  refine V_iconst (v := (-1)) dX11_countOfMany_114 rfl ?_
                  exact V_iret ⟨Or.inl rfl, dX11_countOfMany_115⟩ ⟨Nat.le_of_ble_eq_true rfl, Nat.le_of_ble_eq_true rfl⟩ ⟨rfl, congrArg (fun z => some (Value.int z)) ((onN_k (f := (cntM cc m sd xs ys (I 42))) (by omega) (by decide)).trans ((if_neg hr).trans ((if_neg (by omega)).trans ((if_neg (by omega)).trans (if_neg (by omega)))))).symm, rfl, rfl⟩
                · skip
                  refine V_iload_n dX11_countOfMany_95 rfl ?_
                  refine V_sipush (v := nI 164) dX11_countOfMany_96 rfl ?_
                  refine V_icmp_geN (tgt := 114) dX11_countOfMany_99 rfl (by omega) (by omega) (fun h99 => ?_) (fun h99 => ?_)
                  · skip
                    refine V_iconst (v := (-1)) dX11_countOfMany_114 rfl ?_
                    exact V_iret ⟨Or.inl rfl, dX11_countOfMany_115⟩ ⟨Nat.le_of_ble_eq_true rfl, Nat.le_of_ble_eq_true rfl⟩ ⟨rfl, congrArg (fun z => some (Value.int z)) ((onN_k (f := (cntM cc m sd xs ys (I 42))) (by omega) (by decide)).trans ((if_neg hr).trans ((if_neg (by omega)).trans ((if_neg (by omega)).trans (if_neg (by omega)))))).symm, rfl, rfl⟩
                  · skip
                    refine V_aload_n dX11_countOfMany_102 rfl ?_
                    refine V_getR (b := 41) dX11_countOfMany_103 fX11_71 ⟨Nat.le_of_ble_eq_true rfl, Nat.le_of_ble_eq_true rfl⟩ rfl rfl rfl ?_
                    refine V_iload_n dX11_countOfMany_106 rfl ?_
                    refine V_bipush (v := nI 100) dX11_countOfMany_107 rfl ?_
                    refine V_isubN dX11_countOfMany_109 (by omega) ?_
                    refine V_callV (As := [.int (nI (k - 100))]) (st := []) (a := 41) dX11_countOfMany_110 kX5_heightAt lX11_348 (by decide) rfl rfl (Nat.le_of_ble_eq_true rfl) ⟨Nat.le_of_ble_eq_true rfl, Nat.le_of_ble_eq_true rfl⟩ ⟨Nat.le_of_ble_eq_true rfl, Nat.le_of_ble_eq_true rfl⟩ rfl ⟨rfl, by decide⟩ (c_heightAt (by omega)) ?_
                    rintro _ _ _ _ ⟨rfl, rfl, rfl, rfl⟩
                    exact V_iret ⟨Or.inl rfl, dX11_countOfMany_113⟩ ⟨Nat.le_of_ble_eq_true rfl, Nat.le_of_ble_eq_true rfl⟩ ⟨rfl, congrArg (fun z => some (Value.int z)) ((onN_k (f := (cntM cc m sd xs ys (I 42))) (by omega) (by decide)).trans ((if_neg hr).trans ((if_neg (by omega)).trans ((if_neg (by omega)).trans (if_pos (by omega)))))).symm, rfl, rfl⟩
              · skip
                refine V_aload_n dX11_countOfMany_77 rfl ?_
                refine V_getR (b := 49) dX11_countOfMany_78 fX11_85 ⟨Nat.le_of_ble_eq_true rfl, Nat.le_of_ble_eq_true rfl⟩ rfl rfl rfl ?_
                refine V_iload_n dX11_countOfMany_81 rfl ?_
                refine V_bipush (v := nI 40) dX11_countOfMany_82 rfl ?_
                refine V_isubN dX11_countOfMany_84 (by omega) ?_
                refine V_callV (As := [.int (nI (k - 40))]) (st := []) (a := 49) dX11_countOfMany_85 kX4_placeOf lX11_360 (by decide) rfl rfl (Nat.le_of_ble_eq_true rfl) ⟨Nat.le_of_ble_eq_true rfl, Nat.le_of_ble_eq_true rfl⟩ ⟨Nat.le_of_ble_eq_true rfl, Nat.le_of_ble_eq_true rfl⟩ rfl ⟨rfl, by decide⟩ (c_placeOf4 hF (by omega)) ?_
                rintro _ _ _ _ ⟨rfl, rfl, rfl, rfl⟩
                exact V_iret ⟨Or.inl rfl, dX11_countOfMany_88⟩ ⟨Nat.le_of_ble_eq_true rfl, Nat.le_of_ble_eq_true rfl⟩ ⟨rfl, congrArg (fun z => some (Value.int z)) ((onN_k (f := (cntM cc m sd xs ys (I 42))) (by omega) (by decide)).trans ((if_neg hr).trans ((if_neg (by omega)).trans (if_pos (by omega))))).symm, rfl, rfl⟩
          · skip
            refine V_iload_n dX11_countOfMany_31 rfl ?_
            refine V_bipush (v := nI 20) dX11_countOfMany_32 rfl ?_
            refine V_aload_n dX11_countOfMany_34 rfl ?_
            refine V_getR (b := 49) dX11_countOfMany_35 fX11_85 ⟨Nat.le_of_ble_eq_true rfl, Nat.le_of_ble_eq_true rfl⟩ rfl rfl rfl ?_
            refine V_getI dX11_countOfMany_38 fX11_308 ⟨Nat.le_of_ble_eq_true rfl, Nat.le_of_ble_eq_true rfl⟩ rfl rfl ?_
            refine V_eqI (y := nI m) hF.1 ?_
            refine V_iaddN dX11_countOfMany_41 ?_
            refine V_icmp_geN (tgt := 57) dX11_countOfMany_42 rfl (by omega) (by omega) (fun h42 => ?_) (fun h42 => ?_)
            · skip
              refine V_iload_n dX11_countOfMany_57 rfl ?_
              refine V_bipush (v := nI 40) dX11_countOfMany_58 rfl ?_
              refine V_icmp_ltN (tgt := 89) dX11_countOfMany_60 rfl (by omega) (by omega) (fun h60 => ?_) (fun h60 => ?_)
              · skip
                refine V_iload_n dX11_countOfMany_89 rfl ?_
                refine V_bipush (v := nI 100) dX11_countOfMany_90 rfl ?_
                refine V_icmp_ltN (tgt := 114) dX11_countOfMany_92 rfl (by omega) (by omega) (fun h92 => ?_) (fun h92 => ?_)
                · skip
                  refine V_iconst (v := (-1)) dX11_countOfMany_114 rfl ?_
                  exact V_iret ⟨Or.inl rfl, dX11_countOfMany_115⟩ ⟨Nat.le_of_ble_eq_true rfl, Nat.le_of_ble_eq_true rfl⟩ ⟨rfl, congrArg (fun z => some (Value.int z)) ((onN_k (f := (cntM cc m sd xs ys (I 42))) (by omega) (by decide)).trans ((if_neg hr).trans ((if_neg (by omega)).trans ((if_neg (by omega)).trans (if_neg (by omega)))))).symm, rfl, rfl⟩
                · skip
                  refine V_iload_n dX11_countOfMany_95 rfl ?_
                  refine V_sipush (v := nI 164) dX11_countOfMany_96 rfl ?_
                  refine V_icmp_geN (tgt := 114) dX11_countOfMany_99 rfl (by omega) (by omega) (fun h99 => ?_) (fun h99 => ?_)
                  · skip
                    refine V_iconst (v := (-1)) dX11_countOfMany_114 rfl ?_
                    exact V_iret ⟨Or.inl rfl, dX11_countOfMany_115⟩ ⟨Nat.le_of_ble_eq_true rfl, Nat.le_of_ble_eq_true rfl⟩ ⟨rfl, congrArg (fun z => some (Value.int z)) ((onN_k (f := (cntM cc m sd xs ys (I 42))) (by omega) (by decide)).trans ((if_neg hr).trans ((if_neg (by omega)).trans ((if_neg (by omega)).trans (if_neg (by omega)))))).symm, rfl, rfl⟩
                  · skip
                    refine V_aload_n dX11_countOfMany_102 rfl ?_
                    refine V_getR (b := 41) dX11_countOfMany_103 fX11_71 ⟨Nat.le_of_ble_eq_true rfl, Nat.le_of_ble_eq_true rfl⟩ rfl rfl rfl ?_
                    refine V_iload_n dX11_countOfMany_106 rfl ?_
                    refine V_bipush (v := nI 100) dX11_countOfMany_107 rfl ?_
                    refine V_isubN dX11_countOfMany_109 (by omega) ?_
                    refine V_callV (As := [.int (nI (k - 100))]) (st := []) (a := 41) dX11_countOfMany_110 kX5_heightAt lX11_348 (by decide) rfl rfl (Nat.le_of_ble_eq_true rfl) ⟨Nat.le_of_ble_eq_true rfl, Nat.le_of_ble_eq_true rfl⟩ ⟨Nat.le_of_ble_eq_true rfl, Nat.le_of_ble_eq_true rfl⟩ rfl ⟨rfl, by decide⟩ (c_heightAt (by omega)) ?_
                    rintro _ _ _ _ ⟨rfl, rfl, rfl, rfl⟩
                    exact V_iret ⟨Or.inl rfl, dX11_countOfMany_113⟩ ⟨Nat.le_of_ble_eq_true rfl, Nat.le_of_ble_eq_true rfl⟩ ⟨rfl, congrArg (fun z => some (Value.int z)) ((onN_k (f := (cntM cc m sd xs ys (I 42))) (by omega) (by decide)).trans ((if_neg hr).trans ((if_neg (by omega)).trans ((if_neg (by omega)).trans (if_pos (by omega)))))).symm, rfl, rfl⟩
              · skip
                refine V_iload_n dX11_countOfMany_63 rfl ?_
                refine V_bipush (v := nI 40) dX11_countOfMany_64 rfl ?_
                refine V_aload_n dX11_countOfMany_66 rfl ?_
                refine V_getR (b := 49) dX11_countOfMany_67 fX11_85 ⟨Nat.le_of_ble_eq_true rfl, Nat.le_of_ble_eq_true rfl⟩ rfl rfl rfl ?_
                refine V_getI dX11_countOfMany_70 fX11_308 ⟨Nat.le_of_ble_eq_true rfl, Nat.le_of_ble_eq_true rfl⟩ rfl rfl ?_
                refine V_eqI (y := nI m) hF.1 ?_
                refine V_iaddN dX11_countOfMany_73 ?_
                refine V_icmp_geN (tgt := 89) dX11_countOfMany_74 rfl (by omega) (by omega) (fun h74 => ?_) (fun h74 => ?_)
                · skip
                  refine V_iload_n dX11_countOfMany_89 rfl ?_
                  refine V_bipush (v := nI 100) dX11_countOfMany_90 rfl ?_
                  refine V_icmp_ltN (tgt := 114) dX11_countOfMany_92 rfl (by omega) (by omega) (fun h92 => ?_) (fun h92 => ?_)
                  · skip
                    refine V_iconst (v := (-1)) dX11_countOfMany_114 rfl ?_
                    exact V_iret ⟨Or.inl rfl, dX11_countOfMany_115⟩ ⟨Nat.le_of_ble_eq_true rfl, Nat.le_of_ble_eq_true rfl⟩ ⟨rfl, congrArg (fun z => some (Value.int z)) ((onN_k (f := (cntM cc m sd xs ys (I 42))) (by omega) (by decide)).trans ((if_neg hr).trans ((if_neg (by omega)).trans ((if_neg (by omega)).trans (if_neg (by omega)))))).symm, rfl, rfl⟩
                  · skip
                    refine V_iload_n dX11_countOfMany_95 rfl ?_
                    refine V_sipush (v := nI 164) dX11_countOfMany_96 rfl ?_
                    refine V_icmp_geN (tgt := 114) dX11_countOfMany_99 rfl (by omega) (by omega) (fun h99 => ?_) (fun h99 => ?_)
                    · skip
                      refine V_iconst (v := (-1)) dX11_countOfMany_114 rfl ?_
                      exact V_iret ⟨Or.inl rfl, dX11_countOfMany_115⟩ ⟨Nat.le_of_ble_eq_true rfl, Nat.le_of_ble_eq_true rfl⟩ ⟨rfl, congrArg (fun z => some (Value.int z)) ((onN_k (f := (cntM cc m sd xs ys (I 42))) (by omega) (by decide)).trans ((if_neg hr).trans ((if_neg (by omega)).trans ((if_neg (by omega)).trans (if_neg (by omega)))))).symm, rfl, rfl⟩
                    · skip
                      refine V_aload_n dX11_countOfMany_102 rfl ?_
                      refine V_getR (b := 41) dX11_countOfMany_103 fX11_71 ⟨Nat.le_of_ble_eq_true rfl, Nat.le_of_ble_eq_true rfl⟩ rfl rfl rfl ?_
                      refine V_iload_n dX11_countOfMany_106 rfl ?_
                      refine V_bipush (v := nI 100) dX11_countOfMany_107 rfl ?_
                      refine V_isubN dX11_countOfMany_109 (by omega) ?_
                      refine V_callV (As := [.int (nI (k - 100))]) (st := []) (a := 41) dX11_countOfMany_110 kX5_heightAt lX11_348 (by decide) rfl rfl (Nat.le_of_ble_eq_true rfl) ⟨Nat.le_of_ble_eq_true rfl, Nat.le_of_ble_eq_true rfl⟩ ⟨Nat.le_of_ble_eq_true rfl, Nat.le_of_ble_eq_true rfl⟩ rfl ⟨rfl, by decide⟩ (c_heightAt (by omega)) ?_
                      rintro _ _ _ _ ⟨rfl, rfl, rfl, rfl⟩
                      exact V_iret ⟨Or.inl rfl, dX11_countOfMany_113⟩ ⟨Nat.le_of_ble_eq_true rfl, Nat.le_of_ble_eq_true rfl⟩ ⟨rfl, congrArg (fun z => some (Value.int z)) ((onN_k (f := (cntM cc m sd xs ys (I 42))) (by omega) (by decide)).trans ((if_neg hr).trans ((if_neg (by omega)).trans ((if_neg (by omega)).trans (if_pos (by omega)))))).symm, rfl, rfl⟩
                · skip
                  refine V_aload_n dX11_countOfMany_77 rfl ?_
                  refine V_getR (b := 49) dX11_countOfMany_78 fX11_85 ⟨Nat.le_of_ble_eq_true rfl, Nat.le_of_ble_eq_true rfl⟩ rfl rfl rfl ?_
                  refine V_iload_n dX11_countOfMany_81 rfl ?_
                  refine V_bipush (v := nI 40) dX11_countOfMany_82 rfl ?_
                  refine V_isubN dX11_countOfMany_84 (by omega) ?_
                  refine V_callV (As := [.int (nI (k - 40))]) (st := []) (a := 49) dX11_countOfMany_85 kX4_placeOf lX11_360 (by decide) rfl rfl (Nat.le_of_ble_eq_true rfl) ⟨Nat.le_of_ble_eq_true rfl, Nat.le_of_ble_eq_true rfl⟩ ⟨Nat.le_of_ble_eq_true rfl, Nat.le_of_ble_eq_true rfl⟩ rfl ⟨rfl, by decide⟩ (c_placeOf4 hF (by omega)) ?_
                  rintro _ _ _ _ ⟨rfl, rfl, rfl, rfl⟩
                  exact V_iret ⟨Or.inl rfl, dX11_countOfMany_88⟩ ⟨Nat.le_of_ble_eq_true rfl, Nat.le_of_ble_eq_true rfl⟩ ⟨rfl, congrArg (fun z => some (Value.int z)) ((onN_k (f := (cntM cc m sd xs ys (I 42))) (by omega) (by decide)).trans ((if_neg hr).trans ((if_neg (by omega)).trans (if_pos (by omega))))).symm, rfl, rfl⟩
            · skip
              refine V_aload_n dX11_countOfMany_45 rfl ?_
              refine V_getR (b := 49) dX11_countOfMany_46 fX11_85 ⟨Nat.le_of_ble_eq_true rfl, Nat.le_of_ble_eq_true rfl⟩ rfl rfl rfl ?_
              refine V_iload_n dX11_countOfMany_49 rfl ?_
              refine V_bipush (v := nI 20) dX11_countOfMany_50 rfl ?_
              refine V_isubN dX11_countOfMany_52 (by omega) ?_
              refine V_callV (As := [.int (nI (k - 20))]) (st := []) (a := 49) dX11_countOfMany_53 kX4_sideOf lX11_357 (by decide) rfl rfl (Nat.le_of_ble_eq_true rfl) ⟨Nat.le_of_ble_eq_true rfl, Nat.le_of_ble_eq_true rfl⟩ ⟨Nat.le_of_ble_eq_true rfl, Nat.le_of_ble_eq_true rfl⟩ rfl ⟨rfl, by decide⟩ (c_sideOf hF (by omega)) ?_
              rintro _ _ _ _ ⟨rfl, rfl, rfl, rfl⟩
              exact V_iret ⟨Or.inl rfl, dX11_countOfMany_56⟩ ⟨Nat.le_of_ble_eq_true rfl, Nat.le_of_ble_eq_true rfl⟩ ⟨rfl, congrArg (fun z => some (Value.int z)) ((onN_k (f := (cntM cc m sd xs ys (I 42))) (by omega) (by decide)).trans ((if_neg hr).trans (if_pos (by omega)))).symm, rfl, rfl⟩
        · skip
          exfalso; omega

set_option maxRecDepth 100000 in
set_option maxHeartbeats 4000000 in
theorem c_count {G : zG} {I : zI} {J : zJ} {m : Nat} {sd xs ys : Nat → Nat} {px py : Nat} (hF : fdX I m sd xs ys px py) {c0 : Nat} {cc : Nat → Nat} (hC : cC I c0 cc) {far z : Nat} (hf : I 2 0 = nI far) (hz : I 2 1 = nI z) {t : Nat} (ht : I 3 1 = nI t) {x : Int32} : zK G mX11_count 4 [.ref 2, .int x] zsh I J (zA0 (.int (onN 164 x (-1) (cntS far c0 t z cc m sd xs ys px py (I 42)))) I J) := by
  refine zK_of kX11_count.2.2.2.2.1 (Nat.le_of_ble_eq_true rfl) ?_
  show V G mX11_count 4 _ 0 [(0, .ref 2), (1, .int x)] [] (0, 0) zsh I J
  rcases ix3 x 164 (by decide) with hx | hx | ⟨k, hk, rfl⟩
  · skip
    refine V_iload_n dX11_count_0 rfl ?_
    refine V_tsOut (tgt := 93) dX11_count_1 (by omega) rfl ?_
    refine V_aload_n dX11_count_93 rfl ?_
    refine V_iload_n dX11_count_94 rfl ?_
    refine V_callV (As := [.int x]) (st := []) (a := 2) dX11_count_95 kX11_countOfMany lX11_354 (by decide) rfl rfl (Nat.le_of_ble_eq_true rfl) ⟨Nat.le_of_ble_eq_true rfl, Nat.le_of_ble_eq_true rfl⟩ ⟨Nat.le_of_ble_eq_true rfl, Nat.le_of_ble_eq_true rfl⟩ rfl ⟨rfl, by decide⟩ (c_countMany hF hC) ?_
    rintro _ _ _ _ ⟨rfl, rfl, rfl, rfl⟩
    exact V_iret ⟨Or.inl rfl, dX11_count_98⟩ ⟨Nat.le_of_ble_eq_true rfl, Nat.le_of_ble_eq_true rfl⟩ ⟨rfl, congrArg (fun z => some (Value.int z)) ((onN_lo hx).trans (onN_lo hx).symm), rfl, rfl⟩
  · skip
    refine V_iload_n dX11_count_0 rfl ?_
    refine V_tsOut (tgt := 93) dX11_count_1 (by omega) rfl ?_
    refine V_aload_n dX11_count_93 rfl ?_
    refine V_iload_n dX11_count_94 rfl ?_
    refine V_callV (As := [.int x]) (st := []) (a := 2) dX11_count_95 kX11_countOfMany lX11_354 (by decide) rfl rfl (Nat.le_of_ble_eq_true rfl) ⟨Nat.le_of_ble_eq_true rfl, Nat.le_of_ble_eq_true rfl⟩ ⟨Nat.le_of_ble_eq_true rfl, Nat.le_of_ble_eq_true rfl⟩ rfl ⟨rfl, by decide⟩ (c_countMany hF hC) ?_
    rintro _ _ _ _ ⟨rfl, rfl, rfl, rfl⟩
    exact V_iret ⟨Or.inl rfl, dX11_count_98⟩ ⟨Nat.le_of_ble_eq_true rfl, Nat.le_of_ble_eq_true rfl⟩ ⟨rfl, congrArg (fun z => some (Value.int z)) ((onN_hi hx).trans (onN_hi hx).symm), rfl, rfl⟩
  · by_cases h5 : k ≤ 5
    · rcases (show k = 0 ∨ k = 1 ∨ k = 2 ∨ k = 3 ∨ k = 4 ∨ k = 5 by omega) with e | e | e | e | e | e <;> subst e
      · skip
        refine V_iload_n dX11_count_0 rfl ?_
        refine V_tsIn (off := 39) (tgt := 40) dX11_count_1 (by decide) (by decide) rfl rfl ?_
        refine V_aload_n dX11_count_40 rfl ?_
        refine V_getI dX11_count_41 fX11_7 ⟨Nat.le_of_ble_eq_true rfl, Nat.le_of_ble_eq_true rfl⟩ rfl rfl ?_
        refine V_eqI (y := nI far) hf ?_
        exact V_iret ⟨Or.inl rfl, dX11_count_44⟩ ⟨Nat.le_of_ble_eq_true rfl, Nat.le_of_ble_eq_true rfl⟩ ⟨rfl, congrArg (fun z => some (Value.int z)) ((onN_k (f := (cntS far c0 t z cc m sd xs ys px py (I 42))) (by decide) (by decide)).trans (if_pos rfl)).symm, rfl, rfl⟩
      · skip
        refine V_iload_n dX11_count_0 rfl ?_
        refine V_tsIn (off := 44) (tgt := 45) dX11_count_1 (by decide) (by decide) rfl rfl ?_
        refine V_aload_n dX11_count_45 rfl ?_
        refine V_getR (b := 16) dX11_count_46 fX11_46 ⟨Nat.le_of_ble_eq_true rfl, Nat.le_of_ble_eq_true rfl⟩ rfl rfl rfl ?_
        refine V_getI dX11_count_49 fX11_351 ⟨Nat.le_of_ble_eq_true rfl, Nat.le_of_ble_eq_true rfl⟩ rfl rfl ?_
        refine V_eqI (y := nI c0) hC.1 ?_
        exact V_iret ⟨Or.inl rfl, dX11_count_52⟩ ⟨Nat.le_of_ble_eq_true rfl, Nat.le_of_ble_eq_true rfl⟩ ⟨rfl, congrArg (fun z => some (Value.int z)) ((onN_k (f := (cntS far c0 t z cc m sd xs ys px py (I 42))) (by decide) (by decide)).trans ((if_neg (by decide)).trans (if_pos rfl))).symm, rfl, rfl⟩
      · skip
        refine V_iload_n dX11_count_0 rfl ?_
        refine V_tsIn (off := 52) (tgt := 53) dX11_count_1 (by decide) (by decide) rfl rfl ?_
        refine V_aload_n dX11_count_53 rfl ?_
        refine V_getR (b := 3) dX11_count_54 fX11_19 ⟨Nat.le_of_ble_eq_true rfl, Nat.le_of_ble_eq_true rfl⟩ rfl rfl rfl ?_
        refine V_getI dX11_count_57 fX11_110 ⟨Nat.le_of_ble_eq_true rfl, Nat.le_of_ble_eq_true rfl⟩ rfl rfl ?_
        refine V_eqI (y := nI t) ht ?_
        exact V_iret ⟨Or.inl rfl, dX11_count_60⟩ ⟨Nat.le_of_ble_eq_true rfl, Nat.le_of_ble_eq_true rfl⟩ ⟨rfl, congrArg (fun z => some (Value.int z)) ((onN_k (f := (cntS far c0 t z cc m sd xs ys px py (I 42))) (by decide) (by decide)).trans ((if_neg (by decide)).trans ((if_neg (by decide)).trans (if_pos rfl)))).symm, rfl, rfl⟩
      · skip
        refine V_iload_n dX11_count_0 rfl ?_
        refine V_tsIn (off := 60) (tgt := 61) dX11_count_1 (by decide) (by decide) rfl rfl ?_
        refine V_aload_n dX11_count_61 rfl ?_
        refine V_getI dX11_count_62 fX11_13 ⟨Nat.le_of_ble_eq_true rfl, Nat.le_of_ble_eq_true rfl⟩ rfl rfl ?_
        refine V_eqI (y := nI z) hz ?_
        exact V_iret ⟨Or.inl rfl, dX11_count_65⟩ ⟨Nat.le_of_ble_eq_true rfl, Nat.le_of_ble_eq_true rfl⟩ ⟨rfl, congrArg (fun z => some (Value.int z)) ((onN_k (f := (cntS far c0 t z cc m sd xs ys px py (I 42))) (by decide) (by decide)).trans ((if_neg (by decide)).trans ((if_neg (by decide)).trans ((if_neg (by decide)).trans (if_pos rfl))))).symm, rfl, rfl⟩
      · skip
        refine V_iload_n dX11_count_0 rfl ?_
        refine V_tsIn (off := 65) (tgt := 66) dX11_count_1 (by decide) (by decide) rfl rfl ?_
        refine V_aload_n dX11_count_66 rfl ?_
        refine V_getR (b := 49) dX11_count_67 fX11_85 ⟨Nat.le_of_ble_eq_true rfl, Nat.le_of_ble_eq_true rfl⟩ rfl rfl rfl ?_
        refine V_getI dX11_count_70 fX11_308 ⟨Nat.le_of_ble_eq_true rfl, Nat.le_of_ble_eq_true rfl⟩ rfl rfl ?_
        refine V_eqI (y := nI m) hF.1 ?_
        exact V_iret ⟨Or.inl rfl, dX11_count_73⟩ ⟨Nat.le_of_ble_eq_true rfl, Nat.le_of_ble_eq_true rfl⟩ ⟨rfl, congrArg (fun z => some (Value.int z)) ((onN_k (f := (cntS far c0 t z cc m sd xs ys px py (I 42))) (by decide) (by decide)).trans ((if_neg (by decide)).trans ((if_neg (by decide)).trans ((if_neg (by decide)).trans ((if_neg (by decide)).trans (if_pos rfl)))))).symm, rfl, rfl⟩
      · skip
        refine V_iload_n dX11_count_0 rfl ?_
        refine V_tsIn (off := 73) (tgt := 74) dX11_count_1 (by decide) (by decide) rfl rfl ?_
        refine V_bipush (v := nI 100) dX11_count_74 rfl ?_
        refine V_aload_n dX11_count_76 rfl ?_
        refine V_getR (b := 49) dX11_count_77 fX11_85 ⟨Nat.le_of_ble_eq_true rfl, Nat.le_of_ble_eq_true rfl⟩ rfl rfl rfl ?_
        refine V_getI dX11_count_80 fX11_305 ⟨Nat.le_of_ble_eq_true rfl, Nat.le_of_ble_eq_true rfl⟩ rfl rfl ?_
        refine V_eqI (y := nI py) hF.2.2.2.2.2.1 ?_
        refine V_imulN dX11_count_83 ?_
        refine V_aload_n dX11_count_84 rfl ?_
        refine V_getR (b := 49) dX11_count_85 fX11_85 ⟨Nat.le_of_ble_eq_true rfl, Nat.le_of_ble_eq_true rfl⟩ rfl rfl rfl ?_
        refine V_getI dX11_count_88 fX11_302 ⟨Nat.le_of_ble_eq_true rfl, Nat.le_of_ble_eq_true rfl⟩ rfl rfl ?_
        refine V_eqI (y := nI px) hF.2.2.2.1 ?_
        refine V_iaddN dX11_count_91 ?_
        exact V_iret ⟨Or.inl rfl, dX11_count_92⟩ ⟨Nat.le_of_ble_eq_true rfl, Nat.le_of_ble_eq_true rfl⟩ ⟨rfl, congrArg (fun z => some (Value.int z)) ((onN_k (f := (cntS far c0 t z cc m sd xs ys px py (I 42))) (by decide) (by decide)).trans ((if_neg (by decide)).trans ((if_neg (by decide)).trans ((if_neg (by decide)).trans ((if_neg (by decide)).trans ((if_neg (by decide)).trans (if_pos rfl))))))).symm, rfl, rfl⟩
    · skip
      refine V_iload_n dX11_count_0 rfl ?_
      refine V_tsOut (tgt := 93) dX11_count_1 (by rw [nI_toInt (by omega)]; omega) rfl ?_
      refine V_aload_n dX11_count_93 rfl ?_
      refine V_iload_n dX11_count_94 rfl ?_
      refine V_callV (As := [.int (nI k)]) (st := []) (a := 2) dX11_count_95 kX11_countOfMany lX11_354 (by decide) rfl rfl (Nat.le_of_ble_eq_true rfl) ⟨Nat.le_of_ble_eq_true rfl, Nat.le_of_ble_eq_true rfl⟩ ⟨Nat.le_of_ble_eq_true rfl, Nat.le_of_ble_eq_true rfl⟩ rfl ⟨rfl, by decide⟩ (c_countMany hF hC) ?_
      rintro _ _ _ _ ⟨rfl, rfl, rfl, rfl⟩
      exact V_iret ⟨Or.inl rfl, dX11_count_98⟩ ⟨Nat.le_of_ble_eq_true rfl, Nat.le_of_ble_eq_true rfl⟩ ⟨rfl, congrArg (fun z => some (Value.int z)) ((onN_k (f := (cntM cc m sd xs ys (I 42))) (by omega) (by decide)).trans ((onN_k (f := (cntS far c0 t z cc m sd xs ys px py (I 42))) (by omega) (by decide)).trans ((if_neg (by omega)).trans ((if_neg (by omega)).trans ((if_neg (by omega)).trans ((if_neg (by omega)).trans ((if_neg (by omega)).trans (if_neg (by omega)))))))).symm), rfl, rfl⟩

set_option maxRecDepth 100000 in
set_option maxHeartbeats 4000000 in
theorem c_log {G : zG} {I : zI} {J : zJ} {n la : Nat} {th sd c0 c1 : Nat → Nat} (hL : lgX I n la th sd c0 c1) {x : Int32} : zK G mX11_log 3 [.ref 2, .int x] zsh I J (zA0 (.int (onN 47 x (-1) (telL n th sd c0 c1))) I J) := by
  refine zK_of kX11_log.2.2.2.2.1 (Nat.le_of_ble_eq_true rfl) ?_
  show V G mX11_log 3 _ 0 [(0, .ref 2), (1, .int x)] [] (0, 0) zsh I J
  refine V_aload_n dX11_log_0 rfl ?_
  refine V_getR (b := 36) dX11_log_1 fX11_64 ⟨Nat.le_of_ble_eq_true rfl, Nat.le_of_ble_eq_true rfl⟩ rfl rfl rfl ?_
  refine V_aload_n dX11_log_4 rfl ?_
  refine V_getR (b := 10) dX11_log_5 fX11_41 ⟨Nat.le_of_ble_eq_true rfl, Nat.le_of_ble_eq_true rfl⟩ rfl rfl rfl ?_
  refine V_iload_n dX11_log_8 rfl ?_
  refine V_callV (As := [.ref 10, .int x]) (st := []) (a := 36) dX11_log_9 kX6_tell lX11_247 (by decide) rfl rfl (Nat.le_of_ble_eq_true rfl) ⟨Nat.le_of_ble_eq_true rfl, Nat.le_of_ble_eq_true rfl⟩ ⟨Nat.le_of_ble_eq_true rfl, Nat.le_of_ble_eq_true rfl⟩ rfl ⟨rfl, by decide⟩ (c_tellL hL) ?_
  rintro _ _ _ _ ⟨rfl, rfl, rfl, rfl⟩
  exact V_iret ⟨Or.inl rfl, dX11_log_12⟩ ⟨Nat.le_of_ble_eq_true rfl, Nat.le_of_ble_eq_true rfl⟩ ⟨rfl, rfl, rfl, rfl⟩

set_option maxRecDepth 100000 in
set_option maxHeartbeats 4000000 in
theorem c_log0 {G : zG} {I : zI} {J : zJ} (hn : I 36 5 = -1) {x : Int32} : zK G mX11_log 3 [.ref 2, .int x] zsh I J (zA0 (.int (-1)) I J) := by
  refine zK_of kX11_log.2.2.2.2.1 (Nat.le_of_ble_eq_true rfl) ?_
  show V G mX11_log 3 _ 0 [(0, .ref 2), (1, .int x)] [] (0, 0) zsh I J
  refine V_aload_n dX11_log_0 rfl ?_
  refine V_getR (b := 36) dX11_log_1 fX11_64 ⟨Nat.le_of_ble_eq_true rfl, Nat.le_of_ble_eq_true rfl⟩ rfl rfl rfl ?_
  refine V_aload_n dX11_log_4 rfl ?_
  refine V_getR (b := 10) dX11_log_5 fX11_41 ⟨Nat.le_of_ble_eq_true rfl, Nat.le_of_ble_eq_true rfl⟩ rfl rfl rfl ?_
  refine V_iload_n dX11_log_8 rfl ?_
  refine V_callV (As := [.ref 10, .int x]) (st := []) (a := 36) dX11_log_9 kX6_tell lX11_247 (by decide) rfl rfl (Nat.le_of_ble_eq_true rfl) ⟨Nat.le_of_ble_eq_true rfl, Nat.le_of_ble_eq_true rfl⟩ ⟨Nat.le_of_ble_eq_true rfl, Nat.le_of_ble_eq_true rfl⟩ rfl ⟨rfl, by decide⟩ (c_tellL0 hn) ?_
  rintro _ _ _ _ ⟨rfl, rfl, rfl, rfl⟩
  exact V_iret ⟨Or.inl rfl, dX11_log_12⟩ ⟨Nat.le_of_ble_eq_true rfl, Nat.le_of_ble_eq_true rfl⟩ ⟨rfl, rfl, rfl, rfl⟩

set_option maxRecDepth 100000 in
set_option maxHeartbeats 4000000 in
theorem c_groundY {G : zG} {I : zI} {J : zJ} {t : Nat} (ht : I 3 1 = nI t) (ht2 : t ≤ 260) {n : Nat} (h1 : 1 ≤ n) (h2 : n ≤ 120) (h3 : n ≤ t) {f : Nat → Nat} (hf9 : ∀ j, f j ≤ 9) (h43 : ∀ j, j < 64 → I 43 j = nI (f j)) : zK G mX11_ground 3 [.ref 2, .int (nI n)] zsh I J (zP (fun r I' J' => r = some (.int (if (gAll (txI (I 4)) n 8 0 0 f).1 = 0 then nI (hMx (gAll (txI (I 4)) n 8 0 0 f).2.2 64) else fltI (gAll (txI (I 4)) n 8 0 0 f).1 (gAll (txI (I 4)) n 8 0 0 f).2.1)) ∧ I' 3 1 = nI 0 ∧ (∀ a, a ≠ 3 → a ≠ 41 → a ≠ 42 → a ≠ 43 → I' a = I a) ∧ (∀ j, j < 64 → I' 42 j = if (gAll (txI (I 4)) n 8 0 0 f).1 = 0 then nI ((gAll (txI (I 4)) n 8 0 0 f).2.2 j) else I 42 j) ∧ (∃ g : Nat → Nat, (∀ j, g j ≤ 9) ∧ ∀ j, j < 64 → I' 43 j = nI (g j)) ∧ J = J')) := by
  refine zK_of kX11_ground.2.2.2.2.1 (Nat.le_of_ble_eq_true rfl) ?_
  show V G mX11_ground 3 _ 0 [(0, .ref 2), (1, .int (nI n))] [] (0, 0) zsh I J
  refine V_aload_n dX11_ground_0 rfl ?_
  refine V_iload_n dX11_ground_1 rfl ?_
  refine V_bipush (v := nI 120) dX11_ground_2 rfl ?_
  refine V_callV (As := [.int (nI n), .int (nI 120)]) (st := []) (a := 2) dX11_ground_4 kX11_canTake lX11_113 (by decide) rfl rfl (Nat.le_of_ble_eq_true rfl) ⟨Nat.le_of_ble_eq_true rfl, Nat.le_of_ble_eq_true rfl⟩ ⟨Nat.le_of_ble_eq_true rfl, Nat.le_of_ble_eq_true rfl⟩ rfl ⟨rfl, by decide⟩ (q_y (q_canTake ht ht2 (by decide)) (tkO_k h1 h2 h3 (by decide))) ?_
  rintro _ _ _ _ ⟨rfl, rfl, rfl, rfl⟩
  refine V_if_ne (tgt := 12) dX11_ground_7 rfl (fun _ => ?_) (fun h => absurd h (by decide))
  refine V_aload_n dX11_ground_12 rfl ?_
  refine V_getR (b := 41) dX11_ground_13 fX11_71 ⟨Nat.le_of_ble_eq_true rfl, Nat.le_of_ble_eq_true rfl⟩ rfl rfl rfl ?_
  refine V_aload_n dX11_ground_16 rfl ?_
  refine V_getR (b := 3) dX11_ground_17 fX11_19 ⟨Nat.le_of_ble_eq_true rfl, Nat.le_of_ble_eq_true rfl⟩ rfl rfl rfl ?_
  refine V_getR (b := 4) dX11_ground_20 fX11_117 ⟨Nat.le_of_ble_eq_true rfl, Nat.le_of_ble_eq_true rfl⟩ rfl rfl rfl ?_
  refine V_iload_n dX11_ground_23 rfl ?_
  refine V_callV (As := [.ref 4, .int (nI n)]) (st := []) (a := 41) dX11_ground_24 kX5_readText lX11_143 (by decide) rfl rfl (Nat.le_of_ble_eq_true rfl) ⟨Nat.le_of_ble_eq_true rfl, Nat.le_of_ble_eq_true rfl⟩ ⟨Nat.le_of_ble_eq_true rfl, Nat.le_of_ble_eq_true rfl⟩ rfl ⟨rfl, by decide⟩ (c_readText5 h2 hf9 h43) ?_
  rintro r sh' I1 J' ⟨rfl, rfl, g1, g2, g3, g4, rfl⟩
  refine V_istore_n (ls' := [(2, .int (if (gAll (txI (I 4)) n 8 0 0 f).1 = 0 then nI (hMx (gAll (txI (I 4)) n 8 0 0 f).2.2 64) else fltI (gAll (txI (I 4)) n 8 0 0 f).1 (gAll (txI (I 4)) n 8 0 0 f).2.1)), (0, .ref 2), (1, .int (nI n))]) dX11_ground_27 (by decide) rfl ?_
  refine V_aload_n dX11_ground_28 rfl ?_
  refine V_getR (b := 3) dX11_ground_29 fX11_19 ⟨Nat.le_of_ble_eq_true rfl, Nat.le_of_ble_eq_true rfl⟩ rfl rfl rfl ?_
  refine V_iconst (v := nI 0) dX11_ground_32 rfl ?_
  refine V_putW dX11_ground_33 fX11_110 ⟨Nat.le_of_ble_eq_true rfl, Nat.le_of_ble_eq_true rfl⟩ rfl rfl rfl ⟨rfl, rfl⟩ ?_
  refine V_iload_n dX11_ground_36 rfl ?_
  exact V_iret ⟨Or.inl rfl, dX11_ground_37⟩ ⟨Nat.le_of_ble_eq_true rfl, Nat.le_of_ble_eq_true rfl⟩ ⟨rfl, rfl, zwr_at.trans (if_pos ⟨rfl, rfl⟩), fun a a3 a41 a42 a43 => (zup_n a3).trans (g1 a a41 a42 a43), fun j hj => g3 j hj, g4, rfl⟩

set_option maxRecDepth 100000 in
set_option maxHeartbeats 4000000 in
theorem c_groundN {G : zG} {I : zI} {J : zJ} {t : Nat} (ht : I 3 1 = nI t) (ht2 : t ≤ 260) {n : Int32} (hn : ¬ tkO n 120 t) : zK G mX11_ground 1 [.ref 2, .int n] zsh I J (zA0 (.int (-1)) I J) := by
  refine zK_of kX11_ground.2.2.2.2.1 (Nat.le_of_ble_eq_true rfl) ?_
  show V G mX11_ground 1 _ 0 [(0, .ref 2), (1, .int n)] [] (0, 0) zsh I J
  refine V_aload_n dX11_ground_0 rfl ?_
  refine V_iload_n dX11_ground_1 rfl ?_
  refine V_bipush (v := nI 120) dX11_ground_2 rfl ?_
  refine V_callV (As := [.int n, .int (nI 120)]) (st := []) (a := 2) dX11_ground_4 kX11_canTake lX11_113 (by decide) rfl rfl (Nat.le_of_ble_eq_true rfl) ⟨Nat.le_of_ble_eq_true rfl, Nat.le_of_ble_eq_true rfl⟩ ⟨Nat.le_of_ble_eq_true rfl, Nat.le_of_ble_eq_true rfl⟩ rfl ⟨rfl, by decide⟩ (q_n (q_canTake ht ht2 (by decide)) hn) ?_
  rintro _ _ _ _ ⟨rfl, rfl, rfl, rfl⟩
  refine V_if_ne (tgt := 12) dX11_ground_7 rfl (fun h => absurd h (by decide)) (fun _ => ?_)
  refine V_iconst (v := (-1)) dX11_ground_10 rfl ?_
  exact V_iret ⟨Or.inl rfl, dX11_ground_11⟩ ⟨Nat.le_of_ble_eq_true rfl, Nat.le_of_ble_eq_true rfl⟩ ⟨rfl, rfl, rfl, rfl⟩

/-- the ends with another law: nothing is known -/
theorem eA_law {Lf Lf' : Nat → (Nat → Int32) → Int32} {Rl : Nat → Nat → (Nat → Int32) → Int32} {I I' : zI} {J J' : zJ} (h : eA Lf Rl I J) (hp : progI I' 16 Lf') (e : ∀ a, 10 ≤ a → a ≤ 15 ∨ 19 ≤ a ∧ a ≤ 26 → I' a = I a) (h94 : I' 9 4 = I 9 4) (h30 : ∀ j, j < 3822 → I' 30 j = nI 0) (h912 : I' 9 12 = -1) (h96 : I' 9 6 = nI 0) (hj : ∀ j, j < 10 → J' 32 j = -4000000000000000000) : eA Lf' Rl I' J' := by
  obtain ⟨far, h10, ⟨hE, hC, hO⟩, b⟩ := h
  obtain ⟨h1, h2, h3, h4, h5⟩ := hE
  have z0 : ∀ p q l, sOk p q l → I' 30 (sSpot p q l) = 0 := fun p q l hs => (h30 _ (sSpot_lt hs.1 hs.2.1 hs.2.2.1 hs.2.2.2)).trans rfl
  refine ⟨far, h10, ⟨⟨tabX_c h1 ⟨e 11 (by decide) (by decide), e 12 (by decide) (by decide), e 13 (by decide) (by decide), e 14 (by decide) (by decide), e 15 (by decide) (by decide)⟩, hp, fun k hk => progI_c (h3 k hk) (e _ (by omega) (by omega)) (e _ (by omega) (by omega)), by rw [h94]; exact h4, fun p q l hs => Or.inl (z0 p q l hs)⟩, ?_, fun h6 => absurd h96 h6⟩, fun n f h6 hn hf => Or.inl (hj _ (by omega)), Or.inl h912⟩
  intro p q l hs hb
  exfalso
  unfold bk at hb
  rw [z0 p q l hs] at hb
  have hz : btV Lf' far p q l ≤ 2 := by
    unfold btV
    split <;> decide
  exact absurd hb.symm (tEnc_ne hz)
