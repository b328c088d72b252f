/-! THE CLASS: its reader of clauses and texts -/
theorem numR_le {tx : Nat → Nat} {n : Nat} : ∀ k p v, p ≤ (numR tx n k p v).2
  | 0, _, _ => Nat.le_refl _
  | k + 1, p, v => by
    unfold numR
    split
    · exact Nat.le_trans (Nat.le_succ p) (numR_le k _ _)
    · exact Nat.le_refl _
theorem pFac_len {tx : Nat → Nat} {n : Nat} {br : Nat → Nat × Nat × List (Nat × Nat)} (hb : ∀ p, (br p).1 = 0 → p + 1 + (br p).2.2.length ≤ (br p).2.1) (p : Nat) (h : (pFac tx n br p).1 = 0) : p + (pFac tx n br p).2.2.length ≤ (pFac tx n br p).2.1 := by
  unfold pFac at h ⊢
  by_cases c1 : sgn tx n p = 91
  · rw [if_pos c1] at h ⊢
    have := hb p h
    omega
  · rw [if_neg c1] at h ⊢
    by_cases c2 : 48 ≤ sgn tx n p ∧ sgn tx n p ≤ 57
    · rw [if_pos c2] at h ⊢
      unfold pNum at h ⊢
      split at h
      · exact absurd h (Nat.succ_ne_zero _)
      · rename_i c3
        rw [if_neg c3]
        have e : numR tx n 5 p 0 = numR tx n 4 (p + 1) (10 * 0 + sgn tx n p - 48) := by
          conv => lhs; unfold numR
          rw [if_pos c2]
        rw [e]
        exact numR_le 4 (p + 1) _
    · rw [if_neg c2] at h ⊢
      by_cases c4 : ltP (sgn tx n p) < 9
      · rw [if_pos c4]; exact Nat.le_refl _
      · rw [if_neg c4] at h; exact absurd h (Nat.succ_ne_zero _)
theorem sgL_le {a : Nat} : (sgL a).length ≤ 1 := by
  unfold sgL
  split
  · exact Nat.zero_le _
  · exact Nat.le_refl _
theorem sgL_0 : sgL 0 = [] := rfl
def one (a : Nat) : Nat := if a = 0 then 0 else 1
theorem sgL_one {a : Nat} : (sgL a).length = one a := by
  unfold sgL one
  split <;> rfl
theorem one_s {a : Nat} (h : a ≠ 0) : one a = 1 := if_neg h
/-- signs that wait cost a place each -/
theorem pSumL_len {tx : Nat → Nat} {n : Nat} {br : Nat → Nat × Nat × List (Nat × Nat)} (hb : ∀ p, (br p).1 = 0 → p + 1 + (br p).2.2.length ≤ (br p).2.1) (p0 : Nat) : ∀ k p a m acc, p0 + acc.length + one a + one m ≤ p → (pSumL tx n br k p a m acc).1 = 0 → p0 + (pSumL tx n br k p a m acc).2.2.length ≤ (pSumL tx n br k p a m acc).2.1 := by
  intro k
  induction k with
  | zero => intro p a m acc _ h; exact absurd h (Nat.succ_ne_zero _)
  | succ k ih =>
    intro p a m acc hp h
    obtain ⟨fc, q, g, hr⟩ : ∃ fc q g, pFac tx n br p = (fc, q, g) := ex3 _
    have hf : fc = 0 → p + g.length ≤ q := fun h0 => by
      have := pFac_len (tx := tx) (n := n) hb p (by rw [hr]; exact h0)
      rw [hr] at this
      exact this
    unfold pSumL at h ⊢
    rw [hr] at h ⊢
    by_cases h0 : fc = 0
    · have hq := hf h0
      rw [if_neg (fun h => h h0)] at h ⊢
      have e1 : (acc ++ g ++ sgL m).length = acc.length + g.length + one m := by rw [List.length_append, List.length_append, sgL_one]
      have e2 : (acc ++ g ++ sgL m ++ sgL a).length = acc.length + g.length + one m + one a := by rw [List.length_append, e1, sgL_one]
      by_cases c1 : sgn tx n q = 42 ∨ sgn tx n q = 47 ∨ sgn tx n q = 37
      · rw [if_pos c1] at h ⊢
        refine ih (q + 1) a (sgn tx n q) _ ?_ h
        show p0 + (acc ++ g ++ sgL m).length + one a + one (sgn tx n q) ≤ q + 1
        have h1 : one (sgn tx n q) = 1 := one_s (by omega)
        omega
      · rw [if_neg c1] at h ⊢
        by_cases c2 : sgn tx n q = 43 ∨ sgn tx n q = 45
        · rw [if_pos c2] at h ⊢
          refine ih (q + 1) (sgn tx n q) 0 _ ?_ h
          show p0 + (acc ++ g ++ sgL m ++ sgL a).length + one (sgn tx n q) + 0 ≤ q + 1
          have h1 : one (sgn tx n q) = 1 := one_s (by omega)
          omega
        · rw [if_neg c2]
          show p0 + (acc ++ g ++ sgL m ++ sgL a).length ≤ q
          rw [e2]
          omega
    · rw [if_pos h0] at h
      exact absurd h h0
theorem pSum_len {tx : Nat → Nat} {n : Nat} : ∀ e p, (pSum tx n e p).1 = 0 → p + (pSum tx n e p).2.2.length ≤ (pSum tx n e p).2.1
  | 0, p => pSumL_len (fun _ h => absurd h (Nat.succ_ne_zero _)) p 240 p 0 0 [] (Nat.le_refl _)
  | e + 1, p => pSumL_len (fun p h => by
      unfold pBr at h ⊢
      by_cases h1 : (pSum tx n e (p + 1)).1 = 0
      · rw [if_neg (fun h => h h1)] at h ⊢
        by_cases h2 : sgn tx n (pSum tx n e (p + 1)).2.1 = 93
        · rw [if_pos h2]
          have := pSum_len e (p + 1) h1
          show p + 1 + (pSum tx n e (p + 1)).2.2.length ≤ (pSum tx n e (p + 1)).2.1 + 1
          omega
        · rw [if_neg h2] at h
          exact absurd h (Nat.succ_ne_zero _)
      · rw [if_pos h1] at h
        exact absurd h h1) p 240 p 0 0 [] (Nat.le_refl _)
theorem pCmp_len {tx : Nat → Nat} {n e p : Nat} (h : (pCmp tx n e p).1 = 0) : p + (pCmp tx n e p).2.2.length ≤ (pCmp tx n e p).2.1 := by
  unfold pCmp at h ⊢
  by_cases h1 : (pSum tx n e p).1 = 0
  · rw [if_neg (fun h => h h1)] at h ⊢
    have e1 := pSum_len e p h1
    by_cases h2 : sgn tx n (pSum tx n e p).2.1 = 60 ∨ sgn tx n (pSum tx n e p).2.1 = 62 ∨ sgn tx n (pSum tx n e p).2.1 = 61
    · rw [if_neg (fun h => h h2)] at h ⊢
      by_cases h3 : (pSum tx n e ((pSum tx n e p).2.1 + 1)).1 = 0
      · rw [if_neg (fun h => h h3)]
        have e3 := pSum_len e _ h3
        show p + ((pSum tx n e p).2.2 ++ (pSum tx n e ((pSum tx n e p).2.1 + 1)).2.2 ++ [(2, sgn tx n (pSum tx n e p).2.1)]).length ≤ _
        rw [List.length_append, List.length_append]
        show p + (_ + _ + 1) ≤ (pSum tx n e ((pSum tx n e p).2.1 + 1)).2.1
        omega
      · rw [if_pos h3] at h; exact absurd h h3
    · rw [if_pos h2] at h; exact absurd h (Nat.succ_ne_zero _)
  · rw [if_pos h1] at h; exact absurd h h1
theorem pCndL_len {tx : Nat → Nat} {n : Nat} {pc : Nat → Nat → Nat × Nat × List (Nat × Nat)} (hp : ∀ p s, (pc p s).1 = 0 → p + (pc p s).2.2.length ≤ (pc p s).2.1) (p0 s : Nat) : ∀ k p j t acc, p0 + acc.length ≤ p → (pCndL tx n pc k p s j t acc).1 = 0 → p0 + (pCndL tx n pc k p s j t acc).2.2.length ≤ (pCndL tx n pc k p s j t acc).2.1 := by
  intro k
  induction k with
  | zero => intro p j t acc _ h; exact absurd h (Nat.succ_ne_zero _)
  | succ k ih =>
    intro p j t acc h9 h
    obtain ⟨fc, q, g, hr⟩ : ∃ fc q g, pc p (s + acc.length) = (fc, q, g) := ex3 _
    have hf : fc = 0 → p + g.length ≤ q := fun h0 => by
      have := hp p (s + acc.length) (by rw [hr]; exact h0)
      rw [hr] at this
      exact this
    unfold pCndL at h ⊢
    rw [hr] at h ⊢
    by_cases h0 : fc = 0
    · have hq := hf h0
      rw [if_neg (fun h => h h0)] at h ⊢
      have e0 : (acc ++ g).length = acc.length + g.length := List.length_append
      have e1 : (cnd1 s j (acc ++ g)).length = acc.length + g.length := lset_len.trans e0
      have e2 : (cnd2 s t (cnd1 s j (acc ++ g))).length = acc.length + g.length := lset_len.trans e1
      by_cases c1 : sgn tx n q = 38
      · rw [if_pos c1] at h ⊢
        refine ih (q + 1) _ t _ ?_ h
        show p0 + (cnd1 s j (acc ++ g) ++ [(0, 0)]).length ≤ q + 1
        rw [List.length_append, e1]
        show p0 + (_ + 1) ≤ q + 1
        omega
      · rw [if_neg c1] at h ⊢
        by_cases c2 : sgn tx n q = 124
        · rw [if_pos c2] at h ⊢
          refine ih (q + 1) 0 _ _ ?_ h
          show p0 + (cnd2 s t (cnd1 s j (acc ++ g)) ++ [(0, 0)]).length ≤ q + 1
          rw [List.length_append, e2]
          show p0 + (_ + 1) ≤ q + 1
          omega
        · rw [if_neg c2]
          show p0 + (cnd2 s t (cnd1 s j (acc ++ g))).length ≤ q
          rw [e2]
          omega
    · rw [if_pos h0] at h
      exact absurd h h0
theorem pPce_len {tx : Nat → Nat} {n : Nat} : ∀ e p s, (pPce tx n e p s).1 = 0 → p + (pPce tx n e p s).2.2.length ≤ (pPce tx n e p s).2.1
  | 0, p, s => fun h => by
    unfold pPce at h ⊢
    by_cases h1 : sgn tx n p = 33
    · rw [if_pos h1] at h; exact absurd h (Nat.succ_ne_zero _)
    · rw [if_neg h1] at h ⊢
      by_cases h2 : sgn tx n p = 40
      · rw [if_pos h2] at h; exact absurd h (Nat.succ_ne_zero _)
      · rw [if_neg h2] at h ⊢; exact pCmp_len h
  | e + 1, p, s => fun h => by
    unfold pPce at h ⊢
    by_cases h1 : sgn tx n p = 33
    · rw [if_pos h1] at h ⊢
      unfold pNot at h ⊢
      by_cases h3 : (pPce tx n e (p + 1) s).1 = 0
      · rw [if_neg (fun h => h h3)]
        have := pPce_len e (p + 1) s h3
        show p + ((pPce tx n e (p + 1) s).2.2 ++ [(2, 33)]).length ≤ (pPce tx n e (p + 1) s).2.1
        rw [List.length_append]
        show p + (_ + 1) ≤ _
        omega
      · rw [if_pos h3] at h; exact absurd h h3
    · rw [if_neg h1] at h ⊢
      by_cases h2 : sgn tx n p = 40
      · rw [if_pos h2] at h ⊢
        unfold pOpn at h ⊢
        by_cases h3 : (pCndL tx n (pPce tx n e) 240 (p + 1) s 0 0 []).1 = 0
        · rw [if_neg (fun h => h h3)] at h ⊢
          have := pCndL_len (tx := tx) (n := n) (pPce_len e) (p + 1) s 240 (p + 1) 0 0 [] (Nat.le_refl _) h3
          by_cases h4 : sgn tx n (pCndL tx n (pPce tx n e) 240 (p + 1) s 0 0 []).2.1 = 41
          · rw [if_pos h4]
            show p + (pCndL tx n (pPce tx n e) 240 (p + 1) s 0 0 []).2.2.length ≤ (pCndL tx n (pPce tx n e) 240 (p + 1) s 0 0 []).2.1 + 1
            omega
          · rw [if_neg h4] at h; exact absurd h (Nat.succ_ne_zero _)
        · rw [if_pos h3] at h; exact absurd h h3
      · rw [if_neg h2] at h ⊢; exact pCmp_len h
theorem pCnd_len {tx : Nat → Nat} {n e p s : Nat} (h : (pCnd tx n e p s).1 = 0) : p + (pCnd tx n e p s).2.2.length ≤ (pCnd tx n e p s).2.1 := pCndL_len (pPce_len e) p s 240 p 0 0 [] (Nat.le_refl _) h
/-- letters that begin a clause: of a law (1), of a rule -/
abbrev clG (b c : Nat) : Prop := b = 1 ∧ (c = 97 ∨ c = 98 ∨ c = 99 ∨ c = 104 ∨ c = 107) ∨ b ≠ 1 ∧ c = 114
def pCls (tx : Nat → Nat) (n b p s cl : Nat) : Nat × Nat × List (Nat × Nat) × List (Nat × Nat) :=
  if ¬ clG b (sgn tx n p) then (1, p, [], []) else if 16 ≤ cl then (4, p, [], []) else
  if (pSum tx n 6 (p + 1)).1 ≠ 0 then ((pSum tx n 6 (p + 1)).1, (pSum tx n 6 (p + 1)).2.1, [], []) else
  if ¬ sgn tx n (pSum tx n 6 (p + 1)).2.1 = 40 then (1, (pSum tx n 6 (p + 1)).2.1, [], []) else
  if (pCnd tx n 5 ((pSum tx n 6 (p + 1)).2.1 + 1) (s + (pSum tx n 6 (p + 1)).2.2.length)).1 ≠ 0 then ((pCnd tx n 5 ((pSum tx n 6 (p + 1)).2.1 + 1) (s + (pSum tx n 6 (p + 1)).2.2.length)).1, (pCnd tx n 5 ((pSum tx n 6 (p + 1)).2.1 + 1) (s + (pSum tx n 6 (p + 1)).2.2.length)).2.1, [], []) else
  if ¬ sgn tx n (pCnd tx n 5 ((pSum tx n 6 (p + 1)).2.1 + 1) (s + (pSum tx n 6 (p + 1)).2.2.length)).2.1 = 41 then (1, (pCnd tx n 5 ((pSum tx n 6 (p + 1)).2.1 + 1) (s + (pSum tx n 6 (p + 1)).2.2.length)).2.1, [], []) else
  (0, (pCnd tx n 5 ((pSum tx n 6 (p + 1)).2.1 + 1) (s + (pSum tx n 6 (p + 1)).2.2.length)).2.1 + 1, (pSum tx n 6 (p + 1)).2.2, (pCnd tx n 5 ((pSum tx n 6 (p + 1)).2.1 + 1) (s + (pSum tx n 6 (p + 1)).2.2.length)).2.2)
theorem pCls_len {tx : Nat → Nat} {n b p s cl : Nat} (h : (pCls tx n b p s cl).1 = 0) : clG b (sgn tx n p) ∧ cl < 16 ∧ p + 3 + (pCls tx n b p s cl).2.2.1.length + (pCls tx n b p s cl).2.2.2.length ≤ (pCls tx n b p s cl).2.1 := by
  unfold pCls at h ⊢
  by_cases h1 : clG b (sgn tx n p)
  · rw [if_neg (fun h => h h1)] at h ⊢
    by_cases h2 : 16 ≤ cl
    · rw [if_pos h2] at h; exact absurd h (Nat.succ_ne_zero _)
    · rw [if_neg h2] at h ⊢
      by_cases h3 : (pSum tx n 6 (p + 1)).1 = 0
      · rw [if_neg (fun h => h h3)] at h ⊢
        have e3 := pSum_len 6 (p + 1) h3
        by_cases h4 : sgn tx n (pSum tx n 6 (p + 1)).2.1 = 40
        · rw [if_neg (fun h => h h4)] at h ⊢
          by_cases h5 : (pCnd tx n 5 ((pSum tx n 6 (p + 1)).2.1 + 1) (s + (pSum tx n 6 (p + 1)).2.2.length)).1 = 0
          · rw [if_neg (fun h => h h5)] at h ⊢
            have e5 := pCnd_len h5
            by_cases h6 : sgn tx n (pCnd tx n 5 ((pSum tx n 6 (p + 1)).2.1 + 1) (s + (pSum tx n 6 (p + 1)).2.2.length)).2.1 = 41
            · rw [if_neg (fun h => h h6)]
              refine ⟨h1, by omega, ?_⟩
              show p + 3 + (pSum tx n 6 (p + 1)).2.2.length + (pCnd tx n 5 ((pSum tx n 6 (p + 1)).2.1 + 1) (s + (pSum tx n 6 (p + 1)).2.2.length)).2.2.length ≤ (pCnd tx n 5 ((pSum tx n 6 (p + 1)).2.1 + 1) (s + (pSum tx n 6 (p + 1)).2.2.length)).2.1 + 1
              omega
            · rw [if_pos h6] at h; exact absurd h (Nat.succ_ne_zero _)
          · rw [if_pos h5] at h; exact absurd h h5
        · rw [if_pos h4] at h; exact absurd h (Nat.succ_ne_zero _)
      · rw [if_pos h3] at h; exact absurd h h3
  · rw [if_pos h1] at h; exact absurd h (Nat.succ_ne_zero _)
set_option maxRecDepth 100000 in
set_option maxHeartbeats 4000000 in
theorem c_lawLetM {G : zG} {I : zI} {J : zJ}  : zK G mX1_isLawLetter 0 [.int (-1)] zsh I J (zA0 (.int (nI 0)) I J) := by
  refine zK_of kX1_isLawLetter.2.2.2.2.1 (Nat.le_of_ble_eq_true rfl) ?_
  show V G mX1_isLawLetter 0 _ 0 [(0, .int (-1))] [] (0, 0) zsh I J
  refine V_iload_n dX1_isLawLetter_0 rfl ?_
  refine V_bipush (v := nI 97) dX1_isLawLetter_1 rfl ?_
  refine V_icmp_eq (tgt := 30) dX1_isLawLetter_3 rfl (fun h => absurd h (by decide)) (fun _ => ?_)
  refine V_iload_n dX1_isLawLetter_6 rfl ?_
  refine V_bipush (v := nI 98) dX1_isLawLetter_7 rfl ?_
  refine V_icmp_eq (tgt := 30) dX1_isLawLetter_9 rfl (fun h => absurd h (by decide)) (fun _ => ?_)
  refine V_iload_n dX1_isLawLetter_12 rfl ?_
  refine V_bipush (v := nI 99) dX1_isLawLetter_13 rfl ?_
  refine V_icmp_eq (tgt := 30) dX1_isLawLetter_15 rfl (fun h => absurd h (by decide)) (fun _ => ?_)
  refine V_iload_n dX1_isLawLetter_18 rfl ?_
  refine V_bipush (v := nI 104) dX1_isLawLetter_19 rfl ?_
  refine V_icmp_eq (tgt := 30) dX1_isLawLetter_21 rfl (fun h => absurd h (by decide)) (fun _ => ?_)
  refine V_iload_n dX1_isLawLetter_24 rfl ?_
  refine V_bipush (v := nI 107) dX1_isLawLetter_25 rfl ?_
  refine V_icmp_ne (tgt := 34) dX1_isLawLetter_27 rfl (fun _ => ?_) (fun h => absurd h (by decide))
  refine V_iconst (v := nI 0) dX1_isLawLetter_34 rfl ?_
  exact V_iret ⟨Or.inr ⟨rfl, Or.inl rfl⟩, dX1_isLawLetter_35⟩ ⟨Nat.le_of_ble_eq_true rfl, Nat.le_of_ble_eq_true rfl⟩ ⟨rfl, rfl, rfl, rfl⟩

set_option maxRecDepth 100000 in
set_option maxHeartbeats 4000000 in
theorem c_lawLetC {G : zG} {I : zI} {J : zJ} {c : Nat} (hc : c < 2 ^ 31) : zK G mX1_isLawLetter 0 [.int (nI c)] zsh I J (zA0 (.int (nI (if c = 97 ∨ c = 98 ∨ c = 99 ∨ c = 104 ∨ c = 107 then 1 else 0))) I J) := by
  refine zK_of kX1_isLawLetter.2.2.2.2.1 (Nat.le_of_ble_eq_true rfl) ?_
  show V G mX1_isLawLetter 0 _ 0 [(0, .int (nI c))] [] (0, 0) zsh I J
  refine V_iload_n dX1_isLawLetter_0 rfl ?_
  refine V_bipush (v := nI 97) dX1_isLawLetter_1 rfl ?_
  refine V_icmp_eqN (tgt := 30) dX1_isLawLetter_3 rfl (by omega) (by omega) (fun h3 => ?_) (fun h3 => ?_)
  · skip
    refine V_iconst (v := nI 1) dX1_isLawLetter_30 rfl ?_
    refine V_goto (tgt := 35) dX1_isLawLetter_31 rfl ?_
    exact V_iret ⟨Or.inr ⟨rfl, Or.inr rfl⟩, dX1_isLawLetter_35⟩ ⟨Nat.le_of_ble_eq_true rfl, Nat.le_of_ble_eq_true rfl⟩ ⟨rfl, by rw [if_pos (by omega)], rfl, rfl⟩
  · skip
    refine V_iload_n dX1_isLawLetter_6 rfl ?_
    refine V_bipush (v := nI 98) dX1_isLawLetter_7 rfl ?_
    refine V_icmp_eqN (tgt := 30) dX1_isLawLetter_9 rfl (by omega) (by omega) (fun h9 => ?_) (fun h9 => ?_)
    · skip
      refine V_iconst (v := nI 1) dX1_isLawLetter_30 rfl ?_
      refine V_goto (tgt := 35) dX1_isLawLetter_31 rfl ?_
      exact V_iret ⟨Or.inr ⟨rfl, Or.inr rfl⟩, dX1_isLawLetter_35⟩ ⟨Nat.le_of_ble_eq_true rfl, Nat.le_of_ble_eq_true rfl⟩ ⟨rfl, by rw [if_pos (by omega)], rfl, rfl⟩
    · skip
      refine V_iload_n dX1_isLawLetter_12 rfl ?_
      refine V_bipush (v := nI 99) dX1_isLawLetter_13 rfl ?_
      refine V_icmp_eqN (tgt := 30) dX1_isLawLetter_15 rfl (by omega) (by omega) (fun h15 => ?_) (fun h15 => ?_)
      · skip
        refine V_iconst (v := nI 1) dX1_isLawLetter_30 rfl ?_
        refine V_goto (tgt := 35) dX1_isLawLetter_31 rfl ?_
        exact V_iret ⟨Or.inr ⟨rfl, Or.inr rfl⟩, dX1_isLawLetter_35⟩ ⟨Nat.le_of_ble_eq_true rfl, Nat.le_of_ble_eq_true rfl⟩ ⟨rfl, by rw [if_pos (by omega)], rfl, rfl⟩
      · skip
        refine V_iload_n dX1_isLawLetter_18 rfl ?_
        refine V_bipush (v := nI 104) dX1_isLawLetter_19 rfl ?_
        refine V_icmp_eqN (tgt := 30) dX1_isLawLetter_21 rfl (by omega) (by omega) (fun h21 => ?_) (fun h21 => ?_)
        · skip
          refine V_iconst (v := nI 1) dX1_isLawLetter_30 rfl ?_
          refine V_goto (tgt := 35) dX1_isLawLetter_31 rfl ?_
          exact V_iret ⟨Or.inr ⟨rfl, Or.inr rfl⟩, dX1_isLawLetter_35⟩ ⟨Nat.le_of_ble_eq_true rfl, Nat.le_of_ble_eq_true rfl⟩ ⟨rfl, by rw [if_pos (by omega)], rfl, rfl⟩
        · skip
          refine V_iload_n dX1_isLawLetter_24 rfl ?_
          refine V_bipush (v := nI 107) dX1_isLawLetter_25 rfl ?_
          refine V_icmp_neN (tgt := 34) dX1_isLawLetter_27 rfl (by omega) (by omega) (fun h27 => ?_) (fun h27 => ?_)
          · skip
            refine V_iconst (v := nI 0) dX1_isLawLetter_34 rfl ?_
            exact V_iret ⟨Or.inr ⟨rfl, Or.inl rfl⟩, dX1_isLawLetter_35⟩ ⟨Nat.le_of_ble_eq_true rfl, Nat.le_of_ble_eq_true rfl⟩ ⟨rfl, by rw [if_neg (by omega)], rfl, rfl⟩
          · skip
            refine V_iconst (v := nI 1) dX1_isLawLetter_30 rfl ?_
            refine V_goto (tgt := 35) dX1_isLawLetter_31 rfl ?_
            exact V_iret ⟨Or.inr ⟨rfl, Or.inr rfl⟩, dX1_isLawLetter_35⟩ ⟨Nat.le_of_ble_eq_true rfl, Nat.le_of_ble_eq_true rfl⟩ ⟨rfl, by rw [if_pos (by omega)], rfl, rfl⟩

theorem c_lawLet {G : zG} {I : zI} {J : zJ} {c : Nat} (hc : c ≤ 256) : zK G mX1_isLawLetter 0 [.int (nxI c)] zsh I J (zA0 (.int (nI (if c = 97 ∨ c = 98 ∨ c = 99 ∨ c = 104 ∨ c = 107 then 1 else 0))) I J) := by
  by_cases h : c = 256
  · subst h; exact c_lawLetM
  · rw [nxI_c h]; exact c_lawLetC (by omega)
theorem c_lawLetY {G : zG} {I : zI} {J : zJ} {c : Nat} (hc : c ≤ 256) (h : c = 97 ∨ c = 98 ∨ c = 99 ∨ c = 104 ∨ c = 107) : zK G mX1_isLawLetter 0 [.int (nxI c)] zsh I J (zA0 (.int (nI 1)) I J) := by
  have := c_lawLet (G := G) (I := I) (J := J) hc
  rw [if_pos h] at this
  exact this
theorem c_lawLetN {G : zG} {I : zI} {J : zJ} {c : Nat} (hc : c ≤ 256) (h : ¬ (c = 97 ∨ c = 98 ∨ c = 99 ∨ c = 104 ∨ c = 107)) : zK G mX1_isLawLetter 0 [.int (nxI c)] zsh I J (zA0 (.int (nI 0)) I J) := by
  have := c_lawLet (G := G) (I := I) (J := J) hc
  rw [if_neg h] at this
  exact this
/-- a step that stands for a code, behind the others -/
theorem c_addc {G : zG} {I Ic : zI} {J : zJ} {off n S p : Nat} {g : List (Nat × Nat)} {x : Int32} (hc : rdS off I Ic n S p g) (c : Nat × Nat) (hx : x = encS off c) : zK G mX8_add 0 [.ref 6, .int x] zsh Ic J (zA2 (fun I' J' => rdS off I I' n S p (g ++ [c]) ∧ J = J')) := by
  subst hx
  exact zK_imp (c_add8 (rdS_i hc).2.2.2.2) (fun r sh I' J' hq => ⟨hq.1, hq.2.1, by rw [hq.2.2.1]; exact rdS_t hc (rdS_add (rdS_i hc)), hq.2.2.2⟩)
theorem c_putc {G : zG} {I Ic : zI} {J : zJ} {off n S p t j : Nat} {g : List (Nat × Nat)} {x : Int32} (hc : rdS off I Ic n S p g) (c : Nat × Nat) (hj : j < g.length) (ht9 : t < 2 ^ 31) (ht : t = S + j ∨ 240 ≤ t ∧ 240 < S + g.length) (hx : S + g.length ≤ 240 → x = encS off c) : zK G mX8_put 0 [.ref 6, .int (nI t), .int x] zsh Ic J (zA2 (fun I' J' => rdS off I I' n S p (g.set j c) ∧ J = J')) :=
  zK_imp (c_put8 ht9) (fun r sh I' J' hq => ⟨hq.1, hq.2.1, by rw [hq.2.2.1]; exact rdS_pput hc hj ht hx, hq.2.2.2⟩)
theorem enc_00 {off a : Nat} : nI a = encS off (0, a) := by
  rw [enc_lo (by decide)]
  congr 1
  omega
/-- a clause's steps: its letter, where its condition begins, where it ends, both -/
def clL (c S : Nat) (g1 g2 : List (Nat × Nat)) : List (Nat × Nat) := (0, c) :: (0, S + 3 + g1.length) :: (0, S + 3 + g1.length + g2.length) :: (g1 ++ g2)
def clR (I : zI) (J : zJ) (n c s cl : Nat) (r : Nat × Nat × List (Nat × Nat) × List (Nat × Nat)) : zQ := zP (fun v I' J' => J = J' ∧ (r.1 = 0 → v = some (.int (nI 1)) ∧ ∃ I2, rdS (3 * cl + 3) I I2 n (s + 3 * cl) r.2.1 (clL c (s + 3 * cl) r.2.2.1 r.2.2.2) ∧ I' = zwr I2 6 2 (nI (cl + 1))) ∧ (r.1 ≠ 0 → v = some (.int (nI 0)) ∧ rdF I I' ∧ I' 5 4 = fltI r.1 r.2.1))
theorem clR_no {I I' : zI} {J : zJ} {n c s cl fc q : Nat} {r : Nat × Nat × List (Nat × Nat) × List (Nat × Nat)} {g : List (Nat × Nat) × List (Nat × Nat)} (hr : r = (fc, q, g)) (h0 : fc ≠ 0) (h : rdF I I') (h4 : I' 5 4 = fltI fc q) : clR I J n c s cl r (some (.int (nI 0))) zsh I' J := by
  subst hr
  exact ⟨rfl, rfl, fun h => absurd h h0, fun _ => ⟨rfl, h, h4⟩⟩
theorem clR_ok {I I2 : zI} {J : zJ} {n c s cl q : Nat} {r : Nat × Nat × List (Nat × Nat) × List (Nat × Nat)} {g1 g2 : List (Nat × Nat)} (hr : r = (0, q, g1, g2)) (h : rdS (3 * cl + 3) I I2 n (s + 3 * cl) q (clL c (s + 3 * cl) g1 g2)) : clR I J n c s cl r (some (.int (nI 1))) zsh (zwr I2 6 2 (nI (cl + 1))) J := by
  subst hr
  exact ⟨rfl, rfl, fun _ => ⟨rfl, I2, h, rfl⟩, fun h => absurd rfl h⟩
theorem zK_clY {G : zG} {M : zM} {d n c s cl q : Nat} {as : List Value} {I : zI} {J : zJ} {r : Nat × Nat × List (Nat × Nat) × List (Nat × Nat)} {g1 g2 : List (Nat × Nat)} (h : zK G M d as zsh I J (clR I J n c s cl r)) (hr : r = (0, q, g1, g2)) : zK G M d as zsh I J (zP (fun v I' J' => v = some (.int (nI 1)) ∧ (∃ I2, rdS (3 * cl + 3) I I2 n (s + 3 * cl) q (clL c (s + 3 * cl) g1 g2) ∧ I' = zwr I2 6 2 (nI (cl + 1))) ∧ J = J')) := by
  subst hr
  exact zK_imp h (fun v sh I' J' hq => ⟨hq.1, (hq.2.2.1 rfl).1, (hq.2.2.1 rfl).2, hq.2.1⟩)
theorem zK_clN {G : zG} {M : zM} {d n c s cl fc q : Nat} {as : List Value} {I : zI} {J : zJ} {r : Nat × Nat × List (Nat × Nat) × List (Nat × Nat)} {g : List (Nat × Nat) × List (Nat × Nat)} (h : zK G M d as zsh I J (clR I J n c s cl r)) (hr : r = (fc, q, g)) (h0 : fc ≠ 0) : zK G M d as zsh I J (zP (fun v I' J' => v = some (.int (nI 0)) ∧ rdF I I' ∧ I' 5 4 = fltI fc q ∧ J = J')) := by
  subst hr
  exact zK_imp h (fun v sh I' J' hq => ⟨hq.1, (hq.2.2.2 h0).1, (hq.2.2.2 h0).2.1, (hq.2.2.2 h0).2.2, hq.2.1⟩)
set_option maxRecDepth 100000 in
set_option maxHeartbeats 4000000 in
theorem c_clause {G : zG} {I : zI} {J : zJ} {n p s cl b : Nat} {tx : Nat → Nat} (h : rdI I n p (s + 3 * cl)) (hx : txk I tx n) (hcl : I 6 2 = nI cl) (hcl16 : cl ≤ 16) (hb : b ≤ 1) : zK G mX1_readClause 16 [.ref 5, .int (nI b)] zsh I J (clR I J n (sgn tx n p) s cl (pCls tx n b p s cl)) := by
  refine zK_of kX1_readClause.2.2.2.2.1 (Nat.le_of_ble_eq_true rfl) ?_
  show V G mX1_readClause 16 _ 0 [(0, .ref 5), (1, .int (nI b))] [] (0, 0) zsh I J
  have hn9 := h.2.1
  have hp9 := h.2.2.2.1
  have hc6 : sgn tx n p ≤ 256 := txk_le hx _
  refine V_aload_n dX1_readClause_0 rfl ?_
  refine V_callV (As := []) (st := []) (a := 5) dX1_readClause_1 kX1_next lX1_61 (by omega) rfl rfl (Nat.le_of_ble_eq_true rfl) ⟨Nat.le_of_ble_eq_true rfl, Nat.le_of_ble_eq_true rfl⟩ ⟨Nat.le_of_ble_eq_true rfl, Nat.le_of_ble_eq_true rfl⟩ rfl ⟨rfl, by decide⟩ (c_next1 h hx) ?_
  rintro _ _ _ _ ⟨rfl, rfl, rfl, rfl⟩
  refine V_istore_n (ls' := [(2, .int (nxI (sgn tx n p))), (0, .ref 5), (1, .int (nI b))]) dX1_readClause_4 (by decide) rfl ?_
  refine V_iload_n dX1_readClause_5 rfl ?_
  refine V_if_eqN (tgt := 19) dX1_readClause_6 rfl (by omega) (fun h6 => ?_) (fun h6 => ?_)
  · skip
    refine V_iload_n dX1_readClause_19 rfl ?_
    refine V_bipush (v := nI 114) dX1_readClause_20 rfl ?_
    refine V_icmp_eqX (tgt := 31) dX1_readClause_22 rfl (txk_le hx _) (by decide) (fun h22 => ?_) (fun h22 => ?_)
    · skip
      have hG : clG b (sgn tx n p) := by omega
      refine V_aload_n dX1_readClause_31 rfl ?_
      refine V_getR (b := 6) dX1_readClause_32 fX1_12 ⟨Nat.le_of_ble_eq_true rfl, Nat.le_of_ble_eq_true rfl⟩ rfl rfl rfl ?_
      refine V_getI dX1_readClause_35 fX1_54 ⟨Nat.le_of_ble_eq_true rfl, Nat.le_of_ble_eq_true rfl⟩ rfl rfl ?_
      refine V_eqI (y := nI cl) hcl ?_
      refine V_bipush (v := nI 16) dX1_readClause_38 rfl ?_
      refine V_icmp_ltN (tgt := 49) dX1_readClause_40 rfl (by omega) (by omega) (fun h40 => ?_) (fun h40 => ?_)
      · skip
        have hpn : p < n := sgn_ltn (tx := tx) (by omega)
        have hc0 := rdS_at (off := 3 * cl + 3) h hpn
        refine V_aload_n dX1_readClause_49 rfl ?_
        refine V_dup dX1_readClause_50 rfl ?_
        refine V_getI dX1_readClause_51 fX1_41 ⟨Nat.le_of_ble_eq_true rfl, Nat.le_of_ble_eq_true rfl⟩ rfl rfl ?_
        refine V_eqI (y := nI p) h.2.2.1 ?_
        refine V_iconst (v := nI 1) dX1_readClause_54 rfl ?_
        refine V_iaddN dX1_readClause_55 ?_
        refine V_putW dX1_readClause_56 fX1_41 ⟨Nat.le_of_ble_eq_true rfl, Nat.le_of_ble_eq_true rfl⟩ rfl rfl rfl ⟨rfl, rfl⟩ ?_
        refine V_aload_n dX1_readClause_59 rfl ?_
        refine V_getR (b := 6) dX1_readClause_60 fX1_12 ⟨Nat.le_of_ble_eq_true rfl, Nat.le_of_ble_eq_true rfl⟩ rfl rfl rfl ?_
        refine V_getI dX1_readClause_63 fX1_71 ⟨Nat.le_of_ble_eq_true rfl, Nat.le_of_ble_eq_true rfl⟩ rfl rfl ?_
        refine V_eqI (y := I 6 1) rfl ?_
        refine V_eqI (y := nI (min (s + 3 * cl) 240)) h.2.2.2.2 ?_
        refine V_istore_n (ls' := [(3, .int (nI (min (s + 3 * cl) 240))), (2, .int (nxI (sgn tx n p))), (0, .ref 5), (1, .int (nI b))]) dX1_readClause_66 (by decide) rfl ?_
        refine V_aload_n dX1_readClause_67 rfl ?_
        refine V_getR (b := 6) dX1_readClause_68 fX1_12 ⟨Nat.le_of_ble_eq_true rfl, Nat.le_of_ble_eq_true rfl⟩ rfl rfl rfl ?_
        refine V_iload_n dX1_readClause_71 rfl ?_
        refine V_eqI (y := nI (sgn tx n p)) (nxI_c (by omega)) ?_
        refine V_callV (As := [.int (nI (sgn tx n p))]) (st := []) (a := 6) dX1_readClause_72 kX8_add lX1_74 (by omega) rfl rfl (Nat.le_of_ble_eq_true rfl) ⟨Nat.le_of_ble_eq_true rfl, Nat.le_of_ble_eq_true rfl⟩ ⟨Nat.le_of_ble_eq_true rfl, Nat.le_of_ble_eq_true rfl⟩ rfl ⟨rfl, by decide⟩ (c_addc hc0 (0, sgn tx n p) enc_00) ?_
        rintro r sh' I1 J' ⟨rfl, rfl, hcn, rfl⟩
        have hc1 : rdS (3 * cl + 3) I I1 n (s + 3 * cl) (p + 1) [(0, sgn tx n p)] := hcn
        refine V_aload_n dX1_readClause_75 rfl ?_
        refine V_getR (b := 6) dX1_readClause_76 fX1_12 ⟨Nat.le_of_ble_eq_true rfl, Nat.le_of_ble_eq_true rfl⟩ rfl rfl rfl ?_
        refine V_iconst (v := nI 0) dX1_readClause_79 rfl ?_
        refine V_callV (As := [.int (nI 0)]) (st := []) (a := 6) dX1_readClause_80 kX8_add lX1_74 (by omega) rfl rfl (Nat.le_of_ble_eq_true rfl) ⟨Nat.le_of_ble_eq_true rfl, Nat.le_of_ble_eq_true rfl⟩ ⟨Nat.le_of_ble_eq_true rfl, Nat.le_of_ble_eq_true rfl⟩ rfl ⟨rfl, by decide⟩ (c_addc hc1 (0, 0) enc_00) ?_
        rintro r sh' I2 J' ⟨rfl, rfl, hcn, rfl⟩
        have hc2 : rdS (3 * cl + 3) I I2 n (s + 3 * cl) (p + 1) [(0, sgn tx n p), (0, 0)] := hcn
        refine V_aload_n dX1_readClause_83 rfl ?_
        refine V_getR (b := 6) dX1_readClause_84 fX1_12 ⟨Nat.le_of_ble_eq_true rfl, Nat.le_of_ble_eq_true rfl⟩ rfl rfl rfl ?_
        refine V_iconst (v := nI 0) dX1_readClause_87 rfl ?_
        refine V_callV (As := [.int (nI 0)]) (st := []) (a := 6) dX1_readClause_88 kX8_add lX1_74 (by omega) rfl rfl (Nat.le_of_ble_eq_true rfl) ⟨Nat.le_of_ble_eq_true rfl, Nat.le_of_ble_eq_true rfl⟩ ⟨Nat.le_of_ble_eq_true rfl, Nat.le_of_ble_eq_true rfl⟩ rfl ⟨rfl, by decide⟩ (c_addc hc2 (0, 0) enc_00) ?_
        rintro r sh' I3 J' ⟨rfl, rfl, hcn, rfl⟩
        have hc3 : rdS (3 * cl + 3) I I3 n (s + 3 * cl) (p + 1) [(0, sgn tx n p), (0, 0), (0, 0)] := hcn
        refine V_aload_n dX1_readClause_91 rfl ?_
        refine V_iconst (v := nI 0) dX1_readClause_92 rfl ?_
        obtain ⟨fc, q, g1, hr⟩ : ∃ fc q g, pSum tx n 6 (p + 1) = (fc, q, g) := ex3 _
        by_cases hfc : fc = 0
        · skip
          subst hfc
          refine V_callV (As := [.int (nI 0)]) (st := []) (a := 5) dX1_readClause_93 kX1_readSum lX1_78 (by omega) rfl rfl (Nat.le_of_ble_eq_true rfl) ⟨Nat.le_of_ble_eq_true rfl, Nat.le_of_ble_eq_true rfl⟩ ⟨Nat.le_of_ble_eq_true rfl, Nat.le_of_ble_eq_true rfl⟩ rfl ⟨rfl, by decide⟩ (zK_rdY (c_sum (off := 3 * cl + 3) 6 I3 (p + 1) (s + 3 * cl + [(0, sgn tx n p), (0, 0), (0, 0)].length) 0 (by omega) (rdS_i hc3) (rdS_x hc3 hx)) hr) ?_
          rintro r sh' I4 J' ⟨rfl, rfl, hB, rfl⟩
          have hc4 : rdS (3 * cl + 3) I I4 n (s + 3 * cl) q ((0, sgn tx n p) :: (0, 0) :: (0, 0) :: g1) := rdS_t hc3 hB
          refine V_if_ne (tgt := 101) dX1_readClause_96 rfl (fun _ => ?_) (fun h => absurd h (by decide))
          refine V_aload_n dX1_readClause_101 rfl ?_
          refine V_getR (b := 6) dX1_readClause_102 fX1_12 ⟨Nat.le_of_ble_eq_true rfl, Nat.le_of_ble_eq_true rfl⟩ rfl rfl rfl ?_
          refine V_iload_n dX1_readClause_105 rfl ?_
          refine V_iconst (v := nI 1) dX1_readClause_106 rfl ?_
          refine V_iaddN dX1_readClause_107 ?_
          refine V_aload_n dX1_readClause_108 rfl ?_
          refine V_getR (b := 6) dX1_readClause_109 fX1_12 ⟨Nat.le_of_ble_eq_true rfl, Nat.le_of_ble_eq_true rfl⟩ rfl rfl rfl ?_
          refine V_getI dX1_readClause_112 fX1_71 ⟨Nat.le_of_ble_eq_true rfl, Nat.le_of_ble_eq_true rfl⟩ rfl rfl ?_
          refine V_eqI (y := nI (min (s + 3 * cl + 3 + g1.length) 240)) ((rdS_i hc4).2.2.2.2.trans (by congr 2; simp only [List.length_cons]; omega)) ?_
          refine V_callV (As := [.int (nI ((min (s + 3 * cl) 240) + 1)), .int (nI (min (s + 3 * cl + 3 + g1.length) 240))]) (st := []) (a := 6) dX1_readClause_115 kX8_put lX1_81 (by omega) rfl rfl (Nat.le_of_ble_eq_true rfl) ⟨Nat.le_of_ble_eq_true rfl, Nat.le_of_ble_eq_true rfl⟩ ⟨Nat.le_of_ble_eq_true rfl, Nat.le_of_ble_eq_true rfl⟩ rfl ⟨rfl, by decide⟩ (c_putc (j := 1) hc4 (0, s + 3 * cl + 3 + g1.length) (by simp only [List.length_cons]; omega) (by omega) (by simp only [List.length_cons]; omega) (fun hl => by simp only [List.length_cons] at hl; rw [← enc_00]; congr 1; omega)) ?_
          rintro r sh' I5 J' ⟨rfl, rfl, hcn, rfl⟩
          have hc5 : rdS (3 * cl + 3) I I5 n (s + 3 * cl) q ((0, sgn tx n p) :: (0, s + 3 * cl + 3 + g1.length) :: (0, 0) :: g1) := hcn
          refine V_aload_n dX1_readClause_118 rfl ?_
          refine V_bipush (v := nI 40) dX1_readClause_119 rfl ?_
          by_cases h40 : sgn tx n q = 40
          · skip
            refine V_callV (As := [.int (nI 40)]) (st := []) (a := 5) dX1_readClause_121 kX1_pass lX1_57 (by omega) rfl rfl (Nat.le_of_ble_eq_true rfl) ⟨Nat.le_of_ble_eq_true rfl, Nat.le_of_ble_eq_true rfl⟩ ⟨Nat.le_of_ble_eq_true rfl, Nat.le_of_ble_eq_true rfl⟩ rfl ⟨rfl, by decide⟩ (c_pass1y (rdS_i hc5) (rdS_x hc5 hx) (by decide) h40) ?_
            rintro r sh' I' J' ⟨rfl, rfl, rfl, rfl⟩
            have hc6 := rdS_n hc5 (sgn_lt h40 (by decide))
            refine V_if_eq (tgt := 144) dX1_readClause_124 rfl (fun h => absurd h (by decide)) (fun _ => ?_)
            refine V_aload_n dX1_readClause_127 rfl ?_
            refine V_iconst (v := nI 1) dX1_readClause_128 rfl ?_
            have hci : rdI (zwr I5 5 3 (nI (q + 1))) n (q + 1) (s + g1.length + (3 * cl + 3)) := by have e := rdS_i hc6; simp only [List.length_cons] at e; rw [show s + g1.length + (3 * cl + 3) = s + 3 * cl + (g1.length + 1 + 1 + 1) by omega]; exact e
            obtain ⟨fc2, q2, g2, hr2⟩ : ∃ fc q2 g, pCnd tx n 5 (q + 1) (s + g1.length) = (fc, q2, g) := ex3 _
            by_cases hfc2 : fc2 = 0
            · skip
              subst hfc2
              refine V_callV (As := [.int (nI 1)]) (st := []) (a := 5) dX1_readClause_129 kX1_readCondition lX1_85 (by omega) rfl rfl (Nat.le_of_ble_eq_true rfl) ⟨Nat.le_of_ble_eq_true rfl, Nat.le_of_ble_eq_true rfl⟩ ⟨Nat.le_of_ble_eq_true rfl, Nat.le_of_ble_eq_true rfl⟩ rfl ⟨rfl, by decide⟩ (zK_rdY (c_cond 5 (zwr I5 5 3 (nI (q + 1))) (q + 1) (s + g1.length) 1 (by omega) hci (rdS_x hc6 hx)) hr2) ?_
              rintro r sh' I7 J' ⟨rfl, rfl, hB2, rfl⟩
              rw [show s + g1.length + (3 * cl + 3) = s + 3 * cl + (g1.length + 1 + 1 + 1) by omega] at hB2
              have hc7 : rdS (3 * cl + 3) I I7 n (s + 3 * cl) q2 ((0, sgn tx n p) :: (0, s + 3 * cl + 3 + g1.length) :: (0, 0) :: (g1 ++ g2)) := rdS_t hc6 hB2
              refine V_if_eq (tgt := 144) dX1_readClause_132 rfl (fun h => absurd h (by decide)) (fun _ => ?_)
              refine V_aload_n dX1_readClause_135 rfl ?_
              refine V_bipush (v := nI 41) dX1_readClause_136 rfl ?_
              by_cases h41 : sgn tx n q2 = 41
              · skip
                refine V_callV (As := [.int (nI 41)]) (st := []) (a := 5) dX1_readClause_138 kX1_pass lX1_57 (by omega) rfl rfl (Nat.le_of_ble_eq_true rfl) ⟨Nat.le_of_ble_eq_true rfl, Nat.le_of_ble_eq_true rfl⟩ ⟨Nat.le_of_ble_eq_true rfl, Nat.le_of_ble_eq_true rfl⟩ rfl ⟨rfl, by decide⟩ (c_pass1y (rdS_i hc7) (rdS_x hc7 hx) (by decide) h41) ?_
                rintro r sh' I8 J' ⟨rfl, rfl, h8e, rfl⟩
                have hc8 : rdS (3 * cl + 3) I I8 n (s + 3 * cl) (q2 + 1) ((0, sgn tx n p) :: (0, s + 3 * cl + 3 + g1.length) :: (0, 0) :: (g1 ++ g2)) := by rw [h8e]; exact rdS_n hc7 (sgn_lt h41 (by decide))
                refine V_if_ne (tgt := 146) dX1_readClause_141 rfl (fun _ => ?_) (fun h => absurd h (by decide))
                refine V_aload_n dX1_readClause_146 rfl ?_
                refine V_getR (b := 6) dX1_readClause_147 fX1_12 ⟨Nat.le_of_ble_eq_true rfl, Nat.le_of_ble_eq_true rfl⟩ rfl rfl rfl ?_
                refine V_iload_n dX1_readClause_150 rfl ?_
                refine V_iconst (v := nI 2) dX1_readClause_151 rfl ?_
                refine V_iaddN dX1_readClause_152 ?_
                refine V_aload_n dX1_readClause_153 rfl ?_
                refine V_getR (b := 6) dX1_readClause_154 fX1_12 ⟨Nat.le_of_ble_eq_true rfl, Nat.le_of_ble_eq_true rfl⟩ rfl rfl rfl ?_
                refine V_getI dX1_readClause_157 fX1_71 ⟨Nat.le_of_ble_eq_true rfl, Nat.le_of_ble_eq_true rfl⟩ rfl rfl ?_
                refine V_eqI (y := nI (min (s + 3 * cl + 3 + g1.length + g2.length) 240)) ((rdS_i hc8).2.2.2.2.trans (by congr 2; simp only [List.length_cons, List.length_append]; omega)) ?_
                refine V_callV (As := [.int (nI ((min (s + 3 * cl) 240) + 2)), .int (nI (min (s + 3 * cl + 3 + g1.length + g2.length) 240))]) (st := []) (a := 6) dX1_readClause_160 kX8_put lX1_81 (by omega) rfl rfl (Nat.le_of_ble_eq_true rfl) ⟨Nat.le_of_ble_eq_true rfl, Nat.le_of_ble_eq_true rfl⟩ ⟨Nat.le_of_ble_eq_true rfl, Nat.le_of_ble_eq_true rfl⟩ rfl ⟨rfl, by decide⟩ (c_putc (j := 2) hc8 (0, s + 3 * cl + 3 + g1.length + g2.length) (by simp only [List.length_cons]; omega) (by omega) (by simp only [List.length_cons, List.length_append]; omega) (fun hl => by simp only [List.length_cons, List.length_append] at hl; rw [← enc_00]; congr 1; omega)) ?_
                rintro r sh' I9 J' ⟨rfl, rfl, hcn, rfl⟩
                have hc9 : rdS (3 * cl + 3) I I9 n (s + 3 * cl) (q2 + 1) (clL (sgn tx n p) (s + 3 * cl) g1 g2) := hcn
                refine V_aload_n dX1_readClause_163 rfl ?_
                refine V_getR (b := 6) dX1_readClause_164 fX1_12 ⟨Nat.le_of_ble_eq_true rfl, Nat.le_of_ble_eq_true rfl⟩ rfl rfl rfl ?_
                refine V_dup dX1_readClause_167 rfl ?_
                refine V_getI dX1_readClause_168 fX1_54 ⟨Nat.le_of_ble_eq_true rfl, Nat.le_of_ble_eq_true rfl⟩ rfl rfl ?_
                refine V_eqI (y := nI cl) (hc9.1.2.2.trans hcl) ?_
                refine V_iconst (v := nI 1) dX1_readClause_171 rfl ?_
                refine V_iaddN dX1_readClause_172 ?_
                refine V_putW dX1_readClause_173 fX1_54 ⟨Nat.le_of_ble_eq_true rfl, Nat.le_of_ble_eq_true rfl⟩ rfl rfl rfl ⟨rfl, rfl⟩ ?_
                refine V_iconst (v := nI 1) dX1_readClause_176 rfl ?_
                exact V_iret ⟨Or.inr ⟨rfl, Or.inr rfl⟩, dX1_readClause_177⟩ ⟨Nat.le_of_ble_eq_true rfl, Nat.le_of_ble_eq_true rfl⟩ (clR_ok (by unfold pCls; rw [if_neg (fun h => h hG), if_neg (by omega), hr]; refine (if_neg (fun h => h rfl)).trans ((if_neg (fun h => h h40)).trans ?_); rw [show pCnd tx n 5 ((0, q, g1).2.1 + 1) (s + (0, q, g1).2.2.length) = _ from hr2]; exact (if_neg (fun h => h rfl)).trans (if_neg (fun h => h h41))) hc9)
              · skip
                refine V_callV (As := [.int (nI 41)]) (st := []) (a := 5) dX1_readClause_138 kX1_pass lX1_57 (by omega) rfl rfl (Nat.le_of_ble_eq_true rfl) ⟨Nat.le_of_ble_eq_true rfl, Nat.le_of_ble_eq_true rfl⟩ ⟨Nat.le_of_ble_eq_true rfl, Nat.le_of_ble_eq_true rfl⟩ rfl ⟨rfl, by decide⟩ (c_pass1n (rdS_i hc7) (rdS_x hc7 hx) (by decide) h41) ?_
                rintro r sh' I' J' ⟨rfl, rfl, rfl, rfl⟩
                refine V_if_ne (tgt := 146) dX1_readClause_141 rfl (fun h => absurd h (by decide)) (fun _ => ?_)
                refine V_iconst (v := nI 0) dX1_readClause_144 rfl ?_
                exact V_iret ⟨Or.inr ⟨rfl, Or.inl rfl⟩, dX1_readClause_145⟩ ⟨Nat.le_of_ble_eq_true rfl, Nat.le_of_ble_eq_true rfl⟩ (clR_no (fc := 1) (q := q2) (g := ([], [])) (by unfold pCls; rw [if_neg (fun h => h hG), if_neg (by omega), hr]; refine (if_neg (fun h => h rfl)).trans ((if_neg (fun h => h h40)).trans ?_); rw [show pCnd tx n 5 ((0, q, g1).2.1 + 1) (s + (0, q, g1).2.2.length) = _ from hr2]; exact (if_neg (fun h => h rfl)).trans (if_pos h41)) (by decide) (rdF_t hc7.1 rdF_no) zwr_54)
            · skip
              refine V_callV (As := [.int (nI 1)]) (st := []) (a := 5) dX1_readClause_129 kX1_readCondition lX1_85 (by omega) rfl rfl (Nat.le_of_ble_eq_true rfl) ⟨Nat.le_of_ble_eq_true rfl, Nat.le_of_ble_eq_true rfl⟩ ⟨Nat.le_of_ble_eq_true rfl, Nat.le_of_ble_eq_true rfl⟩ rfl ⟨rfl, by decide⟩ (zK_rdN (c_cond 5 (zwr I5 5 3 (nI (q + 1))) (q + 1) (s + g1.length) 1 (by omega) hci (rdS_x hc6 hx)) hr2 hfc2) ?_
              rintro r sh' I7 J' ⟨rfl, rfl, hN, h4, rfl⟩
              refine V_if_eq (tgt := 144) dX1_readClause_132 rfl (fun _ => ?_) (fun h => absurd h (by decide))
              refine V_iconst (v := nI 0) dX1_readClause_144 rfl ?_
              exact V_iret ⟨Or.inr ⟨rfl, Or.inl rfl⟩, dX1_readClause_145⟩ ⟨Nat.le_of_ble_eq_true rfl, Nat.le_of_ble_eq_true rfl⟩ (clR_no (fc := fc2) (q := q2) (g := ([], [])) (by unfold pCls; rw [if_neg (fun h => h hG), if_neg (by omega), hr]; refine (if_neg (fun h => h rfl)).trans ((if_neg (fun h => h h40)).trans ?_); rw [show pCnd tx n 5 ((0, q, g1).2.1 + 1) (s + (0, q, g1).2.2.length) = _ from hr2]; exact if_pos hfc2) hfc2 (rdF_t hc6.1 hN) h4)
          · skip
            refine V_callV (As := [.int (nI 40)]) (st := []) (a := 5) dX1_readClause_121 kX1_pass lX1_57 (by omega) rfl rfl (Nat.le_of_ble_eq_true rfl) ⟨Nat.le_of_ble_eq_true rfl, Nat.le_of_ble_eq_true rfl⟩ ⟨Nat.le_of_ble_eq_true rfl, Nat.le_of_ble_eq_true rfl⟩ rfl ⟨rfl, by decide⟩ (c_pass1n (rdS_i hc5) (rdS_x hc5 hx) (by decide) h40) ?_
            rintro r sh' I' J' ⟨rfl, rfl, rfl, rfl⟩
            refine V_if_eq (tgt := 144) dX1_readClause_124 rfl (fun _ => ?_) (fun h => absurd h (by decide))
            refine V_iconst (v := nI 0) dX1_readClause_144 rfl ?_
            exact V_iret ⟨Or.inr ⟨rfl, Or.inl rfl⟩, dX1_readClause_145⟩ ⟨Nat.le_of_ble_eq_true rfl, Nat.le_of_ble_eq_true rfl⟩ (clR_no (fc := 1) (q := q) (g := ([], [])) (by unfold pCls; rw [if_neg (fun h => h hG), if_neg (by omega), hr]; exact (if_neg (fun h => h rfl)).trans (if_pos h40)) (by decide) (rdF_t hc5.1 rdF_no) zwr_54)
        · skip
          refine V_callV (As := [.int (nI 0)]) (st := []) (a := 5) dX1_readClause_93 kX1_readSum lX1_78 (by omega) rfl rfl (Nat.le_of_ble_eq_true rfl) ⟨Nat.le_of_ble_eq_true rfl, Nat.le_of_ble_eq_true rfl⟩ ⟨Nat.le_of_ble_eq_true rfl, Nat.le_of_ble_eq_true rfl⟩ rfl ⟨rfl, by decide⟩ (zK_rdN (c_sum (off := 3 * cl + 3) 6 I3 (p + 1) (s + 3 * cl + [(0, sgn tx n p), (0, 0), (0, 0)].length) 0 (by omega) (rdS_i hc3) (rdS_x hc3 hx)) hr hfc) ?_
          rintro r sh' I4 J' ⟨rfl, rfl, hN, h4, rfl⟩
          refine V_if_ne (tgt := 101) dX1_readClause_96 rfl (fun h => absurd h (by decide)) (fun _ => ?_)
          refine V_iconst (v := nI 0) dX1_readClause_99 rfl ?_
          exact V_iret ⟨Or.inr ⟨rfl, Or.inl rfl⟩, dX1_readClause_100⟩ ⟨Nat.le_of_ble_eq_true rfl, Nat.le_of_ble_eq_true rfl⟩ (clR_no (fc := fc) (q := q) (g := ([], [])) (by unfold pCls; rw [if_neg (fun h => h hG), if_neg (by omega), hr]; exact if_pos hfc) hfc (rdF_t hc3.1 hN) h4)
      · skip
        refine V_aload_n dX1_readClause_43 rfl ?_
        refine V_iconst (v := nI 4) dX1_readClause_44 rfl ?_
        refine V_callV (As := [.int (nI 4)]) (st := []) (a := 5) dX1_readClause_45 kX1_refuse lX1_65 (by omega) rfl rfl (Nat.le_of_ble_eq_true rfl) ⟨Nat.le_of_ble_eq_true rfl, Nat.le_of_ble_eq_true rfl⟩ ⟨Nat.le_of_ble_eq_true rfl, Nat.le_of_ble_eq_true rfl⟩ rfl ⟨rfl, by decide⟩ (c_refuse1 h) ?_
        rintro r sh' I' J' ⟨rfl, rfl, rfl, rfl⟩
        exact V_iret ⟨Or.inr ⟨rfl, Or.inl rfl⟩, dX1_readClause_48⟩ ⟨Nat.le_of_ble_eq_true rfl, Nat.le_of_ble_eq_true rfl⟩ (clR_no (fc := 4) (q := p) (g := ([], [])) (by unfold pCls; rw [if_neg (fun h => h hG)]; exact if_pos (by omega)) (by decide) rdF_no zwr_54)
    · skip
      have hG : ¬ clG b (sgn tx n p) := by omega
      refine V_aload_n dX1_readClause_25 rfl ?_
      refine V_iconst (v := nI 1) dX1_readClause_26 rfl ?_
      refine V_callV (As := [.int (nI 1)]) (st := []) (a := 5) dX1_readClause_27 kX1_refuse lX1_65 (by omega) rfl rfl (Nat.le_of_ble_eq_true rfl) ⟨Nat.le_of_ble_eq_true rfl, Nat.le_of_ble_eq_true rfl⟩ ⟨Nat.le_of_ble_eq_true rfl, Nat.le_of_ble_eq_true rfl⟩ rfl ⟨rfl, by decide⟩ (c_refuse1 h) ?_
      rintro r sh' I' J' ⟨rfl, rfl, rfl, rfl⟩
      exact V_iret ⟨Or.inr ⟨rfl, Or.inl rfl⟩, dX1_readClause_30⟩ ⟨Nat.le_of_ble_eq_true rfl, Nat.le_of_ble_eq_true rfl⟩ (clR_no (fc := 1) (q := p) (g := ([], [])) (by unfold pCls; exact if_pos hG) (by decide) rdF_no zwr_54)
  · skip
    refine V_iload_n dX1_readClause_9 rfl ?_
    by_cases hL : sgn tx n p = 97 ∨ sgn tx n p = 98 ∨ sgn tx n p = 99 ∨ sgn tx n p = 104 ∨ sgn tx n p = 107
    · skip
      refine V_callS (As := [.int (nxI (sgn tx n p))]) (st := []) dX1_readClause_10 kX1_isLawLetter lX1_68 (by omega) rfl rfl (Nat.le_of_ble_eq_true rfl) ⟨Nat.le_of_ble_eq_true rfl, Nat.le_of_ble_eq_true rfl⟩ (c_lawLetY (txk_le hx _) hL) ?_
      rintro _ _ _ _ ⟨rfl, rfl, rfl, rfl⟩
      refine V_if_ne (tgt := 31) dX1_readClause_13 rfl (fun _ => ?_) (fun h => absurd h (by decide))
      have hG : clG b (sgn tx n p) := by omega
      refine V_aload_n dX1_readClause_31 rfl ?_
      refine V_getR (b := 6) dX1_readClause_32 fX1_12 ⟨Nat.le_of_ble_eq_true rfl, Nat.le_of_ble_eq_true rfl⟩ rfl rfl rfl ?_
      refine V_getI dX1_readClause_35 fX1_54 ⟨Nat.le_of_ble_eq_true rfl, Nat.le_of_ble_eq_true rfl⟩ rfl rfl ?_
      refine V_eqI (y := nI cl) hcl ?_
      refine V_bipush (v := nI 16) dX1_readClause_38 rfl ?_
      refine V_icmp_ltN (tgt := 49) dX1_readClause_40 rfl (by omega) (by omega) (fun h40 => ?_) (fun h40 => ?_)
      · skip
        have hpn : p < n := sgn_ltn (tx := tx) (by omega)
        have hc0 := rdS_at (off := 3 * cl + 3) h hpn
        refine V_aload_n dX1_readClause_49 rfl ?_
        refine V_dup dX1_readClause_50 rfl ?_
        refine V_getI dX1_readClause_51 fX1_41 ⟨Nat.le_of_ble_eq_true rfl, Nat.le_of_ble_eq_true rfl⟩ rfl rfl ?_
        refine V_eqI (y := nI p) h.2.2.1 ?_
        refine V_iconst (v := nI 1) dX1_readClause_54 rfl ?_
        refine V_iaddN dX1_readClause_55 ?_
        refine V_putW dX1_readClause_56 fX1_41 ⟨Nat.le_of_ble_eq_true rfl, Nat.le_of_ble_eq_true rfl⟩ rfl rfl rfl ⟨rfl, rfl⟩ ?_
        refine V_aload_n dX1_readClause_59 rfl ?_
        refine V_getR (b := 6) dX1_readClause_60 fX1_12 ⟨Nat.le_of_ble_eq_true rfl, Nat.le_of_ble_eq_true rfl⟩ rfl rfl rfl ?_
        refine V_getI dX1_readClause_63 fX1_71 ⟨Nat.le_of_ble_eq_true rfl, Nat.le_of_ble_eq_true rfl⟩ rfl rfl ?_
        refine V_eqI (y := I 6 1) rfl ?_
        refine V_eqI (y := nI (min (s + 3 * cl) 240)) h.2.2.2.2 ?_
        refine V_istore_n (ls' := [(3, .int (nI (min (s + 3 * cl) 240))), (2, .int (nxI (sgn tx n p))), (0, .ref 5), (1, .int (nI b))]) dX1_readClause_66 (by decide) rfl ?_
        refine V_aload_n dX1_readClause_67 rfl ?_
        refine V_getR (b := 6) dX1_readClause_68 fX1_12 ⟨Nat.le_of_ble_eq_true rfl, Nat.le_of_ble_eq_true rfl⟩ rfl rfl rfl ?_
        refine V_iload_n dX1_readClause_71 rfl ?_
        refine V_eqI (y := nI (sgn tx n p)) (nxI_c (by omega)) ?_
        refine V_callV (As := [.int (nI (sgn tx n p))]) (st := []) (a := 6) dX1_readClause_72 kX8_add lX1_74 (by omega) rfl rfl (Nat.le_of_ble_eq_true rfl) ⟨Nat.le_of_ble_eq_true rfl, Nat.le_of_ble_eq_true rfl⟩ ⟨Nat.le_of_ble_eq_true rfl, Nat.le_of_ble_eq_true rfl⟩ rfl ⟨rfl, by decide⟩ (c_addc hc0 (0, sgn tx n p) enc_00) ?_
        rintro r sh' I1 J' ⟨rfl, rfl, hcn, rfl⟩
        have hc1 : rdS (3 * cl + 3) I I1 n (s + 3 * cl) (p + 1) [(0, sgn tx n p)] := hcn
        refine V_aload_n dX1_readClause_75 rfl ?_
        refine V_getR (b := 6) dX1_readClause_76 fX1_12 ⟨Nat.le_of_ble_eq_true rfl, Nat.le_of_ble_eq_true rfl⟩ rfl rfl rfl ?_
        refine V_iconst (v := nI 0) dX1_readClause_79 rfl ?_
        refine V_callV (As := [.int (nI 0)]) (st := []) (a := 6) dX1_readClause_80 kX8_add lX1_74 (by omega) rfl rfl (Nat.le_of_ble_eq_true rfl) ⟨Nat.le_of_ble_eq_true rfl, Nat.le_of_ble_eq_true rfl⟩ ⟨Nat.le_of_ble_eq_true rfl, Nat.le_of_ble_eq_true rfl⟩ rfl ⟨rfl, by decide⟩ (c_addc hc1 (0, 0) enc_00) ?_
        rintro r sh' I2 J' ⟨rfl, rfl, hcn, rfl⟩
        have hc2 : rdS (3 * cl + 3) I I2 n (s + 3 * cl) (p + 1) [(0, sgn tx n p), (0, 0)] := hcn
        refine V_aload_n dX1_readClause_83 rfl ?_
        refine V_getR (b := 6) dX1_readClause_84 fX1_12 ⟨Nat.le_of_ble_eq_true rfl, Nat.le_of_ble_eq_true rfl⟩ rfl rfl rfl ?_
        refine V_iconst (v := nI 0) dX1_readClause_87 rfl ?_
        refine V_callV (As := [.int (nI 0)]) (st := []) (a := 6) dX1_readClause_88 kX8_add lX1_74 (by omega) rfl rfl (Nat.le_of_ble_eq_true rfl) ⟨Nat.le_of_ble_eq_true rfl, Nat.le_of_ble_eq_true rfl⟩ ⟨Nat.le_of_ble_eq_true rfl, Nat.le_of_ble_eq_true rfl⟩ rfl ⟨rfl, by decide⟩ (c_addc hc2 (0, 0) enc_00) ?_
        rintro r sh' I3 J' ⟨rfl, rfl, hcn, rfl⟩
        have hc3 : rdS (3 * cl + 3) I I3 n (s + 3 * cl) (p + 1) [(0, sgn tx n p), (0, 0), (0, 0)] := hcn
        refine V_aload_n dX1_readClause_91 rfl ?_
        refine V_iconst (v := nI 0) dX1_readClause_92 rfl ?_
        obtain ⟨fc, q, g1, hr⟩ : ∃ fc q g, pSum tx n 6 (p + 1) = (fc, q, g) := ex3 _
        by_cases hfc : fc = 0
        · skip
          subst hfc
          refine V_callV (As := [.int (nI 0)]) (st := []) (a := 5) dX1_readClause_93 kX1_readSum lX1_78 (by omega) rfl rfl (Nat.le_of_ble_eq_true rfl) ⟨Nat.le_of_ble_eq_true rfl, Nat.le_of_ble_eq_true rfl⟩ ⟨Nat.le_of_ble_eq_true rfl, Nat.le_of_ble_eq_true rfl⟩ rfl ⟨rfl, by decide⟩ (zK_rdY (c_sum (off := 3 * cl + 3) 6 I3 (p + 1) (s + 3 * cl + [(0, sgn tx n p), (0, 0), (0, 0)].length) 0 (by omega) (rdS_i hc3) (rdS_x hc3 hx)) hr) ?_
          rintro r sh' I4 J' ⟨rfl, rfl, hB, rfl⟩
          have hc4 : rdS (3 * cl + 3) I I4 n (s + 3 * cl) q ((0, sgn tx n p) :: (0, 0) :: (0, 0) :: g1) := rdS_t hc3 hB
          refine V_if_ne (tgt := 101) dX1_readClause_96 rfl (fun _ => ?_) (fun h => absurd h (by decide))
          refine V_aload_n dX1_readClause_101 rfl ?_
          refine V_getR (b := 6) dX1_readClause_102 fX1_12 ⟨Nat.le_of_ble_eq_true rfl, Nat.le_of_ble_eq_true rfl⟩ rfl rfl rfl ?_
          refine V_iload_n dX1_readClause_105 rfl ?_
          refine V_iconst (v := nI 1) dX1_readClause_106 rfl ?_
          refine V_iaddN dX1_readClause_107 ?_
          refine V_aload_n dX1_readClause_108 rfl ?_
          refine V_getR (b := 6) dX1_readClause_109 fX1_12 ⟨Nat.le_of_ble_eq_true rfl, Nat.le_of_ble_eq_true rfl⟩ rfl rfl rfl ?_
          refine V_getI dX1_readClause_112 fX1_71 ⟨Nat.le_of_ble_eq_true rfl, Nat.le_of_ble_eq_true rfl⟩ rfl rfl ?_
          refine V_eqI (y := nI (min (s + 3 * cl + 3 + g1.length) 240)) ((rdS_i hc4).2.2.2.2.trans (by congr 2; simp only [List.length_cons]; omega)) ?_
          refine V_callV (As := [.int (nI ((min (s + 3 * cl) 240) + 1)), .int (nI (min (s + 3 * cl + 3 + g1.length) 240))]) (st := []) (a := 6) dX1_readClause_115 kX8_put lX1_81 (by omega) rfl rfl (Nat.le_of_ble_eq_true rfl) ⟨Nat.le_of_ble_eq_true rfl, Nat.le_of_ble_eq_true rfl⟩ ⟨Nat.le_of_ble_eq_true rfl, Nat.le_of_ble_eq_true rfl⟩ rfl ⟨rfl, by decide⟩ (c_putc (j := 1) hc4 (0, s + 3 * cl + 3 + g1.length) (by simp only [List.length_cons]; omega) (by omega) (by simp only [List.length_cons]; omega) (fun hl => by simp only [List.length_cons] at hl; rw [← enc_00]; congr 1; omega)) ?_
          rintro r sh' I5 J' ⟨rfl, rfl, hcn, rfl⟩
          have hc5 : rdS (3 * cl + 3) I I5 n (s + 3 * cl) q ((0, sgn tx n p) :: (0, s + 3 * cl + 3 + g1.length) :: (0, 0) :: g1) := hcn
          refine V_aload_n dX1_readClause_118 rfl ?_
          refine V_bipush (v := nI 40) dX1_readClause_119 rfl ?_
          by_cases h40 : sgn tx n q = 40
          · skip
            refine V_callV (As := [.int (nI 40)]) (st := []) (a := 5) dX1_readClause_121 kX1_pass lX1_57 (by omega) rfl rfl (Nat.le_of_ble_eq_true rfl) ⟨Nat.le_of_ble_eq_true rfl, Nat.le_of_ble_eq_true rfl⟩ ⟨Nat.le_of_ble_eq_true rfl, Nat.le_of_ble_eq_true rfl⟩ rfl ⟨rfl, by decide⟩ (c_pass1y (rdS_i hc5) (rdS_x hc5 hx) (by decide) h40) ?_
            rintro r sh' I' J' ⟨rfl, rfl, rfl, rfl⟩
            have hc6 := rdS_n hc5 (sgn_lt h40 (by decide))
            refine V_if_eq (tgt := 144) dX1_readClause_124 rfl (fun h => absurd h (by decide)) (fun _ => ?_)
            refine V_aload_n dX1_readClause_127 rfl ?_
            refine V_iconst (v := nI 1) dX1_readClause_128 rfl ?_
            have hci : rdI (zwr I5 5 3 (nI (q + 1))) n (q + 1) (s + g1.length + (3 * cl + 3)) := by have e := rdS_i hc6; simp only [List.length_cons] at e; rw [show s + g1.length + (3 * cl + 3) = s + 3 * cl + (g1.length + 1 + 1 + 1) by omega]; exact e
            obtain ⟨fc2, q2, g2, hr2⟩ : ∃ fc q2 g, pCnd tx n 5 (q + 1) (s + g1.length) = (fc, q2, g) := ex3 _
            by_cases hfc2 : fc2 = 0
            · skip
              subst hfc2
              refine V_callV (As := [.int (nI 1)]) (st := []) (a := 5) dX1_readClause_129 kX1_readCondition lX1_85 (by omega) rfl rfl (Nat.le_of_ble_eq_true rfl) ⟨Nat.le_of_ble_eq_true rfl, Nat.le_of_ble_eq_true rfl⟩ ⟨Nat.le_of_ble_eq_true rfl, Nat.le_of_ble_eq_true rfl⟩ rfl ⟨rfl, by decide⟩ (zK_rdY (c_cond 5 (zwr I5 5 3 (nI (q + 1))) (q + 1) (s + g1.length) 1 (by omega) hci (rdS_x hc6 hx)) hr2) ?_
              rintro r sh' I7 J' ⟨rfl, rfl, hB2, rfl⟩
              rw [show s + g1.length + (3 * cl + 3) = s + 3 * cl + (g1.length + 1 + 1 + 1) by omega] at hB2
              have hc7 : rdS (3 * cl + 3) I I7 n (s + 3 * cl) q2 ((0, sgn tx n p) :: (0, s + 3 * cl + 3 + g1.length) :: (0, 0) :: (g1 ++ g2)) := rdS_t hc6 hB2
              refine V_if_eq (tgt := 144) dX1_readClause_132 rfl (fun h => absurd h (by decide)) (fun _ => ?_)
              refine V_aload_n dX1_readClause_135 rfl ?_
              refine V_bipush (v := nI 41) dX1_readClause_136 rfl ?_
              by_cases h41 : sgn tx n q2 = 41
              · skip
                refine V_callV (As := [.int (nI 41)]) (st := []) (a := 5) dX1_readClause_138 kX1_pass lX1_57 (by omega) rfl rfl (Nat.le_of_ble_eq_true rfl) ⟨Nat.le_of_ble_eq_true rfl, Nat.le_of_ble_eq_true rfl⟩ ⟨Nat.le_of_ble_eq_true rfl, Nat.le_of_ble_eq_true rfl⟩ rfl ⟨rfl, by decide⟩ (c_pass1y (rdS_i hc7) (rdS_x hc7 hx) (by decide) h41) ?_
                rintro r sh' I8 J' ⟨rfl, rfl, h8e, rfl⟩
                have hc8 : rdS (3 * cl + 3) I I8 n (s + 3 * cl) (q2 + 1) ((0, sgn tx n p) :: (0, s + 3 * cl + 3 + g1.length) :: (0, 0) :: (g1 ++ g2)) := by rw [h8e]; exact rdS_n hc7 (sgn_lt h41 (by decide))
                refine V_if_ne (tgt := 146) dX1_readClause_141 rfl (fun _ => ?_) (fun h => absurd h (by decide))
                refine V_aload_n dX1_readClause_146 rfl ?_
                refine V_getR (b := 6) dX1_readClause_147 fX1_12 ⟨Nat.le_of_ble_eq_true rfl, Nat.le_of_ble_eq_true rfl⟩ rfl rfl rfl ?_
                refine V_iload_n dX1_readClause_150 rfl ?_
                refine V_iconst (v := nI 2) dX1_readClause_151 rfl ?_
                refine V_iaddN dX1_readClause_152 ?_
                refine V_aload_n dX1_readClause_153 rfl ?_
                refine V_getR (b := 6) dX1_readClause_154 fX1_12 ⟨Nat.le_of_ble_eq_true rfl, Nat.le_of_ble_eq_true rfl⟩ rfl rfl rfl ?_
                refine V_getI dX1_readClause_157 fX1_71 ⟨Nat.le_of_ble_eq_true rfl, Nat.le_of_ble_eq_true rfl⟩ rfl rfl ?_
                refine V_eqI (y := nI (min (s + 3 * cl + 3 + g1.length + g2.length) 240)) ((rdS_i hc8).2.2.2.2.trans (by congr 2; simp only [List.length_cons, List.length_append]; omega)) ?_
                refine V_callV (As := [.int (nI ((min (s + 3 * cl) 240) + 2)), .int (nI (min (s + 3 * cl + 3 + g1.length + g2.length) 240))]) (st := []) (a := 6) dX1_readClause_160 kX8_put lX1_81 (by omega) rfl rfl (Nat.le_of_ble_eq_true rfl) ⟨Nat.le_of_ble_eq_true rfl, Nat.le_of_ble_eq_true rfl⟩ ⟨Nat.le_of_ble_eq_true rfl, Nat.le_of_ble_eq_true rfl⟩ rfl ⟨rfl, by decide⟩ (c_putc (j := 2) hc8 (0, s + 3 * cl + 3 + g1.length + g2.length) (by simp only [List.length_cons]; omega) (by omega) (by simp only [List.length_cons, List.length_append]; omega) (fun hl => by simp only [List.length_cons, List.length_append] at hl; rw [← enc_00]; congr 1; omega)) ?_
                rintro r sh' I9 J' ⟨rfl, rfl, hcn, rfl⟩
                have hc9 : rdS (3 * cl + 3) I I9 n (s + 3 * cl) (q2 + 1) (clL (sgn tx n p) (s + 3 * cl) g1 g2) := hcn
                refine V_aload_n dX1_readClause_163 rfl ?_
                refine V_getR (b := 6) dX1_readClause_164 fX1_12 ⟨Nat.le_of_ble_eq_true rfl, Nat.le_of_ble_eq_true rfl⟩ rfl rfl rfl ?_
                refine V_dup dX1_readClause_167 rfl ?_
                refine V_getI dX1_readClause_168 fX1_54 ⟨Nat.le_of_ble_eq_true rfl, Nat.le_of_ble_eq_true rfl⟩ rfl rfl ?_
                refine V_eqI (y := nI cl) (hc9.1.2.2.trans hcl) ?_
                refine V_iconst (v := nI 1) dX1_readClause_171 rfl ?_
                refine V_iaddN dX1_readClause_172 ?_
                refine V_putW dX1_readClause_173 fX1_54 ⟨Nat.le_of_ble_eq_true rfl, Nat.le_of_ble_eq_true rfl⟩ rfl rfl rfl ⟨rfl, rfl⟩ ?_
                refine V_iconst (v := nI 1) dX1_readClause_176 rfl ?_
                exact V_iret ⟨Or.inr ⟨rfl, Or.inr rfl⟩, dX1_readClause_177⟩ ⟨Nat.le_of_ble_eq_true rfl, Nat.le_of_ble_eq_true rfl⟩ (clR_ok (by unfold pCls; rw [if_neg (fun h => h hG), if_neg (by omega), hr]; refine (if_neg (fun h => h rfl)).trans ((if_neg (fun h => h h40)).trans ?_); rw [show pCnd tx n 5 ((0, q, g1).2.1 + 1) (s + (0, q, g1).2.2.length) = _ from hr2]; exact (if_neg (fun h => h rfl)).trans (if_neg (fun h => h h41))) hc9)
              · skip
                refine V_callV (As := [.int (nI 41)]) (st := []) (a := 5) dX1_readClause_138 kX1_pass lX1_57 (by omega) rfl rfl (Nat.le_of_ble_eq_true rfl) ⟨Nat.le_of_ble_eq_true rfl, Nat.le_of_ble_eq_true rfl⟩ ⟨Nat.le_of_ble_eq_true rfl, Nat.le_of_ble_eq_true rfl⟩ rfl ⟨rfl, by decide⟩ (c_pass1n (rdS_i hc7) (rdS_x hc7 hx) (by decide) h41) ?_
                rintro r sh' I' J' ⟨rfl, rfl, rfl, rfl⟩
                refine V_if_ne (tgt := 146) dX1_readClause_141 rfl (fun h => absurd h (by decide)) (fun _ => ?_)
                refine V_iconst (v := nI 0) dX1_readClause_144 rfl ?_
                exact V_iret ⟨Or.inr ⟨rfl, Or.inl rfl⟩, dX1_readClause_145⟩ ⟨Nat.le_of_ble_eq_true rfl, Nat.le_of_ble_eq_true rfl⟩ (clR_no (fc := 1) (q := q2) (g := ([], [])) (by unfold pCls; rw [if_neg (fun h => h hG), if_neg (by omega), hr]; refine (if_neg (fun h => h rfl)).trans ((if_neg (fun h => h h40)).trans ?_); rw [show pCnd tx n 5 ((0, q, g1).2.1 + 1) (s + (0, q, g1).2.2.length) = _ from hr2]; exact (if_neg (fun h => h rfl)).trans (if_pos h41)) (by decide) (rdF_t hc7.1 rdF_no) zwr_54)
            · skip
              refine V_callV (As := [.int (nI 1)]) (st := []) (a := 5) dX1_readClause_129 kX1_readCondition lX1_85 (by omega) rfl rfl (Nat.le_of_ble_eq_true rfl) ⟨Nat.le_of_ble_eq_true rfl, Nat.le_of_ble_eq_true rfl⟩ ⟨Nat.le_of_ble_eq_true rfl, Nat.le_of_ble_eq_true rfl⟩ rfl ⟨rfl, by decide⟩ (zK_rdN (c_cond 5 (zwr I5 5 3 (nI (q + 1))) (q + 1) (s + g1.length) 1 (by omega) hci (rdS_x hc6 hx)) hr2 hfc2) ?_
              rintro r sh' I7 J' ⟨rfl, rfl, hN, h4, rfl⟩
              refine V_if_eq (tgt := 144) dX1_readClause_132 rfl (fun _ => ?_) (fun h => absurd h (by decide))
              refine V_iconst (v := nI 0) dX1_readClause_144 rfl ?_
              exact V_iret ⟨Or.inr ⟨rfl, Or.inl rfl⟩, dX1_readClause_145⟩ ⟨Nat.le_of_ble_eq_true rfl, Nat.le_of_ble_eq_true rfl⟩ (clR_no (fc := fc2) (q := q2) (g := ([], [])) (by unfold pCls; rw [if_neg (fun h => h hG), if_neg (by omega), hr]; refine (if_neg (fun h => h rfl)).trans ((if_neg (fun h => h h40)).trans ?_); rw [show pCnd tx n 5 ((0, q, g1).2.1 + 1) (s + (0, q, g1).2.2.length) = _ from hr2]; exact if_pos hfc2) hfc2 (rdF_t hc6.1 hN) h4)
          · skip
            refine V_callV (As := [.int (nI 40)]) (st := []) (a := 5) dX1_readClause_121 kX1_pass lX1_57 (by omega) rfl rfl (Nat.le_of_ble_eq_true rfl) ⟨Nat.le_of_ble_eq_true rfl, Nat.le_of_ble_eq_true rfl⟩ ⟨Nat.le_of_ble_eq_true rfl, Nat.le_of_ble_eq_true rfl⟩ rfl ⟨rfl, by decide⟩ (c_pass1n (rdS_i hc5) (rdS_x hc5 hx) (by decide) h40) ?_
            rintro r sh' I' J' ⟨rfl, rfl, rfl, rfl⟩
            refine V_if_eq (tgt := 144) dX1_readClause_124 rfl (fun _ => ?_) (fun h => absurd h (by decide))
            refine V_iconst (v := nI 0) dX1_readClause_144 rfl ?_
            exact V_iret ⟨Or.inr ⟨rfl, Or.inl rfl⟩, dX1_readClause_145⟩ ⟨Nat.le_of_ble_eq_true rfl, Nat.le_of_ble_eq_true rfl⟩ (clR_no (fc := 1) (q := q) (g := ([], [])) (by unfold pCls; rw [if_neg (fun h => h hG), if_neg (by omega), hr]; exact (if_neg (fun h => h rfl)).trans (if_pos h40)) (by decide) (rdF_t hc5.1 rdF_no) zwr_54)
        · skip
          refine V_callV (As := [.int (nI 0)]) (st := []) (a := 5) dX1_readClause_93 kX1_readSum lX1_78 (by omega) rfl rfl (Nat.le_of_ble_eq_true rfl) ⟨Nat.le_of_ble_eq_true rfl, Nat.le_of_ble_eq_true rfl⟩ ⟨Nat.le_of_ble_eq_true rfl, Nat.le_of_ble_eq_true rfl⟩ rfl ⟨rfl, by decide⟩ (zK_rdN (c_sum (off := 3 * cl + 3) 6 I3 (p + 1) (s + 3 * cl + [(0, sgn tx n p), (0, 0), (0, 0)].length) 0 (by omega) (rdS_i hc3) (rdS_x hc3 hx)) hr hfc) ?_
          rintro r sh' I4 J' ⟨rfl, rfl, hN, h4, rfl⟩
          refine V_if_ne (tgt := 101) dX1_readClause_96 rfl (fun h => absurd h (by decide)) (fun _ => ?_)
          refine V_iconst (v := nI 0) dX1_readClause_99 rfl ?_
          exact V_iret ⟨Or.inr ⟨rfl, Or.inl rfl⟩, dX1_readClause_100⟩ ⟨Nat.le_of_ble_eq_true rfl, Nat.le_of_ble_eq_true rfl⟩ (clR_no (fc := fc) (q := q) (g := ([], [])) (by unfold pCls; rw [if_neg (fun h => h hG), if_neg (by omega), hr]; exact if_pos hfc) hfc (rdF_t hc3.1 hN) h4)
      · skip
        refine V_aload_n dX1_readClause_43 rfl ?_
        refine V_iconst (v := nI 4) dX1_readClause_44 rfl ?_
        refine V_callV (As := [.int (nI 4)]) (st := []) (a := 5) dX1_readClause_45 kX1_refuse lX1_65 (by omega) rfl rfl (Nat.le_of_ble_eq_true rfl) ⟨Nat.le_of_ble_eq_true rfl, Nat.le_of_ble_eq_true rfl⟩ ⟨Nat.le_of_ble_eq_true rfl, Nat.le_of_ble_eq_true rfl⟩ rfl ⟨rfl, by decide⟩ (c_refuse1 h) ?_
        rintro r sh' I' J' ⟨rfl, rfl, rfl, rfl⟩
        exact V_iret ⟨Or.inr ⟨rfl, Or.inl rfl⟩, dX1_readClause_48⟩ ⟨Nat.le_of_ble_eq_true rfl, Nat.le_of_ble_eq_true rfl⟩ (clR_no (fc := 4) (q := p) (g := ([], [])) (by unfold pCls; rw [if_neg (fun h => h hG)]; exact if_pos (by omega)) (by decide) rdF_no zwr_54)
    · skip
      refine V_callS (As := [.int (nxI (sgn tx n p))]) (st := []) dX1_readClause_10 kX1_isLawLetter lX1_68 (by omega) rfl rfl (Nat.le_of_ble_eq_true rfl) ⟨Nat.le_of_ble_eq_true rfl, Nat.le_of_ble_eq_true rfl⟩ (c_lawLetN (txk_le hx _) hL) ?_
      rintro _ _ _ _ ⟨rfl, rfl, rfl, rfl⟩
      refine V_if_ne (tgt := 31) dX1_readClause_13 rfl (fun h => absurd h (by decide)) (fun _ => ?_)
      refine V_goto (tgt := 25) dX1_readClause_16 rfl ?_
      have hG : ¬ clG b (sgn tx n p) := by omega
      refine V_aload_n dX1_readClause_25 rfl ?_
      refine V_iconst (v := nI 1) dX1_readClause_26 rfl ?_
      refine V_callV (As := [.int (nI 1)]) (st := []) (a := 5) dX1_readClause_27 kX1_refuse lX1_65 (by omega) rfl rfl (Nat.le_of_ble_eq_true rfl) ⟨Nat.le_of_ble_eq_true rfl, Nat.le_of_ble_eq_true rfl⟩ ⟨Nat.le_of_ble_eq_true rfl, Nat.le_of_ble_eq_true rfl⟩ rfl ⟨rfl, by decide⟩ (c_refuse1 h) ?_
      rintro r sh' I' J' ⟨rfl, rfl, rfl, rfl⟩
      exact V_iret ⟨Or.inr ⟨rfl, Or.inl rfl⟩, dX1_readClause_30⟩ ⟨Nat.le_of_ble_eq_true rfl, Nat.le_of_ble_eq_true rfl⟩ (clR_no (fc := 1) (q := p) (g := ([], [])) (by unfold pCls; exact if_pos hG) (by decide) rdF_no zwr_54)

/-- a text: its clauses -/
def pTxt (tx : Nat → Nat) (n b : Nat) : Nat → Nat → Nat → Nat → List (Nat × List (Nat × Nat) × List (Nat × Nat)) → Nat × Nat × List (Nat × List (Nat × Nat) × List (Nat × Nat))
  | 0, p, _, _, acc => (0, p, acc)
  | k + 1, p, s, cl, acc =>
    if (pCls tx n b p s cl).1 ≠ 0 then ((pCls tx n b p s cl).1, (pCls tx n b p s cl).2.1, []) else
    if n ≤ (pCls tx n b p s cl).2.1 then (0, (pCls tx n b p s cl).2.1, acc ++ [(sgn tx n p, (pCls tx n b p s cl).2.2)]) else
    if ¬ sgn tx n (pCls tx n b p s cl).2.1 = 59 then (1, (pCls tx n b p s cl).2.1, []) else
    pTxt tx n b k ((pCls tx n b p s cl).2.1 + 1) (s + (pCls tx n b p s cl).2.2.1.length + (pCls tx n b p s cl).2.2.2.length) (cl + 1) (acc ++ [(sgn tx n p, (pCls tx n b p s cl).2.2)])
/-- codes before the j-th clause -/
def plA : List (Nat × List (Nat × Nat) × List (Nat × Nat)) → Nat → Nat
  | [], _ => 0
  | _ :: _, 0 => 0
  | c :: r, j + 1 => c.2.1.length + c.2.2.length + plA r j
theorem plA_app {a b : List (Nat × List (Nat × Nat) × List (Nat × Nat))} : ∀ {j : Nat}, j ≤ a.length → plA (a ++ b) j = plA a j := by
  induction a with
  | nil =>
    intro j h
    have : j = 0 := Nat.le_zero.mp h
    subst this
    cases b <;> rfl
  | cons x a ih =>
    intro j h
    cases j with
    | zero => rfl
    | succ j => exact congrArg (x.2.1.length + x.2.2.length + ·) (ih (Nat.le_of_succ_le_succ h))
theorem plA_end {a : List (Nat × List (Nat × Nat) × List (Nat × Nat))} {x : Nat × List (Nat × Nat) × List (Nat × Nat)} : plA (a ++ [x]) (a.length + 1) = plA a a.length + x.2.1.length + x.2.2.length := by
  induction a with
  | nil => show _ + _ + 0 = 0 + _ + _; omega
  | cons y a ih =>
    show y.2.1.length + y.2.2.length + plA (a ++ [x]) (a.length + 1) = y.2.1.length + y.2.2.length + plA a a.length + _ + _
    rw [ih]
    omega
theorem plA_step {a : List (Nat × List (Nat × Nat) × List (Nat × Nat))} {x : Nat × List (Nat × Nat) × List (Nat × Nat)} : ∀ {j : Nat}, a[j]? = some x → plA a (j + 1) = plA a j + x.2.1.length + x.2.2.length := by
  induction a with
  | nil => intro j h; exact absurd h (by simp)
  | cons y a ih =>
    intro j h
    cases j with
    | zero =>
      have e : y = x := by simpa using h
      subst e
      show y.2.1.length + y.2.2.length + plA a 0 = 0 + _ + _
      have : plA a 0 = 0 := by cases a <;> rfl
      omega
    | succ j =>
      have := ih (j := j) (by simpa using h)
      show y.2.1.length + y.2.2.length + plA a (j + 1) = y.2.1.length + y.2.2.length + plA a j + _ + _
      omega
theorem plA_mono {a : List (Nat × List (Nat × Nat) × List (Nat × Nat))} : ∀ {i j : Nat}, i ≤ j → plA a i ≤ plA a j := by
  induction a with
  | nil => intro i j _; exact Nat.le_refl _
  | cons y a ih =>
    intro i j h
    cases i with
    | zero => exact Nat.zero_le _
    | succ i =>
      cases j with
      | zero => exact absurd h (Nat.not_succ_le_zero _)
      | succ j =>
        have := ih (Nat.le_of_succ_le_succ h)
        show _ + _ + plA a i ≤ _ + _ + plA a j
        omega
/-- the j-th clause, its steps from S on -/
def clAt (f : Nat → Int32) (S j c : Nat) (g1 g2 : List (Nat × Nat)) : Prop := f S = nI c ∧ f (S + 1) = nI (S + 3 + g1.length) ∧ f (S + 2) = nI (S + 3 + g1.length + g2.length) ∧ ∀ k d, (g1 ++ g2)[k]? = some d → f (S + 3 + k) = encS (3 * j + 3) d
def clOK (f : Nat → Int32) (a : List (Nat × List (Nat × Nat) × List (Nat × Nat))) : Prop := ∀ j c g1 g2, a[j]? = some (c, g1, g2) → clAt f (plA a j + 3 * j) j c g1 g2
theorem clAt_o {f f' : Nat → Int32} {S j c N : Nat} {g1 g2 : List (Nat × Nat)} (h : clAt f S j c g1 g2) (hN : S + 3 + g1.length + g2.length ≤ N) (e : ∀ i, i < N → f' i = f i) : clAt f' S j c g1 g2 := by
  obtain ⟨h1, h2, h3, h4⟩ := h
  refine ⟨(e _ (by omega)).trans h1, (e _ (by omega)).trans h2, (e _ (by omega)).trans h3, fun k d hd => (e _ ?_).trans (h4 k d hd)⟩
  have : k < (g1 ++ g2).length := by
    rcases Nat.lt_or_ge k (g1 ++ g2).length with h | h
    · exact h
    · rw [List.getElem?_eq_none h] at hd; exact absurd hd (by simp)
  rw [List.length_append] at this
  omega
theorem clOK_o {f f' : Nat → Int32} {a : List (Nat × List (Nat × Nat) × List (Nat × Nat))} {N : Nat} (h : clOK f a) (hN : plA a a.length + 3 * a.length ≤ N) (e : ∀ i, i < N → f' i = f i) : clOK f' a := fun j c g1 g2 hj => by
  have hl : j < a.length := by
    rcases Nat.lt_or_ge j a.length with h | h
    · exact h
    · rw [List.getElem?_eq_none h] at hj; exact absurd hj (by simp)
  have e1 := plA_step hj
  have e2 := plA_mono (a := a) (show j + 1 ≤ a.length from hl)
  exact clAt_o (h j c g1 g2 hj) (N := N) (by show plA a j + 3 * j + 3 + g1.length + g2.length ≤ N; have e3 : plA a (j + 1) = plA a j + g1.length + g2.length := e1; omega) e
theorem clOK_s {I I' : zI} {n q c : Nat} {g1 g2 : List (Nat × Nat)} {a : List (Nat × List (Nat × Nat) × List (Nat × Nat))} (h : clOK (I 7) a) (hs : rdS (3 * a.length + 3) I I' n (plA a a.length + 3 * a.length) q (clL c (plA a a.length + 3 * a.length) g1 g2)) (hl : plA a a.length + 3 * a.length + 3 + g1.length + g2.length ≤ 240) : clOK (I' 7) (a ++ [(c, g1, g2)]) := by
  obtain ⟨_, _, _, h4, h5⟩ := hs
  have el : (clL c (plA a a.length + 3 * a.length) g1 g2).length = 3 + g1.length + g2.length := by
    show (g1 ++ g2).length + 1 + 1 + 1 = _
    rw [List.length_append]
    omega
  rw [el] at h5
  have h6 := h5 (by omega)
  have h0 := clOK_o h (Nat.le_refl _) h4
  intro j c' g1' g2' hj
  by_cases hjl : j < a.length
  · rw [List.getElem?_append_left hjl] at hj
    rw [plA_app (by omega)]
    exact h0 j c' g1' g2' hj
  · rw [List.getElem?_append_right (by omega)] at hj
    have e0 : j = a.length := by
      rcases Nat.lt_or_ge (j - a.length) 1 with h | h
      · omega
      · rw [List.getElem?_eq_none (by simpa using h)] at hj; exact absurd hj (by simp)
    subst e0
    rw [Nat.sub_self] at hj
    have e1 : (c, g1, g2) = (c', g1', g2') := by simpa using hj
    injection e1 with e2 e3
    injection e3 with e4 e5
    subst e2 e4 e5
    rw [plA_app (Nat.le_refl _)]
    refine ⟨(h6 0 _ rfl).trans enc_00.symm, (h6 1 _ rfl).trans enc_00.symm, (h6 2 _ rfl).trans enc_00.symm, fun k d hd => ?_⟩
    have := h6 (k + 3) d hd
    rw [show plA a a.length + 3 * a.length + (k + 3) = plA a a.length + 3 * a.length + 3 + k by omega] at this
    exact this
/-- what readText leaves -/
def txR (I : zI) (J : zJ) (r : Nat × Nat × List (Nat × List (Nat × Nat) × List (Nat × Nat))) : zQ := zP (fun v I' J' => J = J' ∧ (∀ a, a ≠ 5 → a ≠ 6 → a ≠ 7 → I' a = I a) ∧ v = some (.int (if r.1 = 0 then nI r.2.2.length else fltI r.1 r.2.1)) ∧ (r.1 = 0 → clOK (I' 7) r.2.2 ∧ I' 6 2 = nI r.2.2.length ∧ ∃ z, z ≤ 240 ∧ I' 6 1 = nI z))
theorem txR_no {I I' : zI} {J : zJ} {fc q : Nat} {r : Nat × Nat × List (Nat × List (Nat × Nat) × List (Nat × Nat))} {a : List (Nat × List (Nat × Nat) × List (Nat × Nat))} (hr : r = (fc, q, a)) (h0 : fc ≠ 0) (h : ∀ a, a ≠ 5 → a ≠ 6 → a ≠ 7 → I' a = I a) : txR I J r (some (.int (fltI fc q))) zsh I' J := by
  subst hr
  exact ⟨rfl, rfl, h, congrArg (fun z => some (Value.int z)) (if_neg h0).symm, fun h => absurd h h0⟩
theorem txR_ok {I I' : zI} {J : zJ} {q z c : Nat} {r : Nat × Nat × List (Nat × List (Nat × Nat) × List (Nat × Nat))} {a : List (Nat × List (Nat × Nat) × List (Nat × Nat))} (hr : r = (0, q, a)) (hc : c = a.length) (h : ∀ a, a ≠ 5 → a ≠ 6 → a ≠ 7 → I' a = I a) (h1 : clOK (I' 7) a) (h2 : I' 6 2 = nI c) (hz : z ≤ 240) (h3 : I' 6 1 = nI z) : txR I J r (some (.int (nI c))) zsh I' J := by
  subst hr hc
  exact ⟨rfl, rfl, h, congrArg (fun z => some (Value.int z)) (if_pos rfl).symm, fun _ => ⟨h1, h2, z, hz, h3⟩⟩
set_option maxRecDepth 100000 in
set_option maxHeartbeats 4000000 in
theorem lp_text {G : zG} {I : zI} {J : zJ} {n b by_ : Nat} {tx : Nat → Nat} (hb : b ≤ 1) : ∀ k p acc {Ic : zI}, acc.length + k = 17 → rdI Ic n p ((plA acc acc.length) + 3 * acc.length) → txk Ic tx n → Ic 6 2 = nI acc.length → (plA acc acc.length) + 3 * acc.length ≤ p → clOK (Ic 7) acc → (∀ a, a ≠ 5 → a ≠ 6 → a ≠ 7 → Ic a = I a) → acc.length ≤ 16 → V G mX1_readText 17 (txR I J (pTxt tx n b k p (plA acc acc.length) acc.length acc)) 54 [(0, .ref 5), (1, .ref by_), (2, .int (nI n)), (3, .int (nI b)), (4, .int (nI acc.length))] [] (0, 0) zsh Ic J := by
  intro k
  induction k with
  | zero => intro p acc Ic h0; intros; omega
  | succ k ih =>
    intro p acc Ic hk17 h hx hcl hsp hk ho hl16
    refine V_iload dX1_readText_54 rfl ?_
    refine V_bipush (v := nI 16) dX1_readText_56 rfl ?_
    refine V_icmp_gtN (tgt := 113) dX1_readText_58 rfl (by omega) (by omega) (fun h => absurd h (by omega)) (fun _ => ?_)
    refine V_aload_n dX1_readText_61 rfl ?_
    refine V_iload_n dX1_readText_62 rfl ?_
    obtain ⟨fc, q, g1, g2, hr⟩ : ∃ fc q g1 g2, pCls tx n b p (plA acc acc.length) acc.length = (fc, q, g1, g2) := ex4 _
    have hlen : fc = 0 → acc.length < 16 ∧ p + 3 + g1.length + g2.length ≤ q := fun h0 => by
      have e := pCls_len (tx := tx) (n := n) (b := b) (p := p) (s := (plA acc acc.length)) (cl := acc.length) (by rw [hr]; exact h0)
      rw [hr] at e
      exact ⟨e.2.1, e.2.2⟩
    by_cases hfc : fc = 0
    · skip
      subst hfc
      refine V_callV (As := [.int (nI b)]) (st := []) (a := 5) dX1_readText_63 kX1_readClause lX1_50 (by omega) rfl rfl (Nat.le_of_ble_eq_true rfl) ⟨Nat.le_of_ble_eq_true rfl, Nat.le_of_ble_eq_true rfl⟩ ⟨Nat.le_of_ble_eq_true rfl, Nat.le_of_ble_eq_true rfl⟩ rfl ⟨rfl, by decide⟩ (zK_clY (c_clause h hx hcl (by omega) hb) hr) ?_
      rintro r sh' I3 J' ⟨rfl, rfl, ⟨I2, hS, rfl⟩, rfl⟩
      have hl3 := hlen rfl
      have hqn := (rdS_i hS).2.2.2.1
      have hn9 := (rdS_i hS).2.1
      have hok := clOK_s hk hS (by omega)
      have hfr : ∀ a, a ≠ 5 → a ≠ 6 → a ≠ 7 → zwr I2 6 2 (nI (acc.length + 1)) a = I a := fun a a5 a6 a7 => (zup_n a6).trans ((hS.1.1 a a5 a6 a7).trans (ho a a5 a6 a7))
      have el : (clL (sgn tx n p) ((plA acc acc.length) + 3 * acc.length) g1 g2).length = 3 + g1.length + g2.length := by
        show (g1 ++ g2).length + 1 + 1 + 1 = _
        rw [List.length_append]
        omega
      have hri : rdI (zwr I2 6 2 (nI (acc.length + 1))) n q ((plA acc acc.length) + g1.length + g2.length + 3 * (acc.length + 1)) := by
        obtain ⟨r1, r2, r3, r4, r5⟩ := rdS_i hS
        refine ⟨r1, r2, r3, r4, ?_⟩
        rw [el] at r5
        rw [show (plA acc acc.length) + g1.length + g2.length + 3 * (acc.length + 1) = (plA acc acc.length) + 3 * acc.length + (3 + g1.length + g2.length) by omega]
        exact r5
      have hx2 : txk (zwr I2 6 2 (nI (acc.length + 1))) tx n := fun i => by rw [show zwr I2 6 2 (nI (acc.length + 1)) 8 = I2 8 from zup_n (by decide)]; exact rdS_x hS hx i
      refine V_if_ne (tgt := 74) dX1_readText_66 rfl (fun _ => ?_) (fun h => absurd h (by decide))
      refine V_aload_n dX1_readText_74 rfl ?_
      refine V_getI dX1_readText_75 fX1_41 ⟨Nat.le_of_ble_eq_true rfl, Nat.le_of_ble_eq_true rfl⟩ rfl rfl ?_
      refine V_eqI (y := I2 5 3) rfl ?_
      refine V_eqI (y := nI q) hri.2.2.1 ?_
      refine V_aload_n dX1_readText_78 rfl ?_
      refine V_getI dX1_readText_79 fX1_31 ⟨Nat.le_of_ble_eq_true rfl, Nat.le_of_ble_eq_true rfl⟩ rfl rfl ?_
      refine V_eqI (y := I2 5 2) rfl ?_
      refine V_eqI (y := nI n) hri.1 ?_
      refine V_icmp_ltN (tgt := 93) dX1_readText_82 rfl (by omega) (by omega) (fun h82 => ?_) (fun h82 => ?_)
      · skip
        refine V_aload_n dX1_readText_93 rfl ?_
        refine V_bipush (v := nI 59) dX1_readText_94 rfl ?_
        by_cases h59 : sgn tx n q = 59
        · skip
          refine V_callV (As := [.int (nI 59)]) (st := []) (a := 5) dX1_readText_96 kX1_pass lX1_57 (by omega) rfl rfl (Nat.le_of_ble_eq_true rfl) ⟨Nat.le_of_ble_eq_true rfl, Nat.le_of_ble_eq_true rfl⟩ ⟨Nat.le_of_ble_eq_true rfl, Nat.le_of_ble_eq_true rfl⟩ rfl ⟨rfl, by decide⟩ (c_pass1y hri hx2 (by decide) h59) ?_
          rintro r sh' I' J' ⟨rfl, rfl, rfl, rfl⟩
          refine V_if_ne (tgt := 107) dX1_readText_99 rfl (fun _ => ?_) (fun h => absurd h (by decide))
          refine V_iincN (ls' := [(4, .int (nI ((acc.length) + 1))), (0, .ref 5), (1, .ref by_), (2, .int (nI n)), (3, .int (nI b))]) (n := 1) dX1_readText_107 rfl rfl (by decide) (by decide) rfl ?_
          refine V_goto (tgt := 54) dX1_readText_110 rfl ?_
          have hlq : nI (acc.length + 1) = nI (acc ++ [(sgn tx n p, g1, g2)]).length := by rw [List.length_append]; rfl
          refine V_sub2 (ls' := [(0, .ref 5), (1, .ref by_), (2, .int (nI n)), (3, .int (nI b)), (4, .int (nI ((acc ++ [(sgn tx n p, g1, g2)]).length)))]) (List.forall_mem_cons.mpr ⟨rfl, List.forall_mem_cons.mpr ⟨rfl, List.forall_mem_cons.mpr ⟨rfl, List.forall_mem_cons.mpr ⟨rfl, List.forall_mem_cons.mpr ⟨(congrArg (fun z => some (Value.int z)) hlq), fun _ h => absurd h List.not_mem_nil⟩⟩⟩⟩⟩) ?_
          have hlq2 : (acc ++ [(sgn tx n p, g1, g2)]).length = acc.length + 1 := by rw [List.length_append]; rfl
          have hpq : plA (acc ++ [(sgn tx n p, g1, g2)]) (acc ++ [(sgn tx n p, g1, g2)]).length = (plA acc acc.length) + g1.length + g2.length := by rw [hlq2]; exact plA_end
          have e9 : pTxt tx n b (k + 1) p (plA acc acc.length) acc.length acc = pTxt tx n b k (q + 1) (plA (acc ++ [(sgn tx n p, g1, g2)]) (acc ++ [(sgn tx n p, g1, g2)]).length) (acc ++ [(sgn tx n p, g1, g2)]).length (acc ++ [(sgn tx n p, g1, g2)]) := by
            rw [hpq, hlq2]
            conv => lhs; unfold pTxt
            rw [hr]
            exact (if_neg (fun h => h rfl)).trans ((if_neg (show ¬ n ≤ q by omega)).trans (if_neg (fun h => h h59)))
          rw [e9]
          refine ih (q + 1) (acc ++ [(sgn tx n p, g1, g2)]) (by omega) ?_ (fun i => hx2 i) ?_ ?_ hok ?_ (by omega)
          · rw [hpq, hlq2]; exact ⟨hri.1, hri.2.1, zwr_at.trans (if_pos ⟨rfl, rfl⟩), sgn_lt h59 (by decide), hri.2.2.2.2⟩
          · exact hlq
          · rw [hpq, hlq2]; omega
          · exact fun a a5 a6 a7 => (zup_n a5).trans (hfr a a5 a6 a7)
        · skip
          refine V_callV (As := [.int (nI 59)]) (st := []) (a := 5) dX1_readText_96 kX1_pass lX1_57 (by omega) rfl rfl (Nat.le_of_ble_eq_true rfl) ⟨Nat.le_of_ble_eq_true rfl, Nat.le_of_ble_eq_true rfl⟩ ⟨Nat.le_of_ble_eq_true rfl, Nat.le_of_ble_eq_true rfl⟩ rfl ⟨rfl, by decide⟩ (c_pass1n hri hx2 (by decide) h59) ?_
          rintro r sh' I' J' ⟨rfl, rfl, rfl, rfl⟩
          refine V_if_ne (tgt := 107) dX1_readText_99 rfl (fun h => absurd h (by decide)) (fun _ => ?_)
          refine V_aload_n dX1_readText_102 rfl ?_
          refine V_getI dX1_readText_103 fX1_44 ⟨Nat.le_of_ble_eq_true rfl, Nat.le_of_ble_eq_true rfl⟩ rfl rfl ?_
          refine V_eqI (y := fltI 1 q) rfl ?_
          exact V_iret ⟨Or.inl rfl, dX1_readText_106⟩ ⟨Nat.le_of_ble_eq_true rfl, Nat.le_of_ble_eq_true rfl⟩ (txR_no (fc := 1) (q := q) (a := []) (by conv => { lhs; unfold pTxt }; rw [hr]; exact (if_neg (fun h => h rfl)).trans ((if_neg (show ¬ n ≤ q by omega)).trans (if_pos h59))) (by decide) (fun a a5 a6 a7 => (zup_n a5).trans (hfr a a5 a6 a7)))
      · skip
        refine V_aload_n dX1_readText_85 rfl ?_
        refine V_getR (b := 6) dX1_readText_86 fX1_12 ⟨Nat.le_of_ble_eq_true rfl, Nat.le_of_ble_eq_true rfl⟩ rfl rfl rfl ?_
        refine V_getI dX1_readText_89 fX1_54 ⟨Nat.le_of_ble_eq_true rfl, Nat.le_of_ble_eq_true rfl⟩ rfl rfl ?_
        refine V_eqI (y := nI (acc.length + 1)) rfl ?_
        exact V_iret ⟨Or.inl rfl, dX1_readText_92⟩ ⟨Nat.le_of_ble_eq_true rfl, Nat.le_of_ble_eq_true rfl⟩ (txR_ok (q := q) (a := acc ++ [(sgn tx n p, g1, g2)]) (by conv => { lhs; unfold pTxt }; rw [hr]; exact (if_neg (fun h => h rfl)).trans (if_pos (show n ≤ q by omega))) (by rw [List.length_append]; rfl) hfr hok (zwr_at.trans (if_pos ⟨rfl, rfl⟩)) (by omega) hri.2.2.2.2)
    · skip
      refine V_callV (As := [.int (nI b)]) (st := []) (a := 5) dX1_readText_63 kX1_readClause lX1_50 (by omega) rfl rfl (Nat.le_of_ble_eq_true rfl) ⟨Nat.le_of_ble_eq_true rfl, Nat.le_of_ble_eq_true rfl⟩ ⟨Nat.le_of_ble_eq_true rfl, Nat.le_of_ble_eq_true rfl⟩ rfl ⟨rfl, by decide⟩ (zK_clN (c_clause h hx hcl (by omega) hb) hr hfc) ?_
      rintro r sh' I2 J' ⟨rfl, rfl, hN, h4, rfl⟩
      refine V_if_ne (tgt := 74) dX1_readText_66 rfl (fun h => absurd h (by decide)) (fun _ => ?_)
      refine V_aload_n dX1_readText_69 rfl ?_
      refine V_getI dX1_readText_70 fX1_44 ⟨Nat.le_of_ble_eq_true rfl, Nat.le_of_ble_eq_true rfl⟩ rfl rfl ?_
      refine V_eqI (y := fltI fc q) h4 ?_
      exact V_iret ⟨Or.inl rfl, dX1_readText_73⟩ ⟨Nat.le_of_ble_eq_true rfl, Nat.le_of_ble_eq_true rfl⟩ (txR_no (fc := fc) (q := q) (a := []) (by conv => { lhs; unfold pTxt }; rw [hr]; exact if_pos hfc) hfc (fun a a5 a6 a7 => (hN.1 a a5 a6 a7).trans (ho a a5 a6 a7)))

set_option maxRecDepth 100000 in
set_option maxHeartbeats 4000000 in
theorem c_readText1 {G : zG} {I : zI} {J : zJ} {n b : Nat} (hn : n ≤ 240) (hb : b ≤ 1) (hbf : ∀ j, j < n → fits .byte (.int (I 4 j)) = true) : zK G mX1_readText 17 [.ref 5, .ref 4, .int (nI n), .int (nI b)] zsh I J (zP (fun v I' J' => J = J' ∧ (∀ a, a ≠ 5 → a ≠ 6 → a ≠ 7 → a ≠ 8 → I' a = I a) ∧ v = some (.int (if (pTxt (txI (I 4)) n b 17 0 0 0 []).1 = 0 then nI (pTxt (txI (I 4)) n b 17 0 0 0 []).2.2.length else fltI (pTxt (txI (I 4)) n b 17 0 0 0 []).1 (pTxt (txI (I 4)) n b 17 0 0 0 []).2.1)) ∧ ((pTxt (txI (I 4)) n b 17 0 0 0 []).1 = 0 → clOK (I' 7) (pTxt (txI (I 4)) n b 17 0 0 0 []).2.2 ∧ I' 6 2 = nI (pTxt (txI (I 4)) n b 17 0 0 0 []).2.2.length ∧ ∃ z, z ≤ 240 ∧ I' 6 1 = nI z))) := by
  refine zK_of kX1_readText.2.2.2.2.1 (Nat.le_of_ble_eq_true rfl) ?_
  show V G mX1_readText 17 _ 0 [(0, .ref 5), (1, .ref 4), (2, .int (nI n)), (3, .int (nI b))] [] (0, 0) zsh I J
  refine V_aload_n dX1_readText_0 rfl ?_
  refine V_iconst (v := nI 0) dX1_readText_1 rfl ?_
  refine V_iload_n dX1_readText_2 rfl ?_
  refine V_aload_n dX1_readText_3 rfl ?_
  refine V_alen (v := nI 260) dX1_readText_4 ⟨Nat.le_of_ble_eq_true rfl, Nat.le_of_ble_eq_true rfl⟩ rfl (by decide) rfl ?_
  refine V_sipush (v := nI 240) dX1_readText_5 rfl ?_
  refine V_mminN dX1_readText_8 jX1_22 (by decide) (Nat.le_of_ble_eq_true rfl) ⟨Nat.le_of_ble_eq_true rfl, Nat.le_of_ble_eq_true rfl⟩ (by omega) (by omega) ?_
  refine V_eqI (y := nI 240) rfl ?_
  refine V_mminN dX1_readText_11 jX1_22 (by decide) (Nat.le_of_ble_eq_true rfl) ⟨Nat.le_of_ble_eq_true rfl, Nat.le_of_ble_eq_true rfl⟩ (by omega) (by omega) ?_
  refine V_eqI (y := nI n) (congrArg nI (by omega)) ?_
  refine V_mmaxN dX1_readText_14 jX1_28 (by decide) (Nat.le_of_ble_eq_true rfl) ⟨Nat.le_of_ble_eq_true rfl, Nat.le_of_ble_eq_true rfl⟩ (by omega) (by omega) ?_
  refine V_eqI (y := nI n) (congrArg nI (by omega)) ?_
  refine V_putW dX1_readText_17 fX1_31 ⟨Nat.le_of_ble_eq_true rfl, Nat.le_of_ble_eq_true rfl⟩ rfl rfl rfl ⟨rfl, rfl⟩ ?_
  refine V_aload_n dX1_readText_20 rfl ?_
  refine V_iconst (v := nI 0) dX1_readText_21 rfl ?_
  refine V_aload_n dX1_readText_22 rfl ?_
  refine V_getR (b := 8) dX1_readText_23 fX1_18 ⟨Nat.le_of_ble_eq_true rfl, Nat.le_of_ble_eq_true rfl⟩ rfl rfl rfl ?_
  refine V_iconst (v := nI 0) dX1_readText_26 rfl ?_
  refine V_aload_n dX1_readText_27 rfl ?_
  refine V_getI dX1_readText_28 fX1_31 ⟨Nat.le_of_ble_eq_true rfl, Nat.le_of_ble_eq_true rfl⟩ rfl rfl ?_
  refine V_eqI (y := nI n) rfl ?_
  refine V_cpybN (a0 := 4) (a := 8) (n := n) dX1_readText_31 jX1_35 (by decide) (Nat.le_of_ble_eq_true rfl) ⟨Nat.le_of_ble_eq_true rfl, Nat.le_of_ble_eq_true rfl⟩ rfl ⟨Nat.le_of_ble_eq_true rfl, Nat.le_of_ble_eq_true rfl⟩ rfl (by omega) (by omega) hbf ?_
  refine V_aload_n dX1_readText_34 rfl ?_
  refine V_iconst (v := nI 0) dX1_readText_35 rfl ?_
  refine V_putW dX1_readText_36 fX1_41 ⟨Nat.le_of_ble_eq_true rfl, Nat.le_of_ble_eq_true rfl⟩ rfl rfl rfl ⟨rfl, rfl⟩ ?_
  refine V_aload_n dX1_readText_39 rfl ?_
  refine V_iconst (v := nI 0) dX1_readText_40 rfl ?_
  refine V_putW dX1_readText_41 fX1_44 ⟨Nat.le_of_ble_eq_true rfl, Nat.le_of_ble_eq_true rfl⟩ rfl rfl rfl ⟨rfl, rfl⟩ ?_
  refine V_aload_n dX1_readText_44 rfl ?_
  refine V_getR (b := 6) dX1_readText_45 fX1_12 ⟨Nat.le_of_ble_eq_true rfl, Nat.le_of_ble_eq_true rfl⟩ rfl rfl rfl ?_
  refine V_callV (As := []) (st := []) (a := 6) dX1_readText_48 kX8_clear lX1_47 (by omega) rfl rfl (Nat.le_of_ble_eq_true rfl) ⟨Nat.le_of_ble_eq_true rfl, Nat.le_of_ble_eq_true rfl⟩ ⟨Nat.le_of_ble_eq_true rfl, Nat.le_of_ble_eq_true rfl⟩ rfl ⟨rfl, by decide⟩ c_clear8 ?_
  rintro r sh' I' J' ⟨rfl, rfl, rfl, rfl⟩
  refine V_iconst (v := nI 0) dX1_readText_51 rfl ?_
  refine V_istore (ls' := [(4, .int (nI 0)), (0, .ref 5), (1, .ref 4), (2, .int (nI n)), (3, .int (nI b))]) dX1_readText_52 (by decide) rfl ?_
  refine V_sub2 (ls' := [(0, .ref 5), (1, .ref 4), (2, .int (nI n)), (3, .int (nI b)), (4, .int (nI 0))]) (List.forall_mem_cons.mpr ⟨rfl, List.forall_mem_cons.mpr ⟨rfl, List.forall_mem_cons.mpr ⟨rfl, List.forall_mem_cons.mpr ⟨rfl, List.forall_mem_cons.mpr ⟨rfl, fun _ h => absurd h List.not_mem_nil⟩⟩⟩⟩⟩) ?_
  refine zQ_mono ?_ (lp_text (I := (zwr (zwr (zwr (zwr (zup (zwr I 5 2 (nI n)) 8 (zcp (I 4) (I 8) n)) 5 3 (nI 0)) 5 4 (nI 0)) 6 1 (nI 0)) 6 2 (nI 0))) (Ic := (zwr (zwr (zwr (zwr (zup (zwr I 5 2 (nI n)) 8 (zcp (I 4) (I 8) n)) 5 3 (nI 0)) 5 4 (nI 0)) 6 1 (nI 0)) 6 2 (nI 0))) (tx := txI (I 4)) hb 17 0 [] rfl ?_ ?_ ?_ (Nat.le_refl _) (fun j c g1 g2 hj => absurd hj (by simp)) (fun _ _ _ _ => rfl) (Nat.zero_le _))
  · rintro r sh' I' J' ⟨rfl, h1, h2, h3, h4⟩
    exact ⟨rfl, h1, fun a a5 a6 a7 a8 => (h2 a a5 a6 a7).trans ((zup_n a6).trans ((zup_n a6).trans ((zup_n a5).trans ((zup_n a5).trans ((zup_n a8).trans (zup_n a5)))))), h3, h4⟩
  · exact ⟨rfl, hn, rfl, Nat.zero_le _, rfl⟩
  · intro i
    unfold sgn
    by_cases hi : i < n
    · rw [if_pos hi, if_pos hi]
      show (zcp (I 4) (I 8) n i).toBitVec.toNat % 256 = (I 4 i).toBitVec.toNat % 256
      unfold zcp
      rw [if_pos hi]
    · rw [if_neg hi, if_neg hi]
  · exact Eq.refl _

