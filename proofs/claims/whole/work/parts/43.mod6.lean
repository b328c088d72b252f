/-! THE MODEL: signs of a text; a ground's text -/
/-- it reads n signs of its tape, at p -/
def mrI (I : zI) (n p : Nat) : Prop := I 62 9 = nI n ∧ n ≤ 240 ∧ I 62 8 = nI p ∧ p ≤ 250
theorem nxI_toInt {c : Nat} (hc : c ≤ 256) : (nxI c).toInt = if c = 256 then -1 else (c : Int) := by
  unfold nxI
  split
  · decide
  · exact nI_toInt (by omega)
theorem sgn_256 {f : Nat → Int32} (n p : Nat) : sgn (txI f) n p ≤ 256 := sgn_le (fun _ => txI_lt) n p
set_option maxRecDepth 100000 in
set_option maxHeartbeats 4000000 in
theorem w_here {G : zG} {I : zI} {J : zJ} {n p : Nat} (h : mrI I n p) : zK G mX12_here 0 [.ref 62] zsh I J (zA0 (.int (nxI (sgn (txI (I 66)) n p))) I J) := by
  refine zK_of kX12_here.2.2.2.2.1 (Nat.le_of_ble_eq_true rfl) ?_
  show V G mX12_here 0 _ 0 [(0, .ref 62)] [] (0, 0) zsh I J
  have hn9 := h.2.1
  have hp9 := h.2.2.2
  refine V_aload_n dX12_here_0 rfl ?_
  refine V_getI dX12_here_1 fX12_219 ⟨Nat.le_of_ble_eq_true rfl, Nat.le_of_ble_eq_true rfl⟩ rfl rfl ?_
  refine V_eqI (y := nI p) h.2.2.1 ?_
  refine V_aload_n dX12_here_4 rfl ?_
  refine V_getI dX12_here_5 fX12_222 ⟨Nat.le_of_ble_eq_true rfl, Nat.le_of_ble_eq_true rfl⟩ rfl rfl ?_
  refine V_eqI (y := nI n) h.1 ?_
  refine V_icmp_geN (tgt := 27) dX12_here_8 rfl (by omega) (by omega) (fun h8 => ?_) (fun h8 => ?_)
  · skip
    refine V_iconst (v := (-1)) dX12_here_27 rfl ?_
    exact V_iret ⟨Or.inl rfl, dX12_here_28⟩ ⟨Nat.le_of_ble_eq_true rfl, Nat.le_of_ble_eq_true rfl⟩ ⟨rfl, congrArg (fun z => some (Value.int z)) (by rw [sgn_out (by omega)]; rfl), rfl, rfl⟩
  · skip
    refine V_aload_n dX12_here_11 rfl ?_
    refine V_getR (b := 66) dX12_here_12 fX12_19 ⟨Nat.le_of_ble_eq_true rfl, Nat.le_of_ble_eq_true rfl⟩ rfl rfl rfl ?_
    refine V_aload_n dX12_here_15 rfl ?_
    refine V_getI dX12_here_16 fX12_219 ⟨Nat.le_of_ble_eq_true rfl, Nat.le_of_ble_eq_true rfl⟩ rfl rfl ?_
    refine V_eqI (y := nI p) h.2.2.1 ?_
    refine V_baldN (k := p) dX12_here_19 ⟨Nat.le_of_ble_eq_true rfl, Nat.le_of_ble_eq_true rfl⟩ rfl (by decide) (by omega) ?_
    refine V_sipush (v := nI 255) dX12_here_20 rfl ?_
    refine V_iand dX12_here_23 (V_eqI (y := nI (txI (I 66) p)) txI_and ?_)
    refine V_goto (tgt := 28) dX12_here_24 rfl ?_
    exact V_iret ⟨Or.inl rfl, dX12_here_28⟩ ⟨Nat.le_of_ble_eq_true rfl, Nat.le_of_ble_eq_true rfl⟩ ⟨rfl, congrArg (fun z => some (Value.int z)) (by rw [sgn_in (by omega), nxI_c (by have := @txI_lt (I 66) p; omega)]), rfl, rfl⟩

set_option maxRecDepth 100000 in
set_option maxHeartbeats 4000000 in
theorem w_wrongAt {G : zG} {I : zI} {J : zJ} {fc p : Nat} : zK G mX12_wrongAt 0 [.ref 62, .int (nI fc), .int (nI p)] zsh I J (zA1 (.int (nI 0)) (fun I' J' => I' = zwr I 62 10 (fltI fc p) ∧ J = J')) := by
  refine zK_of kX12_wrongAt.2.2.2.2.1 (Nat.le_of_ble_eq_true rfl) ?_
  show V G mX12_wrongAt 0 _ 0 [(0, .ref 62), (1, .int (nI fc)), (2, .int (nI p))] [] (0, 0) zsh I J
  refine V_aload_n dX12_wrongAt_0 rfl ?_
  refine V_sipush (v := (-1000)) dX12_wrongAt_1 rfl ?_
  refine V_iload_n dX12_wrongAt_4 rfl ?_
  refine V_imul dX12_wrongAt_5 ?_
  refine V_iload_n dX12_wrongAt_6 rfl ?_
  refine V_isub dX12_wrongAt_7 ?_
  refine V_putW dX12_wrongAt_8 fX12_229 ⟨Nat.le_of_ble_eq_true rfl, Nat.le_of_ble_eq_true rfl⟩ rfl rfl rfl ⟨rfl, rfl⟩ ?_
  refine V_iconst (v := nI 0) dX12_wrongAt_11 rfl ?_
  exact V_iret ⟨Or.inr ⟨rfl, Or.inl rfl⟩, dX12_wrongAt_12⟩ ⟨Nat.le_of_ble_eq_true rfl, Nat.le_of_ble_eq_true rfl⟩ ⟨rfl, rfl, rfl, rfl⟩

set_option maxRecDepth 100000 in
set_option maxHeartbeats 4000000 in
theorem w_isDigit {G : zG} {I : zI} {J : zJ} {n p : Nat} (h : mrI I n p) : zK G mX12_isDigit 1 [.ref 62] zsh I J (zA0 (.int (nI (if 48 ≤ sgn (txI (I 66)) n p ∧ sgn (txI (I 66)) n p ≤ 57 then 1 else 0))) I J) := by
  refine zK_of kX12_isDigit.2.2.2.2.1 (Nat.le_of_ble_eq_true rfl) ?_
  show V G mX12_isDigit 1 _ 0 [(0, .ref 62)] [] (0, 0) zsh I J
  have hz := nxI_toInt (sgn_256 (f := I 66) n p)
  refine V_aload_n dX12_isDigit_0 rfl ?_
  refine V_callV (As := []) (st := []) (a := 62) dX12_isDigit_1 kX12_here lX12_225 (by decide) rfl rfl (Nat.le_of_ble_eq_true rfl) ⟨Nat.le_of_ble_eq_true rfl, Nat.le_of_ble_eq_true rfl⟩ ⟨Nat.le_of_ble_eq_true rfl, Nat.le_of_ble_eq_true rfl⟩ rfl ⟨rfl, by decide⟩ (w_here h) ?_
  rintro _ _ _ _ ⟨rfl, rfl, rfl, rfl⟩
  refine V_bipush (v := nI 48) dX12_isDigit_4 rfl ?_
  refine V_icmp_ltZ (tgt := 22) (a := (nxI (sgn (txI (I 66)) n p)).toInt) (b := 48) dX12_isDigit_6 rfl rfl (by decide) (fun h6 => ?_) (fun h6 => ?_)
  · skip
    refine V_iconst (v := nI 0) dX12_isDigit_22 rfl ?_
    exact V_iret ⟨Or.inr ⟨rfl, Or.inl rfl⟩, dX12_isDigit_23⟩ ⟨Nat.le_of_ble_eq_true rfl, Nat.le_of_ble_eq_true rfl⟩ ⟨rfl, by rw [if_neg (show ¬ (48 ≤ sgn (txI (I 66)) n p ∧ sgn (txI (I 66)) n p ≤ 57) by split at hz <;> omega)], rfl, rfl⟩
  · skip
    refine V_aload_n dX12_isDigit_9 rfl ?_
    refine V_callV (As := []) (st := []) (a := 62) dX12_isDigit_10 kX12_here lX12_225 (by decide) rfl rfl (Nat.le_of_ble_eq_true rfl) ⟨Nat.le_of_ble_eq_true rfl, Nat.le_of_ble_eq_true rfl⟩ ⟨Nat.le_of_ble_eq_true rfl, Nat.le_of_ble_eq_true rfl⟩ rfl ⟨rfl, by decide⟩ (w_here h) ?_
    rintro _ _ _ _ ⟨rfl, rfl, rfl, rfl⟩
    refine V_bipush (v := nI 57) dX12_isDigit_13 rfl ?_
    refine V_icmp_gtZ (tgt := 22) (a := (nxI (sgn (txI (I 66)) n p)).toInt) (b := 57) dX12_isDigit_15 rfl rfl (by decide) (fun h15 => ?_) (fun h15 => ?_)
    · skip
      refine V_iconst (v := nI 0) dX12_isDigit_22 rfl ?_
      exact V_iret ⟨Or.inr ⟨rfl, Or.inl rfl⟩, dX12_isDigit_23⟩ ⟨Nat.le_of_ble_eq_true rfl, Nat.le_of_ble_eq_true rfl⟩ ⟨rfl, by rw [if_neg (show ¬ (48 ≤ sgn (txI (I 66)) n p ∧ sgn (txI (I 66)) n p ≤ 57) by split at hz <;> omega)], rfl, rfl⟩
    · skip
      refine V_iconst (v := nI 1) dX12_isDigit_18 rfl ?_
      refine V_goto (tgt := 23) dX12_isDigit_19 rfl ?_
      exact V_iret ⟨Or.inr ⟨rfl, Or.inr rfl⟩, dX12_isDigit_23⟩ ⟨Nat.le_of_ble_eq_true rfl, Nat.le_of_ble_eq_true rfl⟩ ⟨rfl, by rw [if_pos (show 48 ≤ sgn (txI (I 66)) n p ∧ sgn (txI (I 66)) n p ≤ 57 by split at hz <;> omega)], rfl, rfl⟩

set_option maxRecDepth 100000 in
set_option maxHeartbeats 4000000 in
theorem w_takesY {G : zG} {I : zI} {J : zJ} {n p : Nat} (h : mrI I n p) {k : Nat} (hkk : k < 256) (hk : sgn (txI (I 66)) n p = k) : zK G mX12_takes 1 [.ref 62, .int (nI k)] zsh I J (zA1 (.int (nI 1)) (fun I' J' => I' = zwr I 62 8 (nI (p + 1)) ∧ J = J')) := by
  refine zK_of kX12_takes.2.2.2.2.1 (Nat.le_of_ble_eq_true rfl) ?_
  show V G mX12_takes 1 _ 0 [(0, .ref 62), (1, .int (nI k))] [] (0, 0) zsh I J
  refine V_aload_n dX12_takes_0 rfl ?_
  refine V_callV (As := []) (st := []) (a := 62) dX12_takes_1 kX12_here lX12_225 (by decide) rfl rfl (Nat.le_of_ble_eq_true rfl) ⟨Nat.le_of_ble_eq_true rfl, Nat.le_of_ble_eq_true rfl⟩ ⟨Nat.le_of_ble_eq_true rfl, Nat.le_of_ble_eq_true rfl⟩ rfl ⟨rfl, by decide⟩ (w_here h) ?_
  rintro _ _ _ _ ⟨rfl, rfl, rfl, rfl⟩
  refine V_iload_n dX12_takes_4 rfl ?_
  refine V_icmp_eqX (tgt := 18) dX12_takes_5 rfl (sgn_256 n p) (by omega) (fun _ => ?_) (fun h => absurd hk h)
  refine V_aload_n dX12_takes_18 rfl ?_
  refine V_aload_n dX12_takes_19 rfl ?_
  refine V_getI dX12_takes_20 fX12_219 ⟨Nat.le_of_ble_eq_true rfl, Nat.le_of_ble_eq_true rfl⟩ rfl rfl ?_
  refine V_eqI (y := nI p) h.2.2.1 ?_
  refine V_iconst (v := nI 1) dX12_takes_23 rfl ?_
  refine V_iaddN dX12_takes_24 ?_
  refine V_putW dX12_takes_25 fX12_219 ⟨Nat.le_of_ble_eq_true rfl, Nat.le_of_ble_eq_true rfl⟩ rfl rfl rfl ⟨rfl, rfl⟩ ?_
  refine V_iconst (v := nI 1) dX12_takes_28 rfl ?_
  exact V_iret ⟨Or.inr ⟨rfl, Or.inr rfl⟩, dX12_takes_29⟩ ⟨Nat.le_of_ble_eq_true rfl, Nat.le_of_ble_eq_true rfl⟩ ⟨rfl, rfl, rfl, rfl⟩

set_option maxRecDepth 100000 in
set_option maxHeartbeats 4000000 in
theorem w_takesN {G : zG} {I : zI} {J : zJ} {n p : Nat} (h : mrI I n p) {k : Nat} (hkk : k < 256) (hk : ¬ sgn (txI (I 66)) n p = k) : zK G mX12_takes 1 [.ref 62, .int (nI k)] zsh I J (zA1 (.int (nI 0)) (fun I' J' => I' = zwr I 62 10 (fltI 1 p) ∧ J = J')) := by
  refine zK_of kX12_takes.2.2.2.2.1 (Nat.le_of_ble_eq_true rfl) ?_
  show V G mX12_takes 1 _ 0 [(0, .ref 62), (1, .int (nI k))] [] (0, 0) zsh I J
  refine V_aload_n dX12_takes_0 rfl ?_
  refine V_callV (As := []) (st := []) (a := 62) dX12_takes_1 kX12_here lX12_225 (by decide) rfl rfl (Nat.le_of_ble_eq_true rfl) ⟨Nat.le_of_ble_eq_true rfl, Nat.le_of_ble_eq_true rfl⟩ ⟨Nat.le_of_ble_eq_true rfl, Nat.le_of_ble_eq_true rfl⟩ rfl ⟨rfl, by decide⟩ (w_here h) ?_
  rintro _ _ _ _ ⟨rfl, rfl, rfl, rfl⟩
  refine V_iload_n dX12_takes_4 rfl ?_
  refine V_icmp_eqX (tgt := 18) dX12_takes_5 rfl (sgn_256 n p) (by omega) (fun h => absurd h hk) (fun _ => ?_)
  refine V_aload_n dX12_takes_8 rfl ?_
  refine V_iconst (v := nI 1) dX12_takes_9 rfl ?_
  refine V_aload_n dX12_takes_10 rfl ?_
  refine V_getI dX12_takes_11 fX12_219 ⟨Nat.le_of_ble_eq_true rfl, Nat.le_of_ble_eq_true rfl⟩ rfl rfl ?_
  refine V_eqI (y := nI p) h.2.2.1 ?_
  refine V_callV (As := [.int (nI 1), .int (nI p)]) (st := []) (a := 62) dX12_takes_14 kX12_wrongAt lX12_232 (by decide) rfl rfl (Nat.le_of_ble_eq_true rfl) ⟨Nat.le_of_ble_eq_true rfl, Nat.le_of_ble_eq_true rfl⟩ ⟨Nat.le_of_ble_eq_true rfl, Nat.le_of_ble_eq_true rfl⟩ rfl ⟨rfl, by decide⟩ w_wrongAt ?_
  rintro r sh' I' J' ⟨rfl, rfl, rfl, rfl⟩
  exact V_iret ⟨Or.inr ⟨rfl, Or.inl rfl⟩, dX12_takes_17⟩ ⟨Nat.le_of_ble_eq_true rfl, Nat.le_of_ble_eq_true rfl⟩ ⟨rfl, rfl, rfl, rfl⟩

/-- a row of heights, as the model reads it: what is behind its eight is left alone -/
def mRow (tx : Nat → Nat) (n y : Nat) : Nat → Nat → Nat → (Nat → Nat) → Nat × Nat × (Nat → Nat)
  | 0, _, p, f => (0, p, f)
  | k + 1, x, p, f =>
    if x = 8 then (if 97 ≤ sgn tx n p ∧ sgn tx n p ≤ 104 ∨ 48 ≤ sgn tx n p ∧ sgn tx n p ≤ 57 then (6, p, f) else (0, p, f)) else
    if 97 ≤ sgn tx n p ∧ sgn tx n p ≤ 104 then
      (if 8 < x + (sgn tx n p - 97 + 1) then (6, p, f) else if 48 ≤ sgn tx n (p + 1) ∧ sgn tx n (p + 1) ≤ 57 then mRow tx n y k (x + (sgn tx n p - 97 + 1)) (p + 1 + 1) (gPut f (8 * y + x) (sgn tx n p - 97 + 1) (sgn tx n (p + 1) - 48)) else (1, p + 1, f))
    else if 48 ≤ sgn tx n p ∧ sgn tx n p ≤ 57 then mRow tx n y k (x + 1) (p + 1) (gPut f (8 * y + x) 1 (sgn tx n p - 48)) else (1, p, f)
def mEnd (tx : Nat → Nat) (n y : Nat) (r : Nat × Nat × (Nat → Nat)) : Nat × Nat × (Nat → Nat) :=
  if r.1 ≠ 0 then r else if y = 7 ∧ sgn tx n r.2.1 = 256 ∨ y ≠ 7 ∧ sgn tx n r.2.1 = 47 then (0, r.2.1 + 1, r.2.2) else (1, r.2.1, r.2.2)
theorem gRow_m {tx : Nat → Nat} {n y : Nat} : ∀ k x p f, 9 ≤ k + x → x ≤ 8 → gRow tx n y k x p f = mEnd tx n y (mRow tx n y k x p f)
  | 0, x, p, f, h, h8 => by omega
  | k + 1, x, p, f, h, h8 => by
    have ih := fun x p f h h8 => gRow_m (tx := tx) (n := n) (y := y) k x p f h h8
    have e1 : gRow tx n y (k + 1) x p f = (if ¬ (97 ≤ sgn tx n p ∧ sgn tx n p ≤ 104) ∧ ¬ (48 ≤ sgn tx n p ∧ sgn tx n p ≤ 57) then (if x = 8 ∧ (y = 7 ∧ sgn tx n p = 256 ∨ y ≠ 7 ∧ sgn tx n p = 47) then (0, p + 1, f) else (1, p, f)) else
    if 97 ≤ sgn tx n p ∧ sgn tx n p ≤ 104 then
      (if 8 < x + (sgn tx n p - 97 + 1) then (6, p, f) else if 48 ≤ sgn tx n (p + 1) ∧ sgn tx n (p + 1) ≤ 57 then gRow tx n y k (x + (sgn tx n p - 97 + 1)) (p + 1 + 1) (gPut f (8 * y + x) (sgn tx n p - 97 + 1) (sgn tx n (p + 1) - 48)) else (1, p + 1, f))
    else (if 8 < x + 1 then (6, p, f) else gRow tx n y k (x + 1) (p + 1) (gPut f (8 * y + x) 1 (sgn tx n p - 48)))) := rfl
    have e2 : mRow tx n y (k + 1) x p f = (if x = 8 then (if 97 ≤ sgn tx n p ∧ sgn tx n p ≤ 104 ∨ 48 ≤ sgn tx n p ∧ sgn tx n p ≤ 57 then (6, p, f) else (0, p, f)) else
    if 97 ≤ sgn tx n p ∧ sgn tx n p ≤ 104 then
      (if 8 < x + (sgn tx n p - 97 + 1) then (6, p, f) else if 48 ≤ sgn tx n (p + 1) ∧ sgn tx n (p + 1) ≤ 57 then mRow tx n y k (x + (sgn tx n p - 97 + 1)) (p + 1 + 1) (gPut f (8 * y + x) (sgn tx n p - 97 + 1) (sgn tx n (p + 1) - 48)) else (1, p + 1, f))
    else if 48 ≤ sgn tx n p ∧ sgn tx n p ≤ 57 then mRow tx n y k (x + 1) (p + 1) (gPut f (8 * y + x) 1 (sgn tx n p - 48)) else (1, p, f)) := rfl
    rw [e1, e2]
    have nz : ∀ r : Nat × Nat × (Nat → Nat), r.1 ≠ 0 → mEnd tx n y r = r := fun r h => if_pos h
    by_cases c1 : 97 ≤ sgn tx n p ∧ sgn tx n p ≤ 104
    · rw [if_neg (fun h => h.1 c1), if_pos c1]
      by_cases hx : x = 8
      · rw [if_pos hx, if_pos (Or.inl c1), if_pos (show 8 < x + (sgn tx n p - 97 + 1) by omega), nz _ (Nat.succ_ne_zero _)]
      · rw [if_neg hx, if_pos c1]
        by_cases c2 : 8 < x + (sgn tx n p - 97 + 1)
        · rw [if_pos c2, if_pos c2, nz _ (Nat.succ_ne_zero _)]
        · rw [if_neg c2, if_neg c2]
          by_cases c3 : 48 ≤ sgn tx n (p + 1) ∧ sgn tx n (p + 1) ≤ 57
          · rw [if_pos c3, if_pos c3]
            exact ih _ _ _ (by omega) (by omega)
          · rw [if_neg c3, if_neg c3, nz _ (Nat.succ_ne_zero _)]
    · by_cases c2 : 48 ≤ sgn tx n p ∧ sgn tx n p ≤ 57
      · rw [if_neg (fun h => h.2 c2), if_neg c1]
        by_cases hx : x = 8
        · rw [if_pos hx, if_pos (Or.inr c2), if_pos (show 8 < x + 1 by omega), nz _ (Nat.succ_ne_zero _)]
        · rw [if_neg hx, if_neg c1, if_pos c2, if_neg (show ¬ 8 < x + 1 by omega)]
          exact ih _ _ _ (by omega) (by omega)
      · rw [if_pos ⟨c1, c2⟩]
        by_cases hx : x = 8
        · rw [if_pos hx, if_neg (show ¬ (97 ≤ sgn tx n p ∧ sgn tx n p ≤ 104 ∨ 48 ≤ sgn tx n p ∧ sgn tx n p ≤ 57) from fun h => h.elim c1 c2)]
          by_cases c3 : y = 7 ∧ sgn tx n p = 256 ∨ y ≠ 7 ∧ sgn tx n p = 47
          · have l1 : mEnd tx n y (0, p, f) = (0, p + 1, f) := (if_neg (fun h => h rfl)).trans (if_pos c3)
            rw [l1]
            exact if_pos ⟨hx, c3⟩
          · have l1 : mEnd tx n y (0, p, f) = (1, p, f) := (if_neg (fun h => h rfl)).trans (if_neg c3)
            rw [l1]
            exact if_neg (fun h => c3 h.2)
        · rw [if_neg hx, if_neg c1, if_neg c2, if_neg (fun h => hx h.1), nz _ (Nat.succ_ne_zero _)]
theorem mRow_le {tx : Nat → Nat} {n y : Nat} : ∀ k x p f, (∀ j, f j ≤ 9) → ∀ j, (mRow tx n y k x p f).2.2 j ≤ 9
  | 0, _, _, _, h => h
  | k + 1, x, p, f, h => by
    have hp : ∀ a t v, v ≤ 9 → ∀ j, gPut f a t v j ≤ 9 := fun a t v hv j => by unfold gPut; split <;> first | exact hv | exact h j
    unfold mRow
    split
    · split <;> exact h
    · split
      · split
        · exact h
        · split
          · exact mRow_le k _ _ _ (hp _ _ _ (by omega))
          · exact h
      · split
        · exact mRow_le k _ _ _ (hp _ _ _ (by omega))
        · exact h
theorem mRow_p {tx : Nat → Nat} {n y : Nat} : ∀ k x p f, (mRow tx n y k x p f).2.1 ≤ p + 2 * k ∧ ((mRow tx n y k x p f).1 = 0 ∨ (mRow tx n y k x p f).1 = 1 ∨ (mRow tx n y k x p f).1 = 6) ∧ (p ≤ n → (mRow tx n y k x p f).2.1 ≤ n)
  | 0, _, p, _ => ⟨Nat.le_refl _, Or.inl rfl, fun h => h⟩
  | k + 1, x, p, f => by
    unfold mRow
    split
    · split <;> refine ⟨by show p ≤ _; omega, by simp, fun h => h⟩
    · split
      · rename_i c1
        have hpn : p < n := sgn_ltn (tx := tx) (by omega)
        split
        · exact ⟨by show p ≤ _; omega, by simp, fun h => h⟩
        · split
          · rename_i c3
            have hpn2 : p + 1 < n := sgn_ltn (tx := tx) (by omega)
            have := mRow_p (tx := tx) (n := n) (y := y) k (x + (sgn tx n p - 97 + 1)) (p + 1 + 1) (gPut f (8 * y + x) (sgn tx n p - 97 + 1) (sgn tx n (p + 1) - 48))
            exact ⟨by omega, this.2.1, fun _ => this.2.2 (by omega)⟩
          · exact ⟨by show p + 1 ≤ _; omega, by simp, fun _ => hpn⟩
      · split
        · rename_i c2
          have hpn : p < n := sgn_ltn (tx := tx) (by omega)
          have := mRow_p (tx := tx) (n := n) (y := y) k (x + 1) (p + 1) (gPut f (8 * y + x) 1 (sgn tx n p - 48))
          exact ⟨by omega, this.2.1, fun _ => this.2.2 (by omega)⟩
        · exact ⟨by show p ≤ _; omega, by simp, fun h => h⟩
/-- only the place, the fault and the new heights are other -/
def grF (I I' : zI) : Prop := (∀ a, a ≠ 62 → a ≠ 96 → I' a = I a) ∧ ∀ j, j ≠ 8 → j ≠ 10 → I' 62 j = I 62 j
theorem grF_t {A B C : zI} (h : grF A B) (h2 : grF B C) : grF A C := ⟨fun a a1 a2 => (h2.1 a a1 a2).trans (h.1 a a1 a2), fun j j1 j2 => (h2.2 j j1 j2).trans (h.2 j j1 j2)⟩
theorem grF_8 {I : zI} {x : Int32} : grF I (zwr I 62 8 x) := ⟨fun a a1 _ => zup_n a1, fun j j1 _ => zwr_at.trans (if_neg (fun h => j1 h.2))⟩
theorem grF_10 {I : zI} {x : Int32} : grF I (zwr I 62 10 x) := ⟨fun a a1 _ => zup_n a1, fun j _ j2 => zwr_at.trans (if_neg (fun h => j2 h.2))⟩
theorem mrI_8 {I : zI} {n p q : Nat} (h : mrI I n p) (hq : q ≤ 250) : mrI (zwr I 62 8 (nI q)) n q := ⟨(zwr_at.trans (if_neg (fun h => absurd h.2 (by decide)))).trans h.1, h.2.1, zwr_at.trans (if_pos ⟨rfl, rfl⟩), hq⟩
theorem gPut_s {f : Nat → Nat} {a t v : Nat} (j : Nat) : gPut f a (t + 1) v j = if j = a + t then v else gPut f a t v j := by
  unfold gPut
  by_cases h : j = a + t
  · subst h; rw [if_pos (by omega), if_pos rfl]
  · rw [if_neg h]
    by_cases h2 : a ≤ j ∧ j < a + t
    · rw [if_pos h2, if_pos (by omega)]
    · rw [if_neg h2, if_neg (by omega)]
theorem gPut_0 {f : Nat → Nat} {a v : Nat} : gPut f a 0 v = f := by
  funext j
  exact if_neg (by omega)
set_option maxRecDepth 100000 in
set_option maxHeartbeats 4000000 in
theorem lp_fillM {G : zG} {I : zI} {J : zJ} {Q : zQ} {n p x y t : Nat} {tx f : Nat → Nat} (hxt : x + t ≤ 8) (hy : y ≤ 7) (hd : 48 ≤ sgn tx n p ∧ sgn tx n p ≤ 57) (hnext : ∀ I1, mrI I1 n p → txI (I1 66) = tx → grF I I1 → (∀ j, j < 64 → I1 96 j = nI (gPut f (8 * y + x) t (sgn tx n p - 48) j)) → V G mX12_readsHeights 2 Q 116 [(0, .ref 62), (1, .int (nI y)), (2, .int (nI x)), (3, .int (nI t)), (4, .int (nI t))] [] (0, 0) zsh I1 J) : ∀ m i I1, i + m = t → mrI I1 n p → txI (I1 66) = tx → grF I I1 → (∀ j, j < 64 → I1 96 j = nI (gPut f (8 * y + x) i (sgn tx n p - 48) j)) → V G mX12_readsHeights 2 Q 83 [(0, .ref 62), (1, .int (nI y)), (2, .int (nI x)), (3, .int (nI t)), (4, .int (nI i))] [] (0, 0) zsh I1 J := by
  intro m
  induction m with
  | zero =>
    intro i I1 hk hm htx hF hr
    refine V_iload dX12_readsHeights_83 rfl ?_
    refine V_iload_n dX12_readsHeights_85 rfl ?_
    refine V_icmp_geN (tgt := 116) dX12_readsHeights_86 rfl (by omega) (by omega) (fun _ => ?_) (fun h => absurd h (by omega))
    rw [show i = t by omega] at hr ⊢
    exact hnext I1 hm htx hF hr
  | succ m ih =>
    intro i I1 hk hm htx hF hr
    refine V_iload dX12_readsHeights_83 rfl ?_
    refine V_iload_n dX12_readsHeights_85 rfl ?_
    refine V_icmp_geN (tgt := 116) dX12_readsHeights_86 rfl (by omega) (by omega) (fun h => absurd h (by omega)) (fun _ => ?_)
    refine V_aload_n dX12_readsHeights_89 rfl ?_
    refine V_getR (b := 96) dX12_readsHeights_90 fX12_112 ⟨Nat.le_of_ble_eq_true rfl, Nat.le_of_ble_eq_true rfl⟩ rfl rfl rfl ?_
    refine V_bipush (v := nI 8) dX12_readsHeights_93 rfl ?_
    refine V_iload_n dX12_readsHeights_95 rfl ?_
    refine V_imulN dX12_readsHeights_96 ?_
    refine V_iload_n dX12_readsHeights_97 rfl ?_
    refine V_iaddN dX12_readsHeights_98 ?_
    refine V_iload dX12_readsHeights_99 rfl ?_
    refine V_iaddN dX12_readsHeights_101 ?_
    refine V_aload_n dX12_readsHeights_102 rfl ?_
    refine V_callV (As := []) (st := [.int (nI (((8 * y) + x) + i)), .ref 96]) (a := 62) dX12_readsHeights_103 kX12_here lX12_225 (by decide) rfl rfl (Nat.le_of_ble_eq_true rfl) ⟨Nat.le_of_ble_eq_true rfl, Nat.le_of_ble_eq_true rfl⟩ ⟨Nat.le_of_ble_eq_true rfl, Nat.le_of_ble_eq_true rfl⟩ rfl ⟨rfl, by decide⟩ (w_here hm) ?_
    rintro _ _ _ _ ⟨rfl, rfl, rfl, rfl⟩
    rw [htx]
    refine V_eqI (y := nI (sgn tx n p)) (nxI_c (by omega)) ?_
    refine V_bipush (v := nI 48) dX12_readsHeights_106 rfl ?_
    refine V_isubN dX12_readsHeights_108 (by omega) ?_
    refine V_iastN (k := ((8 * y) + x) + i) dX12_readsHeights_109 ⟨Nat.le_of_ble_eq_true rfl, Nat.le_of_ble_eq_true rfl⟩ rfl (by decide) (by omega) ?_
    refine V_iincN (ls' := [(4, .int (nI (i + 1))), (0, .ref 62), (1, .int (nI y)), (2, .int (nI x)), (3, .int (nI t))]) (n := 1) dX12_readsHeights_110 rfl rfl (by decide) (by decide) rfl ?_
    refine V_goto (tgt := 83) dX12_readsHeights_113 rfl ?_
    refine V_sub2 (ls' := [(0, .ref 62), (1, .int (nI y)), (2, .int (nI x)), (3, .int (nI t)), (4, .int (nI (i + 1)))]) (List.forall_mem_cons.mpr ⟨rfl, List.forall_mem_cons.mpr ⟨rfl, List.forall_mem_cons.mpr ⟨rfl, List.forall_mem_cons.mpr ⟨rfl, List.forall_mem_cons.mpr ⟨rfl, fun _ h => absurd h List.not_mem_nil⟩⟩⟩⟩⟩) ?_
    refine ih (i + 1) (zwr I1 96 (8 * y + x + i) (nI (sgn tx n p - 48))) (by omega) ?_ ?_ ?_ ?_
    · exact hm
    · exact htx
    · exact grF_t hF ⟨fun a _ a2 => zup_n a2, fun j _ _ => rfl⟩
    · intro j hj
      rw [zwr_at, gPut_s]
      by_cases hji : j = 8 * y + x + i
      · rw [if_pos ⟨rfl, hji⟩, if_pos hji]
      · rw [if_neg (fun h => hji h.2), if_neg hji]
        exact hr j hj

set_option maxRecDepth 100000 in
set_option maxHeartbeats 4000000 in
theorem lp_rowM {G : zG} {I : zI} {J : zJ} {n y : Nat} {tx : Nat → Nat} (hy : y ≤ 7) : ∀ k x p f (I1 : zI), 9 ≤ k + x → x ≤ 8 → mrI I1 n p → txI (I1 66) = tx → grF I I1 → (∀ j, j < 64 → I1 96 j = nI (f j)) → V G mX12_readsHeights 2 (zP (fun v I' J' => J = J' ∧ grF I I' ∧ (∀ j, j < 64 → I' 96 j = nI ((mRow tx n y k x p f).2.2 j)) ∧ ((mRow tx n y k x p f).1 = 0 → v = some (.int (nI 1)) ∧ I' 62 8 = nI (mRow tx n y k x p f).2.1) ∧ ((mRow tx n y k x p f).1 ≠ 0 → v = some (.int (nI 0)) ∧ I' 62 10 = fltI (mRow tx n y k x p f).1 (mRow tx n y k x p f).2.1))) 2 [(0, .ref 62), (1, .int (nI y)), (2, .int (nI x))] [] (0, 0) zsh I1 J := by
  intro k
  induction k with
  | zero => intro x p f I1 hk hx; intros; omega
  | succ k ih =>
    intro x p f I1 hk hx hm htx hF hr
    refine V_iload_n dX12_readsHeights_2 rfl ?_
    refine V_bipush (v := nI 8) dX12_readsHeights_3 rfl ?_
    refine V_icmp_geN (tgt := 133) dX12_readsHeights_5 rfl (by omega) (by omega) (fun h5 => ?_) (fun h5 => ?_)
    · skip
      have hz := nxI_toInt (c := sgn tx n p) (by rw [← htx]; exact sgn_256 n p)
      by_cases hD8 : 48 ≤ sgn tx n p ∧ sgn tx n p ≤ 57
      · skip
        refine V_aload_n dX12_readsHeights_133 rfl ?_
        refine V_callV (As := []) (st := []) (a := 62) dX12_readsHeights_134 kX12_isDigit lX12_239 (by decide) rfl rfl (Nat.le_of_ble_eq_true rfl) ⟨Nat.le_of_ble_eq_true rfl, Nat.le_of_ble_eq_true rfl⟩ ⟨Nat.le_of_ble_eq_true rfl, Nat.le_of_ble_eq_true rfl⟩ rfl ⟨rfl, by decide⟩ (q_y (w_isDigit hm) (by rw [htx]; exact hD8)) ?_
        rintro _ _ _ _ ⟨rfl, rfl, rfl, rfl⟩
        refine V_if_ne (tgt := 154) dX12_readsHeights_137 rfl (fun _ => ?_) (fun h => absurd h (by decide))
        refine V_aload_n dX12_readsHeights_154 rfl ?_
        refine V_bipush (v := nI 6) dX12_readsHeights_155 rfl ?_
        refine V_aload_n dX12_readsHeights_157 rfl ?_
        refine V_getI dX12_readsHeights_158 fX12_219 ⟨Nat.le_of_ble_eq_true rfl, Nat.le_of_ble_eq_true rfl⟩ rfl rfl ?_
        refine V_eqI (y := nI p) hm.2.2.1 ?_
        refine V_callV (As := [.int (nI 6), .int (nI p)]) (st := []) (a := 62) dX12_readsHeights_161 kX12_wrongAt lX12_232 (by decide) rfl rfl (Nat.le_of_ble_eq_true rfl) ⟨Nat.le_of_ble_eq_true rfl, Nat.le_of_ble_eq_true rfl⟩ ⟨Nat.le_of_ble_eq_true rfl, Nat.le_of_ble_eq_true rfl⟩ rfl ⟨rfl, by decide⟩ w_wrongAt ?_
        rintro r sh' I' J' ⟨rfl, rfl, rfl, rfl⟩
        refine V_if_eq (tgt := 171) dX12_readsHeights_164 rfl (fun _ => ?_) (fun h => absurd h (by decide))
        refine V_iconst (v := nI 0) dX12_readsHeights_171 rfl ?_
        exact V_iret ⟨Or.inr ⟨rfl, Or.inl rfl⟩, dX12_readsHeights_172⟩ ⟨Nat.le_of_ble_eq_true rfl, Nat.le_of_ble_eq_true rfl⟩ (by have e9 : (mRow tx n y (k + 1) x p f) = (6, p, f) := (if_pos (by omega)).trans (if_pos (by first | exact Or.inl hL8 | exact Or.inr hD8)); rw [e9]; exact ⟨rfl, rfl, grF_t hF grF_10, hr, fun h => absurd h (Nat.succ_ne_zero _), fun _ => ⟨rfl, zwr_at.trans (if_pos ⟨rfl, rfl⟩)⟩⟩)
      · skip
        refine V_aload_n dX12_readsHeights_133 rfl ?_
        refine V_callV (As := []) (st := []) (a := 62) dX12_readsHeights_134 kX12_isDigit lX12_239 (by decide) rfl rfl (Nat.le_of_ble_eq_true rfl) ⟨Nat.le_of_ble_eq_true rfl, Nat.le_of_ble_eq_true rfl⟩ ⟨Nat.le_of_ble_eq_true rfl, Nat.le_of_ble_eq_true rfl⟩ rfl ⟨rfl, by decide⟩ (q_n (w_isDigit hm) (by rw [htx]; exact hD8)) ?_
        rintro _ _ _ _ ⟨rfl, rfl, rfl, rfl⟩
        refine V_if_ne (tgt := 154) dX12_readsHeights_137 rfl (fun h => absurd h (by decide)) (fun _ => ?_)
        by_cases hL8 : 97 ≤ sgn tx n p ∧ sgn tx n p ≤ 104
        · skip
          have hIn : inZ (nxI (sgn tx n p)) 97 104 := by rw [inZ, hz, if_neg (by omega)]; omega
          refine V_aload_n dX12_readsHeights_140 rfl ?_
          refine V_callV (As := []) (st := []) (a := 62) dX12_readsHeights_141 kX12_here lX12_225 (by decide) rfl rfl (Nat.le_of_ble_eq_true rfl) ⟨Nat.le_of_ble_eq_true rfl, Nat.le_of_ble_eq_true rfl⟩ ⟨Nat.le_of_ble_eq_true rfl, Nat.le_of_ble_eq_true rfl⟩ rfl ⟨rfl, by decide⟩ (w_here hm) ?_
          rintro _ _ _ _ ⟨rfl, rfl, rfl, rfl⟩
          rw [htx]
          refine V_bipush (v := nI 97) dX12_readsHeights_144 rfl ?_
          refine V_bipush (v := nI 104) dX12_readsHeights_146 rfl ?_
          refine V_callS (As := [.int (nxI (sgn tx n p)), .int (nI 97), .int (nI 104)]) (st := []) dX12_readsHeights_148 kX12_in lX12_173 (by decide) rfl rfl (Nat.le_of_ble_eq_true rfl) ⟨Nat.le_of_ble_eq_true rfl, Nat.le_of_ble_eq_true rfl⟩ (w_inY rfl rfl (a := 97) (b := 104) hIn) ?_
          rintro _ _ _ _ ⟨rfl, rfl, rfl, rfl⟩
          refine V_if_eq (tgt := 167) dX12_readsHeights_151 rfl (fun h => absurd h (by decide)) (fun _ => ?_)
          refine V_aload_n dX12_readsHeights_154 rfl ?_
          refine V_bipush (v := nI 6) dX12_readsHeights_155 rfl ?_
          refine V_aload_n dX12_readsHeights_157 rfl ?_
          refine V_getI dX12_readsHeights_158 fX12_219 ⟨Nat.le_of_ble_eq_true rfl, Nat.le_of_ble_eq_true rfl⟩ rfl rfl ?_
          refine V_eqI (y := nI p) hm.2.2.1 ?_
          refine V_callV (As := [.int (nI 6), .int (nI p)]) (st := []) (a := 62) dX12_readsHeights_161 kX12_wrongAt lX12_232 (by decide) rfl rfl (Nat.le_of_ble_eq_true rfl) ⟨Nat.le_of_ble_eq_true rfl, Nat.le_of_ble_eq_true rfl⟩ ⟨Nat.le_of_ble_eq_true rfl, Nat.le_of_ble_eq_true rfl⟩ rfl ⟨rfl, by decide⟩ w_wrongAt ?_
          rintro r sh' I' J' ⟨rfl, rfl, rfl, rfl⟩
          refine V_if_eq (tgt := 171) dX12_readsHeights_164 rfl (fun _ => ?_) (fun h => absurd h (by decide))
          refine V_iconst (v := nI 0) dX12_readsHeights_171 rfl ?_
          exact V_iret ⟨Or.inr ⟨rfl, Or.inl rfl⟩, dX12_readsHeights_172⟩ ⟨Nat.le_of_ble_eq_true rfl, Nat.le_of_ble_eq_true rfl⟩ (by have e9 : (mRow tx n y (k + 1) x p f) = (6, p, f) := (if_pos (by omega)).trans (if_pos (by first | exact Or.inl hL8 | exact Or.inr hD8)); rw [e9]; exact ⟨rfl, rfl, grF_t hF grF_10, hr, fun h => absurd h (Nat.succ_ne_zero _), fun _ => ⟨rfl, zwr_at.trans (if_pos ⟨rfl, rfl⟩)⟩⟩)
        · skip
          have hIn : ¬ inZ (nxI (sgn tx n p)) 97 104 := by rw [inZ, hz]; split <;> omega
          refine V_aload_n dX12_readsHeights_140 rfl ?_
          refine V_callV (As := []) (st := []) (a := 62) dX12_readsHeights_141 kX12_here lX12_225 (by decide) rfl rfl (Nat.le_of_ble_eq_true rfl) ⟨Nat.le_of_ble_eq_true rfl, Nat.le_of_ble_eq_true rfl⟩ ⟨Nat.le_of_ble_eq_true rfl, Nat.le_of_ble_eq_true rfl⟩ rfl ⟨rfl, by decide⟩ (w_here hm) ?_
          rintro _ _ _ _ ⟨rfl, rfl, rfl, rfl⟩
          rw [htx]
          refine V_bipush (v := nI 97) dX12_readsHeights_144 rfl ?_
          refine V_bipush (v := nI 104) dX12_readsHeights_146 rfl ?_
          refine V_callS (As := [.int (nxI (sgn tx n p)), .int (nI 97), .int (nI 104)]) (st := []) dX12_readsHeights_148 kX12_in lX12_173 (by decide) rfl rfl (Nat.le_of_ble_eq_true rfl) ⟨Nat.le_of_ble_eq_true rfl, Nat.le_of_ble_eq_true rfl⟩ (w_inN rfl rfl (a := 97) (b := 104) hIn) ?_
          rintro _ _ _ _ ⟨rfl, rfl, rfl, rfl⟩
          refine V_if_eq (tgt := 167) dX12_readsHeights_151 rfl (fun _ => ?_) (fun h => absurd h (by decide))
          refine V_iconst (v := nI 1) dX12_readsHeights_167 rfl ?_
          refine V_goto (tgt := 172) dX12_readsHeights_168 rfl ?_
          exact V_iret ⟨Or.inr ⟨rfl, Or.inr rfl⟩, dX12_readsHeights_172⟩ ⟨Nat.le_of_ble_eq_true rfl, Nat.le_of_ble_eq_true rfl⟩ (by have e9 : (mRow tx n y (k + 1) x p f) = (0, p, f) := (if_pos (by omega)).trans (if_neg (by intro h; exact h.elim hL8 hD8)); rw [e9]; exact ⟨rfl, rfl, hF, hr, fun _ => ⟨rfl, hm.2.2.1⟩, fun h => absurd rfl h⟩)
    · skip
      refine V_iconst (v := nI 1) dX12_readsHeights_8 rfl ?_
      refine V_istore_n (ls' := [(3, .int (nI 1)), (0, .ref 62), (1, .int (nI y)), (2, .int (nI x))]) dX12_readsHeights_9 (by decide) rfl ?_
      have hz := nxI_toInt (c := sgn tx n p) (by rw [← htx]; exact sgn_256 n p)
      by_cases hL : 97 ≤ sgn tx n p ∧ sgn tx n p ≤ 104
      · skip
        have hIn : inZ (nxI (sgn tx n p)) 97 104 := by rw [inZ, hz, if_neg (by omega)]; omega
        have hpn : p < n := sgn_ltn (tx := tx) (by omega)
        refine V_aload_n dX12_readsHeights_10 rfl ?_
        refine V_callV (As := []) (st := []) (a := 62) dX12_readsHeights_11 kX12_here lX12_225 (by decide) rfl rfl (Nat.le_of_ble_eq_true rfl) ⟨Nat.le_of_ble_eq_true rfl, Nat.le_of_ble_eq_true rfl⟩ ⟨Nat.le_of_ble_eq_true rfl, Nat.le_of_ble_eq_true rfl⟩ rfl ⟨rfl, by decide⟩ (w_here hm) ?_
        rintro _ _ _ _ ⟨rfl, rfl, rfl, rfl⟩
        rw [htx]
        refine V_bipush (v := nI 97) dX12_readsHeights_14 rfl ?_
        refine V_bipush (v := nI 104) dX12_readsHeights_16 rfl ?_
        refine V_callS (As := [.int (nxI (sgn tx n p)), .int (nI 97), .int (nI 104)]) (st := []) dX12_readsHeights_18 kX12_in lX12_173 (by decide) rfl rfl (Nat.le_of_ble_eq_true rfl) ⟨Nat.le_of_ble_eq_true rfl, Nat.le_of_ble_eq_true rfl⟩ (w_inY rfl rfl (a := 97) (b := 104) hIn) ?_
        rintro _ _ _ _ ⟨rfl, rfl, rfl, rfl⟩
        refine V_if_eq (tgt := 63) dX12_readsHeights_21 rfl (fun h => absurd h (by decide)) (fun _ => ?_)
        refine V_aload_n dX12_readsHeights_24 rfl ?_
        refine V_callV (As := []) (st := []) (a := 62) dX12_readsHeights_25 kX12_here lX12_225 (by decide) rfl rfl (Nat.le_of_ble_eq_true rfl) ⟨Nat.le_of_ble_eq_true rfl, Nat.le_of_ble_eq_true rfl⟩ ⟨Nat.le_of_ble_eq_true rfl, Nat.le_of_ble_eq_true rfl⟩ rfl ⟨rfl, by decide⟩ (w_here hm) ?_
        rintro _ _ _ _ ⟨rfl, rfl, rfl, rfl⟩
        rw [htx]
        refine V_eqI (y := nI (sgn tx n p)) (nxI_c (by omega)) ?_
        refine V_bipush (v := nI 97) dX12_readsHeights_28 rfl ?_
        refine V_isubN dX12_readsHeights_30 (by omega) ?_
        refine V_iconst (v := nI 1) dX12_readsHeights_31 rfl ?_
        refine V_iaddN dX12_readsHeights_32 ?_
        refine V_istore_n (ls' := [(3, .int (nI (((sgn tx n p) - 97) + 1))), (0, .ref 62), (1, .int (nI y)), (2, .int (nI x))]) dX12_readsHeights_33 (by decide) rfl ?_
        refine V_iload_n dX12_readsHeights_34 rfl ?_
        refine V_iload_n dX12_readsHeights_35 rfl ?_
        refine V_iaddN dX12_readsHeights_36 ?_
        refine V_bipush (v := nI 8) dX12_readsHeights_37 rfl ?_
        refine V_icmp_leN (tgt := 53) dX12_readsHeights_39 rfl (by omega) (by omega) (fun h39 => ?_) (fun h39 => ?_)
        · skip
          refine V_aload_n dX12_readsHeights_53 rfl ?_
          refine V_aload_n dX12_readsHeights_54 rfl ?_
          refine V_getI dX12_readsHeights_55 fX12_219 ⟨Nat.le_of_ble_eq_true rfl, Nat.le_of_ble_eq_true rfl⟩ rfl rfl ?_
          refine V_eqI (y := nI p) hm.2.2.1 ?_
          refine V_iconst (v := nI 1) dX12_readsHeights_58 rfl ?_
          refine V_iaddN dX12_readsHeights_59 ?_
          refine V_putW dX12_readsHeights_60 fX12_219 ⟨Nat.le_of_ble_eq_true rfl, Nat.le_of_ble_eq_true rfl⟩ rfl rfl rfl ⟨rfl, rfl⟩ ?_
          have hm1 : mrI (zwr I1 62 8 (nI (p + 1))) n (p + 1) := mrI_8 hm (by have := hm.2.1; omega)
          by_cases hD : 48 ≤ sgn tx n (p + 1) ∧ sgn tx n (p + 1) ≤ 57
          · skip
            refine V_aload_n dX12_readsHeights_63 rfl ?_
            refine V_callV (As := []) (st := []) (a := 62) dX12_readsHeights_64 kX12_isDigit lX12_239 (by decide) rfl rfl (Nat.le_of_ble_eq_true rfl) ⟨Nat.le_of_ble_eq_true rfl, Nat.le_of_ble_eq_true rfl⟩ ⟨Nat.le_of_ble_eq_true rfl, Nat.le_of_ble_eq_true rfl⟩ rfl ⟨rfl, by decide⟩ (q_y (w_isDigit hm1) (by show (48 ≤ sgn (txI (I1 66)) n (p + 1) ∧ sgn (txI (I1 66)) n (p + 1) ≤ 57); rw [htx]; exact hD)) ?_
            rintro _ _ _ _ ⟨rfl, rfl, rfl, rfl⟩
            refine V_if_ne (tgt := 80) dX12_readsHeights_67 rfl (fun _ => ?_) (fun h => absurd h (by decide))
            refine V_iconst (v := nI 0) dX12_readsHeights_80 rfl ?_
            refine V_istore (ls' := [(4, .int (nI 0)), (3, .int (nI (((sgn tx n p) - 97) + 1))), (0, .ref 62), (1, .int (nI y)), (2, .int (nI x))]) dX12_readsHeights_81 (by decide) rfl ?_
            refine V_sub2 (ls' := [(0, .ref 62), (1, .int (nI y)), (2, .int (nI x)), (3, .int (nI (((sgn tx n p) - 97) + 1))), (4, .int (nI 0))]) (List.forall_mem_cons.mpr ⟨rfl, List.forall_mem_cons.mpr ⟨rfl, List.forall_mem_cons.mpr ⟨rfl, List.forall_mem_cons.mpr ⟨rfl, List.forall_mem_cons.mpr ⟨rfl, fun _ h => absurd h List.not_mem_nil⟩⟩⟩⟩⟩) ?_
            have e9 : (mRow tx n y (k + 1) x p f) = (mRow tx n y k (x + (sgn tx n p - 97 + 1)) (p + 1 + 1) (gPut f (8 * y + x) (sgn tx n p - 97 + 1) (sgn tx n (p + 1) - 48))) := (if_neg (by omega)).trans ((if_pos hL).trans ((if_neg (by omega)).trans (if_pos hD)))
            rw [e9]
            refine lp_fillM (I := (zwr I1 62 8 (nI (p + 1)))) (t := sgn tx n p - 97 + 1) (f := f) (p := p + 1) (by omega) hy hD (fun I2 hm2 htx2 hF2 hr2 => ?_) (sgn tx n p - 97 + 1) 0 (zwr I1 62 8 (nI (p + 1))) (Nat.zero_add _) hm1 htx ⟨fun _ _ _ => rfl, fun _ _ _ => rfl⟩ (fun j hj => by rw [gPut_0]; exact hr j hj)
            refine V_iload_n dX12_readsHeights_116 rfl ?_
            refine V_iload_n dX12_readsHeights_117 rfl ?_
            refine V_iaddN dX12_readsHeights_118 ?_
            refine V_istore_n (ls' := [(2, .int (nI (x + (sgn tx n p - 97 + 1)))), (0, .ref 62), (1, .int (nI y)), (3, .int (nI (sgn tx n p - 97 + 1))), (4, .int (nI (sgn tx n p - 97 + 1)))]) dX12_readsHeights_119 (by decide) rfl ?_
            refine V_aload_n dX12_readsHeights_120 rfl ?_
            refine V_aload_n dX12_readsHeights_121 rfl ?_
            refine V_getI dX12_readsHeights_122 fX12_219 ⟨Nat.le_of_ble_eq_true rfl, Nat.le_of_ble_eq_true rfl⟩ rfl rfl ?_
            refine V_eqI (y := nI (p + 1)) hm2.2.2.1 ?_
            refine V_iconst (v := nI 1) dX12_readsHeights_125 rfl ?_
            refine V_iaddN dX12_readsHeights_126 ?_
            refine V_putW dX12_readsHeights_127 fX12_219 ⟨Nat.le_of_ble_eq_true rfl, Nat.le_of_ble_eq_true rfl⟩ rfl rfl rfl ⟨rfl, rfl⟩ ?_
            refine V_goto (tgt := 2) dX12_readsHeights_130 rfl ?_
            refine V_sub2 (ls' := [(0, .ref 62), (1, .int (nI y)), (2, .int (nI (x + (sgn tx n p - 97 + 1))))]) (List.forall_mem_cons.mpr ⟨rfl, List.forall_mem_cons.mpr ⟨rfl, List.forall_mem_cons.mpr ⟨rfl, fun _ h => absurd h List.not_mem_nil⟩⟩⟩) ?_
            exact ih (x + (sgn tx n p - 97 + 1)) (p + 1 + 1) _ (zwr I2 62 8 (nI (p + 1 + 1))) (by omega) (by omega) (mrI_8 hm2 (by have := hm2.2.1; have := sgn_ltn (tx := tx) (n := n) (p := p + 1) (by omega); omega)) htx2 (grF_t (grF_t hF grF_8) (grF_t hF2 grF_8)) hr2
          · skip
            refine V_aload_n dX12_readsHeights_63 rfl ?_
            refine V_callV (As := []) (st := []) (a := 62) dX12_readsHeights_64 kX12_isDigit lX12_239 (by decide) rfl rfl (Nat.le_of_ble_eq_true rfl) ⟨Nat.le_of_ble_eq_true rfl, Nat.le_of_ble_eq_true rfl⟩ ⟨Nat.le_of_ble_eq_true rfl, Nat.le_of_ble_eq_true rfl⟩ rfl ⟨rfl, by decide⟩ (q_n (w_isDigit hm1) (by show ¬ (48 ≤ sgn (txI (I1 66)) n (p + 1) ∧ sgn (txI (I1 66)) n (p + 1) ≤ 57); rw [htx]; exact hD)) ?_
            rintro _ _ _ _ ⟨rfl, rfl, rfl, rfl⟩
            refine V_if_ne (tgt := 80) dX12_readsHeights_67 rfl (fun h => absurd h (by decide)) (fun _ => ?_)
            refine V_aload_n dX12_readsHeights_70 rfl ?_
            refine V_iconst (v := nI 1) dX12_readsHeights_71 rfl ?_
            refine V_aload_n dX12_readsHeights_72 rfl ?_
            refine V_getI dX12_readsHeights_73 fX12_219 ⟨Nat.le_of_ble_eq_true rfl, Nat.le_of_ble_eq_true rfl⟩ rfl rfl ?_
            refine V_eqI (y := nI (p + 1)) rfl ?_
            refine V_callV (As := [.int (nI 1), .int (nI (p + 1))]) (st := []) (a := 62) dX12_readsHeights_76 kX12_wrongAt lX12_232 (by decide) rfl rfl (Nat.le_of_ble_eq_true rfl) ⟨Nat.le_of_ble_eq_true rfl, Nat.le_of_ble_eq_true rfl⟩ ⟨Nat.le_of_ble_eq_true rfl, Nat.le_of_ble_eq_true rfl⟩ rfl ⟨rfl, by decide⟩ w_wrongAt ?_
            rintro r sh' I' J' ⟨rfl, rfl, rfl, rfl⟩
            exact V_iret ⟨Or.inr ⟨rfl, Or.inl rfl⟩, dX12_readsHeights_79⟩ ⟨Nat.le_of_ble_eq_true rfl, Nat.le_of_ble_eq_true rfl⟩ (by have e9 : (mRow tx n y (k + 1) x p f) = (1, p + 1, f) := (if_neg (by omega)).trans ((if_pos hL).trans ((if_neg (by omega)).trans (if_neg hD))); rw [e9]; exact ⟨rfl, rfl, grF_t hF (grF_t grF_8 grF_10), hr, fun h => absurd h (Nat.succ_ne_zero _), fun _ => ⟨rfl, zwr_at.trans (if_pos ⟨rfl, rfl⟩)⟩⟩)
        · skip
          refine V_aload_n dX12_readsHeights_42 rfl ?_
          refine V_bipush (v := nI 6) dX12_readsHeights_43 rfl ?_
          refine V_aload_n dX12_readsHeights_45 rfl ?_
          refine V_getI dX12_readsHeights_46 fX12_219 ⟨Nat.le_of_ble_eq_true rfl, Nat.le_of_ble_eq_true rfl⟩ rfl rfl ?_
          refine V_eqI (y := nI p) hm.2.2.1 ?_
          refine V_callV (As := [.int (nI 6), .int (nI p)]) (st := []) (a := 62) dX12_readsHeights_49 kX12_wrongAt lX12_232 (by decide) rfl rfl (Nat.le_of_ble_eq_true rfl) ⟨Nat.le_of_ble_eq_true rfl, Nat.le_of_ble_eq_true rfl⟩ ⟨Nat.le_of_ble_eq_true rfl, Nat.le_of_ble_eq_true rfl⟩ rfl ⟨rfl, by decide⟩ w_wrongAt ?_
          rintro r sh' I' J' ⟨rfl, rfl, rfl, rfl⟩
          exact V_iret ⟨Or.inr ⟨rfl, Or.inl rfl⟩, dX12_readsHeights_52⟩ ⟨Nat.le_of_ble_eq_true rfl, Nat.le_of_ble_eq_true rfl⟩ (by have e9 : (mRow tx n y (k + 1) x p f) = (6, p, f) := (if_neg (by omega)).trans ((if_pos hL).trans (if_pos (by omega))); rw [e9]; exact ⟨rfl, rfl, grF_t hF grF_10, hr, fun h => absurd h (Nat.succ_ne_zero _), fun _ => ⟨rfl, zwr_at.trans (if_pos ⟨rfl, rfl⟩)⟩⟩)
      · skip
        have hIn : ¬ inZ (nxI (sgn tx n p)) 97 104 := by rw [inZ, hz]; split <;> omega
        refine V_aload_n dX12_readsHeights_10 rfl ?_
        refine V_callV (As := []) (st := []) (a := 62) dX12_readsHeights_11 kX12_here lX12_225 (by decide) rfl rfl (Nat.le_of_ble_eq_true rfl) ⟨Nat.le_of_ble_eq_true rfl, Nat.le_of_ble_eq_true rfl⟩ ⟨Nat.le_of_ble_eq_true rfl, Nat.le_of_ble_eq_true rfl⟩ rfl ⟨rfl, by decide⟩ (w_here hm) ?_
        rintro _ _ _ _ ⟨rfl, rfl, rfl, rfl⟩
        rw [htx]
        refine V_bipush (v := nI 97) dX12_readsHeights_14 rfl ?_
        refine V_bipush (v := nI 104) dX12_readsHeights_16 rfl ?_
        refine V_callS (As := [.int (nxI (sgn tx n p)), .int (nI 97), .int (nI 104)]) (st := []) dX12_readsHeights_18 kX12_in lX12_173 (by decide) rfl rfl (Nat.le_of_ble_eq_true rfl) ⟨Nat.le_of_ble_eq_true rfl, Nat.le_of_ble_eq_true rfl⟩ (w_inN rfl rfl (a := 97) (b := 104) hIn) ?_
        rintro _ _ _ _ ⟨rfl, rfl, rfl, rfl⟩
        refine V_if_eq (tgt := 63) dX12_readsHeights_21 rfl (fun _ => ?_) (fun h => absurd h (by decide))
        by_cases hD : 48 ≤ sgn tx n p ∧ sgn tx n p ≤ 57
        · skip
          refine V_aload_n dX12_readsHeights_63 rfl ?_
          refine V_callV (As := []) (st := []) (a := 62) dX12_readsHeights_64 kX12_isDigit lX12_239 (by decide) rfl rfl (Nat.le_of_ble_eq_true rfl) ⟨Nat.le_of_ble_eq_true rfl, Nat.le_of_ble_eq_true rfl⟩ ⟨Nat.le_of_ble_eq_true rfl, Nat.le_of_ble_eq_true rfl⟩ rfl ⟨rfl, by decide⟩ (q_y (w_isDigit hm) (by show (48 ≤ sgn (txI (I1 66)) n (p) ∧ sgn (txI (I1 66)) n (p) ≤ 57); rw [htx]; exact hD)) ?_
          rintro _ _ _ _ ⟨rfl, rfl, rfl, rfl⟩
          refine V_if_ne (tgt := 80) dX12_readsHeights_67 rfl (fun _ => ?_) (fun h => absurd h (by decide))
          refine V_iconst (v := nI 0) dX12_readsHeights_80 rfl ?_
          refine V_istore (ls' := [(4, .int (nI 0)), (3, .int (nI 1)), (0, .ref 62), (1, .int (nI y)), (2, .int (nI x))]) dX12_readsHeights_81 (by decide) rfl ?_
          refine V_sub2 (ls' := [(0, .ref 62), (1, .int (nI y)), (2, .int (nI x)), (3, .int (nI 1)), (4, .int (nI 0))]) (List.forall_mem_cons.mpr ⟨rfl, List.forall_mem_cons.mpr ⟨rfl, List.forall_mem_cons.mpr ⟨rfl, List.forall_mem_cons.mpr ⟨rfl, List.forall_mem_cons.mpr ⟨rfl, fun _ h => absurd h List.not_mem_nil⟩⟩⟩⟩⟩) ?_
          have e9 : (mRow tx n y (k + 1) x p f) = (mRow tx n y k (x + (1)) (p + 1) (gPut f (8 * y + x) (1) (sgn tx n (p) - 48))) := (if_neg (by omega)).trans ((if_neg hL).trans (if_pos hD))
          rw [e9]
          refine lp_fillM (I := I1) (t := 1) (f := f) (p := p) (by omega) hy hD (fun I2 hm2 htx2 hF2 hr2 => ?_) (1) 0 I1 (Nat.zero_add _) hm htx ⟨fun _ _ _ => rfl, fun _ _ _ => rfl⟩ (fun j hj => by rw [gPut_0]; exact hr j hj)
          refine V_iload_n dX12_readsHeights_116 rfl ?_
          refine V_iload_n dX12_readsHeights_117 rfl ?_
          refine V_iaddN dX12_readsHeights_118 ?_
          refine V_istore_n (ls' := [(2, .int (nI (x + 1))), (0, .ref 62), (1, .int (nI y)), (3, .int (nI 1)), (4, .int (nI 1))]) dX12_readsHeights_119 (by decide) rfl ?_
          refine V_aload_n dX12_readsHeights_120 rfl ?_
          refine V_aload_n dX12_readsHeights_121 rfl ?_
          refine V_getI dX12_readsHeights_122 fX12_219 ⟨Nat.le_of_ble_eq_true rfl, Nat.le_of_ble_eq_true rfl⟩ rfl rfl ?_
          refine V_eqI (y := nI p) hm2.2.2.1 ?_
          refine V_iconst (v := nI 1) dX12_readsHeights_125 rfl ?_
          refine V_iaddN dX12_readsHeights_126 ?_
          refine V_putW dX12_readsHeights_127 fX12_219 ⟨Nat.le_of_ble_eq_true rfl, Nat.le_of_ble_eq_true rfl⟩ rfl rfl rfl ⟨rfl, rfl⟩ ?_
          refine V_goto (tgt := 2) dX12_readsHeights_130 rfl ?_
          refine V_sub2 (ls' := [(0, .ref 62), (1, .int (nI y)), (2, .int (nI (x + 1)))]) (List.forall_mem_cons.mpr ⟨rfl, List.forall_mem_cons.mpr ⟨rfl, List.forall_mem_cons.mpr ⟨rfl, fun _ h => absurd h List.not_mem_nil⟩⟩⟩) ?_
          exact ih (x + (1)) (p + 1) _ (zwr I2 62 8 (nI (p + 1))) (by omega) (by omega) (mrI_8 hm2 (by have := hm2.2.1; have := sgn_ltn (tx := tx) (n := n) (p := p) (by omega); omega)) htx2 (grF_t hF (grF_t hF2 grF_8)) hr2
        · skip
          refine V_aload_n dX12_readsHeights_63 rfl ?_
          refine V_callV (As := []) (st := []) (a := 62) dX12_readsHeights_64 kX12_isDigit lX12_239 (by decide) rfl rfl (Nat.le_of_ble_eq_true rfl) ⟨Nat.le_of_ble_eq_true rfl, Nat.le_of_ble_eq_true rfl⟩ ⟨Nat.le_of_ble_eq_true rfl, Nat.le_of_ble_eq_true rfl⟩ rfl ⟨rfl, by decide⟩ (q_n (w_isDigit hm) (by show ¬ (48 ≤ sgn (txI (I1 66)) n (p) ∧ sgn (txI (I1 66)) n (p) ≤ 57); rw [htx]; exact hD)) ?_
          rintro _ _ _ _ ⟨rfl, rfl, rfl, rfl⟩
          refine V_if_ne (tgt := 80) dX12_readsHeights_67 rfl (fun h => absurd h (by decide)) (fun _ => ?_)
          refine V_aload_n dX12_readsHeights_70 rfl ?_
          refine V_iconst (v := nI 1) dX12_readsHeights_71 rfl ?_
          refine V_aload_n dX12_readsHeights_72 rfl ?_
          refine V_getI dX12_readsHeights_73 fX12_219 ⟨Nat.le_of_ble_eq_true rfl, Nat.le_of_ble_eq_true rfl⟩ rfl rfl ?_
          refine V_eqI (y := nI p) hm.2.2.1 ?_
          refine V_callV (As := [.int (nI 1), .int (nI p)]) (st := []) (a := 62) dX12_readsHeights_76 kX12_wrongAt lX12_232 (by decide) rfl rfl (Nat.le_of_ble_eq_true rfl) ⟨Nat.le_of_ble_eq_true rfl, Nat.le_of_ble_eq_true rfl⟩ ⟨Nat.le_of_ble_eq_true rfl, Nat.le_of_ble_eq_true rfl⟩ rfl ⟨rfl, by decide⟩ w_wrongAt ?_
          rintro r sh' I' J' ⟨rfl, rfl, rfl, rfl⟩
          exact V_iret ⟨Or.inr ⟨rfl, Or.inl rfl⟩, dX12_readsHeights_79⟩ ⟨Nat.le_of_ble_eq_true rfl, Nat.le_of_ble_eq_true rfl⟩ (by have e9 : (mRow tx n y (k + 1) x p f) = (1, p, f) := (if_neg (by omega)).trans ((if_neg hL).trans (if_neg hD)); rw [e9]; exact ⟨rfl, rfl, grF_t hF grF_10, hr, fun h => absurd h (Nat.succ_ne_zero _), fun _ => ⟨rfl, zwr_at.trans (if_pos ⟨rfl, rfl⟩)⟩⟩)

set_option maxRecDepth 100000 in
set_option maxHeartbeats 4000000 in
theorem w_row {G : zG} {I : zI} {J : zJ} {n y p : Nat} {f : Nat → Nat} (hy : y ≤ 7) (h : mrI I n p) (hr : ∀ j, j < 64 → I 96 j = nI (f j)) : zK G mX12_readsHeights 2 [.ref 62, .int (nI y)] zsh I J (zP (fun v I' J' => J = J' ∧ grF I I' ∧ (∀ j, j < 64 → I' 96 j = nI ((mRow (txI (I 66)) n y 9 0 p f).2.2 j)) ∧ ((mRow (txI (I 66)) n y 9 0 p f).1 = 0 → v = some (.int (nI 1)) ∧ I' 62 8 = nI (mRow (txI (I 66)) n y 9 0 p f).2.1) ∧ ((mRow (txI (I 66)) n y 9 0 p f).1 ≠ 0 → v = some (.int (nI 0)) ∧ I' 62 10 = fltI (mRow (txI (I 66)) n y 9 0 p f).1 (mRow (txI (I 66)) n y 9 0 p f).2.1))) := by
  refine zK_of kX12_readsHeights.2.2.2.2.1 (Nat.le_of_ble_eq_true rfl) ?_
  show V G mX12_readsHeights 2 _ 0 [(0, .ref 62), (1, .int (nI y))] [] (0, 0) zsh I J
  refine V_iconst (v := nI 0) dX12_readsHeights_0 rfl ?_
  refine V_istore_n (ls' := [(2, .int (nI 0)), (0, .ref 62), (1, .int (nI y))]) dX12_readsHeights_1 (by decide) rfl ?_
  refine V_sub2 (ls' := [(0, .ref 62), (1, .int (nI y)), (2, .int (nI 0))]) (List.forall_mem_cons.mpr ⟨rfl, List.forall_mem_cons.mpr ⟨rfl, List.forall_mem_cons.mpr ⟨rfl, fun _ h => absurd h List.not_mem_nil⟩⟩⟩) ?_
  exact lp_rowM hy 9 0 p f I (by decide) (by decide) h rfl ⟨fun _ _ _ => rfl, fun _ _ _ => rfl⟩ hr

def gEnd (tx : Nat → Nat) (n m y : Nat) (r : Nat × Nat × (Nat → Nat)) : Nat × Nat × (Nat → Nat) :=
  if r.1 ≠ 0 then r else if (mEnd tx n y r).1 = 0 then gAll tx n m (y + 1) (mEnd tx n y r).2.1 (mEnd tx n y r).2.2 else mEnd tx n y r
theorem gAll_m {tx : Nat → Nat} {n m y p : Nat} {f : Nat → Nat} : gAll tx n (m + 1) y p f = gEnd tx n m y (mRow tx n y 9 0 p f) := by
  have e : gRow tx n y 9 0 p f = mEnd tx n y (mRow tx n y 9 0 p f) := gRow_m 9 0 p f (by decide) (by decide)
  have e1 : gAll tx n (m + 1) y p f = (if (gRow tx n y 9 0 p f).1 = 0 then gAll tx n m (y + 1) (gRow tx n y 9 0 p f).2.1 (gRow tx n y 9 0 p f).2.2 else gRow tx n y 9 0 p f) := rfl
  rw [e1, e]
  unfold gEnd
  by_cases h : (mRow tx n y 9 0 p f).1 = 0
  · rw [if_neg (show ¬ (mRow tx n y 9 0 p f).1 ≠ 0 from fun h2 => h2 h)]
  · rw [if_pos (show (mRow tx n y 9 0 p f).1 ≠ 0 from h)]
    have e2 : mEnd tx n y (mRow tx n y 9 0 p f) = mRow tx n y 9 0 p f := if_pos h
    rw [e2, if_neg h]
def grQ (I : zI) (J : zJ) (G : Nat × Nat × (Nat → Nat)) : zQ := zP (fun v I' J' => J = J' ∧ v = some (.int (if G.1 = 0 then nI (hMx G.2.2 64) else fltI G.1 G.2.1)) ∧ I' 62 7 = nI 0 ∧ (∀ j, j < 64 → I' 95 j = if G.1 = 0 then nI (G.2.2 j) else I 95 j) ∧ (∃ g : Nat → Nat, (∀ j, g j ≤ 9) ∧ ∀ j, j < 64 → I' 96 j = nI (g j)) ∧ (∀ a, a ≠ 62 → a ≠ 95 → a ≠ 96 → I' a = I a) ∧ ∀ j, j ≠ 7 → j ≠ 8 → j ≠ 9 → j ≠ 10 → I' 62 j = I 62 j)
/-- so far only the reading's own cells are other -/
def grF9 (I I' : zI) : Prop := (∀ a, a ≠ 62 → a ≠ 96 → I' a = I a) ∧ ∀ j, j ≠ 8 → j ≠ 9 → j ≠ 10 → I' 62 j = I 62 j
theorem grF9_t {A B C : zI} (h : grF9 A B) (h2 : grF B C) : grF9 A C := ⟨fun a a1 a2 => (h2.1 a a1 a2).trans (h.1 a a1 a2), fun j j1 j2 j3 => (h2.2 j j1 j3).trans (h.2 j j1 j2 j3)⟩
set_option maxRecDepth 100000 in
set_option maxHeartbeats 4000000 in
theorem lp_gr0 {G : zG} {I : zI} {J : zJ} {I1 : zI} {fc q : Nat} {u : Nat → Nat} (hfc : ¬ (fc, q, u).1 = 0) (h10 : I1 62 10 = fltI fc q) (hF : grF9 I I1) {g : Nat → Nat} (hg9 : ∀ j, g j ≤ 9) (hg : ∀ j, j < 64 → I1 96 j = nI (g j)) : V G mX12_ground 3 (grQ I J (fc, q, u)) 102 [(0, .ref 62), (2, .int (nI 0))] [] (0, 0) zsh I1 J := by
  refine V_aload_n dX12_ground_102 rfl ?_
  refine V_iconst (v := nI 0) dX12_ground_103 rfl ?_
  refine V_putW dX12_ground_104 fX12_212 ⟨Nat.le_of_ble_eq_true rfl, Nat.le_of_ble_eq_true rfl⟩ rfl rfl rfl ⟨rfl, rfl⟩ ?_
  refine V_iload_n dX12_ground_107 rfl ?_
  refine V_if_ne (tgt := 116) dX12_ground_108 rfl (fun h => absurd h (by decide)) (fun _ => ?_)
  refine V_aload_n dX12_ground_111 rfl ?_
  refine V_getI dX12_ground_112 fX12_229 ⟨Nat.le_of_ble_eq_true rfl, Nat.le_of_ble_eq_true rfl⟩ rfl rfl ?_
  refine V_eqI (y := I1 62 10) rfl ?_
  refine V_eqI (y := fltI fc q) h10 ?_
  exact V_iret ⟨Or.inl rfl, dX12_ground_115⟩ ⟨Nat.le_of_ble_eq_true rfl, Nat.le_of_ble_eq_true rfl⟩ ⟨rfl, rfl, congrArg (fun z => some (Value.int z)) (if_neg hfc).symm, zwr_at.trans (if_pos ⟨rfl, rfl⟩), fun j hj => (congrFun (hF.1 95 (by decide) (by decide)) j).trans (if_neg hfc).symm, ⟨g, hg9, hg⟩, fun a a1 _ a3 => (zup_n a1).trans (hF.1 a a1 a3), fun j j7 j8 j9 j10 => (zwr_at.trans (if_neg (fun h => j7 h.2))).trans (hF.2 j j8 j9 j10)⟩

set_option maxRecDepth 100000 in
set_option maxHeartbeats 4000000 in
theorem lp_grC {G : zG} {I : zI} {J : zJ} {p : Nat} {f : Nat → Nat} (hf9 : ∀ j, f j ≤ 9) : ∀ m i I1, i + m = 64 → I1 62 7 = nI 0 → (∀ j, j < 64 → I1 95 j = if j < i then nI (f j) else I 95 j) → (∀ j, j < 64 → I1 96 j = nI (f j)) → ((∀ a, a ≠ 62 → a ≠ 95 → a ≠ 96 → I1 a = I a) ∧ ∀ j, j ≠ 7 → j ≠ 8 → j ≠ 9 → j ≠ 10 → I1 62 j = I 62 j) → V G mX12_ground 3 (grQ I J (0, p, f)) 121 [(0, .ref 62), (3, .int (nI (hMx f i))), (4, .int (nI i))] [] (0, 0) zsh I1 J := by
  intro m
  induction m with
  | zero =>
    intro i I1 hk h7 h95 hr hF
    refine V_iload dX12_ground_121 rfl ?_
    refine V_bipush (v := nI 64) dX12_ground_123 rfl ?_
    refine V_icmp_geN (tgt := 160) dX12_ground_125 rfl (by omega) (by omega) (fun _ => ?_) (fun h => absurd h (by omega))
    refine V_iload_n dX12_ground_160 rfl ?_
    exact V_iret ⟨Or.inl rfl, dX12_ground_161⟩ ⟨Nat.le_of_ble_eq_true rfl, Nat.le_of_ble_eq_true rfl⟩ ⟨rfl, rfl, congrArg (fun z => some (Value.int z)) ((congrArg (fun z => nI (hMx f z)) (show i = 64 by omega)).trans (if_pos rfl).symm), h7, fun j hj => (h95 j hj).trans ((if_pos (by omega)).trans (if_pos rfl).symm), ⟨f, hf9, hr⟩, hF.1, hF.2⟩
  | succ m ih =>
    intro i I1 hk h7 h95 hr hF
    refine V_iload dX12_ground_121 rfl ?_
    refine V_bipush (v := nI 64) dX12_ground_123 rfl ?_
    refine V_icmp_geN (tgt := 160) dX12_ground_125 rfl (by omega) (by omega) (fun h => absurd h (by omega)) (fun _ => ?_)
    refine V_aload_n dX12_ground_128 rfl ?_
    refine V_getR (b := 95) dX12_ground_129 fX12_109 ⟨Nat.le_of_ble_eq_true rfl, Nat.le_of_ble_eq_true rfl⟩ rfl rfl rfl ?_
    refine V_iload dX12_ground_132 rfl ?_
    refine V_aload_n dX12_ground_134 rfl ?_
    refine V_getR (b := 96) dX12_ground_135 fX12_112 ⟨Nat.le_of_ble_eq_true rfl, Nat.le_of_ble_eq_true rfl⟩ rfl rfl rfl ?_
    refine V_iload dX12_ground_138 rfl ?_
    refine V_ialdN (k := i) dX12_ground_140 ⟨Nat.le_of_ble_eq_true rfl, Nat.le_of_ble_eq_true rfl⟩ rfl (by decide) (by omega) ?_
    refine V_eqI (y := nI (f i)) (hr i (by omega)) ?_
    refine V_iastN (k := i) dX12_ground_141 ⟨Nat.le_of_ble_eq_true rfl, Nat.le_of_ble_eq_true rfl⟩ rfl (by decide) (by omega) ?_
    refine V_iload_n dX12_ground_142 rfl ?_
    refine V_aload_n dX12_ground_143 rfl ?_
    refine V_getR (b := 95) dX12_ground_144 fX12_109 ⟨Nat.le_of_ble_eq_true rfl, Nat.le_of_ble_eq_true rfl⟩ rfl rfl rfl ?_
    refine V_iload dX12_ground_147 rfl ?_
    refine V_ialdN (k := i) dX12_ground_149 ⟨Nat.le_of_ble_eq_true rfl, Nat.le_of_ble_eq_true rfl⟩ rfl (by decide) (by omega) ?_
    refine V_eqI (y := nI (f i)) (by simp [zwr_at]) ?_
    refine V_callS (As := [.int (nI (hMx f i)), .int (nI (f i))]) (st := []) dX12_ground_150 kX12_max lX12_445 (by decide) rfl rfl (Nat.le_of_ble_eq_true rfl) ⟨Nat.le_of_ble_eq_true rfl, Nat.le_of_ble_eq_true rfl⟩ (w_maxN (by have := hMx_le hf9 i; omega) (by have := hf9 i; omega)) ?_
    rintro _ _ _ _ ⟨rfl, rfl, rfl, rfl⟩
    refine V_istore_n (ls' := [(3, .int (nI (hMx f (i + 1)))), (0, .ref 62), (4, .int (nI i))]) dX12_ground_153 (by decide) rfl ?_
    refine V_iincN (ls' := [(4, .int (nI (i + 1))), (3, .int (nI (hMx f (i + 1)))), (0, .ref 62)]) (n := 1) dX12_ground_154 rfl rfl (by decide) (by decide) rfl ?_
    refine V_goto (tgt := 121) dX12_ground_157 rfl ?_
    refine V_sub2 (ls' := [(0, .ref 62), (3, .int (nI (hMx f (i + 1)))), (4, .int (nI (i + 1)))]) (List.forall_mem_cons.mpr ⟨rfl, List.forall_mem_cons.mpr ⟨rfl, List.forall_mem_cons.mpr ⟨rfl, fun _ h => absurd h List.not_mem_nil⟩⟩⟩) ?_
    refine ih (i + 1) _ (by omega) ((zwr_at.trans (if_neg (fun h => absurd h.1 (by decide)))).trans h7) (fun j hj => ?_) (fun j hj => ?_) ⟨fun a a1 a2 a3 => (zup_n a2).trans (hF.1 a a1 a2 a3), fun j j7 j8 j9 j10 => hF.2 j j7 j8 j9 j10⟩
    · rw [zwr_at]
      by_cases hji : j = i
      · subst hji; rw [if_pos ⟨rfl, rfl⟩, if_pos (by omega)]
      · rw [if_neg (fun h => hji h.2), h95 j hj]
        by_cases h2 : j < i
        · rw [if_pos h2, if_pos (by omega)]
        · rw [if_neg h2, if_neg (by omega)]
    · exact hr j hj

set_option maxRecDepth 100000 in
set_option maxHeartbeats 4000000 in
theorem lp_gr1 {G : zG} {I : zI} {J : zJ} {I1 : zI} {p : Nat} {f : Nat → Nat} (hf9 : ∀ j, f j ≤ 9) (hF : grF9 I I1) (hr : ∀ j, j < 64 → I1 96 j = nI (f j)) : V G mX12_ground 3 (grQ I J (0, p, f)) 102 [(0, .ref 62), (2, .int (nI 1))] [] (0, 0) zsh I1 J := by
  refine V_aload_n dX12_ground_102 rfl ?_
  refine V_iconst (v := nI 0) dX12_ground_103 rfl ?_
  refine V_putW dX12_ground_104 fX12_212 ⟨Nat.le_of_ble_eq_true rfl, Nat.le_of_ble_eq_true rfl⟩ rfl rfl rfl ⟨rfl, rfl⟩ ?_
  refine V_iload_n dX12_ground_107 rfl ?_
  refine V_if_ne (tgt := 116) dX12_ground_108 rfl (fun _ => ?_) (fun h => absurd h (by decide))
  refine V_iconst (v := nI 0) dX12_ground_116 rfl ?_
  refine V_istore_n (ls' := [(3, .int (nI 0)), (0, .ref 62), (2, .int (nI 1))]) dX12_ground_117 (by decide) rfl ?_
  refine V_iconst (v := nI 0) dX12_ground_118 rfl ?_
  refine V_istore (ls' := [(4, .int (nI 0)), (3, .int (nI 0)), (0, .ref 62), (2, .int (nI 1))]) dX12_ground_119 (by decide) rfl ?_
  refine V_sub2 (ls' := [(0, .ref 62), (3, .int (nI (hMx f 0))), (4, .int (nI 0))]) (List.forall_mem_cons.mpr ⟨rfl, List.forall_mem_cons.mpr ⟨(congrArg (fun z => some (Value.int z)) rfl), List.forall_mem_cons.mpr ⟨rfl, fun _ h => absurd h List.not_mem_nil⟩⟩⟩) ?_
  exact lp_grC hf9 64 0 _ rfl (zwr_at.trans (if_pos ⟨rfl, rfl⟩)) (fun j hj => (congrFun (hF.1 95 (by decide) (by decide)) j).trans (if_neg (Nat.not_lt_zero _)).symm) (fun j hj => hr j hj) ⟨fun a a1 a2 a3 => (zup_n a1).trans (hF.1 a a1 a3), fun j j7 j8 j9 j10 => (zwr_at.trans (if_neg (fun h => j7 h.2))).trans (hF.2 j j8 j9 j10)⟩

set_option maxRecDepth 100000 in
set_option maxHeartbeats 4000000 in
theorem lp_grH0 {G : zG} {I : zI} {J : zJ} {I1 : zI} {fc q j : Nat} {u : Nat → Nat} (hj : j ≤ 8) (hfc : ¬ (fc, q, u).1 = 0) (h10 : I1 62 10 = fltI fc q) (hF : grF9 I I1) {g : Nat → Nat} (hg9 : ∀ j, g j ≤ 9) (hg : ∀ j, j < 64 → I1 96 j = nI (g j)) : V G mX12_ground 3 (grQ I J (fc, q, u)) 38 [(0, .ref 62), (2, .int (nI 0)), (3, .int (nI j))] [] (0, 0) zsh I1 J := by
  refine V_iload_n dX12_ground_38 rfl ?_
  refine V_bipush (v := nI 8) dX12_ground_39 rfl ?_
  refine V_icmp_geN (tgt := 77) dX12_ground_41 rfl (by omega) (by omega) (fun h41 => ?_) (fun h41 => ?_)
  · skip
    refine V_iload_n dX12_ground_77 rfl ?_
    refine V_if_eq (tgt := 102) dX12_ground_78 rfl (fun _ => ?_) (fun h => absurd h (by decide))
    refine V_sub2 (ls' := [(0, .ref 62), (2, .int (nI 0))]) (List.forall_mem_cons.mpr ⟨rfl, List.forall_mem_cons.mpr ⟨rfl, fun _ h => absurd h List.not_mem_nil⟩⟩) ?_
    exact lp_gr0 hfc h10 hF hg9 hg
  · skip
    refine V_iload_n dX12_ground_44 rfl ?_
    refine V_if_eq (tgt := 77) dX12_ground_45 rfl (fun _ => ?_) (fun h => absurd h (by decide))
    refine V_iload_n dX12_ground_77 rfl ?_
    refine V_if_eq (tgt := 102) dX12_ground_78 rfl (fun _ => ?_) (fun h => absurd h (by decide))
    refine V_sub2 (ls' := [(0, .ref 62), (2, .int (nI 0))]) (List.forall_mem_cons.mpr ⟨rfl, List.forall_mem_cons.mpr ⟨rfl, fun _ h => absurd h List.not_mem_nil⟩⟩) ?_
    exact lp_gr0 hfc h10 hF hg9 hg

theorem gEnd_7 {tx : Nat → Nat} {n y p : Nat} {f : Nat → Nat} (h7 : y = 7) (h : sgn tx n p = 256) : gEnd tx n 0 y (0, p, f) = (0, p + 1, f) := by
  have e : mEnd tx n y (0, p, f) = (0, p + 1, f) := (if_neg (fun h => h rfl)).trans (if_pos (Or.inl ⟨h7, h⟩))
  exact (if_neg (fun h => h rfl)).trans (by rw [e]; exact if_pos rfl)
theorem gEnd_7n {tx : Nat → Nat} {n y p : Nat} {f : Nat → Nat} (h7 : y = 7) (h : ¬ sgn tx n p = 256) : gEnd tx n 0 y (0, p, f) = (1, p, f) := by
  have e : mEnd tx n y (0, p, f) = (1, p, f) := (if_neg (fun h => h rfl)).trans (if_neg (fun h2 => h2.elim (fun h2 => h h2.2) (fun h2 => h2.1 h7)))
  exact (if_neg (fun h => h rfl)).trans (by rw [e]; exact if_neg (Nat.succ_ne_zero _))
theorem gEnd_s {tx : Nat → Nat} {n m y p : Nat} {f : Nat → Nat} (h7 : y ≠ 7) (h : sgn tx n p = 47) : gEnd tx n (m + 1) y (0, p, f) = gEnd tx n m (y + 1) (mRow tx n (y + 1) 9 0 (p + 1) f) := by
  have e : mEnd tx n y (0, p, f) = (0, p + 1, f) := (if_neg (fun h => h rfl)).trans (if_pos (Or.inr ⟨h7, h⟩))
  rw [← gAll_m]
  exact (if_neg (fun h => h rfl)).trans (by rw [e]; exact if_pos rfl)
theorem gEnd_sn {tx : Nat → Nat} {n m y p : Nat} {f : Nat → Nat} (h7 : y ≠ 7) (h : ¬ sgn tx n p = 47) : gEnd tx n m y (0, p, f) = (1, p, f) := by
  have e : mEnd tx n y (0, p, f) = (1, p, f) := (if_neg (fun h => h rfl)).trans (if_neg (fun h2 => h2.elim (fun h2 => h7 h2.1) (fun h2 => h h2.2)))
  exact (if_neg (fun h => h rfl)).trans (by rw [e]; exact if_neg (Nat.succ_ne_zero _))
set_option maxRecDepth 100000 in
set_option maxHeartbeats 4000000 in
theorem lp_gr {G : zG} {I : zI} {J : zJ} {n : Nat} {tx : Nat → Nat} : ∀ m y p f (I1 : zI), y + m = 7 → mrI I1 n p → txI (I1 66) = tx → grF9 I I1 → (∀ j, f j ≤ 9) → (∀ j, j < 64 → I1 96 j = nI (f j)) → V G mX12_ground 3 (grQ I J (gEnd tx n m y (0, p, f))) 38 [(0, .ref 62), (2, .int (nI 1)), (3, .int (nI (y + 1)))] [] (0, 0) zsh I1 J := by
  intro m
  induction m with
  | zero =>
    intro y p f I1 hk hm htx hF hf9 hr
    have hy7 : y = 7 := by omega
    have hn9 := hm.2.1
    have hp9 := hm.2.2.2
    refine V_iload_n dX12_ground_38 rfl ?_
    refine V_bipush (v := nI 8) dX12_ground_39 rfl ?_
    refine V_icmp_geN (tgt := 77) dX12_ground_41 rfl (by omega) (by omega) (fun _ => ?_) (fun h => absurd h (by omega))
    refine V_iload_n dX12_ground_77 rfl ?_
    refine V_if_eq (tgt := 102) dX12_ground_78 rfl (fun h => absurd h (by decide)) (fun _ => ?_)
    refine V_aload_n dX12_ground_81 rfl ?_
    refine V_getI dX12_ground_82 fX12_219 ⟨Nat.le_of_ble_eq_true rfl, Nat.le_of_ble_eq_true rfl⟩ rfl rfl ?_
    refine V_eqI (y := nI p) hm.2.2.1 ?_
    refine V_aload_n dX12_ground_85 rfl ?_
    refine V_getI dX12_ground_86 fX12_222 ⟨Nat.le_of_ble_eq_true rfl, Nat.le_of_ble_eq_true rfl⟩ rfl rfl ?_
    refine V_eqI (y := nI n) hm.1 ?_
    refine V_icmp_geN (tgt := 102) dX12_ground_89 rfl (by omega) (by omega) (fun h89 => ?_) (fun h89 => ?_)
    · skip
      refine V_sub2 (ls' := [(0, .ref 62), (2, .int (nI 1))]) (List.forall_mem_cons.mpr ⟨rfl, List.forall_mem_cons.mpr ⟨rfl, fun _ h => absurd h List.not_mem_nil⟩⟩) ?_
      have e9 : (gEnd tx n 0 y (0, p, f)) = (0, p + 1, f) := gEnd_7 hy7 (sgn_out (by omega))
      rw [e9]
      exact lp_gr1 hf9 hF hr
    · skip
      refine V_aload_n dX12_ground_92 rfl ?_
      refine V_iconst (v := nI 1) dX12_ground_93 rfl ?_
      refine V_aload_n dX12_ground_94 rfl ?_
      refine V_getI dX12_ground_95 fX12_219 ⟨Nat.le_of_ble_eq_true rfl, Nat.le_of_ble_eq_true rfl⟩ rfl rfl ?_
      refine V_eqI (y := nI p) hm.2.2.1 ?_
      refine V_callV (As := [.int (nI 1), .int (nI p)]) (st := []) (a := 62) dX12_ground_98 kX12_wrongAt lX12_232 (by decide) rfl rfl (Nat.le_of_ble_eq_true rfl) ⟨Nat.le_of_ble_eq_true rfl, Nat.le_of_ble_eq_true rfl⟩ ⟨Nat.le_of_ble_eq_true rfl, Nat.le_of_ble_eq_true rfl⟩ rfl ⟨rfl, by decide⟩ w_wrongAt ?_
      rintro r sh' I' J' ⟨rfl, rfl, rfl, rfl⟩
      refine V_istore_n (ls' := [(2, .int (nI 0)), (0, .ref 62), (3, .int (nI (y + 1)))]) dX12_ground_101 (by decide) rfl ?_
      refine V_sub2 (ls' := [(0, .ref 62), (2, .int (nI 0))]) (List.forall_mem_cons.mpr ⟨rfl, List.forall_mem_cons.mpr ⟨rfl, fun _ h => absurd h List.not_mem_nil⟩⟩) ?_
      have e9 : (gEnd tx n 0 y (0, p, f)) = (1, p, f) := gEnd_7n hy7 (by have := txI_lt (f := I1 66) (p := p); rw [sgn_in (by omega), ← htx]; omega)
      rw [e9]
      exact lp_gr0 (Nat.succ_ne_zero _) (zwr_at.trans (if_pos ⟨rfl, rfl⟩)) (grF9_t hF grF_10) hf9 hr
  | succ m ih =>
    intro y p f I1 hk hm htx hF hf9 hr
    have hn9 := hm.2.1
    have hp9 := hm.2.2.2
    refine V_iload_n dX12_ground_38 rfl ?_
    refine V_bipush (v := nI 8) dX12_ground_39 rfl ?_
    refine V_icmp_geN (tgt := 77) dX12_ground_41 rfl (by omega) (by omega) (fun h => absurd h (by omega)) (fun _ => ?_)
    refine V_iload_n dX12_ground_44 rfl ?_
    refine V_if_eq (tgt := 77) dX12_ground_45 rfl (fun h => absurd h (by decide)) (fun _ => ?_)
    refine V_aload_n dX12_ground_48 rfl ?_
    refine V_bipush (v := nI 47) dX12_ground_49 rfl ?_
    by_cases h47 : sgn tx n p = 47
    · skip
      have hpn := sgn_lt h47 (by decide)
      refine V_callV (As := [.int (nI 47)]) (st := []) (a := 62) dX12_ground_51 kX12_takes lX12_309 (by decide) rfl rfl (Nat.le_of_ble_eq_true rfl) ⟨Nat.le_of_ble_eq_true rfl, Nat.le_of_ble_eq_true rfl⟩ ⟨Nat.le_of_ble_eq_true rfl, Nat.le_of_ble_eq_true rfl⟩ rfl ⟨rfl, by decide⟩ (w_takesY hm (by decide) (by rw [htx]; exact h47)) ?_
      rintro r sh' I' J' ⟨rfl, rfl, rfl, rfl⟩
      refine V_if_eq (tgt := 69) dX12_ground_54 rfl (fun h => absurd h (by decide)) (fun _ => ?_)
      refine V_aload_n dX12_ground_57 rfl ?_
      refine V_iload_n dX12_ground_58 rfl ?_
      obtain ⟨fc, q, u, hru⟩ := ex3 (mRow tx n (y + 1) 9 0 (p + 1) f)
      by_cases hfc : fc = 0
      · skip
        subst hfc
        refine V_callV (As := [.int (nI (y + 1))]) (st := []) (a := 62) dX12_ground_59 kX12_readsHeights lX12_455 (by decide) rfl rfl (Nat.le_of_ble_eq_true rfl) ⟨Nat.le_of_ble_eq_true rfl, Nat.le_of_ble_eq_true rfl⟩ ⟨Nat.le_of_ble_eq_true rfl, Nat.le_of_ble_eq_true rfl⟩ rfl ⟨rfl, by decide⟩ (w_row (f := f) (by omega) (mrI_8 hm (by have := hm.2.1; omega)) hr) ?_
        rintro r sh' I2 J' ⟨rfl, rfl, g1, g2, g3, g4⟩
        rw [show (zwr I1 62 8 (nI (p + 1))) 66 = I1 66 from zup_n (by decide), htx, hru] at g2 g3 g4
        obtain ⟨g5, g6⟩ := g3 rfl
        subst g5
        refine V_if_eq (tgt := 69) dX12_ground_62 rfl (fun h => absurd h (by decide)) (fun _ => ?_)
        refine V_iconst (v := nI 1) dX12_ground_65 rfl ?_
        refine V_goto (tgt := 70) dX12_ground_66 rfl ?_
        refine V_istore_n (ls' := [(2, .int (nI 1)), (0, .ref 62), (3, .int (nI (y + 1)))]) dX12_ground_70 (by decide) rfl ?_
        refine V_iincN (ls' := [(3, .int (nI ((y + 1) + 1))), (2, .int (nI 1)), (0, .ref 62)]) (n := 1) dX12_ground_71 rfl rfl (by decide) (by decide) rfl ?_
        refine V_goto (tgt := 38) dX12_ground_74 rfl ?_
        refine V_sub2 (ls' := [(0, .ref 62), (2, .int (nI 1)), (3, .int (nI ((y + 1) + 1)))]) (List.forall_mem_cons.mpr ⟨rfl, List.forall_mem_cons.mpr ⟨rfl, List.forall_mem_cons.mpr ⟨rfl, fun _ h => absurd h List.not_mem_nil⟩⟩⟩) ?_
        rw [gEnd_s (by omega) h47, hru]
        have hu9 : ∀ j, u j ≤ 9 := by have := mRow_le (tx := tx) (n := n) (y := y + 1) 9 0 (p + 1) f hf9; rw [hru] at this; exact this
        have hq := mRow_p (tx := tx) (n := n) (y := y + 1) 9 0 (p + 1) f
        rw [hru] at hq
        have hF2 := grF9_t (grF9_t hF grF_8) g1
        exact ih (y + 1) q u I2 (by omega) ⟨(g1.2 9 (by decide) (by decide)).trans ((zwr_at.trans (if_neg (fun h => absurd h.2 (by decide)))).trans hm.1), hm.2.1, g6, by have h5 : q ≤ n := hq.2.2 hpn; omega⟩ (by rw [g1.1 66 (by decide) (by decide)]; exact htx) hF2 hu9 g2
      · skip
        refine V_callV (As := [.int (nI (y + 1))]) (st := []) (a := 62) dX12_ground_59 kX12_readsHeights lX12_455 (by decide) rfl rfl (Nat.le_of_ble_eq_true rfl) ⟨Nat.le_of_ble_eq_true rfl, Nat.le_of_ble_eq_true rfl⟩ ⟨Nat.le_of_ble_eq_true rfl, Nat.le_of_ble_eq_true rfl⟩ rfl ⟨rfl, by decide⟩ (w_row (f := f) (by omega) (mrI_8 hm (by have := hm.2.1; omega)) hr) ?_
        rintro r sh' I2 J' ⟨rfl, rfl, g1, g2, g3, g4⟩
        rw [show (zwr I1 62 8 (nI (p + 1))) 66 = I1 66 from zup_n (by decide), htx, hru] at g2 g3 g4
        obtain ⟨g5, g6⟩ := g4 hfc
        subst g5
        refine V_if_eq (tgt := 69) dX12_ground_62 rfl (fun _ => ?_) (fun h => absurd h (by decide))
        refine V_iconst (v := nI 0) dX12_ground_69 rfl ?_
        refine V_istore_n (ls' := [(2, .int (nI 0)), (0, .ref 62), (3, .int (nI (y + 1)))]) dX12_ground_70 (by decide) rfl ?_
        refine V_iincN (ls' := [(3, .int (nI ((y + 1) + 1))), (2, .int (nI 0)), (0, .ref 62)]) (n := 1) dX12_ground_71 rfl rfl (by decide) (by decide) rfl ?_
        refine V_goto (tgt := 38) dX12_ground_74 rfl ?_
        refine V_sub2 (ls' := [(0, .ref 62), (2, .int (nI 0)), (3, .int (nI ((y + 1) + 1)))]) (List.forall_mem_cons.mpr ⟨rfl, List.forall_mem_cons.mpr ⟨rfl, List.forall_mem_cons.mpr ⟨rfl, fun _ h => absurd h List.not_mem_nil⟩⟩⟩) ?_
        rw [gEnd_s (by omega) h47, hru]
        have hu9 : ∀ j, u j ≤ 9 := by have := mRow_le (tx := tx) (n := n) (y := y + 1) 9 0 (p + 1) f hf9; rw [hru] at this; exact this
        have hq := mRow_p (tx := tx) (n := n) (y := y + 1) 9 0 (p + 1) f
        rw [hru] at hq
        have hF2 := grF9_t (grF9_t hF grF_8) g1
        have e9 : gEnd tx n m (y + 1) (fc, q, u) = (fc, q, u) := if_pos hfc
        rw [e9]
        exact lp_grH0 (by omega) hfc g6 hF2 hu9 g2
    · skip
      refine V_callV (As := [.int (nI 47)]) (st := []) (a := 62) dX12_ground_51 kX12_takes lX12_309 (by decide) rfl rfl (Nat.le_of_ble_eq_true rfl) ⟨Nat.le_of_ble_eq_true rfl, Nat.le_of_ble_eq_true rfl⟩ ⟨Nat.le_of_ble_eq_true rfl, Nat.le_of_ble_eq_true rfl⟩ rfl ⟨rfl, by decide⟩ (w_takesN hm (by decide) (by rw [htx]; exact h47)) ?_
      rintro r sh' I' J' ⟨rfl, rfl, rfl, rfl⟩
      refine V_if_eq (tgt := 69) dX12_ground_54 rfl (fun _ => ?_) (fun h => absurd h (by decide))
      refine V_iconst (v := nI 0) dX12_ground_69 rfl ?_
      refine V_istore_n (ls' := [(2, .int (nI 0)), (0, .ref 62), (3, .int (nI (y + 1)))]) dX12_ground_70 (by decide) rfl ?_
      refine V_iincN (ls' := [(3, .int (nI ((y + 1) + 1))), (2, .int (nI 0)), (0, .ref 62)]) (n := 1) dX12_ground_71 rfl rfl (by decide) (by decide) rfl ?_
      refine V_goto (tgt := 38) dX12_ground_74 rfl ?_
      refine V_sub2 (ls' := [(0, .ref 62), (2, .int (nI 0)), (3, .int (nI ((y + 1) + 1)))]) (List.forall_mem_cons.mpr ⟨rfl, List.forall_mem_cons.mpr ⟨rfl, List.forall_mem_cons.mpr ⟨rfl, fun _ h => absurd h List.not_mem_nil⟩⟩⟩) ?_
      rw [gEnd_sn (by omega) h47]
      exact lp_grH0 (by omega) (Nat.succ_ne_zero _) (zwr_at.trans (if_pos ⟨rfl, rfl⟩)) (grF9_t hF grF_10) hf9 hr

set_option maxRecDepth 100000 in
set_option maxHeartbeats 4000000 in
theorem w_groundY {G : zG} {I : zI} {J : zJ} {t : Nat} (ht : I 62 7 = nI t) (ht2 : t ≤ 260) {n : Nat} (h1 : 1 ≤ n) (h2 : n ≤ 120) (h3 : n ≤ t) {f : Nat → Nat} (hf9 : ∀ j, f j ≤ 9) (h96 : ∀ j, j < 64 → I 96 j = nI (f j)) : zK G mX12_ground 3 [.ref 62, .int (nI n)] zsh I J (grQ I J (gAll (txI (I 66)) n 8 0 0 f)) := by
  refine zK_of kX12_ground.2.2.2.2.1 (Nat.le_of_ble_eq_true rfl) ?_
  show V G mX12_ground 3 _ 0 [(0, .ref 62), (1, .int (nI n))] [] (0, 0) zsh I J
  refine V_iload_n dX12_ground_0 rfl ?_
  refine V_iconst (v := nI 1) dX12_ground_1 rfl ?_
  refine V_bipush (v := nI 120) dX12_ground_2 rfl ?_
  refine V_callS (As := [.int (nI n), .int (nI 1), .int (nI 120)]) (st := []) dX12_ground_4 kX12_in lX12_173 (by decide) rfl rfl (Nat.le_of_ble_eq_true rfl) ⟨Nat.le_of_ble_eq_true rfl, Nat.le_of_ble_eq_true rfl⟩ (w_inY rfl rfl (a := 1) (b := 120) ((inZ_k (by omega)).mpr (by omega))) ?_
  rintro _ _ _ _ ⟨rfl, rfl, rfl, rfl⟩
  refine V_if_eq (tgt := 18) dX12_ground_7 rfl (fun h => absurd h (by decide)) (fun _ => ?_)
  refine V_iload_n dX12_ground_10 rfl ?_
  refine V_aload_n dX12_ground_11 rfl ?_
  refine V_getI dX12_ground_12 fX12_212 ⟨Nat.le_of_ble_eq_true rfl, Nat.le_of_ble_eq_true rfl⟩ rfl rfl ?_
  refine V_eqI (y := nI t) ht ?_
  refine V_icmp_leN (tgt := 20) dX12_ground_15 rfl (by omega) (by omega) (fun _ => ?_) (fun h => absurd h (by omega))
  refine V_aload_n dX12_ground_20 rfl ?_
  refine V_iconst (v := nI 0) dX12_ground_21 rfl ?_
  refine V_putW dX12_ground_22 fX12_219 ⟨Nat.le_of_ble_eq_true rfl, Nat.le_of_ble_eq_true rfl⟩ rfl rfl rfl ⟨rfl, rfl⟩ ?_
  refine V_aload_n dX12_ground_25 rfl ?_
  refine V_iload_n dX12_ground_26 rfl ?_
  refine V_putW dX12_ground_27 fX12_222 ⟨Nat.le_of_ble_eq_true rfl, Nat.le_of_ble_eq_true rfl⟩ rfl rfl rfl ⟨rfl, rfl⟩ ?_
  have hm9 : mrI (zwr (zwr I 62 8 (nI 0)) 62 9 (nI n)) n 0 := ⟨zwr_at.trans (if_pos ⟨rfl, rfl⟩), by omega, rfl, by decide⟩
  have hF9 : grF9 I (zwr (zwr I 62 8 (nI 0)) 62 9 (nI n)) := ⟨fun a a1 _ => (zup_n a1).trans (zup_n a1), fun j j8 j9 _ => (zwr_at.trans (if_neg (fun h => j9 h.2))).trans (zwr_at.trans (if_neg (fun h => j8 h.2)))⟩
  obtain ⟨fc, q, u, hru⟩ := ex3 (mRow (txI (I 66)) n 0 9 0 0 f)
  rw [gAll_m, hru]
  have hu9 : ∀ j, u j ≤ 9 := by have := mRow_le (tx := txI (I 66)) (n := n) (y := 0) 9 0 0 f hf9; rw [hru] at this; exact this
  have hq := mRow_p (tx := txI (I 66)) (n := n) (y := 0) 9 0 0 f
  rw [hru] at hq
  by_cases hfc : fc = 0
  · skip
    subst hfc
    refine V_aload_n dX12_ground_30 rfl ?_
    refine V_iconst (v := nI 0) dX12_ground_31 rfl ?_
    refine V_callV (As := [.int (nI 0)]) (st := []) (a := 62) dX12_ground_32 kX12_readsHeights lX12_455 (by decide) rfl rfl (Nat.le_of_ble_eq_true rfl) ⟨Nat.le_of_ble_eq_true rfl, Nat.le_of_ble_eq_true rfl⟩ ⟨Nat.le_of_ble_eq_true rfl, Nat.le_of_ble_eq_true rfl⟩ rfl ⟨rfl, by decide⟩ (w_row (f := f) (by decide) hm9 h96) ?_
    rintro r sh' I2 J' ⟨rfl, rfl, g1, g2, g3, g4⟩
    rw [show (zwr (zwr I 62 8 (nI 0)) 62 9 (nI n)) 66 = I 66 from (zup_n (by decide)).trans (zup_n (by decide)), hru] at g2 g3 g4
    obtain ⟨g5, g6⟩ := g3 rfl
    subst g5
    refine V_istore_n (ls' := [(2, .int (nI 1)), (0, .ref 62), (1, .int (nI n))]) dX12_ground_35 (by decide) rfl ?_
    refine V_iconst (v := nI 1) dX12_ground_36 rfl ?_
    refine V_istore_n (ls' := [(3, .int (nI 1)), (2, .int (nI 1)), (0, .ref 62), (1, .int (nI n))]) dX12_ground_37 (by decide) rfl ?_
    refine V_sub2 (ls' := [(0, .ref 62), (2, .int (nI 1)), (3, .int (nI 1))]) (List.forall_mem_cons.mpr ⟨rfl, List.forall_mem_cons.mpr ⟨rfl, List.forall_mem_cons.mpr ⟨rfl, fun _ h => absurd h List.not_mem_nil⟩⟩⟩) ?_
    have hF2 := grF9_t hF9 g1
    exact lp_gr 7 0 q u I2 rfl ⟨(g1.2 9 (by decide) (by decide)).trans (zwr_at.trans (if_pos ⟨rfl, rfl⟩)), by omega, g6, by have h5 : q ≤ n := hq.2.2 (Nat.zero_le _); omega⟩ (by rw [g1.1 66 (by decide) (by decide)]; rfl) hF2 hu9 g2
  · skip
    refine V_aload_n dX12_ground_30 rfl ?_
    refine V_iconst (v := nI 0) dX12_ground_31 rfl ?_
    refine V_callV (As := [.int (nI 0)]) (st := []) (a := 62) dX12_ground_32 kX12_readsHeights lX12_455 (by decide) rfl rfl (Nat.le_of_ble_eq_true rfl) ⟨Nat.le_of_ble_eq_true rfl, Nat.le_of_ble_eq_true rfl⟩ ⟨Nat.le_of_ble_eq_true rfl, Nat.le_of_ble_eq_true rfl⟩ rfl ⟨rfl, by decide⟩ (w_row (f := f) (by decide) hm9 h96) ?_
    rintro r sh' I2 J' ⟨rfl, rfl, g1, g2, g3, g4⟩
    rw [show (zwr (zwr I 62 8 (nI 0)) 62 9 (nI n)) 66 = I 66 from (zup_n (by decide)).trans (zup_n (by decide)), hru] at g2 g3 g4
    obtain ⟨g5, g6⟩ := g4 hfc
    subst g5
    refine V_istore_n (ls' := [(2, .int (nI 0)), (0, .ref 62), (1, .int (nI n))]) dX12_ground_35 (by decide) rfl ?_
    refine V_iconst (v := nI 1) dX12_ground_36 rfl ?_
    refine V_istore_n (ls' := [(3, .int (nI 1)), (2, .int (nI 0)), (0, .ref 62), (1, .int (nI n))]) dX12_ground_37 (by decide) rfl ?_
    refine V_sub2 (ls' := [(0, .ref 62), (2, .int (nI 0)), (3, .int (nI 1))]) (List.forall_mem_cons.mpr ⟨rfl, List.forall_mem_cons.mpr ⟨rfl, List.forall_mem_cons.mpr ⟨rfl, fun _ h => absurd h List.not_mem_nil⟩⟩⟩) ?_
    have hF2 := grF9_t hF9 g1
    have e9 : gEnd (txI (I 66)) n 7 0 (fc, q, u) = (fc, q, u) := if_pos hfc
    rw [e9]
    exact lp_grH0 (by decide) hfc g6 hF2 hu9 g2

set_option maxRecDepth 100000 in
set_option maxHeartbeats 4000000 in
theorem w_groundN {G : zG} {I : zI} {J : zJ} {t : Nat} (ht : I 62 7 = nI t) (ht2 : t ≤ 260) {n : Int32} (hn : ¬ tkO n 120 t) : zK G mX12_ground 1 [.ref 62, .int n] zsh I J (zA0 (.int (-1)) I J) := by
  refine zK_of kX12_ground.2.2.2.2.1 (Nat.le_of_ble_eq_true rfl) ?_
  show V G mX12_ground 1 _ 0 [(0, .ref 62), (1, .int n)] [] (0, 0) zsh I J
  by_cases hi : inZ n 1 120
  · obtain ⟨k, rfl, hk0, hk⟩ := inZ_n hi (by decide)
    have h4 : ¬ k ≤ t := fun h => hn (tkO_k (by omega) (by omega) h (by decide))
    refine V_iload_n dX12_ground_0 rfl ?_
    refine V_iconst (v := nI 1) dX12_ground_1 rfl ?_
    refine V_bipush (v := nI 120) dX12_ground_2 rfl ?_
    refine V_callS (As := [.int (nI k), .int (nI 1), .int (nI 120)]) (st := []) dX12_ground_4 kX12_in lX12_173 (by decide) rfl rfl (Nat.le_of_ble_eq_true rfl) ⟨Nat.le_of_ble_eq_true rfl, Nat.le_of_ble_eq_true rfl⟩ (w_inY rfl rfl (a := 1) (b := 120) ((inZ_k (by omega)).mpr (by omega))) ?_
    rintro _ _ _ _ ⟨rfl, rfl, rfl, rfl⟩
    refine V_if_eq (tgt := 18) dX12_ground_7 rfl (fun h => absurd h (by decide)) (fun _ => ?_)
    refine V_iload_n dX12_ground_10 rfl ?_
    refine V_aload_n dX12_ground_11 rfl ?_
    refine V_getI dX12_ground_12 fX12_212 ⟨Nat.le_of_ble_eq_true rfl, Nat.le_of_ble_eq_true rfl⟩ rfl rfl ?_
    refine V_eqI (y := nI t) ht ?_
    refine V_icmp_leN (tgt := 20) dX12_ground_15 rfl (by omega) (by omega) (fun h => absurd h (by omega)) (fun _ => ?_)
    refine V_iconst (v := (-1)) dX12_ground_18 rfl ?_
    exact V_iret ⟨Or.inl rfl, dX12_ground_19⟩ ⟨Nat.le_of_ble_eq_true rfl, Nat.le_of_ble_eq_true rfl⟩ ⟨rfl, rfl, rfl, rfl⟩
  · skip
    refine V_iload_n dX12_ground_0 rfl ?_
    refine V_iconst (v := nI 1) dX12_ground_1 rfl ?_
    refine V_bipush (v := nI 120) dX12_ground_2 rfl ?_
    refine V_callS (As := [.int n, .int (nI 1), .int (nI 120)]) (st := []) dX12_ground_4 kX12_in lX12_173 (by decide) rfl rfl (Nat.le_of_ble_eq_true rfl) ⟨Nat.le_of_ble_eq_true rfl, Nat.le_of_ble_eq_true rfl⟩ (w_inN rfl rfl (a := 1) (b := 120) hi) ?_
    rintro _ _ _ _ ⟨rfl, rfl, rfl, rfl⟩
    refine V_if_eq (tgt := 18) dX12_ground_7 rfl (fun _ => ?_) (fun h => absurd h (by decide))
    refine V_iconst (v := (-1)) dX12_ground_18 rfl ?_
    exact V_iret ⟨Or.inl rfl, dX12_ground_19⟩ ⟨Nat.le_of_ble_eq_true rfl, Nat.le_of_ble_eq_true rfl⟩ ⟨rfl, rfl, rfl, rfl⟩

