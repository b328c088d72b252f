/-! THE CLASS: a ground's text -/
/-- bytes as signs; a text's sign at a place, 256 where there is none -/
def txI (f : Nat → Int32) (p : Nat) : Nat := (f p).toBitVec.toNat % 256
def sgn (tx : Nat → Nat) (n p : Nat) : Nat := if p < n then tx p else 256
theorem txI_lt {f : Nat → Int32} {p : Nat} : txI f p < 256 := Nat.mod_lt _ (by decide)
theorem txI_and {f : Nat → Int32} {p : Nat} : f p &&& nI 255 = nI (txI f p) := pk_and _ 8 rfl
def fltI (fc p : Nat) : Int32 := -1000 * nI fc - nI p
def gPut (f : Nat → Nat) (a t v : Nat) : Nat → Nat := fun j => if a ≤ j ∧ j < a + t then v else f j
/-- a row of heights: a fault's number (none: 0), the place, what is read -/
def gRow (tx : Nat → Nat) (n y : Nat) : Nat → Nat → Nat → (Nat → Nat) → Nat × Nat × (Nat → Nat)
  | 0, _, p, f => (0, p, f)
  | k + 1, x, p, f =>
    if ¬ (97 ≤ sgn tx n p ∧ sgn tx n p ≤ 104) ∧ ¬ (48 ≤ sgn tx n p ∧ sgn tx n p ≤ 57) then (if x = 8 ∧ (y = 7 ∧ sgn tx n p = 256 ∨ y ≠ 7 ∧ sgn tx n p = 47) then (0, p + 1, f) else (1, p, f)) else
    if 97 ≤ sgn tx n p ∧ sgn tx n p ≤ 104 then
      (if 8 < x + (sgn tx n p - 97 + 1) then (6, p, f) else if 48 ≤ sgn tx n (p + 1) ∧ sgn tx n (p + 1) ≤ 57 then gRow tx n y k (x + (sgn tx n p - 97 + 1)) (p + 1 + 1) (gPut f (8 * y + x) (sgn tx n p - 97 + 1) (sgn tx n (p + 1) - 48)) else (1, p + 1, f))
    else (if 8 < x + 1 then (6, p, f) else gRow tx n y k (x + 1) (p + 1) (gPut f (8 * y + x) 1 (sgn tx n p - 48)))
def gAll (tx : Nat → Nat) (n : Nat) : Nat → Nat → Nat → (Nat → Nat) → Nat × Nat × (Nat → Nat)
  | 0, _, p, f => (0, p, f)
  | m + 1, y, p, f => if (gRow tx n y 9 0 p f).1 = 0 then gAll tx n m (y + 1) (gRow tx n y 9 0 p f).2.1 (gRow tx n y 9 0 p f).2.2 else gRow tx n y 9 0 p f
def hMx (f : Nat → Nat) : Nat → Nat
  | 0 => 0
  | k + 1 => max (hMx f k) (f k)
theorem gRow_le {tx : Nat → Nat} {n y : Nat} : ∀ k x p f, (∀ j, f j ≤ 9) → ∀ j, (gRow tx n y k x p f).2.2 j ≤ 9
  | 0, _, _, _, h => h
  | k + 1, x, p, f, h => by
    have hp : ∀ a t v, v ≤ 9 → ∀ j, gPut f a t v j ≤ 9 := fun a t v hv j => by unfold gPut; split <;> first | exact hv | exact h j
    unfold gRow
    split
    · repeat' split
      all_goals exact h
    · split
      · split
        · exact h
        · split
          · exact gRow_le k _ _ _ (hp _ _ _ (by omega))
          · exact h
      · split
        · exact h
        · exact gRow_le k _ _ _ (hp _ _ _ (by omega))
theorem gAll_le {tx : Nat → Nat} {n : Nat} : ∀ m y p f, (∀ j, f j ≤ 9) → ∀ j, (gAll tx n m y p f).2.2 j ≤ 9
  | 0, _, _, _, h => h
  | m + 1, y, p, f, h => by
    unfold gAll
    split
    · exact gAll_le m _ _ _ (gRow_le _ _ _ _ h)
    · exact gRow_le _ _ _ _ h
theorem hMx_le {f : Nat → Nat} (h : ∀ j, f j ≤ 9) : ∀ k, hMx f k ≤ 9
  | 0 => Nat.zero_le _
  | k + 1 => Nat.max_le.mpr ⟨hMx_le h k, h k⟩
theorem zQ_mono {G : zG} {M : zM} {d pc : Nat} {ls : List (Nat × Value)} {st : List Value} {cs : Nat × Nat} {sh : zS} {I : zI} {J : zJ} {Q Q' : zQ} (h : ∀ r sh I J, Q r sh I J → Q' r sh I J) (hV : V G M d Q pc ls st cs sh I J) : V G M d Q' pc ls st cs sh I J := by
  intro p e R s m args below meth c H locs la Z C E hR hS hl
  exact hV p e R s m args below meth c H locs la Z C (fun r sh I J H locs la pc c1 c2 hq => E r sh I J H locs la pc c1 c2 (h r sh I J hq)) hR hS hl
def zfi5 (v : Int32) (g : Nat → Int32) (a t : Nat) : Nat → Int32 := fun j => if a ≤ j ∧ j < a + t then v else g j
theorem zfi5_s {I : zI} {b a t : Nat} {v : Int32} : zwr (zup I b (zfi5 v (I b) a t)) b (a + t) v = zup I b (zfi5 v (I b) a (t + 1)) := by
  funext x j
  rw [zwr_at]
  by_cases hx : x = b
  · subst hx
    rw [zup_s, zup_s]
    unfold zfi5
    by_cases hj : j = a + t
    · subst hj; rw [if_pos ⟨rfl, rfl⟩, if_pos (by omega)]
    · rw [if_neg (fun h => hj h.2)]
      by_cases h2 : a ≤ j ∧ j < a + t
      · rw [if_pos h2, if_pos (by omega)]
      · rw [if_neg h2, if_neg (by omega)]
  · rw [if_neg (fun h => hx h.1), zup_n hx, zup_n hx]
theorem zfi5_0 {I : zI} {b a : Nat} {v : Int32} : zup I b (zfi5 v (I b) a 0) = I := by
  funext x j
  by_cases hx : x = b
  · subst hx; rw [zup_s]; unfold zfi5; rw [if_neg (by omega)]
  · rw [zup_n hx]
set_option maxRecDepth 100000 in
set_option maxHeartbeats 4000000 in
theorem lp_put5 {G : zG} {I : zI} {J : zJ} {a t : Nat} {v : Int32} (hat : a + t ≤ 64) : ∀ n i (I1 : zI), i + n = t → I1 = zup I 43 (zfi5 v (I 43) a i) → V G mX5_put 0 (zA2 (fun I' J' => I' = zup I 43 (zfi5 v (I 43) a t) ∧ J = J')) 3 [(0, .ref 41), (1, .int (nI a)), (2, .int (nI t)), (3, .int v), (4, .int (nI (a + i)))] [] (0, 0) zsh I1 J := by
  intro n
  induction n with
  | zero =>
    intro i I1 hi hI
    obtain rfl : i = t := by omega
    refine V_iload dX5_put_3 rfl ?_
    refine V_iload_n dX5_put_5 rfl ?_
    refine V_iload_n dX5_put_6 rfl ?_
    refine V_iaddN dX5_put_7 ?_
    refine V_icmp_geN (tgt := 37) dX5_put_8 rfl (by omega) (by omega) (fun _ => ?_) (fun h => absurd h (by omega))
    exact V_ret ⟨rfl, dX5_put_37⟩ ⟨Nat.le_of_ble_eq_true rfl, Nat.le_of_ble_eq_true rfl⟩ ⟨rfl, rfl, hI, rfl⟩
  | succ n ih =>
    intro i I1 hi hI
    refine V_iload dX5_put_3 rfl ?_
    refine V_iload_n dX5_put_5 rfl ?_
    refine V_iload_n dX5_put_6 rfl ?_
    refine V_iaddN dX5_put_7 ?_
    refine V_icmp_geN (tgt := 37) dX5_put_8 rfl (by omega) (by omega) (fun h => absurd h (by omega)) (fun _ => ?_)
    refine V_iload dX5_put_11 rfl ?_
    refine V_if_ltN (tgt := 37) dX5_put_13 rfl (by omega) ?_
    refine V_iload dX5_put_16 rfl ?_
    refine V_bipush (v := nI 64) dX5_put_18 rfl ?_
    refine V_icmp_geN (tgt := 37) dX5_put_20 rfl (by omega) (by omega) (fun h => absurd h (by omega)) (fun _ => ?_)
    refine V_aload_n dX5_put_23 rfl ?_
    refine V_getR (b := 43) dX5_put_24 fX5_15 ⟨Nat.le_of_ble_eq_true rfl, Nat.le_of_ble_eq_true rfl⟩ rfl rfl rfl ?_
    refine V_iload dX5_put_27 rfl ?_
    refine V_iload_n dX5_put_29 rfl ?_
    refine V_iastN (k := a + i) dX5_put_30 ⟨Nat.le_of_ble_eq_true rfl, Nat.le_of_ble_eq_true rfl⟩ rfl (by decide) (by omega) ?_
    refine V_iincN (ls' := [(4, .int (nI ((a + i) + 1))), (0, .ref 41), (1, .int (nI a)), (2, .int (nI t)), (3, .int v)]) (n := 1) dX5_put_31 rfl rfl (by decide) (by decide) rfl ?_
    refine V_goto (tgt := 3) dX5_put_34 rfl ?_
    refine V_sub2 (ls' := [(0, .ref 41), (1, .int (nI a)), (2, .int (nI t)), (3, .int v), (4, .int (nI ((a + i) + 1)))]) (List.forall_mem_cons.mpr ⟨rfl, List.forall_mem_cons.mpr ⟨rfl, List.forall_mem_cons.mpr ⟨rfl, List.forall_mem_cons.mpr ⟨rfl, List.forall_mem_cons.mpr ⟨rfl, fun _ h => absurd h List.not_mem_nil⟩⟩⟩⟩⟩) ?_
    exact ih (i + 1) _ (by omega) (by rw [hI]; exact zfi5_s)

set_option maxRecDepth 100000 in
set_option maxHeartbeats 4000000 in
theorem c_put5 {G : zG} {I : zI} {J : zJ} {a t : Nat} {v : Int32} (hat : a + t ≤ 64) : zK G mX5_put 0 [.ref 41, .int (nI a), .int (nI t), .int v] zsh I J (zA2 (fun I' J' => I' = zup I 43 (zfi5 v (I 43) a t) ∧ J = J')) := by
  refine zK_of kX5_put.2.2.2.2.1 (Nat.le_of_ble_eq_true rfl) ?_
  show V G mX5_put 0 _ 0 [(0, .ref 41), (1, .int (nI a)), (2, .int (nI t)), (3, .int v)] [] (0, 0) zsh I J
  refine V_iload_n dX5_put_0 rfl ?_
  refine V_istore (ls' := [(4, .int (nI a)), (0, .ref 41), (1, .int (nI a)), (2, .int (nI t)), (3, .int v)]) dX5_put_1 (by decide) rfl ?_
  refine V_sub2 (ls' := [(0, .ref 41), (1, .int (nI a)), (2, .int (nI t)), (3, .int v), (4, .int (nI a))]) (List.forall_mem_cons.mpr ⟨rfl, List.forall_mem_cons.mpr ⟨rfl, List.forall_mem_cons.mpr ⟨rfl, List.forall_mem_cons.mpr ⟨rfl, List.forall_mem_cons.mpr ⟨rfl, fun _ h => absurd h List.not_mem_nil⟩⟩⟩⟩⟩) ?_
  exact lp_put5 hat t 0 I (by omega) zfi5_0.symm

set_option maxRecDepth 100000 in
set_option maxHeartbeats 4000000 in
theorem c_refuse5 {G : zG} {I : zI} {J : zJ} {fc p : Nat} : zK G mX5_refuse 0 [.ref 41, .int (nI fc), .int (nI p)] zsh I J (zA1 (.int (nI p)) (fun I' J' => I' = zwr I 41 2 (fltI fc p) ∧ J = J')) := by
  refine zK_of kX5_refuse.2.2.2.2.1 (Nat.le_of_ble_eq_true rfl) ?_
  show V G mX5_refuse 0 _ 0 [(0, .ref 41), (1, .int (nI fc)), (2, .int (nI p))] [] (0, 0) zsh I J
  refine V_aload_n dX5_refuse_0 rfl ?_
  refine V_sipush (v := (-1000)) dX5_refuse_1 rfl ?_
  refine V_iload_n dX5_refuse_4 rfl ?_
  refine V_imul dX5_refuse_5 ?_
  refine V_iload_n dX5_refuse_6 rfl ?_
  refine V_isub dX5_refuse_7 ?_
  refine V_putW dX5_refuse_8 fX5_22 ⟨Nat.le_of_ble_eq_true rfl, Nat.le_of_ble_eq_true rfl⟩ rfl rfl rfl ⟨rfl, rfl⟩ ?_
  refine V_iload_n dX5_refuse_11 rfl ?_
  exact V_iret ⟨Or.inl rfl, dX5_refuse_12⟩ ⟨Nat.le_of_ble_eq_true rfl, Nat.le_of_ble_eq_true rfl⟩ ⟨rfl, rfl, rfl, rfl⟩

set_option maxRecDepth 100000 in
set_option maxHeartbeats 4000000 in
theorem c_signAtY {G : zG} {I : zI} {J : zJ} {n p : Nat} (hp : p < n) (hn : n ≤ 260) : zK G mX5_signAt 0 [.ref 4, .int (nI n), .int (nI p)] zsh I J (zA0 (.int (nI (txI (I 4) p))) I J) := by
  refine zK_of kX5_signAt.2.2.2.2.1 (Nat.le_of_ble_eq_true rfl) ?_
  show V G mX5_signAt 0 _ 0 [(0, .ref 4), (1, .int (nI n)), (2, .int (nI p))] [] (0, 0) zsh I J
  refine V_iload_n dX5_signAt_0 rfl ?_
  refine V_if_ltN (tgt := 25) dX5_signAt_1 rfl (by omega) ?_
  refine V_iload_n dX5_signAt_4 rfl ?_
  refine V_iload_n dX5_signAt_5 rfl ?_
  refine V_icmp_geN (tgt := 25) dX5_signAt_6 rfl (by omega) (by omega) (fun h => absurd h (by omega)) (fun _ => ?_)
  refine V_iload_n dX5_signAt_9 rfl ?_
  refine V_aload_n dX5_signAt_10 rfl ?_
  refine V_alen (v := nI 260) dX5_signAt_11 ⟨Nat.le_of_ble_eq_true rfl, Nat.le_of_ble_eq_true rfl⟩ rfl (by decide) rfl ?_
  refine V_icmp_geN (tgt := 25) dX5_signAt_12 rfl (by omega) (by omega) (fun h => absurd h (by omega)) (fun _ => ?_)
  refine V_aload_n dX5_signAt_15 rfl ?_
  refine V_iload_n dX5_signAt_16 rfl ?_
  refine V_baldN (k := p) dX5_signAt_17 ⟨Nat.le_of_ble_eq_true rfl, Nat.le_of_ble_eq_true rfl⟩ rfl (by decide) (by omega) ?_
  refine V_sipush (v := nI 255) dX5_signAt_18 rfl ?_
  refine V_iand dX5_signAt_21 (V_eqI (y := nI (txI (I 4) p)) txI_and ?_)
  refine V_goto (tgt := 26) dX5_signAt_22 rfl ?_
  exact V_iret ⟨Or.inl rfl, dX5_signAt_26⟩ ⟨Nat.le_of_ble_eq_true rfl, Nat.le_of_ble_eq_true rfl⟩ ⟨rfl, rfl, rfl, rfl⟩

set_option maxRecDepth 100000 in
set_option maxHeartbeats 4000000 in
theorem c_signAtN {G : zG} {I : zI} {J : zJ} {n p : Nat} (hp : ¬ p < n) (hp2 : p < 2 ^ 31) (hn : n ≤ 260) : zK G mX5_signAt 0 [.ref 4, .int (nI n), .int (nI p)] zsh I J (zA0 (.int (-1)) I J) := by
  refine zK_of kX5_signAt.2.2.2.2.1 (Nat.le_of_ble_eq_true rfl) ?_
  show V G mX5_signAt 0 _ 0 [(0, .ref 4), (1, .int (nI n)), (2, .int (nI p))] [] (0, 0) zsh I J
  refine V_iload_n dX5_signAt_0 rfl ?_
  refine V_if_ltN (tgt := 25) dX5_signAt_1 rfl (by omega) ?_
  refine V_iload_n dX5_signAt_4 rfl ?_
  refine V_iload_n dX5_signAt_5 rfl ?_
  refine V_icmp_geN (tgt := 25) dX5_signAt_6 rfl (by omega) (by omega) (fun _ => ?_) (fun h => absurd h (by omega))
  refine V_iconst (v := (-1)) dX5_signAt_25 rfl ?_
  exact V_iret ⟨Or.inl rfl, dX5_signAt_26⟩ ⟨Nat.le_of_ble_eq_true rfl, Nat.le_of_ble_eq_true rfl⟩ ⟨rfl, rfl, rfl, rfl⟩

set_option maxRecDepth 100000 in
set_option maxHeartbeats 4000000 in
theorem c_isDig {G : zG} {I : zI} {J : zJ} {c : Nat} (hc : c < 2 ^ 31) : zK G mX5_isDigit 0 [.int (nI c)] zsh I J (zA0 (.int (nI (if 48 ≤ c ∧ c ≤ 57 then 1 else 0))) I J) := by
  refine zK_of kX5_isDigit.2.2.2.2.1 (Nat.le_of_ble_eq_true rfl) ?_
  show V G mX5_isDigit 0 _ 0 [(0, .int (nI c))] [] (0, 0) zsh I J
  refine V_iload_n dX5_isDigit_0 rfl ?_
  refine V_bipush (v := nI 48) dX5_isDigit_1 rfl ?_
  refine V_icmp_ltN (tgt := 16) dX5_isDigit_3 rfl (by omega) (by omega) (fun h3 => ?_) (fun h3 => ?_)
  · skip
    refine V_iconst (v := nI 0) dX5_isDigit_16 rfl ?_
    exact V_iret ⟨Or.inr ⟨rfl, Or.inl rfl⟩, dX5_isDigit_17⟩ ⟨Nat.le_of_ble_eq_true rfl, Nat.le_of_ble_eq_true rfl⟩ ⟨rfl, congrArg (fun z => some (Value.int (nI z))) (by split <;> omega), rfl, rfl⟩
  · skip
    refine V_iload_n dX5_isDigit_6 rfl ?_
    refine V_bipush (v := nI 57) dX5_isDigit_7 rfl ?_
    refine V_icmp_gtN (tgt := 16) dX5_isDigit_9 rfl (by omega) (by omega) (fun h9 => ?_) (fun h9 => ?_)
    · skip
      refine V_iconst (v := nI 0) dX5_isDigit_16 rfl ?_
      exact V_iret ⟨Or.inr ⟨rfl, Or.inl rfl⟩, dX5_isDigit_17⟩ ⟨Nat.le_of_ble_eq_true rfl, Nat.le_of_ble_eq_true rfl⟩ ⟨rfl, congrArg (fun z => some (Value.int (nI z))) (by split <;> omega), rfl, rfl⟩
    · skip
      refine V_iconst (v := nI 1) dX5_isDigit_12 rfl ?_
      refine V_goto (tgt := 17) dX5_isDigit_13 rfl ?_
      exact V_iret ⟨Or.inr ⟨rfl, Or.inr rfl⟩, dX5_isDigit_17⟩ ⟨Nat.le_of_ble_eq_true rfl, Nat.le_of_ble_eq_true rfl⟩ ⟨rfl, congrArg (fun z => some (Value.int (nI z))) (by split <;> omega), rfl, rfl⟩

set_option maxRecDepth 100000 in
set_option maxHeartbeats 4000000 in
theorem c_isDigN {G : zG} {I : zI} {J : zJ}  : zK G mX5_isDigit 0 [.int (-1)] zsh I J (zA0 (.int (nI 0)) I J) := by
  refine zK_of kX5_isDigit.2.2.2.2.1 (Nat.le_of_ble_eq_true rfl) ?_
  show V G mX5_isDigit 0 _ 0 [(0, .int (-1))] [] (0, 0) zsh I J
  refine V_iload_n dX5_isDigit_0 rfl ?_
  refine V_bipush (v := nI 48) dX5_isDigit_1 rfl ?_
  refine V_icmp_lt (tgt := 16) dX5_isDigit_3 rfl (fun _ => ?_) (fun h => absurd h (by decide))
  refine V_iconst (v := nI 0) dX5_isDigit_16 rfl ?_
  exact V_iret ⟨Or.inr ⟨rfl, Or.inl rfl⟩, dX5_isDigit_17⟩ ⟨Nat.le_of_ble_eq_true rfl, Nat.le_of_ble_eq_true rfl⟩ ⟨rfl, rfl, rfl, rfl⟩

theorem sgn_in {tx : Nat → Nat} {n p : Nat} (h : p < n) : sgn tx n p = tx p := if_pos h
theorem sgn_out {tx : Nat → Nat} {n p : Nat} (h : ¬ p < n) : sgn tx n p = 256 := if_neg h
set_option maxRecDepth 100000 in
set_option maxHeartbeats 4000000 in
theorem lp_readRow {G : zG} {I : zI} {J : zJ} {n y : Nat} (hn : n ≤ 120) (hy : y ≤ 7) {p0 : Nat} : ∀ k i x p f (I1 : zI), i + k = 9 → x ≤ 8 → p ≤ 200 + i → p + 2 * k ≤ 300 → (∀ a, a ≠ 41 → a ≠ 43 → I1 a = I a) → I1 41 = I 41 → (∀ k, k < 64 → I1 43 k = nI (f k)) → V G mX5_readRow 1 (zP (fun r I' J' => r = some (.int (nI (gRow (txI (I 4)) n y k x p f).2.1)) ∧ (∀ a, a ≠ 41 → a ≠ 43 → I' a = I a) ∧ (∀ j, j ≠ 2 → I' 41 j = I 41 j) ∧ I' 41 2 = (if (gRow (txI (I 4)) n y k x p f).1 = 0 then I 41 2 else fltI (gRow (txI (I 4)) n y k x p f).1 (gRow (txI (I 4)) n y k x p f).2.1) ∧ (∀ j, j < 64 → I' 43 j = nI ((gRow (txI (I 4)) n y k x p f).2.2 j)) ∧ J = J')) 9 [(0, .ref 41), (1, .ref 4), (2, .int (nI n)), (3, .int (nI p0)), (4, .int (nI y)), (5, .int (nI x)), (6, .int (nI p)), (7, .int (nI i))] [] (0, 0) zsh I1 J := by
  intro k
  induction k with
  | zero =>
    intro i x p f I1 hi hx hp hpk ho h41 h43
    refine V_iload dX5_readRow_9 rfl ?_
    refine V_bipush (v := nI 8) dX5_readRow_11 rfl ?_
    refine V_icmp_gtN (tgt := 223) dX5_readRow_13 rfl (by omega) (by omega) (fun _ => ?_) (fun h => absurd h (by omega))
    refine V_iload dX5_readRow_223 rfl ?_
    exact V_iret ⟨Or.inl rfl, dX5_readRow_225⟩ ⟨Nat.le_of_ble_eq_true rfl, Nat.le_of_ble_eq_true rfl⟩ ⟨rfl, rfl, ho, fun j _ => congrFun h41 j, congrFun h41 2, h43, rfl⟩
  | succ k ih =>
    intro i x p f I1 hi hx hp hpk ho h41 h43
    by_cases hin : p < n
    · by_cases hin2 : p + 1 < n
      · skip
        refine V_iload dX5_readRow_9 rfl ?_
        refine V_bipush (v := nI 8) dX5_readRow_11 rfl ?_
        refine V_icmp_gtN (tgt := 223) dX5_readRow_13 rfl (by omega) (by omega) (fun h => absurd h (by omega)) (fun _ => ?_)
        refine V_aload_n dX5_readRow_16 rfl ?_
        refine V_iload_n dX5_readRow_17 rfl ?_
        refine V_iload dX5_readRow_18 rfl ?_
        refine V_callS (As := [.ref 4, .int (nI n), .int (nI p)]) (st := []) dX5_readRow_20 kX5_signAt lX5_45 (by decide) rfl rfl (Nat.le_of_ble_eq_true rfl) ⟨Nat.le_of_ble_eq_true rfl, Nat.le_of_ble_eq_true rfl⟩ (c_signAtY (I := I1) hin (by omega)) ?_
        rintro _ _ _ _ ⟨rfl, rfl, rfl, rfl⟩
        have e4 : I1 4 = I 4 := ho 4 (by decide) (by decide)
        rw [e4]
        have htp := txI_lt (f := I 4) (p := p)
        refine V_istore (ls' := [(8, .int (nI (txI (I 4) p))), (0, .ref 41), (1, .ref 4), (2, .int (nI n)), (3, .int (nI p0)), (4, .int (nI y)), (5, .int (nI x)), (6, .int (nI p)), (7, .int (nI i))]) dX5_readRow_23 (by decide) rfl ?_
        refine V_iload dX5_readRow_25 rfl ?_
        refine V_bipush (v := nI 97) dX5_readRow_27 rfl ?_
        refine V_icmp_ltN (tgt := 43) dX5_readRow_29 rfl (by omega) (by omega) (fun h29 => ?_) (fun h29 => ?_)
        · skip
          refine V_iconst (v := nI 0) dX5_readRow_43 rfl ?_
          refine V_istore (ls' := [(9, .int (nI 0)), (8, .int (nI (txI (I 4) p))), (0, .ref 41), (1, .ref 4), (2, .int (nI n)), (3, .int (nI p0)), (4, .int (nI y)), (5, .int (nI x)), (6, .int (nI p)), (7, .int (nI i))]) dX5_readRow_44 (by decide) rfl ?_
          refine V_iload dX5_readRow_46 rfl ?_
          refine V_if_ne (tgt := 111) dX5_readRow_48 rfl (fun h => absurd h (by decide)) (fun _ => ?_)
          refine V_iload dX5_readRow_51 rfl ?_
          refine V_callS (As := [.int (nI (txI (I 4) p))]) (st := []) dX5_readRow_53 kX5_isDigit lX5_49 (by decide) rfl rfl (Nat.le_of_ble_eq_true rfl) ⟨Nat.le_of_ble_eq_true rfl, Nat.le_of_ble_eq_true rfl⟩ (c_isDig (by omega)) ?_
          rintro _ _ _ _ ⟨rfl, rfl, rfl, rfl⟩
          by_cases hdg56 : 48 ≤ txI (I 4) p ∧ txI (I 4) p ≤ 57
          · skip
            refine V_eqI (y := nI 1) (congrArg nI (if_pos hdg56)) ?_
            refine V_if_ne (tgt := 111) dX5_readRow_56 rfl (fun _ => ?_) (fun h => absurd h (by decide))
            refine V_iload dX5_readRow_111 rfl ?_
            refine V_if_eq (tgt := 126) dX5_readRow_113 rfl (fun _ => ?_) (fun h => absurd h (by decide))
            refine V_iconst (v := nI 1) dX5_readRow_126 rfl ?_
            refine V_istore (ls' := [(10, .int (nI 1)), (9, .int (nI 0)), (8, .int (nI (txI (I 4) p))), (0, .ref 41), (1, .ref 4), (2, .int (nI n)), (3, .int (nI p0)), (4, .int (nI y)), (5, .int (nI x)), (6, .int (nI p)), (7, .int (nI i))]) dX5_readRow_127 (by decide) rfl ?_
            refine V_iload dX5_readRow_129 rfl ?_
            refine V_iload dX5_readRow_131 rfl ?_
            refine V_iaddN dX5_readRow_133 ?_
            refine V_bipush (v := nI 8) dX5_readRow_134 rfl ?_
            refine V_icmp_leN (tgt := 148) dX5_readRow_136 rfl (by omega) (by omega) (fun h136 => ?_) (fun h136 => ?_)
            · skip
              refine V_iload dX5_readRow_148 rfl ?_
              refine V_iload dX5_readRow_150 rfl ?_
              refine V_if_eq (tgt := 159) dX5_readRow_152 rfl (fun _ => ?_) (fun h => absurd h (by decide))
              refine V_iconst (v := nI 0) dX5_readRow_159 rfl ?_
              refine V_iaddN dX5_readRow_160 ?_
              refine V_eqI (y := nI p) rfl ?_
              refine V_istore (ls' := [(6, .int (nI p)), (10, .int (nI 1)), (9, .int (nI 0)), (8, .int (nI (txI (I 4) p))), (0, .ref 41), (1, .ref 4), (2, .int (nI n)), (3, .int (nI p0)), (4, .int (nI y)), (5, .int (nI x)), (7, .int (nI i))]) dX5_readRow_161 (by decide) rfl ?_
              refine V_aload_n dX5_readRow_163 rfl ?_
              refine V_iload_n dX5_readRow_164 rfl ?_
              refine V_iload dX5_readRow_165 rfl ?_
              refine V_callS (As := [.ref 4, .int (nI n), .int (nI p)]) (st := []) dX5_readRow_167 kX5_signAt lX5_45 (by decide) rfl rfl (Nat.le_of_ble_eq_true rfl) ⟨Nat.le_of_ble_eq_true rfl, Nat.le_of_ble_eq_true rfl⟩ (c_signAtY (I := I1) hin (by omega)) ?_
              rintro _ _ _ _ ⟨rfl, rfl, rfl, rfl⟩
              have e4 : I1 4 = I 4 := ho 4 (by decide) (by decide)
              rw [e4]
              have htp := txI_lt (f := I 4) (p := p)
              refine V_istore (ls' := [(11, .int (nI (txI (I 4) p))), (6, .int (nI p)), (10, .int (nI 1)), (9, .int (nI 0)), (8, .int (nI (txI (I 4) p))), (0, .ref 41), (1, .ref 4), (2, .int (nI n)), (3, .int (nI p0)), (4, .int (nI y)), (5, .int (nI x)), (7, .int (nI i))]) dX5_readRow_170 (by decide) rfl ?_
              refine V_iload dX5_readRow_172 rfl ?_
              refine V_callS (As := [.int (nI (txI (I 4) p))]) (st := []) dX5_readRow_174 kX5_isDigit lX5_49 (by decide) rfl rfl (Nat.le_of_ble_eq_true rfl) ⟨Nat.le_of_ble_eq_true rfl, Nat.le_of_ble_eq_true rfl⟩ (c_isDig (by omega)) ?_
              rintro _ _ _ _ ⟨rfl, rfl, rfl, rfl⟩
              by_cases hdg177 : 48 ≤ txI (I 4) p ∧ txI (I 4) p ≤ 57
              · skip
                refine V_eqI (y := nI 1) (congrArg nI (if_pos hdg177)) ?_
                refine V_if_ne (tgt := 188) dX5_readRow_177 rfl (fun _ => ?_) (fun h => absurd h (by decide))
                refine V_aload_n dX5_readRow_188 rfl ?_
                refine V_bipush (v := nI 8) dX5_readRow_189 rfl ?_
                refine V_iload dX5_readRow_191 rfl ?_
                refine V_imulN dX5_readRow_193 ?_
                refine V_iload dX5_readRow_194 rfl ?_
                refine V_iaddN dX5_readRow_196 ?_
                refine V_iload dX5_readRow_197 rfl ?_
                refine V_iload dX5_readRow_199 rfl ?_
                refine V_bipush (v := nI 48) dX5_readRow_201 rfl ?_
                refine V_isubN dX5_readRow_203 (by omega) ?_
                refine V_callV (As := [.int (nI ((8 * y) + x)), .int (nI 1), .int (nI (txI (I 4) p - 48))]) (st := []) (a := 41) dX5_readRow_204 kX5_put lX5_56 (by decide) rfl rfl (Nat.le_of_ble_eq_true rfl) ⟨Nat.le_of_ble_eq_true rfl, Nat.le_of_ble_eq_true rfl⟩ ⟨Nat.le_of_ble_eq_true rfl, Nat.le_of_ble_eq_true rfl⟩ rfl ⟨rfl, by decide⟩ (c_put5 (by omega)) ?_
                rintro _ _ _ _ ⟨rfl, rfl, rfl, rfl⟩
                refine V_iload dX5_readRow_207 rfl ?_
                refine V_iload dX5_readRow_209 rfl ?_
                refine V_iaddN dX5_readRow_211 ?_
                refine V_istore (ls' := [(5, .int (nI (x + 1))), (11, .int (nI (txI (I 4) p))), (6, .int (nI p)), (10, .int (nI 1)), (9, .int (nI 0)), (8, .int (nI (txI (I 4) p))), (0, .ref 41), (1, .ref 4), (2, .int (nI n)), (3, .int (nI p0)), (4, .int (nI y)), (7, .int (nI i))]) dX5_readRow_212 (by decide) rfl ?_
                refine V_iincN (ls' := [(6, .int (nI (p + 1))), (5, .int (nI (x + 1))), (11, .int (nI (txI (I 4) p))), (10, .int (nI 1)), (9, .int (nI 0)), (8, .int (nI (txI (I 4) p))), (0, .ref 41), (1, .ref 4), (2, .int (nI n)), (3, .int (nI p0)), (4, .int (nI y)), (7, .int (nI i))]) (n := 1) dX5_readRow_214 rfl rfl (by decide) (by decide) rfl ?_
                refine V_iincN (ls' := [(7, .int (nI (i + 1))), (6, .int (nI (p + 1))), (5, .int (nI (x + 1))), (11, .int (nI (txI (I 4) p))), (10, .int (nI 1)), (9, .int (nI 0)), (8, .int (nI (txI (I 4) p))), (0, .ref 41), (1, .ref 4), (2, .int (nI n)), (3, .int (nI p0)), (4, .int (nI y))]) (n := 1) dX5_readRow_217 rfl rfl (by decide) (by decide) rfl ?_
                refine V_goto (tgt := 9) dX5_readRow_220 rfl ?_
                refine V_sub2 (ls' := [(0, .ref 41), (1, .ref 4), (2, .int (nI n)), (3, .int (nI p0)), (4, .int (nI y)), (5, .int (nI (x + 1))), (6, .int (nI (p + 1))), (7, .int (nI (i + 1)))]) (List.forall_mem_cons.mpr ⟨rfl, List.forall_mem_cons.mpr ⟨rfl, List.forall_mem_cons.mpr ⟨rfl, List.forall_mem_cons.mpr ⟨rfl, List.forall_mem_cons.mpr ⟨rfl, List.forall_mem_cons.mpr ⟨rfl, List.forall_mem_cons.mpr ⟨rfl, List.forall_mem_cons.mpr ⟨rfl, fun _ h => absurd h List.not_mem_nil⟩⟩⟩⟩⟩⟩⟩⟩) ?_
                have e : gRow (txI (I 4)) n y (k + 1) x p f = gRow (txI (I 4)) n y k (x + 1) (p + 1) (gPut f ((8 * y) + x) (1) (txI (I 4) p - 48)) := by
                  first
                  | (exfalso; omega; done)
                  | (conv => lhs; unfold gRow
                     rw [sgn_in hin, sgn_in hin2]
                     (repeat' first | rw [if_pos (by omega)] | rw [if_neg (by omega)]))
                rw [e]
                refine ih (i + 1) (x + 1) (p + 1) _ _ (by omega) (by omega) (by omega) (by omega) (fun a h1 h2 => (zup_n h2).trans (ho a h1 h2)) ((zup_n (by decide)).trans h41) ?_
                intro j hj
                rw [zup_s]
                unfold zfi5 gPut
                by_cases hj2 : (8 * y) + x ≤ j ∧ j < (8 * y) + x + 1
                · rw [if_pos hj2, if_pos hj2]
                · rw [if_neg hj2, if_neg hj2]; exact h43 j hj
              · skip
                refine V_eqI (y := nI 0) (congrArg nI (if_neg hdg177)) ?_
                refine V_if_ne (tgt := 188) dX5_readRow_177 rfl (fun h => absurd rfl h) (fun _ => ?_)
                refine V_aload_n dX5_readRow_180 rfl ?_
                refine V_iconst (v := nI 1) dX5_readRow_181 rfl ?_
                refine V_iload dX5_readRow_182 rfl ?_
                refine V_callV (As := [.int (nI 1), .int (nI p)]) (st := []) (a := 41) dX5_readRow_184 kX5_refuse lX5_53 (by decide) rfl rfl (Nat.le_of_ble_eq_true rfl) ⟨Nat.le_of_ble_eq_true rfl, Nat.le_of_ble_eq_true rfl⟩ ⟨Nat.le_of_ble_eq_true rfl, Nat.le_of_ble_eq_true rfl⟩ rfl ⟨rfl, by decide⟩ c_refuse5 ?_
                rintro _ _ _ _ ⟨rfl, rfl, rfl, rfl⟩
                exact V_iret ⟨Or.inl rfl, dX5_readRow_187⟩ ⟨Nat.le_of_ble_eq_true rfl, Nat.le_of_ble_eq_true rfl⟩ (by first | (exfalso; omega; done) | exact (by have e : gRow (txI (I 4)) n y (k + 1) x p f = (_, _, f) := (by unfold gRow; rw [sgn_in hin, sgn_in hin2]; (repeat' first | rw [if_pos (by omega)] | rw [if_neg (by omega)]) <;> rfl); rw [e]; exact ⟨rfl, rfl, fun a h1 h2 => (zup_n h1).trans (ho a h1 h2), fun j hj => zwr_at.trans ((if_neg (fun h => hj h.2)).trans (congrFun h41 j)), zwr_at.trans (if_pos ⟨rfl, rfl⟩), h43, rfl⟩))
            · skip
              refine V_aload_n dX5_readRow_139 rfl ?_
              refine V_bipush (v := nI 6) dX5_readRow_140 rfl ?_
              refine V_iload dX5_readRow_142 rfl ?_
              refine V_callV (As := [.int (nI 6), .int (nI p)]) (st := []) (a := 41) dX5_readRow_144 kX5_refuse lX5_53 (by decide) rfl rfl (Nat.le_of_ble_eq_true rfl) ⟨Nat.le_of_ble_eq_true rfl, Nat.le_of_ble_eq_true rfl⟩ ⟨Nat.le_of_ble_eq_true rfl, Nat.le_of_ble_eq_true rfl⟩ rfl ⟨rfl, by decide⟩ c_refuse5 ?_
              rintro _ _ _ _ ⟨rfl, rfl, rfl, rfl⟩
              exact V_iret ⟨Or.inl rfl, dX5_readRow_147⟩ ⟨Nat.le_of_ble_eq_true rfl, Nat.le_of_ble_eq_true rfl⟩ (by first | (exfalso; omega; done) | exact (by have e : gRow (txI (I 4)) n y (k + 1) x p f = (_, _, f) := (by unfold gRow; rw [sgn_in hin, sgn_in hin2]; (repeat' first | rw [if_pos (by omega)] | rw [if_neg (by omega)]) <;> rfl); rw [e]; exact ⟨rfl, rfl, fun a h1 h2 => (zup_n h1).trans (ho a h1 h2), fun j hj => zwr_at.trans ((if_neg (fun h => hj h.2)).trans (congrFun h41 j)), zwr_at.trans (if_pos ⟨rfl, rfl⟩), h43, rfl⟩))
          · skip
            refine V_eqI (y := nI 0) (congrArg nI (if_neg hdg56)) ?_
            refine V_if_ne (tgt := 111) dX5_readRow_56 rfl (fun h => absurd rfl h) (fun _ => ?_)
            refine V_iload dX5_readRow_59 rfl ?_
            refine V_iload dX5_readRow_61 rfl ?_
            refine V_bipush (v := nI 7) dX5_readRow_63 rfl ?_
            refine V_icmp_neN (tgt := 72) dX5_readRow_65 rfl (by omega) (by omega) (fun h65 => ?_) (fun h65 => ?_)
            · skip
              refine V_bipush (v := nI 47) dX5_readRow_72 rfl ?_
              refine V_icmp_neN (tgt := 81) dX5_readRow_74 rfl (by omega) (by omega) (fun h74 => ?_) (fun h74 => ?_)
              · skip
                refine V_iconst (v := nI 0) dX5_readRow_81 rfl ?_
                refine V_istore (ls' := [(10, .int (nI 0)), (9, .int (nI 0)), (8, .int (nI (txI (I 4) p))), (0, .ref 41), (1, .ref 4), (2, .int (nI n)), (3, .int (nI p0)), (4, .int (nI y)), (5, .int (nI x)), (6, .int (nI p)), (7, .int (nI i))]) dX5_readRow_82 (by decide) rfl ?_
                refine V_iload dX5_readRow_84 rfl ?_
                refine V_bipush (v := nI 8) dX5_readRow_86 rfl ?_
                refine V_icmp_neN (tgt := 103) dX5_readRow_88 rfl (by omega) (by omega) (fun h88 => ?_) (fun h88 => ?_)
                · skip
                  refine V_aload_n dX5_readRow_103 rfl ?_
                  refine V_iconst (v := nI 1) dX5_readRow_104 rfl ?_
                  refine V_iload dX5_readRow_105 rfl ?_
                  refine V_callV (As := [.int (nI 1), .int (nI p)]) (st := []) (a := 41) dX5_readRow_107 kX5_refuse lX5_53 (by decide) rfl rfl (Nat.le_of_ble_eq_true rfl) ⟨Nat.le_of_ble_eq_true rfl, Nat.le_of_ble_eq_true rfl⟩ ⟨Nat.le_of_ble_eq_true rfl, Nat.le_of_ble_eq_true rfl⟩ rfl ⟨rfl, by decide⟩ c_refuse5 ?_
                  rintro _ _ _ _ ⟨rfl, rfl, rfl, rfl⟩
                  exact V_iret ⟨Or.inl rfl, dX5_readRow_110⟩ ⟨Nat.le_of_ble_eq_true rfl, Nat.le_of_ble_eq_true rfl⟩ (by first | (exfalso; omega; done) | exact (by have e : gRow (txI (I 4)) n y (k + 1) x p f = (_, _, f) := (by unfold gRow; rw [sgn_in hin, sgn_in hin2]; (repeat' first | rw [if_pos (by omega)] | rw [if_neg (by omega)]) <;> rfl); rw [e]; exact ⟨rfl, rfl, fun a h1 h2 => (zup_n h1).trans (ho a h1 h2), fun j hj => zwr_at.trans ((if_neg (fun h => hj h.2)).trans (congrFun h41 j)), zwr_at.trans (if_pos ⟨rfl, rfl⟩), h43, rfl⟩))
                · skip
                  refine V_iload dX5_readRow_91 rfl ?_
                  refine V_if_eq (tgt := 103) dX5_readRow_93 rfl (fun _ => ?_) (fun h => absurd h (by decide))
                  refine V_aload_n dX5_readRow_103 rfl ?_
                  refine V_iconst (v := nI 1) dX5_readRow_104 rfl ?_
                  refine V_iload dX5_readRow_105 rfl ?_
                  refine V_callV (As := [.int (nI 1), .int (nI p)]) (st := []) (a := 41) dX5_readRow_107 kX5_refuse lX5_53 (by decide) rfl rfl (Nat.le_of_ble_eq_true rfl) ⟨Nat.le_of_ble_eq_true rfl, Nat.le_of_ble_eq_true rfl⟩ ⟨Nat.le_of_ble_eq_true rfl, Nat.le_of_ble_eq_true rfl⟩ rfl ⟨rfl, by decide⟩ c_refuse5 ?_
                  rintro _ _ _ _ ⟨rfl, rfl, rfl, rfl⟩
                  exact V_iret ⟨Or.inl rfl, dX5_readRow_110⟩ ⟨Nat.le_of_ble_eq_true rfl, Nat.le_of_ble_eq_true rfl⟩ (by first | (exfalso; omega; done) | exact (by have e : gRow (txI (I 4)) n y (k + 1) x p f = (_, _, f) := (by unfold gRow; rw [sgn_in hin, sgn_in hin2]; (repeat' first | rw [if_pos (by omega)] | rw [if_neg (by omega)]) <;> rfl); rw [e]; exact ⟨rfl, rfl, fun a h1 h2 => (zup_n h1).trans (ho a h1 h2), fun j hj => zwr_at.trans ((if_neg (fun h => hj h.2)).trans (congrFun h41 j)), zwr_at.trans (if_pos ⟨rfl, rfl⟩), h43, rfl⟩))
              · skip
                refine V_iconst (v := nI 1) dX5_readRow_77 rfl ?_
                refine V_goto (tgt := 82) dX5_readRow_78 rfl ?_
                refine V_istore (ls' := [(10, .int (nI 1)), (9, .int (nI 0)), (8, .int (nI (txI (I 4) p))), (0, .ref 41), (1, .ref 4), (2, .int (nI n)), (3, .int (nI p0)), (4, .int (nI y)), (5, .int (nI x)), (6, .int (nI p)), (7, .int (nI i))]) dX5_readRow_82 (by decide) rfl ?_
                refine V_iload dX5_readRow_84 rfl ?_
                refine V_bipush (v := nI 8) dX5_readRow_86 rfl ?_
                refine V_icmp_neN (tgt := 103) dX5_readRow_88 rfl (by omega) (by omega) (fun h88 => ?_) (fun h88 => ?_)
                · skip
                  refine V_aload_n dX5_readRow_103 rfl ?_
                  refine V_iconst (v := nI 1) dX5_readRow_104 rfl ?_
                  refine V_iload dX5_readRow_105 rfl ?_
                  refine V_callV (As := [.int (nI 1), .int (nI p)]) (st := []) (a := 41) dX5_readRow_107 kX5_refuse lX5_53 (by decide) rfl rfl (Nat.le_of_ble_eq_true rfl) ⟨Nat.le_of_ble_eq_true rfl, Nat.le_of_ble_eq_true rfl⟩ ⟨Nat.le_of_ble_eq_true rfl, Nat.le_of_ble_eq_true rfl⟩ rfl ⟨rfl, by decide⟩ c_refuse5 ?_
                  rintro _ _ _ _ ⟨rfl, rfl, rfl, rfl⟩
                  exact V_iret ⟨Or.inl rfl, dX5_readRow_110⟩ ⟨Nat.le_of_ble_eq_true rfl, Nat.le_of_ble_eq_true rfl⟩ (by first | (exfalso; omega; done) | exact (by have e : gRow (txI (I 4)) n y (k + 1) x p f = (_, _, f) := (by unfold gRow; rw [sgn_in hin, sgn_in hin2]; (repeat' first | rw [if_pos (by omega)] | rw [if_neg (by omega)]) <;> rfl); rw [e]; exact ⟨rfl, rfl, fun a h1 h2 => (zup_n h1).trans (ho a h1 h2), fun j hj => zwr_at.trans ((if_neg (fun h => hj h.2)).trans (congrFun h41 j)), zwr_at.trans (if_pos ⟨rfl, rfl⟩), h43, rfl⟩))
                · skip
                  refine V_iload dX5_readRow_91 rfl ?_
                  refine V_if_eq (tgt := 103) dX5_readRow_93 rfl (fun h => absurd h (by decide)) (fun _ => ?_)
                  refine V_iload dX5_readRow_96 rfl ?_
                  refine V_iconst (v := nI 1) dX5_readRow_98 rfl ?_
                  refine V_iaddN dX5_readRow_99 ?_
                  refine V_goto (tgt := 110) dX5_readRow_100 rfl ?_
                  exact V_iret ⟨Or.inl rfl, dX5_readRow_110⟩ ⟨Nat.le_of_ble_eq_true rfl, Nat.le_of_ble_eq_true rfl⟩ (by first | (exfalso; omega; done) | exact (by have e : gRow (txI (I 4)) n y (k + 1) x p f = (0, p + 1, f) := (by unfold gRow; rw [sgn_in hin, sgn_in hin2]; (repeat' first | rw [if_pos (by omega)] | rw [if_neg (by omega)]) <;> rfl); rw [e]; exact ⟨rfl, rfl, ho, fun j _ => congrFun h41 j, congrFun h41 2, h43, rfl⟩))
            · skip
              refine V_iconst (v := (-1)) dX5_readRow_68 rfl ?_
              refine V_goto (tgt := 74) dX5_readRow_69 rfl ?_
              refine V_icmp_ne (tgt := 81) dX5_readRow_74 rfl (fun _ => ?_) (fun h => absurd h (nI_ne_neg (by omega) (by decide)))
              refine V_iconst (v := nI 0) dX5_readRow_81 rfl ?_
              refine V_istore (ls' := [(10, .int (nI 0)), (9, .int (nI 0)), (8, .int (nI (txI (I 4) p))), (0, .ref 41), (1, .ref 4), (2, .int (nI n)), (3, .int (nI p0)), (4, .int (nI y)), (5, .int (nI x)), (6, .int (nI p)), (7, .int (nI i))]) dX5_readRow_82 (by decide) rfl ?_
              refine V_iload dX5_readRow_84 rfl ?_
              refine V_bipush (v := nI 8) dX5_readRow_86 rfl ?_
              refine V_icmp_neN (tgt := 103) dX5_readRow_88 rfl (by omega) (by omega) (fun h88 => ?_) (fun h88 => ?_)
              · skip
                refine V_aload_n dX5_readRow_103 rfl ?_
                refine V_iconst (v := nI 1) dX5_readRow_104 rfl ?_
                refine V_iload dX5_readRow_105 rfl ?_
                refine V_callV (As := [.int (nI 1), .int (nI p)]) (st := []) (a := 41) dX5_readRow_107 kX5_refuse lX5_53 (by decide) rfl rfl (Nat.le_of_ble_eq_true rfl) ⟨Nat.le_of_ble_eq_true rfl, Nat.le_of_ble_eq_true rfl⟩ ⟨Nat.le_of_ble_eq_true rfl, Nat.le_of_ble_eq_true rfl⟩ rfl ⟨rfl, by decide⟩ c_refuse5 ?_
                rintro _ _ _ _ ⟨rfl, rfl, rfl, rfl⟩
                exact V_iret ⟨Or.inl rfl, dX5_readRow_110⟩ ⟨Nat.le_of_ble_eq_true rfl, Nat.le_of_ble_eq_true rfl⟩ (by first | (exfalso; omega; done) | exact (by have e : gRow (txI (I 4)) n y (k + 1) x p f = (_, _, f) := (by unfold gRow; rw [sgn_in hin, sgn_in hin2]; (repeat' first | rw [if_pos (by omega)] | rw [if_neg (by omega)]) <;> rfl); rw [e]; exact ⟨rfl, rfl, fun a h1 h2 => (zup_n h1).trans (ho a h1 h2), fun j hj => zwr_at.trans ((if_neg (fun h => hj h.2)).trans (congrFun h41 j)), zwr_at.trans (if_pos ⟨rfl, rfl⟩), h43, rfl⟩))
              · skip
                refine V_iload dX5_readRow_91 rfl ?_
                refine V_if_eq (tgt := 103) dX5_readRow_93 rfl (fun _ => ?_) (fun h => absurd h (by decide))
                refine V_aload_n dX5_readRow_103 rfl ?_
                refine V_iconst (v := nI 1) dX5_readRow_104 rfl ?_
                refine V_iload dX5_readRow_105 rfl ?_
                refine V_callV (As := [.int (nI 1), .int (nI p)]) (st := []) (a := 41) dX5_readRow_107 kX5_refuse lX5_53 (by decide) rfl rfl (Nat.le_of_ble_eq_true rfl) ⟨Nat.le_of_ble_eq_true rfl, Nat.le_of_ble_eq_true rfl⟩ ⟨Nat.le_of_ble_eq_true rfl, Nat.le_of_ble_eq_true rfl⟩ rfl ⟨rfl, by decide⟩ c_refuse5 ?_
                rintro _ _ _ _ ⟨rfl, rfl, rfl, rfl⟩
                exact V_iret ⟨Or.inl rfl, dX5_readRow_110⟩ ⟨Nat.le_of_ble_eq_true rfl, Nat.le_of_ble_eq_true rfl⟩ (by first | (exfalso; omega; done) | exact (by have e : gRow (txI (I 4)) n y (k + 1) x p f = (_, _, f) := (by unfold gRow; rw [sgn_in hin, sgn_in hin2]; (repeat' first | rw [if_pos (by omega)] | rw [if_neg (by omega)]) <;> rfl); rw [e]; exact ⟨rfl, rfl, fun a h1 h2 => (zup_n h1).trans (ho a h1 h2), fun j hj => zwr_at.trans ((if_neg (fun h => hj h.2)).trans (congrFun h41 j)), zwr_at.trans (if_pos ⟨rfl, rfl⟩), h43, rfl⟩))
        · skip
          refine V_iload dX5_readRow_32 rfl ?_
          refine V_bipush (v := nI 104) dX5_readRow_34 rfl ?_
          refine V_icmp_gtN (tgt := 43) dX5_readRow_36 rfl (by omega) (by omega) (fun h36 => ?_) (fun h36 => ?_)
          · skip
            refine V_iconst (v := nI 0) dX5_readRow_43 rfl ?_
            refine V_istore (ls' := [(9, .int (nI 0)), (8, .int (nI (txI (I 4) p))), (0, .ref 41), (1, .ref 4), (2, .int (nI n)), (3, .int (nI p0)), (4, .int (nI y)), (5, .int (nI x)), (6, .int (nI p)), (7, .int (nI i))]) dX5_readRow_44 (by decide) rfl ?_
            refine V_iload dX5_readRow_46 rfl ?_
            refine V_if_ne (tgt := 111) dX5_readRow_48 rfl (fun h => absurd h (by decide)) (fun _ => ?_)
            refine V_iload dX5_readRow_51 rfl ?_
            refine V_callS (As := [.int (nI (txI (I 4) p))]) (st := []) dX5_readRow_53 kX5_isDigit lX5_49 (by decide) rfl rfl (Nat.le_of_ble_eq_true rfl) ⟨Nat.le_of_ble_eq_true rfl, Nat.le_of_ble_eq_true rfl⟩ (c_isDig (by omega)) ?_
            rintro _ _ _ _ ⟨rfl, rfl, rfl, rfl⟩
            by_cases hdg56 : 48 ≤ txI (I 4) p ∧ txI (I 4) p ≤ 57
            · skip
              refine V_eqI (y := nI 1) (congrArg nI (if_pos hdg56)) ?_
              refine V_if_ne (tgt := 111) dX5_readRow_56 rfl (fun _ => ?_) (fun h => absurd h (by decide))
              refine V_iload dX5_readRow_111 rfl ?_
              refine V_if_eq (tgt := 126) dX5_readRow_113 rfl (fun _ => ?_) (fun h => absurd h (by decide))
              refine V_iconst (v := nI 1) dX5_readRow_126 rfl ?_
              refine V_istore (ls' := [(10, .int (nI 1)), (9, .int (nI 0)), (8, .int (nI (txI (I 4) p))), (0, .ref 41), (1, .ref 4), (2, .int (nI n)), (3, .int (nI p0)), (4, .int (nI y)), (5, .int (nI x)), (6, .int (nI p)), (7, .int (nI i))]) dX5_readRow_127 (by decide) rfl ?_
              refine V_iload dX5_readRow_129 rfl ?_
              refine V_iload dX5_readRow_131 rfl ?_
              refine V_iaddN dX5_readRow_133 ?_
              refine V_bipush (v := nI 8) dX5_readRow_134 rfl ?_
              refine V_icmp_leN (tgt := 148) dX5_readRow_136 rfl (by omega) (by omega) (fun h136 => ?_) (fun h136 => ?_)
              · skip
                refine V_iload dX5_readRow_148 rfl ?_
                refine V_iload dX5_readRow_150 rfl ?_
                refine V_if_eq (tgt := 159) dX5_readRow_152 rfl (fun _ => ?_) (fun h => absurd h (by decide))
                refine V_iconst (v := nI 0) dX5_readRow_159 rfl ?_
                refine V_iaddN dX5_readRow_160 ?_
                refine V_eqI (y := nI p) rfl ?_
                refine V_istore (ls' := [(6, .int (nI p)), (10, .int (nI 1)), (9, .int (nI 0)), (8, .int (nI (txI (I 4) p))), (0, .ref 41), (1, .ref 4), (2, .int (nI n)), (3, .int (nI p0)), (4, .int (nI y)), (5, .int (nI x)), (7, .int (nI i))]) dX5_readRow_161 (by decide) rfl ?_
                refine V_aload_n dX5_readRow_163 rfl ?_
                refine V_iload_n dX5_readRow_164 rfl ?_
                refine V_iload dX5_readRow_165 rfl ?_
                refine V_callS (As := [.ref 4, .int (nI n), .int (nI p)]) (st := []) dX5_readRow_167 kX5_signAt lX5_45 (by decide) rfl rfl (Nat.le_of_ble_eq_true rfl) ⟨Nat.le_of_ble_eq_true rfl, Nat.le_of_ble_eq_true rfl⟩ (c_signAtY (I := I1) hin (by omega)) ?_
                rintro _ _ _ _ ⟨rfl, rfl, rfl, rfl⟩
                have e4 : I1 4 = I 4 := ho 4 (by decide) (by decide)
                rw [e4]
                have htp := txI_lt (f := I 4) (p := p)
                refine V_istore (ls' := [(11, .int (nI (txI (I 4) p))), (6, .int (nI p)), (10, .int (nI 1)), (9, .int (nI 0)), (8, .int (nI (txI (I 4) p))), (0, .ref 41), (1, .ref 4), (2, .int (nI n)), (3, .int (nI p0)), (4, .int (nI y)), (5, .int (nI x)), (7, .int (nI i))]) dX5_readRow_170 (by decide) rfl ?_
                refine V_iload dX5_readRow_172 rfl ?_
                refine V_callS (As := [.int (nI (txI (I 4) p))]) (st := []) dX5_readRow_174 kX5_isDigit lX5_49 (by decide) rfl rfl (Nat.le_of_ble_eq_true rfl) ⟨Nat.le_of_ble_eq_true rfl, Nat.le_of_ble_eq_true rfl⟩ (c_isDig (by omega)) ?_
                rintro _ _ _ _ ⟨rfl, rfl, rfl, rfl⟩
                by_cases hdg177 : 48 ≤ txI (I 4) p ∧ txI (I 4) p ≤ 57
                · skip
                  refine V_eqI (y := nI 1) (congrArg nI (if_pos hdg177)) ?_
                  refine V_if_ne (tgt := 188) dX5_readRow_177 rfl (fun _ => ?_) (fun h => absurd h (by decide))
                  refine V_aload_n dX5_readRow_188 rfl ?_
                  refine V_bipush (v := nI 8) dX5_readRow_189 rfl ?_
                  refine V_iload dX5_readRow_191 rfl ?_
                  refine V_imulN dX5_readRow_193 ?_
                  refine V_iload dX5_readRow_194 rfl ?_
                  refine V_iaddN dX5_readRow_196 ?_
                  refine V_iload dX5_readRow_197 rfl ?_
                  refine V_iload dX5_readRow_199 rfl ?_
                  refine V_bipush (v := nI 48) dX5_readRow_201 rfl ?_
                  refine V_isubN dX5_readRow_203 (by omega) ?_
                  refine V_callV (As := [.int (nI ((8 * y) + x)), .int (nI 1), .int (nI (txI (I 4) p - 48))]) (st := []) (a := 41) dX5_readRow_204 kX5_put lX5_56 (by decide) rfl rfl (Nat.le_of_ble_eq_true rfl) ⟨Nat.le_of_ble_eq_true rfl, Nat.le_of_ble_eq_true rfl⟩ ⟨Nat.le_of_ble_eq_true rfl, Nat.le_of_ble_eq_true rfl⟩ rfl ⟨rfl, by decide⟩ (c_put5 (by omega)) ?_
                  rintro _ _ _ _ ⟨rfl, rfl, rfl, rfl⟩
                  refine V_iload dX5_readRow_207 rfl ?_
                  refine V_iload dX5_readRow_209 rfl ?_
                  refine V_iaddN dX5_readRow_211 ?_
                  refine V_istore (ls' := [(5, .int (nI (x + 1))), (11, .int (nI (txI (I 4) p))), (6, .int (nI p)), (10, .int (nI 1)), (9, .int (nI 0)), (8, .int (nI (txI (I 4) p))), (0, .ref 41), (1, .ref 4), (2, .int (nI n)), (3, .int (nI p0)), (4, .int (nI y)), (7, .int (nI i))]) dX5_readRow_212 (by decide) rfl ?_
                  refine V_iincN (ls' := [(6, .int (nI (p + 1))), (5, .int (nI (x + 1))), (11, .int (nI (txI (I 4) p))), (10, .int (nI 1)), (9, .int (nI 0)), (8, .int (nI (txI (I 4) p))), (0, .ref 41), (1, .ref 4), (2, .int (nI n)), (3, .int (nI p0)), (4, .int (nI y)), (7, .int (nI i))]) (n := 1) dX5_readRow_214 rfl rfl (by decide) (by decide) rfl ?_
                  refine V_iincN (ls' := [(7, .int (nI (i + 1))), (6, .int (nI (p + 1))), (5, .int (nI (x + 1))), (11, .int (nI (txI (I 4) p))), (10, .int (nI 1)), (9, .int (nI 0)), (8, .int (nI (txI (I 4) p))), (0, .ref 41), (1, .ref 4), (2, .int (nI n)), (3, .int (nI p0)), (4, .int (nI y))]) (n := 1) dX5_readRow_217 rfl rfl (by decide) (by decide) rfl ?_
                  refine V_goto (tgt := 9) dX5_readRow_220 rfl ?_
                  refine V_sub2 (ls' := [(0, .ref 41), (1, .ref 4), (2, .int (nI n)), (3, .int (nI p0)), (4, .int (nI y)), (5, .int (nI (x + 1))), (6, .int (nI (p + 1))), (7, .int (nI (i + 1)))]) (List.forall_mem_cons.mpr ⟨rfl, List.forall_mem_cons.mpr ⟨rfl, List.forall_mem_cons.mpr ⟨rfl, List.forall_mem_cons.mpr ⟨rfl, List.forall_mem_cons.mpr ⟨rfl, List.forall_mem_cons.mpr ⟨rfl, List.forall_mem_cons.mpr ⟨rfl, List.forall_mem_cons.mpr ⟨rfl, fun _ h => absurd h List.not_mem_nil⟩⟩⟩⟩⟩⟩⟩⟩) ?_
                  have e : gRow (txI (I 4)) n y (k + 1) x p f = gRow (txI (I 4)) n y k (x + 1) (p + 1) (gPut f ((8 * y) + x) (1) (txI (I 4) p - 48)) := by
                    first
                    | (exfalso; omega; done)
                    | (conv => lhs; unfold gRow
                       rw [sgn_in hin, sgn_in hin2]
                       (repeat' first | rw [if_pos (by omega)] | rw [if_neg (by omega)]))
                  rw [e]
                  refine ih (i + 1) (x + 1) (p + 1) _ _ (by omega) (by omega) (by omega) (by omega) (fun a h1 h2 => (zup_n h2).trans (ho a h1 h2)) ((zup_n (by decide)).trans h41) ?_
                  intro j hj
                  rw [zup_s]
                  unfold zfi5 gPut
                  by_cases hj2 : (8 * y) + x ≤ j ∧ j < (8 * y) + x + 1
                  · rw [if_pos hj2, if_pos hj2]
                  · rw [if_neg hj2, if_neg hj2]; exact h43 j hj
                · skip
                  refine V_eqI (y := nI 0) (congrArg nI (if_neg hdg177)) ?_
                  refine V_if_ne (tgt := 188) dX5_readRow_177 rfl (fun h => absurd rfl h) (fun _ => ?_)
                  refine V_aload_n dX5_readRow_180 rfl ?_
                  refine V_iconst (v := nI 1) dX5_readRow_181 rfl ?_
                  refine V_iload dX5_readRow_182 rfl ?_
                  refine V_callV (As := [.int (nI 1), .int (nI p)]) (st := []) (a := 41) dX5_readRow_184 kX5_refuse lX5_53 (by decide) rfl rfl (Nat.le_of_ble_eq_true rfl) ⟨Nat.le_of_ble_eq_true rfl, Nat.le_of_ble_eq_true rfl⟩ ⟨Nat.le_of_ble_eq_true rfl, Nat.le_of_ble_eq_true rfl⟩ rfl ⟨rfl, by decide⟩ c_refuse5 ?_
                  rintro _ _ _ _ ⟨rfl, rfl, rfl, rfl⟩
                  exact V_iret ⟨Or.inl rfl, dX5_readRow_187⟩ ⟨Nat.le_of_ble_eq_true rfl, Nat.le_of_ble_eq_true rfl⟩ (by first | (exfalso; omega; done) | exact (by have e : gRow (txI (I 4)) n y (k + 1) x p f = (_, _, f) := (by unfold gRow; rw [sgn_in hin, sgn_in hin2]; (repeat' first | rw [if_pos (by omega)] | rw [if_neg (by omega)]) <;> rfl); rw [e]; exact ⟨rfl, rfl, fun a h1 h2 => (zup_n h1).trans (ho a h1 h2), fun j hj => zwr_at.trans ((if_neg (fun h => hj h.2)).trans (congrFun h41 j)), zwr_at.trans (if_pos ⟨rfl, rfl⟩), h43, rfl⟩))
              · skip
                refine V_aload_n dX5_readRow_139 rfl ?_
                refine V_bipush (v := nI 6) dX5_readRow_140 rfl ?_
                refine V_iload dX5_readRow_142 rfl ?_
                refine V_callV (As := [.int (nI 6), .int (nI p)]) (st := []) (a := 41) dX5_readRow_144 kX5_refuse lX5_53 (by decide) rfl rfl (Nat.le_of_ble_eq_true rfl) ⟨Nat.le_of_ble_eq_true rfl, Nat.le_of_ble_eq_true rfl⟩ ⟨Nat.le_of_ble_eq_true rfl, Nat.le_of_ble_eq_true rfl⟩ rfl ⟨rfl, by decide⟩ c_refuse5 ?_
                rintro _ _ _ _ ⟨rfl, rfl, rfl, rfl⟩
                exact V_iret ⟨Or.inl rfl, dX5_readRow_147⟩ ⟨Nat.le_of_ble_eq_true rfl, Nat.le_of_ble_eq_true rfl⟩ (by first | (exfalso; omega; done) | exact (by have e : gRow (txI (I 4)) n y (k + 1) x p f = (_, _, f) := (by unfold gRow; rw [sgn_in hin, sgn_in hin2]; (repeat' first | rw [if_pos (by omega)] | rw [if_neg (by omega)]) <;> rfl); rw [e]; exact ⟨rfl, rfl, fun a h1 h2 => (zup_n h1).trans (ho a h1 h2), fun j hj => zwr_at.trans ((if_neg (fun h => hj h.2)).trans (congrFun h41 j)), zwr_at.trans (if_pos ⟨rfl, rfl⟩), h43, rfl⟩))
            · skip
              refine V_eqI (y := nI 0) (congrArg nI (if_neg hdg56)) ?_
              refine V_if_ne (tgt := 111) dX5_readRow_56 rfl (fun h => absurd rfl h) (fun _ => ?_)
              refine V_iload dX5_readRow_59 rfl ?_
              refine V_iload dX5_readRow_61 rfl ?_
              refine V_bipush (v := nI 7) dX5_readRow_63 rfl ?_
              refine V_icmp_neN (tgt := 72) dX5_readRow_65 rfl (by omega) (by omega) (fun h65 => ?_) (fun h65 => ?_)
              · skip
                refine V_bipush (v := nI 47) dX5_readRow_72 rfl ?_
                refine V_icmp_neN (tgt := 81) dX5_readRow_74 rfl (by omega) (by omega) (fun h74 => ?_) (fun h74 => ?_)
                · skip
                  refine V_iconst (v := nI 0) dX5_readRow_81 rfl ?_
                  refine V_istore (ls' := [(10, .int (nI 0)), (9, .int (nI 0)), (8, .int (nI (txI (I 4) p))), (0, .ref 41), (1, .ref 4), (2, .int (nI n)), (3, .int (nI p0)), (4, .int (nI y)), (5, .int (nI x)), (6, .int (nI p)), (7, .int (nI i))]) dX5_readRow_82 (by decide) rfl ?_
                  refine V_iload dX5_readRow_84 rfl ?_
                  refine V_bipush (v := nI 8) dX5_readRow_86 rfl ?_
                  refine V_icmp_neN (tgt := 103) dX5_readRow_88 rfl (by omega) (by omega) (fun h88 => ?_) (fun h88 => ?_)
                  · skip
                    refine V_aload_n dX5_readRow_103 rfl ?_
                    refine V_iconst (v := nI 1) dX5_readRow_104 rfl ?_
                    refine V_iload dX5_readRow_105 rfl ?_
                    refine V_callV (As := [.int (nI 1), .int (nI p)]) (st := []) (a := 41) dX5_readRow_107 kX5_refuse lX5_53 (by decide) rfl rfl (Nat.le_of_ble_eq_true rfl) ⟨Nat.le_of_ble_eq_true rfl, Nat.le_of_ble_eq_true rfl⟩ ⟨Nat.le_of_ble_eq_true rfl, Nat.le_of_ble_eq_true rfl⟩ rfl ⟨rfl, by decide⟩ c_refuse5 ?_
                    rintro _ _ _ _ ⟨rfl, rfl, rfl, rfl⟩
                    exact V_iret ⟨Or.inl rfl, dX5_readRow_110⟩ ⟨Nat.le_of_ble_eq_true rfl, Nat.le_of_ble_eq_true rfl⟩ (by first | (exfalso; omega; done) | exact (by have e : gRow (txI (I 4)) n y (k + 1) x p f = (_, _, f) := (by unfold gRow; rw [sgn_in hin, sgn_in hin2]; (repeat' first | rw [if_pos (by omega)] | rw [if_neg (by omega)]) <;> rfl); rw [e]; exact ⟨rfl, rfl, fun a h1 h2 => (zup_n h1).trans (ho a h1 h2), fun j hj => zwr_at.trans ((if_neg (fun h => hj h.2)).trans (congrFun h41 j)), zwr_at.trans (if_pos ⟨rfl, rfl⟩), h43, rfl⟩))
                  · skip
                    refine V_iload dX5_readRow_91 rfl ?_
                    refine V_if_eq (tgt := 103) dX5_readRow_93 rfl (fun _ => ?_) (fun h => absurd h (by decide))
                    refine V_aload_n dX5_readRow_103 rfl ?_
                    refine V_iconst (v := nI 1) dX5_readRow_104 rfl ?_
                    refine V_iload dX5_readRow_105 rfl ?_
                    refine V_callV (As := [.int (nI 1), .int (nI p)]) (st := []) (a := 41) dX5_readRow_107 kX5_refuse lX5_53 (by decide) rfl rfl (Nat.le_of_ble_eq_true rfl) ⟨Nat.le_of_ble_eq_true rfl, Nat.le_of_ble_eq_true rfl⟩ ⟨Nat.le_of_ble_eq_true rfl, Nat.le_of_ble_eq_true rfl⟩ rfl ⟨rfl, by decide⟩ c_refuse5 ?_
                    rintro _ _ _ _ ⟨rfl, rfl, rfl, rfl⟩
                    exact V_iret ⟨Or.inl rfl, dX5_readRow_110⟩ ⟨Nat.le_of_ble_eq_true rfl, Nat.le_of_ble_eq_true rfl⟩ (by first | (exfalso; omega; done) | exact (by have e : gRow (txI (I 4)) n y (k + 1) x p f = (_, _, f) := (by unfold gRow; rw [sgn_in hin, sgn_in hin2]; (repeat' first | rw [if_pos (by omega)] | rw [if_neg (by omega)]) <;> rfl); rw [e]; exact ⟨rfl, rfl, fun a h1 h2 => (zup_n h1).trans (ho a h1 h2), fun j hj => zwr_at.trans ((if_neg (fun h => hj h.2)).trans (congrFun h41 j)), zwr_at.trans (if_pos ⟨rfl, rfl⟩), h43, rfl⟩))
                · skip
                  refine V_iconst (v := nI 1) dX5_readRow_77 rfl ?_
                  refine V_goto (tgt := 82) dX5_readRow_78 rfl ?_
                  refine V_istore (ls' := [(10, .int (nI 1)), (9, .int (nI 0)), (8, .int (nI (txI (I 4) p))), (0, .ref 41), (1, .ref 4), (2, .int (nI n)), (3, .int (nI p0)), (4, .int (nI y)), (5, .int (nI x)), (6, .int (nI p)), (7, .int (nI i))]) dX5_readRow_82 (by decide) rfl ?_
                  refine V_iload dX5_readRow_84 rfl ?_
                  refine V_bipush (v := nI 8) dX5_readRow_86 rfl ?_
                  refine V_icmp_neN (tgt := 103) dX5_readRow_88 rfl (by omega) (by omega) (fun h88 => ?_) (fun h88 => ?_)
                  · skip
                    refine V_aload_n dX5_readRow_103 rfl ?_
                    refine V_iconst (v := nI 1) dX5_readRow_104 rfl ?_
                    refine V_iload dX5_readRow_105 rfl ?_
                    refine V_callV (As := [.int (nI 1), .int (nI p)]) (st := []) (a := 41) dX5_readRow_107 kX5_refuse lX5_53 (by decide) rfl rfl (Nat.le_of_ble_eq_true rfl) ⟨Nat.le_of_ble_eq_true rfl, Nat.le_of_ble_eq_true rfl⟩ ⟨Nat.le_of_ble_eq_true rfl, Nat.le_of_ble_eq_true rfl⟩ rfl ⟨rfl, by decide⟩ c_refuse5 ?_
                    rintro _ _ _ _ ⟨rfl, rfl, rfl, rfl⟩
                    exact V_iret ⟨Or.inl rfl, dX5_readRow_110⟩ ⟨Nat.le_of_ble_eq_true rfl, Nat.le_of_ble_eq_true rfl⟩ (by first | (exfalso; omega; done) | exact (by have e : gRow (txI (I 4)) n y (k + 1) x p f = (_, _, f) := (by unfold gRow; rw [sgn_in hin, sgn_in hin2]; (repeat' first | rw [if_pos (by omega)] | rw [if_neg (by omega)]) <;> rfl); rw [e]; exact ⟨rfl, rfl, fun a h1 h2 => (zup_n h1).trans (ho a h1 h2), fun j hj => zwr_at.trans ((if_neg (fun h => hj h.2)).trans (congrFun h41 j)), zwr_at.trans (if_pos ⟨rfl, rfl⟩), h43, rfl⟩))
                  · skip
                    refine V_iload dX5_readRow_91 rfl ?_
                    refine V_if_eq (tgt := 103) dX5_readRow_93 rfl (fun h => absurd h (by decide)) (fun _ => ?_)
                    refine V_iload dX5_readRow_96 rfl ?_
                    refine V_iconst (v := nI 1) dX5_readRow_98 rfl ?_
                    refine V_iaddN dX5_readRow_99 ?_
                    refine V_goto (tgt := 110) dX5_readRow_100 rfl ?_
                    exact V_iret ⟨Or.inl rfl, dX5_readRow_110⟩ ⟨Nat.le_of_ble_eq_true rfl, Nat.le_of_ble_eq_true rfl⟩ (by first | (exfalso; omega; done) | exact (by have e : gRow (txI (I 4)) n y (k + 1) x p f = (0, p + 1, f) := (by unfold gRow; rw [sgn_in hin, sgn_in hin2]; (repeat' first | rw [if_pos (by omega)] | rw [if_neg (by omega)]) <;> rfl); rw [e]; exact ⟨rfl, rfl, ho, fun j _ => congrFun h41 j, congrFun h41 2, h43, rfl⟩))
              · skip
                refine V_iconst (v := (-1)) dX5_readRow_68 rfl ?_
                refine V_goto (tgt := 74) dX5_readRow_69 rfl ?_
                refine V_icmp_ne (tgt := 81) dX5_readRow_74 rfl (fun _ => ?_) (fun h => absurd h (nI_ne_neg (by omega) (by decide)))
                refine V_iconst (v := nI 0) dX5_readRow_81 rfl ?_
                refine V_istore (ls' := [(10, .int (nI 0)), (9, .int (nI 0)), (8, .int (nI (txI (I 4) p))), (0, .ref 41), (1, .ref 4), (2, .int (nI n)), (3, .int (nI p0)), (4, .int (nI y)), (5, .int (nI x)), (6, .int (nI p)), (7, .int (nI i))]) dX5_readRow_82 (by decide) rfl ?_
                refine V_iload dX5_readRow_84 rfl ?_
                refine V_bipush (v := nI 8) dX5_readRow_86 rfl ?_
                refine V_icmp_neN (tgt := 103) dX5_readRow_88 rfl (by omega) (by omega) (fun h88 => ?_) (fun h88 => ?_)
                · skip
                  refine V_aload_n dX5_readRow_103 rfl ?_
                  refine V_iconst (v := nI 1) dX5_readRow_104 rfl ?_
                  refine V_iload dX5_readRow_105 rfl ?_
                  refine V_callV (As := [.int (nI 1), .int (nI p)]) (st := []) (a := 41) dX5_readRow_107 kX5_refuse lX5_53 (by decide) rfl rfl (Nat.le_of_ble_eq_true rfl) ⟨Nat.le_of_ble_eq_true rfl, Nat.le_of_ble_eq_true rfl⟩ ⟨Nat.le_of_ble_eq_true rfl, Nat.le_of_ble_eq_true rfl⟩ rfl ⟨rfl, by decide⟩ c_refuse5 ?_
                  rintro _ _ _ _ ⟨rfl, rfl, rfl, rfl⟩
                  exact V_iret ⟨Or.inl rfl, dX5_readRow_110⟩ ⟨Nat.le_of_ble_eq_true rfl, Nat.le_of_ble_eq_true rfl⟩ (by first | (exfalso; omega; done) | exact (by have e : gRow (txI (I 4)) n y (k + 1) x p f = (_, _, f) := (by unfold gRow; rw [sgn_in hin, sgn_in hin2]; (repeat' first | rw [if_pos (by omega)] | rw [if_neg (by omega)]) <;> rfl); rw [e]; exact ⟨rfl, rfl, fun a h1 h2 => (zup_n h1).trans (ho a h1 h2), fun j hj => zwr_at.trans ((if_neg (fun h => hj h.2)).trans (congrFun h41 j)), zwr_at.trans (if_pos ⟨rfl, rfl⟩), h43, rfl⟩))
                · skip
                  refine V_iload dX5_readRow_91 rfl ?_
                  refine V_if_eq (tgt := 103) dX5_readRow_93 rfl (fun _ => ?_) (fun h => absurd h (by decide))
                  refine V_aload_n dX5_readRow_103 rfl ?_
                  refine V_iconst (v := nI 1) dX5_readRow_104 rfl ?_
                  refine V_iload dX5_readRow_105 rfl ?_
                  refine V_callV (As := [.int (nI 1), .int (nI p)]) (st := []) (a := 41) dX5_readRow_107 kX5_refuse lX5_53 (by decide) rfl rfl (Nat.le_of_ble_eq_true rfl) ⟨Nat.le_of_ble_eq_true rfl, Nat.le_of_ble_eq_true rfl⟩ ⟨Nat.le_of_ble_eq_true rfl, Nat.le_of_ble_eq_true rfl⟩ rfl ⟨rfl, by decide⟩ c_refuse5 ?_
                  rintro _ _ _ _ ⟨rfl, rfl, rfl, rfl⟩
                  exact V_iret ⟨Or.inl rfl, dX5_readRow_110⟩ ⟨Nat.le_of_ble_eq_true rfl, Nat.le_of_ble_eq_true rfl⟩ (by first | (exfalso; omega; done) | exact (by have e : gRow (txI (I 4)) n y (k + 1) x p f = (_, _, f) := (by unfold gRow; rw [sgn_in hin, sgn_in hin2]; (repeat' first | rw [if_pos (by omega)] | rw [if_neg (by omega)]) <;> rfl); rw [e]; exact ⟨rfl, rfl, fun a h1 h2 => (zup_n h1).trans (ho a h1 h2), fun j hj => zwr_at.trans ((if_neg (fun h => hj h.2)).trans (congrFun h41 j)), zwr_at.trans (if_pos ⟨rfl, rfl⟩), h43, rfl⟩))
          · skip
            refine V_iconst (v := nI 1) dX5_readRow_39 rfl ?_
            refine V_goto (tgt := 44) dX5_readRow_40 rfl ?_
            refine V_istore (ls' := [(9, .int (nI 1)), (8, .int (nI (txI (I 4) p))), (0, .ref 41), (1, .ref 4), (2, .int (nI n)), (3, .int (nI p0)), (4, .int (nI y)), (5, .int (nI x)), (6, .int (nI p)), (7, .int (nI i))]) dX5_readRow_44 (by decide) rfl ?_
            refine V_iload dX5_readRow_46 rfl ?_
            refine V_if_ne (tgt := 111) dX5_readRow_48 rfl (fun _ => ?_) (fun h => absurd h (by decide))
            refine V_iload dX5_readRow_111 rfl ?_
            refine V_if_eq (tgt := 126) dX5_readRow_113 rfl (fun h => absurd h (by decide)) (fun _ => ?_)
            refine V_iload dX5_readRow_116 rfl ?_
            refine V_bipush (v := nI 97) dX5_readRow_118 rfl ?_
            refine V_isubN dX5_readRow_120 (by omega) ?_
            refine V_iconst (v := nI 1) dX5_readRow_121 rfl ?_
            refine V_iaddN dX5_readRow_122 ?_
            refine V_goto (tgt := 127) dX5_readRow_123 rfl ?_
            refine V_istore (ls' := [(10, .int (nI (((txI (I 4) p) - 97) + 1))), (9, .int (nI 1)), (8, .int (nI (txI (I 4) p))), (0, .ref 41), (1, .ref 4), (2, .int (nI n)), (3, .int (nI p0)), (4, .int (nI y)), (5, .int (nI x)), (6, .int (nI p)), (7, .int (nI i))]) dX5_readRow_127 (by decide) rfl ?_
            refine V_iload dX5_readRow_129 rfl ?_
            refine V_iload dX5_readRow_131 rfl ?_
            refine V_iaddN dX5_readRow_133 ?_
            refine V_bipush (v := nI 8) dX5_readRow_134 rfl ?_
            refine V_icmp_leN (tgt := 148) dX5_readRow_136 rfl (by omega) (by omega) (fun h136 => ?_) (fun h136 => ?_)
            · skip
              refine V_iload dX5_readRow_148 rfl ?_
              refine V_iload dX5_readRow_150 rfl ?_
              refine V_if_eq (tgt := 159) dX5_readRow_152 rfl (fun h => absurd h (by decide)) (fun _ => ?_)
              refine V_iconst (v := nI 1) dX5_readRow_155 rfl ?_
              refine V_goto (tgt := 160) dX5_readRow_156 rfl ?_
              refine V_iaddN dX5_readRow_160 ?_
              refine V_istore (ls' := [(6, .int (nI (p + 1))), (10, .int (nI (((txI (I 4) p) - 97) + 1))), (9, .int (nI 1)), (8, .int (nI (txI (I 4) p))), (0, .ref 41), (1, .ref 4), (2, .int (nI n)), (3, .int (nI p0)), (4, .int (nI y)), (5, .int (nI x)), (7, .int (nI i))]) dX5_readRow_161 (by decide) rfl ?_
              refine V_aload_n dX5_readRow_163 rfl ?_
              refine V_iload_n dX5_readRow_164 rfl ?_
              refine V_iload dX5_readRow_165 rfl ?_
              refine V_callS (As := [.ref 4, .int (nI n), .int (nI (p + 1))]) (st := []) dX5_readRow_167 kX5_signAt lX5_45 (by decide) rfl rfl (Nat.le_of_ble_eq_true rfl) ⟨Nat.le_of_ble_eq_true rfl, Nat.le_of_ble_eq_true rfl⟩ (c_signAtY (I := I1) hin2 (by omega)) ?_
              rintro _ _ _ _ ⟨rfl, rfl, rfl, rfl⟩
              have e4 : I1 4 = I 4 := ho 4 (by decide) (by decide)
              rw [e4]
              have htp_1 := txI_lt (f := I 4) (p := p + 1)
              refine V_istore (ls' := [(11, .int (nI (txI (I 4) (p + 1)))), (6, .int (nI (p + 1))), (10, .int (nI (((txI (I 4) p) - 97) + 1))), (9, .int (nI 1)), (8, .int (nI (txI (I 4) p))), (0, .ref 41), (1, .ref 4), (2, .int (nI n)), (3, .int (nI p0)), (4, .int (nI y)), (5, .int (nI x)), (7, .int (nI i))]) dX5_readRow_170 (by decide) rfl ?_
              refine V_iload dX5_readRow_172 rfl ?_
              refine V_callS (As := [.int (nI (txI (I 4) (p + 1)))]) (st := []) dX5_readRow_174 kX5_isDigit lX5_49 (by decide) rfl rfl (Nat.le_of_ble_eq_true rfl) ⟨Nat.le_of_ble_eq_true rfl, Nat.le_of_ble_eq_true rfl⟩ (c_isDig (by omega)) ?_
              rintro _ _ _ _ ⟨rfl, rfl, rfl, rfl⟩
              by_cases hdg177 : 48 ≤ txI (I 4) (p + 1) ∧ txI (I 4) (p + 1) ≤ 57
              · skip
                refine V_eqI (y := nI 1) (congrArg nI (if_pos hdg177)) ?_
                refine V_if_ne (tgt := 188) dX5_readRow_177 rfl (fun _ => ?_) (fun h => absurd h (by decide))
                refine V_aload_n dX5_readRow_188 rfl ?_
                refine V_bipush (v := nI 8) dX5_readRow_189 rfl ?_
                refine V_iload dX5_readRow_191 rfl ?_
                refine V_imulN dX5_readRow_193 ?_
                refine V_iload dX5_readRow_194 rfl ?_
                refine V_iaddN dX5_readRow_196 ?_
                refine V_iload dX5_readRow_197 rfl ?_
                refine V_iload dX5_readRow_199 rfl ?_
                refine V_bipush (v := nI 48) dX5_readRow_201 rfl ?_
                refine V_isubN dX5_readRow_203 (by omega) ?_
                refine V_callV (As := [.int (nI ((8 * y) + x)), .int (nI (((txI (I 4) p) - 97) + 1)), .int (nI (txI (I 4) (p + 1) - 48))]) (st := []) (a := 41) dX5_readRow_204 kX5_put lX5_56 (by decide) rfl rfl (Nat.le_of_ble_eq_true rfl) ⟨Nat.le_of_ble_eq_true rfl, Nat.le_of_ble_eq_true rfl⟩ ⟨Nat.le_of_ble_eq_true rfl, Nat.le_of_ble_eq_true rfl⟩ rfl ⟨rfl, by decide⟩ (c_put5 (by omega)) ?_
                rintro _ _ _ _ ⟨rfl, rfl, rfl, rfl⟩
                refine V_iload dX5_readRow_207 rfl ?_
                refine V_iload dX5_readRow_209 rfl ?_
                refine V_iaddN dX5_readRow_211 ?_
                refine V_istore (ls' := [(5, .int (nI (x + (((txI (I 4) p) - 97) + 1)))), (11, .int (nI (txI (I 4) (p + 1)))), (6, .int (nI (p + 1))), (10, .int (nI (((txI (I 4) p) - 97) + 1))), (9, .int (nI 1)), (8, .int (nI (txI (I 4) p))), (0, .ref 41), (1, .ref 4), (2, .int (nI n)), (3, .int (nI p0)), (4, .int (nI y)), (7, .int (nI i))]) dX5_readRow_212 (by decide) rfl ?_
                refine V_iincN (ls' := [(6, .int (nI ((p + 1) + 1))), (5, .int (nI (x + (((txI (I 4) p) - 97) + 1)))), (11, .int (nI (txI (I 4) (p + 1)))), (10, .int (nI (((txI (I 4) p) - 97) + 1))), (9, .int (nI 1)), (8, .int (nI (txI (I 4) p))), (0, .ref 41), (1, .ref 4), (2, .int (nI n)), (3, .int (nI p0)), (4, .int (nI y)), (7, .int (nI i))]) (n := 1) dX5_readRow_214 rfl rfl (by decide) (by decide) rfl ?_
                refine V_iincN (ls' := [(7, .int (nI (i + 1))), (6, .int (nI ((p + 1) + 1))), (5, .int (nI (x + (((txI (I 4) p) - 97) + 1)))), (11, .int (nI (txI (I 4) (p + 1)))), (10, .int (nI (((txI (I 4) p) - 97) + 1))), (9, .int (nI 1)), (8, .int (nI (txI (I 4) p))), (0, .ref 41), (1, .ref 4), (2, .int (nI n)), (3, .int (nI p0)), (4, .int (nI y))]) (n := 1) dX5_readRow_217 rfl rfl (by decide) (by decide) rfl ?_
                refine V_goto (tgt := 9) dX5_readRow_220 rfl ?_
                refine V_sub2 (ls' := [(0, .ref 41), (1, .ref 4), (2, .int (nI n)), (3, .int (nI p0)), (4, .int (nI y)), (5, .int (nI (x + (((txI (I 4) p) - 97) + 1)))), (6, .int (nI ((p + 1) + 1))), (7, .int (nI (i + 1)))]) (List.forall_mem_cons.mpr ⟨rfl, List.forall_mem_cons.mpr ⟨rfl, List.forall_mem_cons.mpr ⟨rfl, List.forall_mem_cons.mpr ⟨rfl, List.forall_mem_cons.mpr ⟨rfl, List.forall_mem_cons.mpr ⟨rfl, List.forall_mem_cons.mpr ⟨rfl, List.forall_mem_cons.mpr ⟨rfl, fun _ h => absurd h List.not_mem_nil⟩⟩⟩⟩⟩⟩⟩⟩) ?_
                have e : gRow (txI (I 4)) n y (k + 1) x p f = gRow (txI (I 4)) n y k (x + (((txI (I 4) p) - 97) + 1)) ((p + 1) + 1) (gPut f ((8 * y) + x) (((txI (I 4) p) - 97) + 1) (txI (I 4) (p + 1) - 48)) := by
                  first
                  | (exfalso; omega; done)
                  | (conv => lhs; unfold gRow
                     rw [sgn_in hin, sgn_in hin2]
                     (repeat' first | rw [if_pos (by omega)] | rw [if_neg (by omega)]))
                rw [e]
                refine ih (i + 1) (x + (((txI (I 4) p) - 97) + 1)) ((p + 1) + 1) _ _ (by omega) (by omega) (by omega) (by omega) (fun a h1 h2 => (zup_n h2).trans (ho a h1 h2)) ((zup_n (by decide)).trans h41) ?_
                intro j hj
                rw [zup_s]
                unfold zfi5 gPut
                by_cases hj2 : (8 * y) + x ≤ j ∧ j < (8 * y) + x + (((txI (I 4) p) - 97) + 1)
                · rw [if_pos hj2, if_pos hj2]
                · rw [if_neg hj2, if_neg hj2]; exact h43 j hj
              · skip
                refine V_eqI (y := nI 0) (congrArg nI (if_neg hdg177)) ?_
                refine V_if_ne (tgt := 188) dX5_readRow_177 rfl (fun h => absurd rfl h) (fun _ => ?_)
                refine V_aload_n dX5_readRow_180 rfl ?_
                refine V_iconst (v := nI 1) dX5_readRow_181 rfl ?_
                refine V_iload dX5_readRow_182 rfl ?_
                refine V_callV (As := [.int (nI 1), .int (nI (p + 1))]) (st := []) (a := 41) dX5_readRow_184 kX5_refuse lX5_53 (by decide) rfl rfl (Nat.le_of_ble_eq_true rfl) ⟨Nat.le_of_ble_eq_true rfl, Nat.le_of_ble_eq_true rfl⟩ ⟨Nat.le_of_ble_eq_true rfl, Nat.le_of_ble_eq_true rfl⟩ rfl ⟨rfl, by decide⟩ c_refuse5 ?_
                rintro _ _ _ _ ⟨rfl, rfl, rfl, rfl⟩
                exact V_iret ⟨Or.inl rfl, dX5_readRow_187⟩ ⟨Nat.le_of_ble_eq_true rfl, Nat.le_of_ble_eq_true rfl⟩ (by first | (exfalso; omega; done) | exact (by have e : gRow (txI (I 4)) n y (k + 1) x p f = (_, _, f) := (by unfold gRow; rw [sgn_in hin, sgn_in hin2]; (repeat' first | rw [if_pos (by omega)] | rw [if_neg (by omega)]) <;> rfl); rw [e]; exact ⟨rfl, rfl, fun a h1 h2 => (zup_n h1).trans (ho a h1 h2), fun j hj => zwr_at.trans ((if_neg (fun h => hj h.2)).trans (congrFun h41 j)), zwr_at.trans (if_pos ⟨rfl, rfl⟩), h43, rfl⟩))
            · skip
              refine V_aload_n dX5_readRow_139 rfl ?_
              refine V_bipush (v := nI 6) dX5_readRow_140 rfl ?_
              refine V_iload dX5_readRow_142 rfl ?_
              refine V_callV (As := [.int (nI 6), .int (nI p)]) (st := []) (a := 41) dX5_readRow_144 kX5_refuse lX5_53 (by decide) rfl rfl (Nat.le_of_ble_eq_true rfl) ⟨Nat.le_of_ble_eq_true rfl, Nat.le_of_ble_eq_true rfl⟩ ⟨Nat.le_of_ble_eq_true rfl, Nat.le_of_ble_eq_true rfl⟩ rfl ⟨rfl, by decide⟩ c_refuse5 ?_
              rintro _ _ _ _ ⟨rfl, rfl, rfl, rfl⟩
              exact V_iret ⟨Or.inl rfl, dX5_readRow_147⟩ ⟨Nat.le_of_ble_eq_true rfl, Nat.le_of_ble_eq_true rfl⟩ (by first | (exfalso; omega; done) | exact (by have e : gRow (txI (I 4)) n y (k + 1) x p f = (_, _, f) := (by unfold gRow; rw [sgn_in hin, sgn_in hin2]; (repeat' first | rw [if_pos (by omega)] | rw [if_neg (by omega)]) <;> rfl); rw [e]; exact ⟨rfl, rfl, fun a h1 h2 => (zup_n h1).trans (ho a h1 h2), fun j hj => zwr_at.trans ((if_neg (fun h => hj h.2)).trans (congrFun h41 j)), zwr_at.trans (if_pos ⟨rfl, rfl⟩), h43, rfl⟩))
      · skip
        refine V_iload dX5_readRow_9 rfl ?_
        refine V_bipush (v := nI 8) dX5_readRow_11 rfl ?_
        refine V_icmp_gtN (tgt := 223) dX5_readRow_13 rfl (by omega) (by omega) (fun h => absurd h (by omega)) (fun _ => ?_)
        refine V_aload_n dX5_readRow_16 rfl ?_
        refine V_iload_n dX5_readRow_17 rfl ?_
        refine V_iload dX5_readRow_18 rfl ?_
        refine V_callS (As := [.ref 4, .int (nI n), .int (nI p)]) (st := []) dX5_readRow_20 kX5_signAt lX5_45 (by decide) rfl rfl (Nat.le_of_ble_eq_true rfl) ⟨Nat.le_of_ble_eq_true rfl, Nat.le_of_ble_eq_true rfl⟩ (c_signAtY (I := I1) hin (by omega)) ?_
        rintro _ _ _ _ ⟨rfl, rfl, rfl, rfl⟩
        have e4 : I1 4 = I 4 := ho 4 (by decide) (by decide)
        rw [e4]
        have htp := txI_lt (f := I 4) (p := p)
        refine V_istore (ls' := [(8, .int (nI (txI (I 4) p))), (0, .ref 41), (1, .ref 4), (2, .int (nI n)), (3, .int (nI p0)), (4, .int (nI y)), (5, .int (nI x)), (6, .int (nI p)), (7, .int (nI i))]) dX5_readRow_23 (by decide) rfl ?_
        refine V_iload dX5_readRow_25 rfl ?_
        refine V_bipush (v := nI 97) dX5_readRow_27 rfl ?_
        refine V_icmp_ltN (tgt := 43) dX5_readRow_29 rfl (by omega) (by omega) (fun h29 => ?_) (fun h29 => ?_)
        · skip
          refine V_iconst (v := nI 0) dX5_readRow_43 rfl ?_
          refine V_istore (ls' := [(9, .int (nI 0)), (8, .int (nI (txI (I 4) p))), (0, .ref 41), (1, .ref 4), (2, .int (nI n)), (3, .int (nI p0)), (4, .int (nI y)), (5, .int (nI x)), (6, .int (nI p)), (7, .int (nI i))]) dX5_readRow_44 (by decide) rfl ?_
          refine V_iload dX5_readRow_46 rfl ?_
          refine V_if_ne (tgt := 111) dX5_readRow_48 rfl (fun h => absurd h (by decide)) (fun _ => ?_)
          refine V_iload dX5_readRow_51 rfl ?_
          refine V_callS (As := [.int (nI (txI (I 4) p))]) (st := []) dX5_readRow_53 kX5_isDigit lX5_49 (by decide) rfl rfl (Nat.le_of_ble_eq_true rfl) ⟨Nat.le_of_ble_eq_true rfl, Nat.le_of_ble_eq_true rfl⟩ (c_isDig (by omega)) ?_
          rintro _ _ _ _ ⟨rfl, rfl, rfl, rfl⟩
          by_cases hdg56 : 48 ≤ txI (I 4) p ∧ txI (I 4) p ≤ 57
          · skip
            refine V_eqI (y := nI 1) (congrArg nI (if_pos hdg56)) ?_
            refine V_if_ne (tgt := 111) dX5_readRow_56 rfl (fun _ => ?_) (fun h => absurd h (by decide))
            refine V_iload dX5_readRow_111 rfl ?_
            refine V_if_eq (tgt := 126) dX5_readRow_113 rfl (fun _ => ?_) (fun h => absurd h (by decide))
            refine V_iconst (v := nI 1) dX5_readRow_126 rfl ?_
            refine V_istore (ls' := [(10, .int (nI 1)), (9, .int (nI 0)), (8, .int (nI (txI (I 4) p))), (0, .ref 41), (1, .ref 4), (2, .int (nI n)), (3, .int (nI p0)), (4, .int (nI y)), (5, .int (nI x)), (6, .int (nI p)), (7, .int (nI i))]) dX5_readRow_127 (by decide) rfl ?_
            refine V_iload dX5_readRow_129 rfl ?_
            refine V_iload dX5_readRow_131 rfl ?_
            refine V_iaddN dX5_readRow_133 ?_
            refine V_bipush (v := nI 8) dX5_readRow_134 rfl ?_
            refine V_icmp_leN (tgt := 148) dX5_readRow_136 rfl (by omega) (by omega) (fun h136 => ?_) (fun h136 => ?_)
            · skip
              refine V_iload dX5_readRow_148 rfl ?_
              refine V_iload dX5_readRow_150 rfl ?_
              refine V_if_eq (tgt := 159) dX5_readRow_152 rfl (fun _ => ?_) (fun h => absurd h (by decide))
              refine V_iconst (v := nI 0) dX5_readRow_159 rfl ?_
              refine V_iaddN dX5_readRow_160 ?_
              refine V_eqI (y := nI p) rfl ?_
              refine V_istore (ls' := [(6, .int (nI p)), (10, .int (nI 1)), (9, .int (nI 0)), (8, .int (nI (txI (I 4) p))), (0, .ref 41), (1, .ref 4), (2, .int (nI n)), (3, .int (nI p0)), (4, .int (nI y)), (5, .int (nI x)), (7, .int (nI i))]) dX5_readRow_161 (by decide) rfl ?_
              refine V_aload_n dX5_readRow_163 rfl ?_
              refine V_iload_n dX5_readRow_164 rfl ?_
              refine V_iload dX5_readRow_165 rfl ?_
              refine V_callS (As := [.ref 4, .int (nI n), .int (nI p)]) (st := []) dX5_readRow_167 kX5_signAt lX5_45 (by decide) rfl rfl (Nat.le_of_ble_eq_true rfl) ⟨Nat.le_of_ble_eq_true rfl, Nat.le_of_ble_eq_true rfl⟩ (c_signAtY (I := I1) hin (by omega)) ?_
              rintro _ _ _ _ ⟨rfl, rfl, rfl, rfl⟩
              have e4 : I1 4 = I 4 := ho 4 (by decide) (by decide)
              rw [e4]
              have htp := txI_lt (f := I 4) (p := p)
              refine V_istore (ls' := [(11, .int (nI (txI (I 4) p))), (6, .int (nI p)), (10, .int (nI 1)), (9, .int (nI 0)), (8, .int (nI (txI (I 4) p))), (0, .ref 41), (1, .ref 4), (2, .int (nI n)), (3, .int (nI p0)), (4, .int (nI y)), (5, .int (nI x)), (7, .int (nI i))]) dX5_readRow_170 (by decide) rfl ?_
              refine V_iload dX5_readRow_172 rfl ?_
              refine V_callS (As := [.int (nI (txI (I 4) p))]) (st := []) dX5_readRow_174 kX5_isDigit lX5_49 (by decide) rfl rfl (Nat.le_of_ble_eq_true rfl) ⟨Nat.le_of_ble_eq_true rfl, Nat.le_of_ble_eq_true rfl⟩ (c_isDig (by omega)) ?_
              rintro _ _ _ _ ⟨rfl, rfl, rfl, rfl⟩
              by_cases hdg177 : 48 ≤ txI (I 4) p ∧ txI (I 4) p ≤ 57
              · skip
                refine V_eqI (y := nI 1) (congrArg nI (if_pos hdg177)) ?_
                refine V_if_ne (tgt := 188) dX5_readRow_177 rfl (fun _ => ?_) (fun h => absurd h (by decide))
                refine V_aload_n dX5_readRow_188 rfl ?_
                refine V_bipush (v := nI 8) dX5_readRow_189 rfl ?_
                refine V_iload dX5_readRow_191 rfl ?_
                refine V_imulN dX5_readRow_193 ?_
                refine V_iload dX5_readRow_194 rfl ?_
                refine V_iaddN dX5_readRow_196 ?_
                refine V_iload dX5_readRow_197 rfl ?_
                refine V_iload dX5_readRow_199 rfl ?_
                refine V_bipush (v := nI 48) dX5_readRow_201 rfl ?_
                refine V_isubN dX5_readRow_203 (by omega) ?_
                refine V_callV (As := [.int (nI ((8 * y) + x)), .int (nI 1), .int (nI (txI (I 4) p - 48))]) (st := []) (a := 41) dX5_readRow_204 kX5_put lX5_56 (by decide) rfl rfl (Nat.le_of_ble_eq_true rfl) ⟨Nat.le_of_ble_eq_true rfl, Nat.le_of_ble_eq_true rfl⟩ ⟨Nat.le_of_ble_eq_true rfl, Nat.le_of_ble_eq_true rfl⟩ rfl ⟨rfl, by decide⟩ (c_put5 (by omega)) ?_
                rintro _ _ _ _ ⟨rfl, rfl, rfl, rfl⟩
                refine V_iload dX5_readRow_207 rfl ?_
                refine V_iload dX5_readRow_209 rfl ?_
                refine V_iaddN dX5_readRow_211 ?_
                refine V_istore (ls' := [(5, .int (nI (x + 1))), (11, .int (nI (txI (I 4) p))), (6, .int (nI p)), (10, .int (nI 1)), (9, .int (nI 0)), (8, .int (nI (txI (I 4) p))), (0, .ref 41), (1, .ref 4), (2, .int (nI n)), (3, .int (nI p0)), (4, .int (nI y)), (7, .int (nI i))]) dX5_readRow_212 (by decide) rfl ?_
                refine V_iincN (ls' := [(6, .int (nI (p + 1))), (5, .int (nI (x + 1))), (11, .int (nI (txI (I 4) p))), (10, .int (nI 1)), (9, .int (nI 0)), (8, .int (nI (txI (I 4) p))), (0, .ref 41), (1, .ref 4), (2, .int (nI n)), (3, .int (nI p0)), (4, .int (nI y)), (7, .int (nI i))]) (n := 1) dX5_readRow_214 rfl rfl (by decide) (by decide) rfl ?_
                refine V_iincN (ls' := [(7, .int (nI (i + 1))), (6, .int (nI (p + 1))), (5, .int (nI (x + 1))), (11, .int (nI (txI (I 4) p))), (10, .int (nI 1)), (9, .int (nI 0)), (8, .int (nI (txI (I 4) p))), (0, .ref 41), (1, .ref 4), (2, .int (nI n)), (3, .int (nI p0)), (4, .int (nI y))]) (n := 1) dX5_readRow_217 rfl rfl (by decide) (by decide) rfl ?_
                refine V_goto (tgt := 9) dX5_readRow_220 rfl ?_
                refine V_sub2 (ls' := [(0, .ref 41), (1, .ref 4), (2, .int (nI n)), (3, .int (nI p0)), (4, .int (nI y)), (5, .int (nI (x + 1))), (6, .int (nI (p + 1))), (7, .int (nI (i + 1)))]) (List.forall_mem_cons.mpr ⟨rfl, List.forall_mem_cons.mpr ⟨rfl, List.forall_mem_cons.mpr ⟨rfl, List.forall_mem_cons.mpr ⟨rfl, List.forall_mem_cons.mpr ⟨rfl, List.forall_mem_cons.mpr ⟨rfl, List.forall_mem_cons.mpr ⟨rfl, List.forall_mem_cons.mpr ⟨rfl, fun _ h => absurd h List.not_mem_nil⟩⟩⟩⟩⟩⟩⟩⟩) ?_
                have e : gRow (txI (I 4)) n y (k + 1) x p f = gRow (txI (I 4)) n y k (x + 1) (p + 1) (gPut f ((8 * y) + x) (1) (txI (I 4) p - 48)) := by
                  first
                  | (exfalso; omega; done)
                  | (conv => lhs; unfold gRow
                     rw [sgn_in hin, sgn_out hin2]
                     (repeat' first | rw [if_pos (by omega)] | rw [if_neg (by omega)]))
                rw [e]
                refine ih (i + 1) (x + 1) (p + 1) _ _ (by omega) (by omega) (by omega) (by omega) (fun a h1 h2 => (zup_n h2).trans (ho a h1 h2)) ((zup_n (by decide)).trans h41) ?_
                intro j hj
                rw [zup_s]
                unfold zfi5 gPut
                by_cases hj2 : (8 * y) + x ≤ j ∧ j < (8 * y) + x + 1
                · rw [if_pos hj2, if_pos hj2]
                · rw [if_neg hj2, if_neg hj2]; exact h43 j hj
              · skip
                refine V_eqI (y := nI 0) (congrArg nI (if_neg hdg177)) ?_
                refine V_if_ne (tgt := 188) dX5_readRow_177 rfl (fun h => absurd rfl h) (fun _ => ?_)
                refine V_aload_n dX5_readRow_180 rfl ?_
                refine V_iconst (v := nI 1) dX5_readRow_181 rfl ?_
                refine V_iload dX5_readRow_182 rfl ?_
                refine V_callV (As := [.int (nI 1), .int (nI p)]) (st := []) (a := 41) dX5_readRow_184 kX5_refuse lX5_53 (by decide) rfl rfl (Nat.le_of_ble_eq_true rfl) ⟨Nat.le_of_ble_eq_true rfl, Nat.le_of_ble_eq_true rfl⟩ ⟨Nat.le_of_ble_eq_true rfl, Nat.le_of_ble_eq_true rfl⟩ rfl ⟨rfl, by decide⟩ c_refuse5 ?_
                rintro _ _ _ _ ⟨rfl, rfl, rfl, rfl⟩
                exact V_iret ⟨Or.inl rfl, dX5_readRow_187⟩ ⟨Nat.le_of_ble_eq_true rfl, Nat.le_of_ble_eq_true rfl⟩ (by first | (exfalso; omega; done) | exact (by have e : gRow (txI (I 4)) n y (k + 1) x p f = (_, _, f) := (by unfold gRow; rw [sgn_in hin, sgn_out hin2]; (repeat' first | rw [if_pos (by omega)] | rw [if_neg (by omega)]) <;> rfl); rw [e]; exact ⟨rfl, rfl, fun a h1 h2 => (zup_n h1).trans (ho a h1 h2), fun j hj => zwr_at.trans ((if_neg (fun h => hj h.2)).trans (congrFun h41 j)), zwr_at.trans (if_pos ⟨rfl, rfl⟩), h43, rfl⟩))
            · skip
              refine V_aload_n dX5_readRow_139 rfl ?_
              refine V_bipush (v := nI 6) dX5_readRow_140 rfl ?_
              refine V_iload dX5_readRow_142 rfl ?_
              refine V_callV (As := [.int (nI 6), .int (nI p)]) (st := []) (a := 41) dX5_readRow_144 kX5_refuse lX5_53 (by decide) rfl rfl (Nat.le_of_ble_eq_true rfl) ⟨Nat.le_of_ble_eq_true rfl, Nat.le_of_ble_eq_true rfl⟩ ⟨Nat.le_of_ble_eq_true rfl, Nat.le_of_ble_eq_true rfl⟩ rfl ⟨rfl, by decide⟩ c_refuse5 ?_
              rintro _ _ _ _ ⟨rfl, rfl, rfl, rfl⟩
              exact V_iret ⟨Or.inl rfl, dX5_readRow_147⟩ ⟨Nat.le_of_ble_eq_true rfl, Nat.le_of_ble_eq_true rfl⟩ (by first | (exfalso; omega; done) | exact (by have e : gRow (txI (I 4)) n y (k + 1) x p f = (_, _, f) := (by unfold gRow; rw [sgn_in hin, sgn_out hin2]; (repeat' first | rw [if_pos (by omega)] | rw [if_neg (by omega)]) <;> rfl); rw [e]; exact ⟨rfl, rfl, fun a h1 h2 => (zup_n h1).trans (ho a h1 h2), fun j hj => zwr_at.trans ((if_neg (fun h => hj h.2)).trans (congrFun h41 j)), zwr_at.trans (if_pos ⟨rfl, rfl⟩), h43, rfl⟩))
          · skip
            refine V_eqI (y := nI 0) (congrArg nI (if_neg hdg56)) ?_
            refine V_if_ne (tgt := 111) dX5_readRow_56 rfl (fun h => absurd rfl h) (fun _ => ?_)
            refine V_iload dX5_readRow_59 rfl ?_
            refine V_iload dX5_readRow_61 rfl ?_
            refine V_bipush (v := nI 7) dX5_readRow_63 rfl ?_
            refine V_icmp_neN (tgt := 72) dX5_readRow_65 rfl (by omega) (by omega) (fun h65 => ?_) (fun h65 => ?_)
            · skip
              refine V_bipush (v := nI 47) dX5_readRow_72 rfl ?_
              refine V_icmp_neN (tgt := 81) dX5_readRow_74 rfl (by omega) (by omega) (fun h74 => ?_) (fun h74 => ?_)
              · skip
                refine V_iconst (v := nI 0) dX5_readRow_81 rfl ?_
                refine V_istore (ls' := [(10, .int (nI 0)), (9, .int (nI 0)), (8, .int (nI (txI (I 4) p))), (0, .ref 41), (1, .ref 4), (2, .int (nI n)), (3, .int (nI p0)), (4, .int (nI y)), (5, .int (nI x)), (6, .int (nI p)), (7, .int (nI i))]) dX5_readRow_82 (by decide) rfl ?_
                refine V_iload dX5_readRow_84 rfl ?_
                refine V_bipush (v := nI 8) dX5_readRow_86 rfl ?_
                refine V_icmp_neN (tgt := 103) dX5_readRow_88 rfl (by omega) (by omega) (fun h88 => ?_) (fun h88 => ?_)
                · skip
                  refine V_aload_n dX5_readRow_103 rfl ?_
                  refine V_iconst (v := nI 1) dX5_readRow_104 rfl ?_
                  refine V_iload dX5_readRow_105 rfl ?_
                  refine V_callV (As := [.int (nI 1), .int (nI p)]) (st := []) (a := 41) dX5_readRow_107 kX5_refuse lX5_53 (by decide) rfl rfl (Nat.le_of_ble_eq_true rfl) ⟨Nat.le_of_ble_eq_true rfl, Nat.le_of_ble_eq_true rfl⟩ ⟨Nat.le_of_ble_eq_true rfl, Nat.le_of_ble_eq_true rfl⟩ rfl ⟨rfl, by decide⟩ c_refuse5 ?_
                  rintro _ _ _ _ ⟨rfl, rfl, rfl, rfl⟩
                  exact V_iret ⟨Or.inl rfl, dX5_readRow_110⟩ ⟨Nat.le_of_ble_eq_true rfl, Nat.le_of_ble_eq_true rfl⟩ (by first | (exfalso; omega; done) | exact (by have e : gRow (txI (I 4)) n y (k + 1) x p f = (_, _, f) := (by unfold gRow; rw [sgn_in hin, sgn_out hin2]; (repeat' first | rw [if_pos (by omega)] | rw [if_neg (by omega)]) <;> rfl); rw [e]; exact ⟨rfl, rfl, fun a h1 h2 => (zup_n h1).trans (ho a h1 h2), fun j hj => zwr_at.trans ((if_neg (fun h => hj h.2)).trans (congrFun h41 j)), zwr_at.trans (if_pos ⟨rfl, rfl⟩), h43, rfl⟩))
                · skip
                  refine V_iload dX5_readRow_91 rfl ?_
                  refine V_if_eq (tgt := 103) dX5_readRow_93 rfl (fun _ => ?_) (fun h => absurd h (by decide))
                  refine V_aload_n dX5_readRow_103 rfl ?_
                  refine V_iconst (v := nI 1) dX5_readRow_104 rfl ?_
                  refine V_iload dX5_readRow_105 rfl ?_
                  refine V_callV (As := [.int (nI 1), .int (nI p)]) (st := []) (a := 41) dX5_readRow_107 kX5_refuse lX5_53 (by decide) rfl rfl (Nat.le_of_ble_eq_true rfl) ⟨Nat.le_of_ble_eq_true rfl, Nat.le_of_ble_eq_true rfl⟩ ⟨Nat.le_of_ble_eq_true rfl, Nat.le_of_ble_eq_true rfl⟩ rfl ⟨rfl, by decide⟩ c_refuse5 ?_
                  rintro _ _ _ _ ⟨rfl, rfl, rfl, rfl⟩
                  exact V_iret ⟨Or.inl rfl, dX5_readRow_110⟩ ⟨Nat.le_of_ble_eq_true rfl, Nat.le_of_ble_eq_true rfl⟩ (by first | (exfalso; omega; done) | exact (by have e : gRow (txI (I 4)) n y (k + 1) x p f = (_, _, f) := (by unfold gRow; rw [sgn_in hin, sgn_out hin2]; (repeat' first | rw [if_pos (by omega)] | rw [if_neg (by omega)]) <;> rfl); rw [e]; exact ⟨rfl, rfl, fun a h1 h2 => (zup_n h1).trans (ho a h1 h2), fun j hj => zwr_at.trans ((if_neg (fun h => hj h.2)).trans (congrFun h41 j)), zwr_at.trans (if_pos ⟨rfl, rfl⟩), h43, rfl⟩))
              · skip
                refine V_iconst (v := nI 1) dX5_readRow_77 rfl ?_
                refine V_goto (tgt := 82) dX5_readRow_78 rfl ?_
                refine V_istore (ls' := [(10, .int (nI 1)), (9, .int (nI 0)), (8, .int (nI (txI (I 4) p))), (0, .ref 41), (1, .ref 4), (2, .int (nI n)), (3, .int (nI p0)), (4, .int (nI y)), (5, .int (nI x)), (6, .int (nI p)), (7, .int (nI i))]) dX5_readRow_82 (by decide) rfl ?_
                refine V_iload dX5_readRow_84 rfl ?_
                refine V_bipush (v := nI 8) dX5_readRow_86 rfl ?_
                refine V_icmp_neN (tgt := 103) dX5_readRow_88 rfl (by omega) (by omega) (fun h88 => ?_) (fun h88 => ?_)
                · skip
                  refine V_aload_n dX5_readRow_103 rfl ?_
                  refine V_iconst (v := nI 1) dX5_readRow_104 rfl ?_
                  refine V_iload dX5_readRow_105 rfl ?_
                  refine V_callV (As := [.int (nI 1), .int (nI p)]) (st := []) (a := 41) dX5_readRow_107 kX5_refuse lX5_53 (by decide) rfl rfl (Nat.le_of_ble_eq_true rfl) ⟨Nat.le_of_ble_eq_true rfl, Nat.le_of_ble_eq_true rfl⟩ ⟨Nat.le_of_ble_eq_true rfl, Nat.le_of_ble_eq_true rfl⟩ rfl ⟨rfl, by decide⟩ c_refuse5 ?_
                  rintro _ _ _ _ ⟨rfl, rfl, rfl, rfl⟩
                  exact V_iret ⟨Or.inl rfl, dX5_readRow_110⟩ ⟨Nat.le_of_ble_eq_true rfl, Nat.le_of_ble_eq_true rfl⟩ (by first | (exfalso; omega; done) | exact (by have e : gRow (txI (I 4)) n y (k + 1) x p f = (_, _, f) := (by unfold gRow; rw [sgn_in hin, sgn_out hin2]; (repeat' first | rw [if_pos (by omega)] | rw [if_neg (by omega)]) <;> rfl); rw [e]; exact ⟨rfl, rfl, fun a h1 h2 => (zup_n h1).trans (ho a h1 h2), fun j hj => zwr_at.trans ((if_neg (fun h => hj h.2)).trans (congrFun h41 j)), zwr_at.trans (if_pos ⟨rfl, rfl⟩), h43, rfl⟩))
                · skip
                  refine V_iload dX5_readRow_91 rfl ?_
                  refine V_if_eq (tgt := 103) dX5_readRow_93 rfl (fun h => absurd h (by decide)) (fun _ => ?_)
                  refine V_iload dX5_readRow_96 rfl ?_
                  refine V_iconst (v := nI 1) dX5_readRow_98 rfl ?_
                  refine V_iaddN dX5_readRow_99 ?_
                  refine V_goto (tgt := 110) dX5_readRow_100 rfl ?_
                  exact V_iret ⟨Or.inl rfl, dX5_readRow_110⟩ ⟨Nat.le_of_ble_eq_true rfl, Nat.le_of_ble_eq_true rfl⟩ (by first | (exfalso; omega; done) | exact (by have e : gRow (txI (I 4)) n y (k + 1) x p f = (0, p + 1, f) := (by unfold gRow; rw [sgn_in hin, sgn_out hin2]; (repeat' first | rw [if_pos (by omega)] | rw [if_neg (by omega)]) <;> rfl); rw [e]; exact ⟨rfl, rfl, ho, fun j _ => congrFun h41 j, congrFun h41 2, h43, rfl⟩))
            · skip
              refine V_iconst (v := (-1)) dX5_readRow_68 rfl ?_
              refine V_goto (tgt := 74) dX5_readRow_69 rfl ?_
              refine V_icmp_ne (tgt := 81) dX5_readRow_74 rfl (fun _ => ?_) (fun h => absurd h (nI_ne_neg (by omega) (by decide)))
              refine V_iconst (v := nI 0) dX5_readRow_81 rfl ?_
              refine V_istore (ls' := [(10, .int (nI 0)), (9, .int (nI 0)), (8, .int (nI (txI (I 4) p))), (0, .ref 41), (1, .ref 4), (2, .int (nI n)), (3, .int (nI p0)), (4, .int (nI y)), (5, .int (nI x)), (6, .int (nI p)), (7, .int (nI i))]) dX5_readRow_82 (by decide) rfl ?_
              refine V_iload dX5_readRow_84 rfl ?_
              refine V_bipush (v := nI 8) dX5_readRow_86 rfl ?_
              refine V_icmp_neN (tgt := 103) dX5_readRow_88 rfl (by omega) (by omega) (fun h88 => ?_) (fun h88 => ?_)
              · skip
                refine V_aload_n dX5_readRow_103 rfl ?_
                refine V_iconst (v := nI 1) dX5_readRow_104 rfl ?_
                refine V_iload dX5_readRow_105 rfl ?_
                refine V_callV (As := [.int (nI 1), .int (nI p)]) (st := []) (a := 41) dX5_readRow_107 kX5_refuse lX5_53 (by decide) rfl rfl (Nat.le_of_ble_eq_true rfl) ⟨Nat.le_of_ble_eq_true rfl, Nat.le_of_ble_eq_true rfl⟩ ⟨Nat.le_of_ble_eq_true rfl, Nat.le_of_ble_eq_true rfl⟩ rfl ⟨rfl, by decide⟩ c_refuse5 ?_
                rintro _ _ _ _ ⟨rfl, rfl, rfl, rfl⟩
                exact V_iret ⟨Or.inl rfl, dX5_readRow_110⟩ ⟨Nat.le_of_ble_eq_true rfl, Nat.le_of_ble_eq_true rfl⟩ (by first | (exfalso; omega; done) | exact (by have e : gRow (txI (I 4)) n y (k + 1) x p f = (_, _, f) := (by unfold gRow; rw [sgn_in hin, sgn_out hin2]; (repeat' first | rw [if_pos (by omega)] | rw [if_neg (by omega)]) <;> rfl); rw [e]; exact ⟨rfl, rfl, fun a h1 h2 => (zup_n h1).trans (ho a h1 h2), fun j hj => zwr_at.trans ((if_neg (fun h => hj h.2)).trans (congrFun h41 j)), zwr_at.trans (if_pos ⟨rfl, rfl⟩), h43, rfl⟩))
              · skip
                refine V_iload dX5_readRow_91 rfl ?_
                refine V_if_eq (tgt := 103) dX5_readRow_93 rfl (fun _ => ?_) (fun h => absurd h (by decide))
                refine V_aload_n dX5_readRow_103 rfl ?_
                refine V_iconst (v := nI 1) dX5_readRow_104 rfl ?_
                refine V_iload dX5_readRow_105 rfl ?_
                refine V_callV (As := [.int (nI 1), .int (nI p)]) (st := []) (a := 41) dX5_readRow_107 kX5_refuse lX5_53 (by decide) rfl rfl (Nat.le_of_ble_eq_true rfl) ⟨Nat.le_of_ble_eq_true rfl, Nat.le_of_ble_eq_true rfl⟩ ⟨Nat.le_of_ble_eq_true rfl, Nat.le_of_ble_eq_true rfl⟩ rfl ⟨rfl, by decide⟩ c_refuse5 ?_
                rintro _ _ _ _ ⟨rfl, rfl, rfl, rfl⟩
                exact V_iret ⟨Or.inl rfl, dX5_readRow_110⟩ ⟨Nat.le_of_ble_eq_true rfl, Nat.le_of_ble_eq_true rfl⟩ (by first | (exfalso; omega; done) | exact (by have e : gRow (txI (I 4)) n y (k + 1) x p f = (_, _, f) := (by unfold gRow; rw [sgn_in hin, sgn_out hin2]; (repeat' first | rw [if_pos (by omega)] | rw [if_neg (by omega)]) <;> rfl); rw [e]; exact ⟨rfl, rfl, fun a h1 h2 => (zup_n h1).trans (ho a h1 h2), fun j hj => zwr_at.trans ((if_neg (fun h => hj h.2)).trans (congrFun h41 j)), zwr_at.trans (if_pos ⟨rfl, rfl⟩), h43, rfl⟩))
        · skip
          refine V_iload dX5_readRow_32 rfl ?_
          refine V_bipush (v := nI 104) dX5_readRow_34 rfl ?_
          refine V_icmp_gtN (tgt := 43) dX5_readRow_36 rfl (by omega) (by omega) (fun h36 => ?_) (fun h36 => ?_)
          · skip
            refine V_iconst (v := nI 0) dX5_readRow_43 rfl ?_
            refine V_istore (ls' := [(9, .int (nI 0)), (8, .int (nI (txI (I 4) p))), (0, .ref 41), (1, .ref 4), (2, .int (nI n)), (3, .int (nI p0)), (4, .int (nI y)), (5, .int (nI x)), (6, .int (nI p)), (7, .int (nI i))]) dX5_readRow_44 (by decide) rfl ?_
            refine V_iload dX5_readRow_46 rfl ?_
            refine V_if_ne (tgt := 111) dX5_readRow_48 rfl (fun h => absurd h (by decide)) (fun _ => ?_)
            refine V_iload dX5_readRow_51 rfl ?_
            refine V_callS (As := [.int (nI (txI (I 4) p))]) (st := []) dX5_readRow_53 kX5_isDigit lX5_49 (by decide) rfl rfl (Nat.le_of_ble_eq_true rfl) ⟨Nat.le_of_ble_eq_true rfl, Nat.le_of_ble_eq_true rfl⟩ (c_isDig (by omega)) ?_
            rintro _ _ _ _ ⟨rfl, rfl, rfl, rfl⟩
            by_cases hdg56 : 48 ≤ txI (I 4) p ∧ txI (I 4) p ≤ 57
            · skip
              refine V_eqI (y := nI 1) (congrArg nI (if_pos hdg56)) ?_
              refine V_if_ne (tgt := 111) dX5_readRow_56 rfl (fun _ => ?_) (fun h => absurd h (by decide))
              refine V_iload dX5_readRow_111 rfl ?_
              refine V_if_eq (tgt := 126) dX5_readRow_113 rfl (fun _ => ?_) (fun h => absurd h (by decide))
              refine V_iconst (v := nI 1) dX5_readRow_126 rfl ?_
              refine V_istore (ls' := [(10, .int (nI 1)), (9, .int (nI 0)), (8, .int (nI (txI (I 4) p))), (0, .ref 41), (1, .ref 4), (2, .int (nI n)), (3, .int (nI p0)), (4, .int (nI y)), (5, .int (nI x)), (6, .int (nI p)), (7, .int (nI i))]) dX5_readRow_127 (by decide) rfl ?_
              refine V_iload dX5_readRow_129 rfl ?_
              refine V_iload dX5_readRow_131 rfl ?_
              refine V_iaddN dX5_readRow_133 ?_
              refine V_bipush (v := nI 8) dX5_readRow_134 rfl ?_
              refine V_icmp_leN (tgt := 148) dX5_readRow_136 rfl (by omega) (by omega) (fun h136 => ?_) (fun h136 => ?_)
              · skip
                refine V_iload dX5_readRow_148 rfl ?_
                refine V_iload dX5_readRow_150 rfl ?_
                refine V_if_eq (tgt := 159) dX5_readRow_152 rfl (fun _ => ?_) (fun h => absurd h (by decide))
                refine V_iconst (v := nI 0) dX5_readRow_159 rfl ?_
                refine V_iaddN dX5_readRow_160 ?_
                refine V_eqI (y := nI p) rfl ?_
                refine V_istore (ls' := [(6, .int (nI p)), (10, .int (nI 1)), (9, .int (nI 0)), (8, .int (nI (txI (I 4) p))), (0, .ref 41), (1, .ref 4), (2, .int (nI n)), (3, .int (nI p0)), (4, .int (nI y)), (5, .int (nI x)), (7, .int (nI i))]) dX5_readRow_161 (by decide) rfl ?_
                refine V_aload_n dX5_readRow_163 rfl ?_
                refine V_iload_n dX5_readRow_164 rfl ?_
                refine V_iload dX5_readRow_165 rfl ?_
                refine V_callS (As := [.ref 4, .int (nI n), .int (nI p)]) (st := []) dX5_readRow_167 kX5_signAt lX5_45 (by decide) rfl rfl (Nat.le_of_ble_eq_true rfl) ⟨Nat.le_of_ble_eq_true rfl, Nat.le_of_ble_eq_true rfl⟩ (c_signAtY (I := I1) hin (by omega)) ?_
                rintro _ _ _ _ ⟨rfl, rfl, rfl, rfl⟩
                have e4 : I1 4 = I 4 := ho 4 (by decide) (by decide)
                rw [e4]
                have htp := txI_lt (f := I 4) (p := p)
                refine V_istore (ls' := [(11, .int (nI (txI (I 4) p))), (6, .int (nI p)), (10, .int (nI 1)), (9, .int (nI 0)), (8, .int (nI (txI (I 4) p))), (0, .ref 41), (1, .ref 4), (2, .int (nI n)), (3, .int (nI p0)), (4, .int (nI y)), (5, .int (nI x)), (7, .int (nI i))]) dX5_readRow_170 (by decide) rfl ?_
                refine V_iload dX5_readRow_172 rfl ?_
                refine V_callS (As := [.int (nI (txI (I 4) p))]) (st := []) dX5_readRow_174 kX5_isDigit lX5_49 (by decide) rfl rfl (Nat.le_of_ble_eq_true rfl) ⟨Nat.le_of_ble_eq_true rfl, Nat.le_of_ble_eq_true rfl⟩ (c_isDig (by omega)) ?_
                rintro _ _ _ _ ⟨rfl, rfl, rfl, rfl⟩
                by_cases hdg177 : 48 ≤ txI (I 4) p ∧ txI (I 4) p ≤ 57
                · skip
                  refine V_eqI (y := nI 1) (congrArg nI (if_pos hdg177)) ?_
                  refine V_if_ne (tgt := 188) dX5_readRow_177 rfl (fun _ => ?_) (fun h => absurd h (by decide))
                  refine V_aload_n dX5_readRow_188 rfl ?_
                  refine V_bipush (v := nI 8) dX5_readRow_189 rfl ?_
                  refine V_iload dX5_readRow_191 rfl ?_
                  refine V_imulN dX5_readRow_193 ?_
                  refine V_iload dX5_readRow_194 rfl ?_
                  refine V_iaddN dX5_readRow_196 ?_
                  refine V_iload dX5_readRow_197 rfl ?_
                  refine V_iload dX5_readRow_199 rfl ?_
                  refine V_bipush (v := nI 48) dX5_readRow_201 rfl ?_
                  refine V_isubN dX5_readRow_203 (by omega) ?_
                  refine V_callV (As := [.int (nI ((8 * y) + x)), .int (nI 1), .int (nI (txI (I 4) p - 48))]) (st := []) (a := 41) dX5_readRow_204 kX5_put lX5_56 (by decide) rfl rfl (Nat.le_of_ble_eq_true rfl) ⟨Nat.le_of_ble_eq_true rfl, Nat.le_of_ble_eq_true rfl⟩ ⟨Nat.le_of_ble_eq_true rfl, Nat.le_of_ble_eq_true rfl⟩ rfl ⟨rfl, by decide⟩ (c_put5 (by omega)) ?_
                  rintro _ _ _ _ ⟨rfl, rfl, rfl, rfl⟩
                  refine V_iload dX5_readRow_207 rfl ?_
                  refine V_iload dX5_readRow_209 rfl ?_
                  refine V_iaddN dX5_readRow_211 ?_
                  refine V_istore (ls' := [(5, .int (nI (x + 1))), (11, .int (nI (txI (I 4) p))), (6, .int (nI p)), (10, .int (nI 1)), (9, .int (nI 0)), (8, .int (nI (txI (I 4) p))), (0, .ref 41), (1, .ref 4), (2, .int (nI n)), (3, .int (nI p0)), (4, .int (nI y)), (7, .int (nI i))]) dX5_readRow_212 (by decide) rfl ?_
                  refine V_iincN (ls' := [(6, .int (nI (p + 1))), (5, .int (nI (x + 1))), (11, .int (nI (txI (I 4) p))), (10, .int (nI 1)), (9, .int (nI 0)), (8, .int (nI (txI (I 4) p))), (0, .ref 41), (1, .ref 4), (2, .int (nI n)), (3, .int (nI p0)), (4, .int (nI y)), (7, .int (nI i))]) (n := 1) dX5_readRow_214 rfl rfl (by decide) (by decide) rfl ?_
                  refine V_iincN (ls' := [(7, .int (nI (i + 1))), (6, .int (nI (p + 1))), (5, .int (nI (x + 1))), (11, .int (nI (txI (I 4) p))), (10, .int (nI 1)), (9, .int (nI 0)), (8, .int (nI (txI (I 4) p))), (0, .ref 41), (1, .ref 4), (2, .int (nI n)), (3, .int (nI p0)), (4, .int (nI y))]) (n := 1) dX5_readRow_217 rfl rfl (by decide) (by decide) rfl ?_
                  refine V_goto (tgt := 9) dX5_readRow_220 rfl ?_
                  refine V_sub2 (ls' := [(0, .ref 41), (1, .ref 4), (2, .int (nI n)), (3, .int (nI p0)), (4, .int (nI y)), (5, .int (nI (x + 1))), (6, .int (nI (p + 1))), (7, .int (nI (i + 1)))]) (List.forall_mem_cons.mpr ⟨rfl, List.forall_mem_cons.mpr ⟨rfl, List.forall_mem_cons.mpr ⟨rfl, List.forall_mem_cons.mpr ⟨rfl, List.forall_mem_cons.mpr ⟨rfl, List.forall_mem_cons.mpr ⟨rfl, List.forall_mem_cons.mpr ⟨rfl, List.forall_mem_cons.mpr ⟨rfl, fun _ h => absurd h List.not_mem_nil⟩⟩⟩⟩⟩⟩⟩⟩) ?_
                  have e : gRow (txI (I 4)) n y (k + 1) x p f = gRow (txI (I 4)) n y k (x + 1) (p + 1) (gPut f ((8 * y) + x) (1) (txI (I 4) p - 48)) := by
                    first
                    | (exfalso; omega; done)
                    | (conv => lhs; unfold gRow
                       rw [sgn_in hin, sgn_out hin2]
                       (repeat' first | rw [if_pos (by omega)] | rw [if_neg (by omega)]))
                  rw [e]
                  refine ih (i + 1) (x + 1) (p + 1) _ _ (by omega) (by omega) (by omega) (by omega) (fun a h1 h2 => (zup_n h2).trans (ho a h1 h2)) ((zup_n (by decide)).trans h41) ?_
                  intro j hj
                  rw [zup_s]
                  unfold zfi5 gPut
                  by_cases hj2 : (8 * y) + x ≤ j ∧ j < (8 * y) + x + 1
                  · rw [if_pos hj2, if_pos hj2]
                  · rw [if_neg hj2, if_neg hj2]; exact h43 j hj
                · skip
                  refine V_eqI (y := nI 0) (congrArg nI (if_neg hdg177)) ?_
                  refine V_if_ne (tgt := 188) dX5_readRow_177 rfl (fun h => absurd rfl h) (fun _ => ?_)
                  refine V_aload_n dX5_readRow_180 rfl ?_
                  refine V_iconst (v := nI 1) dX5_readRow_181 rfl ?_
                  refine V_iload dX5_readRow_182 rfl ?_
                  refine V_callV (As := [.int (nI 1), .int (nI p)]) (st := []) (a := 41) dX5_readRow_184 kX5_refuse lX5_53 (by decide) rfl rfl (Nat.le_of_ble_eq_true rfl) ⟨Nat.le_of_ble_eq_true rfl, Nat.le_of_ble_eq_true rfl⟩ ⟨Nat.le_of_ble_eq_true rfl, Nat.le_of_ble_eq_true rfl⟩ rfl ⟨rfl, by decide⟩ c_refuse5 ?_
                  rintro _ _ _ _ ⟨rfl, rfl, rfl, rfl⟩
                  exact V_iret ⟨Or.inl rfl, dX5_readRow_187⟩ ⟨Nat.le_of_ble_eq_true rfl, Nat.le_of_ble_eq_true rfl⟩ (by first | (exfalso; omega; done) | exact (by have e : gRow (txI (I 4)) n y (k + 1) x p f = (_, _, f) := (by unfold gRow; rw [sgn_in hin, sgn_out hin2]; (repeat' first | rw [if_pos (by omega)] | rw [if_neg (by omega)]) <;> rfl); rw [e]; exact ⟨rfl, rfl, fun a h1 h2 => (zup_n h1).trans (ho a h1 h2), fun j hj => zwr_at.trans ((if_neg (fun h => hj h.2)).trans (congrFun h41 j)), zwr_at.trans (if_pos ⟨rfl, rfl⟩), h43, rfl⟩))
              · skip
                refine V_aload_n dX5_readRow_139 rfl ?_
                refine V_bipush (v := nI 6) dX5_readRow_140 rfl ?_
                refine V_iload dX5_readRow_142 rfl ?_
                refine V_callV (As := [.int (nI 6), .int (nI p)]) (st := []) (a := 41) dX5_readRow_144 kX5_refuse lX5_53 (by decide) rfl rfl (Nat.le_of_ble_eq_true rfl) ⟨Nat.le_of_ble_eq_true rfl, Nat.le_of_ble_eq_true rfl⟩ ⟨Nat.le_of_ble_eq_true rfl, Nat.le_of_ble_eq_true rfl⟩ rfl ⟨rfl, by decide⟩ c_refuse5 ?_
                rintro _ _ _ _ ⟨rfl, rfl, rfl, rfl⟩
                exact V_iret ⟨Or.inl rfl, dX5_readRow_147⟩ ⟨Nat.le_of_ble_eq_true rfl, Nat.le_of_ble_eq_true rfl⟩ (by first | (exfalso; omega; done) | exact (by have e : gRow (txI (I 4)) n y (k + 1) x p f = (_, _, f) := (by unfold gRow; rw [sgn_in hin, sgn_out hin2]; (repeat' first | rw [if_pos (by omega)] | rw [if_neg (by omega)]) <;> rfl); rw [e]; exact ⟨rfl, rfl, fun a h1 h2 => (zup_n h1).trans (ho a h1 h2), fun j hj => zwr_at.trans ((if_neg (fun h => hj h.2)).trans (congrFun h41 j)), zwr_at.trans (if_pos ⟨rfl, rfl⟩), h43, rfl⟩))
            · skip
              refine V_eqI (y := nI 0) (congrArg nI (if_neg hdg56)) ?_
              refine V_if_ne (tgt := 111) dX5_readRow_56 rfl (fun h => absurd rfl h) (fun _ => ?_)
              refine V_iload dX5_readRow_59 rfl ?_
              refine V_iload dX5_readRow_61 rfl ?_
              refine V_bipush (v := nI 7) dX5_readRow_63 rfl ?_
              refine V_icmp_neN (tgt := 72) dX5_readRow_65 rfl (by omega) (by omega) (fun h65 => ?_) (fun h65 => ?_)
              · skip
                refine V_bipush (v := nI 47) dX5_readRow_72 rfl ?_
                refine V_icmp_neN (tgt := 81) dX5_readRow_74 rfl (by omega) (by omega) (fun h74 => ?_) (fun h74 => ?_)
                · skip
                  refine V_iconst (v := nI 0) dX5_readRow_81 rfl ?_
                  refine V_istore (ls' := [(10, .int (nI 0)), (9, .int (nI 0)), (8, .int (nI (txI (I 4) p))), (0, .ref 41), (1, .ref 4), (2, .int (nI n)), (3, .int (nI p0)), (4, .int (nI y)), (5, .int (nI x)), (6, .int (nI p)), (7, .int (nI i))]) dX5_readRow_82 (by decide) rfl ?_
                  refine V_iload dX5_readRow_84 rfl ?_
                  refine V_bipush (v := nI 8) dX5_readRow_86 rfl ?_
                  refine V_icmp_neN (tgt := 103) dX5_readRow_88 rfl (by omega) (by omega) (fun h88 => ?_) (fun h88 => ?_)
                  · skip
                    refine V_aload_n dX5_readRow_103 rfl ?_
                    refine V_iconst (v := nI 1) dX5_readRow_104 rfl ?_
                    refine V_iload dX5_readRow_105 rfl ?_
                    refine V_callV (As := [.int (nI 1), .int (nI p)]) (st := []) (a := 41) dX5_readRow_107 kX5_refuse lX5_53 (by decide) rfl rfl (Nat.le_of_ble_eq_true rfl) ⟨Nat.le_of_ble_eq_true rfl, Nat.le_of_ble_eq_true rfl⟩ ⟨Nat.le_of_ble_eq_true rfl, Nat.le_of_ble_eq_true rfl⟩ rfl ⟨rfl, by decide⟩ c_refuse5 ?_
                    rintro _ _ _ _ ⟨rfl, rfl, rfl, rfl⟩
                    exact V_iret ⟨Or.inl rfl, dX5_readRow_110⟩ ⟨Nat.le_of_ble_eq_true rfl, Nat.le_of_ble_eq_true rfl⟩ (by first | (exfalso; omega; done) | exact (by have e : gRow (txI (I 4)) n y (k + 1) x p f = (_, _, f) := (by unfold gRow; rw [sgn_in hin, sgn_out hin2]; (repeat' first | rw [if_pos (by omega)] | rw [if_neg (by omega)]) <;> rfl); rw [e]; exact ⟨rfl, rfl, fun a h1 h2 => (zup_n h1).trans (ho a h1 h2), fun j hj => zwr_at.trans ((if_neg (fun h => hj h.2)).trans (congrFun h41 j)), zwr_at.trans (if_pos ⟨rfl, rfl⟩), h43, rfl⟩))
                  · skip
                    refine V_iload dX5_readRow_91 rfl ?_
                    refine V_if_eq (tgt := 103) dX5_readRow_93 rfl (fun _ => ?_) (fun h => absurd h (by decide))
                    refine V_aload_n dX5_readRow_103 rfl ?_
                    refine V_iconst (v := nI 1) dX5_readRow_104 rfl ?_
                    refine V_iload dX5_readRow_105 rfl ?_
                    refine V_callV (As := [.int (nI 1), .int (nI p)]) (st := []) (a := 41) dX5_readRow_107 kX5_refuse lX5_53 (by decide) rfl rfl (Nat.le_of_ble_eq_true rfl) ⟨Nat.le_of_ble_eq_true rfl, Nat.le_of_ble_eq_true rfl⟩ ⟨Nat.le_of_ble_eq_true rfl, Nat.le_of_ble_eq_true rfl⟩ rfl ⟨rfl, by decide⟩ c_refuse5 ?_
                    rintro _ _ _ _ ⟨rfl, rfl, rfl, rfl⟩
                    exact V_iret ⟨Or.inl rfl, dX5_readRow_110⟩ ⟨Nat.le_of_ble_eq_true rfl, Nat.le_of_ble_eq_true rfl⟩ (by first | (exfalso; omega; done) | exact (by have e : gRow (txI (I 4)) n y (k + 1) x p f = (_, _, f) := (by unfold gRow; rw [sgn_in hin, sgn_out hin2]; (repeat' first | rw [if_pos (by omega)] | rw [if_neg (by omega)]) <;> rfl); rw [e]; exact ⟨rfl, rfl, fun a h1 h2 => (zup_n h1).trans (ho a h1 h2), fun j hj => zwr_at.trans ((if_neg (fun h => hj h.2)).trans (congrFun h41 j)), zwr_at.trans (if_pos ⟨rfl, rfl⟩), h43, rfl⟩))
                · skip
                  refine V_iconst (v := nI 1) dX5_readRow_77 rfl ?_
                  refine V_goto (tgt := 82) dX5_readRow_78 rfl ?_
                  refine V_istore (ls' := [(10, .int (nI 1)), (9, .int (nI 0)), (8, .int (nI (txI (I 4) p))), (0, .ref 41), (1, .ref 4), (2, .int (nI n)), (3, .int (nI p0)), (4, .int (nI y)), (5, .int (nI x)), (6, .int (nI p)), (7, .int (nI i))]) dX5_readRow_82 (by decide) rfl ?_
                  refine V_iload dX5_readRow_84 rfl ?_
                  refine V_bipush (v := nI 8) dX5_readRow_86 rfl ?_
                  refine V_icmp_neN (tgt := 103) dX5_readRow_88 rfl (by omega) (by omega) (fun h88 => ?_) (fun h88 => ?_)
                  · skip
                    refine V_aload_n dX5_readRow_103 rfl ?_
                    refine V_iconst (v := nI 1) dX5_readRow_104 rfl ?_
                    refine V_iload dX5_readRow_105 rfl ?_
                    refine V_callV (As := [.int (nI 1), .int (nI p)]) (st := []) (a := 41) dX5_readRow_107 kX5_refuse lX5_53 (by decide) rfl rfl (Nat.le_of_ble_eq_true rfl) ⟨Nat.le_of_ble_eq_true rfl, Nat.le_of_ble_eq_true rfl⟩ ⟨Nat.le_of_ble_eq_true rfl, Nat.le_of_ble_eq_true rfl⟩ rfl ⟨rfl, by decide⟩ c_refuse5 ?_
                    rintro _ _ _ _ ⟨rfl, rfl, rfl, rfl⟩
                    exact V_iret ⟨Or.inl rfl, dX5_readRow_110⟩ ⟨Nat.le_of_ble_eq_true rfl, Nat.le_of_ble_eq_true rfl⟩ (by first | (exfalso; omega; done) | exact (by have e : gRow (txI (I 4)) n y (k + 1) x p f = (_, _, f) := (by unfold gRow; rw [sgn_in hin, sgn_out hin2]; (repeat' first | rw [if_pos (by omega)] | rw [if_neg (by omega)]) <;> rfl); rw [e]; exact ⟨rfl, rfl, fun a h1 h2 => (zup_n h1).trans (ho a h1 h2), fun j hj => zwr_at.trans ((if_neg (fun h => hj h.2)).trans (congrFun h41 j)), zwr_at.trans (if_pos ⟨rfl, rfl⟩), h43, rfl⟩))
                  · skip
                    refine V_iload dX5_readRow_91 rfl ?_
                    refine V_if_eq (tgt := 103) dX5_readRow_93 rfl (fun h => absurd h (by decide)) (fun _ => ?_)
                    refine V_iload dX5_readRow_96 rfl ?_
                    refine V_iconst (v := nI 1) dX5_readRow_98 rfl ?_
                    refine V_iaddN dX5_readRow_99 ?_
                    refine V_goto (tgt := 110) dX5_readRow_100 rfl ?_
                    exact V_iret ⟨Or.inl rfl, dX5_readRow_110⟩ ⟨Nat.le_of_ble_eq_true rfl, Nat.le_of_ble_eq_true rfl⟩ (by first | (exfalso; omega; done) | exact (by have e : gRow (txI (I 4)) n y (k + 1) x p f = (0, p + 1, f) := (by unfold gRow; rw [sgn_in hin, sgn_out hin2]; (repeat' first | rw [if_pos (by omega)] | rw [if_neg (by omega)]) <;> rfl); rw [e]; exact ⟨rfl, rfl, ho, fun j _ => congrFun h41 j, congrFun h41 2, h43, rfl⟩))
              · skip
                refine V_iconst (v := (-1)) dX5_readRow_68 rfl ?_
                refine V_goto (tgt := 74) dX5_readRow_69 rfl ?_
                refine V_icmp_ne (tgt := 81) dX5_readRow_74 rfl (fun _ => ?_) (fun h => absurd h (nI_ne_neg (by omega) (by decide)))
                refine V_iconst (v := nI 0) dX5_readRow_81 rfl ?_
                refine V_istore (ls' := [(10, .int (nI 0)), (9, .int (nI 0)), (8, .int (nI (txI (I 4) p))), (0, .ref 41), (1, .ref 4), (2, .int (nI n)), (3, .int (nI p0)), (4, .int (nI y)), (5, .int (nI x)), (6, .int (nI p)), (7, .int (nI i))]) dX5_readRow_82 (by decide) rfl ?_
                refine V_iload dX5_readRow_84 rfl ?_
                refine V_bipush (v := nI 8) dX5_readRow_86 rfl ?_
                refine V_icmp_neN (tgt := 103) dX5_readRow_88 rfl (by omega) (by omega) (fun h88 => ?_) (fun h88 => ?_)
                · skip
                  refine V_aload_n dX5_readRow_103 rfl ?_
                  refine V_iconst (v := nI 1) dX5_readRow_104 rfl ?_
                  refine V_iload dX5_readRow_105 rfl ?_
                  refine V_callV (As := [.int (nI 1), .int (nI p)]) (st := []) (a := 41) dX5_readRow_107 kX5_refuse lX5_53 (by decide) rfl rfl (Nat.le_of_ble_eq_true rfl) ⟨Nat.le_of_ble_eq_true rfl, Nat.le_of_ble_eq_true rfl⟩ ⟨Nat.le_of_ble_eq_true rfl, Nat.le_of_ble_eq_true rfl⟩ rfl ⟨rfl, by decide⟩ c_refuse5 ?_
                  rintro _ _ _ _ ⟨rfl, rfl, rfl, rfl⟩
                  exact V_iret ⟨Or.inl rfl, dX5_readRow_110⟩ ⟨Nat.le_of_ble_eq_true rfl, Nat.le_of_ble_eq_true rfl⟩ (by first | (exfalso; omega; done) | exact (by have e : gRow (txI (I 4)) n y (k + 1) x p f = (_, _, f) := (by unfold gRow; rw [sgn_in hin, sgn_out hin2]; (repeat' first | rw [if_pos (by omega)] | rw [if_neg (by omega)]) <;> rfl); rw [e]; exact ⟨rfl, rfl, fun a h1 h2 => (zup_n h1).trans (ho a h1 h2), fun j hj => zwr_at.trans ((if_neg (fun h => hj h.2)).trans (congrFun h41 j)), zwr_at.trans (if_pos ⟨rfl, rfl⟩), h43, rfl⟩))
                · skip
                  refine V_iload dX5_readRow_91 rfl ?_
                  refine V_if_eq (tgt := 103) dX5_readRow_93 rfl (fun _ => ?_) (fun h => absurd h (by decide))
                  refine V_aload_n dX5_readRow_103 rfl ?_
                  refine V_iconst (v := nI 1) dX5_readRow_104 rfl ?_
                  refine V_iload dX5_readRow_105 rfl ?_
                  refine V_callV (As := [.int (nI 1), .int (nI p)]) (st := []) (a := 41) dX5_readRow_107 kX5_refuse lX5_53 (by decide) rfl rfl (Nat.le_of_ble_eq_true rfl) ⟨Nat.le_of_ble_eq_true rfl, Nat.le_of_ble_eq_true rfl⟩ ⟨Nat.le_of_ble_eq_true rfl, Nat.le_of_ble_eq_true rfl⟩ rfl ⟨rfl, by decide⟩ c_refuse5 ?_
                  rintro _ _ _ _ ⟨rfl, rfl, rfl, rfl⟩
                  exact V_iret ⟨Or.inl rfl, dX5_readRow_110⟩ ⟨Nat.le_of_ble_eq_true rfl, Nat.le_of_ble_eq_true rfl⟩ (by first | (exfalso; omega; done) | exact (by have e : gRow (txI (I 4)) n y (k + 1) x p f = (_, _, f) := (by unfold gRow; rw [sgn_in hin, sgn_out hin2]; (repeat' first | rw [if_pos (by omega)] | rw [if_neg (by omega)]) <;> rfl); rw [e]; exact ⟨rfl, rfl, fun a h1 h2 => (zup_n h1).trans (ho a h1 h2), fun j hj => zwr_at.trans ((if_neg (fun h => hj h.2)).trans (congrFun h41 j)), zwr_at.trans (if_pos ⟨rfl, rfl⟩), h43, rfl⟩))
          · skip
            refine V_iconst (v := nI 1) dX5_readRow_39 rfl ?_
            refine V_goto (tgt := 44) dX5_readRow_40 rfl ?_
            refine V_istore (ls' := [(9, .int (nI 1)), (8, .int (nI (txI (I 4) p))), (0, .ref 41), (1, .ref 4), (2, .int (nI n)), (3, .int (nI p0)), (4, .int (nI y)), (5, .int (nI x)), (6, .int (nI p)), (7, .int (nI i))]) dX5_readRow_44 (by decide) rfl ?_
            refine V_iload dX5_readRow_46 rfl ?_
            refine V_if_ne (tgt := 111) dX5_readRow_48 rfl (fun _ => ?_) (fun h => absurd h (by decide))
            refine V_iload dX5_readRow_111 rfl ?_
            refine V_if_eq (tgt := 126) dX5_readRow_113 rfl (fun h => absurd h (by decide)) (fun _ => ?_)
            refine V_iload dX5_readRow_116 rfl ?_
            refine V_bipush (v := nI 97) dX5_readRow_118 rfl ?_
            refine V_isubN dX5_readRow_120 (by omega) ?_
            refine V_iconst (v := nI 1) dX5_readRow_121 rfl ?_
            refine V_iaddN dX5_readRow_122 ?_
            refine V_goto (tgt := 127) dX5_readRow_123 rfl ?_
            refine V_istore (ls' := [(10, .int (nI (((txI (I 4) p) - 97) + 1))), (9, .int (nI 1)), (8, .int (nI (txI (I 4) p))), (0, .ref 41), (1, .ref 4), (2, .int (nI n)), (3, .int (nI p0)), (4, .int (nI y)), (5, .int (nI x)), (6, .int (nI p)), (7, .int (nI i))]) dX5_readRow_127 (by decide) rfl ?_
            refine V_iload dX5_readRow_129 rfl ?_
            refine V_iload dX5_readRow_131 rfl ?_
            refine V_iaddN dX5_readRow_133 ?_
            refine V_bipush (v := nI 8) dX5_readRow_134 rfl ?_
            refine V_icmp_leN (tgt := 148) dX5_readRow_136 rfl (by omega) (by omega) (fun h136 => ?_) (fun h136 => ?_)
            · skip
              refine V_iload dX5_readRow_148 rfl ?_
              refine V_iload dX5_readRow_150 rfl ?_
              refine V_if_eq (tgt := 159) dX5_readRow_152 rfl (fun h => absurd h (by decide)) (fun _ => ?_)
              refine V_iconst (v := nI 1) dX5_readRow_155 rfl ?_
              refine V_goto (tgt := 160) dX5_readRow_156 rfl ?_
              refine V_iaddN dX5_readRow_160 ?_
              refine V_istore (ls' := [(6, .int (nI (p + 1))), (10, .int (nI (((txI (I 4) p) - 97) + 1))), (9, .int (nI 1)), (8, .int (nI (txI (I 4) p))), (0, .ref 41), (1, .ref 4), (2, .int (nI n)), (3, .int (nI p0)), (4, .int (nI y)), (5, .int (nI x)), (7, .int (nI i))]) dX5_readRow_161 (by decide) rfl ?_
              refine V_aload_n dX5_readRow_163 rfl ?_
              refine V_iload_n dX5_readRow_164 rfl ?_
              refine V_iload dX5_readRow_165 rfl ?_
              refine V_callS (As := [.ref 4, .int (nI n), .int (nI (p + 1))]) (st := []) dX5_readRow_167 kX5_signAt lX5_45 (by decide) rfl rfl (Nat.le_of_ble_eq_true rfl) ⟨Nat.le_of_ble_eq_true rfl, Nat.le_of_ble_eq_true rfl⟩ (c_signAtN (I := I1) hin2 (by omega) (by omega)) ?_
              rintro _ _ _ _ ⟨rfl, rfl, rfl, rfl⟩
              refine V_istore (ls' := [(11, .int (-1)), (6, .int (nI (p + 1))), (10, .int (nI (((txI (I 4) p) - 97) + 1))), (9, .int (nI 1)), (8, .int (nI (txI (I 4) p))), (0, .ref 41), (1, .ref 4), (2, .int (nI n)), (3, .int (nI p0)), (4, .int (nI y)), (5, .int (nI x)), (7, .int (nI i))]) dX5_readRow_170 (by decide) rfl ?_
              refine V_iload dX5_readRow_172 rfl ?_
              refine V_callS (As := [.int (-1)]) (st := []) dX5_readRow_174 kX5_isDigit lX5_49 (by decide) rfl rfl (Nat.le_of_ble_eq_true rfl) ⟨Nat.le_of_ble_eq_true rfl, Nat.le_of_ble_eq_true rfl⟩ c_isDigN ?_
              rintro _ _ _ _ ⟨rfl, rfl, rfl, rfl⟩
              refine V_if_ne (tgt := 188) dX5_readRow_177 rfl (fun h => absurd h (by decide)) (fun _ => ?_)
              refine V_aload_n dX5_readRow_180 rfl ?_
              refine V_iconst (v := nI 1) dX5_readRow_181 rfl ?_
              refine V_iload dX5_readRow_182 rfl ?_
              refine V_callV (As := [.int (nI 1), .int (nI (p + 1))]) (st := []) (a := 41) dX5_readRow_184 kX5_refuse lX5_53 (by decide) rfl rfl (Nat.le_of_ble_eq_true rfl) ⟨Nat.le_of_ble_eq_true rfl, Nat.le_of_ble_eq_true rfl⟩ ⟨Nat.le_of_ble_eq_true rfl, Nat.le_of_ble_eq_true rfl⟩ rfl ⟨rfl, by decide⟩ c_refuse5 ?_
              rintro _ _ _ _ ⟨rfl, rfl, rfl, rfl⟩
              exact V_iret ⟨Or.inl rfl, dX5_readRow_187⟩ ⟨Nat.le_of_ble_eq_true rfl, Nat.le_of_ble_eq_true rfl⟩ (by first | (exfalso; omega; done) | exact (by have e : gRow (txI (I 4)) n y (k + 1) x p f = (_, _, f) := (by unfold gRow; rw [sgn_in hin, sgn_out hin2]; (repeat' first | rw [if_pos (by omega)] | rw [if_neg (by omega)]) <;> rfl); rw [e]; exact ⟨rfl, rfl, fun a h1 h2 => (zup_n h1).trans (ho a h1 h2), fun j hj => zwr_at.trans ((if_neg (fun h => hj h.2)).trans (congrFun h41 j)), zwr_at.trans (if_pos ⟨rfl, rfl⟩), h43, rfl⟩))
            · skip
              refine V_aload_n dX5_readRow_139 rfl ?_
              refine V_bipush (v := nI 6) dX5_readRow_140 rfl ?_
              refine V_iload dX5_readRow_142 rfl ?_
              refine V_callV (As := [.int (nI 6), .int (nI p)]) (st := []) (a := 41) dX5_readRow_144 kX5_refuse lX5_53 (by decide) rfl rfl (Nat.le_of_ble_eq_true rfl) ⟨Nat.le_of_ble_eq_true rfl, Nat.le_of_ble_eq_true rfl⟩ ⟨Nat.le_of_ble_eq_true rfl, Nat.le_of_ble_eq_true rfl⟩ rfl ⟨rfl, by decide⟩ c_refuse5 ?_
              rintro _ _ _ _ ⟨rfl, rfl, rfl, rfl⟩
              exact V_iret ⟨Or.inl rfl, dX5_readRow_147⟩ ⟨Nat.le_of_ble_eq_true rfl, Nat.le_of_ble_eq_true rfl⟩ (by first | (exfalso; omega; done) | exact (by have e : gRow (txI (I 4)) n y (k + 1) x p f = (_, _, f) := (by unfold gRow; rw [sgn_in hin, sgn_out hin2]; (repeat' first | rw [if_pos (by omega)] | rw [if_neg (by omega)]) <;> rfl); rw [e]; exact ⟨rfl, rfl, fun a h1 h2 => (zup_n h1).trans (ho a h1 h2), fun j hj => zwr_at.trans ((if_neg (fun h => hj h.2)).trans (congrFun h41 j)), zwr_at.trans (if_pos ⟨rfl, rfl⟩), h43, rfl⟩))
    · skip
      refine V_iload dX5_readRow_9 rfl ?_
      refine V_bipush (v := nI 8) dX5_readRow_11 rfl ?_
      refine V_icmp_gtN (tgt := 223) dX5_readRow_13 rfl (by omega) (by omega) (fun h => absurd h (by omega)) (fun _ => ?_)
      refine V_aload_n dX5_readRow_16 rfl ?_
      refine V_iload_n dX5_readRow_17 rfl ?_
      refine V_iload dX5_readRow_18 rfl ?_
      refine V_callS (As := [.ref 4, .int (nI n), .int (nI p)]) (st := []) dX5_readRow_20 kX5_signAt lX5_45 (by decide) rfl rfl (Nat.le_of_ble_eq_true rfl) ⟨Nat.le_of_ble_eq_true rfl, Nat.le_of_ble_eq_true rfl⟩ (c_signAtN (I := I1) hin (by omega) (by omega)) ?_
      rintro _ _ _ _ ⟨rfl, rfl, rfl, rfl⟩
      refine V_istore (ls' := [(8, .int (-1)), (0, .ref 41), (1, .ref 4), (2, .int (nI n)), (3, .int (nI p0)), (4, .int (nI y)), (5, .int (nI x)), (6, .int (nI p)), (7, .int (nI i))]) dX5_readRow_23 (by decide) rfl ?_
      refine V_iload dX5_readRow_25 rfl ?_
      refine V_bipush (v := nI 97) dX5_readRow_27 rfl ?_
      refine V_icmp_lt (tgt := 43) dX5_readRow_29 rfl (fun _ => ?_) (fun h => absurd h (by decide))
      refine V_iconst (v := nI 0) dX5_readRow_43 rfl ?_
      refine V_istore (ls' := [(9, .int (nI 0)), (8, .int (-1)), (0, .ref 41), (1, .ref 4), (2, .int (nI n)), (3, .int (nI p0)), (4, .int (nI y)), (5, .int (nI x)), (6, .int (nI p)), (7, .int (nI i))]) dX5_readRow_44 (by decide) rfl ?_
      refine V_iload dX5_readRow_46 rfl ?_
      refine V_if_ne (tgt := 111) dX5_readRow_48 rfl (fun h => absurd h (by decide)) (fun _ => ?_)
      refine V_iload dX5_readRow_51 rfl ?_
      refine V_callS (As := [.int (-1)]) (st := []) dX5_readRow_53 kX5_isDigit lX5_49 (by decide) rfl rfl (Nat.le_of_ble_eq_true rfl) ⟨Nat.le_of_ble_eq_true rfl, Nat.le_of_ble_eq_true rfl⟩ c_isDigN ?_
      rintro _ _ _ _ ⟨rfl, rfl, rfl, rfl⟩
      refine V_if_ne (tgt := 111) dX5_readRow_56 rfl (fun h => absurd h (by decide)) (fun _ => ?_)
      refine V_iload dX5_readRow_59 rfl ?_
      refine V_iload dX5_readRow_61 rfl ?_
      refine V_bipush (v := nI 7) dX5_readRow_63 rfl ?_
      refine V_icmp_neN (tgt := 72) dX5_readRow_65 rfl (by omega) (by omega) (fun h65 => ?_) (fun h65 => ?_)
      · skip
        refine V_bipush (v := nI 47) dX5_readRow_72 rfl ?_
        refine V_icmp_ne (tgt := 81) dX5_readRow_74 rfl (fun _ => ?_) (fun h => absurd h (by decide))
        refine V_iconst (v := nI 0) dX5_readRow_81 rfl ?_
        refine V_istore (ls' := [(10, .int (nI 0)), (9, .int (nI 0)), (8, .int (-1)), (0, .ref 41), (1, .ref 4), (2, .int (nI n)), (3, .int (nI p0)), (4, .int (nI y)), (5, .int (nI x)), (6, .int (nI p)), (7, .int (nI i))]) dX5_readRow_82 (by decide) rfl ?_
        refine V_iload dX5_readRow_84 rfl ?_
        refine V_bipush (v := nI 8) dX5_readRow_86 rfl ?_
        refine V_icmp_neN (tgt := 103) dX5_readRow_88 rfl (by omega) (by omega) (fun h88 => ?_) (fun h88 => ?_)
        · skip
          refine V_aload_n dX5_readRow_103 rfl ?_
          refine V_iconst (v := nI 1) dX5_readRow_104 rfl ?_
          refine V_iload dX5_readRow_105 rfl ?_
          refine V_callV (As := [.int (nI 1), .int (nI p)]) (st := []) (a := 41) dX5_readRow_107 kX5_refuse lX5_53 (by decide) rfl rfl (Nat.le_of_ble_eq_true rfl) ⟨Nat.le_of_ble_eq_true rfl, Nat.le_of_ble_eq_true rfl⟩ ⟨Nat.le_of_ble_eq_true rfl, Nat.le_of_ble_eq_true rfl⟩ rfl ⟨rfl, by decide⟩ c_refuse5 ?_
          rintro _ _ _ _ ⟨rfl, rfl, rfl, rfl⟩
          exact V_iret ⟨Or.inl rfl, dX5_readRow_110⟩ ⟨Nat.le_of_ble_eq_true rfl, Nat.le_of_ble_eq_true rfl⟩ (by first | (exfalso; omega; done) | exact (by have e : gRow (txI (I 4)) n y (k + 1) x p f = (_, _, f) := (by unfold gRow; rw [sgn_out hin]; (repeat' first | rw [if_pos (by omega)] | rw [if_neg (by omega)]) <;> rfl); rw [e]; exact ⟨rfl, rfl, fun a h1 h2 => (zup_n h1).trans (ho a h1 h2), fun j hj => zwr_at.trans ((if_neg (fun h => hj h.2)).trans (congrFun h41 j)), zwr_at.trans (if_pos ⟨rfl, rfl⟩), h43, rfl⟩))
        · skip
          refine V_iload dX5_readRow_91 rfl ?_
          refine V_if_eq (tgt := 103) dX5_readRow_93 rfl (fun _ => ?_) (fun h => absurd h (by decide))
          refine V_aload_n dX5_readRow_103 rfl ?_
          refine V_iconst (v := nI 1) dX5_readRow_104 rfl ?_
          refine V_iload dX5_readRow_105 rfl ?_
          refine V_callV (As := [.int (nI 1), .int (nI p)]) (st := []) (a := 41) dX5_readRow_107 kX5_refuse lX5_53 (by decide) rfl rfl (Nat.le_of_ble_eq_true rfl) ⟨Nat.le_of_ble_eq_true rfl, Nat.le_of_ble_eq_true rfl⟩ ⟨Nat.le_of_ble_eq_true rfl, Nat.le_of_ble_eq_true rfl⟩ rfl ⟨rfl, by decide⟩ c_refuse5 ?_
          rintro _ _ _ _ ⟨rfl, rfl, rfl, rfl⟩
          exact V_iret ⟨Or.inl rfl, dX5_readRow_110⟩ ⟨Nat.le_of_ble_eq_true rfl, Nat.le_of_ble_eq_true rfl⟩ (by first | (exfalso; omega; done) | exact (by have e : gRow (txI (I 4)) n y (k + 1) x p f = (_, _, f) := (by unfold gRow; rw [sgn_out hin]; (repeat' first | rw [if_pos (by omega)] | rw [if_neg (by omega)]) <;> rfl); rw [e]; exact ⟨rfl, rfl, fun a h1 h2 => (zup_n h1).trans (ho a h1 h2), fun j hj => zwr_at.trans ((if_neg (fun h => hj h.2)).trans (congrFun h41 j)), zwr_at.trans (if_pos ⟨rfl, rfl⟩), h43, rfl⟩))
      · skip
        refine V_iconst (v := (-1)) dX5_readRow_68 rfl ?_
        refine V_goto (tgt := 74) dX5_readRow_69 rfl ?_
        refine V_icmp_ne (tgt := 81) dX5_readRow_74 rfl (fun h => absurd h (by decide)) (fun _ => ?_)
        refine V_iconst (v := nI 1) dX5_readRow_77 rfl ?_
        refine V_goto (tgt := 82) dX5_readRow_78 rfl ?_
        refine V_istore (ls' := [(10, .int (nI 1)), (9, .int (nI 0)), (8, .int (-1)), (0, .ref 41), (1, .ref 4), (2, .int (nI n)), (3, .int (nI p0)), (4, .int (nI y)), (5, .int (nI x)), (6, .int (nI p)), (7, .int (nI i))]) dX5_readRow_82 (by decide) rfl ?_
        refine V_iload dX5_readRow_84 rfl ?_
        refine V_bipush (v := nI 8) dX5_readRow_86 rfl ?_
        refine V_icmp_neN (tgt := 103) dX5_readRow_88 rfl (by omega) (by omega) (fun h88 => ?_) (fun h88 => ?_)
        · skip
          refine V_aload_n dX5_readRow_103 rfl ?_
          refine V_iconst (v := nI 1) dX5_readRow_104 rfl ?_
          refine V_iload dX5_readRow_105 rfl ?_
          refine V_callV (As := [.int (nI 1), .int (nI p)]) (st := []) (a := 41) dX5_readRow_107 kX5_refuse lX5_53 (by decide) rfl rfl (Nat.le_of_ble_eq_true rfl) ⟨Nat.le_of_ble_eq_true rfl, Nat.le_of_ble_eq_true rfl⟩ ⟨Nat.le_of_ble_eq_true rfl, Nat.le_of_ble_eq_true rfl⟩ rfl ⟨rfl, by decide⟩ c_refuse5 ?_
          rintro _ _ _ _ ⟨rfl, rfl, rfl, rfl⟩
          exact V_iret ⟨Or.inl rfl, dX5_readRow_110⟩ ⟨Nat.le_of_ble_eq_true rfl, Nat.le_of_ble_eq_true rfl⟩ (by first | (exfalso; omega; done) | exact (by have e : gRow (txI (I 4)) n y (k + 1) x p f = (_, _, f) := (by unfold gRow; rw [sgn_out hin]; (repeat' first | rw [if_pos (by omega)] | rw [if_neg (by omega)]) <;> rfl); rw [e]; exact ⟨rfl, rfl, fun a h1 h2 => (zup_n h1).trans (ho a h1 h2), fun j hj => zwr_at.trans ((if_neg (fun h => hj h.2)).trans (congrFun h41 j)), zwr_at.trans (if_pos ⟨rfl, rfl⟩), h43, rfl⟩))
        · skip
          refine V_iload dX5_readRow_91 rfl ?_
          refine V_if_eq (tgt := 103) dX5_readRow_93 rfl (fun h => absurd h (by decide)) (fun _ => ?_)
          refine V_iload dX5_readRow_96 rfl ?_
          refine V_iconst (v := nI 1) dX5_readRow_98 rfl ?_
          refine V_iaddN dX5_readRow_99 ?_
          refine V_goto (tgt := 110) dX5_readRow_100 rfl ?_
          exact V_iret ⟨Or.inl rfl, dX5_readRow_110⟩ ⟨Nat.le_of_ble_eq_true rfl, Nat.le_of_ble_eq_true rfl⟩ (by first | (exfalso; omega; done) | exact (by have e : gRow (txI (I 4)) n y (k + 1) x p f = (0, p + 1, f) := (by unfold gRow; rw [sgn_out hin]; (repeat' first | rw [if_pos (by omega)] | rw [if_neg (by omega)]) <;> rfl); rw [e]; exact ⟨rfl, rfl, ho, fun j _ => congrFun h41 j, congrFun h41 2, h43, rfl⟩))

set_option maxRecDepth 100000 in
set_option maxHeartbeats 4000000 in
theorem c_readRow {G : zG} {I : zI} {J : zJ} {n y p : Nat} (hn : n ≤ 120) (hy : y ≤ 7) (hp : p ≤ 200) {f : Nat → Nat} (h43 : ∀ j, j < 64 → I 43 j = nI (f j)) : zK G mX5_readRow 1 [.ref 41, .ref 4, .int (nI n), .int (nI p), .int (nI y)] zsh I J (zP (fun r I' J' => r = some (.int (nI (gRow (txI (I 4)) n y 9 0 p f).2.1)) ∧ (∀ a, a ≠ 41 → a ≠ 43 → I' a = I a) ∧ (∀ j, j ≠ 2 → I' 41 j = I 41 j) ∧ I' 41 2 = (if (gRow (txI (I 4)) n y 9 0 p f).1 = 0 then I 41 2 else fltI (gRow (txI (I 4)) n y 9 0 p f).1 (gRow (txI (I 4)) n y 9 0 p f).2.1) ∧ (∀ j, j < 64 → I' 43 j = nI ((gRow (txI (I 4)) n y 9 0 p f).2.2 j)) ∧ J = J')) := by
  refine zK_of kX5_readRow.2.2.2.2.1 (Nat.le_of_ble_eq_true rfl) ?_
  show V G mX5_readRow 1 _ 0 [(0, .ref 41), (1, .ref 4), (2, .int (nI n)), (3, .int (nI p)), (4, .int (nI y))] [] (0, 0) zsh I J
  refine V_iconst (v := nI 0) dX5_readRow_0 rfl ?_
  refine V_istore (ls' := [(5, .int (nI 0)), (0, .ref 41), (1, .ref 4), (2, .int (nI n)), (3, .int (nI p)), (4, .int (nI y))]) dX5_readRow_1 (by decide) rfl ?_
  refine V_iload_n dX5_readRow_3 rfl ?_
  refine V_istore (ls' := [(6, .int (nI p)), (5, .int (nI 0)), (0, .ref 41), (1, .ref 4), (2, .int (nI n)), (3, .int (nI p)), (4, .int (nI y))]) dX5_readRow_4 (by decide) rfl ?_
  refine V_iconst (v := nI 0) dX5_readRow_6 rfl ?_
  refine V_istore (ls' := [(7, .int (nI 0)), (6, .int (nI p)), (5, .int (nI 0)), (0, .ref 41), (1, .ref 4), (2, .int (nI n)), (3, .int (nI p)), (4, .int (nI y))]) dX5_readRow_7 (by decide) rfl ?_
  refine V_sub2 (ls' := [(0, .ref 41), (1, .ref 4), (2, .int (nI n)), (3, .int (nI p)), (4, .int (nI y)), (5, .int (nI 0)), (6, .int (nI p)), (7, .int (nI 0))]) (List.forall_mem_cons.mpr ⟨rfl, List.forall_mem_cons.mpr ⟨rfl, List.forall_mem_cons.mpr ⟨rfl, List.forall_mem_cons.mpr ⟨rfl, List.forall_mem_cons.mpr ⟨rfl, List.forall_mem_cons.mpr ⟨rfl, List.forall_mem_cons.mpr ⟨rfl, List.forall_mem_cons.mpr ⟨rfl, fun _ h => absurd h List.not_mem_nil⟩⟩⟩⟩⟩⟩⟩⟩) ?_
  exact lp_readRow hn hy 9 0 0 p f I rfl (by omega) (by omega) (by omega) (fun _ _ _ => rfl) rfl h43

theorem gRow_p {tx : Nat → Nat} {n y : Nat} : ∀ k x p f, (gRow tx n y k x p f).2.1 ≤ p + 2 * k + 1
  | 0, _, p, _ => Nat.le_succ p
  | k + 1, x, p, f => by
    unfold gRow
    split
    · split
      · show p + 1 ≤ _; omega
      · show p ≤ _; omega
    · split
      · split
        · show p ≤ _; omega
        · split
          · have := gRow_p (tx := tx) (n := n) (y := y) k (x + (sgn tx n p - 97 + 1)) (p + 1 + 1) (gPut f (8 * y + x) (sgn tx n p - 97 + 1) (sgn tx n (p + 1) - 48)); omega
          · show p + 1 ≤ _; omega
      · split
        · show p ≤ _; omega
        · have := gRow_p (tx := tx) (n := n) (y := y) k (x + 1) (p + 1) (gPut f (8 * y + x) 1 (sgn tx n p - 48)); omega
set_option maxRecDepth 100000 in
set_option maxHeartbeats 4000000 in
theorem lp_high {G : zG} {I1 : zI} {J : zJ} {n p : Nat} {f : Nat → Nat} (h9 : ∀ j, f j ≤ 9) (h42 : ∀ j, j < 64 → I1 42 j = nI (f j)) {Q : zQ} (hQ : ∀ I2, I2 = I1 → Q (some (.int (nI (hMx f 64)))) zsh I2 J) : ∀ m i, i + m = 64 → V G mX5_readText 2 Q 76 [(0, .ref 41), (1, .ref 4), (2, .int (nI n)), (3, .int (nI n)), (4, .int (nI p)), (5, .int (nI (hMx f i))), (6, .int (nI i))] [] (0, 0) zsh I1 J := by
  intro m
  induction m with
  | zero =>
    intro i hi
    obtain rfl : i = 64 := by omega
    refine V_iload dX5_readText_76 rfl ?_
    refine V_bipush (v := nI 64) dX5_readText_78 rfl ?_
    refine V_icmp_ge (tgt := 103) dX5_readText_80 rfl (fun _ => ?_) (fun h => absurd h (by decide))
    refine V_iload dX5_readText_103 rfl ?_
    exact V_iret ⟨Or.inl rfl, dX5_readText_105⟩ ⟨Nat.le_of_ble_eq_true rfl, Nat.le_of_ble_eq_true rfl⟩ (hQ I1 rfl)
  | succ m ih =>
    intro i hi
    have hm := hMx_le h9 i
    have hf9 := h9 i
    refine V_iload dX5_readText_76 rfl ?_
    refine V_bipush (v := nI 64) dX5_readText_78 rfl ?_
    refine V_icmp_geN (tgt := 103) dX5_readText_80 rfl (by omega) (by omega) (fun h => absurd h (by omega)) (fun _ => ?_)
    refine V_iload dX5_readText_83 rfl ?_
    refine V_aload_n dX5_readText_85 rfl ?_
    refine V_getR (b := 42) dX5_readText_86 fX5_11 ⟨Nat.le_of_ble_eq_true rfl, Nat.le_of_ble_eq_true rfl⟩ rfl rfl rfl ?_
    refine V_iload dX5_readText_89 rfl ?_
    refine V_ialdN (k := i) dX5_readText_91 ⟨Nat.le_of_ble_eq_true rfl, Nat.le_of_ble_eq_true rfl⟩ rfl (by decide) (by omega) ?_
    refine V_eqI (y := nI (f i)) (h42 i (by omega)) ?_
    refine V_mmaxN dX5_readText_92 jX5_42 (by decide) (Nat.le_of_ble_eq_true rfl) ⟨Nat.le_of_ble_eq_true rfl, Nat.le_of_ble_eq_true rfl⟩ (by omega) (by omega) ?_
    refine V_istore (ls' := [(5, .int (nI (hMx f (i + 1)))), (0, .ref 41), (1, .ref 4), (2, .int (nI n)), (3, .int (nI n)), (4, .int (nI p)), (6, .int (nI i))]) dX5_readText_95 (by decide) rfl ?_
    refine V_iincN (ls' := [(6, .int (nI (i + 1))), (5, .int (nI (hMx f (i + 1)))), (0, .ref 41), (1, .ref 4), (2, .int (nI n)), (3, .int (nI n)), (4, .int (nI p))]) (n := 1) dX5_readText_97 rfl rfl (by decide) (by decide) rfl ?_
    refine V_goto (tgt := 76) dX5_readText_100 rfl ?_
    refine V_sub2 (ls' := [(0, .ref 41), (1, .ref 4), (2, .int (nI n)), (3, .int (nI n)), (4, .int (nI p)), (5, .int (nI (hMx f (i + 1)))), (6, .int (nI (i + 1)))]) (List.forall_mem_cons.mpr ⟨rfl, List.forall_mem_cons.mpr ⟨rfl, List.forall_mem_cons.mpr ⟨rfl, List.forall_mem_cons.mpr ⟨rfl, List.forall_mem_cons.mpr ⟨rfl, List.forall_mem_cons.mpr ⟨rfl, List.forall_mem_cons.mpr ⟨rfl, fun _ h => absurd h List.not_mem_nil⟩⟩⟩⟩⟩⟩⟩) ?_
    exact ih (i + 1) (by omega)

theorem gRow_fc {tx : Nat → Nat} {n y : Nat} : ∀ k x p f, (gRow tx n y k x p f).1 ≤ 6
  | 0, _, _, _ => Nat.zero_le _
  | k + 1, x, p, f => by
    unfold gRow
    split
    · split <;> exact Nat.le_of_ble_eq_true rfl
    · split
      · split
        · exact Nat.le_of_ble_eq_true rfl
        · split
          · exact gRow_fc k _ _ _
          · exact Nat.le_of_ble_eq_true rfl
      · split
        · exact Nat.le_of_ble_eq_true rfl
        · exact gRow_fc k _ _ _
theorem fltI_int {fc p : Nat} (h6 : fc ≤ 1000) (hp : p < 2 ^ 20) : (fltI fc p).toInt = -1000 * fc - p := by
  have e : (-1000 * nI fc : Int32).toInt = -1000 * fc := by
    rw [Int32.toInt_mul, nI_toInt (by omega), show (-1000 : Int32).toInt = -1000 from rfl]
    exact Int.bmod_eq_of_le (by omega) (by omega)
  unfold fltI
  rw [Int32.toInt_sub, e, nI_toInt (by omega)]
  exact Int.bmod_eq_of_le (by omega) (by omega)
theorem fltI_ne {fc p : Nat} (h0 : 0 < fc) (h6 : fc ≤ 1000) (hp : p < 2 ^ 20) : ¬ fltI fc p = 0 := by
  rw [oz_eq, fltI_int h6 hp]
  omega
set_option maxRecDepth 100000 in
set_option maxHeartbeats 4000000 in
theorem lp_readText {G : zG} {I : zI} {J : zJ} {n : Nat} (hn : n ≤ 120) : ∀ m y p f (I1 : zI), y + m = 8 → p ≤ 19 * y → (∀ j, f j ≤ 9) → (∀ a, a ≠ 41 → a ≠ 43 → I1 a = I a) → (∀ j, j ≠ 2 → I1 41 j = I 41 j) → I1 41 2 = nI 0 → (∀ j, j < 64 → I1 43 j = nI (f j)) → V G mX5_readText 2 (zP (fun r I' J' => r = some (.int (if (gAll (txI (I 4)) n m y p f).1 = 0 then nI (hMx (gAll (txI (I 4)) n m y p f).2.2 64) else fltI (gAll (txI (I 4)) n m y p f).1 (gAll (txI (I 4)) n m y p f).2.1)) ∧ (∀ a, a ≠ 41 → a ≠ 42 → a ≠ 43 → I' a = I a) ∧ (∀ j, j ≠ 2 → I' 41 j = I 41 j) ∧ (∀ j, j < 64 → I' 42 j = if (gAll (txI (I 4)) n m y p f).1 = 0 then nI ((gAll (txI (I 4)) n m y p f).2.2 j) else I 42 j) ∧ (∃ g : Nat → Nat, (∀ j, g j ≤ 9) ∧ ∀ j, j < 64 → I' 43 j = nI (g j)) ∧ J = J')) 18 [(0, .ref 41), (1, .ref 4), (2, .int (nI n)), (3, .int (nI n)), (4, .int (nI p)), (5, .int (nI y))] [] (0, 0) zsh I1 J := by
  intro m
  induction m with
  | zero =>
    intro y p f I1 hy hp hf9 ho h41 h2 h43
    obtain rfl : y = 8 := by omega
    refine V_iload dX5_readText_18 rfl ?_
    refine V_bipush (v := nI 8) dX5_readText_20 rfl ?_
    refine V_icmp_geN (tgt := 55) dX5_readText_22 rfl (by omega) (by omega) (fun _ => ?_) (fun h => absurd h (by omega))
    refine V_aload_n dX5_readText_55 rfl ?_
    refine V_getR (b := 43) dX5_readText_56 fX5_15 ⟨Nat.le_of_ble_eq_true rfl, Nat.le_of_ble_eq_true rfl⟩ rfl rfl rfl ?_
    refine V_iconst (v := nI 0) dX5_readText_59 rfl ?_
    refine V_aload_n dX5_readText_60 rfl ?_
    refine V_getR (b := 42) dX5_readText_61 fX5_11 ⟨Nat.le_of_ble_eq_true rfl, Nat.le_of_ble_eq_true rfl⟩ rfl rfl rfl ?_
    refine V_iconst (v := nI 0) dX5_readText_64 rfl ?_
    refine V_bipush (v := nI 64) dX5_readText_65 rfl ?_
    refine V_cpyiN (a0 := 43) (a := 42) (n := 64) dX5_readText_67 jX5_36 (by decide) (Nat.le_of_ble_eq_true rfl) ⟨Nat.le_of_ble_eq_true rfl, Nat.le_of_ble_eq_true rfl⟩ rfl ⟨Nat.le_of_ble_eq_true rfl, Nat.le_of_ble_eq_true rfl⟩ rfl (by decide) (by decide) ?_
    refine V_iconst (v := nI 0) dX5_readText_70 rfl ?_
    refine V_istore (ls' := [(5, .int (nI 0)), (0, .ref 41), (1, .ref 4), (2, .int (nI n)), (3, .int (nI n)), (4, .int (nI p))]) dX5_readText_71 (by decide) rfl ?_
    refine V_iconst (v := nI 0) dX5_readText_73 rfl ?_
    refine V_istore (ls' := [(6, .int (nI 0)), (5, .int (nI 0)), (0, .ref 41), (1, .ref 4), (2, .int (nI n)), (3, .int (nI n)), (4, .int (nI p))]) dX5_readText_74 (by decide) rfl ?_
    refine V_sub2 (ls' := [(0, .ref 41), (1, .ref 4), (2, .int (nI n)), (3, .int (nI n)), (4, .int (nI p)), (5, .int (nI 0)), (6, .int (nI 0))]) (List.forall_mem_cons.mpr ⟨rfl, List.forall_mem_cons.mpr ⟨rfl, List.forall_mem_cons.mpr ⟨rfl, List.forall_mem_cons.mpr ⟨rfl, List.forall_mem_cons.mpr ⟨rfl, List.forall_mem_cons.mpr ⟨rfl, List.forall_mem_cons.mpr ⟨rfl, fun _ h => absurd h List.not_mem_nil⟩⟩⟩⟩⟩⟩⟩) ?_
    refine lp_high hf9 (fun j hj => (if_pos hj).trans (h43 j hj)) ?_ 64 0 rfl
    rintro I2 rfl
    refine ⟨rfl, rfl, fun a h1 h2 h3 => (zup_n h2).trans (ho a h1 h3), h41, fun j hj => (if_pos hj).trans (h43 j hj), ⟨f, hf9, h43⟩, rfl⟩
  | succ m ih =>
    intro y p f I1 hy hp hf9 ho h41 h2 h43
    refine V_iload dX5_readText_18 rfl ?_
    refine V_bipush (v := nI 8) dX5_readText_20 rfl ?_
    refine V_icmp_geN (tgt := 55) dX5_readText_22 rfl (by omega) (by omega) (fun h => absurd h (by omega)) (fun _ => ?_)
    refine V_aload_n dX5_readText_25 rfl ?_
    refine V_aload_n dX5_readText_26 rfl ?_
    refine V_iload_n dX5_readText_27 rfl ?_
    refine V_iload dX5_readText_28 rfl ?_
    refine V_iload dX5_readText_30 rfl ?_
    refine V_callV (As := [.ref 4, .int (nI n), .int (nI p), .int (nI y)]) (st := []) (a := 41) dX5_readText_32 kX5_readRow lX5_32 (by decide) rfl rfl (Nat.le_of_ble_eq_true rfl) ⟨Nat.le_of_ble_eq_true rfl, Nat.le_of_ble_eq_true rfl⟩ ⟨Nat.le_of_ble_eq_true rfl, Nat.le_of_ble_eq_true rfl⟩ rfl ⟨rfl, by decide⟩ (c_readRow hn (by omega) (by omega) h43) ?_
    rintro r sh' I' J' ⟨rfl, rfl, gho, gh41, ghf, gh43, rfl⟩
    have ex : txI (I1 4) = txI (I 4) := by rw [ho 4 (by decide) (by decide)]
    rw [ex] at gh43 ghf
    rw [ex]
    have hp2 := gRow_p (tx := txI (I 4)) (n := n) (y := y) 9 0 p f
    have h9b := gRow_le (tx := txI (I 4)) (n := n) (y := y) 9 0 p f hf9
    refine V_istore (ls' := [(4, .int (nI ((gRow (txI (I 4)) n y 9 0 p f).2.1))), (0, .ref 41), (1, .ref 4), (2, .int (nI n)), (3, .int (nI n)), (5, .int (nI y))]) dX5_readText_35 (by decide) rfl ?_
    by_cases hfc : (gRow (txI (I 4)) n y 9 0 p f).1 = 0
    · skip
      refine V_aload_n dX5_readText_37 rfl ?_
      refine V_getI dX5_readText_38 fX5_22 ⟨Nat.le_of_ble_eq_true rfl, Nat.le_of_ble_eq_true rfl⟩ rfl rfl ?_
      refine V_eqI (y := nI 0) (ghf.trans ((if_pos hfc).trans h2)) ?_
      refine V_if_eq (tgt := 49) dX5_readText_41 rfl (fun _ => ?_) (fun h => absurd rfl h)
      refine V_iincN (ls' := [(5, .int (nI (y + 1))), (4, .int (nI ((gRow (txI (I 4)) n y 9 0 p f).2.1))), (0, .ref 41), (1, .ref 4), (2, .int (nI n)), (3, .int (nI n))]) (n := 1) dX5_readText_49 rfl rfl (by decide) (by decide) rfl ?_
      refine V_goto (tgt := 18) dX5_readText_52 rfl ?_
      refine V_sub2 (ls' := [(0, .ref 41), (1, .ref 4), (2, .int (nI n)), (3, .int (nI n)), (4, .int (nI ((gRow (txI (I 4)) n y 9 0 p f).2.1))), (5, .int (nI (y + 1)))]) (List.forall_mem_cons.mpr ⟨rfl, List.forall_mem_cons.mpr ⟨rfl, List.forall_mem_cons.mpr ⟨rfl, List.forall_mem_cons.mpr ⟨rfl, List.forall_mem_cons.mpr ⟨rfl, List.forall_mem_cons.mpr ⟨rfl, fun _ h => absurd h List.not_mem_nil⟩⟩⟩⟩⟩⟩) ?_
      have e : gAll (txI (I 4)) n (m + 1) y p f = gAll (txI (I 4)) n m (y + 1) (gRow (txI (I 4)) n y 9 0 p f).2.1 (gRow (txI (I 4)) n y 9 0 p f).2.2 := by
        conv => lhs; unfold gAll
        rw [if_pos hfc]
      rw [e]
      exact ih (y + 1) _ _ _ (by omega) (by omega) h9b (fun a h1 h2 => (gho a h1 h2).trans (ho a h1 h2)) (fun j hj => (gh41 j hj).trans (h41 j hj)) (ghf.trans ((if_pos hfc).trans h2)) gh43
    · skip
      refine V_aload_n dX5_readText_37 rfl ?_
      refine V_getI dX5_readText_38 fX5_22 ⟨Nat.le_of_ble_eq_true rfl, Nat.le_of_ble_eq_true rfl⟩ rfl rfl ?_
      refine V_eqI (y := fltI (gRow (txI (I 4)) n y 9 0 p f).1 (gRow (txI (I 4)) n y 9 0 p f).2.1) (ghf.trans (if_neg hfc)) ?_
      refine V_if_eq (tgt := 49) dX5_readText_41 rfl (fun h => absurd h (fltI_ne (by omega) (by have := gRow_fc (tx := txI (I 4)) (n := n) (y := y) 9 0 p f; omega) (by omega))) (fun _ => ?_)
      refine V_aload_n dX5_readText_44 rfl ?_
      refine V_getI dX5_readText_45 fX5_22 ⟨Nat.le_of_ble_eq_true rfl, Nat.le_of_ble_eq_true rfl⟩ rfl rfl ?_
      refine V_eqI (y := fltI (gRow (txI (I 4)) n y 9 0 p f).1 (gRow (txI (I 4)) n y 9 0 p f).2.1) (ghf.trans (if_neg hfc)) ?_
      exact V_iret ⟨Or.inl rfl, dX5_readText_48⟩ ⟨Nat.le_of_ble_eq_true rfl, Nat.le_of_ble_eq_true rfl⟩ (by have e : gAll (txI (I 4)) n (m + 1) y p f = gRow (txI (I 4)) n y 9 0 p f := (by unfold gAll; rw [if_neg hfc]); rw [e]; exact ⟨rfl, congrArg (fun z => some (Value.int z)) (if_neg hfc).symm, fun a h1 h2 h3 => (gho a h1 h3).trans (ho a h1 h3), fun j hj => (gh41 j hj).trans (h41 j hj), fun j hj => by rw [if_neg hfc, gho 42 (by decide) (by decide), ho 42 (by decide) (by decide)], ⟨_, h9b, gh43⟩, rfl⟩)

set_option maxRecDepth 100000 in
set_option maxHeartbeats 4000000 in
theorem c_readText5 {G : zG} {I : zI} {J : zJ} {n : Nat} (hn : n ≤ 120) {f : Nat → Nat} (hf9 : ∀ j, f j ≤ 9) (h43 : ∀ j, j < 64 → I 43 j = nI (f j)) : zK G mX5_readText 2 [.ref 41, .ref 4, .int (nI n)] zsh I J (zP (fun r I' J' => r = some (.int (if (gAll (txI (I 4)) n 8 0 0 f).1 = 0 then nI (hMx (gAll (txI (I 4)) n 8 0 0 f).2.2 64) else fltI (gAll (txI (I 4)) n 8 0 0 f).1 (gAll (txI (I 4)) n 8 0 0 f).2.1)) ∧ (∀ a, a ≠ 41 → a ≠ 42 → a ≠ 43 → I' a = I a) ∧ (∀ j, j ≠ 2 → I' 41 j = I 41 j) ∧ (∀ j, j < 64 → I' 42 j = if (gAll (txI (I 4)) n 8 0 0 f).1 = 0 then nI ((gAll (txI (I 4)) n 8 0 0 f).2.2 j) else I 42 j) ∧ (∃ g : Nat → Nat, (∀ j, g j ≤ 9) ∧ ∀ j, j < 64 → I' 43 j = nI (g j)) ∧ J = J')) := by
  refine zK_of kX5_readText.2.2.2.2.1 (Nat.le_of_ble_eq_true rfl) ?_
  show V G mX5_readText 2 _ 0 [(0, .ref 41), (1, .ref 4), (2, .int (nI n))] [] (0, 0) zsh I J
  refine V_aload_n dX5_readText_0 rfl ?_
  refine V_iconst (v := nI 0) dX5_readText_1 rfl ?_
  refine V_putW dX5_readText_2 fX5_22 ⟨Nat.le_of_ble_eq_true rfl, Nat.le_of_ble_eq_true rfl⟩ rfl rfl rfl ⟨rfl, rfl⟩ ?_
  refine V_iload_n dX5_readText_5 rfl ?_
  refine V_aload_n dX5_readText_6 rfl ?_
  refine V_alen (v := nI 260) dX5_readText_7 ⟨Nat.le_of_ble_eq_true rfl, Nat.le_of_ble_eq_true rfl⟩ rfl (by decide) rfl ?_
  refine V_mminN dX5_readText_8 jX5_26 (by decide) (Nat.le_of_ble_eq_true rfl) ⟨Nat.le_of_ble_eq_true rfl, Nat.le_of_ble_eq_true rfl⟩ (by omega) (by omega) ?_
  refine V_eqI (y := nI n) (congrArg nI (by omega)) ?_
  refine V_istore_n (ls' := [(3, .int (nI n)), (0, .ref 41), (1, .ref 4), (2, .int (nI n))]) dX5_readText_11 (by decide) rfl ?_
  refine V_iconst (v := nI 0) dX5_readText_12 rfl ?_
  refine V_istore (ls' := [(4, .int (nI 0)), (3, .int (nI n)), (0, .ref 41), (1, .ref 4), (2, .int (nI n))]) dX5_readText_13 (by decide) rfl ?_
  refine V_iconst (v := nI 0) dX5_readText_15 rfl ?_
  refine V_istore (ls' := [(5, .int (nI 0)), (4, .int (nI 0)), (3, .int (nI n)), (0, .ref 41), (1, .ref 4), (2, .int (nI n))]) dX5_readText_16 (by decide) rfl ?_
  refine V_sub2 (ls' := [(0, .ref 41), (1, .ref 4), (2, .int (nI n)), (3, .int (nI n)), (4, .int (nI 0)), (5, .int (nI 0))]) (List.forall_mem_cons.mpr ⟨rfl, List.forall_mem_cons.mpr ⟨rfl, List.forall_mem_cons.mpr ⟨rfl, List.forall_mem_cons.mpr ⟨rfl, List.forall_mem_cons.mpr ⟨rfl, List.forall_mem_cons.mpr ⟨rfl, fun _ h => absurd h List.not_mem_nil⟩⟩⟩⟩⟩⟩) ?_
  refine zQ_mono ?_ (lp_readText (I := zwr I 41 2 (nI 0)) hn 8 0 0 f _ rfl (by omega) hf9 (fun _ _ _ => rfl) (fun _ _ => rfl) (zwr_at.trans (if_pos ⟨rfl, rfl⟩)) h43)
  rintro r sh' I' J' ⟨rfl, h1, h2, h3, h4, h5, h6⟩
  exact ⟨rfl, h1, fun a g1 g2 g3 => (h2 a g1 g2 g3).trans (zup_n g1), fun j hj => (h3 j hj).trans (zwr_at.trans (if_neg (fun h => hj h.2))), h4, h5, h6⟩

theorem gRow_ind {tx : Nat → Nat} {n y : Nat} : ∀ k x p f g, 9 ≤ k + x → x ≤ 8 → (gRow tx n y k x p f).1 = (gRow tx n y k x p g).1 ∧ (gRow tx n y k x p f).2.1 = (gRow tx n y k x p g).2.1 ∧ ((gRow tx n y k x p f).1 = 0 → ∀ j, (f j = g j ∨ 8 * y + x ≤ j ∧ j < 8 * y + 8) → (gRow tx n y k x p f).2.2 j = (gRow tx n y k x p g).2.2 j)
  | 0, x, p, f, g, h, h8 => by omega
  | k + 1, x, p, f, g, h, h8 => by
    have hgp : ∀ a t v j, (f j = g j ∨ 8 * y + x ≤ j ∧ j < 8 * y + 8) → a = 8 * y + x → (gPut f a t v j = gPut g a t v j ∨ 8 * y + (x + t) ≤ j ∧ j < 8 * y + 8) := fun a t v j hj ha => by
      unfold gPut
      by_cases h1 : a ≤ j ∧ j < a + t
      · rw [if_pos h1, if_pos h1]; exact Or.inl rfl
      · rw [if_neg h1, if_neg h1]; rcases hj with hj | hj
        · exact Or.inl hj
        · exact Or.inr (by omega)
    have er : ∀ f, gRow tx n y (k + 1) x p f = _ := fun f => by conv => lhs; unfold gRow
    rw [er f, er g]
    by_cases c1 : ¬ (97 ≤ sgn tx n p ∧ sgn tx n p ≤ 104) ∧ ¬ (48 ≤ sgn tx n p ∧ sgn tx n p ≤ 57)
    · rw [if_pos c1, if_pos c1]
      by_cases c2 : x = 8 ∧ (y = 7 ∧ sgn tx n p = 256 ∨ y ≠ 7 ∧ sgn tx n p = 47)
      · rw [if_pos c2, if_pos c2]
        refine ⟨rfl, rfl, fun _ j hj => ?_⟩
        rcases hj with hj | hj
        · exact hj
        · omega
      · rw [if_neg c2, if_neg c2]
        exact ⟨rfl, rfl, fun h => absurd h (Nat.one_ne_zero)⟩
    · rw [if_neg c1, if_neg c1]
      by_cases c3 : 97 ≤ sgn tx n p ∧ sgn tx n p ≤ 104
      · rw [if_pos c3, if_pos c3]
        by_cases c4 : 8 < x + (sgn tx n p - 97 + 1)
        · rw [if_pos c4, if_pos c4]
          exact ⟨rfl, rfl, fun h => absurd h (Nat.succ_ne_zero _)⟩
        · rw [if_neg c4, if_neg c4]
          by_cases c5 : 48 ≤ sgn tx n (p + 1) ∧ sgn tx n (p + 1) ≤ 57
          · rw [if_pos c5, if_pos c5]
            obtain ⟨i1, i2, i3⟩ := gRow_ind k (x + (sgn tx n p - 97 + 1)) (p + 1 + 1) (gPut f (8 * y + x) (sgn tx n p - 97 + 1) (sgn tx n (p + 1) - 48)) (gPut g (8 * y + x) (sgn tx n p - 97 + 1) (sgn tx n (p + 1) - 48)) (by omega) (by omega)
            exact ⟨i1, i2, fun h j hj => i3 h j (hgp _ _ _ j hj rfl)⟩
          · rw [if_neg c5, if_neg c5]
            exact ⟨rfl, rfl, fun h => absurd h (Nat.succ_ne_zero _)⟩
      · rw [if_neg c3, if_neg c3]
        by_cases c4 : 8 < x + 1
        · rw [if_pos c4, if_pos c4]
          exact ⟨rfl, rfl, fun h => absurd h (Nat.succ_ne_zero _)⟩
        · rw [if_neg c4, if_neg c4]
          obtain ⟨i1, i2, i3⟩ := gRow_ind k (x + 1) (p + 1) (gPut f (8 * y + x) 1 (sgn tx n p - 48)) (gPut g (8 * y + x) 1 (sgn tx n p - 48)) (by omega) (by omega)
          exact ⟨i1, i2, fun h j hj => i3 h j (hgp _ _ _ j hj rfl)⟩
theorem gAll_ind {tx : Nat → Nat} {n : Nat} : ∀ m y p f g, y + m = 8 → (gAll tx n m y p f).1 = (gAll tx n m y p g).1 ∧ (gAll tx n m y p f).2.1 = (gAll tx n m y p g).2.1 ∧ ((gAll tx n m y p f).1 = 0 → ∀ j, (f j = g j ∨ 8 * y ≤ j ∧ j < 64) → (gAll tx n m y p f).2.2 j = (gAll tx n m y p g).2.2 j)
  | 0, y, p, f, g, h => ⟨rfl, rfl, fun _ j hj => by
      rcases hj with hj | hj
      · exact hj
      · omega⟩
  | m + 1, y, p, f, g, h => by
    obtain ⟨i1, i2, i3⟩ := gRow_ind (tx := tx) (n := n) (y := y) 9 0 p f g (by omega) (by omega)
    unfold gAll
    rw [← i1, ← i2]
    by_cases c : (gRow tx n y 9 0 p f).1 = 0
    · rw [if_pos c, if_pos c]
      obtain ⟨k1, k2, k3⟩ := gAll_ind m (y + 1) (gRow tx n y 9 0 p f).2.1 (gRow tx n y 9 0 p f).2.2 (gRow tx n y 9 0 p g).2.2 (by omega)
      refine ⟨k1, k2, fun h0 j hj => k3 h0 j ?_⟩
      by_cases hj2 : f j = g j ∨ 8 * y + 0 ≤ j ∧ j < 8 * y + 8
      · exact Or.inl (i3 c j hj2)
      · refine Or.inr ?_
        rcases hj with hj | hj
        · exact absurd (Or.inl hj) hj2
        · have : ¬ (8 * y + 0 ≤ j ∧ j < 8 * y + 8) := fun h => hj2 (Or.inr h)
          omega
    · rw [if_neg c, if_neg c]
      exact ⟨i1, i2, fun h0 => absurd h0 c⟩
