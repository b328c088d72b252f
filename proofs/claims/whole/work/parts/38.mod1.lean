/-! THE MODEL: its small methods; states -/
/-- its tables: codes; what is thrown onto; what is taken away -/
def mT (I : zI) : Prop := (∀ k, k < 56 → I 63 k = nI (tC k)) ∧ (∀ k r, 35 ≤ k → k < 56 → r < 5 → I 64 (5 * k + r) = nI (tThr (5 * k + r))) ∧ ∀ k, k < 56 → tBest k < 4 → I 65 k = nI (tWo k)
theorem mT_c {I I' : zI} (h : mT I) (e3 : I' 63 = I 63) (e4 : I' 64 = I 64) (e5 : I' 65 = I 65) : mT I' := by
  unfold mT
  rw [e3, e4, e5]
  exact h
def uN (r : Nat) : Nat := if r = 0 then 1000 else if r = 1 then 100 else if r = 2 then 10 else 1
def iR (k r : Nat) : Nat := tC k / uN r % 10
theorem iR_s {k r : Nat} (hk : k < 56) (hr : r < 4) : tBel (5 * k + r) + iR k r = tBel (5 * k + (r + 1)) := by
  rcases (show r = 0 ∨ r = 1 ∨ r = 2 ∨ r = 3 by omega) with e | e | e | e <;> subst e
  · exact co_dec (P := fun k => tBel (5 * k + 0) + iR k 0 = tBel (5 * k + 1)) (N := 56) (by decide +kernel) hk
  · exact co_dec (P := fun k => tBel (5 * k + 1) + iR k 1 = tBel (5 * k + 2)) (N := 56) (by decide +kernel) hk
  · exact co_dec (P := fun k => tBel (5 * k + 2) + iR k 2 = tBel (5 * k + 3)) (N := 56) (by decide +kernel) hk
  · exact co_dec (P := fun k => tBel (5 * k + 3) + iR k 3 = tBel (5 * k + 4)) (N := 56) (by decide +kernel) hk
theorem iR_0 {k : Nat} (hk : k < 56) : tBel (5 * k) = 0 := co_dec (P := fun k => tBel (5 * k) = 0) (N := 56) (by decide +kernel) hk
theorem iR_b {k r : Nat} (hk : k < 56) (hr : r < tBest k) : iR k r = 0 := by
  have h4 := tBest_le hk
  rcases (show r = 0 ∨ r = 1 ∨ r = 2 ∨ r = 3 by omega) with e | e | e | e <;> subst e
  · exact co_dec (P := fun k => 0 < tBest k → iR k 0 = 0) (N := 56) (by decide +kernel) hk hr
  · exact co_dec (P := fun k => 1 < tBest k → iR k 1 = 0) (N := 56) (by decide +kernel) hk hr
  · exact co_dec (P := fun k => 2 < tBest k → iR k 2 = 0) (N := 56) (by decide +kernel) hk hr
  · exact co_dec (P := fun k => 3 < tBest k → iR k 3 = 0) (N := 56) (by decide +kernel) hk hr
theorem iR_n {k : Nat} (hk : k < 56) (h : tBest k < 4) : iR k (tBest k) ≠ 0 := co_dec (P := fun k => tBest k < 4 → iR k (tBest k) ≠ 0) (N := 56) (by decide +kernel) hk h
theorem iR_9 {k r : Nat} : iR k r ≤ 9 := Nat.le_of_lt_succ (Nat.mod_lt _ (by decide))
theorem tC_hand {k : Nat} (hk : k < 56) : tC k / 10000 = tHand k := co_dec (P := fun k => tC k / 10000 = tHand k) (N := 56) (by decide +kernel) hk
/-- states by number -/
def stN (p q l : Nat) : Nat := 2 * (56 * p + q) + l
theorem stN_p {p q l : Nat} (hq : q < 56) (hl : l ≤ 1) : stN p q l / 2 / 56 = p := by unfold stN; omega
theorem stN_q {p q l : Nat} (hq : q < 56) (hl : l ≤ 1) : stN p q l / 2 % 56 = q := by unfold stN; omega
theorem stN_l {p q l : Nat} (hl : l ≤ 1) : stN p q l % 2 = l := by unfold stN; omega
theorem stN_lt {p q l : Nat} (hp : p < 56) (hq : q < 56) (hl : l ≤ 1) : stN p q l < 6272 := by unfold stN; omega
def stE (r : Option (Nat × Nat × Nat)) : Int32 := match r with
  | none => -1
  | some (p, q, l) => nI (stN p q l)
set_option maxRecDepth 100000 in
set_option maxHeartbeats 4000000 in
theorem w_in {G : zG} {I : zI} {J : zJ} {x lo hi : Int32} : zK G mX12_in 0 [.int x, .int lo, .int hi] zsh I J (zA0 (.int (nI (if lo.toInt ≤ x.toInt ∧ x.toInt ≤ hi.toInt then 1 else 0))) I J) := by
  refine zK_of kX12_in.2.2.2.2.1 (Nat.le_of_ble_eq_true rfl) ?_
  show V G mX12_in 0 _ 0 [(0, .int x), (1, .int lo), (2, .int hi)] [] (0, 0) zsh I J
  refine V_iload_n dX12_in_0 rfl ?_
  refine V_iload_n dX12_in_1 rfl ?_
  refine V_icmp_ltZ (tgt := 14) (a := x.toInt) (b := lo.toInt) dX12_in_2 rfl rfl rfl (fun h2 => ?_) (fun h2 => ?_)
  · skip
    refine V_iconst (v := nI 0) dX12_in_14 rfl ?_
    exact V_iret ⟨Or.inr ⟨rfl, Or.inl rfl⟩, dX12_in_15⟩ ⟨Nat.le_of_ble_eq_true rfl, Nat.le_of_ble_eq_true rfl⟩ ⟨rfl, by rw [if_neg (by omega)], rfl, rfl⟩
  · skip
    refine V_iload_n dX12_in_5 rfl ?_
    refine V_iload_n dX12_in_6 rfl ?_
    refine V_icmp_gtZ (tgt := 14) (a := x.toInt) (b := hi.toInt) dX12_in_7 rfl rfl rfl (fun h7 => ?_) (fun h7 => ?_)
    · skip
      refine V_iconst (v := nI 0) dX12_in_14 rfl ?_
      exact V_iret ⟨Or.inr ⟨rfl, Or.inl rfl⟩, dX12_in_15⟩ ⟨Nat.le_of_ble_eq_true rfl, Nat.le_of_ble_eq_true rfl⟩ ⟨rfl, by rw [if_neg (by omega)], rfl, rfl⟩
    · skip
      refine V_iconst (v := nI 1) dX12_in_10 rfl ?_
      refine V_goto (tgt := 15) dX12_in_11 rfl ?_
      exact V_iret ⟨Or.inr ⟨rfl, Or.inr rfl⟩, dX12_in_15⟩ ⟨Nat.le_of_ble_eq_true rfl, Nat.le_of_ble_eq_true rfl⟩ ⟨rfl, by rw [if_pos (by omega)], rfl, rfl⟩

theorem w_inY {G : zG} {I : zI} {J : zJ} {x lo hi : Int32} {a b : Int} (ha : lo.toInt = a) (hb : hi.toInt = b) (h : inZ x a b) : zK G mX12_in 0 [.int x, .int lo, .int hi] zsh I J (zA0 (.int (nI 1)) I J) := q_y w_in (by rw [ha, hb]; exact h)
theorem w_inN {G : zG} {I : zI} {J : zJ} {x lo hi : Int32} {a b : Int} (ha : lo.toInt = a) (hb : hi.toInt = b) (h : ¬ inZ x a b) : zK G mX12_in 0 [.int x, .int lo, .int hi] zsh I J (zA0 (.int (nI 0)) I J) := q_n w_in (by rw [ha, hb]; exact h)
set_option maxRecDepth 100000 in
set_option maxHeartbeats 4000000 in
theorem w_minN {G : zG} {I : zI} {J : zJ} {a b : Nat} (ha : a < 2 ^ 31) (hb : b < 2 ^ 31) : zK G mX12_min 0 [.int (nI a), .int (nI b)] zsh I J (zA0 (.int (nI (min a b))) I J) := by
  refine zK_of kX12_min.2.2.2.2.1 (Nat.le_of_ble_eq_true rfl) ?_
  show V G mX12_min 0 _ 0 [(0, .int (nI a)), (1, .int (nI b))] [] (0, 0) zsh I J
  refine V_iload_n dX12_min_0 rfl ?_
  refine V_iload_n dX12_min_1 rfl ?_
  refine V_icmp_geN (tgt := 9) dX12_min_2 rfl (by omega) (by omega) (fun h2 => ?_) (fun h2 => ?_)
  · skip
    refine V_iload_n dX12_min_9 rfl ?_
    exact V_iret ⟨Or.inl rfl, dX12_min_10⟩ ⟨Nat.le_of_ble_eq_true rfl, Nat.le_of_ble_eq_true rfl⟩ ⟨rfl, congrArg (fun z => some (Value.int (nI z))) (by omega), rfl, rfl⟩
  · skip
    refine V_iload_n dX12_min_5 rfl ?_
    refine V_goto (tgt := 10) dX12_min_6 rfl ?_
    exact V_iret ⟨Or.inl rfl, dX12_min_10⟩ ⟨Nat.le_of_ble_eq_true rfl, Nat.le_of_ble_eq_true rfl⟩ ⟨rfl, congrArg (fun z => some (Value.int (nI z))) (by omega), rfl, rfl⟩

set_option maxRecDepth 100000 in
set_option maxHeartbeats 4000000 in
theorem w_maxN {G : zG} {I : zI} {J : zJ} {a b : Nat} (ha : a < 2 ^ 31) (hb : b < 2 ^ 31) : zK G mX12_max 0 [.int (nI a), .int (nI b)] zsh I J (zA0 (.int (nI (max a b))) I J) := by
  refine zK_of kX12_max.2.2.2.2.1 (Nat.le_of_ble_eq_true rfl) ?_
  show V G mX12_max 0 _ 0 [(0, .int (nI a)), (1, .int (nI b))] [] (0, 0) zsh I J
  refine V_iload_n dX12_max_0 rfl ?_
  refine V_iload_n dX12_max_1 rfl ?_
  refine V_icmp_leN (tgt := 9) dX12_max_2 rfl (by omega) (by omega) (fun h2 => ?_) (fun h2 => ?_)
  · skip
    refine V_iload_n dX12_max_9 rfl ?_
    exact V_iret ⟨Or.inl rfl, dX12_max_10⟩ ⟨Nat.le_of_ble_eq_true rfl, Nat.le_of_ble_eq_true rfl⟩ ⟨rfl, congrArg (fun z => some (Value.int (nI z))) (by omega), rfl, rfl⟩
  · skip
    refine V_iload_n dX12_max_5 rfl ?_
    refine V_goto (tgt := 10) dX12_max_6 rfl ?_
    exact V_iret ⟨Or.inl rfl, dX12_max_10⟩ ⟨Nat.le_of_ble_eq_true rfl, Nat.le_of_ble_eq_true rfl⟩ ⟨rfl, congrArg (fun z => some (Value.int (nI z))) (by omega), rfl, rfl⟩

set_option maxRecDepth 100000 in
set_option maxHeartbeats 4000000 in
theorem w_isSide {G : zG} {I : zI} {J : zJ} {x : Int32} : zK G mX12_isSide 0 [.int x] zsh I J (zA0 (.int (nI (if inZ x 0 1 then 1 else 0))) I J) := by
  refine zK_of kX12_isSide.2.2.2.2.1 (Nat.le_of_ble_eq_true rfl) ?_
  show V G mX12_isSide 0 _ 0 [(0, .int x)] [] (0, 0) zsh I J
  refine V_iload_n dX12_isSide_0 rfl ?_
  refine V_if_eqZ (tgt := 9) (a := x.toInt) dX12_isSide_1 rfl rfl (fun h1 => ?_) (fun h1 => ?_)
  · skip
    refine V_iconst (v := nI 1) dX12_isSide_9 rfl ?_
    refine V_goto (tgt := 14) dX12_isSide_10 rfl ?_
    exact V_iret ⟨Or.inr ⟨rfl, Or.inr rfl⟩, dX12_isSide_14⟩ ⟨Nat.le_of_ble_eq_true rfl, Nat.le_of_ble_eq_true rfl⟩ ⟨rfl, by rw [if_pos (by omega)], rfl, rfl⟩
  · skip
    refine V_iload_n dX12_isSide_4 rfl ?_
    refine V_iconst (v := nI 1) dX12_isSide_5 rfl ?_
    refine V_icmp_neZ (tgt := 13) (a := x.toInt) (b := 1) dX12_isSide_6 rfl rfl (by decide) (fun h6 => ?_) (fun h6 => ?_)
    · skip
      refine V_iconst (v := nI 0) dX12_isSide_13 rfl ?_
      exact V_iret ⟨Or.inr ⟨rfl, Or.inl rfl⟩, dX12_isSide_14⟩ ⟨Nat.le_of_ble_eq_true rfl, Nat.le_of_ble_eq_true rfl⟩ ⟨rfl, by rw [if_neg (by omega)], rfl, rfl⟩
    · skip
      refine V_iconst (v := nI 1) dX12_isSide_9 rfl ?_
      refine V_goto (tgt := 14) dX12_isSide_10 rfl ?_
      exact V_iret ⟨Or.inr ⟨rfl, Or.inr rfl⟩, dX12_isSide_14⟩ ⟨Nat.le_of_ble_eq_true rfl, Nat.le_of_ble_eq_true rfl⟩ ⟨rfl, by rw [if_pos (by omega)], rfl, rfl⟩

set_option maxRecDepth 100000 in
set_option maxHeartbeats 4000000 in
theorem w_unitOf {G : zG} {I : zI} {J : zJ} {r : Nat} (hr : r < 2 ^ 31) : zK G mX12_unitOf 0 [.int (nI r)] zsh I J (zA0 (.int (nI (uN r))) I J) := by
  refine zK_of kX12_unitOf.2.2.2.2.1 (Nat.le_of_ble_eq_true rfl) ?_
  show V G mX12_unitOf 0 _ 0 [(0, .int (nI r))] [] (0, 0) zsh I J
  refine V_iload_n dX12_unitOf_0 rfl ?_
  refine V_if_neN (tgt := 10) dX12_unitOf_1 rfl (by omega) (fun h1 => ?_) (fun h1 => ?_)
  · skip
    refine V_iload_n dX12_unitOf_10 rfl ?_
    refine V_iconst (v := nI 1) dX12_unitOf_11 rfl ?_
    refine V_icmp_neN (tgt := 20) dX12_unitOf_12 rfl (by omega) (by omega) (fun h12 => ?_) (fun h12 => ?_)
    · skip
      refine V_iload_n dX12_unitOf_20 rfl ?_
      refine V_iconst (v := nI 2) dX12_unitOf_21 rfl ?_
      refine V_icmp_neN (tgt := 30) dX12_unitOf_22 rfl (by omega) (by omega) (fun h22 => ?_) (fun h22 => ?_)
      · skip
        refine V_iconst (v := nI 1) dX12_unitOf_30 rfl ?_
        exact V_iret ⟨Or.inl rfl, dX12_unitOf_31⟩ ⟨Nat.le_of_ble_eq_true rfl, Nat.le_of_ble_eq_true rfl⟩ ⟨rfl, congrArg (fun z => some (Value.int (nI z))) ((if_neg h1).trans ((if_neg h12).trans (if_neg h22))).symm, rfl, rfl⟩
      · skip
        refine V_bipush (v := nI 10) dX12_unitOf_25 rfl ?_
        refine V_goto (tgt := 31) dX12_unitOf_27 rfl ?_
        exact V_iret ⟨Or.inl rfl, dX12_unitOf_31⟩ ⟨Nat.le_of_ble_eq_true rfl, Nat.le_of_ble_eq_true rfl⟩ ⟨rfl, congrArg (fun z => some (Value.int (nI z))) ((if_neg h1).trans ((if_neg h12).trans (if_pos h22))).symm, rfl, rfl⟩
    · skip
      refine V_bipush (v := nI 100) dX12_unitOf_15 rfl ?_
      refine V_goto (tgt := 31) dX12_unitOf_17 rfl ?_
      exact V_iret ⟨Or.inl rfl, dX12_unitOf_31⟩ ⟨Nat.le_of_ble_eq_true rfl, Nat.le_of_ble_eq_true rfl⟩ ⟨rfl, congrArg (fun z => some (Value.int (nI z))) ((if_neg h1).trans (if_pos h12)).symm, rfl, rfl⟩
  · skip
    refine V_sipush (v := nI 1000) dX12_unitOf_4 rfl ?_
    refine V_goto (tgt := 31) dX12_unitOf_7 rfl ?_
    exact V_iret ⟨Or.inl rfl, dX12_unitOf_31⟩ ⟨Nat.le_of_ble_eq_true rfl, Nat.le_of_ble_eq_true rfl⟩ ⟨rfl, congrArg (fun z => some (Value.int (nI z))) (if_pos h1).symm, rfl, rfl⟩

set_option maxRecDepth 100000 in
set_option maxHeartbeats 4000000 in
theorem lp_standOf {G : zG} {I : zI} {J : zJ} (hT : mT I) {c : Int32} : ∀ m k, k + m = 56 → (∀ i, i < k → ¬ c = nI (tC i)) → V G mX12_standOf 0 (zA0 (.int (pen (zpl c))) I J) 2 [(0, .ref 62), (1, .int c), (2, .int (nI k))] [] (0, 0) zsh I J := by
  intro m
  induction m with
  | zero =>
    intro k hk hn
    refine V_iload_n dX12_standOf_2 rfl ?_
    refine V_bipush (v := nI 56) dX12_standOf_3 rfl ?_
    refine V_icmp_geN (tgt := 26) dX12_standOf_5 rfl (by omega) (by omega) (fun _ => ?_) (fun h => absurd h (by omega))
    refine V_iconst (v := (-1)) dX12_standOf_26 rfl ?_
    exact V_iret ⟨Or.inl rfl, dX12_standOf_27⟩ ⟨Nat.le_of_ble_eq_true rfl, Nat.le_of_ble_eq_true rfl⟩ ⟨rfl, congrArg (fun z => some (Value.int z)) (by cases hz : zpl c with | none => rfl | some i => exact absurd (zpl_s hz).2 (hn i (by have := (zpl_s hz).1; omega))), rfl, rfl⟩
  | succ m ih =>
    intro k hk hn
    refine V_iload_n dX12_standOf_2 rfl ?_
    refine V_bipush (v := nI 56) dX12_standOf_3 rfl ?_
    refine V_icmp_geN (tgt := 26) dX12_standOf_5 rfl (by omega) (by omega) (fun h => absurd h (by omega)) (fun _ => ?_)
    refine V_aload_n dX12_standOf_8 rfl ?_
    refine V_getR (b := 63) dX12_standOf_9 fX12_7 ⟨Nat.le_of_ble_eq_true rfl, Nat.le_of_ble_eq_true rfl⟩ rfl rfl rfl ?_
    refine V_iload_n dX12_standOf_12 rfl ?_
    refine V_ialdN (k := k) dX12_standOf_13 ⟨Nat.le_of_ble_eq_true rfl, Nat.le_of_ble_eq_true rfl⟩ rfl (by decide) (by omega) ?_
    refine V_eqI (y := nI (tC k)) (hT.1 _ (by omega)) ?_
    refine V_iload_n dX12_standOf_14 rfl ?_
    refine V_icmp_ne (tgt := 20) dX12_standOf_15 rfl (fun h15 => ?_) (fun h15 => ?_)
    · skip
      refine V_iincN (ls' := [(2, .int (nI (k + 1))), (0, .ref 62), (1, .int c)]) (n := 1) dX12_standOf_20 rfl rfl (by decide) (by decide) rfl ?_
      refine V_goto (tgt := 2) dX12_standOf_23 rfl ?_
      refine V_sub2 (ls' := [(0, .ref 62), (1, .int c), (2, .int (nI (k + 1)))]) (List.forall_mem_cons.mpr ⟨rfl, List.forall_mem_cons.mpr ⟨rfl, List.forall_mem_cons.mpr ⟨rfl, fun _ h => absurd h List.not_mem_nil⟩⟩⟩) ?_
      refine ih (k + 1) (by omega) (fun i hi => ?_)
      by_cases hik : i = k
      · subst hik; exact fun h => h15 h.symm
      · exact hn i (by omega)
    · skip
      refine V_iload_n dX12_standOf_18 rfl ?_
      exact V_iret ⟨Or.inl rfl, dX12_standOf_19⟩ ⟨Nat.le_of_ble_eq_true rfl, Nat.le_of_ble_eq_true rfl⟩ ⟨rfl, congrArg (fun z => some (Value.int z)) (by rw [← h15, zpl_of (by omega)]; rfl), rfl, rfl⟩

set_option maxRecDepth 100000 in
set_option maxHeartbeats 4000000 in
theorem w_standOf {G : zG} {I : zI} {J : zJ} (hT : mT I) {c : Int32} : zK G mX12_standOf 0 [.ref 62, .int c] zsh I J (zA0 (.int (pen (zpl c))) I J) := by
  refine zK_of kX12_standOf.2.2.2.2.1 (Nat.le_of_ble_eq_true rfl) ?_
  show V G mX12_standOf 0 _ 0 [(0, .ref 62), (1, .int c)] [] (0, 0) zsh I J
  refine V_iconst (v := nI 0) dX12_standOf_0 rfl ?_
  refine V_istore_n (ls' := [(2, .int (nI 0)), (0, .ref 62), (1, .int c)]) dX12_standOf_1 (by decide) rfl ?_
  refine V_sub2 (ls' := [(0, .ref 62), (1, .int c), (2, .int (nI 0))]) (List.forall_mem_cons.mpr ⟨rfl, List.forall_mem_cons.mpr ⟨rfl, List.forall_mem_cons.mpr ⟨rfl, fun _ h => absurd h List.not_mem_nil⟩⟩⟩) ?_
  exact lp_standOf hT 56 0 rfl (fun i hi => absurd hi (Nat.not_lt_zero _))

set_option maxRecDepth 100000 in
set_option maxHeartbeats 4000000 in
theorem w_handOf {G : zG} {I : zI} {J : zJ} (hT : mT I) {k : Nat} (hk : k < 56) : zK G mX12_handOf 0 [.ref 62, .int (nI k)] zsh I J (zA0 (.int (nI (tHand k))) I J) := by
  refine zK_of kX12_handOf.2.2.2.2.1 (Nat.le_of_ble_eq_true rfl) ?_
  show V G mX12_handOf 0 _ 0 [(0, .ref 62), (1, .int (nI k))] [] (0, 0) zsh I J
  have hC9 := tC_le hk
  refine V_aload_n dX12_handOf_0 rfl ?_
  refine V_getR (b := 63) dX12_handOf_1 fX12_7 ⟨Nat.le_of_ble_eq_true rfl, Nat.le_of_ble_eq_true rfl⟩ rfl rfl rfl ?_
  refine V_iload_n dX12_handOf_4 rfl ?_
  refine V_ialdN (k := k) dX12_handOf_5 ⟨Nat.le_of_ble_eq_true rfl, Nat.le_of_ble_eq_true rfl⟩ rfl (by decide) (by omega) ?_
  refine V_eqI (y := nI (tC k)) (hT.1 _ (by omega)) ?_
  refine V_sipush (v := nI 10000) dX12_handOf_6 rfl ?_
  refine V_idivN dX12_handOf_9 (by omega) (by omega) (by omega) ?_
  exact V_iret ⟨Or.inl rfl, dX12_handOf_10⟩ ⟨Nat.le_of_ble_eq_true rfl, Nat.le_of_ble_eq_true rfl⟩ ⟨rfl, by rw [tC_hand hk], rfl, rfl⟩

theorem uN_b {r : Nat} : 1 ≤ uN r ∧ uN r ≤ 1000 := by
  unfold uN
  split
  · omega
  · split
    · omega
    · split <;> omega
set_option maxRecDepth 100000 in
set_option maxHeartbeats 4000000 in
theorem w_inRing {G : zG} {I : zI} {J : zJ} (hT : mT I) {k : Nat} (hk : k < 56) {r : Nat} (hr : r < 5) : zK G mX12_inRing 1 [.ref 62, .int (nI k), .int (nI r)] zsh I J (zA0 (.int (nI (iR k r))) I J) := by
  refine zK_of kX12_inRing.2.2.2.2.1 (Nat.le_of_ble_eq_true rfl) ?_
  show V G mX12_inRing 1 _ 0 [(0, .ref 62), (1, .int (nI k)), (2, .int (nI r))] [] (0, 0) zsh I J
  have hC9 := tC_le hk
  have hu := @uN_b r
  have hd : tC k / uN r ≤ tC k := Nat.div_le_self _ _
  refine V_aload_n dX12_inRing_0 rfl ?_
  refine V_getR (b := 63) dX12_inRing_1 fX12_7 ⟨Nat.le_of_ble_eq_true rfl, Nat.le_of_ble_eq_true rfl⟩ rfl rfl rfl ?_
  refine V_iload_n dX12_inRing_4 rfl ?_
  refine V_ialdN (k := k) dX12_inRing_5 ⟨Nat.le_of_ble_eq_true rfl, Nat.le_of_ble_eq_true rfl⟩ rfl (by decide) (by omega) ?_
  refine V_eqI (y := nI (tC k)) (hT.1 _ (by omega)) ?_
  refine V_iload_n dX12_inRing_6 rfl ?_
  refine V_callS (As := [.int (nI r)]) (st := [.int (nI (tC k))]) dX12_inRing_7 kX12_unitOf lX12_163 (by decide) rfl rfl (Nat.le_of_ble_eq_true rfl) ⟨Nat.le_of_ble_eq_true rfl, Nat.le_of_ble_eq_true rfl⟩ (w_unitOf (by omega)) ?_
  rintro _ _ _ _ ⟨rfl, rfl, rfl, rfl⟩
  refine V_idivN dX12_inRing_10 (by omega) (by omega) (by omega) ?_
  refine V_bipush (v := nI 10) dX12_inRing_11 rfl ?_
  refine V_iremN dX12_inRing_13 (by omega) (by omega) (by omega) ?_
  exact V_iret ⟨Or.inl rfl, dX12_inRing_14⟩ ⟨Nat.le_of_ble_eq_true rfl, Nat.le_of_ble_eq_true rfl⟩ ⟨rfl, rfl, rfl, rfl⟩

set_option maxRecDepth 100000 in
set_option maxHeartbeats 4000000 in
theorem lp_bestRing {G : zG} {I : zI} {J : zJ} (hT : mT I) {k : Nat} (hk : k < 56) : ∀ m r, r + m = 4 → r ≤ tBest k → V G mX12_bestRing 2 (zA0 (.int (nI (tBest k))) I J) 2 [(0, .ref 62), (1, .int (nI k)), (2, .int (nI r))] [] (0, 0) zsh I J := by
  have h4 := tBest_le hk
  intro m
  induction m with
  | zero =>
    intro r hr hb
    refine V_iload_n dX12_bestRing_2 rfl ?_
    refine V_iconst (v := nI 4) dX12_bestRing_3 rfl ?_
    refine V_icmp_geN (tgt := 23) dX12_bestRing_4 rfl (by omega) (by omega) (fun _ => ?_) (fun h => absurd h (by omega))
    refine V_iload_n dX12_bestRing_23 rfl ?_
    exact V_iret ⟨Or.inl rfl, dX12_bestRing_24⟩ ⟨Nat.le_of_ble_eq_true rfl, Nat.le_of_ble_eq_true rfl⟩ ⟨rfl, congrArg (fun z => some (Value.int (nI z))) (by omega), rfl, rfl⟩
  | succ m ih =>
    intro r hr hb
    refine V_iload_n dX12_bestRing_2 rfl ?_
    refine V_iconst (v := nI 4) dX12_bestRing_3 rfl ?_
    refine V_icmp_geN (tgt := 23) dX12_bestRing_4 rfl (by omega) (by omega) (fun h => absurd h (by omega)) (fun _ => ?_)
    refine V_aload_n dX12_bestRing_7 rfl ?_
    refine V_iload_n dX12_bestRing_8 rfl ?_
    refine V_iload_n dX12_bestRing_9 rfl ?_
    refine V_callV (As := [.int (nI k), .int (nI r)]) (st := []) (a := 62) dX12_bestRing_10 kX12_inRing lX12_177 (by decide) rfl rfl (Nat.le_of_ble_eq_true rfl) ⟨Nat.le_of_ble_eq_true rfl, Nat.le_of_ble_eq_true rfl⟩ ⟨Nat.le_of_ble_eq_true rfl, Nat.le_of_ble_eq_true rfl⟩ rfl ⟨rfl, by decide⟩ (w_inRing hT hk (by omega)) ?_
    rintro _ _ _ _ ⟨rfl, rfl, rfl, rfl⟩
    refine V_if_neN (tgt := 23) dX12_bestRing_13 rfl (by have := @iR_9 k r; omega) (fun h13 => ?_) (fun h13 => ?_)
    · skip
      refine V_iload_n dX12_bestRing_23 rfl ?_
      exact V_iret ⟨Or.inl rfl, dX12_bestRing_24⟩ ⟨Nat.le_of_ble_eq_true rfl, Nat.le_of_ble_eq_true rfl⟩ ⟨rfl, congrArg (fun z => some (Value.int (nI z))) (Nat.le_antisymm hb (Nat.le_of_not_lt (fun hlt => h13 (iR_b hk hlt)))), rfl, rfl⟩
    · skip
      refine V_iload_n dX12_bestRing_16 rfl ?_
      refine V_iconst (v := nI 1) dX12_bestRing_17 rfl ?_
      refine V_iaddN dX12_bestRing_18 ?_
      refine V_istore_n (ls' := [(2, .int (nI (r + 1))), (0, .ref 62), (1, .int (nI k))]) dX12_bestRing_19 (by decide) rfl ?_
      refine V_goto (tgt := 2) dX12_bestRing_20 rfl ?_
      refine V_sub2 (ls' := [(0, .ref 62), (1, .int (nI k)), (2, .int (nI (r + 1)))]) (List.forall_mem_cons.mpr ⟨rfl, List.forall_mem_cons.mpr ⟨rfl, List.forall_mem_cons.mpr ⟨rfl, fun _ h => absurd h List.not_mem_nil⟩⟩⟩) ?_
      refine ih (r + 1) (by omega) ?_
      by_cases he : r = tBest k
      · subst he; exact absurd h13 (iR_n hk (by omega))
      · omega

set_option maxRecDepth 100000 in
set_option maxHeartbeats 4000000 in
theorem w_bestRing {G : zG} {I : zI} {J : zJ} (hT : mT I) {k : Nat} (hk : k < 56) : zK G mX12_bestRing 2 [.ref 62, .int (nI k)] zsh I J (zA0 (.int (nI (tBest k))) I J) := by
  refine zK_of kX12_bestRing.2.2.2.2.1 (Nat.le_of_ble_eq_true rfl) ?_
  show V G mX12_bestRing 2 _ 0 [(0, .ref 62), (1, .int (nI k))] [] (0, 0) zsh I J
  refine V_iconst (v := nI 0) dX12_bestRing_0 rfl ?_
  refine V_istore_n (ls' := [(2, .int (nI 0)), (0, .ref 62), (1, .int (nI k))]) dX12_bestRing_1 (by decide) rfl ?_
  refine V_sub2 (ls' := [(0, .ref 62), (1, .int (nI k)), (2, .int (nI 0))]) (List.forall_mem_cons.mpr ⟨rfl, List.forall_mem_cons.mpr ⟨rfl, List.forall_mem_cons.mpr ⟨rfl, fun _ h => absurd h List.not_mem_nil⟩⟩⟩) ?_
  exact lp_bestRing hT hk 4 0 rfl (Nat.zero_le _)

set_option maxRecDepth 100000 in
set_option maxHeartbeats 4000000 in
theorem lp_lying {G : zG} {I : zI} {J : zJ} (hT : mT I) {k : Nat} (hk : k < 56) : ∀ m r, r + m = 4 → V G mX12_lying 2 (zA0 (.int (nI (tBel (5 * k + 4)))) I J) 4 [(0, .ref 62), (1, .int (nI k)), (2, .int (nI (tBel (5 * k + r)))), (3, .int (nI r))] [] (0, 0) zsh I J := by
  intro m
  induction m with
  | zero =>
    intro r hr
    refine V_iload_n dX12_lying_4 rfl ?_
    refine V_iconst (v := nI 4) dX12_lying_5 rfl ?_
    refine V_icmp_geN (tgt := 24) dX12_lying_6 rfl (by omega) (by omega) (fun _ => ?_) (fun h => absurd h (by omega))
    refine V_iload_n dX12_lying_24 rfl ?_
    exact V_iret ⟨Or.inl rfl, dX12_lying_25⟩ ⟨Nat.le_of_ble_eq_true rfl, Nat.le_of_ble_eq_true rfl⟩ ⟨rfl, congrArg (fun z => some (Value.int (nI (tBel (5 * k + z))))) (by omega), rfl, rfl⟩
  | succ m ih =>
    intro r hr
    refine V_iload_n dX12_lying_4 rfl ?_
    refine V_iconst (v := nI 4) dX12_lying_5 rfl ?_
    refine V_icmp_geN (tgt := 24) dX12_lying_6 rfl (by omega) (by omega) (fun h => absurd h (by omega)) (fun _ => ?_)
    refine V_iload_n dX12_lying_9 rfl ?_
    refine V_aload_n dX12_lying_10 rfl ?_
    refine V_iload_n dX12_lying_11 rfl ?_
    refine V_iload_n dX12_lying_12 rfl ?_
    refine V_callV (As := [.int (nI k), .int (nI r)]) (st := [.int (nI (tBel (5 * k + r)))]) (a := 62) dX12_lying_13 kX12_inRing lX12_177 (by decide) rfl rfl (Nat.le_of_ble_eq_true rfl) ⟨Nat.le_of_ble_eq_true rfl, Nat.le_of_ble_eq_true rfl⟩ ⟨Nat.le_of_ble_eq_true rfl, Nat.le_of_ble_eq_true rfl⟩ rfl ⟨rfl, by decide⟩ (w_inRing hT hk (by omega)) ?_
    rintro _ _ _ _ ⟨rfl, rfl, rfl, rfl⟩
    refine V_iaddN dX12_lying_16 (V_eqI (y := nI (tBel (5 * k + (r + 1)))) (congrArg nI (iR_s hk (by omega))) ?_)
    refine V_istore_n (ls' := [(2, .int (nI (tBel (5 * k + (r + 1))))), (0, .ref 62), (1, .int (nI k)), (3, .int (nI r))]) dX12_lying_17 (by decide) rfl ?_
    refine V_iincN (ls' := [(3, .int (nI (r + 1))), (2, .int (nI (tBel (5 * k + (r + 1))))), (0, .ref 62), (1, .int (nI k))]) (n := 1) dX12_lying_18 rfl rfl (by decide) (by decide) rfl ?_
    refine V_goto (tgt := 4) dX12_lying_21 rfl ?_
    refine V_sub2 (ls' := [(0, .ref 62), (1, .int (nI k)), (2, .int (nI (tBel (5 * k + (r + 1))))), (3, .int (nI (r + 1)))]) (List.forall_mem_cons.mpr ⟨rfl, List.forall_mem_cons.mpr ⟨rfl, List.forall_mem_cons.mpr ⟨rfl, List.forall_mem_cons.mpr ⟨rfl, fun _ h => absurd h List.not_mem_nil⟩⟩⟩⟩) ?_
    exact ih (r + 1) (by omega)

set_option maxRecDepth 100000 in
set_option maxHeartbeats 4000000 in
theorem w_lying {G : zG} {I : zI} {J : zJ} (hT : mT I) {k : Nat} (hk : k < 56) : zK G mX12_lying 2 [.ref 62, .int (nI k)] zsh I J (zA0 (.int (nI (tBel (5 * k + 4)))) I J) := by
  refine zK_of kX12_lying.2.2.2.2.1 (Nat.le_of_ble_eq_true rfl) ?_
  show V G mX12_lying 2 _ 0 [(0, .ref 62), (1, .int (nI k))] [] (0, 0) zsh I J
  refine V_iconst (v := nI 0) dX12_lying_0 rfl ?_
  refine V_istore_n (ls' := [(2, .int (nI 0)), (0, .ref 62), (1, .int (nI k))]) dX12_lying_1 (by decide) rfl ?_
  refine V_iconst (v := nI 0) dX12_lying_2 rfl ?_
  refine V_istore_n (ls' := [(3, .int (nI 0)), (2, .int (nI 0)), (0, .ref 62), (1, .int (nI k))]) dX12_lying_3 (by decide) rfl ?_
  refine V_sub2 (ls' := [(0, .ref 62), (1, .int (nI k)), (2, .int (nI (tBel (5 * k + 0)))), (3, .int (nI 0))]) (List.forall_mem_cons.mpr ⟨rfl, List.forall_mem_cons.mpr ⟨rfl, List.forall_mem_cons.mpr ⟨(congrArg (fun z => some (Value.int z)) (congrArg nI (iR_0 hk).symm)), List.forall_mem_cons.mpr ⟨rfl, fun _ h => absurd h List.not_mem_nil⟩⟩⟩⟩) ?_
  exact lp_lying hT hk 4 0 (Nat.zero_add _)

set_option maxRecDepth 100000 in
set_option maxHeartbeats 4000000 in
theorem lp_below {G : zG} {I : zI} {J : zJ} (hT : mT I) {k : Nat} (hk : k < 56) {R : Nat} (hR : R ≤ 4) : ∀ m r, r + m = R → V G mX12_below 2 (zA0 (.int (nI (tBel (5 * k + R)))) I J) 5 [(0, .ref 62), (1, .int (nI k)), (2, .int (nI R)), (3, .int (nI (tBel (5 * k + r)))), (4, .int (nI r))] [] (0, 0) zsh I J := by
  intro m
  induction m with
  | zero =>
    intro r hr
    refine V_iload dX12_below_5 rfl ?_
    refine V_iload_n dX12_below_7 rfl ?_
    refine V_icmp_geN (tgt := 27) dX12_below_8 rfl (by omega) (by omega) (fun _ => ?_) (fun h => absurd h (by omega))
    refine V_iload_n dX12_below_27 rfl ?_
    exact V_iret ⟨Or.inl rfl, dX12_below_28⟩ ⟨Nat.le_of_ble_eq_true rfl, Nat.le_of_ble_eq_true rfl⟩ ⟨rfl, congrArg (fun z => some (Value.int (nI (tBel (5 * k + z))))) (by omega), rfl, rfl⟩
  | succ m ih =>
    intro r hr
    refine V_iload dX12_below_5 rfl ?_
    refine V_iload_n dX12_below_7 rfl ?_
    refine V_icmp_geN (tgt := 27) dX12_below_8 rfl (by omega) (by omega) (fun h => absurd h (by omega)) (fun _ => ?_)
    refine V_iload_n dX12_below_11 rfl ?_
    refine V_aload_n dX12_below_12 rfl ?_
    refine V_iload_n dX12_below_13 rfl ?_
    refine V_iload dX12_below_14 rfl ?_
    refine V_callV (As := [.int (nI k), .int (nI r)]) (st := [.int (nI (tBel (5 * k + r)))]) (a := 62) dX12_below_16 kX12_inRing lX12_177 (by decide) rfl rfl (Nat.le_of_ble_eq_true rfl) ⟨Nat.le_of_ble_eq_true rfl, Nat.le_of_ble_eq_true rfl⟩ ⟨Nat.le_of_ble_eq_true rfl, Nat.le_of_ble_eq_true rfl⟩ rfl ⟨rfl, by decide⟩ (w_inRing hT hk (by omega)) ?_
    rintro _ _ _ _ ⟨rfl, rfl, rfl, rfl⟩
    refine V_iaddN dX12_below_19 (V_eqI (y := nI (tBel (5 * k + (r + 1)))) (congrArg nI (iR_s hk (by omega))) ?_)
    refine V_istore_n (ls' := [(3, .int (nI (tBel (5 * k + (r + 1))))), (0, .ref 62), (1, .int (nI k)), (2, .int (nI R)), (4, .int (nI r))]) dX12_below_20 (by decide) rfl ?_
    refine V_iincN (ls' := [(4, .int (nI (r + 1))), (3, .int (nI (tBel (5 * k + (r + 1))))), (0, .ref 62), (1, .int (nI k)), (2, .int (nI R))]) (n := 1) dX12_below_21 rfl rfl (by decide) (by decide) rfl ?_
    refine V_goto (tgt := 5) dX12_below_24 rfl ?_
    refine V_sub2 (ls' := [(0, .ref 62), (1, .int (nI k)), (2, .int (nI R)), (3, .int (nI (tBel (5 * k + (r + 1))))), (4, .int (nI (r + 1)))]) (List.forall_mem_cons.mpr ⟨rfl, List.forall_mem_cons.mpr ⟨rfl, List.forall_mem_cons.mpr ⟨rfl, List.forall_mem_cons.mpr ⟨rfl, List.forall_mem_cons.mpr ⟨rfl, fun _ h => absurd h List.not_mem_nil⟩⟩⟩⟩⟩) ?_
    exact ih (r + 1) (by omega)

set_option maxRecDepth 100000 in
set_option maxHeartbeats 4000000 in
theorem w_below {G : zG} {I : zI} {J : zJ} (hT : mT I) {k : Nat} (hk : k < 56) {R : Nat} (hR : R ≤ 4) : zK G mX12_below 2 [.ref 62, .int (nI k), .int (nI R)] zsh I J (zA0 (.int (nI (tBel (5 * k + R)))) I J) := by
  refine zK_of kX12_below.2.2.2.2.1 (Nat.le_of_ble_eq_true rfl) ?_
  show V G mX12_below 2 _ 0 [(0, .ref 62), (1, .int (nI k)), (2, .int (nI R))] [] (0, 0) zsh I J
  refine V_iconst (v := nI 0) dX12_below_0 rfl ?_
  refine V_istore_n (ls' := [(3, .int (nI 0)), (0, .ref 62), (1, .int (nI k)), (2, .int (nI R))]) dX12_below_1 (by decide) rfl ?_
  refine V_iconst (v := nI 0) dX12_below_2 rfl ?_
  refine V_istore (ls' := [(4, .int (nI 0)), (3, .int (nI 0)), (0, .ref 62), (1, .int (nI k)), (2, .int (nI R))]) dX12_below_3 (by decide) rfl ?_
  refine V_sub2 (ls' := [(0, .ref 62), (1, .int (nI k)), (2, .int (nI R)), (3, .int (nI (tBel (5 * k + 0)))), (4, .int (nI 0))]) (List.forall_mem_cons.mpr ⟨rfl, List.forall_mem_cons.mpr ⟨rfl, List.forall_mem_cons.mpr ⟨rfl, List.forall_mem_cons.mpr ⟨(congrArg (fun z => some (Value.int z)) (congrArg nI (iR_0 hk).symm)), List.forall_mem_cons.mpr ⟨rfl, fun _ h => absurd h List.not_mem_nil⟩⟩⟩⟩⟩) ?_
  exact lp_below hT hk hR R 0 (Nat.zero_add _)

set_option maxRecDepth 100000 in
set_option maxHeartbeats 4000000 in
theorem w_stateOf {G : zG} {I : zI} {J : zJ} {p q l : Nat} : zK G mX12_stateOf 0 [.int (nI p), .int (nI q), .int (nI l)] zsh I J (zA0 (.int (nI (stN p q l))) I J) := by
  refine zK_of kX12_stateOf.2.2.2.2.1 (Nat.le_of_ble_eq_true rfl) ?_
  show V G mX12_stateOf 0 _ 0 [(0, .int (nI p)), (1, .int (nI q)), (2, .int (nI l))] [] (0, 0) zsh I J
  refine V_iconst (v := nI 2) dX12_stateOf_0 rfl ?_
  refine V_bipush (v := nI 56) dX12_stateOf_1 rfl ?_
  refine V_iload_n dX12_stateOf_3 rfl ?_
  refine V_imulN dX12_stateOf_4 ?_
  refine V_iload_n dX12_stateOf_5 rfl ?_
  refine V_iaddN dX12_stateOf_6 ?_
  refine V_imulN dX12_stateOf_7 ?_
  refine V_iload_n dX12_stateOf_8 rfl ?_
  refine V_iaddN dX12_stateOf_9 ?_
  exact V_iret ⟨Or.inl rfl, dX12_stateOf_10⟩ ⟨Nat.le_of_ble_eq_true rfl, Nat.le_of_ble_eq_true rfl⟩ ⟨rfl, rfl, rfl, rfl⟩

set_option maxRecDepth 100000 in
set_option maxHeartbeats 4000000 in
theorem w_standIn {G : zG} {I : zI} {J : zJ} {p q l : Nat} (hp : p < 56) (hq : q < 56) (hl : l ≤ 1) {s : Nat} (hs : s < 2 ^ 31) : zK G mX12_standIn 0 [.int (nI (stN p q l)), .int (nI s)] zsh I J (zA0 (.int (nI (if s = 0 then p else q))) I J) := by
  refine zK_of kX12_standIn.2.2.2.2.1 (Nat.le_of_ble_eq_true rfl) ?_
  show V G mX12_standIn 0 _ 0 [(0, .int (nI (stN p q l))), (1, .int (nI s))] [] (0, 0) zsh I J
  have hst := stN_lt hp hq hl
  have h9 : stN p q l / 2 < 2 ^ 31 := by omega
  refine V_iload_n dX12_standIn_0 rfl ?_
  refine V_if_neN (tgt := 13) dX12_standIn_1 rfl (by omega) (fun h1 => ?_) (fun h1 => ?_)
  · skip
    refine V_iload_n dX12_standIn_13 rfl ?_
    refine V_iconst (v := nI 2) dX12_standIn_14 rfl ?_
    refine V_idivN dX12_standIn_15 (by omega) (by omega) (by omega) ?_
    refine V_bipush (v := nI 56) dX12_standIn_16 rfl ?_
    refine V_iremN dX12_standIn_18 (by omega) (by omega) (by omega) ?_
    exact V_iret ⟨Or.inl rfl, dX12_standIn_19⟩ ⟨Nat.le_of_ble_eq_true rfl, Nat.le_of_ble_eq_true rfl⟩ ⟨rfl, congrArg (fun z => some (Value.int (nI z))) ((stN_q hq hl).trans (if_neg h1).symm), rfl, rfl⟩
  · skip
    refine V_iload_n dX12_standIn_4 rfl ?_
    refine V_iconst (v := nI 2) dX12_standIn_5 rfl ?_
    refine V_idivN dX12_standIn_6 (by omega) (by omega) (by omega) ?_
    refine V_bipush (v := nI 56) dX12_standIn_7 rfl ?_
    refine V_idivN dX12_standIn_9 (by omega) (by omega) (by omega) ?_
    refine V_goto (tgt := 19) dX12_standIn_10 rfl ?_
    exact V_iret ⟨Or.inl rfl, dX12_standIn_19⟩ ⟨Nat.le_of_ble_eq_true rfl, Nat.le_of_ble_eq_true rfl⟩ ⟨rfl, congrArg (fun z => some (Value.int (nI z))) ((stN_p hq hl).trans (if_pos h1).symm), rfl, rfl⟩

set_option maxRecDepth 100000 in
set_option maxHeartbeats 4000000 in
theorem w_lastIn {G : zG} {I : zI} {J : zJ} {p q l : Nat} (hp : p < 56) (hq : q < 56) (hl : l ≤ 1) : zK G mX12_lastIn 0 [.int (nI (stN p q l))] zsh I J (zA0 (.int (nI l)) I J) := by
  refine zK_of kX12_lastIn.2.2.2.2.1 (Nat.le_of_ble_eq_true rfl) ?_
  show V G mX12_lastIn 0 _ 0 [(0, .int (nI (stN p q l)))] [] (0, 0) zsh I J
  have hst := stN_lt hp hq hl
  refine V_iload_n dX12_lastIn_0 rfl ?_
  refine V_iconst (v := nI 2) dX12_lastIn_1 rfl ?_
  refine V_iremN dX12_lastIn_2 (by omega) (by omega) (by omega) ?_
  exact V_iret ⟨Or.inl rfl, dX12_lastIn_3⟩ ⟨Nat.le_of_ble_eq_true rfl, Nat.le_of_ble_eq_true rfl⟩ ⟨rfl, congrArg (fun z => some (Value.int (nI z))) (stN_l hl), rfl, rfl⟩

set_option maxRecDepth 100000 in
set_option maxHeartbeats 4000000 in
theorem w_handsIn {G : zG} {I : zI} {J : zJ} (hT : mT I) {p q l : Nat} (hp : p < 56) (hq : q < 56) (hl : l ≤ 1) : zK G mX12_handsIn 1 [.ref 62, .int (nI (stN p q l))] zsh I J (zA0 (.int (nI (hnd p q))) I J) := by
  refine zK_of kX12_handsIn.2.2.2.2.1 (Nat.le_of_ble_eq_true rfl) ?_
  show V G mX12_handsIn 1 _ 0 [(0, .ref 62), (1, .int (nI (stN p q l)))] [] (0, 0) zsh I J
  refine V_aload_n dX12_handsIn_0 rfl ?_
  refine V_iload_n dX12_handsIn_1 rfl ?_
  refine V_iconst (v := nI 0) dX12_handsIn_2 rfl ?_
  refine V_callS (As := [.int (nI (stN p q l)), .int (nI 0)]) (st := [.ref 62]) dX12_handsIn_3 kX12_standIn lX12_181 (by decide) rfl rfl (Nat.le_of_ble_eq_true rfl) ⟨Nat.le_of_ble_eq_true rfl, Nat.le_of_ble_eq_true rfl⟩ (w_standIn hp hq hl (by decide)) ?_
  rintro _ _ _ _ ⟨rfl, rfl, rfl, rfl⟩
  refine V_callV (As := [.int (nI p)]) (st := []) (a := 62) dX12_handsIn_6 kX12_handOf lX12_184 (by decide) rfl rfl (Nat.le_of_ble_eq_true rfl) ⟨Nat.le_of_ble_eq_true rfl, Nat.le_of_ble_eq_true rfl⟩ ⟨Nat.le_of_ble_eq_true rfl, Nat.le_of_ble_eq_true rfl⟩ rfl ⟨rfl, by decide⟩ (w_handOf hT hp) ?_
  rintro _ _ _ _ ⟨rfl, rfl, rfl, rfl⟩
  refine V_aload_n dX12_handsIn_9 rfl ?_
  refine V_iload_n dX12_handsIn_10 rfl ?_
  refine V_iconst (v := nI 1) dX12_handsIn_11 rfl ?_
  refine V_callS (As := [.int (nI (stN p q l)), .int (nI 1)]) (st := [.ref 62, .int (nI (tHand p))]) dX12_handsIn_12 kX12_standIn lX12_181 (by decide) rfl rfl (Nat.le_of_ble_eq_true rfl) ⟨Nat.le_of_ble_eq_true rfl, Nat.le_of_ble_eq_true rfl⟩ (w_standIn hp hq hl (by decide)) ?_
  rintro _ _ _ _ ⟨rfl, rfl, rfl, rfl⟩
  refine V_callV (As := [.int (nI q)]) (st := [.int (nI (tHand p))]) (a := 62) dX12_handsIn_15 kX12_handOf lX12_184 (by decide) rfl rfl (Nat.le_of_ble_eq_true rfl) ⟨Nat.le_of_ble_eq_true rfl, Nat.le_of_ble_eq_true rfl⟩ ⟨Nat.le_of_ble_eq_true rfl, Nat.le_of_ble_eq_true rfl⟩ rfl ⟨rfl, by decide⟩ (w_handOf hT hq) ?_
  rintro _ _ _ _ ⟨rfl, rfl, rfl, rfl⟩
  refine V_iaddN dX12_handsIn_18 ?_
  exact V_iret ⟨Or.inl rfl, dX12_handsIn_19⟩ ⟨Nat.le_of_ble_eq_true rfl, Nat.le_of_ble_eq_true rfl⟩ ⟨rfl, rfl, rfl, rfl⟩

set_option maxRecDepth 100000 in
set_option maxHeartbeats 4000000 in
theorem w_turnIn {G : zG} {I : zI} {J : zJ} (hT : mT I) {p q l : Nat} (hp : p < 56) (hq : q < 56) (hl : l ≤ 1) : zK G mX12_turnIn 3 [.ref 62, .int (nI (stN p q l))] zsh I J (zA0 (.int (nI (sWho p q l))) I J) := by
  refine zK_of kX12_turnIn.2.2.2.2.1 (Nat.le_of_ble_eq_true rfl) ?_
  show V G mX12_turnIn 3 _ 0 [(0, .ref 62), (1, .int (nI (stN p q l)))] [] (0, 0) zsh I J
  refine V_aload_n dX12_turnIn_0 rfl ?_
  refine V_iload_n dX12_turnIn_1 rfl ?_
  refine V_callV (As := [.int (nI (stN p q l))]) (st := []) (a := 62) dX12_turnIn_2 kX12_handsIn lX12_187 (by decide) rfl rfl (Nat.le_of_ble_eq_true rfl) ⟨Nat.le_of_ble_eq_true rfl, Nat.le_of_ble_eq_true rfl⟩ ⟨Nat.le_of_ble_eq_true rfl, Nat.le_of_ble_eq_true rfl⟩ rfl ⟨rfl, by decide⟩ (w_handsIn hT hp hq hl) ?_
  rintro _ _ _ _ ⟨rfl, rfl, rfl, rfl⟩
  refine V_if_neN (tgt := 10) dX12_turnIn_5 rfl (by have := tBest_le hp; have := tBest_le hq; have := hnd_6 hp hq; have := tHand_le hp; have := tHand_le hq; (try have := tHand_le hsel); omega) (fun h5 => ?_) (fun h5 => ?_)
  · skip
    refine V_aload_n dX12_turnIn_10 rfl ?_
    refine V_iload_n dX12_turnIn_11 rfl ?_
    refine V_iconst (v := nI 0) dX12_turnIn_12 rfl ?_
    refine V_callS (As := [.int (nI (stN p q l)), .int (nI 0)]) (st := [.ref 62]) dX12_turnIn_13 kX12_standIn lX12_181 (by decide) rfl rfl (Nat.le_of_ble_eq_true rfl) ⟨Nat.le_of_ble_eq_true rfl, Nat.le_of_ble_eq_true rfl⟩ (w_standIn hp hq hl (by decide)) ?_
    rintro _ _ _ _ ⟨rfl, rfl, rfl, rfl⟩
    refine V_callV (As := [.int (nI p)]) (st := []) (a := 62) dX12_turnIn_16 kX12_bestRing lX12_170 (by decide) rfl rfl (Nat.le_of_ble_eq_true rfl) ⟨Nat.le_of_ble_eq_true rfl, Nat.le_of_ble_eq_true rfl⟩ ⟨Nat.le_of_ble_eq_true rfl, Nat.le_of_ble_eq_true rfl⟩ rfl ⟨rfl, by decide⟩ (w_bestRing hT hp) ?_
    rintro _ _ _ _ ⟨rfl, rfl, rfl, rfl⟩
    refine V_istore_n (ls' := [(2, .int (nI (tBest p))), (0, .ref 62), (1, .int (nI (stN p q l)))]) dX12_turnIn_19 (by decide) rfl ?_
    refine V_aload_n dX12_turnIn_20 rfl ?_
    refine V_iload_n dX12_turnIn_21 rfl ?_
    refine V_iconst (v := nI 1) dX12_turnIn_22 rfl ?_
    refine V_callS (As := [.int (nI (stN p q l)), .int (nI 1)]) (st := [.ref 62]) dX12_turnIn_23 kX12_standIn lX12_181 (by decide) rfl rfl (Nat.le_of_ble_eq_true rfl) ⟨Nat.le_of_ble_eq_true rfl, Nat.le_of_ble_eq_true rfl⟩ (w_standIn hp hq hl (by decide)) ?_
    rintro _ _ _ _ ⟨rfl, rfl, rfl, rfl⟩
    refine V_callV (As := [.int (nI q)]) (st := []) (a := 62) dX12_turnIn_26 kX12_bestRing lX12_170 (by decide) rfl rfl (Nat.le_of_ble_eq_true rfl) ⟨Nat.le_of_ble_eq_true rfl, Nat.le_of_ble_eq_true rfl⟩ ⟨Nat.le_of_ble_eq_true rfl, Nat.le_of_ble_eq_true rfl⟩ rfl ⟨rfl, by decide⟩ (w_bestRing hT hq) ?_
    rintro _ _ _ _ ⟨rfl, rfl, rfl, rfl⟩
    refine V_istore_n (ls' := [(3, .int (nI (tBest q))), (2, .int (nI (tBest p))), (0, .ref 62), (1, .int (nI (stN p q l)))]) dX12_turnIn_29 (by decide) rfl ?_
    refine V_iload_n dX12_turnIn_30 rfl ?_
    refine V_iload_n dX12_turnIn_31 rfl ?_
    refine V_icmp_leN (tgt := 39) dX12_turnIn_32 rfl (by have := tBest_le hp; have := tBest_le hq; have := hnd_6 hp hq; have := tHand_le hp; have := tHand_le hq; (try have := tHand_le hsel); omega) (by have := tBest_le hp; have := tBest_le hq; have := hnd_6 hp hq; have := tHand_le hp; have := tHand_le hq; (try have := tHand_le hsel); omega) (fun h32 => ?_) (fun h32 => ?_)
    · skip
      refine V_iload_n dX12_turnIn_39 rfl ?_
      refine V_iload_n dX12_turnIn_40 rfl ?_
      refine V_icmp_leN (tgt := 48) dX12_turnIn_41 rfl (by have := tBest_le hp; have := tBest_le hq; have := hnd_6 hp hq; have := tHand_le hp; have := tHand_le hq; (try have := tHand_le hsel); omega) (by have := tBest_le hp; have := tBest_le hq; have := hnd_6 hp hq; have := tHand_le hp; have := tHand_le hq; (try have := tHand_le hsel); omega) (fun h41 => ?_) (fun h41 => ?_)
      · skip
        refine V_iconst (v := nI 1) dX12_turnIn_48 rfl ?_
        refine V_iload_n dX12_turnIn_49 rfl ?_
        refine V_callS (As := [.int (nI (stN p q l))]) (st := [.int (nI 1)]) dX12_turnIn_50 kX12_lastIn lX12_190 (by decide) rfl rfl (Nat.le_of_ble_eq_true rfl) ⟨Nat.le_of_ble_eq_true rfl, Nat.le_of_ble_eq_true rfl⟩ (w_lastIn hp hq hl) ?_
        rintro _ _ _ _ ⟨rfl, rfl, rfl, rfl⟩
        refine V_isubN dX12_turnIn_53 (by have := tBest_le hp; have := tBest_le hq; have := hnd_6 hp hq; have := tHand_le hp; have := tHand_le hq; (try have := tHand_le hsel); omega) ?_
        refine V_eqI (y := nI (sSide p q l)) (congrArg nI (if_pos (by omega)).symm) ?_
        have hsel : (if sSide p q l = 0 then p else q) < 56 := by split <;> assumption
        have hs9 : sSide p q l ≤ 1 := sSide_le
        refine V_istore (ls' := [(4, .int (nI (sSide p q l))), (3, .int (nI (tBest q))), (2, .int (nI (tBest p))), (0, .ref 62), (1, .int (nI (stN p q l)))]) dX12_turnIn_54 (by decide) rfl ?_
        refine V_aload_n dX12_turnIn_56 rfl ?_
        refine V_iload_n dX12_turnIn_57 rfl ?_
        refine V_iload dX12_turnIn_58 rfl ?_
        refine V_callS (As := [.int (nI (stN p q l)), .int (nI (sSide p q l))]) (st := [.ref 62]) dX12_turnIn_60 kX12_standIn lX12_181 (by decide) rfl rfl (Nat.le_of_ble_eq_true rfl) ⟨Nat.le_of_ble_eq_true rfl, Nat.le_of_ble_eq_true rfl⟩ (w_standIn hp hq hl (by omega)) ?_
        rintro _ _ _ _ ⟨rfl, rfl, rfl, rfl⟩
        refine V_callV (As := [.int (nI (if sSide p q l = 0 then p else q))]) (st := []) (a := 62) dX12_turnIn_63 kX12_handOf lX12_184 (by decide) rfl rfl (Nat.le_of_ble_eq_true rfl) ⟨Nat.le_of_ble_eq_true rfl, Nat.le_of_ble_eq_true rfl⟩ ⟨Nat.le_of_ble_eq_true rfl, Nat.le_of_ble_eq_true rfl⟩ rfl ⟨rfl, by decide⟩ (w_handOf hT hsel) ?_
        rintro _ _ _ _ ⟨rfl, rfl, rfl, rfl⟩
        refine V_if_leN (tgt := 74) dX12_turnIn_66 rfl (by have := tBest_le hp; have := tBest_le hq; have := hnd_6 hp hq; have := tHand_le hp; have := tHand_le hq; (try have := tHand_le hsel); omega) (fun h66 => ?_) (fun h66 => ?_)
        · skip
          refine V_iconst (v := nI 1) dX12_turnIn_74 rfl ?_
          refine V_iload dX12_turnIn_75 rfl ?_
          refine V_isubN dX12_turnIn_77 (by have := tBest_le hp; have := tBest_le hq; have := hnd_6 hp hq; have := tHand_le hp; have := tHand_le hq; (try have := tHand_le hsel); omega) ?_
          exact V_iret ⟨Or.inl rfl, dX12_turnIn_78⟩ ⟨Nat.le_of_ble_eq_true rfl, Nat.le_of_ble_eq_true rfl⟩ ⟨rfl, congrArg (fun z => some (Value.int (nI z))) ((if_neg (by unfold hnd at h5; omega)).trans (if_neg (by omega))).symm, rfl, rfl⟩
        · skip
          refine V_iload dX12_turnIn_69 rfl ?_
          refine V_goto (tgt := 78) dX12_turnIn_71 rfl ?_
          exact V_iret ⟨Or.inl rfl, dX12_turnIn_78⟩ ⟨Nat.le_of_ble_eq_true rfl, Nat.le_of_ble_eq_true rfl⟩ ⟨rfl, congrArg (fun z => some (Value.int (nI z))) ((if_neg (by unfold hnd at h5; omega)).trans (if_pos (by omega))).symm, rfl, rfl⟩
      · skip
        refine V_iconst (v := nI 1) dX12_turnIn_44 rfl ?_
        refine V_goto (tgt := 54) dX12_turnIn_45 rfl ?_
        refine V_eqI (y := nI (sSide p q l)) (congrArg nI ((if_neg (by omega)).trans (if_neg (by omega))).symm) ?_
        have hsel : (if sSide p q l = 0 then p else q) < 56 := by split <;> assumption
        have hs9 : sSide p q l ≤ 1 := sSide_le
        refine V_istore (ls' := [(4, .int (nI (sSide p q l))), (3, .int (nI (tBest q))), (2, .int (nI (tBest p))), (0, .ref 62), (1, .int (nI (stN p q l)))]) dX12_turnIn_54 (by decide) rfl ?_
        refine V_aload_n dX12_turnIn_56 rfl ?_
        refine V_iload_n dX12_turnIn_57 rfl ?_
        refine V_iload dX12_turnIn_58 rfl ?_
        refine V_callS (As := [.int (nI (stN p q l)), .int (nI (sSide p q l))]) (st := [.ref 62]) dX12_turnIn_60 kX12_standIn lX12_181 (by decide) rfl rfl (Nat.le_of_ble_eq_true rfl) ⟨Nat.le_of_ble_eq_true rfl, Nat.le_of_ble_eq_true rfl⟩ (w_standIn hp hq hl (by omega)) ?_
        rintro _ _ _ _ ⟨rfl, rfl, rfl, rfl⟩
        refine V_callV (As := [.int (nI (if sSide p q l = 0 then p else q))]) (st := []) (a := 62) dX12_turnIn_63 kX12_handOf lX12_184 (by decide) rfl rfl (Nat.le_of_ble_eq_true rfl) ⟨Nat.le_of_ble_eq_true rfl, Nat.le_of_ble_eq_true rfl⟩ ⟨Nat.le_of_ble_eq_true rfl, Nat.le_of_ble_eq_true rfl⟩ rfl ⟨rfl, by decide⟩ (w_handOf hT hsel) ?_
        rintro _ _ _ _ ⟨rfl, rfl, rfl, rfl⟩
        refine V_if_leN (tgt := 74) dX12_turnIn_66 rfl (by have := tBest_le hp; have := tBest_le hq; have := hnd_6 hp hq; have := tHand_le hp; have := tHand_le hq; (try have := tHand_le hsel); omega) (fun h66 => ?_) (fun h66 => ?_)
        · skip
          refine V_iconst (v := nI 1) dX12_turnIn_74 rfl ?_
          refine V_iload dX12_turnIn_75 rfl ?_
          refine V_isubN dX12_turnIn_77 (by have := tBest_le hp; have := tBest_le hq; have := hnd_6 hp hq; have := tHand_le hp; have := tHand_le hq; (try have := tHand_le hsel); omega) ?_
          exact V_iret ⟨Or.inl rfl, dX12_turnIn_78⟩ ⟨Nat.le_of_ble_eq_true rfl, Nat.le_of_ble_eq_true rfl⟩ ⟨rfl, congrArg (fun z => some (Value.int (nI z))) ((if_neg (by unfold hnd at h5; omega)).trans (if_neg (by omega))).symm, rfl, rfl⟩
        · skip
          refine V_iload dX12_turnIn_69 rfl ?_
          refine V_goto (tgt := 78) dX12_turnIn_71 rfl ?_
          exact V_iret ⟨Or.inl rfl, dX12_turnIn_78⟩ ⟨Nat.le_of_ble_eq_true rfl, Nat.le_of_ble_eq_true rfl⟩ ⟨rfl, congrArg (fun z => some (Value.int (nI z))) ((if_neg (by unfold hnd at h5; omega)).trans (if_pos (by omega))).symm, rfl, rfl⟩
    · skip
      refine V_iconst (v := nI 0) dX12_turnIn_35 rfl ?_
      refine V_goto (tgt := 54) dX12_turnIn_36 rfl ?_
      refine V_eqI (y := nI (sSide p q l)) (congrArg nI ((if_neg (by omega)).trans (if_pos (by omega))).symm) ?_
      have hsel : (if sSide p q l = 0 then p else q) < 56 := by split <;> assumption
      have hs9 : sSide p q l ≤ 1 := sSide_le
      refine V_istore (ls' := [(4, .int (nI (sSide p q l))), (3, .int (nI (tBest q))), (2, .int (nI (tBest p))), (0, .ref 62), (1, .int (nI (stN p q l)))]) dX12_turnIn_54 (by decide) rfl ?_
      refine V_aload_n dX12_turnIn_56 rfl ?_
      refine V_iload_n dX12_turnIn_57 rfl ?_
      refine V_iload dX12_turnIn_58 rfl ?_
      refine V_callS (As := [.int (nI (stN p q l)), .int (nI (sSide p q l))]) (st := [.ref 62]) dX12_turnIn_60 kX12_standIn lX12_181 (by decide) rfl rfl (Nat.le_of_ble_eq_true rfl) ⟨Nat.le_of_ble_eq_true rfl, Nat.le_of_ble_eq_true rfl⟩ (w_standIn hp hq hl (by omega)) ?_
      rintro _ _ _ _ ⟨rfl, rfl, rfl, rfl⟩
      refine V_callV (As := [.int (nI (if sSide p q l = 0 then p else q))]) (st := []) (a := 62) dX12_turnIn_63 kX12_handOf lX12_184 (by decide) rfl rfl (Nat.le_of_ble_eq_true rfl) ⟨Nat.le_of_ble_eq_true rfl, Nat.le_of_ble_eq_true rfl⟩ ⟨Nat.le_of_ble_eq_true rfl, Nat.le_of_ble_eq_true rfl⟩ rfl ⟨rfl, by decide⟩ (w_handOf hT hsel) ?_
      rintro _ _ _ _ ⟨rfl, rfl, rfl, rfl⟩
      refine V_if_leN (tgt := 74) dX12_turnIn_66 rfl (by have := tBest_le hp; have := tBest_le hq; have := hnd_6 hp hq; have := tHand_le hp; have := tHand_le hq; (try have := tHand_le hsel); omega) (fun h66 => ?_) (fun h66 => ?_)
      · skip
        refine V_iconst (v := nI 1) dX12_turnIn_74 rfl ?_
        refine V_iload dX12_turnIn_75 rfl ?_
        refine V_isubN dX12_turnIn_77 (by have := tBest_le hp; have := tBest_le hq; have := hnd_6 hp hq; have := tHand_le hp; have := tHand_le hq; (try have := tHand_le hsel); omega) ?_
        exact V_iret ⟨Or.inl rfl, dX12_turnIn_78⟩ ⟨Nat.le_of_ble_eq_true rfl, Nat.le_of_ble_eq_true rfl⟩ ⟨rfl, congrArg (fun z => some (Value.int (nI z))) ((if_neg (by unfold hnd at h5; omega)).trans (if_neg (by omega))).symm, rfl, rfl⟩
      · skip
        refine V_iload dX12_turnIn_69 rfl ?_
        refine V_goto (tgt := 78) dX12_turnIn_71 rfl ?_
        exact V_iret ⟨Or.inl rfl, dX12_turnIn_78⟩ ⟨Nat.le_of_ble_eq_true rfl, Nat.le_of_ble_eq_true rfl⟩ ⟨rfl, congrArg (fun z => some (Value.int (nI z))) ((if_neg (by unfold hnd at h5; omega)).trans (if_pos (by omega))).symm, rfl, rfl⟩
  · skip
    refine V_iconst (v := nI 2) dX12_turnIn_8 rfl ?_
    exact V_iret ⟨Or.inl rfl, dX12_turnIn_9⟩ ⟨Nat.le_of_ble_eq_true rfl, Nat.le_of_ble_eq_true rfl⟩ ⟨rfl, congrArg (fun z => some (Value.int (nI z))) (if_pos (by unfold hnd at h5; omega)).symm, rfl, rfl⟩

set_option maxRecDepth 100000 in
set_option maxHeartbeats 4000000 in
theorem w_pointsIn {G : zG} {I : zI} {J : zJ} (hT : mT I) {p q : Nat} (hp : p < 56) (hq : q < 56) : zK G mX12_pointsIn 3 [.ref 62, .int (nI p), .int (nI q)] zsh I J (zA0 (.int (sPts p q)) I J) := by
  refine zK_of kX12_pointsIn.2.2.2.2.1 (Nat.le_of_ble_eq_true rfl) ?_
  show V G mX12_pointsIn 3 _ 0 [(0, .ref 62), (1, .int (nI p)), (2, .int (nI q))] [] (0, 0) zsh I J
  refine V_aload_n dX12_pointsIn_0 rfl ?_
  refine V_iload_n dX12_pointsIn_1 rfl ?_
  refine V_callV (As := [.int (nI p)]) (st := []) (a := 62) dX12_pointsIn_2 kX12_bestRing lX12_170 (by decide) rfl rfl (Nat.le_of_ble_eq_true rfl) ⟨Nat.le_of_ble_eq_true rfl, Nat.le_of_ble_eq_true rfl⟩ ⟨Nat.le_of_ble_eq_true rfl, Nat.le_of_ble_eq_true rfl⟩ rfl ⟨rfl, by decide⟩ (w_bestRing hT hp) ?_
  rintro _ _ _ _ ⟨rfl, rfl, rfl, rfl⟩
  refine V_istore_n (ls' := [(3, .int (nI (tBest p))), (0, .ref 62), (1, .int (nI p)), (2, .int (nI q))]) dX12_pointsIn_5 (by decide) rfl ?_
  refine V_aload_n dX12_pointsIn_6 rfl ?_
  refine V_iload_n dX12_pointsIn_7 rfl ?_
  refine V_callV (As := [.int (nI q)]) (st := []) (a := 62) dX12_pointsIn_8 kX12_bestRing lX12_170 (by decide) rfl rfl (Nat.le_of_ble_eq_true rfl) ⟨Nat.le_of_ble_eq_true rfl, Nat.le_of_ble_eq_true rfl⟩ ⟨Nat.le_of_ble_eq_true rfl, Nat.le_of_ble_eq_true rfl⟩ rfl ⟨rfl, by decide⟩ (w_bestRing hT hq) ?_
  rintro _ _ _ _ ⟨rfl, rfl, rfl, rfl⟩
  refine V_istore (ls' := [(4, .int (nI (tBest q))), (3, .int (nI (tBest p))), (0, .ref 62), (1, .int (nI p)), (2, .int (nI q))]) dX12_pointsIn_11 (by decide) rfl ?_
  refine V_iload_n dX12_pointsIn_13 rfl ?_
  refine V_iload dX12_pointsIn_14 rfl ?_
  refine V_icmp_geN (tgt := 29) dX12_pointsIn_16 rfl (by have := tBest_le hp; have := tBest_le hq; omega) (by have := tBest_le hp; have := tBest_le hq; omega) (fun h16 => ?_) (fun h16 => ?_)
  · skip
    refine V_iload dX12_pointsIn_29 rfl ?_
    refine V_iload_n dX12_pointsIn_31 rfl ?_
    refine V_icmp_geN (tgt := 45) dX12_pointsIn_32 rfl (by have := tBest_le hp; have := tBest_le hq; omega) (by have := tBest_le hp; have := tBest_le hq; omega) (fun h32 => ?_) (fun h32 => ?_)
    · skip
      refine V_iconst (v := nI 0) dX12_pointsIn_45 rfl ?_
      exact V_iret ⟨Or.inl rfl, dX12_pointsIn_46⟩ ⟨Nat.le_of_ble_eq_true rfl, Nat.le_of_ble_eq_true rfl⟩ ⟨rfl, congrArg (fun z => some (Value.int z)) (if_pos (by omega)).symm, rfl, rfl⟩
    · skip
      refine V_aload_n dX12_pointsIn_35 rfl ?_
      refine V_iload_n dX12_pointsIn_36 rfl ?_
      refine V_iload_n dX12_pointsIn_37 rfl ?_
      refine V_callV (As := [.int (nI q), .int (nI (tBest p))]) (st := []) (a := 62) dX12_pointsIn_38 kX12_below lX12_193 (by decide) rfl rfl (Nat.le_of_ble_eq_true rfl) ⟨Nat.le_of_ble_eq_true rfl, Nat.le_of_ble_eq_true rfl⟩ ⟨Nat.le_of_ble_eq_true rfl, Nat.le_of_ble_eq_true rfl⟩ rfl ⟨rfl, by decide⟩ (w_below hT hq (tBest_le (by assumption))) ?_
      rintro _ _ _ _ ⟨rfl, rfl, rfl, rfl⟩
      refine V_ineg dX12_pointsIn_41 ?_
      refine V_goto (tgt := 46) dX12_pointsIn_42 rfl ?_
      exact V_iret ⟨Or.inl rfl, dX12_pointsIn_46⟩ ⟨Nat.le_of_ble_eq_true rfl, Nat.le_of_ble_eq_true rfl⟩ ⟨rfl, congrArg (fun z => some (Value.int z)) ((if_neg (by omega)).trans (if_neg (by omega))).symm, rfl, rfl⟩
  · skip
    refine V_aload_n dX12_pointsIn_19 rfl ?_
    refine V_iload_n dX12_pointsIn_20 rfl ?_
    refine V_iload dX12_pointsIn_21 rfl ?_
    refine V_callV (As := [.int (nI p), .int (nI (tBest q))]) (st := []) (a := 62) dX12_pointsIn_23 kX12_below lX12_193 (by decide) rfl rfl (Nat.le_of_ble_eq_true rfl) ⟨Nat.le_of_ble_eq_true rfl, Nat.le_of_ble_eq_true rfl⟩ ⟨Nat.le_of_ble_eq_true rfl, Nat.le_of_ble_eq_true rfl⟩ rfl ⟨rfl, by decide⟩ (w_below hT hp (tBest_le (by assumption))) ?_
    rintro _ _ _ _ ⟨rfl, rfl, rfl, rfl⟩
    refine V_goto (tgt := 46) dX12_pointsIn_26 rfl ?_
    exact V_iret ⟨Or.inl rfl, dX12_pointsIn_46⟩ ⟨Nat.le_of_ble_eq_true rfl, Nat.le_of_ble_eq_true rfl⟩ ⟨rfl, congrArg (fun z => some (Value.int z)) ((if_neg (by omega)).trans (if_pos (by omega))).symm, rfl, rfl⟩

theorem pen_z {c : Int32} (h : (pen (zpl c)).toInt < 0) : pen (zpl c) = -1 := by
  cases hz : zpl c with
  | none => rfl
  | some k =>
    rw [hz] at h
    have := (zpl_s hz).1
    have e : (pen (some k)).toInt = k := nI_toInt (by omega)
    rw [e] at h
    omega
set_option maxRecDepth 100000 in
set_option maxHeartbeats 4000000 in
theorem w_told {G : zG} {I : zI} {J : zJ} (hT : mT I) {code other last : Int32} : zK G mX12_told 1 [.ref 62, .int code, .int other, .int last] zsh I J (zA0 (.int (stE (stO code other last))) I J) := by
  refine zK_of kX12_told.2.2.2.2.1 (Nat.le_of_ble_eq_true rfl) ?_
  show V G mX12_told 1 _ 0 [(0, .ref 62), (1, .int code), (2, .int other), (3, .int last)] [] (0, 0) zsh I J
  rcases hst : stO code other last with _ | ⟨p, q, l⟩
  · have hsn := stO_n hst
    refine V_aload_n dX12_told_0 rfl ?_
    refine V_iload_n dX12_told_1 rfl ?_
    refine V_callV (As := [.int code]) (st := []) (a := 62) dX12_told_2 kX12_standOf lX12_167 (by decide) rfl rfl (Nat.le_of_ble_eq_true rfl) ⟨Nat.le_of_ble_eq_true rfl, Nat.le_of_ble_eq_true rfl⟩ ⟨Nat.le_of_ble_eq_true rfl, Nat.le_of_ble_eq_true rfl⟩ rfl ⟨rfl, by decide⟩ (w_standOf hT) ?_
    rintro _ _ _ _ ⟨rfl, rfl, rfl, rfl⟩
    refine V_istore (ls' := [(4, .int (pen (zpl code))), (0, .ref 62), (1, .int code), (2, .int other), (3, .int last)]) dX12_told_5 (by decide) rfl ?_
    refine V_aload_n dX12_told_7 rfl ?_
    refine V_iload_n dX12_told_8 rfl ?_
    refine V_callV (As := [.int other]) (st := []) (a := 62) dX12_told_9 kX12_standOf lX12_167 (by decide) rfl rfl (Nat.le_of_ble_eq_true rfl) ⟨Nat.le_of_ble_eq_true rfl, Nat.le_of_ble_eq_true rfl⟩ ⟨Nat.le_of_ble_eq_true rfl, Nat.le_of_ble_eq_true rfl⟩ rfl ⟨rfl, by decide⟩ (w_standOf hT) ?_
    rintro _ _ _ _ ⟨rfl, rfl, rfl, rfl⟩
    refine V_istore (ls' := [(5, .int (pen (zpl other))), (4, .int (pen (zpl code))), (0, .ref 62), (1, .int code), (2, .int other), (3, .int last)]) dX12_told_12 (by decide) rfl ?_
    refine V_iload dX12_told_14 rfl ?_
    refine V_iconst (v := (-1)) dX12_told_16 rfl ?_
    refine V_icmp_eq (tgt := 33) dX12_told_17 rfl (fun h17 => ?_) (fun h17 => ?_)
    · skip
      refine V_iconst (v := (-1)) dX12_told_33 rfl ?_
      refine V_goto (tgt := 45) dX12_told_34 rfl ?_
      exact V_iret ⟨Or.inl rfl, dX12_told_45⟩ ⟨Nat.le_of_ble_eq_true rfl, Nat.le_of_ble_eq_true rfl⟩ ⟨rfl, rfl, rfl, rfl⟩
    · skip
      refine V_iload dX12_told_20 rfl ?_
      refine V_iconst (v := (-1)) dX12_told_22 rfl ?_
      refine V_icmp_eq (tgt := 33) dX12_told_23 rfl (fun h23 => ?_) (fun h23 => ?_)
      · skip
        refine V_iconst (v := (-1)) dX12_told_33 rfl ?_
        refine V_goto (tgt := 45) dX12_told_34 rfl ?_
        exact V_iret ⟨Or.inl rfl, dX12_told_45⟩ ⟨Nat.le_of_ble_eq_true rfl, Nat.le_of_ble_eq_true rfl⟩ ⟨rfl, rfl, rfl, rfl⟩
      · skip
        refine V_iload_n dX12_told_26 rfl ?_
        have hs : ¬ inZ last 0 1 := by rcases hsn with h | h | h; exact absurd (pen_z h) h17; exact absurd (pen_z h) h23; exact h
        · skip
          refine V_callS (As := [.int last]) (st := []) dX12_told_27 kX12_isSide lX12_196 (by decide) rfl rfl (Nat.le_of_ble_eq_true rfl) ⟨Nat.le_of_ble_eq_true rfl, Nat.le_of_ble_eq_true rfl⟩ (q_n w_isSide hs) ?_
          rintro _ _ _ _ ⟨rfl, rfl, rfl, rfl⟩
          refine V_if_ne (tgt := 37) dX12_told_30 rfl (fun h => absurd h (by decide)) (fun _ => ?_)
          refine V_iconst (v := (-1)) dX12_told_33 rfl ?_
          refine V_goto (tgt := 45) dX12_told_34 rfl ?_
          exact V_iret ⟨Or.inl rfl, dX12_told_45⟩ ⟨Nat.le_of_ble_eq_true rfl, Nat.le_of_ble_eq_true rfl⟩ ⟨rfl, rfl, rfl, rfl⟩
  · obtain ⟨hp, hq, hl, hl1, hp56, hq56⟩ := stO_s hst
    subst hl
    refine V_aload_n dX12_told_0 rfl ?_
    refine V_iload_n dX12_told_1 rfl ?_
    refine V_callV (As := [.int code]) (st := []) (a := 62) dX12_told_2 kX12_standOf lX12_167 (by decide) rfl rfl (Nat.le_of_ble_eq_true rfl) ⟨Nat.le_of_ble_eq_true rfl, Nat.le_of_ble_eq_true rfl⟩ ⟨Nat.le_of_ble_eq_true rfl, Nat.le_of_ble_eq_true rfl⟩ rfl ⟨rfl, by decide⟩ (w_standOf hT) ?_
    rintro _ _ _ _ ⟨rfl, rfl, rfl, rfl⟩
    refine V_eqI (y := nI p) (by rw [hp]; rfl) ?_
    refine V_istore (ls' := [(4, .int (nI p)), (0, .ref 62), (1, .int code), (2, .int other), (3, .int (nI l))]) dX12_told_5 (by decide) rfl ?_
    refine V_aload_n dX12_told_7 rfl ?_
    refine V_iload_n dX12_told_8 rfl ?_
    refine V_callV (As := [.int other]) (st := []) (a := 62) dX12_told_9 kX12_standOf lX12_167 (by decide) rfl rfl (Nat.le_of_ble_eq_true rfl) ⟨Nat.le_of_ble_eq_true rfl, Nat.le_of_ble_eq_true rfl⟩ ⟨Nat.le_of_ble_eq_true rfl, Nat.le_of_ble_eq_true rfl⟩ rfl ⟨rfl, by decide⟩ (w_standOf hT) ?_
    rintro _ _ _ _ ⟨rfl, rfl, rfl, rfl⟩
    refine V_eqI (y := nI q) (by rw [hq]; rfl) ?_
    refine V_istore (ls' := [(5, .int (nI q)), (4, .int (nI p)), (0, .ref 62), (1, .int code), (2, .int other), (3, .int (nI l))]) dX12_told_12 (by decide) rfl ?_
    refine V_iload dX12_told_14 rfl ?_
    refine V_iconst (v := (-1)) dX12_told_16 rfl ?_
    refine V_icmp_eq (tgt := 33) dX12_told_17 rfl (fun h => absurd h (nI_ne_neg (by omega) (by decide))) (fun _ => ?_)
    refine V_iload dX12_told_20 rfl ?_
    refine V_iconst (v := (-1)) dX12_told_22 rfl ?_
    refine V_icmp_eq (tgt := 33) dX12_told_23 rfl (fun h => absurd h (nI_ne_neg (by omega) (by decide))) (fun _ => ?_)
    refine V_iload_n dX12_told_26 rfl ?_
    refine V_callS (As := [.int (nI l)]) (st := []) dX12_told_27 kX12_isSide lX12_196 (by decide) rfl rfl (Nat.le_of_ble_eq_true rfl) ⟨Nat.le_of_ble_eq_true rfl, Nat.le_of_ble_eq_true rfl⟩ (q_y w_isSide ((inZ_k (by omega)).mpr (by omega))) ?_
    rintro _ _ _ _ ⟨rfl, rfl, rfl, rfl⟩
    refine V_if_ne (tgt := 37) dX12_told_30 rfl (fun _ => ?_) (fun h => absurd h (by decide))
    refine V_iload dX12_told_37 rfl ?_
    refine V_iload dX12_told_39 rfl ?_
    refine V_iload_n dX12_told_41 rfl ?_
    refine V_callS (As := [.int (nI p), .int (nI q), .int (nI l)]) (st := []) dX12_told_42 kX12_stateOf lX12_199 (by decide) rfl rfl (Nat.le_of_ble_eq_true rfl) ⟨Nat.le_of_ble_eq_true rfl, Nat.le_of_ble_eq_true rfl⟩ w_stateOf ?_
    rintro _ _ _ _ ⟨rfl, rfl, rfl, rfl⟩
    exact V_iret ⟨Or.inl rfl, dX12_told_45⟩ ⟨Nat.le_of_ble_eq_true rfl, Nat.le_of_ble_eq_true rfl⟩ ⟨rfl, rfl, rfl, rfl⟩

theorem w_toldS {G : zG} {I : zI} {J : zJ} (hT : mT I) {code other last : Int32} {p q l : Nat} (h : stO code other last = some (p, q, l)) : zK G mX12_told 1 [.ref 62, .int code, .int other, .int last] zsh I J (zA0 (.int (nI (stN p q l))) I J) := by
  have e := w_told (G := G) (J := J) hT (code := code) (other := other) (last := last)
  rw [h] at e
  exact e
theorem w_toldN {G : zG} {I : zI} {J : zJ} (hT : mT I) {code other last : Int32} (h : stO code other last = none) : zK G mX12_told 1 [.ref 62, .int code, .int other, .int last] zsh I J (zA0 (.int (-1)) I J) := by
  have e := w_told (G := G) (J := J) hT (code := code) (other := other) (last := last)
  rw [h] at e
  exact e
set_option maxRecDepth 100000 in
set_option maxHeartbeats 4000000 in
theorem w_turn {G : zG} {I : zI} {J : zJ} (hT : mT I) {code other last : Int32} : zK G mX12_turn 4 [.ref 62, .int code, .int other, .int last] zsh I J (zA0 (.int (onS (stO code other last) (-1) (fun p q l => nI (sWho p q l)))) I J) := by
  refine zK_of kX12_turn.2.2.2.2.1 (Nat.le_of_ble_eq_true rfl) ?_
  show V G mX12_turn 4 _ 0 [(0, .ref 62), (1, .int code), (2, .int other), (3, .int last)] [] (0, 0) zsh I J
  rcases hst : stO code other last with _ | ⟨p, q, l⟩
  · skip
    refine V_aload_n dX12_turn_0 rfl ?_
    refine V_iload_n dX12_turn_1 rfl ?_
    refine V_iload_n dX12_turn_2 rfl ?_
    refine V_iload_n dX12_turn_3 rfl ?_
    refine V_callV (As := [.int code, .int other, .int last]) (st := []) (a := 62) dX12_turn_4 kX12_told lX12_203 (by decide) rfl rfl (Nat.le_of_ble_eq_true rfl) ⟨Nat.le_of_ble_eq_true rfl, Nat.le_of_ble_eq_true rfl⟩ ⟨Nat.le_of_ble_eq_true rfl, Nat.le_of_ble_eq_true rfl⟩ rfl ⟨rfl, by decide⟩ (w_toldN hT hst) ?_
    rintro _ _ _ _ ⟨rfl, rfl, rfl, rfl⟩
    refine V_istore (ls' := [(4, .int (-1)), (0, .ref 62), (1, .int code), (2, .int other), (3, .int last)]) dX12_turn_7 (by decide) rfl ?_
    refine V_iload dX12_turn_9 rfl ?_
    refine V_iconst (v := (-1)) dX12_turn_11 rfl ?_
    refine V_icmp_ne (tgt := 19) dX12_turn_12 rfl (fun h => absurd h (by decide)) (fun _ => ?_)
    refine V_iconst (v := (-1)) dX12_turn_15 rfl ?_
    refine V_goto (tgt := 25) dX12_turn_16 rfl ?_
    exact V_iret ⟨Or.inl rfl, dX12_turn_25⟩ ⟨Nat.le_of_ble_eq_true rfl, Nat.le_of_ble_eq_true rfl⟩ ⟨rfl, rfl, rfl, rfl⟩
  · obtain ⟨hp, hq, hl, hl1, hp56, hq56⟩ := stO_s hst
    refine V_aload_n dX12_turn_0 rfl ?_
    refine V_iload_n dX12_turn_1 rfl ?_
    refine V_iload_n dX12_turn_2 rfl ?_
    refine V_iload_n dX12_turn_3 rfl ?_
    refine V_callV (As := [.int code, .int other, .int last]) (st := []) (a := 62) dX12_turn_4 kX12_told lX12_203 (by decide) rfl rfl (Nat.le_of_ble_eq_true rfl) ⟨Nat.le_of_ble_eq_true rfl, Nat.le_of_ble_eq_true rfl⟩ ⟨Nat.le_of_ble_eq_true rfl, Nat.le_of_ble_eq_true rfl⟩ rfl ⟨rfl, by decide⟩ (w_toldS hT hst) ?_
    rintro _ _ _ _ ⟨rfl, rfl, rfl, rfl⟩
    refine V_istore (ls' := [(4, .int (nI (stN p q l))), (0, .ref 62), (1, .int code), (2, .int other), (3, .int last)]) dX12_turn_7 (by decide) rfl ?_
    refine V_iload dX12_turn_9 rfl ?_
    refine V_iconst (v := (-1)) dX12_turn_11 rfl ?_
    refine V_icmp_ne (tgt := 19) dX12_turn_12 rfl (fun _ => ?_) (fun h => absurd h (nI_ne_neg (by have := stN_lt hp56 hq56 hl1; omega) (by decide)))
    refine V_aload_n dX12_turn_19 rfl ?_
    refine V_iload dX12_turn_20 rfl ?_
    refine V_callV (As := [.int (nI (stN p q l))]) (st := []) (a := 62) dX12_turn_22 kX12_turnIn lX12_206 (by decide) rfl rfl (Nat.le_of_ble_eq_true rfl) ⟨Nat.le_of_ble_eq_true rfl, Nat.le_of_ble_eq_true rfl⟩ ⟨Nat.le_of_ble_eq_true rfl, Nat.le_of_ble_eq_true rfl⟩ rfl ⟨rfl, by decide⟩ (w_turnIn hT hp56 hq56 hl1) ?_
    rintro _ _ _ _ ⟨rfl, rfl, rfl, rfl⟩
    exact V_iret ⟨Or.inl rfl, dX12_turn_25⟩ ⟨Nat.le_of_ble_eq_true rfl, Nat.le_of_ble_eq_true rfl⟩ ⟨rfl, rfl, rfl, rfl⟩

set_option maxRecDepth 100000 in
set_option maxHeartbeats 4000000 in
theorem w_points {G : zG} {I : zI} {J : zJ} (hT : mT I) {code other last : Int32} : zK G mX12_points 4 [.ref 62, .int code, .int other] zsh I J (zA0 (.int (onS (stO code other (nI 0)) (-100) (fun p q _ => sPts p q))) I J) := by
  refine zK_of kX12_points.2.2.2.2.1 (Nat.le_of_ble_eq_true rfl) ?_
  show V G mX12_points 4 _ 0 [(0, .ref 62), (1, .int code), (2, .int other)] [] (0, 0) zsh I J
  rcases hst : stO code other (nI 0) with _ | ⟨p, q, l⟩
  · skip
    refine V_aload_n dX12_points_0 rfl ?_
    refine V_iload_n dX12_points_1 rfl ?_
    refine V_iload_n dX12_points_2 rfl ?_
    refine V_iconst (v := nI 0) dX12_points_3 rfl ?_
    refine V_callV (As := [.int code, .int other, .int (nI 0)]) (st := []) (a := 62) dX12_points_4 kX12_told lX12_203 (by decide) rfl rfl (Nat.le_of_ble_eq_true rfl) ⟨Nat.le_of_ble_eq_true rfl, Nat.le_of_ble_eq_true rfl⟩ ⟨Nat.le_of_ble_eq_true rfl, Nat.le_of_ble_eq_true rfl⟩ rfl ⟨rfl, by decide⟩ (w_toldN hT hst) ?_
    rintro _ _ _ _ ⟨rfl, rfl, rfl, rfl⟩
    refine V_istore_n (ls' := [(3, .int (-1)), (0, .ref 62), (1, .int code), (2, .int other)]) dX12_points_7 (by decide) rfl ?_
    refine V_iload_n dX12_points_8 rfl ?_
    refine V_iconst (v := (-1)) dX12_points_9 rfl ?_
    refine V_icmp_ne (tgt := 18) dX12_points_10 rfl (fun h => absurd h (by decide)) (fun _ => ?_)
    refine V_bipush (v := (-100)) dX12_points_13 rfl ?_
    refine V_goto (tgt := 32) dX12_points_15 rfl ?_
    exact V_iret ⟨Or.inl rfl, dX12_points_32⟩ ⟨Nat.le_of_ble_eq_true rfl, Nat.le_of_ble_eq_true rfl⟩ ⟨rfl, rfl, rfl, rfl⟩
  · obtain ⟨hp, hq, hl, hl1, hp56, hq56⟩ := stO_s hst
    refine V_aload_n dX12_points_0 rfl ?_
    refine V_iload_n dX12_points_1 rfl ?_
    refine V_iload_n dX12_points_2 rfl ?_
    refine V_iconst (v := nI 0) dX12_points_3 rfl ?_
    refine V_callV (As := [.int code, .int other, .int (nI 0)]) (st := []) (a := 62) dX12_points_4 kX12_told lX12_203 (by decide) rfl rfl (Nat.le_of_ble_eq_true rfl) ⟨Nat.le_of_ble_eq_true rfl, Nat.le_of_ble_eq_true rfl⟩ ⟨Nat.le_of_ble_eq_true rfl, Nat.le_of_ble_eq_true rfl⟩ rfl ⟨rfl, by decide⟩ (w_toldS hT hst) ?_
    rintro _ _ _ _ ⟨rfl, rfl, rfl, rfl⟩
    refine V_istore_n (ls' := [(3, .int (nI (stN p q l))), (0, .ref 62), (1, .int code), (2, .int other)]) dX12_points_7 (by decide) rfl ?_
    refine V_iload_n dX12_points_8 rfl ?_
    refine V_iconst (v := (-1)) dX12_points_9 rfl ?_
    refine V_icmp_ne (tgt := 18) dX12_points_10 rfl (fun _ => ?_) (fun h => absurd h (nI_ne_neg (by have := stN_lt hp56 hq56 hl1; omega) (by decide)))
    refine V_aload_n dX12_points_18 rfl ?_
    refine V_iload_n dX12_points_19 rfl ?_
    refine V_iconst (v := nI 0) dX12_points_20 rfl ?_
    refine V_callS (As := [.int (nI (stN p q l)), .int (nI 0)]) (st := [.ref 62]) dX12_points_21 kX12_standIn lX12_181 (by decide) rfl rfl (Nat.le_of_ble_eq_true rfl) ⟨Nat.le_of_ble_eq_true rfl, Nat.le_of_ble_eq_true rfl⟩ (w_standIn hp56 hq56 hl1 (by decide)) ?_
    rintro _ _ _ _ ⟨rfl, rfl, rfl, rfl⟩
    refine V_iload_n dX12_points_24 rfl ?_
    refine V_iconst (v := nI 1) dX12_points_25 rfl ?_
    refine V_callS (As := [.int (nI (stN p q l)), .int (nI 1)]) (st := [.int (nI p), .ref 62]) dX12_points_26 kX12_standIn lX12_181 (by decide) rfl rfl (Nat.le_of_ble_eq_true rfl) ⟨Nat.le_of_ble_eq_true rfl, Nat.le_of_ble_eq_true rfl⟩ (w_standIn hp56 hq56 hl1 (by decide)) ?_
    rintro _ _ _ _ ⟨rfl, rfl, rfl, rfl⟩
    refine V_callV (As := [.int (nI p), .int (nI q)]) (st := []) (a := 62) dX12_points_29 kX12_pointsIn lX12_209 (by decide) rfl rfl (Nat.le_of_ble_eq_true rfl) ⟨Nat.le_of_ble_eq_true rfl, Nat.le_of_ble_eq_true rfl⟩ ⟨Nat.le_of_ble_eq_true rfl, Nat.le_of_ble_eq_true rfl⟩ rfl ⟨rfl, by decide⟩ (w_pointsIn hT hp56 hq56) ?_
    rintro _ _ _ _ ⟨rfl, rfl, rfl, rfl⟩
    exact V_iret ⟨Or.inl rfl, dX12_points_32⟩ ⟨Nat.le_of_ble_eq_true rfl, Nat.le_of_ble_eq_true rfl⟩ ⟨rfl, rfl, rfl, rfl⟩

