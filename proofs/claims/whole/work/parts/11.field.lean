/-! THE CLASS: balls on the field and the pig -/
def sqd (a b : Nat) : Nat := (if a ≤ b then b - a else a - b) * (if a ≤ b then b - a else a - b)
theorem sqd_I (a b : Nat) : (nI a - nI b) * (nI a - nI b) = nI (sqd a b) := by
  unfold sqd
  by_cases h : a ≤ b
  · obtain ⟨k, rfl⟩ : ∃ k, b = a + k := ⟨b - a, by omega⟩
    rw [if_pos h, show a + k - a = k by omega, ← nI_add, ← pk_mul]
    grind
  · rw [if_neg h, pk_sub (by omega), pk_mul]
theorem sqd_le {a b n : Nat} (ha : a ≤ n) (hb : b ≤ n) : sqd a b ≤ n * n := by
  unfold sqd
  split
  · exact Nat.mul_le_mul (by omega) (by omega)
  · exact Nat.mul_le_mul (by omega) (by omega)
def fsq (xs ys : Nat → Nat) (px py i : Nat) : Nat := sqd (xs i) px + sqd (ys i) py
/-- the field of the class: m balls, their sides and places, the pig -/
def fdX (I : zI) (m : Nat) (sd xs ys : Nat → Nat) (px py : Nat) : Prop := I 49 3 = nI m ∧ m ≤ 12 ∧ (∀ k, k < m → (I 50 k = nI (sd k) ∧ sd k ≤ 1) ∧ (I 51 k = nI (xs k) ∧ xs k ≤ 99) ∧ (I 52 k = nI (ys k) ∧ ys k ≤ 99)) ∧ I 49 4 = nI px ∧ px ≤ 99 ∧ I 49 5 = nI py ∧ py ≤ 99
theorem fsq_le {I : zI} {m : Nat} {sd xs ys : Nat → Nat} {px py i : Nat} (h : fdX I m sd xs ys px py) (hi : i < m) : fsq xs ys px py i ≤ 19602 := by
  obtain ⟨-, -, hk, -, hx, -, hy⟩ := h
  have h1 := sqd_le (hk i hi).2.1.2 hx
  have h2 := sqd_le (hk i hi).2.2.2 hy
  unfold fsq
  omega
theorem c_at {G : zG} {I : zI} {J : zJ} {a n k : Nat} (ha : zin zsh a) (hk : zsh.2.1 a = (1, n)) (hn : n < 2 ^ 31) (hi : k < n) : zK G mX11_at 0 [.ref a, .int (nI k)] zsh I J (zA0 (.int (I a k)) I J) := by
  refine zK_of kX11_at.2.2.2.2.1 (Nat.le_of_ble_eq_true rfl) ?_
  show V G mX11_at 0 _ 0 [(0, .ref a), (1, .int (nI k))] [] (0, 0) zsh I J
  refine V_iload_n dX11_at_0 rfl ?_
  refine V_if_ltN (tgt := 16) dX11_at_1 rfl (by omega) ?_
  refine V_iload_n dX11_at_4 rfl ?_
  refine V_aload_n dX11_at_5 rfl ?_
  refine V_alen (v := nI n) dX11_at_6 ha hk (by decide) rfl ?_
  refine V_icmp_geN (tgt := 16) dX11_at_7 rfl (by omega) hn (fun h => absurd h (by omega)) (fun h => ?_)
  refine V_aload_n dX11_at_10 rfl ?_
  refine V_iload_n dX11_at_11 rfl ?_
  refine V_ialdN dX11_at_12 ha hk hn hi ?_
  refine V_goto (tgt := 17) dX11_at_13 rfl ?_
  exact V_iret ⟨Or.inl rfl, dX11_at_17⟩ ⟨Nat.le_of_ble_eq_true rfl, Nat.le_of_ble_eq_true rfl⟩ ⟨rfl, rfl, rfl, rfl⟩
theorem c_at1 {G : zG} {I : zI} {J : zJ} {k : Nat} (hi : k < 56) : zK G mX11_at 0 [.ref 1, .int (nI k)] zsh I J (zA0 (.int (zCodes k)) I J) := by
  refine zK_of kX11_at.2.2.2.2.1 (Nat.le_of_ble_eq_true rfl) ?_
  show V G mX11_at 0 _ 0 [(0, .ref 1), (1, .int (nI k))] [] (0, 0) zsh I J
  refine V_iload_n dX11_at_0 rfl ?_
  refine V_if_ltN (tgt := 16) dX11_at_1 rfl (by omega) ?_
  refine V_iload_n dX11_at_4 rfl ?_
  refine V_aload_n dX11_at_5 rfl ?_
  refine V_tlen dX11_at_6 ?_
  refine V_icmp_geN (b := 56) (tgt := 16) dX11_at_7 rfl (by omega) (by decide) (fun h => absurd h (by omega)) (fun h => ?_)
  refine V_aload_n dX11_at_10 rfl ?_
  refine V_iload_n dX11_at_11 rfl ?_
  refine V_tabN dX11_at_12 hi ?_
  refine V_goto (tgt := 17) dX11_at_13 rfl ?_
  exact V_iret ⟨Or.inl rfl, dX11_at_17⟩ ⟨Nat.le_of_ble_eq_true rfl, Nat.le_of_ble_eq_true rfl⟩ ⟨rfl, rfl, rfl, rfl⟩
set_option maxRecDepth 100000 in
set_option maxHeartbeats 4000000 in
theorem c_hasRoom4 {G : zG} {I : zI} {J : zJ} {m : Nat} {sd xs ys : Nat → Nat} {px py : Nat} (hF : fdX I m sd xs ys px py) : zK G mX4_hasRoom 0 [.ref 49] zsh I J (zA0 (.int (if m < 12 then 1 else 0)) I J) := by
  refine zK_of kX4_hasRoom.2.2.2.2.1 (Nat.le_of_ble_eq_true rfl) ?_
  show V G mX4_hasRoom 0 _ 0 [(0, .ref 49)] [] (0, 0) zsh I J
  obtain ⟨hm, hm12, hk, hpx, hpx9, hpy, hpy9⟩ := id hF
  refine V_aload_n dX4_hasRoom_0 rfl ?_
  refine V_getI dX4_hasRoom_1 fX4_28 ⟨Nat.le_of_ble_eq_true rfl, Nat.le_of_ble_eq_true rfl⟩ rfl rfl ?_
  refine V_eqI (y := nI m) hm ?_
  refine V_bipush (v := nI 12) dX4_hasRoom_4 rfl ?_
  refine V_icmp_geN (tgt := 13) dX4_hasRoom_6 rfl (by omega) (by omega) (fun h6 => ?_) (fun h6 => ?_)
  · skip
    refine V_iconst (v := nI 0) dX4_hasRoom_13 rfl ?_
    exact V_iret ⟨Or.inr ⟨rfl, Or.inl rfl⟩, dX4_hasRoom_14⟩ ⟨Nat.le_of_ble_eq_true rfl, Nat.le_of_ble_eq_true rfl⟩ ⟨rfl, by rw [if_neg (by omega)]; rfl, rfl, rfl⟩
  · skip
    refine V_iconst (v := nI 1) dX4_hasRoom_9 rfl ?_
    refine V_goto (tgt := 14) dX4_hasRoom_10 rfl ?_
    exact V_iret ⟨Or.inr ⟨rfl, Or.inr rfl⟩, dX4_hasRoom_14⟩ ⟨Nat.le_of_ble_eq_true rfl, Nat.le_of_ble_eq_true rfl⟩ ⟨rfl, by rw [if_pos (by omega)]; rfl, rfl, rfl⟩

set_option maxRecDepth 100000 in
set_option maxHeartbeats 4000000 in
theorem c_sideOf {G : zG} {I : zI} {J : zJ} {m : Nat} {sd xs ys : Nat → Nat} {px py : Nat} (hF : fdX I m sd xs ys px py) {i : Nat} (hi : i < m) : zK G mX4_sideOf 1 [.ref 49, .int (nI i)] zsh I J (zA0 (.int (nI (sd i))) I J) := by
  refine zK_of kX4_sideOf.2.2.2.2.1 (Nat.le_of_ble_eq_true rfl) ?_
  show V G mX4_sideOf 1 _ 0 [(0, .ref 49), (1, .int (nI i))] [] (0, 0) zsh I J
  obtain ⟨hm, hm12, hk, hpx, hpx9, hpy, hpy9⟩ := id hF
  refine V_aload_n dX4_sideOf_0 rfl ?_
  refine V_getR (b := 50) dX4_sideOf_1 fX4_11 ⟨Nat.le_of_ble_eq_true rfl, Nat.le_of_ble_eq_true rfl⟩ rfl rfl rfl ?_
  refine V_iload_n dX4_sideOf_4 rfl ?_
  refine V_callS (As := [.ref 50, .int (nI i)]) (st := []) dX4_sideOf_5 kX11_at lX4_43 (by decide) rfl rfl (Nat.le_of_ble_eq_true rfl) ⟨Nat.le_of_ble_eq_true rfl, Nat.le_of_ble_eq_true rfl⟩ (c_at (a := 50) (n := 12) ⟨Nat.le_of_ble_eq_true rfl, Nat.le_of_ble_eq_true rfl⟩ rfl (by decide) (by omega)) ?_
  rintro _ _ _ _ ⟨rfl, rfl, rfl, rfl⟩
  refine V_eqI (y := nI (sd i)) (hk i (by omega)).1.1 ?_
  exact V_iret ⟨Or.inl rfl, dX4_sideOf_8⟩ ⟨Nat.le_of_ble_eq_true rfl, Nat.le_of_ble_eq_true rfl⟩ ⟨rfl, rfl, rfl, rfl⟩

set_option maxRecDepth 100000 in
set_option maxHeartbeats 4000000 in
theorem c_placeOf4 {G : zG} {I : zI} {J : zJ} {m : Nat} {sd xs ys : Nat → Nat} {px py : Nat} (hF : fdX I m sd xs ys px py) {i : Nat} (hi : i < m) : zK G mX4_placeOf 1 [.ref 49, .int (nI i)] zsh I J (zA0 (.int (nI (100 * ys i + xs i))) I J) := by
  refine zK_of kX4_placeOf.2.2.2.2.1 (Nat.le_of_ble_eq_true rfl) ?_
  show V G mX4_placeOf 1 _ 0 [(0, .ref 49), (1, .int (nI i))] [] (0, 0) zsh I J
  obtain ⟨hm, hm12, hk, hpx, hpx9, hpy, hpy9⟩ := id hF
  refine V_bipush (v := nI 100) dX4_placeOf_0 rfl ?_
  refine V_aload_n dX4_placeOf_2 rfl ?_
  refine V_getR (b := 52) dX4_placeOf_3 fX4_18 ⟨Nat.le_of_ble_eq_true rfl, Nat.le_of_ble_eq_true rfl⟩ rfl rfl rfl ?_
  refine V_iload_n dX4_placeOf_6 rfl ?_
  refine V_callS (As := [.ref 52, .int (nI i)]) (st := [.int (nI 100)]) dX4_placeOf_7 kX11_at lX4_43 (by decide) rfl rfl (Nat.le_of_ble_eq_true rfl) ⟨Nat.le_of_ble_eq_true rfl, Nat.le_of_ble_eq_true rfl⟩ (c_at (a := 52) (n := 12) ⟨Nat.le_of_ble_eq_true rfl, Nat.le_of_ble_eq_true rfl⟩ rfl (by decide) (by omega)) ?_
  rintro _ _ _ _ ⟨rfl, rfl, rfl, rfl⟩
  refine V_eqI (y := nI (ys i)) (hk i (by omega)).2.2.1 ?_
  refine V_imulN dX4_placeOf_10 ?_
  refine V_aload_n dX4_placeOf_11 rfl ?_
  refine V_getR (b := 51) dX4_placeOf_12 fX4_15 ⟨Nat.le_of_ble_eq_true rfl, Nat.le_of_ble_eq_true rfl⟩ rfl rfl rfl ?_
  refine V_iload_n dX4_placeOf_15 rfl ?_
  refine V_callS (As := [.ref 51, .int (nI i)]) (st := [.int (nI (100 * (ys i)))]) dX4_placeOf_16 kX11_at lX4_43 (by decide) rfl rfl (Nat.le_of_ble_eq_true rfl) ⟨Nat.le_of_ble_eq_true rfl, Nat.le_of_ble_eq_true rfl⟩ (c_at (a := 51) (n := 12) ⟨Nat.le_of_ble_eq_true rfl, Nat.le_of_ble_eq_true rfl⟩ rfl (by decide) (by omega)) ?_
  rintro _ _ _ _ ⟨rfl, rfl, rfl, rfl⟩
  refine V_eqI (y := nI (xs i)) (hk i (by omega)).2.1.1 ?_
  refine V_iaddN dX4_placeOf_19 ?_
  exact V_iret ⟨Or.inl rfl, dX4_placeOf_20⟩ ⟨Nat.le_of_ble_eq_true rfl, Nat.le_of_ble_eq_true rfl⟩ ⟨rfl, rfl, rfl, rfl⟩

set_option maxRecDepth 100000 in
set_option maxHeartbeats 4000000 in
theorem c_squareOf {G : zG} {I : zI} {J : zJ} {m : Nat} {sd xs ys : Nat → Nat} {px py : Nat} (hF : fdX I m sd xs ys px py) {i : Nat} (hi : i < m) : zK G mX4_squareOf 1 [.ref 49, .int (nI i)] zsh I J (zA0 (.int (nI (fsq xs ys px py i))) I J) := by
  refine zK_of kX4_squareOf.2.2.2.2.1 (Nat.le_of_ble_eq_true rfl) ?_
  show V G mX4_squareOf 1 _ 0 [(0, .ref 49), (1, .int (nI i))] [] (0, 0) zsh I J
  obtain ⟨hm, hm12, hk, hpx, hpx9, hpy, hpy9⟩ := id hF
  refine V_aload_n dX4_squareOf_0 rfl ?_
  refine V_getR (b := 51) dX4_squareOf_1 fX4_15 ⟨Nat.le_of_ble_eq_true rfl, Nat.le_of_ble_eq_true rfl⟩ rfl rfl rfl ?_
  refine V_iload_n dX4_squareOf_4 rfl ?_
  refine V_callS (As := [.ref 51, .int (nI i)]) (st := []) dX4_squareOf_5 kX11_at lX4_43 (by decide) rfl rfl (Nat.le_of_ble_eq_true rfl) ⟨Nat.le_of_ble_eq_true rfl, Nat.le_of_ble_eq_true rfl⟩ (c_at (a := 51) (n := 12) ⟨Nat.le_of_ble_eq_true rfl, Nat.le_of_ble_eq_true rfl⟩ rfl (by decide) (by omega)) ?_
  rintro _ _ _ _ ⟨rfl, rfl, rfl, rfl⟩
  refine V_eqI (y := nI (xs i)) (hk i (by omega)).2.1.1 ?_
  refine V_aload_n dX4_squareOf_8 rfl ?_
  refine V_getI dX4_squareOf_9 fX4_21 ⟨Nat.le_of_ble_eq_true rfl, Nat.le_of_ble_eq_true rfl⟩ rfl rfl ?_
  refine V_eqI (y := nI px) hpx ?_
  refine V_isub dX4_squareOf_12 ?_
  refine V_istore_n (ls' := [(2, .int ((nI (xs i)) - (nI px))), (0, .ref 49), (1, .int (nI i))]) dX4_squareOf_13 (by decide) rfl ?_
  refine V_aload_n dX4_squareOf_14 rfl ?_
  refine V_getR (b := 52) dX4_squareOf_15 fX4_18 ⟨Nat.le_of_ble_eq_true rfl, Nat.le_of_ble_eq_true rfl⟩ rfl rfl rfl ?_
  refine V_iload_n dX4_squareOf_18 rfl ?_
  refine V_callS (As := [.ref 52, .int (nI i)]) (st := []) dX4_squareOf_19 kX11_at lX4_43 (by decide) rfl rfl (Nat.le_of_ble_eq_true rfl) ⟨Nat.le_of_ble_eq_true rfl, Nat.le_of_ble_eq_true rfl⟩ (c_at (a := 52) (n := 12) ⟨Nat.le_of_ble_eq_true rfl, Nat.le_of_ble_eq_true rfl⟩ rfl (by decide) (by omega)) ?_
  rintro _ _ _ _ ⟨rfl, rfl, rfl, rfl⟩
  refine V_eqI (y := nI (ys i)) (hk i (by omega)).2.2.1 ?_
  refine V_aload_n dX4_squareOf_22 rfl ?_
  refine V_getI dX4_squareOf_23 fX4_25 ⟨Nat.le_of_ble_eq_true rfl, Nat.le_of_ble_eq_true rfl⟩ rfl rfl ?_
  refine V_eqI (y := nI py) hpy ?_
  refine V_isub dX4_squareOf_26 ?_
  refine V_istore_n (ls' := [(3, .int ((nI (ys i)) - (nI py))), (2, .int ((nI (xs i)) - (nI px))), (0, .ref 49), (1, .int (nI i))]) dX4_squareOf_27 (by decide) rfl ?_
  refine V_iload_n dX4_squareOf_28 rfl ?_
  refine V_iload_n dX4_squareOf_29 rfl ?_
  refine V_imul dX4_squareOf_30 (V_eqI (sqd_I (xs i) px) ?_)
  refine V_iload_n dX4_squareOf_31 rfl ?_
  refine V_iload_n dX4_squareOf_32 rfl ?_
  refine V_imul dX4_squareOf_33 (V_eqI (sqd_I (ys i) py) ?_)
  refine V_iaddN dX4_squareOf_34 ?_
  exact V_iret ⟨Or.inl rfl, dX4_squareOf_35⟩ ⟨Nat.le_of_ble_eq_true rfl, Nat.le_of_ble_eq_true rfl⟩ ⟨rfl, rfl, rfl, rfl⟩

/-- which balls count: of a side, but for one number -/
def fsel (sd : Nat → Nat) (side : Nat) (lo : Int32) (k : Nat) : Bool := !decide (nI k = lo) && decide (sd k = side)
def fnear (f : Nat → Nat) (sel : Nat → Bool) : Nat → Nat
  | 0 => 20000
  | k + 1 => if sel k = true then min (fnear f sel k) (f k) else fnear f sel k
theorem fnear_lt {f : Nat → Nat} {sel : Nat → Bool} : ∀ k, fnear f sel k ≤ 20000
  | 0 => Nat.le_refl _
  | k + 1 => by
    have := fnear_lt (f := f) (sel := sel) k
    unfold fnear
    split <;> omega
set_option maxRecDepth 100000 in
set_option maxHeartbeats 4000000 in
theorem lp_nearestOf {G : zG} {I : zI} {J : zJ} {m : Nat} {sd xs ys : Nat → Nat} {px py : Nat} (hF : fdX I m sd xs ys px py) {side : Nat} (hs : side ≤ 1) {lo : Int32} : ∀ n k, k ≤ m → m < k + n → V G mX4_nearestOf 2 (zA0 (.int (nI (fnear (fsq xs ys px py) (fsel sd side lo) m))) I J) 7 [(0, .ref 49), (1, .int (nI side)), (2, .int lo), (3, .int (nI (fnear (fsq xs ys px py) (fsel sd side lo) k))), (4, .int (nI k))] [] (0, 0) zsh I J := by
  obtain ⟨hm, hm12, hk, hpx, hpx9, hpy, hpy9⟩ := id hF
  intro n
  induction n with
  | zero => intros; omega
  | succ n ih =>
    intro k hk1 hk2
    have hsd : k < m → sd k ≤ 1 := fun h => (hk k h).1.2
    refine V_iload dX4_nearestOf_7 rfl ?_
    refine V_aload_n dX4_nearestOf_9 rfl ?_
    refine V_getI dX4_nearestOf_10 fX4_28 ⟨Nat.le_of_ble_eq_true rfl, Nat.le_of_ble_eq_true rfl⟩ rfl rfl ?_
    refine V_eqI (y := nI m) hm ?_
    refine V_icmp_geN (tgt := 49) dX4_nearestOf_13 rfl (by omega) (by omega) (fun h13 => ?_) (fun h13 => ?_)
    · skip
      refine V_iload_n dX4_nearestOf_49 rfl ?_
      exact V_iret ⟨Or.inl rfl, dX4_nearestOf_50⟩ ⟨Nat.le_of_ble_eq_true rfl, Nat.le_of_ble_eq_true rfl⟩ ⟨rfl, by (have hkm : k = m := (by omega)); subst hkm; rfl, rfl, rfl⟩
    · skip
      refine V_iload dX4_nearestOf_16 rfl ?_
      refine V_iload_n dX4_nearestOf_18 rfl ?_
      refine V_icmp_eq (tgt := 43) dX4_nearestOf_19 rfl (fun h19 => ?_) (fun h19 => ?_)
      · skip
        refine V_iincN (ls' := [(4, .int (nI (k + 1))), (0, .ref 49), (1, .int (nI side)), (2, .int lo), (3, .int (nI (fnear (fsq xs ys px py) (fsel sd side lo) k)))]) (n := 1) dX4_nearestOf_43 rfl rfl (by decide) (by decide) rfl ?_
        refine V_goto (tgt := 7) dX4_nearestOf_46 rfl ?_
        have e : fnear (fsq xs ys px py) (fsel sd side lo) (k + 1) = fnear (fsq xs ys px py) (fsel sd side lo) k := by simp_all [fnear, fsel]
        rw [← e]
        refine V_sub2 (ls' := [(0, .ref 49), (1, .int (nI side)), (2, .int lo), (3, .int (nI (fnear (fsq xs ys px py) (fsel sd side lo) (k + 1)))), (4, .int (nI (k + 1)))]) (List.forall_mem_cons.mpr ⟨rfl, List.forall_mem_cons.mpr ⟨rfl, List.forall_mem_cons.mpr ⟨rfl, List.forall_mem_cons.mpr ⟨rfl, List.forall_mem_cons.mpr ⟨rfl, fun _ h => absurd h List.not_mem_nil⟩⟩⟩⟩⟩) ?_
        exact ih (k + 1) (by omega) (by omega)
      · skip
        refine V_aload_n dX4_nearestOf_22 rfl ?_
        refine V_iload dX4_nearestOf_23 rfl ?_
        refine V_callV (As := [.int (nI k)]) (st := []) (a := 49) dX4_nearestOf_25 kX4_sideOf lX4_47 (by decide) rfl rfl (Nat.le_of_ble_eq_true rfl) ⟨Nat.le_of_ble_eq_true rfl, Nat.le_of_ble_eq_true rfl⟩ ⟨Nat.le_of_ble_eq_true rfl, Nat.le_of_ble_eq_true rfl⟩ rfl ⟨rfl, by decide⟩ (c_sideOf hF (by omega)) ?_
        rintro _ _ _ _ ⟨rfl, rfl, rfl, rfl⟩
        refine V_iload_n dX4_nearestOf_28 rfl ?_
        refine V_icmp_neN (tgt := 43) dX4_nearestOf_29 rfl (by omega) (by omega) (fun h29 => ?_) (fun h29 => ?_)
        · skip
          refine V_iincN (ls' := [(4, .int (nI (k + 1))), (0, .ref 49), (1, .int (nI side)), (2, .int lo), (3, .int (nI (fnear (fsq xs ys px py) (fsel sd side lo) k)))]) (n := 1) dX4_nearestOf_43 rfl rfl (by decide) (by decide) rfl ?_
          refine V_goto (tgt := 7) dX4_nearestOf_46 rfl ?_
          have e : fnear (fsq xs ys px py) (fsel sd side lo) (k + 1) = fnear (fsq xs ys px py) (fsel sd side lo) k := by simp_all [fnear, fsel]
          rw [← e]
          refine V_sub2 (ls' := [(0, .ref 49), (1, .int (nI side)), (2, .int lo), (3, .int (nI (fnear (fsq xs ys px py) (fsel sd side lo) (k + 1)))), (4, .int (nI (k + 1)))]) (List.forall_mem_cons.mpr ⟨rfl, List.forall_mem_cons.mpr ⟨rfl, List.forall_mem_cons.mpr ⟨rfl, List.forall_mem_cons.mpr ⟨rfl, List.forall_mem_cons.mpr ⟨rfl, fun _ h => absurd h List.not_mem_nil⟩⟩⟩⟩⟩) ?_
          exact ih (k + 1) (by omega) (by omega)
        · skip
          refine V_iload_n dX4_nearestOf_32 rfl ?_
          refine V_aload_n dX4_nearestOf_33 rfl ?_
          refine V_iload dX4_nearestOf_34 rfl ?_
          refine V_callV (As := [.int (nI k)]) (st := [.int (nI (fnear (fsq xs ys px py) (fsel sd side lo) k))]) (a := 49) dX4_nearestOf_36 kX4_squareOf lX4_51 (by decide) rfl rfl (Nat.le_of_ble_eq_true rfl) ⟨Nat.le_of_ble_eq_true rfl, Nat.le_of_ble_eq_true rfl⟩ ⟨Nat.le_of_ble_eq_true rfl, Nat.le_of_ble_eq_true rfl⟩ rfl ⟨rfl, by decide⟩ (c_squareOf hF (by omega)) ?_
          rintro _ _ _ _ ⟨rfl, rfl, rfl, rfl⟩
          have hb := fnear_lt (f := (fsq xs ys px py)) (sel := (fsel sd side lo)) k
          have hb2 := fsq_le hF (i := k) (by omega)
          refine V_mminN dX4_nearestOf_39 jX4_54 (by decide) (Nat.le_of_ble_eq_true rfl) ⟨Nat.le_of_ble_eq_true rfl, Nat.le_of_ble_eq_true rfl⟩ (by omega) (by omega) ?_
          refine V_istore_n (ls' := [(3, .int (nI (min (fnear (fsq xs ys px py) (fsel sd side lo) k) (fsq xs ys px py k)))), (0, .ref 49), (1, .int (nI side)), (2, .int lo), (4, .int (nI k))]) dX4_nearestOf_42 (by decide) rfl ?_
          refine V_iincN (ls' := [(4, .int (nI (k + 1))), (3, .int (nI (min (fnear (fsq xs ys px py) (fsel sd side lo) k) (fsq xs ys px py k)))), (0, .ref 49), (1, .int (nI side)), (2, .int lo)]) (n := 1) dX4_nearestOf_43 rfl rfl (by decide) (by decide) rfl ?_
          refine V_goto (tgt := 7) dX4_nearestOf_46 rfl ?_
          have e : fnear (fsq xs ys px py) (fsel sd side lo) (k + 1) = min (fnear (fsq xs ys px py) (fsel sd side lo) k) (fsq xs ys px py k) := by simp [fnear, fsel, h19, h29]
          rw [← e]
          refine V_sub2 (ls' := [(0, .ref 49), (1, .int (nI side)), (2, .int lo), (3, .int (nI (fnear (fsq xs ys px py) (fsel sd side lo) (k + 1)))), (4, .int (nI (k + 1)))]) (List.forall_mem_cons.mpr ⟨rfl, List.forall_mem_cons.mpr ⟨rfl, List.forall_mem_cons.mpr ⟨rfl, List.forall_mem_cons.mpr ⟨rfl, List.forall_mem_cons.mpr ⟨rfl, fun _ h => absurd h List.not_mem_nil⟩⟩⟩⟩⟩) ?_
          exact ih (k + 1) (by omega) (by omega)

set_option maxRecDepth 100000 in
set_option maxHeartbeats 4000000 in
theorem c_nearestOf {G : zG} {I : zI} {J : zJ} {m : Nat} {sd xs ys : Nat → Nat} {px py : Nat} (hF : fdX I m sd xs ys px py) {side : Nat} (hs : side ≤ 1) {lo : Int32} : zK G mX4_nearestOf 2 [.ref 49, .int (nI side), .int lo] zsh I J (zA0 (.int (nI (fnear (fsq xs ys px py) (fsel sd side lo) m))) I J) := by
  refine zK_of kX4_nearestOf.2.2.2.2.1 (Nat.le_of_ble_eq_true rfl) ?_
  show V G mX4_nearestOf 2 _ 0 [(0, .ref 49), (1, .int (nI side)), (2, .int lo)] [] (0, 0) zsh I J
  obtain ⟨hm, hm12, hk, hpx, hpx9, hpy, hpy9⟩ := id hF
  refine V_sipush (v := nI 20000) dX4_nearestOf_0 rfl ?_
  refine V_istore_n (ls' := [(3, .int (nI 20000)), (0, .ref 49), (1, .int (nI side)), (2, .int lo)]) dX4_nearestOf_3 (by decide) rfl ?_
  refine V_iconst (v := nI 0) dX4_nearestOf_4 rfl ?_
  refine V_istore (ls' := [(4, .int (nI 0)), (3, .int (nI 20000)), (0, .ref 49), (1, .int (nI side)), (2, .int lo)]) dX4_nearestOf_5 (by decide) rfl ?_
  refine V_sub2 (ls' := [(0, .ref 49), (1, .int (nI side)), (2, .int lo), (3, .int (nI (fnear (fsq xs ys px py) (fsel sd side lo) 0))), (4, .int (nI 0))]) (List.forall_mem_cons.mpr ⟨rfl, List.forall_mem_cons.mpr ⟨rfl, List.forall_mem_cons.mpr ⟨rfl, List.forall_mem_cons.mpr ⟨rfl, List.forall_mem_cons.mpr ⟨rfl, fun _ h => absurd h List.not_mem_nil⟩⟩⟩⟩⟩) ?_
  exact lp_nearestOf hF hs (m + 1) 0 (Nat.zero_le _) (by omega)

def fWhose (a b : Nat) : Int32 := if a = b then -2 else if a < b then 0 else 1
set_option maxRecDepth 100000 in
set_option maxHeartbeats 4000000 in
theorem c_whose {G : zG} {I : zI} {J : zJ} {m : Nat} {sd xs ys : Nat → Nat} {px py : Nat} (hF : fdX I m sd xs ys px py) : zK G mX4_whose 3 [.ref 49] zsh I J (zA0 (.int (fWhose (fnear (fsq xs ys px py) (fsel sd 0 (-1)) m) (fnear (fsq xs ys px py) (fsel sd 1 (-1)) m))) I J) := by
  refine zK_of kX4_whose.2.2.2.2.1 (Nat.le_of_ble_eq_true rfl) ?_
  show V G mX4_whose 3 _ 0 [(0, .ref 49)] [] (0, 0) zsh I J
  obtain ⟨hm, hm12, hk, hpx, hpx9, hpy, hpy9⟩ := id hF
  have b0 := fnear_lt (f := (fsq xs ys px py)) (sel := fsel sd 0 (-1)) m
  have b1 := fnear_lt (f := (fsq xs ys px py)) (sel := fsel sd 1 (-1)) m
  refine V_aload_n dX4_whose_0 rfl ?_
  refine V_iconst (v := nI 0) dX4_whose_1 rfl ?_
  refine V_iconst (v := (-1)) dX4_whose_2 rfl ?_
  refine V_callV (As := [.int (nI 0), .int (-1)]) (st := []) (a := 49) dX4_whose_3 kX4_nearestOf lX4_57 (by decide) rfl rfl (Nat.le_of_ble_eq_true rfl) ⟨Nat.le_of_ble_eq_true rfl, Nat.le_of_ble_eq_true rfl⟩ ⟨Nat.le_of_ble_eq_true rfl, Nat.le_of_ble_eq_true rfl⟩ rfl ⟨rfl, by decide⟩ (c_nearestOf hF (by omega)) ?_
  rintro _ _ _ _ ⟨rfl, rfl, rfl, rfl⟩
  refine V_istore_n (ls' := [(1, .int (nI (fnear (fsq xs ys px py) (fsel sd 0 (-1)) m))), (0, .ref 49)]) dX4_whose_6 (by decide) rfl ?_
  refine V_aload_n dX4_whose_7 rfl ?_
  refine V_iconst (v := nI 1) dX4_whose_8 rfl ?_
  refine V_iconst (v := (-1)) dX4_whose_9 rfl ?_
  refine V_callV (As := [.int (nI 1), .int (-1)]) (st := []) (a := 49) dX4_whose_10 kX4_nearestOf lX4_57 (by decide) rfl rfl (Nat.le_of_ble_eq_true rfl) ⟨Nat.le_of_ble_eq_true rfl, Nat.le_of_ble_eq_true rfl⟩ ⟨Nat.le_of_ble_eq_true rfl, Nat.le_of_ble_eq_true rfl⟩ rfl ⟨rfl, by decide⟩ (c_nearestOf hF (by omega)) ?_
  rintro _ _ _ _ ⟨rfl, rfl, rfl, rfl⟩
  refine V_istore_n (ls' := [(2, .int (nI (fnear (fsq xs ys px py) (fsel sd 1 (-1)) m))), (1, .int (nI (fnear (fsq xs ys px py) (fsel sd 0 (-1)) m))), (0, .ref 49)]) dX4_whose_13 (by decide) rfl ?_
  refine V_iload_n dX4_whose_14 rfl ?_
  refine V_iload_n dX4_whose_15 rfl ?_
  refine V_icmp_neN (tgt := 22) dX4_whose_16 rfl (by omega) (by omega) (fun h16 => ?_) (fun h16 => ?_)
  · skip
    refine V_iload_n dX4_whose_22 rfl ?_
    refine V_iload_n dX4_whose_23 rfl ?_
    refine V_icmp_geN (tgt := 31) dX4_whose_24 rfl (by omega) (by omega) (fun h24 => ?_) (fun h24 => ?_)
    · skip
      refine V_iconst (v := nI 1) dX4_whose_31 rfl ?_
      exact V_iret ⟨Or.inl rfl, dX4_whose_32⟩ ⟨Nat.le_of_ble_eq_true rfl, Nat.le_of_ble_eq_true rfl⟩ ⟨rfl, congrArg (fun z => some (Value.int z)) (by simp only [fWhose]; (repeat' split) <;> first | rfl | omega), rfl, rfl⟩
    · skip
      refine V_iconst (v := nI 0) dX4_whose_27 rfl ?_
      refine V_goto (tgt := 32) dX4_whose_28 rfl ?_
      exact V_iret ⟨Or.inl rfl, dX4_whose_32⟩ ⟨Nat.le_of_ble_eq_true rfl, Nat.le_of_ble_eq_true rfl⟩ ⟨rfl, congrArg (fun z => some (Value.int z)) (by simp only [fWhose]; (repeat' split) <;> first | rfl | omega), rfl, rfl⟩
  · skip
    refine V_bipush (v := (-2)) dX4_whose_19 rfl ?_
    exact V_iret ⟨Or.inl rfl, dX4_whose_21⟩ ⟨Nat.le_of_ble_eq_true rfl, Nat.le_of_ble_eq_true rfl⟩ ⟨rfl, congrArg (fun z => some (Value.int z)) (by simp only [fWhose]; (repeat' split) <;> first | rfl | omega), rfl, rfl⟩

def fcnt (p : Nat → Bool) : Nat → Nat
  | 0 => 0
  | k + 1 => if p k = true then fcnt p k + 1 else fcnt p k
theorem fcnt_le {p : Nat → Bool} : ∀ k, fcnt p k ≤ k
  | 0 => Nat.le_refl _
  | k + 1 => by
    have := fcnt_le (p := p) k
    unfold fcnt
    split <;> omega
/-- points of side 0 less those of side 1, but for one ball -/
def fpts (f sd : Nat → Nat) (m : Nat) (lo : Int32) : Int32 :=
  if fnear f (fsel sd 0 lo) m < fnear f (fsel sd 1 lo) m then nI (fcnt (fun i => fsel sd 0 lo i && decide (f i < max (fnear f (fsel sd 0 lo) m) (fnear f (fsel sd 1 lo) m))) m)
  else -nI (fcnt (fun i => fsel sd 1 lo i && decide (f i < max (fnear f (fsel sd 0 lo) m) (fnear f (fsel sd 1 lo) m))) m)
set_option maxRecDepth 100000 in
set_option maxHeartbeats 4000000 in
theorem lp_pointsWithout {G : zG} {I : zI} {J : zJ} {m : Nat} {sd xs ys : Nat → Nat} {px py : Nat} (hF : fdX I m sd xs ys px py) {side a b lim : Nat} (hs : side ≤ 1) (hlim : lim ≤ 20000) {lo : Int32} : ∀ n k, k ≤ m → m < k + n → V G mX4_pointsWithout 3 (zA0 (.int (if side = 0 then nI (fcnt (fun i => fsel sd side lo i && decide (fsq xs ys px py i < lim)) m) else -nI (fcnt (fun i => fsel sd side lo i && decide (fsq xs ys px py i < lim)) m))) I J) 39 [(0, .ref 49), (1, .int lo), (2, .int (nI a)), (3, .int (nI b)), (4, .int (nI side)), (5, .int (nI lim)), (6, .int (nI (fcnt (fun i => fsel sd side lo i && decide (fsq xs ys px py i < lim)) k))), (7, .int (nI k))] [] (0, 0) zsh I J := by
  obtain ⟨hm, hm12, hk, hpx, hpx9, hpy, hpy9⟩ := id hF
  intro n
  induction n with
  | zero => intros; omega
  | succ n ih =>
    intro k hk1 hk2
    have hsd : k < m → sd k ≤ 1 := fun h => (hk k h).1.2
    have hb2 : k < m → fsq xs ys px py k ≤ 19602 := fun h => fsq_le hF h
    have hc := fcnt_le (p := (fun i => fsel sd side lo i && decide (fsq xs ys px py i < lim))) k
    refine V_iload dX4_pointsWithout_39 rfl ?_
    refine V_aload_n dX4_pointsWithout_41 rfl ?_
    refine V_getI dX4_pointsWithout_42 fX4_28 ⟨Nat.le_of_ble_eq_true rfl, Nat.le_of_ble_eq_true rfl⟩ rfl rfl ?_
    refine V_eqI (y := nI m) hm ?_
    refine V_icmp_geN (tgt := 85) dX4_pointsWithout_45 rfl (by omega) (by omega) (fun h45 => ?_) (fun h45 => ?_)
    · skip
      refine V_iload dX4_pointsWithout_85 rfl ?_
      refine V_if_neN (tgt := 95) dX4_pointsWithout_87 rfl (by omega) (fun h87 => ?_) (fun h87 => ?_)
      · skip
        refine V_iload dX4_pointsWithout_95 rfl ?_
        refine V_ineg dX4_pointsWithout_97 ?_
        exact V_iret ⟨Or.inl rfl, dX4_pointsWithout_98⟩ ⟨Nat.le_of_ble_eq_true rfl, Nat.le_of_ble_eq_true rfl⟩ ⟨rfl, congrArg (fun z => some (Value.int z)) (by (have hkm : k = m := (by omega)); subst hkm; first | rw [if_pos (by omega)] | rw [if_neg (by omega)]), rfl, rfl⟩
      · skip
        refine V_iload dX4_pointsWithout_90 rfl ?_
        refine V_goto (tgt := 98) dX4_pointsWithout_92 rfl ?_
        exact V_iret ⟨Or.inl rfl, dX4_pointsWithout_98⟩ ⟨Nat.le_of_ble_eq_true rfl, Nat.le_of_ble_eq_true rfl⟩ ⟨rfl, congrArg (fun z => some (Value.int z)) (by (have hkm : k = m := (by omega)); subst hkm; first | rw [if_pos (by omega)] | rw [if_neg (by omega)]), rfl, rfl⟩
    · skip
      refine V_iload dX4_pointsWithout_48 rfl ?_
      refine V_iload_n dX4_pointsWithout_50 rfl ?_
      refine V_icmp_eq (tgt := 79) dX4_pointsWithout_51 rfl (fun h51 => ?_) (fun h51 => ?_)
      · skip
        refine V_iincN (ls' := [(7, .int (nI (k + 1))), (0, .ref 49), (1, .int lo), (2, .int (nI a)), (3, .int (nI b)), (4, .int (nI side)), (5, .int (nI lim)), (6, .int (nI (fcnt (fun i => fsel sd side lo i && decide (fsq xs ys px py i < lim)) k)))]) (n := 1) dX4_pointsWithout_79 rfl rfl (by decide) (by decide) rfl ?_
        refine V_goto (tgt := 39) dX4_pointsWithout_82 rfl ?_
        have e : fcnt (fun i => fsel sd side lo i && decide (fsq xs ys px py i < lim)) (k + 1) = fcnt (fun i => fsel sd side lo i && decide (fsq xs ys px py i < lim)) k := by simp_all [fcnt, fsel]
        rw [← e]
        refine V_sub2 (ls' := [(0, .ref 49), (1, .int lo), (2, .int (nI a)), (3, .int (nI b)), (4, .int (nI side)), (5, .int (nI lim)), (6, .int (nI (fcnt (fun i => fsel sd side lo i && decide (fsq xs ys px py i < lim)) (k + 1)))), (7, .int (nI (k + 1)))]) (List.forall_mem_cons.mpr ⟨rfl, List.forall_mem_cons.mpr ⟨rfl, List.forall_mem_cons.mpr ⟨rfl, List.forall_mem_cons.mpr ⟨rfl, List.forall_mem_cons.mpr ⟨rfl, List.forall_mem_cons.mpr ⟨rfl, List.forall_mem_cons.mpr ⟨rfl, List.forall_mem_cons.mpr ⟨rfl, fun _ h => absurd h List.not_mem_nil⟩⟩⟩⟩⟩⟩⟩⟩) ?_
        exact ih (k + 1) (by omega) (by omega)
      · skip
        refine V_aload_n dX4_pointsWithout_54 rfl ?_
        refine V_iload dX4_pointsWithout_55 rfl ?_
        refine V_callV (As := [.int (nI k)]) (st := []) (a := 49) dX4_pointsWithout_57 kX4_sideOf lX4_47 (by decide) rfl rfl (Nat.le_of_ble_eq_true rfl) ⟨Nat.le_of_ble_eq_true rfl, Nat.le_of_ble_eq_true rfl⟩ ⟨Nat.le_of_ble_eq_true rfl, Nat.le_of_ble_eq_true rfl⟩ rfl ⟨rfl, by decide⟩ (c_sideOf hF (by omega)) ?_
        rintro _ _ _ _ ⟨rfl, rfl, rfl, rfl⟩
        refine V_iload dX4_pointsWithout_60 rfl ?_
        refine V_icmp_neN (tgt := 79) dX4_pointsWithout_62 rfl (by omega) (by omega) (fun h62 => ?_) (fun h62 => ?_)
        · skip
          refine V_iincN (ls' := [(7, .int (nI (k + 1))), (0, .ref 49), (1, .int lo), (2, .int (nI a)), (3, .int (nI b)), (4, .int (nI side)), (5, .int (nI lim)), (6, .int (nI (fcnt (fun i => fsel sd side lo i && decide (fsq xs ys px py i < lim)) k)))]) (n := 1) dX4_pointsWithout_79 rfl rfl (by decide) (by decide) rfl ?_
          refine V_goto (tgt := 39) dX4_pointsWithout_82 rfl ?_
          have e : fcnt (fun i => fsel sd side lo i && decide (fsq xs ys px py i < lim)) (k + 1) = fcnt (fun i => fsel sd side lo i && decide (fsq xs ys px py i < lim)) k := by simp_all [fcnt, fsel]
          rw [← e]
          refine V_sub2 (ls' := [(0, .ref 49), (1, .int lo), (2, .int (nI a)), (3, .int (nI b)), (4, .int (nI side)), (5, .int (nI lim)), (6, .int (nI (fcnt (fun i => fsel sd side lo i && decide (fsq xs ys px py i < lim)) (k + 1)))), (7, .int (nI (k + 1)))]) (List.forall_mem_cons.mpr ⟨rfl, List.forall_mem_cons.mpr ⟨rfl, List.forall_mem_cons.mpr ⟨rfl, List.forall_mem_cons.mpr ⟨rfl, List.forall_mem_cons.mpr ⟨rfl, List.forall_mem_cons.mpr ⟨rfl, List.forall_mem_cons.mpr ⟨rfl, List.forall_mem_cons.mpr ⟨rfl, fun _ h => absurd h List.not_mem_nil⟩⟩⟩⟩⟩⟩⟩⟩) ?_
          exact ih (k + 1) (by omega) (by omega)
        · skip
          refine V_aload_n dX4_pointsWithout_65 rfl ?_
          refine V_iload dX4_pointsWithout_66 rfl ?_
          refine V_callV (As := [.int (nI k)]) (st := []) (a := 49) dX4_pointsWithout_68 kX4_squareOf lX4_51 (by decide) rfl rfl (Nat.le_of_ble_eq_true rfl) ⟨Nat.le_of_ble_eq_true rfl, Nat.le_of_ble_eq_true rfl⟩ ⟨Nat.le_of_ble_eq_true rfl, Nat.le_of_ble_eq_true rfl⟩ rfl ⟨rfl, by decide⟩ (c_squareOf hF (by omega)) ?_
          rintro _ _ _ _ ⟨rfl, rfl, rfl, rfl⟩
          refine V_iload dX4_pointsWithout_71 rfl ?_
          refine V_icmp_geN (tgt := 79) dX4_pointsWithout_73 rfl (by omega) (by omega) (fun h73 => ?_) (fun h73 => ?_)
          · skip
            refine V_iincN (ls' := [(7, .int (nI (k + 1))), (0, .ref 49), (1, .int lo), (2, .int (nI a)), (3, .int (nI b)), (4, .int (nI side)), (5, .int (nI lim)), (6, .int (nI (fcnt (fun i => fsel sd side lo i && decide (fsq xs ys px py i < lim)) k)))]) (n := 1) dX4_pointsWithout_79 rfl rfl (by decide) (by decide) rfl ?_
            refine V_goto (tgt := 39) dX4_pointsWithout_82 rfl ?_
            have e : fcnt (fun i => fsel sd side lo i && decide (fsq xs ys px py i < lim)) (k + 1) = fcnt (fun i => fsel sd side lo i && decide (fsq xs ys px py i < lim)) k := by simp_all [fcnt, fsel]
            rw [← e]
            refine V_sub2 (ls' := [(0, .ref 49), (1, .int lo), (2, .int (nI a)), (3, .int (nI b)), (4, .int (nI side)), (5, .int (nI lim)), (6, .int (nI (fcnt (fun i => fsel sd side lo i && decide (fsq xs ys px py i < lim)) (k + 1)))), (7, .int (nI (k + 1)))]) (List.forall_mem_cons.mpr ⟨rfl, List.forall_mem_cons.mpr ⟨rfl, List.forall_mem_cons.mpr ⟨rfl, List.forall_mem_cons.mpr ⟨rfl, List.forall_mem_cons.mpr ⟨rfl, List.forall_mem_cons.mpr ⟨rfl, List.forall_mem_cons.mpr ⟨rfl, List.forall_mem_cons.mpr ⟨rfl, fun _ h => absurd h List.not_mem_nil⟩⟩⟩⟩⟩⟩⟩⟩) ?_
            exact ih (k + 1) (by omega) (by omega)
          · skip
            refine V_iincN (ls' := [(6, .int (nI ((fcnt (fun i => fsel sd side lo i && decide (fsq xs ys px py i < lim)) k) + 1))), (0, .ref 49), (1, .int lo), (2, .int (nI a)), (3, .int (nI b)), (4, .int (nI side)), (5, .int (nI lim)), (7, .int (nI k))]) (n := 1) dX4_pointsWithout_76 rfl rfl (by decide) (by decide) rfl ?_
            refine V_iincN (ls' := [(7, .int (nI (k + 1))), (6, .int (nI ((fcnt (fun i => fsel sd side lo i && decide (fsq xs ys px py i < lim)) k) + 1))), (0, .ref 49), (1, .int lo), (2, .int (nI a)), (3, .int (nI b)), (4, .int (nI side)), (5, .int (nI lim))]) (n := 1) dX4_pointsWithout_79 rfl rfl (by decide) (by decide) rfl ?_
            refine V_goto (tgt := 39) dX4_pointsWithout_82 rfl ?_
            have e : fcnt (fun i => fsel sd side lo i && decide (fsq xs ys px py i < lim)) (k + 1) = fcnt (fun i => fsel sd side lo i && decide (fsq xs ys px py i < lim)) k + 1 := by simp_all [fcnt, fsel]
            rw [← e]
            refine V_sub2 (ls' := [(0, .ref 49), (1, .int lo), (2, .int (nI a)), (3, .int (nI b)), (4, .int (nI side)), (5, .int (nI lim)), (6, .int (nI (fcnt (fun i => fsel sd side lo i && decide (fsq xs ys px py i < lim)) (k + 1)))), (7, .int (nI (k + 1)))]) (List.forall_mem_cons.mpr ⟨rfl, List.forall_mem_cons.mpr ⟨rfl, List.forall_mem_cons.mpr ⟨rfl, List.forall_mem_cons.mpr ⟨rfl, List.forall_mem_cons.mpr ⟨rfl, List.forall_mem_cons.mpr ⟨rfl, List.forall_mem_cons.mpr ⟨rfl, List.forall_mem_cons.mpr ⟨rfl, fun _ h => absurd h List.not_mem_nil⟩⟩⟩⟩⟩⟩⟩⟩) ?_
            exact ih (k + 1) (by omega) (by omega)

set_option maxRecDepth 100000 in
set_option maxHeartbeats 4000000 in
theorem c_pointsWithout {G : zG} {I : zI} {J : zJ} {m : Nat} {sd xs ys : Nat → Nat} {px py : Nat} (hF : fdX I m sd xs ys px py) {lo : Int32} : zK G mX4_pointsWithout 3 [.ref 49, .int lo] zsh I J (zA0 (.int (fpts (fsq xs ys px py) sd m lo)) I J) := by
  refine zK_of kX4_pointsWithout.2.2.2.2.1 (Nat.le_of_ble_eq_true rfl) ?_
  show V G mX4_pointsWithout 3 _ 0 [(0, .ref 49), (1, .int lo)] [] (0, 0) zsh I J
  obtain ⟨hm, hm12, hk, hpx, hpx9, hpy, hpy9⟩ := id hF
  have b0 := fnear_lt (f := (fsq xs ys px py)) (sel := fsel sd 0 lo) m
  have b1 := fnear_lt (f := (fsq xs ys px py)) (sel := fsel sd 1 lo) m
  refine V_aload_n dX4_pointsWithout_0 rfl ?_
  refine V_iconst (v := nI 0) dX4_pointsWithout_1 rfl ?_
  refine V_iload_n dX4_pointsWithout_2 rfl ?_
  refine V_callV (As := [.int (nI 0), .int lo]) (st := []) (a := 49) dX4_pointsWithout_3 kX4_nearestOf lX4_57 (by decide) rfl rfl (Nat.le_of_ble_eq_true rfl) ⟨Nat.le_of_ble_eq_true rfl, Nat.le_of_ble_eq_true rfl⟩ ⟨Nat.le_of_ble_eq_true rfl, Nat.le_of_ble_eq_true rfl⟩ rfl ⟨rfl, by decide⟩ (c_nearestOf hF (by omega)) ?_
  rintro _ _ _ _ ⟨rfl, rfl, rfl, rfl⟩
  refine V_istore_n (ls' := [(2, .int (nI (fnear (fsq xs ys px py) (fsel sd 0 lo) m))), (0, .ref 49), (1, .int lo)]) dX4_pointsWithout_6 (by decide) rfl ?_
  refine V_aload_n dX4_pointsWithout_7 rfl ?_
  refine V_iconst (v := nI 1) dX4_pointsWithout_8 rfl ?_
  refine V_iload_n dX4_pointsWithout_9 rfl ?_
  refine V_callV (As := [.int (nI 1), .int lo]) (st := []) (a := 49) dX4_pointsWithout_10 kX4_nearestOf lX4_57 (by decide) rfl rfl (Nat.le_of_ble_eq_true rfl) ⟨Nat.le_of_ble_eq_true rfl, Nat.le_of_ble_eq_true rfl⟩ ⟨Nat.le_of_ble_eq_true rfl, Nat.le_of_ble_eq_true rfl⟩ rfl ⟨rfl, by decide⟩ (c_nearestOf hF (by omega)) ?_
  rintro _ _ _ _ ⟨rfl, rfl, rfl, rfl⟩
  refine V_istore_n (ls' := [(3, .int (nI (fnear (fsq xs ys px py) (fsel sd 1 lo) m))), (2, .int (nI (fnear (fsq xs ys px py) (fsel sd 0 lo) m))), (0, .ref 49), (1, .int lo)]) dX4_pointsWithout_13 (by decide) rfl ?_
  refine V_iload_n dX4_pointsWithout_14 rfl ?_
  refine V_iload_n dX4_pointsWithout_15 rfl ?_
  refine V_icmp_geN (tgt := 23) dX4_pointsWithout_16 rfl (by omega) (by omega) (fun h16 => ?_) (fun h16 => ?_)
  · skip
    refine V_iconst (v := nI 1) dX4_pointsWithout_23 rfl ?_
    refine V_istore (ls' := [(4, .int (nI 1)), (3, .int (nI (fnear (fsq xs ys px py) (fsel sd 1 lo) m))), (2, .int (nI (fnear (fsq xs ys px py) (fsel sd 0 lo) m))), (0, .ref 49), (1, .int lo)]) dX4_pointsWithout_24 (by decide) rfl ?_
    refine V_iload_n dX4_pointsWithout_26 rfl ?_
    refine V_iload_n dX4_pointsWithout_27 rfl ?_
    refine V_mmaxN dX4_pointsWithout_28 jX4_31 (by decide) (Nat.le_of_ble_eq_true rfl) ⟨Nat.le_of_ble_eq_true rfl, Nat.le_of_ble_eq_true rfl⟩ (by omega) (by omega) ?_
    refine V_istore (ls' := [(5, .int (nI (max (fnear (fsq xs ys px py) (fsel sd 0 lo) m) (fnear (fsq xs ys px py) (fsel sd 1 lo) m)))), (4, .int (nI 1)), (3, .int (nI (fnear (fsq xs ys px py) (fsel sd 1 lo) m))), (2, .int (nI (fnear (fsq xs ys px py) (fsel sd 0 lo) m))), (0, .ref 49), (1, .int lo)]) dX4_pointsWithout_31 (by decide) rfl ?_
    refine V_iconst (v := nI 0) dX4_pointsWithout_33 rfl ?_
    refine V_istore (ls' := [(6, .int (nI 0)), (5, .int (nI (max (fnear (fsq xs ys px py) (fsel sd 0 lo) m) (fnear (fsq xs ys px py) (fsel sd 1 lo) m)))), (4, .int (nI 1)), (3, .int (nI (fnear (fsq xs ys px py) (fsel sd 1 lo) m))), (2, .int (nI (fnear (fsq xs ys px py) (fsel sd 0 lo) m))), (0, .ref 49), (1, .int lo)]) dX4_pointsWithout_34 (by decide) rfl ?_
    refine V_iconst (v := nI 0) dX4_pointsWithout_36 rfl ?_
    refine V_istore (ls' := [(7, .int (nI 0)), (6, .int (nI 0)), (5, .int (nI (max (fnear (fsq xs ys px py) (fsel sd 0 lo) m) (fnear (fsq xs ys px py) (fsel sd 1 lo) m)))), (4, .int (nI 1)), (3, .int (nI (fnear (fsq xs ys px py) (fsel sd 1 lo) m))), (2, .int (nI (fnear (fsq xs ys px py) (fsel sd 0 lo) m))), (0, .ref 49), (1, .int lo)]) dX4_pointsWithout_37 (by decide) rfl ?_
    refine V_sub2 (ls' := [(0, .ref 49), (1, .int lo), (2, .int (nI (fnear (fsq xs ys px py) (fsel sd 0 lo) m))), (3, .int (nI (fnear (fsq xs ys px py) (fsel sd 1 lo) m))), (4, .int (nI 1)), (5, .int (nI (max (fnear (fsq xs ys px py) (fsel sd 0 lo) m) (fnear (fsq xs ys px py) (fsel sd 1 lo) m)))), (6, .int (nI (fcnt (fun i => fsel sd 1 lo i && decide (fsq xs ys px py i < max (fnear (fsq xs ys px py) (fsel sd 0 lo) m) (fnear (fsq xs ys px py) (fsel sd 1 lo) m))) 0))), (7, .int (nI 0))]) (List.forall_mem_cons.mpr ⟨rfl, List.forall_mem_cons.mpr ⟨rfl, List.forall_mem_cons.mpr ⟨rfl, List.forall_mem_cons.mpr ⟨rfl, List.forall_mem_cons.mpr ⟨rfl, List.forall_mem_cons.mpr ⟨rfl, List.forall_mem_cons.mpr ⟨rfl, List.forall_mem_cons.mpr ⟨rfl, fun _ h => absurd h List.not_mem_nil⟩⟩⟩⟩⟩⟩⟩⟩) ?_
    have q := lp_pointsWithout (G := G) (J := J) hF (side := 1) (a := fnear (fsq xs ys px py) (fsel sd 0 lo) m) (b := fnear (fsq xs ys px py) (fsel sd 1 lo) m) (lim := max (fnear (fsq xs ys px py) (fsel sd 0 lo) m) (fnear (fsq xs ys px py) (fsel sd 1 lo) m)) (by omega) (by omega) (lo := lo) (m + 1) 0 (Nat.zero_le _) (by omega)
    have e : fpts (fsq xs ys px py) sd m lo = (if 1 = 0 then nI (fcnt (fun i => fsel sd 1 lo i && decide (fsq xs ys px py i < max (fnear (fsq xs ys px py) (fsel sd 0 lo) m) (fnear (fsq xs ys px py) (fsel sd 1 lo) m))) m) else -nI (fcnt (fun i => fsel sd 1 lo i && decide (fsq xs ys px py i < max (fnear (fsq xs ys px py) (fsel sd 0 lo) m) (fnear (fsq xs ys px py) (fsel sd 1 lo) m))) m)) := by unfold fpts; rw [if_neg (by omega), if_neg (by decide)]
    rw [e]
    exact q
  · skip
    refine V_iconst (v := nI 0) dX4_pointsWithout_19 rfl ?_
    refine V_goto (tgt := 24) dX4_pointsWithout_20 rfl ?_
    refine V_istore (ls' := [(4, .int (nI 0)), (3, .int (nI (fnear (fsq xs ys px py) (fsel sd 1 lo) m))), (2, .int (nI (fnear (fsq xs ys px py) (fsel sd 0 lo) m))), (0, .ref 49), (1, .int lo)]) dX4_pointsWithout_24 (by decide) rfl ?_
    refine V_iload_n dX4_pointsWithout_26 rfl ?_
    refine V_iload_n dX4_pointsWithout_27 rfl ?_
    refine V_mmaxN dX4_pointsWithout_28 jX4_31 (by decide) (Nat.le_of_ble_eq_true rfl) ⟨Nat.le_of_ble_eq_true rfl, Nat.le_of_ble_eq_true rfl⟩ (by omega) (by omega) ?_
    refine V_istore (ls' := [(5, .int (nI (max (fnear (fsq xs ys px py) (fsel sd 0 lo) m) (fnear (fsq xs ys px py) (fsel sd 1 lo) m)))), (4, .int (nI 0)), (3, .int (nI (fnear (fsq xs ys px py) (fsel sd 1 lo) m))), (2, .int (nI (fnear (fsq xs ys px py) (fsel sd 0 lo) m))), (0, .ref 49), (1, .int lo)]) dX4_pointsWithout_31 (by decide) rfl ?_
    refine V_iconst (v := nI 0) dX4_pointsWithout_33 rfl ?_
    refine V_istore (ls' := [(6, .int (nI 0)), (5, .int (nI (max (fnear (fsq xs ys px py) (fsel sd 0 lo) m) (fnear (fsq xs ys px py) (fsel sd 1 lo) m)))), (4, .int (nI 0)), (3, .int (nI (fnear (fsq xs ys px py) (fsel sd 1 lo) m))), (2, .int (nI (fnear (fsq xs ys px py) (fsel sd 0 lo) m))), (0, .ref 49), (1, .int lo)]) dX4_pointsWithout_34 (by decide) rfl ?_
    refine V_iconst (v := nI 0) dX4_pointsWithout_36 rfl ?_
    refine V_istore (ls' := [(7, .int (nI 0)), (6, .int (nI 0)), (5, .int (nI (max (fnear (fsq xs ys px py) (fsel sd 0 lo) m) (fnear (fsq xs ys px py) (fsel sd 1 lo) m)))), (4, .int (nI 0)), (3, .int (nI (fnear (fsq xs ys px py) (fsel sd 1 lo) m))), (2, .int (nI (fnear (fsq xs ys px py) (fsel sd 0 lo) m))), (0, .ref 49), (1, .int lo)]) dX4_pointsWithout_37 (by decide) rfl ?_
    refine V_sub2 (ls' := [(0, .ref 49), (1, .int lo), (2, .int (nI (fnear (fsq xs ys px py) (fsel sd 0 lo) m))), (3, .int (nI (fnear (fsq xs ys px py) (fsel sd 1 lo) m))), (4, .int (nI 0)), (5, .int (nI (max (fnear (fsq xs ys px py) (fsel sd 0 lo) m) (fnear (fsq xs ys px py) (fsel sd 1 lo) m)))), (6, .int (nI (fcnt (fun i => fsel sd 0 lo i && decide (fsq xs ys px py i < max (fnear (fsq xs ys px py) (fsel sd 0 lo) m) (fnear (fsq xs ys px py) (fsel sd 1 lo) m))) 0))), (7, .int (nI 0))]) (List.forall_mem_cons.mpr ⟨rfl, List.forall_mem_cons.mpr ⟨rfl, List.forall_mem_cons.mpr ⟨rfl, List.forall_mem_cons.mpr ⟨rfl, List.forall_mem_cons.mpr ⟨rfl, List.forall_mem_cons.mpr ⟨rfl, List.forall_mem_cons.mpr ⟨rfl, List.forall_mem_cons.mpr ⟨rfl, fun _ h => absurd h List.not_mem_nil⟩⟩⟩⟩⟩⟩⟩⟩) ?_
    have q := lp_pointsWithout (G := G) (J := J) hF (side := 0) (a := fnear (fsq xs ys px py) (fsel sd 0 lo) m) (b := fnear (fsq xs ys px py) (fsel sd 1 lo) m) (lim := max (fnear (fsq xs ys px py) (fsel sd 0 lo) m) (fnear (fsq xs ys px py) (fsel sd 1 lo) m)) (by omega) (by omega) (lo := lo) (m + 1) 0 (Nat.zero_le _) (by omega)
    have e : fpts (fsq xs ys px py) sd m lo = (if 0 = 0 then nI (fcnt (fun i => fsel sd 0 lo i && decide (fsq xs ys px py i < max (fnear (fsq xs ys px py) (fsel sd 0 lo) m) (fnear (fsq xs ys px py) (fsel sd 1 lo) m))) m) else -nI (fcnt (fun i => fsel sd 0 lo i && decide (fsq xs ys px py i < max (fnear (fsq xs ys px py) (fsel sd 0 lo) m) (fnear (fsq xs ys px py) (fsel sd 1 lo) m))) m)) := by unfold fpts; rw [if_pos (by omega), if_pos rfl]
    rw [e]
    exact q

def fnb (f : Nat → Nat) : Nat → Option Nat
  | 0 => none
  | k + 1 => match fnb f k with
    | none => some k
    | some j => if f k < f j then some k else some j
theorem fnb_lt {f : Nat → Nat} : ∀ k j, fnb f k = some j → j < k
  | 0, _, h => by cases h
  | k + 1, j, h => by
    unfold fnb at h
    split at h
    · cases h; omega
    · rename_i j0 hj
      have := fnb_lt k j0 hj
      split at h <;> cases h <;> omega
def fen (r : Option Nat) : Int32 := match r with
  | none => -2
  | some j => nI j
set_option maxRecDepth 100000 in
set_option maxHeartbeats 4000000 in
theorem lp_nearestBall {G : zG} {I : zI} {J : zJ} {m : Nat} {sd xs ys : Nat → Nat} {px py : Nat} (hF : fdX I m sd xs ys px py) : ∀ n k, k ≤ m → m < k + n → V G mX4_nearestBall 2 (zA0 (.int (fen (fnb (fsq xs ys px py) m))) I J) 5 [(0, .ref 49), (1, .int (fen (fnb (fsq xs ys px py) k))), (2, .int (nI k))] [] (0, 0) zsh I J := by
  obtain ⟨hm, hm12, hk, hpx, hpx9, hpy, hpy9⟩ := id hF
  intro n
  induction n with
  | zero => intros; omega
  | succ n ih =>
    intro k hk1 hk2
    have hb2 : ∀ i, i < m → fsq xs ys px py i ≤ 19602 := fun i h => fsq_le hF h
    cases hq : fnb (fsq xs ys px py) k with
    | none =>
      refine V_sub2 (ls' := [(0, .ref 49), (1, .int (-2)), (2, .int (nI k))]) (List.forall_mem_cons.mpr ⟨rfl, List.forall_mem_cons.mpr ⟨rfl, List.forall_mem_cons.mpr ⟨rfl, fun _ h => absurd h List.not_mem_nil⟩⟩⟩) ?_
      have hb3 := hb2 k
      refine V_iload_n dX4_nearestBall_5 rfl ?_
      refine V_aload_n dX4_nearestBall_6 rfl ?_
      refine V_getI dX4_nearestBall_7 fX4_28 ⟨Nat.le_of_ble_eq_true rfl, Nat.le_of_ble_eq_true rfl⟩ rfl rfl ?_
      refine V_eqI (y := nI m) hm ?_
      refine V_icmp_geN (tgt := 38) dX4_nearestBall_10 rfl (by omega) (by omega) (fun h10 => ?_) (fun h10 => ?_)
      · skip
        refine V_iload_n dX4_nearestBall_38 rfl ?_
        exact V_iret ⟨Or.inl rfl, dX4_nearestBall_39⟩ ⟨Nat.le_of_ble_eq_true rfl, Nat.le_of_ble_eq_true rfl⟩ ⟨rfl, by (have hkm : k = m := (by omega)); subst hkm; rw [hq]; rfl, rfl, rfl⟩
      · skip
        refine V_iload_n dX4_nearestBall_13 rfl ?_
        refine V_if_lt (tgt := 30) dX4_nearestBall_14 rfl (fun _ => ?_) (fun h => absurd (by decide) h)
        refine V_iload_n dX4_nearestBall_30 rfl ?_
        refine V_istore_n (ls' := [(1, .int (nI k)), (0, .ref 49), (2, .int (nI k))]) dX4_nearestBall_31 (by decide) rfl ?_
        refine V_iincN (ls' := [(2, .int (nI (k + 1))), (1, .int (nI k)), (0, .ref 49)]) (n := 1) dX4_nearestBall_32 rfl rfl (by decide) (by decide) rfl ?_
        refine V_goto (tgt := 5) dX4_nearestBall_35 rfl ?_
        have e : fnb (fsq xs ys px py) (k + 1) = some k := by simp_all [fnb] <;> (intros; omega)
        have q := ih (k + 1) (by omega) (by omega)
        rw [e] at q
        refine V_sub2 (ls' := [(0, .ref 49), (1, .int (fen (some k))), (2, .int (nI (k + 1)))]) (List.forall_mem_cons.mpr ⟨rfl, List.forall_mem_cons.mpr ⟨rfl, List.forall_mem_cons.mpr ⟨rfl, fun _ h => absurd h List.not_mem_nil⟩⟩⟩) ?_
        exact q
    | some j =>
      have hjk := fnb_lt k j hq
      have hb3 := hb2 k
      have hb4 := hb2 j
      refine V_sub2 (ls' := [(0, .ref 49), (1, .int (nI j)), (2, .int (nI k))]) (List.forall_mem_cons.mpr ⟨rfl, List.forall_mem_cons.mpr ⟨rfl, List.forall_mem_cons.mpr ⟨rfl, fun _ h => absurd h List.not_mem_nil⟩⟩⟩) ?_
      refine V_iload_n dX4_nearestBall_5 rfl ?_
      refine V_aload_n dX4_nearestBall_6 rfl ?_
      refine V_getI dX4_nearestBall_7 fX4_28 ⟨Nat.le_of_ble_eq_true rfl, Nat.le_of_ble_eq_true rfl⟩ rfl rfl ?_
      refine V_eqI (y := nI m) hm ?_
      refine V_icmp_geN (tgt := 38) dX4_nearestBall_10 rfl (by omega) (by omega) (fun h10 => ?_) (fun h10 => ?_)
      · skip
        refine V_iload_n dX4_nearestBall_38 rfl ?_
        exact V_iret ⟨Or.inl rfl, dX4_nearestBall_39⟩ ⟨Nat.le_of_ble_eq_true rfl, Nat.le_of_ble_eq_true rfl⟩ ⟨rfl, by (have hkm : k = m := (by omega)); subst hkm; rw [hq]; rfl, rfl, rfl⟩
      · skip
        refine V_iload_n dX4_nearestBall_13 rfl ?_
        refine V_if_ltN (tgt := 30) dX4_nearestBall_14 rfl (by omega) ?_
        refine V_aload_n dX4_nearestBall_17 rfl ?_
        refine V_iload_n dX4_nearestBall_18 rfl ?_
        refine V_callV (As := [.int (nI k)]) (st := []) (a := 49) dX4_nearestBall_19 kX4_squareOf lX4_51 (by decide) rfl rfl (Nat.le_of_ble_eq_true rfl) ⟨Nat.le_of_ble_eq_true rfl, Nat.le_of_ble_eq_true rfl⟩ ⟨Nat.le_of_ble_eq_true rfl, Nat.le_of_ble_eq_true rfl⟩ rfl ⟨rfl, by decide⟩ (c_squareOf hF (by omega)) ?_
        rintro _ _ _ _ ⟨rfl, rfl, rfl, rfl⟩
        refine V_aload_n dX4_nearestBall_22 rfl ?_
        refine V_iload_n dX4_nearestBall_23 rfl ?_
        refine V_callV (As := [.int (nI j)]) (st := [.int (nI (fsq xs ys px py k))]) (a := 49) dX4_nearestBall_24 kX4_squareOf lX4_51 (by decide) rfl rfl (Nat.le_of_ble_eq_true rfl) ⟨Nat.le_of_ble_eq_true rfl, Nat.le_of_ble_eq_true rfl⟩ ⟨Nat.le_of_ble_eq_true rfl, Nat.le_of_ble_eq_true rfl⟩ rfl ⟨rfl, by decide⟩ (c_squareOf hF (by omega)) ?_
        rintro _ _ _ _ ⟨rfl, rfl, rfl, rfl⟩
        refine V_icmp_geN (tgt := 32) dX4_nearestBall_27 rfl (by omega) (by omega) (fun h27 => ?_) (fun h27 => ?_)
        · skip
          refine V_iincN (ls' := [(2, .int (nI (k + 1))), (0, .ref 49), (1, .int (nI j))]) (n := 1) dX4_nearestBall_32 rfl rfl (by decide) (by decide) rfl ?_
          refine V_goto (tgt := 5) dX4_nearestBall_35 rfl ?_
          have e : fnb (fsq xs ys px py) (k + 1) = some j := by simp_all [fnb] <;> (intros; omega)
          have q := ih (k + 1) (by omega) (by omega)
          rw [e] at q
          refine V_sub2 (ls' := [(0, .ref 49), (1, .int (fen (some j))), (2, .int (nI (k + 1)))]) (List.forall_mem_cons.mpr ⟨rfl, List.forall_mem_cons.mpr ⟨rfl, List.forall_mem_cons.mpr ⟨rfl, fun _ h => absurd h List.not_mem_nil⟩⟩⟩) ?_
          exact q
        · skip
          refine V_iload_n dX4_nearestBall_30 rfl ?_
          refine V_istore_n (ls' := [(1, .int (nI k)), (0, .ref 49), (2, .int (nI k))]) dX4_nearestBall_31 (by decide) rfl ?_
          refine V_iincN (ls' := [(2, .int (nI (k + 1))), (1, .int (nI k)), (0, .ref 49)]) (n := 1) dX4_nearestBall_32 rfl rfl (by decide) (by decide) rfl ?_
          refine V_goto (tgt := 5) dX4_nearestBall_35 rfl ?_
          have e : fnb (fsq xs ys px py) (k + 1) = some k := by simp_all [fnb] <;> (intros; omega)
          have q := ih (k + 1) (by omega) (by omega)
          rw [e] at q
          refine V_sub2 (ls' := [(0, .ref 49), (1, .int (fen (some k))), (2, .int (nI (k + 1)))]) (List.forall_mem_cons.mpr ⟨rfl, List.forall_mem_cons.mpr ⟨rfl, List.forall_mem_cons.mpr ⟨rfl, fun _ h => absurd h List.not_mem_nil⟩⟩⟩) ?_
          exact q

set_option maxRecDepth 100000 in
set_option maxHeartbeats 4000000 in
theorem c_nearestBall {G : zG} {I : zI} {J : zJ} {m : Nat} {sd xs ys : Nat → Nat} {px py : Nat} (hF : fdX I m sd xs ys px py) : zK G mX4_nearestBall 2 [.ref 49] zsh I J (zA0 (.int (fen (fnb (fsq xs ys px py) m))) I J) := by
  refine zK_of kX4_nearestBall.2.2.2.2.1 (Nat.le_of_ble_eq_true rfl) ?_
  show V G mX4_nearestBall 2 _ 0 [(0, .ref 49)] [] (0, 0) zsh I J
  obtain ⟨hm, hm12, hk, hpx, hpx9, hpy, hpy9⟩ := id hF
  refine V_bipush (v := (-2)) dX4_nearestBall_0 rfl ?_
  refine V_istore_n (ls' := [(1, .int (-2)), (0, .ref 49)]) dX4_nearestBall_2 (by decide) rfl ?_
  refine V_iconst (v := nI 0) dX4_nearestBall_3 rfl ?_
  refine V_istore_n (ls' := [(2, .int (nI 0)), (1, .int (-2)), (0, .ref 49)]) dX4_nearestBall_4 (by decide) rfl ?_
  refine V_sub2 (ls' := [(0, .ref 49), (1, .int (fen (fnb (fsq xs ys px py) 0))), (2, .int (nI 0))]) (List.forall_mem_cons.mpr ⟨rfl, List.forall_mem_cons.mpr ⟨rfl, List.forall_mem_cons.mpr ⟨rfl, fun _ h => absurd h List.not_mem_nil⟩⟩⟩) ?_
  exact lp_nearestBall hF (m + 1) 0 (Nat.zero_le _) (by omega)

def fns (f : Nat → Nat) (r : Option Nat) : Int32 := match r with
  | none => -2
  | some j => nI (f j)
set_option maxRecDepth 100000 in
set_option maxHeartbeats 4000000 in
theorem c_nearestSquare {G : zG} {I : zI} {J : zJ} {m : Nat} {sd xs ys : Nat → Nat} {px py : Nat} (hF : fdX I m sd xs ys px py) : zK G mX4_nearestSquare 3 [.ref 49] zsh I J (zA0 (.int (fns (fsq xs ys px py) (fnb (fsq xs ys px py) m))) I J) := by
  refine zK_of kX4_nearestSquare.2.2.2.2.1 (Nat.le_of_ble_eq_true rfl) ?_
  show V G mX4_nearestSquare 3 _ 0 [(0, .ref 49)] [] (0, 0) zsh I J
  obtain ⟨hm, hm12, hk, hpx, hpx9, hpy, hpy9⟩ := id hF
  cases hq : fnb (fsq xs ys px py) m with
  | none =>
      refine V_aload_n dX4_nearestSquare_0 rfl ?_
      refine V_callV (As := []) (st := []) (a := 49) dX4_nearestSquare_1 kX4_nearestBall lX4_60 (by decide) rfl rfl (Nat.le_of_ble_eq_true rfl) ⟨Nat.le_of_ble_eq_true rfl, Nat.le_of_ble_eq_true rfl⟩ ⟨Nat.le_of_ble_eq_true rfl, Nat.le_of_ble_eq_true rfl⟩ rfl ⟨rfl, by decide⟩ (c_nearestBall hF) ?_
      rintro _ _ _ _ ⟨rfl, rfl, rfl, rfl⟩
      rw [hq]
      refine V_eqI (y := (-2)) rfl ?_
      refine V_istore_n (ls' := [(1, .int (-2)), (0, .ref 49)]) dX4_nearestSquare_4 (by decide) rfl ?_
      refine V_iload_n dX4_nearestSquare_5 rfl ?_
      refine V_if_ge (tgt := 14) dX4_nearestSquare_6 rfl (fun h => absurd h (by decide)) (fun _ => ?_)
      refine V_bipush (v := (-2)) dX4_nearestSquare_9 rfl ?_
      refine V_goto (tgt := 19) dX4_nearestSquare_11 rfl ?_
      exact V_iret ⟨Or.inl rfl, dX4_nearestSquare_19⟩ ⟨Nat.le_of_ble_eq_true rfl, Nat.le_of_ble_eq_true rfl⟩ ⟨rfl, rfl, rfl, rfl⟩
  | some j =>
      have hjk := fnb_lt m j hq
      have hb3 := fsq_le hF (i := j) (by omega)
      refine V_aload_n dX4_nearestSquare_0 rfl ?_
      refine V_callV (As := []) (st := []) (a := 49) dX4_nearestSquare_1 kX4_nearestBall lX4_60 (by decide) rfl rfl (Nat.le_of_ble_eq_true rfl) ⟨Nat.le_of_ble_eq_true rfl, Nat.le_of_ble_eq_true rfl⟩ ⟨Nat.le_of_ble_eq_true rfl, Nat.le_of_ble_eq_true rfl⟩ rfl ⟨rfl, by decide⟩ (c_nearestBall hF) ?_
      rintro _ _ _ _ ⟨rfl, rfl, rfl, rfl⟩
      rw [hq]
      refine V_eqI (y := nI j) rfl ?_
      refine V_istore_n (ls' := [(1, .int (nI j)), (0, .ref 49)]) dX4_nearestSquare_4 (by decide) rfl ?_
      refine V_iload_n dX4_nearestSquare_5 rfl ?_
      refine V_if_geN (tgt := 14) dX4_nearestSquare_6 rfl (by omega) ?_
      refine V_aload_n dX4_nearestSquare_14 rfl ?_
      refine V_iload_n dX4_nearestSquare_15 rfl ?_
      refine V_callV (As := [.int (nI j)]) (st := []) (a := 49) dX4_nearestSquare_16 kX4_squareOf lX4_51 (by decide) rfl rfl (Nat.le_of_ble_eq_true rfl) ⟨Nat.le_of_ble_eq_true rfl, Nat.le_of_ble_eq_true rfl⟩ ⟨Nat.le_of_ble_eq_true rfl, Nat.le_of_ble_eq_true rfl⟩ rfl ⟨rfl, by decide⟩ (c_squareOf hF (by omega)) ?_
      rintro _ _ _ _ ⟨rfl, rfl, rfl, rfl⟩
      exact V_iret ⟨Or.inl rfl, dX4_nearestSquare_19⟩ ⟨Nat.le_of_ble_eq_true rfl, Nat.le_of_ble_eq_true rfl⟩ ⟨rfl, rfl, rfl, rfl⟩

def fgs (f sd : Nat → Nat) (m side k : Nat) : Int32 := if side = 0 then fpts f sd m (nI k) else -fpts f sd m (nI k)
/-- of those that count the first with the most -/
def fbs (g : Nat → Int32) (sel : Nat → Bool) : Nat → Option Nat × Int32
  | 0 => (none, 0)
  | k + 1 => if sel k = true then (match (fbs g sel k).1 with
      | none => (some k, g k)
      | some _ => if (fbs g sel k).2 < g k then (some k, g k) else fbs g sel k) else fbs g sel k
theorem fbs_lt {g : Nat → Int32} {sel : Nat → Bool} : ∀ k j, (fbs g sel k).1 = some j → j < k
  | 0, _, h => by cases h
  | k + 1, j, h => by
    unfold fbs at h
    split at h
    · split at h
      · cases h; omega
      · split at h
        · cases h; omega
        · have := fbs_lt k j h; omega
    · have := fbs_lt k j h; omega
set_option maxRecDepth 100000 in
set_option maxHeartbeats 4000000 in
theorem lp_ballToShoot {G : zG} {I : zI} {J : zJ} {m : Nat} {sd xs ys : Nat → Nat} {px py : Nat} (hF : fdX I m sd xs ys px py) {side : Nat} (hs : side ≤ 1) : ∀ n k, k ≤ m → m < k + n → V G mX4_ballToShoot 4 (zA0 (.int (fen (fbs (fgs (fsq xs ys px py) sd m side) (fun k => decide (sd k = 1 - side)) m).1)) I J) 8 [(0, .ref 49), (1, .int (nI side)), (2, .int (fen (fbs (fgs (fsq xs ys px py) sd m side) (fun k => decide (sd k = 1 - side)) k).1)), (3, .int ((fbs (fgs (fsq xs ys px py) sd m side) (fun k => decide (sd k = 1 - side)) k).2)), (4, .int (nI k))] [] (0, 0) zsh I J := by
  obtain ⟨hm, hm12, hk, hpx, hpx9, hpy, hpy9⟩ := id hF
  intro n
  induction n with
  | zero => intros; omega
  | succ n ih =>
    intro k hk1 hk2
    have hsd : k < m → sd k ≤ 1 := fun h => (hk k h).1.2
    cases hq : (fbs (fgs (fsq xs ys px py) sd m side) (fun k => decide (sd k = 1 - side)) k).1 with
    | none =>
      refine V_sub2 (ls' := [(0, .ref 49), (1, .int (nI side)), (2, .int (-2)), (3, .int ((fbs (fgs (fsq xs ys px py) sd m side) (fun k => decide (sd k = 1 - side)) k).2)), (4, .int (nI k))]) (List.forall_mem_cons.mpr ⟨rfl, List.forall_mem_cons.mpr ⟨rfl, List.forall_mem_cons.mpr ⟨rfl, List.forall_mem_cons.mpr ⟨rfl, List.forall_mem_cons.mpr ⟨rfl, fun _ h => absurd h List.not_mem_nil⟩⟩⟩⟩⟩) ?_
      refine V_iload dX4_ballToShoot_8 rfl ?_
      refine V_aload_n dX4_ballToShoot_10 rfl ?_
      refine V_getI dX4_ballToShoot_11 fX4_28 ⟨Nat.le_of_ble_eq_true rfl, Nat.le_of_ble_eq_true rfl⟩ rfl rfl ?_
      refine V_eqI (y := nI m) hm ?_
      refine V_icmp_geN (tgt := 73) dX4_ballToShoot_14 rfl (by omega) (by omega) (fun h14 => ?_) (fun h14 => ?_)
      · skip
        refine V_iload_n dX4_ballToShoot_73 rfl ?_
        exact V_iret ⟨Or.inl rfl, dX4_ballToShoot_74⟩ ⟨Nat.le_of_ble_eq_true rfl, Nat.le_of_ble_eq_true rfl⟩ ⟨rfl, by (have hkm : k = m := (by omega)); subst hkm; rw [hq]; rfl, rfl, rfl⟩
      · skip
        refine V_aload_n dX4_ballToShoot_17 rfl ?_
        refine V_iload dX4_ballToShoot_18 rfl ?_
        refine V_callV (As := [.int (nI k)]) (st := []) (a := 49) dX4_ballToShoot_20 kX4_sideOf lX4_47 (by decide) rfl rfl (Nat.le_of_ble_eq_true rfl) ⟨Nat.le_of_ble_eq_true rfl, Nat.le_of_ble_eq_true rfl⟩ ⟨Nat.le_of_ble_eq_true rfl, Nat.le_of_ble_eq_true rfl⟩ rfl ⟨rfl, by decide⟩ (c_sideOf hF (by omega)) ?_
        rintro _ _ _ _ ⟨rfl, rfl, rfl, rfl⟩
        refine V_iconst (v := nI 1) dX4_ballToShoot_23 rfl ?_
        refine V_iload_n dX4_ballToShoot_24 rfl ?_
        refine V_isubN dX4_ballToShoot_25 (by omega) ?_
        refine V_icmp_neN (tgt := 67) dX4_ballToShoot_26 rfl (by omega) (by omega) (fun h26 => ?_) (fun h26 => ?_)
        · skip
          refine V_iincN (ls' := [(4, .int (nI (k + 1))), (0, .ref 49), (1, .int (nI side)), (2, .int (-2)), (3, .int ((fbs (fgs (fsq xs ys px py) sd m side) (fun k => decide (sd k = 1 - side)) k).2))]) (n := 1) dX4_ballToShoot_67 rfl rfl (by decide) (by decide) rfl ?_
          refine V_goto (tgt := 8) dX4_ballToShoot_70 rfl ?_
          try have h58b := Int32.not_lt.mpr h58
          have e1 : (fbs (fgs (fsq xs ys px py) sd m side) (fun k => decide (sd k = 1 - side)) (k + 1)).1 = none := by simp_all [fbs, fgs] <;> (rw [if_neg (Int32.not_lt.mpr h58)]; try assumption)
          have e2 : (fbs (fgs (fsq xs ys px py) sd m side) (fun k => decide (sd k = 1 - side)) (k + 1)).2 = (fbs (fgs (fsq xs ys px py) sd m side) (fun k => decide (sd k = 1 - side)) k).2 := by simp_all [fbs, fgs] <;> (rw [if_neg (Int32.not_lt.mpr h58)]; try assumption)
          have q := ih (k + 1) (by omega) (by omega)
          rw [e1, e2] at q
          refine V_sub2 (ls' := [(0, .ref 49), (1, .int (nI side)), (2, .int (fen (none))), (3, .int ((fbs (fgs (fsq xs ys px py) sd m side) (fun k => decide (sd k = 1 - side)) k).2)), (4, .int (nI (k + 1)))]) (List.forall_mem_cons.mpr ⟨rfl, List.forall_mem_cons.mpr ⟨rfl, List.forall_mem_cons.mpr ⟨rfl, List.forall_mem_cons.mpr ⟨rfl, List.forall_mem_cons.mpr ⟨rfl, fun _ h => absurd h List.not_mem_nil⟩⟩⟩⟩⟩) ?_
          exact q
        · skip
          refine V_iload_n dX4_ballToShoot_29 rfl ?_
          refine V_if_neN (tgt := 42) dX4_ballToShoot_30 rfl (by omega) (fun h30 => ?_) (fun h30 => ?_)
          · skip
            refine V_aload_n dX4_ballToShoot_42 rfl ?_
            refine V_iload dX4_ballToShoot_43 rfl ?_
            refine V_callV (As := [.int (nI k)]) (st := []) (a := 49) dX4_ballToShoot_45 kX4_pointsWithout lX4_64 (by decide) rfl rfl (Nat.le_of_ble_eq_true rfl) ⟨Nat.le_of_ble_eq_true rfl, Nat.le_of_ble_eq_true rfl⟩ ⟨Nat.le_of_ble_eq_true rfl, Nat.le_of_ble_eq_true rfl⟩ rfl ⟨rfl, by decide⟩ (c_pointsWithout hF (lo := nI k)) ?_
            rintro _ _ _ _ ⟨rfl, rfl, rfl, rfl⟩
            refine V_ineg dX4_ballToShoot_48 ?_
            refine V_istore (ls' := [(5, .int (-(fpts (fsq xs ys px py) sd m (nI k)))), (0, .ref 49), (1, .int (nI side)), (2, .int (-2)), (3, .int ((fbs (fgs (fsq xs ys px py) sd m side) (fun k => decide (sd k = 1 - side)) k).2)), (4, .int (nI k))]) dX4_ballToShoot_49 (by decide) rfl ?_
            refine V_iload_n dX4_ballToShoot_51 rfl ?_
            refine V_if_lt (tgt := 61) dX4_ballToShoot_52 rfl (fun _ => ?_) (fun h => absurd (by decide) h)
            refine V_iload dX4_ballToShoot_61 rfl ?_
            refine V_istore_n (ls' := [(2, .int (nI k)), (5, .int (-(fpts (fsq xs ys px py) sd m (nI k)))), (0, .ref 49), (1, .int (nI side)), (3, .int ((fbs (fgs (fsq xs ys px py) sd m side) (fun k => decide (sd k = 1 - side)) k).2)), (4, .int (nI k))]) dX4_ballToShoot_63 (by decide) rfl ?_
            refine V_iload dX4_ballToShoot_64 rfl ?_
            refine V_istore_n (ls' := [(3, .int (-(fpts (fsq xs ys px py) sd m (nI k)))), (2, .int (nI k)), (5, .int (-(fpts (fsq xs ys px py) sd m (nI k)))), (0, .ref 49), (1, .int (nI side)), (4, .int (nI k))]) dX4_ballToShoot_66 (by decide) rfl ?_
            refine V_iincN (ls' := [(4, .int (nI (k + 1))), (3, .int (-(fpts (fsq xs ys px py) sd m (nI k)))), (2, .int (nI k)), (5, .int (-(fpts (fsq xs ys px py) sd m (nI k)))), (0, .ref 49), (1, .int (nI side))]) (n := 1) dX4_ballToShoot_67 rfl rfl (by decide) (by decide) rfl ?_
            refine V_goto (tgt := 8) dX4_ballToShoot_70 rfl ?_
            try have h58b := Int32.not_lt.mpr h58
            have e1 : (fbs (fgs (fsq xs ys px py) sd m side) (fun k => decide (sd k = 1 - side)) (k + 1)).1 = some k := by simp_all [fbs, fgs] <;> (rw [if_neg (Int32.not_lt.mpr h58)]; try assumption)
            have e2 : (fbs (fgs (fsq xs ys px py) sd m side) (fun k => decide (sd k = 1 - side)) (k + 1)).2 = -(fpts (fsq xs ys px py) sd m (nI k)) := by simp_all [fbs, fgs] <;> (rw [if_neg (Int32.not_lt.mpr h58)]; try assumption)
            have q := ih (k + 1) (by omega) (by omega)
            rw [e1, e2] at q
            refine V_sub2 (ls' := [(0, .ref 49), (1, .int (nI side)), (2, .int (fen (some k))), (3, .int (-(fpts (fsq xs ys px py) sd m (nI k)))), (4, .int (nI (k + 1)))]) (List.forall_mem_cons.mpr ⟨rfl, List.forall_mem_cons.mpr ⟨rfl, List.forall_mem_cons.mpr ⟨rfl, List.forall_mem_cons.mpr ⟨rfl, List.forall_mem_cons.mpr ⟨rfl, fun _ h => absurd h List.not_mem_nil⟩⟩⟩⟩⟩) ?_
            exact q
          · skip
            refine V_aload_n dX4_ballToShoot_33 rfl ?_
            refine V_iload dX4_ballToShoot_34 rfl ?_
            refine V_callV (As := [.int (nI k)]) (st := []) (a := 49) dX4_ballToShoot_36 kX4_pointsWithout lX4_64 (by decide) rfl rfl (Nat.le_of_ble_eq_true rfl) ⟨Nat.le_of_ble_eq_true rfl, Nat.le_of_ble_eq_true rfl⟩ ⟨Nat.le_of_ble_eq_true rfl, Nat.le_of_ble_eq_true rfl⟩ rfl ⟨rfl, by decide⟩ (c_pointsWithout hF (lo := nI k)) ?_
            rintro _ _ _ _ ⟨rfl, rfl, rfl, rfl⟩
            refine V_goto (tgt := 49) dX4_ballToShoot_39 rfl ?_
            refine V_istore (ls' := [(5, .int (fpts (fsq xs ys px py) sd m (nI k))), (0, .ref 49), (1, .int (nI side)), (2, .int (-2)), (3, .int ((fbs (fgs (fsq xs ys px py) sd m side) (fun k => decide (sd k = 1 - side)) k).2)), (4, .int (nI k))]) dX4_ballToShoot_49 (by decide) rfl ?_
            refine V_iload_n dX4_ballToShoot_51 rfl ?_
            refine V_if_lt (tgt := 61) dX4_ballToShoot_52 rfl (fun _ => ?_) (fun h => absurd (by decide) h)
            refine V_iload dX4_ballToShoot_61 rfl ?_
            refine V_istore_n (ls' := [(2, .int (nI k)), (5, .int (fpts (fsq xs ys px py) sd m (nI k))), (0, .ref 49), (1, .int (nI side)), (3, .int ((fbs (fgs (fsq xs ys px py) sd m side) (fun k => decide (sd k = 1 - side)) k).2)), (4, .int (nI k))]) dX4_ballToShoot_63 (by decide) rfl ?_
            refine V_iload dX4_ballToShoot_64 rfl ?_
            refine V_istore_n (ls' := [(3, .int (fpts (fsq xs ys px py) sd m (nI k))), (2, .int (nI k)), (5, .int (fpts (fsq xs ys px py) sd m (nI k))), (0, .ref 49), (1, .int (nI side)), (4, .int (nI k))]) dX4_ballToShoot_66 (by decide) rfl ?_
            refine V_iincN (ls' := [(4, .int (nI (k + 1))), (3, .int (fpts (fsq xs ys px py) sd m (nI k))), (2, .int (nI k)), (5, .int (fpts (fsq xs ys px py) sd m (nI k))), (0, .ref 49), (1, .int (nI side))]) (n := 1) dX4_ballToShoot_67 rfl rfl (by decide) (by decide) rfl ?_
            refine V_goto (tgt := 8) dX4_ballToShoot_70 rfl ?_
            try have h58b := Int32.not_lt.mpr h58
            have e1 : (fbs (fgs (fsq xs ys px py) sd m side) (fun k => decide (sd k = 1 - side)) (k + 1)).1 = some k := by simp_all [fbs, fgs] <;> (rw [if_neg (Int32.not_lt.mpr h58)]; try assumption)
            have e2 : (fbs (fgs (fsq xs ys px py) sd m side) (fun k => decide (sd k = 1 - side)) (k + 1)).2 = fpts (fsq xs ys px py) sd m (nI k) := by simp_all [fbs, fgs] <;> (rw [if_neg (Int32.not_lt.mpr h58)]; try assumption)
            have q := ih (k + 1) (by omega) (by omega)
            rw [e1, e2] at q
            refine V_sub2 (ls' := [(0, .ref 49), (1, .int (nI side)), (2, .int (fen (some k))), (3, .int (fpts (fsq xs ys px py) sd m (nI k))), (4, .int (nI (k + 1)))]) (List.forall_mem_cons.mpr ⟨rfl, List.forall_mem_cons.mpr ⟨rfl, List.forall_mem_cons.mpr ⟨rfl, List.forall_mem_cons.mpr ⟨rfl, List.forall_mem_cons.mpr ⟨rfl, fun _ h => absurd h List.not_mem_nil⟩⟩⟩⟩⟩) ?_
            exact q
    | some j =>
      have hjk := fbs_lt k j hq
      refine V_sub2 (ls' := [(0, .ref 49), (1, .int (nI side)), (2, .int (nI j)), (3, .int ((fbs (fgs (fsq xs ys px py) sd m side) (fun k => decide (sd k = 1 - side)) k).2)), (4, .int (nI k))]) (List.forall_mem_cons.mpr ⟨rfl, List.forall_mem_cons.mpr ⟨rfl, List.forall_mem_cons.mpr ⟨rfl, List.forall_mem_cons.mpr ⟨rfl, List.forall_mem_cons.mpr ⟨rfl, fun _ h => absurd h List.not_mem_nil⟩⟩⟩⟩⟩) ?_
      refine V_iload dX4_ballToShoot_8 rfl ?_
      refine V_aload_n dX4_ballToShoot_10 rfl ?_
      refine V_getI dX4_ballToShoot_11 fX4_28 ⟨Nat.le_of_ble_eq_true rfl, Nat.le_of_ble_eq_true rfl⟩ rfl rfl ?_
      refine V_eqI (y := nI m) hm ?_
      refine V_icmp_geN (tgt := 73) dX4_ballToShoot_14 rfl (by omega) (by omega) (fun h14 => ?_) (fun h14 => ?_)
      · skip
        refine V_iload_n dX4_ballToShoot_73 rfl ?_
        exact V_iret ⟨Or.inl rfl, dX4_ballToShoot_74⟩ ⟨Nat.le_of_ble_eq_true rfl, Nat.le_of_ble_eq_true rfl⟩ ⟨rfl, by (have hkm : k = m := (by omega)); subst hkm; rw [hq]; rfl, rfl, rfl⟩
      · skip
        refine V_aload_n dX4_ballToShoot_17 rfl ?_
        refine V_iload dX4_ballToShoot_18 rfl ?_
        refine V_callV (As := [.int (nI k)]) (st := []) (a := 49) dX4_ballToShoot_20 kX4_sideOf lX4_47 (by decide) rfl rfl (Nat.le_of_ble_eq_true rfl) ⟨Nat.le_of_ble_eq_true rfl, Nat.le_of_ble_eq_true rfl⟩ ⟨Nat.le_of_ble_eq_true rfl, Nat.le_of_ble_eq_true rfl⟩ rfl ⟨rfl, by decide⟩ (c_sideOf hF (by omega)) ?_
        rintro _ _ _ _ ⟨rfl, rfl, rfl, rfl⟩
        refine V_iconst (v := nI 1) dX4_ballToShoot_23 rfl ?_
        refine V_iload_n dX4_ballToShoot_24 rfl ?_
        refine V_isubN dX4_ballToShoot_25 (by omega) ?_
        refine V_icmp_neN (tgt := 67) dX4_ballToShoot_26 rfl (by omega) (by omega) (fun h26 => ?_) (fun h26 => ?_)
        · skip
          refine V_iincN (ls' := [(4, .int (nI (k + 1))), (0, .ref 49), (1, .int (nI side)), (2, .int (nI j)), (3, .int ((fbs (fgs (fsq xs ys px py) sd m side) (fun k => decide (sd k = 1 - side)) k).2))]) (n := 1) dX4_ballToShoot_67 rfl rfl (by decide) (by decide) rfl ?_
          refine V_goto (tgt := 8) dX4_ballToShoot_70 rfl ?_
          try have h58b := Int32.not_lt.mpr h58
          have e1 : (fbs (fgs (fsq xs ys px py) sd m side) (fun k => decide (sd k = 1 - side)) (k + 1)).1 = some j := by simp_all [fbs, fgs] <;> (rw [if_neg (Int32.not_lt.mpr h58)]; try assumption)
          have e2 : (fbs (fgs (fsq xs ys px py) sd m side) (fun k => decide (sd k = 1 - side)) (k + 1)).2 = (fbs (fgs (fsq xs ys px py) sd m side) (fun k => decide (sd k = 1 - side)) k).2 := by simp_all [fbs, fgs] <;> (rw [if_neg (Int32.not_lt.mpr h58)]; try assumption)
          have q := ih (k + 1) (by omega) (by omega)
          rw [e1, e2] at q
          refine V_sub2 (ls' := [(0, .ref 49), (1, .int (nI side)), (2, .int (fen (some j))), (3, .int ((fbs (fgs (fsq xs ys px py) sd m side) (fun k => decide (sd k = 1 - side)) k).2)), (4, .int (nI (k + 1)))]) (List.forall_mem_cons.mpr ⟨rfl, List.forall_mem_cons.mpr ⟨rfl, List.forall_mem_cons.mpr ⟨rfl, List.forall_mem_cons.mpr ⟨rfl, List.forall_mem_cons.mpr ⟨rfl, fun _ h => absurd h List.not_mem_nil⟩⟩⟩⟩⟩) ?_
          exact q
        · skip
          refine V_iload_n dX4_ballToShoot_29 rfl ?_
          refine V_if_neN (tgt := 42) dX4_ballToShoot_30 rfl (by omega) (fun h30 => ?_) (fun h30 => ?_)
          · skip
            refine V_aload_n dX4_ballToShoot_42 rfl ?_
            refine V_iload dX4_ballToShoot_43 rfl ?_
            refine V_callV (As := [.int (nI k)]) (st := []) (a := 49) dX4_ballToShoot_45 kX4_pointsWithout lX4_64 (by decide) rfl rfl (Nat.le_of_ble_eq_true rfl) ⟨Nat.le_of_ble_eq_true rfl, Nat.le_of_ble_eq_true rfl⟩ ⟨Nat.le_of_ble_eq_true rfl, Nat.le_of_ble_eq_true rfl⟩ rfl ⟨rfl, by decide⟩ (c_pointsWithout hF (lo := nI k)) ?_
            rintro _ _ _ _ ⟨rfl, rfl, rfl, rfl⟩
            refine V_ineg dX4_ballToShoot_48 ?_
            refine V_istore (ls' := [(5, .int (-(fpts (fsq xs ys px py) sd m (nI k)))), (0, .ref 49), (1, .int (nI side)), (2, .int (nI j)), (3, .int ((fbs (fgs (fsq xs ys px py) sd m side) (fun k => decide (sd k = 1 - side)) k).2)), (4, .int (nI k))]) dX4_ballToShoot_49 (by decide) rfl ?_
            refine V_iload_n dX4_ballToShoot_51 rfl ?_
            refine V_if_ltN (tgt := 61) dX4_ballToShoot_52 rfl (by omega) ?_
            refine V_iload dX4_ballToShoot_55 rfl ?_
            refine V_iload_n dX4_ballToShoot_57 rfl ?_
            refine V_icmp_le (tgt := 67) dX4_ballToShoot_58 rfl (fun h58 => ?_) (fun h58 => ?_)
            · skip
              refine V_iincN (ls' := [(4, .int (nI (k + 1))), (5, .int (-(fpts (fsq xs ys px py) sd m (nI k)))), (0, .ref 49), (1, .int (nI side)), (2, .int (nI j)), (3, .int ((fbs (fgs (fsq xs ys px py) sd m side) (fun k => decide (sd k = 1 - side)) k).2))]) (n := 1) dX4_ballToShoot_67 rfl rfl (by decide) (by decide) rfl ?_
              refine V_goto (tgt := 8) dX4_ballToShoot_70 rfl ?_
              try have h58b := Int32.not_lt.mpr h58
              have e1 : (fbs (fgs (fsq xs ys px py) sd m side) (fun k => decide (sd k = 1 - side)) (k + 1)).1 = some j := by simp_all [fbs, fgs] <;> (rw [if_neg (Int32.not_lt.mpr h58)]; try assumption)
              have e2 : (fbs (fgs (fsq xs ys px py) sd m side) (fun k => decide (sd k = 1 - side)) (k + 1)).2 = (fbs (fgs (fsq xs ys px py) sd m side) (fun k => decide (sd k = 1 - side)) k).2 := by simp_all [fbs, fgs] <;> (rw [if_neg (Int32.not_lt.mpr h58)]; try assumption)
              have q := ih (k + 1) (by omega) (by omega)
              rw [e1, e2] at q
              refine V_sub2 (ls' := [(0, .ref 49), (1, .int (nI side)), (2, .int (fen (some j))), (3, .int ((fbs (fgs (fsq xs ys px py) sd m side) (fun k => decide (sd k = 1 - side)) k).2)), (4, .int (nI (k + 1)))]) (List.forall_mem_cons.mpr ⟨rfl, List.forall_mem_cons.mpr ⟨rfl, List.forall_mem_cons.mpr ⟨rfl, List.forall_mem_cons.mpr ⟨rfl, List.forall_mem_cons.mpr ⟨rfl, fun _ h => absurd h List.not_mem_nil⟩⟩⟩⟩⟩) ?_
              exact q
            · skip
              refine V_iload dX4_ballToShoot_61 rfl ?_
              refine V_istore_n (ls' := [(2, .int (nI k)), (5, .int (-(fpts (fsq xs ys px py) sd m (nI k)))), (0, .ref 49), (1, .int (nI side)), (3, .int ((fbs (fgs (fsq xs ys px py) sd m side) (fun k => decide (sd k = 1 - side)) k).2)), (4, .int (nI k))]) dX4_ballToShoot_63 (by decide) rfl ?_
              refine V_iload dX4_ballToShoot_64 rfl ?_
              refine V_istore_n (ls' := [(3, .int (-(fpts (fsq xs ys px py) sd m (nI k)))), (2, .int (nI k)), (5, .int (-(fpts (fsq xs ys px py) sd m (nI k)))), (0, .ref 49), (1, .int (nI side)), (4, .int (nI k))]) dX4_ballToShoot_66 (by decide) rfl ?_
              refine V_iincN (ls' := [(4, .int (nI (k + 1))), (3, .int (-(fpts (fsq xs ys px py) sd m (nI k)))), (2, .int (nI k)), (5, .int (-(fpts (fsq xs ys px py) sd m (nI k)))), (0, .ref 49), (1, .int (nI side))]) (n := 1) dX4_ballToShoot_67 rfl rfl (by decide) (by decide) rfl ?_
              refine V_goto (tgt := 8) dX4_ballToShoot_70 rfl ?_
              try have h58b := Int32.not_lt.mpr h58
              have e1 : (fbs (fgs (fsq xs ys px py) sd m side) (fun k => decide (sd k = 1 - side)) (k + 1)).1 = some k := by simp_all [fbs, fgs] <;> (rw [if_neg (Int32.not_lt.mpr h58)]; try assumption)
              have e2 : (fbs (fgs (fsq xs ys px py) sd m side) (fun k => decide (sd k = 1 - side)) (k + 1)).2 = -(fpts (fsq xs ys px py) sd m (nI k)) := by simp_all [fbs, fgs] <;> (rw [if_neg (Int32.not_lt.mpr h58)]; try assumption)
              have q := ih (k + 1) (by omega) (by omega)
              rw [e1, e2] at q
              refine V_sub2 (ls' := [(0, .ref 49), (1, .int (nI side)), (2, .int (fen (some k))), (3, .int (-(fpts (fsq xs ys px py) sd m (nI k)))), (4, .int (nI (k + 1)))]) (List.forall_mem_cons.mpr ⟨rfl, List.forall_mem_cons.mpr ⟨rfl, List.forall_mem_cons.mpr ⟨rfl, List.forall_mem_cons.mpr ⟨rfl, List.forall_mem_cons.mpr ⟨rfl, fun _ h => absurd h List.not_mem_nil⟩⟩⟩⟩⟩) ?_
              exact q
          · skip
            refine V_aload_n dX4_ballToShoot_33 rfl ?_
            refine V_iload dX4_ballToShoot_34 rfl ?_
            refine V_callV (As := [.int (nI k)]) (st := []) (a := 49) dX4_ballToShoot_36 kX4_pointsWithout lX4_64 (by decide) rfl rfl (Nat.le_of_ble_eq_true rfl) ⟨Nat.le_of_ble_eq_true rfl, Nat.le_of_ble_eq_true rfl⟩ ⟨Nat.le_of_ble_eq_true rfl, Nat.le_of_ble_eq_true rfl⟩ rfl ⟨rfl, by decide⟩ (c_pointsWithout hF (lo := nI k)) ?_
            rintro _ _ _ _ ⟨rfl, rfl, rfl, rfl⟩
            refine V_goto (tgt := 49) dX4_ballToShoot_39 rfl ?_
            refine V_istore (ls' := [(5, .int (fpts (fsq xs ys px py) sd m (nI k))), (0, .ref 49), (1, .int (nI side)), (2, .int (nI j)), (3, .int ((fbs (fgs (fsq xs ys px py) sd m side) (fun k => decide (sd k = 1 - side)) k).2)), (4, .int (nI k))]) dX4_ballToShoot_49 (by decide) rfl ?_
            refine V_iload_n dX4_ballToShoot_51 rfl ?_
            refine V_if_ltN (tgt := 61) dX4_ballToShoot_52 rfl (by omega) ?_
            refine V_iload dX4_ballToShoot_55 rfl ?_
            refine V_iload_n dX4_ballToShoot_57 rfl ?_
            refine V_icmp_le (tgt := 67) dX4_ballToShoot_58 rfl (fun h58 => ?_) (fun h58 => ?_)
            · skip
              refine V_iincN (ls' := [(4, .int (nI (k + 1))), (5, .int (fpts (fsq xs ys px py) sd m (nI k))), (0, .ref 49), (1, .int (nI side)), (2, .int (nI j)), (3, .int ((fbs (fgs (fsq xs ys px py) sd m side) (fun k => decide (sd k = 1 - side)) k).2))]) (n := 1) dX4_ballToShoot_67 rfl rfl (by decide) (by decide) rfl ?_
              refine V_goto (tgt := 8) dX4_ballToShoot_70 rfl ?_
              try have h58b := Int32.not_lt.mpr h58
              have e1 : (fbs (fgs (fsq xs ys px py) sd m side) (fun k => decide (sd k = 1 - side)) (k + 1)).1 = some j := by simp_all [fbs, fgs] <;> (rw [if_neg (Int32.not_lt.mpr h58)]; try assumption)
              have e2 : (fbs (fgs (fsq xs ys px py) sd m side) (fun k => decide (sd k = 1 - side)) (k + 1)).2 = (fbs (fgs (fsq xs ys px py) sd m side) (fun k => decide (sd k = 1 - side)) k).2 := by simp_all [fbs, fgs] <;> (rw [if_neg (Int32.not_lt.mpr h58)]; try assumption)
              have q := ih (k + 1) (by omega) (by omega)
              rw [e1, e2] at q
              refine V_sub2 (ls' := [(0, .ref 49), (1, .int (nI side)), (2, .int (fen (some j))), (3, .int ((fbs (fgs (fsq xs ys px py) sd m side) (fun k => decide (sd k = 1 - side)) k).2)), (4, .int (nI (k + 1)))]) (List.forall_mem_cons.mpr ⟨rfl, List.forall_mem_cons.mpr ⟨rfl, List.forall_mem_cons.mpr ⟨rfl, List.forall_mem_cons.mpr ⟨rfl, List.forall_mem_cons.mpr ⟨rfl, fun _ h => absurd h List.not_mem_nil⟩⟩⟩⟩⟩) ?_
              exact q
            · skip
              refine V_iload dX4_ballToShoot_61 rfl ?_
              refine V_istore_n (ls' := [(2, .int (nI k)), (5, .int (fpts (fsq xs ys px py) sd m (nI k))), (0, .ref 49), (1, .int (nI side)), (3, .int ((fbs (fgs (fsq xs ys px py) sd m side) (fun k => decide (sd k = 1 - side)) k).2)), (4, .int (nI k))]) dX4_ballToShoot_63 (by decide) rfl ?_
              refine V_iload dX4_ballToShoot_64 rfl ?_
              refine V_istore_n (ls' := [(3, .int (fpts (fsq xs ys px py) sd m (nI k))), (2, .int (nI k)), (5, .int (fpts (fsq xs ys px py) sd m (nI k))), (0, .ref 49), (1, .int (nI side)), (4, .int (nI k))]) dX4_ballToShoot_66 (by decide) rfl ?_
              refine V_iincN (ls' := [(4, .int (nI (k + 1))), (3, .int (fpts (fsq xs ys px py) sd m (nI k))), (2, .int (nI k)), (5, .int (fpts (fsq xs ys px py) sd m (nI k))), (0, .ref 49), (1, .int (nI side))]) (n := 1) dX4_ballToShoot_67 rfl rfl (by decide) (by decide) rfl ?_
              refine V_goto (tgt := 8) dX4_ballToShoot_70 rfl ?_
              try have h58b := Int32.not_lt.mpr h58
              have e1 : (fbs (fgs (fsq xs ys px py) sd m side) (fun k => decide (sd k = 1 - side)) (k + 1)).1 = some k := by simp_all [fbs, fgs] <;> (rw [if_neg (Int32.not_lt.mpr h58)]; try assumption)
              have e2 : (fbs (fgs (fsq xs ys px py) sd m side) (fun k => decide (sd k = 1 - side)) (k + 1)).2 = fpts (fsq xs ys px py) sd m (nI k) := by simp_all [fbs, fgs] <;> (rw [if_neg (Int32.not_lt.mpr h58)]; try assumption)
              have q := ih (k + 1) (by omega) (by omega)
              rw [e1, e2] at q
              refine V_sub2 (ls' := [(0, .ref 49), (1, .int (nI side)), (2, .int (fen (some k))), (3, .int (fpts (fsq xs ys px py) sd m (nI k))), (4, .int (nI (k + 1)))]) (List.forall_mem_cons.mpr ⟨rfl, List.forall_mem_cons.mpr ⟨rfl, List.forall_mem_cons.mpr ⟨rfl, List.forall_mem_cons.mpr ⟨rfl, List.forall_mem_cons.mpr ⟨rfl, fun _ h => absurd h List.not_mem_nil⟩⟩⟩⟩⟩) ?_
              exact q

set_option maxRecDepth 100000 in
set_option maxHeartbeats 4000000 in
theorem c_ballToShoot {G : zG} {I : zI} {J : zJ} {m : Nat} {sd xs ys : Nat → Nat} {px py : Nat} (hF : fdX I m sd xs ys px py) {side : Nat} (hs : side ≤ 1) : zK G mX4_ballToShoot 4 [.ref 49, .int (nI side)] zsh I J (zA0 (.int (fen (fbs (fgs (fsq xs ys px py) sd m side) (fun k => decide (sd k = 1 - side)) m).1)) I J) := by
  refine zK_of kX4_ballToShoot.2.2.2.2.1 (Nat.le_of_ble_eq_true rfl) ?_
  show V G mX4_ballToShoot 4 _ 0 [(0, .ref 49), (1, .int (nI side))] [] (0, 0) zsh I J
  obtain ⟨hm, hm12, hk, hpx, hpx9, hpy, hpy9⟩ := id hF
  refine V_bipush (v := (-2)) dX4_ballToShoot_0 rfl ?_
  refine V_istore_n (ls' := [(2, .int (-2)), (0, .ref 49), (1, .int (nI side))]) dX4_ballToShoot_2 (by decide) rfl ?_
  refine V_iconst (v := nI 0) dX4_ballToShoot_3 rfl ?_
  refine V_istore_n (ls' := [(3, .int (nI 0)), (2, .int (-2)), (0, .ref 49), (1, .int (nI side))]) dX4_ballToShoot_4 (by decide) rfl ?_
  refine V_iconst (v := nI 0) dX4_ballToShoot_5 rfl ?_
  refine V_istore (ls' := [(4, .int (nI 0)), (3, .int (nI 0)), (2, .int (-2)), (0, .ref 49), (1, .int (nI side))]) dX4_ballToShoot_6 (by decide) rfl ?_
  refine V_sub2 (ls' := [(0, .ref 49), (1, .int (nI side)), (2, .int (fen (fbs (fgs (fsq xs ys px py) sd m side) (fun k => decide (sd k = 1 - side)) 0).1)), (3, .int ((fbs (fgs (fsq xs ys px py) sd m side) (fun k => decide (sd k = 1 - side)) 0).2)), (4, .int (nI 0))]) (List.forall_mem_cons.mpr ⟨rfl, List.forall_mem_cons.mpr ⟨rfl, List.forall_mem_cons.mpr ⟨rfl, List.forall_mem_cons.mpr ⟨rfl, List.forall_mem_cons.mpr ⟨rfl, fun _ h => absurd h List.not_mem_nil⟩⟩⟩⟩⟩) ?_
  exact lp_ballToShoot hF hs (m + 1) 0 (Nat.zero_le _) (by omega)

def fadd (I : zI) (m side x y : Nat) : zI := zwr (zwr (zwr (zwr I 50 m (nI side)) 51 m (nI x)) 52 m (nI y)) 49 3 (nI (m + 1))
set_option maxRecDepth 100000 in
set_option maxHeartbeats 4000000 in
theorem c_add4 {G : zG} {I : zI} {J : zJ} {m : Nat} {sd xs ys : Nat → Nat} {px py : Nat} (hF : fdX I m sd xs ys px py) (hm1 : m < 12) {side x y : Nat} : zK G mX4_add 0 [.ref 49, .int (nI side), .int (nI x), .int (nI y)] zsh I J (zA1 (.int (nI m)) (fun I' J' => I' = fadd I m side x y ∧ J = J')) := by
  refine zK_of kX4_add.2.2.2.2.1 (Nat.le_of_ble_eq_true rfl) ?_
  show V G mX4_add 0 _ 0 [(0, .ref 49), (1, .int (nI side)), (2, .int (nI x)), (3, .int (nI y))] [] (0, 0) zsh I J
  obtain ⟨hm, hm12, hk, hpx, hpx9, hpy, hpy9⟩ := id hF
  refine V_aload_n dX4_add_0 rfl ?_
  refine V_getI dX4_add_1 fX4_28 ⟨Nat.le_of_ble_eq_true rfl, Nat.le_of_ble_eq_true rfl⟩ rfl rfl ?_
  refine V_eqI (y := nI m) hm ?_
  refine V_if_ltN (tgt := 16) dX4_add_4 rfl (by omega) ?_
  refine V_aload_n dX4_add_7 rfl ?_
  refine V_getI dX4_add_8 fX4_28 ⟨Nat.le_of_ble_eq_true rfl, Nat.le_of_ble_eq_true rfl⟩ rfl rfl ?_
  refine V_eqI (y := nI m) hm ?_
  refine V_bipush (v := nI 12) dX4_add_11 rfl ?_
  refine V_icmp_ltN (tgt := 18) dX4_add_13 rfl (by omega) (by decide) (fun _ => ?_) (fun h => absurd (by omega) h)
  refine V_aload_n dX4_add_18 rfl ?_
  refine V_getR (b := 50) dX4_add_19 fX4_11 ⟨Nat.le_of_ble_eq_true rfl, Nat.le_of_ble_eq_true rfl⟩ rfl rfl rfl ?_
  refine V_aload_n dX4_add_22 rfl ?_
  refine V_getI dX4_add_23 fX4_28 ⟨Nat.le_of_ble_eq_true rfl, Nat.le_of_ble_eq_true rfl⟩ rfl rfl ?_
  refine V_eqI (y := nI m) hm ?_
  refine V_iload_n dX4_add_26 rfl ?_
  refine V_iastN (k := m) dX4_add_27 ⟨Nat.le_of_ble_eq_true rfl, Nat.le_of_ble_eq_true rfl⟩ rfl (by decide) (by omega) ?_
  refine V_aload_n dX4_add_28 rfl ?_
  refine V_getR (b := 51) dX4_add_29 fX4_15 ⟨Nat.le_of_ble_eq_true rfl, Nat.le_of_ble_eq_true rfl⟩ rfl rfl rfl ?_
  refine V_aload_n dX4_add_32 rfl ?_
  refine V_getI dX4_add_33 fX4_28 ⟨Nat.le_of_ble_eq_true rfl, Nat.le_of_ble_eq_true rfl⟩ rfl rfl ?_
  refine V_eqI (y := I 49 3) rfl ?_
  refine V_eqI (y := nI m) hm ?_
  refine V_iload_n dX4_add_36 rfl ?_
  refine V_iastN (k := m) dX4_add_37 ⟨Nat.le_of_ble_eq_true rfl, Nat.le_of_ble_eq_true rfl⟩ rfl (by decide) (by omega) ?_
  refine V_aload_n dX4_add_38 rfl ?_
  refine V_getR (b := 52) dX4_add_39 fX4_18 ⟨Nat.le_of_ble_eq_true rfl, Nat.le_of_ble_eq_true rfl⟩ rfl rfl rfl ?_
  refine V_aload_n dX4_add_42 rfl ?_
  refine V_getI dX4_add_43 fX4_28 ⟨Nat.le_of_ble_eq_true rfl, Nat.le_of_ble_eq_true rfl⟩ rfl rfl ?_
  refine V_eqI (y := I 49 3) rfl ?_
  refine V_eqI (y := nI m) hm ?_
  refine V_iload_n dX4_add_46 rfl ?_
  refine V_iastN (k := m) dX4_add_47 ⟨Nat.le_of_ble_eq_true rfl, Nat.le_of_ble_eq_true rfl⟩ rfl (by decide) (by omega) ?_
  refine V_aload_n dX4_add_48 rfl ?_
  refine V_dup dX4_add_49 rfl ?_
  refine V_getI dX4_add_50 fX4_28 ⟨Nat.le_of_ble_eq_true rfl, Nat.le_of_ble_eq_true rfl⟩ rfl rfl ?_
  refine V_eqI (y := I 49 3) rfl ?_
  refine V_eqI (y := nI m) hm ?_
  refine V_iconst (v := nI 1) dX4_add_53 rfl ?_
  refine V_iaddN dX4_add_54 ?_
  refine V_putW dX4_add_55 fX4_28 ⟨Nat.le_of_ble_eq_true rfl, Nat.le_of_ble_eq_true rfl⟩ rfl rfl rfl ⟨rfl, rfl⟩ ?_
  refine V_aload_n dX4_add_58 rfl ?_
  refine V_getI dX4_add_59 fX4_28 ⟨Nat.le_of_ble_eq_true rfl, Nat.le_of_ble_eq_true rfl⟩ rfl rfl ?_
  refine V_eqI (y := nI (m + 1)) rfl ?_
  refine V_iconst (v := nI 1) dX4_add_62 rfl ?_
  refine V_isubN dX4_add_63 (by omega) ?_
  exact V_iret ⟨Or.inl rfl, dX4_add_64⟩ ⟨Nat.le_of_ble_eq_true rfl, Nat.le_of_ble_eq_true rfl⟩ ⟨rfl, congrArg (fun z => some (Value.int (nI z))) (by omega), rfl, rfl⟩

def fcopyK (I : zI) : zI := zwr (zwr (zwr (zup (zup (zup I 59 (zcp (I 50) (I 59) 12)) 60 (zcp (I 51) (I 60) 12)) 61 (zcp (I 52) (I 61) 12)) 58 3 (I 49 3)) 58 4 (I 49 4)) 58 5 (I 49 5)
set_option maxRecDepth 100000 in
set_option maxHeartbeats 4000000 in
theorem c_copyFrom4K {G : zG} {I : zI} {J : zJ}  : zK G mX4_copyFrom 1 [.ref 58, .ref 49] zsh I J (zA2 (fun I' J' => I' = fcopyK I ∧ J = J')) := by
  refine zK_of kX4_copyFrom.2.2.2.2.1 (Nat.le_of_ble_eq_true rfl) ?_
  show V G mX4_copyFrom 1 _ 0 [(0, .ref 58), (1, .ref 49)] [] (0, 0) zsh I J
  refine V_aload_n dX4_copyFrom_0 rfl ?_
  refine V_getR (b := 50) dX4_copyFrom_1 fX4_11 ⟨Nat.le_of_ble_eq_true rfl, Nat.le_of_ble_eq_true rfl⟩ rfl rfl rfl ?_
  refine V_iconst (v := nI 0) dX4_copyFrom_4 rfl ?_
  refine V_aload_n dX4_copyFrom_5 rfl ?_
  refine V_getR (b := 59) dX4_copyFrom_6 fX4_11 ⟨Nat.le_of_ble_eq_true rfl, Nat.le_of_ble_eq_true rfl⟩ rfl rfl rfl ?_
  refine V_iconst (v := nI 0) dX4_copyFrom_9 rfl ?_
  refine V_bipush (v := nI 12) dX4_copyFrom_10 rfl ?_
  refine V_cpyiN (a0 := 50) (a := 59) (n := 12) dX4_copyFrom_12 jX4_37 (by decide) (Nat.le_of_ble_eq_true rfl) ⟨Nat.le_of_ble_eq_true rfl, Nat.le_of_ble_eq_true rfl⟩ rfl ⟨Nat.le_of_ble_eq_true rfl, Nat.le_of_ble_eq_true rfl⟩ rfl (by decide) (by decide) ?_
  refine V_aload_n dX4_copyFrom_15 rfl ?_
  refine V_getR (b := 51) dX4_copyFrom_16 fX4_15 ⟨Nat.le_of_ble_eq_true rfl, Nat.le_of_ble_eq_true rfl⟩ rfl rfl rfl ?_
  refine V_iconst (v := nI 0) dX4_copyFrom_19 rfl ?_
  refine V_aload_n dX4_copyFrom_20 rfl ?_
  refine V_getR (b := 60) dX4_copyFrom_21 fX4_15 ⟨Nat.le_of_ble_eq_true rfl, Nat.le_of_ble_eq_true rfl⟩ rfl rfl rfl ?_
  refine V_iconst (v := nI 0) dX4_copyFrom_24 rfl ?_
  refine V_bipush (v := nI 12) dX4_copyFrom_25 rfl ?_
  refine V_cpyiN (a0 := 51) (a := 60) (n := 12) dX4_copyFrom_27 jX4_37 (by decide) (Nat.le_of_ble_eq_true rfl) ⟨Nat.le_of_ble_eq_true rfl, Nat.le_of_ble_eq_true rfl⟩ rfl ⟨Nat.le_of_ble_eq_true rfl, Nat.le_of_ble_eq_true rfl⟩ rfl (by decide) (by decide) ?_
  refine V_aload_n dX4_copyFrom_30 rfl ?_
  refine V_getR (b := 52) dX4_copyFrom_31 fX4_18 ⟨Nat.le_of_ble_eq_true rfl, Nat.le_of_ble_eq_true rfl⟩ rfl rfl rfl ?_
  refine V_iconst (v := nI 0) dX4_copyFrom_34 rfl ?_
  refine V_aload_n dX4_copyFrom_35 rfl ?_
  refine V_getR (b := 61) dX4_copyFrom_36 fX4_18 ⟨Nat.le_of_ble_eq_true rfl, Nat.le_of_ble_eq_true rfl⟩ rfl rfl rfl ?_
  refine V_iconst (v := nI 0) dX4_copyFrom_39 rfl ?_
  refine V_bipush (v := nI 12) dX4_copyFrom_40 rfl ?_
  refine V_cpyiN (a0 := 52) (a := 61) (n := 12) dX4_copyFrom_42 jX4_37 (by decide) (Nat.le_of_ble_eq_true rfl) ⟨Nat.le_of_ble_eq_true rfl, Nat.le_of_ble_eq_true rfl⟩ rfl ⟨Nat.le_of_ble_eq_true rfl, Nat.le_of_ble_eq_true rfl⟩ rfl (by decide) (by decide) ?_
  refine V_aload_n dX4_copyFrom_45 rfl ?_
  refine V_aload_n dX4_copyFrom_46 rfl ?_
  refine V_getI dX4_copyFrom_47 fX4_28 ⟨Nat.le_of_ble_eq_true rfl, Nat.le_of_ble_eq_true rfl⟩ rfl rfl ?_
  refine V_eqI (y := I 49 3) rfl ?_
  refine V_putW dX4_copyFrom_50 fX4_28 ⟨Nat.le_of_ble_eq_true rfl, Nat.le_of_ble_eq_true rfl⟩ rfl rfl rfl ⟨rfl, rfl⟩ ?_
  refine V_aload_n dX4_copyFrom_53 rfl ?_
  refine V_aload_n dX4_copyFrom_54 rfl ?_
  refine V_getI dX4_copyFrom_55 fX4_21 ⟨Nat.le_of_ble_eq_true rfl, Nat.le_of_ble_eq_true rfl⟩ rfl rfl ?_
  refine V_eqI (y := I 49 4) rfl ?_
  refine V_putW dX4_copyFrom_58 fX4_21 ⟨Nat.le_of_ble_eq_true rfl, Nat.le_of_ble_eq_true rfl⟩ rfl rfl rfl ⟨rfl, rfl⟩ ?_
  refine V_aload_n dX4_copyFrom_61 rfl ?_
  refine V_aload_n dX4_copyFrom_62 rfl ?_
  refine V_getI dX4_copyFrom_63 fX4_25 ⟨Nat.le_of_ble_eq_true rfl, Nat.le_of_ble_eq_true rfl⟩ rfl rfl ?_
  refine V_eqI (y := I 49 5) rfl ?_
  refine V_putW dX4_copyFrom_66 fX4_25 ⟨Nat.le_of_ble_eq_true rfl, Nat.le_of_ble_eq_true rfl⟩ rfl rfl rfl ⟨rfl, rfl⟩ ?_
  exact V_ret ⟨rfl, dX4_copyFrom_69⟩ ⟨Nat.le_of_ble_eq_true rfl, Nat.le_of_ble_eq_true rfl⟩ ⟨rfl, rfl, rfl, rfl⟩

def fcopyU (I : zI) : zI := zwr (zwr (zwr (zup (zup (zup I 50 (zcp (I 59) (I 50) 12)) 51 (zcp (I 60) (I 51) 12)) 52 (zcp (I 61) (I 52) 12)) 49 3 (I 58 3)) 49 4 (I 58 4)) 49 5 (I 58 5)
set_option maxRecDepth 100000 in
set_option maxHeartbeats 4000000 in
theorem c_copyFrom4U {G : zG} {I : zI} {J : zJ}  : zK G mX4_copyFrom 1 [.ref 49, .ref 58] zsh I J (zA2 (fun I' J' => I' = fcopyU I ∧ J = J')) := by
  refine zK_of kX4_copyFrom.2.2.2.2.1 (Nat.le_of_ble_eq_true rfl) ?_
  show V G mX4_copyFrom 1 _ 0 [(0, .ref 49), (1, .ref 58)] [] (0, 0) zsh I J
  refine V_aload_n dX4_copyFrom_0 rfl ?_
  refine V_getR (b := 59) dX4_copyFrom_1 fX4_11 ⟨Nat.le_of_ble_eq_true rfl, Nat.le_of_ble_eq_true rfl⟩ rfl rfl rfl ?_
  refine V_iconst (v := nI 0) dX4_copyFrom_4 rfl ?_
  refine V_aload_n dX4_copyFrom_5 rfl ?_
  refine V_getR (b := 50) dX4_copyFrom_6 fX4_11 ⟨Nat.le_of_ble_eq_true rfl, Nat.le_of_ble_eq_true rfl⟩ rfl rfl rfl ?_
  refine V_iconst (v := nI 0) dX4_copyFrom_9 rfl ?_
  refine V_bipush (v := nI 12) dX4_copyFrom_10 rfl ?_
  refine V_cpyiN (a0 := 59) (a := 50) (n := 12) dX4_copyFrom_12 jX4_37 (by decide) (Nat.le_of_ble_eq_true rfl) ⟨Nat.le_of_ble_eq_true rfl, Nat.le_of_ble_eq_true rfl⟩ rfl ⟨Nat.le_of_ble_eq_true rfl, Nat.le_of_ble_eq_true rfl⟩ rfl (by decide) (by decide) ?_
  refine V_aload_n dX4_copyFrom_15 rfl ?_
  refine V_getR (b := 60) dX4_copyFrom_16 fX4_15 ⟨Nat.le_of_ble_eq_true rfl, Nat.le_of_ble_eq_true rfl⟩ rfl rfl rfl ?_
  refine V_iconst (v := nI 0) dX4_copyFrom_19 rfl ?_
  refine V_aload_n dX4_copyFrom_20 rfl ?_
  refine V_getR (b := 51) dX4_copyFrom_21 fX4_15 ⟨Nat.le_of_ble_eq_true rfl, Nat.le_of_ble_eq_true rfl⟩ rfl rfl rfl ?_
  refine V_iconst (v := nI 0) dX4_copyFrom_24 rfl ?_
  refine V_bipush (v := nI 12) dX4_copyFrom_25 rfl ?_
  refine V_cpyiN (a0 := 60) (a := 51) (n := 12) dX4_copyFrom_27 jX4_37 (by decide) (Nat.le_of_ble_eq_true rfl) ⟨Nat.le_of_ble_eq_true rfl, Nat.le_of_ble_eq_true rfl⟩ rfl ⟨Nat.le_of_ble_eq_true rfl, Nat.le_of_ble_eq_true rfl⟩ rfl (by decide) (by decide) ?_
  refine V_aload_n dX4_copyFrom_30 rfl ?_
  refine V_getR (b := 61) dX4_copyFrom_31 fX4_18 ⟨Nat.le_of_ble_eq_true rfl, Nat.le_of_ble_eq_true rfl⟩ rfl rfl rfl ?_
  refine V_iconst (v := nI 0) dX4_copyFrom_34 rfl ?_
  refine V_aload_n dX4_copyFrom_35 rfl ?_
  refine V_getR (b := 52) dX4_copyFrom_36 fX4_18 ⟨Nat.le_of_ble_eq_true rfl, Nat.le_of_ble_eq_true rfl⟩ rfl rfl rfl ?_
  refine V_iconst (v := nI 0) dX4_copyFrom_39 rfl ?_
  refine V_bipush (v := nI 12) dX4_copyFrom_40 rfl ?_
  refine V_cpyiN (a0 := 61) (a := 52) (n := 12) dX4_copyFrom_42 jX4_37 (by decide) (Nat.le_of_ble_eq_true rfl) ⟨Nat.le_of_ble_eq_true rfl, Nat.le_of_ble_eq_true rfl⟩ rfl ⟨Nat.le_of_ble_eq_true rfl, Nat.le_of_ble_eq_true rfl⟩ rfl (by decide) (by decide) ?_
  refine V_aload_n dX4_copyFrom_45 rfl ?_
  refine V_aload_n dX4_copyFrom_46 rfl ?_
  refine V_getI dX4_copyFrom_47 fX4_28 ⟨Nat.le_of_ble_eq_true rfl, Nat.le_of_ble_eq_true rfl⟩ rfl rfl ?_
  refine V_eqI (y := I 58 3) rfl ?_
  refine V_putW dX4_copyFrom_50 fX4_28 ⟨Nat.le_of_ble_eq_true rfl, Nat.le_of_ble_eq_true rfl⟩ rfl rfl rfl ⟨rfl, rfl⟩ ?_
  refine V_aload_n dX4_copyFrom_53 rfl ?_
  refine V_aload_n dX4_copyFrom_54 rfl ?_
  refine V_getI dX4_copyFrom_55 fX4_21 ⟨Nat.le_of_ble_eq_true rfl, Nat.le_of_ble_eq_true rfl⟩ rfl rfl ?_
  refine V_eqI (y := I 58 4) rfl ?_
  refine V_putW dX4_copyFrom_58 fX4_21 ⟨Nat.le_of_ble_eq_true rfl, Nat.le_of_ble_eq_true rfl⟩ rfl rfl rfl ⟨rfl, rfl⟩ ?_
  refine V_aload_n dX4_copyFrom_61 rfl ?_
  refine V_aload_n dX4_copyFrom_62 rfl ?_
  refine V_getI dX4_copyFrom_63 fX4_25 ⟨Nat.le_of_ble_eq_true rfl, Nat.le_of_ble_eq_true rfl⟩ rfl rfl ?_
  refine V_eqI (y := I 58 5) rfl ?_
  refine V_putW dX4_copyFrom_66 fX4_25 ⟨Nat.le_of_ble_eq_true rfl, Nat.le_of_ble_eq_true rfl⟩ rfl rfl rfl ⟨rfl, rfl⟩ ?_
  exact V_ret ⟨rfl, dX4_copyFrom_69⟩ ⟨Nat.le_of_ble_eq_true rfl, Nat.le_of_ble_eq_true rfl⟩ ⟨rfl, rfl, rfl, rfl⟩

/-- those behind place i one place down, up to k -/
def shl {α : Type} (f : Nat → α) (i k : Nat) : Nat → α := fun j => if i ≤ j ∧ j < k then f (j + 1) else f j
theorem shl_0 {α : Type} (f : Nat → α) (i : Nat) : shl f i i = f := by
  funext j
  unfold shl
  rw [if_neg (by omega)]
theorem shl_s (f : Nat → Int32) {i k : Nat} (h : i ≤ k) : upd (shl f i k) k (f (k + 1)) = shl f i (k + 1) := by
  funext j
  by_cases hj : j = k
  · subst hj; simp [upd, shl, h]
  · simp only [upd, shl, if_neg hj]
    by_cases h2 : i ≤ j ∧ j < k
    · rw [if_pos h2, if_pos (by omega)]
    · rw [if_neg h2, if_neg (by omega)]
theorem shl_at {α : Type} (f : Nat → α) {i k : Nat} : shl f i k (k + 1) = f (k + 1) := by
  unfold shl
  rw [if_neg (by omega)]
def frem (I : zI) (i k : Nat) : zI := zup (zup (zup I 50 (shl (I 50) i k)) 51 (shl (I 51) i k)) 52 (shl (I 52) i k)
set_option maxRecDepth 100000 in
set_option maxHeartbeats 4000000 in
theorem lp_remove {G : zG} {I : zI} {J : zJ} {m : Nat} {sd xs ys : Nat → Nat} {px py : Nat} (hF : fdX I m sd xs ys px py) {i : Nat} (hi : i < m) : ∀ n k (I1 : zI), I1 = frem I i k → i ≤ k → k + 1 ≤ m → m < k + n → V G mX4_remove 1 (zA2 (fun I' J' => I' = zup (frem I i (m - 1)) 49 (upd (I 49) 3 (nI (m - 1))) ∧ J = J')) 6 [(0, .ref 49), (1, .int (nI i)), (2, .int (nI k))] [] (0, 0) zsh I1 J := by
  obtain ⟨hm, hm12, hk, hpx, hpx9, hpy, hpy9⟩ := id hF
  intro n
  induction n with
  | zero => intros; omega
  | succ n ih =>
    intro k I1 hI hik hk1 hk2
    refine V_iload_n dX4_remove_6 rfl ?_
    refine V_iconst (v := nI 1) dX4_remove_7 rfl ?_
    refine V_iaddN dX4_remove_8 ?_
    refine V_aload_n dX4_remove_9 rfl ?_
    refine V_getI dX4_remove_10 fX4_28 ⟨Nat.le_of_ble_eq_true rfl, Nat.le_of_ble_eq_true rfl⟩ rfl rfl ?_
    refine V_eqI (y := nI m) (by rw [hI]; exact hm) ?_
    refine V_icmp_geN (tgt := 72) dX4_remove_13 rfl (by omega) (by omega) (fun h13 => ?_) (fun h13 => ?_)
    · skip
      refine V_aload_n dX4_remove_72 rfl ?_
      refine V_dup dX4_remove_73 rfl ?_
      refine V_getI dX4_remove_74 fX4_28 ⟨Nat.le_of_ble_eq_true rfl, Nat.le_of_ble_eq_true rfl⟩ rfl rfl ?_
      refine V_eqI (y := nI m) (by rw [hI]; exact hm) ?_
      refine V_iconst (v := nI 1) dX4_remove_77 rfl ?_
      refine V_isubN dX4_remove_78 (by omega) ?_
      refine V_putW dX4_remove_79 fX4_28 ⟨Nat.le_of_ble_eq_true rfl, Nat.le_of_ble_eq_true rfl⟩ rfl rfl rfl ⟨rfl, rfl⟩ ?_
      exact V_ret ⟨rfl, dX4_remove_82⟩ ⟨Nat.le_of_ble_eq_true rfl, Nat.le_of_ble_eq_true rfl⟩ ⟨rfl, rfl, by (have hkm : k = m - 1 := (by omega)); subst hkm; rw [hI]; rfl, rfl⟩
    · skip
      refine V_iload_n dX4_remove_16 rfl ?_
      refine V_iconst (v := nI 1) dX4_remove_17 rfl ?_
      refine V_iaddN dX4_remove_18 ?_
      refine V_bipush (v := nI 12) dX4_remove_19 rfl ?_
      refine V_icmp_geN (tgt := 72) dX4_remove_21 rfl (by omega) (by decide) (fun h => absurd h (by omega)) (fun _ => ?_)
      refine V_aload_n dX4_remove_24 rfl ?_
      refine V_getR (b := 50) dX4_remove_25 fX4_11 ⟨Nat.le_of_ble_eq_true rfl, Nat.le_of_ble_eq_true rfl⟩ rfl rfl rfl ?_
      refine V_iload_n dX4_remove_28 rfl ?_
      refine V_aload_n dX4_remove_29 rfl ?_
      refine V_getR (b := 50) dX4_remove_30 fX4_11 ⟨Nat.le_of_ble_eq_true rfl, Nat.le_of_ble_eq_true rfl⟩ rfl rfl rfl ?_
      refine V_iload_n dX4_remove_33 rfl ?_
      refine V_iconst (v := nI 1) dX4_remove_34 rfl ?_
      refine V_iaddN dX4_remove_35 ?_
      refine V_ialdN (k := k + 1) dX4_remove_36 ⟨Nat.le_of_ble_eq_true rfl, Nat.le_of_ble_eq_true rfl⟩ rfl (by decide) (by omega) ?_
      refine V_eqI (y := I 50 (k + 1)) (by rw [hI]; exact shl_at _) ?_
      refine V_iastN (k := k) dX4_remove_37 ⟨Nat.le_of_ble_eq_true rfl, Nat.le_of_ble_eq_true rfl⟩ rfl (by decide) (by omega) ?_
      refine V_aload_n dX4_remove_38 rfl ?_
      refine V_getR (b := 51) dX4_remove_39 fX4_15 ⟨Nat.le_of_ble_eq_true rfl, Nat.le_of_ble_eq_true rfl⟩ rfl rfl rfl ?_
      refine V_iload_n dX4_remove_42 rfl ?_
      refine V_aload_n dX4_remove_43 rfl ?_
      refine V_getR (b := 51) dX4_remove_44 fX4_15 ⟨Nat.le_of_ble_eq_true rfl, Nat.le_of_ble_eq_true rfl⟩ rfl rfl rfl ?_
      refine V_iload_n dX4_remove_47 rfl ?_
      refine V_iconst (v := nI 1) dX4_remove_48 rfl ?_
      refine V_iaddN dX4_remove_49 ?_
      refine V_ialdN (k := k + 1) dX4_remove_50 ⟨Nat.le_of_ble_eq_true rfl, Nat.le_of_ble_eq_true rfl⟩ rfl (by decide) (by omega) ?_
      refine V_eqI (y := I1 51 (k + 1)) rfl ?_
      refine V_eqI (y := I 51 (k + 1)) (by rw [hI]; exact shl_at _) ?_
      refine V_iastN (k := k) dX4_remove_51 ⟨Nat.le_of_ble_eq_true rfl, Nat.le_of_ble_eq_true rfl⟩ rfl (by decide) (by omega) ?_
      refine V_aload_n dX4_remove_52 rfl ?_
      refine V_getR (b := 52) dX4_remove_53 fX4_18 ⟨Nat.le_of_ble_eq_true rfl, Nat.le_of_ble_eq_true rfl⟩ rfl rfl rfl ?_
      refine V_iload_n dX4_remove_56 rfl ?_
      refine V_aload_n dX4_remove_57 rfl ?_
      refine V_getR (b := 52) dX4_remove_58 fX4_18 ⟨Nat.le_of_ble_eq_true rfl, Nat.le_of_ble_eq_true rfl⟩ rfl rfl rfl ?_
      refine V_iload_n dX4_remove_61 rfl ?_
      refine V_iconst (v := nI 1) dX4_remove_62 rfl ?_
      refine V_iaddN dX4_remove_63 ?_
      refine V_ialdN (k := k + 1) dX4_remove_64 ⟨Nat.le_of_ble_eq_true rfl, Nat.le_of_ble_eq_true rfl⟩ rfl (by decide) (by omega) ?_
      refine V_eqI (y := I1 52 (k + 1)) rfl ?_
      refine V_eqI (y := I 52 (k + 1)) (by rw [hI]; exact shl_at _) ?_
      refine V_iastN (k := k) dX4_remove_65 ⟨Nat.le_of_ble_eq_true rfl, Nat.le_of_ble_eq_true rfl⟩ rfl (by decide) (by omega) ?_
      refine V_iincN (ls' := [(2, .int (nI (k + 1))), (0, .ref 49), (1, .int (nI i))]) (n := 1) dX4_remove_66 rfl rfl (by decide) (by decide) rfl ?_
      refine V_goto (tgt := 6) dX4_remove_69 rfl ?_
      have e : zwr (zwr (zwr I1 50 k (I 50 (k + 1))) 51 k (I 51 (k + 1))) 52 k (I 52 (k + 1)) = frem I i (k + 1) := by
        rw [hI]
        funext a
        by_cases h50 : a = 50
        · subst h50; exact shl_s (I 50) hik
        by_cases h51 : a = 51
        · subst h51; exact shl_s (I 51) hik
        by_cases h52 : a = 52
        · subst h52; exact shl_s (I 52) hik
        simp [frem, zup, zwr, h50, h51, h52]
      refine V_sub2 (ls' := [(0, .ref 49), (1, .int (nI i)), (2, .int (nI (k + 1)))]) (List.forall_mem_cons.mpr ⟨rfl, List.forall_mem_cons.mpr ⟨rfl, List.forall_mem_cons.mpr ⟨rfl, fun _ h => absurd h List.not_mem_nil⟩⟩⟩) ?_
      exact ih (k + 1) _ e (by omega) (by omega) (by omega)

set_option maxRecDepth 100000 in
set_option maxHeartbeats 4000000 in
theorem c_remove4 {G : zG} {I : zI} {J : zJ} {m : Nat} {sd xs ys : Nat → Nat} {px py : Nat} (hF : fdX I m sd xs ys px py) {i : Nat} (hi : i < m) : zK G mX4_remove 1 [.ref 49, .int (nI i)] zsh I J (zA2 (fun I' J' => I' = zup (frem I i (m - 1)) 49 (upd (I 49) 3 (nI (m - 1))) ∧ J = J')) := by
  refine zK_of kX4_remove.2.2.2.2.1 (Nat.le_of_ble_eq_true rfl) ?_
  show V G mX4_remove 1 _ 0 [(0, .ref 49), (1, .int (nI i))] [] (0, 0) zsh I J
  obtain ⟨hm, hm12, hk, hpx, hpx9, hpy, hpy9⟩ := id hF
  refine V_iconst (v := nI 0) dX4_remove_0 rfl ?_
  refine V_iload_n dX4_remove_1 rfl ?_
  refine V_mmaxN dX4_remove_2 jX4_31 (by decide) (Nat.le_of_ble_eq_true rfl) ⟨Nat.le_of_ble_eq_true rfl, Nat.le_of_ble_eq_true rfl⟩ (by omega) (by omega) ?_
  refine V_eqI (y := nI i) (congrArg nI (Nat.zero_max i)) ?_
  refine V_istore_n (ls' := [(2, .int (nI i)), (0, .ref 49), (1, .int (nI i))]) dX4_remove_5 (by decide) rfl ?_
  refine V_sub2 (ls' := [(0, .ref 49), (1, .int (nI i)), (2, .int (nI i))]) (List.forall_mem_cons.mpr ⟨rfl, List.forall_mem_cons.mpr ⟨rfl, List.forall_mem_cons.mpr ⟨rfl, fun _ h => absurd h List.not_mem_nil⟩⟩⟩) ?_
  exact lp_remove hF hi (m + 1) i I (by simp only [frem, shl_0]; funext a; simp only [zup]; (repeat' split) <;> simp_all) (Nat.le_refl _) (by omega) (by omega)

