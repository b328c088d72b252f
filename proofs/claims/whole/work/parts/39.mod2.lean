/-! THE MODEL: its field -/
theorem subI {a b : Nat} (ha : a < 2 ^ 30) (hb : b < 2 ^ 30) : (nI a - nI b).toInt = (a : Int) - b := by
  rw [Int32.toInt_sub, nI_toInt (by omega), nI_toInt (by omega)]
  exact Int.bmod_eq_of_le (by omega) (by omega)
def fdM (I : zI) (m : Nat) (sd xs ys : Nat → Nat) (px py : Nat) : Prop := I 62 56 = nI m ∧ m ≤ 12 ∧ (∀ k, k < m → (I 97 k = nI (sd k) ∧ sd k ≤ 1) ∧ (I 98 k = nI (xs k) ∧ xs k ≤ 99) ∧ (I 99 k = nI (ys k) ∧ ys k ≤ 99)) ∧ I 62 57 = nI px ∧ px ≤ 99 ∧ I 62 58 = nI py ∧ py ≤ 99
/-- of those that count the first with the least -/
def fnS (f : Nat → Nat) (sel : Nat → Bool) : Nat → Option Nat
  | 0 => none
  | k + 1 => if sel k = true then (match fnS f sel k with
    | none => some k
    | some j => if f k < f j then some k else some j) else fnS f sel k
theorem fnS_0 {f : Nat → Nat} {sel : Nat → Bool} {k : Nat} (h : ¬ sel k = true) : fnS f sel (k + 1) = fnS f sel k := if_neg h
theorem fnS_1 {f : Nat → Nat} {sel : Nat → Bool} {k : Nat} (h : sel k = true) (h2 : fnS f sel k = none) : fnS f sel (k + 1) = some k := by
  unfold fnS
  rw [if_pos h, h2]
theorem fnS_2 {f : Nat → Nat} {sel : Nat → Bool} {k j : Nat} (h : sel k = true) (h2 : fnS f sel k = some j) : fnS f sel (k + 1) = if f k < f j then some k else some j := by
  conv => lhs; unfold fnS
  rw [if_pos h, h2]
theorem fnS_b {f : Nat → Nat} : ∀ k, fnS f (fun _ => true) k = fnb f k
  | 0 => rfl
  | k + 1 => by
    have e := fnS_b (f := f) k
    unfold fnS fnb
    rw [if_pos rfl, e]
    cases fnb f k <;> rfl
def nOf (f : Nat → Nat) (r : Option Nat) : Nat := match r with
  | none => 1000000000
  | some j => f j
theorem fnS_ok {f : Nat → Nat} {sel : Nat → Bool} {m : Nat} (hf : ∀ i, i < m → f i < 20000) : ∀ k, k ≤ m → (fnS f sel k = none → fnear f sel k = 20000) ∧ ∀ j, fnS f sel k = some j → j < k ∧ fnear f sel k = f j
  | 0, _ => ⟨fun _ => rfl, fun j h => absurd h (by simp [fnS])⟩
  | k + 1, hkm => by
    obtain ⟨h1, h2⟩ := fnS_ok (sel := sel) hf k (by omega)
    by_cases hs : sel k = true
    · have e : fnear f sel (k + 1) = min (fnear f sel k) (f k) := if_pos hs
      cases hr : fnS f sel k with
      | none =>
        rw [fnS_1 hs hr]
        refine ⟨fun h => absurd h (by simp), fun j h => ?_⟩
        injection h with h
        subst h
        have := hf k (by omega)
        rw [e, h1 hr]
        omega
      | some i =>
        obtain ⟨h3, h4⟩ := h2 i hr
        rw [fnS_2 hs hr, e, h4]
        by_cases hlt : f k < f i
        · rw [if_pos hlt]
          refine ⟨fun h => absurd h (by simp), fun j h => ?_⟩
          injection h with h
          subst h
          omega
        · rw [if_neg hlt]
          refine ⟨fun h => absurd h (by simp), fun j h => ?_⟩
          injection h with h
          subst h
          omega
    · rw [fnS_0 hs]
      have e : fnear f sel (k + 1) = fnear f sel k := if_neg hs
      rw [e]
      exact ⟨h1, fun j h => ⟨by have := (h2 j h).1; omega, (h2 j h).2⟩⟩
theorem nOf_e {f : Nat → Nat} {sel : Nat → Bool} {m : Nat} (hf : ∀ i, i < m → f i < 20000) : nOf f (fnS f sel m) = if fnear f sel m = 20000 then 1000000000 else fnear f sel m := by
  obtain ⟨h1, h2⟩ := fnS_ok (sel := sel) hf m (Nat.le_refl _)
  cases hr : fnS f sel m with
  | none => rw [if_pos (h1 hr)]; rfl
  | some j =>
    have := hf j (h2 j hr).1
    rw [(h2 j hr).2, if_neg (by omega)]
    rfl
theorem fnear_le {f : Nat → Nat} {sel : Nat → Bool} : ∀ k i, i < k → sel i = true → fnear f sel k ≤ f i
  | 0, i, h, _ => absurd h (Nat.not_lt_zero _)
  | k + 1, i, h, hs => by
    by_cases hk : sel k = true
    · have e : fnear f sel (k + 1) = min (fnear f sel k) (f k) := if_pos hk
      rw [e]
      by_cases hik : i = k
      · subst hik; omega
      · have := fnear_le (f := f) k i (by omega) hs; omega
    · have e : fnear f sel (k + 1) = fnear f sel k := if_neg hk
      rw [e]
      have hik : i ≠ k := fun h => hk (h ▸ hs)
      exact fnear_le (f := f) k i (by omega) hs
theorem fcnt_0 {p : Nat → Bool} : ∀ k, (∀ i, i < k → p i = false) → fcnt p k = 0
  | 0, _ => rfl
  | k + 1, h => by
    unfold fcnt
    rw [if_neg (by rw [h k (by omega)]; decide)]
    exact fcnt_0 k (fun i hi => h i (by omega))
theorem fpts_eq {f sd : Nat → Nat} {m : Nat} {lo : Int32} (h : fnear f (fsel sd 0 lo) m = fnear f (fsel sd 1 lo) m) : fpts f sd m lo = 0 := by
  unfold fpts
  rw [if_neg (by omega), fcnt_0]
  · rfl
  · intro i hi
    cases hs : fsel sd 1 lo i with
    | false => rfl
    | true =>
      have := fnear_le (f := f) m i hi hs
      rw [Bool.true_and]
      exact decide_eq_false (by omega)
theorem fsq_lt {xs ys : Nat → Nat} {px py m : Nat} (h : ∀ k, k < m → xs k ≤ 99 ∧ ys k ≤ 99) (hx : px ≤ 99) (hy : py ≤ 99) {i : Nat} (hi : i < m) : fsq xs ys px py i < 20000 := by
  obtain ⟨h1, h2⟩ := h i hi
  unfold fsq sqd
  have a1 : (if xs i ≤ px then px - xs i else xs i - px) ≤ 99 := by split <;> omega
  have a2 : (if ys i ≤ py then py - ys i else ys i - py) ≤ 99 := by split <;> omega
  have := Nat.mul_le_mul a1 a1
  have := Nat.mul_le_mul a2 a2
  omega
set_option maxRecDepth 100000 in
set_option maxHeartbeats 4000000 in
theorem w_sizeD {G : zG} {I : zI} {J : zJ} {a b : Nat} (ha : a < 2 ^ 30) (hb : b < 2 ^ 30) : zK G mX12_size 0 [.int (nI a - nI b)] zsh I J (zA0 (.int (nI (if a ≤ b then b - a else a - b))) I J) := by
  refine zK_of kX12_size.2.2.2.2.1 (Nat.le_of_ble_eq_true rfl) ?_
  show V G mX12_size 0 _ 0 [(0, .int (nI a - nI b))] [] (0, 0) zsh I J
  have hsub := subI ha hb
  refine V_iload_n dX12_size_0 rfl ?_
  refine V_if_geZ (tgt := 9) (a := (nI a - nI b).toInt) dX12_size_1 rfl rfl (fun h1 => ?_) (fun h1 => ?_)
  · skip
    refine V_iload_n dX12_size_9 rfl ?_
    exact V_iret ⟨Or.inl rfl, dX12_size_10⟩ ⟨Nat.le_of_ble_eq_true rfl, Nat.le_of_ble_eq_true rfl⟩ ⟨rfl, congrArg (fun z => some (Value.int z)) ((pk_sub (by omega)).trans (congrArg nI (by split <;> omega))), rfl, rfl⟩
  · skip
    refine V_iload_n dX12_size_4 rfl ?_
    refine V_ineg dX12_size_5 ?_
    refine V_goto (tgt := 10) dX12_size_6 rfl ?_
    exact V_iret ⟨Or.inl rfl, dX12_size_10⟩ ⟨Nat.le_of_ble_eq_true rfl, Nat.le_of_ble_eq_true rfl⟩ ⟨rfl, congrArg (fun z => some (Value.int z)) ((Int32.neg_sub).trans ((pk_sub (by omega)).trans (congrArg nI (if_pos (show a ≤ b by omega)).symm))), rfl, rfl⟩

set_option maxRecDepth 100000 in
set_option maxHeartbeats 4000000 in
theorem w_squareOf {G : zG} {I : zI} {J : zJ} {m : Nat} {sd xs ys : Nat → Nat} {px py : Nat} (hF : fdM I m sd xs ys px py) {i : Nat} (hi : i < m) : zK G mX12_squareOf 1 [.ref 62, .int (nI i)] zsh I J (zA0 (.int (nI (fsq xs ys px py i))) I J) := by
  refine zK_of kX12_squareOf.2.2.2.2.1 (Nat.le_of_ble_eq_true rfl) ?_
  show V G mX12_squareOf 1 _ 0 [(0, .ref 62), (1, .int (nI i))] [] (0, 0) zsh I J
  have hm12 := hF.2.1
  have hpx9 := hF.2.2.2.2.1
  have hpy9 := hF.2.2.2.2.2.2
  have hx9 := (hF.2.2.1 i hi).2.1.2
  have hy9 := (hF.2.2.1 i hi).2.2.2
  refine V_aload_n dX12_squareOf_0 rfl ?_
  refine V_getR (b := 98) dX12_squareOf_1 fX12_118 ⟨Nat.le_of_ble_eq_true rfl, Nat.le_of_ble_eq_true rfl⟩ rfl rfl rfl ?_
  refine V_iload_n dX12_squareOf_4 rfl ?_
  refine V_ialdN (k := i) dX12_squareOf_5 ⟨Nat.le_of_ble_eq_true rfl, Nat.le_of_ble_eq_true rfl⟩ rfl (by decide) (by omega) ?_
  refine V_eqI (y := nI (xs i)) (hF.2.2.1 _ (by omega)).2.1.1 ?_
  refine V_aload_n dX12_squareOf_6 rfl ?_
  refine V_getI dX12_squareOf_7 fX12_149 ⟨Nat.le_of_ble_eq_true rfl, Nat.le_of_ble_eq_true rfl⟩ rfl rfl ?_
  refine V_eqI (y := nI px) hF.2.2.2.1 ?_
  refine V_isub dX12_squareOf_10 ?_
  refine V_callS (As := [.int (nI (xs i) - nI px)]) (st := []) dX12_squareOf_11 kX12_size lX12_472 (by decide) rfl rfl (Nat.le_of_ble_eq_true rfl) ⟨Nat.le_of_ble_eq_true rfl, Nat.le_of_ble_eq_true rfl⟩ (w_sizeD (by omega) (by omega)) ?_
  rintro _ _ _ _ ⟨rfl, rfl, rfl, rfl⟩
  refine V_aload_n dX12_squareOf_14 rfl ?_
  refine V_getR (b := 98) dX12_squareOf_15 fX12_118 ⟨Nat.le_of_ble_eq_true rfl, Nat.le_of_ble_eq_true rfl⟩ rfl rfl rfl ?_
  refine V_iload_n dX12_squareOf_18 rfl ?_
  refine V_ialdN (k := i) dX12_squareOf_19 ⟨Nat.le_of_ble_eq_true rfl, Nat.le_of_ble_eq_true rfl⟩ rfl (by decide) (by omega) ?_
  refine V_eqI (y := nI (xs i)) (hF.2.2.1 _ (by omega)).2.1.1 ?_
  refine V_aload_n dX12_squareOf_20 rfl ?_
  refine V_getI dX12_squareOf_21 fX12_149 ⟨Nat.le_of_ble_eq_true rfl, Nat.le_of_ble_eq_true rfl⟩ rfl rfl ?_
  refine V_eqI (y := nI px) hF.2.2.2.1 ?_
  refine V_isub dX12_squareOf_24 ?_
  refine V_callS (As := [.int (nI (xs i) - nI px)]) (st := [.int (nI (if xs i ≤ px then px - xs i else xs i - px))]) dX12_squareOf_25 kX12_size lX12_472 (by decide) rfl rfl (Nat.le_of_ble_eq_true rfl) ⟨Nat.le_of_ble_eq_true rfl, Nat.le_of_ble_eq_true rfl⟩ (w_sizeD (by omega) (by omega)) ?_
  rintro _ _ _ _ ⟨rfl, rfl, rfl, rfl⟩
  refine V_imulN dX12_squareOf_28 ?_
  refine V_aload_n dX12_squareOf_29 rfl ?_
  refine V_getR (b := 99) dX12_squareOf_30 fX12_121 ⟨Nat.le_of_ble_eq_true rfl, Nat.le_of_ble_eq_true rfl⟩ rfl rfl rfl ?_
  refine V_iload_n dX12_squareOf_33 rfl ?_
  refine V_ialdN (k := i) dX12_squareOf_34 ⟨Nat.le_of_ble_eq_true rfl, Nat.le_of_ble_eq_true rfl⟩ rfl (by decide) (by omega) ?_
  refine V_eqI (y := nI (ys i)) (hF.2.2.1 _ (by omega)).2.2.1 ?_
  refine V_aload_n dX12_squareOf_35 rfl ?_
  refine V_getI dX12_squareOf_36 fX12_152 ⟨Nat.le_of_ble_eq_true rfl, Nat.le_of_ble_eq_true rfl⟩ rfl rfl ?_
  refine V_eqI (y := nI py) hF.2.2.2.2.2.1 ?_
  refine V_isub dX12_squareOf_39 ?_
  refine V_callS (As := [.int (nI (ys i) - nI py)]) (st := [.int (nI ((if xs i ≤ px then px - xs i else xs i - px) * (if xs i ≤ px then px - xs i else xs i - px)))]) dX12_squareOf_40 kX12_size lX12_472 (by decide) rfl rfl (Nat.le_of_ble_eq_true rfl) ⟨Nat.le_of_ble_eq_true rfl, Nat.le_of_ble_eq_true rfl⟩ (w_sizeD (by omega) (by omega)) ?_
  rintro _ _ _ _ ⟨rfl, rfl, rfl, rfl⟩
  refine V_aload_n dX12_squareOf_43 rfl ?_
  refine V_getR (b := 99) dX12_squareOf_44 fX12_121 ⟨Nat.le_of_ble_eq_true rfl, Nat.le_of_ble_eq_true rfl⟩ rfl rfl rfl ?_
  refine V_iload_n dX12_squareOf_47 rfl ?_
  refine V_ialdN (k := i) dX12_squareOf_48 ⟨Nat.le_of_ble_eq_true rfl, Nat.le_of_ble_eq_true rfl⟩ rfl (by decide) (by omega) ?_
  refine V_eqI (y := nI (ys i)) (hF.2.2.1 _ (by omega)).2.2.1 ?_
  refine V_aload_n dX12_squareOf_49 rfl ?_
  refine V_getI dX12_squareOf_50 fX12_152 ⟨Nat.le_of_ble_eq_true rfl, Nat.le_of_ble_eq_true rfl⟩ rfl rfl ?_
  refine V_eqI (y := nI py) hF.2.2.2.2.2.1 ?_
  refine V_isub dX12_squareOf_53 ?_
  refine V_callS (As := [.int (nI (ys i) - nI py)]) (st := [.int (nI (if ys i ≤ py then py - ys i else ys i - py)), .int (nI ((if xs i ≤ px then px - xs i else xs i - px) * (if xs i ≤ px then px - xs i else xs i - px)))]) dX12_squareOf_54 kX12_size lX12_472 (by decide) rfl rfl (Nat.le_of_ble_eq_true rfl) ⟨Nat.le_of_ble_eq_true rfl, Nat.le_of_ble_eq_true rfl⟩ (w_sizeD (by omega) (by omega)) ?_
  rintro _ _ _ _ ⟨rfl, rfl, rfl, rfl⟩
  refine V_imulN dX12_squareOf_57 ?_
  refine V_iaddN dX12_squareOf_58 ?_
  exact V_iret ⟨Or.inl rfl, dX12_squareOf_59⟩ ⟨Nat.le_of_ble_eq_true rfl, Nat.le_of_ble_eq_true rfl⟩ ⟨rfl, rfl, rfl, rfl⟩

theorem fnS_ok' {f : Nat → Nat} {sel : Nat → Bool} {m : Nat} (hf : ∀ i, i < m → f i < 20000) : ∀ k, k ≤ m → ∀ j, fnS f sel k = some j → j < m ∧ f j < 20000
  | 0, _, j, h => absurd h (by simp [fnS])
  | k + 1, hk, j, h => by
    have ih := fnS_ok' (sel := sel) hf k (by omega)
    by_cases hs : sel k = true
    · cases hr : fnS f sel k with
      | none =>
        rw [fnS_1 hs hr] at h
        injection h with h
        subst h
        exact ⟨by omega, hf _ (by omega)⟩
      | some i =>
        rw [fnS_2 hs hr] at h
        split at h
        · injection h with h
          subst h
          exact ⟨by omega, hf _ (by omega)⟩
        · injection h with h
          subst h
          exact ih _ hr
    · rw [fnS_0 hs] at h
      exact ih j h
set_option maxRecDepth 100000 in
set_option maxHeartbeats 4000000 in
theorem lp_nearS {G : zG} {I : zI} {J : zJ} {m : Nat} {sd xs ys : Nat → Nat} {px py : Nat} (hF : fdM I m sd xs ys px py) {s : Nat} (hs : s ≤ 1) {lo : Int32} : ∀ n k, k + n = m → V G mX12_nearest 2 (zA0 (.int (pen (fnS (fsq xs ys px py) (fsel sd s lo) m))) I J) 5 [(0, .ref 62), (1, .int (nI s)), (2, .int lo), (3, .int (pen (fnS (fsq xs ys px py) (fsel sd s lo) k))), (4, .int (nI k))] [] (0, 0) zsh I J := by
  have hm12 := hF.2.1
  have hpx9 := hF.2.2.2.2.1
  have hpy9 := hF.2.2.2.2.2.2
  have hsq : ∀ i, i < m → fsq xs ys px py i < 20000 := fun i hi => fsq_lt (fun k hk => ⟨(hF.2.2.1 k hk).2.1.2, (hF.2.2.1 k hk).2.2.2⟩) hpx9 hpy9 hi
  intro n
  induction n with
  | zero =>
    intro k hk
    refine V_iload dX12_nearest_5 rfl ?_
    refine V_aload_n dX12_nearest_7 rfl ?_
    refine V_getI dX12_nearest_8 fX12_469 ⟨Nat.le_of_ble_eq_true rfl, Nat.le_of_ble_eq_true rfl⟩ rfl rfl ?_
    refine V_eqI (y := nI m) hF.1 ?_
    refine V_icmp_geN (tgt := 67) dX12_nearest_11 rfl (by omega) (by omega) (fun _ => ?_) (fun h => absurd h (by omega))
    refine V_iload_n dX12_nearest_67 rfl ?_
    exact V_iret ⟨Or.inl rfl, dX12_nearest_68⟩ ⟨Nat.le_of_ble_eq_true rfl, Nat.le_of_ble_eq_true rfl⟩ ⟨rfl, by rw [show k = m by omega], rfl, rfl⟩
  | succ n ih =>
    intro k hk
    refine V_iload dX12_nearest_5 rfl ?_
    refine V_aload_n dX12_nearest_7 rfl ?_
    refine V_getI dX12_nearest_8 fX12_469 ⟨Nat.le_of_ble_eq_true rfl, Nat.le_of_ble_eq_true rfl⟩ rfl rfl ?_
    refine V_eqI (y := nI m) hF.1 ?_
    refine V_icmp_geN (tgt := 67) dX12_nearest_11 rfl (by omega) (by omega) (fun h => absurd h (by omega)) (fun _ => ?_)
    refine V_iload dX12_nearest_14 rfl ?_
    refine V_iload_n dX12_nearest_16 rfl ?_
    refine V_icmp_eq (tgt := 61) dX12_nearest_17 rfl (fun h17 => ?_) (fun h17 => ?_)
    · skip
      refine V_iincN (ls' := [(4, .int (nI (k + 1))), (0, .ref 62), (1, .int (nI s)), (2, .int lo), (3, .int (pen (fnS (fsq xs ys px py) (fsel sd s lo) k)))]) (n := 1) dX12_nearest_61 rfl rfl (by decide) (by decide) rfl ?_
      refine V_goto (tgt := 5) dX12_nearest_64 rfl ?_
      have e9 : fnS (fsq xs ys px py) (fsel sd s lo) (k + 1) = (fnS (fsq xs ys px py) (fsel sd s lo) k) := fnS_0 (by unfold fsel; rw [decide_eq_true h17]; simp)
      refine V_sub2 (ls' := [(0, .ref 62), (1, .int (nI s)), (2, .int lo), (3, .int (pen (fnS (fsq xs ys px py) (fsel sd s lo) (k + 1)))), (4, .int (nI (k + 1)))]) (List.forall_mem_cons.mpr ⟨rfl, List.forall_mem_cons.mpr ⟨rfl, List.forall_mem_cons.mpr ⟨rfl, List.forall_mem_cons.mpr ⟨(congrArg (fun z => some (Value.int z)) (congrArg pen e9).symm), List.forall_mem_cons.mpr ⟨rfl, fun _ h => absurd h List.not_mem_nil⟩⟩⟩⟩⟩) ?_
      exact ih (k + 1) (by omega)
    · skip
      refine V_iload_n dX12_nearest_20 rfl ?_
      refine V_iconst (v := (-1)) dX12_nearest_21 rfl ?_
      refine V_icmp_eq (tgt := 39) dX12_nearest_22 rfl (fun h => absurd h (nI_ne_neg (by (try have := (hF.2.2.1 k (by omega)).1.2); (try have := hj.1); omega) (by decide))) (fun _ => ?_)
      refine V_aload_n dX12_nearest_25 rfl ?_
      refine V_getR (b := 97) dX12_nearest_26 fX12_115 ⟨Nat.le_of_ble_eq_true rfl, Nat.le_of_ble_eq_true rfl⟩ rfl rfl rfl ?_
      refine V_iload dX12_nearest_29 rfl ?_
      refine V_ialdN (k := k) dX12_nearest_31 ⟨Nat.le_of_ble_eq_true rfl, Nat.le_of_ble_eq_true rfl⟩ rfl (by decide) (by (try have := (hF.2.2.1 k (by omega)).1.2); (try have := hj.1); omega) ?_
      refine V_eqI (y := nI (sd k)) (hF.2.2.1 _ (by omega)).1.1 ?_
      refine V_iload_n dX12_nearest_32 rfl ?_
      refine V_icmp_eqN (tgt := 39) dX12_nearest_33 rfl (by (try have := (hF.2.2.1 k (by omega)).1.2); (try have := hj.1); omega) (by (try have := (hF.2.2.1 k (by omega)).1.2); (try have := hj.1); omega) (fun h33 => ?_) (fun h33 => ?_)
      · skip
        have hsel : (fsel sd s lo) k = true := by unfold fsel; rw [decide_eq_false h17, decide_eq_true (show sd k = s from h33)]; rfl
        rcases hb : fnS (fsq xs ys px py) (fsel sd s lo) k with _ | j
        · skip
          refine V_sub2 (ls' := [(0, .ref 62), (1, .int (nI s)), (2, .int lo), (3, .int (-1)), (4, .int (nI k))]) (List.forall_mem_cons.mpr ⟨rfl, List.forall_mem_cons.mpr ⟨rfl, List.forall_mem_cons.mpr ⟨rfl, List.forall_mem_cons.mpr ⟨rfl, List.forall_mem_cons.mpr ⟨rfl, fun _ h => absurd h List.not_mem_nil⟩⟩⟩⟩⟩) ?_
          refine V_iload_n dX12_nearest_39 rfl ?_
          refine V_iconst (v := (-1)) dX12_nearest_40 rfl ?_
          refine V_icmp_eq (tgt := 58) dX12_nearest_41 rfl (fun _ => ?_) (fun h => absurd h (by decide))
          refine V_iload dX12_nearest_58 rfl ?_
          refine V_istore_n (ls' := [(3, .int (nI k)), (0, .ref 62), (1, .int (nI s)), (2, .int lo), (4, .int (nI k))]) dX12_nearest_60 (by decide) rfl ?_
          refine V_iincN (ls' := [(4, .int (nI (k + 1))), (3, .int (nI k)), (0, .ref 62), (1, .int (nI s)), (2, .int lo)]) (n := 1) dX12_nearest_61 rfl rfl (by decide) (by decide) rfl ?_
          refine V_goto (tgt := 5) dX12_nearest_64 rfl ?_
          have e9 : fnS (fsq xs ys px py) (fsel sd s lo) (k + 1) = (some k) := fnS_1 hsel hb
          refine V_sub2 (ls' := [(0, .ref 62), (1, .int (nI s)), (2, .int lo), (3, .int (pen (fnS (fsq xs ys px py) (fsel sd s lo) (k + 1)))), (4, .int (nI (k + 1)))]) (List.forall_mem_cons.mpr ⟨rfl, List.forall_mem_cons.mpr ⟨rfl, List.forall_mem_cons.mpr ⟨rfl, List.forall_mem_cons.mpr ⟨(congrArg (fun z => some (Value.int z)) (congrArg pen e9).symm), List.forall_mem_cons.mpr ⟨rfl, fun _ h => absurd h List.not_mem_nil⟩⟩⟩⟩⟩) ?_
          exact ih (k + 1) (by omega)
        · skip
          have hj := (fnS_ok' hsq k (by omega) j hb)
          refine V_sub2 (ls' := [(0, .ref 62), (1, .int (nI s)), (2, .int lo), (3, .int (nI j)), (4, .int (nI k))]) (List.forall_mem_cons.mpr ⟨rfl, List.forall_mem_cons.mpr ⟨rfl, List.forall_mem_cons.mpr ⟨rfl, List.forall_mem_cons.mpr ⟨rfl, List.forall_mem_cons.mpr ⟨rfl, fun _ h => absurd h List.not_mem_nil⟩⟩⟩⟩⟩) ?_
          refine V_iload_n dX12_nearest_39 rfl ?_
          refine V_iconst (v := (-1)) dX12_nearest_40 rfl ?_
          refine V_icmp_eq (tgt := 58) dX12_nearest_41 rfl (fun h => absurd h (nI_ne_neg (by (try have := (hF.2.2.1 k (by omega)).1.2); (try have := hj.1); omega) (by decide))) (fun _ => ?_)
          refine V_aload_n dX12_nearest_44 rfl ?_
          refine V_iload dX12_nearest_45 rfl ?_
          refine V_callV (As := [.int (nI k)]) (st := []) (a := 62) dX12_nearest_47 kX12_squareOf lX12_475 (by decide) rfl rfl (Nat.le_of_ble_eq_true rfl) ⟨Nat.le_of_ble_eq_true rfl, Nat.le_of_ble_eq_true rfl⟩ ⟨Nat.le_of_ble_eq_true rfl, Nat.le_of_ble_eq_true rfl⟩ rfl ⟨rfl, by decide⟩ (w_squareOf hF (by omega)) ?_
          rintro _ _ _ _ ⟨rfl, rfl, rfl, rfl⟩
          refine V_aload_n dX12_nearest_50 rfl ?_
          refine V_iload_n dX12_nearest_51 rfl ?_
          refine V_callV (As := [.int (nI j)]) (st := [.int (nI (fsq xs ys px py k))]) (a := 62) dX12_nearest_52 kX12_squareOf lX12_475 (by decide) rfl rfl (Nat.le_of_ble_eq_true rfl) ⟨Nat.le_of_ble_eq_true rfl, Nat.le_of_ble_eq_true rfl⟩ ⟨Nat.le_of_ble_eq_true rfl, Nat.le_of_ble_eq_true rfl⟩ rfl ⟨rfl, by decide⟩ (w_squareOf hF (by omega)) ?_
          rintro _ _ _ _ ⟨rfl, rfl, rfl, rfl⟩
          refine V_icmp_geN (tgt := 61) dX12_nearest_55 rfl (by have := hsq k (by omega); omega) (by have := hsq j hj.1; omega) (fun h55 => ?_) (fun h55 => ?_)
          · skip
            have hlt : ¬ fsq xs ys px py k < fsq xs ys px py j := by omega
            refine V_iincN (ls' := [(4, .int (nI (k + 1))), (0, .ref 62), (1, .int (nI s)), (2, .int lo), (3, .int (nI j))]) (n := 1) dX12_nearest_61 rfl rfl (by decide) (by decide) rfl ?_
            refine V_goto (tgt := 5) dX12_nearest_64 rfl ?_
            have e9 : fnS (fsq xs ys px py) (fsel sd s lo) (k + 1) = (some j) := (fnS_2 hsel hb).trans (if_neg hlt)
            refine V_sub2 (ls' := [(0, .ref 62), (1, .int (nI s)), (2, .int lo), (3, .int (pen (fnS (fsq xs ys px py) (fsel sd s lo) (k + 1)))), (4, .int (nI (k + 1)))]) (List.forall_mem_cons.mpr ⟨rfl, List.forall_mem_cons.mpr ⟨rfl, List.forall_mem_cons.mpr ⟨rfl, List.forall_mem_cons.mpr ⟨(congrArg (fun z => some (Value.int z)) (congrArg pen e9).symm), List.forall_mem_cons.mpr ⟨rfl, fun _ h => absurd h List.not_mem_nil⟩⟩⟩⟩⟩) ?_
            exact ih (k + 1) (by omega)
          · skip
            have hlt : fsq xs ys px py k < fsq xs ys px py j := by omega
            refine V_iload dX12_nearest_58 rfl ?_
            refine V_istore_n (ls' := [(3, .int (nI k)), (0, .ref 62), (1, .int (nI s)), (2, .int lo), (4, .int (nI k))]) dX12_nearest_60 (by decide) rfl ?_
            refine V_iincN (ls' := [(4, .int (nI (k + 1))), (3, .int (nI k)), (0, .ref 62), (1, .int (nI s)), (2, .int lo)]) (n := 1) dX12_nearest_61 rfl rfl (by decide) (by decide) rfl ?_
            refine V_goto (tgt := 5) dX12_nearest_64 rfl ?_
            have e9 : fnS (fsq xs ys px py) (fsel sd s lo) (k + 1) = (some k) := (fnS_2 hsel hb).trans (if_pos hlt)
            refine V_sub2 (ls' := [(0, .ref 62), (1, .int (nI s)), (2, .int lo), (3, .int (pen (fnS (fsq xs ys px py) (fsel sd s lo) (k + 1)))), (4, .int (nI (k + 1)))]) (List.forall_mem_cons.mpr ⟨rfl, List.forall_mem_cons.mpr ⟨rfl, List.forall_mem_cons.mpr ⟨rfl, List.forall_mem_cons.mpr ⟨(congrArg (fun z => some (Value.int z)) (congrArg pen e9).symm), List.forall_mem_cons.mpr ⟨rfl, fun _ h => absurd h List.not_mem_nil⟩⟩⟩⟩⟩) ?_
            exact ih (k + 1) (by omega)
      · skip
        refine V_goto (tgt := 61) dX12_nearest_36 rfl ?_
        refine V_iincN (ls' := [(4, .int (nI (k + 1))), (0, .ref 62), (1, .int (nI s)), (2, .int lo), (3, .int (pen (fnS (fsq xs ys px py) (fsel sd s lo) k)))]) (n := 1) dX12_nearest_61 rfl rfl (by decide) (by decide) rfl ?_
        refine V_goto (tgt := 5) dX12_nearest_64 rfl ?_
        have e9 : fnS (fsq xs ys px py) (fsel sd s lo) (k + 1) = (fnS (fsq xs ys px py) (fsel sd s lo) k) := fnS_0 (by unfold fsel; rw [decide_eq_false (show ¬ sd k = s from h33), Bool.and_false]; decide)
        refine V_sub2 (ls' := [(0, .ref 62), (1, .int (nI s)), (2, .int lo), (3, .int (pen (fnS (fsq xs ys px py) (fsel sd s lo) (k + 1)))), (4, .int (nI (k + 1)))]) (List.forall_mem_cons.mpr ⟨rfl, List.forall_mem_cons.mpr ⟨rfl, List.forall_mem_cons.mpr ⟨rfl, List.forall_mem_cons.mpr ⟨(congrArg (fun z => some (Value.int z)) (congrArg pen e9).symm), List.forall_mem_cons.mpr ⟨rfl, fun _ h => absurd h List.not_mem_nil⟩⟩⟩⟩⟩) ?_
        exact ih (k + 1) (by omega)

set_option maxRecDepth 100000 in
set_option maxHeartbeats 4000000 in
theorem w_nearS {G : zG} {I : zI} {J : zJ} {m : Nat} {sd xs ys : Nat → Nat} {px py : Nat} (hF : fdM I m sd xs ys px py) {s : Nat} (hs : s ≤ 1) {lo : Int32} : zK G mX12_nearest 2 [.ref 62, .int (nI s), .int lo] zsh I J (zA0 (.int (pen (fnS (fsq xs ys px py) (fsel sd s lo) m))) I J) := by
  refine zK_of kX12_nearest.2.2.2.2.1 (Nat.le_of_ble_eq_true rfl) ?_
  show V G mX12_nearest 2 _ 0 [(0, .ref 62), (1, .int (nI s)), (2, .int lo)] [] (0, 0) zsh I J
  refine V_iconst (v := (-1)) dX12_nearest_0 rfl ?_
  refine V_istore_n (ls' := [(3, .int (-1)), (0, .ref 62), (1, .int (nI s)), (2, .int lo)]) dX12_nearest_1 (by decide) rfl ?_
  refine V_iconst (v := nI 0) dX12_nearest_2 rfl ?_
  refine V_istore (ls' := [(4, .int (nI 0)), (3, .int (-1)), (0, .ref 62), (1, .int (nI s)), (2, .int lo)]) dX12_nearest_3 (by decide) rfl ?_
  refine V_sub2 (ls' := [(0, .ref 62), (1, .int (nI s)), (2, .int lo), (3, .int (pen (fnS (fsq xs ys px py) (fsel sd s lo) 0))), (4, .int (nI 0))]) (List.forall_mem_cons.mpr ⟨rfl, List.forall_mem_cons.mpr ⟨rfl, List.forall_mem_cons.mpr ⟨rfl, List.forall_mem_cons.mpr ⟨(congrArg (fun z => some (Value.int z)) rfl), List.forall_mem_cons.mpr ⟨rfl, fun _ h => absurd h List.not_mem_nil⟩⟩⟩⟩⟩) ?_
  exact lp_nearS hF hs m 0 (Nat.zero_add _)

set_option maxRecDepth 100000 in
set_option maxHeartbeats 4000000 in
theorem lp_nearA {G : zG} {I : zI} {J : zJ} {m : Nat} {sd xs ys : Nat → Nat} {px py : Nat} (hF : fdM I m sd xs ys px py) : ∀ n k, k + n = m → V G mX12_nearest 2 (zA0 (.int (pen (fnS (fsq xs ys px py) (fun _ => true) m))) I J) 5 [(0, .ref 62), (1, .int (-1)), (2, .int (-1)), (3, .int (pen (fnS (fsq xs ys px py) (fun _ => true) k))), (4, .int (nI k))] [] (0, 0) zsh I J := by
  have hm12 := hF.2.1
  have hpx9 := hF.2.2.2.2.1
  have hpy9 := hF.2.2.2.2.2.2
  have hsq : ∀ i, i < m → fsq xs ys px py i < 20000 := fun i hi => fsq_lt (fun k hk => ⟨(hF.2.2.1 k hk).2.1.2, (hF.2.2.1 k hk).2.2.2⟩) hpx9 hpy9 hi
  intro n
  induction n with
  | zero =>
    intro k hk
    refine V_iload dX12_nearest_5 rfl ?_
    refine V_aload_n dX12_nearest_7 rfl ?_
    refine V_getI dX12_nearest_8 fX12_469 ⟨Nat.le_of_ble_eq_true rfl, Nat.le_of_ble_eq_true rfl⟩ rfl rfl ?_
    refine V_eqI (y := nI m) hF.1 ?_
    refine V_icmp_geN (tgt := 67) dX12_nearest_11 rfl (by omega) (by omega) (fun _ => ?_) (fun h => absurd h (by omega))
    refine V_iload_n dX12_nearest_67 rfl ?_
    exact V_iret ⟨Or.inl rfl, dX12_nearest_68⟩ ⟨Nat.le_of_ble_eq_true rfl, Nat.le_of_ble_eq_true rfl⟩ ⟨rfl, by rw [show k = m by omega], rfl, rfl⟩
  | succ n ih =>
    intro k hk
    refine V_iload dX12_nearest_5 rfl ?_
    refine V_aload_n dX12_nearest_7 rfl ?_
    refine V_getI dX12_nearest_8 fX12_469 ⟨Nat.le_of_ble_eq_true rfl, Nat.le_of_ble_eq_true rfl⟩ rfl rfl ?_
    refine V_eqI (y := nI m) hF.1 ?_
    refine V_icmp_geN (tgt := 67) dX12_nearest_11 rfl (by omega) (by omega) (fun h => absurd h (by omega)) (fun _ => ?_)
    refine V_iload dX12_nearest_14 rfl ?_
    refine V_iload_n dX12_nearest_16 rfl ?_
    refine V_icmp_eq (tgt := 61) dX12_nearest_17 rfl (fun h => absurd h (nI_ne_neg (by (try have := (hF.2.2.1 k (by omega)).1.2); (try have := hj.1); omega) (by decide))) (fun _ => ?_)
    refine V_iload_n dX12_nearest_20 rfl ?_
    refine V_iconst (v := (-1)) dX12_nearest_21 rfl ?_
    refine V_icmp_eq (tgt := 39) dX12_nearest_22 rfl (fun _ => ?_) (fun h => absurd h (by decide))
    have hsel : (fun _ => true) k = true := rfl
    rcases hb : fnS (fsq xs ys px py) (fun _ => true) k with _ | j
    · skip
      refine V_sub2 (ls' := [(0, .ref 62), (1, .int (-1)), (2, .int (-1)), (3, .int (-1)), (4, .int (nI k))]) (List.forall_mem_cons.mpr ⟨rfl, List.forall_mem_cons.mpr ⟨rfl, List.forall_mem_cons.mpr ⟨rfl, List.forall_mem_cons.mpr ⟨rfl, List.forall_mem_cons.mpr ⟨rfl, fun _ h => absurd h List.not_mem_nil⟩⟩⟩⟩⟩) ?_
      refine V_iload_n dX12_nearest_39 rfl ?_
      refine V_iconst (v := (-1)) dX12_nearest_40 rfl ?_
      refine V_icmp_eq (tgt := 58) dX12_nearest_41 rfl (fun _ => ?_) (fun h => absurd h (by decide))
      refine V_iload dX12_nearest_58 rfl ?_
      refine V_istore_n (ls' := [(3, .int (nI k)), (0, .ref 62), (1, .int (-1)), (2, .int (-1)), (4, .int (nI k))]) dX12_nearest_60 (by decide) rfl ?_
      refine V_iincN (ls' := [(4, .int (nI (k + 1))), (3, .int (nI k)), (0, .ref 62), (1, .int (-1)), (2, .int (-1))]) (n := 1) dX12_nearest_61 rfl rfl (by decide) (by decide) rfl ?_
      refine V_goto (tgt := 5) dX12_nearest_64 rfl ?_
      have e9 : fnS (fsq xs ys px py) (fun _ => true) (k + 1) = (some k) := fnS_1 hsel hb
      refine V_sub2 (ls' := [(0, .ref 62), (1, .int (-1)), (2, .int (-1)), (3, .int (pen (fnS (fsq xs ys px py) (fun _ => true) (k + 1)))), (4, .int (nI (k + 1)))]) (List.forall_mem_cons.mpr ⟨rfl, List.forall_mem_cons.mpr ⟨rfl, List.forall_mem_cons.mpr ⟨rfl, List.forall_mem_cons.mpr ⟨(congrArg (fun z => some (Value.int z)) (congrArg pen e9).symm), List.forall_mem_cons.mpr ⟨rfl, fun _ h => absurd h List.not_mem_nil⟩⟩⟩⟩⟩) ?_
      exact ih (k + 1) (by omega)
    · skip
      have hj := (fnS_ok' hsq k (by omega) j hb)
      refine V_sub2 (ls' := [(0, .ref 62), (1, .int (-1)), (2, .int (-1)), (3, .int (nI j)), (4, .int (nI k))]) (List.forall_mem_cons.mpr ⟨rfl, List.forall_mem_cons.mpr ⟨rfl, List.forall_mem_cons.mpr ⟨rfl, List.forall_mem_cons.mpr ⟨rfl, List.forall_mem_cons.mpr ⟨rfl, fun _ h => absurd h List.not_mem_nil⟩⟩⟩⟩⟩) ?_
      refine V_iload_n dX12_nearest_39 rfl ?_
      refine V_iconst (v := (-1)) dX12_nearest_40 rfl ?_
      refine V_icmp_eq (tgt := 58) dX12_nearest_41 rfl (fun h => absurd h (nI_ne_neg (by (try have := (hF.2.2.1 k (by omega)).1.2); (try have := hj.1); omega) (by decide))) (fun _ => ?_)
      refine V_aload_n dX12_nearest_44 rfl ?_
      refine V_iload dX12_nearest_45 rfl ?_
      refine V_callV (As := [.int (nI k)]) (st := []) (a := 62) dX12_nearest_47 kX12_squareOf lX12_475 (by decide) rfl rfl (Nat.le_of_ble_eq_true rfl) ⟨Nat.le_of_ble_eq_true rfl, Nat.le_of_ble_eq_true rfl⟩ ⟨Nat.le_of_ble_eq_true rfl, Nat.le_of_ble_eq_true rfl⟩ rfl ⟨rfl, by decide⟩ (w_squareOf hF (by omega)) ?_
      rintro _ _ _ _ ⟨rfl, rfl, rfl, rfl⟩
      refine V_aload_n dX12_nearest_50 rfl ?_
      refine V_iload_n dX12_nearest_51 rfl ?_
      refine V_callV (As := [.int (nI j)]) (st := [.int (nI (fsq xs ys px py k))]) (a := 62) dX12_nearest_52 kX12_squareOf lX12_475 (by decide) rfl rfl (Nat.le_of_ble_eq_true rfl) ⟨Nat.le_of_ble_eq_true rfl, Nat.le_of_ble_eq_true rfl⟩ ⟨Nat.le_of_ble_eq_true rfl, Nat.le_of_ble_eq_true rfl⟩ rfl ⟨rfl, by decide⟩ (w_squareOf hF (by omega)) ?_
      rintro _ _ _ _ ⟨rfl, rfl, rfl, rfl⟩
      refine V_icmp_geN (tgt := 61) dX12_nearest_55 rfl (by have := hsq k (by omega); omega) (by have := hsq j hj.1; omega) (fun h55 => ?_) (fun h55 => ?_)
      · skip
        have hlt : ¬ fsq xs ys px py k < fsq xs ys px py j := by omega
        refine V_iincN (ls' := [(4, .int (nI (k + 1))), (0, .ref 62), (1, .int (-1)), (2, .int (-1)), (3, .int (nI j))]) (n := 1) dX12_nearest_61 rfl rfl (by decide) (by decide) rfl ?_
        refine V_goto (tgt := 5) dX12_nearest_64 rfl ?_
        have e9 : fnS (fsq xs ys px py) (fun _ => true) (k + 1) = (some j) := (fnS_2 hsel hb).trans (if_neg hlt)
        refine V_sub2 (ls' := [(0, .ref 62), (1, .int (-1)), (2, .int (-1)), (3, .int (pen (fnS (fsq xs ys px py) (fun _ => true) (k + 1)))), (4, .int (nI (k + 1)))]) (List.forall_mem_cons.mpr ⟨rfl, List.forall_mem_cons.mpr ⟨rfl, List.forall_mem_cons.mpr ⟨rfl, List.forall_mem_cons.mpr ⟨(congrArg (fun z => some (Value.int z)) (congrArg pen e9).symm), List.forall_mem_cons.mpr ⟨rfl, fun _ h => absurd h List.not_mem_nil⟩⟩⟩⟩⟩) ?_
        exact ih (k + 1) (by omega)
      · skip
        have hlt : fsq xs ys px py k < fsq xs ys px py j := by omega
        refine V_iload dX12_nearest_58 rfl ?_
        refine V_istore_n (ls' := [(3, .int (nI k)), (0, .ref 62), (1, .int (-1)), (2, .int (-1)), (4, .int (nI k))]) dX12_nearest_60 (by decide) rfl ?_
        refine V_iincN (ls' := [(4, .int (nI (k + 1))), (3, .int (nI k)), (0, .ref 62), (1, .int (-1)), (2, .int (-1))]) (n := 1) dX12_nearest_61 rfl rfl (by decide) (by decide) rfl ?_
        refine V_goto (tgt := 5) dX12_nearest_64 rfl ?_
        have e9 : fnS (fsq xs ys px py) (fun _ => true) (k + 1) = (some k) := (fnS_2 hsel hb).trans (if_pos hlt)
        refine V_sub2 (ls' := [(0, .ref 62), (1, .int (-1)), (2, .int (-1)), (3, .int (pen (fnS (fsq xs ys px py) (fun _ => true) (k + 1)))), (4, .int (nI (k + 1)))]) (List.forall_mem_cons.mpr ⟨rfl, List.forall_mem_cons.mpr ⟨rfl, List.forall_mem_cons.mpr ⟨rfl, List.forall_mem_cons.mpr ⟨(congrArg (fun z => some (Value.int z)) (congrArg pen e9).symm), List.forall_mem_cons.mpr ⟨rfl, fun _ h => absurd h List.not_mem_nil⟩⟩⟩⟩⟩) ?_
        exact ih (k + 1) (by omega)

set_option maxRecDepth 100000 in
set_option maxHeartbeats 4000000 in
theorem w_nearA {G : zG} {I : zI} {J : zJ} {m : Nat} {sd xs ys : Nat → Nat} {px py : Nat} (hF : fdM I m sd xs ys px py) : zK G mX12_nearest 2 [.ref 62, .int (-1), .int (-1)] zsh I J (zA0 (.int (pen (fnS (fsq xs ys px py) (fun _ => true) m))) I J) := by
  refine zK_of kX12_nearest.2.2.2.2.1 (Nat.le_of_ble_eq_true rfl) ?_
  show V G mX12_nearest 2 _ 0 [(0, .ref 62), (1, .int (-1)), (2, .int (-1))] [] (0, 0) zsh I J
  refine V_iconst (v := (-1)) dX12_nearest_0 rfl ?_
  refine V_istore_n (ls' := [(3, .int (-1)), (0, .ref 62), (1, .int (-1)), (2, .int (-1))]) dX12_nearest_1 (by decide) rfl ?_
  refine V_iconst (v := nI 0) dX12_nearest_2 rfl ?_
  refine V_istore (ls' := [(4, .int (nI 0)), (3, .int (-1)), (0, .ref 62), (1, .int (-1)), (2, .int (-1))]) dX12_nearest_3 (by decide) rfl ?_
  refine V_sub2 (ls' := [(0, .ref 62), (1, .int (-1)), (2, .int (-1)), (3, .int (pen (fnS (fsq xs ys px py) (fun _ => true) 0))), (4, .int (nI 0))]) (List.forall_mem_cons.mpr ⟨rfl, List.forall_mem_cons.mpr ⟨rfl, List.forall_mem_cons.mpr ⟨rfl, List.forall_mem_cons.mpr ⟨(congrArg (fun z => some (Value.int z)) rfl), List.forall_mem_cons.mpr ⟨rfl, fun _ h => absurd h List.not_mem_nil⟩⟩⟩⟩⟩) ?_
  exact lp_nearA hF m 0 (Nat.zero_add _)

set_option maxRecDepth 100000 in
set_option maxHeartbeats 4000000 in
theorem w_nearestOf {G : zG} {I : zI} {J : zJ} {m : Nat} {sd xs ys : Nat → Nat} {px py : Nat} (hF : fdM I m sd xs ys px py) {s : Nat} (hs : s ≤ 1) {lo : Int32} : zK G mX12_nearestOf 3 [.ref 62, .int (nI s), .int lo] zsh I J (zA0 (.int (nI (nOf (fsq xs ys px py) (fnS (fsq xs ys px py) (fsel sd s lo) m)))) I J) := by
  refine zK_of kX12_nearestOf.2.2.2.2.1 (Nat.le_of_ble_eq_true rfl) ?_
  show V G mX12_nearestOf 3 _ 0 [(0, .ref 62), (1, .int (nI s)), (2, .int lo)] [] (0, 0) zsh I J
  have hm12 := hF.2.1
  have hpx9 := hF.2.2.2.2.1
  have hpy9 := hF.2.2.2.2.2.2
  have hsq : ∀ i, i < m → fsq xs ys px py i < 20000 := fun i hi => fsq_lt (fun k hk => ⟨(hF.2.2.1 k hk).2.1.2, (hF.2.2.1 k hk).2.2.2⟩) hpx9 hpy9 hi
  rcases hb : fnS (fsq xs ys px py) (fsel sd s lo) m with _ | j
  · skip
    refine V_aload_n dX12_nearestOf_0 rfl ?_
    refine V_iload_n dX12_nearestOf_1 rfl ?_
    refine V_iload_n dX12_nearestOf_2 rfl ?_
    refine V_callV (As := [.int (nI s), .int lo]) (st := []) (a := 62) dX12_nearestOf_3 kX12_nearest lX12_478 (by decide) rfl rfl (Nat.le_of_ble_eq_true rfl) ⟨Nat.le_of_ble_eq_true rfl, Nat.le_of_ble_eq_true rfl⟩ ⟨Nat.le_of_ble_eq_true rfl, Nat.le_of_ble_eq_true rfl⟩ rfl ⟨rfl, by decide⟩ (w_nearS hF hs) ?_
    rintro _ _ _ _ ⟨rfl, rfl, rfl, rfl⟩
    refine V_eqI (y := (-1)) (by rw [hb]; rfl) ?_
    refine V_istore_n (ls' := [(3, .int (-1)), (0, .ref 62), (1, .int (nI s)), (2, .int lo)]) dX12_nearestOf_6 (by decide) rfl ?_
    refine V_iload_n dX12_nearestOf_7 rfl ?_
    refine V_iconst (v := (-1)) dX12_nearestOf_8 rfl ?_
    refine V_icmp_ne (tgt := 18) dX12_nearestOf_9 rfl (fun h => absurd h (by decide)) (fun _ => ?_)
    refine V_ldcw dX12_nearestOf_12 qX12_465 ?_
    refine V_eqI (y := nI 1000000000) rfl ?_
    refine V_goto (tgt := 23) dX12_nearestOf_15 rfl ?_
    exact V_iret ⟨Or.inl rfl, dX12_nearestOf_23⟩ ⟨Nat.le_of_ble_eq_true rfl, Nat.le_of_ble_eq_true rfl⟩ ⟨rfl, rfl, rfl, rfl⟩
  · have hj := fnS_ok' hsq m (Nat.le_refl _) j hb
    refine V_aload_n dX12_nearestOf_0 rfl ?_
    refine V_iload_n dX12_nearestOf_1 rfl ?_
    refine V_iload_n dX12_nearestOf_2 rfl ?_
    refine V_callV (As := [.int (nI s), .int lo]) (st := []) (a := 62) dX12_nearestOf_3 kX12_nearest lX12_478 (by decide) rfl rfl (Nat.le_of_ble_eq_true rfl) ⟨Nat.le_of_ble_eq_true rfl, Nat.le_of_ble_eq_true rfl⟩ ⟨Nat.le_of_ble_eq_true rfl, Nat.le_of_ble_eq_true rfl⟩ rfl ⟨rfl, by decide⟩ (w_nearS hF hs) ?_
    rintro _ _ _ _ ⟨rfl, rfl, rfl, rfl⟩
    refine V_eqI (y := nI j) (by rw [hb]; rfl) ?_
    refine V_istore_n (ls' := [(3, .int (nI j)), (0, .ref 62), (1, .int (nI s)), (2, .int lo)]) dX12_nearestOf_6 (by decide) rfl ?_
    refine V_iload_n dX12_nearestOf_7 rfl ?_
    refine V_iconst (v := (-1)) dX12_nearestOf_8 rfl ?_
    refine V_icmp_ne (tgt := 18) dX12_nearestOf_9 rfl (fun _ => ?_) (fun h => absurd h (nI_ne_neg (by have := hj.1; omega) (by decide)))
    refine V_aload_n dX12_nearestOf_18 rfl ?_
    refine V_iload_n dX12_nearestOf_19 rfl ?_
    refine V_callV (As := [.int (nI j)]) (st := []) (a := 62) dX12_nearestOf_20 kX12_squareOf lX12_475 (by decide) rfl rfl (Nat.le_of_ble_eq_true rfl) ⟨Nat.le_of_ble_eq_true rfl, Nat.le_of_ble_eq_true rfl⟩ ⟨Nat.le_of_ble_eq_true rfl, Nat.le_of_ble_eq_true rfl⟩ rfl ⟨rfl, by decide⟩ (w_squareOf hF hj.1) ?_
    rintro _ _ _ _ ⟨rfl, rfl, rfl, rfl⟩
    exact V_iret ⟨Or.inl rfl, dX12_nearestOf_23⟩ ⟨Nat.le_of_ble_eq_true rfl, Nat.le_of_ble_eq_true rfl⟩ ⟨rfl, rfl, rfl, rfl⟩

set_option maxRecDepth 100000 in
set_option maxHeartbeats 4000000 in
theorem lp_but0 {G : zG} {I : zI} {J : zJ} {m : Nat} {sd xs ys : Nat → Nat} {px py : Nat} (hF : fdM I m sd xs ys px py) {lo : Int32} {A B a b : Nat} (ha : fnear (fsq xs ys px py) (fsel sd 0 lo) m = a) (hb : fnear (fsq xs ys px py) (fsel sd 1 lo) m = b) (hA : a = 20000 ∧ A = 1000000000 ∨ a < 20000 ∧ A = a) (hB : b = 20000 ∧ B = 1000000000 ∨ b < 20000 ∧ B = b) (ha2 : a ≤ 20000) (hb2 : b ≤ 20000) (hAB : A < B) : ∀ n i, i + n = m → V G mX12_pointsBut 4 (zA0 (.int (fpts (fsq xs ys px py) sd m lo)) I J) 27 [(0, .ref 62), (1, .int lo), (2, .int (nI A)), (3, .int (nI B)), (4, .int (nI (fcnt (fun i => fsel sd 0 lo i && decide (fsq xs ys px py i < max a b)) i))), (5, .int (nI i))] [] (0, 0) zsh I J := by
  have hm12 := hF.2.1
  have hpx9 := hF.2.2.2.2.1
  have hpy9 := hF.2.2.2.2.2.2
  have hsq : ∀ i, i < m → fsq xs ys px py i < 20000 := fun i hi => fsq_lt (fun k hk => ⟨(hF.2.2.1 k hk).2.1.2, (hF.2.2.1 k hk).2.2.2⟩) hpx9 hpy9 hi
  intro n
  induction n with
  | zero =>
    intro i hk
    refine V_iload dX12_pointsBut_27 rfl ?_
    refine V_aload_n dX12_pointsBut_29 rfl ?_
    refine V_getI dX12_pointsBut_30 fX12_469 ⟨Nat.le_of_ble_eq_true rfl, Nat.le_of_ble_eq_true rfl⟩ rfl rfl ?_
    refine V_eqI (y := nI m) hF.1 ?_
    refine V_icmp_geN (tgt := 88) dX12_pointsBut_33 rfl (by omega) (by omega) (fun _ => ?_) (fun h => absurd h (by omega))
    refine V_iload_n dX12_pointsBut_88 rfl ?_
    refine V_iload_n dX12_pointsBut_89 rfl ?_
    refine V_icmp_geN (tgt := 98) dX12_pointsBut_90 rfl (by omega) (by omega) (fun h => absurd h (by omega)) (fun _ => ?_)
    refine V_iload dX12_pointsBut_93 rfl ?_
    refine V_goto (tgt := 101) dX12_pointsBut_95 rfl ?_
    exact V_iret ⟨Or.inl rfl, dX12_pointsBut_101⟩ ⟨Nat.le_of_ble_eq_true rfl, Nat.le_of_ble_eq_true rfl⟩ ⟨rfl, congrArg (fun z => some (Value.int z)) (by unfold fpts; rw [ha, hb, if_pos (show a < b by omega), show i = m by omega]), rfl, rfl⟩
  | succ n ih =>
    intro i hk
    have hq9 := hsq i (by omega)
    have hs9 := (hF.2.2.1 i (by omega)).1.2
    refine V_iload dX12_pointsBut_27 rfl ?_
    refine V_aload_n dX12_pointsBut_29 rfl ?_
    refine V_getI dX12_pointsBut_30 fX12_469 ⟨Nat.le_of_ble_eq_true rfl, Nat.le_of_ble_eq_true rfl⟩ rfl rfl ?_
    refine V_eqI (y := nI m) hF.1 ?_
    refine V_icmp_geN (tgt := 88) dX12_pointsBut_33 rfl (by omega) (by omega) (fun h => absurd h (by omega)) (fun _ => ?_)
    refine V_iload dX12_pointsBut_36 rfl ?_
    refine V_iload_n dX12_pointsBut_38 rfl ?_
    refine V_icmp_eq (tgt := 82) dX12_pointsBut_39 rfl (fun h39 => ?_) (fun h39 => ?_)
    · skip
      refine V_iincN (ls' := [(5, .int (nI (i + 1))), (0, .ref 62), (1, .int lo), (2, .int (nI A)), (3, .int (nI B)), (4, .int (nI (fcnt (fun i => fsel sd 0 lo i && decide (fsq xs ys px py i < max a b)) i)))]) (n := 1) dX12_pointsBut_82 rfl rfl (by decide) (by decide) rfl ?_
      refine V_goto (tgt := 27) dX12_pointsBut_85 rfl ?_
      have e9 : fcnt (fun i => fsel sd 0 lo i && decide (fsq xs ys px py i < max a b)) (i + 1) = fcnt (fun i => fsel sd 0 lo i && decide (fsq xs ys px py i < max a b)) i := if_neg (by show ¬ (fsel sd 0 lo i && decide (fsq xs ys px py i < max a b)) = true; unfold fsel; rw [decide_eq_true h39]; simp)
      refine V_sub2 (ls' := [(0, .ref 62), (1, .int lo), (2, .int (nI A)), (3, .int (nI B)), (4, .int (nI (fcnt (fun i => fsel sd 0 lo i && decide (fsq xs ys px py i < max a b)) (i + 1)))), (5, .int (nI (i + 1)))]) (List.forall_mem_cons.mpr ⟨rfl, List.forall_mem_cons.mpr ⟨rfl, List.forall_mem_cons.mpr ⟨rfl, List.forall_mem_cons.mpr ⟨rfl, List.forall_mem_cons.mpr ⟨(congrArg (fun z => some (Value.int z)) (congrArg nI e9.symm)), List.forall_mem_cons.mpr ⟨rfl, fun _ h => absurd h List.not_mem_nil⟩⟩⟩⟩⟩⟩) ?_
      exact ih (i + 1) (by omega)
    · skip
      refine V_aload_n dX12_pointsBut_42 rfl ?_
      refine V_getR (b := 97) dX12_pointsBut_43 fX12_115 ⟨Nat.le_of_ble_eq_true rfl, Nat.le_of_ble_eq_true rfl⟩ rfl rfl rfl ?_
      refine V_iload dX12_pointsBut_46 rfl ?_
      refine V_ialdN (k := i) dX12_pointsBut_48 ⟨Nat.le_of_ble_eq_true rfl, Nat.le_of_ble_eq_true rfl⟩ rfl (by decide) (by have h1 := hF.2.1; have hc := @fcnt_le (fun i => fsel sd 0 lo i && decide (fsq xs ys px py i < max a b)) i; (try have h2 := hsq i (by omega)); (try have h3 := (hF.2.2.1 i (by omega)).1.2); omega) ?_
      refine V_eqI (y := nI (sd i)) (hF.2.2.1 _ (by omega)).1.1 ?_
      refine V_iload_n dX12_pointsBut_49 rfl ?_
      refine V_iload_n dX12_pointsBut_50 rfl ?_
      refine V_icmp_geN (tgt := 58) dX12_pointsBut_51 rfl (by omega) (by omega) (fun h => absurd h (by omega)) (fun _ => ?_)
      refine V_iconst (v := nI 0) dX12_pointsBut_54 rfl ?_
      refine V_goto (tgt := 59) dX12_pointsBut_55 rfl ?_
      refine V_icmp_neN (tgt := 82) dX12_pointsBut_59 rfl (by omega) (by omega) (fun h59 => ?_) (fun h59 => ?_)
      · skip
        refine V_iincN (ls' := [(5, .int (nI (i + 1))), (0, .ref 62), (1, .int lo), (2, .int (nI A)), (3, .int (nI B)), (4, .int (nI (fcnt (fun i => fsel sd 0 lo i && decide (fsq xs ys px py i < max a b)) i)))]) (n := 1) dX12_pointsBut_82 rfl rfl (by decide) (by decide) rfl ?_
        refine V_goto (tgt := 27) dX12_pointsBut_85 rfl ?_
        have e9 : fcnt (fun i => fsel sd 0 lo i && decide (fsq xs ys px py i < max a b)) (i + 1) = fcnt (fun i => fsel sd 0 lo i && decide (fsq xs ys px py i < max a b)) i := if_neg (by show ¬ (fsel sd 0 lo i && decide (fsq xs ys px py i < max a b)) = true; unfold fsel; rw [decide_eq_false (show ¬ sd i = 0 from h59), Bool.and_false]; simp)
        refine V_sub2 (ls' := [(0, .ref 62), (1, .int lo), (2, .int (nI A)), (3, .int (nI B)), (4, .int (nI (fcnt (fun i => fsel sd 0 lo i && decide (fsq xs ys px py i < max a b)) (i + 1)))), (5, .int (nI (i + 1)))]) (List.forall_mem_cons.mpr ⟨rfl, List.forall_mem_cons.mpr ⟨rfl, List.forall_mem_cons.mpr ⟨rfl, List.forall_mem_cons.mpr ⟨rfl, List.forall_mem_cons.mpr ⟨(congrArg (fun z => some (Value.int z)) (congrArg nI e9.symm)), List.forall_mem_cons.mpr ⟨rfl, fun _ h => absurd h List.not_mem_nil⟩⟩⟩⟩⟩⟩) ?_
        exact ih (i + 1) (by omega)
      · skip
        refine V_aload_n dX12_pointsBut_62 rfl ?_
        refine V_iload dX12_pointsBut_63 rfl ?_
        refine V_callV (As := [.int (nI i)]) (st := []) (a := 62) dX12_pointsBut_65 kX12_squareOf lX12_475 (by decide) rfl rfl (Nat.le_of_ble_eq_true rfl) ⟨Nat.le_of_ble_eq_true rfl, Nat.le_of_ble_eq_true rfl⟩ ⟨Nat.le_of_ble_eq_true rfl, Nat.le_of_ble_eq_true rfl⟩ rfl ⟨rfl, by decide⟩ (w_squareOf hF (by omega)) ?_
        rintro _ _ _ _ ⟨rfl, rfl, rfl, rfl⟩
        refine V_iload_n dX12_pointsBut_68 rfl ?_
        refine V_iload_n dX12_pointsBut_69 rfl ?_
        refine V_callS (As := [.int (nI A), .int (nI B)]) (st := [.int (nI (fsq xs ys px py i))]) dX12_pointsBut_70 kX12_max lX12_445 (by decide) rfl rfl (Nat.le_of_ble_eq_true rfl) ⟨Nat.le_of_ble_eq_true rfl, Nat.le_of_ble_eq_true rfl⟩ (w_maxN (by omega) (by omega)) ?_
        rintro _ _ _ _ ⟨rfl, rfl, rfl, rfl⟩
        refine V_icmp_geN (tgt := 82) dX12_pointsBut_73 rfl (by have h1 := hF.2.1; have hc := @fcnt_le (fun i => fsel sd 0 lo i && decide (fsq xs ys px py i < max a b)) i; (try have h2 := hsq i (by omega)); (try have h3 := (hF.2.2.1 i (by omega)).1.2); omega) (by have h1 := hF.2.1; have hc := @fcnt_le (fun i => fsel sd 0 lo i && decide (fsq xs ys px py i < max a b)) i; (try have h2 := hsq i (by omega)); (try have h3 := (hF.2.2.1 i (by omega)).1.2); omega) (fun h73 => ?_) (fun h73 => ?_)
        · skip
          refine V_iincN (ls' := [(5, .int (nI (i + 1))), (0, .ref 62), (1, .int lo), (2, .int (nI A)), (3, .int (nI B)), (4, .int (nI (fcnt (fun i => fsel sd 0 lo i && decide (fsq xs ys px py i < max a b)) i)))]) (n := 1) dX12_pointsBut_82 rfl rfl (by decide) (by decide) rfl ?_
          refine V_goto (tgt := 27) dX12_pointsBut_85 rfl ?_
          have e9 : fcnt (fun i => fsel sd 0 lo i && decide (fsq xs ys px py i < max a b)) (i + 1) = fcnt (fun i => fsel sd 0 lo i && decide (fsq xs ys px py i < max a b)) i := if_neg (by show ¬ (fsel sd 0 lo i && decide (fsq xs ys px py i < max a b)) = true; rw [decide_eq_false (show ¬ fsq xs ys px py i < max a b by omega), Bool.and_false]; decide)
          refine V_sub2 (ls' := [(0, .ref 62), (1, .int lo), (2, .int (nI A)), (3, .int (nI B)), (4, .int (nI (fcnt (fun i => fsel sd 0 lo i && decide (fsq xs ys px py i < max a b)) (i + 1)))), (5, .int (nI (i + 1)))]) (List.forall_mem_cons.mpr ⟨rfl, List.forall_mem_cons.mpr ⟨rfl, List.forall_mem_cons.mpr ⟨rfl, List.forall_mem_cons.mpr ⟨rfl, List.forall_mem_cons.mpr ⟨(congrArg (fun z => some (Value.int z)) (congrArg nI e9.symm)), List.forall_mem_cons.mpr ⟨rfl, fun _ h => absurd h List.not_mem_nil⟩⟩⟩⟩⟩⟩) ?_
          exact ih (i + 1) (by omega)
        · skip
          refine V_iload dX12_pointsBut_76 rfl ?_
          refine V_iconst (v := nI 1) dX12_pointsBut_78 rfl ?_
          refine V_iaddN dX12_pointsBut_79 ?_
          refine V_istore (ls' := [(4, .int (nI ((fcnt (fun i => fsel sd 0 lo i && decide (fsq xs ys px py i < max a b)) i) + 1))), (0, .ref 62), (1, .int lo), (2, .int (nI A)), (3, .int (nI B)), (5, .int (nI i))]) dX12_pointsBut_80 (by decide) rfl ?_
          refine V_iincN (ls' := [(5, .int (nI (i + 1))), (4, .int (nI ((fcnt (fun i => fsel sd 0 lo i && decide (fsq xs ys px py i < max a b)) i) + 1))), (0, .ref 62), (1, .int lo), (2, .int (nI A)), (3, .int (nI B))]) (n := 1) dX12_pointsBut_82 rfl rfl (by decide) (by decide) rfl ?_
          refine V_goto (tgt := 27) dX12_pointsBut_85 rfl ?_
          have e9 : fcnt (fun i => fsel sd 0 lo i && decide (fsq xs ys px py i < max a b)) (i + 1) = (fcnt (fun i => fsel sd 0 lo i && decide (fsq xs ys px py i < max a b)) i) + 1 := if_pos (by show (fsel sd 0 lo i && decide (fsq xs ys px py i < max a b)) = true; unfold fsel; rw [decide_eq_false h39, decide_eq_true (show sd i = 0 from h59), decide_eq_true (show fsq xs ys px py i < max a b by omega)]; rfl)
          refine V_sub2 (ls' := [(0, .ref 62), (1, .int lo), (2, .int (nI A)), (3, .int (nI B)), (4, .int (nI (fcnt (fun i => fsel sd 0 lo i && decide (fsq xs ys px py i < max a b)) (i + 1)))), (5, .int (nI (i + 1)))]) (List.forall_mem_cons.mpr ⟨rfl, List.forall_mem_cons.mpr ⟨rfl, List.forall_mem_cons.mpr ⟨rfl, List.forall_mem_cons.mpr ⟨rfl, List.forall_mem_cons.mpr ⟨(congrArg (fun z => some (Value.int z)) (congrArg nI e9.symm)), List.forall_mem_cons.mpr ⟨rfl, fun _ h => absurd h List.not_mem_nil⟩⟩⟩⟩⟩⟩) ?_
          exact ih (i + 1) (by omega)

set_option maxRecDepth 100000 in
set_option maxHeartbeats 4000000 in
theorem lp_but1 {G : zG} {I : zI} {J : zJ} {m : Nat} {sd xs ys : Nat → Nat} {px py : Nat} (hF : fdM I m sd xs ys px py) {lo : Int32} {A B a b : Nat} (ha : fnear (fsq xs ys px py) (fsel sd 0 lo) m = a) (hb : fnear (fsq xs ys px py) (fsel sd 1 lo) m = b) (hA : a = 20000 ∧ A = 1000000000 ∨ a < 20000 ∧ A = a) (hB : b = 20000 ∧ B = 1000000000 ∨ b < 20000 ∧ B = b) (ha2 : a ≤ 20000) (hb2 : b ≤ 20000) (hAB : B < A) : ∀ n i, i + n = m → V G mX12_pointsBut 4 (zA0 (.int (fpts (fsq xs ys px py) sd m lo)) I J) 27 [(0, .ref 62), (1, .int lo), (2, .int (nI A)), (3, .int (nI B)), (4, .int (nI (fcnt (fun i => fsel sd 1 lo i && decide (fsq xs ys px py i < max a b)) i))), (5, .int (nI i))] [] (0, 0) zsh I J := by
  have hm12 := hF.2.1
  have hpx9 := hF.2.2.2.2.1
  have hpy9 := hF.2.2.2.2.2.2
  have hsq : ∀ i, i < m → fsq xs ys px py i < 20000 := fun i hi => fsq_lt (fun k hk => ⟨(hF.2.2.1 k hk).2.1.2, (hF.2.2.1 k hk).2.2.2⟩) hpx9 hpy9 hi
  intro n
  induction n with
  | zero =>
    intro i hk
    refine V_iload dX12_pointsBut_27 rfl ?_
    refine V_aload_n dX12_pointsBut_29 rfl ?_
    refine V_getI dX12_pointsBut_30 fX12_469 ⟨Nat.le_of_ble_eq_true rfl, Nat.le_of_ble_eq_true rfl⟩ rfl rfl ?_
    refine V_eqI (y := nI m) hF.1 ?_
    refine V_icmp_geN (tgt := 88) dX12_pointsBut_33 rfl (by omega) (by omega) (fun _ => ?_) (fun h => absurd h (by omega))
    refine V_iload_n dX12_pointsBut_88 rfl ?_
    refine V_iload_n dX12_pointsBut_89 rfl ?_
    refine V_icmp_geN (tgt := 98) dX12_pointsBut_90 rfl (by omega) (by omega) (fun _ => ?_) (fun h => absurd h (by omega))
    refine V_iload dX12_pointsBut_98 rfl ?_
    refine V_ineg dX12_pointsBut_100 ?_
    exact V_iret ⟨Or.inl rfl, dX12_pointsBut_101⟩ ⟨Nat.le_of_ble_eq_true rfl, Nat.le_of_ble_eq_true rfl⟩ ⟨rfl, congrArg (fun z => some (Value.int z)) (by unfold fpts; rw [ha, hb, if_neg (show ¬ a < b by omega), show i = m by omega]), rfl, rfl⟩
  | succ n ih =>
    intro i hk
    have hq9 := hsq i (by omega)
    have hs9 := (hF.2.2.1 i (by omega)).1.2
    refine V_iload dX12_pointsBut_27 rfl ?_
    refine V_aload_n dX12_pointsBut_29 rfl ?_
    refine V_getI dX12_pointsBut_30 fX12_469 ⟨Nat.le_of_ble_eq_true rfl, Nat.le_of_ble_eq_true rfl⟩ rfl rfl ?_
    refine V_eqI (y := nI m) hF.1 ?_
    refine V_icmp_geN (tgt := 88) dX12_pointsBut_33 rfl (by omega) (by omega) (fun h => absurd h (by omega)) (fun _ => ?_)
    refine V_iload dX12_pointsBut_36 rfl ?_
    refine V_iload_n dX12_pointsBut_38 rfl ?_
    refine V_icmp_eq (tgt := 82) dX12_pointsBut_39 rfl (fun h39 => ?_) (fun h39 => ?_)
    · skip
      refine V_iincN (ls' := [(5, .int (nI (i + 1))), (0, .ref 62), (1, .int lo), (2, .int (nI A)), (3, .int (nI B)), (4, .int (nI (fcnt (fun i => fsel sd 1 lo i && decide (fsq xs ys px py i < max a b)) i)))]) (n := 1) dX12_pointsBut_82 rfl rfl (by decide) (by decide) rfl ?_
      refine V_goto (tgt := 27) dX12_pointsBut_85 rfl ?_
      have e9 : fcnt (fun i => fsel sd 1 lo i && decide (fsq xs ys px py i < max a b)) (i + 1) = fcnt (fun i => fsel sd 1 lo i && decide (fsq xs ys px py i < max a b)) i := if_neg (by show ¬ (fsel sd 1 lo i && decide (fsq xs ys px py i < max a b)) = true; unfold fsel; rw [decide_eq_true h39]; simp)
      refine V_sub2 (ls' := [(0, .ref 62), (1, .int lo), (2, .int (nI A)), (3, .int (nI B)), (4, .int (nI (fcnt (fun i => fsel sd 1 lo i && decide (fsq xs ys px py i < max a b)) (i + 1)))), (5, .int (nI (i + 1)))]) (List.forall_mem_cons.mpr ⟨rfl, List.forall_mem_cons.mpr ⟨rfl, List.forall_mem_cons.mpr ⟨rfl, List.forall_mem_cons.mpr ⟨rfl, List.forall_mem_cons.mpr ⟨(congrArg (fun z => some (Value.int z)) (congrArg nI e9.symm)), List.forall_mem_cons.mpr ⟨rfl, fun _ h => absurd h List.not_mem_nil⟩⟩⟩⟩⟩⟩) ?_
      exact ih (i + 1) (by omega)
    · skip
      refine V_aload_n dX12_pointsBut_42 rfl ?_
      refine V_getR (b := 97) dX12_pointsBut_43 fX12_115 ⟨Nat.le_of_ble_eq_true rfl, Nat.le_of_ble_eq_true rfl⟩ rfl rfl rfl ?_
      refine V_iload dX12_pointsBut_46 rfl ?_
      refine V_ialdN (k := i) dX12_pointsBut_48 ⟨Nat.le_of_ble_eq_true rfl, Nat.le_of_ble_eq_true rfl⟩ rfl (by decide) (by have h1 := hF.2.1; have hc := @fcnt_le (fun i => fsel sd 1 lo i && decide (fsq xs ys px py i < max a b)) i; (try have h2 := hsq i (by omega)); (try have h3 := (hF.2.2.1 i (by omega)).1.2); omega) ?_
      refine V_eqI (y := nI (sd i)) (hF.2.2.1 _ (by omega)).1.1 ?_
      refine V_iload_n dX12_pointsBut_49 rfl ?_
      refine V_iload_n dX12_pointsBut_50 rfl ?_
      refine V_icmp_geN (tgt := 58) dX12_pointsBut_51 rfl (by omega) (by omega) (fun _ => ?_) (fun h => absurd h (by omega))
      refine V_iconst (v := nI 1) dX12_pointsBut_58 rfl ?_
      refine V_icmp_neN (tgt := 82) dX12_pointsBut_59 rfl (by omega) (by omega) (fun h59 => ?_) (fun h59 => ?_)
      · skip
        refine V_iincN (ls' := [(5, .int (nI (i + 1))), (0, .ref 62), (1, .int lo), (2, .int (nI A)), (3, .int (nI B)), (4, .int (nI (fcnt (fun i => fsel sd 1 lo i && decide (fsq xs ys px py i < max a b)) i)))]) (n := 1) dX12_pointsBut_82 rfl rfl (by decide) (by decide) rfl ?_
        refine V_goto (tgt := 27) dX12_pointsBut_85 rfl ?_
        have e9 : fcnt (fun i => fsel sd 1 lo i && decide (fsq xs ys px py i < max a b)) (i + 1) = fcnt (fun i => fsel sd 1 lo i && decide (fsq xs ys px py i < max a b)) i := if_neg (by show ¬ (fsel sd 1 lo i && decide (fsq xs ys px py i < max a b)) = true; unfold fsel; rw [decide_eq_false (show ¬ sd i = 1 from h59), Bool.and_false]; simp)
        refine V_sub2 (ls' := [(0, .ref 62), (1, .int lo), (2, .int (nI A)), (3, .int (nI B)), (4, .int (nI (fcnt (fun i => fsel sd 1 lo i && decide (fsq xs ys px py i < max a b)) (i + 1)))), (5, .int (nI (i + 1)))]) (List.forall_mem_cons.mpr ⟨rfl, List.forall_mem_cons.mpr ⟨rfl, List.forall_mem_cons.mpr ⟨rfl, List.forall_mem_cons.mpr ⟨rfl, List.forall_mem_cons.mpr ⟨(congrArg (fun z => some (Value.int z)) (congrArg nI e9.symm)), List.forall_mem_cons.mpr ⟨rfl, fun _ h => absurd h List.not_mem_nil⟩⟩⟩⟩⟩⟩) ?_
        exact ih (i + 1) (by omega)
      · skip
        refine V_aload_n dX12_pointsBut_62 rfl ?_
        refine V_iload dX12_pointsBut_63 rfl ?_
        refine V_callV (As := [.int (nI i)]) (st := []) (a := 62) dX12_pointsBut_65 kX12_squareOf lX12_475 (by decide) rfl rfl (Nat.le_of_ble_eq_true rfl) ⟨Nat.le_of_ble_eq_true rfl, Nat.le_of_ble_eq_true rfl⟩ ⟨Nat.le_of_ble_eq_true rfl, Nat.le_of_ble_eq_true rfl⟩ rfl ⟨rfl, by decide⟩ (w_squareOf hF (by omega)) ?_
        rintro _ _ _ _ ⟨rfl, rfl, rfl, rfl⟩
        refine V_iload_n dX12_pointsBut_68 rfl ?_
        refine V_iload_n dX12_pointsBut_69 rfl ?_
        refine V_callS (As := [.int (nI A), .int (nI B)]) (st := [.int (nI (fsq xs ys px py i))]) dX12_pointsBut_70 kX12_max lX12_445 (by decide) rfl rfl (Nat.le_of_ble_eq_true rfl) ⟨Nat.le_of_ble_eq_true rfl, Nat.le_of_ble_eq_true rfl⟩ (w_maxN (by omega) (by omega)) ?_
        rintro _ _ _ _ ⟨rfl, rfl, rfl, rfl⟩
        refine V_icmp_geN (tgt := 82) dX12_pointsBut_73 rfl (by have h1 := hF.2.1; have hc := @fcnt_le (fun i => fsel sd 1 lo i && decide (fsq xs ys px py i < max a b)) i; (try have h2 := hsq i (by omega)); (try have h3 := (hF.2.2.1 i (by omega)).1.2); omega) (by have h1 := hF.2.1; have hc := @fcnt_le (fun i => fsel sd 1 lo i && decide (fsq xs ys px py i < max a b)) i; (try have h2 := hsq i (by omega)); (try have h3 := (hF.2.2.1 i (by omega)).1.2); omega) (fun h73 => ?_) (fun h73 => ?_)
        · skip
          refine V_iincN (ls' := [(5, .int (nI (i + 1))), (0, .ref 62), (1, .int lo), (2, .int (nI A)), (3, .int (nI B)), (4, .int (nI (fcnt (fun i => fsel sd 1 lo i && decide (fsq xs ys px py i < max a b)) i)))]) (n := 1) dX12_pointsBut_82 rfl rfl (by decide) (by decide) rfl ?_
          refine V_goto (tgt := 27) dX12_pointsBut_85 rfl ?_
          have e9 : fcnt (fun i => fsel sd 1 lo i && decide (fsq xs ys px py i < max a b)) (i + 1) = fcnt (fun i => fsel sd 1 lo i && decide (fsq xs ys px py i < max a b)) i := if_neg (by show ¬ (fsel sd 1 lo i && decide (fsq xs ys px py i < max a b)) = true; rw [decide_eq_false (show ¬ fsq xs ys px py i < max a b by omega), Bool.and_false]; decide)
          refine V_sub2 (ls' := [(0, .ref 62), (1, .int lo), (2, .int (nI A)), (3, .int (nI B)), (4, .int (nI (fcnt (fun i => fsel sd 1 lo i && decide (fsq xs ys px py i < max a b)) (i + 1)))), (5, .int (nI (i + 1)))]) (List.forall_mem_cons.mpr ⟨rfl, List.forall_mem_cons.mpr ⟨rfl, List.forall_mem_cons.mpr ⟨rfl, List.forall_mem_cons.mpr ⟨rfl, List.forall_mem_cons.mpr ⟨(congrArg (fun z => some (Value.int z)) (congrArg nI e9.symm)), List.forall_mem_cons.mpr ⟨rfl, fun _ h => absurd h List.not_mem_nil⟩⟩⟩⟩⟩⟩) ?_
          exact ih (i + 1) (by omega)
        · skip
          refine V_iload dX12_pointsBut_76 rfl ?_
          refine V_iconst (v := nI 1) dX12_pointsBut_78 rfl ?_
          refine V_iaddN dX12_pointsBut_79 ?_
          refine V_istore (ls' := [(4, .int (nI ((fcnt (fun i => fsel sd 1 lo i && decide (fsq xs ys px py i < max a b)) i) + 1))), (0, .ref 62), (1, .int lo), (2, .int (nI A)), (3, .int (nI B)), (5, .int (nI i))]) dX12_pointsBut_80 (by decide) rfl ?_
          refine V_iincN (ls' := [(5, .int (nI (i + 1))), (4, .int (nI ((fcnt (fun i => fsel sd 1 lo i && decide (fsq xs ys px py i < max a b)) i) + 1))), (0, .ref 62), (1, .int lo), (2, .int (nI A)), (3, .int (nI B))]) (n := 1) dX12_pointsBut_82 rfl rfl (by decide) (by decide) rfl ?_
          refine V_goto (tgt := 27) dX12_pointsBut_85 rfl ?_
          have e9 : fcnt (fun i => fsel sd 1 lo i && decide (fsq xs ys px py i < max a b)) (i + 1) = (fcnt (fun i => fsel sd 1 lo i && decide (fsq xs ys px py i < max a b)) i) + 1 := if_pos (by show (fsel sd 1 lo i && decide (fsq xs ys px py i < max a b)) = true; unfold fsel; rw [decide_eq_false h39, decide_eq_true (show sd i = 1 from h59), decide_eq_true (show fsq xs ys px py i < max a b by omega)]; rfl)
          refine V_sub2 (ls' := [(0, .ref 62), (1, .int lo), (2, .int (nI A)), (3, .int (nI B)), (4, .int (nI (fcnt (fun i => fsel sd 1 lo i && decide (fsq xs ys px py i < max a b)) (i + 1)))), (5, .int (nI (i + 1)))]) (List.forall_mem_cons.mpr ⟨rfl, List.forall_mem_cons.mpr ⟨rfl, List.forall_mem_cons.mpr ⟨rfl, List.forall_mem_cons.mpr ⟨rfl, List.forall_mem_cons.mpr ⟨(congrArg (fun z => some (Value.int z)) (congrArg nI e9.symm)), List.forall_mem_cons.mpr ⟨rfl, fun _ h => absurd h List.not_mem_nil⟩⟩⟩⟩⟩⟩) ?_
          exact ih (i + 1) (by omega)

set_option maxRecDepth 100000 in
set_option maxHeartbeats 4000000 in
theorem w_pointsBut {G : zG} {I : zI} {J : zJ} {m : Nat} {sd xs ys : Nat → Nat} {px py : Nat} (hF : fdM I m sd xs ys px py) {lo : Int32} : zK G mX12_pointsBut 4 [.ref 62, .int lo] zsh I J (zA0 (.int (fpts (fsq xs ys px py) sd m lo)) I J) := by
  refine zK_of kX12_pointsBut.2.2.2.2.1 (Nat.le_of_ble_eq_true rfl) ?_
  show V G mX12_pointsBut 4 _ 0 [(0, .ref 62), (1, .int lo)] [] (0, 0) zsh I J
  have hm12 := hF.2.1
  have hpx9 := hF.2.2.2.2.1
  have hpy9 := hF.2.2.2.2.2.2
  have hsq : ∀ i, i < m → fsq xs ys px py i < 20000 := fun i hi => fsq_lt (fun k hk => ⟨(hF.2.2.1 k hk).2.1.2, (hF.2.2.1 k hk).2.2.2⟩) hpx9 hpy9 hi
  obtain ⟨A, hAe⟩ : ∃ A, nOf (fsq xs ys px py) (fnS (fsq xs ys px py) (fsel sd 0 lo) m) = A := ⟨_, rfl⟩
  obtain ⟨B, hBe⟩ : ∃ B, nOf (fsq xs ys px py) (fnS (fsq xs ys px py) (fsel sd 1 lo) m) = B := ⟨_, rfl⟩
  obtain ⟨a, ha⟩ : ∃ a, fnear (fsq xs ys px py) (fsel sd 0 lo) m = a := ⟨_, rfl⟩
  obtain ⟨b, hb⟩ : ∃ b, fnear (fsq xs ys px py) (fsel sd 1 lo) m = b := ⟨_, rfl⟩
  have ha2 : a ≤ 20000 := by rw [← ha]; exact fnear_lt m
  have hb2 : b ≤ 20000 := by rw [← hb]; exact fnear_lt m
  have hA : a = 20000 ∧ A = 1000000000 ∨ a < 20000 ∧ A = a := by rw [← hAe, nOf_e hsq, ha]; split <;> omega
  have hB : b = 20000 ∧ B = 1000000000 ∨ b < 20000 ∧ B = b := by rw [← hBe, nOf_e hsq, hb]; split <;> omega
  refine V_aload_n dX12_pointsBut_0 rfl ?_
  refine V_iconst (v := nI 0) dX12_pointsBut_1 rfl ?_
  refine V_iload_n dX12_pointsBut_2 rfl ?_
  refine V_callV (As := [.int (nI 0), .int lo]) (st := []) (a := 62) dX12_pointsBut_3 kX12_nearestOf lX12_481 (by decide) rfl rfl (Nat.le_of_ble_eq_true rfl) ⟨Nat.le_of_ble_eq_true rfl, Nat.le_of_ble_eq_true rfl⟩ ⟨Nat.le_of_ble_eq_true rfl, Nat.le_of_ble_eq_true rfl⟩ rfl ⟨rfl, by decide⟩ (w_nearestOf hF (by decide)) ?_
  rintro _ _ _ _ ⟨rfl, rfl, rfl, rfl⟩
  refine V_eqI (y := nI A) (congrArg nI hAe) ?_
  refine V_istore_n (ls' := [(2, .int (nI A)), (0, .ref 62), (1, .int lo)]) dX12_pointsBut_6 (by decide) rfl ?_
  refine V_aload_n dX12_pointsBut_7 rfl ?_
  refine V_iconst (v := nI 1) dX12_pointsBut_8 rfl ?_
  refine V_iload_n dX12_pointsBut_9 rfl ?_
  refine V_callV (As := [.int (nI 1), .int lo]) (st := []) (a := 62) dX12_pointsBut_10 kX12_nearestOf lX12_481 (by decide) rfl rfl (Nat.le_of_ble_eq_true rfl) ⟨Nat.le_of_ble_eq_true rfl, Nat.le_of_ble_eq_true rfl⟩ ⟨Nat.le_of_ble_eq_true rfl, Nat.le_of_ble_eq_true rfl⟩ rfl ⟨rfl, by decide⟩ (w_nearestOf hF (by decide)) ?_
  rintro _ _ _ _ ⟨rfl, rfl, rfl, rfl⟩
  refine V_eqI (y := nI B) (congrArg nI hBe) ?_
  refine V_istore_n (ls' := [(3, .int (nI B)), (2, .int (nI A)), (0, .ref 62), (1, .int lo)]) dX12_pointsBut_13 (by decide) rfl ?_
  refine V_iload_n dX12_pointsBut_14 rfl ?_
  refine V_iload_n dX12_pointsBut_15 rfl ?_
  refine V_icmp_neN (tgt := 21) dX12_pointsBut_16 rfl (by omega) (by omega) (fun h16 => ?_) (fun h16 => ?_)
  · skip
    refine V_iconst (v := nI 0) dX12_pointsBut_21 rfl ?_
    refine V_istore (ls' := [(4, .int (nI 0)), (3, .int (nI B)), (2, .int (nI A)), (0, .ref 62), (1, .int lo)]) dX12_pointsBut_22 (by decide) rfl ?_
    refine V_iconst (v := nI 0) dX12_pointsBut_24 rfl ?_
    refine V_istore (ls' := [(5, .int (nI 0)), (4, .int (nI 0)), (3, .int (nI B)), (2, .int (nI A)), (0, .ref 62), (1, .int lo)]) dX12_pointsBut_25 (by decide) rfl ?_
    rcases Nat.lt_or_ge A B with hAB | hAB
    · refine V_sub2 (ls' := [(0, .ref 62), (1, .int lo), (2, .int (nI A)), (3, .int (nI B)), (4, .int (nI (fcnt (fun i => fsel sd 0 lo i && decide (fsq xs ys px py i < max a b)) 0))), (5, .int (nI 0))]) (List.forall_mem_cons.mpr ⟨rfl, List.forall_mem_cons.mpr ⟨rfl, List.forall_mem_cons.mpr ⟨rfl, List.forall_mem_cons.mpr ⟨rfl, List.forall_mem_cons.mpr ⟨(congrArg (fun z => some (Value.int z)) rfl), List.forall_mem_cons.mpr ⟨rfl, fun _ h => absurd h List.not_mem_nil⟩⟩⟩⟩⟩⟩) ?_
      exact lp_but0 hF ha hb hA hB ha2 hb2 hAB m 0 (Nat.zero_add _)
    · refine V_sub2 (ls' := [(0, .ref 62), (1, .int lo), (2, .int (nI A)), (3, .int (nI B)), (4, .int (nI (fcnt (fun i => fsel sd 1 lo i && decide (fsq xs ys px py i < max a b)) 0))), (5, .int (nI 0))]) (List.forall_mem_cons.mpr ⟨rfl, List.forall_mem_cons.mpr ⟨rfl, List.forall_mem_cons.mpr ⟨rfl, List.forall_mem_cons.mpr ⟨rfl, List.forall_mem_cons.mpr ⟨(congrArg (fun z => some (Value.int z)) rfl), List.forall_mem_cons.mpr ⟨rfl, fun _ h => absurd h List.not_mem_nil⟩⟩⟩⟩⟩⟩) ?_
      exact lp_but1 hF ha hb hA hB ha2 hb2 (by omega) m 0 (Nat.zero_add _)
  · skip
    refine V_iconst (v := nI 0) dX12_pointsBut_19 rfl ?_
    exact V_iret ⟨Or.inl rfl, dX12_pointsBut_20⟩ ⟨Nat.le_of_ble_eq_true rfl, Nat.le_of_ble_eq_true rfl⟩ ⟨rfl, congrArg (fun z => some (Value.int z)) (fpts_eq (by rw [ha, hb]; omega)).symm, rfl, rfl⟩

set_option maxRecDepth 100000 in
set_option maxHeartbeats 4000000 in
theorem w_measured {G : zG} {I : zI} {J : zJ} {m : Nat} {sd xs ys : Nat → Nat} {px py : Nat} (hF : fdM I m sd xs ys px py) {x : Int32} : zK G mX12_measured 5 [.ref 62, .int x] zsh I J (zA0 (.int (meaS m sd xs ys px py x)) I J) := by
  refine zK_of kX12_measured.2.2.2.2.1 (Nat.le_of_ble_eq_true rfl) ?_
  show V G mX12_measured 5 _ 0 [(0, .ref 62), (1, .int x)] [] (0, 0) zsh I J
  have hm12 := hF.2.1
  have hpx9 := hF.2.2.2.2.1
  have hpy9 := hF.2.2.2.2.2.2
  have hsq : ∀ i, i < m → fsq xs ys px py i < 20000 := fun i hi => fsq_lt (fun k hk => ⟨(hF.2.2.1 k hk).2.1.2, (hF.2.2.1 k hk).2.2.2⟩) hpx9 hpy9 hi
  obtain ⟨A, hAe⟩ : ∃ A, nOf (fsq xs ys px py) (fnS (fsq xs ys px py) (fsel sd 0 (-1)) m) = A := ⟨_, rfl⟩
  obtain ⟨B, hBe⟩ : ∃ B, nOf (fsq xs ys px py) (fnS (fsq xs ys px py) (fsel sd 1 (-1)) m) = B := ⟨_, rfl⟩
  obtain ⟨a, ha⟩ : ∃ a, fnear (fsq xs ys px py) (fsel sd 0 (-1)) m = a := ⟨_, rfl⟩
  obtain ⟨b, hb⟩ : ∃ b, fnear (fsq xs ys px py) (fsel sd 1 (-1)) m = b := ⟨_, rfl⟩
  have ha2 : a ≤ 20000 := by rw [← ha]; exact fnear_lt m
  have hb2 : b ≤ 20000 := by rw [← hb]; exact fnear_lt m
  have hA : a = 20000 ∧ A = 1000000000 ∨ a < 20000 ∧ A = a := by rw [← hAe, nOf_e hsq, ha]; split <;> omega
  have hB : b = 20000 ∧ B = 1000000000 ∨ b < 20000 ∧ B = b := by rw [← hBe, nOf_e hsq, hb]; split <;> omega
  by_cases hx : inZ x 0 3
  · rcases inZ03 hx with e | e | e | e <;> subst e
    · skip
      refine V_iload_n dX12_measured_0 rfl ?_
      refine V_iconst (v := nI 0) dX12_measured_1 rfl ?_
      refine V_iconst (v := nI 3) dX12_measured_2 rfl ?_
      refine V_callS (As := [.int (nI 0), .int (nI 0), .int (nI 3)]) (st := []) dX12_measured_3 kX12_in lX12_173 (by decide) rfl rfl (Nat.le_of_ble_eq_true rfl) ⟨Nat.le_of_ble_eq_true rfl, Nat.le_of_ble_eq_true rfl⟩ (w_inY rfl rfl (a := 0) (b := 3) (by decide)) ?_
      rintro _ _ _ _ ⟨rfl, rfl, rfl, rfl⟩
      refine V_if_ne (tgt := 12) dX12_measured_6 rfl (fun _ => ?_) (fun h => absurd h (by decide))
      refine V_aload_n dX12_measured_12 rfl ?_
      refine V_iconst (v := nI 0) dX12_measured_13 rfl ?_
      refine V_iconst (v := (-1)) dX12_measured_14 rfl ?_
      refine V_callV (As := [.int (nI 0), .int (-1)]) (st := []) (a := 62) dX12_measured_15 kX12_nearestOf lX12_481 (by decide) rfl rfl (Nat.le_of_ble_eq_true rfl) ⟨Nat.le_of_ble_eq_true rfl, Nat.le_of_ble_eq_true rfl⟩ ⟨Nat.le_of_ble_eq_true rfl, Nat.le_of_ble_eq_true rfl⟩ rfl ⟨rfl, by decide⟩ (w_nearestOf hF (by decide)) ?_
      rintro _ _ _ _ ⟨rfl, rfl, rfl, rfl⟩
      refine V_eqI (y := nI A) (congrArg nI hAe) ?_
      refine V_istore_n (ls' := [(2, .int (nI A)), (0, .ref 62), (1, .int (nI 0))]) dX12_measured_18 (by decide) rfl ?_
      refine V_aload_n dX12_measured_19 rfl ?_
      refine V_iconst (v := nI 1) dX12_measured_20 rfl ?_
      refine V_iconst (v := (-1)) dX12_measured_21 rfl ?_
      refine V_callV (As := [.int (nI 1), .int (-1)]) (st := []) (a := 62) dX12_measured_22 kX12_nearestOf lX12_481 (by decide) rfl rfl (Nat.le_of_ble_eq_true rfl) ⟨Nat.le_of_ble_eq_true rfl, Nat.le_of_ble_eq_true rfl⟩ ⟨Nat.le_of_ble_eq_true rfl, Nat.le_of_ble_eq_true rfl⟩ rfl ⟨rfl, by decide⟩ (w_nearestOf hF (by decide)) ?_
      rintro _ _ _ _ ⟨rfl, rfl, rfl, rfl⟩
      refine V_eqI (y := nI B) (congrArg nI hBe) ?_
      refine V_istore_n (ls' := [(3, .int (nI B)), (2, .int (nI A)), (0, .ref 62), (1, .int (nI 0))]) dX12_measured_25 (by decide) rfl ?_
      refine V_aload_n dX12_measured_26 rfl ?_
      refine V_iconst (v := (-1)) dX12_measured_27 rfl ?_
      refine V_iconst (v := (-1)) dX12_measured_28 rfl ?_
      rcases hnb : (fnS (fsq xs ys px py) (fun _ => true) m) with _ | j
      · skip
        refine V_callV (As := [.int (-1), .int (-1)]) (st := []) (a := 62) dX12_measured_29 kX12_nearest lX12_478 (by decide) rfl rfl (Nat.le_of_ble_eq_true rfl) ⟨Nat.le_of_ble_eq_true rfl, Nat.le_of_ble_eq_true rfl⟩ ⟨Nat.le_of_ble_eq_true rfl, Nat.le_of_ble_eq_true rfl⟩ rfl ⟨rfl, by decide⟩ (w_nearA hF) ?_
        rintro _ _ _ _ ⟨rfl, rfl, rfl, rfl⟩
        refine V_eqI (y := (-1)) (by rw [hnb]; rfl) ?_
        refine V_istore (ls' := [(4, .int (-1)), (3, .int (nI B)), (2, .int (nI A)), (0, .ref 62), (1, .int (nI 0))]) dX12_measured_32 (by decide) rfl ?_
        refine V_iload_n dX12_measured_34 rfl ?_
        refine V_tsIn (off := 25) (tgt := 60) dX12_measured_35 (by decide) (by decide) rfl rfl ?_
        refine V_iload_n dX12_measured_60 rfl ?_
        refine V_iload_n dX12_measured_61 rfl ?_
        refine V_icmp_neN (tgt := 70) dX12_measured_62 rfl (by (try have := hj.1); (try have := hj.2); omega) (by (try have := hj.1); (try have := hj.2); omega) (fun h62 => ?_) (fun h62 => ?_)
        · skip
          refine V_iload_n dX12_measured_70 rfl ?_
          refine V_iload_n dX12_measured_71 rfl ?_
          refine V_icmp_geN (tgt := 79) dX12_measured_72 rfl (by (try have := hj.1); (try have := hj.2); omega) (by (try have := hj.1); (try have := hj.2); omega) (fun h72 => ?_) (fun h72 => ?_)
          · skip
            refine V_iconst (v := nI 1) dX12_measured_79 rfl ?_
            exact V_iret ⟨Or.inl rfl, dX12_measured_80⟩ ⟨Nat.le_of_ble_eq_true rfl, Nat.le_of_ble_eq_true rfl⟩ ⟨rfl, congrArg (fun z => some (Value.int z)) ((if_pos rfl).trans (by unfold fWhose; rw [ha, hb]; exact (if_neg (by omega)).trans (if_neg (by omega)))).symm, rfl, rfl⟩
          · skip
            refine V_iconst (v := nI 0) dX12_measured_75 rfl ?_
            refine V_goto (tgt := 80) dX12_measured_76 rfl ?_
            exact V_iret ⟨Or.inl rfl, dX12_measured_80⟩ ⟨Nat.le_of_ble_eq_true rfl, Nat.le_of_ble_eq_true rfl⟩ ⟨rfl, congrArg (fun z => some (Value.int z)) ((if_pos rfl).trans (by unfold fWhose; rw [ha, hb]; exact (if_neg (by omega)).trans (if_pos (by omega)))).symm, rfl, rfl⟩
        · skip
          refine V_bipush (v := (-2)) dX12_measured_65 rfl ?_
          refine V_goto (tgt := 80) dX12_measured_67 rfl ?_
          exact V_iret ⟨Or.inl rfl, dX12_measured_80⟩ ⟨Nat.le_of_ble_eq_true rfl, Nat.le_of_ble_eq_true rfl⟩ ⟨rfl, congrArg (fun z => some (Value.int z)) ((if_pos rfl).trans (by unfold fWhose; rw [ha, hb]; exact if_pos (by omega))).symm, rfl, rfl⟩
      · skip
        have hj := fnS_ok' hsq m (Nat.le_refl _) j hnb
        refine V_callV (As := [.int (-1), .int (-1)]) (st := []) (a := 62) dX12_measured_29 kX12_nearest lX12_478 (by decide) rfl rfl (Nat.le_of_ble_eq_true rfl) ⟨Nat.le_of_ble_eq_true rfl, Nat.le_of_ble_eq_true rfl⟩ ⟨Nat.le_of_ble_eq_true rfl, Nat.le_of_ble_eq_true rfl⟩ rfl ⟨rfl, by decide⟩ (w_nearA hF) ?_
        rintro _ _ _ _ ⟨rfl, rfl, rfl, rfl⟩
        refine V_eqI (y := nI j) (by rw [hnb]; rfl) ?_
        refine V_istore (ls' := [(4, .int (nI j)), (3, .int (nI B)), (2, .int (nI A)), (0, .ref 62), (1, .int (nI 0))]) dX12_measured_32 (by decide) rfl ?_
        refine V_iload_n dX12_measured_34 rfl ?_
        refine V_tsIn (off := 25) (tgt := 60) dX12_measured_35 (by decide) (by decide) rfl rfl ?_
        refine V_iload_n dX12_measured_60 rfl ?_
        refine V_iload_n dX12_measured_61 rfl ?_
        refine V_icmp_neN (tgt := 70) dX12_measured_62 rfl (by (try have := hj.1); (try have := hj.2); omega) (by (try have := hj.1); (try have := hj.2); omega) (fun h62 => ?_) (fun h62 => ?_)
        · skip
          refine V_iload_n dX12_measured_70 rfl ?_
          refine V_iload_n dX12_measured_71 rfl ?_
          refine V_icmp_geN (tgt := 79) dX12_measured_72 rfl (by (try have := hj.1); (try have := hj.2); omega) (by (try have := hj.1); (try have := hj.2); omega) (fun h72 => ?_) (fun h72 => ?_)
          · skip
            refine V_iconst (v := nI 1) dX12_measured_79 rfl ?_
            exact V_iret ⟨Or.inl rfl, dX12_measured_80⟩ ⟨Nat.le_of_ble_eq_true rfl, Nat.le_of_ble_eq_true rfl⟩ ⟨rfl, congrArg (fun z => some (Value.int z)) ((if_pos rfl).trans (by unfold fWhose; rw [ha, hb]; exact (if_neg (by omega)).trans (if_neg (by omega)))).symm, rfl, rfl⟩
          · skip
            refine V_iconst (v := nI 0) dX12_measured_75 rfl ?_
            refine V_goto (tgt := 80) dX12_measured_76 rfl ?_
            exact V_iret ⟨Or.inl rfl, dX12_measured_80⟩ ⟨Nat.le_of_ble_eq_true rfl, Nat.le_of_ble_eq_true rfl⟩ ⟨rfl, congrArg (fun z => some (Value.int z)) ((if_pos rfl).trans (by unfold fWhose; rw [ha, hb]; exact (if_neg (by omega)).trans (if_pos (by omega)))).symm, rfl, rfl⟩
        · skip
          refine V_bipush (v := (-2)) dX12_measured_65 rfl ?_
          refine V_goto (tgt := 80) dX12_measured_67 rfl ?_
          exact V_iret ⟨Or.inl rfl, dX12_measured_80⟩ ⟨Nat.le_of_ble_eq_true rfl, Nat.le_of_ble_eq_true rfl⟩ ⟨rfl, congrArg (fun z => some (Value.int z)) ((if_pos rfl).trans (by unfold fWhose; rw [ha, hb]; exact if_pos (by omega))).symm, rfl, rfl⟩
    · skip
      refine V_iload_n dX12_measured_0 rfl ?_
      refine V_iconst (v := nI 0) dX12_measured_1 rfl ?_
      refine V_iconst (v := nI 3) dX12_measured_2 rfl ?_
      refine V_callS (As := [.int (nI 1), .int (nI 0), .int (nI 3)]) (st := []) dX12_measured_3 kX12_in lX12_173 (by decide) rfl rfl (Nat.le_of_ble_eq_true rfl) ⟨Nat.le_of_ble_eq_true rfl, Nat.le_of_ble_eq_true rfl⟩ (w_inY rfl rfl (a := 0) (b := 3) (by decide)) ?_
      rintro _ _ _ _ ⟨rfl, rfl, rfl, rfl⟩
      refine V_if_ne (tgt := 12) dX12_measured_6 rfl (fun _ => ?_) (fun h => absurd h (by decide))
      refine V_aload_n dX12_measured_12 rfl ?_
      refine V_iconst (v := nI 0) dX12_measured_13 rfl ?_
      refine V_iconst (v := (-1)) dX12_measured_14 rfl ?_
      refine V_callV (As := [.int (nI 0), .int (-1)]) (st := []) (a := 62) dX12_measured_15 kX12_nearestOf lX12_481 (by decide) rfl rfl (Nat.le_of_ble_eq_true rfl) ⟨Nat.le_of_ble_eq_true rfl, Nat.le_of_ble_eq_true rfl⟩ ⟨Nat.le_of_ble_eq_true rfl, Nat.le_of_ble_eq_true rfl⟩ rfl ⟨rfl, by decide⟩ (w_nearestOf hF (by decide)) ?_
      rintro _ _ _ _ ⟨rfl, rfl, rfl, rfl⟩
      refine V_eqI (y := nI A) (congrArg nI hAe) ?_
      refine V_istore_n (ls' := [(2, .int (nI A)), (0, .ref 62), (1, .int (nI 1))]) dX12_measured_18 (by decide) rfl ?_
      refine V_aload_n dX12_measured_19 rfl ?_
      refine V_iconst (v := nI 1) dX12_measured_20 rfl ?_
      refine V_iconst (v := (-1)) dX12_measured_21 rfl ?_
      refine V_callV (As := [.int (nI 1), .int (-1)]) (st := []) (a := 62) dX12_measured_22 kX12_nearestOf lX12_481 (by decide) rfl rfl (Nat.le_of_ble_eq_true rfl) ⟨Nat.le_of_ble_eq_true rfl, Nat.le_of_ble_eq_true rfl⟩ ⟨Nat.le_of_ble_eq_true rfl, Nat.le_of_ble_eq_true rfl⟩ rfl ⟨rfl, by decide⟩ (w_nearestOf hF (by decide)) ?_
      rintro _ _ _ _ ⟨rfl, rfl, rfl, rfl⟩
      refine V_eqI (y := nI B) (congrArg nI hBe) ?_
      refine V_istore_n (ls' := [(3, .int (nI B)), (2, .int (nI A)), (0, .ref 62), (1, .int (nI 1))]) dX12_measured_25 (by decide) rfl ?_
      refine V_aload_n dX12_measured_26 rfl ?_
      refine V_iconst (v := (-1)) dX12_measured_27 rfl ?_
      refine V_iconst (v := (-1)) dX12_measured_28 rfl ?_
      rcases hnb : (fnS (fsq xs ys px py) (fun _ => true) m) with _ | j
      · skip
        refine V_callV (As := [.int (-1), .int (-1)]) (st := []) (a := 62) dX12_measured_29 kX12_nearest lX12_478 (by decide) rfl rfl (Nat.le_of_ble_eq_true rfl) ⟨Nat.le_of_ble_eq_true rfl, Nat.le_of_ble_eq_true rfl⟩ ⟨Nat.le_of_ble_eq_true rfl, Nat.le_of_ble_eq_true rfl⟩ rfl ⟨rfl, by decide⟩ (w_nearA hF) ?_
        rintro _ _ _ _ ⟨rfl, rfl, rfl, rfl⟩
        refine V_eqI (y := (-1)) (by rw [hnb]; rfl) ?_
        refine V_istore (ls' := [(4, .int (-1)), (3, .int (nI B)), (2, .int (nI A)), (0, .ref 62), (1, .int (nI 1))]) dX12_measured_32 (by decide) rfl ?_
        refine V_iload_n dX12_measured_34 rfl ?_
        refine V_tsIn (off := 46) (tgt := 81) dX12_measured_35 (by decide) (by decide) rfl rfl ?_
        refine V_aload_n dX12_measured_81 rfl ?_
        refine V_iconst (v := (-1)) dX12_measured_82 rfl ?_
        refine V_callV (As := [.int (-1)]) (st := []) (a := 62) dX12_measured_83 kX12_pointsBut lX12_484 (by decide) rfl rfl (Nat.le_of_ble_eq_true rfl) ⟨Nat.le_of_ble_eq_true rfl, Nat.le_of_ble_eq_true rfl⟩ ⟨Nat.le_of_ble_eq_true rfl, Nat.le_of_ble_eq_true rfl⟩ rfl ⟨rfl, by decide⟩ (w_pointsBut hF) ?_
        rintro _ _ _ _ ⟨rfl, rfl, rfl, rfl⟩
        exact V_iret ⟨Or.inl rfl, dX12_measured_86⟩ ⟨Nat.le_of_ble_eq_true rfl, Nat.le_of_ble_eq_true rfl⟩ ⟨rfl, congrArg (fun z => some (Value.int z)) (((if_neg (by decide)).trans (if_pos rfl)).trans (rfl)).symm, rfl, rfl⟩
      · skip
        have hj := fnS_ok' hsq m (Nat.le_refl _) j hnb
        refine V_callV (As := [.int (-1), .int (-1)]) (st := []) (a := 62) dX12_measured_29 kX12_nearest lX12_478 (by decide) rfl rfl (Nat.le_of_ble_eq_true rfl) ⟨Nat.le_of_ble_eq_true rfl, Nat.le_of_ble_eq_true rfl⟩ ⟨Nat.le_of_ble_eq_true rfl, Nat.le_of_ble_eq_true rfl⟩ rfl ⟨rfl, by decide⟩ (w_nearA hF) ?_
        rintro _ _ _ _ ⟨rfl, rfl, rfl, rfl⟩
        refine V_eqI (y := nI j) (by rw [hnb]; rfl) ?_
        refine V_istore (ls' := [(4, .int (nI j)), (3, .int (nI B)), (2, .int (nI A)), (0, .ref 62), (1, .int (nI 1))]) dX12_measured_32 (by decide) rfl ?_
        refine V_iload_n dX12_measured_34 rfl ?_
        refine V_tsIn (off := 46) (tgt := 81) dX12_measured_35 (by decide) (by decide) rfl rfl ?_
        refine V_aload_n dX12_measured_81 rfl ?_
        refine V_iconst (v := (-1)) dX12_measured_82 rfl ?_
        refine V_callV (As := [.int (-1)]) (st := []) (a := 62) dX12_measured_83 kX12_pointsBut lX12_484 (by decide) rfl rfl (Nat.le_of_ble_eq_true rfl) ⟨Nat.le_of_ble_eq_true rfl, Nat.le_of_ble_eq_true rfl⟩ ⟨Nat.le_of_ble_eq_true rfl, Nat.le_of_ble_eq_true rfl⟩ rfl ⟨rfl, by decide⟩ (w_pointsBut hF) ?_
        rintro _ _ _ _ ⟨rfl, rfl, rfl, rfl⟩
        exact V_iret ⟨Or.inl rfl, dX12_measured_86⟩ ⟨Nat.le_of_ble_eq_true rfl, Nat.le_of_ble_eq_true rfl⟩ ⟨rfl, congrArg (fun z => some (Value.int z)) (((if_neg (by decide)).trans (if_pos rfl)).trans (rfl)).symm, rfl, rfl⟩
    · skip
      refine V_iload_n dX12_measured_0 rfl ?_
      refine V_iconst (v := nI 0) dX12_measured_1 rfl ?_
      refine V_iconst (v := nI 3) dX12_measured_2 rfl ?_
      refine V_callS (As := [.int (nI 2), .int (nI 0), .int (nI 3)]) (st := []) dX12_measured_3 kX12_in lX12_173 (by decide) rfl rfl (Nat.le_of_ble_eq_true rfl) ⟨Nat.le_of_ble_eq_true rfl, Nat.le_of_ble_eq_true rfl⟩ (w_inY rfl rfl (a := 0) (b := 3) (by decide)) ?_
      rintro _ _ _ _ ⟨rfl, rfl, rfl, rfl⟩
      refine V_if_ne (tgt := 12) dX12_measured_6 rfl (fun _ => ?_) (fun h => absurd h (by decide))
      refine V_aload_n dX12_measured_12 rfl ?_
      refine V_iconst (v := nI 0) dX12_measured_13 rfl ?_
      refine V_iconst (v := (-1)) dX12_measured_14 rfl ?_
      refine V_callV (As := [.int (nI 0), .int (-1)]) (st := []) (a := 62) dX12_measured_15 kX12_nearestOf lX12_481 (by decide) rfl rfl (Nat.le_of_ble_eq_true rfl) ⟨Nat.le_of_ble_eq_true rfl, Nat.le_of_ble_eq_true rfl⟩ ⟨Nat.le_of_ble_eq_true rfl, Nat.le_of_ble_eq_true rfl⟩ rfl ⟨rfl, by decide⟩ (w_nearestOf hF (by decide)) ?_
      rintro _ _ _ _ ⟨rfl, rfl, rfl, rfl⟩
      refine V_eqI (y := nI A) (congrArg nI hAe) ?_
      refine V_istore_n (ls' := [(2, .int (nI A)), (0, .ref 62), (1, .int (nI 2))]) dX12_measured_18 (by decide) rfl ?_
      refine V_aload_n dX12_measured_19 rfl ?_
      refine V_iconst (v := nI 1) dX12_measured_20 rfl ?_
      refine V_iconst (v := (-1)) dX12_measured_21 rfl ?_
      refine V_callV (As := [.int (nI 1), .int (-1)]) (st := []) (a := 62) dX12_measured_22 kX12_nearestOf lX12_481 (by decide) rfl rfl (Nat.le_of_ble_eq_true rfl) ⟨Nat.le_of_ble_eq_true rfl, Nat.le_of_ble_eq_true rfl⟩ ⟨Nat.le_of_ble_eq_true rfl, Nat.le_of_ble_eq_true rfl⟩ rfl ⟨rfl, by decide⟩ (w_nearestOf hF (by decide)) ?_
      rintro _ _ _ _ ⟨rfl, rfl, rfl, rfl⟩
      refine V_eqI (y := nI B) (congrArg nI hBe) ?_
      refine V_istore_n (ls' := [(3, .int (nI B)), (2, .int (nI A)), (0, .ref 62), (1, .int (nI 2))]) dX12_measured_25 (by decide) rfl ?_
      refine V_aload_n dX12_measured_26 rfl ?_
      refine V_iconst (v := (-1)) dX12_measured_27 rfl ?_
      refine V_iconst (v := (-1)) dX12_measured_28 rfl ?_
      rcases hnb : (fnS (fsq xs ys px py) (fun _ => true) m) with _ | j
      · skip
        refine V_callV (As := [.int (-1), .int (-1)]) (st := []) (a := 62) dX12_measured_29 kX12_nearest lX12_478 (by decide) rfl rfl (Nat.le_of_ble_eq_true rfl) ⟨Nat.le_of_ble_eq_true rfl, Nat.le_of_ble_eq_true rfl⟩ ⟨Nat.le_of_ble_eq_true rfl, Nat.le_of_ble_eq_true rfl⟩ rfl ⟨rfl, by decide⟩ (w_nearA hF) ?_
        rintro _ _ _ _ ⟨rfl, rfl, rfl, rfl⟩
        refine V_eqI (y := (-1)) (by rw [hnb]; rfl) ?_
        refine V_istore (ls' := [(4, .int (-1)), (3, .int (nI B)), (2, .int (nI A)), (0, .ref 62), (1, .int (nI 2))]) dX12_measured_32 (by decide) rfl ?_
        refine V_iload_n dX12_measured_34 rfl ?_
        refine V_tsIn (off := 52) (tgt := 87) dX12_measured_35 (by decide) (by decide) rfl rfl ?_
        refine V_iload dX12_measured_87 rfl ?_
        refine V_iconst (v := (-1)) dX12_measured_89 rfl ?_
        refine V_icmp_ne (tgt := 98) dX12_measured_90 rfl (fun h => absurd h (by decide)) (fun _ => ?_)
        refine V_bipush (v := (-2)) dX12_measured_93 rfl ?_
        refine V_goto (tgt := 100) dX12_measured_95 rfl ?_
        exact V_iret ⟨Or.inl rfl, dX12_measured_100⟩ ⟨Nat.le_of_ble_eq_true rfl, Nat.le_of_ble_eq_true rfl⟩ ⟨rfl, congrArg (fun z => some (Value.int z)) (((if_neg (by decide)).trans ((if_neg (by decide)).trans (if_pos rfl))).trans (by rw [← fnS_b, hnb]; rfl)).symm, rfl, rfl⟩
      · skip
        have hj := fnS_ok' hsq m (Nat.le_refl _) j hnb
        refine V_callV (As := [.int (-1), .int (-1)]) (st := []) (a := 62) dX12_measured_29 kX12_nearest lX12_478 (by decide) rfl rfl (Nat.le_of_ble_eq_true rfl) ⟨Nat.le_of_ble_eq_true rfl, Nat.le_of_ble_eq_true rfl⟩ ⟨Nat.le_of_ble_eq_true rfl, Nat.le_of_ble_eq_true rfl⟩ rfl ⟨rfl, by decide⟩ (w_nearA hF) ?_
        rintro _ _ _ _ ⟨rfl, rfl, rfl, rfl⟩
        refine V_eqI (y := nI j) (by rw [hnb]; rfl) ?_
        refine V_istore (ls' := [(4, .int (nI j)), (3, .int (nI B)), (2, .int (nI A)), (0, .ref 62), (1, .int (nI 2))]) dX12_measured_32 (by decide) rfl ?_
        refine V_iload_n dX12_measured_34 rfl ?_
        refine V_tsIn (off := 52) (tgt := 87) dX12_measured_35 (by decide) (by decide) rfl rfl ?_
        refine V_iload dX12_measured_87 rfl ?_
        refine V_iconst (v := (-1)) dX12_measured_89 rfl ?_
        refine V_icmp_ne (tgt := 98) dX12_measured_90 rfl (fun _ => ?_) (fun h => absurd h (nI_ne_neg (by (try have := hj.1); (try have := hj.2); omega) (by decide)))
        refine V_iload dX12_measured_98 rfl ?_
        exact V_iret ⟨Or.inl rfl, dX12_measured_100⟩ ⟨Nat.le_of_ble_eq_true rfl, Nat.le_of_ble_eq_true rfl⟩ ⟨rfl, congrArg (fun z => some (Value.int z)) (((if_neg (by decide)).trans ((if_neg (by decide)).trans (if_pos rfl))).trans (by rw [← fnS_b, hnb]; rfl)).symm, rfl, rfl⟩
    · skip
      refine V_iload_n dX12_measured_0 rfl ?_
      refine V_iconst (v := nI 0) dX12_measured_1 rfl ?_
      refine V_iconst (v := nI 3) dX12_measured_2 rfl ?_
      refine V_callS (As := [.int (nI 3), .int (nI 0), .int (nI 3)]) (st := []) dX12_measured_3 kX12_in lX12_173 (by decide) rfl rfl (Nat.le_of_ble_eq_true rfl) ⟨Nat.le_of_ble_eq_true rfl, Nat.le_of_ble_eq_true rfl⟩ (w_inY rfl rfl (a := 0) (b := 3) (by decide)) ?_
      rintro _ _ _ _ ⟨rfl, rfl, rfl, rfl⟩
      refine V_if_ne (tgt := 12) dX12_measured_6 rfl (fun _ => ?_) (fun h => absurd h (by decide))
      refine V_aload_n dX12_measured_12 rfl ?_
      refine V_iconst (v := nI 0) dX12_measured_13 rfl ?_
      refine V_iconst (v := (-1)) dX12_measured_14 rfl ?_
      refine V_callV (As := [.int (nI 0), .int (-1)]) (st := []) (a := 62) dX12_measured_15 kX12_nearestOf lX12_481 (by decide) rfl rfl (Nat.le_of_ble_eq_true rfl) ⟨Nat.le_of_ble_eq_true rfl, Nat.le_of_ble_eq_true rfl⟩ ⟨Nat.le_of_ble_eq_true rfl, Nat.le_of_ble_eq_true rfl⟩ rfl ⟨rfl, by decide⟩ (w_nearestOf hF (by decide)) ?_
      rintro _ _ _ _ ⟨rfl, rfl, rfl, rfl⟩
      refine V_eqI (y := nI A) (congrArg nI hAe) ?_
      refine V_istore_n (ls' := [(2, .int (nI A)), (0, .ref 62), (1, .int (nI 3))]) dX12_measured_18 (by decide) rfl ?_
      refine V_aload_n dX12_measured_19 rfl ?_
      refine V_iconst (v := nI 1) dX12_measured_20 rfl ?_
      refine V_iconst (v := (-1)) dX12_measured_21 rfl ?_
      refine V_callV (As := [.int (nI 1), .int (-1)]) (st := []) (a := 62) dX12_measured_22 kX12_nearestOf lX12_481 (by decide) rfl rfl (Nat.le_of_ble_eq_true rfl) ⟨Nat.le_of_ble_eq_true rfl, Nat.le_of_ble_eq_true rfl⟩ ⟨Nat.le_of_ble_eq_true rfl, Nat.le_of_ble_eq_true rfl⟩ rfl ⟨rfl, by decide⟩ (w_nearestOf hF (by decide)) ?_
      rintro _ _ _ _ ⟨rfl, rfl, rfl, rfl⟩
      refine V_eqI (y := nI B) (congrArg nI hBe) ?_
      refine V_istore_n (ls' := [(3, .int (nI B)), (2, .int (nI A)), (0, .ref 62), (1, .int (nI 3))]) dX12_measured_25 (by decide) rfl ?_
      refine V_aload_n dX12_measured_26 rfl ?_
      refine V_iconst (v := (-1)) dX12_measured_27 rfl ?_
      refine V_iconst (v := (-1)) dX12_measured_28 rfl ?_
      rcases hnb : (fnS (fsq xs ys px py) (fun _ => true) m) with _ | j
      · skip
        refine V_callV (As := [.int (-1), .int (-1)]) (st := []) (a := 62) dX12_measured_29 kX12_nearest lX12_478 (by decide) rfl rfl (Nat.le_of_ble_eq_true rfl) ⟨Nat.le_of_ble_eq_true rfl, Nat.le_of_ble_eq_true rfl⟩ ⟨Nat.le_of_ble_eq_true rfl, Nat.le_of_ble_eq_true rfl⟩ rfl ⟨rfl, by decide⟩ (w_nearA hF) ?_
        rintro _ _ _ _ ⟨rfl, rfl, rfl, rfl⟩
        refine V_eqI (y := (-1)) (by rw [hnb]; rfl) ?_
        refine V_istore (ls' := [(4, .int (-1)), (3, .int (nI B)), (2, .int (nI A)), (0, .ref 62), (1, .int (nI 3))]) dX12_measured_32 (by decide) rfl ?_
        refine V_iload_n dX12_measured_34 rfl ?_
        refine V_tsOut (tgt := 101) dX12_measured_35 (by decide) rfl ?_
        refine V_iload dX12_measured_101 rfl ?_
        refine V_iconst (v := (-1)) dX12_measured_103 rfl ?_
        refine V_icmp_ne (tgt := 112) dX12_measured_104 rfl (fun h => absurd h (by decide)) (fun _ => ?_)
        refine V_bipush (v := (-2)) dX12_measured_107 rfl ?_
        refine V_goto (tgt := 118) dX12_measured_109 rfl ?_
        exact V_iret ⟨Or.inl rfl, dX12_measured_118⟩ ⟨Nat.le_of_ble_eq_true rfl, Nat.le_of_ble_eq_true rfl⟩ ⟨rfl, congrArg (fun z => some (Value.int z)) (((if_neg (by decide)).trans ((if_neg (by decide)).trans ((if_neg (by decide)).trans (if_pos rfl)))).trans (by rw [← fnS_b, hnb]; rfl)).symm, rfl, rfl⟩
      · skip
        have hj := fnS_ok' hsq m (Nat.le_refl _) j hnb
        refine V_callV (As := [.int (-1), .int (-1)]) (st := []) (a := 62) dX12_measured_29 kX12_nearest lX12_478 (by decide) rfl rfl (Nat.le_of_ble_eq_true rfl) ⟨Nat.le_of_ble_eq_true rfl, Nat.le_of_ble_eq_true rfl⟩ ⟨Nat.le_of_ble_eq_true rfl, Nat.le_of_ble_eq_true rfl⟩ rfl ⟨rfl, by decide⟩ (w_nearA hF) ?_
        rintro _ _ _ _ ⟨rfl, rfl, rfl, rfl⟩
        refine V_eqI (y := nI j) (by rw [hnb]; rfl) ?_
        refine V_istore (ls' := [(4, .int (nI j)), (3, .int (nI B)), (2, .int (nI A)), (0, .ref 62), (1, .int (nI 3))]) dX12_measured_32 (by decide) rfl ?_
        refine V_iload_n dX12_measured_34 rfl ?_
        refine V_tsOut (tgt := 101) dX12_measured_35 (by decide) rfl ?_
        refine V_iload dX12_measured_101 rfl ?_
        refine V_iconst (v := (-1)) dX12_measured_103 rfl ?_
        refine V_icmp_ne (tgt := 112) dX12_measured_104 rfl (fun _ => ?_) (fun h => absurd h (nI_ne_neg (by (try have := hj.1); (try have := hj.2); omega) (by decide)))
        refine V_aload_n dX12_measured_112 rfl ?_
        refine V_iload dX12_measured_113 rfl ?_
        refine V_callV (As := [.int (nI j)]) (st := []) (a := 62) dX12_measured_115 kX12_squareOf lX12_475 (by decide) rfl rfl (Nat.le_of_ble_eq_true rfl) ⟨Nat.le_of_ble_eq_true rfl, Nat.le_of_ble_eq_true rfl⟩ ⟨Nat.le_of_ble_eq_true rfl, Nat.le_of_ble_eq_true rfl⟩ rfl ⟨rfl, by decide⟩ (w_squareOf hF hj.1) ?_
        rintro _ _ _ _ ⟨rfl, rfl, rfl, rfl⟩
        exact V_iret ⟨Or.inl rfl, dX12_measured_118⟩ ⟨Nat.le_of_ble_eq_true rfl, Nat.le_of_ble_eq_true rfl⟩ ⟨rfl, congrArg (fun z => some (Value.int z)) (((if_neg (by decide)).trans ((if_neg (by decide)).trans ((if_neg (by decide)).trans (if_pos rfl)))).trans (by rw [← fnS_b, hnb]; rfl)).symm, rfl, rfl⟩
  · skip
    refine V_iload_n dX12_measured_0 rfl ?_
    refine V_iconst (v := nI 0) dX12_measured_1 rfl ?_
    refine V_iconst (v := nI 3) dX12_measured_2 rfl ?_
    refine V_callS (As := [.int x, .int (nI 0), .int (nI 3)]) (st := []) dX12_measured_3 kX12_in lX12_173 (by decide) rfl rfl (Nat.le_of_ble_eq_true rfl) ⟨Nat.le_of_ble_eq_true rfl, Nat.le_of_ble_eq_true rfl⟩ (w_inN rfl rfl hx) ?_
    rintro _ _ _ _ ⟨rfl, rfl, rfl, rfl⟩
    refine V_if_ne (tgt := 12) dX12_measured_6 rfl (fun h => absurd h (by decide)) (fun _ => ?_)
    refine V_bipush (v := (-100)) dX12_measured_9 rfl ?_
    exact V_iret ⟨Or.inl rfl, dX12_measured_11⟩ ⟨Nat.le_of_ble_eq_true rfl, Nat.le_of_ble_eq_true rfl⟩ ⟨rfl, congrArg (fun z => some (Value.int z)) ((if_neg (fun e => hx (by subst e; decide))).trans ((if_neg (fun e => hx (by subst e; decide))).trans ((if_neg (fun e => hx (by subst e; decide))).trans (if_neg (fun e => hx (by subst e; decide)))))).symm, rfl, rfl⟩

def moI (r : Option Nat × Int32) : Int32 := match r.1 with
  | none => -1000000000
  | some _ => r.2
theorem fpts_b {f sd : Nat → Nat} {m : Nat} {lo : Int32} (hm : m ≤ 12) : -12 ≤ (fpts f sd m lo).toInt ∧ (fpts f sd m lo).toInt ≤ 12 := by
  unfold fpts
  split
  · rw [nI_toInt (by have := @fcnt_le (fun i => fsel sd 0 lo i && decide (f i < max (fnear f (fsel sd 0 lo) m) (fnear f (fsel sd 1 lo) m))) m; omega)]
    have := @fcnt_le (fun i => fsel sd 0 lo i && decide (f i < max (fnear f (fsel sd 0 lo) m) (fnear f (fsel sd 1 lo) m))) m
    omega
  · have h := @fcnt_le (fun i => fsel sd 1 lo i && decide (f i < max (fnear f (fsel sd 0 lo) m) (fnear f (fsel sd 1 lo) m))) m
    rw [Int32.toInt_neg, nI_toInt (by omega), Int.bmod_eq_of_le (by omega) (by omega)]
    omega
theorem fgs_b {f sd : Nat → Nat} {m s k : Nat} (hm : m ≤ 12) : -12 ≤ (fgs f sd m s k).toInt ∧ (fgs f sd m s k).toInt ≤ 12 := by
  have h := fpts_b (f := f) (sd := sd) (lo := nI k) hm
  unfold fgs
  split
  · exact h
  · rw [Int32.toInt_neg, Int.bmod_eq_of_le (by omega) (by omega)]
    omega
theorem fbs_sk {g : Nat → Int32} {sel : Nat → Bool} {k : Nat} (h : ¬ sel k = true) : fbs g sel (k + 1) = fbs g sel k := if_neg h
theorem fbs_up {g : Nat → Int32} {sel : Nat → Bool} {k : Nat} (h : sel k = true) (h2 : (moI (fbs g sel k)).toInt < (g k).toInt) : fbs g sel (k + 1) = (some k, g k) := by
  conv => lhs; unfold fbs
  rw [if_pos h]
  cases hr : (fbs g sel k).1 with
  | none => rfl
  | some j =>
    unfold moI at h2
    rw [hr] at h2
    exact if_pos (Int32.lt_iff_toInt_lt.mpr h2)
theorem fbs_no {g : Nat → Int32} {sel : Nat → Bool} {k : Nat} (h2 : sel k = true → ¬ (moI (fbs g sel k)).toInt < (g k).toInt) (hb : -12 ≤ (g k).toInt ∧ (g k).toInt ≤ 12) : fbs g sel (k + 1) = fbs g sel k := by
  by_cases h : sel k = true
  · have h3 := h2 h
    conv => lhs; unfold fbs
    rw [if_pos h]
    cases hr : (fbs g sel k).1 with
    | none =>
      exfalso
      unfold moI at h3
      rw [hr] at h3
      have h4 : ¬ (-1000000000 : Int32).toInt < (g k).toInt := h3
      rw [show (-1000000000 : Int32).toInt = -1000000000 by decide] at h4
      omega
    | some j =>
      unfold moI at h3
      rw [hr] at h3
      exact if_neg (fun e => h3 (Int32.lt_iff_toInt_lt.mp e))
  · exact fbs_sk h
set_option maxRecDepth 100000 in
set_option maxHeartbeats 4000000 in
theorem lp_toShootM {G : zG} {I : zI} {J : zJ} {m : Nat} {sd xs ys : Nat → Nat} {px py : Nat} (hF : fdM I m sd xs ys px py) {s : Nat} (hs : s ≤ 1) : ∀ n i, i + n = m → V G mX12_toShoot 5 (zA0 (.int (fen (fbs (fgs (fsq xs ys px py) sd m s) (fun k => decide (sd k = 1 - s)) m).1)) I J) 19 [(0, .ref 62), (1, .int (nI s)), (2, .int (fen (fbs (fgs (fsq xs ys px py) sd m s) (fun k => decide (sd k = 1 - s)) i).1)), (3, .int (moI (fbs (fgs (fsq xs ys px py) sd m s) (fun k => decide (sd k = 1 - s)) i))), (4, .int (nI i))] [] (0, 0) zsh I J := by
  have hm12 := hF.2.1
  have hpx9 := hF.2.2.2.2.1
  have hpy9 := hF.2.2.2.2.2.2
  intro n
  induction n with
  | zero =>
    intro i hk
    refine V_iload dX12_toShoot_19 rfl ?_
    refine V_aload_n dX12_toShoot_21 rfl ?_
    refine V_getI dX12_toShoot_22 fX12_469 ⟨Nat.le_of_ble_eq_true rfl, Nat.le_of_ble_eq_true rfl⟩ rfl rfl ?_
    refine V_eqI (y := nI m) hF.1 ?_
    refine V_icmp_geN (tgt := 85) dX12_toShoot_25 rfl (by omega) (by omega) (fun _ => ?_) (fun h => absurd h (by omega))
    refine V_iload_n dX12_toShoot_85 rfl ?_
    exact V_iret ⟨Or.inl rfl, dX12_toShoot_86⟩ ⟨Nat.le_of_ble_eq_true rfl, Nat.le_of_ble_eq_true rfl⟩ ⟨rfl, by rw [show i = m by omega], rfl, rfl⟩
  | succ n ih =>
    intro i hk
    have hs9 := (hF.2.2.1 i (by omega)).1.2
    refine V_iload dX12_toShoot_19 rfl ?_
    refine V_aload_n dX12_toShoot_21 rfl ?_
    refine V_getI dX12_toShoot_22 fX12_469 ⟨Nat.le_of_ble_eq_true rfl, Nat.le_of_ble_eq_true rfl⟩ rfl rfl ?_
    refine V_eqI (y := nI m) hF.1 ?_
    refine V_icmp_geN (tgt := 85) dX12_toShoot_25 rfl (by omega) (by omega) (fun h => absurd h (by omega)) (fun _ => ?_)
    refine V_aload_n dX12_toShoot_28 rfl ?_
    refine V_getR (b := 97) dX12_toShoot_29 fX12_115 ⟨Nat.le_of_ble_eq_true rfl, Nat.le_of_ble_eq_true rfl⟩ rfl rfl rfl ?_
    refine V_iload dX12_toShoot_32 rfl ?_
    refine V_ialdN (k := i) dX12_toShoot_34 ⟨Nat.le_of_ble_eq_true rfl, Nat.le_of_ble_eq_true rfl⟩ rfl (by decide) (by have h1 := hF.2.1; (try have h3 := (hF.2.2.1 i (by omega)).1.2); omega) ?_
    refine V_eqI (y := nI (sd i)) (hF.2.2.1 _ (by omega)).1.1 ?_
    refine V_iload_n dX12_toShoot_35 rfl ?_
    refine V_icmp_neN (tgt := 42) dX12_toShoot_36 rfl (by have h1 := hF.2.1; (try have h3 := (hF.2.2.1 i (by omega)).1.2); omega) (by have h1 := hF.2.1; (try have h3 := (hF.2.2.1 i (by omega)).1.2); omega) (fun h36 => ?_) (fun h36 => ?_)
    · skip
      refine V_iload_n dX12_toShoot_42 rfl ?_
      refine V_if_neN (tgt := 55) dX12_toShoot_43 rfl (by have h1 := hF.2.1; (try have h3 := (hF.2.2.1 i (by omega)).1.2); omega) (fun h43 => ?_) (fun h43 => ?_)
      · skip
        refine V_aload_n dX12_toShoot_55 rfl ?_
        refine V_iload dX12_toShoot_56 rfl ?_
        refine V_callV (As := [.int (nI i)]) (st := []) (a := 62) dX12_toShoot_58 kX12_pointsBut lX12_484 (by decide) rfl rfl (Nat.le_of_ble_eq_true rfl) ⟨Nat.le_of_ble_eq_true rfl, Nat.le_of_ble_eq_true rfl⟩ ⟨Nat.le_of_ble_eq_true rfl, Nat.le_of_ble_eq_true rfl⟩ rfl ⟨rfl, by decide⟩ (w_pointsBut hF) ?_
        rintro _ _ _ _ ⟨rfl, rfl, rfl, rfl⟩
        refine V_ineg dX12_toShoot_61 ?_
        refine V_eqI (y := fgs (fsq xs ys px py) sd m s i) (if_neg h43).symm ?_
        refine V_istore (ls' := [(5, .int (fgs (fsq xs ys px py) sd m s i)), (0, .ref 62), (1, .int (nI s)), (2, .int (fen (fbs (fgs (fsq xs ys px py) sd m s) (fun k => decide (sd k = 1 - s)) i).1)), (3, .int (moI (fbs (fgs (fsq xs ys px py) sd m s) (fun k => decide (sd k = 1 - s)) i))), (4, .int (nI i))]) dX12_toShoot_62 (by decide) rfl ?_
        refine V_iload dX12_toShoot_64 rfl ?_
        refine V_iload_n dX12_toShoot_66 rfl ?_
        refine V_icmp_gtZ (tgt := 73) (a := (fgs (fsq xs ys px py) sd m s i).toInt) (b := (moI (fbs (fgs (fsq xs ys px py) sd m s) (fun k => decide (sd k = 1 - s)) i)).toInt) dX12_toShoot_67 rfl rfl rfl (fun h67 => ?_) (fun h67 => ?_)
        · skip
          refine V_iload dX12_toShoot_73 rfl ?_
          refine V_istore_n (ls' := [(3, .int (fgs (fsq xs ys px py) sd m s i)), (5, .int (fgs (fsq xs ys px py) sd m s i)), (0, .ref 62), (1, .int (nI s)), (2, .int (fen (fbs (fgs (fsq xs ys px py) sd m s) (fun k => decide (sd k = 1 - s)) i).1)), (4, .int (nI i))]) dX12_toShoot_75 (by decide) rfl ?_
          refine V_iload dX12_toShoot_76 rfl ?_
          refine V_istore_n (ls' := [(2, .int (nI i)), (3, .int (fgs (fsq xs ys px py) sd m s i)), (5, .int (fgs (fsq xs ys px py) sd m s i)), (0, .ref 62), (1, .int (nI s)), (4, .int (nI i))]) dX12_toShoot_78 (by decide) rfl ?_
          refine V_iincN (ls' := [(4, .int (nI (i + 1))), (2, .int (nI i)), (3, .int (fgs (fsq xs ys px py) sd m s i)), (5, .int (fgs (fsq xs ys px py) sd m s i)), (0, .ref 62), (1, .int (nI s))]) (n := 1) dX12_toShoot_79 rfl rfl (by decide) (by decide) rfl ?_
          refine V_goto (tgt := 19) dX12_toShoot_82 rfl ?_
          have e9 : fbs (fgs (fsq xs ys px py) sd m s) (fun k => decide (sd k = 1 - s)) (i + 1) = (some i, fgs (fsq xs ys px py) sd m s i) := fbs_up (decide_eq_true (by omega)) h67
          refine V_sub2 (ls' := [(0, .ref 62), (1, .int (nI s)), (2, .int (fen (fbs (fgs (fsq xs ys px py) sd m s) (fun k => decide (sd k = 1 - s)) (i + 1)).1)), (3, .int (moI (fbs (fgs (fsq xs ys px py) sd m s) (fun k => decide (sd k = 1 - s)) (i + 1)))), (4, .int (nI (i + 1)))]) (List.forall_mem_cons.mpr ⟨rfl, List.forall_mem_cons.mpr ⟨rfl, List.forall_mem_cons.mpr ⟨(congrArg (fun z => some (Value.int z)) (congrArg (fun z : Option Nat × Int32 => fen z.1) e9).symm), List.forall_mem_cons.mpr ⟨(congrArg (fun z => some (Value.int z)) (congrArg moI e9).symm), List.forall_mem_cons.mpr ⟨rfl, fun _ h => absurd h List.not_mem_nil⟩⟩⟩⟩⟩) ?_
          exact ih (i + 1) (by omega)
        · skip
          refine V_goto (tgt := 79) dX12_toShoot_70 rfl ?_
          refine V_iincN (ls' := [(4, .int (nI (i + 1))), (5, .int (fgs (fsq xs ys px py) sd m s i)), (0, .ref 62), (1, .int (nI s)), (2, .int (fen (fbs (fgs (fsq xs ys px py) sd m s) (fun k => decide (sd k = 1 - s)) i).1)), (3, .int (moI (fbs (fgs (fsq xs ys px py) sd m s) (fun k => decide (sd k = 1 - s)) i)))]) (n := 1) dX12_toShoot_79 rfl rfl (by decide) (by decide) rfl ?_
          refine V_goto (tgt := 19) dX12_toShoot_82 rfl ?_
          have e9 : fbs (fgs (fsq xs ys px py) sd m s) (fun k => decide (sd k = 1 - s)) (i + 1) = (fbs (fgs (fsq xs ys px py) sd m s) (fun k => decide (sd k = 1 - s)) i) := fbs_no (fun _ => h67) (fgs_b hm12)
          refine V_sub2 (ls' := [(0, .ref 62), (1, .int (nI s)), (2, .int (fen (fbs (fgs (fsq xs ys px py) sd m s) (fun k => decide (sd k = 1 - s)) (i + 1)).1)), (3, .int (moI (fbs (fgs (fsq xs ys px py) sd m s) (fun k => decide (sd k = 1 - s)) (i + 1)))), (4, .int (nI (i + 1)))]) (List.forall_mem_cons.mpr ⟨rfl, List.forall_mem_cons.mpr ⟨rfl, List.forall_mem_cons.mpr ⟨(congrArg (fun z => some (Value.int z)) (congrArg (fun z : Option Nat × Int32 => fen z.1) e9).symm), List.forall_mem_cons.mpr ⟨(congrArg (fun z => some (Value.int z)) (congrArg moI e9).symm), List.forall_mem_cons.mpr ⟨rfl, fun _ h => absurd h List.not_mem_nil⟩⟩⟩⟩⟩) ?_
          exact ih (i + 1) (by omega)
      · skip
        refine V_aload_n dX12_toShoot_46 rfl ?_
        refine V_iload dX12_toShoot_47 rfl ?_
        refine V_callV (As := [.int (nI i)]) (st := []) (a := 62) dX12_toShoot_49 kX12_pointsBut lX12_484 (by decide) rfl rfl (Nat.le_of_ble_eq_true rfl) ⟨Nat.le_of_ble_eq_true rfl, Nat.le_of_ble_eq_true rfl⟩ ⟨Nat.le_of_ble_eq_true rfl, Nat.le_of_ble_eq_true rfl⟩ rfl ⟨rfl, by decide⟩ (w_pointsBut hF) ?_
        rintro _ _ _ _ ⟨rfl, rfl, rfl, rfl⟩
        refine V_goto (tgt := 62) dX12_toShoot_52 rfl ?_
        refine V_eqI (y := fgs (fsq xs ys px py) sd m s i) (if_pos h43).symm ?_
        refine V_istore (ls' := [(5, .int (fgs (fsq xs ys px py) sd m s i)), (0, .ref 62), (1, .int (nI s)), (2, .int (fen (fbs (fgs (fsq xs ys px py) sd m s) (fun k => decide (sd k = 1 - s)) i).1)), (3, .int (moI (fbs (fgs (fsq xs ys px py) sd m s) (fun k => decide (sd k = 1 - s)) i))), (4, .int (nI i))]) dX12_toShoot_62 (by decide) rfl ?_
        refine V_iload dX12_toShoot_64 rfl ?_
        refine V_iload_n dX12_toShoot_66 rfl ?_
        refine V_icmp_gtZ (tgt := 73) (a := (fgs (fsq xs ys px py) sd m s i).toInt) (b := (moI (fbs (fgs (fsq xs ys px py) sd m s) (fun k => decide (sd k = 1 - s)) i)).toInt) dX12_toShoot_67 rfl rfl rfl (fun h67 => ?_) (fun h67 => ?_)
        · skip
          refine V_iload dX12_toShoot_73 rfl ?_
          refine V_istore_n (ls' := [(3, .int (fgs (fsq xs ys px py) sd m s i)), (5, .int (fgs (fsq xs ys px py) sd m s i)), (0, .ref 62), (1, .int (nI s)), (2, .int (fen (fbs (fgs (fsq xs ys px py) sd m s) (fun k => decide (sd k = 1 - s)) i).1)), (4, .int (nI i))]) dX12_toShoot_75 (by decide) rfl ?_
          refine V_iload dX12_toShoot_76 rfl ?_
          refine V_istore_n (ls' := [(2, .int (nI i)), (3, .int (fgs (fsq xs ys px py) sd m s i)), (5, .int (fgs (fsq xs ys px py) sd m s i)), (0, .ref 62), (1, .int (nI s)), (4, .int (nI i))]) dX12_toShoot_78 (by decide) rfl ?_
          refine V_iincN (ls' := [(4, .int (nI (i + 1))), (2, .int (nI i)), (3, .int (fgs (fsq xs ys px py) sd m s i)), (5, .int (fgs (fsq xs ys px py) sd m s i)), (0, .ref 62), (1, .int (nI s))]) (n := 1) dX12_toShoot_79 rfl rfl (by decide) (by decide) rfl ?_
          refine V_goto (tgt := 19) dX12_toShoot_82 rfl ?_
          have e9 : fbs (fgs (fsq xs ys px py) sd m s) (fun k => decide (sd k = 1 - s)) (i + 1) = (some i, fgs (fsq xs ys px py) sd m s i) := fbs_up (decide_eq_true (by omega)) h67
          refine V_sub2 (ls' := [(0, .ref 62), (1, .int (nI s)), (2, .int (fen (fbs (fgs (fsq xs ys px py) sd m s) (fun k => decide (sd k = 1 - s)) (i + 1)).1)), (3, .int (moI (fbs (fgs (fsq xs ys px py) sd m s) (fun k => decide (sd k = 1 - s)) (i + 1)))), (4, .int (nI (i + 1)))]) (List.forall_mem_cons.mpr ⟨rfl, List.forall_mem_cons.mpr ⟨rfl, List.forall_mem_cons.mpr ⟨(congrArg (fun z => some (Value.int z)) (congrArg (fun z : Option Nat × Int32 => fen z.1) e9).symm), List.forall_mem_cons.mpr ⟨(congrArg (fun z => some (Value.int z)) (congrArg moI e9).symm), List.forall_mem_cons.mpr ⟨rfl, fun _ h => absurd h List.not_mem_nil⟩⟩⟩⟩⟩) ?_
          exact ih (i + 1) (by omega)
        · skip
          refine V_goto (tgt := 79) dX12_toShoot_70 rfl ?_
          refine V_iincN (ls' := [(4, .int (nI (i + 1))), (5, .int (fgs (fsq xs ys px py) sd m s i)), (0, .ref 62), (1, .int (nI s)), (2, .int (fen (fbs (fgs (fsq xs ys px py) sd m s) (fun k => decide (sd k = 1 - s)) i).1)), (3, .int (moI (fbs (fgs (fsq xs ys px py) sd m s) (fun k => decide (sd k = 1 - s)) i)))]) (n := 1) dX12_toShoot_79 rfl rfl (by decide) (by decide) rfl ?_
          refine V_goto (tgt := 19) dX12_toShoot_82 rfl ?_
          have e9 : fbs (fgs (fsq xs ys px py) sd m s) (fun k => decide (sd k = 1 - s)) (i + 1) = (fbs (fgs (fsq xs ys px py) sd m s) (fun k => decide (sd k = 1 - s)) i) := fbs_no (fun _ => h67) (fgs_b hm12)
          refine V_sub2 (ls' := [(0, .ref 62), (1, .int (nI s)), (2, .int (fen (fbs (fgs (fsq xs ys px py) sd m s) (fun k => decide (sd k = 1 - s)) (i + 1)).1)), (3, .int (moI (fbs (fgs (fsq xs ys px py) sd m s) (fun k => decide (sd k = 1 - s)) (i + 1)))), (4, .int (nI (i + 1)))]) (List.forall_mem_cons.mpr ⟨rfl, List.forall_mem_cons.mpr ⟨rfl, List.forall_mem_cons.mpr ⟨(congrArg (fun z => some (Value.int z)) (congrArg (fun z : Option Nat × Int32 => fen z.1) e9).symm), List.forall_mem_cons.mpr ⟨(congrArg (fun z => some (Value.int z)) (congrArg moI e9).symm), List.forall_mem_cons.mpr ⟨rfl, fun _ h => absurd h List.not_mem_nil⟩⟩⟩⟩⟩) ?_
          exact ih (i + 1) (by omega)
    · skip
      refine V_goto (tgt := 79) dX12_toShoot_39 rfl ?_
      refine V_iincN (ls' := [(4, .int (nI (i + 1))), (0, .ref 62), (1, .int (nI s)), (2, .int (fen (fbs (fgs (fsq xs ys px py) sd m s) (fun k => decide (sd k = 1 - s)) i).1)), (3, .int (moI (fbs (fgs (fsq xs ys px py) sd m s) (fun k => decide (sd k = 1 - s)) i)))]) (n := 1) dX12_toShoot_79 rfl rfl (by decide) (by decide) rfl ?_
      refine V_goto (tgt := 19) dX12_toShoot_82 rfl ?_
      have e9 : fbs (fgs (fsq xs ys px py) sd m s) (fun k => decide (sd k = 1 - s)) (i + 1) = (fbs (fgs (fsq xs ys px py) sd m s) (fun k => decide (sd k = 1 - s)) i) := fbs_sk (by simp; omega)
      refine V_sub2 (ls' := [(0, .ref 62), (1, .int (nI s)), (2, .int (fen (fbs (fgs (fsq xs ys px py) sd m s) (fun k => decide (sd k = 1 - s)) (i + 1)).1)), (3, .int (moI (fbs (fgs (fsq xs ys px py) sd m s) (fun k => decide (sd k = 1 - s)) (i + 1)))), (4, .int (nI (i + 1)))]) (List.forall_mem_cons.mpr ⟨rfl, List.forall_mem_cons.mpr ⟨rfl, List.forall_mem_cons.mpr ⟨(congrArg (fun z => some (Value.int z)) (congrArg (fun z : Option Nat × Int32 => fen z.1) e9).symm), List.forall_mem_cons.mpr ⟨(congrArg (fun z => some (Value.int z)) (congrArg moI e9).symm), List.forall_mem_cons.mpr ⟨rfl, fun _ h => absurd h List.not_mem_nil⟩⟩⟩⟩⟩) ?_
      exact ih (i + 1) (by omega)

set_option maxRecDepth 100000 in
set_option maxHeartbeats 4000000 in
theorem w_toShootY {G : zG} {I : zI} {J : zJ} {m : Nat} {sd xs ys : Nat → Nat} {px py : Nat} (hF : fdM I m sd xs ys px py) {s : Nat} (hs : s ≤ 1) : zK G mX12_toShoot 5 [.ref 62, .int (nI s)] zsh I J (zA0 (.int (fen (fbs (fgs (fsq xs ys px py) sd m s) (fun k => decide (sd k = 1 - s)) m).1)) I J) := by
  refine zK_of kX12_toShoot.2.2.2.2.1 (Nat.le_of_ble_eq_true rfl) ?_
  show V G mX12_toShoot 5 _ 0 [(0, .ref 62), (1, .int (nI s))] [] (0, 0) zsh I J
  refine V_iload_n dX12_toShoot_0 rfl ?_
  refine V_callS (As := [.int (nI s)]) (st := []) dX12_toShoot_1 kX12_isSide lX12_196 (by decide) rfl rfl (Nat.le_of_ble_eq_true rfl) ⟨Nat.le_of_ble_eq_true rfl, Nat.le_of_ble_eq_true rfl⟩ (q_y w_isSide ((inZ_k (by omega)).mpr (by omega))) ?_
  rintro _ _ _ _ ⟨rfl, rfl, rfl, rfl⟩
  refine V_if_ne (tgt := 9) dX12_toShoot_4 rfl (fun _ => ?_) (fun h => absurd h (by decide))
  refine V_bipush (v := (-2)) dX12_toShoot_9 rfl ?_
  refine V_istore_n (ls' := [(2, .int (-2)), (0, .ref 62), (1, .int (nI s))]) dX12_toShoot_11 (by decide) rfl ?_
  refine V_ldcw dX12_toShoot_12 qX12_487 ?_
  refine V_istore_n (ls' := [(3, .int (-1000000000)), (2, .int (-2)), (0, .ref 62), (1, .int (nI s))]) dX12_toShoot_15 (by decide) rfl ?_
  refine V_iconst (v := nI 0) dX12_toShoot_16 rfl ?_
  refine V_istore (ls' := [(4, .int (nI 0)), (3, .int (-1000000000)), (2, .int (-2)), (0, .ref 62), (1, .int (nI s))]) dX12_toShoot_17 (by decide) rfl ?_
  refine V_sub2 (ls' := [(0, .ref 62), (1, .int (nI s)), (2, .int (fen (fbs (fgs (fsq xs ys px py) sd m s) (fun k => decide (sd k = 1 - s)) 0).1)), (3, .int (moI (fbs (fgs (fsq xs ys px py) sd m s) (fun k => decide (sd k = 1 - s)) 0))), (4, .int (nI 0))]) (List.forall_mem_cons.mpr ⟨rfl, List.forall_mem_cons.mpr ⟨rfl, List.forall_mem_cons.mpr ⟨(congrArg (fun z => some (Value.int z)) rfl), List.forall_mem_cons.mpr ⟨(congrArg (fun z => some (Value.int z)) rfl), List.forall_mem_cons.mpr ⟨rfl, fun _ h => absurd h List.not_mem_nil⟩⟩⟩⟩⟩) ?_
  exact lp_toShootM hF hs m 0 (Nat.zero_add _)

set_option maxRecDepth 100000 in
set_option maxHeartbeats 4000000 in
theorem w_toShootN {G : zG} {I : zI} {J : zJ} {s : Int32} (hs : ¬ inZ s 0 1) : zK G mX12_toShoot 1 [.ref 62, .int s] zsh I J (zA0 (.int (-1)) I J) := by
  refine zK_of kX12_toShoot.2.2.2.2.1 (Nat.le_of_ble_eq_true rfl) ?_
  show V G mX12_toShoot 1 _ 0 [(0, .ref 62), (1, .int s)] [] (0, 0) zsh I J
  refine V_iload_n dX12_toShoot_0 rfl ?_
  refine V_callS (As := [.int s]) (st := []) dX12_toShoot_1 kX12_isSide lX12_196 (by decide) rfl rfl (Nat.le_of_ble_eq_true rfl) ⟨Nat.le_of_ble_eq_true rfl, Nat.le_of_ble_eq_true rfl⟩ (q_n w_isSide hs) ?_
  rintro _ _ _ _ ⟨rfl, rfl, rfl, rfl⟩
  refine V_if_ne (tgt := 9) dX12_toShoot_4 rfl (fun h => absurd h (by decide)) (fun _ => ?_)
  refine V_iconst (v := (-1)) dX12_toShoot_7 rfl ?_
  exact V_iret ⟨Or.inl rfl, dX12_toShoot_8⟩ ⟨Nat.le_of_ble_eq_true rfl, Nat.le_of_ble_eq_true rfl⟩ ⟨rfl, rfl, rfl, rfl⟩

set_option maxRecDepth 100000 in
set_option maxHeartbeats 4000000 in
theorem w_onY {G : zG} {I : zI} {J : zJ} {x y : Nat} (hx : x ≤ 99) (hy : y ≤ 99) : zK G mX12_isOnField 1 [.int (nI x), .int (nI y)] zsh I J (zA0 (.int (nI 1)) I J) := by
  refine zK_of kX12_isOnField.2.2.2.2.1 (Nat.le_of_ble_eq_true rfl) ?_
  show V G mX12_isOnField 1 _ 0 [(0, .int (nI x)), (1, .int (nI y))] [] (0, 0) zsh I J
  refine V_iload_n dX12_isOnField_0 rfl ?_
  refine V_iconst (v := nI 0) dX12_isOnField_1 rfl ?_
  refine V_bipush (v := nI 99) dX12_isOnField_2 rfl ?_
  refine V_callS (As := [.int (nI x), .int (nI 0), .int (nI 99)]) (st := []) dX12_isOnField_4 kX12_in lX12_173 (by decide) rfl rfl (Nat.le_of_ble_eq_true rfl) ⟨Nat.le_of_ble_eq_true rfl, Nat.le_of_ble_eq_true rfl⟩ (w_inY rfl rfl (a := 0) (b := 99) ((inZ_k (by omega)).mpr (by omega))) ?_
  rintro _ _ _ _ ⟨rfl, rfl, rfl, rfl⟩
  refine V_if_eq (tgt := 24) dX12_isOnField_7 rfl (fun h => absurd h (by decide)) (fun _ => ?_)
  refine V_iload_n dX12_isOnField_10 rfl ?_
  refine V_iconst (v := nI 0) dX12_isOnField_11 rfl ?_
  refine V_bipush (v := nI 99) dX12_isOnField_12 rfl ?_
  refine V_callS (As := [.int (nI y), .int (nI 0), .int (nI 99)]) (st := []) dX12_isOnField_14 kX12_in lX12_173 (by decide) rfl rfl (Nat.le_of_ble_eq_true rfl) ⟨Nat.le_of_ble_eq_true rfl, Nat.le_of_ble_eq_true rfl⟩ (w_inY rfl rfl (a := 0) (b := 99) ((inZ_k (by omega)).mpr (by omega))) ?_
  rintro _ _ _ _ ⟨rfl, rfl, rfl, rfl⟩
  refine V_if_eq (tgt := 24) dX12_isOnField_17 rfl (fun h => absurd h (by decide)) (fun _ => ?_)
  refine V_iconst (v := nI 1) dX12_isOnField_20 rfl ?_
  refine V_goto (tgt := 25) dX12_isOnField_21 rfl ?_
  exact V_iret ⟨Or.inr ⟨rfl, Or.inr rfl⟩, dX12_isOnField_25⟩ ⟨Nat.le_of_ble_eq_true rfl, Nat.le_of_ble_eq_true rfl⟩ ⟨rfl, rfl, rfl, rfl⟩

set_option maxRecDepth 100000 in
set_option maxHeartbeats 4000000 in
theorem w_onN {G : zG} {I : zI} {J : zJ} {x y : Int32} (hn : ¬ (inZ x 0 99 ∧ inZ y 0 99)) : zK G mX12_isOnField 1 [.int x, .int y] zsh I J (zA0 (.int (nI 0)) I J) := by
  refine zK_of kX12_isOnField.2.2.2.2.1 (Nat.le_of_ble_eq_true rfl) ?_
  show V G mX12_isOnField 1 _ 0 [(0, .int x), (1, .int y)] [] (0, 0) zsh I J
  by_cases hx : inZ x 0 99
  · have hy : ¬ inZ y 0 99 := fun h => hn ⟨hx, h⟩
    refine V_iload_n dX12_isOnField_0 rfl ?_
    refine V_iconst (v := nI 0) dX12_isOnField_1 rfl ?_
    refine V_bipush (v := nI 99) dX12_isOnField_2 rfl ?_
    refine V_callS (As := [.int x, .int (nI 0), .int (nI 99)]) (st := []) dX12_isOnField_4 kX12_in lX12_173 (by decide) rfl rfl (Nat.le_of_ble_eq_true rfl) ⟨Nat.le_of_ble_eq_true rfl, Nat.le_of_ble_eq_true rfl⟩ (w_inY rfl rfl (a := 0) (b := 99) hx) ?_
    rintro _ _ _ _ ⟨rfl, rfl, rfl, rfl⟩
    refine V_if_eq (tgt := 24) dX12_isOnField_7 rfl (fun h => absurd h (by decide)) (fun _ => ?_)
    refine V_iload_n dX12_isOnField_10 rfl ?_
    refine V_iconst (v := nI 0) dX12_isOnField_11 rfl ?_
    refine V_bipush (v := nI 99) dX12_isOnField_12 rfl ?_
    refine V_callS (As := [.int y, .int (nI 0), .int (nI 99)]) (st := []) dX12_isOnField_14 kX12_in lX12_173 (by decide) rfl rfl (Nat.le_of_ble_eq_true rfl) ⟨Nat.le_of_ble_eq_true rfl, Nat.le_of_ble_eq_true rfl⟩ (w_inN rfl rfl (a := 0) (b := 99) hy) ?_
    rintro _ _ _ _ ⟨rfl, rfl, rfl, rfl⟩
    refine V_if_eq (tgt := 24) dX12_isOnField_17 rfl (fun _ => ?_) (fun h => absurd h (by decide))
    refine V_iconst (v := nI 0) dX12_isOnField_24 rfl ?_
    exact V_iret ⟨Or.inr ⟨rfl, Or.inl rfl⟩, dX12_isOnField_25⟩ ⟨Nat.le_of_ble_eq_true rfl, Nat.le_of_ble_eq_true rfl⟩ ⟨rfl, rfl, rfl, rfl⟩
  · skip
    refine V_iload_n dX12_isOnField_0 rfl ?_
    refine V_iconst (v := nI 0) dX12_isOnField_1 rfl ?_
    refine V_bipush (v := nI 99) dX12_isOnField_2 rfl ?_
    refine V_callS (As := [.int x, .int (nI 0), .int (nI 99)]) (st := []) dX12_isOnField_4 kX12_in lX12_173 (by decide) rfl rfl (Nat.le_of_ble_eq_true rfl) ⟨Nat.le_of_ble_eq_true rfl, Nat.le_of_ble_eq_true rfl⟩ (w_inN rfl rfl (a := 0) (b := 99) hx) ?_
    rintro _ _ _ _ ⟨rfl, rfl, rfl, rfl⟩
    refine V_if_eq (tgt := 24) dX12_isOnField_7 rfl (fun _ => ?_) (fun h => absurd h (by decide))
    refine V_iconst (v := nI 0) dX12_isOnField_24 rfl ?_
    exact V_iret ⟨Or.inr ⟨rfl, Or.inl rfl⟩, dX12_isOnField_25⟩ ⟨Nat.le_of_ble_eq_true rfl, Nat.le_of_ble_eq_true rfl⟩ ⟨rfl, rfl, rfl, rfl⟩

def faddM (I : zI) (m side x y : Nat) : zI := zwr (zwr (zwr (zwr I 97 m (nI side)) 98 m (nI x)) 99 m (nI y)) 62 56 (nI (m + 1))
set_option maxRecDepth 100000 in
set_option maxHeartbeats 4000000 in
theorem w_ballY {G : zG} {I : zI} {J : zJ} {m : Nat} {sd xs ys : Nat → Nat} {px py : Nat} (hF : fdM I m sd xs ys px py) {s x y : Nat} (hs : s ≤ 1) (hx : x ≤ 99) (hy : y ≤ 99) (h12 : m < 12) : zK G mX12_ball 2 [.ref 62, .int (nI s), .int (nI x), .int (nI y)] zsh I J (zA1 (.int (nI m)) (fun I' J' => I' = faddM I m s x y ∧ J = J')) := by
  refine zK_of kX12_ball.2.2.2.2.1 (Nat.le_of_ble_eq_true rfl) ?_
  show V G mX12_ball 2 _ 0 [(0, .ref 62), (1, .int (nI s)), (2, .int (nI x)), (3, .int (nI y))] [] (0, 0) zsh I J
  refine V_iload_n dX12_ball_0 rfl ?_
  refine V_callS (As := [.int (nI s)]) (st := []) dX12_ball_1 kX12_isSide lX12_196 (by decide) rfl rfl (Nat.le_of_ble_eq_true rfl) ⟨Nat.le_of_ble_eq_true rfl, Nat.le_of_ble_eq_true rfl⟩ (q_y w_isSide ((inZ_k (by omega)).mpr (by omega))) ?_
  rintro _ _ _ _ ⟨rfl, rfl, rfl, rfl⟩
  refine V_if_eq (tgt := 24) dX12_ball_4 rfl (fun h => absurd h (by decide)) (fun _ => ?_)
  refine V_iload_n dX12_ball_7 rfl ?_
  refine V_iload_n dX12_ball_8 rfl ?_
  refine V_callS (As := [.int (nI x), .int (nI y)]) (st := []) dX12_ball_9 kX12_isOnField lX12_466 (by decide) rfl rfl (Nat.le_of_ble_eq_true rfl) ⟨Nat.le_of_ble_eq_true rfl, Nat.le_of_ble_eq_true rfl⟩ (w_onY (by omega) (by omega)) ?_
  rintro _ _ _ _ ⟨rfl, rfl, rfl, rfl⟩
  refine V_if_eq (tgt := 24) dX12_ball_12 rfl (fun h => absurd h (by decide)) (fun _ => ?_)
  refine V_aload_n dX12_ball_15 rfl ?_
  refine V_getI dX12_ball_16 fX12_469 ⟨Nat.le_of_ble_eq_true rfl, Nat.le_of_ble_eq_true rfl⟩ rfl rfl ?_
  refine V_eqI (y := nI m) hF.1 ?_
  refine V_bipush (v := nI 12) dX12_ball_19 rfl ?_
  refine V_icmp_neN (tgt := 26) dX12_ball_21 rfl (by omega) (by omega) (fun _ => ?_) (fun h => absurd h (by omega))
  refine V_aload_n dX12_ball_26 rfl ?_
  refine V_getR (b := 97) dX12_ball_27 fX12_115 ⟨Nat.le_of_ble_eq_true rfl, Nat.le_of_ble_eq_true rfl⟩ rfl rfl rfl ?_
  refine V_aload_n dX12_ball_30 rfl ?_
  refine V_getI dX12_ball_31 fX12_469 ⟨Nat.le_of_ble_eq_true rfl, Nat.le_of_ble_eq_true rfl⟩ rfl rfl ?_
  refine V_eqI (y := nI m) hF.1 ?_
  refine V_iload_n dX12_ball_34 rfl ?_
  refine V_iastN (k := m) dX12_ball_35 ⟨Nat.le_of_ble_eq_true rfl, Nat.le_of_ble_eq_true rfl⟩ rfl (by decide) (by omega) ?_
  refine V_aload_n dX12_ball_36 rfl ?_
  refine V_getR (b := 98) dX12_ball_37 fX12_118 ⟨Nat.le_of_ble_eq_true rfl, Nat.le_of_ble_eq_true rfl⟩ rfl rfl rfl ?_
  refine V_aload_n dX12_ball_40 rfl ?_
  refine V_getI dX12_ball_41 fX12_469 ⟨Nat.le_of_ble_eq_true rfl, Nat.le_of_ble_eq_true rfl⟩ rfl rfl ?_
  refine V_eqI (y := I 62 56) rfl ?_
  refine V_eqI (y := nI m) hF.1 ?_
  refine V_iload_n dX12_ball_44 rfl ?_
  refine V_iastN (k := m) dX12_ball_45 ⟨Nat.le_of_ble_eq_true rfl, Nat.le_of_ble_eq_true rfl⟩ rfl (by decide) (by omega) ?_
  refine V_aload_n dX12_ball_46 rfl ?_
  refine V_getR (b := 99) dX12_ball_47 fX12_121 ⟨Nat.le_of_ble_eq_true rfl, Nat.le_of_ble_eq_true rfl⟩ rfl rfl rfl ?_
  refine V_aload_n dX12_ball_50 rfl ?_
  refine V_getI dX12_ball_51 fX12_469 ⟨Nat.le_of_ble_eq_true rfl, Nat.le_of_ble_eq_true rfl⟩ rfl rfl ?_
  refine V_eqI (y := I 62 56) rfl ?_
  refine V_eqI (y := nI m) hF.1 ?_
  refine V_iload_n dX12_ball_54 rfl ?_
  refine V_iastN (k := m) dX12_ball_55 ⟨Nat.le_of_ble_eq_true rfl, Nat.le_of_ble_eq_true rfl⟩ rfl (by decide) (by omega) ?_
  refine V_aload_n dX12_ball_56 rfl ?_
  refine V_aload_n dX12_ball_57 rfl ?_
  refine V_getI dX12_ball_58 fX12_469 ⟨Nat.le_of_ble_eq_true rfl, Nat.le_of_ble_eq_true rfl⟩ rfl rfl ?_
  refine V_eqI (y := I 62 56) rfl ?_
  refine V_eqI (y := nI m) hF.1 ?_
  refine V_iconst (v := nI 1) dX12_ball_61 rfl ?_
  refine V_iaddN dX12_ball_62 ?_
  refine V_putW dX12_ball_63 fX12_469 ⟨Nat.le_of_ble_eq_true rfl, Nat.le_of_ble_eq_true rfl⟩ rfl rfl rfl ⟨rfl, rfl⟩ ?_
  refine V_aload_n dX12_ball_66 rfl ?_
  refine V_getI dX12_ball_67 fX12_469 ⟨Nat.le_of_ble_eq_true rfl, Nat.le_of_ble_eq_true rfl⟩ rfl rfl ?_
  refine V_eqI (y := nI (m + 1)) rfl ?_
  refine V_iconst (v := nI 1) dX12_ball_70 rfl ?_
  refine V_isubN dX12_ball_71 (by omega) ?_
  exact V_iret ⟨Or.inl rfl, dX12_ball_72⟩ ⟨Nat.le_of_ble_eq_true rfl, Nat.le_of_ble_eq_true rfl⟩ ⟨rfl, congrArg (fun z => some (Value.int (nI z))) (by omega), rfl, rfl⟩

theorem w_onX {G : zG} {I : zI} {J : zJ} {x y : Int32} (h : inZ x 0 99 ∧ inZ y 0 99) : zK G mX12_isOnField 1 [.int x, .int y] zsh I J (zA0 (.int (nI 1)) I J) := by
  obtain ⟨a, rfl, _, ha⟩ := inZ_n h.1 (by decide)
  obtain ⟨b, rfl, _, hb⟩ := inZ_n h.2 (by decide)
  exact w_onY (by omega) (by omega)
set_option maxRecDepth 100000 in
set_option maxHeartbeats 4000000 in
theorem w_ballN {G : zG} {I : zI} {J : zJ} {m : Nat} {sd xs ys : Nat → Nat} {px py : Nat} (hF : fdM I m sd xs ys px py) {s x y : Int32} (hn : ¬ (inZ s 0 1 ∧ (inZ x 0 99 ∧ inZ y 0 99) ∧ m < 12)) : zK G mX12_ball 2 [.ref 62, .int s, .int x, .int y] zsh I J (zA0 (.int (-1)) I J) := by
  refine zK_of kX12_ball.2.2.2.2.1 (Nat.le_of_ble_eq_true rfl) ?_
  show V G mX12_ball 2 _ 0 [(0, .ref 62), (1, .int s), (2, .int x), (3, .int y)] [] (0, 0) zsh I J
  have hm12 := hF.2.1
  by_cases hs : inZ s 0 1
  · by_cases hp : inZ x 0 99 ∧ inZ y 0 99
    · have h12 : ¬ m < 12 := fun h => hn ⟨hs, hp, h⟩
      refine V_iload_n dX12_ball_0 rfl ?_
      refine V_callS (As := [.int s]) (st := []) dX12_ball_1 kX12_isSide lX12_196 (by decide) rfl rfl (Nat.le_of_ble_eq_true rfl) ⟨Nat.le_of_ble_eq_true rfl, Nat.le_of_ble_eq_true rfl⟩ (q_y w_isSide hs) ?_
      rintro _ _ _ _ ⟨rfl, rfl, rfl, rfl⟩
      refine V_if_eq (tgt := 24) dX12_ball_4 rfl (fun h => absurd h (by decide)) (fun _ => ?_)
      refine V_iload_n dX12_ball_7 rfl ?_
      refine V_iload_n dX12_ball_8 rfl ?_
      refine V_callS (As := [.int x, .int y]) (st := []) dX12_ball_9 kX12_isOnField lX12_466 (by decide) rfl rfl (Nat.le_of_ble_eq_true rfl) ⟨Nat.le_of_ble_eq_true rfl, Nat.le_of_ble_eq_true rfl⟩ (w_onX hp) ?_
      rintro _ _ _ _ ⟨rfl, rfl, rfl, rfl⟩
      refine V_if_eq (tgt := 24) dX12_ball_12 rfl (fun h => absurd h (by decide)) (fun _ => ?_)
      refine V_aload_n dX12_ball_15 rfl ?_
      refine V_getI dX12_ball_16 fX12_469 ⟨Nat.le_of_ble_eq_true rfl, Nat.le_of_ble_eq_true rfl⟩ rfl rfl ?_
      refine V_eqI (y := nI m) hF.1 ?_
      refine V_bipush (v := nI 12) dX12_ball_19 rfl ?_
      refine V_icmp_neN (tgt := 26) dX12_ball_21 rfl (by omega) (by omega) (fun h => absurd h (by omega)) (fun _ => ?_)
      refine V_iconst (v := (-1)) dX12_ball_24 rfl ?_
      exact V_iret ⟨Or.inl rfl, dX12_ball_25⟩ ⟨Nat.le_of_ble_eq_true rfl, Nat.le_of_ble_eq_true rfl⟩ ⟨rfl, rfl, rfl, rfl⟩
    · skip
      refine V_iload_n dX12_ball_0 rfl ?_
      refine V_callS (As := [.int s]) (st := []) dX12_ball_1 kX12_isSide lX12_196 (by decide) rfl rfl (Nat.le_of_ble_eq_true rfl) ⟨Nat.le_of_ble_eq_true rfl, Nat.le_of_ble_eq_true rfl⟩ (q_y w_isSide hs) ?_
      rintro _ _ _ _ ⟨rfl, rfl, rfl, rfl⟩
      refine V_if_eq (tgt := 24) dX12_ball_4 rfl (fun h => absurd h (by decide)) (fun _ => ?_)
      refine V_iload_n dX12_ball_7 rfl ?_
      refine V_iload_n dX12_ball_8 rfl ?_
      refine V_callS (As := [.int x, .int y]) (st := []) dX12_ball_9 kX12_isOnField lX12_466 (by decide) rfl rfl (Nat.le_of_ble_eq_true rfl) ⟨Nat.le_of_ble_eq_true rfl, Nat.le_of_ble_eq_true rfl⟩ (w_onN hp) ?_
      rintro _ _ _ _ ⟨rfl, rfl, rfl, rfl⟩
      refine V_if_eq (tgt := 24) dX12_ball_12 rfl (fun _ => ?_) (fun h => absurd h (by decide))
      refine V_iconst (v := (-1)) dX12_ball_24 rfl ?_
      exact V_iret ⟨Or.inl rfl, dX12_ball_25⟩ ⟨Nat.le_of_ble_eq_true rfl, Nat.le_of_ble_eq_true rfl⟩ ⟨rfl, rfl, rfl, rfl⟩
  · skip
    refine V_iload_n dX12_ball_0 rfl ?_
    refine V_callS (As := [.int s]) (st := []) dX12_ball_1 kX12_isSide lX12_196 (by decide) rfl rfl (Nat.le_of_ble_eq_true rfl) ⟨Nat.le_of_ble_eq_true rfl, Nat.le_of_ble_eq_true rfl⟩ (q_n w_isSide hs) ?_
    rintro _ _ _ _ ⟨rfl, rfl, rfl, rfl⟩
    refine V_if_eq (tgt := 24) dX12_ball_4 rfl (fun _ => ?_) (fun h => absurd h (by decide))
    refine V_iconst (v := (-1)) dX12_ball_24 rfl ?_
    exact V_iret ⟨Or.inl rfl, dX12_ball_25⟩ ⟨Nat.le_of_ble_eq_true rfl, Nat.le_of_ble_eq_true rfl⟩ ⟨rfl, rfl, rfl, rfl⟩

set_option maxRecDepth 100000 in
set_option maxHeartbeats 4000000 in
theorem w_pigY {G : zG} {I : zI} {J : zJ} {x y : Nat} (hx : x ≤ 99) (hy : y ≤ 99) : zK G mX12_pig 2 [.ref 62, .int (nI x), .int (nI y)] zsh I J (zA1 (.int (nI 1)) (fun I' J' => I' = zwr (zwr I 62 57 (nI x)) 62 58 (nI y) ∧ J = J')) := by
  refine zK_of kX12_pig.2.2.2.2.1 (Nat.le_of_ble_eq_true rfl) ?_
  show V G mX12_pig 2 _ 0 [(0, .ref 62), (1, .int (nI x)), (2, .int (nI y))] [] (0, 0) zsh I J
  refine V_iload_n dX12_pig_0 rfl ?_
  refine V_iload_n dX12_pig_1 rfl ?_
  refine V_callS (As := [.int (nI x), .int (nI y)]) (st := []) dX12_pig_2 kX12_isOnField lX12_466 (by decide) rfl rfl (Nat.le_of_ble_eq_true rfl) ⟨Nat.le_of_ble_eq_true rfl, Nat.le_of_ble_eq_true rfl⟩ (w_onY (by omega) (by omega)) ?_
  rintro _ _ _ _ ⟨rfl, rfl, rfl, rfl⟩
  refine V_if_ne (tgt := 10) dX12_pig_5 rfl (fun _ => ?_) (fun h => absurd h (by decide))
  refine V_aload_n dX12_pig_10 rfl ?_
  refine V_iload_n dX12_pig_11 rfl ?_
  refine V_putW dX12_pig_12 fX12_149 ⟨Nat.le_of_ble_eq_true rfl, Nat.le_of_ble_eq_true rfl⟩ rfl rfl rfl ⟨rfl, rfl⟩ ?_
  refine V_aload_n dX12_pig_15 rfl ?_
  refine V_iload_n dX12_pig_16 rfl ?_
  refine V_putW dX12_pig_17 fX12_152 ⟨Nat.le_of_ble_eq_true rfl, Nat.le_of_ble_eq_true rfl⟩ rfl rfl rfl ⟨rfl, rfl⟩ ?_
  refine V_iconst (v := nI 1) dX12_pig_20 rfl ?_
  exact V_iret ⟨Or.inr ⟨rfl, Or.inr rfl⟩, dX12_pig_21⟩ ⟨Nat.le_of_ble_eq_true rfl, Nat.le_of_ble_eq_true rfl⟩ ⟨rfl, rfl, rfl, rfl⟩

set_option maxRecDepth 100000 in
set_option maxHeartbeats 4000000 in
theorem w_pigN {G : zG} {I : zI} {J : zJ} {x y : Int32} (hn : ¬ (inZ x 0 99 ∧ inZ y 0 99)) : zK G mX12_pig 2 [.ref 62, .int x, .int y] zsh I J (zA0 (.int (nI 0)) I J) := by
  refine zK_of kX12_pig.2.2.2.2.1 (Nat.le_of_ble_eq_true rfl) ?_
  show V G mX12_pig 2 _ 0 [(0, .ref 62), (1, .int x), (2, .int y)] [] (0, 0) zsh I J
  refine V_iload_n dX12_pig_0 rfl ?_
  refine V_iload_n dX12_pig_1 rfl ?_
  refine V_callS (As := [.int x, .int y]) (st := []) dX12_pig_2 kX12_isOnField lX12_466 (by decide) rfl rfl (Nat.le_of_ble_eq_true rfl) ⟨Nat.le_of_ble_eq_true rfl, Nat.le_of_ble_eq_true rfl⟩ (w_onN hn) ?_
  rintro _ _ _ _ ⟨rfl, rfl, rfl, rfl⟩
  refine V_if_ne (tgt := 10) dX12_pig_5 rfl (fun h => absurd h (by decide)) (fun _ => ?_)
  refine V_iconst (v := nI 0) dX12_pig_8 rfl ?_
  exact V_iret ⟨Or.inr ⟨rfl, Or.inl rfl⟩, dX12_pig_9⟩ ⟨Nat.le_of_ble_eq_true rfl, Nat.le_of_ble_eq_true rfl⟩ ⟨rfl, rfl, rfl, rfl⟩

def fremM (I : zI) (i k : Nat) : zI := zup (zup (zup I 97 (shl (I 97) i k)) 98 (shl (I 98) i k)) 99 (shl (I 99) i k)
theorem fremM_0 {I : zI} {i : Nat} : fremM I i i = I := by
  unfold fremM
  rw [shl_0, shl_0, shl_0]
  funext a
  by_cases h : a = 99
  · subst h; exact zup_s
  · rw [zup_n h]
    by_cases h : a = 98
    · subst h; exact zup_s
    · rw [zup_n h]
      by_cases h : a = 97
      · subst h; exact zup_s
      · exact zup_n h
theorem fremM_s {I : zI} {i k : Nat} (h : i ≤ k) : zwr (zwr (zwr (fremM I i k) 97 k (I 97 (k + 1))) 98 k (I 98 (k + 1))) 99 k (I 99 (k + 1)) = fremM I i (k + 1) := by
  funext a j
  have e := fun (f : Nat → Int32) => congrFun (shl_s f h) j
  unfold fremM
  simp only [zwr_at]
  by_cases h9 : a = 99
  · subst h9
    rw [zup_s, zup_s]
    have := e (I 99)
    unfold upd at this
    by_cases hj : j = k
    · subst hj; simp_all
    · simp_all
  · by_cases h8 : a = 98
    · subst h8
      have := e (I 98)
      unfold upd at this
      by_cases hj : j = k
      · subst hj; simp_all [zup_n, zup_s]
      · simp_all [zup_n, zup_s]
    · by_cases h7 : a = 97
      · subst h7
        have := e (I 97)
        unfold upd at this
        by_cases hj : j = k
        · subst hj; simp_all [zup_n, zup_s]
        · simp_all [zup_n, zup_s]
      · simp [h9, h8, h7, zup_n]
set_option maxRecDepth 100000 in
set_option maxHeartbeats 4000000 in
theorem lp_gone {G : zG} {I : zI} {J : zJ} {m : Nat} {sd xs ys : Nat → Nat} {px py : Nat} (hF : fdM I m sd xs ys px py) {i : Nat} (hi : i < m) : ∀ n k, k + 1 + n = m → i ≤ k → V G mX12_gone 1 (zA1 (.int (nI 1)) (fun I' J' => I' = zwr (fremM I i (m - 1)) 62 56 (nI (m - 1)) ∧ J = J')) 18 [(0, .ref 62), (1, .int (nI i)), (2, .int (nI k))] [] (0, 0) zsh (fremM I i k) J := by
  have hm12 := hF.2.1
  intro n
  induction n with
  | zero =>
    intro k hk hik
    refine V_iload_n dX12_gone_18 rfl ?_
    refine V_iconst (v := nI 1) dX12_gone_19 rfl ?_
    refine V_iaddN dX12_gone_20 ?_
    refine V_aload_n dX12_gone_21 rfl ?_
    refine V_getI dX12_gone_22 fX12_469 ⟨Nat.le_of_ble_eq_true rfl, Nat.le_of_ble_eq_true rfl⟩ rfl rfl ?_
    refine V_eqI (y := nI m) ((congrFun (by unfold fremM; exact (zup_n (by decide)).trans ((zup_n (by decide)).trans (zup_n (by decide)))) 56).trans hF.1) ?_
    refine V_icmp_geN (tgt := 76) dX12_gone_25 rfl (by omega) (by omega) (fun _ => ?_) (fun h => absurd h (by omega))
    refine V_aload_n dX12_gone_76 rfl ?_
    refine V_aload_n dX12_gone_77 rfl ?_
    refine V_getI dX12_gone_78 fX12_469 ⟨Nat.le_of_ble_eq_true rfl, Nat.le_of_ble_eq_true rfl⟩ rfl rfl ?_
    refine V_eqI (y := nI m) ((congrFun (by unfold fremM; exact (zup_n (by decide)).trans ((zup_n (by decide)).trans (zup_n (by decide)))) 56).trans hF.1) ?_
    refine V_iconst (v := nI 1) dX12_gone_81 rfl ?_
    refine V_isubN dX12_gone_82 (by omega) ?_
    refine V_putW dX12_gone_83 fX12_469 ⟨Nat.le_of_ble_eq_true rfl, Nat.le_of_ble_eq_true rfl⟩ rfl rfl rfl ⟨rfl, rfl⟩ ?_
    refine V_iconst (v := nI 1) dX12_gone_86 rfl ?_
    exact V_iret ⟨Or.inr ⟨rfl, Or.inr rfl⟩, dX12_gone_87⟩ ⟨Nat.le_of_ble_eq_true rfl, Nat.le_of_ble_eq_true rfl⟩ ⟨rfl, rfl, by rw [show k = m - 1 by omega], rfl⟩
  | succ n ih =>
    intro k hk hik
    refine V_iload_n dX12_gone_18 rfl ?_
    refine V_iconst (v := nI 1) dX12_gone_19 rfl ?_
    refine V_iaddN dX12_gone_20 ?_
    refine V_aload_n dX12_gone_21 rfl ?_
    refine V_getI dX12_gone_22 fX12_469 ⟨Nat.le_of_ble_eq_true rfl, Nat.le_of_ble_eq_true rfl⟩ rfl rfl ?_
    refine V_eqI (y := nI m) ((congrFun (by unfold fremM; exact (zup_n (by decide)).trans ((zup_n (by decide)).trans (zup_n (by decide)))) 56).trans hF.1) ?_
    refine V_icmp_geN (tgt := 76) dX12_gone_25 rfl (by omega) (by omega) (fun h => absurd h (by omega)) (fun _ => ?_)
    refine V_aload_n dX12_gone_28 rfl ?_
    refine V_getR (b := 97) dX12_gone_29 fX12_115 ⟨Nat.le_of_ble_eq_true rfl, Nat.le_of_ble_eq_true rfl⟩ rfl rfl rfl ?_
    refine V_iload_n dX12_gone_32 rfl ?_
    refine V_aload_n dX12_gone_33 rfl ?_
    refine V_getR (b := 97) dX12_gone_34 fX12_115 ⟨Nat.le_of_ble_eq_true rfl, Nat.le_of_ble_eq_true rfl⟩ rfl rfl rfl ?_
    refine V_iload_n dX12_gone_37 rfl ?_
    refine V_iconst (v := nI 1) dX12_gone_38 rfl ?_
    refine V_iaddN dX12_gone_39 ?_
    refine V_ialdN (k := k + 1) dX12_gone_40 ⟨Nat.le_of_ble_eq_true rfl, Nat.le_of_ble_eq_true rfl⟩ rfl (by decide) (by omega) ?_
    refine V_eqI (y := I 97 (k + 1)) ((congrFun (show fremM I i k 97 = shl (I 97) i k by unfold fremM; exact (zup_n (by decide)).trans ((zup_n (by decide)).trans zup_s)) (k + 1)).trans (shl_at _)) ?_
    refine V_iastN (k := k) dX12_gone_41 ⟨Nat.le_of_ble_eq_true rfl, Nat.le_of_ble_eq_true rfl⟩ rfl (by decide) (by omega) ?_
    refine V_aload_n dX12_gone_42 rfl ?_
    refine V_getR (b := 98) dX12_gone_43 fX12_118 ⟨Nat.le_of_ble_eq_true rfl, Nat.le_of_ble_eq_true rfl⟩ rfl rfl rfl ?_
    refine V_iload_n dX12_gone_46 rfl ?_
    refine V_aload_n dX12_gone_47 rfl ?_
    refine V_getR (b := 98) dX12_gone_48 fX12_118 ⟨Nat.le_of_ble_eq_true rfl, Nat.le_of_ble_eq_true rfl⟩ rfl rfl rfl ?_
    refine V_iload_n dX12_gone_51 rfl ?_
    refine V_iconst (v := nI 1) dX12_gone_52 rfl ?_
    refine V_iaddN dX12_gone_53 ?_
    refine V_ialdN (k := k + 1) dX12_gone_54 ⟨Nat.le_of_ble_eq_true rfl, Nat.le_of_ble_eq_true rfl⟩ rfl (by decide) (by omega) ?_
    refine V_eqI (y := (fremM I i k) 98 (k + 1)) rfl ?_
    refine V_eqI (y := I 98 (k + 1)) ((congrFun (show fremM I i k 98 = shl (I 98) i k by unfold fremM; exact (zup_n (by decide)).trans zup_s) (k + 1)).trans (shl_at _)) ?_
    refine V_iastN (k := k) dX12_gone_55 ⟨Nat.le_of_ble_eq_true rfl, Nat.le_of_ble_eq_true rfl⟩ rfl (by decide) (by omega) ?_
    refine V_aload_n dX12_gone_56 rfl ?_
    refine V_getR (b := 99) dX12_gone_57 fX12_121 ⟨Nat.le_of_ble_eq_true rfl, Nat.le_of_ble_eq_true rfl⟩ rfl rfl rfl ?_
    refine V_iload_n dX12_gone_60 rfl ?_
    refine V_aload_n dX12_gone_61 rfl ?_
    refine V_getR (b := 99) dX12_gone_62 fX12_121 ⟨Nat.le_of_ble_eq_true rfl, Nat.le_of_ble_eq_true rfl⟩ rfl rfl rfl ?_
    refine V_iload_n dX12_gone_65 rfl ?_
    refine V_iconst (v := nI 1) dX12_gone_66 rfl ?_
    refine V_iaddN dX12_gone_67 ?_
    refine V_ialdN (k := k + 1) dX12_gone_68 ⟨Nat.le_of_ble_eq_true rfl, Nat.le_of_ble_eq_true rfl⟩ rfl (by decide) (by omega) ?_
    refine V_eqI (y := (fremM I i k) 99 (k + 1)) rfl ?_
    refine V_eqI (y := I 99 (k + 1)) ((congrFun (show fremM I i k 99 = shl (I 99) i k by unfold fremM; exact zup_s) (k + 1)).trans (shl_at _)) ?_
    refine V_iastN (k := k) dX12_gone_69 ⟨Nat.le_of_ble_eq_true rfl, Nat.le_of_ble_eq_true rfl⟩ rfl (by decide) (by omega) ?_
    refine V_iincN (ls' := [(2, .int (nI (k + 1))), (0, .ref 62), (1, .int (nI i))]) (n := 1) dX12_gone_70 rfl rfl (by decide) (by decide) rfl ?_
    refine V_goto (tgt := 18) dX12_gone_73 rfl ?_
    rw [fremM_s hik]
    refine V_sub2 (ls' := [(0, .ref 62), (1, .int (nI i)), (2, .int (nI (k + 1)))]) (List.forall_mem_cons.mpr ⟨rfl, List.forall_mem_cons.mpr ⟨rfl, List.forall_mem_cons.mpr ⟨rfl, fun _ h => absurd h List.not_mem_nil⟩⟩⟩) ?_
    exact ih (k + 1) (by omega) (by omega)

set_option maxRecDepth 100000 in
set_option maxHeartbeats 4000000 in
theorem w_goneY {G : zG} {I : zI} {J : zJ} {m : Nat} {sd xs ys : Nat → Nat} {px py : Nat} (hF : fdM I m sd xs ys px py) {i : Nat} (hi : i < m) : zK G mX12_gone 1 [.ref 62, .int (nI i)] zsh I J (zA1 (.int (nI 1)) (fun I' J' => I' = zwr (fremM I i (m - 1)) 62 56 (nI (m - 1)) ∧ J = J')) := by
  refine zK_of kX12_gone.2.2.2.2.1 (Nat.le_of_ble_eq_true rfl) ?_
  show V G mX12_gone 1 _ 0 [(0, .ref 62), (1, .int (nI i))] [] (0, 0) zsh I J
  have hm12 := hF.2.1
  refine V_iload_n dX12_gone_0 rfl ?_
  refine V_iconst (v := nI 0) dX12_gone_1 rfl ?_
  refine V_aload_n dX12_gone_2 rfl ?_
  refine V_getI dX12_gone_3 fX12_469 ⟨Nat.le_of_ble_eq_true rfl, Nat.le_of_ble_eq_true rfl⟩ rfl rfl ?_
  refine V_eqI (y := nI m) hF.1 ?_
  refine V_iconst (v := nI 1) dX12_gone_6 rfl ?_
  refine V_isubN dX12_gone_7 (by omega) ?_
  refine V_callS (As := [.int (nI i), .int (nI 0), .int (nI (m - 1))]) (st := []) dX12_gone_8 kX12_in lX12_173 (by decide) rfl rfl (Nat.le_of_ble_eq_true rfl) ⟨Nat.le_of_ble_eq_true rfl, Nat.le_of_ble_eq_true rfl⟩ (w_inY (a := 0) rfl (nI_toInt (by omega)) ((inZ_k (by omega)).mpr (by omega))) ?_
  rintro _ _ _ _ ⟨rfl, rfl, rfl, rfl⟩
  refine V_if_ne (tgt := 16) dX12_gone_11 rfl (fun _ => ?_) (fun h => absurd h (by decide))
  refine V_iload_n dX12_gone_16 rfl ?_
  refine V_istore_n (ls' := [(2, .int (nI i)), (0, .ref 62), (1, .int (nI i))]) dX12_gone_17 (by decide) rfl ?_
  refine V_sub2 (ls' := [(0, .ref 62), (1, .int (nI i)), (2, .int (nI i))]) (List.forall_mem_cons.mpr ⟨rfl, List.forall_mem_cons.mpr ⟨rfl, List.forall_mem_cons.mpr ⟨rfl, fun _ h => absurd h List.not_mem_nil⟩⟩⟩) ?_
  have e := lp_gone (G := G) (J := J) hF hi (m - 1 - i) i (by omega) (Nat.le_refl _)
  rw [fremM_0] at e
  exact e

set_option maxRecDepth 100000 in
set_option maxHeartbeats 4000000 in
theorem w_goneN {G : zG} {I : zI} {J : zJ} {m : Nat} {sd xs ys : Nat → Nat} {px py : Nat} (hF : fdM I m sd xs ys px py) {i : Int32} (hn : ¬ (0 ≤ i.toInt ∧ i.toInt < m)) : zK G mX12_gone 1 [.ref 62, .int i] zsh I J (zA0 (.int (nI 0)) I J) := by
  refine zK_of kX12_gone.2.2.2.2.1 (Nat.le_of_ble_eq_true rfl) ?_
  show V G mX12_gone 1 _ 0 [(0, .ref 62), (1, .int i)] [] (0, 0) zsh I J
  have hm12 := hF.2.1
  refine V_iload_n dX12_gone_0 rfl ?_
  refine V_iconst (v := nI 0) dX12_gone_1 rfl ?_
  refine V_aload_n dX12_gone_2 rfl ?_
  refine V_getI dX12_gone_3 fX12_469 ⟨Nat.le_of_ble_eq_true rfl, Nat.le_of_ble_eq_true rfl⟩ rfl rfl ?_
  refine V_eqI (y := nI m) hF.1 ?_
  refine V_iconst (v := nI 1) dX12_gone_6 rfl ?_
  refine V_isub dX12_gone_7 ?_
  refine V_callS (As := [.int i, .int (nI 0), .int (nI m - nI 1)]) (st := []) dX12_gone_8 kX12_in lX12_173 (by decide) rfl rfl (Nat.le_of_ble_eq_true rfl) ⟨Nat.le_of_ble_eq_true rfl, Nat.le_of_ble_eq_true rfl⟩ (w_inN (a := 0) rfl (subI (by omega) (by decide)) (fun h => hn (by have h1 := h.1; have h2 := h.2; omega))) ?_
  rintro _ _ _ _ ⟨rfl, rfl, rfl, rfl⟩
  refine V_if_ne (tgt := 16) dX12_gone_11 rfl (fun h => absurd h (by decide)) (fun _ => ?_)
  refine V_iconst (v := nI 0) dX12_gone_14 rfl ?_
  exact V_iret ⟨Or.inr ⟨rfl, Or.inl rfl⟩, dX12_gone_15⟩ ⟨Nat.le_of_ble_eq_true rfl, Nat.le_of_ble_eq_true rfl⟩ ⟨rfl, rfl, rfl, rfl⟩

