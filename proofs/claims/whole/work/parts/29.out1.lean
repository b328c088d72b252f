/-! THE CLASS: what it tells of states -/
/-- the state that is told, if it is one -/
def stO (code other last : Int32) : Option (Nat × Nat × Nat) := match zpl code, zpl other with
  | some p, some q => if inZ last 0 1 then some (p, q, last.toInt.toNat) else none
  | _, _ => none
theorem zpl_lt {c : Int32} {p : Nat} (h : zpl c = some p) : p < 56 := by
  have := List.mem_of_find?_eq_some h
  exact List.mem_range.mp this
theorem stO_s {code other last : Int32} {p q l : Nat} (h : stO code other last = some (p, q, l)) : zpl code = some p ∧ zpl other = some q ∧ last = nI l ∧ l ≤ 1 ∧ p < 56 ∧ q < 56 := by
  unfold stO at h
  cases hp : zpl code with
  | none => rw [hp] at h; exact absurd h (by simp)
  | some p' =>
    cases hq : zpl other with
    | none => rw [hp, hq] at h; exact absurd h (by simp)
    | some q' =>
      rw [hp, hq] at h
      by_cases hl : inZ last 0 1
      · have e : (if inZ last 0 1 then some (p', q', last.toInt.toNat) else none) = some (p, q, l) := h
        rw [if_pos hl] at e
        injection e with e
        injection e with e1 e2
        injection e2 with e2 e3
        obtain ⟨k, hk, hk1, hk2⟩ := inZ_n hl (by decide)
        subst hk
        rw [nI_toInt (by omega)] at e3
        have e4 : k = l := by omega
        subst e1 e2 e4
        exact ⟨rfl, rfl, rfl, by omega, zpl_lt hp, zpl_lt hq⟩
      · have e : (if inZ last 0 1 then some (p', q', last.toInt.toNat) else none) = some (p, q, l) := h
        rw [if_neg hl] at e
        exact absurd e (by simp)
theorem stO_n {code other last : Int32} (h : stO code other last = none) : (pen (zpl code)).toInt < 0 ∨ (pen (zpl other)).toInt < 0 ∨ ¬ inZ last 0 1 := by
  unfold stO at h
  cases hp : zpl code with
  | none => exact Or.inl (by decide)
  | some p' =>
    cases hq : zpl other with
    | none => exact Or.inr (Or.inl (by decide))
    | some q' =>
      rw [hp, hq] at h
      have e : (if inZ last 0 1 then some (p', q', last.toInt.toNat) else none) = none := h
      refine Or.inr (Or.inr (fun hl => ?_))
      rw [if_pos hl] at e
      exact absurd e (by simp)
def onS {α : Type} (o : Option (Nat × Nat × Nat)) (d : α) (f : Nat → Nat → Nat → α) : α := match o with
  | none => d
  | some (p, q, l) => f p q l
/-- 0 or 1, else what is refused -/
def on01 {α : Type} (x : Int32) (d a b : α) : α := if x = nI 0 then a else if x = nI 1 then b else d
theorem on01_n {α : Type} {x : Int32} {d a b : α} (h : ¬ inZ x 0 1) : on01 x d a b = d := by
  unfold on01
  rw [if_neg (fun e => h (by subst e; decide)), if_neg (fun e => h (by subst e; decide))]
theorem inZ01 {x : Int32} (h : inZ x 0 1) : x = nI 0 ∨ x = nI 1 := by
  obtain ⟨k, hk, h1, h2⟩ := inZ_n h (by decide)
  rcases (show k = 0 ∨ k = 1 by omega) with e | e <;> subst e <;> simp [hk]
theorem c_placeS {G : zG} {I : zI} {J : zJ} {code : Int32} {p : Nat} (h : zpl code = some p) : zK G mX2_placeOf 1 [.ref 10, .int code] zsh I J (zA0 (.int (nI p)) I J) := by
  have e := c_placeOf2 (G := G) (I := I) (J := J) (code := code)
  rw [h] at e
  exact e
set_option maxRecDepth 100000 in
set_option maxHeartbeats 4000000 in
theorem c_isStateY {G : zG} {I : zI} {J : zJ} {p q l : Nat} (hp : p < 56) (hq : q < 56) (hl : l ≤ 1) : zK G mX11_isState 1 [.ref 2, .int (nI p), .int (nI q), .int (nI l)] zsh I J (zA0 (.int (nI 1)) I J) := by
  refine zK_of kX11_isState.2.2.2.2.1 (Nat.le_of_ble_eq_true rfl) ?_
  show V G mX11_isState 1 _ 0 [(0, .ref 2), (1, .int (nI p)), (2, .int (nI q)), (3, .int (nI l))] [] (0, 0) zsh I J
  refine V_iload_n dX11_isState_0 rfl ?_
  refine V_if_ltN (tgt := 19) dX11_isState_1 rfl (by omega) ?_
  refine V_iload_n dX11_isState_4 rfl ?_
  refine V_if_ltN (tgt := 19) dX11_isState_5 rfl (by omega) ?_
  refine V_iload_n dX11_isState_8 rfl ?_
  refine V_callS (As := [.int (nI l)]) (st := []) dX11_isState_9 kX11_isSide lX11_198 (by decide) rfl rfl (Nat.le_of_ble_eq_true rfl) ⟨Nat.le_of_ble_eq_true rfl, Nat.le_of_ble_eq_true rfl⟩ (q_y q_isSide ((inZ_k (by omega)).mpr (by omega))) ?_
  rintro _ _ _ _ ⟨rfl, rfl, rfl, rfl⟩
  refine V_if_eq (tgt := 19) dX11_isState_12 rfl (fun h => absurd h (by decide)) (fun _ => ?_)
  refine V_iconst (v := nI 1) dX11_isState_15 rfl ?_
  refine V_goto (tgt := 20) dX11_isState_16 rfl ?_
  exact V_iret ⟨Or.inr ⟨rfl, Or.inr rfl⟩, dX11_isState_20⟩ ⟨Nat.le_of_ble_eq_true rfl, Nat.le_of_ble_eq_true rfl⟩ ⟨rfl, rfl, rfl, rfl⟩

set_option maxRecDepth 100000 in
set_option maxHeartbeats 4000000 in
theorem c_isStateN {G : zG} {I : zI} {J : zJ} {x y l : Int32} (h : x.toInt < 0 ∨ y.toInt < 0 ∨ ¬ inZ l 0 1) : zK G mX11_isState 1 [.ref 2, .int x, .int y, .int l] zsh I J (zA0 (.int (nI 0)) I J) := by
  refine zK_of kX11_isState.2.2.2.2.1 (Nat.le_of_ble_eq_true rfl) ?_
  show V G mX11_isState 1 _ 0 [(0, .ref 2), (1, .int x), (2, .int y), (3, .int l)] [] (0, 0) zsh I J
  by_cases hs : inZ l 0 1
  · skip
    refine V_iload_n dX11_isState_0 rfl ?_
    refine V_if_ltZ (tgt := 19) (a := x.toInt) dX11_isState_1 rfl rfl (fun h1 => ?_) (fun h1 => ?_)
    · skip
      refine V_iconst (v := nI 0) dX11_isState_19 rfl ?_
      exact V_iret ⟨Or.inr ⟨rfl, Or.inl rfl⟩, dX11_isState_20⟩ ⟨Nat.le_of_ble_eq_true rfl, Nat.le_of_ble_eq_true rfl⟩ ⟨rfl, rfl, rfl, rfl⟩
    · skip
      refine V_iload_n dX11_isState_4 rfl ?_
      refine V_if_ltZ (tgt := 19) (a := y.toInt) dX11_isState_5 rfl rfl (fun h5 => ?_) (fun h5 => ?_)
      · skip
        refine V_iconst (v := nI 0) dX11_isState_19 rfl ?_
        exact V_iret ⟨Or.inr ⟨rfl, Or.inl rfl⟩, dX11_isState_20⟩ ⟨Nat.le_of_ble_eq_true rfl, Nat.le_of_ble_eq_true rfl⟩ ⟨rfl, rfl, rfl, rfl⟩
      · skip
        refine V_iload_n dX11_isState_8 rfl ?_
        refine V_callS (As := [.int l]) (st := []) dX11_isState_9 kX11_isSide lX11_198 (by decide) rfl rfl (Nat.le_of_ble_eq_true rfl) ⟨Nat.le_of_ble_eq_true rfl, Nat.le_of_ble_eq_true rfl⟩ (q_y q_isSide hs) ?_
        rintro _ _ _ _ ⟨rfl, rfl, rfl, rfl⟩
        refine V_if_eq (tgt := 19) dX11_isState_12 rfl (fun h => absurd h (by decide)) (fun _ => ?_)
        exfalso
        rcases h with h | h | h
        · omega
        · omega
        · exact h hs
  · skip
    refine V_iload_n dX11_isState_0 rfl ?_
    refine V_if_ltZ (tgt := 19) (a := x.toInt) dX11_isState_1 rfl rfl (fun h1 => ?_) (fun h1 => ?_)
    · skip
      refine V_iconst (v := nI 0) dX11_isState_19 rfl ?_
      exact V_iret ⟨Or.inr ⟨rfl, Or.inl rfl⟩, dX11_isState_20⟩ ⟨Nat.le_of_ble_eq_true rfl, Nat.le_of_ble_eq_true rfl⟩ ⟨rfl, rfl, rfl, rfl⟩
    · skip
      refine V_iload_n dX11_isState_4 rfl ?_
      refine V_if_ltZ (tgt := 19) (a := y.toInt) dX11_isState_5 rfl rfl (fun h5 => ?_) (fun h5 => ?_)
      · skip
        refine V_iconst (v := nI 0) dX11_isState_19 rfl ?_
        exact V_iret ⟨Or.inr ⟨rfl, Or.inl rfl⟩, dX11_isState_20⟩ ⟨Nat.le_of_ble_eq_true rfl, Nat.le_of_ble_eq_true rfl⟩ ⟨rfl, rfl, rfl, rfl⟩
      · skip
        refine V_iload_n dX11_isState_8 rfl ?_
        refine V_callS (As := [.int l]) (st := []) dX11_isState_9 kX11_isSide lX11_198 (by decide) rfl rfl (Nat.le_of_ble_eq_true rfl) ⟨Nat.le_of_ble_eq_true rfl, Nat.le_of_ble_eq_true rfl⟩ (q_n q_isSide hs) ?_
        rintro _ _ _ _ ⟨rfl, rfl, rfl, rfl⟩
        refine V_if_eq (tgt := 19) dX11_isState_12 rfl (fun _ => ?_) (fun h => absurd h (by decide))
        refine V_iconst (v := nI 0) dX11_isState_19 rfl ?_
        exact V_iret ⟨Or.inr ⟨rfl, Or.inl rfl⟩, dX11_isState_20⟩ ⟨Nat.le_of_ble_eq_true rfl, Nat.le_of_ble_eq_true rfl⟩ ⟨rfl, rfl, rfl, rfl⟩

/-- clauses of the law and of the rules -/
def cC (I : zI) (c0 : Nat) (cc : Nat → Nat) : Prop := I 16 2 = nI c0 ∧ c0 ≤ 16 ∧ ∀ k, k < 4 → I (19 + 2 * k) 2 = nI (cc k) ∧ cc k ≤ 16
/-- a rule that is told -/
abbrev tld (cc : Nat → Nat) (x : Int32) : Prop := inZ x 0 3 ∧ 0 < cc x.toInt.toNat
abbrev ply (cc : Nat → Nat) (x : Int32) : Prop := x = -1 ∨ tld cc x
theorem tld_k {cc : Nat → Nat} {k : Nat} (hk : k < 4) : tld cc (nI k) ↔ 0 < cc k := by
  unfold tld inZ
  rw [nI_toInt (by omega)]
  constructor
  · intro h
    have e := h.2
    rw [show ((k : Int)).toNat = k by omega] at e
    exact e
  · intro h
    refine ⟨by omega, ?_⟩
    rw [show ((k : Int)).toNat = k by omega]
    exact h
theorem inZ03 {x : Int32} (h : inZ x 0 3) : x = nI 0 ∨ x = nI 1 ∨ x = nI 2 ∨ x = nI 3 := by
  obtain ⟨k, hk, h1, h2⟩ := inZ_n h (by decide)
  rcases (show k = 0 ∨ k = 1 ∨ k = 2 ∨ k = 3 by omega) with e | e | e | e <;> subst e <;> simp [hk]
set_option maxRecDepth 100000 in
set_option maxHeartbeats 4000000 in
theorem q_isTold {G : zG} {I : zI} {J : zJ} {c0 : Nat} {cc : Nat → Nat} (hC : cC I c0 cc) {x : Int32} : zK G mX11_isTold 1 [.ref 2, .int x] zsh I J (zA0 (.int (nI (if tld cc x then 1 else 0))) I J) := by
  refine zK_of kX11_isTold.2.2.2.2.1 (Nat.le_of_ble_eq_true rfl) ?_
  show V G mX11_isTold 1 _ 0 [(0, .ref 2), (1, .int x)] [] (0, 0) zsh I J
  by_cases hR : inZ x 0 3
  · have hR9 := hR
    rcases inZ03 hR9 with e | e | e | e <;> subst e
    · skip
      refine V_iload_n dX11_isTold_0 rfl ?_
      refine V_callS (As := [.int (nI 0)]) (st := []) dX11_isTold_1 kX11_isRule lX11_137 (by decide) rfl rfl (Nat.le_of_ble_eq_true rfl) ⟨Nat.le_of_ble_eq_true rfl, Nat.le_of_ble_eq_true rfl⟩ (q_y q_isRule hR) ?_
      rintro _ _ _ _ ⟨rfl, rfl, rfl, rfl⟩
      refine V_if_eq (tgt := 23) dX11_isTold_4 rfl (fun h => absurd h (by decide)) (fun _ => ?_)
      refine V_aload_n dX11_isTold_7 rfl ?_
      refine V_getR (b := 18) dX11_isTold_8 fX11_53 ⟨Nat.le_of_ble_eq_true rfl, Nat.le_of_ble_eq_true rfl⟩ rfl rfl rfl ?_
      refine V_iload_n dX11_isTold_11 rfl ?_
      refine V_aald (b := 19) dX11_isTold_12 ⟨Nat.le_of_ble_eq_true rfl, Nat.le_of_ble_eq_true rfl⟩ rfl (vp_in_nI (by decide) (by decide)) (by decide) ?_
      refine V_getI dX11_isTold_13 fX11_351 ⟨Nat.le_of_ble_eq_true rfl, Nat.le_of_ble_eq_true rfl⟩ rfl rfl ?_
      refine V_eqI (y := nI (cc 0)) (hC.2.2 0 (by decide)).1 ?_
      refine V_if_leN (tgt := 23) dX11_isTold_16 rfl (by have := (hC.2.2 0 (by decide)).2; omega) (fun h16 => ?_) (fun h16 => ?_)
      · skip
        refine V_iconst (v := nI 0) dX11_isTold_23 rfl ?_
        exact V_iret ⟨Or.inr ⟨rfl, Or.inl rfl⟩, dX11_isTold_24⟩ ⟨Nat.le_of_ble_eq_true rfl, Nat.le_of_ble_eq_true rfl⟩ ⟨rfl, by rw [if_neg (fun h => absurd ((tld_k (by decide)).mp h) (by omega))], rfl, rfl⟩
      · skip
        refine V_iconst (v := nI 1) dX11_isTold_19 rfl ?_
        refine V_goto (tgt := 24) dX11_isTold_20 rfl ?_
        exact V_iret ⟨Or.inr ⟨rfl, Or.inr rfl⟩, dX11_isTold_24⟩ ⟨Nat.le_of_ble_eq_true rfl, Nat.le_of_ble_eq_true rfl⟩ ⟨rfl, by rw [if_pos ((tld_k (by decide)).mpr (by omega))], rfl, rfl⟩
    · skip
      refine V_iload_n dX11_isTold_0 rfl ?_
      refine V_callS (As := [.int (nI 1)]) (st := []) dX11_isTold_1 kX11_isRule lX11_137 (by decide) rfl rfl (Nat.le_of_ble_eq_true rfl) ⟨Nat.le_of_ble_eq_true rfl, Nat.le_of_ble_eq_true rfl⟩ (q_y q_isRule hR) ?_
      rintro _ _ _ _ ⟨rfl, rfl, rfl, rfl⟩
      refine V_if_eq (tgt := 23) dX11_isTold_4 rfl (fun h => absurd h (by decide)) (fun _ => ?_)
      refine V_aload_n dX11_isTold_7 rfl ?_
      refine V_getR (b := 18) dX11_isTold_8 fX11_53 ⟨Nat.le_of_ble_eq_true rfl, Nat.le_of_ble_eq_true rfl⟩ rfl rfl rfl ?_
      refine V_iload_n dX11_isTold_11 rfl ?_
      refine V_aald (b := 21) dX11_isTold_12 ⟨Nat.le_of_ble_eq_true rfl, Nat.le_of_ble_eq_true rfl⟩ rfl (vp_in_nI (by decide) (by decide)) (by decide) ?_
      refine V_getI dX11_isTold_13 fX11_351 ⟨Nat.le_of_ble_eq_true rfl, Nat.le_of_ble_eq_true rfl⟩ rfl rfl ?_
      refine V_eqI (y := nI (cc 1)) (hC.2.2 1 (by decide)).1 ?_
      refine V_if_leN (tgt := 23) dX11_isTold_16 rfl (by have := (hC.2.2 1 (by decide)).2; omega) (fun h16 => ?_) (fun h16 => ?_)
      · skip
        refine V_iconst (v := nI 0) dX11_isTold_23 rfl ?_
        exact V_iret ⟨Or.inr ⟨rfl, Or.inl rfl⟩, dX11_isTold_24⟩ ⟨Nat.le_of_ble_eq_true rfl, Nat.le_of_ble_eq_true rfl⟩ ⟨rfl, by rw [if_neg (fun h => absurd ((tld_k (by decide)).mp h) (by omega))], rfl, rfl⟩
      · skip
        refine V_iconst (v := nI 1) dX11_isTold_19 rfl ?_
        refine V_goto (tgt := 24) dX11_isTold_20 rfl ?_
        exact V_iret ⟨Or.inr ⟨rfl, Or.inr rfl⟩, dX11_isTold_24⟩ ⟨Nat.le_of_ble_eq_true rfl, Nat.le_of_ble_eq_true rfl⟩ ⟨rfl, by rw [if_pos ((tld_k (by decide)).mpr (by omega))], rfl, rfl⟩
    · skip
      refine V_iload_n dX11_isTold_0 rfl ?_
      refine V_callS (As := [.int (nI 2)]) (st := []) dX11_isTold_1 kX11_isRule lX11_137 (by decide) rfl rfl (Nat.le_of_ble_eq_true rfl) ⟨Nat.le_of_ble_eq_true rfl, Nat.le_of_ble_eq_true rfl⟩ (q_y q_isRule hR) ?_
      rintro _ _ _ _ ⟨rfl, rfl, rfl, rfl⟩
      refine V_if_eq (tgt := 23) dX11_isTold_4 rfl (fun h => absurd h (by decide)) (fun _ => ?_)
      refine V_aload_n dX11_isTold_7 rfl ?_
      refine V_getR (b := 18) dX11_isTold_8 fX11_53 ⟨Nat.le_of_ble_eq_true rfl, Nat.le_of_ble_eq_true rfl⟩ rfl rfl rfl ?_
      refine V_iload_n dX11_isTold_11 rfl ?_
      refine V_aald (b := 23) dX11_isTold_12 ⟨Nat.le_of_ble_eq_true rfl, Nat.le_of_ble_eq_true rfl⟩ rfl (vp_in_nI (by decide) (by decide)) (by decide) ?_
      refine V_getI dX11_isTold_13 fX11_351 ⟨Nat.le_of_ble_eq_true rfl, Nat.le_of_ble_eq_true rfl⟩ rfl rfl ?_
      refine V_eqI (y := nI (cc 2)) (hC.2.2 2 (by decide)).1 ?_
      refine V_if_leN (tgt := 23) dX11_isTold_16 rfl (by have := (hC.2.2 2 (by decide)).2; omega) (fun h16 => ?_) (fun h16 => ?_)
      · skip
        refine V_iconst (v := nI 0) dX11_isTold_23 rfl ?_
        exact V_iret ⟨Or.inr ⟨rfl, Or.inl rfl⟩, dX11_isTold_24⟩ ⟨Nat.le_of_ble_eq_true rfl, Nat.le_of_ble_eq_true rfl⟩ ⟨rfl, by rw [if_neg (fun h => absurd ((tld_k (by decide)).mp h) (by omega))], rfl, rfl⟩
      · skip
        refine V_iconst (v := nI 1) dX11_isTold_19 rfl ?_
        refine V_goto (tgt := 24) dX11_isTold_20 rfl ?_
        exact V_iret ⟨Or.inr ⟨rfl, Or.inr rfl⟩, dX11_isTold_24⟩ ⟨Nat.le_of_ble_eq_true rfl, Nat.le_of_ble_eq_true rfl⟩ ⟨rfl, by rw [if_pos ((tld_k (by decide)).mpr (by omega))], rfl, rfl⟩
    · skip
      refine V_iload_n dX11_isTold_0 rfl ?_
      refine V_callS (As := [.int (nI 3)]) (st := []) dX11_isTold_1 kX11_isRule lX11_137 (by decide) rfl rfl (Nat.le_of_ble_eq_true rfl) ⟨Nat.le_of_ble_eq_true rfl, Nat.le_of_ble_eq_true rfl⟩ (q_y q_isRule hR) ?_
      rintro _ _ _ _ ⟨rfl, rfl, rfl, rfl⟩
      refine V_if_eq (tgt := 23) dX11_isTold_4 rfl (fun h => absurd h (by decide)) (fun _ => ?_)
      refine V_aload_n dX11_isTold_7 rfl ?_
      refine V_getR (b := 18) dX11_isTold_8 fX11_53 ⟨Nat.le_of_ble_eq_true rfl, Nat.le_of_ble_eq_true rfl⟩ rfl rfl rfl ?_
      refine V_iload_n dX11_isTold_11 rfl ?_
      refine V_aald (b := 25) dX11_isTold_12 ⟨Nat.le_of_ble_eq_true rfl, Nat.le_of_ble_eq_true rfl⟩ rfl (vp_in_nI (by decide) (by decide)) (by decide) ?_
      refine V_getI dX11_isTold_13 fX11_351 ⟨Nat.le_of_ble_eq_true rfl, Nat.le_of_ble_eq_true rfl⟩ rfl rfl ?_
      refine V_eqI (y := nI (cc 3)) (hC.2.2 3 (by decide)).1 ?_
      refine V_if_leN (tgt := 23) dX11_isTold_16 rfl (by have := (hC.2.2 3 (by decide)).2; omega) (fun h16 => ?_) (fun h16 => ?_)
      · skip
        refine V_iconst (v := nI 0) dX11_isTold_23 rfl ?_
        exact V_iret ⟨Or.inr ⟨rfl, Or.inl rfl⟩, dX11_isTold_24⟩ ⟨Nat.le_of_ble_eq_true rfl, Nat.le_of_ble_eq_true rfl⟩ ⟨rfl, by rw [if_neg (fun h => absurd ((tld_k (by decide)).mp h) (by omega))], rfl, rfl⟩
      · skip
        refine V_iconst (v := nI 1) dX11_isTold_19 rfl ?_
        refine V_goto (tgt := 24) dX11_isTold_20 rfl ?_
        exact V_iret ⟨Or.inr ⟨rfl, Or.inr rfl⟩, dX11_isTold_24⟩ ⟨Nat.le_of_ble_eq_true rfl, Nat.le_of_ble_eq_true rfl⟩ ⟨rfl, by rw [if_pos ((tld_k (by decide)).mpr (by omega))], rfl, rfl⟩
  · skip
    refine V_iload_n dX11_isTold_0 rfl ?_
    refine V_callS (As := [.int x]) (st := []) dX11_isTold_1 kX11_isRule lX11_137 (by decide) rfl rfl (Nat.le_of_ble_eq_true rfl) ⟨Nat.le_of_ble_eq_true rfl, Nat.le_of_ble_eq_true rfl⟩ (q_n q_isRule hR) ?_
    rintro _ _ _ _ ⟨rfl, rfl, rfl, rfl⟩
    refine V_if_eq (tgt := 23) dX11_isTold_4 rfl (fun _ => ?_) (fun h => absurd h (by decide))
    refine V_iconst (v := nI 0) dX11_isTold_23 rfl ?_
    exact V_iret ⟨Or.inr ⟨rfl, Or.inl rfl⟩, dX11_isTold_24⟩ ⟨Nat.le_of_ble_eq_true rfl, Nat.le_of_ble_eq_true rfl⟩ ⟨rfl, by rw [if_neg (fun h => hR h.1)], rfl, rfl⟩

set_option maxRecDepth 100000 in
set_option maxHeartbeats 4000000 in
theorem q_canPlayBy {G : zG} {I : zI} {J : zJ} {c0 : Nat} {cc : Nat → Nat} (hC : cC I c0 cc) {x : Int32} : zK G mX11_canPlayBy 2 [.ref 2, .int x] zsh I J (zA0 (.int (nI (if ply cc x then 1 else 0))) I J) := by
  refine zK_of kX11_canPlayBy.2.2.2.2.1 (Nat.le_of_ble_eq_true rfl) ?_
  show V G mX11_canPlayBy 2 _ 0 [(0, .ref 2), (1, .int x)] [] (0, 0) zsh I J
  refine V_iload_n dX11_canPlayBy_0 rfl ?_
  refine V_iconst (v := (-1)) dX11_canPlayBy_1 rfl ?_
  refine V_icmp_eq (tgt := 13) dX11_canPlayBy_2 rfl (fun h2 => ?_) (fun h2 => ?_)
  · skip
    refine V_iconst (v := nI 1) dX11_canPlayBy_13 rfl ?_
    refine V_goto (tgt := 18) dX11_canPlayBy_14 rfl ?_
    exact V_iret ⟨Or.inr ⟨rfl, Or.inr rfl⟩, dX11_canPlayBy_18⟩ ⟨Nat.le_of_ble_eq_true rfl, Nat.le_of_ble_eq_true rfl⟩ ⟨rfl, by rw [if_pos (Or.inl h2)], rfl, rfl⟩
  · skip
    refine V_aload_n dX11_canPlayBy_5 rfl ?_
    refine V_iload_n dX11_canPlayBy_6 rfl ?_
    by_cases ht : tld cc x
    · skip
      refine V_callV (As := [.int x]) (st := []) (a := 2) dX11_canPlayBy_7 kX11_isTold lX11_208 (by decide) rfl rfl (Nat.le_of_ble_eq_true rfl) ⟨Nat.le_of_ble_eq_true rfl, Nat.le_of_ble_eq_true rfl⟩ ⟨Nat.le_of_ble_eq_true rfl, Nat.le_of_ble_eq_true rfl⟩ rfl ⟨rfl, by decide⟩ (q_y (q_isTold hC) ht) ?_
      rintro _ _ _ _ ⟨rfl, rfl, rfl, rfl⟩
      refine V_if_eq (tgt := 17) dX11_canPlayBy_10 rfl (fun h => absurd h (by decide)) (fun _ => ?_)
      refine V_iconst (v := nI 1) dX11_canPlayBy_13 rfl ?_
      refine V_goto (tgt := 18) dX11_canPlayBy_14 rfl ?_
      exact V_iret ⟨Or.inr ⟨rfl, Or.inr rfl⟩, dX11_canPlayBy_18⟩ ⟨Nat.le_of_ble_eq_true rfl, Nat.le_of_ble_eq_true rfl⟩ ⟨rfl, by rw [if_pos (Or.inr ht)], rfl, rfl⟩
    · skip
      refine V_callV (As := [.int x]) (st := []) (a := 2) dX11_canPlayBy_7 kX11_isTold lX11_208 (by decide) rfl rfl (Nat.le_of_ble_eq_true rfl) ⟨Nat.le_of_ble_eq_true rfl, Nat.le_of_ble_eq_true rfl⟩ ⟨Nat.le_of_ble_eq_true rfl, Nat.le_of_ble_eq_true rfl⟩ rfl ⟨rfl, by decide⟩ (q_n (q_isTold hC) ht) ?_
      rintro _ _ _ _ ⟨rfl, rfl, rfl, rfl⟩
      refine V_if_eq (tgt := 17) dX11_canPlayBy_10 rfl (fun _ => ?_) (fun h => absurd h (by decide))
      refine V_iconst (v := nI 0) dX11_canPlayBy_17 rfl ?_
      exact V_iret ⟨Or.inr ⟨rfl, Or.inl rfl⟩, dX11_canPlayBy_18⟩ ⟨Nat.le_of_ble_eq_true rfl, Nat.le_of_ble_eq_true rfl⟩ ⟨rfl, by rw [if_neg (fun h => h.elim h2 ht)], rfl, rfl⟩

set_option maxRecDepth 100000 in
set_option maxHeartbeats 4000000 in
theorem c_turn {G : zG} {I : zI} {J : zJ} (hT : tabX I) {code other last : Int32} : zK G mX11_turn 3 [.ref 2, .int code, .int other, .int last] zsh I J (zA0 (.int (onS (stO code other last) (-1) (fun p q l => nI (sWho p q l)))) I J) := by
  refine zK_of kX11_turn.2.2.2.2.1 (Nat.le_of_ble_eq_true rfl) ?_
  show V G mX11_turn 3 _ 0 [(0, .ref 2), (1, .int code), (2, .int other), (3, .int last)] [] (0, 0) zsh I J
  rcases hst : stO code other last with _ | ⟨p, q, l⟩
  · skip
    have hsn := stO_n hst
    refine V_aload_n dX11_turn_0 rfl ?_
    refine V_getR (b := 10) dX11_turn_1 fX11_41 ⟨Nat.le_of_ble_eq_true rfl, Nat.le_of_ble_eq_true rfl⟩ rfl rfl rfl ?_
    refine V_iload_n dX11_turn_4 rfl ?_
    refine V_callV (As := [.int code]) (st := []) (a := 10) dX11_turn_5 kX2_placeOf lX11_146 (by decide) rfl rfl (Nat.le_of_ble_eq_true rfl) ⟨Nat.le_of_ble_eq_true rfl, Nat.le_of_ble_eq_true rfl⟩ ⟨Nat.le_of_ble_eq_true rfl, Nat.le_of_ble_eq_true rfl⟩ rfl ⟨rfl, by decide⟩ c_placeOf2 ?_
    rintro _ _ _ _ ⟨rfl, rfl, rfl, rfl⟩
    refine V_istore (ls' := [(4, .int (pen (zpl code))), (0, .ref 2), (1, .int code), (2, .int other), (3, .int last)]) dX11_turn_8 (by decide) rfl ?_
    refine V_aload_n dX11_turn_10 rfl ?_
    refine V_getR (b := 10) dX11_turn_11 fX11_41 ⟨Nat.le_of_ble_eq_true rfl, Nat.le_of_ble_eq_true rfl⟩ rfl rfl rfl ?_
    refine V_iload_n dX11_turn_14 rfl ?_
    refine V_callV (As := [.int other]) (st := []) (a := 10) dX11_turn_15 kX2_placeOf lX11_146 (by decide) rfl rfl (Nat.le_of_ble_eq_true rfl) ⟨Nat.le_of_ble_eq_true rfl, Nat.le_of_ble_eq_true rfl⟩ ⟨Nat.le_of_ble_eq_true rfl, Nat.le_of_ble_eq_true rfl⟩ rfl ⟨rfl, by decide⟩ c_placeOf2 ?_
    rintro _ _ _ _ ⟨rfl, rfl, rfl, rfl⟩
    refine V_istore (ls' := [(5, .int (pen (zpl other))), (4, .int (pen (zpl code))), (0, .ref 2), (1, .int code), (2, .int other), (3, .int last)]) dX11_turn_18 (by decide) rfl ?_
    refine V_aload_n dX11_turn_20 rfl ?_
    refine V_iload dX11_turn_21 rfl ?_
    refine V_iload dX11_turn_23 rfl ?_
    refine V_iload_n dX11_turn_25 rfl ?_
    refine V_callV (As := [.int (pen (zpl code)), .int (pen (zpl other)), .int last]) (st := []) (a := 2) dX11_turn_26 kX11_isState lX11_152 (by decide) rfl rfl (Nat.le_of_ble_eq_true rfl) ⟨Nat.le_of_ble_eq_true rfl, Nat.le_of_ble_eq_true rfl⟩ ⟨Nat.le_of_ble_eq_true rfl, Nat.le_of_ble_eq_true rfl⟩ rfl ⟨rfl, by decide⟩ (c_isStateN hsn) ?_
    rintro _ _ _ _ ⟨rfl, rfl, rfl, rfl⟩
    refine V_if_eq (tgt := 47) dX11_turn_29 rfl (fun _ => ?_) (fun h => absurd h (by decide))
    refine V_iconst (v := (-1)) dX11_turn_47 rfl ?_
    exact V_iret ⟨Or.inl rfl, dX11_turn_48⟩ ⟨Nat.le_of_ble_eq_true rfl, Nat.le_of_ble_eq_true rfl⟩ ⟨rfl, rfl, rfl, rfl⟩
  · skip
    obtain ⟨hp, hq, hl, hl1, hp56, hq56⟩ := stO_s hst
    subst hl
    refine V_aload_n dX11_turn_0 rfl ?_
    refine V_getR (b := 10) dX11_turn_1 fX11_41 ⟨Nat.le_of_ble_eq_true rfl, Nat.le_of_ble_eq_true rfl⟩ rfl rfl rfl ?_
    refine V_iload_n dX11_turn_4 rfl ?_
    refine V_callV (As := [.int code]) (st := []) (a := 10) dX11_turn_5 kX2_placeOf lX11_146 (by decide) rfl rfl (Nat.le_of_ble_eq_true rfl) ⟨Nat.le_of_ble_eq_true rfl, Nat.le_of_ble_eq_true rfl⟩ ⟨Nat.le_of_ble_eq_true rfl, Nat.le_of_ble_eq_true rfl⟩ rfl ⟨rfl, by decide⟩ (c_placeS hp) ?_
    rintro _ _ _ _ ⟨rfl, rfl, rfl, rfl⟩
    refine V_istore (ls' := [(4, .int (nI p)), (0, .ref 2), (1, .int code), (2, .int other), (3, .int (nI l))]) dX11_turn_8 (by decide) rfl ?_
    refine V_aload_n dX11_turn_10 rfl ?_
    refine V_getR (b := 10) dX11_turn_11 fX11_41 ⟨Nat.le_of_ble_eq_true rfl, Nat.le_of_ble_eq_true rfl⟩ rfl rfl rfl ?_
    refine V_iload_n dX11_turn_14 rfl ?_
    refine V_callV (As := [.int other]) (st := []) (a := 10) dX11_turn_15 kX2_placeOf lX11_146 (by decide) rfl rfl (Nat.le_of_ble_eq_true rfl) ⟨Nat.le_of_ble_eq_true rfl, Nat.le_of_ble_eq_true rfl⟩ ⟨Nat.le_of_ble_eq_true rfl, Nat.le_of_ble_eq_true rfl⟩ rfl ⟨rfl, by decide⟩ (c_placeS hq) ?_
    rintro _ _ _ _ ⟨rfl, rfl, rfl, rfl⟩
    refine V_istore (ls' := [(5, .int (nI q)), (4, .int (nI p)), (0, .ref 2), (1, .int code), (2, .int other), (3, .int (nI l))]) dX11_turn_18 (by decide) rfl ?_
    refine V_aload_n dX11_turn_20 rfl ?_
    refine V_iload dX11_turn_21 rfl ?_
    refine V_iload dX11_turn_23 rfl ?_
    refine V_iload_n dX11_turn_25 rfl ?_
    refine V_callV (As := [.int (nI p), .int (nI q), .int (nI l)]) (st := []) (a := 2) dX11_turn_26 kX11_isState lX11_152 (by decide) rfl rfl (Nat.le_of_ble_eq_true rfl) ⟨Nat.le_of_ble_eq_true rfl, Nat.le_of_ble_eq_true rfl⟩ ⟨Nat.le_of_ble_eq_true rfl, Nat.le_of_ble_eq_true rfl⟩ rfl ⟨rfl, by decide⟩ (c_isStateY hp56 hq56 hl1) ?_
    rintro _ _ _ _ ⟨rfl, rfl, rfl, rfl⟩
    refine V_if_eq (tgt := 47) dX11_turn_29 rfl (fun h => absurd h (by decide)) (fun _ => ?_)
    refine V_aload_n dX11_turn_32 rfl ?_
    refine V_getR (b := 10) dX11_turn_33 fX11_41 ⟨Nat.le_of_ble_eq_true rfl, Nat.le_of_ble_eq_true rfl⟩ rfl rfl rfl ?_
    refine V_iload dX11_turn_36 rfl ?_
    refine V_iload dX11_turn_38 rfl ?_
    refine V_iload_n dX11_turn_40 rfl ?_
    refine V_callV (As := [.int (nI p), .int (nI q), .int (nI l)]) (st := []) (a := 10) dX11_turn_41 kX2_whoPlays lX11_156 (by decide) rfl rfl (Nat.le_of_ble_eq_true rfl) ⟨Nat.le_of_ble_eq_true rfl, Nat.le_of_ble_eq_true rfl⟩ ⟨Nat.le_of_ble_eq_true rfl, Nat.le_of_ble_eq_true rfl⟩ rfl ⟨rfl, by decide⟩ (c_whoPlays hT hp56 hq56 hl1) ?_
    rintro _ _ _ _ ⟨rfl, rfl, rfl, rfl⟩
    refine V_goto (tgt := 48) dX11_turn_44 rfl ?_
    exact V_iret ⟨Or.inl rfl, dX11_turn_48⟩ ⟨Nat.le_of_ble_eq_true rfl, Nat.le_of_ble_eq_true rfl⟩ ⟨rfl, rfl, rfl, rfl⟩

set_option maxRecDepth 100000 in
set_option maxHeartbeats 4000000 in
theorem c_points {G : zG} {I : zI} {J : zJ} (hT : tabX I) {code other : Int32} : zK G mX11_points 3 [.ref 2, .int code, .int other] zsh I J (zA0 (.int (onS (stO code other (nI 0)) (-100) (fun p q _ => sPts p q))) I J) := by
  refine zK_of kX11_points.2.2.2.2.1 (Nat.le_of_ble_eq_true rfl) ?_
  show V G mX11_points 3 _ 0 [(0, .ref 2), (1, .int code), (2, .int other)] [] (0, 0) zsh I J
  rcases hst : stO code other (nI 0) with _ | ⟨p, q, l⟩
  · skip
    have hsn := stO_n hst
    refine V_aload_n dX11_points_0 rfl ?_
    refine V_getR (b := 10) dX11_points_1 fX11_41 ⟨Nat.le_of_ble_eq_true rfl, Nat.le_of_ble_eq_true rfl⟩ rfl rfl rfl ?_
    refine V_iload_n dX11_points_4 rfl ?_
    refine V_callV (As := [.int code]) (st := []) (a := 10) dX11_points_5 kX2_placeOf lX11_146 (by decide) rfl rfl (Nat.le_of_ble_eq_true rfl) ⟨Nat.le_of_ble_eq_true rfl, Nat.le_of_ble_eq_true rfl⟩ ⟨Nat.le_of_ble_eq_true rfl, Nat.le_of_ble_eq_true rfl⟩ rfl ⟨rfl, by decide⟩ c_placeOf2 ?_
    rintro _ _ _ _ ⟨rfl, rfl, rfl, rfl⟩
    refine V_istore_n (ls' := [(3, .int (pen (zpl code))), (0, .ref 2), (1, .int code), (2, .int other)]) dX11_points_8 (by decide) rfl ?_
    refine V_aload_n dX11_points_9 rfl ?_
    refine V_getR (b := 10) dX11_points_10 fX11_41 ⟨Nat.le_of_ble_eq_true rfl, Nat.le_of_ble_eq_true rfl⟩ rfl rfl rfl ?_
    refine V_iload_n dX11_points_13 rfl ?_
    refine V_callV (As := [.int other]) (st := []) (a := 10) dX11_points_14 kX2_placeOf lX11_146 (by decide) rfl rfl (Nat.le_of_ble_eq_true rfl) ⟨Nat.le_of_ble_eq_true rfl, Nat.le_of_ble_eq_true rfl⟩ ⟨Nat.le_of_ble_eq_true rfl, Nat.le_of_ble_eq_true rfl⟩ rfl ⟨rfl, by decide⟩ c_placeOf2 ?_
    rintro _ _ _ _ ⟨rfl, rfl, rfl, rfl⟩
    refine V_istore (ls' := [(4, .int (pen (zpl other))), (3, .int (pen (zpl code))), (0, .ref 2), (1, .int code), (2, .int other)]) dX11_points_17 (by decide) rfl ?_
    refine V_iload_n dX11_points_19 rfl ?_
    refine V_if_ltZ (tgt := 28) (a := (pen (zpl code)).toInt) dX11_points_20 rfl rfl (fun h20 => ?_) (fun h20 => ?_)
    · skip
      refine V_bipush (v := (-100)) dX11_points_28 rfl ?_
      refine V_goto (tgt := 43) dX11_points_30 rfl ?_
      exact V_iret ⟨Or.inl rfl, dX11_points_43⟩ ⟨Nat.le_of_ble_eq_true rfl, Nat.le_of_ble_eq_true rfl⟩ ⟨rfl, rfl, rfl, rfl⟩
    · skip
      refine V_iload dX11_points_23 rfl ?_
      refine V_if_geZ (tgt := 33) (a := (pen (zpl other)).toInt) dX11_points_25 rfl rfl (fun h25 => ?_) (fun h25 => ?_)
      · skip
        exfalso; rcases hsn with h | h | h
        · omega
        · omega
        · exact h (by decide)
      · skip
        refine V_bipush (v := (-100)) dX11_points_28 rfl ?_
        refine V_goto (tgt := 43) dX11_points_30 rfl ?_
        exact V_iret ⟨Or.inl rfl, dX11_points_43⟩ ⟨Nat.le_of_ble_eq_true rfl, Nat.le_of_ble_eq_true rfl⟩ ⟨rfl, rfl, rfl, rfl⟩
  · skip
    obtain ⟨hp, hq, hl, hl1, hp56, hq56⟩ := stO_s hst
    refine V_aload_n dX11_points_0 rfl ?_
    refine V_getR (b := 10) dX11_points_1 fX11_41 ⟨Nat.le_of_ble_eq_true rfl, Nat.le_of_ble_eq_true rfl⟩ rfl rfl rfl ?_
    refine V_iload_n dX11_points_4 rfl ?_
    refine V_callV (As := [.int code]) (st := []) (a := 10) dX11_points_5 kX2_placeOf lX11_146 (by decide) rfl rfl (Nat.le_of_ble_eq_true rfl) ⟨Nat.le_of_ble_eq_true rfl, Nat.le_of_ble_eq_true rfl⟩ ⟨Nat.le_of_ble_eq_true rfl, Nat.le_of_ble_eq_true rfl⟩ rfl ⟨rfl, by decide⟩ (c_placeS hp) ?_
    rintro _ _ _ _ ⟨rfl, rfl, rfl, rfl⟩
    refine V_istore_n (ls' := [(3, .int (nI p)), (0, .ref 2), (1, .int code), (2, .int other)]) dX11_points_8 (by decide) rfl ?_
    refine V_aload_n dX11_points_9 rfl ?_
    refine V_getR (b := 10) dX11_points_10 fX11_41 ⟨Nat.le_of_ble_eq_true rfl, Nat.le_of_ble_eq_true rfl⟩ rfl rfl rfl ?_
    refine V_iload_n dX11_points_13 rfl ?_
    refine V_callV (As := [.int other]) (st := []) (a := 10) dX11_points_14 kX2_placeOf lX11_146 (by decide) rfl rfl (Nat.le_of_ble_eq_true rfl) ⟨Nat.le_of_ble_eq_true rfl, Nat.le_of_ble_eq_true rfl⟩ ⟨Nat.le_of_ble_eq_true rfl, Nat.le_of_ble_eq_true rfl⟩ rfl ⟨rfl, by decide⟩ (c_placeS hq) ?_
    rintro _ _ _ _ ⟨rfl, rfl, rfl, rfl⟩
    refine V_istore (ls' := [(4, .int (nI q)), (3, .int (nI p)), (0, .ref 2), (1, .int code), (2, .int other)]) dX11_points_17 (by decide) rfl ?_
    refine V_iload_n dX11_points_19 rfl ?_
    refine V_if_ltN (tgt := 28) dX11_points_20 rfl (by omega) ?_
    refine V_iload dX11_points_23 rfl ?_
    refine V_if_geN (tgt := 33) dX11_points_25 rfl (by omega) ?_
    refine V_aload_n dX11_points_33 rfl ?_
    refine V_getR (b := 10) dX11_points_34 fX11_41 ⟨Nat.le_of_ble_eq_true rfl, Nat.le_of_ble_eq_true rfl⟩ rfl rfl rfl ?_
    refine V_iload_n dX11_points_37 rfl ?_
    refine V_iload dX11_points_38 rfl ?_
    refine V_callV (As := [.int (nI p), .int (nI q)]) (st := []) (a := 10) dX11_points_40 kX2_pointsNow lX11_160 (by decide) rfl rfl (Nat.le_of_ble_eq_true rfl) ⟨Nat.le_of_ble_eq_true rfl, Nat.le_of_ble_eq_true rfl⟩ ⟨Nat.le_of_ble_eq_true rfl, Nat.le_of_ble_eq_true rfl⟩ rfl ⟨rfl, by decide⟩ (c_pointsNow hT hp56 hq56) ?_
    rintro _ _ _ _ ⟨rfl, rfl, rfl, rfl⟩
    exact V_iret ⟨Or.inl rfl, dX11_points_43⟩ ⟨Nat.le_of_ble_eq_true rfl, Nat.le_of_ble_eq_true rfl⟩ ⟨rfl, rfl, rfl, rfl⟩

