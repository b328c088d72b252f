/-! THE CODES: tables by place, the class's methods on them -/
def tC (k : Nat) : Nat := ([0, 1, 2, 3, 10, 11, 12, 20, 21, 30, 100, 101, 102, 110, 111, 120, 200, 201, 210, 300, 1000, 1001, 1002, 1010, 1011, 1020, 1100, 1101, 1110, 1200, 2000, 2001, 2010, 2100, 3000, 10000, 10001, 10002, 10010, 10011, 10020, 10100, 10101, 10110, 10200, 11000, 11001, 11010, 11100, 12000, 20000, 20001, 20010, 20100, 21000, 30000] : List Nat).getD k 0
def tHand (k : Nat) : Nat := ([0, 0, 0, 0, 0, 0, 0, 0, 0, 0, 0, 0, 0, 0, 0, 0, 0, 0, 0, 0, 0, 0, 0, 0, 0, 0, 0, 0, 0, 0, 0, 0, 0, 0, 0, 1, 1, 1, 1, 1, 1, 1, 1, 1, 1, 1, 1, 1, 1, 1, 2, 2, 2, 2, 2, 3] : List Nat).getD k 0
def tBest (k : Nat) : Nat := ([4, 3, 3, 3, 2, 2, 2, 2, 2, 2, 1, 1, 1, 1, 1, 1, 1, 1, 1, 1, 0, 0, 0, 0, 0, 0, 0, 0, 0, 0, 0, 0, 0, 0, 0, 4, 3, 3, 2, 2, 2, 1, 1, 1, 1, 0, 0, 0, 0, 0, 4, 3, 2, 1, 0, 4] : List Nat).getD k 0
def tBel (k : Nat) : Nat := ([0, 0, 0, 0, 0, 0, 0, 0, 0, 1, 0, 0, 0, 0, 2, 0, 0, 0, 0, 3, 0, 0, 0, 1, 1, 0, 0, 0, 1, 2, 0, 0, 0, 1, 3, 0, 0, 0, 2, 2, 0, 0, 0, 2, 3, 0, 0, 0, 3, 3, 0, 0, 1, 1, 1, 0, 0, 1, 1, 2, 0, 0, 1, 1, 3, 0, 0, 1, 2, 2, 0, 0, 1, 2, 3, 0, 0, 1, 3, 3, 0, 0, 2, 2, 2, 0, 0, 2, 2, 3, 0, 0, 2, 3, 3, 0, 0, 3, 3, 3, 0, 1, 1, 1, 1, 0, 1, 1, 1, 2, 0, 1, 1, 1, 3, 0, 1, 1, 2, 2, 0, 1, 1, 2, 3, 0, 1, 1, 3, 3, 0, 1, 2, 2, 2, 0, 1, 2, 2, 3, 0, 1, 2, 3, 3, 0, 1, 3, 3, 3, 0, 2, 2, 2, 2, 0, 2, 2, 2, 3, 0, 2, 2, 3, 3, 0, 2, 3, 3, 3, 0, 3, 3, 3, 3, 0, 0, 0, 0, 0, 0, 0, 0, 0, 1, 0, 0, 0, 0, 2, 0, 0, 0, 1, 1, 0, 0, 0, 1, 2, 0, 0, 0, 2, 2, 0, 0, 1, 1, 1, 0, 0, 1, 1, 2, 0, 0, 1, 2, 2, 0, 0, 2, 2, 2, 0, 1, 1, 1, 1, 0, 1, 1, 1, 2, 0, 1, 1, 2, 2, 0, 1, 2, 2, 2, 0, 2, 2, 2, 2, 0, 0, 0, 0, 0, 0, 0, 0, 0, 1, 0, 0, 0, 1, 1, 0, 0, 1, 1, 1, 0, 1, 1, 1, 1, 0, 0, 0, 0, 0] : List Nat).getD k 0
def tThr (k : Nat) : Nat := ([0, 0, 0, 0, 0, 1, 1, 1, 1, 1, 2, 2, 2, 2, 2, 3, 3, 3, 3, 3, 4, 4, 4, 4, 4, 5, 5, 5, 5, 5, 6, 6, 6, 6, 6, 7, 7, 7, 7, 7, 8, 8, 8, 8, 8, 9, 9, 9, 9, 9, 10, 10, 10, 10, 10, 11, 11, 11, 11, 11, 12, 12, 12, 12, 12, 13, 13, 13, 13, 13, 14, 14, 14, 14, 14, 15, 15, 15, 15, 15, 16, 16, 16, 16, 16, 17, 17, 17, 17, 17, 18, 18, 18, 18, 18, 19, 19, 19, 19, 19, 20, 20, 20, 20, 20, 21, 21, 21, 21, 21, 22, 22, 22, 22, 22, 23, 23, 23, 23, 23, 24, 24, 24, 24, 24, 25, 25, 25, 25, 25, 26, 26, 26, 26, 26, 27, 27, 27, 27, 27, 28, 28, 28, 28, 28, 29, 29, 29, 29, 29, 30, 30, 30, 30, 30, 31, 31, 31, 31, 31, 32, 32, 32, 32, 32, 33, 33, 33, 33, 33, 34, 34, 34, 34, 34, 20, 10, 4, 1, 0, 21, 11, 5, 2, 1, 22, 12, 6, 3, 2, 23, 13, 7, 5, 4, 24, 14, 8, 6, 5, 25, 15, 9, 8, 7, 26, 16, 13, 11, 10, 27, 17, 14, 12, 11, 28, 18, 15, 14, 13, 29, 19, 18, 17, 16, 30, 26, 23, 21, 20, 31, 27, 24, 22, 21, 32, 28, 25, 24, 23, 33, 29, 28, 27, 26, 34, 33, 32, 31, 30, 45, 41, 38, 36, 35, 46, 42, 39, 37, 36, 47, 43, 40, 39, 38, 48, 44, 43, 42, 41, 49, 48, 47, 46, 45, 54, 53, 52, 51, 50] : List Nat).getD k 0
def tWo (k : Nat) : Nat := ([0, 0, 1, 2, 0, 1, 2, 4, 5, 7, 0, 1, 2, 4, 5, 7, 10, 11, 13, 16, 0, 1, 2, 4, 5, 7, 10, 11, 13, 16, 20, 21, 23, 26, 30, 35, 35, 36, 35, 36, 38, 35, 36, 38, 41, 35, 36, 38, 41, 45, 50, 50, 50, 50, 50, 55] : List Nat).getD k 0
theorem tHand_le {k : Nat} (h : k < 56) : tHand k ≤ 3 := co_dec (P := fun k => tHand k ≤ 3) (N := 56) (by decide +kernel) h
theorem tBest_le {k : Nat} (h : k < 56) : tBest k ≤ 4 := co_dec (P := fun k => tBest k ≤ 4) (N := 56) (by decide +kernel) h
theorem tBel_le {k : Nat} (h : k < 280) : tBel k ≤ 3 := co_dec (P := fun k => tBel k ≤ 3) (N := 280) (by decide +kernel) h
theorem tThr_le {k : Nat} (h : k < 280) : tThr k ≤ 55 := co_dec (P := fun k => tThr k ≤ 55) (N := 280) (by decide +kernel) h
theorem tWo_le {k : Nat} (h : k < 56) : tWo k ≤ 55 := co_dec (P := fun k => tWo k ≤ 55) (N := 56) (by decide +kernel) h
theorem tC_le {k : Nat} (h : k < 56) : tC k ≤ 30000 := co_dec (P := fun k => tC k ≤ 30000) (N := 56) (by decide +kernel) h
theorem zC_t {k : Nat} (h : k < 56) : zCodes k = nI (tC k) := co_dec (P := fun k => zCodes k = nI (tC k)) (N := 56) (by decide +kernel) h
theorem tC_mono : ∀ i, i < 56 → ∀ j, j < 56 → (tC i < tC j ↔ i < j) := by decide +kernel
theorem tC_inj {i j : Nat} (hi : i < 56) (hj : j < 56) (h : tC i = tC j) : i = j := by
  have h1 := tC_mono i hi j hj
  have h2 := tC_mono j hj i hi
  omega
/-- the place of a code -/
def zpl (c : Int32) : Option Nat := (List.range 56).find? (fun k => decide (zCodes k = c))
theorem zpl_s {c : Int32} {k : Nat} (h : zpl c = some k) : k < 56 ∧ c = nI (tC k) := by
  have h1 := List.find?_some h
  have h2 := List.mem_range.mp (List.mem_of_find?_eq_some h)
  exact ⟨h2, by rw [← zC_t h2]; exact (of_decide_eq_true h1).symm⟩
theorem zpl_n {c : Int32} (h : zpl c = none) {k : Nat} (hk : k < 56) : ¬ c = nI (tC k) := by
  have h1 := List.find?_eq_none.mp h k (List.mem_range.mpr hk)
  intro e
  apply h1
  rw [zC_t hk, e]
  exact decide_eq_true rfl
theorem zpl_of {k : Nat} (hk : k < 56) : zpl (nI (tC k)) = some k := by
  cases h : zpl (nI (tC k)) with
  | none => exact absurd rfl (zpl_n h hk)
  | some j =>
    obtain ⟨h1, h2⟩ := zpl_s h
    have h3 := tC_le hk
    have h4 := tC_le h1
    rw [tC_inj hk h1 ((nI_eq (by omega) (by omega)).mp h2)]
def pen (r : Option Nat) : Int32 := match r with
  | none => -1
  | some k => nI k
def tabX (I : zI) : Prop := (∀ k, k < 56 → I 11 k = nI (tHand k)) ∧ (∀ k, k < 56 → I 12 k = nI (tBest k)) ∧ (∀ k, k < 280 → I 13 k = nI (tBel k)) ∧ (∀ k, k < 280 → I 14 k = nI (tThr k)) ∧ (∀ k, k < 56 → I 15 k = nI (tWo k))
/-- whose turn it is; 2: over -/
def sSide (p q last : Nat) : Nat := if tBest p = tBest q then 1 - last else if tBest q < tBest p then 0 else 1
def sWho (p q last : Nat) : Nat := if tHand p = 0 ∧ tHand q = 0 then 2 else if 0 < tHand (if sSide p q last = 0 then p else q) then sSide p q last else 1 - sSide p q last
def sPts (p q : Nat) : Int32 := if tBest p = tBest q then 0 else if tBest p < tBest q then nI (tBel (5 * p + tBest q)) else -nI (tBel (5 * q + tBest p))
def sCan (p q side : Nat) : Bool := decide (0 < tBel (5 * (if side = 0 then q else p) + 4))
def sRing (p q side part : Nat) : Nat := if part < 4 then part else if part = 4 then tBest (if side = 0 then q else p) else 4
def sMine (p q side part : Nat) : Nat := tThr (5 * (if side = 0 then p else q) + sRing p q side part)
def sTheir (p q side part : Nat) : Nat := if part = 4 ∨ part = 5 then tWo (if side = 0 then q else p) else (if side = 0 then q else p)
set_option maxRecDepth 100000 in
set_option maxHeartbeats 4000000 in
theorem c_codeAt {G : zG} {I : zI} {J : zJ} {p : Nat} (hp : p < 56) : zK G mX2_codeAt 1 [.ref 10, .int (nI p)] zsh I J (zA0 (.int (nI (tC p))) I J) := by
  refine zK_of kX2_codeAt.2.2.2.2.1 (Nat.le_of_ble_eq_true rfl) ?_
  show V G mX2_codeAt 1 _ 0 [(0, .ref 10), (1, .int (nI p))] [] (0, 0) zsh I J
  refine V_gets dX2_codeAt_0 sX2_27 ?_
  refine V_iload_n dX2_codeAt_3 rfl ?_
  refine V_callS (As := [.ref 1, .int (nI p)]) (st := []) dX2_codeAt_4 kX11_at lX2_34 (by decide) rfl rfl (Nat.le_of_ble_eq_true rfl) ⟨Nat.le_of_ble_eq_true rfl, Nat.le_of_ble_eq_true rfl⟩ (c_at1 (by omega)) ?_
  rintro _ _ _ _ ⟨rfl, rfl, rfl, rfl⟩
  refine V_eqI (y := nI (tC p)) (zC_t (by omega)) ?_
  exact V_iret ⟨Or.inl rfl, dX2_codeAt_7⟩ ⟨Nat.le_of_ble_eq_true rfl, Nat.le_of_ble_eq_true rfl⟩ ⟨rfl, rfl, rfl, rfl⟩

set_option maxRecDepth 100000 in
set_option maxHeartbeats 4000000 in
theorem c_handOf {G : zG} {I : zI} {J : zJ} (hT : tabX I) {p : Nat} (hp : p < 56) : zK G mX2_handOf 1 [.ref 10, .int (nI p)] zsh I J (zA0 (.int (nI (tHand p))) I J) := by
  refine zK_of kX2_handOf.2.2.2.2.1 (Nat.le_of_ble_eq_true rfl) ?_
  show V G mX2_handOf 1 _ 0 [(0, .ref 10), (1, .int (nI p))] [] (0, 0) zsh I J
  refine V_aload_n dX2_handOf_0 rfl ?_
  refine V_getR (b := 11) dX2_handOf_1 fX2_11 ⟨Nat.le_of_ble_eq_true rfl, Nat.le_of_ble_eq_true rfl⟩ rfl rfl rfl ?_
  refine V_iload_n dX2_handOf_4 rfl ?_
  refine V_callS (As := [.ref 11, .int (nI p)]) (st := []) dX2_handOf_5 kX11_at lX2_34 (by decide) rfl rfl (Nat.le_of_ble_eq_true rfl) ⟨Nat.le_of_ble_eq_true rfl, Nat.le_of_ble_eq_true rfl⟩ (c_at (a := 11) (n := 56) ⟨Nat.le_of_ble_eq_true rfl, Nat.le_of_ble_eq_true rfl⟩ rfl (by decide) (by omega)) ?_
  rintro _ _ _ _ ⟨rfl, rfl, rfl, rfl⟩
  refine V_eqI (y := nI (tHand p)) (hT.1 p (by omega)) ?_
  exact V_iret ⟨Or.inl rfl, dX2_handOf_8⟩ ⟨Nat.le_of_ble_eq_true rfl, Nat.le_of_ble_eq_true rfl⟩ ⟨rfl, rfl, rfl, rfl⟩

set_option maxRecDepth 100000 in
set_option maxHeartbeats 4000000 in
theorem c_bestRingOf {G : zG} {I : zI} {J : zJ} (hT : tabX I) {p : Nat} (hp : p < 56) : zK G mX2_bestRingOf 1 [.ref 10, .int (nI p)] zsh I J (zA0 (.int (nI (tBest p))) I J) := by
  refine zK_of kX2_bestRingOf.2.2.2.2.1 (Nat.le_of_ble_eq_true rfl) ?_
  show V G mX2_bestRingOf 1 _ 0 [(0, .ref 10), (1, .int (nI p))] [] (0, 0) zsh I J
  refine V_aload_n dX2_bestRingOf_0 rfl ?_
  refine V_getR (b := 12) dX2_bestRingOf_1 fX2_15 ⟨Nat.le_of_ble_eq_true rfl, Nat.le_of_ble_eq_true rfl⟩ rfl rfl rfl ?_
  refine V_iload_n dX2_bestRingOf_4 rfl ?_
  refine V_callS (As := [.ref 12, .int (nI p)]) (st := []) dX2_bestRingOf_5 kX11_at lX2_34 (by decide) rfl rfl (Nat.le_of_ble_eq_true rfl) ⟨Nat.le_of_ble_eq_true rfl, Nat.le_of_ble_eq_true rfl⟩ (c_at (a := 12) (n := 56) ⟨Nat.le_of_ble_eq_true rfl, Nat.le_of_ble_eq_true rfl⟩ rfl (by decide) (by omega)) ?_
  rintro _ _ _ _ ⟨rfl, rfl, rfl, rfl⟩
  refine V_eqI (y := nI (tBest p)) (hT.2.1 p (by omega)) ?_
  exact V_iret ⟨Or.inl rfl, dX2_bestRingOf_8⟩ ⟨Nat.le_of_ble_eq_true rfl, Nat.le_of_ble_eq_true rfl⟩ ⟨rfl, rfl, rfl, rfl⟩

set_option maxRecDepth 100000 in
set_option maxHeartbeats 4000000 in
theorem c_lyingOf {G : zG} {I : zI} {J : zJ} (hT : tabX I) {p : Nat} (hp : p < 56) : zK G mX2_lyingOf 1 [.ref 10, .int (nI p)] zsh I J (zA0 (.int (nI (tBel (5 * p + 4)))) I J) := by
  refine zK_of kX2_lyingOf.2.2.2.2.1 (Nat.le_of_ble_eq_true rfl) ?_
  show V G mX2_lyingOf 1 _ 0 [(0, .ref 10), (1, .int (nI p))] [] (0, 0) zsh I J
  refine V_aload_n dX2_lyingOf_0 rfl ?_
  refine V_getR (b := 13) dX2_lyingOf_1 fX2_18 ⟨Nat.le_of_ble_eq_true rfl, Nat.le_of_ble_eq_true rfl⟩ rfl rfl rfl ?_
  refine V_iconst (v := nI 5) dX2_lyingOf_4 rfl ?_
  refine V_iload_n dX2_lyingOf_5 rfl ?_
  refine V_imulN dX2_lyingOf_6 ?_
  refine V_iconst (v := nI 4) dX2_lyingOf_7 rfl ?_
  refine V_iaddN dX2_lyingOf_8 ?_
  refine V_callS (As := [.ref 13, .int (nI ((5 * p) + 4))]) (st := []) dX2_lyingOf_9 kX11_at lX2_34 (by decide) rfl rfl (Nat.le_of_ble_eq_true rfl) ⟨Nat.le_of_ble_eq_true rfl, Nat.le_of_ble_eq_true rfl⟩ (c_at (a := 13) (n := 280) ⟨Nat.le_of_ble_eq_true rfl, Nat.le_of_ble_eq_true rfl⟩ rfl (by decide) (by omega)) ?_
  rintro _ _ _ _ ⟨rfl, rfl, rfl, rfl⟩
  refine V_eqI (y := nI (tBel ((5 * p) + 4))) (hT.2.2.1 ((5 * p) + 4) (by omega)) ?_
  exact V_iret ⟨Or.inl rfl, dX2_lyingOf_12⟩ ⟨Nat.le_of_ble_eq_true rfl, Nat.le_of_ble_eq_true rfl⟩ ⟨rfl, rfl, rfl, rfl⟩

set_option maxRecDepth 100000 in
set_option maxHeartbeats 4000000 in
theorem c_whoPlays {G : zG} {I : zI} {J : zJ} (hT : tabX I) {p q : Nat} (hp : p < 56) (hq : q < 56) {last : Nat} (hl : last ≤ 1) : zK G mX2_whoPlays 2 [.ref 10, .int (nI p), .int (nI q), .int (nI last)] zsh I J (zA0 (.int (nI (sWho p q last))) I J) := by
  refine zK_of kX2_whoPlays.2.2.2.2.1 (Nat.le_of_ble_eq_true rfl) ?_
  show V G mX2_whoPlays 2 _ 0 [(0, .ref 10), (1, .int (nI p)), (2, .int (nI q)), (3, .int (nI last))] [] (0, 0) zsh I J
  have h1 := tHand_le hp
  have h2 := tHand_le hq
  have h3 := tBest_le hp
  have h4 := tBest_le hq
  refine V_aload_n dX2_whoPlays_0 rfl ?_
  refine V_iload_n dX2_whoPlays_1 rfl ?_
  refine V_callV (As := [.int (nI p)]) (st := []) (a := 10) dX2_whoPlays_2 kX2_handOf lX2_38 (by decide) rfl rfl (Nat.le_of_ble_eq_true rfl) ⟨Nat.le_of_ble_eq_true rfl, Nat.le_of_ble_eq_true rfl⟩ ⟨Nat.le_of_ble_eq_true rfl, Nat.le_of_ble_eq_true rfl⟩ rfl ⟨rfl, by decide⟩ (c_handOf hT (by omega)) ?_
  rintro _ _ _ _ ⟨rfl, rfl, rfl, rfl⟩
  refine V_if_neN (tgt := 18) dX2_whoPlays_5 rfl (by omega) (fun h5 => ?_) (fun h5 => ?_)
  · skip
    refine V_iconst (v := nI 1) dX2_whoPlays_18 rfl ?_
    refine V_iload_n dX2_whoPlays_19 rfl ?_
    refine V_isubN dX2_whoPlays_20 (by omega) ?_
    refine V_istore (ls' := [(4, .int (nI (1 - last))), (0, .ref 10), (1, .int (nI p)), (2, .int (nI q)), (3, .int (nI last))]) dX2_whoPlays_21 (by decide) rfl ?_
    refine V_aload_n dX2_whoPlays_23 rfl ?_
    refine V_iload_n dX2_whoPlays_24 rfl ?_
    refine V_callV (As := [.int (nI p)]) (st := []) (a := 10) dX2_whoPlays_25 kX2_bestRingOf lX2_41 (by decide) rfl rfl (Nat.le_of_ble_eq_true rfl) ⟨Nat.le_of_ble_eq_true rfl, Nat.le_of_ble_eq_true rfl⟩ ⟨Nat.le_of_ble_eq_true rfl, Nat.le_of_ble_eq_true rfl⟩ rfl ⟨rfl, by decide⟩ (c_bestRingOf hT (by omega)) ?_
    rintro _ _ _ _ ⟨rfl, rfl, rfl, rfl⟩
    refine V_aload_n dX2_whoPlays_28 rfl ?_
    refine V_iload_n dX2_whoPlays_29 rfl ?_
    refine V_callV (As := [.int (nI q)]) (st := [.int (nI (tBest p))]) (a := 10) dX2_whoPlays_30 kX2_bestRingOf lX2_41 (by decide) rfl rfl (Nat.le_of_ble_eq_true rfl) ⟨Nat.le_of_ble_eq_true rfl, Nat.le_of_ble_eq_true rfl⟩ ⟨Nat.le_of_ble_eq_true rfl, Nat.le_of_ble_eq_true rfl⟩ rfl ⟨rfl, by decide⟩ (c_bestRingOf hT (by omega)) ?_
    rintro _ _ _ _ ⟨rfl, rfl, rfl, rfl⟩
    refine V_icmp_eqN (tgt := 56) dX2_whoPlays_33 rfl (by omega) (by omega) (fun h33 => ?_) (fun h33 => ?_)
    · skip
      refine V_aload_n dX2_whoPlays_56 rfl ?_
      refine V_iload dX2_whoPlays_57 rfl ?_
      refine V_if_neN (tgt := 66) dX2_whoPlays_59 rfl (by omega) (fun h59 => ?_) (fun h59 => ?_)
      · skip
        refine V_iload_n dX2_whoPlays_66 rfl ?_
        refine V_callV (As := [.int (nI q)]) (st := []) (a := 10) dX2_whoPlays_67 kX2_handOf lX2_38 (by decide) rfl rfl (Nat.le_of_ble_eq_true rfl) ⟨Nat.le_of_ble_eq_true rfl, Nat.le_of_ble_eq_true rfl⟩ ⟨Nat.le_of_ble_eq_true rfl, Nat.le_of_ble_eq_true rfl⟩ rfl ⟨rfl, by decide⟩ (c_handOf hT (by omega)) ?_
        rintro _ _ _ _ ⟨rfl, rfl, rfl, rfl⟩
        refine V_if_leN (tgt := 78) dX2_whoPlays_70 rfl (by omega) (fun h70 => ?_) (fun h70 => ?_)
        · skip
          refine V_iconst (v := nI 1) dX2_whoPlays_78 rfl ?_
          refine V_iload dX2_whoPlays_79 rfl ?_
          refine V_isubN dX2_whoPlays_81 (by omega) ?_
          exact V_iret ⟨Or.inl rfl, dX2_whoPlays_82⟩ ⟨Nat.le_of_ble_eq_true rfl, Nat.le_of_ble_eq_true rfl⟩ ⟨rfl, congrArg (fun z => some (Value.int (nI z))) (by (first | (exfalso; omega; done) | (have e : sSide p q last = 1 - last := (by unfold sSide; (repeat (first | rw [if_pos (by omega)] | rw [if_neg (by omega)])); try rfl); unfold sWho; rw [e, show (if 1 - last = 0 then p else q) = q from (by (repeat (first | rw [if_pos (by omega)] | rw [if_neg (by omega)])); try rfl)]; (repeat (first | rw [if_pos (by omega)] | rw [if_neg (by omega)])); try omega))), rfl, rfl⟩
        · skip
          refine V_iload dX2_whoPlays_73 rfl ?_
          refine V_goto (tgt := 82) dX2_whoPlays_75 rfl ?_
          exact V_iret ⟨Or.inl rfl, dX2_whoPlays_82⟩ ⟨Nat.le_of_ble_eq_true rfl, Nat.le_of_ble_eq_true rfl⟩ ⟨rfl, congrArg (fun z => some (Value.int (nI z))) (by (first | (exfalso; omega; done) | (have e : sSide p q last = 1 - last := (by unfold sSide; (repeat (first | rw [if_pos (by omega)] | rw [if_neg (by omega)])); try rfl); unfold sWho; rw [e, show (if 1 - last = 0 then p else q) = q from (by (repeat (first | rw [if_pos (by omega)] | rw [if_neg (by omega)])); try rfl)]; (repeat (first | rw [if_pos (by omega)] | rw [if_neg (by omega)])); try omega))), rfl, rfl⟩
      · skip
        refine V_iload_n dX2_whoPlays_62 rfl ?_
        refine V_goto (tgt := 67) dX2_whoPlays_63 rfl ?_
        refine V_callV (As := [.int (nI p)]) (st := []) (a := 10) dX2_whoPlays_67 kX2_handOf lX2_38 (by decide) rfl rfl (Nat.le_of_ble_eq_true rfl) ⟨Nat.le_of_ble_eq_true rfl, Nat.le_of_ble_eq_true rfl⟩ ⟨Nat.le_of_ble_eq_true rfl, Nat.le_of_ble_eq_true rfl⟩ rfl ⟨rfl, by decide⟩ (c_handOf hT (by omega)) ?_
        rintro _ _ _ _ ⟨rfl, rfl, rfl, rfl⟩
        refine V_if_leN (tgt := 78) dX2_whoPlays_70 rfl (by omega) (fun h70 => ?_) (fun h70 => ?_)
        · skip
          refine V_iconst (v := nI 1) dX2_whoPlays_78 rfl ?_
          refine V_iload dX2_whoPlays_79 rfl ?_
          refine V_isubN dX2_whoPlays_81 (by omega) ?_
          exact V_iret ⟨Or.inl rfl, dX2_whoPlays_82⟩ ⟨Nat.le_of_ble_eq_true rfl, Nat.le_of_ble_eq_true rfl⟩ ⟨rfl, congrArg (fun z => some (Value.int (nI z))) (by (first | (exfalso; omega; done) | (have e : sSide p q last = 1 - last := (by unfold sSide; (repeat (first | rw [if_pos (by omega)] | rw [if_neg (by omega)])); try rfl); unfold sWho; rw [e, show (if 1 - last = 0 then p else q) = p from (by (repeat (first | rw [if_pos (by omega)] | rw [if_neg (by omega)])); try rfl)]; (repeat (first | rw [if_pos (by omega)] | rw [if_neg (by omega)])); try omega))), rfl, rfl⟩
        · skip
          refine V_iload dX2_whoPlays_73 rfl ?_
          refine V_goto (tgt := 82) dX2_whoPlays_75 rfl ?_
          exact V_iret ⟨Or.inl rfl, dX2_whoPlays_82⟩ ⟨Nat.le_of_ble_eq_true rfl, Nat.le_of_ble_eq_true rfl⟩ ⟨rfl, congrArg (fun z => some (Value.int (nI z))) (by (first | (exfalso; omega; done) | (have e : sSide p q last = 1 - last := (by unfold sSide; (repeat (first | rw [if_pos (by omega)] | rw [if_neg (by omega)])); try rfl); unfold sWho; rw [e, show (if 1 - last = 0 then p else q) = p from (by (repeat (first | rw [if_pos (by omega)] | rw [if_neg (by omega)])); try rfl)]; (repeat (first | rw [if_pos (by omega)] | rw [if_neg (by omega)])); try omega))), rfl, rfl⟩
    · skip
      refine V_aload_n dX2_whoPlays_36 rfl ?_
      refine V_iload_n dX2_whoPlays_37 rfl ?_
      refine V_callV (As := [.int (nI p)]) (st := []) (a := 10) dX2_whoPlays_38 kX2_bestRingOf lX2_41 (by decide) rfl rfl (Nat.le_of_ble_eq_true rfl) ⟨Nat.le_of_ble_eq_true rfl, Nat.le_of_ble_eq_true rfl⟩ ⟨Nat.le_of_ble_eq_true rfl, Nat.le_of_ble_eq_true rfl⟩ rfl ⟨rfl, by decide⟩ (c_bestRingOf hT (by omega)) ?_
      rintro _ _ _ _ ⟨rfl, rfl, rfl, rfl⟩
      refine V_aload_n dX2_whoPlays_41 rfl ?_
      refine V_iload_n dX2_whoPlays_42 rfl ?_
      refine V_callV (As := [.int (nI q)]) (st := [.int (nI (tBest p))]) (a := 10) dX2_whoPlays_43 kX2_bestRingOf lX2_41 (by decide) rfl rfl (Nat.le_of_ble_eq_true rfl) ⟨Nat.le_of_ble_eq_true rfl, Nat.le_of_ble_eq_true rfl⟩ ⟨Nat.le_of_ble_eq_true rfl, Nat.le_of_ble_eq_true rfl⟩ rfl ⟨rfl, by decide⟩ (c_bestRingOf hT (by omega)) ?_
      rintro _ _ _ _ ⟨rfl, rfl, rfl, rfl⟩
      refine V_icmp_leN (tgt := 53) dX2_whoPlays_46 rfl (by omega) (by omega) (fun h46 => ?_) (fun h46 => ?_)
      · skip
        refine V_iconst (v := nI 1) dX2_whoPlays_53 rfl ?_
        refine V_istore (ls' := [(4, .int (nI 1)), (0, .ref 10), (1, .int (nI p)), (2, .int (nI q)), (3, .int (nI last))]) dX2_whoPlays_54 (by decide) rfl ?_
        refine V_aload_n dX2_whoPlays_56 rfl ?_
        refine V_iload dX2_whoPlays_57 rfl ?_
        refine V_if_ne (tgt := 66) dX2_whoPlays_59 rfl (fun _ => ?_) (fun h => absurd h (by decide))
        refine V_iload_n dX2_whoPlays_66 rfl ?_
        refine V_callV (As := [.int (nI q)]) (st := []) (a := 10) dX2_whoPlays_67 kX2_handOf lX2_38 (by decide) rfl rfl (Nat.le_of_ble_eq_true rfl) ⟨Nat.le_of_ble_eq_true rfl, Nat.le_of_ble_eq_true rfl⟩ ⟨Nat.le_of_ble_eq_true rfl, Nat.le_of_ble_eq_true rfl⟩ rfl ⟨rfl, by decide⟩ (c_handOf hT (by omega)) ?_
        rintro _ _ _ _ ⟨rfl, rfl, rfl, rfl⟩
        refine V_if_leN (tgt := 78) dX2_whoPlays_70 rfl (by omega) (fun h70 => ?_) (fun h70 => ?_)
        · skip
          refine V_iconst (v := nI 1) dX2_whoPlays_78 rfl ?_
          refine V_iload dX2_whoPlays_79 rfl ?_
          refine V_isubN dX2_whoPlays_81 (by omega) ?_
          exact V_iret ⟨Or.inl rfl, dX2_whoPlays_82⟩ ⟨Nat.le_of_ble_eq_true rfl, Nat.le_of_ble_eq_true rfl⟩ ⟨rfl, congrArg (fun z => some (Value.int (nI z))) (by (first | (exfalso; omega; done) | (have e : sSide p q last = 1 := (by unfold sSide; (repeat (first | rw [if_pos (by omega)] | rw [if_neg (by omega)])); try rfl); unfold sWho; rw [e, show (if 1 = 0 then p else q) = q from (by (repeat (first | rw [if_pos (by omega)] | rw [if_neg (by omega)])); try rfl)]; (repeat (first | rw [if_pos (by omega)] | rw [if_neg (by omega)])); try omega))), rfl, rfl⟩
        · skip
          refine V_iload dX2_whoPlays_73 rfl ?_
          refine V_goto (tgt := 82) dX2_whoPlays_75 rfl ?_
          exact V_iret ⟨Or.inl rfl, dX2_whoPlays_82⟩ ⟨Nat.le_of_ble_eq_true rfl, Nat.le_of_ble_eq_true rfl⟩ ⟨rfl, congrArg (fun z => some (Value.int (nI z))) (by (first | (exfalso; omega; done) | (have e : sSide p q last = 1 := (by unfold sSide; (repeat (first | rw [if_pos (by omega)] | rw [if_neg (by omega)])); try rfl); unfold sWho; rw [e, show (if 1 = 0 then p else q) = q from (by (repeat (first | rw [if_pos (by omega)] | rw [if_neg (by omega)])); try rfl)]; (repeat (first | rw [if_pos (by omega)] | rw [if_neg (by omega)])); try omega))), rfl, rfl⟩
      · skip
        refine V_iconst (v := nI 0) dX2_whoPlays_49 rfl ?_
        refine V_goto (tgt := 54) dX2_whoPlays_50 rfl ?_
        refine V_istore (ls' := [(4, .int (nI 0)), (0, .ref 10), (1, .int (nI p)), (2, .int (nI q)), (3, .int (nI last))]) dX2_whoPlays_54 (by decide) rfl ?_
        refine V_aload_n dX2_whoPlays_56 rfl ?_
        refine V_iload dX2_whoPlays_57 rfl ?_
        refine V_if_ne (tgt := 66) dX2_whoPlays_59 rfl (fun h => absurd h (by decide)) (fun _ => ?_)
        refine V_iload_n dX2_whoPlays_62 rfl ?_
        refine V_goto (tgt := 67) dX2_whoPlays_63 rfl ?_
        refine V_callV (As := [.int (nI p)]) (st := []) (a := 10) dX2_whoPlays_67 kX2_handOf lX2_38 (by decide) rfl rfl (Nat.le_of_ble_eq_true rfl) ⟨Nat.le_of_ble_eq_true rfl, Nat.le_of_ble_eq_true rfl⟩ ⟨Nat.le_of_ble_eq_true rfl, Nat.le_of_ble_eq_true rfl⟩ rfl ⟨rfl, by decide⟩ (c_handOf hT (by omega)) ?_
        rintro _ _ _ _ ⟨rfl, rfl, rfl, rfl⟩
        refine V_if_leN (tgt := 78) dX2_whoPlays_70 rfl (by omega) (fun h70 => ?_) (fun h70 => ?_)
        · skip
          refine V_iconst (v := nI 1) dX2_whoPlays_78 rfl ?_
          refine V_iload dX2_whoPlays_79 rfl ?_
          refine V_isubN dX2_whoPlays_81 (by omega) ?_
          exact V_iret ⟨Or.inl rfl, dX2_whoPlays_82⟩ ⟨Nat.le_of_ble_eq_true rfl, Nat.le_of_ble_eq_true rfl⟩ ⟨rfl, congrArg (fun z => some (Value.int (nI z))) (by (first | (exfalso; omega; done) | (have e : sSide p q last = 0 := (by unfold sSide; (repeat (first | rw [if_pos (by omega)] | rw [if_neg (by omega)])); try rfl); unfold sWho; rw [e, show (if 0 = 0 then p else q) = p from (by (repeat (first | rw [if_pos (by omega)] | rw [if_neg (by omega)])); try rfl)]; (repeat (first | rw [if_pos (by omega)] | rw [if_neg (by omega)])); try omega))), rfl, rfl⟩
        · skip
          refine V_iload dX2_whoPlays_73 rfl ?_
          refine V_goto (tgt := 82) dX2_whoPlays_75 rfl ?_
          exact V_iret ⟨Or.inl rfl, dX2_whoPlays_82⟩ ⟨Nat.le_of_ble_eq_true rfl, Nat.le_of_ble_eq_true rfl⟩ ⟨rfl, congrArg (fun z => some (Value.int (nI z))) (by (first | (exfalso; omega; done) | (have e : sSide p q last = 0 := (by unfold sSide; (repeat (first | rw [if_pos (by omega)] | rw [if_neg (by omega)])); try rfl); unfold sWho; rw [e, show (if 0 = 0 then p else q) = p from (by (repeat (first | rw [if_pos (by omega)] | rw [if_neg (by omega)])); try rfl)]; (repeat (first | rw [if_pos (by omega)] | rw [if_neg (by omega)])); try omega))), rfl, rfl⟩
  · skip
    refine V_aload_n dX2_whoPlays_8 rfl ?_
    refine V_iload_n dX2_whoPlays_9 rfl ?_
    refine V_callV (As := [.int (nI q)]) (st := []) (a := 10) dX2_whoPlays_10 kX2_handOf lX2_38 (by decide) rfl rfl (Nat.le_of_ble_eq_true rfl) ⟨Nat.le_of_ble_eq_true rfl, Nat.le_of_ble_eq_true rfl⟩ ⟨Nat.le_of_ble_eq_true rfl, Nat.le_of_ble_eq_true rfl⟩ rfl ⟨rfl, by decide⟩ (c_handOf hT (by omega)) ?_
    rintro _ _ _ _ ⟨rfl, rfl, rfl, rfl⟩
    refine V_if_neN (tgt := 18) dX2_whoPlays_13 rfl (by omega) (fun h13 => ?_) (fun h13 => ?_)
    · skip
      refine V_iconst (v := nI 1) dX2_whoPlays_18 rfl ?_
      refine V_iload_n dX2_whoPlays_19 rfl ?_
      refine V_isubN dX2_whoPlays_20 (by omega) ?_
      refine V_istore (ls' := [(4, .int (nI (1 - last))), (0, .ref 10), (1, .int (nI p)), (2, .int (nI q)), (3, .int (nI last))]) dX2_whoPlays_21 (by decide) rfl ?_
      refine V_aload_n dX2_whoPlays_23 rfl ?_
      refine V_iload_n dX2_whoPlays_24 rfl ?_
      refine V_callV (As := [.int (nI p)]) (st := []) (a := 10) dX2_whoPlays_25 kX2_bestRingOf lX2_41 (by decide) rfl rfl (Nat.le_of_ble_eq_true rfl) ⟨Nat.le_of_ble_eq_true rfl, Nat.le_of_ble_eq_true rfl⟩ ⟨Nat.le_of_ble_eq_true rfl, Nat.le_of_ble_eq_true rfl⟩ rfl ⟨rfl, by decide⟩ (c_bestRingOf hT (by omega)) ?_
      rintro _ _ _ _ ⟨rfl, rfl, rfl, rfl⟩
      refine V_aload_n dX2_whoPlays_28 rfl ?_
      refine V_iload_n dX2_whoPlays_29 rfl ?_
      refine V_callV (As := [.int (nI q)]) (st := [.int (nI (tBest p))]) (a := 10) dX2_whoPlays_30 kX2_bestRingOf lX2_41 (by decide) rfl rfl (Nat.le_of_ble_eq_true rfl) ⟨Nat.le_of_ble_eq_true rfl, Nat.le_of_ble_eq_true rfl⟩ ⟨Nat.le_of_ble_eq_true rfl, Nat.le_of_ble_eq_true rfl⟩ rfl ⟨rfl, by decide⟩ (c_bestRingOf hT (by omega)) ?_
      rintro _ _ _ _ ⟨rfl, rfl, rfl, rfl⟩
      refine V_icmp_eqN (tgt := 56) dX2_whoPlays_33 rfl (by omega) (by omega) (fun h33 => ?_) (fun h33 => ?_)
      · skip
        refine V_aload_n dX2_whoPlays_56 rfl ?_
        refine V_iload dX2_whoPlays_57 rfl ?_
        refine V_if_neN (tgt := 66) dX2_whoPlays_59 rfl (by omega) (fun h59 => ?_) (fun h59 => ?_)
        · skip
          refine V_iload_n dX2_whoPlays_66 rfl ?_
          refine V_callV (As := [.int (nI q)]) (st := []) (a := 10) dX2_whoPlays_67 kX2_handOf lX2_38 (by decide) rfl rfl (Nat.le_of_ble_eq_true rfl) ⟨Nat.le_of_ble_eq_true rfl, Nat.le_of_ble_eq_true rfl⟩ ⟨Nat.le_of_ble_eq_true rfl, Nat.le_of_ble_eq_true rfl⟩ rfl ⟨rfl, by decide⟩ (c_handOf hT (by omega)) ?_
          rintro _ _ _ _ ⟨rfl, rfl, rfl, rfl⟩
          refine V_if_leN (tgt := 78) dX2_whoPlays_70 rfl (by omega) (fun h70 => ?_) (fun h70 => ?_)
          · skip
            refine V_iconst (v := nI 1) dX2_whoPlays_78 rfl ?_
            refine V_iload dX2_whoPlays_79 rfl ?_
            refine V_isubN dX2_whoPlays_81 (by omega) ?_
            exact V_iret ⟨Or.inl rfl, dX2_whoPlays_82⟩ ⟨Nat.le_of_ble_eq_true rfl, Nat.le_of_ble_eq_true rfl⟩ ⟨rfl, congrArg (fun z => some (Value.int (nI z))) (by (first | (exfalso; omega; done) | (have e : sSide p q last = 1 - last := (by unfold sSide; (repeat (first | rw [if_pos (by omega)] | rw [if_neg (by omega)])); try rfl); unfold sWho; rw [e, show (if 1 - last = 0 then p else q) = q from (by (repeat (first | rw [if_pos (by omega)] | rw [if_neg (by omega)])); try rfl)]; (repeat (first | rw [if_pos (by omega)] | rw [if_neg (by omega)])); try omega))), rfl, rfl⟩
          · skip
            refine V_iload dX2_whoPlays_73 rfl ?_
            refine V_goto (tgt := 82) dX2_whoPlays_75 rfl ?_
            exact V_iret ⟨Or.inl rfl, dX2_whoPlays_82⟩ ⟨Nat.le_of_ble_eq_true rfl, Nat.le_of_ble_eq_true rfl⟩ ⟨rfl, congrArg (fun z => some (Value.int (nI z))) (by (first | (exfalso; omega; done) | (have e : sSide p q last = 1 - last := (by unfold sSide; (repeat (first | rw [if_pos (by omega)] | rw [if_neg (by omega)])); try rfl); unfold sWho; rw [e, show (if 1 - last = 0 then p else q) = q from (by (repeat (first | rw [if_pos (by omega)] | rw [if_neg (by omega)])); try rfl)]; (repeat (first | rw [if_pos (by omega)] | rw [if_neg (by omega)])); try omega))), rfl, rfl⟩
        · skip
          refine V_iload_n dX2_whoPlays_62 rfl ?_
          refine V_goto (tgt := 67) dX2_whoPlays_63 rfl ?_
          refine V_callV (As := [.int (nI p)]) (st := []) (a := 10) dX2_whoPlays_67 kX2_handOf lX2_38 (by decide) rfl rfl (Nat.le_of_ble_eq_true rfl) ⟨Nat.le_of_ble_eq_true rfl, Nat.le_of_ble_eq_true rfl⟩ ⟨Nat.le_of_ble_eq_true rfl, Nat.le_of_ble_eq_true rfl⟩ rfl ⟨rfl, by decide⟩ (c_handOf hT (by omega)) ?_
          rintro _ _ _ _ ⟨rfl, rfl, rfl, rfl⟩
          refine V_if_leN (tgt := 78) dX2_whoPlays_70 rfl (by omega) (fun h70 => ?_) (fun h70 => ?_)
          · skip
            refine V_iconst (v := nI 1) dX2_whoPlays_78 rfl ?_
            refine V_iload dX2_whoPlays_79 rfl ?_
            refine V_isubN dX2_whoPlays_81 (by omega) ?_
            exact V_iret ⟨Or.inl rfl, dX2_whoPlays_82⟩ ⟨Nat.le_of_ble_eq_true rfl, Nat.le_of_ble_eq_true rfl⟩ ⟨rfl, congrArg (fun z => some (Value.int (nI z))) (by (first | (exfalso; omega; done) | (have e : sSide p q last = 1 - last := (by unfold sSide; (repeat (first | rw [if_pos (by omega)] | rw [if_neg (by omega)])); try rfl); unfold sWho; rw [e, show (if 1 - last = 0 then p else q) = p from (by (repeat (first | rw [if_pos (by omega)] | rw [if_neg (by omega)])); try rfl)]; (repeat (first | rw [if_pos (by omega)] | rw [if_neg (by omega)])); try omega))), rfl, rfl⟩
          · skip
            refine V_iload dX2_whoPlays_73 rfl ?_
            refine V_goto (tgt := 82) dX2_whoPlays_75 rfl ?_
            exact V_iret ⟨Or.inl rfl, dX2_whoPlays_82⟩ ⟨Nat.le_of_ble_eq_true rfl, Nat.le_of_ble_eq_true rfl⟩ ⟨rfl, congrArg (fun z => some (Value.int (nI z))) (by (first | (exfalso; omega; done) | (have e : sSide p q last = 1 - last := (by unfold sSide; (repeat (first | rw [if_pos (by omega)] | rw [if_neg (by omega)])); try rfl); unfold sWho; rw [e, show (if 1 - last = 0 then p else q) = p from (by (repeat (first | rw [if_pos (by omega)] | rw [if_neg (by omega)])); try rfl)]; (repeat (first | rw [if_pos (by omega)] | rw [if_neg (by omega)])); try omega))), rfl, rfl⟩
      · skip
        refine V_aload_n dX2_whoPlays_36 rfl ?_
        refine V_iload_n dX2_whoPlays_37 rfl ?_
        refine V_callV (As := [.int (nI p)]) (st := []) (a := 10) dX2_whoPlays_38 kX2_bestRingOf lX2_41 (by decide) rfl rfl (Nat.le_of_ble_eq_true rfl) ⟨Nat.le_of_ble_eq_true rfl, Nat.le_of_ble_eq_true rfl⟩ ⟨Nat.le_of_ble_eq_true rfl, Nat.le_of_ble_eq_true rfl⟩ rfl ⟨rfl, by decide⟩ (c_bestRingOf hT (by omega)) ?_
        rintro _ _ _ _ ⟨rfl, rfl, rfl, rfl⟩
        refine V_aload_n dX2_whoPlays_41 rfl ?_
        refine V_iload_n dX2_whoPlays_42 rfl ?_
        refine V_callV (As := [.int (nI q)]) (st := [.int (nI (tBest p))]) (a := 10) dX2_whoPlays_43 kX2_bestRingOf lX2_41 (by decide) rfl rfl (Nat.le_of_ble_eq_true rfl) ⟨Nat.le_of_ble_eq_true rfl, Nat.le_of_ble_eq_true rfl⟩ ⟨Nat.le_of_ble_eq_true rfl, Nat.le_of_ble_eq_true rfl⟩ rfl ⟨rfl, by decide⟩ (c_bestRingOf hT (by omega)) ?_
        rintro _ _ _ _ ⟨rfl, rfl, rfl, rfl⟩
        refine V_icmp_leN (tgt := 53) dX2_whoPlays_46 rfl (by omega) (by omega) (fun h46 => ?_) (fun h46 => ?_)
        · skip
          refine V_iconst (v := nI 1) dX2_whoPlays_53 rfl ?_
          refine V_istore (ls' := [(4, .int (nI 1)), (0, .ref 10), (1, .int (nI p)), (2, .int (nI q)), (3, .int (nI last))]) dX2_whoPlays_54 (by decide) rfl ?_
          refine V_aload_n dX2_whoPlays_56 rfl ?_
          refine V_iload dX2_whoPlays_57 rfl ?_
          refine V_if_ne (tgt := 66) dX2_whoPlays_59 rfl (fun _ => ?_) (fun h => absurd h (by decide))
          refine V_iload_n dX2_whoPlays_66 rfl ?_
          refine V_callV (As := [.int (nI q)]) (st := []) (a := 10) dX2_whoPlays_67 kX2_handOf lX2_38 (by decide) rfl rfl (Nat.le_of_ble_eq_true rfl) ⟨Nat.le_of_ble_eq_true rfl, Nat.le_of_ble_eq_true rfl⟩ ⟨Nat.le_of_ble_eq_true rfl, Nat.le_of_ble_eq_true rfl⟩ rfl ⟨rfl, by decide⟩ (c_handOf hT (by omega)) ?_
          rintro _ _ _ _ ⟨rfl, rfl, rfl, rfl⟩
          refine V_if_leN (tgt := 78) dX2_whoPlays_70 rfl (by omega) (fun h70 => ?_) (fun h70 => ?_)
          · skip
            refine V_iconst (v := nI 1) dX2_whoPlays_78 rfl ?_
            refine V_iload dX2_whoPlays_79 rfl ?_
            refine V_isubN dX2_whoPlays_81 (by omega) ?_
            exact V_iret ⟨Or.inl rfl, dX2_whoPlays_82⟩ ⟨Nat.le_of_ble_eq_true rfl, Nat.le_of_ble_eq_true rfl⟩ ⟨rfl, congrArg (fun z => some (Value.int (nI z))) (by (first | (exfalso; omega; done) | (have e : sSide p q last = 1 := (by unfold sSide; (repeat (first | rw [if_pos (by omega)] | rw [if_neg (by omega)])); try rfl); unfold sWho; rw [e, show (if 1 = 0 then p else q) = q from (by (repeat (first | rw [if_pos (by omega)] | rw [if_neg (by omega)])); try rfl)]; (repeat (first | rw [if_pos (by omega)] | rw [if_neg (by omega)])); try omega))), rfl, rfl⟩
          · skip
            refine V_iload dX2_whoPlays_73 rfl ?_
            refine V_goto (tgt := 82) dX2_whoPlays_75 rfl ?_
            exact V_iret ⟨Or.inl rfl, dX2_whoPlays_82⟩ ⟨Nat.le_of_ble_eq_true rfl, Nat.le_of_ble_eq_true rfl⟩ ⟨rfl, congrArg (fun z => some (Value.int (nI z))) (by (first | (exfalso; omega; done) | (have e : sSide p q last = 1 := (by unfold sSide; (repeat (first | rw [if_pos (by omega)] | rw [if_neg (by omega)])); try rfl); unfold sWho; rw [e, show (if 1 = 0 then p else q) = q from (by (repeat (first | rw [if_pos (by omega)] | rw [if_neg (by omega)])); try rfl)]; (repeat (first | rw [if_pos (by omega)] | rw [if_neg (by omega)])); try omega))), rfl, rfl⟩
        · skip
          refine V_iconst (v := nI 0) dX2_whoPlays_49 rfl ?_
          refine V_goto (tgt := 54) dX2_whoPlays_50 rfl ?_
          refine V_istore (ls' := [(4, .int (nI 0)), (0, .ref 10), (1, .int (nI p)), (2, .int (nI q)), (3, .int (nI last))]) dX2_whoPlays_54 (by decide) rfl ?_
          refine V_aload_n dX2_whoPlays_56 rfl ?_
          refine V_iload dX2_whoPlays_57 rfl ?_
          refine V_if_ne (tgt := 66) dX2_whoPlays_59 rfl (fun h => absurd h (by decide)) (fun _ => ?_)
          refine V_iload_n dX2_whoPlays_62 rfl ?_
          refine V_goto (tgt := 67) dX2_whoPlays_63 rfl ?_
          refine V_callV (As := [.int (nI p)]) (st := []) (a := 10) dX2_whoPlays_67 kX2_handOf lX2_38 (by decide) rfl rfl (Nat.le_of_ble_eq_true rfl) ⟨Nat.le_of_ble_eq_true rfl, Nat.le_of_ble_eq_true rfl⟩ ⟨Nat.le_of_ble_eq_true rfl, Nat.le_of_ble_eq_true rfl⟩ rfl ⟨rfl, by decide⟩ (c_handOf hT (by omega)) ?_
          rintro _ _ _ _ ⟨rfl, rfl, rfl, rfl⟩
          refine V_if_leN (tgt := 78) dX2_whoPlays_70 rfl (by omega) (fun h70 => ?_) (fun h70 => ?_)
          · skip
            refine V_iconst (v := nI 1) dX2_whoPlays_78 rfl ?_
            refine V_iload dX2_whoPlays_79 rfl ?_
            refine V_isubN dX2_whoPlays_81 (by omega) ?_
            exact V_iret ⟨Or.inl rfl, dX2_whoPlays_82⟩ ⟨Nat.le_of_ble_eq_true rfl, Nat.le_of_ble_eq_true rfl⟩ ⟨rfl, congrArg (fun z => some (Value.int (nI z))) (by (first | (exfalso; omega; done) | (have e : sSide p q last = 0 := (by unfold sSide; (repeat (first | rw [if_pos (by omega)] | rw [if_neg (by omega)])); try rfl); unfold sWho; rw [e, show (if 0 = 0 then p else q) = p from (by (repeat (first | rw [if_pos (by omega)] | rw [if_neg (by omega)])); try rfl)]; (repeat (first | rw [if_pos (by omega)] | rw [if_neg (by omega)])); try omega))), rfl, rfl⟩
          · skip
            refine V_iload dX2_whoPlays_73 rfl ?_
            refine V_goto (tgt := 82) dX2_whoPlays_75 rfl ?_
            exact V_iret ⟨Or.inl rfl, dX2_whoPlays_82⟩ ⟨Nat.le_of_ble_eq_true rfl, Nat.le_of_ble_eq_true rfl⟩ ⟨rfl, congrArg (fun z => some (Value.int (nI z))) (by (first | (exfalso; omega; done) | (have e : sSide p q last = 0 := (by unfold sSide; (repeat (first | rw [if_pos (by omega)] | rw [if_neg (by omega)])); try rfl); unfold sWho; rw [e, show (if 0 = 0 then p else q) = p from (by (repeat (first | rw [if_pos (by omega)] | rw [if_neg (by omega)])); try rfl)]; (repeat (first | rw [if_pos (by omega)] | rw [if_neg (by omega)])); try omega))), rfl, rfl⟩
    · skip
      refine V_iconst (v := nI 2) dX2_whoPlays_16 rfl ?_
      exact V_iret ⟨Or.inl rfl, dX2_whoPlays_17⟩ ⟨Nat.le_of_ble_eq_true rfl, Nat.le_of_ble_eq_true rfl⟩ ⟨rfl, congrArg (fun z => some (Value.int (nI z))) (by unfold sWho; (repeat (first | rw [if_pos (by omega)] | rw [if_neg (by omega)]))), rfl, rfl⟩

set_option maxRecDepth 100000 in
set_option maxHeartbeats 4000000 in
theorem c_pointsNow {G : zG} {I : zI} {J : zJ} (hT : tabX I) {p q : Nat} (hp : p < 56) (hq : q < 56) : zK G mX2_pointsNow 2 [.ref 10, .int (nI p), .int (nI q)] zsh I J (zA0 (.int (sPts p q)) I J) := by
  refine zK_of kX2_pointsNow.2.2.2.2.1 (Nat.le_of_ble_eq_true rfl) ?_
  show V G mX2_pointsNow 2 _ 0 [(0, .ref 10), (1, .int (nI p)), (2, .int (nI q))] [] (0, 0) zsh I J
  have h1 := tHand_le hp
  have h2 := tHand_le hq
  have h3 := tBest_le hp
  have h4 := tBest_le hq
  refine V_aload_n dX2_pointsNow_0 rfl ?_
  refine V_iload_n dX2_pointsNow_1 rfl ?_
  refine V_callV (As := [.int (nI p)]) (st := []) (a := 10) dX2_pointsNow_2 kX2_bestRingOf lX2_41 (by decide) rfl rfl (Nat.le_of_ble_eq_true rfl) ⟨Nat.le_of_ble_eq_true rfl, Nat.le_of_ble_eq_true rfl⟩ ⟨Nat.le_of_ble_eq_true rfl, Nat.le_of_ble_eq_true rfl⟩ rfl ⟨rfl, by decide⟩ (c_bestRingOf hT (by omega)) ?_
  rintro _ _ _ _ ⟨rfl, rfl, rfl, rfl⟩
  refine V_aload_n dX2_pointsNow_5 rfl ?_
  refine V_iload_n dX2_pointsNow_6 rfl ?_
  refine V_callV (As := [.int (nI q)]) (st := [.int (nI (tBest p))]) (a := 10) dX2_pointsNow_7 kX2_bestRingOf lX2_41 (by decide) rfl rfl (Nat.le_of_ble_eq_true rfl) ⟨Nat.le_of_ble_eq_true rfl, Nat.le_of_ble_eq_true rfl⟩ ⟨Nat.le_of_ble_eq_true rfl, Nat.le_of_ble_eq_true rfl⟩ rfl ⟨rfl, by decide⟩ (c_bestRingOf hT (by omega)) ?_
  rintro _ _ _ _ ⟨rfl, rfl, rfl, rfl⟩
  refine V_icmp_gtN (tgt := 47) dX2_pointsNow_10 rfl (by omega) (by omega) (fun h10 => ?_) (fun h10 => ?_)
  · skip
    refine V_aload_n dX2_pointsNow_47 rfl ?_
    refine V_getR (b := 13) dX2_pointsNow_48 fX2_18 ⟨Nat.le_of_ble_eq_true rfl, Nat.le_of_ble_eq_true rfl⟩ rfl rfl rfl ?_
    refine V_iconst (v := nI 5) dX2_pointsNow_51 rfl ?_
    refine V_iload_n dX2_pointsNow_52 rfl ?_
    refine V_imulN dX2_pointsNow_53 ?_
    refine V_aload_n dX2_pointsNow_54 rfl ?_
    refine V_iload_n dX2_pointsNow_55 rfl ?_
    refine V_callV (As := [.int (nI p)]) (st := [.int (nI (5 * q)), .ref 13]) (a := 10) dX2_pointsNow_56 kX2_bestRingOf lX2_41 (by decide) rfl rfl (Nat.le_of_ble_eq_true rfl) ⟨Nat.le_of_ble_eq_true rfl, Nat.le_of_ble_eq_true rfl⟩ ⟨Nat.le_of_ble_eq_true rfl, Nat.le_of_ble_eq_true rfl⟩ rfl ⟨rfl, by decide⟩ (c_bestRingOf hT (by omega)) ?_
    rintro _ _ _ _ ⟨rfl, rfl, rfl, rfl⟩
    refine V_iaddN dX2_pointsNow_59 ?_
    refine V_callS (As := [.ref 13, .int (nI ((5 * q) + (tBest p)))]) (st := []) dX2_pointsNow_60 kX11_at lX2_34 (by decide) rfl rfl (Nat.le_of_ble_eq_true rfl) ⟨Nat.le_of_ble_eq_true rfl, Nat.le_of_ble_eq_true rfl⟩ (c_at (a := 13) (n := 280) ⟨Nat.le_of_ble_eq_true rfl, Nat.le_of_ble_eq_true rfl⟩ rfl (by decide) (by omega)) ?_
    rintro _ _ _ _ ⟨rfl, rfl, rfl, rfl⟩
    refine V_eqI (y := nI (tBel ((5 * q) + (tBest p)))) (hT.2.2.1 ((5 * q) + (tBest p)) (by omega)) ?_
    refine V_ineg dX2_pointsNow_63 ?_
    exact V_iret ⟨Or.inl rfl, dX2_pointsNow_64⟩ ⟨Nat.le_of_ble_eq_true rfl, Nat.le_of_ble_eq_true rfl⟩ ⟨rfl, congrArg (fun z => some (Value.int z)) (by (first | (exfalso; omega; done) | (unfold sPts; (repeat (first | rw [if_pos (by omega)] | rw [if_neg (by omega)])); try rfl))), rfl, rfl⟩
  · skip
    refine V_aload_n dX2_pointsNow_13 rfl ?_
    refine V_iload_n dX2_pointsNow_14 rfl ?_
    refine V_callV (As := [.int (nI p)]) (st := []) (a := 10) dX2_pointsNow_15 kX2_bestRingOf lX2_41 (by decide) rfl rfl (Nat.le_of_ble_eq_true rfl) ⟨Nat.le_of_ble_eq_true rfl, Nat.le_of_ble_eq_true rfl⟩ ⟨Nat.le_of_ble_eq_true rfl, Nat.le_of_ble_eq_true rfl⟩ rfl ⟨rfl, by decide⟩ (c_bestRingOf hT (by omega)) ?_
    rintro _ _ _ _ ⟨rfl, rfl, rfl, rfl⟩
    refine V_aload_n dX2_pointsNow_18 rfl ?_
    refine V_iload_n dX2_pointsNow_19 rfl ?_
    refine V_callV (As := [.int (nI q)]) (st := [.int (nI (tBest p))]) (a := 10) dX2_pointsNow_20 kX2_bestRingOf lX2_41 (by decide) rfl rfl (Nat.le_of_ble_eq_true rfl) ⟨Nat.le_of_ble_eq_true rfl, Nat.le_of_ble_eq_true rfl⟩ ⟨Nat.le_of_ble_eq_true rfl, Nat.le_of_ble_eq_true rfl⟩ rfl ⟨rfl, by decide⟩ (c_bestRingOf hT (by omega)) ?_
    rintro _ _ _ _ ⟨rfl, rfl, rfl, rfl⟩
    refine V_icmp_neN (tgt := 30) dX2_pointsNow_23 rfl (by omega) (by omega) (fun h23 => ?_) (fun h23 => ?_)
    · skip
      refine V_aload_n dX2_pointsNow_30 rfl ?_
      refine V_getR (b := 13) dX2_pointsNow_31 fX2_18 ⟨Nat.le_of_ble_eq_true rfl, Nat.le_of_ble_eq_true rfl⟩ rfl rfl rfl ?_
      refine V_iconst (v := nI 5) dX2_pointsNow_34 rfl ?_
      refine V_iload_n dX2_pointsNow_35 rfl ?_
      refine V_imulN dX2_pointsNow_36 ?_
      refine V_aload_n dX2_pointsNow_37 rfl ?_
      refine V_iload_n dX2_pointsNow_38 rfl ?_
      refine V_callV (As := [.int (nI q)]) (st := [.int (nI (5 * p)), .ref 13]) (a := 10) dX2_pointsNow_39 kX2_bestRingOf lX2_41 (by decide) rfl rfl (Nat.le_of_ble_eq_true rfl) ⟨Nat.le_of_ble_eq_true rfl, Nat.le_of_ble_eq_true rfl⟩ ⟨Nat.le_of_ble_eq_true rfl, Nat.le_of_ble_eq_true rfl⟩ rfl ⟨rfl, by decide⟩ (c_bestRingOf hT (by omega)) ?_
      rintro _ _ _ _ ⟨rfl, rfl, rfl, rfl⟩
      refine V_iaddN dX2_pointsNow_42 ?_
      refine V_callS (As := [.ref 13, .int (nI ((5 * p) + (tBest q)))]) (st := []) dX2_pointsNow_43 kX11_at lX2_34 (by decide) rfl rfl (Nat.le_of_ble_eq_true rfl) ⟨Nat.le_of_ble_eq_true rfl, Nat.le_of_ble_eq_true rfl⟩ (c_at (a := 13) (n := 280) ⟨Nat.le_of_ble_eq_true rfl, Nat.le_of_ble_eq_true rfl⟩ rfl (by decide) (by omega)) ?_
      rintro _ _ _ _ ⟨rfl, rfl, rfl, rfl⟩
      refine V_eqI (y := nI (tBel ((5 * p) + (tBest q)))) (hT.2.2.1 ((5 * p) + (tBest q)) (by omega)) ?_
      exact V_iret ⟨Or.inl rfl, dX2_pointsNow_46⟩ ⟨Nat.le_of_ble_eq_true rfl, Nat.le_of_ble_eq_true rfl⟩ ⟨rfl, congrArg (fun z => some (Value.int z)) (by (first | (exfalso; omega; done) | (unfold sPts; (repeat (first | rw [if_pos (by omega)] | rw [if_neg (by omega)])); try rfl))), rfl, rfl⟩
    · skip
      refine V_iconst (v := nI 0) dX2_pointsNow_26 rfl ?_
      refine V_goto (tgt := 46) dX2_pointsNow_27 rfl ?_
      exact V_iret ⟨Or.inl rfl, dX2_pointsNow_46⟩ ⟨Nat.le_of_ble_eq_true rfl, Nat.le_of_ble_eq_true rfl⟩ ⟨rfl, congrArg (fun z => some (Value.int z)) (by (first | (exfalso; omega; done) | (unfold sPts; (repeat (first | rw [if_pos (by omega)] | rw [if_neg (by omega)])); try rfl))), rfl, rfl⟩

set_option maxRecDepth 100000 in
set_option maxHeartbeats 4000000 in
theorem c_canShoot {G : zG} {I : zI} {J : zJ} (hT : tabX I) {p q : Nat} (hp : p < 56) (hq : q < 56) {side : Nat} (hs : side ≤ 1) : zK G mX2_canShoot 2 [.ref 10, .int (nI p), .int (nI q), .int (nI side)] zsh I J (zA0 (.int (nI (if sCan p q side = true then 1 else 0))) I J) := by
  refine zK_of kX2_canShoot.2.2.2.2.1 (Nat.le_of_ble_eq_true rfl) ?_
  show V G mX2_canShoot 2 _ 0 [(0, .ref 10), (1, .int (nI p)), (2, .int (nI q)), (3, .int (nI side))] [] (0, 0) zsh I J
  have h5 := tBel_le (k := 5 * p + 4) (by omega)
  have h6 := tBel_le (k := 5 * q + 4) (by omega)
  refine V_aload_n dX2_canShoot_0 rfl ?_
  refine V_iload_n dX2_canShoot_1 rfl ?_
  refine V_if_neN (tgt := 9) dX2_canShoot_2 rfl (by omega) (fun h2 => ?_) (fun h2 => ?_)
  · skip
    refine V_iload_n dX2_canShoot_9 rfl ?_
    refine V_callV (As := [.int (nI p)]) (st := []) (a := 10) dX2_canShoot_10 kX2_lyingOf lX2_44 (by decide) rfl rfl (Nat.le_of_ble_eq_true rfl) ⟨Nat.le_of_ble_eq_true rfl, Nat.le_of_ble_eq_true rfl⟩ ⟨Nat.le_of_ble_eq_true rfl, Nat.le_of_ble_eq_true rfl⟩ rfl ⟨rfl, by decide⟩ (c_lyingOf hT (by omega)) ?_
    rintro _ _ _ _ ⟨rfl, rfl, rfl, rfl⟩
    refine V_if_leN (tgt := 20) dX2_canShoot_13 rfl (by omega) (fun h13 => ?_) (fun h13 => ?_)
    · skip
      refine V_iconst (v := nI 0) dX2_canShoot_20 rfl ?_
      exact V_iret ⟨Or.inr ⟨rfl, Or.inl rfl⟩, dX2_canShoot_21⟩ ⟨Nat.le_of_ble_eq_true rfl, Nat.le_of_ble_eq_true rfl⟩ ⟨rfl, congrArg (fun z => some (Value.int (nI z))) (by simp_all [sCan]), rfl, rfl⟩
    · skip
      refine V_iconst (v := nI 1) dX2_canShoot_16 rfl ?_
      refine V_goto (tgt := 21) dX2_canShoot_17 rfl ?_
      exact V_iret ⟨Or.inr ⟨rfl, Or.inr rfl⟩, dX2_canShoot_21⟩ ⟨Nat.le_of_ble_eq_true rfl, Nat.le_of_ble_eq_true rfl⟩ ⟨rfl, congrArg (fun z => some (Value.int (nI z))) (by simp_all [sCan]), rfl, rfl⟩
  · skip
    refine V_iload_n dX2_canShoot_5 rfl ?_
    refine V_goto (tgt := 10) dX2_canShoot_6 rfl ?_
    refine V_callV (As := [.int (nI q)]) (st := []) (a := 10) dX2_canShoot_10 kX2_lyingOf lX2_44 (by decide) rfl rfl (Nat.le_of_ble_eq_true rfl) ⟨Nat.le_of_ble_eq_true rfl, Nat.le_of_ble_eq_true rfl⟩ ⟨Nat.le_of_ble_eq_true rfl, Nat.le_of_ble_eq_true rfl⟩ rfl ⟨rfl, by decide⟩ (c_lyingOf hT (by omega)) ?_
    rintro _ _ _ _ ⟨rfl, rfl, rfl, rfl⟩
    refine V_if_leN (tgt := 20) dX2_canShoot_13 rfl (by omega) (fun h13 => ?_) (fun h13 => ?_)
    · skip
      refine V_iconst (v := nI 0) dX2_canShoot_20 rfl ?_
      exact V_iret ⟨Or.inr ⟨rfl, Or.inl rfl⟩, dX2_canShoot_21⟩ ⟨Nat.le_of_ble_eq_true rfl, Nat.le_of_ble_eq_true rfl⟩ ⟨rfl, congrArg (fun z => some (Value.int (nI z))) (by simp_all [sCan]), rfl, rfl⟩
    · skip
      refine V_iconst (v := nI 1) dX2_canShoot_16 rfl ?_
      refine V_goto (tgt := 21) dX2_canShoot_17 rfl ?_
      exact V_iret ⟨Or.inr ⟨rfl, Or.inr rfl⟩, dX2_canShoot_21⟩ ⟨Nat.le_of_ble_eq_true rfl, Nat.le_of_ble_eq_true rfl⟩ ⟨rfl, congrArg (fun z => some (Value.int (nI z))) (by simp_all [sCan]), rfl, rfl⟩

set_option maxRecDepth 100000 in
set_option maxHeartbeats 4000000 in
theorem c_mineBehind {G : zG} {I : zI} {J : zJ} (hT : tabX I) {p q : Nat} (hp : p < 56) (hq : q < 56) {side part : Nat} (hs : side ≤ 1) (hpa : part ≤ 6) : zK G mX2_mineBehind 2 [.ref 10, .int (nI p), .int (nI q), .int (nI side), .int (nI part)] zsh I J (zA0 (.int (nI (sMine p q side part))) I J) := by
  refine zK_of kX2_mineBehind.2.2.2.2.1 (Nat.le_of_ble_eq_true rfl) ?_
  show V G mX2_mineBehind 2 _ 0 [(0, .ref 10), (1, .int (nI p)), (2, .int (nI q)), (3, .int (nI side)), (4, .int (nI part))] [] (0, 0) zsh I J
  have h1 := tHand_le hp
  have h2 := tHand_le hq
  have h3 := tBest_le hp
  have h4 := tBest_le hq
  refine V_iload_n dX2_mineBehind_0 rfl ?_
  refine V_if_neN (tgt := 8) dX2_mineBehind_1 rfl (by omega) (fun h1 => ?_) (fun h1 => ?_)
  · skip
    refine V_iload_n dX2_mineBehind_8 rfl ?_
    refine V_istore (ls' := [(5, .int (nI q)), (0, .ref 10), (1, .int (nI p)), (2, .int (nI q)), (3, .int (nI side)), (4, .int (nI part))]) dX2_mineBehind_9 (by decide) rfl ?_
    refine V_iload_n dX2_mineBehind_11 rfl ?_
    refine V_if_neN (tgt := 19) dX2_mineBehind_12 rfl (by omega) (fun h12 => ?_) (fun h12 => ?_)
    · skip
      refine V_iload_n dX2_mineBehind_19 rfl ?_
      refine V_istore (ls' := [(6, .int (nI p)), (5, .int (nI q)), (0, .ref 10), (1, .int (nI p)), (2, .int (nI q)), (3, .int (nI side)), (4, .int (nI part))]) dX2_mineBehind_20 (by decide) rfl ?_
      refine V_iconst (v := nI 4) dX2_mineBehind_22 rfl ?_
      refine V_istore (ls' := [(7, .int (nI 4)), (6, .int (nI p)), (5, .int (nI q)), (0, .ref 10), (1, .int (nI p)), (2, .int (nI q)), (3, .int (nI side)), (4, .int (nI part))]) dX2_mineBehind_23 (by decide) rfl ?_
      refine V_iload dX2_mineBehind_25 rfl ?_
      refine V_iconst (v := nI 4) dX2_mineBehind_27 rfl ?_
      refine V_icmp_geN (tgt := 38) dX2_mineBehind_28 rfl (by omega) (by omega) (fun h28 => ?_) (fun h28 => ?_)
      · skip
        refine V_iload dX2_mineBehind_38 rfl ?_
        refine V_iconst (v := nI 4) dX2_mineBehind_40 rfl ?_
        refine V_icmp_neN (tgt := 52) dX2_mineBehind_41 rfl (by omega) (by omega) (fun h41 => ?_) (fun h41 => ?_)
        · skip
          refine V_aload_n dX2_mineBehind_52 rfl ?_
          refine V_getR (b := 14) dX2_mineBehind_53 fX2_21 ⟨Nat.le_of_ble_eq_true rfl, Nat.le_of_ble_eq_true rfl⟩ rfl rfl rfl ?_
          refine V_iconst (v := nI 5) dX2_mineBehind_56 rfl ?_
          refine V_iload dX2_mineBehind_57 rfl ?_
          refine V_imulN dX2_mineBehind_59 ?_
          refine V_iload dX2_mineBehind_60 rfl ?_
          refine V_iaddN dX2_mineBehind_62 ?_
          refine V_callS (As := [.ref 14, .int (nI ((5 * q) + 4))]) (st := []) dX2_mineBehind_63 kX11_at lX2_34 (by decide) rfl rfl (Nat.le_of_ble_eq_true rfl) ⟨Nat.le_of_ble_eq_true rfl, Nat.le_of_ble_eq_true rfl⟩ (c_at (a := 14) (n := 280) ⟨Nat.le_of_ble_eq_true rfl, Nat.le_of_ble_eq_true rfl⟩ rfl (by decide) (by omega)) ?_
          rintro _ _ _ _ ⟨rfl, rfl, rfl, rfl⟩
          refine V_eqI (y := nI (tThr ((5 * q) + 4))) (hT.2.2.2.1 ((5 * q) + 4) (by omega)) ?_
          exact V_iret ⟨Or.inl rfl, dX2_mineBehind_66⟩ ⟨Nat.le_of_ble_eq_true rfl, Nat.le_of_ble_eq_true rfl⟩ ⟨rfl, congrArg (fun z => some (Value.int (nI z))) (by (first | (exfalso; omega; done) | (unfold sMine sRing; (repeat (first | rw [if_pos (by omega)] | rw [if_neg (by omega)])); try rfl))), rfl, rfl⟩
        · skip
          refine V_aload_n dX2_mineBehind_44 rfl ?_
          refine V_iload dX2_mineBehind_45 rfl ?_
          refine V_callV (As := [.int (nI p)]) (st := []) (a := 10) dX2_mineBehind_47 kX2_bestRingOf lX2_41 (by decide) rfl rfl (Nat.le_of_ble_eq_true rfl) ⟨Nat.le_of_ble_eq_true rfl, Nat.le_of_ble_eq_true rfl⟩ ⟨Nat.le_of_ble_eq_true rfl, Nat.le_of_ble_eq_true rfl⟩ rfl ⟨rfl, by decide⟩ (c_bestRingOf hT (by omega)) ?_
          rintro _ _ _ _ ⟨rfl, rfl, rfl, rfl⟩
          refine V_istore (ls' := [(7, .int (nI (tBest p))), (6, .int (nI p)), (5, .int (nI q)), (0, .ref 10), (1, .int (nI p)), (2, .int (nI q)), (3, .int (nI side)), (4, .int (nI part))]) dX2_mineBehind_50 (by decide) rfl ?_
          refine V_aload_n dX2_mineBehind_52 rfl ?_
          refine V_getR (b := 14) dX2_mineBehind_53 fX2_21 ⟨Nat.le_of_ble_eq_true rfl, Nat.le_of_ble_eq_true rfl⟩ rfl rfl rfl ?_
          refine V_iconst (v := nI 5) dX2_mineBehind_56 rfl ?_
          refine V_iload dX2_mineBehind_57 rfl ?_
          refine V_imulN dX2_mineBehind_59 ?_
          refine V_iload dX2_mineBehind_60 rfl ?_
          refine V_iaddN dX2_mineBehind_62 ?_
          refine V_callS (As := [.ref 14, .int (nI ((5 * q) + (tBest p)))]) (st := []) dX2_mineBehind_63 kX11_at lX2_34 (by decide) rfl rfl (Nat.le_of_ble_eq_true rfl) ⟨Nat.le_of_ble_eq_true rfl, Nat.le_of_ble_eq_true rfl⟩ (c_at (a := 14) (n := 280) ⟨Nat.le_of_ble_eq_true rfl, Nat.le_of_ble_eq_true rfl⟩ rfl (by decide) (by omega)) ?_
          rintro _ _ _ _ ⟨rfl, rfl, rfl, rfl⟩
          refine V_eqI (y := nI (tThr ((5 * q) + (tBest p)))) (hT.2.2.2.1 ((5 * q) + (tBest p)) (by omega)) ?_
          exact V_iret ⟨Or.inl rfl, dX2_mineBehind_66⟩ ⟨Nat.le_of_ble_eq_true rfl, Nat.le_of_ble_eq_true rfl⟩ ⟨rfl, congrArg (fun z => some (Value.int (nI z))) (by (first | (exfalso; omega; done) | (unfold sMine sRing; (repeat (first | rw [if_pos (by omega)] | rw [if_neg (by omega)])); try rfl))), rfl, rfl⟩
      · skip
        refine V_iload dX2_mineBehind_31 rfl ?_
        refine V_istore (ls' := [(7, .int (nI part)), (6, .int (nI p)), (5, .int (nI q)), (0, .ref 10), (1, .int (nI p)), (2, .int (nI q)), (3, .int (nI side)), (4, .int (nI part))]) dX2_mineBehind_33 (by decide) rfl ?_
        refine V_goto (tgt := 52) dX2_mineBehind_35 rfl ?_
        refine V_aload_n dX2_mineBehind_52 rfl ?_
        refine V_getR (b := 14) dX2_mineBehind_53 fX2_21 ⟨Nat.le_of_ble_eq_true rfl, Nat.le_of_ble_eq_true rfl⟩ rfl rfl rfl ?_
        refine V_iconst (v := nI 5) dX2_mineBehind_56 rfl ?_
        refine V_iload dX2_mineBehind_57 rfl ?_
        refine V_imulN dX2_mineBehind_59 ?_
        refine V_iload dX2_mineBehind_60 rfl ?_
        refine V_iaddN dX2_mineBehind_62 ?_
        refine V_callS (As := [.ref 14, .int (nI ((5 * q) + part))]) (st := []) dX2_mineBehind_63 kX11_at lX2_34 (by decide) rfl rfl (Nat.le_of_ble_eq_true rfl) ⟨Nat.le_of_ble_eq_true rfl, Nat.le_of_ble_eq_true rfl⟩ (c_at (a := 14) (n := 280) ⟨Nat.le_of_ble_eq_true rfl, Nat.le_of_ble_eq_true rfl⟩ rfl (by decide) (by omega)) ?_
        rintro _ _ _ _ ⟨rfl, rfl, rfl, rfl⟩
        refine V_eqI (y := nI (tThr ((5 * q) + part))) (hT.2.2.2.1 ((5 * q) + part) (by omega)) ?_
        exact V_iret ⟨Or.inl rfl, dX2_mineBehind_66⟩ ⟨Nat.le_of_ble_eq_true rfl, Nat.le_of_ble_eq_true rfl⟩ ⟨rfl, congrArg (fun z => some (Value.int (nI z))) (by (first | (exfalso; omega; done) | (unfold sMine sRing; (repeat (first | rw [if_pos (by omega)] | rw [if_neg (by omega)])); try rfl))), rfl, rfl⟩
    · skip
      refine V_iload_n dX2_mineBehind_15 rfl ?_
      refine V_goto (tgt := 20) dX2_mineBehind_16 rfl ?_
      refine V_istore (ls' := [(6, .int (nI q)), (5, .int (nI q)), (0, .ref 10), (1, .int (nI p)), (2, .int (nI q)), (3, .int (nI side)), (4, .int (nI part))]) dX2_mineBehind_20 (by decide) rfl ?_
      refine V_iconst (v := nI 4) dX2_mineBehind_22 rfl ?_
      refine V_istore (ls' := [(7, .int (nI 4)), (6, .int (nI q)), (5, .int (nI q)), (0, .ref 10), (1, .int (nI p)), (2, .int (nI q)), (3, .int (nI side)), (4, .int (nI part))]) dX2_mineBehind_23 (by decide) rfl ?_
      refine V_iload dX2_mineBehind_25 rfl ?_
      refine V_iconst (v := nI 4) dX2_mineBehind_27 rfl ?_
      refine V_icmp_geN (tgt := 38) dX2_mineBehind_28 rfl (by omega) (by omega) (fun h28 => ?_) (fun h28 => ?_)
      · skip
        refine V_iload dX2_mineBehind_38 rfl ?_
        refine V_iconst (v := nI 4) dX2_mineBehind_40 rfl ?_
        refine V_icmp_neN (tgt := 52) dX2_mineBehind_41 rfl (by omega) (by omega) (fun h41 => ?_) (fun h41 => ?_)
        · skip
          refine V_aload_n dX2_mineBehind_52 rfl ?_
          refine V_getR (b := 14) dX2_mineBehind_53 fX2_21 ⟨Nat.le_of_ble_eq_true rfl, Nat.le_of_ble_eq_true rfl⟩ rfl rfl rfl ?_
          refine V_iconst (v := nI 5) dX2_mineBehind_56 rfl ?_
          refine V_iload dX2_mineBehind_57 rfl ?_
          refine V_imulN dX2_mineBehind_59 ?_
          refine V_iload dX2_mineBehind_60 rfl ?_
          refine V_iaddN dX2_mineBehind_62 ?_
          refine V_callS (As := [.ref 14, .int (nI ((5 * q) + 4))]) (st := []) dX2_mineBehind_63 kX11_at lX2_34 (by decide) rfl rfl (Nat.le_of_ble_eq_true rfl) ⟨Nat.le_of_ble_eq_true rfl, Nat.le_of_ble_eq_true rfl⟩ (c_at (a := 14) (n := 280) ⟨Nat.le_of_ble_eq_true rfl, Nat.le_of_ble_eq_true rfl⟩ rfl (by decide) (by omega)) ?_
          rintro _ _ _ _ ⟨rfl, rfl, rfl, rfl⟩
          refine V_eqI (y := nI (tThr ((5 * q) + 4))) (hT.2.2.2.1 ((5 * q) + 4) (by omega)) ?_
          exact V_iret ⟨Or.inl rfl, dX2_mineBehind_66⟩ ⟨Nat.le_of_ble_eq_true rfl, Nat.le_of_ble_eq_true rfl⟩ ⟨rfl, congrArg (fun z => some (Value.int (nI z))) (by (first | (exfalso; omega; done) | (unfold sMine sRing; (repeat (first | rw [if_pos (by omega)] | rw [if_neg (by omega)])); try rfl))), rfl, rfl⟩
        · skip
          refine V_aload_n dX2_mineBehind_44 rfl ?_
          refine V_iload dX2_mineBehind_45 rfl ?_
          refine V_callV (As := [.int (nI q)]) (st := []) (a := 10) dX2_mineBehind_47 kX2_bestRingOf lX2_41 (by decide) rfl rfl (Nat.le_of_ble_eq_true rfl) ⟨Nat.le_of_ble_eq_true rfl, Nat.le_of_ble_eq_true rfl⟩ ⟨Nat.le_of_ble_eq_true rfl, Nat.le_of_ble_eq_true rfl⟩ rfl ⟨rfl, by decide⟩ (c_bestRingOf hT (by omega)) ?_
          rintro _ _ _ _ ⟨rfl, rfl, rfl, rfl⟩
          refine V_istore (ls' := [(7, .int (nI (tBest q))), (6, .int (nI q)), (5, .int (nI q)), (0, .ref 10), (1, .int (nI p)), (2, .int (nI q)), (3, .int (nI side)), (4, .int (nI part))]) dX2_mineBehind_50 (by decide) rfl ?_
          refine V_aload_n dX2_mineBehind_52 rfl ?_
          refine V_getR (b := 14) dX2_mineBehind_53 fX2_21 ⟨Nat.le_of_ble_eq_true rfl, Nat.le_of_ble_eq_true rfl⟩ rfl rfl rfl ?_
          refine V_iconst (v := nI 5) dX2_mineBehind_56 rfl ?_
          refine V_iload dX2_mineBehind_57 rfl ?_
          refine V_imulN dX2_mineBehind_59 ?_
          refine V_iload dX2_mineBehind_60 rfl ?_
          refine V_iaddN dX2_mineBehind_62 ?_
          refine V_callS (As := [.ref 14, .int (nI ((5 * q) + (tBest q)))]) (st := []) dX2_mineBehind_63 kX11_at lX2_34 (by decide) rfl rfl (Nat.le_of_ble_eq_true rfl) ⟨Nat.le_of_ble_eq_true rfl, Nat.le_of_ble_eq_true rfl⟩ (c_at (a := 14) (n := 280) ⟨Nat.le_of_ble_eq_true rfl, Nat.le_of_ble_eq_true rfl⟩ rfl (by decide) (by omega)) ?_
          rintro _ _ _ _ ⟨rfl, rfl, rfl, rfl⟩
          refine V_eqI (y := nI (tThr ((5 * q) + (tBest q)))) (hT.2.2.2.1 ((5 * q) + (tBest q)) (by omega)) ?_
          exact V_iret ⟨Or.inl rfl, dX2_mineBehind_66⟩ ⟨Nat.le_of_ble_eq_true rfl, Nat.le_of_ble_eq_true rfl⟩ ⟨rfl, congrArg (fun z => some (Value.int (nI z))) (by (first | (exfalso; omega; done) | (unfold sMine sRing; (repeat (first | rw [if_pos (by omega)] | rw [if_neg (by omega)])); try rfl))), rfl, rfl⟩
      · skip
        refine V_iload dX2_mineBehind_31 rfl ?_
        refine V_istore (ls' := [(7, .int (nI part)), (6, .int (nI q)), (5, .int (nI q)), (0, .ref 10), (1, .int (nI p)), (2, .int (nI q)), (3, .int (nI side)), (4, .int (nI part))]) dX2_mineBehind_33 (by decide) rfl ?_
        refine V_goto (tgt := 52) dX2_mineBehind_35 rfl ?_
        refine V_aload_n dX2_mineBehind_52 rfl ?_
        refine V_getR (b := 14) dX2_mineBehind_53 fX2_21 ⟨Nat.le_of_ble_eq_true rfl, Nat.le_of_ble_eq_true rfl⟩ rfl rfl rfl ?_
        refine V_iconst (v := nI 5) dX2_mineBehind_56 rfl ?_
        refine V_iload dX2_mineBehind_57 rfl ?_
        refine V_imulN dX2_mineBehind_59 ?_
        refine V_iload dX2_mineBehind_60 rfl ?_
        refine V_iaddN dX2_mineBehind_62 ?_
        refine V_callS (As := [.ref 14, .int (nI ((5 * q) + part))]) (st := []) dX2_mineBehind_63 kX11_at lX2_34 (by decide) rfl rfl (Nat.le_of_ble_eq_true rfl) ⟨Nat.le_of_ble_eq_true rfl, Nat.le_of_ble_eq_true rfl⟩ (c_at (a := 14) (n := 280) ⟨Nat.le_of_ble_eq_true rfl, Nat.le_of_ble_eq_true rfl⟩ rfl (by decide) (by omega)) ?_
        rintro _ _ _ _ ⟨rfl, rfl, rfl, rfl⟩
        refine V_eqI (y := nI (tThr ((5 * q) + part))) (hT.2.2.2.1 ((5 * q) + part) (by omega)) ?_
        exact V_iret ⟨Or.inl rfl, dX2_mineBehind_66⟩ ⟨Nat.le_of_ble_eq_true rfl, Nat.le_of_ble_eq_true rfl⟩ ⟨rfl, congrArg (fun z => some (Value.int (nI z))) (by (first | (exfalso; omega; done) | (unfold sMine sRing; (repeat (first | rw [if_pos (by omega)] | rw [if_neg (by omega)])); try rfl))), rfl, rfl⟩
  · skip
    refine V_iload_n dX2_mineBehind_4 rfl ?_
    refine V_goto (tgt := 9) dX2_mineBehind_5 rfl ?_
    refine V_istore (ls' := [(5, .int (nI p)), (0, .ref 10), (1, .int (nI p)), (2, .int (nI q)), (3, .int (nI side)), (4, .int (nI part))]) dX2_mineBehind_9 (by decide) rfl ?_
    refine V_iload_n dX2_mineBehind_11 rfl ?_
    refine V_if_neN (tgt := 19) dX2_mineBehind_12 rfl (by omega) (fun h12 => ?_) (fun h12 => ?_)
    · skip
      refine V_iload_n dX2_mineBehind_19 rfl ?_
      refine V_istore (ls' := [(6, .int (nI p)), (5, .int (nI p)), (0, .ref 10), (1, .int (nI p)), (2, .int (nI q)), (3, .int (nI side)), (4, .int (nI part))]) dX2_mineBehind_20 (by decide) rfl ?_
      refine V_iconst (v := nI 4) dX2_mineBehind_22 rfl ?_
      refine V_istore (ls' := [(7, .int (nI 4)), (6, .int (nI p)), (5, .int (nI p)), (0, .ref 10), (1, .int (nI p)), (2, .int (nI q)), (3, .int (nI side)), (4, .int (nI part))]) dX2_mineBehind_23 (by decide) rfl ?_
      refine V_iload dX2_mineBehind_25 rfl ?_
      refine V_iconst (v := nI 4) dX2_mineBehind_27 rfl ?_
      refine V_icmp_geN (tgt := 38) dX2_mineBehind_28 rfl (by omega) (by omega) (fun h28 => ?_) (fun h28 => ?_)
      · skip
        refine V_iload dX2_mineBehind_38 rfl ?_
        refine V_iconst (v := nI 4) dX2_mineBehind_40 rfl ?_
        refine V_icmp_neN (tgt := 52) dX2_mineBehind_41 rfl (by omega) (by omega) (fun h41 => ?_) (fun h41 => ?_)
        · skip
          refine V_aload_n dX2_mineBehind_52 rfl ?_
          refine V_getR (b := 14) dX2_mineBehind_53 fX2_21 ⟨Nat.le_of_ble_eq_true rfl, Nat.le_of_ble_eq_true rfl⟩ rfl rfl rfl ?_
          refine V_iconst (v := nI 5) dX2_mineBehind_56 rfl ?_
          refine V_iload dX2_mineBehind_57 rfl ?_
          refine V_imulN dX2_mineBehind_59 ?_
          refine V_iload dX2_mineBehind_60 rfl ?_
          refine V_iaddN dX2_mineBehind_62 ?_
          refine V_callS (As := [.ref 14, .int (nI ((5 * p) + 4))]) (st := []) dX2_mineBehind_63 kX11_at lX2_34 (by decide) rfl rfl (Nat.le_of_ble_eq_true rfl) ⟨Nat.le_of_ble_eq_true rfl, Nat.le_of_ble_eq_true rfl⟩ (c_at (a := 14) (n := 280) ⟨Nat.le_of_ble_eq_true rfl, Nat.le_of_ble_eq_true rfl⟩ rfl (by decide) (by omega)) ?_
          rintro _ _ _ _ ⟨rfl, rfl, rfl, rfl⟩
          refine V_eqI (y := nI (tThr ((5 * p) + 4))) (hT.2.2.2.1 ((5 * p) + 4) (by omega)) ?_
          exact V_iret ⟨Or.inl rfl, dX2_mineBehind_66⟩ ⟨Nat.le_of_ble_eq_true rfl, Nat.le_of_ble_eq_true rfl⟩ ⟨rfl, congrArg (fun z => some (Value.int (nI z))) (by (first | (exfalso; omega; done) | (unfold sMine sRing; (repeat (first | rw [if_pos (by omega)] | rw [if_neg (by omega)])); try rfl))), rfl, rfl⟩
        · skip
          refine V_aload_n dX2_mineBehind_44 rfl ?_
          refine V_iload dX2_mineBehind_45 rfl ?_
          refine V_callV (As := [.int (nI p)]) (st := []) (a := 10) dX2_mineBehind_47 kX2_bestRingOf lX2_41 (by decide) rfl rfl (Nat.le_of_ble_eq_true rfl) ⟨Nat.le_of_ble_eq_true rfl, Nat.le_of_ble_eq_true rfl⟩ ⟨Nat.le_of_ble_eq_true rfl, Nat.le_of_ble_eq_true rfl⟩ rfl ⟨rfl, by decide⟩ (c_bestRingOf hT (by omega)) ?_
          rintro _ _ _ _ ⟨rfl, rfl, rfl, rfl⟩
          refine V_istore (ls' := [(7, .int (nI (tBest p))), (6, .int (nI p)), (5, .int (nI p)), (0, .ref 10), (1, .int (nI p)), (2, .int (nI q)), (3, .int (nI side)), (4, .int (nI part))]) dX2_mineBehind_50 (by decide) rfl ?_
          refine V_aload_n dX2_mineBehind_52 rfl ?_
          refine V_getR (b := 14) dX2_mineBehind_53 fX2_21 ⟨Nat.le_of_ble_eq_true rfl, Nat.le_of_ble_eq_true rfl⟩ rfl rfl rfl ?_
          refine V_iconst (v := nI 5) dX2_mineBehind_56 rfl ?_
          refine V_iload dX2_mineBehind_57 rfl ?_
          refine V_imulN dX2_mineBehind_59 ?_
          refine V_iload dX2_mineBehind_60 rfl ?_
          refine V_iaddN dX2_mineBehind_62 ?_
          refine V_callS (As := [.ref 14, .int (nI ((5 * p) + (tBest p)))]) (st := []) dX2_mineBehind_63 kX11_at lX2_34 (by decide) rfl rfl (Nat.le_of_ble_eq_true rfl) ⟨Nat.le_of_ble_eq_true rfl, Nat.le_of_ble_eq_true rfl⟩ (c_at (a := 14) (n := 280) ⟨Nat.le_of_ble_eq_true rfl, Nat.le_of_ble_eq_true rfl⟩ rfl (by decide) (by omega)) ?_
          rintro _ _ _ _ ⟨rfl, rfl, rfl, rfl⟩
          refine V_eqI (y := nI (tThr ((5 * p) + (tBest p)))) (hT.2.2.2.1 ((5 * p) + (tBest p)) (by omega)) ?_
          exact V_iret ⟨Or.inl rfl, dX2_mineBehind_66⟩ ⟨Nat.le_of_ble_eq_true rfl, Nat.le_of_ble_eq_true rfl⟩ ⟨rfl, congrArg (fun z => some (Value.int (nI z))) (by (first | (exfalso; omega; done) | (unfold sMine sRing; (repeat (first | rw [if_pos (by omega)] | rw [if_neg (by omega)])); try rfl))), rfl, rfl⟩
      · skip
        refine V_iload dX2_mineBehind_31 rfl ?_
        refine V_istore (ls' := [(7, .int (nI part)), (6, .int (nI p)), (5, .int (nI p)), (0, .ref 10), (1, .int (nI p)), (2, .int (nI q)), (3, .int (nI side)), (4, .int (nI part))]) dX2_mineBehind_33 (by decide) rfl ?_
        refine V_goto (tgt := 52) dX2_mineBehind_35 rfl ?_
        refine V_aload_n dX2_mineBehind_52 rfl ?_
        refine V_getR (b := 14) dX2_mineBehind_53 fX2_21 ⟨Nat.le_of_ble_eq_true rfl, Nat.le_of_ble_eq_true rfl⟩ rfl rfl rfl ?_
        refine V_iconst (v := nI 5) dX2_mineBehind_56 rfl ?_
        refine V_iload dX2_mineBehind_57 rfl ?_
        refine V_imulN dX2_mineBehind_59 ?_
        refine V_iload dX2_mineBehind_60 rfl ?_
        refine V_iaddN dX2_mineBehind_62 ?_
        refine V_callS (As := [.ref 14, .int (nI ((5 * p) + part))]) (st := []) dX2_mineBehind_63 kX11_at lX2_34 (by decide) rfl rfl (Nat.le_of_ble_eq_true rfl) ⟨Nat.le_of_ble_eq_true rfl, Nat.le_of_ble_eq_true rfl⟩ (c_at (a := 14) (n := 280) ⟨Nat.le_of_ble_eq_true rfl, Nat.le_of_ble_eq_true rfl⟩ rfl (by decide) (by omega)) ?_
        rintro _ _ _ _ ⟨rfl, rfl, rfl, rfl⟩
        refine V_eqI (y := nI (tThr ((5 * p) + part))) (hT.2.2.2.1 ((5 * p) + part) (by omega)) ?_
        exact V_iret ⟨Or.inl rfl, dX2_mineBehind_66⟩ ⟨Nat.le_of_ble_eq_true rfl, Nat.le_of_ble_eq_true rfl⟩ ⟨rfl, congrArg (fun z => some (Value.int (nI z))) (by (first | (exfalso; omega; done) | (unfold sMine sRing; (repeat (first | rw [if_pos (by omega)] | rw [if_neg (by omega)])); try rfl))), rfl, rfl⟩
    · skip
      refine V_iload_n dX2_mineBehind_15 rfl ?_
      refine V_goto (tgt := 20) dX2_mineBehind_16 rfl ?_
      refine V_istore (ls' := [(6, .int (nI q)), (5, .int (nI p)), (0, .ref 10), (1, .int (nI p)), (2, .int (nI q)), (3, .int (nI side)), (4, .int (nI part))]) dX2_mineBehind_20 (by decide) rfl ?_
      refine V_iconst (v := nI 4) dX2_mineBehind_22 rfl ?_
      refine V_istore (ls' := [(7, .int (nI 4)), (6, .int (nI q)), (5, .int (nI p)), (0, .ref 10), (1, .int (nI p)), (2, .int (nI q)), (3, .int (nI side)), (4, .int (nI part))]) dX2_mineBehind_23 (by decide) rfl ?_
      refine V_iload dX2_mineBehind_25 rfl ?_
      refine V_iconst (v := nI 4) dX2_mineBehind_27 rfl ?_
      refine V_icmp_geN (tgt := 38) dX2_mineBehind_28 rfl (by omega) (by omega) (fun h28 => ?_) (fun h28 => ?_)
      · skip
        refine V_iload dX2_mineBehind_38 rfl ?_
        refine V_iconst (v := nI 4) dX2_mineBehind_40 rfl ?_
        refine V_icmp_neN (tgt := 52) dX2_mineBehind_41 rfl (by omega) (by omega) (fun h41 => ?_) (fun h41 => ?_)
        · skip
          refine V_aload_n dX2_mineBehind_52 rfl ?_
          refine V_getR (b := 14) dX2_mineBehind_53 fX2_21 ⟨Nat.le_of_ble_eq_true rfl, Nat.le_of_ble_eq_true rfl⟩ rfl rfl rfl ?_
          refine V_iconst (v := nI 5) dX2_mineBehind_56 rfl ?_
          refine V_iload dX2_mineBehind_57 rfl ?_
          refine V_imulN dX2_mineBehind_59 ?_
          refine V_iload dX2_mineBehind_60 rfl ?_
          refine V_iaddN dX2_mineBehind_62 ?_
          refine V_callS (As := [.ref 14, .int (nI ((5 * p) + 4))]) (st := []) dX2_mineBehind_63 kX11_at lX2_34 (by decide) rfl rfl (Nat.le_of_ble_eq_true rfl) ⟨Nat.le_of_ble_eq_true rfl, Nat.le_of_ble_eq_true rfl⟩ (c_at (a := 14) (n := 280) ⟨Nat.le_of_ble_eq_true rfl, Nat.le_of_ble_eq_true rfl⟩ rfl (by decide) (by omega)) ?_
          rintro _ _ _ _ ⟨rfl, rfl, rfl, rfl⟩
          refine V_eqI (y := nI (tThr ((5 * p) + 4))) (hT.2.2.2.1 ((5 * p) + 4) (by omega)) ?_
          exact V_iret ⟨Or.inl rfl, dX2_mineBehind_66⟩ ⟨Nat.le_of_ble_eq_true rfl, Nat.le_of_ble_eq_true rfl⟩ ⟨rfl, congrArg (fun z => some (Value.int (nI z))) (by (first | (exfalso; omega; done) | (unfold sMine sRing; (repeat (first | rw [if_pos (by omega)] | rw [if_neg (by omega)])); try rfl))), rfl, rfl⟩
        · skip
          refine V_aload_n dX2_mineBehind_44 rfl ?_
          refine V_iload dX2_mineBehind_45 rfl ?_
          refine V_callV (As := [.int (nI q)]) (st := []) (a := 10) dX2_mineBehind_47 kX2_bestRingOf lX2_41 (by decide) rfl rfl (Nat.le_of_ble_eq_true rfl) ⟨Nat.le_of_ble_eq_true rfl, Nat.le_of_ble_eq_true rfl⟩ ⟨Nat.le_of_ble_eq_true rfl, Nat.le_of_ble_eq_true rfl⟩ rfl ⟨rfl, by decide⟩ (c_bestRingOf hT (by omega)) ?_
          rintro _ _ _ _ ⟨rfl, rfl, rfl, rfl⟩
          refine V_istore (ls' := [(7, .int (nI (tBest q))), (6, .int (nI q)), (5, .int (nI p)), (0, .ref 10), (1, .int (nI p)), (2, .int (nI q)), (3, .int (nI side)), (4, .int (nI part))]) dX2_mineBehind_50 (by decide) rfl ?_
          refine V_aload_n dX2_mineBehind_52 rfl ?_
          refine V_getR (b := 14) dX2_mineBehind_53 fX2_21 ⟨Nat.le_of_ble_eq_true rfl, Nat.le_of_ble_eq_true rfl⟩ rfl rfl rfl ?_
          refine V_iconst (v := nI 5) dX2_mineBehind_56 rfl ?_
          refine V_iload dX2_mineBehind_57 rfl ?_
          refine V_imulN dX2_mineBehind_59 ?_
          refine V_iload dX2_mineBehind_60 rfl ?_
          refine V_iaddN dX2_mineBehind_62 ?_
          refine V_callS (As := [.ref 14, .int (nI ((5 * p) + (tBest q)))]) (st := []) dX2_mineBehind_63 kX11_at lX2_34 (by decide) rfl rfl (Nat.le_of_ble_eq_true rfl) ⟨Nat.le_of_ble_eq_true rfl, Nat.le_of_ble_eq_true rfl⟩ (c_at (a := 14) (n := 280) ⟨Nat.le_of_ble_eq_true rfl, Nat.le_of_ble_eq_true rfl⟩ rfl (by decide) (by omega)) ?_
          rintro _ _ _ _ ⟨rfl, rfl, rfl, rfl⟩
          refine V_eqI (y := nI (tThr ((5 * p) + (tBest q)))) (hT.2.2.2.1 ((5 * p) + (tBest q)) (by omega)) ?_
          exact V_iret ⟨Or.inl rfl, dX2_mineBehind_66⟩ ⟨Nat.le_of_ble_eq_true rfl, Nat.le_of_ble_eq_true rfl⟩ ⟨rfl, congrArg (fun z => some (Value.int (nI z))) (by (first | (exfalso; omega; done) | (unfold sMine sRing; (repeat (first | rw [if_pos (by omega)] | rw [if_neg (by omega)])); try rfl))), rfl, rfl⟩
      · skip
        refine V_iload dX2_mineBehind_31 rfl ?_
        refine V_istore (ls' := [(7, .int (nI part)), (6, .int (nI q)), (5, .int (nI p)), (0, .ref 10), (1, .int (nI p)), (2, .int (nI q)), (3, .int (nI side)), (4, .int (nI part))]) dX2_mineBehind_33 (by decide) rfl ?_
        refine V_goto (tgt := 52) dX2_mineBehind_35 rfl ?_
        refine V_aload_n dX2_mineBehind_52 rfl ?_
        refine V_getR (b := 14) dX2_mineBehind_53 fX2_21 ⟨Nat.le_of_ble_eq_true rfl, Nat.le_of_ble_eq_true rfl⟩ rfl rfl rfl ?_
        refine V_iconst (v := nI 5) dX2_mineBehind_56 rfl ?_
        refine V_iload dX2_mineBehind_57 rfl ?_
        refine V_imulN dX2_mineBehind_59 ?_
        refine V_iload dX2_mineBehind_60 rfl ?_
        refine V_iaddN dX2_mineBehind_62 ?_
        refine V_callS (As := [.ref 14, .int (nI ((5 * p) + part))]) (st := []) dX2_mineBehind_63 kX11_at lX2_34 (by decide) rfl rfl (Nat.le_of_ble_eq_true rfl) ⟨Nat.le_of_ble_eq_true rfl, Nat.le_of_ble_eq_true rfl⟩ (c_at (a := 14) (n := 280) ⟨Nat.le_of_ble_eq_true rfl, Nat.le_of_ble_eq_true rfl⟩ rfl (by decide) (by omega)) ?_
        rintro _ _ _ _ ⟨rfl, rfl, rfl, rfl⟩
        refine V_eqI (y := nI (tThr ((5 * p) + part))) (hT.2.2.2.1 ((5 * p) + part) (by omega)) ?_
        exact V_iret ⟨Or.inl rfl, dX2_mineBehind_66⟩ ⟨Nat.le_of_ble_eq_true rfl, Nat.le_of_ble_eq_true rfl⟩ ⟨rfl, congrArg (fun z => some (Value.int (nI z))) (by (first | (exfalso; omega; done) | (unfold sMine sRing; (repeat (first | rw [if_pos (by omega)] | rw [if_neg (by omega)])); try rfl))), rfl, rfl⟩

set_option maxRecDepth 100000 in
set_option maxHeartbeats 4000000 in
theorem c_theirsBehind {G : zG} {I : zI} {J : zJ} (hT : tabX I) {p q : Nat} (hp : p < 56) (hq : q < 56) {side part : Nat} (hs : side ≤ 1) (hpa : part ≤ 6) : zK G mX2_theirsBehind 2 [.ref 10, .int (nI p), .int (nI q), .int (nI side), .int (nI part)] zsh I J (zA0 (.int (nI (sTheir p q side part))) I J) := by
  refine zK_of kX2_theirsBehind.2.2.2.2.1 (Nat.le_of_ble_eq_true rfl) ?_
  show V G mX2_theirsBehind 2 _ 0 [(0, .ref 10), (1, .int (nI p)), (2, .int (nI q)), (3, .int (nI side)), (4, .int (nI part))] [] (0, 0) zsh I J
  have h1 := tHand_le hp
  have h2 := tHand_le hq
  have h3 := tBest_le hp
  have h4 := tBest_le hq
  refine V_iload_n dX2_theirsBehind_0 rfl ?_
  refine V_if_neN (tgt := 8) dX2_theirsBehind_1 rfl (by omega) (fun h1 => ?_) (fun h1 => ?_)
  · skip
    refine V_iload_n dX2_theirsBehind_8 rfl ?_
    refine V_istore (ls' := [(5, .int (nI p)), (0, .ref 10), (1, .int (nI p)), (2, .int (nI q)), (3, .int (nI side)), (4, .int (nI part))]) dX2_theirsBehind_9 (by decide) rfl ?_
    refine V_iload dX2_theirsBehind_11 rfl ?_
    refine V_iconst (v := nI 4) dX2_theirsBehind_13 rfl ?_
    refine V_icmp_eqN (tgt := 23) dX2_theirsBehind_14 rfl (by omega) (by omega) (fun h14 => ?_) (fun h14 => ?_)
    · skip
      refine V_aload_n dX2_theirsBehind_23 rfl ?_
      refine V_getR (b := 15) dX2_theirsBehind_24 fX2_24 ⟨Nat.le_of_ble_eq_true rfl, Nat.le_of_ble_eq_true rfl⟩ rfl rfl rfl ?_
      refine V_iload dX2_theirsBehind_27 rfl ?_
      refine V_callS (As := [.ref 15, .int (nI p)]) (st := []) dX2_theirsBehind_29 kX11_at lX2_34 (by decide) rfl rfl (Nat.le_of_ble_eq_true rfl) ⟨Nat.le_of_ble_eq_true rfl, Nat.le_of_ble_eq_true rfl⟩ (c_at (a := 15) (n := 56) ⟨Nat.le_of_ble_eq_true rfl, Nat.le_of_ble_eq_true rfl⟩ rfl (by decide) (by omega)) ?_
      rintro _ _ _ _ ⟨rfl, rfl, rfl, rfl⟩
      refine V_eqI (y := nI (tWo p)) (hT.2.2.2.2 p (by omega)) ?_
      refine V_goto (tgt := 37) dX2_theirsBehind_32 rfl ?_
      exact V_iret ⟨Or.inl rfl, dX2_theirsBehind_37⟩ ⟨Nat.le_of_ble_eq_true rfl, Nat.le_of_ble_eq_true rfl⟩ ⟨rfl, congrArg (fun z => some (Value.int (nI z))) (by (first | (exfalso; omega; done) | (unfold sTheir; (repeat (first | rw [if_pos (by omega)] | rw [if_neg (by omega)])); try rfl))), rfl, rfl⟩
    · skip
      refine V_iload dX2_theirsBehind_17 rfl ?_
      refine V_iconst (v := nI 5) dX2_theirsBehind_19 rfl ?_
      refine V_icmp_neN (tgt := 35) dX2_theirsBehind_20 rfl (by omega) (by omega) (fun h20 => ?_) (fun h20 => ?_)
      · skip
        refine V_iload dX2_theirsBehind_35 rfl ?_
        exact V_iret ⟨Or.inl rfl, dX2_theirsBehind_37⟩ ⟨Nat.le_of_ble_eq_true rfl, Nat.le_of_ble_eq_true rfl⟩ ⟨rfl, congrArg (fun z => some (Value.int (nI z))) (by (first | (exfalso; omega; done) | (unfold sTheir; (repeat (first | rw [if_pos (by omega)] | rw [if_neg (by omega)])); try rfl))), rfl, rfl⟩
      · skip
        refine V_aload_n dX2_theirsBehind_23 rfl ?_
        refine V_getR (b := 15) dX2_theirsBehind_24 fX2_24 ⟨Nat.le_of_ble_eq_true rfl, Nat.le_of_ble_eq_true rfl⟩ rfl rfl rfl ?_
        refine V_iload dX2_theirsBehind_27 rfl ?_
        refine V_callS (As := [.ref 15, .int (nI p)]) (st := []) dX2_theirsBehind_29 kX11_at lX2_34 (by decide) rfl rfl (Nat.le_of_ble_eq_true rfl) ⟨Nat.le_of_ble_eq_true rfl, Nat.le_of_ble_eq_true rfl⟩ (c_at (a := 15) (n := 56) ⟨Nat.le_of_ble_eq_true rfl, Nat.le_of_ble_eq_true rfl⟩ rfl (by decide) (by omega)) ?_
        rintro _ _ _ _ ⟨rfl, rfl, rfl, rfl⟩
        refine V_eqI (y := nI (tWo p)) (hT.2.2.2.2 p (by omega)) ?_
        refine V_goto (tgt := 37) dX2_theirsBehind_32 rfl ?_
        exact V_iret ⟨Or.inl rfl, dX2_theirsBehind_37⟩ ⟨Nat.le_of_ble_eq_true rfl, Nat.le_of_ble_eq_true rfl⟩ ⟨rfl, congrArg (fun z => some (Value.int (nI z))) (by (first | (exfalso; omega; done) | (unfold sTheir; (repeat (first | rw [if_pos (by omega)] | rw [if_neg (by omega)])); try rfl))), rfl, rfl⟩
  · skip
    refine V_iload_n dX2_theirsBehind_4 rfl ?_
    refine V_goto (tgt := 9) dX2_theirsBehind_5 rfl ?_
    refine V_istore (ls' := [(5, .int (nI q)), (0, .ref 10), (1, .int (nI p)), (2, .int (nI q)), (3, .int (nI side)), (4, .int (nI part))]) dX2_theirsBehind_9 (by decide) rfl ?_
    refine V_iload dX2_theirsBehind_11 rfl ?_
    refine V_iconst (v := nI 4) dX2_theirsBehind_13 rfl ?_
    refine V_icmp_eqN (tgt := 23) dX2_theirsBehind_14 rfl (by omega) (by omega) (fun h14 => ?_) (fun h14 => ?_)
    · skip
      refine V_aload_n dX2_theirsBehind_23 rfl ?_
      refine V_getR (b := 15) dX2_theirsBehind_24 fX2_24 ⟨Nat.le_of_ble_eq_true rfl, Nat.le_of_ble_eq_true rfl⟩ rfl rfl rfl ?_
      refine V_iload dX2_theirsBehind_27 rfl ?_
      refine V_callS (As := [.ref 15, .int (nI q)]) (st := []) dX2_theirsBehind_29 kX11_at lX2_34 (by decide) rfl rfl (Nat.le_of_ble_eq_true rfl) ⟨Nat.le_of_ble_eq_true rfl, Nat.le_of_ble_eq_true rfl⟩ (c_at (a := 15) (n := 56) ⟨Nat.le_of_ble_eq_true rfl, Nat.le_of_ble_eq_true rfl⟩ rfl (by decide) (by omega)) ?_
      rintro _ _ _ _ ⟨rfl, rfl, rfl, rfl⟩
      refine V_eqI (y := nI (tWo q)) (hT.2.2.2.2 q (by omega)) ?_
      refine V_goto (tgt := 37) dX2_theirsBehind_32 rfl ?_
      exact V_iret ⟨Or.inl rfl, dX2_theirsBehind_37⟩ ⟨Nat.le_of_ble_eq_true rfl, Nat.le_of_ble_eq_true rfl⟩ ⟨rfl, congrArg (fun z => some (Value.int (nI z))) (by (first | (exfalso; omega; done) | (unfold sTheir; (repeat (first | rw [if_pos (by omega)] | rw [if_neg (by omega)])); try rfl))), rfl, rfl⟩
    · skip
      refine V_iload dX2_theirsBehind_17 rfl ?_
      refine V_iconst (v := nI 5) dX2_theirsBehind_19 rfl ?_
      refine V_icmp_neN (tgt := 35) dX2_theirsBehind_20 rfl (by omega) (by omega) (fun h20 => ?_) (fun h20 => ?_)
      · skip
        refine V_iload dX2_theirsBehind_35 rfl ?_
        exact V_iret ⟨Or.inl rfl, dX2_theirsBehind_37⟩ ⟨Nat.le_of_ble_eq_true rfl, Nat.le_of_ble_eq_true rfl⟩ ⟨rfl, congrArg (fun z => some (Value.int (nI z))) (by (first | (exfalso; omega; done) | (unfold sTheir; (repeat (first | rw [if_pos (by omega)] | rw [if_neg (by omega)])); try rfl))), rfl, rfl⟩
      · skip
        refine V_aload_n dX2_theirsBehind_23 rfl ?_
        refine V_getR (b := 15) dX2_theirsBehind_24 fX2_24 ⟨Nat.le_of_ble_eq_true rfl, Nat.le_of_ble_eq_true rfl⟩ rfl rfl rfl ?_
        refine V_iload dX2_theirsBehind_27 rfl ?_
        refine V_callS (As := [.ref 15, .int (nI q)]) (st := []) dX2_theirsBehind_29 kX11_at lX2_34 (by decide) rfl rfl (Nat.le_of_ble_eq_true rfl) ⟨Nat.le_of_ble_eq_true rfl, Nat.le_of_ble_eq_true rfl⟩ (c_at (a := 15) (n := 56) ⟨Nat.le_of_ble_eq_true rfl, Nat.le_of_ble_eq_true rfl⟩ rfl (by decide) (by omega)) ?_
        rintro _ _ _ _ ⟨rfl, rfl, rfl, rfl⟩
        refine V_eqI (y := nI (tWo q)) (hT.2.2.2.2 q (by omega)) ?_
        refine V_goto (tgt := 37) dX2_theirsBehind_32 rfl ?_
        exact V_iret ⟨Or.inl rfl, dX2_theirsBehind_37⟩ ⟨Nat.le_of_ble_eq_true rfl, Nat.le_of_ble_eq_true rfl⟩ ⟨rfl, congrArg (fun z => some (Value.int (nI z))) (by (first | (exfalso; omega; done) | (unfold sTheir; (repeat (first | rw [if_pos (by omega)] | rw [if_neg (by omega)])); try rfl))), rfl, rfl⟩

set_option maxRecDepth 100000 in
set_option maxHeartbeats 4000000 in
theorem lp_placeOf {G : zG} {I : zI} {J : zJ} {code : Int32} : ∀ n i lo hi, lo ≤ hi → hi ≤ 55 → i + (hi - lo) ≤ 55 → 56 < i + n → (∀ k, k < 56 → code = nI (tC k) → lo ≤ k ∧ k ≤ hi) → V G mX2_placeOf 1 (zA0 (.int (pen (zpl code))) I J) 8 [(0, .ref 10), (1, .int code), (2, .int (nI lo)), (3, .int (nI hi)), (4, .int (nI i))] [] (0, 0) zsh I J := by
  intro n
  induction n with
  | zero => intros; omega
  | succ n ih =>
    intro i lo hi h1 h2 h3 h4 hinv
    refine V_iload dX2_placeOf_8 rfl ?_
    refine V_bipush (v := nI 56) dX2_placeOf_10 rfl ?_
    refine V_icmp_geN (tgt := 56) dX2_placeOf_12 rfl (by omega) (by omega) (fun h12 => ?_) (fun h12 => ?_)
    · exact absurd h12 (by omega)
    refine V_iload_n dX2_placeOf_15 rfl ?_
    refine V_iload_n dX2_placeOf_16 rfl ?_
    refine V_icmp_geN (tgt := 56) dX2_placeOf_17 rfl (by omega) (by omega) (fun h17 => ?_) (fun h17 => ?_)
    · skip
      refine V_gets dX2_placeOf_56 sX2_27 ?_
      refine V_iload_n dX2_placeOf_59 rfl ?_
      refine V_callS (As := [.ref 1, .int (nI lo)]) (st := []) dX2_placeOf_60 kX11_at lX2_34 (by decide) rfl rfl (Nat.le_of_ble_eq_true rfl) ⟨Nat.le_of_ble_eq_true rfl, Nat.le_of_ble_eq_true rfl⟩ (c_at1 (by omega)) ?_
      rintro _ _ _ _ ⟨rfl, rfl, rfl, rfl⟩
      refine V_eqI (y := nI (tC lo)) (zC_t (by omega)) ?_
      refine V_iload_n dX2_placeOf_63 rfl ?_
      refine V_icmp_ne (tgt := 71) dX2_placeOf_64 rfl (fun h64 => ?_) (fun h64 => ?_)
      · skip
        refine V_iconst (v := (-1)) dX2_placeOf_71 rfl ?_
        exact V_iret ⟨Or.inl rfl, dX2_placeOf_72⟩ ⟨Nat.le_of_ble_eq_true rfl, Nat.le_of_ble_eq_true rfl⟩ ⟨rfl, congrArg (fun z => some (Value.int z)) (by cases hz : zpl code with | none => rfl | some k => (obtain ⟨h8, h9⟩ := zpl_s hz; have h7 := hinv k h8 h9; exact absurd (by rw [h9]; congr 2; omega) h64)), rfl, rfl⟩
      · skip
        refine V_iload_n dX2_placeOf_67 rfl ?_
        refine V_goto (tgt := 72) dX2_placeOf_68 rfl ?_
        exact V_iret ⟨Or.inl rfl, dX2_placeOf_72⟩ ⟨Nat.le_of_ble_eq_true rfl, Nat.le_of_ble_eq_true rfl⟩ ⟨rfl, congrArg (fun z => some (Value.int z)) (by rw [← h64, zpl_of (by omega)]; rfl), rfl, rfl⟩
    · skip
      refine V_iload_n dX2_placeOf_20 rfl ?_
      refine V_iload_n dX2_placeOf_21 rfl ?_
      refine V_iaddN dX2_placeOf_22 ?_
      refine V_iconst (v := nI 2) dX2_placeOf_23 rfl ?_
      refine V_idivN dX2_placeOf_24 (by omega) (by omega) (by omega) ?_
      refine V_istore (ls' := [(5, .int (nI ((lo + hi) / 2))), (0, .ref 10), (1, .int code), (2, .int (nI lo)), (3, .int (nI hi)), (4, .int (nI i))]) dX2_placeOf_25 (by decide) rfl ?_
      refine V_gets dX2_placeOf_27 sX2_27 ?_
      refine V_iload dX2_placeOf_30 rfl ?_
      refine V_callS (As := [.ref 1, .int (nI ((lo + hi) / 2))]) (st := []) dX2_placeOf_32 kX11_at lX2_34 (by decide) rfl rfl (Nat.le_of_ble_eq_true rfl) ⟨Nat.le_of_ble_eq_true rfl, Nat.le_of_ble_eq_true rfl⟩ (c_at1 (by omega)) ?_
      rintro _ _ _ _ ⟨rfl, rfl, rfl, rfl⟩
      refine V_eqI (y := nI (tC ((lo + hi) / 2))) (zC_t (by omega)) ?_
      refine V_iload_n dX2_placeOf_35 rfl ?_
      refine V_icmp_ge (tgt := 47) dX2_placeOf_36 rfl (fun h36 => ?_) (fun h36 => ?_)
      · skip
        refine V_iload dX2_placeOf_47 rfl ?_
        refine V_istore_n (ls' := [(3, .int (nI ((lo + hi) / 2))), (5, .int (nI ((lo + hi) / 2))), (0, .ref 10), (1, .int code), (2, .int (nI lo)), (4, .int (nI i))]) dX2_placeOf_49 (by decide) rfl ?_
        refine V_iincN (ls' := [(4, .int (nI (i + 1))), (3, .int (nI ((lo + hi) / 2))), (5, .int (nI ((lo + hi) / 2))), (0, .ref 10), (1, .int code), (2, .int (nI lo))]) (n := 1) dX2_placeOf_50 rfl rfl (by decide) (by decide) rfl ?_
        refine V_goto (tgt := 8) dX2_placeOf_53 rfl ?_
        refine V_sub2 (ls' := [(0, .ref 10), (1, .int code), (2, .int (nI lo)), (3, .int (nI ((lo + hi) / 2))), (4, .int (nI (i + 1)))]) (List.forall_mem_cons.mpr ⟨rfl, List.forall_mem_cons.mpr ⟨rfl, List.forall_mem_cons.mpr ⟨rfl, List.forall_mem_cons.mpr ⟨rfl, List.forall_mem_cons.mpr ⟨rfl, fun _ h => absurd h List.not_mem_nil⟩⟩⟩⟩⟩) ?_
        exact ih (i + 1) (lo) ((lo + hi) / 2) (by omega) (by omega) (by omega) (by omega) (fun k hk e => by have hz := hinv k hk e; have h9 := tC_mono ((lo + hi) / 2) (by omega) k hk; have h8 := tC_le hk; have h7 := tC_le (k := (lo + hi) / 2) (by omega); rw [e] at h36; have h6 := (nI_leI (by omega) (by omega)).mp h36; omega)
      · skip
        refine V_iload dX2_placeOf_39 rfl ?_
        refine V_iconst (v := nI 1) dX2_placeOf_41 rfl ?_
        refine V_iaddN dX2_placeOf_42 ?_
        refine V_istore_n (ls' := [(2, .int (nI (((lo + hi) / 2) + 1))), (5, .int (nI ((lo + hi) / 2))), (0, .ref 10), (1, .int code), (3, .int (nI hi)), (4, .int (nI i))]) dX2_placeOf_43 (by decide) rfl ?_
        refine V_goto (tgt := 50) dX2_placeOf_44 rfl ?_
        refine V_iincN (ls' := [(4, .int (nI (i + 1))), (2, .int (nI (((lo + hi) / 2) + 1))), (5, .int (nI ((lo + hi) / 2))), (0, .ref 10), (1, .int code), (3, .int (nI hi))]) (n := 1) dX2_placeOf_50 rfl rfl (by decide) (by decide) rfl ?_
        refine V_goto (tgt := 8) dX2_placeOf_53 rfl ?_
        refine V_sub2 (ls' := [(0, .ref 10), (1, .int code), (2, .int (nI (((lo + hi) / 2) + 1))), (3, .int (nI hi)), (4, .int (nI (i + 1)))]) (List.forall_mem_cons.mpr ⟨rfl, List.forall_mem_cons.mpr ⟨rfl, List.forall_mem_cons.mpr ⟨rfl, List.forall_mem_cons.mpr ⟨rfl, List.forall_mem_cons.mpr ⟨rfl, fun _ h => absurd h List.not_mem_nil⟩⟩⟩⟩⟩) ?_
        exact ih (i + 1) (((lo + hi) / 2) + 1) (hi) (by omega) (by omega) (by omega) (by omega) (fun k hk e => by have hz := hinv k hk e; have h9 := tC_mono ((lo + hi) / 2) (by omega) k hk; have h8 := tC_le hk; have h7 := tC_le (k := (lo + hi) / 2) (by omega); rw [e] at h36; have h6 := (not_congr (nI_leI (by omega) (by omega))).mp h36; omega)

set_option maxRecDepth 100000 in
set_option maxHeartbeats 4000000 in
theorem c_placeOf2 {G : zG} {I : zI} {J : zJ} {code : Int32} : zK G mX2_placeOf 1 [.ref 10, .int code] zsh I J (zA0 (.int (pen (zpl code))) I J) := by
  refine zK_of kX2_placeOf.2.2.2.2.1 (Nat.le_of_ble_eq_true rfl) ?_
  show V G mX2_placeOf 1 _ 0 [(0, .ref 10), (1, .int code)] [] (0, 0) zsh I J
  refine V_iconst (v := nI 0) dX2_placeOf_0 rfl ?_
  refine V_istore_n (ls' := [(2, .int (nI 0)), (0, .ref 10), (1, .int code)]) dX2_placeOf_1 (by decide) rfl ?_
  refine V_bipush (v := nI 55) dX2_placeOf_2 rfl ?_
  refine V_istore_n (ls' := [(3, .int (nI 55)), (2, .int (nI 0)), (0, .ref 10), (1, .int code)]) dX2_placeOf_4 (by decide) rfl ?_
  refine V_iconst (v := nI 0) dX2_placeOf_5 rfl ?_
  refine V_istore (ls' := [(4, .int (nI 0)), (3, .int (nI 55)), (2, .int (nI 0)), (0, .ref 10), (1, .int code)]) dX2_placeOf_6 (by decide) rfl ?_
  refine V_sub2 (ls' := [(0, .ref 10), (1, .int code), (2, .int (nI 0)), (3, .int (nI 55)), (4, .int (nI 0))]) (List.forall_mem_cons.mpr ⟨rfl, List.forall_mem_cons.mpr ⟨rfl, List.forall_mem_cons.mpr ⟨rfl, List.forall_mem_cons.mpr ⟨rfl, List.forall_mem_cons.mpr ⟨rfl, fun _ h => absurd h List.not_mem_nil⟩⟩⟩⟩⟩) ?_
  exact lp_placeOf 57 0 0 55 (by omega) (by omega) (by omega) (by omega) (fun k hk _ => by omega)

