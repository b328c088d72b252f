/-! THE MODEL: one state settled -/
def kdM (md : Nat) : Int32 := if md = 0 then 1 else 2
/-- off the model's scratch nothing but one place of the throws -/
def offV (I I' : zI) (st : Nat) : Prop := (∀ a, a ≠ 62 → a ≠ 79 → a ≠ 80 → a ≠ 81 → a ≠ 82 → a ≠ 85 → I' a = I a) ∧ (∀ k, k ≠ 32 → I' 62 k = I 62 k) ∧ ∀ k, k ≠ st → I' 85 k = I 85 k
theorem offV_l {A B C : zI} {st : Nat} (h : offV A B st) (h2 : offL B C) : offV A C st := ⟨fun a h1 h3 h4 h5 h6 h7 => (h2.1 a h1 h3 h4 h5 h6).trans (h.1 a h1 h3 h4 h5 h6 h7), fun k hk => (h2.2 k hk).trans (h.2.1 k hk), fun k hk => (congrFun (h2.1 85 (by decide) (by decide) (by decide) (by decide) (by decide)) k).trans (h.2.2 k hk)⟩
theorem offV_z {A B : zI} {st : Nat} {x : Int32} (h : offV A B st) : offV A (zwr B 85 st x) st := ⟨fun a h1 h3 h4 h5 h6 h7 => by
  rw [← h.1 a h1 h3 h4 h5 h6 h7]
  funext j
  simp [zwr_at, h7], fun k hk => (h.2.1 k hk), fun k hk => by
  rw [← h.2.2 k hk]
  simp [zwr_at, hk]⟩
theorem offV_r {I : zI} {st : Nat} : offV I I st := ⟨fun _ _ _ _ _ _ _ => rfl, fun _ _ => rfl, fun _ _ => rfl⟩
theorem chA_c {I I' : zI} {Lf : Nat → (Nat → Int32) → Int32} (h : chA I Lf) (e1 : I' 62 32 = I 62 32) (e2 : I' 82 = I 82) : chA I' Lf := by
  unfold chA chI at *
  rw [e1, e2]
  exact h
set_option maxRecDepth 100000 in
set_option maxHeartbeats 4000000 in
theorem w_sv2_0 {G : zG} {I : zI} {J : zJ} (hT : mT I) {far : Nat} {a : List (Nat × List (Nat × Nat) × List (Nat × Nat))} {M : Nat → ((Nat → Int32) → Option Int32) × ((Nat → Int32) → Option Int32)} (hf : I 62 5 = nI far) (h6 : 6 ≤ far) (h10 : far ≤ 10) (hP : mpI I 0 a M) (hc : chA I (lfM a M)) {Rl : Nat → Nat → (Nat → Int32) → Int32} {one two : Int32} {p q l : Nat} (hp : p < 56) (hq : q < 56) (hl : l ≤ 1) (h2 : sWho p q l = 2) : zK G mX12_solvesAt 7 [.ref 62, .int (nI (stN p q l)), .int (nI 0)] zsh I J (zP (fun r I' J' => r = none ∧ (offV I I' (stN p q l) ∧ I' 85 (stN p q l) = -1) ∧ chA I' (lfM a M) ∧ J' = zwl J 83 (stN p q l) (vX 1 one two Rl (lfM a M) far p q l).1)) := by
  refine zK_of kX12_solvesAt.2.2.2.2.1 (Nat.le_of_ble_eq_true rfl) ?_
  show V G mX12_solvesAt 7 _ 0 [(0, .ref 62), (1, .int (nI (stN p q l))), (2, .int (nI 0))] [] (0, 0) zsh I J
  have hst := stN_lt hp hq hl
  refine V_aload_n dX12_solvesAt_0 rfl ?_
  refine V_iload_n dX12_solvesAt_1 rfl ?_
  refine V_callV (As := [.int (nI (stN p q l))]) (st := []) (a := 62) dX12_solvesAt_2 kX12_turnIn lX12_206 (by decide) rfl rfl (Nat.le_of_ble_eq_true rfl) ⟨Nat.le_of_ble_eq_true rfl, Nat.le_of_ble_eq_true rfl⟩ ⟨Nat.le_of_ble_eq_true rfl, Nat.le_of_ble_eq_true rfl⟩ rfl ⟨rfl, by decide⟩ (w_turnIn hT hp hq hl) ?_
  rintro _ _ _ _ ⟨rfl, rfl, rfl, rfl⟩
  refine V_eqI (y := nI 2) (by rw [h2]) ?_
  refine V_istore_n (ls' := [(3, .int (nI 2)), (0, .ref 62), (1, .int (nI (stN p q l))), (2, .int (nI 0))]) dX12_solvesAt_5 (by decide) rfl ?_
  refine V_iload_n dX12_solvesAt_6 rfl ?_
  refine V_iconst (v := nI 2) dX12_solvesAt_7 rfl ?_
  refine V_icmp_ne (tgt := 31) dX12_solvesAt_8 rfl (fun h => absurd h (by decide)) (fun _ => ?_)
  refine V_aload_n dX12_solvesAt_11 rfl ?_
  refine V_getR (b := 83) dX12_solvesAt_12 fX12_72 ⟨Nat.le_of_ble_eq_true rfl, Nat.le_of_ble_eq_true rfl⟩ rfl rfl rfl ?_
  refine V_iload_n dX12_solvesAt_15 rfl ?_
  refine V_aload_n dX12_solvesAt_16 rfl ?_
  refine V_iload_n dX12_solvesAt_17 rfl ?_
  refine V_iload_n dX12_solvesAt_18 rfl ?_
  refine V_callV (As := [.int (nI (stN p q l)), .int (nI 0)]) (st := [.int (nI (stN p q l)), .ref 83]) (a := 62) dX12_solvesAt_19 kX12_overAt lX12_356 (by decide) rfl rfl (Nat.le_of_ble_eq_true rfl) ⟨Nat.le_of_ble_eq_true rfl, Nat.le_of_ble_eq_true rfl⟩ ⟨Nat.le_of_ble_eq_true rfl, Nat.le_of_ble_eq_true rfl⟩ rfl ⟨rfl, by decide⟩ (w_over0 (one := one) hT hp hq hl) ?_
  rintro _ _ _ _ ⟨rfl, rfl, rfl, rfl⟩
  refine V_lastN (k := stN p q l) dX12_solvesAt_22 ⟨Nat.le_of_ble_eq_true rfl, Nat.le_of_ble_eq_true rfl⟩ rfl (by decide) (by omega) ?_
  refine V_aload_n dX12_solvesAt_23 rfl ?_
  refine V_getR (b := 85) dX12_solvesAt_24 fX12_79 ⟨Nat.le_of_ble_eq_true rfl, Nat.le_of_ble_eq_true rfl⟩ rfl rfl rfl ?_
  refine V_iload_n dX12_solvesAt_27 rfl ?_
  refine V_iconst (v := (-1)) dX12_solvesAt_28 rfl ?_
  refine V_bastN (k := stN p q l) dX12_solvesAt_29 ⟨Nat.le_of_ble_eq_true rfl, Nat.le_of_ble_eq_true rfl⟩ rfl (by decide) (by omega) ?_
  exact V_ret ⟨rfl, dX12_solvesAt_30⟩ ⟨Nat.le_of_ble_eq_true rfl, Nat.le_of_ble_eq_true rfl⟩ ⟨rfl, rfl, ⟨offV_z offV_r, by simp [zwr_at]; decide⟩, chA_c hc rfl rfl, by rw [vX_0 h2]⟩

set_option maxRecDepth 100000 in
set_option maxHeartbeats 4000000 in
theorem w_sv2_2 {G : zG} {I : zI} {J : zJ} (hT : mT I) {far : Nat} {a : List (Nat × List (Nat × Nat) × List (Nat × Nat))} {M : Nat → ((Nat → Int32) → Option Int32) × ((Nat → Int32) → Option Int32)} (hf : I 62 5 = nI far) (h6 : 6 ≤ far) (h10 : far ≤ 10) (hP : mpI I 0 a M) (hc : chA I (lfM a M)) {Rl : Nat → Nat → (Nat → Int32) → Int32} {one two : Int32} {p q l : Nat} (hp : p < 56) (hq : q < 56) (hl : l ≤ 1) (h2 : sWho p q l = 2) (hone : I 62 35 = one) : zK G mX12_solvesAt 7 [.ref 62, .int (nI (stN p q l)), .int (nI 2)] zsh I J (zP (fun r I' J' => r = none ∧ (offV I I' (stN p q l) ∧ I' 85 (stN p q l) = -1) ∧ chA I' (lfM a M) ∧ J' = zwl J 83 (stN p q l) (vX 2 one two Rl (lfM a M) far p q l).1)) := by
  refine zK_of kX12_solvesAt.2.2.2.2.1 (Nat.le_of_ble_eq_true rfl) ?_
  show V G mX12_solvesAt 7 _ 0 [(0, .ref 62), (1, .int (nI (stN p q l))), (2, .int (nI 2))] [] (0, 0) zsh I J
  have hst := stN_lt hp hq hl
  refine V_aload_n dX12_solvesAt_0 rfl ?_
  refine V_iload_n dX12_solvesAt_1 rfl ?_
  refine V_callV (As := [.int (nI (stN p q l))]) (st := []) (a := 62) dX12_solvesAt_2 kX12_turnIn lX12_206 (by decide) rfl rfl (Nat.le_of_ble_eq_true rfl) ⟨Nat.le_of_ble_eq_true rfl, Nat.le_of_ble_eq_true rfl⟩ ⟨Nat.le_of_ble_eq_true rfl, Nat.le_of_ble_eq_true rfl⟩ rfl ⟨rfl, by decide⟩ (w_turnIn hT hp hq hl) ?_
  rintro _ _ _ _ ⟨rfl, rfl, rfl, rfl⟩
  refine V_eqI (y := nI 2) (by rw [h2]) ?_
  refine V_istore_n (ls' := [(3, .int (nI 2)), (0, .ref 62), (1, .int (nI (stN p q l))), (2, .int (nI 2))]) dX12_solvesAt_5 (by decide) rfl ?_
  refine V_iload_n dX12_solvesAt_6 rfl ?_
  refine V_iconst (v := nI 2) dX12_solvesAt_7 rfl ?_
  refine V_icmp_ne (tgt := 31) dX12_solvesAt_8 rfl (fun h => absurd h (by decide)) (fun _ => ?_)
  refine V_aload_n dX12_solvesAt_11 rfl ?_
  refine V_getR (b := 83) dX12_solvesAt_12 fX12_72 ⟨Nat.le_of_ble_eq_true rfl, Nat.le_of_ble_eq_true rfl⟩ rfl rfl rfl ?_
  refine V_iload_n dX12_solvesAt_15 rfl ?_
  refine V_aload_n dX12_solvesAt_16 rfl ?_
  refine V_iload_n dX12_solvesAt_17 rfl ?_
  refine V_iload_n dX12_solvesAt_18 rfl ?_
  refine V_callV (As := [.int (nI (stN p q l)), .int (nI 2)]) (st := [.int (nI (stN p q l)), .ref 83]) (a := 62) dX12_solvesAt_19 kX12_overAt lX12_356 (by decide) rfl rfl (Nat.le_of_ble_eq_true rfl) ⟨Nat.le_of_ble_eq_true rfl, Nat.le_of_ble_eq_true rfl⟩ ⟨Nat.le_of_ble_eq_true rfl, Nat.le_of_ble_eq_true rfl⟩ rfl ⟨rfl, by decide⟩ (w_over2 hT hp hq hl hone) ?_
  rintro _ _ _ _ ⟨rfl, rfl, rfl, rfl⟩
  refine V_lastN (k := stN p q l) dX12_solvesAt_22 ⟨Nat.le_of_ble_eq_true rfl, Nat.le_of_ble_eq_true rfl⟩ rfl (by decide) (by omega) ?_
  refine V_aload_n dX12_solvesAt_23 rfl ?_
  refine V_getR (b := 85) dX12_solvesAt_24 fX12_79 ⟨Nat.le_of_ble_eq_true rfl, Nat.le_of_ble_eq_true rfl⟩ rfl rfl rfl ?_
  refine V_iload_n dX12_solvesAt_27 rfl ?_
  refine V_iconst (v := (-1)) dX12_solvesAt_28 rfl ?_
  refine V_bastN (k := stN p q l) dX12_solvesAt_29 ⟨Nat.le_of_ble_eq_true rfl, Nat.le_of_ble_eq_true rfl⟩ rfl (by decide) (by omega) ?_
  exact V_ret ⟨rfl, dX12_solvesAt_30⟩ ⟨Nat.le_of_ble_eq_true rfl, Nat.le_of_ble_eq_true rfl⟩ ⟨rfl, rfl, ⟨offV_z offV_r, by simp [zwr_at]; decide⟩, chA_c hc rfl rfl, by rw [vX_0 h2]⟩

