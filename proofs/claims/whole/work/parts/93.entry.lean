/-! THE LAW: its entry -/
set_option maxRecDepth 100000 in
set_option maxHeartbeats 4000000 in
theorem lw_entry {G : zG} (hL : zL G ≤ 3584) {I : zI} {J : zJ} (hI : I = fun _ _ => 0) (hJ : J = fun _ _ => 0) : V G mL_law 60 lwQ 0 [(0, .ref 0)] [] (0, 0) (0, zkd, zrf) I J := by
  have hr : ∀ x, 2 ≤ x → x ≤ 104 → zrf x = zrf x := fun _ _ _ => rfl
  have hi : ∀ x, 2 ≤ x → x ≤ 104 → I x = fun _ => 0 := fun x _ _ => by rw [hI]
  have hj : ∀ x, 2 ≤ x → x ≤ 104 → J x = fun _ => 0 := fun x _ _ => by rw [hJ]
  refine W_new (cc := 11) (m' := 1) (a := 2) (c1' := 1) (c2' := 18) dL_law_0 (by decide) cL_7 zins11 zini11 rfl rfl rfl (hi 2 (by decide) (by decide)) (hj 2 (by decide) (by decide)) ⟨rfl, rfl⟩ ⟨Nat.le_of_ble_eq_true rfl, Nat.le_of_ble_eq_true rfl⟩ ?_
  refine V_dup dL_law_3 rfl ?_
  refine V_callI (As := []) (st := [.ref 2]) (a := 2) dL_law_4 rfl kX11_init lL_9 (Nat.le_of_ble_eq_true rfl) rfl rfl (Nat.le_of_ble_eq_true rfl) ⟨Nat.le_of_ble_eq_true rfl, Nat.le_of_ble_eq_true rfl⟩ (ci_X11_2 (fun x h1 h2 => hr x (by omega) (by omega)) (fun x h1 h2 => hi x (by omega) (by omega)) (fun x h1 h2 => hj x (by omega) (by omega))) ?_
  rintro _ _ _ _ ⟨rfl, rfl, Ic, hTc, hCx, eI, eJ⟩
  obtain rfl := eI.symm
  obtain rfl := eJ.symm
  refine V_astore_n (ls' := [(1, .ref 2), (0, .ref 0)]) dL_law_7 (by decide) rfl ?_
  refine W_new (cc := 12) (m' := 61) (a := 62) (c1' := 61) (c2' := 11213) dL_law_8 (by decide) cL_10 zins12 zini12 rfl rfl rfl (by rw [zw_o (by decide), zw_o (by decide), zw_o (by decide), zw_o (by decide), zw_o (by decide), zw_o (by decide), zw_o (by decide), zw_o (by decide)]; exact (hCx 62 (by decide)).trans ((zw_o (by decide)).trans ((zw_o (by decide)).trans (hi 62 (by decide) (by decide))))) ((zup_n (by decide)).trans (hj 62 (by decide) (by decide))) ⟨rfl, rfl⟩ ⟨Nat.le_of_ble_eq_true rfl, Nat.le_of_ble_eq_true rfl⟩ ?_
  refine V_dup dL_law_11 rfl ?_
  refine V_callI (As := []) (st := [.ref 62]) (a := 62) dL_law_12 rfl kX12_init lL_12 (Nat.le_of_ble_eq_true rfl) rfl rfl (Nat.le_of_ble_eq_true rfl) ⟨Nat.le_of_ble_eq_true rfl, Nat.le_of_ble_eq_true rfl⟩ (ci_X12 (fun x h1 h2 => (by rw [zw_o (by omega), zw_o (by omega), zw_o (by omega), zw_o (by omega), zw_o (by omega), zw_o (by omega), zw_o (by omega), zw_o (by omega)]; exact (hCx x (by omega)).trans ((zw_o (by omega)).trans ((zw_o (by omega)).trans (hi x (by omega) (by omega)))))) (fun x h1 h2 => (zup_n (by omega)).trans (hj x (by omega) (by omega)))) ?_
  rintro _ _ I3 J3 ⟨rfl, rfl, h2, hM, eJ⟩
  refine V_astore_n (ls' := [(2, .ref 62), (1, .ref 2), (0, .ref 0)]) dL_law_15 (by decide) rfl ?_
  refine V_iconst (v := nI 0) dL_law_16 rfl ?_
  refine V_istore_n (ls' := [(3, .int (nI 0)), (2, .ref 62), (1, .ref 2), (0, .ref 0)]) dL_law_17 (by decide) rfl ?_
  refine V_sub2 (ls' := [(0, .ref 0), (1, .ref 2), (2, .ref 62), (3, .int (nI 0))]) (List.forall_mem_cons.mpr ⟨rfl, List.forall_mem_cons.mpr ⟨rfl, List.forall_mem_cons.mpr ⟨rfl, List.forall_mem_cons.mpr ⟨rfl, fun _ h => absurd h List.not_mem_nil⟩⟩⟩⟩) ?_
  subst hI hJ
  exact lw_loop hL 512 0 _ _ (by omega) (by omega) (rel0 hTc hCx h2 hM eJ)

