/-! THE MODEL: its reader: an E -/
def smH (G : zG) (J : zJ) (Q : zQ) (n : Nat) (I0 : zI) (r0 : List (Nat × Nat)) (q : Nat) (l cs : List (Nat × Nat)) : Prop := ∀ I2, Wd I0 I2 n q 0 (l ++ r0) cs → V G mX12_readsSum 4 Q 14 [(0, .ref 62), (1, .int (nI r0.length))] [] (0, 0) zsh I2 J
def smFl (J : zJ) (Q : zQ) (I0 : zI) (fc q : Nat) : Prop := ∀ I2, Fq I0 I2 fc q → Q (some (.int (nI 0))) zsh I2 J
def facO (G : zG) (J : zJ) (Q : zQ) (n : Nat) (I0 : zI) (r0 : List (Nat × Nat)) (f : Nat × Nat × Nat × List (Nat × Nat)) (l cs : List (Nat × Nat)) : Prop := (f.1 ≠ 0 → smFl J Q I0 f.1 f.2.1) ∧ (f.1 = 0 → smH G J Q n I0 r0 f.2.1 (brk f.2.2.1 l) (cs ++ f.2.2.2))
theorem brk_app {k : Nat} {l r : List (Nat × Nat)} : brk k l ++ r = brk k (l ++ r) := List.append_assoc _ _ _
def sgk (a m : Nat) : List (Nat × Nat) := (if m = 0 then [] else [(opS m, 0)]) ++ (if a = 0 then [] else [(opS a, 0)])
abbrev asg (a : Nat) : Prop := a = 0 ∨ a = 43 ∨ a = 45
abbrev msg (m : Nat) : Prop := m = 0 ∨ m = 42 ∨ m = 47 ∨ m = 37
abbrev noSg (r : List (Nat × Nat)) : Prop := ∀ x, r.head? = some x → ¬ (2 ≤ x.1 ∧ x.1 ≤ 6)
theorem noSg_14 {x : Nat × Nat} {r : List (Nat × Nat)} (h : x.1 = 14) : noSg (x :: r) := fun y hy => by
  have e : x = y := Option.some.inj hy
  subst e
  omega
theorem clsS_st {b : Nat} {r cs : List (Nat × Nat)} (h : noSg r) : clsS b r cs = (r, cs) := by
  cases r with
  | nil => rfl
  | cons x r => exact clsS_n (fun hg => h x rfl (by omega))
theorem clsS_1 {a m : Nat} {r cs : List (Nat × Nat)} (ha : asg a) (hm : msg m) (h : noSg r) : clsS 1 (sgk a m ++ r) cs = (r, cs ++ sgL m ++ sgL a) := by
  have e1 : ∀ cs, clsS 1 ((if a = 0 then [] else [(opS a, 0)]) ++ r) cs = (r, cs ++ sgL a) := by
    intro cs
    rcases ha with rfl | rfl | rfl
    · show clsS 1 r cs = _
      rw [clsS_st h]
      show (r, cs) = (r, cs ++ [])
      rw [List.append_nil]
    · show clsS 1 ((2, 0) :: r) cs = _
      rw [clsS_y (by decide), clsS_st h]
      rfl
    · show clsS 1 ((3, 0) :: r) cs = _
      rw [clsS_y (by decide), clsS_st h]
      rfl
  unfold sgk
  rw [List.append_assoc]
  rcases hm with rfl | rfl | rfl | rfl
  · show clsS 1 ((if a = 0 then [] else [(opS a, 0)]) ++ r) cs = _
    rw [e1]
    show _ = (r, cs ++ [] ++ sgL a)
    rw [List.append_nil]
  · show clsS 1 ((4, 0) :: ((if a = 0 then [] else [(opS a, 0)]) ++ r)) cs = _
    rw [clsS_y (by decide), e1]
    rfl
  · show clsS 1 ((5, 0) :: ((if a = 0 then [] else [(opS a, 0)]) ++ r)) cs = _
    rw [clsS_y (by decide), e1]
    rfl
  · show clsS 1 ((6, 0) :: ((if a = 0 then [] else [(opS a, 0)]) ++ r)) cs = _
    rw [clsS_y (by decide), e1]
    rfl
theorem clsS_0 {a m : Nat} {r cs : List (Nat × Nat)} (ha : asg a) (hm : msg m) (h : noSg r) : clsS 0 (sgk a m ++ r) cs = (sgk a 0 ++ r, cs ++ sgL m) := by
  have e1 : ∀ cs, clsS 0 ((if a = 0 then [] else [(opS a, 0)]) ++ r) cs = (sgk a 0 ++ r, cs) := by
    intro cs
    rcases ha with rfl | rfl | rfl
    · exact clsS_st h
    · exact clsS_n (by decide)
    · exact clsS_n (by decide)
  unfold sgk
  rw [List.append_assoc]
  rcases hm with rfl | rfl | rfl | rfl
  · show clsS 0 ((if a = 0 then [] else [(opS a, 0)]) ++ r) cs = (sgk a 0 ++ r, cs ++ [])
    rw [e1, List.append_nil]
  · show clsS 0 ((4, 0) :: ((if a = 0 then [] else [(opS a, 0)]) ++ r)) cs = _
    rw [clsS_y (by decide), e1]
    rfl
  · show clsS 0 ((5, 0) :: ((if a = 0 then [] else [(opS a, 0)]) ++ r)) cs = _
    rw [clsS_y (by decide), e1]
    rfl
  · show clsS 0 ((6, 0) :: ((if a = 0 then [] else [(opS a, 0)]) ++ r)) cs = _
    rw [clsS_y (by decide), e1]
    rfl
theorem any14_k {a m : Nat} {l : List (Nat × Nat)} (ha : asg a) (hm : msg m) : any14 (sgk a m ++ l) = any14 l := by
  rcases ha with rfl | rfl | rfl <;> rcases hm with rfl | rfl | rfl | rfl <;> simp [sgk, any14, opS]
theorem opn_k {a m : Nat} {l : List (Nat × Nat)} (ha : asg a) (hm : msg m) : opn (sgk a m ++ l) = opn l := by
  rcases ha with rfl | rfl | rfl <;> rcases hm with rfl | rfl | rfl | rfl <;> simp [sgk, opn, opS]
theorem sgk_m {a c : Nat} (hc : ¬ c = 0) : sgk a c = (opS c, 0) :: sgk a 0 := by
  unfold sgk
  rw [if_neg hc]
  rfl
theorem sgk_a {c : Nat} (hc : ¬ c = 0) : sgk c 0 = [(opS c, 0)] := by
  unfold sgk
  rw [if_neg hc]
  rfl
set_option maxRecDepth 100000 in
set_option maxHeartbeats 4000000 in
theorem sm_sign0 {G : zG} {I0 : zI} {J : zJ} {Q : zQ} {n q e : Nat} {r0 l l2 cs cs2 : List (Nat × Nat)} {tx : Nat → Nat} (hx : txW I0 tx n) (hc : (sgn tx n q = 42 ∨ sgn tx n q = 47 ∨ sgn tx n q = 37)) (hcl : clsS 0 (l ++ r0) cs = (l2 ++ r0, cs2)) (he : opn (l2 ++ r0) + e = 6) (hfo : facO G J Q n I0 r0 (fcR tx n e (q + 1)) ((opS (sgn tx n q), 0) :: l2) cs2) : smH G J Q n I0 r0 q l cs := by
  intro I2 hW
  have hsq := hW.sq
  have hqn := hW.qn
  have hn240 := hW.n240
  have hcq := hW.cq
  have hrl : r0.length ≤ (l ++ r0).length := by rw [List.length_append]; omega
  have hs : sgs (sgn tx n q) := by unfold sgs; omega
  have hqn2 : q < n := sgn_ltn (tx := tx) (by omega)
  have hop : 4 ≤ opS (sgn tx n q) ∧ opS (sgn tx n q) ≤ 6 := by rcases hc with h | h | h <;> rw [h] <;> decide
  have hno : ¬ (opS (sgn tx n q) = 10 ∨ opS (sgn tx n q) = 13 ∨ opS (sgn tx n q) = 14) := by omega
  refine V_aload_n dX12_readsSum_14 rfl ?_
  refine V_callV (As := []) (st := []) (a := 62) dX12_readsSum_15 kX12_here lX12_225 (by decide) rfl rfl (Nat.le_of_ble_eq_true rfl) ⟨Nat.le_of_ble_eq_true rfl, Nat.le_of_ble_eq_true rfl⟩ ⟨Nat.le_of_ble_eq_true rfl, Nat.le_of_ble_eq_true rfl⟩ rfl ⟨rfl, by decide⟩ (w_hereW hW hx) ?_
  rintro _ _ _ _ ⟨rfl, rfl, rfl, rfl⟩
  refine V_callS (As := [.int (nxI (sgn tx n q))]) (st := []) dX12_readsSum_18 kX12_sumSign lX12_272 (by decide) rfl rfl (Nat.le_of_ble_eq_true rfl) ⟨Nat.le_of_ble_eq_true rfl, Nat.le_of_ble_eq_true rfl⟩ (w_sumSign (sg_le hx q)) ?_
  rintro _ _ _ _ ⟨rfl, rfl, rfl, rfl⟩
  refine V_eqI (y := nI (opS (sgn tx n q))) (if_pos hs) ?_
  refine V_istore_n (ls' := [(2, .int (nI (opS (sgn tx n q)))), (0, .ref 62), (1, .int (nI r0.length))]) dX12_readsSum_21 (by decide) rfl ?_
  refine V_iload_n dX12_readsSum_22 rfl ?_
  refine V_iconst (v := (-1)) dX12_readsSum_23 rfl ?_
  refine V_icmp_eq (tgt := 83) dX12_readsSum_24 rfl (fun h => absurd h (nI_ne_neg (by omega) (by decide))) (fun _ => ?_)
  refine V_aload_n dX12_readsSum_27 rfl ?_
  refine V_iload_n dX12_readsSum_28 rfl ?_
  refine V_iconst (v := nI 4) dX12_readsSum_29 rfl ?_
  refine V_icmp_geN (tgt := 37) dX12_readsSum_30 rfl (by omega) (by omega) (fun _ => ?_) (fun h => absurd h (by omega))
  refine V_iconst (v := nI 0) dX12_readsSum_37 rfl ?_
  refine V_callV (As := [.int (nI 0)]) (st := []) (a := 62) dX12_readsSum_38 kX12_closesSums lX12_275 (by decide) rfl rfl (Nat.le_of_ble_eq_true rfl) ⟨Nat.le_of_ble_eq_true rfl, Nat.le_of_ble_eq_true rfl⟩ ⟨Nat.le_of_ble_eq_true rfl, Nat.le_of_ble_eq_true rfl⟩ rfl ⟨rfl, by decide⟩ (w_closes hW (b := 0) (by decide)) ?_
  rintro r sh' I3 _ ⟨rfl, rfl, hW3, rfl⟩
  rw [hcl] at hW3
  dsimp only at hW3
  have hW3s := hW3.sq
  have hW3c := hW3.cq
  refine V_aload_n dX12_readsSum_41 rfl ?_
  refine V_getR (b := 68) dX12_readsSum_42 fX12_26 ⟨Nat.le_of_ble_eq_true rfl, Nat.le_of_ble_eq_true rfl⟩ rfl rfl rfl ?_
  refine V_aload_n dX12_readsSum_45 rfl ?_
  refine V_getI dX12_readsSum_46 fX12_250 ⟨Nat.le_of_ble_eq_true rfl, Nat.le_of_ble_eq_true rfl⟩ rfl rfl ?_
  refine V_eqI (y := nI ((l2 ++ r0).length)) hW3.hw ?_
  refine V_ldc dX12_readsSum_49 qX12_246 ?_
  refine V_eqI (y := nI 1048576) rfl ?_
  refine V_iload_n dX12_readsSum_51 rfl ?_
  refine V_imulN dX12_readsSum_52 ?_
  refine V_iastN (k := (l2 ++ r0).length) dX12_readsSum_53 ⟨Nat.le_of_ble_eq_true rfl, Nat.le_of_ble_eq_true rfl⟩ rfl (by decide) (by omega) ?_
  refine V_aload_n dX12_readsSum_54 rfl ?_
  refine V_aload_n dX12_readsSum_55 rfl ?_
  refine V_getI dX12_readsSum_56 fX12_250 ⟨Nat.le_of_ble_eq_true rfl, Nat.le_of_ble_eq_true rfl⟩ rfl rfl ?_
  refine V_eqI (y := I3 62 14) rfl ?_
  refine V_eqI (y := nI ((l2 ++ r0).length)) hW3.hw ?_
  refine V_iconst (v := nI 1) dX12_readsSum_59 rfl ?_
  refine V_iaddN dX12_readsSum_60 ?_
  refine V_putW dX12_readsSum_61 fX12_250 ⟨Nat.le_of_ble_eq_true rfl, Nat.le_of_ble_eq_true rfl⟩ rfl rfl rfl ⟨rfl, rfl⟩ ?_
  refine V_aload_n dX12_readsSum_64 rfl ?_
  refine V_aload_n dX12_readsSum_65 rfl ?_
  refine V_getI dX12_readsSum_66 fX12_219 ⟨Nat.le_of_ble_eq_true rfl, Nat.le_of_ble_eq_true rfl⟩ rfl rfl ?_
  refine V_eqI (y := I3 62 8) rfl ?_
  refine V_eqI (y := nI q) hW3.hq ?_
  refine V_iconst (v := nI 1) dX12_readsSum_69 rfl ?_
  refine V_iaddN dX12_readsSum_70 ?_
  refine V_putW dX12_readsSum_71 fX12_219 ⟨Nat.le_of_ble_eq_true rfl, Nat.le_of_ble_eq_true rfl⟩ rfl rfl rfl ⟨rfl, rfl⟩ ?_
  refine V_aload_n dX12_readsSum_74 rfl ?_
  have hW4 := hW3.push (v := 0) (z' := 0) hqn2 (show opS (sgn tx n q) ≤ 14 by omega) (by decide) hno (by rw [if_pos (by omega)])
  refine V_callV (As := []) (st := []) (a := 62) dX12_readsSum_75 kX12_readsFactor lX12_269 (by decide) rfl rfl (Nat.le_of_ble_eq_true rfl) ⟨Nat.le_of_ble_eq_true rfl, Nat.le_of_ble_eq_true rfl⟩ ⟨Nat.le_of_ble_eq_true rfl, Nat.le_of_ble_eq_true rfl⟩ rfl ⟨rfl, by decide⟩ (w_factor hW4 hx (by rw [opn_n (x := (opS (sgn tx n q), 0)) hno]; exact he)) ?_
  rintro r sh' I4 _ ⟨rfl, hF1, hF2, rfl⟩
  by_cases hr : (fcR tx n e (q + 1)).1 = 0
  · skip
    obtain ⟨rfl, hWn⟩ := hF1 hr
    refine V_if_ne (tgt := 163) dX12_readsSum_78 rfl (fun _ => ?_) (fun h => absurd h (by decide))
    refine V_goto (tgt := 14) dX12_readsSum_163 rfl ?_
    refine V_sub2 (ls' := [(0, .ref 62), (1, .int (nI r0.length))]) (List.forall_mem_cons.mpr ⟨rfl, List.forall_mem_cons.mpr ⟨rfl, fun _ h => absurd h List.not_mem_nil⟩⟩) ?_
    refine hfo.2 hr _ ?_
    rw [brk_app]
    exact hWn
  · skip
    obtain ⟨rfl, hWn⟩ := hF2 hr
    refine V_if_ne (tgt := 163) dX12_readsSum_78 rfl (fun h => absurd h (by decide)) (fun _ => ?_)
    refine V_iconst (v := nI 0) dX12_readsSum_81 rfl ?_
    exact V_iret ⟨Or.inr ⟨rfl, Or.inl rfl⟩, dX12_readsSum_82⟩ ⟨Nat.le_of_ble_eq_true rfl, Nat.le_of_ble_eq_true rfl⟩ (hfo.1 hr _ hWn)

set_option maxRecDepth 100000 in
set_option maxHeartbeats 4000000 in
theorem sm_sign1 {G : zG} {I0 : zI} {J : zJ} {Q : zQ} {n q e : Nat} {r0 l l2 cs cs2 : List (Nat × Nat)} {tx : Nat → Nat} (hx : txW I0 tx n) (hc : (sgn tx n q = 43 ∨ sgn tx n q = 45)) (hcl : clsS 1 (l ++ r0) cs = (l2 ++ r0, cs2)) (he : opn (l2 ++ r0) + e = 6) (hfo : facO G J Q n I0 r0 (fcR tx n e (q + 1)) ((opS (sgn tx n q), 0) :: l2) cs2) : smH G J Q n I0 r0 q l cs := by
  intro I2 hW
  have hsq := hW.sq
  have hqn := hW.qn
  have hn240 := hW.n240
  have hcq := hW.cq
  have hrl : r0.length ≤ (l ++ r0).length := by rw [List.length_append]; omega
  have hs : sgs (sgn tx n q) := by unfold sgs; omega
  have hqn2 : q < n := sgn_ltn (tx := tx) (by omega)
  have hop : 2 ≤ opS (sgn tx n q) ∧ opS (sgn tx n q) ≤ 3 := by rcases hc with h | h <;> rw [h] <;> decide
  have hno : ¬ (opS (sgn tx n q) = 10 ∨ opS (sgn tx n q) = 13 ∨ opS (sgn tx n q) = 14) := by omega
  refine V_aload_n dX12_readsSum_14 rfl ?_
  refine V_callV (As := []) (st := []) (a := 62) dX12_readsSum_15 kX12_here lX12_225 (by decide) rfl rfl (Nat.le_of_ble_eq_true rfl) ⟨Nat.le_of_ble_eq_true rfl, Nat.le_of_ble_eq_true rfl⟩ ⟨Nat.le_of_ble_eq_true rfl, Nat.le_of_ble_eq_true rfl⟩ rfl ⟨rfl, by decide⟩ (w_hereW hW hx) ?_
  rintro _ _ _ _ ⟨rfl, rfl, rfl, rfl⟩
  refine V_callS (As := [.int (nxI (sgn tx n q))]) (st := []) dX12_readsSum_18 kX12_sumSign lX12_272 (by decide) rfl rfl (Nat.le_of_ble_eq_true rfl) ⟨Nat.le_of_ble_eq_true rfl, Nat.le_of_ble_eq_true rfl⟩ (w_sumSign (sg_le hx q)) ?_
  rintro _ _ _ _ ⟨rfl, rfl, rfl, rfl⟩
  refine V_eqI (y := nI (opS (sgn tx n q))) (if_pos hs) ?_
  refine V_istore_n (ls' := [(2, .int (nI (opS (sgn tx n q)))), (0, .ref 62), (1, .int (nI r0.length))]) dX12_readsSum_21 (by decide) rfl ?_
  refine V_iload_n dX12_readsSum_22 rfl ?_
  refine V_iconst (v := (-1)) dX12_readsSum_23 rfl ?_
  refine V_icmp_eq (tgt := 83) dX12_readsSum_24 rfl (fun h => absurd h (nI_ne_neg (by omega) (by decide))) (fun _ => ?_)
  refine V_aload_n dX12_readsSum_27 rfl ?_
  refine V_iload_n dX12_readsSum_28 rfl ?_
  refine V_iconst (v := nI 4) dX12_readsSum_29 rfl ?_
  refine V_icmp_geN (tgt := 37) dX12_readsSum_30 rfl (by omega) (by omega) (fun h => absurd h (by omega)) (fun _ => ?_)
  refine V_iconst (v := nI 1) dX12_readsSum_33 rfl ?_
  refine V_goto (tgt := 38) dX12_readsSum_34 rfl ?_
  refine V_callV (As := [.int (nI 1)]) (st := []) (a := 62) dX12_readsSum_38 kX12_closesSums lX12_275 (by decide) rfl rfl (Nat.le_of_ble_eq_true rfl) ⟨Nat.le_of_ble_eq_true rfl, Nat.le_of_ble_eq_true rfl⟩ ⟨Nat.le_of_ble_eq_true rfl, Nat.le_of_ble_eq_true rfl⟩ rfl ⟨rfl, by decide⟩ (w_closes hW (b := 1) (by decide)) ?_
  rintro r sh' I3 _ ⟨rfl, rfl, hW3, rfl⟩
  rw [hcl] at hW3
  dsimp only at hW3
  have hW3s := hW3.sq
  have hW3c := hW3.cq
  refine V_aload_n dX12_readsSum_41 rfl ?_
  refine V_getR (b := 68) dX12_readsSum_42 fX12_26 ⟨Nat.le_of_ble_eq_true rfl, Nat.le_of_ble_eq_true rfl⟩ rfl rfl rfl ?_
  refine V_aload_n dX12_readsSum_45 rfl ?_
  refine V_getI dX12_readsSum_46 fX12_250 ⟨Nat.le_of_ble_eq_true rfl, Nat.le_of_ble_eq_true rfl⟩ rfl rfl ?_
  refine V_eqI (y := nI ((l2 ++ r0).length)) hW3.hw ?_
  refine V_ldc dX12_readsSum_49 qX12_246 ?_
  refine V_eqI (y := nI 1048576) rfl ?_
  refine V_iload_n dX12_readsSum_51 rfl ?_
  refine V_imulN dX12_readsSum_52 ?_
  refine V_iastN (k := (l2 ++ r0).length) dX12_readsSum_53 ⟨Nat.le_of_ble_eq_true rfl, Nat.le_of_ble_eq_true rfl⟩ rfl (by decide) (by omega) ?_
  refine V_aload_n dX12_readsSum_54 rfl ?_
  refine V_aload_n dX12_readsSum_55 rfl ?_
  refine V_getI dX12_readsSum_56 fX12_250 ⟨Nat.le_of_ble_eq_true rfl, Nat.le_of_ble_eq_true rfl⟩ rfl rfl ?_
  refine V_eqI (y := I3 62 14) rfl ?_
  refine V_eqI (y := nI ((l2 ++ r0).length)) hW3.hw ?_
  refine V_iconst (v := nI 1) dX12_readsSum_59 rfl ?_
  refine V_iaddN dX12_readsSum_60 ?_
  refine V_putW dX12_readsSum_61 fX12_250 ⟨Nat.le_of_ble_eq_true rfl, Nat.le_of_ble_eq_true rfl⟩ rfl rfl rfl ⟨rfl, rfl⟩ ?_
  refine V_aload_n dX12_readsSum_64 rfl ?_
  refine V_aload_n dX12_readsSum_65 rfl ?_
  refine V_getI dX12_readsSum_66 fX12_219 ⟨Nat.le_of_ble_eq_true rfl, Nat.le_of_ble_eq_true rfl⟩ rfl rfl ?_
  refine V_eqI (y := I3 62 8) rfl ?_
  refine V_eqI (y := nI q) hW3.hq ?_
  refine V_iconst (v := nI 1) dX12_readsSum_69 rfl ?_
  refine V_iaddN dX12_readsSum_70 ?_
  refine V_putW dX12_readsSum_71 fX12_219 ⟨Nat.le_of_ble_eq_true rfl, Nat.le_of_ble_eq_true rfl⟩ rfl rfl rfl ⟨rfl, rfl⟩ ?_
  refine V_aload_n dX12_readsSum_74 rfl ?_
  have hW4 := hW3.push (v := 0) (z' := 0) hqn2 (show opS (sgn tx n q) ≤ 14 by omega) (by decide) hno (by rw [if_pos (by omega)])
  refine V_callV (As := []) (st := []) (a := 62) dX12_readsSum_75 kX12_readsFactor lX12_269 (by decide) rfl rfl (Nat.le_of_ble_eq_true rfl) ⟨Nat.le_of_ble_eq_true rfl, Nat.le_of_ble_eq_true rfl⟩ ⟨Nat.le_of_ble_eq_true rfl, Nat.le_of_ble_eq_true rfl⟩ rfl ⟨rfl, by decide⟩ (w_factor hW4 hx (by rw [opn_n (x := (opS (sgn tx n q), 0)) hno]; exact he)) ?_
  rintro r sh' I4 _ ⟨rfl, hF1, hF2, rfl⟩
  by_cases hr : (fcR tx n e (q + 1)).1 = 0
  · skip
    obtain ⟨rfl, hWn⟩ := hF1 hr
    refine V_if_ne (tgt := 163) dX12_readsSum_78 rfl (fun _ => ?_) (fun h => absurd h (by decide))
    refine V_goto (tgt := 14) dX12_readsSum_163 rfl ?_
    refine V_sub2 (ls' := [(0, .ref 62), (1, .int (nI r0.length))]) (List.forall_mem_cons.mpr ⟨rfl, List.forall_mem_cons.mpr ⟨rfl, fun _ h => absurd h List.not_mem_nil⟩⟩) ?_
    refine hfo.2 hr _ ?_
    rw [brk_app]
    exact hWn
  · skip
    obtain ⟨rfl, hWn⟩ := hF2 hr
    refine V_if_ne (tgt := 163) dX12_readsSum_78 rfl (fun h => absurd h (by decide)) (fun _ => ?_)
    refine V_iconst (v := nI 0) dX12_readsSum_81 rfl ?_
    exact V_iret ⟨Or.inr ⟨rfl, Or.inl rfl⟩, dX12_readsSum_82⟩ ⟨Nat.le_of_ble_eq_true rfl, Nat.le_of_ble_eq_true rfl⟩ (hfo.1 hr _ hWn)

set_option maxRecDepth 100000 in
set_option maxHeartbeats 4000000 in
theorem sm_brk {G : zG} {I0 : zI} {J : zJ} {Q : zQ} {n q : Nat} {r0 l l2 cs cs2 : List (Nat × Nat)} {tx : Nat → Nat} (hx : txW I0 tx n) (hc : sgn tx n q = 93) (h14 : any14 l = true) (hcl : clsS 1 (l ++ r0) cs = ((14, 0) :: (l2 ++ r0), cs2)) (hk : smH G J Q n I0 r0 (q + 1) l2 cs2) : smH G J Q n I0 r0 q l cs := by
  intro I2 hW
  have hsq := hW.sq
  have hqn := hW.qn
  have hn240 := hW.n240
  have hcq := hW.cq
  have hrl : r0.length ≤ (l ++ r0).length := by rw [List.length_append]; omega
  have hs : ¬ sgs (sgn tx n q) := by unfold sgs; omega
  have hqn2 : q < n := sgn_ltn (tx := tx) (by omega)
  refine V_aload_n dX12_readsSum_14 rfl ?_
  refine V_callV (As := []) (st := []) (a := 62) dX12_readsSum_15 kX12_here lX12_225 (by decide) rfl rfl (Nat.le_of_ble_eq_true rfl) ⟨Nat.le_of_ble_eq_true rfl, Nat.le_of_ble_eq_true rfl⟩ ⟨Nat.le_of_ble_eq_true rfl, Nat.le_of_ble_eq_true rfl⟩ rfl ⟨rfl, by decide⟩ (w_hereW hW hx) ?_
  rintro _ _ _ _ ⟨rfl, rfl, rfl, rfl⟩
  refine V_callS (As := [.int (nxI (sgn tx n q))]) (st := []) dX12_readsSum_18 kX12_sumSign lX12_272 (by decide) rfl rfl (Nat.le_of_ble_eq_true rfl) ⟨Nat.le_of_ble_eq_true rfl, Nat.le_of_ble_eq_true rfl⟩ (w_sumSign (sg_le hx q)) ?_
  rintro _ _ _ _ ⟨rfl, rfl, rfl, rfl⟩
  refine V_eqI (y := (-1)) (if_neg hs) ?_
  refine V_istore_n (ls' := [(2, .int (-1)), (0, .ref 62), (1, .int (nI r0.length))]) dX12_readsSum_21 (by decide) rfl ?_
  refine V_iload_n dX12_readsSum_22 rfl ?_
  refine V_iconst (v := (-1)) dX12_readsSum_23 rfl ?_
  refine V_icmp_eq (tgt := 83) dX12_readsSum_24 rfl (fun _ => ?_) (fun h => absurd h (by decide))
  refine V_aload_n dX12_readsSum_83 rfl ?_
  refine V_callV (As := []) (st := []) (a := 62) dX12_readsSum_84 kX12_here lX12_225 (by decide) rfl rfl (Nat.le_of_ble_eq_true rfl) ⟨Nat.le_of_ble_eq_true rfl, Nat.le_of_ble_eq_true rfl⟩ ⟨Nat.le_of_ble_eq_true rfl, Nat.le_of_ble_eq_true rfl⟩ rfl ⟨rfl, by decide⟩ (w_hereW hW hx) ?_
  rintro _ _ _ _ ⟨rfl, rfl, rfl, rfl⟩
  refine V_bipush (v := nI 93) dX12_readsSum_87 rfl ?_
  refine V_icmp_neX (tgt := 138) dX12_readsSum_89 rfl (sg_le hx _) (by decide) (fun h => absurd hc h) (fun _ => ?_)
  refine V_aload_n dX12_readsSum_92 rfl ?_
  refine V_iload_n dX12_readsSum_93 rfl ?_
  refine V_callV (As := [.int (nI r0.length)]) (st := []) (a := 62) dX12_readsSum_94 kX12_hasOpenSum lX12_279 (by decide) rfl rfl (Nat.le_of_ble_eq_true rfl) ⟨Nat.le_of_ble_eq_true rfl, Nat.le_of_ble_eq_true rfl⟩ ⟨Nat.le_of_ble_eq_true rfl, Nat.le_of_ble_eq_true rfl⟩ rfl ⟨rfl, by decide⟩ (w_hasO hW) ?_
  rintro _ _ _ _ ⟨rfl, rfl, rfl, rfl⟩
  rw [h14]
  refine V_eqI (y := nI 1) (congrArg nI (if_pos (by decide))) ?_
  refine V_if_eq (tgt := 138) dX12_readsSum_97 rfl (fun h => absurd h (by decide)) (fun _ => ?_)
  refine V_aload_n dX12_readsSum_100 rfl ?_
  refine V_iconst (v := nI 1) dX12_readsSum_101 rfl ?_
  refine V_callV (As := [.int (nI 1)]) (st := []) (a := 62) dX12_readsSum_102 kX12_closesSums lX12_275 (by decide) rfl rfl (Nat.le_of_ble_eq_true rfl) ⟨Nat.le_of_ble_eq_true rfl, Nat.le_of_ble_eq_true rfl⟩ ⟨Nat.le_of_ble_eq_true rfl, Nat.le_of_ble_eq_true rfl⟩ rfl ⟨rfl, by decide⟩ (w_closes hW (b := 1) (by decide)) ?_
  rintro r sh' I3 _ ⟨rfl, rfl, hW3, rfl⟩
  rw [hcl] at hW3
  dsimp only at hW3
  have hW3s := hW3.sq
  have hW3c := hW3.cq
  refine V_aload_n dX12_readsSum_105 rfl ?_
  refine V_aload_n dX12_readsSum_106 rfl ?_
  refine V_getI dX12_readsSum_107 fX12_250 ⟨Nat.le_of_ble_eq_true rfl, Nat.le_of_ble_eq_true rfl⟩ rfl rfl ?_
  refine V_eqI (y := nI ((l2 ++ r0).length + 1)) hW3.hw ?_
  refine V_iconst (v := nI 1) dX12_readsSum_110 rfl ?_
  refine V_isubN dX12_readsSum_111 (by omega) ?_
  refine V_putW dX12_readsSum_112 fX12_250 ⟨Nat.le_of_ble_eq_true rfl, Nat.le_of_ble_eq_true rfl⟩ rfl rfl rfl ⟨rfl, rfl⟩ ?_
  refine V_aload_n dX12_readsSum_115 rfl ?_
  refine V_aload_n dX12_readsSum_116 rfl ?_
  refine V_getI dX12_readsSum_117 fX12_247 ⟨Nat.le_of_ble_eq_true rfl, Nat.le_of_ble_eq_true rfl⟩ rfl rfl ?_
  refine V_eqI (y := I3 62 12) rfl ?_
  refine V_eqI (y := nI (opn (l2 ++ r0) + 1)) (hW3.ho.trans (congrArg nI (opn_y (x := (14, 0)) (by decide)))) ?_
  refine V_iconst (v := nI 1) dX12_readsSum_120 rfl ?_
  refine V_isubN dX12_readsSum_121 (by omega) ?_
  refine V_putW dX12_readsSum_122 fX12_247 ⟨Nat.le_of_ble_eq_true rfl, Nat.le_of_ble_eq_true rfl⟩ rfl rfl rfl ⟨rfl, rfl⟩ ?_
  refine V_aload_n dX12_readsSum_125 rfl ?_
  refine V_aload_n dX12_readsSum_126 rfl ?_
  refine V_getI dX12_readsSum_127 fX12_219 ⟨Nat.le_of_ble_eq_true rfl, Nat.le_of_ble_eq_true rfl⟩ rfl rfl ?_
  refine V_eqI (y := I3 62 8) rfl ?_
  refine V_eqI (y := nI q) hW3.hq ?_
  refine V_iconst (v := nI 1) dX12_readsSum_130 rfl ?_
  refine V_iaddN dX12_readsSum_131 ?_
  refine V_putW dX12_readsSum_132 fX12_219 ⟨Nat.le_of_ble_eq_true rfl, Nat.le_of_ble_eq_true rfl⟩ rfl rfl rfl ⟨rfl, rfl⟩ ?_
  refine V_goto (tgt := 163) dX12_readsSum_135 rfl ?_
  refine V_goto (tgt := 14) dX12_readsSum_163 rfl ?_
  refine V_sub2 (ls' := [(0, .ref 62), (1, .int (nI r0.length))]) (List.forall_mem_cons.mpr ⟨rfl, List.forall_mem_cons.mpr ⟨rfl, fun _ h => absurd h List.not_mem_nil⟩⟩) ?_
  refine hk _ ?_
  exact (hW3.close (z' := 0) (by decide) rfl).next hqn2

set_option maxRecDepth 100000 in
set_option maxHeartbeats 4000000 in
theorem sm_wrong {G : zG} {I0 : zI} {J : zJ} {Q : zQ} {n q : Nat} {r0 l cs : List (Nat × Nat)} {tx : Nat → Nat} (hx : txW I0 tx n) (hs : ¬ sgs (sgn tx n q)) (hc : ¬ sgn tx n q = 93) (h14 : any14 l = true) (hf : smFl J Q I0 1 q) : smH G J Q n I0 r0 q l cs := by
  intro I2 hW
  have hsq := hW.sq
  have hqn := hW.qn
  have hn240 := hW.n240
  have hcq := hW.cq
  have hrl : r0.length ≤ (l ++ r0).length := by rw [List.length_append]; omega
  refine V_aload_n dX12_readsSum_14 rfl ?_
  refine V_callV (As := []) (st := []) (a := 62) dX12_readsSum_15 kX12_here lX12_225 (by decide) rfl rfl (Nat.le_of_ble_eq_true rfl) ⟨Nat.le_of_ble_eq_true rfl, Nat.le_of_ble_eq_true rfl⟩ ⟨Nat.le_of_ble_eq_true rfl, Nat.le_of_ble_eq_true rfl⟩ rfl ⟨rfl, by decide⟩ (w_hereW hW hx) ?_
  rintro _ _ _ _ ⟨rfl, rfl, rfl, rfl⟩
  refine V_callS (As := [.int (nxI (sgn tx n q))]) (st := []) dX12_readsSum_18 kX12_sumSign lX12_272 (by decide) rfl rfl (Nat.le_of_ble_eq_true rfl) ⟨Nat.le_of_ble_eq_true rfl, Nat.le_of_ble_eq_true rfl⟩ (w_sumSign (sg_le hx q)) ?_
  rintro _ _ _ _ ⟨rfl, rfl, rfl, rfl⟩
  refine V_eqI (y := (-1)) (if_neg hs) ?_
  refine V_istore_n (ls' := [(2, .int (-1)), (0, .ref 62), (1, .int (nI r0.length))]) dX12_readsSum_21 (by decide) rfl ?_
  refine V_iload_n dX12_readsSum_22 rfl ?_
  refine V_iconst (v := (-1)) dX12_readsSum_23 rfl ?_
  refine V_icmp_eq (tgt := 83) dX12_readsSum_24 rfl (fun _ => ?_) (fun h => absurd h (by decide))
  refine V_aload_n dX12_readsSum_83 rfl ?_
  refine V_callV (As := []) (st := []) (a := 62) dX12_readsSum_84 kX12_here lX12_225 (by decide) rfl rfl (Nat.le_of_ble_eq_true rfl) ⟨Nat.le_of_ble_eq_true rfl, Nat.le_of_ble_eq_true rfl⟩ ⟨Nat.le_of_ble_eq_true rfl, Nat.le_of_ble_eq_true rfl⟩ rfl ⟨rfl, by decide⟩ (w_hereW hW hx) ?_
  rintro _ _ _ _ ⟨rfl, rfl, rfl, rfl⟩
  refine V_bipush (v := nI 93) dX12_readsSum_87 rfl ?_
  refine V_icmp_neX (tgt := 138) dX12_readsSum_89 rfl (sg_le hx _) (by decide) (fun _ => ?_) (fun h => absurd h hc)
  refine V_aload_n dX12_readsSum_138 rfl ?_
  refine V_iload_n dX12_readsSum_139 rfl ?_
  refine V_callV (As := [.int (nI r0.length)]) (st := []) (a := 62) dX12_readsSum_140 kX12_hasOpenSum lX12_279 (by decide) rfl rfl (Nat.le_of_ble_eq_true rfl) ⟨Nat.le_of_ble_eq_true rfl, Nat.le_of_ble_eq_true rfl⟩ ⟨Nat.le_of_ble_eq_true rfl, Nat.le_of_ble_eq_true rfl⟩ rfl ⟨rfl, by decide⟩ (w_hasO hW) ?_
  rintro _ _ _ _ ⟨rfl, rfl, rfl, rfl⟩
  rw [h14]
  refine V_eqI (y := nI 1) (congrArg nI (if_pos (by decide))) ?_
  refine V_if_eq (tgt := 156) dX12_readsSum_143 rfl (fun h => absurd h (by decide)) (fun _ => ?_)
  refine V_aload_n dX12_readsSum_146 rfl ?_
  refine V_iconst (v := nI 1) dX12_readsSum_147 rfl ?_
  refine V_aload_n dX12_readsSum_148 rfl ?_
  refine V_getI dX12_readsSum_149 fX12_219 ⟨Nat.le_of_ble_eq_true rfl, Nat.le_of_ble_eq_true rfl⟩ rfl rfl ?_
  refine V_eqI (y := nI q) hW.hq ?_
  refine V_callV (As := [.int (nI 1), .int (nI q)]) (st := []) (a := 62) dX12_readsSum_152 kX12_wrongAt lX12_232 (by decide) rfl rfl (Nat.le_of_ble_eq_true rfl) ⟨Nat.le_of_ble_eq_true rfl, Nat.le_of_ble_eq_true rfl⟩ ⟨Nat.le_of_ble_eq_true rfl, Nat.le_of_ble_eq_true rfl⟩ rfl ⟨rfl, by decide⟩ w_wrongAt ?_
  rintro r sh' _ _ ⟨rfl, rfl, rfl, rfl⟩
  exact V_iret ⟨Or.inr ⟨rfl, Or.inl rfl⟩, dX12_readsSum_155⟩ ⟨Nat.le_of_ble_eq_true rfl, Nat.le_of_ble_eq_true rfl⟩ (hf _ hW.fail)

set_option maxRecDepth 100000 in
set_option maxHeartbeats 4000000 in
theorem sm_end {G : zG} {I0 : zI} {J : zJ} {Q : zQ} {n q : Nat} {r0 l cs cs2 : List (Nat × Nat)} {tx : Nat → Nat} (hx : txW I0 tx n) (hs : ¬ sgs (sgn tx n q)) (h14 : any14 l = false) (hcl : clsS 1 (l ++ r0) cs = (r0, cs2)) (hf : ∀ I2, Wd I0 I2 n q 0 r0 cs2 → Q (some (.int (nI 1))) zsh I2 J) : smH G J Q n I0 r0 q l cs := by
  intro I2 hW
  have hsq := hW.sq
  have hqn := hW.qn
  have hn240 := hW.n240
  have hcq := hW.cq
  have hrl : r0.length ≤ (l ++ r0).length := by rw [List.length_append]; omega
  refine V_aload_n dX12_readsSum_14 rfl ?_
  refine V_callV (As := []) (st := []) (a := 62) dX12_readsSum_15 kX12_here lX12_225 (by decide) rfl rfl (Nat.le_of_ble_eq_true rfl) ⟨Nat.le_of_ble_eq_true rfl, Nat.le_of_ble_eq_true rfl⟩ ⟨Nat.le_of_ble_eq_true rfl, Nat.le_of_ble_eq_true rfl⟩ rfl ⟨rfl, by decide⟩ (w_hereW hW hx) ?_
  rintro _ _ _ _ ⟨rfl, rfl, rfl, rfl⟩
  refine V_callS (As := [.int (nxI (sgn tx n q))]) (st := []) dX12_readsSum_18 kX12_sumSign lX12_272 (by decide) rfl rfl (Nat.le_of_ble_eq_true rfl) ⟨Nat.le_of_ble_eq_true rfl, Nat.le_of_ble_eq_true rfl⟩ (w_sumSign (sg_le hx q)) ?_
  rintro _ _ _ _ ⟨rfl, rfl, rfl, rfl⟩
  refine V_eqI (y := (-1)) (if_neg hs) ?_
  refine V_istore_n (ls' := [(2, .int (-1)), (0, .ref 62), (1, .int (nI r0.length))]) dX12_readsSum_21 (by decide) rfl ?_
  refine V_iload_n dX12_readsSum_22 rfl ?_
  refine V_iconst (v := (-1)) dX12_readsSum_23 rfl ?_
  refine V_icmp_eq (tgt := 83) dX12_readsSum_24 rfl (fun _ => ?_) (fun h => absurd h (by decide))
  by_cases hc : sgn tx n q = 93
  · skip
    refine V_aload_n dX12_readsSum_83 rfl ?_
    refine V_callV (As := []) (st := []) (a := 62) dX12_readsSum_84 kX12_here lX12_225 (by decide) rfl rfl (Nat.le_of_ble_eq_true rfl) ⟨Nat.le_of_ble_eq_true rfl, Nat.le_of_ble_eq_true rfl⟩ ⟨Nat.le_of_ble_eq_true rfl, Nat.le_of_ble_eq_true rfl⟩ rfl ⟨rfl, by decide⟩ (w_hereW hW hx) ?_
    rintro _ _ _ _ ⟨rfl, rfl, rfl, rfl⟩
    refine V_bipush (v := nI 93) dX12_readsSum_87 rfl ?_
    refine V_icmp_neX (tgt := 138) dX12_readsSum_89 rfl (sg_le hx _) (by decide) (fun h => absurd hc h) (fun _ => ?_)
    refine V_aload_n dX12_readsSum_92 rfl ?_
    refine V_iload_n dX12_readsSum_93 rfl ?_
    refine V_callV (As := [.int (nI r0.length)]) (st := []) (a := 62) dX12_readsSum_94 kX12_hasOpenSum lX12_279 (by decide) rfl rfl (Nat.le_of_ble_eq_true rfl) ⟨Nat.le_of_ble_eq_true rfl, Nat.le_of_ble_eq_true rfl⟩ ⟨Nat.le_of_ble_eq_true rfl, Nat.le_of_ble_eq_true rfl⟩ rfl ⟨rfl, by decide⟩ (w_hasO hW) ?_
    rintro _ _ _ _ ⟨rfl, rfl, rfl, rfl⟩
    rw [h14]
    refine V_eqI (y := nI 0) (congrArg nI (if_neg (by decide))) ?_
    refine V_if_eq (tgt := 138) dX12_readsSum_97 rfl (fun _ => ?_) (fun h => absurd h (by decide))
    refine V_aload_n dX12_readsSum_138 rfl ?_
    refine V_iload_n dX12_readsSum_139 rfl ?_
    refine V_callV (As := [.int (nI r0.length)]) (st := []) (a := 62) dX12_readsSum_140 kX12_hasOpenSum lX12_279 (by decide) rfl rfl (Nat.le_of_ble_eq_true rfl) ⟨Nat.le_of_ble_eq_true rfl, Nat.le_of_ble_eq_true rfl⟩ ⟨Nat.le_of_ble_eq_true rfl, Nat.le_of_ble_eq_true rfl⟩ rfl ⟨rfl, by decide⟩ (w_hasO hW) ?_
    rintro _ _ _ _ ⟨rfl, rfl, rfl, rfl⟩
    rw [h14]
    refine V_eqI (y := nI 0) (congrArg nI (if_neg (by decide))) ?_
    refine V_if_eq (tgt := 156) dX12_readsSum_143 rfl (fun _ => ?_) (fun h => absurd h (by decide))
    refine V_aload_n dX12_readsSum_156 rfl ?_
    refine V_iconst (v := nI 1) dX12_readsSum_157 rfl ?_
    refine V_callV (As := [.int (nI 1)]) (st := []) (a := 62) dX12_readsSum_158 kX12_closesSums lX12_275 (by decide) rfl rfl (Nat.le_of_ble_eq_true rfl) ⟨Nat.le_of_ble_eq_true rfl, Nat.le_of_ble_eq_true rfl⟩ ⟨Nat.le_of_ble_eq_true rfl, Nat.le_of_ble_eq_true rfl⟩ rfl ⟨rfl, by decide⟩ (w_closes hW (b := 1) (by decide)) ?_
    rintro r sh' I3 _ ⟨rfl, rfl, hW3, rfl⟩
    rw [hcl] at hW3
    dsimp only at hW3
    have hW3s := hW3.sq
    have hW3c := hW3.cq
    refine V_iconst (v := nI 1) dX12_readsSum_161 rfl ?_
    exact V_iret ⟨Or.inr ⟨rfl, Or.inr rfl⟩, dX12_readsSum_162⟩ ⟨Nat.le_of_ble_eq_true rfl, Nat.le_of_ble_eq_true rfl⟩ (hf _ hW3)
  · skip
    refine V_aload_n dX12_readsSum_83 rfl ?_
    refine V_callV (As := []) (st := []) (a := 62) dX12_readsSum_84 kX12_here lX12_225 (by decide) rfl rfl (Nat.le_of_ble_eq_true rfl) ⟨Nat.le_of_ble_eq_true rfl, Nat.le_of_ble_eq_true rfl⟩ ⟨Nat.le_of_ble_eq_true rfl, Nat.le_of_ble_eq_true rfl⟩ rfl ⟨rfl, by decide⟩ (w_hereW hW hx) ?_
    rintro _ _ _ _ ⟨rfl, rfl, rfl, rfl⟩
    refine V_bipush (v := nI 93) dX12_readsSum_87 rfl ?_
    refine V_icmp_neX (tgt := 138) dX12_readsSum_89 rfl (sg_le hx _) (by decide) (fun _ => ?_) (fun h => absurd h hc)
    refine V_aload_n dX12_readsSum_138 rfl ?_
    refine V_iload_n dX12_readsSum_139 rfl ?_
    refine V_callV (As := [.int (nI r0.length)]) (st := []) (a := 62) dX12_readsSum_140 kX12_hasOpenSum lX12_279 (by decide) rfl rfl (Nat.le_of_ble_eq_true rfl) ⟨Nat.le_of_ble_eq_true rfl, Nat.le_of_ble_eq_true rfl⟩ ⟨Nat.le_of_ble_eq_true rfl, Nat.le_of_ble_eq_true rfl⟩ rfl ⟨rfl, by decide⟩ (w_hasO hW) ?_
    rintro _ _ _ _ ⟨rfl, rfl, rfl, rfl⟩
    rw [h14]
    refine V_eqI (y := nI 0) (congrArg nI (if_neg (by decide))) ?_
    refine V_if_eq (tgt := 156) dX12_readsSum_143 rfl (fun _ => ?_) (fun h => absurd h (by decide))
    refine V_aload_n dX12_readsSum_156 rfl ?_
    refine V_iconst (v := nI 1) dX12_readsSum_157 rfl ?_
    refine V_callV (As := [.int (nI 1)]) (st := []) (a := 62) dX12_readsSum_158 kX12_closesSums lX12_275 (by decide) rfl rfl (Nat.le_of_ble_eq_true rfl) ⟨Nat.le_of_ble_eq_true rfl, Nat.le_of_ble_eq_true rfl⟩ ⟨Nat.le_of_ble_eq_true rfl, Nat.le_of_ble_eq_true rfl⟩ rfl ⟨rfl, by decide⟩ (w_closes hW (b := 1) (by decide)) ?_
    rintro r sh' I3 _ ⟨rfl, rfl, hW3, rfl⟩
    rw [hcl] at hW3
    dsimp only at hW3
    have hW3s := hW3.sq
    have hW3c := hW3.cq
    refine V_iconst (v := nI 1) dX12_readsSum_161 rfl ?_
    exact V_iret ⟨Or.inr ⟨rfl, Or.inr rfl⟩, dX12_readsSum_162⟩ ⟨Nat.le_of_ble_eq_true rfl, Nat.le_of_ble_eq_true rfl⟩ (hf _ hW3)

set_option maxRecDepth 100000 in
set_option maxHeartbeats 4000000 in
theorem sm_start {G : zG} {I0 I : zI} {J : zJ} {Q : zQ} {n q e : Nat} {r0 cs : List (Nat × Nat)} {tx : Nat → Nat} (hx : txW I0 tx n) (h : Wd I0 I n q 0 r0 cs) (he : opn r0 + e = 6) (hfo : facO G J Q n I0 r0 (fcR tx n e q) [] cs) : V G mX12_readsSum 4 Q 0 [(0, .ref 62)] [] (0, 0) zsh I J := by
  have hsq := h.sq
  have hqn := h.qn
  have hn := h.n240
  refine V_aload_n dX12_readsSum_0 rfl ?_
  refine V_getI dX12_readsSum_1 fX12_250 ⟨Nat.le_of_ble_eq_true rfl, Nat.le_of_ble_eq_true rfl⟩ rfl rfl ?_
  refine V_eqI (y := nI r0.length) h.hw ?_
  refine V_istore_n (ls' := [(1, .int (nI r0.length)), (0, .ref 62)]) dX12_readsSum_4 (by decide) rfl ?_
  refine V_aload_n dX12_readsSum_5 rfl ?_
  refine V_callV (As := []) (st := []) (a := 62) dX12_readsSum_6 kX12_readsFactor lX12_269 (by decide) rfl rfl (Nat.le_of_ble_eq_true rfl) ⟨Nat.le_of_ble_eq_true rfl, Nat.le_of_ble_eq_true rfl⟩ ⟨Nat.le_of_ble_eq_true rfl, Nat.le_of_ble_eq_true rfl⟩ rfl ⟨rfl, by decide⟩ (w_factor h hx he) ?_
  rintro r sh' I4 _ ⟨rfl, hF1, hF2, rfl⟩
  by_cases hr : (fcR tx n e q).1 = 0
  · skip
    obtain ⟨rfl, hWn⟩ := hF1 hr
    refine V_if_ne (tgt := 14) dX12_readsSum_9 rfl (fun _ => ?_) (fun h => absurd h (by decide))
    refine V_sub2 (ls' := [(0, .ref 62), (1, .int (nI r0.length))]) (List.forall_mem_cons.mpr ⟨rfl, List.forall_mem_cons.mpr ⟨rfl, fun _ h => absurd h List.not_mem_nil⟩⟩) ?_
    refine hfo.2 hr _ ?_
    rw [brk_app]
    exact hWn
  · skip
    obtain ⟨rfl, hWn⟩ := hF2 hr
    refine V_if_ne (tgt := 14) dX12_readsSum_9 rfl (fun h => absurd h (by decide)) (fun _ => ?_)
    refine V_iconst (v := nI 0) dX12_readsSum_12 rfl ?_
    exact V_iret ⟨Or.inr ⟨rfl, Or.inl rfl⟩, dX12_readsSum_13⟩ ⟨Nat.le_of_ble_eq_true rfl, Nat.le_of_ble_eq_true rfl⟩ (hfo.1 hr _ hWn)

/-- a factor as both read it -/
theorem fcR_pF {tx : Nat → Nat} {n e p : Nat} {br : Nat → Nat × Nat × List (Nat × Nat)} (h : ¬ sgn tx n p = 91) (h0 : (pFac tx n br p).1 = 0) : fcR tx n e p = (0, (pFac tx n br p).2.1, 0, (pFac tx n br p).2.2) := by
  unfold pFac at h0 ⊢
  rw [if_neg h] at h0 ⊢
  by_cases hd : 48 ≤ sgn tx n p ∧ sgn tx n p ≤ 57
  · rw [if_pos hd] at h0 ⊢
    rw [fcR_d h hd]
    unfold pNum at h0 ⊢
    unfold nmR
    split
    · rename_i c; rw [if_pos c] at h0; exact absurd h0 (Nat.succ_ne_zero _)
    · rfl
  · rw [if_neg hd] at h0 ⊢
    by_cases hl : ltP (sgn tx n p) < 9
    · rw [if_pos hl, fcR_l h hd hl]
    · rw [if_neg hl] at h0; exact absurd h0 (Nat.succ_ne_zero _)
theorem fcR_pN {tx : Nat → Nat} {n e p : Nat} {br : Nat → Nat × Nat × List (Nat × Nat)} (h : ¬ sgn tx n p = 91) (h0 : (pFac tx n br p).1 ≠ 0) : (fcR tx n e p).1 = (pFac tx n br p).1 ∧ (fcR tx n e p).2.1 = (pFac tx n br p).2.1 := by
  unfold pFac at h0 ⊢
  rw [if_neg h] at h0 ⊢
  by_cases hd : 48 ≤ sgn tx n p ∧ sgn tx n p ≤ 57
  · rw [if_pos hd] at h0 ⊢
    rw [fcR_d h hd]
    unfold pNum at h0 ⊢
    unfold nmR
    split
    · exact ⟨rfl, rfl⟩
    · rename_i c; rw [if_neg c] at h0; exact absurd rfl h0
  · rw [if_neg hd] at h0 ⊢
    by_cases hl : ltP (sgn tx n p) < 9
    · rw [if_pos hl] at h0; exact absurd rfl h0
    · rw [if_neg hl, fcR_n h hd hl]; exact ⟨rfl, rfl⟩
theorem pFac_o {tx : Nat → Nat} {n p : Nat} {br : Nat → Nat × Nat × List (Nat × Nat)} (h : sgn tx n p = 91) : pFac tx n br p = br p := if_pos h
/-- what goes on where a sum ends -/
def smC (G : zG) (J : zJ) (Q : zQ) (n : Nat) (I0 : zI) (r0 : List (Nat × Nat)) (tx : Nat → Nat) (r : Nat × Nat × List (Nat × Nat)) (l C : List (Nat × Nat)) : Prop := (r.1 ≠ 0 → smFl J Q I0 r.1 r.2.1) ∧ (r.1 = 0 → ∀ a m acc, asg a → msg m → r.2.2 = acc ++ sgL m ++ sgL a → ¬ sgs (sgn tx n r.2.1) → smH G J Q n I0 r0 r.2.1 (sgk a m ++ l) (C ++ acc))
section
variable {G : zG} {I0 : zI} {J : zJ} {Q : zQ} {n : Nat} {r0 : List (Nat × Nat)} {tx : Nat → Nat}
theorem smH_e {q q2 : Nat} {l l2 cs cs2 : List (Nat × Nat)} (h : smH G J Q n I0 r0 q l cs) (h1 : q = q2) (h2 : l = l2) (h3 : cs = cs2) : smH G J Q n I0 r0 q2 l2 cs2 := by subst h1 h2 h3; exact h
theorem facO_e {f : Nat × Nat × Nat × List (Nat × Nat)} {l l2 cs cs2 : List (Nat × Nat)} (h : facO G J Q n I0 r0 f l cs) (h2 : l = l2) (h3 : cs = cs2) : facO G J Q n I0 r0 f l2 cs2 := by subst h2 h3; exact h
/-- behind a factor that was read -/
theorem sm_after (hx : txW I0 tx n) {e k p a m qf fc q : Nat} {br : Nat → Nat × Nat × List (Nat × Nat)} {acc gf C l g : List (Nat × Nat)} (ih : ∀ p a m acc C l, p ≤ n → n < p + k → asg a → msg m → noSg (l ++ r0) → opn (l ++ r0) + e = 6 → smC G J Q n I0 r0 tx (pSumL tx n br k p a m acc) l C → facO G J Q n I0 r0 (fcR tx n e p) (sgk a m ++ l) (C ++ acc)) (hn : n ≤ 240) (hpk : n < p + (k + 1)) (hpq : p ≤ qf) (ha : asg a) (hm : msg m) (hl : noSg (l ++ r0)) (he : opn (l ++ r0) + e = 6) (hr : pFac tx n br p = (0, qf, gf)) (hs : pSumL tx n br (k + 1) p a m acc = (fc, q, g)) (hC : smC G J Q n I0 r0 tx (fc, q, g) l C) : smH G J Q n I0 r0 qf (sgk a m ++ l) (C ++ acc ++ gf) := by
  unfold pSumL at hs
  rw [hr] at hs
  rw [if_neg (fun h => h rfl)] at hs
  by_cases c1 : sgn tx n qf = 42 ∨ sgn tx n qf = 47 ∨ sgn tx n qf = 37
  · rw [if_pos c1] at hs
    have hqn : qf < n := sgn_ltn (tx := tx) (by omega)
    have hcz : ¬ sgn tx n qf = 0 := by omega
    refine sm_sign0 hx c1 (l2 := sgk a 0 ++ l) (cs2 := C ++ acc ++ gf ++ sgL m) (e := e) ?_ ?_ ?_
    · rw [List.append_assoc (sgk a m), clsS_0 ha hm hl, List.append_assoc (sgk a 0)]
    · rw [List.append_assoc, opn_k ha (Or.inl rfl)]; exact he
    · refine facO_e (ih (qf + 1) a (sgn tx n qf) (acc ++ gf ++ sgL m) C l hqn (by omega) ha (Or.inr c1) hl he ?_) ?_ ?_
      · show smC G J Q n I0 r0 tx (pSumL tx n br k (qf + 1) a (sgn tx n qf) (acc ++ gf ++ sgL m)) l C
        rw [hs]
        exact hC
      · rw [sgk_m hcz]; rfl
      · simp only [List.append_assoc]
  · rw [if_neg c1] at hs
    by_cases c2 : sgn tx n qf = 43 ∨ sgn tx n qf = 45
    · rw [if_pos c2] at hs
      have hqn : qf < n := sgn_ltn (tx := tx) (by omega)
      have hcz : ¬ sgn tx n qf = 0 := by omega
      refine sm_sign1 hx c2 (l2 := l) (cs2 := C ++ acc ++ gf ++ sgL m ++ sgL a) (e := e) ?_ he ?_
      · rw [List.append_assoc, clsS_1 ha hm hl]
      · refine facO_e (ih (qf + 1) (sgn tx n qf) 0 (acc ++ gf ++ sgL m ++ sgL a) C l hqn (by omega) (Or.inr c2) (Or.inl rfl) hl he ?_) ?_ ?_
        · show smC G J Q n I0 r0 tx (pSumL tx n br k (qf + 1) (sgn tx n qf) 0 (acc ++ gf ++ sgL m ++ sgL a)) l C
          rw [hs]
          exact hC
        · rw [sgk_a hcz]; rfl
        · simp only [List.append_assoc]
    · rw [if_neg c2] at hs
      have e1 : (0, qf, acc ++ gf ++ sgL m ++ sgL a) = (fc, q, g) := hs
      injection e1 with e1 e2
      injection e2 with e2 e3
      subst e1 e2 e3
      exact smH_e (hC.2 rfl a m (acc ++ gf) ha hm rfl (show ¬ sgs (sgn tx n qf) by unfold sgs; omega)) rfl rfl (by simp only [List.append_assoc])
theorem pFac_ge {br : Nat → Nat × Nat × List (Nat × Nat)} {p qf : Nat} {gf : List (Nat × Nat)} (h : ¬ sgn tx n p = 91) (hr : pFac tx n br p = (0, qf, gf)) : p ≤ qf := by
  have e1 := fcR_pF (e := 0) h (by rw [hr])
  unfold pFac at hr
  rw [if_neg h] at hr
  by_cases hd : 48 ≤ sgn tx n p ∧ sgn tx n p ≤ 57
  · rw [if_pos hd] at hr
    have h5 := numR_le (tx := tx) (n := n) 5 p 0
    unfold pNum at hr
    split at hr <;> (injection hr with _ hr; injection hr with hr _; omega)
  · rw [if_neg hd] at hr
    split at hr <;> (injection hr with _ hr; injection hr with hr _; omega)
theorem pBr_n {sum : Nat → Nat × Nat × List (Nat × Nat)} {p fc q : Nat} {g : List (Nat × Nat)} (hr : sum (p + 1) = (fc, q, g)) (h0 : fc ≠ 0) : pBr tx n sum p = (fc, q, []) := by
  unfold pBr
  rw [hr]
  exact if_pos h0
theorem pBr_y {sum : Nat → Nat × Nat × List (Nat × Nat)} {p q : Nat} {g : List (Nat × Nat)} (hr : sum (p + 1) = (0, q, g)) (h0 : sgn tx n q = 93) : pBr tx n sum p = (0, q + 1, g) := by
  unfold pBr
  rw [hr]
  exact (if_neg (fun h => h rfl)).trans (if_pos h0)
theorem pBr_w {sum : Nat → Nat × Nat × List (Nat × Nat)} {p q : Nat} {g : List (Nat × Nat)} (hr : sum (p + 1) = (0, q, g)) (h0 : ¬ sgn tx n q = 93) : pBr tx n sum p = (1, q, []) := by
  unfold pBr
  rw [hr]
  exact (if_neg (fun h => h rfl)).trans (if_neg h0)
theorem pSumL_f {br : Nat → Nat × Nat × List (Nat × Nat)} {k p a m fc q : Nat} {acc g : List (Nat × Nat)} (hr : pFac tx n br p = (fc, q, g)) (h0 : fc ≠ 0) : pSumL tx n br (k + 1) p a m acc = (fc, q, []) := by
  unfold pSumL
  rw [hr]
  exact if_pos h0
theorem pSumL_ge {br : Nat → Nat × Nat × List (Nat × Nat)} (hb : ∀ p, (br p).1 = 0 → p + 1 + (br p).2.2.length ≤ (br p).2.1) {k p fc q : Nat} {g : List (Nat × Nat)} (h : pSumL tx n br k p 0 0 [] = (fc, q, g)) (h0 : fc = 0) : p + g.length ≤ q := by
  have := pSumL_len (tx := tx) (n := n) hb p k p 0 0 [] (Nat.le_refl _) (by rw [h]; exact h0)
  rw [h] at this
  exact this
theorem sm_all (hx : txW I0 tx n) (hn : n ≤ 240) : ∀ e k p a m acc C l, p ≤ n → n < p + k → asg a → msg m → noSg (l ++ r0) → opn (l ++ r0) + e = 6 → smC G J Q n I0 r0 tx (pSumL tx n (pBrE tx n e) k p a m acc) l C → facO G J Q n I0 r0 (fcR tx n e p) (sgk a m ++ l) (C ++ acc) := by
  intro e
  induction e with
  | zero =>
    intro k
    induction k with
    | zero => intros; omega
    | succ k ih =>
      intro p a m acc C l hp hpk ha hm hl he hC
      by_cases ho : sgn tx n p = 91
      · rw [fcR_o0 ho]
        rw [pSumL_f ((pFac_o ho).trans (show pBrE tx n 0 p = (5, p, []) from rfl)) (by decide)] at hC
        exact ⟨fun _ => hC.1 (Nat.succ_ne_zero _), fun h => absurd h (Nat.succ_ne_zero _)⟩
      · by_cases h0 : (pFac tx n (pBrE tx n 0) p).1 = 0
        · obtain ⟨fc, q, g, hr⟩ := ex3 (pFac tx n (pBrE tx n 0) p)
          have e1 := fcR_pF (e := 0) ho h0
          rw [hr] at e1 h0
          have h0' : fc = 0 := h0
          subst h0'
          rw [e1]
          refine ⟨fun h => absurd rfl h, fun _ => ?_⟩
          obtain ⟨fc2, q2, g2, hr2⟩ := ex3 (pSumL tx n (pBrE tx n 0) (k + 1) p a m acc)
          rw [hr2] at hC
          exact sm_after hx ih hn hpk (pFac_ge ho hr) ha hm hl he hr hr2 hC
        · obtain ⟨e1, e2⟩ := fcR_pN (e := 0) ho h0
          obtain ⟨fc, q, g, hr⟩ := ex3 (pFac tx n (pBrE tx n 0) p)
          rw [hr] at e1 e2 h0
          rw [pSumL_f hr h0] at hC
          exact ⟨fun _ => by rw [e1, e2]; exact hC.1 h0, fun h => absurd (e1.symm.trans h) h0⟩
  | succ e ihe =>
    intro k
    induction k with
    | zero => intros; omega
    | succ k ih =>
      intro p a m acc C l hp hpk ha hm hl he hC
      by_cases ho : sgn tx n p = 91
      · have hpn : p < n := sgn_ltn (tx := tx) (by omega)
        obtain ⟨fc, q, g, hr⟩ := ex3 (pSum tx n e (p + 1))
        have hr1 : pSumL tx n (pBrE tx n e) 240 (p + 1) 0 0 [] = (fc, q, g) := (pSum_E e (p + 1)).symm.trans hr
        have hln := pSum_len (tx := tx) (n := n) e (p + 1)
        rw [hr] at hln
        have key : facO G J Q n I0 r0 (fcR tx n e (p + 1)) (sgk 0 0 ++ ((14, 0) :: (sgk a m ++ l))) ((C ++ acc) ++ []) := by
          refine ihe 240 (p + 1) 0 0 [] (C ++ acc) ((14, 0) :: (sgk a m ++ l)) hpn (by omega) (Or.inl rfl) (Or.inl rfl) (noSg_14 (x := (14, 0)) (r := sgk a m ++ l ++ r0) rfl) ?_ ?_
          · show opn ((14, 0) :: ((sgk a m ++ l) ++ r0)) + e = 6
            rw [opn_y (x := (14, 0)) (by decide), List.append_assoc, opn_k ha hm]
            omega
          · rw [hr1]
            refine ⟨fun h0 => ?_, fun h0 => ?_⟩
            · have h1 := pFac_o (br := pBrE tx n (e + 1)) ho
              rw [pBrE_s, pBr_n hr h0] at h1
              rw [pSumL_f h1 h0] at hC
              exact hC.1 h0
            · have h0' : fc = 0 := h0
              subst h0'
              have hge : p + 1 + g.length ≤ q := hln rfl
              intro a' m' acc' ha' hm' hg hns
              have hg' : g = acc' ++ sgL m' ++ sgL a' := hg
              have hy14 : any14 (sgk a' m' ++ ((14, 0) :: (sgk a m ++ l))) = true := by rw [any14_k ha' hm', any14_y rfl]
              by_cases hc : sgn tx n q = 93
              · have h1 := pFac_o (br := pBrE tx n (e + 1)) ho
                rw [pBrE_s, pBr_y hr hc] at h1
                obtain ⟨fc2, q2, g2, hr2⟩ := ex3 (pSumL tx n (pBrE tx n (e + 1)) (k + 1) p a m acc)
                rw [hr2] at hC
                refine sm_brk hx hc hy14 (l2 := sgk a m ++ l) (cs2 := C ++ acc ++ g) ?_ (sm_after hx ih hn hpk (by omega) ha hm hl he h1 hr2 hC)
                rw [List.append_assoc]
                refine (clsS_1 ha' hm' (noSg_14 (x := (14, 0)) (r := sgk a m ++ l ++ r0) rfl)).trans ?_
                rw [hg']
                simp only [List.append_assoc]
              · have h1 := pFac_o (br := pBrE tx n (e + 1)) ho
                rw [pBrE_s, pBr_w hr hc] at h1
                rw [pSumL_f h1 (by decide)] at hC
                exact sm_wrong hx hns hc hy14 (hC.1 (Nat.succ_ne_zero _))
        rw [fcR_o ho]
        refine ⟨fun h => key.1 h, fun h => smH_e (key.2 h) rfl ?_ ?_⟩
        · show brk _ ((14, 0) :: (sgk a m ++ l)) = _
          exact brk_s
        · rw [List.append_nil]
      · by_cases h0 : (pFac tx n (pBrE tx n (e + 1)) p).1 = 0
        · obtain ⟨fc, q, g, hr⟩ := ex3 (pFac tx n (pBrE tx n (e + 1)) p)
          have e1 := fcR_pF (e := e + 1) ho h0
          rw [hr] at e1 h0
          have h0' : fc = 0 := h0
          subst h0'
          rw [e1]
          refine ⟨fun h => absurd rfl h, fun _ => ?_⟩
          obtain ⟨fc2, q2, g2, hr2⟩ := ex3 (pSumL tx n (pBrE tx n (e + 1)) (k + 1) p a m acc)
          rw [hr2] at hC
          exact sm_after hx ih hn hpk (pFac_ge ho hr) ha hm hl he hr hr2 hC
        · obtain ⟨e1, e2⟩ := fcR_pN (e := e + 1) ho h0
          obtain ⟨fc, q, g, hr⟩ := ex3 (pFac tx n (pBrE tx n (e + 1)) p)
          rw [hr] at e1 e2 h0
          rw [pSumL_f hr h0] at hC
          exact ⟨fun _ => by rw [e1, e2]; exact hC.1 h0, fun h => absurd (e1.symm.trans h) h0⟩
end
/-- what readsSum comes to -/
def smQ (I0 : zI) (J : zJ) (n : Nat) (st cs : List (Nat × Nat)) (r : Nat × Nat × List (Nat × Nat)) : zQ := zP (fun w I' J' => (r.1 = 0 → w = some (.int (nI 1)) ∧ Wd I0 I' n r.2.1 0 st (cs ++ r.2.2)) ∧ (r.1 ≠ 0 → w = some (.int (nI 0)) ∧ Fq I0 I' r.1 r.2.1) ∧ J = J')
theorem w_readsSum {G : zG} {I0 I : zI} {J : zJ} {n q e : Nat} {r0 cs : List (Nat × Nat)} {tx : Nat → Nat} (hx : txW I0 tx n) (h : Wd I0 I n q 0 r0 cs) (he : opn r0 + e = 6) (hno : noSg r0) (hq1 : 1 ≤ q) : zK G mX12_readsSum 4 [.ref 62] zsh I J (smQ I0 J n r0 cs (pSum tx n e q)) := by
  refine zK_of kX12_readsSum.2.2.2.2.1 (Nat.le_of_ble_eq_true rfl) ?_
  have hqn := h.qn
  have hn := h.n240
  obtain ⟨fc, q2, g, hr⟩ := ex3 (pSum tx n e q)
  rw [hr]
  have hr1 : pSumL tx n (pBrE tx n e) 240 q 0 0 [] = (fc, q2, g) := (pSum_E e q).symm.trans hr
  refine sm_start hx h he ?_
  have key := sm_all (G := G) (J := J) (Q := smQ I0 J n r0 cs (fc, q2, g)) (r0 := r0) hx hn e 240 q 0 0 [] cs [] hqn (by omega) (Or.inl rfl) (Or.inl rfl) hno he (by
    rw [hr1]
    refine ⟨fun h0 I2 hF => ⟨rfl, fun e => absurd e h0, fun _ => ⟨rfl, hF⟩, rfl⟩, fun h0 a m acc ha hm hg hns => ?_⟩
    have h0' : fc = 0 := h0
    subst h0'
    have hg' : g = acc ++ sgL m ++ sgL a := hg
    refine sm_end hx hns (by rw [any14_k ha hm]; rfl) (cs2 := cs ++ g) ?_ (fun I2 hW => ⟨rfl, fun _ => ⟨rfl, hW⟩, fun e => absurd rfl e, rfl⟩)
    rw [List.append_assoc, List.nil_append, clsS_1 ha hm hno, hg']
    simp only [List.append_assoc])
  exact facO_e key rfl (List.append_nil _)
