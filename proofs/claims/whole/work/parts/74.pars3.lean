/-! THE MODEL: its reader: what waits comes down; factors -/
abbrev clG2 (b : Nat) (x : Nat × Nat) : Prop := 4 ≤ x.1 ∧ x.1 ≤ 6 ∨ b = 1 ∧ (x.1 = 2 ∨ x.1 = 3)
/-- signs that wait are said -/
def clsS (b : Nat) : List (Nat × Nat) → List (Nat × Nat) → List (Nat × Nat) × List (Nat × Nat)
  | [], cs => ([], cs)
  | x :: r, cs => if clG2 b x then clsS b r (cs ++ [(2, sgO x.1)]) else (x :: r, cs)
theorem clsS_y {b : Nat} {x : Nat × Nat} {r cs : List (Nat × Nat)} (h : clG2 b x) : clsS b (x :: r) cs = clsS b r (cs ++ [(2, sgO x.1)]) := if_pos h
theorem clsS_n {b : Nat} {x : Nat × Nat} {r cs : List (Nat × Nat)} (h : ¬ clG2 b x) : clsS b (x :: r) cs = (x :: r, cs) := if_neg h
def endS : List (Nat × Nat) → List (Nat × Nat) → List (Nat × Nat) × List (Nat × Nat)
  | [], cs => ([], cs)
  | x :: r, cs => if x.1 = 10 then endS r (cs ++ [(2, 33)]) else (x :: r, cs)
theorem endS_y {x : Nat × Nat} {r cs : List (Nat × Nat)} (h : x.1 = 10) : endS (x :: r) cs = endS r (cs ++ [(2, 33)]) := if_pos h
theorem endS_n {x : Nat × Nat} {r cs : List (Nat × Nat)} (h : ¬ x.1 = 10) : endS (x :: r) cs = (x :: r, cs) := if_neg h
abbrev lnG (b : Nat) (x : Nat × Nat) : Prop := x.1 = 11 ∨ b = 1 ∧ x.1 = 12
def lndS (b : Nat) : List (Nat × Nat) → List (Nat × Nat) → List (Nat × Nat) × List (Nat × Nat)
  | [], cs => ([], cs)
  | x :: r, cs => if lnG b x then lndS b r (cs.set x.2 (x.1 - 8, cs.length)) else (x :: r, cs)
theorem lndS_y {b : Nat} {x : Nat × Nat} {r cs : List (Nat × Nat)} (h : lnG b x) : lndS b (x :: r) cs = lndS b r (cs.set x.2 (x.1 - 8, cs.length)) := if_pos h
theorem lndS_n {b : Nat} {x : Nat × Nat} {r cs : List (Nat × Nat)} (h : ¬ lnG b x) : lndS b (x :: r) cs = (x :: r, cs) := if_neg h
/-- what lands stands there as what jumps -/
def lndK (b : Nat) : List (Nat × Nat) → List (Nat × Nat) → Prop
  | [], _ => True
  | x :: r, cs => lnG b x → (∃ v, v < 1048576 ∧ cs[x.2]? = some (x.1 - 8, v)) ∧ lndK b r (cs.set x.2 (x.1 - 8, cs.length))
theorem note_14 {I : zI} {c x : Nat} {y : Int32} : noteI (zwr I 62 14 y) c x = zwr (noteI I c x) 62 14 y := by
  funext b j
  simp only [noteI, zwr_at]
  repeat' split
  all_goals first | rfl | (exfalso; omega)
set_option maxRecDepth 100000 in
set_option maxHeartbeats 4000000 in
theorem lp_closes {G : zG} {I0 : zI} {J : zJ} {Q : zQ} {n q : Nat} {b : Nat} (hb : b ≤ 1) : ∀ st cs z (I1 : zI), Wd I0 I1 n q z st cs → (∀ (I2 : zI) (z2 : Nat), z ≤ z2 → Wd I0 I2 n q z2 (clsS b st cs).1 (clsS b st cs).2 → Q none zsh I2 J) → V G mX12_closesSums 1 Q 0 [(0, .ref 62), (1, .int (nI b))] [] (0, 0) zsh I1 J := by
  intro st
  induction st with
  | nil =>
    intro cs z I1 hW hQ
    refine V_aload_n dX12_closesSums_0 rfl ?_
    refine V_callV (As := []) (st := []) (a := 62) dX12_closesSums_1 kX12_waitTop lX12_253 (by decide) rfl rfl (Nat.le_of_ble_eq_true rfl) ⟨Nat.le_of_ble_eq_true rfl, Nat.le_of_ble_eq_true rfl⟩ ⟨Nat.le_of_ble_eq_true rfl, Nat.le_of_ble_eq_true rfl⟩ rfl ⟨rfl, by decide⟩ (w_top0 hW) ?_
    rintro _ _ _ _ ⟨rfl, rfl, rfl, rfl⟩
    refine V_iconst (v := nI 4) dX12_closesSums_4 rfl ?_
    refine V_icmp_lt (tgt := 17) dX12_closesSums_5 rfl (fun _ => ?_) (fun h => absurd h (by decide))
    refine V_iload_n dX12_closesSums_17 rfl ?_
    refine V_if_eqN (tgt := 59) dX12_closesSums_18 rfl (by omega) (fun h18 => ?_) (fun h18 => ?_)
    · skip
      exact V_ret ⟨rfl, dX12_closesSums_59⟩ ⟨Nat.le_of_ble_eq_true rfl, Nat.le_of_ble_eq_true rfl⟩ (hQ I1 z (Nat.le_refl _) hW)
    · skip
      refine V_aload_n dX12_closesSums_21 rfl ?_
      refine V_callV (As := []) (st := []) (a := 62) dX12_closesSums_22 kX12_waitTop lX12_253 (by decide) rfl rfl (Nat.le_of_ble_eq_true rfl) ⟨Nat.le_of_ble_eq_true rfl, Nat.le_of_ble_eq_true rfl⟩ ⟨Nat.le_of_ble_eq_true rfl, Nat.le_of_ble_eq_true rfl⟩ rfl ⟨rfl, by decide⟩ (w_top0 hW) ?_
      rintro _ _ _ _ ⟨rfl, rfl, rfl, rfl⟩
      refine V_iconst (v := nI 2) dX12_closesSums_25 rfl ?_
      refine V_icmp_eq (tgt := 37) dX12_closesSums_26 rfl (fun h => absurd h (by decide)) (fun _ => ?_)
      refine V_aload_n dX12_closesSums_29 rfl ?_
      refine V_callV (As := []) (st := []) (a := 62) dX12_closesSums_30 kX12_waitTop lX12_253 (by decide) rfl rfl (Nat.le_of_ble_eq_true rfl) ⟨Nat.le_of_ble_eq_true rfl, Nat.le_of_ble_eq_true rfl⟩ ⟨Nat.le_of_ble_eq_true rfl, Nat.le_of_ble_eq_true rfl⟩ rfl ⟨rfl, by decide⟩ (w_top0 hW) ?_
      rintro _ _ _ _ ⟨rfl, rfl, rfl, rfl⟩
      refine V_iconst (v := nI 3) dX12_closesSums_33 rfl ?_
      refine V_icmp_ne (tgt := 59) dX12_closesSums_34 rfl (fun _ => ?_) (fun h => absurd h (by decide))
      exact V_ret ⟨rfl, dX12_closesSums_59⟩ ⟨Nat.le_of_ble_eq_true rfl, Nat.le_of_ble_eq_true rfl⟩ (hQ I1 z (Nat.le_refl _) hW)
  | cons x r ih =>
    intro cs z I1 hW hQ
    have hk := hW.hk x List.mem_cons_self
    have hsq : r.length + 1 ≤ q := hW.sq
    have hqn := hW.qn
    have hn240 := hW.n240
    have hcq := hW.cq
    by_cases hg : clG2 b x
    · skip
      refine V_aload_n dX12_closesSums_0 rfl ?_
      refine V_callV (As := []) (st := []) (a := 62) dX12_closesSums_1 kX12_waitTop lX12_253 (by decide) rfl rfl (Nat.le_of_ble_eq_true rfl) ⟨Nat.le_of_ble_eq_true rfl, Nat.le_of_ble_eq_true rfl⟩ ⟨Nat.le_of_ble_eq_true rfl, Nat.le_of_ble_eq_true rfl⟩ rfl ⟨rfl, by decide⟩ (w_topX hW) ?_
      rintro _ _ _ _ ⟨rfl, rfl, rfl, rfl⟩
      refine V_iconst (v := nI 4) dX12_closesSums_4 rfl ?_
      refine V_icmp_ltN (tgt := 17) dX12_closesSums_5 rfl (by omega) (by omega) (fun h5 => ?_) (fun h5 => ?_)
      · skip
        refine V_iload_n dX12_closesSums_17 rfl ?_
        refine V_if_eqN (tgt := 59) dX12_closesSums_18 rfl (by omega) (fun h18 => ?_) (fun h18 => ?_)
        · skip
          exact V_ret ⟨rfl, dX12_closesSums_59⟩ ⟨Nat.le_of_ble_eq_true rfl, Nat.le_of_ble_eq_true rfl⟩ (by exfalso; omega)
        · skip
          refine V_aload_n dX12_closesSums_21 rfl ?_
          refine V_callV (As := []) (st := []) (a := 62) dX12_closesSums_22 kX12_waitTop lX12_253 (by decide) rfl rfl (Nat.le_of_ble_eq_true rfl) ⟨Nat.le_of_ble_eq_true rfl, Nat.le_of_ble_eq_true rfl⟩ ⟨Nat.le_of_ble_eq_true rfl, Nat.le_of_ble_eq_true rfl⟩ rfl ⟨rfl, by decide⟩ (w_topX hW) ?_
          rintro _ _ _ _ ⟨rfl, rfl, rfl, rfl⟩
          refine V_iconst (v := nI 2) dX12_closesSums_25 rfl ?_
          refine V_icmp_eqN (tgt := 37) dX12_closesSums_26 rfl (by omega) (by omega) (fun h26 => ?_) (fun h26 => ?_)
          · skip
            refine V_aload_n dX12_closesSums_37 rfl ?_
            refine V_aload_n dX12_closesSums_38 rfl ?_
            refine V_callV (As := []) (st := [.ref 62]) (a := 62) dX12_closesSums_39 kX12_waitTop lX12_253 (by decide) rfl rfl (Nat.le_of_ble_eq_true rfl) ⟨Nat.le_of_ble_eq_true rfl, Nat.le_of_ble_eq_true rfl⟩ ⟨Nat.le_of_ble_eq_true rfl, Nat.le_of_ble_eq_true rfl⟩ rfl ⟨rfl, by decide⟩ (w_topX hW) ?_
            rintro _ _ _ _ ⟨rfl, rfl, rfl, rfl⟩
            refine V_iconst (v := nI 0) dX12_closesSums_42 rfl ?_
            refine V_callV (As := [.int (nI x.1), .int (nI 0)]) (st := []) (a := 62) dX12_closesSums_43 kX12_notes lX12_256 (by decide) rfl rfl (Nat.le_of_ble_eq_true rfl) ⟨Nat.le_of_ble_eq_true rfl, Nat.le_of_ble_eq_true rfl⟩ ⟨Nat.le_of_ble_eq_true rfl, Nat.le_of_ble_eq_true rfl⟩ rfl ⟨rfl, by decide⟩ (w_notes hW.hc (by omega)) ?_
            rintro r sh' _ _ ⟨rfl, rfl, rfl, rfl⟩
            refine V_aload_n dX12_closesSums_46 rfl ?_
            refine V_aload_n dX12_closesSums_47 rfl ?_
            refine V_getI dX12_closesSums_48 fX12_250 ⟨Nat.le_of_ble_eq_true rfl, Nat.le_of_ble_eq_true rfl⟩ rfl rfl ?_
            refine V_eqI (y := noteI I1 cs.length (1048576 * x.1 + 0) 62 14) rfl ?_
            refine V_eqI (y := nI (r.length + 1)) hW.hw ?_
            refine V_iconst (v := nI 1) dX12_closesSums_51 rfl ?_
            refine V_isubN dX12_closesSums_52 (by omega) ?_
            refine V_putW dX12_closesSums_53 fX12_250 ⟨Nat.le_of_ble_eq_true rfl, Nat.le_of_ble_eq_true rfl⟩ rfl rfl rfl ⟨rfl, rfl⟩ ?_
            refine V_goto (tgt := 0) dX12_closesSums_56 rfl ?_
            refine V_sub2 (ls' := [(0, .ref 62), (1, .int (nI b))]) (List.forall_mem_cons.mpr ⟨rfl, List.forall_mem_cons.mpr ⟨rfl, fun _ h => absurd h List.not_mem_nil⟩⟩) ?_
            rw [clsS_y hg] at hQ
            have h2 := ((hW.pop (z' := z + 1) (by omega) (by rw [if_pos (by omega)])).note (encM_sg (k := x.1) (by omega) (by omega)))
            refine ih (cs ++ [(2, sgO x.1)]) z _ ?_ hQ
            rw [note_14] at h2
            exact h2
          · skip
            refine V_aload_n dX12_closesSums_29 rfl ?_
            refine V_callV (As := []) (st := []) (a := 62) dX12_closesSums_30 kX12_waitTop lX12_253 (by decide) rfl rfl (Nat.le_of_ble_eq_true rfl) ⟨Nat.le_of_ble_eq_true rfl, Nat.le_of_ble_eq_true rfl⟩ ⟨Nat.le_of_ble_eq_true rfl, Nat.le_of_ble_eq_true rfl⟩ rfl ⟨rfl, by decide⟩ (w_topX hW) ?_
            rintro _ _ _ _ ⟨rfl, rfl, rfl, rfl⟩
            refine V_iconst (v := nI 3) dX12_closesSums_33 rfl ?_
            refine V_icmp_neN (tgt := 59) dX12_closesSums_34 rfl (by omega) (by omega) (fun h34 => ?_) (fun h34 => ?_)
            · skip
              exact V_ret ⟨rfl, dX12_closesSums_59⟩ ⟨Nat.le_of_ble_eq_true rfl, Nat.le_of_ble_eq_true rfl⟩ (by exfalso; omega)
            · skip
              refine V_aload_n dX12_closesSums_37 rfl ?_
              refine V_aload_n dX12_closesSums_38 rfl ?_
              refine V_callV (As := []) (st := [.ref 62]) (a := 62) dX12_closesSums_39 kX12_waitTop lX12_253 (by decide) rfl rfl (Nat.le_of_ble_eq_true rfl) ⟨Nat.le_of_ble_eq_true rfl, Nat.le_of_ble_eq_true rfl⟩ ⟨Nat.le_of_ble_eq_true rfl, Nat.le_of_ble_eq_true rfl⟩ rfl ⟨rfl, by decide⟩ (w_topX hW) ?_
              rintro _ _ _ _ ⟨rfl, rfl, rfl, rfl⟩
              refine V_iconst (v := nI 0) dX12_closesSums_42 rfl ?_
              refine V_callV (As := [.int (nI x.1), .int (nI 0)]) (st := []) (a := 62) dX12_closesSums_43 kX12_notes lX12_256 (by decide) rfl rfl (Nat.le_of_ble_eq_true rfl) ⟨Nat.le_of_ble_eq_true rfl, Nat.le_of_ble_eq_true rfl⟩ ⟨Nat.le_of_ble_eq_true rfl, Nat.le_of_ble_eq_true rfl⟩ rfl ⟨rfl, by decide⟩ (w_notes hW.hc (by omega)) ?_
              rintro r sh' _ _ ⟨rfl, rfl, rfl, rfl⟩
              refine V_aload_n dX12_closesSums_46 rfl ?_
              refine V_aload_n dX12_closesSums_47 rfl ?_
              refine V_getI dX12_closesSums_48 fX12_250 ⟨Nat.le_of_ble_eq_true rfl, Nat.le_of_ble_eq_true rfl⟩ rfl rfl ?_
              refine V_eqI (y := noteI I1 cs.length (1048576 * x.1 + 0) 62 14) rfl ?_
              refine V_eqI (y := nI (r.length + 1)) hW.hw ?_
              refine V_iconst (v := nI 1) dX12_closesSums_51 rfl ?_
              refine V_isubN dX12_closesSums_52 (by omega) ?_
              refine V_putW dX12_closesSums_53 fX12_250 ⟨Nat.le_of_ble_eq_true rfl, Nat.le_of_ble_eq_true rfl⟩ rfl rfl rfl ⟨rfl, rfl⟩ ?_
              refine V_goto (tgt := 0) dX12_closesSums_56 rfl ?_
              refine V_sub2 (ls' := [(0, .ref 62), (1, .int (nI b))]) (List.forall_mem_cons.mpr ⟨rfl, List.forall_mem_cons.mpr ⟨rfl, fun _ h => absurd h List.not_mem_nil⟩⟩) ?_
              rw [clsS_y hg] at hQ
              have h2 := ((hW.pop (z' := z + 1) (by omega) (by rw [if_pos (by omega)])).note (encM_sg (k := x.1) (by omega) (by omega)))
              refine ih (cs ++ [(2, sgO x.1)]) z _ ?_ hQ
              rw [note_14] at h2
              exact h2
      · skip
        refine V_aload_n dX12_closesSums_8 rfl ?_
        refine V_callV (As := []) (st := []) (a := 62) dX12_closesSums_9 kX12_waitTop lX12_253 (by decide) rfl rfl (Nat.le_of_ble_eq_true rfl) ⟨Nat.le_of_ble_eq_true rfl, Nat.le_of_ble_eq_true rfl⟩ ⟨Nat.le_of_ble_eq_true rfl, Nat.le_of_ble_eq_true rfl⟩ rfl ⟨rfl, by decide⟩ (w_topX hW) ?_
        rintro _ _ _ _ ⟨rfl, rfl, rfl, rfl⟩
        refine V_bipush (v := nI 6) dX12_closesSums_12 rfl ?_
        refine V_icmp_leN (tgt := 37) dX12_closesSums_14 rfl (by omega) (by omega) (fun h14 => ?_) (fun h14 => ?_)
        · skip
          refine V_aload_n dX12_closesSums_37 rfl ?_
          refine V_aload_n dX12_closesSums_38 rfl ?_
          refine V_callV (As := []) (st := [.ref 62]) (a := 62) dX12_closesSums_39 kX12_waitTop lX12_253 (by decide) rfl rfl (Nat.le_of_ble_eq_true rfl) ⟨Nat.le_of_ble_eq_true rfl, Nat.le_of_ble_eq_true rfl⟩ ⟨Nat.le_of_ble_eq_true rfl, Nat.le_of_ble_eq_true rfl⟩ rfl ⟨rfl, by decide⟩ (w_topX hW) ?_
          rintro _ _ _ _ ⟨rfl, rfl, rfl, rfl⟩
          refine V_iconst (v := nI 0) dX12_closesSums_42 rfl ?_
          refine V_callV (As := [.int (nI x.1), .int (nI 0)]) (st := []) (a := 62) dX12_closesSums_43 kX12_notes lX12_256 (by decide) rfl rfl (Nat.le_of_ble_eq_true rfl) ⟨Nat.le_of_ble_eq_true rfl, Nat.le_of_ble_eq_true rfl⟩ ⟨Nat.le_of_ble_eq_true rfl, Nat.le_of_ble_eq_true rfl⟩ rfl ⟨rfl, by decide⟩ (w_notes hW.hc (by omega)) ?_
          rintro r sh' _ _ ⟨rfl, rfl, rfl, rfl⟩
          refine V_aload_n dX12_closesSums_46 rfl ?_
          refine V_aload_n dX12_closesSums_47 rfl ?_
          refine V_getI dX12_closesSums_48 fX12_250 ⟨Nat.le_of_ble_eq_true rfl, Nat.le_of_ble_eq_true rfl⟩ rfl rfl ?_
          refine V_eqI (y := noteI I1 cs.length (1048576 * x.1 + 0) 62 14) rfl ?_
          refine V_eqI (y := nI (r.length + 1)) hW.hw ?_
          refine V_iconst (v := nI 1) dX12_closesSums_51 rfl ?_
          refine V_isubN dX12_closesSums_52 (by omega) ?_
          refine V_putW dX12_closesSums_53 fX12_250 ⟨Nat.le_of_ble_eq_true rfl, Nat.le_of_ble_eq_true rfl⟩ rfl rfl rfl ⟨rfl, rfl⟩ ?_
          refine V_goto (tgt := 0) dX12_closesSums_56 rfl ?_
          refine V_sub2 (ls' := [(0, .ref 62), (1, .int (nI b))]) (List.forall_mem_cons.mpr ⟨rfl, List.forall_mem_cons.mpr ⟨rfl, fun _ h => absurd h List.not_mem_nil⟩⟩) ?_
          rw [clsS_y hg] at hQ
          have h2 := ((hW.pop (z' := z + 1) (by omega) (by rw [if_pos (by omega)])).note (encM_sg (k := x.1) (by omega) (by omega)))
          refine ih (cs ++ [(2, sgO x.1)]) z _ ?_ hQ
          rw [note_14] at h2
          exact h2
        · skip
          refine V_iload_n dX12_closesSums_17 rfl ?_
          refine V_if_eqN (tgt := 59) dX12_closesSums_18 rfl (by omega) (fun h18 => ?_) (fun h18 => ?_)
          · skip
            exact V_ret ⟨rfl, dX12_closesSums_59⟩ ⟨Nat.le_of_ble_eq_true rfl, Nat.le_of_ble_eq_true rfl⟩ (by exfalso; omega)
          · skip
            refine V_aload_n dX12_closesSums_21 rfl ?_
            refine V_callV (As := []) (st := []) (a := 62) dX12_closesSums_22 kX12_waitTop lX12_253 (by decide) rfl rfl (Nat.le_of_ble_eq_true rfl) ⟨Nat.le_of_ble_eq_true rfl, Nat.le_of_ble_eq_true rfl⟩ ⟨Nat.le_of_ble_eq_true rfl, Nat.le_of_ble_eq_true rfl⟩ rfl ⟨rfl, by decide⟩ (w_topX hW) ?_
            rintro _ _ _ _ ⟨rfl, rfl, rfl, rfl⟩
            refine V_iconst (v := nI 2) dX12_closesSums_25 rfl ?_
            refine V_icmp_eqN (tgt := 37) dX12_closesSums_26 rfl (by omega) (by omega) (fun h26 => ?_) (fun h26 => ?_)
            · skip
              refine V_aload_n dX12_closesSums_37 rfl ?_
              refine V_aload_n dX12_closesSums_38 rfl ?_
              refine V_callV (As := []) (st := [.ref 62]) (a := 62) dX12_closesSums_39 kX12_waitTop lX12_253 (by decide) rfl rfl (Nat.le_of_ble_eq_true rfl) ⟨Nat.le_of_ble_eq_true rfl, Nat.le_of_ble_eq_true rfl⟩ ⟨Nat.le_of_ble_eq_true rfl, Nat.le_of_ble_eq_true rfl⟩ rfl ⟨rfl, by decide⟩ (w_topX hW) ?_
              rintro _ _ _ _ ⟨rfl, rfl, rfl, rfl⟩
              refine V_iconst (v := nI 0) dX12_closesSums_42 rfl ?_
              refine V_callV (As := [.int (nI x.1), .int (nI 0)]) (st := []) (a := 62) dX12_closesSums_43 kX12_notes lX12_256 (by decide) rfl rfl (Nat.le_of_ble_eq_true rfl) ⟨Nat.le_of_ble_eq_true rfl, Nat.le_of_ble_eq_true rfl⟩ ⟨Nat.le_of_ble_eq_true rfl, Nat.le_of_ble_eq_true rfl⟩ rfl ⟨rfl, by decide⟩ (w_notes hW.hc (by omega)) ?_
              rintro r sh' _ _ ⟨rfl, rfl, rfl, rfl⟩
              refine V_aload_n dX12_closesSums_46 rfl ?_
              refine V_aload_n dX12_closesSums_47 rfl ?_
              refine V_getI dX12_closesSums_48 fX12_250 ⟨Nat.le_of_ble_eq_true rfl, Nat.le_of_ble_eq_true rfl⟩ rfl rfl ?_
              refine V_eqI (y := noteI I1 cs.length (1048576 * x.1 + 0) 62 14) rfl ?_
              refine V_eqI (y := nI (r.length + 1)) hW.hw ?_
              refine V_iconst (v := nI 1) dX12_closesSums_51 rfl ?_
              refine V_isubN dX12_closesSums_52 (by omega) ?_
              refine V_putW dX12_closesSums_53 fX12_250 ⟨Nat.le_of_ble_eq_true rfl, Nat.le_of_ble_eq_true rfl⟩ rfl rfl rfl ⟨rfl, rfl⟩ ?_
              refine V_goto (tgt := 0) dX12_closesSums_56 rfl ?_
              refine V_sub2 (ls' := [(0, .ref 62), (1, .int (nI b))]) (List.forall_mem_cons.mpr ⟨rfl, List.forall_mem_cons.mpr ⟨rfl, fun _ h => absurd h List.not_mem_nil⟩⟩) ?_
              rw [clsS_y hg] at hQ
              have h2 := ((hW.pop (z' := z + 1) (by omega) (by rw [if_pos (by omega)])).note (encM_sg (k := x.1) (by omega) (by omega)))
              refine ih (cs ++ [(2, sgO x.1)]) z _ ?_ hQ
              rw [note_14] at h2
              exact h2
            · skip
              refine V_aload_n dX12_closesSums_29 rfl ?_
              refine V_callV (As := []) (st := []) (a := 62) dX12_closesSums_30 kX12_waitTop lX12_253 (by decide) rfl rfl (Nat.le_of_ble_eq_true rfl) ⟨Nat.le_of_ble_eq_true rfl, Nat.le_of_ble_eq_true rfl⟩ ⟨Nat.le_of_ble_eq_true rfl, Nat.le_of_ble_eq_true rfl⟩ rfl ⟨rfl, by decide⟩ (w_topX hW) ?_
              rintro _ _ _ _ ⟨rfl, rfl, rfl, rfl⟩
              refine V_iconst (v := nI 3) dX12_closesSums_33 rfl ?_
              refine V_icmp_neN (tgt := 59) dX12_closesSums_34 rfl (by omega) (by omega) (fun h34 => ?_) (fun h34 => ?_)
              · skip
                exact V_ret ⟨rfl, dX12_closesSums_59⟩ ⟨Nat.le_of_ble_eq_true rfl, Nat.le_of_ble_eq_true rfl⟩ (by exfalso; omega)
              · skip
                refine V_aload_n dX12_closesSums_37 rfl ?_
                refine V_aload_n dX12_closesSums_38 rfl ?_
                refine V_callV (As := []) (st := [.ref 62]) (a := 62) dX12_closesSums_39 kX12_waitTop lX12_253 (by decide) rfl rfl (Nat.le_of_ble_eq_true rfl) ⟨Nat.le_of_ble_eq_true rfl, Nat.le_of_ble_eq_true rfl⟩ ⟨Nat.le_of_ble_eq_true rfl, Nat.le_of_ble_eq_true rfl⟩ rfl ⟨rfl, by decide⟩ (w_topX hW) ?_
                rintro _ _ _ _ ⟨rfl, rfl, rfl, rfl⟩
                refine V_iconst (v := nI 0) dX12_closesSums_42 rfl ?_
                refine V_callV (As := [.int (nI x.1), .int (nI 0)]) (st := []) (a := 62) dX12_closesSums_43 kX12_notes lX12_256 (by decide) rfl rfl (Nat.le_of_ble_eq_true rfl) ⟨Nat.le_of_ble_eq_true rfl, Nat.le_of_ble_eq_true rfl⟩ ⟨Nat.le_of_ble_eq_true rfl, Nat.le_of_ble_eq_true rfl⟩ rfl ⟨rfl, by decide⟩ (w_notes hW.hc (by omega)) ?_
                rintro r sh' _ _ ⟨rfl, rfl, rfl, rfl⟩
                refine V_aload_n dX12_closesSums_46 rfl ?_
                refine V_aload_n dX12_closesSums_47 rfl ?_
                refine V_getI dX12_closesSums_48 fX12_250 ⟨Nat.le_of_ble_eq_true rfl, Nat.le_of_ble_eq_true rfl⟩ rfl rfl ?_
                refine V_eqI (y := noteI I1 cs.length (1048576 * x.1 + 0) 62 14) rfl ?_
                refine V_eqI (y := nI (r.length + 1)) hW.hw ?_
                refine V_iconst (v := nI 1) dX12_closesSums_51 rfl ?_
                refine V_isubN dX12_closesSums_52 (by omega) ?_
                refine V_putW dX12_closesSums_53 fX12_250 ⟨Nat.le_of_ble_eq_true rfl, Nat.le_of_ble_eq_true rfl⟩ rfl rfl rfl ⟨rfl, rfl⟩ ?_
                refine V_goto (tgt := 0) dX12_closesSums_56 rfl ?_
                refine V_sub2 (ls' := [(0, .ref 62), (1, .int (nI b))]) (List.forall_mem_cons.mpr ⟨rfl, List.forall_mem_cons.mpr ⟨rfl, fun _ h => absurd h List.not_mem_nil⟩⟩) ?_
                rw [clsS_y hg] at hQ
                have h2 := ((hW.pop (z' := z + 1) (by omega) (by rw [if_pos (by omega)])).note (encM_sg (k := x.1) (by omega) (by omega)))
                refine ih (cs ++ [(2, sgO x.1)]) z _ ?_ hQ
                rw [note_14] at h2
                exact h2
    · skip
      refine V_aload_n dX12_closesSums_0 rfl ?_
      refine V_callV (As := []) (st := []) (a := 62) dX12_closesSums_1 kX12_waitTop lX12_253 (by decide) rfl rfl (Nat.le_of_ble_eq_true rfl) ⟨Nat.le_of_ble_eq_true rfl, Nat.le_of_ble_eq_true rfl⟩ ⟨Nat.le_of_ble_eq_true rfl, Nat.le_of_ble_eq_true rfl⟩ rfl ⟨rfl, by decide⟩ (w_topX hW) ?_
      rintro _ _ _ _ ⟨rfl, rfl, rfl, rfl⟩
      refine V_iconst (v := nI 4) dX12_closesSums_4 rfl ?_
      refine V_icmp_ltN (tgt := 17) dX12_closesSums_5 rfl (by omega) (by omega) (fun h5 => ?_) (fun h5 => ?_)
      · skip
        refine V_iload_n dX12_closesSums_17 rfl ?_
        refine V_if_eqN (tgt := 59) dX12_closesSums_18 rfl (by omega) (fun h18 => ?_) (fun h18 => ?_)
        · skip
          exact V_ret ⟨rfl, dX12_closesSums_59⟩ ⟨Nat.le_of_ble_eq_true rfl, Nat.le_of_ble_eq_true rfl⟩ (by rw [clsS_n hg] at hQ; exact hQ I1 z (Nat.le_refl _) hW)
        · skip
          refine V_aload_n dX12_closesSums_21 rfl ?_
          refine V_callV (As := []) (st := []) (a := 62) dX12_closesSums_22 kX12_waitTop lX12_253 (by decide) rfl rfl (Nat.le_of_ble_eq_true rfl) ⟨Nat.le_of_ble_eq_true rfl, Nat.le_of_ble_eq_true rfl⟩ ⟨Nat.le_of_ble_eq_true rfl, Nat.le_of_ble_eq_true rfl⟩ rfl ⟨rfl, by decide⟩ (w_topX hW) ?_
          rintro _ _ _ _ ⟨rfl, rfl, rfl, rfl⟩
          refine V_iconst (v := nI 2) dX12_closesSums_25 rfl ?_
          refine V_icmp_eqN (tgt := 37) dX12_closesSums_26 rfl (by omega) (by omega) (fun h26 => ?_) (fun h26 => ?_)
          · skip
            exfalso; omega
          · skip
            refine V_aload_n dX12_closesSums_29 rfl ?_
            refine V_callV (As := []) (st := []) (a := 62) dX12_closesSums_30 kX12_waitTop lX12_253 (by decide) rfl rfl (Nat.le_of_ble_eq_true rfl) ⟨Nat.le_of_ble_eq_true rfl, Nat.le_of_ble_eq_true rfl⟩ ⟨Nat.le_of_ble_eq_true rfl, Nat.le_of_ble_eq_true rfl⟩ rfl ⟨rfl, by decide⟩ (w_topX hW) ?_
            rintro _ _ _ _ ⟨rfl, rfl, rfl, rfl⟩
            refine V_iconst (v := nI 3) dX12_closesSums_33 rfl ?_
            refine V_icmp_neN (tgt := 59) dX12_closesSums_34 rfl (by omega) (by omega) (fun h34 => ?_) (fun h34 => ?_)
            · skip
              exact V_ret ⟨rfl, dX12_closesSums_59⟩ ⟨Nat.le_of_ble_eq_true rfl, Nat.le_of_ble_eq_true rfl⟩ (by rw [clsS_n hg] at hQ; exact hQ I1 z (Nat.le_refl _) hW)
            · skip
              exfalso; omega
      · skip
        refine V_aload_n dX12_closesSums_8 rfl ?_
        refine V_callV (As := []) (st := []) (a := 62) dX12_closesSums_9 kX12_waitTop lX12_253 (by decide) rfl rfl (Nat.le_of_ble_eq_true rfl) ⟨Nat.le_of_ble_eq_true rfl, Nat.le_of_ble_eq_true rfl⟩ ⟨Nat.le_of_ble_eq_true rfl, Nat.le_of_ble_eq_true rfl⟩ rfl ⟨rfl, by decide⟩ (w_topX hW) ?_
        rintro _ _ _ _ ⟨rfl, rfl, rfl, rfl⟩
        refine V_bipush (v := nI 6) dX12_closesSums_12 rfl ?_
        refine V_icmp_leN (tgt := 37) dX12_closesSums_14 rfl (by omega) (by omega) (fun h14 => ?_) (fun h14 => ?_)
        · skip
          exfalso; omega
        · skip
          refine V_iload_n dX12_closesSums_17 rfl ?_
          refine V_if_eqN (tgt := 59) dX12_closesSums_18 rfl (by omega) (fun h18 => ?_) (fun h18 => ?_)
          · skip
            exact V_ret ⟨rfl, dX12_closesSums_59⟩ ⟨Nat.le_of_ble_eq_true rfl, Nat.le_of_ble_eq_true rfl⟩ (by rw [clsS_n hg] at hQ; exact hQ I1 z (Nat.le_refl _) hW)
          · skip
            refine V_aload_n dX12_closesSums_21 rfl ?_
            refine V_callV (As := []) (st := []) (a := 62) dX12_closesSums_22 kX12_waitTop lX12_253 (by decide) rfl rfl (Nat.le_of_ble_eq_true rfl) ⟨Nat.le_of_ble_eq_true rfl, Nat.le_of_ble_eq_true rfl⟩ ⟨Nat.le_of_ble_eq_true rfl, Nat.le_of_ble_eq_true rfl⟩ rfl ⟨rfl, by decide⟩ (w_topX hW) ?_
            rintro _ _ _ _ ⟨rfl, rfl, rfl, rfl⟩
            refine V_iconst (v := nI 2) dX12_closesSums_25 rfl ?_
            refine V_icmp_eqN (tgt := 37) dX12_closesSums_26 rfl (by omega) (by omega) (fun h26 => ?_) (fun h26 => ?_)
            · skip
              exfalso; omega
            · skip
              refine V_aload_n dX12_closesSums_29 rfl ?_
              refine V_callV (As := []) (st := []) (a := 62) dX12_closesSums_30 kX12_waitTop lX12_253 (by decide) rfl rfl (Nat.le_of_ble_eq_true rfl) ⟨Nat.le_of_ble_eq_true rfl, Nat.le_of_ble_eq_true rfl⟩ ⟨Nat.le_of_ble_eq_true rfl, Nat.le_of_ble_eq_true rfl⟩ rfl ⟨rfl, by decide⟩ (w_topX hW) ?_
              rintro _ _ _ _ ⟨rfl, rfl, rfl, rfl⟩
              refine V_iconst (v := nI 3) dX12_closesSums_33 rfl ?_
              refine V_icmp_neN (tgt := 59) dX12_closesSums_34 rfl (by omega) (by omega) (fun h34 => ?_) (fun h34 => ?_)
              · skip
                exact V_ret ⟨rfl, dX12_closesSums_59⟩ ⟨Nat.le_of_ble_eq_true rfl, Nat.le_of_ble_eq_true rfl⟩ (by rw [clsS_n hg] at hQ; exact hQ I1 z (Nat.le_refl _) hW)
              · skip
                exfalso; omega

theorem note_e {I : zI} {c x : Nat} {y w : Int32} : noteI (zwr (zwr I 62 14 y) 62 12 w) c x = zwr (zwr (noteI I c x) 62 14 y) 62 12 w := by
  funext b j
  simp only [noteI, zwr_at]
  repeat' split
  all_goals first | rfl | (exfalso; omega)
set_option maxRecDepth 100000 in
set_option maxHeartbeats 4000000 in
theorem lp_endsP {G : zG} {I0 : zI} {J : zJ} {Q : zQ} {n q : Nat}  : ∀ st cs z (I1 : zI), Wd I0 I1 n q z st cs → (∀ (I2 : zI) (z2 : Nat), z ≤ z2 → Wd I0 I2 n q z2 (endS st cs).1 (endS st cs).2 → Q none zsh I2 J) → V G mX12_endsPiece 1 Q 0 [(0, .ref 62)] [] (0, 0) zsh I1 J := by
  intro st
  induction st with
  | nil =>
    intro cs z I1 hW hQ
    refine V_aload_n dX12_endsPiece_0 rfl ?_
    refine V_callV (As := []) (st := []) (a := 62) dX12_endsPiece_1 kX12_waitTop lX12_253 (by decide) rfl rfl (Nat.le_of_ble_eq_true rfl) ⟨Nat.le_of_ble_eq_true rfl, Nat.le_of_ble_eq_true rfl⟩ ⟨Nat.le_of_ble_eq_true rfl, Nat.le_of_ble_eq_true rfl⟩ rfl ⟨rfl, by decide⟩ (w_top0 hW) ?_
    rintro _ _ _ _ ⟨rfl, rfl, rfl, rfl⟩
    refine V_bipush (v := nI 10) dX12_endsPiece_4 rfl ?_
    refine V_icmp_ne (tgt := 39) dX12_endsPiece_6 rfl (fun _ => ?_) (fun h => absurd h (by decide))
    exact V_ret ⟨rfl, dX12_endsPiece_39⟩ ⟨Nat.le_of_ble_eq_true rfl, Nat.le_of_ble_eq_true rfl⟩ (hQ I1 z (Nat.le_refl _) hW)
  | cons x r ih =>
    intro cs z I1 hW hQ
    have hk := hW.hk x List.mem_cons_self
    have hsq : r.length + 1 ≤ q := hW.sq
    have hqn := hW.qn
    have hn240 := hW.n240
    have hcq := hW.cq
    by_cases hg : x.1 = 10
    · skip
      refine V_aload_n dX12_endsPiece_0 rfl ?_
      refine V_callV (As := []) (st := []) (a := 62) dX12_endsPiece_1 kX12_waitTop lX12_253 (by decide) rfl rfl (Nat.le_of_ble_eq_true rfl) ⟨Nat.le_of_ble_eq_true rfl, Nat.le_of_ble_eq_true rfl⟩ ⟨Nat.le_of_ble_eq_true rfl, Nat.le_of_ble_eq_true rfl⟩ rfl ⟨rfl, by decide⟩ (w_topX hW) ?_
      rintro _ _ _ _ ⟨rfl, rfl, rfl, rfl⟩
      refine V_bipush (v := nI 10) dX12_endsPiece_4 rfl ?_
      refine V_icmp_neN (tgt := 39) dX12_endsPiece_6 rfl (by omega) (by omega) (fun h6 => ?_) (fun h6 => ?_)
      · skip
        exact V_ret ⟨rfl, dX12_endsPiece_39⟩ ⟨Nat.le_of_ble_eq_true rfl, Nat.le_of_ble_eq_true rfl⟩ (by exfalso; omega)
      · skip
        refine V_aload_n dX12_endsPiece_9 rfl ?_
        refine V_bipush (v := nI 10) dX12_endsPiece_10 rfl ?_
        refine V_iconst (v := nI 0) dX12_endsPiece_12 rfl ?_
        refine V_callV (As := [.int (nI 10), .int (nI 0)]) (st := []) (a := 62) dX12_endsPiece_13 kX12_notes lX12_256 (by decide) rfl rfl (Nat.le_of_ble_eq_true rfl) ⟨Nat.le_of_ble_eq_true rfl, Nat.le_of_ble_eq_true rfl⟩ ⟨Nat.le_of_ble_eq_true rfl, Nat.le_of_ble_eq_true rfl⟩ rfl ⟨rfl, by decide⟩ (w_notes hW.hc (by omega)) ?_
        rintro r sh' _ _ ⟨rfl, rfl, rfl, rfl⟩
        refine V_aload_n dX12_endsPiece_16 rfl ?_
        refine V_aload_n dX12_endsPiece_17 rfl ?_
        refine V_getI dX12_endsPiece_18 fX12_250 ⟨Nat.le_of_ble_eq_true rfl, Nat.le_of_ble_eq_true rfl⟩ rfl rfl ?_
        refine V_eqI (y := noteI I1 cs.length (1048576 * 10 + 0) 62 14) rfl ?_
        refine V_eqI (y := nI (r.length + 1)) hW.hw ?_
        refine V_iconst (v := nI 1) dX12_endsPiece_21 rfl ?_
        refine V_isubN dX12_endsPiece_22 (by omega) ?_
        refine V_putW dX12_endsPiece_23 fX12_250 ⟨Nat.le_of_ble_eq_true rfl, Nat.le_of_ble_eq_true rfl⟩ rfl rfl rfl ⟨rfl, rfl⟩ ?_
        refine V_aload_n dX12_endsPiece_26 rfl ?_
        refine V_aload_n dX12_endsPiece_27 rfl ?_
        refine V_getI dX12_endsPiece_28 fX12_247 ⟨Nat.le_of_ble_eq_true rfl, Nat.le_of_ble_eq_true rfl⟩ rfl rfl ?_
        refine V_eqI (y := noteI I1 cs.length (1048576 * 10 + 0) 62 12) rfl ?_
        refine V_eqI (y := nI (opn r + 1)) (hW.ho.trans (congrArg nI (opn_y (Or.inl hg)))) ?_
        refine V_iconst (v := nI 1) dX12_endsPiece_31 rfl ?_
        refine V_isubN dX12_endsPiece_32 (by omega) ?_
        refine V_putW dX12_endsPiece_33 fX12_247 ⟨Nat.le_of_ble_eq_true rfl, Nat.le_of_ble_eq_true rfl⟩ rfl rfl rfl ⟨rfl, rfl⟩ ?_
        refine V_goto (tgt := 0) dX12_endsPiece_36 rfl ?_
        refine V_sub2 (ls' := [(0, .ref 62)]) (List.forall_mem_cons.mpr ⟨rfl, fun _ h => absurd h List.not_mem_nil⟩) ?_
        rw [endS_y hg] at hQ
        have h2 := ((hW.close (z' := z + 1) (Or.inl hg) (by rw [if_pos (by omega)])).note (c := (2, 33)) (x := 1048576 * 10 + 0) (by decide))
        refine ih (cs ++ [(2, 33)]) z _ ?_ hQ
        rw [note_e] at h2
        exact h2
    · skip
      refine V_aload_n dX12_endsPiece_0 rfl ?_
      refine V_callV (As := []) (st := []) (a := 62) dX12_endsPiece_1 kX12_waitTop lX12_253 (by decide) rfl rfl (Nat.le_of_ble_eq_true rfl) ⟨Nat.le_of_ble_eq_true rfl, Nat.le_of_ble_eq_true rfl⟩ ⟨Nat.le_of_ble_eq_true rfl, Nat.le_of_ble_eq_true rfl⟩ rfl ⟨rfl, by decide⟩ (w_topX hW) ?_
      rintro _ _ _ _ ⟨rfl, rfl, rfl, rfl⟩
      refine V_bipush (v := nI 10) dX12_endsPiece_4 rfl ?_
      refine V_icmp_neN (tgt := 39) dX12_endsPiece_6 rfl (by omega) (by omega) (fun h6 => ?_) (fun h6 => ?_)
      · skip
        exact V_ret ⟨rfl, dX12_endsPiece_39⟩ ⟨Nat.le_of_ble_eq_true rfl, Nat.le_of_ble_eq_true rfl⟩ (by rw [endS_n hg] at hQ; exact hQ I1 z (Nat.le_refl _) hW)
      · skip
        exfalso; omega

theorem enc_j {k v : Nat} (h : k = 11 ∨ k = 12) : encM (k - 8, v) = 1048576 * k + v := by
  rcases h with rfl | rfl <;> rfl
set_option maxRecDepth 100000 in
set_option maxHeartbeats 4000000 in
theorem lp_lands {G : zG} {I0 : zI} {J : zJ} {Q : zQ} {n q : Nat} {b : Nat} (hb : b ≤ 1) : ∀ st cs z (I1 : zI), Wd I0 I1 n q z st cs → lndK b st cs → (∀ (I2 : zI) (z2 : Nat), z ≤ z2 → Wd I0 I2 n q z2 (lndS b st cs).1 (lndS b st cs).2 → Q none zsh I2 J) → V G mX12_lands 1 Q 0 [(0, .ref 62), (1, .int (nI b))] [] (0, 0) zsh I1 J := by
  intro st
  induction st with
  | nil =>
    intro cs z I1 hW hK hQ
    refine V_aload_n dX12_lands_0 rfl ?_
    refine V_callV (As := []) (st := []) (a := 62) dX12_lands_1 kX12_waitTop lX12_253 (by decide) rfl rfl (Nat.le_of_ble_eq_true rfl) ⟨Nat.le_of_ble_eq_true rfl, Nat.le_of_ble_eq_true rfl⟩ ⟨Nat.le_of_ble_eq_true rfl, Nat.le_of_ble_eq_true rfl⟩ rfl ⟨rfl, by decide⟩ (w_top0 hW) ?_
    rintro _ _ _ _ ⟨rfl, rfl, rfl, rfl⟩
    refine V_bipush (v := nI 11) dX12_lands_4 rfl ?_
    refine V_icmp_eq (tgt := 22) dX12_lands_6 rfl (fun h => absurd h (by decide)) (fun _ => ?_)
    refine V_iload_n dX12_lands_9 rfl ?_
    refine V_if_eqN (tgt := 73) dX12_lands_10 rfl (by omega) (fun h10 => ?_) (fun h10 => ?_)
    · skip
      exact V_ret ⟨rfl, dX12_lands_73⟩ ⟨Nat.le_of_ble_eq_true rfl, Nat.le_of_ble_eq_true rfl⟩ (hQ I1 z (Nat.le_refl _) hW)
    · skip
      refine V_aload_n dX12_lands_13 rfl ?_
      refine V_callV (As := []) (st := []) (a := 62) dX12_lands_14 kX12_waitTop lX12_253 (by decide) rfl rfl (Nat.le_of_ble_eq_true rfl) ⟨Nat.le_of_ble_eq_true rfl, Nat.le_of_ble_eq_true rfl⟩ ⟨Nat.le_of_ble_eq_true rfl, Nat.le_of_ble_eq_true rfl⟩ rfl ⟨rfl, by decide⟩ (w_top0 hW) ?_
      rintro _ _ _ _ ⟨rfl, rfl, rfl, rfl⟩
      refine V_bipush (v := nI 12) dX12_lands_17 rfl ?_
      refine V_icmp_ne (tgt := 73) dX12_lands_19 rfl (fun _ => ?_) (fun h => absurd h (by decide))
      exact V_ret ⟨rfl, dX12_lands_73⟩ ⟨Nat.le_of_ble_eq_true rfl, Nat.le_of_ble_eq_true rfl⟩ (hQ I1 z (Nat.le_refl _) hW)
  | cons x r ih =>
    intro cs z I1 hW hK hQ
    have hk := hW.hk x List.mem_cons_self
    have hsq : r.length + 1 ≤ q := hW.sq
    have hqn := hW.qn
    have hn240 := hW.n240
    have hcq := hW.cq
    by_cases hg : lnG b x
    · skip
      obtain ⟨⟨v, hv, hcv⟩, hK2⟩ := hK hg
      have hil : x.2 < cs.length := (List.getElem?_eq_some_iff.mp hcv).1
      have hv2 : I1 67 x.2 = nI (1048576 * x.1 + v) := (hW.hcs x.2 _ hcv).trans (congrArg nI (enc_j (by omega)))
      have hpx : 1048576 * ((1048576 * x.1 + v) / 1048576) + cs.length = encM (x.1 - 8, cs.length) := by rw [enc_j (by omega)]; omega
      refine V_aload_n dX12_lands_0 rfl ?_
      refine V_callV (As := []) (st := []) (a := 62) dX12_lands_1 kX12_waitTop lX12_253 (by decide) rfl rfl (Nat.le_of_ble_eq_true rfl) ⟨Nat.le_of_ble_eq_true rfl, Nat.le_of_ble_eq_true rfl⟩ ⟨Nat.le_of_ble_eq_true rfl, Nat.le_of_ble_eq_true rfl⟩ rfl ⟨rfl, by decide⟩ (w_topX hW) ?_
      rintro _ _ _ _ ⟨rfl, rfl, rfl, rfl⟩
      refine V_bipush (v := nI 11) dX12_lands_4 rfl ?_
      refine V_icmp_eqN (tgt := 22) dX12_lands_6 rfl (by omega) (by omega) (fun h6 => ?_) (fun h6 => ?_)
      · skip
        refine V_aload_n dX12_lands_22 rfl ?_
        refine V_getR (b := 68) dX12_lands_23 fX12_26 ⟨Nat.le_of_ble_eq_true rfl, Nat.le_of_ble_eq_true rfl⟩ rfl rfl rfl ?_
        refine V_aload_n dX12_lands_26 rfl ?_
        refine V_getI dX12_lands_27 fX12_250 ⟨Nat.le_of_ble_eq_true rfl, Nat.le_of_ble_eq_true rfl⟩ rfl rfl ?_
        refine V_eqI (y := nI (r.length + 1)) hW.hw ?_
        refine V_iconst (v := nI 1) dX12_lands_30 rfl ?_
        refine V_isubN dX12_lands_31 (by omega) ?_
        refine V_ialdN (k := (r.length + 1) - 1) dX12_lands_32 ⟨Nat.le_of_ble_eq_true rfl, Nat.le_of_ble_eq_true rfl⟩ rfl (by decide) (by omega) ?_
        refine V_eqI (y := nI (1048576 * x.1 + x.2)) hW.top ?_
        refine V_ldc dX12_lands_33 qX12_246 ?_
        refine V_eqI (y := nI 1048576) rfl ?_
        refine V_iremN dX12_lands_35 (by omega) (by omega) (by omega) ?_
        refine V_eqI (y := nI x.2) (congrArg nI (by omega)) ?_
        refine V_istore_n (ls' := [(2, .int (nI x.2)), (0, .ref 62), (1, .int (nI b))]) dX12_lands_36 (by decide) rfl ?_
        refine V_aload_n dX12_lands_37 rfl ?_
        refine V_getR (b := 67) dX12_lands_38 fX12_23 ⟨Nat.le_of_ble_eq_true rfl, Nat.le_of_ble_eq_true rfl⟩ rfl rfl rfl ?_
        refine V_iload_n dX12_lands_41 rfl ?_
        refine V_ldc dX12_lands_42 qX12_246 ?_
        refine V_eqI (y := nI 1048576) rfl ?_
        refine V_aload_n dX12_lands_44 rfl ?_
        refine V_getR (b := 67) dX12_lands_45 fX12_23 ⟨Nat.le_of_ble_eq_true rfl, Nat.le_of_ble_eq_true rfl⟩ rfl rfl rfl ?_
        refine V_iload_n dX12_lands_48 rfl ?_
        refine V_ialdN (k := x.2) dX12_lands_49 ⟨Nat.le_of_ble_eq_true rfl, Nat.le_of_ble_eq_true rfl⟩ rfl (by decide) (by omega) ?_
        refine V_eqI (y := nI (1048576 * x.1 + v)) hv2 ?_
        refine V_ldc dX12_lands_50 qX12_246 ?_
        refine V_eqI (y := nI 1048576) rfl ?_
        refine V_idivN dX12_lands_52 (by omega) (by omega) (by omega) ?_
        refine V_imulN dX12_lands_53 ?_
        refine V_aload_n dX12_lands_54 rfl ?_
        refine V_getI dX12_lands_55 fX12_243 ⟨Nat.le_of_ble_eq_true rfl, Nat.le_of_ble_eq_true rfl⟩ rfl rfl ?_
        refine V_eqI (y := nI cs.length) hW.hc ?_
        refine V_iaddN dX12_lands_58 ?_
        refine V_iastN (k := x.2) dX12_lands_59 ⟨Nat.le_of_ble_eq_true rfl, Nat.le_of_ble_eq_true rfl⟩ rfl (by decide) (by omega) ?_
        refine V_aload_n dX12_lands_60 rfl ?_
        refine V_aload_n dX12_lands_61 rfl ?_
        refine V_getI dX12_lands_62 fX12_250 ⟨Nat.le_of_ble_eq_true rfl, Nat.le_of_ble_eq_true rfl⟩ rfl rfl ?_
        refine V_eqI (y := I1 62 14) rfl ?_
        refine V_eqI (y := nI (r.length + 1)) hW.hw ?_
        refine V_iconst (v := nI 1) dX12_lands_65 rfl ?_
        refine V_isubN dX12_lands_66 (by omega) ?_
        refine V_putW dX12_lands_67 fX12_250 ⟨Nat.le_of_ble_eq_true rfl, Nat.le_of_ble_eq_true rfl⟩ rfl rfl rfl ⟨rfl, rfl⟩ ?_
        refine V_goto (tgt := 0) dX12_lands_70 rfl ?_
        refine V_sub2 (ls' := [(0, .ref 62), (1, .int (nI b))]) (List.forall_mem_cons.mpr ⟨rfl, List.forall_mem_cons.mpr ⟨rfl, fun _ h => absurd h List.not_mem_nil⟩⟩) ?_
        rw [lndS_y hg] at hQ
        have h2 := ((hW.patch (i := x.2) (c := (x.1 - 8, cs.length)) hpx).pop (z' := z) (by omega) (by rw [if_neg (by omega)]; rfl))
        exact ih (cs.set x.2 (x.1 - 8, cs.length)) z _ h2 hK2 hQ
      · skip
        refine V_iload_n dX12_lands_9 rfl ?_
        refine V_if_eqN (tgt := 73) dX12_lands_10 rfl (by omega) (fun h10 => ?_) (fun h10 => ?_)
        · skip
          exact V_ret ⟨rfl, dX12_lands_73⟩ ⟨Nat.le_of_ble_eq_true rfl, Nat.le_of_ble_eq_true rfl⟩ (by exfalso; omega)
        · skip
          refine V_aload_n dX12_lands_13 rfl ?_
          refine V_callV (As := []) (st := []) (a := 62) dX12_lands_14 kX12_waitTop lX12_253 (by decide) rfl rfl (Nat.le_of_ble_eq_true rfl) ⟨Nat.le_of_ble_eq_true rfl, Nat.le_of_ble_eq_true rfl⟩ ⟨Nat.le_of_ble_eq_true rfl, Nat.le_of_ble_eq_true rfl⟩ rfl ⟨rfl, by decide⟩ (w_topX hW) ?_
          rintro _ _ _ _ ⟨rfl, rfl, rfl, rfl⟩
          refine V_bipush (v := nI 12) dX12_lands_17 rfl ?_
          refine V_icmp_neN (tgt := 73) dX12_lands_19 rfl (by omega) (by omega) (fun h19 => ?_) (fun h19 => ?_)
          · skip
            exact V_ret ⟨rfl, dX12_lands_73⟩ ⟨Nat.le_of_ble_eq_true rfl, Nat.le_of_ble_eq_true rfl⟩ (by exfalso; omega)
          · skip
            refine V_aload_n dX12_lands_22 rfl ?_
            refine V_getR (b := 68) dX12_lands_23 fX12_26 ⟨Nat.le_of_ble_eq_true rfl, Nat.le_of_ble_eq_true rfl⟩ rfl rfl rfl ?_
            refine V_aload_n dX12_lands_26 rfl ?_
            refine V_getI dX12_lands_27 fX12_250 ⟨Nat.le_of_ble_eq_true rfl, Nat.le_of_ble_eq_true rfl⟩ rfl rfl ?_
            refine V_eqI (y := nI (r.length + 1)) hW.hw ?_
            refine V_iconst (v := nI 1) dX12_lands_30 rfl ?_
            refine V_isubN dX12_lands_31 (by omega) ?_
            refine V_ialdN (k := (r.length + 1) - 1) dX12_lands_32 ⟨Nat.le_of_ble_eq_true rfl, Nat.le_of_ble_eq_true rfl⟩ rfl (by decide) (by omega) ?_
            refine V_eqI (y := nI (1048576 * x.1 + x.2)) hW.top ?_
            refine V_ldc dX12_lands_33 qX12_246 ?_
            refine V_eqI (y := nI 1048576) rfl ?_
            refine V_iremN dX12_lands_35 (by omega) (by omega) (by omega) ?_
            refine V_eqI (y := nI x.2) (congrArg nI (by omega)) ?_
            refine V_istore_n (ls' := [(2, .int (nI x.2)), (0, .ref 62), (1, .int (nI b))]) dX12_lands_36 (by decide) rfl ?_
            refine V_aload_n dX12_lands_37 rfl ?_
            refine V_getR (b := 67) dX12_lands_38 fX12_23 ⟨Nat.le_of_ble_eq_true rfl, Nat.le_of_ble_eq_true rfl⟩ rfl rfl rfl ?_
            refine V_iload_n dX12_lands_41 rfl ?_
            refine V_ldc dX12_lands_42 qX12_246 ?_
            refine V_eqI (y := nI 1048576) rfl ?_
            refine V_aload_n dX12_lands_44 rfl ?_
            refine V_getR (b := 67) dX12_lands_45 fX12_23 ⟨Nat.le_of_ble_eq_true rfl, Nat.le_of_ble_eq_true rfl⟩ rfl rfl rfl ?_
            refine V_iload_n dX12_lands_48 rfl ?_
            refine V_ialdN (k := x.2) dX12_lands_49 ⟨Nat.le_of_ble_eq_true rfl, Nat.le_of_ble_eq_true rfl⟩ rfl (by decide) (by omega) ?_
            refine V_eqI (y := nI (1048576 * x.1 + v)) hv2 ?_
            refine V_ldc dX12_lands_50 qX12_246 ?_
            refine V_eqI (y := nI 1048576) rfl ?_
            refine V_idivN dX12_lands_52 (by omega) (by omega) (by omega) ?_
            refine V_imulN dX12_lands_53 ?_
            refine V_aload_n dX12_lands_54 rfl ?_
            refine V_getI dX12_lands_55 fX12_243 ⟨Nat.le_of_ble_eq_true rfl, Nat.le_of_ble_eq_true rfl⟩ rfl rfl ?_
            refine V_eqI (y := nI cs.length) hW.hc ?_
            refine V_iaddN dX12_lands_58 ?_
            refine V_iastN (k := x.2) dX12_lands_59 ⟨Nat.le_of_ble_eq_true rfl, Nat.le_of_ble_eq_true rfl⟩ rfl (by decide) (by omega) ?_
            refine V_aload_n dX12_lands_60 rfl ?_
            refine V_aload_n dX12_lands_61 rfl ?_
            refine V_getI dX12_lands_62 fX12_250 ⟨Nat.le_of_ble_eq_true rfl, Nat.le_of_ble_eq_true rfl⟩ rfl rfl ?_
            refine V_eqI (y := I1 62 14) rfl ?_
            refine V_eqI (y := nI (r.length + 1)) hW.hw ?_
            refine V_iconst (v := nI 1) dX12_lands_65 rfl ?_
            refine V_isubN dX12_lands_66 (by omega) ?_
            refine V_putW dX12_lands_67 fX12_250 ⟨Nat.le_of_ble_eq_true rfl, Nat.le_of_ble_eq_true rfl⟩ rfl rfl rfl ⟨rfl, rfl⟩ ?_
            refine V_goto (tgt := 0) dX12_lands_70 rfl ?_
            refine V_sub2 (ls' := [(0, .ref 62), (1, .int (nI b))]) (List.forall_mem_cons.mpr ⟨rfl, List.forall_mem_cons.mpr ⟨rfl, fun _ h => absurd h List.not_mem_nil⟩⟩) ?_
            rw [lndS_y hg] at hQ
            have h2 := ((hW.patch (i := x.2) (c := (x.1 - 8, cs.length)) hpx).pop (z' := z) (by omega) (by rw [if_neg (by omega)]; rfl))
            exact ih (cs.set x.2 (x.1 - 8, cs.length)) z _ h2 hK2 hQ
    · skip
      refine V_aload_n dX12_lands_0 rfl ?_
      refine V_callV (As := []) (st := []) (a := 62) dX12_lands_1 kX12_waitTop lX12_253 (by decide) rfl rfl (Nat.le_of_ble_eq_true rfl) ⟨Nat.le_of_ble_eq_true rfl, Nat.le_of_ble_eq_true rfl⟩ ⟨Nat.le_of_ble_eq_true rfl, Nat.le_of_ble_eq_true rfl⟩ rfl ⟨rfl, by decide⟩ (w_topX hW) ?_
      rintro _ _ _ _ ⟨rfl, rfl, rfl, rfl⟩
      refine V_bipush (v := nI 11) dX12_lands_4 rfl ?_
      refine V_icmp_eqN (tgt := 22) dX12_lands_6 rfl (by omega) (by omega) (fun h6 => ?_) (fun h6 => ?_)
      · skip
        exfalso; omega
      · skip
        refine V_iload_n dX12_lands_9 rfl ?_
        refine V_if_eqN (tgt := 73) dX12_lands_10 rfl (by omega) (fun h10 => ?_) (fun h10 => ?_)
        · skip
          exact V_ret ⟨rfl, dX12_lands_73⟩ ⟨Nat.le_of_ble_eq_true rfl, Nat.le_of_ble_eq_true rfl⟩ (by rw [lndS_n hg] at hQ; exact hQ I1 z (Nat.le_refl _) hW)
        · skip
          refine V_aload_n dX12_lands_13 rfl ?_
          refine V_callV (As := []) (st := []) (a := 62) dX12_lands_14 kX12_waitTop lX12_253 (by decide) rfl rfl (Nat.le_of_ble_eq_true rfl) ⟨Nat.le_of_ble_eq_true rfl, Nat.le_of_ble_eq_true rfl⟩ ⟨Nat.le_of_ble_eq_true rfl, Nat.le_of_ble_eq_true rfl⟩ rfl ⟨rfl, by decide⟩ (w_topX hW) ?_
          rintro _ _ _ _ ⟨rfl, rfl, rfl, rfl⟩
          refine V_bipush (v := nI 12) dX12_lands_17 rfl ?_
          refine V_icmp_neN (tgt := 73) dX12_lands_19 rfl (by omega) (by omega) (fun h19 => ?_) (fun h19 => ?_)
          · skip
            exact V_ret ⟨rfl, dX12_lands_73⟩ ⟨Nat.le_of_ble_eq_true rfl, Nat.le_of_ble_eq_true rfl⟩ (by rw [lndS_n hg] at hQ; exact hQ I1 z (Nat.le_refl _) hW)
          · skip
            exfalso; omega

set_option maxRecDepth 100000 in
set_option maxHeartbeats 4000000 in
theorem w_closes {G : zG} {I0 I : zI} {J : zJ} {n q z : Nat} {st cs : List (Nat × Nat)} (h : Wd I0 I n q z st cs) {b : Nat} (hb : b ≤ 1)  : zK G mX12_closesSums 1 [.ref 62, .int (nI b)] zsh I J (zP (fun r I' J' => r = none ∧ Wd I0 I' n q z (clsS b st cs).1 (clsS b st cs).2 ∧ J = J')) := by
  refine zK_of kX12_closesSums.2.2.2.2.1 (Nat.le_of_ble_eq_true rfl) ?_
  show V G mX12_closesSums 1 _ 0 [(0, .ref 62), (1, .int (nI b))] [] (0, 0) zsh I J
  exact lp_closes hb st cs z I h (fun I2 z2 h1 h2 => ⟨rfl, rfl, h2.more (by have := h2.cq; omega), rfl⟩)

set_option maxRecDepth 100000 in
set_option maxHeartbeats 4000000 in
theorem w_endsP {G : zG} {I0 I : zI} {J : zJ} {n q z : Nat} {st cs : List (Nat × Nat)} (h : Wd I0 I n q z st cs)  : zK G mX12_endsPiece 1 [.ref 62] zsh I J (zP (fun r I' J' => r = none ∧ Wd I0 I' n q z (endS st cs).1 (endS st cs).2 ∧ J = J')) := by
  refine zK_of kX12_endsPiece.2.2.2.2.1 (Nat.le_of_ble_eq_true rfl) ?_
  show V G mX12_endsPiece 1 _ 0 [(0, .ref 62)] [] (0, 0) zsh I J
  exact lp_endsP st cs z I h (fun I2 z2 h1 h2 => ⟨rfl, rfl, h2.more (by have := h2.cq; omega), rfl⟩)

set_option maxRecDepth 100000 in
set_option maxHeartbeats 4000000 in
theorem w_lands {G : zG} {I0 I : zI} {J : zJ} {n q z : Nat} {st cs : List (Nat × Nat)} (h : Wd I0 I n q z st cs) {b : Nat} (hb : b ≤ 1) (hK : lndK b st cs) : zK G mX12_lands 1 [.ref 62, .int (nI b)] zsh I J (zP (fun r I' J' => r = none ∧ Wd I0 I' n q z (lndS b st cs).1 (lndS b st cs).2 ∧ J = J')) := by
  refine zK_of kX12_lands.2.2.2.2.1 (Nat.le_of_ble_eq_true rfl) ?_
  show V G mX12_lands 1 _ 0 [(0, .ref 62), (1, .int (nI b))] [] (0, 0) zsh I J
  exact lp_lands hb st cs z I h hK (fun I2 z2 h1 h2 => ⟨rfl, rfl, h2.more (by have := h2.cq; omega), rfl⟩)

