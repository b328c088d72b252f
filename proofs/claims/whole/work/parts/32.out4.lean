/-! THE CLASS: games of rules; matches -/
/-- the worst of the told ones from k on, m of them -/
def wfL (v : Nat → Int64) (cc : Nat → Nat) (s : Nat) : Nat → Nat → Int64 → Int64
  | 0, _, x => x
  | m + 1, k, x => wfL v cc s m (k + 1) (if 0 < cc k then (if s = 1 then (if v k < x then v k else x) else (if v k < x then x else v k)) else x)
def gmL (u : Nat → Int64) (cc : Nat → Nat) (s : Nat) : Nat → Nat → Option Nat → Int64 → Option Nat × Int64
  | 0, _, ch, x => (ch, x)
  | m + 1, j, ch, x => if 0 < cc j ∧ (ch = none ∨ (if s = 1 then x < u j else u j < x)) then gmL u cc s m (j + 1) (some j) (u j) else gmL u cc s m (j + 1) ch x
/-- what rule j is worth at the begin against k, side 0 (s = 1) or side 1 by j -/
def ruV (Rl : Nat → Nat → (Nat → Int32) → Int32) (Lf : Nat → (Nat → Int32) → Int32) (far s j k : Nat) : Int64 := if s = 1 then (vX 1 (nI j) (nI k) Rl Lf far 55 55 1).1 else (vX 1 (nI k) (nI j) Rl Lf far 55 55 1).1
def worS (Rl : Nat → Nat → (Nat → Int32) → Int32) (Lf : Nat → (Nat → Int32) → Int32) (far : Nat) (cc : Nat → Nat) (s j : Nat) : Int64 := wfL (ruV Rl Lf far s j) cc s 4 0 (if s = 1 then 4000000000000000000 else -4000000000000000000)
/-- a game's answer: the chosen rule, its worth -/
def gamS (Rl : Nat → Nat → (Nat → Int32) → Int32) (Lf : Nat → (Nat → Int32) → Int32) (far : Nat) (cc : Nat → Nat) (s : Nat) : Option Nat × Int64 := gmL (worS Rl Lf far cc s) cc s 4 0 none 0
def gamA (r : Option Nat × Int64) (w : Nat) : Int64 := match r.1 with
  | none => -2
  | some c => if w = 0 ∨ w = 2 then r.2 else (nI c).toInt64
set_option maxRecDepth 100000 in
set_option maxHeartbeats 4000000 in
theorem lp_worst1 {G : zG} {I : zI} {J : zJ} {Lf : Nat → (Nat → Int32) → Int32} {Rl : Nat → Nat → (Nat → Int32) → Int32} {far : Nat} (hE : eA Lf Rl I J) (hf : I 2 0 = nI far) (h6 : 6 ≤ far) (h10 : far ≤ 10) {c0 : Nat} {cc : Nat → Nat} (hC : cC I c0 cc) {j : Nat} : ∀ m k x I1 J1, k + m = 4 → eA Lf Rl I1 J1 → Fr2 I J I1 J1 → V G mX11_worstFor 18 (zP (fun r I' J' => r = some (.long (wfL (ruV Rl Lf far 1 j) cc 1 m k x)) ∧ eA Lf Rl I' J' ∧ Fr2 I J I' J')) 17 [(0, .ref 2), (1, .int (nI j)), (2, .int (nI 1)), (3, .long x), (5, .int (nI k))] [] (0, 0) zsh I1 J1 := by
  intro m
  induction m with
  | zero =>
    intro k x I1 J1 hk hE1 hF1
    refine V_iload dX11_worstFor_17 rfl ?_
    refine V_iconst (v := nI 4) dX11_worstFor_19 rfl ?_
    refine V_icmp_geN (tgt := 91) dX11_worstFor_20 rfl (by omega) (by omega) (fun _ => ?_) (fun h => absurd h (by omega))
    refine V_lload_n dX11_worstFor_91 rfl ?_
    exact V_lret ⟨rfl, dX11_worstFor_92⟩ ⟨Nat.le_of_ble_eq_true rfl, Nat.le_of_ble_eq_true rfl⟩ ⟨rfl, rfl, hE1, hF1⟩
  | succ m ih =>
    intro k x I1 J1 hk hE1 hF1
    refine V_iload dX11_worstFor_17 rfl ?_
    refine V_iconst (v := nI 4) dX11_worstFor_19 rfl ?_
    refine V_icmp_geN (tgt := 91) dX11_worstFor_20 rfl (by omega) (by omega) (fun h => absurd h (by omega)) (fun _ => ?_)
    refine V_aload_n dX11_worstFor_23 rfl ?_
    refine V_iload dX11_worstFor_24 rfl ?_
    by_cases ht : 0 < cc k
    · skip
      refine V_callV (As := [.int (nI k)]) (st := []) (a := 2) dX11_worstFor_26 kX11_isTold lX11_208 (by decide) rfl rfl (Nat.le_of_ble_eq_true rfl) ⟨Nat.le_of_ble_eq_true rfl, Nat.le_of_ble_eq_true rfl⟩ ⟨Nat.le_of_ble_eq_true rfl, Nat.le_of_ble_eq_true rfl⟩ rfl ⟨rfl, by decide⟩ (q_toldY (cC_f hC hF1) (by omega) ht) ?_
      rintro _ _ _ _ ⟨rfl, rfl, rfl, rfl⟩
      refine V_if_eq (tgt := 85) dX11_worstFor_29 rfl (fun h => absurd h (by decide)) (fun _ => ?_)
      refine V_aload_n dX11_worstFor_32 rfl ?_
      refine V_getR (b := 9) dX11_worstFor_33 fX11_33 ⟨Nat.le_of_ble_eq_true rfl, Nat.le_of_ble_eq_true rfl⟩ rfl rfl rfl ?_
      refine V_aload_n dX11_worstFor_36 rfl ?_
      refine V_getI dX11_worstFor_37 fX11_7 ⟨Nat.le_of_ble_eq_true rfl, Nat.le_of_ble_eq_true rfl⟩ rfl rfl ?_
      refine V_eqI (y := nI far) ((congrFun (hF1.1 2 (by decide) (by decide) (by decide) (by decide) (by decide)) 0).trans hf) ?_
      refine V_iload_n dX11_worstFor_40 rfl ?_
      refine V_if_eq (tgt := 48) dX11_worstFor_41 rfl (fun h => absurd h (by decide)) (fun _ => ?_)
      refine V_iload_n dX11_worstFor_44 rfl ?_
      refine V_goto (tgt := 50) dX11_worstFor_45 rfl ?_
      refine V_iload_n dX11_worstFor_50 rfl ?_
      refine V_if_eq (tgt := 59) dX11_worstFor_51 rfl (fun h => absurd h (by decide)) (fun _ => ?_)
      refine V_iload dX11_worstFor_54 rfl ?_
      refine V_goto (tgt := 60) dX11_worstFor_56 rfl ?_
      refine V_callV (As := [.int (nI far), .int (nI j), .int (nI k)]) (st := []) (a := 9) dX11_worstFor_60 kX3_valueOfGame lX11_365 (by decide) rfl rfl (Nat.le_of_ble_eq_true rfl) ⟨Nat.le_of_ble_eq_true rfl, Nat.le_of_ble_eq_true rfl⟩ ⟨Nat.le_of_ble_eq_true rfl, Nat.le_of_ble_eq_true rfl⟩ rfl ⟨rfl, by decide⟩ (c_valueOfGame h10 hE1) ?_
      rintro r sh' I2 J2 ⟨rfl, rfl, hE2, hF2⟩
      refine V_eqL (y := ruV Rl Lf far 1 j k) (Eq.symm (if_pos rfl)) ?_
      refine V_lstore (ls' := [(6, .long (ruV Rl Lf far 1 j k)), (0, .ref 2), (1, .int (nI j)), (2, .int (nI 1)), (3, .long x), (5, .int (nI k))]) dX11_worstFor_63 (by decide) rfl ?_
      refine V_iload_n dX11_worstFor_65 rfl ?_
      refine V_if_eq (tgt := 78) dX11_worstFor_66 rfl (fun h => absurd h (by decide)) (fun _ => ?_)
      refine V_lload_n dX11_worstFor_69 rfl ?_
      refine V_lload dX11_worstFor_70 rfl ?_
      refine V_lmin dX11_worstFor_72 jX11_369 (by decide) (Nat.le_of_ble_eq_true rfl) ⟨Nat.le_of_ble_eq_true rfl, Nat.le_of_ble_eq_true rfl⟩ ?_
      refine V_goto (tgt := 84) dX11_worstFor_75 rfl ?_
      refine V_lstore_n (ls' := [(3, .long (if (ruV Rl Lf far 1 j k) < x then (ruV Rl Lf far 1 j k) else x)), (6, .long (ruV Rl Lf far 1 j k)), (0, .ref 2), (1, .int (nI j)), (2, .int (nI 1)), (5, .int (nI k))]) dX11_worstFor_84 (by decide) rfl ?_
      refine V_iincN (ls' := [(5, .int (nI (k + 1))), (3, .long (if (ruV Rl Lf far 1 j k) < x then (ruV Rl Lf far 1 j k) else x)), (6, .long (ruV Rl Lf far 1 j k)), (0, .ref 2), (1, .int (nI j)), (2, .int (nI 1))]) (n := 1) dX11_worstFor_85 rfl rfl (by decide) (by decide) rfl ?_
      refine V_goto (tgt := 17) dX11_worstFor_88 rfl ?_
      refine V_sub2 (ls' := [(0, .ref 2), (1, .int (nI j)), (2, .int (nI 1)), (3, .long (if (ruV Rl Lf far 1 j k) < x then (ruV Rl Lf far 1 j k) else x)), (5, .int (nI (k + 1)))]) (List.forall_mem_cons.mpr ⟨rfl, List.forall_mem_cons.mpr ⟨rfl, List.forall_mem_cons.mpr ⟨rfl, List.forall_mem_cons.mpr ⟨rfl, List.forall_mem_cons.mpr ⟨rfl, fun _ h => absurd h List.not_mem_nil⟩⟩⟩⟩⟩) ?_
      have e9 : (wfL (ruV Rl Lf far 1 j) cc 1 (m + 1) k x) = (wfL (ruV Rl Lf far 1 j) cc 1 m (k + 1) (if (ruV Rl Lf far 1 j k) < x then (ruV Rl Lf far 1 j k) else x)) := by
        conv => lhs; unfold wfL
        exact congrArg (wfL (ruV Rl Lf far 1 j) cc 1 m (k + 1)) ((if_pos ht).trans (if_pos rfl))
      rw [e9]
      exact ih (k + 1) _ _ _ (by omega) hE2 (Fr2_t hF1 hF2)
    · skip
      refine V_callV (As := [.int (nI k)]) (st := []) (a := 2) dX11_worstFor_26 kX11_isTold lX11_208 (by decide) rfl rfl (Nat.le_of_ble_eq_true rfl) ⟨Nat.le_of_ble_eq_true rfl, Nat.le_of_ble_eq_true rfl⟩ ⟨Nat.le_of_ble_eq_true rfl, Nat.le_of_ble_eq_true rfl⟩ rfl ⟨rfl, by decide⟩ (q_toldN (cC_f hC hF1) (by omega) ht) ?_
      rintro _ _ _ _ ⟨rfl, rfl, rfl, rfl⟩
      refine V_if_eq (tgt := 85) dX11_worstFor_29 rfl (fun _ => ?_) (fun h => absurd h (by decide))
      refine V_iincN (ls' := [(5, .int (nI (k + 1))), (0, .ref 2), (1, .int (nI j)), (2, .int (nI 1)), (3, .long x)]) (n := 1) dX11_worstFor_85 rfl rfl (by decide) (by decide) rfl ?_
      refine V_goto (tgt := 17) dX11_worstFor_88 rfl ?_
      refine V_sub2 (ls' := [(0, .ref 2), (1, .int (nI j)), (2, .int (nI 1)), (3, .long x), (5, .int (nI (k + 1)))]) (List.forall_mem_cons.mpr ⟨rfl, List.forall_mem_cons.mpr ⟨rfl, List.forall_mem_cons.mpr ⟨rfl, List.forall_mem_cons.mpr ⟨rfl, List.forall_mem_cons.mpr ⟨rfl, fun _ h => absurd h List.not_mem_nil⟩⟩⟩⟩⟩) ?_
      have e9 : (wfL (ruV Rl Lf far 1 j) cc 1 (m + 1) k x) = (wfL (ruV Rl Lf far 1 j) cc 1 m (k + 1) x) := by
        conv => lhs; unfold wfL
        exact congrArg (wfL (ruV Rl Lf far 1 j) cc 1 m (k + 1)) (if_neg ht)
      rw [e9]
      exact ih (k + 1) _ _ _ (by omega) hE1 hF1

set_option maxRecDepth 100000 in
set_option maxHeartbeats 4000000 in
theorem c_worst1 {G : zG} {I : zI} {J : zJ} {Lf : Nat → (Nat → Int32) → Int32} {Rl : Nat → Nat → (Nat → Int32) → Int32} {far : Nat} (hE : eA Lf Rl I J) (hf : I 2 0 = nI far) (h6 : 6 ≤ far) (h10 : far ≤ 10) {c0 : Nat} {cc : Nat → Nat} (hC : cC I c0 cc) {j : Nat} : zK G mX11_worstFor 18 [.ref 2, .int (nI j), .int (nI 1)] zsh I J (zP (fun r I' J' => r = some (.long (worS Rl Lf far cc 1 j)) ∧ eA Lf Rl I' J' ∧ Fr2 I J I' J')) := by
  refine zK_of kX11_worstFor.2.2.2.2.1 (Nat.le_of_ble_eq_true rfl) ?_
  show V G mX11_worstFor 18 _ 0 [(0, .ref 2), (1, .int (nI j)), (2, .int (nI 1))] [] (0, 0) zsh I J
  refine V_iload_n dX11_worstFor_0 rfl ?_
  refine V_if_eq (tgt := 10) dX11_worstFor_1 rfl (fun h => absurd h (by decide)) (fun _ => ?_)
  refine V_ldc2 dX11_worstFor_4 qX11_361 ?_
  refine V_goto (tgt := 13) dX11_worstFor_7 rfl ?_
  refine V_lstore_n (ls' := [(3, .long 4000000000000000000), (0, .ref 2), (1, .int (nI j)), (2, .int (nI 1))]) dX11_worstFor_13 (by decide) rfl ?_
  refine V_iconst (v := nI 0) dX11_worstFor_14 rfl ?_
  refine V_istore (ls' := [(5, .int (nI 0)), (3, .long 4000000000000000000), (0, .ref 2), (1, .int (nI j)), (2, .int (nI 1))]) dX11_worstFor_15 (by decide) rfl ?_
  refine V_sub2 (ls' := [(0, .ref 2), (1, .int (nI j)), (2, .int (nI 1)), (3, .long 4000000000000000000), (5, .int (nI 0))]) (List.forall_mem_cons.mpr ⟨rfl, List.forall_mem_cons.mpr ⟨rfl, List.forall_mem_cons.mpr ⟨rfl, List.forall_mem_cons.mpr ⟨rfl, List.forall_mem_cons.mpr ⟨rfl, fun _ h => absurd h List.not_mem_nil⟩⟩⟩⟩⟩) ?_
  refine zQ_mono ?_ (lp_worst1 hE hf h6 h10 hC (j := j) 4 0 _ I J (by decide) hE Fr2_r)
  rintro r sh' I' J' ⟨rfl, h1, h2, h3⟩
  exact ⟨rfl, h1.trans (congrArg (fun z => some (Value.long z)) (congrArg (wfL (ruV Rl Lf far 1 j) cc 1 4 0) (if_pos rfl).symm)), h2, h3⟩

set_option maxRecDepth 100000 in
set_option maxHeartbeats 4000000 in
theorem lp_worst0 {G : zG} {I : zI} {J : zJ} {Lf : Nat → (Nat → Int32) → Int32} {Rl : Nat → Nat → (Nat → Int32) → Int32} {far : Nat} (hE : eA Lf Rl I J) (hf : I 2 0 = nI far) (h6 : 6 ≤ far) (h10 : far ≤ 10) {c0 : Nat} {cc : Nat → Nat} (hC : cC I c0 cc) {j : Nat} : ∀ m k x I1 J1, k + m = 4 → eA Lf Rl I1 J1 → Fr2 I J I1 J1 → V G mX11_worstFor 18 (zP (fun r I' J' => r = some (.long (wfL (ruV Rl Lf far 0 j) cc 0 m k x)) ∧ eA Lf Rl I' J' ∧ Fr2 I J I' J')) 17 [(0, .ref 2), (1, .int (nI j)), (2, .int (nI 0)), (3, .long x), (5, .int (nI k))] [] (0, 0) zsh I1 J1 := by
  intro m
  induction m with
  | zero =>
    intro k x I1 J1 hk hE1 hF1
    refine V_iload dX11_worstFor_17 rfl ?_
    refine V_iconst (v := nI 4) dX11_worstFor_19 rfl ?_
    refine V_icmp_geN (tgt := 91) dX11_worstFor_20 rfl (by omega) (by omega) (fun _ => ?_) (fun h => absurd h (by omega))
    refine V_lload_n dX11_worstFor_91 rfl ?_
    exact V_lret ⟨rfl, dX11_worstFor_92⟩ ⟨Nat.le_of_ble_eq_true rfl, Nat.le_of_ble_eq_true rfl⟩ ⟨rfl, rfl, hE1, hF1⟩
  | succ m ih =>
    intro k x I1 J1 hk hE1 hF1
    refine V_iload dX11_worstFor_17 rfl ?_
    refine V_iconst (v := nI 4) dX11_worstFor_19 rfl ?_
    refine V_icmp_geN (tgt := 91) dX11_worstFor_20 rfl (by omega) (by omega) (fun h => absurd h (by omega)) (fun _ => ?_)
    refine V_aload_n dX11_worstFor_23 rfl ?_
    refine V_iload dX11_worstFor_24 rfl ?_
    by_cases ht : 0 < cc k
    · skip
      refine V_callV (As := [.int (nI k)]) (st := []) (a := 2) dX11_worstFor_26 kX11_isTold lX11_208 (by decide) rfl rfl (Nat.le_of_ble_eq_true rfl) ⟨Nat.le_of_ble_eq_true rfl, Nat.le_of_ble_eq_true rfl⟩ ⟨Nat.le_of_ble_eq_true rfl, Nat.le_of_ble_eq_true rfl⟩ rfl ⟨rfl, by decide⟩ (q_toldY (cC_f hC hF1) (by omega) ht) ?_
      rintro _ _ _ _ ⟨rfl, rfl, rfl, rfl⟩
      refine V_if_eq (tgt := 85) dX11_worstFor_29 rfl (fun h => absurd h (by decide)) (fun _ => ?_)
      refine V_aload_n dX11_worstFor_32 rfl ?_
      refine V_getR (b := 9) dX11_worstFor_33 fX11_33 ⟨Nat.le_of_ble_eq_true rfl, Nat.le_of_ble_eq_true rfl⟩ rfl rfl rfl ?_
      refine V_aload_n dX11_worstFor_36 rfl ?_
      refine V_getI dX11_worstFor_37 fX11_7 ⟨Nat.le_of_ble_eq_true rfl, Nat.le_of_ble_eq_true rfl⟩ rfl rfl ?_
      refine V_eqI (y := nI far) ((congrFun (hF1.1 2 (by decide) (by decide) (by decide) (by decide) (by decide)) 0).trans hf) ?_
      refine V_iload_n dX11_worstFor_40 rfl ?_
      refine V_if_eq (tgt := 48) dX11_worstFor_41 rfl (fun _ => ?_) (fun h => absurd h (by decide))
      refine V_iload dX11_worstFor_48 rfl ?_
      refine V_iload_n dX11_worstFor_50 rfl ?_
      refine V_if_eq (tgt := 59) dX11_worstFor_51 rfl (fun _ => ?_) (fun h => absurd h (by decide))
      refine V_iload_n dX11_worstFor_59 rfl ?_
      refine V_callV (As := [.int (nI far), .int (nI k), .int (nI j)]) (st := []) (a := 9) dX11_worstFor_60 kX3_valueOfGame lX11_365 (by decide) rfl rfl (Nat.le_of_ble_eq_true rfl) ⟨Nat.le_of_ble_eq_true rfl, Nat.le_of_ble_eq_true rfl⟩ ⟨Nat.le_of_ble_eq_true rfl, Nat.le_of_ble_eq_true rfl⟩ rfl ⟨rfl, by decide⟩ (c_valueOfGame h10 hE1) ?_
      rintro r sh' I2 J2 ⟨rfl, rfl, hE2, hF2⟩
      refine V_eqL (y := ruV Rl Lf far 0 j k) (Eq.symm (if_neg (by decide))) ?_
      refine V_lstore (ls' := [(6, .long (ruV Rl Lf far 0 j k)), (0, .ref 2), (1, .int (nI j)), (2, .int (nI 0)), (3, .long x), (5, .int (nI k))]) dX11_worstFor_63 (by decide) rfl ?_
      refine V_iload_n dX11_worstFor_65 rfl ?_
      refine V_if_eq (tgt := 78) dX11_worstFor_66 rfl (fun _ => ?_) (fun h => absurd h (by decide))
      refine V_lload_n dX11_worstFor_78 rfl ?_
      refine V_lload dX11_worstFor_79 rfl ?_
      refine V_lmax dX11_worstFor_81 jX11_375 (by decide) (Nat.le_of_ble_eq_true rfl) ⟨Nat.le_of_ble_eq_true rfl, Nat.le_of_ble_eq_true rfl⟩ ?_
      refine V_lstore_n (ls' := [(3, .long (if (ruV Rl Lf far 0 j k) < x then x else (ruV Rl Lf far 0 j k))), (6, .long (ruV Rl Lf far 0 j k)), (0, .ref 2), (1, .int (nI j)), (2, .int (nI 0)), (5, .int (nI k))]) dX11_worstFor_84 (by decide) rfl ?_
      refine V_iincN (ls' := [(5, .int (nI (k + 1))), (3, .long (if (ruV Rl Lf far 0 j k) < x then x else (ruV Rl Lf far 0 j k))), (6, .long (ruV Rl Lf far 0 j k)), (0, .ref 2), (1, .int (nI j)), (2, .int (nI 0))]) (n := 1) dX11_worstFor_85 rfl rfl (by decide) (by decide) rfl ?_
      refine V_goto (tgt := 17) dX11_worstFor_88 rfl ?_
      refine V_sub2 (ls' := [(0, .ref 2), (1, .int (nI j)), (2, .int (nI 0)), (3, .long (if (ruV Rl Lf far 0 j k) < x then x else (ruV Rl Lf far 0 j k))), (5, .int (nI (k + 1)))]) (List.forall_mem_cons.mpr ⟨rfl, List.forall_mem_cons.mpr ⟨rfl, List.forall_mem_cons.mpr ⟨rfl, List.forall_mem_cons.mpr ⟨rfl, List.forall_mem_cons.mpr ⟨rfl, fun _ h => absurd h List.not_mem_nil⟩⟩⟩⟩⟩) ?_
      have e9 : (wfL (ruV Rl Lf far 0 j) cc 0 (m + 1) k x) = (wfL (ruV Rl Lf far 0 j) cc 0 m (k + 1) (if (ruV Rl Lf far 0 j k) < x then x else (ruV Rl Lf far 0 j k))) := by
        conv => lhs; unfold wfL
        exact congrArg (wfL (ruV Rl Lf far 0 j) cc 0 m (k + 1)) ((if_pos ht).trans (if_neg (by decide)))
      rw [e9]
      exact ih (k + 1) _ _ _ (by omega) hE2 (Fr2_t hF1 hF2)
    · skip
      refine V_callV (As := [.int (nI k)]) (st := []) (a := 2) dX11_worstFor_26 kX11_isTold lX11_208 (by decide) rfl rfl (Nat.le_of_ble_eq_true rfl) ⟨Nat.le_of_ble_eq_true rfl, Nat.le_of_ble_eq_true rfl⟩ ⟨Nat.le_of_ble_eq_true rfl, Nat.le_of_ble_eq_true rfl⟩ rfl ⟨rfl, by decide⟩ (q_toldN (cC_f hC hF1) (by omega) ht) ?_
      rintro _ _ _ _ ⟨rfl, rfl, rfl, rfl⟩
      refine V_if_eq (tgt := 85) dX11_worstFor_29 rfl (fun _ => ?_) (fun h => absurd h (by decide))
      refine V_iincN (ls' := [(5, .int (nI (k + 1))), (0, .ref 2), (1, .int (nI j)), (2, .int (nI 0)), (3, .long x)]) (n := 1) dX11_worstFor_85 rfl rfl (by decide) (by decide) rfl ?_
      refine V_goto (tgt := 17) dX11_worstFor_88 rfl ?_
      refine V_sub2 (ls' := [(0, .ref 2), (1, .int (nI j)), (2, .int (nI 0)), (3, .long x), (5, .int (nI (k + 1)))]) (List.forall_mem_cons.mpr ⟨rfl, List.forall_mem_cons.mpr ⟨rfl, List.forall_mem_cons.mpr ⟨rfl, List.forall_mem_cons.mpr ⟨rfl, List.forall_mem_cons.mpr ⟨rfl, fun _ h => absurd h List.not_mem_nil⟩⟩⟩⟩⟩) ?_
      have e9 : (wfL (ruV Rl Lf far 0 j) cc 0 (m + 1) k x) = (wfL (ruV Rl Lf far 0 j) cc 0 m (k + 1) x) := by
        conv => lhs; unfold wfL
        exact congrArg (wfL (ruV Rl Lf far 0 j) cc 0 m (k + 1)) (if_neg ht)
      rw [e9]
      exact ih (k + 1) _ _ _ (by omega) hE1 hF1

set_option maxRecDepth 100000 in
set_option maxHeartbeats 4000000 in
theorem c_worst0 {G : zG} {I : zI} {J : zJ} {Lf : Nat → (Nat → Int32) → Int32} {Rl : Nat → Nat → (Nat → Int32) → Int32} {far : Nat} (hE : eA Lf Rl I J) (hf : I 2 0 = nI far) (h6 : 6 ≤ far) (h10 : far ≤ 10) {c0 : Nat} {cc : Nat → Nat} (hC : cC I c0 cc) {j : Nat} : zK G mX11_worstFor 18 [.ref 2, .int (nI j), .int (nI 0)] zsh I J (zP (fun r I' J' => r = some (.long (worS Rl Lf far cc 0 j)) ∧ eA Lf Rl I' J' ∧ Fr2 I J I' J')) := by
  refine zK_of kX11_worstFor.2.2.2.2.1 (Nat.le_of_ble_eq_true rfl) ?_
  show V G mX11_worstFor 18 _ 0 [(0, .ref 2), (1, .int (nI j)), (2, .int (nI 0))] [] (0, 0) zsh I J
  refine V_iload_n dX11_worstFor_0 rfl ?_
  refine V_if_eq (tgt := 10) dX11_worstFor_1 rfl (fun _ => ?_) (fun h => absurd h (by decide))
  refine V_ldc2 dX11_worstFor_10 qX11_363 ?_
  refine V_lstore_n (ls' := [(3, .long (-4000000000000000000)), (0, .ref 2), (1, .int (nI j)), (2, .int (nI 0))]) dX11_worstFor_13 (by decide) rfl ?_
  refine V_iconst (v := nI 0) dX11_worstFor_14 rfl ?_
  refine V_istore (ls' := [(5, .int (nI 0)), (3, .long (-4000000000000000000)), (0, .ref 2), (1, .int (nI j)), (2, .int (nI 0))]) dX11_worstFor_15 (by decide) rfl ?_
  refine V_sub2 (ls' := [(0, .ref 2), (1, .int (nI j)), (2, .int (nI 0)), (3, .long (-4000000000000000000)), (5, .int (nI 0))]) (List.forall_mem_cons.mpr ⟨rfl, List.forall_mem_cons.mpr ⟨rfl, List.forall_mem_cons.mpr ⟨rfl, List.forall_mem_cons.mpr ⟨rfl, List.forall_mem_cons.mpr ⟨rfl, fun _ h => absurd h List.not_mem_nil⟩⟩⟩⟩⟩) ?_
  refine zQ_mono ?_ (lp_worst0 hE hf h6 h10 hC (j := j) 4 0 _ I J (by decide) hE Fr2_r)
  rintro r sh' I' J' ⟨rfl, h1, h2, h3⟩
  exact ⟨rfl, h1.trans (congrArg (fun z => some (Value.long z)) (congrArg (wfL (ruV Rl Lf far 0 j) cc 0 4 0) (if_neg (by decide)).symm)), h2, h3⟩

set_option maxRecDepth 100000 in
set_option maxHeartbeats 4000000 in
theorem lp_game1 {G : zG} {I : zI} {J : zJ} {Lf : Nat → (Nat → Int32) → Int32} {Rl : Nat → Nat → (Nat → Int32) → Int32} {far : Nat} (hE : eA Lf Rl I J) (hf : I 2 0 = nI far) (h6 : 6 ≤ far) (h10 : far ≤ 10) {c0 : Nat} {cc : Nat → Nat} (hC : cC I c0 cc) {w : Nat} (hw : w < 2) : ∀ m j ch x I1 J1, j + m = 4 → (∀ c, ch = some c → c < 4) → eA Lf Rl I1 J1 → Fr2 I J I1 J1 → V G mX11_game 19 (zP (fun r I' J' => r = some (.long (gamA (gmL (worS Rl Lf far cc 1) cc 1 m j ch x) w)) ∧ eA Lf Rl I' J' ∧ Fr2 I J I' J')) 20 [(0, .ref 2), (1, .int (nI w)), (2, .int (pen ch)), (3, .long x), (5, .int (nI j))] [] (0, 0) zsh I1 J1 := by
  intro m
  induction m with
  | zero =>
    intro j ch x I1 J1 hk hch hE1 hF1
    refine V_iload dX11_game_20 rfl ?_
    refine V_iconst (v := nI 4) dX11_game_22 rfl ?_
    refine V_icmp_geN (tgt := 92) dX11_game_23 rfl (by omega) (by omega) (fun _ => ?_) (fun h => absurd h (by omega))
    rcases ch with _ | c
    · skip
      refine V_sub2 (ls' := [(0, .ref 2), (1, .int (nI w)), (2, .int (-1)), (3, .long x), (5, .int (nI j))]) (List.forall_mem_cons.mpr ⟨rfl, List.forall_mem_cons.mpr ⟨rfl, List.forall_mem_cons.mpr ⟨rfl, List.forall_mem_cons.mpr ⟨rfl, List.forall_mem_cons.mpr ⟨rfl, fun _ h => absurd h List.not_mem_nil⟩⟩⟩⟩⟩) ?_
      refine V_iload_n dX11_game_92 rfl ?_
      refine V_iconst (v := (-1)) dX11_game_93 rfl ?_
      refine V_icmp_ne (tgt := 101) dX11_game_94 rfl (fun h => absurd h (by decide)) (fun _ => ?_)
      refine V_ldc2 dX11_game_97 qX11_215 ?_
      exact V_lret ⟨rfl, dX11_game_100⟩ ⟨Nat.le_of_ble_eq_true rfl, Nat.le_of_ble_eq_true rfl⟩ ⟨rfl, rfl, hE1, hF1⟩
    · skip
      have hc4 := hch c rfl
      refine V_sub2 (ls' := [(0, .ref 2), (1, .int (nI w)), (2, .int (nI c)), (3, .long x), (5, .int (nI j))]) (List.forall_mem_cons.mpr ⟨rfl, List.forall_mem_cons.mpr ⟨rfl, List.forall_mem_cons.mpr ⟨rfl, List.forall_mem_cons.mpr ⟨rfl, List.forall_mem_cons.mpr ⟨rfl, fun _ h => absurd h List.not_mem_nil⟩⟩⟩⟩⟩) ?_
      refine V_iload_n dX11_game_92 rfl ?_
      refine V_iconst (v := (-1)) dX11_game_93 rfl ?_
      refine V_icmp_ne (tgt := 101) dX11_game_94 rfl (fun _ => ?_) (fun h => absurd h (nI_ne_neg (by omega) (by decide)))
      refine V_iload_n dX11_game_101 rfl ?_
      refine V_if_eqN (tgt := 110) dX11_game_102 rfl (by omega) (fun h102 => ?_) (fun h102 => ?_)
      · skip
        refine V_lload_n dX11_game_110 rfl ?_
        refine V_goto (tgt := 116) dX11_game_111 rfl ?_
        exact V_lret ⟨rfl, dX11_game_116⟩ ⟨Nat.le_of_ble_eq_true rfl, Nat.le_of_ble_eq_true rfl⟩ ⟨rfl, congrArg (fun z => some (Value.long z)) (if_pos (by omega)).symm, hE1, hF1⟩
      · skip
        refine V_iload_n dX11_game_105 rfl ?_
        refine V_iconst (v := nI 2) dX11_game_106 rfl ?_
        refine V_icmp_neN (tgt := 114) dX11_game_107 rfl (by omega) (by omega) (fun h107 => ?_) (fun h107 => ?_)
        · skip
          refine V_iload_n dX11_game_114 rfl ?_
          refine V_i2l dX11_game_115 ?_
          exact V_lret ⟨rfl, dX11_game_116⟩ ⟨Nat.le_of_ble_eq_true rfl, Nat.le_of_ble_eq_true rfl⟩ ⟨rfl, congrArg (fun z => some (Value.long z)) (if_neg (by omega)).symm, hE1, hF1⟩
        · skip
          refine V_lload_n dX11_game_110 rfl ?_
          refine V_goto (tgt := 116) dX11_game_111 rfl ?_
          exact V_lret ⟨rfl, dX11_game_116⟩ ⟨Nat.le_of_ble_eq_true rfl, Nat.le_of_ble_eq_true rfl⟩ ⟨rfl, congrArg (fun z => some (Value.long z)) (if_pos (by omega)).symm, hE1, hF1⟩
  | succ m ih =>
    intro j ch x I1 J1 hk hch hE1 hF1
    refine V_iload dX11_game_20 rfl ?_
    refine V_iconst (v := nI 4) dX11_game_22 rfl ?_
    refine V_icmp_geN (tgt := 92) dX11_game_23 rfl (by omega) (by omega) (fun h => absurd h (by omega)) (fun _ => ?_)
    refine V_aload_n dX11_game_26 rfl ?_
    refine V_iload dX11_game_27 rfl ?_
    by_cases ht : 0 < cc j
    · skip
      refine V_callV (As := [.int (nI j)]) (st := []) (a := 2) dX11_game_29 kX11_isTold lX11_208 (by decide) rfl rfl (Nat.le_of_ble_eq_true rfl) ⟨Nat.le_of_ble_eq_true rfl, Nat.le_of_ble_eq_true rfl⟩ ⟨Nat.le_of_ble_eq_true rfl, Nat.le_of_ble_eq_true rfl⟩ rfl ⟨rfl, by decide⟩ (q_toldY (cC_f hC hF1) (by omega) ht) ?_
      rintro _ _ _ _ ⟨rfl, rfl, rfl, rfl⟩
      refine V_if_eq (tgt := 86) dX11_game_32 rfl (fun h => absurd h (by decide)) (fun _ => ?_)
      refine V_aload_n dX11_game_35 rfl ?_
      refine V_iload dX11_game_36 rfl ?_
      refine V_iload_n dX11_game_38 rfl ?_
      refine V_iconst (v := nI 2) dX11_game_39 rfl ?_
      refine V_icmp_geN (tgt := 47) dX11_game_40 rfl (by omega) (by omega) (fun h => absurd h (by omega)) (fun _ => ?_)
      refine V_iconst (v := nI 1) dX11_game_43 rfl ?_
      refine V_goto (tgt := 48) dX11_game_44 rfl ?_
      refine V_callV (As := [.int (nI j), .int (nI 1)]) (st := []) (a := 2) dX11_game_48 kX11_worstFor lX11_211 (by decide) rfl rfl (Nat.le_of_ble_eq_true rfl) ⟨Nat.le_of_ble_eq_true rfl, Nat.le_of_ble_eq_true rfl⟩ ⟨Nat.le_of_ble_eq_true rfl, Nat.le_of_ble_eq_true rfl⟩ rfl ⟨rfl, by decide⟩ (c_worst1 hE1 (far := far) ((congrFun (hF1.1 2 (by decide) (by decide) (by decide) (by decide) (by decide)) 0).trans hf) h6 h10 (cC_f hC hF1)) ?_
      rintro r sh' I2 J2 ⟨rfl, rfl, hE2, hF2⟩
      refine V_lstore (ls' := [(6, .long (worS Rl Lf far cc 1 j)), (0, .ref 2), (1, .int (nI w)), (2, .int (pen ch)), (3, .long x), (5, .int (nI j))]) dX11_game_51 (by decide) rfl ?_
      rcases ch with _ | c
      · skip
        refine V_sub2 (ls' := [(6, .long (worS Rl Lf far cc 1 j)), (0, .ref 2), (1, .int (nI w)), (2, .int (-1)), (3, .long x), (5, .int (nI j))]) (List.forall_mem_cons.mpr ⟨rfl, List.forall_mem_cons.mpr ⟨rfl, List.forall_mem_cons.mpr ⟨rfl, List.forall_mem_cons.mpr ⟨rfl, List.forall_mem_cons.mpr ⟨rfl, List.forall_mem_cons.mpr ⟨rfl, fun _ h => absurd h List.not_mem_nil⟩⟩⟩⟩⟩⟩) ?_
        refine V_iload_n dX11_game_53 rfl ?_
        refine V_iconst (v := (-1)) dX11_game_54 rfl ?_
        refine V_icmp_eq (tgt := 80) dX11_game_55 rfl (fun _ => ?_) (fun h => absurd h (by decide))
        refine V_iload dX11_game_80 rfl ?_
        refine V_istore_n (ls' := [(2, .int (nI j)), (6, .long (worS Rl Lf far cc 1 j)), (0, .ref 2), (1, .int (nI w)), (3, .long x), (5, .int (nI j))]) dX11_game_82 (by decide) rfl ?_
        refine V_lload dX11_game_83 rfl ?_
        refine V_lstore_n (ls' := [(3, .long (worS Rl Lf far cc 1 j)), (2, .int (nI j)), (6, .long (worS Rl Lf far cc 1 j)), (0, .ref 2), (1, .int (nI w)), (5, .int (nI j))]) dX11_game_85 (by decide) rfl ?_
        refine V_iincN (ls' := [(5, .int (nI (j + 1))), (3, .long (worS Rl Lf far cc 1 j)), (2, .int (nI j)), (6, .long (worS Rl Lf far cc 1 j)), (0, .ref 2), (1, .int (nI w))]) (n := 1) dX11_game_86 rfl rfl (by decide) (by decide) rfl ?_
        refine V_goto (tgt := 20) dX11_game_89 rfl ?_
        refine V_sub2 (ls' := [(0, .ref 2), (1, .int (nI w)), (2, .int (pen (some j))), (3, .long (worS Rl Lf far cc 1 j)), (5, .int (nI (j + 1)))]) (List.forall_mem_cons.mpr ⟨rfl, List.forall_mem_cons.mpr ⟨rfl, List.forall_mem_cons.mpr ⟨(congrArg (fun z => some (Value.int z)) rfl), List.forall_mem_cons.mpr ⟨rfl, List.forall_mem_cons.mpr ⟨rfl, fun _ h => absurd h List.not_mem_nil⟩⟩⟩⟩⟩) ?_
        have e9 : (gmL (worS Rl Lf far cc 1) cc 1 (m + 1) j none x) = (gmL (worS Rl Lf far cc 1) cc 1 m (j + 1) (some j) (worS Rl Lf far cc 1 j)) := by
          conv => lhs; unfold gmL
          exact if_pos ⟨ht, Or.inl rfl⟩
        rw [e9]
        exact ih (j + 1) _ _ _ _ (by omega) (fun c h => by injection h with h; omega) hE2 (Fr2_t hF1 hF2)
      · skip
        have hc4 := hch c rfl
        refine V_sub2 (ls' := [(6, .long (worS Rl Lf far cc 1 j)), (0, .ref 2), (1, .int (nI w)), (2, .int (nI c)), (3, .long x), (5, .int (nI j))]) (List.forall_mem_cons.mpr ⟨rfl, List.forall_mem_cons.mpr ⟨rfl, List.forall_mem_cons.mpr ⟨rfl, List.forall_mem_cons.mpr ⟨rfl, List.forall_mem_cons.mpr ⟨rfl, List.forall_mem_cons.mpr ⟨rfl, fun _ h => absurd h List.not_mem_nil⟩⟩⟩⟩⟩⟩) ?_
        refine V_iload_n dX11_game_53 rfl ?_
        refine V_iconst (v := (-1)) dX11_game_54 rfl ?_
        refine V_icmp_eq (tgt := 80) dX11_game_55 rfl (fun h => absurd h (nI_ne_neg (by omega) (by decide))) (fun _ => ?_)
        refine V_iload_n dX11_game_58 rfl ?_
        refine V_iconst (v := nI 2) dX11_game_59 rfl ?_
        refine V_icmp_geN (tgt := 73) dX11_game_60 rfl (by omega) (by omega) (fun h => absurd h (by omega)) (fun _ => ?_)
        refine V_lload dX11_game_63 rfl ?_
        refine V_lload_n dX11_game_65 rfl ?_
        refine V_lcmp dX11_game_66 ?_
        refine V_if_le (tgt := 86) dX11_game_67 rfl (fun h67 => ?_) (fun h67 => ?_)
        · skip
          have hc : ¬ x < worS Rl Lf far cc 1 j := wl_gt.mp h67
          refine V_iincN (ls' := [(5, .int (nI (j + 1))), (6, .long (worS Rl Lf far cc 1 j)), (0, .ref 2), (1, .int (nI w)), (2, .int (nI c)), (3, .long x)]) (n := 1) dX11_game_86 rfl rfl (by decide) (by decide) rfl ?_
          refine V_goto (tgt := 20) dX11_game_89 rfl ?_
          refine V_sub2 (ls' := [(0, .ref 2), (1, .int (nI w)), (2, .int (pen (some c))), (3, .long x), (5, .int (nI (j + 1)))]) (List.forall_mem_cons.mpr ⟨rfl, List.forall_mem_cons.mpr ⟨rfl, List.forall_mem_cons.mpr ⟨(congrArg (fun z => some (Value.int z)) rfl), List.forall_mem_cons.mpr ⟨rfl, List.forall_mem_cons.mpr ⟨rfl, fun _ h => absurd h List.not_mem_nil⟩⟩⟩⟩⟩) ?_
          have e9 : (gmL (worS Rl Lf far cc 1) cc 1 (m + 1) j (some c) x) = (gmL (worS Rl Lf far cc 1) cc 1 m (j + 1) (some c) x) := by
            conv => lhs; unfold gmL
            exact if_neg (fun h => h.2.elim (fun h => absurd h (by simp)) (fun h => by rw [if_pos rfl] at h; exact hc h))
          rw [e9]
          exact ih (j + 1) _ _ _ _ (by omega) (hch) hE2 (Fr2_t hF1 hF2)
        · skip
          have hc : x < worS Rl Lf far cc 1 j := Decidable.of_not_not (fun h => h67 (wl_gt.mpr h))
          refine V_goto (tgt := 80) dX11_game_70 rfl ?_
          refine V_iload dX11_game_80 rfl ?_
          refine V_istore_n (ls' := [(2, .int (nI j)), (6, .long (worS Rl Lf far cc 1 j)), (0, .ref 2), (1, .int (nI w)), (3, .long x), (5, .int (nI j))]) dX11_game_82 (by decide) rfl ?_
          refine V_lload dX11_game_83 rfl ?_
          refine V_lstore_n (ls' := [(3, .long (worS Rl Lf far cc 1 j)), (2, .int (nI j)), (6, .long (worS Rl Lf far cc 1 j)), (0, .ref 2), (1, .int (nI w)), (5, .int (nI j))]) dX11_game_85 (by decide) rfl ?_
          refine V_iincN (ls' := [(5, .int (nI (j + 1))), (3, .long (worS Rl Lf far cc 1 j)), (2, .int (nI j)), (6, .long (worS Rl Lf far cc 1 j)), (0, .ref 2), (1, .int (nI w))]) (n := 1) dX11_game_86 rfl rfl (by decide) (by decide) rfl ?_
          refine V_goto (tgt := 20) dX11_game_89 rfl ?_
          refine V_sub2 (ls' := [(0, .ref 2), (1, .int (nI w)), (2, .int (pen (some j))), (3, .long (worS Rl Lf far cc 1 j)), (5, .int (nI (j + 1)))]) (List.forall_mem_cons.mpr ⟨rfl, List.forall_mem_cons.mpr ⟨rfl, List.forall_mem_cons.mpr ⟨(congrArg (fun z => some (Value.int z)) rfl), List.forall_mem_cons.mpr ⟨rfl, List.forall_mem_cons.mpr ⟨rfl, fun _ h => absurd h List.not_mem_nil⟩⟩⟩⟩⟩) ?_
          have e9 : (gmL (worS Rl Lf far cc 1) cc 1 (m + 1) j (some c) x) = (gmL (worS Rl Lf far cc 1) cc 1 m (j + 1) (some j) (worS Rl Lf far cc 1 j)) := by
            conv => lhs; unfold gmL
            exact if_pos ⟨ht, Or.inr (by rw [if_pos rfl]; exact hc)⟩
          rw [e9]
          exact ih (j + 1) _ _ _ _ (by omega) (fun c h => by injection h with h; omega) hE2 (Fr2_t hF1 hF2)
    · skip
      refine V_callV (As := [.int (nI j)]) (st := []) (a := 2) dX11_game_29 kX11_isTold lX11_208 (by decide) rfl rfl (Nat.le_of_ble_eq_true rfl) ⟨Nat.le_of_ble_eq_true rfl, Nat.le_of_ble_eq_true rfl⟩ ⟨Nat.le_of_ble_eq_true rfl, Nat.le_of_ble_eq_true rfl⟩ rfl ⟨rfl, by decide⟩ (q_toldN (cC_f hC hF1) (by omega) ht) ?_
      rintro _ _ _ _ ⟨rfl, rfl, rfl, rfl⟩
      refine V_if_eq (tgt := 86) dX11_game_32 rfl (fun _ => ?_) (fun h => absurd h (by decide))
      refine V_iincN (ls' := [(5, .int (nI (j + 1))), (0, .ref 2), (1, .int (nI w)), (2, .int (pen ch)), (3, .long x)]) (n := 1) dX11_game_86 rfl rfl (by decide) (by decide) rfl ?_
      refine V_goto (tgt := 20) dX11_game_89 rfl ?_
      refine V_sub2 (ls' := [(0, .ref 2), (1, .int (nI w)), (2, .int (pen ch)), (3, .long x), (5, .int (nI (j + 1)))]) (List.forall_mem_cons.mpr ⟨rfl, List.forall_mem_cons.mpr ⟨rfl, List.forall_mem_cons.mpr ⟨rfl, List.forall_mem_cons.mpr ⟨rfl, List.forall_mem_cons.mpr ⟨rfl, fun _ h => absurd h List.not_mem_nil⟩⟩⟩⟩⟩) ?_
      have e9 : (gmL (worS Rl Lf far cc 1) cc 1 (m + 1) j ch x) = (gmL (worS Rl Lf far cc 1) cc 1 m (j + 1) ch x) := by
        conv => lhs; unfold gmL
        exact if_neg (fun h => ht h.1)
      rw [e9]
      exact ih (j + 1) _ _ _ _ (by omega) (hch) hE1 hF1

set_option maxRecDepth 100000 in
set_option maxHeartbeats 4000000 in
theorem lp_game0 {G : zG} {I : zI} {J : zJ} {Lf : Nat → (Nat → Int32) → Int32} {Rl : Nat → Nat → (Nat → Int32) → Int32} {far : Nat} (hE : eA Lf Rl I J) (hf : I 2 0 = nI far) (h6 : 6 ≤ far) (h10 : far ≤ 10) {c0 : Nat} {cc : Nat → Nat} (hC : cC I c0 cc) {w : Nat} (hw : 2 ≤ w ∧ w ≤ 3) : ∀ m j ch x I1 J1, j + m = 4 → (∀ c, ch = some c → c < 4) → eA Lf Rl I1 J1 → Fr2 I J I1 J1 → V G mX11_game 19 (zP (fun r I' J' => r = some (.long (gamA (gmL (worS Rl Lf far cc 0) cc 0 m j ch x) w)) ∧ eA Lf Rl I' J' ∧ Fr2 I J I' J')) 20 [(0, .ref 2), (1, .int (nI w)), (2, .int (pen ch)), (3, .long x), (5, .int (nI j))] [] (0, 0) zsh I1 J1 := by
  intro m
  induction m with
  | zero =>
    intro j ch x I1 J1 hk hch hE1 hF1
    refine V_iload dX11_game_20 rfl ?_
    refine V_iconst (v := nI 4) dX11_game_22 rfl ?_
    refine V_icmp_geN (tgt := 92) dX11_game_23 rfl (by omega) (by omega) (fun _ => ?_) (fun h => absurd h (by omega))
    rcases ch with _ | c
    · skip
      refine V_sub2 (ls' := [(0, .ref 2), (1, .int (nI w)), (2, .int (-1)), (3, .long x), (5, .int (nI j))]) (List.forall_mem_cons.mpr ⟨rfl, List.forall_mem_cons.mpr ⟨rfl, List.forall_mem_cons.mpr ⟨rfl, List.forall_mem_cons.mpr ⟨rfl, List.forall_mem_cons.mpr ⟨rfl, fun _ h => absurd h List.not_mem_nil⟩⟩⟩⟩⟩) ?_
      refine V_iload_n dX11_game_92 rfl ?_
      refine V_iconst (v := (-1)) dX11_game_93 rfl ?_
      refine V_icmp_ne (tgt := 101) dX11_game_94 rfl (fun h => absurd h (by decide)) (fun _ => ?_)
      refine V_ldc2 dX11_game_97 qX11_215 ?_
      exact V_lret ⟨rfl, dX11_game_100⟩ ⟨Nat.le_of_ble_eq_true rfl, Nat.le_of_ble_eq_true rfl⟩ ⟨rfl, rfl, hE1, hF1⟩
    · skip
      have hc4 := hch c rfl
      refine V_sub2 (ls' := [(0, .ref 2), (1, .int (nI w)), (2, .int (nI c)), (3, .long x), (5, .int (nI j))]) (List.forall_mem_cons.mpr ⟨rfl, List.forall_mem_cons.mpr ⟨rfl, List.forall_mem_cons.mpr ⟨rfl, List.forall_mem_cons.mpr ⟨rfl, List.forall_mem_cons.mpr ⟨rfl, fun _ h => absurd h List.not_mem_nil⟩⟩⟩⟩⟩) ?_
      refine V_iload_n dX11_game_92 rfl ?_
      refine V_iconst (v := (-1)) dX11_game_93 rfl ?_
      refine V_icmp_ne (tgt := 101) dX11_game_94 rfl (fun _ => ?_) (fun h => absurd h (nI_ne_neg (by omega) (by decide)))
      refine V_iload_n dX11_game_101 rfl ?_
      refine V_if_eqN (tgt := 110) dX11_game_102 rfl (by omega) (fun h102 => ?_) (fun h102 => ?_)
      · skip
        refine V_lload_n dX11_game_110 rfl ?_
        refine V_goto (tgt := 116) dX11_game_111 rfl ?_
        exact V_lret ⟨rfl, dX11_game_116⟩ ⟨Nat.le_of_ble_eq_true rfl, Nat.le_of_ble_eq_true rfl⟩ ⟨rfl, congrArg (fun z => some (Value.long z)) (if_pos (by omega)).symm, hE1, hF1⟩
      · skip
        refine V_iload_n dX11_game_105 rfl ?_
        refine V_iconst (v := nI 2) dX11_game_106 rfl ?_
        refine V_icmp_neN (tgt := 114) dX11_game_107 rfl (by omega) (by omega) (fun h107 => ?_) (fun h107 => ?_)
        · skip
          refine V_iload_n dX11_game_114 rfl ?_
          refine V_i2l dX11_game_115 ?_
          exact V_lret ⟨rfl, dX11_game_116⟩ ⟨Nat.le_of_ble_eq_true rfl, Nat.le_of_ble_eq_true rfl⟩ ⟨rfl, congrArg (fun z => some (Value.long z)) (if_neg (by omega)).symm, hE1, hF1⟩
        · skip
          refine V_lload_n dX11_game_110 rfl ?_
          refine V_goto (tgt := 116) dX11_game_111 rfl ?_
          exact V_lret ⟨rfl, dX11_game_116⟩ ⟨Nat.le_of_ble_eq_true rfl, Nat.le_of_ble_eq_true rfl⟩ ⟨rfl, congrArg (fun z => some (Value.long z)) (if_pos (by omega)).symm, hE1, hF1⟩
  | succ m ih =>
    intro j ch x I1 J1 hk hch hE1 hF1
    refine V_iload dX11_game_20 rfl ?_
    refine V_iconst (v := nI 4) dX11_game_22 rfl ?_
    refine V_icmp_geN (tgt := 92) dX11_game_23 rfl (by omega) (by omega) (fun h => absurd h (by omega)) (fun _ => ?_)
    refine V_aload_n dX11_game_26 rfl ?_
    refine V_iload dX11_game_27 rfl ?_
    by_cases ht : 0 < cc j
    · skip
      refine V_callV (As := [.int (nI j)]) (st := []) (a := 2) dX11_game_29 kX11_isTold lX11_208 (by decide) rfl rfl (Nat.le_of_ble_eq_true rfl) ⟨Nat.le_of_ble_eq_true rfl, Nat.le_of_ble_eq_true rfl⟩ ⟨Nat.le_of_ble_eq_true rfl, Nat.le_of_ble_eq_true rfl⟩ rfl ⟨rfl, by decide⟩ (q_toldY (cC_f hC hF1) (by omega) ht) ?_
      rintro _ _ _ _ ⟨rfl, rfl, rfl, rfl⟩
      refine V_if_eq (tgt := 86) dX11_game_32 rfl (fun h => absurd h (by decide)) (fun _ => ?_)
      refine V_aload_n dX11_game_35 rfl ?_
      refine V_iload dX11_game_36 rfl ?_
      refine V_iload_n dX11_game_38 rfl ?_
      refine V_iconst (v := nI 2) dX11_game_39 rfl ?_
      refine V_icmp_geN (tgt := 47) dX11_game_40 rfl (by omega) (by omega) (fun _ => ?_) (fun h => absurd h (by omega))
      refine V_iconst (v := nI 0) dX11_game_47 rfl ?_
      refine V_callV (As := [.int (nI j), .int (nI 0)]) (st := []) (a := 2) dX11_game_48 kX11_worstFor lX11_211 (by decide) rfl rfl (Nat.le_of_ble_eq_true rfl) ⟨Nat.le_of_ble_eq_true rfl, Nat.le_of_ble_eq_true rfl⟩ ⟨Nat.le_of_ble_eq_true rfl, Nat.le_of_ble_eq_true rfl⟩ rfl ⟨rfl, by decide⟩ (c_worst0 hE1 (far := far) ((congrFun (hF1.1 2 (by decide) (by decide) (by decide) (by decide) (by decide)) 0).trans hf) h6 h10 (cC_f hC hF1)) ?_
      rintro r sh' I2 J2 ⟨rfl, rfl, hE2, hF2⟩
      refine V_lstore (ls' := [(6, .long (worS Rl Lf far cc 0 j)), (0, .ref 2), (1, .int (nI w)), (2, .int (pen ch)), (3, .long x), (5, .int (nI j))]) dX11_game_51 (by decide) rfl ?_
      rcases ch with _ | c
      · skip
        refine V_sub2 (ls' := [(6, .long (worS Rl Lf far cc 0 j)), (0, .ref 2), (1, .int (nI w)), (2, .int (-1)), (3, .long x), (5, .int (nI j))]) (List.forall_mem_cons.mpr ⟨rfl, List.forall_mem_cons.mpr ⟨rfl, List.forall_mem_cons.mpr ⟨rfl, List.forall_mem_cons.mpr ⟨rfl, List.forall_mem_cons.mpr ⟨rfl, List.forall_mem_cons.mpr ⟨rfl, fun _ h => absurd h List.not_mem_nil⟩⟩⟩⟩⟩⟩) ?_
        refine V_iload_n dX11_game_53 rfl ?_
        refine V_iconst (v := (-1)) dX11_game_54 rfl ?_
        refine V_icmp_eq (tgt := 80) dX11_game_55 rfl (fun _ => ?_) (fun h => absurd h (by decide))
        refine V_iload dX11_game_80 rfl ?_
        refine V_istore_n (ls' := [(2, .int (nI j)), (6, .long (worS Rl Lf far cc 0 j)), (0, .ref 2), (1, .int (nI w)), (3, .long x), (5, .int (nI j))]) dX11_game_82 (by decide) rfl ?_
        refine V_lload dX11_game_83 rfl ?_
        refine V_lstore_n (ls' := [(3, .long (worS Rl Lf far cc 0 j)), (2, .int (nI j)), (6, .long (worS Rl Lf far cc 0 j)), (0, .ref 2), (1, .int (nI w)), (5, .int (nI j))]) dX11_game_85 (by decide) rfl ?_
        refine V_iincN (ls' := [(5, .int (nI (j + 1))), (3, .long (worS Rl Lf far cc 0 j)), (2, .int (nI j)), (6, .long (worS Rl Lf far cc 0 j)), (0, .ref 2), (1, .int (nI w))]) (n := 1) dX11_game_86 rfl rfl (by decide) (by decide) rfl ?_
        refine V_goto (tgt := 20) dX11_game_89 rfl ?_
        refine V_sub2 (ls' := [(0, .ref 2), (1, .int (nI w)), (2, .int (pen (some j))), (3, .long (worS Rl Lf far cc 0 j)), (5, .int (nI (j + 1)))]) (List.forall_mem_cons.mpr ⟨rfl, List.forall_mem_cons.mpr ⟨rfl, List.forall_mem_cons.mpr ⟨(congrArg (fun z => some (Value.int z)) rfl), List.forall_mem_cons.mpr ⟨rfl, List.forall_mem_cons.mpr ⟨rfl, fun _ h => absurd h List.not_mem_nil⟩⟩⟩⟩⟩) ?_
        have e9 : (gmL (worS Rl Lf far cc 0) cc 0 (m + 1) j none x) = (gmL (worS Rl Lf far cc 0) cc 0 m (j + 1) (some j) (worS Rl Lf far cc 0 j)) := by
          conv => lhs; unfold gmL
          exact if_pos ⟨ht, Or.inl rfl⟩
        rw [e9]
        exact ih (j + 1) _ _ _ _ (by omega) (fun c h => by injection h with h; omega) hE2 (Fr2_t hF1 hF2)
      · skip
        have hc4 := hch c rfl
        refine V_sub2 (ls' := [(6, .long (worS Rl Lf far cc 0 j)), (0, .ref 2), (1, .int (nI w)), (2, .int (nI c)), (3, .long x), (5, .int (nI j))]) (List.forall_mem_cons.mpr ⟨rfl, List.forall_mem_cons.mpr ⟨rfl, List.forall_mem_cons.mpr ⟨rfl, List.forall_mem_cons.mpr ⟨rfl, List.forall_mem_cons.mpr ⟨rfl, List.forall_mem_cons.mpr ⟨rfl, fun _ h => absurd h List.not_mem_nil⟩⟩⟩⟩⟩⟩) ?_
        refine V_iload_n dX11_game_53 rfl ?_
        refine V_iconst (v := (-1)) dX11_game_54 rfl ?_
        refine V_icmp_eq (tgt := 80) dX11_game_55 rfl (fun h => absurd h (nI_ne_neg (by omega) (by decide))) (fun _ => ?_)
        refine V_iload_n dX11_game_58 rfl ?_
        refine V_iconst (v := nI 2) dX11_game_59 rfl ?_
        refine V_icmp_geN (tgt := 73) dX11_game_60 rfl (by omega) (by omega) (fun _ => ?_) (fun h => absurd h (by omega))
        refine V_lload dX11_game_73 rfl ?_
        refine V_lload_n dX11_game_75 rfl ?_
        refine V_lcmp dX11_game_76 ?_
        refine V_if_ge (tgt := 86) dX11_game_77 rfl (fun h67 => ?_) (fun h67 => ?_)
        · skip
          have hc : ¬ worS Rl Lf far cc 0 j < x := wl_lt.mp h67
          refine V_iincN (ls' := [(5, .int (nI (j + 1))), (6, .long (worS Rl Lf far cc 0 j)), (0, .ref 2), (1, .int (nI w)), (2, .int (nI c)), (3, .long x)]) (n := 1) dX11_game_86 rfl rfl (by decide) (by decide) rfl ?_
          refine V_goto (tgt := 20) dX11_game_89 rfl ?_
          refine V_sub2 (ls' := [(0, .ref 2), (1, .int (nI w)), (2, .int (pen (some c))), (3, .long x), (5, .int (nI (j + 1)))]) (List.forall_mem_cons.mpr ⟨rfl, List.forall_mem_cons.mpr ⟨rfl, List.forall_mem_cons.mpr ⟨(congrArg (fun z => some (Value.int z)) rfl), List.forall_mem_cons.mpr ⟨rfl, List.forall_mem_cons.mpr ⟨rfl, fun _ h => absurd h List.not_mem_nil⟩⟩⟩⟩⟩) ?_
          have e9 : (gmL (worS Rl Lf far cc 0) cc 0 (m + 1) j (some c) x) = (gmL (worS Rl Lf far cc 0) cc 0 m (j + 1) (some c) x) := by
            conv => lhs; unfold gmL
            exact if_neg (fun h => h.2.elim (fun h => absurd h (by simp)) (fun h => by rw [if_neg (by decide)] at h; exact hc h))
          rw [e9]
          exact ih (j + 1) _ _ _ _ (by omega) (hch) hE2 (Fr2_t hF1 hF2)
        · skip
          have hc : worS Rl Lf far cc 0 j < x := Decidable.of_not_not (fun h => h67 (wl_lt.mpr h))
          refine V_iload dX11_game_80 rfl ?_
          refine V_istore_n (ls' := [(2, .int (nI j)), (6, .long (worS Rl Lf far cc 0 j)), (0, .ref 2), (1, .int (nI w)), (3, .long x), (5, .int (nI j))]) dX11_game_82 (by decide) rfl ?_
          refine V_lload dX11_game_83 rfl ?_
          refine V_lstore_n (ls' := [(3, .long (worS Rl Lf far cc 0 j)), (2, .int (nI j)), (6, .long (worS Rl Lf far cc 0 j)), (0, .ref 2), (1, .int (nI w)), (5, .int (nI j))]) dX11_game_85 (by decide) rfl ?_
          refine V_iincN (ls' := [(5, .int (nI (j + 1))), (3, .long (worS Rl Lf far cc 0 j)), (2, .int (nI j)), (6, .long (worS Rl Lf far cc 0 j)), (0, .ref 2), (1, .int (nI w))]) (n := 1) dX11_game_86 rfl rfl (by decide) (by decide) rfl ?_
          refine V_goto (tgt := 20) dX11_game_89 rfl ?_
          refine V_sub2 (ls' := [(0, .ref 2), (1, .int (nI w)), (2, .int (pen (some j))), (3, .long (worS Rl Lf far cc 0 j)), (5, .int (nI (j + 1)))]) (List.forall_mem_cons.mpr ⟨rfl, List.forall_mem_cons.mpr ⟨rfl, List.forall_mem_cons.mpr ⟨(congrArg (fun z => some (Value.int z)) rfl), List.forall_mem_cons.mpr ⟨rfl, List.forall_mem_cons.mpr ⟨rfl, fun _ h => absurd h List.not_mem_nil⟩⟩⟩⟩⟩) ?_
          have e9 : (gmL (worS Rl Lf far cc 0) cc 0 (m + 1) j (some c) x) = (gmL (worS Rl Lf far cc 0) cc 0 m (j + 1) (some j) (worS Rl Lf far cc 0 j)) := by
            conv => lhs; unfold gmL
            exact if_pos ⟨ht, Or.inr (by rw [if_neg (by decide)]; exact hc)⟩
          rw [e9]
          exact ih (j + 1) _ _ _ _ (by omega) (fun c h => by injection h with h; omega) hE2 (Fr2_t hF1 hF2)
    · skip
      refine V_callV (As := [.int (nI j)]) (st := []) (a := 2) dX11_game_29 kX11_isTold lX11_208 (by decide) rfl rfl (Nat.le_of_ble_eq_true rfl) ⟨Nat.le_of_ble_eq_true rfl, Nat.le_of_ble_eq_true rfl⟩ ⟨Nat.le_of_ble_eq_true rfl, Nat.le_of_ble_eq_true rfl⟩ rfl ⟨rfl, by decide⟩ (q_toldN (cC_f hC hF1) (by omega) ht) ?_
      rintro _ _ _ _ ⟨rfl, rfl, rfl, rfl⟩
      refine V_if_eq (tgt := 86) dX11_game_32 rfl (fun _ => ?_) (fun h => absurd h (by decide))
      refine V_iincN (ls' := [(5, .int (nI (j + 1))), (0, .ref 2), (1, .int (nI w)), (2, .int (pen ch)), (3, .long x)]) (n := 1) dX11_game_86 rfl rfl (by decide) (by decide) rfl ?_
      refine V_goto (tgt := 20) dX11_game_89 rfl ?_
      refine V_sub2 (ls' := [(0, .ref 2), (1, .int (nI w)), (2, .int (pen ch)), (3, .long x), (5, .int (nI (j + 1)))]) (List.forall_mem_cons.mpr ⟨rfl, List.forall_mem_cons.mpr ⟨rfl, List.forall_mem_cons.mpr ⟨rfl, List.forall_mem_cons.mpr ⟨rfl, List.forall_mem_cons.mpr ⟨rfl, fun _ h => absurd h List.not_mem_nil⟩⟩⟩⟩⟩) ?_
      have e9 : (gmL (worS Rl Lf far cc 0) cc 0 (m + 1) j ch x) = (gmL (worS Rl Lf far cc 0) cc 0 m (j + 1) ch x) := by
        conv => lhs; unfold gmL
        exact if_neg (fun h => ht h.1)
      rw [e9]
      exact ih (j + 1) _ _ _ _ (by omega) (hch) hE1 hF1

set_option maxRecDepth 100000 in
set_option maxHeartbeats 4000000 in
theorem c_game {G : zG} {I : zI} {J : zJ} {Lf : Nat → (Nat → Int32) → Int32} {Rl : Nat → Nat → (Nat → Int32) → Int32} {far : Nat} (hE : eA Lf Rl I J) (hf : I 2 0 = nI far) (h6 : 6 ≤ far) (h10 : far ≤ 10) {c0 : Nat} {cc : Nat → Nat} (hC : cC I c0 cc) {w : Int32} : zK G mX11_game 19 [.ref 2, .int w] zsh I J (zP (fun r I' J' => r = some (.long (if inZ w 0 3 then gamA (gamS Rl Lf far cc (if w.toInt.toNat < 2 then 1 else 0)) w.toInt.toNat else -1)) ∧ eA Lf Rl I' J' ∧ Fr2 I J I' J')) := by
  refine zK_of kX11_game.2.2.2.2.1 (Nat.le_of_ble_eq_true rfl) ?_
  show V G mX11_game 19 _ 0 [(0, .ref 2), (1, .int w)] [] (0, 0) zsh I J
  by_cases hw : inZ w 0 3
  · obtain ⟨k, rfl, hk0, hk⟩ := inZ_n hw (by decide)
    have ek : (nI k).toInt.toNat = k := by rw [nI_toInt (by omega)]; omega
    by_cases h2 : k < 2
    · skip
      refine V_iload_n dX11_game_0 rfl ?_
      refine V_if_ltN (tgt := 9) dX11_game_1 rfl (by omega) ?_
      refine V_iload_n dX11_game_4 rfl ?_
      refine V_iconst (v := nI 3) dX11_game_5 rfl ?_
      refine V_icmp_leN (tgt := 13) dX11_game_6 rfl (by omega) (by omega) (fun _ => ?_) (fun h => absurd h (by omega))
      refine V_iconst (v := (-1)) dX11_game_13 rfl ?_
      refine V_istore_n (ls' := [(2, .int (-1)), (0, .ref 2), (1, .int (nI k))]) dX11_game_14 (by decide) rfl ?_
      refine V_lconst (v := 0) dX11_game_15 rfl ?_
      refine V_lstore_n (ls' := [(3, .long 0), (2, .int (-1)), (0, .ref 2), (1, .int (nI k))]) dX11_game_16 (by decide) rfl ?_
      refine V_iconst (v := nI 0) dX11_game_17 rfl ?_
      refine V_istore (ls' := [(5, .int (nI 0)), (3, .long 0), (2, .int (-1)), (0, .ref 2), (1, .int (nI k))]) dX11_game_18 (by decide) rfl ?_
      refine V_sub2 (ls' := [(0, .ref 2), (1, .int (nI k)), (2, .int (pen none)), (3, .long 0), (5, .int (nI 0))]) (List.forall_mem_cons.mpr ⟨rfl, List.forall_mem_cons.mpr ⟨rfl, List.forall_mem_cons.mpr ⟨(congrArg (fun z => some (Value.int z)) rfl), List.forall_mem_cons.mpr ⟨rfl, List.forall_mem_cons.mpr ⟨rfl, fun _ h => absurd h List.not_mem_nil⟩⟩⟩⟩⟩) ?_
      refine zQ_mono ?_ (lp_game1 hE hf h6 h10 hC (w := k) (by omega) 4 0 none _ I J (by decide) (fun c h => absurd h (by simp)) hE Fr2_r)
      rintro r sh' I' J' ⟨rfl, h1, h3, h4⟩
      refine ⟨rfl, h1.trans (congrArg (fun z => some (Value.long z)) ?_), h3, h4⟩
      rw [if_pos hw, ek, if_pos h2]
      exact Eq.refl _
    · skip
      refine V_iload_n dX11_game_0 rfl ?_
      refine V_if_ltN (tgt := 9) dX11_game_1 rfl (by omega) ?_
      refine V_iload_n dX11_game_4 rfl ?_
      refine V_iconst (v := nI 3) dX11_game_5 rfl ?_
      refine V_icmp_leN (tgt := 13) dX11_game_6 rfl (by omega) (by omega) (fun _ => ?_) (fun h => absurd h (by omega))
      refine V_iconst (v := (-1)) dX11_game_13 rfl ?_
      refine V_istore_n (ls' := [(2, .int (-1)), (0, .ref 2), (1, .int (nI k))]) dX11_game_14 (by decide) rfl ?_
      refine V_lconst (v := 0) dX11_game_15 rfl ?_
      refine V_lstore_n (ls' := [(3, .long 0), (2, .int (-1)), (0, .ref 2), (1, .int (nI k))]) dX11_game_16 (by decide) rfl ?_
      refine V_iconst (v := nI 0) dX11_game_17 rfl ?_
      refine V_istore (ls' := [(5, .int (nI 0)), (3, .long 0), (2, .int (-1)), (0, .ref 2), (1, .int (nI k))]) dX11_game_18 (by decide) rfl ?_
      refine V_sub2 (ls' := [(0, .ref 2), (1, .int (nI k)), (2, .int (pen none)), (3, .long 0), (5, .int (nI 0))]) (List.forall_mem_cons.mpr ⟨rfl, List.forall_mem_cons.mpr ⟨rfl, List.forall_mem_cons.mpr ⟨(congrArg (fun z => some (Value.int z)) rfl), List.forall_mem_cons.mpr ⟨rfl, List.forall_mem_cons.mpr ⟨rfl, fun _ h => absurd h List.not_mem_nil⟩⟩⟩⟩⟩) ?_
      refine zQ_mono ?_ (lp_game0 hE hf h6 h10 hC (w := k) (by omega) 4 0 none _ I J (by decide) (fun c h => absurd h (by simp)) hE Fr2_r)
      rintro r sh' I' J' ⟨rfl, h1, h3, h4⟩
      refine ⟨rfl, h1.trans (congrArg (fun z => some (Value.long z)) ?_), h3, h4⟩
      rw [if_pos hw, ek, if_neg h2]
      exact Eq.refl _
  · skip
    refine V_iload_n dX11_game_0 rfl ?_
    refine V_if_ltZ (tgt := 9) (a := w.toInt) dX11_game_1 rfl rfl (fun h1 => ?_) (fun h1 => ?_)
    · skip
      refine V_ldc2 dX11_game_9 qX11_190 ?_
      exact V_lret ⟨rfl, dX11_game_12⟩ ⟨Nat.le_of_ble_eq_true rfl, Nat.le_of_ble_eq_true rfl⟩ ⟨rfl, congrArg (fun z => some (Value.long z)) (if_neg hw).symm, hE, Fr2_r⟩
    · skip
      refine V_iload_n dX11_game_4 rfl ?_
      refine V_iconst (v := nI 3) dX11_game_5 rfl ?_
      refine V_icmp_leZ (tgt := 13) (a := w.toInt) (b := 3) dX11_game_6 rfl rfl (by decide) (fun h6 => ?_) (fun h6 => ?_)
      · skip
        exfalso; omega
      · skip
        refine V_ldc2 dX11_game_9 qX11_190 ?_
        exact V_lret ⟨rfl, dX11_game_12⟩ ⟨Nat.le_of_ble_eq_true rfl, Nat.le_of_ble_eq_true rfl⟩ ⟨rfl, congrArg (fun z => some (Value.long z)) (if_neg hw).symm, hE, Fr2_r⟩

/-- the odds of an end's counts at its begin, by who plays first -/
def cnV (Lf : Nat → (Nat → Int32) → Int32) (far : Nat) : Nat → Nat → Int64 := fun f k => vC Lf far (1 - f) k
theorem ratM_c {c c' : Nat → Int64} {v v' : Nat → Int32} (h : ∀ k, k < 7 → c k = c' k) (hv : ∀ k, k < 7 → k ≠ 3 → v k = v' k) : ratM c v = ratM c' v' := by
  unfold ratM
  rw [h 0 (by decide), h 1 (by decide), h 2 (by decide), h 4 (by decide), h 5 (by decide), h 6 (by decide), hv 0 (by decide) (by decide), hv 1 (by decide) (by decide), hv 2 (by decide) (by decide), hv 4 (by decide) (by decide), hv 5 (by decide) (by decide), hv 6 (by decide) (by decide)]
theorem wM_c {cn cn' : Nat → Nat → Int64} (h : ∀ f k, f ≤ 1 → k < 7 → cn f k = cn' f k) : ∀ m x y f, 26 - x - y ≤ m → f ≤ 1 → wM cn x y f = wM cn' x y f := by
  intro m
  induction m with
  | zero =>
    intro x y f hm hf
    by_cases hx : 13 ≤ x
    · rw [wM_13 hx, wM_13 hx]
    · by_cases hy : 13 ≤ y
      · rw [wM_y hx hy, wM_y hx hy]
      · omega
  | succ m ih =>
    intro x y f hm hf
    by_cases hx : 13 ≤ x
    · rw [wM_13 hx, wM_13 hx]
    · by_cases hy : 13 ≤ y
      · rw [wM_y hx hy, wM_y hx hy]
      · rw [wM_r hx hy, wM_r hx hy]
        refine ratM_c (fun k hk => h f k hf hk) (fun k hk hk3 => ?_)
        unfold vM
        by_cases h1 : k < 3
        · rw [if_pos h1, if_pos h1]
          exact ih _ _ _ (by omega) (Nat.le_refl _)
        · rw [if_neg h1, if_neg h1, if_pos (by omega), if_pos (by omega)]
          exact ih _ _ _ (by omega) (Nat.zero_le _)
theorem wM_V {Lf : Nat → (Nat → Int32) → Int32} {far : Nat} {J : zJ} (h : cnX Lf far 7 J) {a b f : Nat} (hf : f ≤ 1) : wM (cnJ J) a b f = wM (cnV Lf far) a b f := by
  refine wM_c (fun g k hg hk => ?_) _ a b f (Nat.le_refl _) hf
  unfold cnJ cnV
  rcases (show g = 0 ∨ g = 1 by omega) with e | e <;> subst e
  · exact (congrArg (J 33) (by omega)).trans (h k hk).1
  · exact (congrArg (J 33) (by omega)).trans (h k hk).2
def mtS (Lf : Nat → (Nat → Int32) → Int32) (far a b f : Nat) : Int32 := if a = 13 then nI 1000000 else if b = 13 then nI 0 else wM (cnV Lf far) a b f
abbrev mtO (a b f : Int32) : Prop := inZ a 0 13 ∧ inZ b 0 13 ∧ ¬ (a.toInt = 13 ∧ b.toInt = 13) ∧ inZ f 0 1
/-- the match's own row too may be another -/
def Fr4 (I : zI) (J : zJ) (I' : zI) (J' : zJ) : Prop := (∀ a, a ≠ 9 → a ≠ 27 → a ≠ 28 → a ≠ 29 → a ≠ 30 → a ≠ 35 → I' a = I a) ∧ ∀ a, a ≠ 31 → a ≠ 32 → a ≠ 33 → J' a = J a
theorem Fr4_r {I : zI} {J : zJ} : Fr4 I J I J := ⟨fun _ _ _ _ _ _ _ => rfl, fun _ _ _ _ => rfl⟩
theorem Fr2_4 {I I' : zI} {J J' : zJ} (h : Fr2 I J I' J') : Fr4 I J I' J' := ⟨fun a b c d e f _ => h.1 a b c d e f, h.2⟩
/-- the ends stand as long as their rows do -/
theorem eA_c {Lf : Nat → (Nat → Int32) → Int32} {Rl : Nat → Nat → (Nat → Int32) → Int32} {I I' : zI} {J J' : zJ} (h : eA Lf Rl I J) (e : ∀ a, 9 ≤ a → a ≤ 30 → I' a = I a) (j1 : J' 31 = J 31) (j2 : J' 32 = J 32) (j3 : J' 33 = J 33) : eA Lf Rl I' J' := by
  obtain ⟨far, h10, ⟨hE, hC, hO⟩, b⟩ := h
  have e9 := e 9 (by decide) (by decide)
  have e30 := e 30 (by decide) (by decide)
  have hE2 : ∀ {f : Nat}, endI I Lf Rl f (btV Lf f) → endI I' Lf Rl f (btV Lf f) := fun hE => by
    obtain ⟨h1, h2, h3, h4, h5⟩ := hE
    refine ⟨tabX_c h1 ⟨e 11 (by decide) (by decide), e 12 (by decide) (by decide), e 13 (by decide) (by decide), e 14 (by decide) (by decide), e 15 (by decide) (by decide)⟩, progI_c h2 (e 16 (by decide) (by decide)) (e 17 (by decide) (by decide)), fun k hk => progI_c (h3 k hk) (e _ (by omega) (by omega)) (e _ (by omega) (by omega)), by rw [e9]; exact h4, fun p q l hs => by rw [e30]; exact h5 p q l hs⟩
  have hC2 : clos I' Lf far := by
    unfold clos clo nbk bk at *
    rw [e30]
    exact hC
  refine ⟨far, h10, ⟨hE2 hE, hC2, fun h6 => ?_⟩, eB_c b (by rw [e9]) j2 j3⟩
  rw [e9] at h6
  obtain ⟨k1, k2, k3, k4, k5⟩ := hO h6
  rw [e9]
  refine ⟨hE2 k1, ⟨by rw [e9], by rw [e9], by rw [e9]⟩, by rw [j1]; exact k3, ?_, hC2⟩
  unfold bk at *
  rw [e30, j1]
  exact k4
theorem eA_35 {Lf : Nat → (Nat → Int32) → Int32} {Rl : Nat → Nat → (Nat → Int32) → Int32} {I I' : zI} {J : zJ} (h : eA Lf Rl I J) (e : ∀ a, a ≠ 35 → I' a = I a) : eA Lf Rl I' J := eA_c h (fun a _ h30 => e a (by omega)) rfl rfl rfl
set_option maxRecDepth 100000 in
set_option maxHeartbeats 4000000 in
theorem c_matchY {G : zG} {I : zI} {J : zJ} {Lf : Nat → (Nat → Int32) → Int32} {Rl : Nat → Nat → (Nat → Int32) → Int32} {far : Nat} (hE : eA Lf Rl I J) (hf : I 2 0 = nI far) (h6 : 6 ≤ far) (h10 : far ≤ 10) {a b f : Nat} (ha : a ≤ 13) (hb : b ≤ 13) (h13 : ¬ (a = 13 ∧ b = 13)) (hf1 : f ≤ 1) : zK G mX11_match 19 [.ref 2, .int (nI a), .int (nI b), .int (nI f)] zsh I J (zP (fun r I' J' => r = some (.int (mtS Lf far a b f)) ∧ eA Lf Rl I' J' ∧ Fr4 I J I' J')) := by
  refine zK_of kX11_match.2.2.2.2.1 (Nat.le_of_ble_eq_true rfl) ?_
  show V G mX11_match 19 _ 0 [(0, .ref 2), (1, .int (nI a)), (2, .int (nI b)), (3, .int (nI f))] [] (0, 0) zsh I J
  refine V_iload_n dX11_match_0 rfl ?_
  refine V_callS (As := [.int (nI a)]) (st := []) dX11_match_1 kX11_isScore lX11_217 (by decide) rfl rfl (Nat.le_of_ble_eq_true rfl) ⟨Nat.le_of_ble_eq_true rfl, Nat.le_of_ble_eq_true rfl⟩ (q_y q_isScore ((inZ_k (by omega)).mpr (by omega))) ?_
  rintro _ _ _ _ ⟨rfl, rfl, rfl, rfl⟩
  refine V_if_eq (tgt := 33) dX11_match_4 rfl (fun h => absurd h (by decide)) (fun _ => ?_)
  refine V_iload_n dX11_match_7 rfl ?_
  refine V_callS (As := [.int (nI b)]) (st := []) dX11_match_8 kX11_isScore lX11_217 (by decide) rfl rfl (Nat.le_of_ble_eq_true rfl) ⟨Nat.le_of_ble_eq_true rfl, Nat.le_of_ble_eq_true rfl⟩ (q_y q_isScore ((inZ_k (by omega)).mpr (by omega))) ?_
  rintro _ _ _ _ ⟨rfl, rfl, rfl, rfl⟩
  refine V_if_eq (tgt := 33) dX11_match_11 rfl (fun h => absurd h (by decide)) (fun _ => ?_)
  refine V_iload_n dX11_match_14 rfl ?_
  refine V_bipush (v := nI 13) dX11_match_15 rfl ?_
  refine V_icmp_neN (tgt := 26) dX11_match_17 rfl (by omega) (by omega) (fun h17 => ?_) (fun h17 => ?_)
  · skip
    refine V_iload_n dX11_match_26 rfl ?_
    refine V_callS (As := [.int (nI f)]) (st := []) dX11_match_27 kX11_isSide lX11_198 (by decide) rfl rfl (Nat.le_of_ble_eq_true rfl) ⟨Nat.le_of_ble_eq_true rfl, Nat.le_of_ble_eq_true rfl⟩ (q_y q_isSide ((inZ_k (by omega)).mpr (by omega))) ?_
    rintro _ _ _ _ ⟨rfl, rfl, rfl, rfl⟩
    refine V_if_ne (tgt := 35) dX11_match_30 rfl (fun _ => ?_) (fun h => absurd h (by decide))
    refine V_iload_n dX11_match_35 rfl ?_
    refine V_bipush (v := nI 13) dX11_match_36 rfl ?_
    refine V_icmp_neN (tgt := 44) dX11_match_38 rfl (by omega) (by omega) (fun h38 => ?_) (fun h38 => ?_)
    · skip
      refine V_iload_n dX11_match_44 rfl ?_
      refine V_bipush (v := nI 13) dX11_match_45 rfl ?_
      refine V_icmp_neN (tgt := 52) dX11_match_47 rfl (by omega) (by omega) (fun h47 => ?_) (fun h47 => ?_)
      · skip
        refine V_aload_n dX11_match_52 rfl ?_
        refine V_getR (b := 34) dX11_match_53 fX11_57 ⟨Nat.le_of_ble_eq_true rfl, Nat.le_of_ble_eq_true rfl⟩ rfl rfl rfl ?_
        refine V_aload_n dX11_match_56 rfl ?_
        refine V_getR (b := 9) dX11_match_57 fX11_33 ⟨Nat.le_of_ble_eq_true rfl, Nat.le_of_ble_eq_true rfl⟩ rfl rfl rfl ?_
        refine V_aload_n dX11_match_60 rfl ?_
        refine V_getI dX11_match_61 fX11_7 ⟨Nat.le_of_ble_eq_true rfl, Nat.le_of_ble_eq_true rfl⟩ rfl rfl ?_
        refine V_eqI (y := nI far) hf ?_
        refine V_callV (As := [.int (nI far)]) (st := [.ref 34]) (a := 9) dX11_match_64 kX3_beginCounts lX11_221 (by decide) rfl rfl (Nat.le_of_ble_eq_true rfl) ⟨Nat.le_of_ble_eq_true rfl, Nat.le_of_ble_eq_true rfl⟩ ⟨Nat.le_of_ble_eq_true rfl, Nat.le_of_ble_eq_true rfl⟩ rfl ⟨rfl, by decide⟩ (c_beginCounts h6 h10 hE) ?_
        rintro r sh' I1 J1 ⟨rfl, rfl, hE1, h12, hcn, hF1⟩
        refine V_iload_n dX11_match_67 rfl ?_
        refine V_iload_n dX11_match_68 rfl ?_
        refine V_iload_n dX11_match_69 rfl ?_
        refine V_callV (As := [.ref 33, .int (nI a), .int (nI b), .int (nI f)]) (st := []) (a := 34) dX11_match_70 kX7_chanceOf0 lX11_225 (by decide) rfl rfl (Nat.le_of_ble_eq_true rfl) ⟨Nat.le_of_ble_eq_true rfl, Nat.le_of_ble_eq_true rfl⟩ ⟨Nat.le_of_ble_eq_true rfl, Nat.le_of_ble_eq_true rfl⟩ rfl ⟨rfl, by decide⟩ (c_chanceOf0 ha hb hf1) ?_
        rintro r sh' I2 J2 ⟨rfl, rfl, ho, rfl⟩
        exact V_iret ⟨Or.inl rfl, dX11_match_73⟩ ⟨Nat.le_of_ble_eq_true rfl, Nat.le_of_ble_eq_true rfl⟩ ⟨rfl, congrArg (fun z => some (Value.int z)) ((wM_V hcn hf1).trans ((if_neg h38).trans (if_neg h47)).symm), eA_35 hE1 ho, ⟨fun x x9 x27 x28 x29 x30 x35 => (ho x x35).trans (hF1.1 x x9 x27 x28 x29 x30), hF1.2⟩⟩
      · skip
        refine V_iconst (v := nI 0) dX11_match_50 rfl ?_
        exact V_iret ⟨Or.inl rfl, dX11_match_51⟩ ⟨Nat.le_of_ble_eq_true rfl, Nat.le_of_ble_eq_true rfl⟩ ⟨rfl, congrArg (fun z => some (Value.int z)) ((if_neg h38).trans (if_pos h47)).symm, hE, Fr4_r⟩
    · skip
      refine V_ldc dX11_match_41 qX11_220 ?_
      refine V_eqI (y := nI 1000000) rfl ?_
      exact V_iret ⟨Or.inl rfl, dX11_match_43⟩ ⟨Nat.le_of_ble_eq_true rfl, Nat.le_of_ble_eq_true rfl⟩ ⟨rfl, congrArg (fun z => some (Value.int z)) (if_pos h38).symm, hE, Fr4_r⟩
  · skip
    refine V_iload_n dX11_match_20 rfl ?_
    refine V_bipush (v := nI 13) dX11_match_21 rfl ?_
    refine V_icmp_eqN (tgt := 33) dX11_match_23 rfl (by omega) (by omega) (fun h23 => ?_) (fun h23 => ?_)
    · skip
      exfalso; exact h13 ⟨h17, h23⟩
    · skip
      refine V_iload_n dX11_match_26 rfl ?_
      refine V_callS (As := [.int (nI f)]) (st := []) dX11_match_27 kX11_isSide lX11_198 (by decide) rfl rfl (Nat.le_of_ble_eq_true rfl) ⟨Nat.le_of_ble_eq_true rfl, Nat.le_of_ble_eq_true rfl⟩ (q_y q_isSide ((inZ_k (by omega)).mpr (by omega))) ?_
      rintro _ _ _ _ ⟨rfl, rfl, rfl, rfl⟩
      refine V_if_ne (tgt := 35) dX11_match_30 rfl (fun _ => ?_) (fun h => absurd h (by decide))
      refine V_iload_n dX11_match_35 rfl ?_
      refine V_bipush (v := nI 13) dX11_match_36 rfl ?_
      refine V_icmp_neN (tgt := 44) dX11_match_38 rfl (by omega) (by omega) (fun h38 => ?_) (fun h38 => ?_)
      · skip
        refine V_iload_n dX11_match_44 rfl ?_
        refine V_bipush (v := nI 13) dX11_match_45 rfl ?_
        refine V_icmp_neN (tgt := 52) dX11_match_47 rfl (by omega) (by omega) (fun h47 => ?_) (fun h47 => ?_)
        · skip
          refine V_aload_n dX11_match_52 rfl ?_
          refine V_getR (b := 34) dX11_match_53 fX11_57 ⟨Nat.le_of_ble_eq_true rfl, Nat.le_of_ble_eq_true rfl⟩ rfl rfl rfl ?_
          refine V_aload_n dX11_match_56 rfl ?_
          refine V_getR (b := 9) dX11_match_57 fX11_33 ⟨Nat.le_of_ble_eq_true rfl, Nat.le_of_ble_eq_true rfl⟩ rfl rfl rfl ?_
          refine V_aload_n dX11_match_60 rfl ?_
          refine V_getI dX11_match_61 fX11_7 ⟨Nat.le_of_ble_eq_true rfl, Nat.le_of_ble_eq_true rfl⟩ rfl rfl ?_
          refine V_eqI (y := nI far) hf ?_
          refine V_callV (As := [.int (nI far)]) (st := [.ref 34]) (a := 9) dX11_match_64 kX3_beginCounts lX11_221 (by decide) rfl rfl (Nat.le_of_ble_eq_true rfl) ⟨Nat.le_of_ble_eq_true rfl, Nat.le_of_ble_eq_true rfl⟩ ⟨Nat.le_of_ble_eq_true rfl, Nat.le_of_ble_eq_true rfl⟩ rfl ⟨rfl, by decide⟩ (c_beginCounts h6 h10 hE) ?_
          rintro r sh' I1 J1 ⟨rfl, rfl, hE1, h12, hcn, hF1⟩
          refine V_iload_n dX11_match_67 rfl ?_
          refine V_iload_n dX11_match_68 rfl ?_
          refine V_iload_n dX11_match_69 rfl ?_
          refine V_callV (As := [.ref 33, .int (nI a), .int (nI b), .int (nI f)]) (st := []) (a := 34) dX11_match_70 kX7_chanceOf0 lX11_225 (by decide) rfl rfl (Nat.le_of_ble_eq_true rfl) ⟨Nat.le_of_ble_eq_true rfl, Nat.le_of_ble_eq_true rfl⟩ ⟨Nat.le_of_ble_eq_true rfl, Nat.le_of_ble_eq_true rfl⟩ rfl ⟨rfl, by decide⟩ (c_chanceOf0 ha hb hf1) ?_
          rintro r sh' I2 J2 ⟨rfl, rfl, ho, rfl⟩
          exact V_iret ⟨Or.inl rfl, dX11_match_73⟩ ⟨Nat.le_of_ble_eq_true rfl, Nat.le_of_ble_eq_true rfl⟩ ⟨rfl, congrArg (fun z => some (Value.int z)) ((wM_V hcn hf1).trans ((if_neg h38).trans (if_neg h47)).symm), eA_35 hE1 ho, ⟨fun x x9 x27 x28 x29 x30 x35 => (ho x x35).trans (hF1.1 x x9 x27 x28 x29 x30), hF1.2⟩⟩
        · skip
          refine V_iconst (v := nI 0) dX11_match_50 rfl ?_
          exact V_iret ⟨Or.inl rfl, dX11_match_51⟩ ⟨Nat.le_of_ble_eq_true rfl, Nat.le_of_ble_eq_true rfl⟩ ⟨rfl, congrArg (fun z => some (Value.int z)) ((if_neg h38).trans (if_pos h47)).symm, hE, Fr4_r⟩
      · skip
        refine V_ldc dX11_match_41 qX11_220 ?_
        refine V_eqI (y := nI 1000000) rfl ?_
        exact V_iret ⟨Or.inl rfl, dX11_match_43⟩ ⟨Nat.le_of_ble_eq_true rfl, Nat.le_of_ble_eq_true rfl⟩ ⟨rfl, congrArg (fun z => some (Value.int z)) (if_pos h38).symm, hE, Fr4_r⟩

set_option maxRecDepth 100000 in
set_option maxHeartbeats 4000000 in
theorem c_matchN {G : zG} {I : zI} {J : zJ} {a b f : Int32} (hO : ¬ mtO a b f) : zK G mX11_match 1 [.ref 2, .int a, .int b, .int f] zsh I J (zA0 (.int (-1)) I J) := by
  refine zK_of kX11_match.2.2.2.2.1 (Nat.le_of_ble_eq_true rfl) ?_
  show V G mX11_match 1 _ 0 [(0, .ref 2), (1, .int a), (2, .int b), (3, .int f)] [] (0, 0) zsh I J
  by_cases ha : inZ a 0 13
  · by_cases hb : inZ b 0 13
    · by_cases hf : inZ f 0 1
      · have h13 : a.toInt = 13 ∧ b.toInt = 13 := Decidable.of_not_not (fun h => hO ⟨ha, hb, h, hf⟩)
        refine V_iload_n dX11_match_0 rfl ?_
        refine V_callS (As := [.int a]) (st := []) dX11_match_1 kX11_isScore lX11_217 (by decide) rfl rfl (Nat.le_of_ble_eq_true rfl) ⟨Nat.le_of_ble_eq_true rfl, Nat.le_of_ble_eq_true rfl⟩ (q_y q_isScore ha) ?_
        rintro _ _ _ _ ⟨rfl, rfl, rfl, rfl⟩
        refine V_if_eq (tgt := 33) dX11_match_4 rfl (fun h => absurd h (by decide)) (fun _ => ?_)
        refine V_iload_n dX11_match_7 rfl ?_
        refine V_callS (As := [.int b]) (st := []) dX11_match_8 kX11_isScore lX11_217 (by decide) rfl rfl (Nat.le_of_ble_eq_true rfl) ⟨Nat.le_of_ble_eq_true rfl, Nat.le_of_ble_eq_true rfl⟩ (q_y q_isScore hb) ?_
        rintro _ _ _ _ ⟨rfl, rfl, rfl, rfl⟩
        refine V_if_eq (tgt := 33) dX11_match_11 rfl (fun h => absurd h (by decide)) (fun _ => ?_)
        refine V_iload_n dX11_match_14 rfl ?_
        refine V_bipush (v := nI 13) dX11_match_15 rfl ?_
        refine V_icmp_neZ (tgt := 26) (a := a.toInt) (b := 13) dX11_match_17 rfl rfl (by decide) (fun h17 => ?_) (fun h17 => ?_)
        · skip
          exfalso; omega
        · skip
          refine V_iload_n dX11_match_20 rfl ?_
          refine V_bipush (v := nI 13) dX11_match_21 rfl ?_
          refine V_icmp_eqZ (tgt := 33) (a := b.toInt) (b := 13) dX11_match_23 rfl rfl (by decide) (fun h23 => ?_) (fun h23 => ?_)
          · skip
            refine V_iconst (v := (-1)) dX11_match_33 rfl ?_
            exact V_iret ⟨Or.inl rfl, dX11_match_34⟩ ⟨Nat.le_of_ble_eq_true rfl, Nat.le_of_ble_eq_true rfl⟩ ⟨rfl, rfl, rfl, rfl⟩
          · skip
            exfalso; omega
      · skip
        refine V_iload_n dX11_match_0 rfl ?_
        refine V_callS (As := [.int a]) (st := []) dX11_match_1 kX11_isScore lX11_217 (by decide) rfl rfl (Nat.le_of_ble_eq_true rfl) ⟨Nat.le_of_ble_eq_true rfl, Nat.le_of_ble_eq_true rfl⟩ (q_y q_isScore ha) ?_
        rintro _ _ _ _ ⟨rfl, rfl, rfl, rfl⟩
        refine V_if_eq (tgt := 33) dX11_match_4 rfl (fun h => absurd h (by decide)) (fun _ => ?_)
        refine V_iload_n dX11_match_7 rfl ?_
        refine V_callS (As := [.int b]) (st := []) dX11_match_8 kX11_isScore lX11_217 (by decide) rfl rfl (Nat.le_of_ble_eq_true rfl) ⟨Nat.le_of_ble_eq_true rfl, Nat.le_of_ble_eq_true rfl⟩ (q_y q_isScore hb) ?_
        rintro _ _ _ _ ⟨rfl, rfl, rfl, rfl⟩
        refine V_if_eq (tgt := 33) dX11_match_11 rfl (fun h => absurd h (by decide)) (fun _ => ?_)
        refine V_iload_n dX11_match_14 rfl ?_
        refine V_bipush (v := nI 13) dX11_match_15 rfl ?_
        refine V_icmp_neZ (tgt := 26) (a := a.toInt) (b := 13) dX11_match_17 rfl rfl (by decide) (fun h17 => ?_) (fun h17 => ?_)
        · skip
          refine V_iload_n dX11_match_26 rfl ?_
          refine V_callS (As := [.int f]) (st := []) dX11_match_27 kX11_isSide lX11_198 (by decide) rfl rfl (Nat.le_of_ble_eq_true rfl) ⟨Nat.le_of_ble_eq_true rfl, Nat.le_of_ble_eq_true rfl⟩ (q_n q_isSide hf) ?_
          rintro _ _ _ _ ⟨rfl, rfl, rfl, rfl⟩
          refine V_if_ne (tgt := 35) dX11_match_30 rfl (fun h => absurd h (by decide)) (fun _ => ?_)
          refine V_iconst (v := (-1)) dX11_match_33 rfl ?_
          exact V_iret ⟨Or.inl rfl, dX11_match_34⟩ ⟨Nat.le_of_ble_eq_true rfl, Nat.le_of_ble_eq_true rfl⟩ ⟨rfl, rfl, rfl, rfl⟩
        · skip
          refine V_iload_n dX11_match_20 rfl ?_
          refine V_bipush (v := nI 13) dX11_match_21 rfl ?_
          refine V_icmp_eqZ (tgt := 33) (a := b.toInt) (b := 13) dX11_match_23 rfl rfl (by decide) (fun h23 => ?_) (fun h23 => ?_)
          · skip
            refine V_iconst (v := (-1)) dX11_match_33 rfl ?_
            exact V_iret ⟨Or.inl rfl, dX11_match_34⟩ ⟨Nat.le_of_ble_eq_true rfl, Nat.le_of_ble_eq_true rfl⟩ ⟨rfl, rfl, rfl, rfl⟩
          · skip
            refine V_iload_n dX11_match_26 rfl ?_
            refine V_callS (As := [.int f]) (st := []) dX11_match_27 kX11_isSide lX11_198 (by decide) rfl rfl (Nat.le_of_ble_eq_true rfl) ⟨Nat.le_of_ble_eq_true rfl, Nat.le_of_ble_eq_true rfl⟩ (q_n q_isSide hf) ?_
            rintro _ _ _ _ ⟨rfl, rfl, rfl, rfl⟩
            refine V_if_ne (tgt := 35) dX11_match_30 rfl (fun h => absurd h (by decide)) (fun _ => ?_)
            refine V_iconst (v := (-1)) dX11_match_33 rfl ?_
            exact V_iret ⟨Or.inl rfl, dX11_match_34⟩ ⟨Nat.le_of_ble_eq_true rfl, Nat.le_of_ble_eq_true rfl⟩ ⟨rfl, rfl, rfl, rfl⟩
    · skip
      refine V_iload_n dX11_match_0 rfl ?_
      refine V_callS (As := [.int a]) (st := []) dX11_match_1 kX11_isScore lX11_217 (by decide) rfl rfl (Nat.le_of_ble_eq_true rfl) ⟨Nat.le_of_ble_eq_true rfl, Nat.le_of_ble_eq_true rfl⟩ (q_y q_isScore ha) ?_
      rintro _ _ _ _ ⟨rfl, rfl, rfl, rfl⟩
      refine V_if_eq (tgt := 33) dX11_match_4 rfl (fun h => absurd h (by decide)) (fun _ => ?_)
      refine V_iload_n dX11_match_7 rfl ?_
      refine V_callS (As := [.int b]) (st := []) dX11_match_8 kX11_isScore lX11_217 (by decide) rfl rfl (Nat.le_of_ble_eq_true rfl) ⟨Nat.le_of_ble_eq_true rfl, Nat.le_of_ble_eq_true rfl⟩ (q_n q_isScore hb) ?_
      rintro _ _ _ _ ⟨rfl, rfl, rfl, rfl⟩
      refine V_if_eq (tgt := 33) dX11_match_11 rfl (fun _ => ?_) (fun h => absurd h (by decide))
      refine V_iconst (v := (-1)) dX11_match_33 rfl ?_
      exact V_iret ⟨Or.inl rfl, dX11_match_34⟩ ⟨Nat.le_of_ble_eq_true rfl, Nat.le_of_ble_eq_true rfl⟩ ⟨rfl, rfl, rfl, rfl⟩
  · skip
    refine V_iload_n dX11_match_0 rfl ?_
    refine V_callS (As := [.int a]) (st := []) dX11_match_1 kX11_isScore lX11_217 (by decide) rfl rfl (Nat.le_of_ble_eq_true rfl) ⟨Nat.le_of_ble_eq_true rfl, Nat.le_of_ble_eq_true rfl⟩ (q_n q_isScore ha) ?_
    rintro _ _ _ _ ⟨rfl, rfl, rfl, rfl⟩
    refine V_if_eq (tgt := 33) dX11_match_4 rfl (fun _ => ?_) (fun h => absurd h (by decide))
    refine V_iconst (v := (-1)) dX11_match_33 rfl ?_
    exact V_iret ⟨Or.inl rfl, dX11_match_34⟩ ⟨Nat.le_of_ble_eq_true rfl, Nat.le_of_ble_eq_true rfl⟩ ⟨rfl, rfl, rfl, rfl⟩

