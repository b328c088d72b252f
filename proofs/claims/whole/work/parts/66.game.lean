/-! THE MODEL: games of rules -/
theorem wfL_t {v : Nat → Int64} {cc : Nat → Nat} {s m k : Nat} {x : Int64} (h : 0 < cc k) : wfL v cc s (m + 1) k x = wfL v cc s m (k + 1) (if s = 1 then (if v k < x then v k else x) else (if v k < x then x else v k)) := congrArg (wfL v cc s m (k + 1)) (if_pos h)
theorem wfL_f {v : Nat → Int64} {cc : Nat → Nat} {s m k : Nat} {x : Int64} (h : ¬ 0 < cc k) : wfL v cc s (m + 1) k x = wfL v cc s m (k + 1) x := congrArg (wfL v cc s m (k + 1)) (if_neg h)
theorem tldY {G : zG} {I : zI} {J : zJ} {c0 : Nat} {cc : Nat → Nat} (hC : cM I c0 cc) {k : Nat} (hk : k < 4) (h : 0 < cc k) : zK G mX12_isTold 1 [.ref 62, .int (nI k)] zsh I J (zA0 (.int (nI 1)) I J) := q_y (w_isTold hC) ((tld_k hk).mpr h)
theorem tldN {G : zG} {I : zI} {J : zJ} {c0 : Nat} {cc : Nat → Nat} (hC : cM I c0 cc) {k : Nat} (hk : k < 4) (h : ¬ 0 < cc k) : zK G mX12_isTold 1 [.ref 62, .int (nI k)] zsh I J (zA0 (.int (nI 0)) I J) := q_n (w_isTold hC) (fun h2 => h ((tld_k hk).mp h2))
theorem i64_y {a b : Int64} (h : ¬ 0 ≤ lg_cmp a b) : a < b := Classical.byContradiction (fun g => h (wl_lt.mpr g))
theorem i64_n {a b : Int64} (h : 0 ≤ lg_cmp a b) : ¬ a < b := wl_lt.mp h
theorem i64_z {a b : Int64} (h : ¬ lg_cmp a b ≤ 0) : (if a < b then b else a) = a := if_neg (fun g => h (wl_gt.mpr (fun g2 => by rw [Int64.lt_iff_toInt_lt] at g g2; omega)))
theorem i64_o {a b : Int64} (h : lg_cmp a b ≤ 0) : (if a < b then b else a) = b := by
  by_cases g : a < b
  · exact if_pos g
  · rw [if_neg g]
    have g2 := wl_gt.mp h
    rw [Int64.lt_iff_toInt_lt] at g g2
    exact Int64.toInt_inj.mp (by omega)
theorem sen1 {u : Int64} (h : -(10 ^ 17) ≤ u.toInt ∧ u.toInt ≤ 10 ^ 17) : (if u < 4000000000000000000 then u else 4000000000000000000) = u := if_pos (by
  rw [Int64.lt_iff_toInt_lt, show (4000000000000000000 : Int64).toInt = 4000000000000000000 from by decide]
  omega)
theorem sen0 {u : Int64} (h : -(10 ^ 17) ≤ u.toInt ∧ u.toInt ≤ 10 ^ 17) : (if u < -4000000000000000000 then -4000000000000000000 else u) = u := if_neg (by
  rw [Int64.lt_iff_toInt_lt, show (-4000000000000000000 : Int64).toInt = -4000000000000000000 from by decide]
  omega)
theorem ex_n {cc : Nat → Nat} {k n : Nat} (h : ∃ i, k ≤ i ∧ i < k + (n + 1) ∧ 0 < cc i) (hk : ¬ 0 < cc k) : ∃ i, k + 1 ≤ i ∧ i < k + 1 + n ∧ 0 < cc i := by
  obtain ⟨i, h1, h2, h3⟩ := h
  have h4 : ¬ k = i := fun e => hk (e ▸ h3)
  exact ⟨i, by omega, by omega, h3⟩
set_option maxRecDepth 100000 in
set_option maxHeartbeats 4000000 in
theorem lp_lowOf1 {G : zG} {I : zI} {J : zJ} {Q : zQ} {c0 : Nat} {cc : Nat → Nat} (hC : cM I c0 cc) {j : Nat} (hj : j < 4) {v : Nat → Int64} (hv : ∀ k, k < 4 → 0 < cc k → J 86 (4 * j + k) = v k)  : ∀ n k x, k + n = 4 → Q (some (.long (wfL v cc 1 n k x))) zsh I J → V G mX12_lowOf 2 Q 8 [(0, .ref 62), (1, .int (nI j)), (2, .long x), (4, .int (nI 1)), (5, .int (nI k))] [] (0, 0) zsh I J := by
  intro n
  induction n with
  | zero =>
    intro k x hk hQ
    refine V_iload dX12_lowOf_8 rfl ?_
    refine V_iconst (v := nI 4) dX12_lowOf_10 rfl ?_
    refine V_icmp_geN (tgt := 68) dX12_lowOf_11 rfl (by omega) (by omega) (fun _ => ?_) (fun h => absurd h (by omega))
    refine V_lload_n dX12_lowOf_68 rfl ?_
    exact V_lret ⟨rfl, dX12_lowOf_69⟩ ⟨Nat.le_of_ble_eq_true rfl, Nat.le_of_ble_eq_true rfl⟩ hQ
  | succ n ih =>
    intro k x hk hQ
    refine V_iload dX12_lowOf_8 rfl ?_
    refine V_iconst (v := nI 4) dX12_lowOf_10 rfl ?_
    refine V_icmp_geN (tgt := 68) dX12_lowOf_11 rfl (by omega) (by omega) (fun h => absurd h (by omega)) (fun _ => ?_)
    by_cases ht : 0 < cc k
    · skip
      refine V_aload_n dX12_lowOf_14 rfl ?_
      refine V_iload dX12_lowOf_15 rfl ?_
      refine V_callV (As := [.int (nI k)]) (st := []) (a := 62) dX12_lowOf_17 kX12_isTold lX12_401 (by decide) rfl rfl (Nat.le_of_ble_eq_true rfl) ⟨Nat.le_of_ble_eq_true rfl, Nat.le_of_ble_eq_true rfl⟩ ⟨Nat.le_of_ble_eq_true rfl, Nat.le_of_ble_eq_true rfl⟩ rfl ⟨rfl, by decide⟩ (tldY hC (by omega) ht) ?_
      rintro _ _ _ _ ⟨rfl, rfl, rfl, rfl⟩
      refine V_if_eq (tgt := 62) dX12_lowOf_20 rfl (fun h => absurd h (by decide)) (fun _ => ?_)
      refine V_iload dX12_lowOf_23 rfl ?_
      refine V_if_eq (tgt := 47) dX12_lowOf_25 rfl (fun h => absurd h (by decide)) (fun _ => ?_)
      refine V_aload_n dX12_lowOf_28 rfl ?_
      refine V_getR (b := 86) dX12_lowOf_29 fX12_82 ⟨Nat.le_of_ble_eq_true rfl, Nat.le_of_ble_eq_true rfl⟩ rfl rfl rfl ?_
      refine V_iconst (v := nI 4) dX12_lowOf_32 rfl ?_
      refine V_iload_n dX12_lowOf_33 rfl ?_
      refine V_imulN dX12_lowOf_34 ?_
      refine V_iload dX12_lowOf_35 rfl ?_
      refine V_iaddN dX12_lowOf_37 ?_
      refine V_laldN (k := (4 * j) + k) dX12_lowOf_38 ⟨Nat.le_of_ble_eq_true rfl, Nat.le_of_ble_eq_true rfl⟩ rfl (by decide) (by omega) ?_
      refine V_eqL (y := v k) (hv k (by omega) ht) ?_
      refine V_lload_n dX12_lowOf_39 rfl ?_
      refine V_lcmp dX12_lowOf_40 ?_
      refine V_if_lt (tgt := 47) dX12_lowOf_41 rfl (fun hX => ?_) (fun hX => ?_)
      · skip
        refine V_aload_n dX12_lowOf_47 rfl ?_
        refine V_getR (b := 86) dX12_lowOf_48 fX12_82 ⟨Nat.le_of_ble_eq_true rfl, Nat.le_of_ble_eq_true rfl⟩ rfl rfl rfl ?_
        refine V_iconst (v := nI 4) dX12_lowOf_51 rfl ?_
        refine V_iload_n dX12_lowOf_52 rfl ?_
        refine V_imulN dX12_lowOf_53 ?_
        refine V_iload dX12_lowOf_54 rfl ?_
        refine V_iaddN dX12_lowOf_56 ?_
        refine V_laldN (k := (4 * j) + k) dX12_lowOf_57 ⟨Nat.le_of_ble_eq_true rfl, Nat.le_of_ble_eq_true rfl⟩ rfl (by decide) (by omega) ?_
        refine V_eqL (y := v k) (hv k (by omega) ht) ?_
        refine V_lstore_n (ls' := [(2, .long (v k)), (0, .ref 62), (1, .int (nI j)), (4, .int (nI 1)), (5, .int (nI k))]) dX12_lowOf_58 (by decide) rfl ?_
        refine V_iconst (v := nI 1) dX12_lowOf_59 rfl ?_
        refine V_istore (ls' := [(4, .int (nI 1)), (2, .long (v k)), (0, .ref 62), (1, .int (nI j)), (5, .int (nI k))]) dX12_lowOf_60 (by decide) rfl ?_
        refine V_iincN (ls' := [(5, .int (nI (k + 1))), (4, .int (nI 1)), (2, .long (v k)), (0, .ref 62), (1, .int (nI j))]) (n := 1) dX12_lowOf_62 rfl rfl (by decide) (by decide) rfl ?_
        refine V_goto (tgt := 8) dX12_lowOf_65 rfl ?_
        refine V_sub2 (ls' := [(0, .ref 62), (1, .int (nI j)), (2, .long (v k)), (4, .int (nI 1)), (5, .int (nI (k + 1)))]) (List.forall_mem_cons.mpr ⟨rfl, List.forall_mem_cons.mpr ⟨rfl, List.forall_mem_cons.mpr ⟨rfl, List.forall_mem_cons.mpr ⟨rfl, List.forall_mem_cons.mpr ⟨rfl, fun _ h => absurd h List.not_mem_nil⟩⟩⟩⟩⟩) ?_
        rw [wfL_t ht, show (if 1 = 1 then (if v k < x then v k else x) else (if v k < x then x else v k)) = v k from (if_pos rfl).trans (if_pos (i64_y (Int32.not_le.mpr hX)))] at hQ
        exact ih (k + 1) (v k) (by omega) hQ
      · skip
        refine V_goto (tgt := 62) dX12_lowOf_44 rfl ?_
        refine V_iincN (ls' := [(5, .int (nI (k + 1))), (0, .ref 62), (1, .int (nI j)), (2, .long x), (4, .int (nI 1))]) (n := 1) dX12_lowOf_62 rfl rfl (by decide) (by decide) rfl ?_
        refine V_goto (tgt := 8) dX12_lowOf_65 rfl ?_
        refine V_sub2 (ls' := [(0, .ref 62), (1, .int (nI j)), (2, .long x), (4, .int (nI 1)), (5, .int (nI (k + 1)))]) (List.forall_mem_cons.mpr ⟨rfl, List.forall_mem_cons.mpr ⟨rfl, List.forall_mem_cons.mpr ⟨rfl, List.forall_mem_cons.mpr ⟨rfl, List.forall_mem_cons.mpr ⟨rfl, fun _ h => absurd h List.not_mem_nil⟩⟩⟩⟩⟩) ?_
        rw [wfL_t ht, show (if 1 = 1 then (if v k < x then v k else x) else (if v k < x then x else v k)) = x from (if_pos rfl).trans (if_neg (i64_n (Int32.not_lt.mp hX)))] at hQ
        exact ih (k + 1) x (by omega) hQ
    · skip
      refine V_aload_n dX12_lowOf_14 rfl ?_
      refine V_iload dX12_lowOf_15 rfl ?_
      refine V_callV (As := [.int (nI k)]) (st := []) (a := 62) dX12_lowOf_17 kX12_isTold lX12_401 (by decide) rfl rfl (Nat.le_of_ble_eq_true rfl) ⟨Nat.le_of_ble_eq_true rfl, Nat.le_of_ble_eq_true rfl⟩ ⟨Nat.le_of_ble_eq_true rfl, Nat.le_of_ble_eq_true rfl⟩ rfl ⟨rfl, by decide⟩ (tldN hC (by omega) ht) ?_
      rintro _ _ _ _ ⟨rfl, rfl, rfl, rfl⟩
      refine V_if_eq (tgt := 62) dX12_lowOf_20 rfl (fun _ => ?_) (fun h => absurd h (by decide))
      refine V_iincN (ls' := [(5, .int (nI (k + 1))), (0, .ref 62), (1, .int (nI j)), (2, .long x), (4, .int (nI 1))]) (n := 1) dX12_lowOf_62 rfl rfl (by decide) (by decide) rfl ?_
      refine V_goto (tgt := 8) dX12_lowOf_65 rfl ?_
      refine V_sub2 (ls' := [(0, .ref 62), (1, .int (nI j)), (2, .long x), (4, .int (nI 1)), (5, .int (nI (k + 1)))]) (List.forall_mem_cons.mpr ⟨rfl, List.forall_mem_cons.mpr ⟨rfl, List.forall_mem_cons.mpr ⟨rfl, List.forall_mem_cons.mpr ⟨rfl, List.forall_mem_cons.mpr ⟨rfl, fun _ h => absurd h List.not_mem_nil⟩⟩⟩⟩⟩) ?_
      rw [wfL_f ht] at hQ
      exact ih (k + 1) x (by omega) hQ

set_option maxRecDepth 100000 in
set_option maxHeartbeats 4000000 in
theorem lp_lowOf0 {G : zG} {I : zI} {J : zJ} {Q : zQ} {c0 : Nat} {cc : Nat → Nat} (hC : cM I c0 cc) {j : Nat} (hj : j < 4) {v : Nat → Int64} (hv : ∀ k, k < 4 → 0 < cc k → J 86 (4 * j + k) = v k) (hb : ∀ k, k < 4 → 0 < cc k → -(10 ^ 17) ≤ (v k).toInt ∧ (v k).toInt ≤ 10 ^ 17) : ∀ n k, k + n = 4 → (∃ i, k ≤ i ∧ i < k + n ∧ 0 < cc i) → Q (some (.long (wfL v cc 1 n k (4000000000000000000)))) zsh I J → V G mX12_lowOf 2 Q 8 [(0, .ref 62), (1, .int (nI j)), (2, .long 0), (4, .int (nI 0)), (5, .int (nI k))] [] (0, 0) zsh I J := by
  intro n
  induction n with
  | zero =>
    intro k hk hex hQ
    obtain ⟨i, h1, h2, _⟩ := hex
    omega
  | succ n ih =>
    intro k hk hex hQ
    refine V_iload dX12_lowOf_8 rfl ?_
    refine V_iconst (v := nI 4) dX12_lowOf_10 rfl ?_
    refine V_icmp_geN (tgt := 68) dX12_lowOf_11 rfl (by omega) (by omega) (fun h => absurd h (by omega)) (fun _ => ?_)
    by_cases ht : 0 < cc k
    · skip
      refine V_aload_n dX12_lowOf_14 rfl ?_
      refine V_iload dX12_lowOf_15 rfl ?_
      refine V_callV (As := [.int (nI k)]) (st := []) (a := 62) dX12_lowOf_17 kX12_isTold lX12_401 (by decide) rfl rfl (Nat.le_of_ble_eq_true rfl) ⟨Nat.le_of_ble_eq_true rfl, Nat.le_of_ble_eq_true rfl⟩ ⟨Nat.le_of_ble_eq_true rfl, Nat.le_of_ble_eq_true rfl⟩ rfl ⟨rfl, by decide⟩ (tldY hC (by omega) ht) ?_
      rintro _ _ _ _ ⟨rfl, rfl, rfl, rfl⟩
      refine V_if_eq (tgt := 62) dX12_lowOf_20 rfl (fun h => absurd h (by decide)) (fun _ => ?_)
      refine V_iload dX12_lowOf_23 rfl ?_
      refine V_if_eq (tgt := 47) dX12_lowOf_25 rfl (fun _ => ?_) (fun h => absurd h (by decide))
      refine V_aload_n dX12_lowOf_47 rfl ?_
      refine V_getR (b := 86) dX12_lowOf_48 fX12_82 ⟨Nat.le_of_ble_eq_true rfl, Nat.le_of_ble_eq_true rfl⟩ rfl rfl rfl ?_
      refine V_iconst (v := nI 4) dX12_lowOf_51 rfl ?_
      refine V_iload_n dX12_lowOf_52 rfl ?_
      refine V_imulN dX12_lowOf_53 ?_
      refine V_iload dX12_lowOf_54 rfl ?_
      refine V_iaddN dX12_lowOf_56 ?_
      refine V_laldN (k := (4 * j) + k) dX12_lowOf_57 ⟨Nat.le_of_ble_eq_true rfl, Nat.le_of_ble_eq_true rfl⟩ rfl (by decide) (by omega) ?_
      refine V_eqL (y := v k) (hv k (by omega) ht) ?_
      refine V_lstore_n (ls' := [(2, .long (v k)), (0, .ref 62), (1, .int (nI j)), (4, .int (nI 0)), (5, .int (nI k))]) dX12_lowOf_58 (by decide) rfl ?_
      refine V_iconst (v := nI 1) dX12_lowOf_59 rfl ?_
      refine V_istore (ls' := [(4, .int (nI 1)), (2, .long (v k)), (0, .ref 62), (1, .int (nI j)), (5, .int (nI k))]) dX12_lowOf_60 (by decide) rfl ?_
      refine V_iincN (ls' := [(5, .int (nI (k + 1))), (4, .int (nI 1)), (2, .long (v k)), (0, .ref 62), (1, .int (nI j))]) (n := 1) dX12_lowOf_62 rfl rfl (by decide) (by decide) rfl ?_
      refine V_goto (tgt := 8) dX12_lowOf_65 rfl ?_
      refine V_sub2 (ls' := [(0, .ref 62), (1, .int (nI j)), (2, .long (v k)), (4, .int (nI 1)), (5, .int (nI (k + 1)))]) (List.forall_mem_cons.mpr ⟨rfl, List.forall_mem_cons.mpr ⟨rfl, List.forall_mem_cons.mpr ⟨rfl, List.forall_mem_cons.mpr ⟨rfl, List.forall_mem_cons.mpr ⟨rfl, fun _ h => absurd h List.not_mem_nil⟩⟩⟩⟩⟩) ?_
      rw [wfL_t ht, show (if 1 = 1 then (if v k < 4000000000000000000 then v k else 4000000000000000000) else (if v k < 4000000000000000000 then 4000000000000000000 else v k)) = v k from (if_pos rfl).trans (sen1 (hb k (by omega) ht))] at hQ
      exact lp_lowOf1 hC hj hv n (k + 1) (v k) (by omega) hQ
    · skip
      refine V_aload_n dX12_lowOf_14 rfl ?_
      refine V_iload dX12_lowOf_15 rfl ?_
      refine V_callV (As := [.int (nI k)]) (st := []) (a := 62) dX12_lowOf_17 kX12_isTold lX12_401 (by decide) rfl rfl (Nat.le_of_ble_eq_true rfl) ⟨Nat.le_of_ble_eq_true rfl, Nat.le_of_ble_eq_true rfl⟩ ⟨Nat.le_of_ble_eq_true rfl, Nat.le_of_ble_eq_true rfl⟩ rfl ⟨rfl, by decide⟩ (tldN hC (by omega) ht) ?_
      rintro _ _ _ _ ⟨rfl, rfl, rfl, rfl⟩
      refine V_if_eq (tgt := 62) dX12_lowOf_20 rfl (fun _ => ?_) (fun h => absurd h (by decide))
      refine V_iincN (ls' := [(5, .int (nI (k + 1))), (0, .ref 62), (1, .int (nI j)), (2, .long 0), (4, .int (nI 0))]) (n := 1) dX12_lowOf_62 rfl rfl (by decide) (by decide) rfl ?_
      refine V_goto (tgt := 8) dX12_lowOf_65 rfl ?_
      refine V_sub2 (ls' := [(0, .ref 62), (1, .int (nI j)), (2, .long 0), (4, .int (nI 0)), (5, .int (nI (k + 1)))]) (List.forall_mem_cons.mpr ⟨rfl, List.forall_mem_cons.mpr ⟨rfl, List.forall_mem_cons.mpr ⟨rfl, List.forall_mem_cons.mpr ⟨rfl, List.forall_mem_cons.mpr ⟨rfl, fun _ h => absurd h List.not_mem_nil⟩⟩⟩⟩⟩) ?_
      rw [wfL_f ht] at hQ
      exact ih (k + 1) (by omega) (ex_n hex ht) hQ

set_option maxRecDepth 100000 in
set_option maxHeartbeats 4000000 in
theorem w_lowOf {G : zG} {I : zI} {J : zJ} {c0 : Nat} {cc : Nat → Nat} (hC : cM I c0 cc) {j : Nat} (hj : j < 4) (hjt : 0 < cc j) {v : Nat → Int64} (hv : ∀ k, k < 4 → 0 < cc k → J 86 (4 * j + k) = v k) (hb : ∀ k, k < 4 → 0 < cc k → -(10 ^ 17) ≤ (v k).toInt ∧ (v k).toInt ≤ 10 ^ 17) : zK G mX12_lowOf 2 [.ref 62, .int (nI j)] zsh I J (zA0 (.long (wfL v cc 1 4 0 (4000000000000000000))) I J) := by
  refine zK_of kX12_lowOf.2.2.2.2.1 (Nat.le_of_ble_eq_true rfl) ?_
  show V G mX12_lowOf 2 _ 0 [(0, .ref 62), (1, .int (nI j))] [] (0, 0) zsh I J
  refine V_lconst (v := 0) dX12_lowOf_0 rfl ?_
  refine V_lstore_n (ls' := [(2, .long 0), (0, .ref 62), (1, .int (nI j))]) dX12_lowOf_1 (by decide) rfl ?_
  refine V_iconst (v := nI 0) dX12_lowOf_2 rfl ?_
  refine V_istore (ls' := [(4, .int (nI 0)), (2, .long 0), (0, .ref 62), (1, .int (nI j))]) dX12_lowOf_3 (by decide) rfl ?_
  refine V_iconst (v := nI 0) dX12_lowOf_5 rfl ?_
  refine V_istore (ls' := [(5, .int (nI 0)), (4, .int (nI 0)), (2, .long 0), (0, .ref 62), (1, .int (nI j))]) dX12_lowOf_6 (by decide) rfl ?_
  refine V_sub2 (ls' := [(0, .ref 62), (1, .int (nI j)), (2, .long 0), (4, .int (nI 0)), (5, .int (nI 0))]) (List.forall_mem_cons.mpr ⟨rfl, List.forall_mem_cons.mpr ⟨rfl, List.forall_mem_cons.mpr ⟨rfl, List.forall_mem_cons.mpr ⟨rfl, List.forall_mem_cons.mpr ⟨rfl, fun _ h => absurd h List.not_mem_nil⟩⟩⟩⟩⟩) ?_
  exact lp_lowOf0 hC hj hv hb 4 0 rfl ⟨j, Nat.zero_le _, by omega, hjt⟩ ⟨rfl, rfl, rfl, rfl⟩

set_option maxRecDepth 100000 in
set_option maxHeartbeats 4000000 in
theorem lp_highOf1 {G : zG} {I : zI} {J : zJ} {Q : zQ} {c0 : Nat} {cc : Nat → Nat} (hC : cM I c0 cc) {j : Nat} (hj : j < 4) {v : Nat → Int64} (hv : ∀ k, k < 4 → 0 < cc k → J 86 (4 * k + j) = v k)  : ∀ n k x, k + n = 4 → Q (some (.long (wfL v cc 0 n k x))) zsh I J → V G mX12_highOf 2 Q 8 [(0, .ref 62), (1, .int (nI j)), (2, .long x), (4, .int (nI 1)), (5, .int (nI k))] [] (0, 0) zsh I J := by
  intro n
  induction n with
  | zero =>
    intro k x hk hQ
    refine V_iload dX12_highOf_8 rfl ?_
    refine V_iconst (v := nI 4) dX12_highOf_10 rfl ?_
    refine V_icmp_geN (tgt := 68) dX12_highOf_11 rfl (by omega) (by omega) (fun _ => ?_) (fun h => absurd h (by omega))
    refine V_lload_n dX12_highOf_68 rfl ?_
    exact V_lret ⟨rfl, dX12_highOf_69⟩ ⟨Nat.le_of_ble_eq_true rfl, Nat.le_of_ble_eq_true rfl⟩ hQ
  | succ n ih =>
    intro k x hk hQ
    refine V_iload dX12_highOf_8 rfl ?_
    refine V_iconst (v := nI 4) dX12_highOf_10 rfl ?_
    refine V_icmp_geN (tgt := 68) dX12_highOf_11 rfl (by omega) (by omega) (fun h => absurd h (by omega)) (fun _ => ?_)
    by_cases ht : 0 < cc k
    · skip
      refine V_aload_n dX12_highOf_14 rfl ?_
      refine V_iload dX12_highOf_15 rfl ?_
      refine V_callV (As := [.int (nI k)]) (st := []) (a := 62) dX12_highOf_17 kX12_isTold lX12_401 (by decide) rfl rfl (Nat.le_of_ble_eq_true rfl) ⟨Nat.le_of_ble_eq_true rfl, Nat.le_of_ble_eq_true rfl⟩ ⟨Nat.le_of_ble_eq_true rfl, Nat.le_of_ble_eq_true rfl⟩ rfl ⟨rfl, by decide⟩ (tldY hC (by omega) ht) ?_
      rintro _ _ _ _ ⟨rfl, rfl, rfl, rfl⟩
      refine V_if_eq (tgt := 62) dX12_highOf_20 rfl (fun h => absurd h (by decide)) (fun _ => ?_)
      refine V_iload dX12_highOf_23 rfl ?_
      refine V_if_eq (tgt := 47) dX12_highOf_25 rfl (fun h => absurd h (by decide)) (fun _ => ?_)
      refine V_aload_n dX12_highOf_28 rfl ?_
      refine V_getR (b := 86) dX12_highOf_29 fX12_82 ⟨Nat.le_of_ble_eq_true rfl, Nat.le_of_ble_eq_true rfl⟩ rfl rfl rfl ?_
      refine V_iconst (v := nI 4) dX12_highOf_32 rfl ?_
      refine V_iload dX12_highOf_33 rfl ?_
      refine V_imulN dX12_highOf_35 ?_
      refine V_iload_n dX12_highOf_36 rfl ?_
      refine V_iaddN dX12_highOf_37 ?_
      refine V_laldN (k := (4 * k) + j) dX12_highOf_38 ⟨Nat.le_of_ble_eq_true rfl, Nat.le_of_ble_eq_true rfl⟩ rfl (by decide) (by omega) ?_
      refine V_eqL (y := v k) (hv k (by omega) ht) ?_
      refine V_lload_n dX12_highOf_39 rfl ?_
      refine V_lcmp dX12_highOf_40 ?_
      refine V_if_gt (tgt := 47) dX12_highOf_41 rfl (fun hX => ?_) (fun hX => ?_)
      · skip
        refine V_aload_n dX12_highOf_47 rfl ?_
        refine V_getR (b := 86) dX12_highOf_48 fX12_82 ⟨Nat.le_of_ble_eq_true rfl, Nat.le_of_ble_eq_true rfl⟩ rfl rfl rfl ?_
        refine V_iconst (v := nI 4) dX12_highOf_51 rfl ?_
        refine V_iload dX12_highOf_52 rfl ?_
        refine V_imulN dX12_highOf_54 ?_
        refine V_iload_n dX12_highOf_55 rfl ?_
        refine V_iaddN dX12_highOf_56 ?_
        refine V_laldN (k := (4 * k) + j) dX12_highOf_57 ⟨Nat.le_of_ble_eq_true rfl, Nat.le_of_ble_eq_true rfl⟩ rfl (by decide) (by omega) ?_
        refine V_eqL (y := v k) (hv k (by omega) ht) ?_
        refine V_lstore_n (ls' := [(2, .long (v k)), (0, .ref 62), (1, .int (nI j)), (4, .int (nI 1)), (5, .int (nI k))]) dX12_highOf_58 (by decide) rfl ?_
        refine V_iconst (v := nI 1) dX12_highOf_59 rfl ?_
        refine V_istore (ls' := [(4, .int (nI 1)), (2, .long (v k)), (0, .ref 62), (1, .int (nI j)), (5, .int (nI k))]) dX12_highOf_60 (by decide) rfl ?_
        refine V_iincN (ls' := [(5, .int (nI (k + 1))), (4, .int (nI 1)), (2, .long (v k)), (0, .ref 62), (1, .int (nI j))]) (n := 1) dX12_highOf_62 rfl rfl (by decide) (by decide) rfl ?_
        refine V_goto (tgt := 8) dX12_highOf_65 rfl ?_
        refine V_sub2 (ls' := [(0, .ref 62), (1, .int (nI j)), (2, .long (v k)), (4, .int (nI 1)), (5, .int (nI (k + 1)))]) (List.forall_mem_cons.mpr ⟨rfl, List.forall_mem_cons.mpr ⟨rfl, List.forall_mem_cons.mpr ⟨rfl, List.forall_mem_cons.mpr ⟨rfl, List.forall_mem_cons.mpr ⟨rfl, fun _ h => absurd h List.not_mem_nil⟩⟩⟩⟩⟩) ?_
        rw [wfL_t ht, show (if 0 = 1 then (if v k < x then v k else x) else (if v k < x then x else v k)) = v k from (if_neg (by decide)).trans (i64_z (Int32.not_le.mpr hX))] at hQ
        exact ih (k + 1) (v k) (by omega) hQ
      · skip
        refine V_goto (tgt := 62) dX12_highOf_44 rfl ?_
        refine V_iincN (ls' := [(5, .int (nI (k + 1))), (0, .ref 62), (1, .int (nI j)), (2, .long x), (4, .int (nI 1))]) (n := 1) dX12_highOf_62 rfl rfl (by decide) (by decide) rfl ?_
        refine V_goto (tgt := 8) dX12_highOf_65 rfl ?_
        refine V_sub2 (ls' := [(0, .ref 62), (1, .int (nI j)), (2, .long x), (4, .int (nI 1)), (5, .int (nI (k + 1)))]) (List.forall_mem_cons.mpr ⟨rfl, List.forall_mem_cons.mpr ⟨rfl, List.forall_mem_cons.mpr ⟨rfl, List.forall_mem_cons.mpr ⟨rfl, List.forall_mem_cons.mpr ⟨rfl, fun _ h => absurd h List.not_mem_nil⟩⟩⟩⟩⟩) ?_
        rw [wfL_t ht, show (if 0 = 1 then (if v k < x then v k else x) else (if v k < x then x else v k)) = x from (if_neg (by decide)).trans (i64_o (Int32.not_lt.mp hX))] at hQ
        exact ih (k + 1) x (by omega) hQ
    · skip
      refine V_aload_n dX12_highOf_14 rfl ?_
      refine V_iload dX12_highOf_15 rfl ?_
      refine V_callV (As := [.int (nI k)]) (st := []) (a := 62) dX12_highOf_17 kX12_isTold lX12_401 (by decide) rfl rfl (Nat.le_of_ble_eq_true rfl) ⟨Nat.le_of_ble_eq_true rfl, Nat.le_of_ble_eq_true rfl⟩ ⟨Nat.le_of_ble_eq_true rfl, Nat.le_of_ble_eq_true rfl⟩ rfl ⟨rfl, by decide⟩ (tldN hC (by omega) ht) ?_
      rintro _ _ _ _ ⟨rfl, rfl, rfl, rfl⟩
      refine V_if_eq (tgt := 62) dX12_highOf_20 rfl (fun _ => ?_) (fun h => absurd h (by decide))
      refine V_iincN (ls' := [(5, .int (nI (k + 1))), (0, .ref 62), (1, .int (nI j)), (2, .long x), (4, .int (nI 1))]) (n := 1) dX12_highOf_62 rfl rfl (by decide) (by decide) rfl ?_
      refine V_goto (tgt := 8) dX12_highOf_65 rfl ?_
      refine V_sub2 (ls' := [(0, .ref 62), (1, .int (nI j)), (2, .long x), (4, .int (nI 1)), (5, .int (nI (k + 1)))]) (List.forall_mem_cons.mpr ⟨rfl, List.forall_mem_cons.mpr ⟨rfl, List.forall_mem_cons.mpr ⟨rfl, List.forall_mem_cons.mpr ⟨rfl, List.forall_mem_cons.mpr ⟨rfl, fun _ h => absurd h List.not_mem_nil⟩⟩⟩⟩⟩) ?_
      rw [wfL_f ht] at hQ
      exact ih (k + 1) x (by omega) hQ

set_option maxRecDepth 100000 in
set_option maxHeartbeats 4000000 in
theorem lp_highOf0 {G : zG} {I : zI} {J : zJ} {Q : zQ} {c0 : Nat} {cc : Nat → Nat} (hC : cM I c0 cc) {j : Nat} (hj : j < 4) {v : Nat → Int64} (hv : ∀ k, k < 4 → 0 < cc k → J 86 (4 * k + j) = v k) (hb : ∀ k, k < 4 → 0 < cc k → -(10 ^ 17) ≤ (v k).toInt ∧ (v k).toInt ≤ 10 ^ 17) : ∀ n k, k + n = 4 → (∃ i, k ≤ i ∧ i < k + n ∧ 0 < cc i) → Q (some (.long (wfL v cc 0 n k (-4000000000000000000)))) zsh I J → V G mX12_highOf 2 Q 8 [(0, .ref 62), (1, .int (nI j)), (2, .long 0), (4, .int (nI 0)), (5, .int (nI k))] [] (0, 0) zsh I J := by
  intro n
  induction n with
  | zero =>
    intro k hk hex hQ
    obtain ⟨i, h1, h2, _⟩ := hex
    omega
  | succ n ih =>
    intro k hk hex hQ
    refine V_iload dX12_highOf_8 rfl ?_
    refine V_iconst (v := nI 4) dX12_highOf_10 rfl ?_
    refine V_icmp_geN (tgt := 68) dX12_highOf_11 rfl (by omega) (by omega) (fun h => absurd h (by omega)) (fun _ => ?_)
    by_cases ht : 0 < cc k
    · skip
      refine V_aload_n dX12_highOf_14 rfl ?_
      refine V_iload dX12_highOf_15 rfl ?_
      refine V_callV (As := [.int (nI k)]) (st := []) (a := 62) dX12_highOf_17 kX12_isTold lX12_401 (by decide) rfl rfl (Nat.le_of_ble_eq_true rfl) ⟨Nat.le_of_ble_eq_true rfl, Nat.le_of_ble_eq_true rfl⟩ ⟨Nat.le_of_ble_eq_true rfl, Nat.le_of_ble_eq_true rfl⟩ rfl ⟨rfl, by decide⟩ (tldY hC (by omega) ht) ?_
      rintro _ _ _ _ ⟨rfl, rfl, rfl, rfl⟩
      refine V_if_eq (tgt := 62) dX12_highOf_20 rfl (fun h => absurd h (by decide)) (fun _ => ?_)
      refine V_iload dX12_highOf_23 rfl ?_
      refine V_if_eq (tgt := 47) dX12_highOf_25 rfl (fun _ => ?_) (fun h => absurd h (by decide))
      refine V_aload_n dX12_highOf_47 rfl ?_
      refine V_getR (b := 86) dX12_highOf_48 fX12_82 ⟨Nat.le_of_ble_eq_true rfl, Nat.le_of_ble_eq_true rfl⟩ rfl rfl rfl ?_
      refine V_iconst (v := nI 4) dX12_highOf_51 rfl ?_
      refine V_iload dX12_highOf_52 rfl ?_
      refine V_imulN dX12_highOf_54 ?_
      refine V_iload_n dX12_highOf_55 rfl ?_
      refine V_iaddN dX12_highOf_56 ?_
      refine V_laldN (k := (4 * k) + j) dX12_highOf_57 ⟨Nat.le_of_ble_eq_true rfl, Nat.le_of_ble_eq_true rfl⟩ rfl (by decide) (by omega) ?_
      refine V_eqL (y := v k) (hv k (by omega) ht) ?_
      refine V_lstore_n (ls' := [(2, .long (v k)), (0, .ref 62), (1, .int (nI j)), (4, .int (nI 0)), (5, .int (nI k))]) dX12_highOf_58 (by decide) rfl ?_
      refine V_iconst (v := nI 1) dX12_highOf_59 rfl ?_
      refine V_istore (ls' := [(4, .int (nI 1)), (2, .long (v k)), (0, .ref 62), (1, .int (nI j)), (5, .int (nI k))]) dX12_highOf_60 (by decide) rfl ?_
      refine V_iincN (ls' := [(5, .int (nI (k + 1))), (4, .int (nI 1)), (2, .long (v k)), (0, .ref 62), (1, .int (nI j))]) (n := 1) dX12_highOf_62 rfl rfl (by decide) (by decide) rfl ?_
      refine V_goto (tgt := 8) dX12_highOf_65 rfl ?_
      refine V_sub2 (ls' := [(0, .ref 62), (1, .int (nI j)), (2, .long (v k)), (4, .int (nI 1)), (5, .int (nI (k + 1)))]) (List.forall_mem_cons.mpr ⟨rfl, List.forall_mem_cons.mpr ⟨rfl, List.forall_mem_cons.mpr ⟨rfl, List.forall_mem_cons.mpr ⟨rfl, List.forall_mem_cons.mpr ⟨rfl, fun _ h => absurd h List.not_mem_nil⟩⟩⟩⟩⟩) ?_
      rw [wfL_t ht, show (if 0 = 1 then (if v k < -4000000000000000000 then v k else -4000000000000000000) else (if v k < -4000000000000000000 then -4000000000000000000 else v k)) = v k from (if_neg (by decide)).trans (sen0 (hb k (by omega) ht))] at hQ
      exact lp_highOf1 hC hj hv n (k + 1) (v k) (by omega) hQ
    · skip
      refine V_aload_n dX12_highOf_14 rfl ?_
      refine V_iload dX12_highOf_15 rfl ?_
      refine V_callV (As := [.int (nI k)]) (st := []) (a := 62) dX12_highOf_17 kX12_isTold lX12_401 (by decide) rfl rfl (Nat.le_of_ble_eq_true rfl) ⟨Nat.le_of_ble_eq_true rfl, Nat.le_of_ble_eq_true rfl⟩ ⟨Nat.le_of_ble_eq_true rfl, Nat.le_of_ble_eq_true rfl⟩ rfl ⟨rfl, by decide⟩ (tldN hC (by omega) ht) ?_
      rintro _ _ _ _ ⟨rfl, rfl, rfl, rfl⟩
      refine V_if_eq (tgt := 62) dX12_highOf_20 rfl (fun _ => ?_) (fun h => absurd h (by decide))
      refine V_iincN (ls' := [(5, .int (nI (k + 1))), (0, .ref 62), (1, .int (nI j)), (2, .long 0), (4, .int (nI 0))]) (n := 1) dX12_highOf_62 rfl rfl (by decide) (by decide) rfl ?_
      refine V_goto (tgt := 8) dX12_highOf_65 rfl ?_
      refine V_sub2 (ls' := [(0, .ref 62), (1, .int (nI j)), (2, .long 0), (4, .int (nI 0)), (5, .int (nI (k + 1)))]) (List.forall_mem_cons.mpr ⟨rfl, List.forall_mem_cons.mpr ⟨rfl, List.forall_mem_cons.mpr ⟨rfl, List.forall_mem_cons.mpr ⟨rfl, List.forall_mem_cons.mpr ⟨rfl, fun _ h => absurd h List.not_mem_nil⟩⟩⟩⟩⟩) ?_
      rw [wfL_f ht] at hQ
      exact ih (k + 1) (by omega) (ex_n hex ht) hQ

set_option maxRecDepth 100000 in
set_option maxHeartbeats 4000000 in
theorem w_highOf {G : zG} {I : zI} {J : zJ} {c0 : Nat} {cc : Nat → Nat} (hC : cM I c0 cc) {j : Nat} (hj : j < 4) (hjt : 0 < cc j) {v : Nat → Int64} (hv : ∀ k, k < 4 → 0 < cc k → J 86 (4 * k + j) = v k) (hb : ∀ k, k < 4 → 0 < cc k → -(10 ^ 17) ≤ (v k).toInt ∧ (v k).toInt ≤ 10 ^ 17) : zK G mX12_highOf 2 [.ref 62, .int (nI j)] zsh I J (zA0 (.long (wfL v cc 0 4 0 (-4000000000000000000))) I J) := by
  refine zK_of kX12_highOf.2.2.2.2.1 (Nat.le_of_ble_eq_true rfl) ?_
  show V G mX12_highOf 2 _ 0 [(0, .ref 62), (1, .int (nI j))] [] (0, 0) zsh I J
  refine V_lconst (v := 0) dX12_highOf_0 rfl ?_
  refine V_lstore_n (ls' := [(2, .long 0), (0, .ref 62), (1, .int (nI j))]) dX12_highOf_1 (by decide) rfl ?_
  refine V_iconst (v := nI 0) dX12_highOf_2 rfl ?_
  refine V_istore (ls' := [(4, .int (nI 0)), (2, .long 0), (0, .ref 62), (1, .int (nI j))]) dX12_highOf_3 (by decide) rfl ?_
  refine V_iconst (v := nI 0) dX12_highOf_5 rfl ?_
  refine V_istore (ls' := [(5, .int (nI 0)), (4, .int (nI 0)), (2, .long 0), (0, .ref 62), (1, .int (nI j))]) dX12_highOf_6 (by decide) rfl ?_
  refine V_sub2 (ls' := [(0, .ref 62), (1, .int (nI j)), (2, .long 0), (4, .int (nI 0)), (5, .int (nI 0))]) (List.forall_mem_cons.mpr ⟨rfl, List.forall_mem_cons.mpr ⟨rfl, List.forall_mem_cons.mpr ⟨rfl, List.forall_mem_cons.mpr ⟨rfl, List.forall_mem_cons.mpr ⟨rfl, fun _ h => absurd h List.not_mem_nil⟩⟩⟩⟩⟩) ?_
  exact lp_highOf0 hC hj hv hb 4 0 rfl ⟨j, Nat.zero_le _, by omega, hjt⟩ ⟨rfl, rfl, rfl, rfl⟩

