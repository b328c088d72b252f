/-! WHAT IS MADE: the model -/
/-- the sum of the last n digits -/
def dS : Nat → Nat → Nat
  | 0, _ => 0
  | n + 1, c => c % 10 + dS n (c / 10)
theorem dS_0 : ∀ n, dS n 0 = 0 := by
  intro n
  induction n with
  | zero => rfl
  | succ n ih => exact (Nat.zero_add _).trans ih
theorem dS_le : ∀ n c, dS n c ≤ 9 * n := by
  intro n
  induction n with
  | zero => intro c; exact Nat.le_refl _
  | succ n ih => intro c; have h1 := ih (c / 10); show c % 10 + dS n (c / 10) ≤ _; omega
theorem iC_1 : ∀ k, k < 56 → dS 5 (tC k) ≤ 3 := by decide +kernel
theorem iC_2 : ∀ i, i < 1024 → i % 4 + i / 4 % 4 + i / 4 / 4 % 4 + i / 4 / 4 / 4 % 4 + i / 4 / 4 / 4 / 4 ≤ 3 → (List.range 56).any (fun k => tC k == 10000 * (i / 4 / 4 / 4 / 4) + 1000 * (i / 4 / 4 / 4 % 4) + 100 * (i / 4 / 4 % 4) + 10 * (i / 4 % 4) + i % 4) = true := by decide +kernel
theorem iC_4 {a b c d e : Nat} (h : a + b + c + d + e ≤ 3) : (List.range 56).any (fun k => tC k == 10000 * a + 1000 * b + 100 * c + 10 * d + e) = true := by
  have ha : a ≤ 3 := by omega
  have hb : b ≤ 3 := by omega
  have hc : c ≤ 3 := by omega
  have hd : d ≤ 3 := by omega
  have he : e ≤ 3 := by omega
  have h4 := iC_2 (4 * (4 * (4 * (4 * a + b) + c) + d) + e) (by omega)
  clear ha
  have p1 : ∀ x y, y ≤ 3 → (4 * x + y) / 4 = x ∧ (4 * x + y) % 4 = y := fun x y hy => by omega
  rw [(p1 _ e he).1, (p1 _ e he).2, (p1 _ d hd).1, (p1 _ d hd).2, (p1 _ c hc).1, (p1 _ c hc).2, (p1 _ b hb).1, (p1 _ b hb).2] at h4
  exact h4 (by omega)
theorem iC_3 {c : Nat} (h : c < 40000) (h3 : dS 5 c ≤ 3) : ∃ k, k < 56 ∧ tC k = c := by
  have h3' : c % 10 + (c / 10 % 10 + (c / 10 / 10 % 10 + (c / 10 / 10 / 10 % 10 + (c / 10 / 10 / 10 / 10 % 10 + 0)))) ≤ 3 := h3
  have h4 := iC_4 (a := c / 10 / 10 / 10 / 10 % 10) (b := c / 10 / 10 / 10 % 10) (c := c / 10 / 10 % 10) (d := c / 10 % 10) (e := c % 10) (by omega)
  obtain ⟨k, hk, e⟩ := List.any_eq_true.mp h4
  exact ⟨k, List.mem_range.mp hk, (beq_iff_eq.mp e).trans (by omega)⟩
theorem cd_6 {k : Nat} (hk : k < 56) : (35 ≤ k → 10000 ≤ tC k ∧ 0 < tHand k) ∧ (tBest k < 4 → tC (tWo k) + uN (tBest k) = tC k) ∧ (10000 ≤ tC k → 0 < tHand k) := co_dec (P := fun k => (35 ≤ k → 10000 ≤ tC k ∧ 0 < tHand k) ∧ (tBest k < 4 → tC (tWo k) + uN (tBest k) = tC k) ∧ (10000 ≤ tC k → 0 < tHand k)) (N := 56) (by decide +kernel) hk
/-- below c the first n codes are told -/
def mcI (I0 I : zI) (n c : Nat) : Prop := (∀ a, a ≠ 63 → I a = I0 a) ∧ n ≤ 56 ∧ (∀ j, j < n → I 63 j = nI (tC j) ∧ tC j < c) ∧ ∀ j, n ≤ j → j < 56 → c ≤ tC j
theorem mcI_0 {I : zI} : mcI I I 0 0 := ⟨fun _ _ => rfl, by decide, fun j hj => absurd hj (Nat.not_lt_zero _), fun _ _ _ => Nat.zero_le _⟩
theorem mcI_n {I0 I : zI} {n c : Nat} (h : mcI I0 I n c) (hn : ∀ k, k < 56 → tC k ≠ c) : mcI I0 I n (c + 1) := by
  obtain ⟨h1, h2, h3, h4⟩ := h
  exact ⟨h1, h2, fun j hj => ⟨(h3 j hj).1, by have := (h3 j hj).2; omega⟩, fun j h5 h6 => by have := h4 j h5 h6; have := hn j h6; omega⟩
theorem mcI_k {I0 I : zI} {n c : Nat} (h : mcI I0 I n c) {k : Nat} (hk : k < 56) (e : tC k = c) : k = n := by
  obtain ⟨h1, h2, h3, h4⟩ := h
  by_cases c1 : k < n
  · have := (h3 k c1).2; omega
  · have h5 := h4 n (Nat.le_refl _) (by omega)
    have h6 := tC_mono n (by omega) k hk
    by_cases c2 : k = n
    · exact c2
    · have h7 : n < k := by omega
      have := h6.mpr h7
      omega
theorem mcI_y {I0 I : zI} {n c : Nat} (h : mcI I0 I n c) (hk : n < 56) (e : tC n = c) : mcI I0 (zwr I 63 n (nI c)) (n + 1) (c + 1) := by
  obtain ⟨h1, h2, h3, h4⟩ := h
  refine ⟨fun a ha => (zw_o ha).trans (h1 a ha), hk, fun j hj => ?_, fun j h5 h6 => ?_⟩
  · by_cases c1 : j = n
    · subst c1; rw [zwr_at, if_pos ⟨rfl, rfl⟩, e]; exact ⟨rfl, Nat.lt_succ_self _⟩
    · rw [zwr_at, if_neg (by omega)]
      exact ⟨(h3 j (by omega)).1, by have := (h3 j (by omega)).2; omega⟩
  · have := (tC_mono n hk j h6).mpr (by omega)
    omega
theorem mcI_e {I0 I : zI} {n : Nat} (h : mcI I0 I n 40000) : mT0 I := by
  obtain ⟨h1, h2, h3, h4⟩ := h
  intro k hk
  by_cases c1 : k < n
  · exact (h3 k c1).1
  · have := h4 k (by omega) hk
    have := tC_le hk
    omega
/-- tables of throws below k, and of k up to ring r -/
def mdR (I0 I : zI) (k r : Nat) : Prop := (∀ a, a ≠ 64 → a ≠ 65 → I a = I0 a) ∧ (∀ j r, 35 ≤ j → j < k → r < 5 → I 64 (5 * j + r) = nI (tThr (5 * j + r))) ∧ (∀ j, j < k → tBest j < 4 → I 65 j = nI (tWo j)) ∧ (35 ≤ k → ∀ j, j < r → I 64 (5 * k + j) = nI (tThr (5 * k + j)))
theorem mdR_y {I0 I : zI} {k r : Nat} (h : mdR I0 I k r) : mdR I0 (zwr I 64 (5 * k + r) (nI (tThr (5 * k + r)))) k (r + 1) := by
  obtain ⟨h1, h2, h3, h4⟩ := h
  refine ⟨fun a ha hb => (zw_o ha).trans (h1 a ha hb), fun j q h5 h6 h7 => ?_, fun j h5 h6 => ?_, fun h5 j hj => ?_⟩
  · rw [zwr_at, if_neg (by omega)]; exact h2 j q h5 h6 h7
  · rw [zwr_at, if_neg (by omega)]; exact h3 j h5 h6
  · by_cases c : j = r
    · subst c; rw [zwr_at, if_pos ⟨rfl, rfl⟩]
    · rw [zwr_at, if_neg (by omega)]; exact h4 h5 j (by omega)
theorem mdR_n {I0 I : zI} {k r : Nat} {v : Int32} (h : mdR I0 I k r) (hk : k < 35) : mdR I0 (zwr I 64 (5 * k + r) v) k (r + 1) := by
  obtain ⟨h1, h2, h3, h4⟩ := h
  refine ⟨fun a ha hb => (zw_o ha).trans (h1 a ha hb), fun j q h5 h6 h7 => ?_, fun j h5 h6 => ?_, fun h5 j hj => absurd h5 (by omega)⟩
  · omega
  · rw [zwr_at, if_neg (by omega)]; exact h3 j h5 h6
theorem mdR_s {I0 I : zI} {k : Nat} {v : Int32} (h : mdR I0 I k 5) (hv : tBest k < 4 → v = nI (tWo k)) : mdR I0 (zwr I 65 k v) (k + 1) 0 := by
  obtain ⟨h1, h2, h3, h4⟩ := h
  refine ⟨fun a ha hb => (zw_o hb).trans (h1 a ha hb), fun j q h5 h6 h7 => ?_, fun j h5 h6 => ?_, fun _ j hj => absurd hj (Nat.not_lt_zero _)⟩
  · rw [zwr_at, if_neg (by omega)]
    by_cases c : j = k
    · subst c; exact h4 h5 q h7
    · exact h2 j q h5 (by omega) h7
  · by_cases c : j = k
    · subst c; rw [zwr_at, if_pos ⟨rfl, rfl⟩]; exact hv h6
    · rw [zwr_at, if_neg (by omega)]; exact h3 j (by omega) h6
theorem mdR_T {I0 I : zI} {k r : Nat} (h : mdR I0 I k r) (h0 : mT0 I0) : mT0 I := by
  intro j hj
  rw [h.1 63 (by decide) (by decide)]
  exact h0 j hj
theorem mdR_e {I0 I : zI} (h : mdR I0 I 56 0) (h0 : mT0 I0) : mT I := ⟨mdR_T h h0, fun k r h1 h2 h3 => h.2.1 k r h1 h2 h3, fun k h1 h2 => h.2.2.1 k h1 h2⟩
set_option maxRecDepth 100000 in
set_option maxHeartbeats 4000000 in
theorem lp_isCode {G : zG} {Q : zQ} {I : zI} {J : zJ} {c : Nat} : ∀ n s q, q < 2 ^ 31 → q < 10 ^ n → (kk : V G mX12_isCode 1 Q 23 [(0, .int (nI c)), (1, .int (nI (s + dS n q)))] [] (0, 0) zsh I J) → V G mX12_isCode 1 Q 4 [(0, .int (nI c)), (1, .int (nI (s))), (2, .int (nI (q)))] [] (0, 0) zsh I J := by
  intro n
  induction n with
  | zero =>
    intro s q _ hq kk
    obtain rfl : q = 0 := by simpa using hq
    refine V_iload_n dX12_isCode_4 rfl ?_
    refine V_if_leN (tgt := 23) dX12_isCode_5 rfl (by decide) (fun _ => ?_) (fun h => absurd rfl h)
    refine V_sub2 (ls' := [(0, .int (nI c)), (1, .int (nI (s + dS 0 0)))]) (List.forall_mem_cons.mpr ⟨rfl, List.forall_mem_cons.mpr ⟨rfl, fun _ h => absurd h List.not_mem_nil⟩⟩) ?_
    exact kk
  | succ n ih =>
    intro s q hq2 hq kk
    refine V_iload_n dX12_isCode_4 rfl ?_
    refine V_if_leN (tgt := 23) dX12_isCode_5 rfl (by omega) (fun h5 => ?_) (fun h5 => ?_)
    · subst h5; rw [dS_0] at kk; refine V_sub2 (ls' := [(0, .int (nI c)), (1, .int (nI (s + 0)))]) (List.forall_mem_cons.mpr ⟨rfl, List.forall_mem_cons.mpr ⟨rfl, fun _ h => absurd h List.not_mem_nil⟩⟩) ?_; exact kk
    refine V_iload_n dX12_isCode_8 rfl ?_
    refine V_iload_n dX12_isCode_9 rfl ?_
    refine V_bipush (v := nI 10) dX12_isCode_10 rfl ?_
    refine V_iremN dX12_isCode_12 (by omega) (by omega) (by omega) ?_
    refine V_iaddN dX12_isCode_13 ?_
    refine V_istore_n (ls' := [(1, .int (nI (s + (q % 10)))), (0, .int (nI c)), (2, .int (nI q))]) dX12_isCode_14 (by decide) rfl ?_
    refine V_iload_n dX12_isCode_15 rfl ?_
    refine V_bipush (v := nI 10) dX12_isCode_16 rfl ?_
    refine V_idivN dX12_isCode_18 (by omega) (by omega) (by omega) ?_
    refine V_istore_n (ls' := [(2, .int (nI (q / 10))), (1, .int (nI (s + (q % 10)))), (0, .int (nI c))]) dX12_isCode_19 (by decide) rfl ?_
    refine V_goto (tgt := 4) dX12_isCode_20 rfl ?_
    refine V_sub2 (ls' := [(0, .int (nI c)), (1, .int (nI (s + (q % 10)))), (2, .int (nI (q / 10)))]) (List.forall_mem_cons.mpr ⟨rfl, List.forall_mem_cons.mpr ⟨rfl, List.forall_mem_cons.mpr ⟨rfl, fun _ h => absurd h List.not_mem_nil⟩⟩⟩) ?_
    have e9 : s + dS (n + 1) q = s + q % 10 + dS n (q / 10) := (Nat.add_assoc _ _ _).symm
    rw [e9] at kk
    exact ih (s + q % 10) (q / 10) (by omega) (by rw [Nat.pow_succ] at hq; omega) kk

set_option maxRecDepth 100000 in
set_option maxHeartbeats 4000000 in
theorem w_isCode {G : zG} {I : zI} {J : zJ} {c : Nat} (hc : c < 40000) : zK G mX12_isCode 1 [.int (nI c)] zsh I J (zA0 (.int (nI (if dS 5 c ≤ 3 ∧ c ≤ 30000 then 1 else 0))) I J) := by
  refine zK_of kX12_isCode.2.2.2.2.1 (Nat.le_of_ble_eq_true rfl) ?_
  show V G mX12_isCode 1 _ 0 [(0, .int (nI c))] [] (0, 0) zsh I J
  have hd9 := dS_le 5 c
  by_cases h30 : c ≤ 30000
  · skip
    refine V_iconst (v := nI 0) dX12_isCode_0 rfl ?_
    refine V_istore_n (ls' := [(1, .int (nI 0)), (0, .int (nI c))]) dX12_isCode_1 (by decide) rfl ?_
    refine V_iload_n dX12_isCode_2 rfl ?_
    refine V_istore_n (ls' := [(2, .int (nI c)), (1, .int (nI 0)), (0, .int (nI c))]) dX12_isCode_3 (by decide) rfl ?_
    refine V_sub2 (ls' := [(0, .int (nI c)), (1, .int (nI 0)), (2, .int (nI c))]) (List.forall_mem_cons.mpr ⟨rfl, List.forall_mem_cons.mpr ⟨rfl, List.forall_mem_cons.mpr ⟨rfl, fun _ h => absurd h List.not_mem_nil⟩⟩⟩) ?_
    refine lp_isCode 5 0 c (by omega) (by omega) ?_
    rw [Nat.zero_add]
    refine V_iload_n dX12_isCode_23 rfl ?_
    refine V_iconst (v := nI 0) dX12_isCode_24 rfl ?_
    refine V_sipush (v := nI 30000) dX12_isCode_25 rfl ?_
    refine V_callS (As := [.int (nI c), .int (nI 0), .int (nI 30000)]) (st := []) dX12_isCode_28 kX12_in lX12_173 (by decide) rfl rfl (Nat.le_of_ble_eq_true rfl) ⟨Nat.le_of_ble_eq_true rfl, Nat.le_of_ble_eq_true rfl⟩ (w_inY rfl rfl (a := 0) (b := 30000) ((inZ_k (by omega)).mpr (by omega))) ?_
    rintro _ _ _ _ ⟨rfl, rfl, rfl, rfl⟩
    refine V_if_eq (tgt := 43) dX12_isCode_31 rfl (fun h => absurd h (by decide)) (fun _ => ?_)
    refine V_iload_n dX12_isCode_34 rfl ?_
    refine V_iconst (v := nI 3) dX12_isCode_35 rfl ?_
    refine V_icmp_gtN (tgt := 43) dX12_isCode_36 rfl (by omega) (by omega) (fun h36 => ?_) (fun h36 => ?_)
    · skip
      refine V_iconst (v := nI 0) dX12_isCode_43 rfl ?_
      exact V_iret ⟨Or.inr ⟨rfl, Or.inl rfl⟩, dX12_isCode_44⟩ ⟨Nat.le_of_ble_eq_true rfl, Nat.le_of_ble_eq_true rfl⟩ ⟨rfl, by rw [if_neg (fun h => by omega)], rfl, rfl⟩
    · skip
      refine V_iconst (v := nI 1) dX12_isCode_39 rfl ?_
      refine V_goto (tgt := 44) dX12_isCode_40 rfl ?_
      exact V_iret ⟨Or.inr ⟨rfl, Or.inr rfl⟩, dX12_isCode_44⟩ ⟨Nat.le_of_ble_eq_true rfl, Nat.le_of_ble_eq_true rfl⟩ ⟨rfl, by rw [if_pos ⟨by omega, by omega⟩], rfl, rfl⟩
  · skip
    refine V_iconst (v := nI 0) dX12_isCode_0 rfl ?_
    refine V_istore_n (ls' := [(1, .int (nI 0)), (0, .int (nI c))]) dX12_isCode_1 (by decide) rfl ?_
    refine V_iload_n dX12_isCode_2 rfl ?_
    refine V_istore_n (ls' := [(2, .int (nI c)), (1, .int (nI 0)), (0, .int (nI c))]) dX12_isCode_3 (by decide) rfl ?_
    refine V_sub2 (ls' := [(0, .int (nI c)), (1, .int (nI 0)), (2, .int (nI c))]) (List.forall_mem_cons.mpr ⟨rfl, List.forall_mem_cons.mpr ⟨rfl, List.forall_mem_cons.mpr ⟨rfl, fun _ h => absurd h List.not_mem_nil⟩⟩⟩) ?_
    refine lp_isCode 5 0 c (by omega) (by omega) ?_
    rw [Nat.zero_add]
    refine V_iload_n dX12_isCode_23 rfl ?_
    refine V_iconst (v := nI 0) dX12_isCode_24 rfl ?_
    refine V_sipush (v := nI 30000) dX12_isCode_25 rfl ?_
    refine V_callS (As := [.int (nI c), .int (nI 0), .int (nI 30000)]) (st := []) dX12_isCode_28 kX12_in lX12_173 (by decide) rfl rfl (Nat.le_of_ble_eq_true rfl) ⟨Nat.le_of_ble_eq_true rfl, Nat.le_of_ble_eq_true rfl⟩ (w_inN rfl rfl (a := 0) (b := 30000) (fun h => by have h1 := (inZ_k (by omega)).mp h; omega)) ?_
    rintro _ _ _ _ ⟨rfl, rfl, rfl, rfl⟩
    refine V_if_eq (tgt := 43) dX12_isCode_31 rfl (fun _ => ?_) (fun h => absurd h (by decide))
    refine V_iconst (v := nI 0) dX12_isCode_43 rfl ?_
    exact V_iret ⟨Or.inr ⟨rfl, Or.inl rfl⟩, dX12_isCode_44⟩ ⟨Nat.le_of_ble_eq_true rfl, Nat.le_of_ble_eq_true rfl⟩ ⟨rfl, by rw [if_neg (fun h => by omega)], rfl, rfl⟩

set_option maxRecDepth 100000 in
set_option maxHeartbeats 4000000 in
theorem mc_code {G : zG} {Q : zQ} {I0 I : zI} {J : zJ} {n c : Nat} (hc : c < 40000) (h : mcI I0 I n c) (ky : ∀ I1, mcI I0 I1 (n + 1) (c + 1) → V G mX12_init 5 Q 383 [(0, .ref 62), (1, .int (nI (n + 1))), (2, .int (nI (c + 1)))] [] (42, 110544) zsh I1 J) (kn : mcI I0 I n (c + 1) → V G mX12_init 5 Q 383 [(0, .ref 62), (1, .int (nI n)), (2, .int (nI (c + 1)))] [] (42, 110544) zsh I J) : V G mX12_init 5 Q 383 [(0, .ref 62), (1, .int (nI n)), (2, .int (nI c))] [] (42, 110544) zsh I J := by
  have hn9 := h.2.1
  refine V_iload_n dX12_init_383 rfl ?_
  refine V_ldc dX12_init_384 qX12_158 ?_
  refine V_eqI (y := nI 40000) rfl ?_
  refine V_icmp_geN (tgt := 416) dX12_init_386 rfl (by omega) (by decide) (fun h => absurd h (by omega)) (fun _ => ?_)
  by_cases hy : dS 5 c ≤ 3 ∧ c ≤ 30000
  · skip
    obtain ⟨k, hk, e⟩ := iC_3 (by omega) hy.1
    obtain rfl := (mcI_k h hk e).symm
    refine V_iload_n dX12_init_389 rfl ?_
    refine V_callS (As := [.int (nI c)]) (st := []) dX12_init_390 kX12_isCode lX12_159 (by decide) rfl rfl (Nat.le_of_ble_eq_true rfl) ⟨Nat.le_of_ble_eq_true rfl, Nat.le_of_ble_eq_true rfl⟩ (q_y (w_isCode (by omega)) hy) ?_
    rintro _ _ _ _ ⟨rfl, rfl, rfl, rfl⟩
    refine V_if_ne (tgt := 399) dX12_init_393 rfl (fun _ => ?_) (fun h => absurd h (by decide))
    refine V_aload_n dX12_init_399 rfl ?_
    refine V_getR (b := 63) dX12_init_400 fX12_7 ⟨Nat.le_of_ble_eq_true rfl, Nat.le_of_ble_eq_true rfl⟩ rfl rfl rfl ?_
    refine V_iload_n dX12_init_403 rfl ?_
    refine V_iload_n dX12_init_404 rfl ?_
    refine V_iastN (k := n) dX12_init_405 ⟨Nat.le_of_ble_eq_true rfl, Nat.le_of_ble_eq_true rfl⟩ rfl (by decide) (by omega) ?_
    refine V_iload_n dX12_init_406 rfl ?_
    refine V_iconst (v := nI 1) dX12_init_407 rfl ?_
    refine V_iaddN dX12_init_408 ?_
    refine V_istore_n (ls' := [(1, .int (nI (n + 1))), (0, .ref 62), (2, .int (nI c))]) dX12_init_409 (by decide) rfl ?_
    refine V_iincN (ls' := [(2, .int (nI (c + 1))), (1, .int (nI (n + 1))), (0, .ref 62)]) (n := 1) dX12_init_410 rfl rfl (by decide) (by decide) rfl ?_
    refine V_goto (tgt := 383) dX12_init_413 rfl ?_
    refine V_sub2 (ls' := [(0, .ref 62), (1, .int (nI (n + 1))), (2, .int (nI (c + 1)))]) (List.forall_mem_cons.mpr ⟨rfl, List.forall_mem_cons.mpr ⟨rfl, List.forall_mem_cons.mpr ⟨rfl, fun _ h => absurd h List.not_mem_nil⟩⟩⟩) ?_
    exact ky _ (mcI_y h hk e)
  · skip
    have hn : ∀ k, k < 56 → tC k ≠ c := fun k hk e => hy ⟨by rw [← e]; exact iC_1 k hk, by rw [← e]; exact tC_le hk⟩
    refine V_iload_n dX12_init_389 rfl ?_
    refine V_callS (As := [.int (nI c)]) (st := []) dX12_init_390 kX12_isCode lX12_159 (by decide) rfl rfl (Nat.le_of_ble_eq_true rfl) ⟨Nat.le_of_ble_eq_true rfl, Nat.le_of_ble_eq_true rfl⟩ (q_n (w_isCode (by omega)) hy) ?_
    rintro _ _ _ _ ⟨rfl, rfl, rfl, rfl⟩
    refine V_if_ne (tgt := 399) dX12_init_393 rfl (fun h => absurd h (by decide)) (fun _ => ?_)
    refine V_goto (tgt := 410) dX12_init_396 rfl ?_
    refine V_iincN (ls' := [(2, .int (nI (c + 1))), (0, .ref 62), (1, .int (nI n))]) (n := 1) dX12_init_410 rfl rfl (by decide) (by decide) rfl ?_
    refine V_goto (tgt := 383) dX12_init_413 rfl ?_
    refine V_sub2 (ls' := [(0, .ref 62), (1, .int (nI n)), (2, .int (nI (c + 1)))]) (List.forall_mem_cons.mpr ⟨rfl, List.forall_mem_cons.mpr ⟨rfl, List.forall_mem_cons.mpr ⟨rfl, fun _ h => absurd h List.not_mem_nil⟩⟩⟩) ?_
    exact kn (mcI_n h hn)

set_option maxRecDepth 100000 in
set_option maxHeartbeats 4000000 in
theorem mc_loop {G : zG} {Q : zQ} {I0 : zI} {J : zJ} (kk : ∀ I1, (∀ a, a ≠ 63 → I1 a = I0 a) → mT0 I1 → V G mX12_init 5 Q 416 [(0, .ref 62)] [] (42, 110544) zsh I1 J) : ∀ f n c I, c + f = 40000 → mcI I0 I n c → V G mX12_init 5 Q 383 [(0, .ref 62), (1, .int (nI n)), (2, .int (nI c))] [] (42, 110544) zsh I J := by
  intro f
  induction f with
  | zero =>
    intro n c I hf h
    obtain rfl : c = 40000 := by omega
    refine V_iload_n dX12_init_383 rfl ?_
    refine V_ldc dX12_init_384 qX12_158 ?_
    refine V_eqI (y := nI 40000) rfl ?_
    refine V_icmp_geN (tgt := 416) dX12_init_386 rfl (by decide) (by decide) (fun _ => ?_) (fun h => absurd h (by decide))
    refine V_sub2 (ls' := [(0, .ref 62)]) (List.forall_mem_cons.mpr ⟨rfl, fun _ h => absurd h List.not_mem_nil⟩) ?_
    exact kk _ h.1 (mcI_e h)
  | succ f ih =>
    intro n c I hf h
    exact mc_code (by omega) h (fun I1 h1 => ih (n + 1) (c + 1) I1 (by omega) h1) (fun h1 => ih n (c + 1) I (by omega) h1)

set_option maxRecDepth 100000 in
set_option maxHeartbeats 4000000 in
theorem md_ring {G : zG} {Q : zQ} {I0 I : zI} {J : zJ} {k r : Nat} (h0 : mT0 I0) (hk : k < 56) (hr4 : r < 4) (h : mdR I0 I k r) (kk : ∀ I1, mdR I0 I1 k (r + 1) → V G mX12_init 5 Q 434 [(0, .ref 62), (2, .int (nI k)), (3, .int (nI (tC k))), (4, .int (nI (r + 1)))] [] (42, 110544) zsh I1 J) : V G mX12_init 5 Q 434 [(0, .ref 62), (2, .int (nI k)), (3, .int (nI (tC k))), (4, .int (nI r))] [] (42, 110544) zsh I J := by
  have hC9 := tC_le hk
  have h6 := cd_6 hk
  refine V_iload dX12_init_434 rfl ?_
  refine V_iconst (v := nI 4) dX12_init_436 rfl ?_
  refine V_icmp_geN (tgt := 483) dX12_init_437 rfl (by omega) (by decide) (fun h => absurd h (by omega)) (fun _ => ?_)
  refine V_aload_n dX12_init_440 rfl ?_
  refine V_getR (b := 64) dX12_init_441 fX12_13 ⟨Nat.le_of_ble_eq_true rfl, Nat.le_of_ble_eq_true rfl⟩ rfl rfl rfl ?_
  refine V_iconst (v := nI 5) dX12_init_444 rfl ?_
  refine V_iload_n dX12_init_445 rfl ?_
  refine V_imulN dX12_init_446 ?_
  refine V_iload dX12_init_447 rfl ?_
  refine V_iaddN dX12_init_449 ?_
  refine V_iload_n dX12_init_450 rfl ?_
  refine V_sipush (v := nI 10000) dX12_init_451 rfl ?_
  refine V_icmp_geN (tgt := 461) dX12_init_454 rfl (by omega) (by decide) (fun h454 => ?_) (fun h454 => ?_)
  · skip
    have hF4 := (cd_4 hk hr4).1 (h6.2.2 h454)
    refine V_aload_n dX12_init_461 rfl ?_
    refine V_iload_n dX12_init_462 rfl ?_
    refine V_sipush (v := nI 10000) dX12_init_463 rfl ?_
    refine V_isubN dX12_init_466 (by omega) ?_
    refine V_iload dX12_init_467 rfl ?_
    refine V_callS (As := [.int (nI r)]) (st := [.int (nI ((tC k) - 10000)), .ref 62, .int (nI ((5 * k) + r)), .ref 64]) dX12_init_469 kX12_unitOf lX12_163 (by decide) rfl rfl (Nat.le_of_ble_eq_true rfl) ⟨Nat.le_of_ble_eq_true rfl, Nat.le_of_ble_eq_true rfl⟩ (w_unitOf (by omega)) ?_
    rintro _ _ _ _ ⟨rfl, rfl, rfl, rfl⟩
    refine V_iaddN dX12_init_472 ?_
    refine V_callV (As := [.int (nI (((tC k) - 10000) + (uN r)))]) (st := [.int (nI ((5 * k) + r)), .ref 64]) (a := 62) dX12_init_473 kX12_standOf lX12_167 (by decide) rfl rfl (Nat.le_of_ble_eq_true rfl) ⟨Nat.le_of_ble_eq_true rfl, Nat.le_of_ble_eq_true rfl⟩ ⟨Nat.le_of_ble_eq_true rfl, Nat.le_of_ble_eq_true rfl⟩ rfl ⟨rfl, by decide⟩ (w_standOf0 (mdR_T h h0)) ?_
    rintro _ _ _ _ ⟨rfl, rfl, rfl, rfl⟩
    refine V_eqI (y := nI (tThr (5 * k + r))) (pen_of (Nat.lt_succ_of_le (tThr_le (by omega))) (congrArg nI (by omega))) ?_
    refine V_iastN (k := (5 * k) + r) dX12_init_476 ⟨Nat.le_of_ble_eq_true rfl, Nat.le_of_ble_eq_true rfl⟩ rfl (by decide) (by omega) ?_
    refine V_iincN (ls' := [(4, .int (nI (r + 1))), (0, .ref 62), (2, .int (nI k)), (3, .int (nI (tC k)))]) (n := 1) dX12_init_477 rfl rfl (by decide) (by decide) rfl ?_
    refine V_goto (tgt := 434) dX12_init_480 rfl ?_
    refine V_sub2 (ls' := [(0, .ref 62), (2, .int (nI k)), (3, .int (nI (tC k))), (4, .int (nI (r + 1)))]) (List.forall_mem_cons.mpr ⟨rfl, List.forall_mem_cons.mpr ⟨rfl, List.forall_mem_cons.mpr ⟨rfl, List.forall_mem_cons.mpr ⟨rfl, fun _ h => absurd h List.not_mem_nil⟩⟩⟩⟩) ?_
    exact kk _ (mdR_y h)
  · skip
    refine V_iconst (v := (-1)) dX12_init_457 rfl ?_
    refine V_goto (tgt := 476) dX12_init_458 rfl ?_
    refine V_iastN (k := (5 * k) + r) dX12_init_476 ⟨Nat.le_of_ble_eq_true rfl, Nat.le_of_ble_eq_true rfl⟩ rfl (by decide) (by omega) ?_
    refine V_iincN (ls' := [(4, .int (nI (r + 1))), (0, .ref 62), (2, .int (nI k)), (3, .int (nI (tC k)))]) (n := 1) dX12_init_477 rfl rfl (by decide) (by decide) rfl ?_
    refine V_goto (tgt := 434) dX12_init_480 rfl ?_
    refine V_sub2 (ls' := [(0, .ref 62), (2, .int (nI k)), (3, .int (nI (tC k))), (4, .int (nI (r + 1)))]) (List.forall_mem_cons.mpr ⟨rfl, List.forall_mem_cons.mpr ⟨rfl, List.forall_mem_cons.mpr ⟨rfl, List.forall_mem_cons.mpr ⟨rfl, fun _ h => absurd h List.not_mem_nil⟩⟩⟩⟩) ?_
    exact kk _ (mdR_n h (by omega))

set_option maxRecDepth 100000 in
set_option maxHeartbeats 4000000 in
theorem md_last {G : zG} {Q : zQ} {I0 I : zI} {J : zJ} {k : Nat} (h0 : mT0 I0) (hk : k < 56) (h : mdR I0 I k 4) (kk : ∀ I1, mdR I0 I1 (k + 1) 0 → V G mX12_init 5 Q 418 [(0, .ref 62), (2, .int (nI (k + 1)))] [] (42, 110544) zsh I1 J) : V G mX12_init 5 Q 434 [(0, .ref 62), (2, .int (nI k)), (3, .int (nI (tC k))), (4, .int (nI 4))] [] (42, 110544) zsh I J := by
  have hC9 := tC_le hk
  have h6 := cd_6 hk
  have hB9 := tBest_le hk
  refine V_iload dX12_init_434 rfl ?_
  refine V_iconst (v := nI 4) dX12_init_436 rfl ?_
  refine V_icmp_geN (tgt := 483) dX12_init_437 rfl (by decide) (by decide) (fun _ => ?_) (fun h => absurd h (by decide))
  refine V_aload_n dX12_init_483 rfl ?_
  refine V_getR (b := 64) dX12_init_484 fX12_13 ⟨Nat.le_of_ble_eq_true rfl, Nat.le_of_ble_eq_true rfl⟩ rfl rfl rfl ?_
  refine V_iconst (v := nI 5) dX12_init_487 rfl ?_
  refine V_iload_n dX12_init_488 rfl ?_
  refine V_imulN dX12_init_489 ?_
  refine V_iconst (v := nI 4) dX12_init_490 rfl ?_
  refine V_iaddN dX12_init_491 ?_
  refine V_iload_n dX12_init_492 rfl ?_
  refine V_sipush (v := nI 10000) dX12_init_493 rfl ?_
  refine V_icmp_geN (tgt := 503) dX12_init_496 rfl (by omega) (by decide) (fun h496 => ?_) (fun h496 => ?_)
  · skip
    have hF5 := (cd_5 hk).1 (h6.2.2 h496)
    refine V_aload_n dX12_init_503 rfl ?_
    refine V_iload_n dX12_init_504 rfl ?_
    refine V_sipush (v := nI 10000) dX12_init_505 rfl ?_
    refine V_isubN dX12_init_508 (by omega) ?_
    refine V_callV (As := [.int (nI ((tC k) - 10000))]) (st := [.int (nI ((5 * k) + 4)), .ref 64]) (a := 62) dX12_init_509 kX12_standOf lX12_167 (by decide) rfl rfl (Nat.le_of_ble_eq_true rfl) ⟨Nat.le_of_ble_eq_true rfl, Nat.le_of_ble_eq_true rfl⟩ ⟨Nat.le_of_ble_eq_true rfl, Nat.le_of_ble_eq_true rfl⟩ rfl ⟨rfl, by decide⟩ (w_standOf0 (mdR_T h h0)) ?_
    rintro _ _ _ _ ⟨rfl, rfl, rfl, rfl⟩
    refine V_eqI (y := nI (tThr (5 * k + 4))) (pen_of (Nat.lt_succ_of_le (tThr_le (by omega))) (congrArg nI (by omega))) ?_
    refine V_iastN (k := (5 * k) + 4) dX12_init_512 ⟨Nat.le_of_ble_eq_true rfl, Nat.le_of_ble_eq_true rfl⟩ rfl (by decide) (by omega) ?_
    obtain ⟨K, hK⟩ : ∃ K, K = (zwr I 64 ((5 * k) + 4) (nI (tThr (5 * k + 4)))) := ⟨_, rfl⟩
    have h5 : mdR I0 K k 5 := by rw [hK]; exact mdR_y h
    rw [← hK]
    have hT := mdR_T h5 h0
    refine V_aload_n dX12_init_513 rfl ?_
    refine V_iload_n dX12_init_514 rfl ?_
    refine V_callV (As := [.int (nI k)]) (st := []) (a := 62) dX12_init_515 kX12_bestRing lX12_170 (by decide) rfl rfl (Nat.le_of_ble_eq_true rfl) ⟨Nat.le_of_ble_eq_true rfl, Nat.le_of_ble_eq_true rfl⟩ ⟨Nat.le_of_ble_eq_true rfl, Nat.le_of_ble_eq_true rfl⟩ rfl ⟨rfl, by decide⟩ (w_bestRing0 hT hk) ?_
    rintro _ _ _ _ ⟨rfl, rfl, rfl, rfl⟩
    refine V_istore (ls' := [(4, .int (nI (tBest k))), (0, .ref 62), (2, .int (nI k)), (3, .int (nI (tC k)))]) dX12_init_518 (by decide) rfl ?_
    refine V_aload_n dX12_init_520 rfl ?_
    refine V_getR (b := 65) dX12_init_521 fX12_16 ⟨Nat.le_of_ble_eq_true rfl, Nat.le_of_ble_eq_true rfl⟩ rfl rfl rfl ?_
    refine V_iload_n dX12_init_524 rfl ?_
    refine V_iload dX12_init_525 rfl ?_
    refine V_iconst (v := nI 4) dX12_init_527 rfl ?_
    refine V_icmp_neN (tgt := 535) dX12_init_528 rfl (by omega) (by decide) (fun h528 => ?_) (fun h528 => ?_)
    · skip
      have hF6 := h6.2.1 (by omega)
      refine V_aload_n dX12_init_535 rfl ?_
      refine V_iload_n dX12_init_536 rfl ?_
      refine V_iload dX12_init_537 rfl ?_
      refine V_callS (As := [.int (nI (tBest k))]) (st := [.int (nI (tC k)), .ref 62, .int (nI k), .ref 65]) dX12_init_539 kX12_unitOf lX12_163 (by decide) rfl rfl (Nat.le_of_ble_eq_true rfl) ⟨Nat.le_of_ble_eq_true rfl, Nat.le_of_ble_eq_true rfl⟩ (w_unitOf (by omega)) ?_
      rintro _ _ _ _ ⟨rfl, rfl, rfl, rfl⟩
      refine V_isubN dX12_init_542 (by omega) ?_
      refine V_callV (As := [.int (nI ((tC k) - (uN (tBest k))))]) (st := [.int (nI k), .ref 65]) (a := 62) dX12_init_543 kX12_standOf lX12_167 (by decide) rfl rfl (Nat.le_of_ble_eq_true rfl) ⟨Nat.le_of_ble_eq_true rfl, Nat.le_of_ble_eq_true rfl⟩ ⟨Nat.le_of_ble_eq_true rfl, Nat.le_of_ble_eq_true rfl⟩ rfl ⟨rfl, by decide⟩ (w_standOf0 hT) ?_
      rintro _ _ _ _ ⟨rfl, rfl, rfl, rfl⟩
      refine V_eqI (y := nI (tWo k)) (pen_of (Nat.lt_succ_of_le (tWo_le hk)) (congrArg nI (by omega))) ?_
      refine V_iastN (k := k) dX12_init_546 ⟨Nat.le_of_ble_eq_true rfl, Nat.le_of_ble_eq_true rfl⟩ rfl (by decide) (by omega) ?_
      refine V_iincN (ls' := [(2, .int (nI (k + 1))), (4, .int (nI (tBest k))), (0, .ref 62), (3, .int (nI (tC k)))]) (n := 1) dX12_init_547 rfl rfl (by decide) (by decide) rfl ?_
      refine V_goto (tgt := 418) dX12_init_550 rfl ?_
      refine V_sub2 (ls' := [(0, .ref 62), (2, .int (nI (k + 1)))]) (List.forall_mem_cons.mpr ⟨rfl, List.forall_mem_cons.mpr ⟨rfl, fun _ h => absurd h List.not_mem_nil⟩⟩) ?_
      exact kk _ (mdR_s h5 (fun _ => rfl))
    · skip
      refine V_iconst (v := (-1)) dX12_init_531 rfl ?_
      refine V_goto (tgt := 546) dX12_init_532 rfl ?_
      refine V_iastN (k := k) dX12_init_546 ⟨Nat.le_of_ble_eq_true rfl, Nat.le_of_ble_eq_true rfl⟩ rfl (by decide) (by omega) ?_
      refine V_iincN (ls' := [(2, .int (nI (k + 1))), (4, .int (nI (tBest k))), (0, .ref 62), (3, .int (nI (tC k)))]) (n := 1) dX12_init_547 rfl rfl (by decide) (by decide) rfl ?_
      refine V_goto (tgt := 418) dX12_init_550 rfl ?_
      refine V_sub2 (ls' := [(0, .ref 62), (2, .int (nI (k + 1)))]) (List.forall_mem_cons.mpr ⟨rfl, List.forall_mem_cons.mpr ⟨rfl, fun _ h => absurd h List.not_mem_nil⟩⟩) ?_
      exact kk _ (mdR_s h5 (fun c => absurd c (by omega)))
  · skip
    refine V_iconst (v := (-1)) dX12_init_499 rfl ?_
    refine V_goto (tgt := 512) dX12_init_500 rfl ?_
    refine V_iastN (k := (5 * k) + 4) dX12_init_512 ⟨Nat.le_of_ble_eq_true rfl, Nat.le_of_ble_eq_true rfl⟩ rfl (by decide) (by omega) ?_
    obtain ⟨K, hK⟩ : ∃ K, K = (zwr I 64 ((5 * k) + 4) (-1)) := ⟨_, rfl⟩
    have h5 : mdR I0 K k 5 := by rw [hK]; exact mdR_n h (by omega)
    rw [← hK]
    have hT := mdR_T h5 h0
    refine V_aload_n dX12_init_513 rfl ?_
    refine V_iload_n dX12_init_514 rfl ?_
    refine V_callV (As := [.int (nI k)]) (st := []) (a := 62) dX12_init_515 kX12_bestRing lX12_170 (by decide) rfl rfl (Nat.le_of_ble_eq_true rfl) ⟨Nat.le_of_ble_eq_true rfl, Nat.le_of_ble_eq_true rfl⟩ ⟨Nat.le_of_ble_eq_true rfl, Nat.le_of_ble_eq_true rfl⟩ rfl ⟨rfl, by decide⟩ (w_bestRing0 hT hk) ?_
    rintro _ _ _ _ ⟨rfl, rfl, rfl, rfl⟩
    refine V_istore (ls' := [(4, .int (nI (tBest k))), (0, .ref 62), (2, .int (nI k)), (3, .int (nI (tC k)))]) dX12_init_518 (by decide) rfl ?_
    refine V_aload_n dX12_init_520 rfl ?_
    refine V_getR (b := 65) dX12_init_521 fX12_16 ⟨Nat.le_of_ble_eq_true rfl, Nat.le_of_ble_eq_true rfl⟩ rfl rfl rfl ?_
    refine V_iload_n dX12_init_524 rfl ?_
    refine V_iload dX12_init_525 rfl ?_
    refine V_iconst (v := nI 4) dX12_init_527 rfl ?_
    refine V_icmp_neN (tgt := 535) dX12_init_528 rfl (by omega) (by decide) (fun h528 => ?_) (fun h528 => ?_)
    · skip
      have hF6 := h6.2.1 (by omega)
      refine V_aload_n dX12_init_535 rfl ?_
      refine V_iload_n dX12_init_536 rfl ?_
      refine V_iload dX12_init_537 rfl ?_
      refine V_callS (As := [.int (nI (tBest k))]) (st := [.int (nI (tC k)), .ref 62, .int (nI k), .ref 65]) dX12_init_539 kX12_unitOf lX12_163 (by decide) rfl rfl (Nat.le_of_ble_eq_true rfl) ⟨Nat.le_of_ble_eq_true rfl, Nat.le_of_ble_eq_true rfl⟩ (w_unitOf (by omega)) ?_
      rintro _ _ _ _ ⟨rfl, rfl, rfl, rfl⟩
      refine V_isubN dX12_init_542 (by omega) ?_
      refine V_callV (As := [.int (nI ((tC k) - (uN (tBest k))))]) (st := [.int (nI k), .ref 65]) (a := 62) dX12_init_543 kX12_standOf lX12_167 (by decide) rfl rfl (Nat.le_of_ble_eq_true rfl) ⟨Nat.le_of_ble_eq_true rfl, Nat.le_of_ble_eq_true rfl⟩ ⟨Nat.le_of_ble_eq_true rfl, Nat.le_of_ble_eq_true rfl⟩ rfl ⟨rfl, by decide⟩ (w_standOf0 hT) ?_
      rintro _ _ _ _ ⟨rfl, rfl, rfl, rfl⟩
      refine V_eqI (y := nI (tWo k)) (pen_of (Nat.lt_succ_of_le (tWo_le hk)) (congrArg nI (by omega))) ?_
      refine V_iastN (k := k) dX12_init_546 ⟨Nat.le_of_ble_eq_true rfl, Nat.le_of_ble_eq_true rfl⟩ rfl (by decide) (by omega) ?_
      refine V_iincN (ls' := [(2, .int (nI (k + 1))), (4, .int (nI (tBest k))), (0, .ref 62), (3, .int (nI (tC k)))]) (n := 1) dX12_init_547 rfl rfl (by decide) (by decide) rfl ?_
      refine V_goto (tgt := 418) dX12_init_550 rfl ?_
      refine V_sub2 (ls' := [(0, .ref 62), (2, .int (nI (k + 1)))]) (List.forall_mem_cons.mpr ⟨rfl, List.forall_mem_cons.mpr ⟨rfl, fun _ h => absurd h List.not_mem_nil⟩⟩) ?_
      exact kk _ (mdR_s h5 (fun _ => rfl))
    · skip
      refine V_iconst (v := (-1)) dX12_init_531 rfl ?_
      refine V_goto (tgt := 546) dX12_init_532 rfl ?_
      refine V_iastN (k := k) dX12_init_546 ⟨Nat.le_of_ble_eq_true rfl, Nat.le_of_ble_eq_true rfl⟩ rfl (by decide) (by omega) ?_
      refine V_iincN (ls' := [(2, .int (nI (k + 1))), (4, .int (nI (tBest k))), (0, .ref 62), (3, .int (nI (tC k)))]) (n := 1) dX12_init_547 rfl rfl (by decide) (by decide) rfl ?_
      refine V_goto (tgt := 418) dX12_init_550 rfl ?_
      refine V_sub2 (ls' := [(0, .ref 62), (2, .int (nI (k + 1)))]) (List.forall_mem_cons.mpr ⟨rfl, List.forall_mem_cons.mpr ⟨rfl, fun _ h => absurd h List.not_mem_nil⟩⟩) ?_
      exact kk _ (mdR_s h5 (fun c => absurd c (by omega)))

set_option maxRecDepth 100000 in
set_option maxHeartbeats 4000000 in
theorem md_code {G : zG} {Q : zQ} {I0 I : zI} {J : zJ} {k : Nat} (h0 : mT0 I0) (hk : k < 56) (h : mdR I0 I k 0) (kk : ∀ I1, mdR I0 I1 (k + 1) 0 → V G mX12_init 5 Q 418 [(0, .ref 62), (2, .int (nI (k + 1)))] [] (42, 110544) zsh I1 J) : V G mX12_init 5 Q 418 [(0, .ref 62), (2, .int (nI k))] [] (42, 110544) zsh I J := by
  refine V_iload_n dX12_init_418 rfl ?_
  refine V_bipush (v := nI 56) dX12_init_419 rfl ?_
  refine V_icmp_geN (tgt := 553) dX12_init_421 rfl (by omega) (by decide) (fun h => absurd h (by omega)) (fun _ => ?_)
  refine V_aload_n dX12_init_424 rfl ?_
  refine V_getR (b := 63) dX12_init_425 fX12_7 ⟨Nat.le_of_ble_eq_true rfl, Nat.le_of_ble_eq_true rfl⟩ rfl rfl rfl ?_
  refine V_iload_n dX12_init_428 rfl ?_
  refine V_ialdN (k := k) dX12_init_429 ⟨Nat.le_of_ble_eq_true rfl, Nat.le_of_ble_eq_true rfl⟩ rfl (by decide) (by omega) ?_
  refine V_eqI (y := nI (tC k)) (mdR_T h h0 _ hk) ?_
  refine V_istore_n (ls' := [(3, .int (nI (tC k))), (0, .ref 62), (2, .int (nI k))]) dX12_init_430 (by decide) rfl ?_
  refine V_iconst (v := nI 0) dX12_init_431 rfl ?_
  refine V_istore (ls' := [(4, .int (nI 0)), (3, .int (nI (tC k))), (0, .ref 62), (2, .int (nI k))]) dX12_init_432 (by decide) rfl ?_
  refine V_sub2 (ls' := [(0, .ref 62), (2, .int (nI k)), (3, .int (nI (tC k))), (4, .int (nI 0))]) (List.forall_mem_cons.mpr ⟨rfl, List.forall_mem_cons.mpr ⟨rfl, List.forall_mem_cons.mpr ⟨rfl, List.forall_mem_cons.mpr ⟨rfl, fun _ h => absurd h List.not_mem_nil⟩⟩⟩⟩) ?_
  refine md_ring h0 hk (by decide) h (fun I1 hR1 => ?_)
  refine V_sub2 (ls' := [(0, .ref 62), (2, .int (nI k)), (3, .int (nI (tC k))), (4, .int (nI 1))]) (List.forall_mem_cons.mpr ⟨rfl, List.forall_mem_cons.mpr ⟨rfl, List.forall_mem_cons.mpr ⟨rfl, List.forall_mem_cons.mpr ⟨rfl, fun _ h => absurd h List.not_mem_nil⟩⟩⟩⟩) ?_
  refine md_ring h0 hk (by decide) hR1 (fun I2 hR2 => ?_)
  refine V_sub2 (ls' := [(0, .ref 62), (2, .int (nI k)), (3, .int (nI (tC k))), (4, .int (nI 2))]) (List.forall_mem_cons.mpr ⟨rfl, List.forall_mem_cons.mpr ⟨rfl, List.forall_mem_cons.mpr ⟨rfl, List.forall_mem_cons.mpr ⟨rfl, fun _ h => absurd h List.not_mem_nil⟩⟩⟩⟩) ?_
  refine md_ring h0 hk (by decide) hR2 (fun I3 hR3 => ?_)
  refine V_sub2 (ls' := [(0, .ref 62), (2, .int (nI k)), (3, .int (nI (tC k))), (4, .int (nI 3))]) (List.forall_mem_cons.mpr ⟨rfl, List.forall_mem_cons.mpr ⟨rfl, List.forall_mem_cons.mpr ⟨rfl, List.forall_mem_cons.mpr ⟨rfl, fun _ h => absurd h List.not_mem_nil⟩⟩⟩⟩) ?_
  refine md_ring h0 hk (by decide) hR3 (fun I4 hR4 => ?_)
  refine V_sub2 (ls' := [(0, .ref 62), (2, .int (nI k)), (3, .int (nI (tC k))), (4, .int (nI 4))]) (List.forall_mem_cons.mpr ⟨rfl, List.forall_mem_cons.mpr ⟨rfl, List.forall_mem_cons.mpr ⟨rfl, List.forall_mem_cons.mpr ⟨rfl, fun _ h => absurd h List.not_mem_nil⟩⟩⟩⟩) ?_
  exact md_last h0 hk hR4 kk

set_option maxRecDepth 100000 in
set_option maxHeartbeats 4000000 in
theorem md_loop {G : zG} {I0 : zI} {J : zJ} (h0 : mT0 I0) : ∀ f k I, k + f = 56 → mdR I0 I k 0 → V G mX12_init 5 (zB2 zsh (fun I' J' => (∀ a, a ≠ 63 → a ≠ 64 → a ≠ 65 → I' a = I0 a) ∧ mT I' ∧ J' = J)) 418 [(0, .ref 62), (2, .int (nI k))] [] (42, 110544) zsh I J := by
  intro f
  induction f with
  | zero =>
    intro k I hf h
    obtain rfl : k = 56 := by omega
    refine V_iload_n dX12_init_418 rfl ?_
    refine V_bipush (v := nI 56) dX12_init_419 rfl ?_
    refine V_icmp_geN (tgt := 553) dX12_init_421 rfl (by decide) (by decide) (fun _ => ?_) (fun h => absurd h (by decide))
    exact V_ret ⟨rfl, dX12_init_553⟩ ⟨Nat.le_of_ble_eq_true rfl, Nat.le_of_ble_eq_true rfl⟩ ⟨rfl, rfl, fun a _ ha hb => h.1 a ha hb, mdR_e h h0, rfl⟩
  | succ f ih =>
    intro k I hf h
    exact md_code h0 (by omega) h (fun I1 h1 => ih (k + 1) I1 (by omega) h1)

set_option maxRecDepth 100000 in
set_option maxHeartbeats 4000000 in
theorem ci_X12 {G : zG} {I : zI} {J : zJ} (hi : ∀ x, 62 ≤ x → x ≤ 104 → I x = fun _ => 0) (hj : ∀ x, 62 ≤ x → x ≤ 104 → J x = fun _ => 0) : zK G mX12_init 5 [.ref 62] (61, zkd, zup zrf 62 (rP 62 0)) I J (zB2 (103, zkd, zrf) (fun I' J' => (∀ a, a ≠ 63 → a ≠ 64 → a ≠ 65 → I' a = (zwr (zwr (zwr (zwr (zwr (zwr I 62 4 (nI 8)) 62 5 (nI 8)) 62 6 (nI 1)) 62 57 (nI 50)) 62 58 (nI 50)) 62 46 (-1)) a) ∧ mT I' ∧ J' = J)) := by
  have hr : ∀ x, 62 ≤ x → x ≤ 104 → zrf x = zrf x := fun _ _ _ => rfl
  refine zK_of kX12_init.2.2.2.2.1 (Nat.le_of_ble_eq_true rfl) ?_
  show V G mX12_init 5 _ 0 [(0, .ref 62)] [] (0, 0) (61, zkd, zup zrf 62 (rP 62 0)) I J
  refine V_aload_n dX12_init_0 rfl ?_
  refine V_obj dX12_init_1 jX12_1 (Nat.le_of_ble_eq_true rfl) (Nat.le_of_ble_eq_true rfl) ?_
  refine V_aload_n dX12_init_4 rfl ?_
  refine V_bipush (v := nI 56) dX12_init_5 rfl ?_
  refine W_newI (m' := 62) (a := 63) (c1' := 1) (c2' := 56) dX12_init_7 rfl rfl rfl ((zup_n (by decide)).trans ((hr 63 (by decide) (by decide)).trans rfl)) (hi 63 (by decide) (by decide)) (hj 63 (by decide) (by decide)) (Nat.lt_of_le_of_lt (Nat.le_of_ble_eq_true rfl) (show 100000 < 2 ^ 20 by decide)) ⟨rfl, rfl⟩ ⟨Nat.le_of_ble_eq_true rfl, Nat.le_of_ble_eq_true rfl⟩ ?_
  refine W_putR (n := 0) (k := 0) (b := 63) dX12_init_9 fX12_7 gX12_7 ⟨Nat.le_of_ble_eq_true rfl, Nat.le_of_ble_eq_true rfl⟩ rfl rfl rfl rfl rfl (fun _ => ⟨rfl, rfl⟩) (Nat.le_of_ble_eq_true rfl) rfl (by decide +kernel) ?_
  refine V_aload_n dX12_init_12 rfl ?_
  refine V_sipush (v := nI 280) dX12_init_13 rfl ?_
  refine W_newI (m' := 63) (a := 64) (c1' := 2) (c2' := 336) dX12_init_16 rfl rfl rfl ((zup_n (by decide)).trans ((hr 64 (by decide) (by decide)).trans rfl)) (hi 64 (by decide) (by decide)) (hj 64 (by decide) (by decide)) (Nat.lt_of_le_of_lt (Nat.le_of_ble_eq_true rfl) (show 100000 < 2 ^ 20 by decide)) ⟨rfl, rfl⟩ ⟨Nat.le_of_ble_eq_true rfl, Nat.le_of_ble_eq_true rfl⟩ ?_
  refine W_putR (n := 1) (k := 1) (b := 64) dX12_init_18 fX12_13 gX12_13 ⟨Nat.le_of_ble_eq_true rfl, Nat.le_of_ble_eq_true rfl⟩ rfl rfl rfl rfl rfl (fun _ => ⟨rfl, rfl⟩) (Nat.le_of_ble_eq_true rfl) rfl (by decide +kernel) ?_
  refine V_aload_n dX12_init_21 rfl ?_
  refine V_bipush (v := nI 56) dX12_init_22 rfl ?_
  refine W_newI (m' := 64) (a := 65) (c1' := 3) (c2' := 392) dX12_init_24 rfl rfl rfl ((zup_n (by decide)).trans ((hr 65 (by decide) (by decide)).trans rfl)) (hi 65 (by decide) (by decide)) (hj 65 (by decide) (by decide)) (Nat.lt_of_le_of_lt (Nat.le_of_ble_eq_true rfl) (show 100000 < 2 ^ 20 by decide)) ⟨rfl, rfl⟩ ⟨Nat.le_of_ble_eq_true rfl, Nat.le_of_ble_eq_true rfl⟩ ?_
  refine W_putR (n := 2) (k := 2) (b := 65) dX12_init_26 fX12_16 gX12_16 ⟨Nat.le_of_ble_eq_true rfl, Nat.le_of_ble_eq_true rfl⟩ rfl rfl rfl rfl rfl (fun _ => ⟨rfl, rfl⟩) (Nat.le_of_ble_eq_true rfl) rfl (by decide +kernel) ?_
  refine V_aload_n dX12_init_29 rfl ?_
  refine V_sipush (v := nI 260) dX12_init_30 rfl ?_
  refine W_newB (m' := 65) (a := 66) (c1' := 4) (c2' := 652) dX12_init_33 rfl rfl rfl ((zup_n (by decide)).trans ((hr 66 (by decide) (by decide)).trans rfl)) (hi 66 (by decide) (by decide)) (hj 66 (by decide) (by decide)) (Nat.lt_of_le_of_lt (Nat.le_of_ble_eq_true rfl) (show 100000 < 2 ^ 20 by decide)) ⟨rfl, rfl⟩ ⟨Nat.le_of_ble_eq_true rfl, Nat.le_of_ble_eq_true rfl⟩ ?_
  refine W_putR (n := 3) (k := 3) (b := 66) dX12_init_35 fX12_19 gX12_19 ⟨Nat.le_of_ble_eq_true rfl, Nat.le_of_ble_eq_true rfl⟩ rfl rfl rfl rfl rfl (fun _ => ⟨rfl, rfl⟩) (Nat.le_of_ble_eq_true rfl) rfl (by decide +kernel) ?_
  refine V_aload_n dX12_init_38 rfl ?_
  refine V_sipush (v := nI 260) dX12_init_39 rfl ?_
  refine W_newI (m' := 66) (a := 67) (c1' := 5) (c2' := 912) dX12_init_42 rfl rfl rfl ((zup_n (by decide)).trans ((hr 67 (by decide) (by decide)).trans rfl)) (hi 67 (by decide) (by decide)) (hj 67 (by decide) (by decide)) (Nat.lt_of_le_of_lt (Nat.le_of_ble_eq_true rfl) (show 100000 < 2 ^ 20 by decide)) ⟨rfl, rfl⟩ ⟨Nat.le_of_ble_eq_true rfl, Nat.le_of_ble_eq_true rfl⟩ ?_
  refine W_putR (n := 4) (k := 16) (b := 67) dX12_init_44 fX12_23 gX12_23 ⟨Nat.le_of_ble_eq_true rfl, Nat.le_of_ble_eq_true rfl⟩ rfl rfl rfl rfl rfl (fun _ => ⟨rfl, rfl⟩) (Nat.le_of_ble_eq_true rfl) rfl (by decide +kernel) ?_
  refine V_aload_n dX12_init_47 rfl ?_
  refine V_sipush (v := nI 260) dX12_init_48 rfl ?_
  refine W_newI (m' := 67) (a := 68) (c1' := 6) (c2' := 1172) dX12_init_51 rfl rfl rfl ((zup_n (by decide)).trans ((hr 68 (by decide) (by decide)).trans rfl)) (hi 68 (by decide) (by decide)) (hj 68 (by decide) (by decide)) (Nat.lt_of_le_of_lt (Nat.le_of_ble_eq_true rfl) (show 100000 < 2 ^ 20 by decide)) ⟨rfl, rfl⟩ ⟨Nat.le_of_ble_eq_true rfl, Nat.le_of_ble_eq_true rfl⟩ ?_
  refine W_putR (n := 17) (k := 17) (b := 68) dX12_init_53 fX12_26 gX12_26 ⟨Nat.le_of_ble_eq_true rfl, Nat.le_of_ble_eq_true rfl⟩ rfl rfl rfl rfl rfl (fun _ => ⟨rfl, rfl⟩) (Nat.le_of_ble_eq_true rfl) rfl (by decide +kernel) ?_
  refine V_aload_n dX12_init_56 rfl ?_
  refine V_bipush (v := nI 16) dX12_init_57 rfl ?_
  refine W_newI (m' := 68) (a := 69) (c1' := 7) (c2' := 1188) dX12_init_59 rfl rfl rfl ((zup_n (by decide)).trans ((hr 69 (by decide) (by decide)).trans rfl)) (hi 69 (by decide) (by decide)) (hj 69 (by decide) (by decide)) (Nat.lt_of_le_of_lt (Nat.le_of_ble_eq_true rfl) (show 100000 < 2 ^ 20 by decide)) ⟨rfl, rfl⟩ ⟨Nat.le_of_ble_eq_true rfl, Nat.le_of_ble_eq_true rfl⟩ ?_
  refine W_putR (n := 18) (k := 18) (b := 69) dX12_init_61 fX12_29 gX12_29 ⟨Nat.le_of_ble_eq_true rfl, Nat.le_of_ble_eq_true rfl⟩ rfl rfl rfl rfl rfl (fun _ => ⟨rfl, rfl⟩) (Nat.le_of_ble_eq_true rfl) rfl (by decide +kernel) ?_
  refine V_aload_n dX12_init_64 rfl ?_
  refine V_bipush (v := nI 16) dX12_init_65 rfl ?_
  refine W_newI (m' := 69) (a := 70) (c1' := 8) (c2' := 1204) dX12_init_67 rfl rfl rfl ((zup_n (by decide)).trans ((hr 70 (by decide) (by decide)).trans rfl)) (hi 70 (by decide) (by decide)) (hj 70 (by decide) (by decide)) (Nat.lt_of_le_of_lt (Nat.le_of_ble_eq_true rfl) (show 100000 < 2 ^ 20 by decide)) ⟨rfl, rfl⟩ ⟨Nat.le_of_ble_eq_true rfl, Nat.le_of_ble_eq_true rfl⟩ ?_
  refine W_putR (n := 19) (k := 19) (b := 70) dX12_init_69 fX12_32 gX12_32 ⟨Nat.le_of_ble_eq_true rfl, Nat.le_of_ble_eq_true rfl⟩ rfl rfl rfl rfl rfl (fun _ => ⟨rfl, rfl⟩) (Nat.le_of_ble_eq_true rfl) rfl (by decide +kernel) ?_
  refine V_aload_n dX12_init_72 rfl ?_
  refine V_bipush (v := nI 16) dX12_init_73 rfl ?_
  refine W_newI (m' := 70) (a := 71) (c1' := 9) (c2' := 1220) dX12_init_75 rfl rfl rfl ((zup_n (by decide)).trans ((hr 71 (by decide) (by decide)).trans rfl)) (hi 71 (by decide) (by decide)) (hj 71 (by decide) (by decide)) (Nat.lt_of_le_of_lt (Nat.le_of_ble_eq_true rfl) (show 100000 < 2 ^ 20 by decide)) ⟨rfl, rfl⟩ ⟨Nat.le_of_ble_eq_true rfl, Nat.le_of_ble_eq_true rfl⟩ ?_
  refine W_putR (n := 20) (k := 20) (b := 71) dX12_init_77 fX12_35 gX12_35 ⟨Nat.le_of_ble_eq_true rfl, Nat.le_of_ble_eq_true rfl⟩ rfl rfl rfl rfl rfl (fun _ => ⟨rfl, rfl⟩) (Nat.le_of_ble_eq_true rfl) rfl (by decide +kernel) ?_
  refine V_aload_n dX12_init_80 rfl ?_
  refine V_bipush (v := nI 16) dX12_init_81 rfl ?_
  refine W_newI (m' := 71) (a := 72) (c1' := 10) (c2' := 1236) dX12_init_83 rfl rfl rfl ((zup_n (by decide)).trans ((hr 72 (by decide) (by decide)).trans rfl)) (hi 72 (by decide) (by decide)) (hj 72 (by decide) (by decide)) (Nat.lt_of_le_of_lt (Nat.le_of_ble_eq_true rfl) (show 100000 < 2 ^ 20 by decide)) ⟨rfl, rfl⟩ ⟨Nat.le_of_ble_eq_true rfl, Nat.le_of_ble_eq_true rfl⟩ ?_
  refine W_putR (n := 21) (k := 21) (b := 72) dX12_init_85 fX12_38 gX12_38 ⟨Nat.le_of_ble_eq_true rfl, Nat.le_of_ble_eq_true rfl⟩ rfl rfl rfl rfl rfl (fun _ => ⟨rfl, rfl⟩) (Nat.le_of_ble_eq_true rfl) rfl (by decide +kernel) ?_
  refine V_aload_n dX12_init_88 rfl ?_
  refine V_sipush (v := nI 1300) dX12_init_89 rfl ?_
  refine W_newI (m' := 72) (a := 73) (c1' := 11) (c2' := 2536) dX12_init_92 rfl rfl rfl ((zup_n (by decide)).trans ((hr 73 (by decide) (by decide)).trans rfl)) (hi 73 (by decide) (by decide)) (hj 73 (by decide) (by decide)) (Nat.lt_of_le_of_lt (Nat.le_of_ble_eq_true rfl) (show 100000 < 2 ^ 20 by decide)) ⟨rfl, rfl⟩ ⟨Nat.le_of_ble_eq_true rfl, Nat.le_of_ble_eq_true rfl⟩ ?_
  refine W_putR (n := 22) (k := 22) (b := 73) dX12_init_94 fX12_41 gX12_41 ⟨Nat.le_of_ble_eq_true rfl, Nat.le_of_ble_eq_true rfl⟩ rfl rfl rfl rfl rfl (fun _ => ⟨rfl, rfl⟩) (Nat.le_of_ble_eq_true rfl) rfl (by decide +kernel) ?_
  refine V_aload_n dX12_init_97 rfl ?_
  refine V_iconst (v := nI 5) dX12_init_98 rfl ?_
  refine W_newI (m' := 73) (a := 74) (c1' := 12) (c2' := 2541) dX12_init_99 rfl rfl rfl ((zup_n (by decide)).trans ((hr 74 (by decide) (by decide)).trans rfl)) (hi 74 (by decide) (by decide)) (hj 74 (by decide) (by decide)) (Nat.lt_of_le_of_lt (Nat.le_of_ble_eq_true rfl) (show 100000 < 2 ^ 20 by decide)) ⟨rfl, rfl⟩ ⟨Nat.le_of_ble_eq_true rfl, Nat.le_of_ble_eq_true rfl⟩ ?_
  refine W_putR (n := 23) (k := 23) (b := 74) dX12_init_101 fX12_44 gX12_44 ⟨Nat.le_of_ble_eq_true rfl, Nat.le_of_ble_eq_true rfl⟩ rfl rfl rfl rfl rfl (fun _ => ⟨rfl, rfl⟩) (Nat.le_of_ble_eq_true rfl) rfl (by decide +kernel) ?_
  refine V_aload_n dX12_init_104 rfl ?_
  refine V_bipush (v := nI 80) dX12_init_105 rfl ?_
  refine W_newI (m' := 74) (a := 75) (c1' := 13) (c2' := 2621) dX12_init_107 rfl rfl rfl ((zup_n (by decide)).trans ((hr 75 (by decide) (by decide)).trans rfl)) (hi 75 (by decide) (by decide)) (hj 75 (by decide) (by decide)) (Nat.lt_of_le_of_lt (Nat.le_of_ble_eq_true rfl) (show 100000 < 2 ^ 20 by decide)) ⟨rfl, rfl⟩ ⟨Nat.le_of_ble_eq_true rfl, Nat.le_of_ble_eq_true rfl⟩ ?_
  refine W_putR (n := 24) (k := 24) (b := 75) dX12_init_109 fX12_47 gX12_47 ⟨Nat.le_of_ble_eq_true rfl, Nat.le_of_ble_eq_true rfl⟩ rfl rfl rfl rfl rfl (fun _ => ⟨rfl, rfl⟩) (Nat.le_of_ble_eq_true rfl) rfl (by decide +kernel) ?_
  refine V_aload_n dX12_init_112 rfl ?_
  refine V_bipush (v := nI 80) dX12_init_113 rfl ?_
  refine W_newI (m' := 75) (a := 76) (c1' := 14) (c2' := 2701) dX12_init_115 rfl rfl rfl ((zup_n (by decide)).trans ((hr 76 (by decide) (by decide)).trans rfl)) (hi 76 (by decide) (by decide)) (hj 76 (by decide) (by decide)) (Nat.lt_of_le_of_lt (Nat.le_of_ble_eq_true rfl) (show 100000 < 2 ^ 20 by decide)) ⟨rfl, rfl⟩ ⟨Nat.le_of_ble_eq_true rfl, Nat.le_of_ble_eq_true rfl⟩ ?_
  refine W_putR (n := 25) (k := 25) (b := 76) dX12_init_117 fX12_50 gX12_50 ⟨Nat.le_of_ble_eq_true rfl, Nat.le_of_ble_eq_true rfl⟩ rfl rfl rfl rfl rfl (fun _ => ⟨rfl, rfl⟩) (Nat.le_of_ble_eq_true rfl) rfl (by decide +kernel) ?_
  refine V_aload_n dX12_init_120 rfl ?_
  refine V_bipush (v := nI 80) dX12_init_121 rfl ?_
  refine W_newI (m' := 76) (a := 77) (c1' := 15) (c2' := 2781) dX12_init_123 rfl rfl rfl ((zup_n (by decide)).trans ((hr 77 (by decide) (by decide)).trans rfl)) (hi 77 (by decide) (by decide)) (hj 77 (by decide) (by decide)) (Nat.lt_of_le_of_lt (Nat.le_of_ble_eq_true rfl) (show 100000 < 2 ^ 20 by decide)) ⟨rfl, rfl⟩ ⟨Nat.le_of_ble_eq_true rfl, Nat.le_of_ble_eq_true rfl⟩ ?_
  refine W_putR (n := 26) (k := 26) (b := 77) dX12_init_125 fX12_53 gX12_53 ⟨Nat.le_of_ble_eq_true rfl, Nat.le_of_ble_eq_true rfl⟩ rfl rfl rfl rfl rfl (fun _ => ⟨rfl, rfl⟩) (Nat.le_of_ble_eq_true rfl) rfl (by decide +kernel) ?_
  refine V_aload_n dX12_init_128 rfl ?_
  refine V_bipush (v := nI 80) dX12_init_129 rfl ?_
  refine W_newI (m' := 77) (a := 78) (c1' := 16) (c2' := 2861) dX12_init_131 rfl rfl rfl ((zup_n (by decide)).trans ((hr 78 (by decide) (by decide)).trans rfl)) (hi 78 (by decide) (by decide)) (hj 78 (by decide) (by decide)) (Nat.lt_of_le_of_lt (Nat.le_of_ble_eq_true rfl) (show 100000 < 2 ^ 20 by decide)) ⟨rfl, rfl⟩ ⟨Nat.le_of_ble_eq_true rfl, Nat.le_of_ble_eq_true rfl⟩ ?_
  refine W_putR (n := 27) (k := 27) (b := 78) dX12_init_133 fX12_56 gX12_56 ⟨Nat.le_of_ble_eq_true rfl, Nat.le_of_ble_eq_true rfl⟩ rfl rfl rfl rfl rfl (fun _ => ⟨rfl, rfl⟩) (Nat.le_of_ble_eq_true rfl) rfl (by decide +kernel) ?_
  refine V_aload_n dX12_init_136 rfl ?_
  refine V_sipush (v := nI 260) dX12_init_137 rfl ?_
  refine W_newI (m' := 78) (a := 79) (c1' := 17) (c2' := 3121) dX12_init_140 rfl rfl rfl ((zup_n (by decide)).trans ((hr 79 (by decide) (by decide)).trans rfl)) (hi 79 (by decide) (by decide)) (hj 79 (by decide) (by decide)) (Nat.lt_of_le_of_lt (Nat.le_of_ble_eq_true rfl) (show 100000 < 2 ^ 20 by decide)) ⟨rfl, rfl⟩ ⟨Nat.le_of_ble_eq_true rfl, Nat.le_of_ble_eq_true rfl⟩ ?_
  refine W_putR (n := 28) (k := 28) (b := 79) dX12_init_142 fX12_59 gX12_59 ⟨Nat.le_of_ble_eq_true rfl, Nat.le_of_ble_eq_true rfl⟩ rfl rfl rfl rfl rfl (fun _ => ⟨rfl, rfl⟩) (Nat.le_of_ble_eq_true rfl) rfl (by decide +kernel) ?_
  refine V_aload_n dX12_init_145 rfl ?_
  refine V_bipush (v := nI 9) dX12_init_146 rfl ?_
  refine W_newI (m' := 79) (a := 80) (c1' := 18) (c2' := 3130) dX12_init_148 rfl rfl rfl ((zup_n (by decide)).trans ((hr 80 (by decide) (by decide)).trans rfl)) (hi 80 (by decide) (by decide)) (hj 80 (by decide) (by decide)) (Nat.lt_of_le_of_lt (Nat.le_of_ble_eq_true rfl) (show 100000 < 2 ^ 20 by decide)) ⟨rfl, rfl⟩ ⟨Nat.le_of_ble_eq_true rfl, Nat.le_of_ble_eq_true rfl⟩ ?_
  refine W_putR (n := 29) (k := 29) (b := 80) dX12_init_150 fX12_62 gX12_62 ⟨Nat.le_of_ble_eq_true rfl, Nat.le_of_ble_eq_true rfl⟩ rfl rfl rfl rfl rfl (fun _ => ⟨rfl, rfl⟩) (Nat.le_of_ble_eq_true rfl) rfl (by decide +kernel) ?_
  refine V_aload_n dX12_init_153 rfl ?_
  refine V_bipush (v := nI 7) dX12_init_154 rfl ?_
  refine W_newI (m' := 80) (a := 81) (c1' := 19) (c2' := 3137) dX12_init_156 rfl rfl rfl ((zup_n (by decide)).trans ((hr 81 (by decide) (by decide)).trans rfl)) (hi 81 (by decide) (by decide)) (hj 81 (by decide) (by decide)) (Nat.lt_of_le_of_lt (Nat.le_of_ble_eq_true rfl) (show 100000 < 2 ^ 20 by decide)) ⟨rfl, rfl⟩ ⟨Nat.le_of_ble_eq_true rfl, Nat.le_of_ble_eq_true rfl⟩ ?_
  refine W_putR (n := 30) (k := 30) (b := 81) dX12_init_158 fX12_65 gX12_65 ⟨Nat.le_of_ble_eq_true rfl, Nat.le_of_ble_eq_true rfl⟩ rfl rfl rfl rfl rfl (fun _ => ⟨rfl, rfl⟩) (Nat.le_of_ble_eq_true rfl) rfl (by decide +kernel) ?_
  refine V_aload_n dX12_init_161 rfl ?_
  refine V_ldc dX12_init_162 qX12_68 ?_
  refine V_eqI (y := nI 87808) rfl ?_
  refine W_newB (m' := 81) (a := 82) (c1' := 20) (c2' := 90945) dX12_init_164 rfl rfl rfl ((zup_n (by decide)).trans ((hr 82 (by decide) (by decide)).trans rfl)) (hi 82 (by decide) (by decide)) (hj 82 (by decide) (by decide)) (Nat.lt_of_le_of_lt (Nat.le_of_ble_eq_true rfl) (show 100000 < 2 ^ 20 by decide)) ⟨rfl, rfl⟩ ⟨Nat.le_of_ble_eq_true rfl, Nat.le_of_ble_eq_true rfl⟩ ?_
  refine W_putR (n := 31) (k := 31) (b := 82) dX12_init_166 fX12_69 gX12_69 ⟨Nat.le_of_ble_eq_true rfl, Nat.le_of_ble_eq_true rfl⟩ rfl rfl rfl rfl rfl (fun _ => ⟨rfl, rfl⟩) (Nat.le_of_ble_eq_true rfl) rfl (by decide +kernel) ?_
  refine V_aload_n dX12_init_169 rfl ?_
  refine V_sipush (v := nI 6272) dX12_init_170 rfl ?_
  refine W_newL (m' := 82) (a := 83) (c1' := 21) (c2' := 97217) dX12_init_173 rfl rfl rfl ((zup_n (by decide)).trans ((hr 83 (by decide) (by decide)).trans rfl)) (hi 83 (by decide) (by decide)) (hj 83 (by decide) (by decide)) (Nat.lt_of_le_of_lt (Nat.le_of_ble_eq_true rfl) (show 100000 < 2 ^ 20 by decide)) ⟨rfl, rfl⟩ ⟨Nat.le_of_ble_eq_true rfl, Nat.le_of_ble_eq_true rfl⟩ ?_
  refine W_putR (n := 32) (k := 36) (b := 83) dX12_init_175 fX12_72 gX12_72 ⟨Nat.le_of_ble_eq_true rfl, Nat.le_of_ble_eq_true rfl⟩ rfl rfl rfl rfl rfl (fun _ => ⟨rfl, rfl⟩) (Nat.le_of_ble_eq_true rfl) rfl (by decide +kernel) ?_
  refine V_aload_n dX12_init_178 rfl ?_
  refine V_sipush (v := nI 6272) dX12_init_179 rfl ?_
  refine W_newL (m' := 83) (a := 84) (c1' := 22) (c2' := 103489) dX12_init_182 rfl rfl rfl ((zup_n (by decide)).trans ((hr 84 (by decide) (by decide)).trans rfl)) (hi 84 (by decide) (by decide)) (hj 84 (by decide) (by decide)) (Nat.lt_of_le_of_lt (Nat.le_of_ble_eq_true rfl) (show 100000 < 2 ^ 20 by decide)) ⟨rfl, rfl⟩ ⟨Nat.le_of_ble_eq_true rfl, Nat.le_of_ble_eq_true rfl⟩ ?_
  refine W_putR (n := 37) (k := 37) (b := 84) dX12_init_184 fX12_76 gX12_76 ⟨Nat.le_of_ble_eq_true rfl, Nat.le_of_ble_eq_true rfl⟩ rfl rfl rfl rfl rfl (fun _ => ⟨rfl, rfl⟩) (Nat.le_of_ble_eq_true rfl) rfl (by decide +kernel) ?_
  refine V_aload_n dX12_init_187 rfl ?_
  refine V_sipush (v := nI 6272) dX12_init_188 rfl ?_
  refine W_newB (m' := 84) (a := 85) (c1' := 23) (c2' := 109761) dX12_init_191 rfl rfl rfl ((zup_n (by decide)).trans ((hr 85 (by decide) (by decide)).trans rfl)) (hi 85 (by decide) (by decide)) (hj 85 (by decide) (by decide)) (Nat.lt_of_le_of_lt (Nat.le_of_ble_eq_true rfl) (show 100000 < 2 ^ 20 by decide)) ⟨rfl, rfl⟩ ⟨Nat.le_of_ble_eq_true rfl, Nat.le_of_ble_eq_true rfl⟩ ?_
  refine W_putR (n := 38) (k := 38) (b := 85) dX12_init_193 fX12_79 gX12_79 ⟨Nat.le_of_ble_eq_true rfl, Nat.le_of_ble_eq_true rfl⟩ rfl rfl rfl rfl rfl (fun _ => ⟨rfl, rfl⟩) (Nat.le_of_ble_eq_true rfl) rfl (by decide +kernel) ?_
  refine V_aload_n dX12_init_196 rfl ?_
  refine V_bipush (v := nI 16) dX12_init_197 rfl ?_
  refine W_newL (m' := 85) (a := 86) (c1' := 24) (c2' := 109777) dX12_init_199 rfl rfl rfl ((zup_n (by decide)).trans ((hr 86 (by decide) (by decide)).trans rfl)) (hi 86 (by decide) (by decide)) (hj 86 (by decide) (by decide)) (Nat.lt_of_le_of_lt (Nat.le_of_ble_eq_true rfl) (show 100000 < 2 ^ 20 by decide)) ⟨rfl, rfl⟩ ⟨Nat.le_of_ble_eq_true rfl, Nat.le_of_ble_eq_true rfl⟩ ?_
  refine W_putR (n := 39) (k := 43) (b := 86) dX12_init_201 fX12_82 gX12_82 ⟨Nat.le_of_ble_eq_true rfl, Nat.le_of_ble_eq_true rfl⟩ rfl rfl rfl rfl rfl (fun _ => ⟨rfl, rfl⟩) (Nat.le_of_ble_eq_true rfl) rfl (by decide +kernel) ?_
  refine V_aload_n dX12_init_204 rfl ?_
  refine V_bipush (v := nI 14) dX12_init_205 rfl ?_
  refine W_newL (m' := 86) (a := 87) (c1' := 25) (c2' := 109791) dX12_init_207 rfl rfl rfl ((zup_n (by decide)).trans ((hr 87 (by decide) (by decide)).trans rfl)) (hi 87 (by decide) (by decide)) (hj 87 (by decide) (by decide)) (Nat.lt_of_le_of_lt (Nat.le_of_ble_eq_true rfl) (show 100000 < 2 ^ 20 by decide)) ⟨rfl, rfl⟩ ⟨Nat.le_of_ble_eq_true rfl, Nat.le_of_ble_eq_true rfl⟩ ?_
  refine W_putR (n := 44) (k := 44) (b := 87) dX12_init_209 fX12_85 gX12_85 ⟨Nat.le_of_ble_eq_true rfl, Nat.le_of_ble_eq_true rfl⟩ rfl rfl rfl rfl rfl (fun _ => ⟨rfl, rfl⟩) (Nat.le_of_ble_eq_true rfl) rfl (by decide +kernel) ?_
  refine V_aload_n dX12_init_212 rfl ?_
  refine V_sipush (v := nI 392) dX12_init_213 rfl ?_
  refine W_newI (m' := 87) (a := 88) (c1' := 26) (c2' := 110183) dX12_init_216 rfl rfl rfl ((zup_n (by decide)).trans ((hr 88 (by decide) (by decide)).trans rfl)) (hi 88 (by decide) (by decide)) (hj 88 (by decide) (by decide)) (Nat.lt_of_le_of_lt (Nat.le_of_ble_eq_true rfl) (show 100000 < 2 ^ 20 by decide)) ⟨rfl, rfl⟩ ⟨Nat.le_of_ble_eq_true rfl, Nat.le_of_ble_eq_true rfl⟩ ?_
  refine W_putR (n := 45) (k := 45) (b := 88) dX12_init_218 fX12_88 gX12_88 ⟨Nat.le_of_ble_eq_true rfl, Nat.le_of_ble_eq_true rfl⟩ rfl rfl rfl rfl rfl (fun _ => ⟨rfl, rfl⟩) (Nat.le_of_ble_eq_true rfl) rfl (by decide +kernel) ?_
  refine V_aload_n dX12_init_221 rfl ?_
  refine V_bipush (v := nI 7) dX12_init_222 rfl ?_
  refine W_newI (m' := 88) (a := 89) (c1' := 27) (c2' := 110190) dX12_init_224 rfl rfl rfl ((zup_n (by decide)).trans ((hr 89 (by decide) (by decide)).trans rfl)) (hi 89 (by decide) (by decide)) (hj 89 (by decide) (by decide)) (Nat.lt_of_le_of_lt (Nat.le_of_ble_eq_true rfl) (show 100000 < 2 ^ 20 by decide)) ⟨rfl, rfl⟩ ⟨Nat.le_of_ble_eq_true rfl, Nat.le_of_ble_eq_true rfl⟩ ?_
  refine W_putR (n := 46) (k := 47) (b := 89) dX12_init_226 fX12_91 gX12_91 ⟨Nat.le_of_ble_eq_true rfl, Nat.le_of_ble_eq_true rfl⟩ rfl rfl rfl rfl rfl (fun _ => ⟨rfl, rfl⟩) (Nat.le_of_ble_eq_true rfl) rfl (by decide +kernel) ?_
  refine V_aload_n dX12_init_229 rfl ?_
  refine V_bipush (v := nI 6) dX12_init_230 rfl ?_
  refine W_newI (m' := 89) (a := 90) (c1' := 28) (c2' := 110196) dX12_init_232 rfl rfl rfl ((zup_n (by decide)).trans ((hr 90 (by decide) (by decide)).trans rfl)) (hi 90 (by decide) (by decide)) (hj 90 (by decide) (by decide)) (Nat.lt_of_le_of_lt (Nat.le_of_ble_eq_true rfl) (show 100000 < 2 ^ 20 by decide)) ⟨rfl, rfl⟩ ⟨Nat.le_of_ble_eq_true rfl, Nat.le_of_ble_eq_true rfl⟩ ?_
  refine W_putR (n := 48) (k := 48) (b := 90) dX12_init_234 fX12_94 gX12_94 ⟨Nat.le_of_ble_eq_true rfl, Nat.le_of_ble_eq_true rfl⟩ rfl rfl rfl rfl rfl (fun _ => ⟨rfl, rfl⟩) (Nat.le_of_ble_eq_true rfl) rfl (by decide +kernel) ?_
  refine V_aload_n dX12_init_237 rfl ?_
  refine V_iconst (v := nI 5) dX12_init_238 rfl ?_
  refine W_newI (m' := 90) (a := 91) (c1' := 29) (c2' := 110201) dX12_init_239 rfl rfl rfl ((zup_n (by decide)).trans ((hr 91 (by decide) (by decide)).trans rfl)) (hi 91 (by decide) (by decide)) (hj 91 (by decide) (by decide)) (Nat.lt_of_le_of_lt (Nat.le_of_ble_eq_true rfl) (show 100000 < 2 ^ 20 by decide)) ⟨rfl, rfl⟩ ⟨Nat.le_of_ble_eq_true rfl, Nat.le_of_ble_eq_true rfl⟩ ?_
  refine W_putR (n := 49) (k := 49) (b := 91) dX12_init_241 fX12_97 gX12_97 ⟨Nat.le_of_ble_eq_true rfl, Nat.le_of_ble_eq_true rfl⟩ rfl rfl rfl rfl rfl (fun _ => ⟨rfl, rfl⟩) (Nat.le_of_ble_eq_true rfl) rfl (by decide +kernel) ?_
  refine V_aload_n dX12_init_244 rfl ?_
  refine V_iconst (v := nI 5) dX12_init_245 rfl ?_
  refine W_newI (m' := 91) (a := 92) (c1' := 30) (c2' := 110206) dX12_init_246 rfl rfl rfl ((zup_n (by decide)).trans ((hr 92 (by decide) (by decide)).trans rfl)) (hi 92 (by decide) (by decide)) (hj 92 (by decide) (by decide)) (Nat.lt_of_le_of_lt (Nat.le_of_ble_eq_true rfl) (show 100000 < 2 ^ 20 by decide)) ⟨rfl, rfl⟩ ⟨Nat.le_of_ble_eq_true rfl, Nat.le_of_ble_eq_true rfl⟩ ?_
  refine W_putR (n := 50) (k := 50) (b := 92) dX12_init_248 fX12_100 gX12_100 ⟨Nat.le_of_ble_eq_true rfl, Nat.le_of_ble_eq_true rfl⟩ rfl rfl rfl rfl rfl (fun _ => ⟨rfl, rfl⟩) (Nat.le_of_ble_eq_true rfl) rfl (by decide +kernel) ?_
  refine V_aload_n dX12_init_251 rfl ?_
  refine V_bipush (v := nI 64) dX12_init_252 rfl ?_
  refine W_newI (m' := 92) (a := 93) (c1' := 31) (c2' := 110270) dX12_init_254 rfl rfl rfl ((zup_n (by decide)).trans ((hr 93 (by decide) (by decide)).trans rfl)) (hi 93 (by decide) (by decide)) (hj 93 (by decide) (by decide)) (Nat.lt_of_le_of_lt (Nat.le_of_ble_eq_true rfl) (show 100000 < 2 ^ 20 by decide)) ⟨rfl, rfl⟩ ⟨Nat.le_of_ble_eq_true rfl, Nat.le_of_ble_eq_true rfl⟩ ?_
  refine W_putR (n := 51) (k := 51) (b := 93) dX12_init_256 fX12_103 gX12_103 ⟨Nat.le_of_ble_eq_true rfl, Nat.le_of_ble_eq_true rfl⟩ rfl rfl rfl rfl rfl (fun _ => ⟨rfl, rfl⟩) (Nat.le_of_ble_eq_true rfl) rfl (by decide +kernel) ?_
  refine V_aload_n dX12_init_259 rfl ?_
  refine V_bipush (v := nI 64) dX12_init_260 rfl ?_
  refine W_newI (m' := 93) (a := 94) (c1' := 32) (c2' := 110334) dX12_init_262 rfl rfl rfl ((zup_n (by decide)).trans ((hr 94 (by decide) (by decide)).trans rfl)) (hi 94 (by decide) (by decide)) (hj 94 (by decide) (by decide)) (Nat.lt_of_le_of_lt (Nat.le_of_ble_eq_true rfl) (show 100000 < 2 ^ 20 by decide)) ⟨rfl, rfl⟩ ⟨Nat.le_of_ble_eq_true rfl, Nat.le_of_ble_eq_true rfl⟩ ?_
  refine W_putR (n := 52) (k := 52) (b := 94) dX12_init_264 fX12_106 gX12_106 ⟨Nat.le_of_ble_eq_true rfl, Nat.le_of_ble_eq_true rfl⟩ rfl rfl rfl rfl rfl (fun _ => ⟨rfl, rfl⟩) (Nat.le_of_ble_eq_true rfl) rfl (by decide +kernel) ?_
  refine V_aload_n dX12_init_267 rfl ?_
  refine V_bipush (v := nI 64) dX12_init_268 rfl ?_
  refine W_newI (m' := 94) (a := 95) (c1' := 33) (c2' := 110398) dX12_init_270 rfl rfl rfl ((zup_n (by decide)).trans ((hr 95 (by decide) (by decide)).trans rfl)) (hi 95 (by decide) (by decide)) (hj 95 (by decide) (by decide)) (Nat.lt_of_le_of_lt (Nat.le_of_ble_eq_true rfl) (show 100000 < 2 ^ 20 by decide)) ⟨rfl, rfl⟩ ⟨Nat.le_of_ble_eq_true rfl, Nat.le_of_ble_eq_true rfl⟩ ?_
  refine W_putR (n := 53) (k := 53) (b := 95) dX12_init_272 fX12_109 gX12_109 ⟨Nat.le_of_ble_eq_true rfl, Nat.le_of_ble_eq_true rfl⟩ rfl rfl rfl rfl rfl (fun _ => ⟨rfl, rfl⟩) (Nat.le_of_ble_eq_true rfl) rfl (by decide +kernel) ?_
  refine V_aload_n dX12_init_275 rfl ?_
  refine V_bipush (v := nI 64) dX12_init_276 rfl ?_
  refine W_newI (m' := 95) (a := 96) (c1' := 34) (c2' := 110462) dX12_init_278 rfl rfl rfl ((zup_n (by decide)).trans ((hr 96 (by decide) (by decide)).trans rfl)) (hi 96 (by decide) (by decide)) (hj 96 (by decide) (by decide)) (Nat.lt_of_le_of_lt (Nat.le_of_ble_eq_true rfl) (show 100000 < 2 ^ 20 by decide)) ⟨rfl, rfl⟩ ⟨Nat.le_of_ble_eq_true rfl, Nat.le_of_ble_eq_true rfl⟩ ?_
  refine W_putR (n := 54) (k := 54) (b := 96) dX12_init_280 fX12_112 gX12_112 ⟨Nat.le_of_ble_eq_true rfl, Nat.le_of_ble_eq_true rfl⟩ rfl rfl rfl rfl rfl (fun _ => ⟨rfl, rfl⟩) (Nat.le_of_ble_eq_true rfl) rfl (by decide +kernel) ?_
  refine V_aload_n dX12_init_283 rfl ?_
  refine V_bipush (v := nI 12) dX12_init_284 rfl ?_
  refine W_newI (m' := 96) (a := 97) (c1' := 35) (c2' := 110474) dX12_init_286 rfl rfl rfl ((zup_n (by decide)).trans ((hr 97 (by decide) (by decide)).trans rfl)) (hi 97 (by decide) (by decide)) (hj 97 (by decide) (by decide)) (Nat.lt_of_le_of_lt (Nat.le_of_ble_eq_true rfl) (show 100000 < 2 ^ 20 by decide)) ⟨rfl, rfl⟩ ⟨Nat.le_of_ble_eq_true rfl, Nat.le_of_ble_eq_true rfl⟩ ?_
  refine W_putR (n := 55) (k := 59) (b := 97) dX12_init_288 fX12_115 gX12_115 ⟨Nat.le_of_ble_eq_true rfl, Nat.le_of_ble_eq_true rfl⟩ rfl rfl rfl rfl rfl (fun _ => ⟨rfl, rfl⟩) (Nat.le_of_ble_eq_true rfl) rfl (by decide +kernel) ?_
  refine V_aload_n dX12_init_291 rfl ?_
  refine V_bipush (v := nI 12) dX12_init_292 rfl ?_
  refine W_newI (m' := 97) (a := 98) (c1' := 36) (c2' := 110486) dX12_init_294 rfl rfl rfl ((zup_n (by decide)).trans ((hr 98 (by decide) (by decide)).trans rfl)) (hi 98 (by decide) (by decide)) (hj 98 (by decide) (by decide)) (Nat.lt_of_le_of_lt (Nat.le_of_ble_eq_true rfl) (show 100000 < 2 ^ 20 by decide)) ⟨rfl, rfl⟩ ⟨Nat.le_of_ble_eq_true rfl, Nat.le_of_ble_eq_true rfl⟩ ?_
  refine W_putR (n := 60) (k := 60) (b := 98) dX12_init_296 fX12_118 gX12_118 ⟨Nat.le_of_ble_eq_true rfl, Nat.le_of_ble_eq_true rfl⟩ rfl rfl rfl rfl rfl (fun _ => ⟨rfl, rfl⟩) (Nat.le_of_ble_eq_true rfl) rfl (by decide +kernel) ?_
  refine V_aload_n dX12_init_299 rfl ?_
  refine V_bipush (v := nI 12) dX12_init_300 rfl ?_
  refine W_newI (m' := 98) (a := 99) (c1' := 37) (c2' := 110498) dX12_init_302 rfl rfl rfl ((zup_n (by decide)).trans ((hr 99 (by decide) (by decide)).trans rfl)) (hi 99 (by decide) (by decide)) (hj 99 (by decide) (by decide)) (Nat.lt_of_le_of_lt (Nat.le_of_ble_eq_true rfl) (show 100000 < 2 ^ 20 by decide)) ⟨rfl, rfl⟩ ⟨Nat.le_of_ble_eq_true rfl, Nat.le_of_ble_eq_true rfl⟩ ?_
  refine W_putR (n := 61) (k := 61) (b := 99) dX12_init_304 fX12_121 gX12_121 ⟨Nat.le_of_ble_eq_true rfl, Nat.le_of_ble_eq_true rfl⟩ rfl rfl rfl rfl rfl (fun _ => ⟨rfl, rfl⟩) (Nat.le_of_ble_eq_true rfl) rfl (by decide +kernel) ?_
  refine V_aload_n dX12_init_307 rfl ?_
  refine V_iconst (v := nI 5) dX12_init_308 rfl ?_
  refine W_newI (m' := 99) (a := 100) (c1' := 38) (c2' := 110503) dX12_init_309 rfl rfl rfl ((zup_n (by decide)).trans ((hr 100 (by decide) (by decide)).trans rfl)) (hi 100 (by decide) (by decide)) (hj 100 (by decide) (by decide)) (Nat.lt_of_le_of_lt (Nat.le_of_ble_eq_true rfl) (show 100000 < 2 ^ 20 by decide)) ⟨rfl, rfl⟩ ⟨Nat.le_of_ble_eq_true rfl, Nat.le_of_ble_eq_true rfl⟩ ?_
  refine W_putR (n := 62) (k := 68) (b := 100) dX12_init_311 fX12_124 gX12_124 ⟨Nat.le_of_ble_eq_true rfl, Nat.le_of_ble_eq_true rfl⟩ rfl rfl rfl rfl rfl (fun _ => ⟨rfl, rfl⟩) (Nat.le_of_ble_eq_true rfl) rfl (by decide +kernel) ?_
  refine V_aload_n dX12_init_314 rfl ?_
  refine V_iconst (v := nI 5) dX12_init_315 rfl ?_
  refine W_newI (m' := 100) (a := 101) (c1' := 39) (c2' := 110508) dX12_init_316 rfl rfl rfl ((zup_n (by decide)).trans ((hr 101 (by decide) (by decide)).trans rfl)) (hi 101 (by decide) (by decide)) (hj 101 (by decide) (by decide)) (Nat.lt_of_le_of_lt (Nat.le_of_ble_eq_true rfl) (show 100000 < 2 ^ 20 by decide)) ⟨rfl, rfl⟩ ⟨Nat.le_of_ble_eq_true rfl, Nat.le_of_ble_eq_true rfl⟩ ?_
  refine W_putR (n := 69) (k := 69) (b := 101) dX12_init_318 fX12_127 gX12_127 ⟨Nat.le_of_ble_eq_true rfl, Nat.le_of_ble_eq_true rfl⟩ rfl rfl rfl rfl rfl (fun _ => ⟨rfl, rfl⟩) (Nat.le_of_ble_eq_true rfl) rfl (by decide +kernel) ?_
  refine V_aload_n dX12_init_321 rfl ?_
  refine V_bipush (v := nI 12) dX12_init_322 rfl ?_
  refine W_newI (m' := 101) (a := 102) (c1' := 40) (c2' := 110520) dX12_init_324 rfl rfl rfl ((zup_n (by decide)).trans ((hr 102 (by decide) (by decide)).trans rfl)) (hi 102 (by decide) (by decide)) (hj 102 (by decide) (by decide)) (Nat.lt_of_le_of_lt (Nat.le_of_ble_eq_true rfl) (show 100000 < 2 ^ 20 by decide)) ⟨rfl, rfl⟩ ⟨Nat.le_of_ble_eq_true rfl, Nat.le_of_ble_eq_true rfl⟩ ?_
  refine W_putR (n := 70) (k := 70) (b := 102) dX12_init_326 fX12_130 gX12_130 ⟨Nat.le_of_ble_eq_true rfl, Nat.le_of_ble_eq_true rfl⟩ rfl rfl rfl rfl rfl (fun _ => ⟨rfl, rfl⟩) (Nat.le_of_ble_eq_true rfl) rfl (by decide +kernel) ?_
  refine V_aload_n dX12_init_329 rfl ?_
  refine V_bipush (v := nI 12) dX12_init_330 rfl ?_
  refine W_newI (m' := 102) (a := 103) (c1' := 41) (c2' := 110532) dX12_init_332 rfl rfl rfl ((zup_n (by decide)).trans ((hr 103 (by decide) (by decide)).trans rfl)) (hi 103 (by decide) (by decide)) (hj 103 (by decide) (by decide)) (Nat.lt_of_le_of_lt (Nat.le_of_ble_eq_true rfl) (show 100000 < 2 ^ 20 by decide)) ⟨rfl, rfl⟩ ⟨Nat.le_of_ble_eq_true rfl, Nat.le_of_ble_eq_true rfl⟩ ?_
  refine W_putR (n := 71) (k := 71) (b := 103) dX12_init_334 fX12_133 gX12_133 ⟨Nat.le_of_ble_eq_true rfl, Nat.le_of_ble_eq_true rfl⟩ rfl rfl rfl rfl rfl (fun _ => ⟨rfl, rfl⟩) (Nat.le_of_ble_eq_true rfl) rfl (by decide +kernel) ?_
  refine V_aload_n dX12_init_337 rfl ?_
  refine V_bipush (v := nI 12) dX12_init_338 rfl ?_
  refine W_newI (m' := 103) (a := 104) (c1' := 42) (c2' := 110544) dX12_init_340 rfl rfl rfl ((zup_n (by decide)).trans ((hr 104 (by decide) (by decide)).trans rfl)) (hi 104 (by decide) (by decide)) (hj 104 (by decide) (by decide)) (Nat.lt_of_le_of_lt (Nat.le_of_ble_eq_true rfl) (show 100000 < 2 ^ 20 by decide)) ⟨rfl, rfl⟩ ⟨Nat.le_of_ble_eq_true rfl, Nat.le_of_ble_eq_true rfl⟩ ?_
  refine W_putR (n := 72) (k := 72) (b := 104) dX12_init_342 fX12_136 gX12_136 ⟨Nat.le_of_ble_eq_true rfl, Nat.le_of_ble_eq_true rfl⟩ rfl rfl rfl rfl rfl (fun _ => ⟨rfl, rfl⟩) (Nat.le_of_ble_eq_true rfl) rfl (by decide +kernel) ?_
  refine V_aload_n dX12_init_345 rfl ?_
  refine V_bipush (v := nI 8) dX12_init_346 rfl ?_
  refine V_putW dX12_init_348 fX12_139 ⟨Nat.le_of_ble_eq_true rfl, Nat.le_of_ble_eq_true rfl⟩ rfl rfl rfl ⟨rfl, rfl⟩ ?_
  refine V_aload_n dX12_init_351 rfl ?_
  refine V_bipush (v := nI 8) dX12_init_352 rfl ?_
  refine V_putW dX12_init_354 fX12_143 ⟨Nat.le_of_ble_eq_true rfl, Nat.le_of_ble_eq_true rfl⟩ rfl rfl rfl ⟨rfl, rfl⟩ ?_
  refine V_aload_n dX12_init_357 rfl ?_
  refine V_iconst (v := nI 1) dX12_init_358 rfl ?_
  refine V_putW dX12_init_359 fX12_146 ⟨Nat.le_of_ble_eq_true rfl, Nat.le_of_ble_eq_true rfl⟩ rfl rfl rfl ⟨rfl, rfl⟩ ?_
  refine V_aload_n dX12_init_362 rfl ?_
  refine V_bipush (v := nI 50) dX12_init_363 rfl ?_
  refine V_putW dX12_init_365 fX12_149 ⟨Nat.le_of_ble_eq_true rfl, Nat.le_of_ble_eq_true rfl⟩ rfl rfl rfl ⟨rfl, rfl⟩ ?_
  refine V_aload_n dX12_init_368 rfl ?_
  refine V_bipush (v := nI 50) dX12_init_369 rfl ?_
  refine V_putW dX12_init_371 fX12_152 ⟨Nat.le_of_ble_eq_true rfl, Nat.le_of_ble_eq_true rfl⟩ rfl rfl rfl ⟨rfl, rfl⟩ ?_
  refine V_aload_n dX12_init_374 rfl ?_
  refine V_iconst (v := (-1)) dX12_init_375 rfl ?_
  refine V_putW dX12_init_376 fX12_155 ⟨Nat.le_of_ble_eq_true rfl, Nat.le_of_ble_eq_true rfl⟩ rfl rfl rfl ⟨rfl, rfl⟩ ?_
  refine V_iconst (v := nI 0) dX12_init_379 rfl ?_
  refine V_istore_n (ls' := [(1, .int (nI 0)), (0, .ref 62)]) dX12_init_380 (by decide) rfl ?_
  refine V_iconst (v := nI 0) dX12_init_381 rfl ?_
  refine V_istore_n (ls' := [(2, .int (nI 0)), (1, .int (nI 0)), (0, .ref 62)]) dX12_init_382 (by decide) rfl ?_
  refine W_end (rfl) (by decide +kernel) ?_
  refine V_sub2 (ls' := [(0, .ref 62), (1, .int (nI 0)), (2, .int (nI 0))]) (List.forall_mem_cons.mpr ⟨rfl, List.forall_mem_cons.mpr ⟨rfl, List.forall_mem_cons.mpr ⟨rfl, fun _ h => absurd h List.not_mem_nil⟩⟩⟩) ?_
  refine mc_loop (I0 := zwr (zwr (zwr (zwr (zwr (zwr I 62 4 (nI 8)) 62 5 (nI 8)) 62 6 (nI 1)) 62 57 (nI 50)) 62 58 (nI 50)) 62 46 (-1)) (fun I1 h1 h0 => ?_) 40000 0 0 _ rfl mcI_0
  refine V_iconst (v := nI 0) dX12_init_416 rfl ?_
  refine V_istore_n (ls' := [(2, .int (nI 0)), (0, .ref 62)]) dX12_init_417 (by decide) rfl ?_
  refine V_sub2 (ls' := [(0, .ref 62), (2, .int (nI 0))]) (List.forall_mem_cons.mpr ⟨rfl, List.forall_mem_cons.mpr ⟨rfl, fun _ h => absurd h List.not_mem_nil⟩⟩) ?_
  refine V_imp ?_ (md_loop h0 56 0 I1 rfl ⟨fun _ _ _ => rfl, fun j _ _ hj _ => absurd hj (Nat.not_lt_zero _), fun j hj => absurd hj (Nat.not_lt_zero _), fun _ j hj => absurd hj (Nat.not_lt_zero _)⟩)
  rintro _ _ _ _ ⟨rfl, rfl, h2, h3, h4⟩
  exact ⟨rfl, rfl, fun a ha hb hc => (h2 a ha hb hc).trans (h1 a ha), h3, h4⟩

