/-! THE MODEL: two guesses weighed -/
theorem mcG_le {f : Nat} {d : Nat → Nat} (hf : f ≤ 10) (hd : ∀ j, d j < 10) : ∀ i, mcG 10 f d i ≤ 10
  | 0 => Nat.zero_le _
  | i + 1 => by
    have := mcG_le hf hd i
    have h1 : d i * f ≤ 9 * 10 := Nat.mul_le_mul (by have := hd i; omega) hf
    show (mcG 10 f d i + d i * f) / 10 ≤ 10
    omega
set_option maxRecDepth 100000 in
set_option maxHeartbeats 4000000 in
theorem lp_mulIn {G : zG} {I : zI} {J : zJ} {Q : zQ} {a f T n : Nat} (ha : zin zsh a) (hka : zkd a = (1, 64)) (hf : f ≤ 10) {d : Nat → Nat} (hd : ∀ j, d j < 10) (hnext : ∀ I1, (∀ b, b ≠ a → I1 b = I b) → (∀ j, j < 64 → I1 a j = nI (mdG 10 f d j)) → V G mX12_multiplies 0 Q 53 [(0, .ref a), (1, .int (nI f)), (2, .int (nI T)), (3, .int (nI n)), (4, .int (nI (mcG 10 f d 64))), (5, .int (nI 64))] [] (0, 0) zsh I1 J) : ∀ m k I1, k + m = 64 → (∀ b, b ≠ a → I1 b = I b) → (∀ j, j < 64 → I1 a j = nI (if j < k then mdG 10 f d j else d j)) → V G mX12_multiplies 0 Q 13 [(0, .ref a), (1, .int (nI f)), (2, .int (nI T)), (3, .int (nI n)), (4, .int (nI (mcG 10 f d k))), (5, .int (nI k))] [] (0, 0) zsh I1 J := by
  intro m
  induction m with
  | zero =>
    intro k I1 hk ho hr
    have hk64 : k = 64 := by omega
    subst hk64
    refine V_iload dX12_multiplies_13 rfl ?_
    refine V_bipush (v := nI 64) dX12_multiplies_15 rfl ?_
    refine V_icmp_geN (tgt := 53) dX12_multiplies_17 rfl (by omega) (by omega) (fun _ => ?_) (fun h => absurd h (by omega))
    exact hnext I1 ho (fun j hj => by rw [hr j hj, if_pos (by omega)])
  | succ m ih =>
    intro k I1 hk ho hr
    refine V_iload dX12_multiplies_13 rfl ?_
    refine V_bipush (v := nI 64) dX12_multiplies_15 rfl ?_
    refine V_icmp_geN (tgt := 53) dX12_multiplies_17 rfl (by omega) (by omega) (fun h => absurd h (by omega)) (fun _ => ?_)
    refine V_aload_n dX12_multiplies_20 rfl ?_
    refine V_iload dX12_multiplies_21 rfl ?_
    refine V_ialdN (k := k) dX12_multiplies_23 ha hka (by decide) (by have := mcG_le (d := d) hf hd k; have h1 : d k * f ≤ 9 * 10 := Nat.mul_le_mul (by have := hd k; omega) hf; omega) ?_
    refine V_eqI (y := nI (d k)) ((hr k (by omega)).trans (congrArg nI (if_neg (Nat.lt_irrefl k)))) ?_
    refine V_iload_n dX12_multiplies_24 rfl ?_
    refine V_imulN dX12_multiplies_25 ?_
    refine V_iload dX12_multiplies_26 rfl ?_
    refine V_iaddN dX12_multiplies_28 (V_eqI (y := nI (mcG 10 f d k + d k * f)) (congrArg nI (Nat.add_comm _ _)) ?_)
    refine V_istore (ls' := [(6, .int (nI (mcG 10 f d k + d k * f))), (0, .ref a), (1, .int (nI f)), (2, .int (nI T)), (3, .int (nI n)), (4, .int (nI (mcG 10 f d k))), (5, .int (nI k))]) dX12_multiplies_29 (by decide) rfl ?_
    refine V_aload_n dX12_multiplies_31 rfl ?_
    refine V_iload dX12_multiplies_32 rfl ?_
    refine V_iload dX12_multiplies_34 rfl ?_
    refine V_bipush (v := nI 10) dX12_multiplies_36 rfl ?_
    refine V_iremN dX12_multiplies_38 (by have := mcG_le (d := d) hf hd k; have h1 : d k * f ≤ 9 * 10 := Nat.mul_le_mul (by have := hd k; omega) hf; omega) (by have := mcG_le (d := d) hf hd k; have h1 : d k * f ≤ 9 * 10 := Nat.mul_le_mul (by have := hd k; omega) hf; omega) (by have := mcG_le (d := d) hf hd k; have h1 : d k * f ≤ 9 * 10 := Nat.mul_le_mul (by have := hd k; omega) hf; omega) ?_
    refine V_iastN (k := k) dX12_multiplies_39 ha hka (by decide) (by have := mcG_le (d := d) hf hd k; have h1 : d k * f ≤ 9 * 10 := Nat.mul_le_mul (by have := hd k; omega) hf; omega) ?_
    refine V_iload dX12_multiplies_40 rfl ?_
    refine V_bipush (v := nI 10) dX12_multiplies_42 rfl ?_
    refine V_idivN dX12_multiplies_44 (by have := mcG_le (d := d) hf hd k; have h1 : d k * f ≤ 9 * 10 := Nat.mul_le_mul (by have := hd k; omega) hf; omega) (by have := mcG_le (d := d) hf hd k; have h1 : d k * f ≤ 9 * 10 := Nat.mul_le_mul (by have := hd k; omega) hf; omega) (by have := mcG_le (d := d) hf hd k; have h1 : d k * f ≤ 9 * 10 := Nat.mul_le_mul (by have := hd k; omega) hf; omega) ?_
    refine V_istore (ls' := [(4, .int (nI ((mcG 10 f d k + d k * f) / 10))), (6, .int (nI (mcG 10 f d k + d k * f))), (0, .ref a), (1, .int (nI f)), (2, .int (nI T)), (3, .int (nI n)), (5, .int (nI k))]) dX12_multiplies_45 (by decide) rfl ?_
    refine V_iincN (ls' := [(5, .int (nI (k + 1))), (4, .int (nI ((mcG 10 f d k + d k * f) / 10))), (6, .int (nI (mcG 10 f d k + d k * f))), (0, .ref a), (1, .int (nI f)), (2, .int (nI T)), (3, .int (nI n))]) (n := 1) dX12_multiplies_47 rfl rfl (by decide) (by decide) rfl ?_
    refine V_goto (tgt := 13) dX12_multiplies_50 rfl ?_
    refine V_sub2 (ls' := [(0, .ref a), (1, .int (nI f)), (2, .int (nI T)), (3, .int (nI n)), (4, .int (nI (mcG 10 f d (k + 1)))), (5, .int (nI (k + 1)))]) (List.forall_mem_cons.mpr ⟨rfl, List.forall_mem_cons.mpr ⟨rfl, List.forall_mem_cons.mpr ⟨rfl, List.forall_mem_cons.mpr ⟨rfl, List.forall_mem_cons.mpr ⟨(congrArg (fun z => some (Value.int z)) rfl), List.forall_mem_cons.mpr ⟨rfl, fun _ h => absurd h List.not_mem_nil⟩⟩⟩⟩⟩⟩) ?_
    refine ih (k + 1) _ (by omega) (fun b hb => (zup_n hb).trans (ho b hb)) (fun j hj => ?_)
    rw [zwr_at]
    by_cases hjk : j = k
    · subst hjk
      rw [if_pos ⟨rfl, rfl⟩, if_pos (by omega)]
      rfl
    · rw [if_neg (fun h => hjk h.2), hr j hj]
      by_cases h2 : j < k
      · rw [if_pos h2, if_pos (by omega)]
      · rw [if_neg h2, if_neg (by omega)]

set_option maxRecDepth 100000 in
set_option maxHeartbeats 4000000 in
theorem lp_mul {G : zG} {I : zI} {J : zJ} {a f T : Nat} (ha : zin zsh a) (hka : zkd a = (1, 64)) (hf : f ≤ 10) (hT31 : T < 2 ^ 31) {d0 : Nat → Nat} : ∀ m n d I1, n + m = T → (∀ j, d j < 10) → (∀ b, b ≠ a → I1 b = I b) → (∀ j, j < 64 → I1 a j = nI (d j)) → mrowG 10 f T d0 = mrowG 10 f (T - n) d → V G mX12_multiplies 0 (zA2 (fun I' J' => (∀ b, b ≠ a → I' b = I b) ∧ (∀ j, j < 64 → I' a j = nI (mrowG 10 f T d0 j)) ∧ J = J')) 2 [(0, .ref a), (1, .int (nI f)), (2, .int (nI T)), (3, .int (nI n))] [] (0, 0) zsh I1 J := by
  intro m
  induction m with
  | zero =>
    intro n d I1 hk hd ho hr hT
    rw [show T - n = 0 by omega] at hT
    refine V_iload_n dX12_multiplies_2 rfl ?_
    refine V_iload_n dX12_multiplies_3 rfl ?_
    refine V_icmp_geN (tgt := 59) dX12_multiplies_4 rfl (by omega) (by omega) (fun _ => ?_) (fun h => absurd h (by omega))
    exact V_ret ⟨rfl, dX12_multiplies_59⟩ ⟨Nat.le_of_ble_eq_true rfl, Nat.le_of_ble_eq_true rfl⟩ ⟨rfl, rfl, ho, fun j hj => by rw [hr j hj, hT]; rfl, rfl⟩
  | succ m ih =>
    intro n d I1 hk hd ho hr hT
    refine V_iload_n dX12_multiplies_2 rfl ?_
    refine V_iload_n dX12_multiplies_3 rfl ?_
    refine V_icmp_geN (tgt := 59) dX12_multiplies_4 rfl (by omega) (by omega) (fun h => absurd h (by omega)) (fun _ => ?_)
    refine V_iconst (v := nI 0) dX12_multiplies_7 rfl ?_
    refine V_istore (ls' := [(4, .int (nI 0)), (0, .ref a), (1, .int (nI f)), (2, .int (nI T)), (3, .int (nI n))]) dX12_multiplies_8 (by decide) rfl ?_
    refine V_iconst (v := nI 0) dX12_multiplies_10 rfl ?_
    refine V_istore (ls' := [(5, .int (nI 0)), (4, .int (nI 0)), (0, .ref a), (1, .int (nI f)), (2, .int (nI T)), (3, .int (nI n))]) dX12_multiplies_11 (by decide) rfl ?_
    refine V_sub2 (ls' := [(0, .ref a), (1, .int (nI f)), (2, .int (nI T)), (3, .int (nI n)), (4, .int (nI 0)), (5, .int (nI 0))]) (List.forall_mem_cons.mpr ⟨rfl, List.forall_mem_cons.mpr ⟨rfl, List.forall_mem_cons.mpr ⟨rfl, List.forall_mem_cons.mpr ⟨rfl, List.forall_mem_cons.mpr ⟨rfl, List.forall_mem_cons.mpr ⟨rfl, fun _ h => absurd h List.not_mem_nil⟩⟩⟩⟩⟩⟩) ?_
    refine lp_mulIn (I := I1) ha hka hf hd (fun I2 ho2 hr2 => ?_) 64 0 I1 rfl (fun _ _ => rfl) (fun j hj => by rw [hr j hj]; exact congrArg nI (if_neg (Nat.not_lt_zero _)).symm)
    skip
    refine V_iincN (ls' := [(3, .int (nI (n + 1))), (0, .ref a), (1, .int (nI f)), (2, .int (nI T)), (4, .int (nI (mcG 10 f d 64))), (5, .int (nI 64))]) (n := 1) dX12_multiplies_53 rfl rfl (by decide) (by decide) rfl ?_
    refine V_goto (tgt := 2) dX12_multiplies_56 rfl ?_
    refine V_sub2 (ls' := [(0, .ref a), (1, .int (nI f)), (2, .int (nI T)), (3, .int (nI (n + 1)))]) (List.forall_mem_cons.mpr ⟨rfl, List.forall_mem_cons.mpr ⟨rfl, List.forall_mem_cons.mpr ⟨rfl, List.forall_mem_cons.mpr ⟨rfl, fun _ h => absurd h List.not_mem_nil⟩⟩⟩⟩) ?_
    refine ih (n + 1) (mdG 10 f d) I2 (by omega) (fun _ => mdG_lt (by decide)) (fun b hb => (ho2 b hb).trans (ho b hb)) hr2 (by rw [hT, show T - n = T - (n + 1) + 1 by omega]; rfl)

set_option maxRecDepth 100000 in
set_option maxHeartbeats 4000000 in
theorem w_mul {G : zG} {I : zI} {J : zJ} {a f T : Nat} (ha : zin zsh a) (hka : zkd a = (1, 64)) (hf : f ≤ 10) (hT31 : T < 2 ^ 31) {d : Nat → Nat} (hd : ∀ j, d j < 10) (hr : ∀ j, j < 64 → I a j = nI (d j)) : zK G mX12_multiplies 0 [.ref a, .int (nI f), .int (nI T)] zsh I J (zA2 (fun I' J' => (∀ b, b ≠ a → I' b = I b) ∧ (∀ j, j < 64 → I' a j = nI (mrowG 10 f T d j)) ∧ J = J')) := by
  refine zK_of kX12_multiplies.2.2.2.2.1 (Nat.le_of_ble_eq_true rfl) ?_
  show V G mX12_multiplies 0 _ 0 [(0, .ref a), (1, .int (nI f)), (2, .int (nI T))] [] (0, 0) zsh I J
  refine V_iconst (v := nI 0) dX12_multiplies_0 rfl ?_
  refine V_istore_n (ls' := [(3, .int (nI 0)), (0, .ref a), (1, .int (nI f)), (2, .int (nI T))]) dX12_multiplies_1 (by decide) rfl ?_
  refine V_sub2 (ls' := [(0, .ref a), (1, .int (nI f)), (2, .int (nI T)), (3, .int (nI 0))]) (List.forall_mem_cons.mpr ⟨rfl, List.forall_mem_cons.mpr ⟨rfl, List.forall_mem_cons.mpr ⟨rfl, List.forall_mem_cons.mpr ⟨rfl, fun _ h => absurd h List.not_mem_nil⟩⟩⟩⟩) ?_
  exact lp_mul ha hka hf hT31 T 0 d I (Nat.zero_add T) hd (fun _ _ => rfl) hr rfl

set_option maxRecDepth 100000 in
set_option maxHeartbeats 4000000 in
theorem w_maxD {G : zG} {I : zI} {J : zJ} {x y : Nat} (hx : x < 2 ^ 30) (hy : y < 2 ^ 30) : zK G mX12_max 0 [.int (nI 0), .int (nI x - nI y)] zsh I J (zA0 (.int (nI (x - y))) I J) := by
  refine zK_of kX12_max.2.2.2.2.1 (Nat.le_of_ble_eq_true rfl) ?_
  show V G mX12_max 0 _ 0 [(0, .int (nI 0)), (1, .int (nI x - nI y))] [] (0, 0) zsh I J
  have hsub := subI hx hy
  refine V_iload_n dX12_max_0 rfl ?_
  refine V_iload_n dX12_max_1 rfl ?_
  refine V_icmp_leZ (tgt := 9) (a := 0) (b := (nI x - nI y).toInt) dX12_max_2 rfl (by decide) rfl (fun h2 => ?_) (fun h2 => ?_)
  · skip
    refine V_iload_n dX12_max_9 rfl ?_
    exact V_iret ⟨Or.inl rfl, dX12_max_10⟩ ⟨Nat.le_of_ble_eq_true rfl, Nat.le_of_ble_eq_true rfl⟩ ⟨rfl, congrArg (fun z => some (Value.int z)) (pk_sub (by omega)), rfl, rfl⟩
  · skip
    refine V_iload_n dX12_max_5 rfl ?_
    refine V_goto (tgt := 10) dX12_max_6 rfl ?_
    exact V_iret ⟨Or.inl rfl, dX12_max_10⟩ ⟨Nat.le_of_ble_eq_true rfl, Nat.le_of_ble_eq_true rfl⟩ ⟨rfl, congrArg (fun z => some (Value.int (nI z))) (by omega), rfl, rfl⟩

set_option maxRecDepth 100000 in
set_option maxHeartbeats 4000000 in
theorem lp_prod1 {G : zG} {I : zI} {J : zJ} {Q : zQ} {a at6 less : Nat} (ha : zin zsh a) (hka : zkd a = (1, 64)) (hnext : ∀ I1, (∀ b, b ≠ a → I1 b = I b) → (∀ j, j < 64 → I1 a j = nI (if j = 0 then 1 else 0)) → V G mX12_products 1 Q 30 [(0, .ref 62), (1, .ref a), (2, .int (nI at6)), (3, .int (nI less)), (4, .int (nI 64))] [] (0, 0) zsh I1 J) : ∀ m k I1, k + m = 64 → (∀ b, b ≠ a → I1 b = I b) → (∀ j, j < k → I1 a j = nI (if j = 0 then 1 else 0)) → V G mX12_products 1 Q 3 [(0, .ref 62), (1, .ref a), (2, .int (nI at6)), (3, .int (nI less)), (4, .int (nI k))] [] (0, 0) zsh I1 J := by
  intro m
  induction m with
  | zero =>
    intro k I1 hk ho hr
    have hk64 : k = 64 := by omega
    subst hk64
    refine V_iload dX12_products_3 rfl ?_
    refine V_bipush (v := nI 64) dX12_products_5 rfl ?_
    refine V_icmp_geN (tgt := 30) dX12_products_7 rfl (by omega) (by omega) (fun _ => ?_) (fun h => absurd h (by omega))
    exact hnext I1 ho (fun j hj => hr j (by omega))
  | succ m ih =>
    intro k I1 hk ho hr
    refine V_iload dX12_products_3 rfl ?_
    refine V_bipush (v := nI 64) dX12_products_5 rfl ?_
    refine V_icmp_geN (tgt := 30) dX12_products_7 rfl (by omega) (by omega) (fun h => absurd h (by omega)) (fun _ => ?_)
    refine V_aload_n dX12_products_10 rfl ?_
    refine V_iload dX12_products_11 rfl ?_
    refine V_iload dX12_products_13 rfl ?_
    refine V_if_neN (tgt := 22) dX12_products_15 rfl (by omega) (fun h15 => ?_) (fun h15 => ?_)
    · skip
      refine V_iconst (v := nI 0) dX12_products_22 rfl ?_
      refine V_iastN (k := k) dX12_products_23 ha hka (by decide) (by omega) ?_
      refine V_iincN (ls' := [(4, .int (nI (k + 1))), (0, .ref 62), (1, .ref a), (2, .int (nI at6)), (3, .int (nI less))]) (n := 1) dX12_products_24 rfl rfl (by decide) (by decide) rfl ?_
      refine V_goto (tgt := 3) dX12_products_27 rfl ?_
      refine V_sub2 (ls' := [(0, .ref 62), (1, .ref a), (2, .int (nI at6)), (3, .int (nI less)), (4, .int (nI (k + 1)))]) (List.forall_mem_cons.mpr ⟨rfl, List.forall_mem_cons.mpr ⟨rfl, List.forall_mem_cons.mpr ⟨rfl, List.forall_mem_cons.mpr ⟨rfl, List.forall_mem_cons.mpr ⟨rfl, fun _ h => absurd h List.not_mem_nil⟩⟩⟩⟩⟩) ?_
      refine ih (k + 1) _ (by omega) (fun b hb => (zup_n hb).trans (ho b hb)) (fun j hj => ?_)
      rw [zwr_at]
      by_cases hjk : j = k
      · subst hjk
        rw [if_pos ⟨rfl, rfl⟩]
        first | (rw [if_pos (by assumption)]) | (rw [if_neg (by assumption)])
      · rw [if_neg (fun h => hjk h.2)]
        exact hr j (by omega)
    · skip
      refine V_iconst (v := nI 1) dX12_products_18 rfl ?_
      refine V_goto (tgt := 23) dX12_products_19 rfl ?_
      refine V_iastN (k := k) dX12_products_23 ha hka (by decide) (by omega) ?_
      refine V_iincN (ls' := [(4, .int (nI (k + 1))), (0, .ref 62), (1, .ref a), (2, .int (nI at6)), (3, .int (nI less))]) (n := 1) dX12_products_24 rfl rfl (by decide) (by decide) rfl ?_
      refine V_goto (tgt := 3) dX12_products_27 rfl ?_
      refine V_sub2 (ls' := [(0, .ref 62), (1, .ref a), (2, .int (nI at6)), (3, .int (nI less)), (4, .int (nI (k + 1)))]) (List.forall_mem_cons.mpr ⟨rfl, List.forall_mem_cons.mpr ⟨rfl, List.forall_mem_cons.mpr ⟨rfl, List.forall_mem_cons.mpr ⟨rfl, List.forall_mem_cons.mpr ⟨rfl, fun _ h => absurd h List.not_mem_nil⟩⟩⟩⟩⟩) ?_
      refine ih (k + 1) _ (by omega) (fun b hb => (zup_n hb).trans (ho b hb)) (fun j hj => ?_)
      rw [zwr_at]
      by_cases hjk : j = k
      · subst hjk
        rw [if_pos ⟨rfl, rfl⟩]
        first | (rw [if_pos (by assumption)]) | (rw [if_neg (by assumption)])
      · rw [if_neg (fun h => hjk h.2)]
        exact hr j (by omega)

set_option maxRecDepth 100000 in
set_option maxHeartbeats 4000000 in
theorem lp_prod2 {G : zG} {I : zI} {J : zJ} {a at6 less : Nat} (ha : zin zsh a) (hka : zkd a = (1, 64)) (ha1 : a ≠ 91) (ha2 : a ≠ 92) {s h : Nat → Nat} (hb : bkM I 91 92 s h) (h10 : at6 ≤ 10) (hl : less ≤ 3) : ∀ m i I1, i + m = 5 → (∀ b, b ≠ a → I1 b = I b) → (∀ j, j < 64 → I1 a j = nI ((pRowG 10 at6 less s h i) j)) → V G mX12_products 1 (zA2 (fun I' J' => (∀ b, b ≠ a → I' b = I b) ∧ (∀ j, j < 64 → I' a j = nI (pRowG 10 at6 less s h 5 j)) ∧ J = J')) 33 [(0, .ref 62), (1, .ref a), (2, .int (nI at6)), (3, .int (nI less)), (4, .int (nI i))] [] (0, 0) zsh I1 J := by
  intro m
  induction m with
  | zero =>
    intro i I1 hk ho hr
    refine V_iload dX12_products_33 rfl ?_
    refine V_iconst (v := nI 5) dX12_products_35 rfl ?_
    refine V_icmp_geN (tgt := 94) dX12_products_36 rfl (by omega) (by omega) (fun _ => ?_) (fun h => absurd h (by omega))
    exact V_ret ⟨rfl, dX12_products_94⟩ ⟨Nat.le_of_ble_eq_true rfl, Nat.le_of_ble_eq_true rfl⟩ ⟨rfl, rfl, ho, fun j hj => by rw [hr j hj, show i = 5 by omega], rfl⟩
  | succ m ih =>
    intro i I1 hk ho hr
    refine V_iload dX12_products_33 rfl ?_
    refine V_iconst (v := nI 5) dX12_products_35 rfl ?_
    refine V_icmp_geN (tgt := 94) dX12_products_36 rfl (by omega) (by omega) (fun h => absurd h (by omega)) (fun _ => ?_)
    refine V_iconst (v := nI 0) dX12_products_39 rfl ?_
    refine V_iload_n dX12_products_40 rfl ?_
    refine V_iload_n dX12_products_41 rfl ?_
    refine V_iload dX12_products_42 rfl ?_
    refine V_imulN dX12_products_44 (V_eqI (y := nI (i * less)) (congrArg nI (Nat.mul_comm _ _)) ?_)
    refine V_isub dX12_products_45 ?_
    refine V_callS (As := [.int (nI 0), .int (nI at6 - nI (i * less))]) (st := []) dX12_products_46 kX12_max lX12_445 (by decide) rfl rfl (Nat.le_of_ble_eq_true rfl) ⟨Nat.le_of_ble_eq_true rfl, Nat.le_of_ble_eq_true rfl⟩ (w_maxD (by omega) (by have : i * less ≤ 4 * 3 := Nat.mul_le_mul (by omega) hl; omega)) ?_
    rintro _ _ _ _ ⟨rfl, rfl, rfl, rfl⟩
    refine V_istore (ls' := [(5, .int (nI (at6 - i * less))), (0, .ref 62), (1, .ref a), (2, .int (nI at6)), (3, .int (nI less)), (4, .int (nI i))]) dX12_products_49 (by decide) rfl ?_
    refine V_aload_n dX12_products_51 rfl ?_
    refine V_iload dX12_products_52 rfl ?_
    refine V_aload_n dX12_products_54 rfl ?_
    refine V_getR (b := 92) dX12_products_55 fX12_100 ⟨Nat.le_of_ble_eq_true rfl, Nat.le_of_ble_eq_true rfl⟩ rfl rfl rfl ?_
    refine V_iload dX12_products_58 rfl ?_
    refine V_ialdN (k := i) dX12_products_60 ⟨Nat.le_of_ble_eq_true rfl, Nat.le_of_ble_eq_true rfl⟩ rfl (by decide) (by have := (hb.2 i (by omega)).2.2; omega) ?_
    refine V_eqI (y := nI (h i)) ((congrFun (ho 92 (by omega)) _).trans (hb.2 _ (by omega)).2.1) ?_
    refine V_callS (As := [.ref a, .int (nI (at6 - i * less)), .int (nI (h i))]) (st := []) dX12_products_61 kX12_multiplies lX12_448 (by decide) rfl rfl (Nat.le_of_ble_eq_true rfl) ⟨Nat.le_of_ble_eq_true rfl, Nat.le_of_ble_eq_true rfl⟩ (w_mul (d := (pRowG 10 at6 less s h i)) ha hka (by omega) (by have := (hb.2 i (by omega)).2.2; omega) (fun j => pRowG_lt (by decide) i j) hr) ?_
    rintro r sh' I2 J' ⟨rfl, rfl, ho2, hr2, rfl⟩
    refine V_aload_n dX12_products_64 rfl ?_
    refine V_bipush (v := nI 10) dX12_products_65 rfl ?_
    refine V_iload dX12_products_67 rfl ?_
    refine V_isubN dX12_products_69 (by have := (hb.2 i (by omega)).2.2; omega) ?_
    refine V_aload_n dX12_products_70 rfl ?_
    refine V_getR (b := 91) dX12_products_71 fX12_97 ⟨Nat.le_of_ble_eq_true rfl, Nat.le_of_ble_eq_true rfl⟩ rfl rfl rfl ?_
    refine V_iload dX12_products_74 rfl ?_
    refine V_ialdN (k := i) dX12_products_76 ⟨Nat.le_of_ble_eq_true rfl, Nat.le_of_ble_eq_true rfl⟩ rfl (by decide) (by have := (hb.2 i (by omega)).2.2; omega) ?_
    refine V_eqI (y := nI (s i)) (((congrFun (ho2 91 (by omega)) _).trans (congrFun (ho 91 (by omega)) _)).trans (hb.2 _ (by omega)).1) ?_
    refine V_aload_n dX12_products_77 rfl ?_
    refine V_getR (b := 92) dX12_products_78 fX12_100 ⟨Nat.le_of_ble_eq_true rfl, Nat.le_of_ble_eq_true rfl⟩ rfl rfl rfl ?_
    refine V_iload dX12_products_81 rfl ?_
    refine V_ialdN (k := i) dX12_products_83 ⟨Nat.le_of_ble_eq_true rfl, Nat.le_of_ble_eq_true rfl⟩ rfl (by decide) (by have := (hb.2 i (by omega)).2.2; omega) ?_
    refine V_eqI (y := nI (h i)) (((congrFun (ho2 92 (by omega)) _).trans (congrFun (ho 92 (by omega)) _)).trans (hb.2 _ (by omega)).2.1) ?_
    refine V_isubN dX12_products_84 (by have := (hb.2 i (by omega)).2.2; omega) ?_
    refine V_callS (As := [.ref a, .int (nI (10 - (at6 - i * less))), .int (nI ((s i) - (h i)))]) (st := []) dX12_products_85 kX12_multiplies lX12_448 (by decide) rfl rfl (Nat.le_of_ble_eq_true rfl) ⟨Nat.le_of_ble_eq_true rfl, Nat.le_of_ble_eq_true rfl⟩ (w_mul (d := mrowG 10 (at6 - i * less) (h i) (pRowG 10 at6 less s h i)) ha hka (by omega) (by have := (hb.2 i (by omega)).2.2; omega) (mrowG_lt (by decide) _ _ (fun j => pRowG_lt (by decide) i j)) hr2) ?_
    rintro r sh' I3 J' ⟨rfl, rfl, ho3, hr3, rfl⟩
    refine V_iincN (ls' := [(4, .int (nI (i + 1))), (5, .int (nI (at6 - i * less))), (0, .ref 62), (1, .ref a), (2, .int (nI at6)), (3, .int (nI less))]) (n := 1) dX12_products_88 rfl rfl (by decide) (by decide) rfl ?_
    refine V_goto (tgt := 33) dX12_products_91 rfl ?_
    refine V_sub2 (ls' := [(0, .ref 62), (1, .ref a), (2, .int (nI at6)), (3, .int (nI less)), (4, .int (nI (i + 1)))]) (List.forall_mem_cons.mpr ⟨rfl, List.forall_mem_cons.mpr ⟨rfl, List.forall_mem_cons.mpr ⟨rfl, List.forall_mem_cons.mpr ⟨rfl, List.forall_mem_cons.mpr ⟨rfl, fun _ h => absurd h List.not_mem_nil⟩⟩⟩⟩⟩) ?_
    exact ih (i + 1) I3 (by omega) (fun b hb => (ho3 b hb).trans ((ho2 b hb).trans (ho b hb))) hr3

set_option maxRecDepth 100000 in
set_option maxHeartbeats 4000000 in
theorem w_prod {G : zG} {I : zI} {J : zJ} {a at6 less : Nat} (ha : zin zsh a) (hka : zkd a = (1, 64)) (ha1 : a ≠ 91) (ha2 : a ≠ 92) {s h : Nat → Nat} (hb : bkM I 91 92 s h) (h10 : at6 ≤ 10) (hl : less ≤ 3) : zK G mX12_products 1 [.ref 62, .ref a, .int (nI at6), .int (nI less)] zsh I J (zA2 (fun I' J' => (∀ b, b ≠ a → I' b = I b) ∧ (∀ j, j < 64 → I' a j = nI (pRowG 10 at6 less s h 5 j)) ∧ J = J')) := by
  refine zK_of kX12_products.2.2.2.2.1 (Nat.le_of_ble_eq_true rfl) ?_
  show V G mX12_products 1 _ 0 [(0, .ref 62), (1, .ref a), (2, .int (nI at6)), (3, .int (nI less))] [] (0, 0) zsh I J
  refine V_iconst (v := nI 0) dX12_products_0 rfl ?_
  refine V_istore (ls' := [(4, .int (nI 0)), (0, .ref 62), (1, .ref a), (2, .int (nI at6)), (3, .int (nI less))]) dX12_products_1 (by decide) rfl ?_
  refine V_sub2 (ls' := [(0, .ref 62), (1, .ref a), (2, .int (nI at6)), (3, .int (nI less)), (4, .int (nI 0))]) (List.forall_mem_cons.mpr ⟨rfl, List.forall_mem_cons.mpr ⟨rfl, List.forall_mem_cons.mpr ⟨rfl, List.forall_mem_cons.mpr ⟨rfl, List.forall_mem_cons.mpr ⟨rfl, fun _ h => absurd h List.not_mem_nil⟩⟩⟩⟩⟩) ?_
  refine lp_prod1 ha hka (fun I1 ho hr => ?_) 64 0 I rfl (fun _ _ => rfl) (fun j hj => absurd hj (Nat.not_lt_zero _))
  refine V_iconst (v := nI 0) dX12_products_30 rfl ?_
  refine V_istore (ls' := [(4, .int (nI 0)), (0, .ref 62), (1, .ref a), (2, .int (nI at6)), (3, .int (nI less))]) dX12_products_31 (by decide) rfl ?_
  refine V_sub2 (ls' := [(0, .ref 62), (1, .ref a), (2, .int (nI at6)), (3, .int (nI less)), (4, .int (nI 0))]) (List.forall_mem_cons.mpr ⟨rfl, List.forall_mem_cons.mpr ⟨rfl, List.forall_mem_cons.mpr ⟨rfl, List.forall_mem_cons.mpr ⟨rfl, List.forall_mem_cons.mpr ⟨rfl, fun _ h => absurd h List.not_mem_nil⟩⟩⟩⟩⟩) ?_
  exact lp_prod2 ha hka ha1 ha2 hb h10 hl 5 0 I1 rfl ho hr

set_option maxRecDepth 100000 in
set_option maxHeartbeats 4000000 in
theorem lp_fitsStep {G : zG} {I : zI} {J : zJ} {d e : Nat → Nat} (hd : ∀ j, j < 64 → I 93 j = nI (d j) ∧ d j < 10) (he : ∀ j, j < 64 → I 94 j = nI (e j) ∧ e j < 10) {k : Nat} (hk : k < 64) (hnx : ∀ x, x = nI k + (-1) → V G mX12_fits 2 (zA0 (.int (nI (cmpS d e k))) I J) 66 [(5, .int x), (0, .ref 62)] [] (0, 0) zsh I J) : V G mX12_fits 2 (zA0 (.int (nI (cmpS d e (k + 1)))) I J) 66 [(0, .ref 62), (5, .int (nI k))] [] (0, 0) zsh I J := by
  refine V_iload dX12_fits_66 rfl ?_
  refine V_if_ltN (tgt := 117) dX12_fits_68 rfl (by have h1 := (hd k (by omega)).2; have h2 := (he k (by omega)).2; omega) ?_
  refine V_aload_n dX12_fits_71 rfl ?_
  refine V_getR (b := 93) dX12_fits_72 fX12_103 ⟨Nat.le_of_ble_eq_true rfl, Nat.le_of_ble_eq_true rfl⟩ rfl rfl rfl ?_
  refine V_iload dX12_fits_75 rfl ?_
  refine V_ialdN (k := k) dX12_fits_77 ⟨Nat.le_of_ble_eq_true rfl, Nat.le_of_ble_eq_true rfl⟩ rfl (by decide) (by have h1 := (hd k (by omega)).2; have h2 := (he k (by omega)).2; omega) ?_
  refine V_eqI (y := nI (d k)) (hd _ (by omega)).1 ?_
  refine V_aload_n dX12_fits_78 rfl ?_
  refine V_getR (b := 94) dX12_fits_79 fX12_106 ⟨Nat.le_of_ble_eq_true rfl, Nat.le_of_ble_eq_true rfl⟩ rfl rfl rfl ?_
  refine V_iload dX12_fits_82 rfl ?_
  refine V_ialdN (k := k) dX12_fits_84 ⟨Nat.le_of_ble_eq_true rfl, Nat.le_of_ble_eq_true rfl⟩ rfl (by decide) (by have h1 := (hd k (by omega)).2; have h2 := (he k (by omega)).2; omega) ?_
  refine V_eqI (y := nI (e k)) (he _ (by omega)).1 ?_
  refine V_icmp_eqN (tgt := 111) dX12_fits_85 rfl (by have h1 := (hd k (by omega)).2; have h2 := (he k (by omega)).2; omega) (by have h1 := (hd k (by omega)).2; have h2 := (he k (by omega)).2; omega) (fun h85 => ?_) (fun h85 => ?_)
  · skip
    refine V_iinc (v := nI k + (-1)) (ls' := [(5, .int (nI k + (-1))), (0, .ref 62)]) dX12_fits_111 rfl rfl (by decide) rfl ?_
    refine V_goto (tgt := 66) dX12_fits_114 rfl ?_
    rw [show cmpS d e (k + 1) = cmpS d e k from if_pos h85]
    exact hnx (nI k + (-1)) rfl
  · skip
    refine V_aload_n dX12_fits_88 rfl ?_
    refine V_getR (b := 93) dX12_fits_89 fX12_103 ⟨Nat.le_of_ble_eq_true rfl, Nat.le_of_ble_eq_true rfl⟩ rfl rfl rfl ?_
    refine V_iload dX12_fits_92 rfl ?_
    refine V_ialdN (k := k) dX12_fits_94 ⟨Nat.le_of_ble_eq_true rfl, Nat.le_of_ble_eq_true rfl⟩ rfl (by decide) (by have h1 := (hd k (by omega)).2; have h2 := (he k (by omega)).2; omega) ?_
    refine V_eqI (y := nI (d k)) (hd _ (by omega)).1 ?_
    refine V_aload_n dX12_fits_95 rfl ?_
    refine V_getR (b := 94) dX12_fits_96 fX12_106 ⟨Nat.le_of_ble_eq_true rfl, Nat.le_of_ble_eq_true rfl⟩ rfl rfl rfl ?_
    refine V_iload dX12_fits_99 rfl ?_
    refine V_ialdN (k := k) dX12_fits_101 ⟨Nat.le_of_ble_eq_true rfl, Nat.le_of_ble_eq_true rfl⟩ rfl (by decide) (by have h1 := (hd k (by omega)).2; have h2 := (he k (by omega)).2; omega) ?_
    refine V_eqI (y := nI (e k)) (he _ (by omega)).1 ?_
    refine V_icmp_leN (tgt := 109) dX12_fits_102 rfl (by have h1 := (hd k (by omega)).2; have h2 := (he k (by omega)).2; omega) (by have h1 := (hd k (by omega)).2; have h2 := (he k (by omega)).2; omega) (fun h102 => ?_) (fun h102 => ?_)
    · skip
      refine V_iconst (v := nI 2) dX12_fits_109 rfl ?_
      exact V_iret ⟨Or.inl rfl, dX12_fits_110⟩ ⟨Nat.le_of_ble_eq_true rfl, Nat.le_of_ble_eq_true rfl⟩ ⟨rfl, congrArg (fun z => some (Value.int (nI z))) (show 2 = (if d k = e k then cmpS d e k else if e k < d k then 1 else 2) from ((if_neg h85).trans (if_neg (by omega))).symm), rfl, rfl⟩
    · skip
      refine V_iconst (v := nI 1) dX12_fits_105 rfl ?_
      refine V_goto (tgt := 110) dX12_fits_106 rfl ?_
      exact V_iret ⟨Or.inl rfl, dX12_fits_110⟩ ⟨Nat.le_of_ble_eq_true rfl, Nat.le_of_ble_eq_true rfl⟩ ⟨rfl, congrArg (fun z => some (Value.int (nI z))) (show 1 = (if d k = e k then cmpS d e k else if e k < d k then 1 else 2) from ((if_neg h85).trans (if_pos (by omega))).symm), rfl, rfl⟩

theorem lp_fits {G : zG} {I : zI} {J : zJ} {d e : Nat → Nat} (hd : ∀ j, j < 64 → I 93 j = nI (d j) ∧ d j < 10) (he : ∀ j, j < 64 → I 94 j = nI (e j) ∧ e j < 10) : ∀ k, k < 64 → V G mX12_fits 2 (zA0 (.int (nI (cmpS d e (k + 1)))) I J) 66 [(0, .ref 62), (5, .int (nI k))] [] (0, 0) zsh I J := by
  intro k
  induction k with
  | zero =>
    intro hk
    refine lp_fitsStep hd he hk (fun x hx => ?_)
    have hx2 : x = -1 := hx.trans (by decide)
    subst hx2
    refine V_iload dX12_fits_66 rfl ?_
    refine V_if_lt (tgt := 117) dX12_fits_68 rfl (fun _ => ?_) (fun h => absurd (by decide) h)
    refine V_iconst (v := nI 0) dX12_fits_117 rfl ?_
    exact V_iret ⟨Or.inl rfl, dX12_fits_118⟩ ⟨Nat.le_of_ble_eq_true rfl, Nat.le_of_ble_eq_true rfl⟩ ⟨rfl, rfl, rfl, rfl⟩
  | succ k ih =>
    intro hk
    refine lp_fitsStep hd he hk (fun x hx => ?_)
    have hx2 : x = nI k := by
      rw [hx]
      apply Int32.toInt_inj.mp
      rw [Int32.toInt_add, nI_toInt (by omega), nI_toInt (by omega), show (-1 : Int32).toInt = -1 by decide, Int.bmod_eq_of_le (by omega) (by omega)]
      omega
    subst hx2
    refine V_sub2 (ls' := [(0, .ref 62), (5, .int (nI k))]) (List.forall_mem_cons.mpr ⟨rfl, List.forall_mem_cons.mpr ⟨rfl, fun _ h => absurd h List.not_mem_nil⟩⟩) ?_
    exact ih (by omega)
set_option maxRecDepth 100000 in
set_option maxHeartbeats 4000000 in
theorem w_fitsY {G : zG} {I : zI} {J : zJ} {s h : Nat → Nat} (hb : bkM I 91 92 s h) {a1 l1 a2 l2 : Nat} (h1 : a1 ≤ 10) (h2 : l1 ≤ 3) (h3 : a2 ≤ 10) (h4 : l2 ≤ 3) : zK G mX12_fits 2 [.ref 62, .int (nI a1), .int (nI l1), .int (nI a2), .int (nI l2)] zsh I J (zP (fun r I' J' => r = some (.int (nI (cmpS (pRowG 10 a1 l1 s h 5) (pRowG 10 a2 l2 s h 5) 64))) ∧ (∀ b, b ≠ 93 → b ≠ 94 → I' b = I b) ∧ J = J')) := by
  refine zK_of kX12_fits.2.2.2.2.1 (Nat.le_of_ble_eq_true rfl) ?_
  show V G mX12_fits 2 _ 0 [(0, .ref 62), (1, .int (nI a1)), (2, .int (nI l1)), (3, .int (nI a2)), (4, .int (nI l2))] [] (0, 0) zsh I J
  refine V_iload_n dX12_fits_0 rfl ?_
  refine V_iconst (v := nI 0) dX12_fits_1 rfl ?_
  refine V_bipush (v := nI 10) dX12_fits_2 rfl ?_
  refine V_callS (As := [.int (nI a1), .int (nI 0), .int (nI 10)]) (st := []) dX12_fits_4 kX12_in lX12_173 (by decide) rfl rfl (Nat.le_of_ble_eq_true rfl) ⟨Nat.le_of_ble_eq_true rfl, Nat.le_of_ble_eq_true rfl⟩ (w_inY rfl rfl (a := 0) (b := 10) ((inZ_k (by omega)).mpr (by omega))) ?_
  rintro _ _ _ _ ⟨rfl, rfl, rfl, rfl⟩
  refine V_if_eq (tgt := 39) dX12_fits_7 rfl (fun h => absurd h (by decide)) (fun _ => ?_)
  refine V_iload_n dX12_fits_10 rfl ?_
  refine V_iconst (v := nI 0) dX12_fits_11 rfl ?_
  refine V_iconst (v := nI 3) dX12_fits_12 rfl ?_
  refine V_callS (As := [.int (nI l1), .int (nI 0), .int (nI 3)]) (st := []) dX12_fits_13 kX12_in lX12_173 (by decide) rfl rfl (Nat.le_of_ble_eq_true rfl) ⟨Nat.le_of_ble_eq_true rfl, Nat.le_of_ble_eq_true rfl⟩ (w_inY rfl rfl (a := 0) (b := 3) ((inZ_k (by omega)).mpr (by omega))) ?_
  rintro _ _ _ _ ⟨rfl, rfl, rfl, rfl⟩
  refine V_if_eq (tgt := 39) dX12_fits_16 rfl (fun h => absurd h (by decide)) (fun _ => ?_)
  refine V_iload_n dX12_fits_19 rfl ?_
  refine V_iconst (v := nI 0) dX12_fits_20 rfl ?_
  refine V_bipush (v := nI 10) dX12_fits_21 rfl ?_
  refine V_callS (As := [.int (nI a2), .int (nI 0), .int (nI 10)]) (st := []) dX12_fits_23 kX12_in lX12_173 (by decide) rfl rfl (Nat.le_of_ble_eq_true rfl) ⟨Nat.le_of_ble_eq_true rfl, Nat.le_of_ble_eq_true rfl⟩ (w_inY rfl rfl (a := 0) (b := 10) ((inZ_k (by omega)).mpr (by omega))) ?_
  rintro _ _ _ _ ⟨rfl, rfl, rfl, rfl⟩
  refine V_if_eq (tgt := 39) dX12_fits_26 rfl (fun h => absurd h (by decide)) (fun _ => ?_)
  refine V_iload dX12_fits_29 rfl ?_
  refine V_iconst (v := nI 0) dX12_fits_31 rfl ?_
  refine V_iconst (v := nI 3) dX12_fits_32 rfl ?_
  refine V_callS (As := [.int (nI l2), .int (nI 0), .int (nI 3)]) (st := []) dX12_fits_33 kX12_in lX12_173 (by decide) rfl rfl (Nat.le_of_ble_eq_true rfl) ⟨Nat.le_of_ble_eq_true rfl, Nat.le_of_ble_eq_true rfl⟩ (w_inY rfl rfl (a := 0) (b := 3) ((inZ_k (by omega)).mpr (by omega))) ?_
  rintro _ _ _ _ ⟨rfl, rfl, rfl, rfl⟩
  refine V_if_ne (tgt := 41) dX12_fits_36 rfl (fun _ => ?_) (fun h => absurd h (by decide))
  refine V_aload_n dX12_fits_41 rfl ?_
  refine V_aload_n dX12_fits_42 rfl ?_
  refine V_getR (b := 93) dX12_fits_43 fX12_103 ⟨Nat.le_of_ble_eq_true rfl, Nat.le_of_ble_eq_true rfl⟩ rfl rfl rfl ?_
  refine V_iload_n dX12_fits_46 rfl ?_
  refine V_iload_n dX12_fits_47 rfl ?_
  refine V_callV (As := [.ref 93, .int (nI a1), .int (nI l1)]) (st := []) (a := 62) dX12_fits_48 kX12_products lX12_452 (by decide) rfl rfl (Nat.le_of_ble_eq_true rfl) ⟨Nat.le_of_ble_eq_true rfl, Nat.le_of_ble_eq_true rfl⟩ ⟨Nat.le_of_ble_eq_true rfl, Nat.le_of_ble_eq_true rfl⟩ rfl ⟨rfl, by decide⟩ (w_prod ⟨Nat.le_of_ble_eq_true rfl, Nat.le_of_ble_eq_true rfl⟩ rfl (by decide) (by decide) hb h1 h2) ?_
  rintro r sh' I1 J' ⟨rfl, rfl, o1, r1, rfl⟩
  refine V_aload_n dX12_fits_51 rfl ?_
  refine V_aload_n dX12_fits_52 rfl ?_
  refine V_getR (b := 94) dX12_fits_53 fX12_106 ⟨Nat.le_of_ble_eq_true rfl, Nat.le_of_ble_eq_true rfl⟩ rfl rfl rfl ?_
  refine V_iload_n dX12_fits_56 rfl ?_
  refine V_iload dX12_fits_57 rfl ?_
  have hb1 : bkM I1 91 92 s h := by unfold bkM; rw [o1 91 (by decide), o1 92 (by decide)]; exact hb
  refine V_callV (As := [.ref 94, .int (nI a2), .int (nI l2)]) (st := []) (a := 62) dX12_fits_59 kX12_products lX12_452 (by decide) rfl rfl (Nat.le_of_ble_eq_true rfl) ⟨Nat.le_of_ble_eq_true rfl, Nat.le_of_ble_eq_true rfl⟩ ⟨Nat.le_of_ble_eq_true rfl, Nat.le_of_ble_eq_true rfl⟩ rfl ⟨rfl, by decide⟩ (w_prod ⟨Nat.le_of_ble_eq_true rfl, Nat.le_of_ble_eq_true rfl⟩ rfl (by decide) (by decide) hb1 h3 h4) ?_
  rintro r sh' I2 J' ⟨rfl, rfl, o2, r2, rfl⟩
  refine V_bipush (v := nI 63) dX12_fits_62 rfl ?_
  refine V_istore (ls' := [(5, .int (nI 63)), (0, .ref 62), (1, .int (nI a1)), (2, .int (nI l1)), (3, .int (nI a2)), (4, .int (nI l2))]) dX12_fits_64 (by decide) rfl ?_
  refine V_sub2 (ls' := [(0, .ref 62), (5, .int (nI 63))]) (List.forall_mem_cons.mpr ⟨rfl, List.forall_mem_cons.mpr ⟨rfl, fun _ h => absurd h List.not_mem_nil⟩⟩) ?_
  refine zQ_mono ?_ (lp_fits (d := pRowG 10 a1 l1 s h 5) (e := pRowG 10 a2 l2 s h 5) (fun j hj => ⟨(congrFun (o2 93 (by decide)) j).trans (r1 j hj), pRowG_lt (by decide) 5 j⟩) (fun j hj => ⟨r2 j hj, pRowG_lt (by decide) 5 j⟩) 63 (by decide))
  rintro r sh' I' J' ⟨rfl, g1, rfl, rfl⟩
  exact ⟨rfl, g1, fun b b3 b4 => (o2 b b4).trans (o1 b b3), rfl⟩

set_option maxRecDepth 100000 in
set_option maxHeartbeats 4000000 in
theorem w_fitsN {G : zG} {I : zI} {J : zJ} {a1 l1 a2 l2 : Int32} (hn : ¬ ((inZ a1 0 10 ∧ inZ l1 0 3) ∧ inZ a2 0 10 ∧ inZ l2 0 3)) : zK G mX12_fits 2 [.ref 62, .int a1, .int l1, .int a2, .int l2] zsh I J (zA0 (.int (-1)) I J) := by
  refine zK_of kX12_fits.2.2.2.2.1 (Nat.le_of_ble_eq_true rfl) ?_
  show V G mX12_fits 2 _ 0 [(0, .ref 62), (1, .int a1), (2, .int l1), (3, .int a2), (4, .int l2)] [] (0, 0) zsh I J
  by_cases ka1 : inZ a1 0 10
  rotate_left
  · skip
    refine V_iload_n dX12_fits_0 rfl ?_
    refine V_iconst (v := nI 0) dX12_fits_1 rfl ?_
    refine V_bipush (v := nI 10) dX12_fits_2 rfl ?_
    refine V_callS (As := [.int a1, .int (nI 0), .int (nI 10)]) (st := []) dX12_fits_4 kX12_in lX12_173 (by decide) rfl rfl (Nat.le_of_ble_eq_true rfl) ⟨Nat.le_of_ble_eq_true rfl, Nat.le_of_ble_eq_true rfl⟩ (w_inN rfl rfl (a := 0) (b := 10) ka1) ?_
    rintro _ _ _ _ ⟨rfl, rfl, rfl, rfl⟩
    refine V_if_eq (tgt := 39) dX12_fits_7 rfl (fun _ => ?_) (fun h => absurd h (by decide))
    refine V_iconst (v := (-1)) dX12_fits_39 rfl ?_
    exact V_iret ⟨Or.inl rfl, dX12_fits_40⟩ ⟨Nat.le_of_ble_eq_true rfl, Nat.le_of_ble_eq_true rfl⟩ ⟨rfl, rfl, rfl, rfl⟩
  by_cases kl1 : inZ l1 0 3
  rotate_left
  · skip
    refine V_iload_n dX12_fits_0 rfl ?_
    refine V_iconst (v := nI 0) dX12_fits_1 rfl ?_
    refine V_bipush (v := nI 10) dX12_fits_2 rfl ?_
    refine V_callS (As := [.int a1, .int (nI 0), .int (nI 10)]) (st := []) dX12_fits_4 kX12_in lX12_173 (by decide) rfl rfl (Nat.le_of_ble_eq_true rfl) ⟨Nat.le_of_ble_eq_true rfl, Nat.le_of_ble_eq_true rfl⟩ (w_inY rfl rfl (a := 0) (b := 10) ka1) ?_
    rintro _ _ _ _ ⟨rfl, rfl, rfl, rfl⟩
    refine V_if_eq (tgt := 39) dX12_fits_7 rfl (fun h => absurd h (by decide)) (fun _ => ?_)
    refine V_iload_n dX12_fits_10 rfl ?_
    refine V_iconst (v := nI 0) dX12_fits_11 rfl ?_
    refine V_iconst (v := nI 3) dX12_fits_12 rfl ?_
    refine V_callS (As := [.int l1, .int (nI 0), .int (nI 3)]) (st := []) dX12_fits_13 kX12_in lX12_173 (by decide) rfl rfl (Nat.le_of_ble_eq_true rfl) ⟨Nat.le_of_ble_eq_true rfl, Nat.le_of_ble_eq_true rfl⟩ (w_inN rfl rfl (a := 0) (b := 3) kl1) ?_
    rintro _ _ _ _ ⟨rfl, rfl, rfl, rfl⟩
    refine V_if_eq (tgt := 39) dX12_fits_16 rfl (fun _ => ?_) (fun h => absurd h (by decide))
    refine V_iconst (v := (-1)) dX12_fits_39 rfl ?_
    exact V_iret ⟨Or.inl rfl, dX12_fits_40⟩ ⟨Nat.le_of_ble_eq_true rfl, Nat.le_of_ble_eq_true rfl⟩ ⟨rfl, rfl, rfl, rfl⟩
  by_cases ka2 : inZ a2 0 10
  rotate_left
  · skip
    refine V_iload_n dX12_fits_0 rfl ?_
    refine V_iconst (v := nI 0) dX12_fits_1 rfl ?_
    refine V_bipush (v := nI 10) dX12_fits_2 rfl ?_
    refine V_callS (As := [.int a1, .int (nI 0), .int (nI 10)]) (st := []) dX12_fits_4 kX12_in lX12_173 (by decide) rfl rfl (Nat.le_of_ble_eq_true rfl) ⟨Nat.le_of_ble_eq_true rfl, Nat.le_of_ble_eq_true rfl⟩ (w_inY rfl rfl (a := 0) (b := 10) ka1) ?_
    rintro _ _ _ _ ⟨rfl, rfl, rfl, rfl⟩
    refine V_if_eq (tgt := 39) dX12_fits_7 rfl (fun h => absurd h (by decide)) (fun _ => ?_)
    refine V_iload_n dX12_fits_10 rfl ?_
    refine V_iconst (v := nI 0) dX12_fits_11 rfl ?_
    refine V_iconst (v := nI 3) dX12_fits_12 rfl ?_
    refine V_callS (As := [.int l1, .int (nI 0), .int (nI 3)]) (st := []) dX12_fits_13 kX12_in lX12_173 (by decide) rfl rfl (Nat.le_of_ble_eq_true rfl) ⟨Nat.le_of_ble_eq_true rfl, Nat.le_of_ble_eq_true rfl⟩ (w_inY rfl rfl (a := 0) (b := 3) kl1) ?_
    rintro _ _ _ _ ⟨rfl, rfl, rfl, rfl⟩
    refine V_if_eq (tgt := 39) dX12_fits_16 rfl (fun h => absurd h (by decide)) (fun _ => ?_)
    refine V_iload_n dX12_fits_19 rfl ?_
    refine V_iconst (v := nI 0) dX12_fits_20 rfl ?_
    refine V_bipush (v := nI 10) dX12_fits_21 rfl ?_
    refine V_callS (As := [.int a2, .int (nI 0), .int (nI 10)]) (st := []) dX12_fits_23 kX12_in lX12_173 (by decide) rfl rfl (Nat.le_of_ble_eq_true rfl) ⟨Nat.le_of_ble_eq_true rfl, Nat.le_of_ble_eq_true rfl⟩ (w_inN rfl rfl (a := 0) (b := 10) ka2) ?_
    rintro _ _ _ _ ⟨rfl, rfl, rfl, rfl⟩
    refine V_if_eq (tgt := 39) dX12_fits_26 rfl (fun _ => ?_) (fun h => absurd h (by decide))
    refine V_iconst (v := (-1)) dX12_fits_39 rfl ?_
    exact V_iret ⟨Or.inl rfl, dX12_fits_40⟩ ⟨Nat.le_of_ble_eq_true rfl, Nat.le_of_ble_eq_true rfl⟩ ⟨rfl, rfl, rfl, rfl⟩
  have kl2 : ¬ inZ l2 0 3 := fun h => hn ⟨⟨ka1, kl1⟩, ka2, h⟩
  refine V_iload_n dX12_fits_0 rfl ?_
  refine V_iconst (v := nI 0) dX12_fits_1 rfl ?_
  refine V_bipush (v := nI 10) dX12_fits_2 rfl ?_
  refine V_callS (As := [.int a1, .int (nI 0), .int (nI 10)]) (st := []) dX12_fits_4 kX12_in lX12_173 (by decide) rfl rfl (Nat.le_of_ble_eq_true rfl) ⟨Nat.le_of_ble_eq_true rfl, Nat.le_of_ble_eq_true rfl⟩ (w_inY rfl rfl (a := 0) (b := 10) ka1) ?_
  rintro _ _ _ _ ⟨rfl, rfl, rfl, rfl⟩
  refine V_if_eq (tgt := 39) dX12_fits_7 rfl (fun h => absurd h (by decide)) (fun _ => ?_)
  refine V_iload_n dX12_fits_10 rfl ?_
  refine V_iconst (v := nI 0) dX12_fits_11 rfl ?_
  refine V_iconst (v := nI 3) dX12_fits_12 rfl ?_
  refine V_callS (As := [.int l1, .int (nI 0), .int (nI 3)]) (st := []) dX12_fits_13 kX12_in lX12_173 (by decide) rfl rfl (Nat.le_of_ble_eq_true rfl) ⟨Nat.le_of_ble_eq_true rfl, Nat.le_of_ble_eq_true rfl⟩ (w_inY rfl rfl (a := 0) (b := 3) kl1) ?_
  rintro _ _ _ _ ⟨rfl, rfl, rfl, rfl⟩
  refine V_if_eq (tgt := 39) dX12_fits_16 rfl (fun h => absurd h (by decide)) (fun _ => ?_)
  refine V_iload_n dX12_fits_19 rfl ?_
  refine V_iconst (v := nI 0) dX12_fits_20 rfl ?_
  refine V_bipush (v := nI 10) dX12_fits_21 rfl ?_
  refine V_callS (As := [.int a2, .int (nI 0), .int (nI 10)]) (st := []) dX12_fits_23 kX12_in lX12_173 (by decide) rfl rfl (Nat.le_of_ble_eq_true rfl) ⟨Nat.le_of_ble_eq_true rfl, Nat.le_of_ble_eq_true rfl⟩ (w_inY rfl rfl (a := 0) (b := 10) ka2) ?_
  rintro _ _ _ _ ⟨rfl, rfl, rfl, rfl⟩
  refine V_if_eq (tgt := 39) dX12_fits_26 rfl (fun h => absurd h (by decide)) (fun _ => ?_)
  refine V_iload dX12_fits_29 rfl ?_
  refine V_iconst (v := nI 0) dX12_fits_31 rfl ?_
  refine V_iconst (v := nI 3) dX12_fits_32 rfl ?_
  refine V_callS (As := [.int l2, .int (nI 0), .int (nI 3)]) (st := []) dX12_fits_33 kX12_in lX12_173 (by decide) rfl rfl (Nat.le_of_ble_eq_true rfl) ⟨Nat.le_of_ble_eq_true rfl, Nat.le_of_ble_eq_true rfl⟩ (w_inN rfl rfl (a := 0) (b := 3) kl2) ?_
  rintro _ _ _ _ ⟨rfl, rfl, rfl, rfl⟩
  refine V_if_ne (tgt := 41) dX12_fits_36 rfl (fun h => absurd h (by decide)) (fun _ => ?_)
  refine V_iconst (v := (-1)) dX12_fits_39 rfl ?_
  exact V_iret ⟨Or.inl rfl, dX12_fits_40⟩ ⟨Nat.le_of_ble_eq_true rfl, Nat.le_of_ble_eq_true rfl⟩ ⟨rfl, rfl, rfl, rfl⟩

