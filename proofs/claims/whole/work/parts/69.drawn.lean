/-! THE MODEL: ends drawn -/
def smF (cv : Nat → Nat) : Nat → Nat → Nat
  | 0, _ => 0
  | m + 1, k => cv k + smF cv m (k + 1)
theorem fallS_y {ch : Nat → Nat} {n k x : Nat} (h : x < ch k) : fallS ch (n + 1) k x = k := if_pos h
theorem fallS_n {ch : Nat → Nat} {n k x : Nat} (h : ¬ x < ch k) : fallS ch (n + 1) k x = fallS ch n (k + 1) (x - ch k) := if_neg h
theorem smF_n {cv : Nat → Nat} {m k x : Nat} (h : ¬ x < cv k) (h2 : x < smF cv (m + 1) k) : x - cv k < smF cv m (k + 1) := by
  have e : smF cv (m + 1) k = cv k + smF cv m (k + 1) := rfl
  omega
theorem fallS_c {c d : Nat → Nat} : ∀ n k x, (∀ i, k ≤ i → i < k + n → c i = d i) → fallS c n k x = fallS d n k x
  | 0, _, _, _ => rfl
  | n + 1, k, x, h => by
    unfold fallS
    rw [h k (Nat.le_refl _) (by omega), fallS_c n (k + 1) (x - d k) (fun i h1 h2 => h i (by omega) (by omega))]
set_option maxRecDepth 100000 in
set_option maxHeartbeats 4000000 in
theorem lp_comes {G : zG} {I : zI} {J : zJ} {Q : zQ} {cv : Nat → Nat} (hrow : ∀ k, k < 7 → I 81 k = nI (cv k)) (hcv : ∀ k, cv k ≤ 100)  : ∀ n k x, k + n = 6 → x < 1000 → x < smF cv (n + 1) k → Q (some (.int (nI (fallS cv n k x)))) zsh I J → V G mX12_comesOf 0 Q 4 [(0, .ref 62), (2, .int (nI k)), (3, .int (nI x))] [] (0, 0) zsh I J := by
  intro n
  induction n with
  | zero =>
    intro k x hk hx hs hQ
    have hc := hcv k
    have e : smF cv (0 + 1) k = cv k + 0 := rfl
    refine V_iload_n dX12_comesOf_4 rfl ?_
    refine V_aload_n dX12_comesOf_5 rfl ?_
    refine V_getR (b := 81) dX12_comesOf_6 fX12_65 ⟨Nat.le_of_ble_eq_true rfl, Nat.le_of_ble_eq_true rfl⟩ rfl rfl rfl ?_
    refine V_iload_n dX12_comesOf_9 rfl ?_
    refine V_ialdN (k := k) dX12_comesOf_10 ⟨Nat.le_of_ble_eq_true rfl, Nat.le_of_ble_eq_true rfl⟩ rfl (by decide) (by omega) ?_
    refine V_eqI (y := nI (cv k)) (hrow k (by omega)) ?_
    refine V_icmp_ltN (tgt := 30) dX12_comesOf_11 rfl (by omega) (by omega) (fun _ => ?_) (fun h => absurd h (by omega))
    refine V_iload_n dX12_comesOf_30 rfl ?_
    exact V_iret ⟨Or.inl rfl, dX12_comesOf_31⟩ ⟨Nat.le_of_ble_eq_true rfl, Nat.le_of_ble_eq_true rfl⟩ hQ
  | succ n ih =>
    intro k x hk hx hs hQ
    have hc := hcv k
    refine V_iload_n dX12_comesOf_4 rfl ?_
    refine V_aload_n dX12_comesOf_5 rfl ?_
    refine V_getR (b := 81) dX12_comesOf_6 fX12_65 ⟨Nat.le_of_ble_eq_true rfl, Nat.le_of_ble_eq_true rfl⟩ rfl rfl rfl ?_
    refine V_iload_n dX12_comesOf_9 rfl ?_
    refine V_ialdN (k := k) dX12_comesOf_10 ⟨Nat.le_of_ble_eq_true rfl, Nat.le_of_ble_eq_true rfl⟩ rfl (by decide) (by omega) ?_
    refine V_eqI (y := nI (cv k)) (hrow k (by omega)) ?_
    refine V_icmp_ltN (tgt := 30) dX12_comesOf_11 rfl (by omega) (by omega) (fun h11 => ?_) (fun h11 => ?_)
    · skip
      refine V_iload_n dX12_comesOf_30 rfl ?_
      exact V_iret ⟨Or.inl rfl, dX12_comesOf_31⟩ ⟨Nat.le_of_ble_eq_true rfl, Nat.le_of_ble_eq_true rfl⟩ (by rw [fallS_y (by omega)] at hQ; exact hQ)
    · skip
      refine V_iload_n dX12_comesOf_14 rfl ?_
      refine V_aload_n dX12_comesOf_15 rfl ?_
      refine V_getR (b := 81) dX12_comesOf_16 fX12_65 ⟨Nat.le_of_ble_eq_true rfl, Nat.le_of_ble_eq_true rfl⟩ rfl rfl rfl ?_
      refine V_iload_n dX12_comesOf_19 rfl ?_
      refine V_ialdN (k := k) dX12_comesOf_20 ⟨Nat.le_of_ble_eq_true rfl, Nat.le_of_ble_eq_true rfl⟩ rfl (by decide) (by omega) ?_
      refine V_eqI (y := nI (cv k)) (hrow k (by omega)) ?_
      refine V_isubN dX12_comesOf_21 (by omega) ?_
      refine V_istore_n (ls' := [(3, .int (nI (x - (cv k)))), (0, .ref 62), (2, .int (nI k))]) dX12_comesOf_22 (by decide) rfl ?_
      refine V_iload_n dX12_comesOf_23 rfl ?_
      refine V_iconst (v := nI 1) dX12_comesOf_24 rfl ?_
      refine V_iaddN dX12_comesOf_25 ?_
      refine V_istore_n (ls' := [(2, .int (nI (k + 1))), (3, .int (nI (x - (cv k)))), (0, .ref 62)]) dX12_comesOf_26 (by decide) rfl ?_
      refine V_goto (tgt := 4) dX12_comesOf_27 rfl ?_
      refine V_sub2 (ls' := [(0, .ref 62), (2, .int (nI (k + 1))), (3, .int (nI (x - (cv k))))]) (List.forall_mem_cons.mpr ⟨rfl, List.forall_mem_cons.mpr ⟨rfl, List.forall_mem_cons.mpr ⟨rfl, fun _ h => absurd h List.not_mem_nil⟩⟩⟩) ?_
      rw [fallS_n (by omega)] at hQ
      exact ih (k + 1) (x - cv k) (by omega) (by omega) (smF_n (by omega) hs) hQ

set_option maxRecDepth 100000 in
set_option maxHeartbeats 4000000 in
theorem w_comesOf {G : zG} {I : zI} {J : zJ} {cv : Nat → Nat} (hrow : ∀ k, k < 7 → I 81 k = nI (cv k)) (hcv : ∀ k, cv k ≤ 100) {x : Nat} (hx : x < 1000) (hs : x < smF cv 7 0) : zK G mX12_comesOf 0 [.ref 62, .int (nI x)] zsh I J (zA0 (.int (nI (fallS cv 6 0 x))) I J) := by
  refine zK_of kX12_comesOf.2.2.2.2.1 (Nat.le_of_ble_eq_true rfl) ?_
  show V G mX12_comesOf 0 _ 0 [(0, .ref 62), (1, .int (nI x))] [] (0, 0) zsh I J
  refine V_iconst (v := nI 0) dX12_comesOf_0 rfl ?_
  refine V_istore_n (ls' := [(2, .int (nI 0)), (0, .ref 62), (1, .int (nI x))]) dX12_comesOf_1 (by decide) rfl ?_
  refine V_iload_n dX12_comesOf_2 rfl ?_
  refine V_istore_n (ls' := [(3, .int (nI x)), (2, .int (nI 0)), (0, .ref 62), (1, .int (nI x))]) dX12_comesOf_3 (by decide) rfl ?_
  refine V_sub2 (ls' := [(0, .ref 62), (2, .int (nI 0)), (3, .int (nI x))]) (List.forall_mem_cons.mpr ⟨rfl, List.forall_mem_cons.mpr ⟨rfl, List.forall_mem_cons.mpr ⟨rfl, fun _ h => absurd h List.not_mem_nil⟩⟩⟩) ?_
  exact lp_comes hrow hcv 6 0 x rfl hx hs ⟨rfl, rfl, rfl, rfl⟩

section
variable {Lf : Nat → (Nat → Int32) → Int32} {far p q l : Nat}
theorem sCh_03 : sCh Lf far p q l 0 + sCh Lf far p q l 1 + sCh Lf far p q l 2 + sCh Lf far p q l 3 = 100 := by
  have h1 : tA Lf far p q l ≤ 10 := bnd_le
  have h2 : tB Lf far p q l ≤ 10 - tA Lf far p q l := bnd_le
  have h3 : tC_ Lf far p q l ≤ 10 - tA Lf far p q l - tB Lf far p q l := bnd_le
  simp [sCh, pTen]
  omega
theorem sCh_46 : sCh Lf far p q l 4 + sCh Lf far p q l 5 + sCh Lf far p q l 6 = 100 := by
  have h1 : tH Lf far p q l ≤ 10 := bnd_le
  have h2 : tK Lf far p q l ≤ 10 := bnd_le
  simp [sCh, pTen]
  have e : tH Lf far p q l * tK Lf far p q l + tH Lf far p q l * (10 - tK Lf far p q l) = tH Lf far p q l * 10 := by
    rw [← Nat.mul_add]
    congr 1
    omega
  omega
abbrev cvT (Lf : Nat → (Nat → Int32) → Int32) (far p q l t : Nat) : Nat → Nat := chV Lf (fct p q l (sWho p q l) far) t
theorem cvT_1 {k : Nat} (h : k ≤ 3) : cvT Lf far p q l 1 k = sCh Lf far p q l k := chV_s (by omega)
theorem cvT_1z {k : Nat} (h : ¬ k ≤ 3) : cvT Lf far p q l 1 k = 0 := if_neg (by omega)
theorem cvT_2 {k : Nat} (h : ¬ k ≤ 3) : cvT Lf far p q l 2 k = sCh Lf far p q l k := chV_s (by omega)
theorem cvT_2z {k : Nat} (h : k ≤ 3) : cvT Lf far p q l 2 k = 0 := if_neg (by omega)
theorem cvT_sm {t x : Nat} (ht : t = 1 ∨ t = 2) (hx : x < 100) : x < smF (cvT Lf far p q l t) 7 0 := by
  have h1 := sCh_03 (Lf := Lf) (far := far) (p := p) (q := q) (l := l)
  have h2 := sCh_46 (Lf := Lf) (far := far) (p := p) (q := q) (l := l)
  rcases ht with rfl | rfl
  · simp only [smF, Nat.zero_add, Nat.reduceAdd]
    rw [cvT_1 (by omega), cvT_1 (by omega), cvT_1 (by omega), cvT_1 (by omega)]
    omega
  · simp only [smF, Nat.zero_add, Nat.reduceAdd]
    rw [cvT_2 (k := 4) (by omega), cvT_2 (k := 5) (by omega), cvT_2 (k := 6) (by omega)]
    omega
theorem cvT_fall {t x : Nat} (ht : t = 1 ∨ t = 2) : fallS (cvT Lf far p q l t) 6 0 (x % 100) = wkF Lf far t p q l x := by
  have hx : x % 100 < 100 := Nat.mod_lt _ (by decide)
  have h1 := sCh_03 (Lf := Lf) (far := far) (p := p) (q := q) (l := l)
  unfold wkF
  rcases ht with rfl | rfl
  · rw [if_neg (by decide)]
    simp only [fallS, Nat.zero_add, Nat.reduceAdd]
    rw [cvT_1 (k := 0) (by omega), cvT_1 (k := 1) (by omega), cvT_1 (k := 2) (by omega), cvT_1 (k := 3) (by omega)]
    repeat' split
    all_goals first | rfl | (exfalso; omega) | omega
  · rw [if_pos rfl]
    simp only [fallS, Nat.zero_add, Nat.reduceAdd]
    rw [cvT_2z (k := 0) (by omega), cvT_2z (k := 1) (by omega), cvT_2z (k := 2) (by omega), cvT_2z (k := 3) (by omega), cvT_2 (k := 4) (by omega), cvT_2 (k := 5) (by omega)]
    simp only [Nat.not_lt_zero, if_false, Nat.sub_zero]
end
/-- a drawn end, as far as it is written -/
def lgT (I : zI) (W : Nat → Nat × Nat × Nat × Nat) (T : Nat × Nat × Nat × Nat → Nat) (n : Nat) : Prop := I 62 46 = nI n ∧ (∀ t, t < n → I 90 t = nI (T (W t))) ∧ ∀ t, t ≤ n → I 89 t = nI (stN (W t).1 (W t).2.1 (W t).2.2.1)
/-- what a drawn end leaves alone -/
def offD (I : zI) (J : zJ) (I' : zI) (J' : zJ) : Prop := (∀ a, a ≠ 62 → a ≠ 79 → a ≠ 80 → a ≠ 81 → a ≠ 82 → a ≠ 85 → a ≠ 88 → a ≠ 89 → a ≠ 90 → I' a = I a) ∧ (∀ k, k < 32 ∨ k = 36 ∨ k = 37 ∨ k = 38 ∨ 42 < k → k ≠ 5 → k ≠ 6 → k ≠ 46 → I' 62 k = I 62 k) ∧ ∀ b, b ≠ 83 → b ≠ 84 → b ≠ 86 → b ≠ 87 → J' b = J b
theorem offD_x {A B C : zI} {X Y Z : zJ} (h : offD A X B Y) (h2 : offX B Y C Z) : offD A X C Z := ⟨fun a h1 q3 h4 h5 h6 h7 h8 _ _ => (h2.1 a h1 q3 h4 h5 h6 h7 h8).trans (h.1 a h1 q3 h4 h5 h6 h7 h8 (by assumption) (by assumption)), fun k hk h5 h6 h46 => (h2.2.1 k hk h5).trans (h.2.1 k hk h5 h6 h46), fun b q1 q2 q3 q4 => (h2.2.2 b q1 q2 q3 q4).trans (h.2.2 b q1 q2 q3 q4)⟩
theorem offD_r {I : zI} {J : zJ} : offD I J I J := ⟨fun _ _ _ _ _ _ _ _ _ _ => rfl, fun _ _ _ _ _ => rfl, fun _ _ _ _ _ => rfl⟩
/-- only the log and the seed -/
def offK (I I' : zI) : Prop := (∀ a, a ≠ 62 → a ≠ 89 → a ≠ 90 → I' a = I a) ∧ ∀ k, k ≠ 6 → k ≠ 46 → I' 62 k = I 62 k
theorem offK_r {I : zI} : offK I I := ⟨fun _ _ _ _ => rfl, fun _ _ _ => rfl⟩
theorem offK_z {I I' : zI} {b k : Nat} {x : Int32} (h : offK I I') (hb : b = 89 ∨ b = 90 ∨ b = 62 ∧ (k = 6 ∨ k = 46)) : offK I (zwr I' b k x) := ⟨fun c h1 h2 h3 => by
  rw [← h.1 c h1 h2 h3]
  funext i
  have : c ≠ b := by omega
  simp [zwr_at, this], fun i h1 h2 => by
  rw [← h.2 i h1 h2]
  have : ¬ (62 = b ∧ i = k) := by omega
  rw [zwr_at, if_neg this]⟩
theorem soR_k {a : List (Nat × List (Nat × Nat) × List (Nat × Nat))} {M : Nat → ((Nat → Int32) → Option Int32) × ((Nat → Int32) → Option Int32)} {ar : Nat → List (Nat × List (Nat × Nat) × List (Nat × Nat))} {Mr : Nat → Nat → ((Nat → Int32) → Option Int32) × ((Nat → Int32) → Option Int32)} {far : Nat} {I I' : zI} {J : zJ} (h : soR I J a M ar Mr far) (e : offK I I') : soR I' J a M ar Mr far := by
  have e2 : ∀ k, 73 ≤ k → k ≤ 78 → I' k = I k := fun k h1 h2 => e.1 k (by omega) (by omega) (by omega)
  refine ⟨⟨mT_c h.1.1 (e.1 63 (by decide) (by decide) (by decide)) (e.1 64 (by decide) (by decide) (by decide)) (e.1 65 (by decide) (by decide) (by decide)), mpI_c h.1.2.1 e2, fun k hk => ⟨mpI_c (h.1.2.2.1 k hk).1 e2, (h.1.2.2.1 k hk).2⟩, chA_c h.1.2.2.2 (e.2 32 (by decide) (by decide)) (e.1 82 (by decide) (by decide) (by decide))⟩, (e.2 4 (by decide) (by decide)).trans h.2.1, soK_c h.2.2 (fun k hk => e.2 k (by omega) (by omega)) (e.1 85 (by decide) (by decide) (by decide)) rfl⟩
theorem soR_l {a : List (Nat × List (Nat × Nat) × List (Nat × Nat))} {M : Nat → ((Nat → Int32) → Option Int32) × ((Nat → Int32) → Option Int32)} {ar : Nat → List (Nat × List (Nat × Nat) × List (Nat × Nat))} {Mr : Nat → Nat → ((Nat → Int32) → Option Int32) × ((Nat → Int32) → Option Int32)} {far : Nat} {I I' : zI} {J : zJ} (h : soR I J a M ar Mr far) (e : offL I I') (hc : chA I' (lfM a M)) : soR I' J a M ar Mr far := ⟨svI_l h.1 e hc, (e.2 4 (by decide)).trans h.2.1, soK_c h.2.2 (fun k hk => e.2 k (by omega)) (e.1 85 (by decide) (by decide) (by decide) (by decide) (by decide)) rfl⟩
theorem offD_k {A B C : zI} {X Y : zJ} (h : offD A X B Y) (e : offK B C) : offD A X C Y := ⟨fun a h1 q3 h4 h5 h6 h7 h8 h9 h10 => (e.1 a h1 h9 h10).trans (h.1 a h1 q3 h4 h5 h6 h7 h8 h9 h10), fun k hk h5 h6 h46 => (e.2 k h6 h46).trans (h.2.1 k hk h5 h6 h46), h.2.2⟩
theorem offD_l {A B C : zI} {X Y : zJ} (h : offD A X B Y) (e : offL B C) : offD A X C Y := ⟨fun a h1 q3 h4 h5 h6 h7 h8 h9 h10 => (e.1 a h1 q3 h4 h5 h6).trans (h.1 a h1 q3 h4 h5 h6 h7 h8 h9 h10), fun k hk h5 h6 h46 => (e.2 k (by omega)).trans (h.2.1 k hk h5 h6 h46), h.2.2⟩
/-- the throw of a state that stands solved -/
theorem thr_t {Rl : Nat → Nat → (Nat → Int32) → Int32} {Lf : Nat → (Nat → Int32) → Int32} {far p q l x : Nat} {j k : Int32} (hw : sWho p q l ≤ 1) : thrX 1 j k Rl Lf far p q l = nI (wkT Rl Lf far j k (p, q, l, x)) := by
  rw [thrX_1 hw]
  show _ = nI (if (vX 1 j k Rl Lf far p q l).2 = true then 2 else 1)
  split <;> rfl
theorem wkT_12 {Rl : Nat → Nat → (Nat → Int32) → Int32} {Lf : Nat → (Nat → Int32) → Int32} {far : Nat} {j k : Int32} {s : Nat × Nat × Nat × Nat} : wkT Rl Lf far j k s = 1 ∨ wkT Rl Lf far j k s = 2 := by
  unfold wkT
  split
  · exact Or.inr rfl
  · exact Or.inl rfl
theorem wkT_can {Rl : Nat → Nat → (Nat → Int32) → Int32} {Lf : Nat → (Nat → Int32) → Int32} {far p q l x : Nat} {j k : Int32} (hp : p < 56) (hq : q < 56) (hw : sWho p q l ≤ 1) (h2 : wkT Rl Lf far j k (p, q, l, x) = 2) : sCan p q (sWho p q l) = true := Classical.byContradiction (fun hc => by
  have h3 : (if (vX 1 j k Rl Lf far p q l).2 = true then 2 else 1) = 2 := h2
  rw [vX_s hp hq hw, sTold_n hc, pk_1, if_neg Bool.false_ne_true] at h3
  exact absurd h3 (by decide))
theorem wkF_1 {Lf : Nat → (Nat → Int32) → Int32} {far p q l x : Nat} : wkF Lf far 1 p q l x ≤ 3 := by
  unfold wkF
  rw [if_neg (by decide)]
  exact fallS_le 3 0 _
set_option maxRecDepth 100000 in
set_option maxHeartbeats 4000000 in
theorem lp_drawnM {G : zG} {I : zI} {J : zJ} {a : List (Nat × List (Nat × Nat) × List (Nat × Nat))} {M : Nat → ((Nat → Int32) → Option Int32) × ((Nat → Int32) → Option Int32)} {ar : Nat → List (Nat × List (Nat × Nat) × List (Nat × Nat))} {Mr : Nat → Nat → ((Nat → Int32) → Option Int32) × ((Nat → Int32) → Option Int32)} {far : Nat} (h6 : 6 ≤ far) (h10 : far ≤ 10) {j k : Int32} {s0 : Nat × Nat × Nat × Nat} {N : Nat} (hN : N ≤ 6) : ∀ n i p q l x (I1 : zI) (J1 : zJ), i + n = N → wk (rlM ar Mr) (lfM a M) far j k s0 i = (p, q, l, x) → p < 56 → q < 56 → l ≤ 1 → x < 65536 → hnd p q = n → lgT I1 (wk (rlM ar Mr) (lfM a M) far j k s0) (wkT (rlM ar Mr) (lfM a M) far j k) i → I1 62 6 = nI x → soR I1 J1 a M ar Mr far → sgV 1 j k (rlM ar Mr) (lfM a M) far I1 J1 → offD I J I1 J1 → I1 62 5 = nI far → V G mX12_drawn 11 (zP (fun r I' J' => r = some (.int (sPts (wk (rlM ar Mr) (lfM a M) far j k s0 N).1 (wk (rlM ar Mr) (lfM a M) far j k s0 N).2.1)) ∧ lgT I' (wk (rlM ar Mr) (lfM a M) far j k s0) (wkT (rlM ar Mr) (lfM a M) far j k) N ∧ I' 62 6 = nI (wk (rlM ar Mr) (lfM a M) far j k s0 N).2.2.2 ∧ soR I' J' a M ar Mr far ∧ offD I J I' J' ∧ I' 62 5 = nI far)) 64 [(0, .ref 62), (6, .int (nI (stN p q l)))] [] (0, 0) zsh I1 J1 := by
  intro n
  induction n with
  | zero =>
    intro i p q l x I1 J1 hiN hW hp hq hl hx hn i1 i2 i3 i4 i5 i6
    have h0 : sWho p q l = 2 := (hnd_0 hp hq hn).1
    have hst := stN_lt hp hq hl
    rw [Nat.add_zero] at hiN
    refine V_aload_n dX12_drawn_64 rfl ?_
    refine V_iload dX12_drawn_65 rfl ?_
    refine V_callV (As := [.int (nI (stN p q l))]) (st := []) (a := 62) dX12_drawn_67 kX12_turnIn lX12_206 (by decide) rfl rfl (Nat.le_of_ble_eq_true rfl) ⟨Nat.le_of_ble_eq_true rfl, Nat.le_of_ble_eq_true rfl⟩ ⟨Nat.le_of_ble_eq_true rfl, Nat.le_of_ble_eq_true rfl⟩ rfl ⟨rfl, by decide⟩ (w_turnIn i3.1.1 hp hq hl) ?_
    rintro _ _ _ _ ⟨rfl, rfl, rfl, rfl⟩
    refine V_eqI (y := nI 2) (congrArg nI h0) ?_
    refine V_iconst (v := nI 2) dX12_drawn_70 rfl ?_
    refine V_icmp_ge (tgt := 155) dX12_drawn_71 rfl (fun _ => ?_) (fun h => absurd h (by decide))
    refine V_aload_n dX12_drawn_155 rfl ?_
    refine V_iload dX12_drawn_156 rfl ?_
    refine V_iconst (v := nI 0) dX12_drawn_158 rfl ?_
    refine V_callS (As := [.int (nI (stN p q l)), .int (nI 0)]) (st := [.ref 62]) dX12_drawn_159 kX12_standIn lX12_181 (by decide) rfl rfl (Nat.le_of_ble_eq_true rfl) ⟨Nat.le_of_ble_eq_true rfl, Nat.le_of_ble_eq_true rfl⟩ (w_standIn hp hq hl (by decide)) ?_
    rintro _ _ _ _ ⟨rfl, rfl, rfl, rfl⟩
    refine V_eqI (y := nI p) rfl ?_
    refine V_iload dX12_drawn_162 rfl ?_
    refine V_iconst (v := nI 1) dX12_drawn_164 rfl ?_
    refine V_callS (As := [.int (nI (stN p q l)), .int (nI 1)]) (st := [.int (nI p), .ref 62]) dX12_drawn_165 kX12_standIn lX12_181 (by decide) rfl rfl (Nat.le_of_ble_eq_true rfl) ⟨Nat.le_of_ble_eq_true rfl, Nat.le_of_ble_eq_true rfl⟩ (w_standIn hp hq hl (by decide)) ?_
    rintro _ _ _ _ ⟨rfl, rfl, rfl, rfl⟩
    refine V_eqI (y := nI q) rfl ?_
    refine V_callV (As := [.int (nI p), .int (nI q)]) (st := []) (a := 62) dX12_drawn_168 kX12_pointsIn lX12_209 (by decide) rfl rfl (Nat.le_of_ble_eq_true rfl) ⟨Nat.le_of_ble_eq_true rfl, Nat.le_of_ble_eq_true rfl⟩ ⟨Nat.le_of_ble_eq_true rfl, Nat.le_of_ble_eq_true rfl⟩ rfl ⟨rfl, by decide⟩ (w_pointsIn i3.1.1 hp hq) ?_
    rintro _ _ _ _ ⟨rfl, rfl, rfl, rfl⟩
    exact V_iret ⟨Or.inl rfl, dX12_drawn_171⟩ ⟨Nat.le_of_ble_eq_true rfl, Nat.le_of_ble_eq_true rfl⟩ ⟨rfl, by rw [← hiN, hW], hiN ▸ i1, by rw [← hiN, hW]; exact i2, i3, i5, i6⟩
  | succ n ih =>
    intro i p q l x I1 J1 hiN hW hp hq hl hx hn i1 i2 i3 i4 i5 i6
    have hd100 : drw x % 100 < 100 := Nat.mod_lt _ (by decide)
    have hw := hnd_w hp hq hl hn (Nat.succ_ne_zero n)
    have hst := stN_lt hp hq hl
    obtain ⟨t, ht0⟩ : ∃ t, t = wkT (rlM ar Mr) (lfM a M) far j k (p, q, l, x) := ⟨_, rfl⟩
    have ht : t = 1 ∨ t = 2 := ht0 ▸ wkT_12
    obtain ⟨pa, hpa⟩ : ∃ pa, pa = wkF (lfM a M) far t p q l (drw x) := ⟨_, rfl⟩
    have hpa6 : pa ≤ 6 := hpa ▸ wkF_le
    have hnx := sNx_ok (last := l) (part := pa) hp hq hw hpa6
    have hsl2 := stN_lt hnx.1 hnx.2.1 hw
    have hW2 : wk (rlM ar Mr) (lfM a M) far j k s0 (i + 1) = ((sNx p q l pa).1, (sNx p q l pa).2, sWho p q l, drw x) := by
      show wkN _ _ _ _ _ (wk (rlM ar Mr) (lfM a M) far j k s0 i) = _
      rw [hW]
      simp only [wkN, ← ht0, ← hpa]
    have hoth : (if sWho p q l = 0 then q else p) < 56 := by split <;> assumption
    have h45 : pa = 4 ∨ pa = 5 → sCan p q (sWho p q l) = true := fun h => by
      rcases ht with e | e
      · rw [e] at hpa
        have := wkF_1 (Lf := lfM a M) (far := far) (p := p) (q := q) (l := l) (x := drw x)
        omega
      · exact wkT_can hp hq hw (ht0.symm.trans e)
    have hK1 : offK I1 (zwr I1 90 i (nI t)) := offK_z offK_r (by omega)
    have hS1 := soR_k i3 hK1
    refine V_aload_n dX12_drawn_64 rfl ?_
    refine V_iload dX12_drawn_65 rfl ?_
    refine V_callV (As := [.int (nI (stN p q l))]) (st := []) (a := 62) dX12_drawn_67 kX12_turnIn lX12_206 (by decide) rfl rfl (Nat.le_of_ble_eq_true rfl) ⟨Nat.le_of_ble_eq_true rfl, Nat.le_of_ble_eq_true rfl⟩ ⟨Nat.le_of_ble_eq_true rfl, Nat.le_of_ble_eq_true rfl⟩ rfl ⟨rfl, by decide⟩ (w_turnIn i3.1.1 hp hq hl) ?_
    rintro _ _ _ _ ⟨rfl, rfl, rfl, rfl⟩
    refine V_iconst (v := nI 2) dX12_drawn_70 rfl ?_
    refine V_icmp_geN (tgt := 155) dX12_drawn_71 rfl (by omega) (by omega) (fun h => absurd h (by omega)) (fun _ => ?_)
    refine V_aload_n dX12_drawn_74 rfl ?_
    refine V_iload dX12_drawn_75 rfl ?_
    refine V_callV (As := [.int (nI (stN p q l))]) (st := []) (a := 62) dX12_drawn_77 kX12_turnIn lX12_206 (by decide) rfl rfl (Nat.le_of_ble_eq_true rfl) ⟨Nat.le_of_ble_eq_true rfl, Nat.le_of_ble_eq_true rfl⟩ ⟨Nat.le_of_ble_eq_true rfl, Nat.le_of_ble_eq_true rfl⟩ rfl ⟨rfl, by decide⟩ (w_turnIn i3.1.1 hp hq hl) ?_
    rintro _ _ _ _ ⟨rfl, rfl, rfl, rfl⟩
    refine V_istore (ls' := [(7, .int (nI (sWho p q l))), (0, .ref 62), (6, .int (nI (stN p q l)))]) dX12_drawn_80 (by decide) rfl ?_
    refine V_aload_n dX12_drawn_82 rfl ?_
    refine V_getR (b := 90) dX12_drawn_83 fX12_94 ⟨Nat.le_of_ble_eq_true rfl, Nat.le_of_ble_eq_true rfl⟩ rfl rfl rfl ?_
    refine V_aload_n dX12_drawn_86 rfl ?_
    refine V_getI dX12_drawn_87 fX12_155 ⟨Nat.le_of_ble_eq_true rfl, Nat.le_of_ble_eq_true rfl⟩ rfl rfl ?_
    refine V_eqI (y := nI i) i1.1 ?_
    refine V_aload_n dX12_drawn_90 rfl ?_
    refine V_getR (b := 85) dX12_drawn_91 fX12_79 ⟨Nat.le_of_ble_eq_true rfl, Nat.le_of_ble_eq_true rfl⟩ rfl rfl rfl ?_
    refine V_iload dX12_drawn_94 rfl ?_
    refine V_baldN (k := stN p q l) dX12_drawn_96 ⟨Nat.le_of_ble_eq_true rfl, Nat.le_of_ble_eq_true rfl⟩ rfl (by decide) (by omega) ?_
    refine V_eqI (y := nI t) ((i4 p q l hp hq hl).2.trans ((thr_t (x := x) hw).trans (congrArg nI ht0.symm))) ?_
    refine V_iastN (k := i) dX12_drawn_97 ⟨Nat.le_of_ble_eq_true rfl, Nat.le_of_ble_eq_true rfl⟩ rfl (by decide) (by omega) ?_
    refine V_aload_n dX12_drawn_98 rfl ?_
    refine V_iload dX12_drawn_99 rfl ?_
    refine V_iload dX12_drawn_101 rfl ?_
    refine V_aload_n dX12_drawn_103 rfl ?_
    refine V_getR (b := 85) dX12_drawn_104 fX12_79 ⟨Nat.le_of_ble_eq_true rfl, Nat.le_of_ble_eq_true rfl⟩ rfl rfl rfl ?_
    refine V_iload dX12_drawn_107 rfl ?_
    refine V_baldN (k := stN p q l) dX12_drawn_109 ⟨Nat.le_of_ble_eq_true rfl, Nat.le_of_ble_eq_true rfl⟩ rfl (by decide) (by omega) ?_
    refine V_eqI (y := I1 85 (stN p q l)) rfl ?_
    refine V_eqI (y := nI t) ((i4 p q l hp hq hl).2.trans ((thr_t (x := x) hw).trans (congrArg nI ht0.symm))) ?_
    refine V_callV (As := [.int (nI (stN p q l)), .int (nI (sWho p q l)), .int (nI t)]) (st := []) (a := 62) dX12_drawn_110 kX12_laysChances lX12_347 (by decide) rfl rfl (Nat.le_of_ble_eq_true rfl) ⟨Nat.le_of_ble_eq_true rfl, Nat.le_of_ble_eq_true rfl⟩ ⟨Nat.le_of_ble_eq_true rfl, Nat.le_of_ble_eq_true rfl⟩ rfl ⟨rfl, by decide⟩ (w_lays (I := zwr I1 90 i (nI t)) hS1.1.1 hp hq hl i6 h6 h10 hS1.1.2.1 hS1.1.2.2.2 hw ht) ?_
    rintro r sh' I2 J' ⟨rfl, rfl, hq9, rfl⟩
    have hS2 := soR_l hS1 hq9.1 (chA_of h10 hq9.2.2.1 hq9.2.2.2)
    refine V_aload_n dX12_drawn_113 rfl ?_
    refine V_iload dX12_drawn_114 rfl ?_
    refine V_iload dX12_drawn_116 rfl ?_
    refine V_aload_n dX12_drawn_118 rfl ?_
    refine V_aload_n dX12_drawn_119 rfl ?_
    refine V_callV (As := []) (st := [.ref 62, .int (nI (sWho p q l)), .int (nI (stN p q l)), .ref 62]) (a := 62) dX12_drawn_120 kX12_draws lX12_431 (by decide) rfl rfl (Nat.le_of_ble_eq_true rfl) ⟨Nat.le_of_ble_eq_true rfl, Nat.le_of_ble_eq_true rfl⟩ ⟨Nat.le_of_ble_eq_true rfl, Nat.le_of_ble_eq_true rfl⟩ rfl ⟨rfl, by decide⟩ (w_draws (x := x) ((hq9.1.2 6 (by decide)).trans i2) hx) ?_
    rintro r sh' _ _ ⟨rfl, rfl, rfl, rfl⟩
    have hS3 := soR_k hS2 (offK_z (b := 62) (k := 6) (x := nI (drw x)) offK_r (by omega))
    refine V_callV (As := [.int (nI (drw x % 100))]) (st := [.int (nI (sWho p q l)), .int (nI (stN p q l)), .ref 62]) (a := 62) dX12_drawn_123 kX12_comesOf lX12_434 (by decide) rfl rfl (Nat.le_of_ble_eq_true rfl) ⟨Nat.le_of_ble_eq_true rfl, Nat.le_of_ble_eq_true rfl⟩ ⟨Nat.le_of_ble_eq_true rfl, Nat.le_of_ble_eq_true rfl⟩ rfl ⟨rfl, by decide⟩ (w_comesOf (I := zwr I2 62 6 (nI (drw x))) (cv := cvT (lfM a M) far p q l t) (x := drw x % 100) (fun k hk => hq9.2.1 k hk) (fun k => chV_le) (Nat.lt_of_lt_of_le hd100 (by decide)) (cvT_sm ht hd100)) ?_
    rintro _ _ _ _ ⟨rfl, rfl, rfl, rfl⟩
    refine V_eqI (y := nI pa) (congrArg nI ((cvT_fall ht).trans hpa.symm)) ?_
    refine V_callV (As := [.int (nI (stN p q l)), .int (nI (sWho p q l)), .int (nI pa)]) (st := []) (a := 62) dX12_drawn_126 kX12_behind lX12_350 (by decide) rfl rfl (Nat.le_of_ble_eq_true rfl) ⟨Nat.le_of_ble_eq_true rfl, Nat.le_of_ble_eq_true rfl⟩ ⟨Nat.le_of_ble_eq_true rfl, Nat.le_of_ble_eq_true rfl⟩ rfl ⟨rfl, by decide⟩ (w_behind hS3.1.1 hp hq hl hw hpa6 (hand35 (by split <;> assumption) (sWho_hand hw)) (fun h => (tBest_can hoth).mpr (of_decide_eq_true (h45 h)))) ?_
    rintro _ _ _ _ ⟨rfl, rfl, rfl, rfl⟩
    refine V_eqI (y := nI (stN (sNx p q l pa).1 (sNx p q l pa).2 (sWho p q l))) (congrArg nI nx_eq) ?_
    refine V_istore (ls' := [(6, .int (nI (stN (sNx p q l pa).1 (sNx p q l pa).2 (sWho p q l)))), (7, .int (nI (sWho p q l))), (0, .ref 62)]) dX12_drawn_129 (by decide) rfl ?_
    refine V_aload_n dX12_drawn_131 rfl ?_
    refine V_aload_n dX12_drawn_132 rfl ?_
    refine V_getI dX12_drawn_133 fX12_155 ⟨Nat.le_of_ble_eq_true rfl, Nat.le_of_ble_eq_true rfl⟩ rfl rfl ?_
    refine V_eqI (y := I2 62 46) rfl ?_
    refine V_eqI (y := nI i) ((hq9.1.2 46 (by decide)).trans i1.1) ?_
    refine V_iconst (v := nI 1) dX12_drawn_136 rfl ?_
    refine V_iaddN dX12_drawn_137 ?_
    refine V_putW dX12_drawn_138 fX12_155 ⟨Nat.le_of_ble_eq_true rfl, Nat.le_of_ble_eq_true rfl⟩ rfl rfl rfl ⟨rfl, rfl⟩ ?_
    refine V_aload_n dX12_drawn_141 rfl ?_
    refine V_getR (b := 89) dX12_drawn_142 fX12_91 ⟨Nat.le_of_ble_eq_true rfl, Nat.le_of_ble_eq_true rfl⟩ rfl rfl rfl ?_
    refine V_aload_n dX12_drawn_145 rfl ?_
    refine V_getI dX12_drawn_146 fX12_155 ⟨Nat.le_of_ble_eq_true rfl, Nat.le_of_ble_eq_true rfl⟩ rfl rfl ?_
    refine V_eqI (y := nI (i + 1)) rfl ?_
    refine V_iload dX12_drawn_149 rfl ?_
    refine V_iastN (k := i + 1) dX12_drawn_151 ⟨Nat.le_of_ble_eq_true rfl, Nat.le_of_ble_eq_true rfl⟩ rfl (by decide) (by omega) ?_
    refine V_goto (tgt := 64) dX12_drawn_152 rfl ?_
    refine V_sub2 (ls' := [(0, .ref 62), (6, .int (nI (stN (sNx p q l pa).1 (sNx p q l pa).2 (sWho p q l))))]) (List.forall_mem_cons.mpr ⟨rfl, List.forall_mem_cons.mpr ⟨rfl, fun _ h => absurd h List.not_mem_nil⟩⟩) ?_
    have hK2 : offK I2 (zwr (zwr (zwr I2 62 6 (nI (drw x))) 62 46 (nI (i + 1))) 89 (i + 1) (nI (stN (sNx p q l pa).1 (sNx p q l pa).2 (sWho p q l)))) := offK_z (offK_z (offK_z offK_r (by omega)) (by omega)) (by omega)
    refine ih (i + 1) _ _ _ (drw x) (zwr (zwr (zwr I2 62 6 (nI (drw x))) 62 46 (nI (i + 1))) 89 (i + 1) (nI (stN (sNx p q l pa).1 (sNx p q l pa).2 (sWho p q l)))) J1 (by omega) hW2 hnx.1 hnx.2.1 hw drw_lt (by have := hnx.2.2; omega) ?_ rfl (soR_k hS2 hK2) ?_ (offD_k (offD_l (offD_k i5 hK1) hq9.1) hK2) ((hq9.1.2 5 (by decide)).trans i6)
    · refine ⟨rfl, fun u hu => ?_, fun u hu => ?_⟩
      · have e : I2 90 u = zwr I1 90 i (nI t) 90 u := congrFun (hq9.1.1 90 (by decide) (by decide) (by decide) (by decide) (by decide)) u
        by_cases eu : u = i
        · subst eu
          rw [hW, ← ht0]
          simp only [zwr_at]
          simpa [zwr_at] using e
        · have e2 := i1.2.1 u (by omega)
          rw [← e2]
          simpa [zwr_at, eu] using e
      · have e : I2 89 u = zwr I1 90 i (nI t) 89 u := congrFun (hq9.1.1 89 (by decide) (by decide) (by decide) (by decide) (by decide)) u
        by_cases eu : u = i + 1
        · subst eu
          rw [hW2]
          simp [zwr_at]
        · have e2 := i1.2.2 u (by omega)
          rw [← e2]
          simpa [zwr_at, eu] using e
    · refine sgV_c i4 ?_ rfl
      exact (hK2.1 85 (by decide) (by decide) (by decide)).trans ((hq9.1.1 85 (by decide) (by decide) (by decide) (by decide) (by decide)).trans (hK1.1 85 (by decide) (by decide) (by decide)))

def lgW (I : zI) (n la : Nat) (th sd c0 c1 : Nat → Nat) : Prop := I 62 46 = nI n ∧ n ≤ 6 ∧ (∀ i, i < n → I 90 i = nI (th i)) ∧ ∀ i, i ≤ n → I 89 i = nI (stN (c0 i) (c1 i) (sLast la sd i))
theorem stO_of {code other : Int32} {p q l : Nat} (hp : zpl code = some p) (hq : zpl other = some q) (hl : l ≤ 1) : stO code other (nI l) = some (p, q, l) := by
  unfold stO
  rw [hp, hq]
  show (if inZ (nI l) 0 1 then some (p, q, (nI l).toInt.toNat) else none) = _
  rw [if_pos ((inZ_k (by omega)).mpr (by omega)), nI_toInt (by omega), Int.toNat_natCast]
theorem lgW_of {I : zI} {Rl : Nat → Nat → (Nat → Int32) → Int32} {Lf : Nat → (Nat → Int32) → Int32} {far : Nat} {j k : Int32} {s : Nat × Nat × Nat × Nat} {n : Nat} (h : lgT I (wk Rl Lf far j k s) (wkT Rl Lf far j k) n) (hn : n ≤ 6) : lgW I n s.2.2.1 (fun i => wkT Rl Lf far j k (wk Rl Lf far j k s i)) (fun i => sWho (wk Rl Lf far j k s i).1 (wk Rl Lf far j k s i).2.1 (wk Rl Lf far j k s i).2.2.1) (fun i => (wk Rl Lf far j k s i).1) (fun i => (wk Rl Lf far j k s i).2.1) := ⟨h.1, hn, h.2.1, fun i hi => by rw [wk_last]; exact h.2.2 i hi⟩
set_option maxRecDepth 100000 in
set_option maxHeartbeats 4000000 in
theorem w_drawnY {G : zG} {I : zI} {J : zJ} {a : List (Nat × List (Nat × Nat) × List (Nat × Nat))} {M : Nat → ((Nat → Int32) → Option Int32) × ((Nat → Int32) → Option Int32)} {ar : Nat → List (Nat × List (Nat × Nat) × List (Nat × Nat))} {Mr : Nat → Nat → ((Nat → Int32) → Option Int32) × ((Nat → Int32) → Option Int32)} {far : Nat} (hR : soR I J a M ar Mr far) (h6 : 6 ≤ far) (h10 : far ≤ 10) {c0 : Nat} {cc : Nat → Nat} (hC : cM I c0 cc) {j k code other : Int32} (hj : ply cc j) (hk : ply cc k) {p q l x : Nat} (hp : zpl code = some p) (hq : zpl other = some q) (hp56 : p < 56) (hq56 : q < 56) (hl1 : l ≤ 1) (hx : I 62 6 = nI x) (hx6 : x < 65536) : zK G mX12_drawn 11 [.ref 62, .int j, .int k, .int code, .int other, .int (nI l)] zsh I J (zP (fun r I' J' => r = some (.int (sPts (wk (rlM ar Mr) (lfM a M) far j k (p, q, l, x) (hnd p q)).1 (wk (rlM ar Mr) (lfM a M) far j k (p, q, l, x) (hnd p q)).2.1)) ∧ lgW I' (hnd p q) l (fun i => wkT (rlM ar Mr) (lfM a M) far j k (wk (rlM ar Mr) (lfM a M) far j k (p, q, l, x) i)) (fun i => sWho (wk (rlM ar Mr) (lfM a M) far j k (p, q, l, x) i).1 (wk (rlM ar Mr) (lfM a M) far j k (p, q, l, x) i).2.1 (wk (rlM ar Mr) (lfM a M) far j k (p, q, l, x) i).2.2.1) (fun i => (wk (rlM ar Mr) (lfM a M) far j k (p, q, l, x) i).1) (fun i => (wk (rlM ar Mr) (lfM a M) far j k (p, q, l, x) i).2.1) ∧ I' 62 6 = nI (wk (rlM ar Mr) (lfM a M) far j k (p, q, l, x) (hnd p q)).2.2.2 ∧ soR I' J' a M ar Mr far ∧ offD I J I' J' ∧ I' 62 5 = nI far)) := by
  refine zK_of kX12_drawn.2.2.2.2.1 (Nat.le_of_ble_eq_true rfl) ?_
  show V G mX12_drawn 11 _ 0 [(0, .ref 62), (1, .int j), (2, .int k), (3, .int code), (4, .int other), (5, .int (nI l))] [] (0, 0) zsh I J
  have hsl := stN_lt hp56 hq56 hl1
  have hn6 := hnd_6 hp56 hq56
  refine V_aload_n dX12_drawn_0 rfl ?_
  refine V_iload_n dX12_drawn_1 rfl ?_
  refine V_iload dX12_drawn_2 rfl ?_
  refine V_iload dX12_drawn_4 rfl ?_
  refine V_callV (As := [.int code, .int other, .int (nI l)]) (st := []) (a := 62) dX12_drawn_6 kX12_told lX12_203 (by decide) rfl rfl (Nat.le_of_ble_eq_true rfl) ⟨Nat.le_of_ble_eq_true rfl, Nat.le_of_ble_eq_true rfl⟩ ⟨Nat.le_of_ble_eq_true rfl, Nat.le_of_ble_eq_true rfl⟩ rfl ⟨rfl, by decide⟩ (w_toldS hR.1.1 (stO_of hp hq hl1)) ?_
  rintro _ _ _ _ ⟨rfl, rfl, rfl, rfl⟩
  refine V_istore (ls' := [(6, .int (nI (stN p q l))), (0, .ref 62), (1, .int j), (2, .int k), (3, .int code), (4, .int other), (5, .int (nI l))]) dX12_drawn_9 (by decide) rfl ?_
  refine V_aload_n dX12_drawn_11 rfl ?_
  refine V_iload_n dX12_drawn_12 rfl ?_
  refine V_callV (As := [.int j]) (st := []) (a := 62) dX12_drawn_13 kX12_isKnown lX12_404 (by decide) rfl rfl (Nat.le_of_ble_eq_true rfl) ⟨Nat.le_of_ble_eq_true rfl, Nat.le_of_ble_eq_true rfl⟩ ⟨Nat.le_of_ble_eq_true rfl, Nat.le_of_ble_eq_true rfl⟩ rfl ⟨rfl, by decide⟩ (q_y (w_isKnown hC) hj) ?_
  rintro _ _ _ _ ⟨rfl, rfl, rfl, rfl⟩
  refine V_if_eq (tgt := 33) dX12_drawn_16 rfl (fun h => absurd h (by decide)) (fun _ => ?_)
  refine V_aload_n dX12_drawn_19 rfl ?_
  refine V_iload_n dX12_drawn_20 rfl ?_
  refine V_callV (As := [.int k]) (st := []) (a := 62) dX12_drawn_21 kX12_isKnown lX12_404 (by decide) rfl rfl (Nat.le_of_ble_eq_true rfl) ⟨Nat.le_of_ble_eq_true rfl, Nat.le_of_ble_eq_true rfl⟩ ⟨Nat.le_of_ble_eq_true rfl, Nat.le_of_ble_eq_true rfl⟩ rfl ⟨rfl, by decide⟩ (q_y (w_isKnown hC) hk) ?_
  rintro _ _ _ _ ⟨rfl, rfl, rfl, rfl⟩
  refine V_if_eq (tgt := 33) dX12_drawn_24 rfl (fun h => absurd h (by decide)) (fun _ => ?_)
  refine V_iload dX12_drawn_27 rfl ?_
  refine V_iconst (v := (-1)) dX12_drawn_29 rfl ?_
  refine V_icmp_ne (tgt := 36) dX12_drawn_30 rfl (fun _ => ?_) (fun h => absurd h (nI_ne_neg (by omega) (by decide)))
  refine V_aload_n dX12_drawn_36 rfl ?_
  refine V_aload_n dX12_drawn_37 rfl ?_
  refine V_getI dX12_drawn_38 fX12_139 ⟨Nat.le_of_ble_eq_true rfl, Nat.le_of_ble_eq_true rfl⟩ rfl rfl ?_
  refine V_eqI (y := nI far) hR.2.1 ?_
  refine V_putW dX12_drawn_41 fX12_143 ⟨Nat.le_of_ble_eq_true rfl, Nat.le_of_ble_eq_true rfl⟩ rfl rfl rfl ⟨rfl, rfl⟩ ?_
  refine V_aload_n dX12_drawn_44 rfl ?_
  refine V_iconst (v := nI 0) dX12_drawn_45 rfl ?_
  refine V_iload_n dX12_drawn_46 rfl ?_
  refine V_iload_n dX12_drawn_47 rfl ?_
  refine V_callV (As := [.int (nI 0), .int j, .int k]) (st := []) (a := 62) dX12_drawn_48 kX12_solves lX12_385 (by decide) rfl rfl (Nat.le_of_ble_eq_true rfl) ⟨Nat.le_of_ble_eq_true rfl, Nat.le_of_ble_eq_true rfl⟩ ⟨Nat.le_of_ble_eq_true rfl, Nat.le_of_ble_eq_true rfl⟩ rfl ⟨rfl, by decide⟩ (w_solF hR h6 h10 (ply_ru hj) (ply_ru hk)) ?_
  rintro r sh' I1 J1 ⟨rfl, rfl, hq1, hR1, hX, hq5⟩
  refine V_aload_n dX12_drawn_51 rfl ?_
  refine V_iconst (v := nI 0) dX12_drawn_52 rfl ?_
  refine V_putW dX12_drawn_53 fX12_155 ⟨Nat.le_of_ble_eq_true rfl, Nat.le_of_ble_eq_true rfl⟩ rfl rfl rfl ⟨rfl, rfl⟩ ?_
  refine V_aload_n dX12_drawn_56 rfl ?_
  refine V_getR (b := 89) dX12_drawn_57 fX12_91 ⟨Nat.le_of_ble_eq_true rfl, Nat.le_of_ble_eq_true rfl⟩ rfl rfl rfl ?_
  refine V_iconst (v := nI 0) dX12_drawn_60 rfl ?_
  refine V_iload dX12_drawn_61 rfl ?_
  refine V_iastN (k := 0) dX12_drawn_63 ⟨Nat.le_of_ble_eq_true rfl, Nat.le_of_ble_eq_true rfl⟩ rfl (by decide) (by omega) ?_
  refine V_sub2 (ls' := [(0, .ref 62), (6, .int (nI (stN p q l)))]) (List.forall_mem_cons.mpr ⟨rfl, List.forall_mem_cons.mpr ⟨rfl, fun _ h => absurd h List.not_mem_nil⟩⟩) ?_
  have hK : offK I1 (zwr (zwr I1 62 46 (nI 0)) 89 0 (nI (stN p q l))) := offK_z (offK_z offK_r (by omega)) (by omega)
  refine V_imp ?_ (lp_drawnM h6 h10 hn6 (s0 := (p, q, l, x)) (hnd p q) 0 p q l x (zwr (zwr I1 62 46 (nI 0)) 89 0 (nI (stN p q l))) J1 (Nat.zero_add _) rfl hp56 hq56 hl1 hx6 rfl ⟨rfl, fun u hu => absurd hu (by omega), fun u hu => ?_⟩ ((hX.2.1 6 (by omega) (by omega)).trans hx) (soR_k hR1 hK) (sgV_c hq1 (hK.1 85 (by decide) (by decide) (by decide)) rfl) (offD_k (offD_x offD_r hX) hK) hq5)
  · rintro r sh I2 J2 ⟨rfl, g1, g2, g3, g4, g5, g6⟩
    exact ⟨rfl, g1, lgW_of g2 hn6, g3, g4, g5, g6⟩
  · obtain rfl : u = 0 := by omega
    simp [zwr_at]
    rfl

set_option maxRecDepth 100000 in
set_option maxHeartbeats 4000000 in
theorem w_drawnN {G : zG} {I : zI} {J : zJ} (hT : mT I) {c0 : Nat} {cc : Nat → Nat} (hC : cM I c0 cc) {j k code other last : Int32} (hN : ¬ (ply cc j ∧ ply cc k ∧ (stO code other last).isSome = true)) : zK G mX12_drawn 3 [.ref 62, .int j, .int k, .int code, .int other, .int last] zsh I J (zA0 (.int (-100)) I J) := by
  refine zK_of kX12_drawn.2.2.2.2.1 (Nat.le_of_ble_eq_true rfl) ?_
  show V G mX12_drawn 3 _ 0 [(0, .ref 62), (1, .int j), (2, .int k), (3, .int code), (4, .int other), (5, .int last)] [] (0, 0) zsh I J
  by_cases hj : ply cc j
  · by_cases hk : ply cc k
    · rcases hst : stO code other last with _ | ⟨p, q, l⟩
      · skip
        refine V_aload_n dX12_drawn_0 rfl ?_
        refine V_iload_n dX12_drawn_1 rfl ?_
        refine V_iload dX12_drawn_2 rfl ?_
        refine V_iload dX12_drawn_4 rfl ?_
        refine V_callV (As := [.int code, .int other, .int last]) (st := []) (a := 62) dX12_drawn_6 kX12_told lX12_203 (by decide) rfl rfl (Nat.le_of_ble_eq_true rfl) ⟨Nat.le_of_ble_eq_true rfl, Nat.le_of_ble_eq_true rfl⟩ ⟨Nat.le_of_ble_eq_true rfl, Nat.le_of_ble_eq_true rfl⟩ rfl ⟨rfl, by decide⟩ (w_toldN hT hst) ?_
        rintro _ _ _ _ ⟨rfl, rfl, rfl, rfl⟩
        refine V_istore (ls' := [(6, .int (-1)), (0, .ref 62), (1, .int j), (2, .int k), (3, .int code), (4, .int other), (5, .int last)]) dX12_drawn_9 (by decide) rfl ?_
        refine V_aload_n dX12_drawn_11 rfl ?_
        refine V_iload_n dX12_drawn_12 rfl ?_
        refine V_callV (As := [.int j]) (st := []) (a := 62) dX12_drawn_13 kX12_isKnown lX12_404 (by decide) rfl rfl (Nat.le_of_ble_eq_true rfl) ⟨Nat.le_of_ble_eq_true rfl, Nat.le_of_ble_eq_true rfl⟩ ⟨Nat.le_of_ble_eq_true rfl, Nat.le_of_ble_eq_true rfl⟩ rfl ⟨rfl, by decide⟩ (q_y (w_isKnown hC) hj) ?_
        rintro _ _ _ _ ⟨rfl, rfl, rfl, rfl⟩
        refine V_if_eq (tgt := 33) dX12_drawn_16 rfl (fun h => absurd h (by decide)) (fun _ => ?_)
        refine V_aload_n dX12_drawn_19 rfl ?_
        refine V_iload_n dX12_drawn_20 rfl ?_
        refine V_callV (As := [.int k]) (st := []) (a := 62) dX12_drawn_21 kX12_isKnown lX12_404 (by decide) rfl rfl (Nat.le_of_ble_eq_true rfl) ⟨Nat.le_of_ble_eq_true rfl, Nat.le_of_ble_eq_true rfl⟩ ⟨Nat.le_of_ble_eq_true rfl, Nat.le_of_ble_eq_true rfl⟩ rfl ⟨rfl, by decide⟩ (q_y (w_isKnown hC) hk) ?_
        rintro _ _ _ _ ⟨rfl, rfl, rfl, rfl⟩
        refine V_if_eq (tgt := 33) dX12_drawn_24 rfl (fun h => absurd h (by decide)) (fun _ => ?_)
        refine V_iload dX12_drawn_27 rfl ?_
        refine V_iconst (v := (-1)) dX12_drawn_29 rfl ?_
        refine V_icmp_ne (tgt := 36) dX12_drawn_30 rfl (fun h => absurd h (by decide)) (fun _ => ?_)
        refine V_bipush (v := (-100)) dX12_drawn_33 rfl ?_
        exact V_iret ⟨Or.inl rfl, dX12_drawn_35⟩ ⟨Nat.le_of_ble_eq_true rfl, Nat.le_of_ble_eq_true rfl⟩ ⟨rfl, rfl, rfl, rfl⟩
      · exact absurd ⟨hj, hk, by rw [hst]; rfl⟩ hN
    · rcases hst : stO code other last with _ | ⟨p, q, l⟩
      · skip
        refine V_aload_n dX12_drawn_0 rfl ?_
        refine V_iload_n dX12_drawn_1 rfl ?_
        refine V_iload dX12_drawn_2 rfl ?_
        refine V_iload dX12_drawn_4 rfl ?_
        refine V_callV (As := [.int code, .int other, .int last]) (st := []) (a := 62) dX12_drawn_6 kX12_told lX12_203 (by decide) rfl rfl (Nat.le_of_ble_eq_true rfl) ⟨Nat.le_of_ble_eq_true rfl, Nat.le_of_ble_eq_true rfl⟩ ⟨Nat.le_of_ble_eq_true rfl, Nat.le_of_ble_eq_true rfl⟩ rfl ⟨rfl, by decide⟩ (w_toldN hT hst) ?_
        rintro _ _ _ _ ⟨rfl, rfl, rfl, rfl⟩
        refine V_istore (ls' := [(6, .int (-1)), (0, .ref 62), (1, .int j), (2, .int k), (3, .int code), (4, .int other), (5, .int last)]) dX12_drawn_9 (by decide) rfl ?_
        refine V_aload_n dX12_drawn_11 rfl ?_
        refine V_iload_n dX12_drawn_12 rfl ?_
        refine V_callV (As := [.int j]) (st := []) (a := 62) dX12_drawn_13 kX12_isKnown lX12_404 (by decide) rfl rfl (Nat.le_of_ble_eq_true rfl) ⟨Nat.le_of_ble_eq_true rfl, Nat.le_of_ble_eq_true rfl⟩ ⟨Nat.le_of_ble_eq_true rfl, Nat.le_of_ble_eq_true rfl⟩ rfl ⟨rfl, by decide⟩ (q_y (w_isKnown hC) hj) ?_
        rintro _ _ _ _ ⟨rfl, rfl, rfl, rfl⟩
        refine V_if_eq (tgt := 33) dX12_drawn_16 rfl (fun h => absurd h (by decide)) (fun _ => ?_)
        refine V_aload_n dX12_drawn_19 rfl ?_
        refine V_iload_n dX12_drawn_20 rfl ?_
        refine V_callV (As := [.int k]) (st := []) (a := 62) dX12_drawn_21 kX12_isKnown lX12_404 (by decide) rfl rfl (Nat.le_of_ble_eq_true rfl) ⟨Nat.le_of_ble_eq_true rfl, Nat.le_of_ble_eq_true rfl⟩ ⟨Nat.le_of_ble_eq_true rfl, Nat.le_of_ble_eq_true rfl⟩ rfl ⟨rfl, by decide⟩ (q_n (w_isKnown hC) hk) ?_
        rintro _ _ _ _ ⟨rfl, rfl, rfl, rfl⟩
        refine V_if_eq (tgt := 33) dX12_drawn_24 rfl (fun _ => ?_) (fun h => absurd h (by decide))
        refine V_bipush (v := (-100)) dX12_drawn_33 rfl ?_
        exact V_iret ⟨Or.inl rfl, dX12_drawn_35⟩ ⟨Nat.le_of_ble_eq_true rfl, Nat.le_of_ble_eq_true rfl⟩ ⟨rfl, rfl, rfl, rfl⟩
      · have hlq := stO_s hst
        have hl1 : l ≤ 1 := hlq.2.2.2.1
        have hp56 : p < 56 := hlq.2.2.2.2.1
        have hq56 : q < 56 := hlq.2.2.2.2.2
        have hsl := stN_lt hp56 hq56 hl1
        refine V_aload_n dX12_drawn_0 rfl ?_
        refine V_iload_n dX12_drawn_1 rfl ?_
        refine V_iload dX12_drawn_2 rfl ?_
        refine V_iload dX12_drawn_4 rfl ?_
        refine V_callV (As := [.int code, .int other, .int last]) (st := []) (a := 62) dX12_drawn_6 kX12_told lX12_203 (by decide) rfl rfl (Nat.le_of_ble_eq_true rfl) ⟨Nat.le_of_ble_eq_true rfl, Nat.le_of_ble_eq_true rfl⟩ ⟨Nat.le_of_ble_eq_true rfl, Nat.le_of_ble_eq_true rfl⟩ rfl ⟨rfl, by decide⟩ (w_toldS hT hst) ?_
        rintro _ _ _ _ ⟨rfl, rfl, rfl, rfl⟩
        refine V_istore (ls' := [(6, .int (nI (stN p q l))), (0, .ref 62), (1, .int j), (2, .int k), (3, .int code), (4, .int other), (5, .int last)]) dX12_drawn_9 (by decide) rfl ?_
        refine V_aload_n dX12_drawn_11 rfl ?_
        refine V_iload_n dX12_drawn_12 rfl ?_
        refine V_callV (As := [.int j]) (st := []) (a := 62) dX12_drawn_13 kX12_isKnown lX12_404 (by decide) rfl rfl (Nat.le_of_ble_eq_true rfl) ⟨Nat.le_of_ble_eq_true rfl, Nat.le_of_ble_eq_true rfl⟩ ⟨Nat.le_of_ble_eq_true rfl, Nat.le_of_ble_eq_true rfl⟩ rfl ⟨rfl, by decide⟩ (q_y (w_isKnown hC) hj) ?_
        rintro _ _ _ _ ⟨rfl, rfl, rfl, rfl⟩
        refine V_if_eq (tgt := 33) dX12_drawn_16 rfl (fun h => absurd h (by decide)) (fun _ => ?_)
        refine V_aload_n dX12_drawn_19 rfl ?_
        refine V_iload_n dX12_drawn_20 rfl ?_
        refine V_callV (As := [.int k]) (st := []) (a := 62) dX12_drawn_21 kX12_isKnown lX12_404 (by decide) rfl rfl (Nat.le_of_ble_eq_true rfl) ⟨Nat.le_of_ble_eq_true rfl, Nat.le_of_ble_eq_true rfl⟩ ⟨Nat.le_of_ble_eq_true rfl, Nat.le_of_ble_eq_true rfl⟩ rfl ⟨rfl, by decide⟩ (q_n (w_isKnown hC) hk) ?_
        rintro _ _ _ _ ⟨rfl, rfl, rfl, rfl⟩
        refine V_if_eq (tgt := 33) dX12_drawn_24 rfl (fun _ => ?_) (fun h => absurd h (by decide))
        refine V_bipush (v := (-100)) dX12_drawn_33 rfl ?_
        exact V_iret ⟨Or.inl rfl, dX12_drawn_35⟩ ⟨Nat.le_of_ble_eq_true rfl, Nat.le_of_ble_eq_true rfl⟩ ⟨rfl, rfl, rfl, rfl⟩
  · rcases hst : stO code other last with _ | ⟨p, q, l⟩
    · skip
      refine V_aload_n dX12_drawn_0 rfl ?_
      refine V_iload_n dX12_drawn_1 rfl ?_
      refine V_iload dX12_drawn_2 rfl ?_
      refine V_iload dX12_drawn_4 rfl ?_
      refine V_callV (As := [.int code, .int other, .int last]) (st := []) (a := 62) dX12_drawn_6 kX12_told lX12_203 (by decide) rfl rfl (Nat.le_of_ble_eq_true rfl) ⟨Nat.le_of_ble_eq_true rfl, Nat.le_of_ble_eq_true rfl⟩ ⟨Nat.le_of_ble_eq_true rfl, Nat.le_of_ble_eq_true rfl⟩ rfl ⟨rfl, by decide⟩ (w_toldN hT hst) ?_
      rintro _ _ _ _ ⟨rfl, rfl, rfl, rfl⟩
      refine V_istore (ls' := [(6, .int (-1)), (0, .ref 62), (1, .int j), (2, .int k), (3, .int code), (4, .int other), (5, .int last)]) dX12_drawn_9 (by decide) rfl ?_
      refine V_aload_n dX12_drawn_11 rfl ?_
      refine V_iload_n dX12_drawn_12 rfl ?_
      refine V_callV (As := [.int j]) (st := []) (a := 62) dX12_drawn_13 kX12_isKnown lX12_404 (by decide) rfl rfl (Nat.le_of_ble_eq_true rfl) ⟨Nat.le_of_ble_eq_true rfl, Nat.le_of_ble_eq_true rfl⟩ ⟨Nat.le_of_ble_eq_true rfl, Nat.le_of_ble_eq_true rfl⟩ rfl ⟨rfl, by decide⟩ (q_n (w_isKnown hC) hj) ?_
      rintro _ _ _ _ ⟨rfl, rfl, rfl, rfl⟩
      refine V_if_eq (tgt := 33) dX12_drawn_16 rfl (fun _ => ?_) (fun h => absurd h (by decide))
      refine V_bipush (v := (-100)) dX12_drawn_33 rfl ?_
      exact V_iret ⟨Or.inl rfl, dX12_drawn_35⟩ ⟨Nat.le_of_ble_eq_true rfl, Nat.le_of_ble_eq_true rfl⟩ ⟨rfl, rfl, rfl, rfl⟩
    · have hlq := stO_s hst
      have hl1 : l ≤ 1 := hlq.2.2.2.1
      have hp56 : p < 56 := hlq.2.2.2.2.1
      have hq56 : q < 56 := hlq.2.2.2.2.2
      have hsl := stN_lt hp56 hq56 hl1
      refine V_aload_n dX12_drawn_0 rfl ?_
      refine V_iload_n dX12_drawn_1 rfl ?_
      refine V_iload dX12_drawn_2 rfl ?_
      refine V_iload dX12_drawn_4 rfl ?_
      refine V_callV (As := [.int code, .int other, .int last]) (st := []) (a := 62) dX12_drawn_6 kX12_told lX12_203 (by decide) rfl rfl (Nat.le_of_ble_eq_true rfl) ⟨Nat.le_of_ble_eq_true rfl, Nat.le_of_ble_eq_true rfl⟩ ⟨Nat.le_of_ble_eq_true rfl, Nat.le_of_ble_eq_true rfl⟩ rfl ⟨rfl, by decide⟩ (w_toldS hT hst) ?_
      rintro _ _ _ _ ⟨rfl, rfl, rfl, rfl⟩
      refine V_istore (ls' := [(6, .int (nI (stN p q l))), (0, .ref 62), (1, .int j), (2, .int k), (3, .int code), (4, .int other), (5, .int last)]) dX12_drawn_9 (by decide) rfl ?_
      refine V_aload_n dX12_drawn_11 rfl ?_
      refine V_iload_n dX12_drawn_12 rfl ?_
      refine V_callV (As := [.int j]) (st := []) (a := 62) dX12_drawn_13 kX12_isKnown lX12_404 (by decide) rfl rfl (Nat.le_of_ble_eq_true rfl) ⟨Nat.le_of_ble_eq_true rfl, Nat.le_of_ble_eq_true rfl⟩ ⟨Nat.le_of_ble_eq_true rfl, Nat.le_of_ble_eq_true rfl⟩ rfl ⟨rfl, by decide⟩ (q_n (w_isKnown hC) hj) ?_
      rintro _ _ _ _ ⟨rfl, rfl, rfl, rfl⟩
      refine V_if_eq (tgt := 33) dX12_drawn_16 rfl (fun _ => ?_) (fun h => absurd h (by decide))
      refine V_bipush (v := (-100)) dX12_drawn_33 rfl ?_
      exact V_iret ⟨Or.inl rfl, dX12_drawn_35⟩ ⟨Nat.le_of_ble_eq_true rfl, Nat.le_of_ble_eq_true rfl⟩ ⟨rfl, rfl, rfl, rfl⟩

