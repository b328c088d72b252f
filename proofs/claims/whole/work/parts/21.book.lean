/-! THE CLASS: the book; numbers' order for any int -/
theorem oi_eq {x : Int32} {c : Nat} (h : c < 2 ^ 31) : x = nI c ↔ x.toInt = c := by rw [← Int32.toInt_inj, nI_toInt h]
theorem oi_eq2 {x : Int32} {c : Nat} (h : c < 2 ^ 31) : nI c = x ↔ (c : Int) = x.toInt := by rw [← Int32.toInt_inj, nI_toInt h]
theorem oi_lt {x : Int32} {c : Nat} (h : c < 2 ^ 31) : x < nI c ↔ x.toInt < c := by rw [Int32.lt_iff_toInt_lt, nI_toInt h]
theorem oi_gt {x : Int32} {c : Nat} (h : c < 2 ^ 31) : nI c < x ↔ (c : Int) < x.toInt := by rw [Int32.lt_iff_toInt_lt, nI_toInt h]
theorem oi_le {x : Int32} {c : Nat} (h : c < 2 ^ 31) : x ≤ nI c ↔ x.toInt ≤ c := by rw [Int32.le_iff_toInt_le, nI_toInt h]
theorem oi_ge {x : Int32} {c : Nat} (h : c < 2 ^ 31) : nI c ≤ x ↔ (c : Int) ≤ x.toInt := by rw [Int32.le_iff_toInt_le, nI_toInt h]
theorem oz_eq {x : Int32} : x = 0 ↔ x.toInt = 0 := by rw [← Int32.toInt_inj, Int32.toInt_zero]
theorem oz_lt {x : Int32} : x < 0 ↔ x.toInt < 0 := by rw [Int32.lt_iff_toInt_lt, Int32.toInt_zero]
theorem oz_gt {x : Int32} : 0 < x ↔ 0 < x.toInt := by rw [Int32.lt_iff_toInt_lt, Int32.toInt_zero]
theorem oz_le {x : Int32} : x ≤ 0 ↔ x.toInt ≤ 0 := by rw [Int32.le_iff_toInt_le, Int32.toInt_zero]
theorem oz_ge {x : Int32} : 0 ≤ x ↔ 0 ≤ x.toInt := by rw [Int32.le_iff_toInt_le, Int32.toInt_zero]
/-- an int is below nought, or from n on, or one of the n numbers -/
theorem ix3 (x : Int32) (n : Nat) (hn : n ≤ 2 ^ 31) : x.toInt < 0 ∨ (n : Int) ≤ x.toInt ∨ ∃ k, k < n ∧ x = nI k := by
  by_cases h0 : x.toInt < 0
  · exact Or.inl h0
  · by_cases h1 : (n : Int) ≤ x.toInt
    · exact Or.inr (Or.inl h1)
    · refine Or.inr (Or.inr ⟨x.toInt.toNat, by omega, ?_⟩)
      rw [oi_eq (by omega)]
      omega
/-- an answer by a number from 0 to n - 1; the other one for all else -/
def onN {α : Type} (n : Nat) (x : Int32) (d : α) (f : Nat → α) : α := if 0 ≤ x.toInt ∧ x.toInt < n then f x.toInt.toNat else d
theorem onN_lo {α : Type} {n : Nat} {x : Int32} {d : α} {f : Nat → α} (h : x.toInt < 0) : onN n x d f = d := if_neg (by omega)
theorem onN_hi {α : Type} {n : Nat} {x : Int32} {d : α} {f : Nat → α} (h : (n : Int) ≤ x.toInt) : onN n x d f = d := if_neg (by omega)
theorem onN_k {α : Type} {n k : Nat} {d : α} {f : Nat → α} (h : k < n) (hn : n ≤ 2 ^ 31) : onN n (nI k) d f = f k := by
  unfold onN
  rw [nI_toInt (by omega), if_pos (by omega)]
  rfl
/-- the book at a: shots and hits by how far -/
def sm5 (s : Nat → Nat) : Nat := s 0 + s 1 + s 2 + s 3 + s 4
def bkX (I : zI) (a : Nat) (s h : Nat → Nat) : Prop := I a 4 = nI (sm5 s) ∧ sm5 s ≤ 60 ∧ ∀ k, k < 5 → I (a + 1) k = nI (s k) ∧ I (a + 2) k = nI (h k) ∧ h k ≤ s k ∧ s k ≤ 60
def telB (s h : Nat → Nat) (k : Nat) : Int32 := if k = 0 then nI (sm5 s) else if k = 1 then nI (sm5 h) else if 16 ≤ k ∧ k < 21 then nI (s (k - 16)) else if 26 ≤ k ∧ k < 31 then nI (h (k - 26)) else -1
set_option maxRecDepth 100000 in
set_option maxHeartbeats 4000000 in
theorem c_hasRoomB {G : zG} {I : zI} {J : zJ} {s h : Nat → Nat} (hb : bkX I 44 s h) : zK G mX0_hasRoom 0 [.ref 44] zsh I J (zA0 (.int (nI (if sm5 s < 60 then 1 else 0))) I J) := by
  refine zK_of kX0_hasRoom.2.2.2.2.1 (Nat.le_of_ble_eq_true rfl) ?_
  show V G mX0_hasRoom 0 _ 0 [(0, .ref 44)] [] (0, 0) zsh I J
  have hb60 := hb.2.1
  refine V_aload_n dX0_hasRoom_0 rfl ?_
  refine V_getI dX0_hasRoom_1 fX0_24 ⟨Nat.le_of_ble_eq_true rfl, Nat.le_of_ble_eq_true rfl⟩ rfl rfl ?_
  refine V_eqI (y := nI (sm5 s)) hb.1 ?_
  refine V_bipush (v := nI 60) dX0_hasRoom_4 rfl ?_
  refine V_icmp_geN (tgt := 13) dX0_hasRoom_6 rfl (by omega) (by omega) (fun h6 => ?_) (fun h6 => ?_)
  · skip
    refine V_iconst (v := nI 0) dX0_hasRoom_13 rfl ?_
    exact V_iret ⟨Or.inr ⟨rfl, Or.inl rfl⟩, dX0_hasRoom_14⟩ ⟨Nat.le_of_ble_eq_true rfl, Nat.le_of_ble_eq_true rfl⟩ ⟨rfl, congrArg (fun z => some (Value.int (nI z))) (by split <;> omega), rfl, rfl⟩
  · skip
    refine V_iconst (v := nI 1) dX0_hasRoom_9 rfl ?_
    refine V_goto (tgt := 14) dX0_hasRoom_10 rfl ?_
    exact V_iret ⟨Or.inr ⟨rfl, Or.inr rfl⟩, dX0_hasRoom_14⟩ ⟨Nat.le_of_ble_eq_true rfl, Nat.le_of_ble_eq_true rfl⟩ ⟨rfl, congrArg (fun z => some (Value.int (nI z))) (by split <;> omega), rfl, rfl⟩

def badd (I : zI) (i b : Nat) (s h : Nat → Nat) : zI := zwr (zwr (zwr I 45 i (nI (s i + 1))) 46 i (nI (h i + b))) 44 4 (nI (sm5 s + 1))
set_option maxRecDepth 100000 in
set_option maxHeartbeats 4000000 in
theorem c_addB0 {G : zG} {I : zI} {J : zJ} {s h : Nat → Nat} (hb : bkX I 44 s h) {n : Nat} (h6 : 6 ≤ n) (h10 : n ≤ 10) : zK G mX0_add 0 [.ref 44, .int (nI n), .int (nI 0)] zsh I J (zA1 (.int (nI (sm5 s + 1))) (fun I' J' => I' = badd I (n - 6) 0 s h ∧ J = J')) := by
  refine zK_of kX0_add.2.2.2.2.1 (Nat.le_of_ble_eq_true rfl) ?_
  show V G mX0_add 0 _ 0 [(0, .ref 44), (1, .int (nI n)), (2, .int (nI 0))] [] (0, 0) zsh I J
  have hb60 := hb.2.1
  refine V_iload_n dX0_add_0 rfl ?_
  refine V_bipush (v := nI 6) dX0_add_1 rfl ?_
  refine V_isubN dX0_add_3 (by omega) ?_
  refine V_istore_n (ls' := [(3, .int (nI (n - 6))), (0, .ref 44), (1, .int (nI n)), (2, .int (nI 0))]) dX0_add_4 (by decide) rfl ?_
  refine V_iload_n dX0_add_5 rfl ?_
  refine V_if_ltN (tgt := 52) dX0_add_6 rfl (by omega) ?_
  refine V_iload_n dX0_add_9 rfl ?_
  refine V_iconst (v := nI 5) dX0_add_10 rfl ?_
  refine V_icmp_geN (tgt := 52) dX0_add_11 rfl (by omega) (by omega) (fun h => absurd h (by omega)) (fun _ => ?_)
  refine V_aload_n dX0_add_14 rfl ?_
  refine V_getR (b := 45) dX0_add_15 fX0_9 ⟨Nat.le_of_ble_eq_true rfl, Nat.le_of_ble_eq_true rfl⟩ rfl rfl rfl ?_
  refine V_iload_n dX0_add_18 rfl ?_
  refine V_dup2 dX0_add_19 rfl rfl ?_
  refine V_ialdN (k := n - 6) dX0_add_20 ⟨Nat.le_of_ble_eq_true rfl, Nat.le_of_ble_eq_true rfl⟩ rfl (by decide) (by omega) ?_
  refine V_eqI (y := nI (s (n - 6))) (hb.2.2 (n - 6) (by omega)).1 ?_
  refine V_iconst (v := nI 1) dX0_add_21 rfl ?_
  refine V_iaddN dX0_add_22 ?_
  refine V_iastN (k := n - 6) dX0_add_23 ⟨Nat.le_of_ble_eq_true rfl, Nat.le_of_ble_eq_true rfl⟩ rfl (by decide) (by omega) ?_
  refine V_aload_n dX0_add_24 rfl ?_
  refine V_getR (b := 46) dX0_add_25 fX0_15 ⟨Nat.le_of_ble_eq_true rfl, Nat.le_of_ble_eq_true rfl⟩ rfl rfl rfl ?_
  refine V_iload_n dX0_add_28 rfl ?_
  refine V_dup2 dX0_add_29 rfl rfl ?_
  refine V_ialdN (k := n - 6) dX0_add_30 ⟨Nat.le_of_ble_eq_true rfl, Nat.le_of_ble_eq_true rfl⟩ rfl (by decide) (by omega) ?_
  refine V_eqI (y := I 46 (n - 6)) rfl ?_
  refine V_eqI (y := nI (h (n - 6))) (hb.2.2 (n - 6) (by omega)).2.1 ?_
  refine V_iload_n dX0_add_31 rfl ?_
  refine V_if_eq (tgt := 39) dX0_add_32 rfl (fun _ => ?_) (fun h => absurd h (by decide))
  refine V_iconst (v := nI 0) dX0_add_39 rfl ?_
  refine V_iaddN dX0_add_40 ?_
  refine V_eqI (y := nI (h (n - 6))) rfl ?_
  refine V_iastN (k := n - 6) dX0_add_41 ⟨Nat.le_of_ble_eq_true rfl, Nat.le_of_ble_eq_true rfl⟩ rfl (by decide) (by omega) ?_
  refine V_aload_n dX0_add_42 rfl ?_
  refine V_dup dX0_add_43 rfl ?_
  refine V_getI dX0_add_44 fX0_24 ⟨Nat.le_of_ble_eq_true rfl, Nat.le_of_ble_eq_true rfl⟩ rfl rfl ?_
  refine V_eqI (y := I 44 4) rfl ?_
  refine V_eqI (y := nI (sm5 s)) hb.1 ?_
  refine V_iconst (v := nI 1) dX0_add_47 rfl ?_
  refine V_iaddN dX0_add_48 ?_
  refine V_putW dX0_add_49 fX0_24 ⟨Nat.le_of_ble_eq_true rfl, Nat.le_of_ble_eq_true rfl⟩ rfl rfl rfl ⟨rfl, rfl⟩ ?_
  refine V_aload_n dX0_add_52 rfl ?_
  refine V_getI dX0_add_53 fX0_24 ⟨Nat.le_of_ble_eq_true rfl, Nat.le_of_ble_eq_true rfl⟩ rfl rfl ?_
  refine V_eqI (y := nI ((sm5 s) + 1)) rfl ?_
  exact V_iret ⟨Or.inl rfl, dX0_add_56⟩ ⟨Nat.le_of_ble_eq_true rfl, Nat.le_of_ble_eq_true rfl⟩ ⟨rfl, rfl, rfl, rfl⟩

set_option maxRecDepth 100000 in
set_option maxHeartbeats 4000000 in
theorem c_addB1 {G : zG} {I : zI} {J : zJ} {s h : Nat → Nat} (hb : bkX I 44 s h) {n : Nat} (h6 : 6 ≤ n) (h10 : n ≤ 10) : zK G mX0_add 0 [.ref 44, .int (nI n), .int (nI 1)] zsh I J (zA1 (.int (nI (sm5 s + 1))) (fun I' J' => I' = badd I (n - 6) 1 s h ∧ J = J')) := by
  refine zK_of kX0_add.2.2.2.2.1 (Nat.le_of_ble_eq_true rfl) ?_
  show V G mX0_add 0 _ 0 [(0, .ref 44), (1, .int (nI n)), (2, .int (nI 1))] [] (0, 0) zsh I J
  have hb60 := hb.2.1
  refine V_iload_n dX0_add_0 rfl ?_
  refine V_bipush (v := nI 6) dX0_add_1 rfl ?_
  refine V_isubN dX0_add_3 (by omega) ?_
  refine V_istore_n (ls' := [(3, .int (nI (n - 6))), (0, .ref 44), (1, .int (nI n)), (2, .int (nI 1))]) dX0_add_4 (by decide) rfl ?_
  refine V_iload_n dX0_add_5 rfl ?_
  refine V_if_ltN (tgt := 52) dX0_add_6 rfl (by omega) ?_
  refine V_iload_n dX0_add_9 rfl ?_
  refine V_iconst (v := nI 5) dX0_add_10 rfl ?_
  refine V_icmp_geN (tgt := 52) dX0_add_11 rfl (by omega) (by omega) (fun h => absurd h (by omega)) (fun _ => ?_)
  refine V_aload_n dX0_add_14 rfl ?_
  refine V_getR (b := 45) dX0_add_15 fX0_9 ⟨Nat.le_of_ble_eq_true rfl, Nat.le_of_ble_eq_true rfl⟩ rfl rfl rfl ?_
  refine V_iload_n dX0_add_18 rfl ?_
  refine V_dup2 dX0_add_19 rfl rfl ?_
  refine V_ialdN (k := n - 6) dX0_add_20 ⟨Nat.le_of_ble_eq_true rfl, Nat.le_of_ble_eq_true rfl⟩ rfl (by decide) (by omega) ?_
  refine V_eqI (y := nI (s (n - 6))) (hb.2.2 (n - 6) (by omega)).1 ?_
  refine V_iconst (v := nI 1) dX0_add_21 rfl ?_
  refine V_iaddN dX0_add_22 ?_
  refine V_iastN (k := n - 6) dX0_add_23 ⟨Nat.le_of_ble_eq_true rfl, Nat.le_of_ble_eq_true rfl⟩ rfl (by decide) (by omega) ?_
  refine V_aload_n dX0_add_24 rfl ?_
  refine V_getR (b := 46) dX0_add_25 fX0_15 ⟨Nat.le_of_ble_eq_true rfl, Nat.le_of_ble_eq_true rfl⟩ rfl rfl rfl ?_
  refine V_iload_n dX0_add_28 rfl ?_
  refine V_dup2 dX0_add_29 rfl rfl ?_
  refine V_ialdN (k := n - 6) dX0_add_30 ⟨Nat.le_of_ble_eq_true rfl, Nat.le_of_ble_eq_true rfl⟩ rfl (by decide) (by omega) ?_
  refine V_eqI (y := I 46 (n - 6)) rfl ?_
  refine V_eqI (y := nI (h (n - 6))) (hb.2.2 (n - 6) (by omega)).2.1 ?_
  refine V_iload_n dX0_add_31 rfl ?_
  refine V_if_eq (tgt := 39) dX0_add_32 rfl (fun h => absurd h (by decide)) (fun _ => ?_)
  refine V_iconst (v := nI 1) dX0_add_35 rfl ?_
  refine V_goto (tgt := 40) dX0_add_36 rfl ?_
  refine V_iaddN dX0_add_40 ?_
  refine V_iastN (k := n - 6) dX0_add_41 ⟨Nat.le_of_ble_eq_true rfl, Nat.le_of_ble_eq_true rfl⟩ rfl (by decide) (by omega) ?_
  refine V_aload_n dX0_add_42 rfl ?_
  refine V_dup dX0_add_43 rfl ?_
  refine V_getI dX0_add_44 fX0_24 ⟨Nat.le_of_ble_eq_true rfl, Nat.le_of_ble_eq_true rfl⟩ rfl rfl ?_
  refine V_eqI (y := I 44 4) rfl ?_
  refine V_eqI (y := nI (sm5 s)) hb.1 ?_
  refine V_iconst (v := nI 1) dX0_add_47 rfl ?_
  refine V_iaddN dX0_add_48 ?_
  refine V_putW dX0_add_49 fX0_24 ⟨Nat.le_of_ble_eq_true rfl, Nat.le_of_ble_eq_true rfl⟩ rfl rfl rfl ⟨rfl, rfl⟩ ?_
  refine V_aload_n dX0_add_52 rfl ?_
  refine V_getI dX0_add_53 fX0_24 ⟨Nat.le_of_ble_eq_true rfl, Nat.le_of_ble_eq_true rfl⟩ rfl rfl ?_
  refine V_eqI (y := nI ((sm5 s) + 1)) rfl ?_
  exact V_iret ⟨Or.inl rfl, dX0_add_56⟩ ⟨Nat.le_of_ble_eq_true rfl, Nat.le_of_ble_eq_true rfl⟩ ⟨rfl, rfl, rfl, rfl⟩

def updN (s : Nat → Nat) (i v : Nat) : Nat → Nat := fun k => if k = i then v else s k
theorem badd_X {I : zI} {s h : Nat → Nat} (hb : bkX I 44 s h) {i b : Nat} (hi : i < 5) (hb1 : b ≤ 1) (h60 : sm5 s < 60) : bkX (badd I i b s h) 44 (updN s i (s i + 1)) (updN h i (h i + b)) := by
  obtain ⟨h1, h2, h3⟩ := hb
  have hs : sm5 (updN s i (s i + 1)) = sm5 s + 1 := by
    unfold sm5 updN
    rcases (show i = 0 ∨ i = 1 ∨ i = 2 ∨ i = 3 ∨ i = 4 by omega) with e | e | e | e | e <;> subst e <;> simp <;> omega
  refine ⟨by rw [hs]; exact zwr_at.trans (if_pos ⟨rfl, rfl⟩), by omega, fun k hk => ?_⟩
  obtain ⟨g1, g2, g3, g4⟩ := h3 k hk
  have e5 : badd I i b s h 45 k = if k = i then nI (s i + 1) else I 45 k := by
    show zwr _ 44 4 _ 45 k = _
    rw [zwr_at, if_neg (by omega), zwr_at, if_neg (by omega), zwr_at]
    simp
  have e6 : badd I i b s h 46 k = if k = i then nI (h i + b) else I 46 k := by
    show zwr _ 44 4 _ 46 k = _
    rw [zwr_at, if_neg (by omega), zwr_at, zwr_at]
    simp
  have hk2 : s i ≤ 59 := by
    unfold sm5 at h60
    rcases (show i = 0 ∨ i = 1 ∨ i = 2 ∨ i = 3 ∨ i = 4 by omega) with e | e | e | e | e <;> subst e <;> omega
  have hi3 := h3 i hi
  show badd I i b s h 45 k = _ ∧ badd I i b s h 46 k = _ ∧ _
  rw [e5, e6]
  by_cases e : k = i
  · subst e; simp [updN]; omega
  · simp [updN, e, g1, g2]; omega
def bcp_keep (I : zI) (s : Nat → Nat) : zI := zwr (zup (zup I 54 (zcp (I 45) (I 54) 5)) 55 (zcp (I 46) (I 55) 5)) 53 4 (nI (sm5 s))
set_option maxRecDepth 100000 in
set_option maxHeartbeats 4000000 in
theorem c_bcopy_keep {G : zG} {I : zI} {J : zJ} {s h : Nat → Nat} (hb : bkX I 44 s h) : zK G mX0_copyFrom 1 [.ref 53, .ref 44] zsh I J (zA2 (fun I' J' => I' = bcp_keep I s ∧ J = J')) := by
  refine zK_of kX0_copyFrom.2.2.2.2.1 (Nat.le_of_ble_eq_true rfl) ?_
  show V G mX0_copyFrom 1 _ 0 [(0, .ref 53), (1, .ref 44)] [] (0, 0) zsh I J
  have hb60 := hb.2.1
  refine V_aload_n dX0_copyFrom_0 rfl ?_
  refine V_getR (b := 45) dX0_copyFrom_1 fX0_9 ⟨Nat.le_of_ble_eq_true rfl, Nat.le_of_ble_eq_true rfl⟩ rfl rfl rfl ?_
  refine V_iconst (v := nI 0) dX0_copyFrom_4 rfl ?_
  refine V_aload_n dX0_copyFrom_5 rfl ?_
  refine V_getR (b := 54) dX0_copyFrom_6 fX0_9 ⟨Nat.le_of_ble_eq_true rfl, Nat.le_of_ble_eq_true rfl⟩ rfl rfl rfl ?_
  refine V_iconst (v := nI 0) dX0_copyFrom_9 rfl ?_
  refine V_iconst (v := nI 5) dX0_copyFrom_10 rfl ?_
  refine V_cpyiN (a0 := 45) (a := 54) (n := 5) dX0_copyFrom_11 jX0_28 (by decide) (Nat.le_of_ble_eq_true rfl) ⟨Nat.le_of_ble_eq_true rfl, Nat.le_of_ble_eq_true rfl⟩ rfl ⟨Nat.le_of_ble_eq_true rfl, Nat.le_of_ble_eq_true rfl⟩ rfl (by decide) (by decide) ?_
  refine V_aload_n dX0_copyFrom_14 rfl ?_
  refine V_getR (b := 46) dX0_copyFrom_15 fX0_15 ⟨Nat.le_of_ble_eq_true rfl, Nat.le_of_ble_eq_true rfl⟩ rfl rfl rfl ?_
  refine V_iconst (v := nI 0) dX0_copyFrom_18 rfl ?_
  refine V_aload_n dX0_copyFrom_19 rfl ?_
  refine V_getR (b := 55) dX0_copyFrom_20 fX0_15 ⟨Nat.le_of_ble_eq_true rfl, Nat.le_of_ble_eq_true rfl⟩ rfl rfl rfl ?_
  refine V_iconst (v := nI 0) dX0_copyFrom_23 rfl ?_
  refine V_iconst (v := nI 5) dX0_copyFrom_24 rfl ?_
  refine V_cpyiN (a0 := 46) (a := 55) (n := 5) dX0_copyFrom_25 jX0_28 (by decide) (Nat.le_of_ble_eq_true rfl) ⟨Nat.le_of_ble_eq_true rfl, Nat.le_of_ble_eq_true rfl⟩ rfl ⟨Nat.le_of_ble_eq_true rfl, Nat.le_of_ble_eq_true rfl⟩ rfl (by decide) (by decide) ?_
  refine V_aload_n dX0_copyFrom_28 rfl ?_
  refine V_aload_n dX0_copyFrom_29 rfl ?_
  refine V_getI dX0_copyFrom_30 fX0_24 ⟨Nat.le_of_ble_eq_true rfl, Nat.le_of_ble_eq_true rfl⟩ rfl rfl ?_
  refine V_eqI (y := I 44 4) rfl ?_
  refine V_eqI (y := nI (sm5 s)) hb.1 ?_
  refine V_putW dX0_copyFrom_33 fX0_24 ⟨Nat.le_of_ble_eq_true rfl, Nat.le_of_ble_eq_true rfl⟩ rfl rfl rfl ⟨rfl, rfl⟩ ?_
  exact V_ret ⟨rfl, dX0_copyFrom_36⟩ ⟨Nat.le_of_ble_eq_true rfl, Nat.le_of_ble_eq_true rfl⟩ ⟨rfl, rfl, rfl, rfl⟩

theorem bcp_keep_X {I : zI} {s h : Nat → Nat} (hb : bkX I 44 s h) : bkX (bcp_keep I s) 53 s h ∧ ∀ x, x ≠ 53 → x ≠ 54 → x ≠ 55 → bcp_keep I s x = I x := by
  refine ⟨⟨zwr_at.trans (if_pos ⟨rfl, rfl⟩), hb.2.1, fun k hk => ?_⟩, fun x h1 h2 h3 => ?_⟩
  · obtain ⟨g1, g2, g3⟩ := hb.2.2 k hk
    exact ⟨(if_pos hk).trans g1, (if_pos hk).trans g2, g3⟩
  · unfold bcp_keep
    first | exact (zup_n h1).trans ((zup_n h3).trans (zup_n h2))
def bcp_undo (I : zI) (s : Nat → Nat) : zI := zwr (zup (zup I 45 (zcp (I 54) (I 45) 5)) 46 (zcp (I 55) (I 46) 5)) 44 4 (nI (sm5 s))
set_option maxRecDepth 100000 in
set_option maxHeartbeats 4000000 in
theorem c_bcopy_undo {G : zG} {I : zI} {J : zJ} {s h : Nat → Nat} (hb : bkX I 53 s h) : zK G mX0_copyFrom 1 [.ref 44, .ref 53] zsh I J (zA2 (fun I' J' => I' = bcp_undo I s ∧ J = J')) := by
  refine zK_of kX0_copyFrom.2.2.2.2.1 (Nat.le_of_ble_eq_true rfl) ?_
  show V G mX0_copyFrom 1 _ 0 [(0, .ref 44), (1, .ref 53)] [] (0, 0) zsh I J
  have hb60 := hb.2.1
  refine V_aload_n dX0_copyFrom_0 rfl ?_
  refine V_getR (b := 54) dX0_copyFrom_1 fX0_9 ⟨Nat.le_of_ble_eq_true rfl, Nat.le_of_ble_eq_true rfl⟩ rfl rfl rfl ?_
  refine V_iconst (v := nI 0) dX0_copyFrom_4 rfl ?_
  refine V_aload_n dX0_copyFrom_5 rfl ?_
  refine V_getR (b := 45) dX0_copyFrom_6 fX0_9 ⟨Nat.le_of_ble_eq_true rfl, Nat.le_of_ble_eq_true rfl⟩ rfl rfl rfl ?_
  refine V_iconst (v := nI 0) dX0_copyFrom_9 rfl ?_
  refine V_iconst (v := nI 5) dX0_copyFrom_10 rfl ?_
  refine V_cpyiN (a0 := 54) (a := 45) (n := 5) dX0_copyFrom_11 jX0_28 (by decide) (Nat.le_of_ble_eq_true rfl) ⟨Nat.le_of_ble_eq_true rfl, Nat.le_of_ble_eq_true rfl⟩ rfl ⟨Nat.le_of_ble_eq_true rfl, Nat.le_of_ble_eq_true rfl⟩ rfl (by decide) (by decide) ?_
  refine V_aload_n dX0_copyFrom_14 rfl ?_
  refine V_getR (b := 55) dX0_copyFrom_15 fX0_15 ⟨Nat.le_of_ble_eq_true rfl, Nat.le_of_ble_eq_true rfl⟩ rfl rfl rfl ?_
  refine V_iconst (v := nI 0) dX0_copyFrom_18 rfl ?_
  refine V_aload_n dX0_copyFrom_19 rfl ?_
  refine V_getR (b := 46) dX0_copyFrom_20 fX0_15 ⟨Nat.le_of_ble_eq_true rfl, Nat.le_of_ble_eq_true rfl⟩ rfl rfl rfl ?_
  refine V_iconst (v := nI 0) dX0_copyFrom_23 rfl ?_
  refine V_iconst (v := nI 5) dX0_copyFrom_24 rfl ?_
  refine V_cpyiN (a0 := 55) (a := 46) (n := 5) dX0_copyFrom_25 jX0_28 (by decide) (Nat.le_of_ble_eq_true rfl) ⟨Nat.le_of_ble_eq_true rfl, Nat.le_of_ble_eq_true rfl⟩ rfl ⟨Nat.le_of_ble_eq_true rfl, Nat.le_of_ble_eq_true rfl⟩ rfl (by decide) (by decide) ?_
  refine V_aload_n dX0_copyFrom_28 rfl ?_
  refine V_aload_n dX0_copyFrom_29 rfl ?_
  refine V_getI dX0_copyFrom_30 fX0_24 ⟨Nat.le_of_ble_eq_true rfl, Nat.le_of_ble_eq_true rfl⟩ rfl rfl ?_
  refine V_eqI (y := I 53 4) rfl ?_
  refine V_eqI (y := nI (sm5 s)) hb.1 ?_
  refine V_putW dX0_copyFrom_33 fX0_24 ⟨Nat.le_of_ble_eq_true rfl, Nat.le_of_ble_eq_true rfl⟩ rfl rfl rfl ⟨rfl, rfl⟩ ?_
  exact V_ret ⟨rfl, dX0_copyFrom_36⟩ ⟨Nat.le_of_ble_eq_true rfl, Nat.le_of_ble_eq_true rfl⟩ ⟨rfl, rfl, rfl, rfl⟩

theorem bcp_undo_X {I : zI} {s h : Nat → Nat} (hb : bkX I 53 s h) : bkX (bcp_undo I s) 44 s h ∧ ∀ x, x ≠ 44 → x ≠ 45 → x ≠ 46 → bcp_undo I s x = I x := by
  refine ⟨⟨zwr_at.trans (if_pos ⟨rfl, rfl⟩), hb.2.1, fun k hk => ?_⟩, fun x h1 h2 h3 => ?_⟩
  · obtain ⟨g1, g2, g3⟩ := hb.2.2 k hk
    exact ⟨(if_pos hk).trans g1, (if_pos hk).trans g2, g3⟩
  · unfold bcp_undo
    first | exact (zup_n h1).trans ((zup_n h3).trans (zup_n h2))
set_option maxRecDepth 100000 in
set_option maxHeartbeats 4000000 in
theorem c_tellB {G : zG} {I : zI} {J : zJ} {s h : Nat → Nat} (hb : bkX I 44 s h) {what : Int32} : zK G mX0_tell 2 [.ref 44, .int what] zsh I J (zA0 (.int (onN 41 what (-1) (telB s h))) I J) := by
  have hb60 := hb.2.1
  refine zK_of kX0_tell.2.2.2.2.1 (Nat.le_of_ble_eq_true rfl) ?_
  show V G mX0_tell 2 _ 0 [(0, .ref 44), (1, .int what)] [] (0, 0) zsh I J
  rcases ix3 what 41 (by decide) with hw | hw | ⟨k, hk, rfl⟩
  · skip
    refine V_iload_n dX0_tell_0 rfl ?_
    refine V_if_ne (tgt := 9) dX0_tell_1 rfl (fun _ => ?_) (fun h => absurd h (by rw [oz_eq]; omega))
    refine V_iload_n dX0_tell_9 rfl ?_
    refine V_iconst (v := nI 1) dX0_tell_10 rfl ?_
    refine V_icmp_ne (tgt := 40) dX0_tell_11 rfl (fun _ => ?_) (fun h => absurd h (by rw [oi_eq (by decide)]; omega))
    refine V_iload_n dX0_tell_40 rfl ?_
    refine V_bipush (v := nI 16) dX0_tell_41 rfl ?_
    refine V_icmp_lt (tgt := 67) dX0_tell_43 rfl (fun _ => ?_) (fun h => absurd (by rw [oi_lt (by decide)]; omega) h)
    refine V_iload_n dX0_tell_67 rfl ?_
    refine V_bipush (v := nI 26) dX0_tell_68 rfl ?_
    refine V_icmp_lt (tgt := 94) dX0_tell_70 rfl (fun _ => ?_) (fun h => absurd (by rw [oi_lt (by decide)]; omega) h)
    refine V_iconst (v := (-1)) dX0_tell_94 rfl ?_
    exact V_iret ⟨Or.inl rfl, dX0_tell_95⟩ ⟨Nat.le_of_ble_eq_true rfl, Nat.le_of_ble_eq_true rfl⟩ ⟨rfl, congrArg (fun z => some (Value.int z)) ((onN_lo hw).symm), rfl, rfl⟩
  · skip
    refine V_iload_n dX0_tell_0 rfl ?_
    refine V_if_ne (tgt := 9) dX0_tell_1 rfl (fun _ => ?_) (fun h => absurd h (by rw [oz_eq]; omega))
    refine V_iload_n dX0_tell_9 rfl ?_
    refine V_iconst (v := nI 1) dX0_tell_10 rfl ?_
    refine V_icmp_ne (tgt := 40) dX0_tell_11 rfl (fun _ => ?_) (fun h => absurd h (by rw [oi_eq (by decide)]; omega))
    refine V_iload_n dX0_tell_40 rfl ?_
    refine V_bipush (v := nI 16) dX0_tell_41 rfl ?_
    refine V_icmp_lt (tgt := 67) dX0_tell_43 rfl (fun h => absurd h (by rw [oi_lt (by decide)]; omega)) (fun _ => ?_)
    refine V_iload_n dX0_tell_46 rfl ?_
    refine V_bipush (v := nI 20) dX0_tell_47 rfl ?_
    refine V_icmp_gt (tgt := 67) dX0_tell_49 rfl (fun _ => ?_) (fun h => absurd (by rw [oi_gt (by decide)]; omega) h)
    refine V_iload_n dX0_tell_67 rfl ?_
    refine V_bipush (v := nI 26) dX0_tell_68 rfl ?_
    refine V_icmp_lt (tgt := 94) dX0_tell_70 rfl (fun h => absurd h (by rw [oi_lt (by decide)]; omega)) (fun _ => ?_)
    refine V_iload_n dX0_tell_73 rfl ?_
    refine V_bipush (v := nI 30) dX0_tell_74 rfl ?_
    refine V_icmp_gt (tgt := 94) dX0_tell_76 rfl (fun _ => ?_) (fun h => absurd (by rw [oi_gt (by decide)]; omega) h)
    refine V_iconst (v := (-1)) dX0_tell_94 rfl ?_
    exact V_iret ⟨Or.inl rfl, dX0_tell_95⟩ ⟨Nat.le_of_ble_eq_true rfl, Nat.le_of_ble_eq_true rfl⟩ ⟨rfl, congrArg (fun z => some (Value.int z)) ((onN_hi hw).symm), rfl, rfl⟩
  · skip
    refine V_iload_n dX0_tell_0 rfl ?_
    refine V_if_neN (tgt := 9) dX0_tell_1 rfl (by omega) (fun h1 => ?_) (fun h1 => ?_)
    · skip
      refine V_iload_n dX0_tell_9 rfl ?_
      refine V_iconst (v := nI 1) dX0_tell_10 rfl ?_
      refine V_icmp_neN (tgt := 40) dX0_tell_11 rfl (by omega) (by omega) (fun h11 => ?_) (fun h11 => ?_)
      · skip
        refine V_iload_n dX0_tell_40 rfl ?_
        refine V_bipush (v := nI 16) dX0_tell_41 rfl ?_
        refine V_icmp_ltN (tgt := 67) dX0_tell_43 rfl (by omega) (by omega) (fun h43 => ?_) (fun h43 => ?_)
        · skip
          refine V_iload_n dX0_tell_67 rfl ?_
          refine V_bipush (v := nI 26) dX0_tell_68 rfl ?_
          refine V_icmp_ltN (tgt := 94) dX0_tell_70 rfl (by omega) (by omega) (fun h70 => ?_) (fun h70 => ?_)
          · skip
            refine V_iconst (v := (-1)) dX0_tell_94 rfl ?_
            exact V_iret ⟨Or.inl rfl, dX0_tell_95⟩ ⟨Nat.le_of_ble_eq_true rfl, Nat.le_of_ble_eq_true rfl⟩ ⟨rfl, congrArg (fun z => some (Value.int z)) (by rw [onN_k hk (by decide)]; unfold telB; first | (exfalso; omega; done) | ((repeat' first | rw [if_pos (by omega)] | rw [if_neg (by omega)]) <;> (first | rfl | (congr 1; omega)))), rfl, rfl⟩
          · skip
            refine V_iload_n dX0_tell_73 rfl ?_
            refine V_bipush (v := nI 30) dX0_tell_74 rfl ?_
            refine V_icmp_gtN (tgt := 94) dX0_tell_76 rfl (by omega) (by omega) (fun h76 => ?_) (fun h76 => ?_)
            · skip
              refine V_iconst (v := (-1)) dX0_tell_94 rfl ?_
              exact V_iret ⟨Or.inl rfl, dX0_tell_95⟩ ⟨Nat.le_of_ble_eq_true rfl, Nat.le_of_ble_eq_true rfl⟩ ⟨rfl, congrArg (fun z => some (Value.int z)) (by rw [onN_k hk (by decide)]; unfold telB; first | (exfalso; omega; done) | ((repeat' first | rw [if_pos (by omega)] | rw [if_neg (by omega)]) <;> (first | rfl | (congr 1; omega)))), rfl, rfl⟩
            · skip
              refine V_aload_n dX0_tell_79 rfl ?_
              refine V_getR (b := 46) dX0_tell_80 fX0_15 ⟨Nat.le_of_ble_eq_true rfl, Nat.le_of_ble_eq_true rfl⟩ rfl rfl rfl ?_
              refine V_iload_n dX0_tell_83 rfl ?_
              refine V_bipush (v := nI 20) dX0_tell_84 rfl ?_
              refine V_isubN dX0_tell_86 (by omega) ?_
              refine V_bipush (v := nI 6) dX0_tell_87 rfl ?_
              refine V_isubN dX0_tell_89 (by omega) ?_
              refine V_callS (As := [.ref 46, .int (nI ((k - 20) - 6))]) (st := []) dX0_tell_90 kX11_at lX0_34 (by decide) rfl rfl (Nat.le_of_ble_eq_true rfl) ⟨Nat.le_of_ble_eq_true rfl, Nat.le_of_ble_eq_true rfl⟩ (c_at (a := 46) (n := 5) ⟨Nat.le_of_ble_eq_true rfl, Nat.le_of_ble_eq_true rfl⟩ rfl (by decide) (by omega)) ?_
              rintro _ _ _ _ ⟨rfl, rfl, rfl, rfl⟩
              refine V_eqI (y := nI (h ((k - 20) - 6))) (hb.2.2 ((k - 20) - 6) (by omega)).2.1 ?_
              exact V_iret ⟨Or.inl rfl, dX0_tell_93⟩ ⟨Nat.le_of_ble_eq_true rfl, Nat.le_of_ble_eq_true rfl⟩ ⟨rfl, congrArg (fun z => some (Value.int z)) (by rw [onN_k hk (by decide)]; unfold telB; first | (exfalso; omega; done) | ((repeat' first | rw [if_pos (by omega)] | rw [if_neg (by omega)]) <;> (first | rfl | (congr 1; omega)))), rfl, rfl⟩
        · skip
          refine V_iload_n dX0_tell_46 rfl ?_
          refine V_bipush (v := nI 20) dX0_tell_47 rfl ?_
          refine V_icmp_gtN (tgt := 67) dX0_tell_49 rfl (by omega) (by omega) (fun h49 => ?_) (fun h49 => ?_)
          · skip
            refine V_iload_n dX0_tell_67 rfl ?_
            refine V_bipush (v := nI 26) dX0_tell_68 rfl ?_
            refine V_icmp_ltN (tgt := 94) dX0_tell_70 rfl (by omega) (by omega) (fun h70 => ?_) (fun h70 => ?_)
            · skip
              refine V_iconst (v := (-1)) dX0_tell_94 rfl ?_
              exact V_iret ⟨Or.inl rfl, dX0_tell_95⟩ ⟨Nat.le_of_ble_eq_true rfl, Nat.le_of_ble_eq_true rfl⟩ ⟨rfl, congrArg (fun z => some (Value.int z)) (by rw [onN_k hk (by decide)]; unfold telB; first | (exfalso; omega; done) | ((repeat' first | rw [if_pos (by omega)] | rw [if_neg (by omega)]) <;> (first | rfl | (congr 1; omega)))), rfl, rfl⟩
            · skip
              refine V_iload_n dX0_tell_73 rfl ?_
              refine V_bipush (v := nI 30) dX0_tell_74 rfl ?_
              refine V_icmp_gtN (tgt := 94) dX0_tell_76 rfl (by omega) (by omega) (fun h76 => ?_) (fun h76 => ?_)
              · skip
                refine V_iconst (v := (-1)) dX0_tell_94 rfl ?_
                exact V_iret ⟨Or.inl rfl, dX0_tell_95⟩ ⟨Nat.le_of_ble_eq_true rfl, Nat.le_of_ble_eq_true rfl⟩ ⟨rfl, congrArg (fun z => some (Value.int z)) (by rw [onN_k hk (by decide)]; unfold telB; first | (exfalso; omega; done) | ((repeat' first | rw [if_pos (by omega)] | rw [if_neg (by omega)]) <;> (first | rfl | (congr 1; omega)))), rfl, rfl⟩
              · skip
                refine V_aload_n dX0_tell_79 rfl ?_
                refine V_getR (b := 46) dX0_tell_80 fX0_15 ⟨Nat.le_of_ble_eq_true rfl, Nat.le_of_ble_eq_true rfl⟩ rfl rfl rfl ?_
                refine V_iload_n dX0_tell_83 rfl ?_
                refine V_bipush (v := nI 20) dX0_tell_84 rfl ?_
                refine V_isubN dX0_tell_86 (by omega) ?_
                refine V_bipush (v := nI 6) dX0_tell_87 rfl ?_
                refine V_isubN dX0_tell_89 (by omega) ?_
                refine V_callS (As := [.ref 46, .int (nI ((k - 20) - 6))]) (st := []) dX0_tell_90 kX11_at lX0_34 (by decide) rfl rfl (Nat.le_of_ble_eq_true rfl) ⟨Nat.le_of_ble_eq_true rfl, Nat.le_of_ble_eq_true rfl⟩ (c_at (a := 46) (n := 5) ⟨Nat.le_of_ble_eq_true rfl, Nat.le_of_ble_eq_true rfl⟩ rfl (by decide) (by omega)) ?_
                rintro _ _ _ _ ⟨rfl, rfl, rfl, rfl⟩
                refine V_eqI (y := nI (h ((k - 20) - 6))) (hb.2.2 ((k - 20) - 6) (by omega)).2.1 ?_
                exact V_iret ⟨Or.inl rfl, dX0_tell_93⟩ ⟨Nat.le_of_ble_eq_true rfl, Nat.le_of_ble_eq_true rfl⟩ ⟨rfl, congrArg (fun z => some (Value.int z)) (by rw [onN_k hk (by decide)]; unfold telB; first | (exfalso; omega; done) | ((repeat' first | rw [if_pos (by omega)] | rw [if_neg (by omega)]) <;> (first | rfl | (congr 1; omega)))), rfl, rfl⟩
          · skip
            refine V_aload_n dX0_tell_52 rfl ?_
            refine V_getR (b := 45) dX0_tell_53 fX0_9 ⟨Nat.le_of_ble_eq_true rfl, Nat.le_of_ble_eq_true rfl⟩ rfl rfl rfl ?_
            refine V_iload_n dX0_tell_56 rfl ?_
            refine V_bipush (v := nI 10) dX0_tell_57 rfl ?_
            refine V_isubN dX0_tell_59 (by omega) ?_
            refine V_bipush (v := nI 6) dX0_tell_60 rfl ?_
            refine V_isubN dX0_tell_62 (by omega) ?_
            refine V_callS (As := [.ref 45, .int (nI ((k - 10) - 6))]) (st := []) dX0_tell_63 kX11_at lX0_34 (by decide) rfl rfl (Nat.le_of_ble_eq_true rfl) ⟨Nat.le_of_ble_eq_true rfl, Nat.le_of_ble_eq_true rfl⟩ (c_at (a := 45) (n := 5) ⟨Nat.le_of_ble_eq_true rfl, Nat.le_of_ble_eq_true rfl⟩ rfl (by decide) (by omega)) ?_
            rintro _ _ _ _ ⟨rfl, rfl, rfl, rfl⟩
            refine V_eqI (y := nI (s ((k - 10) - 6))) (hb.2.2 ((k - 10) - 6) (by omega)).1 ?_
            exact V_iret ⟨Or.inl rfl, dX0_tell_66⟩ ⟨Nat.le_of_ble_eq_true rfl, Nat.le_of_ble_eq_true rfl⟩ ⟨rfl, congrArg (fun z => some (Value.int z)) (by rw [onN_k hk (by decide)]; unfold telB; first | (exfalso; omega; done) | ((repeat' first | rw [if_pos (by omega)] | rw [if_neg (by omega)]) <;> (first | rfl | (congr 1; omega)))), rfl, rfl⟩
      · skip
        refine V_iconst (v := nI 0) dX0_tell_14 rfl ?_
        refine V_istore_n (ls' := [(2, .int (nI 0)), (0, .ref 44), (1, .int (nI k))]) dX0_tell_15 (by decide) rfl ?_
        refine V_iconst (v := nI 0) dX0_tell_16 rfl ?_
        refine V_istore_n (ls' := [(3, .int (nI 0)), (2, .int (nI 0)), (0, .ref 44), (1, .int (nI k))]) dX0_tell_17 (by decide) rfl ?_
        refine V_iload_n dX0_tell_18 rfl ?_
        refine V_iconst (v := nI 5) dX0_tell_19 rfl ?_
        refine V_icmp_ge (tgt := 38) dX0_tell_20 rfl (fun h => absurd h (by decide)) (fun _ => ?_)
        refine V_iload_n dX0_tell_23 rfl ?_
        refine V_aload_n dX0_tell_24 rfl ?_
        refine V_getR (b := 46) dX0_tell_25 fX0_15 ⟨Nat.le_of_ble_eq_true rfl, Nat.le_of_ble_eq_true rfl⟩ rfl rfl rfl ?_
        refine V_iload_n dX0_tell_28 rfl ?_
        refine V_ialdN (k := 0) dX0_tell_29 ⟨Nat.le_of_ble_eq_true rfl, Nat.le_of_ble_eq_true rfl⟩ rfl (by decide) (by omega) ?_
        refine V_eqI (y := nI (h 0)) (hb.2.2 0 (by omega)).2.1 ?_
        refine V_iaddN dX0_tell_30 ?_
        refine V_eqI (y := nI (h 0)) (congrArg nI (Nat.zero_add _)) ?_
        refine V_istore_n (ls' := [(2, .int (nI (h 0))), (3, .int (nI 0)), (0, .ref 44), (1, .int (nI k))]) dX0_tell_31 (by decide) rfl ?_
        refine V_iinc (v := nI 1) (ls' := [(3, .int (nI 1)), (2, .int (nI (h 0))), (0, .ref 44), (1, .int (nI k))]) dX0_tell_32 rfl (by decide) (by decide) rfl ?_
        refine V_goto (tgt := 18) dX0_tell_35 rfl ?_
        refine V_iload_n dX0_tell_18 rfl ?_
        refine V_iconst (v := nI 5) dX0_tell_19 rfl ?_
        refine V_icmp_ge (tgt := 38) dX0_tell_20 rfl (fun h => absurd h (by decide)) (fun _ => ?_)
        refine V_iload_n dX0_tell_23 rfl ?_
        refine V_aload_n dX0_tell_24 rfl ?_
        refine V_getR (b := 46) dX0_tell_25 fX0_15 ⟨Nat.le_of_ble_eq_true rfl, Nat.le_of_ble_eq_true rfl⟩ rfl rfl rfl ?_
        refine V_iload_n dX0_tell_28 rfl ?_
        refine V_ialdN (k := 1) dX0_tell_29 ⟨Nat.le_of_ble_eq_true rfl, Nat.le_of_ble_eq_true rfl⟩ rfl (by decide) (by omega) ?_
        refine V_eqI (y := nI (h 1)) (hb.2.2 1 (by omega)).2.1 ?_
        refine V_iaddN dX0_tell_30 ?_
        refine V_istore_n (ls' := [(2, .int (nI ((h 0) + (h 1)))), (3, .int (nI 1)), (0, .ref 44), (1, .int (nI k))]) dX0_tell_31 (by decide) rfl ?_
        refine V_iinc (v := nI 2) (ls' := [(3, .int (nI 2)), (2, .int (nI ((h 0) + (h 1)))), (0, .ref 44), (1, .int (nI k))]) dX0_tell_32 rfl (by decide) (by decide) rfl ?_
        refine V_goto (tgt := 18) dX0_tell_35 rfl ?_
        refine V_iload_n dX0_tell_18 rfl ?_
        refine V_iconst (v := nI 5) dX0_tell_19 rfl ?_
        refine V_icmp_ge (tgt := 38) dX0_tell_20 rfl (fun h => absurd h (by decide)) (fun _ => ?_)
        refine V_iload_n dX0_tell_23 rfl ?_
        refine V_aload_n dX0_tell_24 rfl ?_
        refine V_getR (b := 46) dX0_tell_25 fX0_15 ⟨Nat.le_of_ble_eq_true rfl, Nat.le_of_ble_eq_true rfl⟩ rfl rfl rfl ?_
        refine V_iload_n dX0_tell_28 rfl ?_
        refine V_ialdN (k := 2) dX0_tell_29 ⟨Nat.le_of_ble_eq_true rfl, Nat.le_of_ble_eq_true rfl⟩ rfl (by decide) (by omega) ?_
        refine V_eqI (y := nI (h 2)) (hb.2.2 2 (by omega)).2.1 ?_
        refine V_iaddN dX0_tell_30 ?_
        refine V_istore_n (ls' := [(2, .int (nI (((h 0) + (h 1)) + (h 2)))), (3, .int (nI 2)), (0, .ref 44), (1, .int (nI k))]) dX0_tell_31 (by decide) rfl ?_
        refine V_iinc (v := nI 3) (ls' := [(3, .int (nI 3)), (2, .int (nI (((h 0) + (h 1)) + (h 2)))), (0, .ref 44), (1, .int (nI k))]) dX0_tell_32 rfl (by decide) (by decide) rfl ?_
        refine V_goto (tgt := 18) dX0_tell_35 rfl ?_
        refine V_iload_n dX0_tell_18 rfl ?_
        refine V_iconst (v := nI 5) dX0_tell_19 rfl ?_
        refine V_icmp_ge (tgt := 38) dX0_tell_20 rfl (fun h => absurd h (by decide)) (fun _ => ?_)
        refine V_iload_n dX0_tell_23 rfl ?_
        refine V_aload_n dX0_tell_24 rfl ?_
        refine V_getR (b := 46) dX0_tell_25 fX0_15 ⟨Nat.le_of_ble_eq_true rfl, Nat.le_of_ble_eq_true rfl⟩ rfl rfl rfl ?_
        refine V_iload_n dX0_tell_28 rfl ?_
        refine V_ialdN (k := 3) dX0_tell_29 ⟨Nat.le_of_ble_eq_true rfl, Nat.le_of_ble_eq_true rfl⟩ rfl (by decide) (by omega) ?_
        refine V_eqI (y := nI (h 3)) (hb.2.2 3 (by omega)).2.1 ?_
        refine V_iaddN dX0_tell_30 ?_
        refine V_istore_n (ls' := [(2, .int (nI ((((h 0) + (h 1)) + (h 2)) + (h 3)))), (3, .int (nI 3)), (0, .ref 44), (1, .int (nI k))]) dX0_tell_31 (by decide) rfl ?_
        refine V_iinc (v := nI 4) (ls' := [(3, .int (nI 4)), (2, .int (nI ((((h 0) + (h 1)) + (h 2)) + (h 3)))), (0, .ref 44), (1, .int (nI k))]) dX0_tell_32 rfl (by decide) (by decide) rfl ?_
        refine V_goto (tgt := 18) dX0_tell_35 rfl ?_
        refine V_iload_n dX0_tell_18 rfl ?_
        refine V_iconst (v := nI 5) dX0_tell_19 rfl ?_
        refine V_icmp_ge (tgt := 38) dX0_tell_20 rfl (fun h => absurd h (by decide)) (fun _ => ?_)
        refine V_iload_n dX0_tell_23 rfl ?_
        refine V_aload_n dX0_tell_24 rfl ?_
        refine V_getR (b := 46) dX0_tell_25 fX0_15 ⟨Nat.le_of_ble_eq_true rfl, Nat.le_of_ble_eq_true rfl⟩ rfl rfl rfl ?_
        refine V_iload_n dX0_tell_28 rfl ?_
        refine V_ialdN (k := 4) dX0_tell_29 ⟨Nat.le_of_ble_eq_true rfl, Nat.le_of_ble_eq_true rfl⟩ rfl (by decide) (by omega) ?_
        refine V_eqI (y := nI (h 4)) (hb.2.2 4 (by omega)).2.1 ?_
        refine V_iaddN dX0_tell_30 ?_
        refine V_istore_n (ls' := [(2, .int (nI (((((h 0) + (h 1)) + (h 2)) + (h 3)) + (h 4)))), (3, .int (nI 4)), (0, .ref 44), (1, .int (nI k))]) dX0_tell_31 (by decide) rfl ?_
        refine V_iinc (v := nI 5) (ls' := [(3, .int (nI 5)), (2, .int (nI (((((h 0) + (h 1)) + (h 2)) + (h 3)) + (h 4)))), (0, .ref 44), (1, .int (nI k))]) dX0_tell_32 rfl (by decide) (by decide) rfl ?_
        refine V_goto (tgt := 18) dX0_tell_35 rfl ?_
        refine V_iload_n dX0_tell_18 rfl ?_
        refine V_iconst (v := nI 5) dX0_tell_19 rfl ?_
        refine V_icmp_ge (tgt := 38) dX0_tell_20 rfl (fun _ => ?_) (fun h => absurd h (by decide))
        refine V_iload_n dX0_tell_38 rfl ?_
        exact V_iret ⟨Or.inl rfl, dX0_tell_39⟩ ⟨Nat.le_of_ble_eq_true rfl, Nat.le_of_ble_eq_true rfl⟩ ⟨rfl, congrArg (fun z => some (Value.int z)) (by rw [onN_k hk (by decide)]; unfold telB; first | (exfalso; omega; done) | ((repeat' first | rw [if_pos (by omega)] | rw [if_neg (by omega)]) <;> (first | rfl | (congr 1; omega)))), rfl, rfl⟩
    · skip
      refine V_aload_n dX0_tell_4 rfl ?_
      refine V_getI dX0_tell_5 fX0_24 ⟨Nat.le_of_ble_eq_true rfl, Nat.le_of_ble_eq_true rfl⟩ rfl rfl ?_
      refine V_eqI (y := nI (sm5 s)) hb.1 ?_
      exact V_iret ⟨Or.inl rfl, dX0_tell_8⟩ ⟨Nat.le_of_ble_eq_true rfl, Nat.le_of_ble_eq_true rfl⟩ ⟨rfl, congrArg (fun z => some (Value.int z)) (by rw [onN_k hk (by decide)]; unfold telB; first | (exfalso; omega; done) | ((repeat' first | rw [if_pos (by omega)] | rw [if_neg (by omega)]) <;> (first | rfl | (congr 1; omega)))), rfl, rfl⟩

/-- a number as a long -/
def nL (n : Nat) : Int64 := Int64.ofNat n
theorem nL_toInt {n : Nat} (h : n < 2 ^ 63) : (nL n).toInt = n := by unfold nL; exact Int64.toInt_ofNat_of_lt h
theorem nL_of {n : Nat} (h : n < 2 ^ 31) : (nI n).toInt64 = nL n := by
  rw [← Int64.toInt_inj, Int32.toInt_toInt64, nI_toInt h, nL_toInt (by omega)]
theorem nL_add (a b : Nat) : nL a + nL b = nL (a + b) := by unfold nL; rw [Int64.ofNat_add]
theorem nL_mul (a b : Nat) : nL a * nL b = nL (a * b) := by unfold nL; rw [Int64.ofNat_mul]
theorem nL_div {a b : Nat} (ha : a < 2 ^ 63) (hb : b < 2 ^ 63) : nL a / nL b = nL (a / b) := by
  rw [← Int64.toInt_inj, Int64.toInt_div, nL_toInt ha, nL_toInt hb, nL_toInt (Nat.lt_of_le_of_lt (Nat.div_le_self a b) ha)]
  have h : (a : Int).tdiv b = ((a / b : Nat) : Int) := by rw [Int.ofNat_tdiv]
  have h2 := Nat.div_le_self a b
  rw [h]
  generalize a / b = q at h2 ⊢
  exact Int.bmod_eq_of_le (by omega) (by omega)
theorem nL_rem {a b : Nat} (ha : a < 2 ^ 63) (hb : b < 2 ^ 63) : nL a - nL a / nL b * nL b = nL (a % b) := by
  rw [nL_div ha hb, nL_mul]
  have h : a = a % b + a / b * b := by rw [Nat.mul_comm]; exact (Nat.mod_add_div a b).symm
  rw [show nL a = nL (a % b) + nL (a / b * b) from by rw [nL_add, ← h]]
  exact Int64.add_sub_cancel _ _
theorem nL_int {n : Nat} (h : n < 2 ^ 31) : (nL n).toInt32 = nI n := by
  rw [← Int32.toInt_inj, nI_toInt h, Int64.toInt_toInt32, nL_toInt (by omega)]
  exact Int.bmod_eq_of_le (by omega) (by omega)
/-- a row times a factor: what is carried, digits, so many times -/
def mcr (f : Nat) (d : Nat → Nat) : Nat → Nat
  | 0 => 0
  | i + 1 => (mcr f d i + d i * f) / 1000000000
def mdg (f : Nat) (d : Nat → Nat) (i : Nat) : Nat := (mcr f d i + d i * f) % 1000000000
def mrow (f : Nat) : Nat → (Nat → Nat) → Nat → Nat
  | 0, d => d
  | t + 1, d => mrow f t (mdg f d)
theorem mcr_le {f : Nat} {d : Nat → Nat} : ∀ i, (∀ j, j < i → d j < 1000000000) → mcr f d i ≤ f
  | 0, _ => Nat.zero_le _
  | i + 1, h => by
    have ih := mcr_le (f := f) i (fun j hj => h j (by omega))
    have h1 : d i ≤ 999999999 := by have := h i (by omega); omega
    have h2 : d i * f ≤ 999999999 * f := Nat.mul_le_mul_right f h1
    unfold mcr
    omega
set_option maxRecDepth 100000 in
set_option maxHeartbeats 4000000 in
theorem lp_mulI {G : zG} {I : zI} {J : zJ} {a f T : Nat} (ha : zin zsh a) (hk : zsh.2.1 a = (1, 7)) (hf : f ≤ 10) (hT : T < 2 ^ 31) {d : Nat → Nat} (hd : ∀ j, j < 7 → d j < 1000000000) {time : Nat} (ht : time < T) {Q : zQ} : ∀ n i (I1 : zI), i + n = 7 → (∀ b, b ≠ a → I1 b = I b) → (∀ j, j < i → I1 a j = nI (mdg f d j)) → (∀ j, i ≤ j → j < 7 → I1 a j = nI (d j)) → (∀ I2 : zI, (∀ b, b ≠ a → I2 b = I b) → (∀ j, j < 7 → I2 a j = nI (mdg f d j)) → V G mX0_multiply 0 Q 58 [(0, .ref a), (1, .int (nI f)), (2, .int (nI T)), (3, .int (nI time)), (4, .long (nL (mcr f d 7))), (6, .int (nI 7))] [] (0, 0) zsh I2 J) → V G mX0_multiply 0 Q 13 [(0, .ref a), (1, .int (nI f)), (2, .int (nI T)), (3, .int (nI time)), (4, .long (nL (mcr f d i))), (6, .int (nI i))] [] (0, 0) zsh I1 J := by
  intro n
  induction n with
  | zero =>
    intro i I1 hi ho hl hr hQ
    obtain rfl : i = 7 := by omega
    refine V_iload dX0_multiply_13 rfl ?_
    refine V_aload_n dX0_multiply_15 rfl ?_
    refine V_alen (v := nI 7) dX0_multiply_16 ha hk (by decide) rfl ?_
    refine V_icmp_geN (tgt := 58) dX0_multiply_17 rfl (by omega) (by omega) (fun _ => ?_) (fun h => absurd h (by omega))
    exact hQ I1 ho hl
  | succ n ih =>
    intro i I1 hi ho hl hr hQ
    have hc := mcr_le (f := f) (d := d) i (fun j hj => hd j (by omega))
    have hdi := hd i (by omega)
    have hdf : d i * f ≤ 999999999 * 10 := Nat.mul_le_mul (by omega) hf
    refine V_iload dX0_multiply_13 rfl ?_
    refine V_aload_n dX0_multiply_15 rfl ?_
    refine V_alen (v := nI 7) dX0_multiply_16 ha hk (by decide) rfl ?_
    refine V_icmp_geN (tgt := 58) dX0_multiply_17 rfl (by omega) (by omega) (fun h => absurd h (by omega)) (fun _ => ?_)
    refine V_lload dX0_multiply_20 rfl ?_
    refine V_aload_n dX0_multiply_22 rfl ?_
    refine V_iload dX0_multiply_23 rfl ?_
    refine V_ialdN (k := i) dX0_multiply_25 ha hk (by decide) (by omega) ?_
    refine V_eqI (y := nI (d i)) (hr i (Nat.le_refl i) (by omega)) ?_
    refine V_i2l dX0_multiply_26 ?_
    refine V_iload_n dX0_multiply_27 rfl ?_
    refine V_i2l dX0_multiply_28 ?_
    refine V_lmul dX0_multiply_29 (V_eqL (y := nL (d i * f)) (by rw [nL_of (by omega), nL_of (by omega), nL_mul]) ?_)
    refine V_ladd dX0_multiply_30 (V_eqL (y := nL (mcr f d i + d i * f)) (nL_add _ _) ?_)
    refine V_lstore (ls' := [(4, .long (nL (mcr f d i + d i * f))), (0, .ref a), (1, .int (nI f)), (2, .int (nI T)), (3, .int (nI time)), (6, .int (nI i))]) dX0_multiply_31 (by decide) rfl ?_
    refine V_aload_n dX0_multiply_33 rfl ?_
    refine V_iload dX0_multiply_34 rfl ?_
    refine V_lload dX0_multiply_36 rfl ?_
    refine V_ldc2 dX0_multiply_38 qX0_57 ?_
    refine V_lrem dX0_multiply_41 (by decide) (V_eqL (y := nL (mdg f d i)) (nL_rem (b := 1000000000) (by omega) (by decide)) ?_)
    refine V_l2i dX0_multiply_42 ?_
    refine V_eqI (y := nI (mdg f d i)) (nL_int (Nat.lt_trans (Nat.mod_lt _ (by decide)) (by decide))) ?_
    refine V_iastN (k := i) dX0_multiply_43 ha hk (by decide) (by omega) ?_
    refine V_lload dX0_multiply_44 rfl ?_
    refine V_ldc2 dX0_multiply_46 qX0_57 ?_
    refine V_ldiv dX0_multiply_49 (by decide) (V_eqL (y := nL (mcr f d (i + 1))) (nL_div (b := 1000000000) (by omega) (by decide)) ?_)
    refine V_lstore (ls' := [(4, .long (nL (mcr f d (i + 1)))), (0, .ref a), (1, .int (nI f)), (2, .int (nI T)), (3, .int (nI time)), (6, .int (nI i))]) dX0_multiply_50 (by decide) rfl ?_
    refine V_iincN (ls' := [(6, .int (nI (i + 1))), (4, .long (nL (mcr f d (i + 1)))), (0, .ref a), (1, .int (nI f)), (2, .int (nI T)), (3, .int (nI time))]) (n := 1) dX0_multiply_52 rfl rfl (by decide) (by decide) rfl ?_
    refine V_goto (tgt := 13) dX0_multiply_55 rfl ?_
    refine V_sub2 (ls' := [(0, .ref a), (1, .int (nI f)), (2, .int (nI T)), (3, .int (nI time)), (4, .long (nL (mcr f d (i + 1)))), (6, .int (nI (i + 1)))]) (List.forall_mem_cons.mpr ⟨rfl, List.forall_mem_cons.mpr ⟨rfl, List.forall_mem_cons.mpr ⟨rfl, List.forall_mem_cons.mpr ⟨rfl, List.forall_mem_cons.mpr ⟨rfl, List.forall_mem_cons.mpr ⟨rfl, fun _ h => absurd h List.not_mem_nil⟩⟩⟩⟩⟩⟩) ?_
    refine ih (i + 1) _ (by omega) (fun b hb => (zup_n hb).trans (ho b hb)) ?_ ?_ hQ
    · intro j hj
      rw [zwr_at]
      by_cases e : j = i
      · subst e; rw [if_pos ⟨rfl, rfl⟩]
      · rw [if_neg (fun h => e h.2)]; exact hl j (by omega)
    · intro j hj hj7
      rw [zwr_at, if_neg (by omega)]
      exact hr j (by omega) hj7

set_option maxRecDepth 100000 in
set_option maxHeartbeats 4000000 in
theorem lp_mulO {G : zG} {I : zI} {J : zJ} {a f T : Nat} (ha : zin zsh a) (hk : zsh.2.1 a = (1, 7)) (hf : f ≤ 10) (hT : T < 2 ^ 31) {R : Nat → Nat} : ∀ m time (I1 : zI) (d : Nat → Nat), time + m = T → (∀ b, b ≠ a → I1 b = I b) → (∀ j, j < 7 → I1 a j = nI (d j) ∧ d j < 1000000000) → (∀ j, j < 7 → mrow f m d j = R j) → V G mX0_multiply 0 (zA2 (fun I' J' => (∀ b, b ≠ a → I' b = I b) ∧ (∀ j, j < 7 → I' a j = nI (R j)) ∧ J = J')) 2 [(0, .ref a), (1, .int (nI f)), (2, .int (nI T)), (3, .int (nI time))] [] (0, 0) zsh I1 J := by
  intro m
  induction m with
  | zero =>
    intro time I1 d hi ho hr hR
    refine V_iload_n dX0_multiply_2 rfl ?_
    refine V_iload_n dX0_multiply_3 rfl ?_
    refine V_icmp_geN (tgt := 64) dX0_multiply_4 rfl (by omega) (by omega) (fun _ => ?_) (fun h => absurd h (by omega))
    exact V_ret ⟨rfl, dX0_multiply_64⟩ ⟨Nat.le_of_ble_eq_true rfl, Nat.le_of_ble_eq_true rfl⟩ ⟨rfl, rfl, ho, fun j hj => (hr j hj).1.trans (congrArg nI (hR j hj)), rfl⟩
  | succ m ih =>
    intro time I1 d hi ho hr hR
    refine V_iload_n dX0_multiply_2 rfl ?_
    refine V_iload_n dX0_multiply_3 rfl ?_
    refine V_icmp_geN (tgt := 64) dX0_multiply_4 rfl (by omega) (by omega) (fun h => absurd h (by omega)) (fun _ => ?_)
    refine V_lconst (v := 0) dX0_multiply_7 rfl ?_
    refine V_lstore (ls' := [(4, .long 0), (0, .ref a), (1, .int (nI f)), (2, .int (nI T)), (3, .int (nI time))]) dX0_multiply_8 (by decide) rfl ?_
    refine V_iconst (v := nI 0) dX0_multiply_10 rfl ?_
    refine V_istore (ls' := [(6, .int (nI 0)), (4, .long 0), (0, .ref a), (1, .int (nI f)), (2, .int (nI T)), (3, .int (nI time))]) dX0_multiply_11 (by decide) rfl ?_
    refine V_sub2 (ls' := [(0, .ref a), (1, .int (nI f)), (2, .int (nI T)), (3, .int (nI time)), (4, .long 0), (6, .int (nI 0))]) (List.forall_mem_cons.mpr ⟨rfl, List.forall_mem_cons.mpr ⟨rfl, List.forall_mem_cons.mpr ⟨rfl, List.forall_mem_cons.mpr ⟨rfl, List.forall_mem_cons.mpr ⟨rfl, List.forall_mem_cons.mpr ⟨rfl, fun _ h => absurd h List.not_mem_nil⟩⟩⟩⟩⟩⟩) ?_
    refine lp_mulI ha hk hf hT (d := d) (fun j hj => (hr j hj).2) (time := time) (by omega) 7 0 I1 rfl (fun b _ => rfl) (fun j hj => absurd hj (by omega)) (fun j _ hj => (hr j hj).1) ?_
    intro I2 ho2 hr2
    refine V_iincN (ls' := [(3, .int (nI (time + 1))), (0, .ref a), (1, .int (nI f)), (2, .int (nI T)), (4, .long (nL (mcr f d 7))), (6, .int (nI 7))]) (n := 1) dX0_multiply_58 rfl rfl (by decide) (by decide) rfl ?_
    refine V_goto (tgt := 2) dX0_multiply_61 rfl ?_
    refine V_sub2 (ls' := [(0, .ref a), (1, .int (nI f)), (2, .int (nI T)), (3, .int (nI (time + 1)))]) (List.forall_mem_cons.mpr ⟨rfl, List.forall_mem_cons.mpr ⟨rfl, List.forall_mem_cons.mpr ⟨rfl, List.forall_mem_cons.mpr ⟨rfl, fun _ h => absurd h List.not_mem_nil⟩⟩⟩⟩) ?_
    exact ih (time + 1) I2 (mdg f d) (by omega) (fun b hb => (ho2 b hb).trans (ho b hb)) (fun j hj => ⟨hr2 j hj, Nat.mod_lt _ (by decide)⟩) hR

set_option maxRecDepth 100000 in
set_option maxHeartbeats 4000000 in
theorem c_multiply {G : zG} {I : zI} {J : zJ} {a f T : Nat} (ha : zin zsh a) (hk : zsh.2.1 a = (1, 7)) (hf : f ≤ 10) (hT : T < 2 ^ 31) {d : Nat → Nat} (hr : ∀ j, j < 7 → I a j = nI (d j) ∧ d j < 1000000000) : zK G mX0_multiply 0 [.ref a, .int (nI f), .int (nI T)] zsh I J (zA2 (fun I' J' => (∀ b, b ≠ a → I' b = I b) ∧ (∀ j, j < 7 → I' a j = nI (mrow f T d j)) ∧ J = J')) := by
  refine zK_of kX0_multiply.2.2.2.2.1 (Nat.le_of_ble_eq_true rfl) ?_
  show V G mX0_multiply 0 _ 0 [(0, .ref a), (1, .int (nI f)), (2, .int (nI T))] [] (0, 0) zsh I J
  refine V_iconst (v := nI 0) dX0_multiply_0 rfl ?_
  refine V_istore_n (ls' := [(3, .int (nI 0)), (0, .ref a), (1, .int (nI f)), (2, .int (nI T))]) dX0_multiply_1 (by decide) rfl ?_
  refine V_sub2 (ls' := [(0, .ref a), (1, .int (nI f)), (2, .int (nI T)), (3, .int (nI 0))]) (List.forall_mem_cons.mpr ⟨rfl, List.forall_mem_cons.mpr ⟨rfl, List.forall_mem_cons.mpr ⟨rfl, List.forall_mem_cons.mpr ⟨rfl, fun _ h => absurd h List.not_mem_nil⟩⟩⟩⟩) ?_
  exact lp_mulO ha hk hf hT T 0 I d (by omega) (fun b _ => rfl) hr (fun j _ => rfl)

theorem mrow_lt {f : Nat} : ∀ T (d : Nat → Nat), (∀ j, j < 7 → d j < 1000000000) → ∀ j, j < 7 → mrow f T d j < 1000000000
  | 0, _, h => h
  | T + 1, d, _ => mrow_lt T (mdg f d) (fun _ _ => Nat.mod_lt _ (by decide))
/-- a guess's product, row by row of how far -/
def pRow (at6 less : Nat) (s h : Nat → Nat) : Nat → Nat → Nat
  | 0 => fun k => if k = 0 then 1 else 0
  | i + 1 => mrow (10 - (at6 - i * less)) (s i - h i) (mrow (at6 - i * less) (h i) (pRow at6 less s h i))
theorem pRow_lt {at6 less : Nat} {s h : Nat → Nat} : ∀ i j, j < 7 → pRow at6 less s h i j < 1000000000
  | 0, j, _ => by unfold pRow; split <;> decide
  | i + 1, j, hj => mrow_lt _ _ (mrow_lt _ _ (pRow_lt i)) j hj
/-- two rows held against each other from their top: the same, the one, the other -/
def cmpS (d e : Nat → Nat) : Nat → Nat
  | 0 => 0
  | n + 1 => if d n = e n then cmpS d e n else if e n < d n then 1 else 2
theorem mx_sub {a b : Nat} (ha : a < 2 ^ 31) (hb : b < 2 ^ 31) : (if nI 0 < nI a - nI b then nI a - nI b else nI 0) = nI (a - b) := by
  have e : (nI a - nI b).toInt = (a : Int) - b := by
    rw [Int32.toInt_sub, nI_toInt ha, nI_toInt hb]
    exact Int.bmod_eq_of_le (by omega) (by omega)
  split
  · rename_i h
    rw [Int32.lt_iff_toInt_lt, nI_toInt (by decide), e] at h
    rw [← Int32.toInt_inj, e, nI_toInt (by omega)]
    omega
  · rename_i h
    rw [Int32.lt_iff_toInt_lt, nI_toInt (by decide), e] at h
    rw [show a - b = 0 by omega]
set_option maxRecDepth 100000 in
set_option maxHeartbeats 4000000 in
theorem lp_mulA {G : zG} {I : zI} {J : zJ} {s h : Nat → Nat} (hb : bkX I 44 s h) {at6 less a : Nat} (h10 : at6 ≤ 10) (hl3 : less ≤ 3) (haa : a = 47 ∨ a = 48) : ∀ n i (I1 : zI), i + n = 5 → (∀ b, b ≠ a → I1 b = I b) → (∀ j, j < 7 → I1 a j = nI (pRow at6 less s h i j) ∧ pRow at6 less s h i j < 1000000000) → V G mX0_multiplyAll 1 (zA2 (fun I' J' => (∀ b, b ≠ a → I' b = I b) ∧ (∀ j, j < 7 → I' a j = nI (pRow at6 less s h 5 j)) ∧ J = J')) 17 [(0, .ref 44), (1, .ref a), (2, .int (nI at6)), (3, .int (nI less)), (4, .int (nI i))] [] (0, 0) zsh I1 J := by
  have ha : zin zsh a := by rcases haa with rfl | rfl <;> exact ⟨Nat.le_of_ble_eq_true rfl, Nat.le_of_ble_eq_true rfl⟩
  have hk : zsh.2.1 a = (1, 7) := by rcases haa with rfl | rfl <;> rfl
  intro n
  induction n with
  | zero =>
    intro i I1 hi ho hr
    obtain rfl : i = 5 := by omega
    refine V_iload dX0_multiplyAll_17 rfl ?_
    refine V_iconst (v := nI 5) dX0_multiplyAll_19 rfl ?_
    refine V_icmp_ge (tgt := 78) dX0_multiplyAll_20 rfl (fun _ => ?_) (fun h => absurd h (by decide))
    exact V_ret ⟨rfl, dX0_multiplyAll_78⟩ ⟨Nat.le_of_ble_eq_true rfl, Nat.le_of_ble_eq_true rfl⟩ ⟨rfl, rfl, ho, fun j hj => (hr j hj).1, rfl⟩
  | succ n ih =>
    intro i I1 hi ho hr
    have hbi := hb.2.2 i (by omega)
    have hil : i * less ≤ 4 * 3 := Nat.mul_le_mul (by omega) hl3
    refine V_iload dX0_multiplyAll_17 rfl ?_
    refine V_iconst (v := nI 5) dX0_multiplyAll_19 rfl ?_
    refine V_icmp_geN (tgt := 78) dX0_multiplyAll_20 rfl (by omega) (by omega) (fun h => absurd h (by omega)) (fun _ => ?_)
    refine V_iconst (v := nI 0) dX0_multiplyAll_23 rfl ?_
    refine V_iload_n dX0_multiplyAll_24 rfl ?_
    refine V_iload dX0_multiplyAll_25 rfl ?_
    refine V_iload_n dX0_multiplyAll_27 rfl ?_
    refine V_imulN dX0_multiplyAll_28 ?_
    refine V_isub dX0_multiplyAll_29 ?_
    refine V_mmax dX0_multiplyAll_30 jX0_48 (by decide) (Nat.le_of_ble_eq_true rfl) ⟨Nat.le_of_ble_eq_true rfl, Nat.le_of_ble_eq_true rfl⟩ (V_eqI (y := nI (at6 - i * less)) (mx_sub (by omega) (by omega)) ?_)
    refine V_istore (ls' := [(5, .int (nI (at6 - i * less))), (0, .ref 44), (1, .ref a), (2, .int (nI at6)), (3, .int (nI less)), (4, .int (nI i))]) dX0_multiplyAll_33 (by decide) rfl ?_
    refine V_aload_n dX0_multiplyAll_35 rfl ?_
    refine V_iload dX0_multiplyAll_36 rfl ?_
    refine V_aload_n dX0_multiplyAll_38 rfl ?_
    refine V_getR (b := 46) dX0_multiplyAll_39 fX0_15 ⟨Nat.le_of_ble_eq_true rfl, Nat.le_of_ble_eq_true rfl⟩ rfl rfl rfl ?_
    refine V_iload dX0_multiplyAll_42 rfl ?_
    refine V_ialdN (k := i) dX0_multiplyAll_44 ⟨Nat.le_of_ble_eq_true rfl, Nat.le_of_ble_eq_true rfl⟩ rfl (by decide) (by omega) ?_
    refine V_eqI (y := nI (h i)) ((congrFun (ho 46 (by omega)) i).trans (hb.2.2 i (by omega)).2.1) ?_
    refine V_callS (As := [.ref a, .int (nI (at6 - i * less)), .int (nI (h i))]) (st := []) dX0_multiplyAll_45 kX0_multiply lX0_54 (by decide) rfl rfl (Nat.le_of_ble_eq_true rfl) ⟨Nat.le_of_ble_eq_true rfl, Nat.le_of_ble_eq_true rfl⟩ (c_multiply ha hk (by omega) (by omega) hr) ?_
    rintro r sh' I' J' ⟨rfl, rfl, ho1, hr1, rfl⟩
    have ho2 : ∀ b, b ≠ a → I' b = I b := fun b hb => (ho1 b hb).trans (ho b hb)
    have hr2 : ∀ j, j < 7 → I' a j = nI (mrow (at6 - i * less) (h i) (pRow at6 less s h i) j) ∧ mrow (at6 - i * less) (h i) (pRow at6 less s h i) j < 1000000000 := fun j hj => ⟨hr1 j hj, mrow_lt _ _ (pRow_lt i) j hj⟩
    refine V_aload_n dX0_multiplyAll_48 rfl ?_
    refine V_bipush (v := nI 10) dX0_multiplyAll_49 rfl ?_
    refine V_iload dX0_multiplyAll_51 rfl ?_
    refine V_isubN dX0_multiplyAll_53 (by omega) ?_
    refine V_aload_n dX0_multiplyAll_54 rfl ?_
    refine V_getR (b := 45) dX0_multiplyAll_55 fX0_9 ⟨Nat.le_of_ble_eq_true rfl, Nat.le_of_ble_eq_true rfl⟩ rfl rfl rfl ?_
    refine V_iload dX0_multiplyAll_58 rfl ?_
    refine V_ialdN (k := i) dX0_multiplyAll_60 ⟨Nat.le_of_ble_eq_true rfl, Nat.le_of_ble_eq_true rfl⟩ rfl (by decide) (by omega) ?_
    refine V_eqI (y := nI (s i)) ((congrFun (ho2 45 (by omega)) i).trans (hb.2.2 i (by omega)).1) ?_
    refine V_aload_n dX0_multiplyAll_61 rfl ?_
    refine V_getR (b := 46) dX0_multiplyAll_62 fX0_15 ⟨Nat.le_of_ble_eq_true rfl, Nat.le_of_ble_eq_true rfl⟩ rfl rfl rfl ?_
    refine V_iload dX0_multiplyAll_65 rfl ?_
    refine V_ialdN (k := i) dX0_multiplyAll_67 ⟨Nat.le_of_ble_eq_true rfl, Nat.le_of_ble_eq_true rfl⟩ rfl (by decide) (by omega) ?_
    refine V_eqI (y := nI (h i)) ((congrFun (ho2 46 (by omega)) i).trans (hb.2.2 i (by omega)).2.1) ?_
    refine V_isubN dX0_multiplyAll_68 (by omega) ?_
    refine V_callS (As := [.ref a, .int (nI (10 - (at6 - i * less))), .int (nI ((s i) - (h i)))]) (st := []) dX0_multiplyAll_69 kX0_multiply lX0_54 (by decide) rfl rfl (Nat.le_of_ble_eq_true rfl) ⟨Nat.le_of_ble_eq_true rfl, Nat.le_of_ble_eq_true rfl⟩ (c_multiply ha hk (by omega) (by omega) hr2) ?_
    rintro r sh' I' J' ⟨rfl, rfl, ho3, hr3, rfl⟩
    refine V_iincN (ls' := [(4, .int (nI (i + 1))), (5, .int (nI (at6 - i * less))), (0, .ref 44), (1, .ref a), (2, .int (nI at6)), (3, .int (nI less))]) (n := 1) dX0_multiplyAll_72 rfl rfl (by decide) (by decide) rfl ?_
    refine V_goto (tgt := 17) dX0_multiplyAll_75 rfl ?_
    refine V_sub2 (ls' := [(0, .ref 44), (1, .ref a), (2, .int (nI at6)), (3, .int (nI less)), (4, .int (nI (i + 1)))]) (List.forall_mem_cons.mpr ⟨rfl, List.forall_mem_cons.mpr ⟨rfl, List.forall_mem_cons.mpr ⟨rfl, List.forall_mem_cons.mpr ⟨rfl, List.forall_mem_cons.mpr ⟨rfl, fun _ h => absurd h List.not_mem_nil⟩⟩⟩⟩⟩) ?_
    exact ih (i + 1) _ (by omega) (fun b hb => (ho3 b hb).trans (ho2 b hb)) (fun j hj => ⟨hr3 j hj, pRow_lt (i + 1) j hj⟩)

set_option maxRecDepth 100000 in
set_option maxHeartbeats 4000000 in
theorem c_multiplyAll {G : zG} {I : zI} {J : zJ} {s h : Nat → Nat} (hb : bkX I 44 s h) {at6 less a : Nat} (h10 : at6 ≤ 10) (hl3 : less ≤ 3) (haa : a = 47 ∨ a = 48) : zK G mX0_multiplyAll 1 [.ref 44, .ref a, .int (nI at6), .int (nI less)] zsh I J (zA2 (fun I' J' => (∀ b, b ≠ a → I' b = I b) ∧ (∀ j, j < 7 → I' a j = nI (pRow at6 less s h 5 j)) ∧ J = J')) := by
  have ha : zin zsh a := by rcases haa with rfl | rfl <;> exact ⟨Nat.le_of_ble_eq_true rfl, Nat.le_of_ble_eq_true rfl⟩
  have hk : zsh.2.1 a = (1, 7) := by rcases haa with rfl | rfl <;> rfl
  refine zK_of kX0_multiplyAll.2.2.2.2.1 (Nat.le_of_ble_eq_true rfl) ?_
  show V G mX0_multiplyAll 1 _ 0 [(0, .ref 44), (1, .ref a), (2, .int (nI at6)), (3, .int (nI less))] [] (0, 0) zsh I J
  refine V_aload_n dX0_multiplyAll_0 rfl ?_
  refine V_iconst (v := nI 0) dX0_multiplyAll_1 rfl ?_
  refine V_callS (As := [.ref a, .int (nI 0)]) (st := []) dX0_multiplyAll_2 kJ7_fill_53178 lX0_42 (by decide) rfl rfl (Nat.le_of_ble_eq_true rfl) ⟨Nat.le_of_ble_eq_true rfl, Nat.le_of_ble_eq_true rfl⟩ (c_fillI ha hk (by decide)) ?_
  rintro r sh' I' J' ⟨rfl, rfl, hfi, rfl⟩
  refine V_aload_n dX0_multiplyAll_5 rfl ?_
  refine V_alen (v := nI 7) dX0_multiplyAll_6 ha hk (by decide) rfl ?_
  refine V_if_le (tgt := 14) dX0_multiplyAll_7 rfl (fun h => absurd h (by decide)) (fun _ => ?_)
  refine V_aload_n dX0_multiplyAll_10 rfl ?_
  refine V_iconst (v := nI 0) dX0_multiplyAll_11 rfl ?_
  refine V_iconst (v := nI 1) dX0_multiplyAll_12 rfl ?_
  refine V_iastN (k := 0) dX0_multiplyAll_13 ha hk (by decide) (by omega) ?_
  refine V_iconst (v := nI 0) dX0_multiplyAll_14 rfl ?_
  refine V_istore (ls' := [(4, .int (nI 0)), (0, .ref 44), (1, .ref a), (2, .int (nI at6)), (3, .int (nI less))]) dX0_multiplyAll_15 (by decide) rfl ?_
  refine V_sub2 (ls' := [(0, .ref 44), (1, .ref a), (2, .int (nI at6)), (3, .int (nI less)), (4, .int (nI 0))]) (List.forall_mem_cons.mpr ⟨rfl, List.forall_mem_cons.mpr ⟨rfl, List.forall_mem_cons.mpr ⟨rfl, List.forall_mem_cons.mpr ⟨rfl, List.forall_mem_cons.mpr ⟨rfl, fun _ h => absurd h List.not_mem_nil⟩⟩⟩⟩⟩) ?_
  subst hfi
  refine lp_mulA hb h10 hl3 haa 5 0 _ rfl (fun b hb => (zup_n hb).trans (zup_n hb)) (fun j hj => ⟨?_, pRow_lt 0 j hj⟩)
  rw [zwr_at, zup_s]
  unfold pRow zflI
  by_cases e : j = 0
  · subst e; rw [if_pos ⟨rfl, rfl⟩, if_pos rfl]
  · rw [if_neg (fun h => e h.2), if_pos hj, if_neg e]

set_option maxRecDepth 100000 in
set_option maxHeartbeats 4000000 in
theorem c_better {G : zG} {I : zI} {J : zJ} {s h : Nat → Nat} (hb : bkX I 44 s h) {a1 l1 a2 l2 : Nat} (h1 : a1 ≤ 10) (h2 : l1 ≤ 3) (h3 : a2 ≤ 10) (h4 : l2 ≤ 3) : zK G mX0_better 2 [.ref 44, .int (nI a1), .int (nI l1), .int (nI a2), .int (nI l2)] zsh I J (zP (fun r I' J' => r = some (.int (nI (cmpS (pRow a1 l1 s h 5) (pRow a2 l2 s h 5) 7))) ∧ (∀ b, b ≠ 47 → b ≠ 48 → I' b = I b) ∧ J = J')) := by
  refine zK_of kX0_better.2.2.2.2.1 (Nat.le_of_ble_eq_true rfl) ?_
  show V G mX0_better 2 _ 0 [(0, .ref 44), (1, .int (nI a1)), (2, .int (nI l1)), (3, .int (nI a2)), (4, .int (nI l2))] [] (0, 0) zsh I J
  refine V_aload_n dX0_better_0 rfl ?_
  refine V_aload_n dX0_better_1 rfl ?_
  refine V_getR (b := 47) dX0_better_2 fX0_18 ⟨Nat.le_of_ble_eq_true rfl, Nat.le_of_ble_eq_true rfl⟩ rfl rfl rfl ?_
  refine V_iload_n dX0_better_5 rfl ?_
  refine V_iload_n dX0_better_6 rfl ?_
  refine V_callV (As := [.ref 47, .int (nI a1), .int (nI l1)]) (st := []) (a := 44) dX0_better_7 kX0_multiplyAll lX0_38 (by decide) rfl rfl (Nat.le_of_ble_eq_true rfl) ⟨Nat.le_of_ble_eq_true rfl, Nat.le_of_ble_eq_true rfl⟩ ⟨Nat.le_of_ble_eq_true rfl, Nat.le_of_ble_eq_true rfl⟩ rfl ⟨rfl, by decide⟩ (c_multiplyAll hb h1 h2 (Or.inl rfl)) ?_
  rintro r sh' I' J' ⟨rfl, rfl, ho1, hr1, rfl⟩
  have hb2 : bkX I' 44 s h := by
    unfold bkX
    rw [ho1 44 (by decide), ho1 (44 + 1) (by decide), ho1 (44 + 2) (by decide)]
    exact hb
  have hr1' : ∀ Z : zI, Z = I' → ∀ j, j < 7 → Z 47 j = nI (pRow a1 l1 s h 5 j) := fun Z hz => by rw [hz]; exact hr1
  have ho1' : ∀ Z : zI, Z = I' → ∀ b, b ≠ 47 → Z b = I b := fun Z hz => by rw [hz]; exact ho1
  obtain ⟨gr, go⟩ : (∀ j, j < 7 → _ ) ∧ (∀ b, b ≠ 47 → _) := ⟨hr1' _ rfl, ho1' _ rfl⟩
  refine V_aload_n dX0_better_10 rfl ?_
  refine V_aload_n dX0_better_11 rfl ?_
  refine V_getR (b := 48) dX0_better_12 fX0_21 ⟨Nat.le_of_ble_eq_true rfl, Nat.le_of_ble_eq_true rfl⟩ rfl rfl rfl ?_
  refine V_iload_n dX0_better_15 rfl ?_
  refine V_iload dX0_better_16 rfl ?_
  refine V_callV (As := [.ref 48, .int (nI a2), .int (nI l2)]) (st := []) (a := 44) dX0_better_18 kX0_multiplyAll lX0_38 (by decide) rfl rfl (Nat.le_of_ble_eq_true rfl) ⟨Nat.le_of_ble_eq_true rfl, Nat.le_of_ble_eq_true rfl⟩ ⟨Nat.le_of_ble_eq_true rfl, Nat.le_of_ble_eq_true rfl⟩ rfl ⟨rfl, by decide⟩ (c_multiplyAll hb2 h3 h4 (Or.inr rfl)) ?_
  rintro r sh' I' J' ⟨rfl, rfl, ho2, hr2, rfl⟩
  have g1 : ∀ j, j < 7 → I' 47 j = nI (pRow a1 l1 s h 5 j) := fun j hj => (congrFun (ho2 47 (by decide)) j).trans (gr j hj)
  have D0 := pRow_lt (at6 := a1) (less := l1) (s := s) (h := h) 5 0 (by decide)
  have D1 := pRow_lt (at6 := a1) (less := l1) (s := s) (h := h) 5 1 (by decide)
  have D2 := pRow_lt (at6 := a1) (less := l1) (s := s) (h := h) 5 2 (by decide)
  have D3 := pRow_lt (at6 := a1) (less := l1) (s := s) (h := h) 5 3 (by decide)
  have D4 := pRow_lt (at6 := a1) (less := l1) (s := s) (h := h) 5 4 (by decide)
  have D5 := pRow_lt (at6 := a1) (less := l1) (s := s) (h := h) 5 5 (by decide)
  have D6 := pRow_lt (at6 := a1) (less := l1) (s := s) (h := h) 5 6 (by decide)
  have E0 := pRow_lt (at6 := a2) (less := l2) (s := s) (h := h) 5 0 (by decide)
  have E1 := pRow_lt (at6 := a2) (less := l2) (s := s) (h := h) 5 1 (by decide)
  have E2 := pRow_lt (at6 := a2) (less := l2) (s := s) (h := h) 5 2 (by decide)
  have E3 := pRow_lt (at6 := a2) (less := l2) (s := s) (h := h) 5 3 (by decide)
  have E4 := pRow_lt (at6 := a2) (less := l2) (s := s) (h := h) 5 4 (by decide)
  have E5 := pRow_lt (at6 := a2) (less := l2) (s := s) (h := h) 5 5 (by decide)
  have E6 := pRow_lt (at6 := a2) (less := l2) (s := s) (h := h) 5 6 (by decide)
  refine V_bipush (v := nI 6) dX0_better_21 rfl ?_
  refine V_istore (ls' := [(5, .int (nI 6)), (0, .ref 44), (1, .int (nI a1)), (2, .int (nI l1)), (3, .int (nI a2)), (4, .int (nI l2))]) dX0_better_23 (by decide) rfl ?_
  refine V_iload dX0_better_25 rfl ?_
  refine V_if_lt (tgt := 76) dX0_better_27 rfl (fun h => absurd h (by decide)) (fun _ => ?_)
  refine V_aload_n dX0_better_30 rfl ?_
  refine V_getR (b := 47) dX0_better_31 fX0_18 ⟨Nat.le_of_ble_eq_true rfl, Nat.le_of_ble_eq_true rfl⟩ rfl rfl rfl ?_
  refine V_iload dX0_better_34 rfl ?_
  refine V_ialdN (k := 6) dX0_better_36 ⟨Nat.le_of_ble_eq_true rfl, Nat.le_of_ble_eq_true rfl⟩ rfl (by decide) (by omega) ?_
  refine V_eqI (y := nI (pRow a1 l1 s h 5 6)) (g1 6 (by decide)) ?_
  refine V_aload_n dX0_better_37 rfl ?_
  refine V_getR (b := 48) dX0_better_38 fX0_21 ⟨Nat.le_of_ble_eq_true rfl, Nat.le_of_ble_eq_true rfl⟩ rfl rfl rfl ?_
  refine V_iload dX0_better_41 rfl ?_
  refine V_ialdN (k := 6) dX0_better_43 ⟨Nat.le_of_ble_eq_true rfl, Nat.le_of_ble_eq_true rfl⟩ rfl (by decide) (by omega) ?_
  refine V_eqI (y := nI (pRow a2 l2 s h 5 6)) (hr2 6 (by decide)) ?_
  refine V_icmp_eqN (tgt := 70) dX0_better_44 rfl (by omega) (by omega) (fun h44 => ?_) (fun h44 => ?_)
  · skip
    refine V_iinc (v := nI 5) (ls' := [(5, .int (nI 5)), (0, .ref 44), (1, .int (nI a1)), (2, .int (nI l1)), (3, .int (nI a2)), (4, .int (nI l2))]) dX0_better_70 rfl (by decide) (by decide) rfl ?_
    refine V_goto (tgt := 25) dX0_better_73 rfl ?_
    refine V_iload dX0_better_25 rfl ?_
    refine V_if_lt (tgt := 76) dX0_better_27 rfl (fun h => absurd h (by decide)) (fun _ => ?_)
    refine V_aload_n dX0_better_30 rfl ?_
    refine V_getR (b := 47) dX0_better_31 fX0_18 ⟨Nat.le_of_ble_eq_true rfl, Nat.le_of_ble_eq_true rfl⟩ rfl rfl rfl ?_
    refine V_iload dX0_better_34 rfl ?_
    refine V_ialdN (k := 5) dX0_better_36 ⟨Nat.le_of_ble_eq_true rfl, Nat.le_of_ble_eq_true rfl⟩ rfl (by decide) (by omega) ?_
    refine V_eqI (y := nI (pRow a1 l1 s h 5 5)) (g1 5 (by decide)) ?_
    refine V_aload_n dX0_better_37 rfl ?_
    refine V_getR (b := 48) dX0_better_38 fX0_21 ⟨Nat.le_of_ble_eq_true rfl, Nat.le_of_ble_eq_true rfl⟩ rfl rfl rfl ?_
    refine V_iload dX0_better_41 rfl ?_
    refine V_ialdN (k := 5) dX0_better_43 ⟨Nat.le_of_ble_eq_true rfl, Nat.le_of_ble_eq_true rfl⟩ rfl (by decide) (by omega) ?_
    refine V_eqI (y := nI (pRow a2 l2 s h 5 5)) (hr2 5 (by decide)) ?_
    refine V_icmp_eqN (tgt := 70) dX0_better_44 rfl (by omega) (by omega) (fun h44 => ?_) (fun h44 => ?_)
    · skip
      refine V_iinc (v := nI 4) (ls' := [(5, .int (nI 4)), (0, .ref 44), (1, .int (nI a1)), (2, .int (nI l1)), (3, .int (nI a2)), (4, .int (nI l2))]) dX0_better_70 rfl (by decide) (by decide) rfl ?_
      refine V_goto (tgt := 25) dX0_better_73 rfl ?_
      refine V_iload dX0_better_25 rfl ?_
      refine V_if_lt (tgt := 76) dX0_better_27 rfl (fun h => absurd h (by decide)) (fun _ => ?_)
      refine V_aload_n dX0_better_30 rfl ?_
      refine V_getR (b := 47) dX0_better_31 fX0_18 ⟨Nat.le_of_ble_eq_true rfl, Nat.le_of_ble_eq_true rfl⟩ rfl rfl rfl ?_
      refine V_iload dX0_better_34 rfl ?_
      refine V_ialdN (k := 4) dX0_better_36 ⟨Nat.le_of_ble_eq_true rfl, Nat.le_of_ble_eq_true rfl⟩ rfl (by decide) (by omega) ?_
      refine V_eqI (y := nI (pRow a1 l1 s h 5 4)) (g1 4 (by decide)) ?_
      refine V_aload_n dX0_better_37 rfl ?_
      refine V_getR (b := 48) dX0_better_38 fX0_21 ⟨Nat.le_of_ble_eq_true rfl, Nat.le_of_ble_eq_true rfl⟩ rfl rfl rfl ?_
      refine V_iload dX0_better_41 rfl ?_
      refine V_ialdN (k := 4) dX0_better_43 ⟨Nat.le_of_ble_eq_true rfl, Nat.le_of_ble_eq_true rfl⟩ rfl (by decide) (by omega) ?_
      refine V_eqI (y := nI (pRow a2 l2 s h 5 4)) (hr2 4 (by decide)) ?_
      refine V_icmp_eqN (tgt := 70) dX0_better_44 rfl (by omega) (by omega) (fun h44 => ?_) (fun h44 => ?_)
      · skip
        refine V_iinc (v := nI 3) (ls' := [(5, .int (nI 3)), (0, .ref 44), (1, .int (nI a1)), (2, .int (nI l1)), (3, .int (nI a2)), (4, .int (nI l2))]) dX0_better_70 rfl (by decide) (by decide) rfl ?_
        refine V_goto (tgt := 25) dX0_better_73 rfl ?_
        refine V_iload dX0_better_25 rfl ?_
        refine V_if_lt (tgt := 76) dX0_better_27 rfl (fun h => absurd h (by decide)) (fun _ => ?_)
        refine V_aload_n dX0_better_30 rfl ?_
        refine V_getR (b := 47) dX0_better_31 fX0_18 ⟨Nat.le_of_ble_eq_true rfl, Nat.le_of_ble_eq_true rfl⟩ rfl rfl rfl ?_
        refine V_iload dX0_better_34 rfl ?_
        refine V_ialdN (k := 3) dX0_better_36 ⟨Nat.le_of_ble_eq_true rfl, Nat.le_of_ble_eq_true rfl⟩ rfl (by decide) (by omega) ?_
        refine V_eqI (y := nI (pRow a1 l1 s h 5 3)) (g1 3 (by decide)) ?_
        refine V_aload_n dX0_better_37 rfl ?_
        refine V_getR (b := 48) dX0_better_38 fX0_21 ⟨Nat.le_of_ble_eq_true rfl, Nat.le_of_ble_eq_true rfl⟩ rfl rfl rfl ?_
        refine V_iload dX0_better_41 rfl ?_
        refine V_ialdN (k := 3) dX0_better_43 ⟨Nat.le_of_ble_eq_true rfl, Nat.le_of_ble_eq_true rfl⟩ rfl (by decide) (by omega) ?_
        refine V_eqI (y := nI (pRow a2 l2 s h 5 3)) (hr2 3 (by decide)) ?_
        refine V_icmp_eqN (tgt := 70) dX0_better_44 rfl (by omega) (by omega) (fun h44 => ?_) (fun h44 => ?_)
        · skip
          refine V_iinc (v := nI 2) (ls' := [(5, .int (nI 2)), (0, .ref 44), (1, .int (nI a1)), (2, .int (nI l1)), (3, .int (nI a2)), (4, .int (nI l2))]) dX0_better_70 rfl (by decide) (by decide) rfl ?_
          refine V_goto (tgt := 25) dX0_better_73 rfl ?_
          refine V_iload dX0_better_25 rfl ?_
          refine V_if_lt (tgt := 76) dX0_better_27 rfl (fun h => absurd h (by decide)) (fun _ => ?_)
          refine V_aload_n dX0_better_30 rfl ?_
          refine V_getR (b := 47) dX0_better_31 fX0_18 ⟨Nat.le_of_ble_eq_true rfl, Nat.le_of_ble_eq_true rfl⟩ rfl rfl rfl ?_
          refine V_iload dX0_better_34 rfl ?_
          refine V_ialdN (k := 2) dX0_better_36 ⟨Nat.le_of_ble_eq_true rfl, Nat.le_of_ble_eq_true rfl⟩ rfl (by decide) (by omega) ?_
          refine V_eqI (y := nI (pRow a1 l1 s h 5 2)) (g1 2 (by decide)) ?_
          refine V_aload_n dX0_better_37 rfl ?_
          refine V_getR (b := 48) dX0_better_38 fX0_21 ⟨Nat.le_of_ble_eq_true rfl, Nat.le_of_ble_eq_true rfl⟩ rfl rfl rfl ?_
          refine V_iload dX0_better_41 rfl ?_
          refine V_ialdN (k := 2) dX0_better_43 ⟨Nat.le_of_ble_eq_true rfl, Nat.le_of_ble_eq_true rfl⟩ rfl (by decide) (by omega) ?_
          refine V_eqI (y := nI (pRow a2 l2 s h 5 2)) (hr2 2 (by decide)) ?_
          refine V_icmp_eqN (tgt := 70) dX0_better_44 rfl (by omega) (by omega) (fun h44 => ?_) (fun h44 => ?_)
          · skip
            refine V_iinc (v := nI 1) (ls' := [(5, .int (nI 1)), (0, .ref 44), (1, .int (nI a1)), (2, .int (nI l1)), (3, .int (nI a2)), (4, .int (nI l2))]) dX0_better_70 rfl (by decide) (by decide) rfl ?_
            refine V_goto (tgt := 25) dX0_better_73 rfl ?_
            refine V_iload dX0_better_25 rfl ?_
            refine V_if_lt (tgt := 76) dX0_better_27 rfl (fun h => absurd h (by decide)) (fun _ => ?_)
            refine V_aload_n dX0_better_30 rfl ?_
            refine V_getR (b := 47) dX0_better_31 fX0_18 ⟨Nat.le_of_ble_eq_true rfl, Nat.le_of_ble_eq_true rfl⟩ rfl rfl rfl ?_
            refine V_iload dX0_better_34 rfl ?_
            refine V_ialdN (k := 1) dX0_better_36 ⟨Nat.le_of_ble_eq_true rfl, Nat.le_of_ble_eq_true rfl⟩ rfl (by decide) (by omega) ?_
            refine V_eqI (y := nI (pRow a1 l1 s h 5 1)) (g1 1 (by decide)) ?_
            refine V_aload_n dX0_better_37 rfl ?_
            refine V_getR (b := 48) dX0_better_38 fX0_21 ⟨Nat.le_of_ble_eq_true rfl, Nat.le_of_ble_eq_true rfl⟩ rfl rfl rfl ?_
            refine V_iload dX0_better_41 rfl ?_
            refine V_ialdN (k := 1) dX0_better_43 ⟨Nat.le_of_ble_eq_true rfl, Nat.le_of_ble_eq_true rfl⟩ rfl (by decide) (by omega) ?_
            refine V_eqI (y := nI (pRow a2 l2 s h 5 1)) (hr2 1 (by decide)) ?_
            refine V_icmp_eqN (tgt := 70) dX0_better_44 rfl (by omega) (by omega) (fun h44 => ?_) (fun h44 => ?_)
            · skip
              refine V_iinc (v := nI 0) (ls' := [(5, .int (nI 0)), (0, .ref 44), (1, .int (nI a1)), (2, .int (nI l1)), (3, .int (nI a2)), (4, .int (nI l2))]) dX0_better_70 rfl (by decide) (by decide) rfl ?_
              refine V_goto (tgt := 25) dX0_better_73 rfl ?_
              refine V_iload dX0_better_25 rfl ?_
              refine V_if_lt (tgt := 76) dX0_better_27 rfl (fun h => absurd h (by decide)) (fun _ => ?_)
              refine V_aload_n dX0_better_30 rfl ?_
              refine V_getR (b := 47) dX0_better_31 fX0_18 ⟨Nat.le_of_ble_eq_true rfl, Nat.le_of_ble_eq_true rfl⟩ rfl rfl rfl ?_
              refine V_iload dX0_better_34 rfl ?_
              refine V_ialdN (k := 0) dX0_better_36 ⟨Nat.le_of_ble_eq_true rfl, Nat.le_of_ble_eq_true rfl⟩ rfl (by decide) (by omega) ?_
              refine V_eqI (y := nI (pRow a1 l1 s h 5 0)) (g1 0 (by decide)) ?_
              refine V_aload_n dX0_better_37 rfl ?_
              refine V_getR (b := 48) dX0_better_38 fX0_21 ⟨Nat.le_of_ble_eq_true rfl, Nat.le_of_ble_eq_true rfl⟩ rfl rfl rfl ?_
              refine V_iload dX0_better_41 rfl ?_
              refine V_ialdN (k := 0) dX0_better_43 ⟨Nat.le_of_ble_eq_true rfl, Nat.le_of_ble_eq_true rfl⟩ rfl (by decide) (by omega) ?_
              refine V_eqI (y := nI (pRow a2 l2 s h 5 0)) (hr2 0 (by decide)) ?_
              refine V_icmp_eqN (tgt := 70) dX0_better_44 rfl (by omega) (by omega) (fun h44 => ?_) (fun h44 => ?_)
              · skip
                refine V_iinc (v := (-1)) (ls' := [(5, .int (-1)), (0, .ref 44), (1, .int (nI a1)), (2, .int (nI l1)), (3, .int (nI a2)), (4, .int (nI l2))]) dX0_better_70 rfl (by decide) (by decide) rfl ?_
                refine V_goto (tgt := 25) dX0_better_73 rfl ?_
                refine V_iload dX0_better_25 rfl ?_
                refine V_if_lt (tgt := 76) dX0_better_27 rfl (fun _ => ?_) (fun h => absurd h (by decide))
                refine V_iconst (v := nI 0) dX0_better_76 rfl ?_
                exact V_iret ⟨Or.inl rfl, dX0_better_77⟩ ⟨Nat.le_of_ble_eq_true rfl, Nat.le_of_ble_eq_true rfl⟩ ⟨rfl, congrArg (fun z => some (Value.int (nI z))) (by simp only [cmpS]; (repeat' split) <;> omega), fun b b1 b2 => (ho2 b b2).trans (go b b1), rfl⟩
              · skip
                refine V_aload_n dX0_better_47 rfl ?_
                refine V_getR (b := 47) dX0_better_48 fX0_18 ⟨Nat.le_of_ble_eq_true rfl, Nat.le_of_ble_eq_true rfl⟩ rfl rfl rfl ?_
                refine V_iload dX0_better_51 rfl ?_
                refine V_ialdN (k := 0) dX0_better_53 ⟨Nat.le_of_ble_eq_true rfl, Nat.le_of_ble_eq_true rfl⟩ rfl (by decide) (by omega) ?_
                refine V_eqI (y := nI (pRow a1 l1 s h 5 0)) (g1 0 (by decide)) ?_
                refine V_aload_n dX0_better_54 rfl ?_
                refine V_getR (b := 48) dX0_better_55 fX0_21 ⟨Nat.le_of_ble_eq_true rfl, Nat.le_of_ble_eq_true rfl⟩ rfl rfl rfl ?_
                refine V_iload dX0_better_58 rfl ?_
                refine V_ialdN (k := 0) dX0_better_60 ⟨Nat.le_of_ble_eq_true rfl, Nat.le_of_ble_eq_true rfl⟩ rfl (by decide) (by omega) ?_
                refine V_eqI (y := nI (pRow a2 l2 s h 5 0)) (hr2 0 (by decide)) ?_
                refine V_icmp_leN (tgt := 68) dX0_better_61 rfl (by omega) (by omega) (fun h61 => ?_) (fun h61 => ?_)
                · skip
                  refine V_iconst (v := nI 2) dX0_better_68 rfl ?_
                  exact V_iret ⟨Or.inl rfl, dX0_better_69⟩ ⟨Nat.le_of_ble_eq_true rfl, Nat.le_of_ble_eq_true rfl⟩ ⟨rfl, congrArg (fun z => some (Value.int (nI z))) (by simp only [cmpS]; (repeat' split) <;> omega), fun b b1 b2 => (ho2 b b2).trans (go b b1), rfl⟩
                · skip
                  refine V_iconst (v := nI 1) dX0_better_64 rfl ?_
                  refine V_goto (tgt := 69) dX0_better_65 rfl ?_
                  exact V_iret ⟨Or.inl rfl, dX0_better_69⟩ ⟨Nat.le_of_ble_eq_true rfl, Nat.le_of_ble_eq_true rfl⟩ ⟨rfl, congrArg (fun z => some (Value.int (nI z))) (by simp only [cmpS]; (repeat' split) <;> omega), fun b b1 b2 => (ho2 b b2).trans (go b b1), rfl⟩
            · skip
              refine V_aload_n dX0_better_47 rfl ?_
              refine V_getR (b := 47) dX0_better_48 fX0_18 ⟨Nat.le_of_ble_eq_true rfl, Nat.le_of_ble_eq_true rfl⟩ rfl rfl rfl ?_
              refine V_iload dX0_better_51 rfl ?_
              refine V_ialdN (k := 1) dX0_better_53 ⟨Nat.le_of_ble_eq_true rfl, Nat.le_of_ble_eq_true rfl⟩ rfl (by decide) (by omega) ?_
              refine V_eqI (y := nI (pRow a1 l1 s h 5 1)) (g1 1 (by decide)) ?_
              refine V_aload_n dX0_better_54 rfl ?_
              refine V_getR (b := 48) dX0_better_55 fX0_21 ⟨Nat.le_of_ble_eq_true rfl, Nat.le_of_ble_eq_true rfl⟩ rfl rfl rfl ?_
              refine V_iload dX0_better_58 rfl ?_
              refine V_ialdN (k := 1) dX0_better_60 ⟨Nat.le_of_ble_eq_true rfl, Nat.le_of_ble_eq_true rfl⟩ rfl (by decide) (by omega) ?_
              refine V_eqI (y := nI (pRow a2 l2 s h 5 1)) (hr2 1 (by decide)) ?_
              refine V_icmp_leN (tgt := 68) dX0_better_61 rfl (by omega) (by omega) (fun h61 => ?_) (fun h61 => ?_)
              · skip
                refine V_iconst (v := nI 2) dX0_better_68 rfl ?_
                exact V_iret ⟨Or.inl rfl, dX0_better_69⟩ ⟨Nat.le_of_ble_eq_true rfl, Nat.le_of_ble_eq_true rfl⟩ ⟨rfl, congrArg (fun z => some (Value.int (nI z))) (by simp only [cmpS]; (repeat' split) <;> omega), fun b b1 b2 => (ho2 b b2).trans (go b b1), rfl⟩
              · skip
                refine V_iconst (v := nI 1) dX0_better_64 rfl ?_
                refine V_goto (tgt := 69) dX0_better_65 rfl ?_
                exact V_iret ⟨Or.inl rfl, dX0_better_69⟩ ⟨Nat.le_of_ble_eq_true rfl, Nat.le_of_ble_eq_true rfl⟩ ⟨rfl, congrArg (fun z => some (Value.int (nI z))) (by simp only [cmpS]; (repeat' split) <;> omega), fun b b1 b2 => (ho2 b b2).trans (go b b1), rfl⟩
          · skip
            refine V_aload_n dX0_better_47 rfl ?_
            refine V_getR (b := 47) dX0_better_48 fX0_18 ⟨Nat.le_of_ble_eq_true rfl, Nat.le_of_ble_eq_true rfl⟩ rfl rfl rfl ?_
            refine V_iload dX0_better_51 rfl ?_
            refine V_ialdN (k := 2) dX0_better_53 ⟨Nat.le_of_ble_eq_true rfl, Nat.le_of_ble_eq_true rfl⟩ rfl (by decide) (by omega) ?_
            refine V_eqI (y := nI (pRow a1 l1 s h 5 2)) (g1 2 (by decide)) ?_
            refine V_aload_n dX0_better_54 rfl ?_
            refine V_getR (b := 48) dX0_better_55 fX0_21 ⟨Nat.le_of_ble_eq_true rfl, Nat.le_of_ble_eq_true rfl⟩ rfl rfl rfl ?_
            refine V_iload dX0_better_58 rfl ?_
            refine V_ialdN (k := 2) dX0_better_60 ⟨Nat.le_of_ble_eq_true rfl, Nat.le_of_ble_eq_true rfl⟩ rfl (by decide) (by omega) ?_
            refine V_eqI (y := nI (pRow a2 l2 s h 5 2)) (hr2 2 (by decide)) ?_
            refine V_icmp_leN (tgt := 68) dX0_better_61 rfl (by omega) (by omega) (fun h61 => ?_) (fun h61 => ?_)
            · skip
              refine V_iconst (v := nI 2) dX0_better_68 rfl ?_
              exact V_iret ⟨Or.inl rfl, dX0_better_69⟩ ⟨Nat.le_of_ble_eq_true rfl, Nat.le_of_ble_eq_true rfl⟩ ⟨rfl, congrArg (fun z => some (Value.int (nI z))) (by simp only [cmpS]; (repeat' split) <;> omega), fun b b1 b2 => (ho2 b b2).trans (go b b1), rfl⟩
            · skip
              refine V_iconst (v := nI 1) dX0_better_64 rfl ?_
              refine V_goto (tgt := 69) dX0_better_65 rfl ?_
              exact V_iret ⟨Or.inl rfl, dX0_better_69⟩ ⟨Nat.le_of_ble_eq_true rfl, Nat.le_of_ble_eq_true rfl⟩ ⟨rfl, congrArg (fun z => some (Value.int (nI z))) (by simp only [cmpS]; (repeat' split) <;> omega), fun b b1 b2 => (ho2 b b2).trans (go b b1), rfl⟩
        · skip
          refine V_aload_n dX0_better_47 rfl ?_
          refine V_getR (b := 47) dX0_better_48 fX0_18 ⟨Nat.le_of_ble_eq_true rfl, Nat.le_of_ble_eq_true rfl⟩ rfl rfl rfl ?_
          refine V_iload dX0_better_51 rfl ?_
          refine V_ialdN (k := 3) dX0_better_53 ⟨Nat.le_of_ble_eq_true rfl, Nat.le_of_ble_eq_true rfl⟩ rfl (by decide) (by omega) ?_
          refine V_eqI (y := nI (pRow a1 l1 s h 5 3)) (g1 3 (by decide)) ?_
          refine V_aload_n dX0_better_54 rfl ?_
          refine V_getR (b := 48) dX0_better_55 fX0_21 ⟨Nat.le_of_ble_eq_true rfl, Nat.le_of_ble_eq_true rfl⟩ rfl rfl rfl ?_
          refine V_iload dX0_better_58 rfl ?_
          refine V_ialdN (k := 3) dX0_better_60 ⟨Nat.le_of_ble_eq_true rfl, Nat.le_of_ble_eq_true rfl⟩ rfl (by decide) (by omega) ?_
          refine V_eqI (y := nI (pRow a2 l2 s h 5 3)) (hr2 3 (by decide)) ?_
          refine V_icmp_leN (tgt := 68) dX0_better_61 rfl (by omega) (by omega) (fun h61 => ?_) (fun h61 => ?_)
          · skip
            refine V_iconst (v := nI 2) dX0_better_68 rfl ?_
            exact V_iret ⟨Or.inl rfl, dX0_better_69⟩ ⟨Nat.le_of_ble_eq_true rfl, Nat.le_of_ble_eq_true rfl⟩ ⟨rfl, congrArg (fun z => some (Value.int (nI z))) (by simp only [cmpS]; (repeat' split) <;> omega), fun b b1 b2 => (ho2 b b2).trans (go b b1), rfl⟩
          · skip
            refine V_iconst (v := nI 1) dX0_better_64 rfl ?_
            refine V_goto (tgt := 69) dX0_better_65 rfl ?_
            exact V_iret ⟨Or.inl rfl, dX0_better_69⟩ ⟨Nat.le_of_ble_eq_true rfl, Nat.le_of_ble_eq_true rfl⟩ ⟨rfl, congrArg (fun z => some (Value.int (nI z))) (by simp only [cmpS]; (repeat' split) <;> omega), fun b b1 b2 => (ho2 b b2).trans (go b b1), rfl⟩
      · skip
        refine V_aload_n dX0_better_47 rfl ?_
        refine V_getR (b := 47) dX0_better_48 fX0_18 ⟨Nat.le_of_ble_eq_true rfl, Nat.le_of_ble_eq_true rfl⟩ rfl rfl rfl ?_
        refine V_iload dX0_better_51 rfl ?_
        refine V_ialdN (k := 4) dX0_better_53 ⟨Nat.le_of_ble_eq_true rfl, Nat.le_of_ble_eq_true rfl⟩ rfl (by decide) (by omega) ?_
        refine V_eqI (y := nI (pRow a1 l1 s h 5 4)) (g1 4 (by decide)) ?_
        refine V_aload_n dX0_better_54 rfl ?_
        refine V_getR (b := 48) dX0_better_55 fX0_21 ⟨Nat.le_of_ble_eq_true rfl, Nat.le_of_ble_eq_true rfl⟩ rfl rfl rfl ?_
        refine V_iload dX0_better_58 rfl ?_
        refine V_ialdN (k := 4) dX0_better_60 ⟨Nat.le_of_ble_eq_true rfl, Nat.le_of_ble_eq_true rfl⟩ rfl (by decide) (by omega) ?_
        refine V_eqI (y := nI (pRow a2 l2 s h 5 4)) (hr2 4 (by decide)) ?_
        refine V_icmp_leN (tgt := 68) dX0_better_61 rfl (by omega) (by omega) (fun h61 => ?_) (fun h61 => ?_)
        · skip
          refine V_iconst (v := nI 2) dX0_better_68 rfl ?_
          exact V_iret ⟨Or.inl rfl, dX0_better_69⟩ ⟨Nat.le_of_ble_eq_true rfl, Nat.le_of_ble_eq_true rfl⟩ ⟨rfl, congrArg (fun z => some (Value.int (nI z))) (by simp only [cmpS]; (repeat' split) <;> omega), fun b b1 b2 => (ho2 b b2).trans (go b b1), rfl⟩
        · skip
          refine V_iconst (v := nI 1) dX0_better_64 rfl ?_
          refine V_goto (tgt := 69) dX0_better_65 rfl ?_
          exact V_iret ⟨Or.inl rfl, dX0_better_69⟩ ⟨Nat.le_of_ble_eq_true rfl, Nat.le_of_ble_eq_true rfl⟩ ⟨rfl, congrArg (fun z => some (Value.int (nI z))) (by simp only [cmpS]; (repeat' split) <;> omega), fun b b1 b2 => (ho2 b b2).trans (go b b1), rfl⟩
    · skip
      refine V_aload_n dX0_better_47 rfl ?_
      refine V_getR (b := 47) dX0_better_48 fX0_18 ⟨Nat.le_of_ble_eq_true rfl, Nat.le_of_ble_eq_true rfl⟩ rfl rfl rfl ?_
      refine V_iload dX0_better_51 rfl ?_
      refine V_ialdN (k := 5) dX0_better_53 ⟨Nat.le_of_ble_eq_true rfl, Nat.le_of_ble_eq_true rfl⟩ rfl (by decide) (by omega) ?_
      refine V_eqI (y := nI (pRow a1 l1 s h 5 5)) (g1 5 (by decide)) ?_
      refine V_aload_n dX0_better_54 rfl ?_
      refine V_getR (b := 48) dX0_better_55 fX0_21 ⟨Nat.le_of_ble_eq_true rfl, Nat.le_of_ble_eq_true rfl⟩ rfl rfl rfl ?_
      refine V_iload dX0_better_58 rfl ?_
      refine V_ialdN (k := 5) dX0_better_60 ⟨Nat.le_of_ble_eq_true rfl, Nat.le_of_ble_eq_true rfl⟩ rfl (by decide) (by omega) ?_
      refine V_eqI (y := nI (pRow a2 l2 s h 5 5)) (hr2 5 (by decide)) ?_
      refine V_icmp_leN (tgt := 68) dX0_better_61 rfl (by omega) (by omega) (fun h61 => ?_) (fun h61 => ?_)
      · skip
        refine V_iconst (v := nI 2) dX0_better_68 rfl ?_
        exact V_iret ⟨Or.inl rfl, dX0_better_69⟩ ⟨Nat.le_of_ble_eq_true rfl, Nat.le_of_ble_eq_true rfl⟩ ⟨rfl, congrArg (fun z => some (Value.int (nI z))) (by simp only [cmpS]; (repeat' split) <;> omega), fun b b1 b2 => (ho2 b b2).trans (go b b1), rfl⟩
      · skip
        refine V_iconst (v := nI 1) dX0_better_64 rfl ?_
        refine V_goto (tgt := 69) dX0_better_65 rfl ?_
        exact V_iret ⟨Or.inl rfl, dX0_better_69⟩ ⟨Nat.le_of_ble_eq_true rfl, Nat.le_of_ble_eq_true rfl⟩ ⟨rfl, congrArg (fun z => some (Value.int (nI z))) (by simp only [cmpS]; (repeat' split) <;> omega), fun b b1 b2 => (ho2 b b2).trans (go b b1), rfl⟩
  · skip
    refine V_aload_n dX0_better_47 rfl ?_
    refine V_getR (b := 47) dX0_better_48 fX0_18 ⟨Nat.le_of_ble_eq_true rfl, Nat.le_of_ble_eq_true rfl⟩ rfl rfl rfl ?_
    refine V_iload dX0_better_51 rfl ?_
    refine V_ialdN (k := 6) dX0_better_53 ⟨Nat.le_of_ble_eq_true rfl, Nat.le_of_ble_eq_true rfl⟩ rfl (by decide) (by omega) ?_
    refine V_eqI (y := nI (pRow a1 l1 s h 5 6)) (g1 6 (by decide)) ?_
    refine V_aload_n dX0_better_54 rfl ?_
    refine V_getR (b := 48) dX0_better_55 fX0_21 ⟨Nat.le_of_ble_eq_true rfl, Nat.le_of_ble_eq_true rfl⟩ rfl rfl rfl ?_
    refine V_iload dX0_better_58 rfl ?_
    refine V_ialdN (k := 6) dX0_better_60 ⟨Nat.le_of_ble_eq_true rfl, Nat.le_of_ble_eq_true rfl⟩ rfl (by decide) (by omega) ?_
    refine V_eqI (y := nI (pRow a2 l2 s h 5 6)) (hr2 6 (by decide)) ?_
    refine V_icmp_leN (tgt := 68) dX0_better_61 rfl (by omega) (by omega) (fun h61 => ?_) (fun h61 => ?_)
    · skip
      refine V_iconst (v := nI 2) dX0_better_68 rfl ?_
      exact V_iret ⟨Or.inl rfl, dX0_better_69⟩ ⟨Nat.le_of_ble_eq_true rfl, Nat.le_of_ble_eq_true rfl⟩ ⟨rfl, congrArg (fun z => some (Value.int (nI z))) (by simp only [cmpS]; (repeat' split) <;> omega), fun b b1 b2 => (ho2 b b2).trans (go b b1), rfl⟩
    · skip
      refine V_iconst (v := nI 1) dX0_better_64 rfl ?_
      refine V_goto (tgt := 69) dX0_better_65 rfl ?_
      exact V_iret ⟨Or.inl rfl, dX0_better_69⟩ ⟨Nat.le_of_ble_eq_true rfl, Nat.le_of_ble_eq_true rfl⟩ ⟨rfl, congrArg (fun z => some (Value.int (nI z))) (by simp only [cmpS]; (repeat' split) <;> omega), fun b b1 b2 => (ho2 b b2).trans (go b b1), rfl⟩

def mcG (B f : Nat) (d : Nat → Nat) : Nat → Nat
  | 0 => 0
  | i + 1 => (mcG B f d i + d i * f) / B
def mdG (B f : Nat) (d : Nat → Nat) (i : Nat) : Nat := (mcG B f d i + d i * f) % B
def mrowG (B f : Nat) : Nat → (Nat → Nat) → Nat → Nat
  | 0, d => d
  | t + 1, d => mrowG B f t (mdG B f d)
def pRowG (B at6 less : Nat) (s h : Nat → Nat) : Nat → Nat → Nat
  | 0 => fun k => if k = 0 then 1 else 0
  | i + 1 => mrowG B (10 - (at6 - i * less)) (s i - h i) (mrowG B (at6 - i * less) (h i) (pRowG B at6 less s h i))
/-- a row's number -/
def bigV (B : Nat) (d : Nat → Nat) : Nat → Nat
  | 0 => 0
  | n + 1 => bigV B d n + d n * B ^ n
theorem bigV_lt {B : Nat} {d : Nat → Nat} : ∀ n, (∀ k, k < n → d k < B) → bigV B d n < B ^ n
  | 0, _ => by simp [bigV]
  | n + 1, h => by
    have ih := bigV_lt n (fun k hk => h k (by omega))
    have h1 : d n + 1 ≤ B := h n (by omega)
    have h2 : (d n + 1) * B ^ n ≤ B * B ^ n := Nat.mul_le_mul_right _ h1
    rw [Nat.add_mul, Nat.one_mul] at h2
    rw [Nat.pow_succ, Nat.mul_comm (B ^ n) B]
    simp only [bigV]
    omega
def cmN (a b : Nat) : Nat := if a = b then 0 else if b < a then 1 else 2
theorem cmN_add (a b z : Nat) : cmN (a + z) (b + z) = cmN a b := by
  unfold cmN
  rcases Nat.lt_trichotomy a b with h | h | h
  · rw [if_neg (by omega), if_neg (by omega), if_neg (by omega), if_neg (by omega)]
  · rw [if_pos (by omega), if_pos (by omega)]
  · rw [if_neg (by omega), if_pos (by omega), if_neg (by omega), if_pos (by omega)]
theorem cmpS_V {B : Nat} {d e : Nat → Nat} : ∀ n, (∀ k, k < n → d k < B) → (∀ k, k < n → e k < B) → cmpS d e n = cmN (bigV B d n) (bigV B e n)
  | 0, _, _ => rfl
  | n + 1, hd, he => by
    have ih := cmpS_V n (fun k hk => hd k (by omega)) (fun k hk => he k (by omega))
    have v1 := bigV_lt n (fun k hk => hd k (by omega))
    have v2 := bigV_lt n (fun k hk => he k (by omega))
    have e1 : bigV B d (n + 1) = bigV B d n + d n * B ^ n := rfl
    have e2 : bigV B e (n + 1) = bigV B e n + e n * B ^ n := rfl
    rw [e1, e2]
    unfold cmpS
    by_cases h : d n = e n
    · rw [if_pos h, ih, h, cmN_add]
    · rw [if_neg h]
      unfold cmN
      by_cases h2 : e n < d n
      · have h3 : (e n + 1) * B ^ n ≤ d n * B ^ n := Nat.mul_le_mul_right _ h2
        rw [Nat.add_mul, Nat.one_mul] at h3
        rw [if_pos h2, if_neg (by omega), if_pos (by omega)]
      · have h3 : (d n + 1) * B ^ n ≤ e n * B ^ n := Nat.mul_le_mul_right _ (by omega)
        rw [Nat.add_mul, Nat.one_mul] at h3
        rw [if_neg h2, if_neg (by omega), if_neg (by omega)]
theorem mdG_V {B f : Nat} {d : Nat → Nat} : ∀ n, bigV B (mdG B f d) n + mcG B f d n * B ^ n = f * bigV B d n
  | 0 => by simp [bigV, mcG]
  | n + 1 => by
    have ih := mdG_V (B := B) (f := f) (d := d) n
    have h : mdG B f d n + B * mcG B f d (n + 1) = mcG B f d n + d n * f := Nat.mod_add_div _ _
    have h2 : mdG B f d n * B ^ n + mcG B f d (n + 1) * B ^ (n + 1) = mcG B f d n * B ^ n + f * (d n * B ^ n) := by
      have : mcG B f d (n + 1) * B ^ (n + 1) = (B * mcG B f d (n + 1)) * B ^ n := by rw [Nat.pow_succ, Nat.mul_comm (B ^ n) B, ← Nat.mul_assoc, Nat.mul_comm _ B]
      rw [this, ← Nat.add_mul, h, Nat.add_mul, Nat.mul_comm (d n) f, Nat.mul_assoc]
    simp only [bigV]
    rw [Nat.mul_add]
    omega
theorem mdG_lt {B f : Nat} (hB : 0 < B) {d : Nat → Nat} {i : Nat} : mdG B f d i < B := Nat.mod_lt _ hB
theorem mdG_W {B f : Nat} {d : Nat → Nat} {n : Nat} (h : f * bigV B d n < B ^ n) : bigV B (mdG B f d) n = f * bigV B d n := by
  have h1 := mdG_V (B := B) (f := f) (d := d) n
  rcases Nat.eq_zero_or_pos (mcG B f d n) with h2 | h2
  · rw [h2, Nat.zero_mul] at h1; omega
  · have : 1 * B ^ n ≤ mcG B f d n * B ^ n := Nat.mul_le_mul_right _ h2
    omega
theorem mrowG_V {B f n : Nat} (hf : f ≤ 10) : ∀ T (d : Nat → Nat), 10 ^ T * bigV B d n < B ^ n → bigV B (mrowG B f T d) n = f ^ T * bigV B d n
  | 0, d, _ => by simp [mrowG]
  | T + 1, d, h => by
    rw [Nat.pow_succ] at h
    have h0 : f * bigV B d n ≤ 10 * bigV B d n := Nat.mul_le_mul_right _ hf
    have h1 : 1 * (10 * bigV B d n) ≤ 10 ^ T * (10 * bigV B d n) := Nat.mul_le_mul_right _ (Nat.one_le_pow _ _ (by decide))
    rw [Nat.mul_assoc] at h
    have h2 := mdG_W (B := B) (f := f) (d := d) (n := n) (by omega)
    have h3 : 10 ^ T * (f * bigV B d n) ≤ 10 ^ T * (10 * bigV B d n) := Nat.mul_le_mul_left _ h0
    have ih := mrowG_V (B := B) (n := n) hf T (mdG B f d) (by rw [h2]; omega)
    show bigV B (mrowG B f T (mdG B f d)) n = _
    rw [ih, h2, Nat.pow_succ, Nat.mul_assoc]
/-- a guess's product -/
def pv (at6 less : Nat) (s h : Nat → Nat) : Nat → Nat
  | 0 => 1
  | i + 1 => (10 - (at6 - i * less)) ^ (s i - h i) * ((at6 - i * less) ^ h i * pv at6 less s h i)
def smS (s : Nat → Nat) : Nat → Nat
  | 0 => 0
  | i + 1 => smS s i + s i
theorem pv_le {at6 less : Nat} {s h : Nat → Nat} (h10 : at6 ≤ 10) (hs : ∀ k, h k ≤ s k) : ∀ i, pv at6 less s h i ≤ 10 ^ smS s i
  | 0 => Nat.le_refl _
  | i + 1 => by
    have ih := pv_le (less := less) h10 hs i
    have e : smS s (i + 1) = (s i - h i) + (h i + smS s i) := by have := hs i; simp only [smS]; omega
    rw [e, Nat.pow_add, Nat.pow_add]
    exact Nat.mul_le_mul (Nat.pow_le_pow_left (by omega) _) (Nat.mul_le_mul (Nat.pow_le_pow_left (by omega) _) ih)
theorem pRowG_V {B n at6 less : Nat} {s h : Nat → Nat} (h10 : at6 ≤ 10) (hs : ∀ k, h k ≤ s k) (h0 : 0 < n) : ∀ i, 10 ^ smS s i < B ^ n → bigV B (pRowG B at6 less s h i) n = pv at6 less s h i
  | 0, _ => by
    have : ∀ n, bigV B (fun k => if k = 0 then 1 else 0) (n + 1) = 1 := fun n => by
      induction n with
      | zero => simp [bigV]
      | succ n ih => rw [bigV, ih]; simp
    obtain ⟨m, rfl⟩ : ∃ m, n = m + 1 := ⟨n - 1, by omega⟩
    exact this m
  | i + 1, hB => by
    have e : smS s (i + 1) = (s i - h i) + (h i + smS s i) := by have := hs i; simp only [smS]; omega
    rw [e, Nat.pow_add, Nat.pow_add] at hB
    have p1 := pv_le (less := less) h10 hs i
    have q1 : 10 ^ h i * pv at6 less s h i ≤ 10 ^ h i * 10 ^ smS s i := Nat.mul_le_mul_left _ p1
    have q2 : 1 * (10 ^ h i * 10 ^ smS s i) ≤ 10 ^ (s i - h i) * (10 ^ h i * 10 ^ smS s i) := Nat.mul_le_mul_right _ (Nat.one_le_pow _ _ (by decide))
    have q3 : 1 * 10 ^ smS s i ≤ 10 ^ h i * 10 ^ smS s i := Nat.mul_le_mul_right _ (Nat.one_le_pow _ _ (by decide))
    have ih := pRowG_V (B := B) (n := n) (less := less) h10 hs h0 i (by omega)
    have r1 := mrowG_V (B := B) (n := n) (f := at6 - i * less) (by omega) (h i) (pRowG B at6 less s h i) (by rw [ih]; omega)
    rw [ih] at r1
    have q4 : (at6 - i * less) ^ h i * pv at6 less s h i ≤ 10 ^ h i * 10 ^ smS s i := Nat.mul_le_mul (Nat.pow_le_pow_left (by omega) _) p1
    have q5 : 10 ^ (s i - h i) * ((at6 - i * less) ^ h i * pv at6 less s h i) ≤ 10 ^ (s i - h i) * (10 ^ h i * 10 ^ smS s i) := Nat.mul_le_mul_left _ q4
    have r2 := mrowG_V (B := B) (n := n) (f := 10 - (at6 - i * less)) (by omega) (s i - h i) (mrowG B (at6 - i * less) (h i) (pRowG B at6 less s h i)) (by rw [r1]; omega)
    rw [r1] at r2
    exact r2
theorem mrowG_lt {B f : Nat} (hB : 0 < B) : ∀ T (d : Nat → Nat), (∀ j, d j < B) → ∀ j, mrowG B f T d j < B
  | 0, _, h => h
  | T + 1, d, _ => mrowG_lt hB T (mdG B f d) (fun _ => mdG_lt hB)
theorem pRowG_lt {B at6 less : Nat} {s h : Nat → Nat} (hB : 1 < B) : ∀ i j, pRowG B at6 less s h i j < B
  | 0, j => by unfold pRowG; split <;> omega
  | i + 1, j => mrowG_lt (by omega) _ _ (mrowG_lt (by omega) _ _ (pRowG_lt hB i)) j
theorem mcr_G {f : Nat} {d : Nat → Nat} : ∀ i, mcr f d i = mcG 1000000000 f d i
  | 0 => rfl
  | i + 1 => by unfold mcr mcG; rw [mcr_G i]
theorem mdg_G {f : Nat} {d : Nat → Nat} : mdg f d = mdG 1000000000 f d := by funext i; unfold mdg mdG; rw [mcr_G]
theorem mrow_G {f : Nat} : ∀ T (d : Nat → Nat), mrow f T d = mrowG 1000000000 f T d
  | 0, _ => rfl
  | T + 1, d => by unfold mrow mrowG; rw [mrow_G T, mdg_G]
theorem pRow_G {at6 less : Nat} {s h : Nat → Nat} : ∀ i, pRow at6 less s h i = pRowG 1000000000 at6 less s h i
  | 0 => rfl
  | i + 1 => by unfold pRow pRowG; rw [pRow_G i, mrow_G, mrow_G]
/-- which of two guesses fits better: by their products -/
def fitS (s h : Nat → Nat) (a1 l1 a2 l2 : Nat) : Nat := cmN (pv a1 l1 s h 5) (pv a2 l2 s h 5)
theorem cmp_fit {B n : Nat} (hB : 1 < B) (h0 : 0 < n) (hBn : 10 ^ 60 < B ^ n) {s h : Nat → Nat} (hs : ∀ k, h k ≤ s k) (h60 : smS s 5 ≤ 60) {a1 l1 a2 l2 : Nat} (h1 : a1 ≤ 10) (h2 : a2 ≤ 10) : cmpS (pRowG B a1 l1 s h 5) (pRowG B a2 l2 s h 5) n = fitS s h a1 l1 a2 l2 := by
  have hp : 10 ^ smS s 5 < B ^ n := Nat.lt_of_le_of_lt (Nat.pow_le_pow_right (by decide) h60) hBn
  rw [cmpS_V (B := B) n (fun k _ => pRowG_lt hB 5 k) (fun k _ => pRowG_lt hB 5 k), pRowG_V h1 hs h0 5 hp, pRowG_V h2 hs h0 5 hp]
  rfl
