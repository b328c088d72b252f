/-! THE CLASS: ends: places, letters, tenths -/
theorem fa_or (a b : Nat) : nI a ||| nI b = nI (a ||| b) := by
  apply Int32.toBitVec_inj.1
  show BitVec.ofNat 32 a ||| BitVec.ofNat 32 b = BitVec.ofNat 32 (a ||| b)
  apply BitVec.eq_of_getLsbD_eq
  intro i hi
  simp [hi]
theorem fa_and (a b : Nat) : nI a &&& nI b = nI (a &&& b) := by
  apply Int32.toBitVec_inj.1
  show BitVec.ofNat 32 a &&& BitVec.ofNat 32 b = BitVec.ofNat 32 (a &&& b)
  apply BitVec.eq_of_getLsbD_eq
  intro i hi
  simp [hi]
theorem or_low {a b : Nat} (k : Nat) (h : a < 2 ^ k) : nI a ||| nI (b * 2 ^ k) = nI (a + b * 2 ^ k) := by
  rw [fa_or, Nat.or_comm, Nat.mul_comm b, ← Nat.two_pow_add_eq_or_of_lt h, Nat.add_comm]
def sSpot (p q last : Nat) : Nat := 2 * (if 35 ≤ p then (p - 35) * 56 + q else 1176 + p * 21 + (q - 35)) + last
theorem sSpot_lt {p q last : Nat} (hp : p < 56) (hq : q < 56) (hl : last ≤ 1) (h : 35 ≤ p ∨ 35 ≤ q) : sSpot p q last < 3822 := by
  unfold sSpot
  split <;> omega
theorem sSpot_inj {p q last p' q' last' : Nat} (hp : p < 56) (hq : q < 56) (hl : last ≤ 1) (h : 35 ≤ p ∨ 35 ≤ q) (hp' : p' < 56) (hq' : q' < 56) (hl' : last' ≤ 1) (h' : 35 ≤ p' ∨ 35 ≤ q') (e : sSpot p q last = sSpot p' q' last') : p = p' ∧ q = q' ∧ last = last' := by
  unfold sSpot at e
  split at e <;> split at e <;> omega
set_option maxRecDepth 100000 in
set_option maxHeartbeats 4000000 in
theorem c_spotOf {G : zG} {I : zI} {J : zJ} {p q last : Nat} (hp : p < 56) (hq : q < 56) (hl : last ≤ 1) (h : 35 ≤ p ∨ 35 ≤ q) : zK G mX3_spotOf 0 [.int (nI p), .int (nI q), .int (nI last)] zsh I J (zA0 (.int (nI (sSpot p q last))) I J) := by
  refine zK_of kX3_spotOf.2.2.2.2.1 (Nat.le_of_ble_eq_true rfl) ?_
  show V G mX3_spotOf 0 _ 0 [(0, .int (nI p)), (1, .int (nI q)), (2, .int (nI last))] [] (0, 0) zsh I J
  refine V_bipush (v := nI 21) dX3_spotOf_0 rfl ?_
  refine V_istore_n (ls' := [(3, .int (nI 21)), (0, .int (nI p)), (1, .int (nI q)), (2, .int (nI last))]) dX3_spotOf_2 (by decide) rfl ?_
  refine V_iload_n dX3_spotOf_3 rfl ?_
  refine V_bipush (v := nI 35) dX3_spotOf_4 rfl ?_
  refine V_icmp_ltN (tgt := 21) dX3_spotOf_6 rfl (by omega) (by omega) (fun h6 => ?_) (fun h6 => ?_)
  · skip
    refine V_sipush (v := nI 1176) dX3_spotOf_21 rfl ?_
    refine V_iload_n dX3_spotOf_24 rfl ?_
    refine V_iload_n dX3_spotOf_25 rfl ?_
    refine V_imulN dX3_spotOf_26 ?_
    refine V_iaddN dX3_spotOf_27 ?_
    refine V_iload_n dX3_spotOf_28 rfl ?_
    refine V_iaddN dX3_spotOf_29 ?_
    refine V_bipush (v := nI 35) dX3_spotOf_30 rfl ?_
    refine V_isubN dX3_spotOf_32 (by omega) ?_
    refine V_istore (ls' := [(4, .int (nI (((1176 + (p * 21)) + q) - 35))), (3, .int (nI 21)), (0, .int (nI p)), (1, .int (nI q)), (2, .int (nI last))]) dX3_spotOf_33 (by decide) rfl ?_
    refine V_iconst (v := nI 2) dX3_spotOf_35 rfl ?_
    refine V_iload dX3_spotOf_36 rfl ?_
    refine V_imulN dX3_spotOf_38 ?_
    refine V_iload_n dX3_spotOf_39 rfl ?_
    refine V_iaddN dX3_spotOf_40 ?_
    exact V_iret ⟨Or.inl rfl, dX3_spotOf_41⟩ ⟨Nat.le_of_ble_eq_true rfl, Nat.le_of_ble_eq_true rfl⟩ ⟨rfl, congrArg (fun z => some (Value.int (nI z))) (by unfold sSpot; split <;> omega), rfl, rfl⟩
  · skip
    refine V_iload_n dX3_spotOf_9 rfl ?_
    refine V_bipush (v := nI 35) dX3_spotOf_10 rfl ?_
    refine V_isubN dX3_spotOf_12 (by omega) ?_
    refine V_bipush (v := nI 56) dX3_spotOf_13 rfl ?_
    refine V_imulN dX3_spotOf_15 ?_
    refine V_iload_n dX3_spotOf_16 rfl ?_
    refine V_iaddN dX3_spotOf_17 ?_
    refine V_goto (tgt := 33) dX3_spotOf_18 rfl ?_
    refine V_istore (ls' := [(4, .int (nI (((p - 35) * 56) + q))), (3, .int (nI 21)), (0, .int (nI p)), (1, .int (nI q)), (2, .int (nI last))]) dX3_spotOf_33 (by decide) rfl ?_
    refine V_iconst (v := nI 2) dX3_spotOf_35 rfl ?_
    refine V_iload dX3_spotOf_36 rfl ?_
    refine V_imulN dX3_spotOf_38 ?_
    refine V_iload_n dX3_spotOf_39 rfl ?_
    refine V_iaddN dX3_spotOf_40 ?_
    exact V_iret ⟨Or.inl rfl, dX3_spotOf_41⟩ ⟨Nat.le_of_ble_eq_true rfl, Nat.le_of_ble_eq_true rfl⟩ ⟨rfl, congrArg (fun z => some (Value.int (nI z))) (by unfold sSpot; split <;> omega), rfl, rfl⟩

def zflI (v : Int32) (f : Nat → Int32) (k : Nat) : Nat → Int32 := fun j => if j < k then v else f j
theorem zflI_s {I : zI} {a k : Nat} {v : Int32} : zwr (zup I a (zflI v (I a) k)) a k v = zup I a (zflI v (I a) (k + 1)) := by
  funext b j
  rw [zwr_at]
  by_cases h : b = a
  · subst h
    rw [zup_s, zup_s]
    by_cases h2 : j = k
    · rw [if_pos ⟨rfl, h2⟩]; unfold zflI; rw [if_pos (by omega)]
    · rw [if_neg (fun q => h2 q.2)]
      unfold zflI
      by_cases h3 : j < k
      · rw [if_pos h3, if_pos (by omega)]
      · rw [if_neg h3, if_neg (by omega)]
  · rw [if_neg (fun q => h q.1), zup_n h, zup_n h]
theorem zflI_0 {I : zI} {a : Nat} {v : Int32} : zup I a (zflI v (I a) 0) = I := by
  funext b j
  by_cases h : b = a
  · subst h; rw [zup_s]; unfold zflI; rw [if_neg (by omega)]
  · rw [zup_n h]
set_option maxRecDepth 100000 in
set_option maxHeartbeats 4000000 in
theorem lp_fillI {G : zG} {I : zI} {J : zJ} {a n : Nat} {v : Int32} (ha : zin zsh a) (hk : zkd a = (1, n)) (hn : n < 2 ^ 31) : ∀ f k (I1 : zI), k + f = n → I1 = zup I a (zflI v (I a) k) → V G mJ7_fill_53178 0 (zA2 (fun I' J' => I' = zup I a (zflI v (I a) n) ∧ J = J')) 5 [(0, .ref a), (1, .int v), (2, .int (nI k)), (3, .int (nI n))] [] (0, 0) zsh I1 J := by
  intro f
  induction f with
  | zero =>
    intro k I1 hkn h1
    refine V_iload_n dJ7_fill_53178_5 rfl ?_
    refine V_iload_n dJ7_fill_53178_6 rfl ?_
    refine V_icmp_geN (tgt := 20) dJ7_fill_53178_7 rfl (by omega) (by omega) (fun _ => ?_) (fun h => absurd h (by omega))
    exact V_ret ⟨rfl, dJ7_fill_53178_20⟩ ⟨Nat.le_of_ble_eq_true rfl, Nat.le_of_ble_eq_true rfl⟩ ⟨rfl, rfl, (by rw [h1, show k = n by omega]), rfl⟩
  | succ f ih =>
    intro k I1 hkn h1
    refine V_iload_n dJ7_fill_53178_5 rfl ?_
    refine V_iload_n dJ7_fill_53178_6 rfl ?_
    refine V_icmp_geN (tgt := 20) dJ7_fill_53178_7 rfl (by omega) (by omega) (fun h => absurd h (by omega)) (fun _ => ?_)
    refine V_aload_n dJ7_fill_53178_10 rfl ?_
    refine V_iload_n dJ7_fill_53178_11 rfl ?_
    refine V_iload_n dJ7_fill_53178_12 rfl ?_
    refine V_iastN (k := k) dJ7_fill_53178_13 ha hk hn (by omega) ?_
    refine V_iincN (ls' := [(2, .int (nI (k + 1))), (0, .ref a), (1, .int v), (3, .int (nI n))]) (n := 1) dJ7_fill_53178_14 rfl rfl (by decide) (by decide) rfl ?_
    refine V_goto (tgt := 5) dJ7_fill_53178_17 rfl ?_
    refine V_sub2 (ls' := [(0, .ref a), (1, .int v), (2, .int (nI (k + 1))), (3, .int (nI n))]) (List.forall_mem_cons.mpr ⟨rfl, List.forall_mem_cons.mpr ⟨rfl, List.forall_mem_cons.mpr ⟨rfl, List.forall_mem_cons.mpr ⟨rfl, fun _ h => absurd h List.not_mem_nil⟩⟩⟩⟩) ?_
    exact ih (k + 1) _ (by omega) (by rw [h1]; exact zflI_s)

set_option maxRecDepth 100000 in
set_option maxHeartbeats 4000000 in
theorem c_fillI {G : zG} {I : zI} {J : zJ} {a n : Nat} {v : Int32} (ha : zin zsh a) (hk : zkd a = (1, n)) (hn : n < 2 ^ 31) : zK G mJ7_fill_53178 0 [.ref a, .int v] zsh I J (zA2 (fun I' J' => I' = zup I a (zflI v (I a) n) ∧ J = J')) := by
  refine zK_of kJ7_fill_53178.2.2.2.2.1 (Nat.le_of_ble_eq_true rfl) ?_
  show V G mJ7_fill_53178 0 _ 0 [(0, .ref a), (1, .int v)] [] (0, 0) zsh I J
  refine V_iconst (v := nI 0) dJ7_fill_53178_0 rfl ?_
  refine V_istore_n (ls' := [(2, .int (nI 0)), (0, .ref a), (1, .int v)]) dJ7_fill_53178_1 (by decide) rfl ?_
  refine V_aload_n dJ7_fill_53178_2 rfl ?_
  refine V_alen (v := nI n) dJ7_fill_53178_3 ha hk (by decide) rfl ?_
  refine V_istore_n (ls' := [(3, .int (nI n)), (2, .int (nI 0)), (0, .ref a), (1, .int v)]) dJ7_fill_53178_4 (by decide) rfl ?_
  refine V_sub2 (ls' := [(0, .ref a), (1, .int v), (2, .int (nI 0)), (3, .int (nI n))]) (List.forall_mem_cons.mpr ⟨rfl, List.forall_mem_cons.mpr ⟨rfl, List.forall_mem_cons.mpr ⟨rfl, List.forall_mem_cons.mpr ⟨rfl, fun _ h => absurd h List.not_mem_nil⟩⟩⟩⟩) ?_
  exact lp_fillI ha hk hn n 0 I (by omega) zflI_0.symm

def zflL (v : Int64) (f : Nat → Int64) (k : Nat) : Nat → Int64 := fun j => if j < k then v else f j
theorem zflL_s {J : zJ} {a k : Nat} {v : Int64} : zwl (zup J a (zflL v (J a) k)) a k v = zup J a (zflL v (J a) (k + 1)) := by
  funext b j
  rw [zwl_at]
  by_cases h : b = a
  · subst h
    rw [zup_s, zup_s]
    by_cases h2 : j = k
    · rw [if_pos ⟨rfl, h2⟩]; unfold zflL; rw [if_pos (by omega)]
    · rw [if_neg (fun q => h2 q.2)]
      unfold zflL
      by_cases h3 : j < k
      · rw [if_pos h3, if_pos (by omega)]
      · rw [if_neg h3, if_neg (by omega)]
  · rw [if_neg (fun q => h q.1), zup_n h, zup_n h]
theorem zflL_0 {J : zJ} {a : Nat} {v : Int64} : zup J a (zflL v (J a) 0) = J := by
  funext b j
  by_cases h : b = a
  · subst h; rw [zup_s]; unfold zflL; rw [if_neg (by omega)]
  · rw [zup_n h]
set_option maxRecDepth 100000 in
set_option maxHeartbeats 4000000 in
theorem lp_fillL {G : zG} {I : zI} {J : zJ} {a n : Nat} {v : Int64} (ha : zin zsh a) (hk : zkd a = (2, n)) (hn : n < 2 ^ 31) : ∀ f k (J1 : zJ), k + f = n → J1 = zup J a (zflL v (J a) k) → V G mJ7_fill_d0a16 0 (zA2 (fun I' J' => J' = zup J a (zflL v (J a) n) ∧ I = I')) 6 [(0, .ref a), (1, .long v), (3, .int (nI k)), (4, .int (nI n))] [] (0, 0) zsh I J1 := by
  intro f
  induction f with
  | zero =>
    intro k J1 hkn h1
    refine V_iload_n dJ7_fill_d0a16_6 rfl ?_
    refine V_iload dJ7_fill_d0a16_7 rfl ?_
    refine V_icmp_geN (tgt := 22) dJ7_fill_d0a16_9 rfl (by omega) (by omega) (fun _ => ?_) (fun h => absurd h (by omega))
    exact V_ret ⟨rfl, dJ7_fill_d0a16_22⟩ ⟨Nat.le_of_ble_eq_true rfl, Nat.le_of_ble_eq_true rfl⟩ ⟨rfl, rfl, (by rw [h1, show k = n by omega]), rfl⟩
  | succ f ih =>
    intro k J1 hkn h1
    refine V_iload_n dJ7_fill_d0a16_6 rfl ?_
    refine V_iload dJ7_fill_d0a16_7 rfl ?_
    refine V_icmp_geN (tgt := 22) dJ7_fill_d0a16_9 rfl (by omega) (by omega) (fun h => absurd h (by omega)) (fun _ => ?_)
    refine V_aload_n dJ7_fill_d0a16_12 rfl ?_
    refine V_iload_n dJ7_fill_d0a16_13 rfl ?_
    refine V_lload_n dJ7_fill_d0a16_14 rfl ?_
    refine V_lastN (k := k) dJ7_fill_d0a16_15 ha hk hn (by omega) ?_
    refine V_iincN (ls' := [(3, .int (nI (k + 1))), (0, .ref a), (1, .long v), (4, .int (nI n))]) (n := 1) dJ7_fill_d0a16_16 rfl rfl (by decide) (by decide) rfl ?_
    refine V_goto (tgt := 6) dJ7_fill_d0a16_19 rfl ?_
    refine V_sub2 (ls' := [(0, .ref a), (1, .long v), (3, .int (nI (k + 1))), (4, .int (nI n))]) (List.forall_mem_cons.mpr ⟨rfl, List.forall_mem_cons.mpr ⟨rfl, List.forall_mem_cons.mpr ⟨rfl, List.forall_mem_cons.mpr ⟨rfl, fun _ h => absurd h List.not_mem_nil⟩⟩⟩⟩) ?_
    exact ih (k + 1) _ (by omega) (by rw [h1]; exact zflL_s)

set_option maxRecDepth 100000 in
set_option maxHeartbeats 4000000 in
theorem c_fillL {G : zG} {I : zI} {J : zJ} {a n : Nat} {v : Int64} (ha : zin zsh a) (hk : zkd a = (2, n)) (hn : n < 2 ^ 31) : zK G mJ7_fill_d0a16 0 [.ref a, .long v] zsh I J (zA2 (fun I' J' => J' = zup J a (zflL v (J a) n) ∧ I = I')) := by
  refine zK_of kJ7_fill_d0a16.2.2.2.2.1 (Nat.le_of_ble_eq_true rfl) ?_
  show V G mJ7_fill_d0a16 0 _ 0 [(0, .ref a), (1, .long v)] [] (0, 0) zsh I J
  refine V_iconst (v := nI 0) dJ7_fill_d0a16_0 rfl ?_
  refine V_istore_n (ls' := [(3, .int (nI 0)), (0, .ref a), (1, .long v)]) dJ7_fill_d0a16_1 (by decide) rfl ?_
  refine V_aload_n dJ7_fill_d0a16_2 rfl ?_
  refine V_alen (v := nI n) dJ7_fill_d0a16_3 ha hk (by decide) rfl ?_
  refine V_istore (ls' := [(4, .int (nI n)), (3, .int (nI 0)), (0, .ref a), (1, .long v)]) dJ7_fill_d0a16_4 (by decide) rfl ?_
  refine V_sub2 (ls' := [(0, .ref a), (1, .long v), (3, .int (nI 0)), (4, .int (nI n))]) (List.forall_mem_cons.mpr ⟨rfl, List.forall_mem_cons.mpr ⟨rfl, List.forall_mem_cons.mpr ⟨rfl, List.forall_mem_cons.mpr ⟨rfl, fun _ h => absurd h List.not_mem_nil⟩⟩⟩⟩) ?_
  exact lp_fillL ha hk hn n 0 J (by omega) zflL_0.symm

set_option maxRecDepth 100000 in
set_option maxHeartbeats 4000000 in
theorem c_forgetWorths {G : zG} {I : zI} {J : zJ}  : zK G mX3_forgetWorths 0 [.ref 9] zsh I J (zA2 (fun I' J' => I' = zwr I 9 6 (nI 0) ∧ J = J')) := by
  refine zK_of kX3_forgetWorths.2.2.2.2.1 (Nat.le_of_ble_eq_true rfl) ?_
  show V G mX3_forgetWorths 0 _ 0 [(0, .ref 9)] [] (0, 0) zsh I J
  refine V_aload_n dX3_forgetWorths_0 rfl ?_
  refine V_iconst (v := nI 0) dX3_forgetWorths_1 rfl ?_
  refine V_putW dX3_forgetWorths_2 fX3_44 ⟨Nat.le_of_ble_eq_true rfl, Nat.le_of_ble_eq_true rfl⟩ rfl rfl rfl ⟨rfl, rfl⟩ ?_
  exact V_ret ⟨rfl, dX3_forgetWorths_5⟩ ⟨Nat.le_of_ble_eq_true rfl, Nat.le_of_ble_eq_true rfl⟩ ⟨rfl, rfl, rfl, rfl⟩

set_option maxRecDepth 100000 in
set_option maxHeartbeats 4000000 in
theorem c_forgetLaw {G : zG} {I : zI} {J : zJ}  : zK G mX3_forgetLaw 1 [.ref 9] zsh I J (zA2 (fun I' J' => I' = zwr (zwr (zup I 30 (zflI (nI 0) (I 30) 3822)) 9 12 (-1)) 9 6 (nI 0) ∧ J' = zup J 32 (zflL (-4000000000000000000) (J 32) 10))) := by
  refine zK_of kX3_forgetLaw.2.2.2.2.1 (Nat.le_of_ble_eq_true rfl) ?_
  show V G mX3_forgetLaw 1 _ 0 [(0, .ref 9)] [] (0, 0) zsh I J
  refine V_aload_n dX3_forgetLaw_0 rfl ?_
  refine V_getR (b := 30) dX3_forgetLaw_1 fX3_40 ⟨Nat.le_of_ble_eq_true rfl, Nat.le_of_ble_eq_true rfl⟩ rfl rfl rfl ?_
  refine V_iconst (v := nI 0) dX3_forgetLaw_4 rfl ?_
  refine V_callS (As := [.ref 30, .int (nI 0)]) (st := []) dX3_forgetLaw_5 kJ7_fill_53178 lX3_68 (by decide) rfl rfl (Nat.le_of_ble_eq_true rfl) ⟨Nat.le_of_ble_eq_true rfl, Nat.le_of_ble_eq_true rfl⟩ (c_fillI (a := 30) (n := 3822) ⟨Nat.le_of_ble_eq_true rfl, Nat.le_of_ble_eq_true rfl⟩ rfl (by decide)) ?_
  rintro _ _ _ _ ⟨rfl, rfl, rfl, rfl⟩
  refine V_ii (I' := zup I 30 (zflI (nI 0) (I 30) 3822)) rfl ?_
  refine V_aload_n dX3_forgetLaw_8 rfl ?_
  refine V_getR (b := 32) dX3_forgetLaw_9 fX3_51 ⟨Nat.le_of_ble_eq_true rfl, Nat.le_of_ble_eq_true rfl⟩ rfl rfl rfl ?_
  refine V_ldc2 dX3_forgetLaw_12 qX3_60 ?_
  refine V_callS (As := [.ref 32, .long (-4000000000000000000)]) (st := []) dX3_forgetLaw_15 kJ7_fill_d0a16 lX3_62 (by decide) rfl rfl (Nat.le_of_ble_eq_true rfl) ⟨Nat.le_of_ble_eq_true rfl, Nat.le_of_ble_eq_true rfl⟩ (c_fillL (a := 32) (n := 10) ⟨Nat.le_of_ble_eq_true rfl, Nat.le_of_ble_eq_true rfl⟩ rfl (by decide)) ?_
  rintro _ _ _ _ ⟨rfl, rfl, rfl, rfl⟩
  refine V_aload_n dX3_forgetLaw_18 rfl ?_
  refine V_iconst (v := (-1)) dX3_forgetLaw_19 rfl ?_
  refine V_putW dX3_forgetLaw_20 fX3_57 ⟨Nat.le_of_ble_eq_true rfl, Nat.le_of_ble_eq_true rfl⟩ rfl rfl rfl ⟨rfl, rfl⟩ ?_
  refine V_aload_n dX3_forgetLaw_23 rfl ?_
  refine V_callV (As := []) (st := []) (a := 9) dX3_forgetLaw_24 kX3_forgetWorths lX3_71 (by decide) rfl rfl (Nat.le_of_ble_eq_true rfl) ⟨Nat.le_of_ble_eq_true rfl, Nat.le_of_ble_eq_true rfl⟩ ⟨Nat.le_of_ble_eq_true rfl, Nat.le_of_ble_eq_true rfl⟩ rfl ⟨rfl, by decide⟩ c_forgetWorths ?_
  rintro _ _ _ _ ⟨rfl, rfl, rfl, rfl⟩
  exact V_ret ⟨rfl, dX3_forgetLaw_27⟩ ⟨Nat.le_of_ble_eq_true rfl, Nat.le_of_ble_eq_true rfl⟩ ⟨rfl, rfl, rfl, rfl⟩

def eStand (I : zI) (n : Int32) : zI := if n = I 9 4 then I else zwr (zup (zwr I 9 4 n) 30 (zflI (nI 0) (I 30) 3822)) 9 6 (nI 0)
set_option maxRecDepth 100000 in
set_option maxHeartbeats 4000000 in
theorem c_standAt {G : zG} {I : zI} {J : zJ} {n : Int32} : zK G mX3_standAt 1 [.ref 9, .int n] zsh I J (zA2 (fun I' J' => I' = eStand I n ∧ J = J')) := by
  refine zK_of kX3_standAt.2.2.2.2.1 (Nat.le_of_ble_eq_true rfl) ?_
  show V G mX3_standAt 1 _ 0 [(0, .ref 9), (1, .int n)] [] (0, 0) zsh I J
  refine V_iload_n dX3_standAt_0 rfl ?_
  refine V_aload_n dX3_standAt_1 rfl ?_
  refine V_getI dX3_standAt_2 fX3_36 ⟨Nat.le_of_ble_eq_true rfl, Nat.le_of_ble_eq_true rfl⟩ rfl rfl ?_
  refine V_icmp_eq (tgt := 25) dX3_standAt_5 rfl (fun h5 => ?_) (fun h5 => ?_)
  · skip
    exact V_ret ⟨rfl, dX3_standAt_25⟩ ⟨Nat.le_of_ble_eq_true rfl, Nat.le_of_ble_eq_true rfl⟩ ⟨rfl, rfl, (if_pos h5).symm, rfl⟩
  · skip
    refine V_aload_n dX3_standAt_8 rfl ?_
    refine V_iload_n dX3_standAt_9 rfl ?_
    refine V_putW dX3_standAt_10 fX3_36 ⟨Nat.le_of_ble_eq_true rfl, Nat.le_of_ble_eq_true rfl⟩ rfl rfl rfl ⟨rfl, rfl⟩ ?_
    refine V_aload_n dX3_standAt_13 rfl ?_
    refine V_getR (b := 30) dX3_standAt_14 fX3_40 ⟨Nat.le_of_ble_eq_true rfl, Nat.le_of_ble_eq_true rfl⟩ rfl rfl rfl ?_
    refine V_iconst (v := nI 0) dX3_standAt_17 rfl ?_
    refine V_callS (As := [.ref 30, .int (nI 0)]) (st := []) dX3_standAt_18 kJ7_fill_53178 lX3_68 (by decide) rfl rfl (Nat.le_of_ble_eq_true rfl) ⟨Nat.le_of_ble_eq_true rfl, Nat.le_of_ble_eq_true rfl⟩ (c_fillI (a := 30) (n := 3822) ⟨Nat.le_of_ble_eq_true rfl, Nat.le_of_ble_eq_true rfl⟩ rfl (by decide)) ?_
    rintro _ _ _ _ ⟨rfl, rfl, rfl, rfl⟩
    refine V_ii (I' := zup (zwr I 9 4 n) 30 (zflI (nI 0) (I 30) 3822)) rfl ?_
    refine V_aload_n dX3_standAt_21 rfl ?_
    refine V_callV (As := []) (st := []) (a := 9) dX3_standAt_22 kX3_forgetWorths lX3_71 (by decide) rfl rfl (Nat.le_of_ble_eq_true rfl) ⟨Nat.le_of_ble_eq_true rfl, Nat.le_of_ble_eq_true rfl⟩ ⟨Nat.le_of_ble_eq_true rfl, Nat.le_of_ble_eq_true rfl⟩ rfl ⟨rfl, by decide⟩ c_forgetWorths ?_
    rintro _ _ _ _ ⟨rfl, rfl, rfl, rfl⟩
    exact V_ret ⟨rfl, dX3_standAt_25⟩ ⟨Nat.le_of_ble_eq_true rfl, Nat.le_of_ble_eq_true rfl⟩ ⟨rfl, rfl, (if_neg h5).symm, rfl⟩

def eAim (I : zI) (kind one two : Int32) : zI := if I 9 6 = kind ∧ I 9 7 = one ∧ I 9 8 = two then I else zwr (zwr (zwr I 9 6 kind) 9 7 one) 9 8 two
def eAimJ (I : zI) (J : zJ) (kind one two : Int32) : zJ := if I 9 6 = kind ∧ I 9 7 = one ∧ I 9 8 = two then J else zup J 31 (zflL (-4000000000000000000) (J 31) 3822)
set_option maxRecDepth 100000 in
set_option maxHeartbeats 4000000 in
theorem c_takeAim {G : zG} {I : zI} {J : zJ} {kd a1 a2 : Int32} : zK G mX3_takeAim 1 [.ref 9, .int kd, .int a1, .int a2] zsh I J (zA2 (fun I' J' => I' = eAim I kd a1 a2 ∧ J' = eAimJ I J kd a1 a2)) := by
  refine zK_of kX3_takeAim.2.2.2.2.1 (Nat.le_of_ble_eq_true rfl) ?_
  show V G mX3_takeAim 1 _ 0 [(0, .ref 9), (1, .int kd), (2, .int a1), (3, .int a2)] [] (0, 0) zsh I J
  refine V_aload_n dX3_takeAim_0 rfl ?_
  refine V_getI dX3_takeAim_1 fX3_44 ⟨Nat.le_of_ble_eq_true rfl, Nat.le_of_ble_eq_true rfl⟩ rfl rfl ?_
  refine V_iload_n dX3_takeAim_4 rfl ?_
  refine V_icmp_ne (tgt := 24) dX3_takeAim_5 rfl (fun h5 => ?_) (fun h5 => ?_)
  · skip
    refine V_aload_n dX3_takeAim_24 rfl ?_
    refine V_iload_n dX3_takeAim_25 rfl ?_
    refine V_putW dX3_takeAim_26 fX3_44 ⟨Nat.le_of_ble_eq_true rfl, Nat.le_of_ble_eq_true rfl⟩ rfl rfl rfl ⟨rfl, rfl⟩ ?_
    refine V_aload_n dX3_takeAim_29 rfl ?_
    refine V_iload_n dX3_takeAim_30 rfl ?_
    refine V_putW dX3_takeAim_31 fX3_78 ⟨Nat.le_of_ble_eq_true rfl, Nat.le_of_ble_eq_true rfl⟩ rfl rfl rfl ⟨rfl, rfl⟩ ?_
    refine V_aload_n dX3_takeAim_34 rfl ?_
    refine V_iload_n dX3_takeAim_35 rfl ?_
    refine V_putW dX3_takeAim_36 fX3_81 ⟨Nat.le_of_ble_eq_true rfl, Nat.le_of_ble_eq_true rfl⟩ rfl rfl rfl ⟨rfl, rfl⟩ ?_
    refine V_aload_n dX3_takeAim_39 rfl ?_
    refine V_getR (b := 31) dX3_takeAim_40 fX3_47 ⟨Nat.le_of_ble_eq_true rfl, Nat.le_of_ble_eq_true rfl⟩ rfl rfl rfl ?_
    refine V_ldc2 dX3_takeAim_43 qX3_60 ?_
    refine V_callS (As := [.ref 31, .long (-4000000000000000000)]) (st := []) dX3_takeAim_46 kJ7_fill_d0a16 lX3_62 (by decide) rfl rfl (Nat.le_of_ble_eq_true rfl) ⟨Nat.le_of_ble_eq_true rfl, Nat.le_of_ble_eq_true rfl⟩ (c_fillL (a := 31) (n := 3822) ⟨Nat.le_of_ble_eq_true rfl, Nat.le_of_ble_eq_true rfl⟩ rfl (by decide)) ?_
    rintro _ _ _ _ ⟨rfl, rfl, rfl, rfl⟩
    exact V_ret ⟨rfl, dX3_takeAim_49⟩ ⟨Nat.le_of_ble_eq_true rfl, Nat.le_of_ble_eq_true rfl⟩ ⟨rfl, rfl, (if_neg (by simp_all)).symm, (if_neg (by simp_all)).symm⟩
  · skip
    refine V_aload_n dX3_takeAim_8 rfl ?_
    refine V_getI dX3_takeAim_9 fX3_78 ⟨Nat.le_of_ble_eq_true rfl, Nat.le_of_ble_eq_true rfl⟩ rfl rfl ?_
    refine V_iload_n dX3_takeAim_12 rfl ?_
    refine V_icmp_ne (tgt := 24) dX3_takeAim_13 rfl (fun h13 => ?_) (fun h13 => ?_)
    · skip
      refine V_aload_n dX3_takeAim_24 rfl ?_
      refine V_iload_n dX3_takeAim_25 rfl ?_
      refine V_putW dX3_takeAim_26 fX3_44 ⟨Nat.le_of_ble_eq_true rfl, Nat.le_of_ble_eq_true rfl⟩ rfl rfl rfl ⟨rfl, rfl⟩ ?_
      refine V_aload_n dX3_takeAim_29 rfl ?_
      refine V_iload_n dX3_takeAim_30 rfl ?_
      refine V_putW dX3_takeAim_31 fX3_78 ⟨Nat.le_of_ble_eq_true rfl, Nat.le_of_ble_eq_true rfl⟩ rfl rfl rfl ⟨rfl, rfl⟩ ?_
      refine V_aload_n dX3_takeAim_34 rfl ?_
      refine V_iload_n dX3_takeAim_35 rfl ?_
      refine V_putW dX3_takeAim_36 fX3_81 ⟨Nat.le_of_ble_eq_true rfl, Nat.le_of_ble_eq_true rfl⟩ rfl rfl rfl ⟨rfl, rfl⟩ ?_
      refine V_aload_n dX3_takeAim_39 rfl ?_
      refine V_getR (b := 31) dX3_takeAim_40 fX3_47 ⟨Nat.le_of_ble_eq_true rfl, Nat.le_of_ble_eq_true rfl⟩ rfl rfl rfl ?_
      refine V_ldc2 dX3_takeAim_43 qX3_60 ?_
      refine V_callS (As := [.ref 31, .long (-4000000000000000000)]) (st := []) dX3_takeAim_46 kJ7_fill_d0a16 lX3_62 (by decide) rfl rfl (Nat.le_of_ble_eq_true rfl) ⟨Nat.le_of_ble_eq_true rfl, Nat.le_of_ble_eq_true rfl⟩ (c_fillL (a := 31) (n := 3822) ⟨Nat.le_of_ble_eq_true rfl, Nat.le_of_ble_eq_true rfl⟩ rfl (by decide)) ?_
      rintro _ _ _ _ ⟨rfl, rfl, rfl, rfl⟩
      exact V_ret ⟨rfl, dX3_takeAim_49⟩ ⟨Nat.le_of_ble_eq_true rfl, Nat.le_of_ble_eq_true rfl⟩ ⟨rfl, rfl, (if_neg (by simp_all)).symm, (if_neg (by simp_all)).symm⟩
    · skip
      refine V_aload_n dX3_takeAim_16 rfl ?_
      refine V_getI dX3_takeAim_17 fX3_81 ⟨Nat.le_of_ble_eq_true rfl, Nat.le_of_ble_eq_true rfl⟩ rfl rfl ?_
      refine V_iload_n dX3_takeAim_20 rfl ?_
      refine V_icmp_eq (tgt := 49) dX3_takeAim_21 rfl (fun h21 => ?_) (fun h21 => ?_)
      · skip
        exact V_ret ⟨rfl, dX3_takeAim_49⟩ ⟨Nat.le_of_ble_eq_true rfl, Nat.le_of_ble_eq_true rfl⟩ ⟨rfl, rfl, (if_pos (by simp_all)).symm, (if_pos (by simp_all)).symm⟩
      · skip
        refine V_aload_n dX3_takeAim_24 rfl ?_
        refine V_iload_n dX3_takeAim_25 rfl ?_
        refine V_putW dX3_takeAim_26 fX3_44 ⟨Nat.le_of_ble_eq_true rfl, Nat.le_of_ble_eq_true rfl⟩ rfl rfl rfl ⟨rfl, rfl⟩ ?_
        refine V_aload_n dX3_takeAim_29 rfl ?_
        refine V_iload_n dX3_takeAim_30 rfl ?_
        refine V_putW dX3_takeAim_31 fX3_78 ⟨Nat.le_of_ble_eq_true rfl, Nat.le_of_ble_eq_true rfl⟩ rfl rfl rfl ⟨rfl, rfl⟩ ?_
        refine V_aload_n dX3_takeAim_34 rfl ?_
        refine V_iload_n dX3_takeAim_35 rfl ?_
        refine V_putW dX3_takeAim_36 fX3_81 ⟨Nat.le_of_ble_eq_true rfl, Nat.le_of_ble_eq_true rfl⟩ rfl rfl rfl ⟨rfl, rfl⟩ ?_
        refine V_aload_n dX3_takeAim_39 rfl ?_
        refine V_getR (b := 31) dX3_takeAim_40 fX3_47 ⟨Nat.le_of_ble_eq_true rfl, Nat.le_of_ble_eq_true rfl⟩ rfl rfl rfl ?_
        refine V_ldc2 dX3_takeAim_43 qX3_60 ?_
        refine V_callS (As := [.ref 31, .long (-4000000000000000000)]) (st := []) dX3_takeAim_46 kJ7_fill_d0a16 lX3_62 (by decide) rfl rfl (Nat.le_of_ble_eq_true rfl) ⟨Nat.le_of_ble_eq_true rfl, Nat.le_of_ble_eq_true rfl⟩ (c_fillL (a := 31) (n := 3822) ⟨Nat.le_of_ble_eq_true rfl, Nat.le_of_ble_eq_true rfl⟩ rfl (by decide)) ?_
        rintro _ _ _ _ ⟨rfl, rfl, rfl, rfl⟩
        exact V_ret ⟨rfl, dX3_takeAim_49⟩ ⟨Nat.le_of_ble_eq_true rfl, Nat.le_of_ble_eq_true rfl⟩ ⟨rfl, rfl, (if_neg (by simp_all)).symm, (if_neg (by simp_all)).symm⟩

set_option maxRecDepth 100000 in
set_option maxHeartbeats 4000000 in
theorem c_aimBy {G : zG} {I : zI} {J : zJ} {j k : Int32} : zK G mX3_aimBy 2 [.ref 9, .int j, .int k] zsh I J (zA2 (fun I' J' => I' = eAim I (nI 1) j k ∧ J' = eAimJ I J (nI 1) j k)) := by
  refine zK_of kX3_aimBy.2.2.2.2.1 (Nat.le_of_ble_eq_true rfl) ?_
  show V G mX3_aimBy 2 _ 0 [(0, .ref 9), (1, .int j), (2, .int k)] [] (0, 0) zsh I J
  refine V_aload_n dX3_aimBy_0 rfl ?_
  refine V_iconst (v := nI 1) dX3_aimBy_1 rfl ?_
  refine V_iload_n dX3_aimBy_2 rfl ?_
  refine V_iload_n dX3_aimBy_3 rfl ?_
  refine V_callV (As := [.int (nI 1), .int j, .int k]) (st := []) (a := 9) dX3_aimBy_4 kX3_takeAim lX3_74 (by decide) rfl rfl (Nat.le_of_ble_eq_true rfl) ⟨Nat.le_of_ble_eq_true rfl, Nat.le_of_ble_eq_true rfl⟩ ⟨Nat.le_of_ble_eq_true rfl, Nat.le_of_ble_eq_true rfl⟩ rfl ⟨rfl, by decide⟩ c_takeAim ?_
  rintro _ _ _ _ ⟨rfl, rfl, rfl, rfl⟩
  exact V_ret ⟨rfl, dX3_aimBy_7⟩ ⟨Nat.le_of_ble_eq_true rfl, Nat.le_of_ble_eq_true rfl⟩ ⟨rfl, rfl, rfl, rfl⟩

set_option maxRecDepth 100000 in
set_option maxHeartbeats 4000000 in
theorem c_aimAtLeast {G : zG} {I : zI} {J : zJ} {k : Int32} : zK G mX3_aimAtLeast 2 [.ref 9, .int k] zsh I J (zA2 (fun I' J' => I' = eAim I (nI 2) k (nI 0) ∧ J' = eAimJ I J (nI 2) k (nI 0))) := by
  refine zK_of kX3_aimAtLeast.2.2.2.2.1 (Nat.le_of_ble_eq_true rfl) ?_
  show V G mX3_aimAtLeast 2 _ 0 [(0, .ref 9), (1, .int k)] [] (0, 0) zsh I J
  refine V_aload_n dX3_aimAtLeast_0 rfl ?_
  refine V_iconst (v := nI 2) dX3_aimAtLeast_1 rfl ?_
  refine V_iload_n dX3_aimAtLeast_2 rfl ?_
  refine V_iconst (v := nI 0) dX3_aimAtLeast_3 rfl ?_
  refine V_callV (As := [.int (nI 2), .int k, .int (nI 0)]) (st := []) (a := 9) dX3_aimAtLeast_4 kX3_takeAim lX3_74 (by decide) rfl rfl (Nat.le_of_ble_eq_true rfl) ⟨Nat.le_of_ble_eq_true rfl, Nat.le_of_ble_eq_true rfl⟩ ⟨Nat.le_of_ble_eq_true rfl, Nat.le_of_ble_eq_true rfl⟩ rfl ⟨rfl, by decide⟩ c_takeAim ?_
  rintro _ _ _ _ ⟨rfl, rfl, rfl, rfl⟩
  exact V_ret ⟨rfl, dX3_aimAtLeast_7⟩ ⟨Nat.le_of_ble_eq_true rfl, Nat.le_of_ble_eq_true rfl⟩ ⟨rfl, rfl, rfl, rfl⟩

/-- what the letters stand for in a state, for a side -/
def fct (p q last side far k : Nat) : Int32 := ([nI side, nI (tHand (if side = 0 then p else q)), nI (tHand (if side = 0 then q else p)), nI (tBest (if side = 0 then p else q)), nI (tBest (if side = 0 then q else p)), nI far, nI (if side = last then 1 else 0), nI (tBel (5 * (if side = 0 then p else q) + 4)), nI (tBel (5 * (if side = 0 then q else p) + 4))] : List Int32).getD k 0
def ltI (I I' : zI) (F : Nat → Int32) : Prop := (∀ a, a ≠ 28 → I' a = I a) ∧ ∀ k, k < 9 → I' 28 k = F k
theorem tabX_c {I I' : zI} (h : tabX I) (e : I' 11 = I 11 ∧ I' 12 = I 12 ∧ I' 13 = I 13 ∧ I' 14 = I 14 ∧ I' 15 = I 15) : tabX I' := by
  obtain ⟨e1, e2, e3, e4, e5⟩ := e
  unfold tabX
  rw [e1, e2, e3, e4, e5]
  exact h
theorem tabX_h {I : zI} (I1 : zI) (h : tabX I) (e : I1 11 = I 11 ∧ I1 12 = I 12 ∧ I1 13 = I 13 ∧ I1 14 = I 14 ∧ I1 15 = I 15) : tabX I1 := tabX_c h e
set_option maxRecDepth 100000 in
set_option maxHeartbeats 4000000 in
theorem c_tellLetters {G : zG} {I : zI} {J : zJ} (hT : tabX I) {far p q last side : Nat} (hf : I 9 4 = nI far) (hp : p < 56) (hq : q < 56) (hl : last ≤ 1) (hs : side ≤ 1) : zK G mX3_tellLetters 2 [.ref 9, .int (nI p), .int (nI q), .int (nI last), .int (nI side)] zsh I J (zP (fun r I' J' => r = none ∧ ltI I I' (fct p q last side far) ∧ J = J')) := by
  refine zK_of kX3_tellLetters.2.2.2.2.1 (Nat.le_of_ble_eq_true rfl) ?_
  show V G mX3_tellLetters 2 _ 0 [(0, .ref 9), (1, .int (nI p)), (2, .int (nI q)), (3, .int (nI last)), (4, .int (nI side))] [] (0, 0) zsh I J
  refine V_iload dX3_tellLetters_0 rfl ?_
  refine V_if_neN (tgt := 9) dX3_tellLetters_2 rfl (by omega) (fun h2 => ?_) (fun h2 => ?_)
  · skip
    refine V_iload_n dX3_tellLetters_9 rfl ?_
    refine V_istore (ls' := [(5, .int (nI q)), (0, .ref 9), (1, .int (nI p)), (2, .int (nI q)), (3, .int (nI last)), (4, .int (nI side))]) dX3_tellLetters_10 (by decide) rfl ?_
    refine V_iload dX3_tellLetters_12 rfl ?_
    refine V_if_neN (tgt := 21) dX3_tellLetters_14 rfl (by omega) (fun _ => ?_) (fun h => absurd h h2)
    refine V_iload_n dX3_tellLetters_21 rfl ?_
    refine V_istore (ls' := [(6, .int (nI p)), (5, .int (nI q)), (0, .ref 9), (1, .int (nI p)), (2, .int (nI q)), (3, .int (nI last)), (4, .int (nI side))]) dX3_tellLetters_22 (by decide) rfl ?_
    refine V_aload_n dX3_tellLetters_24 rfl ?_
    refine V_getR (b := 27) dX3_tellLetters_25 fX3_32 ⟨Nat.le_of_ble_eq_true rfl, Nat.le_of_ble_eq_true rfl⟩ rfl rfl rfl ?_
    refine V_getR (b := 28) dX3_tellLetters_28 fX3_178 ⟨Nat.le_of_ble_eq_true rfl, Nat.le_of_ble_eq_true rfl⟩ rfl rfl rfl ?_
    refine V_astore (ls' := [(7, .ref 28), (6, .int (nI p)), (5, .int (nI q)), (0, .ref 9), (1, .int (nI p)), (2, .int (nI q)), (3, .int (nI last)), (4, .int (nI side))]) dX3_tellLetters_31 (by decide) rfl ?_
    refine V_aload dX3_tellLetters_33 rfl ?_
    refine V_iconst (v := nI 0) dX3_tellLetters_35 rfl ?_
    refine V_iload dX3_tellLetters_36 rfl ?_
    refine V_iastN (k := 0) dX3_tellLetters_38 ⟨Nat.le_of_ble_eq_true rfl, Nat.le_of_ble_eq_true rfl⟩ rfl (by decide) (by omega) ?_
    refine V_aload dX3_tellLetters_39 rfl ?_
    refine V_iconst (v := nI 1) dX3_tellLetters_41 rfl ?_
    refine V_aload_n dX3_tellLetters_42 rfl ?_
    refine V_getR (b := 10) dX3_tellLetters_43 fX3_14 ⟨Nat.le_of_ble_eq_true rfl, Nat.le_of_ble_eq_true rfl⟩ rfl rfl rfl ?_
    refine V_iload dX3_tellLetters_46 rfl ?_
    refine V_callV (As := [.int (nI q)]) (st := [.int (nI 1), .ref 28]) (a := 10) dX3_tellLetters_48 kX2_handOf lX3_181 (by decide) rfl rfl (Nat.le_of_ble_eq_true rfl) ⟨Nat.le_of_ble_eq_true rfl, Nat.le_of_ble_eq_true rfl⟩ ⟨Nat.le_of_ble_eq_true rfl, Nat.le_of_ble_eq_true rfl⟩ rfl ⟨rfl, by decide⟩ (c_handOf (tabX_h (zwr I 28 0 (nI side)) hT ⟨rfl, rfl, rfl, rfl, rfl⟩) (by omega)) ?_
    rintro _ _ _ _ ⟨rfl, rfl, rfl, rfl⟩
    refine V_iastN (k := 1) dX3_tellLetters_51 ⟨Nat.le_of_ble_eq_true rfl, Nat.le_of_ble_eq_true rfl⟩ rfl (by decide) (by omega) ?_
    refine V_aload dX3_tellLetters_52 rfl ?_
    refine V_iconst (v := nI 2) dX3_tellLetters_54 rfl ?_
    refine V_aload_n dX3_tellLetters_55 rfl ?_
    refine V_getR (b := 10) dX3_tellLetters_56 fX3_14 ⟨Nat.le_of_ble_eq_true rfl, Nat.le_of_ble_eq_true rfl⟩ rfl rfl rfl ?_
    refine V_iload dX3_tellLetters_59 rfl ?_
    refine V_callV (As := [.int (nI p)]) (st := [.int (nI 2), .ref 28]) (a := 10) dX3_tellLetters_61 kX2_handOf lX3_181 (by decide) rfl rfl (Nat.le_of_ble_eq_true rfl) ⟨Nat.le_of_ble_eq_true rfl, Nat.le_of_ble_eq_true rfl⟩ ⟨Nat.le_of_ble_eq_true rfl, Nat.le_of_ble_eq_true rfl⟩ rfl ⟨rfl, by decide⟩ (c_handOf (tabX_h (zwr (zwr I 28 0 (nI side)) 28 1 (nI (tHand q))) hT ⟨rfl, rfl, rfl, rfl, rfl⟩) (by omega)) ?_
    rintro _ _ _ _ ⟨rfl, rfl, rfl, rfl⟩
    refine V_iastN (k := 2) dX3_tellLetters_64 ⟨Nat.le_of_ble_eq_true rfl, Nat.le_of_ble_eq_true rfl⟩ rfl (by decide) (by omega) ?_
    refine V_aload dX3_tellLetters_65 rfl ?_
    refine V_iconst (v := nI 3) dX3_tellLetters_67 rfl ?_
    refine V_aload_n dX3_tellLetters_68 rfl ?_
    refine V_getR (b := 10) dX3_tellLetters_69 fX3_14 ⟨Nat.le_of_ble_eq_true rfl, Nat.le_of_ble_eq_true rfl⟩ rfl rfl rfl ?_
    refine V_iload dX3_tellLetters_72 rfl ?_
    refine V_callV (As := [.int (nI q)]) (st := [.int (nI 3), .ref 28]) (a := 10) dX3_tellLetters_74 kX2_bestRingOf lX3_184 (by decide) rfl rfl (Nat.le_of_ble_eq_true rfl) ⟨Nat.le_of_ble_eq_true rfl, Nat.le_of_ble_eq_true rfl⟩ ⟨Nat.le_of_ble_eq_true rfl, Nat.le_of_ble_eq_true rfl⟩ rfl ⟨rfl, by decide⟩ (c_bestRingOf (tabX_h (zwr (zwr (zwr I 28 0 (nI side)) 28 1 (nI (tHand q))) 28 2 (nI (tHand p))) hT ⟨rfl, rfl, rfl, rfl, rfl⟩) (by omega)) ?_
    rintro _ _ _ _ ⟨rfl, rfl, rfl, rfl⟩
    refine V_iastN (k := 3) dX3_tellLetters_77 ⟨Nat.le_of_ble_eq_true rfl, Nat.le_of_ble_eq_true rfl⟩ rfl (by decide) (by omega) ?_
    refine V_aload dX3_tellLetters_78 rfl ?_
    refine V_iconst (v := nI 4) dX3_tellLetters_80 rfl ?_
    refine V_aload_n dX3_tellLetters_81 rfl ?_
    refine V_getR (b := 10) dX3_tellLetters_82 fX3_14 ⟨Nat.le_of_ble_eq_true rfl, Nat.le_of_ble_eq_true rfl⟩ rfl rfl rfl ?_
    refine V_iload dX3_tellLetters_85 rfl ?_
    refine V_callV (As := [.int (nI p)]) (st := [.int (nI 4), .ref 28]) (a := 10) dX3_tellLetters_87 kX2_bestRingOf lX3_184 (by decide) rfl rfl (Nat.le_of_ble_eq_true rfl) ⟨Nat.le_of_ble_eq_true rfl, Nat.le_of_ble_eq_true rfl⟩ ⟨Nat.le_of_ble_eq_true rfl, Nat.le_of_ble_eq_true rfl⟩ rfl ⟨rfl, by decide⟩ (c_bestRingOf (tabX_h (zwr (zwr (zwr (zwr I 28 0 (nI side)) 28 1 (nI (tHand q))) 28 2 (nI (tHand p))) 28 3 (nI (tBest q))) hT ⟨rfl, rfl, rfl, rfl, rfl⟩) (by omega)) ?_
    rintro _ _ _ _ ⟨rfl, rfl, rfl, rfl⟩
    refine V_iastN (k := 4) dX3_tellLetters_90 ⟨Nat.le_of_ble_eq_true rfl, Nat.le_of_ble_eq_true rfl⟩ rfl (by decide) (by omega) ?_
    refine V_aload dX3_tellLetters_91 rfl ?_
    refine V_iconst (v := nI 5) dX3_tellLetters_93 rfl ?_
    refine V_aload_n dX3_tellLetters_94 rfl ?_
    refine V_getI dX3_tellLetters_95 fX3_36 ⟨Nat.le_of_ble_eq_true rfl, Nat.le_of_ble_eq_true rfl⟩ rfl rfl ?_
    refine V_eqI (y := I 9 4) rfl ?_
    refine V_eqI (y := nI far) hf ?_
    refine V_iastN (k := 5) dX3_tellLetters_98 ⟨Nat.le_of_ble_eq_true rfl, Nat.le_of_ble_eq_true rfl⟩ rfl (by decide) (by omega) ?_
    refine V_aload dX3_tellLetters_99 rfl ?_
    refine V_bipush (v := nI 6) dX3_tellLetters_101 rfl ?_
    refine V_iload dX3_tellLetters_103 rfl ?_
    refine V_iload_n dX3_tellLetters_105 rfl ?_
    refine V_icmp_neN (tgt := 113) dX3_tellLetters_106 rfl (by omega) (by omega) (fun h106 => ?_) (fun h106 => ?_)
    · skip
      refine V_iconst (v := nI 0) dX3_tellLetters_113 rfl ?_
      refine V_iastN (k := 6) dX3_tellLetters_114 ⟨Nat.le_of_ble_eq_true rfl, Nat.le_of_ble_eq_true rfl⟩ rfl (by decide) (by omega) ?_
      refine V_aload dX3_tellLetters_115 rfl ?_
      refine V_bipush (v := nI 7) dX3_tellLetters_117 rfl ?_
      refine V_aload_n dX3_tellLetters_119 rfl ?_
      refine V_getR (b := 10) dX3_tellLetters_120 fX3_14 ⟨Nat.le_of_ble_eq_true rfl, Nat.le_of_ble_eq_true rfl⟩ rfl rfl rfl ?_
      refine V_iload dX3_tellLetters_123 rfl ?_
      refine V_callV (As := [.int (nI q)]) (st := [.int (nI 7), .ref 28]) (a := 10) dX3_tellLetters_125 kX2_lyingOf lX3_187 (by decide) rfl rfl (Nat.le_of_ble_eq_true rfl) ⟨Nat.le_of_ble_eq_true rfl, Nat.le_of_ble_eq_true rfl⟩ ⟨Nat.le_of_ble_eq_true rfl, Nat.le_of_ble_eq_true rfl⟩ rfl ⟨rfl, by decide⟩ (c_lyingOf (tabX_h (zwr (zwr (zwr (zwr (zwr (zwr (zwr I 28 0 (nI side)) 28 1 (nI (tHand q))) 28 2 (nI (tHand p))) 28 3 (nI (tBest q))) 28 4 (nI (tBest p))) 28 5 (nI far)) 28 6 (nI 0)) hT ⟨rfl, rfl, rfl, rfl, rfl⟩) (by omega)) ?_
      rintro _ _ _ _ ⟨rfl, rfl, rfl, rfl⟩
      refine V_iastN (k := 7) dX3_tellLetters_128 ⟨Nat.le_of_ble_eq_true rfl, Nat.le_of_ble_eq_true rfl⟩ rfl (by decide) (by omega) ?_
      refine V_aload dX3_tellLetters_129 rfl ?_
      refine V_bipush (v := nI 8) dX3_tellLetters_131 rfl ?_
      refine V_aload_n dX3_tellLetters_133 rfl ?_
      refine V_getR (b := 10) dX3_tellLetters_134 fX3_14 ⟨Nat.le_of_ble_eq_true rfl, Nat.le_of_ble_eq_true rfl⟩ rfl rfl rfl ?_
      refine V_iload dX3_tellLetters_137 rfl ?_
      refine V_callV (As := [.int (nI p)]) (st := [.int (nI 8), .ref 28]) (a := 10) dX3_tellLetters_139 kX2_lyingOf lX3_187 (by decide) rfl rfl (Nat.le_of_ble_eq_true rfl) ⟨Nat.le_of_ble_eq_true rfl, Nat.le_of_ble_eq_true rfl⟩ ⟨Nat.le_of_ble_eq_true rfl, Nat.le_of_ble_eq_true rfl⟩ rfl ⟨rfl, by decide⟩ (c_lyingOf (tabX_h (zwr (zwr (zwr (zwr (zwr (zwr (zwr (zwr I 28 0 (nI side)) 28 1 (nI (tHand q))) 28 2 (nI (tHand p))) 28 3 (nI (tBest q))) 28 4 (nI (tBest p))) 28 5 (nI far)) 28 6 (nI 0)) 28 7 (nI (tBel (5 * q + 4)))) hT ⟨rfl, rfl, rfl, rfl, rfl⟩) (by omega)) ?_
      rintro _ _ _ _ ⟨rfl, rfl, rfl, rfl⟩
      refine V_iastN (k := 8) dX3_tellLetters_142 ⟨Nat.le_of_ble_eq_true rfl, Nat.le_of_ble_eq_true rfl⟩ rfl (by decide) (by omega) ?_
      have em : (if side = 0 then p else q) = q := if_neg h2
      have et : (if side = 0 then q else p) = p := if_neg h2
      have hrows : ∀ k, k < 9 → (zwr (zwr (zwr (zwr (zwr (zwr (zwr (zwr (zwr I 28 0 (nI side)) 28 1 (nI (tHand q))) 28 2 (nI (tHand p))) 28 3 (nI (tBest q))) 28 4 (nI (tBest p))) 28 5 (nI far)) 28 6 (nI 0)) 28 7 (nI (tBel (5 * q + 4)))) 28 8 (nI (tBel (5 * p + 4)))) 28 k = fct p q last side far k := by
        intro k hk
        rcases (show k = 0 ∨ k = 1 ∨ k = 2 ∨ k = 3 ∨ k = 4 ∨ k = 5 ∨ k = 6 ∨ k = 7 ∨ k = 8 by omega) with h | h | h | h | h | h | h | h | h <;> subst h
        · rfl
        · show nI (tHand q) = nI (tHand (if side = 0 then p else q)); rw [em]
        · show nI (tHand p) = nI (tHand (if side = 0 then q else p)); rw [et]
        · show nI (tBest q) = nI (tBest (if side = 0 then p else q)); rw [em]
        · show nI (tBest p) = nI (tBest (if side = 0 then q else p)); rw [et]
        · rfl
        · show nI 0 = nI (if side = last then 1 else 0); rw [if_neg (by omega)]
        · show nI (tBel (5 * q + 4)) = nI (tBel (5 * (if side = 0 then p else q) + 4)); rw [em]
        · show nI (tBel (5 * p + 4)) = nI (tBel (5 * (if side = 0 then q else p) + 4)); rw [et]
      exact V_ret ⟨rfl, dX3_tellLetters_143⟩ ⟨Nat.le_of_ble_eq_true rfl, Nat.le_of_ble_eq_true rfl⟩ ⟨rfl, rfl, ⟨fun a ha => by funext j; simp only [zwr_at, ha, false_and, if_false], hrows⟩, rfl⟩
    · skip
      refine V_iconst (v := nI 1) dX3_tellLetters_109 rfl ?_
      refine V_goto (tgt := 114) dX3_tellLetters_110 rfl ?_
      refine V_iastN (k := 6) dX3_tellLetters_114 ⟨Nat.le_of_ble_eq_true rfl, Nat.le_of_ble_eq_true rfl⟩ rfl (by decide) (by omega) ?_
      refine V_aload dX3_tellLetters_115 rfl ?_
      refine V_bipush (v := nI 7) dX3_tellLetters_117 rfl ?_
      refine V_aload_n dX3_tellLetters_119 rfl ?_
      refine V_getR (b := 10) dX3_tellLetters_120 fX3_14 ⟨Nat.le_of_ble_eq_true rfl, Nat.le_of_ble_eq_true rfl⟩ rfl rfl rfl ?_
      refine V_iload dX3_tellLetters_123 rfl ?_
      refine V_callV (As := [.int (nI q)]) (st := [.int (nI 7), .ref 28]) (a := 10) dX3_tellLetters_125 kX2_lyingOf lX3_187 (by decide) rfl rfl (Nat.le_of_ble_eq_true rfl) ⟨Nat.le_of_ble_eq_true rfl, Nat.le_of_ble_eq_true rfl⟩ ⟨Nat.le_of_ble_eq_true rfl, Nat.le_of_ble_eq_true rfl⟩ rfl ⟨rfl, by decide⟩ (c_lyingOf (tabX_h (zwr (zwr (zwr (zwr (zwr (zwr (zwr I 28 0 (nI side)) 28 1 (nI (tHand q))) 28 2 (nI (tHand p))) 28 3 (nI (tBest q))) 28 4 (nI (tBest p))) 28 5 (nI far)) 28 6 (nI 1)) hT ⟨rfl, rfl, rfl, rfl, rfl⟩) (by omega)) ?_
      rintro _ _ _ _ ⟨rfl, rfl, rfl, rfl⟩
      refine V_iastN (k := 7) dX3_tellLetters_128 ⟨Nat.le_of_ble_eq_true rfl, Nat.le_of_ble_eq_true rfl⟩ rfl (by decide) (by omega) ?_
      refine V_aload dX3_tellLetters_129 rfl ?_
      refine V_bipush (v := nI 8) dX3_tellLetters_131 rfl ?_
      refine V_aload_n dX3_tellLetters_133 rfl ?_
      refine V_getR (b := 10) dX3_tellLetters_134 fX3_14 ⟨Nat.le_of_ble_eq_true rfl, Nat.le_of_ble_eq_true rfl⟩ rfl rfl rfl ?_
      refine V_iload dX3_tellLetters_137 rfl ?_
      refine V_callV (As := [.int (nI p)]) (st := [.int (nI 8), .ref 28]) (a := 10) dX3_tellLetters_139 kX2_lyingOf lX3_187 (by decide) rfl rfl (Nat.le_of_ble_eq_true rfl) ⟨Nat.le_of_ble_eq_true rfl, Nat.le_of_ble_eq_true rfl⟩ ⟨Nat.le_of_ble_eq_true rfl, Nat.le_of_ble_eq_true rfl⟩ rfl ⟨rfl, by decide⟩ (c_lyingOf (tabX_h (zwr (zwr (zwr (zwr (zwr (zwr (zwr (zwr I 28 0 (nI side)) 28 1 (nI (tHand q))) 28 2 (nI (tHand p))) 28 3 (nI (tBest q))) 28 4 (nI (tBest p))) 28 5 (nI far)) 28 6 (nI 1)) 28 7 (nI (tBel (5 * q + 4)))) hT ⟨rfl, rfl, rfl, rfl, rfl⟩) (by omega)) ?_
      rintro _ _ _ _ ⟨rfl, rfl, rfl, rfl⟩
      refine V_iastN (k := 8) dX3_tellLetters_142 ⟨Nat.le_of_ble_eq_true rfl, Nat.le_of_ble_eq_true rfl⟩ rfl (by decide) (by omega) ?_
      have em : (if side = 0 then p else q) = q := if_neg h2
      have et : (if side = 0 then q else p) = p := if_neg h2
      have hrows : ∀ k, k < 9 → (zwr (zwr (zwr (zwr (zwr (zwr (zwr (zwr (zwr I 28 0 (nI side)) 28 1 (nI (tHand q))) 28 2 (nI (tHand p))) 28 3 (nI (tBest q))) 28 4 (nI (tBest p))) 28 5 (nI far)) 28 6 (nI 1)) 28 7 (nI (tBel (5 * q + 4)))) 28 8 (nI (tBel (5 * p + 4)))) 28 k = fct p q last side far k := by
        intro k hk
        rcases (show k = 0 ∨ k = 1 ∨ k = 2 ∨ k = 3 ∨ k = 4 ∨ k = 5 ∨ k = 6 ∨ k = 7 ∨ k = 8 by omega) with h | h | h | h | h | h | h | h | h <;> subst h
        · rfl
        · show nI (tHand q) = nI (tHand (if side = 0 then p else q)); rw [em]
        · show nI (tHand p) = nI (tHand (if side = 0 then q else p)); rw [et]
        · show nI (tBest q) = nI (tBest (if side = 0 then p else q)); rw [em]
        · show nI (tBest p) = nI (tBest (if side = 0 then q else p)); rw [et]
        · rfl
        · show nI 1 = nI (if side = last then 1 else 0); rw [if_pos (by omega)]
        · show nI (tBel (5 * q + 4)) = nI (tBel (5 * (if side = 0 then p else q) + 4)); rw [em]
        · show nI (tBel (5 * p + 4)) = nI (tBel (5 * (if side = 0 then q else p) + 4)); rw [et]
      exact V_ret ⟨rfl, dX3_tellLetters_143⟩ ⟨Nat.le_of_ble_eq_true rfl, Nat.le_of_ble_eq_true rfl⟩ ⟨rfl, rfl, ⟨fun a ha => by funext j; simp only [zwr_at, ha, false_and, if_false], hrows⟩, rfl⟩
  · skip
    refine V_iload_n dX3_tellLetters_5 rfl ?_
    refine V_goto (tgt := 10) dX3_tellLetters_6 rfl ?_
    refine V_istore (ls' := [(5, .int (nI p)), (0, .ref 9), (1, .int (nI p)), (2, .int (nI q)), (3, .int (nI last)), (4, .int (nI side))]) dX3_tellLetters_10 (by decide) rfl ?_
    refine V_iload dX3_tellLetters_12 rfl ?_
    refine V_if_neN (tgt := 21) dX3_tellLetters_14 rfl (by omega) (fun h => absurd h2 h) (fun _ => ?_)
    refine V_iload_n dX3_tellLetters_17 rfl ?_
    refine V_goto (tgt := 22) dX3_tellLetters_18 rfl ?_
    refine V_istore (ls' := [(6, .int (nI q)), (5, .int (nI p)), (0, .ref 9), (1, .int (nI p)), (2, .int (nI q)), (3, .int (nI last)), (4, .int (nI side))]) dX3_tellLetters_22 (by decide) rfl ?_
    refine V_aload_n dX3_tellLetters_24 rfl ?_
    refine V_getR (b := 27) dX3_tellLetters_25 fX3_32 ⟨Nat.le_of_ble_eq_true rfl, Nat.le_of_ble_eq_true rfl⟩ rfl rfl rfl ?_
    refine V_getR (b := 28) dX3_tellLetters_28 fX3_178 ⟨Nat.le_of_ble_eq_true rfl, Nat.le_of_ble_eq_true rfl⟩ rfl rfl rfl ?_
    refine V_astore (ls' := [(7, .ref 28), (6, .int (nI q)), (5, .int (nI p)), (0, .ref 9), (1, .int (nI p)), (2, .int (nI q)), (3, .int (nI last)), (4, .int (nI side))]) dX3_tellLetters_31 (by decide) rfl ?_
    refine V_aload dX3_tellLetters_33 rfl ?_
    refine V_iconst (v := nI 0) dX3_tellLetters_35 rfl ?_
    refine V_iload dX3_tellLetters_36 rfl ?_
    refine V_iastN (k := 0) dX3_tellLetters_38 ⟨Nat.le_of_ble_eq_true rfl, Nat.le_of_ble_eq_true rfl⟩ rfl (by decide) (by omega) ?_
    refine V_aload dX3_tellLetters_39 rfl ?_
    refine V_iconst (v := nI 1) dX3_tellLetters_41 rfl ?_
    refine V_aload_n dX3_tellLetters_42 rfl ?_
    refine V_getR (b := 10) dX3_tellLetters_43 fX3_14 ⟨Nat.le_of_ble_eq_true rfl, Nat.le_of_ble_eq_true rfl⟩ rfl rfl rfl ?_
    refine V_iload dX3_tellLetters_46 rfl ?_
    refine V_callV (As := [.int (nI p)]) (st := [.int (nI 1), .ref 28]) (a := 10) dX3_tellLetters_48 kX2_handOf lX3_181 (by decide) rfl rfl (Nat.le_of_ble_eq_true rfl) ⟨Nat.le_of_ble_eq_true rfl, Nat.le_of_ble_eq_true rfl⟩ ⟨Nat.le_of_ble_eq_true rfl, Nat.le_of_ble_eq_true rfl⟩ rfl ⟨rfl, by decide⟩ (c_handOf (tabX_h (zwr I 28 0 (nI side)) hT ⟨rfl, rfl, rfl, rfl, rfl⟩) (by omega)) ?_
    rintro _ _ _ _ ⟨rfl, rfl, rfl, rfl⟩
    refine V_iastN (k := 1) dX3_tellLetters_51 ⟨Nat.le_of_ble_eq_true rfl, Nat.le_of_ble_eq_true rfl⟩ rfl (by decide) (by omega) ?_
    refine V_aload dX3_tellLetters_52 rfl ?_
    refine V_iconst (v := nI 2) dX3_tellLetters_54 rfl ?_
    refine V_aload_n dX3_tellLetters_55 rfl ?_
    refine V_getR (b := 10) dX3_tellLetters_56 fX3_14 ⟨Nat.le_of_ble_eq_true rfl, Nat.le_of_ble_eq_true rfl⟩ rfl rfl rfl ?_
    refine V_iload dX3_tellLetters_59 rfl ?_
    refine V_callV (As := [.int (nI q)]) (st := [.int (nI 2), .ref 28]) (a := 10) dX3_tellLetters_61 kX2_handOf lX3_181 (by decide) rfl rfl (Nat.le_of_ble_eq_true rfl) ⟨Nat.le_of_ble_eq_true rfl, Nat.le_of_ble_eq_true rfl⟩ ⟨Nat.le_of_ble_eq_true rfl, Nat.le_of_ble_eq_true rfl⟩ rfl ⟨rfl, by decide⟩ (c_handOf (tabX_h (zwr (zwr I 28 0 (nI side)) 28 1 (nI (tHand p))) hT ⟨rfl, rfl, rfl, rfl, rfl⟩) (by omega)) ?_
    rintro _ _ _ _ ⟨rfl, rfl, rfl, rfl⟩
    refine V_iastN (k := 2) dX3_tellLetters_64 ⟨Nat.le_of_ble_eq_true rfl, Nat.le_of_ble_eq_true rfl⟩ rfl (by decide) (by omega) ?_
    refine V_aload dX3_tellLetters_65 rfl ?_
    refine V_iconst (v := nI 3) dX3_tellLetters_67 rfl ?_
    refine V_aload_n dX3_tellLetters_68 rfl ?_
    refine V_getR (b := 10) dX3_tellLetters_69 fX3_14 ⟨Nat.le_of_ble_eq_true rfl, Nat.le_of_ble_eq_true rfl⟩ rfl rfl rfl ?_
    refine V_iload dX3_tellLetters_72 rfl ?_
    refine V_callV (As := [.int (nI p)]) (st := [.int (nI 3), .ref 28]) (a := 10) dX3_tellLetters_74 kX2_bestRingOf lX3_184 (by decide) rfl rfl (Nat.le_of_ble_eq_true rfl) ⟨Nat.le_of_ble_eq_true rfl, Nat.le_of_ble_eq_true rfl⟩ ⟨Nat.le_of_ble_eq_true rfl, Nat.le_of_ble_eq_true rfl⟩ rfl ⟨rfl, by decide⟩ (c_bestRingOf (tabX_h (zwr (zwr (zwr I 28 0 (nI side)) 28 1 (nI (tHand p))) 28 2 (nI (tHand q))) hT ⟨rfl, rfl, rfl, rfl, rfl⟩) (by omega)) ?_
    rintro _ _ _ _ ⟨rfl, rfl, rfl, rfl⟩
    refine V_iastN (k := 3) dX3_tellLetters_77 ⟨Nat.le_of_ble_eq_true rfl, Nat.le_of_ble_eq_true rfl⟩ rfl (by decide) (by omega) ?_
    refine V_aload dX3_tellLetters_78 rfl ?_
    refine V_iconst (v := nI 4) dX3_tellLetters_80 rfl ?_
    refine V_aload_n dX3_tellLetters_81 rfl ?_
    refine V_getR (b := 10) dX3_tellLetters_82 fX3_14 ⟨Nat.le_of_ble_eq_true rfl, Nat.le_of_ble_eq_true rfl⟩ rfl rfl rfl ?_
    refine V_iload dX3_tellLetters_85 rfl ?_
    refine V_callV (As := [.int (nI q)]) (st := [.int (nI 4), .ref 28]) (a := 10) dX3_tellLetters_87 kX2_bestRingOf lX3_184 (by decide) rfl rfl (Nat.le_of_ble_eq_true rfl) ⟨Nat.le_of_ble_eq_true rfl, Nat.le_of_ble_eq_true rfl⟩ ⟨Nat.le_of_ble_eq_true rfl, Nat.le_of_ble_eq_true rfl⟩ rfl ⟨rfl, by decide⟩ (c_bestRingOf (tabX_h (zwr (zwr (zwr (zwr I 28 0 (nI side)) 28 1 (nI (tHand p))) 28 2 (nI (tHand q))) 28 3 (nI (tBest p))) hT ⟨rfl, rfl, rfl, rfl, rfl⟩) (by omega)) ?_
    rintro _ _ _ _ ⟨rfl, rfl, rfl, rfl⟩
    refine V_iastN (k := 4) dX3_tellLetters_90 ⟨Nat.le_of_ble_eq_true rfl, Nat.le_of_ble_eq_true rfl⟩ rfl (by decide) (by omega) ?_
    refine V_aload dX3_tellLetters_91 rfl ?_
    refine V_iconst (v := nI 5) dX3_tellLetters_93 rfl ?_
    refine V_aload_n dX3_tellLetters_94 rfl ?_
    refine V_getI dX3_tellLetters_95 fX3_36 ⟨Nat.le_of_ble_eq_true rfl, Nat.le_of_ble_eq_true rfl⟩ rfl rfl ?_
    refine V_eqI (y := I 9 4) rfl ?_
    refine V_eqI (y := nI far) hf ?_
    refine V_iastN (k := 5) dX3_tellLetters_98 ⟨Nat.le_of_ble_eq_true rfl, Nat.le_of_ble_eq_true rfl⟩ rfl (by decide) (by omega) ?_
    refine V_aload dX3_tellLetters_99 rfl ?_
    refine V_bipush (v := nI 6) dX3_tellLetters_101 rfl ?_
    refine V_iload dX3_tellLetters_103 rfl ?_
    refine V_iload_n dX3_tellLetters_105 rfl ?_
    refine V_icmp_neN (tgt := 113) dX3_tellLetters_106 rfl (by omega) (by omega) (fun h106 => ?_) (fun h106 => ?_)
    · skip
      refine V_iconst (v := nI 0) dX3_tellLetters_113 rfl ?_
      refine V_iastN (k := 6) dX3_tellLetters_114 ⟨Nat.le_of_ble_eq_true rfl, Nat.le_of_ble_eq_true rfl⟩ rfl (by decide) (by omega) ?_
      refine V_aload dX3_tellLetters_115 rfl ?_
      refine V_bipush (v := nI 7) dX3_tellLetters_117 rfl ?_
      refine V_aload_n dX3_tellLetters_119 rfl ?_
      refine V_getR (b := 10) dX3_tellLetters_120 fX3_14 ⟨Nat.le_of_ble_eq_true rfl, Nat.le_of_ble_eq_true rfl⟩ rfl rfl rfl ?_
      refine V_iload dX3_tellLetters_123 rfl ?_
      refine V_callV (As := [.int (nI p)]) (st := [.int (nI 7), .ref 28]) (a := 10) dX3_tellLetters_125 kX2_lyingOf lX3_187 (by decide) rfl rfl (Nat.le_of_ble_eq_true rfl) ⟨Nat.le_of_ble_eq_true rfl, Nat.le_of_ble_eq_true rfl⟩ ⟨Nat.le_of_ble_eq_true rfl, Nat.le_of_ble_eq_true rfl⟩ rfl ⟨rfl, by decide⟩ (c_lyingOf (tabX_h (zwr (zwr (zwr (zwr (zwr (zwr (zwr I 28 0 (nI side)) 28 1 (nI (tHand p))) 28 2 (nI (tHand q))) 28 3 (nI (tBest p))) 28 4 (nI (tBest q))) 28 5 (nI far)) 28 6 (nI 0)) hT ⟨rfl, rfl, rfl, rfl, rfl⟩) (by omega)) ?_
      rintro _ _ _ _ ⟨rfl, rfl, rfl, rfl⟩
      refine V_iastN (k := 7) dX3_tellLetters_128 ⟨Nat.le_of_ble_eq_true rfl, Nat.le_of_ble_eq_true rfl⟩ rfl (by decide) (by omega) ?_
      refine V_aload dX3_tellLetters_129 rfl ?_
      refine V_bipush (v := nI 8) dX3_tellLetters_131 rfl ?_
      refine V_aload_n dX3_tellLetters_133 rfl ?_
      refine V_getR (b := 10) dX3_tellLetters_134 fX3_14 ⟨Nat.le_of_ble_eq_true rfl, Nat.le_of_ble_eq_true rfl⟩ rfl rfl rfl ?_
      refine V_iload dX3_tellLetters_137 rfl ?_
      refine V_callV (As := [.int (nI q)]) (st := [.int (nI 8), .ref 28]) (a := 10) dX3_tellLetters_139 kX2_lyingOf lX3_187 (by decide) rfl rfl (Nat.le_of_ble_eq_true rfl) ⟨Nat.le_of_ble_eq_true rfl, Nat.le_of_ble_eq_true rfl⟩ ⟨Nat.le_of_ble_eq_true rfl, Nat.le_of_ble_eq_true rfl⟩ rfl ⟨rfl, by decide⟩ (c_lyingOf (tabX_h (zwr (zwr (zwr (zwr (zwr (zwr (zwr (zwr I 28 0 (nI side)) 28 1 (nI (tHand p))) 28 2 (nI (tHand q))) 28 3 (nI (tBest p))) 28 4 (nI (tBest q))) 28 5 (nI far)) 28 6 (nI 0)) 28 7 (nI (tBel (5 * p + 4)))) hT ⟨rfl, rfl, rfl, rfl, rfl⟩) (by omega)) ?_
      rintro _ _ _ _ ⟨rfl, rfl, rfl, rfl⟩
      refine V_iastN (k := 8) dX3_tellLetters_142 ⟨Nat.le_of_ble_eq_true rfl, Nat.le_of_ble_eq_true rfl⟩ rfl (by decide) (by omega) ?_
      have em : (if side = 0 then p else q) = p := if_pos h2
      have et : (if side = 0 then q else p) = q := if_pos h2
      have hrows : ∀ k, k < 9 → (zwr (zwr (zwr (zwr (zwr (zwr (zwr (zwr (zwr I 28 0 (nI side)) 28 1 (nI (tHand p))) 28 2 (nI (tHand q))) 28 3 (nI (tBest p))) 28 4 (nI (tBest q))) 28 5 (nI far)) 28 6 (nI 0)) 28 7 (nI (tBel (5 * p + 4)))) 28 8 (nI (tBel (5 * q + 4)))) 28 k = fct p q last side far k := by
        intro k hk
        rcases (show k = 0 ∨ k = 1 ∨ k = 2 ∨ k = 3 ∨ k = 4 ∨ k = 5 ∨ k = 6 ∨ k = 7 ∨ k = 8 by omega) with h | h | h | h | h | h | h | h | h <;> subst h
        · rfl
        · show nI (tHand p) = nI (tHand (if side = 0 then p else q)); rw [em]
        · show nI (tHand q) = nI (tHand (if side = 0 then q else p)); rw [et]
        · show nI (tBest p) = nI (tBest (if side = 0 then p else q)); rw [em]
        · show nI (tBest q) = nI (tBest (if side = 0 then q else p)); rw [et]
        · rfl
        · show nI 0 = nI (if side = last then 1 else 0); rw [if_neg (by omega)]
        · show nI (tBel (5 * p + 4)) = nI (tBel (5 * (if side = 0 then p else q) + 4)); rw [em]
        · show nI (tBel (5 * q + 4)) = nI (tBel (5 * (if side = 0 then q else p) + 4)); rw [et]
      exact V_ret ⟨rfl, dX3_tellLetters_143⟩ ⟨Nat.le_of_ble_eq_true rfl, Nat.le_of_ble_eq_true rfl⟩ ⟨rfl, rfl, ⟨fun a ha => by funext j; simp only [zwr_at, ha, false_and, if_false], hrows⟩, rfl⟩
    · skip
      refine V_iconst (v := nI 1) dX3_tellLetters_109 rfl ?_
      refine V_goto (tgt := 114) dX3_tellLetters_110 rfl ?_
      refine V_iastN (k := 6) dX3_tellLetters_114 ⟨Nat.le_of_ble_eq_true rfl, Nat.le_of_ble_eq_true rfl⟩ rfl (by decide) (by omega) ?_
      refine V_aload dX3_tellLetters_115 rfl ?_
      refine V_bipush (v := nI 7) dX3_tellLetters_117 rfl ?_
      refine V_aload_n dX3_tellLetters_119 rfl ?_
      refine V_getR (b := 10) dX3_tellLetters_120 fX3_14 ⟨Nat.le_of_ble_eq_true rfl, Nat.le_of_ble_eq_true rfl⟩ rfl rfl rfl ?_
      refine V_iload dX3_tellLetters_123 rfl ?_
      refine V_callV (As := [.int (nI p)]) (st := [.int (nI 7), .ref 28]) (a := 10) dX3_tellLetters_125 kX2_lyingOf lX3_187 (by decide) rfl rfl (Nat.le_of_ble_eq_true rfl) ⟨Nat.le_of_ble_eq_true rfl, Nat.le_of_ble_eq_true rfl⟩ ⟨Nat.le_of_ble_eq_true rfl, Nat.le_of_ble_eq_true rfl⟩ rfl ⟨rfl, by decide⟩ (c_lyingOf (tabX_h (zwr (zwr (zwr (zwr (zwr (zwr (zwr I 28 0 (nI side)) 28 1 (nI (tHand p))) 28 2 (nI (tHand q))) 28 3 (nI (tBest p))) 28 4 (nI (tBest q))) 28 5 (nI far)) 28 6 (nI 1)) hT ⟨rfl, rfl, rfl, rfl, rfl⟩) (by omega)) ?_
      rintro _ _ _ _ ⟨rfl, rfl, rfl, rfl⟩
      refine V_iastN (k := 7) dX3_tellLetters_128 ⟨Nat.le_of_ble_eq_true rfl, Nat.le_of_ble_eq_true rfl⟩ rfl (by decide) (by omega) ?_
      refine V_aload dX3_tellLetters_129 rfl ?_
      refine V_bipush (v := nI 8) dX3_tellLetters_131 rfl ?_
      refine V_aload_n dX3_tellLetters_133 rfl ?_
      refine V_getR (b := 10) dX3_tellLetters_134 fX3_14 ⟨Nat.le_of_ble_eq_true rfl, Nat.le_of_ble_eq_true rfl⟩ rfl rfl rfl ?_
      refine V_iload dX3_tellLetters_137 rfl ?_
      refine V_callV (As := [.int (nI q)]) (st := [.int (nI 8), .ref 28]) (a := 10) dX3_tellLetters_139 kX2_lyingOf lX3_187 (by decide) rfl rfl (Nat.le_of_ble_eq_true rfl) ⟨Nat.le_of_ble_eq_true rfl, Nat.le_of_ble_eq_true rfl⟩ ⟨Nat.le_of_ble_eq_true rfl, Nat.le_of_ble_eq_true rfl⟩ rfl ⟨rfl, by decide⟩ (c_lyingOf (tabX_h (zwr (zwr (zwr (zwr (zwr (zwr (zwr (zwr I 28 0 (nI side)) 28 1 (nI (tHand p))) 28 2 (nI (tHand q))) 28 3 (nI (tBest p))) 28 4 (nI (tBest q))) 28 5 (nI far)) 28 6 (nI 1)) 28 7 (nI (tBel (5 * p + 4)))) hT ⟨rfl, rfl, rfl, rfl, rfl⟩) (by omega)) ?_
      rintro _ _ _ _ ⟨rfl, rfl, rfl, rfl⟩
      refine V_iastN (k := 8) dX3_tellLetters_142 ⟨Nat.le_of_ble_eq_true rfl, Nat.le_of_ble_eq_true rfl⟩ rfl (by decide) (by omega) ?_
      have em : (if side = 0 then p else q) = p := if_pos h2
      have et : (if side = 0 then q else p) = q := if_pos h2
      have hrows : ∀ k, k < 9 → (zwr (zwr (zwr (zwr (zwr (zwr (zwr (zwr (zwr I 28 0 (nI side)) 28 1 (nI (tHand p))) 28 2 (nI (tHand q))) 28 3 (nI (tBest p))) 28 4 (nI (tBest q))) 28 5 (nI far)) 28 6 (nI 1)) 28 7 (nI (tBel (5 * p + 4)))) 28 8 (nI (tBel (5 * q + 4)))) 28 k = fct p q last side far k := by
        intro k hk
        rcases (show k = 0 ∨ k = 1 ∨ k = 2 ∨ k = 3 ∨ k = 4 ∨ k = 5 ∨ k = 6 ∨ k = 7 ∨ k = 8 by omega) with h | h | h | h | h | h | h | h | h <;> subst h
        · rfl
        · show nI (tHand p) = nI (tHand (if side = 0 then p else q)); rw [em]
        · show nI (tHand q) = nI (tHand (if side = 0 then q else p)); rw [et]
        · show nI (tBest p) = nI (tBest (if side = 0 then p else q)); rw [em]
        · show nI (tBest q) = nI (tBest (if side = 0 then q else p)); rw [et]
        · rfl
        · show nI 1 = nI (if side = last then 1 else 0); rw [if_pos (by omega)]
        · show nI (tBel (5 * p + 4)) = nI (tBel (5 * (if side = 0 then p else q) + 4)); rw [em]
        · show nI (tBel (5 * q + 4)) = nI (tBel (5 * (if side = 0 then q else p) + 4)); rw [et]
      exact V_ret ⟨rfl, dX3_tellLetters_143⟩ ⟨Nat.le_of_ble_eq_true rfl, Nat.le_of_ble_eq_true rfl⟩ ⟨rfl, rfl, ⟨fun a ha => by funext j; simp only [zwr_at, ha, false_and, if_false], hrows⟩, rfl⟩

/-- a number between 0 and a bound -/
def bnd (x : Int32) (m : Nat) : Nat := (max 0 (min (m : Int) x.toInt)).toNat
theorem bnd_le {x : Int32} {m : Nat} : bnd x m ≤ m := by unfold bnd; omega
theorem bnd_I {x : Int32} {m : Nat} (hm : m < 2 ^ 31) : (if nI 0 < (if x < nI m then x else nI m) then (if x < nI m then x else nI m) else nI 0) = nI (bnd x m) := by
  have h1 : (nI m).toInt = (m : Int) := nI_toInt hm
  have h0 : (nI 0).toInt = 0 := rfl
  have key : ∀ y : Int32, y.toInt = ((bnd x m : Nat) : Int) → y = nI (bnd x m) := fun y hy => by
    apply Int32.toInt_inj.mp
    rw [hy, nI_toInt (Nat.lt_of_le_of_lt bnd_le hm)]
  by_cases h2 : x < nI m
  · have h3 := Int32.lt_iff_toInt_lt.mp h2
    rw [h1] at h3
    simp only [if_pos h2]
    by_cases h4 : nI 0 < x
    · have h5 := Int32.lt_iff_toInt_lt.mp h4
      rw [h0] at h5
      rw [if_pos h4]
      apply key
      unfold bnd
      omega
    · have h5 : ¬ (0 : Int) < x.toInt := fun q => h4 (Int32.lt_iff_toInt_lt.mpr (by rw [h0]; exact q))
      rw [if_neg h4]
      apply key
      rw [h0]
      unfold bnd
      omega
  · have h3 : ¬ x.toInt < (m : Int) := fun q => h2 (Int32.lt_iff_toInt_lt.mpr (by rw [h1]; exact q))
    simp only [if_neg h2]
    by_cases h4 : nI 0 < nI m
    · rw [if_pos h4]
      apply key
      rw [h1]
      unfold bnd
      omega
    · have h5 : ¬ (0 : Int) < (m : Int) := fun q => h4 (Int32.lt_iff_toInt_lt.mpr (by rw [h0, h1]; exact q))
      rw [if_neg h4]
      apply key
      rw [h0]
      unfold bnd
      omega
set_option maxRecDepth 100000 in
set_option maxHeartbeats 4000000 in
theorem c_bounded {G : zG} {I : zI} {J : zJ} {x : Int32} {m : Nat} (hm : m < 2 ^ 31) : zK G mX3_bounded 1 [.int x, .int (nI m)] zsh I J (zA0 (.int (nI (bnd x m))) I J) := by
  refine zK_of kX3_bounded.2.2.2.2.1 (Nat.le_of_ble_eq_true rfl) ?_
  show V G mX3_bounded 1 _ 0 [(0, .int x), (1, .int (nI m))] [] (0, 0) zsh I J
  refine V_iconst (v := nI 0) dX3_bounded_0 rfl ?_
  refine V_iload_n dX3_bounded_1 rfl ?_
  refine V_iload_n dX3_bounded_2 rfl ?_
  refine V_mmin dX3_bounded_3 jX3_173 (by decide) (Nat.le_of_ble_eq_true rfl) ⟨Nat.le_of_ble_eq_true rfl, Nat.le_of_ble_eq_true rfl⟩ ?_
  refine V_mmax dX3_bounded_6 jX3_176 (by decide) (Nat.le_of_ble_eq_true rfl) ⟨Nat.le_of_ble_eq_true rfl, Nat.le_of_ble_eq_true rfl⟩ ?_
  exact V_iret ⟨Or.inl rfl, dX3_bounded_9⟩ ⟨Nat.le_of_ble_eq_true rfl, Nat.le_of_ble_eq_true rfl⟩ ⟨rfl, congrArg (fun z => some (Value.int z)) (bnd_I hm), rfl, rfl⟩

def tcd (a b c h k : Nat) : Nat := a + 16 * b + 256 * c + 4096 * h + 65536 * k
def pTen (a b c h k part : Nat) : Nat := if part = 0 then 10 * a else if part = 1 then 10 * b else if part = 2 then 10 * c else if part = 3 then 100 - 10 * (a + b + c) else if part = 4 then h * k else if part = 5 then h * (10 - k) else 100 - 10 * h
theorem t_sh {n : Nat} (h : n < 2 ^ 31) (s j : Nat) (hs : ((nI s &&& 31).toBitVec.smod 32).toNat = s) : nI n >>> (nI s &&& 31) &&& nI 15 = nI (n / 2 ^ s % 16) := by
  rw [pk_shrN h _ s hs, pk_andN (Nat.lt_of_le_of_lt (Nat.div_le_self _ _) (by omega)) 4 (by decide)]
theorem t_an {n : Nat} (h : n < 2 ^ 31) : nI n &&& nI 15 = nI (n % 16) := pk_andN (by omega) 4 (by decide)
theorem t_a {a b c h k z : Nat} (ha : a ≤ 10) (hb : b ≤ 10 - a) (hc : c ≤ 10 - a - b) (hh : h ≤ 10) (hk : k ≤ 10) (hz : z ≤ 2) : nI (tcd a b c h k + 1048576 + 2097152 * z) &&& nI 15 = nI a := by
  have ht : tcd a b c h k + 1048576 + 2097152 * z < 2 ^ 31 := by unfold tcd; omega
  exact (t_an ht).trans (congrArg nI (by unfold tcd; omega))
theorem t_b {a b c h k z : Nat} (ha : a ≤ 10) (hb : b ≤ 10 - a) (hc : c ≤ 10 - a - b) (hh : h ≤ 10) (hk : k ≤ 10) (hz : z ≤ 2) : nI (tcd a b c h k + 1048576 + 2097152 * z) >>> (nI 4 &&& 31) &&& nI 15 = nI b := by
  have ht : tcd a b c h k + 1048576 + 2097152 * z < 2 ^ 31 := by unfold tcd; omega
  exact (t_sh ht 4 0 (by decide)).trans (congrArg nI (by unfold tcd; omega))
theorem t_c {a b c h k z : Nat} (ha : a ≤ 10) (hb : b ≤ 10 - a) (hc : c ≤ 10 - a - b) (hh : h ≤ 10) (hk : k ≤ 10) (hz : z ≤ 2) : nI (tcd a b c h k + 1048576 + 2097152 * z) >>> (nI 8 &&& 31) &&& nI 15 = nI c := by
  have ht : tcd a b c h k + 1048576 + 2097152 * z < 2 ^ 31 := by unfold tcd; omega
  exact (t_sh ht 8 0 (by decide)).trans (congrArg nI (by unfold tcd; omega))
theorem t_h {a b c h k z : Nat} (ha : a ≤ 10) (hb : b ≤ 10 - a) (hc : c ≤ 10 - a - b) (hh : h ≤ 10) (hk : k ≤ 10) (hz : z ≤ 2) : nI (tcd a b c h k + 1048576 + 2097152 * z) >>> (nI 12 &&& 31) &&& nI 15 = nI h := by
  have ht : tcd a b c h k + 1048576 + 2097152 * z < 2 ^ 31 := by unfold tcd; omega
  exact (t_sh ht 12 0 (by decide)).trans (congrArg nI (by unfold tcd; omega))
theorem t_k {a b c h k z : Nat} (ha : a ≤ 10) (hb : b ≤ 10 - a) (hc : c ≤ 10 - a - b) (hh : h ≤ 10) (hk : k ≤ 10) (hz : z ≤ 2) : nI (tcd a b c h k + 1048576 + 2097152 * z) >>> (nI 16 &&& 31) &&& nI 15 = nI k := by
  have ht : tcd a b c h k + 1048576 + 2097152 * z < 2 ^ 31 := by unfold tcd; omega
  exact (t_sh ht 16 0 (by decide)).trans (congrArg nI (by unfold tcd; omega))
set_option maxRecDepth 100000 in
set_option maxHeartbeats 4000000 in
theorem c_partOfTenths {G : zG} {I : zI} {J : zJ} {a b c h k z part : Nat} (ha : a ≤ 10) (hb : b ≤ 10 - a) (hc : c ≤ 10 - a - b) (hh : h ≤ 10) (hk : k ≤ 10) (hz : z ≤ 2) (hpa : part ≤ 6) : zK G mX3_partOfTenths 0 [.int (nI (tcd a b c h k + 1048576 + 2097152 * z)), .int (nI part)] zsh I J (zA0 (.int (nI (pTen a b c h k part))) I J) := by
  refine zK_of kX3_partOfTenths.2.2.2.2.1 (Nat.le_of_ble_eq_true rfl) ?_
  show V G mX3_partOfTenths 0 _ 0 [(0, .int (nI (tcd a b c h k + 1048576 + 2097152 * z))), (1, .int (nI part))] [] (0, 0) zsh I J
  have ht : tcd a b c h k + 1048576 + 2097152 * z < 2 ^ 31 := by unfold tcd; omega
  rcases (show part = 0 ∨ part = 1 ∨ part = 2 ∨ part = 3 ∨ part = 4 ∨ part = 5 ∨ part = 6 by omega) with e | e | e | e | e | e | e <;> subst e
  · skip
    refine V_iload_n dX3_partOfTenths_0 rfl ?_
    refine V_bipush (v := nI 15) dX3_partOfTenths_1 rfl ?_
    refine V_iand dX3_partOfTenths_3 (V_eqI (y := nI a) (t_a ha hb hc hh hk hz) ?_)
    refine V_istore_n (ls' := [(2, .int (nI a)), (0, .int (nI (tcd a b c h k + 1048576 + 2097152 * z))), (1, .int (nI 0))]) dX3_partOfTenths_4 (by decide) rfl ?_
    refine V_iload_n dX3_partOfTenths_5 rfl ?_
    refine V_iconst (v := nI 4) dX3_partOfTenths_6 rfl ?_
    refine V_ishr dX3_partOfTenths_7 ?_
    refine V_bipush (v := nI 15) dX3_partOfTenths_8 rfl ?_
    refine V_iand dX3_partOfTenths_10 (V_eqI (y := nI b) (t_b ha hb hc hh hk hz) ?_)
    refine V_istore_n (ls' := [(3, .int (nI b)), (2, .int (nI a)), (0, .int (nI (tcd a b c h k + 1048576 + 2097152 * z))), (1, .int (nI 0))]) dX3_partOfTenths_11 (by decide) rfl ?_
    refine V_iload_n dX3_partOfTenths_12 rfl ?_
    refine V_bipush (v := nI 8) dX3_partOfTenths_13 rfl ?_
    refine V_ishr dX3_partOfTenths_15 ?_
    refine V_bipush (v := nI 15) dX3_partOfTenths_16 rfl ?_
    refine V_iand dX3_partOfTenths_18 (V_eqI (y := nI c) (t_c ha hb hc hh hk hz) ?_)
    refine V_istore (ls' := [(4, .int (nI c)), (3, .int (nI b)), (2, .int (nI a)), (0, .int (nI (tcd a b c h k + 1048576 + 2097152 * z))), (1, .int (nI 0))]) dX3_partOfTenths_19 (by decide) rfl ?_
    refine V_iload_n dX3_partOfTenths_21 rfl ?_
    refine V_bipush (v := nI 12) dX3_partOfTenths_22 rfl ?_
    refine V_ishr dX3_partOfTenths_24 ?_
    refine V_bipush (v := nI 15) dX3_partOfTenths_25 rfl ?_
    refine V_iand dX3_partOfTenths_27 (V_eqI (y := nI h) (t_h ha hb hc hh hk hz) ?_)
    refine V_istore (ls' := [(5, .int (nI h)), (4, .int (nI c)), (3, .int (nI b)), (2, .int (nI a)), (0, .int (nI (tcd a b c h k + 1048576 + 2097152 * z))), (1, .int (nI 0))]) dX3_partOfTenths_28 (by decide) rfl ?_
    refine V_iload_n dX3_partOfTenths_30 rfl ?_
    refine V_bipush (v := nI 16) dX3_partOfTenths_31 rfl ?_
    refine V_ishr dX3_partOfTenths_33 ?_
    refine V_bipush (v := nI 15) dX3_partOfTenths_34 rfl ?_
    refine V_iand dX3_partOfTenths_36 (V_eqI (y := nI k) (t_k ha hb hc hh hk hz) ?_)
    refine V_istore (ls' := [(6, .int (nI k)), (5, .int (nI h)), (4, .int (nI c)), (3, .int (nI b)), (2, .int (nI a)), (0, .int (nI (tcd a b c h k + 1048576 + 2097152 * z))), (1, .int (nI 0))]) dX3_partOfTenths_37 (by decide) rfl ?_
    refine V_iload_n dX3_partOfTenths_39 rfl ?_
    refine V_tsIn (off := 40) (tgt := 80) dX3_partOfTenths_40 (by decide) (by decide) rfl rfl ?_
    refine V_bipush (v := nI 10) dX3_partOfTenths_80 rfl ?_
    refine V_iload_n dX3_partOfTenths_82 rfl ?_
    refine V_imulN dX3_partOfTenths_83 ?_
    exact V_iret ⟨Or.inl rfl, dX3_partOfTenths_84⟩ ⟨Nat.le_of_ble_eq_true rfl, Nat.le_of_ble_eq_true rfl⟩ ⟨rfl, rfl, rfl, rfl⟩
  · skip
    refine V_iload_n dX3_partOfTenths_0 rfl ?_
    refine V_bipush (v := nI 15) dX3_partOfTenths_1 rfl ?_
    refine V_iand dX3_partOfTenths_3 (V_eqI (y := nI a) (t_a ha hb hc hh hk hz) ?_)
    refine V_istore_n (ls' := [(2, .int (nI a)), (0, .int (nI (tcd a b c h k + 1048576 + 2097152 * z))), (1, .int (nI 1))]) dX3_partOfTenths_4 (by decide) rfl ?_
    refine V_iload_n dX3_partOfTenths_5 rfl ?_
    refine V_iconst (v := nI 4) dX3_partOfTenths_6 rfl ?_
    refine V_ishr dX3_partOfTenths_7 ?_
    refine V_bipush (v := nI 15) dX3_partOfTenths_8 rfl ?_
    refine V_iand dX3_partOfTenths_10 (V_eqI (y := nI b) (t_b ha hb hc hh hk hz) ?_)
    refine V_istore_n (ls' := [(3, .int (nI b)), (2, .int (nI a)), (0, .int (nI (tcd a b c h k + 1048576 + 2097152 * z))), (1, .int (nI 1))]) dX3_partOfTenths_11 (by decide) rfl ?_
    refine V_iload_n dX3_partOfTenths_12 rfl ?_
    refine V_bipush (v := nI 8) dX3_partOfTenths_13 rfl ?_
    refine V_ishr dX3_partOfTenths_15 ?_
    refine V_bipush (v := nI 15) dX3_partOfTenths_16 rfl ?_
    refine V_iand dX3_partOfTenths_18 (V_eqI (y := nI c) (t_c ha hb hc hh hk hz) ?_)
    refine V_istore (ls' := [(4, .int (nI c)), (3, .int (nI b)), (2, .int (nI a)), (0, .int (nI (tcd a b c h k + 1048576 + 2097152 * z))), (1, .int (nI 1))]) dX3_partOfTenths_19 (by decide) rfl ?_
    refine V_iload_n dX3_partOfTenths_21 rfl ?_
    refine V_bipush (v := nI 12) dX3_partOfTenths_22 rfl ?_
    refine V_ishr dX3_partOfTenths_24 ?_
    refine V_bipush (v := nI 15) dX3_partOfTenths_25 rfl ?_
    refine V_iand dX3_partOfTenths_27 (V_eqI (y := nI h) (t_h ha hb hc hh hk hz) ?_)
    refine V_istore (ls' := [(5, .int (nI h)), (4, .int (nI c)), (3, .int (nI b)), (2, .int (nI a)), (0, .int (nI (tcd a b c h k + 1048576 + 2097152 * z))), (1, .int (nI 1))]) dX3_partOfTenths_28 (by decide) rfl ?_
    refine V_iload_n dX3_partOfTenths_30 rfl ?_
    refine V_bipush (v := nI 16) dX3_partOfTenths_31 rfl ?_
    refine V_ishr dX3_partOfTenths_33 ?_
    refine V_bipush (v := nI 15) dX3_partOfTenths_34 rfl ?_
    refine V_iand dX3_partOfTenths_36 (V_eqI (y := nI k) (t_k ha hb hc hh hk hz) ?_)
    refine V_istore (ls' := [(6, .int (nI k)), (5, .int (nI h)), (4, .int (nI c)), (3, .int (nI b)), (2, .int (nI a)), (0, .int (nI (tcd a b c h k + 1048576 + 2097152 * z))), (1, .int (nI 1))]) dX3_partOfTenths_37 (by decide) rfl ?_
    refine V_iload_n dX3_partOfTenths_39 rfl ?_
    refine V_tsIn (off := 45) (tgt := 85) dX3_partOfTenths_40 (by decide) (by decide) rfl rfl ?_
    refine V_bipush (v := nI 10) dX3_partOfTenths_85 rfl ?_
    refine V_iload_n dX3_partOfTenths_87 rfl ?_
    refine V_imulN dX3_partOfTenths_88 ?_
    exact V_iret ⟨Or.inl rfl, dX3_partOfTenths_89⟩ ⟨Nat.le_of_ble_eq_true rfl, Nat.le_of_ble_eq_true rfl⟩ ⟨rfl, rfl, rfl, rfl⟩
  · skip
    refine V_iload_n dX3_partOfTenths_0 rfl ?_
    refine V_bipush (v := nI 15) dX3_partOfTenths_1 rfl ?_
    refine V_iand dX3_partOfTenths_3 (V_eqI (y := nI a) (t_a ha hb hc hh hk hz) ?_)
    refine V_istore_n (ls' := [(2, .int (nI a)), (0, .int (nI (tcd a b c h k + 1048576 + 2097152 * z))), (1, .int (nI 2))]) dX3_partOfTenths_4 (by decide) rfl ?_
    refine V_iload_n dX3_partOfTenths_5 rfl ?_
    refine V_iconst (v := nI 4) dX3_partOfTenths_6 rfl ?_
    refine V_ishr dX3_partOfTenths_7 ?_
    refine V_bipush (v := nI 15) dX3_partOfTenths_8 rfl ?_
    refine V_iand dX3_partOfTenths_10 (V_eqI (y := nI b) (t_b ha hb hc hh hk hz) ?_)
    refine V_istore_n (ls' := [(3, .int (nI b)), (2, .int (nI a)), (0, .int (nI (tcd a b c h k + 1048576 + 2097152 * z))), (1, .int (nI 2))]) dX3_partOfTenths_11 (by decide) rfl ?_
    refine V_iload_n dX3_partOfTenths_12 rfl ?_
    refine V_bipush (v := nI 8) dX3_partOfTenths_13 rfl ?_
    refine V_ishr dX3_partOfTenths_15 ?_
    refine V_bipush (v := nI 15) dX3_partOfTenths_16 rfl ?_
    refine V_iand dX3_partOfTenths_18 (V_eqI (y := nI c) (t_c ha hb hc hh hk hz) ?_)
    refine V_istore (ls' := [(4, .int (nI c)), (3, .int (nI b)), (2, .int (nI a)), (0, .int (nI (tcd a b c h k + 1048576 + 2097152 * z))), (1, .int (nI 2))]) dX3_partOfTenths_19 (by decide) rfl ?_
    refine V_iload_n dX3_partOfTenths_21 rfl ?_
    refine V_bipush (v := nI 12) dX3_partOfTenths_22 rfl ?_
    refine V_ishr dX3_partOfTenths_24 ?_
    refine V_bipush (v := nI 15) dX3_partOfTenths_25 rfl ?_
    refine V_iand dX3_partOfTenths_27 (V_eqI (y := nI h) (t_h ha hb hc hh hk hz) ?_)
    refine V_istore (ls' := [(5, .int (nI h)), (4, .int (nI c)), (3, .int (nI b)), (2, .int (nI a)), (0, .int (nI (tcd a b c h k + 1048576 + 2097152 * z))), (1, .int (nI 2))]) dX3_partOfTenths_28 (by decide) rfl ?_
    refine V_iload_n dX3_partOfTenths_30 rfl ?_
    refine V_bipush (v := nI 16) dX3_partOfTenths_31 rfl ?_
    refine V_ishr dX3_partOfTenths_33 ?_
    refine V_bipush (v := nI 15) dX3_partOfTenths_34 rfl ?_
    refine V_iand dX3_partOfTenths_36 (V_eqI (y := nI k) (t_k ha hb hc hh hk hz) ?_)
    refine V_istore (ls' := [(6, .int (nI k)), (5, .int (nI h)), (4, .int (nI c)), (3, .int (nI b)), (2, .int (nI a)), (0, .int (nI (tcd a b c h k + 1048576 + 2097152 * z))), (1, .int (nI 2))]) dX3_partOfTenths_37 (by decide) rfl ?_
    refine V_iload_n dX3_partOfTenths_39 rfl ?_
    refine V_tsIn (off := 50) (tgt := 90) dX3_partOfTenths_40 (by decide) (by decide) rfl rfl ?_
    refine V_bipush (v := nI 10) dX3_partOfTenths_90 rfl ?_
    refine V_iload dX3_partOfTenths_92 rfl ?_
    refine V_imulN dX3_partOfTenths_94 ?_
    exact V_iret ⟨Or.inl rfl, dX3_partOfTenths_95⟩ ⟨Nat.le_of_ble_eq_true rfl, Nat.le_of_ble_eq_true rfl⟩ ⟨rfl, rfl, rfl, rfl⟩
  · skip
    refine V_iload_n dX3_partOfTenths_0 rfl ?_
    refine V_bipush (v := nI 15) dX3_partOfTenths_1 rfl ?_
    refine V_iand dX3_partOfTenths_3 (V_eqI (y := nI a) (t_a ha hb hc hh hk hz) ?_)
    refine V_istore_n (ls' := [(2, .int (nI a)), (0, .int (nI (tcd a b c h k + 1048576 + 2097152 * z))), (1, .int (nI 3))]) dX3_partOfTenths_4 (by decide) rfl ?_
    refine V_iload_n dX3_partOfTenths_5 rfl ?_
    refine V_iconst (v := nI 4) dX3_partOfTenths_6 rfl ?_
    refine V_ishr dX3_partOfTenths_7 ?_
    refine V_bipush (v := nI 15) dX3_partOfTenths_8 rfl ?_
    refine V_iand dX3_partOfTenths_10 (V_eqI (y := nI b) (t_b ha hb hc hh hk hz) ?_)
    refine V_istore_n (ls' := [(3, .int (nI b)), (2, .int (nI a)), (0, .int (nI (tcd a b c h k + 1048576 + 2097152 * z))), (1, .int (nI 3))]) dX3_partOfTenths_11 (by decide) rfl ?_
    refine V_iload_n dX3_partOfTenths_12 rfl ?_
    refine V_bipush (v := nI 8) dX3_partOfTenths_13 rfl ?_
    refine V_ishr dX3_partOfTenths_15 ?_
    refine V_bipush (v := nI 15) dX3_partOfTenths_16 rfl ?_
    refine V_iand dX3_partOfTenths_18 (V_eqI (y := nI c) (t_c ha hb hc hh hk hz) ?_)
    refine V_istore (ls' := [(4, .int (nI c)), (3, .int (nI b)), (2, .int (nI a)), (0, .int (nI (tcd a b c h k + 1048576 + 2097152 * z))), (1, .int (nI 3))]) dX3_partOfTenths_19 (by decide) rfl ?_
    refine V_iload_n dX3_partOfTenths_21 rfl ?_
    refine V_bipush (v := nI 12) dX3_partOfTenths_22 rfl ?_
    refine V_ishr dX3_partOfTenths_24 ?_
    refine V_bipush (v := nI 15) dX3_partOfTenths_25 rfl ?_
    refine V_iand dX3_partOfTenths_27 (V_eqI (y := nI h) (t_h ha hb hc hh hk hz) ?_)
    refine V_istore (ls' := [(5, .int (nI h)), (4, .int (nI c)), (3, .int (nI b)), (2, .int (nI a)), (0, .int (nI (tcd a b c h k + 1048576 + 2097152 * z))), (1, .int (nI 3))]) dX3_partOfTenths_28 (by decide) rfl ?_
    refine V_iload_n dX3_partOfTenths_30 rfl ?_
    refine V_bipush (v := nI 16) dX3_partOfTenths_31 rfl ?_
    refine V_ishr dX3_partOfTenths_33 ?_
    refine V_bipush (v := nI 15) dX3_partOfTenths_34 rfl ?_
    refine V_iand dX3_partOfTenths_36 (V_eqI (y := nI k) (t_k ha hb hc hh hk hz) ?_)
    refine V_istore (ls' := [(6, .int (nI k)), (5, .int (nI h)), (4, .int (nI c)), (3, .int (nI b)), (2, .int (nI a)), (0, .int (nI (tcd a b c h k + 1048576 + 2097152 * z))), (1, .int (nI 3))]) dX3_partOfTenths_37 (by decide) rfl ?_
    refine V_iload_n dX3_partOfTenths_39 rfl ?_
    refine V_tsIn (off := 56) (tgt := 96) dX3_partOfTenths_40 (by decide) (by decide) rfl rfl ?_
    refine V_bipush (v := nI 100) dX3_partOfTenths_96 rfl ?_
    refine V_bipush (v := nI 10) dX3_partOfTenths_98 rfl ?_
    refine V_iload_n dX3_partOfTenths_100 rfl ?_
    refine V_iload_n dX3_partOfTenths_101 rfl ?_
    refine V_iaddN dX3_partOfTenths_102 ?_
    refine V_iload dX3_partOfTenths_103 rfl ?_
    refine V_iaddN dX3_partOfTenths_105 ?_
    refine V_imulN dX3_partOfTenths_106 ?_
    refine V_isubN dX3_partOfTenths_107 (by omega) ?_
    exact V_iret ⟨Or.inl rfl, dX3_partOfTenths_108⟩ ⟨Nat.le_of_ble_eq_true rfl, Nat.le_of_ble_eq_true rfl⟩ ⟨rfl, rfl, rfl, rfl⟩
  · skip
    refine V_iload_n dX3_partOfTenths_0 rfl ?_
    refine V_bipush (v := nI 15) dX3_partOfTenths_1 rfl ?_
    refine V_iand dX3_partOfTenths_3 (V_eqI (y := nI a) (t_a ha hb hc hh hk hz) ?_)
    refine V_istore_n (ls' := [(2, .int (nI a)), (0, .int (nI (tcd a b c h k + 1048576 + 2097152 * z))), (1, .int (nI 4))]) dX3_partOfTenths_4 (by decide) rfl ?_
    refine V_iload_n dX3_partOfTenths_5 rfl ?_
    refine V_iconst (v := nI 4) dX3_partOfTenths_6 rfl ?_
    refine V_ishr dX3_partOfTenths_7 ?_
    refine V_bipush (v := nI 15) dX3_partOfTenths_8 rfl ?_
    refine V_iand dX3_partOfTenths_10 (V_eqI (y := nI b) (t_b ha hb hc hh hk hz) ?_)
    refine V_istore_n (ls' := [(3, .int (nI b)), (2, .int (nI a)), (0, .int (nI (tcd a b c h k + 1048576 + 2097152 * z))), (1, .int (nI 4))]) dX3_partOfTenths_11 (by decide) rfl ?_
    refine V_iload_n dX3_partOfTenths_12 rfl ?_
    refine V_bipush (v := nI 8) dX3_partOfTenths_13 rfl ?_
    refine V_ishr dX3_partOfTenths_15 ?_
    refine V_bipush (v := nI 15) dX3_partOfTenths_16 rfl ?_
    refine V_iand dX3_partOfTenths_18 (V_eqI (y := nI c) (t_c ha hb hc hh hk hz) ?_)
    refine V_istore (ls' := [(4, .int (nI c)), (3, .int (nI b)), (2, .int (nI a)), (0, .int (nI (tcd a b c h k + 1048576 + 2097152 * z))), (1, .int (nI 4))]) dX3_partOfTenths_19 (by decide) rfl ?_
    refine V_iload_n dX3_partOfTenths_21 rfl ?_
    refine V_bipush (v := nI 12) dX3_partOfTenths_22 rfl ?_
    refine V_ishr dX3_partOfTenths_24 ?_
    refine V_bipush (v := nI 15) dX3_partOfTenths_25 rfl ?_
    refine V_iand dX3_partOfTenths_27 (V_eqI (y := nI h) (t_h ha hb hc hh hk hz) ?_)
    refine V_istore (ls' := [(5, .int (nI h)), (4, .int (nI c)), (3, .int (nI b)), (2, .int (nI a)), (0, .int (nI (tcd a b c h k + 1048576 + 2097152 * z))), (1, .int (nI 4))]) dX3_partOfTenths_28 (by decide) rfl ?_
    refine V_iload_n dX3_partOfTenths_30 rfl ?_
    refine V_bipush (v := nI 16) dX3_partOfTenths_31 rfl ?_
    refine V_ishr dX3_partOfTenths_33 ?_
    refine V_bipush (v := nI 15) dX3_partOfTenths_34 rfl ?_
    refine V_iand dX3_partOfTenths_36 (V_eqI (y := nI k) (t_k ha hb hc hh hk hz) ?_)
    refine V_istore (ls' := [(6, .int (nI k)), (5, .int (nI h)), (4, .int (nI c)), (3, .int (nI b)), (2, .int (nI a)), (0, .int (nI (tcd a b c h k + 1048576 + 2097152 * z))), (1, .int (nI 4))]) dX3_partOfTenths_37 (by decide) rfl ?_
    refine V_iload_n dX3_partOfTenths_39 rfl ?_
    refine V_tsIn (off := 69) (tgt := 109) dX3_partOfTenths_40 (by decide) (by decide) rfl rfl ?_
    refine V_iload dX3_partOfTenths_109 rfl ?_
    refine V_iload dX3_partOfTenths_111 rfl ?_
    refine V_imulN dX3_partOfTenths_113 ?_
    exact V_iret ⟨Or.inl rfl, dX3_partOfTenths_114⟩ ⟨Nat.le_of_ble_eq_true rfl, Nat.le_of_ble_eq_true rfl⟩ ⟨rfl, rfl, rfl, rfl⟩
  · skip
    refine V_iload_n dX3_partOfTenths_0 rfl ?_
    refine V_bipush (v := nI 15) dX3_partOfTenths_1 rfl ?_
    refine V_iand dX3_partOfTenths_3 (V_eqI (y := nI a) (t_a ha hb hc hh hk hz) ?_)
    refine V_istore_n (ls' := [(2, .int (nI a)), (0, .int (nI (tcd a b c h k + 1048576 + 2097152 * z))), (1, .int (nI 5))]) dX3_partOfTenths_4 (by decide) rfl ?_
    refine V_iload_n dX3_partOfTenths_5 rfl ?_
    refine V_iconst (v := nI 4) dX3_partOfTenths_6 rfl ?_
    refine V_ishr dX3_partOfTenths_7 ?_
    refine V_bipush (v := nI 15) dX3_partOfTenths_8 rfl ?_
    refine V_iand dX3_partOfTenths_10 (V_eqI (y := nI b) (t_b ha hb hc hh hk hz) ?_)
    refine V_istore_n (ls' := [(3, .int (nI b)), (2, .int (nI a)), (0, .int (nI (tcd a b c h k + 1048576 + 2097152 * z))), (1, .int (nI 5))]) dX3_partOfTenths_11 (by decide) rfl ?_
    refine V_iload_n dX3_partOfTenths_12 rfl ?_
    refine V_bipush (v := nI 8) dX3_partOfTenths_13 rfl ?_
    refine V_ishr dX3_partOfTenths_15 ?_
    refine V_bipush (v := nI 15) dX3_partOfTenths_16 rfl ?_
    refine V_iand dX3_partOfTenths_18 (V_eqI (y := nI c) (t_c ha hb hc hh hk hz) ?_)
    refine V_istore (ls' := [(4, .int (nI c)), (3, .int (nI b)), (2, .int (nI a)), (0, .int (nI (tcd a b c h k + 1048576 + 2097152 * z))), (1, .int (nI 5))]) dX3_partOfTenths_19 (by decide) rfl ?_
    refine V_iload_n dX3_partOfTenths_21 rfl ?_
    refine V_bipush (v := nI 12) dX3_partOfTenths_22 rfl ?_
    refine V_ishr dX3_partOfTenths_24 ?_
    refine V_bipush (v := nI 15) dX3_partOfTenths_25 rfl ?_
    refine V_iand dX3_partOfTenths_27 (V_eqI (y := nI h) (t_h ha hb hc hh hk hz) ?_)
    refine V_istore (ls' := [(5, .int (nI h)), (4, .int (nI c)), (3, .int (nI b)), (2, .int (nI a)), (0, .int (nI (tcd a b c h k + 1048576 + 2097152 * z))), (1, .int (nI 5))]) dX3_partOfTenths_28 (by decide) rfl ?_
    refine V_iload_n dX3_partOfTenths_30 rfl ?_
    refine V_bipush (v := nI 16) dX3_partOfTenths_31 rfl ?_
    refine V_ishr dX3_partOfTenths_33 ?_
    refine V_bipush (v := nI 15) dX3_partOfTenths_34 rfl ?_
    refine V_iand dX3_partOfTenths_36 (V_eqI (y := nI k) (t_k ha hb hc hh hk hz) ?_)
    refine V_istore (ls' := [(6, .int (nI k)), (5, .int (nI h)), (4, .int (nI c)), (3, .int (nI b)), (2, .int (nI a)), (0, .int (nI (tcd a b c h k + 1048576 + 2097152 * z))), (1, .int (nI 5))]) dX3_partOfTenths_37 (by decide) rfl ?_
    refine V_iload_n dX3_partOfTenths_39 rfl ?_
    refine V_tsIn (off := 75) (tgt := 115) dX3_partOfTenths_40 (by decide) (by decide) rfl rfl ?_
    refine V_iload dX3_partOfTenths_115 rfl ?_
    refine V_bipush (v := nI 10) dX3_partOfTenths_117 rfl ?_
    refine V_iload dX3_partOfTenths_119 rfl ?_
    refine V_isubN dX3_partOfTenths_121 (by omega) ?_
    refine V_imulN dX3_partOfTenths_122 ?_
    exact V_iret ⟨Or.inl rfl, dX3_partOfTenths_123⟩ ⟨Nat.le_of_ble_eq_true rfl, Nat.le_of_ble_eq_true rfl⟩ ⟨rfl, rfl, rfl, rfl⟩
  · skip
    refine V_iload_n dX3_partOfTenths_0 rfl ?_
    refine V_bipush (v := nI 15) dX3_partOfTenths_1 rfl ?_
    refine V_iand dX3_partOfTenths_3 (V_eqI (y := nI a) (t_a ha hb hc hh hk hz) ?_)
    refine V_istore_n (ls' := [(2, .int (nI a)), (0, .int (nI (tcd a b c h k + 1048576 + 2097152 * z))), (1, .int (nI 6))]) dX3_partOfTenths_4 (by decide) rfl ?_
    refine V_iload_n dX3_partOfTenths_5 rfl ?_
    refine V_iconst (v := nI 4) dX3_partOfTenths_6 rfl ?_
    refine V_ishr dX3_partOfTenths_7 ?_
    refine V_bipush (v := nI 15) dX3_partOfTenths_8 rfl ?_
    refine V_iand dX3_partOfTenths_10 (V_eqI (y := nI b) (t_b ha hb hc hh hk hz) ?_)
    refine V_istore_n (ls' := [(3, .int (nI b)), (2, .int (nI a)), (0, .int (nI (tcd a b c h k + 1048576 + 2097152 * z))), (1, .int (nI 6))]) dX3_partOfTenths_11 (by decide) rfl ?_
    refine V_iload_n dX3_partOfTenths_12 rfl ?_
    refine V_bipush (v := nI 8) dX3_partOfTenths_13 rfl ?_
    refine V_ishr dX3_partOfTenths_15 ?_
    refine V_bipush (v := nI 15) dX3_partOfTenths_16 rfl ?_
    refine V_iand dX3_partOfTenths_18 (V_eqI (y := nI c) (t_c ha hb hc hh hk hz) ?_)
    refine V_istore (ls' := [(4, .int (nI c)), (3, .int (nI b)), (2, .int (nI a)), (0, .int (nI (tcd a b c h k + 1048576 + 2097152 * z))), (1, .int (nI 6))]) dX3_partOfTenths_19 (by decide) rfl ?_
    refine V_iload_n dX3_partOfTenths_21 rfl ?_
    refine V_bipush (v := nI 12) dX3_partOfTenths_22 rfl ?_
    refine V_ishr dX3_partOfTenths_24 ?_
    refine V_bipush (v := nI 15) dX3_partOfTenths_25 rfl ?_
    refine V_iand dX3_partOfTenths_27 (V_eqI (y := nI h) (t_h ha hb hc hh hk hz) ?_)
    refine V_istore (ls' := [(5, .int (nI h)), (4, .int (nI c)), (3, .int (nI b)), (2, .int (nI a)), (0, .int (nI (tcd a b c h k + 1048576 + 2097152 * z))), (1, .int (nI 6))]) dX3_partOfTenths_28 (by decide) rfl ?_
    refine V_iload_n dX3_partOfTenths_30 rfl ?_
    refine V_bipush (v := nI 16) dX3_partOfTenths_31 rfl ?_
    refine V_ishr dX3_partOfTenths_33 ?_
    refine V_bipush (v := nI 15) dX3_partOfTenths_34 rfl ?_
    refine V_iand dX3_partOfTenths_36 (V_eqI (y := nI k) (t_k ha hb hc hh hk hz) ?_)
    refine V_istore (ls' := [(6, .int (nI k)), (5, .int (nI h)), (4, .int (nI c)), (3, .int (nI b)), (2, .int (nI a)), (0, .int (nI (tcd a b c h k + 1048576 + 2097152 * z))), (1, .int (nI 6))]) dX3_partOfTenths_37 (by decide) rfl ?_
    refine V_iload_n dX3_partOfTenths_39 rfl ?_
    refine V_tsOut (tgt := 124) dX3_partOfTenths_40 (by decide) rfl ?_
    refine V_bipush (v := nI 100) dX3_partOfTenths_124 rfl ?_
    refine V_bipush (v := nI 10) dX3_partOfTenths_126 rfl ?_
    refine V_iload dX3_partOfTenths_128 rfl ?_
    refine V_imulN dX3_partOfTenths_130 ?_
    refine V_isubN dX3_partOfTenths_131 (by omega) ?_
    exact V_iret ⟨Or.inl rfl, dX3_partOfTenths_132⟩ ⟨Nat.le_of_ble_eq_true rfl, Nat.le_of_ble_eq_true rfl⟩ ⟨rfl, rfl, rfl, rfl⟩

