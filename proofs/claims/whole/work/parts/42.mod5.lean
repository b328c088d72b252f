/-! THE MODEL: rolling, laying -/
theorem dec1 {x : Nat} (h : 0 < x) (h2 : x < 2 ^ 31) : nI x + (-1) = nI (x - 1) := by
  apply Int32.toInt_inj.mp
  rw [Int32.toInt_add, nI_toInt (by omega), nI_toInt (by omega), show (-1 : Int32).toInt = -1 by decide, Int.bmod_eq_of_le (by omega) (by omega)]
  omega
theorem lft_e (l a b : Int32) : l - nI 1 + a - b = l + (a - b - nI 1) := by
  rw [Int32.sub_eq_add_neg, Int32.sub_eq_add_neg, Int32.sub_eq_add_neg, Int32.sub_eq_add_neg]
  ac_rfl
theorem rolS_0 {f : Nat → Int32} {way n x y : Nat} {l : Int32} (h : l ≤ 0) : rolS f way (n + 1) x y l = (some (8 * y + x), 0) := if_pos h
theorem rolS_n {f : Nat → Int32} {way n x y : Nat} {l : Int32} (h : ¬ l ≤ 0) (h2 : rst way x y = none) : rolS f way (n + 1) x y l = (none, 0) := by
  unfold rolS
  rw [if_neg h, h2]
theorem rolS_s {f : Nat → Int32} {way n x y a b : Nat} {l : Int32} (h : ¬ l ≤ 0) (h2 : rst way x y = some (a, b)) : rolS f way (n + 1) x y l = ((rolS f way n a b (l + (f (8 * y + x) - f (8 * b + a) - nI 1))).1, (rolS f way n a b (l + (f (8 * y + x) - f (8 * b + a) - nI 1))).2 + 1) := by
  conv => lhs; unfold rolS
  rw [if_neg h, h2]
/-- only the count of spots is other -/
def rlF (I I' : zI) : Prop := (∀ a, a ≠ 62 → I' a = I a) ∧ ∀ j, j ≠ 55 → I' 62 j = I 62 j
set_option maxRecDepth 100000 in
set_option maxHeartbeats 4000000 in
theorem lp_rolls0 {G : zG} {I : zI} {J : zJ}  : ∀ n x y l c (I1 : zI), x < 8 → y < 8 → 8 - y ≤ n → I1 62 55 = nI c → rlF I I1 → V G mX12_rolls 1 (zP (fun r I' J' => r = some (.int (fen (rolS (I 95) 0 n x y l).1)) ∧ I' 62 55 = nI (c + (rolS (I 95) 0 n x y l).2) ∧ rlF I I' ∧ J = J')) 15 [(0, .ref 62), (3, .int (nI 0)), (5, .int (nI x)), (6, .int (nI y)), (7, .int l)] [] (0, 0) zsh I1 J := by
  intro n
  induction n with
  | zero => intro x y l c I1 hx hy hr; intros; omega
  | succ n ih =>
    intro x y l c I1 hx hy hr hc hF
    refine V_iload dX12_rolls_15 rfl ?_
    refine V_if_le (tgt := 143) dX12_rolls_17 rfl (fun h17 => ?_) (fun h17 => ?_)
    · skip
      refine V_bipush (v := nI 8) dX12_rolls_143 rfl ?_
      refine V_iload dX12_rolls_145 rfl ?_
      refine V_imulN dX12_rolls_147 ?_
      refine V_iload dX12_rolls_148 rfl ?_
      refine V_iaddN dX12_rolls_150 ?_
      exact V_iret ⟨Or.inl rfl, dX12_rolls_151⟩ ⟨Nat.le_of_ble_eq_true rfl, Nat.le_of_ble_eq_true rfl⟩ ⟨rfl, by rw [rolS_0 h17]; rfl, by rw [rolS_0 h17]; exact hc, hF, rfl⟩
    · skip
      by_cases hst : y + 1 < 8
      · skip
        have hrst : rst 0 x y = some (x, y + 1) := by unfold rst; rw [if_pos rfl, if_pos hst]
        refine V_aload_n dX12_rolls_20 rfl ?_
        refine V_getR (b := 95) dX12_rolls_21 fX12_109 ⟨Nat.le_of_ble_eq_true rfl, Nat.le_of_ble_eq_true rfl⟩ rfl rfl rfl ?_
        refine V_bipush (v := nI 8) dX12_rolls_24 rfl ?_
        refine V_iload dX12_rolls_26 rfl ?_
        refine V_imulN dX12_rolls_28 ?_
        refine V_iload dX12_rolls_29 rfl ?_
        refine V_iaddN dX12_rolls_31 ?_
        refine V_ialdN (k := (8 * y) + x) dX12_rolls_32 ⟨Nat.le_of_ble_eq_true rfl, Nat.le_of_ble_eq_true rfl⟩ rfl (by decide) (by omega) ?_
        refine V_eqI (y := I 95 ((8 * y) + x)) (congrFun (hF.1 95 (by decide)) _) ?_
        refine V_istore (ls' := [(8, .int (I 95 ((8 * y) + x))), (0, .ref 62), (3, .int (nI 0)), (5, .int (nI x)), (6, .int (nI y)), (7, .int l)]) dX12_rolls_33 (by decide) rfl ?_
        refine V_iload dX12_rolls_35 rfl ?_
        refine V_iload_n dX12_rolls_37 rfl ?_
        refine V_iconst (v := nI 1) dX12_rolls_38 rfl ?_
        refine V_icmp_ne (tgt := 46) dX12_rolls_39 rfl (fun _ => ?_) (fun h => absurd h (by decide))
        refine V_iload_n dX12_rolls_46 rfl ?_
        refine V_iconst (v := nI 3) dX12_rolls_47 rfl ?_
        refine V_icmp_ne (tgt := 55) dX12_rolls_48 rfl (fun _ => ?_) (fun h => absurd h (by decide))
        refine V_iconst (v := nI 0) dX12_rolls_55 rfl ?_
        refine V_iaddN dX12_rolls_56 ?_
        refine V_eqI (y := nI x) rfl ?_
        refine V_istore (ls' := [(5, .int (nI x)), (8, .int (I 95 ((8 * y) + x))), (0, .ref 62), (3, .int (nI 0)), (6, .int (nI y)), (7, .int l)]) dX12_rolls_57 (by decide) rfl ?_
        refine V_iload dX12_rolls_59 rfl ?_
        refine V_iload_n dX12_rolls_61 rfl ?_
        refine V_if_ne (tgt := 69) dX12_rolls_62 rfl (fun h => absurd h (by decide)) (fun _ => ?_)
        refine V_iconst (v := nI 1) dX12_rolls_65 rfl ?_
        refine V_goto (tgt := 79) dX12_rolls_66 rfl ?_
        refine V_iaddN dX12_rolls_79 ?_
        refine V_istore (ls' := [(6, .int (nI (y + 1))), (5, .int (nI x)), (8, .int (I 95 ((8 * y) + x))), (0, .ref 62), (3, .int (nI 0)), (7, .int l)]) dX12_rolls_80 (by decide) rfl ?_
        refine V_iload dX12_rolls_82 rfl ?_
        refine V_iconst (v := nI 0) dX12_rolls_84 rfl ?_
        refine V_bipush (v := nI 7) dX12_rolls_85 rfl ?_
        refine V_callS (As := [.int (nI x), .int (nI 0), .int (nI 7)]) (st := []) dX12_rolls_87 kX12_in lX12_173 (by decide) rfl rfl (Nat.le_of_ble_eq_true rfl) ⟨Nat.le_of_ble_eq_true rfl, Nat.le_of_ble_eq_true rfl⟩ (w_inY rfl rfl (a := 0) (b := 7) ((inZ_k (by omega)).mpr (by omega))) ?_
        rintro _ _ _ _ ⟨rfl, rfl, rfl, rfl⟩
        refine V_if_eq (tgt := 104) dX12_rolls_90 rfl (fun h => absurd h (by decide)) (fun _ => ?_)
        refine V_iload dX12_rolls_93 rfl ?_
        refine V_iconst (v := nI 0) dX12_rolls_95 rfl ?_
        refine V_bipush (v := nI 7) dX12_rolls_96 rfl ?_
        refine V_callS (As := [.int (nI (y + 1)), .int (nI 0), .int (nI 7)]) (st := []) dX12_rolls_98 kX12_in lX12_173 (by decide) rfl rfl (Nat.le_of_ble_eq_true rfl) ⟨Nat.le_of_ble_eq_true rfl, Nat.le_of_ble_eq_true rfl⟩ (w_inY rfl rfl (a := 0) (b := 7) ((inZ_k (by omega)).mpr (by omega))) ?_
        rintro _ _ _ _ ⟨rfl, rfl, rfl, rfl⟩
        refine V_if_ne (tgt := 107) dX12_rolls_101 rfl (fun _ => ?_) (fun h => absurd h (by decide))
        refine V_aload_n dX12_rolls_107 rfl ?_
        refine V_aload_n dX12_rolls_108 rfl ?_
        refine V_getI dX12_rolls_109 fX12_458 ⟨Nat.le_of_ble_eq_true rfl, Nat.le_of_ble_eq_true rfl⟩ rfl rfl ?_
        refine V_eqI (y := nI c) hc ?_
        refine V_iconst (v := nI 1) dX12_rolls_112 rfl ?_
        refine V_iaddN dX12_rolls_113 ?_
        refine V_putW dX12_rolls_114 fX12_458 ⟨Nat.le_of_ble_eq_true rfl, Nat.le_of_ble_eq_true rfl⟩ rfl rfl rfl ⟨rfl, rfl⟩ ?_
        refine V_iload dX12_rolls_117 rfl ?_
        refine V_iconst (v := nI 1) dX12_rolls_119 rfl ?_
        refine V_isub dX12_rolls_120 ?_
        refine V_iload dX12_rolls_121 rfl ?_
        refine V_iadd dX12_rolls_123 ?_
        refine V_aload_n dX12_rolls_124 rfl ?_
        refine V_getR (b := 95) dX12_rolls_125 fX12_109 ⟨Nat.le_of_ble_eq_true rfl, Nat.le_of_ble_eq_true rfl⟩ rfl rfl rfl ?_
        refine V_bipush (v := nI 8) dX12_rolls_128 rfl ?_
        refine V_iload dX12_rolls_130 rfl ?_
        refine V_imulN dX12_rolls_132 ?_
        refine V_iload dX12_rolls_133 rfl ?_
        refine V_iaddN dX12_rolls_135 ?_
        refine V_ialdN (k := (8 * (y + 1)) + x) dX12_rolls_136 ⟨Nat.le_of_ble_eq_true rfl, Nat.le_of_ble_eq_true rfl⟩ rfl (by decide) (by omega) ?_
        refine V_eqI (y := I1 95 ((8 * (y + 1)) + x)) rfl ?_
        refine V_eqI (y := I 95 ((8 * (y + 1)) + x)) (congrFun (hF.1 95 (by decide)) _) ?_
        refine V_isub dX12_rolls_137 (V_eqI (y := l + (I 95 (8 * y + x) - I 95 (8 * (y + 1) + x) - nI 1)) (lft_e l _ _) ?_)
        refine V_istore (ls' := [(7, .int (l + (I 95 (8 * y + x) - I 95 (8 * (y + 1) + x) - nI 1))), (6, .int (nI (y + 1))), (5, .int (nI x)), (8, .int (I 95 ((8 * y) + x))), (0, .ref 62), (3, .int (nI 0))]) dX12_rolls_138 (by decide) rfl ?_
        refine V_goto (tgt := 15) dX12_rolls_140 rfl ?_
        refine V_sub2 (ls' := [(0, .ref 62), (3, .int (nI 0)), (5, .int (nI x)), (6, .int (nI (y + 1))), (7, .int (l + (I 95 (8 * y + x) - I 95 (8 * (y + 1) + x) - nI 1)))]) (List.forall_mem_cons.mpr ⟨rfl, List.forall_mem_cons.mpr ⟨rfl, List.forall_mem_cons.mpr ⟨rfl, List.forall_mem_cons.mpr ⟨rfl, List.forall_mem_cons.mpr ⟨rfl, fun _ h => absurd h List.not_mem_nil⟩⟩⟩⟩⟩) ?_
        rw [rolS_s h17 hrst]
        refine zQ_mono ?_ (ih x (y + 1) _ (c + 1) (zwr I1 62 55 (nI (c + 1))) (by omega) (by omega) (by omega) (zwr_at.trans (if_pos ⟨rfl, rfl⟩)) ⟨fun a ha => (zup_n ha).trans (hF.1 a ha), fun j hj => (zwr_at.trans (if_neg (fun h => hj h.2))).trans (hF.2 j hj)⟩)
        rintro r sh' I' J' ⟨rfl, g1, g2, g3⟩
        exact ⟨rfl, g1, g2.trans (congrArg nI (by omega)), g3⟩
      · skip
        have hrst : rst 0 x y = none := by unfold rst; rw [if_pos rfl, if_neg hst]
        refine V_aload_n dX12_rolls_20 rfl ?_
        refine V_getR (b := 95) dX12_rolls_21 fX12_109 ⟨Nat.le_of_ble_eq_true rfl, Nat.le_of_ble_eq_true rfl⟩ rfl rfl rfl ?_
        refine V_bipush (v := nI 8) dX12_rolls_24 rfl ?_
        refine V_iload dX12_rolls_26 rfl ?_
        refine V_imulN dX12_rolls_28 ?_
        refine V_iload dX12_rolls_29 rfl ?_
        refine V_iaddN dX12_rolls_31 ?_
        refine V_ialdN (k := (8 * y) + x) dX12_rolls_32 ⟨Nat.le_of_ble_eq_true rfl, Nat.le_of_ble_eq_true rfl⟩ rfl (by decide) (by omega) ?_
        refine V_eqI (y := I 95 ((8 * y) + x)) (congrFun (hF.1 95 (by decide)) _) ?_
        refine V_istore (ls' := [(8, .int (I 95 ((8 * y) + x))), (0, .ref 62), (3, .int (nI 0)), (5, .int (nI x)), (6, .int (nI y)), (7, .int l)]) dX12_rolls_33 (by decide) rfl ?_
        refine V_iload dX12_rolls_35 rfl ?_
        refine V_iload_n dX12_rolls_37 rfl ?_
        refine V_iconst (v := nI 1) dX12_rolls_38 rfl ?_
        refine V_icmp_ne (tgt := 46) dX12_rolls_39 rfl (fun _ => ?_) (fun h => absurd h (by decide))
        refine V_iload_n dX12_rolls_46 rfl ?_
        refine V_iconst (v := nI 3) dX12_rolls_47 rfl ?_
        refine V_icmp_ne (tgt := 55) dX12_rolls_48 rfl (fun _ => ?_) (fun h => absurd h (by decide))
        refine V_iconst (v := nI 0) dX12_rolls_55 rfl ?_
        refine V_iaddN dX12_rolls_56 ?_
        refine V_eqI (y := nI x) rfl ?_
        refine V_istore (ls' := [(5, .int (nI x)), (8, .int (I 95 ((8 * y) + x))), (0, .ref 62), (3, .int (nI 0)), (6, .int (nI y)), (7, .int l)]) dX12_rolls_57 (by decide) rfl ?_
        refine V_iload dX12_rolls_59 rfl ?_
        refine V_iload_n dX12_rolls_61 rfl ?_
        refine V_if_ne (tgt := 69) dX12_rolls_62 rfl (fun h => absurd h (by decide)) (fun _ => ?_)
        refine V_iconst (v := nI 1) dX12_rolls_65 rfl ?_
        refine V_goto (tgt := 79) dX12_rolls_66 rfl ?_
        refine V_iaddN dX12_rolls_79 ?_
        refine V_istore (ls' := [(6, .int (nI (y + 1))), (5, .int (nI x)), (8, .int (I 95 ((8 * y) + x))), (0, .ref 62), (3, .int (nI 0)), (7, .int l)]) dX12_rolls_80 (by decide) rfl ?_
        refine V_iload dX12_rolls_82 rfl ?_
        refine V_iconst (v := nI 0) dX12_rolls_84 rfl ?_
        refine V_bipush (v := nI 7) dX12_rolls_85 rfl ?_
        refine V_callS (As := [.int (nI x), .int (nI 0), .int (nI 7)]) (st := []) dX12_rolls_87 kX12_in lX12_173 (by decide) rfl rfl (Nat.le_of_ble_eq_true rfl) ⟨Nat.le_of_ble_eq_true rfl, Nat.le_of_ble_eq_true rfl⟩ (w_inY rfl rfl (a := 0) (b := 7) ((inZ_k (by omega)).mpr (by omega))) ?_
        rintro _ _ _ _ ⟨rfl, rfl, rfl, rfl⟩
        refine V_if_eq (tgt := 104) dX12_rolls_90 rfl (fun h => absurd h (by decide)) (fun _ => ?_)
        refine V_iload dX12_rolls_93 rfl ?_
        refine V_iconst (v := nI 0) dX12_rolls_95 rfl ?_
        refine V_bipush (v := nI 7) dX12_rolls_96 rfl ?_
        refine V_callS (As := [.int (nI (y + 1)), .int (nI 0), .int (nI 7)]) (st := []) dX12_rolls_98 kX12_in lX12_173 (by decide) rfl rfl (Nat.le_of_ble_eq_true rfl) ⟨Nat.le_of_ble_eq_true rfl, Nat.le_of_ble_eq_true rfl⟩ (w_inN rfl rfl (a := 0) (b := 7) (fun h => by have h1 := (inZ_k (by omega)).mp h; omega)) ?_
        rintro _ _ _ _ ⟨rfl, rfl, rfl, rfl⟩
        refine V_if_ne (tgt := 107) dX12_rolls_101 rfl (fun h => absurd h (by decide)) (fun _ => ?_)
        refine V_bipush (v := (-2)) dX12_rolls_104 rfl ?_
        exact V_iret ⟨Or.inl rfl, dX12_rolls_106⟩ ⟨Nat.le_of_ble_eq_true rfl, Nat.le_of_ble_eq_true rfl⟩ ⟨rfl, by rw [rolS_n h17 hrst]; rfl, by rw [rolS_n h17 hrst]; exact hc, hF, rfl⟩

set_option maxRecDepth 100000 in
set_option maxHeartbeats 4000000 in
theorem w_rolls0 {G : zG} {I : zI} {J : zJ} {x y p : Nat} (hx : x < 8) (hy : y < 8) : zK G mX12_rolls 1 [.ref 62, .int (nI x), .int (nI y), .int (nI 0), .int (nI p)] zsh I J (zP (fun r I' J' => r = some (.int (fen (rolS (I 95) 0 8 x y (nI p)).1)) ∧ I' 62 55 = nI (rolS (I 95) 0 8 x y (nI p)).2 ∧ rlF I I' ∧ J = J')) := by
  refine zK_of kX12_rolls.2.2.2.2.1 (Nat.le_of_ble_eq_true rfl) ?_
  show V G mX12_rolls 1 _ 0 [(0, .ref 62), (1, .int (nI x)), (2, .int (nI y)), (3, .int (nI 0)), (4, .int (nI p))] [] (0, 0) zsh I J
  refine V_iload_n dX12_rolls_0 rfl ?_
  refine V_istore (ls' := [(5, .int (nI x)), (0, .ref 62), (1, .int (nI x)), (2, .int (nI y)), (3, .int (nI 0)), (4, .int (nI p))]) dX12_rolls_1 (by decide) rfl ?_
  refine V_iload_n dX12_rolls_3 rfl ?_
  refine V_istore (ls' := [(6, .int (nI y)), (5, .int (nI x)), (0, .ref 62), (1, .int (nI x)), (2, .int (nI y)), (3, .int (nI 0)), (4, .int (nI p))]) dX12_rolls_4 (by decide) rfl ?_
  refine V_iload dX12_rolls_6 rfl ?_
  refine V_istore (ls' := [(7, .int (nI p)), (6, .int (nI y)), (5, .int (nI x)), (0, .ref 62), (1, .int (nI x)), (2, .int (nI y)), (3, .int (nI 0)), (4, .int (nI p))]) dX12_rolls_8 (by decide) rfl ?_
  refine V_aload_n dX12_rolls_10 rfl ?_
  refine V_iconst (v := nI 0) dX12_rolls_11 rfl ?_
  refine V_putW dX12_rolls_12 fX12_458 ⟨Nat.le_of_ble_eq_true rfl, Nat.le_of_ble_eq_true rfl⟩ rfl rfl rfl ⟨rfl, rfl⟩ ?_
  refine V_sub2 (ls' := [(0, .ref 62), (3, .int (nI 0)), (5, .int (nI x)), (6, .int (nI y)), (7, .int (nI p))]) (List.forall_mem_cons.mpr ⟨rfl, List.forall_mem_cons.mpr ⟨rfl, List.forall_mem_cons.mpr ⟨rfl, List.forall_mem_cons.mpr ⟨rfl, List.forall_mem_cons.mpr ⟨rfl, fun _ h => absurd h List.not_mem_nil⟩⟩⟩⟩⟩) ?_
  refine zQ_mono ?_ (lp_rolls0 (I := I) 8 x y (nI p) 0 (zwr I 62 55 (nI 0)) hx hy (by omega) (zwr_at.trans (if_pos ⟨rfl, rfl⟩)) ⟨fun a ha => zup_n ha, fun j hj => zwr_at.trans (if_neg (fun h => hj h.2))⟩)
  rintro r sh' I' J' ⟨rfl, g1, g2, g3⟩
  exact ⟨rfl, g1, g2.trans (congrArg nI (Nat.zero_add _)), g3⟩

set_option maxRecDepth 100000 in
set_option maxHeartbeats 4000000 in
theorem w_roll0 {G : zG} {I : zI} {J : zJ} {x y p w : Nat} (hx : x < 8) (hy : y < 8) (hp : p ≤ 9) (hw : w ≤ 1) : zK G mX12_roll 2 [.ref 62, .int (nI x), .int (nI y), .int (nI 0), .int (nI p), .int (nI w)] zsh I J (zP (fun r I' J' => r = some (.int (rolR (I 95) 0 x y p w)) ∧ rlF I I' ∧ J = J')) := by
  refine zK_of kX12_roll.2.2.2.2.1 (Nat.le_of_ble_eq_true rfl) ?_
  show V G mX12_roll 2 _ 0 [(0, .ref 62), (1, .int (nI x)), (2, .int (nI y)), (3, .int (nI 0)), (4, .int (nI p)), (5, .int (nI w))] [] (0, 0) zsh I J
  refine V_iload_n dX12_roll_0 rfl ?_
  refine V_iconst (v := nI 0) dX12_roll_1 rfl ?_
  refine V_bipush (v := nI 7) dX12_roll_2 rfl ?_
  refine V_callS (As := [.int (nI x), .int (nI 0), .int (nI 7)]) (st := []) dX12_roll_4 kX12_in lX12_173 (by decide) rfl rfl (Nat.le_of_ble_eq_true rfl) ⟨Nat.le_of_ble_eq_true rfl, Nat.le_of_ble_eq_true rfl⟩ (w_inY rfl rfl (a := 0) (b := 7) ((inZ_k (by omega)).mpr (by omega))) ?_
  rintro _ _ _ _ ⟨rfl, rfl, rfl, rfl⟩
  refine V_if_eq (tgt := 50) dX12_roll_7 rfl (fun h => absurd h (by decide)) (fun _ => ?_)
  refine V_iload_n dX12_roll_10 rfl ?_
  refine V_iconst (v := nI 0) dX12_roll_11 rfl ?_
  refine V_bipush (v := nI 7) dX12_roll_12 rfl ?_
  refine V_callS (As := [.int (nI y), .int (nI 0), .int (nI 7)]) (st := []) dX12_roll_14 kX12_in lX12_173 (by decide) rfl rfl (Nat.le_of_ble_eq_true rfl) ⟨Nat.le_of_ble_eq_true rfl, Nat.le_of_ble_eq_true rfl⟩ (w_inY rfl rfl (a := 0) (b := 7) ((inZ_k (by omega)).mpr (by omega))) ?_
  rintro _ _ _ _ ⟨rfl, rfl, rfl, rfl⟩
  refine V_if_eq (tgt := 50) dX12_roll_17 rfl (fun h => absurd h (by decide)) (fun _ => ?_)
  refine V_iload_n dX12_roll_20 rfl ?_
  refine V_iconst (v := nI 0) dX12_roll_21 rfl ?_
  refine V_iconst (v := nI 3) dX12_roll_22 rfl ?_
  refine V_callS (As := [.int (nI 0), .int (nI 0), .int (nI 3)]) (st := []) dX12_roll_23 kX12_in lX12_173 (by decide) rfl rfl (Nat.le_of_ble_eq_true rfl) ⟨Nat.le_of_ble_eq_true rfl, Nat.le_of_ble_eq_true rfl⟩ (w_inY rfl rfl (a := 0) (b := 3) (by decide)) ?_
  rintro _ _ _ _ ⟨rfl, rfl, rfl, rfl⟩
  refine V_if_eq (tgt := 50) dX12_roll_26 rfl (fun h => absurd h (by decide)) (fun _ => ?_)
  refine V_iload dX12_roll_29 rfl ?_
  refine V_iconst (v := nI 0) dX12_roll_31 rfl ?_
  refine V_bipush (v := nI 9) dX12_roll_32 rfl ?_
  refine V_callS (As := [.int (nI p), .int (nI 0), .int (nI 9)]) (st := []) dX12_roll_34 kX12_in lX12_173 (by decide) rfl rfl (Nat.le_of_ble_eq_true rfl) ⟨Nat.le_of_ble_eq_true rfl, Nat.le_of_ble_eq_true rfl⟩ (w_inY rfl rfl (a := 0) (b := 9) ((inZ_k (by omega)).mpr (by omega))) ?_
  rintro _ _ _ _ ⟨rfl, rfl, rfl, rfl⟩
  refine V_if_eq (tgt := 50) dX12_roll_37 rfl (fun h => absurd h (by decide)) (fun _ => ?_)
  refine V_iload dX12_roll_40 rfl ?_
  refine V_iconst (v := nI 0) dX12_roll_42 rfl ?_
  refine V_iconst (v := nI 1) dX12_roll_43 rfl ?_
  refine V_callS (As := [.int (nI w), .int (nI 0), .int (nI 1)]) (st := []) dX12_roll_44 kX12_in lX12_173 (by decide) rfl rfl (Nat.le_of_ble_eq_true rfl) ⟨Nat.le_of_ble_eq_true rfl, Nat.le_of_ble_eq_true rfl⟩ (w_inY rfl rfl (a := 0) (b := 1) ((inZ_k (by omega)).mpr (by omega))) ?_
  rintro _ _ _ _ ⟨rfl, rfl, rfl, rfl⟩
  refine V_if_ne (tgt := 52) dX12_roll_47 rfl (fun _ => ?_) (fun h => absurd h (by decide))
  refine V_aload_n dX12_roll_52 rfl ?_
  refine V_iload_n dX12_roll_53 rfl ?_
  refine V_iload_n dX12_roll_54 rfl ?_
  refine V_iload_n dX12_roll_55 rfl ?_
  refine V_iload dX12_roll_56 rfl ?_
  refine V_callV (As := [.int (nI x), .int (nI y), .int (nI 0), .int (nI p)]) (st := []) (a := 62) dX12_roll_58 kX12_rolls lX12_461 (by decide) rfl rfl (Nat.le_of_ble_eq_true rfl) ⟨Nat.le_of_ble_eq_true rfl, Nat.le_of_ble_eq_true rfl⟩ ⟨Nat.le_of_ble_eq_true rfl, Nat.le_of_ble_eq_true rfl⟩ rfl ⟨rfl, by decide⟩ (w_rolls0 hx hy) ?_
  rintro r sh' I1 J' ⟨rfl, rfl, g1, g2, rfl⟩
  refine V_istore (ls' := [(6, .int (fen (rolS (I 95) 0 8 x y (nI p)).1)), (0, .ref 62), (1, .int (nI x)), (2, .int (nI y)), (3, .int (nI 0)), (4, .int (nI p)), (5, .int (nI w))]) dX12_roll_61 (by decide) rfl ?_
  refine V_iload dX12_roll_63 rfl ?_
  refine V_if_neN (tgt := 73) dX12_roll_65 rfl (by omega) (fun h65 => ?_) (fun h65 => ?_)
  · skip
    refine V_aload_n dX12_roll_73 rfl ?_
    refine V_getI dX12_roll_74 fX12_458 ⟨Nat.le_of_ble_eq_true rfl, Nat.le_of_ble_eq_true rfl⟩ rfl rfl ?_
    refine V_eqI (y := nI ((rolS (I 95) 0 8 x y (nI p)).2)) g1 ?_
    exact V_iret ⟨Or.inl rfl, dX12_roll_77⟩ ⟨Nat.le_of_ble_eq_true rfl, Nat.le_of_ble_eq_true rfl⟩ ⟨rfl, congrArg (fun z => some (Value.int z)) (if_neg h65).symm, g2, rfl⟩
  · skip
    refine V_iload dX12_roll_68 rfl ?_
    refine V_goto (tgt := 77) dX12_roll_70 rfl ?_
    exact V_iret ⟨Or.inl rfl, dX12_roll_77⟩ ⟨Nat.le_of_ble_eq_true rfl, Nat.le_of_ble_eq_true rfl⟩ ⟨rfl, congrArg (fun z => some (Value.int z)) (if_pos h65).symm, g2, rfl⟩

set_option maxRecDepth 100000 in
set_option maxHeartbeats 4000000 in
theorem lp_rolls1 {G : zG} {I : zI} {J : zJ}  : ∀ n x y l c (I1 : zI), x < 8 → y < 8 → 8 - x ≤ n → I1 62 55 = nI c → rlF I I1 → V G mX12_rolls 1 (zP (fun r I' J' => r = some (.int (fen (rolS (I 95) 1 n x y l).1)) ∧ I' 62 55 = nI (c + (rolS (I 95) 1 n x y l).2) ∧ rlF I I' ∧ J = J')) 15 [(0, .ref 62), (3, .int (nI 1)), (5, .int (nI x)), (6, .int (nI y)), (7, .int l)] [] (0, 0) zsh I1 J := by
  intro n
  induction n with
  | zero => intro x y l c I1 hx hy hr; intros; omega
  | succ n ih =>
    intro x y l c I1 hx hy hr hc hF
    refine V_iload dX12_rolls_15 rfl ?_
    refine V_if_le (tgt := 143) dX12_rolls_17 rfl (fun h17 => ?_) (fun h17 => ?_)
    · skip
      refine V_bipush (v := nI 8) dX12_rolls_143 rfl ?_
      refine V_iload dX12_rolls_145 rfl ?_
      refine V_imulN dX12_rolls_147 ?_
      refine V_iload dX12_rolls_148 rfl ?_
      refine V_iaddN dX12_rolls_150 ?_
      exact V_iret ⟨Or.inl rfl, dX12_rolls_151⟩ ⟨Nat.le_of_ble_eq_true rfl, Nat.le_of_ble_eq_true rfl⟩ ⟨rfl, by rw [rolS_0 h17]; rfl, by rw [rolS_0 h17]; exact hc, hF, rfl⟩
    · skip
      by_cases hst : x + 1 < 8
      · skip
        have hrst : rst 1 x y = some (x + 1, y) := by unfold rst; rw [if_neg (by decide), if_pos rfl, if_pos hst]
        refine V_aload_n dX12_rolls_20 rfl ?_
        refine V_getR (b := 95) dX12_rolls_21 fX12_109 ⟨Nat.le_of_ble_eq_true rfl, Nat.le_of_ble_eq_true rfl⟩ rfl rfl rfl ?_
        refine V_bipush (v := nI 8) dX12_rolls_24 rfl ?_
        refine V_iload dX12_rolls_26 rfl ?_
        refine V_imulN dX12_rolls_28 ?_
        refine V_iload dX12_rolls_29 rfl ?_
        refine V_iaddN dX12_rolls_31 ?_
        refine V_ialdN (k := (8 * y) + x) dX12_rolls_32 ⟨Nat.le_of_ble_eq_true rfl, Nat.le_of_ble_eq_true rfl⟩ rfl (by decide) (by omega) ?_
        refine V_eqI (y := I 95 ((8 * y) + x)) (congrFun (hF.1 95 (by decide)) _) ?_
        refine V_istore (ls' := [(8, .int (I 95 ((8 * y) + x))), (0, .ref 62), (3, .int (nI 1)), (5, .int (nI x)), (6, .int (nI y)), (7, .int l)]) dX12_rolls_33 (by decide) rfl ?_
        refine V_iload dX12_rolls_35 rfl ?_
        refine V_iload_n dX12_rolls_37 rfl ?_
        refine V_iconst (v := nI 1) dX12_rolls_38 rfl ?_
        refine V_icmp_ne (tgt := 46) dX12_rolls_39 rfl (fun h => absurd h (by decide)) (fun _ => ?_)
        refine V_iconst (v := nI 1) dX12_rolls_42 rfl ?_
        refine V_goto (tgt := 56) dX12_rolls_43 rfl ?_
        refine V_iaddN dX12_rolls_56 ?_
        refine V_istore (ls' := [(5, .int (nI (x + 1))), (8, .int (I 95 ((8 * y) + x))), (0, .ref 62), (3, .int (nI 1)), (6, .int (nI y)), (7, .int l)]) dX12_rolls_57 (by decide) rfl ?_
        refine V_iload dX12_rolls_59 rfl ?_
        refine V_iload_n dX12_rolls_61 rfl ?_
        refine V_if_ne (tgt := 69) dX12_rolls_62 rfl (fun _ => ?_) (fun h => absurd h (by decide))
        refine V_iload_n dX12_rolls_69 rfl ?_
        refine V_iconst (v := nI 2) dX12_rolls_70 rfl ?_
        refine V_icmp_ne (tgt := 78) dX12_rolls_71 rfl (fun _ => ?_) (fun h => absurd h (by decide))
        refine V_iconst (v := nI 0) dX12_rolls_78 rfl ?_
        refine V_iaddN dX12_rolls_79 ?_
        refine V_eqI (y := nI y) rfl ?_
        refine V_istore (ls' := [(6, .int (nI y)), (5, .int (nI (x + 1))), (8, .int (I 95 ((8 * y) + x))), (0, .ref 62), (3, .int (nI 1)), (7, .int l)]) dX12_rolls_80 (by decide) rfl ?_
        refine V_iload dX12_rolls_82 rfl ?_
        refine V_iconst (v := nI 0) dX12_rolls_84 rfl ?_
        refine V_bipush (v := nI 7) dX12_rolls_85 rfl ?_
        refine V_callS (As := [.int (nI (x + 1)), .int (nI 0), .int (nI 7)]) (st := []) dX12_rolls_87 kX12_in lX12_173 (by decide) rfl rfl (Nat.le_of_ble_eq_true rfl) ⟨Nat.le_of_ble_eq_true rfl, Nat.le_of_ble_eq_true rfl⟩ (w_inY rfl rfl (a := 0) (b := 7) ((inZ_k (by omega)).mpr (by omega))) ?_
        rintro _ _ _ _ ⟨rfl, rfl, rfl, rfl⟩
        refine V_if_eq (tgt := 104) dX12_rolls_90 rfl (fun h => absurd h (by decide)) (fun _ => ?_)
        refine V_iload dX12_rolls_93 rfl ?_
        refine V_iconst (v := nI 0) dX12_rolls_95 rfl ?_
        refine V_bipush (v := nI 7) dX12_rolls_96 rfl ?_
        refine V_callS (As := [.int (nI y), .int (nI 0), .int (nI 7)]) (st := []) dX12_rolls_98 kX12_in lX12_173 (by decide) rfl rfl (Nat.le_of_ble_eq_true rfl) ⟨Nat.le_of_ble_eq_true rfl, Nat.le_of_ble_eq_true rfl⟩ (w_inY rfl rfl (a := 0) (b := 7) ((inZ_k (by omega)).mpr (by omega))) ?_
        rintro _ _ _ _ ⟨rfl, rfl, rfl, rfl⟩
        refine V_if_ne (tgt := 107) dX12_rolls_101 rfl (fun _ => ?_) (fun h => absurd h (by decide))
        refine V_aload_n dX12_rolls_107 rfl ?_
        refine V_aload_n dX12_rolls_108 rfl ?_
        refine V_getI dX12_rolls_109 fX12_458 ⟨Nat.le_of_ble_eq_true rfl, Nat.le_of_ble_eq_true rfl⟩ rfl rfl ?_
        refine V_eqI (y := nI c) hc ?_
        refine V_iconst (v := nI 1) dX12_rolls_112 rfl ?_
        refine V_iaddN dX12_rolls_113 ?_
        refine V_putW dX12_rolls_114 fX12_458 ⟨Nat.le_of_ble_eq_true rfl, Nat.le_of_ble_eq_true rfl⟩ rfl rfl rfl ⟨rfl, rfl⟩ ?_
        refine V_iload dX12_rolls_117 rfl ?_
        refine V_iconst (v := nI 1) dX12_rolls_119 rfl ?_
        refine V_isub dX12_rolls_120 ?_
        refine V_iload dX12_rolls_121 rfl ?_
        refine V_iadd dX12_rolls_123 ?_
        refine V_aload_n dX12_rolls_124 rfl ?_
        refine V_getR (b := 95) dX12_rolls_125 fX12_109 ⟨Nat.le_of_ble_eq_true rfl, Nat.le_of_ble_eq_true rfl⟩ rfl rfl rfl ?_
        refine V_bipush (v := nI 8) dX12_rolls_128 rfl ?_
        refine V_iload dX12_rolls_130 rfl ?_
        refine V_imulN dX12_rolls_132 ?_
        refine V_iload dX12_rolls_133 rfl ?_
        refine V_iaddN dX12_rolls_135 ?_
        refine V_ialdN (k := (8 * y) + (x + 1)) dX12_rolls_136 ⟨Nat.le_of_ble_eq_true rfl, Nat.le_of_ble_eq_true rfl⟩ rfl (by decide) (by omega) ?_
        refine V_eqI (y := I1 95 ((8 * y) + (x + 1))) rfl ?_
        refine V_eqI (y := I 95 ((8 * y) + (x + 1))) (congrFun (hF.1 95 (by decide)) _) ?_
        refine V_isub dX12_rolls_137 (V_eqI (y := l + (I 95 (8 * y + x) - I 95 (8 * y + (x + 1)) - nI 1)) (lft_e l _ _) ?_)
        refine V_istore (ls' := [(7, .int (l + (I 95 (8 * y + x) - I 95 (8 * y + (x + 1)) - nI 1))), (6, .int (nI y)), (5, .int (nI (x + 1))), (8, .int (I 95 ((8 * y) + x))), (0, .ref 62), (3, .int (nI 1))]) dX12_rolls_138 (by decide) rfl ?_
        refine V_goto (tgt := 15) dX12_rolls_140 rfl ?_
        refine V_sub2 (ls' := [(0, .ref 62), (3, .int (nI 1)), (5, .int (nI (x + 1))), (6, .int (nI y)), (7, .int (l + (I 95 (8 * y + x) - I 95 (8 * y + (x + 1)) - nI 1)))]) (List.forall_mem_cons.mpr ⟨rfl, List.forall_mem_cons.mpr ⟨rfl, List.forall_mem_cons.mpr ⟨rfl, List.forall_mem_cons.mpr ⟨rfl, List.forall_mem_cons.mpr ⟨rfl, fun _ h => absurd h List.not_mem_nil⟩⟩⟩⟩⟩) ?_
        rw [rolS_s h17 hrst]
        refine zQ_mono ?_ (ih (x + 1) y _ (c + 1) (zwr I1 62 55 (nI (c + 1))) (by omega) (by omega) (by omega) (zwr_at.trans (if_pos ⟨rfl, rfl⟩)) ⟨fun a ha => (zup_n ha).trans (hF.1 a ha), fun j hj => (zwr_at.trans (if_neg (fun h => hj h.2))).trans (hF.2 j hj)⟩)
        rintro r sh' I' J' ⟨rfl, g1, g2, g3⟩
        exact ⟨rfl, g1, g2.trans (congrArg nI (by omega)), g3⟩
      · skip
        have hrst : rst 1 x y = none := by unfold rst; rw [if_neg (by decide), if_pos rfl, if_neg hst]
        refine V_aload_n dX12_rolls_20 rfl ?_
        refine V_getR (b := 95) dX12_rolls_21 fX12_109 ⟨Nat.le_of_ble_eq_true rfl, Nat.le_of_ble_eq_true rfl⟩ rfl rfl rfl ?_
        refine V_bipush (v := nI 8) dX12_rolls_24 rfl ?_
        refine V_iload dX12_rolls_26 rfl ?_
        refine V_imulN dX12_rolls_28 ?_
        refine V_iload dX12_rolls_29 rfl ?_
        refine V_iaddN dX12_rolls_31 ?_
        refine V_ialdN (k := (8 * y) + x) dX12_rolls_32 ⟨Nat.le_of_ble_eq_true rfl, Nat.le_of_ble_eq_true rfl⟩ rfl (by decide) (by omega) ?_
        refine V_eqI (y := I 95 ((8 * y) + x)) (congrFun (hF.1 95 (by decide)) _) ?_
        refine V_istore (ls' := [(8, .int (I 95 ((8 * y) + x))), (0, .ref 62), (3, .int (nI 1)), (5, .int (nI x)), (6, .int (nI y)), (7, .int l)]) dX12_rolls_33 (by decide) rfl ?_
        refine V_iload dX12_rolls_35 rfl ?_
        refine V_iload_n dX12_rolls_37 rfl ?_
        refine V_iconst (v := nI 1) dX12_rolls_38 rfl ?_
        refine V_icmp_ne (tgt := 46) dX12_rolls_39 rfl (fun h => absurd h (by decide)) (fun _ => ?_)
        refine V_iconst (v := nI 1) dX12_rolls_42 rfl ?_
        refine V_goto (tgt := 56) dX12_rolls_43 rfl ?_
        refine V_iaddN dX12_rolls_56 ?_
        refine V_istore (ls' := [(5, .int (nI (x + 1))), (8, .int (I 95 ((8 * y) + x))), (0, .ref 62), (3, .int (nI 1)), (6, .int (nI y)), (7, .int l)]) dX12_rolls_57 (by decide) rfl ?_
        refine V_iload dX12_rolls_59 rfl ?_
        refine V_iload_n dX12_rolls_61 rfl ?_
        refine V_if_ne (tgt := 69) dX12_rolls_62 rfl (fun _ => ?_) (fun h => absurd h (by decide))
        refine V_iload_n dX12_rolls_69 rfl ?_
        refine V_iconst (v := nI 2) dX12_rolls_70 rfl ?_
        refine V_icmp_ne (tgt := 78) dX12_rolls_71 rfl (fun _ => ?_) (fun h => absurd h (by decide))
        refine V_iconst (v := nI 0) dX12_rolls_78 rfl ?_
        refine V_iaddN dX12_rolls_79 ?_
        refine V_eqI (y := nI y) rfl ?_
        refine V_istore (ls' := [(6, .int (nI y)), (5, .int (nI (x + 1))), (8, .int (I 95 ((8 * y) + x))), (0, .ref 62), (3, .int (nI 1)), (7, .int l)]) dX12_rolls_80 (by decide) rfl ?_
        refine V_iload dX12_rolls_82 rfl ?_
        refine V_iconst (v := nI 0) dX12_rolls_84 rfl ?_
        refine V_bipush (v := nI 7) dX12_rolls_85 rfl ?_
        refine V_callS (As := [.int (nI (x + 1)), .int (nI 0), .int (nI 7)]) (st := []) dX12_rolls_87 kX12_in lX12_173 (by decide) rfl rfl (Nat.le_of_ble_eq_true rfl) ⟨Nat.le_of_ble_eq_true rfl, Nat.le_of_ble_eq_true rfl⟩ (w_inN rfl rfl (a := 0) (b := 7) (fun h => by have h1 := (inZ_k (by omega)).mp h; omega)) ?_
        rintro _ _ _ _ ⟨rfl, rfl, rfl, rfl⟩
        refine V_if_eq (tgt := 104) dX12_rolls_90 rfl (fun _ => ?_) (fun h => absurd h (by decide))
        refine V_bipush (v := (-2)) dX12_rolls_104 rfl ?_
        exact V_iret ⟨Or.inl rfl, dX12_rolls_106⟩ ⟨Nat.le_of_ble_eq_true rfl, Nat.le_of_ble_eq_true rfl⟩ ⟨rfl, by rw [rolS_n h17 hrst]; rfl, by rw [rolS_n h17 hrst]; exact hc, hF, rfl⟩

set_option maxRecDepth 100000 in
set_option maxHeartbeats 4000000 in
theorem w_rolls1 {G : zG} {I : zI} {J : zJ} {x y p : Nat} (hx : x < 8) (hy : y < 8) : zK G mX12_rolls 1 [.ref 62, .int (nI x), .int (nI y), .int (nI 1), .int (nI p)] zsh I J (zP (fun r I' J' => r = some (.int (fen (rolS (I 95) 1 8 x y (nI p)).1)) ∧ I' 62 55 = nI (rolS (I 95) 1 8 x y (nI p)).2 ∧ rlF I I' ∧ J = J')) := by
  refine zK_of kX12_rolls.2.2.2.2.1 (Nat.le_of_ble_eq_true rfl) ?_
  show V G mX12_rolls 1 _ 0 [(0, .ref 62), (1, .int (nI x)), (2, .int (nI y)), (3, .int (nI 1)), (4, .int (nI p))] [] (0, 0) zsh I J
  refine V_iload_n dX12_rolls_0 rfl ?_
  refine V_istore (ls' := [(5, .int (nI x)), (0, .ref 62), (1, .int (nI x)), (2, .int (nI y)), (3, .int (nI 1)), (4, .int (nI p))]) dX12_rolls_1 (by decide) rfl ?_
  refine V_iload_n dX12_rolls_3 rfl ?_
  refine V_istore (ls' := [(6, .int (nI y)), (5, .int (nI x)), (0, .ref 62), (1, .int (nI x)), (2, .int (nI y)), (3, .int (nI 1)), (4, .int (nI p))]) dX12_rolls_4 (by decide) rfl ?_
  refine V_iload dX12_rolls_6 rfl ?_
  refine V_istore (ls' := [(7, .int (nI p)), (6, .int (nI y)), (5, .int (nI x)), (0, .ref 62), (1, .int (nI x)), (2, .int (nI y)), (3, .int (nI 1)), (4, .int (nI p))]) dX12_rolls_8 (by decide) rfl ?_
  refine V_aload_n dX12_rolls_10 rfl ?_
  refine V_iconst (v := nI 0) dX12_rolls_11 rfl ?_
  refine V_putW dX12_rolls_12 fX12_458 ⟨Nat.le_of_ble_eq_true rfl, Nat.le_of_ble_eq_true rfl⟩ rfl rfl rfl ⟨rfl, rfl⟩ ?_
  refine V_sub2 (ls' := [(0, .ref 62), (3, .int (nI 1)), (5, .int (nI x)), (6, .int (nI y)), (7, .int (nI p))]) (List.forall_mem_cons.mpr ⟨rfl, List.forall_mem_cons.mpr ⟨rfl, List.forall_mem_cons.mpr ⟨rfl, List.forall_mem_cons.mpr ⟨rfl, List.forall_mem_cons.mpr ⟨rfl, fun _ h => absurd h List.not_mem_nil⟩⟩⟩⟩⟩) ?_
  refine zQ_mono ?_ (lp_rolls1 (I := I) 8 x y (nI p) 0 (zwr I 62 55 (nI 0)) hx hy (by omega) (zwr_at.trans (if_pos ⟨rfl, rfl⟩)) ⟨fun a ha => zup_n ha, fun j hj => zwr_at.trans (if_neg (fun h => hj h.2))⟩)
  rintro r sh' I' J' ⟨rfl, g1, g2, g3⟩
  exact ⟨rfl, g1, g2.trans (congrArg nI (Nat.zero_add _)), g3⟩

set_option maxRecDepth 100000 in
set_option maxHeartbeats 4000000 in
theorem w_roll1 {G : zG} {I : zI} {J : zJ} {x y p w : Nat} (hx : x < 8) (hy : y < 8) (hp : p ≤ 9) (hw : w ≤ 1) : zK G mX12_roll 2 [.ref 62, .int (nI x), .int (nI y), .int (nI 1), .int (nI p), .int (nI w)] zsh I J (zP (fun r I' J' => r = some (.int (rolR (I 95) 1 x y p w)) ∧ rlF I I' ∧ J = J')) := by
  refine zK_of kX12_roll.2.2.2.2.1 (Nat.le_of_ble_eq_true rfl) ?_
  show V G mX12_roll 2 _ 0 [(0, .ref 62), (1, .int (nI x)), (2, .int (nI y)), (3, .int (nI 1)), (4, .int (nI p)), (5, .int (nI w))] [] (0, 0) zsh I J
  refine V_iload_n dX12_roll_0 rfl ?_
  refine V_iconst (v := nI 0) dX12_roll_1 rfl ?_
  refine V_bipush (v := nI 7) dX12_roll_2 rfl ?_
  refine V_callS (As := [.int (nI x), .int (nI 0), .int (nI 7)]) (st := []) dX12_roll_4 kX12_in lX12_173 (by decide) rfl rfl (Nat.le_of_ble_eq_true rfl) ⟨Nat.le_of_ble_eq_true rfl, Nat.le_of_ble_eq_true rfl⟩ (w_inY rfl rfl (a := 0) (b := 7) ((inZ_k (by omega)).mpr (by omega))) ?_
  rintro _ _ _ _ ⟨rfl, rfl, rfl, rfl⟩
  refine V_if_eq (tgt := 50) dX12_roll_7 rfl (fun h => absurd h (by decide)) (fun _ => ?_)
  refine V_iload_n dX12_roll_10 rfl ?_
  refine V_iconst (v := nI 0) dX12_roll_11 rfl ?_
  refine V_bipush (v := nI 7) dX12_roll_12 rfl ?_
  refine V_callS (As := [.int (nI y), .int (nI 0), .int (nI 7)]) (st := []) dX12_roll_14 kX12_in lX12_173 (by decide) rfl rfl (Nat.le_of_ble_eq_true rfl) ⟨Nat.le_of_ble_eq_true rfl, Nat.le_of_ble_eq_true rfl⟩ (w_inY rfl rfl (a := 0) (b := 7) ((inZ_k (by omega)).mpr (by omega))) ?_
  rintro _ _ _ _ ⟨rfl, rfl, rfl, rfl⟩
  refine V_if_eq (tgt := 50) dX12_roll_17 rfl (fun h => absurd h (by decide)) (fun _ => ?_)
  refine V_iload_n dX12_roll_20 rfl ?_
  refine V_iconst (v := nI 0) dX12_roll_21 rfl ?_
  refine V_iconst (v := nI 3) dX12_roll_22 rfl ?_
  refine V_callS (As := [.int (nI 1), .int (nI 0), .int (nI 3)]) (st := []) dX12_roll_23 kX12_in lX12_173 (by decide) rfl rfl (Nat.le_of_ble_eq_true rfl) ⟨Nat.le_of_ble_eq_true rfl, Nat.le_of_ble_eq_true rfl⟩ (w_inY rfl rfl (a := 0) (b := 3) (by decide)) ?_
  rintro _ _ _ _ ⟨rfl, rfl, rfl, rfl⟩
  refine V_if_eq (tgt := 50) dX12_roll_26 rfl (fun h => absurd h (by decide)) (fun _ => ?_)
  refine V_iload dX12_roll_29 rfl ?_
  refine V_iconst (v := nI 0) dX12_roll_31 rfl ?_
  refine V_bipush (v := nI 9) dX12_roll_32 rfl ?_
  refine V_callS (As := [.int (nI p), .int (nI 0), .int (nI 9)]) (st := []) dX12_roll_34 kX12_in lX12_173 (by decide) rfl rfl (Nat.le_of_ble_eq_true rfl) ⟨Nat.le_of_ble_eq_true rfl, Nat.le_of_ble_eq_true rfl⟩ (w_inY rfl rfl (a := 0) (b := 9) ((inZ_k (by omega)).mpr (by omega))) ?_
  rintro _ _ _ _ ⟨rfl, rfl, rfl, rfl⟩
  refine V_if_eq (tgt := 50) dX12_roll_37 rfl (fun h => absurd h (by decide)) (fun _ => ?_)
  refine V_iload dX12_roll_40 rfl ?_
  refine V_iconst (v := nI 0) dX12_roll_42 rfl ?_
  refine V_iconst (v := nI 1) dX12_roll_43 rfl ?_
  refine V_callS (As := [.int (nI w), .int (nI 0), .int (nI 1)]) (st := []) dX12_roll_44 kX12_in lX12_173 (by decide) rfl rfl (Nat.le_of_ble_eq_true rfl) ⟨Nat.le_of_ble_eq_true rfl, Nat.le_of_ble_eq_true rfl⟩ (w_inY rfl rfl (a := 0) (b := 1) ((inZ_k (by omega)).mpr (by omega))) ?_
  rintro _ _ _ _ ⟨rfl, rfl, rfl, rfl⟩
  refine V_if_ne (tgt := 52) dX12_roll_47 rfl (fun _ => ?_) (fun h => absurd h (by decide))
  refine V_aload_n dX12_roll_52 rfl ?_
  refine V_iload_n dX12_roll_53 rfl ?_
  refine V_iload_n dX12_roll_54 rfl ?_
  refine V_iload_n dX12_roll_55 rfl ?_
  refine V_iload dX12_roll_56 rfl ?_
  refine V_callV (As := [.int (nI x), .int (nI y), .int (nI 1), .int (nI p)]) (st := []) (a := 62) dX12_roll_58 kX12_rolls lX12_461 (by decide) rfl rfl (Nat.le_of_ble_eq_true rfl) ⟨Nat.le_of_ble_eq_true rfl, Nat.le_of_ble_eq_true rfl⟩ ⟨Nat.le_of_ble_eq_true rfl, Nat.le_of_ble_eq_true rfl⟩ rfl ⟨rfl, by decide⟩ (w_rolls1 hx hy) ?_
  rintro r sh' I1 J' ⟨rfl, rfl, g1, g2, rfl⟩
  refine V_istore (ls' := [(6, .int (fen (rolS (I 95) 1 8 x y (nI p)).1)), (0, .ref 62), (1, .int (nI x)), (2, .int (nI y)), (3, .int (nI 1)), (4, .int (nI p)), (5, .int (nI w))]) dX12_roll_61 (by decide) rfl ?_
  refine V_iload dX12_roll_63 rfl ?_
  refine V_if_neN (tgt := 73) dX12_roll_65 rfl (by omega) (fun h65 => ?_) (fun h65 => ?_)
  · skip
    refine V_aload_n dX12_roll_73 rfl ?_
    refine V_getI dX12_roll_74 fX12_458 ⟨Nat.le_of_ble_eq_true rfl, Nat.le_of_ble_eq_true rfl⟩ rfl rfl ?_
    refine V_eqI (y := nI ((rolS (I 95) 1 8 x y (nI p)).2)) g1 ?_
    exact V_iret ⟨Or.inl rfl, dX12_roll_77⟩ ⟨Nat.le_of_ble_eq_true rfl, Nat.le_of_ble_eq_true rfl⟩ ⟨rfl, congrArg (fun z => some (Value.int z)) (if_neg h65).symm, g2, rfl⟩
  · skip
    refine V_iload dX12_roll_68 rfl ?_
    refine V_goto (tgt := 77) dX12_roll_70 rfl ?_
    exact V_iret ⟨Or.inl rfl, dX12_roll_77⟩ ⟨Nat.le_of_ble_eq_true rfl, Nat.le_of_ble_eq_true rfl⟩ ⟨rfl, congrArg (fun z => some (Value.int z)) (if_pos h65).symm, g2, rfl⟩

set_option maxRecDepth 100000 in
set_option maxHeartbeats 4000000 in
theorem lp_rolls2 {G : zG} {I : zI} {J : zJ}  : ∀ n x y l c (I1 : zI), x < 8 → y < 8 → y + 1 ≤ n → I1 62 55 = nI c → rlF I I1 → V G mX12_rolls 1 (zP (fun r I' J' => r = some (.int (fen (rolS (I 95) 2 n x y l).1)) ∧ I' 62 55 = nI (c + (rolS (I 95) 2 n x y l).2) ∧ rlF I I' ∧ J = J')) 15 [(0, .ref 62), (3, .int (nI 2)), (5, .int (nI x)), (6, .int (nI y)), (7, .int l)] [] (0, 0) zsh I1 J := by
  intro n
  induction n with
  | zero => intro x y l c I1 hx hy hr; intros; omega
  | succ n ih =>
    intro x y l c I1 hx hy hr hc hF
    refine V_iload dX12_rolls_15 rfl ?_
    refine V_if_le (tgt := 143) dX12_rolls_17 rfl (fun h17 => ?_) (fun h17 => ?_)
    · skip
      refine V_bipush (v := nI 8) dX12_rolls_143 rfl ?_
      refine V_iload dX12_rolls_145 rfl ?_
      refine V_imulN dX12_rolls_147 ?_
      refine V_iload dX12_rolls_148 rfl ?_
      refine V_iaddN dX12_rolls_150 ?_
      exact V_iret ⟨Or.inl rfl, dX12_rolls_151⟩ ⟨Nat.le_of_ble_eq_true rfl, Nat.le_of_ble_eq_true rfl⟩ ⟨rfl, by rw [rolS_0 h17]; rfl, by rw [rolS_0 h17]; exact hc, hF, rfl⟩
    · skip
      by_cases hst : 0 < y
      · skip
        have hrst : rst 2 x y = some (x, y - 1) := by unfold rst; rw [if_neg (by decide), if_neg (by decide), if_pos rfl, if_pos hst]
        refine V_aload_n dX12_rolls_20 rfl ?_
        refine V_getR (b := 95) dX12_rolls_21 fX12_109 ⟨Nat.le_of_ble_eq_true rfl, Nat.le_of_ble_eq_true rfl⟩ rfl rfl rfl ?_
        refine V_bipush (v := nI 8) dX12_rolls_24 rfl ?_
        refine V_iload dX12_rolls_26 rfl ?_
        refine V_imulN dX12_rolls_28 ?_
        refine V_iload dX12_rolls_29 rfl ?_
        refine V_iaddN dX12_rolls_31 ?_
        refine V_ialdN (k := (8 * y) + x) dX12_rolls_32 ⟨Nat.le_of_ble_eq_true rfl, Nat.le_of_ble_eq_true rfl⟩ rfl (by decide) (by omega) ?_
        refine V_eqI (y := I 95 ((8 * y) + x)) (congrFun (hF.1 95 (by decide)) _) ?_
        refine V_istore (ls' := [(8, .int (I 95 ((8 * y) + x))), (0, .ref 62), (3, .int (nI 2)), (5, .int (nI x)), (6, .int (nI y)), (7, .int l)]) dX12_rolls_33 (by decide) rfl ?_
        refine V_iload dX12_rolls_35 rfl ?_
        refine V_iload_n dX12_rolls_37 rfl ?_
        refine V_iconst (v := nI 1) dX12_rolls_38 rfl ?_
        refine V_icmp_ne (tgt := 46) dX12_rolls_39 rfl (fun _ => ?_) (fun h => absurd h (by decide))
        refine V_iload_n dX12_rolls_46 rfl ?_
        refine V_iconst (v := nI 3) dX12_rolls_47 rfl ?_
        refine V_icmp_ne (tgt := 55) dX12_rolls_48 rfl (fun _ => ?_) (fun h => absurd h (by decide))
        refine V_iconst (v := nI 0) dX12_rolls_55 rfl ?_
        refine V_iaddN dX12_rolls_56 ?_
        refine V_eqI (y := nI x) rfl ?_
        refine V_istore (ls' := [(5, .int (nI x)), (8, .int (I 95 ((8 * y) + x))), (0, .ref 62), (3, .int (nI 2)), (6, .int (nI y)), (7, .int l)]) dX12_rolls_57 (by decide) rfl ?_
        refine V_iload dX12_rolls_59 rfl ?_
        refine V_iload_n dX12_rolls_61 rfl ?_
        refine V_if_ne (tgt := 69) dX12_rolls_62 rfl (fun _ => ?_) (fun h => absurd h (by decide))
        refine V_iload_n dX12_rolls_69 rfl ?_
        refine V_iconst (v := nI 2) dX12_rolls_70 rfl ?_
        refine V_icmp_ne (tgt := 78) dX12_rolls_71 rfl (fun h => absurd h (by decide)) (fun _ => ?_)
        refine V_iconst (v := (-1)) dX12_rolls_74 rfl ?_
        refine V_goto (tgt := 79) dX12_rolls_75 rfl ?_
        refine V_iadd dX12_rolls_79 (V_eqI (y := nI (y - 1)) (dec1 (by omega) (by omega)) ?_)
        refine V_istore (ls' := [(6, .int (nI (y - 1))), (5, .int (nI x)), (8, .int (I 95 ((8 * y) + x))), (0, .ref 62), (3, .int (nI 2)), (7, .int l)]) dX12_rolls_80 (by decide) rfl ?_
        refine V_iload dX12_rolls_82 rfl ?_
        refine V_iconst (v := nI 0) dX12_rolls_84 rfl ?_
        refine V_bipush (v := nI 7) dX12_rolls_85 rfl ?_
        refine V_callS (As := [.int (nI x), .int (nI 0), .int (nI 7)]) (st := []) dX12_rolls_87 kX12_in lX12_173 (by decide) rfl rfl (Nat.le_of_ble_eq_true rfl) ⟨Nat.le_of_ble_eq_true rfl, Nat.le_of_ble_eq_true rfl⟩ (w_inY rfl rfl (a := 0) (b := 7) ((inZ_k (by omega)).mpr (by omega))) ?_
        rintro _ _ _ _ ⟨rfl, rfl, rfl, rfl⟩
        refine V_if_eq (tgt := 104) dX12_rolls_90 rfl (fun h => absurd h (by decide)) (fun _ => ?_)
        refine V_iload dX12_rolls_93 rfl ?_
        refine V_iconst (v := nI 0) dX12_rolls_95 rfl ?_
        refine V_bipush (v := nI 7) dX12_rolls_96 rfl ?_
        refine V_callS (As := [.int (nI (y - 1)), .int (nI 0), .int (nI 7)]) (st := []) dX12_rolls_98 kX12_in lX12_173 (by decide) rfl rfl (Nat.le_of_ble_eq_true rfl) ⟨Nat.le_of_ble_eq_true rfl, Nat.le_of_ble_eq_true rfl⟩ (w_inY rfl rfl (a := 0) (b := 7) ((inZ_k (by omega)).mpr (by omega))) ?_
        rintro _ _ _ _ ⟨rfl, rfl, rfl, rfl⟩
        refine V_if_ne (tgt := 107) dX12_rolls_101 rfl (fun _ => ?_) (fun h => absurd h (by decide))
        refine V_aload_n dX12_rolls_107 rfl ?_
        refine V_aload_n dX12_rolls_108 rfl ?_
        refine V_getI dX12_rolls_109 fX12_458 ⟨Nat.le_of_ble_eq_true rfl, Nat.le_of_ble_eq_true rfl⟩ rfl rfl ?_
        refine V_eqI (y := nI c) hc ?_
        refine V_iconst (v := nI 1) dX12_rolls_112 rfl ?_
        refine V_iaddN dX12_rolls_113 ?_
        refine V_putW dX12_rolls_114 fX12_458 ⟨Nat.le_of_ble_eq_true rfl, Nat.le_of_ble_eq_true rfl⟩ rfl rfl rfl ⟨rfl, rfl⟩ ?_
        refine V_iload dX12_rolls_117 rfl ?_
        refine V_iconst (v := nI 1) dX12_rolls_119 rfl ?_
        refine V_isub dX12_rolls_120 ?_
        refine V_iload dX12_rolls_121 rfl ?_
        refine V_iadd dX12_rolls_123 ?_
        refine V_aload_n dX12_rolls_124 rfl ?_
        refine V_getR (b := 95) dX12_rolls_125 fX12_109 ⟨Nat.le_of_ble_eq_true rfl, Nat.le_of_ble_eq_true rfl⟩ rfl rfl rfl ?_
        refine V_bipush (v := nI 8) dX12_rolls_128 rfl ?_
        refine V_iload dX12_rolls_130 rfl ?_
        refine V_imulN dX12_rolls_132 ?_
        refine V_iload dX12_rolls_133 rfl ?_
        refine V_iaddN dX12_rolls_135 ?_
        refine V_ialdN (k := (8 * (y - 1)) + x) dX12_rolls_136 ⟨Nat.le_of_ble_eq_true rfl, Nat.le_of_ble_eq_true rfl⟩ rfl (by decide) (by omega) ?_
        refine V_eqI (y := I1 95 ((8 * (y - 1)) + x)) rfl ?_
        refine V_eqI (y := I 95 ((8 * (y - 1)) + x)) (congrFun (hF.1 95 (by decide)) _) ?_
        refine V_isub dX12_rolls_137 (V_eqI (y := l + (I 95 (8 * y + x) - I 95 (8 * (y - 1) + x) - nI 1)) (lft_e l _ _) ?_)
        refine V_istore (ls' := [(7, .int (l + (I 95 (8 * y + x) - I 95 (8 * (y - 1) + x) - nI 1))), (6, .int (nI (y - 1))), (5, .int (nI x)), (8, .int (I 95 ((8 * y) + x))), (0, .ref 62), (3, .int (nI 2))]) dX12_rolls_138 (by decide) rfl ?_
        refine V_goto (tgt := 15) dX12_rolls_140 rfl ?_
        refine V_sub2 (ls' := [(0, .ref 62), (3, .int (nI 2)), (5, .int (nI x)), (6, .int (nI (y - 1))), (7, .int (l + (I 95 (8 * y + x) - I 95 (8 * (y - 1) + x) - nI 1)))]) (List.forall_mem_cons.mpr ⟨rfl, List.forall_mem_cons.mpr ⟨rfl, List.forall_mem_cons.mpr ⟨rfl, List.forall_mem_cons.mpr ⟨rfl, List.forall_mem_cons.mpr ⟨rfl, fun _ h => absurd h List.not_mem_nil⟩⟩⟩⟩⟩) ?_
        rw [rolS_s h17 hrst]
        refine zQ_mono ?_ (ih x (y - 1) _ (c + 1) (zwr I1 62 55 (nI (c + 1))) (by omega) (by omega) (by omega) (zwr_at.trans (if_pos ⟨rfl, rfl⟩)) ⟨fun a ha => (zup_n ha).trans (hF.1 a ha), fun j hj => (zwr_at.trans (if_neg (fun h => hj h.2))).trans (hF.2 j hj)⟩)
        rintro r sh' I' J' ⟨rfl, g1, g2, g3⟩
        exact ⟨rfl, g1, g2.trans (congrArg nI (by omega)), g3⟩
      · skip
        have hrst : rst 2 x y = none := by unfold rst; rw [if_neg (by decide), if_neg (by decide), if_pos rfl, if_neg hst]
        refine V_aload_n dX12_rolls_20 rfl ?_
        refine V_getR (b := 95) dX12_rolls_21 fX12_109 ⟨Nat.le_of_ble_eq_true rfl, Nat.le_of_ble_eq_true rfl⟩ rfl rfl rfl ?_
        refine V_bipush (v := nI 8) dX12_rolls_24 rfl ?_
        refine V_iload dX12_rolls_26 rfl ?_
        refine V_imulN dX12_rolls_28 ?_
        refine V_iload dX12_rolls_29 rfl ?_
        refine V_iaddN dX12_rolls_31 ?_
        refine V_ialdN (k := (8 * y) + x) dX12_rolls_32 ⟨Nat.le_of_ble_eq_true rfl, Nat.le_of_ble_eq_true rfl⟩ rfl (by decide) (by omega) ?_
        refine V_eqI (y := I 95 ((8 * y) + x)) (congrFun (hF.1 95 (by decide)) _) ?_
        refine V_istore (ls' := [(8, .int (I 95 ((8 * y) + x))), (0, .ref 62), (3, .int (nI 2)), (5, .int (nI x)), (6, .int (nI y)), (7, .int l)]) dX12_rolls_33 (by decide) rfl ?_
        refine V_iload dX12_rolls_35 rfl ?_
        refine V_iload_n dX12_rolls_37 rfl ?_
        refine V_iconst (v := nI 1) dX12_rolls_38 rfl ?_
        refine V_icmp_ne (tgt := 46) dX12_rolls_39 rfl (fun _ => ?_) (fun h => absurd h (by decide))
        refine V_iload_n dX12_rolls_46 rfl ?_
        refine V_iconst (v := nI 3) dX12_rolls_47 rfl ?_
        refine V_icmp_ne (tgt := 55) dX12_rolls_48 rfl (fun _ => ?_) (fun h => absurd h (by decide))
        refine V_iconst (v := nI 0) dX12_rolls_55 rfl ?_
        refine V_iaddN dX12_rolls_56 ?_
        refine V_eqI (y := nI x) rfl ?_
        refine V_istore (ls' := [(5, .int (nI x)), (8, .int (I 95 ((8 * y) + x))), (0, .ref 62), (3, .int (nI 2)), (6, .int (nI y)), (7, .int l)]) dX12_rolls_57 (by decide) rfl ?_
        refine V_iload dX12_rolls_59 rfl ?_
        refine V_iload_n dX12_rolls_61 rfl ?_
        refine V_if_ne (tgt := 69) dX12_rolls_62 rfl (fun _ => ?_) (fun h => absurd h (by decide))
        refine V_iload_n dX12_rolls_69 rfl ?_
        refine V_iconst (v := nI 2) dX12_rolls_70 rfl ?_
        refine V_icmp_ne (tgt := 78) dX12_rolls_71 rfl (fun h => absurd h (by decide)) (fun _ => ?_)
        refine V_iconst (v := (-1)) dX12_rolls_74 rfl ?_
        refine V_goto (tgt := 79) dX12_rolls_75 rfl ?_
        refine V_iadd dX12_rolls_79 (V_eqI (y := (-1)) (by rw [show y = 0 by omega]; decide) ?_)
        refine V_istore (ls' := [(6, .int (-1)), (5, .int (nI x)), (8, .int (I 95 ((8 * y) + x))), (0, .ref 62), (3, .int (nI 2)), (7, .int l)]) dX12_rolls_80 (by decide) rfl ?_
        refine V_iload dX12_rolls_82 rfl ?_
        refine V_iconst (v := nI 0) dX12_rolls_84 rfl ?_
        refine V_bipush (v := nI 7) dX12_rolls_85 rfl ?_
        refine V_callS (As := [.int (nI x), .int (nI 0), .int (nI 7)]) (st := []) dX12_rolls_87 kX12_in lX12_173 (by decide) rfl rfl (Nat.le_of_ble_eq_true rfl) ⟨Nat.le_of_ble_eq_true rfl, Nat.le_of_ble_eq_true rfl⟩ (w_inY rfl rfl (a := 0) (b := 7) ((inZ_k (by omega)).mpr (by omega))) ?_
        rintro _ _ _ _ ⟨rfl, rfl, rfl, rfl⟩
        refine V_if_eq (tgt := 104) dX12_rolls_90 rfl (fun h => absurd h (by decide)) (fun _ => ?_)
        refine V_iload dX12_rolls_93 rfl ?_
        refine V_iconst (v := nI 0) dX12_rolls_95 rfl ?_
        refine V_bipush (v := nI 7) dX12_rolls_96 rfl ?_
        refine V_callS (As := [.int (-1), .int (nI 0), .int (nI 7)]) (st := []) dX12_rolls_98 kX12_in lX12_173 (by decide) rfl rfl (Nat.le_of_ble_eq_true rfl) ⟨Nat.le_of_ble_eq_true rfl, Nat.le_of_ble_eq_true rfl⟩ (w_inN rfl rfl (a := 0) (b := 7) (by decide)) ?_
        rintro _ _ _ _ ⟨rfl, rfl, rfl, rfl⟩
        refine V_if_ne (tgt := 107) dX12_rolls_101 rfl (fun h => absurd h (by decide)) (fun _ => ?_)
        refine V_bipush (v := (-2)) dX12_rolls_104 rfl ?_
        exact V_iret ⟨Or.inl rfl, dX12_rolls_106⟩ ⟨Nat.le_of_ble_eq_true rfl, Nat.le_of_ble_eq_true rfl⟩ ⟨rfl, by rw [rolS_n h17 hrst]; rfl, by rw [rolS_n h17 hrst]; exact hc, hF, rfl⟩

set_option maxRecDepth 100000 in
set_option maxHeartbeats 4000000 in
theorem w_rolls2 {G : zG} {I : zI} {J : zJ} {x y p : Nat} (hx : x < 8) (hy : y < 8) : zK G mX12_rolls 1 [.ref 62, .int (nI x), .int (nI y), .int (nI 2), .int (nI p)] zsh I J (zP (fun r I' J' => r = some (.int (fen (rolS (I 95) 2 8 x y (nI p)).1)) ∧ I' 62 55 = nI (rolS (I 95) 2 8 x y (nI p)).2 ∧ rlF I I' ∧ J = J')) := by
  refine zK_of kX12_rolls.2.2.2.2.1 (Nat.le_of_ble_eq_true rfl) ?_
  show V G mX12_rolls 1 _ 0 [(0, .ref 62), (1, .int (nI x)), (2, .int (nI y)), (3, .int (nI 2)), (4, .int (nI p))] [] (0, 0) zsh I J
  refine V_iload_n dX12_rolls_0 rfl ?_
  refine V_istore (ls' := [(5, .int (nI x)), (0, .ref 62), (1, .int (nI x)), (2, .int (nI y)), (3, .int (nI 2)), (4, .int (nI p))]) dX12_rolls_1 (by decide) rfl ?_
  refine V_iload_n dX12_rolls_3 rfl ?_
  refine V_istore (ls' := [(6, .int (nI y)), (5, .int (nI x)), (0, .ref 62), (1, .int (nI x)), (2, .int (nI y)), (3, .int (nI 2)), (4, .int (nI p))]) dX12_rolls_4 (by decide) rfl ?_
  refine V_iload dX12_rolls_6 rfl ?_
  refine V_istore (ls' := [(7, .int (nI p)), (6, .int (nI y)), (5, .int (nI x)), (0, .ref 62), (1, .int (nI x)), (2, .int (nI y)), (3, .int (nI 2)), (4, .int (nI p))]) dX12_rolls_8 (by decide) rfl ?_
  refine V_aload_n dX12_rolls_10 rfl ?_
  refine V_iconst (v := nI 0) dX12_rolls_11 rfl ?_
  refine V_putW dX12_rolls_12 fX12_458 ⟨Nat.le_of_ble_eq_true rfl, Nat.le_of_ble_eq_true rfl⟩ rfl rfl rfl ⟨rfl, rfl⟩ ?_
  refine V_sub2 (ls' := [(0, .ref 62), (3, .int (nI 2)), (5, .int (nI x)), (6, .int (nI y)), (7, .int (nI p))]) (List.forall_mem_cons.mpr ⟨rfl, List.forall_mem_cons.mpr ⟨rfl, List.forall_mem_cons.mpr ⟨rfl, List.forall_mem_cons.mpr ⟨rfl, List.forall_mem_cons.mpr ⟨rfl, fun _ h => absurd h List.not_mem_nil⟩⟩⟩⟩⟩) ?_
  refine zQ_mono ?_ (lp_rolls2 (I := I) 8 x y (nI p) 0 (zwr I 62 55 (nI 0)) hx hy (by omega) (zwr_at.trans (if_pos ⟨rfl, rfl⟩)) ⟨fun a ha => zup_n ha, fun j hj => zwr_at.trans (if_neg (fun h => hj h.2))⟩)
  rintro r sh' I' J' ⟨rfl, g1, g2, g3⟩
  exact ⟨rfl, g1, g2.trans (congrArg nI (Nat.zero_add _)), g3⟩

set_option maxRecDepth 100000 in
set_option maxHeartbeats 4000000 in
theorem w_roll2 {G : zG} {I : zI} {J : zJ} {x y p w : Nat} (hx : x < 8) (hy : y < 8) (hp : p ≤ 9) (hw : w ≤ 1) : zK G mX12_roll 2 [.ref 62, .int (nI x), .int (nI y), .int (nI 2), .int (nI p), .int (nI w)] zsh I J (zP (fun r I' J' => r = some (.int (rolR (I 95) 2 x y p w)) ∧ rlF I I' ∧ J = J')) := by
  refine zK_of kX12_roll.2.2.2.2.1 (Nat.le_of_ble_eq_true rfl) ?_
  show V G mX12_roll 2 _ 0 [(0, .ref 62), (1, .int (nI x)), (2, .int (nI y)), (3, .int (nI 2)), (4, .int (nI p)), (5, .int (nI w))] [] (0, 0) zsh I J
  refine V_iload_n dX12_roll_0 rfl ?_
  refine V_iconst (v := nI 0) dX12_roll_1 rfl ?_
  refine V_bipush (v := nI 7) dX12_roll_2 rfl ?_
  refine V_callS (As := [.int (nI x), .int (nI 0), .int (nI 7)]) (st := []) dX12_roll_4 kX12_in lX12_173 (by decide) rfl rfl (Nat.le_of_ble_eq_true rfl) ⟨Nat.le_of_ble_eq_true rfl, Nat.le_of_ble_eq_true rfl⟩ (w_inY rfl rfl (a := 0) (b := 7) ((inZ_k (by omega)).mpr (by omega))) ?_
  rintro _ _ _ _ ⟨rfl, rfl, rfl, rfl⟩
  refine V_if_eq (tgt := 50) dX12_roll_7 rfl (fun h => absurd h (by decide)) (fun _ => ?_)
  refine V_iload_n dX12_roll_10 rfl ?_
  refine V_iconst (v := nI 0) dX12_roll_11 rfl ?_
  refine V_bipush (v := nI 7) dX12_roll_12 rfl ?_
  refine V_callS (As := [.int (nI y), .int (nI 0), .int (nI 7)]) (st := []) dX12_roll_14 kX12_in lX12_173 (by decide) rfl rfl (Nat.le_of_ble_eq_true rfl) ⟨Nat.le_of_ble_eq_true rfl, Nat.le_of_ble_eq_true rfl⟩ (w_inY rfl rfl (a := 0) (b := 7) ((inZ_k (by omega)).mpr (by omega))) ?_
  rintro _ _ _ _ ⟨rfl, rfl, rfl, rfl⟩
  refine V_if_eq (tgt := 50) dX12_roll_17 rfl (fun h => absurd h (by decide)) (fun _ => ?_)
  refine V_iload_n dX12_roll_20 rfl ?_
  refine V_iconst (v := nI 0) dX12_roll_21 rfl ?_
  refine V_iconst (v := nI 3) dX12_roll_22 rfl ?_
  refine V_callS (As := [.int (nI 2), .int (nI 0), .int (nI 3)]) (st := []) dX12_roll_23 kX12_in lX12_173 (by decide) rfl rfl (Nat.le_of_ble_eq_true rfl) ⟨Nat.le_of_ble_eq_true rfl, Nat.le_of_ble_eq_true rfl⟩ (w_inY rfl rfl (a := 0) (b := 3) (by decide)) ?_
  rintro _ _ _ _ ⟨rfl, rfl, rfl, rfl⟩
  refine V_if_eq (tgt := 50) dX12_roll_26 rfl (fun h => absurd h (by decide)) (fun _ => ?_)
  refine V_iload dX12_roll_29 rfl ?_
  refine V_iconst (v := nI 0) dX12_roll_31 rfl ?_
  refine V_bipush (v := nI 9) dX12_roll_32 rfl ?_
  refine V_callS (As := [.int (nI p), .int (nI 0), .int (nI 9)]) (st := []) dX12_roll_34 kX12_in lX12_173 (by decide) rfl rfl (Nat.le_of_ble_eq_true rfl) ⟨Nat.le_of_ble_eq_true rfl, Nat.le_of_ble_eq_true rfl⟩ (w_inY rfl rfl (a := 0) (b := 9) ((inZ_k (by omega)).mpr (by omega))) ?_
  rintro _ _ _ _ ⟨rfl, rfl, rfl, rfl⟩
  refine V_if_eq (tgt := 50) dX12_roll_37 rfl (fun h => absurd h (by decide)) (fun _ => ?_)
  refine V_iload dX12_roll_40 rfl ?_
  refine V_iconst (v := nI 0) dX12_roll_42 rfl ?_
  refine V_iconst (v := nI 1) dX12_roll_43 rfl ?_
  refine V_callS (As := [.int (nI w), .int (nI 0), .int (nI 1)]) (st := []) dX12_roll_44 kX12_in lX12_173 (by decide) rfl rfl (Nat.le_of_ble_eq_true rfl) ⟨Nat.le_of_ble_eq_true rfl, Nat.le_of_ble_eq_true rfl⟩ (w_inY rfl rfl (a := 0) (b := 1) ((inZ_k (by omega)).mpr (by omega))) ?_
  rintro _ _ _ _ ⟨rfl, rfl, rfl, rfl⟩
  refine V_if_ne (tgt := 52) dX12_roll_47 rfl (fun _ => ?_) (fun h => absurd h (by decide))
  refine V_aload_n dX12_roll_52 rfl ?_
  refine V_iload_n dX12_roll_53 rfl ?_
  refine V_iload_n dX12_roll_54 rfl ?_
  refine V_iload_n dX12_roll_55 rfl ?_
  refine V_iload dX12_roll_56 rfl ?_
  refine V_callV (As := [.int (nI x), .int (nI y), .int (nI 2), .int (nI p)]) (st := []) (a := 62) dX12_roll_58 kX12_rolls lX12_461 (by decide) rfl rfl (Nat.le_of_ble_eq_true rfl) ⟨Nat.le_of_ble_eq_true rfl, Nat.le_of_ble_eq_true rfl⟩ ⟨Nat.le_of_ble_eq_true rfl, Nat.le_of_ble_eq_true rfl⟩ rfl ⟨rfl, by decide⟩ (w_rolls2 hx hy) ?_
  rintro r sh' I1 J' ⟨rfl, rfl, g1, g2, rfl⟩
  refine V_istore (ls' := [(6, .int (fen (rolS (I 95) 2 8 x y (nI p)).1)), (0, .ref 62), (1, .int (nI x)), (2, .int (nI y)), (3, .int (nI 2)), (4, .int (nI p)), (5, .int (nI w))]) dX12_roll_61 (by decide) rfl ?_
  refine V_iload dX12_roll_63 rfl ?_
  refine V_if_neN (tgt := 73) dX12_roll_65 rfl (by omega) (fun h65 => ?_) (fun h65 => ?_)
  · skip
    refine V_aload_n dX12_roll_73 rfl ?_
    refine V_getI dX12_roll_74 fX12_458 ⟨Nat.le_of_ble_eq_true rfl, Nat.le_of_ble_eq_true rfl⟩ rfl rfl ?_
    refine V_eqI (y := nI ((rolS (I 95) 2 8 x y (nI p)).2)) g1 ?_
    exact V_iret ⟨Or.inl rfl, dX12_roll_77⟩ ⟨Nat.le_of_ble_eq_true rfl, Nat.le_of_ble_eq_true rfl⟩ ⟨rfl, congrArg (fun z => some (Value.int z)) (if_neg h65).symm, g2, rfl⟩
  · skip
    refine V_iload dX12_roll_68 rfl ?_
    refine V_goto (tgt := 77) dX12_roll_70 rfl ?_
    exact V_iret ⟨Or.inl rfl, dX12_roll_77⟩ ⟨Nat.le_of_ble_eq_true rfl, Nat.le_of_ble_eq_true rfl⟩ ⟨rfl, congrArg (fun z => some (Value.int z)) (if_pos h65).symm, g2, rfl⟩

set_option maxRecDepth 100000 in
set_option maxHeartbeats 4000000 in
theorem lp_rolls3 {G : zG} {I : zI} {J : zJ}  : ∀ n x y l c (I1 : zI), x < 8 → y < 8 → x + 1 ≤ n → I1 62 55 = nI c → rlF I I1 → V G mX12_rolls 1 (zP (fun r I' J' => r = some (.int (fen (rolS (I 95) 3 n x y l).1)) ∧ I' 62 55 = nI (c + (rolS (I 95) 3 n x y l).2) ∧ rlF I I' ∧ J = J')) 15 [(0, .ref 62), (3, .int (nI 3)), (5, .int (nI x)), (6, .int (nI y)), (7, .int l)] [] (0, 0) zsh I1 J := by
  intro n
  induction n with
  | zero => intro x y l c I1 hx hy hr; intros; omega
  | succ n ih =>
    intro x y l c I1 hx hy hr hc hF
    refine V_iload dX12_rolls_15 rfl ?_
    refine V_if_le (tgt := 143) dX12_rolls_17 rfl (fun h17 => ?_) (fun h17 => ?_)
    · skip
      refine V_bipush (v := nI 8) dX12_rolls_143 rfl ?_
      refine V_iload dX12_rolls_145 rfl ?_
      refine V_imulN dX12_rolls_147 ?_
      refine V_iload dX12_rolls_148 rfl ?_
      refine V_iaddN dX12_rolls_150 ?_
      exact V_iret ⟨Or.inl rfl, dX12_rolls_151⟩ ⟨Nat.le_of_ble_eq_true rfl, Nat.le_of_ble_eq_true rfl⟩ ⟨rfl, by rw [rolS_0 h17]; rfl, by rw [rolS_0 h17]; exact hc, hF, rfl⟩
    · skip
      by_cases hst : 0 < x
      · skip
        have hrst : rst 3 x y = some (x - 1, y) := by unfold rst; rw [if_neg (by decide), if_neg (by decide), if_neg (by decide), if_pos hst]
        refine V_aload_n dX12_rolls_20 rfl ?_
        refine V_getR (b := 95) dX12_rolls_21 fX12_109 ⟨Nat.le_of_ble_eq_true rfl, Nat.le_of_ble_eq_true rfl⟩ rfl rfl rfl ?_
        refine V_bipush (v := nI 8) dX12_rolls_24 rfl ?_
        refine V_iload dX12_rolls_26 rfl ?_
        refine V_imulN dX12_rolls_28 ?_
        refine V_iload dX12_rolls_29 rfl ?_
        refine V_iaddN dX12_rolls_31 ?_
        refine V_ialdN (k := (8 * y) + x) dX12_rolls_32 ⟨Nat.le_of_ble_eq_true rfl, Nat.le_of_ble_eq_true rfl⟩ rfl (by decide) (by omega) ?_
        refine V_eqI (y := I 95 ((8 * y) + x)) (congrFun (hF.1 95 (by decide)) _) ?_
        refine V_istore (ls' := [(8, .int (I 95 ((8 * y) + x))), (0, .ref 62), (3, .int (nI 3)), (5, .int (nI x)), (6, .int (nI y)), (7, .int l)]) dX12_rolls_33 (by decide) rfl ?_
        refine V_iload dX12_rolls_35 rfl ?_
        refine V_iload_n dX12_rolls_37 rfl ?_
        refine V_iconst (v := nI 1) dX12_rolls_38 rfl ?_
        refine V_icmp_ne (tgt := 46) dX12_rolls_39 rfl (fun _ => ?_) (fun h => absurd h (by decide))
        refine V_iload_n dX12_rolls_46 rfl ?_
        refine V_iconst (v := nI 3) dX12_rolls_47 rfl ?_
        refine V_icmp_ne (tgt := 55) dX12_rolls_48 rfl (fun h => absurd h (by decide)) (fun _ => ?_)
        refine V_iconst (v := (-1)) dX12_rolls_51 rfl ?_
        refine V_goto (tgt := 56) dX12_rolls_52 rfl ?_
        refine V_iadd dX12_rolls_56 (V_eqI (y := nI (x - 1)) (dec1 (by omega) (by omega)) ?_)
        refine V_istore (ls' := [(5, .int (nI (x - 1))), (8, .int (I 95 ((8 * y) + x))), (0, .ref 62), (3, .int (nI 3)), (6, .int (nI y)), (7, .int l)]) dX12_rolls_57 (by decide) rfl ?_
        refine V_iload dX12_rolls_59 rfl ?_
        refine V_iload_n dX12_rolls_61 rfl ?_
        refine V_if_ne (tgt := 69) dX12_rolls_62 rfl (fun _ => ?_) (fun h => absurd h (by decide))
        refine V_iload_n dX12_rolls_69 rfl ?_
        refine V_iconst (v := nI 2) dX12_rolls_70 rfl ?_
        refine V_icmp_ne (tgt := 78) dX12_rolls_71 rfl (fun _ => ?_) (fun h => absurd h (by decide))
        refine V_iconst (v := nI 0) dX12_rolls_78 rfl ?_
        refine V_iaddN dX12_rolls_79 ?_
        refine V_eqI (y := nI y) rfl ?_
        refine V_istore (ls' := [(6, .int (nI y)), (5, .int (nI (x - 1))), (8, .int (I 95 ((8 * y) + x))), (0, .ref 62), (3, .int (nI 3)), (7, .int l)]) dX12_rolls_80 (by decide) rfl ?_
        refine V_iload dX12_rolls_82 rfl ?_
        refine V_iconst (v := nI 0) dX12_rolls_84 rfl ?_
        refine V_bipush (v := nI 7) dX12_rolls_85 rfl ?_
        refine V_callS (As := [.int (nI (x - 1)), .int (nI 0), .int (nI 7)]) (st := []) dX12_rolls_87 kX12_in lX12_173 (by decide) rfl rfl (Nat.le_of_ble_eq_true rfl) ⟨Nat.le_of_ble_eq_true rfl, Nat.le_of_ble_eq_true rfl⟩ (w_inY rfl rfl (a := 0) (b := 7) ((inZ_k (by omega)).mpr (by omega))) ?_
        rintro _ _ _ _ ⟨rfl, rfl, rfl, rfl⟩
        refine V_if_eq (tgt := 104) dX12_rolls_90 rfl (fun h => absurd h (by decide)) (fun _ => ?_)
        refine V_iload dX12_rolls_93 rfl ?_
        refine V_iconst (v := nI 0) dX12_rolls_95 rfl ?_
        refine V_bipush (v := nI 7) dX12_rolls_96 rfl ?_
        refine V_callS (As := [.int (nI y), .int (nI 0), .int (nI 7)]) (st := []) dX12_rolls_98 kX12_in lX12_173 (by decide) rfl rfl (Nat.le_of_ble_eq_true rfl) ⟨Nat.le_of_ble_eq_true rfl, Nat.le_of_ble_eq_true rfl⟩ (w_inY rfl rfl (a := 0) (b := 7) ((inZ_k (by omega)).mpr (by omega))) ?_
        rintro _ _ _ _ ⟨rfl, rfl, rfl, rfl⟩
        refine V_if_ne (tgt := 107) dX12_rolls_101 rfl (fun _ => ?_) (fun h => absurd h (by decide))
        refine V_aload_n dX12_rolls_107 rfl ?_
        refine V_aload_n dX12_rolls_108 rfl ?_
        refine V_getI dX12_rolls_109 fX12_458 ⟨Nat.le_of_ble_eq_true rfl, Nat.le_of_ble_eq_true rfl⟩ rfl rfl ?_
        refine V_eqI (y := nI c) hc ?_
        refine V_iconst (v := nI 1) dX12_rolls_112 rfl ?_
        refine V_iaddN dX12_rolls_113 ?_
        refine V_putW dX12_rolls_114 fX12_458 ⟨Nat.le_of_ble_eq_true rfl, Nat.le_of_ble_eq_true rfl⟩ rfl rfl rfl ⟨rfl, rfl⟩ ?_
        refine V_iload dX12_rolls_117 rfl ?_
        refine V_iconst (v := nI 1) dX12_rolls_119 rfl ?_
        refine V_isub dX12_rolls_120 ?_
        refine V_iload dX12_rolls_121 rfl ?_
        refine V_iadd dX12_rolls_123 ?_
        refine V_aload_n dX12_rolls_124 rfl ?_
        refine V_getR (b := 95) dX12_rolls_125 fX12_109 ⟨Nat.le_of_ble_eq_true rfl, Nat.le_of_ble_eq_true rfl⟩ rfl rfl rfl ?_
        refine V_bipush (v := nI 8) dX12_rolls_128 rfl ?_
        refine V_iload dX12_rolls_130 rfl ?_
        refine V_imulN dX12_rolls_132 ?_
        refine V_iload dX12_rolls_133 rfl ?_
        refine V_iaddN dX12_rolls_135 ?_
        refine V_ialdN (k := (8 * y) + (x - 1)) dX12_rolls_136 ⟨Nat.le_of_ble_eq_true rfl, Nat.le_of_ble_eq_true rfl⟩ rfl (by decide) (by omega) ?_
        refine V_eqI (y := I1 95 ((8 * y) + (x - 1))) rfl ?_
        refine V_eqI (y := I 95 ((8 * y) + (x - 1))) (congrFun (hF.1 95 (by decide)) _) ?_
        refine V_isub dX12_rolls_137 (V_eqI (y := l + (I 95 (8 * y + x) - I 95 (8 * y + (x - 1)) - nI 1)) (lft_e l _ _) ?_)
        refine V_istore (ls' := [(7, .int (l + (I 95 (8 * y + x) - I 95 (8 * y + (x - 1)) - nI 1))), (6, .int (nI y)), (5, .int (nI (x - 1))), (8, .int (I 95 ((8 * y) + x))), (0, .ref 62), (3, .int (nI 3))]) dX12_rolls_138 (by decide) rfl ?_
        refine V_goto (tgt := 15) dX12_rolls_140 rfl ?_
        refine V_sub2 (ls' := [(0, .ref 62), (3, .int (nI 3)), (5, .int (nI (x - 1))), (6, .int (nI y)), (7, .int (l + (I 95 (8 * y + x) - I 95 (8 * y + (x - 1)) - nI 1)))]) (List.forall_mem_cons.mpr ⟨rfl, List.forall_mem_cons.mpr ⟨rfl, List.forall_mem_cons.mpr ⟨rfl, List.forall_mem_cons.mpr ⟨rfl, List.forall_mem_cons.mpr ⟨rfl, fun _ h => absurd h List.not_mem_nil⟩⟩⟩⟩⟩) ?_
        rw [rolS_s h17 hrst]
        refine zQ_mono ?_ (ih (x - 1) y _ (c + 1) (zwr I1 62 55 (nI (c + 1))) (by omega) (by omega) (by omega) (zwr_at.trans (if_pos ⟨rfl, rfl⟩)) ⟨fun a ha => (zup_n ha).trans (hF.1 a ha), fun j hj => (zwr_at.trans (if_neg (fun h => hj h.2))).trans (hF.2 j hj)⟩)
        rintro r sh' I' J' ⟨rfl, g1, g2, g3⟩
        exact ⟨rfl, g1, g2.trans (congrArg nI (by omega)), g3⟩
      · skip
        have hrst : rst 3 x y = none := by unfold rst; rw [if_neg (by decide), if_neg (by decide), if_neg (by decide), if_neg hst]
        refine V_aload_n dX12_rolls_20 rfl ?_
        refine V_getR (b := 95) dX12_rolls_21 fX12_109 ⟨Nat.le_of_ble_eq_true rfl, Nat.le_of_ble_eq_true rfl⟩ rfl rfl rfl ?_
        refine V_bipush (v := nI 8) dX12_rolls_24 rfl ?_
        refine V_iload dX12_rolls_26 rfl ?_
        refine V_imulN dX12_rolls_28 ?_
        refine V_iload dX12_rolls_29 rfl ?_
        refine V_iaddN dX12_rolls_31 ?_
        refine V_ialdN (k := (8 * y) + x) dX12_rolls_32 ⟨Nat.le_of_ble_eq_true rfl, Nat.le_of_ble_eq_true rfl⟩ rfl (by decide) (by omega) ?_
        refine V_eqI (y := I 95 ((8 * y) + x)) (congrFun (hF.1 95 (by decide)) _) ?_
        refine V_istore (ls' := [(8, .int (I 95 ((8 * y) + x))), (0, .ref 62), (3, .int (nI 3)), (5, .int (nI x)), (6, .int (nI y)), (7, .int l)]) dX12_rolls_33 (by decide) rfl ?_
        refine V_iload dX12_rolls_35 rfl ?_
        refine V_iload_n dX12_rolls_37 rfl ?_
        refine V_iconst (v := nI 1) dX12_rolls_38 rfl ?_
        refine V_icmp_ne (tgt := 46) dX12_rolls_39 rfl (fun _ => ?_) (fun h => absurd h (by decide))
        refine V_iload_n dX12_rolls_46 rfl ?_
        refine V_iconst (v := nI 3) dX12_rolls_47 rfl ?_
        refine V_icmp_ne (tgt := 55) dX12_rolls_48 rfl (fun h => absurd h (by decide)) (fun _ => ?_)
        refine V_iconst (v := (-1)) dX12_rolls_51 rfl ?_
        refine V_goto (tgt := 56) dX12_rolls_52 rfl ?_
        refine V_iadd dX12_rolls_56 (V_eqI (y := (-1)) (by rw [show x = 0 by omega]; decide) ?_)
        refine V_istore (ls' := [(5, .int (-1)), (8, .int (I 95 ((8 * y) + x))), (0, .ref 62), (3, .int (nI 3)), (6, .int (nI y)), (7, .int l)]) dX12_rolls_57 (by decide) rfl ?_
        refine V_iload dX12_rolls_59 rfl ?_
        refine V_iload_n dX12_rolls_61 rfl ?_
        refine V_if_ne (tgt := 69) dX12_rolls_62 rfl (fun _ => ?_) (fun h => absurd h (by decide))
        refine V_iload_n dX12_rolls_69 rfl ?_
        refine V_iconst (v := nI 2) dX12_rolls_70 rfl ?_
        refine V_icmp_ne (tgt := 78) dX12_rolls_71 rfl (fun _ => ?_) (fun h => absurd h (by decide))
        refine V_iconst (v := nI 0) dX12_rolls_78 rfl ?_
        refine V_iaddN dX12_rolls_79 ?_
        refine V_eqI (y := nI y) rfl ?_
        refine V_istore (ls' := [(6, .int (nI y)), (5, .int (-1)), (8, .int (I 95 ((8 * y) + x))), (0, .ref 62), (3, .int (nI 3)), (7, .int l)]) dX12_rolls_80 (by decide) rfl ?_
        refine V_iload dX12_rolls_82 rfl ?_
        refine V_iconst (v := nI 0) dX12_rolls_84 rfl ?_
        refine V_bipush (v := nI 7) dX12_rolls_85 rfl ?_
        refine V_callS (As := [.int (-1), .int (nI 0), .int (nI 7)]) (st := []) dX12_rolls_87 kX12_in lX12_173 (by decide) rfl rfl (Nat.le_of_ble_eq_true rfl) ⟨Nat.le_of_ble_eq_true rfl, Nat.le_of_ble_eq_true rfl⟩ (w_inN rfl rfl (a := 0) (b := 7) (by decide)) ?_
        rintro _ _ _ _ ⟨rfl, rfl, rfl, rfl⟩
        refine V_if_eq (tgt := 104) dX12_rolls_90 rfl (fun _ => ?_) (fun h => absurd h (by decide))
        refine V_bipush (v := (-2)) dX12_rolls_104 rfl ?_
        exact V_iret ⟨Or.inl rfl, dX12_rolls_106⟩ ⟨Nat.le_of_ble_eq_true rfl, Nat.le_of_ble_eq_true rfl⟩ ⟨rfl, by rw [rolS_n h17 hrst]; rfl, by rw [rolS_n h17 hrst]; exact hc, hF, rfl⟩

set_option maxRecDepth 100000 in
set_option maxHeartbeats 4000000 in
theorem w_rolls3 {G : zG} {I : zI} {J : zJ} {x y p : Nat} (hx : x < 8) (hy : y < 8) : zK G mX12_rolls 1 [.ref 62, .int (nI x), .int (nI y), .int (nI 3), .int (nI p)] zsh I J (zP (fun r I' J' => r = some (.int (fen (rolS (I 95) 3 8 x y (nI p)).1)) ∧ I' 62 55 = nI (rolS (I 95) 3 8 x y (nI p)).2 ∧ rlF I I' ∧ J = J')) := by
  refine zK_of kX12_rolls.2.2.2.2.1 (Nat.le_of_ble_eq_true rfl) ?_
  show V G mX12_rolls 1 _ 0 [(0, .ref 62), (1, .int (nI x)), (2, .int (nI y)), (3, .int (nI 3)), (4, .int (nI p))] [] (0, 0) zsh I J
  refine V_iload_n dX12_rolls_0 rfl ?_
  refine V_istore (ls' := [(5, .int (nI x)), (0, .ref 62), (1, .int (nI x)), (2, .int (nI y)), (3, .int (nI 3)), (4, .int (nI p))]) dX12_rolls_1 (by decide) rfl ?_
  refine V_iload_n dX12_rolls_3 rfl ?_
  refine V_istore (ls' := [(6, .int (nI y)), (5, .int (nI x)), (0, .ref 62), (1, .int (nI x)), (2, .int (nI y)), (3, .int (nI 3)), (4, .int (nI p))]) dX12_rolls_4 (by decide) rfl ?_
  refine V_iload dX12_rolls_6 rfl ?_
  refine V_istore (ls' := [(7, .int (nI p)), (6, .int (nI y)), (5, .int (nI x)), (0, .ref 62), (1, .int (nI x)), (2, .int (nI y)), (3, .int (nI 3)), (4, .int (nI p))]) dX12_rolls_8 (by decide) rfl ?_
  refine V_aload_n dX12_rolls_10 rfl ?_
  refine V_iconst (v := nI 0) dX12_rolls_11 rfl ?_
  refine V_putW dX12_rolls_12 fX12_458 ⟨Nat.le_of_ble_eq_true rfl, Nat.le_of_ble_eq_true rfl⟩ rfl rfl rfl ⟨rfl, rfl⟩ ?_
  refine V_sub2 (ls' := [(0, .ref 62), (3, .int (nI 3)), (5, .int (nI x)), (6, .int (nI y)), (7, .int (nI p))]) (List.forall_mem_cons.mpr ⟨rfl, List.forall_mem_cons.mpr ⟨rfl, List.forall_mem_cons.mpr ⟨rfl, List.forall_mem_cons.mpr ⟨rfl, List.forall_mem_cons.mpr ⟨rfl, fun _ h => absurd h List.not_mem_nil⟩⟩⟩⟩⟩) ?_
  refine zQ_mono ?_ (lp_rolls3 (I := I) 8 x y (nI p) 0 (zwr I 62 55 (nI 0)) hx hy (by omega) (zwr_at.trans (if_pos ⟨rfl, rfl⟩)) ⟨fun a ha => zup_n ha, fun j hj => zwr_at.trans (if_neg (fun h => hj h.2))⟩)
  rintro r sh' I' J' ⟨rfl, g1, g2, g3⟩
  exact ⟨rfl, g1, g2.trans (congrArg nI (Nat.zero_add _)), g3⟩

set_option maxRecDepth 100000 in
set_option maxHeartbeats 4000000 in
theorem w_roll3 {G : zG} {I : zI} {J : zJ} {x y p w : Nat} (hx : x < 8) (hy : y < 8) (hp : p ≤ 9) (hw : w ≤ 1) : zK G mX12_roll 2 [.ref 62, .int (nI x), .int (nI y), .int (nI 3), .int (nI p), .int (nI w)] zsh I J (zP (fun r I' J' => r = some (.int (rolR (I 95) 3 x y p w)) ∧ rlF I I' ∧ J = J')) := by
  refine zK_of kX12_roll.2.2.2.2.1 (Nat.le_of_ble_eq_true rfl) ?_
  show V G mX12_roll 2 _ 0 [(0, .ref 62), (1, .int (nI x)), (2, .int (nI y)), (3, .int (nI 3)), (4, .int (nI p)), (5, .int (nI w))] [] (0, 0) zsh I J
  refine V_iload_n dX12_roll_0 rfl ?_
  refine V_iconst (v := nI 0) dX12_roll_1 rfl ?_
  refine V_bipush (v := nI 7) dX12_roll_2 rfl ?_
  refine V_callS (As := [.int (nI x), .int (nI 0), .int (nI 7)]) (st := []) dX12_roll_4 kX12_in lX12_173 (by decide) rfl rfl (Nat.le_of_ble_eq_true rfl) ⟨Nat.le_of_ble_eq_true rfl, Nat.le_of_ble_eq_true rfl⟩ (w_inY rfl rfl (a := 0) (b := 7) ((inZ_k (by omega)).mpr (by omega))) ?_
  rintro _ _ _ _ ⟨rfl, rfl, rfl, rfl⟩
  refine V_if_eq (tgt := 50) dX12_roll_7 rfl (fun h => absurd h (by decide)) (fun _ => ?_)
  refine V_iload_n dX12_roll_10 rfl ?_
  refine V_iconst (v := nI 0) dX12_roll_11 rfl ?_
  refine V_bipush (v := nI 7) dX12_roll_12 rfl ?_
  refine V_callS (As := [.int (nI y), .int (nI 0), .int (nI 7)]) (st := []) dX12_roll_14 kX12_in lX12_173 (by decide) rfl rfl (Nat.le_of_ble_eq_true rfl) ⟨Nat.le_of_ble_eq_true rfl, Nat.le_of_ble_eq_true rfl⟩ (w_inY rfl rfl (a := 0) (b := 7) ((inZ_k (by omega)).mpr (by omega))) ?_
  rintro _ _ _ _ ⟨rfl, rfl, rfl, rfl⟩
  refine V_if_eq (tgt := 50) dX12_roll_17 rfl (fun h => absurd h (by decide)) (fun _ => ?_)
  refine V_iload_n dX12_roll_20 rfl ?_
  refine V_iconst (v := nI 0) dX12_roll_21 rfl ?_
  refine V_iconst (v := nI 3) dX12_roll_22 rfl ?_
  refine V_callS (As := [.int (nI 3), .int (nI 0), .int (nI 3)]) (st := []) dX12_roll_23 kX12_in lX12_173 (by decide) rfl rfl (Nat.le_of_ble_eq_true rfl) ⟨Nat.le_of_ble_eq_true rfl, Nat.le_of_ble_eq_true rfl⟩ (w_inY rfl rfl (a := 0) (b := 3) (by decide)) ?_
  rintro _ _ _ _ ⟨rfl, rfl, rfl, rfl⟩
  refine V_if_eq (tgt := 50) dX12_roll_26 rfl (fun h => absurd h (by decide)) (fun _ => ?_)
  refine V_iload dX12_roll_29 rfl ?_
  refine V_iconst (v := nI 0) dX12_roll_31 rfl ?_
  refine V_bipush (v := nI 9) dX12_roll_32 rfl ?_
  refine V_callS (As := [.int (nI p), .int (nI 0), .int (nI 9)]) (st := []) dX12_roll_34 kX12_in lX12_173 (by decide) rfl rfl (Nat.le_of_ble_eq_true rfl) ⟨Nat.le_of_ble_eq_true rfl, Nat.le_of_ble_eq_true rfl⟩ (w_inY rfl rfl (a := 0) (b := 9) ((inZ_k (by omega)).mpr (by omega))) ?_
  rintro _ _ _ _ ⟨rfl, rfl, rfl, rfl⟩
  refine V_if_eq (tgt := 50) dX12_roll_37 rfl (fun h => absurd h (by decide)) (fun _ => ?_)
  refine V_iload dX12_roll_40 rfl ?_
  refine V_iconst (v := nI 0) dX12_roll_42 rfl ?_
  refine V_iconst (v := nI 1) dX12_roll_43 rfl ?_
  refine V_callS (As := [.int (nI w), .int (nI 0), .int (nI 1)]) (st := []) dX12_roll_44 kX12_in lX12_173 (by decide) rfl rfl (Nat.le_of_ble_eq_true rfl) ⟨Nat.le_of_ble_eq_true rfl, Nat.le_of_ble_eq_true rfl⟩ (w_inY rfl rfl (a := 0) (b := 1) ((inZ_k (by omega)).mpr (by omega))) ?_
  rintro _ _ _ _ ⟨rfl, rfl, rfl, rfl⟩
  refine V_if_ne (tgt := 52) dX12_roll_47 rfl (fun _ => ?_) (fun h => absurd h (by decide))
  refine V_aload_n dX12_roll_52 rfl ?_
  refine V_iload_n dX12_roll_53 rfl ?_
  refine V_iload_n dX12_roll_54 rfl ?_
  refine V_iload_n dX12_roll_55 rfl ?_
  refine V_iload dX12_roll_56 rfl ?_
  refine V_callV (As := [.int (nI x), .int (nI y), .int (nI 3), .int (nI p)]) (st := []) (a := 62) dX12_roll_58 kX12_rolls lX12_461 (by decide) rfl rfl (Nat.le_of_ble_eq_true rfl) ⟨Nat.le_of_ble_eq_true rfl, Nat.le_of_ble_eq_true rfl⟩ ⟨Nat.le_of_ble_eq_true rfl, Nat.le_of_ble_eq_true rfl⟩ rfl ⟨rfl, by decide⟩ (w_rolls3 hx hy) ?_
  rintro r sh' I1 J' ⟨rfl, rfl, g1, g2, rfl⟩
  refine V_istore (ls' := [(6, .int (fen (rolS (I 95) 3 8 x y (nI p)).1)), (0, .ref 62), (1, .int (nI x)), (2, .int (nI y)), (3, .int (nI 3)), (4, .int (nI p)), (5, .int (nI w))]) dX12_roll_61 (by decide) rfl ?_
  refine V_iload dX12_roll_63 rfl ?_
  refine V_if_neN (tgt := 73) dX12_roll_65 rfl (by omega) (fun h65 => ?_) (fun h65 => ?_)
  · skip
    refine V_aload_n dX12_roll_73 rfl ?_
    refine V_getI dX12_roll_74 fX12_458 ⟨Nat.le_of_ble_eq_true rfl, Nat.le_of_ble_eq_true rfl⟩ rfl rfl ?_
    refine V_eqI (y := nI ((rolS (I 95) 3 8 x y (nI p)).2)) g1 ?_
    exact V_iret ⟨Or.inl rfl, dX12_roll_77⟩ ⟨Nat.le_of_ble_eq_true rfl, Nat.le_of_ble_eq_true rfl⟩ ⟨rfl, congrArg (fun z => some (Value.int z)) (if_neg h65).symm, g2, rfl⟩
  · skip
    refine V_iload dX12_roll_68 rfl ?_
    refine V_goto (tgt := 77) dX12_roll_70 rfl ?_
    exact V_iret ⟨Or.inl rfl, dX12_roll_77⟩ ⟨Nat.le_of_ble_eq_true rfl, Nat.le_of_ble_eq_true rfl⟩ ⟨rfl, congrArg (fun z => some (Value.int z)) (if_pos h65).symm, g2, rfl⟩

set_option maxRecDepth 100000 in
set_option maxHeartbeats 4000000 in
theorem w_rollN {G : zG} {I : zI} {J : zJ} {x y g p w : Int32} (hn : ¬ ((inZ x 0 7 ∧ inZ y 0 7) ∧ inZ g 0 3 ∧ inZ p 0 9 ∧ inZ w 0 1)) : zK G mX12_roll 1 [.ref 62, .int x, .int y, .int g, .int p, .int w] zsh I J (zA0 (.int (-1)) I J) := by
  refine zK_of kX12_roll.2.2.2.2.1 (Nat.le_of_ble_eq_true rfl) ?_
  show V G mX12_roll 1 _ 0 [(0, .ref 62), (1, .int x), (2, .int y), (3, .int g), (4, .int p), (5, .int w)] [] (0, 0) zsh I J
  by_cases kx : inZ x 0 7
  rotate_left
  · skip
    refine V_iload_n dX12_roll_0 rfl ?_
    refine V_iconst (v := nI 0) dX12_roll_1 rfl ?_
    refine V_bipush (v := nI 7) dX12_roll_2 rfl ?_
    refine V_callS (As := [.int x, .int (nI 0), .int (nI 7)]) (st := []) dX12_roll_4 kX12_in lX12_173 (by decide) rfl rfl (Nat.le_of_ble_eq_true rfl) ⟨Nat.le_of_ble_eq_true rfl, Nat.le_of_ble_eq_true rfl⟩ (w_inN rfl rfl (a := 0) (b := 7) kx) ?_
    rintro _ _ _ _ ⟨rfl, rfl, rfl, rfl⟩
    refine V_if_eq (tgt := 50) dX12_roll_7 rfl (fun _ => ?_) (fun h => absurd h (by decide))
    refine V_iconst (v := (-1)) dX12_roll_50 rfl ?_
    exact V_iret ⟨Or.inl rfl, dX12_roll_51⟩ ⟨Nat.le_of_ble_eq_true rfl, Nat.le_of_ble_eq_true rfl⟩ ⟨rfl, rfl, rfl, rfl⟩
  by_cases ky : inZ y 0 7
  rotate_left
  · skip
    refine V_iload_n dX12_roll_0 rfl ?_
    refine V_iconst (v := nI 0) dX12_roll_1 rfl ?_
    refine V_bipush (v := nI 7) dX12_roll_2 rfl ?_
    refine V_callS (As := [.int x, .int (nI 0), .int (nI 7)]) (st := []) dX12_roll_4 kX12_in lX12_173 (by decide) rfl rfl (Nat.le_of_ble_eq_true rfl) ⟨Nat.le_of_ble_eq_true rfl, Nat.le_of_ble_eq_true rfl⟩ (w_inY rfl rfl (a := 0) (b := 7) kx) ?_
    rintro _ _ _ _ ⟨rfl, rfl, rfl, rfl⟩
    refine V_if_eq (tgt := 50) dX12_roll_7 rfl (fun h => absurd h (by decide)) (fun _ => ?_)
    refine V_iload_n dX12_roll_10 rfl ?_
    refine V_iconst (v := nI 0) dX12_roll_11 rfl ?_
    refine V_bipush (v := nI 7) dX12_roll_12 rfl ?_
    refine V_callS (As := [.int y, .int (nI 0), .int (nI 7)]) (st := []) dX12_roll_14 kX12_in lX12_173 (by decide) rfl rfl (Nat.le_of_ble_eq_true rfl) ⟨Nat.le_of_ble_eq_true rfl, Nat.le_of_ble_eq_true rfl⟩ (w_inN rfl rfl (a := 0) (b := 7) ky) ?_
    rintro _ _ _ _ ⟨rfl, rfl, rfl, rfl⟩
    refine V_if_eq (tgt := 50) dX12_roll_17 rfl (fun _ => ?_) (fun h => absurd h (by decide))
    refine V_iconst (v := (-1)) dX12_roll_50 rfl ?_
    exact V_iret ⟨Or.inl rfl, dX12_roll_51⟩ ⟨Nat.le_of_ble_eq_true rfl, Nat.le_of_ble_eq_true rfl⟩ ⟨rfl, rfl, rfl, rfl⟩
  by_cases kg : inZ g 0 3
  rotate_left
  · skip
    refine V_iload_n dX12_roll_0 rfl ?_
    refine V_iconst (v := nI 0) dX12_roll_1 rfl ?_
    refine V_bipush (v := nI 7) dX12_roll_2 rfl ?_
    refine V_callS (As := [.int x, .int (nI 0), .int (nI 7)]) (st := []) dX12_roll_4 kX12_in lX12_173 (by decide) rfl rfl (Nat.le_of_ble_eq_true rfl) ⟨Nat.le_of_ble_eq_true rfl, Nat.le_of_ble_eq_true rfl⟩ (w_inY rfl rfl (a := 0) (b := 7) kx) ?_
    rintro _ _ _ _ ⟨rfl, rfl, rfl, rfl⟩
    refine V_if_eq (tgt := 50) dX12_roll_7 rfl (fun h => absurd h (by decide)) (fun _ => ?_)
    refine V_iload_n dX12_roll_10 rfl ?_
    refine V_iconst (v := nI 0) dX12_roll_11 rfl ?_
    refine V_bipush (v := nI 7) dX12_roll_12 rfl ?_
    refine V_callS (As := [.int y, .int (nI 0), .int (nI 7)]) (st := []) dX12_roll_14 kX12_in lX12_173 (by decide) rfl rfl (Nat.le_of_ble_eq_true rfl) ⟨Nat.le_of_ble_eq_true rfl, Nat.le_of_ble_eq_true rfl⟩ (w_inY rfl rfl (a := 0) (b := 7) ky) ?_
    rintro _ _ _ _ ⟨rfl, rfl, rfl, rfl⟩
    refine V_if_eq (tgt := 50) dX12_roll_17 rfl (fun h => absurd h (by decide)) (fun _ => ?_)
    refine V_iload_n dX12_roll_20 rfl ?_
    refine V_iconst (v := nI 0) dX12_roll_21 rfl ?_
    refine V_iconst (v := nI 3) dX12_roll_22 rfl ?_
    refine V_callS (As := [.int g, .int (nI 0), .int (nI 3)]) (st := []) dX12_roll_23 kX12_in lX12_173 (by decide) rfl rfl (Nat.le_of_ble_eq_true rfl) ⟨Nat.le_of_ble_eq_true rfl, Nat.le_of_ble_eq_true rfl⟩ (w_inN rfl rfl (a := 0) (b := 3) kg) ?_
    rintro _ _ _ _ ⟨rfl, rfl, rfl, rfl⟩
    refine V_if_eq (tgt := 50) dX12_roll_26 rfl (fun _ => ?_) (fun h => absurd h (by decide))
    refine V_iconst (v := (-1)) dX12_roll_50 rfl ?_
    exact V_iret ⟨Or.inl rfl, dX12_roll_51⟩ ⟨Nat.le_of_ble_eq_true rfl, Nat.le_of_ble_eq_true rfl⟩ ⟨rfl, rfl, rfl, rfl⟩
  by_cases kp : inZ p 0 9
  rotate_left
  · skip
    refine V_iload_n dX12_roll_0 rfl ?_
    refine V_iconst (v := nI 0) dX12_roll_1 rfl ?_
    refine V_bipush (v := nI 7) dX12_roll_2 rfl ?_
    refine V_callS (As := [.int x, .int (nI 0), .int (nI 7)]) (st := []) dX12_roll_4 kX12_in lX12_173 (by decide) rfl rfl (Nat.le_of_ble_eq_true rfl) ⟨Nat.le_of_ble_eq_true rfl, Nat.le_of_ble_eq_true rfl⟩ (w_inY rfl rfl (a := 0) (b := 7) kx) ?_
    rintro _ _ _ _ ⟨rfl, rfl, rfl, rfl⟩
    refine V_if_eq (tgt := 50) dX12_roll_7 rfl (fun h => absurd h (by decide)) (fun _ => ?_)
    refine V_iload_n dX12_roll_10 rfl ?_
    refine V_iconst (v := nI 0) dX12_roll_11 rfl ?_
    refine V_bipush (v := nI 7) dX12_roll_12 rfl ?_
    refine V_callS (As := [.int y, .int (nI 0), .int (nI 7)]) (st := []) dX12_roll_14 kX12_in lX12_173 (by decide) rfl rfl (Nat.le_of_ble_eq_true rfl) ⟨Nat.le_of_ble_eq_true rfl, Nat.le_of_ble_eq_true rfl⟩ (w_inY rfl rfl (a := 0) (b := 7) ky) ?_
    rintro _ _ _ _ ⟨rfl, rfl, rfl, rfl⟩
    refine V_if_eq (tgt := 50) dX12_roll_17 rfl (fun h => absurd h (by decide)) (fun _ => ?_)
    refine V_iload_n dX12_roll_20 rfl ?_
    refine V_iconst (v := nI 0) dX12_roll_21 rfl ?_
    refine V_iconst (v := nI 3) dX12_roll_22 rfl ?_
    refine V_callS (As := [.int g, .int (nI 0), .int (nI 3)]) (st := []) dX12_roll_23 kX12_in lX12_173 (by decide) rfl rfl (Nat.le_of_ble_eq_true rfl) ⟨Nat.le_of_ble_eq_true rfl, Nat.le_of_ble_eq_true rfl⟩ (w_inY rfl rfl (a := 0) (b := 3) kg) ?_
    rintro _ _ _ _ ⟨rfl, rfl, rfl, rfl⟩
    refine V_if_eq (tgt := 50) dX12_roll_26 rfl (fun h => absurd h (by decide)) (fun _ => ?_)
    refine V_iload dX12_roll_29 rfl ?_
    refine V_iconst (v := nI 0) dX12_roll_31 rfl ?_
    refine V_bipush (v := nI 9) dX12_roll_32 rfl ?_
    refine V_callS (As := [.int p, .int (nI 0), .int (nI 9)]) (st := []) dX12_roll_34 kX12_in lX12_173 (by decide) rfl rfl (Nat.le_of_ble_eq_true rfl) ⟨Nat.le_of_ble_eq_true rfl, Nat.le_of_ble_eq_true rfl⟩ (w_inN rfl rfl (a := 0) (b := 9) kp) ?_
    rintro _ _ _ _ ⟨rfl, rfl, rfl, rfl⟩
    refine V_if_eq (tgt := 50) dX12_roll_37 rfl (fun _ => ?_) (fun h => absurd h (by decide))
    refine V_iconst (v := (-1)) dX12_roll_50 rfl ?_
    exact V_iret ⟨Or.inl rfl, dX12_roll_51⟩ ⟨Nat.le_of_ble_eq_true rfl, Nat.le_of_ble_eq_true rfl⟩ ⟨rfl, rfl, rfl, rfl⟩
  have kw : ¬ inZ w 0 1 := fun h => hn ⟨⟨kx, ky⟩, kg, kp, h⟩
  refine V_iload_n dX12_roll_0 rfl ?_
  refine V_iconst (v := nI 0) dX12_roll_1 rfl ?_
  refine V_bipush (v := nI 7) dX12_roll_2 rfl ?_
  refine V_callS (As := [.int x, .int (nI 0), .int (nI 7)]) (st := []) dX12_roll_4 kX12_in lX12_173 (by decide) rfl rfl (Nat.le_of_ble_eq_true rfl) ⟨Nat.le_of_ble_eq_true rfl, Nat.le_of_ble_eq_true rfl⟩ (w_inY rfl rfl (a := 0) (b := 7) kx) ?_
  rintro _ _ _ _ ⟨rfl, rfl, rfl, rfl⟩
  refine V_if_eq (tgt := 50) dX12_roll_7 rfl (fun h => absurd h (by decide)) (fun _ => ?_)
  refine V_iload_n dX12_roll_10 rfl ?_
  refine V_iconst (v := nI 0) dX12_roll_11 rfl ?_
  refine V_bipush (v := nI 7) dX12_roll_12 rfl ?_
  refine V_callS (As := [.int y, .int (nI 0), .int (nI 7)]) (st := []) dX12_roll_14 kX12_in lX12_173 (by decide) rfl rfl (Nat.le_of_ble_eq_true rfl) ⟨Nat.le_of_ble_eq_true rfl, Nat.le_of_ble_eq_true rfl⟩ (w_inY rfl rfl (a := 0) (b := 7) ky) ?_
  rintro _ _ _ _ ⟨rfl, rfl, rfl, rfl⟩
  refine V_if_eq (tgt := 50) dX12_roll_17 rfl (fun h => absurd h (by decide)) (fun _ => ?_)
  refine V_iload_n dX12_roll_20 rfl ?_
  refine V_iconst (v := nI 0) dX12_roll_21 rfl ?_
  refine V_iconst (v := nI 3) dX12_roll_22 rfl ?_
  refine V_callS (As := [.int g, .int (nI 0), .int (nI 3)]) (st := []) dX12_roll_23 kX12_in lX12_173 (by decide) rfl rfl (Nat.le_of_ble_eq_true rfl) ⟨Nat.le_of_ble_eq_true rfl, Nat.le_of_ble_eq_true rfl⟩ (w_inY rfl rfl (a := 0) (b := 3) kg) ?_
  rintro _ _ _ _ ⟨rfl, rfl, rfl, rfl⟩
  refine V_if_eq (tgt := 50) dX12_roll_26 rfl (fun h => absurd h (by decide)) (fun _ => ?_)
  refine V_iload dX12_roll_29 rfl ?_
  refine V_iconst (v := nI 0) dX12_roll_31 rfl ?_
  refine V_bipush (v := nI 9) dX12_roll_32 rfl ?_
  refine V_callS (As := [.int p, .int (nI 0), .int (nI 9)]) (st := []) dX12_roll_34 kX12_in lX12_173 (by decide) rfl rfl (Nat.le_of_ble_eq_true rfl) ⟨Nat.le_of_ble_eq_true rfl, Nat.le_of_ble_eq_true rfl⟩ (w_inY rfl rfl (a := 0) (b := 9) kp) ?_
  rintro _ _ _ _ ⟨rfl, rfl, rfl, rfl⟩
  refine V_if_eq (tgt := 50) dX12_roll_37 rfl (fun h => absurd h (by decide)) (fun _ => ?_)
  refine V_iload dX12_roll_40 rfl ?_
  refine V_iconst (v := nI 0) dX12_roll_42 rfl ?_
  refine V_iconst (v := nI 1) dX12_roll_43 rfl ?_
  refine V_callS (As := [.int w, .int (nI 0), .int (nI 1)]) (st := []) dX12_roll_44 kX12_in lX12_173 (by decide) rfl rfl (Nat.le_of_ble_eq_true rfl) ⟨Nat.le_of_ble_eq_true rfl, Nat.le_of_ble_eq_true rfl⟩ (w_inN rfl rfl (a := 0) (b := 1) kw) ?_
  rintro _ _ _ _ ⟨rfl, rfl, rfl, rfl⟩
  refine V_if_ne (tgt := 52) dX12_roll_47 rfl (fun h => absurd h (by decide)) (fun _ => ?_)
  refine V_iconst (v := (-1)) dX12_roll_50 rfl ?_
  exact V_iret ⟨Or.inl rfl, dX12_roll_51⟩ ⟨Nat.le_of_ble_eq_true rfl, Nat.le_of_ble_eq_true rfl⟩ ⟨rfl, rfl, rfl, rfl⟩

set_option maxRecDepth 100000 in
set_option maxHeartbeats 4000000 in
theorem w_layN {G : zG} {I : zI} {J : zJ} {x y w : Int32} (hn : ¬ ((inZ x 0 7 ∧ inZ y 0 7) ∧ inZ w 0 2)) : zK G mX12_lay 1 [.ref 62, .int x, .int y, .int w] zsh I J (zA0 (.int (-1)) I J) := by
  refine zK_of kX12_lay.2.2.2.2.1 (Nat.le_of_ble_eq_true rfl) ?_
  show V G mX12_lay 1 _ 0 [(0, .ref 62), (1, .int x), (2, .int y), (3, .int w)] [] (0, 0) zsh I J
  by_cases kx : inZ x 0 7
  rotate_left
  · skip
    refine V_iload_n dX12_lay_0 rfl ?_
    refine V_iconst (v := nI 0) dX12_lay_1 rfl ?_
    refine V_bipush (v := nI 7) dX12_lay_2 rfl ?_
    refine V_callS (As := [.int x, .int (nI 0), .int (nI 7)]) (st := []) dX12_lay_4 kX12_in lX12_173 (by decide) rfl rfl (Nat.le_of_ble_eq_true rfl) ⟨Nat.le_of_ble_eq_true rfl, Nat.le_of_ble_eq_true rfl⟩ (w_inN rfl rfl (a := 0) (b := 7) kx) ?_
    rintro _ _ _ _ ⟨rfl, rfl, rfl, rfl⟩
    refine V_if_eq (tgt := 29) dX12_lay_7 rfl (fun _ => ?_) (fun h => absurd h (by decide))
    refine V_iconst (v := (-1)) dX12_lay_29 rfl ?_
    exact V_iret ⟨Or.inl rfl, dX12_lay_30⟩ ⟨Nat.le_of_ble_eq_true rfl, Nat.le_of_ble_eq_true rfl⟩ ⟨rfl, rfl, rfl, rfl⟩
  by_cases ky : inZ y 0 7
  rotate_left
  · skip
    refine V_iload_n dX12_lay_0 rfl ?_
    refine V_iconst (v := nI 0) dX12_lay_1 rfl ?_
    refine V_bipush (v := nI 7) dX12_lay_2 rfl ?_
    refine V_callS (As := [.int x, .int (nI 0), .int (nI 7)]) (st := []) dX12_lay_4 kX12_in lX12_173 (by decide) rfl rfl (Nat.le_of_ble_eq_true rfl) ⟨Nat.le_of_ble_eq_true rfl, Nat.le_of_ble_eq_true rfl⟩ (w_inY rfl rfl (a := 0) (b := 7) kx) ?_
    rintro _ _ _ _ ⟨rfl, rfl, rfl, rfl⟩
    refine V_if_eq (tgt := 29) dX12_lay_7 rfl (fun h => absurd h (by decide)) (fun _ => ?_)
    refine V_iload_n dX12_lay_10 rfl ?_
    refine V_iconst (v := nI 0) dX12_lay_11 rfl ?_
    refine V_bipush (v := nI 7) dX12_lay_12 rfl ?_
    refine V_callS (As := [.int y, .int (nI 0), .int (nI 7)]) (st := []) dX12_lay_14 kX12_in lX12_173 (by decide) rfl rfl (Nat.le_of_ble_eq_true rfl) ⟨Nat.le_of_ble_eq_true rfl, Nat.le_of_ble_eq_true rfl⟩ (w_inN rfl rfl (a := 0) (b := 7) ky) ?_
    rintro _ _ _ _ ⟨rfl, rfl, rfl, rfl⟩
    refine V_if_eq (tgt := 29) dX12_lay_17 rfl (fun _ => ?_) (fun h => absurd h (by decide))
    refine V_iconst (v := (-1)) dX12_lay_29 rfl ?_
    exact V_iret ⟨Or.inl rfl, dX12_lay_30⟩ ⟨Nat.le_of_ble_eq_true rfl, Nat.le_of_ble_eq_true rfl⟩ ⟨rfl, rfl, rfl, rfl⟩
  have kw : ¬ inZ w 0 2 := fun h => hn ⟨⟨kx, ky⟩, h⟩
  refine V_iload_n dX12_lay_0 rfl ?_
  refine V_iconst (v := nI 0) dX12_lay_1 rfl ?_
  refine V_bipush (v := nI 7) dX12_lay_2 rfl ?_
  refine V_callS (As := [.int x, .int (nI 0), .int (nI 7)]) (st := []) dX12_lay_4 kX12_in lX12_173 (by decide) rfl rfl (Nat.le_of_ble_eq_true rfl) ⟨Nat.le_of_ble_eq_true rfl, Nat.le_of_ble_eq_true rfl⟩ (w_inY rfl rfl (a := 0) (b := 7) kx) ?_
  rintro _ _ _ _ ⟨rfl, rfl, rfl, rfl⟩
  refine V_if_eq (tgt := 29) dX12_lay_7 rfl (fun h => absurd h (by decide)) (fun _ => ?_)
  refine V_iload_n dX12_lay_10 rfl ?_
  refine V_iconst (v := nI 0) dX12_lay_11 rfl ?_
  refine V_bipush (v := nI 7) dX12_lay_12 rfl ?_
  refine V_callS (As := [.int y, .int (nI 0), .int (nI 7)]) (st := []) dX12_lay_14 kX12_in lX12_173 (by decide) rfl rfl (Nat.le_of_ble_eq_true rfl) ⟨Nat.le_of_ble_eq_true rfl, Nat.le_of_ble_eq_true rfl⟩ (w_inY rfl rfl (a := 0) (b := 7) ky) ?_
  rintro _ _ _ _ ⟨rfl, rfl, rfl, rfl⟩
  refine V_if_eq (tgt := 29) dX12_lay_17 rfl (fun h => absurd h (by decide)) (fun _ => ?_)
  refine V_iload_n dX12_lay_20 rfl ?_
  refine V_iconst (v := nI 0) dX12_lay_21 rfl ?_
  refine V_iconst (v := nI 2) dX12_lay_22 rfl ?_
  refine V_callS (As := [.int w, .int (nI 0), .int (nI 2)]) (st := []) dX12_lay_23 kX12_in lX12_173 (by decide) rfl rfl (Nat.le_of_ble_eq_true rfl) ⟨Nat.le_of_ble_eq_true rfl, Nat.le_of_ble_eq_true rfl⟩ (w_inN rfl rfl (a := 0) (b := 2) kw) ?_
  rintro _ _ _ _ ⟨rfl, rfl, rfl, rfl⟩
  refine V_if_ne (tgt := 31) dX12_lay_26 rfl (fun h => absurd h (by decide)) (fun _ => ?_)
  refine V_iconst (v := (-1)) dX12_lay_29 rfl ?_
  exact V_iret ⟨Or.inl rfl, dX12_lay_30⟩ ⟨Nat.le_of_ble_eq_true rfl, Nat.le_of_ble_eq_true rfl⟩ ⟨rfl, rfl, rfl, rfl⟩

theorem rolS_row {f : Nat → Int32} : ∀ n x y l s, x < 8 → (rolS f 1 n x y l).1 = some s → s / 8 = y ∧ s % 8 < 8
  | 0, x, y, l, s, hx, h => by
    have e : 8 * y + x = s := by
      have h2 : some (8 * y + x) = some s := h
      injection h2
    omega
  | n + 1, x, y, l, s, hx, h => by
    by_cases hl : l ≤ 0
    · rw [rolS_0 hl] at h
      have e : 8 * y + x = s := by
        have h2 : some (8 * y + x) = some s := h
        injection h2
      omega
    · by_cases hx2 : x + 1 < 8
      · have hr : rst 1 x y = some (x + 1, y) := by unfold rst; rw [if_neg (by decide), if_pos rfl, if_pos hx2]
        rw [rolS_s hl hr] at h
        exact rolS_row n (x + 1) y _ s hx2 h
      · have hr : rst 1 x y = none := by unfold rst; rw [if_neg (by decide), if_pos rfl, if_neg hx2]
        rw [rolS_n hl hr] at h
        exact absurd h (by simp)
theorem layS_st {f : Nat → Int32} {x y : Nat} : ∀ c b, layS f x y c = some b → b.2.1 < 8 ∧ 1 ≤ b.2.2.1 ∧ 8 * b.2.2.1 + b.2.1 < 8 + c ∧ (rolS f 1 8 0 b.2.1 (nI b.2.2.1)).1 = some b.2.2.2
  | 0, b, h => by cases h
  | c + 1, b, h => by
    have ih := fun b h => layS_st (f := f) (x := x) (y := y) c b h
    unfold layS at h
    have hc : 8 * (1 + c / 8) + c % 8 = 8 + c := by omega
    split at h
    · have := ih b h
      exact ⟨this.1, this.2.1, by omega, this.2.2.2⟩
    · rename_i s hs
      split at h
      · injection h with h
        subst h
        exact ⟨Nat.mod_lt _ (by decide), by show 1 ≤ 1 + c / 8; omega, by show 8 * (1 + c / 8) + c % 8 < 8 + (c + 1); omega, hs⟩
      · rename_i b0 hb0
        split at h
        · injection h with h
          subst h
          exact ⟨Nat.mod_lt _ (by decide), by show 1 ≤ 1 + c / 8; omega, by show 8 * (1 + c / 8) + c % 8 < 8 + (c + 1); omega, hs⟩
        · injection h with h
          subst h
          have := ih b0 hb0
          exact ⟨this.1, this.2.1, by omega, this.2.2.2⟩
def lyE (r : Option (Nat × Nat × Nat × Nat)) : Int32 := match r with
  | none => nI 1000000000
  | some b => nI b.1
def lyB (r : Option (Nat × Nat × Nat × Nat)) : Int32 := match r with
  | none => -1
  | some b => nI (8 * b.2.2.1 + b.2.1)
theorem layS_n {f : Nat → Int32} {x y c : Nat} (h : (rolS f 1 8 0 (c % 8) (nI (1 + c / 8))).1 = none) : layS f x y (c + 1) = layS f x y c := by
  conv => lhs; unfold layS
  rw [h]
theorem layS_u {f : Nat → Int32} {x y c s : Nat} (h : (rolS f 1 8 0 (c % 8) (nI (1 + c / 8))).1 = some s) (h2 : nI (lsq s x (c % 8) y) < lyE (layS f x y c)) (hq : lsq s x (c % 8) y < 1000000) (hb : ∀ b, layS f x y c = some b → b.1 ≤ 98) : layS f x y (c + 1) = some (lsq s x (c % 8) y, c % 8, 1 + c / 8, s) := by
  conv => lhs; unfold layS
  rw [h]
  cases hr : layS f x y c with
  | none => rfl
  | some b =>
    rw [hr] at h2
    have := hb b hr
    exact if_pos ((nI_ltI (by omega) (by omega)).mp h2)
theorem layS_k {f : Nat → Int32} {x y c s : Nat} (h : (rolS f 1 8 0 (c % 8) (nI (1 + c / 8))).1 = some s) (h2 : ¬ nI (lsq s x (c % 8) y) < lyE (layS f x y c)) (hq : lsq s x (c % 8) y < 1000000) (hb : ∀ b, layS f x y c = some b → b.1 ≤ 98) : layS f x y (c + 1) = layS f x y c := by
  conv => lhs; unfold layS
  rw [h]
  cases hr : layS f x y c with
  | none =>
    rw [hr] at h2
    exact absurd ((nI_ltI (by omega) (by decide)).mpr (by omega)) h2
  | some b =>
    rw [hr] at h2
    have := hb b hr
    exact if_neg (fun e => h2 ((nI_ltI (by omega) (by omega)).mpr e))
set_option maxRecDepth 100000 in
set_option maxHeartbeats 4000000 in
theorem lp_lay {G : zG} {I : zI} {J : zJ} {x y w : Nat} (hx : x < 8) (hy : y < 8) (hw : w ≤ 2) : ∀ n c I1, c + n = 72 → rlF I I1 → V G mX12_lay 2 (zP (fun r I' J' => r = some (.int (layR (layS (I 95) x y 72) w)) ∧ rlF I I' ∧ J = J')) 43 [(0, .ref 62), (1, .int (nI x)), (2, .int (nI y)), (3, .int (nI w)), (4, .int (lyE (layS (I 95) x y c))), (5, .int (lyB (layS (I 95) x y c))), (6, .int (nI (8 + c)))] [] (0, 0) zsh I1 J := by
  intro n
  induction n with
  | zero =>
    intro c I1 hc hF
    have hc72 : c = 72 := by omega
    subst hc72
    refine V_iload dX12_lay_43 rfl ?_
    refine V_bipush (v := nI 80) dX12_lay_45 rfl ?_
    refine V_icmp_geN (tgt := 136) dX12_lay_47 rfl (by omega) (by omega) (fun _ => ?_) (fun h => absurd h (by omega))
    rcases hla : layS (I 95) x y 72 with _ | b
    · skip
      refine V_sub2 (ls' := [(0, .ref 62), (3, .int (nI w)), (5, .int (-1))]) (List.forall_mem_cons.mpr ⟨rfl, List.forall_mem_cons.mpr ⟨rfl, List.forall_mem_cons.mpr ⟨rfl, fun _ h => absurd h List.not_mem_nil⟩⟩⟩) ?_
      refine V_iload dX12_lay_136 rfl ?_
      refine V_iconst (v := (-1)) dX12_lay_138 rfl ?_
      refine V_icmp_ne (tgt := 147) dX12_lay_139 rfl (fun h => absurd h (by decide)) (fun _ => ?_)
      refine V_bipush (v := (-2)) dX12_lay_142 rfl ?_
      refine V_goto (tgt := 188) dX12_lay_144 rfl ?_
      exact V_iret ⟨Or.inl rfl, dX12_lay_188⟩ ⟨Nat.le_of_ble_eq_true rfl, Nat.le_of_ble_eq_true rfl⟩ ⟨rfl, rfl, hF, rfl⟩
    · skip
      obtain ⟨k1, k2, k3, k4⟩ := layS_st 72 b hla
      refine V_sub2 (ls' := [(0, .ref 62), (3, .int (nI w)), (5, .int (nI (8 * b.2.2.1 + b.2.1)))]) (List.forall_mem_cons.mpr ⟨rfl, List.forall_mem_cons.mpr ⟨rfl, List.forall_mem_cons.mpr ⟨rfl, fun _ h => absurd h List.not_mem_nil⟩⟩⟩) ?_
      refine V_iload dX12_lay_136 rfl ?_
      refine V_iconst (v := (-1)) dX12_lay_138 rfl ?_
      refine V_icmp_ne (tgt := 147) dX12_lay_139 rfl (fun _ => ?_) (fun h => absurd h (nI_ne_neg (by omega) (by decide)))
      refine V_iload_n dX12_lay_147 rfl ?_
      refine V_if_neN (tgt := 159) dX12_lay_148 rfl (by omega) (fun h148 => ?_) (fun h148 => ?_)
      · skip
        refine V_iload_n dX12_lay_159 rfl ?_
        refine V_iconst (v := nI 1) dX12_lay_160 rfl ?_
        refine V_icmp_neN (tgt := 172) dX12_lay_161 rfl (by omega) (by omega) (fun h161 => ?_) (fun h161 => ?_)
        · skip
          refine V_aload_n dX12_lay_172 rfl ?_
          refine V_iconst (v := nI 0) dX12_lay_173 rfl ?_
          refine V_iload dX12_lay_174 rfl ?_
          refine V_bipush (v := nI 8) dX12_lay_176 rfl ?_
          refine V_iremN dX12_lay_178 (by omega) (by omega) (by omega) ?_
          refine V_eqI (y := nI b.2.1) (congrArg nI (by omega)) ?_
          refine V_iconst (v := nI 1) dX12_lay_179 rfl ?_
          refine V_iload dX12_lay_180 rfl ?_
          refine V_bipush (v := nI 8) dX12_lay_182 rfl ?_
          refine V_idivN dX12_lay_184 (by omega) (by omega) (by omega) ?_
          refine V_eqI (y := nI b.2.2.1) (congrArg nI (by omega)) ?_
          refine V_callV (As := [.int (nI 0), .int (nI b.2.1), .int (nI 1), .int (nI b.2.2.1)]) (st := []) (a := 62) dX12_lay_185 kX12_rolls lX12_461 (by decide) rfl rfl (Nat.le_of_ble_eq_true rfl) ⟨Nat.le_of_ble_eq_true rfl, Nat.le_of_ble_eq_true rfl⟩ ⟨Nat.le_of_ble_eq_true rfl, Nat.le_of_ble_eq_true rfl⟩ rfl ⟨rfl, by decide⟩ (w_rolls1 (by decide) (by omega)) ?_
          rintro r sh' I2 J' ⟨rfl, rfl, g1, g2, rfl⟩
          rw [show I1 95 = I 95 from hF.1 95 (by decide)]
          have hF2 : rlF I I2 := ⟨fun a ha => (g2.1 a ha).trans (hF.1 a ha), fun j hj => (g2.2 j hj).trans (hF.2 j hj)⟩
          refine V_eqI (y := nI b.2.2.2) (by rw [k4]; rfl) ?_
          exact V_iret ⟨Or.inl rfl, dX12_lay_188⟩ ⟨Nat.le_of_ble_eq_true rfl, Nat.le_of_ble_eq_true rfl⟩ ⟨rfl, congrArg (fun z => some (Value.int z)) ((if_neg (by omega)).trans (if_neg (by omega))).symm, hF2, rfl⟩
        · skip
          refine V_iload dX12_lay_164 rfl ?_
          refine V_bipush (v := nI 8) dX12_lay_166 rfl ?_
          refine V_idivN dX12_lay_168 (by omega) (by omega) (by omega) ?_
          refine V_eqI (y := nI b.2.2.1) (congrArg nI (by omega)) ?_
          refine V_goto (tgt := 188) dX12_lay_169 rfl ?_
          exact V_iret ⟨Or.inl rfl, dX12_lay_188⟩ ⟨Nat.le_of_ble_eq_true rfl, Nat.le_of_ble_eq_true rfl⟩ ⟨rfl, congrArg (fun z => some (Value.int z)) ((if_neg (by omega)).trans (if_pos (by omega))).symm, hF, rfl⟩
      · skip
        refine V_iload dX12_lay_151 rfl ?_
        refine V_bipush (v := nI 8) dX12_lay_153 rfl ?_
        refine V_iremN dX12_lay_155 (by omega) (by omega) (by omega) ?_
        refine V_eqI (y := nI b.2.1) (congrArg nI (by omega)) ?_
        refine V_goto (tgt := 188) dX12_lay_156 rfl ?_
        exact V_iret ⟨Or.inl rfl, dX12_lay_188⟩ ⟨Nat.le_of_ble_eq_true rfl, Nat.le_of_ble_eq_true rfl⟩ ⟨rfl, congrArg (fun z => some (Value.int z)) (if_pos (by omega)).symm, hF, rfl⟩
  | succ n ih =>
    intro c I1 hc hF
    refine V_iload dX12_lay_43 rfl ?_
    refine V_bipush (v := nI 80) dX12_lay_45 rfl ?_
    refine V_icmp_geN (tgt := 136) dX12_lay_47 rfl (by omega) (by omega) (fun h => absurd h (by omega)) (fun _ => ?_)
    rcases hro : (rolS (I 95) 1 8 0 (c % 8) (nI (1 + c / 8))).1 with _ | s
    · skip
      refine V_aload_n dX12_lay_50 rfl ?_
      refine V_iconst (v := nI 0) dX12_lay_51 rfl ?_
      refine V_iload dX12_lay_52 rfl ?_
      refine V_bipush (v := nI 8) dX12_lay_54 rfl ?_
      refine V_iremN dX12_lay_56 (by omega) (by omega) (by omega) ?_
      refine V_eqI (y := nI (c % 8)) (congrArg nI (by omega)) ?_
      refine V_iconst (v := nI 1) dX12_lay_57 rfl ?_
      refine V_iload dX12_lay_58 rfl ?_
      refine V_bipush (v := nI 8) dX12_lay_60 rfl ?_
      refine V_idivN dX12_lay_62 (by omega) (by omega) (by omega) ?_
      refine V_eqI (y := nI (1 + c / 8)) (congrArg nI (by omega)) ?_
      refine V_callV (As := [.int (nI 0), .int (nI (c % 8)), .int (nI 1), .int (nI (1 + c / 8))]) (st := []) (a := 62) dX12_lay_63 kX12_rolls lX12_461 (by decide) rfl rfl (Nat.le_of_ble_eq_true rfl) ⟨Nat.le_of_ble_eq_true rfl, Nat.le_of_ble_eq_true rfl⟩ ⟨Nat.le_of_ble_eq_true rfl, Nat.le_of_ble_eq_true rfl⟩ rfl ⟨rfl, by decide⟩ (w_rolls1 (by decide) (by omega)) ?_
      rintro r sh' I2 J' ⟨rfl, rfl, g1, g2, rfl⟩
      rw [show I1 95 = I 95 from hF.1 95 (by decide)]
      have hF2 : rlF I I2 := ⟨fun a ha => (g2.1 a ha).trans (hF.1 a ha), fun j hj => (g2.2 j hj).trans (hF.2 j hj)⟩
      refine V_eqI (y := (-2)) (by rw [hro]; rfl) ?_
      refine V_istore (ls' := [(7, .int (-2)), (0, .ref 62), (1, .int (nI x)), (2, .int (nI y)), (3, .int (nI w)), (4, .int (lyE (layS (I 95) x y c))), (5, .int (lyB (layS (I 95) x y c))), (6, .int (nI (8 + c)))]) dX12_lay_66 (by decide) rfl ?_
      refine V_iload dX12_lay_68 rfl ?_
      refine V_if_ge (tgt := 76) dX12_lay_70 rfl (fun h => absurd h (by decide)) (fun _ => ?_)
      refine V_goto (tgt := 130) dX12_lay_73 rfl ?_
      refine V_iincN (ls' := [(6, .int (nI ((8 + c) + 1))), (7, .int (-2)), (0, .ref 62), (1, .int (nI x)), (2, .int (nI y)), (3, .int (nI w)), (4, .int (lyE (layS (I 95) x y c))), (5, .int (lyB (layS (I 95) x y c)))]) (n := 1) dX12_lay_130 rfl rfl (by decide) (by decide) rfl ?_
      refine V_goto (tgt := 43) dX12_lay_133 rfl ?_
      have e9 : (layS (I 95) x y (c + 1)) = (layS (I 95) x y c) := layS_n hro
      refine V_sub2 (ls' := [(0, .ref 62), (1, .int (nI x)), (2, .int (nI y)), (3, .int (nI w)), (4, .int (lyE (layS (I 95) x y (c + 1)))), (5, .int (lyB (layS (I 95) x y (c + 1)))), (6, .int (nI (8 + (c + 1))))]) (List.forall_mem_cons.mpr ⟨rfl, List.forall_mem_cons.mpr ⟨rfl, List.forall_mem_cons.mpr ⟨rfl, List.forall_mem_cons.mpr ⟨rfl, List.forall_mem_cons.mpr ⟨(congrArg (fun z => some (Value.int z)) (congrArg lyE e9).symm), List.forall_mem_cons.mpr ⟨(congrArg (fun z => some (Value.int z)) (congrArg lyB e9).symm), List.forall_mem_cons.mpr ⟨(congrArg (fun z => some (Value.int z)) (congrArg nI (by omega))), fun _ h => absurd h List.not_mem_nil⟩⟩⟩⟩⟩⟩⟩) ?_
      exact ih (c + 1) I2 (by omega) hF2
    · skip
      have hrow := rolS_row 8 0 (c % 8) (nI (1 + c / 8)) s (by decide) hro
      have hs64 := rolS_lt 8 0 (c % 8) (nI (1 + c / 8)) s (by decide) (by omega) hro
      have hlq : lsq s x (c % 8) y < 1000000 := by
        have a1 : ∀ a b : Nat, a < 8 → b < 8 → sqd a b ≤ 49 := fun a b ha hb => by
          have h1 : (if a ≤ b then b - a else a - b) ≤ 7 := by split <;> omega
          exact Nat.mul_le_mul h1 h1
        have := a1 (s % 8) x (by omega) hx
        have := a1 (c % 8) y (by omega) hy
        unfold lsq
        omega
      refine V_aload_n dX12_lay_50 rfl ?_
      refine V_iconst (v := nI 0) dX12_lay_51 rfl ?_
      refine V_iload dX12_lay_52 rfl ?_
      refine V_bipush (v := nI 8) dX12_lay_54 rfl ?_
      refine V_iremN dX12_lay_56 (by omega) (by omega) (by omega) ?_
      refine V_eqI (y := nI (c % 8)) (congrArg nI (by omega)) ?_
      refine V_iconst (v := nI 1) dX12_lay_57 rfl ?_
      refine V_iload dX12_lay_58 rfl ?_
      refine V_bipush (v := nI 8) dX12_lay_60 rfl ?_
      refine V_idivN dX12_lay_62 (by omega) (by omega) (by omega) ?_
      refine V_eqI (y := nI (1 + c / 8)) (congrArg nI (by omega)) ?_
      refine V_callV (As := [.int (nI 0), .int (nI (c % 8)), .int (nI 1), .int (nI (1 + c / 8))]) (st := []) (a := 62) dX12_lay_63 kX12_rolls lX12_461 (by decide) rfl rfl (Nat.le_of_ble_eq_true rfl) ⟨Nat.le_of_ble_eq_true rfl, Nat.le_of_ble_eq_true rfl⟩ ⟨Nat.le_of_ble_eq_true rfl, Nat.le_of_ble_eq_true rfl⟩ rfl ⟨rfl, by decide⟩ (w_rolls1 (by decide) (by omega)) ?_
      rintro r sh' I2 J' ⟨rfl, rfl, g1, g2, rfl⟩
      rw [show I1 95 = I 95 from hF.1 95 (by decide)]
      have hF2 : rlF I I2 := ⟨fun a ha => (g2.1 a ha).trans (hF.1 a ha), fun j hj => (g2.2 j hj).trans (hF.2 j hj)⟩
      refine V_eqI (y := nI s) (by rw [hro]; rfl) ?_
      refine V_istore (ls' := [(7, .int (nI s)), (0, .ref 62), (1, .int (nI x)), (2, .int (nI y)), (3, .int (nI w)), (4, .int (lyE (layS (I 95) x y c))), (5, .int (lyB (layS (I 95) x y c))), (6, .int (nI (8 + c)))]) dX12_lay_66 (by decide) rfl ?_
      refine V_iload dX12_lay_68 rfl ?_
      refine V_if_geN (tgt := 76) dX12_lay_70 rfl (by omega) ?_
      refine V_iload dX12_lay_76 rfl ?_
      refine V_bipush (v := nI 8) dX12_lay_78 rfl ?_
      refine V_iremN dX12_lay_80 (by omega) (by omega) (by omega) ?_
      refine V_iload_n dX12_lay_81 rfl ?_
      refine V_isub dX12_lay_82 (V_eqI (y := nI (s % 8) - nI x) (by first | rfl | (congr 2; omega)) ?_)
      refine V_istore (ls' := [(8, .int (nI (s % 8) - nI x)), (7, .int (nI s)), (0, .ref 62), (1, .int (nI x)), (2, .int (nI y)), (3, .int (nI w)), (4, .int (lyE (layS (I 95) x y c))), (5, .int (lyB (layS (I 95) x y c))), (6, .int (nI (8 + c)))]) dX12_lay_83 (by decide) rfl ?_
      refine V_iload dX12_lay_85 rfl ?_
      refine V_bipush (v := nI 8) dX12_lay_87 rfl ?_
      refine V_idivN dX12_lay_89 (by omega) (by omega) (by omega) ?_
      refine V_iload_n dX12_lay_90 rfl ?_
      refine V_isub dX12_lay_91 (V_eqI (y := nI (c % 8) - nI y) (by first | rfl | (congr 2; omega)) ?_)
      refine V_istore (ls' := [(9, .int (nI (c % 8) - nI y)), (8, .int (nI (s % 8) - nI x)), (7, .int (nI s)), (0, .ref 62), (1, .int (nI x)), (2, .int (nI y)), (3, .int (nI w)), (4, .int (lyE (layS (I 95) x y c))), (5, .int (lyB (layS (I 95) x y c))), (6, .int (nI (8 + c)))]) dX12_lay_92 (by decide) rfl ?_
      refine V_iload dX12_lay_94 rfl ?_
      refine V_iload dX12_lay_96 rfl ?_
      refine V_imul dX12_lay_98 (V_eqI (sqd_I (s % 8) x) ?_)
      refine V_iload dX12_lay_99 rfl ?_
      refine V_iload dX12_lay_101 rfl ?_
      refine V_imul dX12_lay_103 (V_eqI (sqd_I (c % 8) y) ?_)
      refine V_iaddN dX12_lay_104 ?_
      refine V_eqI (y := nI (lsq s x (c % 8) y)) rfl ?_
      refine V_iload dX12_lay_105 rfl ?_
      refine V_icmp_lt (tgt := 113) dX12_lay_107 rfl (fun h107 => ?_) (fun h107 => ?_)
      · skip
        refine V_iload dX12_lay_113 rfl ?_
        refine V_iload dX12_lay_115 rfl ?_
        refine V_imul dX12_lay_117 (V_eqI (sqd_I (s % 8) x) ?_)
        refine V_iload dX12_lay_118 rfl ?_
        refine V_iload dX12_lay_120 rfl ?_
        refine V_imul dX12_lay_122 (V_eqI (sqd_I (c % 8) y) ?_)
        refine V_iaddN dX12_lay_123 ?_
        refine V_eqI (y := nI (lsq s x (c % 8) y)) rfl ?_
        refine V_istore (ls' := [(4, .int (nI (lsq s x (c % 8) y))), (9, .int (nI (c % 8) - nI y)), (8, .int (nI (s % 8) - nI x)), (7, .int (nI s)), (0, .ref 62), (1, .int (nI x)), (2, .int (nI y)), (3, .int (nI w)), (5, .int (lyB (layS (I 95) x y c))), (6, .int (nI (8 + c)))]) dX12_lay_124 (by decide) rfl ?_
        refine V_iload dX12_lay_126 rfl ?_
        refine V_istore (ls' := [(5, .int (nI (8 + c))), (4, .int (nI (lsq s x (c % 8) y))), (9, .int (nI (c % 8) - nI y)), (8, .int (nI (s % 8) - nI x)), (7, .int (nI s)), (0, .ref 62), (1, .int (nI x)), (2, .int (nI y)), (3, .int (nI w)), (6, .int (nI (8 + c)))]) dX12_lay_128 (by decide) rfl ?_
        refine V_iincN (ls' := [(6, .int (nI ((8 + c) + 1))), (5, .int (nI (8 + c))), (4, .int (nI (lsq s x (c % 8) y))), (9, .int (nI (c % 8) - nI y)), (8, .int (nI (s % 8) - nI x)), (7, .int (nI s)), (0, .ref 62), (1, .int (nI x)), (2, .int (nI y)), (3, .int (nI w))]) (n := 1) dX12_lay_130 rfl rfl (by decide) (by decide) rfl ?_
        refine V_goto (tgt := 43) dX12_lay_133 rfl ?_
        have e9 : (layS (I 95) x y (c + 1)) = (some (lsq s x (c % 8) y, c % 8, 1 + c / 8, s)) := layS_u hro h107 hlq (layS_lt hx hy c)
        refine V_sub2 (ls' := [(0, .ref 62), (1, .int (nI x)), (2, .int (nI y)), (3, .int (nI w)), (4, .int (lyE (layS (I 95) x y (c + 1)))), (5, .int (lyB (layS (I 95) x y (c + 1)))), (6, .int (nI (8 + (c + 1))))]) (List.forall_mem_cons.mpr ⟨rfl, List.forall_mem_cons.mpr ⟨rfl, List.forall_mem_cons.mpr ⟨rfl, List.forall_mem_cons.mpr ⟨rfl, List.forall_mem_cons.mpr ⟨(congrArg (fun z => some (Value.int z)) (congrArg lyE e9).symm), List.forall_mem_cons.mpr ⟨(congrArg (fun z => some (Value.int z)) ((congrArg nI (show 8 + c = 8 * (1 + c / 8) + c % 8 by omega)).trans (congrArg lyB e9).symm)), List.forall_mem_cons.mpr ⟨(congrArg (fun z => some (Value.int z)) (congrArg nI (by omega))), fun _ h => absurd h List.not_mem_nil⟩⟩⟩⟩⟩⟩⟩) ?_
        exact ih (c + 1) I2 (by omega) hF2
      · skip
        refine V_goto (tgt := 130) dX12_lay_110 rfl ?_
        refine V_iincN (ls' := [(6, .int (nI ((8 + c) + 1))), (9, .int (nI (c % 8) - nI y)), (8, .int (nI (s % 8) - nI x)), (7, .int (nI s)), (0, .ref 62), (1, .int (nI x)), (2, .int (nI y)), (3, .int (nI w)), (4, .int (lyE (layS (I 95) x y c))), (5, .int (lyB (layS (I 95) x y c)))]) (n := 1) dX12_lay_130 rfl rfl (by decide) (by decide) rfl ?_
        refine V_goto (tgt := 43) dX12_lay_133 rfl ?_
        have e9 : (layS (I 95) x y (c + 1)) = (layS (I 95) x y c) := layS_k hro h107 hlq (layS_lt hx hy c)
        refine V_sub2 (ls' := [(0, .ref 62), (1, .int (nI x)), (2, .int (nI y)), (3, .int (nI w)), (4, .int (lyE (layS (I 95) x y (c + 1)))), (5, .int (lyB (layS (I 95) x y (c + 1)))), (6, .int (nI (8 + (c + 1))))]) (List.forall_mem_cons.mpr ⟨rfl, List.forall_mem_cons.mpr ⟨rfl, List.forall_mem_cons.mpr ⟨rfl, List.forall_mem_cons.mpr ⟨rfl, List.forall_mem_cons.mpr ⟨(congrArg (fun z => some (Value.int z)) (congrArg lyE e9).symm), List.forall_mem_cons.mpr ⟨(congrArg (fun z => some (Value.int z)) (congrArg lyB e9).symm), List.forall_mem_cons.mpr ⟨(congrArg (fun z => some (Value.int z)) (congrArg nI (by omega))), fun _ h => absurd h List.not_mem_nil⟩⟩⟩⟩⟩⟩⟩) ?_
        exact ih (c + 1) I2 (by omega) hF2

set_option maxRecDepth 100000 in
set_option maxHeartbeats 4000000 in
theorem w_layY {G : zG} {I : zI} {J : zJ} {x y w : Nat} (hx : x < 8) (hy : y < 8) (hw : w ≤ 2) : zK G mX12_lay 2 [.ref 62, .int (nI x), .int (nI y), .int (nI w)] zsh I J (zP (fun r I' J' => r = some (.int (layR (layS (I 95) x y 72) w)) ∧ rlF I I' ∧ J = J')) := by
  refine zK_of kX12_lay.2.2.2.2.1 (Nat.le_of_ble_eq_true rfl) ?_
  show V G mX12_lay 2 _ 0 [(0, .ref 62), (1, .int (nI x)), (2, .int (nI y)), (3, .int (nI w))] [] (0, 0) zsh I J
  refine V_iload_n dX12_lay_0 rfl ?_
  refine V_iconst (v := nI 0) dX12_lay_1 rfl ?_
  refine V_bipush (v := nI 7) dX12_lay_2 rfl ?_
  refine V_callS (As := [.int (nI x), .int (nI 0), .int (nI 7)]) (st := []) dX12_lay_4 kX12_in lX12_173 (by decide) rfl rfl (Nat.le_of_ble_eq_true rfl) ⟨Nat.le_of_ble_eq_true rfl, Nat.le_of_ble_eq_true rfl⟩ (w_inY rfl rfl (a := 0) (b := 7) ((inZ_k (by omega)).mpr (by omega))) ?_
  rintro _ _ _ _ ⟨rfl, rfl, rfl, rfl⟩
  refine V_if_eq (tgt := 29) dX12_lay_7 rfl (fun h => absurd h (by decide)) (fun _ => ?_)
  refine V_iload_n dX12_lay_10 rfl ?_
  refine V_iconst (v := nI 0) dX12_lay_11 rfl ?_
  refine V_bipush (v := nI 7) dX12_lay_12 rfl ?_
  refine V_callS (As := [.int (nI y), .int (nI 0), .int (nI 7)]) (st := []) dX12_lay_14 kX12_in lX12_173 (by decide) rfl rfl (Nat.le_of_ble_eq_true rfl) ⟨Nat.le_of_ble_eq_true rfl, Nat.le_of_ble_eq_true rfl⟩ (w_inY rfl rfl (a := 0) (b := 7) ((inZ_k (by omega)).mpr (by omega))) ?_
  rintro _ _ _ _ ⟨rfl, rfl, rfl, rfl⟩
  refine V_if_eq (tgt := 29) dX12_lay_17 rfl (fun h => absurd h (by decide)) (fun _ => ?_)
  refine V_iload_n dX12_lay_20 rfl ?_
  refine V_iconst (v := nI 0) dX12_lay_21 rfl ?_
  refine V_iconst (v := nI 2) dX12_lay_22 rfl ?_
  refine V_callS (As := [.int (nI w), .int (nI 0), .int (nI 2)]) (st := []) dX12_lay_23 kX12_in lX12_173 (by decide) rfl rfl (Nat.le_of_ble_eq_true rfl) ⟨Nat.le_of_ble_eq_true rfl, Nat.le_of_ble_eq_true rfl⟩ (w_inY rfl rfl (a := 0) (b := 2) ((inZ_k (by omega)).mpr (by omega))) ?_
  rintro _ _ _ _ ⟨rfl, rfl, rfl, rfl⟩
  refine V_if_ne (tgt := 31) dX12_lay_26 rfl (fun _ => ?_) (fun h => absurd h (by decide))
  refine V_ldcw dX12_lay_31 qX12_465 ?_
  refine V_eqI (y := nI 1000000000) rfl ?_
  refine V_istore (ls' := [(4, .int (nI 1000000000)), (0, .ref 62), (1, .int (nI x)), (2, .int (nI y)), (3, .int (nI w))]) dX12_lay_34 (by decide) rfl ?_
  refine V_iconst (v := (-1)) dX12_lay_36 rfl ?_
  refine V_istore (ls' := [(5, .int (-1)), (4, .int (nI 1000000000)), (0, .ref 62), (1, .int (nI x)), (2, .int (nI y)), (3, .int (nI w))]) dX12_lay_37 (by decide) rfl ?_
  refine V_bipush (v := nI 8) dX12_lay_39 rfl ?_
  refine V_istore (ls' := [(6, .int (nI 8)), (5, .int (-1)), (4, .int (nI 1000000000)), (0, .ref 62), (1, .int (nI x)), (2, .int (nI y)), (3, .int (nI w))]) dX12_lay_41 (by decide) rfl ?_
  refine V_sub2 (ls' := [(0, .ref 62), (1, .int (nI x)), (2, .int (nI y)), (3, .int (nI w)), (4, .int (lyE (layS (I 95) x y 0))), (5, .int (lyB (layS (I 95) x y 0))), (6, .int (nI 8))]) (List.forall_mem_cons.mpr ⟨rfl, List.forall_mem_cons.mpr ⟨rfl, List.forall_mem_cons.mpr ⟨rfl, List.forall_mem_cons.mpr ⟨rfl, List.forall_mem_cons.mpr ⟨(congrArg (fun z => some (Value.int z)) rfl), List.forall_mem_cons.mpr ⟨(congrArg (fun z => some (Value.int z)) rfl), List.forall_mem_cons.mpr ⟨rfl, fun _ h => absurd h List.not_mem_nil⟩⟩⟩⟩⟩⟩⟩) ?_
  exact lp_lay hx hy hw 72 0 I rfl ⟨fun _ _ => rfl, fun _ _ => rfl⟩

