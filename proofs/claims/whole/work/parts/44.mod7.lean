/-! THE MODEL: counts, its log, rules told, states behind throws -/
/-- clauses of the law and the rules -/
def cM (I : zI) (c0 : Nat) (cc : Nat → Nat) : Prop := I 74 0 = nI c0 ∧ c0 ≤ 16 ∧ ∀ k, k < 4 → I 74 (k + 1) = nI (cc k) ∧ cc k ≤ 16
set_option maxRecDepth 100000 in
set_option maxHeartbeats 4000000 in
theorem w_count {G : zG} {I : zI} {J : zJ} {m : Nat} {sd xs ys : Nat → Nat} {px py : Nat} (hF : fdM I m sd xs ys px py) {c0 : Nat} {cc : Nat → Nat} (hC : cM I c0 cc) {far z t : Nat} (hf : I 62 4 = nI far) (hz : I 62 6 = nI z) (ht : I 62 7 = nI t) {x : Int32} : zK G mX12_count 1 [.ref 62, .int x] zsh I J (zA0 (.int (onN 164 x (-1) (cntS far c0 t z cc m sd xs ys px py (I 95)))) I J) := by
  refine zK_of kX12_count.2.2.2.2.1 (Nat.le_of_ble_eq_true rfl) ?_
  show V G mX12_count 1 _ 0 [(0, .ref 62), (1, .int x)] [] (0, 0) zsh I J
  have hm12 := hF.2.1
  rcases ix3 x 164 (by decide) with hx | hx | ⟨k, hk, rfl⟩
  · skip
    refine V_iload_n dX12_count_0 rfl ?_
    refine V_tsOut (tgt := 80) dX12_count_1 (by omega) rfl ?_
    refine V_iload_n dX12_count_80 rfl ?_
    refine V_bipush (v := nI 10) dX12_count_81 rfl ?_
    refine V_bipush (v := nI 13) dX12_count_83 rfl ?_
    refine V_callS (As := [.int x, .int (nI 10), .int (nI 13)]) (st := []) dX12_count_85 kX12_in lX12_173 (by decide) rfl rfl (Nat.le_of_ble_eq_true rfl) ⟨Nat.le_of_ble_eq_true rfl, Nat.le_of_ble_eq_true rfl⟩ (w_inN rfl rfl (a := 10) (b := 13) (fun h => by have h1 := h.1; have h2 := h.2; omega)) ?_
    rintro _ _ _ _ ⟨rfl, rfl, rfl, rfl⟩
    refine V_if_eq (tgt := 101) dX12_count_88 rfl (fun _ => ?_) (fun h => absurd h (by decide))
    refine V_iload_n dX12_count_101 rfl ?_
    refine V_bipush (v := nI 20) dX12_count_102 rfl ?_
    refine V_bipush (v := nI 19) dX12_count_104 rfl ?_
    refine V_aload_n dX12_count_106 rfl ?_
    refine V_getI dX12_count_107 fX12_469 ⟨Nat.le_of_ble_eq_true rfl, Nat.le_of_ble_eq_true rfl⟩ rfl rfl ?_
    refine V_eqI (y := nI m) hF.1 ?_
    refine V_iaddN dX12_count_110 ?_
    refine V_callS (As := [.int x, .int (nI 20), .int (nI (19 + m))]) (st := []) dX12_count_111 kX12_in lX12_173 (by decide) rfl rfl (Nat.le_of_ble_eq_true rfl) ⟨Nat.le_of_ble_eq_true rfl, Nat.le_of_ble_eq_true rfl⟩ (w_inN rfl (nI_toInt (by omega)) (a := 20) (b := ((19 + m : Nat) : Int)) (fun h => by have h1 := h.1; have h2 := h.2; omega)) ?_
    rintro _ _ _ _ ⟨rfl, rfl, rfl, rfl⟩
    refine V_if_eq (tgt := 127) dX12_count_114 rfl (fun _ => ?_) (fun h => absurd h (by decide))
    refine V_iload_n dX12_count_127 rfl ?_
    refine V_bipush (v := nI 40) dX12_count_128 rfl ?_
    refine V_bipush (v := nI 39) dX12_count_130 rfl ?_
    refine V_aload_n dX12_count_132 rfl ?_
    refine V_getI dX12_count_133 fX12_469 ⟨Nat.le_of_ble_eq_true rfl, Nat.le_of_ble_eq_true rfl⟩ rfl rfl ?_
    refine V_eqI (y := nI m) hF.1 ?_
    refine V_iaddN dX12_count_136 ?_
    refine V_callS (As := [.int x, .int (nI 40), .int (nI (39 + m))]) (st := []) dX12_count_137 kX12_in lX12_173 (by decide) rfl rfl (Nat.le_of_ble_eq_true rfl) ⟨Nat.le_of_ble_eq_true rfl, Nat.le_of_ble_eq_true rfl⟩ (w_inN rfl (nI_toInt (by omega)) (a := 40) (b := ((39 + m : Nat) : Int)) (fun h => by have h1 := h.1; have h2 := h.2; omega)) ?_
    rintro _ _ _ _ ⟨rfl, rfl, rfl, rfl⟩
    refine V_if_eq (tgt := 166) dX12_count_140 rfl (fun _ => ?_) (fun h => absurd h (by decide))
    refine V_iload_n dX12_count_166 rfl ?_
    refine V_bipush (v := nI 100) dX12_count_167 rfl ?_
    refine V_sipush (v := nI 163) dX12_count_169 rfl ?_
    refine V_callS (As := [.int x, .int (nI 100), .int (nI 163)]) (st := []) dX12_count_172 kX12_in lX12_173 (by decide) rfl rfl (Nat.le_of_ble_eq_true rfl) ⟨Nat.le_of_ble_eq_true rfl, Nat.le_of_ble_eq_true rfl⟩ (w_inN rfl rfl (a := 100) (b := 163) (fun h => by have h1 := h.1; have h2 := h.2; omega)) ?_
    rintro _ _ _ _ ⟨rfl, rfl, rfl, rfl⟩
    refine V_if_eq (tgt := 190) dX12_count_175 rfl (fun _ => ?_) (fun h => absurd h (by decide))
    refine V_iconst (v := (-1)) dX12_count_190 rfl ?_
    exact V_iret ⟨Or.inl rfl, dX12_count_191⟩ ⟨Nat.le_of_ble_eq_true rfl, Nat.le_of_ble_eq_true rfl⟩ ⟨rfl, congrArg (fun z => some (Value.int z)) (onN_lo hx).symm, rfl, rfl⟩
  · skip
    refine V_iload_n dX12_count_0 rfl ?_
    refine V_tsOut (tgt := 80) dX12_count_1 (by omega) rfl ?_
    refine V_iload_n dX12_count_80 rfl ?_
    refine V_bipush (v := nI 10) dX12_count_81 rfl ?_
    refine V_bipush (v := nI 13) dX12_count_83 rfl ?_
    refine V_callS (As := [.int x, .int (nI 10), .int (nI 13)]) (st := []) dX12_count_85 kX12_in lX12_173 (by decide) rfl rfl (Nat.le_of_ble_eq_true rfl) ⟨Nat.le_of_ble_eq_true rfl, Nat.le_of_ble_eq_true rfl⟩ (w_inN rfl rfl (a := 10) (b := 13) (fun h => by have h1 := h.1; have h2 := h.2; omega)) ?_
    rintro _ _ _ _ ⟨rfl, rfl, rfl, rfl⟩
    refine V_if_eq (tgt := 101) dX12_count_88 rfl (fun _ => ?_) (fun h => absurd h (by decide))
    refine V_iload_n dX12_count_101 rfl ?_
    refine V_bipush (v := nI 20) dX12_count_102 rfl ?_
    refine V_bipush (v := nI 19) dX12_count_104 rfl ?_
    refine V_aload_n dX12_count_106 rfl ?_
    refine V_getI dX12_count_107 fX12_469 ⟨Nat.le_of_ble_eq_true rfl, Nat.le_of_ble_eq_true rfl⟩ rfl rfl ?_
    refine V_eqI (y := nI m) hF.1 ?_
    refine V_iaddN dX12_count_110 ?_
    refine V_callS (As := [.int x, .int (nI 20), .int (nI (19 + m))]) (st := []) dX12_count_111 kX12_in lX12_173 (by decide) rfl rfl (Nat.le_of_ble_eq_true rfl) ⟨Nat.le_of_ble_eq_true rfl, Nat.le_of_ble_eq_true rfl⟩ (w_inN rfl (nI_toInt (by omega)) (a := 20) (b := ((19 + m : Nat) : Int)) (fun h => by have h1 := h.1; have h2 := h.2; omega)) ?_
    rintro _ _ _ _ ⟨rfl, rfl, rfl, rfl⟩
    refine V_if_eq (tgt := 127) dX12_count_114 rfl (fun _ => ?_) (fun h => absurd h (by decide))
    refine V_iload_n dX12_count_127 rfl ?_
    refine V_bipush (v := nI 40) dX12_count_128 rfl ?_
    refine V_bipush (v := nI 39) dX12_count_130 rfl ?_
    refine V_aload_n dX12_count_132 rfl ?_
    refine V_getI dX12_count_133 fX12_469 ⟨Nat.le_of_ble_eq_true rfl, Nat.le_of_ble_eq_true rfl⟩ rfl rfl ?_
    refine V_eqI (y := nI m) hF.1 ?_
    refine V_iaddN dX12_count_136 ?_
    refine V_callS (As := [.int x, .int (nI 40), .int (nI (39 + m))]) (st := []) dX12_count_137 kX12_in lX12_173 (by decide) rfl rfl (Nat.le_of_ble_eq_true rfl) ⟨Nat.le_of_ble_eq_true rfl, Nat.le_of_ble_eq_true rfl⟩ (w_inN rfl (nI_toInt (by omega)) (a := 40) (b := ((39 + m : Nat) : Int)) (fun h => by have h1 := h.1; have h2 := h.2; omega)) ?_
    rintro _ _ _ _ ⟨rfl, rfl, rfl, rfl⟩
    refine V_if_eq (tgt := 166) dX12_count_140 rfl (fun _ => ?_) (fun h => absurd h (by decide))
    refine V_iload_n dX12_count_166 rfl ?_
    refine V_bipush (v := nI 100) dX12_count_167 rfl ?_
    refine V_sipush (v := nI 163) dX12_count_169 rfl ?_
    refine V_callS (As := [.int x, .int (nI 100), .int (nI 163)]) (st := []) dX12_count_172 kX12_in lX12_173 (by decide) rfl rfl (Nat.le_of_ble_eq_true rfl) ⟨Nat.le_of_ble_eq_true rfl, Nat.le_of_ble_eq_true rfl⟩ (w_inN rfl rfl (a := 100) (b := 163) (fun h => by have h1 := h.1; have h2 := h.2; omega)) ?_
    rintro _ _ _ _ ⟨rfl, rfl, rfl, rfl⟩
    refine V_if_eq (tgt := 190) dX12_count_175 rfl (fun _ => ?_) (fun h => absurd h (by decide))
    refine V_iconst (v := (-1)) dX12_count_190 rfl ?_
    exact V_iret ⟨Or.inl rfl, dX12_count_191⟩ ⟨Nat.le_of_ble_eq_true rfl, Nat.le_of_ble_eq_true rfl⟩ ⟨rfl, congrArg (fun z => some (Value.int z)) (onN_hi hx).symm, rfl, rfl⟩
  · by_cases h5 : k ≤ 5
    · rcases (show k = 0 ∨ k = 1 ∨ k = 2 ∨ k = 3 ∨ k = 4 ∨ k = 5 by omega) with e | e | e | e | e | e <;> subst e
      · skip
        refine V_iload_n dX12_count_0 rfl ?_
        refine V_tsIn (off := 39) (tgt := 40) dX12_count_1 (by decide) (by decide) rfl rfl ?_
        refine V_aload_n dX12_count_40 rfl ?_
        refine V_getI dX12_count_41 fX12_139 ⟨Nat.le_of_ble_eq_true rfl, Nat.le_of_ble_eq_true rfl⟩ rfl rfl ?_
        refine V_eqI (y := nI far) hf ?_
        exact V_iret ⟨Or.inl rfl, dX12_count_44⟩ ⟨Nat.le_of_ble_eq_true rfl, Nat.le_of_ble_eq_true rfl⟩ ⟨rfl, congrArg (fun z => some (Value.int z)) ((onN_k (n := 164) (k := 0) (d := -1) (f := (cntS far c0 t z cc m sd xs ys px py (I 95))) (by decide) (by decide)).trans (if_pos rfl)).symm, rfl, rfl⟩
      · skip
        refine V_iload_n dX12_count_0 rfl ?_
        refine V_tsIn (off := 44) (tgt := 45) dX12_count_1 (by decide) (by decide) rfl rfl ?_
        refine V_aload_n dX12_count_45 rfl ?_
        refine V_getR (b := 74) dX12_count_46 fX12_44 ⟨Nat.le_of_ble_eq_true rfl, Nat.le_of_ble_eq_true rfl⟩ rfl rfl rfl ?_
        refine V_iconst (v := nI 0) dX12_count_49 rfl ?_
        refine V_ialdN (k := 0) dX12_count_50 ⟨Nat.le_of_ble_eq_true rfl, Nat.le_of_ble_eq_true rfl⟩ rfl (by decide) (by omega) ?_
        refine V_eqI (y := nI c0) hC.1 ?_
        exact V_iret ⟨Or.inl rfl, dX12_count_51⟩ ⟨Nat.le_of_ble_eq_true rfl, Nat.le_of_ble_eq_true rfl⟩ ⟨rfl, congrArg (fun z => some (Value.int z)) ((onN_k (n := 164) (k := 1) (d := -1) (f := (cntS far c0 t z cc m sd xs ys px py (I 95))) (by decide) (by decide)).trans ((if_neg (by decide)).trans (if_pos rfl))).symm, rfl, rfl⟩
      · skip
        refine V_iload_n dX12_count_0 rfl ?_
        refine V_tsIn (off := 51) (tgt := 52) dX12_count_1 (by decide) (by decide) rfl rfl ?_
        refine V_aload_n dX12_count_52 rfl ?_
        refine V_getI dX12_count_53 fX12_212 ⟨Nat.le_of_ble_eq_true rfl, Nat.le_of_ble_eq_true rfl⟩ rfl rfl ?_
        refine V_eqI (y := nI t) ht ?_
        exact V_iret ⟨Or.inl rfl, dX12_count_56⟩ ⟨Nat.le_of_ble_eq_true rfl, Nat.le_of_ble_eq_true rfl⟩ ⟨rfl, congrArg (fun z => some (Value.int z)) ((onN_k (n := 164) (k := 2) (d := -1) (f := (cntS far c0 t z cc m sd xs ys px py (I 95))) (by decide) (by decide)).trans ((if_neg (by decide)).trans ((if_neg (by decide)).trans (if_pos rfl)))).symm, rfl, rfl⟩
      · skip
        refine V_iload_n dX12_count_0 rfl ?_
        refine V_tsIn (off := 56) (tgt := 57) dX12_count_1 (by decide) (by decide) rfl rfl ?_
        refine V_aload_n dX12_count_57 rfl ?_
        refine V_getI dX12_count_58 fX12_146 ⟨Nat.le_of_ble_eq_true rfl, Nat.le_of_ble_eq_true rfl⟩ rfl rfl ?_
        refine V_eqI (y := nI z) hz ?_
        exact V_iret ⟨Or.inl rfl, dX12_count_61⟩ ⟨Nat.le_of_ble_eq_true rfl, Nat.le_of_ble_eq_true rfl⟩ ⟨rfl, congrArg (fun z => some (Value.int z)) ((onN_k (n := 164) (k := 3) (d := -1) (f := (cntS far c0 t z cc m sd xs ys px py (I 95))) (by decide) (by decide)).trans ((if_neg (by decide)).trans ((if_neg (by decide)).trans ((if_neg (by decide)).trans (if_pos rfl))))).symm, rfl, rfl⟩
      · skip
        refine V_iload_n dX12_count_0 rfl ?_
        refine V_tsIn (off := 61) (tgt := 62) dX12_count_1 (by decide) (by decide) rfl rfl ?_
        refine V_aload_n dX12_count_62 rfl ?_
        refine V_getI dX12_count_63 fX12_469 ⟨Nat.le_of_ble_eq_true rfl, Nat.le_of_ble_eq_true rfl⟩ rfl rfl ?_
        refine V_eqI (y := nI m) hF.1 ?_
        exact V_iret ⟨Or.inl rfl, dX12_count_66⟩ ⟨Nat.le_of_ble_eq_true rfl, Nat.le_of_ble_eq_true rfl⟩ ⟨rfl, congrArg (fun z => some (Value.int z)) ((onN_k (n := 164) (k := 4) (d := -1) (f := (cntS far c0 t z cc m sd xs ys px py (I 95))) (by decide) (by decide)).trans ((if_neg (by decide)).trans ((if_neg (by decide)).trans ((if_neg (by decide)).trans ((if_neg (by decide)).trans (if_pos rfl)))))).symm, rfl, rfl⟩
      · skip
        refine V_iload_n dX12_count_0 rfl ?_
        refine V_tsIn (off := 66) (tgt := 67) dX12_count_1 (by decide) (by decide) rfl rfl ?_
        refine V_bipush (v := nI 100) dX12_count_67 rfl ?_
        refine V_aload_n dX12_count_69 rfl ?_
        refine V_getI dX12_count_70 fX12_152 ⟨Nat.le_of_ble_eq_true rfl, Nat.le_of_ble_eq_true rfl⟩ rfl rfl ?_
        refine V_eqI (y := nI py) hF.2.2.2.2.2.1 ?_
        refine V_imulN dX12_count_73 ?_
        refine V_aload_n dX12_count_74 rfl ?_
        refine V_getI dX12_count_75 fX12_149 ⟨Nat.le_of_ble_eq_true rfl, Nat.le_of_ble_eq_true rfl⟩ rfl rfl ?_
        refine V_eqI (y := nI px) hF.2.2.2.1 ?_
        refine V_iaddN dX12_count_78 ?_
        exact V_iret ⟨Or.inl rfl, dX12_count_79⟩ ⟨Nat.le_of_ble_eq_true rfl, Nat.le_of_ble_eq_true rfl⟩ ⟨rfl, congrArg (fun z => some (Value.int z)) ((onN_k (n := 164) (k := 5) (d := -1) (f := (cntS far c0 t z cc m sd xs ys px py (I 95))) (by decide) (by decide)).trans ((if_neg (by decide)).trans ((if_neg (by decide)).trans ((if_neg (by decide)).trans ((if_neg (by decide)).trans ((if_neg (by decide)).trans (if_pos rfl))))))).symm, rfl, rfl⟩
    · have hc : (10 ≤ k ∧ k < 14) ∨ (20 ≤ k ∧ k < 20 + m) ∨ (40 ≤ k ∧ k < 40 + m) ∨ (100 ≤ k ∧ k < 164) ∨ ¬ (10 ≤ k ∧ k < 14) ∧ ¬ (20 ≤ k ∧ k < 20 + m) ∧ ¬ (40 ≤ k ∧ k < 40 + m) ∧ ¬ (100 ≤ k ∧ k < 164) := by omega
      rcases hc with hc | hc | hc | hc | hc
      · skip
        refine V_iload_n dX12_count_0 rfl ?_
        refine V_tsOut (tgt := 80) dX12_count_1 (by rw [nI_toInt (by omega)]; omega) rfl ?_
        refine V_iload_n dX12_count_80 rfl ?_
        refine V_bipush (v := nI 10) dX12_count_81 rfl ?_
        refine V_bipush (v := nI 13) dX12_count_83 rfl ?_
        refine V_callS (As := [.int (nI k), .int (nI 10), .int (nI 13)]) (st := []) dX12_count_85 kX12_in lX12_173 (by decide) rfl rfl (Nat.le_of_ble_eq_true rfl) ⟨Nat.le_of_ble_eq_true rfl, Nat.le_of_ble_eq_true rfl⟩ (w_inY rfl rfl (a := 10) (b := 13) ((inZ_k (by omega)).mpr (by omega))) ?_
        rintro _ _ _ _ ⟨rfl, rfl, rfl, rfl⟩
        refine V_if_eq (tgt := 101) dX12_count_88 rfl (fun h => absurd h (by decide)) (fun _ => ?_)
        refine V_aload_n dX12_count_91 rfl ?_
        refine V_getR (b := 74) dX12_count_92 fX12_44 ⟨Nat.le_of_ble_eq_true rfl, Nat.le_of_ble_eq_true rfl⟩ rfl rfl rfl ?_
        refine V_iload_n dX12_count_95 rfl ?_
        refine V_bipush (v := nI 9) dX12_count_96 rfl ?_
        refine V_isubN dX12_count_98 (by omega) ?_
        refine V_ialdN (k := k - 9) dX12_count_99 ⟨Nat.le_of_ble_eq_true rfl, Nat.le_of_ble_eq_true rfl⟩ rfl (by decide) (by omega) ?_
        refine V_eqI (y := nI (cc (k - 10))) ((congrArg (I 74) (show (k - 9) = k - 10 + 1 by omega)).trans (hC.2.2 (k - 10) (by omega)).1) ?_
        exact V_iret ⟨Or.inl rfl, dX12_count_100⟩ ⟨Nat.le_of_ble_eq_true rfl, Nat.le_of_ble_eq_true rfl⟩ ⟨rfl, congrArg (fun z => some (Value.int z)) ((onN_k (f := (cntS far c0 t z cc m sd xs ys px py (I 95))) (by omega) (by decide)).trans ((if_neg (by omega)).trans ((if_neg (by omega)).trans ((if_neg (by omega)).trans ((if_neg (by omega)).trans ((if_neg (by omega)).trans ((if_neg (by omega)).trans (if_pos (by omega))))))))).symm, rfl, rfl⟩
      · skip
        refine V_iload_n dX12_count_0 rfl ?_
        refine V_tsOut (tgt := 80) dX12_count_1 (by rw [nI_toInt (by omega)]; omega) rfl ?_
        refine V_iload_n dX12_count_80 rfl ?_
        refine V_bipush (v := nI 10) dX12_count_81 rfl ?_
        refine V_bipush (v := nI 13) dX12_count_83 rfl ?_
        refine V_callS (As := [.int (nI k), .int (nI 10), .int (nI 13)]) (st := []) dX12_count_85 kX12_in lX12_173 (by decide) rfl rfl (Nat.le_of_ble_eq_true rfl) ⟨Nat.le_of_ble_eq_true rfl, Nat.le_of_ble_eq_true rfl⟩ (w_inN rfl rfl (a := 10) (b := 13) (fun h => by have h1 := (inZ_k (by omega)).mp h; omega)) ?_
        rintro _ _ _ _ ⟨rfl, rfl, rfl, rfl⟩
        refine V_if_eq (tgt := 101) dX12_count_88 rfl (fun _ => ?_) (fun h => absurd h (by decide))
        refine V_iload_n dX12_count_101 rfl ?_
        refine V_bipush (v := nI 20) dX12_count_102 rfl ?_
        refine V_bipush (v := nI 19) dX12_count_104 rfl ?_
        refine V_aload_n dX12_count_106 rfl ?_
        refine V_getI dX12_count_107 fX12_469 ⟨Nat.le_of_ble_eq_true rfl, Nat.le_of_ble_eq_true rfl⟩ rfl rfl ?_
        refine V_eqI (y := nI m) hF.1 ?_
        refine V_iaddN dX12_count_110 ?_
        refine V_callS (As := [.int (nI k), .int (nI 20), .int (nI (19 + m))]) (st := []) dX12_count_111 kX12_in lX12_173 (by decide) rfl rfl (Nat.le_of_ble_eq_true rfl) ⟨Nat.le_of_ble_eq_true rfl, Nat.le_of_ble_eq_true rfl⟩ (w_inY rfl (nI_toInt (by omega)) (a := 20) (b := ((19 + m : Nat) : Int)) ((inZ_k (by omega)).mpr (by omega))) ?_
        rintro _ _ _ _ ⟨rfl, rfl, rfl, rfl⟩
        refine V_if_eq (tgt := 127) dX12_count_114 rfl (fun h => absurd h (by decide)) (fun _ => ?_)
        refine V_aload_n dX12_count_117 rfl ?_
        refine V_getR (b := 97) dX12_count_118 fX12_115 ⟨Nat.le_of_ble_eq_true rfl, Nat.le_of_ble_eq_true rfl⟩ rfl rfl rfl ?_
        refine V_iload_n dX12_count_121 rfl ?_
        refine V_bipush (v := nI 20) dX12_count_122 rfl ?_
        refine V_isubN dX12_count_124 (by omega) ?_
        refine V_ialdN (k := k - 20) dX12_count_125 ⟨Nat.le_of_ble_eq_true rfl, Nat.le_of_ble_eq_true rfl⟩ rfl (by decide) (by omega) ?_
        refine V_eqI (y := nI (sd (k - 20))) (hF.2.2.1 _ (by omega)).1.1 ?_
        exact V_iret ⟨Or.inl rfl, dX12_count_126⟩ ⟨Nat.le_of_ble_eq_true rfl, Nat.le_of_ble_eq_true rfl⟩ ⟨rfl, congrArg (fun z => some (Value.int z)) ((onN_k (f := (cntS far c0 t z cc m sd xs ys px py (I 95))) (by omega) (by decide)).trans ((if_neg (by omega)).trans ((if_neg (by omega)).trans ((if_neg (by omega)).trans ((if_neg (by omega)).trans ((if_neg (by omega)).trans ((if_neg (by omega)).trans ((if_neg (by omega)).trans (if_pos (by omega)))))))))).symm, rfl, rfl⟩
      · skip
        refine V_iload_n dX12_count_0 rfl ?_
        refine V_tsOut (tgt := 80) dX12_count_1 (by rw [nI_toInt (by omega)]; omega) rfl ?_
        refine V_iload_n dX12_count_80 rfl ?_
        refine V_bipush (v := nI 10) dX12_count_81 rfl ?_
        refine V_bipush (v := nI 13) dX12_count_83 rfl ?_
        refine V_callS (As := [.int (nI k), .int (nI 10), .int (nI 13)]) (st := []) dX12_count_85 kX12_in lX12_173 (by decide) rfl rfl (Nat.le_of_ble_eq_true rfl) ⟨Nat.le_of_ble_eq_true rfl, Nat.le_of_ble_eq_true rfl⟩ (w_inN rfl rfl (a := 10) (b := 13) (fun h => by have h1 := (inZ_k (by omega)).mp h; omega)) ?_
        rintro _ _ _ _ ⟨rfl, rfl, rfl, rfl⟩
        refine V_if_eq (tgt := 101) dX12_count_88 rfl (fun _ => ?_) (fun h => absurd h (by decide))
        refine V_iload_n dX12_count_101 rfl ?_
        refine V_bipush (v := nI 20) dX12_count_102 rfl ?_
        refine V_bipush (v := nI 19) dX12_count_104 rfl ?_
        refine V_aload_n dX12_count_106 rfl ?_
        refine V_getI dX12_count_107 fX12_469 ⟨Nat.le_of_ble_eq_true rfl, Nat.le_of_ble_eq_true rfl⟩ rfl rfl ?_
        refine V_eqI (y := nI m) hF.1 ?_
        refine V_iaddN dX12_count_110 ?_
        refine V_callS (As := [.int (nI k), .int (nI 20), .int (nI (19 + m))]) (st := []) dX12_count_111 kX12_in lX12_173 (by decide) rfl rfl (Nat.le_of_ble_eq_true rfl) ⟨Nat.le_of_ble_eq_true rfl, Nat.le_of_ble_eq_true rfl⟩ (w_inN rfl (nI_toInt (by omega)) (a := 20) (b := ((19 + m : Nat) : Int)) (fun h => by have h1 := (inZ_k (by omega)).mp h; omega)) ?_
        rintro _ _ _ _ ⟨rfl, rfl, rfl, rfl⟩
        refine V_if_eq (tgt := 127) dX12_count_114 rfl (fun _ => ?_) (fun h => absurd h (by decide))
        refine V_iload_n dX12_count_127 rfl ?_
        refine V_bipush (v := nI 40) dX12_count_128 rfl ?_
        refine V_bipush (v := nI 39) dX12_count_130 rfl ?_
        refine V_aload_n dX12_count_132 rfl ?_
        refine V_getI dX12_count_133 fX12_469 ⟨Nat.le_of_ble_eq_true rfl, Nat.le_of_ble_eq_true rfl⟩ rfl rfl ?_
        refine V_eqI (y := nI m) hF.1 ?_
        refine V_iaddN dX12_count_136 ?_
        refine V_callS (As := [.int (nI k), .int (nI 40), .int (nI (39 + m))]) (st := []) dX12_count_137 kX12_in lX12_173 (by decide) rfl rfl (Nat.le_of_ble_eq_true rfl) ⟨Nat.le_of_ble_eq_true rfl, Nat.le_of_ble_eq_true rfl⟩ (w_inY rfl (nI_toInt (by omega)) (a := 40) (b := ((39 + m : Nat) : Int)) ((inZ_k (by omega)).mpr (by omega))) ?_
        rintro _ _ _ _ ⟨rfl, rfl, rfl, rfl⟩
        refine V_if_eq (tgt := 166) dX12_count_140 rfl (fun h => absurd h (by decide)) (fun _ => ?_)
        refine V_bipush (v := nI 100) dX12_count_143 rfl ?_
        refine V_aload_n dX12_count_145 rfl ?_
        refine V_getR (b := 99) dX12_count_146 fX12_121 ⟨Nat.le_of_ble_eq_true rfl, Nat.le_of_ble_eq_true rfl⟩ rfl rfl rfl ?_
        refine V_iload_n dX12_count_149 rfl ?_
        refine V_bipush (v := nI 40) dX12_count_150 rfl ?_
        refine V_isubN dX12_count_152 (by omega) ?_
        refine V_ialdN (k := k - 40) dX12_count_153 ⟨Nat.le_of_ble_eq_true rfl, Nat.le_of_ble_eq_true rfl⟩ rfl (by decide) (by omega) ?_
        refine V_eqI (y := nI (ys (k - 40))) (hF.2.2.1 _ (by omega)).2.2.1 ?_
        refine V_imulN dX12_count_154 ?_
        refine V_aload_n dX12_count_155 rfl ?_
        refine V_getR (b := 98) dX12_count_156 fX12_118 ⟨Nat.le_of_ble_eq_true rfl, Nat.le_of_ble_eq_true rfl⟩ rfl rfl rfl ?_
        refine V_iload_n dX12_count_159 rfl ?_
        refine V_bipush (v := nI 40) dX12_count_160 rfl ?_
        refine V_isubN dX12_count_162 (by omega) ?_
        refine V_ialdN (k := k - 40) dX12_count_163 ⟨Nat.le_of_ble_eq_true rfl, Nat.le_of_ble_eq_true rfl⟩ rfl (by decide) (by omega) ?_
        refine V_eqI (y := nI (xs (k - 40))) (hF.2.2.1 _ (by omega)).2.1.1 ?_
        refine V_iaddN dX12_count_164 ?_
        exact V_iret ⟨Or.inl rfl, dX12_count_165⟩ ⟨Nat.le_of_ble_eq_true rfl, Nat.le_of_ble_eq_true rfl⟩ ⟨rfl, congrArg (fun z => some (Value.int z)) ((onN_k (f := (cntS far c0 t z cc m sd xs ys px py (I 95))) (by omega) (by decide)).trans ((if_neg (by omega)).trans ((if_neg (by omega)).trans ((if_neg (by omega)).trans ((if_neg (by omega)).trans ((if_neg (by omega)).trans ((if_neg (by omega)).trans ((if_neg (by omega)).trans ((if_neg (by omega)).trans (if_pos (by omega))))))))))).symm, rfl, rfl⟩
      · skip
        refine V_iload_n dX12_count_0 rfl ?_
        refine V_tsOut (tgt := 80) dX12_count_1 (by rw [nI_toInt (by omega)]; omega) rfl ?_
        refine V_iload_n dX12_count_80 rfl ?_
        refine V_bipush (v := nI 10) dX12_count_81 rfl ?_
        refine V_bipush (v := nI 13) dX12_count_83 rfl ?_
        refine V_callS (As := [.int (nI k), .int (nI 10), .int (nI 13)]) (st := []) dX12_count_85 kX12_in lX12_173 (by decide) rfl rfl (Nat.le_of_ble_eq_true rfl) ⟨Nat.le_of_ble_eq_true rfl, Nat.le_of_ble_eq_true rfl⟩ (w_inN rfl rfl (a := 10) (b := 13) (fun h => by have h1 := (inZ_k (by omega)).mp h; omega)) ?_
        rintro _ _ _ _ ⟨rfl, rfl, rfl, rfl⟩
        refine V_if_eq (tgt := 101) dX12_count_88 rfl (fun _ => ?_) (fun h => absurd h (by decide))
        refine V_iload_n dX12_count_101 rfl ?_
        refine V_bipush (v := nI 20) dX12_count_102 rfl ?_
        refine V_bipush (v := nI 19) dX12_count_104 rfl ?_
        refine V_aload_n dX12_count_106 rfl ?_
        refine V_getI dX12_count_107 fX12_469 ⟨Nat.le_of_ble_eq_true rfl, Nat.le_of_ble_eq_true rfl⟩ rfl rfl ?_
        refine V_eqI (y := nI m) hF.1 ?_
        refine V_iaddN dX12_count_110 ?_
        refine V_callS (As := [.int (nI k), .int (nI 20), .int (nI (19 + m))]) (st := []) dX12_count_111 kX12_in lX12_173 (by decide) rfl rfl (Nat.le_of_ble_eq_true rfl) ⟨Nat.le_of_ble_eq_true rfl, Nat.le_of_ble_eq_true rfl⟩ (w_inN rfl (nI_toInt (by omega)) (a := 20) (b := ((19 + m : Nat) : Int)) (fun h => by have h1 := (inZ_k (by omega)).mp h; omega)) ?_
        rintro _ _ _ _ ⟨rfl, rfl, rfl, rfl⟩
        refine V_if_eq (tgt := 127) dX12_count_114 rfl (fun _ => ?_) (fun h => absurd h (by decide))
        refine V_iload_n dX12_count_127 rfl ?_
        refine V_bipush (v := nI 40) dX12_count_128 rfl ?_
        refine V_bipush (v := nI 39) dX12_count_130 rfl ?_
        refine V_aload_n dX12_count_132 rfl ?_
        refine V_getI dX12_count_133 fX12_469 ⟨Nat.le_of_ble_eq_true rfl, Nat.le_of_ble_eq_true rfl⟩ rfl rfl ?_
        refine V_eqI (y := nI m) hF.1 ?_
        refine V_iaddN dX12_count_136 ?_
        refine V_callS (As := [.int (nI k), .int (nI 40), .int (nI (39 + m))]) (st := []) dX12_count_137 kX12_in lX12_173 (by decide) rfl rfl (Nat.le_of_ble_eq_true rfl) ⟨Nat.le_of_ble_eq_true rfl, Nat.le_of_ble_eq_true rfl⟩ (w_inN rfl (nI_toInt (by omega)) (a := 40) (b := ((39 + m : Nat) : Int)) (fun h => by have h1 := (inZ_k (by omega)).mp h; omega)) ?_
        rintro _ _ _ _ ⟨rfl, rfl, rfl, rfl⟩
        refine V_if_eq (tgt := 166) dX12_count_140 rfl (fun _ => ?_) (fun h => absurd h (by decide))
        refine V_iload_n dX12_count_166 rfl ?_
        refine V_bipush (v := nI 100) dX12_count_167 rfl ?_
        refine V_sipush (v := nI 163) dX12_count_169 rfl ?_
        refine V_callS (As := [.int (nI k), .int (nI 100), .int (nI 163)]) (st := []) dX12_count_172 kX12_in lX12_173 (by decide) rfl rfl (Nat.le_of_ble_eq_true rfl) ⟨Nat.le_of_ble_eq_true rfl, Nat.le_of_ble_eq_true rfl⟩ (w_inY rfl rfl (a := 100) (b := 163) ((inZ_k (by omega)).mpr (by omega))) ?_
        rintro _ _ _ _ ⟨rfl, rfl, rfl, rfl⟩
        refine V_if_eq (tgt := 190) dX12_count_175 rfl (fun h => absurd h (by decide)) (fun _ => ?_)
        refine V_aload_n dX12_count_178 rfl ?_
        refine V_getR (b := 95) dX12_count_179 fX12_109 ⟨Nat.le_of_ble_eq_true rfl, Nat.le_of_ble_eq_true rfl⟩ rfl rfl rfl ?_
        refine V_iload_n dX12_count_182 rfl ?_
        refine V_bipush (v := nI 100) dX12_count_183 rfl ?_
        refine V_isubN dX12_count_185 (by omega) ?_
        refine V_ialdN (k := k - 100) dX12_count_186 ⟨Nat.le_of_ble_eq_true rfl, Nat.le_of_ble_eq_true rfl⟩ rfl (by decide) (by omega) ?_
        refine V_goto (tgt := 191) dX12_count_187 rfl ?_
        exact V_iret ⟨Or.inl rfl, dX12_count_191⟩ ⟨Nat.le_of_ble_eq_true rfl, Nat.le_of_ble_eq_true rfl⟩ ⟨rfl, congrArg (fun z => some (Value.int z)) ((onN_k (f := (cntS far c0 t z cc m sd xs ys px py (I 95))) (by omega) (by decide)).trans ((if_neg (by omega)).trans ((if_neg (by omega)).trans ((if_neg (by omega)).trans ((if_neg (by omega)).trans ((if_neg (by omega)).trans ((if_neg (by omega)).trans ((if_neg (by omega)).trans ((if_neg (by omega)).trans ((if_neg (by omega)).trans (if_pos (by omega)))))))))))).symm, rfl, rfl⟩
      · skip
        refine V_iload_n dX12_count_0 rfl ?_
        refine V_tsOut (tgt := 80) dX12_count_1 (by rw [nI_toInt (by omega)]; omega) rfl ?_
        refine V_iload_n dX12_count_80 rfl ?_
        refine V_bipush (v := nI 10) dX12_count_81 rfl ?_
        refine V_bipush (v := nI 13) dX12_count_83 rfl ?_
        refine V_callS (As := [.int (nI k), .int (nI 10), .int (nI 13)]) (st := []) dX12_count_85 kX12_in lX12_173 (by decide) rfl rfl (Nat.le_of_ble_eq_true rfl) ⟨Nat.le_of_ble_eq_true rfl, Nat.le_of_ble_eq_true rfl⟩ (w_inN rfl rfl (a := 10) (b := 13) (fun h => by have h1 := (inZ_k (by omega)).mp h; omega)) ?_
        rintro _ _ _ _ ⟨rfl, rfl, rfl, rfl⟩
        refine V_if_eq (tgt := 101) dX12_count_88 rfl (fun _ => ?_) (fun h => absurd h (by decide))
        refine V_iload_n dX12_count_101 rfl ?_
        refine V_bipush (v := nI 20) dX12_count_102 rfl ?_
        refine V_bipush (v := nI 19) dX12_count_104 rfl ?_
        refine V_aload_n dX12_count_106 rfl ?_
        refine V_getI dX12_count_107 fX12_469 ⟨Nat.le_of_ble_eq_true rfl, Nat.le_of_ble_eq_true rfl⟩ rfl rfl ?_
        refine V_eqI (y := nI m) hF.1 ?_
        refine V_iaddN dX12_count_110 ?_
        refine V_callS (As := [.int (nI k), .int (nI 20), .int (nI (19 + m))]) (st := []) dX12_count_111 kX12_in lX12_173 (by decide) rfl rfl (Nat.le_of_ble_eq_true rfl) ⟨Nat.le_of_ble_eq_true rfl, Nat.le_of_ble_eq_true rfl⟩ (w_inN rfl (nI_toInt (by omega)) (a := 20) (b := ((19 + m : Nat) : Int)) (fun h => by have h1 := (inZ_k (by omega)).mp h; omega)) ?_
        rintro _ _ _ _ ⟨rfl, rfl, rfl, rfl⟩
        refine V_if_eq (tgt := 127) dX12_count_114 rfl (fun _ => ?_) (fun h => absurd h (by decide))
        refine V_iload_n dX12_count_127 rfl ?_
        refine V_bipush (v := nI 40) dX12_count_128 rfl ?_
        refine V_bipush (v := nI 39) dX12_count_130 rfl ?_
        refine V_aload_n dX12_count_132 rfl ?_
        refine V_getI dX12_count_133 fX12_469 ⟨Nat.le_of_ble_eq_true rfl, Nat.le_of_ble_eq_true rfl⟩ rfl rfl ?_
        refine V_eqI (y := nI m) hF.1 ?_
        refine V_iaddN dX12_count_136 ?_
        refine V_callS (As := [.int (nI k), .int (nI 40), .int (nI (39 + m))]) (st := []) dX12_count_137 kX12_in lX12_173 (by decide) rfl rfl (Nat.le_of_ble_eq_true rfl) ⟨Nat.le_of_ble_eq_true rfl, Nat.le_of_ble_eq_true rfl⟩ (w_inN rfl (nI_toInt (by omega)) (a := 40) (b := ((39 + m : Nat) : Int)) (fun h => by have h1 := (inZ_k (by omega)).mp h; omega)) ?_
        rintro _ _ _ _ ⟨rfl, rfl, rfl, rfl⟩
        refine V_if_eq (tgt := 166) dX12_count_140 rfl (fun _ => ?_) (fun h => absurd h (by decide))
        refine V_iload_n dX12_count_166 rfl ?_
        refine V_bipush (v := nI 100) dX12_count_167 rfl ?_
        refine V_sipush (v := nI 163) dX12_count_169 rfl ?_
        refine V_callS (As := [.int (nI k), .int (nI 100), .int (nI 163)]) (st := []) dX12_count_172 kX12_in lX12_173 (by decide) rfl rfl (Nat.le_of_ble_eq_true rfl) ⟨Nat.le_of_ble_eq_true rfl, Nat.le_of_ble_eq_true rfl⟩ (w_inN rfl rfl (a := 100) (b := 163) (fun h => by have h1 := (inZ_k (by omega)).mp h; omega)) ?_
        rintro _ _ _ _ ⟨rfl, rfl, rfl, rfl⟩
        refine V_if_eq (tgt := 190) dX12_count_175 rfl (fun _ => ?_) (fun h => absurd h (by decide))
        refine V_iconst (v := (-1)) dX12_count_190 rfl ?_
        exact V_iret ⟨Or.inl rfl, dX12_count_191⟩ ⟨Nat.le_of_ble_eq_true rfl, Nat.le_of_ble_eq_true rfl⟩ ⟨rfl, congrArg (fun z => some (Value.int z)) ((onN_k (f := (cntS far c0 t z cc m sd xs ys px py (I 95))) (by omega) (by decide)).trans ((if_neg (by omega)).trans ((if_neg (by omega)).trans ((if_neg (by omega)).trans ((if_neg (by omega)).trans ((if_neg (by omega)).trans ((if_neg (by omega)).trans ((if_neg (by omega)).trans ((if_neg (by omega)).trans ((if_neg (by omega)).trans (if_neg (by omega)))))))))))).symm, rfl, rfl⟩

set_option maxRecDepth 100000 in
set_option maxHeartbeats 4000000 in
theorem w_isRule {G : zG} {I : zI} {J : zJ} {x : Int32} : zK G mX12_isRule 0 [.int x] zsh I J (zA0 (.int (nI (if inZ x 0 3 then 1 else 0))) I J) := by
  refine zK_of kX12_isRule.2.2.2.2.1 (Nat.le_of_ble_eq_true rfl) ?_
  show V G mX12_isRule 0 _ 0 [(0, .int x)] [] (0, 0) zsh I J
  refine V_iload_n dX12_isRule_0 rfl ?_
  refine V_if_ltZ (tgt := 13) (a := x.toInt) dX12_isRule_1 rfl rfl (fun h1 => ?_) (fun h1 => ?_)
  · skip
    refine V_iconst (v := nI 0) dX12_isRule_13 rfl ?_
    exact V_iret ⟨Or.inr ⟨rfl, Or.inl rfl⟩, dX12_isRule_14⟩ ⟨Nat.le_of_ble_eq_true rfl, Nat.le_of_ble_eq_true rfl⟩ ⟨rfl, by rw [if_neg (by omega)], rfl, rfl⟩
  · skip
    refine V_iload_n dX12_isRule_4 rfl ?_
    refine V_iconst (v := nI 4) dX12_isRule_5 rfl ?_
    refine V_icmp_geZ (tgt := 13) (a := x.toInt) (b := 4) dX12_isRule_6 rfl rfl (by decide) (fun h6 => ?_) (fun h6 => ?_)
    · skip
      refine V_iconst (v := nI 0) dX12_isRule_13 rfl ?_
      exact V_iret ⟨Or.inr ⟨rfl, Or.inl rfl⟩, dX12_isRule_14⟩ ⟨Nat.le_of_ble_eq_true rfl, Nat.le_of_ble_eq_true rfl⟩ ⟨rfl, by rw [if_neg (by omega)], rfl, rfl⟩
    · skip
      refine V_iconst (v := nI 1) dX12_isRule_9 rfl ?_
      refine V_goto (tgt := 14) dX12_isRule_10 rfl ?_
      exact V_iret ⟨Or.inr ⟨rfl, Or.inr rfl⟩, dX12_isRule_14⟩ ⟨Nat.le_of_ble_eq_true rfl, Nat.le_of_ble_eq_true rfl⟩ ⟨rfl, by rw [if_pos (by omega)], rfl, rfl⟩

set_option maxRecDepth 100000 in
set_option maxHeartbeats 4000000 in
theorem w_isTold {G : zG} {I : zI} {J : zJ} {c0 : Nat} {cc : Nat → Nat} (hC : cM I c0 cc) {x : Int32} : zK G mX12_isTold 1 [.ref 62, .int x] zsh I J (zA0 (.int (nI (if tld cc x then 1 else 0))) I J) := by
  refine zK_of kX12_isTold.2.2.2.2.1 (Nat.le_of_ble_eq_true rfl) ?_
  show V G mX12_isTold 1 _ 0 [(0, .ref 62), (1, .int x)] [] (0, 0) zsh I J
  by_cases hR : inZ x 0 3
  · obtain ⟨k, rfl, hk0, hk⟩ := inZ_n hR (by decide)
    have hk4 : k < 4 := by omega
    have hcc := (hC.2.2 k hk4).2
    refine V_iload_n dX12_isTold_0 rfl ?_
    refine V_callS (As := [.int (nI k)]) (st := []) dX12_isTold_1 kX12_isRule lX12_322 (by decide) rfl rfl (Nat.le_of_ble_eq_true rfl) ⟨Nat.le_of_ble_eq_true rfl, Nat.le_of_ble_eq_true rfl⟩ (q_y w_isRule hR) ?_
    rintro _ _ _ _ ⟨rfl, rfl, rfl, rfl⟩
    refine V_if_eq (tgt := 22) dX12_isTold_4 rfl (fun h => absurd h (by decide)) (fun _ => ?_)
    refine V_aload_n dX12_isTold_7 rfl ?_
    refine V_getR (b := 74) dX12_isTold_8 fX12_44 ⟨Nat.le_of_ble_eq_true rfl, Nat.le_of_ble_eq_true rfl⟩ rfl rfl rfl ?_
    refine V_iload_n dX12_isTold_11 rfl ?_
    refine V_iconst (v := nI 1) dX12_isTold_12 rfl ?_
    refine V_iaddN dX12_isTold_13 ?_
    refine V_ialdN (k := k + 1) dX12_isTold_14 ⟨Nat.le_of_ble_eq_true rfl, Nat.le_of_ble_eq_true rfl⟩ rfl (by decide) (by omega) ?_
    refine V_eqI (y := nI (cc k)) (hC.2.2 k hk4).1 ?_
    refine V_if_leN (tgt := 22) dX12_isTold_15 rfl (by omega) (fun h15 => ?_) (fun h15 => ?_)
    · skip
      refine V_iconst (v := nI 0) dX12_isTold_22 rfl ?_
      exact V_iret ⟨Or.inr ⟨rfl, Or.inl rfl⟩, dX12_isTold_23⟩ ⟨Nat.le_of_ble_eq_true rfl, Nat.le_of_ble_eq_true rfl⟩ ⟨rfl, by rw [if_neg (fun h => absurd ((tld_k hk4).mp h) (by omega))], rfl, rfl⟩
    · skip
      refine V_iconst (v := nI 1) dX12_isTold_18 rfl ?_
      refine V_goto (tgt := 23) dX12_isTold_19 rfl ?_
      exact V_iret ⟨Or.inr ⟨rfl, Or.inr rfl⟩, dX12_isTold_23⟩ ⟨Nat.le_of_ble_eq_true rfl, Nat.le_of_ble_eq_true rfl⟩ ⟨rfl, by rw [if_pos ((tld_k hk4).mpr (by omega))], rfl, rfl⟩
  · skip
    refine V_iload_n dX12_isTold_0 rfl ?_
    refine V_callS (As := [.int x]) (st := []) dX12_isTold_1 kX12_isRule lX12_322 (by decide) rfl rfl (Nat.le_of_ble_eq_true rfl) ⟨Nat.le_of_ble_eq_true rfl, Nat.le_of_ble_eq_true rfl⟩ (q_n w_isRule hR) ?_
    rintro _ _ _ _ ⟨rfl, rfl, rfl, rfl⟩
    refine V_if_eq (tgt := 22) dX12_isTold_4 rfl (fun _ => ?_) (fun h => absurd h (by decide))
    refine V_iconst (v := nI 0) dX12_isTold_22 rfl ?_
    exact V_iret ⟨Or.inr ⟨rfl, Or.inl rfl⟩, dX12_isTold_23⟩ ⟨Nat.le_of_ble_eq_true rfl, Nat.le_of_ble_eq_true rfl⟩ ⟨rfl, by rw [if_neg (fun h => hR h.1)], rfl, rfl⟩

set_option maxRecDepth 100000 in
set_option maxHeartbeats 4000000 in
theorem w_isKnown {G : zG} {I : zI} {J : zJ} {c0 : Nat} {cc : Nat → Nat} (hC : cM I c0 cc) {x : Int32} : zK G mX12_isKnown 2 [.ref 62, .int x] zsh I J (zA0 (.int (nI (if ply cc x then 1 else 0))) I J) := by
  refine zK_of kX12_isKnown.2.2.2.2.1 (Nat.le_of_ble_eq_true rfl) ?_
  show V G mX12_isKnown 2 _ 0 [(0, .ref 62), (1, .int x)] [] (0, 0) zsh I J
  refine V_iload_n dX12_isKnown_0 rfl ?_
  refine V_iconst (v := (-1)) dX12_isKnown_1 rfl ?_
  refine V_icmp_eq (tgt := 13) dX12_isKnown_2 rfl (fun h2 => ?_) (fun h2 => ?_)
  · skip
    refine V_iconst (v := nI 1) dX12_isKnown_13 rfl ?_
    refine V_goto (tgt := 18) dX12_isKnown_14 rfl ?_
    exact V_iret ⟨Or.inr ⟨rfl, Or.inr rfl⟩, dX12_isKnown_18⟩ ⟨Nat.le_of_ble_eq_true rfl, Nat.le_of_ble_eq_true rfl⟩ ⟨rfl, by rw [if_pos (Or.inl h2)], rfl, rfl⟩
  · skip
    refine V_aload_n dX12_isKnown_5 rfl ?_
    refine V_iload_n dX12_isKnown_6 rfl ?_
    by_cases ht : tld cc x
    · skip
      refine V_callV (As := [.int x]) (st := []) (a := 62) dX12_isKnown_7 kX12_isTold lX12_401 (by decide) rfl rfl (Nat.le_of_ble_eq_true rfl) ⟨Nat.le_of_ble_eq_true rfl, Nat.le_of_ble_eq_true rfl⟩ ⟨Nat.le_of_ble_eq_true rfl, Nat.le_of_ble_eq_true rfl⟩ rfl ⟨rfl, by decide⟩ (q_y (w_isTold hC) ht) ?_
      rintro _ _ _ _ ⟨rfl, rfl, rfl, rfl⟩
      refine V_if_eq (tgt := 17) dX12_isKnown_10 rfl (fun h => absurd h (by decide)) (fun _ => ?_)
      refine V_iconst (v := nI 1) dX12_isKnown_13 rfl ?_
      refine V_goto (tgt := 18) dX12_isKnown_14 rfl ?_
      exact V_iret ⟨Or.inr ⟨rfl, Or.inr rfl⟩, dX12_isKnown_18⟩ ⟨Nat.le_of_ble_eq_true rfl, Nat.le_of_ble_eq_true rfl⟩ ⟨rfl, by rw [if_pos (Or.inr ht)], rfl, rfl⟩
    · skip
      refine V_callV (As := [.int x]) (st := []) (a := 62) dX12_isKnown_7 kX12_isTold lX12_401 (by decide) rfl rfl (Nat.le_of_ble_eq_true rfl) ⟨Nat.le_of_ble_eq_true rfl, Nat.le_of_ble_eq_true rfl⟩ ⟨Nat.le_of_ble_eq_true rfl, Nat.le_of_ble_eq_true rfl⟩ rfl ⟨rfl, by decide⟩ (q_n (w_isTold hC) ht) ?_
      rintro _ _ _ _ ⟨rfl, rfl, rfl, rfl⟩
      refine V_if_eq (tgt := 17) dX12_isKnown_10 rfl (fun _ => ?_) (fun h => absurd h (by decide))
      refine V_iconst (v := nI 0) dX12_isKnown_17 rfl ?_
      exact V_iret ⟨Or.inr ⟨rfl, Or.inl rfl⟩, dX12_isKnown_18⟩ ⟨Nat.le_of_ble_eq_true rfl, Nat.le_of_ble_eq_true rfl⟩ ⟨rfl, by rw [if_neg (fun h => h.elim h2 ht)], rfl, rfl⟩

theorem stO_b {l : Nat} (hl : l ≤ 1) : stO (nI 30000) (nI 30000) (nI l) = some (55, 55, l) := by
  have h : zpl (nI 30000) = some 55 := by decide +kernel
  unfold stO
  rw [h]
  show (if inZ (nI l) 0 1 then some (55, 55, (nI l).toInt.toNat) else none) = _
  rw [if_pos ((inZ_k (by omega)).mpr (by omega)), nI_toInt (by omega)]
  rfl
set_option maxRecDepth 100000 in
set_option maxHeartbeats 4000000 in
theorem w_begin {G : zG} {I : zI} {J : zJ} (hT : mT I) {f : Nat} (hf : f ≤ 1) : zK G mX12_begin 2 [.ref 62, .int (nI f)] zsh I J (zA0 (.int (nI (stN 55 55 (1 - f)))) I J) := by
  refine zK_of kX12_begin.2.2.2.2.1 (Nat.le_of_ble_eq_true rfl) ?_
  show V G mX12_begin 2 _ 0 [(0, .ref 62), (1, .int (nI f))] [] (0, 0) zsh I J
  refine V_aload_n dX12_begin_0 rfl ?_
  refine V_sipush (v := nI 30000) dX12_begin_1 rfl ?_
  refine V_sipush (v := nI 30000) dX12_begin_4 rfl ?_
  refine V_iconst (v := nI 1) dX12_begin_7 rfl ?_
  refine V_iload_n dX12_begin_8 rfl ?_
  refine V_isubN dX12_begin_9 (by omega) ?_
  refine V_callV (As := [.int (nI 30000), .int (nI 30000), .int (nI (1 - f))]) (st := []) (a := 62) dX12_begin_10 kX12_told lX12_203 (by decide) rfl rfl (Nat.le_of_ble_eq_true rfl) ⟨Nat.le_of_ble_eq_true rfl, Nat.le_of_ble_eq_true rfl⟩ ⟨Nat.le_of_ble_eq_true rfl, Nat.le_of_ble_eq_true rfl⟩ rfl ⟨rfl, by decide⟩ (w_toldS hT (stO_b (by omega))) ?_
  rintro _ _ _ _ ⟨rfl, rfl, rfl, rfl⟩
  exact V_iret ⟨Or.inl rfl, dX12_begin_13⟩ ⟨Nat.le_of_ble_eq_true rfl, Nat.le_of_ble_eq_true rfl⟩ ⟨rfl, rfl, rfl, rfl⟩

set_option maxRecDepth 100000 in
set_option maxHeartbeats 4000000 in
theorem w_draws {G : zG} {I : zI} {J : zJ} {x : Nat} (hx : I 62 6 = nI x) (hx6 : x < 65536) : zK G mX12_draws 0 [.ref 62] zsh I J (zA1 (.int (nI (drw x % 100))) (fun I' J' => I' = zwr I 62 6 (nI (drw x)) ∧ J = J')) := by
  refine zK_of kX12_draws.2.2.2.2.1 (Nat.le_of_ble_eq_true rfl) ?_
  show V G mX12_draws 0 _ 0 [(0, .ref 62)] [] (0, 0) zsh I J
  refine V_aload_n dX12_draws_0 rfl ?_
  refine V_sipush (v := nI 25173) dX12_draws_1 rfl ?_
  refine V_aload_n dX12_draws_4 rfl ?_
  refine V_getI dX12_draws_5 fX12_146 ⟨Nat.le_of_ble_eq_true rfl, Nat.le_of_ble_eq_true rfl⟩ rfl rfl ?_
  refine V_eqI (y := nI x) hx ?_
  refine V_imulN dX12_draws_8 ?_
  refine V_sipush (v := nI 13849) dX12_draws_9 rfl ?_
  refine V_iaddN dX12_draws_12 ?_
  refine V_ldcw dX12_draws_13 qX12_430 ?_
  refine V_eqI (y := nI 65536) rfl ?_
  refine V_iremN dX12_draws_16 (by omega) (by omega) (by omega) ?_
  refine V_eqI (y := nI (drw x)) rfl ?_
  refine V_putW dX12_draws_17 fX12_146 ⟨Nat.le_of_ble_eq_true rfl, Nat.le_of_ble_eq_true rfl⟩ rfl rfl rfl ⟨rfl, rfl⟩ ?_
  refine V_aload_n dX12_draws_20 rfl ?_
  refine V_getI dX12_draws_21 fX12_146 ⟨Nat.le_of_ble_eq_true rfl, Nat.le_of_ble_eq_true rfl⟩ rfl rfl ?_
  refine V_eqI (y := nI (drw x)) rfl ?_
  refine V_bipush (v := nI 100) dX12_draws_24 rfl ?_
  refine V_iremN dX12_draws_26 (by have := @drw_lt x; omega) (by have := @drw_lt x; omega) (by have := @drw_lt x; omega) ?_
  exact V_iret ⟨Or.inl rfl, dX12_draws_27⟩ ⟨Nat.le_of_ble_eq_true rfl, Nat.le_of_ble_eq_true rfl⟩ ⟨rfl, rfl, rfl, rfl⟩

theorem tBest_can {k : Nat} (hk : k < 56) : tBest k < 4 ↔ 0 < tBel (5 * k + 4) := co_dec (P := fun k => tBest k < 4 ↔ 0 < tBel (5 * k + 4)) (N := 56) (by decide +kernel) hk
set_option maxRecDepth 100000 in
set_option maxHeartbeats 4000000 in
theorem w_canShoot {G : zG} {I : zI} {J : zJ} (hT : mT I) {p q l : Nat} (hp : p < 56) (hq : q < 56) (hl : l ≤ 1) {w : Nat} (hw : w ≤ 1) : zK G mX12_canShoot 3 [.ref 62, .int (nI (stN p q l)), .int (nI w)] zsh I J (zA0 (.int (nI (if sCan p q w = true then 1 else 0))) I J) := by
  refine zK_of kX12_canShoot.2.2.2.2.1 (Nat.le_of_ble_eq_true rfl) ?_
  show V G mX12_canShoot 3 _ 0 [(0, .ref 62), (1, .int (nI (stN p q l))), (2, .int (nI w))] [] (0, 0) zsh I J
  have hown : (if w = 0 then p else q) < 56 := by split <;> assumption
  have hoth : (if w = 0 then q else p) < 56 := by split <;> assumption
  have hst := stN_lt hp hq hl
  have hbo := tBest_le hoth
  refine V_aload_n dX12_canShoot_0 rfl ?_
  refine V_iload_n dX12_canShoot_1 rfl ?_
  refine V_iconst (v := nI 1) dX12_canShoot_2 rfl ?_
  refine V_iload_n dX12_canShoot_3 rfl ?_
  refine V_isubN dX12_canShoot_4 (by omega) ?_
  refine V_callS (As := [.int (nI (stN p q l)), .int (nI (1 - w))]) (st := [.ref 62]) dX12_canShoot_5 kX12_standIn lX12_181 (by decide) rfl rfl (Nat.le_of_ble_eq_true rfl) ⟨Nat.le_of_ble_eq_true rfl, Nat.le_of_ble_eq_true rfl⟩ (w_standIn hp hq hl (by omega)) ?_
  rintro _ _ _ _ ⟨rfl, rfl, rfl, rfl⟩
  refine V_eqI (y := nI (if w = 0 then q else p)) (by rcases (show w = 0 ∨ w = 1 by omega) with e | e <;> subst e <;> rfl) ?_
  refine V_callV (As := [.int (nI (if w = 0 then q else p))]) (st := []) (a := 62) dX12_canShoot_8 kX12_bestRing lX12_170 (by decide) rfl rfl (Nat.le_of_ble_eq_true rfl) ⟨Nat.le_of_ble_eq_true rfl, Nat.le_of_ble_eq_true rfl⟩ ⟨Nat.le_of_ble_eq_true rfl, Nat.le_of_ble_eq_true rfl⟩ rfl ⟨rfl, by decide⟩ (w_bestRing hT hoth) ?_
  rintro _ _ _ _ ⟨rfl, rfl, rfl, rfl⟩
  refine V_iconst (v := nI 4) dX12_canShoot_11 rfl ?_
  refine V_icmp_geN (tgt := 19) dX12_canShoot_12 rfl (by omega) (by omega) (fun h12 => ?_) (fun h12 => ?_)
  · skip
    refine V_iconst (v := nI 0) dX12_canShoot_19 rfl ?_
    exact V_iret ⟨Or.inr ⟨rfl, Or.inl rfl⟩, dX12_canShoot_20⟩ ⟨Nat.le_of_ble_eq_true rfl, Nat.le_of_ble_eq_true rfl⟩ ⟨rfl, by unfold sCan; rw [if_neg (fun h => absurd ((tBest_can hoth).mpr (of_decide_eq_true h)) (by omega))], rfl, rfl⟩
  · skip
    refine V_iconst (v := nI 1) dX12_canShoot_15 rfl ?_
    refine V_goto (tgt := 20) dX12_canShoot_16 rfl ?_
    exact V_iret ⟨Or.inr ⟨rfl, Or.inr rfl⟩, dX12_canShoot_20⟩ ⟨Nat.le_of_ble_eq_true rfl, Nat.le_of_ble_eq_true rfl⟩ ⟨rfl, by unfold sCan; rw [if_pos (decide_eq_true ((tBest_can hoth).mp (by omega)))], rfl, rfl⟩

set_option maxRecDepth 100000 in
set_option maxHeartbeats 4000000 in
theorem w_behind {G : zG} {I : zI} {J : zJ} (hT : mT I) {p q l : Nat} (hp : p < 56) (hq : q < 56) (hl : l ≤ 1) {w : Nat} (hw : w ≤ 1) {part : Nat} (hpa : part ≤ 6) (h35 : 35 ≤ (if w = 0 then p else q)) (h45 : part = 4 ∨ part = 5 → tBest (if w = 0 then q else p) < 4) : zK G mX12_behind 3 [.ref 62, .int (nI (stN p q l)), .int (nI w), .int (nI part)] zsh I J (zA0 (.int (nI (stN (if w = 0 then sMine p q w part else sTheir p q w part) (if w = 0 then sTheir p q w part else sMine p q w part) w))) I J) := by
  refine zK_of kX12_behind.2.2.2.2.1 (Nat.le_of_ble_eq_true rfl) ?_
  show V G mX12_behind 3 _ 0 [(0, .ref 62), (1, .int (nI (stN p q l))), (2, .int (nI w)), (3, .int (nI part))] [] (0, 0) zsh I J
  have hown : (if w = 0 then p else q) < 56 := by split <;> assumption
  have hoth : (if w = 0 then q else p) < 56 := by split <;> assumption
  have hst := stN_lt hp hq hl
  have hbo := tBest_le hoth
  have hcs : part < 4 ∨ part = 4 ∨ part = 5 ∨ part = 6 := by omega
  refine V_iload_n dX12_behind_0 rfl ?_
  refine V_iload_n dX12_behind_1 rfl ?_
  refine V_callS (As := [.int (nI (stN p q l)), .int (nI w)]) (st := []) dX12_behind_2 kX12_standIn lX12_181 (by decide) rfl rfl (Nat.le_of_ble_eq_true rfl) ⟨Nat.le_of_ble_eq_true rfl, Nat.le_of_ble_eq_true rfl⟩ (w_standIn hp hq hl (by omega)) ?_
  rintro _ _ _ _ ⟨rfl, rfl, rfl, rfl⟩
  refine V_istore (ls' := [(4, .int (nI (if w = 0 then p else q))), (0, .ref 62), (1, .int (nI (stN p q l))), (2, .int (nI w)), (3, .int (nI part))]) dX12_behind_5 (by decide) rfl ?_
  refine V_iload_n dX12_behind_7 rfl ?_
  refine V_iconst (v := nI 1) dX12_behind_8 rfl ?_
  refine V_iload_n dX12_behind_9 rfl ?_
  refine V_isubN dX12_behind_10 (by omega) ?_
  refine V_callS (As := [.int (nI (stN p q l)), .int (nI (1 - w))]) (st := []) dX12_behind_11 kX12_standIn lX12_181 (by decide) rfl rfl (Nat.le_of_ble_eq_true rfl) ⟨Nat.le_of_ble_eq_true rfl, Nat.le_of_ble_eq_true rfl⟩ (w_standIn hp hq hl (by omega)) ?_
  rintro _ _ _ _ ⟨rfl, rfl, rfl, rfl⟩
  refine V_eqI (y := nI (if w = 0 then q else p)) (by rcases (show w = 0 ∨ w = 1 by omega) with e | e <;> subst e <;> rfl) ?_
  refine V_istore (ls' := [(5, .int (nI (if w = 0 then q else p))), (4, .int (nI (if w = 0 then p else q))), (0, .ref 62), (1, .int (nI (stN p q l))), (2, .int (nI w)), (3, .int (nI part))]) dX12_behind_14 (by decide) rfl ?_
  refine V_iload_n dX12_behind_16 rfl ?_
  refine V_iconst (v := nI 4) dX12_behind_17 rfl ?_
  refine V_icmp_geN (tgt := 25) dX12_behind_18 rfl (by omega) (by omega) (fun h18 => ?_) (fun h18 => ?_)
  · skip
    refine V_iload_n dX12_behind_25 rfl ?_
    refine V_iconst (v := nI 4) dX12_behind_26 rfl ?_
    refine V_icmp_neN (tgt := 39) dX12_behind_27 rfl (by omega) (by omega) (fun h27 => ?_) (fun h27 => ?_)
    · skip
      refine V_iconst (v := nI 4) dX12_behind_39 rfl ?_
      refine V_istore (ls' := [(6, .int (nI 4)), (5, .int (nI (if w = 0 then q else p))), (4, .int (nI (if w = 0 then p else q))), (0, .ref 62), (1, .int (nI (stN p q l))), (2, .int (nI w)), (3, .int (nI part))]) dX12_behind_40 (by decide) rfl ?_
      refine V_aload_n dX12_behind_42 rfl ?_
      refine V_getR (b := 64) dX12_behind_43 fX12_13 ⟨Nat.le_of_ble_eq_true rfl, Nat.le_of_ble_eq_true rfl⟩ rfl rfl rfl ?_
      refine V_iconst (v := nI 5) dX12_behind_46 rfl ?_
      refine V_iload dX12_behind_47 rfl ?_
      refine V_imulN dX12_behind_49 ?_
      refine V_iload dX12_behind_50 rfl ?_
      refine V_iaddN dX12_behind_52 ?_
      refine V_ialdN (k := (5 * (if w = 0 then p else q)) + 4) dX12_behind_53 ⟨Nat.le_of_ble_eq_true rfl, Nat.le_of_ble_eq_true rfl⟩ rfl (by decide) (by omega) ?_
      refine V_eqI (y := nI (tThr ((5 * (if w = 0 then p else q)) + 4))) (hT.2.1 _ _ h35 hown (by omega)) ?_
      refine V_istore (ls' := [(7, .int (nI (tThr ((5 * (if w = 0 then p else q)) + 4)))), (6, .int (nI 4)), (5, .int (nI (if w = 0 then q else p))), (4, .int (nI (if w = 0 then p else q))), (0, .ref 62), (1, .int (nI (stN p q l))), (2, .int (nI w)), (3, .int (nI part))]) dX12_behind_54 (by decide) rfl ?_
      refine V_iload_n dX12_behind_56 rfl ?_
      refine V_iconst (v := nI 4) dX12_behind_57 rfl ?_
      refine V_icmp_eqN (tgt := 66) dX12_behind_58 rfl (by omega) (by omega) (fun h58 => ?_) (fun h58 => ?_)
      · skip
        refine V_aload_n dX12_behind_66 rfl ?_
        refine V_getR (b := 65) dX12_behind_67 fX12_16 ⟨Nat.le_of_ble_eq_true rfl, Nat.le_of_ble_eq_true rfl⟩ rfl rfl rfl ?_
        refine V_iload dX12_behind_70 rfl ?_
        refine V_ialdN (k := if w = 0 then q else p) dX12_behind_72 ⟨Nat.le_of_ble_eq_true rfl, Nat.le_of_ble_eq_true rfl⟩ rfl (by decide) (by omega) ?_
        refine V_eqI (y := nI (tWo (if w = 0 then q else p))) (hT.2.2 _ hoth (h45 (by omega))) ?_
        refine V_goto (tgt := 78) dX12_behind_73 rfl ?_
        refine V_istore (ls' := [(8, .int (nI (tWo (if w = 0 then q else p)))), (7, .int (nI (tThr ((5 * (if w = 0 then p else q)) + 4)))), (6, .int (nI 4)), (5, .int (nI (if w = 0 then q else p))), (4, .int (nI (if w = 0 then p else q))), (0, .ref 62), (1, .int (nI (stN p q l))), (2, .int (nI w)), (3, .int (nI part))]) dX12_behind_78 (by decide) rfl ?_
        refine V_iload_n dX12_behind_80 rfl ?_
        refine V_if_neN (tgt := 95) dX12_behind_81 rfl (by omega) (fun h81 => ?_) (fun h81 => ?_)
        · skip
          refine V_iload dX12_behind_95 rfl ?_
          refine V_iload dX12_behind_97 rfl ?_
          refine V_iconst (v := nI 1) dX12_behind_99 rfl ?_
          refine V_callS (As := [.int (nI (tWo (if w = 0 then q else p))), .int (nI (tThr ((5 * (if w = 0 then p else q)) + 4))), .int (nI 1)]) (st := []) dX12_behind_100 kX12_stateOf lX12_199 (by decide) rfl rfl (Nat.le_of_ble_eq_true rfl) ⟨Nat.le_of_ble_eq_true rfl, Nat.le_of_ble_eq_true rfl⟩ w_stateOf ?_
          rintro _ _ _ _ ⟨rfl, rfl, rfl, rfl⟩
          exact V_iret ⟨Or.inl rfl, dX12_behind_103⟩ ⟨Nat.le_of_ble_eq_true rfl, Nat.le_of_ble_eq_true rfl⟩ ⟨rfl, congrArg (fun z => some (Value.int (nI z))) (by unfold sMine sTheir sRing; rcases (show w = 0 ∨ w = 1 by omega) with e | e <;> subst e <;> (repeat' split) <;> first | rfl | (exfalso; omega) | (exfalso; simp_all; done) | (exfalso; simp_all; omega)), rfl, rfl⟩
        · skip
          refine V_iload dX12_behind_84 rfl ?_
          refine V_iload dX12_behind_86 rfl ?_
          refine V_iconst (v := nI 0) dX12_behind_88 rfl ?_
          refine V_callS (As := [.int (nI (tThr ((5 * (if w = 0 then p else q)) + 4))), .int (nI (tWo (if w = 0 then q else p))), .int (nI 0)]) (st := []) dX12_behind_89 kX12_stateOf lX12_199 (by decide) rfl rfl (Nat.le_of_ble_eq_true rfl) ⟨Nat.le_of_ble_eq_true rfl, Nat.le_of_ble_eq_true rfl⟩ w_stateOf ?_
          rintro _ _ _ _ ⟨rfl, rfl, rfl, rfl⟩
          refine V_goto (tgt := 103) dX12_behind_92 rfl ?_
          exact V_iret ⟨Or.inl rfl, dX12_behind_103⟩ ⟨Nat.le_of_ble_eq_true rfl, Nat.le_of_ble_eq_true rfl⟩ ⟨rfl, congrArg (fun z => some (Value.int (nI z))) (by unfold sMine sTheir sRing; rcases (show w = 0 ∨ w = 1 by omega) with e | e <;> subst e <;> (repeat' split) <;> first | rfl | (exfalso; omega) | (exfalso; simp_all; done) | (exfalso; simp_all; omega)), rfl, rfl⟩
      · skip
        refine V_iload_n dX12_behind_61 rfl ?_
        refine V_iconst (v := nI 5) dX12_behind_62 rfl ?_
        refine V_icmp_neN (tgt := 76) dX12_behind_63 rfl (by omega) (by omega) (fun h63 => ?_) (fun h63 => ?_)
        · skip
          refine V_iload dX12_behind_76 rfl ?_
          refine V_istore (ls' := [(8, .int (nI (if w = 0 then q else p))), (7, .int (nI (tThr ((5 * (if w = 0 then p else q)) + 4)))), (6, .int (nI 4)), (5, .int (nI (if w = 0 then q else p))), (4, .int (nI (if w = 0 then p else q))), (0, .ref 62), (1, .int (nI (stN p q l))), (2, .int (nI w)), (3, .int (nI part))]) dX12_behind_78 (by decide) rfl ?_
          refine V_iload_n dX12_behind_80 rfl ?_
          refine V_if_neN (tgt := 95) dX12_behind_81 rfl (by omega) (fun h81 => ?_) (fun h81 => ?_)
          · skip
            refine V_iload dX12_behind_95 rfl ?_
            refine V_iload dX12_behind_97 rfl ?_
            refine V_iconst (v := nI 1) dX12_behind_99 rfl ?_
            refine V_callS (As := [.int (nI (if w = 0 then q else p)), .int (nI (tThr ((5 * (if w = 0 then p else q)) + 4))), .int (nI 1)]) (st := []) dX12_behind_100 kX12_stateOf lX12_199 (by decide) rfl rfl (Nat.le_of_ble_eq_true rfl) ⟨Nat.le_of_ble_eq_true rfl, Nat.le_of_ble_eq_true rfl⟩ w_stateOf ?_
            rintro _ _ _ _ ⟨rfl, rfl, rfl, rfl⟩
            exact V_iret ⟨Or.inl rfl, dX12_behind_103⟩ ⟨Nat.le_of_ble_eq_true rfl, Nat.le_of_ble_eq_true rfl⟩ ⟨rfl, congrArg (fun z => some (Value.int (nI z))) (by unfold sMine sTheir sRing; rcases (show w = 0 ∨ w = 1 by omega) with e | e <;> subst e <;> (repeat' split) <;> first | rfl | (exfalso; omega) | (exfalso; simp_all; done) | (exfalso; simp_all; omega)), rfl, rfl⟩
          · skip
            refine V_iload dX12_behind_84 rfl ?_
            refine V_iload dX12_behind_86 rfl ?_
            refine V_iconst (v := nI 0) dX12_behind_88 rfl ?_
            refine V_callS (As := [.int (nI (tThr ((5 * (if w = 0 then p else q)) + 4))), .int (nI (if w = 0 then q else p)), .int (nI 0)]) (st := []) dX12_behind_89 kX12_stateOf lX12_199 (by decide) rfl rfl (Nat.le_of_ble_eq_true rfl) ⟨Nat.le_of_ble_eq_true rfl, Nat.le_of_ble_eq_true rfl⟩ w_stateOf ?_
            rintro _ _ _ _ ⟨rfl, rfl, rfl, rfl⟩
            refine V_goto (tgt := 103) dX12_behind_92 rfl ?_
            exact V_iret ⟨Or.inl rfl, dX12_behind_103⟩ ⟨Nat.le_of_ble_eq_true rfl, Nat.le_of_ble_eq_true rfl⟩ ⟨rfl, congrArg (fun z => some (Value.int (nI z))) (by unfold sMine sTheir sRing; rcases (show w = 0 ∨ w = 1 by omega) with e | e <;> subst e <;> (repeat' split) <;> first | rfl | (exfalso; omega) | (exfalso; simp_all; done) | (exfalso; simp_all; omega)), rfl, rfl⟩
        · skip
          refine V_aload_n dX12_behind_66 rfl ?_
          refine V_getR (b := 65) dX12_behind_67 fX12_16 ⟨Nat.le_of_ble_eq_true rfl, Nat.le_of_ble_eq_true rfl⟩ rfl rfl rfl ?_
          refine V_iload dX12_behind_70 rfl ?_
          refine V_ialdN (k := if w = 0 then q else p) dX12_behind_72 ⟨Nat.le_of_ble_eq_true rfl, Nat.le_of_ble_eq_true rfl⟩ rfl (by decide) (by omega) ?_
          refine V_eqI (y := nI (tWo (if w = 0 then q else p))) (hT.2.2 _ hoth (h45 (by omega))) ?_
          refine V_goto (tgt := 78) dX12_behind_73 rfl ?_
          refine V_istore (ls' := [(8, .int (nI (tWo (if w = 0 then q else p)))), (7, .int (nI (tThr ((5 * (if w = 0 then p else q)) + 4)))), (6, .int (nI 4)), (5, .int (nI (if w = 0 then q else p))), (4, .int (nI (if w = 0 then p else q))), (0, .ref 62), (1, .int (nI (stN p q l))), (2, .int (nI w)), (3, .int (nI part))]) dX12_behind_78 (by decide) rfl ?_
          refine V_iload_n dX12_behind_80 rfl ?_
          refine V_if_neN (tgt := 95) dX12_behind_81 rfl (by omega) (fun h81 => ?_) (fun h81 => ?_)
          · skip
            refine V_iload dX12_behind_95 rfl ?_
            refine V_iload dX12_behind_97 rfl ?_
            refine V_iconst (v := nI 1) dX12_behind_99 rfl ?_
            refine V_callS (As := [.int (nI (tWo (if w = 0 then q else p))), .int (nI (tThr ((5 * (if w = 0 then p else q)) + 4))), .int (nI 1)]) (st := []) dX12_behind_100 kX12_stateOf lX12_199 (by decide) rfl rfl (Nat.le_of_ble_eq_true rfl) ⟨Nat.le_of_ble_eq_true rfl, Nat.le_of_ble_eq_true rfl⟩ w_stateOf ?_
            rintro _ _ _ _ ⟨rfl, rfl, rfl, rfl⟩
            exact V_iret ⟨Or.inl rfl, dX12_behind_103⟩ ⟨Nat.le_of_ble_eq_true rfl, Nat.le_of_ble_eq_true rfl⟩ ⟨rfl, congrArg (fun z => some (Value.int (nI z))) (by unfold sMine sTheir sRing; rcases (show w = 0 ∨ w = 1 by omega) with e | e <;> subst e <;> (repeat' split) <;> first | rfl | (exfalso; omega) | (exfalso; simp_all; done) | (exfalso; simp_all; omega)), rfl, rfl⟩
          · skip
            refine V_iload dX12_behind_84 rfl ?_
            refine V_iload dX12_behind_86 rfl ?_
            refine V_iconst (v := nI 0) dX12_behind_88 rfl ?_
            refine V_callS (As := [.int (nI (tThr ((5 * (if w = 0 then p else q)) + 4))), .int (nI (tWo (if w = 0 then q else p))), .int (nI 0)]) (st := []) dX12_behind_89 kX12_stateOf lX12_199 (by decide) rfl rfl (Nat.le_of_ble_eq_true rfl) ⟨Nat.le_of_ble_eq_true rfl, Nat.le_of_ble_eq_true rfl⟩ w_stateOf ?_
            rintro _ _ _ _ ⟨rfl, rfl, rfl, rfl⟩
            refine V_goto (tgt := 103) dX12_behind_92 rfl ?_
            exact V_iret ⟨Or.inl rfl, dX12_behind_103⟩ ⟨Nat.le_of_ble_eq_true rfl, Nat.le_of_ble_eq_true rfl⟩ ⟨rfl, congrArg (fun z => some (Value.int (nI z))) (by unfold sMine sTheir sRing; rcases (show w = 0 ∨ w = 1 by omega) with e | e <;> subst e <;> (repeat' split) <;> first | rfl | (exfalso; omega) | (exfalso; simp_all; done) | (exfalso; simp_all; omega)), rfl, rfl⟩
    · skip
      refine V_aload_n dX12_behind_30 rfl ?_
      refine V_iload dX12_behind_31 rfl ?_
      refine V_callV (As := [.int (nI (if w = 0 then q else p))]) (st := []) (a := 62) dX12_behind_33 kX12_bestRing lX12_170 (by decide) rfl rfl (Nat.le_of_ble_eq_true rfl) ⟨Nat.le_of_ble_eq_true rfl, Nat.le_of_ble_eq_true rfl⟩ ⟨Nat.le_of_ble_eq_true rfl, Nat.le_of_ble_eq_true rfl⟩ rfl ⟨rfl, by decide⟩ (w_bestRing hT hoth) ?_
      rintro _ _ _ _ ⟨rfl, rfl, rfl, rfl⟩
      refine V_goto (tgt := 40) dX12_behind_36 rfl ?_
      refine V_istore (ls' := [(6, .int (nI (tBest (if w = 0 then q else p)))), (5, .int (nI (if w = 0 then q else p))), (4, .int (nI (if w = 0 then p else q))), (0, .ref 62), (1, .int (nI (stN p q l))), (2, .int (nI w)), (3, .int (nI part))]) dX12_behind_40 (by decide) rfl ?_
      refine V_aload_n dX12_behind_42 rfl ?_
      refine V_getR (b := 64) dX12_behind_43 fX12_13 ⟨Nat.le_of_ble_eq_true rfl, Nat.le_of_ble_eq_true rfl⟩ rfl rfl rfl ?_
      refine V_iconst (v := nI 5) dX12_behind_46 rfl ?_
      refine V_iload dX12_behind_47 rfl ?_
      refine V_imulN dX12_behind_49 ?_
      refine V_iload dX12_behind_50 rfl ?_
      refine V_iaddN dX12_behind_52 ?_
      refine V_ialdN (k := (5 * (if w = 0 then p else q)) + (tBest (if w = 0 then q else p))) dX12_behind_53 ⟨Nat.le_of_ble_eq_true rfl, Nat.le_of_ble_eq_true rfl⟩ rfl (by decide) (by omega) ?_
      refine V_eqI (y := nI (tThr ((5 * (if w = 0 then p else q)) + (tBest (if w = 0 then q else p))))) (hT.2.1 _ _ h35 hown (by omega)) ?_
      refine V_istore (ls' := [(7, .int (nI (tThr ((5 * (if w = 0 then p else q)) + (tBest (if w = 0 then q else p)))))), (6, .int (nI (tBest (if w = 0 then q else p)))), (5, .int (nI (if w = 0 then q else p))), (4, .int (nI (if w = 0 then p else q))), (0, .ref 62), (1, .int (nI (stN p q l))), (2, .int (nI w)), (3, .int (nI part))]) dX12_behind_54 (by decide) rfl ?_
      refine V_iload_n dX12_behind_56 rfl ?_
      refine V_iconst (v := nI 4) dX12_behind_57 rfl ?_
      refine V_icmp_eqN (tgt := 66) dX12_behind_58 rfl (by omega) (by omega) (fun h58 => ?_) (fun h58 => ?_)
      · skip
        refine V_aload_n dX12_behind_66 rfl ?_
        refine V_getR (b := 65) dX12_behind_67 fX12_16 ⟨Nat.le_of_ble_eq_true rfl, Nat.le_of_ble_eq_true rfl⟩ rfl rfl rfl ?_
        refine V_iload dX12_behind_70 rfl ?_
        refine V_ialdN (k := if w = 0 then q else p) dX12_behind_72 ⟨Nat.le_of_ble_eq_true rfl, Nat.le_of_ble_eq_true rfl⟩ rfl (by decide) (by omega) ?_
        refine V_eqI (y := nI (tWo (if w = 0 then q else p))) (hT.2.2 _ hoth (h45 (by omega))) ?_
        refine V_goto (tgt := 78) dX12_behind_73 rfl ?_
        refine V_istore (ls' := [(8, .int (nI (tWo (if w = 0 then q else p)))), (7, .int (nI (tThr ((5 * (if w = 0 then p else q)) + (tBest (if w = 0 then q else p)))))), (6, .int (nI (tBest (if w = 0 then q else p)))), (5, .int (nI (if w = 0 then q else p))), (4, .int (nI (if w = 0 then p else q))), (0, .ref 62), (1, .int (nI (stN p q l))), (2, .int (nI w)), (3, .int (nI part))]) dX12_behind_78 (by decide) rfl ?_
        refine V_iload_n dX12_behind_80 rfl ?_
        refine V_if_neN (tgt := 95) dX12_behind_81 rfl (by omega) (fun h81 => ?_) (fun h81 => ?_)
        · skip
          refine V_iload dX12_behind_95 rfl ?_
          refine V_iload dX12_behind_97 rfl ?_
          refine V_iconst (v := nI 1) dX12_behind_99 rfl ?_
          refine V_callS (As := [.int (nI (tWo (if w = 0 then q else p))), .int (nI (tThr ((5 * (if w = 0 then p else q)) + (tBest (if w = 0 then q else p))))), .int (nI 1)]) (st := []) dX12_behind_100 kX12_stateOf lX12_199 (by decide) rfl rfl (Nat.le_of_ble_eq_true rfl) ⟨Nat.le_of_ble_eq_true rfl, Nat.le_of_ble_eq_true rfl⟩ w_stateOf ?_
          rintro _ _ _ _ ⟨rfl, rfl, rfl, rfl⟩
          exact V_iret ⟨Or.inl rfl, dX12_behind_103⟩ ⟨Nat.le_of_ble_eq_true rfl, Nat.le_of_ble_eq_true rfl⟩ ⟨rfl, congrArg (fun z => some (Value.int (nI z))) (by unfold sMine sTheir sRing; rcases (show w = 0 ∨ w = 1 by omega) with e | e <;> subst e <;> (repeat' split) <;> first | rfl | (exfalso; omega) | (exfalso; simp_all; done) | (exfalso; simp_all; omega)), rfl, rfl⟩
        · skip
          refine V_iload dX12_behind_84 rfl ?_
          refine V_iload dX12_behind_86 rfl ?_
          refine V_iconst (v := nI 0) dX12_behind_88 rfl ?_
          refine V_callS (As := [.int (nI (tThr ((5 * (if w = 0 then p else q)) + (tBest (if w = 0 then q else p))))), .int (nI (tWo (if w = 0 then q else p))), .int (nI 0)]) (st := []) dX12_behind_89 kX12_stateOf lX12_199 (by decide) rfl rfl (Nat.le_of_ble_eq_true rfl) ⟨Nat.le_of_ble_eq_true rfl, Nat.le_of_ble_eq_true rfl⟩ w_stateOf ?_
          rintro _ _ _ _ ⟨rfl, rfl, rfl, rfl⟩
          refine V_goto (tgt := 103) dX12_behind_92 rfl ?_
          exact V_iret ⟨Or.inl rfl, dX12_behind_103⟩ ⟨Nat.le_of_ble_eq_true rfl, Nat.le_of_ble_eq_true rfl⟩ ⟨rfl, congrArg (fun z => some (Value.int (nI z))) (by unfold sMine sTheir sRing; rcases (show w = 0 ∨ w = 1 by omega) with e | e <;> subst e <;> (repeat' split) <;> first | rfl | (exfalso; omega) | (exfalso; simp_all; done) | (exfalso; simp_all; omega)), rfl, rfl⟩
      · skip
        refine V_iload_n dX12_behind_61 rfl ?_
        refine V_iconst (v := nI 5) dX12_behind_62 rfl ?_
        refine V_icmp_neN (tgt := 76) dX12_behind_63 rfl (by omega) (by omega) (fun h63 => ?_) (fun h63 => ?_)
        · skip
          refine V_iload dX12_behind_76 rfl ?_
          refine V_istore (ls' := [(8, .int (nI (if w = 0 then q else p))), (7, .int (nI (tThr ((5 * (if w = 0 then p else q)) + (tBest (if w = 0 then q else p)))))), (6, .int (nI (tBest (if w = 0 then q else p)))), (5, .int (nI (if w = 0 then q else p))), (4, .int (nI (if w = 0 then p else q))), (0, .ref 62), (1, .int (nI (stN p q l))), (2, .int (nI w)), (3, .int (nI part))]) dX12_behind_78 (by decide) rfl ?_
          refine V_iload_n dX12_behind_80 rfl ?_
          refine V_if_neN (tgt := 95) dX12_behind_81 rfl (by omega) (fun h81 => ?_) (fun h81 => ?_)
          · skip
            refine V_iload dX12_behind_95 rfl ?_
            refine V_iload dX12_behind_97 rfl ?_
            refine V_iconst (v := nI 1) dX12_behind_99 rfl ?_
            refine V_callS (As := [.int (nI (if w = 0 then q else p)), .int (nI (tThr ((5 * (if w = 0 then p else q)) + (tBest (if w = 0 then q else p))))), .int (nI 1)]) (st := []) dX12_behind_100 kX12_stateOf lX12_199 (by decide) rfl rfl (Nat.le_of_ble_eq_true rfl) ⟨Nat.le_of_ble_eq_true rfl, Nat.le_of_ble_eq_true rfl⟩ w_stateOf ?_
            rintro _ _ _ _ ⟨rfl, rfl, rfl, rfl⟩
            exact V_iret ⟨Or.inl rfl, dX12_behind_103⟩ ⟨Nat.le_of_ble_eq_true rfl, Nat.le_of_ble_eq_true rfl⟩ ⟨rfl, congrArg (fun z => some (Value.int (nI z))) (by unfold sMine sTheir sRing; rcases (show w = 0 ∨ w = 1 by omega) with e | e <;> subst e <;> (repeat' split) <;> first | rfl | (exfalso; omega) | (exfalso; simp_all; done) | (exfalso; simp_all; omega)), rfl, rfl⟩
          · skip
            refine V_iload dX12_behind_84 rfl ?_
            refine V_iload dX12_behind_86 rfl ?_
            refine V_iconst (v := nI 0) dX12_behind_88 rfl ?_
            refine V_callS (As := [.int (nI (tThr ((5 * (if w = 0 then p else q)) + (tBest (if w = 0 then q else p))))), .int (nI (if w = 0 then q else p)), .int (nI 0)]) (st := []) dX12_behind_89 kX12_stateOf lX12_199 (by decide) rfl rfl (Nat.le_of_ble_eq_true rfl) ⟨Nat.le_of_ble_eq_true rfl, Nat.le_of_ble_eq_true rfl⟩ w_stateOf ?_
            rintro _ _ _ _ ⟨rfl, rfl, rfl, rfl⟩
            refine V_goto (tgt := 103) dX12_behind_92 rfl ?_
            exact V_iret ⟨Or.inl rfl, dX12_behind_103⟩ ⟨Nat.le_of_ble_eq_true rfl, Nat.le_of_ble_eq_true rfl⟩ ⟨rfl, congrArg (fun z => some (Value.int (nI z))) (by unfold sMine sTheir sRing; rcases (show w = 0 ∨ w = 1 by omega) with e | e <;> subst e <;> (repeat' split) <;> first | rfl | (exfalso; omega) | (exfalso; simp_all; done) | (exfalso; simp_all; omega)), rfl, rfl⟩
        · skip
          refine V_aload_n dX12_behind_66 rfl ?_
          refine V_getR (b := 65) dX12_behind_67 fX12_16 ⟨Nat.le_of_ble_eq_true rfl, Nat.le_of_ble_eq_true rfl⟩ rfl rfl rfl ?_
          refine V_iload dX12_behind_70 rfl ?_
          refine V_ialdN (k := if w = 0 then q else p) dX12_behind_72 ⟨Nat.le_of_ble_eq_true rfl, Nat.le_of_ble_eq_true rfl⟩ rfl (by decide) (by omega) ?_
          refine V_eqI (y := nI (tWo (if w = 0 then q else p))) (hT.2.2 _ hoth (h45 (by omega))) ?_
          refine V_goto (tgt := 78) dX12_behind_73 rfl ?_
          refine V_istore (ls' := [(8, .int (nI (tWo (if w = 0 then q else p)))), (7, .int (nI (tThr ((5 * (if w = 0 then p else q)) + (tBest (if w = 0 then q else p)))))), (6, .int (nI (tBest (if w = 0 then q else p)))), (5, .int (nI (if w = 0 then q else p))), (4, .int (nI (if w = 0 then p else q))), (0, .ref 62), (1, .int (nI (stN p q l))), (2, .int (nI w)), (3, .int (nI part))]) dX12_behind_78 (by decide) rfl ?_
          refine V_iload_n dX12_behind_80 rfl ?_
          refine V_if_neN (tgt := 95) dX12_behind_81 rfl (by omega) (fun h81 => ?_) (fun h81 => ?_)
          · skip
            refine V_iload dX12_behind_95 rfl ?_
            refine V_iload dX12_behind_97 rfl ?_
            refine V_iconst (v := nI 1) dX12_behind_99 rfl ?_
            refine V_callS (As := [.int (nI (tWo (if w = 0 then q else p))), .int (nI (tThr ((5 * (if w = 0 then p else q)) + (tBest (if w = 0 then q else p))))), .int (nI 1)]) (st := []) dX12_behind_100 kX12_stateOf lX12_199 (by decide) rfl rfl (Nat.le_of_ble_eq_true rfl) ⟨Nat.le_of_ble_eq_true rfl, Nat.le_of_ble_eq_true rfl⟩ w_stateOf ?_
            rintro _ _ _ _ ⟨rfl, rfl, rfl, rfl⟩
            exact V_iret ⟨Or.inl rfl, dX12_behind_103⟩ ⟨Nat.le_of_ble_eq_true rfl, Nat.le_of_ble_eq_true rfl⟩ ⟨rfl, congrArg (fun z => some (Value.int (nI z))) (by unfold sMine sTheir sRing; rcases (show w = 0 ∨ w = 1 by omega) with e | e <;> subst e <;> (repeat' split) <;> first | rfl | (exfalso; omega) | (exfalso; simp_all; done) | (exfalso; simp_all; omega)), rfl, rfl⟩
          · skip
            refine V_iload dX12_behind_84 rfl ?_
            refine V_iload dX12_behind_86 rfl ?_
            refine V_iconst (v := nI 0) dX12_behind_88 rfl ?_
            refine V_callS (As := [.int (nI (tThr ((5 * (if w = 0 then p else q)) + (tBest (if w = 0 then q else p))))), .int (nI (tWo (if w = 0 then q else p))), .int (nI 0)]) (st := []) dX12_behind_89 kX12_stateOf lX12_199 (by decide) rfl rfl (Nat.le_of_ble_eq_true rfl) ⟨Nat.le_of_ble_eq_true rfl, Nat.le_of_ble_eq_true rfl⟩ w_stateOf ?_
            rintro _ _ _ _ ⟨rfl, rfl, rfl, rfl⟩
            refine V_goto (tgt := 103) dX12_behind_92 rfl ?_
            exact V_iret ⟨Or.inl rfl, dX12_behind_103⟩ ⟨Nat.le_of_ble_eq_true rfl, Nat.le_of_ble_eq_true rfl⟩ ⟨rfl, congrArg (fun z => some (Value.int (nI z))) (by unfold sMine sTheir sRing; rcases (show w = 0 ∨ w = 1 by omega) with e | e <;> subst e <;> (repeat' split) <;> first | rfl | (exfalso; omega) | (exfalso; simp_all; done) | (exfalso; simp_all; omega)), rfl, rfl⟩
  · skip
    refine V_iload_n dX12_behind_21 rfl ?_
    refine V_goto (tgt := 40) dX12_behind_22 rfl ?_
    refine V_istore (ls' := [(6, .int (nI part)), (5, .int (nI (if w = 0 then q else p))), (4, .int (nI (if w = 0 then p else q))), (0, .ref 62), (1, .int (nI (stN p q l))), (2, .int (nI w)), (3, .int (nI part))]) dX12_behind_40 (by decide) rfl ?_
    refine V_aload_n dX12_behind_42 rfl ?_
    refine V_getR (b := 64) dX12_behind_43 fX12_13 ⟨Nat.le_of_ble_eq_true rfl, Nat.le_of_ble_eq_true rfl⟩ rfl rfl rfl ?_
    refine V_iconst (v := nI 5) dX12_behind_46 rfl ?_
    refine V_iload dX12_behind_47 rfl ?_
    refine V_imulN dX12_behind_49 ?_
    refine V_iload dX12_behind_50 rfl ?_
    refine V_iaddN dX12_behind_52 ?_
    refine V_ialdN (k := (5 * (if w = 0 then p else q)) + part) dX12_behind_53 ⟨Nat.le_of_ble_eq_true rfl, Nat.le_of_ble_eq_true rfl⟩ rfl (by decide) (by omega) ?_
    refine V_eqI (y := nI (tThr ((5 * (if w = 0 then p else q)) + part))) (hT.2.1 _ _ h35 hown (by omega)) ?_
    refine V_istore (ls' := [(7, .int (nI (tThr ((5 * (if w = 0 then p else q)) + part)))), (6, .int (nI part)), (5, .int (nI (if w = 0 then q else p))), (4, .int (nI (if w = 0 then p else q))), (0, .ref 62), (1, .int (nI (stN p q l))), (2, .int (nI w)), (3, .int (nI part))]) dX12_behind_54 (by decide) rfl ?_
    refine V_iload_n dX12_behind_56 rfl ?_
    refine V_iconst (v := nI 4) dX12_behind_57 rfl ?_
    refine V_icmp_eqN (tgt := 66) dX12_behind_58 rfl (by omega) (by omega) (fun h58 => ?_) (fun h58 => ?_)
    · skip
      refine V_aload_n dX12_behind_66 rfl ?_
      refine V_getR (b := 65) dX12_behind_67 fX12_16 ⟨Nat.le_of_ble_eq_true rfl, Nat.le_of_ble_eq_true rfl⟩ rfl rfl rfl ?_
      refine V_iload dX12_behind_70 rfl ?_
      refine V_ialdN (k := if w = 0 then q else p) dX12_behind_72 ⟨Nat.le_of_ble_eq_true rfl, Nat.le_of_ble_eq_true rfl⟩ rfl (by decide) (by omega) ?_
      refine V_eqI (y := nI (tWo (if w = 0 then q else p))) (hT.2.2 _ hoth (h45 (by omega))) ?_
      refine V_goto (tgt := 78) dX12_behind_73 rfl ?_
      refine V_istore (ls' := [(8, .int (nI (tWo (if w = 0 then q else p)))), (7, .int (nI (tThr ((5 * (if w = 0 then p else q)) + part)))), (6, .int (nI part)), (5, .int (nI (if w = 0 then q else p))), (4, .int (nI (if w = 0 then p else q))), (0, .ref 62), (1, .int (nI (stN p q l))), (2, .int (nI w)), (3, .int (nI part))]) dX12_behind_78 (by decide) rfl ?_
      refine V_iload_n dX12_behind_80 rfl ?_
      refine V_if_neN (tgt := 95) dX12_behind_81 rfl (by omega) (fun h81 => ?_) (fun h81 => ?_)
      · skip
        refine V_iload dX12_behind_95 rfl ?_
        refine V_iload dX12_behind_97 rfl ?_
        refine V_iconst (v := nI 1) dX12_behind_99 rfl ?_
        refine V_callS (As := [.int (nI (tWo (if w = 0 then q else p))), .int (nI (tThr ((5 * (if w = 0 then p else q)) + part))), .int (nI 1)]) (st := []) dX12_behind_100 kX12_stateOf lX12_199 (by decide) rfl rfl (Nat.le_of_ble_eq_true rfl) ⟨Nat.le_of_ble_eq_true rfl, Nat.le_of_ble_eq_true rfl⟩ w_stateOf ?_
        rintro _ _ _ _ ⟨rfl, rfl, rfl, rfl⟩
        exact V_iret ⟨Or.inl rfl, dX12_behind_103⟩ ⟨Nat.le_of_ble_eq_true rfl, Nat.le_of_ble_eq_true rfl⟩ ⟨rfl, congrArg (fun z => some (Value.int (nI z))) (by unfold sMine sTheir sRing; rcases (show w = 0 ∨ w = 1 by omega) with e | e <;> subst e <;> (repeat' split) <;> first | rfl | (exfalso; omega) | (exfalso; simp_all; done) | (exfalso; simp_all; omega)), rfl, rfl⟩
      · skip
        refine V_iload dX12_behind_84 rfl ?_
        refine V_iload dX12_behind_86 rfl ?_
        refine V_iconst (v := nI 0) dX12_behind_88 rfl ?_
        refine V_callS (As := [.int (nI (tThr ((5 * (if w = 0 then p else q)) + part))), .int (nI (tWo (if w = 0 then q else p))), .int (nI 0)]) (st := []) dX12_behind_89 kX12_stateOf lX12_199 (by decide) rfl rfl (Nat.le_of_ble_eq_true rfl) ⟨Nat.le_of_ble_eq_true rfl, Nat.le_of_ble_eq_true rfl⟩ w_stateOf ?_
        rintro _ _ _ _ ⟨rfl, rfl, rfl, rfl⟩
        refine V_goto (tgt := 103) dX12_behind_92 rfl ?_
        exact V_iret ⟨Or.inl rfl, dX12_behind_103⟩ ⟨Nat.le_of_ble_eq_true rfl, Nat.le_of_ble_eq_true rfl⟩ ⟨rfl, congrArg (fun z => some (Value.int (nI z))) (by unfold sMine sTheir sRing; rcases (show w = 0 ∨ w = 1 by omega) with e | e <;> subst e <;> (repeat' split) <;> first | rfl | (exfalso; omega) | (exfalso; simp_all; done) | (exfalso; simp_all; omega)), rfl, rfl⟩
    · skip
      refine V_iload_n dX12_behind_61 rfl ?_
      refine V_iconst (v := nI 5) dX12_behind_62 rfl ?_
      refine V_icmp_neN (tgt := 76) dX12_behind_63 rfl (by omega) (by omega) (fun h63 => ?_) (fun h63 => ?_)
      · skip
        refine V_iload dX12_behind_76 rfl ?_
        refine V_istore (ls' := [(8, .int (nI (if w = 0 then q else p))), (7, .int (nI (tThr ((5 * (if w = 0 then p else q)) + part)))), (6, .int (nI part)), (5, .int (nI (if w = 0 then q else p))), (4, .int (nI (if w = 0 then p else q))), (0, .ref 62), (1, .int (nI (stN p q l))), (2, .int (nI w)), (3, .int (nI part))]) dX12_behind_78 (by decide) rfl ?_
        refine V_iload_n dX12_behind_80 rfl ?_
        refine V_if_neN (tgt := 95) dX12_behind_81 rfl (by omega) (fun h81 => ?_) (fun h81 => ?_)
        · skip
          refine V_iload dX12_behind_95 rfl ?_
          refine V_iload dX12_behind_97 rfl ?_
          refine V_iconst (v := nI 1) dX12_behind_99 rfl ?_
          refine V_callS (As := [.int (nI (if w = 0 then q else p)), .int (nI (tThr ((5 * (if w = 0 then p else q)) + part))), .int (nI 1)]) (st := []) dX12_behind_100 kX12_stateOf lX12_199 (by decide) rfl rfl (Nat.le_of_ble_eq_true rfl) ⟨Nat.le_of_ble_eq_true rfl, Nat.le_of_ble_eq_true rfl⟩ w_stateOf ?_
          rintro _ _ _ _ ⟨rfl, rfl, rfl, rfl⟩
          exact V_iret ⟨Or.inl rfl, dX12_behind_103⟩ ⟨Nat.le_of_ble_eq_true rfl, Nat.le_of_ble_eq_true rfl⟩ ⟨rfl, congrArg (fun z => some (Value.int (nI z))) (by unfold sMine sTheir sRing; rcases (show w = 0 ∨ w = 1 by omega) with e | e <;> subst e <;> (repeat' split) <;> first | rfl | (exfalso; omega) | (exfalso; simp_all; done) | (exfalso; simp_all; omega)), rfl, rfl⟩
        · skip
          refine V_iload dX12_behind_84 rfl ?_
          refine V_iload dX12_behind_86 rfl ?_
          refine V_iconst (v := nI 0) dX12_behind_88 rfl ?_
          refine V_callS (As := [.int (nI (tThr ((5 * (if w = 0 then p else q)) + part))), .int (nI (if w = 0 then q else p)), .int (nI 0)]) (st := []) dX12_behind_89 kX12_stateOf lX12_199 (by decide) rfl rfl (Nat.le_of_ble_eq_true rfl) ⟨Nat.le_of_ble_eq_true rfl, Nat.le_of_ble_eq_true rfl⟩ w_stateOf ?_
          rintro _ _ _ _ ⟨rfl, rfl, rfl, rfl⟩
          refine V_goto (tgt := 103) dX12_behind_92 rfl ?_
          exact V_iret ⟨Or.inl rfl, dX12_behind_103⟩ ⟨Nat.le_of_ble_eq_true rfl, Nat.le_of_ble_eq_true rfl⟩ ⟨rfl, congrArg (fun z => some (Value.int (nI z))) (by unfold sMine sTheir sRing; rcases (show w = 0 ∨ w = 1 by omega) with e | e <;> subst e <;> (repeat' split) <;> first | rfl | (exfalso; omega) | (exfalso; simp_all; done) | (exfalso; simp_all; omega)), rfl, rfl⟩
      · skip
        refine V_aload_n dX12_behind_66 rfl ?_
        refine V_getR (b := 65) dX12_behind_67 fX12_16 ⟨Nat.le_of_ble_eq_true rfl, Nat.le_of_ble_eq_true rfl⟩ rfl rfl rfl ?_
        refine V_iload dX12_behind_70 rfl ?_
        refine V_ialdN (k := if w = 0 then q else p) dX12_behind_72 ⟨Nat.le_of_ble_eq_true rfl, Nat.le_of_ble_eq_true rfl⟩ rfl (by decide) (by omega) ?_
        refine V_eqI (y := nI (tWo (if w = 0 then q else p))) (hT.2.2 _ hoth (h45 (by omega))) ?_
        refine V_goto (tgt := 78) dX12_behind_73 rfl ?_
        refine V_istore (ls' := [(8, .int (nI (tWo (if w = 0 then q else p)))), (7, .int (nI (tThr ((5 * (if w = 0 then p else q)) + part)))), (6, .int (nI part)), (5, .int (nI (if w = 0 then q else p))), (4, .int (nI (if w = 0 then p else q))), (0, .ref 62), (1, .int (nI (stN p q l))), (2, .int (nI w)), (3, .int (nI part))]) dX12_behind_78 (by decide) rfl ?_
        refine V_iload_n dX12_behind_80 rfl ?_
        refine V_if_neN (tgt := 95) dX12_behind_81 rfl (by omega) (fun h81 => ?_) (fun h81 => ?_)
        · skip
          refine V_iload dX12_behind_95 rfl ?_
          refine V_iload dX12_behind_97 rfl ?_
          refine V_iconst (v := nI 1) dX12_behind_99 rfl ?_
          refine V_callS (As := [.int (nI (tWo (if w = 0 then q else p))), .int (nI (tThr ((5 * (if w = 0 then p else q)) + part))), .int (nI 1)]) (st := []) dX12_behind_100 kX12_stateOf lX12_199 (by decide) rfl rfl (Nat.le_of_ble_eq_true rfl) ⟨Nat.le_of_ble_eq_true rfl, Nat.le_of_ble_eq_true rfl⟩ w_stateOf ?_
          rintro _ _ _ _ ⟨rfl, rfl, rfl, rfl⟩
          exact V_iret ⟨Or.inl rfl, dX12_behind_103⟩ ⟨Nat.le_of_ble_eq_true rfl, Nat.le_of_ble_eq_true rfl⟩ ⟨rfl, congrArg (fun z => some (Value.int (nI z))) (by unfold sMine sTheir sRing; rcases (show w = 0 ∨ w = 1 by omega) with e | e <;> subst e <;> (repeat' split) <;> first | rfl | (exfalso; omega) | (exfalso; simp_all; done) | (exfalso; simp_all; omega)), rfl, rfl⟩
        · skip
          refine V_iload dX12_behind_84 rfl ?_
          refine V_iload dX12_behind_86 rfl ?_
          refine V_iconst (v := nI 0) dX12_behind_88 rfl ?_
          refine V_callS (As := [.int (nI (tThr ((5 * (if w = 0 then p else q)) + part))), .int (nI (tWo (if w = 0 then q else p))), .int (nI 0)]) (st := []) dX12_behind_89 kX12_stateOf lX12_199 (by decide) rfl rfl (Nat.le_of_ble_eq_true rfl) ⟨Nat.le_of_ble_eq_true rfl, Nat.le_of_ble_eq_true rfl⟩ w_stateOf ?_
          rintro _ _ _ _ ⟨rfl, rfl, rfl, rfl⟩
          refine V_goto (tgt := 103) dX12_behind_92 rfl ?_
          exact V_iret ⟨Or.inl rfl, dX12_behind_103⟩ ⟨Nat.le_of_ble_eq_true rfl, Nat.le_of_ble_eq_true rfl⟩ ⟨rfl, congrArg (fun z => some (Value.int (nI z))) (by unfold sMine sTheir sRing; rcases (show w = 0 ∨ w = 1 by omega) with e | e <;> subst e <;> (repeat' split) <;> first | rfl | (exfalso; omega) | (exfalso; simp_all; done) | (exfalso; simp_all; omega)), rfl, rfl⟩

set_option maxRecDepth 100000 in
set_option maxHeartbeats 4000000 in
theorem w_feels {G : zG} {I : zI} {J : zJ} (hT : mT I) {p q l : Nat} (hp : p < 56) (hq : q < 56) (hl : l ≤ 1) {w : Nat} (hw : w ≤ 1) {far : Nat} (hf : I 62 5 = nI far) : zK G mX12_feels 3 [.ref 62, .int (nI (stN p q l)), .int (nI w)] zsh I J (zP (fun r I' J' => r = none ∧ ((∀ a, a ≠ 80 → I' a = I a) ∧ ∀ k, k < 9 → I' 80 k = fct p q l w far k) ∧ J = J')) := by
  refine zK_of kX12_feels.2.2.2.2.1 (Nat.le_of_ble_eq_true rfl) ?_
  show V G mX12_feels 3 _ 0 [(0, .ref 62), (1, .int (nI (stN p q l))), (2, .int (nI w))] [] (0, 0) zsh I J
  have hown : (if w = 0 then p else q) < 56 := by split <;> assumption
  have hoth : (if w = 0 then q else p) < 56 := by split <;> assumption
  have hst := stN_lt hp hq hl
  have hbo := tBest_le hoth
  refine V_iload_n dX12_feels_0 rfl ?_
  refine V_iload_n dX12_feels_1 rfl ?_
  refine V_callS (As := [.int (nI (stN p q l)), .int (nI w)]) (st := []) dX12_feels_2 kX12_standIn lX12_181 (by decide) rfl rfl (Nat.le_of_ble_eq_true rfl) ⟨Nat.le_of_ble_eq_true rfl, Nat.le_of_ble_eq_true rfl⟩ (w_standIn hp hq hl (by omega)) ?_
  rintro _ _ _ _ ⟨rfl, rfl, rfl, rfl⟩
  refine V_istore_n (ls' := [(3, .int (nI (if w = 0 then p else q))), (0, .ref 62), (1, .int (nI (stN p q l))), (2, .int (nI w))]) dX12_feels_5 (by decide) rfl ?_
  refine V_iload_n dX12_feels_6 rfl ?_
  refine V_iconst (v := nI 1) dX12_feels_7 rfl ?_
  refine V_iload_n dX12_feels_8 rfl ?_
  refine V_isubN dX12_feels_9 (by omega) ?_
  refine V_callS (As := [.int (nI (stN p q l)), .int (nI (1 - w))]) (st := []) dX12_feels_10 kX12_standIn lX12_181 (by decide) rfl rfl (Nat.le_of_ble_eq_true rfl) ⟨Nat.le_of_ble_eq_true rfl, Nat.le_of_ble_eq_true rfl⟩ (w_standIn hp hq hl (by omega)) ?_
  rintro _ _ _ _ ⟨rfl, rfl, rfl, rfl⟩
  refine V_eqI (y := nI (if w = 0 then q else p)) (by rcases (show w = 0 ∨ w = 1 by omega) with e | e <;> subst e <;> rfl) ?_
  refine V_istore (ls' := [(4, .int (nI (if w = 0 then q else p))), (3, .int (nI (if w = 0 then p else q))), (0, .ref 62), (1, .int (nI (stN p q l))), (2, .int (nI w))]) dX12_feels_13 (by decide) rfl ?_
  refine V_aload_n dX12_feels_15 rfl ?_
  refine V_getR (b := 80) dX12_feels_16 fX12_62 ⟨Nat.le_of_ble_eq_true rfl, Nat.le_of_ble_eq_true rfl⟩ rfl rfl rfl ?_
  refine V_iconst (v := nI 0) dX12_feels_19 rfl ?_
  refine V_iload_n dX12_feels_20 rfl ?_
  refine V_iastN (k := 0) dX12_feels_21 ⟨Nat.le_of_ble_eq_true rfl, Nat.le_of_ble_eq_true rfl⟩ rfl (by decide) (by omega) ?_
  refine V_aload_n dX12_feels_22 rfl ?_
  refine V_getR (b := 80) dX12_feels_23 fX12_62 ⟨Nat.le_of_ble_eq_true rfl, Nat.le_of_ble_eq_true rfl⟩ rfl rfl rfl ?_
  refine V_iconst (v := nI 1) dX12_feels_26 rfl ?_
  refine V_aload_n dX12_feels_27 rfl ?_
  refine V_iload_n dX12_feels_28 rfl ?_
  have hT2 : mT (zwr I 80 0 (nI w)) := mT_c hT rfl rfl rfl
  refine V_callV (As := [.int (nI (if w = 0 then p else q))]) (st := [.int (nI 1), .ref 80]) (a := 62) dX12_feels_29 kX12_handOf lX12_184 (by decide) rfl rfl (Nat.le_of_ble_eq_true rfl) ⟨Nat.le_of_ble_eq_true rfl, Nat.le_of_ble_eq_true rfl⟩ ⟨Nat.le_of_ble_eq_true rfl, Nat.le_of_ble_eq_true rfl⟩ rfl ⟨rfl, by decide⟩ (w_handOf hT2 hown) ?_
  rintro _ _ _ _ ⟨rfl, rfl, rfl, rfl⟩
  refine V_iastN (k := 1) dX12_feels_32 ⟨Nat.le_of_ble_eq_true rfl, Nat.le_of_ble_eq_true rfl⟩ rfl (by decide) (by omega) ?_
  refine V_aload_n dX12_feels_33 rfl ?_
  refine V_getR (b := 80) dX12_feels_34 fX12_62 ⟨Nat.le_of_ble_eq_true rfl, Nat.le_of_ble_eq_true rfl⟩ rfl rfl rfl ?_
  refine V_iconst (v := nI 2) dX12_feels_37 rfl ?_
  refine V_aload_n dX12_feels_38 rfl ?_
  refine V_iload dX12_feels_39 rfl ?_
  have hT2 : mT (zwr (zwr I 80 0 (nI w)) 80 1 (nI (tHand (if w = 0 then p else q)))) := mT_c hT rfl rfl rfl
  refine V_callV (As := [.int (nI (if w = 0 then q else p))]) (st := [.int (nI 2), .ref 80]) (a := 62) dX12_feels_41 kX12_handOf lX12_184 (by decide) rfl rfl (Nat.le_of_ble_eq_true rfl) ⟨Nat.le_of_ble_eq_true rfl, Nat.le_of_ble_eq_true rfl⟩ ⟨Nat.le_of_ble_eq_true rfl, Nat.le_of_ble_eq_true rfl⟩ rfl ⟨rfl, by decide⟩ (w_handOf hT2 hoth) ?_
  rintro _ _ _ _ ⟨rfl, rfl, rfl, rfl⟩
  refine V_iastN (k := 2) dX12_feels_44 ⟨Nat.le_of_ble_eq_true rfl, Nat.le_of_ble_eq_true rfl⟩ rfl (by decide) (by omega) ?_
  refine V_aload_n dX12_feels_45 rfl ?_
  refine V_getR (b := 80) dX12_feels_46 fX12_62 ⟨Nat.le_of_ble_eq_true rfl, Nat.le_of_ble_eq_true rfl⟩ rfl rfl rfl ?_
  refine V_iconst (v := nI 3) dX12_feels_49 rfl ?_
  refine V_aload_n dX12_feels_50 rfl ?_
  refine V_iload_n dX12_feels_51 rfl ?_
  have hT2 : mT (zwr (zwr (zwr I 80 0 (nI w)) 80 1 (nI (tHand (if w = 0 then p else q)))) 80 2 (nI (tHand (if w = 0 then q else p)))) := mT_c hT rfl rfl rfl
  refine V_callV (As := [.int (nI (if w = 0 then p else q))]) (st := [.int (nI 3), .ref 80]) (a := 62) dX12_feels_52 kX12_bestRing lX12_170 (by decide) rfl rfl (Nat.le_of_ble_eq_true rfl) ⟨Nat.le_of_ble_eq_true rfl, Nat.le_of_ble_eq_true rfl⟩ ⟨Nat.le_of_ble_eq_true rfl, Nat.le_of_ble_eq_true rfl⟩ rfl ⟨rfl, by decide⟩ (w_bestRing hT2 hown) ?_
  rintro _ _ _ _ ⟨rfl, rfl, rfl, rfl⟩
  refine V_iastN (k := 3) dX12_feels_55 ⟨Nat.le_of_ble_eq_true rfl, Nat.le_of_ble_eq_true rfl⟩ rfl (by decide) (by omega) ?_
  refine V_aload_n dX12_feels_56 rfl ?_
  refine V_getR (b := 80) dX12_feels_57 fX12_62 ⟨Nat.le_of_ble_eq_true rfl, Nat.le_of_ble_eq_true rfl⟩ rfl rfl rfl ?_
  refine V_iconst (v := nI 4) dX12_feels_60 rfl ?_
  refine V_aload_n dX12_feels_61 rfl ?_
  refine V_iload dX12_feels_62 rfl ?_
  have hT2 : mT (zwr (zwr (zwr (zwr I 80 0 (nI w)) 80 1 (nI (tHand (if w = 0 then p else q)))) 80 2 (nI (tHand (if w = 0 then q else p)))) 80 3 (nI (tBest (if w = 0 then p else q)))) := mT_c hT rfl rfl rfl
  refine V_callV (As := [.int (nI (if w = 0 then q else p))]) (st := [.int (nI 4), .ref 80]) (a := 62) dX12_feels_64 kX12_bestRing lX12_170 (by decide) rfl rfl (Nat.le_of_ble_eq_true rfl) ⟨Nat.le_of_ble_eq_true rfl, Nat.le_of_ble_eq_true rfl⟩ ⟨Nat.le_of_ble_eq_true rfl, Nat.le_of_ble_eq_true rfl⟩ rfl ⟨rfl, by decide⟩ (w_bestRing hT2 hoth) ?_
  rintro _ _ _ _ ⟨rfl, rfl, rfl, rfl⟩
  refine V_iastN (k := 4) dX12_feels_67 ⟨Nat.le_of_ble_eq_true rfl, Nat.le_of_ble_eq_true rfl⟩ rfl (by decide) (by omega) ?_
  refine V_aload_n dX12_feels_68 rfl ?_
  refine V_getR (b := 80) dX12_feels_69 fX12_62 ⟨Nat.le_of_ble_eq_true rfl, Nat.le_of_ble_eq_true rfl⟩ rfl rfl rfl ?_
  refine V_iconst (v := nI 5) dX12_feels_72 rfl ?_
  refine V_aload_n dX12_feels_73 rfl ?_
  refine V_getI dX12_feels_74 fX12_143 ⟨Nat.le_of_ble_eq_true rfl, Nat.le_of_ble_eq_true rfl⟩ rfl rfl ?_
  refine V_eqI (y := I 62 5) rfl ?_
  refine V_eqI (y := nI far) hf ?_
  refine V_iastN (k := 5) dX12_feels_77 ⟨Nat.le_of_ble_eq_true rfl, Nat.le_of_ble_eq_true rfl⟩ rfl (by decide) (by omega) ?_
  refine V_aload_n dX12_feels_78 rfl ?_
  refine V_getR (b := 80) dX12_feels_79 fX12_62 ⟨Nat.le_of_ble_eq_true rfl, Nat.le_of_ble_eq_true rfl⟩ rfl rfl rfl ?_
  refine V_bipush (v := nI 6) dX12_feels_82 rfl ?_
  refine V_iload_n dX12_feels_84 rfl ?_
  refine V_callS (As := [.int (nI (stN p q l))]) (st := [.int (nI 6), .ref 80]) dX12_feels_85 kX12_lastIn lX12_190 (by decide) rfl rfl (Nat.le_of_ble_eq_true rfl) ⟨Nat.le_of_ble_eq_true rfl, Nat.le_of_ble_eq_true rfl⟩ (w_lastIn hp hq hl) ?_
  rintro _ _ _ _ ⟨rfl, rfl, rfl, rfl⟩
  refine V_iload_n dX12_feels_88 rfl ?_
  refine V_icmp_neN (tgt := 96) dX12_feels_89 rfl (by omega) (by omega) (fun h89 => ?_) (fun h89 => ?_)
  · skip
    refine V_iconst (v := nI 0) dX12_feels_96 rfl ?_
    refine V_iastN (k := 6) dX12_feels_97 ⟨Nat.le_of_ble_eq_true rfl, Nat.le_of_ble_eq_true rfl⟩ rfl (by decide) (by omega) ?_
    refine V_aload_n dX12_feels_98 rfl ?_
    refine V_getR (b := 80) dX12_feels_99 fX12_62 ⟨Nat.le_of_ble_eq_true rfl, Nat.le_of_ble_eq_true rfl⟩ rfl rfl rfl ?_
    refine V_bipush (v := nI 7) dX12_feels_102 rfl ?_
    refine V_aload_n dX12_feels_104 rfl ?_
    refine V_iload_n dX12_feels_105 rfl ?_
    have hT2 : mT (zwr (zwr (zwr (zwr (zwr (zwr (zwr I 80 0 (nI w)) 80 1 (nI (tHand (if w = 0 then p else q)))) 80 2 (nI (tHand (if w = 0 then q else p)))) 80 3 (nI (tBest (if w = 0 then p else q)))) 80 4 (nI (tBest (if w = 0 then q else p)))) 80 5 (nI far)) 80 6 (nI 0)) := mT_c hT rfl rfl rfl
    refine V_callV (As := [.int (nI (if w = 0 then p else q))]) (st := [.int (nI 7), .ref 80]) (a := 62) dX12_feels_106 kX12_lying lX12_331 (by decide) rfl rfl (Nat.le_of_ble_eq_true rfl) ⟨Nat.le_of_ble_eq_true rfl, Nat.le_of_ble_eq_true rfl⟩ ⟨Nat.le_of_ble_eq_true rfl, Nat.le_of_ble_eq_true rfl⟩ rfl ⟨rfl, by decide⟩ (w_lying hT2 hown) ?_
    rintro _ _ _ _ ⟨rfl, rfl, rfl, rfl⟩
    refine V_iastN (k := 7) dX12_feels_109 ⟨Nat.le_of_ble_eq_true rfl, Nat.le_of_ble_eq_true rfl⟩ rfl (by decide) (by omega) ?_
    refine V_aload_n dX12_feels_110 rfl ?_
    refine V_getR (b := 80) dX12_feels_111 fX12_62 ⟨Nat.le_of_ble_eq_true rfl, Nat.le_of_ble_eq_true rfl⟩ rfl rfl rfl ?_
    refine V_bipush (v := nI 8) dX12_feels_114 rfl ?_
    refine V_aload_n dX12_feels_116 rfl ?_
    refine V_iload dX12_feels_117 rfl ?_
    have hT2 : mT (zwr (zwr (zwr (zwr (zwr (zwr (zwr (zwr I 80 0 (nI w)) 80 1 (nI (tHand (if w = 0 then p else q)))) 80 2 (nI (tHand (if w = 0 then q else p)))) 80 3 (nI (tBest (if w = 0 then p else q)))) 80 4 (nI (tBest (if w = 0 then q else p)))) 80 5 (nI far)) 80 6 (nI 0)) 80 7 (nI (tBel (5 * (if w = 0 then p else q) + 4)))) := mT_c hT rfl rfl rfl
    refine V_callV (As := [.int (nI (if w = 0 then q else p))]) (st := [.int (nI 8), .ref 80]) (a := 62) dX12_feels_119 kX12_lying lX12_331 (by decide) rfl rfl (Nat.le_of_ble_eq_true rfl) ⟨Nat.le_of_ble_eq_true rfl, Nat.le_of_ble_eq_true rfl⟩ ⟨Nat.le_of_ble_eq_true rfl, Nat.le_of_ble_eq_true rfl⟩ rfl ⟨rfl, by decide⟩ (w_lying hT2 hoth) ?_
    rintro _ _ _ _ ⟨rfl, rfl, rfl, rfl⟩
    refine V_iastN (k := 8) dX12_feels_122 ⟨Nat.le_of_ble_eq_true rfl, Nat.le_of_ble_eq_true rfl⟩ rfl (by decide) (by omega) ?_
    exact V_ret ⟨rfl, dX12_feels_123⟩ ⟨Nat.le_of_ble_eq_true rfl, Nat.le_of_ble_eq_true rfl⟩ ⟨rfl, rfl, ⟨fun a ha => (zup_n ha).trans ((zup_n ha).trans ((zup_n ha).trans ((zup_n ha).trans ((zup_n ha).trans ((zup_n ha).trans ((zup_n ha).trans ((zup_n ha).trans (zup_n ha)))))))), fun k hk => by rcases (show k = 0 ∨ k = 1 ∨ k = 2 ∨ k = 3 ∨ k = 4 ∨ k = 5 ∨ k = 6 ∨ k = 7 ∨ k = 8 by omega) with e | e | e | e | e | e | e | e | e <;> subst e <;> first | rfl | exact congrArg nI (if_neg (by omega)).symm⟩, rfl⟩
  · skip
    refine V_iconst (v := nI 1) dX12_feels_92 rfl ?_
    refine V_goto (tgt := 97) dX12_feels_93 rfl ?_
    refine V_iastN (k := 6) dX12_feels_97 ⟨Nat.le_of_ble_eq_true rfl, Nat.le_of_ble_eq_true rfl⟩ rfl (by decide) (by omega) ?_
    refine V_aload_n dX12_feels_98 rfl ?_
    refine V_getR (b := 80) dX12_feels_99 fX12_62 ⟨Nat.le_of_ble_eq_true rfl, Nat.le_of_ble_eq_true rfl⟩ rfl rfl rfl ?_
    refine V_bipush (v := nI 7) dX12_feels_102 rfl ?_
    refine V_aload_n dX12_feels_104 rfl ?_
    refine V_iload_n dX12_feels_105 rfl ?_
    have hT2 : mT (zwr (zwr (zwr (zwr (zwr (zwr (zwr I 80 0 (nI w)) 80 1 (nI (tHand (if w = 0 then p else q)))) 80 2 (nI (tHand (if w = 0 then q else p)))) 80 3 (nI (tBest (if w = 0 then p else q)))) 80 4 (nI (tBest (if w = 0 then q else p)))) 80 5 (nI far)) 80 6 (nI 1)) := mT_c hT rfl rfl rfl
    refine V_callV (As := [.int (nI (if w = 0 then p else q))]) (st := [.int (nI 7), .ref 80]) (a := 62) dX12_feels_106 kX12_lying lX12_331 (by decide) rfl rfl (Nat.le_of_ble_eq_true rfl) ⟨Nat.le_of_ble_eq_true rfl, Nat.le_of_ble_eq_true rfl⟩ ⟨Nat.le_of_ble_eq_true rfl, Nat.le_of_ble_eq_true rfl⟩ rfl ⟨rfl, by decide⟩ (w_lying hT2 hown) ?_
    rintro _ _ _ _ ⟨rfl, rfl, rfl, rfl⟩
    refine V_iastN (k := 7) dX12_feels_109 ⟨Nat.le_of_ble_eq_true rfl, Nat.le_of_ble_eq_true rfl⟩ rfl (by decide) (by omega) ?_
    refine V_aload_n dX12_feels_110 rfl ?_
    refine V_getR (b := 80) dX12_feels_111 fX12_62 ⟨Nat.le_of_ble_eq_true rfl, Nat.le_of_ble_eq_true rfl⟩ rfl rfl rfl ?_
    refine V_bipush (v := nI 8) dX12_feels_114 rfl ?_
    refine V_aload_n dX12_feels_116 rfl ?_
    refine V_iload dX12_feels_117 rfl ?_
    have hT2 : mT (zwr (zwr (zwr (zwr (zwr (zwr (zwr (zwr I 80 0 (nI w)) 80 1 (nI (tHand (if w = 0 then p else q)))) 80 2 (nI (tHand (if w = 0 then q else p)))) 80 3 (nI (tBest (if w = 0 then p else q)))) 80 4 (nI (tBest (if w = 0 then q else p)))) 80 5 (nI far)) 80 6 (nI 1)) 80 7 (nI (tBel (5 * (if w = 0 then p else q) + 4)))) := mT_c hT rfl rfl rfl
    refine V_callV (As := [.int (nI (if w = 0 then q else p))]) (st := [.int (nI 8), .ref 80]) (a := 62) dX12_feels_119 kX12_lying lX12_331 (by decide) rfl rfl (Nat.le_of_ble_eq_true rfl) ⟨Nat.le_of_ble_eq_true rfl, Nat.le_of_ble_eq_true rfl⟩ ⟨Nat.le_of_ble_eq_true rfl, Nat.le_of_ble_eq_true rfl⟩ rfl ⟨rfl, by decide⟩ (w_lying hT2 hoth) ?_
    rintro _ _ _ _ ⟨rfl, rfl, rfl, rfl⟩
    refine V_iastN (k := 8) dX12_feels_122 ⟨Nat.le_of_ble_eq_true rfl, Nat.le_of_ble_eq_true rfl⟩ rfl (by decide) (by omega) ?_
    exact V_ret ⟨rfl, dX12_feels_123⟩ ⟨Nat.le_of_ble_eq_true rfl, Nat.le_of_ble_eq_true rfl⟩ ⟨rfl, rfl, ⟨fun a ha => (zup_n ha).trans ((zup_n ha).trans ((zup_n ha).trans ((zup_n ha).trans ((zup_n ha).trans ((zup_n ha).trans ((zup_n ha).trans ((zup_n ha).trans (zup_n ha)))))))), fun k hk => by rcases (show k = 0 ∨ k = 1 ∨ k = 2 ∨ k = 3 ∨ k = 4 ∨ k = 5 ∨ k = 6 ∨ k = 7 ∨ k = 8 by omega) with e | e | e | e | e | e | e | e | e <;> subst e <;> first | rfl | exact congrArg nI (if_pos (by omega)).symm⟩, rfl⟩

