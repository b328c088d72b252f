/-! THE MODEL: chances asked -/
def chV (Lf : Nat → (Nat → Int32) → Int32) (F : Nat → Int32) (th k : Nat) : Nat := if (k ≤ 3 ↔ th = 1) then pTen (bnd (Lf 97 F) 10) (bnd (Lf 98 F) (10 - bnd (Lf 97 F) 10)) (bnd (Lf 99 F) (10 - bnd (Lf 97 F) 10 - bnd (Lf 98 F) (10 - bnd (Lf 97 F) 10))) (bnd (Lf 104 F) 10) (bnd (Lf 107 F) 10) k else 0
/-- the law of a text's clauses -/
def lfM (a : List (Nat × List (Nat × Nat) × List (Nat × Nat))) (M : Nat → ((Nat → Int32) → Option Int32) × ((Nat → Int32) → Option Int32)) : Nat → (Nat → Int32) → Int32 := fun letter F => mnL a M letter F a.length 0
def offG (I I' : zI) : Prop := ∀ a, a ≠ 79 → a ≠ 80 → a ≠ 81 → I' a = I a
theorem offG_z {I H : zI} {k : Nat} {x : Int32} (h : offG I H) : offG I (zwr H 81 k x) := fun a h1 h2 h3 => by
  rw [← h a h1 h2 h3]
  funext j
  simp [zwr_at, h3]
theorem offG_m {A B C : zI} (h : offG A B) (h2 : offM B C) : offG A C := fun a h3 h4 h5 => (h2 a h3).trans (h a h3 h4 h5)
theorem mpI_g {I I' : zI} {t : Nat} {a : List (Nat × List (Nat × Nat) × List (Nat × Nat))} {M : Nat → ((Nat → Int32) → Option Int32) × ((Nat → Int32) → Option Int32)} (h : mpI I t a M) (e : offG I I') : mpI I' t a M := mpI_c h (fun k h1 h2 => e k (by omega) (by omega) (by omega))
set_option maxRecDepth 100000 in
set_option maxHeartbeats 4000000 in
theorem w_asks1 {G : zG} {I : zI} {J : zJ} (hT : mT I) {p q l : Nat} (hp : p < 56) (hq : q < 56) (hl : l ≤ 1) {w : Nat} (hw : w ≤ 1) {far : Nat} (hf : I 62 5 = nI far) {a : List (Nat × List (Nat × Nat) × List (Nat × Nat))} {M : Nat → ((Nat → Int32) → Option Int32) × ((Nat → Int32) → Option Int32)} (hP : mpI I 0 a M) : zK G mX12_asksChances 4 [.ref 62, .int (nI (stN p q l)), .int (nI w), .int (nI 1)] zsh I J (zP (fun r I' J' => r = none ∧ (offG I I' ∧ ∀ k, k < 7 → I' 81 k = nI (chV (lfM a M) (fct p q l w far) 1 k)) ∧ J = J')) := by
  refine zK_of kX12_asksChances.2.2.2.2.1 (Nat.le_of_ble_eq_true rfl) ?_
  show V G mX12_asksChances 4 _ 0 [(0, .ref 62), (1, .int (nI (stN p q l))), (2, .int (nI w)), (3, .int (nI 1))] [] (0, 0) zsh I J
  obtain ⟨A, hA⟩ : ∃ A, A = bnd (mnL a M 97 (fct p q l w far) a.length 0) 10 := ⟨_, rfl⟩
  obtain ⟨B, hB⟩ : ∃ B, B = bnd (mnL a M 98 (fct p q l w far) a.length 0) (10 - A) := ⟨_, rfl⟩
  obtain ⟨C, hC⟩ : ∃ C, C = bnd (mnL a M 99 (fct p q l w far) a.length 0) (10 - A - B) := ⟨_, rfl⟩
  obtain ⟨H, hH⟩ : ∃ H, H = bnd (mnL a M 104 (fct p q l w far) a.length 0) 10 := ⟨_, rfl⟩
  obtain ⟨K, hK⟩ : ∃ K, K = bnd (mnL a M 107 (fct p q l w far) a.length 0) 10 := ⟨_, rfl⟩
  have hA2 : A ≤ 10 := by rw [hA]; exact bnd_le
  have hB2 : B ≤ 10 - A := by rw [hB]; exact bnd_le
  have hC2 : C ≤ 10 - A - B := by rw [hC]; exact bnd_le
  have hH2 : H ≤ 10 := by rw [hH]; exact bnd_le
  have hK2 : K ≤ 10 := by rw [hK]; exact bnd_le
  have hst := stN_lt hp hq hl
  refine V_aload_n dX12_asksChances_0 rfl ?_
  refine V_iload_n dX12_asksChances_1 rfl ?_
  refine V_iload_n dX12_asksChances_2 rfl ?_
  refine V_callV (As := [.int (nI (stN p q l)), .int (nI w)]) (st := []) (a := 62) dX12_asksChances_3 kX12_feels lX12_334 (by decide) rfl rfl (Nat.le_of_ble_eq_true rfl) ⟨Nat.le_of_ble_eq_true rfl, Nat.le_of_ble_eq_true rfl⟩ ⟨Nat.le_of_ble_eq_true rfl, Nat.le_of_ble_eq_true rfl⟩ rfl ⟨rfl, by decide⟩ (w_feels hT hp hq hl hw hf) ?_
  rintro r sh' I' J' ⟨rfl, rfl, hq2, rfl⟩
  have hO0 : offG I I' := fun a _ h _ => hq2.1 a h
  have hF0 := hq2.2
  refine V_iconst (v := nI 0) dX12_asksChances_6 rfl ?_
  refine V_istore (ls' := [(4, .int (nI 0)), (0, .ref 62), (1, .int (nI (stN p q l))), (2, .int (nI w)), (3, .int (nI 1))]) dX12_asksChances_7 (by decide) rfl ?_
  refine V_iload dX12_asksChances_9 rfl ?_
  refine V_bipush (v := nI 7) dX12_asksChances_11 rfl ?_
  refine V_icmp_ge (tgt := 30) dX12_asksChances_13 rfl (fun h => absurd h (by decide)) (fun _ => ?_)
  refine V_aload_n dX12_asksChances_16 rfl ?_
  refine V_getR (b := 81) dX12_asksChances_17 fX12_65 ⟨Nat.le_of_ble_eq_true rfl, Nat.le_of_ble_eq_true rfl⟩ rfl rfl rfl ?_
  refine V_iload dX12_asksChances_20 rfl ?_
  refine V_iconst (v := nI 0) dX12_asksChances_22 rfl ?_
  refine V_iastN (k := 0) dX12_asksChances_23 ⟨Nat.le_of_ble_eq_true rfl, Nat.le_of_ble_eq_true rfl⟩ rfl (by decide) (by omega) ?_
  refine V_iinc (v := nI 1) (ls' := [(4, .int (nI 1)), (0, .ref 62), (1, .int (nI (stN p q l))), (2, .int (nI w)), (3, .int (nI 1))]) dX12_asksChances_24 rfl (by decide) (by decide) rfl ?_
  refine V_goto (tgt := 9) dX12_asksChances_27 rfl ?_
  refine V_iload dX12_asksChances_9 rfl ?_
  refine V_bipush (v := nI 7) dX12_asksChances_11 rfl ?_
  refine V_icmp_ge (tgt := 30) dX12_asksChances_13 rfl (fun h => absurd h (by decide)) (fun _ => ?_)
  refine V_aload_n dX12_asksChances_16 rfl ?_
  refine V_getR (b := 81) dX12_asksChances_17 fX12_65 ⟨Nat.le_of_ble_eq_true rfl, Nat.le_of_ble_eq_true rfl⟩ rfl rfl rfl ?_
  refine V_iload dX12_asksChances_20 rfl ?_
  refine V_iconst (v := nI 0) dX12_asksChances_22 rfl ?_
  refine V_iastN (k := 1) dX12_asksChances_23 ⟨Nat.le_of_ble_eq_true rfl, Nat.le_of_ble_eq_true rfl⟩ rfl (by decide) (by omega) ?_
  refine V_iinc (v := nI 2) (ls' := [(4, .int (nI 2)), (0, .ref 62), (1, .int (nI (stN p q l))), (2, .int (nI w)), (3, .int (nI 1))]) dX12_asksChances_24 rfl (by decide) (by decide) rfl ?_
  refine V_goto (tgt := 9) dX12_asksChances_27 rfl ?_
  refine V_iload dX12_asksChances_9 rfl ?_
  refine V_bipush (v := nI 7) dX12_asksChances_11 rfl ?_
  refine V_icmp_ge (tgt := 30) dX12_asksChances_13 rfl (fun h => absurd h (by decide)) (fun _ => ?_)
  refine V_aload_n dX12_asksChances_16 rfl ?_
  refine V_getR (b := 81) dX12_asksChances_17 fX12_65 ⟨Nat.le_of_ble_eq_true rfl, Nat.le_of_ble_eq_true rfl⟩ rfl rfl rfl ?_
  refine V_iload dX12_asksChances_20 rfl ?_
  refine V_iconst (v := nI 0) dX12_asksChances_22 rfl ?_
  refine V_iastN (k := 2) dX12_asksChances_23 ⟨Nat.le_of_ble_eq_true rfl, Nat.le_of_ble_eq_true rfl⟩ rfl (by decide) (by omega) ?_
  refine V_iinc (v := nI 3) (ls' := [(4, .int (nI 3)), (0, .ref 62), (1, .int (nI (stN p q l))), (2, .int (nI w)), (3, .int (nI 1))]) dX12_asksChances_24 rfl (by decide) (by decide) rfl ?_
  refine V_goto (tgt := 9) dX12_asksChances_27 rfl ?_
  refine V_iload dX12_asksChances_9 rfl ?_
  refine V_bipush (v := nI 7) dX12_asksChances_11 rfl ?_
  refine V_icmp_ge (tgt := 30) dX12_asksChances_13 rfl (fun h => absurd h (by decide)) (fun _ => ?_)
  refine V_aload_n dX12_asksChances_16 rfl ?_
  refine V_getR (b := 81) dX12_asksChances_17 fX12_65 ⟨Nat.le_of_ble_eq_true rfl, Nat.le_of_ble_eq_true rfl⟩ rfl rfl rfl ?_
  refine V_iload dX12_asksChances_20 rfl ?_
  refine V_iconst (v := nI 0) dX12_asksChances_22 rfl ?_
  refine V_iastN (k := 3) dX12_asksChances_23 ⟨Nat.le_of_ble_eq_true rfl, Nat.le_of_ble_eq_true rfl⟩ rfl (by decide) (by omega) ?_
  refine V_iinc (v := nI 4) (ls' := [(4, .int (nI 4)), (0, .ref 62), (1, .int (nI (stN p q l))), (2, .int (nI w)), (3, .int (nI 1))]) dX12_asksChances_24 rfl (by decide) (by decide) rfl ?_
  refine V_goto (tgt := 9) dX12_asksChances_27 rfl ?_
  refine V_iload dX12_asksChances_9 rfl ?_
  refine V_bipush (v := nI 7) dX12_asksChances_11 rfl ?_
  refine V_icmp_ge (tgt := 30) dX12_asksChances_13 rfl (fun h => absurd h (by decide)) (fun _ => ?_)
  refine V_aload_n dX12_asksChances_16 rfl ?_
  refine V_getR (b := 81) dX12_asksChances_17 fX12_65 ⟨Nat.le_of_ble_eq_true rfl, Nat.le_of_ble_eq_true rfl⟩ rfl rfl rfl ?_
  refine V_iload dX12_asksChances_20 rfl ?_
  refine V_iconst (v := nI 0) dX12_asksChances_22 rfl ?_
  refine V_iastN (k := 4) dX12_asksChances_23 ⟨Nat.le_of_ble_eq_true rfl, Nat.le_of_ble_eq_true rfl⟩ rfl (by decide) (by omega) ?_
  refine V_iinc (v := nI 5) (ls' := [(4, .int (nI 5)), (0, .ref 62), (1, .int (nI (stN p q l))), (2, .int (nI w)), (3, .int (nI 1))]) dX12_asksChances_24 rfl (by decide) (by decide) rfl ?_
  refine V_goto (tgt := 9) dX12_asksChances_27 rfl ?_
  refine V_iload dX12_asksChances_9 rfl ?_
  refine V_bipush (v := nI 7) dX12_asksChances_11 rfl ?_
  refine V_icmp_ge (tgt := 30) dX12_asksChances_13 rfl (fun h => absurd h (by decide)) (fun _ => ?_)
  refine V_aload_n dX12_asksChances_16 rfl ?_
  refine V_getR (b := 81) dX12_asksChances_17 fX12_65 ⟨Nat.le_of_ble_eq_true rfl, Nat.le_of_ble_eq_true rfl⟩ rfl rfl rfl ?_
  refine V_iload dX12_asksChances_20 rfl ?_
  refine V_iconst (v := nI 0) dX12_asksChances_22 rfl ?_
  refine V_iastN (k := 5) dX12_asksChances_23 ⟨Nat.le_of_ble_eq_true rfl, Nat.le_of_ble_eq_true rfl⟩ rfl (by decide) (by omega) ?_
  refine V_iinc (v := nI 6) (ls' := [(4, .int (nI 6)), (0, .ref 62), (1, .int (nI (stN p q l))), (2, .int (nI w)), (3, .int (nI 1))]) dX12_asksChances_24 rfl (by decide) (by decide) rfl ?_
  refine V_goto (tgt := 9) dX12_asksChances_27 rfl ?_
  refine V_iload dX12_asksChances_9 rfl ?_
  refine V_bipush (v := nI 7) dX12_asksChances_11 rfl ?_
  refine V_icmp_ge (tgt := 30) dX12_asksChances_13 rfl (fun h => absurd h (by decide)) (fun _ => ?_)
  refine V_aload_n dX12_asksChances_16 rfl ?_
  refine V_getR (b := 81) dX12_asksChances_17 fX12_65 ⟨Nat.le_of_ble_eq_true rfl, Nat.le_of_ble_eq_true rfl⟩ rfl rfl rfl ?_
  refine V_iload dX12_asksChances_20 rfl ?_
  refine V_iconst (v := nI 0) dX12_asksChances_22 rfl ?_
  refine V_iastN (k := 6) dX12_asksChances_23 ⟨Nat.le_of_ble_eq_true rfl, Nat.le_of_ble_eq_true rfl⟩ rfl (by decide) (by omega) ?_
  refine V_iinc (v := nI 7) (ls' := [(4, .int (nI 7)), (0, .ref 62), (1, .int (nI (stN p q l))), (2, .int (nI w)), (3, .int (nI 1))]) dX12_asksChances_24 rfl (by decide) (by decide) rfl ?_
  refine V_goto (tgt := 9) dX12_asksChances_27 rfl ?_
  refine V_iload dX12_asksChances_9 rfl ?_
  refine V_bipush (v := nI 7) dX12_asksChances_11 rfl ?_
  refine V_icmp_ge (tgt := 30) dX12_asksChances_13 rfl (fun _ => ?_) (fun h => absurd h (by decide))
  refine V_iload_n dX12_asksChances_30 rfl ?_
  refine V_iconst (v := nI 2) dX12_asksChances_31 rfl ?_
  refine V_icmp_ne (tgt := 96) dX12_asksChances_32 rfl (fun _ => ?_) (fun h => absurd h (by decide))
  refine V_bipush (v := nI 10) dX12_asksChances_96 rfl ?_
  refine V_istore (ls' := [(4, .int (nI 10)), (0, .ref 62), (1, .int (nI (stN p q l))), (2, .int (nI w)), (3, .int (nI 1))]) dX12_asksChances_98 (by decide) rfl ?_
  refine V_aload_n dX12_asksChances_100 rfl ?_
  refine V_getR (b := 81) dX12_asksChances_101 fX12_65 ⟨Nat.le_of_ble_eq_true rfl, Nat.le_of_ble_eq_true rfl⟩ rfl rfl rfl ?_
  refine V_iconst (v := nI 0) dX12_asksChances_104 rfl ?_
  refine V_bipush (v := nI 10) dX12_asksChances_105 rfl ?_
  refine V_aload_n dX12_asksChances_107 rfl ?_
  refine V_bipush (v := nI 97) dX12_asksChances_108 rfl ?_
  refine V_iload dX12_asksChances_110 rfl ?_
  refine V_callV (As := [.int (nI 97), .int (nI 10)]) (st := [.int (nI 10), .int (nI 0), .ref 81]) (a := 62) dX12_asksChances_112 kX12_byLaw lX12_344 (by decide) rfl rfl (Nat.le_of_ble_eq_true rfl) ⟨Nat.le_of_ble_eq_true rfl, Nat.le_of_ble_eq_true rfl⟩ ⟨Nat.le_of_ble_eq_true rfl, Nat.le_of_ble_eq_true rfl⟩ rfl ⟨rfl, by decide⟩ (w_byLaw (mpI_g hP (offG_z (offG_z (offG_z (offG_z (offG_z (offG_z (offG_z hO0)))))))) (by omega) (by decide)) ?_
  rintro r sh' I' J' ⟨rfl, rfl, hq9, rfl⟩
  have hO1 := offG_m (offG_z (offG_z (offG_z (offG_z (offG_z (offG_z (offG_z hO0))))))) hq9
  have hF1 : ∀ k, k < 9 → I' 80 k = fct p q l w far k := fun k hk => (congrFun (hq9 80 (by decide)) k).trans (hF0 k hk)
  have hR1 := hq9 81 (by decide)
  refine V_eqI (y := nI A) (by rw [hA]; exact congrArg (fun x => nI (bnd x 10)) (mnL_9 hP.1 hF0 a.length 0 (Nat.zero_add _))) ?_
  refine V_imulN dX12_asksChances_115 ?_
  refine V_iastN (k := 0) dX12_asksChances_116 ⟨Nat.le_of_ble_eq_true rfl, Nat.le_of_ble_eq_true rfl⟩ rfl (by decide) (by omega) ?_
  refine V_iload dX12_asksChances_117 rfl ?_
  refine V_aload_n dX12_asksChances_119 rfl ?_
  refine V_getR (b := 81) dX12_asksChances_120 fX12_65 ⟨Nat.le_of_ble_eq_true rfl, Nat.le_of_ble_eq_true rfl⟩ rfl rfl rfl ?_
  refine V_iconst (v := nI 0) dX12_asksChances_123 rfl ?_
  refine V_ialdN (k := 0) dX12_asksChances_124 ⟨Nat.le_of_ble_eq_true rfl, Nat.le_of_ble_eq_true rfl⟩ rfl (by decide) (by omega) ?_
  refine V_eqI (y := nI (10 * A)) rfl ?_
  refine V_bipush (v := nI 10) dX12_asksChances_125 rfl ?_
  refine V_idivN dX12_asksChances_127 (by omega) (by omega) (by omega) ?_
  refine V_eqI (y := nI A) (congrArg nI (Nat.mul_div_cancel_left _ (by decide))) ?_
  refine V_isubN dX12_asksChances_128 (by omega) ?_
  refine V_istore (ls' := [(4, .int (nI (10 - A))), (0, .ref 62), (1, .int (nI (stN p q l))), (2, .int (nI w)), (3, .int (nI 1))]) dX12_asksChances_129 (by decide) rfl ?_
  refine V_aload_n dX12_asksChances_131 rfl ?_
  refine V_getR (b := 81) dX12_asksChances_132 fX12_65 ⟨Nat.le_of_ble_eq_true rfl, Nat.le_of_ble_eq_true rfl⟩ rfl rfl rfl ?_
  refine V_iconst (v := nI 1) dX12_asksChances_135 rfl ?_
  refine V_bipush (v := nI 10) dX12_asksChances_136 rfl ?_
  refine V_aload_n dX12_asksChances_138 rfl ?_
  refine V_bipush (v := nI 98) dX12_asksChances_139 rfl ?_
  refine V_iload dX12_asksChances_141 rfl ?_
  refine V_callV (As := [.int (nI 98), .int (nI (10 - A))]) (st := [.int (nI 10), .int (nI 1), .ref 81]) (a := 62) dX12_asksChances_143 kX12_byLaw lX12_344 (by decide) rfl rfl (Nat.le_of_ble_eq_true rfl) ⟨Nat.le_of_ble_eq_true rfl, Nat.le_of_ble_eq_true rfl⟩ ⟨Nat.le_of_ble_eq_true rfl, Nat.le_of_ble_eq_true rfl⟩ rfl ⟨rfl, by decide⟩ (w_byLaw (mpI_g hP (offG_z hO1)) (by omega) (by decide)) ?_
  rintro r sh' I' J' ⟨rfl, rfl, hq9, rfl⟩
  have hO2 := offG_m (offG_z hO1) hq9
  have hF2 : ∀ k, k < 9 → I' 80 k = fct p q l w far k := fun k hk => (congrFun (hq9 80 (by decide)) k).trans (hF1 k hk)
  have hR2 := hq9 81 (by decide)
  refine V_eqI (y := nI B) (by rw [hB]; exact congrArg (fun x => nI (bnd x (10 - A))) (mnL_9 hP.1 hF1 a.length 0 (Nat.zero_add _))) ?_
  refine V_imulN dX12_asksChances_146 ?_
  refine V_iastN (k := 1) dX12_asksChances_147 ⟨Nat.le_of_ble_eq_true rfl, Nat.le_of_ble_eq_true rfl⟩ rfl (by decide) (by omega) ?_
  refine V_iload dX12_asksChances_148 rfl ?_
  refine V_aload_n dX12_asksChances_150 rfl ?_
  refine V_getR (b := 81) dX12_asksChances_151 fX12_65 ⟨Nat.le_of_ble_eq_true rfl, Nat.le_of_ble_eq_true rfl⟩ rfl rfl rfl ?_
  refine V_iconst (v := nI 1) dX12_asksChances_154 rfl ?_
  refine V_ialdN (k := 1) dX12_asksChances_155 ⟨Nat.le_of_ble_eq_true rfl, Nat.le_of_ble_eq_true rfl⟩ rfl (by decide) (by omega) ?_
  refine V_eqI (y := nI (10 * B)) rfl ?_
  refine V_bipush (v := nI 10) dX12_asksChances_156 rfl ?_
  refine V_idivN dX12_asksChances_158 (by omega) (by omega) (by omega) ?_
  refine V_eqI (y := nI B) (congrArg nI (Nat.mul_div_cancel_left _ (by decide))) ?_
  refine V_isubN dX12_asksChances_159 (by omega) ?_
  refine V_istore (ls' := [(4, .int (nI ((10 - A) - B))), (0, .ref 62), (1, .int (nI (stN p q l))), (2, .int (nI w)), (3, .int (nI 1))]) dX12_asksChances_160 (by decide) rfl ?_
  refine V_aload_n dX12_asksChances_162 rfl ?_
  refine V_getR (b := 81) dX12_asksChances_163 fX12_65 ⟨Nat.le_of_ble_eq_true rfl, Nat.le_of_ble_eq_true rfl⟩ rfl rfl rfl ?_
  refine V_iconst (v := nI 2) dX12_asksChances_166 rfl ?_
  refine V_bipush (v := nI 10) dX12_asksChances_167 rfl ?_
  refine V_aload_n dX12_asksChances_169 rfl ?_
  refine V_bipush (v := nI 99) dX12_asksChances_170 rfl ?_
  refine V_iload dX12_asksChances_172 rfl ?_
  refine V_callV (As := [.int (nI 99), .int (nI ((10 - A) - B))]) (st := [.int (nI 10), .int (nI 2), .ref 81]) (a := 62) dX12_asksChances_174 kX12_byLaw lX12_344 (by decide) rfl rfl (Nat.le_of_ble_eq_true rfl) ⟨Nat.le_of_ble_eq_true rfl, Nat.le_of_ble_eq_true rfl⟩ ⟨Nat.le_of_ble_eq_true rfl, Nat.le_of_ble_eq_true rfl⟩ rfl ⟨rfl, by decide⟩ (w_byLaw (mpI_g hP (offG_z hO2)) (by omega) (by decide)) ?_
  rintro r sh' I' J' ⟨rfl, rfl, hq9, rfl⟩
  have hO3 := offG_m (offG_z hO2) hq9
  have hF3 : ∀ k, k < 9 → I' 80 k = fct p q l w far k := fun k hk => (congrFun (hq9 80 (by decide)) k).trans (hF2 k hk)
  have hR3 := hq9 81 (by decide)
  refine V_eqI (y := nI C) (by rw [hC]; exact congrArg (fun x => nI (bnd x ((10 - A) - B))) (mnL_9 hP.1 hF2 a.length 0 (Nat.zero_add _))) ?_
  refine V_imulN dX12_asksChances_177 ?_
  refine V_iastN (k := 2) dX12_asksChances_178 ⟨Nat.le_of_ble_eq_true rfl, Nat.le_of_ble_eq_true rfl⟩ rfl (by decide) (by omega) ?_
  refine V_aload_n dX12_asksChances_179 rfl ?_
  refine V_getR (b := 81) dX12_asksChances_180 fX12_65 ⟨Nat.le_of_ble_eq_true rfl, Nat.le_of_ble_eq_true rfl⟩ rfl rfl rfl ?_
  refine V_iconst (v := nI 3) dX12_asksChances_183 rfl ?_
  refine V_bipush (v := nI 10) dX12_asksChances_184 rfl ?_
  refine V_iload dX12_asksChances_186 rfl ?_
  refine V_imulN dX12_asksChances_188 ?_
  refine V_aload_n dX12_asksChances_189 rfl ?_
  refine V_getR (b := 81) dX12_asksChances_190 fX12_65 ⟨Nat.le_of_ble_eq_true rfl, Nat.le_of_ble_eq_true rfl⟩ rfl rfl rfl ?_
  refine V_iconst (v := nI 2) dX12_asksChances_193 rfl ?_
  refine V_ialdN (k := 2) dX12_asksChances_194 ⟨Nat.le_of_ble_eq_true rfl, Nat.le_of_ble_eq_true rfl⟩ rfl (by decide) (by omega) ?_
  refine V_eqI (y := nI (10 * C)) rfl ?_
  refine V_isubN dX12_asksChances_195 (by omega) ?_
  refine V_iastN (k := 3) dX12_asksChances_196 ⟨Nat.le_of_ble_eq_true rfl, Nat.le_of_ble_eq_true rfl⟩ rfl (by decide) (by omega) ?_
  exact V_ret ⟨rfl, dX12_asksChances_197⟩ ⟨Nat.le_of_ble_eq_true rfl, Nat.le_of_ble_eq_true rfl⟩ ⟨rfl, rfl, ⟨(offG_z (offG_z hO3)), fun k hk => by rcases (show k = 0 ∨ k = 1 ∨ k = 2 ∨ k = 3 ∨ k = 4 ∨ k = 5 ∨ k = 6 by omega) with e | e | e | e | e | e | e <;> subst e <;> simp [zwr_at, hR1, hR2, hR3, chV, pTen, lfM, ← hA, ← hB, ← hC, ← hH, ← hK, nI_0] <;> (try exact congrArg nI (by omega))⟩, rfl⟩

set_option maxRecDepth 100000 in
set_option maxHeartbeats 4000000 in
theorem w_asks2 {G : zG} {I : zI} {J : zJ} (hT : mT I) {p q l : Nat} (hp : p < 56) (hq : q < 56) (hl : l ≤ 1) {w : Nat} (hw : w ≤ 1) {far : Nat} (hf : I 62 5 = nI far) {a : List (Nat × List (Nat × Nat) × List (Nat × Nat))} {M : Nat → ((Nat → Int32) → Option Int32) × ((Nat → Int32) → Option Int32)} (hP : mpI I 0 a M) : zK G mX12_asksChances 4 [.ref 62, .int (nI (stN p q l)), .int (nI w), .int (nI 2)] zsh I J (zP (fun r I' J' => r = none ∧ (offG I I' ∧ ∀ k, k < 7 → I' 81 k = nI (chV (lfM a M) (fct p q l w far) 2 k)) ∧ J = J')) := by
  refine zK_of kX12_asksChances.2.2.2.2.1 (Nat.le_of_ble_eq_true rfl) ?_
  show V G mX12_asksChances 4 _ 0 [(0, .ref 62), (1, .int (nI (stN p q l))), (2, .int (nI w)), (3, .int (nI 2))] [] (0, 0) zsh I J
  obtain ⟨A, hA⟩ : ∃ A, A = bnd (mnL a M 97 (fct p q l w far) a.length 0) 10 := ⟨_, rfl⟩
  obtain ⟨B, hB⟩ : ∃ B, B = bnd (mnL a M 98 (fct p q l w far) a.length 0) (10 - A) := ⟨_, rfl⟩
  obtain ⟨C, hC⟩ : ∃ C, C = bnd (mnL a M 99 (fct p q l w far) a.length 0) (10 - A - B) := ⟨_, rfl⟩
  obtain ⟨H, hH⟩ : ∃ H, H = bnd (mnL a M 104 (fct p q l w far) a.length 0) 10 := ⟨_, rfl⟩
  obtain ⟨K, hK⟩ : ∃ K, K = bnd (mnL a M 107 (fct p q l w far) a.length 0) 10 := ⟨_, rfl⟩
  have hA2 : A ≤ 10 := by rw [hA]; exact bnd_le
  have hB2 : B ≤ 10 - A := by rw [hB]; exact bnd_le
  have hC2 : C ≤ 10 - A - B := by rw [hC]; exact bnd_le
  have hH2 : H ≤ 10 := by rw [hH]; exact bnd_le
  have hK2 : K ≤ 10 := by rw [hK]; exact bnd_le
  have hst := stN_lt hp hq hl
  refine V_aload_n dX12_asksChances_0 rfl ?_
  refine V_iload_n dX12_asksChances_1 rfl ?_
  refine V_iload_n dX12_asksChances_2 rfl ?_
  refine V_callV (As := [.int (nI (stN p q l)), .int (nI w)]) (st := []) (a := 62) dX12_asksChances_3 kX12_feels lX12_334 (by decide) rfl rfl (Nat.le_of_ble_eq_true rfl) ⟨Nat.le_of_ble_eq_true rfl, Nat.le_of_ble_eq_true rfl⟩ ⟨Nat.le_of_ble_eq_true rfl, Nat.le_of_ble_eq_true rfl⟩ rfl ⟨rfl, by decide⟩ (w_feels hT hp hq hl hw hf) ?_
  rintro r sh' I' J' ⟨rfl, rfl, hq2, rfl⟩
  have hO0 : offG I I' := fun a _ h _ => hq2.1 a h
  have hF0 := hq2.2
  refine V_iconst (v := nI 0) dX12_asksChances_6 rfl ?_
  refine V_istore (ls' := [(4, .int (nI 0)), (0, .ref 62), (1, .int (nI (stN p q l))), (2, .int (nI w)), (3, .int (nI 2))]) dX12_asksChances_7 (by decide) rfl ?_
  refine V_iload dX12_asksChances_9 rfl ?_
  refine V_bipush (v := nI 7) dX12_asksChances_11 rfl ?_
  refine V_icmp_ge (tgt := 30) dX12_asksChances_13 rfl (fun h => absurd h (by decide)) (fun _ => ?_)
  refine V_aload_n dX12_asksChances_16 rfl ?_
  refine V_getR (b := 81) dX12_asksChances_17 fX12_65 ⟨Nat.le_of_ble_eq_true rfl, Nat.le_of_ble_eq_true rfl⟩ rfl rfl rfl ?_
  refine V_iload dX12_asksChances_20 rfl ?_
  refine V_iconst (v := nI 0) dX12_asksChances_22 rfl ?_
  refine V_iastN (k := 0) dX12_asksChances_23 ⟨Nat.le_of_ble_eq_true rfl, Nat.le_of_ble_eq_true rfl⟩ rfl (by decide) (by omega) ?_
  refine V_iinc (v := nI 1) (ls' := [(4, .int (nI 1)), (0, .ref 62), (1, .int (nI (stN p q l))), (2, .int (nI w)), (3, .int (nI 2))]) dX12_asksChances_24 rfl (by decide) (by decide) rfl ?_
  refine V_goto (tgt := 9) dX12_asksChances_27 rfl ?_
  refine V_iload dX12_asksChances_9 rfl ?_
  refine V_bipush (v := nI 7) dX12_asksChances_11 rfl ?_
  refine V_icmp_ge (tgt := 30) dX12_asksChances_13 rfl (fun h => absurd h (by decide)) (fun _ => ?_)
  refine V_aload_n dX12_asksChances_16 rfl ?_
  refine V_getR (b := 81) dX12_asksChances_17 fX12_65 ⟨Nat.le_of_ble_eq_true rfl, Nat.le_of_ble_eq_true rfl⟩ rfl rfl rfl ?_
  refine V_iload dX12_asksChances_20 rfl ?_
  refine V_iconst (v := nI 0) dX12_asksChances_22 rfl ?_
  refine V_iastN (k := 1) dX12_asksChances_23 ⟨Nat.le_of_ble_eq_true rfl, Nat.le_of_ble_eq_true rfl⟩ rfl (by decide) (by omega) ?_
  refine V_iinc (v := nI 2) (ls' := [(4, .int (nI 2)), (0, .ref 62), (1, .int (nI (stN p q l))), (2, .int (nI w)), (3, .int (nI 2))]) dX12_asksChances_24 rfl (by decide) (by decide) rfl ?_
  refine V_goto (tgt := 9) dX12_asksChances_27 rfl ?_
  refine V_iload dX12_asksChances_9 rfl ?_
  refine V_bipush (v := nI 7) dX12_asksChances_11 rfl ?_
  refine V_icmp_ge (tgt := 30) dX12_asksChances_13 rfl (fun h => absurd h (by decide)) (fun _ => ?_)
  refine V_aload_n dX12_asksChances_16 rfl ?_
  refine V_getR (b := 81) dX12_asksChances_17 fX12_65 ⟨Nat.le_of_ble_eq_true rfl, Nat.le_of_ble_eq_true rfl⟩ rfl rfl rfl ?_
  refine V_iload dX12_asksChances_20 rfl ?_
  refine V_iconst (v := nI 0) dX12_asksChances_22 rfl ?_
  refine V_iastN (k := 2) dX12_asksChances_23 ⟨Nat.le_of_ble_eq_true rfl, Nat.le_of_ble_eq_true rfl⟩ rfl (by decide) (by omega) ?_
  refine V_iinc (v := nI 3) (ls' := [(4, .int (nI 3)), (0, .ref 62), (1, .int (nI (stN p q l))), (2, .int (nI w)), (3, .int (nI 2))]) dX12_asksChances_24 rfl (by decide) (by decide) rfl ?_
  refine V_goto (tgt := 9) dX12_asksChances_27 rfl ?_
  refine V_iload dX12_asksChances_9 rfl ?_
  refine V_bipush (v := nI 7) dX12_asksChances_11 rfl ?_
  refine V_icmp_ge (tgt := 30) dX12_asksChances_13 rfl (fun h => absurd h (by decide)) (fun _ => ?_)
  refine V_aload_n dX12_asksChances_16 rfl ?_
  refine V_getR (b := 81) dX12_asksChances_17 fX12_65 ⟨Nat.le_of_ble_eq_true rfl, Nat.le_of_ble_eq_true rfl⟩ rfl rfl rfl ?_
  refine V_iload dX12_asksChances_20 rfl ?_
  refine V_iconst (v := nI 0) dX12_asksChances_22 rfl ?_
  refine V_iastN (k := 3) dX12_asksChances_23 ⟨Nat.le_of_ble_eq_true rfl, Nat.le_of_ble_eq_true rfl⟩ rfl (by decide) (by omega) ?_
  refine V_iinc (v := nI 4) (ls' := [(4, .int (nI 4)), (0, .ref 62), (1, .int (nI (stN p q l))), (2, .int (nI w)), (3, .int (nI 2))]) dX12_asksChances_24 rfl (by decide) (by decide) rfl ?_
  refine V_goto (tgt := 9) dX12_asksChances_27 rfl ?_
  refine V_iload dX12_asksChances_9 rfl ?_
  refine V_bipush (v := nI 7) dX12_asksChances_11 rfl ?_
  refine V_icmp_ge (tgt := 30) dX12_asksChances_13 rfl (fun h => absurd h (by decide)) (fun _ => ?_)
  refine V_aload_n dX12_asksChances_16 rfl ?_
  refine V_getR (b := 81) dX12_asksChances_17 fX12_65 ⟨Nat.le_of_ble_eq_true rfl, Nat.le_of_ble_eq_true rfl⟩ rfl rfl rfl ?_
  refine V_iload dX12_asksChances_20 rfl ?_
  refine V_iconst (v := nI 0) dX12_asksChances_22 rfl ?_
  refine V_iastN (k := 4) dX12_asksChances_23 ⟨Nat.le_of_ble_eq_true rfl, Nat.le_of_ble_eq_true rfl⟩ rfl (by decide) (by omega) ?_
  refine V_iinc (v := nI 5) (ls' := [(4, .int (nI 5)), (0, .ref 62), (1, .int (nI (stN p q l))), (2, .int (nI w)), (3, .int (nI 2))]) dX12_asksChances_24 rfl (by decide) (by decide) rfl ?_
  refine V_goto (tgt := 9) dX12_asksChances_27 rfl ?_
  refine V_iload dX12_asksChances_9 rfl ?_
  refine V_bipush (v := nI 7) dX12_asksChances_11 rfl ?_
  refine V_icmp_ge (tgt := 30) dX12_asksChances_13 rfl (fun h => absurd h (by decide)) (fun _ => ?_)
  refine V_aload_n dX12_asksChances_16 rfl ?_
  refine V_getR (b := 81) dX12_asksChances_17 fX12_65 ⟨Nat.le_of_ble_eq_true rfl, Nat.le_of_ble_eq_true rfl⟩ rfl rfl rfl ?_
  refine V_iload dX12_asksChances_20 rfl ?_
  refine V_iconst (v := nI 0) dX12_asksChances_22 rfl ?_
  refine V_iastN (k := 5) dX12_asksChances_23 ⟨Nat.le_of_ble_eq_true rfl, Nat.le_of_ble_eq_true rfl⟩ rfl (by decide) (by omega) ?_
  refine V_iinc (v := nI 6) (ls' := [(4, .int (nI 6)), (0, .ref 62), (1, .int (nI (stN p q l))), (2, .int (nI w)), (3, .int (nI 2))]) dX12_asksChances_24 rfl (by decide) (by decide) rfl ?_
  refine V_goto (tgt := 9) dX12_asksChances_27 rfl ?_
  refine V_iload dX12_asksChances_9 rfl ?_
  refine V_bipush (v := nI 7) dX12_asksChances_11 rfl ?_
  refine V_icmp_ge (tgt := 30) dX12_asksChances_13 rfl (fun h => absurd h (by decide)) (fun _ => ?_)
  refine V_aload_n dX12_asksChances_16 rfl ?_
  refine V_getR (b := 81) dX12_asksChances_17 fX12_65 ⟨Nat.le_of_ble_eq_true rfl, Nat.le_of_ble_eq_true rfl⟩ rfl rfl rfl ?_
  refine V_iload dX12_asksChances_20 rfl ?_
  refine V_iconst (v := nI 0) dX12_asksChances_22 rfl ?_
  refine V_iastN (k := 6) dX12_asksChances_23 ⟨Nat.le_of_ble_eq_true rfl, Nat.le_of_ble_eq_true rfl⟩ rfl (by decide) (by omega) ?_
  refine V_iinc (v := nI 7) (ls' := [(4, .int (nI 7)), (0, .ref 62), (1, .int (nI (stN p q l))), (2, .int (nI w)), (3, .int (nI 2))]) dX12_asksChances_24 rfl (by decide) (by decide) rfl ?_
  refine V_goto (tgt := 9) dX12_asksChances_27 rfl ?_
  refine V_iload dX12_asksChances_9 rfl ?_
  refine V_bipush (v := nI 7) dX12_asksChances_11 rfl ?_
  refine V_icmp_ge (tgt := 30) dX12_asksChances_13 rfl (fun _ => ?_) (fun h => absurd h (by decide))
  refine V_iload_n dX12_asksChances_30 rfl ?_
  refine V_iconst (v := nI 2) dX12_asksChances_31 rfl ?_
  refine V_icmp_ne (tgt := 96) dX12_asksChances_32 rfl (fun h => absurd h (by decide)) (fun _ => ?_)
  refine V_aload_n dX12_asksChances_35 rfl ?_
  refine V_bipush (v := nI 104) dX12_asksChances_36 rfl ?_
  refine V_bipush (v := nI 10) dX12_asksChances_38 rfl ?_
  refine V_callV (As := [.int (nI 104), .int (nI 10)]) (st := []) (a := 62) dX12_asksChances_40 kX12_byLaw lX12_344 (by decide) rfl rfl (Nat.le_of_ble_eq_true rfl) ⟨Nat.le_of_ble_eq_true rfl, Nat.le_of_ble_eq_true rfl⟩ ⟨Nat.le_of_ble_eq_true rfl, Nat.le_of_ble_eq_true rfl⟩ rfl ⟨rfl, by decide⟩ (w_byLaw (mpI_g hP (offG_z (offG_z (offG_z (offG_z (offG_z (offG_z (offG_z hO0)))))))) (by omega) (by decide)) ?_
  rintro r sh' I' J' ⟨rfl, rfl, hq9, rfl⟩
  have hO1 := offG_m (offG_z (offG_z (offG_z (offG_z (offG_z (offG_z (offG_z hO0))))))) hq9
  have hF1 : ∀ k, k < 9 → I' 80 k = fct p q l w far k := fun k hk => (congrFun (hq9 80 (by decide)) k).trans (hF0 k hk)
  have hR1 := hq9 81 (by decide)
  refine V_eqI (y := nI H) (by rw [hH]; exact congrArg (fun x => nI (bnd x 10)) (mnL_9 hP.1 hF0 a.length 0 (Nat.zero_add _))) ?_
  refine V_istore (ls' := [(4, .int (nI H)), (0, .ref 62), (1, .int (nI (stN p q l))), (2, .int (nI w)), (3, .int (nI 2))]) dX12_asksChances_43 (by decide) rfl ?_
  refine V_aload_n dX12_asksChances_45 rfl ?_
  refine V_bipush (v := nI 107) dX12_asksChances_46 rfl ?_
  refine V_bipush (v := nI 10) dX12_asksChances_48 rfl ?_
  refine V_callV (As := [.int (nI 107), .int (nI 10)]) (st := []) (a := 62) dX12_asksChances_50 kX12_byLaw lX12_344 (by decide) rfl rfl (Nat.le_of_ble_eq_true rfl) ⟨Nat.le_of_ble_eq_true rfl, Nat.le_of_ble_eq_true rfl⟩ ⟨Nat.le_of_ble_eq_true rfl, Nat.le_of_ble_eq_true rfl⟩ rfl ⟨rfl, by decide⟩ (w_byLaw (mpI_g hP hO1) (by omega) (by decide)) ?_
  rintro r sh' I' J' ⟨rfl, rfl, hq9, rfl⟩
  have hO2 := offG_m hO1 hq9
  have hF2 : ∀ k, k < 9 → I' 80 k = fct p q l w far k := fun k hk => (congrFun (hq9 80 (by decide)) k).trans (hF1 k hk)
  have hR2 := hq9 81 (by decide)
  refine V_eqI (y := nI K) (by rw [hK]; exact congrArg (fun x => nI (bnd x 10)) (mnL_9 hP.1 hF1 a.length 0 (Nat.zero_add _))) ?_
  refine V_istore (ls' := [(5, .int (nI K)), (4, .int (nI H)), (0, .ref 62), (1, .int (nI (stN p q l))), (2, .int (nI w)), (3, .int (nI 2))]) dX12_asksChances_53 (by decide) rfl ?_
  refine V_aload_n dX12_asksChances_55 rfl ?_
  refine V_getR (b := 81) dX12_asksChances_56 fX12_65 ⟨Nat.le_of_ble_eq_true rfl, Nat.le_of_ble_eq_true rfl⟩ rfl rfl rfl ?_
  refine V_iconst (v := nI 4) dX12_asksChances_59 rfl ?_
  refine V_iload dX12_asksChances_60 rfl ?_
  refine V_iload dX12_asksChances_62 rfl ?_
  refine V_imulN dX12_asksChances_64 ?_
  refine V_iastN (k := 4) dX12_asksChances_65 ⟨Nat.le_of_ble_eq_true rfl, Nat.le_of_ble_eq_true rfl⟩ rfl (by decide) (by omega) ?_
  refine V_aload_n dX12_asksChances_66 rfl ?_
  refine V_getR (b := 81) dX12_asksChances_67 fX12_65 ⟨Nat.le_of_ble_eq_true rfl, Nat.le_of_ble_eq_true rfl⟩ rfl rfl rfl ?_
  refine V_iconst (v := nI 5) dX12_asksChances_70 rfl ?_
  refine V_iload dX12_asksChances_71 rfl ?_
  refine V_bipush (v := nI 10) dX12_asksChances_73 rfl ?_
  refine V_iload dX12_asksChances_75 rfl ?_
  refine V_isubN dX12_asksChances_77 (by omega) ?_
  refine V_imulN dX12_asksChances_78 ?_
  refine V_iastN (k := 5) dX12_asksChances_79 ⟨Nat.le_of_ble_eq_true rfl, Nat.le_of_ble_eq_true rfl⟩ rfl (by decide) (by omega) ?_
  refine V_aload_n dX12_asksChances_80 rfl ?_
  refine V_getR (b := 81) dX12_asksChances_81 fX12_65 ⟨Nat.le_of_ble_eq_true rfl, Nat.le_of_ble_eq_true rfl⟩ rfl rfl rfl ?_
  refine V_bipush (v := nI 6) dX12_asksChances_84 rfl ?_
  refine V_bipush (v := nI 100) dX12_asksChances_86 rfl ?_
  refine V_bipush (v := nI 10) dX12_asksChances_88 rfl ?_
  refine V_iload dX12_asksChances_90 rfl ?_
  refine V_imulN dX12_asksChances_92 ?_
  refine V_isubN dX12_asksChances_93 (by omega) ?_
  refine V_iastN (k := 6) dX12_asksChances_94 ⟨Nat.le_of_ble_eq_true rfl, Nat.le_of_ble_eq_true rfl⟩ rfl (by decide) (by omega) ?_
  exact V_ret ⟨rfl, dX12_asksChances_95⟩ ⟨Nat.le_of_ble_eq_true rfl, Nat.le_of_ble_eq_true rfl⟩ ⟨rfl, rfl, ⟨(offG_z (offG_z (offG_z hO2))), fun k hk => by rcases (show k = 0 ∨ k = 1 ∨ k = 2 ∨ k = 3 ∨ k = 4 ∨ k = 5 ∨ k = 6 by omega) with e | e | e | e | e | e | e <;> subst e <;> simp [zwr_at, hR1, hR2, chV, pTen, lfM, ← hA, ← hB, ← hC, ← hH, ← hK, nI_0] <;> (try exact congrArg nI (by omega))⟩, rfl⟩

