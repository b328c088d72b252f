/-! THE MODEL: chances kept -/
theorem chV_le {Lf : Nat → (Nat → Int32) → Int32} {F : Nat → Int32} {th k : Nat} : chV Lf F th k ≤ 100 := by
  unfold chV
  split
  · have h1 := @bnd_le (Lf 97 F) 10
    have h2 := @bnd_le (Lf 98 F) (10 - bnd (Lf 97 F) 10)
    have h3 := @bnd_le (Lf 99 F) (10 - bnd (Lf 97 F) 10 - bnd (Lf 98 F) (10 - bnd (Lf 97 F) 10))
    have h4 := @bnd_le (Lf 104 F) 10
    have h5 := @bnd_le (Lf 107 F) 10
    generalize bnd (Lf 99 F) (10 - bnd (Lf 97 F) 10 - bnd (Lf 98 F) (10 - bnd (Lf 97 F) 10)) = C at *
    generalize bnd (Lf 98 F) (10 - bnd (Lf 97 F) 10) = B at *
    generalize bnd (Lf 97 F) 10 = A at *
    generalize bnd (Lf 104 F) 10 = H at *
    generalize bnd (Lf 107 F) 10 = K at *
    have m1 : H * K ≤ 10 * 10 := Nat.mul_le_mul h4 h5
    have m2 : H * (10 - K) ≤ 10 * 10 := Nat.mul_le_mul h4 (Nat.sub_le _ _)
    unfold pTen
    repeat' split
    all_goals omega
  · omega
theorem by8 {n : Nat} (h : n ≤ 100) : vp_nar .byte ((nI n).toInt8.toInt32) = nI n := co_dec (P := fun n => vp_nar .byte ((nI n).toInt8.toInt32) = nI n) (N := 101) (by decide +kernel) (by omega)
/-- what is kept of chances for one length -/
def chI (I : zI) (Lf : Nat → (Nat → Int32) → Int32) (far : Nat) : Prop := ∀ p q l th, p < 56 → q < 56 → l ≤ 1 → (th = 1 ∨ th = 2) → I 82 (14 * stN p q l + 7 * (th - 1)) = -1 ∨ ∀ k, k < 7 → I 82 (14 * stN p q l + 7 * (th - 1) + k) = nI (chV Lf (fct p q l (sWho p q l) far) th k)
def chA (I : zI) (Lf : Nat → (Nat → Int32) → Int32) : Prop := ∀ f, 6 ≤ f → f ≤ 10 → I 62 32 = nI f → chI I Lf f
def offL (I I' : zI) : Prop := (∀ a, a ≠ 62 → a ≠ 79 → a ≠ 80 → a ≠ 81 → a ≠ 82 → I' a = I a) ∧ ∀ k, k ≠ 32 → I' 62 k = I 62 k
theorem offL_r {I : zI} : offL I I := ⟨fun _ _ _ _ _ _ => rfl, fun _ _ => rfl⟩
theorem offL_t {A B C : zI} (h : offL A B) (h2 : offL B C) : offL A C := ⟨fun a h1 h3 h4 h5 h6 => (h2.1 a h1 h3 h4 h5 h6).trans (h.1 a h1 h3 h4 h5 h6), fun k hk => (h2.2 k hk).trans (h.2 k hk)⟩
theorem offL_g {A B C : zI} (h : offL A B) (h2 : offG B C) : offL A C := ⟨fun a h1 h3 h4 h5 h6 => (h2 a h3 h4 h5).trans (h.1 a h1 h3 h4 h5 h6), fun k hk => (congrFun (h2 62 (by decide) (by decide) (by decide)) k).trans (h.2 k hk)⟩
theorem offL_z {I H : zI} {a0 k : Nat} {x : Int32} (h : offL I H) (ha : a0 = 81 ∨ a0 = 82) : offL I (zwr H a0 k x) := ⟨fun a h1 h2 h3 h4 h5 => by
  rw [← h.1 a h1 h2 h3 h4 h5]
  funext j
  have : a ≠ a0 := by omega
  simp [zwr_at, this], fun j hj => by
  rw [← h.2 j hj]
  have : 62 ≠ a0 := by omega
  simp [zwr_at, this]⟩
theorem mpI_l {I I' : zI} {t : Nat} {a : List (Nat × List (Nat × Nat) × List (Nat × Nat))} {M : Nat → ((Nat → Int32) → Option Int32) × ((Nat → Int32) → Option Int32)} (h : mpI I t a M) (e : offL I I') : mpI I' t a M := mpI_c h (fun k h1 h2 => e.1 k (by omega) (by omega) (by omega) (by omega) (by omega))
theorem mT_l {I I' : zI} (h : mT I) (e : offL I I') : mT I' := mT_c h (e.1 63 (by decide) (by decide) (by decide) (by decide) (by decide)) (e.1 64 (by decide) (by decide) (by decide) (by decide) (by decide)) (e.1 65 (by decide) (by decide) (by decide) (by decide) (by decide))
theorem stN_inj {p q l p' q' l' : Nat} (hq : q < 56) (hl : l ≤ 1) (hq' : q' < 56) (hl' : l' ≤ 1) (h : stN p q l = stN p' q' l') : p = p' ∧ q = q' ∧ l = l' := ⟨(stN_p hq hl).symm.trans ((congrArg (fun x => x / 2 / 56) h).trans (stN_p hq' hl')), (stN_q hq hl).symm.trans ((congrArg (fun x => x / 2 % 56) h).trans (stN_q hq' hl')), (stN_l hl).symm.trans ((congrArg (fun x => x % 2) h).trans (stN_l hl'))⟩
theorem w_asks {G : zG} {I : zI} {J : zJ} (hT : mT I) {p q l : Nat} (hp : p < 56) (hq : q < 56) (hl : l ≤ 1) {far : Nat} {a : List (Nat × List (Nat × Nat) × List (Nat × Nat))} {M : Nat → ((Nat → Int32) → Option Int32) × ((Nat → Int32) → Option Int32)} (hf : I 62 5 = nI far) (hP : mpI I 0 a M) {w : Nat} (hw : w ≤ 1) {th : Nat} (hth : th = 1 ∨ th = 2) : zK G mX12_asksChances 4 [.ref 62, .int (nI (stN p q l)), .int (nI w), .int (nI th)] zsh I J (zP (fun r I' J' => r = none ∧ (offG I I' ∧ ∀ k, k < 7 → I' 81 k = nI (chV (lfM a M) (fct p q l w far) th k)) ∧ J = J')) := by
  rcases hth with e | e <;> subst e
  · exact w_asks1 hT hp hq hl hw hf hP
  · exact w_asks2 hT hp hq hl hw hf hP
theorem chI_w {I I' : zI} {Lf : Nat → (Nat → Int32) → Int32} {far : Nat} (h : chI I Lf far) {p q l th b : Nat} (hp : p < 56) (hq : q < 56) (hl : l ≤ 1) (hth : th = 1 ∨ th = 2) (hb : b = 14 * stN p q l + 7 * (th - 1)) (h1 : ∀ k, k < 7 → I' 82 (b + k) = nI (chV Lf (fct p q l (sWho p q l) far) th k)) (h2 : ∀ j, (j < b ∨ b + 7 ≤ j) → I' 82 j = I 82 j) : chI I' Lf far := by
  intro p' q' l' th' hp' hq' hl' hth'
  by_cases e : 14 * stN p' q' l' + 7 * (th' - 1) = b
  · have e2 : stN p' q' l' = stN p q l ∧ th' = th := by omega
    obtain ⟨e3, e4, e5⟩ := stN_inj hq' hl' hq hl e2.1
    have e6 := e2.2
    subst e3 e4 e5 e6
    rw [e]
    exact Or.inr h1
  · rcases h p' q' l' th' hp' hq' hl' hth' with h3 | h3
    · exact Or.inl ((h2 _ (by omega)).trans h3)
    · exact Or.inr (fun k hk => (h2 _ (by omega)).trans (h3 k hk))
set_option maxRecDepth 100000 in
set_option maxHeartbeats 4000000 in
theorem lays47 {G : zG} {I I1 : zI} {J : zJ} (hT : mT I) {p q l : Nat} (hp : p < 56) (hq : q < 56) (hl : l ≤ 1) {far : Nat} {a : List (Nat × List (Nat × Nat) × List (Nat × Nat))} {M : Nat → ((Nat → Int32) → Option Int32) × ((Nat → Int32) → Option Int32)} (hP : mpI I 0 a M) (hw : sWho p q l ≤ 1) {th : Nat} (hth : th = 1 ∨ th = 2) (h0 : offL I I1) (hf : I1 62 5 = nI far) (h32 : I1 62 32 = nI far) (hc : chI I1 (lfM a M) far) : V G mX12_laysChances 5 (zP (fun r I' J' => r = none ∧ (offL I I' ∧ (∀ k, k < 7 → I' 81 k = nI (chV (lfM a M) (fct p q l (sWho p q l) far) th k)) ∧ I' 62 32 = nI far ∧ chI I' (lfM a M) far) ∧ J = J')) 47 [(0, .ref 62), (1, .int (nI (stN p q l))), (2, .int (nI (sWho p q l))), (3, .int (nI th))] [] (0, 0) zsh I1 J := by
  have hst := stN_lt hp hq hl
  obtain ⟨b, hb⟩ : ∃ b, b = 14 * stN p q l + 7 * (th - 1) := ⟨_, rfl⟩
  refine V_bipush (v := nI 14) dX12_laysChances_47 rfl ?_
  refine V_iload_n dX12_laysChances_49 rfl ?_
  refine V_imulN dX12_laysChances_50 ?_
  refine V_bipush (v := nI 7) dX12_laysChances_51 rfl ?_
  refine V_iload_n dX12_laysChances_53 rfl ?_
  refine V_iconst (v := nI 1) dX12_laysChances_54 rfl ?_
  refine V_isubN dX12_laysChances_55 (by omega) ?_
  refine V_imulN dX12_laysChances_56 ?_
  refine V_iaddN dX12_laysChances_57 ?_
  refine V_eqI (y := nI b) (congrArg nI hb.symm) ?_
  refine V_istore (ls' := [(4, .int (nI b)), (0, .ref 62), (1, .int (nI (stN p q l))), (2, .int (nI (sWho p q l))), (3, .int (nI th))]) dX12_laysChances_58 (by decide) rfl ?_
  refine V_aload_n dX12_laysChances_60 rfl ?_
  refine V_getR (b := 82) dX12_laysChances_61 fX12_69 ⟨Nat.le_of_ble_eq_true rfl, Nat.le_of_ble_eq_true rfl⟩ rfl rfl rfl ?_
  refine V_iload dX12_laysChances_64 rfl ?_
  refine V_baldN (k := b) dX12_laysChances_66 ⟨Nat.le_of_ble_eq_true rfl, Nat.le_of_ble_eq_true rfl⟩ rfl (by decide) (by omega) ?_
  refine V_iconst (v := (-1)) dX12_laysChances_67 rfl ?_
  refine V_icmp_ne (tgt := 113) dX12_laysChances_68 rfl (fun h68 => ?_) (fun h68 => ?_)
  · skip
    have hrow : ∀ k, k < 7 → I1 82 (b + k) = nI (chV (lfM a M) (fct p q l (sWho p q l) far) th k) := by have := (hc p q l th hp hq hl hth).resolve_left (by rw [← hb]; exact h68); rw [← hb] at this; exact this
    refine V_iconst (v := nI 0) dX12_laysChances_113 rfl ?_
    refine V_istore (ls' := [(5, .int (nI 0)), (4, .int (nI b)), (0, .ref 62), (1, .int (nI (stN p q l))), (2, .int (nI (sWho p q l))), (3, .int (nI th))]) dX12_laysChances_114 (by decide) rfl ?_
    refine V_iload dX12_laysChances_116 rfl ?_
    refine V_bipush (v := nI 7) dX12_laysChances_118 rfl ?_
    refine V_icmp_ge (tgt := 146) dX12_laysChances_120 rfl (fun h => absurd h (by decide)) (fun _ => ?_)
    refine V_aload_n dX12_laysChances_123 rfl ?_
    refine V_getR (b := 81) dX12_laysChances_124 fX12_65 ⟨Nat.le_of_ble_eq_true rfl, Nat.le_of_ble_eq_true rfl⟩ rfl rfl rfl ?_
    refine V_iload dX12_laysChances_127 rfl ?_
    refine V_aload_n dX12_laysChances_129 rfl ?_
    refine V_getR (b := 82) dX12_laysChances_130 fX12_69 ⟨Nat.le_of_ble_eq_true rfl, Nat.le_of_ble_eq_true rfl⟩ rfl rfl rfl ?_
    refine V_iload dX12_laysChances_133 rfl ?_
    refine V_iload dX12_laysChances_135 rfl ?_
    refine V_iaddN dX12_laysChances_137 ?_
    refine V_eqI (y := nI b) rfl ?_
    refine V_baldN (k := b) dX12_laysChances_138 ⟨Nat.le_of_ble_eq_true rfl, Nat.le_of_ble_eq_true rfl⟩ rfl (by decide) (by omega) ?_
    refine V_iastN (k := 0) dX12_laysChances_139 ⟨Nat.le_of_ble_eq_true rfl, Nat.le_of_ble_eq_true rfl⟩ rfl (by decide) (by omega) ?_
    refine V_iinc (v := nI 1) (ls' := [(5, .int (nI 1)), (4, .int (nI b)), (0, .ref 62), (1, .int (nI (stN p q l))), (2, .int (nI (sWho p q l))), (3, .int (nI th))]) dX12_laysChances_140 rfl (by decide) (by decide) rfl ?_
    refine V_goto (tgt := 116) dX12_laysChances_143 rfl ?_
    refine V_iload dX12_laysChances_116 rfl ?_
    refine V_bipush (v := nI 7) dX12_laysChances_118 rfl ?_
    refine V_icmp_ge (tgt := 146) dX12_laysChances_120 rfl (fun h => absurd h (by decide)) (fun _ => ?_)
    refine V_aload_n dX12_laysChances_123 rfl ?_
    refine V_getR (b := 81) dX12_laysChances_124 fX12_65 ⟨Nat.le_of_ble_eq_true rfl, Nat.le_of_ble_eq_true rfl⟩ rfl rfl rfl ?_
    refine V_iload dX12_laysChances_127 rfl ?_
    refine V_aload_n dX12_laysChances_129 rfl ?_
    refine V_getR (b := 82) dX12_laysChances_130 fX12_69 ⟨Nat.le_of_ble_eq_true rfl, Nat.le_of_ble_eq_true rfl⟩ rfl rfl rfl ?_
    refine V_iload dX12_laysChances_133 rfl ?_
    refine V_iload dX12_laysChances_135 rfl ?_
    refine V_iaddN dX12_laysChances_137 ?_
    refine V_baldN (k := b + 1) dX12_laysChances_138 ⟨Nat.le_of_ble_eq_true rfl, Nat.le_of_ble_eq_true rfl⟩ rfl (by decide) (by omega) ?_
    refine V_eqI (y := I1 82 (b + 1)) rfl ?_
    refine V_iastN (k := 1) dX12_laysChances_139 ⟨Nat.le_of_ble_eq_true rfl, Nat.le_of_ble_eq_true rfl⟩ rfl (by decide) (by omega) ?_
    refine V_iinc (v := nI 2) (ls' := [(5, .int (nI 2)), (4, .int (nI b)), (0, .ref 62), (1, .int (nI (stN p q l))), (2, .int (nI (sWho p q l))), (3, .int (nI th))]) dX12_laysChances_140 rfl (by decide) (by decide) rfl ?_
    refine V_goto (tgt := 116) dX12_laysChances_143 rfl ?_
    refine V_iload dX12_laysChances_116 rfl ?_
    refine V_bipush (v := nI 7) dX12_laysChances_118 rfl ?_
    refine V_icmp_ge (tgt := 146) dX12_laysChances_120 rfl (fun h => absurd h (by decide)) (fun _ => ?_)
    refine V_aload_n dX12_laysChances_123 rfl ?_
    refine V_getR (b := 81) dX12_laysChances_124 fX12_65 ⟨Nat.le_of_ble_eq_true rfl, Nat.le_of_ble_eq_true rfl⟩ rfl rfl rfl ?_
    refine V_iload dX12_laysChances_127 rfl ?_
    refine V_aload_n dX12_laysChances_129 rfl ?_
    refine V_getR (b := 82) dX12_laysChances_130 fX12_69 ⟨Nat.le_of_ble_eq_true rfl, Nat.le_of_ble_eq_true rfl⟩ rfl rfl rfl ?_
    refine V_iload dX12_laysChances_133 rfl ?_
    refine V_iload dX12_laysChances_135 rfl ?_
    refine V_iaddN dX12_laysChances_137 ?_
    refine V_baldN (k := b + 2) dX12_laysChances_138 ⟨Nat.le_of_ble_eq_true rfl, Nat.le_of_ble_eq_true rfl⟩ rfl (by decide) (by omega) ?_
    refine V_eqI (y := I1 82 (b + 2)) rfl ?_
    refine V_iastN (k := 2) dX12_laysChances_139 ⟨Nat.le_of_ble_eq_true rfl, Nat.le_of_ble_eq_true rfl⟩ rfl (by decide) (by omega) ?_
    refine V_iinc (v := nI 3) (ls' := [(5, .int (nI 3)), (4, .int (nI b)), (0, .ref 62), (1, .int (nI (stN p q l))), (2, .int (nI (sWho p q l))), (3, .int (nI th))]) dX12_laysChances_140 rfl (by decide) (by decide) rfl ?_
    refine V_goto (tgt := 116) dX12_laysChances_143 rfl ?_
    refine V_iload dX12_laysChances_116 rfl ?_
    refine V_bipush (v := nI 7) dX12_laysChances_118 rfl ?_
    refine V_icmp_ge (tgt := 146) dX12_laysChances_120 rfl (fun h => absurd h (by decide)) (fun _ => ?_)
    refine V_aload_n dX12_laysChances_123 rfl ?_
    refine V_getR (b := 81) dX12_laysChances_124 fX12_65 ⟨Nat.le_of_ble_eq_true rfl, Nat.le_of_ble_eq_true rfl⟩ rfl rfl rfl ?_
    refine V_iload dX12_laysChances_127 rfl ?_
    refine V_aload_n dX12_laysChances_129 rfl ?_
    refine V_getR (b := 82) dX12_laysChances_130 fX12_69 ⟨Nat.le_of_ble_eq_true rfl, Nat.le_of_ble_eq_true rfl⟩ rfl rfl rfl ?_
    refine V_iload dX12_laysChances_133 rfl ?_
    refine V_iload dX12_laysChances_135 rfl ?_
    refine V_iaddN dX12_laysChances_137 ?_
    refine V_baldN (k := b + 3) dX12_laysChances_138 ⟨Nat.le_of_ble_eq_true rfl, Nat.le_of_ble_eq_true rfl⟩ rfl (by decide) (by omega) ?_
    refine V_eqI (y := I1 82 (b + 3)) rfl ?_
    refine V_iastN (k := 3) dX12_laysChances_139 ⟨Nat.le_of_ble_eq_true rfl, Nat.le_of_ble_eq_true rfl⟩ rfl (by decide) (by omega) ?_
    refine V_iinc (v := nI 4) (ls' := [(5, .int (nI 4)), (4, .int (nI b)), (0, .ref 62), (1, .int (nI (stN p q l))), (2, .int (nI (sWho p q l))), (3, .int (nI th))]) dX12_laysChances_140 rfl (by decide) (by decide) rfl ?_
    refine V_goto (tgt := 116) dX12_laysChances_143 rfl ?_
    refine V_iload dX12_laysChances_116 rfl ?_
    refine V_bipush (v := nI 7) dX12_laysChances_118 rfl ?_
    refine V_icmp_ge (tgt := 146) dX12_laysChances_120 rfl (fun h => absurd h (by decide)) (fun _ => ?_)
    refine V_aload_n dX12_laysChances_123 rfl ?_
    refine V_getR (b := 81) dX12_laysChances_124 fX12_65 ⟨Nat.le_of_ble_eq_true rfl, Nat.le_of_ble_eq_true rfl⟩ rfl rfl rfl ?_
    refine V_iload dX12_laysChances_127 rfl ?_
    refine V_aload_n dX12_laysChances_129 rfl ?_
    refine V_getR (b := 82) dX12_laysChances_130 fX12_69 ⟨Nat.le_of_ble_eq_true rfl, Nat.le_of_ble_eq_true rfl⟩ rfl rfl rfl ?_
    refine V_iload dX12_laysChances_133 rfl ?_
    refine V_iload dX12_laysChances_135 rfl ?_
    refine V_iaddN dX12_laysChances_137 ?_
    refine V_baldN (k := b + 4) dX12_laysChances_138 ⟨Nat.le_of_ble_eq_true rfl, Nat.le_of_ble_eq_true rfl⟩ rfl (by decide) (by omega) ?_
    refine V_eqI (y := I1 82 (b + 4)) rfl ?_
    refine V_iastN (k := 4) dX12_laysChances_139 ⟨Nat.le_of_ble_eq_true rfl, Nat.le_of_ble_eq_true rfl⟩ rfl (by decide) (by omega) ?_
    refine V_iinc (v := nI 5) (ls' := [(5, .int (nI 5)), (4, .int (nI b)), (0, .ref 62), (1, .int (nI (stN p q l))), (2, .int (nI (sWho p q l))), (3, .int (nI th))]) dX12_laysChances_140 rfl (by decide) (by decide) rfl ?_
    refine V_goto (tgt := 116) dX12_laysChances_143 rfl ?_
    refine V_iload dX12_laysChances_116 rfl ?_
    refine V_bipush (v := nI 7) dX12_laysChances_118 rfl ?_
    refine V_icmp_ge (tgt := 146) dX12_laysChances_120 rfl (fun h => absurd h (by decide)) (fun _ => ?_)
    refine V_aload_n dX12_laysChances_123 rfl ?_
    refine V_getR (b := 81) dX12_laysChances_124 fX12_65 ⟨Nat.le_of_ble_eq_true rfl, Nat.le_of_ble_eq_true rfl⟩ rfl rfl rfl ?_
    refine V_iload dX12_laysChances_127 rfl ?_
    refine V_aload_n dX12_laysChances_129 rfl ?_
    refine V_getR (b := 82) dX12_laysChances_130 fX12_69 ⟨Nat.le_of_ble_eq_true rfl, Nat.le_of_ble_eq_true rfl⟩ rfl rfl rfl ?_
    refine V_iload dX12_laysChances_133 rfl ?_
    refine V_iload dX12_laysChances_135 rfl ?_
    refine V_iaddN dX12_laysChances_137 ?_
    refine V_baldN (k := b + 5) dX12_laysChances_138 ⟨Nat.le_of_ble_eq_true rfl, Nat.le_of_ble_eq_true rfl⟩ rfl (by decide) (by omega) ?_
    refine V_eqI (y := I1 82 (b + 5)) rfl ?_
    refine V_iastN (k := 5) dX12_laysChances_139 ⟨Nat.le_of_ble_eq_true rfl, Nat.le_of_ble_eq_true rfl⟩ rfl (by decide) (by omega) ?_
    refine V_iinc (v := nI 6) (ls' := [(5, .int (nI 6)), (4, .int (nI b)), (0, .ref 62), (1, .int (nI (stN p q l))), (2, .int (nI (sWho p q l))), (3, .int (nI th))]) dX12_laysChances_140 rfl (by decide) (by decide) rfl ?_
    refine V_goto (tgt := 116) dX12_laysChances_143 rfl ?_
    refine V_iload dX12_laysChances_116 rfl ?_
    refine V_bipush (v := nI 7) dX12_laysChances_118 rfl ?_
    refine V_icmp_ge (tgt := 146) dX12_laysChances_120 rfl (fun h => absurd h (by decide)) (fun _ => ?_)
    refine V_aload_n dX12_laysChances_123 rfl ?_
    refine V_getR (b := 81) dX12_laysChances_124 fX12_65 ⟨Nat.le_of_ble_eq_true rfl, Nat.le_of_ble_eq_true rfl⟩ rfl rfl rfl ?_
    refine V_iload dX12_laysChances_127 rfl ?_
    refine V_aload_n dX12_laysChances_129 rfl ?_
    refine V_getR (b := 82) dX12_laysChances_130 fX12_69 ⟨Nat.le_of_ble_eq_true rfl, Nat.le_of_ble_eq_true rfl⟩ rfl rfl rfl ?_
    refine V_iload dX12_laysChances_133 rfl ?_
    refine V_iload dX12_laysChances_135 rfl ?_
    refine V_iaddN dX12_laysChances_137 ?_
    refine V_baldN (k := b + 6) dX12_laysChances_138 ⟨Nat.le_of_ble_eq_true rfl, Nat.le_of_ble_eq_true rfl⟩ rfl (by decide) (by omega) ?_
    refine V_eqI (y := I1 82 (b + 6)) rfl ?_
    refine V_iastN (k := 6) dX12_laysChances_139 ⟨Nat.le_of_ble_eq_true rfl, Nat.le_of_ble_eq_true rfl⟩ rfl (by decide) (by omega) ?_
    refine V_iinc (v := nI 7) (ls' := [(5, .int (nI 7)), (4, .int (nI b)), (0, .ref 62), (1, .int (nI (stN p q l))), (2, .int (nI (sWho p q l))), (3, .int (nI th))]) dX12_laysChances_140 rfl (by decide) (by decide) rfl ?_
    refine V_goto (tgt := 116) dX12_laysChances_143 rfl ?_
    refine V_iload dX12_laysChances_116 rfl ?_
    refine V_bipush (v := nI 7) dX12_laysChances_118 rfl ?_
    refine V_icmp_ge (tgt := 146) dX12_laysChances_120 rfl (fun _ => ?_) (fun h => absurd h (by decide))
    exact V_ret ⟨rfl, dX12_laysChances_146⟩ ⟨Nat.le_of_ble_eq_true rfl, Nat.le_of_ble_eq_true rfl⟩ ⟨rfl, rfl, ⟨(offL_z (offL_z (offL_z (offL_z (offL_z (offL_z (offL_z h0 (by decide)) (by decide)) (by decide)) (by decide)) (by decide)) (by decide)) (by decide)), fun k hk => by rcases (show k = 0 ∨ k = 1 ∨ k = 2 ∨ k = 3 ∨ k = 4 ∨ k = 5 ∨ k = 6 by omega) with e | e | e | e | e | e | e <;> subst e <;> exact (hrow _ hk), h32, hc⟩, rfl⟩
  · skip
    refine V_aload_n dX12_laysChances_71 rfl ?_
    refine V_iload_n dX12_laysChances_72 rfl ?_
    refine V_iload_n dX12_laysChances_73 rfl ?_
    refine V_iload_n dX12_laysChances_74 rfl ?_
    refine V_callV (As := [.int (nI (stN p q l)), .int (nI (sWho p q l)), .int (nI th)]) (st := []) (a := 62) dX12_laysChances_75 kX12_asksChances lX12_340 (by decide) rfl rfl (Nat.le_of_ble_eq_true rfl) ⟨Nat.le_of_ble_eq_true rfl, Nat.le_of_ble_eq_true rfl⟩ ⟨Nat.le_of_ble_eq_true rfl, Nat.le_of_ble_eq_true rfl⟩ rfl ⟨rfl, by decide⟩ (w_asks (mT_l hT h0) hp hq hl hf (mpI_l hP h0) hw hth) ?_
    rintro r sh' I' J' ⟨rfl, rfl, hq9, rfl⟩
    have h0b := offL_g h0 hq9.1
    have h82 : I' 82 = I1 82 := hq9.1 82 (by decide) (by decide) (by decide)
    have h62 : I' 62 = I1 62 := hq9.1 62 (by decide) (by decide) (by decide)
    refine V_iconst (v := nI 0) dX12_laysChances_78 rfl ?_
    refine V_istore (ls' := [(5, .int (nI 0)), (4, .int (nI b)), (0, .ref 62), (1, .int (nI (stN p q l))), (2, .int (nI (sWho p q l))), (3, .int (nI th))]) dX12_laysChances_79 (by decide) rfl ?_
    refine V_iload dX12_laysChances_81 rfl ?_
    refine V_bipush (v := nI 7) dX12_laysChances_83 rfl ?_
    refine V_icmp_ge (tgt := 112) dX12_laysChances_85 rfl (fun h => absurd h (by decide)) (fun _ => ?_)
    refine V_aload_n dX12_laysChances_88 rfl ?_
    refine V_getR (b := 82) dX12_laysChances_89 fX12_69 ⟨Nat.le_of_ble_eq_true rfl, Nat.le_of_ble_eq_true rfl⟩ rfl rfl rfl ?_
    refine V_iload dX12_laysChances_92 rfl ?_
    refine V_iload dX12_laysChances_94 rfl ?_
    refine V_iaddN dX12_laysChances_96 ?_
    refine V_eqI (y := nI b) rfl ?_
    refine V_aload_n dX12_laysChances_97 rfl ?_
    refine V_getR (b := 81) dX12_laysChances_98 fX12_65 ⟨Nat.le_of_ble_eq_true rfl, Nat.le_of_ble_eq_true rfl⟩ rfl rfl rfl ?_
    refine V_iload dX12_laysChances_101 rfl ?_
    refine V_ialdN (k := 0) dX12_laysChances_103 ⟨Nat.le_of_ble_eq_true rfl, Nat.le_of_ble_eq_true rfl⟩ rfl (by decide) (by omega) ?_
    refine V_eqI (y := nI (chV (lfM a M) (fct p q l (sWho p q l) far) th 0)) (hq9.2 0 (by decide)) ?_
    refine V_i2b dX12_laysChances_104 ?_
    refine V_bastN (k := b) dX12_laysChances_105 ⟨Nat.le_of_ble_eq_true rfl, Nat.le_of_ble_eq_true rfl⟩ rfl (by decide) (by omega) ?_
    refine V_iinc (v := nI 1) (ls' := [(5, .int (nI 1)), (4, .int (nI b)), (0, .ref 62), (1, .int (nI (stN p q l))), (2, .int (nI (sWho p q l))), (3, .int (nI th))]) dX12_laysChances_106 rfl (by decide) (by decide) rfl ?_
    refine V_goto (tgt := 81) dX12_laysChances_109 rfl ?_
    refine V_iload dX12_laysChances_81 rfl ?_
    refine V_bipush (v := nI 7) dX12_laysChances_83 rfl ?_
    refine V_icmp_ge (tgt := 112) dX12_laysChances_85 rfl (fun h => absurd h (by decide)) (fun _ => ?_)
    refine V_aload_n dX12_laysChances_88 rfl ?_
    refine V_getR (b := 82) dX12_laysChances_89 fX12_69 ⟨Nat.le_of_ble_eq_true rfl, Nat.le_of_ble_eq_true rfl⟩ rfl rfl rfl ?_
    refine V_iload dX12_laysChances_92 rfl ?_
    refine V_iload dX12_laysChances_94 rfl ?_
    refine V_iaddN dX12_laysChances_96 ?_
    refine V_aload_n dX12_laysChances_97 rfl ?_
    refine V_getR (b := 81) dX12_laysChances_98 fX12_65 ⟨Nat.le_of_ble_eq_true rfl, Nat.le_of_ble_eq_true rfl⟩ rfl rfl rfl ?_
    refine V_iload dX12_laysChances_101 rfl ?_
    refine V_ialdN (k := 1) dX12_laysChances_103 ⟨Nat.le_of_ble_eq_true rfl, Nat.le_of_ble_eq_true rfl⟩ rfl (by decide) (by omega) ?_
    refine V_eqI (y := I' 81 1) rfl ?_
    refine V_eqI (y := nI (chV (lfM a M) (fct p q l (sWho p q l) far) th 1)) (hq9.2 1 (by decide)) ?_
    refine V_i2b dX12_laysChances_104 ?_
    refine V_bastN (k := b + 1) dX12_laysChances_105 ⟨Nat.le_of_ble_eq_true rfl, Nat.le_of_ble_eq_true rfl⟩ rfl (by decide) (by omega) ?_
    refine V_iinc (v := nI 2) (ls' := [(5, .int (nI 2)), (4, .int (nI b)), (0, .ref 62), (1, .int (nI (stN p q l))), (2, .int (nI (sWho p q l))), (3, .int (nI th))]) dX12_laysChances_106 rfl (by decide) (by decide) rfl ?_
    refine V_goto (tgt := 81) dX12_laysChances_109 rfl ?_
    refine V_iload dX12_laysChances_81 rfl ?_
    refine V_bipush (v := nI 7) dX12_laysChances_83 rfl ?_
    refine V_icmp_ge (tgt := 112) dX12_laysChances_85 rfl (fun h => absurd h (by decide)) (fun _ => ?_)
    refine V_aload_n dX12_laysChances_88 rfl ?_
    refine V_getR (b := 82) dX12_laysChances_89 fX12_69 ⟨Nat.le_of_ble_eq_true rfl, Nat.le_of_ble_eq_true rfl⟩ rfl rfl rfl ?_
    refine V_iload dX12_laysChances_92 rfl ?_
    refine V_iload dX12_laysChances_94 rfl ?_
    refine V_iaddN dX12_laysChances_96 ?_
    refine V_aload_n dX12_laysChances_97 rfl ?_
    refine V_getR (b := 81) dX12_laysChances_98 fX12_65 ⟨Nat.le_of_ble_eq_true rfl, Nat.le_of_ble_eq_true rfl⟩ rfl rfl rfl ?_
    refine V_iload dX12_laysChances_101 rfl ?_
    refine V_ialdN (k := 2) dX12_laysChances_103 ⟨Nat.le_of_ble_eq_true rfl, Nat.le_of_ble_eq_true rfl⟩ rfl (by decide) (by omega) ?_
    refine V_eqI (y := I' 81 2) rfl ?_
    refine V_eqI (y := nI (chV (lfM a M) (fct p q l (sWho p q l) far) th 2)) (hq9.2 2 (by decide)) ?_
    refine V_i2b dX12_laysChances_104 ?_
    refine V_bastN (k := b + 2) dX12_laysChances_105 ⟨Nat.le_of_ble_eq_true rfl, Nat.le_of_ble_eq_true rfl⟩ rfl (by decide) (by omega) ?_
    refine V_iinc (v := nI 3) (ls' := [(5, .int (nI 3)), (4, .int (nI b)), (0, .ref 62), (1, .int (nI (stN p q l))), (2, .int (nI (sWho p q l))), (3, .int (nI th))]) dX12_laysChances_106 rfl (by decide) (by decide) rfl ?_
    refine V_goto (tgt := 81) dX12_laysChances_109 rfl ?_
    refine V_iload dX12_laysChances_81 rfl ?_
    refine V_bipush (v := nI 7) dX12_laysChances_83 rfl ?_
    refine V_icmp_ge (tgt := 112) dX12_laysChances_85 rfl (fun h => absurd h (by decide)) (fun _ => ?_)
    refine V_aload_n dX12_laysChances_88 rfl ?_
    refine V_getR (b := 82) dX12_laysChances_89 fX12_69 ⟨Nat.le_of_ble_eq_true rfl, Nat.le_of_ble_eq_true rfl⟩ rfl rfl rfl ?_
    refine V_iload dX12_laysChances_92 rfl ?_
    refine V_iload dX12_laysChances_94 rfl ?_
    refine V_iaddN dX12_laysChances_96 ?_
    refine V_aload_n dX12_laysChances_97 rfl ?_
    refine V_getR (b := 81) dX12_laysChances_98 fX12_65 ⟨Nat.le_of_ble_eq_true rfl, Nat.le_of_ble_eq_true rfl⟩ rfl rfl rfl ?_
    refine V_iload dX12_laysChances_101 rfl ?_
    refine V_ialdN (k := 3) dX12_laysChances_103 ⟨Nat.le_of_ble_eq_true rfl, Nat.le_of_ble_eq_true rfl⟩ rfl (by decide) (by omega) ?_
    refine V_eqI (y := I' 81 3) rfl ?_
    refine V_eqI (y := nI (chV (lfM a M) (fct p q l (sWho p q l) far) th 3)) (hq9.2 3 (by decide)) ?_
    refine V_i2b dX12_laysChances_104 ?_
    refine V_bastN (k := b + 3) dX12_laysChances_105 ⟨Nat.le_of_ble_eq_true rfl, Nat.le_of_ble_eq_true rfl⟩ rfl (by decide) (by omega) ?_
    refine V_iinc (v := nI 4) (ls' := [(5, .int (nI 4)), (4, .int (nI b)), (0, .ref 62), (1, .int (nI (stN p q l))), (2, .int (nI (sWho p q l))), (3, .int (nI th))]) dX12_laysChances_106 rfl (by decide) (by decide) rfl ?_
    refine V_goto (tgt := 81) dX12_laysChances_109 rfl ?_
    refine V_iload dX12_laysChances_81 rfl ?_
    refine V_bipush (v := nI 7) dX12_laysChances_83 rfl ?_
    refine V_icmp_ge (tgt := 112) dX12_laysChances_85 rfl (fun h => absurd h (by decide)) (fun _ => ?_)
    refine V_aload_n dX12_laysChances_88 rfl ?_
    refine V_getR (b := 82) dX12_laysChances_89 fX12_69 ⟨Nat.le_of_ble_eq_true rfl, Nat.le_of_ble_eq_true rfl⟩ rfl rfl rfl ?_
    refine V_iload dX12_laysChances_92 rfl ?_
    refine V_iload dX12_laysChances_94 rfl ?_
    refine V_iaddN dX12_laysChances_96 ?_
    refine V_aload_n dX12_laysChances_97 rfl ?_
    refine V_getR (b := 81) dX12_laysChances_98 fX12_65 ⟨Nat.le_of_ble_eq_true rfl, Nat.le_of_ble_eq_true rfl⟩ rfl rfl rfl ?_
    refine V_iload dX12_laysChances_101 rfl ?_
    refine V_ialdN (k := 4) dX12_laysChances_103 ⟨Nat.le_of_ble_eq_true rfl, Nat.le_of_ble_eq_true rfl⟩ rfl (by decide) (by omega) ?_
    refine V_eqI (y := I' 81 4) rfl ?_
    refine V_eqI (y := nI (chV (lfM a M) (fct p q l (sWho p q l) far) th 4)) (hq9.2 4 (by decide)) ?_
    refine V_i2b dX12_laysChances_104 ?_
    refine V_bastN (k := b + 4) dX12_laysChances_105 ⟨Nat.le_of_ble_eq_true rfl, Nat.le_of_ble_eq_true rfl⟩ rfl (by decide) (by omega) ?_
    refine V_iinc (v := nI 5) (ls' := [(5, .int (nI 5)), (4, .int (nI b)), (0, .ref 62), (1, .int (nI (stN p q l))), (2, .int (nI (sWho p q l))), (3, .int (nI th))]) dX12_laysChances_106 rfl (by decide) (by decide) rfl ?_
    refine V_goto (tgt := 81) dX12_laysChances_109 rfl ?_
    refine V_iload dX12_laysChances_81 rfl ?_
    refine V_bipush (v := nI 7) dX12_laysChances_83 rfl ?_
    refine V_icmp_ge (tgt := 112) dX12_laysChances_85 rfl (fun h => absurd h (by decide)) (fun _ => ?_)
    refine V_aload_n dX12_laysChances_88 rfl ?_
    refine V_getR (b := 82) dX12_laysChances_89 fX12_69 ⟨Nat.le_of_ble_eq_true rfl, Nat.le_of_ble_eq_true rfl⟩ rfl rfl rfl ?_
    refine V_iload dX12_laysChances_92 rfl ?_
    refine V_iload dX12_laysChances_94 rfl ?_
    refine V_iaddN dX12_laysChances_96 ?_
    refine V_aload_n dX12_laysChances_97 rfl ?_
    refine V_getR (b := 81) dX12_laysChances_98 fX12_65 ⟨Nat.le_of_ble_eq_true rfl, Nat.le_of_ble_eq_true rfl⟩ rfl rfl rfl ?_
    refine V_iload dX12_laysChances_101 rfl ?_
    refine V_ialdN (k := 5) dX12_laysChances_103 ⟨Nat.le_of_ble_eq_true rfl, Nat.le_of_ble_eq_true rfl⟩ rfl (by decide) (by omega) ?_
    refine V_eqI (y := I' 81 5) rfl ?_
    refine V_eqI (y := nI (chV (lfM a M) (fct p q l (sWho p q l) far) th 5)) (hq9.2 5 (by decide)) ?_
    refine V_i2b dX12_laysChances_104 ?_
    refine V_bastN (k := b + 5) dX12_laysChances_105 ⟨Nat.le_of_ble_eq_true rfl, Nat.le_of_ble_eq_true rfl⟩ rfl (by decide) (by omega) ?_
    refine V_iinc (v := nI 6) (ls' := [(5, .int (nI 6)), (4, .int (nI b)), (0, .ref 62), (1, .int (nI (stN p q l))), (2, .int (nI (sWho p q l))), (3, .int (nI th))]) dX12_laysChances_106 rfl (by decide) (by decide) rfl ?_
    refine V_goto (tgt := 81) dX12_laysChances_109 rfl ?_
    refine V_iload dX12_laysChances_81 rfl ?_
    refine V_bipush (v := nI 7) dX12_laysChances_83 rfl ?_
    refine V_icmp_ge (tgt := 112) dX12_laysChances_85 rfl (fun h => absurd h (by decide)) (fun _ => ?_)
    refine V_aload_n dX12_laysChances_88 rfl ?_
    refine V_getR (b := 82) dX12_laysChances_89 fX12_69 ⟨Nat.le_of_ble_eq_true rfl, Nat.le_of_ble_eq_true rfl⟩ rfl rfl rfl ?_
    refine V_iload dX12_laysChances_92 rfl ?_
    refine V_iload dX12_laysChances_94 rfl ?_
    refine V_iaddN dX12_laysChances_96 ?_
    refine V_aload_n dX12_laysChances_97 rfl ?_
    refine V_getR (b := 81) dX12_laysChances_98 fX12_65 ⟨Nat.le_of_ble_eq_true rfl, Nat.le_of_ble_eq_true rfl⟩ rfl rfl rfl ?_
    refine V_iload dX12_laysChances_101 rfl ?_
    refine V_ialdN (k := 6) dX12_laysChances_103 ⟨Nat.le_of_ble_eq_true rfl, Nat.le_of_ble_eq_true rfl⟩ rfl (by decide) (by omega) ?_
    refine V_eqI (y := I' 81 6) rfl ?_
    refine V_eqI (y := nI (chV (lfM a M) (fct p q l (sWho p q l) far) th 6)) (hq9.2 6 (by decide)) ?_
    refine V_i2b dX12_laysChances_104 ?_
    refine V_bastN (k := b + 6) dX12_laysChances_105 ⟨Nat.le_of_ble_eq_true rfl, Nat.le_of_ble_eq_true rfl⟩ rfl (by decide) (by omega) ?_
    refine V_iinc (v := nI 7) (ls' := [(5, .int (nI 7)), (4, .int (nI b)), (0, .ref 62), (1, .int (nI (stN p q l))), (2, .int (nI (sWho p q l))), (3, .int (nI th))]) dX12_laysChances_106 rfl (by decide) (by decide) rfl ?_
    refine V_goto (tgt := 81) dX12_laysChances_109 rfl ?_
    refine V_iload dX12_laysChances_81 rfl ?_
    refine V_bipush (v := nI 7) dX12_laysChances_83 rfl ?_
    refine V_icmp_ge (tgt := 112) dX12_laysChances_85 rfl (fun _ => ?_) (fun h => absurd h (by decide))
    have h82c : chI (zwr (zwr (zwr (zwr (zwr (zwr (zwr I' 82 b (vp_nar .byte ((nI (chV (lfM a M) (fct p q l (sWho p q l) far) th 0)).toInt8.toInt32))) 82 (b + 1) (vp_nar .byte ((nI (chV (lfM a M) (fct p q l (sWho p q l) far) th 1)).toInt8.toInt32))) 82 (b + 2) (vp_nar .byte ((nI (chV (lfM a M) (fct p q l (sWho p q l) far) th 2)).toInt8.toInt32))) 82 (b + 3) (vp_nar .byte ((nI (chV (lfM a M) (fct p q l (sWho p q l) far) th 3)).toInt8.toInt32))) 82 (b + 4) (vp_nar .byte ((nI (chV (lfM a M) (fct p q l (sWho p q l) far) th 4)).toInt8.toInt32))) 82 (b + 5) (vp_nar .byte ((nI (chV (lfM a M) (fct p q l (sWho p q l) far) th 5)).toInt8.toInt32))) 82 (b + 6) (vp_nar .byte ((nI (chV (lfM a M) (fct p q l (sWho p q l) far) th 6)).toInt8.toInt32))) (lfM a M) far := chI_w (fun p q l th hp hq hl hth => by have := hc p q l th hp hq hl hth; rw [← h82] at this; exact this) hp hq hl hth hb (fun k hk => by rcases (show k = 0 ∨ k = 1 ∨ k = 2 ∨ k = 3 ∨ k = 4 ∨ k = 5 ∨ k = 6 by omega) with e | e | e | e | e | e | e <;> subst e <;> simp [zwr_at, by8 chV_le]) (fun j hj => by simp [zwr_at]; repeat (rw [if_neg (by omega)]))
    exact V_ret ⟨rfl, dX12_laysChances_112⟩ ⟨Nat.le_of_ble_eq_true rfl, Nat.le_of_ble_eq_true rfl⟩ ⟨rfl, rfl, ⟨(offL_z (offL_z (offL_z (offL_z (offL_z (offL_z (offL_z h0b (by decide)) (by decide)) (by decide)) (by decide)) (by decide)) (by decide)) (by decide)), fun k hk => (hq9.2 k hk), (congrFun h62 32).trans h32, h82c⟩, rfl⟩

set_option maxRecDepth 100000 in
set_option maxHeartbeats 4000000 in
theorem lp_clear {G : zG} {I : zI} {J : zJ} (hT : mT I) {p q l : Nat} (hp : p < 56) (hq : q < 56) (hl : l ≤ 1) {far : Nat} {a : List (Nat × List (Nat × Nat) × List (Nat × Nat))} {M : Nat → ((Nat → Int32) → Option Int32) × ((Nat → Int32) → Option Int32)} (hP : mpI I 0 a M) (hw : sWho p q l ≤ 1) {th : Nat} (hth : th = 1 ∨ th = 2) : ∀ n i (I1 : zI), i + n = 12544 → offL I I1 → I1 62 5 = nI far → I1 62 32 = nI far → (∀ j, j < i → I1 82 (7 * j) = -1) → V G mX12_laysChances 5 (zP (fun r I' J' => r = none ∧ (offL I I' ∧ (∀ k, k < 7 → I' 81 k = nI (chV (lfM a M) (fct p q l (sWho p q l) far) th k)) ∧ I' 62 32 = nI far ∧ chI I' (lfM a M) far) ∧ J = J')) 22 [(0, .ref 62), (1, .int (nI (stN p q l))), (2, .int (nI (sWho p q l))), (3, .int (nI th)), (4, .int (nI i))] [] (0, 0) zsh I1 J := by
  intro n
  induction n with
  | zero =>
    intro i I1 hi h0 hf h32 hcl
    have hie : i = 12544 := by omega
    refine V_iload dX12_laysChances_22 rfl ?_
    refine V_sipush (v := nI 12544) dX12_laysChances_24 rfl ?_
    refine V_icmp_geN (tgt := 47) dX12_laysChances_27 rfl (by omega) (by omega) (fun _ => ?_) (fun h => absurd h (by omega))
    refine V_sub2 (ls' := [(0, .ref 62), (1, .int (nI (stN p q l))), (2, .int (nI (sWho p q l))), (3, .int (nI th))]) (List.forall_mem_cons.mpr ⟨rfl, List.forall_mem_cons.mpr ⟨rfl, List.forall_mem_cons.mpr ⟨rfl, List.forall_mem_cons.mpr ⟨rfl, fun _ h => absurd h List.not_mem_nil⟩⟩⟩⟩) ?_
    exact lays47 hT hp hq hl hP hw hth h0 hf h32 (fun p q l th hp hq hl hth => Or.inl (by have hst := stN_lt hp hq hl; rw [show 14 * stN p q l + 7 * (th - 1) = 7 * (2 * stN p q l + (th - 1)) by omega]; exact hcl _ (by omega)))
  | succ n ih =>
    intro i I1 hi h0 hf h32 hcl
    refine V_iload dX12_laysChances_22 rfl ?_
    refine V_sipush (v := nI 12544) dX12_laysChances_24 rfl ?_
    refine V_icmp_geN (tgt := 47) dX12_laysChances_27 rfl (by omega) (by omega) (fun h => absurd h (by omega)) (fun _ => ?_)
    refine V_aload_n dX12_laysChances_30 rfl ?_
    refine V_getR (b := 82) dX12_laysChances_31 fX12_69 ⟨Nat.le_of_ble_eq_true rfl, Nat.le_of_ble_eq_true rfl⟩ rfl rfl rfl ?_
    refine V_bipush (v := nI 7) dX12_laysChances_34 rfl ?_
    refine V_iload dX12_laysChances_36 rfl ?_
    refine V_imulN dX12_laysChances_38 ?_
    refine V_iconst (v := (-1)) dX12_laysChances_39 rfl ?_
    refine V_bastN (k := 7 * i) dX12_laysChances_40 ⟨Nat.le_of_ble_eq_true rfl, Nat.le_of_ble_eq_true rfl⟩ rfl (by decide) (by omega) ?_
    refine V_iincN (ls' := [(4, .int (nI (i + 1))), (0, .ref 62), (1, .int (nI (stN p q l))), (2, .int (nI (sWho p q l))), (3, .int (nI th))]) (n := 1) dX12_laysChances_41 rfl rfl (by decide) (by decide) rfl ?_
    refine V_goto (tgt := 22) dX12_laysChances_44 rfl ?_
    refine V_sub2 (ls' := [(0, .ref 62), (1, .int (nI (stN p q l))), (2, .int (nI (sWho p q l))), (3, .int (nI th)), (4, .int (nI (i + 1)))]) (List.forall_mem_cons.mpr ⟨rfl, List.forall_mem_cons.mpr ⟨rfl, List.forall_mem_cons.mpr ⟨rfl, List.forall_mem_cons.mpr ⟨rfl, List.forall_mem_cons.mpr ⟨rfl, fun _ h => absurd h List.not_mem_nil⟩⟩⟩⟩⟩) ?_
    exact ih (i + 1) (zwr I1 82 (7 * i) (vp_nar .byte (-1))) (by omega) (offL_z h0 (by decide)) hf h32 (fun j hj => by by_cases e : j = i; (subst e; simp [zwr_at]; rfl); (have := hcl j (by omega); simp only [zwr_at]; rw [if_neg (by omega)]; exact this))

set_option maxRecDepth 100000 in
set_option maxHeartbeats 4000000 in
theorem w_lays {G : zG} {I : zI} {J : zJ} (hT : mT I) {p q l : Nat} (hp : p < 56) (hq : q < 56) (hl : l ≤ 1) {far : Nat} {a : List (Nat × List (Nat × Nat) × List (Nat × Nat))} {M : Nat → ((Nat → Int32) → Option Int32) × ((Nat → Int32) → Option Int32)} (hf : I 62 5 = nI far) (h6 : 6 ≤ far) (h10 : far ≤ 10) (hP : mpI I 0 a M) (hc : chA I (lfM a M)) (hw : sWho p q l ≤ 1) {th : Nat} (hth : th = 1 ∨ th = 2) : zK G mX12_laysChances 5 [.ref 62, .int (nI (stN p q l)), .int (nI (sWho p q l)), .int (nI th)] zsh I J (zP (fun r I' J' => r = none ∧ (offL I I' ∧ (∀ k, k < 7 → I' 81 k = nI (chV (lfM a M) (fct p q l (sWho p q l) far) th k)) ∧ I' 62 32 = nI far ∧ chI I' (lfM a M) far) ∧ J = J')) := by
  refine zK_of kX12_laysChances.2.2.2.2.1 (Nat.le_of_ble_eq_true rfl) ?_
  show V G mX12_laysChances 5 _ 0 [(0, .ref 62), (1, .int (nI (stN p q l))), (2, .int (nI (sWho p q l))), (3, .int (nI th))] [] (0, 0) zsh I J
  refine V_aload_n dX12_laysChances_0 rfl ?_
  refine V_getI dX12_laysChances_1 fX12_319 ⟨Nat.le_of_ble_eq_true rfl, Nat.le_of_ble_eq_true rfl⟩ rfl rfl ?_
  refine V_aload_n dX12_laysChances_4 rfl ?_
  refine V_getI dX12_laysChances_5 fX12_143 ⟨Nat.le_of_ble_eq_true rfl, Nat.le_of_ble_eq_true rfl⟩ rfl rfl ?_
  refine V_eqI (y := nI far) hf ?_
  refine V_icmp_eq (tgt := 47) dX12_laysChances_8 rfl (fun h8 => ?_) (fun h8 => ?_)
  · skip
    refine V_sub2 (ls' := [(0, .ref 62), (1, .int (nI (stN p q l))), (2, .int (nI (sWho p q l))), (3, .int (nI th))]) (List.forall_mem_cons.mpr ⟨rfl, List.forall_mem_cons.mpr ⟨rfl, List.forall_mem_cons.mpr ⟨rfl, List.forall_mem_cons.mpr ⟨rfl, fun _ h => absurd h List.not_mem_nil⟩⟩⟩⟩) ?_
    exact lays47 hT hp hq hl hP hw hth offL_r hf h8 (hc far h6 h10 h8)
  · skip
    refine V_aload_n dX12_laysChances_11 rfl ?_
    refine V_aload_n dX12_laysChances_12 rfl ?_
    refine V_getI dX12_laysChances_13 fX12_143 ⟨Nat.le_of_ble_eq_true rfl, Nat.le_of_ble_eq_true rfl⟩ rfl rfl ?_
    refine V_eqI (y := nI far) hf ?_
    refine V_putW dX12_laysChances_16 fX12_319 ⟨Nat.le_of_ble_eq_true rfl, Nat.le_of_ble_eq_true rfl⟩ rfl rfl rfl ⟨rfl, rfl⟩ ?_
    refine V_iconst (v := nI 0) dX12_laysChances_19 rfl ?_
    refine V_istore (ls' := [(4, .int (nI 0)), (0, .ref 62), (1, .int (nI (stN p q l))), (2, .int (nI (sWho p q l))), (3, .int (nI th))]) dX12_laysChances_20 (by decide) rfl ?_
    refine V_sub2 (ls' := [(0, .ref 62), (1, .int (nI (stN p q l))), (2, .int (nI (sWho p q l))), (3, .int (nI th)), (4, .int (nI 0))]) (List.forall_mem_cons.mpr ⟨rfl, List.forall_mem_cons.mpr ⟨rfl, List.forall_mem_cons.mpr ⟨rfl, List.forall_mem_cons.mpr ⟨rfl, List.forall_mem_cons.mpr ⟨rfl, fun _ h => absurd h List.not_mem_nil⟩⟩⟩⟩⟩) ?_
    exact lp_clear hT hp hq hl hP hw hth 12544 0 _ (Nat.zero_add _) ⟨fun a h1 _ _ _ _ => by funext j; simp [zwr_at, h1], fun k hk => by simp [zwr_at, hk]⟩ hf rfl (fun j hj => absurd hj (Nat.not_lt_zero j))

