/-! WHAT IS MADE: the codes' tables -/
def cB (k r : Nat) : Nat := ((List.range 4).find? (fun j => decide (r ≤ j) && decide (0 < iR k j))).getD 4
def cW (k r : Nat) : Nat := if cB k r = 4 then k else ((List.range 56).find? (fun i => decide (tC i + uN (cB k r) = tC k))).getD 0
theorem cd_dec {P : Nat → Nat → Prop} {k r : Nat} (h0 : ∀ k, k < 56 → P k 0) (h1 : ∀ k, k < 56 → P k 1) (h2 : ∀ k, k < 56 → P k 2) (h3 : ∀ k, k < 56 → P k 3) (hk : k < 56) (hr : r < 4) : P k r := by
  rcases (show r = 0 ∨ r = 1 ∨ r = 2 ∨ r = 3 by omega) with e | e | e | e <;> subst e
  · exact h0 k hk
  · exact h1 k hk
  · exact h2 k hk
  · exact h3 k hk
theorem cd_1 {k r : Nat} (hk : k < 56) (hr : r < 4) : 0 < iR k r → cB k r = r ∧ cW k r < 56 ∧ tC (cW k r) + uN r = tC k := cd_dec (P := fun k r => 0 < iR k r → cB k r = r ∧ cW k r < 56 ∧ tC (cW k r) + uN r = tC k) (by decide +kernel) (by decide +kernel) (by decide +kernel) (by decide +kernel) hk hr
theorem cd_2 {k r : Nat} (hk : k < 56) (hr : r < 4) : iR k r = 0 → cB k r = cB k (r + 1) ∧ cW k r = cW k (r + 1) := cd_dec (P := fun k r => iR k r = 0 → cB k r = cB k (r + 1) ∧ cW k r = cW k (r + 1)) (by decide +kernel) (by decide +kernel) (by decide +kernel) (by decide +kernel) hk hr
theorem cd_3 {k : Nat} (hk : k < 56) : cB k 4 = 4 ∧ cW k 4 = k ∧ cB k 0 = tBest k ∧ cW k 0 = tWo k ∧ tC k / 10000 = tHand k := co_dec (P := fun k => cB k 4 = 4 ∧ cW k 4 = k ∧ cB k 0 = tBest k ∧ cW k 0 = tWo k ∧ tC k / 10000 = tHand k) (N := 56) (by decide +kernel) hk
theorem cd_4 {k r : Nat} (hk : k < 56) (hr : r < 4) : (0 < tHand k → tC (tThr (5 * k + r)) + 10000 = tC k + uN r) ∧ (tHand k = 0 → tThr (5 * k + r) = k) := cd_dec (P := fun k r => (0 < tHand k → tC (tThr (5 * k + r)) + 10000 = tC k + uN r) ∧ (tHand k = 0 → tThr (5 * k + r) = k)) (by decide +kernel) (by decide +kernel) (by decide +kernel) (by decide +kernel) hk hr
theorem cd_5 {k : Nat} (hk : k < 56) : (0 < tHand k → tC (tThr (5 * k + 4)) + 10000 = tC k) ∧ (tHand k = 0 → tThr (5 * k + 4) = k) := co_dec (P := fun k => (0 < tHand k → tC (tThr (5 * k + 4)) + 10000 = tC k) ∧ (tHand k = 0 → tThr (5 * k + 4) = k)) (N := 56) (by decide +kernel) hk
theorem pen_of {c : Int32} {k : Nat} (hk : k < 56) (h : c = nI (tC k)) : pen (zpl c) = nI k := by
  subst h
  rw [zpl_of hk]
  rfl
/-- codes below k are told -/
def cdO (I0 I : zI) (k : Nat) : Prop := (∀ x, x < 11 ∨ 15 < x → I x = I0 x) ∧ (∀ j, j < k → I 11 j = nI (tHand j)) ∧ (∀ j, j < k → I 12 j = nI (tBest j)) ∧ (∀ j, j < 5 * k → I 13 j = nI (tBel j)) ∧ (∀ j, j < 5 * k → I 14 j = nI (tThr j)) ∧ (∀ j, j < k → I 15 j = nI (tWo j)) ∧ (∀ j, 5 * k ≤ j → I 13 j = 0)
/-- and code k, its rings from r on -/
def cdR (I0 I : zI) (k r : Nat) : Prop := (∀ x, x < 11 ∨ 15 < x → I x = I0 x) ∧ (∀ j, j < k + 1 → I 11 j = nI (tHand j)) ∧ (∀ j, j < k → I 12 j = nI (tBest j)) ∧ (∀ j, j < 5 * k → I 13 j = nI (tBel j)) ∧ (∀ j, j < 5 * k → I 14 j = nI (tThr j)) ∧ (∀ j, j < k → I 15 j = nI (tWo j)) ∧ (∀ j, 5 * k + 5 ≤ j → I 13 j = 0) ∧ I 13 (5 * k) = 0 ∧ (∀ j, r ≤ j → j < 4 → I 13 (5 * k + j + 1) = nI (iR k j)) ∧ (∀ j, r ≤ j → j < 5 → I 14 (5 * k + j) = nI (tThr (5 * k + j))) ∧ I 12 k = nI (cB k r) ∧ I 15 k = nI (cW k r)
/-- and code k, what lies before ring r -/
def cdS (I0 I : zI) (k r : Nat) : Prop := (∀ x, x < 11 ∨ 15 < x → I x = I0 x) ∧ (∀ j, j < k + 1 → I 11 j = nI (tHand j)) ∧ (∀ j, j < k + 1 → I 12 j = nI (tBest j)) ∧ (∀ j, j < 5 * k + r → I 13 j = nI (tBel j)) ∧ (∀ j, j < 5 * k + 5 → I 14 j = nI (tThr j)) ∧ (∀ j, j < k + 1 → I 15 j = nI (tWo j)) ∧ (∀ j, 5 * k + 5 ≤ j → I 13 j = 0) ∧ (∀ j, r ≤ j → j < 5 → I 13 (5 * k + j) = nI (iR k (j - 1)))
theorem cdR_0 {I0 I : zI} {k r : Nat} (hk : k < 56) (h : cdO I0 I k) : cdR I0 (zwr (zwr (zwr (zwr I 11 k (nI (tC k / 10000))) 12 k (nI 4)) 15 k (nI k)) 14 (5 * k + 4) (nI (tThr (5 * k + 4)))) k 4 := by
  obtain ⟨a1, a2, a3, a4, a5, a6, a7⟩ := h
  refine ⟨?_, ?_, ?_, ?_, ?_, ?_, ?_, ?_, ?_, ?_, ?_, ?_⟩
  · intro x hx; rw [zw_o (by omega), zw_o (by omega), zw_o (by omega), zw_o (by omega)]; exact a1 x hx
  · intro j hj; by_cases e : j = k
    · subst e; rw [zwr_at, if_neg (by omega), zwr_at, if_neg (by omega), zwr_at, if_neg (by omega), zwr_at, if_pos ⟨rfl, by omega⟩]; exact congrArg nI (cd_3 hk).2.2.2.2
    · rw [zwr_at, if_neg (by omega), zwr_at, if_neg (by omega), zwr_at, if_neg (by omega), zwr_at, if_neg (by omega)]; exact a2 j (by omega)
  · intro j hj; rw [zwr_at, if_neg (by omega), zwr_at, if_neg (by omega), zwr_at, if_neg (by omega), zwr_at, if_neg (by omega)]; exact a3 j hj
  · intro j hj; rw [zwr_at, if_neg (by omega), zwr_at, if_neg (by omega), zwr_at, if_neg (by omega), zwr_at, if_neg (by omega)]; exact a4 j hj
  · intro j hj; rw [zwr_at, if_neg (by omega), zwr_at, if_neg (by omega), zwr_at, if_neg (by omega), zwr_at, if_neg (by omega)]; exact a5 j hj
  · intro j hj; rw [zwr_at, if_neg (by omega), zwr_at, if_neg (by omega), zwr_at, if_neg (by omega), zwr_at, if_neg (by omega)]; exact a6 j hj
  · intro j hj; rw [zwr_at, if_neg (by omega), zwr_at, if_neg (by omega), zwr_at, if_neg (by omega), zwr_at, if_neg (by omega)]; exact a7 j (by omega)
  · rw [zwr_at, if_neg (by omega), zwr_at, if_neg (by omega), zwr_at, if_neg (by omega), zwr_at, if_neg (by omega)]; exact a7 _ (by omega)
  · intro j h1 h2; omega
  · intro j h1 h2; have e : j = 4 := by omega
    subst e; rw [zwr_at, if_pos ⟨rfl, by omega⟩]
  · rw [zwr_at, if_neg (by omega), zwr_at, if_neg (by omega), zwr_at, if_pos ⟨rfl, by omega⟩, (cd_3 hk).1]
  · rw [zwr_at, if_neg (by omega), zwr_at, if_pos ⟨rfl, by omega⟩, (cd_3 hk).2.1]
theorem cdR_y {I0 I : zI} {k r : Nat} (hk : k < 56) (hr : r < 4) (hd : 0 < iR k r) (h : cdR I0 I k (r + 1)) : cdR I0 (zwr (zwr (zwr (zwr I 13 (5 * k + r + 1) (nI (iR k r))) 12 k (nI r)) 15 k (nI (cW k r))) 14 (5 * k + r) (nI (tThr (5 * k + r)))) k r := by
  obtain ⟨a1, a2, a3, a4, a5, a6, a7, a8, a9, a10, a11, a12⟩ := h
  refine ⟨?_, ?_, ?_, ?_, ?_, ?_, ?_, ?_, ?_, ?_, ?_, ?_⟩
  · intro x hx; rw [zw_o (by omega), zw_o (by omega), zw_o (by omega), zw_o (by omega)]; exact a1 x hx
  · intro j hj; rw [zwr_at, if_neg (by omega), zwr_at, if_neg (by omega), zwr_at, if_neg (by omega), zwr_at, if_neg (by omega)]; exact a2 j hj
  · intro j hj; rw [zwr_at, if_neg (by omega), zwr_at, if_neg (by omega), zwr_at, if_neg (by omega), zwr_at, if_neg (by omega)]; exact a3 j hj
  · intro j hj; rw [zwr_at, if_neg (by omega), zwr_at, if_neg (by omega), zwr_at, if_neg (by omega), zwr_at, if_neg (by omega)]; exact a4 j hj
  · intro j hj; rw [zwr_at, if_neg (by omega), zwr_at, if_neg (by omega), zwr_at, if_neg (by omega), zwr_at, if_neg (by omega)]; exact a5 j hj
  · intro j hj; rw [zwr_at, if_neg (by omega), zwr_at, if_neg (by omega), zwr_at, if_neg (by omega), zwr_at, if_neg (by omega)]; exact a6 j hj
  · intro j hj; rw [zwr_at, if_neg (by omega), zwr_at, if_neg (by omega), zwr_at, if_neg (by omega), zwr_at, if_neg (by omega)]; exact a7 j hj
  · rw [zwr_at, if_neg (by omega), zwr_at, if_neg (by omega), zwr_at, if_neg (by omega), zwr_at, if_neg (by omega)]; exact a8
  · intro j h1 h2; by_cases e : j = r
    · subst e; rw [zwr_at, if_neg (by omega), zwr_at, if_neg (by omega), zwr_at, if_neg (by omega), zwr_at, if_pos ⟨rfl, by omega⟩]
    · rw [zwr_at, if_neg (by omega), zwr_at, if_neg (by omega), zwr_at, if_neg (by omega), zwr_at, if_neg (by omega)]; exact a9 j (by omega) h2
  · intro j h1 h2; by_cases e : j = r
    · subst e; rw [zwr_at, if_pos ⟨rfl, by omega⟩]
    · rw [zwr_at, if_neg (by omega), zwr_at, if_neg (by omega), zwr_at, if_neg (by omega), zwr_at, if_neg (by omega)]; exact a10 j (by omega) h2
  · rw [zwr_at, if_neg (by omega), zwr_at, if_neg (by omega), zwr_at, if_pos ⟨rfl, by omega⟩, (cd_1 hk hr hd).1]
  · rw [zwr_at, if_neg (by omega), zwr_at, if_pos ⟨rfl, by omega⟩]
theorem cdR_n {I0 I : zI} {k r : Nat} (hk : k < 56) (hr : r < 4) (hd : iR k r = 0) (h : cdR I0 I k (r + 1)) : cdR I0 (zwr (zwr I 13 (5 * k + r + 1) (nI (iR k r))) 14 (5 * k + r) (nI (tThr (5 * k + r)))) k r := by
  obtain ⟨a1, a2, a3, a4, a5, a6, a7, a8, a9, a10, a11, a12⟩ := h
  refine ⟨?_, ?_, ?_, ?_, ?_, ?_, ?_, ?_, ?_, ?_, ?_, ?_⟩
  · intro x hx; rw [zw_o (by omega), zw_o (by omega)]; exact a1 x hx
  · intro j hj; rw [zwr_at, if_neg (by omega), zwr_at, if_neg (by omega)]; exact a2 j hj
  · intro j hj; rw [zwr_at, if_neg (by omega), zwr_at, if_neg (by omega)]; exact a3 j hj
  · intro j hj; rw [zwr_at, if_neg (by omega), zwr_at, if_neg (by omega)]; exact a4 j hj
  · intro j hj; rw [zwr_at, if_neg (by omega), zwr_at, if_neg (by omega)]; exact a5 j hj
  · intro j hj; rw [zwr_at, if_neg (by omega), zwr_at, if_neg (by omega)]; exact a6 j hj
  · intro j hj; rw [zwr_at, if_neg (by omega), zwr_at, if_neg (by omega)]; exact a7 j hj
  · rw [zwr_at, if_neg (by omega), zwr_at, if_neg (by omega)]; exact a8
  · intro j h1 h2; by_cases e : j = r
    · subst e; rw [zwr_at, if_neg (by omega), zwr_at, if_pos ⟨rfl, by omega⟩]
    · rw [zwr_at, if_neg (by omega), zwr_at, if_neg (by omega)]; exact a9 j (by omega) h2
  · intro j h1 h2; by_cases e : j = r
    · subst e; rw [zwr_at, if_pos ⟨rfl, by omega⟩]
    · rw [zwr_at, if_neg (by omega), zwr_at, if_neg (by omega)]; exact a10 j (by omega) h2
  · rw [zwr_at, if_neg (by omega), zwr_at, if_neg (by omega), (cd_2 hk hr hd).1]; exact a11
  · rw [zwr_at, if_neg (by omega), zwr_at, if_neg (by omega), (cd_2 hk hr hd).2]; exact a12
theorem cdS_1 {I0 I : zI} {k : Nat} (hk : k < 56) (h : cdR I0 I k 0) : cdS I0 I k 1 := by
  obtain ⟨a1, a2, a3, a4, a5, a6, a7, a8, a9, a10, a11, a12⟩ := h
  refine ⟨a1, a2, ?_, ?_, ?_, ?_, a7, ?_⟩
  · intro j hj; by_cases e : j = k
    · subst e; rw [a11, (cd_3 hk).2.2.1]
    · exact a3 j (by omega)
  · intro j hj; by_cases e : j = 5 * k
    · subst e; rw [a8, iR_0 hk]; rfl
    · exact a4 j (by omega)
  · intro j hj; by_cases e : j < 5 * k
    · exact a5 j e
    · have h1 := a10 (j - 5 * k) (by omega) (by omega)
      rw [show 5 * k + (j - 5 * k) = j by omega] at h1
      exact h1
  · intro j hj; by_cases e : j = k
    · subst e; rw [a12, (cd_3 hk).2.2.2.1]
    · exact a6 j (by omega)
  · intro j h1 h2
    have h3 := a9 (j - 1) (by omega) (by omega)
    rw [show 5 * k + (j - 1) + 1 = 5 * k + j by omega] at h3
    exact h3
theorem cdS_s {I0 I : zI} {k r : Nat} (hk : k < 56) (h1r : 1 ≤ r) (hr : r < 5) (h : cdS I0 I k r) : cdS I0 (zwr I 13 (5 * k + r) (nI (iR k (r - 1) + tBel (5 * k + r - 1)))) k (r + 1) := by
  obtain ⟨a1, a2, a3, a4, a5, a6, a7, a8⟩ := h
  refine ⟨?_, ?_, ?_, ?_, ?_, ?_, ?_, ?_⟩
  · intro x hx; rw [zw_o (by omega)]; exact a1 x hx
  · intro j hj; rw [zwr_at, if_neg (by omega)]; exact a2 j hj
  · intro j hj; rw [zwr_at, if_neg (by omega)]; exact a3 j hj
  · intro j hj; by_cases e : j = 5 * k + r
    · subst e; rw [zwr_at, if_pos ⟨rfl, by omega⟩]; have h9 := iR_s hk (r := r - 1) (by omega); rw [show 5 * k + (r - 1) = 5 * k + r - 1 by omega, show r - 1 + 1 = r by omega] at h9; exact congrArg nI (by omega)
    · rw [zwr_at, if_neg (by omega)]; exact a4 j (by omega)
  · intro j hj; rw [zwr_at, if_neg (by omega)]; exact a5 j hj
  · intro j hj; rw [zwr_at, if_neg (by omega)]; exact a6 j hj
  · intro j hj; rw [zwr_at, if_neg (by omega)]; exact a7 j hj
  · intro j h1 h2; rw [zwr_at, if_neg (by omega)]; exact a8 j (by omega) h2
theorem cdO_s {I0 I : zI} {k : Nat} (h : cdS I0 I k 5) : cdO I0 I (k + 1) := by
  obtain ⟨a1, a2, a3, a4, a5, a6, a7, a8⟩ := h
  exact ⟨a1, a2, a3, fun j hj => a4 j (by omega), fun j hj => a5 j (by omega), a6, fun j hj => a7 j (by omega)⟩
set_option maxRecDepth 100000 in
set_option maxHeartbeats 4000000 in
theorem cd_ring {G : zG} {Q : zQ} {rf : Nat → Nat → Option Nat} {I0 I : zI} {J : zJ} (hr : ∀ x, 10 ≤ x → x ≤ 15 → rf x = zrf x) {k : Nat} (hk : k < 56) {r q u q' u' : Nat} (hr4 : r < 4) (hq : q = tC k / uN r) (hu : u = uN r) (hq' : q / 10 = q') (hu' : u * 10 = u') (h : cdR I0 I k (r + 1)) (kk : ∀ I', cdR I0 I' k r → V G mX2_init 2 Q 230 [(0, .ref 10), (1, .int (nI k)), (2, .int (nI (tHand k))), (3, .int (nI q')), (4, .int (nI u')), (5, .int (nI r))] [] (5, 728) (14, zkd, rf) I' J) : V G mX2_init 2 Q 128 [(0, .ref 10), (1, .int (nI k)), (2, .int (nI (tHand k))), (3, .int (nI q)), (4, .int (nI u)), (5, .int (nI r))] [] (5, 728) (14, zkd, rf) I J := by
  have hC9 := tC_le hk
  have hF3 := (cd_3 hk).2.2.2.2
  have hub := @uN_b r
  subst hu
  have hq9 : q ≤ tC k := by rw [hq]; exact Nat.div_le_self _ _
  have hqr : q % 10 = iR k r := by rw [hq]; rfl
  have hh9 := tHand_le hk
  refine V_iload dX2_init_128 rfl ?_
  refine V_if_ltN (tgt := 236) dX2_init_130 rfl (by omega) ?_
  refine V_aload_n dX2_init_133 rfl ?_
  refine V_getR (b := 13) dX2_init_134 fX2_18 ⟨Nat.le_of_ble_eq_true rfl, Nat.le_of_ble_eq_true rfl⟩ rfl rfl (congrFun (hr 10 (by decide) (by decide)) 2) ?_
  refine V_iconst (v := nI 5) dX2_init_137 rfl ?_
  refine V_iload_n dX2_init_138 rfl ?_
  refine V_imulN dX2_init_139 ?_
  refine V_iload dX2_init_140 rfl ?_
  refine V_iaddN dX2_init_142 ?_
  refine V_iconst (v := nI 1) dX2_init_143 rfl ?_
  refine V_iaddN dX2_init_144 ?_
  refine V_iload_n dX2_init_145 rfl ?_
  refine V_bipush (v := nI 10) dX2_init_146 rfl ?_
  refine V_iremN dX2_init_148 (by omega) (by omega) (by omega) ?_
  refine V_iastN (k := ((5 * k) + r) + 1) dX2_init_149 ⟨Nat.le_of_ble_eq_true rfl, Nat.le_of_ble_eq_true rfl⟩ rfl (by decide) (by omega) ?_
  refine V_iload_n dX2_init_150 rfl ?_
  refine V_bipush (v := nI 10) dX2_init_151 rfl ?_
  refine V_iremN dX2_init_153 (by omega) (by omega) (by omega) ?_
  refine V_if_leN (tgt := 183) dX2_init_154 rfl (by omega) (fun h154 => ?_) (fun h154 => ?_)
  · skip
    refine V_aload_n dX2_init_183 rfl ?_
    refine V_getR (b := 14) dX2_init_184 fX2_21 ⟨Nat.le_of_ble_eq_true rfl, Nat.le_of_ble_eq_true rfl⟩ rfl rfl (congrFun (hr 10 (by decide) (by decide)) 3) ?_
    refine V_iconst (v := nI 5) dX2_init_187 rfl ?_
    refine V_iload_n dX2_init_188 rfl ?_
    refine V_imulN dX2_init_189 ?_
    refine V_iload dX2_init_190 rfl ?_
    refine V_iaddN dX2_init_192 ?_
    refine V_iload_n dX2_init_193 rfl ?_
    refine V_if_leN (tgt := 216) dX2_init_194 rfl (by omega) (fun h194 => ?_) (fun h194 => ?_)
    · skip
      refine V_iload_n dX2_init_216 rfl ?_
      refine V_eqI (y := nI (tThr (5 * k + r))) (congrArg nI ((cd_4 hk hr4).2 (by omega)).symm) ?_
      refine V_iastN (k := (5 * k) + r) dX2_init_217 ⟨Nat.le_of_ble_eq_true rfl, Nat.le_of_ble_eq_true rfl⟩ rfl (by decide) (by omega) ?_
      refine V_iload_n dX2_init_218 rfl ?_
      refine V_bipush (v := nI 10) dX2_init_219 rfl ?_
      refine V_idivN dX2_init_221 (by omega) (by omega) (by omega) ?_
      refine V_eqI (y := nI q') (congrArg nI hq') ?_
      refine V_istore_n (ls' := [(3, .int (nI q')), (0, .ref 10), (1, .int (nI k)), (2, .int (nI (tHand k))), (4, .int (nI (uN r))), (5, .int (nI r))]) dX2_init_222 (by decide) rfl ?_
      refine V_iload dX2_init_223 rfl ?_
      refine V_bipush (v := nI 10) dX2_init_225 rfl ?_
      refine V_imulN dX2_init_227 ?_
      refine V_eqI (y := nI u') (congrArg nI hu') ?_
      refine V_istore (ls' := [(4, .int (nI u')), (3, .int (nI q')), (0, .ref 10), (1, .int (nI k)), (2, .int (nI (tHand k))), (5, .int (nI r))]) dX2_init_228 (by decide) rfl ?_
      refine V_sub2 (ls' := [(0, .ref 10), (1, .int (nI k)), (2, .int (nI (tHand k))), (3, .int (nI q')), (4, .int (nI u')), (5, .int (nI r))]) (List.forall_mem_cons.mpr ⟨rfl, List.forall_mem_cons.mpr ⟨rfl, List.forall_mem_cons.mpr ⟨rfl, List.forall_mem_cons.mpr ⟨rfl, List.forall_mem_cons.mpr ⟨rfl, List.forall_mem_cons.mpr ⟨rfl, fun _ h => absurd h List.not_mem_nil⟩⟩⟩⟩⟩⟩) ?_
      rw [hqr]
      exact kk _ (cdR_n hk hr4 (by omega) h)
    · skip
      have hF4 := (cd_4 hk hr4).1 (by omega)
      refine V_aload_n dX2_init_197 rfl ?_
      refine V_gets dX2_init_198 sX2_27 ?_
      refine V_iload_n dX2_init_201 rfl ?_
      refine V_tabN dX2_init_202 (by omega) ?_
      refine V_eqI (y := nI (tC k)) (zC_t (by omega)) ?_
      refine V_sipush (v := nI 10000) dX2_init_203 rfl ?_
      refine V_isubN dX2_init_206 (by omega) ?_
      refine V_iload dX2_init_207 rfl ?_
      refine V_iaddN dX2_init_209 ?_
      refine V_callV (As := [.int (nI (((tC k) - 10000) + (uN r)))]) (st := [.int (nI ((5 * k) + r)), .ref 14]) (a := 10) dX2_init_210 kX2_placeOf lX2_30 (by decide) rfl rfl (Nat.le_of_ble_eq_true rfl) ⟨Nat.le_of_ble_eq_true rfl, Nat.le_of_ble_eq_true rfl⟩ ⟨Nat.le_of_ble_eq_true rfl, Nat.le_of_ble_eq_true rfl⟩ rfl ⟨rfl, by decide⟩ c_placeOf2S ?_
      rintro _ _ _ _ ⟨rfl, rfl, rfl, rfl⟩
      refine V_eqI (y := nI (tThr (5 * k + r))) (pen_of (Nat.lt_succ_of_le (tThr_le (by omega))) (congrArg nI (by omega))) ?_
      refine V_goto (tgt := 217) dX2_init_213 rfl ?_
      refine V_iastN (k := (5 * k) + r) dX2_init_217 ⟨Nat.le_of_ble_eq_true rfl, Nat.le_of_ble_eq_true rfl⟩ rfl (by decide) (by omega) ?_
      refine V_iload_n dX2_init_218 rfl ?_
      refine V_bipush (v := nI 10) dX2_init_219 rfl ?_
      refine V_idivN dX2_init_221 (by omega) (by omega) (by omega) ?_
      refine V_eqI (y := nI q') (congrArg nI hq') ?_
      refine V_istore_n (ls' := [(3, .int (nI q')), (0, .ref 10), (1, .int (nI k)), (2, .int (nI (tHand k))), (4, .int (nI (uN r))), (5, .int (nI r))]) dX2_init_222 (by decide) rfl ?_
      refine V_iload dX2_init_223 rfl ?_
      refine V_bipush (v := nI 10) dX2_init_225 rfl ?_
      refine V_imulN dX2_init_227 ?_
      refine V_eqI (y := nI u') (congrArg nI hu') ?_
      refine V_istore (ls' := [(4, .int (nI u')), (3, .int (nI q')), (0, .ref 10), (1, .int (nI k)), (2, .int (nI (tHand k))), (5, .int (nI r))]) dX2_init_228 (by decide) rfl ?_
      refine V_sub2 (ls' := [(0, .ref 10), (1, .int (nI k)), (2, .int (nI (tHand k))), (3, .int (nI q')), (4, .int (nI u')), (5, .int (nI r))]) (List.forall_mem_cons.mpr ⟨rfl, List.forall_mem_cons.mpr ⟨rfl, List.forall_mem_cons.mpr ⟨rfl, List.forall_mem_cons.mpr ⟨rfl, List.forall_mem_cons.mpr ⟨rfl, List.forall_mem_cons.mpr ⟨rfl, fun _ h => absurd h List.not_mem_nil⟩⟩⟩⟩⟩⟩) ?_
      rw [hqr]
      exact kk _ (cdR_n hk hr4 (by omega) h)
  · skip
    have hF1 := cd_1 hk hr4 (by omega)
    refine V_aload_n dX2_init_157 rfl ?_
    refine V_getR (b := 12) dX2_init_158 fX2_15 ⟨Nat.le_of_ble_eq_true rfl, Nat.le_of_ble_eq_true rfl⟩ rfl rfl (congrFun (hr 10 (by decide) (by decide)) 1) ?_
    refine V_iload_n dX2_init_161 rfl ?_
    refine V_iload dX2_init_162 rfl ?_
    refine V_iastN (k := k) dX2_init_164 ⟨Nat.le_of_ble_eq_true rfl, Nat.le_of_ble_eq_true rfl⟩ rfl (by decide) (by omega) ?_
    refine V_aload_n dX2_init_165 rfl ?_
    refine V_getR (b := 15) dX2_init_166 fX2_24 ⟨Nat.le_of_ble_eq_true rfl, Nat.le_of_ble_eq_true rfl⟩ rfl rfl (congrFun (hr 10 (by decide) (by decide)) 4) ?_
    refine V_iload_n dX2_init_169 rfl ?_
    refine V_aload_n dX2_init_170 rfl ?_
    refine V_gets dX2_init_171 sX2_27 ?_
    refine V_iload_n dX2_init_174 rfl ?_
    refine V_tabN dX2_init_175 (by omega) ?_
    refine V_eqI (y := nI (tC k)) (zC_t (by omega)) ?_
    refine V_iload dX2_init_176 rfl ?_
    refine V_isubN dX2_init_178 (by omega) ?_
    refine V_callV (As := [.int (nI ((tC k) - (uN r)))]) (st := [.int (nI k), .ref 15]) (a := 10) dX2_init_179 kX2_placeOf lX2_30 (by decide) rfl rfl (Nat.le_of_ble_eq_true rfl) ⟨Nat.le_of_ble_eq_true rfl, Nat.le_of_ble_eq_true rfl⟩ ⟨Nat.le_of_ble_eq_true rfl, Nat.le_of_ble_eq_true rfl⟩ rfl ⟨rfl, by decide⟩ c_placeOf2S ?_
    rintro _ _ _ _ ⟨rfl, rfl, rfl, rfl⟩
    refine V_eqI (y := nI (cW k r)) (pen_of (by omega) (congrArg nI (by omega))) ?_
    refine V_iastN (k := k) dX2_init_182 ⟨Nat.le_of_ble_eq_true rfl, Nat.le_of_ble_eq_true rfl⟩ rfl (by decide) (by omega) ?_
    refine V_aload_n dX2_init_183 rfl ?_
    refine V_getR (b := 14) dX2_init_184 fX2_21 ⟨Nat.le_of_ble_eq_true rfl, Nat.le_of_ble_eq_true rfl⟩ rfl rfl (congrFun (hr 10 (by decide) (by decide)) 3) ?_
    refine V_iconst (v := nI 5) dX2_init_187 rfl ?_
    refine V_iload_n dX2_init_188 rfl ?_
    refine V_imulN dX2_init_189 ?_
    refine V_iload dX2_init_190 rfl ?_
    refine V_iaddN dX2_init_192 ?_
    refine V_iload_n dX2_init_193 rfl ?_
    refine V_if_leN (tgt := 216) dX2_init_194 rfl (by omega) (fun h194 => ?_) (fun h194 => ?_)
    · skip
      refine V_iload_n dX2_init_216 rfl ?_
      refine V_eqI (y := nI (tThr (5 * k + r))) (congrArg nI ((cd_4 hk hr4).2 (by omega)).symm) ?_
      refine V_iastN (k := (5 * k) + r) dX2_init_217 ⟨Nat.le_of_ble_eq_true rfl, Nat.le_of_ble_eq_true rfl⟩ rfl (by decide) (by omega) ?_
      refine V_iload_n dX2_init_218 rfl ?_
      refine V_bipush (v := nI 10) dX2_init_219 rfl ?_
      refine V_idivN dX2_init_221 (by omega) (by omega) (by omega) ?_
      refine V_eqI (y := nI q') (congrArg nI hq') ?_
      refine V_istore_n (ls' := [(3, .int (nI q')), (0, .ref 10), (1, .int (nI k)), (2, .int (nI (tHand k))), (4, .int (nI (uN r))), (5, .int (nI r))]) dX2_init_222 (by decide) rfl ?_
      refine V_iload dX2_init_223 rfl ?_
      refine V_bipush (v := nI 10) dX2_init_225 rfl ?_
      refine V_imulN dX2_init_227 ?_
      refine V_eqI (y := nI u') (congrArg nI hu') ?_
      refine V_istore (ls' := [(4, .int (nI u')), (3, .int (nI q')), (0, .ref 10), (1, .int (nI k)), (2, .int (nI (tHand k))), (5, .int (nI r))]) dX2_init_228 (by decide) rfl ?_
      refine V_sub2 (ls' := [(0, .ref 10), (1, .int (nI k)), (2, .int (nI (tHand k))), (3, .int (nI q')), (4, .int (nI u')), (5, .int (nI r))]) (List.forall_mem_cons.mpr ⟨rfl, List.forall_mem_cons.mpr ⟨rfl, List.forall_mem_cons.mpr ⟨rfl, List.forall_mem_cons.mpr ⟨rfl, List.forall_mem_cons.mpr ⟨rfl, List.forall_mem_cons.mpr ⟨rfl, fun _ h => absurd h List.not_mem_nil⟩⟩⟩⟩⟩⟩) ?_
      rw [hqr]
      exact kk _ (cdR_y hk hr4 (by omega) h)
    · skip
      have hF4 := (cd_4 hk hr4).1 (by omega)
      refine V_aload_n dX2_init_197 rfl ?_
      refine V_gets dX2_init_198 sX2_27 ?_
      refine V_iload_n dX2_init_201 rfl ?_
      refine V_tabN dX2_init_202 (by omega) ?_
      refine V_eqI (y := nI (tC k)) (zC_t (by omega)) ?_
      refine V_sipush (v := nI 10000) dX2_init_203 rfl ?_
      refine V_isubN dX2_init_206 (by omega) ?_
      refine V_iload dX2_init_207 rfl ?_
      refine V_iaddN dX2_init_209 ?_
      refine V_callV (As := [.int (nI (((tC k) - 10000) + (uN r)))]) (st := [.int (nI ((5 * k) + r)), .ref 14]) (a := 10) dX2_init_210 kX2_placeOf lX2_30 (by decide) rfl rfl (Nat.le_of_ble_eq_true rfl) ⟨Nat.le_of_ble_eq_true rfl, Nat.le_of_ble_eq_true rfl⟩ ⟨Nat.le_of_ble_eq_true rfl, Nat.le_of_ble_eq_true rfl⟩ rfl ⟨rfl, by decide⟩ c_placeOf2S ?_
      rintro _ _ _ _ ⟨rfl, rfl, rfl, rfl⟩
      refine V_eqI (y := nI (tThr (5 * k + r))) (pen_of (Nat.lt_succ_of_le (tThr_le (by omega))) (congrArg nI (by omega))) ?_
      refine V_goto (tgt := 217) dX2_init_213 rfl ?_
      refine V_iastN (k := (5 * k) + r) dX2_init_217 ⟨Nat.le_of_ble_eq_true rfl, Nat.le_of_ble_eq_true rfl⟩ rfl (by decide) (by omega) ?_
      refine V_iload_n dX2_init_218 rfl ?_
      refine V_bipush (v := nI 10) dX2_init_219 rfl ?_
      refine V_idivN dX2_init_221 (by omega) (by omega) (by omega) ?_
      refine V_eqI (y := nI q') (congrArg nI hq') ?_
      refine V_istore_n (ls' := [(3, .int (nI q')), (0, .ref 10), (1, .int (nI k)), (2, .int (nI (tHand k))), (4, .int (nI (uN r))), (5, .int (nI r))]) dX2_init_222 (by decide) rfl ?_
      refine V_iload dX2_init_223 rfl ?_
      refine V_bipush (v := nI 10) dX2_init_225 rfl ?_
      refine V_imulN dX2_init_227 ?_
      refine V_eqI (y := nI u') (congrArg nI hu') ?_
      refine V_istore (ls' := [(4, .int (nI u')), (3, .int (nI q')), (0, .ref 10), (1, .int (nI k)), (2, .int (nI (tHand k))), (5, .int (nI r))]) dX2_init_228 (by decide) rfl ?_
      refine V_sub2 (ls' := [(0, .ref 10), (1, .int (nI k)), (2, .int (nI (tHand k))), (3, .int (nI q')), (4, .int (nI u')), (5, .int (nI r))]) (List.forall_mem_cons.mpr ⟨rfl, List.forall_mem_cons.mpr ⟨rfl, List.forall_mem_cons.mpr ⟨rfl, List.forall_mem_cons.mpr ⟨rfl, List.forall_mem_cons.mpr ⟨rfl, List.forall_mem_cons.mpr ⟨rfl, fun _ h => absurd h List.not_mem_nil⟩⟩⟩⟩⟩⟩) ?_
      rw [hqr]
      exact kk _ (cdR_y hk hr4 (by omega) h)

set_option maxRecDepth 100000 in
set_option maxHeartbeats 4000000 in
theorem cd_bel {G : zG} {Q : zQ} {rf : Nat → Nat → Option Nat} {I0 I : zI} {J : zJ} (hr : ∀ x, 10 ≤ x → x ≤ 15 → rf x = zrf x) {k : Nat} (hk : k < 56) {r : Nat} (h1 : 1 ≤ r) (h5 : r < 5) (h : cdS I0 I k r) (kk : ∀ I', cdS I0 I' k (r + 1) → V G mX2_init 2 Q 239 [(0, .ref 10), (1, .int (nI k)), (5, .int (nI (r + 1)))] [] (5, 728) (14, zkd, rf) I' J) : V G mX2_init 2 Q 239 [(0, .ref 10), (1, .int (nI k)), (5, .int (nI r))] [] (5, 728) (14, zkd, rf) I J := by
  refine V_iload dX2_init_239 rfl ?_
  refine V_iconst (v := nI 4) dX2_init_241 rfl ?_
  refine V_icmp_gtN (tgt := 278) dX2_init_242 rfl (by omega) (by decide) (fun h => absurd h (by omega)) (fun _ => ?_)
  refine V_aload_n dX2_init_245 rfl ?_
  refine V_getR (b := 13) dX2_init_246 fX2_18 ⟨Nat.le_of_ble_eq_true rfl, Nat.le_of_ble_eq_true rfl⟩ rfl rfl (congrFun (hr 10 (by decide) (by decide)) 2) ?_
  refine V_iconst (v := nI 5) dX2_init_249 rfl ?_
  refine V_iload_n dX2_init_250 rfl ?_
  refine V_imulN dX2_init_251 ?_
  refine V_iload dX2_init_252 rfl ?_
  refine V_iaddN dX2_init_254 ?_
  refine V_dup2 dX2_init_255 rfl rfl ?_
  refine V_ialdN (k := (5 * k) + r) dX2_init_256 ⟨Nat.le_of_ble_eq_true rfl, Nat.le_of_ble_eq_true rfl⟩ rfl (by decide) (by omega) ?_
  refine V_eqI (y := nI (iR k (r - 1))) (h.2.2.2.2.2.2.2 r (Nat.le_refl _) (by omega)) ?_
  refine V_aload_n dX2_init_257 rfl ?_
  refine V_getR (b := 13) dX2_init_258 fX2_18 ⟨Nat.le_of_ble_eq_true rfl, Nat.le_of_ble_eq_true rfl⟩ rfl rfl (congrFun (hr 10 (by decide) (by decide)) 2) ?_
  refine V_iconst (v := nI 5) dX2_init_261 rfl ?_
  refine V_iload_n dX2_init_262 rfl ?_
  refine V_imulN dX2_init_263 ?_
  refine V_iload dX2_init_264 rfl ?_
  refine V_iaddN dX2_init_266 ?_
  refine V_iconst (v := nI 1) dX2_init_267 rfl ?_
  refine V_isubN dX2_init_268 (by omega) ?_
  refine V_ialdN (k := ((5 * k) + r) - 1) dX2_init_269 ⟨Nat.le_of_ble_eq_true rfl, Nat.le_of_ble_eq_true rfl⟩ rfl (by decide) (by omega) ?_
  refine V_eqI (y := nI (tBel (5 * k + r - 1))) (h.2.2.2.1 (5 * k + r - 1) (by omega)) ?_
  refine V_iaddN dX2_init_270 ?_
  refine V_iastN (k := (5 * k) + r) dX2_init_271 ⟨Nat.le_of_ble_eq_true rfl, Nat.le_of_ble_eq_true rfl⟩ rfl (by decide) (by omega) ?_
  refine V_iincN (ls' := [(5, .int (nI (r + 1))), (0, .ref 10), (1, .int (nI k))]) (n := 1) dX2_init_272 rfl rfl (by decide) (by decide) rfl ?_
  refine V_goto (tgt := 239) dX2_init_275 rfl ?_
  refine V_sub2 (ls' := [(0, .ref 10), (1, .int (nI k)), (5, .int (nI (r + 1)))]) (List.forall_mem_cons.mpr ⟨rfl, List.forall_mem_cons.mpr ⟨rfl, List.forall_mem_cons.mpr ⟨rfl, fun _ h => absurd h List.not_mem_nil⟩⟩⟩) ?_
  exact kk _ (cdS_s hk h1 h5 h)

set_option maxRecDepth 100000 in
set_option maxHeartbeats 4000000 in
theorem cd_code {G : zG} {Q : zQ} {rf : Nat → Nat → Option Nat} {I0 I : zI} {J : zJ} (hr : ∀ x, 10 ≤ x → x ≤ 15 → rf x = zrf x) {k : Nat} (hk : k < 56) (h : cdO I0 I k) (kk : ∀ I', cdO I0 I' (k + 1) → V G mX2_init 2 Q 48 [(0, .ref 10), (1, .int (nI (k + 1)))] [] (5, 728) (14, zkd, rf) I' J) : V G mX2_init 2 Q 48 [(0, .ref 10), (1, .int (nI k))] [] (5, 728) (14, zkd, rf) I J := by
  have hC9 := tC_le hk
  have hF3 := (cd_3 hk).2.2.2.2
  have hh9 := tHand_le hk
  refine V_iload_n dX2_init_48 rfl ?_
  refine V_bipush (v := nI 56) dX2_init_49 rfl ?_
  refine V_icmp_geN (tgt := 284) dX2_init_51 rfl (by omega) (by decide) (fun h => absurd h (by omega)) (fun _ => ?_)
  refine V_gets dX2_init_54 sX2_27 ?_
  refine V_iload_n dX2_init_57 rfl ?_
  refine V_tabN dX2_init_58 (by omega) ?_
  refine V_eqI (y := nI (tC k)) (zC_t (by omega)) ?_
  refine V_sipush (v := nI 10000) dX2_init_59 rfl ?_
  refine V_idivN dX2_init_62 (by omega) (by omega) (by omega) ?_
  refine V_eqI (y := nI (tHand k)) (congrArg nI (cd_3 hk).2.2.2.2) ?_
  refine V_istore_n (ls' := [(2, .int (nI (tHand k))), (0, .ref 10), (1, .int (nI k))]) dX2_init_63 (by decide) rfl ?_
  refine V_aload_n dX2_init_64 rfl ?_
  refine V_getR (b := 11) dX2_init_65 fX2_11 ⟨Nat.le_of_ble_eq_true rfl, Nat.le_of_ble_eq_true rfl⟩ rfl rfl (congrFun (hr 10 (by decide) (by decide)) 0) ?_
  refine V_iload_n dX2_init_68 rfl ?_
  refine V_iload_n dX2_init_69 rfl ?_
  refine V_iastN (k := k) dX2_init_70 ⟨Nat.le_of_ble_eq_true rfl, Nat.le_of_ble_eq_true rfl⟩ rfl (by decide) (by omega) ?_
  refine V_aload_n dX2_init_71 rfl ?_
  refine V_getR (b := 12) dX2_init_72 fX2_15 ⟨Nat.le_of_ble_eq_true rfl, Nat.le_of_ble_eq_true rfl⟩ rfl rfl (congrFun (hr 10 (by decide) (by decide)) 1) ?_
  refine V_iload_n dX2_init_75 rfl ?_
  refine V_iconst (v := nI 4) dX2_init_76 rfl ?_
  refine V_iastN (k := k) dX2_init_77 ⟨Nat.le_of_ble_eq_true rfl, Nat.le_of_ble_eq_true rfl⟩ rfl (by decide) (by omega) ?_
  refine V_aload_n dX2_init_78 rfl ?_
  refine V_getR (b := 15) dX2_init_79 fX2_24 ⟨Nat.le_of_ble_eq_true rfl, Nat.le_of_ble_eq_true rfl⟩ rfl rfl (congrFun (hr 10 (by decide) (by decide)) 4) ?_
  refine V_iload_n dX2_init_82 rfl ?_
  refine V_iload_n dX2_init_83 rfl ?_
  refine V_iastN (k := k) dX2_init_84 ⟨Nat.le_of_ble_eq_true rfl, Nat.le_of_ble_eq_true rfl⟩ rfl (by decide) (by omega) ?_
  refine V_aload_n dX2_init_85 rfl ?_
  refine V_getR (b := 14) dX2_init_86 fX2_21 ⟨Nat.le_of_ble_eq_true rfl, Nat.le_of_ble_eq_true rfl⟩ rfl rfl (congrFun (hr 10 (by decide) (by decide)) 3) ?_
  refine V_iconst (v := nI 5) dX2_init_89 rfl ?_
  refine V_iload_n dX2_init_90 rfl ?_
  refine V_imulN dX2_init_91 ?_
  refine V_iconst (v := nI 4) dX2_init_92 rfl ?_
  refine V_iaddN dX2_init_93 ?_
  refine V_iload_n dX2_init_94 rfl ?_
  refine V_if_leN (tgt := 114) dX2_init_95 rfl (by omega) (fun h95 => ?_) (fun h95 => ?_)
  · skip
    refine V_iload_n dX2_init_114 rfl ?_
    refine V_eqI (y := nI (tThr (5 * k + 4))) (congrArg nI ((cd_5 hk).2 (by omega)).symm) ?_
    refine V_iastN (k := (5 * k) + 4) dX2_init_115 ⟨Nat.le_of_ble_eq_true rfl, Nat.le_of_ble_eq_true rfl⟩ rfl (by decide) (by omega) ?_
    refine V_gets dX2_init_116 sX2_27 ?_
    refine V_iload_n dX2_init_119 rfl ?_
    refine V_tabN dX2_init_120 (by omega) ?_
    refine V_eqI (y := nI (tC k)) (zC_t (by omega)) ?_
    refine V_istore_n (ls' := [(3, .int (nI (tC k))), (2, .int (nI (tHand k))), (0, .ref 10), (1, .int (nI k))]) dX2_init_121 (by decide) rfl ?_
    refine V_iconst (v := nI 1) dX2_init_122 rfl ?_
    refine V_istore (ls' := [(4, .int (nI 1)), (3, .int (nI (tC k))), (2, .int (nI (tHand k))), (0, .ref 10), (1, .int (nI k))]) dX2_init_123 (by decide) rfl ?_
    refine V_iconst (v := nI 3) dX2_init_125 rfl ?_
    refine V_istore (ls' := [(5, .int (nI 3)), (4, .int (nI 1)), (3, .int (nI (tC k))), (2, .int (nI (tHand k))), (0, .ref 10), (1, .int (nI k))]) dX2_init_126 (by decide) rfl ?_
    have hR := cdR_0 (r := 0) hk h
    rw [(cd_3 hk).2.2.2.2] at hR
    refine V_sub2 (ls' := [(0, .ref 10), (1, .int (nI k)), (2, .int (nI (tHand k))), (3, .int (nI (tC k))), (4, .int (nI 1)), (5, .int (nI 3))]) (List.forall_mem_cons.mpr ⟨rfl, List.forall_mem_cons.mpr ⟨rfl, List.forall_mem_cons.mpr ⟨rfl, List.forall_mem_cons.mpr ⟨rfl, List.forall_mem_cons.mpr ⟨rfl, List.forall_mem_cons.mpr ⟨rfl, fun _ h => absurd h List.not_mem_nil⟩⟩⟩⟩⟩⟩) ?_
    refine cd_ring hr hk (r := 3) (q' := tC k / 10) (u' := 10) (by decide) (by show tC k = tC k / 1; omega) rfl rfl rfl hR (fun I3 hR3 => ?_)
    refine V_iinc (v := nI 2) (ls' := [(5, .int (nI 2)), (0, .ref 10), (1, .int (nI k)), (2, .int (nI (tHand k))), (3, .int (nI (tC k / 10))), (4, .int (nI 10))]) dX2_init_230 rfl (by decide) (by decide) rfl ?_
    refine V_goto (tgt := 128) dX2_init_233 rfl ?_
    refine V_sub2 (ls' := [(0, .ref 10), (1, .int (nI k)), (2, .int (nI (tHand k))), (3, .int (nI (tC k / 10))), (4, .int (nI 10)), (5, .int (nI 2))]) (List.forall_mem_cons.mpr ⟨rfl, List.forall_mem_cons.mpr ⟨rfl, List.forall_mem_cons.mpr ⟨rfl, List.forall_mem_cons.mpr ⟨rfl, List.forall_mem_cons.mpr ⟨rfl, List.forall_mem_cons.mpr ⟨rfl, fun _ h => absurd h List.not_mem_nil⟩⟩⟩⟩⟩⟩) ?_
    refine cd_ring hr hk (r := 2) (q' := tC k / 10 / 10) (u' := 100) (by decide) (by show tC k / 10 = tC k / 10; omega) rfl rfl rfl hR3 (fun I2 hR2 => ?_)
    refine V_iinc (v := nI 1) (ls' := [(5, .int (nI 1)), (0, .ref 10), (1, .int (nI k)), (2, .int (nI (tHand k))), (3, .int (nI (tC k / 10 / 10))), (4, .int (nI 100))]) dX2_init_230 rfl (by decide) (by decide) rfl ?_
    refine V_goto (tgt := 128) dX2_init_233 rfl ?_
    refine V_sub2 (ls' := [(0, .ref 10), (1, .int (nI k)), (2, .int (nI (tHand k))), (3, .int (nI (tC k / 10 / 10))), (4, .int (nI 100)), (5, .int (nI 1))]) (List.forall_mem_cons.mpr ⟨rfl, List.forall_mem_cons.mpr ⟨rfl, List.forall_mem_cons.mpr ⟨rfl, List.forall_mem_cons.mpr ⟨rfl, List.forall_mem_cons.mpr ⟨rfl, List.forall_mem_cons.mpr ⟨rfl, fun _ h => absurd h List.not_mem_nil⟩⟩⟩⟩⟩⟩) ?_
    refine cd_ring hr hk (r := 1) (q' := tC k / 10 / 10 / 10) (u' := 1000) (by decide) (by show tC k / 10 / 10 = tC k / 100; omega) rfl rfl rfl hR2 (fun I1 hR1 => ?_)
    refine V_iinc (v := nI 0) (ls' := [(5, .int (nI 0)), (0, .ref 10), (1, .int (nI k)), (2, .int (nI (tHand k))), (3, .int (nI (tC k / 10 / 10 / 10))), (4, .int (nI 1000))]) dX2_init_230 rfl (by decide) (by decide) rfl ?_
    refine V_goto (tgt := 128) dX2_init_233 rfl ?_
    refine V_sub2 (ls' := [(0, .ref 10), (1, .int (nI k)), (2, .int (nI (tHand k))), (3, .int (nI (tC k / 10 / 10 / 10))), (4, .int (nI 1000)), (5, .int (nI 0))]) (List.forall_mem_cons.mpr ⟨rfl, List.forall_mem_cons.mpr ⟨rfl, List.forall_mem_cons.mpr ⟨rfl, List.forall_mem_cons.mpr ⟨rfl, List.forall_mem_cons.mpr ⟨rfl, List.forall_mem_cons.mpr ⟨rfl, fun _ h => absurd h List.not_mem_nil⟩⟩⟩⟩⟩⟩) ?_
    refine cd_ring hr hk (r := 0) (q' := tC k / 10 / 10 / 10 / 10) (u' := 10000) (by decide) (by show tC k / 10 / 10 / 10 = tC k / 1000; omega) rfl rfl rfl hR1 (fun I0 hR0 => ?_)
    refine V_iinc (v := (-1)) (ls' := [(5, .int (-1)), (0, .ref 10), (1, .int (nI k)), (2, .int (nI (tHand k))), (3, .int (nI (tC k / 10 / 10 / 10 / 10))), (4, .int (nI 10000))]) dX2_init_230 rfl (by decide) (by decide) rfl ?_
    refine V_goto (tgt := 128) dX2_init_233 rfl ?_
    refine V_iload dX2_init_128 rfl ?_
    refine V_if_lt (tgt := 236) dX2_init_130 rfl (fun _ => ?_) (fun h => absurd h (by decide))
    refine V_iconst (v := nI 1) dX2_init_236 rfl ?_
    refine V_istore (ls' := [(5, .int (nI 1)), (0, .ref 10), (1, .int (nI k)), (2, .int (nI (tHand k))), (3, .int (nI (tC k / 10 / 10 / 10 / 10))), (4, .int (nI 10000))]) dX2_init_237 (by decide) rfl ?_
    refine V_sub2 (ls' := [(0, .ref 10), (1, .int (nI k)), (5, .int (nI 1))]) (List.forall_mem_cons.mpr ⟨rfl, List.forall_mem_cons.mpr ⟨rfl, List.forall_mem_cons.mpr ⟨rfl, fun _ h => absurd h List.not_mem_nil⟩⟩⟩) ?_
    refine cd_bel hr hk (r := 1) (by decide) (by decide) (cdS_1 hk hR0) (fun K2 hS2 => ?_)
    refine V_sub2 (ls' := [(0, .ref 10), (1, .int (nI k)), (5, .int (nI 2))]) (List.forall_mem_cons.mpr ⟨rfl, List.forall_mem_cons.mpr ⟨rfl, List.forall_mem_cons.mpr ⟨rfl, fun _ h => absurd h List.not_mem_nil⟩⟩⟩) ?_
    refine cd_bel hr hk (r := 2) (by decide) (by decide) hS2 (fun K3 hS3 => ?_)
    refine V_sub2 (ls' := [(0, .ref 10), (1, .int (nI k)), (5, .int (nI 3))]) (List.forall_mem_cons.mpr ⟨rfl, List.forall_mem_cons.mpr ⟨rfl, List.forall_mem_cons.mpr ⟨rfl, fun _ h => absurd h List.not_mem_nil⟩⟩⟩) ?_
    refine cd_bel hr hk (r := 3) (by decide) (by decide) hS3 (fun K4 hS4 => ?_)
    refine V_sub2 (ls' := [(0, .ref 10), (1, .int (nI k)), (5, .int (nI 4))]) (List.forall_mem_cons.mpr ⟨rfl, List.forall_mem_cons.mpr ⟨rfl, List.forall_mem_cons.mpr ⟨rfl, fun _ h => absurd h List.not_mem_nil⟩⟩⟩) ?_
    refine cd_bel hr hk (r := 4) (by decide) (by decide) hS4 (fun K5 hS5 => ?_)
    refine V_iload dX2_init_239 rfl ?_
    refine V_iconst (v := nI 4) dX2_init_241 rfl ?_
    refine V_icmp_gt (tgt := 278) dX2_init_242 rfl (fun _ => ?_) (fun h => absurd h (by decide))
    refine V_iincN (ls' := [(1, .int (nI (k + 1))), (0, .ref 10), (5, .int (nI 5))]) (n := 1) dX2_init_278 rfl rfl (by decide) (by decide) rfl ?_
    refine V_goto (tgt := 48) dX2_init_281 rfl ?_
    refine V_sub2 (ls' := [(0, .ref 10), (1, .int (nI (k + 1)))]) (List.forall_mem_cons.mpr ⟨rfl, List.forall_mem_cons.mpr ⟨rfl, fun _ h => absurd h List.not_mem_nil⟩⟩) ?_
    exact kk _ (cdO_s hS5)
  · skip
    have hF5 := (cd_5 hk).1 (by omega)
    refine V_aload_n dX2_init_98 rfl ?_
    refine V_gets dX2_init_99 sX2_27 ?_
    refine V_iload_n dX2_init_102 rfl ?_
    refine V_tabN dX2_init_103 (by omega) ?_
    refine V_eqI (y := nI (tC k)) (zC_t (by omega)) ?_
    refine V_sipush (v := nI 10000) dX2_init_104 rfl ?_
    refine V_isubN dX2_init_107 (by omega) ?_
    refine V_callV (As := [.int (nI ((tC k) - 10000))]) (st := [.int (nI ((5 * k) + 4)), .ref 14]) (a := 10) dX2_init_108 kX2_placeOf lX2_30 (by decide) rfl rfl (Nat.le_of_ble_eq_true rfl) ⟨Nat.le_of_ble_eq_true rfl, Nat.le_of_ble_eq_true rfl⟩ ⟨Nat.le_of_ble_eq_true rfl, Nat.le_of_ble_eq_true rfl⟩ rfl ⟨rfl, by decide⟩ c_placeOf2S ?_
    rintro _ _ _ _ ⟨rfl, rfl, rfl, rfl⟩
    refine V_eqI (y := nI (tThr (5 * k + 4))) (pen_of (Nat.lt_succ_of_le (tThr_le (by omega))) (congrArg nI (by omega))) ?_
    refine V_goto (tgt := 115) dX2_init_111 rfl ?_
    refine V_iastN (k := (5 * k) + 4) dX2_init_115 ⟨Nat.le_of_ble_eq_true rfl, Nat.le_of_ble_eq_true rfl⟩ rfl (by decide) (by omega) ?_
    refine V_gets dX2_init_116 sX2_27 ?_
    refine V_iload_n dX2_init_119 rfl ?_
    refine V_tabN dX2_init_120 (by omega) ?_
    refine V_eqI (y := nI (tC k)) (zC_t (by omega)) ?_
    refine V_istore_n (ls' := [(3, .int (nI (tC k))), (2, .int (nI (tHand k))), (0, .ref 10), (1, .int (nI k))]) dX2_init_121 (by decide) rfl ?_
    refine V_iconst (v := nI 1) dX2_init_122 rfl ?_
    refine V_istore (ls' := [(4, .int (nI 1)), (3, .int (nI (tC k))), (2, .int (nI (tHand k))), (0, .ref 10), (1, .int (nI k))]) dX2_init_123 (by decide) rfl ?_
    refine V_iconst (v := nI 3) dX2_init_125 rfl ?_
    refine V_istore (ls' := [(5, .int (nI 3)), (4, .int (nI 1)), (3, .int (nI (tC k))), (2, .int (nI (tHand k))), (0, .ref 10), (1, .int (nI k))]) dX2_init_126 (by decide) rfl ?_
    have hR := cdR_0 (r := 0) hk h
    rw [(cd_3 hk).2.2.2.2] at hR
    refine V_sub2 (ls' := [(0, .ref 10), (1, .int (nI k)), (2, .int (nI (tHand k))), (3, .int (nI (tC k))), (4, .int (nI 1)), (5, .int (nI 3))]) (List.forall_mem_cons.mpr ⟨rfl, List.forall_mem_cons.mpr ⟨rfl, List.forall_mem_cons.mpr ⟨rfl, List.forall_mem_cons.mpr ⟨rfl, List.forall_mem_cons.mpr ⟨rfl, List.forall_mem_cons.mpr ⟨rfl, fun _ h => absurd h List.not_mem_nil⟩⟩⟩⟩⟩⟩) ?_
    refine cd_ring hr hk (r := 3) (q' := tC k / 10) (u' := 10) (by decide) (by show tC k = tC k / 1; omega) rfl rfl rfl hR (fun I3 hR3 => ?_)
    refine V_iinc (v := nI 2) (ls' := [(5, .int (nI 2)), (0, .ref 10), (1, .int (nI k)), (2, .int (nI (tHand k))), (3, .int (nI (tC k / 10))), (4, .int (nI 10))]) dX2_init_230 rfl (by decide) (by decide) rfl ?_
    refine V_goto (tgt := 128) dX2_init_233 rfl ?_
    refine V_sub2 (ls' := [(0, .ref 10), (1, .int (nI k)), (2, .int (nI (tHand k))), (3, .int (nI (tC k / 10))), (4, .int (nI 10)), (5, .int (nI 2))]) (List.forall_mem_cons.mpr ⟨rfl, List.forall_mem_cons.mpr ⟨rfl, List.forall_mem_cons.mpr ⟨rfl, List.forall_mem_cons.mpr ⟨rfl, List.forall_mem_cons.mpr ⟨rfl, List.forall_mem_cons.mpr ⟨rfl, fun _ h => absurd h List.not_mem_nil⟩⟩⟩⟩⟩⟩) ?_
    refine cd_ring hr hk (r := 2) (q' := tC k / 10 / 10) (u' := 100) (by decide) (by show tC k / 10 = tC k / 10; omega) rfl rfl rfl hR3 (fun I2 hR2 => ?_)
    refine V_iinc (v := nI 1) (ls' := [(5, .int (nI 1)), (0, .ref 10), (1, .int (nI k)), (2, .int (nI (tHand k))), (3, .int (nI (tC k / 10 / 10))), (4, .int (nI 100))]) dX2_init_230 rfl (by decide) (by decide) rfl ?_
    refine V_goto (tgt := 128) dX2_init_233 rfl ?_
    refine V_sub2 (ls' := [(0, .ref 10), (1, .int (nI k)), (2, .int (nI (tHand k))), (3, .int (nI (tC k / 10 / 10))), (4, .int (nI 100)), (5, .int (nI 1))]) (List.forall_mem_cons.mpr ⟨rfl, List.forall_mem_cons.mpr ⟨rfl, List.forall_mem_cons.mpr ⟨rfl, List.forall_mem_cons.mpr ⟨rfl, List.forall_mem_cons.mpr ⟨rfl, List.forall_mem_cons.mpr ⟨rfl, fun _ h => absurd h List.not_mem_nil⟩⟩⟩⟩⟩⟩) ?_
    refine cd_ring hr hk (r := 1) (q' := tC k / 10 / 10 / 10) (u' := 1000) (by decide) (by show tC k / 10 / 10 = tC k / 100; omega) rfl rfl rfl hR2 (fun I1 hR1 => ?_)
    refine V_iinc (v := nI 0) (ls' := [(5, .int (nI 0)), (0, .ref 10), (1, .int (nI k)), (2, .int (nI (tHand k))), (3, .int (nI (tC k / 10 / 10 / 10))), (4, .int (nI 1000))]) dX2_init_230 rfl (by decide) (by decide) rfl ?_
    refine V_goto (tgt := 128) dX2_init_233 rfl ?_
    refine V_sub2 (ls' := [(0, .ref 10), (1, .int (nI k)), (2, .int (nI (tHand k))), (3, .int (nI (tC k / 10 / 10 / 10))), (4, .int (nI 1000)), (5, .int (nI 0))]) (List.forall_mem_cons.mpr ⟨rfl, List.forall_mem_cons.mpr ⟨rfl, List.forall_mem_cons.mpr ⟨rfl, List.forall_mem_cons.mpr ⟨rfl, List.forall_mem_cons.mpr ⟨rfl, List.forall_mem_cons.mpr ⟨rfl, fun _ h => absurd h List.not_mem_nil⟩⟩⟩⟩⟩⟩) ?_
    refine cd_ring hr hk (r := 0) (q' := tC k / 10 / 10 / 10 / 10) (u' := 10000) (by decide) (by show tC k / 10 / 10 / 10 = tC k / 1000; omega) rfl rfl rfl hR1 (fun I0 hR0 => ?_)
    refine V_iinc (v := (-1)) (ls' := [(5, .int (-1)), (0, .ref 10), (1, .int (nI k)), (2, .int (nI (tHand k))), (3, .int (nI (tC k / 10 / 10 / 10 / 10))), (4, .int (nI 10000))]) dX2_init_230 rfl (by decide) (by decide) rfl ?_
    refine V_goto (tgt := 128) dX2_init_233 rfl ?_
    refine V_iload dX2_init_128 rfl ?_
    refine V_if_lt (tgt := 236) dX2_init_130 rfl (fun _ => ?_) (fun h => absurd h (by decide))
    refine V_iconst (v := nI 1) dX2_init_236 rfl ?_
    refine V_istore (ls' := [(5, .int (nI 1)), (0, .ref 10), (1, .int (nI k)), (2, .int (nI (tHand k))), (3, .int (nI (tC k / 10 / 10 / 10 / 10))), (4, .int (nI 10000))]) dX2_init_237 (by decide) rfl ?_
    refine V_sub2 (ls' := [(0, .ref 10), (1, .int (nI k)), (5, .int (nI 1))]) (List.forall_mem_cons.mpr ⟨rfl, List.forall_mem_cons.mpr ⟨rfl, List.forall_mem_cons.mpr ⟨rfl, fun _ h => absurd h List.not_mem_nil⟩⟩⟩) ?_
    refine cd_bel hr hk (r := 1) (by decide) (by decide) (cdS_1 hk hR0) (fun K2 hS2 => ?_)
    refine V_sub2 (ls' := [(0, .ref 10), (1, .int (nI k)), (5, .int (nI 2))]) (List.forall_mem_cons.mpr ⟨rfl, List.forall_mem_cons.mpr ⟨rfl, List.forall_mem_cons.mpr ⟨rfl, fun _ h => absurd h List.not_mem_nil⟩⟩⟩) ?_
    refine cd_bel hr hk (r := 2) (by decide) (by decide) hS2 (fun K3 hS3 => ?_)
    refine V_sub2 (ls' := [(0, .ref 10), (1, .int (nI k)), (5, .int (nI 3))]) (List.forall_mem_cons.mpr ⟨rfl, List.forall_mem_cons.mpr ⟨rfl, List.forall_mem_cons.mpr ⟨rfl, fun _ h => absurd h List.not_mem_nil⟩⟩⟩) ?_
    refine cd_bel hr hk (r := 3) (by decide) (by decide) hS3 (fun K4 hS4 => ?_)
    refine V_sub2 (ls' := [(0, .ref 10), (1, .int (nI k)), (5, .int (nI 4))]) (List.forall_mem_cons.mpr ⟨rfl, List.forall_mem_cons.mpr ⟨rfl, List.forall_mem_cons.mpr ⟨rfl, fun _ h => absurd h List.not_mem_nil⟩⟩⟩) ?_
    refine cd_bel hr hk (r := 4) (by decide) (by decide) hS4 (fun K5 hS5 => ?_)
    refine V_iload dX2_init_239 rfl ?_
    refine V_iconst (v := nI 4) dX2_init_241 rfl ?_
    refine V_icmp_gt (tgt := 278) dX2_init_242 rfl (fun _ => ?_) (fun h => absurd h (by decide))
    refine V_iincN (ls' := [(1, .int (nI (k + 1))), (0, .ref 10), (5, .int (nI 5))]) (n := 1) dX2_init_278 rfl rfl (by decide) (by decide) rfl ?_
    refine V_goto (tgt := 48) dX2_init_281 rfl ?_
    refine V_sub2 (ls' := [(0, .ref 10), (1, .int (nI (k + 1)))]) (List.forall_mem_cons.mpr ⟨rfl, List.forall_mem_cons.mpr ⟨rfl, fun _ h => absurd h List.not_mem_nil⟩⟩) ?_
    exact kk _ (cdO_s hS5)

set_option maxRecDepth 100000 in
set_option maxHeartbeats 4000000 in
theorem cd_loop {G : zG} {rf : Nat → Nat → Option Nat} {I : zI} {J : zJ} (hr : ∀ x, 10 ≤ x → x ≤ 15 → rf x = zrf x)  : ∀ n k I1, k + n = 56 → cdO I I1 k → V G mX2_init 2 (zB2 (14, zkd, rf) (fun I' J' => tabX I' ∧ (∀ x, x < 11 ∨ 15 < x → I' x = I x) ∧ J' = J)) 48 [(0, .ref 10), (1, .int (nI k))] [] (5, 728) (14, zkd, rf) I1 J := by
  intro n
  induction n with
  | zero =>
    intro k I1 hk h
    obtain rfl : k = 56 := by omega
    refine V_iload_n dX2_init_48 rfl ?_
    refine V_bipush (v := nI 56) dX2_init_49 rfl ?_
    refine V_icmp_geN (tgt := 284) dX2_init_51 rfl (by decide) (by decide) (fun _ => ?_) (fun h => absurd h (by decide))
    exact V_ret ⟨rfl, dX2_init_284⟩ ⟨Nat.le_of_ble_eq_true rfl, Nat.le_of_ble_eq_true rfl⟩ ⟨rfl, rfl, ⟨h.2.1, h.2.2.1, h.2.2.2.1, h.2.2.2.2.1, h.2.2.2.2.2.1⟩, h.1, rfl⟩
  | succ n ih =>
    intro k I1 hk h
    exact cd_code hr (by omega) h (fun I' h' => ih (k + 1) I' (by omega) h')

set_option maxRecDepth 100000 in
set_option maxHeartbeats 4000000 in
theorem ci_X2_10 {G : zG} {rf : Nat → Nat → Option Nat} {I : zI} {J : zJ} (hr : ∀ x, 10 ≤ x → x ≤ 15 → rf x = zrf x) (hi : ∀ x, 10 ≤ x → x ≤ 15 → I x = fun _ => 0) (hj : ∀ x, 10 ≤ x → x ≤ 15 → J x = fun _ => 0) : zK G mX2_init 2 [.ref 10] (9, zkd, zup rf 10 (rP 10 0)) I J (zB2 (14, zkd, rf) (fun I' J' => tabX I' ∧ (∀ x, x < 11 ∨ 15 < x → I' x = I x) ∧ J' = J)) := by
  refine zK_of kX2_init.2.2.2.2.1 (Nat.le_of_ble_eq_true rfl) ?_
  show V G mX2_init 2 _ 0 [(0, .ref 10)] [] (0, 0) (9, zkd, zup rf 10 (rP 10 0)) I J
  refine V_aload_n dX2_init_0 rfl ?_
  refine V_obj dX2_init_1 jX2_3 (Nat.le_of_ble_eq_true rfl) (Nat.le_of_ble_eq_true rfl) ?_
  refine V_aload_n dX2_init_4 rfl ?_
  refine V_bipush (v := nI 56) dX2_init_5 rfl ?_
  refine W_newI (m' := 10) (a := 11) (c1' := 1) (c2' := 56) dX2_init_7 rfl rfl rfl ((zup_n (by decide)).trans ((hr 11 (by decide) (by decide)).trans rfl)) (hi 11 (by decide) (by decide)) (hj 11 (by decide) (by decide)) (Nat.lt_of_le_of_lt (Nat.le_of_ble_eq_true rfl) (show 100000 < 2 ^ 20 by decide)) ⟨rfl, rfl⟩ ⟨Nat.le_of_ble_eq_true rfl, Nat.le_of_ble_eq_true rfl⟩ ?_
  refine W_putR (n := 0) (k := 0) (b := 11) dX2_init_9 fX2_11 gX2_11 ⟨Nat.le_of_ble_eq_true rfl, Nat.le_of_ble_eq_true rfl⟩ rfl rfl rfl rfl rfl (fun _ => ⟨rfl, rfl⟩) (Nat.le_of_ble_eq_true rfl) rfl (by decide +kernel) ?_
  refine V_aload_n dX2_init_12 rfl ?_
  refine V_bipush (v := nI 56) dX2_init_13 rfl ?_
  refine W_newI (m' := 11) (a := 12) (c1' := 2) (c2' := 112) dX2_init_15 rfl rfl rfl ((zup_n (by decide)).trans ((hr 12 (by decide) (by decide)).trans rfl)) (hi 12 (by decide) (by decide)) (hj 12 (by decide) (by decide)) (Nat.lt_of_le_of_lt (Nat.le_of_ble_eq_true rfl) (show 100000 < 2 ^ 20 by decide)) ⟨rfl, rfl⟩ ⟨Nat.le_of_ble_eq_true rfl, Nat.le_of_ble_eq_true rfl⟩ ?_
  refine W_putR (n := 1) (k := 1) (b := 12) dX2_init_17 fX2_15 gX2_15 ⟨Nat.le_of_ble_eq_true rfl, Nat.le_of_ble_eq_true rfl⟩ rfl rfl rfl rfl rfl (fun _ => ⟨rfl, rfl⟩) (Nat.le_of_ble_eq_true rfl) rfl (by decide +kernel) ?_
  refine V_aload_n dX2_init_20 rfl ?_
  refine V_sipush (v := nI 280) dX2_init_21 rfl ?_
  refine W_newI (m' := 12) (a := 13) (c1' := 3) (c2' := 392) dX2_init_24 rfl rfl rfl ((zup_n (by decide)).trans ((hr 13 (by decide) (by decide)).trans rfl)) (hi 13 (by decide) (by decide)) (hj 13 (by decide) (by decide)) (Nat.lt_of_le_of_lt (Nat.le_of_ble_eq_true rfl) (show 100000 < 2 ^ 20 by decide)) ⟨rfl, rfl⟩ ⟨Nat.le_of_ble_eq_true rfl, Nat.le_of_ble_eq_true rfl⟩ ?_
  refine W_putR (n := 2) (k := 2) (b := 13) dX2_init_26 fX2_18 gX2_18 ⟨Nat.le_of_ble_eq_true rfl, Nat.le_of_ble_eq_true rfl⟩ rfl rfl rfl rfl rfl (fun _ => ⟨rfl, rfl⟩) (Nat.le_of_ble_eq_true rfl) rfl (by decide +kernel) ?_
  refine V_aload_n dX2_init_29 rfl ?_
  refine V_sipush (v := nI 280) dX2_init_30 rfl ?_
  refine W_newI (m' := 13) (a := 14) (c1' := 4) (c2' := 672) dX2_init_33 rfl rfl rfl ((zup_n (by decide)).trans ((hr 14 (by decide) (by decide)).trans rfl)) (hi 14 (by decide) (by decide)) (hj 14 (by decide) (by decide)) (Nat.lt_of_le_of_lt (Nat.le_of_ble_eq_true rfl) (show 100000 < 2 ^ 20 by decide)) ⟨rfl, rfl⟩ ⟨Nat.le_of_ble_eq_true rfl, Nat.le_of_ble_eq_true rfl⟩ ?_
  refine W_putR (n := 3) (k := 3) (b := 14) dX2_init_35 fX2_21 gX2_21 ⟨Nat.le_of_ble_eq_true rfl, Nat.le_of_ble_eq_true rfl⟩ rfl rfl rfl rfl rfl (fun _ => ⟨rfl, rfl⟩) (Nat.le_of_ble_eq_true rfl) rfl (by decide +kernel) ?_
  refine V_aload_n dX2_init_38 rfl ?_
  refine V_bipush (v := nI 56) dX2_init_39 rfl ?_
  refine W_newI (m' := 14) (a := 15) (c1' := 5) (c2' := 728) dX2_init_41 rfl rfl rfl ((zup_n (by decide)).trans ((hr 15 (by decide) (by decide)).trans rfl)) (hi 15 (by decide) (by decide)) (hj 15 (by decide) (by decide)) (Nat.lt_of_le_of_lt (Nat.le_of_ble_eq_true rfl) (show 100000 < 2 ^ 20 by decide)) ⟨rfl, rfl⟩ ⟨Nat.le_of_ble_eq_true rfl, Nat.le_of_ble_eq_true rfl⟩ ?_
  refine W_putR (n := 4) (k := 4) (b := 15) dX2_init_43 fX2_24 gX2_24 ⟨Nat.le_of_ble_eq_true rfl, Nat.le_of_ble_eq_true rfl⟩ rfl rfl rfl rfl rfl (fun _ => ⟨rfl, rfl⟩) (Nat.le_of_ble_eq_true rfl) rfl (by decide +kernel) ?_
  refine V_iconst (v := nI 0) dX2_init_46 rfl ?_
  refine V_istore_n (ls' := [(1, .int (nI 0)), (0, .ref 10)]) dX2_init_47 (by decide) rfl ?_
  refine V_sub2 (ls' := [(0, .ref 10), (1, .int (nI 0))]) (List.forall_mem_cons.mpr ⟨rfl, List.forall_mem_cons.mpr ⟨rfl, fun _ h => absurd h List.not_mem_nil⟩⟩) ?_
  refine W_end (hr 10 (Nat.le_of_ble_eq_true rfl) (Nat.le_of_ble_eq_true rfl)) (by decide +kernel) ?_
  exact cd_loop hr 56 0 I rfl ⟨fun x _ => rfl, fun j hj => absurd hj (Nat.not_lt_zero _), fun j hj => absurd hj (Nat.not_lt_zero _), fun j hj => absurd hj (Nat.not_lt_zero _), fun j hj => absurd hj (Nat.not_lt_zero _), fun j hj => absurd hj (Nat.not_lt_zero _), fun j _ => by rw [hi 13 (by decide) (by decide)]⟩

