/-! BOTH: as they are made -/
theorem rel0 {Ic I : zI} {J : zJ} (hT : tabX Ic) (hC : ∀ x, x < 11 ∨ 15 < x → Ic x = zwr (zwr (fun _ _ => 0) 2 0 (nI 8)) 2 1 (nI 1) x) (h2 : ∀ a, a ≠ 63 → a ≠ 64 → a ≠ 65 → I a = (zwr (zwr (zwr (zwr (zwr (zwr (zwr (zwr (zwr (zwr (zwr (zwr (zwr (zwr Ic 9 4 (nI 8)) 9 6 (nI 0)) 9 12 (-1)) 36 5 (-1)) 49 4 (nI 50)) 49 5 (nI 50)) 58 4 (nI 50)) 58 5 (nI 50)) 62 4 (nI 8)) 62 5 (nI 8)) 62 6 (nI 1)) 62 57 (nI 50)) 62 58 (nI 50)) 62 46 (-1)) a) (hM : mT I) (hJ : J = zup (fun _ _ => 0) 32 (zflL (-4000000000000000000) (fun _ => 0) 10)) : REL I J := by
  have r0 : ∀ a, a ≠ 2 → a ≠ 9 → (a < 11 ∨ 15 < a) → a ≠ 36 → a ≠ 49 → a ≠ 58 → (a < 62 ∨ 65 < a) → I a = fun _ => 0 := by
    intro a q1 q2 q3 q4 q5 q6 q7
    rw [h2 a (by omega) (by omega) (by omega), zw_o (by omega), zw_o (by omega), zw_o (by omega), zw_o (by omega), zw_o (by omega), zw_o (by omega), zw_o (by omega), zw_o (by omega), zw_o (by omega), zw_o (by omega), zw_o (by omega), zw_o (by omega), zw_o (by omega), zw_o (by omega), hC a q3, zw_o (by omega), zw_o (by omega)]
  have rc : ∀ a, 10 < a → a < 16 → I a = Ic a := by
    intro a q1 q2
    rw [h2 a (by omega) (by omega) (by omega), zw_o (by omega), zw_o (by omega), zw_o (by omega), zw_o (by omega), zw_o (by omega), zw_o (by omega), zw_o (by omega), zw_o (by omega), zw_o (by omega), zw_o (by omega), zw_o (by omega), zw_o (by omega), zw_o (by omega), zw_o (by omega)]
  have r2 : ∀ k, I 2 k = zwr (zwr (fun _ _ => 0) 2 0 (nI 8)) 2 1 (nI 1) 2 k := by
    intro k
    rw [h2 2 (by omega) (by omega) (by omega), zw_o (by omega), zw_o (by omega), zw_o (by omega), zw_o (by omega), zw_o (by omega), zw_o (by omega), zw_o (by omega), zw_o (by omega), zw_o (by omega), zw_o (by omega), zw_o (by omega), zw_o (by omega), zw_o (by omega), zw_o (by omega), hC 2 (by omega)]
  have z9 : ∀ k, Ic 9 k = 0 := fun k => by rw [hC 9 (by omega), zw_o (by omega), zw_o (by omega)]
  have z49 : ∀ k, Ic 49 k = 0 := fun k => by rw [hC 49 (by omega), zw_o (by omega), zw_o (by omega)]
  have z62 : ∀ k, Ic 62 k = 0 := fun k => by rw [hC 62 (by omega), zw_o (by omega), zw_o (by omega)]
  have r9 : ∀ k, I 9 k = (zwr (zwr (zwr Ic 9 4 (nI 8)) 9 6 (nI 0)) 9 12 (-1)) 9 k := by
    intro k
    rw [h2 9 (by omega) (by omega) (by omega), zw_o (by omega), zw_o (by omega), zw_o (by omega), zw_o (by omega), zw_o (by omega), zw_o (by omega), zw_o (by omega), zw_o (by omega), zw_o (by omega), zw_o (by omega), zw_o (by omega)]
  have r36 : I 36 5 = -1 := by
    rw [h2 36 (by omega) (by omega) (by omega), zw_o (by omega), zw_o (by omega), zw_o (by omega), zw_o (by omega), zw_o (by omega), zw_o (by omega), zw_o (by omega), zw_o (by omega), zw_o (by omega), zw_o (by omega)]
    rfl
  have r49 : ∀ k, I 49 k = if k = 5 then nI 50 else if k = 4 then nI 50 else 0 := by
    intro k
    rw [h2 49 (by omega) (by omega) (by omega), zw_o (by omega), zw_o (by omega), zw_o (by omega), zw_o (by omega), zw_o (by omega), zw_o (by omega), zw_o (by omega), zw_o (by omega), zwr_at, zwr_at, zw_o (by omega), zw_o (by omega), zw_o (by omega), zw_o (by omega), z49 k]
    simp only [true_and]
  have r62 : ∀ k, I 62 k = if k = 46 then -1 else if k = 58 then nI 50 else if k = 57 then nI 50 else if k = 6 then nI 1 else if k = 5 then nI 8 else if k = 4 then nI 8 else 0 := by
    intro k
    rw [h2 62 (by omega) (by omega) (by omega), zwr_at, zwr_at, zwr_at, zwr_at, zwr_at, zwr_at, zw_o (by omega), zw_o (by omega), zw_o (by omega), zw_o (by omega), zw_o (by omega), zw_o (by omega), zw_o (by omega), zw_o (by omega), z62 k]
    simp only [true_and]
  have n0 : (0 : Int32) = nI 0 := rfl
  have hE : ∀ t, I 74 t = nI 0 := fun t => by rw [r0 74 (by omega) (by omega) (by omega) (by omega) (by omega) (by omega) (by omega)]; rfl
  have hP : ∀ pa, (15 < pa ∧ pa < 26) → progI I pa (lfM [] (fun _ => (fun _ => none, fun _ => none))) := by
    intro pa hpa
    refine ⟨0, fun _ => 0, fun _ => 0, fun _ => 0, fun _ => 0, fun _ => 0, ⟨rfl, by decide, fun j hj => absurd hj (Nat.not_lt_zero _)⟩, ?_, fun _ _ => rfl, fun _ _ _ _ => rfl⟩
    rw [r0 pa (by omega) (by omega) (by omega) (by omega) (by omega) (by omega) (by omega)]
    rfl
  have hm : ∀ t, mpI I t [] (fun _ => (fun _ => none, fun _ => none)) := fun t => ⟨fun j c g1 g2 h => absurd h (by simp), by decide, by decide, hE t, fun j c g1 g2 h => absurd h (by simp)⟩
  have h30 : ∀ k, I 30 k = 0 := fun k => by rw [r0 30 (by omega) (by omega) (by omega) (by omega) (by omega) (by omega) (by omega)]
  refine ⟨8, 1, 0, ⟨⟨?_, by decide, by decide, ?_, by decide, ?_⟩, ⟨?_, by decide, ?_, ?_, ?_⟩, ⟨?_, ?_, ?_⟩, ?_, ?_, ?_, ?_⟩, ?_⟩
  · rw [r2]; rfl
  · rw [r2]; rfl
  · rw [r62]; rfl
  · rw [r0 3 (by omega) (by omega) (by omega) (by omega) (by omega) (by omega) (by omega)]; rfl
  · intro j; rw [r0 4 (by omega) (by omega) (by omega) (by omega) (by omega) (by omega) (by omega)]; exact (by decide : fits FieldType.byte (.int 0) = true)
  · rw [r62]; rfl
  · rw [r0 66 (by omega) (by omega) (by omega) (by omega) (by omega) (by omega) (by omega), r0 4 (by omega) (by omega) (by omega) (by omega) (by omega) (by omega) (by omega)]
  · intro j _; rw [r0 95 (by omega) (by omega) (by omega) (by omega) (by omega) (by omega) (by omega), r0 42 (by omega) (by omega) (by omega) (by omega) (by omega) (by omega) (by omega)]
  · exact ⟨fun _ => 0, fun _ => Nat.zero_le _, fun j _ => by rw [r0 43 (by omega) (by omega) (by omega) (by omega) (by omega) (by omega) (by omega)]; rfl⟩
  · exact ⟨fun _ => 0, fun _ => Nat.zero_le _, fun j _ => by rw [r0 96 (by omega) (by omega) (by omega) (by omega) (by omega) (by omega) (by omega)]; rfl⟩
  · refine ⟨fun _ => 0, fun _ => 0, ⟨?_, by decide, fun k _ => ⟨?_, ?_, Nat.le_refl _, Nat.zero_le _⟩⟩, ⟨by decide, fun k _ => ⟨?_, ?_, Nat.le_refl _, Nat.zero_le _⟩⟩, fun _ => Nat.le_refl _⟩
    · rw [r0 44 (by omega) (by omega) (by omega) (by omega) (by omega) (by omega) (by omega)]; rfl
    · rw [r0 (44 + 1) (by omega) (by omega) (by omega) (by omega) (by omega) (by omega) (by omega)]; rfl
    · rw [r0 (44 + 2) (by omega) (by omega) (by omega) (by omega) (by omega) (by omega) (by omega)]; rfl
    · rw [r0 91 (by omega) (by omega) (by omega) (by omega) (by omega) (by omega) (by omega)]; rfl
    · rw [r0 92 (by omega) (by omega) (by omega) (by omega) (by omega) (by omega) (by omega)]; rfl
  · refine ⟨0, fun _ => 0, fun _ => 0, fun _ => 0, 50, 50, ⟨?_, by decide, fun k hk => absurd hk (Nat.not_lt_zero _), ?_, by decide, ?_, by decide⟩, ⟨?_, by decide, fun k hk => absurd hk (Nat.not_lt_zero _), ?_, by decide, ?_, by decide⟩⟩
    · rw [r49]; rfl
    · rw [r49]; rfl
    · rw [r49]; rfl
    · rw [r62]; rfl
    · rw [r62]; rfl
    · rw [r62]; rfl
  · exact Or.inl ⟨by rw [r2]; rfl, by rw [r62]; rfl⟩
  · exact Or.inl ⟨r36, by rw [r62]; rfl⟩
  · refine ⟨[], fun _ => (fun _ => none, fun _ => none), fun _ => [], fun _ _ => (fun _ => none, fun _ => none), ?_, ⟨⟨hM, hm 0, fun k _ => ⟨hm (k + 1), fun j c g1 g2 h => absurd h (by simp)⟩, ?_⟩, by rw [r62]; rfl, fun h => absurd (by rw [r62]; rfl) h⟩, by rw [r62]; rfl, ?_, ?_⟩
    · refine ⟨8, by decide, ⟨⟨tabX_c hT ⟨rc 11 (by omega) (by omega), rc 12 (by omega) (by omega), rc 13 (by omega) (by omega), rc 14 (by omega) (by omega), rc 15 (by omega) (by omega)⟩, hP 16 (by omega), fun k hk => hP (19 + 2 * k) (by omega), by rw [r9]; rfl, fun p q l _ => Or.inl (h30 _)⟩, ?_, fun h => absurd (by rw [r9]; rfl) h⟩, ?_, Or.inl (by rw [r9]; rfl)⟩
      · intro p q l hs hb
        exact absurd (hb.symm.trans (h30 _)) (tEnc_ne (by unfold btV; split <;> decide))
      · intro n f h6 h10 hf
        refine Or.inl ?_
        rw [hJ, zup_s]
        exact if_pos (by omega)
    · intro f h6 h10 h
      rw [r62] at h
      exact absurd ((nI_eq (by decide) (by omega)).mp ((n0.symm.trans h))) (by omega)
    · rw [r0 16 (by omega) (by omega) (by omega) (by omega) (by omega) (by omega) (by omega)]; rfl
    · intro k hk
      rw [r0 (19 + 2 * k) (by omega) (by omega) (by omega) (by omega) (by omega) (by omega) (by omega)]; rfl
