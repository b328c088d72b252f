/-! THE LAW: the world at its entry -/
theorem zins {c : Nat} (h : c < 13) : Cond.instantiable (zC c) (zN c) ∈ zGood := by
  rcases (show c = 0 ∨ c = 1 ∨ c = 2 ∨ c = 3 ∨ c = 4 ∨ c = 5 ∨ c = 6 ∨ c = 7 ∨ c = 8 ∨ c = 9 ∨ c = 10 ∨ c = 11 ∨ c = 12 by omega) with h | h | h | h | h | h | h | h | h | h | h | h | h <;> subst h
  · exact zins0
  · exact zins1
  · exact zins2
  · exact zins3
  · exact zins4
  · exact zins5
  · exact zins6
  · exact zins7
  · exact zins8
  · exact zins9
  · exact zins10
  · exact zins11
  · exact zins12
abbrev tmC : Term := Term.static "PointOrShoot$Codes" "CODES" "[I"
theorem zst_l : Cond.laysStatic "PointOrShoot$Codes" "CODES" "[I" ∈ lw_tbl := List.mem_append_right _ (List.mem_of_getElem? (i := 99) (by decide +kernel))
theorem zst_o : Cond.arrayOver (.object RX8) ∈ lw_tbl := List.mem_append_right _ (List.mem_of_getElem? (i := 125) (by decide +kernel))
theorem zst_e {j : Nat} (h : j < 56) : Cond.eq (.elem tmC (.int (Int32.ofNat j))) (.int (zCodes j)) ∈ flatC (Jvm.Cond.and given_1 narrow_1) := List.mem_of_getElem? (i := 7 + j) (co_dec (P := fun j => (flatC (Jvm.Cond.and given_1 narrow_1))[7 + j]? = some (Cond.eq (.elem tmC (.int (Int32.ofNat j))) (.int (zCodes j)))) (N := 56) (by decide +kernel) h)
theorem zst_n : Cond.eq (.length tmC) (.int 56) ∈ flatC (Jvm.Cond.and given_1 narrow_1) := List.mem_of_getElem? (i := 6) (by decide +kernel)
theorem zst_a : Cond.arrayOf tmC .int ∈ flatC (Jvm.Cond.and given_1 narrow_1) := List.mem_of_getElem? (i := 5) (by decide +kernel)
theorem zst {s : State} {args : Array Value} {b L : Nat} {xs : Nat → Int32} (l : Launch) (hts : ∀ w ∈ lw_tbl, w.before args s = true) (hX : va_X b L xs s s.heap) (hbl : b < s.heap.size) (hgv : (Jvm.Cond.and given_1 narrow_1).before args s = true) : ∃ G : zG, zl G = l ∧ zn G = s.heap.size ∧ zb G = b ∧ zL G = L ∧ zGl G s := by
  have hg : ∀ w ∈ zGood, w.before args s = true := fun w hw => hts w (List.mem_filter.mp hw).1
  have hk : ∀ c, ∃ q : ClassId × (Nat → Nat), c < 13 → u_Kn s (zC c) (zTT c) (zN c) q.1 q.2 := by
    intro c
    by_cases hc : c < 13
    · obtain ⟨cC, iS, h⟩ := u_known hg (zly hc) (hg _ (zins hc))
      exact ⟨(cC, iS), fun _ => h⟩
    · obtain ⟨cC, iS, h⟩ := u_known hg (zly (c := 0) (by decide)) (hg _ zins0)
      exact ⟨(cC, iS), fun h => absurd h hc⟩
  obtain ⟨dK, hdK⟩ := Classical.axiomOfChoice hk
  obtain ⟨a0, q0⟩ : ∃ cA, ArrOfT s cA .byte ∧ va_RA s cA .byte := by
    obtain ⟨c, k, comp, h1, h2, h3⟩ := Cond.arrayClass_spec (hg _ zar0)
    exact ⟨c, fun n z => ⟨fun k h => (by cases h), k, h2, comp, h3⟩, h1⟩
  obtain ⟨a1, q1⟩ : ∃ cA, ArrOfT s cA .int ∧ va_RA s cA .int := by
    obtain ⟨c, k, comp, h1, h2, h3⟩ := Cond.arrayClass_spec (hg _ zar1)
    exact ⟨c, fun n z => ⟨fun k h => (by cases h), k, h2, comp, h3⟩, h1⟩
  obtain ⟨a2, q2⟩ : ∃ cA, ArrOfT s cA .long ∧ va_RA s cA .long := by
    obtain ⟨c, k, comp, h1, h2, h3⟩ := Cond.arrayClass_spec (hg _ zar2)
    exact ⟨c, fun n z => ⟨fun k h => (by cases h), k, h2, comp, h3⟩, h1⟩
  obtain ⟨a3, q3⟩ : ∃ cA, ArrOfT s cA (.object RX8) ∧ va_RA s cA (.object RX8) := by
    obtain ⟨comp, c, k, h1, -, h2, h3, h4⟩ := Cond.arrayOver_spec (hts _ zst_o)
    exact ⟨c, fun n z => ⟨fun k h => (by cases h), k, h2, comp, h3⟩, k, comp, h2, h3, h1, h4⟩
  have hs := flat_of_before _ hgv
  have hA : ∀ a : Nat, a < s.heap.size → ¬ (fun q => s.heap.size ≤ q) a := fun a h h2 => absurd h (Nat.not_lt.mpr h2)
  obtain ⟨t, ht, hT⟩ := va_Tof (tm := tmC) (N := 56) (f := fun j => .int (zCodes j)) (A := fun q => s.heap.size ≤ q) (by decide) (hs _ zst_a) (va_eqt (hs _ zst_n)) (fun j hj => va_eqt (hs _ (zst_e hj))) hA
  have hZ := va_Zof (A := fun q => s.heap.size ≤ q) (hts _ zst_l) (hg _ zini2) ht hA
  refine ⟨(l, (s.heap.size, b, L, t), xs, fun c => (dK c).1, fun c => (dK c).2, fun k => if k = 0 then a0 else if k = 1 then a1 else if k = 2 then a2 else a3), rfl, rfl, rfl, rfl, ⟨fun c q hq => ?_, fun k q hq => ?_⟩, ⟨fun w hw => va_Nw.of (zNst_tab hw) (hts w (List.mem_filter.mp hw).1), va_AO.of (hts _ zst_o)⟩, hX, hZ, hT, hbl, Nat.le_refl _⟩
  · have hc : c < 13 := by
      have h := (List.getElem?_eq_some_iff.mp hq).1
      exact h
    rw [zcl_at hc] at hq
    cases hq
    exact hdK c hc
  · match k, hq with
    | 0, hq => cases hq; exact q0
    | 1, hq => cases hq; exact q1
    | 2, hq => cases hq; exact q2
    | 3, hq => cases hq; exact q3
    | k + 4, hq => exact absurd hq (by simp [ztys])
