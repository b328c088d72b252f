/-! what a state is worth, by the states behind it -/
theorem sSum_c {v v' : Nat → Nat → Nat → Int64} {Lf : Nat → (Nat → Int32) → Int32} {far p q l : Nat} (h : ∀ part, part ≤ 6 → v (sNx p q l part).1 (sNx p q l part).2 (sWho p q l) = v' (sNx p q l part).1 (sNx p q l part).2 (sWho p q l)) : ∀ n part acc, part + n ≤ 7 → sSum v Lf far p q l n part acc = sSum v' Lf far p q l n part acc
  | 0, _, _, _ => rfl
  | n + 1, part, acc, hn => by
    unfold sSum
    rw [show sPart v Lf far p q l part acc = sPart v' Lf far p q l part acc from by unfold sPart; rw [h part (by omega)]]
    exact sSum_c h n (part + 1) _ (by omega)
theorem sW_c {v v' : Nat → Nat → Nat → Int64} {Lf : Nat → (Nat → Int32) → Int32} {far p q l t : Nat} (h : ∀ part, part ≤ 6 → v (sNx p q l part).1 (sNx p q l part).2 (sWho p q l) = v' (sNx p q l part).1 (sNx p q l part).2 (sWho p q l)) : sW v Lf far p q l t = sW v' Lf far p q l t := by
  unfold sW
  rw [sSum_c h 4 0 0 (by decide), sSum_c h 3 4 0 (by decide)]
theorem vX_0 {kd one two : Int32} {Rl : Nat → Nat → (Nat → Int32) → Int32} {Lf : Nat → (Nat → Int32) → Int32} {far p q l : Nat} (hw : sWho p q l = 2) : vX kd one two Rl Lf far p q l = (sWoc kd one (sPts p q), false) := by
  have h0 : hnd p q = 0 := by
    have hs := sSide_le (p := p) (q := q) (last := l)
    unfold sWho at hw
    by_cases h : tHand p = 0 ∧ tHand q = 0
    · unfold hnd; omega
    · rw [if_neg h] at hw
      by_cases h2 : 0 < tHand (if sSide p q l = 0 then p else q)
      · rw [if_pos h2] at hw; omega
      · rw [if_neg h2] at hw; omega
  unfold vX
  rw [h0]
  rfl
theorem vX_s {kd one two : Int32} {Rl : Nat → Nat → (Nat → Int32) → Int32} {Lf : Nat → (Nat → Int32) → Int32} {far p q l : Nat} (hp : p < 56) (hq : q < 56) (hw : sWho p q l ≤ 1) : vX kd one two Rl Lf far p q l = sPick (sTold kd one two Rl (btV Lf far) far p q l) (sWho p q l) (sW (fun a b c => (vX kd one two Rl Lf far a b c).1) Lf far p q l 1) (sW (fun a b c => (vX kd one two Rl Lf far a b c).1) Lf far p q l 2) := by
  have hn := fun part (hpa : part ≤ 6) => (sNx_ok (last := l) (part := part) hp hq hw hpa).2.2
  obtain ⟨h, hh⟩ : ∃ h, hnd p q = h + 1 := ⟨_, (hn 0 (by decide)).symm⟩
  have e : ∀ part, part ≤ 6 → (sV kd one two Rl (btV Lf far) Lf far h (sNx p q l part).1 (sNx p q l part).2 (sWho p q l)).1 = (vX kd one two Rl Lf far (sNx p q l part).1 (sNx p q l part).2 (sWho p q l)).1 := fun part hpa => by
    unfold vX
    rw [show hnd (sNx p q l part).1 (sNx p q l part).2 = h from Nat.succ.inj ((hn part hpa).trans hh)]
  have e0 : vX kd one two Rl Lf far p q l = sV kd one two Rl (btV Lf far) Lf far (h + 1) p q l := by
    show sV kd one two Rl (btV Lf far) Lf far (hnd p q) p q l = _
    rw [hh]
  rw [e0, sV_s, sW_c (t := 1) (v' := fun a b c => (vX kd one two Rl Lf far a b c).1) e, sW_c (t := 2) (v' := fun a b c => (vX kd one two Rl Lf far a b c).1) e]
theorem nx_ne {p q l part : Nat} (hp : p < 56) (hq : q < 56) (hl : l ≤ 1) (hw : sWho p q l ≤ 1) (hpa : part ≤ 6) : ¬ stN (sNx p q l part).1 (sNx p q l part).2 (sWho p q l) = stN p q l := fun h => by
  obtain ⟨h1, h2, h3⟩ := sNx_ok (last := l) (part := part) hp hq hw hpa
  obtain ⟨e1, e2, _⟩ := stN_inj h2 hw hq hl h
  rw [e1, e2] at h3
  omega
/-- rules chosen: the throw -/
theorem sTold_n {kd one two : Int32} {Rl : Nat → Nat → (Nat → Int32) → Int32} {bt : Nat → Nat → Nat → Nat} {far p q l : Nat} (hc : ¬ sCan p q (sWho p q l) = true) : sTold kd one two Rl bt far p q l = 1 := if_pos (by cases h : sCan p q (sWho p q l) with | false => rfl | true => exact absurd h hc)
theorem sTold_c {kd one two : Int32} {Rl : Nat → Nat → (Nat → Int32) → Int32} {bt : Nat → Nat → Nat → Nat} {far p q l : Nat} (hc : sCan p q (sWho p q l) = true) (h3 : ¬ kd = 3) (hr : kd = 1 → (if sWho p q l = 0 then one else two) = -1) : sTold kd one two Rl bt far p q l = 0 := by
  unfold sTold
  rw [if_neg (by rw [hc]; decide), if_neg h3]
  refine if_neg (fun h => h.2.1 ?_)
  rw [hr h.1]
  decide
theorem sTold_r {one two : Int32} {Rl : Nat → Nat → (Nat → Int32) → Int32} {bt : Nat → Nat → Nat → Nat} {far p q l k : Nat} (hc : sCan p q (sWho p q l) = true) (hk : k < 4) (hr : (if sWho p q l = 0 then one else two) = nI k) : sTold 1 one two Rl bt far p q l = if Rl k 114 (fcS p q l far) = 2 then 2 else 1 := by
  unfold sTold
  rw [if_neg (by rw [hc]; decide), if_neg (by decide), hr, nI_clamp (by omega)]
  refine if_pos ⟨rfl, ?_, ?_⟩
  · rw [Int32.lt_iff_toInt_lt, nI_toInt (by omega)]
    show ¬ (k : Int) < 0
    omega
  · rw [Int32.lt_iff_toInt_lt, nI_toInt (by omega)]
    show (k : Int) < 4
    omega
