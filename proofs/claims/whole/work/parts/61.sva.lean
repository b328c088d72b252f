/-! THE MODEL: one state settled -/
def rlM (ar : Nat → List (Nat × List (Nat × Nat) × List (Nat × Nat))) (Mr : Nat → Nat → ((Nat → Int32) → Option Int32) × ((Nat → Int32) → Option Int32)) : Nat → Nat → (Nat → Int32) → Int32 := fun k => lfM (ar k) (Mr k)
def ruM (I : zI) (ar : Nat → List (Nat × List (Nat × Nat) × List (Nat × Nat))) (Mr : Nat → Nat → ((Nat → Int32) → Option Int32) × ((Nat → Int32) → Option Int32)) : Prop := ∀ k, k < 4 → mpI I (k + 1) (ar k) (Mr k) ∧ ∀ (j c : Nat) (g1 g2 : List (Nat × Nat)), (ar k)[j]? = some (c, g1, g2) → c = 114
def ruX (x : Int32) : Prop := x = -1 ∨ ∃ k, k < 4 ∧ x = nI k
/-- what a state is settled by: the tables, the law, the rules, the kept chances -/
def svI (I : zI) (a : List (Nat × List (Nat × Nat) × List (Nat × Nat))) (M : Nat → ((Nat → Int32) → Option Int32) × ((Nat → Int32) → Option Int32)) (ar : Nat → List (Nat × List (Nat × Nat) × List (Nat × Nat))) (Mr : Nat → Nat → ((Nat → Int32) → Option Int32) × ((Nat → Int32) → Option Int32)) : Prop := mT I ∧ mpI I 0 a M ∧ ruM I ar Mr ∧ chA I (lfM a M)
def mdI (I : zI) (md : Nat) (kd one two : Int32) : Prop := (md = 0 ∧ kd = 1 ∧ ruX one ∧ ruX two ∧ I 62 33 = one ∧ I 62 34 = two) ∨ (md = 2 ∧ kd = 2 ∧ I 62 35 = one ∧ I 62 33 = -1 ∧ I 62 34 = -1)
theorem thrX_2 {kd one two : Int32} {Rl : Nat → Nat → (Nat → Int32) → Int32} {Lf : Nat → (Nat → Int32) → Int32} {far p q l : Nat} (h : sWho p q l = 2) : thrX kd one two Rl Lf far p q l = -1 := if_pos h
theorem thrX_1 {kd one two : Int32} {Rl : Nat → Nat → (Nat → Int32) → Int32} {Lf : Nat → (Nat → Int32) → Int32} {far p q l : Nat} (h : sWho p q l ≤ 1) : thrX kd one two Rl Lf far p q l = if (vX kd one two Rl Lf far p q l).2 = true then nI 2 else nI 1 := if_neg (by omega)
theorem w_solvesAt {G : zG} {I : zI} {J : zJ} {a : List (Nat × List (Nat × Nat) × List (Nat × Nat))} {M : Nat → ((Nat → Int32) → Option Int32) × ((Nat → Int32) → Option Int32)} {ar : Nat → List (Nat × List (Nat × Nat) × List (Nat × Nat))} {Mr : Nat → Nat → ((Nat → Int32) → Option Int32) × ((Nat → Int32) → Option Int32)} (hS : svI I a M ar Mr) {far : Nat} (hf : I 62 5 = nI far) (h6 : 6 ≤ far) (h10 : far ≤ 10) {md : Nat} {kd one two : Int32} (hm : mdI I md kd one two) {p q l : Nat} (hp : p < 56) (hq : q < 56) (hl : l ≤ 1) (hJ : sWho p q l ≤ 1 → ∀ part, part ≤ 6 → J 83 (stN (sNx p q l part).1 (sNx p q l part).2 (sWho p q l)) = (vX kd one two (rlM ar Mr) (lfM a M) far (sNx p q l part).1 (sNx p q l part).2 (sWho p q l)).1) : zK G mX12_solvesAt 7 [.ref 62, .int (nI (stN p q l)), .int (nI md)] zsh I J (zP (fun r I' J' => r = none ∧ (offV I I' (stN p q l) ∧ I' 85 (stN p q l) = thrX kd one two (rlM ar Mr) (lfM a M) far p q l) ∧ chA I' (lfM a M) ∧ J' = zwl J 83 (stN p q l) (vX kd one two (rlM ar Mr) (lfM a M) far p q l).1)) := by
  obtain ⟨hT, hP, hR, hc⟩ := hS
  by_cases h2 : sWho p q l = 2
  · rw [thrX_2 h2]
    rcases hm with ⟨e1, e2, _⟩ | ⟨e1, e2, e3, _⟩
    · subst e1; subst e2
      exact w_sv2_0 hT hf h6 h10 hP hc hp hq hl h2
    · subst e1; subst e2
      exact w_sv2_2 hT hf h6 h10 hP hc hp hq hl h2 e3
  · have hw := sWho_n2 h2
    rw [thrX_1 hw]
    rcases hm with ⟨e1, e2, r1, r2, x1, x2⟩ | ⟨e1, e2, _, x1, x2⟩
    · subst e1; subst e2
      have hrr : ruX (if sWho p q l = 0 then one else two) := by split <;> assumption
      have hx : (if sWho p q l = 0 then I 62 33 else I 62 34) = if sWho p q l = 0 then one else two := by rw [x1, x2]
      rcases hrr with e | ⟨k, hk, e⟩
      · by_cases hcn : sCan p q (sWho p q l) = true
        · exact w_svC hT hf h6 h10 hP hc (by decide) hp hq hl hw hcn (hx.trans e) (fun _ => e) (hJ hw)
        · refine zK_imp (w_svN hT hf h6 h10 hP hc hp hq hl hw hcn (hx.trans e) (hJ hw)) ?_
          rintro r sh I2 J2 ⟨rfl, h1, ⟨h3, h4⟩, h5⟩
          refine ⟨rfl, h1, ⟨h3, ?_⟩, h5⟩
          rw [h4, vX_s hp hq hw, sTold_n hcn, pk_1]
          exact (if_neg Bool.false_ne_true).symm
      · exact w_svR hT hf h6 h10 hP hc hp hq hl hw hk (hR k hk).1 (hR k hk).2 rfl (hx.trans e) e (hJ hw)
    · subst e1; subst e2
      have hx : (if sWho p q l = 0 then I 62 33 else I 62 34) = -1 := by rw [x1, x2]; split <;> rfl
      by_cases hcn : sCan p q (sWho p q l) = true
      · exact w_svC hT hf h6 h10 hP hc (by decide) hp hq hl hw hcn hx (fun h => absurd h (by decide)) (hJ hw)
      · refine zK_imp (w_svN hT hf h6 h10 hP hc hp hq hl hw hcn hx (hJ hw)) ?_
        rintro r sh I2 J2 ⟨rfl, h1, ⟨h3, h4⟩, h5⟩
        refine ⟨rfl, h1, ⟨h3, ?_⟩, h5⟩
        rw [h4, vX_s hp hq hw, sTold_n hcn, pk_1]
        exact (if_neg Bool.false_ne_true).symm
