/-! good code: what a text's segments come to -/
def binD (op : Nat) (D1 D2 : (Nat → Int32) → Option Int32) (L : Nat → Int32) : Option Int32 := match D1 L with
  | none => none
  | some x => match D2 L with
    | none => none
    | some y => if y = 0 ∧ (op = 47 ∨ op = 37) then none else some (jn op x y)
/-- codes of an E that need so much of a stack and come to D -/
def okE (h : Nat) (g : List (Nat × Nat)) (D : (Nat → Int32) → Option Int32) : Prop := ∀ P : Nat → List (Nat × Nat) → ((Nat → Int32) → Option Int32) → Prop,
  (∀ v, v < 1048576 → P 1 [(0, v)] (fun _ => some (nI v))) → (∀ l, l < 9 → P 1 [(1, l)] (fun L => some (L l))) →
  (∀ h1 h2 g1 g2 D1 D2 op, op = 43 ∨ op = 45 ∨ op = 42 ∨ op = 47 ∨ op = 37 → P h1 g1 D1 → P h2 g2 D2 → P (max h1 (h2 + 1)) (g1 ++ g2 ++ [(2, op)]) (binD op D1 D2)) → P h g D
theorem okE_n {v : Nat} (h : v < 1048576) : okE 1 [(0, v)] (fun _ => some (nI v)) := fun P a _ _ => a v h
theorem okE_l {l : Nat} (h : l < 9) : okE 1 [(1, l)] (fun L => some (L l)) := fun P _ b _ => b l h
theorem okE_b {h1 h2 : Nat} {g1 g2 : List (Nat × Nat)} {D1 D2 : (Nat → Int32) → Option Int32} {op : Nat} (ho : op = 43 ∨ op = 45 ∨ op = 42 ∨ op = 47 ∨ op = 37) (e1 : okE h1 g1 D1) (e2 : okE h2 g2 D2) : okE (max h1 (h2 + 1)) (g1 ++ g2 ++ [(2, op)]) (binD op D1 D2) := fun P a b c => c h1 h2 g1 g2 D1 D2 op ho (e1 P a b c) (e2 P a b c)
/-- codes of a C that stand from s on -/
def okC (s h : Nat) (g : List (Nat × Nat)) (D : (Nat → Int32) → Option Int32) : Prop := ∀ P : Nat → Nat → List (Nat × Nat) → ((Nat → Int32) → Option Int32) → Prop,
  (∀ s h1 h2 g1 g2 D1 D2 op, op = 60 ∨ op = 62 ∨ op = 61 → okE h1 g1 D1 → okE h2 g2 D2 → P s (max h1 (h2 + 1)) (g1 ++ g2 ++ [(2, op)]) (binD op D1 D2)) →
  (∀ s h g D, P s h g D → P s h (g ++ [(2, 33)]) (fun L => match D L with | none => none | some x => some (if x = 0 then 1 else 0))) →
  (∀ s h1 h2 g1 g2 D1 D2, P s h1 g1 D1 → P (s + g1.length + 1) h2 g2 D2 → P s (max h1 h2) (g1 ++ [(3, s + (g1.length + 1 + g2.length))] ++ g2) (fun L => match D1 L with | none => none | some x => if x = 0 then some 0 else D2 L)) →
  (∀ s h1 h2 g1 g2 D1 D2, P s h1 g1 D1 → P (s + g1.length + 1) h2 g2 D2 → P s (max h1 h2) (g1 ++ [(4, s + (g1.length + 1 + g2.length))] ++ g2) (fun L => match D1 L with | none => none | some x => if x = 0 then D2 L else some 1)) → P s h g D
theorem okC_c {s h1 h2 : Nat} {g1 g2 : List (Nat × Nat)} {D1 D2 : (Nat → Int32) → Option Int32} {op : Nat} (ho : op = 60 ∨ op = 62 ∨ op = 61) (e1 : okE h1 g1 D1) (e2 : okE h2 g2 D2) : okC s (max h1 (h2 + 1)) (g1 ++ g2 ++ [(2, op)]) (binD op D1 D2) := fun P a _ _ _ => a s h1 h2 g1 g2 D1 D2 op ho e1 e2
theorem okC_n {s h : Nat} {g : List (Nat × Nat)} {D : (Nat → Int32) → Option Int32} (e : okC s h g D) : okC s h (g ++ [(2, 33)]) (fun L => match D L with | none => none | some x => some (if x = 0 then 1 else 0)) := fun P a b c d => b s h g D (e P a b c d)
theorem okC_a {s h1 h2 : Nat} {g1 g2 : List (Nat × Nat)} {D1 D2 : (Nat → Int32) → Option Int32} (e1 : okC s h1 g1 D1) (e2 : okC (s + g1.length + 1) h2 g2 D2) : okC s (max h1 h2) (g1 ++ [(3, s + (g1.length + 1 + g2.length))] ++ g2) (fun L => match D1 L with | none => none | some x => if x = 0 then some 0 else D2 L) := fun P a b c d => c s h1 h2 g1 g2 D1 D2 (e1 P a b c d) (e2 P a b c d)
theorem okC_o {s h1 h2 : Nat} {g1 g2 : List (Nat × Nat)} {D1 D2 : (Nat → Int32) → Option Int32} (e1 : okC s h1 g1 D1) (e2 : okC (s + g1.length + 1) h2 g2 D2) : okC s (max h1 h2) (g1 ++ [(4, s + (g1.length + 1 + g2.length))] ++ g2) (fun L => match D1 L with | none => none | some x => if x = 0 then D2 L else some 1) := fun P a b c d => d s h1 h2 g1 g2 D1 D2 (e1 P a b c d) (e2 P a b c d)
theorem ite01 {p : Prop} [Decidable p] : (if p then (1 : Int32) else 0) = 0 ∨ (if p then (1 : Int32) else 0) = 1 := by
  split
  · exact Or.inr rfl
  · exact Or.inl rfl
/-- a C comes to 0 or 1 -/
theorem okC_01 {s h : Nat} {g : List (Nat × Nat)} {D : (Nat → Int32) → Option Int32} (e : okC s h g D) : ∀ L v, D L = some v → v = 0 ∨ v = 1 := by
  refine e (fun _ _ _ D => ∀ L v, D L = some v → v = 0 ∨ v = 1) ?_ ?_ ?_ ?_
  · intro s h1 h2 g1 g2 D1 D2 op ho _ _ L v hv
    unfold binD at hv
    split at hv
    · exact absurd hv (by simp)
    · split at hv
      · exact absurd hv (by simp)
      · rw [if_neg (by omega)] at hv
        injection hv with hv
        subst hv
        rename_i x _ _ y _
        rcases ho with e | e | e <;> subst e
        · exact (ite01 : (if x < y then (1 : Int32) else 0) = 0 ∨ (if x < y then (1 : Int32) else 0) = 1)
        · exact (ite01 : (if y < x then (1 : Int32) else 0) = 0 ∨ (if y < x then (1 : Int32) else 0) = 1)
        · exact (ite01 : (if x = y then (1 : Int32) else 0) = 0 ∨ (if x = y then (1 : Int32) else 0) = 1)
  · intro s h g D hD L v hv
    dsimp only at hv
    split at hv
    · exact absurd hv (by simp)
    · injection hv with hv
      subst hv
      split <;> simp
  · intro s h1 h2 g1 g2 D1 D2 e1 e2 L v hv
    dsimp only at hv
    split at hv
    · exact absurd hv (by simp)
    · split at hv
      · injection hv with hv; subst hv; exact Or.inl rfl
      · exact e2 L v hv
  · intro s h1 h2 g1 g2 D1 D2 e1 e2 L v hv
    dsimp only at hv
    split at hv
    · exact absurd hv (by simp)
    · split at hv
      · exact e2 L v hv
      · injection hv with hv; subst hv; exact Or.inr rfl
/-- no empty code -/
theorem okE_len {h : Nat} {g : List (Nat × Nat)} {D : (Nat → Int32) → Option Int32} (e : okE h g D) : 1 ≤ g.length ∧ 1 ≤ h := by
  refine e (fun h g _ => 1 ≤ g.length ∧ 1 ≤ h) (fun _ _ => ⟨Nat.le_refl _, Nat.le_refl _⟩) (fun _ _ => ⟨Nat.le_refl _, Nat.le_refl _⟩) (fun h1 h2 g1 g2 _ _ _ _ e1 e2 => ⟨?_, ?_⟩)
  · rw [List.length_append]; show 1 ≤ _ + 1; omega
  · omega
/-- an E's codes, brackets' heights at most B -/
def gdE (H : Nat) (g : List (Nat × Nat)) : Prop := ∃ h D, h ≤ H ∧ okE h g D
theorem gdE_b {H1 H2 H : Nat} {g1 g2 : List (Nat × Nat)} {op : Nat} (ho : op = 43 ∨ op = 45 ∨ op = 42 ∨ op = 47 ∨ op = 37) (e1 : gdE H1 g1) (e2 : gdE H2 g2) (h1 : H1 ≤ H) (h2 : H2 + 1 ≤ H) : gdE H (g1 ++ g2 ++ [(2, op)]) := by
  obtain ⟨a, D1, ha, e1⟩ := e1
  obtain ⟨b, D2, hb, e2⟩ := e2
  exact ⟨_, _, by omega, okE_b ho e1 e2⟩
theorem gdE_m {H H2 : Nat} {g : List (Nat × Nat)} (h : gdE H g) (hH : H ≤ H2) : gdE H2 g := by
  obtain ⟨a, D, ha, e⟩ := h
  exact ⟨a, D, by omega, e⟩
theorem numR_v {tx : Nat → Nat} {n : Nat} : ∀ k p v, (numR tx n k p v).1 < (v + 1) * 10 ^ k
  | 0, _, v => by show v < (v + 1) * 1; omega
  | k + 1, p, v => by
    unfold numR
    split
    · rename_i c
      have h := numR_v (tx := tx) (n := n) k (p + 1) (10 * v + sgn tx n p - 48)
      have h2 : (10 * v + sgn tx n p - 48 + 1) * 10 ^ k ≤ (10 * (v + 1)) * 10 ^ k := Nat.mul_le_mul_right _ (by omega)
      rw [Nat.pow_succ, Nat.mul_comm (10 ^ k) 10, ← Nat.mul_assoc, Nat.mul_comm (v + 1) 10]
      omega
    · have : 1 ≤ 10 ^ (k + 1) := Nat.one_le_pow _ _ (by decide)
      have h2 : (v + 1) * 1 ≤ (v + 1) * 10 ^ (k + 1) := Nat.mul_le_mul_left _ this
      show v < _
      omega
theorem pFac_g {tx : Nat → Nat} {n B : Nat} {br : Nat → Nat × Nat × List (Nat × Nat)} (hB : 1 ≤ B) (hb : ∀ p, (br p).1 = 0 → gdE B (br p).2.2) (p : Nat) (h : (pFac tx n br p).1 = 0) : gdE B (pFac tx n br p).2.2 := by
  unfold pFac at h ⊢
  by_cases c1 : sgn tx n p = 91
  · rw [if_pos c1] at h ⊢; exact hb p h
  · rw [if_neg c1] at h ⊢
    by_cases c2 : 48 ≤ sgn tx n p ∧ sgn tx n p ≤ 57
    · rw [if_pos c2] at h ⊢
      have hv := numR_v (tx := tx) (n := n) 5 p 0
      unfold pNum at h ⊢
      by_cases c3 : 48 ≤ sgn tx n (numR tx n 5 p 0).2 ∧ sgn tx n (numR tx n 5 p 0).2 ≤ 57
      · rw [if_pos c3] at h; exact absurd h (Nat.succ_ne_zero _)
      · rw [if_neg c3]; exact ⟨1, _, hB, okE_n (by omega)⟩
    · rw [if_neg c2] at h ⊢
      by_cases c3 : ltP (sgn tx n p) < 9
      · rw [if_pos c3]; exact ⟨1, _, hB, okE_l c3⟩
      · rw [if_neg c3] at h; exact absurd h (Nat.succ_ne_zero _)
/-- what stands before a factor: what a sign that waits is behind -/
def sumI (B a m : Nat) (acc : List (Nat × Nat)) : Prop :=
  (a = 0 ∧ m = 0 ∧ acc = []) ∨ (a = 0 ∧ (m = 42 ∨ m = 47 ∨ m = 37) ∧ gdE (B + 1) acc) ∨ ((a = 43 ∨ a = 45) ∧ m = 0 ∧ gdE (B + 2) acc) ∨ ((a = 43 ∨ a = 45) ∧ (m = 42 ∨ m = 47 ∨ m = 37) ∧ ∃ g1 g2, acc = g1 ++ g2 ∧ gdE (B + 2) g1 ∧ gdE (B + 1) g2)
theorem sumI_f {B a m : Nat} {acc g : List (Nat × Nat)} (h : sumI B a m acc) (hg : gdE B g) : (a = 0 ∧ gdE (B + 1) (acc ++ g ++ sgL m)) ∨ ((a = 43 ∨ a = 45) ∧ ∃ g1 g2, acc ++ g ++ sgL m = g1 ++ g2 ∧ gdE (B + 2) g1 ∧ gdE (B + 1) g2) := by
  rcases h with ⟨h1, h2, h3⟩ | ⟨h1, h2, h3⟩ | ⟨h1, h2, h3⟩ | ⟨h1, h2, g1, g2, h3, h4, h5⟩
  · subst h2 h3
    refine Or.inl ⟨h1, ?_⟩
    rw [show [] ++ g ++ sgL 0 = g from by rw [sgL_0, List.append_nil]; rfl]
    exact gdE_m hg (by omega)
  · refine Or.inl ⟨h1, ?_⟩
    rw [show sgL m = [(2, m)] from if_neg (by omega)]
    exact gdE_b (by omega) h3 hg (Nat.le_refl _) (Nat.le_refl _)
  · subst h2
    refine Or.inr ⟨h1, acc, g, ?_, h3, gdE_m hg (by omega)⟩
    rw [sgL_0, List.append_nil]
  · refine Or.inr ⟨h1, g1, g2 ++ g ++ [(2, m)], ?_, h4, gdE_b (by omega) h5 hg (Nat.le_refl _) (Nat.le_refl _)⟩
    rw [show sgL m = [(2, m)] from if_neg (by omega), h3]
    simp
theorem sumI_a {B a m : Nat} {acc g : List (Nat × Nat)} (h : sumI B a m acc) (hg : gdE B g) : gdE (B + 2) (acc ++ g ++ sgL m ++ sgL a) := by
  rcases sumI_f h hg with ⟨h1, h2⟩ | ⟨h1, g1, g2, h2, h3, h4⟩
  · subst h1
    rw [sgL_0, List.append_nil]
    exact gdE_m h2 (by omega)
  · rw [h2, show sgL a = [(2, a)] from if_neg (by omega)]
    exact gdE_b (by omega) h3 h4 (Nat.le_refl _) (Nat.le_refl _)
theorem pSumL_g {tx : Nat → Nat} {n B : Nat} {br : Nat → Nat × Nat × List (Nat × Nat)} (hB : 1 ≤ B) (hb : ∀ p, (br p).1 = 0 → gdE B (br p).2.2) : ∀ k p a m acc, sumI B a m acc → (pSumL tx n br k p a m acc).1 = 0 → gdE (B + 2) (pSumL tx n br k p a m acc).2.2 := by
  intro k
  induction k with
  | zero => intro p a m acc _ h; exact absurd h (Nat.succ_ne_zero _)
  | succ k ih =>
    intro p a m acc hI h
    have hf := pFac_g (tx := tx) (n := n) hB hb p
    obtain ⟨fc, q, g, hr⟩ := ex3 (pFac tx n br p)
    unfold pSumL at h ⊢
    rw [hr] at h hf ⊢
    by_cases h0 : fc = 0
    · have hg := hf h0
      rw [if_neg (fun h => h h0)] at h ⊢
      by_cases c1 : sgn tx n q = 42 ∨ sgn tx n q = 47 ∨ sgn tx n q = 37
      · rw [if_pos c1] at h ⊢
        refine ih _ _ _ _ ?_ h
        rcases sumI_f hI hg with ⟨h1, h2⟩ | ⟨h1, g1, g2, h2, h3, h4⟩
        · exact Or.inr (Or.inl ⟨h1, c1, h2⟩)
        · exact Or.inr (Or.inr (Or.inr ⟨h1, c1, g1, g2, h2, h3, h4⟩))
      · rw [if_neg c1] at h ⊢
        by_cases c2 : sgn tx n q = 43 ∨ sgn tx n q = 45
        · rw [if_pos c2] at h ⊢
          exact ih _ _ _ _ (Or.inr (Or.inr (Or.inl ⟨c2, rfl, sumI_a hI hg⟩))) h
        · rw [if_neg c2]
          exact sumI_a hI hg
    · rw [if_pos h0] at h
      exact absurd h h0
theorem pSum_g {tx : Nat → Nat} {n : Nat} : ∀ e p, (pSum tx n e p).1 = 0 → gdE (3 + 2 * e) (pSum tx n e p).2.2
  | 0, p => pSumL_g (B := 1) (Nat.le_refl _) (fun _ h => absurd h (Nat.succ_ne_zero _)) 240 p 0 0 [] (Or.inl ⟨rfl, rfl, rfl⟩)
  | e + 1, p => fun h => gdE_m (pSumL_g (B := 3 + 2 * e) (by omega) (fun p h => by
      unfold pBr at h ⊢
      by_cases c : (pSum tx n e (p + 1)).1 = 0
      · rw [if_neg (fun h => h c)] at h ⊢
        by_cases c2 : sgn tx n (pSum tx n e (p + 1)).2.1 = 93
        · rw [if_pos c2]; exact pSum_g e (p + 1) c
        · rw [if_neg c2] at h; exact absurd h (Nat.succ_ne_zero _)
      · rw [if_pos c] at h; exact absurd h c) 240 p 0 0 [] (Or.inl ⟨rfl, rfl, rfl⟩) h) (by omega)
def gdC (s H : Nat) (g : List (Nat × Nat)) : Prop := ∃ h D, h ≤ H ∧ okC s h g D
theorem gdC_m {s H H2 : Nat} {g : List (Nat × Nat)} (h : gdC s H g) (hH : H ≤ H2) : gdC s H2 g := by
  obtain ⟨a, D, ha, e⟩ := h
  exact ⟨a, D, by omega, e⟩
theorem pCmp_g {tx : Nat → Nat} {n e p s : Nat} (h : (pCmp tx n e p).1 = 0) : gdC s (4 + 2 * e) (pCmp tx n e p).2.2 := by
  unfold pCmp at h ⊢
  by_cases h1 : (pSum tx n e p).1 = 0
  · rw [if_neg (fun h => h h1)] at h ⊢
    by_cases h2 : sgn tx n (pSum tx n e p).2.1 = 60 ∨ sgn tx n (pSum tx n e p).2.1 = 62 ∨ sgn tx n (pSum tx n e p).2.1 = 61
    · rw [if_neg (fun h => h h2)] at h ⊢
      by_cases h3 : (pSum tx n e ((pSum tx n e p).2.1 + 1)).1 = 0
      · rw [if_neg (fun h => h h3)]
        obtain ⟨a, D1, ha, e1⟩ := pSum_g e p h1
        obtain ⟨b, D2, hb, e2⟩ := pSum_g e _ h3
        exact ⟨_, _, by omega, okC_c h2 e1 e2⟩
      · rw [if_pos h3] at h; exact absurd h h3
    · rw [if_pos h2] at h; exact absurd h (Nat.succ_ne_zero _)
  · rw [if_pos h1] at h; exact absurd h h1
theorem set_mid {X Y : List (Nat × Nat)} {z c : Nat × Nat} : ∀ {k : Nat}, k = X.length → (X ++ [z] ++ Y).set k c = X ++ [c] ++ Y := by
  induction X with
  | nil => intro k h; subst h; rfl
  | cons x X ih => intro k h; subst h; exact congrArg (x :: ·) (ih rfl)
/-- in a part: what '&' waits behind -/
def cJ (s H : Nat) (pre : List (Nat × Nat)) (j : Nat) (A : List (Nat × Nat)) : Prop := (j = 0 ∧ A = []) ∨ ∃ PJ, A = PJ ++ [(0, 0)] ∧ j = pre.length + PJ.length + 1 ∧ gdC (s + pre.length) H PJ
/-- ahead of it: what '|' waits behind -/
def cT (s H t : Nat) (pre : List (Nat × Nat)) : Prop := (t = 0 ∧ pre = []) ∨ ∃ PT, pre = PT ++ [(0, 0)] ∧ t = PT.length + 1 ∧ gdC s H PT
theorem cnd1_g {s H j : Nat} {pre A g : List (Nat × Nat)} (h : cJ s H pre j A) (hg : gdC (s + (pre ++ A).length) H g) : ∃ A', cnd1 s j (pre ++ A ++ g) = pre ++ A' ∧ gdC (s + pre.length) H A' := by
  rcases h with ⟨h1, h2⟩ | ⟨PJ, h1, h2, a, D1, ha, e1⟩
  · subst h1 h2
    rw [List.append_nil] at hg ⊢
    exact ⟨g, rfl, hg⟩
  · subst h1
    obtain ⟨b, D2, hb, e2⟩ := hg
    refine ⟨PJ ++ [(3, (s + pre.length) + (PJ.length + 1 + g.length))] ++ g, ?_, _, _, ?_, okC_a e1 (by
      have e : s + (pre ++ (PJ ++ [(0, 0)])).length = s + pre.length + PJ.length + 1 := by
        rw [List.length_append, List.length_append]; show s + (_ + (_ + 1)) = _; omega
      rw [e] at e2
      exact e2)⟩
    · unfold cnd1 lset
      rw [if_neg (by omega)]
      have e : pre ++ (PJ ++ [(0, 0)]) ++ g = (pre ++ PJ) ++ [(0, 0)] ++ g := by simp
      rw [e, set_mid (by rw [List.length_append]; omega)]
      have e3 : s + ((pre ++ PJ) ++ [(0, 0)] ++ g).length = (s + pre.length) + (PJ.length + 1 + g.length) := by
        rw [List.length_append, List.length_append, List.length_append]; show s + (_ + _ + 1 + _) = _; omega
      rw [e3]
      simp
    · omega
theorem cnd2_g {s H t : Nat} {pre A : List (Nat × Nat)} (h : cT s H t pre) (hg : gdC (s + pre.length) H A) : gdC s H (cnd2 s t (pre ++ A)) := by
  rcases h with ⟨h1, h2⟩ | ⟨PT, h1, h2, a, D1, ha, e1⟩
  · subst h1 h2
    exact hg
  · subst h1
    obtain ⟨b, D2, hb, e2⟩ := hg
    have e : s + (PT ++ [(0, 0)]).length = s + PT.length + 1 := by rw [List.length_append]; rfl
    rw [e] at e2
    have e4 : cnd2 s t (PT ++ [(0, 0)] ++ A) = PT ++ [(4, s + (PT.length + 1 + A.length))] ++ A := by
      unfold cnd2 lset
      rw [if_neg (by omega), set_mid (by omega)]
      have e3 : s + (PT ++ [(0, 0)] ++ A).length = s + (PT.length + 1 + A.length) := by
        rw [List.length_append, List.length_append]; rfl
      rw [e3]
    rw [e4]
    exact ⟨_, _, by omega, okC_o e1 e2⟩
theorem pCndL_g {tx : Nat → Nat} {n H s : Nat} {pc : Nat → Nat → Nat × Nat × List (Nat × Nat)} (hp : ∀ p s, (pc p s).1 = 0 → gdC s H (pc p s).2.2) : ∀ k p j t pre A, cT s H t pre → cJ s H pre j A → (pCndL tx n pc k p s j t (pre ++ A)).1 = 0 → gdC s H (pCndL tx n pc k p s j t (pre ++ A)).2.2 := by
  intro k
  induction k with
  | zero => intro p j t pre A _ _ h; exact absurd h (Nat.succ_ne_zero _)
  | succ k ih =>
    intro p j t pre A hT hJ h
    have hf := hp p (s + (pre ++ A).length)
    obtain ⟨fc, q, g, hr⟩ := ex3 (pc p (s + (pre ++ A).length))
    unfold pCndL at h ⊢
    rw [hr] at h hf ⊢
    by_cases h0 : fc = 0
    · rw [if_neg (fun h => h h0)] at h ⊢
      obtain ⟨A', e1, g1⟩ := cnd1_g hJ (hf h0)
      have el : (pre ++ A ++ g).length = (pre ++ A').length := by rw [← e1]; exact (lset_len).symm
      by_cases c1 : sgn tx n q = 38
      · rw [if_pos c1] at h ⊢
        have e2 : cnd1 s j (pre ++ A ++ g) ++ [(0, 0)] = pre ++ (A' ++ [(0, 0)]) := by rw [e1, List.append_assoc]
        rw [e2, el] at h ⊢
        refine ih _ _ _ _ _ hT (Or.inr ⟨A', rfl, ?_, g1⟩) h
        rw [List.length_append]
      · rw [if_neg c1] at h ⊢
        have g2 : gdC s H (cnd2 s t (pre ++ A')) := cnd2_g hT g1
        by_cases c2 : sgn tx n q = 124
        · rw [if_pos c2] at h ⊢
          have e2 : cnd2 s t (cnd1 s j (pre ++ A ++ g)) ++ [(0, 0)] = (cnd2 s t (pre ++ A') ++ [(0, 0)]) ++ [] := by rw [e1, List.append_nil]
          have el2 : (cnd2 s t (pre ++ A')).length = (pre ++ A').length := lset_len
          rw [e2, el] at h ⊢
          exact ih _ _ _ _ _ (Or.inr ⟨cnd2 s t (pre ++ A'), rfl, by rw [el2], g2⟩) (Or.inl ⟨rfl, rfl⟩) h
        · rw [if_neg c2]
          show gdC s H (cnd2 s t (cnd1 s j (pre ++ A ++ g)))
          rw [e1]
          exact g2
    · rw [if_pos h0] at h
      exact absurd h h0
theorem pPce_g {tx : Nat → Nat} {n : Nat} : ∀ e p s, (pPce tx n e p s).1 = 0 → gdC s (4 + 2 * e) (pPce tx n e p s).2.2
  | 0, p, s => fun h => by
    by_cases h1 : sgn tx n p = 33
    · rw [pPce_n0 h1] at h; exact absurd h (Nat.succ_ne_zero _)
    · by_cases h2 : sgn tx n p = 40
      · rw [pPce_o0 h1 h2] at h; exact absurd h (Nat.succ_ne_zero _)
      · rw [pPce_c0 h1 h2] at h ⊢; exact pCmp_g h
  | e + 1, p, s => fun h => by
    by_cases h1 : sgn tx n p = 33
    · rw [pPce_n h1] at h ⊢
      unfold pNot at h ⊢
      by_cases h3 : (pPce tx n e (p + 1) s).1 = 0
      · rw [if_neg (fun h => h h3)]
        obtain ⟨a, D, ha, e1⟩ := pPce_g e (p + 1) s h3
        exact ⟨_, _, by omega, okC_n e1⟩
      · rw [if_pos h3] at h; exact absurd h h3
    · by_cases h2 : sgn tx n p = 40
      · rw [pPce_o h1 h2] at h ⊢
        unfold pOpn at h ⊢
        by_cases h3 : (pCnd tx n e (p + 1) s).1 = 0
        · rw [if_neg (fun h => h h3)] at h ⊢
          have hg : gdC s (4 + 2 * e) (pCnd tx n e (p + 1) s).2.2 := by
            unfold pCnd at h3 ⊢
            exact pCndL_g (tx := tx) (n := n) (s := s) (fun p s h => pPce_g e p s h) 240 (p + 1) 0 0 [] [] (Or.inl ⟨rfl, rfl⟩) (Or.inl ⟨rfl, rfl⟩) h3
          by_cases h4 : sgn tx n (pCnd tx n e (p + 1) s).2.1 = 41
          · rw [if_pos h4]; exact gdC_m hg (by omega)
          · rw [if_neg h4] at h; exact absurd h (Nat.succ_ne_zero _)
        · rw [if_pos h3] at h; exact absurd h h3
      · rw [pPce_cS h1 h2] at h ⊢; exact pCmp_g h
theorem pCnd_g {tx : Nat → Nat} {n e p s : Nat} (h : (pCnd tx n e p s).1 = 0) : gdC s (4 + 2 * e) (pCnd tx n e p s).2.2 := by
  unfold pCnd at h ⊢
  exact pCndL_g (tx := tx) (n := n) (s := s) (fun p s h => pPce_g e p s h) 240 p 0 0 [] [] (Or.inl ⟨rfl, rfl⟩) (Or.inl ⟨rfl, rfl⟩) h
/-- the clauses of a text that was read: a letter that fits, an E, a C behind it -/
def gdT (b : Nat) (a : List (Nat × List (Nat × Nat) × List (Nat × Nat))) : Prop := ∀ j c g1 g2, a[j]? = some (c, g1, g2) → clG b c ∧ gdE 15 g1 ∧ gdC (plA a j + g1.length) 14 g2
theorem pCls_g {tx : Nat → Nat} {n b p s cl : Nat} (h : (pCls tx n b p s cl).1 = 0) : gdE 15 (pCls tx n b p s cl).2.2.1 ∧ gdC (s + (pCls tx n b p s cl).2.2.1.length) 14 (pCls tx n b p s cl).2.2.2 := by
  unfold pCls at h ⊢
  by_cases h1 : clG b (sgn tx n p)
  · rw [if_neg (fun h => h h1)] at h ⊢
    by_cases h2 : 16 ≤ cl
    · rw [if_pos h2] at h; exact absurd h (Nat.succ_ne_zero _)
    · rw [if_neg h2] at h ⊢
      by_cases h3 : (pSum tx n 6 (p + 1)).1 = 0
      · rw [if_neg (fun h => h h3)] at h ⊢
        by_cases h4 : sgn tx n (pSum tx n 6 (p + 1)).2.1 = 40
        · rw [if_neg (fun h => h h4)] at h ⊢
          by_cases h5 : (pCnd tx n 5 ((pSum tx n 6 (p + 1)).2.1 + 1) (s + (pSum tx n 6 (p + 1)).2.2.length)).1 = 0
          · rw [if_neg (fun h => h h5)] at h ⊢
            by_cases h6 : sgn tx n (pCnd tx n 5 ((pSum tx n 6 (p + 1)).2.1 + 1) (s + (pSum tx n 6 (p + 1)).2.2.length)).2.1 = 41
            · rw [if_neg (fun h => h h6)]
              exact ⟨pSum_g 6 (p + 1) h3, pCnd_g h5⟩
            · rw [if_pos h6] at h; exact absurd h (Nat.succ_ne_zero _)
          · rw [if_pos h5] at h; exact absurd h h5
        · rw [if_pos h4] at h; exact absurd h (Nat.succ_ne_zero _)
      · rw [if_pos h3] at h; exact absurd h h3
  · rw [if_pos h1] at h; exact absurd h (Nat.succ_ne_zero _)
theorem gdT_s {b c : Nat} {g1 g2 : List (Nat × Nat)} {a : List (Nat × List (Nat × Nat) × List (Nat × Nat))} (h : gdT b a) (hc : clG b c) (h1 : gdE 15 g1) (h2 : gdC (plA a a.length + g1.length) 14 g2) : gdT b (a ++ [(c, g1, g2)]) := by
  intro j c' g1' g2' hj
  by_cases hjl : j < a.length
  · rw [List.getElem?_append_left hjl] at hj
    rw [plA_app (by omega)]
    exact h j c' g1' g2' hj
  · rw [List.getElem?_append_right (by omega)] at hj
    have e0 : j = a.length := by
      rcases Nat.lt_or_ge (j - a.length) 1 with h | h
      · omega
      · rw [List.getElem?_eq_none (by simpa using h)] at hj; exact absurd hj (by simp)
    subst e0
    rw [Nat.sub_self] at hj
    have e1 : (c, g1, g2) = (c', g1', g2') := by simpa using hj
    injection e1 with e2 e3
    injection e3 with e4 e5
    subst e2 e4 e5
    rw [plA_app (Nat.le_refl _)]
    exact ⟨hc, h1, h2⟩
theorem pTxt_g {tx : Nat → Nat} {n b : Nat} : ∀ k p acc, gdT b acc → (pTxt tx n b k p (plA acc acc.length) acc.length acc).1 = 0 → gdT b (pTxt tx n b k p (plA acc acc.length) acc.length acc).2.2 := by
  intro k
  induction k with
  | zero => intro p acc h _; exact h
  | succ k ih =>
    intro p acc hg h
    have hln := fun h => pCls_len (tx := tx) (n := n) (b := b) (p := p) (s := plA acc acc.length) (cl := acc.length) h
    have hgg := fun h => pCls_g (tx := tx) (n := n) (b := b) (p := p) (s := plA acc acc.length) (cl := acc.length) h
    obtain ⟨fc, q, g1, g2, hr⟩ := ex4 (pCls tx n b p (plA acc acc.length) acc.length)
    unfold pTxt at h ⊢
    rw [hr] at h hln hgg ⊢
    by_cases h0 : fc = 0
    · rw [if_neg (fun h => h h0)] at h ⊢
      have hs := gdT_s hg (hln h0).1 (hgg h0).1 (hgg h0).2
      have hlq2 : (acc ++ [(sgn tx n p, g1, g2)]).length = acc.length + 1 := by rw [List.length_append]; rfl
      have hpq : plA (acc ++ [(sgn tx n p, g1, g2)]) (acc ++ [(sgn tx n p, g1, g2)]).length = plA acc acc.length + g1.length + g2.length := by rw [hlq2]; exact plA_end
      by_cases c1 : n ≤ q
      · rw [if_pos c1]; exact hs
      · rw [if_neg c1] at h ⊢
        by_cases c2 : sgn tx n q = 59
        · rw [if_neg (fun h => h c2)] at h ⊢
          have e : pTxt tx n b k (q + 1) (plA acc acc.length + g1.length + g2.length) (acc.length + 1) (acc ++ [(sgn tx n p, g1, g2)]) = pTxt tx n b k (q + 1) (plA (acc ++ [(sgn tx n p, g1, g2)]) (acc ++ [(sgn tx n p, g1, g2)]).length) (acc ++ [(sgn tx n p, g1, g2)]).length (acc ++ [(sgn tx n p, g1, g2)]) := by rw [hpq, hlq2]
          have h2 : (pTxt tx n b k (q + 1) (plA (acc ++ [(sgn tx n p, g1, g2)]) (acc ++ [(sgn tx n p, g1, g2)]).length) (acc ++ [(sgn tx n p, g1, g2)]).length (acc ++ [(sgn tx n p, g1, g2)])).1 = 0 := by rw [← e]; exact h
          have := ih (q + 1) _ hs h2
          rw [← e] at this
          exact this
        · rw [if_pos c2] at h; exact absurd h (Nat.succ_ne_zero _)
    · rw [if_pos h0] at h; exact absurd h h0
