/-! THE CLASS: good code on its stack; programs from texts -/
/-- codes that stand at i of a row, jumps moved on by off -/
def mAt (kd ar : Nat → Nat) (off i : Nat) (g : List (Nat × Nat)) : Prop := ∀ k c, g[k]? = some c → kd (i + k) = c.1 ∧ ar (i + k) = if 3 ≤ c.1 then c.2 + off else c.2
theorem mAt_l {kd ar : Nat → Nat} {off i : Nat} {g g2 : List (Nat × Nat)} (h : mAt kd ar off i (g ++ g2)) : mAt kd ar off i g := fun k c hk => h k c (by
  have : k < g.length := by
    rcases Nat.lt_or_ge k g.length with h | h
    · exact h
    · rw [List.getElem?_eq_none h] at hk; exact absurd hk (by simp)
  rw [List.getElem?_append_left this]
  exact hk)
theorem mAt_r {kd ar : Nat → Nat} {off i : Nat} {g g2 : List (Nat × Nat)} (h : mAt kd ar off i (g ++ g2)) : mAt kd ar off (i + g.length) g2 := fun k c hk => by
  have := h (g.length + k) c (by rw [List.getElem?_append_right (by omega)]; rw [show g.length + k - g.length = k by omega]; exact hk)
  rw [show i + (g.length + k) = i + g.length + k by omega] at this
  exact this
theorem rn_skip {kd ar : Nat → Nat} {L : Nat → Int32} : ∀ m f i r s, i + m ≤ r → rn kd ar L (f + m) i r s = rn kd ar L f (i + m) r s
  | 0, _, _, _, _, _ => rfl
  | m + 1, f, i, r, s, h => by
    have e : rn kd ar L (f + m + 1) i r s = rn kd ar L (f + m) (i + 1) r s := by
      conv => lhs; unfold rn
      rw [if_pos (by omega)]
    rw [show f + (m + 1) = f + m + 1 from rfl, e, rn_skip m f (i + 1) r s (by omega), show i + 1 + m = i + (m + 1) by omega]
theorem spush_l {x : Int32} {s : List Int32} (h : s.length < 24) : spush x s = x :: s := if_pos h
def rnP (h : Nat) (g : List (Nat × Nat)) (D : (Nat → Int32) → Option Int32) (s : Nat) : Prop := 1 ≤ h ∧ ∀ (kd ar : Nat → Nat) (L : Nat → Int32) (off f i r : Nat) (st : List Int32), i = s + off → mAt kd ar off i g → r ≤ i → st.length + h ≤ 24 → ∃ r', r' ≤ i + g.length ∧ rn kd ar L (f + g.length) i r st = match D L with
  | none => 0
  | some v => rn kd ar L f (i + g.length) r' (v :: st)
theorem rn_bin {h1 h2 s : Nat} {g1 g2 : List (Nat × Nat)} {D1 D2 : (Nat → Int32) → Option Int32} {op : Nat} (ho : op ≠ 33) (e1 : ∀ s, rnP h1 g1 D1 s) (e2 : ∀ s, rnP h2 g2 D2 s) : rnP (max h1 (h2 + 1)) (g1 ++ g2 ++ [(2, op)]) (binD op D1 D2) s := by
  refine ⟨by omega, ?_⟩
  replace e1 := fun s => (e1 s).2
  replace e2 := fun s => (e2 s).2
  intro kd ar L off f i r st hi hm hr hl
  have el : (g1 ++ g2 ++ [(2, op)]).length = g1.length + g2.length + 1 := by rw [List.length_append, List.length_append]; rfl
  rw [el]
  obtain ⟨r1, hr1, q1⟩ := e1 s kd ar L off (f + 1 + g2.length) i r st hi (mAt_l (mAt_l hm)) hr (by omega)
  rw [show f + (g1.length + g2.length + 1) = f + 1 + g2.length + g1.length by omega, q1]
  unfold binD
  cases d1 : D1 L with
  | none => exact ⟨i, by omega, rfl⟩
  | some x =>
    obtain ⟨r2, hr2, q2⟩ := e2 (s + g1.length) kd ar L off (f + 1) (i + g1.length) r1 (x :: st) (by omega) (mAt_r (mAt_l hm)) hr1 (by show st.length + 1 + h2 ≤ 24; omega)
    show ∃ r', r' ≤ _ ∧ rn kd ar L (f + 1 + g2.length) (i + g1.length) r1 (x :: st) = _
    rw [q2]
    cases d2 : D2 L with
    | none => exact ⟨i, by omega, rfl⟩
    | some y =>
      obtain ⟨k1, k2⟩ := (mAt_r hm) 0 (2, op) rfl
      rw [List.length_append] at k1 k2
      have k1' : kd (i + g1.length + g2.length) = 2 := by
        have : kd (i + (g1.length + g2.length) + 0) = 2 := k1
        rw [← this]; congr 1; omega
      have k2' : ar (i + g1.length + g2.length) = op := by
        have : ar (i + (g1.length + g2.length) + 0) = op := k2
        rw [← this]; congr 1; omega
      refine ⟨r2, by omega, ?_⟩
      show rn kd ar L (f + 1) (i + g1.length + g2.length) r2 (y :: x :: st) = _
      conv => lhs; unfold rn
      rw [if_neg (by omega), k1', k2', if_neg (by decide), if_neg (by decide), if_pos rfl, if_neg ho]
      show (if y = 0 ∧ (op = 47 ∨ op = 37) then 0 else rn kd ar L f (i + g1.length + g2.length + 1) r2 (spush (jn op x y) st)) = _
      by_cases hz : y = 0 ∧ (op = 47 ∨ op = 37)
      · rw [if_pos hz]
        show 0 = (match (if y = 0 ∧ (op = 47 ∨ op = 37) then none else some (jn op x y)) with | none => 0 | some v => rn kd ar L f (i + (g1.length + g2.length + 1)) r2 (v :: st))
        rw [if_pos hz]
      · rw [if_neg hz]
        show _ = (match (if y = 0 ∧ (op = 47 ∨ op = 37) then none else some (jn op x y)) with | none => 0 | some v => rn kd ar L f (i + (g1.length + g2.length + 1)) r2 (v :: st))
        rw [if_neg hz, spush_l (by omega)]
        show rn kd ar L f (i + g1.length + g2.length + 1) r2 (jn op x y :: st) = rn kd ar L f (i + (g1.length + g2.length + 1)) r2 (jn op x y :: st)
        rw [show i + g1.length + g2.length + 1 = i + (g1.length + g2.length + 1) by omega]
theorem rnE {h : Nat} {g : List (Nat × Nat)} {D : (Nat → Int32) → Option Int32} (e : okE h g D) : ∀ s, rnP h g D s := by
  refine e (fun h g D => ∀ s, rnP h g D s) ?_ ?_ ?_
  · intro v hv s
    refine ⟨Nat.le_refl _, ?_⟩
    intro kd ar L off f i r st hi hm hr hl
    obtain ⟨k1, k2⟩ := hm 0 (0, v) rfl
    refine ⟨r, by omega, ?_⟩
    show rn kd ar L (f + 1) i r st = rn kd ar L f (i + 1) r (nI v :: st)
    conv => lhs; unfold rn
    rw [if_neg (by omega), show kd i = 0 from k1, if_pos rfl, show ar i = v from k2, spush_l (by omega)]
  · intro l hl9 s
    refine ⟨Nat.le_refl _, ?_⟩
    intro kd ar L off f i r st hi hm hr hl
    obtain ⟨k1, k2⟩ := hm 0 (1, l) rfl
    refine ⟨r, by omega, ?_⟩
    show rn kd ar L (f + 1) i r st = rn kd ar L f (i + 1) r (L l :: st)
    conv => lhs; unfold rn
    rw [if_neg (by omega), show kd i = 1 from k1, if_neg (by decide), if_pos rfl, show ar i = l from k2, spush_l (by omega)]
  · intro h1 h2 g1 g2 D1 D2 op ho e1 e2 s
    exact rn_bin (by omega) e1 e2
theorem rnC {s h : Nat} {g : List (Nat × Nat)} {D : (Nat → Int32) → Option Int32} (e : okC s h g D) : rnP h g D s := by
  refine e (fun s h g D => rnP h g D s) ?_ ?_ ?_ ?_
  · intro s h1 h2 g1 g2 D1 D2 op ho e1 e2
    exact rn_bin (by omega) (rnE e1) (rnE e2)
  · intro s h g D ⟨hh, e1⟩
    refine ⟨hh, ?_⟩
    intro kd ar L off f i r st hi hm hr hl
    have el : (g ++ [(2, 33)]).length = g.length + 1 := by rw [List.length_append]; rfl
    rw [el]
    obtain ⟨r1, hr1, q1⟩ := e1 kd ar L off (f + 1) i r st hi (mAt_l hm) hr hl
    rw [show f + (g.length + 1) = f + 1 + g.length by omega, q1]
    dsimp only
    cases d1 : D L with
    | none => exact ⟨i, by omega, rfl⟩
    | some x =>
      obtain ⟨k1, k2⟩ := (mAt_r hm) 0 (2, 33) rfl
      refine ⟨r1, by omega, ?_⟩
      show rn kd ar L (f + 1) (i + g.length) r1 (x :: st) = rn kd ar L f (i + (g.length + 1)) r1 ((if x = 0 then 1 else 0) :: st)
      conv => lhs; unfold rn
      rw [if_neg (by omega), show kd (i + g.length) = 2 from k1, show ar (i + g.length) = 33 from k2, if_neg (by decide), if_neg (by decide), if_pos rfl, if_pos rfl]
      show rn kd ar L f (i + g.length + 1) r1 (spush (if x = 0 then 1 else 0) st) = _
      have h1 : st.length < 24 := by omega
      rw [spush_l h1]
      congr 1
  · intro s h1 h2 g1 g2 D1 D2 ⟨hh1, e1⟩ ⟨hh2, e2⟩
    refine ⟨by omega, ?_⟩
    intro kd ar L off f i r st hi hm hr hl
    have el : (g1 ++ [(3, s + (g1.length + 1 + g2.length))] ++ g2).length = g1.length + 1 + g2.length := by rw [List.length_append, List.length_append]; rfl
    rw [el]
    obtain ⟨r1, hr1, q1⟩ := e1 kd ar L off (f + g2.length + 1) i r st hi (mAt_l (mAt_l hm)) hr (by omega)
    rw [show f + (g1.length + 1 + g2.length) = f + g2.length + 1 + g1.length by omega, q1]
    dsimp only
    cases d1 : D1 L with
    | none => exact ⟨i, by omega, rfl⟩
    | some x =>
      obtain ⟨k1, k2⟩ := (mAt_r (mAt_l hm)) 0 (3, s + (g1.length + 1 + g2.length)) rfl
      have k2' : ar (i + g1.length) = i + (g1.length + 1 + g2.length) := by
        have : ar (i + g1.length + 0) = s + (g1.length + 1 + g2.length) + off := k2
        rw [show i + g1.length = i + g1.length + 0 from rfl, this]; omega
      have e0 : rn kd ar L (f + g2.length + 1) (i + g1.length) r1 (x :: st) = if x = 0 then rn kd ar L (f + g2.length) (i + g1.length + 1) (i + (g1.length + 1 + g2.length)) (spush 0 st) else rn kd ar L (f + g2.length) (i + g1.length + 1) r1 st := by
        conv => lhs; unfold rn
        rw [if_neg (by omega), show kd (i + g1.length) = 3 from k1, if_neg (by decide), if_neg (by decide), if_neg (by decide), k2']
        rfl
      show ∃ r', r' ≤ _ ∧ rn kd ar L (f + g2.length + 1) (i + g1.length) r1 (x :: st) = _
      rw [e0]
      by_cases hx : x = 0
      · rw [if_pos hx, spush_l (by omega)]
        refine ⟨i + (g1.length + 1 + g2.length), Nat.le_refl _, ?_⟩
        rw [rn_skip g2.length f (i + g1.length + 1) _ _ (by omega), show i + g1.length + 1 + g2.length = i + (g1.length + 1 + g2.length) by omega]
        dsimp only
        rw [if_pos hx]
      · rw [if_neg hx]
        have hm2 : mAt kd ar off (i + g1.length + 1) g2 := by
          have := mAt_r hm
          rw [List.length_append] at this
          exact this
        obtain ⟨r2, hr2, q2⟩ := e2 kd ar L off f (i + g1.length + 1) r1 st (by omega) hm2 (by omega) (by omega)
        refine ⟨r2, by omega, ?_⟩
        rw [q2]
        dsimp only
        rw [if_neg hx, show i + g1.length + 1 + g2.length = i + (g1.length + 1 + g2.length) by omega]
  · intro s h1 h2 g1 g2 D1 D2 ⟨hh1, e1⟩ ⟨hh2, e2⟩
    refine ⟨by omega, ?_⟩
    intro kd ar L off f i r st hi hm hr hl
    have el : (g1 ++ [(4, s + (g1.length + 1 + g2.length))] ++ g2).length = g1.length + 1 + g2.length := by rw [List.length_append, List.length_append]; rfl
    rw [el]
    obtain ⟨r1, hr1, q1⟩ := e1 kd ar L off (f + g2.length + 1) i r st hi (mAt_l (mAt_l hm)) hr (by omega)
    rw [show f + (g1.length + 1 + g2.length) = f + g2.length + 1 + g1.length by omega, q1]
    dsimp only
    cases d1 : D1 L with
    | none => exact ⟨i, by omega, rfl⟩
    | some x =>
      obtain ⟨k1, k2⟩ := (mAt_r (mAt_l hm)) 0 (4, s + (g1.length + 1 + g2.length)) rfl
      have k2' : ar (i + g1.length) = i + (g1.length + 1 + g2.length) := by
        have : ar (i + g1.length + 0) = s + (g1.length + 1 + g2.length) + off := k2
        rw [show i + g1.length = i + g1.length + 0 from rfl, this]; omega
      have e0 : rn kd ar L (f + g2.length + 1) (i + g1.length) r1 (x :: st) = if x = 0 then rn kd ar L (f + g2.length) (i + g1.length + 1) r1 st else rn kd ar L (f + g2.length) (i + g1.length + 1) (i + (g1.length + 1 + g2.length)) (spush 1 st) := by
        conv => lhs; unfold rn
        rw [if_neg (by omega), show kd (i + g1.length) = 4 from k1, if_neg (by decide), if_neg (by decide), if_neg (by decide), k2']
        rfl
      show ∃ r', r' ≤ _ ∧ rn kd ar L (f + g2.length + 1) (i + g1.length) r1 (x :: st) = _
      rw [e0]
      by_cases hx : x = 0
      · rw [if_pos hx]
        have hm2 : mAt kd ar off (i + g1.length + 1) g2 := by
          have := mAt_r hm
          rw [List.length_append] at this
          exact this
        obtain ⟨r2, hr2, q2⟩ := e2 kd ar L off f (i + g1.length + 1) r1 st (by omega) hm2 (by omega) (by omega)
        refine ⟨r2, by omega, ?_⟩
        rw [q2]
        dsimp only
        rw [if_pos hx, show i + g1.length + 1 + g2.length = i + (g1.length + 1 + g2.length) by omega]
      · rw [if_neg hx, spush_l (by omega)]
        refine ⟨i + (g1.length + 1 + g2.length), Nat.le_refl _, ?_⟩
        rw [rn_skip g2.length f (i + g1.length + 1) _ _ (by omega), show i + g1.length + 1 + g2.length = i + (g1.length + 1 + g2.length) by omega]
        dsimp only
        rw [if_neg hx]
theorem okE_cd {h : Nat} {g : List (Nat × Nat)} {D : (Nat → Int32) → Option Int32} (e : okE h g D) : ∀ c, c ∈ g → c.1 ≤ 2 ∧ c.2 < 1048576 ∧ (c.1 = 1 → c.2 < 9) := by
  refine e (fun _ g _ => ∀ c, c ∈ g → c.1 ≤ 2 ∧ c.2 < 1048576 ∧ (c.1 = 1 → c.2 < 9)) ?_ ?_ ?_
  · intro v hv c hc
    rw [List.mem_singleton] at hc
    subst hc
    exact ⟨Nat.zero_le _, hv, fun h => absurd h (by simp)⟩
  · intro l hl c hc
    rw [List.mem_singleton] at hc
    subst hc
    exact ⟨Nat.le_of_ble_eq_true rfl, by show l < _; omega, fun _ => hl⟩
  · intro h1 h2 g1 g2 D1 D2 op ho e1 e2 c hc
    rw [List.mem_append, List.mem_append, List.mem_singleton] at hc
    rcases hc with (hc | hc) | hc
    · exact e1 c hc
    · exact e2 c hc
    · subst hc
      exact ⟨Nat.le_refl _, by show op < _; omega, fun h => absurd h (by simp)⟩
def cdP (n : Nat) (c : Nat × Nat) : Prop := c.1 ≤ 4 ∧ (c.1 ≤ 2 → c.2 < 1048576) ∧ (c.1 = 1 → c.2 < 9) ∧ (3 ≤ c.1 → c.2 ≤ n)
theorem cdP_m {n m : Nat} {c : Nat × Nat} (h : cdP n c) (hm : n ≤ m) : cdP m c := ⟨h.1, h.2.1, h.2.2.1, fun h3 => Nat.le_trans (h.2.2.2 h3) hm⟩
theorem cdP_e {n : Nat} {c : Nat × Nat} (h : c.1 ≤ 2 ∧ c.2 < 1048576 ∧ (c.1 = 1 → c.2 < 9)) : cdP n c := ⟨by omega, fun _ => h.2.1, h.2.2, fun h3 => by omega⟩
theorem okC_cd {s h : Nat} {g : List (Nat × Nat)} {D : (Nat → Int32) → Option Int32} (e : okC s h g D) : ∀ c, c ∈ g → cdP (s + g.length) c := by
  refine e (fun s _ g _ => ∀ c, c ∈ g → cdP (s + g.length) c) ?_ ?_ ?_ ?_
  · intro s h1 h2 g1 g2 D1 D2 op ho e1 e2 c hc
    rw [List.mem_append, List.mem_append, List.mem_singleton] at hc
    rcases hc with (hc | hc) | hc
    · exact cdP_e (okE_cd e1 c hc)
    · exact cdP_e (okE_cd e2 c hc)
    · subst hc
      exact cdP_e ⟨Nat.le_refl _, by show op < _; omega, fun h => absurd h (by simp)⟩
  · intro s h g D e1 c hc
    rw [List.mem_append, List.mem_singleton] at hc
    rw [List.length_append]
    rcases hc with hc | hc
    · exact cdP_m (e1 c hc) (by omega)
    · subst hc
      exact cdP_e ⟨Nat.le_refl _, by decide, fun h => absurd h (by simp)⟩
  · intro s h1 h2 g1 g2 D1 D2 e1 e2 c hc
    rw [List.mem_append, List.mem_append, List.mem_singleton] at hc
    rw [List.length_append, List.length_append]
    rcases hc with (hc | hc) | hc
    · exact cdP_m (e1 c hc) (by omega)
    · subst hc
      exact ⟨Nat.le_of_ble_eq_true rfl, fun h => absurd h (Nat.not_le_of_lt (Nat.le_of_ble_eq_true rfl)), fun h => absurd h (by simp), fun _ => by show s + (g1.length + 1 + g2.length) ≤ s + (g1.length + 1 + g2.length); omega⟩
    · refine cdP_m (e2 c hc) ?_
      show s + g1.length + 1 + g2.length ≤ s + (g1.length + 1 + g2.length)
      omega
  · intro s h1 h2 g1 g2 D1 D2 e1 e2 c hc
    rw [List.mem_append, List.mem_append, List.mem_singleton] at hc
    rw [List.length_append, List.length_append]
    rcases hc with (hc | hc) | hc
    · exact cdP_m (e1 c hc) (by omega)
    · subst hc
      exact ⟨Nat.le_refl _, fun h => absurd h (Nat.not_le_of_lt (Nat.le_of_ble_eq_true rfl)), fun h => absurd h (by simp), fun _ => by show s + (g1.length + 1 + g2.length) ≤ s + (g1.length + 1 + g2.length); omega⟩
    · refine cdP_m (e2 c hc) ?_
      show s + g1.length + 1 + g2.length ≤ s + (g1.length + 1 + g2.length)
      omega
def D9 (D : (Nat → Int32) → Option Int32) : Prop := ∀ F F' : Nat → Int32, (∀ k, k < 9 → F k = F' k) → D F = D F'
theorem bin_9 {op : Nat} {D1 D2 : (Nat → Int32) → Option Int32} (h1 : D9 D1) (h2 : D9 D2) : D9 (binD op D1 D2) := fun F F' h => by
  unfold binD
  rw [h1 F F' h, h2 F F' h]
theorem okE_9 {h : Nat} {g : List (Nat × Nat)} {D : (Nat → Int32) → Option Int32} (e : okE h g D) : D9 D :=
  e (fun _ _ D => D9 D) (fun _ _ _ _ _ => rfl) (fun l hl F F' h => congrArg some (h l hl)) (fun _ _ _ _ _ _ _ _ e1 e2 => bin_9 e1 e2)
theorem okC_9 {s h : Nat} {g : List (Nat × Nat)} {D : (Nat → Int32) → Option Int32} (e : okC s h g D) : D9 D := by
  refine e (fun _ _ _ D => D9 D) ?_ ?_ ?_ ?_
  · intro s h1 h2 g1 g2 D1 D2 op ho e1 e2
    exact bin_9 (okE_9 e1) (okE_9 e2)
  · intro s h g D e1 F F' h
    dsimp only
    rw [e1 F F' h]
  · intro s h1 h2 g1 g2 D1 D2 e1 e2 F F' h
    dsimp only
    rw [e1 F F' h, e2 F F' h]
  · intro s h1 h2 g1 g2 D1 D2 e1 e2 F F' h
    dsimp only
    rw [e1 F F' h, e2 F F' h]
/-- what the clauses of a text mean -/
def meanT (a : List (Nat × List (Nat × Nat) × List (Nat × Nat))) (M : Nat → ((Nat → Int32) → Option Int32) × ((Nat → Int32) → Option Int32)) : Prop := ∀ j c g1 g2, a[j]? = some (c, g1, g2) → (∃ h, h ≤ 15 ∧ okE h g1 (M j).1) ∧ ∃ h, h ≤ 14 ∧ okC (plA a j + g1.length) h g2 (M j).2
theorem meanT_ex {b : Nat} {a : List (Nat × List (Nat × Nat) × List (Nat × Nat))} (h : gdT b a) : ∃ M, meanT a M := by
  have h1 : ∀ j, ∃ m : ((Nat → Int32) → Option Int32) × ((Nat → Int32) → Option Int32), ∀ c g1 g2, a[j]? = some (c, g1, g2) → (∃ h, h ≤ 15 ∧ okE h g1 m.1) ∧ ∃ h, h ≤ 14 ∧ okC (plA a j + g1.length) h g2 m.2 := fun j => by
    cases hj : a[j]? with
    | none => exact ⟨(fun _ => none, fun _ => none), fun c g1 g2 h => absurd h (by simp)⟩
    | some x =>
      obtain ⟨c, g1, g2⟩ := x
      obtain ⟨_, ⟨h1, D1, a1, e1⟩, ⟨h2, D2, a2, e2⟩⟩ := h j c g1 g2 hj
      refine ⟨(D1, D2), fun c' g1' g2' h => ?_⟩
      injection h with h
      injection h with h3 h4
      injection h4 with h5 h6
      subst h3 h5 h6
      exact ⟨⟨h1, a1, e1⟩, ⟨h2, a2, e2⟩⟩
  exact ⟨fun j => (h1 j).choose, fun j c g1 g2 hj => (h1 j).choose_spec c g1 g2 hj⟩
def ltA (a : List (Nat × List (Nat × Nat) × List (Nat × Nat))) (j : Nat) : Nat := match a[j]? with
  | none => 0
  | some x => x.1
/-- the E of the first clause of a letter whose C holds -/
def mnL (a : List (Nat × List (Nat × Nat) × List (Nat × Nat))) (M : Nat → ((Nat → Int32) → Option Int32) × ((Nat → Int32) → Option Int32)) (letter : Nat) (L : Nat → Int32) : Nat → Nat → Int32
  | 0, _ => 0
  | n + 1, j => if ltA a j = letter ∧ (M j).2 L = some 1 then ((M j).1 L).getD 0 else mnL a M letter L n (j + 1)
def hdA (a : List (Nat × List (Nat × Nat) × List (Nat × Nat))) (j : Nat) : Nat := plA a j + 3 * j
def cpA (a : List (Nat × List (Nat × Nat) × List (Nat × Nat))) (j : Nat) : Nat := hdA a j + 3 + (match a[j]? with
  | none => 0
  | some x => x.2.1.length)
def kdF (f : Nat → Int32) (i : Nat) : Nat := (f i).toInt.toNat / 1048576
def arF (f : Nat → Int32) (i : Nat) : Nat := (f i).toInt.toNat % 1048576
theorem encS_kd {f : Nat → Int32} {off i : Nat} {d : Nat × Nat} (h : f i = encS off d) (h4 : d.1 ≤ 4) (ha : (if 3 ≤ d.1 then d.2 + off else d.2) < 1048576) : kdF f i = d.1 ∧ arF f i = if 3 ≤ d.1 then d.2 + off else d.2 := by
  have e : (f i).toInt.toNat = 1048576 * d.1 + (if 3 ≤ d.1 then d.2 + off else d.2) := by
    rw [h]
    unfold encS
    rw [nI_toInt (by omega)]
    omega
  unfold kdF arF
  rw [e]
  omega
/-- a text's clauses where they stand: what the reckoner needs -/
theorem cl_in {f : Nat → Int32} {b : Nat} {a : List (Nat × List (Nat × Nat) × List (Nat × Nat))} (hcl : clOK f a) (hg : gdT b a) (h240 : plA a a.length + 3 * a.length ≤ 240) {j c : Nat} {g1 g2 : List (Nat × Nat)} (hj : a[j]? = some (c, g1, g2)) : hdA a (j + 1) = hdA a j + 3 + g1.length + g2.length ∧ hdA a (j + 1) ≤ 240 ∧ ∀ k d, (g1 ++ g2)[k]? = some d → kdF f (hdA a j + 3 + k) = d.1 ∧ (arF f (hdA a j + 3 + k) = if 3 ≤ d.1 then d.2 + (3 * j + 3) else d.2) ∧ f (hdA a j + 3 + k) = encS (3 * j + 3) d ∧ d.1 ≤ 4 ∧ (if 3 ≤ d.1 then d.2 + (3 * j + 3) else d.2) < 1048576 ∧ (d.1 = 1 → d.2 < 9) := by
  have hl : j < a.length := by
    rcases Nat.lt_or_ge j a.length with h | h
    · exact h
    · rw [List.getElem?_eq_none h] at hj; exact absurd hj (by simp)
  have e1 : plA a (j + 1) = plA a j + g1.length + g2.length := plA_step hj
  have e2 := plA_mono (a := a) (show j + 1 ≤ a.length from hl)
  have e3 : hdA a (j + 1) = hdA a j + 3 + g1.length + g2.length := by unfold hdA; omega
  have e4 : hdA a (j + 1) ≤ 240 := by unfold hdA; omega
  refine ⟨e3, e4, fun k d hd => ?_⟩
  obtain ⟨_, ⟨h1, D1, _, x1⟩, ⟨h2, D2, _, x2⟩⟩ := hg j c g1 g2 hj
  have hf := (hcl j c g1 g2 hj).2.2.2 k d hd
  have hm : d ∈ g1 ++ g2 := List.mem_of_getElem? hd
  have hp : cdP (plA a j + g1.length + g2.length) d := by
    rw [List.mem_append] at hm
    rcases hm with hm | hm
    · exact cdP_e (okE_cd x1 d hm)
    · exact okC_cd x2 d hm
  have hb : (if 3 ≤ d.1 then d.2 + (3 * j + 3) else d.2) < 1048576 := by
    split
    · rename_i h3
      have := hp.2.2.2 h3
      unfold hdA at e4
      omega
    · rename_i h3
      exact hp.2.1 (by omega)
  obtain ⟨k1, k2⟩ := encS_kd (f := f) (i := hdA a j + 3 + k) hf hp.1 hb
  exact ⟨k1, k2, hf, hp.1, hb, hp.2.2.1⟩
theorem cl_wfc {f : Nat → Int32} {b : Nat} {a : List (Nat × List (Nat × Nat) × List (Nat × Nat))} (hcl : clOK f a) (hg : gdT b a) (h16 : a.length ≤ 16) (h240 : plA a a.length + 3 * a.length ≤ 240) : wfc f a.length (kdF f) (arF f) (hdA a) (ltA a) (cpA a) := by
  refine ⟨by unfold hdA; cases a <;> rfl, h16, fun j hj => ?_⟩
  obtain ⟨x, hx⟩ : ∃ x, a[j]? = some x := ⟨a[j], List.getElem?_eq_getElem hj⟩
  obtain ⟨c, g1, g2⟩ := x
  obtain ⟨e3, e4, hin⟩ := cl_in hcl hg h240 hx
  obtain ⟨k1, k2, k3, _⟩ := hcl j c g1 g2 hx
  have el : ltA a j = c := by unfold ltA; rw [hx]
  have ec : cpA a j = hdA a j + 3 + g1.length := by unfold cpA; rw [hx]
  have hc := (hg j c g1 g2 hx).1
  have e5 : hdA a j = plA a j + 3 * j := rfl
  refine ⟨by omega, by omega, by rw [el]; exact k1, by rw [el]; unfold clG at hc; omega, by rw [ec]; exact k2, by rw [e3]; exact k3, e4, fun i hi hi2 => ?_⟩
  have hlt : i - (hdA a j + 3) < (g1 ++ g2).length := by rw [List.length_append]; omega
  obtain ⟨d, hd⟩ : ∃ d, (g1 ++ g2)[i - (hdA a j + 3)]? = some d := ⟨_, List.getElem?_eq_getElem hlt⟩
  obtain ⟨q1, q2, q3, q4, q5, q6⟩ := hin _ d hd
  rw [show hdA a j + 3 + (i - (hdA a j + 3)) = i by omega] at q1 q2 q3
  refine ⟨?_, by rw [q1]; exact q4, by rw [q2]; exact q5, fun h => ?_⟩
  · rw [q1, q2, q3]; rfl
  · rw [q1] at h
    rw [q2, if_neg (by omega)]
    exact q6 h
theorem cl_tl {f : Nat → Int32} {b : Nat} {a : List (Nat × List (Nat × Nat) × List (Nat × Nat))} {M : Nat → ((Nat → Int32) → Option Int32) × ((Nat → Int32) → Option Int32)} (hcl : clOK f a) (hg : gdT b a) (h240 : plA a a.length + 3 * a.length ≤ 240) (hM : meanT a M) (letter : Nat) (L : Nat → Int32) : ∀ n j, j + n = a.length → tlS (kdF f) (arF f) (hdA a) (ltA a) (cpA a) L letter n j = mnL a M letter L n j := by
  intro n
  induction n with
  | zero => intro j _; rfl
  | succ n ih =>
    intro j hj
    obtain ⟨x, hx⟩ : ∃ x, a[j]? = some x := ⟨a[j], List.getElem?_eq_getElem (by omega)⟩
    obtain ⟨c, g1, g2⟩ := x
    obtain ⟨e3, e4, hin⟩ := cl_in hcl hg h240 hx
    have ec : cpA a j = hdA a j + 3 + g1.length := by unfold cpA; rw [hx]
    obtain ⟨⟨h1, a1, x1⟩, ⟨h2, a2, x2⟩⟩ := hM j c g1 g2 hx
    have hm : mAt (kdF f) (arF f) (3 * j + 3) (hdA a j + 3) (g1 ++ g2) := fun k d hd => ⟨(hin k d hd).1, (hin k d hd).2.1⟩
    obtain ⟨r1, _, q1⟩ := (rnE x1 (plA a j)).2 (kdF f) (arF f) L (3 * j + 3) 0 (hdA a j + 3) (hdA a j + 3) [] (by unfold hdA; omega) (mAt_l hm) (Nat.le_refl _) (by show 0 + h1 ≤ 24; omega)
    obtain ⟨r2, _, q2⟩ := (rnC x2).2 (kdF f) (arF f) L (3 * j + 3) 0 (cpA a j) (cpA a j) [] (by rw [ec]; unfold hdA; omega) (by rw [ec]; exact mAt_r hm) (Nat.le_refl _) (by show 0 + h2 ≤ 24; omega)
    have v1 : rn (kdF f) (arF f) L (cpA a j - (hdA a j + 3)) (hdA a j + 3) (hdA a j + 3) [] = ((M j).1 L).getD 0 := by
      rw [show cpA a j - (hdA a j + 3) = 0 + g1.length by omega, q1]
      cases (M j).1 L <;> rfl
    have v2 : rn (kdF f) (arF f) L (hdA a (j + 1) - cpA a j) (cpA a j) (cpA a j) [] = ((M j).2 L).getD 0 := by
      rw [show hdA a (j + 1) - cpA a j = 0 + g2.length by omega, q2]
      cases (M j).2 L <;> rfl
    have v3 : ¬ ((M j).2 L).getD 0 = 0 ↔ (M j).2 L = some 1 := by
      cases hd : (M j).2 L with
      | none => simp
      | some v =>
        rcases okC_01 x2 L v hd with e | e <;> subst e
        · simp
        · simp
    have ih2 := ih (j + 1) (by omega)
    unfold tlS mnL
    rw [v1, v2, ih2]
    by_cases hc : ltA a j = letter ∧ (M j).2 L = some 1
    · rw [if_pos hc, if_pos ⟨hc.1, v3.mpr hc.2⟩]
    · rw [if_neg hc, if_neg (fun h => hc ⟨h.1, v3.mp h.2⟩)]
theorem mnL_9 {a : List (Nat × List (Nat × Nat) × List (Nat × Nat))} {M : Nat → ((Nat → Int32) → Option Int32) × ((Nat → Int32) → Option Int32)} (hM : meanT a M) {letter : Nat} {F F' : Nat → Int32} (h : ∀ k, k < 9 → F k = F' k) : ∀ n j, j + n = a.length → mnL a M letter F n j = mnL a M letter F' n j := by
  intro n
  induction n with
  | zero => intro j _; rfl
  | succ n ih =>
    intro j hj
    obtain ⟨x, hx⟩ : ∃ x, a[j]? = some x := ⟨a[j], List.getElem?_eq_getElem (by omega)⟩
    obtain ⟨c, g1, g2⟩ := x
    obtain ⟨⟨h1, a1, x1⟩, ⟨h2, a2, x2⟩⟩ := hM j c g1 g2 hx
    unfold mnL
    rw [okE_9 x1 F F' h, okC_9 x2 F F' h, ih (j + 1) (by omega)]
/-- a text that was read is a program -/
theorem progI_of {I : zI} {pa b : Nat} {a : List (Nat × List (Nat × Nat) × List (Nat × Nat))} {M : Nat → ((Nat → Int32) → Option Int32) × ((Nat → Int32) → Option Int32)} (hcl : clOK (I (pa + 1)) a) (hn : I pa 2 = nI a.length) (hg : gdT b a) (h16 : a.length ≤ 16) (h240 : plA a a.length + 3 * a.length ≤ 240) (hM : meanT a M) : progI I pa (fun letter F => mnL a M letter F a.length 0) :=
  ⟨a.length, kdF (I (pa + 1)), arF (I (pa + 1)), hdA a, ltA a, cpA a, cl_wfc hcl hg h16 h240, hn, fun letter F => (cl_tl hcl hg h240 hM letter F a.length 0 (Nat.zero_add _)).symm, fun letter F F' h => mnL_9 hM h a.length 0 (Nat.zero_add _)⟩
