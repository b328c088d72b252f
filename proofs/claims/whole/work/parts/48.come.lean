/-! THE MODEL: what a text's codes come to -/
def cmAt (f : Nat → Int32) (p : Nat) (g : List (Nat × Nat)) : Prop := ∀ k c, g[k]? = some c → f (p + k) = nI (encM c)
theorem cmAt_l {f : Nat → Int32} {p : Nat} {g g2 : List (Nat × Nat)} (h : cmAt f p (g ++ g2)) : cmAt f p g := fun k c hk => h k c (by
  have : k < g.length := by
    rcases Nat.lt_or_ge k g.length with h | h
    · exact h
    · rw [List.getElem?_eq_none h] at hk; exact absurd hk (by simp)
  rw [List.getElem?_append_left this]
  exact hk)
theorem cmAt_r {f : Nat → Int32} {p : Nat} {g g2 : List (Nat × Nat)} (h : cmAt f p (g ++ g2)) : cmAt f (p + g.length) g2 := fun k c hk => by
  have := h (g.length + k) c (by rw [List.getElem?_append_right (by omega)]; rw [show g.length + k - g.length = k by omega]; exact hk)
  rw [show p + (g.length + k) = p + g.length + k by omega] at this
  exact this
def cmP (h : Nat) (g : List (Nat × Nat)) (D : (Nat → Int32) → Option Int32) (b0 : Nat → Nat) : Prop := 1 ≤ h ∧ ∀ (G : zG) (I : zI) (J : zJ) (Q : zQ) (a : Int32) (tt b : Nat) (s : List Int32), cmAt (I 73) (b0 b) g → b ≤ 1300 → b0 b + g.length ≤ tt → tt ≤ 1300 → s.length + h ≤ 260 → (D (I 80) = none → ∀ I2, offM I I2 → Q (some (.int (nI 0))) zsh I2 J) → (∀ v, D (I 80) = some v → cHd G I J Q a tt b (b0 b + g.length) (v :: s)) → cHd G I J Q a tt b (b0 b) s
theorem cs_bin {G : zG} {I : zI} {J : zJ} {Q : zQ} {a : Int32} {tt b p : Nat} {s : List Int32} {op : Nat} (ho : op = 43 ∨ op = 45 ∨ op = 42 ∨ op = 47 ∨ op = 37 ∨ op = 60 ∨ op = 62 ∨ op = 61) (hp : p < tt) (ht : tt ≤ 1300) {x y : Int32} (hs : s.length + 1 < 260) (hc : I 73 p = nI (encM (2, op))) (hz : y = 0 ∧ (op = 47 ∨ op = 37) → ∀ I2, offM I I2 → Q (some (.int (nI 0))) zsh I2 J) (hk : ¬ (y = 0 ∧ (op = 47 ∨ op = 37)) → cHd G I J Q a tt b (p + 1) (jn op x y :: s)) : cHd G I J Q a tt b p (y :: x :: s) := by
  rcases ho with e | e | e | e | e | e | e | e <;> subst e
  · exact cs_43 hp ht hs hc (hk (by simp))
  · exact cs_45 hp ht hs hc (hk (by simp))
  · exact cs_42 hp ht hs hc (hk (by simp))
  · exact cs_47 hp ht hs hc (fun h => hz ⟨h, Or.inl rfl⟩) (fun h => hk (fun h2 => h h2.1))
  · exact cs_37 hp ht hs hc (fun h => hz ⟨h, Or.inr rfl⟩) (fun h => hk (fun h2 => h h2.1))
  · exact cs_60 hp ht hs hc (hk (by simp))
  · exact cs_62 hp ht hs hc (hk (by simp))
  · exact cs_61 hp ht hs hc (hk (by simp))
theorem cm_bin {h1 h2 : Nat} {g1 g2 : List (Nat × Nat)} {D1 D2 : (Nat → Int32) → Option Int32} {op : Nat} {b0 : Nat → Nat} (ho : op = 43 ∨ op = 45 ∨ op = 42 ∨ op = 47 ∨ op = 37 ∨ op = 60 ∨ op = 62 ∨ op = 61) (e1 : ∀ b0, cmP h1 g1 D1 b0) (e2 : ∀ b0, cmP h2 g2 D2 b0) : cmP (max h1 (h2 + 1)) (g1 ++ g2 ++ [(2, op)]) (binD op D1 D2) b0 := by
  refine ⟨by omega, ?_⟩
  intro G I J Q a tt b s hm hb hpt ht hs hn hk
  have el : (g1 ++ g2 ++ [(2, op)]).length = g1.length + g2.length + 1 := by rw [List.length_append, List.length_append]; rfl
  rw [el] at hpt hk
  have m2 : cmAt (I 73) (b0 b + g1.length) g2 := cmAt_r (cmAt_l hm)
  have hop : I 73 (b0 b + g1.length + g2.length) = nI (encM (2, op)) := by
    have := (cmAt_r hm) 0 (2, op) rfl
    rw [List.length_append] at this
    rw [show b0 b + g1.length + g2.length = b0 b + (g1.length + g2.length) + 0 by omega]
    exact this
  unfold binD at hn hk
  refine (e1 b0).2 G I J Q a tt b s (cmAt_l (cmAt_l hm)) hb (by omega) ht (by omega) (fun d1 => hn (by rw [d1])) (fun x d1 => ?_)
  rw [d1] at hn hk
  refine (e2 (fun b => b0 b + g1.length)).2 G I J Q a tt b (x :: s) m2 hb (by show b0 b + g1.length + g2.length ≤ tt; omega) ht (by show s.length + 1 + h2 ≤ 260; omega) (fun d2 => hn (by dsimp only; rw [d2])) (fun y d2 => ?_)
  dsimp only at hn hk
  rw [d2] at hn hk
  dsimp only at hn hk
  refine cs_bin ho (by show b0 b + g1.length + g2.length < tt; omega) ht (by have := (e2 b0).1; omega) hop (fun hz => hn (if_pos hz)) (fun hz => ?_)
  have q := hk (jn op x y) (if_neg hz)
  rw [show b0 b + (g1.length + g2.length + 1) = b0 b + g1.length + g2.length + 1 by omega] at q
  exact q
theorem cmE {h : Nat} {g : List (Nat × Nat)} {D : (Nat → Int32) → Option Int32} (e : okE h g D) : ∀ b0, cmP h g D b0 := by
  refine e (fun h g D => ∀ b0, cmP h g D b0) ?_ ?_ ?_
  · intro v hv b0
    refine ⟨Nat.le_refl _, ?_⟩
    intro G I J Q a tt b s hm hb hpt ht hs hn hk
    exact cs_n (by have : b0 b + 1 ≤ tt := hpt; omega) ht hv (by omega) (hm 0 (0, v) rfl) (hk (nI v) rfl)
  · intro l hl b0
    refine ⟨Nat.le_refl _, ?_⟩
    intro G I J Q a tt b s hm hb hpt ht hs hn hk
    exact cs_l (by have : b0 b + 1 ≤ tt := hpt; omega) ht hl (by omega) (hm 0 (1, l) rfl) (hk (I 80 l) rfl)
  · intro h1 h2 g1 g2 D1 D2 op ho e1 e2 b0
    exact cm_bin (by omega) e1 e2
theorem cmC {s0 h : Nat} {g : List (Nat × Nat)} {D : (Nat → Int32) → Option Int32} (e : okC s0 h g D) (h260 : s0 + g.length ≤ 1300) : cmP h g D (fun b => b + s0) := by
  refine (e (fun s0 h g D => okC s0 h g D ∧ (s0 + g.length ≤ 1300 → cmP h g D (fun b => b + s0))) ?_ ?_ ?_ ?_).2 h260
  · intro s0 h1 h2 g1 g2 D1 D2 op ho e1 e2
    exact ⟨okC_c ho e1 e2, fun _ => cm_bin (by omega) (cmE e1) (cmE e2)⟩
  · intro s0 h g D ⟨ec, e1⟩
    refine ⟨okC_n ec, fun hl => ?_⟩
    have el : (g ++ [(2, 33)]).length = g.length + 1 := by rw [List.length_append]; rfl
    rw [el] at hl
    have e1 := e1 (by omega)
    refine ⟨e1.1, ?_⟩
    intro G I J Q a tt b s hm hb hpt ht hs hn hk
    have h1 := e1.1
    rw [el] at hpt hk
    dsimp only at hn hk hpt
    refine e1.2 G I J Q a tt b s (cmAt_l hm) hb (by show b + s0 + g.length ≤ tt; omega) ht hs (fun d1 => hn (by rw [d1])) (fun x d1 => ?_)
    rw [d1] at hn hk
    have q := hk _ rfl
    rw [show b + s0 + (g.length + 1) = b + s0 + g.length + 1 by omega] at q
    exact cs_not (by show b + s0 + g.length < tt; omega) ht (okC_01 ec _ _ d1) (by omega) ((cmAt_r hm) 0 (2, 33) rfl) q
  · intro s0 h1 h2 g1 g2 D1 D2 ⟨c1, e1⟩ ⟨c2, e2⟩
    refine ⟨okC_a c1 c2, fun hl => ?_⟩
    have el : (g1 ++ [(3, s0 + (g1.length + 1 + g2.length))] ++ g2).length = g1.length + 1 + g2.length := by rw [List.length_append, List.length_append]; rfl
    rw [el] at hl
    have e1 := e1 (by omega)
    have e2 := e2 (by omega)
    have h1 := e1.1
    refine ⟨by omega, ?_⟩
    intro G I J Q a tt b s hm hb hpt ht hs hn hk
    rw [el] at hpt hk
    dsimp only at hn hk hpt
    have hop := (cmAt_r (cmAt_l hm)) 0 (3, s0 + (g1.length + 1 + g2.length)) rfl
    have m2 := cmAt_r hm
    rw [List.length_append] at m2
    refine e1.2 G I J Q a tt b s (cmAt_l (cmAt_l hm)) hb (by show b + s0 + g1.length ≤ tt; omega) ht (by omega) (fun d1 => hn (by rw [d1])) (fun x d1 => ?_)
    rw [d1] at hn hk
    dsimp only at hn hk
    refine cs_and (v := s0 + (g1.length + 1 + g2.length)) (by show b + s0 + g1.length < tt; omega) ht (by omega) hb (by omega) hop (fun hx => ?_) (fun hx => ?_)
    · have q := hk 0 (if_pos hx)
      rw [hx, show b + (s0 + (g1.length + 1 + g2.length)) = b + s0 + (g1.length + 1 + g2.length) by omega]
      exact q
    · rw [if_neg hx] at hn hk
      have q : cHd G I J Q a tt b (b + (s0 + g1.length + 1)) s := e2.2 G I J Q a tt b s (by show cmAt (I 73) (b + (s0 + g1.length + 1)) g2; rw [show b + (s0 + g1.length + 1) = b + s0 + (g1.length + 1) by omega]; exact m2) hb (by show b + (s0 + g1.length + 1) + g2.length ≤ tt; omega) ht (by omega) hn (fun v hv => by
        have q := hk v hv
        rw [show b + s0 + (g1.length + 1 + g2.length) = b + (s0 + g1.length + 1) + g2.length by omega] at q
        exact q)
      rw [show b + (s0 + g1.length + 1) = b + s0 + g1.length + 1 by omega] at q
      exact q
  · intro s0 h1 h2 g1 g2 D1 D2 ⟨c1, e1⟩ ⟨c2, e2⟩
    refine ⟨okC_o c1 c2, fun hl => ?_⟩
    have el : (g1 ++ [(4, s0 + (g1.length + 1 + g2.length))] ++ g2).length = g1.length + 1 + g2.length := by rw [List.length_append, List.length_append]; rfl
    rw [el] at hl
    have e1 := e1 (by omega)
    have e2 := e2 (by omega)
    have h1 := e1.1
    refine ⟨by omega, ?_⟩
    intro G I J Q a tt b s hm hb hpt ht hs hn hk
    rw [el] at hpt hk
    dsimp only at hn hk hpt
    have hop := (cmAt_r (cmAt_l hm)) 0 (4, s0 + (g1.length + 1 + g2.length)) rfl
    have m2 := cmAt_r hm
    rw [List.length_append] at m2
    refine e1.2 G I J Q a tt b s (cmAt_l (cmAt_l hm)) hb (by show b + s0 + g1.length ≤ tt; omega) ht (by omega) (fun d1 => hn (by rw [d1])) (fun x d1 => ?_)
    rw [d1] at hn hk
    dsimp only at hn hk
    have h01 := okC_01 c1 _ _ d1
    refine cs_or (v := s0 + (g1.length + 1 + g2.length)) (by show b + s0 + g1.length < tt; omega) ht (by omega) hb (by omega) hop (fun hx => ?_) (fun hx => ?_)
    · have q := hk 1 (if_neg (by rw [hx]; decide))
      rw [hx, show b + (s0 + (g1.length + 1 + g2.length)) = b + s0 + (g1.length + 1 + g2.length) by omega]
      exact q
    · have hx0 : x = 0 := h01.resolve_right hx
      rw [if_pos hx0] at hn hk
      have q : cHd G I J Q a tt b (b + (s0 + g1.length + 1)) s := e2.2 G I J Q a tt b s (by show cmAt (I 73) (b + (s0 + g1.length + 1)) g2; rw [show b + (s0 + g1.length + 1) = b + s0 + (g1.length + 1) by omega]; exact m2) hb (by show b + (s0 + g1.length + 1) + g2.length ≤ tt; omega) ht (by omega) hn (fun v hv => by
        have q := hk v hv
        rw [show b + s0 + (g1.length + 1 + g2.length) = b + (s0 + g1.length + 1) + g2.length by omega] at q
        exact q)
      rw [show b + (s0 + g1.length + 1) = b + s0 + g1.length + 1 by omega] at q
      exact q
