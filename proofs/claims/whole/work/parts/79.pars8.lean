/-! THE MODEL: its reader: a clause -/
abbrev cls3 : Type := List (Nat × List (Nat × Nat) × List (Nat × Nat))
def allC : cls3 → List (Nat × Nat)
  | [] => []
  | c :: r => c.2.1 ++ c.2.2 ++ allC r
theorem allC_app {a : cls3} {c : Nat} {g1 g2 : List (Nat × Nat)} : allC (a ++ [(c, g1, g2)]) = allC a ++ g1 ++ g2 := by
  induction a with
  | nil => show g1 ++ g2 ++ [] = [] ++ g1 ++ g2; simp
  | cons x a ih => show x.2.1 ++ x.2.2 ++ allC (a ++ [(c, g1, g2)]) = x.2.1 ++ x.2.2 ++ allC a ++ g1 ++ g2; rw [ih]; simp only [List.append_assoc]
theorem allC_len {a : cls3} : (allC a).length = plA a a.length := by
  induction a with
  | nil => rfl
  | cons x a ih => show (x.2.1 ++ x.2.2 ++ allC a).length = x.2.1.length + x.2.2.length + plA a a.length; rw [List.length_append, List.length_append, ih]
theorem allC_at {a : cls3} {c : Nat} {g1 g2 : List (Nat × Nat)} : ∀ {j : Nat}, a[j]? = some (c, g1, g2) → ∀ k d, (g1 ++ g2)[k]? = some d → (allC a)[plA a j + k]? = some d := by
  induction a with
  | nil => intro j h; exact absurd h (by simp)
  | cons x a ih =>
    intro j h k d hd
    cases j with
    | zero =>
      have e : x = (c, g1, g2) := by simpa using h
      subst e
      show (g1 ++ g2 ++ allC a)[0 + k]? = some d
      have hk : k < (g1 ++ g2).length := (List.getElem?_eq_some_iff.mp hd).1
      rw [Nat.zero_add, List.getElem?_append_left hk]
      exact hd
    | succ j =>
      have h2 := ih (j := j) (by simpa using h) k d hd
      show (x.2.1 ++ x.2.2 ++ allC a)[x.2.1.length + x.2.2.length + plA a j + k]? = some d
      rw [List.getElem?_append_right (by rw [List.length_append]; omega), List.length_append, show x.2.1.length + x.2.2.length + plA a j + k - (x.2.1.length + x.2.2.length) = plA a j + k by omega]
      exact h2
/-- the clauses a are said, place p -/
def Wt (I : zI) (n p : Nat) (a : cls3) : Prop := I 62 9 = nI n ∧ n ≤ 240 ∧ I 62 8 = nI p ∧ p ≤ n ∧ I 62 13 = nI (plA a a.length) ∧ plA a a.length ≤ p ∧ I 62 15 = nI a.length ∧ (∀ k c, (allC a)[k]? = some c → I 67 k = nI (encM c)) ∧ ∀ j c g1 g2, a[j]? = some (c, g1, g2) → I 69 j = nI c ∧ I 70 j = nI (plA a j) ∧ I 71 j = nI (plA a j + g1.length) ∧ I 72 j = nI (plA a j + g1.length + g2.length)
theorem w_hereT {G : zG} {I : zI} {J : zJ} {n p : Nat} {a : cls3} {tx : Nat → Nat} (h : Wt I n p a) (hx : txW I tx n) : zK G mX12_here 0 [.ref 62] zsh I J (zA0 (.int (nxI (sgn tx n p))) I J) := by
  rw [← hx p]
  exact w_here ⟨h.1, h.2.1, h.2.2.1, by have := h.2.1; have := h.2.2.2.1; omega⟩
def fT (I0 I : zI) : Prop := (∀ b, b ≠ 62 → (b < 67 ∨ 72 < b) → I b = I0 b) ∧ ∀ k, k ≠ 8 → (k < 10 ∨ 15 < k) → I 62 k = I0 62 k
theorem fT_t {A B C : zI} (h : fT A B) (h2 : fT B C) : fT A C := ⟨fun b h1 h3 => (h2.1 b h1 h3).trans (h.1 b h1 h3), fun k h1 h3 => (h2.2 k h1 h3).trans (h.2 k h1 h3)⟩
/-- a clause begins -/
def clI (I : zI) (m p s : Nat) (x : Int32) : zI := zwr (zwr (zwr (zwr (zwr I 69 m x) 62 8 (nI (p + 1))) 70 m (nI s)) 62 12 (nI 0)) 62 14 (nI 0)
theorem clI_b {I : zI} {m p s : Nat} {x : Int32} {b : Nat} (h1 : b ≠ 62) (h2 : b ≠ 69) (h3 : b ≠ 70) : clI I m p s x b = I b := (zup_n h1).trans ((zup_n h1).trans ((zup_n h3).trans ((zup_n h1).trans (zup_n h2))))
theorem clI_k {I : zI} {m p s : Nat} {x : Int32} {k : Nat} (h1 : k ≠ 8) (h2 : k ≠ 12) (h3 : k ≠ 14) : clI I m p s x 62 k = I 62 k := by
  unfold clI
  rw [zwr_at, if_neg (by omega), zwr_at, if_neg (by omega), zwr_at, if_neg (by omega), zwr_at, if_neg (by omega), zwr_at, if_neg (by omega)]
theorem clI_69 {I : zI} {m p s : Nat} {x : Int32} {j : Nat} : clI I m p s x 69 j = if j = m then x else I 69 j := by
  unfold clI
  rw [zwr_at, if_neg (by omega), zwr_at, if_neg (by omega), zwr_at, if_neg (by omega), zwr_at, if_neg (by omega), zwr_at]
  by_cases h : j = m
  · rw [if_pos ⟨rfl, h⟩, if_pos h]
  · rw [if_neg (fun e => h e.2), if_neg h]
theorem clI_70 {I : zI} {m p s : Nat} {x : Int32} {j : Nat} : clI I m p s x 70 j = if j = m then nI s else I 70 j := by
  unfold clI
  rw [zwr_at, if_neg (by omega), zwr_at, if_neg (by omega), zwr_at]
  by_cases h : j = m
  · rw [if_pos ⟨rfl, h⟩, if_pos h]
  · rw [if_neg (fun e => h e.2), if_neg h, zwr_at, if_neg (by omega), zwr_at, if_neg (by omega)]
theorem Wd_begin {I : zI} {n p : Nat} {a : cls3} {x : Int32} (h : Wt I n p a) (hp : p < n) : Wd (clI I a.length p (plA a a.length) x) (clI I a.length p (plA a a.length) x) n (p + 1) 0 [] (allC a) := by
  obtain ⟨h1, h2, h3, h4, h5, h6, h7, h8, h9⟩ := h
  exact Wd.mk (fun _ _ _ _ => rfl) (fun _ _ _ _ _ _ _ => rfl) ((clI_k (by decide) (by decide) (by decide)).trans h1) h2 rfl hp rfl (by decide) ((clI_k (by decide) (by decide) (by decide)).trans (h5.trans (congrArg nI allC_len.symm))) rfl (Nat.zero_le _) (by rw [allC_len]; show plA a a.length + 0 + 0 ≤ p + 1; omega) (fun k c hk => (congrFun (clI_b (by decide) (by decide) (by decide)) k).trans (h8 k c hk)) (fun k y hy => absurd hy (by simp)) (fun y hy => absurd hy (by simp))
theorem Wd.base {I0 I I' : zI} {n q z : Nat} {st cs : List (Nat × Nat)} (h : Wd I0 I n q z st cs) (h1 : I' 62 = I 62) (h2 : I' 67 = I 67) (h3 : I' 68 = I 68) : Wd I' I' n q z st cs :=
  Wd.mk (fun _ _ _ _ => rfl) (fun _ _ _ _ _ _ _ => rfl) (by rw [h1]; exact h.hn) h.n240 (by rw [h1]; exact h.hq) h.qn (by rw [h1]; exact h.ho) h.o6 (by rw [h1]; exact h.hc) (by rw [h1]; exact h.hw) h.sq h.cq (fun k c hk => by rw [h2]; exact h.hcs k c hk) (fun k c hk => by rw [h3]; exact h.hst k c hk) h.hk
theorem fT_F {I I' : zI} {m p s fc q : Nat} {x : Int32} (h : Fq (clI I m p s x) I' fc q) : fT I I' := ⟨fun b h1 h2 => (h.1 b h1 (by omega) (by omega)).trans (clI_b h1 (by omega) (by omega)), fun k h1 h2 => (h.2.1 k h1 (by omega) (by omega) (by omega) (by omega) (by omega)).trans (clI_k h1 (by omega) (by omega))⟩
theorem fT_W {I I' : zI} {m p s n q z : Nat} {x : Int32} {st cs : List (Nat × Nat)} (h : Wd (clI I m p s x) I' n q z st cs) : fT I I' := ⟨fun b h1 h2 => (h.f1 b h1 (by omega) (by omega)).trans (clI_b h1 (by omega) (by omega)), fun k h1 h2 => (h.f2 k h1 (by omega) (by omega) (by omega) (by omega) (by omega)).trans (clI_k h1 (by omega) (by omega))⟩
theorem fT_71 {I I' : zI} {m : Nat} {x : Int32} (h : fT I I') : fT I (zwr I' 71 m x) := ⟨fun b h1 h2 => (zup_n (by omega)).trans (h.1 b h1 h2), fun k h1 h2 => (congrFun (zup_n (by decide)) k).trans (h.2 k h1 h2)⟩
theorem fT_FF {I A I' : zI} {fc q : Nat} (h0 : fT I A) (h : Fq A I' fc q) : fT I I' := fT_t h0 ⟨fun b h1 h2 => h.1 b h1 (by omega) (by omega), fun k h1 h2 => h.2.1 k h1 (by omega) (by omega) (by omega) (by omega) (by omega)⟩
theorem fT_WW {I A I' : zI} {n q z : Nat} {st cs : List (Nat × Nat)} (h0 : fT I A) (h : Wd A I' n q z st cs) : fT I I' := fT_t h0 ⟨fun b h1 h2 => h.f1 b h1 (by omega) (by omega), fun k h1 h2 => h.f2 k h1 (by omega) (by omega) (by omega) (by omega) (by omega)⟩
abbrev bT (t : Nat) : Nat := if t = 0 then 1 else 0
section
variable {tx : Nat → Nat} {n b p s cl q q1 fc : Nat} {g g1 g2 : List (Nat × Nat)}
theorem pCls_1 (h : ¬ clG b (sgn tx n p)) : pCls tx n b p s cl = (1, p, [], []) := by unfold pCls; exact if_pos h
theorem pCls_2 (h : clG b (sgn tx n p)) (h2 : 16 ≤ cl) : pCls tx n b p s cl = (4, p, [], []) := by unfold pCls; exact (if_neg (fun e => e h)).trans (if_pos h2)
theorem pCls_3 (h : clG b (sgn tx n p)) (h2 : ¬ 16 ≤ cl) (h3 : pSum tx n 6 (p + 1) = (fc, q, g)) (h0 : fc ≠ 0) : pCls tx n b p s cl = (fc, q, [], []) := by
  unfold pCls
  rw [h3]
  exact (if_neg (fun e => e h)).trans ((if_neg h2).trans (if_pos h0))
theorem pCls_4 (h : clG b (sgn tx n p)) (h2 : ¬ 16 ≤ cl) (h3 : pSum tx n 6 (p + 1) = (0, q1, g1)) (h4 : cnT tx n q1 (s + g1.length) = (fc, q, g)) (h0 : fc ≠ 0) : pCls tx n b p s cl = (fc, q, [], []) := by
  unfold pCls
  rw [h3]
  refine (if_neg (fun e => e h)).trans ((if_neg h2).trans ((if_neg (fun e => e rfl)).trans ?_))
  unfold cnT at h4
  by_cases c1 : sgn tx n q1 = 40
  · rw [if_neg (fun e => e c1)] at h4
    refine (if_neg (fun e => e c1)).trans ?_
    show (if (pCnd tx n 5 (q1 + 1) (s + g1.length)).1 ≠ 0 then _ else _) = _
    obtain ⟨f2, q2, g3, hr⟩ := ex3 (pCnd tx n 5 (q1 + 1) (s + g1.length))
    rw [hr] at h4 ⊢
    unfold pOpn at h4
    by_cases c2 : f2 = 0
    · rw [if_neg (fun e => e c2)] at h4
      refine (if_neg (fun e => e c2)).trans ?_
      by_cases c3 : sgn tx n q2 = 41
      · rw [if_pos c3] at h4
        exact absurd (congrArg Prod.fst h4).symm h0
      · rw [if_neg c3] at h4
        refine (if_pos c3).trans ?_
        injection h4 with e1 e2
        injection e2 with e2 e3
        rw [← e1, ← e2]
    · rw [if_pos c2] at h4
      refine (if_pos c2).trans ?_
      injection h4 with e1 e2
      injection e2 with e2 e3
      rw [← e1, ← e2]
  · rw [if_pos c1] at h4
    refine (if_pos c1).trans ?_
    injection h4 with e1 e2
    injection e2 with e2 e3
    rw [← e1, ← e2]
theorem pCls_5 (h : clG b (sgn tx n p)) (h2 : ¬ 16 ≤ cl) (h3 : pSum tx n 6 (p + 1) = (0, q1, g1)) (h4 : cnT tx n q1 (s + g1.length) = (0, q, g2)) : pCls tx n b p s cl = (0, q, g1, g2) := by
  unfold pCls
  rw [h3]
  refine (if_neg (fun e => e h)).trans ((if_neg h2).trans ((if_neg (fun e => e rfl)).trans ?_))
  unfold cnT at h4
  by_cases c1 : sgn tx n q1 = 40
  · rw [if_neg (fun e => e c1)] at h4
    refine (if_neg (fun e => e c1)).trans ?_
    show (if (pCnd tx n 5 (q1 + 1) (s + g1.length)).1 ≠ 0 then _ else _) = _
    obtain ⟨f2, q2, g3, hr⟩ := ex3 (pCnd tx n 5 (q1 + 1) (s + g1.length))
    rw [hr] at h4 ⊢
    unfold pOpn at h4
    by_cases c2 : f2 = 0
    · rw [if_neg (fun e => e c2)] at h4
      refine (if_neg (fun e => e c2)).trans ?_
      by_cases c3 : sgn tx n q2 = 41
      · rw [if_pos c3] at h4
        refine (if_neg (fun e => e c3)).trans ?_
        injection h4 with e1 e2
        injection e2 with e2 e3
        rw [← e2, ← e3]
      · rw [if_neg c3] at h4
        exact absurd (congrArg Prod.fst h4) (Nat.succ_ne_zero _)
    · rw [if_pos c2] at h4
      exact absurd (congrArg Prod.fst h4) c2
  · rw [if_pos c1] at h4
    exact absurd (congrArg Prod.fst h4) (Nat.succ_ne_zero _)
end
/-- what readsClause comes to -/
def clsQ (I : zI) (J : zJ) (n c : Nat) (a : cls3) (r : Nat × Nat × List (Nat × Nat) × List (Nat × Nat)) : zQ := zP (fun w I' J' => (r.1 = 0 → w = some (.int (nI 1)) ∧ Wt I' n r.2.1 (a ++ [(c, r.2.2)])) ∧ (r.1 ≠ 0 → w = some (.int (nI 0)) ∧ I' 62 10 = fltI r.1 r.2.1) ∧ fT I I' ∧ J = J')
theorem clsQ_no {I I' : zI} {J : zJ} {n c fc q : Nat} {a : cls3} {r : Nat × Nat × List (Nat × Nat) × List (Nat × Nat)} {g : List (Nat × Nat) × List (Nat × Nat)} (hr : r = (fc, q, g)) (h0 : fc ≠ 0) (h : I' 62 10 = fltI fc q) (hF : fT I I') : clsQ I J n c a r (some (.int (nI 0))) zsh I' J := by
  subst hr
  exact ⟨rfl, fun e => absurd e h0, fun _ => ⟨rfl, h⟩, hF, rfl⟩
theorem fT_10 {I : zI} {x : Int32} : fT I (zwr I 62 10 x) := ⟨fun b h1 _ => zup_n h1, fun k _ h2 => by rw [zwr_at, if_neg (by omega)]⟩
/-- a clause ends -/
theorem Wt_end {I I1 I4 : zI} {n p q q1 : Nat} {a : cls3} {c : Nat} {g1 g2 : List (Nat × Nat)} {s2 : Nat} (h : Wt I n p a) (hp : p < n) (hl : p + 1 + g1.length + 1 ≤ q1 + 1) (h1 : Wd (clI I a.length p (plA a a.length) (nI c)) I1 n q1 0 [] (allC a ++ g1)) (hs2 : s2 = (allC a ++ g1).length) (h4 : Wd (zwr I1 71 a.length (nI s2)) I4 n q 0 [] (allC a ++ g1 ++ g2)) : Wt (zwr (zwr I4 72 a.length (nI (allC a ++ g1 ++ g2).length)) 62 15 (nI (a.length + 1))) n q (a ++ [(c, g1, g2)]) ∧ fT I (zwr (zwr I4 72 a.length (nI (allC a ++ g1 ++ g2).length)) 62 15 (nI (a.length + 1))) := by
  have hT : fT I I4 := fT_WW (fT_71 (fT_W h1)) h4
  obtain ⟨w1, w2, w3, w4, w5, w6, w7, w8, w9⟩ := h
  have eL : (a ++ [(c, g1, g2)]).length = a.length + 1 := by rw [List.length_append]; rfl
  have eP : plA (a ++ [(c, g1, g2)]) (a.length + 1) = plA a a.length + g1.length + g2.length := plA_end
  have eA : (allC a ++ g1 ++ g2).length = plA a a.length + g1.length + g2.length := by rw [List.length_append, List.length_append, allC_len]
  have eA1 : (allC a ++ g1).length = plA a a.length + g1.length := by rw [List.length_append, allC_len]
  have b69 : ∀ j, I4 69 j = if j = a.length then nI c else I 69 j := fun j => (congrFun (h4.f1 69 (by decide) (by decide) (by decide)) j).trans ((congrFun (zup_n (by decide)) j).trans ((congrFun (h1.f1 69 (by decide) (by decide) (by decide)) j).trans clI_69))
  have b70 : ∀ j, I4 70 j = if j = a.length then nI (plA a a.length) else I 70 j := fun j => (congrFun (h4.f1 70 (by decide) (by decide) (by decide)) j).trans ((congrFun (zup_n (by decide)) j).trans ((congrFun (h1.f1 70 (by decide) (by decide) (by decide)) j).trans clI_70))
  have b71 : ∀ j, I4 71 j = if j = a.length then nI s2 else I 71 j := fun j => by
    rw [congrFun (h4.f1 71 (by decide) (by decide) (by decide)) j, zwr_at]
    by_cases e : j = a.length
    · rw [if_pos ⟨rfl, e⟩, if_pos e]
    · rw [if_neg (fun h => e h.2), if_neg e, congrFun (h1.f1 71 (by decide) (by decide) (by decide)) j, congrFun (clI_b (by decide) (by decide) (by decide)) j]
  have b72 : ∀ j, I4 72 j = I 72 j := fun j => (congrFun (h4.f1 72 (by decide) (by decide) (by decide)) j).trans ((congrFun (zup_n (by decide)) j).trans ((congrFun (h1.f1 72 (by decide) (by decide) (by decide)) j).trans (congrFun (clI_b (by decide) (by decide) (by decide)) j)))
  have hcq := h4.cq
  rw [eA] at hcq
  refine ⟨⟨h4.hn, w2, h4.hq, h4.qn, ?_, ?_, ?_, ?_, ?_⟩, ?_, ?_⟩
  · rw [eL, eP, ← eA]; exact h4.hc
  · rw [eL, eP]; omega
  · rw [eL, zwr_at, if_pos ⟨rfl, rfl⟩]
  · intro k d hk
    rw [allC_app] at hk
    exact h4.hcs k d hk
  · intro j c' g1' g2' hj
    rw [zwr_at, if_neg (by omega), zwr_at, if_neg (by omega), zwr_at, if_neg (by omega), zwr_at, if_neg (by omega), zwr_at, if_neg (by omega), zwr_at, if_neg (by omega), zwr_at, if_neg (by omega), zwr_at, b69, b70, b71, b72]
    by_cases hjl : j < a.length
    · rw [List.getElem?_append_left hjl] at hj
      rw [plA_app (by omega), if_neg (by omega), if_neg (by omega), if_neg (by omega), if_neg (by omega)]
      exact w9 j c' g1' g2' hj
    · rw [List.getElem?_append_right (by omega)] at hj
      have e0 : j = a.length := by
        rcases Nat.lt_or_ge (j - a.length) 1 with h | h
        · omega
        · rw [List.getElem?_eq_none (by simpa using h)] at hj; exact absurd hj (by simp)
      subst e0
      rw [Nat.sub_self] at hj
      have e1 : (c, g1, g2) = (c', g1', g2') := by simpa using hj
      injection e1 with e2 e3
      injection e3 with e4 e5
      subst e2 e4 e5
      rw [plA_app (Nat.le_refl _), if_pos rfl, if_pos rfl, if_pos rfl, if_pos ⟨rfl, rfl⟩]
      exact ⟨rfl, rfl, by rw [hs2, eA1], by rw [eA]⟩
  · intro b h1 h2
    exact (zup_n h1).trans ((zup_n (by omega)).trans (hT.1 b h1 h2))
  · intro k h1 h2
    rw [zwr_at, if_neg (by omega), zwr_at, if_neg (by omega)]
    exact hT.2 k h1 h2
set_option maxRecDepth 100000 in
set_option maxHeartbeats 4000000 in
theorem w_readsClause {G : zG} {I : zI} {J : zJ} {n p t : Nat} {a : cls3} {tx : Nat → Nat} (hx : txW I tx n) (h : Wt I n p a) (ha : a.length ≤ 16) (ht : t < 2 ^ 31) : zK G mX12_readsClause 7 [.ref 62, .int (nI t)] zsh I J (clsQ I J n (sgn tx n p) a (pCls tx n (bT t) p (plA a a.length) a.length)) := by
  refine zK_of kX12_readsClause.2.2.2.2.1 (Nat.le_of_ble_eq_true rfl) ?_
  show V G mX12_readsClause 7 _ 0 [(0, .ref 62), (1, .int (nI t))] [] (0, 0) zsh I J
  have hn := h.2.1
  have hpn0 := h.2.2.2.1
  have hpl := h.2.2.2.2.2.1
  by_cases hG : clG (bT t) (sgn tx n p)
  · skip
    have hc6 : sgn tx n p ≠ 256 := by omega
    have hpn : p < n := sgn_ltn (tx := tx) (by omega)
    refine V_aload_n dX12_readsClause_0 rfl ?_
    refine V_callV (As := []) (st := []) (a := 62) dX12_readsClause_1 kX12_here lX12_225 (by decide) rfl rfl (Nat.le_of_ble_eq_true rfl) ⟨Nat.le_of_ble_eq_true rfl, Nat.le_of_ble_eq_true rfl⟩ ⟨Nat.le_of_ble_eq_true rfl, Nat.le_of_ble_eq_true rfl⟩ rfl ⟨rfl, by decide⟩ (w_hereT h hx) ?_
    rintro _ _ _ _ ⟨rfl, rfl, rfl, rfl⟩
    refine V_istore_n (ls' := [(2, .int (nxI (sgn tx n p))), (0, .ref 62), (1, .int (nI t))]) dX12_readsClause_4 (by decide) rfl ?_
    refine V_iload_n dX12_readsClause_5 rfl ?_
    refine V_iload_n dX12_readsClause_6 rfl ?_
    refine V_callS (As := [.int (nxI (sgn tx n p)), .int (nI t)]) (st := []) dX12_readsClause_7 kX12_isClause lX12_297 (by decide) rfl rfl (Nat.le_of_ble_eq_true rfl) ⟨Nat.le_of_ble_eq_true rfl, Nat.le_of_ble_eq_true rfl⟩ (w_isClause (sg_le hx p) ht) ?_
    rintro _ _ _ _ ⟨rfl, rfl, rfl, rfl⟩
    refine V_eqI (y := nI 1) (congrArg nI (if_pos hG)) ?_
    refine V_if_ne (tgt := 23) dX12_readsClause_10 rfl (fun _ => ?_) (fun h => absurd h (by decide))
    refine V_aload_n dX12_readsClause_23 rfl ?_
    refine V_getI dX12_readsClause_24 fX12_300 ⟨Nat.le_of_ble_eq_true rfl, Nat.le_of_ble_eq_true rfl⟩ rfl rfl ?_
    refine V_eqI (y := nI a.length) h.2.2.2.2.2.2.1 ?_
    refine V_bipush (v := nI 16) dX12_readsClause_27 rfl ?_
    refine V_icmp_neN (tgt := 42) dX12_readsClause_29 rfl (by omega) (by omega) (fun h29 => ?_) (fun h29 => ?_)
    · skip
      refine V_aload_n dX12_readsClause_42 rfl ?_
      refine V_getR (b := 69) dX12_readsClause_43 fX12_29 ⟨Nat.le_of_ble_eq_true rfl, Nat.le_of_ble_eq_true rfl⟩ rfl rfl rfl ?_
      refine V_aload_n dX12_readsClause_46 rfl ?_
      refine V_getI dX12_readsClause_47 fX12_300 ⟨Nat.le_of_ble_eq_true rfl, Nat.le_of_ble_eq_true rfl⟩ rfl rfl ?_
      refine V_eqI (y := nI a.length) h.2.2.2.2.2.2.1 ?_
      refine V_iload_n dX12_readsClause_50 rfl ?_
      refine V_eqI (y := nI (sgn tx n p)) (nxI_c hc6) ?_
      refine V_iastN (k := a.length) dX12_readsClause_51 ⟨Nat.le_of_ble_eq_true rfl, Nat.le_of_ble_eq_true rfl⟩ rfl (by decide) (by omega) ?_
      refine V_aload_n dX12_readsClause_52 rfl ?_
      refine V_aload_n dX12_readsClause_53 rfl ?_
      refine V_getI dX12_readsClause_54 fX12_219 ⟨Nat.le_of_ble_eq_true rfl, Nat.le_of_ble_eq_true rfl⟩ rfl rfl ?_
      refine V_eqI (y := I 62 8) rfl ?_
      refine V_eqI (y := nI p) h.2.2.1 ?_
      refine V_iconst (v := nI 1) dX12_readsClause_57 rfl ?_
      refine V_iaddN dX12_readsClause_58 ?_
      refine V_putW dX12_readsClause_59 fX12_219 ⟨Nat.le_of_ble_eq_true rfl, Nat.le_of_ble_eq_true rfl⟩ rfl rfl rfl ⟨rfl, rfl⟩ ?_
      refine V_aload_n dX12_readsClause_62 rfl ?_
      refine V_getR (b := 70) dX12_readsClause_63 fX12_32 ⟨Nat.le_of_ble_eq_true rfl, Nat.le_of_ble_eq_true rfl⟩ rfl rfl rfl ?_
      refine V_aload_n dX12_readsClause_66 rfl ?_
      refine V_getI dX12_readsClause_67 fX12_300 ⟨Nat.le_of_ble_eq_true rfl, Nat.le_of_ble_eq_true rfl⟩ rfl rfl ?_
      refine V_eqI (y := I 62 15) rfl ?_
      refine V_eqI (y := nI a.length) h.2.2.2.2.2.2.1 ?_
      refine V_aload_n dX12_readsClause_70 rfl ?_
      refine V_getI dX12_readsClause_71 fX12_243 ⟨Nat.le_of_ble_eq_true rfl, Nat.le_of_ble_eq_true rfl⟩ rfl rfl ?_
      refine V_eqI (y := I 62 13) rfl ?_
      refine V_eqI (y := nI (plA a a.length)) h.2.2.2.2.1 ?_
      refine V_iastN (k := a.length) dX12_readsClause_74 ⟨Nat.le_of_ble_eq_true rfl, Nat.le_of_ble_eq_true rfl⟩ rfl (by decide) (by omega) ?_
      refine V_aload_n dX12_readsClause_75 rfl ?_
      refine V_iconst (v := nI 0) dX12_readsClause_76 rfl ?_
      refine V_putW dX12_readsClause_77 fX12_247 ⟨Nat.le_of_ble_eq_true rfl, Nat.le_of_ble_eq_true rfl⟩ rfl rfl rfl ⟨rfl, rfl⟩ ?_
      refine V_aload_n dX12_readsClause_80 rfl ?_
      refine V_iconst (v := nI 0) dX12_readsClause_81 rfl ?_
      refine V_putW dX12_readsClause_82 fX12_250 ⟨Nat.le_of_ble_eq_true rfl, Nat.le_of_ble_eq_true rfl⟩ rfl rfl rfl ⟨rfl, rfl⟩ ?_
      refine V_aload_n dX12_readsClause_85 rfl ?_
      have hW1 := Wd_begin (x := nI (sgn tx n p)) h hpn
      have hx1 : txW (clI I a.length p (plA a a.length) (nI (sgn tx n p))) tx n := fun i => by rw [clI_b (by decide) (by decide) (by decide)]; exact hx i
      obtain ⟨fc1, q1, g1, hr⟩ := ex3 (pSum tx n 6 (p + 1))
      refine V_callV (As := []) (st := []) (a := 62) dX12_readsClause_86 kX12_readsSum lX12_282 (by decide) rfl rfl (Nat.le_of_ble_eq_true rfl) ⟨Nat.le_of_ble_eq_true rfl, Nat.le_of_ble_eq_true rfl⟩ ⟨Nat.le_of_ble_eq_true rfl, Nat.le_of_ble_eq_true rfl⟩ rfl ⟨rfl, by decide⟩ (w_readsSum (I0 := (clI I a.length p (plA a a.length) (nI (sgn tx n p)))) (I := (clI I a.length p (plA a a.length) (nI (sgn tx n p)))) hx1 hW1 (e := 6) rfl (fun x hx => absurd hx (by simp)) (by omega)) ?_
      rintro r sh' I2 _ ⟨rfl, hA1, hA2, rfl⟩
      rw [hr] at hA1 hA2
      by_cases h0 : fc1 = 0
      · skip
        obtain ⟨rfl, hWa⟩ := hA1 h0
        subst h0
        have hWa : Wd (clI I a.length p (plA a a.length) (nI (sgn tx n p))) I2 n q1 0 [] (allC a ++ g1) := hWa
        refine V_if_ne (tgt := 94) dX12_readsClause_89 rfl (fun _ => ?_) (fun h => absurd h (by decide))
        refine V_aload_n dX12_readsClause_94 rfl ?_
        refine V_getR (b := 71) dX12_readsClause_95 fX12_35 ⟨Nat.le_of_ble_eq_true rfl, Nat.le_of_ble_eq_true rfl⟩ rfl rfl rfl ?_
        refine V_aload_n dX12_readsClause_98 rfl ?_
        refine V_getI dX12_readsClause_99 fX12_300 ⟨Nat.le_of_ble_eq_true rfl, Nat.le_of_ble_eq_true rfl⟩ rfl rfl ?_
        refine V_eqI (y := nI a.length) ((hWa.f2 15 (by decide) (by decide) (by decide) (by decide) (by decide) (by decide)).trans ((clI_k (by decide) (by decide) (by decide)).trans h.2.2.2.2.2.2.1)) ?_
        refine V_aload_n dX12_readsClause_102 rfl ?_
        refine V_getI dX12_readsClause_103 fX12_243 ⟨Nat.le_of_ble_eq_true rfl, Nat.le_of_ble_eq_true rfl⟩ rfl rfl ?_
        refine V_eqI (y := nI ((allC a ++ g1).length)) hWa.hc ?_
        refine V_iastN (k := a.length) dX12_readsClause_106 ⟨Nat.le_of_ble_eq_true rfl, Nat.le_of_ble_eq_true rfl⟩ rfl (by decide) (by omega) ?_
        refine V_aload_n dX12_readsClause_107 rfl ?_
        have hln := pSum_len (tx := tx) (n := n) 6 (p + 1) (by rw [hr])
        rw [hr] at hln
        have hln2 : p + 1 + g1.length ≤ q1 := hln
        have hW3 : Wd (zwr I2 71 a.length (nI (allC a ++ g1).length)) (zwr I2 71 a.length (nI (allC a ++ g1).length)) n q1 0 [] (allC a ++ g1) := hWa.base (zup_n (by decide)) (zup_n (by decide)) (zup_n (by decide))
        have hx3 : txW (zwr I2 71 a.length (nI (allC a ++ g1).length)) tx n := fun i => by rw [show zwr I2 71 a.length (nI (allC a ++ g1).length) 66 = I2 66 from zup_n (by decide), hWa.f1 66 (by decide) (by decide) (by decide)]; exact hx1 i
        obtain ⟨fc2, q2, g2, hr2⟩ := ex3 (cnT tx n q1 (allC a ++ g1).length)
        have hr3 : cnT tx n q1 (plA a a.length + g1.length) = (fc2, q2, g2) := by rw [← allC_len, ← List.length_append]; exact hr2
        refine V_callV (As := []) (st := []) (a := 62) dX12_readsClause_108 kX12_readsCondition lX12_303 (by decide) rfl rfl (Nat.le_of_ble_eq_true rfl) ⟨Nat.le_of_ble_eq_true rfl, Nat.le_of_ble_eq_true rfl⟩ ⟨Nat.le_of_ble_eq_true rfl, Nat.le_of_ble_eq_true rfl⟩ rfl ⟨rfl, by decide⟩ (w_readsCondition hx3 hW3 (by omega)) ?_
        rintro r sh' I4 _ ⟨rfl, hB1, hB2, rfl⟩
        rw [hr2] at hB1 hB2
        by_cases h00 : fc2 = 0
        · skip
          obtain ⟨rfl, hWb⟩ := hB1 h00
          subst h00
          have hWb : Wd (zwr I2 71 a.length (nI (allC a ++ g1).length)) I4 n q2 0 [] (allC a ++ g1 ++ g2) := hWb
          refine V_if_ne (tgt := 116) dX12_readsClause_111 rfl (fun _ => ?_) (fun h => absurd h (by decide))
          refine V_aload_n dX12_readsClause_116 rfl ?_
          refine V_getR (b := 72) dX12_readsClause_117 fX12_38 ⟨Nat.le_of_ble_eq_true rfl, Nat.le_of_ble_eq_true rfl⟩ rfl rfl rfl ?_
          refine V_aload_n dX12_readsClause_120 rfl ?_
          refine V_getI dX12_readsClause_121 fX12_300 ⟨Nat.le_of_ble_eq_true rfl, Nat.le_of_ble_eq_true rfl⟩ rfl rfl ?_
          refine V_eqI (y := nI a.length) ((hWb.f2 15 (by decide) (by decide) (by decide) (by decide) (by decide) (by decide)).trans ((congrFun (zup_n (by decide)) 15).trans ((hWa.f2 15 (by decide) (by decide) (by decide) (by decide) (by decide) (by decide)).trans ((clI_k (by decide) (by decide) (by decide)).trans h.2.2.2.2.2.2.1)))) ?_
          refine V_aload_n dX12_readsClause_124 rfl ?_
          refine V_getI dX12_readsClause_125 fX12_243 ⟨Nat.le_of_ble_eq_true rfl, Nat.le_of_ble_eq_true rfl⟩ rfl rfl ?_
          refine V_eqI (y := nI ((allC a ++ g1 ++ g2).length)) hWb.hc ?_
          refine V_iastN (k := a.length) dX12_readsClause_128 ⟨Nat.le_of_ble_eq_true rfl, Nat.le_of_ble_eq_true rfl⟩ rfl (by decide) (by omega) ?_
          refine V_aload_n dX12_readsClause_129 rfl ?_
          refine V_aload_n dX12_readsClause_130 rfl ?_
          refine V_getI dX12_readsClause_131 fX12_300 ⟨Nat.le_of_ble_eq_true rfl, Nat.le_of_ble_eq_true rfl⟩ rfl rfl ?_
          refine V_eqI (y := I4 62 15) rfl ?_
          refine V_eqI (y := nI a.length) ((hWb.f2 15 (by decide) (by decide) (by decide) (by decide) (by decide) (by decide)).trans ((congrFun (zup_n (by decide)) 15).trans ((hWa.f2 15 (by decide) (by decide) (by decide) (by decide) (by decide) (by decide)).trans ((clI_k (by decide) (by decide) (by decide)).trans h.2.2.2.2.2.2.1)))) ?_
          refine V_iconst (v := nI 1) dX12_readsClause_134 rfl ?_
          refine V_iaddN dX12_readsClause_135 ?_
          refine V_putW dX12_readsClause_136 fX12_300 ⟨Nat.le_of_ble_eq_true rfl, Nat.le_of_ble_eq_true rfl⟩ rfl rfl rfl ⟨rfl, rfl⟩ ?_
          refine V_iconst (v := nI 1) dX12_readsClause_139 rfl ?_
          exact V_iret ⟨Or.inr ⟨rfl, Or.inr rfl⟩, dX12_readsClause_140⟩ ⟨Nat.le_of_ble_eq_true rfl, Nat.le_of_ble_eq_true rfl⟩ (by have hE := Wt_end h hpn (by omega) hWa rfl hWb; rw [pCls_5 hG (by omega) hr hr3]; exact ⟨rfl, fun _ => ⟨rfl, hE.1⟩, fun e => absurd rfl e, hE.2, rfl⟩)
        · skip
          obtain ⟨rfl, hF⟩ := hB2 h00
          refine V_if_ne (tgt := 116) dX12_readsClause_111 rfl (fun h => absurd h (by decide)) (fun _ => ?_)
          refine V_iconst (v := nI 0) dX12_readsClause_114 rfl ?_
          exact V_iret ⟨Or.inr ⟨rfl, Or.inl rfl⟩, dX12_readsClause_115⟩ ⟨Nat.le_of_ble_eq_true rfl, Nat.le_of_ble_eq_true rfl⟩ (clsQ_no (pCls_4 hG (by omega) hr hr3 h00) h00 hF.2.2 (fT_FF (fT_71 (fT_W hWa)) hF))
      · skip
        obtain ⟨rfl, hF⟩ := hA2 h0
        refine V_if_ne (tgt := 94) dX12_readsClause_89 rfl (fun h => absurd h (by decide)) (fun _ => ?_)
        refine V_iconst (v := nI 0) dX12_readsClause_92 rfl ?_
        exact V_iret ⟨Or.inr ⟨rfl, Or.inl rfl⟩, dX12_readsClause_93⟩ ⟨Nat.le_of_ble_eq_true rfl, Nat.le_of_ble_eq_true rfl⟩ (clsQ_no (pCls_3 hG (by omega) hr h0) h0 hF.2.2 (fT_F hF))
    · skip
      refine V_aload_n dX12_readsClause_32 rfl ?_
      refine V_iconst (v := nI 4) dX12_readsClause_33 rfl ?_
      refine V_aload_n dX12_readsClause_34 rfl ?_
      refine V_getI dX12_readsClause_35 fX12_219 ⟨Nat.le_of_ble_eq_true rfl, Nat.le_of_ble_eq_true rfl⟩ rfl rfl ?_
      refine V_eqI (y := nI p) h.2.2.1 ?_
      refine V_callV (As := [.int (nI 4), .int (nI p)]) (st := []) (a := 62) dX12_readsClause_38 kX12_wrongAt lX12_232 (by decide) rfl rfl (Nat.le_of_ble_eq_true rfl) ⟨Nat.le_of_ble_eq_true rfl, Nat.le_of_ble_eq_true rfl⟩ ⟨Nat.le_of_ble_eq_true rfl, Nat.le_of_ble_eq_true rfl⟩ rfl ⟨rfl, by decide⟩ w_wrongAt ?_
      rintro r sh' _ _ ⟨rfl, rfl, rfl, rfl⟩
      exact V_iret ⟨Or.inr ⟨rfl, Or.inl rfl⟩, dX12_readsClause_41⟩ ⟨Nat.le_of_ble_eq_true rfl, Nat.le_of_ble_eq_true rfl⟩ (clsQ_no (pCls_2 hG (by omega)) (by decide) (zwr_at.trans (if_pos ⟨rfl, rfl⟩)) fT_10)
  · skip
    refine V_aload_n dX12_readsClause_0 rfl ?_
    refine V_callV (As := []) (st := []) (a := 62) dX12_readsClause_1 kX12_here lX12_225 (by decide) rfl rfl (Nat.le_of_ble_eq_true rfl) ⟨Nat.le_of_ble_eq_true rfl, Nat.le_of_ble_eq_true rfl⟩ ⟨Nat.le_of_ble_eq_true rfl, Nat.le_of_ble_eq_true rfl⟩ rfl ⟨rfl, by decide⟩ (w_hereT h hx) ?_
    rintro _ _ _ _ ⟨rfl, rfl, rfl, rfl⟩
    refine V_istore_n (ls' := [(2, .int (nxI (sgn tx n p))), (0, .ref 62), (1, .int (nI t))]) dX12_readsClause_4 (by decide) rfl ?_
    refine V_iload_n dX12_readsClause_5 rfl ?_
    refine V_iload_n dX12_readsClause_6 rfl ?_
    refine V_callS (As := [.int (nxI (sgn tx n p)), .int (nI t)]) (st := []) dX12_readsClause_7 kX12_isClause lX12_297 (by decide) rfl rfl (Nat.le_of_ble_eq_true rfl) ⟨Nat.le_of_ble_eq_true rfl, Nat.le_of_ble_eq_true rfl⟩ (w_isClause (sg_le hx p) ht) ?_
    rintro _ _ _ _ ⟨rfl, rfl, rfl, rfl⟩
    refine V_eqI (y := nI 0) (congrArg nI (if_neg hG)) ?_
    refine V_if_ne (tgt := 23) dX12_readsClause_10 rfl (fun h => absurd h (by decide)) (fun _ => ?_)
    refine V_aload_n dX12_readsClause_13 rfl ?_
    refine V_iconst (v := nI 1) dX12_readsClause_14 rfl ?_
    refine V_aload_n dX12_readsClause_15 rfl ?_
    refine V_getI dX12_readsClause_16 fX12_219 ⟨Nat.le_of_ble_eq_true rfl, Nat.le_of_ble_eq_true rfl⟩ rfl rfl ?_
    refine V_eqI (y := nI p) h.2.2.1 ?_
    refine V_callV (As := [.int (nI 1), .int (nI p)]) (st := []) (a := 62) dX12_readsClause_19 kX12_wrongAt lX12_232 (by decide) rfl rfl (Nat.le_of_ble_eq_true rfl) ⟨Nat.le_of_ble_eq_true rfl, Nat.le_of_ble_eq_true rfl⟩ ⟨Nat.le_of_ble_eq_true rfl, Nat.le_of_ble_eq_true rfl⟩ rfl ⟨rfl, by decide⟩ w_wrongAt ?_
    rintro r sh' _ _ ⟨rfl, rfl, rfl, rfl⟩
    exact V_iret ⟨Or.inr ⟨rfl, Or.inl rfl⟩, dX12_readsClause_22⟩ ⟨Nat.le_of_ble_eq_true rfl, Nat.le_of_ble_eq_true rfl⟩ (clsQ_no (pCls_1 hG) (by decide) (zwr_at.trans (if_pos ⟨rfl, rfl⟩)) fT_10)

