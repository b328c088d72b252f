/-! BOTH: how the class's state and the model's go together -/
abbrev clsT : Type := List (Nat × List (Nat × Nat) × List (Nat × Nat))
abbrev mnT : Type := Nat → ((Nat → Int32) → Option Int32) × ((Nat → Int32) → Option Int32)
def gFX (I : zI) (far x : Nat) : Prop := I 2 0 = nI far ∧ 6 ≤ far ∧ far ≤ 10 ∧ I 2 1 = nI x ∧ x < 65536 ∧ I 62 6 = nI x
def gT (I : zI) (t : Nat) : Prop := I 3 1 = nI t ∧ t ≤ 260 ∧ (∀ j, fits .byte (.int (I 4 j)) = true) ∧ I 62 7 = nI t ∧ I 66 = I 4
def gH (I : zI) : Prop := (∀ j, j < 64 → I 95 j = I 42 j) ∧ (∃ f : Nat → Nat, (∀ j, f j ≤ 9) ∧ ∀ j, j < 64 → I 43 j = nI (f j)) ∧ ∃ f : Nat → Nat, (∀ j, f j ≤ 9) ∧ ∀ j, j < 64 → I 96 j = nI (f j)
def gB (I : zI) : Prop := ∃ s h, bkX I 44 s h ∧ bkM I 91 92 s h ∧ ∀ k, h k ≤ s k
def gF (I : zI) : Prop := ∃ (m : Nat) (sd xs ys : Nat → Nat) (px py : Nat), fdX I m sd xs ys px py ∧ fdM I m sd xs ys px py
def kfX (I : zI) (m : Nat) (sd xs ys : Nat → Nat) (px py : Nat) : Prop := I 58 3 = nI m ∧ m ≤ 12 ∧ (∀ k, k < m → (I 59 k = nI (sd k) ∧ sd k ≤ 1) ∧ (I 60 k = nI (xs k) ∧ xs k ≤ 99) ∧ (I 61 k = nI (ys k) ∧ ys k ≤ 99)) ∧ I 58 4 = nI px ∧ px ≤ 99 ∧ I 58 5 = nI py ∧ py ≤ 99
def kfM (I : zI) (m : Nat) (sd xs ys : Nat → Nat) (px py : Nat) : Prop := I 62 65 = nI m ∧ m ≤ 12 ∧ (∀ k, k < m → (I 102 k = nI (sd k) ∧ sd k ≤ 1) ∧ (I 103 k = nI (xs k) ∧ xs k ≤ 99) ∧ (I 104 k = nI (ys k) ∧ ys k ≤ 99)) ∧ I 62 66 = nI px ∧ px ≤ 99 ∧ I 62 67 = nI py ∧ py ≤ 99
def gK (I : zI) : Prop := (I 2 13 = nI 0 ∧ I 62 62 = nI 0) ∨ (I 2 13 = nI 1 ∧ I 62 62 = nI 1 ∧ (∃ f, 6 ≤ f ∧ f ≤ 10 ∧ I 2 14 = nI f ∧ I 62 63 = nI f) ∧ (∃ x, x < 65536 ∧ I 2 15 = nI x ∧ I 62 64 = nI x) ∧ (∃ s h, bkX I 53 s h ∧ bkM I 100 101 s h ∧ ∀ k, h k ≤ s k) ∧ ∃ (m : Nat) (sd xs ys : Nat → Nat) (px py : Nat), kfX I m sd xs ys px py ∧ kfM I m sd xs ys px py)
def gL (I : zI) : Prop := (I 36 5 = -1 ∧ I 62 46 = -1) ∨ ∃ (n la : Nat) (th sd c0 c1 : Nat → Nat), lgX I n la th sd c0 c1 ∧ lgW I n la th sd c0 c1 ∧ lgS n la sd c0 c1 ∧ lgM n la th sd c0 c1
def gE (far : Nat) (I : zI) (J : zJ) : Prop := ∃ (a : clsT) (M : mnT) (ar : Nat → clsT) (Mr : Nat → mnT), eA (lfM a M) (rlM ar Mr) I J ∧ soR I J a M ar Mr far ∧ I 62 5 = nI far ∧ I 16 2 = nI a.length ∧ ∀ k, k < 4 → I (19 + 2 * k) 2 = nI (ar k).length
/-- all but the solvers -/
def gO (far x t : Nat) (I : zI) : Prop := gFX I far x ∧ gT I t ∧ gH I ∧ gB I ∧ gF I ∧ gK I ∧ gL I
def REL (I : zI) (J : zJ) : Prop := ∃ far x t, gO far x t I ∧ gE far I J
section
variable {I I' : zI} {J J' : zJ} {far x t : Nat}
theorem gFX_c (h : gFX I far x) (e0 : I' 2 0 = I 2 0) (e1 : I' 2 1 = I 2 1) (e6 : I' 62 6 = I 62 6) : gFX I' far x := by
  unfold gFX at *
  rw [e0, e1, e6]
  exact h
theorem gT_c (h : gT I t) (e1 : I' 3 1 = I 3 1) (e4 : I' 4 = I 4) (e7 : I' 62 7 = I 62 7) (e66 : I' 66 = I 66) : gT I' t := by
  unfold gT at *
  rw [e1, e4, e7, e66]
  exact h
theorem gH_c (h : gH I) (e : ∀ a, a = 42 ∨ a = 43 ∨ a = 95 ∨ a = 96 → I' a = I a) : gH I' := by
  unfold gH at *
  rw [e 42 (by omega), e 43 (by omega), e 95 (by omega), e 96 (by omega)]
  exact h
theorem gB_c (h : gB I) (e : ∀ a, a = 44 ∨ a = 45 ∨ a = 46 ∨ a = 91 ∨ a = 92 → I' a = I a) : gB I' := by
  unfold gB bkX bkM at *
  rw [e 44 (by omega), e 91 (by omega), e 92 (by omega), show I' (44 + 1) = I (44 + 1) from e 45 (by omega), show I' (44 + 2) = I (44 + 2) from e 46 (by omega)]
  exact h
theorem gF_c (h : gF I) (e : ∀ a, 49 ≤ a ∧ a ≤ 52 ∨ 97 ≤ a ∧ a ≤ 99 → I' a = I a) (e62 : ∀ k, 56 ≤ k ∧ k ≤ 58 → I' 62 k = I 62 k) : gF I' := by
  unfold gF fdX fdM at *
  rw [e 49 (by omega), e 50 (by omega), e 51 (by omega), e 52 (by omega), e 97 (by omega), e 98 (by omega), e 99 (by omega), e62 56 (by omega), e62 57 (by omega), e62 58 (by omega)]
  exact h
theorem gK_c (h : gK I) (e : ∀ a, 53 ≤ a ∧ a ≤ 61 ∨ 100 ≤ a ∧ a ≤ 104 → I' a = I a) (e2 : ∀ k, 13 ≤ k ∧ k ≤ 15 → I' 2 k = I 2 k) (e62 : ∀ k, 62 ≤ k ∧ k ≤ 67 → I' 62 k = I 62 k) : gK I' := by
  unfold gK kfX kfM bkX bkM at *
  rw [e2 13 (by omega), e2 14 (by omega), e2 15 (by omega), e62 62 (by omega), e62 63 (by omega), e62 64 (by omega), e62 65 (by omega), e62 66 (by omega), e62 67 (by omega), e 53 (by omega), e 58 (by omega), e 59 (by omega), e 60 (by omega), e 61 (by omega), e 100 (by omega), e 101 (by omega), e 102 (by omega), e 103 (by omega), e 104 (by omega), show I' (53 + 1) = I (53 + 1) from e 54 (by omega), show I' (53 + 2) = I (53 + 2) from e 55 (by omega)]
  exact h
theorem gL_c (h : gL I) (e : ∀ a, 36 ≤ a ∧ a ≤ 40 ∨ a = 89 ∨ a = 90 → I' a = I a) (e46 : I' 62 46 = I 62 46) : gL I' := by
  unfold gL lgX lgW at *
  rw [e 36 (by omega), e 37 (by omega), e 38 (by omega), e 39 (by omega), e 40 (by omega), e 89 (by omega), e 90 (by omega), e46]
  exact h
theorem gO_c (h : gO far x t I) (e : ∀ a, a = 4 ∨ 36 ≤ a ∧ a ≤ 40 ∨ 42 ≤ a ∧ a ≤ 46 ∨ 49 ≤ a ∧ a ≤ 61 ∨ a = 66 ∨ 89 ≤ a ∧ a ≤ 92 ∨ 95 ≤ a ∧ a ≤ 104 → I' a = I a) (e2 : ∀ k, I' 2 k = I 2 k) (e3 : I' 3 1 = I 3 1) (e62 : ∀ k, k = 6 ∨ k = 7 ∨ k = 46 ∨ 56 ≤ k → I' 62 k = I 62 k) : gO far x t I' := by
  obtain ⟨h1, h2, h3, h4, h5, h6, h7⟩ := h
  exact ⟨gFX_c h1 (e2 0) (e2 1) (e62 6 (by omega)), gT_c h2 e3 (e 4 (by omega)) (e62 7 (by omega)) (e 66 (by omega)), gH_c h3 (fun a ha => e a (by omega)), gB_c h4 (fun a ha => e a (by omega)), gF_c h5 (fun a ha => e a (by omega)) (fun k hk => e62 k (by omega)), gK_c h6 (fun a ha => e a (by omega)) (fun k _ => e2 k) (fun k hk => e62 k (by omega)), gL_c h7 (fun a ha => e a (by omega)) (e62 46 (by omega))⟩
theorem soR_c {a : clsT} {M : mnT} {ar : Nat → clsT} {Mr : Nat → mnT} (h : soR I J a M ar Mr far) (e : ∀ b, 63 ≤ b ∧ b ≤ 65 ∨ 73 ≤ b ∧ b ≤ 78 ∨ b = 82 ∨ b = 85 → I' b = I b) (e62 : ∀ k, k = 4 ∨ 32 ≤ k ∧ k ≤ 42 → I' 62 k = I 62 k) (j : J' 83 = J 83) : soR I' J' a M ar Mr far := by
  have e2 : ∀ k, 73 ≤ k → k ≤ 78 → I' k = I k := fun k h1 h2 => e k (by omega)
  exact ⟨⟨mT_c h.1.1 (e 63 (by omega)) (e 64 (by omega)) (e 65 (by omega)), mpI_c h.1.2.1 e2, fun k hk => ⟨mpI_c (h.1.2.2.1 k hk).1 e2, (h.1.2.2.1 k hk).2⟩, chA_c h.1.2.2.2 (e62 32 (by omega)) (e 82 (by omega))⟩, (e62 4 (by omega)).trans h.2.1, soK_c h.2.2 (fun k hk => e62 k (by omega)) (e 85 (by omega)) j⟩
theorem gE_c (h : gE far I J) (e : ∀ a, 9 ≤ a ∧ a ≤ 30 ∨ 63 ≤ a ∧ a ≤ 65 ∨ 73 ≤ a ∧ a ≤ 78 ∨ a = 82 ∨ a = 85 → I' a = I a) (e62 : ∀ k, k = 4 ∨ k = 5 ∨ 32 ≤ k ∧ k ≤ 42 → I' 62 k = I 62 k) (j : ∀ b, b = 31 ∨ b = 32 ∨ b = 33 ∨ b = 83 → J' b = J b) : gE far I' J' := by
  obtain ⟨a, M, ar, Mr, h1, h2, h3, h4, h5⟩ := h
  exact ⟨a, M, ar, Mr, eA_c h1 (fun a h1 h2 => e a (by omega)) (j 31 (by omega)) (j 32 (by omega)) (j 33 (by omega)), soR_c h2 (fun b hb => e b (by omega)) (fun k hk => e62 k (by omega)) (j 83 (by omega)), (e62 5 (by omega)).trans h3, (congrFun (e 16 (by omega)) 2).trans h4, fun k hk => (congrFun (e (19 + 2 * k) (by omega)) 2).trans (h5 k hk)⟩
end
/-- the class's method and the model's, one behind the other, answer alike -/
def kV (b : Bool) (r : Value) : Prop := match b with
  | false => ∃ x, r = .int x
  | true => ∃ x, r = .long x
theorem kvI {x : Int32} : kV false (.int x) := ⟨x, rfl⟩
theorem kvL {x : Int64} : kV true (.long x) := ⟨x, rfl⟩
def twin (G : zG) (b : Bool) (c w : zM) (as : List Value) : Prop := ∀ I J, REL I J → ∃ (r : Value) (P : zI → zJ → Prop) (d1 : Nat), d1 ≤ 40 ∧ kV b r ∧ zK G c d1 (.ref 2 :: as) zsh I J (zP (fun v I' J' => v = some r ∧ P I' J')) ∧ ∀ I1 J1, P I1 J1 → ∃ d2, d2 ≤ 40 ∧ zK G w d2 (.ref 62 :: as) zsh I1 J1 (zP (fun v I' J' => v = some r ∧ REL I' J'))
/-- where nothing changes -/
theorem twO {G : zG} {b : Bool} {c w : zM} {d1 d2 : Nat} {as : List Value} {I : zI} {J : zJ} {r : Value} (hR : REL I J) (hc : zK G c d1 (.ref 2 :: as) zsh I J (zA0 r I J)) (hw : zK G w d2 (.ref 62 :: as) zsh I J (zA0 r I J)) (h1 : d1 ≤ 40 := by decide) (h2 : d2 ≤ 40 := by decide) (h3 : kV b r := by first | exact kvI | exact kvL) : ∃ (r : Value) (P : zI → zJ → Prop) (d1 : Nat), d1 ≤ 40 ∧ kV b r ∧ zK G c d1 (.ref 2 :: as) zsh I J (zP (fun v I' J' => v = some r ∧ P I' J')) ∧ ∀ I1 J1, P I1 J1 → ∃ d2, d2 ≤ 40 ∧ zK G w d2 (.ref 62 :: as) zsh I1 J1 (zP (fun v I' J' => v = some r ∧ REL I' J')) := by
  refine ⟨r, fun I' J' => I = I' ∧ J = J', d1, h1, h3, hc, ?_⟩
  rintro _ _ ⟨rfl, rfl⟩
  refine ⟨d2, h2, zK_imp hw ?_⟩
  rintro _ _ _ _ ⟨rfl, rfl, rfl, rfl⟩
  exact ⟨rfl, rfl, hR⟩
theorem zw_o {I : zI} {a k b : Nat} {x : Int32} (h : b ≠ a) : zwr I a k x b = I b := zup_n h
theorem zup_at {α : Type} {I : Nat → Nat → α} {a b j : Nat} {f : Nat → α} : zup I a f b j = if b = a then f j else I b j := by
  by_cases h : b = a
  · subst h; rw [zup_s, if_pos rfl]
  · rw [zup_n h, if_neg h]
section
variable {I : zI} {J : zJ} {far : Nat}
theorem gE_T (h : gE far I J) : tabX I := by
  obtain ⟨_, _, _, _, h1, _⟩ := h
  exact eA_T h1
theorem gE_M (h : gE far I J) : mT I := by
  obtain ⟨_, _, _, _, _, h1, _⟩ := h
  exact h1.1.1
theorem gE_cC (h : gE far I J) : ∃ c0 cc, cC I c0 cc ∧ cM I c0 cc := by
  obtain ⟨a, M, ar, Mr, h1, h2, h3, h4, h5⟩ := h
  exact ⟨a.length, fun k => (ar k).length, ⟨h4, h2.1.2.1.2.1, fun k hk => ⟨h5 k hk, (h2.1.2.2.1 k hk).1.2.1⟩⟩, ⟨h2.1.2.1.2.2.2.1, h2.1.2.1.2.1, fun k hk => ⟨(h2.1.2.2.1 k hk).1.2.2.2.1, (h2.1.2.2.1 k hk).1.2.1⟩⟩⟩
end
/-- heights: as far as both are looked at -/
theorem rst_lt {way x y a b : Nat} (hx : x < 8) (hy : y < 8) (h : rst way x y = some (a, b)) : a < 8 ∧ b < 8 := by
  unfold rst at h
  repeat' split at h
  all_goals first
    | (have e := Option.some.inj h; injection e with e1 e2; omega)
    | exact absurd h (by simp)
theorem rolS_c {f g : Nat → Int32} (h : ∀ j, j < 64 → f j = g j) {way : Nat} : ∀ n x y l, x < 8 → y < 8 → rolS f way n x y l = rolS g way n x y l := by
  intro n
  induction n with
  | zero => intros; rfl
  | succ n ih =>
    intro x y l hx hy
    by_cases hl : l ≤ 0
    · rw [rolS_0 hl, rolS_0 hl]
    · rcases hr : rst way x y with _ | ⟨a, b⟩
      · rw [rolS_n hl hr, rolS_n hl hr]
      · have hab := rst_lt hx hy hr
        rw [rolS_s hl hr, rolS_s hl hr, h (8 * y + x) (by omega), h (8 * b + a) (by omega), ih a b _ hab.1 hab.2]
theorem rolR_c {f g : Nat → Int32} (h : ∀ j, j < 64 → f j = g j) {way x y p w : Nat} (hx : x < 8) (hy : y < 8) : rolR f way x y p w = rolR g way x y p w := by
  unfold rolR
  rw [rolS_c h 8 x y (nI p) hx hy]
theorem layS_c {f g : Nat → Int32} (h : ∀ j, j < 64 → f j = g j) {x y : Nat} : ∀ c, layS f x y c = layS g x y c := by
  intro c
  induction c with
  | zero => rfl
  | succ c ih =>
    unfold layS
    rw [rolS_c h 8 0 (c % 8) _ (by decide) (Nat.mod_lt _ (by decide)), ih]
theorem chkL_c {u f g : Nat → Int32} (h : ∀ j, j < 64 → f j = g j) : ∀ n i, i + n ≤ 8 → chkL u f n i = chkL u g n i := by
  intro n
  induction n with
  | zero => intros; rfl
  | succ n ih =>
    intro i hi
    unfold chkL
    rw [h i (by omega), ih (i + 1) (by omega)]
theorem cntS_c {f g : Nat → Int32} (h : ∀ j, j < 64 → f j = g j) {far c0 t x m px py : Nat} {cc sd xs ys : Nat → Nat} (k : Nat) : cntS far c0 t x cc m sd xs ys px py f k = cntS far c0 t x cc m sd xs ys px py g k := by
  unfold cntS cntM
  by_cases hk : 100 ≤ k ∧ k < 164
  · rw [h (k - 100) (by omega)]
  · rw [if_neg hk, if_neg hk]
