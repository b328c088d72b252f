/-! THE CLASS: the answers of ends -/
theorem zK_imp {G : zG} {M : zM} {d : Nat} {as : List Value} {sh : zS} {I : zI} {J : zJ} {Q Q' : zQ} (h : zK G M d as sh I J Q) (hq : ∀ r sh I J, Q r sh I J → Q' r sh I J) : zK G M d as sh I J Q' := by
  intro p e ha hc hk s m args below hf happ hP hK
  obtain ⟨n, o, h1, h2, h3, h4⟩ := h p e ha hc hk s m args below hf happ hP hK
  obtain ⟨⟨⟨r, sh1, I1, J1, ho, hQ, hR⟩, hF⟩, hL⟩ := h4
  exact ⟨n, o, h1, h2, h3, ⟨⟨⟨r, sh1, I1, J1, ho, hq _ _ _ _ hQ, hR⟩, hF⟩, hL⟩⟩
/-- the best throw -/
def btV (Lf : Nat → (Nat → Int32) → Int32) (far : Nat) : Nat → Nat → Nat → Nat := fun p q l => if (sV 1 (-1) (-1) (fun _ _ _ => 0) (fun _ _ _ => 0) Lf far (hnd p q) p q l).2 = true then 2 else 1
theorem btV_K {Lf : Nat → (Nat → Int32) → Int32} {Rl : Nat → Nat → (Nat → Int32) → Int32} {far : Nat} : btK Lf Rl far (btV Lf far) := fun p q l => by unfold btV; rw [sV_nn]
/-- what a state is worth by an aim, and whether by a shot -/
def vX (kd one two : Int32) (Rl : Nat → Nat → (Nat → Int32) → Int32) (Lf : Nat → (Nat → Int32) → Int32) (far p q l : Nat) : Int64 × Bool := sV kd one two Rl (btV Lf far) Lf far (hnd p q) p q l
theorem sV_3 {one two : Int32} {Rl Rl2 : Nat → Nat → (Nat → Int32) → Int32} {bt : Nat → Nat → Nat → Nat} {Lf : Nat → (Nat → Int32) → Int32} {far : Nat} : ∀ h p q l, sV 3 one two Rl bt Lf far h p q l = sV 3 one two Rl2 bt Lf far h p q l
  | 0, _, _, _ => rfl
  | h + 1, p, q, l => by
    have ih := fun a b c => sV_3 (one := one) (two := two) (Rl := Rl) (Rl2 := Rl2) (bt := bt) (Lf := Lf) (far := far) h a b c
    have e : (fun a b l => (sV 3 one two Rl bt Lf far h a b l).1) = (fun a b l => (sV 3 one two Rl2 bt Lf far h a b l).1) := by funext a b c; rw [ih]
    have e2 : sTold 3 one two Rl bt far p q l = sTold 3 one two Rl2 bt far p q l := by
      unfold sTold
      rw [if_pos rfl, if_pos rfl]
    simp only [sV]
    rw [e, e2]
def frE (I I' : zI) : Prop := ∀ a, a ≠ 9 → a ≠ 27 → a ≠ 28 → a ≠ 29 → a ≠ 30 → I' a = I a
/-- the ends' own alone is changed -/
def Fr2 (I : zI) (J : zJ) (I' : zI) (J' : zJ) : Prop := frE I I' ∧ ∀ a, a ≠ 31 → a ≠ 32 → a ≠ 33 → J' a = J a
theorem Fr2_r {I : zI} {J : zJ} : Fr2 I J I J := ⟨fun _ _ _ _ _ _ => rfl, fun _ _ _ _ => rfl⟩
theorem Fr2_t {A B C : zI} {X Y Z : zJ} (h : Fr2 A X B Y) (h2 : Fr2 B Y C Z) : Fr2 A X C Z := ⟨fun a b c d e f => (h2.1 a b c d e f).trans (h.1 a b c d e f), fun a b c d => (h2.2 a b c d).trans (h.2 a b c d)⟩
def clos (I : zI) (Lf : Nat → (Nat → Int32) → Int32) (far : Nat) : Prop := ∀ p q l, sOk p q l → bk I Lf far (btV Lf far) p q l → clo I Lf far (btV Lf far) p q l (btV Lf far p q l)
/-- how far it is known; what is kept of worths goes by the aim, if there is one -/
def eM (Lf : Nat → (Nat → Int32) → Int32) (Rl : Nat → Nat → (Nat → Int32) → Int32) (far : Nat) (I : zI) (J : zJ) : Prop := endI I Lf Rl far (btV Lf far) ∧ clos I Lf far ∧ (I 9 6 ≠ 0 → eOK Lf Rl far (btV Lf far) (I 9 6) (I 9 7) (I 9 8) I J)
theorem eM_of {Lf : Nat → (Nat → Int32) → Int32} {Rl : Nat → Nat → (Nat → Int32) → Int32} {far : Nat} {kd one two : Int32} {I : zI} {J : zJ} (h : eOK Lf Rl far (btV Lf far) kd one two I J) : eM Lf Rl far I J := by
  refine ⟨h.1, h.2.2.2.2, fun _ => ?_⟩
  rw [h.2.1.1, h.2.1.2.1, h.2.1.2.2]
  exact h
theorem eM_stand {Lf : Nat → (Nat → Int32) → Int32} {Rl : Nat → Nat → (Nat → Int32) → Int32} {far : Nat} {I : zI} {J : zJ} (h : eM Lf Rl far I J) {n : Nat} (hf : far < 2 ^ 31) (hn : n < 2 ^ 31) : eM Lf Rl n (eStand I (nI n)) J := by
  unfold eStand
  split
  · rename_i e
    rw [h.1.2.2.2.1, nI_eq hn hf] at e
    subst e
    exact h
  · obtain ⟨⟨h1, h2, h3, h4, h5⟩, h6, h7⟩ := h
    have h0 : ∀ p q l, sOk p q l → zwr (zup (zwr I 9 4 (nI n)) 30 (zflI (nI 0) (I 30) 3822)) 9 6 (nI 0) 30 (sSpot p q l) = nI 0 := fun p q l hs => by
      rw [zwr_at, if_neg (fun h => absurd h.1 (by decide)), zup_s]
      unfold zflI
      rw [if_pos (sSpot_lt hs.1 hs.2.1 hs.2.2.1 hs.2.2.2)]
    have hb : ∀ p q l, sOk p q l → ¬ bk (zwr (zup (zwr I 9 4 (nI n)) 30 (zflI (nI 0) (I 30) 3822)) 9 6 (nI 0)) Lf n (btV Lf n) p q l := fun p q l hs hk => by
      unfold bk at hk
      rw [h0 p q l hs] at hk
      have hb12 := btK_12 (btV_K (Rl := Rl) (Lf := Lf) (far := n)) p q l
      exact tEnc_ne (by omega) hk.symm
    refine ⟨⟨tabX_c h1 ⟨rfl, rfl, rfl, rfl, rfl⟩, progI_c h2 rfl rfl, fun k hk => ?_, ?_, fun p q l hs => Or.inl (h0 p q l hs)⟩, fun p q l hs hk => absurd hk (hb p q l hs), fun h => absurd ?_ h⟩
    · refine progI_c (h3 k hk) ?_ ?_
      · rw [show zwr (zup (zwr I 9 4 (nI n)) 30 (zflI (nI 0) (I 30) 3822)) 9 6 (nI 0) (19 + 2 * k) = I (19 + 2 * k) from (zup_n (by omega)).trans ((zup_n (by omega)).trans (zup_n (by omega)))]
      · rw [show zwr (zup (zwr I 9 4 (nI n)) 30 (zflI (nI 0) (I 30) 3822)) 9 6 (nI 0) (19 + 2 * k + 1) = I (19 + 2 * k + 1) from (zup_n (by omega)).trans ((zup_n (by omega)).trans (zup_n (by omega)))]
    · rfl
    · rfl
theorem eStand_f {I : zI} {J : zJ} {n : Int32} : Fr2 I J (eStand I n) J ∧ eStand I n 9 12 = I 9 12 := by
  unfold eStand
  split
  · exact ⟨Fr2_r, rfl⟩
  · exact ⟨⟨fun a h1 _ _ _ h5 => (zup_n h1).trans ((zup_n h5).trans (zup_n h1)), fun _ _ _ _ => rfl⟩, rfl⟩
theorem eAim_f {I : zI} {J : zJ} {kd one two : Int32} : Fr2 I J (eAim I kd one two) (eAimJ I J kd one two) ∧ eAim I kd one two 9 12 = I 9 12 ∧ (∀ a, a ≠ 31 → eAimJ I J kd one two a = J a) ∧ (∀ a, a ≠ 9 → eAim I kd one two a = I a) ∧ eAim I kd one two 9 4 = I 9 4 ∧ eAim I kd one two 9 6 = kd ∧ eAim I kd one two 9 7 = one ∧ eAim I kd one two 9 8 = two := by
  unfold eAim eAimJ
  split
  · rename_i h
    exact ⟨Fr2_r, rfl, fun _ _ => rfl, fun _ _ => rfl, rfl, h.1, h.2.1, h.2.2⟩
  · have h9 : ∀ a, a ≠ 9 → zwr (zwr (zwr I 9 6 kd) 9 7 one) 9 8 two a = I a := fun a h => (zup_n h).trans ((zup_n h).trans (zup_n h))
    exact ⟨⟨fun a h _ _ _ _ => h9 a h, fun a h _ _ => zup_n h⟩, rfl, fun a h => zup_n h, h9, rfl, rfl, rfl, rfl⟩
theorem eM_aim {Lf : Nat → (Nat → Int32) → Int32} {Rl : Nat → Nat → (Nat → Int32) → Int32} {far : Nat} {kd one two : Int32} {I : zI} {J : zJ} (h : eM Lf Rl far I J) (hk : kd ≠ 0) : eOK Lf Rl far (btV Lf far) kd one two (eAim I kd one two) (eAimJ I J kd one two) := by
  by_cases e : I 9 6 = kd ∧ I 9 7 = one ∧ I 9 8 = two
  · have h2 := h.2.2 (by rw [e.1]; exact hk)
    unfold eAim eAimJ
    rw [if_pos e, if_pos e]
    rw [e.1, e.2.1, e.2.2] at h2
    exact h2
  · obtain ⟨-, -, -, h9, g4, g6, g7, g8⟩ := eAim_f (I := I) (J := J) (kd := kd) (one := one) (two := two)
    obtain ⟨⟨h1, h2, h3, h4, h5⟩, h6, h7⟩ := h
    have e30 := h9 30 (by decide)
    have hJ : ∀ j, j < 3822 → eAimJ I J kd one two 31 j = -4000000000000000000 := fun j hj => by
      unfold eAimJ
      rw [if_neg e, zup_s]
      exact if_pos hj
    refine ⟨⟨tabX_c h1 ⟨h9 _ (by decide), h9 _ (by decide), h9 _ (by decide), h9 _ (by decide), h9 _ (by decide)⟩, progI_c h2 (h9 _ (by decide)) (h9 _ (by decide)), fun k hk => progI_c (h3 k hk) (h9 _ (by omega)) (h9 _ (by omega)), by rw [g4]; exact h4, fun p q l hs => by rw [e30]; exact h5 p q l hs⟩, ⟨g6, g7, g8⟩, fun p q l hs => Or.inl (hJ _ (sSpot_lt hs.1 hs.2.1 hs.2.2.1 hs.2.2.2)), fun _ p q l hs hj => absurd (hJ _ (sSpot_lt hs.1 hs.2.1 hs.2.2.1 hs.2.2.2)) hj, fun p q l hs hk => ?_⟩
    intro part a b c hs2
    unfold bk at *
    rw [e30] at *
    exact h6 p q l hs hk part a b c hs2
theorem hnd_6 {p q : Nat} (hp : p < 56) (hq : q < 56) : hnd p q ≤ 6 := by
  have h1 := tHand_le hp
  have h2 := tHand_le hq
  unfold hnd
  omega
theorem c_settleX {G : zG} {I : zI} {J : zJ} {Lf : Nat → (Nat → Int32) → Int32} {Rl : Nat → Nat → (Nat → Int32) → Int32} {far : Nat} {kd one two : Int32} {p q last : Nat} (hp : p < 56) (hq : q < 56) (hl : last ≤ 1) (hE : eOK Lf Rl far (btV Lf far) kd one two I J) (h3 : kd = 3 → nbk I Lf far (btV Lf far) p q last) : zK G mX3_settle (4 + 2 * hnd p q) [.ref 9, .int (nI p), .int (nI q), .int (nI last), .int (nI 0)] zsh I J (zP (fun r I' J' => r = some (.long (eW (vX kd one two Rl Lf far p q last))) ∧ sPo Lf Rl far (btV Lf far) kd one two I J I' J' ∧ (nn kd one two → nbk I' Lf far (btV Lf far) p q last))) :=
  c_settle btV_K (hnd p q) G I J p q last 0 hp hq hl rfl (by have := hnd_6 hp hq; omega) hE h3
theorem vX_b {kd one two : Int32} {Rl : Nat → Nat → (Nat → Int32) → Int32} {Lf : Nat → (Nat → Int32) → Int32} {far p q l : Nat} (hp : p < 56) (hq : q < 56) : -(10 ^ 17) ≤ (vX kd one two Rl Lf far p q l).1.toInt ∧ (vX kd one two Rl Lf far p q l).1.toInt ≤ 10 ^ 17 := sV_b (hnd_6 hp hq)
/-- the worth at a begin for one that plays first -/
def vB (Lf : Nat → (Nat → Int32) → Int32) (n f : Nat) : Int64 := (vX 1 (-1) (-1) (fun _ _ _ => 0) Lf n 55 55 (1 - f)).1
/-- how likely a count is at a begin -/
def vC (Lf : Nat → (Nat → Int32) → Int32) (n last k : Nat) : Int64 := (vX 3 (nI k - nI 3) 0 (fun _ _ _ => 0) Lf n 55 55 last).1
def eB1 (Lf : Nat → (Nat → Int32) → Int32) (J : zJ) : Prop := ∀ n f, 6 ≤ n → n ≤ 10 → f ≤ 1 → J 32 (2 * (n - 6) + f) = -4000000000000000000 ∨ J 32 (2 * (n - 6) + f) = vB Lf n f
def eB2 (Lf : Nat → (Nat → Int32) → Int32) (I : zI) (J : zJ) : Prop := I 9 12 = -1 ∨ ∃ n, 6 ≤ n ∧ n ≤ 10 ∧ I 9 12 = nI n ∧ ∀ k, k < 7 → J 33 k = vC Lf n 1 k ∧ J 33 (7 + k) = vC Lf n 0 k
def eKA (Lf : Nat → (Nat → Int32) → Int32) (Rl : Nat → Nat → (Nat → Int32) → Int32) (far : Nat) (kd one two : Int32) (I : zI) (J : zJ) : Prop := eOK Lf Rl far (btV Lf far) kd one two I J ∧ eB1 Lf J ∧ eB2 Lf I J
def eAf (Lf : Nat → (Nat → Int32) → Int32) (Rl : Nat → Nat → (Nat → Int32) → Int32) (far : Nat) (I : zI) (J : zJ) : Prop := eM Lf Rl far I J ∧ eB1 Lf J ∧ eB2 Lf I J
def eA (Lf : Nat → (Nat → Int32) → Int32) (Rl : Nat → Nat → (Nat → Int32) → Int32) (I : zI) (J : zJ) : Prop := ∃ far, far ≤ 10 ∧ eAf Lf Rl far I J
theorem eB_c {Lf : Nat → (Nat → Int32) → Int32} {I I' : zI} {J J' : zJ} (h : eB1 Lf J ∧ eB2 Lf I J) (e : I' 9 12 = I 9 12) (e2 : J' 32 = J 32) (e3 : J' 33 = J 33) : eB1 Lf J' ∧ eB2 Lf I' J' := by
  unfold eB1 eB2
  rw [e, e2, e3]
  exact h
theorem eKA_f {Lf : Nat → (Nat → Int32) → Int32} {Rl : Nat → Nat → (Nat → Int32) → Int32} {far : Nat} {kd one two : Int32} {I : zI} {J : zJ} (h : eKA Lf Rl far kd one two I J) : eAf Lf Rl far I J := ⟨eM_of h.1, h.2⟩
theorem eKA_s {Lf : Nat → (Nat → Int32) → Int32} {Rl : Nat → Nat → (Nat → Int32) → Int32} {far : Nat} {kd one two : Int32} {I I' : zI} {J J' : zJ} (h : eKA Lf Rl far kd one two I J) (h2 : sPo Lf Rl far (btV Lf far) kd one two I J I' J') : eKA Lf Rl far kd one two I' J' ∧ Fr2 I J I' J' :=
  ⟨⟨h2.2.1, eB_c h.2 (by rw [h2.1 9 (by decide) (by decide) (by decide) (by decide)]) (h2.2.2.2.2 32 (by decide)) (h2.2.2.2.2 33 (by decide))⟩, fun a _ b c d e => h2.1 a b c d e, fun a b _ _ => h2.2.2.2.2 a b⟩
theorem c_standA {G : zG} {I : zI} {J : zJ} {Lf : Nat → (Nat → Int32) → Int32} {Rl : Nat → Nat → (Nat → Int32) → Int32} {n : Nat} (hn : n ≤ 10) (hE : eA Lf Rl I J) : zK G mX3_standAt 1 [.ref 9, .int (nI n)] zsh I J (zA2 (fun I' J' => eAf Lf Rl n I' J' ∧ Fr2 I J I' J' ∧ J' = J)) := by
  obtain ⟨far, hf, h1, h2⟩ := hE
  refine zK_imp c_standAt ?_
  rintro r sh' I' J' ⟨rfl, rfl, rfl, rfl⟩
  exact ⟨rfl, rfl, ⟨eM_stand h1 (by omega) (by omega), eB_c h2 (eStand_f (J := J)).2 rfl rfl⟩, eStand_f.1, rfl⟩
theorem eA_aim {Lf : Nat → (Nat → Int32) → Int32} {Rl : Nat → Nat → (Nat → Int32) → Int32} {far : Nat} {kd one two : Int32} {I : zI} {J : zJ} (h : eAf Lf Rl far I J) (hk : kd ≠ 0) : eKA Lf Rl far kd one two (eAim I kd one two) (eAimJ I J kd one two) ∧ Fr2 I J (eAim I kd one two) (eAimJ I J kd one two) :=
  ⟨⟨eM_aim h.1 hk, eB_c h.2 (eAim_f (J := J)).2.1 ((eAim_f (J := J)).2.2.1 32 (by decide)) ((eAim_f (J := J)).2.2.1 33 (by decide))⟩, eAim_f.1⟩
theorem c_aimA {G : zG} {I : zI} {J : zJ} {Lf : Nat → (Nat → Int32) → Int32} {Rl : Nat → Nat → (Nat → Int32) → Int32} {far : Nat} {j k : Int32} (hE : eAf Lf Rl far I J) : zK G mX3_aimBy 2 [.ref 9, .int j, .int k] zsh I J (zA2 (fun I' J' => eKA Lf Rl far 1 j k I' J' ∧ Fr2 I J I' J')) := by
  refine zK_imp c_aimBy ?_
  rintro r sh' I' J' ⟨rfl, rfl, rfl, rfl⟩
  exact ⟨rfl, rfl, eA_aim hE (by decide)⟩
theorem c_aimL {G : zG} {I : zI} {J : zJ} {Lf : Nat → (Nat → Int32) → Int32} {Rl : Nat → Nat → (Nat → Int32) → Int32} {far : Nat} {k : Int32} (hE : eAf Lf Rl far I J) : zK G mX3_aimAtLeast 2 [.ref 9, .int k] zsh I J (zA2 (fun I' J' => eKA Lf Rl far 2 k 0 I' J' ∧ Fr2 I J I' J')) := by
  refine zK_imp c_aimAtLeast ?_
  rintro r sh' I' J' ⟨rfl, rfl, rfl, rfl⟩
  exact ⟨rfl, rfl, eA_aim hE (by decide)⟩
theorem c_aimE {G : zG} {I : zI} {J : zJ} {Lf : Nat → (Nat → Int32) → Int32} {Rl : Nat → Nat → (Nat → Int32) → Int32} {far : Nat} {k : Int32} (hE : eAf Lf Rl far I J) : zK G mX3_takeAim 1 [.ref 9, .int (nI 3), .int k, .int (nI 0)] zsh I J (zA2 (fun I' J' => eKA Lf Rl far 3 k 0 I' J' ∧ Fr2 I J I' J' ∧ I' 30 = I 30)) := by
  refine zK_imp c_takeAim ?_
  rintro r sh' I' J' ⟨rfl, rfl, rfl, rfl⟩
  exact ⟨rfl, rfl, (eA_aim hE (by decide)).1, (eA_aim (kd := 3) (one := k) (two := 0) hE (by decide)).2, (eAim_f (J := J)).2.2.2.1 30 (by decide)⟩
theorem eAf_o {Lf : Nat → (Nat → Int32) → Int32} {Rl : Nat → Nat → (Nat → Int32) → Int32} {far : Nat} {I I' : zI} {J : zJ} (h : eAf Lf Rl far I J) (e : offT I I') (hN : tenOK I' Lf far (btV Lf far)) (hle : tenLe I I' Lf far) (hkn : tenKn I I') : eAf Lf Rl far I' J ∧ Fr2 I J I' J := by
  have e9 := e 9 (by decide) (by decide) (by decide) (by decide)
  obtain ⟨⟨h1, h2, h3⟩, h4⟩ := h
  have hb : ∀ p q l, sOk p q l → (bk I' Lf far (btV Lf far) p q l ↔ bk I Lf far (btV Lf far) p q l) := fun p q l hs => by
    have hb12 := btK_12 (btV_K (Rl := Rl) (Lf := Lf) (far := far)) p q l
    exact hle p q l (btV Lf far p q l) hs (by omega) (by omega)
  refine ⟨⟨⟨endI_o h1 e hN, fun p q l hs hk part a b c hs2 => (hb _ _ _ hs2).mpr (h2 p q l hs ((hb p q l hs).mp hk) part a b c hs2), fun h => ?_⟩, eB_c h4 (by rw [e9]) rfl rfl⟩, fun a _ b c d f => e a b c d f, fun _ _ _ _ => rfl⟩
  rw [e9] at h ⊢
  exact (sPo_o btV_K (h3 h) e hN hle hkn).2.1
/-- what is thrown at a state by an aim: none, pointing, shooting -/
def thrX (kd one two : Int32) (Rl : Nat → Nat → (Nat → Int32) → Int32) (Lf : Nat → (Nat → Int32) → Int32) (far p q l : Nat) : Int32 := if sWho p q l = 2 then -1 else if (vX kd one two Rl Lf far p q l).2 = true then nI 2 else nI 1
theorem sWho_ok {p q last : Nat} (hp : p < 56) (hq : q < 56) (hl : last ≤ 1) (h : ¬ sWho p q last = 2) : sOk p q last := by
  refine ⟨hp, hq, hl, ?_⟩
  by_cases h1 : 35 ≤ p
  · exact Or.inl h1
  · refine Or.inr (Nat.le_of_not_lt fun h2 => h ((sWho_2 hp hq).mpr ⟨by omega, h2⟩))
set_option maxRecDepth 100000 in
set_option maxHeartbeats 4000000 in
theorem c_throwAt {G : zG} {I : zI} {J : zJ} {Lf : Nat → (Nat → Int32) → Int32} {Rl : Nat → Nat → (Nat → Int32) → Int32} {far : Nat} {kd one two : Int32} {p q last : Nat} (hp : p < 56) (hq : q < 56) (hl : last ≤ 1) (hE : eKA Lf Rl far kd one two I J) (h3 : kd ≠ 3) : zK G mX3_throwAt 17 [.ref 9, .int (nI p), .int (nI q), .int (nI last)] zsh I J (zP (fun r I' J' => r = some (.int (thrX kd one two Rl Lf far p q last)) ∧ eKA Lf Rl far kd one two I' J' ∧ Fr2 I J I' J')) := by
  refine zK_of kX3_throwAt.2.2.2.2.1 (Nat.le_of_ble_eq_true rfl) ?_
  show V G mX3_throwAt 17 _ 0 [(0, .ref 9), (1, .int (nI p)), (2, .int (nI q)), (3, .int (nI last))] [] (0, 0) zsh I J
  have hT : tabX I := hE.1.1.1
  have h6 := hnd_6 hp hq
  refine V_aload_n dX3_throwAt_0 rfl ?_
  refine V_getR (b := 10) dX3_throwAt_1 fX3_14 ⟨Nat.le_of_ble_eq_true rfl, Nat.le_of_ble_eq_true rfl⟩ rfl rfl rfl ?_
  refine V_iload_n dX3_throwAt_4 rfl ?_
  refine V_iload_n dX3_throwAt_5 rfl ?_
  refine V_iload_n dX3_throwAt_6 rfl ?_
  refine V_callV (As := [.int (nI p), .int (nI q), .int (nI last)]) (st := []) (a := 10) dX3_throwAt_7 kX2_whoPlays lX3_92 (by omega) rfl rfl (Nat.le_of_ble_eq_true rfl) ⟨Nat.le_of_ble_eq_true rfl, Nat.le_of_ble_eq_true rfl⟩ ⟨Nat.le_of_ble_eq_true rfl, Nat.le_of_ble_eq_true rfl⟩ rfl ⟨rfl, by decide⟩ (c_whoPlays hT hp hq hl) ?_
  rintro _ _ _ _ ⟨rfl, rfl, rfl, rfl⟩
  refine V_iconst (v := nI 2) dX3_throwAt_10 rfl ?_
  by_cases hw : sWho p q last = 2
  · skip
    refine V_eqI (y := nI 2) rfl ?_
    rw [hw]
    refine V_icmp_ne (tgt := 16) dX3_throwAt_11 rfl (fun h => absurd rfl h) (fun _ => ?_)
    refine V_iconst (v := (-1)) dX3_throwAt_14 rfl ?_
    exact V_iret ⟨Or.inl rfl, dX3_throwAt_15⟩ ⟨Nat.le_of_ble_eq_true rfl, Nat.le_of_ble_eq_true rfl⟩ ⟨rfl, by unfold thrX; rw [if_pos hw], hE, Fr2_r⟩
  · skip
    have hs := sWho_ok hp hq hl hw
    have hsw := sWho_le1 hp hq hs.2.2.2 (last := last)
    refine V_icmp_neN (tgt := 16) dX3_throwAt_11 rfl (by omega) (by omega) (fun _ => ?_) (fun h => absurd h (by omega))
    refine V_aload_n dX3_throwAt_16 rfl ?_
    refine V_iload_n dX3_throwAt_17 rfl ?_
    refine V_iload_n dX3_throwAt_18 rfl ?_
    refine V_iload_n dX3_throwAt_19 rfl ?_
    refine V_iconst (v := nI 0) dX3_throwAt_20 rfl ?_
    refine V_callV (As := [.int (nI p), .int (nI q), .int (nI last), .int (nI 0)]) (st := []) (a := 9) dX3_throwAt_21 kX3_settle lX3_84 (by omega) rfl rfl (Nat.le_of_ble_eq_true rfl) ⟨Nat.le_of_ble_eq_true rfl, Nat.le_of_ble_eq_true rfl⟩ ⟨Nat.le_of_ble_eq_true rfl, Nat.le_of_ble_eq_true rfl⟩ rfl ⟨rfl, by decide⟩ (c_settleX hp hq hl hE.1 (fun e => absurd e h3)) ?_
    rintro r sh' I' J' ⟨rfl, rfl, hP, hK⟩
    refine V_lconst (v := 1) dX3_throwAt_24 rfl ?_
    refine V_land dX3_throwAt_25 (V_eqL (y := if (vX kd one two Rl Lf far p q last).2 = true then 1 else 0) (eW_and (vX_b hp hq).1 (vX_b hp hq).2) ?_)
    cases hb : (vX kd one two Rl Lf far p q last).2
    · skip
      refine V_lconst (v := 0) dX3_throwAt_26 rfl ?_
      refine V_lcmp dX3_throwAt_27 ?_
      refine V_if_ne (tgt := 35) dX3_throwAt_28 rfl (fun h => absurd (by decide) h) (fun _ => ?_)
      refine V_iconst (v := nI 1) dX3_throwAt_31 rfl ?_
      refine V_goto (tgt := 36) dX3_throwAt_32 rfl ?_
      exact V_iret ⟨Or.inl rfl, dX3_throwAt_36⟩ ⟨Nat.le_of_ble_eq_true rfl, Nat.le_of_ble_eq_true rfl⟩ ⟨rfl, by unfold thrX; rw [if_neg hw, hb]; rfl, eKA_s hE hP⟩
    · skip
      refine V_lconst (v := 0) dX3_throwAt_26 rfl ?_
      refine V_lcmp dX3_throwAt_27 ?_
      refine V_if_ne (tgt := 35) dX3_throwAt_28 rfl (fun _ => ?_) (fun h => absurd h (by decide))
      refine V_iconst (v := nI 2) dX3_throwAt_35 rfl ?_
      exact V_iret ⟨Or.inl rfl, dX3_throwAt_36⟩ ⟨Nat.le_of_ble_eq_true rfl, Nat.le_of_ble_eq_true rfl⟩ ⟨rfl, by unfold thrX; rw [if_neg hw, hb]; rfl, eKA_s hE hP⟩

set_option maxRecDepth 100000 in
set_option maxHeartbeats 4000000 in
theorem c_value0 {G : zG} {I : zI} {J : zJ} {Lf : Nat → (Nat → Int32) → Int32} {Rl : Nat → Nat → (Nat → Int32) → Int32} {far : Nat} {kd one two : Int32} {p q last : Nat} (hp : p < 56) (hq : q < 56) (hl : last ≤ 1) (hE : eKA Lf Rl far kd one two I J) (h3 : kd ≠ 3) : zK G mX3_valueOrThrow 18 [.ref 9, .int (nI p), .int (nI q), .int (nI last), .int (nI 0)] zsh I J (zP (fun r I' J' => r = some (.long ((vX kd one two Rl Lf far p q last).1)) ∧ eKA Lf Rl far kd one two I' J' ∧ Fr2 I J I' J')) := by
  refine zK_of kX3_valueOrThrow.2.2.2.2.1 (Nat.le_of_ble_eq_true rfl) ?_
  show V G mX3_valueOrThrow 18 _ 0 [(0, .ref 9), (1, .int (nI p)), (2, .int (nI q)), (3, .int (nI last)), (4, .int (nI 0))] [] (0, 0) zsh I J
  have hT : tabX I := hE.1.1.1
  have h6 := hnd_6 hp hq
  refine V_iload dX3_valueOrThrow_0 rfl ?_
  refine V_if_ne (tgt := 18) dX3_valueOrThrow_2 rfl (fun h => absurd h (by decide)) (fun _ => ?_)
  refine V_aload_n dX3_valueOrThrow_5 rfl ?_
  refine V_iload_n dX3_valueOrThrow_6 rfl ?_
  refine V_iload_n dX3_valueOrThrow_7 rfl ?_
  refine V_iload_n dX3_valueOrThrow_8 rfl ?_
  refine V_iconst (v := nI 0) dX3_valueOrThrow_9 rfl ?_
  refine V_callV (As := [.int (nI p), .int (nI q), .int (nI last), .int (nI 0)]) (st := []) (a := 9) dX3_valueOrThrow_10 kX3_settle lX3_84 (by omega) rfl rfl (Nat.le_of_ble_eq_true rfl) ⟨Nat.le_of_ble_eq_true rfl, Nat.le_of_ble_eq_true rfl⟩ ⟨Nat.le_of_ble_eq_true rfl, Nat.le_of_ble_eq_true rfl⟩ rfl ⟨rfl, by decide⟩ (c_settleX hp hq hl hE.1 (fun e => absurd e h3)) ?_
  rintro r sh' I' J' ⟨rfl, rfl, hP, hK⟩
  refine V_iconst (v := nI 1) dX3_valueOrThrow_13 rfl ?_
  refine V_lshr dX3_valueOrThrow_14 (V_eqL (y := (vX kd one two Rl Lf far p q last).1) (eW_shr (vX_b (by omega) (by omega)).1 (vX_b (by omega) (by omega)).2 rfl) ?_)
  refine V_goto (tgt := 26) dX3_valueOrThrow_15 rfl ?_
  exact V_lret ⟨rfl, dX3_valueOrThrow_26⟩ ⟨Nat.le_of_ble_eq_true rfl, Nat.le_of_ble_eq_true rfl⟩ ⟨rfl, rfl, eKA_s hE hP⟩

set_option maxRecDepth 100000 in
set_option maxHeartbeats 4000000 in
theorem c_value1 {G : zG} {I : zI} {J : zJ} {Lf : Nat → (Nat → Int32) → Int32} {Rl : Nat → Nat → (Nat → Int32) → Int32} {far : Nat} {kd one two : Int32} {p q last : Nat} (hp : p < 56) (hq : q < 56) (hl : last ≤ 1) (hE : eKA Lf Rl far kd one two I J) (h3 : kd ≠ 3) : zK G mX3_valueOrThrow 18 [.ref 9, .int (nI p), .int (nI q), .int (nI last), .int (nI 1)] zsh I J (zP (fun r I' J' => r = some (.long ((thrX kd one two Rl Lf far p q last).toInt64)) ∧ eKA Lf Rl far kd one two I' J' ∧ Fr2 I J I' J')) := by
  refine zK_of kX3_valueOrThrow.2.2.2.2.1 (Nat.le_of_ble_eq_true rfl) ?_
  show V G mX3_valueOrThrow 18 _ 0 [(0, .ref 9), (1, .int (nI p)), (2, .int (nI q)), (3, .int (nI last)), (4, .int (nI 1))] [] (0, 0) zsh I J
  have hT : tabX I := hE.1.1.1
  have h6 := hnd_6 hp hq
  refine V_iload dX3_valueOrThrow_0 rfl ?_
  refine V_if_ne (tgt := 18) dX3_valueOrThrow_2 rfl (fun _ => ?_) (fun h => absurd h (by decide))
  refine V_aload_n dX3_valueOrThrow_18 rfl ?_
  refine V_iload_n dX3_valueOrThrow_19 rfl ?_
  refine V_iload_n dX3_valueOrThrow_20 rfl ?_
  refine V_iload_n dX3_valueOrThrow_21 rfl ?_
  refine V_callV (As := [.int (nI p), .int (nI q), .int (nI last)]) (st := []) (a := 9) dX3_valueOrThrow_22 kX3_throwAt lX3_88 (by omega) rfl rfl (Nat.le_of_ble_eq_true rfl) ⟨Nat.le_of_ble_eq_true rfl, Nat.le_of_ble_eq_true rfl⟩ ⟨Nat.le_of_ble_eq_true rfl, Nat.le_of_ble_eq_true rfl⟩ rfl ⟨rfl, by decide⟩ (c_throwAt hp hq hl hE h3) ?_
  rintro r sh' I' J' ⟨rfl, rfl, hE2, hF2⟩
  refine V_i2l dX3_valueOrThrow_25 ?_
  exact V_lret ⟨rfl, dX3_valueOrThrow_26⟩ ⟨Nat.le_of_ble_eq_true rfl, Nat.le_of_ble_eq_true rfl⟩ ⟨rfl, rfl, hE2, hF2⟩

set_option maxRecDepth 100000 in
set_option maxHeartbeats 4000000 in
theorem c_valueOfGame {G : zG} {I : zI} {J : zJ} {Lf : Nat → (Nat → Int32) → Int32} {Rl : Nat → Nat → (Nat → Int32) → Int32} {n : Nat} (hn : n ≤ 10) {j k : Int32} (hE : eA Lf Rl I J) : zK G mX3_valueOfGame 17 [.ref 9, .int (nI n), .int j, .int k] zsh I J (zP (fun r I' J' => r = some (.long (vX 1 j k Rl Lf n 55 55 1).1) ∧ eA Lf Rl I' J' ∧ Fr2 I J I' J')) := by
  refine zK_of kX3_valueOfGame.2.2.2.2.1 (Nat.le_of_ble_eq_true rfl) ?_
  show V G mX3_valueOfGame 17 _ 0 [(0, .ref 9), (1, .int (nI n)), (2, .int j), (3, .int k)] [] (0, 0) zsh I J
  refine V_aload_n dX3_valueOfGame_0 rfl ?_
  refine V_iload_n dX3_valueOfGame_1 rfl ?_
  refine V_callV (As := [.int (nI n)]) (st := []) (a := 9) dX3_valueOfGame_2 kX3_standAt lX3_106 (by omega) rfl rfl (Nat.le_of_ble_eq_true rfl) ⟨Nat.le_of_ble_eq_true rfl, Nat.le_of_ble_eq_true rfl⟩ ⟨Nat.le_of_ble_eq_true rfl, Nat.le_of_ble_eq_true rfl⟩ rfl ⟨rfl, by decide⟩ (c_standA (by omega) hE) ?_
  rintro r sh' I' J' ⟨rfl, rfl, hE1, hF1, rfl⟩
  refine V_aload_n dX3_valueOfGame_5 rfl ?_
  refine V_iload_n dX3_valueOfGame_6 rfl ?_
  refine V_iload_n dX3_valueOfGame_7 rfl ?_
  refine V_callV (As := [.int j, .int k]) (st := []) (a := 9) dX3_valueOfGame_8 kX3_aimBy lX3_102 (by omega) rfl rfl (Nat.le_of_ble_eq_true rfl) ⟨Nat.le_of_ble_eq_true rfl, Nat.le_of_ble_eq_true rfl⟩ ⟨Nat.le_of_ble_eq_true rfl, Nat.le_of_ble_eq_true rfl⟩ rfl ⟨rfl, by decide⟩ (c_aimA hE1) ?_
  rintro r sh' I' J' ⟨rfl, rfl, hE2, hF2⟩
  refine V_aload_n dX3_valueOfGame_11 rfl ?_
  refine V_bipush (v := nI 55) dX3_valueOfGame_12 rfl ?_
  refine V_bipush (v := nI 55) dX3_valueOfGame_14 rfl ?_
  refine V_iconst (v := nI 1) dX3_valueOfGame_16 rfl ?_
  refine V_iconst (v := nI 0) dX3_valueOfGame_17 rfl ?_
  refine V_callV (As := [.int (nI 55), .int (nI 55), .int (nI 1), .int (nI 0)]) (st := []) (a := 9) dX3_valueOfGame_18 kX3_settle lX3_84 (by decide) rfl rfl (Nat.le_of_ble_eq_true rfl) ⟨Nat.le_of_ble_eq_true rfl, Nat.le_of_ble_eq_true rfl⟩ ⟨Nat.le_of_ble_eq_true rfl, Nat.le_of_ble_eq_true rfl⟩ rfl ⟨rfl, by decide⟩ (c_settleX (by decide) (by decide) (by omega) hE2.1 (fun e => absurd e (by decide))) ?_
  rintro r sh' I' J' ⟨rfl, rfl, hP, hK⟩
  refine V_iconst (v := nI 1) dX3_valueOfGame_21 rfl ?_
  refine V_lshr dX3_valueOfGame_22 (V_eqL (y := (vX 1 j k Rl Lf n 55 55 1).1) (eW_shr (vX_b (by omega) (by omega)).1 (vX_b (by omega) (by omega)).2 rfl) ?_)
  exact V_lret ⟨rfl, dX3_valueOfGame_23⟩ ⟨Nat.le_of_ble_eq_true rfl, Nat.le_of_ble_eq_true rfl⟩ ⟨rfl, rfl, ⟨n, hn, eKA_f (eKA_s hE2 hP).1⟩, Fr2_t hF1 (Fr2_t hF2 (eKA_s hE2 hP).2)⟩

theorem eM_J {Lf : Nat → (Nat → Int32) → Int32} {Rl : Nat → Nat → (Nat → Int32) → Int32} {far : Nat} {I : zI} {J J' : zJ} (h : eM Lf Rl far I J) (e : J' 31 = J 31) : eM Lf Rl far I J' := by
  refine ⟨h.1, h.2.1, fun h0 => ?_⟩
  have h9 := h.2.2 h0
  unfold eOK at *
  rw [e]
  exact h9
theorem vX_nn {Rl Rl2 : Nat → Nat → (Nat → Int32) → Int32} {Lf : Nat → (Nat → Int32) → Int32} {far p q l : Nat} : vX 1 (-1) (-1) Rl Lf far p q l = vX 1 (-1) (-1) Rl2 Lf far p q l := sV_nn _ _ _ _
theorem vX_3 {one two : Int32} {Rl Rl2 : Nat → Nat → (Nat → Int32) → Int32} {Lf : Nat → (Nat → Int32) → Int32} {far p q l : Nat} : vX 3 one two Rl Lf far p q l = vX 3 one two Rl2 Lf far p q l := sV_3 _ _ _ _
theorem unk_ne {x : Int64} (h1 : -(10 ^ 17) ≤ x.toInt) (h2 : x.toInt ≤ 10 ^ 17) : x ≠ -4000000000000000000 := by
  intro e
  rw [e, show (-4000000000000000000 : Int64).toInt = -4000000000000000000 from rfl] at h1
  omega
theorem eA_b {Lf : Nat → (Nat → Int32) → Int32} {Rl : Nat → Nat → (Nat → Int32) → Int32} {n f : Nat} {I : zI} {J : zJ} (h : eAf Lf Rl n I J) (h6 : 6 ≤ n) (h10 : n ≤ 10) (hf : f ≤ 1) : eA Lf Rl I (zwl J 32 (2 * (n - 6) + f) (vB Lf n f)) ∧ Fr2 I J I (zwl J 32 (2 * (n - 6) + f) (vB Lf n f)) := by
  refine ⟨⟨n, h10, eM_J h.1 (zup_n (by decide)), fun m g a b c => ?_, ?_⟩, fun _ _ _ _ _ _ => rfl, fun a _ b _ => zup_n b⟩
  · rw [zwl_at]
    by_cases e : 2 * (m - 6) + g = 2 * (n - 6) + f
    · have e1 : m = n := by omega
      have e2 : g = f := by omega
      subst e1; subst e2
      rw [if_pos ⟨rfl, rfl⟩]; exact Or.inr rfl
    · rw [if_neg (fun h => e h.2)]; exact h.2.1 m g a b c
  · have h2 := h.2.2
    unfold eB2 at *
    rw [show zwl J 32 (2 * (n - 6) + f) (vB Lf n f) 33 = J 33 from zup_n (by decide)]
    exact h2
set_option maxRecDepth 100000 in
set_option maxHeartbeats 4000000 in
theorem c_beginValue {G : zG} {I : zI} {J : zJ} {Lf : Nat → (Nat → Int32) → Int32} {Rl : Nat → Nat → (Nat → Int32) → Int32} {n : Nat} {f : Nat} (h6 : 6 ≤ n) (hn : n ≤ 10) (hf : f ≤ 1) (hE : eA Lf Rl I J) : zK G mX3_beginValue 17 [.ref 9, .int (nI n), .int (nI f)] zsh I J (zP (fun r I' J' => r = some (.long (vB Lf n f)) ∧ eA Lf Rl I' J' ∧ Fr2 I J I' J')) := by
  refine zK_of kX3_beginValue.2.2.2.2.1 (Nat.le_of_ble_eq_true rfl) ?_
  show V G mX3_beginValue 17 _ 0 [(0, .ref 9), (1, .int (nI n)), (2, .int (nI f))] [] (0, 0) zsh I J
  by_cases hj : J 32 (2 * (n - 6) + f) = -4000000000000000000
  · skip
    refine V_iconst (v := nI 2) dX3_beginValue_0 rfl ?_
    refine V_iload_n dX3_beginValue_1 rfl ?_
    refine V_bipush (v := nI 6) dX3_beginValue_2 rfl ?_
    refine V_isubN dX3_beginValue_4 (by omega) ?_
    refine V_imulN dX3_beginValue_5 ?_
    refine V_iload_n dX3_beginValue_6 rfl ?_
    refine V_iaddN dX3_beginValue_7 ?_
    refine V_istore_n (ls' := [(3, .int (nI ((2 * (n - 6)) + f))), (0, .ref 9), (1, .int (nI n)), (2, .int (nI f))]) dX3_beginValue_8 (by decide) rfl ?_
    refine V_iload_n dX3_beginValue_9 rfl ?_
    refine V_if_ltN (tgt := 22) dX3_beginValue_10 rfl (by omega) ?_
    refine V_iload_n dX3_beginValue_13 rfl ?_
    refine V_aload_n dX3_beginValue_14 rfl ?_
    refine V_getR (b := 32) dX3_beginValue_15 fX3_51 ⟨Nat.le_of_ble_eq_true rfl, Nat.le_of_ble_eq_true rfl⟩ rfl rfl rfl ?_
    refine V_alen (v := nI 10) dX3_beginValue_18 ⟨Nat.le_of_ble_eq_true rfl, Nat.le_of_ble_eq_true rfl⟩ rfl (by decide) rfl ?_
    refine V_icmp_ltN (tgt := 24) dX3_beginValue_19 rfl (by omega) (by omega) (fun _ => ?_) (fun h => absurd h (by omega))
    refine V_aload_n dX3_beginValue_24 rfl ?_
    refine V_getR (b := 32) dX3_beginValue_25 fX3_51 ⟨Nat.le_of_ble_eq_true rfl, Nat.le_of_ble_eq_true rfl⟩ rfl rfl rfl ?_
    refine V_iload_n dX3_beginValue_28 rfl ?_
    refine V_laldN (k := (2 * (n - 6)) + f) dX3_beginValue_29 ⟨Nat.le_of_ble_eq_true rfl, Nat.le_of_ble_eq_true rfl⟩ rfl (by decide) (by omega) ?_
    refine V_eqL (y := (-4000000000000000000)) hj ?_
    refine V_ldc2 dX3_beginValue_30 qX3_60 ?_
    refine V_lcmp dX3_beginValue_33 ?_
    refine V_if_ne (tgt := 68) dX3_beginValue_34 rfl (fun h => absurd (wl_eq.mpr rfl) h) (fun _ => ?_)
    refine V_aload_n dX3_beginValue_37 rfl ?_
    refine V_iload_n dX3_beginValue_38 rfl ?_
    refine V_callV (As := [.int (nI n)]) (st := []) (a := 9) dX3_beginValue_39 kX3_standAt lX3_106 (by omega) rfl rfl (Nat.le_of_ble_eq_true rfl) ⟨Nat.le_of_ble_eq_true rfl, Nat.le_of_ble_eq_true rfl⟩ ⟨Nat.le_of_ble_eq_true rfl, Nat.le_of_ble_eq_true rfl⟩ rfl ⟨rfl, by decide⟩ (c_standA (by omega) hE) ?_
    rintro r sh' I' J' ⟨rfl, rfl, hE1, hF1, rfl⟩
    refine V_aload_n dX3_beginValue_42 rfl ?_
    refine V_iconst (v := (-1)) dX3_beginValue_43 rfl ?_
    refine V_iconst (v := (-1)) dX3_beginValue_44 rfl ?_
    refine V_callV (As := [.int (-1), .int (-1)]) (st := []) (a := 9) dX3_beginValue_45 kX3_aimBy lX3_102 (by omega) rfl rfl (Nat.le_of_ble_eq_true rfl) ⟨Nat.le_of_ble_eq_true rfl, Nat.le_of_ble_eq_true rfl⟩ ⟨Nat.le_of_ble_eq_true rfl, Nat.le_of_ble_eq_true rfl⟩ rfl ⟨rfl, by decide⟩ (c_aimA hE1) ?_
    rintro r sh' I' J' ⟨rfl, rfl, hE2, hF2⟩
    refine V_aload_n dX3_beginValue_48 rfl ?_
    refine V_getR (b := 32) dX3_beginValue_49 fX3_51 ⟨Nat.le_of_ble_eq_true rfl, Nat.le_of_ble_eq_true rfl⟩ rfl rfl rfl ?_
    refine V_iload_n dX3_beginValue_52 rfl ?_
    refine V_aload_n dX3_beginValue_53 rfl ?_
    refine V_bipush (v := nI 55) dX3_beginValue_54 rfl ?_
    refine V_bipush (v := nI 55) dX3_beginValue_56 rfl ?_
    refine V_iconst (v := nI 1) dX3_beginValue_58 rfl ?_
    refine V_iload_n dX3_beginValue_59 rfl ?_
    refine V_isubN dX3_beginValue_60 (by omega) ?_
    refine V_iconst (v := nI 0) dX3_beginValue_61 rfl ?_
    refine V_callV (As := [.int (nI 55), .int (nI 55), .int (nI (1 - f)), .int (nI 0)]) (st := [.int (nI ((2 * (n - 6)) + f)), .ref 32]) (a := 9) dX3_beginValue_62 kX3_settle lX3_84 (by decide) rfl rfl (Nat.le_of_ble_eq_true rfl) ⟨Nat.le_of_ble_eq_true rfl, Nat.le_of_ble_eq_true rfl⟩ ⟨Nat.le_of_ble_eq_true rfl, Nat.le_of_ble_eq_true rfl⟩ rfl ⟨rfl, by decide⟩ (c_settleX (by decide) (by decide) (by omega) hE2.1 (fun e => absurd e (by decide))) ?_
    rintro r sh' I' J' ⟨rfl, rfl, hP, hK⟩
    refine V_iconst (v := nI 1) dX3_beginValue_65 rfl ?_
    refine V_lshr dX3_beginValue_66 (V_eqL (y := vB Lf n f) ((eW_shr (vX_b (by decide) (by decide)).1 (vX_b (by decide) (by decide)).2 rfl).trans (congrArg Prod.fst vX_nn)) ?_)
    refine V_lastN (k := (2 * (n - 6)) + f) dX3_beginValue_67 ⟨Nat.le_of_ble_eq_true rfl, Nat.le_of_ble_eq_true rfl⟩ rfl (by decide) (by omega) ?_
    refine V_aload_n dX3_beginValue_68 rfl ?_
    refine V_getR (b := 32) dX3_beginValue_69 fX3_51 ⟨Nat.le_of_ble_eq_true rfl, Nat.le_of_ble_eq_true rfl⟩ rfl rfl rfl ?_
    refine V_iload_n dX3_beginValue_72 rfl ?_
    refine V_laldN (k := (2 * (n - 6)) + f) dX3_beginValue_73 ⟨Nat.le_of_ble_eq_true rfl, Nat.le_of_ble_eq_true rfl⟩ rfl (by decide) (by omega) ?_
    refine V_eqL (y := vB Lf n f) (by simp [zwl_at]) ?_
    exact V_lret ⟨rfl, dX3_beginValue_74⟩ ⟨Nat.le_of_ble_eq_true rfl, Nat.le_of_ble_eq_true rfl⟩ ⟨rfl, rfl, (eA_b (eKA_f (eKA_s hE2 hP).1) h6 hn hf).1, Fr2_t hF1 (Fr2_t hF2 (Fr2_t (eKA_s hE2 hP).2 (eA_b (eKA_f (eKA_s hE2 hP).1) h6 hn hf).2))⟩
  · skip
    have hj2 : J 32 (2 * (n - 6) + f) = vB Lf n f := by
      obtain ⟨far, _, hE2⟩ := id hE
      exact (hE2.2.1 n f h6 hn hf).resolve_left hj
    refine V_iconst (v := nI 2) dX3_beginValue_0 rfl ?_
    refine V_iload_n dX3_beginValue_1 rfl ?_
    refine V_bipush (v := nI 6) dX3_beginValue_2 rfl ?_
    refine V_isubN dX3_beginValue_4 (by omega) ?_
    refine V_imulN dX3_beginValue_5 ?_
    refine V_iload_n dX3_beginValue_6 rfl ?_
    refine V_iaddN dX3_beginValue_7 ?_
    refine V_istore_n (ls' := [(3, .int (nI ((2 * (n - 6)) + f))), (0, .ref 9), (1, .int (nI n)), (2, .int (nI f))]) dX3_beginValue_8 (by decide) rfl ?_
    refine V_iload_n dX3_beginValue_9 rfl ?_
    refine V_if_ltN (tgt := 22) dX3_beginValue_10 rfl (by omega) ?_
    refine V_iload_n dX3_beginValue_13 rfl ?_
    refine V_aload_n dX3_beginValue_14 rfl ?_
    refine V_getR (b := 32) dX3_beginValue_15 fX3_51 ⟨Nat.le_of_ble_eq_true rfl, Nat.le_of_ble_eq_true rfl⟩ rfl rfl rfl ?_
    refine V_alen (v := nI 10) dX3_beginValue_18 ⟨Nat.le_of_ble_eq_true rfl, Nat.le_of_ble_eq_true rfl⟩ rfl (by decide) rfl ?_
    refine V_icmp_ltN (tgt := 24) dX3_beginValue_19 rfl (by omega) (by omega) (fun _ => ?_) (fun h => absurd h (by omega))
    refine V_aload_n dX3_beginValue_24 rfl ?_
    refine V_getR (b := 32) dX3_beginValue_25 fX3_51 ⟨Nat.le_of_ble_eq_true rfl, Nat.le_of_ble_eq_true rfl⟩ rfl rfl rfl ?_
    refine V_iload_n dX3_beginValue_28 rfl ?_
    refine V_laldN (k := (2 * (n - 6)) + f) dX3_beginValue_29 ⟨Nat.le_of_ble_eq_true rfl, Nat.le_of_ble_eq_true rfl⟩ rfl (by decide) (by omega) ?_
    refine V_eqL (y := vB Lf n f) hj2 ?_
    refine V_ldc2 dX3_beginValue_30 qX3_60 ?_
    refine V_lcmp dX3_beginValue_33 ?_
    refine V_if_ne (tgt := 68) dX3_beginValue_34 rfl (fun _ => ?_) (fun h => absurd (wl_eq.mp h) (unk_ne (vX_b (by decide) (by decide)).1 (vX_b (by decide) (by decide)).2))
    refine V_aload_n dX3_beginValue_68 rfl ?_
    refine V_getR (b := 32) dX3_beginValue_69 fX3_51 ⟨Nat.le_of_ble_eq_true rfl, Nat.le_of_ble_eq_true rfl⟩ rfl rfl rfl ?_
    refine V_iload_n dX3_beginValue_72 rfl ?_
    refine V_laldN (k := (2 * (n - 6)) + f) dX3_beginValue_73 ⟨Nat.le_of_ble_eq_true rfl, Nat.le_of_ble_eq_true rfl⟩ rfl (by decide) (by omega) ?_
    refine V_eqL (y := vB Lf n f) hj2 ?_
    exact V_lret ⟨rfl, dX3_beginValue_74⟩ ⟨Nat.le_of_ble_eq_true rfl, Nat.le_of_ble_eq_true rfl⟩ ⟨rfl, rfl, hE, Fr2_r⟩

/-- the ends' world but for begins is changed -/
def Fr3 (I : zI) (J : zJ) (I' : zI) (J' : zJ) : Prop := frE I I' ∧ I' 9 12 = I 9 12 ∧ ∀ a, a ≠ 31 → J' a = J a
theorem Fr3_r {I : zI} {J : zJ} : Fr3 I J I J := ⟨fun _ _ _ _ _ _ => rfl, rfl, fun _ _ => rfl⟩
theorem Fr3_t {A B C : zI} {X Y Z : zJ} (h : Fr3 A X B Y) (h2 : Fr3 B Y C Z) : Fr3 A X C Z := ⟨fun a b c d e f => (h2.1 a b c d e f).trans (h.1 a b c d e f), h2.2.1.trans h.2.1, fun a b => (h2.2.2 a b).trans (h.2.2 a b)⟩
theorem Fr3_s {Lf : Nat → (Nat → Int32) → Int32} {Rl : Nat → Nat → (Nat → Int32) → Int32} {far : Nat} {kd one two : Int32} {I I' : zI} {J J' : zJ} (h2 : sPo Lf Rl far (btV Lf far) kd one two I J I' J') : Fr3 I J I' J' := ⟨fun a _ b c d e => h2.1 a b c d e, by rw [h2.1 9 (by decide) (by decide) (by decide) (by decide)], h2.2.2.2.2⟩
theorem Fr3_2 {I I' : zI} {J J' : zJ} (h : Fr3 I J I' J') : Fr2 I J I' J' := ⟨h.1, fun a b _ _ => h.2.2 a b⟩
theorem eM_A {Lf : Nat → (Nat → Int32) → Int32} {Rl : Nat → Nat → (Nat → Int32) → Int32} {far : Nat} {I I' : zI} {J J' : zJ} (h : eAf Lf Rl far I J) (h2 : eM Lf Rl far I' J') (h3 : Fr3 I J I' J') : eAf Lf Rl far I' J' := ⟨h2, eB_c h.2 h3.2.1 (h3.2.2 32 (by decide)) (h3.2.2 33 (by decide))⟩
theorem c_aim1M {G : zG} {I : zI} {J : zJ} {Lf : Nat → (Nat → Int32) → Int32} {Rl : Nat → Nat → (Nat → Int32) → Int32} {far : Nat} {j k : Int32} (hE : eM Lf Rl far I J) : zK G mX3_aimBy 2 [.ref 9, .int j, .int k] zsh I J (zA2 (fun I' J' => eOK Lf Rl far (btV Lf far) 1 j k I' J' ∧ Fr3 I J I' J')) := by
  refine zK_imp c_aimBy ?_
  rintro r sh' I' J' ⟨rfl, rfl, rfl, rfl⟩
  exact ⟨rfl, rfl, eM_aim hE (by decide), (eAim_f (J := J)).1.1, (eAim_f (J := J)).2.1, (eAim_f (J := J)).2.2.1⟩
theorem c_aim3M {G : zG} {I : zI} {J : zJ} {Lf : Nat → (Nat → Int32) → Int32} {Rl : Nat → Nat → (Nat → Int32) → Int32} {far : Nat} {k : Int32} (hE : eM Lf Rl far I J) : zK G mX3_takeAim 1 [.ref 9, .int (nI 3), .int k, .int (nI 0)] zsh I J (zA2 (fun I' J' => eOK Lf Rl far (btV Lf far) 3 k 0 I' J' ∧ Fr3 I J I' J' ∧ I' 30 = I 30)) := by
  refine zK_imp c_takeAim ?_
  rintro r sh' I' J' ⟨rfl, rfl, rfl, rfl⟩
  exact ⟨rfl, rfl, eM_aim (kd := 3) (one := k) (two := 0) hE (by decide), ⟨(eAim_f (J := J) (kd := 3) (one := k) (two := 0)).1.1, (eAim_f (J := J)).2.1, (eAim_f (J := J)).2.2.1⟩, (eAim_f (J := J)).2.2.2.1 30 (by decide)⟩
set_option maxRecDepth 100000 in
set_option maxHeartbeats 4000000 in
theorem lp_chance {G : zG} {Lf : Nat → (Nat → Int32) → Int32} {Rl : Nat → Nat → (Nat → Int32) → Int32} {far : Nat} {p q last : Nat} (hp : p < 56) (hq : q < 56) (hl : last ≤ 1) {cnt : Int32} {I0 I : zI} {J0 J : zJ} (hE1 : eM Lf Rl far I J) (hF1 : Fr3 I0 J0 I J) (hb : nbk I Lf far (btV Lf far) p q last) : V G mX3_chanceOfCount 17 (zP (fun r I' J' => r = some (.long (vX 3 cnt 0 Rl Lf far p q last).1) ∧ eM Lf Rl far I' J' ∧ Fr3 I0 J0 I' J')) 42 [(0, .ref 9), (1, .int (nI p)), (2, .int (nI q)), (3, .int (nI last)), (4, .int cnt)] [] (0, 0) zsh I J := by
  have h6 := hnd_6 hp hq
  refine V_aload_n dX3_chanceOfCount_42 rfl ?_
  refine V_iconst (v := nI 3) dX3_chanceOfCount_43 rfl ?_
  refine V_iload dX3_chanceOfCount_44 rfl ?_
  refine V_iconst (v := nI 0) dX3_chanceOfCount_46 rfl ?_
  refine V_callV (As := [.int (nI 3), .int cnt, .int (nI 0)]) (st := []) (a := 9) dX3_chanceOfCount_47 kX3_takeAim lX3_74 (by omega) rfl rfl (Nat.le_of_ble_eq_true rfl) ⟨Nat.le_of_ble_eq_true rfl, Nat.le_of_ble_eq_true rfl⟩ ⟨Nat.le_of_ble_eq_true rfl, Nat.le_of_ble_eq_true rfl⟩ rfl ⟨rfl, by decide⟩ (c_aim3M hE1) ?_
  rintro r sh' I' J' ⟨rfl, rfl, hE2, hF2, h30⟩
  refine V_aload_n dX3_chanceOfCount_50 rfl ?_
  refine V_iload_n dX3_chanceOfCount_51 rfl ?_
  refine V_iload_n dX3_chanceOfCount_52 rfl ?_
  refine V_iload_n dX3_chanceOfCount_53 rfl ?_
  refine V_iconst (v := nI 0) dX3_chanceOfCount_54 rfl ?_
  refine V_callV (As := [.int (nI p), .int (nI q), .int (nI last), .int (nI 0)]) (st := []) (a := 9) dX3_chanceOfCount_55 kX3_settle lX3_84 (by omega) rfl rfl (Nat.le_of_ble_eq_true rfl) ⟨Nat.le_of_ble_eq_true rfl, Nat.le_of_ble_eq_true rfl⟩ ⟨Nat.le_of_ble_eq_true rfl, Nat.le_of_ble_eq_true rfl⟩ rfl ⟨rfl, by decide⟩ (c_settleX hp hq hl hE2 (fun _ hs => by unfold bk; rw [h30]; exact hb hs)) ?_
  rintro r sh' I' J' ⟨rfl, rfl, hP, hK⟩
  refine V_iconst (v := nI 1) dX3_chanceOfCount_58 rfl ?_
  refine V_lshr dX3_chanceOfCount_59 (V_eqL (y := (vX 3 cnt 0 Rl Lf far p q last).1) (eW_shr (vX_b (by omega) (by omega)).1 (vX_b (by omega) (by omega)).2 rfl) ?_)
  exact V_lret ⟨rfl, dX3_chanceOfCount_60⟩ ⟨Nat.le_of_ble_eq_true rfl, Nat.le_of_ble_eq_true rfl⟩ ⟨rfl, rfl, eM_of hP.2.1, Fr3_t hF1 (Fr3_t hF2 (Fr3_s hP))⟩

set_option maxRecDepth 100000 in
set_option maxHeartbeats 4000000 in
theorem c_chanceOfCount {G : zG} {I : zI} {J : zJ} {Lf : Nat → (Nat → Int32) → Int32} {Rl : Nat → Nat → (Nat → Int32) → Int32} {far : Nat} {p q last : Nat} (hp : p < 56) (hq : q < 56) (hl : last ≤ 1) {cnt : Int32} (hE : eM Lf Rl far I J) : zK G mX3_chanceOfCount 17 [.ref 9, .int (nI p), .int (nI q), .int (nI last), .int cnt] zsh I J (zP (fun r I' J' => r = some (.long (vX 3 cnt 0 Rl Lf far p q last).1) ∧ eM Lf Rl far I' J' ∧ Fr3 I J I' J')) := by
  refine zK_of kX3_chanceOfCount.2.2.2.2.1 (Nat.le_of_ble_eq_true rfl) ?_
  show V G mX3_chanceOfCount 17 _ 0 [(0, .ref 9), (1, .int (nI p)), (2, .int (nI q)), (3, .int (nI last)), (4, .int cnt)] [] (0, 0) zsh I J
  have hT : tabX I := hE.1.1
  have h6 := hnd_6 hp hq
  refine V_aload_n dX3_chanceOfCount_0 rfl ?_
  refine V_getR (b := 10) dX3_chanceOfCount_1 fX3_14 ⟨Nat.le_of_ble_eq_true rfl, Nat.le_of_ble_eq_true rfl⟩ rfl rfl rfl ?_
  refine V_iload_n dX3_chanceOfCount_4 rfl ?_
  refine V_iload_n dX3_chanceOfCount_5 rfl ?_
  refine V_iload_n dX3_chanceOfCount_6 rfl ?_
  refine V_callV (As := [.int (nI p), .int (nI q), .int (nI last)]) (st := []) (a := 10) dX3_chanceOfCount_7 kX2_whoPlays lX3_92 (by omega) rfl rfl (Nat.le_of_ble_eq_true rfl) ⟨Nat.le_of_ble_eq_true rfl, Nat.le_of_ble_eq_true rfl⟩ ⟨Nat.le_of_ble_eq_true rfl, Nat.le_of_ble_eq_true rfl⟩ rfl ⟨rfl, by decide⟩ (c_whoPlays hT hp hq hl) ?_
  rintro _ _ _ _ ⟨rfl, rfl, rfl, rfl⟩
  refine V_iconst (v := nI 2) dX3_chanceOfCount_10 rfl ?_
  by_cases hw : sWho p q last = 2
  · skip
    refine V_eqI (y := nI 2) rfl ?_
    rw [hw]
    refine V_icmp_eq (tgt := 42) dX3_chanceOfCount_11 rfl (fun _ => ?_) (fun h => absurd rfl h)
    exact lp_chance hp hq hl hE Fr3_r (fun hs => absurd ((sWho_2 hp hq).mp hw) (fun h => by have := hs.2.2.2; omega))
  · skip
    have hs := sWho_ok hp hq hl hw
    have hsw := sWho_le1 hp hq hs.2.2.2 (last := last)
    refine V_icmp_eqN (tgt := 42) dX3_chanceOfCount_11 rfl (by omega) (by omega) (fun h => absurd h (by omega)) (fun _ => ?_)
    rcases hE.1.2.2.2.2 p q last hs with hz | ⟨z, hz2, hzb, hz⟩
    · skip
      refine V_aload_n dX3_chanceOfCount_14 rfl ?_
      refine V_iload_n dX3_chanceOfCount_15 rfl ?_
      refine V_iload_n dX3_chanceOfCount_16 rfl ?_
      refine V_iload_n dX3_chanceOfCount_17 rfl ?_
      refine V_callS (As := [.int (nI p), .int (nI q), .int (nI last)]) (st := [.ref 9]) dX3_chanceOfCount_18 kX3_spotOf lX3_95 (by omega) rfl rfl (Nat.le_of_ble_eq_true rfl) ⟨Nat.le_of_ble_eq_true rfl, Nat.le_of_ble_eq_true rfl⟩ (c_spotOf hp hq hl hs.2.2.2) ?_
      rintro _ _ _ _ ⟨rfl, rfl, rfl, rfl⟩
      refine V_callV (As := [.int (nI (sSpot p q last))]) (st := []) (a := 9) dX3_chanceOfCount_21 kX3_bestThrowAt lX3_98 (by omega) rfl rfl (Nat.le_of_ble_eq_true rfl) ⟨Nat.le_of_ble_eq_true rfl, Nat.le_of_ble_eq_true rfl⟩ ⟨Nat.le_of_ble_eq_true rfl, Nat.le_of_ble_eq_true rfl⟩ rfl ⟨rfl, by decide⟩ (c_bestThrowAt0 hs hz) ?_
      rintro _ _ _ _ ⟨rfl, rfl, rfl, rfl⟩
      refine V_if_ne (tgt := 42) dX3_chanceOfCount_24 rfl (fun h => absurd h (by decide)) (fun _ => ?_)
      refine V_aload_n dX3_chanceOfCount_27 rfl ?_
      refine V_iconst (v := (-1)) dX3_chanceOfCount_28 rfl ?_
      refine V_iconst (v := (-1)) dX3_chanceOfCount_29 rfl ?_
      refine V_callV (As := [.int (-1), .int (-1)]) (st := []) (a := 9) dX3_chanceOfCount_30 kX3_aimBy lX3_102 (by omega) rfl rfl (Nat.le_of_ble_eq_true rfl) ⟨Nat.le_of_ble_eq_true rfl, Nat.le_of_ble_eq_true rfl⟩ ⟨Nat.le_of_ble_eq_true rfl, Nat.le_of_ble_eq_true rfl⟩ rfl ⟨rfl, by decide⟩ (c_aim1M hE) ?_
      rintro r sh' I' J' ⟨rfl, rfl, hE2, hF2⟩
      refine V_aload_n dX3_chanceOfCount_33 rfl ?_
      refine V_iload_n dX3_chanceOfCount_34 rfl ?_
      refine V_iload_n dX3_chanceOfCount_35 rfl ?_
      refine V_iload_n dX3_chanceOfCount_36 rfl ?_
      refine V_iconst (v := nI 0) dX3_chanceOfCount_37 rfl ?_
      refine V_callV (As := [.int (nI p), .int (nI q), .int (nI last), .int (nI 0)]) (st := []) (a := 9) dX3_chanceOfCount_38 kX3_settle lX3_84 (by omega) rfl rfl (Nat.le_of_ble_eq_true rfl) ⟨Nat.le_of_ble_eq_true rfl, Nat.le_of_ble_eq_true rfl⟩ ⟨Nat.le_of_ble_eq_true rfl, Nat.le_of_ble_eq_true rfl⟩ rfl ⟨rfl, by decide⟩ (c_settleX hp hq hl hE2 (fun e => absurd e (by decide))) ?_
      rintro r sh' I' J' ⟨rfl, rfl, hP, hK⟩
      refine V_pop2 dX3_chanceOfCount_41 rfl ?_
      exact lp_chance hp hq hl (eM_of hP.2.1) (Fr3_t hF2 (Fr3_s hP)) (hK ⟨rfl, rfl, rfl⟩)
    · skip
      refine V_aload_n dX3_chanceOfCount_14 rfl ?_
      refine V_iload_n dX3_chanceOfCount_15 rfl ?_
      refine V_iload_n dX3_chanceOfCount_16 rfl ?_
      refine V_iload_n dX3_chanceOfCount_17 rfl ?_
      refine V_callS (As := [.int (nI p), .int (nI q), .int (nI last)]) (st := [.ref 9]) dX3_chanceOfCount_18 kX3_spotOf lX3_95 (by omega) rfl rfl (Nat.le_of_ble_eq_true rfl) ⟨Nat.le_of_ble_eq_true rfl, Nat.le_of_ble_eq_true rfl⟩ (c_spotOf hp hq hl hs.2.2.2) ?_
      rintro _ _ _ _ ⟨rfl, rfl, rfl, rfl⟩
      refine V_callV (As := [.int (nI (sSpot p q last))]) (st := []) (a := 9) dX3_chanceOfCount_21 kX3_bestThrowAt lX3_98 (by omega) rfl rfl (Nat.le_of_ble_eq_true rfl) ⟨Nat.le_of_ble_eq_true rfl, Nat.le_of_ble_eq_true rfl⟩ ⟨Nat.le_of_ble_eq_true rfl, Nat.le_of_ble_eq_true rfl⟩ rfl ⟨rfl, by decide⟩ (c_bestThrowAtK hs hz2 hz) ?_
      rintro _ _ _ _ ⟨rfl, rfl, rfl, rfl⟩
      rcases hzb with rfl | hzb
      · skip
        refine V_if_neN (tgt := 42) dX3_chanceOfCount_24 rfl (by omega) (fun h => absurd h (by omega)) (fun _ => ?_)
        refine V_aload_n dX3_chanceOfCount_27 rfl ?_
        refine V_iconst (v := (-1)) dX3_chanceOfCount_28 rfl ?_
        refine V_iconst (v := (-1)) dX3_chanceOfCount_29 rfl ?_
        refine V_callV (As := [.int (-1), .int (-1)]) (st := []) (a := 9) dX3_chanceOfCount_30 kX3_aimBy lX3_102 (by omega) rfl rfl (Nat.le_of_ble_eq_true rfl) ⟨Nat.le_of_ble_eq_true rfl, Nat.le_of_ble_eq_true rfl⟩ ⟨Nat.le_of_ble_eq_true rfl, Nat.le_of_ble_eq_true rfl⟩ rfl ⟨rfl, by decide⟩ (c_aim1M hE) ?_
        rintro r sh' I' J' ⟨rfl, rfl, hE2, hF2⟩
        refine V_aload_n dX3_chanceOfCount_33 rfl ?_
        refine V_iload_n dX3_chanceOfCount_34 rfl ?_
        refine V_iload_n dX3_chanceOfCount_35 rfl ?_
        refine V_iload_n dX3_chanceOfCount_36 rfl ?_
        refine V_iconst (v := nI 0) dX3_chanceOfCount_37 rfl ?_
        refine V_callV (As := [.int (nI p), .int (nI q), .int (nI last), .int (nI 0)]) (st := []) (a := 9) dX3_chanceOfCount_38 kX3_settle lX3_84 (by omega) rfl rfl (Nat.le_of_ble_eq_true rfl) ⟨Nat.le_of_ble_eq_true rfl, Nat.le_of_ble_eq_true rfl⟩ ⟨Nat.le_of_ble_eq_true rfl, Nat.le_of_ble_eq_true rfl⟩ rfl ⟨rfl, by decide⟩ (c_settleX hp hq hl hE2 (fun e => absurd e (by decide))) ?_
        rintro r sh' I' J' ⟨rfl, rfl, hP, hK⟩
        refine V_pop2 dX3_chanceOfCount_41 rfl ?_
        exact lp_chance hp hq hl (eM_of hP.2.1) (Fr3_t hF2 (Fr3_s hP)) (hK ⟨rfl, rfl, rfl⟩)
      · skip
        have hb12 := btK_12 (btV_K (Rl := Rl) (Lf := Lf) (far := far)) p q last
        refine V_if_neN (tgt := 42) dX3_chanceOfCount_24 rfl (by omega) (fun _ => ?_) (fun h => absurd h (by omega))
        exact lp_chance hp hq hl hE Fr3_r (fun _ => by unfold bk; rw [← hzb]; exact hz)

theorem c_chanceA {G : zG} {I : zI} {J : zJ} {Lf : Nat → (Nat → Int32) → Int32} {Rl : Nat → Nat → (Nat → Int32) → Int32} {far : Nat} {p q last : Nat} (hp : p < 56) (hq : q < 56) (hl : last ≤ 1) {cnt : Int32} (hE : eAf Lf Rl far I J) : zK G mX3_chanceOfCount 17 [.ref 9, .int (nI p), .int (nI q), .int (nI last), .int cnt] zsh I J (zP (fun r I' J' => r = some (.long (vX 3 cnt 0 Rl Lf far p q last).1) ∧ eAf Lf Rl far I' J' ∧ Fr2 I J I' J')) := by
  refine zK_imp (c_chanceOfCount hp hq hl hE.1) ?_
  rintro r sh' I' J' ⟨rfl, rfl, h1, h2⟩
  exact ⟨rfl, rfl, eM_A hE h1 h2, Fr3_2 h2⟩
/-- the counts' chances so far -/
def cnX (Lf : Nat → (Nat → Int32) → Int32) (n k : Nat) (J : zJ) : Prop := ∀ j, j < k → J 33 j = vC Lf n 1 j ∧ J 33 (7 + j) = vC Lf n 0 j
theorem eM_9 {Lf : Nat → (Nat → Int32) → Int32} {Rl : Nat → Nat → (Nat → Int32) → Int32} {far : Nat} {I : zI} {J : zJ} {x : Int32} (h : eM Lf Rl far I J) : eM Lf Rl far (zwr I 9 12 x) J := by
  obtain ⟨⟨h1, h2, h3, h4, h5⟩, h6, h7⟩ := h
  have hn : ∀ a, a ≠ 9 → zwr I 9 12 x a = I a := fun a h => zup_n h
  refine ⟨⟨tabX_c h1 ⟨rfl, rfl, rfl, rfl, rfl⟩, progI_c h2 rfl rfl, fun k hk => progI_c (h3 k hk) (hn _ (by omega)) (hn _ (by omega)), h4, h5⟩, h6, fun h0 => ?_⟩
  obtain ⟨-, g2, g3, g4, g5⟩ := h7 h0
  exact ⟨⟨tabX_c h1 ⟨rfl, rfl, rfl, rfl, rfl⟩, progI_c h2 rfl rfl, fun k hk => progI_c (h3 k hk) (hn _ (by omega)) (hn _ (by omega)), h4, h5⟩, g2, g3, g4, g5⟩
set_option maxRecDepth 100000 in
set_option maxHeartbeats 4000000 in
theorem lp_beginCounts {G : zG} {Lf : Nat → (Nat → Int32) → Int32} {Rl : Nat → Nat → (Nat → Int32) → Int32} {n : Nat} (h6 : 6 ≤ n) (hn : n ≤ 10) {I0 : zI} {J0 : zJ} (hB0 : eB1 Lf J0) : ∀ (m i : Nat) (I : zI) (J : zJ), i + m = 7 → eM Lf Rl n I J → cnX Lf n i J → (J 32 = J0 32) → Fr2 I0 J0 I J → V G mX3_beginCounts 18 (zP (fun r I' J' => r = some (.ref 33) ∧ eA Lf Rl I' J' ∧ I' 9 12 = nI n ∧ cnX Lf n 7 J' ∧ Fr2 I0 J0 I' J')) 15 [(0, .ref 9), (1, .int (nI n)), (2, .int (nI i))] [] (0, 0) zsh I J := by
  intro m
  induction m with
  | zero =>
    intro i I J hi hM hC h32 hF
    obtain rfl : i = 7 := by omega
    have hB1 : eB1 Lf J := by unfold eB1 at *; rw [h32]; exact hB0
    refine V_iload_n dX3_beginCounts_15 rfl ?_
    refine V_bipush (v := nI 7) dX3_beginCounts_16 rfl ?_
    refine V_icmp_ge (tgt := 66) dX3_beginCounts_18 rfl (fun _ => ?_) (fun h => absurd h (by decide))
    refine V_aload_n dX3_beginCounts_66 rfl ?_
    refine V_iload_n dX3_beginCounts_67 rfl ?_
    refine V_putW dX3_beginCounts_68 fX3_57 ⟨Nat.le_of_ble_eq_true rfl, Nat.le_of_ble_eq_true rfl⟩ rfl rfl rfl ⟨rfl, rfl⟩ ?_
    refine V_aload_n dX3_beginCounts_71 rfl ?_
    refine V_getR (b := 33) dX3_beginCounts_72 fX3_54 ⟨Nat.le_of_ble_eq_true rfl, Nat.le_of_ble_eq_true rfl⟩ rfl rfl rfl ?_
    exact V_aret ⟨⟨_, rfl⟩, dX3_beginCounts_75⟩ ⟨Nat.le_of_ble_eq_true rfl, Nat.le_of_ble_eq_true rfl⟩ ⟨rfl, rfl, ⟨n, hn, eM_9 hM, hB1, Or.inr ⟨n, h6, hn, zwr_at.trans (if_pos ⟨rfl, rfl⟩), hC⟩⟩, zwr_at.trans (if_pos ⟨rfl, rfl⟩), hC, Fr2_t hF ⟨fun a b _ _ _ _ => zup_n b, fun _ _ _ _ => rfl⟩⟩
  | succ m ih =>
    intro i I J hi hM hC h32 hF
    refine V_iload_n dX3_beginCounts_15 rfl ?_
    refine V_bipush (v := nI 7) dX3_beginCounts_16 rfl ?_
    refine V_icmp_geN (tgt := 66) dX3_beginCounts_18 rfl (by omega) (by omega) (fun h => absurd h (by omega)) (fun _ => ?_)
    refine V_aload_n dX3_beginCounts_21 rfl ?_
    refine V_getR (b := 33) dX3_beginCounts_22 fX3_54 ⟨Nat.le_of_ble_eq_true rfl, Nat.le_of_ble_eq_true rfl⟩ rfl rfl rfl ?_
    refine V_iload_n dX3_beginCounts_25 rfl ?_
    refine V_aload_n dX3_beginCounts_26 rfl ?_
    refine V_bipush (v := nI 55) dX3_beginCounts_27 rfl ?_
    refine V_bipush (v := nI 55) dX3_beginCounts_29 rfl ?_
    refine V_iconst (v := nI 1) dX3_beginCounts_31 rfl ?_
    refine V_iload_n dX3_beginCounts_32 rfl ?_
    refine V_iconst (v := nI 3) dX3_beginCounts_33 rfl ?_
    refine V_isub dX3_beginCounts_34 ?_
    refine V_callV (As := [.int (nI 55), .int (nI 55), .int (nI 1), .int (nI i - nI 3)]) (st := [.int (nI i), .ref 33]) (a := 9) dX3_beginCounts_35 kX3_chanceOfCount lX3_110 (by omega) rfl rfl (Nat.le_of_ble_eq_true rfl) ⟨Nat.le_of_ble_eq_true rfl, Nat.le_of_ble_eq_true rfl⟩ ⟨Nat.le_of_ble_eq_true rfl, Nat.le_of_ble_eq_true rfl⟩ rfl ⟨rfl, by decide⟩ (c_chanceOfCount (cnt := nI i - nI 3) (by decide) (by decide) (by omega) hM) ?_
    rintro r sh' I' J' ⟨rfl, rfl, hM1, hF1⟩
    refine V_eqL (y := vC Lf n 1 i) (congrArg Prod.fst vX_3) ?_
    have sJ : ∀ Z : zJ, Z = J' → Z 33 = J 33 ∧ Z 32 = J 32 ∧ Fr3 I J I' Z := fun Z h => by rw [h]; exact ⟨hF1.2.2 33 (by decide), hF1.2.2 32 (by decide), hF1⟩
    obtain ⟨s1, s2, s3⟩ := sJ _ rfl
    refine V_lastN (k := i) dX3_beginCounts_38 ⟨Nat.le_of_ble_eq_true rfl, Nat.le_of_ble_eq_true rfl⟩ rfl (by decide) (by omega) ?_
    refine V_aload_n dX3_beginCounts_39 rfl ?_
    refine V_getR (b := 33) dX3_beginCounts_40 fX3_54 ⟨Nat.le_of_ble_eq_true rfl, Nat.le_of_ble_eq_true rfl⟩ rfl rfl rfl ?_
    refine V_bipush (v := nI 7) dX3_beginCounts_43 rfl ?_
    refine V_iload_n dX3_beginCounts_45 rfl ?_
    refine V_iaddN dX3_beginCounts_46 ?_
    refine V_aload_n dX3_beginCounts_47 rfl ?_
    refine V_bipush (v := nI 55) dX3_beginCounts_48 rfl ?_
    refine V_bipush (v := nI 55) dX3_beginCounts_50 rfl ?_
    refine V_iconst (v := nI 0) dX3_beginCounts_52 rfl ?_
    refine V_iload_n dX3_beginCounts_53 rfl ?_
    refine V_iconst (v := nI 3) dX3_beginCounts_54 rfl ?_
    refine V_isub dX3_beginCounts_55 ?_
    refine V_callV (As := [.int (nI 55), .int (nI 55), .int (nI 0), .int (nI i - nI 3)]) (st := [.int (nI (7 + i)), .ref 33]) (a := 9) dX3_beginCounts_56 kX3_chanceOfCount lX3_110 (by omega) rfl rfl (Nat.le_of_ble_eq_true rfl) ⟨Nat.le_of_ble_eq_true rfl, Nat.le_of_ble_eq_true rfl⟩ ⟨Nat.le_of_ble_eq_true rfl, Nat.le_of_ble_eq_true rfl⟩ rfl ⟨rfl, by decide⟩ (c_chanceOfCount (cnt := nI i - nI 3) (by decide) (by decide) (by omega) (eM_J hM1 (J' := zwl J' 33 i (vC Lf n 1 i)) (zup_n (by decide)))) ?_
    rintro r sh' I' J' ⟨rfl, rfl, hM2, hF2⟩
    refine V_eqL (y := vC Lf n 0 i) (congrArg Prod.fst vX_3) ?_
    refine V_lastN (k := 7 + i) dX3_beginCounts_59 ⟨Nat.le_of_ble_eq_true rfl, Nat.le_of_ble_eq_true rfl⟩ rfl (by decide) (by omega) ?_
    refine V_iincN (ls' := [(2, .int (nI (i + 1))), (0, .ref 9), (1, .int (nI n))]) (n := 1) dX3_beginCounts_60 rfl rfl (by decide) (by decide) rfl ?_
    refine V_goto (tgt := 15) dX3_beginCounts_63 rfl ?_
    refine V_sub2 (ls' := [(0, .ref 9), (1, .int (nI n)), (2, .int (nI (i + 1)))]) (List.forall_mem_cons.mpr ⟨rfl, List.forall_mem_cons.mpr ⟨rfl, List.forall_mem_cons.mpr ⟨rfl, fun _ h => absurd h List.not_mem_nil⟩⟩⟩) ?_
    refine ih (i + 1) _ _ (by omega) (eM_J hM2 (zup_n (by decide))) ?_ ?_ ?_
    · intro j hj
      have e1 := hF2.2.2 33 (by decide)
      have e2 : ∀ k, _ = J 33 k := fun k => congrFun s1 k
      rw [zwl_at, zwl_at, e1, zwl_at, zwl_at, e2, e2]
      by_cases e : j = i
      · subst e; rw [if_neg (by omega), if_pos ⟨rfl, rfl⟩, if_pos ⟨rfl, by omega⟩]; exact ⟨rfl, rfl⟩
      · rw [if_neg (by omega), if_neg (by omega), if_neg (by omega), if_neg (by omega)]; exact hC j (by omega)
    · rw [show ∀ (Z : zJ) k x, zwl Z 33 k x 32 = Z 32 from fun Z k x => zup_n (by decide), hF2.2.2 32 (by decide), show ∀ (Z : zJ) k x, zwl Z 33 k x 32 = Z 32 from fun Z k x => zup_n (by decide), s2]; exact h32
    · exact Fr2_t hF (Fr2_t (Fr3_2 s3) (Fr2_t ⟨fun _ _ _ _ _ _ => rfl, fun a _ _ c => zup_n c⟩ (Fr2_t (Fr3_2 hF2) ⟨fun _ _ _ _ _ _ => rfl, fun a _ _ c => zup_n c⟩)))

set_option maxRecDepth 100000 in
set_option maxHeartbeats 4000000 in
theorem c_beginCounts {G : zG} {I : zI} {J : zJ} {Lf : Nat → (Nat → Int32) → Int32} {Rl : Nat → Nat → (Nat → Int32) → Int32} {n : Nat} (h6 : 6 ≤ n) (hn : n ≤ 10) (hE : eA Lf Rl I J) : zK G mX3_beginCounts 18 [.ref 9, .int (nI n)] zsh I J (zP (fun r I' J' => r = some (.ref 33) ∧ eA Lf Rl I' J' ∧ I' 9 12 = nI n ∧ cnX Lf n 7 J' ∧ Fr2 I J I' J')) := by
  refine zK_of kX3_beginCounts.2.2.2.2.1 (Nat.le_of_ble_eq_true rfl) ?_
  show V G mX3_beginCounts 18 _ 0 [(0, .ref 9), (1, .int (nI n))] [] (0, 0) zsh I J
  by_cases hk : I 9 12 = nI n
  · skip
    have hC : cnX Lf n 7 J := by
      obtain ⟨far, _, hE2⟩ := id hE
      rcases hE2.2.2 with h | ⟨m, h1, h2, h3, h4⟩
      · rw [hk] at h; exact absurd h (nI_ne_neg (by omega) (by decide))
      · rw [hk, nI_eq (by omega) (by omega)] at h3; subst h3; exact h4
    refine V_aload_n dX3_beginCounts_0 rfl ?_
    refine V_getI dX3_beginCounts_1 fX3_57 ⟨Nat.le_of_ble_eq_true rfl, Nat.le_of_ble_eq_true rfl⟩ rfl rfl ?_
    refine V_iload_n dX3_beginCounts_4 rfl ?_
    refine V_icmp_eq (tgt := 71) dX3_beginCounts_5 rfl (fun _ => ?_) (fun h => absurd hk h)
    refine V_aload_n dX3_beginCounts_71 rfl ?_
    refine V_getR (b := 33) dX3_beginCounts_72 fX3_54 ⟨Nat.le_of_ble_eq_true rfl, Nat.le_of_ble_eq_true rfl⟩ rfl rfl rfl ?_
    exact V_aret ⟨⟨_, rfl⟩, dX3_beginCounts_75⟩ ⟨Nat.le_of_ble_eq_true rfl, Nat.le_of_ble_eq_true rfl⟩ ⟨rfl, rfl, hE, hk, hC, Fr2_r⟩
  · skip
    refine V_aload_n dX3_beginCounts_0 rfl ?_
    refine V_getI dX3_beginCounts_1 fX3_57 ⟨Nat.le_of_ble_eq_true rfl, Nat.le_of_ble_eq_true rfl⟩ rfl rfl ?_
    refine V_iload_n dX3_beginCounts_4 rfl ?_
    refine V_icmp_eq (tgt := 71) dX3_beginCounts_5 rfl (fun h => absurd h hk) (fun _ => ?_)
    refine V_aload_n dX3_beginCounts_8 rfl ?_
    refine V_iload_n dX3_beginCounts_9 rfl ?_
    refine V_callV (As := [.int (nI n)]) (st := []) (a := 9) dX3_beginCounts_10 kX3_standAt lX3_106 (by omega) rfl rfl (Nat.le_of_ble_eq_true rfl) ⟨Nat.le_of_ble_eq_true rfl, Nat.le_of_ble_eq_true rfl⟩ ⟨Nat.le_of_ble_eq_true rfl, Nat.le_of_ble_eq_true rfl⟩ rfl ⟨rfl, by decide⟩ (c_standA (by omega) hE) ?_
    rintro r sh' I' J' ⟨rfl, rfl, hE1, hF1, rfl⟩
    refine V_iconst (v := nI 0) dX3_beginCounts_13 rfl ?_
    refine V_istore_n (ls' := [(2, .int (nI 0)), (0, .ref 9), (1, .int (nI n))]) dX3_beginCounts_14 (by decide) rfl ?_
    refine V_sub2 (ls' := [(0, .ref 9), (1, .int (nI n)), (2, .int (nI 0))]) (List.forall_mem_cons.mpr ⟨rfl, List.forall_mem_cons.mpr ⟨rfl, List.forall_mem_cons.mpr ⟨rfl, fun _ h => absurd h List.not_mem_nil⟩⟩⟩) ?_
    exact lp_beginCounts h6 hn hE1.2.1 7 0 _ _ rfl hE1.1 (fun j hj => absurd hj (by omega)) rfl hF1

theorem eKA_o {Lf : Nat → (Nat → Int32) → Int32} {Rl : Nat → Nat → (Nat → Int32) → Int32} {far : Nat} {kd one two : Int32} {I I' : zI} {J : zJ} (h : eKA Lf Rl far kd one two I J) (e : offT I I') (hN : tenOK I' Lf far (btV Lf far)) (hle : tenLe I I' Lf far) (hkn : tenKn I I') : eKA Lf Rl far kd one two I' J ∧ Fr2 I J I' J := eKA_s h (sPo_o btV_K h.1 e hN hle hkn)
theorem c_hundA {G : zG} {I : zI} {J : zJ} {Lf : Nat → (Nat → Int32) → Int32} {Rl : Nat → Nat → (Nat → Int32) → Int32} {far : Nat} {p q last part : Nat} (hs : sOk p q last) (hpa : part ≤ 6) (hE : eAf Lf Rl far I J) : zK G mX3_hundredths 4 [.ref 9, .int (nI p), .int (nI q), .int (nI last), .int (nI part)] zsh I J (zP (fun r I' J' => r = some (.int (nI (sCh Lf far p q last part))) ∧ eAf Lf Rl far I' J' ∧ Fr2 I J I' J')) := by
  refine zK_imp (c_hundredths hE.1.1 hs hpa) ?_
  rintro r sh' I' J' ⟨rfl, rfl, h1, h2, h3, h4, rfl⟩
  exact ⟨rfl, rfl, eAf_o hE h1 h2 h3 h4⟩
theorem c_hundK {G : zG} {I : zI} {J : zJ} {Lf : Nat → (Nat → Int32) → Int32} {Rl : Nat → Nat → (Nat → Int32) → Int32} {far : Nat} {kd one two : Int32} {p q last part : Nat} (hs : sOk p q last) (hpa : part ≤ 6) (hE : eKA Lf Rl far kd one two I J) : zK G mX3_hundredths 4 [.ref 9, .int (nI p), .int (nI q), .int (nI last), .int (nI part)] zsh I J (zP (fun r I' J' => r = some (.int (nI (sCh Lf far p q last part))) ∧ eKA Lf Rl far kd one two I' J' ∧ Fr2 I J I' J' ∧ J = J')) := by
  refine zK_imp (c_hundredths hE.1.1 hs hpa) ?_
  rintro r sh' I' J' ⟨rfl, rfl, h1, h2, h3, h4, rfl⟩
  exact ⟨rfl, rfl, (eKA_o hE h1 h2 h3 h4).1, (eKA_o hE h1 h2 h3 h4).2, rfl⟩
/-- the part on which a number falls -/
def fallS (ch : Nat → Nat) : Nat → Nat → Nat → Nat
  | 0, part, _ => part
  | n + 1, part, x => if x < ch part then part else fallS ch n (part + 1) (x - ch part)
set_option maxRecDepth 100000 in
set_option maxHeartbeats 4000000 in
theorem c_partOf1 {G : zG} {I : zI} {J : zJ} {Lf : Nat → (Nat → Int32) → Int32} {Rl : Nat → Nat → (Nat → Int32) → Int32} {far : Nat} {kd one two : Int32} {p q last x : Nat} (hs : sOk p q last) (hx : x < 2 ^ 31) (hE : eKA Lf Rl far kd one two I J) : zK G mX3_partOf 5 [.ref 9, .int (nI p), .int (nI q), .int (nI last), .int (nI 1), .int (nI x)] zsh I J (zP (fun r I' J' => r = some (.int (nI (fallS (sCh Lf far p q last) 3 0 x))) ∧ eKA Lf Rl far kd one two I' J' ∧ Fr2 I J I' J' ∧ J = J')) := by
  refine zK_of kX3_partOf.2.2.2.2.1 (Nat.le_of_ble_eq_true rfl) ?_
  show V G mX3_partOf 5 _ 0 [(0, .ref 9), (1, .int (nI p)), (2, .int (nI q)), (3, .int (nI last)), (4, .int (nI 1)), (5, .int (nI x))] [] (0, 0) zsh I J
  refine V_iload dX3_partOf_0 rfl ?_
  refine V_iconst (v := nI 1) dX3_partOf_2 rfl ?_
  refine V_icmp_ne (tgt := 10) dX3_partOf_3 rfl (fun h => absurd h (by decide)) (fun _ => ?_)
  refine V_iconst (v := nI 0) dX3_partOf_6 rfl ?_
  refine V_goto (tgt := 11) dX3_partOf_7 rfl ?_
  refine V_istore (ls' := [(6, .int (nI 0)), (0, .ref 9), (1, .int (nI p)), (2, .int (nI q)), (3, .int (nI last)), (4, .int (nI 1)), (5, .int (nI x))]) dX3_partOf_11 (by decide) rfl ?_
  refine V_iload dX3_partOf_13 rfl ?_
  refine V_iconst (v := nI 1) dX3_partOf_15 rfl ?_
  refine V_icmp_ne (tgt := 23) dX3_partOf_16 rfl (fun h => absurd h (by decide)) (fun _ => ?_)
  refine V_iconst (v := nI 3) dX3_partOf_19 rfl ?_
  refine V_goto (tgt := 25) dX3_partOf_20 rfl ?_
  refine V_istore (ls' := [(7, .int (nI 3)), (6, .int (nI 0)), (0, .ref 9), (1, .int (nI p)), (2, .int (nI q)), (3, .int (nI last)), (4, .int (nI 1)), (5, .int (nI x))]) dX3_partOf_25 (by decide) rfl ?_
  refine V_aload_n dX3_partOf_27 rfl ?_
  refine V_iload_n dX3_partOf_28 rfl ?_
  refine V_iload_n dX3_partOf_29 rfl ?_
  refine V_iload_n dX3_partOf_30 rfl ?_
  refine V_iload dX3_partOf_31 rfl ?_
  refine V_callV (As := [.int (nI p), .int (nI q), .int (nI last), .int (nI 0)]) (st := []) (a := 9) dX3_partOf_33 kX3_hundredths lX3_130 (by omega) rfl rfl (Nat.le_of_ble_eq_true rfl) ⟨Nat.le_of_ble_eq_true rfl, Nat.le_of_ble_eq_true rfl⟩ ⟨Nat.le_of_ble_eq_true rfl, Nat.le_of_ble_eq_true rfl⟩ rfl ⟨rfl, by decide⟩ (c_hundK hs (by omega) hE) ?_
  rintro r sh' I' J' ⟨rfl, rfl, hE1, hF1, rfl⟩
  have hc0 := sCh_le (Lf := Lf) (far := far) (p := p) (q := q) (last := last) (part := 0)
  refine V_istore (ls' := [(8, .int (nI (sCh Lf far p q last 0))), (7, .int (nI 3)), (6, .int (nI 0)), (0, .ref 9), (1, .int (nI p)), (2, .int (nI q)), (3, .int (nI last)), (4, .int (nI 1)), (5, .int (nI x))]) dX3_partOf_36 (by decide) rfl ?_
  refine V_iconst (v := nI 0) dX3_partOf_38 rfl ?_
  refine V_istore (ls' := [(9, .int (nI 0)), (8, .int (nI (sCh Lf far p q last 0))), (7, .int (nI 3)), (6, .int (nI 0)), (0, .ref 9), (1, .int (nI p)), (2, .int (nI q)), (3, .int (nI last)), (4, .int (nI 1)), (5, .int (nI x))]) dX3_partOf_39 (by decide) rfl ?_
  refine V_iload dX3_partOf_41 rfl ?_
  refine V_iconst (v := nI 3) dX3_partOf_43 rfl ?_
  refine V_icmp_ge (tgt := 84) dX3_partOf_44 rfl (fun h => absurd h (by decide)) (fun _ => ?_)
  refine V_iload dX3_partOf_47 rfl ?_
  refine V_iload dX3_partOf_49 rfl ?_
  refine V_icmp_ge (tgt := 84) dX3_partOf_51 rfl (fun h => absurd h (by decide)) (fun _ => ?_)
  refine V_iload dX3_partOf_54 rfl ?_
  refine V_iload dX3_partOf_56 rfl ?_
  refine V_icmp_ltN (tgt := 84) dX3_partOf_58 rfl (by omega) (by omega) (fun h58 => ?_) (fun h58 => ?_)
  · skip
    refine V_iload dX3_partOf_84 rfl ?_
    exact V_iret ⟨Or.inl rfl, dX3_partOf_86⟩ ⟨Nat.le_of_ble_eq_true rfl, Nat.le_of_ble_eq_true rfl⟩ ⟨rfl, congrArg (fun z => some (Value.int (nI z))) (by simp only [fallS, Nat.reduceAdd]; (repeat' split) <;> omega), hE1, hF1, rfl⟩
  · skip
    refine V_iinc (v := nI 1) (ls' := [(6, .int (nI 1)), (9, .int (nI 0)), (8, .int (nI (sCh Lf far p q last 0))), (7, .int (nI 3)), (0, .ref 9), (1, .int (nI p)), (2, .int (nI q)), (3, .int (nI last)), (4, .int (nI 1)), (5, .int (nI x))]) dX3_partOf_61 rfl (by decide) (by decide) rfl ?_
    refine V_iload dX3_partOf_64 rfl ?_
    refine V_aload_n dX3_partOf_66 rfl ?_
    refine V_iload_n dX3_partOf_67 rfl ?_
    refine V_iload_n dX3_partOf_68 rfl ?_
    refine V_iload_n dX3_partOf_69 rfl ?_
    refine V_iload dX3_partOf_70 rfl ?_
    refine V_callV (As := [.int (nI p), .int (nI q), .int (nI last), .int (nI 1)]) (st := [.int (nI (sCh Lf far p q last 0))]) (a := 9) dX3_partOf_72 kX3_hundredths lX3_130 (by omega) rfl rfl (Nat.le_of_ble_eq_true rfl) ⟨Nat.le_of_ble_eq_true rfl, Nat.le_of_ble_eq_true rfl⟩ ⟨Nat.le_of_ble_eq_true rfl, Nat.le_of_ble_eq_true rfl⟩ rfl ⟨rfl, by decide⟩ (c_hundK hs (by omega) hE1) ?_
    rintro r sh' I' J' ⟨rfl, rfl, hE2, hF2, rfl⟩
    have hc1 := sCh_le (Lf := Lf) (far := far) (p := p) (q := q) (last := last) (part := 1)
    refine V_iaddN dX3_partOf_75 ?_
    refine V_istore (ls' := [(8, .int (nI ((sCh Lf far p q last 0) + (sCh Lf far p q last 1)))), (6, .int (nI 1)), (9, .int (nI 0)), (7, .int (nI 3)), (0, .ref 9), (1, .int (nI p)), (2, .int (nI q)), (3, .int (nI last)), (4, .int (nI 1)), (5, .int (nI x))]) dX3_partOf_76 (by decide) rfl ?_
    refine V_iinc (v := nI 1) (ls' := [(9, .int (nI 1)), (8, .int (nI ((sCh Lf far p q last 0) + (sCh Lf far p q last 1)))), (6, .int (nI 1)), (7, .int (nI 3)), (0, .ref 9), (1, .int (nI p)), (2, .int (nI q)), (3, .int (nI last)), (4, .int (nI 1)), (5, .int (nI x))]) dX3_partOf_78 rfl (by decide) (by decide) rfl ?_
    refine V_goto (tgt := 41) dX3_partOf_81 rfl ?_
    refine V_iload dX3_partOf_41 rfl ?_
    refine V_iconst (v := nI 3) dX3_partOf_43 rfl ?_
    refine V_icmp_ge (tgt := 84) dX3_partOf_44 rfl (fun h => absurd h (by decide)) (fun _ => ?_)
    refine V_iload dX3_partOf_47 rfl ?_
    refine V_iload dX3_partOf_49 rfl ?_
    refine V_icmp_ge (tgt := 84) dX3_partOf_51 rfl (fun h => absurd h (by decide)) (fun _ => ?_)
    refine V_iload dX3_partOf_54 rfl ?_
    refine V_iload dX3_partOf_56 rfl ?_
    refine V_icmp_ltN (tgt := 84) dX3_partOf_58 rfl (by omega) (by omega) (fun h58 => ?_) (fun h58 => ?_)
    · skip
      refine V_iload dX3_partOf_84 rfl ?_
      exact V_iret ⟨Or.inl rfl, dX3_partOf_86⟩ ⟨Nat.le_of_ble_eq_true rfl, Nat.le_of_ble_eq_true rfl⟩ ⟨rfl, congrArg (fun z => some (Value.int (nI z))) (by simp only [fallS, Nat.reduceAdd]; (repeat' split) <;> omega), hE2, (Fr2_t hF1 hF2), rfl⟩
    · skip
      refine V_iinc (v := nI 2) (ls' := [(6, .int (nI 2)), (9, .int (nI 1)), (8, .int (nI ((sCh Lf far p q last 0) + (sCh Lf far p q last 1)))), (7, .int (nI 3)), (0, .ref 9), (1, .int (nI p)), (2, .int (nI q)), (3, .int (nI last)), (4, .int (nI 1)), (5, .int (nI x))]) dX3_partOf_61 rfl (by decide) (by decide) rfl ?_
      refine V_iload dX3_partOf_64 rfl ?_
      refine V_aload_n dX3_partOf_66 rfl ?_
      refine V_iload_n dX3_partOf_67 rfl ?_
      refine V_iload_n dX3_partOf_68 rfl ?_
      refine V_iload_n dX3_partOf_69 rfl ?_
      refine V_iload dX3_partOf_70 rfl ?_
      refine V_callV (As := [.int (nI p), .int (nI q), .int (nI last), .int (nI 2)]) (st := [.int (nI ((sCh Lf far p q last 0) + (sCh Lf far p q last 1)))]) (a := 9) dX3_partOf_72 kX3_hundredths lX3_130 (by omega) rfl rfl (Nat.le_of_ble_eq_true rfl) ⟨Nat.le_of_ble_eq_true rfl, Nat.le_of_ble_eq_true rfl⟩ ⟨Nat.le_of_ble_eq_true rfl, Nat.le_of_ble_eq_true rfl⟩ rfl ⟨rfl, by decide⟩ (c_hundK hs (by omega) hE2) ?_
      rintro r sh' I' J' ⟨rfl, rfl, hE3, hF3, rfl⟩
      have hc2 := sCh_le (Lf := Lf) (far := far) (p := p) (q := q) (last := last) (part := 2)
      refine V_iaddN dX3_partOf_75 ?_
      refine V_istore (ls' := [(8, .int (nI (((sCh Lf far p q last 0) + (sCh Lf far p q last 1)) + (sCh Lf far p q last 2)))), (6, .int (nI 2)), (9, .int (nI 1)), (7, .int (nI 3)), (0, .ref 9), (1, .int (nI p)), (2, .int (nI q)), (3, .int (nI last)), (4, .int (nI 1)), (5, .int (nI x))]) dX3_partOf_76 (by decide) rfl ?_
      refine V_iinc (v := nI 2) (ls' := [(9, .int (nI 2)), (8, .int (nI (((sCh Lf far p q last 0) + (sCh Lf far p q last 1)) + (sCh Lf far p q last 2)))), (6, .int (nI 2)), (7, .int (nI 3)), (0, .ref 9), (1, .int (nI p)), (2, .int (nI q)), (3, .int (nI last)), (4, .int (nI 1)), (5, .int (nI x))]) dX3_partOf_78 rfl (by decide) (by decide) rfl ?_
      refine V_goto (tgt := 41) dX3_partOf_81 rfl ?_
      refine V_iload dX3_partOf_41 rfl ?_
      refine V_iconst (v := nI 3) dX3_partOf_43 rfl ?_
      refine V_icmp_ge (tgt := 84) dX3_partOf_44 rfl (fun h => absurd h (by decide)) (fun _ => ?_)
      refine V_iload dX3_partOf_47 rfl ?_
      refine V_iload dX3_partOf_49 rfl ?_
      refine V_icmp_ge (tgt := 84) dX3_partOf_51 rfl (fun h => absurd h (by decide)) (fun _ => ?_)
      refine V_iload dX3_partOf_54 rfl ?_
      refine V_iload dX3_partOf_56 rfl ?_
      refine V_icmp_ltN (tgt := 84) dX3_partOf_58 rfl (by omega) (by omega) (fun h58 => ?_) (fun h58 => ?_)
      · skip
        refine V_iload dX3_partOf_84 rfl ?_
        exact V_iret ⟨Or.inl rfl, dX3_partOf_86⟩ ⟨Nat.le_of_ble_eq_true rfl, Nat.le_of_ble_eq_true rfl⟩ ⟨rfl, congrArg (fun z => some (Value.int (nI z))) (by simp only [fallS, Nat.reduceAdd]; (repeat' split) <;> omega), hE3, (Fr2_t hF1 (Fr2_t hF2 hF3)), rfl⟩
      · skip
        refine V_iinc (v := nI 3) (ls' := [(6, .int (nI 3)), (9, .int (nI 2)), (8, .int (nI (((sCh Lf far p q last 0) + (sCh Lf far p q last 1)) + (sCh Lf far p q last 2)))), (7, .int (nI 3)), (0, .ref 9), (1, .int (nI p)), (2, .int (nI q)), (3, .int (nI last)), (4, .int (nI 1)), (5, .int (nI x))]) dX3_partOf_61 rfl (by decide) (by decide) rfl ?_
        refine V_iload dX3_partOf_64 rfl ?_
        refine V_aload_n dX3_partOf_66 rfl ?_
        refine V_iload_n dX3_partOf_67 rfl ?_
        refine V_iload_n dX3_partOf_68 rfl ?_
        refine V_iload_n dX3_partOf_69 rfl ?_
        refine V_iload dX3_partOf_70 rfl ?_
        refine V_callV (As := [.int (nI p), .int (nI q), .int (nI last), .int (nI 3)]) (st := [.int (nI (((sCh Lf far p q last 0) + (sCh Lf far p q last 1)) + (sCh Lf far p q last 2)))]) (a := 9) dX3_partOf_72 kX3_hundredths lX3_130 (by omega) rfl rfl (Nat.le_of_ble_eq_true rfl) ⟨Nat.le_of_ble_eq_true rfl, Nat.le_of_ble_eq_true rfl⟩ ⟨Nat.le_of_ble_eq_true rfl, Nat.le_of_ble_eq_true rfl⟩ rfl ⟨rfl, by decide⟩ (c_hundK hs (by omega) hE3) ?_
        rintro r sh' I' J' ⟨rfl, rfl, hE4, hF4, rfl⟩
        have hc3 := sCh_le (Lf := Lf) (far := far) (p := p) (q := q) (last := last) (part := 3)
        refine V_iaddN dX3_partOf_75 ?_
        refine V_istore (ls' := [(8, .int (nI ((((sCh Lf far p q last 0) + (sCh Lf far p q last 1)) + (sCh Lf far p q last 2)) + (sCh Lf far p q last 3)))), (6, .int (nI 3)), (9, .int (nI 2)), (7, .int (nI 3)), (0, .ref 9), (1, .int (nI p)), (2, .int (nI q)), (3, .int (nI last)), (4, .int (nI 1)), (5, .int (nI x))]) dX3_partOf_76 (by decide) rfl ?_
        refine V_iinc (v := nI 3) (ls' := [(9, .int (nI 3)), (8, .int (nI ((((sCh Lf far p q last 0) + (sCh Lf far p q last 1)) + (sCh Lf far p q last 2)) + (sCh Lf far p q last 3)))), (6, .int (nI 3)), (7, .int (nI 3)), (0, .ref 9), (1, .int (nI p)), (2, .int (nI q)), (3, .int (nI last)), (4, .int (nI 1)), (5, .int (nI x))]) dX3_partOf_78 rfl (by decide) (by decide) rfl ?_
        refine V_goto (tgt := 41) dX3_partOf_81 rfl ?_
        refine V_iload dX3_partOf_41 rfl ?_
        refine V_iconst (v := nI 3) dX3_partOf_43 rfl ?_
        refine V_icmp_ge (tgt := 84) dX3_partOf_44 rfl (fun _ => ?_) (fun h => absurd h (by decide))
        refine V_iload dX3_partOf_84 rfl ?_
        exact V_iret ⟨Or.inl rfl, dX3_partOf_86⟩ ⟨Nat.le_of_ble_eq_true rfl, Nat.le_of_ble_eq_true rfl⟩ ⟨rfl, congrArg (fun z => some (Value.int (nI z))) (by simp only [fallS, Nat.reduceAdd]; (repeat' split) <;> omega), hE4, (Fr2_t hF1 (Fr2_t hF2 (Fr2_t hF3 hF4))), rfl⟩

set_option maxRecDepth 100000 in
set_option maxHeartbeats 4000000 in
theorem c_partOf2 {G : zG} {I : zI} {J : zJ} {Lf : Nat → (Nat → Int32) → Int32} {Rl : Nat → Nat → (Nat → Int32) → Int32} {far : Nat} {kd one two : Int32} {p q last x : Nat} (hs : sOk p q last) (hx : x < 2 ^ 31) (hE : eKA Lf Rl far kd one two I J) : zK G mX3_partOf 5 [.ref 9, .int (nI p), .int (nI q), .int (nI last), .int (nI 2), .int (nI x)] zsh I J (zP (fun r I' J' => r = some (.int (nI (fallS (sCh Lf far p q last) 2 4 x))) ∧ eKA Lf Rl far kd one two I' J' ∧ Fr2 I J I' J' ∧ J = J')) := by
  refine zK_of kX3_partOf.2.2.2.2.1 (Nat.le_of_ble_eq_true rfl) ?_
  show V G mX3_partOf 5 _ 0 [(0, .ref 9), (1, .int (nI p)), (2, .int (nI q)), (3, .int (nI last)), (4, .int (nI 2)), (5, .int (nI x))] [] (0, 0) zsh I J
  refine V_iload dX3_partOf_0 rfl ?_
  refine V_iconst (v := nI 1) dX3_partOf_2 rfl ?_
  refine V_icmp_ne (tgt := 10) dX3_partOf_3 rfl (fun _ => ?_) (fun h => absurd h (by decide))
  refine V_iconst (v := nI 4) dX3_partOf_10 rfl ?_
  refine V_istore (ls' := [(6, .int (nI 4)), (0, .ref 9), (1, .int (nI p)), (2, .int (nI q)), (3, .int (nI last)), (4, .int (nI 2)), (5, .int (nI x))]) dX3_partOf_11 (by decide) rfl ?_
  refine V_iload dX3_partOf_13 rfl ?_
  refine V_iconst (v := nI 1) dX3_partOf_15 rfl ?_
  refine V_icmp_ne (tgt := 23) dX3_partOf_16 rfl (fun _ => ?_) (fun h => absurd h (by decide))
  refine V_bipush (v := nI 6) dX3_partOf_23 rfl ?_
  refine V_istore (ls' := [(7, .int (nI 6)), (6, .int (nI 4)), (0, .ref 9), (1, .int (nI p)), (2, .int (nI q)), (3, .int (nI last)), (4, .int (nI 2)), (5, .int (nI x))]) dX3_partOf_25 (by decide) rfl ?_
  refine V_aload_n dX3_partOf_27 rfl ?_
  refine V_iload_n dX3_partOf_28 rfl ?_
  refine V_iload_n dX3_partOf_29 rfl ?_
  refine V_iload_n dX3_partOf_30 rfl ?_
  refine V_iload dX3_partOf_31 rfl ?_
  refine V_callV (As := [.int (nI p), .int (nI q), .int (nI last), .int (nI 4)]) (st := []) (a := 9) dX3_partOf_33 kX3_hundredths lX3_130 (by omega) rfl rfl (Nat.le_of_ble_eq_true rfl) ⟨Nat.le_of_ble_eq_true rfl, Nat.le_of_ble_eq_true rfl⟩ ⟨Nat.le_of_ble_eq_true rfl, Nat.le_of_ble_eq_true rfl⟩ rfl ⟨rfl, by decide⟩ (c_hundK hs (by omega) hE) ?_
  rintro r sh' I' J' ⟨rfl, rfl, hE1, hF1, rfl⟩
  have hc4 := sCh_le (Lf := Lf) (far := far) (p := p) (q := q) (last := last) (part := 4)
  refine V_istore (ls' := [(8, .int (nI (sCh Lf far p q last 4))), (7, .int (nI 6)), (6, .int (nI 4)), (0, .ref 9), (1, .int (nI p)), (2, .int (nI q)), (3, .int (nI last)), (4, .int (nI 2)), (5, .int (nI x))]) dX3_partOf_36 (by decide) rfl ?_
  refine V_iconst (v := nI 0) dX3_partOf_38 rfl ?_
  refine V_istore (ls' := [(9, .int (nI 0)), (8, .int (nI (sCh Lf far p q last 4))), (7, .int (nI 6)), (6, .int (nI 4)), (0, .ref 9), (1, .int (nI p)), (2, .int (nI q)), (3, .int (nI last)), (4, .int (nI 2)), (5, .int (nI x))]) dX3_partOf_39 (by decide) rfl ?_
  refine V_iload dX3_partOf_41 rfl ?_
  refine V_iconst (v := nI 3) dX3_partOf_43 rfl ?_
  refine V_icmp_ge (tgt := 84) dX3_partOf_44 rfl (fun h => absurd h (by decide)) (fun _ => ?_)
  refine V_iload dX3_partOf_47 rfl ?_
  refine V_iload dX3_partOf_49 rfl ?_
  refine V_icmp_ge (tgt := 84) dX3_partOf_51 rfl (fun h => absurd h (by decide)) (fun _ => ?_)
  refine V_iload dX3_partOf_54 rfl ?_
  refine V_iload dX3_partOf_56 rfl ?_
  refine V_icmp_ltN (tgt := 84) dX3_partOf_58 rfl (by omega) (by omega) (fun h58 => ?_) (fun h58 => ?_)
  · skip
    refine V_iload dX3_partOf_84 rfl ?_
    exact V_iret ⟨Or.inl rfl, dX3_partOf_86⟩ ⟨Nat.le_of_ble_eq_true rfl, Nat.le_of_ble_eq_true rfl⟩ ⟨rfl, congrArg (fun z => some (Value.int (nI z))) (by simp only [fallS, Nat.reduceAdd]; (repeat' split) <;> omega), hE1, hF1, rfl⟩
  · skip
    refine V_iinc (v := nI 5) (ls' := [(6, .int (nI 5)), (9, .int (nI 0)), (8, .int (nI (sCh Lf far p q last 4))), (7, .int (nI 6)), (0, .ref 9), (1, .int (nI p)), (2, .int (nI q)), (3, .int (nI last)), (4, .int (nI 2)), (5, .int (nI x))]) dX3_partOf_61 rfl (by decide) (by decide) rfl ?_
    refine V_iload dX3_partOf_64 rfl ?_
    refine V_aload_n dX3_partOf_66 rfl ?_
    refine V_iload_n dX3_partOf_67 rfl ?_
    refine V_iload_n dX3_partOf_68 rfl ?_
    refine V_iload_n dX3_partOf_69 rfl ?_
    refine V_iload dX3_partOf_70 rfl ?_
    refine V_callV (As := [.int (nI p), .int (nI q), .int (nI last), .int (nI 5)]) (st := [.int (nI (sCh Lf far p q last 4))]) (a := 9) dX3_partOf_72 kX3_hundredths lX3_130 (by omega) rfl rfl (Nat.le_of_ble_eq_true rfl) ⟨Nat.le_of_ble_eq_true rfl, Nat.le_of_ble_eq_true rfl⟩ ⟨Nat.le_of_ble_eq_true rfl, Nat.le_of_ble_eq_true rfl⟩ rfl ⟨rfl, by decide⟩ (c_hundK hs (by omega) hE1) ?_
    rintro r sh' I' J' ⟨rfl, rfl, hE2, hF2, rfl⟩
    have hc5 := sCh_le (Lf := Lf) (far := far) (p := p) (q := q) (last := last) (part := 5)
    refine V_iaddN dX3_partOf_75 ?_
    refine V_istore (ls' := [(8, .int (nI ((sCh Lf far p q last 4) + (sCh Lf far p q last 5)))), (6, .int (nI 5)), (9, .int (nI 0)), (7, .int (nI 6)), (0, .ref 9), (1, .int (nI p)), (2, .int (nI q)), (3, .int (nI last)), (4, .int (nI 2)), (5, .int (nI x))]) dX3_partOf_76 (by decide) rfl ?_
    refine V_iinc (v := nI 1) (ls' := [(9, .int (nI 1)), (8, .int (nI ((sCh Lf far p q last 4) + (sCh Lf far p q last 5)))), (6, .int (nI 5)), (7, .int (nI 6)), (0, .ref 9), (1, .int (nI p)), (2, .int (nI q)), (3, .int (nI last)), (4, .int (nI 2)), (5, .int (nI x))]) dX3_partOf_78 rfl (by decide) (by decide) rfl ?_
    refine V_goto (tgt := 41) dX3_partOf_81 rfl ?_
    refine V_iload dX3_partOf_41 rfl ?_
    refine V_iconst (v := nI 3) dX3_partOf_43 rfl ?_
    refine V_icmp_ge (tgt := 84) dX3_partOf_44 rfl (fun h => absurd h (by decide)) (fun _ => ?_)
    refine V_iload dX3_partOf_47 rfl ?_
    refine V_iload dX3_partOf_49 rfl ?_
    refine V_icmp_ge (tgt := 84) dX3_partOf_51 rfl (fun h => absurd h (by decide)) (fun _ => ?_)
    refine V_iload dX3_partOf_54 rfl ?_
    refine V_iload dX3_partOf_56 rfl ?_
    refine V_icmp_ltN (tgt := 84) dX3_partOf_58 rfl (by omega) (by omega) (fun h58 => ?_) (fun h58 => ?_)
    · skip
      refine V_iload dX3_partOf_84 rfl ?_
      exact V_iret ⟨Or.inl rfl, dX3_partOf_86⟩ ⟨Nat.le_of_ble_eq_true rfl, Nat.le_of_ble_eq_true rfl⟩ ⟨rfl, congrArg (fun z => some (Value.int (nI z))) (by simp only [fallS, Nat.reduceAdd]; (repeat' split) <;> omega), hE2, (Fr2_t hF1 hF2), rfl⟩
    · skip
      refine V_iinc (v := nI 6) (ls' := [(6, .int (nI 6)), (9, .int (nI 1)), (8, .int (nI ((sCh Lf far p q last 4) + (sCh Lf far p q last 5)))), (7, .int (nI 6)), (0, .ref 9), (1, .int (nI p)), (2, .int (nI q)), (3, .int (nI last)), (4, .int (nI 2)), (5, .int (nI x))]) dX3_partOf_61 rfl (by decide) (by decide) rfl ?_
      refine V_iload dX3_partOf_64 rfl ?_
      refine V_aload_n dX3_partOf_66 rfl ?_
      refine V_iload_n dX3_partOf_67 rfl ?_
      refine V_iload_n dX3_partOf_68 rfl ?_
      refine V_iload_n dX3_partOf_69 rfl ?_
      refine V_iload dX3_partOf_70 rfl ?_
      refine V_callV (As := [.int (nI p), .int (nI q), .int (nI last), .int (nI 6)]) (st := [.int (nI ((sCh Lf far p q last 4) + (sCh Lf far p q last 5)))]) (a := 9) dX3_partOf_72 kX3_hundredths lX3_130 (by omega) rfl rfl (Nat.le_of_ble_eq_true rfl) ⟨Nat.le_of_ble_eq_true rfl, Nat.le_of_ble_eq_true rfl⟩ ⟨Nat.le_of_ble_eq_true rfl, Nat.le_of_ble_eq_true rfl⟩ rfl ⟨rfl, by decide⟩ (c_hundK hs (by omega) hE2) ?_
      rintro r sh' I' J' ⟨rfl, rfl, hE3, hF3, rfl⟩
      have hc6 := sCh_le (Lf := Lf) (far := far) (p := p) (q := q) (last := last) (part := 6)
      refine V_iaddN dX3_partOf_75 ?_
      refine V_istore (ls' := [(8, .int (nI (((sCh Lf far p q last 4) + (sCh Lf far p q last 5)) + (sCh Lf far p q last 6)))), (6, .int (nI 6)), (9, .int (nI 1)), (7, .int (nI 6)), (0, .ref 9), (1, .int (nI p)), (2, .int (nI q)), (3, .int (nI last)), (4, .int (nI 2)), (5, .int (nI x))]) dX3_partOf_76 (by decide) rfl ?_
      refine V_iinc (v := nI 2) (ls' := [(9, .int (nI 2)), (8, .int (nI (((sCh Lf far p q last 4) + (sCh Lf far p q last 5)) + (sCh Lf far p q last 6)))), (6, .int (nI 6)), (7, .int (nI 6)), (0, .ref 9), (1, .int (nI p)), (2, .int (nI q)), (3, .int (nI last)), (4, .int (nI 2)), (5, .int (nI x))]) dX3_partOf_78 rfl (by decide) (by decide) rfl ?_
      refine V_goto (tgt := 41) dX3_partOf_81 rfl ?_
      refine V_iload dX3_partOf_41 rfl ?_
      refine V_iconst (v := nI 3) dX3_partOf_43 rfl ?_
      refine V_icmp_ge (tgt := 84) dX3_partOf_44 rfl (fun h => absurd h (by decide)) (fun _ => ?_)
      refine V_iload dX3_partOf_47 rfl ?_
      refine V_iload dX3_partOf_49 rfl ?_
      refine V_icmp_ge (tgt := 84) dX3_partOf_51 rfl (fun _ => ?_) (fun h => absurd h (by decide))
      refine V_iload dX3_partOf_84 rfl ?_
      exact V_iret ⟨Or.inl rfl, dX3_partOf_86⟩ ⟨Nat.le_of_ble_eq_true rfl, Nat.le_of_ble_eq_true rfl⟩ ⟨rfl, congrArg (fun z => some (Value.int (nI z))) (by simp only [fallS, Nat.reduceAdd]; (repeat' split) <;> omega), hE3, (Fr2_t hF1 (Fr2_t hF2 hF3)), rfl⟩

/-- what a throw at a state is worth by an aim -/
def wX (kd one two : Int32) (Rl : Nat → Nat → (Nat → Int32) → Int32) (Lf : Nat → (Nat → Int32) → Int32) (far p q l t : Nat) : Int64 := sW (fun a b l => (sV kd one two Rl (btV Lf far) Lf far (hnd p q - 1) a b l).1) Lf far p q l t
/-- by how much a throw is worse than the best -/
def lossX (kd one two : Int32) (Rl : Nat → Nat → (Nat → Int32) → Int32) (Lf : Nat → (Nat → Int32) → Int32) (far p q l t : Nat) : Int64 :=
  if sWho p q l = 2 then 0 else if (if sWho p q l = 0 then (vX kd one two Rl Lf far p q l).1 - wX kd one two Rl Lf far p q l t else -((vX kd one two Rl Lf far p q l).1 - wX kd one two Rl Lf far p q l t)) < 0 then 0 else (if sWho p q l = 0 then (vX kd one two Rl Lf far p q l).1 - wX kd one two Rl Lf far p q l t else -((vX kd one two Rl Lf far p q l).1 - wX kd one two Rl Lf far p q l t))
theorem hnd_s {p q last : Nat} (hs : sOk p q last) : hnd p q = hnd p q - 1 + 1 := by
  have : 0 < hnd p q := by
    unfold hnd
    rcases hs.2.2.2 with h | h
    · have := tHand_pos h hs.1; omega
    · have := tHand_pos h hs.2.1; omega
  omega
set_option maxRecDepth 100000 in
set_option maxHeartbeats 4000000 in
theorem c_lossBy1 {G : zG} {I : zI} {J : zJ} {Lf : Nat → (Nat → Int32) → Int32} {Rl : Nat → Nat → (Nat → Int32) → Int32} {far : Nat} {kd one two : Int32} {p q last : Nat} (hp : p < 56) (hq : q < 56) (hl : last ≤ 1) (hE : eKA Lf Rl far kd one two I J) (h3 : kd ≠ 3) : zK G mX3_lossBy 18 [.ref 9, .int (nI p), .int (nI q), .int (nI last), .int (nI 1)] zsh I J (zP (fun r I' J' => r = some (.long (lossX kd one two Rl Lf far p q last 1)) ∧ eKA Lf Rl far kd one two I' J' ∧ Fr2 I J I' J')) := by
  refine zK_of kX3_lossBy.2.2.2.2.1 (Nat.le_of_ble_eq_true rfl) ?_
  show V G mX3_lossBy 18 _ 0 [(0, .ref 9), (1, .int (nI p)), (2, .int (nI q)), (3, .int (nI last)), (4, .int (nI 1))] [] (0, 0) zsh I J
  have hT : tabX I := hE.1.1.1
  have h6 := hnd_6 hp hq
  refine V_aload_n dX3_lossBy_0 rfl ?_
  refine V_getR (b := 10) dX3_lossBy_1 fX3_14 ⟨Nat.le_of_ble_eq_true rfl, Nat.le_of_ble_eq_true rfl⟩ rfl rfl rfl ?_
  refine V_iload_n dX3_lossBy_4 rfl ?_
  refine V_iload_n dX3_lossBy_5 rfl ?_
  refine V_iload_n dX3_lossBy_6 rfl ?_
  refine V_callV (As := [.int (nI p), .int (nI q), .int (nI last)]) (st := []) (a := 10) dX3_lossBy_7 kX2_whoPlays lX3_92 (by omega) rfl rfl (Nat.le_of_ble_eq_true rfl) ⟨Nat.le_of_ble_eq_true rfl, Nat.le_of_ble_eq_true rfl⟩ ⟨Nat.le_of_ble_eq_true rfl, Nat.le_of_ble_eq_true rfl⟩ rfl ⟨rfl, by decide⟩ (c_whoPlays hT hp hq hl) ?_
  rintro _ _ _ _ ⟨rfl, rfl, rfl, rfl⟩
  refine V_istore (ls' := [(5, .int (nI (sWho p q last))), (0, .ref 9), (1, .int (nI p)), (2, .int (nI q)), (3, .int (nI last)), (4, .int (nI 1))]) dX3_lossBy_10 (by decide) rfl ?_
  refine V_iload dX3_lossBy_12 rfl ?_
  refine V_iconst (v := nI 2) dX3_lossBy_14 rfl ?_
  by_cases hw : sWho p q last = 2
  · skip
    refine V_eqI (y := nI 2) rfl ?_
    rw [hw]
    refine V_icmp_ne (tgt := 20) dX3_lossBy_15 rfl (fun h => absurd rfl h) (fun _ => ?_)
    refine V_lconst (v := 0) dX3_lossBy_18 rfl ?_
    exact V_lret ⟨rfl, dX3_lossBy_19⟩ ⟨Nat.le_of_ble_eq_true rfl, Nat.le_of_ble_eq_true rfl⟩ ⟨rfl, by unfold lossX; rw [if_pos hw], hE, Fr2_r⟩
  · skip
    have hs := sWho_ok hp hq hl hw
    have hsw := sWho_le1 hp hq hs.2.2.2 (last := last)
    refine V_icmp_neN (tgt := 20) dX3_lossBy_15 rfl (by omega) (by omega) (fun _ => ?_) (fun h => absurd h (by omega))
    refine V_aload_n dX3_lossBy_20 rfl ?_
    refine V_iload_n dX3_lossBy_21 rfl ?_
    refine V_iload_n dX3_lossBy_22 rfl ?_
    refine V_iload_n dX3_lossBy_23 rfl ?_
    refine V_iconst (v := nI 0) dX3_lossBy_24 rfl ?_
    refine V_callV (As := [.int (nI p), .int (nI q), .int (nI last), .int (nI 0)]) (st := []) (a := 9) dX3_lossBy_25 kX3_settle lX3_84 (by omega) rfl rfl (Nat.le_of_ble_eq_true rfl) ⟨Nat.le_of_ble_eq_true rfl, Nat.le_of_ble_eq_true rfl⟩ ⟨Nat.le_of_ble_eq_true rfl, Nat.le_of_ble_eq_true rfl⟩ rfl ⟨rfl, by decide⟩ (c_settleX hp hq hl hE.1 (fun e => absurd e h3)) ?_
    rintro r sh' I' J' ⟨rfl, rfl, hP, hK⟩
    refine V_iconst (v := nI 1) dX3_lossBy_28 rfl ?_
    refine V_lshr dX3_lossBy_29 (V_eqL (y := (vX kd one two Rl Lf far p q last).1) (eW_shr (vX_b (by omega) (by omega)).1 (vX_b (by omega) (by omega)).2 rfl) ?_)
    refine V_aload_n dX3_lossBy_30 rfl ?_
    refine V_iload dX3_lossBy_31 rfl ?_
    refine V_iload_n dX3_lossBy_33 rfl ?_
    refine V_iload_n dX3_lossBy_34 rfl ?_
    refine V_iload_n dX3_lossBy_35 rfl ?_
    refine V_iconst (v := nI 0) dX3_lossBy_36 rfl ?_
    refine V_callV (As := [.int (nI 1), .int (nI p), .int (nI q), .int (nI last), .int (nI 0)]) (st := [.long ((vX kd one two Rl Lf far p q last).1)]) (a := 9) dX3_lossBy_37 kX3_worthOfThrow lX3_113 (by omega) rfl rfl (Nat.le_of_ble_eq_true rfl) ⟨Nat.le_of_ble_eq_true rfl, Nat.le_of_ble_eq_true rfl⟩ ⟨Nat.le_of_ble_eq_true rfl, Nat.le_of_ble_eq_true rfl⟩ rfl ⟨rfl, by decide⟩ (c_worth1 btV_K (c_settle btV_K (hnd p q - 1)) hs (hnd_s hs) (by omega) hP.2.1 (fun e => absurd e h3)) ?_
    rintro r sh' I' J' ⟨rfl, rfl, hP2, -, -⟩
    refine V_lsub dX3_lossBy_40 ?_
    refine V_lstore (ls' := [(6, .long (((vX kd one two Rl Lf far p q last).1) - (wX kd one two Rl Lf far p q last 1))), (5, .int (nI (sWho p q last))), (0, .ref 9), (1, .int (nI p)), (2, .int (nI q)), (3, .int (nI last)), (4, .int (nI 1))]) dX3_lossBy_41 (by decide) rfl ?_
    refine V_lconst (v := 0) dX3_lossBy_43 rfl ?_
    refine V_iload dX3_lossBy_44 rfl ?_
    refine V_if_neN (tgt := 54) dX3_lossBy_46 rfl (by omega) (fun h46 => ?_) (fun h46 => ?_)
    · skip
      refine V_lload dX3_lossBy_54 rfl ?_
      refine V_lneg dX3_lossBy_56 ?_
      refine V_lmax dX3_lossBy_57 jX3_117 (by decide) (Nat.le_of_ble_eq_true rfl) ⟨Nat.le_of_ble_eq_true rfl, Nat.le_of_ble_eq_true rfl⟩ ?_
      exact V_lret ⟨rfl, dX3_lossBy_60⟩ ⟨Nat.le_of_ble_eq_true rfl, Nat.le_of_ble_eq_true rfl⟩ ⟨rfl, by unfold lossX; rw [if_neg hw]; first | rw [if_pos h46] | rw [if_neg h46], (eKA_s (eKA_s hE hP).1 hP2).1, Fr2_t (eKA_s hE hP).2 (eKA_s (eKA_s hE hP).1 hP2).2⟩
    · skip
      refine V_lload dX3_lossBy_49 rfl ?_
      refine V_goto (tgt := 57) dX3_lossBy_51 rfl ?_
      refine V_lmax dX3_lossBy_57 jX3_117 (by decide) (Nat.le_of_ble_eq_true rfl) ⟨Nat.le_of_ble_eq_true rfl, Nat.le_of_ble_eq_true rfl⟩ ?_
      exact V_lret ⟨rfl, dX3_lossBy_60⟩ ⟨Nat.le_of_ble_eq_true rfl, Nat.le_of_ble_eq_true rfl⟩ ⟨rfl, by unfold lossX; rw [if_neg hw]; first | rw [if_pos h46] | rw [if_neg h46], (eKA_s (eKA_s hE hP).1 hP2).1, Fr2_t (eKA_s hE hP).2 (eKA_s (eKA_s hE hP).1 hP2).2⟩

set_option maxRecDepth 100000 in
set_option maxHeartbeats 4000000 in
theorem c_lossBy2 {G : zG} {I : zI} {J : zJ} {Lf : Nat → (Nat → Int32) → Int32} {Rl : Nat → Nat → (Nat → Int32) → Int32} {far : Nat} {kd one two : Int32} {p q last : Nat} (hp : p < 56) (hq : q < 56) (hl : last ≤ 1) (hE : eKA Lf Rl far kd one two I J) (h3 : kd ≠ 3) : zK G mX3_lossBy 18 [.ref 9, .int (nI p), .int (nI q), .int (nI last), .int (nI 2)] zsh I J (zP (fun r I' J' => r = some (.long (lossX kd one two Rl Lf far p q last 2)) ∧ eKA Lf Rl far kd one two I' J' ∧ Fr2 I J I' J')) := by
  refine zK_of kX3_lossBy.2.2.2.2.1 (Nat.le_of_ble_eq_true rfl) ?_
  show V G mX3_lossBy 18 _ 0 [(0, .ref 9), (1, .int (nI p)), (2, .int (nI q)), (3, .int (nI last)), (4, .int (nI 2))] [] (0, 0) zsh I J
  have hT : tabX I := hE.1.1.1
  have h6 := hnd_6 hp hq
  refine V_aload_n dX3_lossBy_0 rfl ?_
  refine V_getR (b := 10) dX3_lossBy_1 fX3_14 ⟨Nat.le_of_ble_eq_true rfl, Nat.le_of_ble_eq_true rfl⟩ rfl rfl rfl ?_
  refine V_iload_n dX3_lossBy_4 rfl ?_
  refine V_iload_n dX3_lossBy_5 rfl ?_
  refine V_iload_n dX3_lossBy_6 rfl ?_
  refine V_callV (As := [.int (nI p), .int (nI q), .int (nI last)]) (st := []) (a := 10) dX3_lossBy_7 kX2_whoPlays lX3_92 (by omega) rfl rfl (Nat.le_of_ble_eq_true rfl) ⟨Nat.le_of_ble_eq_true rfl, Nat.le_of_ble_eq_true rfl⟩ ⟨Nat.le_of_ble_eq_true rfl, Nat.le_of_ble_eq_true rfl⟩ rfl ⟨rfl, by decide⟩ (c_whoPlays hT hp hq hl) ?_
  rintro _ _ _ _ ⟨rfl, rfl, rfl, rfl⟩
  refine V_istore (ls' := [(5, .int (nI (sWho p q last))), (0, .ref 9), (1, .int (nI p)), (2, .int (nI q)), (3, .int (nI last)), (4, .int (nI 2))]) dX3_lossBy_10 (by decide) rfl ?_
  refine V_iload dX3_lossBy_12 rfl ?_
  refine V_iconst (v := nI 2) dX3_lossBy_14 rfl ?_
  by_cases hw : sWho p q last = 2
  · skip
    refine V_eqI (y := nI 2) rfl ?_
    rw [hw]
    refine V_icmp_ne (tgt := 20) dX3_lossBy_15 rfl (fun h => absurd rfl h) (fun _ => ?_)
    refine V_lconst (v := 0) dX3_lossBy_18 rfl ?_
    exact V_lret ⟨rfl, dX3_lossBy_19⟩ ⟨Nat.le_of_ble_eq_true rfl, Nat.le_of_ble_eq_true rfl⟩ ⟨rfl, by unfold lossX; rw [if_pos hw], hE, Fr2_r⟩
  · skip
    have hs := sWho_ok hp hq hl hw
    have hsw := sWho_le1 hp hq hs.2.2.2 (last := last)
    refine V_icmp_neN (tgt := 20) dX3_lossBy_15 rfl (by omega) (by omega) (fun _ => ?_) (fun h => absurd h (by omega))
    refine V_aload_n dX3_lossBy_20 rfl ?_
    refine V_iload_n dX3_lossBy_21 rfl ?_
    refine V_iload_n dX3_lossBy_22 rfl ?_
    refine V_iload_n dX3_lossBy_23 rfl ?_
    refine V_iconst (v := nI 0) dX3_lossBy_24 rfl ?_
    refine V_callV (As := [.int (nI p), .int (nI q), .int (nI last), .int (nI 0)]) (st := []) (a := 9) dX3_lossBy_25 kX3_settle lX3_84 (by omega) rfl rfl (Nat.le_of_ble_eq_true rfl) ⟨Nat.le_of_ble_eq_true rfl, Nat.le_of_ble_eq_true rfl⟩ ⟨Nat.le_of_ble_eq_true rfl, Nat.le_of_ble_eq_true rfl⟩ rfl ⟨rfl, by decide⟩ (c_settleX hp hq hl hE.1 (fun e => absurd e h3)) ?_
    rintro r sh' I' J' ⟨rfl, rfl, hP, hK⟩
    refine V_iconst (v := nI 1) dX3_lossBy_28 rfl ?_
    refine V_lshr dX3_lossBy_29 (V_eqL (y := (vX kd one two Rl Lf far p q last).1) (eW_shr (vX_b (by omega) (by omega)).1 (vX_b (by omega) (by omega)).2 rfl) ?_)
    refine V_aload_n dX3_lossBy_30 rfl ?_
    refine V_iload dX3_lossBy_31 rfl ?_
    refine V_iload_n dX3_lossBy_33 rfl ?_
    refine V_iload_n dX3_lossBy_34 rfl ?_
    refine V_iload_n dX3_lossBy_35 rfl ?_
    refine V_iconst (v := nI 0) dX3_lossBy_36 rfl ?_
    refine V_callV (As := [.int (nI 2), .int (nI p), .int (nI q), .int (nI last), .int (nI 0)]) (st := [.long ((vX kd one two Rl Lf far p q last).1)]) (a := 9) dX3_lossBy_37 kX3_worthOfThrow lX3_113 (by omega) rfl rfl (Nat.le_of_ble_eq_true rfl) ⟨Nat.le_of_ble_eq_true rfl, Nat.le_of_ble_eq_true rfl⟩ ⟨Nat.le_of_ble_eq_true rfl, Nat.le_of_ble_eq_true rfl⟩ rfl ⟨rfl, by decide⟩ (c_worth2 btV_K (c_settle btV_K (hnd p q - 1)) hs (hnd_s hs) (by omega) hP.2.1 (fun e => absurd e h3)) ?_
    rintro r sh' I' J' ⟨rfl, rfl, hP2, -, -⟩
    refine V_lsub dX3_lossBy_40 ?_
    refine V_lstore (ls' := [(6, .long (((vX kd one two Rl Lf far p q last).1) - (wX kd one two Rl Lf far p q last 2))), (5, .int (nI (sWho p q last))), (0, .ref 9), (1, .int (nI p)), (2, .int (nI q)), (3, .int (nI last)), (4, .int (nI 2))]) dX3_lossBy_41 (by decide) rfl ?_
    refine V_lconst (v := 0) dX3_lossBy_43 rfl ?_
    refine V_iload dX3_lossBy_44 rfl ?_
    refine V_if_neN (tgt := 54) dX3_lossBy_46 rfl (by omega) (fun h46 => ?_) (fun h46 => ?_)
    · skip
      refine V_lload dX3_lossBy_54 rfl ?_
      refine V_lneg dX3_lossBy_56 ?_
      refine V_lmax dX3_lossBy_57 jX3_117 (by decide) (Nat.le_of_ble_eq_true rfl) ⟨Nat.le_of_ble_eq_true rfl, Nat.le_of_ble_eq_true rfl⟩ ?_
      exact V_lret ⟨rfl, dX3_lossBy_60⟩ ⟨Nat.le_of_ble_eq_true rfl, Nat.le_of_ble_eq_true rfl⟩ ⟨rfl, by unfold lossX; rw [if_neg hw]; first | rw [if_pos h46] | rw [if_neg h46], (eKA_s (eKA_s hE hP).1 hP2).1, Fr2_t (eKA_s hE hP).2 (eKA_s (eKA_s hE hP).1 hP2).2⟩
    · skip
      refine V_lload dX3_lossBy_49 rfl ?_
      refine V_goto (tgt := 57) dX3_lossBy_51 rfl ?_
      refine V_lmax dX3_lossBy_57 jX3_117 (by decide) (Nat.le_of_ble_eq_true rfl) ⟨Nat.le_of_ble_eq_true rfl, Nat.le_of_ble_eq_true rfl⟩ ?_
      exact V_lret ⟨rfl, dX3_lossBy_60⟩ ⟨Nat.le_of_ble_eq_true rfl, Nat.le_of_ble_eq_true rfl⟩ ⟨rfl, by unfold lossX; rw [if_neg hw]; first | rw [if_pos h46] | rw [if_neg h46], (eKA_s (eKA_s hE hP).1 hP2).1, Fr2_t (eKA_s hE hP).2 (eKA_s (eKA_s hE hP).1 hP2).2⟩

