/-! BOTH: the solver's calls -/
section
variable {I J' : zI}
theorem Fr24 {I I' : zI} {J J' : zJ} (h : Fr2 I J I' J') : Fr4 I J I' J' := ⟨fun a h1 h2 h3 h4 h5 _ => h.1 a h1 h2 h3 h4 h5, h.2⟩
end
theorem soR_1 {I I1 : zI} {J J1 : zJ} {a : clsT} {M : mnT} {ar : Nat → clsT} {Mr : Nat → mnT} {far : Nat} (h : soR I J a M ar Mr far) (f : Fr4 I J I1 J1) : soR I1 J1 a M ar Mr far := soR_c h (fun b hb => f.1 b (by omega) (by omega) (by omega) (by omega) (by omega) (by omega)) (fun k _ => congrFun (f.1 62 (by decide) (by decide) (by decide) (by decide) (by decide) (by decide)) k) (f.2 83 (by decide) (by decide) (by decide))
theorem REL_sol {I I1 I2 : zI} {J J1 J2 : zJ} {a : clsT} {M : mnT} {ar : Nat → clsT} {Mr : Nat → mnT} {far x t : Nat} (hO : gO far x t I) (k4 : I 16 2 = nI a.length) (k5 : ∀ k, k < 4 → I (19 + 2 * k) 2 = nI (ar k).length) (h1 : eA (lfM a M) (rlM ar Mr) I1 J1) (f1 : Fr4 I J I1 J1) (h2 : soR I2 J2 a M ar Mr far) (f2 : offX I1 J1 I2 J2) (h5 : I2 62 5 = nI far) : REL I2 J2 := by
  have e : ∀ b, b ≠ 62 → (b < 9 ∨ b = 16 ∨ 19 ≤ b ∧ b ≤ 26 ∨ 36 ≤ b) → (b < 79 ∨ b = 83 ∨ b = 84 ∨ 89 ≤ b) → I2 b = I b := fun b h0 h1 h2 => (f2.1 b h0 (by omega) (by omega) (by omega) (by omega) (by omega) (by omega)).trans (f1.1 b (by omega) (by omega) (by omega) (by omega) (by omega) (by omega))
  have e62 : I1 62 = I 62 := f1.1 62 (by decide) (by decide) (by decide) (by decide) (by decide) (by decide)
  refine ⟨far, x, t, gO_c hO (fun b hb => e b (by omega) (by omega) (by omega)) (fun k => congrFun (e 2 (by omega) (by omega) (by omega)) k) (congrFun (e 3 (by omega) (by omega) (by omega)) 1) (fun k hk => (f2.2.1 k (by omega) (by omega)).trans (congrFun e62 k)), a, M, ar, Mr, ?_, h2, h5, (congrFun (e 16 (by omega) (by omega) (by omega)) 2).trans k4, fun k hk => (congrFun (e (19 + 2 * k) (by omega) (by omega) (by omega)) 2).trans (k5 k hk)⟩
  exact eA_c h1 (fun b h1 h2 => f2.1 b (by omega) (by omega) (by omega) (by omega) (by omega) (by omega) (by omega)) (f2.2.2 31 (by decide) (by decide) (by decide) (by decide)) (f2.2.2 32 (by decide) (by decide) (by decide) (by decide)) (f2.2.2 33 (by decide) (by decide) (by decide) (by decide))
theorem cM_1 {I I1 : zI} {J J1 : zJ} {c0 : Nat} {cc : Nat → Nat} (h : cM I c0 cc) (f : Fr4 I J I1 J1) : cM I1 c0 cc := by
  unfold cM at *
  rw [f.1 74 (by decide) (by decide) (by decide) (by decide) (by decide) (by decide)]
  exact h
theorem f62 {I I1 : zI} {J J1 : zJ} (f : Fr4 I J I1 J1) : I1 62 = I 62 := f.1 62 (by decide) (by decide) (by decide) (by decide) (by decide) (by decide)
set_option maxRecDepth 100000 in
set_option maxHeartbeats 4000000 in
theorem tw_best {G : zG} {a b c d : Int32} : twin G true mX11_best mX12_best [.int a, .int b, .int c, .int d] := by
  intro I J hR
  obtain ⟨far, x0, t, hO, hE⟩ := id hR
  obtain ⟨hFX, hT, hH, hB, hF, hK, hL⟩ := id hO
  obtain ⟨a0, M, ar, Mr, e1, hS, e5, k4, k5⟩ := id hE
  refine ⟨_, _, _, by decide, kvL, c_best e1 hFX.1 hFX.2.1 hFX.2.2.1, ?_⟩
  rintro I1 J1 ⟨q1, f1⟩
  have hS1 := soR_1 hS (Fr24 f1)
  have h5 : I1 62 5 = nI far := (congrFun (f62 (Fr24 f1)) 5).trans e5
  refine ⟨_, by decide, zK_imp (w_best hS1 hFX.2.1 hFX.2.2.1 h5) ?_⟩
  rintro _ _ I2 J2 ⟨rfl, rfl, g1, g2, g3⟩
  exact ⟨rfl, rfl, REL_sol hO k4 k5 q1 (Fr24 f1) g1 g2 g3⟩
set_option maxRecDepth 100000 in
set_option maxHeartbeats 4000000 in
theorem tw_likely {G : zG} {a b c d : Int32} : twin G true mX11_likely mX12_likely [.int a, .int b, .int c, .int d] := by
  intro I J hR
  obtain ⟨far, x0, t, hO, hE⟩ := id hR
  obtain ⟨hFX, hT, hH, hB, hF, hK, hL⟩ := id hO
  obtain ⟨a0, M, ar, Mr, e1, hS, e5, k4, k5⟩ := id hE
  refine ⟨_, _, _, by decide, kvL, c_likely e1 hFX.1 hFX.2.1 hFX.2.2.1, ?_⟩
  rintro I1 J1 ⟨q1, f1⟩
  have hS1 := soR_1 hS (Fr24 f1)
  have h5 : I1 62 5 = nI far := (congrFun (f62 (Fr24 f1)) 5).trans e5
  refine ⟨_, by decide, zK_imp (w_likely hS1 hFX.2.1 hFX.2.2.1 h5) ?_⟩
  rintro _ _ I2 J2 ⟨rfl, rfl, g1, g2, g3⟩
  exact ⟨rfl, rfl, REL_sol hO k4 k5 q1 (Fr24 f1) g1 g2 g3⟩
set_option maxRecDepth 100000 in
set_option maxHeartbeats 4000000 in
theorem tw_goFor {G : zG} {a b c d e : Int32} : twin G true mX11_goFor mX12_goFor [.int a, .int b, .int c, .int d, .int e] := by
  intro I J hR
  obtain ⟨far, x0, t, hO, hE⟩ := id hR
  obtain ⟨hFX, hT, hH, hB, hF, hK, hL⟩ := id hO
  obtain ⟨a0, M, ar, Mr, e1, hS, e5, k4, k5⟩ := id hE
  refine ⟨_, _, _, by decide, kvL, c_goFor e1 hFX.1 hFX.2.1 hFX.2.2.1, ?_⟩
  rintro I1 J1 ⟨q1, f1⟩
  have hS1 := soR_1 hS (Fr24 f1)
  have h5 : I1 62 5 = nI far := (congrFun (f62 (Fr24 f1)) 5).trans e5
  refine ⟨_, by decide, zK_imp (w_goFor hS1 hFX.2.1 hFX.2.2.1 h5) ?_⟩
  rintro _ _ I2 J2 ⟨rfl, rfl, g1, g2, g3⟩
  exact ⟨rfl, rfl, REL_sol hO k4 k5 q1 (Fr24 f1) g1 g2 g3⟩
set_option maxRecDepth 100000 in
set_option maxHeartbeats 4000000 in
theorem tw_toThrow {G : zG} {a b : Int32} : twin G true mX11_toThrow mX12_toThrow [.int a, .int b] := by
  intro I J hR
  obtain ⟨far, x0, t, hO, hE⟩ := id hR
  obtain ⟨hFX, hT, hH, hB, hF, hK, hL⟩ := id hO
  obtain ⟨a0, M, ar, Mr, e1, hS, e5, k4, k5⟩ := id hE
  refine ⟨_, _, _, by decide, kvL, c_toThrow e1, ?_⟩
  rintro I1 J1 ⟨q1, f1⟩
  have hS1 := soR_1 hS (Fr24 f1)
  have h5 : I1 62 5 = nI far := (congrFun (f62 (Fr24 f1)) 5).trans e5
  refine ⟨_, by decide, zK_imp (w_toThrow hS1 hFX.2.1 hFX.2.2.1 h5) ?_⟩
  rintro _ _ I2 J2 ⟨rfl, rfl, g1, g2, g3⟩
  exact ⟨rfl, rfl, REL_sol hO k4 k5 q1 (Fr24 f1) g1 g2 g3⟩
set_option maxRecDepth 100000 in
set_option maxHeartbeats 4000000 in
theorem tw_by {G : zG} {a b c d e f : Int32} : twin G true mX11_by mX12_by [.int a, .int b, .int c, .int d, .int e, .int f] := by
  intro I J hR
  obtain ⟨far, x0, t, hO, hE⟩ := id hR
  obtain ⟨hFX, hT, hH, hB, hF, hK, hL⟩ := id hO
  obtain ⟨a0, M, ar, Mr, e1, hS, e5, k4, k5⟩ := id hE
  obtain ⟨c0, cc, hC, hM⟩ := gE_cC hE
  refine ⟨_, _, _, by decide, kvL, c_by e1 hFX.1 hFX.2.1 hFX.2.2.1 hC, ?_⟩
  rintro I1 J1 ⟨q1, f1⟩
  have hS1 := soR_1 hS (Fr24 f1)
  have h5 : I1 62 5 = nI far := (congrFun (f62 (Fr24 f1)) 5).trans e5
  refine ⟨_, by decide, zK_imp (w_by hS1 hFX.2.1 hFX.2.2.1 h5 (cM_1 hM (Fr24 f1))) ?_⟩
  rintro _ _ I2 J2 ⟨rfl, rfl, g1, g2, g3⟩
  exact ⟨rfl, rfl, REL_sol hO k4 k5 q1 (Fr24 f1) g1 g2 g3⟩
set_option maxRecDepth 100000 in
set_option maxHeartbeats 4000000 in
theorem tw_lastBall {G : zG} {a : Int32} : twin G true mX11_lastBall mX12_lastBall [.int a] := by
  intro I J hR
  obtain ⟨far, x0, t, hO, hE⟩ := id hR
  obtain ⟨hFX, hT, hH, hB, hF, hK, hL⟩ := id hO
  obtain ⟨a0, M, ar, Mr, e1, hS, e5, k4, k5⟩ := id hE
  refine ⟨_, _, _, by decide, kvL, c_lastBall e1 hFX.1 hFX.2.1 hFX.2.2.1, ?_⟩
  rintro I1 J1 ⟨q1, f1⟩
  have hS1 := soR_1 hS (Fr24 f1)
  have h5 : I1 62 5 = nI far := (congrFun (f62 (Fr24 f1)) 5).trans e5
  refine ⟨_, by decide, zK_imp (w_lastBall hS1 hFX.2.1 hFX.2.2.1 h5) ?_⟩
  rintro _ _ I2 J2 ⟨rfl, rfl, g1, g2, g3⟩
  exact ⟨rfl, rfl, REL_sol hO k4 k5 q1 (Fr24 f1) g1 g2 g3⟩
set_option maxRecDepth 100000 in
set_option maxHeartbeats 4000000 in
theorem tw_game {G : zG} {a : Int32} : twin G true mX11_game mX12_game [.int a] := by
  intro I J hR
  obtain ⟨far, x0, t, hO, hE⟩ := id hR
  obtain ⟨hFX, hT, hH, hB, hF, hK, hL⟩ := id hO
  obtain ⟨a0, M, ar, Mr, e1, hS, e5, k4, k5⟩ := id hE
  obtain ⟨c0, cc, hC, hM⟩ := gE_cC hE
  refine ⟨_, _, _, by decide, kvL, c_game e1 hFX.1 hFX.2.1 hFX.2.2.1 hC, ?_⟩
  rintro I1 J1 ⟨q1, f1⟩
  have hS1 := soR_1 hS (Fr24 f1)
  have h5 : I1 62 5 = nI far := (congrFun (f62 (Fr24 f1)) 5).trans e5
  refine ⟨_, by decide, zK_imp (w_game hS1 hFX.2.1 hFX.2.2.1 h5 (cM_1 hM (Fr24 f1))) ?_⟩
  rintro _ _ I2 J2 ⟨rfl, rfl, g1, g2, g3⟩
  exact ⟨rfl, rfl, REL_sol hO k4 k5 q1 (Fr24 f1) g1 g2 g3⟩
set_option maxRecDepth 100000 in
set_option maxHeartbeats 4000000 in
theorem tw_match {G : zG} {a b f : Int32} : twin G false mX11_match mX12_match [.int a, .int b, .int f] := by
  intro I J hR
  obtain ⟨far, x0, t, hO, hE⟩ := id hR
  obtain ⟨hFX, hT, hH, hB, hF, hK, hL⟩ := id hO
  obtain ⟨a0, M, ar, Mr, e1, hS, e5, k4, k5⟩ := id hE
  by_cases hn : mtO a b f
  · obtain ⟨a, rfl, a1, a2⟩ := inZ_n hn.1 (by decide)
    obtain ⟨b, rfl, b1, b2⟩ := inZ_n hn.2.1 (by decide)
    obtain ⟨f, rfl, f3, f4⟩ := inZ_n hn.2.2.2 (by decide)
    have h13 : ¬ (a = 13 ∧ b = 13) := fun h => hn.2.2.1 (by rw [nI_toInt (by omega), nI_toInt (by omega)]; omega)
    refine ⟨_, _, _, by decide, kvI, c_matchY e1 hFX.1 hFX.2.1 hFX.2.2.1 (by omega) (by omega) h13 (by omega), ?_⟩
    rintro I1 J1 ⟨q1, f1⟩
    have hS1 := soR_1 hS f1
    refine ⟨_, by decide, zK_imp (w_matchY hS1 hFX.2.1 hFX.2.2.1 (by omega) (by omega) h13 (by omega)) ?_⟩
    rintro _ _ I2 J2 ⟨rfl, rfl, g1, g2, g3⟩
    exact ⟨rfl, rfl, REL_sol hO k4 k5 q1 f1 g1 g2 g3⟩
  · exact twO hR (c_matchN hn) (w_matchN hn)
set_option maxRecDepth 100000 in
set_option maxHeartbeats 4000000 in
theorem tw_chance {G : zG} {a b c d e : Int32} : twin G false mX11_chance mX12_chance [.int a, .int b, .int c, .int d, .int e] := by
  intro I J hR
  obtain ⟨far, x0, t, hO, hE⟩ := id hR
  obtain ⟨hFX, hT, hH, hB, hF, hK, hL⟩ := id hO
  obtain ⟨a0, M, ar, Mr, e1, hS, e5, k4, k5⟩ := id hE
  refine ⟨_, _, _, by decide, kvI, c_chance e1 hFX.1 hFX.2.1 hFX.2.2.1, ?_⟩
  rintro I1 J1 ⟨q1, f1⟩
  have hS1 := soR_1 hS (Fr24 f1)
  have h5 : I1 62 5 = nI far := (congrFun (f62 (Fr24 f1)) 5).trans e5
  refine ⟨_, by decide, zK_imp (w_chance hS1.1.1 h5 hFX.2.1 hFX.2.2.1 hS1.1.2.1 hS1.1.2.2.2) ?_⟩
  rintro _ _ I2 _ ⟨rfl, rfl, g1, g2, rfl⟩
  exact ⟨rfl, rfl, REL_sol hO k4 k5 q1 (Fr24 f1) (soR_l hS1 g1 g2) ⟨fun b h1 h2 h3 h4 h5 _ _ => g1.1 b h1 h2 h3 h4 h5, fun k hk _ => g1.2 k (by omega), fun _ _ _ _ _ => rfl⟩ ((g1.2 5 (by decide)).trans h5)⟩
theorem gL_n {I : zI} (h : gL I) : I 62 46 = I 36 5 := by
  rcases h with ⟨h1, h2⟩ | ⟨n, la, th, sd, c0, c1, h1, h2, _⟩
  · rw [h1, h2]
  · rw [h1.1, h2.1]
theorem lgW_c {I I' : zI} {n la : Nat} {th sd c0 c1 : Nat → Nat} (h : lgW I n la th sd c0 c1) (e46 : I' 62 46 = I 62 46) (e9 : I' 89 = I 89) (e0 : I' 90 = I 90) : lgW I' n la th sd c0 c1 := by
  unfold lgW at *
  rw [e46, e9, e0]
  exact h
set_option maxRecDepth 100000 in
set_option maxHeartbeats 4000000 in
theorem tw_wrong {G : zG} {i w : Int32} : twin G true mX11_wrong mX12_wrong [.int i, .int w] := by
  intro I J hR
  obtain ⟨far, x0, t, hO, hE⟩ := id hR
  obtain ⟨hFX, hT, hH, hB, hF, hK, hL⟩ := id hO
  obtain ⟨a0, M, ar, Mr, e1, hS, e5, k4, k5⟩ := id hE
  by_cases hn : inZ w 0 2 ∧ 1 ≤ (I 36 5).toInt ∧ (w.toInt = 0 → 0 ≤ i.toInt ∧ i.toInt < (I 36 5).toInt)
  · rcases id hL with ⟨l1, l2⟩ | ⟨n, la, th, sd, c0, c1, l1, l2, l3, l4⟩
    · exact absurd hn.2.1 (by rw [l1]; decide)
    have n6 := l1.2.1
    have en : (I 36 5).toInt = n := by rw [l1.1, nI_toInt (by omega)]
    have h1n : 1 ≤ n := by have := hn.2.1; omega
    obtain ⟨v, rfl, v1, v2⟩ := inZ_n hn.1 (by decide)
    rcases (show v = 0 ∨ v = 1 ∨ v = 2 by omega) with rfl | rfl | rfl
    · skip
      obtain ⟨j, rfl, j1, j2⟩ := inZ_n (x := i) (lo := 0) (hi := (n : Int) - 1) (by have := hn.2.2 (by decide); exact ⟨this.1, by omega⟩) (by decide)
      refine ⟨_, _, _, by decide, kvL, c_wrong0 e1 hFX.1 hFX.2.1 hFX.2.2.1 l1 l4 (by omega), ?_⟩
      rintro I1 J1 ⟨q1, f1⟩
      have hS1 := soR_1 hS (Fr24 f1)
      have h5 : I1 62 5 = nI far := (congrFun (f62 (Fr24 f1)) 5).trans e5
      have l2b := lgW_c l2 (congrFun (f62 (Fr24 f1)) 46) (f1.1 89 (by decide) (by decide) (by decide) (by decide) (by decide)) (f1.1 90 (by decide) (by decide) (by decide) (by decide) (by decide))
      refine ⟨_, by decide, zK_imp (w_wrong0 hS1 hFX.2.1 hFX.2.2.1 l2b l3 l4 (by omega)) ?_⟩
      rintro _ _ I2 J2 ⟨rfl, rfl, g1, g2, g3⟩
      exact ⟨rfl, rfl, REL_sol hO k4 k5 q1 (Fr24 f1) g1 g2 g3⟩
    · skip
      refine ⟨_, _, _, by decide, kvL, c_wrong1 e1 hFX.1 hFX.2.1 hFX.2.2.1 l1 l4 h1n, ?_⟩
      rintro I1 J1 ⟨q1, f1⟩
      have hS1 := soR_1 hS (Fr24 f1)
      have h5 : I1 62 5 = nI far := (congrFun (f62 (Fr24 f1)) 5).trans e5
      have l2b := lgW_c l2 (congrFun (f62 (Fr24 f1)) 46) (f1.1 89 (by decide) (by decide) (by decide) (by decide) (by decide)) (f1.1 90 (by decide) (by decide) (by decide) (by decide) (by decide))
      refine ⟨_, by decide, zK_imp (w_wrong1 hS1 hFX.2.1 hFX.2.2.1 l2b l3 l4 h1n) ?_⟩
      rintro _ _ I2 J2 ⟨rfl, rfl, g1, g2, g3⟩
      exact ⟨rfl, rfl, REL_sol hO k4 k5 q1 (Fr24 f1) g1 g2 g3⟩
    · skip
      refine ⟨_, _, _, by decide, kvL, c_wrong2 e1 hFX.1 hFX.2.1 hFX.2.2.1 l1 l4 h1n, ?_⟩
      rintro I1 J1 ⟨q1, f1⟩
      have hS1 := soR_1 hS (Fr24 f1)
      have h5 : I1 62 5 = nI far := (congrFun (f62 (Fr24 f1)) 5).trans e5
      have l2b := lgW_c l2 (congrFun (f62 (Fr24 f1)) 46) (f1.1 89 (by decide) (by decide) (by decide) (by decide) (by decide)) (f1.1 90 (by decide) (by decide) (by decide) (by decide) (by decide))
      refine ⟨_, by decide, zK_imp (w_wrong2 hS1 hFX.2.1 hFX.2.2.1 l2b l3 l4 h1n) ?_⟩
      rintro _ _ I2 J2 ⟨rfl, rfl, g1, g2, g3⟩
      exact ⟨rfl, rfl, REL_sol hO k4 k5 q1 (Fr24 f1) g1 g2 g3⟩
  · refine twO hR (c_wrongN hn) (w_wrongN ?_ (by rw [gL_n hL]; exact hn))
    rcases id hL with ⟨l1, l2⟩ | ⟨n, la, th, sd, c0, c1, l1, l2, l3, l4⟩
    · exact Or.inl l2
    · exact Or.inr ⟨n, l2.2.1, l2.1⟩
theorem drawn_M {Lf : Nat → (Nat → Int32) → Int32} {Rl : Nat → Nat → (Nat → Int32) → Int32} {far p q l x : Nat} {j k : Int32} (hp : p < 56) (hq : q < 56) (hl : l ≤ 1) (hx : x < 65536) : lgS (hnd p q) l (fun i => sWho (wk Rl Lf far j k (p, q, l, x) i).1 (wk Rl Lf far j k (p, q, l, x) i).2.1 (wk Rl Lf far j k (p, q, l, x) i).2.2.1) (fun i => (wk Rl Lf far j k (p, q, l, x) i).1) (fun i => (wk Rl Lf far j k (p, q, l, x) i).2.1) ∧ lgM (hnd p q) l (fun i => wkT Rl Lf far j k (wk Rl Lf far j k (p, q, l, x) i)) (fun i => sWho (wk Rl Lf far j k (p, q, l, x) i).1 (wk Rl Lf far j k (p, q, l, x) i).2.1 (wk Rl Lf far j k (p, q, l, x) i).2.2.1) (fun i => (wk Rl Lf far j k (p, q, l, x) i).1) (fun i => (wk Rl Lf far j k (p, q, l, x) i).2.1) := by
  have hk := wk_ok (Rl := Rl) (Lf := Lf) (far := far) (j := j) (k := k) (s := (p, q, l, x)) hp hq hl hx
  have hwho := fun i hi => wk_who (Rl := Rl) (Lf := Lf) (far := far) (j := j) (k := k) (s := (p, q, l, x)) hp hq hl hx (i := i) hi
  have hla := wk_last (Rl := Rl) (Lf := Lf) (far := far) (j := j) (k := k) (s := (p, q, l, x))
  refine ⟨fun i hi => ⟨(hk i hi).1, (hk i hi).2.1, ?_⟩, fun i hi => ?_⟩
  · have e := hla i
    rw [show sLast l _ i = _ from e]
    exact (hk i hi).2.2.1
  · have e := hla i
    have h0 := hk i (show i ≤ hnd p q by omega)
    have hne : ¬ sWho (wk Rl Lf far j k (p, q, l, x) i).1 (wk Rl Lf far j k (p, q, l, x) i).2.1 (wk Rl Lf far j k (p, q, l, x) i).2.2.1 = 2 := fun h2 => by
      have := (hwho i (by show i ≤ hnd p q; omega)).mp h2
      have h3 : i = hnd p q := this
      omega
    rw [show sLast l (fun i => sWho (wk Rl Lf far j k (p, q, l, x) i).1 (wk Rl Lf far j k (p, q, l, x) i).2.1 (wk Rl Lf far j k (p, q, l, x) i).2.2.1) i = (wk Rl Lf far j k (p, q, l, x) i).2.2.1 from e]
    refine ⟨h0.1, h0.2.1, h0.2.2.1, hne, rfl, ?_⟩
    rcases wkT_12 (Rl := Rl) (Lf := Lf) (far := far) (j := j) (k := k) (s := wk Rl Lf far j k (p, q, l, x) i) with h | h
    · exact Or.inl h
    · refine Or.inr ⟨h, ?_⟩
      have hw := sWho_n2 hne
      exact wkT_can (Lf := Lf) (Rl := Rl) (far := far) (x := (wk Rl Lf far j k (p, q, l, x) i).2.2.2) h0.1 h0.2.1 hw h
set_option maxRecDepth 100000 in
set_option maxHeartbeats 4000000 in
theorem tw_drawn {G : zG} {a b c d e : Int32} : twin G false mX11_drawn mX12_drawn [.int a, .int b, .int c, .int d, .int e] := by
  intro I J hR
  obtain ⟨far, x0, t, hO, hE⟩ := id hR
  obtain ⟨hFX, hT, hH, hB, hF, hK, hL⟩ := id hO
  obtain ⟨a0, M, ar, Mr, e1, hS, e5, k4, k5⟩ := id hE
  obtain ⟨c0, cc, hC, hM⟩ := gE_cC hE
  by_cases hn : ply cc a ∧ ply cc b ∧ (stO c d e).isSome = true
  · rcases hst : stO c d e with _ | ⟨p, q, l⟩
    · rw [hst] at hn; exact absurd hn.2.2 (by decide)
    obtain ⟨hp, hq, rfl, hl1, hp56, hq56⟩ := stO_s hst
    have hwk := wk_ok (Rl := rlM ar Mr) (Lf := lfM a0 M) (far := far) (j := a) (k := b) (s := (p, q, l, x0)) hp56 hq56 hl1 hFX.2.2.2.2.1 (hnd p q) (Nat.le_refl _)
    have hdM := drawn_M (Lf := lfM a0 M) (Rl := rlM ar Mr) (far := far) (j := a) (k := b) hp56 hq56 hl1 hFX.2.2.2.2.1
    refine ⟨_, _, _, by decide, kvI, c_drawnY e1 hFX.1 hFX.2.1 hFX.2.2.1 hC hn.1 hn.2.1 hp hq hp56 hq56 hl1 hFX.2.2.2.1 hFX.2.2.2.2.1, ?_⟩
    rintro I1 J1 ⟨q1, q2, q3, f1⟩
    have e62 : I1 62 = I 62 := f1.1 62 (by omega) (by omega) (by omega) (by omega) (by omega) (by omega) (by omega) (by omega) (by omega) (by omega) (by omega)
    have hS1 : soR I1 J1 a0 M ar Mr far := soR_c hS (fun d hd => f1.1 d (by omega) (by omega) (by omega) (by omega) (by omega) (by omega) (by omega) (by omega) (by omega) (by omega) (by omega)) (fun k _ => congrFun e62 k) (f1.2.2 83 (by decide) (by decide) (by decide))
    have hM1 : cM I1 c0 cc := by unfold cM at *; rw [f1.1 74 (by omega) (by omega) (by omega) (by omega) (by omega) (by omega) (by omega) (by omega) (by omega) (by omega) (by omega)]; exact hM
    refine ⟨_, by decide, zK_imp (w_drawnY hS1 hFX.2.1 hFX.2.2.1 hM1 hn.1 hn.2.1 hp hq hp56 hq56 hl1 ((congrFun e62 6).trans hFX.2.2.2.2.2) hFX.2.2.2.2.1) ?_⟩
    rintro _ _ I2 J2 ⟨rfl, rfl, g1, g2, g3, g4, g5⟩
    refine ⟨rfl, rfl, far, (wk (rlM ar Mr) (lfM a0 M) far a b (p, q, l, x0) (hnd p q)).2.2.2, t, ⟨?_, ?_, ?_, ?_, ?_, ?_, ?_⟩, ?_⟩
    · exact ⟨(congrFun (g4.1 2 (by omega) (by omega) (by omega) (by omega) (by omega) (by omega) (by omega) (by omega) (by omega)) 0).trans ((f1.2.1 0 (by decide)).trans hFX.1), hFX.2.1, hFX.2.2.1, (congrFun (g4.1 2 (by omega) (by omega) (by omega) (by omega) (by omega) (by omega) (by omega) (by omega) (by omega)) 1).trans q2, hwk.2.2.2.1, g2⟩
    · exact gT_c hT (congrFun ((g4.1 3 (by omega) (by omega) (by omega) (by omega) (by omega) (by omega) (by omega) (by omega) (by omega)).trans (f1.1 3 (by omega) (by omega) (by omega) (by omega) (by omega) (by omega) (by omega) (by omega) (by omega) (by omega) (by omega))) 1) ((g4.1 4 (by omega) (by omega) (by omega) (by omega) (by omega) (by omega) (by omega) (by omega) (by omega)).trans (f1.1 4 (by omega) (by omega) (by omega) (by omega) (by omega) (by omega) (by omega) (by omega) (by omega) (by omega) (by omega))) ((g4.2.1 7 (by omega) (by omega) (by omega) (by omega)).trans (congrFun e62 7)) ((g4.1 66 (by omega) (by omega) (by omega) (by omega) (by omega) (by omega) (by omega) (by omega) (by omega)).trans (f1.1 66 (by omega) (by omega) (by omega) (by omega) (by omega) (by omega) (by omega) (by omega) (by omega) (by omega) (by omega)))
    · exact gH_c hH (fun d hd => (g4.1 d (by omega) (by omega) (by omega) (by omega) (by omega) (by omega) (by omega) (by omega) (by omega)).trans (f1.1 d (by omega) (by omega) (by omega) (by omega) (by omega) (by omega) (by omega) (by omega) (by omega) (by omega) (by omega)))
    · exact gB_c hB (fun d hd => (g4.1 d (by omega) (by omega) (by omega) (by omega) (by omega) (by omega) (by omega) (by omega) (by omega)).trans (f1.1 d (by omega) (by omega) (by omega) (by omega) (by omega) (by omega) (by omega) (by omega) (by omega) (by omega) (by omega)))
    · exact gF_c hF (fun d hd => (g4.1 d (by omega) (by omega) (by omega) (by omega) (by omega) (by omega) (by omega) (by omega) (by omega)).trans (f1.1 d (by omega) (by omega) (by omega) (by omega) (by omega) (by omega) (by omega) (by omega) (by omega) (by omega) (by omega))) (fun d hd => (g4.2.1 d (by omega) (by omega) (by omega) (by omega)).trans (congrFun e62 d))
    · exact gK_c hK (fun d hd => (g4.1 d (by omega) (by omega) (by omega) (by omega) (by omega) (by omega) (by omega) (by omega) (by omega)).trans (f1.1 d (by omega) (by omega) (by omega) (by omega) (by omega) (by omega) (by omega) (by omega) (by omega) (by omega) (by omega))) (fun d hd => (congrFun (g4.1 2 (by omega) (by omega) (by omega) (by omega) (by omega) (by omega) (by omega) (by omega) (by omega)) d).trans (f1.2.1 d (by omega))) (fun d hd => (g4.2.1 d (by omega) (by omega) (by omega) (by omega)).trans (congrFun e62 d))
    · refine Or.inr ⟨_, _, _, _, _, _, ?_, g1, hdM.1, hdM.2⟩
      unfold lgX at q1 ⊢
      rw [g4.1 36 (by omega) (by omega) (by omega) (by omega) (by omega) (by omega) (by omega) (by omega) (by omega), g4.1 37 (by omega) (by omega) (by omega) (by omega) (by omega) (by omega) (by omega) (by omega) (by omega), g4.1 38 (by omega) (by omega) (by omega) (by omega) (by omega) (by omega) (by omega) (by omega) (by omega), g4.1 39 (by omega) (by omega) (by omega) (by omega) (by omega) (by omega) (by omega) (by omega) (by omega), g4.1 40 (by omega) (by omega) (by omega) (by omega) (by omega) (by omega) (by omega) (by omega) (by omega)]
      exact q1
    · exact ⟨a0, M, ar, Mr, eA_c q3 (fun d h1 h2 => g4.1 d (by omega) (by omega) (by omega) (by omega) (by omega) (by omega) (by omega) (by omega) (by omega)) (g4.2.2 31 (by decide) (by decide) (by decide) (by decide)) (g4.2.2 32 (by decide) (by decide) (by decide) (by decide)) (g4.2.2 33 (by decide) (by decide) (by decide) (by decide)), g3, g5, (congrFun ((g4.1 16 (by omega) (by omega) (by omega) (by omega) (by omega) (by omega) (by omega) (by omega) (by omega)).trans (f1.1 16 (by omega) (by omega) (by omega) (by omega) (by omega) (by omega) (by omega) (by omega) (by omega) (by omega) (by omega))) 2).trans k4, fun k hk => (congrFun ((g4.1 (19 + 2 * k) (by omega) (by omega) (by omega) (by omega) (by omega) (by omega) (by omega) (by omega) (by omega)).trans (f1.1 (19 + 2 * k) (by omega) (by omega) (by omega) (by omega) (by omega) (by omega) (by omega) (by omega) (by omega) (by omega) (by omega))) 2).trans (k5 k hk)⟩
  · exact twO hR (c_drawnN hC hn) (w_drawnN (gE_M hE) hM hn)
