/-! BOTH: texts read -/
theorem hMx_c {f g : Nat → Nat} : ∀ n, (∀ j, j < n → f j = g j) → hMx f n = hMx g n
  | 0, _ => rfl
  | n + 1, h => by
    show max (hMx f n) (f n) = max (hMx g n) (g n)
    rw [hMx_c n (fun j hj => h j (by omega)), h n (by omega)]
theorem tkO_n {n : Int32} {M t : Nat} (hM : M < 2 ^ 31) (h : tkO n M t) : ∃ k : Nat, n = nI k ∧ 1 ≤ k ∧ k ≤ M ∧ k ≤ t := by
  obtain ⟨k, hk, h1, h2⟩ := inZ_n (x := n) (lo := 1) (hi := (M : Int)) ⟨h.1, h.2.1⟩ (by decide)
  have h3 := h.2.2
  subst hk
  rw [nI_toInt (by omega)] at h3
  exact ⟨k, rfl, by omega, by omega, by omega⟩
set_option maxRecDepth 100000 in
set_option maxHeartbeats 4000000 in
theorem tw_ground {G : zG} {n : Int32} : twin G false mX11_ground mX12_ground [.int n] := by
  intro I J hR
  obtain ⟨far, x0, t, hO, hE⟩ := id hR
  obtain ⟨hFX, hT, hH, hB, hF, hK, hL⟩ := id hO
  by_cases hn : tkO n 120 t
  · obtain ⟨k, rfl, k1, k2, k3⟩ := tkO_n (by decide) hn
    obtain ⟨hh, ⟨f, f9, hf⟩, g, g9, hg⟩ := id hH
    have hI := gAll_ind (tx := txI (I 4)) (n := k) 8 0 0 f g rfl
    have hc := c_groundY (G := G) (J := J) hT.1 hT.2.1 k1 k2 k3 f9 hf
    have hwg : ∀ I1 : zI, I1 62 7 = nI t → I1 66 = I 4 → (∀ j, j < 64 → I1 96 j = nI (g j)) → zK G mX12_ground 3 [.ref 62, .int (nI k)] zsh I1 J (grQ I1 J (gAll (txI (I 4)) k 8 0 0 g)) := fun I1 h1 h2 h3 => by
      have e := w_groundY (G := G) (J := J) h1 hT.2.1 k1 k2 k3 g9 h3
      rw [h2] at e
      exact e
    generalize gAll (txI (I 4)) k 8 0 0 f = U at hI hc
    generalize gAll (txI (I 4)) k 8 0 0 g = W at hI hwg
    refine ⟨_, _, _, by decide, kvI, hc, ?_⟩
    rintro I1 _ ⟨q1, q2, q3, q4, rfl⟩
    have e66 : I1 66 = I 4 := (q2 66 (by decide) (by decide) (by decide) (by decide)).trans hT.2.2.2.2
    refine ⟨_, by decide, zK_imp (hwg I1 ((congrFun (q2 62 (by decide) (by decide) (by decide) (by decide)) 7).trans hT.2.2.2.1) e66 (fun j hj => (congrFun (q2 96 (by decide) (by decide) (by decide) (by decide)) j).trans (hg j hj))) ?_⟩
    rintro _ _ I2 _ ⟨rfl, rfl, rfl, r7, r95, r96, rr, r62⟩
    have ee : ∀ a, a ≠ 3 → (a < 41 ∨ 43 < a) → a ≠ 62 → (a < 95 ∨ 96 < a) → I2 a = I a := fun a h1 h2 h3 h4 => (rr a h3 (by omega) (by omega)).trans (q2 a h1 (by omega) (by omega) (by omega))
    have e62 : ∀ k, k ≠ 7 → k ≠ 8 → k ≠ 9 → k ≠ 10 → I2 62 k = I 62 k := fun k h1 h2 h3 h4 => (r62 k h1 h2 h3 h4).trans (congrFun (q2 62 (by decide) (by decide) (by decide) (by decide)) k)
    refine ⟨rfl, ?_, far, x0, 0, ⟨?_, ?_, ?_, ?_, ?_, ?_, ?_⟩, ?_⟩
    · congr 2
      rw [← hI.1, ← hI.2.1]
      by_cases h0 : U.1 = 0
      · rw [if_pos h0, if_pos h0, hMx_c 64 (fun j hj => hI.2.2 h0 j (Or.inr ⟨by omega, hj⟩))]
      · rw [if_neg h0, if_neg h0]
    · exact gFX_c hFX (congrFun (ee 2 (by omega) (by omega) (by omega) (by omega)) 0) (congrFun (ee 2 (by omega) (by omega) (by omega) (by omega)) 1) (e62 6 (by decide) (by decide) (by decide) (by decide))
    · exact ⟨(congrFun (rr 3 (by decide) (by decide) (by decide)) 1).trans q1, by omega, (fun j => by rw [ee 4 (by omega) (by omega) (by omega) (by omega)]; exact hT.2.2.1 j), r7, by rw [ee 66 (by omega) (by omega) (by omega) (by omega), ee 4 (by omega) (by omega) (by omega) (by omega)]; exact hT.2.2.2.2⟩
    · refine ⟨fun j hj => ?_, ?_, r96⟩
      · rw [r95 j hj, rr 42 (by decide) (by decide) (by decide), q3 j hj, ← hI.1]
        by_cases h0 : U.1 = 0
        · rw [if_pos h0, if_pos h0, hI.2.2 h0 j (Or.inr ⟨by omega, hj⟩)]
        · rw [if_neg h0, if_neg h0, q2 95 (by decide) (by decide) (by decide) (by decide)]; exact hh j hj
      · obtain ⟨u, u1, u2⟩ := q4
        exact ⟨u, u1, fun j hj => (congrFun (rr 43 (by decide) (by decide) (by decide)) j).trans (u2 j hj)⟩
    · exact gB_c hB (fun a ha => ee a (by omega) (by omega) (by omega) (by omega))
    · exact gF_c hF (fun a ha => ee a (by omega) (by omega) (by omega) (by omega)) (fun k hk => e62 k (by omega) (by omega) (by omega) (by omega))
    · exact gK_c hK (fun a ha => ee a (by omega) (by omega) (by omega) (by omega)) (fun k hk => congrFun (ee 2 (by omega) (by omega) (by omega) (by omega)) k) (fun k hk => e62 k (by omega) (by omega) (by omega) (by omega))
    · exact gL_c hL (fun a ha => ee a (by omega) (by omega) (by omega) (by omega)) (e62 46 (by decide) (by decide) (by decide) (by decide))
    · exact gE_c hE (fun a ha => ee a (by omega) (by omega) (by omega) (by omega)) (fun k hk => e62 k (by omega) (by omega) (by omega) (by omega)) (fun _ _ => rfl)
  · exact twO hR (c_groundN hT.1 hT.2.1 hn) (w_groundN hT.2.2.2.1 hT.2.1 hn)
/-- a text of the model that another one leaves alone -/
theorem mpI_V {I I' : zI} {t u : Nat} {a : clsT} {M : mnT} (h : mpI I u a M) (e : fV I I' t) (hne : u ≠ t) : mpI I' u a M := by
  obtain ⟨h1, h2, h3, h4, h5⟩ := h
  obtain ⟨_, _, e4, e5, e3⟩ := e
  refine ⟨h1, h2, h3, (e4 u hne).trans h4, fun j c g1 g2 hj => ?_⟩
  obtain ⟨k0, k1, k2, k3, k4, k5⟩ := h5 j c g1 g2 hj
  have hjl : j < a.length := (List.getElem?_eq_some_iff.mp hj).1
  obtain ⟨q1, q2, q3, q4⟩ := e5 (16 * u + j) (by omega)
  have s1 : plA a (j + 1) = plA a j + g1.length + g2.length := plA_step hj
  have s2 := plA_mono (a := a) (show j + 1 ≤ a.length from hjl)
  refine ⟨k0, q1.trans k1, q2.trans k2, q3.trans k3, q4.trans k4, fun k d hd => ?_⟩
  have hk : k < (g1 ++ g2).length := (List.getElem?_eq_some_iff.mp hd).1
  rw [List.length_append] at hk
  rw [e3 (260 * u + plA a j + k) (by omega)]
  exact k5 k d hd
/-- a text that is told -/
theorem mpI_N {I : zI} {t b : Nat} {a : clsT} {M : mnT} (h : toldM I t a) (hM : meanT a M) (hg : gdT b a) (h16 : a.length ≤ 16) (h240 : plA a a.length + 3 * a.length ≤ 240) : mpI I t a M :=
  ⟨hM, h16, h240, h.1, fun j c g1 g2 hj => ⟨by have := (hg j c g1 g2 hj).1; omega, h.2 j c g1 g2 hj⟩⟩
theorem nI0_0 : nI 0 = 0 := rfl
theorem chA_0 {I : zI} {Lf : Nat → (Nat → Int32) → Int32} (h : I 62 32 = nI 0) : chA I Lf := fun f h6 h10 hf => by
  exfalso
  have e : nI 0 = nI f := h.symm.trans hf
  have := (nI_eq (a := 0) (b := f) (by decide) (by omega)).mp e
  omega
theorem soK_0 {Rl : Nat → Nat → (Nat → Int32) → Int32} {Lf : Nat → (Nat → Int32) → Int32} {I : zI} {J : zJ} (h : I 62 39 = nI 0) : soK Rl Lf I J := fun hn => absurd (h.trans nI0_0) hn
set_option maxRecDepth 100000 in
set_option maxHeartbeats 4000000 in
theorem tw_law {G : zG} {n : Int32} : twin G false mX11_law mX12_law [.int n] := by
  intro I J hR
  obtain ⟨far, x0, t, hO, hE⟩ := id hR
  obtain ⟨hFX, hT, hH, hB, hF, hK, hL⟩ := id hO
  obtain ⟨a0, M, ar, Mr, e1, hS, e5, k4, k5⟩ := id hE
  by_cases hn : tkO n 240 t
  · obtain ⟨k, rfl, k1, k2, k3⟩ := tkO_n (by decide) hn
    have hTn := pTxt_n (tx := txI (I 4)) (n := k) (b := 1) 17 0 0 0 [] (Nat.zero_le _) rfl rfl (Nat.zero_le _)
    have hTg : (pTxt (txI (I 4)) k 1 17 0 0 0 []).1 = 0 → gdT 1 (pTxt (txI (I 4)) k 1 17 0 0 0 []).2.2 := pTxt_g (tx := txI (I 4)) (n := k) (b := 1) 17 0 [] (fun j c g1 g2 hj => absurd hj (by simp))
    have hT24 := fun h => pTxt_240 (tx := txI (I 4)) (n := k) (b := 1) k2 h
    refine ⟨_, _, _, by decide, kvI, c_lawY hT.1 hT.2.1 hT.2.2.1 k1 k2 k3, ?_⟩
    rintro I1 J1 ⟨q1, q3, q2⟩
    generalize hTT : (pTxt (txI (I 4)) k 1 17 0 0 0 []) = T at *
    obtain ⟨fc, q, a1⟩ := T
    have e66 : I1 66 = I 66 ∧ I1 62 = I 62 := by
      by_cases h0 : fc = 0
      · have h9 := (q3 h0).2.2.2.2.2.2.2.2.1
        exact ⟨h9 66 (by decide) (by decide) (by decide) (by decide) (by decide) (by decide) (by decide) (by decide) (by decide) (by decide), h9 62 (by decide) (by decide) (by decide) (by decide) (by decide) (by decide) (by decide) (by decide) (by decide) (by decide)⟩
      · exact ⟨(q2 h0).1 66 (by decide) (by decide) (by decide) (by decide) (by decide), (q2 h0).1 62 (by decide) (by decide) (by decide) (by decide) (by decide)⟩
    have hw := w_lawY (G := G) (J := J1) (I := I1) (tp := t) ((congrFun e66.2 7).trans hT.2.2.2.1) hT.2.1 k1 k2 k3 (tx := txI (I 4)) (fun p => by rw [e66.1, hT.2.2.2.2])
    rw [hTT] at hw
    refine ⟨_, by decide, zK_imp hw ?_⟩
    rintro _ _ I2 J2 ⟨rfl, hJ2, rfl, r7, rN, rY⟩
    refine ⟨rfl, rfl, ?_⟩
    subst hJ2
    by_cases h0 : fc = 0
    · subst h0
      obtain ⟨p1, p2, p3, p4, p5, p6, p7, p8, p9, p10⟩ := q3 rfl
      obtain ⟨s1, s2, s3, s4, I3, s5, s6⟩ := rY rfl
      obtain ⟨M1, hM1⟩ := meanT_ex (hTg rfl)
      have h16 := (hTn.2 rfl).2
      have h240 := hT24 rfl
      have ea : ∀ a, a ≠ 62 → (a < 67 ∨ 78 < a) → I2 a = I1 a := fun a h1 h2 => by rw [s6, zw_o h1, zw_o h1]; exact s5.1 a h1 h2
      have es : ∀ k, k ≠ 7 → k ≠ 8 → k ≠ 9 → (k < 10 ∨ 15 < k) → k ≠ 39 → k ≠ 46 → k ≠ 32 → I2 62 k = I 62 k := fun k h1 h2 h3 h4 h5 h6 h7 => by rw [s6, zwr_at, if_neg (by omega), zwr_at, if_neg (by omega), s5.2.1 k h1 h2 h3 h4 h5, e66.2]
      have ee : ∀ a, a ≠ 3 → (a < 5 ∨ 9 < a) → a ≠ 16 → a ≠ 17 → a ≠ 30 → a ≠ 36 → a ≠ 62 → (a < 67 ∨ 78 < a) → I2 a = I a := fun a h1 h2 h3 h4 h5 h6 h7 h8 => (ea a h7 h8).trans (p9 a h1 (by omega) (by omega) (by omega) (by omega) (by omega) h3 h4 h5 h6)
      have r1 : ∀ a, a < 62 → I2 a = I1 a := fun a h => ea a (by omega) (by omega)
      have m3 : ∀ a, 62 < a → I2 a = I3 a := fun a h => by rw [s6, zw_o (by omega), zw_o (by omega)]
      have hru : ∀ i, i < 4 → mpI I2 (i + 1) (ar i) (Mr i) := fun i hi => mpI_c (mpI_V (mpI_c (hS.1.2.2.1 i hi).1 (fun b h1 h2 => p9 b (by omega) (by omega) (by omega) (by omega) (by omega) (by omega) (by omega) (by omega) (by omega) (by omega))) s5 (Nat.succ_ne_zero i)) (fun b h1 h2 => m3 b (by omega))
      refine ⟨far, x0, 0, ⟨?_, ?_, ?_, ?_, ?_, ?_, ?_⟩, a1, M1, ar, Mr, ?_, ?_, ?_, ?_, ?_⟩
      · exact gFX_c hFX (congrFun (ee 2 (by omega) (by omega) (by omega) (by omega) (by omega) (by omega) (by omega) (by omega)) 0) (congrFun (ee 2 (by omega) (by omega) (by omega) (by omega) (by omega) (by omega) (by omega) (by omega)) 1) (es 6 (by decide) (by decide) (by decide) (by decide) (by decide) (by decide) (by decide))
      · exact ⟨(congrFun (r1 3 (by decide)) 1).trans q1, by omega, (fun j => by rw [ee 4 (by omega) (by omega) (by omega) (by omega) (by omega) (by omega) (by omega) (by omega)]; exact hT.2.2.1 j), r7, by rw [ee 66 (by omega) (by omega) (by omega) (by omega) (by omega) (by omega) (by omega) (by omega), ee 4 (by omega) (by omega) (by omega) (by omega) (by omega) (by omega) (by omega) (by omega)]; exact hT.2.2.2.2⟩
      · exact gH_c hH (fun a ha => ee a (by omega) (by omega) (by omega) (by omega) (by omega) (by omega) (by omega) (by omega))
      · exact gB_c hB (fun a ha => ee a (by omega) (by omega) (by omega) (by omega) (by omega) (by omega) (by omega) (by omega))
      · exact gF_c hF (fun a ha => ee a (by omega) (by omega) (by omega) (by omega) (by omega) (by omega) (by omega) (by omega)) (fun k hk => es k (by omega) (by omega) (by omega) (by omega) (by omega) (by omega) (by omega))
      · exact gK_c hK (fun a ha => ee a (by omega) (by omega) (by omega) (by omega) (by omega) (by omega) (by omega) (by omega)) (fun k hk => congrFun (ee 2 (by omega) (by omega) (by omega) (by omega) (by omega) (by omega) (by omega) (by omega)) k) (fun k hk => es k (by omega) (by omega) (by omega) (by omega) (by omega) (by omega) (by omega))
      · exact Or.inl ⟨(congrFun (r1 36 (by decide)) 5).trans p3, s2⟩
      · refine eA_law e1 (progI_of (by rw [r1 (16 + 1) (by decide)]; exact p1) ((congrFun (r1 16 (by decide)) 2).trans p2) (hTg rfl) h16 h240 hM1) (fun b hb1 hb2 => ee b (by omega) (by omega) (by omega) (by omega) (by omega) (by omega) (by omega) (by omega)) ((congrFun (r1 9 (by decide)) 4).trans p4) (fun j hj => (congrFun (r1 30 (by decide)) j).trans (p5 j hj)) ((congrFun (r1 9 (by decide)) 12).trans p6) ((congrFun (r1 9 (by decide)) 6).trans p7) p8
      · exact ⟨⟨mT_c hS.1.1 (ee 63 (by omega) (by omega) (by omega) (by omega) (by omega) (by omega) (by omega) (by omega)) (ee 64 (by omega) (by omega) (by omega) (by omega) (by omega) (by omega) (by omega) (by omega)) (ee 65 (by omega) (by omega) (by omega) (by omega) (by omega) (by omega) (by omega) (by omega)), mpI_N s4 hM1 (hTg rfl) h16 h240, fun i hi => ⟨hru i hi, (hS.1.2.2.1 i hi).2⟩, chA_0 s3⟩, (es 4 (by decide) (by decide) (by decide) (by decide) (by decide) (by decide) (by decide)).trans hS.2.1, soK_0 s1⟩
      · exact (es 5 (by decide) (by decide) (by decide) (by decide) (by decide) (by decide) (by decide)).trans e5
      · exact (congrFun (r1 16 (by decide)) 2).trans p2
      · exact fun i hi => (congrFun (ee (19 + 2 * i) (by omega) (by omega) (by omega) (by omega) (by omega) (by omega) (by omega) (by omega)) 2).trans (k5 i hi)
    · have q2 := q2 h0
      have hU := rN h0
      have hJ : J1 = J := q2.2
      have ee : ∀ a, a ≠ 3 → (a < 5 ∨ 8 < a) → a ≠ 62 → (a < 67 ∨ 72 < a) → I2 a = I a := fun a h1 h2 h3 h4 => (hU.1 a h3 h4).trans (q2.1 a h1 (by omega) (by omega) (by omega) (by omega))
      have e62 : ∀ k, k ≠ 7 → k ≠ 8 → k ≠ 9 → (k < 10 ∨ 15 < k) → I2 62 k = I 62 k := fun k h1 h2 h3 h4 => (hU.2 k h1 h2 h3 h4).trans (congrFun (q2.1 62 (by decide) (by decide) (by decide) (by decide) (by decide)) k)
      refine ⟨far, x0, 0, ⟨?_, ?_, ?_, ?_, ?_, ?_, ?_⟩, ?_⟩
      · exact gFX_c hFX (congrFun (ee 2 (by omega) (by omega) (by omega) (by omega)) 0) (congrFun (ee 2 (by omega) (by omega) (by omega) (by omega)) 1) (e62 6 (by decide) (by decide) (by decide) (by decide))
      · exact ⟨(congrFun (hU.1 3 (by decide) (by decide)) 1).trans q1, by omega, (fun j => by rw [ee 4 (by omega) (by omega) (by omega) (by omega)]; exact hT.2.2.1 j), r7, by rw [ee 66 (by omega) (by omega) (by omega) (by omega), ee 4 (by omega) (by omega) (by omega) (by omega)]; exact hT.2.2.2.2⟩
      · exact gH_c hH (fun a ha => ee a (by omega) (by omega) (by omega) (by omega))
      · exact gB_c hB (fun a ha => ee a (by omega) (by omega) (by omega) (by omega))
      · exact gF_c hF (fun a ha => ee a (by omega) (by omega) (by omega) (by omega)) (fun k hk => e62 k (by omega) (by omega) (by omega) (by omega))
      · exact gK_c hK (fun a ha => ee a (by omega) (by omega) (by omega) (by omega)) (fun k hk => congrFun (ee 2 (by omega) (by omega) (by omega) (by omega)) k) (fun k hk => e62 k (by omega) (by omega) (by omega) (by omega))
      · exact gL_c hL (fun a ha => ee a (by omega) (by omega) (by omega) (by omega)) (e62 46 (by decide) (by decide) (by decide) (by decide))
      · exact gE_c hE (fun a ha => ee a (by omega) (by omega) (by omega) (by omega)) (fun k hk => e62 k (by omega) (by omega) (by omega) (by omega)) (fun b _ => congrFun hJ b)
  · exact twO hR (c_lawN hT.1 hT.2.1 hn) (w_lawN hT.2.2.2.1 hT.2.1 hn)
set_option maxRecDepth 100000 in
set_option maxHeartbeats 4000000 in
theorem tw_rule {G : zG} {r n : Int32} : twin G false mX11_rule mX12_rule [.int r, .int n] := by
  intro I J hR
  obtain ⟨far, x0, t, hO, hE⟩ := id hR
  obtain ⟨hFX, hT, hH, hB, hF, hK, hL⟩ := id hO
  obtain ⟨a0, M, ar, Mr, e1, hS, e5, k4, k5⟩ := id hE
  by_cases hn : inZ r 0 3 ∧ tkO n 240 t
  · obtain ⟨k, rfl, k1, k2, k3⟩ := tkO_n (by decide) hn.2
    obtain ⟨u, rfl, u1, u2⟩ := inZ_n hn.1 (by decide)
    have u4 : u < 4 := by omega
    have hTn := pTxt_n (tx := txI (I 4)) (n := k) (b := 0) 17 0 0 0 [] (Nat.zero_le _) rfl rfl (Nat.zero_le _)
    have hTg : (pTxt (txI (I 4)) k 0 17 0 0 0 []).1 = 0 → gdT 0 (pTxt (txI (I 4)) k 0 17 0 0 0 []).2.2 := pTxt_g (tx := txI (I 4)) (n := k) (b := 0) 17 0 [] (fun j c g1 g2 hj => absurd hj (by simp))
    have hT24 := fun h => pTxt_240 (tx := txI (I 4)) (n := k) (b := 0) k2 h
    refine ⟨_, _, _, by decide, kvI, c_ruleY hT.1 hT.2.1 hT.2.2.1 u4 k1 k2 k3, ?_⟩
    rintro I1 J1 ⟨q1, hJ, q3, q2⟩
    generalize hTT : (pTxt (txI (I 4)) k 0 17 0 0 0 []) = T at *
    obtain ⟨fc, q, a1⟩ := T
    have e66 : I1 66 = I 66 ∧ I1 62 = I 62 := by
      by_cases h0 : fc = 0
      · have h9 := (q3 h0).2.2.2.2
        exact ⟨h9 66 (by decide) (by decide) (by decide) (by decide) (by decide) (by decide) (by omega) (by omega), h9 62 (by decide) (by decide) (by decide) (by decide) (by decide) (by decide) (by omega) (by omega)⟩
      · exact ⟨(q2 h0) 66 (by decide) (by decide) (by decide) (by decide) (by decide), (q2 h0) 62 (by decide) (by decide) (by decide) (by decide) (by decide)⟩
    have hw := w_ruleY (G := G) (J := J1) (I := I1) (tp := t) ((congrFun e66.2 7).trans hT.2.2.2.1) hT.2.1 u4 k1 k2 k3 (tx := txI (I 4)) (fun p => by rw [e66.1, hT.2.2.2.2])
    rw [show bT (u + 1) = 0 from if_neg (Nat.succ_ne_zero u), hTT] at hw
    refine ⟨_, by decide, zK_imp hw ?_⟩
    rintro _ _ I2 J2 ⟨rfl, hJ2, rfl, r7, rN, rY⟩
    refine ⟨rfl, rfl, ?_⟩
    subst hJ2
    subst hJ
    by_cases h0 : fc = 0
    · subst h0
      obtain ⟨p1, p2, p7, p4, p9⟩ := q3 rfl
      obtain ⟨s1, s4, s5⟩ := rY rfl
      obtain ⟨M1, hM1⟩ := meanT_ex (hTg rfl)
      have h16 := (hTn.2 rfl).2
      have h240 := hT24 rfl
      have ea : ∀ a, a ≠ 62 → (a < 67 ∨ 78 < a) → I2 a = I1 a := s5.1
      have es : ∀ k, k ≠ 7 → k ≠ 8 → k ≠ 9 → (k < 10 ∨ 15 < k) → k ≠ 39 → I2 62 k = I 62 k := fun k h1 h2 h3 h4 h5 => (s5.2.1 k h1 h2 h3 h4 h5).trans (congrFun e66.2 k)
      have ee : ∀ a, a ≠ 3 → (a < 5 ∨ 9 < a) → a ≠ 19 + 2 * u → a ≠ 19 + 2 * u + 1 → a ≠ 62 → (a < 67 ∨ 78 < a) → I2 a = I a := fun a h1 h2 h3 h4 h7 h8 => (ea a h7 h8).trans (p9 a h1 (by omega) (by omega) (by omega) (by omega) (by omega) h3 h4)
      have r1 : ∀ a, a < 62 → I2 a = I1 a := fun a h => ea a (by omega) (by omega)
      have hp73 : ∀ b, 62 < b → I1 b = I b := fun b h1 => p9 b (by omega) (by omega) (by omega) (by omega) (by omega) (by omega) (by omega) (by omega)
      have hrl : rlM (fun i => if i = u then a1 else ar i) (fun i => if i = u then M1 else Mr i) = (fun i => if i = u then lfM a1 M1 else rlM ar Mr i) := by
        funext i
        show lfM (if i = u then a1 else ar i) (if i = u then M1 else Mr i) = _
        by_cases hi : i = u
        · rw [if_pos hi, if_pos hi, if_pos hi]
        · rw [if_neg hi, if_neg hi, if_neg hi]; rfl
      refine ⟨far, x0, 0, ⟨?_, ?_, ?_, ?_, ?_, ?_, ?_⟩, a0, M, (fun i => if i = u then a1 else ar i), (fun i => if i = u then M1 else Mr i), ?_, ?_, ?_, ?_, ?_⟩
      · exact gFX_c hFX (congrFun (ee 2 (by omega) (by omega) (by omega) (by omega) (by omega) (by omega)) 0) (congrFun (ee 2 (by omega) (by omega) (by omega) (by omega) (by omega) (by omega)) 1) (es 6 (by decide) (by decide) (by decide) (by decide) (by decide))
      · exact ⟨(congrFun (r1 3 (by decide)) 1).trans q1, by omega, (fun j => by rw [ee 4 (by omega) (by omega) (by omega) (by omega) (by omega) (by omega)]; exact hT.2.2.1 j), r7, by rw [ee 66 (by omega) (by omega) (by omega) (by omega) (by omega) (by omega), ee 4 (by omega) (by omega) (by omega) (by omega) (by omega) (by omega)]; exact hT.2.2.2.2⟩
      · exact gH_c hH (fun a ha => ee a (by omega) (by omega) (by omega) (by omega) (by omega) (by omega))
      · exact gB_c hB (fun a ha => ee a (by omega) (by omega) (by omega) (by omega) (by omega) (by omega))
      · exact gF_c hF (fun a ha => ee a (by omega) (by omega) (by omega) (by omega) (by omega) (by omega)) (fun k hk => es k (by omega) (by omega) (by omega) (by omega) (by omega))
      · exact gK_c hK (fun a ha => ee a (by omega) (by omega) (by omega) (by omega) (by omega) (by omega)) (fun k hk => congrFun (ee 2 (by omega) (by omega) (by omega) (by omega) (by omega) (by omega)) k) (fun k hk => es k (by omega) (by omega) (by omega) (by omega) (by omega))
      · exact gL_c hL (fun a ha => ee a (by omega) (by omega) (by omega) (by omega) (by omega) (by omega)) (es 46 (by decide) (by decide) (by decide) (by decide) (by decide))
      · rw [hrl]
        refine eA_rule u4 e1 (progI_of (by rw [r1 (19 + 2 * u + 1) (by omega)]; exact p1) ((congrFun (r1 (19 + 2 * u) (by omega)) 2).trans p2) (hTg rfl) h16 h240 hM1) (fun b h1 h2 h3 h4 => ee b (by omega) (by omega) h3 h4 (by omega) (by omega)) (fun j hj => (congrFun (r1 9 (by decide)) j).trans (p4 j hj)) ((congrFun (r1 9 (by decide)) 6).trans p7)
      · refine ⟨⟨mT_c hS.1.1 ((ea 63 (by decide) (by decide)).trans (hp73 63 (by decide))) ((ea 64 (by decide) (by decide)).trans (hp73 64 (by decide))) ((ea 65 (by decide) (by decide)).trans (hp73 65 (by decide))), mpI_V (mpI_c hS.1.2.1 (fun b h1 h2 => hp73 b (by omega))) s5 (by omega), fun i hi => ?_, chA_c hS.1.2.2.2 (es 32 (by decide) (by decide) (by decide) (by decide) (by decide)) ((ea 82 (by decide) (by decide)).trans (hp73 82 (by decide)))⟩, (es 4 (by decide) (by decide) (by decide) (by decide) (by decide)).trans hS.2.1, soK_0 s1⟩
        dsimp only
        by_cases hi2 : i = u
        · subst hi2
          rw [if_pos rfl, if_pos rfl]
          exact ⟨mpI_N s4 hM1 (hTg rfl) h16 h240, fun j c g1 g2 hj => by have := (hTg rfl j c g1 g2 hj).1; omega⟩
        · rw [if_neg hi2, if_neg hi2]
          exact ⟨mpI_V (mpI_c (hS.1.2.2.1 i hi).1 (fun b h1 h2 => hp73 b (by omega))) s5 (by omega), (hS.1.2.2.1 i hi).2⟩
      · exact (es 5 (by decide) (by decide) (by decide) (by decide) (by decide)).trans e5
      · exact (congrFun (ee 16 (by omega) (by omega) (by omega) (by omega) (by omega) (by omega)) 2).trans k4
      · intro i hi
        by_cases hi2 : i = u
        · subst hi2
          show I2 (19 + 2 * i) 2 = nI (if i = i then a1 else ar i).length
          rw [if_pos rfl]
          exact (congrFun (r1 (19 + 2 * i) (by omega)) 2).trans p2
        · show I2 (19 + 2 * i) 2 = nI (if i = u then a1 else ar i).length
          rw [if_neg hi2]
          exact (congrFun (ee (19 + 2 * i) (by omega) (by omega) (by omega) (by omega) (by omega) (by omega)) 2).trans (k5 i hi)
    · have q2 := q2 h0
      have hU := rN h0
      have ee : ∀ a, a ≠ 3 → (a < 5 ∨ 8 < a) → a ≠ 62 → (a < 67 ∨ 72 < a) → I2 a = I a := fun a h1 h2 h3 h4 => (hU.1 a h3 h4).trans (q2 a h1 (by omega) (by omega) (by omega) (by omega))
      have e62 : ∀ k, k ≠ 7 → k ≠ 8 → k ≠ 9 → (k < 10 ∨ 15 < k) → I2 62 k = I 62 k := fun k h1 h2 h3 h4 => (hU.2 k h1 h2 h3 h4).trans (congrFun (q2 62 (by decide) (by decide) (by decide) (by decide) (by decide)) k)
      refine ⟨far, x0, 0, ⟨?_, ?_, ?_, ?_, ?_, ?_, ?_⟩, ?_⟩
      · exact gFX_c hFX (congrFun (ee 2 (by omega) (by omega) (by omega) (by omega)) 0) (congrFun (ee 2 (by omega) (by omega) (by omega) (by omega)) 1) (e62 6 (by decide) (by decide) (by decide) (by decide))
      · exact ⟨(congrFun (hU.1 3 (by decide) (by decide)) 1).trans q1, by omega, (fun j => by rw [ee 4 (by omega) (by omega) (by omega) (by omega)]; exact hT.2.2.1 j), r7, by rw [ee 66 (by omega) (by omega) (by omega) (by omega), ee 4 (by omega) (by omega) (by omega) (by omega)]; exact hT.2.2.2.2⟩
      · exact gH_c hH (fun a ha => ee a (by omega) (by omega) (by omega) (by omega))
      · exact gB_c hB (fun a ha => ee a (by omega) (by omega) (by omega) (by omega))
      · exact gF_c hF (fun a ha => ee a (by omega) (by omega) (by omega) (by omega)) (fun k hk => e62 k (by omega) (by omega) (by omega) (by omega))
      · exact gK_c hK (fun a ha => ee a (by omega) (by omega) (by omega) (by omega)) (fun k hk => congrFun (ee 2 (by omega) (by omega) (by omega) (by omega)) k) (fun k hk => e62 k (by omega) (by omega) (by omega) (by omega))
      · exact gL_c hL (fun a ha => ee a (by omega) (by omega) (by omega) (by omega)) (e62 46 (by decide) (by decide) (by decide) (by decide))
      · exact gE_c hE (fun a ha => ee a (by omega) (by omega) (by omega) (by omega)) (fun k hk => e62 k (by omega) (by omega) (by omega) (by omega)) (fun b _ => rfl)
  · exact twO hR (c_ruleN hT.1 hT.2.1 hn) (w_ruleN hT.2.2.2.1 hT.2.1 hn)
