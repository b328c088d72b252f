/-! BOTH: the tape, the book, what rolls, what is kept -/
/-- four bytes come behind the tape -/
def tu (f : Nat → Int32) (t : Nat) (v : Int32) : Nat → Int32 := upd (upd (upd (upd f t (vp_nar .byte ((v >>> ((nI 24) &&& 31)).toInt8.toInt32))) (t + 1) (vp_nar .byte ((v >>> ((nI 16) &&& 31)).toInt8.toInt32))) ((t + 1) + 1) (vp_nar .byte ((v >>> ((nI 8) &&& 31)).toInt8.toInt32))) (((t + 1) + 1) + 1) (vp_nar .byte ((v >>> ((nI 0) &&& 31)).toInt8.toInt32))
theorem tadd_4 {I : zI} {t : Nat} {v : Int32} : tadd I t v 4 = tu (I 4) t v := rfl
theorem taddM_66 {I : zI} {t : Nat} {v : Int32} : taddM I t v 66 = tu (I 66) t v := rfl
theorem tadd_31 {I : zI} {t : Nat} {v : Int32} : tadd I t v 3 1 = nI (t + 4) := by unfold tadd; rw [zwr_at, if_pos ⟨rfl, rfl⟩]
theorem taddM_7 {I : zI} {t : Nat} {v : Int32} : taddM I t v 62 7 = nI (t + 4) := by unfold taddM; rw [zwr_at, if_pos ⟨rfl, rfl⟩]
theorem tadd_o {I : zI} {t b : Nat} {v : Int32} (h : b ≠ 3) (h2 : b ≠ 4) : tadd I t v b = I b := by unfold tadd; rw [zw_o h, zw_o h2, zw_o h, zw_o h2, zw_o h, zw_o h2, zw_o h, zw_o h2]
theorem taddM_o {I : zI} {t b : Nat} {v : Int32} (h : b ≠ 62) (h2 : b ≠ 66) : taddM I t v b = I b := by unfold taddM; rw [zw_o h, zw_o h2, zw_o h, zw_o h2, zw_o h, zw_o h2, zw_o h, zw_o h2]
theorem taddM_k {I : zI} {t k : Nat} {v : Int32} (h : k ≠ 7) : taddM I t v 62 k = I 62 k := by
  unfold taddM
  simp only [zwr_at]
  repeat rw [if_neg (by omega)]
theorem upd_f {f : Nat → Int32} {k : Nat} {x : Int32} (h : ∀ j, fits .byte (.int (f j)) = true) (j : Nat) : fits .byte (.int (upd f k (vp_nar .byte x) j)) = true := by
  by_cases e : j = k
  · rw [show upd f k (vp_nar .byte x) j = vp_nar .byte x from if_pos e]; exact fits_n x
  · rw [show upd f k (vp_nar .byte x) j = f j from if_neg e]; exact h j
theorem tu_f {f : Nat → Int32} {t : Nat} {v : Int32} (h : ∀ j, fits .byte (.int (f j)) = true) (j : Nat) : fits .byte (.int (tu f t v j)) = true := upd_f (upd_f (upd_f (upd_f h))) j
def tu5 (f : Nat → Int32) (t : Nat) (a b c d e : Int32) : Nat → Int32 := tu (tu (tu (tu (tu f t a) (t + 4) b) (t + 8) c) (t + 12) d) (t + 16) e
theorem tfeed_4 {I : zI} {t : Nat} {a b c d e : Int32} : tfeed I t a b c d e 4 = tu5 (I 4) t a b c d e := by unfold tfeed tu5; rw [tadd_4, tadd_4, tadd_4, tadd_4, tadd_4]
theorem tfeedM_66 {I : zI} {t : Nat} {a b c d e : Int32} : tfeedM I t a b c d e 66 = tu5 (I 66) t a b c d e := by unfold tfeedM tu5; rw [taddM_66, taddM_66, taddM_66, taddM_66, taddM_66]
theorem tfeed_o {I : zI} {t x : Nat} {a b c d e : Int32} (h : x ≠ 3) (h2 : x ≠ 4) : tfeed I t a b c d e x = I x := by unfold tfeed; rw [tadd_o h h2, tadd_o h h2, tadd_o h h2, tadd_o h h2, tadd_o h h2]
theorem tfeedM_o {I : zI} {t x : Nat} {a b c d e : Int32} (h : x ≠ 62) (h2 : x ≠ 66) : tfeedM I t a b c d e x = I x := by unfold tfeedM; rw [taddM_o h h2, taddM_o h h2, taddM_o h h2, taddM_o h h2, taddM_o h h2]
theorem tfeedM_k {I : zI} {t k : Nat} {a b c d e : Int32} (h : k ≠ 7) : tfeedM I t a b c d e 62 k = I 62 k := by unfold tfeedM; rw [taddM_k h, taddM_k h, taddM_k h, taddM_k h, taddM_k h]
theorem tfeed_31 {I : zI} {t : Nat} {a b c d e : Int32} : tfeed I t a b c d e 3 1 = nI (t + 20) := tadd_31
theorem tfeedM_7 {I : zI} {t : Nat} {a b c d e : Int32} : tfeedM I t a b c d e 62 7 = nI (t + 20) := taddM_7
theorem tu5_f {f : Nat → Int32} {t : Nat} {a b c d e : Int32} (h : ∀ j, fits .byte (.int (f j)) = true) (j : Nat) : fits .byte (.int (tu5 f t a b c d e j)) = true := tu_f (tu_f (tu_f (tu_f (tu_f h)))) j
set_option maxRecDepth 100000 in
set_option maxHeartbeats 4000000 in
theorem tw_feed {G : zG} {a b c d e : Int32} : twin G false mX11_feed mX12_feed [.int a, .int b, .int c, .int d, .int e] := by
  intro I J hR
  obtain ⟨far, x0, t, hO, hE⟩ := id hR
  obtain ⟨hFX, hT, hH, hB, hF, hK, hL⟩ := id hO
  have t260 := hT.2.1
  by_cases hn : t + 20 ≤ 260
  · skip
    refine ⟨_, _, _, by decide, kvI, c_feedY hT.1 hT.2.1 hn, ?_⟩
    rintro _ _ ⟨rfl, rfl⟩
    refine ⟨_, by decide, zK_imp (w_feedY (t := t) (by rw [tfeed_o (by decide) (by decide)]; exact hT.2.2.2.1) hT.2.1 hn) ?_⟩
    rintro _ _ _ _ ⟨rfl, rfl, rfl, rfl⟩
    exact ⟨rfl, rfl, far, x0, t + 20, ⟨(gFX_c hFX (by rw [tfeedM_o (by decide) (by decide), tfeed_o (by decide) (by decide)]) (by rw [tfeedM_o (by decide) (by decide), tfeed_o (by decide) (by decide)]) (by rw [tfeedM_k (by decide), tfeed_o (by decide) (by decide)])), (⟨(by rw [tfeedM_o (by decide) (by decide)]; exact tfeed_31), by omega, (fun j => by rw [tfeedM_o (by decide) (by decide), tfeed_4]; exact tu5_f hT.2.2.1 j), tfeedM_7, (by rw [tfeedM_66, tfeed_o (by decide) (by decide), tfeedM_o (by decide) (by decide), tfeed_4, hT.2.2.2.2])⟩), (gH_c hH (fun a ha => by rw [tfeedM_o (by omega) (by omega), tfeed_o (by omega) (by omega)])), (gB_c hB (fun a ha => by rw [tfeedM_o (by omega) (by omega), tfeed_o (by omega) (by omega)])), (gF_c hF (fun a ha => by rw [tfeedM_o (by omega) (by omega), tfeed_o (by omega) (by omega)]) (fun k hk => by rw [tfeedM_k (by omega), tfeed_o (by decide) (by decide)])), (gK_c hK (fun a ha => by rw [tfeedM_o (by omega) (by omega), tfeed_o (by omega) (by omega)]) (fun k hk => by rw [tfeedM_o (by decide) (by decide), tfeed_o (by decide) (by decide)]) (fun k hk => by rw [tfeedM_k (by omega), tfeed_o (by decide) (by decide)])), (gL_c hL (fun a ha => by rw [tfeedM_o (by omega) (by omega), tfeed_o (by omega) (by omega)]) (by rw [tfeedM_k (by decide), tfeed_o (by decide) (by decide)]))⟩, gE_c hE (fun a ha => by rw [tfeedM_o (by omega) (by omega), tfeed_o (by omega) (by omega)]) (fun k hk => by rw [tfeedM_k (by omega), tfeed_o (by decide) (by decide)]) (fun _ _ => rfl)⟩
  · exact twO hR (c_feedN hT.1 hT.2.1 hn) (w_feedN hT.2.2.2.1 hT.2.1 hn)
set_option maxRecDepth 100000 in
set_option maxHeartbeats 4000000 in
theorem tw_check {G : zG} {n : Int32} : twin G false mX11_check mX12_check [.int n] := by
  intro I J hR
  obtain ⟨far, x0, t, hO, hE⟩ := id hR
  obtain ⟨hFX, hT, hH, hB, hF, hK, hL⟩ := id hO
  by_cases hn : inZ n 0 8 ∧ 4 * n.toInt ≤ t
  · obtain ⟨k, rfl, k1, k2⟩ := inZ_n hn.1 (by decide)
    have h4 : 4 * k ≤ t := by have := hn.2; rw [nI_toInt (by omega)] at this; omega
    refine ⟨_, _, _, by decide, kvI, c_checkY hT.1 hT.2.1 (by omega) h4, ?_⟩
    rintro _ _ ⟨rfl, rfl⟩
    refine ⟨_, by decide, zK_imp (w_checkY (t := t) (by simp [zwr_at]; exact hT.2.2.2.1) hT.2.1 (by omega) h4) ?_⟩
    rintro _ _ _ _ ⟨rfl, rfl, rfl, rfl⟩
    refine ⟨rfl, ?_, far, x0, 0, ?_, ?_⟩
    · rw [zw_o (by decide), zw_o (by decide), hT.2.2.2.2, chkL_c hH.1 k 0 (by omega)]
    · exact ⟨(gFX_c hFX (by simp [zwr_at]) (by simp [zwr_at]) (by simp [zwr_at])), (⟨by simp [zwr_at], by omega, (by rw [zw_o (by decide), zw_o (by decide)]; exact hT.2.2.1), by simp [zwr_at], (by rw [zw_o (by decide), zw_o (by decide), zw_o (by decide), zw_o (by decide)]; exact hT.2.2.2.2)⟩), (gH_c hH (fun a ha => by rw [zw_o (by omega), zw_o (by omega)])), (gB_c hB (fun a ha => by rw [zw_o (by omega), zw_o (by omega)])), (gF_c hF (fun a ha => by rw [zw_o (by omega), zw_o (by omega)]) (fun k hk => by simp only [zwr_at]; repeat rw [if_neg (by omega)])), (gK_c hK (fun a ha => by rw [zw_o (by omega), zw_o (by omega)]) (fun k hk => by simp only [zwr_at]; repeat rw [if_neg (by omega)]) (fun k hk => by simp only [zwr_at]; repeat rw [if_neg (by omega)])), (gL_c hL (fun a ha => by rw [zw_o (by omega), zw_o (by omega)]) (by simp [zwr_at]))⟩
    · exact gE_c hE (fun a ha => by rw [zw_o (by omega), zw_o (by omega)]) (fun k hk => by simp only [zwr_at]; repeat rw [if_neg (by omega)]) (fun _ _ => rfl)
  · exact twO hR (c_checkN hT.1 hT.2.1 hn) (w_checkN hT.2.2.2.1 hT.2.1 hn)
theorem bad_bX {I : zI} {i b : Nat} {s h : Nat → Nat} (hb : bkX I 44 s h) (hi : i < 5) (hb1 : b ≤ 1) (h60 : sm5 s < 60) : bkX (badd I i b s h) 44 (fN s i (s i + 1)) (fN h i (h i + b)) := by
  unfold badd
  have hs : sm5 (fN s i (s i + 1)) = sm5 s + 1 := by
    unfold sm5
    rcases (show i = 0 ∨ i = 1 ∨ i = 2 ∨ i = 3 ∨ i = 4 by omega) with rfl | rfl | rfl | rfl | rfl <;> simp [fN] <;> omega
  refine ⟨by rw [hs]; simp [zwr_at], by omega, fun k hk => ?_⟩
  have h0 := hb.2.2 k hk
  by_cases e : k = i
  · subst e
    have h5 : s k < 60 := Nat.lt_of_le_of_lt (by unfold sm5; rcases (show k = 0 ∨ k = 1 ∨ k = 2 ∨ k = 3 ∨ k = 4 by omega) with rfl | rfl | rfl | rfl | rfl <;> omega) h60
    simp [zwr_at, fN_s]
    omega
  · rw [fN_n e, fN_n e]
    simp [zwr_at, e]
    exact h0
theorem bad_bM {I : zI} {i b : Nat} {s h : Nat → Nat} (hb : bkM I 91 92 s h) (hi : i < 5) (hb1 : b ≤ 1) (h60 : sm5 s < 60) : bkM (baddM I i b s h) 91 92 (fN s i (s i + 1)) (fN h i (h i + b)) := by
  have hs : sm5 (fN s i (s i + 1)) = sm5 s + 1 := by
    unfold sm5
    rcases (show i = 0 ∨ i = 1 ∨ i = 2 ∨ i = 3 ∨ i = 4 by omega) with rfl | rfl | rfl | rfl | rfl <;> simp [fN] <;> omega
  refine ⟨by omega, fun k hk => ?_⟩
  have h0 := hb.2 k hk
  unfold baddM
  by_cases e : k = i
  · subst e
    have h5 : s k < 60 := Nat.lt_of_le_of_lt (by unfold sm5; rcases (show k = 0 ∨ k = 1 ∨ k = 2 ∨ k = 3 ∨ k = 4 by omega) with rfl | rfl | rfl | rfl | rfl <;> omega) h60
    rcases (show b = 0 ∨ b = 1 by omega) with rfl | rfl
    · rw [if_neg (by decide)]
      simp [zwr_at, fN_s]
      exact ⟨h0.2.1, by omega, by omega⟩
    · rw [if_pos rfl]
      simp [zwr_at, fN_s]
      omega
  · rw [fN_n e, fN_n e]
    rcases (show b = 0 ∨ b = 1 by omega) with rfl | rfl
    · rw [if_neg (by decide)]
      simp [zwr_at, e]
      exact h0
    · rw [if_pos rfl]
      simp [zwr_at, e]
      exact h0
theorem badd_o {I : zI} {i b x : Nat} {s h : Nat → Nat} (hx : x < 44 ∨ 46 < x) : badd I i b s h x = I x := by unfold badd; rw [zw_o (by omega), zw_o (by omega), zw_o (by omega)]
theorem baddM_o {I : zI} {i b x : Nat} {s h : Nat → Nat} (hx : x < 91 ∨ 92 < x) : baddM I i b s h x = I x := by
  unfold baddM
  split
  · rw [zw_o (by omega), zw_o (by omega)]
  · rw [zw_o (by omega)]
theorem bkX_c {I I' : zI} {s h : Nat → Nat} (hb : bkX I 44 s h) (e : ∀ a, a < 62 → I' a = I a) : bkX I' 44 s h := by
  unfold bkX at *
  rw [e 44 (by omega), e (44 + 1) (by omega), e (44 + 2) (by omega)]
  exact hb
theorem bkM_c {I I' : zI} {s h : Nat → Nat} (hb : bkM I 91 92 s h) (e : ∀ a, 62 ≤ a → I' a = I a) : bkM I' 91 92 s h := by
  unfold bkM at *
  rw [e 91 (by omega), e 92 (by omega)]
  exact hb
theorem fN_le {s h : Nat → Nat} (hs : ∀ k, h k ≤ s k) {i b : Nat} (hb : b ≤ 1) (k : Nat) : fN h i (h i + b) k ≤ fN s i (s i + 1) k := by
  unfold fN
  split
  · have := hs i; omega
  · exact hs k
set_option maxRecDepth 100000 in
set_option maxHeartbeats 4000000 in
theorem tw_shot0 {G : zG} {n : Int32} : twin G false mX11_shot mX12_shot [.int n, .int (nI 0)] := by
  intro I J hR
  obtain ⟨far, x0, t, hO, hE⟩ := id hR
  obtain ⟨hFX, hT, hH, hB, hF, hK, hL⟩ := id hO
  obtain ⟨s, h, b1, b2, b3⟩ := id hB
  by_cases hn : inZ n 6 10 ∧ sm5 s < 60
  · obtain ⟨k, rfl, k1, k2⟩ := inZ_n hn.1 (by decide)
    refine ⟨_, _, _, by decide, kvI, c_shotY0 b1 (by omega) (by omega) hn.2, ?_⟩
    rintro _ _ ⟨rfl, rfl⟩
    refine ⟨_, by decide, zK_imp (w_shotY0 (bkM_c b2 (fun a ha => badd_o (by omega))) (by omega) (by omega) hn.2) ?_⟩
    rintro _ _ _ _ ⟨rfl, rfl, rfl, rfl⟩
    exact ⟨rfl, rfl, far, x0, t, ⟨(gFX_c hFX (by rw [baddM_o (by decide), badd_o (by decide)]) (by rw [baddM_o (by decide), badd_o (by decide)]) (by rw [baddM_o (by decide), badd_o (by decide)])), (gT_c hT (by rw [baddM_o (by decide), badd_o (by decide)]) (by rw [baddM_o (by decide), badd_o (by decide)]) (by rw [baddM_o (by decide), badd_o (by decide)]) (by rw [baddM_o (by decide), badd_o (by decide)])), (gH_c hH (fun a ha => by rw [baddM_o (by omega), badd_o (by omega)])), (⟨_, _, bkX_c (bad_bX b1 (i := k - 6) (b := 0) (by omega) (by decide) hn.2) (fun a ha => baddM_o (by omega)), bad_bM (bkM_c b2 (fun a ha => badd_o (by omega))) (by omega) (by decide) hn.2, fN_le b3 (by decide)⟩), (gF_c hF (fun a ha => by rw [baddM_o (by omega), badd_o (by omega)]) (fun k hk => by rw [baddM_o (by decide), badd_o (by decide)])), (gK_c hK (fun a ha => by rw [baddM_o (by omega), badd_o (by omega)]) (fun k hk => by rw [baddM_o (by decide), badd_o (by decide)]) (fun k hk => by rw [baddM_o (by decide), badd_o (by decide)])), (gL_c hL (fun a ha => by rw [baddM_o (by omega), badd_o (by omega)]) (by rw [baddM_o (by decide), badd_o (by decide)]))⟩, gE_c hE (fun a ha => by rw [baddM_o (by omega), badd_o (by omega)]) (fun k hk => by rw [baddM_o (by decide), badd_o (by decide)]) (fun _ _ => rfl)⟩
  · exact twO hR (c_shotN b1 hn) (w_shotN b2 hn)
set_option maxRecDepth 100000 in
set_option maxHeartbeats 4000000 in
theorem tw_shot1 {G : zG} {n : Int32} : twin G false mX11_shot mX12_shot [.int n, .int (nI 1)] := by
  intro I J hR
  obtain ⟨far, x0, t, hO, hE⟩ := id hR
  obtain ⟨hFX, hT, hH, hB, hF, hK, hL⟩ := id hO
  obtain ⟨s, h, b1, b2, b3⟩ := id hB
  by_cases hn : inZ n 6 10 ∧ sm5 s < 60
  · obtain ⟨k, rfl, k1, k2⟩ := inZ_n hn.1 (by decide)
    refine ⟨_, _, _, by decide, kvI, c_shotY1 b1 (by omega) (by omega) hn.2, ?_⟩
    rintro _ _ ⟨rfl, rfl⟩
    refine ⟨_, by decide, zK_imp (w_shotY1 (bkM_c b2 (fun a ha => badd_o (by omega))) (by omega) (by omega) hn.2) ?_⟩
    rintro _ _ _ _ ⟨rfl, rfl, rfl, rfl⟩
    exact ⟨rfl, rfl, far, x0, t, ⟨(gFX_c hFX (by rw [baddM_o (by decide), badd_o (by decide)]) (by rw [baddM_o (by decide), badd_o (by decide)]) (by rw [baddM_o (by decide), badd_o (by decide)])), (gT_c hT (by rw [baddM_o (by decide), badd_o (by decide)]) (by rw [baddM_o (by decide), badd_o (by decide)]) (by rw [baddM_o (by decide), badd_o (by decide)]) (by rw [baddM_o (by decide), badd_o (by decide)])), (gH_c hH (fun a ha => by rw [baddM_o (by omega), badd_o (by omega)])), (⟨_, _, bkX_c (bad_bX b1 (i := k - 6) (b := 1) (by omega) (by decide) hn.2) (fun a ha => baddM_o (by omega)), bad_bM (bkM_c b2 (fun a ha => badd_o (by omega))) (by omega) (by decide) hn.2, fN_le b3 (by decide)⟩), (gF_c hF (fun a ha => by rw [baddM_o (by omega), badd_o (by omega)]) (fun k hk => by rw [baddM_o (by decide), badd_o (by decide)])), (gK_c hK (fun a ha => by rw [baddM_o (by omega), badd_o (by omega)]) (fun k hk => by rw [baddM_o (by decide), badd_o (by decide)]) (fun k hk => by rw [baddM_o (by decide), badd_o (by decide)])), (gL_c hL (fun a ha => by rw [baddM_o (by omega), badd_o (by omega)]) (by rw [baddM_o (by decide), badd_o (by decide)]))⟩, gE_c hE (fun a ha => by rw [baddM_o (by omega), badd_o (by omega)]) (fun k hk => by rw [baddM_o (by decide), badd_o (by decide)]) (fun _ _ => rfl)⟩
  · exact twO hR (c_shotN b1 hn) (w_shotN b2 hn)
theorem fit_e {s h : Nat → Nat} (hs : ∀ k, h k ≤ s k) (h60 : sm5 s ≤ 60) {a1 l1 a2 l2 : Nat} (h1 : a1 ≤ 10) (h2 : a2 ≤ 10) : cmpS (pRowG 10 a1 l1 s h 5) (pRowG 10 a2 l2 s h 5) 64 = cmpS (pRow a1 l1 s h 5) (pRow a2 l2 s h 5) 7 := by
  have hm : smS s 5 ≤ 60 := by have e : smS s 5 = sm5 s := by (unfold sm5; simp only [smS]; omega)
                               omega
  rw [pRow_G, pRow_G, cmp_fit (B := 10) (n := 64) (by decide) (by decide) (by decide) hs hm h1 h2, cmp_fit (B := 1000000000) (n := 7) (by decide) (by decide) (by decide) hs hm h1 h2]
set_option maxRecDepth 100000 in
set_option maxHeartbeats 4000000 in
theorem tw_fits {G : zG} {a b c d : Int32} : twin G false mX11_fits mX12_fits [.int a, .int b, .int c, .int d] := by
  intro I J hR
  obtain ⟨far, x0, t, hO, hE⟩ := id hR
  obtain ⟨hFX, hT, hH, hB, hF, hK, hL⟩ := id hO
  obtain ⟨s, h, b1, b2, b3⟩ := id hB
  by_cases hn : (inZ a 0 10 ∧ inZ b 0 3) ∧ inZ c 0 10 ∧ inZ d 0 3
  · obtain ⟨a, rfl, a1, a2⟩ := inZ_n hn.1.1 (by decide)
    obtain ⟨b, rfl, e1, e2⟩ := inZ_n hn.1.2 (by decide)
    obtain ⟨c, rfl, c1, c2⟩ := inZ_n hn.2.1 (by decide)
    obtain ⟨d, rfl, d1, d2⟩ := inZ_n hn.2.2 (by decide)
    refine ⟨_, _, _, by decide, kvI, c_fitsY b1 (by omega) (by omega) (by omega) (by omega), ?_⟩
    rintro I1 _ ⟨q1, rfl⟩
    refine ⟨_, by decide, zK_imp (w_fitsY (bkM_c b2 (fun a ha => q1 a (by omega) (by omega))) (by omega) (by omega) (by omega) (by omega)) ?_⟩
    rintro _ _ I2 _ ⟨rfl, rfl, q2, rfl⟩
    refine ⟨rfl, by rw [fit_e b3 b2.1 (by omega) (by omega)], far, x0, t, ⟨(gFX_c hFX ((congrFun (q2 2 (by decide) (by decide)) 0).trans (congrFun (q1 2 (by decide) (by decide)) 0)) ((congrFun (q2 2 (by decide) (by decide)) 1).trans (congrFun (q1 2 (by decide) (by decide)) 1)) ((congrFun (q2 62 (by decide) (by decide)) 6).trans (congrFun (q1 62 (by decide) (by decide)) 6))), (gT_c hT ((congrFun (q2 3 (by decide) (by decide)) 1).trans (congrFun (q1 3 (by decide) (by decide)) 1)) ((q2 4 (by decide) (by decide)).trans (q1 4 (by decide) (by decide))) ((congrFun (q2 62 (by decide) (by decide)) 7).trans (congrFun (q1 62 (by decide) (by decide)) 7)) ((q2 66 (by decide) (by decide)).trans (q1 66 (by decide) (by decide)))), (gH_c hH (fun a ha => (q2 a (by omega) (by omega)).trans (q1 a (by omega) (by omega)))), (gB_c hB (fun a ha => (q2 a (by omega) (by omega)).trans (q1 a (by omega) (by omega)))), (gF_c hF (fun a ha => (q2 a (by omega) (by omega)).trans (q1 a (by omega) (by omega))) (fun k hk => (congrFun (q2 62 (by decide) (by decide)) k).trans (congrFun (q1 62 (by decide) (by decide)) k))), (gK_c hK (fun a ha => (q2 a (by omega) (by omega)).trans (q1 a (by omega) (by omega))) (fun k hk => (congrFun (q2 2 (by decide) (by decide)) k).trans (congrFun (q1 2 (by decide) (by decide)) k)) (fun k hk => (congrFun (q2 62 (by decide) (by decide)) k).trans (congrFun (q1 62 (by decide) (by decide)) k))), (gL_c hL (fun a ha => (q2 a (by omega) (by omega)).trans (q1 a (by omega) (by omega))) ((congrFun (q2 62 (by decide) (by decide)) 46).trans (congrFun (q1 62 (by decide) (by decide)) 46)))⟩, gE_c hE (fun a ha => (q2 a (by omega) (by omega)).trans (q1 a (by omega) (by omega))) (fun k hk => (congrFun (q2 62 (by decide) (by decide)) k).trans (congrFun (q1 62 (by decide) (by decide)) k)) (fun _ _ => rfl)⟩
  · exact twO hR (c_fitsN hn) (w_fitsN hn)
set_option maxRecDepth 100000 in
set_option maxHeartbeats 4000000 in
theorem tw_roll {G : zG} {a b c d e : Int32} : twin G false mX11_roll mX12_roll [.int a, .int b, .int c, .int d, .int e] := by
  intro I J hR
  obtain ⟨far, x0, t, hO, hE⟩ := id hR
  obtain ⟨hFX, hT, hH, hB, hF, hK, hL⟩ := id hO
  by_cases hn : (inZ a 0 7 ∧ inZ b 0 7) ∧ inZ c 0 3 ∧ inZ d 0 9 ∧ inZ e 0 1
  · obtain ⟨a, rfl, a1, a2⟩ := inZ_n hn.1.1 (by decide)
    obtain ⟨b, rfl, e1, e2⟩ := inZ_n hn.1.2 (by decide)
    obtain ⟨c, rfl, c1, c2⟩ := inZ_n hn.2.1 (by decide)
    obtain ⟨d, rfl, d1, d2⟩ := inZ_n hn.2.2.1 (by decide)
    obtain ⟨e, rfl, g1, g2⟩ := inZ_n hn.2.2.2 (by decide)
    rcases (show c = 0 ∨ c = 1 ∨ c = 2 ∨ c = 3 by omega) with rfl | rfl | rfl | rfl
    · skip
      refine ⟨_, _, _, by decide, kvI, c_roll0 (by omega) (by omega) (by omega) (by omega), ?_⟩
      rintro I1 _ ⟨q1, rfl⟩
      refine ⟨_, by decide, zK_imp (w_roll0 (by omega) (by omega) (by omega) (by omega)) ?_⟩
      rintro _ _ I2 _ ⟨rfl, rfl, q2, rfl⟩
      refine ⟨rfl, by rw [q1 95 (by decide), rolR_c hH.1 (by omega) (by omega)], far, x0, t, ⟨(gFX_c hFX ((congrFun (q2.1 2 (by decide)) 0).trans (congrFun (q1 2 (by decide)) 0)) ((congrFun (q2.1 2 (by decide)) 1).trans (congrFun (q1 2 (by decide)) 1)) ((q2.2 6 (by decide)).trans (congrFun (q1 62 (by decide)) 6))), (gT_c hT ((congrFun (q2.1 3 (by decide)) 1).trans (congrFun (q1 3 (by decide)) 1)) ((q2.1 4 (by decide)).trans (q1 4 (by decide))) ((q2.2 7 (by decide)).trans (congrFun (q1 62 (by decide)) 7)) ((q2.1 66 (by decide)).trans (q1 66 (by decide)))), (gH_c hH (fun a ha => (q2.1 a (by omega)).trans (q1 a (by omega)))), (gB_c hB (fun a ha => (q2.1 a (by omega)).trans (q1 a (by omega)))), (gF_c hF (fun a ha => (q2.1 a (by omega)).trans (q1 a (by omega))) (fun k hk => (q2.2 k (by omega)).trans (congrFun (q1 62 (by decide)) k))), (gK_c hK (fun a ha => (q2.1 a (by omega)).trans (q1 a (by omega))) (fun k hk => (congrFun (q2.1 2 (by decide)) k).trans (congrFun (q1 2 (by decide)) k)) (fun k hk => (q2.2 k (by omega)).trans (congrFun (q1 62 (by decide)) k))), (gL_c hL (fun a ha => (q2.1 a (by omega)).trans (q1 a (by omega))) ((q2.2 46 (by decide)).trans (congrFun (q1 62 (by decide)) 46)))⟩, gE_c hE (fun a ha => (q2.1 a (by omega)).trans (q1 a (by omega))) (fun k hk => (q2.2 k (by omega)).trans (congrFun (q1 62 (by decide)) k)) (fun _ _ => rfl)⟩
    · skip
      refine ⟨_, _, _, by decide, kvI, c_roll1 (by omega) (by omega) (by omega) (by omega), ?_⟩
      rintro I1 _ ⟨q1, rfl⟩
      refine ⟨_, by decide, zK_imp (w_roll1 (by omega) (by omega) (by omega) (by omega)) ?_⟩
      rintro _ _ I2 _ ⟨rfl, rfl, q2, rfl⟩
      refine ⟨rfl, by rw [q1 95 (by decide), rolR_c hH.1 (by omega) (by omega)], far, x0, t, ⟨(gFX_c hFX ((congrFun (q2.1 2 (by decide)) 0).trans (congrFun (q1 2 (by decide)) 0)) ((congrFun (q2.1 2 (by decide)) 1).trans (congrFun (q1 2 (by decide)) 1)) ((q2.2 6 (by decide)).trans (congrFun (q1 62 (by decide)) 6))), (gT_c hT ((congrFun (q2.1 3 (by decide)) 1).trans (congrFun (q1 3 (by decide)) 1)) ((q2.1 4 (by decide)).trans (q1 4 (by decide))) ((q2.2 7 (by decide)).trans (congrFun (q1 62 (by decide)) 7)) ((q2.1 66 (by decide)).trans (q1 66 (by decide)))), (gH_c hH (fun a ha => (q2.1 a (by omega)).trans (q1 a (by omega)))), (gB_c hB (fun a ha => (q2.1 a (by omega)).trans (q1 a (by omega)))), (gF_c hF (fun a ha => (q2.1 a (by omega)).trans (q1 a (by omega))) (fun k hk => (q2.2 k (by omega)).trans (congrFun (q1 62 (by decide)) k))), (gK_c hK (fun a ha => (q2.1 a (by omega)).trans (q1 a (by omega))) (fun k hk => (congrFun (q2.1 2 (by decide)) k).trans (congrFun (q1 2 (by decide)) k)) (fun k hk => (q2.2 k (by omega)).trans (congrFun (q1 62 (by decide)) k))), (gL_c hL (fun a ha => (q2.1 a (by omega)).trans (q1 a (by omega))) ((q2.2 46 (by decide)).trans (congrFun (q1 62 (by decide)) 46)))⟩, gE_c hE (fun a ha => (q2.1 a (by omega)).trans (q1 a (by omega))) (fun k hk => (q2.2 k (by omega)).trans (congrFun (q1 62 (by decide)) k)) (fun _ _ => rfl)⟩
    · skip
      refine ⟨_, _, _, by decide, kvI, c_roll2 (by omega) (by omega) (by omega) (by omega), ?_⟩
      rintro I1 _ ⟨q1, rfl⟩
      refine ⟨_, by decide, zK_imp (w_roll2 (by omega) (by omega) (by omega) (by omega)) ?_⟩
      rintro _ _ I2 _ ⟨rfl, rfl, q2, rfl⟩
      refine ⟨rfl, by rw [q1 95 (by decide), rolR_c hH.1 (by omega) (by omega)], far, x0, t, ⟨(gFX_c hFX ((congrFun (q2.1 2 (by decide)) 0).trans (congrFun (q1 2 (by decide)) 0)) ((congrFun (q2.1 2 (by decide)) 1).trans (congrFun (q1 2 (by decide)) 1)) ((q2.2 6 (by decide)).trans (congrFun (q1 62 (by decide)) 6))), (gT_c hT ((congrFun (q2.1 3 (by decide)) 1).trans (congrFun (q1 3 (by decide)) 1)) ((q2.1 4 (by decide)).trans (q1 4 (by decide))) ((q2.2 7 (by decide)).trans (congrFun (q1 62 (by decide)) 7)) ((q2.1 66 (by decide)).trans (q1 66 (by decide)))), (gH_c hH (fun a ha => (q2.1 a (by omega)).trans (q1 a (by omega)))), (gB_c hB (fun a ha => (q2.1 a (by omega)).trans (q1 a (by omega)))), (gF_c hF (fun a ha => (q2.1 a (by omega)).trans (q1 a (by omega))) (fun k hk => (q2.2 k (by omega)).trans (congrFun (q1 62 (by decide)) k))), (gK_c hK (fun a ha => (q2.1 a (by omega)).trans (q1 a (by omega))) (fun k hk => (congrFun (q2.1 2 (by decide)) k).trans (congrFun (q1 2 (by decide)) k)) (fun k hk => (q2.2 k (by omega)).trans (congrFun (q1 62 (by decide)) k))), (gL_c hL (fun a ha => (q2.1 a (by omega)).trans (q1 a (by omega))) ((q2.2 46 (by decide)).trans (congrFun (q1 62 (by decide)) 46)))⟩, gE_c hE (fun a ha => (q2.1 a (by omega)).trans (q1 a (by omega))) (fun k hk => (q2.2 k (by omega)).trans (congrFun (q1 62 (by decide)) k)) (fun _ _ => rfl)⟩
    · skip
      refine ⟨_, _, _, by decide, kvI, c_roll3 (by omega) (by omega) (by omega) (by omega), ?_⟩
      rintro I1 _ ⟨q1, rfl⟩
      refine ⟨_, by decide, zK_imp (w_roll3 (by omega) (by omega) (by omega) (by omega)) ?_⟩
      rintro _ _ I2 _ ⟨rfl, rfl, q2, rfl⟩
      refine ⟨rfl, by rw [q1 95 (by decide), rolR_c hH.1 (by omega) (by omega)], far, x0, t, ⟨(gFX_c hFX ((congrFun (q2.1 2 (by decide)) 0).trans (congrFun (q1 2 (by decide)) 0)) ((congrFun (q2.1 2 (by decide)) 1).trans (congrFun (q1 2 (by decide)) 1)) ((q2.2 6 (by decide)).trans (congrFun (q1 62 (by decide)) 6))), (gT_c hT ((congrFun (q2.1 3 (by decide)) 1).trans (congrFun (q1 3 (by decide)) 1)) ((q2.1 4 (by decide)).trans (q1 4 (by decide))) ((q2.2 7 (by decide)).trans (congrFun (q1 62 (by decide)) 7)) ((q2.1 66 (by decide)).trans (q1 66 (by decide)))), (gH_c hH (fun a ha => (q2.1 a (by omega)).trans (q1 a (by omega)))), (gB_c hB (fun a ha => (q2.1 a (by omega)).trans (q1 a (by omega)))), (gF_c hF (fun a ha => (q2.1 a (by omega)).trans (q1 a (by omega))) (fun k hk => (q2.2 k (by omega)).trans (congrFun (q1 62 (by decide)) k))), (gK_c hK (fun a ha => (q2.1 a (by omega)).trans (q1 a (by omega))) (fun k hk => (congrFun (q2.1 2 (by decide)) k).trans (congrFun (q1 2 (by decide)) k)) (fun k hk => (q2.2 k (by omega)).trans (congrFun (q1 62 (by decide)) k))), (gL_c hL (fun a ha => (q2.1 a (by omega)).trans (q1 a (by omega))) ((q2.2 46 (by decide)).trans (congrFun (q1 62 (by decide)) 46)))⟩, gE_c hE (fun a ha => (q2.1 a (by omega)).trans (q1 a (by omega))) (fun k hk => (q2.2 k (by omega)).trans (congrFun (q1 62 (by decide)) k)) (fun _ _ => rfl)⟩
  · exact twO hR (c_rollN hn) (w_rollN hn)
set_option maxRecDepth 100000 in
set_option maxHeartbeats 4000000 in
theorem tw_lay {G : zG} {a b c : Int32} : twin G false mX11_lay mX12_lay [.int a, .int b, .int c] := by
  intro I J hR
  obtain ⟨far, x0, t, hO, hE⟩ := id hR
  obtain ⟨hFX, hT, hH, hB, hF, hK, hL⟩ := id hO
  by_cases hn : (inZ a 0 7 ∧ inZ b 0 7) ∧ inZ c 0 2
  · obtain ⟨a, rfl, a1, a2⟩ := inZ_n hn.1.1 (by decide)
    obtain ⟨b, rfl, e1, e2⟩ := inZ_n hn.1.2 (by decide)
    obtain ⟨c, rfl, c1, c2⟩ := inZ_n hn.2 (by decide)
    refine ⟨_, _, _, by decide, kvI, c_layY (by omega) (by omega) (by omega), ?_⟩
    rintro I1 _ ⟨q1, rfl⟩
    refine ⟨_, by decide, zK_imp (w_layY (by omega) (by omega) (by omega)) ?_⟩
    rintro _ _ I2 _ ⟨rfl, rfl, q2, rfl⟩
    refine ⟨rfl, by rw [q1 95 (by decide), layS_c hH.1 72], far, x0, t, ⟨(gFX_c hFX ((congrFun (q2.1 2 (by decide)) 0).trans (congrFun (q1 2 (by decide)) 0)) ((congrFun (q2.1 2 (by decide)) 1).trans (congrFun (q1 2 (by decide)) 1)) ((q2.2 6 (by decide)).trans (congrFun (q1 62 (by decide)) 6))), (gT_c hT ((congrFun (q2.1 3 (by decide)) 1).trans (congrFun (q1 3 (by decide)) 1)) ((q2.1 4 (by decide)).trans (q1 4 (by decide))) ((q2.2 7 (by decide)).trans (congrFun (q1 62 (by decide)) 7)) ((q2.1 66 (by decide)).trans (q1 66 (by decide)))), (gH_c hH (fun a ha => (q2.1 a (by omega)).trans (q1 a (by omega)))), (gB_c hB (fun a ha => (q2.1 a (by omega)).trans (q1 a (by omega)))), (gF_c hF (fun a ha => (q2.1 a (by omega)).trans (q1 a (by omega))) (fun k hk => (q2.2 k (by omega)).trans (congrFun (q1 62 (by decide)) k))), (gK_c hK (fun a ha => (q2.1 a (by omega)).trans (q1 a (by omega))) (fun k hk => (congrFun (q2.1 2 (by decide)) k).trans (congrFun (q1 2 (by decide)) k)) (fun k hk => (q2.2 k (by omega)).trans (congrFun (q1 62 (by decide)) k))), (gL_c hL (fun a ha => (q2.1 a (by omega)).trans (q1 a (by omega))) ((q2.2 46 (by decide)).trans (congrFun (q1 62 (by decide)) 46)))⟩, gE_c hE (fun a ha => (q2.1 a (by omega)).trans (q1 a (by omega))) (fun k hk => (q2.2 k (by omega)).trans (congrFun (q1 62 (by decide)) k)) (fun _ _ => rfl)⟩
  · exact twO hR (c_layN hn) (w_layN hn)
theorem zcp_at {f g : Nat → Int32} {n j : Nat} : zcp f g n j = if j < n then f j else g j := rfl
theorem keepI_o {I : zI} {s : Nat → Nat} {b : Nat} (h : b ≠ 2) (h2 : b < 53 ∨ 61 < b) : keepI I s b = I b := by
  unfold keepI fcopyK bcp_keep
  rw [zw_o (by omega), zw_o (by omega), zw_o (by omega), zup_n (by omega), zup_n (by omega), zup_n (by omega), zw_o (by omega), zup_n (by omega), zup_n (by omega), zw_o h, zw_o h, zw_o h]
theorem keepI_2 {I : zI} {s : Nat → Nat} {k : Nat} (h : k ≠ 13) (h2 : k ≠ 14) (h3 : k ≠ 15) : keepI I s 2 k = I 2 k := by
  unfold keepI fcopyK bcp_keep
  simp [zwr_at, zup_at, h, h2, h3]
theorem keepM_o {I : zI} {b : Nat} (h : b ≠ 62) (h2 : b < 100 ∨ 104 < b) : keepM I b = I b := by
  unfold keepM mcp
  rw [zup_n (by omega), zup_n (by omega), zup_n (by omega), zup_n (by omega), zup_n (by omega), zw_o h, zw_o h, zw_o h, zw_o h, zw_o h, zw_o h]
theorem keepM_62 {I : zI} {k : Nat} (h : k < 62 ∨ 67 < k) : keepM I 62 k = I 62 k := by
  unfold keepM mcp
  rw [zup_n (by decide), zup_n (by decide), zup_n (by decide), zup_n (by decide), zup_n (by decide)]
  simp only [zwr_at]
  repeat rw [if_neg (by omega)]
theorem keep_b {I : zI} {s h : Nat → Nat} (hb : bkX I 44 s h) : bkX (keepI I s) 53 s h := by
  unfold keepI fcopyK bcp_keep
  refine ⟨by simp [zwr_at, zup_at], hb.2.1, fun k hk => ?_⟩
  have h0 := hb.2.2 k hk
  simp [zwr_at, zup_at, zcp_at, hk]
  exact h0
theorem keep_f {I : zI} {s : Nat → Nat} {m : Nat} {sd xs ys : Nat → Nat} {px py : Nat} (hf : fdX I m sd xs ys px py) : kfX (keepI I s) m sd xs ys px py := by
  unfold keepI fcopyK bcp_keep
  obtain ⟨h1, h2, h3, h4, h5, h6, h7⟩ := hf
  refine ⟨by simp [zwr_at, zup_at]; exact h1, h2, fun k hk => ?_, by simp [zwr_at, zup_at]; exact h4, h5, by simp [zwr_at, zup_at]; exact h6, h7⟩
  have h0 := h3 k hk
  have h12 : k < 12 := by omega
  simp [zwr_at, zup_at, zcp_at, h12]
  exact ⟨⟨h0.1.1, h0.1.2⟩, ⟨h0.2.1.1, h0.2.1.2⟩, h0.2.2.1, h0.2.2.2⟩
theorem keep_bM {I : zI} {s h : Nat → Nat} (hb : bkM I 91 92 s h) : bkM (keepM I) 100 101 s h := by
  unfold keepM mcp
  refine ⟨hb.1, fun k hk => ?_⟩
  have h0 := hb.2 k hk
  simp [zwr_at, zup_at, zcp_at, hk]
  exact h0
theorem keep_fM {I : zI} {m : Nat} {sd xs ys : Nat → Nat} {px py : Nat} (hf : fdM I m sd xs ys px py) : kfM (keepM I) m sd xs ys px py := by
  unfold keepM mcp
  obtain ⟨h1, h2, h3, h4, h5, h6, h7⟩ := hf
  refine ⟨by simp [zwr_at, zup_at]; exact h1, h2, fun k hk => ?_, by simp [zwr_at, zup_at]; exact h4, h5, by simp [zwr_at, zup_at]; exact h6, h7⟩
  have h0 := h3 k hk
  have h12 : k < 12 := by omega
  simp [zwr_at, zup_at, zcp_at, h12]
  exact ⟨⟨h0.1.1, h0.1.2⟩, ⟨h0.2.1.1, h0.2.1.2⟩, h0.2.2.1, h0.2.2.2⟩
theorem keep_2 {I : zI} {s : Nat → Nat} : keepI I s 2 13 = nI 1 ∧ keepI I s 2 14 = I 2 0 ∧ keepI I s 2 15 = I 2 1 := by
  unfold keepI fcopyK bcp_keep
  refine ⟨?_, ?_, ?_⟩ <;> simp [zwr_at, zup_at]
theorem keep_62 {I : zI} : keepM I 62 62 = nI 1 ∧ keepM I 62 63 = I 62 4 ∧ keepM I 62 64 = I 62 6 := by
  unfold keepM mcp
  refine ⟨?_, ?_, ?_⟩ <;> simp [zwr_at, zup_at]
theorem kfX_c {I I' : zI} {m : Nat} {sd xs ys : Nat → Nat} {px py : Nat} (h : kfX I m sd xs ys px py) (e : ∀ a, a < 62 → I' a = I a) : kfX I' m sd xs ys px py := by
  unfold kfX at *
  rw [e 58 (by omega), e 59 (by omega), e 60 (by omega), e 61 (by omega)]
  exact h
theorem bkX_c3 {I I' : zI} {s h : Nat → Nat} (hb : bkX I 53 s h) (e : ∀ a, a < 62 → I' a = I a) : bkX I' 53 s h := by
  unfold bkX at *
  rw [e 53 (by omega), e (53 + 1) (by omega), e (53 + 2) (by omega)]
  exact hb
set_option maxRecDepth 100000 in
set_option maxHeartbeats 4000000 in
theorem tw_keep {G : zG}  : twin G false mX11_keep mX12_keep [] := by
  intro I J hR
  obtain ⟨far, x0, t, hO, hE⟩ := id hR
  obtain ⟨hFX, hT, hH, hB, hF, hK, hL⟩ := id hO
  obtain ⟨s, h, b1, b2, b3⟩ := id hB
  obtain ⟨m, sd, xs, ys, px, py, f1, f2⟩ := id hF
  obtain ⟨_, _, _, _, _, hS, _⟩ := id hE
  refine ⟨_, _, _, by decide, kvI, c_keep b1, ?_⟩
  rintro _ _ ⟨rfl, rfl⟩
  refine ⟨_, by decide, zK_imp (w_keep (bkM_c b2 (fun a ha => keepI_o (by omega) (by omega)))) ?_⟩
  rintro _ _ _ _ ⟨rfl, rfl, rfl, rfl⟩
  exact ⟨rfl, rfl, far, x0, t, ⟨(gFX_c hFX (by rw [keepM_o (by decide) (by decide), keepI_2 (by decide) (by decide) (by decide)]) (by rw [keepM_o (by decide) (by decide), keepI_2 (by decide) (by decide) (by decide)]) (by rw [keepM_62 (by decide), keepI_o (by decide) (by decide)])), (gT_c hT (by rw [keepM_o (by decide) (by decide), keepI_o (by decide) (by decide)]) (by rw [keepM_o (by decide) (by decide), keepI_o (by decide) (by decide)]) (by rw [keepM_62 (by decide), keepI_o (by decide) (by decide)]) (by rw [keepM_o (by decide) (by decide), keepI_o (by decide) (by decide)])), (gH_c hH (fun a ha => by rw [keepM_o (by omega) (by omega), keepI_o (by omega) (by omega)])), (gB_c hB (fun a ha => by rw [keepM_o (by omega) (by omega), keepI_o (by omega) (by omega)])), (gF_c hF (fun a ha => by rw [keepM_o (by omega) (by omega), keepI_o (by omega) (by omega)]) (fun k hk => by rw [keepM_62 (by omega), keepI_o (by decide) (by decide)])), (Or.inr ⟨(by rw [keepM_o (by decide) (by decide)]; exact keep_2.1), keep_62.1, ⟨far, hFX.2.1, hFX.2.2.1, (by rw [keepM_o (by decide) (by decide), keep_2.2.1]; exact hFX.1), (by rw [keep_62.2.1, keepI_o (by decide) (by decide)]; exact hS.2.1)⟩, ⟨x0, hFX.2.2.2.2.1, (by rw [keepM_o (by decide) (by decide), keep_2.2.2]; exact hFX.2.2.2.1), (by rw [keep_62.2.2, keepI_o (by decide) (by decide)]; exact hFX.2.2.2.2.2)⟩, ⟨s, h, bkX_c3 (keep_b b1) (fun a ha => keepM_o (by omega) (by omega)), keep_bM (bkM_c b2 (fun a ha => keepI_o (by omega) (by omega))), b3⟩, ⟨m, sd, xs, ys, px, py, kfX_c (keep_f f1) (fun a ha => keepM_o (by omega) (by omega)), keep_fM (fdM_c f2 (fun a ha => keepI_o (by omega) (by omega)))⟩⟩), (gL_c hL (fun a ha => by rw [keepM_o (by omega) (by omega), keepI_o (by omega) (by omega)]) (by rw [keepM_62 (by decide), keepI_o (by decide) (by decide)]))⟩, gE_c hE (fun a ha => by rw [keepM_o (by omega) (by omega), keepI_o (by omega) (by omega)]) (fun k hk => by rw [keepM_62 (by omega), keepI_o (by decide) (by decide)]) (fun _ _ => rfl)⟩
theorem undoI_o {I : zI} {s : Nat → Nat} {b : Nat} (h : b ≠ 2) (h2 : b < 44 ∨ 46 < b) (h3 : b < 49 ∨ 52 < b) (h4 : b ≠ 36) : undoI I s b = I b := by
  unfold undoI fcopyU bcp_undo
  rw [zw_o h4, zw_o (by omega), zw_o (by omega), zw_o (by omega), zup_n (by omega), zup_n (by omega), zup_n (by omega), zw_o (by omega), zup_n (by omega), zup_n (by omega), zw_o h, zw_o h]
theorem undoI_2 {I : zI} {s : Nat → Nat} {k : Nat} (h : k ≠ 0) (h2 : k ≠ 1) : undoI I s 2 k = I 2 k := by
  unfold undoI fcopyU bcp_undo
  simp [zwr_at, zup_at, h, h2]
theorem undoI_01 {I : zI} {s : Nat → Nat} : undoI I s 2 0 = I 2 14 ∧ undoI I s 2 1 = I 2 15 ∧ undoI I s 36 5 = -1 := by
  unfold undoI fcopyU bcp_undo
  refine ⟨?_, ?_, ?_⟩ <;> simp [zwr_at, zup_at]
theorem undoM_o {I : zI} {b : Nat} (h : b ≠ 62) (h2 : b < 91 ∨ 92 < b) (h3 : b < 97 ∨ 99 < b) : undoM I b = I b := by
  unfold undoM mcp
  rw [zw_o h, zup_n (by omega), zup_n (by omega), zup_n (by omega), zup_n (by omega), zup_n (by omega), zw_o h, zw_o h, zw_o h, zw_o h, zw_o h, zw_o h]
theorem undoM_62 {I : zI} {k : Nat} (h : k ≠ 4) (h1 : k ≠ 5) (h2 : k ≠ 6) (h3 : k ≠ 46) (h4 : k < 56 ∨ 58 < k) : undoM I 62 k = I 62 k := by
  unfold undoM mcp
  rw [zwr_at, if_neg (by omega), zup_n (by decide), zup_n (by decide), zup_n (by decide), zup_n (by decide), zup_n (by decide)]
  simp only [zwr_at]
  repeat rw [if_neg (by omega)]
theorem undoM_k {I : zI} : undoM I 62 4 = I 62 63 ∧ undoM I 62 5 = I 62 63 ∧ undoM I 62 6 = I 62 64 ∧ undoM I 62 46 = -1 := by
  unfold undoM mcp
  refine ⟨?_, ?_, ?_, ?_⟩ <;> simp [zwr_at, zup_at]
theorem undo_b {I : zI} {s h : Nat → Nat} (hb : bkX I 53 s h) : bkX (undoI I s) 44 s h := by
  unfold undoI fcopyU bcp_undo
  refine ⟨by simp [zwr_at, zup_at], hb.2.1, fun k hk => ?_⟩
  have h0 := hb.2.2 k hk
  simp [zwr_at, zup_at, zcp_at, hk]
  exact h0
theorem undo_f {I : zI} {s : Nat → Nat} {m : Nat} {sd xs ys : Nat → Nat} {px py : Nat} (hf : kfX I m sd xs ys px py) : fdX (undoI I s) m sd xs ys px py := by
  unfold undoI fcopyU bcp_undo
  obtain ⟨h1, h2, h3, h4, h5, h6, h7⟩ := hf
  refine ⟨by simp [zwr_at, zup_at]; exact h1, h2, fun k hk => ?_, by simp [zwr_at, zup_at]; exact h4, h5, by simp [zwr_at, zup_at]; exact h6, h7⟩
  have h0 := h3 k hk
  have h12 : k < 12 := by omega
  simp [zwr_at, zup_at, zcp_at, h12]
  exact ⟨⟨h0.1.1, h0.1.2⟩, ⟨h0.2.1.1, h0.2.1.2⟩, h0.2.2.1, h0.2.2.2⟩
theorem undo_bM {I : zI} {s h : Nat → Nat} (hb : bkM I 100 101 s h) : bkM (undoM I) 91 92 s h := by
  unfold undoM mcp
  refine ⟨hb.1, fun k hk => ?_⟩
  have h0 := hb.2 k hk
  simp [zwr_at, zup_at, zcp_at, hk]
  exact h0
theorem undo_fM {I : zI} {m : Nat} {sd xs ys : Nat → Nat} {px py : Nat} (hf : kfM I m sd xs ys px py) : fdM (undoM I) m sd xs ys px py := by
  unfold undoM mcp
  obtain ⟨h1, h2, h3, h4, h5, h6, h7⟩ := hf
  refine ⟨by simp [zwr_at, zup_at]; exact h1, h2, fun k hk => ?_, by simp [zwr_at, zup_at]; exact h4, h5, by simp [zwr_at, zup_at]; exact h6, h7⟩
  have h0 := h3 k hk
  have h12 : k < 12 := by omega
  simp [zwr_at, zup_at, zcp_at, h12]
  exact ⟨⟨h0.1.1, h0.1.2⟩, ⟨h0.2.1.1, h0.2.1.2⟩, h0.2.2.1, h0.2.2.2⟩
theorem kfM_c {I I' : zI} {m : Nat} {sd xs ys : Nat → Nat} {px py : Nat} (h : kfM I m sd xs ys px py) (e : ∀ a, 62 ≤ a → I' a = I a) : kfM I' m sd xs ys px py := by
  unfold kfM at *
  rw [e 62 (by omega), e 102 (by omega), e 103 (by omega), e 104 (by omega)]
  exact h
theorem bkM_c3 {I I' : zI} {s h : Nat → Nat} (hb : bkM I 100 101 s h) (e : ∀ a, 62 ≤ a → I' a = I a) : bkM I' 100 101 s h := by
  unfold bkM at *
  rw [e 100 (by omega), e 101 (by omega)]
  exact hb
set_option maxRecDepth 100000 in
set_option maxHeartbeats 4000000 in
theorem tw_undo {G : zG}  : twin G false mX11_undo mX12_undo [] := by
  intro I J hR
  obtain ⟨far, x0, t, hO, hE⟩ := id hR
  obtain ⟨hFX, hT, hH, hB, hF, hK, hL⟩ := id hO
  rcases id hK with ⟨k1, k2⟩ | ⟨k1, k2, ⟨f, k3⟩, ⟨x, k4⟩, ⟨s, h, b1, b2, b3⟩, m, sd, xs, ys, px, py, f1, f2⟩
  · exact twO hR (c_undoN k1) (w_undoN k2)
  · skip
    refine ⟨_, _, _, by decide, kvI, c_undoY b1 k1, ?_⟩
    rintro _ _ ⟨rfl, rfl⟩
    refine ⟨_, by decide, zK_imp (w_undoY (by rw [undoI_o (by decide) (by decide) (by decide) (by decide)]; exact k2)) ?_⟩
    rintro _ _ _ _ ⟨rfl, rfl, rfl, rfl⟩
    exact ⟨rfl, rfl, f, x, t, ⟨(⟨(by rw [undoM_o (by decide) (by decide) (by decide), undoI_01.1]; exact k3.2.2.1), k3.1, k3.2.1, (by rw [undoM_o (by decide) (by decide) (by decide), undoI_01.2.1]; exact k4.2.1), k4.1, (by rw [undoM_k.2.2.1, undoI_o (by decide) (by decide) (by decide) (by decide)]; exact k4.2.2)⟩), (gT_c hT (by rw [undoM_o (by decide) (by decide) (by decide), undoI_o (by decide) (by decide) (by decide) (by decide)]) (by rw [undoM_o (by decide) (by decide) (by decide), undoI_o (by decide) (by decide) (by decide) (by decide)]) (by rw [undoM_62 (by decide) (by decide) (by decide) (by decide) (by decide), undoI_o (by decide) (by decide) (by decide) (by decide)]) (by rw [undoM_o (by decide) (by decide) (by decide), undoI_o (by decide) (by decide) (by decide) (by decide)])), (gH_c hH (fun a ha => by rw [undoM_o (by omega) (by omega) (by omega), undoI_o (by omega) (by omega) (by omega) (by omega)])), (⟨s, h, bkX_c (undo_b b1) (fun a ha => undoM_o (by omega) (by omega) (by omega)), undo_bM (bkM_c3 b2 (fun a ha => undoI_o (by omega) (by omega) (by omega) (by omega))), b3⟩), (⟨m, sd, xs, ys, px, py, fdX_c (undo_f f1) (fun a ha => undoM_o (by omega) (by omega) (by omega)), undo_fM (kfM_c f2 (fun a ha => undoI_o (by omega) (by omega) (by omega) (by omega)))⟩), (gK_c hK (fun a ha => by rw [undoM_o (by omega) (by omega) (by omega), undoI_o (by omega) (by omega) (by omega) (by omega)]) (fun k hk => by rw [undoM_o (by decide) (by decide) (by decide), undoI_2 (by omega) (by omega)]) (fun k hk => by rw [undoM_62 (by omega) (by omega) (by omega) (by omega) (by omega), undoI_o (by decide) (by decide) (by decide) (by decide)])), (Or.inl ⟨(by rw [undoM_o (by decide) (by decide) (by decide)]; exact undoI_01.2.2), undoM_k.2.2.2⟩)⟩, gE_f hE (fun a ha => by rw [undoM_o (by omega) (by omega) (by omega), undoI_o (by omega) (by omega) (by omega) (by omega)]) (fun k hk => by rw [undoM_62 (by omega) (by omega) (by omega) (by omega) (by omega), undoI_o (by decide) (by decide) (by decide) (by decide)]) (fun _ _ => rfl) (by rw [undoM_k.1, undoI_o (by decide) (by decide) (by decide) (by decide)]; exact k3.2.2.2) (by rw [undoM_k.2.1, undoI_o (by decide) (by decide) (by decide) (by decide)]; exact k3.2.2.2)⟩
