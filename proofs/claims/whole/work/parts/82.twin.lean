/-! BOTH: the calls that keep, move or tell what lies; first: those that change nothing -/
theorem fits_b (y : Int8) : fits .byte (.int y.toInt32) = true := by
  show (decide ((-128 : Int32) ≤ y.toInt32) && decide (y.toInt32 ≤ 127)) = true
  have h1 := Int8.le_toInt y
  have h2 := Int8.toInt_lt y
  rw [Bool.and_eq_true, decide_eq_true_iff, decide_eq_true_iff, Int32.le_iff_toInt_le, Int32.le_iff_toInt_le, Int8.toInt_toInt32]
  exact ⟨h1, by show y.toInt ≤ 127; omega⟩
theorem fits_n (x : Int32) : fits .byte (.int (vp_nar .byte x)) = true := by
  rw [vp_nar_byte]
  exact fits_b _
set_option maxRecDepth 100000 in
set_option maxHeartbeats 4000000 in
theorem tw_turn {G : zG} {a b c : Int32} : twin G false mX11_turn mX12_turn [.int a, .int b, .int c] := by
  intro I J hR
  obtain ⟨far, x0, t, hO, hE⟩ := id hR
  obtain ⟨hFX, hT, hH, hB, hF, hK, hL⟩ := id hO
  exact twO hR (c_turn (gE_T hE)) (w_turn (gE_M hE))
set_option maxRecDepth 100000 in
set_option maxHeartbeats 4000000 in
theorem tw_points {G : zG} {a b : Int32} : twin G false mX11_points mX12_points [.int a, .int b] := by
  intro I J hR
  obtain ⟨far, x0, t, hO, hE⟩ := id hR
  obtain ⟨hFX, hT, hH, hB, hF, hK, hL⟩ := id hO
  exact twO hR (c_points (gE_T hE)) (w_points (last := 0) (gE_M hE))
set_option maxRecDepth 100000 in
set_option maxHeartbeats 4000000 in
theorem tw_book {G : zG} {a : Int32} : twin G false mX11_book mX12_book [.int a] := by
  intro I J hR
  obtain ⟨far, x0, t, hO, hE⟩ := id hR
  obtain ⟨hFX, hT, hH, hB, hF, hK, hL⟩ := id hO
  obtain ⟨s, h, h1, h2, _⟩ := hB
  exact twO hR (c_book h1) (w_book h2)
set_option maxRecDepth 100000 in
set_option maxHeartbeats 4000000 in
theorem tw_measured {G : zG} {a : Int32} : twin G false mX11_measured mX12_measured [.int a] := by
  intro I J hR
  obtain ⟨far, x0, t, hO, hE⟩ := id hR
  obtain ⟨hFX, hT, hH, hB, hF, hK, hL⟩ := id hO
  obtain ⟨m, sd, xs, ys, px, py, h1, h2⟩ := hF
  exact twO hR (c_measured h1) (w_measured h2)
set_option maxRecDepth 100000 in
set_option maxHeartbeats 4000000 in
theorem tw_toShoot {G : zG} {a : Int32} : twin G false mX11_toShoot mX12_toShoot [.int a] := by
  intro I J hR
  obtain ⟨far, x0, t, hO, hE⟩ := id hR
  obtain ⟨hFX, hT, hH, hB, hF, hK, hL⟩ := id hO
  obtain ⟨m, sd, xs, ys, px, py, h1, h2⟩ := hF
  by_cases ha : inZ a 0 1
  · obtain ⟨k, rfl, k1, k2⟩ := inZ_n ha (by decide)
    exact twO hR (c_toShootY h1 (by omega)) (w_toShootY h2 (by omega))
  · exact twO hR (c_toShootN ha) (w_toShootN ha)
set_option maxRecDepth 100000 in
set_option maxHeartbeats 4000000 in
theorem tw_count {G : zG} {a : Int32} : twin G false mX11_count mX12_count [.int a] := by
  intro I J hR
  obtain ⟨far, x0, t, hO, hE⟩ := id hR
  obtain ⟨hFX, hT, hH, hB, hF, hK, hL⟩ := id hO
  obtain ⟨m, sd, xs, ys, px, py, h1, h2⟩ := hF
  obtain ⟨c0, cc, c1, c2⟩ := gE_cC hE
  obtain ⟨_, _, _, _, _, hS, _⟩ := id hE
  have hw := w_count (G := G) (J := J) h2 c2 hS.2.1 hFX.2.2.2.2.2 hT.2.2.2.1 (x := a)
  rw [show cntS far c0 t x0 cc m sd xs ys px py (I 95) = cntS far c0 t x0 cc m sd xs ys px py (I 42) from funext (fun k => cntS_c hH.1 k)] at hw
  exact twO hR (c_count h1 c1 hFX.1 hFX.2.2.2.1 hT.1) hw
set_option maxRecDepth 100000 in
set_option maxHeartbeats 4000000 in
theorem tw_log {G : zG} {a : Int32} : twin G false mX11_log mX12_log [.int a] := by
  intro I J hR
  obtain ⟨far, x0, t, hO, hE⟩ := id hR
  obtain ⟨hFX, hT, hH, hB, hF, hK, hL⟩ := id hO
  rcases hL with ⟨l1, l2⟩ | ⟨n, la, th, sd, c0, c1, l1, l2, l3, l4⟩
  · exact twO hR (c_log0 l1) (w_logN l2)
  · exact twO hR (c_log l1) (w_log (gE_M hE) l2 l3 l4)
theorem soR_f {I I' : zI} {J J' : zJ} {far f : Nat} {a : clsT} {M : mnT} {ar : Nat → clsT} {Mr : Nat → mnT} (h : soR I J a M ar Mr far) (e : ∀ b, 63 ≤ b ∧ b ≤ 65 ∨ 73 ≤ b ∧ b ≤ 78 ∨ b = 82 ∨ b = 85 → I' b = I b) (e62 : ∀ k, 32 ≤ k ∧ k ≤ 42 → I' 62 k = I 62 k) (j : J' 83 = J 83) (h4 : I' 62 4 = nI f) : soR I' J' a M ar Mr f := by
  have e2 : ∀ k, 73 ≤ k → k ≤ 78 → I' k = I k := fun k h1 h2 => e k (by omega)
  exact ⟨⟨mT_c h.1.1 (e 63 (by omega)) (e 64 (by omega)) (e 65 (by omega)), mpI_c h.1.2.1 e2, fun k hk => ⟨mpI_c (h.1.2.2.1 k hk).1 e2, (h.1.2.2.1 k hk).2⟩, chA_c h.1.2.2.2 (e62 32 (by omega)) (e 82 (by omega))⟩, h4, soK_c h.2.2 (fun k hk => e62 k (by omega)) (e 85 (by omega)) j⟩
theorem gE_f {I I' : zI} {J J' : zJ} {far f : Nat} (h : gE far I J) (e : ∀ a, 9 ≤ a ∧ a ≤ 30 ∨ 63 ≤ a ∧ a ≤ 65 ∨ 73 ≤ a ∧ a ≤ 78 ∨ a = 82 ∨ a = 85 → I' a = I a) (e62 : ∀ k, 32 ≤ k ∧ k ≤ 42 → I' 62 k = I 62 k) (j : ∀ b, b = 31 ∨ b = 32 ∨ b = 33 ∨ b = 83 → J' b = J b) (h4 : I' 62 4 = nI f) (h5 : I' 62 5 = nI f) : gE f I' J' := by
  obtain ⟨a, M, ar, Mr, k1, k2, k3, k4, k5⟩ := h
  exact ⟨a, M, ar, Mr, eA_c k1 (fun a h1 h2 => e a (by omega)) (j 31 (by omega)) (j 32 (by omega)) (j 33 (by omega)), soR_f k2 (fun b hb => e b (by omega)) e62 (j 83 (by omega)) h4, h5, (congrFun (e 16 (by omega)) 2).trans k4, fun k hk => (congrFun (e (19 + 2 * k) (by omega)) 2).trans (k5 k hk)⟩
set_option maxRecDepth 100000 in
set_option maxHeartbeats 4000000 in
theorem tw_far {G : zG} {n : Int32} : twin G false mX11_far mX12_far [.int n] := by
  intro I J hR
  obtain ⟨far, x0, t, hO, hE⟩ := id hR
  obtain ⟨hFX, hT, hH, hB, hF, hK, hL⟩ := id hO
  by_cases hn : inZ n 6 10
  · obtain ⟨k, rfl, k1, k2⟩ := inZ_n hn (by decide)
    refine ⟨_, _, _, by decide, kvI, c_farY (by omega) (by omega), ?_⟩
    rintro _ _ ⟨rfl, rfl⟩
    refine ⟨_, by decide, zK_imp (w_farY (by omega) (by omega)) ?_⟩
    rintro _ _ _ _ ⟨rfl, rfl, rfl, rfl⟩
    exact ⟨rfl, rfl, k, x0, t, ⟨(⟨by simp [zwr_at], by omega, by omega, (by simp [zwr_at]; exact hFX.2.2.2.1), hFX.2.2.2.2.1, (by simp [zwr_at]; exact hFX.2.2.2.2.2)⟩), (gT_c hT (by simp [zwr_at]) (by rw [zw_o (by decide), zw_o (by decide), zw_o (by decide), zw_o (by decide), zw_o (by decide)]) (by simp [zwr_at]) (by rw [zw_o (by decide), zw_o (by decide), zw_o (by decide), zw_o (by decide), zw_o (by decide)])), (gH_c hH (fun a ha => by rw [zw_o (by omega), zw_o (by omega), zw_o (by omega), zw_o (by omega), zw_o (by omega)])), (gB_c hB (fun a ha => by rw [zw_o (by omega), zw_o (by omega), zw_o (by omega), zw_o (by omega), zw_o (by omega)])), (gF_c hF (fun a ha => by rw [zw_o (by omega), zw_o (by omega), zw_o (by omega), zw_o (by omega), zw_o (by omega)]) (fun k hk => by simp only [zwr_at]; repeat rw [if_neg (by omega)])), (gK_c hK (fun a ha => by rw [zw_o (by omega), zw_o (by omega), zw_o (by omega), zw_o (by omega), zw_o (by omega)]) (fun k hk => by simp only [zwr_at]; repeat rw [if_neg (by omega)]) (fun k hk => by simp only [zwr_at]; repeat rw [if_neg (by omega)])), (Or.inl ⟨by simp [zwr_at], by simp [zwr_at]⟩)⟩, gE_f hE (fun a ha => by rw [zw_o (by omega), zw_o (by omega), zw_o (by omega), zw_o (by omega), zw_o (by omega)]) (fun k hk => by simp only [zwr_at]; repeat rw [if_neg (by omega)]) (fun _ _ => rfl) (by simp [zwr_at]) (by simp [zwr_at])⟩
  · exact twO hR (c_farN hn) (w_farN hn)
set_option maxRecDepth 100000 in
set_option maxHeartbeats 4000000 in
theorem tw_seed {G : zG} {n : Int32} : twin G false mX11_seed mX12_seed [.int n] := by
  intro I J hR
  obtain ⟨far, x0, t, hO, hE⟩ := id hR
  obtain ⟨hFX, hT, hH, hB, hF, hK, hL⟩ := id hO
  by_cases hn : inZ n 0 65535
  · obtain ⟨k, rfl, k1, k2⟩ := inZ_n hn (by decide)
    refine ⟨_, _, _, by decide, kvI, c_seedY (by omega), ?_⟩
    rintro _ _ ⟨rfl, rfl⟩
    refine ⟨_, by decide, zK_imp (w_seedY (by omega)) ?_⟩
    rintro _ _ _ _ ⟨rfl, rfl, rfl, rfl⟩
    exact ⟨rfl, rfl, far, k, t, ⟨(⟨(by simp [zwr_at]; exact hFX.1), hFX.2.1, hFX.2.2.1, by simp [zwr_at], by omega, by simp [zwr_at]⟩), (gT_c hT (by simp [zwr_at]) (by rw [zw_o (by decide), zw_o (by decide)]) (by simp [zwr_at]) (by rw [zw_o (by decide), zw_o (by decide)])), (gH_c hH (fun a ha => by rw [zw_o (by omega), zw_o (by omega)])), (gB_c hB (fun a ha => by rw [zw_o (by omega), zw_o (by omega)])), (gF_c hF (fun a ha => by rw [zw_o (by omega), zw_o (by omega)]) (fun k hk => by simp only [zwr_at]; repeat rw [if_neg (by omega)])), (gK_c hK (fun a ha => by rw [zw_o (by omega), zw_o (by omega)]) (fun k hk => by simp only [zwr_at]; repeat rw [if_neg (by omega)]) (fun k hk => by simp only [zwr_at]; repeat rw [if_neg (by omega)])), (gL_c hL (fun a ha => by rw [zw_o (by omega), zw_o (by omega)]) (by simp [zwr_at]))⟩, gE_c hE (fun a ha => by rw [zw_o (by omega), zw_o (by omega)]) (fun k hk => by simp only [zwr_at]; repeat rw [if_neg (by omega)]) (fun _ _ => rfl)⟩
  · exact twO hR (c_seedN hn) (w_seedN hn)
set_option maxRecDepth 100000 in
set_option maxHeartbeats 4000000 in
theorem tw_pig {G : zG} {a b : Int32} : twin G false mX11_pig mX12_pig [.int a, .int b] := by
  intro I J hR
  obtain ⟨far, x0, t, hO, hE⟩ := id hR
  obtain ⟨hFX, hT, hH, hB, hF, hK, hL⟩ := id hO
  by_cases hn : inZ a 0 99 ∧ inZ b 0 99
  · obtain ⟨a, rfl, a1, a2⟩ := inZ_n hn.1 (by decide)
    obtain ⟨b, rfl, b1, b2⟩ := inZ_n hn.2 (by decide)
    obtain ⟨m, sd, xs, ys, px, py, f1, f2⟩ := hF
    refine ⟨_, _, _, by decide, kvI, c_pigY (by omega) (by omega), ?_⟩
    rintro _ _ ⟨rfl, rfl⟩
    refine ⟨_, by decide, zK_imp (w_pigY (by omega) (by omega)) ?_⟩
    rintro _ _ _ _ ⟨rfl, rfl, rfl, rfl⟩
    exact ⟨rfl, rfl, far, x0, t, ⟨(gFX_c hFX (by simp [zwr_at]) (by simp [zwr_at]) (by simp [zwr_at])), (gT_c hT (by simp [zwr_at]) (by rw [zw_o (by decide), zw_o (by decide), zw_o (by decide), zw_o (by decide)]) (by simp [zwr_at]) (by rw [zw_o (by decide), zw_o (by decide), zw_o (by decide), zw_o (by decide)])), (gH_c hH (fun a ha => by rw [zw_o (by omega), zw_o (by omega), zw_o (by omega), zw_o (by omega)])), (gB_c hB (fun a ha => by rw [zw_o (by omega), zw_o (by omega), zw_o (by omega), zw_o (by omega)])), (⟨m, sd, xs, ys, a, b, ⟨(by simp [zwr_at]; exact f1.1), f1.2.1, (fun k hk => by simp [zwr_at]; have := f1.2.2.1 k hk; exact ⟨⟨this.1.1, this.1.2⟩, ⟨this.2.1.1, this.2.1.2⟩, this.2.2.1, this.2.2.2⟩), (by simp [zwr_at]), by omega, (by simp [zwr_at]), by omega⟩, ⟨(by simp [zwr_at]; exact f2.1), f2.2.1, (fun k hk => by simp [zwr_at]; have := f2.2.2.1 k hk; exact ⟨⟨this.1.1, this.1.2⟩, ⟨this.2.1.1, this.2.1.2⟩, this.2.2.1, this.2.2.2⟩), (by simp [zwr_at]), by omega, (by simp [zwr_at]), by omega⟩⟩), (gK_c hK (fun a ha => by rw [zw_o (by omega), zw_o (by omega), zw_o (by omega), zw_o (by omega)]) (fun k hk => by simp only [zwr_at]; repeat rw [if_neg (by omega)]) (fun k hk => by simp only [zwr_at]; repeat rw [if_neg (by omega)])), (gL_c hL (fun a ha => by rw [zw_o (by omega), zw_o (by omega), zw_o (by omega), zw_o (by omega)]) (by simp [zwr_at]))⟩, gE_c hE (fun a ha => by rw [zw_o (by omega), zw_o (by omega), zw_o (by omega), zw_o (by omega)]) (fun k hk => by simp only [zwr_at]; repeat rw [if_neg (by omega)]) (fun _ _ => rfl)⟩
  · exact twO hR (c_pigN hn) (w_pigN hn)
def fN (f : Nat → Nat) (m v : Nat) : Nat → Nat := fun k => if k = m then v else f k
theorem fN_s {f : Nat → Nat} {m v : Nat} : fN f m v m = v := if_pos rfl
theorem fN_n {f : Nat → Nat} {m v k : Nat} (h : k ≠ m) : fN f m v k = f k := if_neg h
theorem fadd_F {I : zI} {m s x y : Nat} {sd xs ys : Nat → Nat} {px py : Nat} (h : fdX I m sd xs ys px py) (hs : s ≤ 1) (hx : x ≤ 99) (hy : y ≤ 99) (h12 : m < 12) : fdX (fadd I m s x y) (m + 1) (fN sd m s) (fN xs m x) (fN ys m y) px py := by
  unfold fadd
  refine ⟨by simp [zwr_at], by omega, fun k hk => ?_, (by simp [zwr_at]; exact h.2.2.2.1), h.2.2.2.2.1, (by simp [zwr_at]; exact h.2.2.2.2.2.1), h.2.2.2.2.2.2⟩
  by_cases e : k = m
  · subst e; simp [zwr_at, fN_s]; omega
  · have := h.2.2.1 k (by omega)
    rw [fN_n e, fN_n e, fN_n e]
    simp [zwr_at, e]
    exact ⟨⟨this.1.1, this.1.2⟩, ⟨this.2.1.1, this.2.1.2⟩, this.2.2.1, this.2.2.2⟩
theorem fadd_M {I : zI} {m s x y : Nat} {sd xs ys : Nat → Nat} {px py : Nat} (h : fdM I m sd xs ys px py) (hs : s ≤ 1) (hx : x ≤ 99) (hy : y ≤ 99) (h12 : m < 12) : fdM (faddM I m s x y) (m + 1) (fN sd m s) (fN xs m x) (fN ys m y) px py := by
  unfold faddM
  refine ⟨by simp [zwr_at], by omega, fun k hk => ?_, (by simp [zwr_at]; exact h.2.2.2.1), h.2.2.2.2.1, (by simp [zwr_at]; exact h.2.2.2.2.2.1), h.2.2.2.2.2.2⟩
  by_cases e : k = m
  · subst e; simp [zwr_at, fN_s]; omega
  · have := h.2.2.1 k (by omega)
    rw [fN_n e, fN_n e, fN_n e]
    simp [zwr_at, e]
    exact ⟨⟨this.1.1, this.1.2⟩, ⟨this.2.1.1, this.2.1.2⟩, this.2.2.1, this.2.2.2⟩
theorem fdM_c {I I' : zI} {m : Nat} {sd xs ys : Nat → Nat} {px py : Nat} (h : fdM I m sd xs ys px py) (e : ∀ a, 62 ≤ a → I' a = I a) : fdM I' m sd xs ys px py := by
  unfold fdM at *
  rw [e 62 (by omega), e 97 (by omega), e 98 (by omega), e 99 (by omega)]
  exact h
theorem fdX_c {I I' : zI} {m : Nat} {sd xs ys : Nat → Nat} {px py : Nat} (h : fdX I m sd xs ys px py) (e : ∀ a, a < 62 → I' a = I a) : fdX I' m sd xs ys px py := by
  unfold fdX at *
  rw [e 49 (by omega), e 50 (by omega), e 51 (by omega), e 52 (by omega)]
  exact h
set_option maxRecDepth 100000 in
set_option maxHeartbeats 4000000 in
theorem tw_ball {G : zG} {a b c : Int32} : twin G false mX11_ball mX12_ball [.int a, .int b, .int c] := by
  intro I J hR
  obtain ⟨far, x0, t, hO, hE⟩ := id hR
  obtain ⟨hFX, hT, hH, hB, hF, hK, hL⟩ := id hO
  obtain ⟨m, sd, xs, ys, px, py, f1, f2⟩ := id hF
  by_cases hn : inZ a 0 1 ∧ (inZ b 0 99 ∧ inZ c 0 99) ∧ m < 12
  · obtain ⟨a, rfl, a1, a2⟩ := inZ_n hn.1 (by decide)
    obtain ⟨b, rfl, b1, b2⟩ := inZ_n hn.2.1.1 (by decide)
    obtain ⟨c, rfl, c1, c2⟩ := inZ_n hn.2.1.2 (by decide)
    have h12 := hn.2.2
    refine ⟨_, _, _, by decide, kvI, c_ballY f1 (by omega) (by omega) (by omega) h12, ?_⟩
    rintro _ _ ⟨rfl, rfl⟩
    refine ⟨_, by decide, zK_imp (w_ballY (fdM_c f2 (fun a ha => by unfold fadd; rw [zw_o (by omega), zw_o (by omega), zw_o (by omega), zw_o (by omega)])) (by omega) (by omega) (by omega) h12) ?_⟩
    rintro _ _ _ _ ⟨rfl, rfl, rfl, rfl⟩
    exact ⟨rfl, rfl, far, x0, t, ⟨(gFX_c hFX (by unfold faddM fadd; simp [zwr_at]) (by unfold faddM fadd; simp [zwr_at]) (by unfold faddM fadd; simp [zwr_at])), (gT_c hT (by unfold faddM fadd; simp [zwr_at]) (by unfold faddM fadd; rw [zw_o (by decide), zw_o (by decide), zw_o (by decide), zw_o (by decide), zw_o (by decide), zw_o (by decide), zw_o (by decide), zw_o (by decide)]) (by unfold faddM fadd; simp [zwr_at]) (by unfold faddM fadd; rw [zw_o (by decide), zw_o (by decide), zw_o (by decide), zw_o (by decide), zw_o (by decide), zw_o (by decide), zw_o (by decide), zw_o (by decide)])), (gH_c hH (fun a ha => by unfold faddM fadd; rw [zw_o (by omega), zw_o (by omega), zw_o (by omega), zw_o (by omega), zw_o (by omega), zw_o (by omega), zw_o (by omega), zw_o (by omega)])), (gB_c hB (fun a ha => by unfold faddM fadd; rw [zw_o (by omega), zw_o (by omega), zw_o (by omega), zw_o (by omega), zw_o (by omega), zw_o (by omega), zw_o (by omega), zw_o (by omega)])), (⟨_, _, _, _, _, _, fdX_c (fadd_F f1 (by omega) (by omega) (by omega) h12) (fun a ha => by unfold faddM; rw [zw_o (by omega), zw_o (by omega), zw_o (by omega), zw_o (by omega)]), fadd_M (fdM_c f2 (fun a ha => by unfold fadd; rw [zw_o (by omega), zw_o (by omega), zw_o (by omega), zw_o (by omega)])) (by omega) (by omega) (by omega) h12⟩), (gK_c hK (fun a ha => by unfold faddM fadd; rw [zw_o (by omega), zw_o (by omega), zw_o (by omega), zw_o (by omega), zw_o (by omega), zw_o (by omega), zw_o (by omega), zw_o (by omega)]) (fun k hk => by unfold faddM fadd; simp only [zwr_at]; repeat rw [if_neg (by omega)]) (fun k hk => by unfold faddM fadd; simp only [zwr_at]; repeat rw [if_neg (by omega)])), (gL_c hL (fun a ha => by unfold faddM fadd; rw [zw_o (by omega), zw_o (by omega), zw_o (by omega), zw_o (by omega), zw_o (by omega), zw_o (by omega), zw_o (by omega), zw_o (by omega)]) (by unfold faddM fadd; simp [zwr_at]))⟩, gE_c hE (fun a ha => by unfold faddM fadd; rw [zw_o (by omega), zw_o (by omega), zw_o (by omega), zw_o (by omega), zw_o (by omega), zw_o (by omega), zw_o (by omega), zw_o (by omega)]) (fun k hk => by unfold faddM fadd; simp only [zwr_at]; repeat rw [if_neg (by omega)]) (fun _ _ => rfl)⟩
  · exact twO hR (c_ballN f1 hn) (w_ballN f2 hn)
def fR (f : Nat → Nat) (i m : Nat) : Nat → Nat := shl f i (m - 1)
theorem fR_at {f : Nat → Int32} {g : Nat → Nat} {i m : Nat} (hi : i < m) (h : ∀ k, k < m → f k = nI (g k)) {k : Nat} (hk : k < m - 1) : shl f i (m - 1) k = nI (fR g i m k) := by
  unfold fR shl
  by_cases c : i ≤ k ∧ k < m - 1
  · rw [if_pos c, if_pos c]; exact h (k + 1) (by omega)
  · rw [if_neg c, if_neg c]; exact h k (by omega)
theorem fR_le {g : Nat → Nat} {i m b : Nat} (h : ∀ k, k < m → g k ≤ b) {k : Nat} (hk : k < m - 1) : fR g i m k ≤ b := by
  unfold fR shl
  split
  · exact h _ (by omega)
  · exact h _ (by omega)
theorem frem_F {I : zI} {m i : Nat} {sd xs ys : Nat → Nat} {px py : Nat} (h : fdX I m sd xs ys px py) (hi : i < m) : fdX (zup (frem I i (m - 1)) 49 (upd (I 49) 3 (nI (m - 1)))) (m - 1) (fR sd i m) (fR xs i m) (fR ys i m) px py := by
  obtain ⟨h1, h2, h3, h4, h5, h6, h7⟩ := h
  unfold frem
  refine ⟨by simp [zup_at, upd], by omega, fun k hk => ⟨⟨?_, fR_le (fun k hk => (h3 k hk).1.2) hk⟩, ⟨?_, fR_le (fun k hk => (h3 k hk).2.1.2) hk⟩, ?_, fR_le (fun k hk => (h3 k hk).2.2.2) hk⟩, by simp [zup_at, upd]; exact h4, h5, by simp [zup_at, upd]; exact h6, h7⟩
  · simp only [zup_at]; simp; exact fR_at hi (fun k hk => (h3 k hk).1.1) hk
  · simp only [zup_at]; simp; exact fR_at hi (fun k hk => (h3 k hk).2.1.1) hk
  · simp only [zup_at]; simp; exact fR_at hi (fun k hk => (h3 k hk).2.2.1) hk
theorem frem_M {I : zI} {m i : Nat} {sd xs ys : Nat → Nat} {px py : Nat} (h : fdM I m sd xs ys px py) (hi : i < m) : fdM (zwr (fremM I i (m - 1)) 62 56 (nI (m - 1))) (m - 1) (fR sd i m) (fR xs i m) (fR ys i m) px py := by
  obtain ⟨h1, h2, h3, h4, h5, h6, h7⟩ := h
  unfold fremM
  refine ⟨by simp [zwr_at], by omega, fun k hk => ⟨⟨?_, fR_le (fun k hk => (h3 k hk).1.2) hk⟩, ⟨?_, fR_le (fun k hk => (h3 k hk).2.1.2) hk⟩, ?_, fR_le (fun k hk => (h3 k hk).2.2.2) hk⟩, by simp [zwr_at, zup_at]; exact h4, h5, by simp [zwr_at, zup_at]; exact h6, h7⟩
  · simp only [zwr_at, zup_at]; simp; exact fR_at hi (fun k hk => (h3 k hk).1.1) hk
  · simp only [zwr_at, zup_at]; simp; exact fR_at hi (fun k hk => (h3 k hk).2.1.1) hk
  · simp only [zwr_at, zup_at]; simp; exact fR_at hi (fun k hk => (h3 k hk).2.2.1) hk
theorem frem_o {I : zI} {i k b : Nat} (h : b < 50 ∨ 52 < b) : frem I i k b = I b := by unfold frem; rw [zup_n (by omega), zup_n (by omega), zup_n (by omega)]
theorem fremM_o {I : zI} {i k b : Nat} (h : b < 97 ∨ 99 < b) : fremM I i k b = I b := by unfold fremM; rw [zup_n (by omega), zup_n (by omega), zup_n (by omega)]
set_option maxRecDepth 100000 in
set_option maxHeartbeats 4000000 in
theorem tw_gone {G : zG} {a : Int32} : twin G false mX11_gone mX12_gone [.int a] := by
  intro I J hR
  obtain ⟨far, x0, t, hO, hE⟩ := id hR
  obtain ⟨hFX, hT, hH, hB, hF, hK, hL⟩ := id hO
  obtain ⟨m, sd, xs, ys, px, py, f1, f2⟩ := id hF
  by_cases hn : 0 ≤ a.toInt ∧ a.toInt < m
  · obtain ⟨i, rfl, i1, i2⟩ := inZ_n (x := a) (lo := 0) (hi := (m : Int) - 1) ⟨hn.1, by omega⟩ (by decide)
    have hi : i < m := by omega
    refine ⟨_, _, _, by decide, kvI, c_goneY f1 hi, ?_⟩
    rintro _ _ ⟨rfl, rfl⟩
    refine ⟨_, by decide, zK_imp (w_goneY (fdM_c f2 (fun a ha => by rw [zup_n (by omega), frem_o (by omega)])) hi) ?_⟩
    rintro _ _ _ _ ⟨rfl, rfl, rfl, rfl⟩
    exact ⟨rfl, rfl, far, x0, t, ⟨(gFX_c hFX (by rw [zwr_at, if_neg (by decide), fremM_o (by decide), zup_n (by decide), frem_o (by decide)]) (by rw [zwr_at, if_neg (by decide), fremM_o (by decide), zup_n (by decide), frem_o (by decide)]) (by rw [zwr_at, if_neg (by decide), fremM_o (by decide), zup_n (by decide), frem_o (by decide)])), (gT_c hT (by rw [zwr_at, if_neg (by decide), fremM_o (by decide), zup_n (by decide), frem_o (by decide)]) (by rw [zw_o (by decide), fremM_o (by decide), zup_n (by decide), frem_o (by decide)]) (by rw [zwr_at, if_neg (by decide), fremM_o (by decide), zup_n (by decide), frem_o (by decide)]) (by rw [zw_o (by decide), fremM_o (by decide), zup_n (by decide), frem_o (by decide)])), (gH_c hH (fun a ha => by rw [zw_o (by omega), fremM_o (by omega), zup_n (by omega), frem_o (by omega)])), (gB_c hB (fun a ha => by rw [zw_o (by omega), fremM_o (by omega), zup_n (by omega), frem_o (by omega)])), (⟨_, _, _, _, _, _, fdX_c (frem_F f1 hi) (fun a ha => by rw [zw_o (by omega), fremM_o (by omega)]), frem_M (fdM_c f2 (fun a ha => by rw [zup_n (by omega), frem_o (by omega)])) hi⟩), (gK_c hK (fun a ha => by rw [zw_o (by omega), fremM_o (by omega), zup_n (by omega), frem_o (by omega)]) (fun k hk => by rw [zwr_at, if_neg (by omega), fremM_o (by omega), zup_n (by omega), frem_o (by omega)]) (fun k hk => by rw [zwr_at, if_neg (by omega), fremM_o (by omega), zup_n (by omega), frem_o (by omega)])), (gL_c hL (fun a ha => by rw [zw_o (by omega), fremM_o (by omega), zup_n (by omega), frem_o (by omega)]) (by rw [zwr_at, if_neg (by decide), fremM_o (by decide), zup_n (by decide), frem_o (by decide)]))⟩, gE_c hE (fun a ha => by rw [zw_o (by omega), fremM_o (by omega), zup_n (by omega), frem_o (by omega)]) (fun k hk => by rw [zwr_at, if_neg (by omega), fremM_o (by omega), zup_n (by omega), frem_o (by omega)]) (fun _ _ => rfl)⟩
  · exact twO hR (c_goneN f1 hn) (w_goneN f2 hn)
