/-! THE CLASS: programs; what reads them -/
/-- a code as a step: kind 0 number, 1 letter, 2 sign, 3 skip if false, 4 skip if true -/
def encS (off : Nat) (c : Nat × Nat) : Int32 := nI (1048576 * c.1 + (if 3 ≤ c.1 then c.2 + off else c.2))
def rdI (I : zI) (n p s : Nat) : Prop := I 5 2 = nI n ∧ n ≤ 240 ∧ I 5 3 = nI p ∧ p ≤ n ∧ I 6 1 = nI (min s 240)
def rdF (I I' : zI) : Prop := (∀ a, a ≠ 5 → a ≠ 6 → a ≠ 7 → I' a = I a) ∧ I' 5 2 = I 5 2 ∧ I' 6 2 = I 6 2
theorem rdF_r {I : zI} : rdF I I := ⟨fun _ _ _ _ => rfl, rfl, rfl⟩
theorem rdF_t {A B C : zI} (h : rdF A B) (h2 : rdF B C) : rdF A C := ⟨fun a b c d => (h2.1 a b c d).trans (h.1 a b c d), h2.2.1.trans h.2.1, h2.2.2.trans h.2.2⟩
/-- read well: up to the place p, with the codes g behind the s ones (those beyond 240 fall) -/
def rdS (off : Nat) (I I' : zI) (n s p : Nat) (g : List (Nat × Nat)) : Prop := rdF I I' ∧ I' 5 4 = I 5 4 ∧ rdI I' n p (s + g.length) ∧ (∀ j, j < s → I' 7 j = I 7 j) ∧ (s + g.length ≤ 240 → ∀ k c, g[k]? = some c → I' 7 (s + k) = encS off c)
theorem rdS_r {off n s p : Nat} {I : zI} (h : rdI I n p s) : rdS off I I n s p [] := ⟨rdF_r, rfl, h, fun _ _ => rfl, fun _ k c hc => by simp at hc⟩
theorem rdS_t {off n s p p2 : Nat} {A B C : zI} {g g2 : List (Nat × Nat)} (h : rdS off A B n s p g) (h2 : rdS off B C n (s + g.length) p2 g2) : rdS off A C n s p2 (g ++ g2) := by
  obtain ⟨h1, hf, h3, h4, h5⟩ := h
  obtain ⟨k1, kf, k3, k4, k5⟩ := h2
  have el : (g ++ g2).length = g.length + g2.length := List.length_append
  refine ⟨rdF_t h1 k1, kf.trans hf, by rw [el, ← Nat.add_assoc]; exact k3, fun j hj => (k4 j (by omega)).trans (h4 j hj), fun hl k c hc => ?_⟩
  rw [el] at hl
  by_cases hk : k < g.length
  · rw [List.getElem?_append_left hk] at hc
    exact (k4 (s + k) (by omega)).trans (h5 (by omega) k c hc)
  · rw [List.getElem?_append_right (by omega)] at hc
    have := k5 (by omega) (k - g.length) c hc
    rw [show s + g.length + (k - g.length) = s + k by omega] at this
    exact this
/-- the place goes on -/
theorem rdS_at {off n s p : Nat} {I : zI} (h : rdI I n p s) (hp : p < n) : rdS off I (zwr I 5 3 (nI (p + 1))) n s (p + 1) [] := by
  obtain ⟨h1, h2, h3, h4, h5⟩ := h
  exact ⟨⟨fun a b _ _ => zup_n b, rfl, rfl⟩, rfl, ⟨h1, h2, zwr_at.trans (if_pos ⟨rfl, rfl⟩), hp, h5⟩, fun _ _ => rfl, fun _ k c hc => by simp at hc⟩
def padd (I : zI) (s : Nat) (x : Int32) : zI := if s < 240 then zwr (zwr I 7 s x) 6 1 (nI (s + 1)) else I
theorem rdS_add {off n s p : Nat} {I : zI} {c : Nat × Nat} (h : rdI I n p s) : rdS off I (padd I s (encS off c)) n s p [c] := by
  obtain ⟨h1, h2, h3, h4, h5⟩ := h
  unfold padd
  by_cases hs : s < 240
  · rw [if_pos hs]
    refine ⟨⟨fun a _ b d => (zup_n b).trans (zup_n d), rfl, rfl⟩, rfl, ⟨h1, h2, h3, h4, ?_⟩, fun j hj => ?_, fun _ k d hd => ?_⟩
    · rw [zwr_at, if_pos ⟨rfl, rfl⟩, show min (s + [c].length) 240 = s + 1 from by show min (s + 1) 240 = s + 1; omega]
    · rw [zwr_at, if_neg (fun h => absurd h.1 (by decide)), zwr_at, if_neg (fun h => absurd h.2 (by omega))]
    · cases k with
      | zero => simp at hd; subst hd; rw [zwr_at, if_neg (fun h => absurd h.1 (by decide)), zwr_at, if_pos ⟨rfl, rfl⟩]
      | succ k => simp at hd
  · rw [if_neg hs]
    refine ⟨rdF_r, rfl, ⟨h1, h2, h3, h4, ?_⟩, fun _ _ => rfl, fun hl => ?_⟩
    · rw [h5, show min s 240 = min (s + [c].length) 240 from by show min s 240 = min (s + 1) 240; omega]
    · exfalso; have : s + 1 ≤ 240 := hl; omega
/-- what a reading method comes to -/
def rdR (off : Nat) (I : zI) (J : zJ) (n s : Nat) (r : Nat × Nat × List (Nat × Nat)) : zQ := zP (fun v I' J' => J = J' ∧ (r.1 = 0 → v = some (.int (nI 1)) ∧ rdS off I I' n s r.2.1 r.2.2) ∧ (r.1 ≠ 0 → v = some (.int (nI 0)) ∧ rdF I I' ∧ I' 5 4 = fltI r.1 r.2.1))
def ltP (c : Nat) : Nat := if c = 105 then 0 else if c = 117 then 1 else if c = 118 then 2 else if c = 109 then 3 else if c = 110 then 4 else if c = 102 then 5 else if c = 108 then 6 else if c = 115 then 7 else if c = 111 then 8 else 9
def sgL (a : Nat) : List (Nat × Nat) := if a = 0 then [] else [(2, a)]
def sgI (a : Nat) : Int32 := if a = 0 then -1 else nI a
def numR (tx : Nat → Nat) (n : Nat) : Nat → Nat → Nat → Nat × Nat
  | 0, p, v => (v, p)
  | k + 1, p, v => if 48 ≤ sgn tx n p ∧ sgn tx n p ≤ 57 then numR tx n k (p + 1) (10 * v + sgn tx n p - 48) else (v, p)
def pNum (tx : Nat → Nat) (n p : Nat) : Nat × Nat × List (Nat × Nat) :=
  if 48 ≤ sgn tx n (numR tx n 5 p 0).2 ∧ sgn tx n (numR tx n 5 p 0).2 ≤ 57 then (2, (numR tx n 5 p 0).2, []) else (0, (numR tx n 5 p 0).2, [(0, (numR tx n 5 p 0).1)])
def pFac (tx : Nat → Nat) (n : Nat) (br : Nat → Nat × Nat × List (Nat × Nat)) (p : Nat) : Nat × Nat × List (Nat × Nat) :=
  if sgn tx n p = 91 then br p else if 48 ≤ sgn tx n p ∧ sgn tx n p ≤ 57 then pNum tx n p else if ltP (sgn tx n p) < 9 then (0, p + 1, [(1, ltP (sgn tx n p))]) else (1, p, [])
def pSumL (tx : Nat → Nat) (n : Nat) (br : Nat → Nat × Nat × List (Nat × Nat)) : Nat → Nat → Nat → Nat → List (Nat × Nat) → Nat × Nat × List (Nat × Nat)
  | 0, p, _, _, _ => (1, p, [])
  | k + 1, p, a, m, acc =>
    if (pFac tx n br p).1 ≠ 0 then ((pFac tx n br p).1, (pFac tx n br p).2.1, []) else
    if sgn tx n (pFac tx n br p).2.1 = 42 ∨ sgn tx n (pFac tx n br p).2.1 = 47 ∨ sgn tx n (pFac tx n br p).2.1 = 37 then
      pSumL tx n br k ((pFac tx n br p).2.1 + 1) a (sgn tx n (pFac tx n br p).2.1) (acc ++ (pFac tx n br p).2.2 ++ sgL m)
    else if sgn tx n (pFac tx n br p).2.1 = 43 ∨ sgn tx n (pFac tx n br p).2.1 = 45 then
      pSumL tx n br k ((pFac tx n br p).2.1 + 1) (sgn tx n (pFac tx n br p).2.1) 0 (acc ++ (pFac tx n br p).2.2 ++ sgL m ++ sgL a)
    else (0, (pFac tx n br p).2.1, acc ++ (pFac tx n br p).2.2 ++ sgL m ++ sgL a)
def pBr (tx : Nat → Nat) (n : Nat) (sum : Nat → Nat × Nat × List (Nat × Nat)) (p : Nat) : Nat × Nat × List (Nat × Nat) :=
  if (sum (p + 1)).1 ≠ 0 then ((sum (p + 1)).1, (sum (p + 1)).2.1, []) else if sgn tx n (sum (p + 1)).2.1 = 93 then (0, (sum (p + 1)).2.1 + 1, (sum (p + 1)).2.2) else (1, (sum (p + 1)).2.1, [])
/-- an E, with so many levels left -/
def pSum (tx : Nat → Nat) (n : Nat) : Nat → Nat → Nat × Nat × List (Nat × Nat)
  | 0, p => pSumL tx n (fun p => (5, p, [])) 240 p 0 0 []
  | e + 1, p => pSumL tx n (fun p => pBr tx n (pSum tx n e) p) 240 p 0 0 []
set_option maxRecDepth 100000 in
set_option maxHeartbeats 4000000 in
theorem c_clear8 {G : zG} {I : zI} {J : zJ}  : zK G mX8_clear 0 [.ref 6] zsh I J (zA2 (fun I' J' => I' = zwr (zwr I 6 1 (nI 0)) 6 2 (nI 0) ∧ J = J')) := by
  refine zK_of kX8_clear.2.2.2.2.1 (Nat.le_of_ble_eq_true rfl) ?_
  show V G mX8_clear 0 _ 0 [(0, .ref 6)] [] (0, 0) zsh I J
  refine V_aload_n dX8_clear_0 rfl ?_
  refine V_iconst (v := nI 0) dX8_clear_1 rfl ?_
  refine V_putW dX8_clear_2 fX8_15 ⟨Nat.le_of_ble_eq_true rfl, Nat.le_of_ble_eq_true rfl⟩ rfl rfl rfl ⟨rfl, rfl⟩ ?_
  refine V_aload_n dX8_clear_5 rfl ?_
  refine V_iconst (v := nI 0) dX8_clear_6 rfl ?_
  refine V_putW dX8_clear_7 fX8_19 ⟨Nat.le_of_ble_eq_true rfl, Nat.le_of_ble_eq_true rfl⟩ rfl rfl rfl ⟨rfl, rfl⟩ ?_
  exact V_ret ⟨rfl, dX8_clear_10⟩ ⟨Nat.le_of_ble_eq_true rfl, Nat.le_of_ble_eq_true rfl⟩ ⟨rfl, rfl, rfl, rfl⟩

set_option maxRecDepth 100000 in
set_option maxHeartbeats 4000000 in
theorem c_add8 {G : zG} {I : zI} {J : zJ} {s : Nat} {x : Int32} (hs : I 6 1 = nI (min s 240)) : zK G mX8_add 0 [.ref 6, .int x] zsh I J (zA2 (fun I' J' => I' = padd I s x ∧ J = J')) := by
  refine zK_of kX8_add.2.2.2.2.1 (Nat.le_of_ble_eq_true rfl) ?_
  show V G mX8_add 0 _ 0 [(0, .ref 6), (1, .int x)] [] (0, 0) zsh I J
  refine V_aload_n dX8_add_0 rfl ?_
  refine V_getI dX8_add_1 fX8_15 ⟨Nat.le_of_ble_eq_true rfl, Nat.le_of_ble_eq_true rfl⟩ rfl rfl ?_
  refine V_eqI (y := nI (min s 240)) hs ?_
  refine V_if_ltN (tgt := 39) dX8_add_4 rfl (by omega) ?_
  refine V_aload_n dX8_add_7 rfl ?_
  refine V_getI dX8_add_8 fX8_15 ⟨Nat.le_of_ble_eq_true rfl, Nat.le_of_ble_eq_true rfl⟩ rfl rfl ?_
  refine V_eqI (y := nI (min s 240)) hs ?_
  refine V_aload_n dX8_add_11 rfl ?_
  refine V_getR (b := 7) dX8_add_12 fX8_11 ⟨Nat.le_of_ble_eq_true rfl, Nat.le_of_ble_eq_true rfl⟩ rfl rfl rfl ?_
  refine V_alen (v := nI 240) dX8_add_15 ⟨Nat.le_of_ble_eq_true rfl, Nat.le_of_ble_eq_true rfl⟩ rfl (by decide) rfl ?_
  refine V_icmp_geN (tgt := 39) dX8_add_16 rfl (by omega) (by omega) (fun h16 => ?_) (fun h16 => ?_)
  · skip
    exact V_ret ⟨rfl, dX8_add_39⟩ ⟨Nat.le_of_ble_eq_true rfl, Nat.le_of_ble_eq_true rfl⟩ ⟨rfl, rfl, by unfold padd; rw [if_neg (by omega)], rfl⟩
  · skip
    refine V_aload_n dX8_add_19 rfl ?_
    refine V_getR (b := 7) dX8_add_20 fX8_11 ⟨Nat.le_of_ble_eq_true rfl, Nat.le_of_ble_eq_true rfl⟩ rfl rfl rfl ?_
    refine V_aload_n dX8_add_23 rfl ?_
    refine V_getI dX8_add_24 fX8_15 ⟨Nat.le_of_ble_eq_true rfl, Nat.le_of_ble_eq_true rfl⟩ rfl rfl ?_
    refine V_eqI (y := nI (min s 240)) hs ?_
    refine V_iload_n dX8_add_27 rfl ?_
    refine V_iastN (k := min s 240) dX8_add_28 ⟨Nat.le_of_ble_eq_true rfl, Nat.le_of_ble_eq_true rfl⟩ rfl (by decide) (by omega) ?_
    refine V_aload_n dX8_add_29 rfl ?_
    refine V_dup dX8_add_30 rfl ?_
    refine V_getI dX8_add_31 fX8_15 ⟨Nat.le_of_ble_eq_true rfl, Nat.le_of_ble_eq_true rfl⟩ rfl rfl ?_
    refine V_eqI (y := I 6 1) rfl ?_
    refine V_eqI (y := nI (min s 240)) hs ?_
    refine V_iconst (v := nI 1) dX8_add_34 rfl ?_
    refine V_iaddN dX8_add_35 ?_
    refine V_putW dX8_add_36 fX8_15 ⟨Nat.le_of_ble_eq_true rfl, Nat.le_of_ble_eq_true rfl⟩ rfl rfl rfl ⟨rfl, rfl⟩ ?_
    exact V_ret ⟨rfl, dX8_add_39⟩ ⟨Nat.le_of_ble_eq_true rfl, Nat.le_of_ble_eq_true rfl⟩ ⟨rfl, rfl, by unfold padd; rw [if_pos (by omega)]; rw [show min s 240 = s by omega], rfl⟩

theorem enc_or {k a : Nat} (ha : a < 1048576) : nI (k * 2 ^ 20) ||| nI a = nI (1048576 * k + a) := by
  rw [Int32.or_comm, or_low 20 (by omega)]
  congr 1
  omega
set_option maxRecDepth 100000 in
set_option maxHeartbeats 4000000 in
theorem c_step8 {G : zG} {I : zI} {J : zJ} {k a : Nat} (hk : k ≤ 4) (ha : a < 1048576) : zK G mX8_step 0 [.int (nI k), .int (nI a)] zsh I J (zA0 (.int (nI (1048576 * k + a))) I J) := by
  refine zK_of kX8_step.2.2.2.2.1 (Nat.le_of_ble_eq_true rfl) ?_
  show V G mX8_step 0 _ 0 [(0, .int (nI k)), (1, .int (nI a))] [] (0, 0) zsh I J
  refine V_iload_n dX8_step_0 rfl ?_
  refine V_bipush (v := nI 20) dX8_step_1 rfl ?_
  refine V_ishl dX8_step_3 (V_eqI (y := nI (k * 2 ^ 20)) (pk_shlN (nI 20 &&& 31) 20 (by decide) (by omega)) ?_)
  refine V_iload_n dX8_step_4 rfl ?_
  refine V_ldc dX8_step_5 qX8_22 ?_
  refine V_eqI (y := nI 1048575) rfl ?_
  refine V_iand dX8_step_7 (V_eqI (y := nI a) (by rw [pk_andN (by omega) 20 rfl, Nat.mod_eq_of_lt (by omega)]) ?_)
  refine V_ior dX8_step_8 (V_eqI (y := nI (1048576 * k + a)) (enc_or ha) ?_)
  exact V_iret ⟨Or.inl rfl, dX8_step_9⟩ ⟨Nat.le_of_ble_eq_true rfl, Nat.le_of_ble_eq_true rfl⟩ ⟨rfl, rfl, rfl, rfl⟩

def pput (I : zI) (t : Nat) (x : Int32) : zI := if t < 240 then zwr I 7 t x else I
set_option maxRecDepth 100000 in
set_option maxHeartbeats 4000000 in
theorem c_put8 {G : zG} {I : zI} {J : zJ} {t : Nat} {x : Int32} (ht : t < 2 ^ 31) : zK G mX8_put 0 [.ref 6, .int (nI t), .int x] zsh I J (zA2 (fun I' J' => I' = pput I t x ∧ J = J')) := by
  refine zK_of kX8_put.2.2.2.2.1 (Nat.le_of_ble_eq_true rfl) ?_
  show V G mX8_put 0 _ 0 [(0, .ref 6), (1, .int (nI t)), (2, .int x)] [] (0, 0) zsh I J
  refine V_iload_n dX8_put_0 rfl ?_
  refine V_if_ltN (tgt := 20) dX8_put_1 rfl (by omega) ?_
  refine V_iload_n dX8_put_4 rfl ?_
  refine V_aload_n dX8_put_5 rfl ?_
  refine V_getR (b := 7) dX8_put_6 fX8_11 ⟨Nat.le_of_ble_eq_true rfl, Nat.le_of_ble_eq_true rfl⟩ rfl rfl rfl ?_
  refine V_alen (v := nI 240) dX8_put_9 ⟨Nat.le_of_ble_eq_true rfl, Nat.le_of_ble_eq_true rfl⟩ rfl (by decide) rfl ?_
  refine V_icmp_geN (tgt := 20) dX8_put_10 rfl (by omega) (by omega) (fun h10 => ?_) (fun h10 => ?_)
  · skip
    exact V_ret ⟨rfl, dX8_put_20⟩ ⟨Nat.le_of_ble_eq_true rfl, Nat.le_of_ble_eq_true rfl⟩ ⟨rfl, rfl, by unfold pput; rw [if_neg (by omega)], rfl⟩
  · skip
    refine V_aload_n dX8_put_13 rfl ?_
    refine V_getR (b := 7) dX8_put_14 fX8_11 ⟨Nat.le_of_ble_eq_true rfl, Nat.le_of_ble_eq_true rfl⟩ rfl rfl rfl ?_
    refine V_iload_n dX8_put_17 rfl ?_
    refine V_iload_n dX8_put_18 rfl ?_
    refine V_iastN (k := t) dX8_put_19 ⟨Nat.le_of_ble_eq_true rfl, Nat.le_of_ble_eq_true rfl⟩ rfl (by decide) (by omega) ?_
    exact V_ret ⟨rfl, dX8_put_20⟩ ⟨Nat.le_of_ble_eq_true rfl, Nat.le_of_ble_eq_true rfl⟩ ⟨rfl, rfl, by unfold pput; rw [if_pos (by omega)], rfl⟩

set_option maxRecDepth 100000 in
set_option maxHeartbeats 4000000 in
theorem c_put8n {G : zG} {I : zI} {J : zJ} {x : Int32} : zK G mX8_put 0 [.ref 6, .int (-1), .int x] zsh I J (zA2 (fun I' J' => I' = I ∧ J = J')) := by
  refine zK_of kX8_put.2.2.2.2.1 (Nat.le_of_ble_eq_true rfl) ?_
  show V G mX8_put 0 _ 0 [(0, .ref 6), (1, .int (-1)), (2, .int x)] [] (0, 0) zsh I J
  refine V_iload_n dX8_put_0 rfl ?_
  refine V_if_lt (tgt := 20) dX8_put_1 rfl (fun _ => ?_) (fun h => absurd h (by decide))
  exact V_ret ⟨rfl, dX8_put_20⟩ ⟨Nat.le_of_ble_eq_true rfl, Nat.le_of_ble_eq_true rfl⟩ ⟨rfl, rfl, rfl, rfl⟩

def pcpI (I : zI) (pa : Nat) : zI := zwr (zwr (zup I (pa + 1) (zcp (I 7) (I (pa + 1)) 240)) pa 1 (I 6 1)) pa 2 (I 6 2)
set_option maxRecDepth 100000 in
set_option maxHeartbeats 4000000 in
theorem c_copyFrom8 {G : zG} {I : zI} {J : zJ} {pa : Nat} (hp : prog pa) (h6 : 8 < pa) : zK G mX8_copyFrom 1 [.ref pa, .ref 6] zsh I J (zA2 (fun I' J' => I' = pcpI I pa ∧ J = J')) := by
  refine zK_of kX8_copyFrom.2.2.2.2.1 (Nat.le_of_ble_eq_true rfl) ?_
  show V G mX8_copyFrom 1 _ 0 [(0, .ref pa), (1, .ref 6)] [] (0, 0) zsh I J
  refine V_aload_n dX8_copyFrom_0 rfl ?_
  refine V_getR (b := 7) dX8_copyFrom_1 fX8_11 ⟨Nat.le_of_ble_eq_true rfl, Nat.le_of_ble_eq_true rfl⟩ rfl rfl rfl ?_
  refine V_iconst (v := nI 0) dX8_copyFrom_4 rfl ?_
  refine V_aload_n dX8_copyFrom_5 rfl ?_
  refine V_getR (b := (pa + 1)) dX8_copyFrom_6 fX8_11 hp.1 hp.2.2.1 rfl hp.2.2.2.2.1 ?_
  refine V_iconst (v := nI 0) dX8_copyFrom_9 rfl ?_
  refine V_sipush (v := nI 240) dX8_copyFrom_10 rfl ?_
  refine V_cpyiN (a0 := 7) (a := pa + 1) (n := 240) dX8_copyFrom_13 jX8_23 (by decide) (Nat.le_of_ble_eq_true rfl) ⟨Nat.le_of_ble_eq_true rfl, Nat.le_of_ble_eq_true rfl⟩ rfl hp.2.1 hp.2.2.2.1 (by decide) (by decide) ?_
  refine V_aload_n dX8_copyFrom_16 rfl ?_
  refine V_aload_n dX8_copyFrom_17 rfl ?_
  refine V_getI dX8_copyFrom_18 fX8_15 ⟨Nat.le_of_ble_eq_true rfl, Nat.le_of_ble_eq_true rfl⟩ rfl rfl ?_
  refine V_eqI (y := I 6 1) (congrFun (zup_n (by omega)) 1) ?_
  refine V_putW dX8_copyFrom_21 fX8_15 hp.1 hp.2.2.1 rfl rfl ⟨rfl, rfl⟩ ?_
  refine V_aload_n dX8_copyFrom_24 rfl ?_
  refine V_aload_n dX8_copyFrom_25 rfl ?_
  refine V_getI dX8_copyFrom_26 fX8_19 ⟨Nat.le_of_ble_eq_true rfl, Nat.le_of_ble_eq_true rfl⟩ rfl rfl ?_
  refine V_eqI (y := I 6 2) (by first | exact congrFun (zup_n (by omega)) 2 | (rw [zwr_at, if_neg (by omega)]; exact congrFun (zup_n (by omega)) 2)) ?_
  refine V_putW dX8_copyFrom_29 fX8_19 hp.1 hp.2.2.1 rfl rfl ⟨rfl, rfl⟩ ?_
  exact V_ret ⟨rfl, dX8_copyFrom_32⟩ ⟨Nat.le_of_ble_eq_true rfl, Nat.le_of_ble_eq_true rfl⟩ ⟨rfl, rfl, rfl, rfl⟩

