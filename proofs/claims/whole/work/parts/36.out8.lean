/-! THE CLASS: ends drawn; what was wrong -/
def drw (x : Nat) : Nat := (25173 * x + 13849) % 65536
/-- the throw at a state, what comes of it by a draw, the state behind it -/
def wkT (Rl : Nat → Nat → (Nat → Int32) → Int32) (Lf : Nat → (Nat → Int32) → Int32) (far : Nat) (j k : Int32) (s : Nat × Nat × Nat × Nat) : Nat := if (vX 1 j k Rl Lf far s.1 s.2.1 s.2.2.1).2 = true then 2 else 1
def wkF (Lf : Nat → (Nat → Int32) → Int32) (far t p q l x : Nat) : Nat := if t = 2 then fallS (sCh Lf far p q l) 2 4 (x % 100) else fallS (sCh Lf far p q l) 3 0 (x % 100)
def wkN (Rl : Nat → Nat → (Nat → Int32) → Int32) (Lf : Nat → (Nat → Int32) → Int32) (far : Nat) (j k : Int32) (s : Nat × Nat × Nat × Nat) : Nat × Nat × Nat × Nat :=
  ((sNx s.1 s.2.1 s.2.2.1 (wkF Lf far (wkT Rl Lf far j k s) s.1 s.2.1 s.2.2.1 (drw s.2.2.2))).1, (sNx s.1 s.2.1 s.2.2.1 (wkF Lf far (wkT Rl Lf far j k s) s.1 s.2.1 s.2.2.1 (drw s.2.2.2))).2, sWho s.1 s.2.1 s.2.2.1, drw s.2.2.2)
def wk (Rl : Nat → Nat → (Nat → Int32) → Int32) (Lf : Nat → (Nat → Int32) → Int32) (far : Nat) (j k : Int32) (s : Nat × Nat × Nat × Nat) : Nat → Nat × Nat × Nat × Nat
  | 0 => s
  | i + 1 => wkN Rl Lf far j k (wk Rl Lf far j k s i)
theorem fallS_le {ch : Nat → Nat} : ∀ n part x, fallS ch n part x ≤ part + n
  | 0, part, _ => Nat.le_refl _
  | n + 1, part, x => by
    unfold fallS
    split
    · omega
    · have := fallS_le (ch := ch) n (part + 1) (x - ch part)
      omega
theorem wkF_le {Lf : Nat → (Nat → Int32) → Int32} {far t p q l x : Nat} : wkF Lf far t p q l x ≤ 6 := by
  unfold wkF
  split
  · exact fallS_le 2 4 _
  · exact Nat.le_trans (fallS_le 3 0 _) (by decide)
theorem drw_lt {x : Nat} : drw x < 65536 := Nat.mod_lt _ (by decide)
theorem sWho_n2 {p q l : Nat} (h : ¬ sWho p q l = 2) : sWho p q l ≤ 1 := by
  have : sWho p q l ≤ 2 := sWho_le
  omega
/-- the states of a drawn end -/
theorem wk_ok {Rl : Nat → Nat → (Nat → Int32) → Int32} {Lf : Nat → (Nat → Int32) → Int32} {far : Nat} {j k : Int32} {s : Nat × Nat × Nat × Nat} (hp : s.1 < 56) (hq : s.2.1 < 56) (hl : s.2.2.1 ≤ 1) (hx : s.2.2.2 < 65536) : ∀ i, i ≤ hnd s.1 s.2.1 → (wk Rl Lf far j k s i).1 < 56 ∧ (wk Rl Lf far j k s i).2.1 < 56 ∧ (wk Rl Lf far j k s i).2.2.1 ≤ 1 ∧ (wk Rl Lf far j k s i).2.2.2 < 65536 ∧ hnd (wk Rl Lf far j k s i).1 (wk Rl Lf far j k s i).2.1 + i = hnd s.1 s.2.1 := by
  intro i
  induction i with
  | zero => intro _; exact ⟨hp, hq, hl, hx, rfl⟩
  | succ i ih =>
    intro hi
    obtain ⟨h1, h2, h3, h4, h5⟩ := ih (by omega)
    have hs : sOk (wk Rl Lf far j k s i).1 (wk Rl Lf far j k s i).2.1 (wk Rl Lf far j k s i).2.2.1 := hnd_ok h1 h2 h3 (h := hnd (wk Rl Lf far j k s i).1 (wk Rl Lf far j k s i).2.1 - 1) (by omega)
    have hw : sWho (wk Rl Lf far j k s i).1 (wk Rl Lf far j k s i).2.1 (wk Rl Lf far j k s i).2.2.1 ≤ 1 := sWho_le1 h1 h2 hs.2.2.2
    obtain ⟨n1, n2, n3⟩ := sNx_ok h1 h2 hw (part := wkF Lf far (wkT Rl Lf far j k (wk Rl Lf far j k s i)) (wk Rl Lf far j k s i).1 (wk Rl Lf far j k s i).2.1 (wk Rl Lf far j k s i).2.2.1 (drw (wk Rl Lf far j k s i).2.2.2)) wkF_le
    refine ⟨n1, n2, hw, drw_lt, ?_⟩
    show hnd (sNx _ _ _ _).1 (sNx _ _ _ _).2 + (i + 1) = _
    omega
theorem wk_who {Rl : Nat → Nat → (Nat → Int32) → Int32} {Lf : Nat → (Nat → Int32) → Int32} {far : Nat} {j k : Int32} {s : Nat × Nat × Nat × Nat} (hp : s.1 < 56) (hq : s.2.1 < 56) (hl : s.2.2.1 ≤ 1) (hx : s.2.2.2 < 65536) {i : Nat} (hi : i ≤ hnd s.1 s.2.1) : sWho (wk Rl Lf far j k s i).1 (wk Rl Lf far j k s i).2.1 (wk Rl Lf far j k s i).2.2.1 = 2 ↔ i = hnd s.1 s.2.1 := by
  obtain ⟨h1, h2, h3, h4, h5⟩ := wk_ok (Rl := Rl) (Lf := Lf) (far := far) (j := j) (k := k) hp hq hl hx i hi
  constructor
  · intro hw
    by_cases h0 : i = hnd s.1 s.2.1
    · exact h0
    · have hs := hnd_ok h1 h2 h3 (h := hnd (wk Rl Lf far j k s i).1 (wk Rl Lf far j k s i).2.1 - 1) (by omega)
      have := sWho_le1 (last := (wk Rl Lf far j k s i).2.2.1) h1 h2 hs.2.2.2
      omega
  · intro h0
    exact (hnd_0 h1 h2 (by omega)).1
theorem wk_last {Rl : Nat → Nat → (Nat → Int32) → Int32} {Lf : Nat → (Nat → Int32) → Int32} {far : Nat} {j k : Int32} {s : Nat × Nat × Nat × Nat} : ∀ i, sLast s.2.2.1 (fun i => sWho (wk Rl Lf far j k s i).1 (wk Rl Lf far j k s i).2.1 (wk Rl Lf far j k s i).2.2.1) i = (wk Rl Lf far j k s i).2.2.1
  | 0 => rfl
  | _ + 1 => (if_neg (Nat.succ_ne_zero _)).trans rfl
theorem lgX_add {I : zI} {n la w s p q : Nat} {th sd c0 c1 : Nat → Nat} (h : lgX I n la th sd c0 c1) (hn : n < 6) (hw : th n = w) (hs : sd n = s) (hp : c0 (n + 1) = p) (hq : c1 (n + 1) = q) (w2 : w ≤ 2) (s1 : s ≤ 1) (p56 : p < 56) (q56 : q < 56) : lgX (ladd I n w s p q) (n + 1) la th sd c0 c1 := by
  obtain ⟨h1, h2, h3, h4, h5, h6⟩ := h
  unfold ladd
  refine ⟨?_, by omega, ?_, h4, fun k hk => ?_, fun k hk => ?_⟩
  · simp [zwr_at]
  · simp [zwr_at, h3]
  · by_cases hkn : k = n
    · subst hkn
      simp [zwr_at, hw, hs]
      omega
    · have := h5 k (by omega)
      simp [zwr_at, hkn, this.1, this.2.1]
      exact this.2.2
  · by_cases hkn : k = n + 1
    · subst hkn
      simp [zwr_at, hp, hq]
      omega
    · have := h6 k (by omega)
      simp [zwr_at, hkn, this.1, this.2.1]
      exact this.2.2
/-- what a drawn throw may change -/
def Fr5 (I : zI) (J : zJ) (I' : zI) (J' : zJ) : Prop := (∀ a, a ≠ 2 → a ≠ 9 → a ≠ 27 → a ≠ 28 → a ≠ 29 → a ≠ 30 → a ≠ 36 → a ≠ 37 → a ≠ 38 → a ≠ 39 → a ≠ 40 → I' a = I a) ∧ (∀ j, j ≠ 1 → I' 2 j = I 2 j) ∧ ∀ a, a ≠ 31 → a ≠ 32 → a ≠ 33 → J' a = J a
theorem Fr5_r {I : zI} {J : zJ} : Fr5 I J I J := ⟨fun _ _ _ _ _ _ _ _ _ _ _ _ => rfl, fun _ _ => rfl, fun _ _ _ _ => rfl⟩
theorem Fr5_t {A B C : zI} {X Y Z : zJ} (h : Fr5 A X B Y) (h2 : Fr5 B Y C Z) : Fr5 A X C Z := ⟨fun a a1 a2 a3 a4 a5 a6 a7 a8 a9 a10 a11 => (h2.1 a a1 a2 a3 a4 a5 a6 a7 a8 a9 a10 a11).trans (h.1 a a1 a2 a3 a4 a5 a6 a7 a8 a9 a10 a11), fun j hj => (h2.2.1 j hj).trans (h.2.1 j hj), fun a a1 a2 a3 => (h2.2.2 a a1 a2 a3).trans (h.2.2 a a1 a2 a3)⟩
theorem Fr2_5 {I I' : zI} {J J' : zJ} (h : Fr2 I J I' J') : Fr5 I J I' J' := ⟨fun a _ b c d e f _ _ _ _ _ => h.1 a b c d e f, fun j _ => congrFun (h.1 2 (by decide) (by decide) (by decide) (by decide) (by decide)) j, h.2⟩
theorem lgX_c {I I' : zI} {n la : Nat} {th sd c0 c1 : Nat → Nat} (h : lgX I n la th sd c0 c1) (e : ∀ a, 36 ≤ a → a ≤ 40 → I' a = I a) : lgX I' n la th sd c0 c1 := by
  unfold lgX at *
  rw [e 36 (by decide) (by decide), e 37 (by decide) (by decide), e 38 (by decide) (by decide), e 39 (by decide) (by decide), e 40 (by decide) (by decide)]
  exact h
/-- the ends with an aim stand as long as their rows do -/
theorem eKA_c {Lf : Nat → (Nat → Int32) → Int32} {Rl : Nat → Nat → (Nat → Int32) → Int32} {far : Nat} {kd one two : Int32} {I I' : zI} {J : zJ} (h : eKA Lf Rl far kd one two I J) (e : ∀ a, 9 ≤ a → a ≤ 30 → I' a = I a) : eKA Lf Rl far kd one two I' J := by
  obtain ⟨⟨hE, h9, k3, k4, k5⟩, b⟩ := h
  have e9 := e 9 (by decide) (by decide)
  have e30 := e 30 (by decide) (by decide)
  obtain ⟨h1, h2, h3, h4, h5⟩ := hE
  refine ⟨⟨⟨tabX_c h1 ⟨e 11 (by decide) (by decide), e 12 (by decide) (by decide), e 13 (by decide) (by decide), e 14 (by decide) (by decide), e 15 (by decide) (by decide)⟩, progI_c h2 (e 16 (by decide) (by decide)) (e 17 (by decide) (by decide)), fun k hk => progI_c (h3 k hk) (e _ (by omega) (by omega)) (e _ (by omega) (by omega)), by rw [e9]; exact h4, fun p q l hs => by rw [e30]; exact h5 p q l hs⟩, by rw [e9]; exact h9, k3, ?_, ?_⟩, eB_c b (by rw [e9]) rfl rfl⟩
  · unfold bk at *
    rw [e30]
    exact k4
  · unfold clo nbk bk at *
    rw [e30]
    exact k5
theorem eKA_T {Lf : Nat → (Nat → Int32) → Int32} {Rl : Nat → Nat → (Nat → Int32) → Int32} {far : Nat} {kd one two : Int32} {I : zI} {J : zJ} (h : eKA Lf Rl far kd one two I J) : tabX I := h.1.1.1
set_option maxRecDepth 100000 in
set_option maxHeartbeats 4000000 in
theorem c_drawThrow {G : zG} {I : zI} {J : zJ} {Lf : Nat → (Nat → Int32) → Int32} {Rl : Nat → Nat → (Nat → Int32) → Int32} {far : Nat} {j k : Int32} {n la p q l x : Nat} {th sd c0 c1 : Nat → Nat} (hL : lgX I n la th sd c0 c1) (hn6 : n < 6) (e0 : c0 n = p) (e1 : c1 n = q) (el : sLast la sd n = l) (hp : p < 56) (hq : q < 56) (hl : l ≤ 1) (hw : ¬ sWho p q l = 2) (hx : I 2 1 = nI x) (hx6 : x < 65536) (hE : eKA Lf Rl far 1 j k I J) (et : th n = wkT Rl Lf far j k (p, q, l, x)) (es : sd n = sWho p q l) (en0 : c0 (n + 1) = (wkN Rl Lf far j k (p, q, l, x)).1) (en1 : c1 (n + 1) = (wkN Rl Lf far j k (p, q, l, x)).2.1) : zK G mX11_drawThrow 18 [.ref 2] zsh I J (zP (fun r I' J' => r = none ∧ lgX I' (n + 1) la th sd c0 c1 ∧ I' 2 1 = nI (drw x) ∧ eKA Lf Rl far 1 j k I' J' ∧ Fr5 I J I' J')) := by
  refine zK_of kX11_drawThrow.2.2.2.2.1 (Nat.le_of_ble_eq_true rfl) ?_
  show V G mX11_drawThrow 18 _ 0 [(0, .ref 2)] [] (0, 0) zsh I J
  have hs := sWho_ok hp hq hl hw
  have hw1 := sWho_n2 hw
  by_cases ht : (vX 1 j k Rl Lf far p q l).2 = true
  · skip
    refine V_aload_n dX11_drawThrow_0 rfl ?_
    refine V_getR (b := 36) dX11_drawThrow_1 fX11_64 ⟨Nat.le_of_ble_eq_true rfl, Nat.le_of_ble_eq_true rfl⟩ rfl rfl rfl ?_
    refine V_callV (As := []) (st := []) (a := 36) dX11_drawThrow_4 kX6_lastOf0 lX11_240 (by decide) rfl rfl (Nat.le_of_ble_eq_true rfl) ⟨Nat.le_of_ble_eq_true rfl, Nat.le_of_ble_eq_true rfl⟩ ⟨Nat.le_of_ble_eq_true rfl, Nat.le_of_ble_eq_true rfl⟩ rfl ⟨rfl, by decide⟩ (c_lastOf0 hL) ?_
    rintro _ _ _ _ ⟨rfl, rfl, rfl, rfl⟩
    refine V_eqI (y := nI p) (by rw [e0]) ?_
    refine V_istore_n (ls' := [(1, .int (nI p)), (0, .ref 2)]) dX11_drawThrow_7 (by decide) rfl ?_
    refine V_aload_n dX11_drawThrow_8 rfl ?_
    refine V_getR (b := 36) dX11_drawThrow_9 fX11_64 ⟨Nat.le_of_ble_eq_true rfl, Nat.le_of_ble_eq_true rfl⟩ rfl rfl rfl ?_
    refine V_callV (As := []) (st := []) (a := 36) dX11_drawThrow_12 kX6_lastOf1 lX11_244 (by decide) rfl rfl (Nat.le_of_ble_eq_true rfl) ⟨Nat.le_of_ble_eq_true rfl, Nat.le_of_ble_eq_true rfl⟩ ⟨Nat.le_of_ble_eq_true rfl, Nat.le_of_ble_eq_true rfl⟩ rfl ⟨rfl, by decide⟩ (c_lastOf1 hL) ?_
    rintro _ _ _ _ ⟨rfl, rfl, rfl, rfl⟩
    refine V_eqI (y := nI q) (by rw [e1]) ?_
    refine V_istore_n (ls' := [(2, .int (nI q)), (1, .int (nI p)), (0, .ref 2)]) dX11_drawThrow_15 (by decide) rfl ?_
    refine V_aload_n dX11_drawThrow_16 rfl ?_
    refine V_getR (b := 36) dX11_drawThrow_17 fX11_64 ⟨Nat.le_of_ble_eq_true rfl, Nat.le_of_ble_eq_true rfl⟩ rfl rfl rfl ?_
    refine V_callV (As := []) (st := []) (a := 36) dX11_drawThrow_20 kX6_lastSide lX11_378 (by decide) rfl rfl (Nat.le_of_ble_eq_true rfl) ⟨Nat.le_of_ble_eq_true rfl, Nat.le_of_ble_eq_true rfl⟩ ⟨Nat.le_of_ble_eq_true rfl, Nat.le_of_ble_eq_true rfl⟩ rfl ⟨rfl, by decide⟩ (c_lastSide hL) ?_
    rintro _ _ _ _ ⟨rfl, rfl, rfl, rfl⟩
    refine V_eqI (y := nI l) (by rw [el]) ?_
    refine V_istore_n (ls' := [(3, .int (nI l)), (2, .int (nI q)), (1, .int (nI p)), (0, .ref 2)]) dX11_drawThrow_23 (by decide) rfl ?_
    refine V_aload_n dX11_drawThrow_24 rfl ?_
    refine V_getR (b := 10) dX11_drawThrow_25 fX11_41 ⟨Nat.le_of_ble_eq_true rfl, Nat.le_of_ble_eq_true rfl⟩ rfl rfl rfl ?_
    refine V_iload_n dX11_drawThrow_28 rfl ?_
    refine V_iload_n dX11_drawThrow_29 rfl ?_
    refine V_iload_n dX11_drawThrow_30 rfl ?_
    refine V_callV (As := [.int (nI p), .int (nI q), .int (nI l)]) (st := []) (a := 10) dX11_drawThrow_31 kX2_whoPlays lX11_156 (by decide) rfl rfl (Nat.le_of_ble_eq_true rfl) ⟨Nat.le_of_ble_eq_true rfl, Nat.le_of_ble_eq_true rfl⟩ ⟨Nat.le_of_ble_eq_true rfl, Nat.le_of_ble_eq_true rfl⟩ rfl ⟨rfl, by decide⟩ (c_whoPlays (eKA_T hE) hp hq hl) ?_
    rintro _ _ _ _ ⟨rfl, rfl, rfl, rfl⟩
    refine V_istore (ls' := [(4, .int (nI (sWho p q l))), (3, .int (nI l)), (2, .int (nI q)), (1, .int (nI p)), (0, .ref 2)]) dX11_drawThrow_34 (by decide) rfl ?_
    refine V_aload_n dX11_drawThrow_36 rfl ?_
    refine V_getR (b := 9) dX11_drawThrow_37 fX11_33 ⟨Nat.le_of_ble_eq_true rfl, Nat.le_of_ble_eq_true rfl⟩ rfl rfl rfl ?_
    refine V_iload_n dX11_drawThrow_40 rfl ?_
    refine V_iload_n dX11_drawThrow_41 rfl ?_
    refine V_iload_n dX11_drawThrow_42 rfl ?_
    refine V_callV (As := [.int (nI p), .int (nI q), .int (nI l)]) (st := []) (a := 9) dX11_drawThrow_43 kX3_throwAt lX11_381 (by decide) rfl rfl (Nat.le_of_ble_eq_true rfl) ⟨Nat.le_of_ble_eq_true rfl, Nat.le_of_ble_eq_true rfl⟩ ⟨Nat.le_of_ble_eq_true rfl, Nat.le_of_ble_eq_true rfl⟩ rfl ⟨rfl, by decide⟩ (c_throwAt hp hq hl hE (by decide)) ?_
    rintro r sh' I1 J1 ⟨rfl, rfl, hE1, hF1⟩
    refine V_eqI (y := nI 2) ((if_neg hw).trans (if_pos ht)) ?_
    refine V_istore (ls' := [(5, .int (nI 2)), (4, .int (nI (sWho p q l))), (3, .int (nI l)), (2, .int (nI q)), (1, .int (nI p)), (0, .ref 2)]) dX11_drawThrow_46 (by decide) rfl ?_
    refine V_aload_n dX11_drawThrow_48 rfl ?_
    refine V_sipush (v := nI 25173) dX11_drawThrow_49 rfl ?_
    refine V_aload_n dX11_drawThrow_52 rfl ?_
    refine V_getI dX11_drawThrow_53 fX11_13 ⟨Nat.le_of_ble_eq_true rfl, Nat.le_of_ble_eq_true rfl⟩ rfl rfl ?_
    refine V_eqI (y := nI x) ((congrFun (hF1.1 2 (by decide) (by decide) (by decide) (by decide) (by decide)) 1).trans hx) ?_
    refine V_imulN dX11_drawThrow_56 ?_
    refine V_sipush (v := nI 13849) dX11_drawThrow_57 rfl ?_
    refine V_iaddN dX11_drawThrow_60 ?_
    refine V_ldcw dX11_drawThrow_61 qX11_384 ?_
    refine V_eqI (y := nI 65536) rfl ?_
    refine V_iremN dX11_drawThrow_64 (by omega) (by omega) (by omega) ?_
    refine V_eqI (y := nI (drw x)) rfl ?_
    refine V_putW dX11_drawThrow_65 fX11_13 ⟨Nat.le_of_ble_eq_true rfl, Nat.le_of_ble_eq_true rfl⟩ rfl rfl rfl ⟨rfl, rfl⟩ ?_
    refine V_aload_n dX11_drawThrow_68 rfl ?_
    refine V_getR (b := 9) dX11_drawThrow_69 fX11_33 ⟨Nat.le_of_ble_eq_true rfl, Nat.le_of_ble_eq_true rfl⟩ rfl rfl rfl ?_
    refine V_iload_n dX11_drawThrow_72 rfl ?_
    refine V_iload_n dX11_drawThrow_73 rfl ?_
    refine V_iload_n dX11_drawThrow_74 rfl ?_
    refine V_iload dX11_drawThrow_75 rfl ?_
    refine V_aload_n dX11_drawThrow_77 rfl ?_
    refine V_getI dX11_drawThrow_78 fX11_13 ⟨Nat.le_of_ble_eq_true rfl, Nat.le_of_ble_eq_true rfl⟩ rfl rfl ?_
    refine V_eqI (y := nI (drw x)) rfl ?_
    refine V_bipush (v := nI 100) dX11_drawThrow_81 rfl ?_
    refine V_iremN dX11_drawThrow_83 (by have := @drw_lt x; omega) (by omega) (by omega) ?_
    have hE1b : eKA Lf Rl far 1 j k (zwr I1 2 1 (nI (drw x))) J1 := eKA_c hE1 (fun a a9 _ => zup_n (by omega))
    refine V_callV (As := [.int (nI p), .int (nI q), .int (nI l), .int (nI 2), .int (nI (drw x % 100))]) (st := []) (a := 9) dX11_drawThrow_84 kX3_partOf lX11_385 (by decide) rfl rfl (Nat.le_of_ble_eq_true rfl) ⟨Nat.le_of_ble_eq_true rfl, Nat.le_of_ble_eq_true rfl⟩ ⟨Nat.le_of_ble_eq_true rfl, Nat.le_of_ble_eq_true rfl⟩ rfl ⟨rfl, by decide⟩ (c_partOf2 hs (by have := @drw_lt x; omega) hE1b) ?_
    rintro r sh' I2 J2 ⟨rfl, rfl, hE2, hF2, hJ2⟩
    have hpa : fallS (sCh Lf far p q l) 2 4 (drw x % 100) ≤ 6 := Nat.le_trans (fallS_le _ _ _) (by decide)
    generalize hpx : fallS (sCh Lf far p q l) 2 4 (drw x % 100) = part at hpa
    refine V_istore (ls' := [(6, .int (nI part)), (5, .int (nI 2)), (4, .int (nI (sWho p q l))), (3, .int (nI l)), (2, .int (nI q)), (1, .int (nI p)), (0, .ref 2)]) dX11_drawThrow_87 (by decide) rfl ?_
    refine V_aload_n dX11_drawThrow_89 rfl ?_
    refine V_getR (b := 10) dX11_drawThrow_90 fX11_41 ⟨Nat.le_of_ble_eq_true rfl, Nat.le_of_ble_eq_true rfl⟩ rfl rfl rfl ?_
    refine V_iload_n dX11_drawThrow_93 rfl ?_
    refine V_iload_n dX11_drawThrow_94 rfl ?_
    refine V_iload dX11_drawThrow_95 rfl ?_
    refine V_iload dX11_drawThrow_97 rfl ?_
    refine V_callV (As := [.int (nI p), .int (nI q), .int (nI (sWho p q l)), .int (nI part)]) (st := []) (a := 10) dX11_drawThrow_99 kX2_mineBehind lX11_389 (by decide) rfl rfl (Nat.le_of_ble_eq_true rfl) ⟨Nat.le_of_ble_eq_true rfl, Nat.le_of_ble_eq_true rfl⟩ ⟨Nat.le_of_ble_eq_true rfl, Nat.le_of_ble_eq_true rfl⟩ rfl ⟨rfl, by decide⟩ (c_mineBehind (eKA_T hE2) hp hq hw1 hpa) ?_
    rintro _ _ _ _ ⟨rfl, rfl, rfl, rfl⟩
    refine V_istore (ls' := [(7, .int (nI (sMine p q (sWho p q l) part))), (6, .int (nI part)), (5, .int (nI 2)), (4, .int (nI (sWho p q l))), (3, .int (nI l)), (2, .int (nI q)), (1, .int (nI p)), (0, .ref 2)]) dX11_drawThrow_102 (by decide) rfl ?_
    refine V_aload_n dX11_drawThrow_104 rfl ?_
    refine V_getR (b := 10) dX11_drawThrow_105 fX11_41 ⟨Nat.le_of_ble_eq_true rfl, Nat.le_of_ble_eq_true rfl⟩ rfl rfl rfl ?_
    refine V_iload_n dX11_drawThrow_108 rfl ?_
    refine V_iload_n dX11_drawThrow_109 rfl ?_
    refine V_iload dX11_drawThrow_110 rfl ?_
    refine V_iload dX11_drawThrow_112 rfl ?_
    refine V_callV (As := [.int (nI p), .int (nI q), .int (nI (sWho p q l)), .int (nI part)]) (st := []) (a := 10) dX11_drawThrow_114 kX2_theirsBehind lX11_392 (by decide) rfl rfl (Nat.le_of_ble_eq_true rfl) ⟨Nat.le_of_ble_eq_true rfl, Nat.le_of_ble_eq_true rfl⟩ ⟨Nat.le_of_ble_eq_true rfl, Nat.le_of_ble_eq_true rfl⟩ rfl ⟨rfl, by decide⟩ (c_theirsBehind (eKA_T hE2) hp hq hw1 hpa) ?_
    rintro _ _ _ _ ⟨rfl, rfl, rfl, rfl⟩
    refine V_istore (ls' := [(8, .int (nI (sTheir p q (sWho p q l) part))), (7, .int (nI (sMine p q (sWho p q l) part))), (6, .int (nI part)), (5, .int (nI 2)), (4, .int (nI (sWho p q l))), (3, .int (nI l)), (2, .int (nI q)), (1, .int (nI p)), (0, .ref 2)]) dX11_drawThrow_117 (by decide) rfl ?_
    have etT : wkT Rl Lf far j k (p, q, l, x) = 2 := if_pos ht
    have ePx : wkF Lf far (wkT Rl Lf far j k (p, q, l, x)) p q l (drw x) = part := by rw [etT, ← hpx]; exact if_pos rfl
    have hN := sNx_ok hp hq hw1 hpa
    have fin : ∀ a b, sNx p q l part = (a, b) → (zP (fun r I' J' => r = none ∧ lgX I' (n + 1) la th sd c0 c1 ∧ I' 2 1 = nI (drw x) ∧ eKA Lf Rl far 1 j k I' J' ∧ Fr5 I J I' J')) none zsh (ladd I2 n 2 (sWho p q l) a b) J2 := fun a b hab => by
      have hL2 : lgX I2 n la th sd c0 c1 := lgX_c (lgX_c hL (fun a a36 a40 => hF1.1 a (by omega) (by omega) (by omega) (by omega) (by omega))) (fun a a36 a40 => (hF2.1 a (by omega) (by omega) (by omega) (by omega) (by omega)).trans (zup_n (by omega)))
      have ea : c0 (n + 1) = a := by
        rw [en0]
        show (sNx p q l (wkF Lf far (wkT Rl Lf far j k (p, q, l, x)) p q l (drw x))).1 = a
        rw [ePx, hab]
      have eb : c1 (n + 1) = b := by
        rw [en1]
        show (sNx p q l (wkF Lf far (wkT Rl Lf far j k (p, q, l, x)) p q l (drw x))).2 = b
        rw [ePx, hab]
      rw [hab] at hN
      refine ⟨rfl, rfl, lgX_add hL2 hn6 (et.trans etT) es ea eb (by decide) hw1 hN.1 hN.2.1, ?_, eKA_c hE2 (fun a a9 a30 => ?_), ?_⟩
      · unfold ladd
        exact (congrFun ((zup_n (by decide)).trans ((zup_n (by decide)).trans ((zup_n (by decide)).trans ((zup_n (by decide)).trans (zup_n (by decide)))))) 1).trans ((congrFun (hF2.1 2 (by decide) (by decide) (by decide) (by decide) (by decide)) 1).trans (zwr_at.trans (if_pos ⟨rfl, rfl⟩)))
      · unfold ladd
        exact (zup_n (by omega)).trans ((zup_n (by omega)).trans ((zup_n (by omega)).trans ((zup_n (by omega)).trans (zup_n (by omega)))))
      · refine Fr5_t (Fr2_5 hF1) (Fr5_t (B := zwr I1 2 1 (nI (drw x))) (Y := J1) ⟨fun a a2 _ _ _ _ _ _ _ _ _ _ => zup_n a2, fun j hj => zwr_at.trans (if_neg (fun h => hj h.2)), fun _ _ _ _ => rfl⟩ (Fr5_t (Fr2_5 hF2) ⟨fun a _ _ _ _ _ _ a36 a37 a38 a39 a40 => ?_, fun j _ => ?_, fun _ _ _ _ => rfl⟩))
        · unfold ladd
          exact (zup_n a40).trans ((zup_n a39).trans ((zup_n a36).trans ((zup_n a38).trans (zup_n a37))))
        · unfold ladd
          exact congrFun ((zup_n (by decide)).trans ((zup_n (by decide)).trans ((zup_n (by decide)).trans ((zup_n (by decide)).trans (zup_n (by decide)))))) j
    refine V_aload_n dX11_drawThrow_119 rfl ?_
    refine V_getR (b := 36) dX11_drawThrow_120 fX11_64 ⟨Nat.le_of_ble_eq_true rfl, Nat.le_of_ble_eq_true rfl⟩ rfl rfl rfl ?_
    refine V_iload dX11_drawThrow_123 rfl ?_
    refine V_iload dX11_drawThrow_125 rfl ?_
    refine V_iload dX11_drawThrow_127 rfl ?_
    refine V_if_neN (tgt := 137) dX11_drawThrow_129 rfl (by omega) (fun h129 => ?_) (fun h129 => ?_)
    · skip
      refine V_iload dX11_drawThrow_137 rfl ?_
      refine V_iload dX11_drawThrow_139 rfl ?_
      refine V_if_neN (tgt := 149) dX11_drawThrow_141 rfl (by omega) (fun _ => ?_) (fun h => absurd h (by omega))
      refine V_iload dX11_drawThrow_149 rfl ?_
      have hL2 : lgX I2 n la th sd c0 c1 := lgX_c (lgX_c hL (fun a a36 a40 => hF1.1 a (by omega) (by omega) (by omega) (by omega) (by omega))) (fun a a36 a40 => (hF2.1 a (by omega) (by omega) (by omega) (by omega) (by omega)).trans (zup_n (by omega)))
      refine V_callV (As := [.int (nI 2), .int (nI (sWho p q l)), .int (nI (sTheir p q (sWho p q l) part)), .int (nI (sMine p q (sWho p q l) part))]) (st := []) (a := 36) dX11_drawThrow_151 kX6_add lX11_395 (by decide) rfl rfl (Nat.le_of_ble_eq_true rfl) ⟨Nat.le_of_ble_eq_true rfl, Nat.le_of_ble_eq_true rfl⟩ ⟨Nat.le_of_ble_eq_true rfl, Nat.le_of_ble_eq_true rfl⟩ rfl ⟨rfl, by decide⟩ (c_add6 (n := n) (hL2.1) hn6) ?_
      rintro r sh' I' J' ⟨rfl, rfl, rfl, rfl⟩
      exact V_ret ⟨rfl, dX11_drawThrow_154⟩ ⟨Nat.le_of_ble_eq_true rfl, Nat.le_of_ble_eq_true rfl⟩ (fin (sTheir p q (sWho p q l) part) (sMine p q (sWho p q l) part) (if_neg (by omega)))
    · skip
      refine V_iload dX11_drawThrow_132 rfl ?_
      refine V_goto (tgt := 139) dX11_drawThrow_134 rfl ?_
      refine V_iload dX11_drawThrow_139 rfl ?_
      refine V_if_neN (tgt := 149) dX11_drawThrow_141 rfl (by omega) (fun h => absurd h (by omega)) (fun _ => ?_)
      refine V_iload dX11_drawThrow_144 rfl ?_
      refine V_goto (tgt := 151) dX11_drawThrow_146 rfl ?_
      have hL2 : lgX I2 n la th sd c0 c1 := lgX_c (lgX_c hL (fun a a36 a40 => hF1.1 a (by omega) (by omega) (by omega) (by omega) (by omega))) (fun a a36 a40 => (hF2.1 a (by omega) (by omega) (by omega) (by omega) (by omega)).trans (zup_n (by omega)))
      refine V_callV (As := [.int (nI 2), .int (nI (sWho p q l)), .int (nI (sMine p q (sWho p q l) part)), .int (nI (sTheir p q (sWho p q l) part))]) (st := []) (a := 36) dX11_drawThrow_151 kX6_add lX11_395 (by decide) rfl rfl (Nat.le_of_ble_eq_true rfl) ⟨Nat.le_of_ble_eq_true rfl, Nat.le_of_ble_eq_true rfl⟩ ⟨Nat.le_of_ble_eq_true rfl, Nat.le_of_ble_eq_true rfl⟩ rfl ⟨rfl, by decide⟩ (c_add6 (n := n) (hL2.1) hn6) ?_
      rintro r sh' I' J' ⟨rfl, rfl, rfl, rfl⟩
      exact V_ret ⟨rfl, dX11_drawThrow_154⟩ ⟨Nat.le_of_ble_eq_true rfl, Nat.le_of_ble_eq_true rfl⟩ (fin (sMine p q (sWho p q l) part) (sTheir p q (sWho p q l) part) (if_pos (by omega)))
  · skip
    refine V_aload_n dX11_drawThrow_0 rfl ?_
    refine V_getR (b := 36) dX11_drawThrow_1 fX11_64 ⟨Nat.le_of_ble_eq_true rfl, Nat.le_of_ble_eq_true rfl⟩ rfl rfl rfl ?_
    refine V_callV (As := []) (st := []) (a := 36) dX11_drawThrow_4 kX6_lastOf0 lX11_240 (by decide) rfl rfl (Nat.le_of_ble_eq_true rfl) ⟨Nat.le_of_ble_eq_true rfl, Nat.le_of_ble_eq_true rfl⟩ ⟨Nat.le_of_ble_eq_true rfl, Nat.le_of_ble_eq_true rfl⟩ rfl ⟨rfl, by decide⟩ (c_lastOf0 hL) ?_
    rintro _ _ _ _ ⟨rfl, rfl, rfl, rfl⟩
    refine V_eqI (y := nI p) (by rw [e0]) ?_
    refine V_istore_n (ls' := [(1, .int (nI p)), (0, .ref 2)]) dX11_drawThrow_7 (by decide) rfl ?_
    refine V_aload_n dX11_drawThrow_8 rfl ?_
    refine V_getR (b := 36) dX11_drawThrow_9 fX11_64 ⟨Nat.le_of_ble_eq_true rfl, Nat.le_of_ble_eq_true rfl⟩ rfl rfl rfl ?_
    refine V_callV (As := []) (st := []) (a := 36) dX11_drawThrow_12 kX6_lastOf1 lX11_244 (by decide) rfl rfl (Nat.le_of_ble_eq_true rfl) ⟨Nat.le_of_ble_eq_true rfl, Nat.le_of_ble_eq_true rfl⟩ ⟨Nat.le_of_ble_eq_true rfl, Nat.le_of_ble_eq_true rfl⟩ rfl ⟨rfl, by decide⟩ (c_lastOf1 hL) ?_
    rintro _ _ _ _ ⟨rfl, rfl, rfl, rfl⟩
    refine V_eqI (y := nI q) (by rw [e1]) ?_
    refine V_istore_n (ls' := [(2, .int (nI q)), (1, .int (nI p)), (0, .ref 2)]) dX11_drawThrow_15 (by decide) rfl ?_
    refine V_aload_n dX11_drawThrow_16 rfl ?_
    refine V_getR (b := 36) dX11_drawThrow_17 fX11_64 ⟨Nat.le_of_ble_eq_true rfl, Nat.le_of_ble_eq_true rfl⟩ rfl rfl rfl ?_
    refine V_callV (As := []) (st := []) (a := 36) dX11_drawThrow_20 kX6_lastSide lX11_378 (by decide) rfl rfl (Nat.le_of_ble_eq_true rfl) ⟨Nat.le_of_ble_eq_true rfl, Nat.le_of_ble_eq_true rfl⟩ ⟨Nat.le_of_ble_eq_true rfl, Nat.le_of_ble_eq_true rfl⟩ rfl ⟨rfl, by decide⟩ (c_lastSide hL) ?_
    rintro _ _ _ _ ⟨rfl, rfl, rfl, rfl⟩
    refine V_eqI (y := nI l) (by rw [el]) ?_
    refine V_istore_n (ls' := [(3, .int (nI l)), (2, .int (nI q)), (1, .int (nI p)), (0, .ref 2)]) dX11_drawThrow_23 (by decide) rfl ?_
    refine V_aload_n dX11_drawThrow_24 rfl ?_
    refine V_getR (b := 10) dX11_drawThrow_25 fX11_41 ⟨Nat.le_of_ble_eq_true rfl, Nat.le_of_ble_eq_true rfl⟩ rfl rfl rfl ?_
    refine V_iload_n dX11_drawThrow_28 rfl ?_
    refine V_iload_n dX11_drawThrow_29 rfl ?_
    refine V_iload_n dX11_drawThrow_30 rfl ?_
    refine V_callV (As := [.int (nI p), .int (nI q), .int (nI l)]) (st := []) (a := 10) dX11_drawThrow_31 kX2_whoPlays lX11_156 (by decide) rfl rfl (Nat.le_of_ble_eq_true rfl) ⟨Nat.le_of_ble_eq_true rfl, Nat.le_of_ble_eq_true rfl⟩ ⟨Nat.le_of_ble_eq_true rfl, Nat.le_of_ble_eq_true rfl⟩ rfl ⟨rfl, by decide⟩ (c_whoPlays (eKA_T hE) hp hq hl) ?_
    rintro _ _ _ _ ⟨rfl, rfl, rfl, rfl⟩
    refine V_istore (ls' := [(4, .int (nI (sWho p q l))), (3, .int (nI l)), (2, .int (nI q)), (1, .int (nI p)), (0, .ref 2)]) dX11_drawThrow_34 (by decide) rfl ?_
    refine V_aload_n dX11_drawThrow_36 rfl ?_
    refine V_getR (b := 9) dX11_drawThrow_37 fX11_33 ⟨Nat.le_of_ble_eq_true rfl, Nat.le_of_ble_eq_true rfl⟩ rfl rfl rfl ?_
    refine V_iload_n dX11_drawThrow_40 rfl ?_
    refine V_iload_n dX11_drawThrow_41 rfl ?_
    refine V_iload_n dX11_drawThrow_42 rfl ?_
    refine V_callV (As := [.int (nI p), .int (nI q), .int (nI l)]) (st := []) (a := 9) dX11_drawThrow_43 kX3_throwAt lX11_381 (by decide) rfl rfl (Nat.le_of_ble_eq_true rfl) ⟨Nat.le_of_ble_eq_true rfl, Nat.le_of_ble_eq_true rfl⟩ ⟨Nat.le_of_ble_eq_true rfl, Nat.le_of_ble_eq_true rfl⟩ rfl ⟨rfl, by decide⟩ (c_throwAt hp hq hl hE (by decide)) ?_
    rintro r sh' I1 J1 ⟨rfl, rfl, hE1, hF1⟩
    refine V_eqI (y := nI 1) ((if_neg hw).trans (if_neg ht)) ?_
    refine V_istore (ls' := [(5, .int (nI 1)), (4, .int (nI (sWho p q l))), (3, .int (nI l)), (2, .int (nI q)), (1, .int (nI p)), (0, .ref 2)]) dX11_drawThrow_46 (by decide) rfl ?_
    refine V_aload_n dX11_drawThrow_48 rfl ?_
    refine V_sipush (v := nI 25173) dX11_drawThrow_49 rfl ?_
    refine V_aload_n dX11_drawThrow_52 rfl ?_
    refine V_getI dX11_drawThrow_53 fX11_13 ⟨Nat.le_of_ble_eq_true rfl, Nat.le_of_ble_eq_true rfl⟩ rfl rfl ?_
    refine V_eqI (y := nI x) ((congrFun (hF1.1 2 (by decide) (by decide) (by decide) (by decide) (by decide)) 1).trans hx) ?_
    refine V_imulN dX11_drawThrow_56 ?_
    refine V_sipush (v := nI 13849) dX11_drawThrow_57 rfl ?_
    refine V_iaddN dX11_drawThrow_60 ?_
    refine V_ldcw dX11_drawThrow_61 qX11_384 ?_
    refine V_eqI (y := nI 65536) rfl ?_
    refine V_iremN dX11_drawThrow_64 (by omega) (by omega) (by omega) ?_
    refine V_eqI (y := nI (drw x)) rfl ?_
    refine V_putW dX11_drawThrow_65 fX11_13 ⟨Nat.le_of_ble_eq_true rfl, Nat.le_of_ble_eq_true rfl⟩ rfl rfl rfl ⟨rfl, rfl⟩ ?_
    refine V_aload_n dX11_drawThrow_68 rfl ?_
    refine V_getR (b := 9) dX11_drawThrow_69 fX11_33 ⟨Nat.le_of_ble_eq_true rfl, Nat.le_of_ble_eq_true rfl⟩ rfl rfl rfl ?_
    refine V_iload_n dX11_drawThrow_72 rfl ?_
    refine V_iload_n dX11_drawThrow_73 rfl ?_
    refine V_iload_n dX11_drawThrow_74 rfl ?_
    refine V_iload dX11_drawThrow_75 rfl ?_
    refine V_aload_n dX11_drawThrow_77 rfl ?_
    refine V_getI dX11_drawThrow_78 fX11_13 ⟨Nat.le_of_ble_eq_true rfl, Nat.le_of_ble_eq_true rfl⟩ rfl rfl ?_
    refine V_eqI (y := nI (drw x)) rfl ?_
    refine V_bipush (v := nI 100) dX11_drawThrow_81 rfl ?_
    refine V_iremN dX11_drawThrow_83 (by have := @drw_lt x; omega) (by omega) (by omega) ?_
    have hE1b : eKA Lf Rl far 1 j k (zwr I1 2 1 (nI (drw x))) J1 := eKA_c hE1 (fun a a9 _ => zup_n (by omega))
    refine V_callV (As := [.int (nI p), .int (nI q), .int (nI l), .int (nI 1), .int (nI (drw x % 100))]) (st := []) (a := 9) dX11_drawThrow_84 kX3_partOf lX11_385 (by decide) rfl rfl (Nat.le_of_ble_eq_true rfl) ⟨Nat.le_of_ble_eq_true rfl, Nat.le_of_ble_eq_true rfl⟩ ⟨Nat.le_of_ble_eq_true rfl, Nat.le_of_ble_eq_true rfl⟩ rfl ⟨rfl, by decide⟩ (c_partOf1 hs (by have := @drw_lt x; omega) hE1b) ?_
    rintro r sh' I2 J2 ⟨rfl, rfl, hE2, hF2, hJ2⟩
    have hpa : fallS (sCh Lf far p q l) 3 0 (drw x % 100) ≤ 6 := Nat.le_trans (fallS_le _ _ _) (by decide)
    generalize hpx : fallS (sCh Lf far p q l) 3 0 (drw x % 100) = part at hpa
    refine V_istore (ls' := [(6, .int (nI part)), (5, .int (nI 1)), (4, .int (nI (sWho p q l))), (3, .int (nI l)), (2, .int (nI q)), (1, .int (nI p)), (0, .ref 2)]) dX11_drawThrow_87 (by decide) rfl ?_
    refine V_aload_n dX11_drawThrow_89 rfl ?_
    refine V_getR (b := 10) dX11_drawThrow_90 fX11_41 ⟨Nat.le_of_ble_eq_true rfl, Nat.le_of_ble_eq_true rfl⟩ rfl rfl rfl ?_
    refine V_iload_n dX11_drawThrow_93 rfl ?_
    refine V_iload_n dX11_drawThrow_94 rfl ?_
    refine V_iload dX11_drawThrow_95 rfl ?_
    refine V_iload dX11_drawThrow_97 rfl ?_
    refine V_callV (As := [.int (nI p), .int (nI q), .int (nI (sWho p q l)), .int (nI part)]) (st := []) (a := 10) dX11_drawThrow_99 kX2_mineBehind lX11_389 (by decide) rfl rfl (Nat.le_of_ble_eq_true rfl) ⟨Nat.le_of_ble_eq_true rfl, Nat.le_of_ble_eq_true rfl⟩ ⟨Nat.le_of_ble_eq_true rfl, Nat.le_of_ble_eq_true rfl⟩ rfl ⟨rfl, by decide⟩ (c_mineBehind (eKA_T hE2) hp hq hw1 hpa) ?_
    rintro _ _ _ _ ⟨rfl, rfl, rfl, rfl⟩
    refine V_istore (ls' := [(7, .int (nI (sMine p q (sWho p q l) part))), (6, .int (nI part)), (5, .int (nI 1)), (4, .int (nI (sWho p q l))), (3, .int (nI l)), (2, .int (nI q)), (1, .int (nI p)), (0, .ref 2)]) dX11_drawThrow_102 (by decide) rfl ?_
    refine V_aload_n dX11_drawThrow_104 rfl ?_
    refine V_getR (b := 10) dX11_drawThrow_105 fX11_41 ⟨Nat.le_of_ble_eq_true rfl, Nat.le_of_ble_eq_true rfl⟩ rfl rfl rfl ?_
    refine V_iload_n dX11_drawThrow_108 rfl ?_
    refine V_iload_n dX11_drawThrow_109 rfl ?_
    refine V_iload dX11_drawThrow_110 rfl ?_
    refine V_iload dX11_drawThrow_112 rfl ?_
    refine V_callV (As := [.int (nI p), .int (nI q), .int (nI (sWho p q l)), .int (nI part)]) (st := []) (a := 10) dX11_drawThrow_114 kX2_theirsBehind lX11_392 (by decide) rfl rfl (Nat.le_of_ble_eq_true rfl) ⟨Nat.le_of_ble_eq_true rfl, Nat.le_of_ble_eq_true rfl⟩ ⟨Nat.le_of_ble_eq_true rfl, Nat.le_of_ble_eq_true rfl⟩ rfl ⟨rfl, by decide⟩ (c_theirsBehind (eKA_T hE2) hp hq hw1 hpa) ?_
    rintro _ _ _ _ ⟨rfl, rfl, rfl, rfl⟩
    refine V_istore (ls' := [(8, .int (nI (sTheir p q (sWho p q l) part))), (7, .int (nI (sMine p q (sWho p q l) part))), (6, .int (nI part)), (5, .int (nI 1)), (4, .int (nI (sWho p q l))), (3, .int (nI l)), (2, .int (nI q)), (1, .int (nI p)), (0, .ref 2)]) dX11_drawThrow_117 (by decide) rfl ?_
    have etT : wkT Rl Lf far j k (p, q, l, x) = 1 := if_neg ht
    have ePx : wkF Lf far (wkT Rl Lf far j k (p, q, l, x)) p q l (drw x) = part := by rw [etT, ← hpx]; exact if_neg (by decide)
    have hN := sNx_ok hp hq hw1 hpa
    have fin : ∀ a b, sNx p q l part = (a, b) → (zP (fun r I' J' => r = none ∧ lgX I' (n + 1) la th sd c0 c1 ∧ I' 2 1 = nI (drw x) ∧ eKA Lf Rl far 1 j k I' J' ∧ Fr5 I J I' J')) none zsh (ladd I2 n 1 (sWho p q l) a b) J2 := fun a b hab => by
      have hL2 : lgX I2 n la th sd c0 c1 := lgX_c (lgX_c hL (fun a a36 a40 => hF1.1 a (by omega) (by omega) (by omega) (by omega) (by omega))) (fun a a36 a40 => (hF2.1 a (by omega) (by omega) (by omega) (by omega) (by omega)).trans (zup_n (by omega)))
      have ea : c0 (n + 1) = a := by
        rw [en0]
        show (sNx p q l (wkF Lf far (wkT Rl Lf far j k (p, q, l, x)) p q l (drw x))).1 = a
        rw [ePx, hab]
      have eb : c1 (n + 1) = b := by
        rw [en1]
        show (sNx p q l (wkF Lf far (wkT Rl Lf far j k (p, q, l, x)) p q l (drw x))).2 = b
        rw [ePx, hab]
      rw [hab] at hN
      refine ⟨rfl, rfl, lgX_add hL2 hn6 (et.trans etT) es ea eb (by decide) hw1 hN.1 hN.2.1, ?_, eKA_c hE2 (fun a a9 a30 => ?_), ?_⟩
      · unfold ladd
        exact (congrFun ((zup_n (by decide)).trans ((zup_n (by decide)).trans ((zup_n (by decide)).trans ((zup_n (by decide)).trans (zup_n (by decide)))))) 1).trans ((congrFun (hF2.1 2 (by decide) (by decide) (by decide) (by decide) (by decide)) 1).trans (zwr_at.trans (if_pos ⟨rfl, rfl⟩)))
      · unfold ladd
        exact (zup_n (by omega)).trans ((zup_n (by omega)).trans ((zup_n (by omega)).trans ((zup_n (by omega)).trans (zup_n (by omega)))))
      · refine Fr5_t (Fr2_5 hF1) (Fr5_t (B := zwr I1 2 1 (nI (drw x))) (Y := J1) ⟨fun a a2 _ _ _ _ _ _ _ _ _ _ => zup_n a2, fun j hj => zwr_at.trans (if_neg (fun h => hj h.2)), fun _ _ _ _ => rfl⟩ (Fr5_t (Fr2_5 hF2) ⟨fun a _ _ _ _ _ _ a36 a37 a38 a39 a40 => ?_, fun j _ => ?_, fun _ _ _ _ => rfl⟩))
        · unfold ladd
          exact (zup_n a40).trans ((zup_n a39).trans ((zup_n a36).trans ((zup_n a38).trans (zup_n a37))))
        · unfold ladd
          exact congrFun ((zup_n (by decide)).trans ((zup_n (by decide)).trans ((zup_n (by decide)).trans ((zup_n (by decide)).trans (zup_n (by decide)))))) j
    refine V_aload_n dX11_drawThrow_119 rfl ?_
    refine V_getR (b := 36) dX11_drawThrow_120 fX11_64 ⟨Nat.le_of_ble_eq_true rfl, Nat.le_of_ble_eq_true rfl⟩ rfl rfl rfl ?_
    refine V_iload dX11_drawThrow_123 rfl ?_
    refine V_iload dX11_drawThrow_125 rfl ?_
    refine V_iload dX11_drawThrow_127 rfl ?_
    refine V_if_neN (tgt := 137) dX11_drawThrow_129 rfl (by omega) (fun h129 => ?_) (fun h129 => ?_)
    · skip
      refine V_iload dX11_drawThrow_137 rfl ?_
      refine V_iload dX11_drawThrow_139 rfl ?_
      refine V_if_neN (tgt := 149) dX11_drawThrow_141 rfl (by omega) (fun _ => ?_) (fun h => absurd h (by omega))
      refine V_iload dX11_drawThrow_149 rfl ?_
      have hL2 : lgX I2 n la th sd c0 c1 := lgX_c (lgX_c hL (fun a a36 a40 => hF1.1 a (by omega) (by omega) (by omega) (by omega) (by omega))) (fun a a36 a40 => (hF2.1 a (by omega) (by omega) (by omega) (by omega) (by omega)).trans (zup_n (by omega)))
      refine V_callV (As := [.int (nI 1), .int (nI (sWho p q l)), .int (nI (sTheir p q (sWho p q l) part)), .int (nI (sMine p q (sWho p q l) part))]) (st := []) (a := 36) dX11_drawThrow_151 kX6_add lX11_395 (by decide) rfl rfl (Nat.le_of_ble_eq_true rfl) ⟨Nat.le_of_ble_eq_true rfl, Nat.le_of_ble_eq_true rfl⟩ ⟨Nat.le_of_ble_eq_true rfl, Nat.le_of_ble_eq_true rfl⟩ rfl ⟨rfl, by decide⟩ (c_add6 (n := n) (hL2.1) hn6) ?_
      rintro r sh' I' J' ⟨rfl, rfl, rfl, rfl⟩
      exact V_ret ⟨rfl, dX11_drawThrow_154⟩ ⟨Nat.le_of_ble_eq_true rfl, Nat.le_of_ble_eq_true rfl⟩ (fin (sTheir p q (sWho p q l) part) (sMine p q (sWho p q l) part) (if_neg (by omega)))
    · skip
      refine V_iload dX11_drawThrow_132 rfl ?_
      refine V_goto (tgt := 139) dX11_drawThrow_134 rfl ?_
      refine V_iload dX11_drawThrow_139 rfl ?_
      refine V_if_neN (tgt := 149) dX11_drawThrow_141 rfl (by omega) (fun h => absurd h (by omega)) (fun _ => ?_)
      refine V_iload dX11_drawThrow_144 rfl ?_
      refine V_goto (tgt := 151) dX11_drawThrow_146 rfl ?_
      have hL2 : lgX I2 n la th sd c0 c1 := lgX_c (lgX_c hL (fun a a36 a40 => hF1.1 a (by omega) (by omega) (by omega) (by omega) (by omega))) (fun a a36 a40 => (hF2.1 a (by omega) (by omega) (by omega) (by omega) (by omega)).trans (zup_n (by omega)))
      refine V_callV (As := [.int (nI 1), .int (nI (sWho p q l)), .int (nI (sMine p q (sWho p q l) part)), .int (nI (sTheir p q (sWho p q l) part))]) (st := []) (a := 36) dX11_drawThrow_151 kX6_add lX11_395 (by decide) rfl rfl (Nat.le_of_ble_eq_true rfl) ⟨Nat.le_of_ble_eq_true rfl, Nat.le_of_ble_eq_true rfl⟩ ⟨Nat.le_of_ble_eq_true rfl, Nat.le_of_ble_eq_true rfl⟩ rfl ⟨rfl, by decide⟩ (c_add6 (n := n) (hL2.1) hn6) ?_
      rintro r sh' I' J' ⟨rfl, rfl, rfl, rfl⟩
      exact V_ret ⟨rfl, dX11_drawThrow_154⟩ ⟨Nat.le_of_ble_eq_true rfl, Nat.le_of_ble_eq_true rfl⟩ (fin (sMine p q (sWho p q l) part) (sTheir p q (sWho p q l) part) (if_pos (by omega)))

