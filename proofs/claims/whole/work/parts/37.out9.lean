/-! THE CLASS: drawn, wrong -/
set_option maxRecDepth 100000 in
set_option maxHeartbeats 4000000 in
theorem lp_drawn {G : zG} {I : zI} {J : zJ} {Lf : Nat → (Nat → Int32) → Int32} {Rl : Nat → Nat → (Nat → Int32) → Int32} {far : Nat} {j k : Int32} {p q l x : Nat} (hp : p < 56) (hq : q < 56) (hl : l ≤ 1) (hx6 : x < 65536) : ∀ m i I1 J1, i + m = 6 → i ≤ (hnd p q) → lgX I1 i l (fun i => wkT Rl Lf far j k (wk Rl Lf far j k (p, q, l, x) i)) (fun i => sWho (wk Rl Lf far j k (p, q, l, x) i).1 (wk Rl Lf far j k (p, q, l, x) i).2.1 (wk Rl Lf far j k (p, q, l, x) i).2.2.1) (fun i => (wk Rl Lf far j k (p, q, l, x) i).1) (fun i => (wk Rl Lf far j k (p, q, l, x) i).2.1) → I1 2 1 = nI (wk Rl Lf far j k (p, q, l, x) i).2.2.2 → eKA Lf Rl far 1 j k I1 J1 → Fr5 I J I1 J1 → V G mX11_drawn 19 (zP (fun r I' J' => r = some (.int (sPts (wk Rl Lf far j k (p, q, l, x) (hnd p q)).1 (wk Rl Lf far j k (p, q, l, x) (hnd p q)).2.1)) ∧ lgX I' (hnd p q) l (fun i => wkT Rl Lf far j k (wk Rl Lf far j k (p, q, l, x) i)) (fun i => sWho (wk Rl Lf far j k (p, q, l, x) i).1 (wk Rl Lf far j k (p, q, l, x) i).2.1 (wk Rl Lf far j k (p, q, l, x) i).2.2.1) (fun i => (wk Rl Lf far j k (p, q, l, x) i).1) (fun i => (wk Rl Lf far j k (p, q, l, x) i).2.1) ∧ I' 2 1 = nI (wk Rl Lf far j k (p, q, l, x) (hnd p q)).2.2.2 ∧ eKA Lf Rl far 1 j k I' J' ∧ Fr5 I J I' J')) 89 [(0, .ref 2), (8, .int (nI i))] [] (0, 0) zsh I1 J1 := by
  intro m
  induction m with
  | zero =>
    intro i I1 J1 hi6 hiN hL hx hE1 hF
    have hk := wk_ok (Rl := Rl) (Lf := Lf) (far := far) (j := j) (k := k) (s := (p, q, l, x)) hp hq hl hx6 i hiN
    have hwl : sLast l (fun i => sWho (wk Rl Lf far j k (p, q, l, x) i).1 (wk Rl Lf far j k (p, q, l, x) i).2.1 (wk Rl Lf far j k (p, q, l, x) i).2.2.1) i = (wk Rl Lf far j k (p, q, l, x) i).2.2.1 := wk_last (s := (p, q, l, x)) i
    refine V_iload dX11_drawn_89 rfl ?_
    refine V_bipush (v := nI 6) dX11_drawn_91 rfl ?_
    refine V_icmp_geN (tgt := 120) dX11_drawn_93 rfl (by omega) (by omega) (fun _ => ?_) (fun h => absurd h (by omega))
    have hiN2 : i = (hnd p q) := by have := hnd_6 hp hq; omega
    refine V_aload_n dX11_drawn_120 rfl ?_
    refine V_getR (b := 10) dX11_drawn_121 fX11_41 ⟨Nat.le_of_ble_eq_true rfl, Nat.le_of_ble_eq_true rfl⟩ rfl rfl rfl ?_
    refine V_aload_n dX11_drawn_124 rfl ?_
    refine V_getR (b := 36) dX11_drawn_125 fX11_64 ⟨Nat.le_of_ble_eq_true rfl, Nat.le_of_ble_eq_true rfl⟩ rfl rfl rfl ?_
    refine V_callV (As := []) (st := [.ref 10]) (a := 36) dX11_drawn_128 kX6_lastOf0 lX11_240 (by decide) rfl rfl (Nat.le_of_ble_eq_true rfl) ⟨Nat.le_of_ble_eq_true rfl, Nat.le_of_ble_eq_true rfl⟩ ⟨Nat.le_of_ble_eq_true rfl, Nat.le_of_ble_eq_true rfl⟩ rfl ⟨rfl, by decide⟩ (c_lastOf0 hL) ?_
    rintro _ _ _ _ ⟨rfl, rfl, rfl, rfl⟩
    refine V_aload_n dX11_drawn_131 rfl ?_
    refine V_getR (b := 36) dX11_drawn_132 fX11_64 ⟨Nat.le_of_ble_eq_true rfl, Nat.le_of_ble_eq_true rfl⟩ rfl rfl rfl ?_
    refine V_callV (As := []) (st := [.int (nI ((wk Rl Lf far j k (p, q, l, x) i).1)), .ref 10]) (a := 36) dX11_drawn_135 kX6_lastOf1 lX11_244 (by decide) rfl rfl (Nat.le_of_ble_eq_true rfl) ⟨Nat.le_of_ble_eq_true rfl, Nat.le_of_ble_eq_true rfl⟩ ⟨Nat.le_of_ble_eq_true rfl, Nat.le_of_ble_eq_true rfl⟩ rfl ⟨rfl, by decide⟩ (c_lastOf1 hL) ?_
    rintro _ _ _ _ ⟨rfl, rfl, rfl, rfl⟩
    refine V_callV (As := [.int (nI ((wk Rl Lf far j k (p, q, l, x) i).1)), .int (nI ((wk Rl Lf far j k (p, q, l, x) i).2.1))]) (st := []) (a := 10) dX11_drawn_138 kX2_pointsNow lX11_160 (by decide) rfl rfl (Nat.le_of_ble_eq_true rfl) ⟨Nat.le_of_ble_eq_true rfl, Nat.le_of_ble_eq_true rfl⟩ ⟨Nat.le_of_ble_eq_true rfl, Nat.le_of_ble_eq_true rfl⟩ rfl ⟨rfl, by decide⟩ (c_pointsNow (eKA_T hE1) hk.1 hk.2.1) ?_
    rintro _ _ _ _ ⟨rfl, rfl, rfl, rfl⟩
    exact V_iret ⟨Or.inl rfl, dX11_drawn_141⟩ ⟨Nat.le_of_ble_eq_true rfl, Nat.le_of_ble_eq_true rfl⟩ ⟨rfl, by rw [hiN2], hiN2 ▸ hL, by rw [← hiN2]; exact hx, hE1, hF⟩
  | succ m ih =>
    intro i I1 J1 hi6 hiN hL hx hE1 hF
    have hk := wk_ok (Rl := Rl) (Lf := Lf) (far := far) (j := j) (k := k) (s := (p, q, l, x)) hp hq hl hx6 i hiN
    have hwl : sLast l (fun i => sWho (wk Rl Lf far j k (p, q, l, x) i).1 (wk Rl Lf far j k (p, q, l, x) i).2.1 (wk Rl Lf far j k (p, q, l, x) i).2.2.1) i = (wk Rl Lf far j k (p, q, l, x) i).2.2.1 := wk_last (s := (p, q, l, x)) i
    refine V_iload dX11_drawn_89 rfl ?_
    refine V_bipush (v := nI 6) dX11_drawn_91 rfl ?_
    refine V_icmp_geN (tgt := 120) dX11_drawn_93 rfl (by omega) (by omega) (fun h => absurd h (by omega)) (fun _ => ?_)
    refine V_aload_n dX11_drawn_96 rfl ?_
    refine V_getR (b := 36) dX11_drawn_97 fX11_64 ⟨Nat.le_of_ble_eq_true rfl, Nat.le_of_ble_eq_true rfl⟩ rfl rfl rfl ?_
    refine V_aload_n dX11_drawn_100 rfl ?_
    refine V_getR (b := 10) dX11_drawn_101 fX11_41 ⟨Nat.le_of_ble_eq_true rfl, Nat.le_of_ble_eq_true rfl⟩ rfl rfl rfl ?_
    by_cases hi : i = (hnd p q)
    · skip
      refine V_callV (As := [.ref 10]) (st := []) (a := 36) dX11_drawn_104 kX6_isOver lX11_233 (by decide) rfl rfl (Nat.le_of_ble_eq_true rfl) ⟨Nat.le_of_ble_eq_true rfl, Nat.le_of_ble_eq_true rfl⟩ ⟨Nat.le_of_ble_eq_true rfl, Nat.le_of_ble_eq_true rfl⟩ rfl ⟨rfl, by decide⟩ (c_isOver (eKA_T hE1) hL) ?_
      rintro _ _ _ _ ⟨rfl, rfl, rfl, rfl⟩
      refine V_eqI (y := nI 1) (congrArg nI (if_pos (by show sWho _ _ (sLast l _ i) = 2; rw [hwl]; exact (wk_who (s := (p, q, l, x)) hp hq hl hx6 hiN).mpr hi))) ?_
      refine V_if_ne (tgt := 120) dX11_drawn_107 rfl (fun _ => ?_) (fun h => absurd h (by decide))
      have hiN2 : i = (hnd p q) := by have := hnd_6 hp hq; omega
      refine V_aload_n dX11_drawn_120 rfl ?_
      refine V_getR (b := 10) dX11_drawn_121 fX11_41 ⟨Nat.le_of_ble_eq_true rfl, Nat.le_of_ble_eq_true rfl⟩ rfl rfl rfl ?_
      refine V_aload_n dX11_drawn_124 rfl ?_
      refine V_getR (b := 36) dX11_drawn_125 fX11_64 ⟨Nat.le_of_ble_eq_true rfl, Nat.le_of_ble_eq_true rfl⟩ rfl rfl rfl ?_
      refine V_callV (As := []) (st := [.ref 10]) (a := 36) dX11_drawn_128 kX6_lastOf0 lX11_240 (by decide) rfl rfl (Nat.le_of_ble_eq_true rfl) ⟨Nat.le_of_ble_eq_true rfl, Nat.le_of_ble_eq_true rfl⟩ ⟨Nat.le_of_ble_eq_true rfl, Nat.le_of_ble_eq_true rfl⟩ rfl ⟨rfl, by decide⟩ (c_lastOf0 hL) ?_
      rintro _ _ _ _ ⟨rfl, rfl, rfl, rfl⟩
      refine V_aload_n dX11_drawn_131 rfl ?_
      refine V_getR (b := 36) dX11_drawn_132 fX11_64 ⟨Nat.le_of_ble_eq_true rfl, Nat.le_of_ble_eq_true rfl⟩ rfl rfl rfl ?_
      refine V_callV (As := []) (st := [.int (nI ((wk Rl Lf far j k (p, q, l, x) i).1)), .ref 10]) (a := 36) dX11_drawn_135 kX6_lastOf1 lX11_244 (by decide) rfl rfl (Nat.le_of_ble_eq_true rfl) ⟨Nat.le_of_ble_eq_true rfl, Nat.le_of_ble_eq_true rfl⟩ ⟨Nat.le_of_ble_eq_true rfl, Nat.le_of_ble_eq_true rfl⟩ rfl ⟨rfl, by decide⟩ (c_lastOf1 hL) ?_
      rintro _ _ _ _ ⟨rfl, rfl, rfl, rfl⟩
      refine V_callV (As := [.int (nI ((wk Rl Lf far j k (p, q, l, x) i).1)), .int (nI ((wk Rl Lf far j k (p, q, l, x) i).2.1))]) (st := []) (a := 10) dX11_drawn_138 kX2_pointsNow lX11_160 (by decide) rfl rfl (Nat.le_of_ble_eq_true rfl) ⟨Nat.le_of_ble_eq_true rfl, Nat.le_of_ble_eq_true rfl⟩ ⟨Nat.le_of_ble_eq_true rfl, Nat.le_of_ble_eq_true rfl⟩ rfl ⟨rfl, by decide⟩ (c_pointsNow (eKA_T hE1) hk.1 hk.2.1) ?_
      rintro _ _ _ _ ⟨rfl, rfl, rfl, rfl⟩
      exact V_iret ⟨Or.inl rfl, dX11_drawn_141⟩ ⟨Nat.le_of_ble_eq_true rfl, Nat.le_of_ble_eq_true rfl⟩ ⟨rfl, by rw [hiN2], hiN2 ▸ hL, by rw [← hiN2]; exact hx, hE1, hF⟩
    · skip
      refine V_callV (As := [.ref 10]) (st := []) (a := 36) dX11_drawn_104 kX6_isOver lX11_233 (by decide) rfl rfl (Nat.le_of_ble_eq_true rfl) ⟨Nat.le_of_ble_eq_true rfl, Nat.le_of_ble_eq_true rfl⟩ ⟨Nat.le_of_ble_eq_true rfl, Nat.le_of_ble_eq_true rfl⟩ rfl ⟨rfl, by decide⟩ (c_isOver (eKA_T hE1) hL) ?_
      rintro _ _ _ _ ⟨rfl, rfl, rfl, rfl⟩
      refine V_eqI (y := nI 0) (congrArg nI (if_neg (fun h => hi ((wk_who (s := (p, q, l, x)) hp hq hl hx6 hiN).mp (by rw [← hwl]; exact h))))) ?_
      refine V_if_ne (tgt := 120) dX11_drawn_107 rfl (fun h => absurd h (by decide)) (fun _ => ?_)
      refine V_aload_n dX11_drawn_110 rfl ?_
      refine V_callV (As := []) (st := []) (a := 2) dX11_drawn_111 kX11_drawThrow lX11_237 (by decide) rfl rfl (Nat.le_of_ble_eq_true rfl) ⟨Nat.le_of_ble_eq_true rfl, Nat.le_of_ble_eq_true rfl⟩ ⟨Nat.le_of_ble_eq_true rfl, Nat.le_of_ble_eq_true rfl⟩ rfl ⟨rfl, by decide⟩ (c_drawThrow (la := l) (n := i) hL (by have := hnd_6 hp hq; omega) (p := (wk Rl Lf far j k (p, q, l, x) i).1) (q := (wk Rl Lf far j k (p, q, l, x) i).2.1) (l := (wk Rl Lf far j k (p, q, l, x) i).2.2.1) (x := (wk Rl Lf far j k (p, q, l, x) i).2.2.2) rfl rfl (wk_last (s := (p, q, l, x)) i) hk.1 hk.2.1 hk.2.2.1 (fun h => hi ((wk_who (s := (p, q, l, x)) hp hq hl hx6 hiN).mp h)) hx hk.2.2.2.1 hE1 rfl rfl rfl rfl) ?_
      rintro r sh' I2 J2 ⟨rfl, rfl, hL2, hx2, hE2, hF2⟩
      refine V_iincN (ls' := [(8, .int (nI (i + 1))), (0, .ref 2)]) (n := 1) dX11_drawn_114 rfl rfl (by decide) (by decide) rfl ?_
      refine V_goto (tgt := 89) dX11_drawn_117 rfl ?_
      refine V_sub2 (ls' := [(0, .ref 2), (8, .int (nI (i + 1)))]) (List.forall_mem_cons.mpr ⟨rfl, List.forall_mem_cons.mpr ⟨rfl, fun _ h => absurd h List.not_mem_nil⟩⟩) ?_
      exact ih (i + 1) I2 J2 (by omega) (by omega) hL2 hx2 hE2 (Fr5_t hF hF2)

set_option maxRecDepth 100000 in
set_option maxHeartbeats 4000000 in
theorem c_drawnY {G : zG} {I : zI} {J : zJ} {Lf : Nat → (Nat → Int32) → Int32} {Rl : Nat → Nat → (Nat → Int32) → Int32} {far : Nat} (hE : eA Lf Rl I J) (hf : I 2 0 = nI far) (h6 : 6 ≤ far) (h10 : far ≤ 10) {c0 : Nat} {cc : Nat → Nat} (hC : cC I c0 cc) {j k code other : Int32} (hj : ply cc j) (hk : ply cc k) {p q l x : Nat} (hp : zpl code = some p) (hq : zpl other = some q) (hp56 : p < 56) (hq56 : q < 56) (hl1 : l ≤ 1) (hx : I 2 1 = nI x) (hx6 : x < 65536) : zK G mX11_drawn 19 [.ref 2, .int j, .int k, .int code, .int other, .int (nI l)] zsh I J (zP (fun r I' J' => r = some (.int (sPts (wk Rl Lf far j k (p, q, l, x) (hnd p q)).1 (wk Rl Lf far j k (p, q, l, x) (hnd p q)).2.1)) ∧ lgX I' (hnd p q) l (fun i => wkT Rl Lf far j k (wk Rl Lf far j k (p, q, l, x) i)) (fun i => sWho (wk Rl Lf far j k (p, q, l, x) i).1 (wk Rl Lf far j k (p, q, l, x) i).2.1 (wk Rl Lf far j k (p, q, l, x) i).2.2.1) (fun i => (wk Rl Lf far j k (p, q, l, x) i).1) (fun i => (wk Rl Lf far j k (p, q, l, x) i).2.1) ∧ I' 2 1 = nI (wk Rl Lf far j k (p, q, l, x) (hnd p q)).2.2.2 ∧ eA Lf Rl I' J' ∧ Fr5 I J I' J')) := by
  refine zK_of kX11_drawn.2.2.2.2.1 (Nat.le_of_ble_eq_true rfl) ?_
  show V G mX11_drawn 19 _ 0 [(0, .ref 2), (1, .int j), (2, .int k), (3, .int code), (4, .int other), (5, .int (nI l))] [] (0, 0) zsh I J
  refine V_aload_n dX11_drawn_0 rfl ?_
  refine V_getR (b := 10) dX11_drawn_1 fX11_41 ⟨Nat.le_of_ble_eq_true rfl, Nat.le_of_ble_eq_true rfl⟩ rfl rfl rfl ?_
  refine V_iload_n dX11_drawn_4 rfl ?_
  refine V_callV (As := [.int code]) (st := []) (a := 10) dX11_drawn_5 kX2_placeOf lX11_146 (by decide) rfl rfl (Nat.le_of_ble_eq_true rfl) ⟨Nat.le_of_ble_eq_true rfl, Nat.le_of_ble_eq_true rfl⟩ ⟨Nat.le_of_ble_eq_true rfl, Nat.le_of_ble_eq_true rfl⟩ rfl ⟨rfl, by decide⟩ (c_placeS hp) ?_
  rintro _ _ _ _ ⟨rfl, rfl, rfl, rfl⟩
  refine V_istore (ls' := [(6, .int (nI p)), (0, .ref 2), (1, .int j), (2, .int k), (3, .int code), (4, .int other), (5, .int (nI l))]) dX11_drawn_8 (by decide) rfl ?_
  refine V_aload_n dX11_drawn_10 rfl ?_
  refine V_getR (b := 10) dX11_drawn_11 fX11_41 ⟨Nat.le_of_ble_eq_true rfl, Nat.le_of_ble_eq_true rfl⟩ rfl rfl rfl ?_
  refine V_iload dX11_drawn_14 rfl ?_
  refine V_callV (As := [.int other]) (st := []) (a := 10) dX11_drawn_16 kX2_placeOf lX11_146 (by decide) rfl rfl (Nat.le_of_ble_eq_true rfl) ⟨Nat.le_of_ble_eq_true rfl, Nat.le_of_ble_eq_true rfl⟩ ⟨Nat.le_of_ble_eq_true rfl, Nat.le_of_ble_eq_true rfl⟩ rfl ⟨rfl, by decide⟩ (c_placeS hq) ?_
  rintro _ _ _ _ ⟨rfl, rfl, rfl, rfl⟩
  refine V_istore (ls' := [(7, .int (nI q)), (6, .int (nI p)), (0, .ref 2), (1, .int j), (2, .int k), (3, .int code), (4, .int other), (5, .int (nI l))]) dX11_drawn_19 (by decide) rfl ?_
  refine V_aload_n dX11_drawn_21 rfl ?_
  refine V_iload_n dX11_drawn_22 rfl ?_
  refine V_callV (As := [.int j]) (st := []) (a := 2) dX11_drawn_23 kX11_canPlayBy lX11_205 (by decide) rfl rfl (Nat.le_of_ble_eq_true rfl) ⟨Nat.le_of_ble_eq_true rfl, Nat.le_of_ble_eq_true rfl⟩ ⟨Nat.le_of_ble_eq_true rfl, Nat.le_of_ble_eq_true rfl⟩ rfl ⟨rfl, by decide⟩ (q_y (q_canPlayBy hC) hj) ?_
  rintro _ _ _ _ ⟨rfl, rfl, rfl, rfl⟩
  refine V_if_eq (tgt := 50) dX11_drawn_26 rfl (fun h => absurd h (by decide)) (fun _ => ?_)
  refine V_aload_n dX11_drawn_29 rfl ?_
  refine V_iload_n dX11_drawn_30 rfl ?_
  refine V_callV (As := [.int k]) (st := []) (a := 2) dX11_drawn_31 kX11_canPlayBy lX11_205 (by decide) rfl rfl (Nat.le_of_ble_eq_true rfl) ⟨Nat.le_of_ble_eq_true rfl, Nat.le_of_ble_eq_true rfl⟩ ⟨Nat.le_of_ble_eq_true rfl, Nat.le_of_ble_eq_true rfl⟩ rfl ⟨rfl, by decide⟩ (q_y (q_canPlayBy hC) hk) ?_
  rintro _ _ _ _ ⟨rfl, rfl, rfl, rfl⟩
  refine V_if_eq (tgt := 50) dX11_drawn_34 rfl (fun h => absurd h (by decide)) (fun _ => ?_)
  refine V_aload_n dX11_drawn_37 rfl ?_
  refine V_iload dX11_drawn_38 rfl ?_
  refine V_iload dX11_drawn_40 rfl ?_
  refine V_iload dX11_drawn_42 rfl ?_
  refine V_callV (As := [.int (nI p), .int (nI q), .int (nI l)]) (st := []) (a := 2) dX11_drawn_44 kX11_isState lX11_152 (by decide) rfl rfl (Nat.le_of_ble_eq_true rfl) ⟨Nat.le_of_ble_eq_true rfl, Nat.le_of_ble_eq_true rfl⟩ ⟨Nat.le_of_ble_eq_true rfl, Nat.le_of_ble_eq_true rfl⟩ rfl ⟨rfl, by decide⟩ (c_isStateY hp56 hq56 hl1) ?_
  rintro _ _ _ _ ⟨rfl, rfl, rfl, rfl⟩
  refine V_if_ne (tgt := 53) dX11_drawn_47 rfl (fun _ => ?_) (fun h => absurd h (by decide))
  refine V_aload_n dX11_drawn_53 rfl ?_
  refine V_getR (b := 9) dX11_drawn_54 fX11_33 ⟨Nat.le_of_ble_eq_true rfl, Nat.le_of_ble_eq_true rfl⟩ rfl rfl rfl ?_
  refine V_aload_n dX11_drawn_57 rfl ?_
  refine V_getI dX11_drawn_58 fX11_7 ⟨Nat.le_of_ble_eq_true rfl, Nat.le_of_ble_eq_true rfl⟩ rfl rfl ?_
  refine V_eqI (y := nI far) hf ?_
  refine V_callV (As := [.int (nI far)]) (st := []) (a := 9) dX11_drawn_61 kX3_standAt lX11_167 (by decide) rfl rfl (Nat.le_of_ble_eq_true rfl) ⟨Nat.le_of_ble_eq_true rfl, Nat.le_of_ble_eq_true rfl⟩ ⟨Nat.le_of_ble_eq_true rfl, Nat.le_of_ble_eq_true rfl⟩ rfl ⟨rfl, by decide⟩ (c_standA h10 hE) ?_
  rintro r sh' I1 J1 ⟨rfl, rfl, hE1, hF1, hJ1⟩
  refine V_aload_n dX11_drawn_64 rfl ?_
  refine V_getR (b := 9) dX11_drawn_65 fX11_33 ⟨Nat.le_of_ble_eq_true rfl, Nat.le_of_ble_eq_true rfl⟩ rfl rfl rfl ?_
  refine V_iload_n dX11_drawn_68 rfl ?_
  refine V_iload_n dX11_drawn_69 rfl ?_
  refine V_callV (As := [.int j, .int k]) (st := []) (a := 9) dX11_drawn_70 kX3_aimBy lX11_179 (by decide) rfl rfl (Nat.le_of_ble_eq_true rfl) ⟨Nat.le_of_ble_eq_true rfl, Nat.le_of_ble_eq_true rfl⟩ ⟨Nat.le_of_ble_eq_true rfl, Nat.le_of_ble_eq_true rfl⟩ rfl ⟨rfl, by decide⟩ (c_aimA hE1) ?_
  rintro r sh' I2 J2 ⟨rfl, rfl, hE2, hF2⟩
  have hF12 := Fr2_t hF1 hF2
  refine V_aload_n dX11_drawn_73 rfl ?_
  refine V_getR (b := 36) dX11_drawn_74 fX11_64 ⟨Nat.le_of_ble_eq_true rfl, Nat.le_of_ble_eq_true rfl⟩ rfl rfl rfl ?_
  refine V_iload dX11_drawn_77 rfl ?_
  refine V_iload dX11_drawn_79 rfl ?_
  refine V_iload dX11_drawn_81 rfl ?_
  refine V_callV (As := [.int (nI p), .int (nI q), .int (nI l)]) (st := []) (a := 36) dX11_drawn_83 kX6_begin lX11_229 (by decide) rfl rfl (Nat.le_of_ble_eq_true rfl) ⟨Nat.le_of_ble_eq_true rfl, Nat.le_of_ble_eq_true rfl⟩ ⟨Nat.le_of_ble_eq_true rfl, Nat.le_of_ble_eq_true rfl⟩ rfl ⟨rfl, by decide⟩ c_begin ?_
  rintro r sh' I' J' ⟨rfl, rfl, rfl, rfl⟩
  refine V_iconst (v := nI 0) dX11_drawn_86 rfl ?_
  refine V_istore (ls' := [(8, .int (nI 0)), (7, .int (nI q)), (6, .int (nI p)), (0, .ref 2), (1, .int j), (2, .int k), (3, .int code), (4, .int other), (5, .int (nI l))]) dX11_drawn_87 (by decide) rfl ?_
  refine V_sub2 (ls' := [(0, .ref 2), (8, .int (nI 0))]) (List.forall_mem_cons.mpr ⟨rfl, List.forall_mem_cons.mpr ⟨rfl, fun _ h => absurd h List.not_mem_nil⟩⟩) ?_
  refine zQ_mono ?_ (lp_drawn (I := I) (J := J) (Lf := Lf) (Rl := Rl) (far := far) (j := j) (k := k) (p := p) (q := q) (l := l) (x := x) hp56 hq56 hl1 hx6 6 0 (lbeg I2 p q l) J2 rfl (Nat.zero_le _) ?_ ?_ (eKA_c hE2 (fun a a9 a30 => ?_)) ?_)
  · rintro r sh' I' J' ⟨rfl, h1, h2, h3, h4, h5⟩
    exact ⟨rfl, h1, h2, h3, eAf_A (eKA_f h4) h10, h5⟩
  · unfold lbeg
    refine ⟨?_, Nat.zero_le _, ?_, hl1, fun k hk => absurd hk (Nat.not_lt_zero _), fun k hk => ?_⟩
    · simp [zwr_at]
    · simp [zwr_at]
    · have : k = 0 := Nat.le_zero.mp hk
      subst this
      simp [zwr_at, wk]
      omega
  · unfold lbeg
    exact (congrFun ((zup_n (by decide)).trans ((zup_n (by decide)).trans ((zup_n (by decide)).trans (zup_n (by decide))))) 1).trans ((congrFun (hF12.1 2 (by decide) (by decide) (by decide) (by decide) (by decide)) 1).trans hx)
  · unfold lbeg
    exact (zup_n (by omega)).trans ((zup_n (by omega)).trans ((zup_n (by omega)).trans (zup_n (by omega))))
  · refine Fr5_t (Fr2_5 hF12) ⟨fun a _ _ _ _ _ _ a36 a37 a38 a39 a40 => ?_, fun j _ => ?_, fun _ _ _ _ => rfl⟩
    · unfold lbeg
      exact (zup_n a40).trans ((zup_n a39).trans ((zup_n a36).trans (zup_n a36)))
    · unfold lbeg
      exact congrFun ((zup_n (by decide)).trans ((zup_n (by decide)).trans ((zup_n (by decide)).trans (zup_n (by decide))))) j

set_option maxRecDepth 100000 in
set_option maxHeartbeats 4000000 in
theorem c_drawnN {G : zG} {I : zI} {J : zJ} {c0 : Nat} {cc : Nat → Nat} (hC : cC I c0 cc) {j k code other last : Int32} (hN : ¬ (ply cc j ∧ ply cc k ∧ (stO code other last).isSome = true)) : zK G mX11_drawn 3 [.ref 2, .int j, .int k, .int code, .int other, .int last] zsh I J (zA0 (.int (-100)) I J) := by
  refine zK_of kX11_drawn.2.2.2.2.1 (Nat.le_of_ble_eq_true rfl) ?_
  show V G mX11_drawn 3 _ 0 [(0, .ref 2), (1, .int j), (2, .int k), (3, .int code), (4, .int other), (5, .int last)] [] (0, 0) zsh I J
  by_cases hj : ply cc j
  · by_cases hk : ply cc k
    · have hsn : (pen (zpl code)).toInt < 0 ∨ (pen (zpl other)).toInt < 0 ∨ ¬ inZ last 0 1 := stO_n (by
        cases h : stO code other last with
        | none => rfl
        | some v => exact absurd ⟨hj, hk, by rw [h]; rfl⟩ hN)
      refine V_aload_n dX11_drawn_0 rfl ?_
      refine V_getR (b := 10) dX11_drawn_1 fX11_41 ⟨Nat.le_of_ble_eq_true rfl, Nat.le_of_ble_eq_true rfl⟩ rfl rfl rfl ?_
      refine V_iload_n dX11_drawn_4 rfl ?_
      refine V_callV (As := [.int code]) (st := []) (a := 10) dX11_drawn_5 kX2_placeOf lX11_146 (by decide) rfl rfl (Nat.le_of_ble_eq_true rfl) ⟨Nat.le_of_ble_eq_true rfl, Nat.le_of_ble_eq_true rfl⟩ ⟨Nat.le_of_ble_eq_true rfl, Nat.le_of_ble_eq_true rfl⟩ rfl ⟨rfl, by decide⟩ c_placeOf2 ?_
      rintro _ _ _ _ ⟨rfl, rfl, rfl, rfl⟩
      refine V_istore (ls' := [(6, .int (pen (zpl code))), (0, .ref 2), (1, .int j), (2, .int k), (3, .int code), (4, .int other), (5, .int last)]) dX11_drawn_8 (by decide) rfl ?_
      refine V_aload_n dX11_drawn_10 rfl ?_
      refine V_getR (b := 10) dX11_drawn_11 fX11_41 ⟨Nat.le_of_ble_eq_true rfl, Nat.le_of_ble_eq_true rfl⟩ rfl rfl rfl ?_
      refine V_iload dX11_drawn_14 rfl ?_
      refine V_callV (As := [.int other]) (st := []) (a := 10) dX11_drawn_16 kX2_placeOf lX11_146 (by decide) rfl rfl (Nat.le_of_ble_eq_true rfl) ⟨Nat.le_of_ble_eq_true rfl, Nat.le_of_ble_eq_true rfl⟩ ⟨Nat.le_of_ble_eq_true rfl, Nat.le_of_ble_eq_true rfl⟩ rfl ⟨rfl, by decide⟩ c_placeOf2 ?_
      rintro _ _ _ _ ⟨rfl, rfl, rfl, rfl⟩
      refine V_istore (ls' := [(7, .int (pen (zpl other))), (6, .int (pen (zpl code))), (0, .ref 2), (1, .int j), (2, .int k), (3, .int code), (4, .int other), (5, .int last)]) dX11_drawn_19 (by decide) rfl ?_
      refine V_aload_n dX11_drawn_21 rfl ?_
      refine V_iload_n dX11_drawn_22 rfl ?_
      refine V_callV (As := [.int j]) (st := []) (a := 2) dX11_drawn_23 kX11_canPlayBy lX11_205 (by decide) rfl rfl (Nat.le_of_ble_eq_true rfl) ⟨Nat.le_of_ble_eq_true rfl, Nat.le_of_ble_eq_true rfl⟩ ⟨Nat.le_of_ble_eq_true rfl, Nat.le_of_ble_eq_true rfl⟩ rfl ⟨rfl, by decide⟩ (q_y (q_canPlayBy hC) hj) ?_
      rintro _ _ _ _ ⟨rfl, rfl, rfl, rfl⟩
      refine V_if_eq (tgt := 50) dX11_drawn_26 rfl (fun h => absurd h (by decide)) (fun _ => ?_)
      refine V_aload_n dX11_drawn_29 rfl ?_
      refine V_iload_n dX11_drawn_30 rfl ?_
      refine V_callV (As := [.int k]) (st := []) (a := 2) dX11_drawn_31 kX11_canPlayBy lX11_205 (by decide) rfl rfl (Nat.le_of_ble_eq_true rfl) ⟨Nat.le_of_ble_eq_true rfl, Nat.le_of_ble_eq_true rfl⟩ ⟨Nat.le_of_ble_eq_true rfl, Nat.le_of_ble_eq_true rfl⟩ rfl ⟨rfl, by decide⟩ (q_y (q_canPlayBy hC) hk) ?_
      rintro _ _ _ _ ⟨rfl, rfl, rfl, rfl⟩
      refine V_if_eq (tgt := 50) dX11_drawn_34 rfl (fun h => absurd h (by decide)) (fun _ => ?_)
      refine V_aload_n dX11_drawn_37 rfl ?_
      refine V_iload dX11_drawn_38 rfl ?_
      refine V_iload dX11_drawn_40 rfl ?_
      refine V_iload dX11_drawn_42 rfl ?_
      refine V_callV (As := [.int (pen (zpl code)), .int (pen (zpl other)), .int last]) (st := []) (a := 2) dX11_drawn_44 kX11_isState lX11_152 (by decide) rfl rfl (Nat.le_of_ble_eq_true rfl) ⟨Nat.le_of_ble_eq_true rfl, Nat.le_of_ble_eq_true rfl⟩ ⟨Nat.le_of_ble_eq_true rfl, Nat.le_of_ble_eq_true rfl⟩ rfl ⟨rfl, by decide⟩ (c_isStateN hsn) ?_
      rintro _ _ _ _ ⟨rfl, rfl, rfl, rfl⟩
      refine V_if_ne (tgt := 53) dX11_drawn_47 rfl (fun h => absurd h (by decide)) (fun _ => ?_)
      refine V_bipush (v := (-100)) dX11_drawn_50 rfl ?_
      exact V_iret ⟨Or.inl rfl, dX11_drawn_52⟩ ⟨Nat.le_of_ble_eq_true rfl, Nat.le_of_ble_eq_true rfl⟩ ⟨rfl, rfl, rfl, rfl⟩
    · skip
      refine V_aload_n dX11_drawn_0 rfl ?_
      refine V_getR (b := 10) dX11_drawn_1 fX11_41 ⟨Nat.le_of_ble_eq_true rfl, Nat.le_of_ble_eq_true rfl⟩ rfl rfl rfl ?_
      refine V_iload_n dX11_drawn_4 rfl ?_
      refine V_callV (As := [.int code]) (st := []) (a := 10) dX11_drawn_5 kX2_placeOf lX11_146 (by decide) rfl rfl (Nat.le_of_ble_eq_true rfl) ⟨Nat.le_of_ble_eq_true rfl, Nat.le_of_ble_eq_true rfl⟩ ⟨Nat.le_of_ble_eq_true rfl, Nat.le_of_ble_eq_true rfl⟩ rfl ⟨rfl, by decide⟩ c_placeOf2 ?_
      rintro _ _ _ _ ⟨rfl, rfl, rfl, rfl⟩
      refine V_istore (ls' := [(6, .int (pen (zpl code))), (0, .ref 2), (1, .int j), (2, .int k), (3, .int code), (4, .int other), (5, .int last)]) dX11_drawn_8 (by decide) rfl ?_
      refine V_aload_n dX11_drawn_10 rfl ?_
      refine V_getR (b := 10) dX11_drawn_11 fX11_41 ⟨Nat.le_of_ble_eq_true rfl, Nat.le_of_ble_eq_true rfl⟩ rfl rfl rfl ?_
      refine V_iload dX11_drawn_14 rfl ?_
      refine V_callV (As := [.int other]) (st := []) (a := 10) dX11_drawn_16 kX2_placeOf lX11_146 (by decide) rfl rfl (Nat.le_of_ble_eq_true rfl) ⟨Nat.le_of_ble_eq_true rfl, Nat.le_of_ble_eq_true rfl⟩ ⟨Nat.le_of_ble_eq_true rfl, Nat.le_of_ble_eq_true rfl⟩ rfl ⟨rfl, by decide⟩ c_placeOf2 ?_
      rintro _ _ _ _ ⟨rfl, rfl, rfl, rfl⟩
      refine V_istore (ls' := [(7, .int (pen (zpl other))), (6, .int (pen (zpl code))), (0, .ref 2), (1, .int j), (2, .int k), (3, .int code), (4, .int other), (5, .int last)]) dX11_drawn_19 (by decide) rfl ?_
      refine V_aload_n dX11_drawn_21 rfl ?_
      refine V_iload_n dX11_drawn_22 rfl ?_
      refine V_callV (As := [.int j]) (st := []) (a := 2) dX11_drawn_23 kX11_canPlayBy lX11_205 (by decide) rfl rfl (Nat.le_of_ble_eq_true rfl) ⟨Nat.le_of_ble_eq_true rfl, Nat.le_of_ble_eq_true rfl⟩ ⟨Nat.le_of_ble_eq_true rfl, Nat.le_of_ble_eq_true rfl⟩ rfl ⟨rfl, by decide⟩ (q_y (q_canPlayBy hC) hj) ?_
      rintro _ _ _ _ ⟨rfl, rfl, rfl, rfl⟩
      refine V_if_eq (tgt := 50) dX11_drawn_26 rfl (fun h => absurd h (by decide)) (fun _ => ?_)
      refine V_aload_n dX11_drawn_29 rfl ?_
      refine V_iload_n dX11_drawn_30 rfl ?_
      refine V_callV (As := [.int k]) (st := []) (a := 2) dX11_drawn_31 kX11_canPlayBy lX11_205 (by decide) rfl rfl (Nat.le_of_ble_eq_true rfl) ⟨Nat.le_of_ble_eq_true rfl, Nat.le_of_ble_eq_true rfl⟩ ⟨Nat.le_of_ble_eq_true rfl, Nat.le_of_ble_eq_true rfl⟩ rfl ⟨rfl, by decide⟩ (q_n (q_canPlayBy hC) hk) ?_
      rintro _ _ _ _ ⟨rfl, rfl, rfl, rfl⟩
      refine V_if_eq (tgt := 50) dX11_drawn_34 rfl (fun _ => ?_) (fun h => absurd h (by decide))
      refine V_bipush (v := (-100)) dX11_drawn_50 rfl ?_
      exact V_iret ⟨Or.inl rfl, dX11_drawn_52⟩ ⟨Nat.le_of_ble_eq_true rfl, Nat.le_of_ble_eq_true rfl⟩ ⟨rfl, rfl, rfl, rfl⟩
  · skip
    refine V_aload_n dX11_drawn_0 rfl ?_
    refine V_getR (b := 10) dX11_drawn_1 fX11_41 ⟨Nat.le_of_ble_eq_true rfl, Nat.le_of_ble_eq_true rfl⟩ rfl rfl rfl ?_
    refine V_iload_n dX11_drawn_4 rfl ?_
    refine V_callV (As := [.int code]) (st := []) (a := 10) dX11_drawn_5 kX2_placeOf lX11_146 (by decide) rfl rfl (Nat.le_of_ble_eq_true rfl) ⟨Nat.le_of_ble_eq_true rfl, Nat.le_of_ble_eq_true rfl⟩ ⟨Nat.le_of_ble_eq_true rfl, Nat.le_of_ble_eq_true rfl⟩ rfl ⟨rfl, by decide⟩ c_placeOf2 ?_
    rintro _ _ _ _ ⟨rfl, rfl, rfl, rfl⟩
    refine V_istore (ls' := [(6, .int (pen (zpl code))), (0, .ref 2), (1, .int j), (2, .int k), (3, .int code), (4, .int other), (5, .int last)]) dX11_drawn_8 (by decide) rfl ?_
    refine V_aload_n dX11_drawn_10 rfl ?_
    refine V_getR (b := 10) dX11_drawn_11 fX11_41 ⟨Nat.le_of_ble_eq_true rfl, Nat.le_of_ble_eq_true rfl⟩ rfl rfl rfl ?_
    refine V_iload dX11_drawn_14 rfl ?_
    refine V_callV (As := [.int other]) (st := []) (a := 10) dX11_drawn_16 kX2_placeOf lX11_146 (by decide) rfl rfl (Nat.le_of_ble_eq_true rfl) ⟨Nat.le_of_ble_eq_true rfl, Nat.le_of_ble_eq_true rfl⟩ ⟨Nat.le_of_ble_eq_true rfl, Nat.le_of_ble_eq_true rfl⟩ rfl ⟨rfl, by decide⟩ c_placeOf2 ?_
    rintro _ _ _ _ ⟨rfl, rfl, rfl, rfl⟩
    refine V_istore (ls' := [(7, .int (pen (zpl other))), (6, .int (pen (zpl code))), (0, .ref 2), (1, .int j), (2, .int k), (3, .int code), (4, .int other), (5, .int last)]) dX11_drawn_19 (by decide) rfl ?_
    refine V_aload_n dX11_drawn_21 rfl ?_
    refine V_iload_n dX11_drawn_22 rfl ?_
    refine V_callV (As := [.int j]) (st := []) (a := 2) dX11_drawn_23 kX11_canPlayBy lX11_205 (by decide) rfl rfl (Nat.le_of_ble_eq_true rfl) ⟨Nat.le_of_ble_eq_true rfl, Nat.le_of_ble_eq_true rfl⟩ ⟨Nat.le_of_ble_eq_true rfl, Nat.le_of_ble_eq_true rfl⟩ rfl ⟨rfl, by decide⟩ (q_n (q_canPlayBy hC) hj) ?_
    rintro _ _ _ _ ⟨rfl, rfl, rfl, rfl⟩
    refine V_if_eq (tgt := 50) dX11_drawn_26 rfl (fun _ => ?_) (fun h => absurd h (by decide))
    refine V_bipush (v := (-100)) dX11_drawn_50 rfl ?_
    exact V_iret ⟨Or.inl rfl, dX11_drawn_52⟩ ⟨Nat.le_of_ble_eq_true rfl, Nat.le_of_ble_eq_true rfl⟩ ⟨rfl, rfl, rfl, rfl⟩

def l100 : Nat → Int64 → Int64
  | 0, x => x
  | i + 1, x => l100 i (x * 100)
/-- what stands in a log of throws that were made -/
def lgM (n la : Nat) (th sd c0 c1 : Nat → Nat) : Prop := ∀ i, i < n → c0 i < 56 ∧ c1 i < 56 ∧ sLast la sd i ≤ 1 ∧ ¬ sWho (c0 i) (c1 i) (sLast la sd i) = 2 ∧ sd i = sWho (c0 i) (c1 i) (sLast la sd i) ∧ (th i = 1 ∨ th i = 2 ∧ sCan (c0 i) (c1 i) (sd i) = true)
/-- what the throw behind i others lost -/
def wrU (Lf : Nat → (Nat → Int32) → Int32) (far la : Nat) (th sd c0 c1 : Nat → Nat) (i : Nat) : Int64 := l100 i (lossX 1 (-1) (-1) (fun _ _ _ => 0) Lf far (c0 i) (c1 i) (sLast la sd i) (th i))
/-- the first that lost most, from one on -/
def wrL (u : Nat → Int64) : Nat → Nat → Nat → Int64 → Nat × Int64
  | 0, _, w, x => (w, x)
  | m + 1, i, w, x => if x < u i then wrL u m (i + 1) i (u i) else wrL u m (i + 1) w x
set_option maxRecDepth 100000 in
set_option maxHeartbeats 4000000 in
theorem lp_lossIn {G : zG} {I : zI} {J : zJ} {i : Nat} (hi : i < 100) : ∀ m c x, c + m = i → V G mX11_lossIn 19 (zA0 (.long (l100 m x)) I J) 43 [(0, .ref 2), (1, .int (nI i)), (2, .long x), (4, .int (nI c))] [] (0, 0) zsh I J := by
  intro m
  induction m with
  | zero =>
    intro c x hc
    refine V_iload dX11_lossIn_43 rfl ?_
    refine V_iload_n dX11_lossIn_45 rfl ?_
    refine V_icmp_geN (tgt := 61) dX11_lossIn_46 rfl (by omega) (by omega) (fun _ => ?_) (fun h => absurd h (by omega))
    refine V_lload_n dX11_lossIn_61 rfl ?_
    exact V_lret ⟨rfl, dX11_lossIn_62⟩ ⟨Nat.le_of_ble_eq_true rfl, Nat.le_of_ble_eq_true rfl⟩ ⟨rfl, rfl, rfl, rfl⟩
  | succ m ih =>
    intro c x hc
    refine V_iload dX11_lossIn_43 rfl ?_
    refine V_iload_n dX11_lossIn_45 rfl ?_
    refine V_icmp_geN (tgt := 61) dX11_lossIn_46 rfl (by omega) (by omega) (fun h => absurd h (by omega)) (fun _ => ?_)
    refine V_lload_n dX11_lossIn_49 rfl ?_
    refine V_ldc2 dX11_lossIn_50 qX11_412 ?_
    refine V_lmul dX11_lossIn_53 ?_
    refine V_lstore_n (ls' := [(2, .long (x * 100)), (0, .ref 2), (1, .int (nI i)), (4, .int (nI c))]) dX11_lossIn_54 (by decide) rfl ?_
    refine V_iincN (ls' := [(4, .int (nI (c + 1))), (2, .long (x * 100)), (0, .ref 2), (1, .int (nI i))]) (n := 1) dX11_lossIn_55 rfl rfl (by decide) (by decide) rfl ?_
    refine V_goto (tgt := 43) dX11_lossIn_58 rfl ?_
    refine V_sub2 (ls' := [(0, .ref 2), (1, .int (nI i)), (2, .long (x * 100)), (4, .int (nI (c + 1)))]) (List.forall_mem_cons.mpr ⟨rfl, List.forall_mem_cons.mpr ⟨rfl, List.forall_mem_cons.mpr ⟨rfl, List.forall_mem_cons.mpr ⟨rfl, fun _ h => absurd h List.not_mem_nil⟩⟩⟩⟩) ?_
    exact ih (c + 1) _ (by omega)

theorem lossX_R {Rl Rl2 : Nat → Nat → (Nat → Int32) → Int32} {Lf : Nat → (Nat → Int32) → Int32} {far p q l t : Nat} : lossX 1 (-1) (-1) Rl Lf far p q l t = lossX 1 (-1) (-1) Rl2 Lf far p q l t := by
  have e : wX 1 (-1) (-1) Rl Lf far p q l t = wX 1 (-1) (-1) Rl2 Lf far p q l t := by
    unfold wX
    congr 1
    funext a b l
    rw [sV_nn (Rl2 := Rl2) (bt2 := btV Lf far)]
  unfold lossX
  rw [e, vX_nn (Rl2 := Rl2)]
set_option maxRecDepth 100000 in
set_option maxHeartbeats 4000000 in
theorem c_lossIn {G : zG} {I : zI} {J : zJ} {n la : Nat} {th sd c0 c1 : Nat → Nat} (hL : lgX I n la th sd c0 c1) (hM : lgM n la th sd c0 c1) {Lf : Nat → (Nat → Int32) → Int32} {Rl : Nat → Nat → (Nat → Int32) → Int32} {far : Nat} (hE : eKA Lf Rl far 1 (-1) (-1) I J) {i : Nat} (hi : i < n) : zK G mX11_lossIn 19 [.ref 2, .int (nI i)] zsh I J (zP (fun r I' J' => r = some (.long (wrU Lf far la th sd c0 c1 i)) ∧ eKA Lf Rl far 1 (-1) (-1) I' J' ∧ Fr2 I J I' J')) := by
  refine zK_of kX11_lossIn.2.2.2.2.1 (Nat.le_of_ble_eq_true rfl) ?_
  show V G mX11_lossIn 19 _ 0 [(0, .ref 2), (1, .int (nI i))] [] (0, 0) zsh I J
  obtain ⟨m1, m2, m3, m4, m5, m6⟩ := hM i hi
  have hn6 := hL.2.1
  rcases (show th i = 1 ∨ th i = 2 by rcases m6 with h | h; exact Or.inl h; exact Or.inr h.1) with ht | ht
  · skip
    refine V_aload_n dX11_lossIn_0 rfl ?_
    refine V_getR (b := 9) dX11_lossIn_1 fX11_33 ⟨Nat.le_of_ble_eq_true rfl, Nat.le_of_ble_eq_true rfl⟩ rfl rfl rfl ?_
    refine V_aload_n dX11_lossIn_4 rfl ?_
    refine V_getR (b := 36) dX11_lossIn_5 fX11_64 ⟨Nat.le_of_ble_eq_true rfl, Nat.le_of_ble_eq_true rfl⟩ rfl rfl rfl ?_
    refine V_iload_n dX11_lossIn_8 rfl ?_
    refine V_callV (As := [.int (nI i)]) (st := [.ref 9]) (a := 36) dX11_lossIn_9 kX6_codeOf0 lX11_397 (by decide) rfl rfl (Nat.le_of_ble_eq_true rfl) ⟨Nat.le_of_ble_eq_true rfl, Nat.le_of_ble_eq_true rfl⟩ ⟨Nat.le_of_ble_eq_true rfl, Nat.le_of_ble_eq_true rfl⟩ rfl ⟨rfl, by decide⟩ (c_codeOf0 hL (by omega)) ?_
    rintro _ _ _ _ ⟨rfl, rfl, rfl, rfl⟩
    refine V_aload_n dX11_lossIn_12 rfl ?_
    refine V_getR (b := 36) dX11_lossIn_13 fX11_64 ⟨Nat.le_of_ble_eq_true rfl, Nat.le_of_ble_eq_true rfl⟩ rfl rfl rfl ?_
    refine V_iload_n dX11_lossIn_16 rfl ?_
    refine V_callV (As := [.int (nI i)]) (st := [.int (nI (c0 i)), .ref 9]) (a := 36) dX11_lossIn_17 kX6_codeOf1 lX11_400 (by decide) rfl rfl (Nat.le_of_ble_eq_true rfl) ⟨Nat.le_of_ble_eq_true rfl, Nat.le_of_ble_eq_true rfl⟩ ⟨Nat.le_of_ble_eq_true rfl, Nat.le_of_ble_eq_true rfl⟩ rfl ⟨rfl, by decide⟩ (c_codeOf1 hL (by omega)) ?_
    rintro _ _ _ _ ⟨rfl, rfl, rfl, rfl⟩
    refine V_aload_n dX11_lossIn_20 rfl ?_
    refine V_getR (b := 36) dX11_lossIn_21 fX11_64 ⟨Nat.le_of_ble_eq_true rfl, Nat.le_of_ble_eq_true rfl⟩ rfl rfl rfl ?_
    refine V_iload_n dX11_lossIn_24 rfl ?_
    refine V_callV (As := [.int (nI i)]) (st := [.int (nI (c1 i)), .int (nI (c0 i)), .ref 9]) (a := 36) dX11_lossIn_25 kX6_lastAhead lX11_403 (by decide) rfl rfl (Nat.le_of_ble_eq_true rfl) ⟨Nat.le_of_ble_eq_true rfl, Nat.le_of_ble_eq_true rfl⟩ ⟨Nat.le_of_ble_eq_true rfl, Nat.le_of_ble_eq_true rfl⟩ rfl ⟨rfl, by decide⟩ (c_lastAhead hL (by omega)) ?_
    rintro _ _ _ _ ⟨rfl, rfl, rfl, rfl⟩
    refine V_aload_n dX11_lossIn_28 rfl ?_
    refine V_getR (b := 36) dX11_lossIn_29 fX11_64 ⟨Nat.le_of_ble_eq_true rfl, Nat.le_of_ble_eq_true rfl⟩ rfl rfl rfl ?_
    refine V_iload_n dX11_lossIn_32 rfl ?_
    refine V_callV (As := [.int (nI i)]) (st := [.int (nI (sLast la sd i)), .int (nI (c1 i)), .int (nI (c0 i)), .ref 9]) (a := 36) dX11_lossIn_33 kX6_throwOf lX11_406 (by decide) rfl rfl (Nat.le_of_ble_eq_true rfl) ⟨Nat.le_of_ble_eq_true rfl, Nat.le_of_ble_eq_true rfl⟩ ⟨Nat.le_of_ble_eq_true rfl, Nat.le_of_ble_eq_true rfl⟩ rfl ⟨rfl, by decide⟩ (c_throwOf hL hi) ?_
    rintro _ _ _ _ ⟨rfl, rfl, rfl, rfl⟩
    refine V_eqI (y := nI 1) (by rw [ht]) ?_
    refine V_callV (As := [.int (nI (c0 i)), .int (nI (c1 i)), .int (nI (sLast la sd i)), .int (nI 1)]) (st := []) (a := 9) dX11_lossIn_36 kX3_lossBy lX11_409 (by decide) rfl rfl (Nat.le_of_ble_eq_true rfl) ⟨Nat.le_of_ble_eq_true rfl, Nat.le_of_ble_eq_true rfl⟩ ⟨Nat.le_of_ble_eq_true rfl, Nat.le_of_ble_eq_true rfl⟩ rfl ⟨rfl, by decide⟩ (c_lossBy1 m1 m2 m3 hE (by decide)) ?_
    rintro r sh' I1 J1 ⟨rfl, rfl, hE1, hF1⟩
    refine V_lstore_n (ls' := [(2, .long (lossX 1 (-1) (-1) Rl Lf far (c0 i) (c1 i) (sLast la sd i) 1)), (0, .ref 2), (1, .int (nI i))]) dX11_lossIn_39 (by decide) rfl ?_
    refine V_iconst (v := nI 0) dX11_lossIn_40 rfl ?_
    refine V_istore (ls' := [(4, .int (nI 0)), (2, .long (lossX 1 (-1) (-1) Rl Lf far (c0 i) (c1 i) (sLast la sd i) 1)), (0, .ref 2), (1, .int (nI i))]) dX11_lossIn_41 (by decide) rfl ?_
    refine V_sub2 (ls' := [(0, .ref 2), (1, .int (nI i)), (2, .long (lossX 1 (-1) (-1) Rl Lf far (c0 i) (c1 i) (sLast la sd i) 1)), (4, .int (nI 0))]) (List.forall_mem_cons.mpr ⟨rfl, List.forall_mem_cons.mpr ⟨rfl, List.forall_mem_cons.mpr ⟨rfl, List.forall_mem_cons.mpr ⟨rfl, fun _ h => absurd h List.not_mem_nil⟩⟩⟩⟩) ?_
    refine zQ_mono ?_ (lp_lossIn (by omega) i 0 _ (Nat.zero_add i))
    rintro r sh' I' J' ⟨rfl, h1, rfl, rfl⟩
    refine ⟨rfl, h1.trans (congrArg (fun z => some (Value.long z)) ?_), hE1, hF1⟩
    unfold wrU
    rw [ht, lossX_R]
  · skip
    refine V_aload_n dX11_lossIn_0 rfl ?_
    refine V_getR (b := 9) dX11_lossIn_1 fX11_33 ⟨Nat.le_of_ble_eq_true rfl, Nat.le_of_ble_eq_true rfl⟩ rfl rfl rfl ?_
    refine V_aload_n dX11_lossIn_4 rfl ?_
    refine V_getR (b := 36) dX11_lossIn_5 fX11_64 ⟨Nat.le_of_ble_eq_true rfl, Nat.le_of_ble_eq_true rfl⟩ rfl rfl rfl ?_
    refine V_iload_n dX11_lossIn_8 rfl ?_
    refine V_callV (As := [.int (nI i)]) (st := [.ref 9]) (a := 36) dX11_lossIn_9 kX6_codeOf0 lX11_397 (by decide) rfl rfl (Nat.le_of_ble_eq_true rfl) ⟨Nat.le_of_ble_eq_true rfl, Nat.le_of_ble_eq_true rfl⟩ ⟨Nat.le_of_ble_eq_true rfl, Nat.le_of_ble_eq_true rfl⟩ rfl ⟨rfl, by decide⟩ (c_codeOf0 hL (by omega)) ?_
    rintro _ _ _ _ ⟨rfl, rfl, rfl, rfl⟩
    refine V_aload_n dX11_lossIn_12 rfl ?_
    refine V_getR (b := 36) dX11_lossIn_13 fX11_64 ⟨Nat.le_of_ble_eq_true rfl, Nat.le_of_ble_eq_true rfl⟩ rfl rfl rfl ?_
    refine V_iload_n dX11_lossIn_16 rfl ?_
    refine V_callV (As := [.int (nI i)]) (st := [.int (nI (c0 i)), .ref 9]) (a := 36) dX11_lossIn_17 kX6_codeOf1 lX11_400 (by decide) rfl rfl (Nat.le_of_ble_eq_true rfl) ⟨Nat.le_of_ble_eq_true rfl, Nat.le_of_ble_eq_true rfl⟩ ⟨Nat.le_of_ble_eq_true rfl, Nat.le_of_ble_eq_true rfl⟩ rfl ⟨rfl, by decide⟩ (c_codeOf1 hL (by omega)) ?_
    rintro _ _ _ _ ⟨rfl, rfl, rfl, rfl⟩
    refine V_aload_n dX11_lossIn_20 rfl ?_
    refine V_getR (b := 36) dX11_lossIn_21 fX11_64 ⟨Nat.le_of_ble_eq_true rfl, Nat.le_of_ble_eq_true rfl⟩ rfl rfl rfl ?_
    refine V_iload_n dX11_lossIn_24 rfl ?_
    refine V_callV (As := [.int (nI i)]) (st := [.int (nI (c1 i)), .int (nI (c0 i)), .ref 9]) (a := 36) dX11_lossIn_25 kX6_lastAhead lX11_403 (by decide) rfl rfl (Nat.le_of_ble_eq_true rfl) ⟨Nat.le_of_ble_eq_true rfl, Nat.le_of_ble_eq_true rfl⟩ ⟨Nat.le_of_ble_eq_true rfl, Nat.le_of_ble_eq_true rfl⟩ rfl ⟨rfl, by decide⟩ (c_lastAhead hL (by omega)) ?_
    rintro _ _ _ _ ⟨rfl, rfl, rfl, rfl⟩
    refine V_aload_n dX11_lossIn_28 rfl ?_
    refine V_getR (b := 36) dX11_lossIn_29 fX11_64 ⟨Nat.le_of_ble_eq_true rfl, Nat.le_of_ble_eq_true rfl⟩ rfl rfl rfl ?_
    refine V_iload_n dX11_lossIn_32 rfl ?_
    refine V_callV (As := [.int (nI i)]) (st := [.int (nI (sLast la sd i)), .int (nI (c1 i)), .int (nI (c0 i)), .ref 9]) (a := 36) dX11_lossIn_33 kX6_throwOf lX11_406 (by decide) rfl rfl (Nat.le_of_ble_eq_true rfl) ⟨Nat.le_of_ble_eq_true rfl, Nat.le_of_ble_eq_true rfl⟩ ⟨Nat.le_of_ble_eq_true rfl, Nat.le_of_ble_eq_true rfl⟩ rfl ⟨rfl, by decide⟩ (c_throwOf hL hi) ?_
    rintro _ _ _ _ ⟨rfl, rfl, rfl, rfl⟩
    refine V_eqI (y := nI 2) (by rw [ht]) ?_
    refine V_callV (As := [.int (nI (c0 i)), .int (nI (c1 i)), .int (nI (sLast la sd i)), .int (nI 2)]) (st := []) (a := 9) dX11_lossIn_36 kX3_lossBy lX11_409 (by decide) rfl rfl (Nat.le_of_ble_eq_true rfl) ⟨Nat.le_of_ble_eq_true rfl, Nat.le_of_ble_eq_true rfl⟩ ⟨Nat.le_of_ble_eq_true rfl, Nat.le_of_ble_eq_true rfl⟩ rfl ⟨rfl, by decide⟩ (c_lossBy2 m1 m2 m3 hE (by decide)) ?_
    rintro r sh' I1 J1 ⟨rfl, rfl, hE1, hF1⟩
    refine V_lstore_n (ls' := [(2, .long (lossX 1 (-1) (-1) Rl Lf far (c0 i) (c1 i) (sLast la sd i) 2)), (0, .ref 2), (1, .int (nI i))]) dX11_lossIn_39 (by decide) rfl ?_
    refine V_iconst (v := nI 0) dX11_lossIn_40 rfl ?_
    refine V_istore (ls' := [(4, .int (nI 0)), (2, .long (lossX 1 (-1) (-1) Rl Lf far (c0 i) (c1 i) (sLast la sd i) 2)), (0, .ref 2), (1, .int (nI i))]) dX11_lossIn_41 (by decide) rfl ?_
    refine V_sub2 (ls' := [(0, .ref 2), (1, .int (nI i)), (2, .long (lossX 1 (-1) (-1) Rl Lf far (c0 i) (c1 i) (sLast la sd i) 2)), (4, .int (nI 0))]) (List.forall_mem_cons.mpr ⟨rfl, List.forall_mem_cons.mpr ⟨rfl, List.forall_mem_cons.mpr ⟨rfl, List.forall_mem_cons.mpr ⟨rfl, fun _ h => absurd h List.not_mem_nil⟩⟩⟩⟩) ?_
    refine zQ_mono ?_ (lp_lossIn (by omega) i 0 _ (Nat.zero_add i))
    rintro r sh' I' J' ⟨rfl, h1, rfl, rfl⟩
    refine ⟨rfl, h1.trans (congrArg (fun z => some (Value.long z)) ?_), hE1, hF1⟩
    unfold wrU
    rw [ht, lossX_R]

set_option maxRecDepth 100000 in
set_option maxHeartbeats 4000000 in
theorem lp_wrong {G : zG} {I : zI} {J : zJ} {n la : Nat} {th sd c0 c1 : Nat → Nat} (hL : lgX I n la th sd c0 c1) (hM : lgM n la th sd c0 c1) {Lf : Nat → (Nat → Int32) → Int32} {Rl : Nat → Nat → (Nat → Int32) → Int32} {far : Nat} (hn6 : n ≤ 6) {w : Nat} (hw : w = 1 ∨ w = 2) : ∀ m i b x I1 J1, i + m = n → b < 100 → eKA Lf Rl far 1 (-1) (-1) I1 J1 → Fr2 I J I1 J1 → V G mX11_wrong 20 (zP (fun r I' J' => r = some (.long (if w = 1 then (nI (wrL (wrU Lf far la th sd c0 c1) m i b x).1).toInt64 else (wrL (wrU Lf far la th sd c0 c1) m i b x).2)) ∧ eKA Lf Rl far 1 (-1) (-1) I' J' ∧ Fr2 I J I' J')) 85 [(0, .ref 2), (2, .int (nI w)), (3, .int (nI b)), (4, .long x), (6, .int (nI i))] [] (0, 0) zsh I1 J1 := by
  intro m
  induction m with
  | zero =>
    intro i b x I1 J1 hk hb hE1 hF1
    refine V_iload dX11_wrong_85 rfl ?_
    refine V_aload_n dX11_wrong_87 rfl ?_
    refine V_getR (b := 36) dX11_wrong_88 fX11_64 ⟨Nat.le_of_ble_eq_true rfl, Nat.le_of_ble_eq_true rfl⟩ rfl rfl rfl ?_
    refine V_getI dX11_wrong_91 fX11_251 ⟨Nat.le_of_ble_eq_true rfl, Nat.le_of_ble_eq_true rfl⟩ rfl rfl ?_
    refine V_eqI (y := nI n) (lgX_c hL (fun a a36 a40 => hF1.1 a (by omega) (by omega) (by omega) (by omega) (by omega))).1 ?_
    refine V_icmp_geN (tgt := 126) dX11_wrong_94 rfl (by omega) (by omega) (fun _ => ?_) (fun h => absurd h (by omega))
    refine V_iload_n dX11_wrong_126 rfl ?_
    refine V_iconst (v := nI 1) dX11_wrong_127 rfl ?_
    refine V_icmp_neN (tgt := 136) dX11_wrong_128 rfl (by omega) (by omega) (fun h128 => ?_) (fun h128 => ?_)
    · skip
      refine V_lload dX11_wrong_136 rfl ?_
      exact V_lret ⟨rfl, dX11_wrong_138⟩ ⟨Nat.le_of_ble_eq_true rfl, Nat.le_of_ble_eq_true rfl⟩ ⟨rfl, congrArg (fun z => some (Value.long z)) (if_neg (by omega)).symm, hE1, hF1⟩
    · skip
      refine V_iload_n dX11_wrong_131 rfl ?_
      refine V_i2l dX11_wrong_132 ?_
      refine V_goto (tgt := 138) dX11_wrong_133 rfl ?_
      exact V_lret ⟨rfl, dX11_wrong_138⟩ ⟨Nat.le_of_ble_eq_true rfl, Nat.le_of_ble_eq_true rfl⟩ ⟨rfl, congrArg (fun z => some (Value.long z)) (if_pos (by omega)).symm, hE1, hF1⟩
  | succ m ih =>
    intro i b x I1 J1 hk hb hE1 hF1
    refine V_iload dX11_wrong_85 rfl ?_
    refine V_aload_n dX11_wrong_87 rfl ?_
    refine V_getR (b := 36) dX11_wrong_88 fX11_64 ⟨Nat.le_of_ble_eq_true rfl, Nat.le_of_ble_eq_true rfl⟩ rfl rfl rfl ?_
    refine V_getI dX11_wrong_91 fX11_251 ⟨Nat.le_of_ble_eq_true rfl, Nat.le_of_ble_eq_true rfl⟩ rfl rfl ?_
    refine V_eqI (y := nI n) (lgX_c hL (fun a a36 a40 => hF1.1 a (by omega) (by omega) (by omega) (by omega) (by omega))).1 ?_
    refine V_icmp_geN (tgt := 126) dX11_wrong_94 rfl (by omega) (by omega) (fun h => absurd h (by omega)) (fun _ => ?_)
    refine V_aload_n dX11_wrong_97 rfl ?_
    refine V_iload dX11_wrong_98 rfl ?_
    refine V_callV (As := [.int (nI i)]) (st := []) (a := 2) dX11_wrong_100 kX11_lossIn lX11_252 (by decide) rfl rfl (Nat.le_of_ble_eq_true rfl) ⟨Nat.le_of_ble_eq_true rfl, Nat.le_of_ble_eq_true rfl⟩ ⟨Nat.le_of_ble_eq_true rfl, Nat.le_of_ble_eq_true rfl⟩ rfl ⟨rfl, by decide⟩ (c_lossIn (lgX_c hL (fun a a36 a40 => hF1.1 a (by omega) (by omega) (by omega) (by omega) (by omega))) hM hE1 (by omega)) ?_
    rintro r sh' I2 J2 ⟨rfl, rfl, hE2, hF2⟩
    refine V_lstore (ls' := [(7, .long (wrU Lf far la th sd c0 c1 i)), (0, .ref 2), (2, .int (nI w)), (3, .int (nI b)), (4, .long x), (6, .int (nI i))]) dX11_wrong_103 (by decide) rfl ?_
    refine V_lload dX11_wrong_105 rfl ?_
    refine V_lload dX11_wrong_107 rfl ?_
    refine V_lcmp dX11_wrong_109 ?_
    refine V_if_le (tgt := 120) dX11_wrong_110 rfl (fun h67 => ?_) (fun h67 => ?_)
    · skip
      have hc : ¬ x < (wrU Lf far la th sd c0 c1) i := wl_gt.mp h67
      refine V_iincN (ls' := [(6, .int (nI (i + 1))), (7, .long (wrU Lf far la th sd c0 c1 i)), (0, .ref 2), (2, .int (nI w)), (3, .int (nI b)), (4, .long x)]) (n := 1) dX11_wrong_120 rfl rfl (by decide) (by decide) rfl ?_
      refine V_goto (tgt := 85) dX11_wrong_123 rfl ?_
      refine V_sub2 (ls' := [(0, .ref 2), (2, .int (nI w)), (3, .int (nI b)), (4, .long x), (6, .int (nI (i + 1)))]) (List.forall_mem_cons.mpr ⟨rfl, List.forall_mem_cons.mpr ⟨rfl, List.forall_mem_cons.mpr ⟨rfl, List.forall_mem_cons.mpr ⟨rfl, List.forall_mem_cons.mpr ⟨rfl, fun _ h => absurd h List.not_mem_nil⟩⟩⟩⟩⟩) ?_
      have e9 : (wrL (wrU Lf far la th sd c0 c1) (m + 1) i b x) = (wrL (wrU Lf far la th sd c0 c1) m (i + 1) b x) := by
        conv => lhs; unfold wrL
        exact if_neg hc
      rw [e9]
      exact ih (i + 1) _ _ _ _ (by omega) hb hE2 (Fr2_t hF1 hF2)
    · skip
      have hc : x < (wrU Lf far la th sd c0 c1) i := Decidable.of_not_not (fun h => h67 (wl_gt.mpr h))
      refine V_iload dX11_wrong_113 rfl ?_
      refine V_istore_n (ls' := [(3, .int (nI i)), (7, .long (wrU Lf far la th sd c0 c1 i)), (0, .ref 2), (2, .int (nI w)), (4, .long x), (6, .int (nI i))]) dX11_wrong_115 (by decide) rfl ?_
      refine V_lload dX11_wrong_116 rfl ?_
      refine V_lstore (ls' := [(4, .long (wrU Lf far la th sd c0 c1 i)), (3, .int (nI i)), (7, .long (wrU Lf far la th sd c0 c1 i)), (0, .ref 2), (2, .int (nI w)), (6, .int (nI i))]) dX11_wrong_118 (by decide) rfl ?_
      refine V_iincN (ls' := [(6, .int (nI (i + 1))), (4, .long (wrU Lf far la th sd c0 c1 i)), (3, .int (nI i)), (7, .long (wrU Lf far la th sd c0 c1 i)), (0, .ref 2), (2, .int (nI w))]) (n := 1) dX11_wrong_120 rfl rfl (by decide) (by decide) rfl ?_
      refine V_goto (tgt := 85) dX11_wrong_123 rfl ?_
      refine V_sub2 (ls' := [(0, .ref 2), (2, .int (nI w)), (3, .int (nI i)), (4, .long (wrU Lf far la th sd c0 c1 i)), (6, .int (nI (i + 1)))]) (List.forall_mem_cons.mpr ⟨rfl, List.forall_mem_cons.mpr ⟨rfl, List.forall_mem_cons.mpr ⟨rfl, List.forall_mem_cons.mpr ⟨rfl, List.forall_mem_cons.mpr ⟨rfl, fun _ h => absurd h List.not_mem_nil⟩⟩⟩⟩⟩) ?_
      have e9 : (wrL (wrU Lf far la th sd c0 c1) (m + 1) i b x) = (wrL (wrU Lf far la th sd c0 c1) m (i + 1) i ((wrU Lf far la th sd c0 c1) i)) := by
        conv => lhs; unfold wrL
        exact if_pos hc
      rw [e9]
      exact ih (i + 1) _ _ _ _ (by omega) (by omega) hE2 (Fr2_t hF1 hF2)

set_option maxRecDepth 100000 in
set_option maxHeartbeats 4000000 in
theorem c_wrong0 {G : zG} {I : zI} {J : zJ} {Lf : Nat → (Nat → Int32) → Int32} {Rl : Nat → Nat → (Nat → Int32) → Int32} {far : Nat} (hE : eA Lf Rl I J) (hf : I 2 0 = nI far) (h6 : 6 ≤ far) (h10 : far ≤ 10) {n la : Nat} {th sd c0 c1 : Nat → Nat} (hL : lgX I n la th sd c0 c1) (hM : lgM n la th sd c0 c1) {i : Nat} (hi : i < n) : zK G mX11_wrong 20 [.ref 2, .int (nI i), .int (nI 0)] zsh I J (zP (fun r I' J' => r = some (.long (wrU Lf far la th sd c0 c1 i)) ∧ eA Lf Rl I' J' ∧ Fr2 I J I' J')) := by
  refine zK_of kX11_wrong.2.2.2.2.1 (Nat.le_of_ble_eq_true rfl) ?_
  show V G mX11_wrong 20 _ 0 [(0, .ref 2), (1, .int (nI i)), (2, .int (nI 0))] [] (0, 0) zsh I J
  have hn6 := hL.2.1
  refine V_iload_n dX11_wrong_0 rfl ?_
  refine V_if_lt (tgt := 39) dX11_wrong_1 rfl (fun h => absurd h (by decide)) (fun _ => ?_)
  refine V_iload_n dX11_wrong_4 rfl ?_
  refine V_iconst (v := nI 2) dX11_wrong_5 rfl ?_
  refine V_icmp_gt (tgt := 39) dX11_wrong_6 rfl (fun h => absurd h (by decide)) (fun _ => ?_)
  refine V_aload_n dX11_wrong_9 rfl ?_
  refine V_getR (b := 36) dX11_wrong_10 fX11_64 ⟨Nat.le_of_ble_eq_true rfl, Nat.le_of_ble_eq_true rfl⟩ rfl rfl rfl ?_
  refine V_getI dX11_wrong_13 fX11_251 ⟨Nat.le_of_ble_eq_true rfl, Nat.le_of_ble_eq_true rfl⟩ rfl rfl ?_
  refine V_eqI (y := nI n) hL.1 ?_
  refine V_iconst (v := nI 1) dX11_wrong_16 rfl ?_
  refine V_icmp_ltN (tgt := 39) dX11_wrong_17 rfl (by omega) (by omega) (fun h => absurd h (by omega)) (fun _ => ?_)
  refine V_iload_n dX11_wrong_20 rfl ?_
  refine V_if_ne (tgt := 43) dX11_wrong_21 rfl (fun h => absurd h (by decide)) (fun _ => ?_)
  refine V_iload_n dX11_wrong_24 rfl ?_
  refine V_if_ltN (tgt := 39) dX11_wrong_25 rfl (by omega) ?_
  refine V_iload_n dX11_wrong_28 rfl ?_
  refine V_aload_n dX11_wrong_29 rfl ?_
  refine V_getR (b := 36) dX11_wrong_30 fX11_64 ⟨Nat.le_of_ble_eq_true rfl, Nat.le_of_ble_eq_true rfl⟩ rfl rfl rfl ?_
  refine V_getI dX11_wrong_33 fX11_251 ⟨Nat.le_of_ble_eq_true rfl, Nat.le_of_ble_eq_true rfl⟩ rfl rfl ?_
  refine V_eqI (y := nI n) hL.1 ?_
  refine V_icmp_ltN (tgt := 43) dX11_wrong_36 rfl (by omega) (by omega) (fun _ => ?_) (fun h => absurd h (by omega))
  refine V_aload_n dX11_wrong_43 rfl ?_
  refine V_getR (b := 9) dX11_wrong_44 fX11_33 ⟨Nat.le_of_ble_eq_true rfl, Nat.le_of_ble_eq_true rfl⟩ rfl rfl rfl ?_
  refine V_aload_n dX11_wrong_47 rfl ?_
  refine V_getI dX11_wrong_48 fX11_7 ⟨Nat.le_of_ble_eq_true rfl, Nat.le_of_ble_eq_true rfl⟩ rfl rfl ?_
  refine V_eqI (y := nI far) hf ?_
  refine V_callV (As := [.int (nI far)]) (st := []) (a := 9) dX11_wrong_51 kX3_standAt lX11_167 (by decide) rfl rfl (Nat.le_of_ble_eq_true rfl) ⟨Nat.le_of_ble_eq_true rfl, Nat.le_of_ble_eq_true rfl⟩ ⟨Nat.le_of_ble_eq_true rfl, Nat.le_of_ble_eq_true rfl⟩ rfl ⟨rfl, by decide⟩ (c_standA h10 hE) ?_
  rintro r sh' I1 J1 ⟨rfl, rfl, hE1, hF1, hJ1⟩
  refine V_aload_n dX11_wrong_54 rfl ?_
  refine V_getR (b := 9) dX11_wrong_55 fX11_33 ⟨Nat.le_of_ble_eq_true rfl, Nat.le_of_ble_eq_true rfl⟩ rfl rfl rfl ?_
  refine V_iconst (v := (-1)) dX11_wrong_58 rfl ?_
  refine V_iconst (v := (-1)) dX11_wrong_59 rfl ?_
  refine V_callV (As := [.int (-1), .int (-1)]) (st := []) (a := 9) dX11_wrong_60 kX3_aimBy lX11_179 (by decide) rfl rfl (Nat.le_of_ble_eq_true rfl) ⟨Nat.le_of_ble_eq_true rfl, Nat.le_of_ble_eq_true rfl⟩ ⟨Nat.le_of_ble_eq_true rfl, Nat.le_of_ble_eq_true rfl⟩ rfl ⟨rfl, by decide⟩ (c_aimA hE1) ?_
  rintro r sh' I2 J2 ⟨rfl, rfl, hE2, hF2⟩
  have hF12 := Fr2_t hF1 hF2
  refine V_iload_n dX11_wrong_63 rfl ?_
  refine V_if_ne (tgt := 73) dX11_wrong_64 rfl (fun h => absurd h (by decide)) (fun _ => ?_)
  refine V_aload_n dX11_wrong_67 rfl ?_
  refine V_iload_n dX11_wrong_68 rfl ?_
  refine V_callV (As := [.int (nI i)]) (st := []) (a := 2) dX11_wrong_69 kX11_lossIn lX11_252 (by decide) rfl rfl (Nat.le_of_ble_eq_true rfl) ⟨Nat.le_of_ble_eq_true rfl, Nat.le_of_ble_eq_true rfl⟩ ⟨Nat.le_of_ble_eq_true rfl, Nat.le_of_ble_eq_true rfl⟩ rfl ⟨rfl, by decide⟩ (c_lossIn (lgX_c hL (fun a a36 a40 => hF12.1 a (by omega) (by omega) (by omega) (by omega) (by omega))) hM hE2 (by omega)) ?_
  rintro r sh' I3 J3 ⟨rfl, rfl, hE3, hF3⟩
  exact V_lret ⟨rfl, dX11_wrong_72⟩ ⟨Nat.le_of_ble_eq_true rfl, Nat.le_of_ble_eq_true rfl⟩ ⟨rfl, rfl, eAf_A (eKA_f hE3) h10, Fr2_t hF12 hF3⟩

set_option maxRecDepth 100000 in
set_option maxHeartbeats 4000000 in
theorem c_wrong1 {G : zG} {I : zI} {J : zJ} {Lf : Nat → (Nat → Int32) → Int32} {Rl : Nat → Nat → (Nat → Int32) → Int32} {far : Nat} (hE : eA Lf Rl I J) (hf : I 2 0 = nI far) (h6 : 6 ≤ far) (h10 : far ≤ 10) {n la : Nat} {th sd c0 c1 : Nat → Nat} (hL : lgX I n la th sd c0 c1) (hM : lgM n la th sd c0 c1) {i : Int32} (h1n : 1 ≤ n) : zK G mX11_wrong 20 [.ref 2, .int i, .int (nI 1)] zsh I J (zP (fun r I' J' => r = some (.long ((nI (wrL (wrU Lf far la th sd c0 c1) (n - 1) 1 0 ((wrU Lf far la th sd c0 c1) 0)).1).toInt64)) ∧ eA Lf Rl I' J' ∧ Fr2 I J I' J')) := by
  refine zK_of kX11_wrong.2.2.2.2.1 (Nat.le_of_ble_eq_true rfl) ?_
  show V G mX11_wrong 20 _ 0 [(0, .ref 2), (1, .int i), (2, .int (nI 1))] [] (0, 0) zsh I J
  have hn6 := hL.2.1
  refine V_iload_n dX11_wrong_0 rfl ?_
  refine V_if_lt (tgt := 39) dX11_wrong_1 rfl (fun h => absurd h (by decide)) (fun _ => ?_)
  refine V_iload_n dX11_wrong_4 rfl ?_
  refine V_iconst (v := nI 2) dX11_wrong_5 rfl ?_
  refine V_icmp_gt (tgt := 39) dX11_wrong_6 rfl (fun h => absurd h (by decide)) (fun _ => ?_)
  refine V_aload_n dX11_wrong_9 rfl ?_
  refine V_getR (b := 36) dX11_wrong_10 fX11_64 ⟨Nat.le_of_ble_eq_true rfl, Nat.le_of_ble_eq_true rfl⟩ rfl rfl rfl ?_
  refine V_getI dX11_wrong_13 fX11_251 ⟨Nat.le_of_ble_eq_true rfl, Nat.le_of_ble_eq_true rfl⟩ rfl rfl ?_
  refine V_eqI (y := nI n) hL.1 ?_
  refine V_iconst (v := nI 1) dX11_wrong_16 rfl ?_
  refine V_icmp_ltN (tgt := 39) dX11_wrong_17 rfl (by omega) (by omega) (fun h => absurd h (by omega)) (fun _ => ?_)
  refine V_iload_n dX11_wrong_20 rfl ?_
  refine V_if_ne (tgt := 43) dX11_wrong_21 rfl (fun _ => ?_) (fun h => absurd h (by decide))
  refine V_aload_n dX11_wrong_43 rfl ?_
  refine V_getR (b := 9) dX11_wrong_44 fX11_33 ⟨Nat.le_of_ble_eq_true rfl, Nat.le_of_ble_eq_true rfl⟩ rfl rfl rfl ?_
  refine V_aload_n dX11_wrong_47 rfl ?_
  refine V_getI dX11_wrong_48 fX11_7 ⟨Nat.le_of_ble_eq_true rfl, Nat.le_of_ble_eq_true rfl⟩ rfl rfl ?_
  refine V_eqI (y := nI far) hf ?_
  refine V_callV (As := [.int (nI far)]) (st := []) (a := 9) dX11_wrong_51 kX3_standAt lX11_167 (by decide) rfl rfl (Nat.le_of_ble_eq_true rfl) ⟨Nat.le_of_ble_eq_true rfl, Nat.le_of_ble_eq_true rfl⟩ ⟨Nat.le_of_ble_eq_true rfl, Nat.le_of_ble_eq_true rfl⟩ rfl ⟨rfl, by decide⟩ (c_standA h10 hE) ?_
  rintro r sh' I1 J1 ⟨rfl, rfl, hE1, hF1, hJ1⟩
  refine V_aload_n dX11_wrong_54 rfl ?_
  refine V_getR (b := 9) dX11_wrong_55 fX11_33 ⟨Nat.le_of_ble_eq_true rfl, Nat.le_of_ble_eq_true rfl⟩ rfl rfl rfl ?_
  refine V_iconst (v := (-1)) dX11_wrong_58 rfl ?_
  refine V_iconst (v := (-1)) dX11_wrong_59 rfl ?_
  refine V_callV (As := [.int (-1), .int (-1)]) (st := []) (a := 9) dX11_wrong_60 kX3_aimBy lX11_179 (by decide) rfl rfl (Nat.le_of_ble_eq_true rfl) ⟨Nat.le_of_ble_eq_true rfl, Nat.le_of_ble_eq_true rfl⟩ ⟨Nat.le_of_ble_eq_true rfl, Nat.le_of_ble_eq_true rfl⟩ rfl ⟨rfl, by decide⟩ (c_aimA hE1) ?_
  rintro r sh' I2 J2 ⟨rfl, rfl, hE2, hF2⟩
  have hF12 := Fr2_t hF1 hF2
  refine V_iload_n dX11_wrong_63 rfl ?_
  refine V_if_ne (tgt := 73) dX11_wrong_64 rfl (fun _ => ?_) (fun h => absurd h (by decide))
  refine V_iconst (v := nI 0) dX11_wrong_73 rfl ?_
  refine V_istore_n (ls' := [(3, .int (nI 0)), (0, .ref 2), (1, .int i), (2, .int (nI 1))]) dX11_wrong_74 (by decide) rfl ?_
  refine V_aload_n dX11_wrong_75 rfl ?_
  refine V_iconst (v := nI 0) dX11_wrong_76 rfl ?_
  refine V_callV (As := [.int (nI 0)]) (st := []) (a := 2) dX11_wrong_77 kX11_lossIn lX11_252 (by decide) rfl rfl (Nat.le_of_ble_eq_true rfl) ⟨Nat.le_of_ble_eq_true rfl, Nat.le_of_ble_eq_true rfl⟩ ⟨Nat.le_of_ble_eq_true rfl, Nat.le_of_ble_eq_true rfl⟩ rfl ⟨rfl, by decide⟩ (c_lossIn (lgX_c hL (fun a a36 a40 => hF12.1 a (by omega) (by omega) (by omega) (by omega) (by omega))) hM hE2 (by omega)) ?_
  rintro r sh' I3 J3 ⟨rfl, rfl, hE3, hF3⟩
  refine V_lstore (ls' := [(4, .long (wrU Lf far la th sd c0 c1 0)), (3, .int (nI 0)), (0, .ref 2), (1, .int i), (2, .int (nI 1))]) dX11_wrong_80 (by decide) rfl ?_
  refine V_iconst (v := nI 1) dX11_wrong_82 rfl ?_
  refine V_istore (ls' := [(6, .int (nI 1)), (4, .long (wrU Lf far la th sd c0 c1 0)), (3, .int (nI 0)), (0, .ref 2), (1, .int i), (2, .int (nI 1))]) dX11_wrong_83 (by decide) rfl ?_
  refine V_sub2 (ls' := [(0, .ref 2), (2, .int (nI 1)), (3, .int (nI 0)), (4, .long (wrU Lf far la th sd c0 c1 0)), (6, .int (nI 1))]) (List.forall_mem_cons.mpr ⟨rfl, List.forall_mem_cons.mpr ⟨rfl, List.forall_mem_cons.mpr ⟨rfl, List.forall_mem_cons.mpr ⟨rfl, List.forall_mem_cons.mpr ⟨rfl, fun _ h => absurd h List.not_mem_nil⟩⟩⟩⟩⟩) ?_
  refine zQ_mono ?_ (lp_wrong (I := I3) (J := J3) (lgX_c hL (fun a a36 a40 => ((Fr2_t hF12 hF3).1 a (by omega) (by omega) (by omega) (by omega) (by omega)))) hM hn6 (w := 1) (by decide) (n - 1) 1 0 _ I3 J3 (by omega) (by decide) hE3 Fr2_r)
  rintro r sh' I' J' ⟨rfl, h1, h2, h3⟩
  exact ⟨rfl, h1.trans (congrArg (fun z => some (Value.long z)) (if_pos rfl)), eAf_A (eKA_f h2) h10, Fr2_t (Fr2_t hF12 hF3) h3⟩

set_option maxRecDepth 100000 in
set_option maxHeartbeats 4000000 in
theorem c_wrong2 {G : zG} {I : zI} {J : zJ} {Lf : Nat → (Nat → Int32) → Int32} {Rl : Nat → Nat → (Nat → Int32) → Int32} {far : Nat} (hE : eA Lf Rl I J) (hf : I 2 0 = nI far) (h6 : 6 ≤ far) (h10 : far ≤ 10) {n la : Nat} {th sd c0 c1 : Nat → Nat} (hL : lgX I n la th sd c0 c1) (hM : lgM n la th sd c0 c1) {i : Int32} (h1n : 1 ≤ n) : zK G mX11_wrong 20 [.ref 2, .int i, .int (nI 2)] zsh I J (zP (fun r I' J' => r = some (.long ((wrL (wrU Lf far la th sd c0 c1) (n - 1) 1 0 ((wrU Lf far la th sd c0 c1) 0)).2)) ∧ eA Lf Rl I' J' ∧ Fr2 I J I' J')) := by
  refine zK_of kX11_wrong.2.2.2.2.1 (Nat.le_of_ble_eq_true rfl) ?_
  show V G mX11_wrong 20 _ 0 [(0, .ref 2), (1, .int i), (2, .int (nI 2))] [] (0, 0) zsh I J
  have hn6 := hL.2.1
  refine V_iload_n dX11_wrong_0 rfl ?_
  refine V_if_lt (tgt := 39) dX11_wrong_1 rfl (fun h => absurd h (by decide)) (fun _ => ?_)
  refine V_iload_n dX11_wrong_4 rfl ?_
  refine V_iconst (v := nI 2) dX11_wrong_5 rfl ?_
  refine V_icmp_gt (tgt := 39) dX11_wrong_6 rfl (fun h => absurd h (by decide)) (fun _ => ?_)
  refine V_aload_n dX11_wrong_9 rfl ?_
  refine V_getR (b := 36) dX11_wrong_10 fX11_64 ⟨Nat.le_of_ble_eq_true rfl, Nat.le_of_ble_eq_true rfl⟩ rfl rfl rfl ?_
  refine V_getI dX11_wrong_13 fX11_251 ⟨Nat.le_of_ble_eq_true rfl, Nat.le_of_ble_eq_true rfl⟩ rfl rfl ?_
  refine V_eqI (y := nI n) hL.1 ?_
  refine V_iconst (v := nI 1) dX11_wrong_16 rfl ?_
  refine V_icmp_ltN (tgt := 39) dX11_wrong_17 rfl (by omega) (by omega) (fun h => absurd h (by omega)) (fun _ => ?_)
  refine V_iload_n dX11_wrong_20 rfl ?_
  refine V_if_ne (tgt := 43) dX11_wrong_21 rfl (fun _ => ?_) (fun h => absurd h (by decide))
  refine V_aload_n dX11_wrong_43 rfl ?_
  refine V_getR (b := 9) dX11_wrong_44 fX11_33 ⟨Nat.le_of_ble_eq_true rfl, Nat.le_of_ble_eq_true rfl⟩ rfl rfl rfl ?_
  refine V_aload_n dX11_wrong_47 rfl ?_
  refine V_getI dX11_wrong_48 fX11_7 ⟨Nat.le_of_ble_eq_true rfl, Nat.le_of_ble_eq_true rfl⟩ rfl rfl ?_
  refine V_eqI (y := nI far) hf ?_
  refine V_callV (As := [.int (nI far)]) (st := []) (a := 9) dX11_wrong_51 kX3_standAt lX11_167 (by decide) rfl rfl (Nat.le_of_ble_eq_true rfl) ⟨Nat.le_of_ble_eq_true rfl, Nat.le_of_ble_eq_true rfl⟩ ⟨Nat.le_of_ble_eq_true rfl, Nat.le_of_ble_eq_true rfl⟩ rfl ⟨rfl, by decide⟩ (c_standA h10 hE) ?_
  rintro r sh' I1 J1 ⟨rfl, rfl, hE1, hF1, hJ1⟩
  refine V_aload_n dX11_wrong_54 rfl ?_
  refine V_getR (b := 9) dX11_wrong_55 fX11_33 ⟨Nat.le_of_ble_eq_true rfl, Nat.le_of_ble_eq_true rfl⟩ rfl rfl rfl ?_
  refine V_iconst (v := (-1)) dX11_wrong_58 rfl ?_
  refine V_iconst (v := (-1)) dX11_wrong_59 rfl ?_
  refine V_callV (As := [.int (-1), .int (-1)]) (st := []) (a := 9) dX11_wrong_60 kX3_aimBy lX11_179 (by decide) rfl rfl (Nat.le_of_ble_eq_true rfl) ⟨Nat.le_of_ble_eq_true rfl, Nat.le_of_ble_eq_true rfl⟩ ⟨Nat.le_of_ble_eq_true rfl, Nat.le_of_ble_eq_true rfl⟩ rfl ⟨rfl, by decide⟩ (c_aimA hE1) ?_
  rintro r sh' I2 J2 ⟨rfl, rfl, hE2, hF2⟩
  have hF12 := Fr2_t hF1 hF2
  refine V_iload_n dX11_wrong_63 rfl ?_
  refine V_if_ne (tgt := 73) dX11_wrong_64 rfl (fun _ => ?_) (fun h => absurd h (by decide))
  refine V_iconst (v := nI 0) dX11_wrong_73 rfl ?_
  refine V_istore_n (ls' := [(3, .int (nI 0)), (0, .ref 2), (1, .int i), (2, .int (nI 2))]) dX11_wrong_74 (by decide) rfl ?_
  refine V_aload_n dX11_wrong_75 rfl ?_
  refine V_iconst (v := nI 0) dX11_wrong_76 rfl ?_
  refine V_callV (As := [.int (nI 0)]) (st := []) (a := 2) dX11_wrong_77 kX11_lossIn lX11_252 (by decide) rfl rfl (Nat.le_of_ble_eq_true rfl) ⟨Nat.le_of_ble_eq_true rfl, Nat.le_of_ble_eq_true rfl⟩ ⟨Nat.le_of_ble_eq_true rfl, Nat.le_of_ble_eq_true rfl⟩ rfl ⟨rfl, by decide⟩ (c_lossIn (lgX_c hL (fun a a36 a40 => hF12.1 a (by omega) (by omega) (by omega) (by omega) (by omega))) hM hE2 (by omega)) ?_
  rintro r sh' I3 J3 ⟨rfl, rfl, hE3, hF3⟩
  refine V_lstore (ls' := [(4, .long (wrU Lf far la th sd c0 c1 0)), (3, .int (nI 0)), (0, .ref 2), (1, .int i), (2, .int (nI 2))]) dX11_wrong_80 (by decide) rfl ?_
  refine V_iconst (v := nI 1) dX11_wrong_82 rfl ?_
  refine V_istore (ls' := [(6, .int (nI 1)), (4, .long (wrU Lf far la th sd c0 c1 0)), (3, .int (nI 0)), (0, .ref 2), (1, .int i), (2, .int (nI 2))]) dX11_wrong_83 (by decide) rfl ?_
  refine V_sub2 (ls' := [(0, .ref 2), (2, .int (nI 2)), (3, .int (nI 0)), (4, .long (wrU Lf far la th sd c0 c1 0)), (6, .int (nI 1))]) (List.forall_mem_cons.mpr ⟨rfl, List.forall_mem_cons.mpr ⟨rfl, List.forall_mem_cons.mpr ⟨rfl, List.forall_mem_cons.mpr ⟨rfl, List.forall_mem_cons.mpr ⟨rfl, fun _ h => absurd h List.not_mem_nil⟩⟩⟩⟩⟩) ?_
  refine zQ_mono ?_ (lp_wrong (I := I3) (J := J3) (lgX_c hL (fun a a36 a40 => ((Fr2_t hF12 hF3).1 a (by omega) (by omega) (by omega) (by omega) (by omega)))) hM hn6 (w := 2) (by decide) (n - 1) 1 0 _ I3 J3 (by omega) (by decide) hE3 Fr2_r)
  rintro r sh' I' J' ⟨rfl, h1, h2, h3⟩
  exact ⟨rfl, h1.trans (congrArg (fun z => some (Value.long z)) (if_neg (by decide))), eAf_A (eKA_f h2) h10, Fr2_t (Fr2_t hF12 hF3) h3⟩

set_option maxRecDepth 100000 in
set_option maxHeartbeats 4000000 in
theorem c_wrongN {G : zG} {I : zI} {J : zJ} {i w : Int32} (hN : ¬ (inZ w 0 2 ∧ 1 ≤ (I 36 5).toInt ∧ (w.toInt = 0 → 0 ≤ i.toInt ∧ i.toInt < (I 36 5).toInt))) : zK G mX11_wrong 1 [.ref 2, .int i, .int w] zsh I J (zA0 (.long (-1)) I J) := by
  refine zK_of kX11_wrong.2.2.2.2.1 (Nat.le_of_ble_eq_true rfl) ?_
  show V G mX11_wrong 1 _ 0 [(0, .ref 2), (1, .int i), (2, .int w)] [] (0, 0) zsh I J
  refine V_iload_n dX11_wrong_0 rfl ?_
  refine V_if_ltZ (tgt := 39) (a := w.toInt) dX11_wrong_1 rfl rfl (fun h1 => ?_) (fun h1 => ?_)
  · skip
    refine V_ldc2 dX11_wrong_39 qX11_190 ?_
    exact V_lret ⟨rfl, dX11_wrong_42⟩ ⟨Nat.le_of_ble_eq_true rfl, Nat.le_of_ble_eq_true rfl⟩ ⟨rfl, rfl, rfl, rfl⟩
  · skip
    refine V_iload_n dX11_wrong_4 rfl ?_
    refine V_iconst (v := nI 2) dX11_wrong_5 rfl ?_
    refine V_icmp_gtZ (tgt := 39) (a := w.toInt) (b := 2) dX11_wrong_6 rfl rfl (by decide) (fun h6 => ?_) (fun h6 => ?_)
    · skip
      refine V_ldc2 dX11_wrong_39 qX11_190 ?_
      exact V_lret ⟨rfl, dX11_wrong_42⟩ ⟨Nat.le_of_ble_eq_true rfl, Nat.le_of_ble_eq_true rfl⟩ ⟨rfl, rfl, rfl, rfl⟩
    · skip
      refine V_aload_n dX11_wrong_9 rfl ?_
      refine V_getR (b := 36) dX11_wrong_10 fX11_64 ⟨Nat.le_of_ble_eq_true rfl, Nat.le_of_ble_eq_true rfl⟩ rfl rfl rfl ?_
      refine V_getI dX11_wrong_13 fX11_251 ⟨Nat.le_of_ble_eq_true rfl, Nat.le_of_ble_eq_true rfl⟩ rfl rfl ?_
      refine V_iconst (v := nI 1) dX11_wrong_16 rfl ?_
      refine V_icmp_ltZ (tgt := 39) (a := (I 36 5).toInt) (b := 1) dX11_wrong_17 rfl rfl (by decide) (fun h17 => ?_) (fun h17 => ?_)
      · skip
        refine V_ldc2 dX11_wrong_39 qX11_190 ?_
        exact V_lret ⟨rfl, dX11_wrong_42⟩ ⟨Nat.le_of_ble_eq_true rfl, Nat.le_of_ble_eq_true rfl⟩ ⟨rfl, rfl, rfl, rfl⟩
      · skip
        refine V_iload_n dX11_wrong_20 rfl ?_
        refine V_if_neZ (tgt := 43) (a := w.toInt) dX11_wrong_21 rfl rfl (fun h21 => ?_) (fun h21 => ?_)
        · skip
          exfalso; exact hN ⟨by omega, by omega, by omega⟩
        · skip
          refine V_iload_n dX11_wrong_24 rfl ?_
          refine V_if_ltZ (tgt := 39) (a := i.toInt) dX11_wrong_25 rfl rfl (fun h25 => ?_) (fun h25 => ?_)
          · skip
            refine V_ldc2 dX11_wrong_39 qX11_190 ?_
            exact V_lret ⟨rfl, dX11_wrong_42⟩ ⟨Nat.le_of_ble_eq_true rfl, Nat.le_of_ble_eq_true rfl⟩ ⟨rfl, rfl, rfl, rfl⟩
          · skip
            refine V_iload_n dX11_wrong_28 rfl ?_
            refine V_aload_n dX11_wrong_29 rfl ?_
            refine V_getR (b := 36) dX11_wrong_30 fX11_64 ⟨Nat.le_of_ble_eq_true rfl, Nat.le_of_ble_eq_true rfl⟩ rfl rfl rfl ?_
            refine V_getI dX11_wrong_33 fX11_251 ⟨Nat.le_of_ble_eq_true rfl, Nat.le_of_ble_eq_true rfl⟩ rfl rfl ?_
            refine V_icmp_ltZ (tgt := 43) (a := i.toInt) (b := (I 36 5).toInt) dX11_wrong_36 rfl rfl rfl (fun h36 => ?_) (fun h36 => ?_)
            · skip
              exfalso; exact hN ⟨by omega, by omega, by omega⟩
            · skip
              refine V_ldc2 dX11_wrong_39 qX11_190 ?_
              exact V_lret ⟨rfl, dX11_wrong_42⟩ ⟨Nat.le_of_ble_eq_true rfl, Nat.le_of_ble_eq_true rfl⟩ ⟨rfl, rfl, rfl, rfl⟩

