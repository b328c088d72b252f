/-! THE CLASS: what it reckons -/
theorem eA_T {Lf : Nat → (Nat → Int32) → Int32} {Rl : Nat → Nat → (Nat → Int32) → Int32} {I : zI} {J : zJ} (h : eA Lf Rl I J) : tabX I := by
  obtain ⟨far, _, h1, _⟩ := h
  exact h1.1.1
theorem eAf_A {Lf : Nat → (Nat → Int32) → Int32} {Rl : Nat → Nat → (Nat → Int32) → Int32} {far : Nat} {I : zI} {J : zJ} (h : eAf Lf Rl far I J) (h10 : far ≤ 10) : eA Lf Rl I J := ⟨far, h10, h⟩
/-- what is asked of a throw, if it is one's -/
def prO (t w : Int32) : Option Nat := if t.toInt = 1 ∧ inZ w 0 3 ∨ t.toInt = 2 ∧ inZ w 4 6 then some w.toInt.toNat else none
theorem prO_s {t w : Int32} {k : Nat} (h : prO t w = some k) : w = nI k ∧ (t = nI 1 ∧ k ≤ 3 ∨ t = nI 2 ∧ 4 ≤ k ∧ k ≤ 6) := by
  unfold prO at h
  by_cases c : t.toInt = 1 ∧ inZ w 0 3 ∨ t.toInt = 2 ∧ inZ w 4 6
  · rw [if_pos c] at h
    injection h with h
    have hw : w = nI k := by
      apply Int32.toInt_inj.mp
      rw [nI_toInt (by omega)]
      omega
    subst hw
    refine ⟨rfl, ?_⟩
    have e : (nI k).toInt = k := nI_toInt (by have := (nI k).toInt_lt; omega)
    rcases c with c | c
    · exact Or.inl ⟨Int32.toInt_inj.mp (c.1.trans (by decide)), by have := c.2; unfold inZ at this; omega⟩
    · exact Or.inr ⟨Int32.toInt_inj.mp (c.1.trans (by decide)), by have := c.2; unfold inZ at this; omega⟩
  · rw [if_neg c] at h
    exact absurd h (by simp)
theorem prO_n {t w : Int32} (h : prO t w = none) : ¬ (t.toInt = 1 ∧ inZ w 0 3 ∨ t.toInt = 2 ∧ inZ w 4 6) := by
  intro c
  unfold prO at h
  rw [if_pos c] at h
  exact absurd h (by simp)
def onO {α : Type} (o : Option Nat) (d : α) (f : Nat → α) : α := match o with
  | none => d
  | some k => f k
def chS (Lf : Nat → (Nat → Int32) → Int32) (far p q l k : Nat) : Int32 := if sWho p q l = 2 ∨ 4 ≤ k ∧ ¬ sCan p q (sWho p q l) = true then -1 else nI (sCh Lf far p q l k)
set_option maxRecDepth 100000 in
set_option maxHeartbeats 4000000 in
theorem c_chance {G : zG} {I : zI} {J : zJ} {Lf : Nat → (Nat → Int32) → Int32} {Rl : Nat → Nat → (Nat → Int32) → Int32} {far : Nat} (hE : eA Lf Rl I J) (hf : I 2 0 = nI far) (h6 : 6 ≤ far) (h10 : far ≤ 10) {code other last t w : Int32} : zK G mX11_chance 5 [.ref 2, .int code, .int other, .int last, .int t, .int w] zsh I J (zP (fun r I' J' => r = some (.int (onS (stO code other last) (-1) (fun p q l => onO (prO t w) (-1) (fun k => chS Lf far p q l k)))) ∧ eA Lf Rl I' J' ∧ Fr2 I J I' J')) := by
  refine zK_of kX11_chance.2.2.2.2.1 (Nat.le_of_ble_eq_true rfl) ?_
  show V G mX11_chance 5 _ 0 [(0, .ref 2), (1, .int code), (2, .int other), (3, .int last), (4, .int t), (5, .int w)] [] (0, 0) zsh I J
  rcases hst : stO code other last with _ | ⟨p, q, l⟩
  · have hsn := stO_n hst
    refine V_aload_n dX11_chance_0 rfl ?_
    refine V_getR (b := 10) dX11_chance_1 fX11_41 ⟨Nat.le_of_ble_eq_true rfl, Nat.le_of_ble_eq_true rfl⟩ rfl rfl rfl ?_
    refine V_iload_n dX11_chance_4 rfl ?_
    refine V_callV (As := [.int code]) (st := []) (a := 10) dX11_chance_5 kX2_placeOf lX11_146 (by decide) rfl rfl (Nat.le_of_ble_eq_true rfl) ⟨Nat.le_of_ble_eq_true rfl, Nat.le_of_ble_eq_true rfl⟩ ⟨Nat.le_of_ble_eq_true rfl, Nat.le_of_ble_eq_true rfl⟩ rfl ⟨rfl, by decide⟩ c_placeOf2 ?_
    rintro _ _ _ _ ⟨rfl, rfl, rfl, rfl⟩
    refine V_istore (ls' := [(6, .int (pen (zpl code))), (0, .ref 2), (1, .int code), (2, .int other), (3, .int last), (4, .int t), (5, .int w)]) dX11_chance_8 (by decide) rfl ?_
    refine V_aload_n dX11_chance_10 rfl ?_
    refine V_getR (b := 10) dX11_chance_11 fX11_41 ⟨Nat.le_of_ble_eq_true rfl, Nat.le_of_ble_eq_true rfl⟩ rfl rfl rfl ?_
    refine V_iload_n dX11_chance_14 rfl ?_
    refine V_callV (As := [.int other]) (st := []) (a := 10) dX11_chance_15 kX2_placeOf lX11_146 (by decide) rfl rfl (Nat.le_of_ble_eq_true rfl) ⟨Nat.le_of_ble_eq_true rfl, Nat.le_of_ble_eq_true rfl⟩ ⟨Nat.le_of_ble_eq_true rfl, Nat.le_of_ble_eq_true rfl⟩ rfl ⟨rfl, by decide⟩ c_placeOf2 ?_
    rintro _ _ _ _ ⟨rfl, rfl, rfl, rfl⟩
    refine V_istore (ls' := [(7, .int (pen (zpl other))), (6, .int (pen (zpl code))), (0, .ref 2), (1, .int code), (2, .int other), (3, .int last), (4, .int t), (5, .int w)]) dX11_chance_18 (by decide) rfl ?_
    refine V_iload dX11_chance_20 rfl ?_
    refine V_iconst (v := nI 1) dX11_chance_22 rfl ?_
    refine V_icmp_neZ (tgt := 37) (a := t.toInt) (b := 1) dX11_chance_23 rfl rfl (by decide) (fun h23 => ?_) (fun h23 => ?_)
    · skip
      refine V_iload dX11_chance_37 rfl ?_
      refine V_iconst (v := nI 2) dX11_chance_39 rfl ?_
      refine V_icmp_neZ (tgt := 60) (a := t.toInt) (b := 2) dX11_chance_40 rfl rfl (by decide) (fun h40 => ?_) (fun h40 => ?_)
      · skip
        refine V_iconst (v := nI 0) dX11_chance_60 rfl ?_
        refine V_istore (ls' := [(8, .int (nI 0)), (7, .int (pen (zpl other))), (6, .int (pen (zpl code))), (0, .ref 2), (1, .int code), (2, .int other), (3, .int last), (4, .int t), (5, .int w)]) dX11_chance_61 (by decide) rfl ?_
        refine V_aload_n dX11_chance_63 rfl ?_
        refine V_iload dX11_chance_64 rfl ?_
        refine V_iload dX11_chance_66 rfl ?_
        refine V_iload_n dX11_chance_68 rfl ?_
        refine V_callV (As := [.int (pen (zpl code)), .int (pen (zpl other)), .int last]) (st := []) (a := 2) dX11_chance_69 kX11_isState lX11_152 (by decide) rfl rfl (Nat.le_of_ble_eq_true rfl) ⟨Nat.le_of_ble_eq_true rfl, Nat.le_of_ble_eq_true rfl⟩ ⟨Nat.le_of_ble_eq_true rfl, Nat.le_of_ble_eq_true rfl⟩ rfl ⟨rfl, by decide⟩ (c_isStateN hsn) ?_
        rintro _ _ _ _ ⟨rfl, rfl, rfl, rfl⟩
        refine V_if_eq (tgt := 80) dX11_chance_72 rfl (fun _ => ?_) (fun h => absurd h (by decide))
        refine V_iconst (v := (-1)) dX11_chance_80 rfl ?_
        exact V_iret ⟨Or.inl rfl, dX11_chance_81⟩ ⟨Nat.le_of_ble_eq_true rfl, Nat.le_of_ble_eq_true rfl⟩ ⟨rfl, rfl, hE, Fr2_r⟩
      · skip
        refine V_iload dX11_chance_43 rfl ?_
        refine V_iconst (v := nI 4) dX11_chance_45 rfl ?_
        refine V_icmp_ltZ (tgt := 60) (a := w.toInt) (b := 4) dX11_chance_46 rfl rfl (by decide) (fun h46 => ?_) (fun h46 => ?_)
        · skip
          refine V_iconst (v := nI 0) dX11_chance_60 rfl ?_
          refine V_istore (ls' := [(8, .int (nI 0)), (7, .int (pen (zpl other))), (6, .int (pen (zpl code))), (0, .ref 2), (1, .int code), (2, .int other), (3, .int last), (4, .int t), (5, .int w)]) dX11_chance_61 (by decide) rfl ?_
          refine V_aload_n dX11_chance_63 rfl ?_
          refine V_iload dX11_chance_64 rfl ?_
          refine V_iload dX11_chance_66 rfl ?_
          refine V_iload_n dX11_chance_68 rfl ?_
          refine V_callV (As := [.int (pen (zpl code)), .int (pen (zpl other)), .int last]) (st := []) (a := 2) dX11_chance_69 kX11_isState lX11_152 (by decide) rfl rfl (Nat.le_of_ble_eq_true rfl) ⟨Nat.le_of_ble_eq_true rfl, Nat.le_of_ble_eq_true rfl⟩ ⟨Nat.le_of_ble_eq_true rfl, Nat.le_of_ble_eq_true rfl⟩ rfl ⟨rfl, by decide⟩ (c_isStateN hsn) ?_
          rintro _ _ _ _ ⟨rfl, rfl, rfl, rfl⟩
          refine V_if_eq (tgt := 80) dX11_chance_72 rfl (fun _ => ?_) (fun h => absurd h (by decide))
          refine V_iconst (v := (-1)) dX11_chance_80 rfl ?_
          exact V_iret ⟨Or.inl rfl, dX11_chance_81⟩ ⟨Nat.le_of_ble_eq_true rfl, Nat.le_of_ble_eq_true rfl⟩ ⟨rfl, rfl, hE, Fr2_r⟩
        · skip
          refine V_iload dX11_chance_49 rfl ?_
          refine V_bipush (v := nI 6) dX11_chance_51 rfl ?_
          refine V_icmp_gtZ (tgt := 60) (a := w.toInt) (b := 6) dX11_chance_53 rfl rfl (by decide) (fun h53 => ?_) (fun h53 => ?_)
          · skip
            refine V_iconst (v := nI 0) dX11_chance_60 rfl ?_
            refine V_istore (ls' := [(8, .int (nI 0)), (7, .int (pen (zpl other))), (6, .int (pen (zpl code))), (0, .ref 2), (1, .int code), (2, .int other), (3, .int last), (4, .int t), (5, .int w)]) dX11_chance_61 (by decide) rfl ?_
            refine V_aload_n dX11_chance_63 rfl ?_
            refine V_iload dX11_chance_64 rfl ?_
            refine V_iload dX11_chance_66 rfl ?_
            refine V_iload_n dX11_chance_68 rfl ?_
            refine V_callV (As := [.int (pen (zpl code)), .int (pen (zpl other)), .int last]) (st := []) (a := 2) dX11_chance_69 kX11_isState lX11_152 (by decide) rfl rfl (Nat.le_of_ble_eq_true rfl) ⟨Nat.le_of_ble_eq_true rfl, Nat.le_of_ble_eq_true rfl⟩ ⟨Nat.le_of_ble_eq_true rfl, Nat.le_of_ble_eq_true rfl⟩ rfl ⟨rfl, by decide⟩ (c_isStateN hsn) ?_
            rintro _ _ _ _ ⟨rfl, rfl, rfl, rfl⟩
            refine V_if_eq (tgt := 80) dX11_chance_72 rfl (fun _ => ?_) (fun h => absurd h (by decide))
            refine V_iconst (v := (-1)) dX11_chance_80 rfl ?_
            exact V_iret ⟨Or.inl rfl, dX11_chance_81⟩ ⟨Nat.le_of_ble_eq_true rfl, Nat.le_of_ble_eq_true rfl⟩ ⟨rfl, rfl, hE, Fr2_r⟩
          · skip
            refine V_iconst (v := nI 1) dX11_chance_56 rfl ?_
            refine V_goto (tgt := 61) dX11_chance_57 rfl ?_
            refine V_istore (ls' := [(8, .int (nI 1)), (7, .int (pen (zpl other))), (6, .int (pen (zpl code))), (0, .ref 2), (1, .int code), (2, .int other), (3, .int last), (4, .int t), (5, .int w)]) dX11_chance_61 (by decide) rfl ?_
            refine V_aload_n dX11_chance_63 rfl ?_
            refine V_iload dX11_chance_64 rfl ?_
            refine V_iload dX11_chance_66 rfl ?_
            refine V_iload_n dX11_chance_68 rfl ?_
            refine V_callV (As := [.int (pen (zpl code)), .int (pen (zpl other)), .int last]) (st := []) (a := 2) dX11_chance_69 kX11_isState lX11_152 (by decide) rfl rfl (Nat.le_of_ble_eq_true rfl) ⟨Nat.le_of_ble_eq_true rfl, Nat.le_of_ble_eq_true rfl⟩ ⟨Nat.le_of_ble_eq_true rfl, Nat.le_of_ble_eq_true rfl⟩ rfl ⟨rfl, by decide⟩ (c_isStateN hsn) ?_
            rintro _ _ _ _ ⟨rfl, rfl, rfl, rfl⟩
            refine V_if_eq (tgt := 80) dX11_chance_72 rfl (fun _ => ?_) (fun h => absurd h (by decide))
            refine V_iconst (v := (-1)) dX11_chance_80 rfl ?_
            exact V_iret ⟨Or.inl rfl, dX11_chance_81⟩ ⟨Nat.le_of_ble_eq_true rfl, Nat.le_of_ble_eq_true rfl⟩ ⟨rfl, rfl, hE, Fr2_r⟩
    · skip
      refine V_iload dX11_chance_26 rfl ?_
      refine V_if_ltZ (tgt := 37) (a := w.toInt) dX11_chance_28 rfl rfl (fun h28 => ?_) (fun h28 => ?_)
      · skip
        refine V_iload dX11_chance_37 rfl ?_
        refine V_iconst (v := nI 2) dX11_chance_39 rfl ?_
        refine V_icmp_neZ (tgt := 60) (a := t.toInt) (b := 2) dX11_chance_40 rfl rfl (by decide) (fun h40 => ?_) (fun h40 => ?_)
        · skip
          refine V_iconst (v := nI 0) dX11_chance_60 rfl ?_
          refine V_istore (ls' := [(8, .int (nI 0)), (7, .int (pen (zpl other))), (6, .int (pen (zpl code))), (0, .ref 2), (1, .int code), (2, .int other), (3, .int last), (4, .int t), (5, .int w)]) dX11_chance_61 (by decide) rfl ?_
          refine V_aload_n dX11_chance_63 rfl ?_
          refine V_iload dX11_chance_64 rfl ?_
          refine V_iload dX11_chance_66 rfl ?_
          refine V_iload_n dX11_chance_68 rfl ?_
          refine V_callV (As := [.int (pen (zpl code)), .int (pen (zpl other)), .int last]) (st := []) (a := 2) dX11_chance_69 kX11_isState lX11_152 (by decide) rfl rfl (Nat.le_of_ble_eq_true rfl) ⟨Nat.le_of_ble_eq_true rfl, Nat.le_of_ble_eq_true rfl⟩ ⟨Nat.le_of_ble_eq_true rfl, Nat.le_of_ble_eq_true rfl⟩ rfl ⟨rfl, by decide⟩ (c_isStateN hsn) ?_
          rintro _ _ _ _ ⟨rfl, rfl, rfl, rfl⟩
          refine V_if_eq (tgt := 80) dX11_chance_72 rfl (fun _ => ?_) (fun h => absurd h (by decide))
          refine V_iconst (v := (-1)) dX11_chance_80 rfl ?_
          exact V_iret ⟨Or.inl rfl, dX11_chance_81⟩ ⟨Nat.le_of_ble_eq_true rfl, Nat.le_of_ble_eq_true rfl⟩ ⟨rfl, rfl, hE, Fr2_r⟩
        · skip
          refine V_iload dX11_chance_43 rfl ?_
          refine V_iconst (v := nI 4) dX11_chance_45 rfl ?_
          refine V_icmp_ltZ (tgt := 60) (a := w.toInt) (b := 4) dX11_chance_46 rfl rfl (by decide) (fun h46 => ?_) (fun h46 => ?_)
          · skip
            refine V_iconst (v := nI 0) dX11_chance_60 rfl ?_
            refine V_istore (ls' := [(8, .int (nI 0)), (7, .int (pen (zpl other))), (6, .int (pen (zpl code))), (0, .ref 2), (1, .int code), (2, .int other), (3, .int last), (4, .int t), (5, .int w)]) dX11_chance_61 (by decide) rfl ?_
            refine V_aload_n dX11_chance_63 rfl ?_
            refine V_iload dX11_chance_64 rfl ?_
            refine V_iload dX11_chance_66 rfl ?_
            refine V_iload_n dX11_chance_68 rfl ?_
            refine V_callV (As := [.int (pen (zpl code)), .int (pen (zpl other)), .int last]) (st := []) (a := 2) dX11_chance_69 kX11_isState lX11_152 (by decide) rfl rfl (Nat.le_of_ble_eq_true rfl) ⟨Nat.le_of_ble_eq_true rfl, Nat.le_of_ble_eq_true rfl⟩ ⟨Nat.le_of_ble_eq_true rfl, Nat.le_of_ble_eq_true rfl⟩ rfl ⟨rfl, by decide⟩ (c_isStateN hsn) ?_
            rintro _ _ _ _ ⟨rfl, rfl, rfl, rfl⟩
            refine V_if_eq (tgt := 80) dX11_chance_72 rfl (fun _ => ?_) (fun h => absurd h (by decide))
            refine V_iconst (v := (-1)) dX11_chance_80 rfl ?_
            exact V_iret ⟨Or.inl rfl, dX11_chance_81⟩ ⟨Nat.le_of_ble_eq_true rfl, Nat.le_of_ble_eq_true rfl⟩ ⟨rfl, rfl, hE, Fr2_r⟩
          · skip
            refine V_iload dX11_chance_49 rfl ?_
            refine V_bipush (v := nI 6) dX11_chance_51 rfl ?_
            refine V_icmp_gtZ (tgt := 60) (a := w.toInt) (b := 6) dX11_chance_53 rfl rfl (by decide) (fun h53 => ?_) (fun h53 => ?_)
            · skip
              refine V_iconst (v := nI 0) dX11_chance_60 rfl ?_
              refine V_istore (ls' := [(8, .int (nI 0)), (7, .int (pen (zpl other))), (6, .int (pen (zpl code))), (0, .ref 2), (1, .int code), (2, .int other), (3, .int last), (4, .int t), (5, .int w)]) dX11_chance_61 (by decide) rfl ?_
              refine V_aload_n dX11_chance_63 rfl ?_
              refine V_iload dX11_chance_64 rfl ?_
              refine V_iload dX11_chance_66 rfl ?_
              refine V_iload_n dX11_chance_68 rfl ?_
              refine V_callV (As := [.int (pen (zpl code)), .int (pen (zpl other)), .int last]) (st := []) (a := 2) dX11_chance_69 kX11_isState lX11_152 (by decide) rfl rfl (Nat.le_of_ble_eq_true rfl) ⟨Nat.le_of_ble_eq_true rfl, Nat.le_of_ble_eq_true rfl⟩ ⟨Nat.le_of_ble_eq_true rfl, Nat.le_of_ble_eq_true rfl⟩ rfl ⟨rfl, by decide⟩ (c_isStateN hsn) ?_
              rintro _ _ _ _ ⟨rfl, rfl, rfl, rfl⟩
              refine V_if_eq (tgt := 80) dX11_chance_72 rfl (fun _ => ?_) (fun h => absurd h (by decide))
              refine V_iconst (v := (-1)) dX11_chance_80 rfl ?_
              exact V_iret ⟨Or.inl rfl, dX11_chance_81⟩ ⟨Nat.le_of_ble_eq_true rfl, Nat.le_of_ble_eq_true rfl⟩ ⟨rfl, rfl, hE, Fr2_r⟩
            · skip
              refine V_iconst (v := nI 1) dX11_chance_56 rfl ?_
              refine V_goto (tgt := 61) dX11_chance_57 rfl ?_
              refine V_istore (ls' := [(8, .int (nI 1)), (7, .int (pen (zpl other))), (6, .int (pen (zpl code))), (0, .ref 2), (1, .int code), (2, .int other), (3, .int last), (4, .int t), (5, .int w)]) dX11_chance_61 (by decide) rfl ?_
              refine V_aload_n dX11_chance_63 rfl ?_
              refine V_iload dX11_chance_64 rfl ?_
              refine V_iload dX11_chance_66 rfl ?_
              refine V_iload_n dX11_chance_68 rfl ?_
              refine V_callV (As := [.int (pen (zpl code)), .int (pen (zpl other)), .int last]) (st := []) (a := 2) dX11_chance_69 kX11_isState lX11_152 (by decide) rfl rfl (Nat.le_of_ble_eq_true rfl) ⟨Nat.le_of_ble_eq_true rfl, Nat.le_of_ble_eq_true rfl⟩ ⟨Nat.le_of_ble_eq_true rfl, Nat.le_of_ble_eq_true rfl⟩ rfl ⟨rfl, by decide⟩ (c_isStateN hsn) ?_
              rintro _ _ _ _ ⟨rfl, rfl, rfl, rfl⟩
              refine V_if_eq (tgt := 80) dX11_chance_72 rfl (fun _ => ?_) (fun h => absurd h (by decide))
              refine V_iconst (v := (-1)) dX11_chance_80 rfl ?_
              exact V_iret ⟨Or.inl rfl, dX11_chance_81⟩ ⟨Nat.le_of_ble_eq_true rfl, Nat.le_of_ble_eq_true rfl⟩ ⟨rfl, rfl, hE, Fr2_r⟩
      · skip
        refine V_iload dX11_chance_31 rfl ?_
        refine V_iconst (v := nI 3) dX11_chance_33 rfl ?_
        refine V_icmp_leZ (tgt := 56) (a := w.toInt) (b := 3) dX11_chance_34 rfl rfl (by decide) (fun h34 => ?_) (fun h34 => ?_)
        · skip
          refine V_iconst (v := nI 1) dX11_chance_56 rfl ?_
          refine V_goto (tgt := 61) dX11_chance_57 rfl ?_
          refine V_istore (ls' := [(8, .int (nI 1)), (7, .int (pen (zpl other))), (6, .int (pen (zpl code))), (0, .ref 2), (1, .int code), (2, .int other), (3, .int last), (4, .int t), (5, .int w)]) dX11_chance_61 (by decide) rfl ?_
          refine V_aload_n dX11_chance_63 rfl ?_
          refine V_iload dX11_chance_64 rfl ?_
          refine V_iload dX11_chance_66 rfl ?_
          refine V_iload_n dX11_chance_68 rfl ?_
          refine V_callV (As := [.int (pen (zpl code)), .int (pen (zpl other)), .int last]) (st := []) (a := 2) dX11_chance_69 kX11_isState lX11_152 (by decide) rfl rfl (Nat.le_of_ble_eq_true rfl) ⟨Nat.le_of_ble_eq_true rfl, Nat.le_of_ble_eq_true rfl⟩ ⟨Nat.le_of_ble_eq_true rfl, Nat.le_of_ble_eq_true rfl⟩ rfl ⟨rfl, by decide⟩ (c_isStateN hsn) ?_
          rintro _ _ _ _ ⟨rfl, rfl, rfl, rfl⟩
          refine V_if_eq (tgt := 80) dX11_chance_72 rfl (fun _ => ?_) (fun h => absurd h (by decide))
          refine V_iconst (v := (-1)) dX11_chance_80 rfl ?_
          exact V_iret ⟨Or.inl rfl, dX11_chance_81⟩ ⟨Nat.le_of_ble_eq_true rfl, Nat.le_of_ble_eq_true rfl⟩ ⟨rfl, rfl, hE, Fr2_r⟩
        · skip
          refine V_iload dX11_chance_37 rfl ?_
          refine V_iconst (v := nI 2) dX11_chance_39 rfl ?_
          refine V_icmp_neZ (tgt := 60) (a := t.toInt) (b := 2) dX11_chance_40 rfl rfl (by decide) (fun h40 => ?_) (fun h40 => ?_)
          · skip
            refine V_iconst (v := nI 0) dX11_chance_60 rfl ?_
            refine V_istore (ls' := [(8, .int (nI 0)), (7, .int (pen (zpl other))), (6, .int (pen (zpl code))), (0, .ref 2), (1, .int code), (2, .int other), (3, .int last), (4, .int t), (5, .int w)]) dX11_chance_61 (by decide) rfl ?_
            refine V_aload_n dX11_chance_63 rfl ?_
            refine V_iload dX11_chance_64 rfl ?_
            refine V_iload dX11_chance_66 rfl ?_
            refine V_iload_n dX11_chance_68 rfl ?_
            refine V_callV (As := [.int (pen (zpl code)), .int (pen (zpl other)), .int last]) (st := []) (a := 2) dX11_chance_69 kX11_isState lX11_152 (by decide) rfl rfl (Nat.le_of_ble_eq_true rfl) ⟨Nat.le_of_ble_eq_true rfl, Nat.le_of_ble_eq_true rfl⟩ ⟨Nat.le_of_ble_eq_true rfl, Nat.le_of_ble_eq_true rfl⟩ rfl ⟨rfl, by decide⟩ (c_isStateN hsn) ?_
            rintro _ _ _ _ ⟨rfl, rfl, rfl, rfl⟩
            refine V_if_eq (tgt := 80) dX11_chance_72 rfl (fun _ => ?_) (fun h => absurd h (by decide))
            refine V_iconst (v := (-1)) dX11_chance_80 rfl ?_
            exact V_iret ⟨Or.inl rfl, dX11_chance_81⟩ ⟨Nat.le_of_ble_eq_true rfl, Nat.le_of_ble_eq_true rfl⟩ ⟨rfl, rfl, hE, Fr2_r⟩
          · skip
            refine V_iload dX11_chance_43 rfl ?_
            refine V_iconst (v := nI 4) dX11_chance_45 rfl ?_
            refine V_icmp_ltZ (tgt := 60) (a := w.toInt) (b := 4) dX11_chance_46 rfl rfl (by decide) (fun h46 => ?_) (fun h46 => ?_)
            · skip
              refine V_iconst (v := nI 0) dX11_chance_60 rfl ?_
              refine V_istore (ls' := [(8, .int (nI 0)), (7, .int (pen (zpl other))), (6, .int (pen (zpl code))), (0, .ref 2), (1, .int code), (2, .int other), (3, .int last), (4, .int t), (5, .int w)]) dX11_chance_61 (by decide) rfl ?_
              refine V_aload_n dX11_chance_63 rfl ?_
              refine V_iload dX11_chance_64 rfl ?_
              refine V_iload dX11_chance_66 rfl ?_
              refine V_iload_n dX11_chance_68 rfl ?_
              refine V_callV (As := [.int (pen (zpl code)), .int (pen (zpl other)), .int last]) (st := []) (a := 2) dX11_chance_69 kX11_isState lX11_152 (by decide) rfl rfl (Nat.le_of_ble_eq_true rfl) ⟨Nat.le_of_ble_eq_true rfl, Nat.le_of_ble_eq_true rfl⟩ ⟨Nat.le_of_ble_eq_true rfl, Nat.le_of_ble_eq_true rfl⟩ rfl ⟨rfl, by decide⟩ (c_isStateN hsn) ?_
              rintro _ _ _ _ ⟨rfl, rfl, rfl, rfl⟩
              refine V_if_eq (tgt := 80) dX11_chance_72 rfl (fun _ => ?_) (fun h => absurd h (by decide))
              refine V_iconst (v := (-1)) dX11_chance_80 rfl ?_
              exact V_iret ⟨Or.inl rfl, dX11_chance_81⟩ ⟨Nat.le_of_ble_eq_true rfl, Nat.le_of_ble_eq_true rfl⟩ ⟨rfl, rfl, hE, Fr2_r⟩
            · skip
              refine V_iload dX11_chance_49 rfl ?_
              refine V_bipush (v := nI 6) dX11_chance_51 rfl ?_
              refine V_icmp_gtZ (tgt := 60) (a := w.toInt) (b := 6) dX11_chance_53 rfl rfl (by decide) (fun h53 => ?_) (fun h53 => ?_)
              · skip
                refine V_iconst (v := nI 0) dX11_chance_60 rfl ?_
                refine V_istore (ls' := [(8, .int (nI 0)), (7, .int (pen (zpl other))), (6, .int (pen (zpl code))), (0, .ref 2), (1, .int code), (2, .int other), (3, .int last), (4, .int t), (5, .int w)]) dX11_chance_61 (by decide) rfl ?_
                refine V_aload_n dX11_chance_63 rfl ?_
                refine V_iload dX11_chance_64 rfl ?_
                refine V_iload dX11_chance_66 rfl ?_
                refine V_iload_n dX11_chance_68 rfl ?_
                refine V_callV (As := [.int (pen (zpl code)), .int (pen (zpl other)), .int last]) (st := []) (a := 2) dX11_chance_69 kX11_isState lX11_152 (by decide) rfl rfl (Nat.le_of_ble_eq_true rfl) ⟨Nat.le_of_ble_eq_true rfl, Nat.le_of_ble_eq_true rfl⟩ ⟨Nat.le_of_ble_eq_true rfl, Nat.le_of_ble_eq_true rfl⟩ rfl ⟨rfl, by decide⟩ (c_isStateN hsn) ?_
                rintro _ _ _ _ ⟨rfl, rfl, rfl, rfl⟩
                refine V_if_eq (tgt := 80) dX11_chance_72 rfl (fun _ => ?_) (fun h => absurd h (by decide))
                refine V_iconst (v := (-1)) dX11_chance_80 rfl ?_
                exact V_iret ⟨Or.inl rfl, dX11_chance_81⟩ ⟨Nat.le_of_ble_eq_true rfl, Nat.le_of_ble_eq_true rfl⟩ ⟨rfl, rfl, hE, Fr2_r⟩
              · skip
                refine V_iconst (v := nI 1) dX11_chance_56 rfl ?_
                refine V_goto (tgt := 61) dX11_chance_57 rfl ?_
                refine V_istore (ls' := [(8, .int (nI 1)), (7, .int (pen (zpl other))), (6, .int (pen (zpl code))), (0, .ref 2), (1, .int code), (2, .int other), (3, .int last), (4, .int t), (5, .int w)]) dX11_chance_61 (by decide) rfl ?_
                refine V_aload_n dX11_chance_63 rfl ?_
                refine V_iload dX11_chance_64 rfl ?_
                refine V_iload dX11_chance_66 rfl ?_
                refine V_iload_n dX11_chance_68 rfl ?_
                refine V_callV (As := [.int (pen (zpl code)), .int (pen (zpl other)), .int last]) (st := []) (a := 2) dX11_chance_69 kX11_isState lX11_152 (by decide) rfl rfl (Nat.le_of_ble_eq_true rfl) ⟨Nat.le_of_ble_eq_true rfl, Nat.le_of_ble_eq_true rfl⟩ ⟨Nat.le_of_ble_eq_true rfl, Nat.le_of_ble_eq_true rfl⟩ rfl ⟨rfl, by decide⟩ (c_isStateN hsn) ?_
                rintro _ _ _ _ ⟨rfl, rfl, rfl, rfl⟩
                refine V_if_eq (tgt := 80) dX11_chance_72 rfl (fun _ => ?_) (fun h => absurd h (by decide))
                refine V_iconst (v := (-1)) dX11_chance_80 rfl ?_
                exact V_iret ⟨Or.inl rfl, dX11_chance_81⟩ ⟨Nat.le_of_ble_eq_true rfl, Nat.le_of_ble_eq_true rfl⟩ ⟨rfl, rfl, hE, Fr2_r⟩
  · obtain ⟨hp, hq, hl, hl1, hp56, hq56⟩ := stO_s hst
    subst hl
    have hw2 : sWho p q l ≤ 2 := sWho_le
    rcases hpr : prO t w with _ | k
    · have hpn := prO_n hpr
      refine V_aload_n dX11_chance_0 rfl ?_
      refine V_getR (b := 10) dX11_chance_1 fX11_41 ⟨Nat.le_of_ble_eq_true rfl, Nat.le_of_ble_eq_true rfl⟩ rfl rfl rfl ?_
      refine V_iload_n dX11_chance_4 rfl ?_
      refine V_callV (As := [.int code]) (st := []) (a := 10) dX11_chance_5 kX2_placeOf lX11_146 (by decide) rfl rfl (Nat.le_of_ble_eq_true rfl) ⟨Nat.le_of_ble_eq_true rfl, Nat.le_of_ble_eq_true rfl⟩ ⟨Nat.le_of_ble_eq_true rfl, Nat.le_of_ble_eq_true rfl⟩ rfl ⟨rfl, by decide⟩ (c_placeS hp) ?_
      rintro _ _ _ _ ⟨rfl, rfl, rfl, rfl⟩
      refine V_istore (ls' := [(6, .int (nI p)), (0, .ref 2), (1, .int code), (2, .int other), (3, .int (nI l)), (4, .int t), (5, .int w)]) dX11_chance_8 (by decide) rfl ?_
      refine V_aload_n dX11_chance_10 rfl ?_
      refine V_getR (b := 10) dX11_chance_11 fX11_41 ⟨Nat.le_of_ble_eq_true rfl, Nat.le_of_ble_eq_true rfl⟩ rfl rfl rfl ?_
      refine V_iload_n dX11_chance_14 rfl ?_
      refine V_callV (As := [.int other]) (st := []) (a := 10) dX11_chance_15 kX2_placeOf lX11_146 (by decide) rfl rfl (Nat.le_of_ble_eq_true rfl) ⟨Nat.le_of_ble_eq_true rfl, Nat.le_of_ble_eq_true rfl⟩ ⟨Nat.le_of_ble_eq_true rfl, Nat.le_of_ble_eq_true rfl⟩ rfl ⟨rfl, by decide⟩ (c_placeS hq) ?_
      rintro _ _ _ _ ⟨rfl, rfl, rfl, rfl⟩
      refine V_istore (ls' := [(7, .int (nI q)), (6, .int (nI p)), (0, .ref 2), (1, .int code), (2, .int other), (3, .int (nI l)), (4, .int t), (5, .int w)]) dX11_chance_18 (by decide) rfl ?_
      refine V_iload dX11_chance_20 rfl ?_
      refine V_iconst (v := nI 1) dX11_chance_22 rfl ?_
      refine V_icmp_neZ (tgt := 37) (a := t.toInt) (b := 1) dX11_chance_23 rfl rfl (by decide) (fun h23 => ?_) (fun h23 => ?_)
      · skip
        refine V_iload dX11_chance_37 rfl ?_
        refine V_iconst (v := nI 2) dX11_chance_39 rfl ?_
        refine V_icmp_neZ (tgt := 60) (a := t.toInt) (b := 2) dX11_chance_40 rfl rfl (by decide) (fun h40 => ?_) (fun h40 => ?_)
        · skip
          refine V_iconst (v := nI 0) dX11_chance_60 rfl ?_
          refine V_istore (ls' := [(8, .int (nI 0)), (7, .int (nI q)), (6, .int (nI p)), (0, .ref 2), (1, .int code), (2, .int other), (3, .int (nI l)), (4, .int t), (5, .int w)]) dX11_chance_61 (by decide) rfl ?_
          refine V_aload_n dX11_chance_63 rfl ?_
          refine V_iload dX11_chance_64 rfl ?_
          refine V_iload dX11_chance_66 rfl ?_
          refine V_iload_n dX11_chance_68 rfl ?_
          refine V_callV (As := [.int (nI p), .int (nI q), .int (nI l)]) (st := []) (a := 2) dX11_chance_69 kX11_isState lX11_152 (by decide) rfl rfl (Nat.le_of_ble_eq_true rfl) ⟨Nat.le_of_ble_eq_true rfl, Nat.le_of_ble_eq_true rfl⟩ ⟨Nat.le_of_ble_eq_true rfl, Nat.le_of_ble_eq_true rfl⟩ rfl ⟨rfl, by decide⟩ (c_isStateY hp56 hq56 hl1) ?_
          rintro _ _ _ _ ⟨rfl, rfl, rfl, rfl⟩
          refine V_if_eq (tgt := 80) dX11_chance_72 rfl (fun h => absurd h (by decide)) (fun _ => ?_)
          refine V_iload dX11_chance_75 rfl ?_
          refine V_if_ne (tgt := 82) dX11_chance_77 rfl (fun h => absurd h (by decide)) (fun _ => ?_)
          refine V_iconst (v := (-1)) dX11_chance_80 rfl ?_
          exact V_iret ⟨Or.inl rfl, dX11_chance_81⟩ ⟨Nat.le_of_ble_eq_true rfl, Nat.le_of_ble_eq_true rfl⟩ ⟨rfl, rfl, hE, Fr2_r⟩
        · skip
          refine V_iload dX11_chance_43 rfl ?_
          refine V_iconst (v := nI 4) dX11_chance_45 rfl ?_
          refine V_icmp_ltZ (tgt := 60) (a := w.toInt) (b := 4) dX11_chance_46 rfl rfl (by decide) (fun h46 => ?_) (fun h46 => ?_)
          · skip
            refine V_iconst (v := nI 0) dX11_chance_60 rfl ?_
            refine V_istore (ls' := [(8, .int (nI 0)), (7, .int (nI q)), (6, .int (nI p)), (0, .ref 2), (1, .int code), (2, .int other), (3, .int (nI l)), (4, .int t), (5, .int w)]) dX11_chance_61 (by decide) rfl ?_
            refine V_aload_n dX11_chance_63 rfl ?_
            refine V_iload dX11_chance_64 rfl ?_
            refine V_iload dX11_chance_66 rfl ?_
            refine V_iload_n dX11_chance_68 rfl ?_
            refine V_callV (As := [.int (nI p), .int (nI q), .int (nI l)]) (st := []) (a := 2) dX11_chance_69 kX11_isState lX11_152 (by decide) rfl rfl (Nat.le_of_ble_eq_true rfl) ⟨Nat.le_of_ble_eq_true rfl, Nat.le_of_ble_eq_true rfl⟩ ⟨Nat.le_of_ble_eq_true rfl, Nat.le_of_ble_eq_true rfl⟩ rfl ⟨rfl, by decide⟩ (c_isStateY hp56 hq56 hl1) ?_
            rintro _ _ _ _ ⟨rfl, rfl, rfl, rfl⟩
            refine V_if_eq (tgt := 80) dX11_chance_72 rfl (fun h => absurd h (by decide)) (fun _ => ?_)
            refine V_iload dX11_chance_75 rfl ?_
            refine V_if_ne (tgt := 82) dX11_chance_77 rfl (fun h => absurd h (by decide)) (fun _ => ?_)
            refine V_iconst (v := (-1)) dX11_chance_80 rfl ?_
            exact V_iret ⟨Or.inl rfl, dX11_chance_81⟩ ⟨Nat.le_of_ble_eq_true rfl, Nat.le_of_ble_eq_true rfl⟩ ⟨rfl, rfl, hE, Fr2_r⟩
          · skip
            refine V_iload dX11_chance_49 rfl ?_
            refine V_bipush (v := nI 6) dX11_chance_51 rfl ?_
            refine V_icmp_gtZ (tgt := 60) (a := w.toInt) (b := 6) dX11_chance_53 rfl rfl (by decide) (fun h53 => ?_) (fun h53 => ?_)
            · skip
              refine V_iconst (v := nI 0) dX11_chance_60 rfl ?_
              refine V_istore (ls' := [(8, .int (nI 0)), (7, .int (nI q)), (6, .int (nI p)), (0, .ref 2), (1, .int code), (2, .int other), (3, .int (nI l)), (4, .int t), (5, .int w)]) dX11_chance_61 (by decide) rfl ?_
              refine V_aload_n dX11_chance_63 rfl ?_
              refine V_iload dX11_chance_64 rfl ?_
              refine V_iload dX11_chance_66 rfl ?_
              refine V_iload_n dX11_chance_68 rfl ?_
              refine V_callV (As := [.int (nI p), .int (nI q), .int (nI l)]) (st := []) (a := 2) dX11_chance_69 kX11_isState lX11_152 (by decide) rfl rfl (Nat.le_of_ble_eq_true rfl) ⟨Nat.le_of_ble_eq_true rfl, Nat.le_of_ble_eq_true rfl⟩ ⟨Nat.le_of_ble_eq_true rfl, Nat.le_of_ble_eq_true rfl⟩ rfl ⟨rfl, by decide⟩ (c_isStateY hp56 hq56 hl1) ?_
              rintro _ _ _ _ ⟨rfl, rfl, rfl, rfl⟩
              refine V_if_eq (tgt := 80) dX11_chance_72 rfl (fun h => absurd h (by decide)) (fun _ => ?_)
              refine V_iload dX11_chance_75 rfl ?_
              refine V_if_ne (tgt := 82) dX11_chance_77 rfl (fun h => absurd h (by decide)) (fun _ => ?_)
              refine V_iconst (v := (-1)) dX11_chance_80 rfl ?_
              exact V_iret ⟨Or.inl rfl, dX11_chance_81⟩ ⟨Nat.le_of_ble_eq_true rfl, Nat.le_of_ble_eq_true rfl⟩ ⟨rfl, rfl, hE, Fr2_r⟩
            · skip
              exfalso; omega
      · skip
        refine V_iload dX11_chance_26 rfl ?_
        refine V_if_ltZ (tgt := 37) (a := w.toInt) dX11_chance_28 rfl rfl (fun h28 => ?_) (fun h28 => ?_)
        · skip
          refine V_iload dX11_chance_37 rfl ?_
          refine V_iconst (v := nI 2) dX11_chance_39 rfl ?_
          refine V_icmp_neZ (tgt := 60) (a := t.toInt) (b := 2) dX11_chance_40 rfl rfl (by decide) (fun h40 => ?_) (fun h40 => ?_)
          · skip
            refine V_iconst (v := nI 0) dX11_chance_60 rfl ?_
            refine V_istore (ls' := [(8, .int (nI 0)), (7, .int (nI q)), (6, .int (nI p)), (0, .ref 2), (1, .int code), (2, .int other), (3, .int (nI l)), (4, .int t), (5, .int w)]) dX11_chance_61 (by decide) rfl ?_
            refine V_aload_n dX11_chance_63 rfl ?_
            refine V_iload dX11_chance_64 rfl ?_
            refine V_iload dX11_chance_66 rfl ?_
            refine V_iload_n dX11_chance_68 rfl ?_
            refine V_callV (As := [.int (nI p), .int (nI q), .int (nI l)]) (st := []) (a := 2) dX11_chance_69 kX11_isState lX11_152 (by decide) rfl rfl (Nat.le_of_ble_eq_true rfl) ⟨Nat.le_of_ble_eq_true rfl, Nat.le_of_ble_eq_true rfl⟩ ⟨Nat.le_of_ble_eq_true rfl, Nat.le_of_ble_eq_true rfl⟩ rfl ⟨rfl, by decide⟩ (c_isStateY hp56 hq56 hl1) ?_
            rintro _ _ _ _ ⟨rfl, rfl, rfl, rfl⟩
            refine V_if_eq (tgt := 80) dX11_chance_72 rfl (fun h => absurd h (by decide)) (fun _ => ?_)
            refine V_iload dX11_chance_75 rfl ?_
            refine V_if_ne (tgt := 82) dX11_chance_77 rfl (fun h => absurd h (by decide)) (fun _ => ?_)
            refine V_iconst (v := (-1)) dX11_chance_80 rfl ?_
            exact V_iret ⟨Or.inl rfl, dX11_chance_81⟩ ⟨Nat.le_of_ble_eq_true rfl, Nat.le_of_ble_eq_true rfl⟩ ⟨rfl, rfl, hE, Fr2_r⟩
          · skip
            refine V_iload dX11_chance_43 rfl ?_
            refine V_iconst (v := nI 4) dX11_chance_45 rfl ?_
            refine V_icmp_ltZ (tgt := 60) (a := w.toInt) (b := 4) dX11_chance_46 rfl rfl (by decide) (fun h46 => ?_) (fun h46 => ?_)
            · skip
              refine V_iconst (v := nI 0) dX11_chance_60 rfl ?_
              refine V_istore (ls' := [(8, .int (nI 0)), (7, .int (nI q)), (6, .int (nI p)), (0, .ref 2), (1, .int code), (2, .int other), (3, .int (nI l)), (4, .int t), (5, .int w)]) dX11_chance_61 (by decide) rfl ?_
              refine V_aload_n dX11_chance_63 rfl ?_
              refine V_iload dX11_chance_64 rfl ?_
              refine V_iload dX11_chance_66 rfl ?_
              refine V_iload_n dX11_chance_68 rfl ?_
              refine V_callV (As := [.int (nI p), .int (nI q), .int (nI l)]) (st := []) (a := 2) dX11_chance_69 kX11_isState lX11_152 (by decide) rfl rfl (Nat.le_of_ble_eq_true rfl) ⟨Nat.le_of_ble_eq_true rfl, Nat.le_of_ble_eq_true rfl⟩ ⟨Nat.le_of_ble_eq_true rfl, Nat.le_of_ble_eq_true rfl⟩ rfl ⟨rfl, by decide⟩ (c_isStateY hp56 hq56 hl1) ?_
              rintro _ _ _ _ ⟨rfl, rfl, rfl, rfl⟩
              refine V_if_eq (tgt := 80) dX11_chance_72 rfl (fun h => absurd h (by decide)) (fun _ => ?_)
              refine V_iload dX11_chance_75 rfl ?_
              refine V_if_ne (tgt := 82) dX11_chance_77 rfl (fun h => absurd h (by decide)) (fun _ => ?_)
              refine V_iconst (v := (-1)) dX11_chance_80 rfl ?_
              exact V_iret ⟨Or.inl rfl, dX11_chance_81⟩ ⟨Nat.le_of_ble_eq_true rfl, Nat.le_of_ble_eq_true rfl⟩ ⟨rfl, rfl, hE, Fr2_r⟩
            · skip
              refine V_iload dX11_chance_49 rfl ?_
              refine V_bipush (v := nI 6) dX11_chance_51 rfl ?_
              refine V_icmp_gtZ (tgt := 60) (a := w.toInt) (b := 6) dX11_chance_53 rfl rfl (by decide) (fun h53 => ?_) (fun h53 => ?_)
              · skip
                refine V_iconst (v := nI 0) dX11_chance_60 rfl ?_
                refine V_istore (ls' := [(8, .int (nI 0)), (7, .int (nI q)), (6, .int (nI p)), (0, .ref 2), (1, .int code), (2, .int other), (3, .int (nI l)), (4, .int t), (5, .int w)]) dX11_chance_61 (by decide) rfl ?_
                refine V_aload_n dX11_chance_63 rfl ?_
                refine V_iload dX11_chance_64 rfl ?_
                refine V_iload dX11_chance_66 rfl ?_
                refine V_iload_n dX11_chance_68 rfl ?_
                refine V_callV (As := [.int (nI p), .int (nI q), .int (nI l)]) (st := []) (a := 2) dX11_chance_69 kX11_isState lX11_152 (by decide) rfl rfl (Nat.le_of_ble_eq_true rfl) ⟨Nat.le_of_ble_eq_true rfl, Nat.le_of_ble_eq_true rfl⟩ ⟨Nat.le_of_ble_eq_true rfl, Nat.le_of_ble_eq_true rfl⟩ rfl ⟨rfl, by decide⟩ (c_isStateY hp56 hq56 hl1) ?_
                rintro _ _ _ _ ⟨rfl, rfl, rfl, rfl⟩
                refine V_if_eq (tgt := 80) dX11_chance_72 rfl (fun h => absurd h (by decide)) (fun _ => ?_)
                refine V_iload dX11_chance_75 rfl ?_
                refine V_if_ne (tgt := 82) dX11_chance_77 rfl (fun h => absurd h (by decide)) (fun _ => ?_)
                refine V_iconst (v := (-1)) dX11_chance_80 rfl ?_
                exact V_iret ⟨Or.inl rfl, dX11_chance_81⟩ ⟨Nat.le_of_ble_eq_true rfl, Nat.le_of_ble_eq_true rfl⟩ ⟨rfl, rfl, hE, Fr2_r⟩
              · skip
                exfalso; omega
        · skip
          refine V_iload dX11_chance_31 rfl ?_
          refine V_iconst (v := nI 3) dX11_chance_33 rfl ?_
          refine V_icmp_leZ (tgt := 56) (a := w.toInt) (b := 3) dX11_chance_34 rfl rfl (by decide) (fun h34 => ?_) (fun h34 => ?_)
          · skip
            exfalso; omega
          · skip
            refine V_iload dX11_chance_37 rfl ?_
            refine V_iconst (v := nI 2) dX11_chance_39 rfl ?_
            refine V_icmp_neZ (tgt := 60) (a := t.toInt) (b := 2) dX11_chance_40 rfl rfl (by decide) (fun h40 => ?_) (fun h40 => ?_)
            · skip
              refine V_iconst (v := nI 0) dX11_chance_60 rfl ?_
              refine V_istore (ls' := [(8, .int (nI 0)), (7, .int (nI q)), (6, .int (nI p)), (0, .ref 2), (1, .int code), (2, .int other), (3, .int (nI l)), (4, .int t), (5, .int w)]) dX11_chance_61 (by decide) rfl ?_
              refine V_aload_n dX11_chance_63 rfl ?_
              refine V_iload dX11_chance_64 rfl ?_
              refine V_iload dX11_chance_66 rfl ?_
              refine V_iload_n dX11_chance_68 rfl ?_
              refine V_callV (As := [.int (nI p), .int (nI q), .int (nI l)]) (st := []) (a := 2) dX11_chance_69 kX11_isState lX11_152 (by decide) rfl rfl (Nat.le_of_ble_eq_true rfl) ⟨Nat.le_of_ble_eq_true rfl, Nat.le_of_ble_eq_true rfl⟩ ⟨Nat.le_of_ble_eq_true rfl, Nat.le_of_ble_eq_true rfl⟩ rfl ⟨rfl, by decide⟩ (c_isStateY hp56 hq56 hl1) ?_
              rintro _ _ _ _ ⟨rfl, rfl, rfl, rfl⟩
              refine V_if_eq (tgt := 80) dX11_chance_72 rfl (fun h => absurd h (by decide)) (fun _ => ?_)
              refine V_iload dX11_chance_75 rfl ?_
              refine V_if_ne (tgt := 82) dX11_chance_77 rfl (fun h => absurd h (by decide)) (fun _ => ?_)
              refine V_iconst (v := (-1)) dX11_chance_80 rfl ?_
              exact V_iret ⟨Or.inl rfl, dX11_chance_81⟩ ⟨Nat.le_of_ble_eq_true rfl, Nat.le_of_ble_eq_true rfl⟩ ⟨rfl, rfl, hE, Fr2_r⟩
            · skip
              refine V_iload dX11_chance_43 rfl ?_
              refine V_iconst (v := nI 4) dX11_chance_45 rfl ?_
              refine V_icmp_ltZ (tgt := 60) (a := w.toInt) (b := 4) dX11_chance_46 rfl rfl (by decide) (fun h46 => ?_) (fun h46 => ?_)
              · skip
                refine V_iconst (v := nI 0) dX11_chance_60 rfl ?_
                refine V_istore (ls' := [(8, .int (nI 0)), (7, .int (nI q)), (6, .int (nI p)), (0, .ref 2), (1, .int code), (2, .int other), (3, .int (nI l)), (4, .int t), (5, .int w)]) dX11_chance_61 (by decide) rfl ?_
                refine V_aload_n dX11_chance_63 rfl ?_
                refine V_iload dX11_chance_64 rfl ?_
                refine V_iload dX11_chance_66 rfl ?_
                refine V_iload_n dX11_chance_68 rfl ?_
                refine V_callV (As := [.int (nI p), .int (nI q), .int (nI l)]) (st := []) (a := 2) dX11_chance_69 kX11_isState lX11_152 (by decide) rfl rfl (Nat.le_of_ble_eq_true rfl) ⟨Nat.le_of_ble_eq_true rfl, Nat.le_of_ble_eq_true rfl⟩ ⟨Nat.le_of_ble_eq_true rfl, Nat.le_of_ble_eq_true rfl⟩ rfl ⟨rfl, by decide⟩ (c_isStateY hp56 hq56 hl1) ?_
                rintro _ _ _ _ ⟨rfl, rfl, rfl, rfl⟩
                refine V_if_eq (tgt := 80) dX11_chance_72 rfl (fun h => absurd h (by decide)) (fun _ => ?_)
                refine V_iload dX11_chance_75 rfl ?_
                refine V_if_ne (tgt := 82) dX11_chance_77 rfl (fun h => absurd h (by decide)) (fun _ => ?_)
                refine V_iconst (v := (-1)) dX11_chance_80 rfl ?_
                exact V_iret ⟨Or.inl rfl, dX11_chance_81⟩ ⟨Nat.le_of_ble_eq_true rfl, Nat.le_of_ble_eq_true rfl⟩ ⟨rfl, rfl, hE, Fr2_r⟩
              · skip
                refine V_iload dX11_chance_49 rfl ?_
                refine V_bipush (v := nI 6) dX11_chance_51 rfl ?_
                refine V_icmp_gtZ (tgt := 60) (a := w.toInt) (b := 6) dX11_chance_53 rfl rfl (by decide) (fun h53 => ?_) (fun h53 => ?_)
                · skip
                  refine V_iconst (v := nI 0) dX11_chance_60 rfl ?_
                  refine V_istore (ls' := [(8, .int (nI 0)), (7, .int (nI q)), (6, .int (nI p)), (0, .ref 2), (1, .int code), (2, .int other), (3, .int (nI l)), (4, .int t), (5, .int w)]) dX11_chance_61 (by decide) rfl ?_
                  refine V_aload_n dX11_chance_63 rfl ?_
                  refine V_iload dX11_chance_64 rfl ?_
                  refine V_iload dX11_chance_66 rfl ?_
                  refine V_iload_n dX11_chance_68 rfl ?_
                  refine V_callV (As := [.int (nI p), .int (nI q), .int (nI l)]) (st := []) (a := 2) dX11_chance_69 kX11_isState lX11_152 (by decide) rfl rfl (Nat.le_of_ble_eq_true rfl) ⟨Nat.le_of_ble_eq_true rfl, Nat.le_of_ble_eq_true rfl⟩ ⟨Nat.le_of_ble_eq_true rfl, Nat.le_of_ble_eq_true rfl⟩ rfl ⟨rfl, by decide⟩ (c_isStateY hp56 hq56 hl1) ?_
                  rintro _ _ _ _ ⟨rfl, rfl, rfl, rfl⟩
                  refine V_if_eq (tgt := 80) dX11_chance_72 rfl (fun h => absurd h (by decide)) (fun _ => ?_)
                  refine V_iload dX11_chance_75 rfl ?_
                  refine V_if_ne (tgt := 82) dX11_chance_77 rfl (fun h => absurd h (by decide)) (fun _ => ?_)
                  refine V_iconst (v := (-1)) dX11_chance_80 rfl ?_
                  exact V_iret ⟨Or.inl rfl, dX11_chance_81⟩ ⟨Nat.le_of_ble_eq_true rfl, Nat.le_of_ble_eq_true rfl⟩ ⟨rfl, rfl, hE, Fr2_r⟩
                · skip
                  exfalso; omega
    · obtain ⟨rfl, hk⟩ := prO_s hpr
      rcases hk with ⟨rfl, hk⟩ | ⟨rfl, hk⟩
      · skip
        refine V_aload_n dX11_chance_0 rfl ?_
        refine V_getR (b := 10) dX11_chance_1 fX11_41 ⟨Nat.le_of_ble_eq_true rfl, Nat.le_of_ble_eq_true rfl⟩ rfl rfl rfl ?_
        refine V_iload_n dX11_chance_4 rfl ?_
        refine V_callV (As := [.int code]) (st := []) (a := 10) dX11_chance_5 kX2_placeOf lX11_146 (by decide) rfl rfl (Nat.le_of_ble_eq_true rfl) ⟨Nat.le_of_ble_eq_true rfl, Nat.le_of_ble_eq_true rfl⟩ ⟨Nat.le_of_ble_eq_true rfl, Nat.le_of_ble_eq_true rfl⟩ rfl ⟨rfl, by decide⟩ (c_placeS hp) ?_
        rintro _ _ _ _ ⟨rfl, rfl, rfl, rfl⟩
        refine V_istore (ls' := [(6, .int (nI p)), (0, .ref 2), (1, .int code), (2, .int other), (3, .int (nI l)), (4, .int (nI 1)), (5, .int (nI k))]) dX11_chance_8 (by decide) rfl ?_
        refine V_aload_n dX11_chance_10 rfl ?_
        refine V_getR (b := 10) dX11_chance_11 fX11_41 ⟨Nat.le_of_ble_eq_true rfl, Nat.le_of_ble_eq_true rfl⟩ rfl rfl rfl ?_
        refine V_iload_n dX11_chance_14 rfl ?_
        refine V_callV (As := [.int other]) (st := []) (a := 10) dX11_chance_15 kX2_placeOf lX11_146 (by decide) rfl rfl (Nat.le_of_ble_eq_true rfl) ⟨Nat.le_of_ble_eq_true rfl, Nat.le_of_ble_eq_true rfl⟩ ⟨Nat.le_of_ble_eq_true rfl, Nat.le_of_ble_eq_true rfl⟩ rfl ⟨rfl, by decide⟩ (c_placeS hq) ?_
        rintro _ _ _ _ ⟨rfl, rfl, rfl, rfl⟩
        refine V_istore (ls' := [(7, .int (nI q)), (6, .int (nI p)), (0, .ref 2), (1, .int code), (2, .int other), (3, .int (nI l)), (4, .int (nI 1)), (5, .int (nI k))]) dX11_chance_18 (by decide) rfl ?_
        refine V_iload dX11_chance_20 rfl ?_
        refine V_iconst (v := nI 1) dX11_chance_22 rfl ?_
        refine V_icmp_ne (tgt := 37) dX11_chance_23 rfl (fun h => absurd h (by decide)) (fun _ => ?_)
        refine V_iload dX11_chance_26 rfl ?_
        refine V_if_ltN (tgt := 37) dX11_chance_28 rfl (by omega) ?_
        refine V_iload dX11_chance_31 rfl ?_
        refine V_iconst (v := nI 3) dX11_chance_33 rfl ?_
        refine V_icmp_leN (tgt := 56) dX11_chance_34 rfl (by omega) (by omega) (fun _ => ?_) (fun h => absurd h (by omega))
        refine V_iconst (v := nI 1) dX11_chance_56 rfl ?_
        refine V_goto (tgt := 61) dX11_chance_57 rfl ?_
        refine V_istore (ls' := [(8, .int (nI 1)), (7, .int (nI q)), (6, .int (nI p)), (0, .ref 2), (1, .int code), (2, .int other), (3, .int (nI l)), (4, .int (nI 1)), (5, .int (nI k))]) dX11_chance_61 (by decide) rfl ?_
        refine V_aload_n dX11_chance_63 rfl ?_
        refine V_iload dX11_chance_64 rfl ?_
        refine V_iload dX11_chance_66 rfl ?_
        refine V_iload_n dX11_chance_68 rfl ?_
        refine V_callV (As := [.int (nI p), .int (nI q), .int (nI l)]) (st := []) (a := 2) dX11_chance_69 kX11_isState lX11_152 (by decide) rfl rfl (Nat.le_of_ble_eq_true rfl) ⟨Nat.le_of_ble_eq_true rfl, Nat.le_of_ble_eq_true rfl⟩ ⟨Nat.le_of_ble_eq_true rfl, Nat.le_of_ble_eq_true rfl⟩ rfl ⟨rfl, by decide⟩ (c_isStateY hp56 hq56 hl1) ?_
        rintro _ _ _ _ ⟨rfl, rfl, rfl, rfl⟩
        refine V_if_eq (tgt := 80) dX11_chance_72 rfl (fun h => absurd h (by decide)) (fun _ => ?_)
        refine V_iload dX11_chance_75 rfl ?_
        refine V_if_ne (tgt := 82) dX11_chance_77 rfl (fun _ => ?_) (fun h => absurd h (by decide))
        refine V_aload_n dX11_chance_82 rfl ?_
        refine V_getR (b := 10) dX11_chance_83 fX11_41 ⟨Nat.le_of_ble_eq_true rfl, Nat.le_of_ble_eq_true rfl⟩ rfl rfl rfl ?_
        refine V_iload dX11_chance_86 rfl ?_
        refine V_iload dX11_chance_88 rfl ?_
        refine V_iload_n dX11_chance_90 rfl ?_
        refine V_callV (As := [.int (nI p), .int (nI q), .int (nI l)]) (st := []) (a := 10) dX11_chance_91 kX2_whoPlays lX11_156 (by decide) rfl rfl (Nat.le_of_ble_eq_true rfl) ⟨Nat.le_of_ble_eq_true rfl, Nat.le_of_ble_eq_true rfl⟩ ⟨Nat.le_of_ble_eq_true rfl, Nat.le_of_ble_eq_true rfl⟩ rfl ⟨rfl, by decide⟩ (c_whoPlays (eA_T hE) hp56 hq56 hl1) ?_
        rintro _ _ _ _ ⟨rfl, rfl, rfl, rfl⟩
        refine V_istore (ls' := [(9, .int (nI (sWho p q l))), (8, .int (nI 1)), (7, .int (nI q)), (6, .int (nI p)), (0, .ref 2), (1, .int code), (2, .int other), (3, .int (nI l)), (4, .int (nI 1)), (5, .int (nI k))]) dX11_chance_94 (by decide) rfl ?_
        refine V_iload dX11_chance_96 rfl ?_
        refine V_iconst (v := nI 2) dX11_chance_98 rfl ?_
        refine V_icmp_eqN (tgt := 124) dX11_chance_99 rfl (by omega) (by omega) (fun h99 => ?_) (fun h99 => ?_)
        · skip
          refine V_iconst (v := (-1)) dX11_chance_124 rfl ?_
          exact V_iret ⟨Or.inl rfl, dX11_chance_125⟩ ⟨Nat.le_of_ble_eq_true rfl, Nat.le_of_ble_eq_true rfl⟩ ⟨rfl, congrArg (fun z => some (Value.int z)) (if_pos (by first | exact Or.inl h99 | exact Or.inr ⟨by omega, hcs⟩)).symm, hE, Fr2_r⟩
        · skip
          have hs := sWho_ok hp56 hq56 hl1 h99
          refine V_iload dX11_chance_102 rfl ?_
          refine V_iconst (v := nI 2) dX11_chance_104 rfl ?_
          refine V_icmp_ne (tgt := 126) dX11_chance_105 rfl (fun _ => ?_) (fun h => absurd h (by decide))
          refine V_aload_n dX11_chance_126 rfl ?_
          refine V_getR (b := 9) dX11_chance_127 fX11_33 ⟨Nat.le_of_ble_eq_true rfl, Nat.le_of_ble_eq_true rfl⟩ rfl rfl rfl ?_
          refine V_aload_n dX11_chance_130 rfl ?_
          refine V_getI dX11_chance_131 fX11_7 ⟨Nat.le_of_ble_eq_true rfl, Nat.le_of_ble_eq_true rfl⟩ rfl rfl ?_
          refine V_eqI (y := nI far) hf ?_
          refine V_callV (As := [.int (nI far)]) (st := []) (a := 9) dX11_chance_134 kX3_standAt lX11_167 (by decide) rfl rfl (Nat.le_of_ble_eq_true rfl) ⟨Nat.le_of_ble_eq_true rfl, Nat.le_of_ble_eq_true rfl⟩ ⟨Nat.le_of_ble_eq_true rfl, Nat.le_of_ble_eq_true rfl⟩ rfl ⟨rfl, by decide⟩ (c_standA h10 hE) ?_
          rintro r sh' I1 J1 ⟨rfl, rfl, hE1, hF1, hJ1⟩
          refine V_aload_n dX11_chance_137 rfl ?_
          refine V_getR (b := 9) dX11_chance_138 fX11_33 ⟨Nat.le_of_ble_eq_true rfl, Nat.le_of_ble_eq_true rfl⟩ rfl rfl rfl ?_
          refine V_iload dX11_chance_141 rfl ?_
          refine V_iload dX11_chance_143 rfl ?_
          refine V_iload_n dX11_chance_145 rfl ?_
          refine V_iload dX11_chance_146 rfl ?_
          refine V_callV (As := [.int (nI p), .int (nI q), .int (nI l), .int (nI k)]) (st := []) (a := 9) dX11_chance_148 kX3_hundredths lX11_170 (by decide) rfl rfl (Nat.le_of_ble_eq_true rfl) ⟨Nat.le_of_ble_eq_true rfl, Nat.le_of_ble_eq_true rfl⟩ ⟨Nat.le_of_ble_eq_true rfl, Nat.le_of_ble_eq_true rfl⟩ rfl ⟨rfl, by decide⟩ (c_hundA hs (by omega) hE1) ?_
          rintro r sh' I2 J2 ⟨rfl, rfl, hE2, hF2⟩
          exact V_iret ⟨Or.inl rfl, dX11_chance_151⟩ ⟨Nat.le_of_ble_eq_true rfl, Nat.le_of_ble_eq_true rfl⟩ ⟨rfl, congrArg (fun z => some (Value.int z)) (if_neg (fun h => h.elim h99 (fun h => by first | exact h.2 hcs | (have := h.1; omega)))).symm, eAf_A hE2 h10, Fr2_t hF1 hF2⟩
      · skip
        refine V_aload_n dX11_chance_0 rfl ?_
        refine V_getR (b := 10) dX11_chance_1 fX11_41 ⟨Nat.le_of_ble_eq_true rfl, Nat.le_of_ble_eq_true rfl⟩ rfl rfl rfl ?_
        refine V_iload_n dX11_chance_4 rfl ?_
        refine V_callV (As := [.int code]) (st := []) (a := 10) dX11_chance_5 kX2_placeOf lX11_146 (by decide) rfl rfl (Nat.le_of_ble_eq_true rfl) ⟨Nat.le_of_ble_eq_true rfl, Nat.le_of_ble_eq_true rfl⟩ ⟨Nat.le_of_ble_eq_true rfl, Nat.le_of_ble_eq_true rfl⟩ rfl ⟨rfl, by decide⟩ (c_placeS hp) ?_
        rintro _ _ _ _ ⟨rfl, rfl, rfl, rfl⟩
        refine V_istore (ls' := [(6, .int (nI p)), (0, .ref 2), (1, .int code), (2, .int other), (3, .int (nI l)), (4, .int (nI 2)), (5, .int (nI k))]) dX11_chance_8 (by decide) rfl ?_
        refine V_aload_n dX11_chance_10 rfl ?_
        refine V_getR (b := 10) dX11_chance_11 fX11_41 ⟨Nat.le_of_ble_eq_true rfl, Nat.le_of_ble_eq_true rfl⟩ rfl rfl rfl ?_
        refine V_iload_n dX11_chance_14 rfl ?_
        refine V_callV (As := [.int other]) (st := []) (a := 10) dX11_chance_15 kX2_placeOf lX11_146 (by decide) rfl rfl (Nat.le_of_ble_eq_true rfl) ⟨Nat.le_of_ble_eq_true rfl, Nat.le_of_ble_eq_true rfl⟩ ⟨Nat.le_of_ble_eq_true rfl, Nat.le_of_ble_eq_true rfl⟩ rfl ⟨rfl, by decide⟩ (c_placeS hq) ?_
        rintro _ _ _ _ ⟨rfl, rfl, rfl, rfl⟩
        refine V_istore (ls' := [(7, .int (nI q)), (6, .int (nI p)), (0, .ref 2), (1, .int code), (2, .int other), (3, .int (nI l)), (4, .int (nI 2)), (5, .int (nI k))]) dX11_chance_18 (by decide) rfl ?_
        refine V_iload dX11_chance_20 rfl ?_
        refine V_iconst (v := nI 1) dX11_chance_22 rfl ?_
        refine V_icmp_ne (tgt := 37) dX11_chance_23 rfl (fun _ => ?_) (fun h => absurd h (by decide))
        refine V_iload dX11_chance_37 rfl ?_
        refine V_iconst (v := nI 2) dX11_chance_39 rfl ?_
        refine V_icmp_ne (tgt := 60) dX11_chance_40 rfl (fun h => absurd h (by decide)) (fun _ => ?_)
        refine V_iload dX11_chance_43 rfl ?_
        refine V_iconst (v := nI 4) dX11_chance_45 rfl ?_
        refine V_icmp_ltN (tgt := 60) dX11_chance_46 rfl (by omega) (by omega) (fun h => absurd h (by omega)) (fun _ => ?_)
        refine V_iload dX11_chance_49 rfl ?_
        refine V_bipush (v := nI 6) dX11_chance_51 rfl ?_
        refine V_icmp_gtN (tgt := 60) dX11_chance_53 rfl (by omega) (by omega) (fun h => absurd h (by omega)) (fun _ => ?_)
        refine V_iconst (v := nI 1) dX11_chance_56 rfl ?_
        refine V_goto (tgt := 61) dX11_chance_57 rfl ?_
        refine V_istore (ls' := [(8, .int (nI 1)), (7, .int (nI q)), (6, .int (nI p)), (0, .ref 2), (1, .int code), (2, .int other), (3, .int (nI l)), (4, .int (nI 2)), (5, .int (nI k))]) dX11_chance_61 (by decide) rfl ?_
        refine V_aload_n dX11_chance_63 rfl ?_
        refine V_iload dX11_chance_64 rfl ?_
        refine V_iload dX11_chance_66 rfl ?_
        refine V_iload_n dX11_chance_68 rfl ?_
        refine V_callV (As := [.int (nI p), .int (nI q), .int (nI l)]) (st := []) (a := 2) dX11_chance_69 kX11_isState lX11_152 (by decide) rfl rfl (Nat.le_of_ble_eq_true rfl) ⟨Nat.le_of_ble_eq_true rfl, Nat.le_of_ble_eq_true rfl⟩ ⟨Nat.le_of_ble_eq_true rfl, Nat.le_of_ble_eq_true rfl⟩ rfl ⟨rfl, by decide⟩ (c_isStateY hp56 hq56 hl1) ?_
        rintro _ _ _ _ ⟨rfl, rfl, rfl, rfl⟩
        refine V_if_eq (tgt := 80) dX11_chance_72 rfl (fun h => absurd h (by decide)) (fun _ => ?_)
        refine V_iload dX11_chance_75 rfl ?_
        refine V_if_ne (tgt := 82) dX11_chance_77 rfl (fun _ => ?_) (fun h => absurd h (by decide))
        refine V_aload_n dX11_chance_82 rfl ?_
        refine V_getR (b := 10) dX11_chance_83 fX11_41 ⟨Nat.le_of_ble_eq_true rfl, Nat.le_of_ble_eq_true rfl⟩ rfl rfl rfl ?_
        refine V_iload dX11_chance_86 rfl ?_
        refine V_iload dX11_chance_88 rfl ?_
        refine V_iload_n dX11_chance_90 rfl ?_
        refine V_callV (As := [.int (nI p), .int (nI q), .int (nI l)]) (st := []) (a := 10) dX11_chance_91 kX2_whoPlays lX11_156 (by decide) rfl rfl (Nat.le_of_ble_eq_true rfl) ⟨Nat.le_of_ble_eq_true rfl, Nat.le_of_ble_eq_true rfl⟩ ⟨Nat.le_of_ble_eq_true rfl, Nat.le_of_ble_eq_true rfl⟩ rfl ⟨rfl, by decide⟩ (c_whoPlays (eA_T hE) hp56 hq56 hl1) ?_
        rintro _ _ _ _ ⟨rfl, rfl, rfl, rfl⟩
        refine V_istore (ls' := [(9, .int (nI (sWho p q l))), (8, .int (nI 1)), (7, .int (nI q)), (6, .int (nI p)), (0, .ref 2), (1, .int code), (2, .int other), (3, .int (nI l)), (4, .int (nI 2)), (5, .int (nI k))]) dX11_chance_94 (by decide) rfl ?_
        refine V_iload dX11_chance_96 rfl ?_
        refine V_iconst (v := nI 2) dX11_chance_98 rfl ?_
        refine V_icmp_eqN (tgt := 124) dX11_chance_99 rfl (by omega) (by omega) (fun h99 => ?_) (fun h99 => ?_)
        · skip
          refine V_iconst (v := (-1)) dX11_chance_124 rfl ?_
          exact V_iret ⟨Or.inl rfl, dX11_chance_125⟩ ⟨Nat.le_of_ble_eq_true rfl, Nat.le_of_ble_eq_true rfl⟩ ⟨rfl, congrArg (fun z => some (Value.int z)) (if_pos (by first | exact Or.inl h99 | exact Or.inr ⟨by omega, hcs⟩)).symm, hE, Fr2_r⟩
        · skip
          have hs := sWho_ok hp56 hq56 hl1 h99
          refine V_iload dX11_chance_102 rfl ?_
          refine V_iconst (v := nI 2) dX11_chance_104 rfl ?_
          refine V_icmp_ne (tgt := 126) dX11_chance_105 rfl (fun h => absurd h (by decide)) (fun _ => ?_)
          refine V_aload_n dX11_chance_108 rfl ?_
          refine V_getR (b := 10) dX11_chance_109 fX11_41 ⟨Nat.le_of_ble_eq_true rfl, Nat.le_of_ble_eq_true rfl⟩ rfl rfl rfl ?_
          refine V_iload dX11_chance_112 rfl ?_
          refine V_iload dX11_chance_114 rfl ?_
          refine V_iload dX11_chance_116 rfl ?_
          by_cases hcs : sCan p q (sWho p q l) = true
          · skip
            refine V_callV (As := [.int (nI p), .int (nI q), .int (nI (sWho p q l))]) (st := []) (a := 10) dX11_chance_118 kX2_canShoot lX11_164 (by decide) rfl rfl (Nat.le_of_ble_eq_true rfl) ⟨Nat.le_of_ble_eq_true rfl, Nat.le_of_ble_eq_true rfl⟩ ⟨Nat.le_of_ble_eq_true rfl, Nat.le_of_ble_eq_true rfl⟩ rfl ⟨rfl, by decide⟩ (q_y (c_canShoot (eA_T hE) hp56 hq56 (sWho_le1 hp56 hq56 hs.2.2.2)) hcs) ?_
            rintro _ _ _ _ ⟨rfl, rfl, rfl, rfl⟩
            refine V_if_ne (tgt := 126) dX11_chance_121 rfl (fun _ => ?_) (fun h => absurd h (by decide))
            refine V_aload_n dX11_chance_126 rfl ?_
            refine V_getR (b := 9) dX11_chance_127 fX11_33 ⟨Nat.le_of_ble_eq_true rfl, Nat.le_of_ble_eq_true rfl⟩ rfl rfl rfl ?_
            refine V_aload_n dX11_chance_130 rfl ?_
            refine V_getI dX11_chance_131 fX11_7 ⟨Nat.le_of_ble_eq_true rfl, Nat.le_of_ble_eq_true rfl⟩ rfl rfl ?_
            refine V_eqI (y := nI far) hf ?_
            refine V_callV (As := [.int (nI far)]) (st := []) (a := 9) dX11_chance_134 kX3_standAt lX11_167 (by decide) rfl rfl (Nat.le_of_ble_eq_true rfl) ⟨Nat.le_of_ble_eq_true rfl, Nat.le_of_ble_eq_true rfl⟩ ⟨Nat.le_of_ble_eq_true rfl, Nat.le_of_ble_eq_true rfl⟩ rfl ⟨rfl, by decide⟩ (c_standA h10 hE) ?_
            rintro r sh' I1 J1 ⟨rfl, rfl, hE1, hF1, hJ1⟩
            refine V_aload_n dX11_chance_137 rfl ?_
            refine V_getR (b := 9) dX11_chance_138 fX11_33 ⟨Nat.le_of_ble_eq_true rfl, Nat.le_of_ble_eq_true rfl⟩ rfl rfl rfl ?_
            refine V_iload dX11_chance_141 rfl ?_
            refine V_iload dX11_chance_143 rfl ?_
            refine V_iload_n dX11_chance_145 rfl ?_
            refine V_iload dX11_chance_146 rfl ?_
            refine V_callV (As := [.int (nI p), .int (nI q), .int (nI l), .int (nI k)]) (st := []) (a := 9) dX11_chance_148 kX3_hundredths lX11_170 (by decide) rfl rfl (Nat.le_of_ble_eq_true rfl) ⟨Nat.le_of_ble_eq_true rfl, Nat.le_of_ble_eq_true rfl⟩ ⟨Nat.le_of_ble_eq_true rfl, Nat.le_of_ble_eq_true rfl⟩ rfl ⟨rfl, by decide⟩ (c_hundA hs (by omega) hE1) ?_
            rintro r sh' I2 J2 ⟨rfl, rfl, hE2, hF2⟩
            exact V_iret ⟨Or.inl rfl, dX11_chance_151⟩ ⟨Nat.le_of_ble_eq_true rfl, Nat.le_of_ble_eq_true rfl⟩ ⟨rfl, congrArg (fun z => some (Value.int z)) (if_neg (fun h => h.elim h99 (fun h => by first | exact h.2 hcs | (have := h.1; omega)))).symm, eAf_A hE2 h10, Fr2_t hF1 hF2⟩
          · skip
            refine V_callV (As := [.int (nI p), .int (nI q), .int (nI (sWho p q l))]) (st := []) (a := 10) dX11_chance_118 kX2_canShoot lX11_164 (by decide) rfl rfl (Nat.le_of_ble_eq_true rfl) ⟨Nat.le_of_ble_eq_true rfl, Nat.le_of_ble_eq_true rfl⟩ ⟨Nat.le_of_ble_eq_true rfl, Nat.le_of_ble_eq_true rfl⟩ rfl ⟨rfl, by decide⟩ (q_n (c_canShoot (eA_T hE) hp56 hq56 (sWho_le1 hp56 hq56 hs.2.2.2)) hcs) ?_
            rintro _ _ _ _ ⟨rfl, rfl, rfl, rfl⟩
            refine V_if_ne (tgt := 126) dX11_chance_121 rfl (fun h => absurd h (by decide)) (fun _ => ?_)
            refine V_iconst (v := (-1)) dX11_chance_124 rfl ?_
            exact V_iret ⟨Or.inl rfl, dX11_chance_125⟩ ⟨Nat.le_of_ble_eq_true rfl, Nat.le_of_ble_eq_true rfl⟩ ⟨rfl, congrArg (fun z => some (Value.int z)) (if_pos (by first | exact Or.inl h99 | exact Or.inr ⟨by omega, hcs⟩)).symm, hE, Fr2_r⟩

set_option maxRecDepth 100000 in
set_option maxHeartbeats 4000000 in
theorem c_best {G : zG} {I : zI} {J : zJ} {Lf : Nat → (Nat → Int32) → Int32} {Rl : Nat → Nat → (Nat → Int32) → Int32} {far : Nat} (hE : eA Lf Rl I J) (hf : I 2 0 = nI far) (h6 : 6 ≤ far) (h10 : far ≤ 10) {code other last w : Int32} : zK G mX11_best 19 [.ref 2, .int code, .int other, .int last, .int w] zsh I J (zP (fun r I' J' => r = some (.long (onS (stO code other last) (-2000000000000000000) (fun p q l => on01 w (-2000000000000000000) (vX 1 (-1) (-1) Rl Lf far p q l).1 (thrX 1 (-1) (-1) Rl Lf far p q l).toInt64))) ∧ eA Lf Rl I' J' ∧ Fr2 I J I' J')) := by
  refine zK_of kX11_best.2.2.2.2.1 (Nat.le_of_ble_eq_true rfl) ?_
  show V G mX11_best 19 _ 0 [(0, .ref 2), (1, .int code), (2, .int other), (3, .int last), (4, .int w)] [] (0, 0) zsh I J
  rcases hst : stO code other last with _ | ⟨p, q, l⟩
  · have hsn := stO_n hst
    refine V_aload_n dX11_best_0 rfl ?_
    refine V_getR (b := 10) dX11_best_1 fX11_41 ⟨Nat.le_of_ble_eq_true rfl, Nat.le_of_ble_eq_true rfl⟩ rfl rfl rfl ?_
    refine V_iload_n dX11_best_4 rfl ?_
    refine V_callV (As := [.int code]) (st := []) (a := 10) dX11_best_5 kX2_placeOf lX11_146 (by decide) rfl rfl (Nat.le_of_ble_eq_true rfl) ⟨Nat.le_of_ble_eq_true rfl, Nat.le_of_ble_eq_true rfl⟩ ⟨Nat.le_of_ble_eq_true rfl, Nat.le_of_ble_eq_true rfl⟩ rfl ⟨rfl, by decide⟩ c_placeOf2 ?_
    rintro _ _ _ _ ⟨rfl, rfl, rfl, rfl⟩
    refine V_istore (ls' := [(5, .int (pen (zpl code))), (0, .ref 2), (1, .int code), (2, .int other), (3, .int last), (4, .int w)]) dX11_best_8 (by decide) rfl ?_
    refine V_aload_n dX11_best_10 rfl ?_
    refine V_getR (b := 10) dX11_best_11 fX11_41 ⟨Nat.le_of_ble_eq_true rfl, Nat.le_of_ble_eq_true rfl⟩ rfl rfl rfl ?_
    refine V_iload_n dX11_best_14 rfl ?_
    refine V_callV (As := [.int other]) (st := []) (a := 10) dX11_best_15 kX2_placeOf lX11_146 (by decide) rfl rfl (Nat.le_of_ble_eq_true rfl) ⟨Nat.le_of_ble_eq_true rfl, Nat.le_of_ble_eq_true rfl⟩ ⟨Nat.le_of_ble_eq_true rfl, Nat.le_of_ble_eq_true rfl⟩ rfl ⟨rfl, by decide⟩ c_placeOf2 ?_
    rintro _ _ _ _ ⟨rfl, rfl, rfl, rfl⟩
    refine V_istore (ls' := [(6, .int (pen (zpl other))), (5, .int (pen (zpl code))), (0, .ref 2), (1, .int code), (2, .int other), (3, .int last), (4, .int w)]) dX11_best_18 (by decide) rfl ?_
    refine V_aload_n dX11_best_20 rfl ?_
    refine V_iload dX11_best_21 rfl ?_
    refine V_iload dX11_best_23 rfl ?_
    refine V_iload_n dX11_best_25 rfl ?_
    refine V_callV (As := [.int (pen (zpl code)), .int (pen (zpl other)), .int last]) (st := []) (a := 2) dX11_best_26 kX11_isState lX11_152 (by decide) rfl rfl (Nat.le_of_ble_eq_true rfl) ⟨Nat.le_of_ble_eq_true rfl, Nat.le_of_ble_eq_true rfl⟩ ⟨Nat.le_of_ble_eq_true rfl, Nat.le_of_ble_eq_true rfl⟩ rfl ⟨rfl, by decide⟩ (c_isStateN hsn) ?_
    rintro _ _ _ _ ⟨rfl, rfl, rfl, rfl⟩
    refine V_if_eq (tgt := 40) dX11_best_29 rfl (fun _ => ?_) (fun h => absurd h (by decide))
    refine V_ldc2 dX11_best_40 qX11_177 ?_
    exact V_lret ⟨rfl, dX11_best_43⟩ ⟨Nat.le_of_ble_eq_true rfl, Nat.le_of_ble_eq_true rfl⟩ ⟨rfl, rfl, hE, Fr2_r⟩
  · obtain ⟨hp, hq, hl, hl1, hp56, hq56⟩ := stO_s hst
    subst hl
    by_cases hw : inZ w 0 1
    · rcases inZ01 hw with rfl | rfl
      · skip
        refine V_aload_n dX11_best_0 rfl ?_
        refine V_getR (b := 10) dX11_best_1 fX11_41 ⟨Nat.le_of_ble_eq_true rfl, Nat.le_of_ble_eq_true rfl⟩ rfl rfl rfl ?_
        refine V_iload_n dX11_best_4 rfl ?_
        refine V_callV (As := [.int code]) (st := []) (a := 10) dX11_best_5 kX2_placeOf lX11_146 (by decide) rfl rfl (Nat.le_of_ble_eq_true rfl) ⟨Nat.le_of_ble_eq_true rfl, Nat.le_of_ble_eq_true rfl⟩ ⟨Nat.le_of_ble_eq_true rfl, Nat.le_of_ble_eq_true rfl⟩ rfl ⟨rfl, by decide⟩ (c_placeS hp) ?_
        rintro _ _ _ _ ⟨rfl, rfl, rfl, rfl⟩
        refine V_istore (ls' := [(5, .int (nI p)), (0, .ref 2), (1, .int code), (2, .int other), (3, .int (nI l)), (4, .int (nI 0))]) dX11_best_8 (by decide) rfl ?_
        refine V_aload_n dX11_best_10 rfl ?_
        refine V_getR (b := 10) dX11_best_11 fX11_41 ⟨Nat.le_of_ble_eq_true rfl, Nat.le_of_ble_eq_true rfl⟩ rfl rfl rfl ?_
        refine V_iload_n dX11_best_14 rfl ?_
        refine V_callV (As := [.int other]) (st := []) (a := 10) dX11_best_15 kX2_placeOf lX11_146 (by decide) rfl rfl (Nat.le_of_ble_eq_true rfl) ⟨Nat.le_of_ble_eq_true rfl, Nat.le_of_ble_eq_true rfl⟩ ⟨Nat.le_of_ble_eq_true rfl, Nat.le_of_ble_eq_true rfl⟩ rfl ⟨rfl, by decide⟩ (c_placeS hq) ?_
        rintro _ _ _ _ ⟨rfl, rfl, rfl, rfl⟩
        refine V_istore (ls' := [(6, .int (nI q)), (5, .int (nI p)), (0, .ref 2), (1, .int code), (2, .int other), (3, .int (nI l)), (4, .int (nI 0))]) dX11_best_18 (by decide) rfl ?_
        refine V_aload_n dX11_best_20 rfl ?_
        refine V_iload dX11_best_21 rfl ?_
        refine V_iload dX11_best_23 rfl ?_
        refine V_iload_n dX11_best_25 rfl ?_
        refine V_callV (As := [.int (nI p), .int (nI q), .int (nI l)]) (st := []) (a := 2) dX11_best_26 kX11_isState lX11_152 (by decide) rfl rfl (Nat.le_of_ble_eq_true rfl) ⟨Nat.le_of_ble_eq_true rfl, Nat.le_of_ble_eq_true rfl⟩ ⟨Nat.le_of_ble_eq_true rfl, Nat.le_of_ble_eq_true rfl⟩ rfl ⟨rfl, by decide⟩ (c_isStateY hp56 hq56 hl1) ?_
        rintro _ _ _ _ ⟨rfl, rfl, rfl, rfl⟩
        refine V_if_eq (tgt := 40) dX11_best_29 rfl (fun h => absurd h (by decide)) (fun _ => ?_)
        refine V_iload dX11_best_32 rfl ?_
        refine V_callS (As := [.int (nI 0)]) (st := []) dX11_best_34 kX11_isValueOrThrow lX11_174 (by decide) rfl rfl (Nat.le_of_ble_eq_true rfl) ⟨Nat.le_of_ble_eq_true rfl, Nat.le_of_ble_eq_true rfl⟩ (q_y q_isValueOrThrow (by decide)) ?_
        rintro _ _ _ _ ⟨rfl, rfl, rfl, rfl⟩
        refine V_if_ne (tgt := 44) dX11_best_37 rfl (fun _ => ?_) (fun h => absurd h (by decide))
        refine V_aload_n dX11_best_44 rfl ?_
        refine V_getR (b := 9) dX11_best_45 fX11_33 ⟨Nat.le_of_ble_eq_true rfl, Nat.le_of_ble_eq_true rfl⟩ rfl rfl rfl ?_
        refine V_aload_n dX11_best_48 rfl ?_
        refine V_getI dX11_best_49 fX11_7 ⟨Nat.le_of_ble_eq_true rfl, Nat.le_of_ble_eq_true rfl⟩ rfl rfl ?_
        refine V_eqI (y := nI far) hf ?_
        refine V_callV (As := [.int (nI far)]) (st := []) (a := 9) dX11_best_52 kX3_standAt lX11_167 (by decide) rfl rfl (Nat.le_of_ble_eq_true rfl) ⟨Nat.le_of_ble_eq_true rfl, Nat.le_of_ble_eq_true rfl⟩ ⟨Nat.le_of_ble_eq_true rfl, Nat.le_of_ble_eq_true rfl⟩ rfl ⟨rfl, by decide⟩ (c_standA h10 hE) ?_
        rintro r sh' I1 J1 ⟨rfl, rfl, hE1, hF1, hJ1⟩
        refine V_aload_n dX11_best_55 rfl ?_
        refine V_getR (b := 9) dX11_best_56 fX11_33 ⟨Nat.le_of_ble_eq_true rfl, Nat.le_of_ble_eq_true rfl⟩ rfl rfl rfl ?_
        refine V_iconst (v := (-1)) dX11_best_59 rfl ?_
        refine V_iconst (v := (-1)) dX11_best_60 rfl ?_
        refine V_callV (As := [.int (-1), .int (-1)]) (st := []) (a := 9) dX11_best_61 kX3_aimBy lX11_179 (by decide) rfl rfl (Nat.le_of_ble_eq_true rfl) ⟨Nat.le_of_ble_eq_true rfl, Nat.le_of_ble_eq_true rfl⟩ ⟨Nat.le_of_ble_eq_true rfl, Nat.le_of_ble_eq_true rfl⟩ rfl ⟨rfl, by decide⟩ (c_aimA hE1) ?_
        rintro r sh' I2 J2 ⟨rfl, rfl, hE2, hF2⟩
        have hF12 := Fr2_t hF1 hF2
        refine V_aload_n dX11_best_64 rfl ?_
        refine V_getR (b := 9) dX11_best_65 fX11_33 ⟨Nat.le_of_ble_eq_true rfl, Nat.le_of_ble_eq_true rfl⟩ rfl rfl rfl ?_
        refine V_iload dX11_best_68 rfl ?_
        refine V_iload dX11_best_70 rfl ?_
        refine V_iload_n dX11_best_72 rfl ?_
        refine V_iload dX11_best_73 rfl ?_
        refine V_callV (As := [.int (nI p), .int (nI q), .int (nI l), .int (nI 0)]) (st := []) (a := 9) dX11_best_75 kX3_valueOrThrow lX11_183 (by decide) rfl rfl (Nat.le_of_ble_eq_true rfl) ⟨Nat.le_of_ble_eq_true rfl, Nat.le_of_ble_eq_true rfl⟩ ⟨Nat.le_of_ble_eq_true rfl, Nat.le_of_ble_eq_true rfl⟩ rfl ⟨rfl, by decide⟩ (c_value0 hp56 hq56 hl1 hE2 (by decide)) ?_
        rintro r sh' I3 J3 ⟨rfl, rfl, hE3, hF3⟩
        exact V_lret ⟨rfl, dX11_best_78⟩ ⟨Nat.le_of_ble_eq_true rfl, Nat.le_of_ble_eq_true rfl⟩ ⟨rfl, congrArg (fun z => some (Value.long z)) (rfl).symm, eAf_A (eKA_f hE3) h10, Fr2_t hF12 hF3⟩
      · skip
        refine V_aload_n dX11_best_0 rfl ?_
        refine V_getR (b := 10) dX11_best_1 fX11_41 ⟨Nat.le_of_ble_eq_true rfl, Nat.le_of_ble_eq_true rfl⟩ rfl rfl rfl ?_
        refine V_iload_n dX11_best_4 rfl ?_
        refine V_callV (As := [.int code]) (st := []) (a := 10) dX11_best_5 kX2_placeOf lX11_146 (by decide) rfl rfl (Nat.le_of_ble_eq_true rfl) ⟨Nat.le_of_ble_eq_true rfl, Nat.le_of_ble_eq_true rfl⟩ ⟨Nat.le_of_ble_eq_true rfl, Nat.le_of_ble_eq_true rfl⟩ rfl ⟨rfl, by decide⟩ (c_placeS hp) ?_
        rintro _ _ _ _ ⟨rfl, rfl, rfl, rfl⟩
        refine V_istore (ls' := [(5, .int (nI p)), (0, .ref 2), (1, .int code), (2, .int other), (3, .int (nI l)), (4, .int (nI 1))]) dX11_best_8 (by decide) rfl ?_
        refine V_aload_n dX11_best_10 rfl ?_
        refine V_getR (b := 10) dX11_best_11 fX11_41 ⟨Nat.le_of_ble_eq_true rfl, Nat.le_of_ble_eq_true rfl⟩ rfl rfl rfl ?_
        refine V_iload_n dX11_best_14 rfl ?_
        refine V_callV (As := [.int other]) (st := []) (a := 10) dX11_best_15 kX2_placeOf lX11_146 (by decide) rfl rfl (Nat.le_of_ble_eq_true rfl) ⟨Nat.le_of_ble_eq_true rfl, Nat.le_of_ble_eq_true rfl⟩ ⟨Nat.le_of_ble_eq_true rfl, Nat.le_of_ble_eq_true rfl⟩ rfl ⟨rfl, by decide⟩ (c_placeS hq) ?_
        rintro _ _ _ _ ⟨rfl, rfl, rfl, rfl⟩
        refine V_istore (ls' := [(6, .int (nI q)), (5, .int (nI p)), (0, .ref 2), (1, .int code), (2, .int other), (3, .int (nI l)), (4, .int (nI 1))]) dX11_best_18 (by decide) rfl ?_
        refine V_aload_n dX11_best_20 rfl ?_
        refine V_iload dX11_best_21 rfl ?_
        refine V_iload dX11_best_23 rfl ?_
        refine V_iload_n dX11_best_25 rfl ?_
        refine V_callV (As := [.int (nI p), .int (nI q), .int (nI l)]) (st := []) (a := 2) dX11_best_26 kX11_isState lX11_152 (by decide) rfl rfl (Nat.le_of_ble_eq_true rfl) ⟨Nat.le_of_ble_eq_true rfl, Nat.le_of_ble_eq_true rfl⟩ ⟨Nat.le_of_ble_eq_true rfl, Nat.le_of_ble_eq_true rfl⟩ rfl ⟨rfl, by decide⟩ (c_isStateY hp56 hq56 hl1) ?_
        rintro _ _ _ _ ⟨rfl, rfl, rfl, rfl⟩
        refine V_if_eq (tgt := 40) dX11_best_29 rfl (fun h => absurd h (by decide)) (fun _ => ?_)
        refine V_iload dX11_best_32 rfl ?_
        refine V_callS (As := [.int (nI 1)]) (st := []) dX11_best_34 kX11_isValueOrThrow lX11_174 (by decide) rfl rfl (Nat.le_of_ble_eq_true rfl) ⟨Nat.le_of_ble_eq_true rfl, Nat.le_of_ble_eq_true rfl⟩ (q_y q_isValueOrThrow (by decide)) ?_
        rintro _ _ _ _ ⟨rfl, rfl, rfl, rfl⟩
        refine V_if_ne (tgt := 44) dX11_best_37 rfl (fun _ => ?_) (fun h => absurd h (by decide))
        refine V_aload_n dX11_best_44 rfl ?_
        refine V_getR (b := 9) dX11_best_45 fX11_33 ⟨Nat.le_of_ble_eq_true rfl, Nat.le_of_ble_eq_true rfl⟩ rfl rfl rfl ?_
        refine V_aload_n dX11_best_48 rfl ?_
        refine V_getI dX11_best_49 fX11_7 ⟨Nat.le_of_ble_eq_true rfl, Nat.le_of_ble_eq_true rfl⟩ rfl rfl ?_
        refine V_eqI (y := nI far) hf ?_
        refine V_callV (As := [.int (nI far)]) (st := []) (a := 9) dX11_best_52 kX3_standAt lX11_167 (by decide) rfl rfl (Nat.le_of_ble_eq_true rfl) ⟨Nat.le_of_ble_eq_true rfl, Nat.le_of_ble_eq_true rfl⟩ ⟨Nat.le_of_ble_eq_true rfl, Nat.le_of_ble_eq_true rfl⟩ rfl ⟨rfl, by decide⟩ (c_standA h10 hE) ?_
        rintro r sh' I1 J1 ⟨rfl, rfl, hE1, hF1, hJ1⟩
        refine V_aload_n dX11_best_55 rfl ?_
        refine V_getR (b := 9) dX11_best_56 fX11_33 ⟨Nat.le_of_ble_eq_true rfl, Nat.le_of_ble_eq_true rfl⟩ rfl rfl rfl ?_
        refine V_iconst (v := (-1)) dX11_best_59 rfl ?_
        refine V_iconst (v := (-1)) dX11_best_60 rfl ?_
        refine V_callV (As := [.int (-1), .int (-1)]) (st := []) (a := 9) dX11_best_61 kX3_aimBy lX11_179 (by decide) rfl rfl (Nat.le_of_ble_eq_true rfl) ⟨Nat.le_of_ble_eq_true rfl, Nat.le_of_ble_eq_true rfl⟩ ⟨Nat.le_of_ble_eq_true rfl, Nat.le_of_ble_eq_true rfl⟩ rfl ⟨rfl, by decide⟩ (c_aimA hE1) ?_
        rintro r sh' I2 J2 ⟨rfl, rfl, hE2, hF2⟩
        have hF12 := Fr2_t hF1 hF2
        refine V_aload_n dX11_best_64 rfl ?_
        refine V_getR (b := 9) dX11_best_65 fX11_33 ⟨Nat.le_of_ble_eq_true rfl, Nat.le_of_ble_eq_true rfl⟩ rfl rfl rfl ?_
        refine V_iload dX11_best_68 rfl ?_
        refine V_iload dX11_best_70 rfl ?_
        refine V_iload_n dX11_best_72 rfl ?_
        refine V_iload dX11_best_73 rfl ?_
        refine V_callV (As := [.int (nI p), .int (nI q), .int (nI l), .int (nI 1)]) (st := []) (a := 9) dX11_best_75 kX3_valueOrThrow lX11_183 (by decide) rfl rfl (Nat.le_of_ble_eq_true rfl) ⟨Nat.le_of_ble_eq_true rfl, Nat.le_of_ble_eq_true rfl⟩ ⟨Nat.le_of_ble_eq_true rfl, Nat.le_of_ble_eq_true rfl⟩ rfl ⟨rfl, by decide⟩ (c_value1 hp56 hq56 hl1 hE2 (by decide)) ?_
        rintro r sh' I3 J3 ⟨rfl, rfl, hE3, hF3⟩
        exact V_lret ⟨rfl, dX11_best_78⟩ ⟨Nat.le_of_ble_eq_true rfl, Nat.le_of_ble_eq_true rfl⟩ ⟨rfl, congrArg (fun z => some (Value.long z)) (rfl).symm, eAf_A (eKA_f hE3) h10, Fr2_t hF12 hF3⟩
    · skip
      refine V_aload_n dX11_best_0 rfl ?_
      refine V_getR (b := 10) dX11_best_1 fX11_41 ⟨Nat.le_of_ble_eq_true rfl, Nat.le_of_ble_eq_true rfl⟩ rfl rfl rfl ?_
      refine V_iload_n dX11_best_4 rfl ?_
      refine V_callV (As := [.int code]) (st := []) (a := 10) dX11_best_5 kX2_placeOf lX11_146 (by decide) rfl rfl (Nat.le_of_ble_eq_true rfl) ⟨Nat.le_of_ble_eq_true rfl, Nat.le_of_ble_eq_true rfl⟩ ⟨Nat.le_of_ble_eq_true rfl, Nat.le_of_ble_eq_true rfl⟩ rfl ⟨rfl, by decide⟩ (c_placeS hp) ?_
      rintro _ _ _ _ ⟨rfl, rfl, rfl, rfl⟩
      refine V_istore (ls' := [(5, .int (nI p)), (0, .ref 2), (1, .int code), (2, .int other), (3, .int (nI l)), (4, .int w)]) dX11_best_8 (by decide) rfl ?_
      refine V_aload_n dX11_best_10 rfl ?_
      refine V_getR (b := 10) dX11_best_11 fX11_41 ⟨Nat.le_of_ble_eq_true rfl, Nat.le_of_ble_eq_true rfl⟩ rfl rfl rfl ?_
      refine V_iload_n dX11_best_14 rfl ?_
      refine V_callV (As := [.int other]) (st := []) (a := 10) dX11_best_15 kX2_placeOf lX11_146 (by decide) rfl rfl (Nat.le_of_ble_eq_true rfl) ⟨Nat.le_of_ble_eq_true rfl, Nat.le_of_ble_eq_true rfl⟩ ⟨Nat.le_of_ble_eq_true rfl, Nat.le_of_ble_eq_true rfl⟩ rfl ⟨rfl, by decide⟩ (c_placeS hq) ?_
      rintro _ _ _ _ ⟨rfl, rfl, rfl, rfl⟩
      refine V_istore (ls' := [(6, .int (nI q)), (5, .int (nI p)), (0, .ref 2), (1, .int code), (2, .int other), (3, .int (nI l)), (4, .int w)]) dX11_best_18 (by decide) rfl ?_
      refine V_aload_n dX11_best_20 rfl ?_
      refine V_iload dX11_best_21 rfl ?_
      refine V_iload dX11_best_23 rfl ?_
      refine V_iload_n dX11_best_25 rfl ?_
      refine V_callV (As := [.int (nI p), .int (nI q), .int (nI l)]) (st := []) (a := 2) dX11_best_26 kX11_isState lX11_152 (by decide) rfl rfl (Nat.le_of_ble_eq_true rfl) ⟨Nat.le_of_ble_eq_true rfl, Nat.le_of_ble_eq_true rfl⟩ ⟨Nat.le_of_ble_eq_true rfl, Nat.le_of_ble_eq_true rfl⟩ rfl ⟨rfl, by decide⟩ (c_isStateY hp56 hq56 hl1) ?_
      rintro _ _ _ _ ⟨rfl, rfl, rfl, rfl⟩
      refine V_if_eq (tgt := 40) dX11_best_29 rfl (fun h => absurd h (by decide)) (fun _ => ?_)
      refine V_iload dX11_best_32 rfl ?_
      refine V_callS (As := [.int w]) (st := []) dX11_best_34 kX11_isValueOrThrow lX11_174 (by decide) rfl rfl (Nat.le_of_ble_eq_true rfl) ⟨Nat.le_of_ble_eq_true rfl, Nat.le_of_ble_eq_true rfl⟩ (q_n q_isValueOrThrow hw) ?_
      rintro _ _ _ _ ⟨rfl, rfl, rfl, rfl⟩
      refine V_if_ne (tgt := 44) dX11_best_37 rfl (fun h => absurd h (by decide)) (fun _ => ?_)
      refine V_ldc2 dX11_best_40 qX11_177 ?_
      exact V_lret ⟨rfl, dX11_best_43⟩ ⟨Nat.le_of_ble_eq_true rfl, Nat.le_of_ble_eq_true rfl⟩ ⟨rfl, congrArg (fun z => some (Value.long z)) (on01_n hw).symm, hE, Fr2_r⟩

set_option maxRecDepth 100000 in
set_option maxHeartbeats 4000000 in
theorem c_likely {G : zG} {I : zI} {J : zJ} {Lf : Nat → (Nat → Int32) → Int32} {Rl : Nat → Nat → (Nat → Int32) → Int32} {far : Nat} (hE : eA Lf Rl I J) (hf : I 2 0 = nI far) (h6 : 6 ≤ far) (h10 : far ≤ 10) {code other last x : Int32} : zK G mX11_likely 18 [.ref 2, .int code, .int other, .int last, .int x] zsh I J (zP (fun r I' J' => r = some (.long (onS (stO code other last) (-1) (fun p q l => if inZ x (-3) 3 then (vX 3 x 0 Rl Lf far p q l).1 else -1))) ∧ eA Lf Rl I' J' ∧ Fr2 I J I' J')) := by
  refine zK_of kX11_likely.2.2.2.2.1 (Nat.le_of_ble_eq_true rfl) ?_
  show V G mX11_likely 18 _ 0 [(0, .ref 2), (1, .int code), (2, .int other), (3, .int last), (4, .int x)] [] (0, 0) zsh I J
  rcases hst : stO code other last with _ | ⟨p, q, l⟩
  · have hsn := stO_n hst
    refine V_aload_n dX11_likely_0 rfl ?_
    refine V_getR (b := 10) dX11_likely_1 fX11_41 ⟨Nat.le_of_ble_eq_true rfl, Nat.le_of_ble_eq_true rfl⟩ rfl rfl rfl ?_
    refine V_iload_n dX11_likely_4 rfl ?_
    refine V_callV (As := [.int code]) (st := []) (a := 10) dX11_likely_5 kX2_placeOf lX11_146 (by decide) rfl rfl (Nat.le_of_ble_eq_true rfl) ⟨Nat.le_of_ble_eq_true rfl, Nat.le_of_ble_eq_true rfl⟩ ⟨Nat.le_of_ble_eq_true rfl, Nat.le_of_ble_eq_true rfl⟩ rfl ⟨rfl, by decide⟩ c_placeOf2 ?_
    rintro _ _ _ _ ⟨rfl, rfl, rfl, rfl⟩
    refine V_istore (ls' := [(5, .int (pen (zpl code))), (0, .ref 2), (1, .int code), (2, .int other), (3, .int last), (4, .int x)]) dX11_likely_8 (by decide) rfl ?_
    refine V_aload_n dX11_likely_10 rfl ?_
    refine V_getR (b := 10) dX11_likely_11 fX11_41 ⟨Nat.le_of_ble_eq_true rfl, Nat.le_of_ble_eq_true rfl⟩ rfl rfl rfl ?_
    refine V_iload_n dX11_likely_14 rfl ?_
    refine V_callV (As := [.int other]) (st := []) (a := 10) dX11_likely_15 kX2_placeOf lX11_146 (by decide) rfl rfl (Nat.le_of_ble_eq_true rfl) ⟨Nat.le_of_ble_eq_true rfl, Nat.le_of_ble_eq_true rfl⟩ ⟨Nat.le_of_ble_eq_true rfl, Nat.le_of_ble_eq_true rfl⟩ rfl ⟨rfl, by decide⟩ c_placeOf2 ?_
    rintro _ _ _ _ ⟨rfl, rfl, rfl, rfl⟩
    refine V_istore (ls' := [(6, .int (pen (zpl other))), (5, .int (pen (zpl code))), (0, .ref 2), (1, .int code), (2, .int other), (3, .int last), (4, .int x)]) dX11_likely_18 (by decide) rfl ?_
    refine V_aload_n dX11_likely_20 rfl ?_
    refine V_iload dX11_likely_21 rfl ?_
    refine V_iload dX11_likely_23 rfl ?_
    refine V_iload_n dX11_likely_25 rfl ?_
    refine V_callV (As := [.int (pen (zpl code)), .int (pen (zpl other)), .int last]) (st := []) (a := 2) dX11_likely_26 kX11_isState lX11_152 (by decide) rfl rfl (Nat.le_of_ble_eq_true rfl) ⟨Nat.le_of_ble_eq_true rfl, Nat.le_of_ble_eq_true rfl⟩ ⟨Nat.le_of_ble_eq_true rfl, Nat.le_of_ble_eq_true rfl⟩ rfl ⟨rfl, by decide⟩ (c_isStateN hsn) ?_
    rintro _ _ _ _ ⟨rfl, rfl, rfl, rfl⟩
    refine V_if_eq (tgt := 40) dX11_likely_29 rfl (fun _ => ?_) (fun h => absurd h (by decide))
    refine V_ldc2 dX11_likely_40 qX11_190 ?_
    exact V_lret ⟨rfl, dX11_likely_43⟩ ⟨Nat.le_of_ble_eq_true rfl, Nat.le_of_ble_eq_true rfl⟩ ⟨rfl, rfl, hE, Fr2_r⟩
  · obtain ⟨hp, hq, hl, hl1, hp56, hq56⟩ := stO_s hst
    subst hl
    by_cases hx : inZ x (-3) 3
    · skip
      refine V_aload_n dX11_likely_0 rfl ?_
      refine V_getR (b := 10) dX11_likely_1 fX11_41 ⟨Nat.le_of_ble_eq_true rfl, Nat.le_of_ble_eq_true rfl⟩ rfl rfl rfl ?_
      refine V_iload_n dX11_likely_4 rfl ?_
      refine V_callV (As := [.int code]) (st := []) (a := 10) dX11_likely_5 kX2_placeOf lX11_146 (by decide) rfl rfl (Nat.le_of_ble_eq_true rfl) ⟨Nat.le_of_ble_eq_true rfl, Nat.le_of_ble_eq_true rfl⟩ ⟨Nat.le_of_ble_eq_true rfl, Nat.le_of_ble_eq_true rfl⟩ rfl ⟨rfl, by decide⟩ (c_placeS hp) ?_
      rintro _ _ _ _ ⟨rfl, rfl, rfl, rfl⟩
      refine V_istore (ls' := [(5, .int (nI p)), (0, .ref 2), (1, .int code), (2, .int other), (3, .int (nI l)), (4, .int x)]) dX11_likely_8 (by decide) rfl ?_
      refine V_aload_n dX11_likely_10 rfl ?_
      refine V_getR (b := 10) dX11_likely_11 fX11_41 ⟨Nat.le_of_ble_eq_true rfl, Nat.le_of_ble_eq_true rfl⟩ rfl rfl rfl ?_
      refine V_iload_n dX11_likely_14 rfl ?_
      refine V_callV (As := [.int other]) (st := []) (a := 10) dX11_likely_15 kX2_placeOf lX11_146 (by decide) rfl rfl (Nat.le_of_ble_eq_true rfl) ⟨Nat.le_of_ble_eq_true rfl, Nat.le_of_ble_eq_true rfl⟩ ⟨Nat.le_of_ble_eq_true rfl, Nat.le_of_ble_eq_true rfl⟩ rfl ⟨rfl, by decide⟩ (c_placeS hq) ?_
      rintro _ _ _ _ ⟨rfl, rfl, rfl, rfl⟩
      refine V_istore (ls' := [(6, .int (nI q)), (5, .int (nI p)), (0, .ref 2), (1, .int code), (2, .int other), (3, .int (nI l)), (4, .int x)]) dX11_likely_18 (by decide) rfl ?_
      refine V_aload_n dX11_likely_20 rfl ?_
      refine V_iload dX11_likely_21 rfl ?_
      refine V_iload dX11_likely_23 rfl ?_
      refine V_iload_n dX11_likely_25 rfl ?_
      refine V_callV (As := [.int (nI p), .int (nI q), .int (nI l)]) (st := []) (a := 2) dX11_likely_26 kX11_isState lX11_152 (by decide) rfl rfl (Nat.le_of_ble_eq_true rfl) ⟨Nat.le_of_ble_eq_true rfl, Nat.le_of_ble_eq_true rfl⟩ ⟨Nat.le_of_ble_eq_true rfl, Nat.le_of_ble_eq_true rfl⟩ rfl ⟨rfl, by decide⟩ (c_isStateY hp56 hq56 hl1) ?_
      rintro _ _ _ _ ⟨rfl, rfl, rfl, rfl⟩
      refine V_if_eq (tgt := 40) dX11_likely_29 rfl (fun h => absurd h (by decide)) (fun _ => ?_)
      refine V_iload dX11_likely_32 rfl ?_
      refine V_callS (As := [.int x]) (st := []) dX11_likely_34 kX11_isCount lX11_187 (by decide) rfl rfl (Nat.le_of_ble_eq_true rfl) ⟨Nat.le_of_ble_eq_true rfl, Nat.le_of_ble_eq_true rfl⟩ (q_y q_isCount hx) ?_
      rintro _ _ _ _ ⟨rfl, rfl, rfl, rfl⟩
      refine V_if_ne (tgt := 44) dX11_likely_37 rfl (fun _ => ?_) (fun h => absurd h (by decide))
      refine V_aload_n dX11_likely_44 rfl ?_
      refine V_getR (b := 9) dX11_likely_45 fX11_33 ⟨Nat.le_of_ble_eq_true rfl, Nat.le_of_ble_eq_true rfl⟩ rfl rfl rfl ?_
      refine V_aload_n dX11_likely_48 rfl ?_
      refine V_getI dX11_likely_49 fX11_7 ⟨Nat.le_of_ble_eq_true rfl, Nat.le_of_ble_eq_true rfl⟩ rfl rfl ?_
      refine V_eqI (y := nI far) hf ?_
      refine V_callV (As := [.int (nI far)]) (st := []) (a := 9) dX11_likely_52 kX3_standAt lX11_167 (by decide) rfl rfl (Nat.le_of_ble_eq_true rfl) ⟨Nat.le_of_ble_eq_true rfl, Nat.le_of_ble_eq_true rfl⟩ ⟨Nat.le_of_ble_eq_true rfl, Nat.le_of_ble_eq_true rfl⟩ rfl ⟨rfl, by decide⟩ (c_standA h10 hE) ?_
      rintro r sh' I1 J1 ⟨rfl, rfl, hE1, hF1, hJ1⟩
      refine V_aload_n dX11_likely_55 rfl ?_
      refine V_getR (b := 9) dX11_likely_56 fX11_33 ⟨Nat.le_of_ble_eq_true rfl, Nat.le_of_ble_eq_true rfl⟩ rfl rfl rfl ?_
      refine V_iload dX11_likely_59 rfl ?_
      refine V_iload dX11_likely_61 rfl ?_
      refine V_iload_n dX11_likely_63 rfl ?_
      refine V_iload dX11_likely_64 rfl ?_
      refine V_callV (As := [.int (nI p), .int (nI q), .int (nI l), .int x]) (st := []) (a := 9) dX11_likely_66 kX3_chanceOfCount lX11_192 (by decide) rfl rfl (Nat.le_of_ble_eq_true rfl) ⟨Nat.le_of_ble_eq_true rfl, Nat.le_of_ble_eq_true rfl⟩ ⟨Nat.le_of_ble_eq_true rfl, Nat.le_of_ble_eq_true rfl⟩ rfl ⟨rfl, by decide⟩ (c_chanceA hp56 hq56 hl1 hE1) ?_
      rintro r sh' I2 J2 ⟨rfl, rfl, hE2, hF2⟩
      exact V_lret ⟨rfl, dX11_likely_69⟩ ⟨Nat.le_of_ble_eq_true rfl, Nat.le_of_ble_eq_true rfl⟩ ⟨rfl, congrArg (fun z => some (Value.long z)) (if_pos hx).symm, eAf_A hE2 h10, Fr2_t hF1 hF2⟩
    · skip
      refine V_aload_n dX11_likely_0 rfl ?_
      refine V_getR (b := 10) dX11_likely_1 fX11_41 ⟨Nat.le_of_ble_eq_true rfl, Nat.le_of_ble_eq_true rfl⟩ rfl rfl rfl ?_
      refine V_iload_n dX11_likely_4 rfl ?_
      refine V_callV (As := [.int code]) (st := []) (a := 10) dX11_likely_5 kX2_placeOf lX11_146 (by decide) rfl rfl (Nat.le_of_ble_eq_true rfl) ⟨Nat.le_of_ble_eq_true rfl, Nat.le_of_ble_eq_true rfl⟩ ⟨Nat.le_of_ble_eq_true rfl, Nat.le_of_ble_eq_true rfl⟩ rfl ⟨rfl, by decide⟩ (c_placeS hp) ?_
      rintro _ _ _ _ ⟨rfl, rfl, rfl, rfl⟩
      refine V_istore (ls' := [(5, .int (nI p)), (0, .ref 2), (1, .int code), (2, .int other), (3, .int (nI l)), (4, .int x)]) dX11_likely_8 (by decide) rfl ?_
      refine V_aload_n dX11_likely_10 rfl ?_
      refine V_getR (b := 10) dX11_likely_11 fX11_41 ⟨Nat.le_of_ble_eq_true rfl, Nat.le_of_ble_eq_true rfl⟩ rfl rfl rfl ?_
      refine V_iload_n dX11_likely_14 rfl ?_
      refine V_callV (As := [.int other]) (st := []) (a := 10) dX11_likely_15 kX2_placeOf lX11_146 (by decide) rfl rfl (Nat.le_of_ble_eq_true rfl) ⟨Nat.le_of_ble_eq_true rfl, Nat.le_of_ble_eq_true rfl⟩ ⟨Nat.le_of_ble_eq_true rfl, Nat.le_of_ble_eq_true rfl⟩ rfl ⟨rfl, by decide⟩ (c_placeS hq) ?_
      rintro _ _ _ _ ⟨rfl, rfl, rfl, rfl⟩
      refine V_istore (ls' := [(6, .int (nI q)), (5, .int (nI p)), (0, .ref 2), (1, .int code), (2, .int other), (3, .int (nI l)), (4, .int x)]) dX11_likely_18 (by decide) rfl ?_
      refine V_aload_n dX11_likely_20 rfl ?_
      refine V_iload dX11_likely_21 rfl ?_
      refine V_iload dX11_likely_23 rfl ?_
      refine V_iload_n dX11_likely_25 rfl ?_
      refine V_callV (As := [.int (nI p), .int (nI q), .int (nI l)]) (st := []) (a := 2) dX11_likely_26 kX11_isState lX11_152 (by decide) rfl rfl (Nat.le_of_ble_eq_true rfl) ⟨Nat.le_of_ble_eq_true rfl, Nat.le_of_ble_eq_true rfl⟩ ⟨Nat.le_of_ble_eq_true rfl, Nat.le_of_ble_eq_true rfl⟩ rfl ⟨rfl, by decide⟩ (c_isStateY hp56 hq56 hl1) ?_
      rintro _ _ _ _ ⟨rfl, rfl, rfl, rfl⟩
      refine V_if_eq (tgt := 40) dX11_likely_29 rfl (fun h => absurd h (by decide)) (fun _ => ?_)
      refine V_iload dX11_likely_32 rfl ?_
      refine V_callS (As := [.int x]) (st := []) dX11_likely_34 kX11_isCount lX11_187 (by decide) rfl rfl (Nat.le_of_ble_eq_true rfl) ⟨Nat.le_of_ble_eq_true rfl, Nat.le_of_ble_eq_true rfl⟩ (q_n q_isCount hx) ?_
      rintro _ _ _ _ ⟨rfl, rfl, rfl, rfl⟩
      refine V_if_ne (tgt := 44) dX11_likely_37 rfl (fun h => absurd h (by decide)) (fun _ => ?_)
      refine V_ldc2 dX11_likely_40 qX11_190 ?_
      exact V_lret ⟨rfl, dX11_likely_43⟩ ⟨Nat.le_of_ble_eq_true rfl, Nat.le_of_ble_eq_true rfl⟩ ⟨rfl, congrArg (fun z => some (Value.long z)) (if_neg hx).symm, hE, Fr2_r⟩

set_option maxRecDepth 100000 in
set_option maxHeartbeats 4000000 in
theorem c_goFor {G : zG} {I : zI} {J : zJ} {Lf : Nat → (Nat → Int32) → Int32} {Rl : Nat → Nat → (Nat → Int32) → Int32} {far : Nat} (hE : eA Lf Rl I J) (hf : I 2 0 = nI far) (h6 : 6 ≤ far) (h10 : far ≤ 10) {code other last x w : Int32} : zK G mX11_goFor 19 [.ref 2, .int code, .int other, .int last, .int x, .int w] zsh I J (zP (fun r I' J' => r = some (.long (onS (stO code other last) (-2000000000000000000) (fun p q l => if inZ x (-3) 3 then on01 w (-2000000000000000000) (vX 2 x 0 Rl Lf far p q l).1 (thrX 2 x 0 Rl Lf far p q l).toInt64 else -2000000000000000000))) ∧ eA Lf Rl I' J' ∧ Fr2 I J I' J')) := by
  refine zK_of kX11_goFor.2.2.2.2.1 (Nat.le_of_ble_eq_true rfl) ?_
  show V G mX11_goFor 19 _ 0 [(0, .ref 2), (1, .int code), (2, .int other), (3, .int last), (4, .int x), (5, .int w)] [] (0, 0) zsh I J
  rcases hst : stO code other last with _ | ⟨p, q, l⟩
  · have hsn := stO_n hst
    refine V_aload_n dX11_goFor_0 rfl ?_
    refine V_getR (b := 10) dX11_goFor_1 fX11_41 ⟨Nat.le_of_ble_eq_true rfl, Nat.le_of_ble_eq_true rfl⟩ rfl rfl rfl ?_
    refine V_iload_n dX11_goFor_4 rfl ?_
    refine V_callV (As := [.int code]) (st := []) (a := 10) dX11_goFor_5 kX2_placeOf lX11_146 (by decide) rfl rfl (Nat.le_of_ble_eq_true rfl) ⟨Nat.le_of_ble_eq_true rfl, Nat.le_of_ble_eq_true rfl⟩ ⟨Nat.le_of_ble_eq_true rfl, Nat.le_of_ble_eq_true rfl⟩ rfl ⟨rfl, by decide⟩ c_placeOf2 ?_
    rintro _ _ _ _ ⟨rfl, rfl, rfl, rfl⟩
    refine V_istore (ls' := [(6, .int (pen (zpl code))), (0, .ref 2), (1, .int code), (2, .int other), (3, .int last), (4, .int x), (5, .int w)]) dX11_goFor_8 (by decide) rfl ?_
    refine V_aload_n dX11_goFor_10 rfl ?_
    refine V_getR (b := 10) dX11_goFor_11 fX11_41 ⟨Nat.le_of_ble_eq_true rfl, Nat.le_of_ble_eq_true rfl⟩ rfl rfl rfl ?_
    refine V_iload_n dX11_goFor_14 rfl ?_
    refine V_callV (As := [.int other]) (st := []) (a := 10) dX11_goFor_15 kX2_placeOf lX11_146 (by decide) rfl rfl (Nat.le_of_ble_eq_true rfl) ⟨Nat.le_of_ble_eq_true rfl, Nat.le_of_ble_eq_true rfl⟩ ⟨Nat.le_of_ble_eq_true rfl, Nat.le_of_ble_eq_true rfl⟩ rfl ⟨rfl, by decide⟩ c_placeOf2 ?_
    rintro _ _ _ _ ⟨rfl, rfl, rfl, rfl⟩
    refine V_istore (ls' := [(7, .int (pen (zpl other))), (6, .int (pen (zpl code))), (0, .ref 2), (1, .int code), (2, .int other), (3, .int last), (4, .int x), (5, .int w)]) dX11_goFor_18 (by decide) rfl ?_
    refine V_aload_n dX11_goFor_20 rfl ?_
    refine V_iload dX11_goFor_21 rfl ?_
    refine V_iload dX11_goFor_23 rfl ?_
    refine V_iload_n dX11_goFor_25 rfl ?_
    refine V_callV (As := [.int (pen (zpl code)), .int (pen (zpl other)), .int last]) (st := []) (a := 2) dX11_goFor_26 kX11_isState lX11_152 (by decide) rfl rfl (Nat.le_of_ble_eq_true rfl) ⟨Nat.le_of_ble_eq_true rfl, Nat.le_of_ble_eq_true rfl⟩ ⟨Nat.le_of_ble_eq_true rfl, Nat.le_of_ble_eq_true rfl⟩ rfl ⟨rfl, by decide⟩ (c_isStateN hsn) ?_
    rintro _ _ _ _ ⟨rfl, rfl, rfl, rfl⟩
    refine V_if_eq (tgt := 48) dX11_goFor_29 rfl (fun _ => ?_) (fun h => absurd h (by decide))
    refine V_ldc2 dX11_goFor_48 qX11_177 ?_
    exact V_lret ⟨rfl, dX11_goFor_51⟩ ⟨Nat.le_of_ble_eq_true rfl, Nat.le_of_ble_eq_true rfl⟩ ⟨rfl, rfl, hE, Fr2_r⟩
  · obtain ⟨hp, hq, hl, hl1, hp56, hq56⟩ := stO_s hst
    subst hl
    by_cases hx : inZ x (-3) 3
    · by_cases hw : inZ w 0 1
      · rcases inZ01 hw with rfl | rfl
        · skip
          refine V_aload_n dX11_goFor_0 rfl ?_
          refine V_getR (b := 10) dX11_goFor_1 fX11_41 ⟨Nat.le_of_ble_eq_true rfl, Nat.le_of_ble_eq_true rfl⟩ rfl rfl rfl ?_
          refine V_iload_n dX11_goFor_4 rfl ?_
          refine V_callV (As := [.int code]) (st := []) (a := 10) dX11_goFor_5 kX2_placeOf lX11_146 (by decide) rfl rfl (Nat.le_of_ble_eq_true rfl) ⟨Nat.le_of_ble_eq_true rfl, Nat.le_of_ble_eq_true rfl⟩ ⟨Nat.le_of_ble_eq_true rfl, Nat.le_of_ble_eq_true rfl⟩ rfl ⟨rfl, by decide⟩ (c_placeS hp) ?_
          rintro _ _ _ _ ⟨rfl, rfl, rfl, rfl⟩
          refine V_istore (ls' := [(6, .int (nI p)), (0, .ref 2), (1, .int code), (2, .int other), (3, .int (nI l)), (4, .int x), (5, .int (nI 0))]) dX11_goFor_8 (by decide) rfl ?_
          refine V_aload_n dX11_goFor_10 rfl ?_
          refine V_getR (b := 10) dX11_goFor_11 fX11_41 ⟨Nat.le_of_ble_eq_true rfl, Nat.le_of_ble_eq_true rfl⟩ rfl rfl rfl ?_
          refine V_iload_n dX11_goFor_14 rfl ?_
          refine V_callV (As := [.int other]) (st := []) (a := 10) dX11_goFor_15 kX2_placeOf lX11_146 (by decide) rfl rfl (Nat.le_of_ble_eq_true rfl) ⟨Nat.le_of_ble_eq_true rfl, Nat.le_of_ble_eq_true rfl⟩ ⟨Nat.le_of_ble_eq_true rfl, Nat.le_of_ble_eq_true rfl⟩ rfl ⟨rfl, by decide⟩ (c_placeS hq) ?_
          rintro _ _ _ _ ⟨rfl, rfl, rfl, rfl⟩
          refine V_istore (ls' := [(7, .int (nI q)), (6, .int (nI p)), (0, .ref 2), (1, .int code), (2, .int other), (3, .int (nI l)), (4, .int x), (5, .int (nI 0))]) dX11_goFor_18 (by decide) rfl ?_
          refine V_aload_n dX11_goFor_20 rfl ?_
          refine V_iload dX11_goFor_21 rfl ?_
          refine V_iload dX11_goFor_23 rfl ?_
          refine V_iload_n dX11_goFor_25 rfl ?_
          refine V_callV (As := [.int (nI p), .int (nI q), .int (nI l)]) (st := []) (a := 2) dX11_goFor_26 kX11_isState lX11_152 (by decide) rfl rfl (Nat.le_of_ble_eq_true rfl) ⟨Nat.le_of_ble_eq_true rfl, Nat.le_of_ble_eq_true rfl⟩ ⟨Nat.le_of_ble_eq_true rfl, Nat.le_of_ble_eq_true rfl⟩ rfl ⟨rfl, by decide⟩ (c_isStateY hp56 hq56 hl1) ?_
          rintro _ _ _ _ ⟨rfl, rfl, rfl, rfl⟩
          refine V_if_eq (tgt := 48) dX11_goFor_29 rfl (fun h => absurd h (by decide)) (fun _ => ?_)
          refine V_iload dX11_goFor_32 rfl ?_
          refine V_callS (As := [.int x]) (st := []) dX11_goFor_34 kX11_isCount lX11_187 (by decide) rfl rfl (Nat.le_of_ble_eq_true rfl) ⟨Nat.le_of_ble_eq_true rfl, Nat.le_of_ble_eq_true rfl⟩ (q_y q_isCount hx) ?_
          rintro _ _ _ _ ⟨rfl, rfl, rfl, rfl⟩
          refine V_if_eq (tgt := 48) dX11_goFor_37 rfl (fun h => absurd h (by decide)) (fun _ => ?_)
          refine V_iload dX11_goFor_40 rfl ?_
          refine V_callS (As := [.int (nI 0)]) (st := []) dX11_goFor_42 kX11_isValueOrThrow lX11_174 (by decide) rfl rfl (Nat.le_of_ble_eq_true rfl) ⟨Nat.le_of_ble_eq_true rfl, Nat.le_of_ble_eq_true rfl⟩ (q_y q_isValueOrThrow (by decide)) ?_
          rintro _ _ _ _ ⟨rfl, rfl, rfl, rfl⟩
          refine V_if_ne (tgt := 52) dX11_goFor_45 rfl (fun _ => ?_) (fun h => absurd h (by decide))
          refine V_aload_n dX11_goFor_52 rfl ?_
          refine V_getR (b := 9) dX11_goFor_53 fX11_33 ⟨Nat.le_of_ble_eq_true rfl, Nat.le_of_ble_eq_true rfl⟩ rfl rfl rfl ?_
          refine V_aload_n dX11_goFor_56 rfl ?_
          refine V_getI dX11_goFor_57 fX11_7 ⟨Nat.le_of_ble_eq_true rfl, Nat.le_of_ble_eq_true rfl⟩ rfl rfl ?_
          refine V_eqI (y := nI far) hf ?_
          refine V_callV (As := [.int (nI far)]) (st := []) (a := 9) dX11_goFor_60 kX3_standAt lX11_167 (by decide) rfl rfl (Nat.le_of_ble_eq_true rfl) ⟨Nat.le_of_ble_eq_true rfl, Nat.le_of_ble_eq_true rfl⟩ ⟨Nat.le_of_ble_eq_true rfl, Nat.le_of_ble_eq_true rfl⟩ rfl ⟨rfl, by decide⟩ (c_standA h10 hE) ?_
          rintro r sh' I1 J1 ⟨rfl, rfl, hE1, hF1, hJ1⟩
          refine V_aload_n dX11_goFor_63 rfl ?_
          refine V_getR (b := 9) dX11_goFor_64 fX11_33 ⟨Nat.le_of_ble_eq_true rfl, Nat.le_of_ble_eq_true rfl⟩ rfl rfl rfl ?_
          refine V_iload dX11_goFor_67 rfl ?_
          refine V_callV (As := [.int x]) (st := []) (a := 9) dX11_goFor_69 kX3_aimAtLeast lX11_195 (by decide) rfl rfl (Nat.le_of_ble_eq_true rfl) ⟨Nat.le_of_ble_eq_true rfl, Nat.le_of_ble_eq_true rfl⟩ ⟨Nat.le_of_ble_eq_true rfl, Nat.le_of_ble_eq_true rfl⟩ rfl ⟨rfl, by decide⟩ (c_aimL hE1) ?_
          rintro r sh' I2 J2 ⟨rfl, rfl, hE2, hF2⟩
          have hF12 := Fr2_t hF1 hF2
          refine V_aload_n dX11_goFor_72 rfl ?_
          refine V_getR (b := 9) dX11_goFor_73 fX11_33 ⟨Nat.le_of_ble_eq_true rfl, Nat.le_of_ble_eq_true rfl⟩ rfl rfl rfl ?_
          refine V_iload dX11_goFor_76 rfl ?_
          refine V_iload dX11_goFor_78 rfl ?_
          refine V_iload_n dX11_goFor_80 rfl ?_
          refine V_iload dX11_goFor_81 rfl ?_
          refine V_callV (As := [.int (nI p), .int (nI q), .int (nI l), .int (nI 0)]) (st := []) (a := 9) dX11_goFor_83 kX3_valueOrThrow lX11_183 (by decide) rfl rfl (Nat.le_of_ble_eq_true rfl) ⟨Nat.le_of_ble_eq_true rfl, Nat.le_of_ble_eq_true rfl⟩ ⟨Nat.le_of_ble_eq_true rfl, Nat.le_of_ble_eq_true rfl⟩ rfl ⟨rfl, by decide⟩ (c_value0 hp56 hq56 hl1 hE2 (by decide)) ?_
          rintro r sh' I3 J3 ⟨rfl, rfl, hE3, hF3⟩
          exact V_lret ⟨rfl, dX11_goFor_86⟩ ⟨Nat.le_of_ble_eq_true rfl, Nat.le_of_ble_eq_true rfl⟩ ⟨rfl, congrArg (fun z => some (Value.long z)) ((if_pos hx)).symm, eAf_A (eKA_f hE3) h10, Fr2_t hF12 hF3⟩
        · skip
          refine V_aload_n dX11_goFor_0 rfl ?_
          refine V_getR (b := 10) dX11_goFor_1 fX11_41 ⟨Nat.le_of_ble_eq_true rfl, Nat.le_of_ble_eq_true rfl⟩ rfl rfl rfl ?_
          refine V_iload_n dX11_goFor_4 rfl ?_
          refine V_callV (As := [.int code]) (st := []) (a := 10) dX11_goFor_5 kX2_placeOf lX11_146 (by decide) rfl rfl (Nat.le_of_ble_eq_true rfl) ⟨Nat.le_of_ble_eq_true rfl, Nat.le_of_ble_eq_true rfl⟩ ⟨Nat.le_of_ble_eq_true rfl, Nat.le_of_ble_eq_true rfl⟩ rfl ⟨rfl, by decide⟩ (c_placeS hp) ?_
          rintro _ _ _ _ ⟨rfl, rfl, rfl, rfl⟩
          refine V_istore (ls' := [(6, .int (nI p)), (0, .ref 2), (1, .int code), (2, .int other), (3, .int (nI l)), (4, .int x), (5, .int (nI 1))]) dX11_goFor_8 (by decide) rfl ?_
          refine V_aload_n dX11_goFor_10 rfl ?_
          refine V_getR (b := 10) dX11_goFor_11 fX11_41 ⟨Nat.le_of_ble_eq_true rfl, Nat.le_of_ble_eq_true rfl⟩ rfl rfl rfl ?_
          refine V_iload_n dX11_goFor_14 rfl ?_
          refine V_callV (As := [.int other]) (st := []) (a := 10) dX11_goFor_15 kX2_placeOf lX11_146 (by decide) rfl rfl (Nat.le_of_ble_eq_true rfl) ⟨Nat.le_of_ble_eq_true rfl, Nat.le_of_ble_eq_true rfl⟩ ⟨Nat.le_of_ble_eq_true rfl, Nat.le_of_ble_eq_true rfl⟩ rfl ⟨rfl, by decide⟩ (c_placeS hq) ?_
          rintro _ _ _ _ ⟨rfl, rfl, rfl, rfl⟩
          refine V_istore (ls' := [(7, .int (nI q)), (6, .int (nI p)), (0, .ref 2), (1, .int code), (2, .int other), (3, .int (nI l)), (4, .int x), (5, .int (nI 1))]) dX11_goFor_18 (by decide) rfl ?_
          refine V_aload_n dX11_goFor_20 rfl ?_
          refine V_iload dX11_goFor_21 rfl ?_
          refine V_iload dX11_goFor_23 rfl ?_
          refine V_iload_n dX11_goFor_25 rfl ?_
          refine V_callV (As := [.int (nI p), .int (nI q), .int (nI l)]) (st := []) (a := 2) dX11_goFor_26 kX11_isState lX11_152 (by decide) rfl rfl (Nat.le_of_ble_eq_true rfl) ⟨Nat.le_of_ble_eq_true rfl, Nat.le_of_ble_eq_true rfl⟩ ⟨Nat.le_of_ble_eq_true rfl, Nat.le_of_ble_eq_true rfl⟩ rfl ⟨rfl, by decide⟩ (c_isStateY hp56 hq56 hl1) ?_
          rintro _ _ _ _ ⟨rfl, rfl, rfl, rfl⟩
          refine V_if_eq (tgt := 48) dX11_goFor_29 rfl (fun h => absurd h (by decide)) (fun _ => ?_)
          refine V_iload dX11_goFor_32 rfl ?_
          refine V_callS (As := [.int x]) (st := []) dX11_goFor_34 kX11_isCount lX11_187 (by decide) rfl rfl (Nat.le_of_ble_eq_true rfl) ⟨Nat.le_of_ble_eq_true rfl, Nat.le_of_ble_eq_true rfl⟩ (q_y q_isCount hx) ?_
          rintro _ _ _ _ ⟨rfl, rfl, rfl, rfl⟩
          refine V_if_eq (tgt := 48) dX11_goFor_37 rfl (fun h => absurd h (by decide)) (fun _ => ?_)
          refine V_iload dX11_goFor_40 rfl ?_
          refine V_callS (As := [.int (nI 1)]) (st := []) dX11_goFor_42 kX11_isValueOrThrow lX11_174 (by decide) rfl rfl (Nat.le_of_ble_eq_true rfl) ⟨Nat.le_of_ble_eq_true rfl, Nat.le_of_ble_eq_true rfl⟩ (q_y q_isValueOrThrow (by decide)) ?_
          rintro _ _ _ _ ⟨rfl, rfl, rfl, rfl⟩
          refine V_if_ne (tgt := 52) dX11_goFor_45 rfl (fun _ => ?_) (fun h => absurd h (by decide))
          refine V_aload_n dX11_goFor_52 rfl ?_
          refine V_getR (b := 9) dX11_goFor_53 fX11_33 ⟨Nat.le_of_ble_eq_true rfl, Nat.le_of_ble_eq_true rfl⟩ rfl rfl rfl ?_
          refine V_aload_n dX11_goFor_56 rfl ?_
          refine V_getI dX11_goFor_57 fX11_7 ⟨Nat.le_of_ble_eq_true rfl, Nat.le_of_ble_eq_true rfl⟩ rfl rfl ?_
          refine V_eqI (y := nI far) hf ?_
          refine V_callV (As := [.int (nI far)]) (st := []) (a := 9) dX11_goFor_60 kX3_standAt lX11_167 (by decide) rfl rfl (Nat.le_of_ble_eq_true rfl) ⟨Nat.le_of_ble_eq_true rfl, Nat.le_of_ble_eq_true rfl⟩ ⟨Nat.le_of_ble_eq_true rfl, Nat.le_of_ble_eq_true rfl⟩ rfl ⟨rfl, by decide⟩ (c_standA h10 hE) ?_
          rintro r sh' I1 J1 ⟨rfl, rfl, hE1, hF1, hJ1⟩
          refine V_aload_n dX11_goFor_63 rfl ?_
          refine V_getR (b := 9) dX11_goFor_64 fX11_33 ⟨Nat.le_of_ble_eq_true rfl, Nat.le_of_ble_eq_true rfl⟩ rfl rfl rfl ?_
          refine V_iload dX11_goFor_67 rfl ?_
          refine V_callV (As := [.int x]) (st := []) (a := 9) dX11_goFor_69 kX3_aimAtLeast lX11_195 (by decide) rfl rfl (Nat.le_of_ble_eq_true rfl) ⟨Nat.le_of_ble_eq_true rfl, Nat.le_of_ble_eq_true rfl⟩ ⟨Nat.le_of_ble_eq_true rfl, Nat.le_of_ble_eq_true rfl⟩ rfl ⟨rfl, by decide⟩ (c_aimL hE1) ?_
          rintro r sh' I2 J2 ⟨rfl, rfl, hE2, hF2⟩
          have hF12 := Fr2_t hF1 hF2
          refine V_aload_n dX11_goFor_72 rfl ?_
          refine V_getR (b := 9) dX11_goFor_73 fX11_33 ⟨Nat.le_of_ble_eq_true rfl, Nat.le_of_ble_eq_true rfl⟩ rfl rfl rfl ?_
          refine V_iload dX11_goFor_76 rfl ?_
          refine V_iload dX11_goFor_78 rfl ?_
          refine V_iload_n dX11_goFor_80 rfl ?_
          refine V_iload dX11_goFor_81 rfl ?_
          refine V_callV (As := [.int (nI p), .int (nI q), .int (nI l), .int (nI 1)]) (st := []) (a := 9) dX11_goFor_83 kX3_valueOrThrow lX11_183 (by decide) rfl rfl (Nat.le_of_ble_eq_true rfl) ⟨Nat.le_of_ble_eq_true rfl, Nat.le_of_ble_eq_true rfl⟩ ⟨Nat.le_of_ble_eq_true rfl, Nat.le_of_ble_eq_true rfl⟩ rfl ⟨rfl, by decide⟩ (c_value1 hp56 hq56 hl1 hE2 (by decide)) ?_
          rintro r sh' I3 J3 ⟨rfl, rfl, hE3, hF3⟩
          exact V_lret ⟨rfl, dX11_goFor_86⟩ ⟨Nat.le_of_ble_eq_true rfl, Nat.le_of_ble_eq_true rfl⟩ ⟨rfl, congrArg (fun z => some (Value.long z)) ((if_pos hx)).symm, eAf_A (eKA_f hE3) h10, Fr2_t hF12 hF3⟩
      · skip
        refine V_aload_n dX11_goFor_0 rfl ?_
        refine V_getR (b := 10) dX11_goFor_1 fX11_41 ⟨Nat.le_of_ble_eq_true rfl, Nat.le_of_ble_eq_true rfl⟩ rfl rfl rfl ?_
        refine V_iload_n dX11_goFor_4 rfl ?_
        refine V_callV (As := [.int code]) (st := []) (a := 10) dX11_goFor_5 kX2_placeOf lX11_146 (by decide) rfl rfl (Nat.le_of_ble_eq_true rfl) ⟨Nat.le_of_ble_eq_true rfl, Nat.le_of_ble_eq_true rfl⟩ ⟨Nat.le_of_ble_eq_true rfl, Nat.le_of_ble_eq_true rfl⟩ rfl ⟨rfl, by decide⟩ (c_placeS hp) ?_
        rintro _ _ _ _ ⟨rfl, rfl, rfl, rfl⟩
        refine V_istore (ls' := [(6, .int (nI p)), (0, .ref 2), (1, .int code), (2, .int other), (3, .int (nI l)), (4, .int x), (5, .int w)]) dX11_goFor_8 (by decide) rfl ?_
        refine V_aload_n dX11_goFor_10 rfl ?_
        refine V_getR (b := 10) dX11_goFor_11 fX11_41 ⟨Nat.le_of_ble_eq_true rfl, Nat.le_of_ble_eq_true rfl⟩ rfl rfl rfl ?_
        refine V_iload_n dX11_goFor_14 rfl ?_
        refine V_callV (As := [.int other]) (st := []) (a := 10) dX11_goFor_15 kX2_placeOf lX11_146 (by decide) rfl rfl (Nat.le_of_ble_eq_true rfl) ⟨Nat.le_of_ble_eq_true rfl, Nat.le_of_ble_eq_true rfl⟩ ⟨Nat.le_of_ble_eq_true rfl, Nat.le_of_ble_eq_true rfl⟩ rfl ⟨rfl, by decide⟩ (c_placeS hq) ?_
        rintro _ _ _ _ ⟨rfl, rfl, rfl, rfl⟩
        refine V_istore (ls' := [(7, .int (nI q)), (6, .int (nI p)), (0, .ref 2), (1, .int code), (2, .int other), (3, .int (nI l)), (4, .int x), (5, .int w)]) dX11_goFor_18 (by decide) rfl ?_
        refine V_aload_n dX11_goFor_20 rfl ?_
        refine V_iload dX11_goFor_21 rfl ?_
        refine V_iload dX11_goFor_23 rfl ?_
        refine V_iload_n dX11_goFor_25 rfl ?_
        refine V_callV (As := [.int (nI p), .int (nI q), .int (nI l)]) (st := []) (a := 2) dX11_goFor_26 kX11_isState lX11_152 (by decide) rfl rfl (Nat.le_of_ble_eq_true rfl) ⟨Nat.le_of_ble_eq_true rfl, Nat.le_of_ble_eq_true rfl⟩ ⟨Nat.le_of_ble_eq_true rfl, Nat.le_of_ble_eq_true rfl⟩ rfl ⟨rfl, by decide⟩ (c_isStateY hp56 hq56 hl1) ?_
        rintro _ _ _ _ ⟨rfl, rfl, rfl, rfl⟩
        refine V_if_eq (tgt := 48) dX11_goFor_29 rfl (fun h => absurd h (by decide)) (fun _ => ?_)
        refine V_iload dX11_goFor_32 rfl ?_
        refine V_callS (As := [.int x]) (st := []) dX11_goFor_34 kX11_isCount lX11_187 (by decide) rfl rfl (Nat.le_of_ble_eq_true rfl) ⟨Nat.le_of_ble_eq_true rfl, Nat.le_of_ble_eq_true rfl⟩ (q_y q_isCount hx) ?_
        rintro _ _ _ _ ⟨rfl, rfl, rfl, rfl⟩
        refine V_if_eq (tgt := 48) dX11_goFor_37 rfl (fun h => absurd h (by decide)) (fun _ => ?_)
        refine V_iload dX11_goFor_40 rfl ?_
        refine V_callS (As := [.int w]) (st := []) dX11_goFor_42 kX11_isValueOrThrow lX11_174 (by decide) rfl rfl (Nat.le_of_ble_eq_true rfl) ⟨Nat.le_of_ble_eq_true rfl, Nat.le_of_ble_eq_true rfl⟩ (q_n q_isValueOrThrow hw) ?_
        rintro _ _ _ _ ⟨rfl, rfl, rfl, rfl⟩
        refine V_if_ne (tgt := 52) dX11_goFor_45 rfl (fun h => absurd h (by decide)) (fun _ => ?_)
        refine V_ldc2 dX11_goFor_48 qX11_177 ?_
        exact V_lret ⟨rfl, dX11_goFor_51⟩ ⟨Nat.le_of_ble_eq_true rfl, Nat.le_of_ble_eq_true rfl⟩ ⟨rfl, congrArg (fun z => some (Value.long z)) ((if_pos hx).trans (on01_n hw)).symm, hE, Fr2_r⟩
    · skip
      refine V_aload_n dX11_goFor_0 rfl ?_
      refine V_getR (b := 10) dX11_goFor_1 fX11_41 ⟨Nat.le_of_ble_eq_true rfl, Nat.le_of_ble_eq_true rfl⟩ rfl rfl rfl ?_
      refine V_iload_n dX11_goFor_4 rfl ?_
      refine V_callV (As := [.int code]) (st := []) (a := 10) dX11_goFor_5 kX2_placeOf lX11_146 (by decide) rfl rfl (Nat.le_of_ble_eq_true rfl) ⟨Nat.le_of_ble_eq_true rfl, Nat.le_of_ble_eq_true rfl⟩ ⟨Nat.le_of_ble_eq_true rfl, Nat.le_of_ble_eq_true rfl⟩ rfl ⟨rfl, by decide⟩ (c_placeS hp) ?_
      rintro _ _ _ _ ⟨rfl, rfl, rfl, rfl⟩
      refine V_istore (ls' := [(6, .int (nI p)), (0, .ref 2), (1, .int code), (2, .int other), (3, .int (nI l)), (4, .int x), (5, .int w)]) dX11_goFor_8 (by decide) rfl ?_
      refine V_aload_n dX11_goFor_10 rfl ?_
      refine V_getR (b := 10) dX11_goFor_11 fX11_41 ⟨Nat.le_of_ble_eq_true rfl, Nat.le_of_ble_eq_true rfl⟩ rfl rfl rfl ?_
      refine V_iload_n dX11_goFor_14 rfl ?_
      refine V_callV (As := [.int other]) (st := []) (a := 10) dX11_goFor_15 kX2_placeOf lX11_146 (by decide) rfl rfl (Nat.le_of_ble_eq_true rfl) ⟨Nat.le_of_ble_eq_true rfl, Nat.le_of_ble_eq_true rfl⟩ ⟨Nat.le_of_ble_eq_true rfl, Nat.le_of_ble_eq_true rfl⟩ rfl ⟨rfl, by decide⟩ (c_placeS hq) ?_
      rintro _ _ _ _ ⟨rfl, rfl, rfl, rfl⟩
      refine V_istore (ls' := [(7, .int (nI q)), (6, .int (nI p)), (0, .ref 2), (1, .int code), (2, .int other), (3, .int (nI l)), (4, .int x), (5, .int w)]) dX11_goFor_18 (by decide) rfl ?_
      refine V_aload_n dX11_goFor_20 rfl ?_
      refine V_iload dX11_goFor_21 rfl ?_
      refine V_iload dX11_goFor_23 rfl ?_
      refine V_iload_n dX11_goFor_25 rfl ?_
      refine V_callV (As := [.int (nI p), .int (nI q), .int (nI l)]) (st := []) (a := 2) dX11_goFor_26 kX11_isState lX11_152 (by decide) rfl rfl (Nat.le_of_ble_eq_true rfl) ⟨Nat.le_of_ble_eq_true rfl, Nat.le_of_ble_eq_true rfl⟩ ⟨Nat.le_of_ble_eq_true rfl, Nat.le_of_ble_eq_true rfl⟩ rfl ⟨rfl, by decide⟩ (c_isStateY hp56 hq56 hl1) ?_
      rintro _ _ _ _ ⟨rfl, rfl, rfl, rfl⟩
      refine V_if_eq (tgt := 48) dX11_goFor_29 rfl (fun h => absurd h (by decide)) (fun _ => ?_)
      refine V_iload dX11_goFor_32 rfl ?_
      refine V_callS (As := [.int x]) (st := []) dX11_goFor_34 kX11_isCount lX11_187 (by decide) rfl rfl (Nat.le_of_ble_eq_true rfl) ⟨Nat.le_of_ble_eq_true rfl, Nat.le_of_ble_eq_true rfl⟩ (q_n q_isCount hx) ?_
      rintro _ _ _ _ ⟨rfl, rfl, rfl, rfl⟩
      refine V_if_eq (tgt := 48) dX11_goFor_37 rfl (fun _ => ?_) (fun h => absurd h (by decide))
      refine V_ldc2 dX11_goFor_48 qX11_177 ?_
      exact V_lret ⟨rfl, dX11_goFor_51⟩ ⟨Nat.le_of_ble_eq_true rfl, Nat.le_of_ble_eq_true rfl⟩ ⟨rfl, congrArg (fun z => some (Value.long z)) (if_neg hx).symm, hE, Fr2_r⟩

set_option maxRecDepth 100000 in
set_option maxHeartbeats 4000000 in
theorem c_by {G : zG} {I : zI} {J : zJ} {Lf : Nat → (Nat → Int32) → Int32} {Rl : Nat → Nat → (Nat → Int32) → Int32} {far : Nat} (hE : eA Lf Rl I J) (hf : I 2 0 = nI far) (h6 : 6 ≤ far) (h10 : far ≤ 10) {c0 : Nat} {cc : Nat → Nat} (hC : cC I c0 cc) {j k code other last w : Int32} : zK G mX11_by 19 [.ref 2, .int j, .int k, .int code, .int other, .int last, .int w] zsh I J (zP (fun r I' J' => r = some (.long (if ply cc j ∧ ply cc k then onS (stO code other last) (-2000000000000000000) (fun p q l => on01 w (-2000000000000000000) (vX 1 j k Rl Lf far p q l).1 (thrX 1 j k Rl Lf far p q l).toInt64) else -2000000000000000000)) ∧ eA Lf Rl I' J' ∧ Fr2 I J I' J')) := by
  refine zK_of kX11_by.2.2.2.2.1 (Nat.le_of_ble_eq_true rfl) ?_
  show V G mX11_by 19 _ 0 [(0, .ref 2), (1, .int j), (2, .int k), (3, .int code), (4, .int other), (5, .int last), (6, .int w)] [] (0, 0) zsh I J
  by_cases hj : ply cc j
  · by_cases hk : ply cc k
    · rcases hst : stO code other last with _ | ⟨p, q, l⟩
      · have hsn := stO_n hst
        refine V_aload_n dX11_by_0 rfl ?_
        refine V_getR (b := 10) dX11_by_1 fX11_41 ⟨Nat.le_of_ble_eq_true rfl, Nat.le_of_ble_eq_true rfl⟩ rfl rfl rfl ?_
        refine V_iload_n dX11_by_4 rfl ?_
        refine V_callV (As := [.int code]) (st := []) (a := 10) dX11_by_5 kX2_placeOf lX11_146 (by decide) rfl rfl (Nat.le_of_ble_eq_true rfl) ⟨Nat.le_of_ble_eq_true rfl, Nat.le_of_ble_eq_true rfl⟩ ⟨Nat.le_of_ble_eq_true rfl, Nat.le_of_ble_eq_true rfl⟩ rfl ⟨rfl, by decide⟩ c_placeOf2 ?_
        rintro _ _ _ _ ⟨rfl, rfl, rfl, rfl⟩
        refine V_istore (ls' := [(7, .int (pen (zpl code))), (0, .ref 2), (1, .int j), (2, .int k), (3, .int code), (4, .int other), (5, .int last), (6, .int w)]) dX11_by_8 (by decide) rfl ?_
        refine V_aload_n dX11_by_10 rfl ?_
        refine V_getR (b := 10) dX11_by_11 fX11_41 ⟨Nat.le_of_ble_eq_true rfl, Nat.le_of_ble_eq_true rfl⟩ rfl rfl rfl ?_
        refine V_iload dX11_by_14 rfl ?_
        refine V_callV (As := [.int other]) (st := []) (a := 10) dX11_by_16 kX2_placeOf lX11_146 (by decide) rfl rfl (Nat.le_of_ble_eq_true rfl) ⟨Nat.le_of_ble_eq_true rfl, Nat.le_of_ble_eq_true rfl⟩ ⟨Nat.le_of_ble_eq_true rfl, Nat.le_of_ble_eq_true rfl⟩ rfl ⟨rfl, by decide⟩ c_placeOf2 ?_
        rintro _ _ _ _ ⟨rfl, rfl, rfl, rfl⟩
        refine V_istore (ls' := [(8, .int (pen (zpl other))), (7, .int (pen (zpl code))), (0, .ref 2), (1, .int j), (2, .int k), (3, .int code), (4, .int other), (5, .int last), (6, .int w)]) dX11_by_19 (by decide) rfl ?_
        refine V_aload_n dX11_by_21 rfl ?_
        refine V_iload_n dX11_by_22 rfl ?_
        refine V_callV (As := [.int j]) (st := []) (a := 2) dX11_by_23 kX11_canPlayBy lX11_205 (by decide) rfl rfl (Nat.le_of_ble_eq_true rfl) ⟨Nat.le_of_ble_eq_true rfl, Nat.le_of_ble_eq_true rfl⟩ ⟨Nat.le_of_ble_eq_true rfl, Nat.le_of_ble_eq_true rfl⟩ rfl ⟨rfl, by decide⟩ (q_y (q_canPlayBy hC) hj) ?_
        rintro _ _ _ _ ⟨rfl, rfl, rfl, rfl⟩
        refine V_if_eq (tgt := 58) dX11_by_26 rfl (fun h => absurd h (by decide)) (fun _ => ?_)
        refine V_aload_n dX11_by_29 rfl ?_
        refine V_iload_n dX11_by_30 rfl ?_
        refine V_callV (As := [.int k]) (st := []) (a := 2) dX11_by_31 kX11_canPlayBy lX11_205 (by decide) rfl rfl (Nat.le_of_ble_eq_true rfl) ⟨Nat.le_of_ble_eq_true rfl, Nat.le_of_ble_eq_true rfl⟩ ⟨Nat.le_of_ble_eq_true rfl, Nat.le_of_ble_eq_true rfl⟩ rfl ⟨rfl, by decide⟩ (q_y (q_canPlayBy hC) hk) ?_
        rintro _ _ _ _ ⟨rfl, rfl, rfl, rfl⟩
        refine V_if_eq (tgt := 58) dX11_by_34 rfl (fun h => absurd h (by decide)) (fun _ => ?_)
        refine V_aload_n dX11_by_37 rfl ?_
        refine V_iload dX11_by_38 rfl ?_
        refine V_iload dX11_by_40 rfl ?_
        refine V_iload dX11_by_42 rfl ?_
        refine V_callV (As := [.int (pen (zpl code)), .int (pen (zpl other)), .int last]) (st := []) (a := 2) dX11_by_44 kX11_isState lX11_152 (by decide) rfl rfl (Nat.le_of_ble_eq_true rfl) ⟨Nat.le_of_ble_eq_true rfl, Nat.le_of_ble_eq_true rfl⟩ ⟨Nat.le_of_ble_eq_true rfl, Nat.le_of_ble_eq_true rfl⟩ rfl ⟨rfl, by decide⟩ (c_isStateN hsn) ?_
        rintro _ _ _ _ ⟨rfl, rfl, rfl, rfl⟩
        refine V_if_eq (tgt := 58) dX11_by_47 rfl (fun _ => ?_) (fun h => absurd h (by decide))
        refine V_ldc2 dX11_by_58 qX11_177 ?_
        exact V_lret ⟨rfl, dX11_by_61⟩ ⟨Nat.le_of_ble_eq_true rfl, Nat.le_of_ble_eq_true rfl⟩ ⟨rfl, congrArg (fun z => some (Value.long z)) (ite_self _).symm, hE, Fr2_r⟩
      · obtain ⟨hp, hq, hl, hl1, hp56, hq56⟩ := stO_s hst
        subst hl
        by_cases hw : inZ w 0 1
        · rcases inZ01 hw with rfl | rfl
          · skip
            refine V_aload_n dX11_by_0 rfl ?_
            refine V_getR (b := 10) dX11_by_1 fX11_41 ⟨Nat.le_of_ble_eq_true rfl, Nat.le_of_ble_eq_true rfl⟩ rfl rfl rfl ?_
            refine V_iload_n dX11_by_4 rfl ?_
            refine V_callV (As := [.int code]) (st := []) (a := 10) dX11_by_5 kX2_placeOf lX11_146 (by decide) rfl rfl (Nat.le_of_ble_eq_true rfl) ⟨Nat.le_of_ble_eq_true rfl, Nat.le_of_ble_eq_true rfl⟩ ⟨Nat.le_of_ble_eq_true rfl, Nat.le_of_ble_eq_true rfl⟩ rfl ⟨rfl, by decide⟩ (c_placeS hp) ?_
            rintro _ _ _ _ ⟨rfl, rfl, rfl, rfl⟩
            refine V_istore (ls' := [(7, .int (nI p)), (0, .ref 2), (1, .int j), (2, .int k), (3, .int code), (4, .int other), (5, .int (nI l)), (6, .int (nI 0))]) dX11_by_8 (by decide) rfl ?_
            refine V_aload_n dX11_by_10 rfl ?_
            refine V_getR (b := 10) dX11_by_11 fX11_41 ⟨Nat.le_of_ble_eq_true rfl, Nat.le_of_ble_eq_true rfl⟩ rfl rfl rfl ?_
            refine V_iload dX11_by_14 rfl ?_
            refine V_callV (As := [.int other]) (st := []) (a := 10) dX11_by_16 kX2_placeOf lX11_146 (by decide) rfl rfl (Nat.le_of_ble_eq_true rfl) ⟨Nat.le_of_ble_eq_true rfl, Nat.le_of_ble_eq_true rfl⟩ ⟨Nat.le_of_ble_eq_true rfl, Nat.le_of_ble_eq_true rfl⟩ rfl ⟨rfl, by decide⟩ (c_placeS hq) ?_
            rintro _ _ _ _ ⟨rfl, rfl, rfl, rfl⟩
            refine V_istore (ls' := [(8, .int (nI q)), (7, .int (nI p)), (0, .ref 2), (1, .int j), (2, .int k), (3, .int code), (4, .int other), (5, .int (nI l)), (6, .int (nI 0))]) dX11_by_19 (by decide) rfl ?_
            refine V_aload_n dX11_by_21 rfl ?_
            refine V_iload_n dX11_by_22 rfl ?_
            refine V_callV (As := [.int j]) (st := []) (a := 2) dX11_by_23 kX11_canPlayBy lX11_205 (by decide) rfl rfl (Nat.le_of_ble_eq_true rfl) ⟨Nat.le_of_ble_eq_true rfl, Nat.le_of_ble_eq_true rfl⟩ ⟨Nat.le_of_ble_eq_true rfl, Nat.le_of_ble_eq_true rfl⟩ rfl ⟨rfl, by decide⟩ (q_y (q_canPlayBy hC) hj) ?_
            rintro _ _ _ _ ⟨rfl, rfl, rfl, rfl⟩
            refine V_if_eq (tgt := 58) dX11_by_26 rfl (fun h => absurd h (by decide)) (fun _ => ?_)
            refine V_aload_n dX11_by_29 rfl ?_
            refine V_iload_n dX11_by_30 rfl ?_
            refine V_callV (As := [.int k]) (st := []) (a := 2) dX11_by_31 kX11_canPlayBy lX11_205 (by decide) rfl rfl (Nat.le_of_ble_eq_true rfl) ⟨Nat.le_of_ble_eq_true rfl, Nat.le_of_ble_eq_true rfl⟩ ⟨Nat.le_of_ble_eq_true rfl, Nat.le_of_ble_eq_true rfl⟩ rfl ⟨rfl, by decide⟩ (q_y (q_canPlayBy hC) hk) ?_
            rintro _ _ _ _ ⟨rfl, rfl, rfl, rfl⟩
            refine V_if_eq (tgt := 58) dX11_by_34 rfl (fun h => absurd h (by decide)) (fun _ => ?_)
            refine V_aload_n dX11_by_37 rfl ?_
            refine V_iload dX11_by_38 rfl ?_
            refine V_iload dX11_by_40 rfl ?_
            refine V_iload dX11_by_42 rfl ?_
            refine V_callV (As := [.int (nI p), .int (nI q), .int (nI l)]) (st := []) (a := 2) dX11_by_44 kX11_isState lX11_152 (by decide) rfl rfl (Nat.le_of_ble_eq_true rfl) ⟨Nat.le_of_ble_eq_true rfl, Nat.le_of_ble_eq_true rfl⟩ ⟨Nat.le_of_ble_eq_true rfl, Nat.le_of_ble_eq_true rfl⟩ rfl ⟨rfl, by decide⟩ (c_isStateY hp56 hq56 hl1) ?_
            rintro _ _ _ _ ⟨rfl, rfl, rfl, rfl⟩
            refine V_if_eq (tgt := 58) dX11_by_47 rfl (fun h => absurd h (by decide)) (fun _ => ?_)
            refine V_iload dX11_by_50 rfl ?_
            refine V_callS (As := [.int (nI 0)]) (st := []) dX11_by_52 kX11_isValueOrThrow lX11_174 (by decide) rfl rfl (Nat.le_of_ble_eq_true rfl) ⟨Nat.le_of_ble_eq_true rfl, Nat.le_of_ble_eq_true rfl⟩ (q_y q_isValueOrThrow (by decide)) ?_
            rintro _ _ _ _ ⟨rfl, rfl, rfl, rfl⟩
            refine V_if_ne (tgt := 62) dX11_by_55 rfl (fun _ => ?_) (fun h => absurd h (by decide))
            refine V_aload_n dX11_by_62 rfl ?_
            refine V_getR (b := 9) dX11_by_63 fX11_33 ⟨Nat.le_of_ble_eq_true rfl, Nat.le_of_ble_eq_true rfl⟩ rfl rfl rfl ?_
            refine V_aload_n dX11_by_66 rfl ?_
            refine V_getI dX11_by_67 fX11_7 ⟨Nat.le_of_ble_eq_true rfl, Nat.le_of_ble_eq_true rfl⟩ rfl rfl ?_
            refine V_eqI (y := nI far) hf ?_
            refine V_callV (As := [.int (nI far)]) (st := []) (a := 9) dX11_by_70 kX3_standAt lX11_167 (by decide) rfl rfl (Nat.le_of_ble_eq_true rfl) ⟨Nat.le_of_ble_eq_true rfl, Nat.le_of_ble_eq_true rfl⟩ ⟨Nat.le_of_ble_eq_true rfl, Nat.le_of_ble_eq_true rfl⟩ rfl ⟨rfl, by decide⟩ (c_standA h10 hE) ?_
            rintro r sh' I1 J1 ⟨rfl, rfl, hE1, hF1, hJ1⟩
            refine V_aload_n dX11_by_73 rfl ?_
            refine V_getR (b := 9) dX11_by_74 fX11_33 ⟨Nat.le_of_ble_eq_true rfl, Nat.le_of_ble_eq_true rfl⟩ rfl rfl rfl ?_
            refine V_iload_n dX11_by_77 rfl ?_
            refine V_iload_n dX11_by_78 rfl ?_
            refine V_callV (As := [.int j, .int k]) (st := []) (a := 9) dX11_by_79 kX3_aimBy lX11_179 (by decide) rfl rfl (Nat.le_of_ble_eq_true rfl) ⟨Nat.le_of_ble_eq_true rfl, Nat.le_of_ble_eq_true rfl⟩ ⟨Nat.le_of_ble_eq_true rfl, Nat.le_of_ble_eq_true rfl⟩ rfl ⟨rfl, by decide⟩ (c_aimA hE1) ?_
            rintro r sh' I2 J2 ⟨rfl, rfl, hE2, hF2⟩
            have hF12 := Fr2_t hF1 hF2
            refine V_aload_n dX11_by_82 rfl ?_
            refine V_getR (b := 9) dX11_by_83 fX11_33 ⟨Nat.le_of_ble_eq_true rfl, Nat.le_of_ble_eq_true rfl⟩ rfl rfl rfl ?_
            refine V_iload dX11_by_86 rfl ?_
            refine V_iload dX11_by_88 rfl ?_
            refine V_iload dX11_by_90 rfl ?_
            refine V_iload dX11_by_92 rfl ?_
            refine V_callV (As := [.int (nI p), .int (nI q), .int (nI l), .int (nI 0)]) (st := []) (a := 9) dX11_by_94 kX3_valueOrThrow lX11_183 (by decide) rfl rfl (Nat.le_of_ble_eq_true rfl) ⟨Nat.le_of_ble_eq_true rfl, Nat.le_of_ble_eq_true rfl⟩ ⟨Nat.le_of_ble_eq_true rfl, Nat.le_of_ble_eq_true rfl⟩ rfl ⟨rfl, by decide⟩ (c_value0 hp56 hq56 hl1 hE2 (by decide)) ?_
            rintro r sh' I3 J3 ⟨rfl, rfl, hE3, hF3⟩
            exact V_lret ⟨rfl, dX11_by_97⟩ ⟨Nat.le_of_ble_eq_true rfl, Nat.le_of_ble_eq_true rfl⟩ ⟨rfl, congrArg (fun z => some (Value.long z)) (if_pos ⟨hj, hk⟩).symm, eAf_A (eKA_f hE3) h10, Fr2_t hF12 hF3⟩
          · skip
            refine V_aload_n dX11_by_0 rfl ?_
            refine V_getR (b := 10) dX11_by_1 fX11_41 ⟨Nat.le_of_ble_eq_true rfl, Nat.le_of_ble_eq_true rfl⟩ rfl rfl rfl ?_
            refine V_iload_n dX11_by_4 rfl ?_
            refine V_callV (As := [.int code]) (st := []) (a := 10) dX11_by_5 kX2_placeOf lX11_146 (by decide) rfl rfl (Nat.le_of_ble_eq_true rfl) ⟨Nat.le_of_ble_eq_true rfl, Nat.le_of_ble_eq_true rfl⟩ ⟨Nat.le_of_ble_eq_true rfl, Nat.le_of_ble_eq_true rfl⟩ rfl ⟨rfl, by decide⟩ (c_placeS hp) ?_
            rintro _ _ _ _ ⟨rfl, rfl, rfl, rfl⟩
            refine V_istore (ls' := [(7, .int (nI p)), (0, .ref 2), (1, .int j), (2, .int k), (3, .int code), (4, .int other), (5, .int (nI l)), (6, .int (nI 1))]) dX11_by_8 (by decide) rfl ?_
            refine V_aload_n dX11_by_10 rfl ?_
            refine V_getR (b := 10) dX11_by_11 fX11_41 ⟨Nat.le_of_ble_eq_true rfl, Nat.le_of_ble_eq_true rfl⟩ rfl rfl rfl ?_
            refine V_iload dX11_by_14 rfl ?_
            refine V_callV (As := [.int other]) (st := []) (a := 10) dX11_by_16 kX2_placeOf lX11_146 (by decide) rfl rfl (Nat.le_of_ble_eq_true rfl) ⟨Nat.le_of_ble_eq_true rfl, Nat.le_of_ble_eq_true rfl⟩ ⟨Nat.le_of_ble_eq_true rfl, Nat.le_of_ble_eq_true rfl⟩ rfl ⟨rfl, by decide⟩ (c_placeS hq) ?_
            rintro _ _ _ _ ⟨rfl, rfl, rfl, rfl⟩
            refine V_istore (ls' := [(8, .int (nI q)), (7, .int (nI p)), (0, .ref 2), (1, .int j), (2, .int k), (3, .int code), (4, .int other), (5, .int (nI l)), (6, .int (nI 1))]) dX11_by_19 (by decide) rfl ?_
            refine V_aload_n dX11_by_21 rfl ?_
            refine V_iload_n dX11_by_22 rfl ?_
            refine V_callV (As := [.int j]) (st := []) (a := 2) dX11_by_23 kX11_canPlayBy lX11_205 (by decide) rfl rfl (Nat.le_of_ble_eq_true rfl) ⟨Nat.le_of_ble_eq_true rfl, Nat.le_of_ble_eq_true rfl⟩ ⟨Nat.le_of_ble_eq_true rfl, Nat.le_of_ble_eq_true rfl⟩ rfl ⟨rfl, by decide⟩ (q_y (q_canPlayBy hC) hj) ?_
            rintro _ _ _ _ ⟨rfl, rfl, rfl, rfl⟩
            refine V_if_eq (tgt := 58) dX11_by_26 rfl (fun h => absurd h (by decide)) (fun _ => ?_)
            refine V_aload_n dX11_by_29 rfl ?_
            refine V_iload_n dX11_by_30 rfl ?_
            refine V_callV (As := [.int k]) (st := []) (a := 2) dX11_by_31 kX11_canPlayBy lX11_205 (by decide) rfl rfl (Nat.le_of_ble_eq_true rfl) ⟨Nat.le_of_ble_eq_true rfl, Nat.le_of_ble_eq_true rfl⟩ ⟨Nat.le_of_ble_eq_true rfl, Nat.le_of_ble_eq_true rfl⟩ rfl ⟨rfl, by decide⟩ (q_y (q_canPlayBy hC) hk) ?_
            rintro _ _ _ _ ⟨rfl, rfl, rfl, rfl⟩
            refine V_if_eq (tgt := 58) dX11_by_34 rfl (fun h => absurd h (by decide)) (fun _ => ?_)
            refine V_aload_n dX11_by_37 rfl ?_
            refine V_iload dX11_by_38 rfl ?_
            refine V_iload dX11_by_40 rfl ?_
            refine V_iload dX11_by_42 rfl ?_
            refine V_callV (As := [.int (nI p), .int (nI q), .int (nI l)]) (st := []) (a := 2) dX11_by_44 kX11_isState lX11_152 (by decide) rfl rfl (Nat.le_of_ble_eq_true rfl) ⟨Nat.le_of_ble_eq_true rfl, Nat.le_of_ble_eq_true rfl⟩ ⟨Nat.le_of_ble_eq_true rfl, Nat.le_of_ble_eq_true rfl⟩ rfl ⟨rfl, by decide⟩ (c_isStateY hp56 hq56 hl1) ?_
            rintro _ _ _ _ ⟨rfl, rfl, rfl, rfl⟩
            refine V_if_eq (tgt := 58) dX11_by_47 rfl (fun h => absurd h (by decide)) (fun _ => ?_)
            refine V_iload dX11_by_50 rfl ?_
            refine V_callS (As := [.int (nI 1)]) (st := []) dX11_by_52 kX11_isValueOrThrow lX11_174 (by decide) rfl rfl (Nat.le_of_ble_eq_true rfl) ⟨Nat.le_of_ble_eq_true rfl, Nat.le_of_ble_eq_true rfl⟩ (q_y q_isValueOrThrow (by decide)) ?_
            rintro _ _ _ _ ⟨rfl, rfl, rfl, rfl⟩
            refine V_if_ne (tgt := 62) dX11_by_55 rfl (fun _ => ?_) (fun h => absurd h (by decide))
            refine V_aload_n dX11_by_62 rfl ?_
            refine V_getR (b := 9) dX11_by_63 fX11_33 ⟨Nat.le_of_ble_eq_true rfl, Nat.le_of_ble_eq_true rfl⟩ rfl rfl rfl ?_
            refine V_aload_n dX11_by_66 rfl ?_
            refine V_getI dX11_by_67 fX11_7 ⟨Nat.le_of_ble_eq_true rfl, Nat.le_of_ble_eq_true rfl⟩ rfl rfl ?_
            refine V_eqI (y := nI far) hf ?_
            refine V_callV (As := [.int (nI far)]) (st := []) (a := 9) dX11_by_70 kX3_standAt lX11_167 (by decide) rfl rfl (Nat.le_of_ble_eq_true rfl) ⟨Nat.le_of_ble_eq_true rfl, Nat.le_of_ble_eq_true rfl⟩ ⟨Nat.le_of_ble_eq_true rfl, Nat.le_of_ble_eq_true rfl⟩ rfl ⟨rfl, by decide⟩ (c_standA h10 hE) ?_
            rintro r sh' I1 J1 ⟨rfl, rfl, hE1, hF1, hJ1⟩
            refine V_aload_n dX11_by_73 rfl ?_
            refine V_getR (b := 9) dX11_by_74 fX11_33 ⟨Nat.le_of_ble_eq_true rfl, Nat.le_of_ble_eq_true rfl⟩ rfl rfl rfl ?_
            refine V_iload_n dX11_by_77 rfl ?_
            refine V_iload_n dX11_by_78 rfl ?_
            refine V_callV (As := [.int j, .int k]) (st := []) (a := 9) dX11_by_79 kX3_aimBy lX11_179 (by decide) rfl rfl (Nat.le_of_ble_eq_true rfl) ⟨Nat.le_of_ble_eq_true rfl, Nat.le_of_ble_eq_true rfl⟩ ⟨Nat.le_of_ble_eq_true rfl, Nat.le_of_ble_eq_true rfl⟩ rfl ⟨rfl, by decide⟩ (c_aimA hE1) ?_
            rintro r sh' I2 J2 ⟨rfl, rfl, hE2, hF2⟩
            have hF12 := Fr2_t hF1 hF2
            refine V_aload_n dX11_by_82 rfl ?_
            refine V_getR (b := 9) dX11_by_83 fX11_33 ⟨Nat.le_of_ble_eq_true rfl, Nat.le_of_ble_eq_true rfl⟩ rfl rfl rfl ?_
            refine V_iload dX11_by_86 rfl ?_
            refine V_iload dX11_by_88 rfl ?_
            refine V_iload dX11_by_90 rfl ?_
            refine V_iload dX11_by_92 rfl ?_
            refine V_callV (As := [.int (nI p), .int (nI q), .int (nI l), .int (nI 1)]) (st := []) (a := 9) dX11_by_94 kX3_valueOrThrow lX11_183 (by decide) rfl rfl (Nat.le_of_ble_eq_true rfl) ⟨Nat.le_of_ble_eq_true rfl, Nat.le_of_ble_eq_true rfl⟩ ⟨Nat.le_of_ble_eq_true rfl, Nat.le_of_ble_eq_true rfl⟩ rfl ⟨rfl, by decide⟩ (c_value1 hp56 hq56 hl1 hE2 (by decide)) ?_
            rintro r sh' I3 J3 ⟨rfl, rfl, hE3, hF3⟩
            exact V_lret ⟨rfl, dX11_by_97⟩ ⟨Nat.le_of_ble_eq_true rfl, Nat.le_of_ble_eq_true rfl⟩ ⟨rfl, congrArg (fun z => some (Value.long z)) (if_pos ⟨hj, hk⟩).symm, eAf_A (eKA_f hE3) h10, Fr2_t hF12 hF3⟩
        · skip
          refine V_aload_n dX11_by_0 rfl ?_
          refine V_getR (b := 10) dX11_by_1 fX11_41 ⟨Nat.le_of_ble_eq_true rfl, Nat.le_of_ble_eq_true rfl⟩ rfl rfl rfl ?_
          refine V_iload_n dX11_by_4 rfl ?_
          refine V_callV (As := [.int code]) (st := []) (a := 10) dX11_by_5 kX2_placeOf lX11_146 (by decide) rfl rfl (Nat.le_of_ble_eq_true rfl) ⟨Nat.le_of_ble_eq_true rfl, Nat.le_of_ble_eq_true rfl⟩ ⟨Nat.le_of_ble_eq_true rfl, Nat.le_of_ble_eq_true rfl⟩ rfl ⟨rfl, by decide⟩ (c_placeS hp) ?_
          rintro _ _ _ _ ⟨rfl, rfl, rfl, rfl⟩
          refine V_istore (ls' := [(7, .int (nI p)), (0, .ref 2), (1, .int j), (2, .int k), (3, .int code), (4, .int other), (5, .int (nI l)), (6, .int w)]) dX11_by_8 (by decide) rfl ?_
          refine V_aload_n dX11_by_10 rfl ?_
          refine V_getR (b := 10) dX11_by_11 fX11_41 ⟨Nat.le_of_ble_eq_true rfl, Nat.le_of_ble_eq_true rfl⟩ rfl rfl rfl ?_
          refine V_iload dX11_by_14 rfl ?_
          refine V_callV (As := [.int other]) (st := []) (a := 10) dX11_by_16 kX2_placeOf lX11_146 (by decide) rfl rfl (Nat.le_of_ble_eq_true rfl) ⟨Nat.le_of_ble_eq_true rfl, Nat.le_of_ble_eq_true rfl⟩ ⟨Nat.le_of_ble_eq_true rfl, Nat.le_of_ble_eq_true rfl⟩ rfl ⟨rfl, by decide⟩ (c_placeS hq) ?_
          rintro _ _ _ _ ⟨rfl, rfl, rfl, rfl⟩
          refine V_istore (ls' := [(8, .int (nI q)), (7, .int (nI p)), (0, .ref 2), (1, .int j), (2, .int k), (3, .int code), (4, .int other), (5, .int (nI l)), (6, .int w)]) dX11_by_19 (by decide) rfl ?_
          refine V_aload_n dX11_by_21 rfl ?_
          refine V_iload_n dX11_by_22 rfl ?_
          refine V_callV (As := [.int j]) (st := []) (a := 2) dX11_by_23 kX11_canPlayBy lX11_205 (by decide) rfl rfl (Nat.le_of_ble_eq_true rfl) ⟨Nat.le_of_ble_eq_true rfl, Nat.le_of_ble_eq_true rfl⟩ ⟨Nat.le_of_ble_eq_true rfl, Nat.le_of_ble_eq_true rfl⟩ rfl ⟨rfl, by decide⟩ (q_y (q_canPlayBy hC) hj) ?_
          rintro _ _ _ _ ⟨rfl, rfl, rfl, rfl⟩
          refine V_if_eq (tgt := 58) dX11_by_26 rfl (fun h => absurd h (by decide)) (fun _ => ?_)
          refine V_aload_n dX11_by_29 rfl ?_
          refine V_iload_n dX11_by_30 rfl ?_
          refine V_callV (As := [.int k]) (st := []) (a := 2) dX11_by_31 kX11_canPlayBy lX11_205 (by decide) rfl rfl (Nat.le_of_ble_eq_true rfl) ⟨Nat.le_of_ble_eq_true rfl, Nat.le_of_ble_eq_true rfl⟩ ⟨Nat.le_of_ble_eq_true rfl, Nat.le_of_ble_eq_true rfl⟩ rfl ⟨rfl, by decide⟩ (q_y (q_canPlayBy hC) hk) ?_
          rintro _ _ _ _ ⟨rfl, rfl, rfl, rfl⟩
          refine V_if_eq (tgt := 58) dX11_by_34 rfl (fun h => absurd h (by decide)) (fun _ => ?_)
          refine V_aload_n dX11_by_37 rfl ?_
          refine V_iload dX11_by_38 rfl ?_
          refine V_iload dX11_by_40 rfl ?_
          refine V_iload dX11_by_42 rfl ?_
          refine V_callV (As := [.int (nI p), .int (nI q), .int (nI l)]) (st := []) (a := 2) dX11_by_44 kX11_isState lX11_152 (by decide) rfl rfl (Nat.le_of_ble_eq_true rfl) ⟨Nat.le_of_ble_eq_true rfl, Nat.le_of_ble_eq_true rfl⟩ ⟨Nat.le_of_ble_eq_true rfl, Nat.le_of_ble_eq_true rfl⟩ rfl ⟨rfl, by decide⟩ (c_isStateY hp56 hq56 hl1) ?_
          rintro _ _ _ _ ⟨rfl, rfl, rfl, rfl⟩
          refine V_if_eq (tgt := 58) dX11_by_47 rfl (fun h => absurd h (by decide)) (fun _ => ?_)
          refine V_iload dX11_by_50 rfl ?_
          refine V_callS (As := [.int w]) (st := []) dX11_by_52 kX11_isValueOrThrow lX11_174 (by decide) rfl rfl (Nat.le_of_ble_eq_true rfl) ⟨Nat.le_of_ble_eq_true rfl, Nat.le_of_ble_eq_true rfl⟩ (q_n q_isValueOrThrow hw) ?_
          rintro _ _ _ _ ⟨rfl, rfl, rfl, rfl⟩
          refine V_if_ne (tgt := 62) dX11_by_55 rfl (fun h => absurd h (by decide)) (fun _ => ?_)
          refine V_ldc2 dX11_by_58 qX11_177 ?_
          exact V_lret ⟨rfl, dX11_by_61⟩ ⟨Nat.le_of_ble_eq_true rfl, Nat.le_of_ble_eq_true rfl⟩ ⟨rfl, congrArg (fun z => some (Value.long z)) ((if_pos ⟨hj, hk⟩).trans (on01_n hw)).symm, hE, Fr2_r⟩
    · skip
      refine V_aload_n dX11_by_0 rfl ?_
      refine V_getR (b := 10) dX11_by_1 fX11_41 ⟨Nat.le_of_ble_eq_true rfl, Nat.le_of_ble_eq_true rfl⟩ rfl rfl rfl ?_
      refine V_iload_n dX11_by_4 rfl ?_
      refine V_callV (As := [.int code]) (st := []) (a := 10) dX11_by_5 kX2_placeOf lX11_146 (by decide) rfl rfl (Nat.le_of_ble_eq_true rfl) ⟨Nat.le_of_ble_eq_true rfl, Nat.le_of_ble_eq_true rfl⟩ ⟨Nat.le_of_ble_eq_true rfl, Nat.le_of_ble_eq_true rfl⟩ rfl ⟨rfl, by decide⟩ c_placeOf2 ?_
      rintro _ _ _ _ ⟨rfl, rfl, rfl, rfl⟩
      refine V_istore (ls' := [(7, .int (pen (zpl code))), (0, .ref 2), (1, .int j), (2, .int k), (3, .int code), (4, .int other), (5, .int last), (6, .int w)]) dX11_by_8 (by decide) rfl ?_
      refine V_aload_n dX11_by_10 rfl ?_
      refine V_getR (b := 10) dX11_by_11 fX11_41 ⟨Nat.le_of_ble_eq_true rfl, Nat.le_of_ble_eq_true rfl⟩ rfl rfl rfl ?_
      refine V_iload dX11_by_14 rfl ?_
      refine V_callV (As := [.int other]) (st := []) (a := 10) dX11_by_16 kX2_placeOf lX11_146 (by decide) rfl rfl (Nat.le_of_ble_eq_true rfl) ⟨Nat.le_of_ble_eq_true rfl, Nat.le_of_ble_eq_true rfl⟩ ⟨Nat.le_of_ble_eq_true rfl, Nat.le_of_ble_eq_true rfl⟩ rfl ⟨rfl, by decide⟩ c_placeOf2 ?_
      rintro _ _ _ _ ⟨rfl, rfl, rfl, rfl⟩
      refine V_istore (ls' := [(8, .int (pen (zpl other))), (7, .int (pen (zpl code))), (0, .ref 2), (1, .int j), (2, .int k), (3, .int code), (4, .int other), (5, .int last), (6, .int w)]) dX11_by_19 (by decide) rfl ?_
      refine V_aload_n dX11_by_21 rfl ?_
      refine V_iload_n dX11_by_22 rfl ?_
      refine V_callV (As := [.int j]) (st := []) (a := 2) dX11_by_23 kX11_canPlayBy lX11_205 (by decide) rfl rfl (Nat.le_of_ble_eq_true rfl) ⟨Nat.le_of_ble_eq_true rfl, Nat.le_of_ble_eq_true rfl⟩ ⟨Nat.le_of_ble_eq_true rfl, Nat.le_of_ble_eq_true rfl⟩ rfl ⟨rfl, by decide⟩ (q_y (q_canPlayBy hC) hj) ?_
      rintro _ _ _ _ ⟨rfl, rfl, rfl, rfl⟩
      refine V_if_eq (tgt := 58) dX11_by_26 rfl (fun h => absurd h (by decide)) (fun _ => ?_)
      refine V_aload_n dX11_by_29 rfl ?_
      refine V_iload_n dX11_by_30 rfl ?_
      refine V_callV (As := [.int k]) (st := []) (a := 2) dX11_by_31 kX11_canPlayBy lX11_205 (by decide) rfl rfl (Nat.le_of_ble_eq_true rfl) ⟨Nat.le_of_ble_eq_true rfl, Nat.le_of_ble_eq_true rfl⟩ ⟨Nat.le_of_ble_eq_true rfl, Nat.le_of_ble_eq_true rfl⟩ rfl ⟨rfl, by decide⟩ (q_n (q_canPlayBy hC) hk) ?_
      rintro _ _ _ _ ⟨rfl, rfl, rfl, rfl⟩
      refine V_if_eq (tgt := 58) dX11_by_34 rfl (fun _ => ?_) (fun h => absurd h (by decide))
      refine V_ldc2 dX11_by_58 qX11_177 ?_
      exact V_lret ⟨rfl, dX11_by_61⟩ ⟨Nat.le_of_ble_eq_true rfl, Nat.le_of_ble_eq_true rfl⟩ ⟨rfl, congrArg (fun z => some (Value.long z)) (if_neg (fun h => hk h.2)).symm, hE, Fr2_r⟩
  · skip
    refine V_aload_n dX11_by_0 rfl ?_
    refine V_getR (b := 10) dX11_by_1 fX11_41 ⟨Nat.le_of_ble_eq_true rfl, Nat.le_of_ble_eq_true rfl⟩ rfl rfl rfl ?_
    refine V_iload_n dX11_by_4 rfl ?_
    refine V_callV (As := [.int code]) (st := []) (a := 10) dX11_by_5 kX2_placeOf lX11_146 (by decide) rfl rfl (Nat.le_of_ble_eq_true rfl) ⟨Nat.le_of_ble_eq_true rfl, Nat.le_of_ble_eq_true rfl⟩ ⟨Nat.le_of_ble_eq_true rfl, Nat.le_of_ble_eq_true rfl⟩ rfl ⟨rfl, by decide⟩ c_placeOf2 ?_
    rintro _ _ _ _ ⟨rfl, rfl, rfl, rfl⟩
    refine V_istore (ls' := [(7, .int (pen (zpl code))), (0, .ref 2), (1, .int j), (2, .int k), (3, .int code), (4, .int other), (5, .int last), (6, .int w)]) dX11_by_8 (by decide) rfl ?_
    refine V_aload_n dX11_by_10 rfl ?_
    refine V_getR (b := 10) dX11_by_11 fX11_41 ⟨Nat.le_of_ble_eq_true rfl, Nat.le_of_ble_eq_true rfl⟩ rfl rfl rfl ?_
    refine V_iload dX11_by_14 rfl ?_
    refine V_callV (As := [.int other]) (st := []) (a := 10) dX11_by_16 kX2_placeOf lX11_146 (by decide) rfl rfl (Nat.le_of_ble_eq_true rfl) ⟨Nat.le_of_ble_eq_true rfl, Nat.le_of_ble_eq_true rfl⟩ ⟨Nat.le_of_ble_eq_true rfl, Nat.le_of_ble_eq_true rfl⟩ rfl ⟨rfl, by decide⟩ c_placeOf2 ?_
    rintro _ _ _ _ ⟨rfl, rfl, rfl, rfl⟩
    refine V_istore (ls' := [(8, .int (pen (zpl other))), (7, .int (pen (zpl code))), (0, .ref 2), (1, .int j), (2, .int k), (3, .int code), (4, .int other), (5, .int last), (6, .int w)]) dX11_by_19 (by decide) rfl ?_
    refine V_aload_n dX11_by_21 rfl ?_
    refine V_iload_n dX11_by_22 rfl ?_
    refine V_callV (As := [.int j]) (st := []) (a := 2) dX11_by_23 kX11_canPlayBy lX11_205 (by decide) rfl rfl (Nat.le_of_ble_eq_true rfl) ⟨Nat.le_of_ble_eq_true rfl, Nat.le_of_ble_eq_true rfl⟩ ⟨Nat.le_of_ble_eq_true rfl, Nat.le_of_ble_eq_true rfl⟩ rfl ⟨rfl, by decide⟩ (q_n (q_canPlayBy hC) hj) ?_
    rintro _ _ _ _ ⟨rfl, rfl, rfl, rfl⟩
    refine V_if_eq (tgt := 58) dX11_by_26 rfl (fun _ => ?_) (fun h => absurd h (by decide))
    refine V_ldc2 dX11_by_58 qX11_177 ?_
    exact V_lret ⟨rfl, dX11_by_61⟩ ⟨Nat.le_of_ble_eq_true rfl, Nat.le_of_ble_eq_true rfl⟩ ⟨rfl, congrArg (fun z => some (Value.long z)) (if_neg (fun h => hj h.1)).symm, hE, Fr2_r⟩

