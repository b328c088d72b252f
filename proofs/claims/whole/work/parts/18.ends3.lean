/-! THE CLASS: what a throw's parts are, what is told -/
def sCh (Lf : Nat → (Nat → Int32) → Int32) (far p q last part : Nat) : Nat := pTen (tA Lf far p q last) (tB Lf far p q last) (tC_ Lf far p q last) (tH Lf far p q last) (tK Lf far p q last) part
/-- all but the ends' own scratch is as it was -/
def offT (I I' : zI) : Prop := ∀ a, a ≠ 27 → a ≠ 28 → a ≠ 29 → a ≠ 30 → I' a = I a
theorem offT_r {I : zI} : offT I I := fun _ _ _ _ _ => rfl
theorem offT_t {A B C : zI} (h : offT A B) (h2 : offT B C) : offT A C := fun a h3 h4 h5 h6 => (h2 a h3 h4 h5 h6).trans (h a h3 h4 h5 h6)
theorem tabX_o {I I' : zI} (h : tabX I) (e : offT I I') : tabX I' := tabX_c h ⟨e 11 (by decide) (by decide) (by decide) (by decide), e 12 (by decide) (by decide) (by decide) (by decide), e 13 (by decide) (by decide) (by decide) (by decide), e 14 (by decide) (by decide) (by decide) (by decide), e 15 (by decide) (by decide) (by decide) (by decide)⟩
/-- the world of the ends: tables, the law, the rules, how far, what is kept of states -/
def endI (I : zI) (Lf : Nat → (Nat → Int32) → Int32) (Rl : Nat → Nat → (Nat → Int32) → Int32) (far : Nat) (bt : Nat → Nat → Nat → Nat) : Prop := tabX I ∧ progI I 16 Lf ∧ (∀ k, k < 4 → progI I (19 + 2 * k) (Rl k)) ∧ I 9 4 = nI far ∧ tenOK I Lf far bt
theorem endI_o {I I' : zI} {Lf : Nat → (Nat → Int32) → Int32} {Rl : Nat → Nat → (Nat → Int32) → Int32} {far : Nat} {bt : Nat → Nat → Nat → Nat} (h : endI I Lf Rl far bt) (e : offT I I') (hn : tenOK I' Lf far bt) : endI I' Lf Rl far bt := by
  obtain ⟨h1, h2, h3, h4, h5⟩ := h
  refine ⟨tabX_o h1 e, progI_c h2 (e 16 (by decide) (by decide) (by decide) (by decide)) (e 17 (by decide) (by decide) (by decide) (by decide)), fun k hk => progI_c (h3 k hk) (e _ ?_ ?_ ?_ ?_) (e _ ?_ ?_ ?_ ?_), by rw [e 9 (by decide) (by decide) (by decide) (by decide)]; exact h4, hn⟩ <;> omega
set_option maxRecDepth 100000 in
set_option maxHeartbeats 4000000 in
theorem c_hundredths {G : zG} {I : zI} {J : zJ} {Lf : Nat → (Nat → Int32) → Int32} {Rl : Nat → Nat → (Nat → Int32) → Int32} {far : Nat} {bt : Nat → Nat → Nat → Nat} (hE : endI I Lf Rl far bt) {p q last : Nat} (hs : sOk p q last) {part : Nat} (hpa : part ≤ 6) : zK G mX3_hundredths 4 [.ref 9, .int (nI p), .int (nI q), .int (nI last), .int (nI part)] zsh I J (zP (fun r I' J' => r = some (.int (nI (sCh Lf far p q last part))) ∧ offT I I' ∧ tenOK I' Lf far bt ∧ tenLe I I' Lf far ∧ tenKn I I' ∧ J = J')) := by
  refine zK_of kX3_hundredths.2.2.2.2.1 (Nat.le_of_ble_eq_true rfl) ?_
  show V G mX3_hundredths 4 _ 0 [(0, .ref 9), (1, .int (nI p)), (2, .int (nI q)), (3, .int (nI last)), (4, .int (nI part))] [] (0, 0) zsh I J
  obtain ⟨hT, hL, hR, hf, hN⟩ := id hE
  obtain ⟨hp, hq, hl, h35⟩ := id hs
  have hsp := sSpot_lt hp hq hl h35
  have hsw := sWho_le1 hp hq h35 (last := last)
  have b1 : tA Lf far p q last ≤ 10 := bnd_le
  have b2 : tB Lf far p q last ≤ 10 - tA Lf far p q last := bnd_le
  have b3 : tC_ Lf far p q last ≤ 10 - tA Lf far p q last - tB Lf far p q last := bnd_le
  have b4 : tH Lf far p q last ≤ 10 := bnd_le
  have b5 : tK Lf far p q last ≤ 10 := bnd_le
  refine V_aload_n dX3_hundredths_0 rfl ?_
  refine V_iload_n dX3_hundredths_1 rfl ?_
  refine V_iload_n dX3_hundredths_2 rfl ?_
  refine V_iload_n dX3_hundredths_3 rfl ?_
  refine V_callV (As := [.int (nI p), .int (nI q), .int (nI last)]) (st := []) (a := 9) dX3_hundredths_4 kX3_tenthsAt lX3_123 (by decide) rfl rfl (Nat.le_of_ble_eq_true rfl) ⟨Nat.le_of_ble_eq_true rfl, Nat.le_of_ble_eq_true rfl⟩ ⟨Nat.le_of_ble_eq_true rfl, Nat.le_of_ble_eq_true rfl⟩ rfl ⟨rfl, by decide⟩ (c_tenthsAt hT hL hf hN hs) ?_
  rintro r sh' I' J' ⟨rfl, ⟨z, hz2, hzb, rfl, hzc⟩, hof, hN2, hle, hkn, rfl⟩
  refine V_iload dX3_hundredths_7 rfl ?_
  refine V_callS (As := [.int (nI (tEnc Lf far p q last z)), .int (nI part)]) (st := []) dX3_hundredths_9 kX3_partOfTenths lX3_126 (by decide) rfl rfl (Nat.le_of_ble_eq_true rfl) ⟨Nat.le_of_ble_eq_true rfl, Nat.le_of_ble_eq_true rfl⟩ (c_partOfTenths (a := tA Lf far p q last) (b := tB Lf far p q last) (c := tC_ Lf far p q last) (h := tH Lf far p q last) (k := tK Lf far p q last) (z := z) b1 b2 b3 b4 b5 hz2 (by omega)) ?_
  rintro _ _ _ _ ⟨rfl, rfl, rfl, rfl⟩
  refine V_eqI (y := nI (sCh Lf far p q last part)) rfl ?_
  exact V_iret ⟨Or.inl rfl, dX3_hundredths_12⟩ ⟨Nat.le_of_ble_eq_true rfl, Nat.le_of_ble_eq_true rfl⟩ ⟨rfl, rfl, hof, hN2, hle, hkn, rfl⟩

theorem t_best {Lf : Nat → (Nat → Int32) → Int32} {far p q last z : Nat} (hz : z ≤ 2) : nI (tEnc Lf far p q last z) >>> (nI 21 &&& 31) = nI z := by
  rw [pk_shrN (Nat.lt_trans (tEnc_lt hz) (by decide)) _ 21 (by decide)]
  congr 1
  have h1 : tcd (tA Lf far p q last) (tB Lf far p q last) (tC_ Lf far p q last) (tH Lf far p q last) (tK Lf far p q last) < 1048576 := by
    unfold tcd
    have h1 : tA Lf far p q last ≤ 10 := bnd_le
    have h2 : tB Lf far p q last ≤ 10 - tA Lf far p q last := bnd_le
    have h3 : tC_ Lf far p q last ≤ 10 - tA Lf far p q last - tB Lf far p q last := bnd_le
    have h4 : tH Lf far p q last ≤ 10 := bnd_le
    have h5 : tK Lf far p q last ≤ 10 := bnd_le
    omega
  unfold tEnc
  generalize tcd _ _ _ _ _ = t at h1
  omega
set_option maxRecDepth 100000 in
set_option maxHeartbeats 4000000 in
theorem c_bestThrowAtK {G : zG} {I : zI} {J : zJ} {p q last : Nat} (hs : sOk p q last) {Lf : Nat → (Nat → Int32) → Int32} {far z : Nat} (hz2 : z ≤ 2) (hz : I 30 (sSpot p q last) = nI (tEnc Lf far p q last z)) : zK G mX3_bestThrowAt 1 [.ref 9, .int (nI (sSpot p q last))] zsh I J (zA0 (.int (nI z)) I J) := by
  refine zK_of kX3_bestThrowAt.2.2.2.2.1 (Nat.le_of_ble_eq_true rfl) ?_
  show V G mX3_bestThrowAt 1 _ 0 [(0, .ref 9), (1, .int (nI (sSpot p q last)))] [] (0, 0) zsh I J
  obtain ⟨hp, hq, hl, h35⟩ := id hs
  have hsp := sSpot_lt hp hq hl h35
  refine V_aload_n dX3_bestThrowAt_0 rfl ?_
  refine V_getR (b := 30) dX3_bestThrowAt_1 fX3_40 ⟨Nat.le_of_ble_eq_true rfl, Nat.le_of_ble_eq_true rfl⟩ rfl rfl rfl ?_
  refine V_iload_n dX3_bestThrowAt_4 rfl ?_
  refine V_callS (As := [.ref 30, .int (nI (sSpot p q last))]) (st := []) dX3_bestThrowAt_5 kX11_at lX3_134 (by decide) rfl rfl (Nat.le_of_ble_eq_true rfl) ⟨Nat.le_of_ble_eq_true rfl, Nat.le_of_ble_eq_true rfl⟩ (c_at (a := 30) (n := 3822) ⟨Nat.le_of_ble_eq_true rfl, Nat.le_of_ble_eq_true rfl⟩ rfl (by decide) (by omega)) ?_
  rintro _ _ _ _ ⟨rfl, rfl, rfl, rfl⟩
  refine V_eqI (y := nI (tEnc Lf far p q last z)) hz ?_
  refine V_bipush (v := nI 21) dX3_bestThrowAt_8 rfl ?_
  refine V_ishr dX3_bestThrowAt_10 (V_eqI (y := nI z) (t_best hz2) ?_)
  exact V_iret ⟨Or.inl rfl, dX3_bestThrowAt_11⟩ ⟨Nat.le_of_ble_eq_true rfl, Nat.le_of_ble_eq_true rfl⟩ ⟨rfl, rfl, rfl, rfl⟩

set_option maxRecDepth 100000 in
set_option maxHeartbeats 4000000 in
theorem c_bestThrowAt0 {G : zG} {I : zI} {J : zJ} {p q last : Nat} (hs : sOk p q last) (hz : I 30 (sSpot p q last) = 0) : zK G mX3_bestThrowAt 1 [.ref 9, .int (nI (sSpot p q last))] zsh I J (zA0 (.int (nI 0)) I J) := by
  refine zK_of kX3_bestThrowAt.2.2.2.2.1 (Nat.le_of_ble_eq_true rfl) ?_
  show V G mX3_bestThrowAt 1 _ 0 [(0, .ref 9), (1, .int (nI (sSpot p q last)))] [] (0, 0) zsh I J
  obtain ⟨hp, hq, hl, h35⟩ := id hs
  have hsp := sSpot_lt hp hq hl h35
  refine V_aload_n dX3_bestThrowAt_0 rfl ?_
  refine V_getR (b := 30) dX3_bestThrowAt_1 fX3_40 ⟨Nat.le_of_ble_eq_true rfl, Nat.le_of_ble_eq_true rfl⟩ rfl rfl rfl ?_
  refine V_iload_n dX3_bestThrowAt_4 rfl ?_
  refine V_callS (As := [.ref 30, .int (nI (sSpot p q last))]) (st := []) dX3_bestThrowAt_5 kX11_at lX3_134 (by decide) rfl rfl (Nat.le_of_ble_eq_true rfl) ⟨Nat.le_of_ble_eq_true rfl, Nat.le_of_ble_eq_true rfl⟩ (c_at (a := 30) (n := 3822) ⟨Nat.le_of_ble_eq_true rfl, Nat.le_of_ble_eq_true rfl⟩ rfl (by decide) (by omega)) ?_
  rintro _ _ _ _ ⟨rfl, rfl, rfl, rfl⟩
  refine V_eqI (y := 0) hz ?_
  refine V_bipush (v := nI 21) dX3_bestThrowAt_8 rfl ?_
  refine V_ishr dX3_bestThrowAt_10 (V_eqI (y := nI 0) (rfl) ?_)
  exact V_iret ⟨Or.inl rfl, dX3_bestThrowAt_11⟩ ⟨Nat.le_of_ble_eq_true rfl, Nat.le_of_ble_eq_true rfl⟩ ⟨rfl, rfl, rfl, rfl⟩

/-- what a count is worth by an aim -/
def sWoc (kd one cnt : Int32) : Int64 := if kd = 1 then cnt.toInt64 else if (if kd = 2 then one ≤ cnt else cnt = one) then 1 else 0
set_option maxRecDepth 100000 in
set_option maxHeartbeats 4000000 in
theorem c_worthOfCount {G : zG} {I : zI} {J : zJ} {kd one cnt : Int32} (h6 : I 9 6 = kd) (h7 : I 9 7 = one) : zK G mX3_worthOfCount 0 [.ref 9, .int cnt] zsh I J (zA0 (.long (sWoc kd one cnt)) I J) := by
  refine zK_of kX3_worthOfCount.2.2.2.2.1 (Nat.le_of_ble_eq_true rfl) ?_
  show V G mX3_worthOfCount 0 _ 0 [(0, .ref 9), (1, .int cnt)] [] (0, 0) zsh I J
  refine V_aload_n dX3_worthOfCount_0 rfl ?_
  refine V_getI dX3_worthOfCount_1 fX3_44 ⟨Nat.le_of_ble_eq_true rfl, Nat.le_of_ble_eq_true rfl⟩ rfl rfl ?_
  refine V_eqI (y := kd) h6 ?_
  refine V_iconst (v := nI 1) dX3_worthOfCount_4 rfl ?_
  refine V_icmp_ne (tgt := 11) dX3_worthOfCount_5 rfl (fun h5 => ?_) (fun h5 => ?_)
  · skip
    refine V_aload_n dX3_worthOfCount_11 rfl ?_
    refine V_getI dX3_worthOfCount_12 fX3_44 ⟨Nat.le_of_ble_eq_true rfl, Nat.le_of_ble_eq_true rfl⟩ rfl rfl ?_
    refine V_eqI (y := kd) h6 ?_
    refine V_iconst (v := nI 2) dX3_worthOfCount_15 rfl ?_
    refine V_icmp_ne (tgt := 30) dX3_worthOfCount_16 rfl (fun h16 => ?_) (fun h16 => ?_)
    · skip
      refine V_iload_n dX3_worthOfCount_30 rfl ?_
      refine V_aload_n dX3_worthOfCount_31 rfl ?_
      refine V_getI dX3_worthOfCount_32 fX3_78 ⟨Nat.le_of_ble_eq_true rfl, Nat.le_of_ble_eq_true rfl⟩ rfl rfl ?_
      refine V_eqI (y := one) h7 ?_
      refine V_icmp_ne (tgt := 42) dX3_worthOfCount_35 rfl (fun h35 => ?_) (fun h35 => ?_)
      · skip
        refine V_lconst (v := 0) dX3_worthOfCount_42 rfl ?_
        exact V_lret ⟨rfl, dX3_worthOfCount_43⟩ ⟨Nat.le_of_ble_eq_true rfl, Nat.le_of_ble_eq_true rfl⟩ ⟨rfl, congrArg (fun z => some (Value.long z)) (by simp_all [sWoc, nI_one, show nI 2 = 2 from rfl]), rfl, rfl⟩
      · skip
        refine V_lconst (v := 1) dX3_worthOfCount_38 rfl ?_
        refine V_goto (tgt := 43) dX3_worthOfCount_39 rfl ?_
        exact V_lret ⟨rfl, dX3_worthOfCount_43⟩ ⟨Nat.le_of_ble_eq_true rfl, Nat.le_of_ble_eq_true rfl⟩ ⟨rfl, congrArg (fun z => some (Value.long z)) (by simp_all [sWoc, nI_one, show nI 2 = 2 from rfl]), rfl, rfl⟩
    · skip
      refine V_iload_n dX3_worthOfCount_19 rfl ?_
      refine V_aload_n dX3_worthOfCount_20 rfl ?_
      refine V_getI dX3_worthOfCount_21 fX3_78 ⟨Nat.le_of_ble_eq_true rfl, Nat.le_of_ble_eq_true rfl⟩ rfl rfl ?_
      refine V_eqI (y := one) h7 ?_
      refine V_icmp_lt (tgt := 42) dX3_worthOfCount_24 rfl (fun h24 => ?_) (fun h24 => ?_)
      · skip
        refine V_lconst (v := 0) dX3_worthOfCount_42 rfl ?_
        exact V_lret ⟨rfl, dX3_worthOfCount_43⟩ ⟨Nat.le_of_ble_eq_true rfl, Nat.le_of_ble_eq_true rfl⟩ ⟨rfl, congrArg (fun z => some (Value.long z)) (by simp_all [sWoc, nI_one, show nI 2 = 2 from rfl]), rfl, rfl⟩
      · skip
        refine V_goto (tgt := 38) dX3_worthOfCount_27 rfl ?_
        refine V_lconst (v := 1) dX3_worthOfCount_38 rfl ?_
        refine V_goto (tgt := 43) dX3_worthOfCount_39 rfl ?_
        exact V_lret ⟨rfl, dX3_worthOfCount_43⟩ ⟨Nat.le_of_ble_eq_true rfl, Nat.le_of_ble_eq_true rfl⟩ ⟨rfl, congrArg (fun z => some (Value.long z)) (by simp_all [sWoc, nI_one, show nI 2 = 2 from rfl]), rfl, rfl⟩
  · skip
    refine V_iload_n dX3_worthOfCount_8 rfl ?_
    refine V_i2l dX3_worthOfCount_9 ?_
    exact V_lret ⟨rfl, dX3_worthOfCount_10⟩ ⟨Nat.le_of_ble_eq_true rfl, Nat.le_of_ble_eq_true rfl⟩ ⟨rfl, congrArg (fun z => some (Value.long z)) (by simp_all [sWoc, nI_one, show nI 2 = 2 from rfl]), rfl, rfl⟩

/-- the throw about which there is no choice; 0: there is one -/
def sTold (kd one two : Int32) (Rl : Nat → Nat → (Nat → Int32) → Int32) (bt : Nat → Nat → Nat → Nat) (far p q last : Nat) : Nat :=
  if sCan p q (sWho p q last) = false then 1 else if kd = 3 then bt p q last else
  if kd = 1 ∧ ¬ (if sWho p q last = 0 then one else two) < 0 ∧ (if sWho p q last = 0 then one else two) < 4 then (if Rl (if sWho p q last = 0 then one else two).toNatClampNeg 114 (fcS p q last far) = 2 then 2 else 1) else 0
theorem tenOK_c {I I' : zI} {Lf : Nat → (Nat → Int32) → Int32} {far : Nat} {bt : Nat → Nat → Nat → Nat} (h : tenOK I Lf far bt) (e : ∀ j, I' 30 j = I 30 j) : tenOK I' Lf far bt := fun p q l hs => by rw [e]; exact h p q l hs
theorem tenLe_c {I I' : zI} {Lf : Nat → (Nat → Int32) → Int32} {far : Nat} (e : ∀ j, I' 30 j = I 30 j) : tenLe I I' Lf far := fun p q l z _ _ _ => by rw [e]
set_option maxRecDepth 100000 in
set_option maxHeartbeats 4000000 in
theorem c_throwTold {G : zG} {I : zI} {J : zJ} {Lf : Nat → (Nat → Int32) → Int32} {Rl : Nat → Nat → (Nat → Int32) → Int32} {far : Nat} {bt : Nat → Nat → Nat → Nat} (hE : endI I Lf Rl far bt) {p q last : Nat} (hs : sOk p q last) {kd one two : Int32} (h6 : I 9 6 = kd) (h7 : I 9 7 = one) (h8 : I 9 8 = two) (hbt : kd = 3 → bt p q last ≤ 2 ∧ I 30 (sSpot p q last) = nI (tEnc Lf far p q last (bt p q last))) : zK G mX3_throwTold 3 [.ref 9, .int (nI p), .int (nI q), .int (nI last), .int (nI (sWho p q last))] zsh I J (zP (fun r I' J' => r = some (.int (nI (sTold kd one two Rl bt far p q last))) ∧ offT I I' ∧ tenOK I' Lf far bt ∧ tenLe I I' Lf far ∧ tenKn I I' ∧ J = J')) := by
  refine zK_of kX3_throwTold.2.2.2.2.1 (Nat.le_of_ble_eq_true rfl) ?_
  show V G mX3_throwTold 3 _ 0 [(0, .ref 9), (1, .int (nI p)), (2, .int (nI q)), (3, .int (nI last)), (4, .int (nI (sWho p q last)))] [] (0, 0) zsh I J
  obtain ⟨hT, hL, hR, hf, hN⟩ := id hE
  obtain ⟨hp, hq, hl, h35⟩ := id hs
  have hsp := sSpot_lt hp hq hl h35
  have hsw := sWho_le1 hp hq h35 (last := last)
  cases hcan : sCan p q (sWho p q last) with
  | false =>
    refine V_aload_n dX3_throwTold_0 rfl ?_
    refine V_getR (b := 10) dX3_throwTold_1 fX3_14 ⟨Nat.le_of_ble_eq_true rfl, Nat.le_of_ble_eq_true rfl⟩ rfl rfl rfl ?_
    refine V_iload_n dX3_throwTold_4 rfl ?_
    refine V_iload_n dX3_throwTold_5 rfl ?_
    refine V_iload dX3_throwTold_6 rfl ?_
    refine V_callV (As := [.int (nI p), .int (nI q), .int (nI (sWho p q last))]) (st := []) (a := 10) dX3_throwTold_8 kX2_canShoot lX3_151 (by decide) rfl rfl (Nat.le_of_ble_eq_true rfl) ⟨Nat.le_of_ble_eq_true rfl, Nat.le_of_ble_eq_true rfl⟩ ⟨Nat.le_of_ble_eq_true rfl, Nat.le_of_ble_eq_true rfl⟩ rfl ⟨rfl, by decide⟩ (c_canShoot hT hp hq (by omega)) ?_
    rintro _ _ _ _ ⟨rfl, rfl, rfl, rfl⟩
    refine V_eqI (y := nI 0) (congrArg nI (if_neg (by rw [hcan]; decide))) ?_
    refine V_if_ne (tgt := 16) dX3_throwTold_11 rfl (fun h => absurd h (by decide)) (fun _ => ?_)
    refine V_iconst (v := nI 1) dX3_throwTold_14 rfl ?_
    exact V_iret ⟨Or.inl rfl, dX3_throwTold_15⟩ ⟨Nat.le_of_ble_eq_true rfl, Nat.le_of_ble_eq_true rfl⟩ ⟨rfl, by rw [show sTold kd one two Rl bt far p q last = 1 from by unfold sTold; exact if_pos hcan], fun _ _ _ _ _ => rfl, hN, tenLe_r, tenKn_r, rfl⟩
  | true =>
    by_cases h3 : kd = 3
    · skip
      refine V_aload_n dX3_throwTold_0 rfl ?_
      refine V_getR (b := 10) dX3_throwTold_1 fX3_14 ⟨Nat.le_of_ble_eq_true rfl, Nat.le_of_ble_eq_true rfl⟩ rfl rfl rfl ?_
      refine V_iload_n dX3_throwTold_4 rfl ?_
      refine V_iload_n dX3_throwTold_5 rfl ?_
      refine V_iload dX3_throwTold_6 rfl ?_
      refine V_callV (As := [.int (nI p), .int (nI q), .int (nI (sWho p q last))]) (st := []) (a := 10) dX3_throwTold_8 kX2_canShoot lX3_151 (by decide) rfl rfl (Nat.le_of_ble_eq_true rfl) ⟨Nat.le_of_ble_eq_true rfl, Nat.le_of_ble_eq_true rfl⟩ ⟨Nat.le_of_ble_eq_true rfl, Nat.le_of_ble_eq_true rfl⟩ rfl ⟨rfl, by decide⟩ (c_canShoot hT hp hq (by omega)) ?_
      rintro _ _ _ _ ⟨rfl, rfl, rfl, rfl⟩
      refine V_eqI (y := nI 1) (congrArg nI (if_pos hcan)) ?_
      refine V_if_ne (tgt := 16) dX3_throwTold_11 rfl (fun _ => ?_) (fun h => absurd h (by decide))
      refine V_aload_n dX3_throwTold_16 rfl ?_
      refine V_getI dX3_throwTold_17 fX3_44 ⟨Nat.le_of_ble_eq_true rfl, Nat.le_of_ble_eq_true rfl⟩ rfl rfl ?_
      refine V_eqI (y := kd) h6 ?_
      refine V_iconst (v := nI 3) dX3_throwTold_20 rfl ?_
      refine V_icmp_ne (tgt := 35) dX3_throwTold_21 rfl (fun h => absurd h3 h) (fun _ => ?_)
      refine V_aload_n dX3_throwTold_24 rfl ?_
      refine V_iload_n dX3_throwTold_25 rfl ?_
      refine V_iload_n dX3_throwTold_26 rfl ?_
      refine V_iload_n dX3_throwTold_27 rfl ?_
      refine V_callS (As := [.int (nI p), .int (nI q), .int (nI last)]) (st := [.ref 9]) dX3_throwTold_28 kX3_spotOf lX3_95 (by decide) rfl rfl (Nat.le_of_ble_eq_true rfl) ⟨Nat.le_of_ble_eq_true rfl, Nat.le_of_ble_eq_true rfl⟩ (c_spotOf (by omega) (by omega) (by omega) (by omega)) ?_
      rintro _ _ _ _ ⟨rfl, rfl, rfl, rfl⟩
      refine V_callV (As := [.int (nI (sSpot p q last))]) (st := []) (a := 9) dX3_throwTold_31 kX3_bestThrowAt lX3_98 (by decide) rfl rfl (Nat.le_of_ble_eq_true rfl) ⟨Nat.le_of_ble_eq_true rfl, Nat.le_of_ble_eq_true rfl⟩ ⟨Nat.le_of_ble_eq_true rfl, Nat.le_of_ble_eq_true rfl⟩ rfl ⟨rfl, by decide⟩ (c_bestThrowAtK hs (hbt h3).1 (hbt h3).2) ?_
      rintro _ _ _ _ ⟨rfl, rfl, rfl, rfl⟩
      exact V_iret ⟨Or.inl rfl, dX3_throwTold_34⟩ ⟨Nat.le_of_ble_eq_true rfl, Nat.le_of_ble_eq_true rfl⟩ ⟨rfl, by rw [show sTold kd one two Rl bt far p q last = bt p q last from by unfold sTold; rw [if_neg (by rw [hcan]; decide), if_pos h3]], fun _ _ _ _ _ => rfl, hN, tenLe_r, tenKn_r, rfl⟩
    · skip
      by_cases h1 : kd = 1 ∧ ¬ (if sWho p q last = 0 then one else two) < 0 ∧ (if sWho p q last = 0 then one else two) < 4
      · skip
        refine V_aload_n dX3_throwTold_0 rfl ?_
        refine V_getR (b := 10) dX3_throwTold_1 fX3_14 ⟨Nat.le_of_ble_eq_true rfl, Nat.le_of_ble_eq_true rfl⟩ rfl rfl rfl ?_
        refine V_iload_n dX3_throwTold_4 rfl ?_
        refine V_iload_n dX3_throwTold_5 rfl ?_
        refine V_iload dX3_throwTold_6 rfl ?_
        refine V_callV (As := [.int (nI p), .int (nI q), .int (nI (sWho p q last))]) (st := []) (a := 10) dX3_throwTold_8 kX2_canShoot lX3_151 (by decide) rfl rfl (Nat.le_of_ble_eq_true rfl) ⟨Nat.le_of_ble_eq_true rfl, Nat.le_of_ble_eq_true rfl⟩ ⟨Nat.le_of_ble_eq_true rfl, Nat.le_of_ble_eq_true rfl⟩ rfl ⟨rfl, by decide⟩ (c_canShoot hT hp hq (by omega)) ?_
        rintro _ _ _ _ ⟨rfl, rfl, rfl, rfl⟩
        refine V_eqI (y := nI 1) (congrArg nI (if_pos hcan)) ?_
        refine V_if_ne (tgt := 16) dX3_throwTold_11 rfl (fun _ => ?_) (fun h => absurd h (by decide))
        refine V_aload_n dX3_throwTold_16 rfl ?_
        refine V_getI dX3_throwTold_17 fX3_44 ⟨Nat.le_of_ble_eq_true rfl, Nat.le_of_ble_eq_true rfl⟩ rfl rfl ?_
        refine V_eqI (y := kd) h6 ?_
        refine V_iconst (v := nI 3) dX3_throwTold_20 rfl ?_
        refine V_icmp_ne (tgt := 35) dX3_throwTold_21 rfl (fun _ => ?_) (fun h => absurd h h3)
        refine V_iload dX3_throwTold_35 rfl ?_
        by_cases hsd : sWho p q last = 0
        · skip
          refine V_if_neN (tgt := 47) dX3_throwTold_37 rfl (by omega) (fun h => absurd hsd h) (fun _ => ?_)
          refine V_aload_n dX3_throwTold_40 rfl ?_
          refine V_getI dX3_throwTold_41 fX3_78 ⟨Nat.le_of_ble_eq_true rfl, Nat.le_of_ble_eq_true rfl⟩ rfl rfl ?_
          refine V_eqI (y := one) h7 ?_
          refine V_goto (tgt := 51) dX3_throwTold_44 rfl ?_
          refine V_istore (ls' := [(5, .int one), (0, .ref 9), (1, .int (nI p)), (2, .int (nI q)), (3, .int (nI last)), (4, .int (nI (sWho p q last)))]) dX3_throwTold_51 (by decide) rfl ?_
          have hk0 : ¬ one < 0 := by have := h1.2.1; rw [if_pos hsd] at this; exact this
          have hk1 : one < nI 4 := by have := h1.2.2; rw [if_pos hsd] at this; exact this
          obtain ⟨k9, hk4, hk9⟩ : ∃ k, k < 4 ∧ one = nI k := (pk_ix one (n := 4) (by decide)).elim (fun h => absurd h hk0) (fun h => h.elim (fun h => absurd hk1 (Int32.not_lt.mpr h)) (fun h => h))
          have hval : sTold kd one two Rl bt far p q last = if Rl k9 114 (fcS p q last far) = 2 then 2 else 1 := by unfold sTold; rw [if_neg (by rw [hcan]; decide), if_neg h3, if_pos h1, if_pos hsd, hk9, nI_clamp (by omega)]
          obtain ⟨_, _, _, _, _, _, _, _, _, hLr⟩ := id (hR k9 hk4)
          refine V_aload_n dX3_throwTold_53 rfl ?_
          refine V_getI dX3_throwTold_54 fX3_44 ⟨Nat.le_of_ble_eq_true rfl, Nat.le_of_ble_eq_true rfl⟩ rfl rfl ?_
          refine V_eqI (y := kd) h6 ?_
          refine V_iconst (v := nI 1) dX3_throwTold_57 rfl ?_
          refine V_icmp_ne (tgt := 76) dX3_throwTold_58 rfl (fun h => absurd h1.1 h) (fun _ => ?_)
          refine V_iload dX3_throwTold_61 rfl ?_
          refine V_if_lt (tgt := 76) dX3_throwTold_63 rfl (fun h => absurd h hk0) (fun _ => ?_)
          refine V_iload dX3_throwTold_66 rfl ?_
          refine V_aload_n dX3_throwTold_68 rfl ?_
          refine V_getR (b := 18) dX3_throwTold_69 fX3_25 ⟨Nat.le_of_ble_eq_true rfl, Nat.le_of_ble_eq_true rfl⟩ rfl rfl rfl ?_
          refine V_alen (v := nI 4) dX3_throwTold_72 ⟨Nat.le_of_ble_eq_true rfl, Nat.le_of_ble_eq_true rfl⟩ rfl (by decide) rfl ?_
          refine V_icmp_lt (tgt := 78) dX3_throwTold_73 rfl (fun _ => ?_) (fun h => absurd hk1 h)
          refine V_aload_n dX3_throwTold_78 rfl ?_
          refine V_iload_n dX3_throwTold_79 rfl ?_
          refine V_iload_n dX3_throwTold_80 rfl ?_
          refine V_iload_n dX3_throwTold_81 rfl ?_
          refine V_iload dX3_throwTold_82 rfl ?_
          refine V_callV (As := [.int (nI p), .int (nI q), .int (nI last), .int (nI (sWho p q last))]) (st := []) (a := 9) dX3_throwTold_84 kX3_tellLetters lX3_155 (by decide) rfl rfl (Nat.le_of_ble_eq_true rfl) ⟨Nat.le_of_ble_eq_true rfl, Nat.le_of_ble_eq_true rfl⟩ ⟨Nat.le_of_ble_eq_true rfl, Nat.le_of_ble_eq_true rfl⟩ rfl ⟨rfl, by decide⟩ (c_tellLetters hT hf hp hq hl (by omega)) ?_
          rintro r sh' I' J' ⟨rfl, rfl, hlt, rfl⟩
          have hofA : ∀ a, a ≠ 28 → I' a = I a := hlt.1
          have hlet : ∀ k, k < 9 → I' 28 k = fcS p q last far k := hlt.2
          refine V_aload_n dX3_throwTold_87 rfl ?_
          refine V_getR (b := 27) dX3_throwTold_88 fX3_32 ⟨Nat.le_of_ble_eq_true rfl, Nat.le_of_ble_eq_true rfl⟩ rfl rfl rfl ?_
          refine V_aload_n dX3_throwTold_91 rfl ?_
          refine V_getR (b := 18) dX3_throwTold_92 fX3_25 ⟨Nat.le_of_ble_eq_true rfl, Nat.le_of_ble_eq_true rfl⟩ rfl rfl rfl ?_
          refine V_iload dX3_throwTold_95 rfl ?_
          refine V_aald (b := (19 + 2 * k9)) dX3_throwTold_97 ⟨Nat.le_of_ble_eq_true rfl, Nat.le_of_ble_eq_true rfl⟩ rfl (by rw [hk9]; exact vp_in_nI hk4 (by decide)) (by rw [hk9, nI_clamp (by omega)]; rcases (show k9 = 0 ∨ k9 = 1 ∨ k9 = 2 ∨ k9 = 3 by omega) with h | h | h | h <;> subst h <;> rfl) ?_
          refine V_bipush (v := nI 114) dX3_throwTold_98 rfl ?_
          refine V_callV (As := [.ref (19 + 2 * k9), .int (nI 114)]) (st := []) (a := 27) dX3_throwTold_100 kX9_tell lX3_159 (by decide) rfl rfl (Nat.le_of_ble_eq_true rfl) ⟨Nat.le_of_ble_eq_true rfl, Nat.le_of_ble_eq_true rfl⟩ ⟨Nat.le_of_ble_eq_true rfl, Nat.le_of_ble_eq_true rfl⟩ rfl ⟨rfl, by decide⟩ (c_tellP (prog_r hk4) (progI_c (hR k9 hk4) (hofA _ (by omega)) (hofA _ (by omega))) (by decide)) ?_
          rintro r sh' I' J' ⟨rfl, rfl, hq9, rfl⟩
          rw [hLr _ _ _ hlet]
          refine V_iconst (v := nI 2) dX3_throwTold_103 rfl ?_
          refine V_icmp_ne (tgt := 111) dX3_throwTold_104 rfl (fun h104 => ?_) (fun h104 => ?_)
          · skip
            refine V_iconst (v := nI 1) dX3_throwTold_111 rfl ?_
            exact V_iret ⟨Or.inl rfl, dX3_throwTold_112⟩ ⟨Nat.le_of_ble_eq_true rfl, Nat.le_of_ble_eq_true rfl⟩ ⟨rfl, by rw [hval]; rw [if_neg (show ¬ Rl k9 114 (fcS p q last far) = 2 from h104)], fun a g1 g2 g3 g4 => (hq9 a g1 g3).trans (hofA a g2), tenOK_c hN (fun j => congrFun ((hq9 30 (by decide) (by decide)).trans (hofA 30 (by decide))) j), tenLe_c (fun j => congrFun ((hq9 30 (by decide) (by decide)).trans (hofA 30 (by decide))) j), tenKn_c (fun j => congrFun ((hq9 30 (by decide) (by decide)).trans (hofA 30 (by decide))) j), rfl⟩
          · skip
            refine V_iconst (v := nI 2) dX3_throwTold_107 rfl ?_
            refine V_goto (tgt := 112) dX3_throwTold_108 rfl ?_
            exact V_iret ⟨Or.inl rfl, dX3_throwTold_112⟩ ⟨Nat.le_of_ble_eq_true rfl, Nat.le_of_ble_eq_true rfl⟩ ⟨rfl, by rw [hval]; rw [if_pos (show Rl k9 114 (fcS p q last far) = 2 from h104)], fun a g1 g2 g3 g4 => (hq9 a g1 g3).trans (hofA a g2), tenOK_c hN (fun j => congrFun ((hq9 30 (by decide) (by decide)).trans (hofA 30 (by decide))) j), tenLe_c (fun j => congrFun ((hq9 30 (by decide) (by decide)).trans (hofA 30 (by decide))) j), tenKn_c (fun j => congrFun ((hq9 30 (by decide) (by decide)).trans (hofA 30 (by decide))) j), rfl⟩
        · skip
          refine V_if_neN (tgt := 47) dX3_throwTold_37 rfl (by omega) (fun _ => ?_) (fun h => absurd h hsd)
          refine V_aload_n dX3_throwTold_47 rfl ?_
          refine V_getI dX3_throwTold_48 fX3_81 ⟨Nat.le_of_ble_eq_true rfl, Nat.le_of_ble_eq_true rfl⟩ rfl rfl ?_
          refine V_eqI (y := two) h8 ?_
          refine V_istore (ls' := [(5, .int two), (0, .ref 9), (1, .int (nI p)), (2, .int (nI q)), (3, .int (nI last)), (4, .int (nI (sWho p q last)))]) dX3_throwTold_51 (by decide) rfl ?_
          have hk0 : ¬ two < 0 := by have := h1.2.1; rw [if_neg hsd] at this; exact this
          have hk1 : two < nI 4 := by have := h1.2.2; rw [if_neg hsd] at this; exact this
          obtain ⟨k9, hk4, hk9⟩ : ∃ k, k < 4 ∧ two = nI k := (pk_ix two (n := 4) (by decide)).elim (fun h => absurd h hk0) (fun h => h.elim (fun h => absurd hk1 (Int32.not_lt.mpr h)) (fun h => h))
          have hval : sTold kd one two Rl bt far p q last = if Rl k9 114 (fcS p q last far) = 2 then 2 else 1 := by unfold sTold; rw [if_neg (by rw [hcan]; decide), if_neg h3, if_pos h1, if_neg hsd, hk9, nI_clamp (by omega)]
          obtain ⟨_, _, _, _, _, _, _, _, _, hLr⟩ := id (hR k9 hk4)
          refine V_aload_n dX3_throwTold_53 rfl ?_
          refine V_getI dX3_throwTold_54 fX3_44 ⟨Nat.le_of_ble_eq_true rfl, Nat.le_of_ble_eq_true rfl⟩ rfl rfl ?_
          refine V_eqI (y := kd) h6 ?_
          refine V_iconst (v := nI 1) dX3_throwTold_57 rfl ?_
          refine V_icmp_ne (tgt := 76) dX3_throwTold_58 rfl (fun h => absurd h1.1 h) (fun _ => ?_)
          refine V_iload dX3_throwTold_61 rfl ?_
          refine V_if_lt (tgt := 76) dX3_throwTold_63 rfl (fun h => absurd h hk0) (fun _ => ?_)
          refine V_iload dX3_throwTold_66 rfl ?_
          refine V_aload_n dX3_throwTold_68 rfl ?_
          refine V_getR (b := 18) dX3_throwTold_69 fX3_25 ⟨Nat.le_of_ble_eq_true rfl, Nat.le_of_ble_eq_true rfl⟩ rfl rfl rfl ?_
          refine V_alen (v := nI 4) dX3_throwTold_72 ⟨Nat.le_of_ble_eq_true rfl, Nat.le_of_ble_eq_true rfl⟩ rfl (by decide) rfl ?_
          refine V_icmp_lt (tgt := 78) dX3_throwTold_73 rfl (fun _ => ?_) (fun h => absurd hk1 h)
          refine V_aload_n dX3_throwTold_78 rfl ?_
          refine V_iload_n dX3_throwTold_79 rfl ?_
          refine V_iload_n dX3_throwTold_80 rfl ?_
          refine V_iload_n dX3_throwTold_81 rfl ?_
          refine V_iload dX3_throwTold_82 rfl ?_
          refine V_callV (As := [.int (nI p), .int (nI q), .int (nI last), .int (nI (sWho p q last))]) (st := []) (a := 9) dX3_throwTold_84 kX3_tellLetters lX3_155 (by decide) rfl rfl (Nat.le_of_ble_eq_true rfl) ⟨Nat.le_of_ble_eq_true rfl, Nat.le_of_ble_eq_true rfl⟩ ⟨Nat.le_of_ble_eq_true rfl, Nat.le_of_ble_eq_true rfl⟩ rfl ⟨rfl, by decide⟩ (c_tellLetters hT hf hp hq hl (by omega)) ?_
          rintro r sh' I' J' ⟨rfl, rfl, hlt, rfl⟩
          have hofA : ∀ a, a ≠ 28 → I' a = I a := hlt.1
          have hlet : ∀ k, k < 9 → I' 28 k = fcS p q last far k := hlt.2
          refine V_aload_n dX3_throwTold_87 rfl ?_
          refine V_getR (b := 27) dX3_throwTold_88 fX3_32 ⟨Nat.le_of_ble_eq_true rfl, Nat.le_of_ble_eq_true rfl⟩ rfl rfl rfl ?_
          refine V_aload_n dX3_throwTold_91 rfl ?_
          refine V_getR (b := 18) dX3_throwTold_92 fX3_25 ⟨Nat.le_of_ble_eq_true rfl, Nat.le_of_ble_eq_true rfl⟩ rfl rfl rfl ?_
          refine V_iload dX3_throwTold_95 rfl ?_
          refine V_aald (b := (19 + 2 * k9)) dX3_throwTold_97 ⟨Nat.le_of_ble_eq_true rfl, Nat.le_of_ble_eq_true rfl⟩ rfl (by rw [hk9]; exact vp_in_nI hk4 (by decide)) (by rw [hk9, nI_clamp (by omega)]; rcases (show k9 = 0 ∨ k9 = 1 ∨ k9 = 2 ∨ k9 = 3 by omega) with h | h | h | h <;> subst h <;> rfl) ?_
          refine V_bipush (v := nI 114) dX3_throwTold_98 rfl ?_
          refine V_callV (As := [.ref (19 + 2 * k9), .int (nI 114)]) (st := []) (a := 27) dX3_throwTold_100 kX9_tell lX3_159 (by decide) rfl rfl (Nat.le_of_ble_eq_true rfl) ⟨Nat.le_of_ble_eq_true rfl, Nat.le_of_ble_eq_true rfl⟩ ⟨Nat.le_of_ble_eq_true rfl, Nat.le_of_ble_eq_true rfl⟩ rfl ⟨rfl, by decide⟩ (c_tellP (prog_r hk4) (progI_c (hR k9 hk4) (hofA _ (by omega)) (hofA _ (by omega))) (by decide)) ?_
          rintro r sh' I' J' ⟨rfl, rfl, hq9, rfl⟩
          rw [hLr _ _ _ hlet]
          refine V_iconst (v := nI 2) dX3_throwTold_103 rfl ?_
          refine V_icmp_ne (tgt := 111) dX3_throwTold_104 rfl (fun h104 => ?_) (fun h104 => ?_)
          · skip
            refine V_iconst (v := nI 1) dX3_throwTold_111 rfl ?_
            exact V_iret ⟨Or.inl rfl, dX3_throwTold_112⟩ ⟨Nat.le_of_ble_eq_true rfl, Nat.le_of_ble_eq_true rfl⟩ ⟨rfl, by rw [hval]; rw [if_neg (show ¬ Rl k9 114 (fcS p q last far) = 2 from h104)], fun a g1 g2 g3 g4 => (hq9 a g1 g3).trans (hofA a g2), tenOK_c hN (fun j => congrFun ((hq9 30 (by decide) (by decide)).trans (hofA 30 (by decide))) j), tenLe_c (fun j => congrFun ((hq9 30 (by decide) (by decide)).trans (hofA 30 (by decide))) j), tenKn_c (fun j => congrFun ((hq9 30 (by decide) (by decide)).trans (hofA 30 (by decide))) j), rfl⟩
          · skip
            refine V_iconst (v := nI 2) dX3_throwTold_107 rfl ?_
            refine V_goto (tgt := 112) dX3_throwTold_108 rfl ?_
            exact V_iret ⟨Or.inl rfl, dX3_throwTold_112⟩ ⟨Nat.le_of_ble_eq_true rfl, Nat.le_of_ble_eq_true rfl⟩ ⟨rfl, by rw [hval]; rw [if_pos (show Rl k9 114 (fcS p q last far) = 2 from h104)], fun a g1 g2 g3 g4 => (hq9 a g1 g3).trans (hofA a g2), tenOK_c hN (fun j => congrFun ((hq9 30 (by decide) (by decide)).trans (hofA 30 (by decide))) j), tenLe_c (fun j => congrFun ((hq9 30 (by decide) (by decide)).trans (hofA 30 (by decide))) j), tenKn_c (fun j => congrFun ((hq9 30 (by decide) (by decide)).trans (hofA 30 (by decide))) j), rfl⟩
      · skip
        refine V_aload_n dX3_throwTold_0 rfl ?_
        refine V_getR (b := 10) dX3_throwTold_1 fX3_14 ⟨Nat.le_of_ble_eq_true rfl, Nat.le_of_ble_eq_true rfl⟩ rfl rfl rfl ?_
        refine V_iload_n dX3_throwTold_4 rfl ?_
        refine V_iload_n dX3_throwTold_5 rfl ?_
        refine V_iload dX3_throwTold_6 rfl ?_
        refine V_callV (As := [.int (nI p), .int (nI q), .int (nI (sWho p q last))]) (st := []) (a := 10) dX3_throwTold_8 kX2_canShoot lX3_151 (by decide) rfl rfl (Nat.le_of_ble_eq_true rfl) ⟨Nat.le_of_ble_eq_true rfl, Nat.le_of_ble_eq_true rfl⟩ ⟨Nat.le_of_ble_eq_true rfl, Nat.le_of_ble_eq_true rfl⟩ rfl ⟨rfl, by decide⟩ (c_canShoot hT hp hq (by omega)) ?_
        rintro _ _ _ _ ⟨rfl, rfl, rfl, rfl⟩
        refine V_eqI (y := nI 1) (congrArg nI (if_pos hcan)) ?_
        refine V_if_ne (tgt := 16) dX3_throwTold_11 rfl (fun _ => ?_) (fun h => absurd h (by decide))
        refine V_aload_n dX3_throwTold_16 rfl ?_
        refine V_getI dX3_throwTold_17 fX3_44 ⟨Nat.le_of_ble_eq_true rfl, Nat.le_of_ble_eq_true rfl⟩ rfl rfl ?_
        refine V_eqI (y := kd) h6 ?_
        refine V_iconst (v := nI 3) dX3_throwTold_20 rfl ?_
        refine V_icmp_ne (tgt := 35) dX3_throwTold_21 rfl (fun _ => ?_) (fun h => absurd h h3)
        refine V_iload dX3_throwTold_35 rfl ?_
        by_cases hsd : sWho p q last = 0
        · skip
          refine V_if_neN (tgt := 47) dX3_throwTold_37 rfl (by omega) (fun h => absurd hsd h) (fun _ => ?_)
          refine V_aload_n dX3_throwTold_40 rfl ?_
          refine V_getI dX3_throwTold_41 fX3_78 ⟨Nat.le_of_ble_eq_true rfl, Nat.le_of_ble_eq_true rfl⟩ rfl rfl ?_
          refine V_eqI (y := one) h7 ?_
          refine V_goto (tgt := 51) dX3_throwTold_44 rfl ?_
          refine V_istore (ls' := [(5, .int one), (0, .ref 9), (1, .int (nI p)), (2, .int (nI q)), (3, .int (nI last)), (4, .int (nI (sWho p q last)))]) dX3_throwTold_51 (by decide) rfl ?_
          refine V_aload_n dX3_throwTold_53 rfl ?_
          refine V_getI dX3_throwTold_54 fX3_44 ⟨Nat.le_of_ble_eq_true rfl, Nat.le_of_ble_eq_true rfl⟩ rfl rfl ?_
          refine V_eqI (y := kd) h6 ?_
          refine V_iconst (v := nI 1) dX3_throwTold_57 rfl ?_
          refine V_icmp_ne (tgt := 76) dX3_throwTold_58 rfl (fun h58 => ?_) (fun h58 => ?_)
          · skip
            refine V_iconst (v := nI 0) dX3_throwTold_76 rfl ?_
            exact V_iret ⟨Or.inl rfl, dX3_throwTold_77⟩ ⟨Nat.le_of_ble_eq_true rfl, Nat.le_of_ble_eq_true rfl⟩ ⟨rfl, by rw [show sTold kd one two Rl bt far p q last = 0 from by unfold sTold; rw [if_neg (by rw [hcan]; decide), if_neg h3, if_neg h1]], fun _ _ _ _ _ => rfl, hN, tenLe_r, tenKn_r, rfl⟩
          · skip
            refine V_iload dX3_throwTold_61 rfl ?_
            refine V_if_lt (tgt := 76) dX3_throwTold_63 rfl (fun h63 => ?_) (fun h63 => ?_)
            · skip
              refine V_iconst (v := nI 0) dX3_throwTold_76 rfl ?_
              exact V_iret ⟨Or.inl rfl, dX3_throwTold_77⟩ ⟨Nat.le_of_ble_eq_true rfl, Nat.le_of_ble_eq_true rfl⟩ ⟨rfl, by rw [show sTold kd one two Rl bt far p q last = 0 from by unfold sTold; rw [if_neg (by rw [hcan]; decide), if_neg h3, if_neg h1]], fun _ _ _ _ _ => rfl, hN, tenLe_r, tenKn_r, rfl⟩
            · skip
              refine V_iload dX3_throwTold_66 rfl ?_
              refine V_aload_n dX3_throwTold_68 rfl ?_
              refine V_getR (b := 18) dX3_throwTold_69 fX3_25 ⟨Nat.le_of_ble_eq_true rfl, Nat.le_of_ble_eq_true rfl⟩ rfl rfl rfl ?_
              refine V_alen (v := nI 4) dX3_throwTold_72 ⟨Nat.le_of_ble_eq_true rfl, Nat.le_of_ble_eq_true rfl⟩ rfl (by decide) rfl ?_
              refine V_icmp_lt (tgt := 78) dX3_throwTold_73 rfl (fun h73 => absurd ⟨by simpa [nI_one] using h58, by rw [if_pos hsd]; exact h63, by rw [if_pos hsd]; exact h73⟩ h1) (fun _ => ?_)
              refine V_iconst (v := nI 0) dX3_throwTold_76 rfl ?_
              exact V_iret ⟨Or.inl rfl, dX3_throwTold_77⟩ ⟨Nat.le_of_ble_eq_true rfl, Nat.le_of_ble_eq_true rfl⟩ ⟨rfl, by rw [show sTold kd one two Rl bt far p q last = 0 from by unfold sTold; rw [if_neg (by rw [hcan]; decide), if_neg h3, if_neg h1]], fun _ _ _ _ _ => rfl, hN, tenLe_r, tenKn_r, rfl⟩
        · skip
          refine V_if_neN (tgt := 47) dX3_throwTold_37 rfl (by omega) (fun _ => ?_) (fun h => absurd h hsd)
          refine V_aload_n dX3_throwTold_47 rfl ?_
          refine V_getI dX3_throwTold_48 fX3_81 ⟨Nat.le_of_ble_eq_true rfl, Nat.le_of_ble_eq_true rfl⟩ rfl rfl ?_
          refine V_eqI (y := two) h8 ?_
          refine V_istore (ls' := [(5, .int two), (0, .ref 9), (1, .int (nI p)), (2, .int (nI q)), (3, .int (nI last)), (4, .int (nI (sWho p q last)))]) dX3_throwTold_51 (by decide) rfl ?_
          refine V_aload_n dX3_throwTold_53 rfl ?_
          refine V_getI dX3_throwTold_54 fX3_44 ⟨Nat.le_of_ble_eq_true rfl, Nat.le_of_ble_eq_true rfl⟩ rfl rfl ?_
          refine V_eqI (y := kd) h6 ?_
          refine V_iconst (v := nI 1) dX3_throwTold_57 rfl ?_
          refine V_icmp_ne (tgt := 76) dX3_throwTold_58 rfl (fun h58 => ?_) (fun h58 => ?_)
          · skip
            refine V_iconst (v := nI 0) dX3_throwTold_76 rfl ?_
            exact V_iret ⟨Or.inl rfl, dX3_throwTold_77⟩ ⟨Nat.le_of_ble_eq_true rfl, Nat.le_of_ble_eq_true rfl⟩ ⟨rfl, by rw [show sTold kd one two Rl bt far p q last = 0 from by unfold sTold; rw [if_neg (by rw [hcan]; decide), if_neg h3, if_neg h1]], fun _ _ _ _ _ => rfl, hN, tenLe_r, tenKn_r, rfl⟩
          · skip
            refine V_iload dX3_throwTold_61 rfl ?_
            refine V_if_lt (tgt := 76) dX3_throwTold_63 rfl (fun h63 => ?_) (fun h63 => ?_)
            · skip
              refine V_iconst (v := nI 0) dX3_throwTold_76 rfl ?_
              exact V_iret ⟨Or.inl rfl, dX3_throwTold_77⟩ ⟨Nat.le_of_ble_eq_true rfl, Nat.le_of_ble_eq_true rfl⟩ ⟨rfl, by rw [show sTold kd one two Rl bt far p q last = 0 from by unfold sTold; rw [if_neg (by rw [hcan]; decide), if_neg h3, if_neg h1]], fun _ _ _ _ _ => rfl, hN, tenLe_r, tenKn_r, rfl⟩
            · skip
              refine V_iload dX3_throwTold_66 rfl ?_
              refine V_aload_n dX3_throwTold_68 rfl ?_
              refine V_getR (b := 18) dX3_throwTold_69 fX3_25 ⟨Nat.le_of_ble_eq_true rfl, Nat.le_of_ble_eq_true rfl⟩ rfl rfl rfl ?_
              refine V_alen (v := nI 4) dX3_throwTold_72 ⟨Nat.le_of_ble_eq_true rfl, Nat.le_of_ble_eq_true rfl⟩ rfl (by decide) rfl ?_
              refine V_icmp_lt (tgt := 78) dX3_throwTold_73 rfl (fun h73 => absurd ⟨by simpa [nI_one] using h58, by rw [if_neg hsd]; exact h63, by rw [if_neg hsd]; exact h73⟩ h1) (fun _ => ?_)
              refine V_iconst (v := nI 0) dX3_throwTold_76 rfl ?_
              exact V_iret ⟨Or.inl rfl, dX3_throwTold_77⟩ ⟨Nat.le_of_ble_eq_true rfl, Nat.le_of_ble_eq_true rfl⟩ ⟨rfl, by rw [show sTold kd one two Rl bt far p q last = 0 from by unfold sTold; rw [if_neg (by rw [hcan]; decide), if_neg h3, if_neg h1]], fun _ _ _ _ _ => rfl, hN, tenLe_r, tenKn_r, rfl⟩

