/-! THE CLASS: tenths of a state -/
theorem rn_congr {kd ar : Nat → Nat} {F F' : Nat → Int32} {hi : Nat} (hF : ∀ k, k < 9 → F k = F' k) (hw : ∀ i, i < hi → kd i = 1 → ar i < 9) : ∀ f i r s, i + f ≤ hi → rn kd ar F f i r s = rn kd ar F' f i r s
  | 0, _, _, _, _ => rfl
  | f + 1, i, r, s, h => by
    have ih := fun r s => rn_congr hF hw f (i + 1) r s (by omega)
    unfold rn
    by_cases h1 : kd i = 1
    · rw [hF _ (hw i (by omega) h1)]
      simp only [ih]
    · simp only [ih, h1, if_false]
/-- the program at pa tells by Lf -/
def progI (I : zI) (pa : Nat) (Lf : Nat → (Nat → Int32) → Int32) : Prop := ∃ (c : Nat) (kd ar hd lt cp : Nat → Nat), wfc (I (pa + 1)) c kd ar hd lt cp ∧ I pa 2 = nI c ∧ (∀ letter F, Lf letter F = tlS kd ar hd lt cp F letter c 0) ∧ ∀ letter F F', (∀ k, k < 9 → F k = F' k) → Lf letter F = Lf letter F'
theorem progI_c {I I' : zI} {pa : Nat} {Lf : Nat → (Nat → Int32) → Int32} (h : progI I pa Lf) (e : I' pa = I pa) (e1 : I' (pa + 1) = I (pa + 1)) : progI I' pa Lf := by
  unfold progI
  rw [e, e1]
  exact h
theorem c_tellP {G : zG} {I : zI} {J : zJ} {pa : Nat} (hp : prog pa) {Lf : Nat → (Nat → Int32) → Int32} (h : progI I pa Lf) {letter : Nat} (hle : letter < 256) : zK G mX9_tell 2 [.ref 27, .ref pa, .int (nI letter)] zsh I J (zP (fun v I' J' => v = some (.int (Lf letter (I 28))) ∧ offR I I' ∧ J = J')) := by
  obtain ⟨c, kd, ar, hd, lt, cp, hw, hcl, hL, -⟩ := h
  rw [hL]
  exact c_tell hp hw hcl hle
/-- a state's letters for the one whose turn it is -/
def fcS (p q last far : Nat) : Nat → Int32 := fct p q last (sWho p q last) far
def tA (Lf : Nat → (Nat → Int32) → Int32) (far p q last : Nat) : Nat := bnd (Lf 97 (fcS p q last far)) 10
def tB (Lf : Nat → (Nat → Int32) → Int32) (far p q last : Nat) : Nat := bnd (Lf 98 (fcS p q last far)) (10 - tA Lf far p q last)
def tC_ (Lf : Nat → (Nat → Int32) → Int32) (far p q last : Nat) : Nat := bnd (Lf 99 (fcS p q last far)) (10 - tA Lf far p q last - tB Lf far p q last)
def tH (Lf : Nat → (Nat → Int32) → Int32) (far p q last : Nat) : Nat := bnd (Lf 104 (fcS p q last far)) 10
def tK (Lf : Nat → (Nat → Int32) → Int32) (far p q last : Nat) : Nat := bnd (Lf 107 (fcS p q last far)) 10
def tEnc (Lf : Nat → (Nat → Int32) → Int32) (far p q last z : Nat) : Nat := tcd (tA Lf far p q last) (tB Lf far p q last) (tC_ Lf far p q last) (tH Lf far p q last) (tK Lf far p q last) + 1048576 + 2097152 * z
/-- the state's place: not both empty-handed -/
def sOk (p q last : Nat) : Prop := p < 56 ∧ q < 56 ∧ last ≤ 1 ∧ (35 ≤ p ∨ 35 ≤ q)
/-- what is kept of states: nothing, or their tenths, with the throw by bt or none -/
def tenOK (I : zI) (Lf : Nat → (Nat → Int32) → Int32) (far : Nat) (bt : Nat → Nat → Nat → Nat) : Prop := ∀ p q last, sOk p q last → I 30 (sSpot p q last) = 0 ∨ ∃ z, z ≤ 2 ∧ (z = 0 ∨ z = bt p q last) ∧ I 30 (sSpot p q last) = nI (tEnc Lf far p q last z)
/-- throws that are known stay so -/
def tenLe (I I' : zI) (Lf : Nat → (Nat → Int32) → Int32) (far : Nat) : Prop := ∀ p q last z, sOk p q last → 0 < z → z ≤ 2 → (I' 30 (sSpot p q last) = nI (tEnc Lf far p q last z) ↔ I 30 (sSpot p q last) = nI (tEnc Lf far p q last z))
theorem tenLe_r {I : zI} {Lf : Nat → (Nat → Int32) → Int32} {far : Nat} : tenLe I I Lf far := fun _ _ _ _ _ _ _ => Iff.rfl
theorem tenLe_t {A B C : zI} {Lf : Nat → (Nat → Int32) → Int32} {far : Nat} (h : tenLe A B Lf far) (h2 : tenLe B C Lf far) : tenLe A C Lf far := fun p q l z a b c => (h2 p q l z a b c).trans (h p q l z a b c)
/-- what is kept of a state stays kept -/
def tenKn (I I' : zI) : Prop := ∀ p q last, sOk p q last → I 30 (sSpot p q last) ≠ 0 → I' 30 (sSpot p q last) ≠ 0
theorem tenKn_r {I : zI} : tenKn I I := fun _ _ _ _ h => h
theorem tenKn_t {A B C : zI} (h : tenKn A B) (h2 : tenKn B C) : tenKn A C := fun p q l a b => h2 p q l a (h p q l a b)
theorem tenKn_c {I I' : zI} (e : ∀ j, I' 30 j = I 30 j) : tenKn I I' := fun p q l _ h => by rw [e]; exact h
theorem tEnc_lt {Lf : Nat → (Nat → Int32) → Int32} {far p q last z : Nat} (hz : z ≤ 2) : tEnc Lf far p q last z < 2 ^ 23 := by
  unfold tEnc tcd
  have h1 : tA Lf far p q last ≤ 10 := bnd_le
  have h2 : tB Lf far p q last ≤ 10 - tA Lf far p q last := bnd_le
  have h3 : tC_ Lf far p q last ≤ 10 - tA Lf far p q last - tB Lf far p q last := bnd_le
  have h4 : tH Lf far p q last ≤ 10 := bnd_le
  have h5 : tK Lf far p q last ≤ 10 := bnd_le
  omega
theorem tEnc_known {Lf : Nat → (Nat → Int32) → Int32} {far p q last z : Nat} (hz : z ≤ 2) : nI (tEnc Lf far p q last z) &&& nI 1048576 = nI 1048576 := by
  have hlt := tEnc_lt (Lf := Lf) (far := far) (p := p) (q := q) (last := last) hz
  rw [fa_and]
  have h1 : tcd (tA Lf far p q last) (tB Lf far p q last) (tC_ Lf far p q last) (tH Lf far p q last) (tK Lf far p q last) < 1048576 := by
    unfold tcd
    have h1 : tA Lf far p q last ≤ 10 := bnd_le
    have h2 : tB Lf far p q last ≤ 10 - tA Lf far p q last := bnd_le
    have h3 : tC_ Lf far p q last ≤ 10 - tA Lf far p q last - tB Lf far p q last := bnd_le
    have h4 : tH Lf far p q last ≤ 10 := bnd_le
    have h5 : tK Lf far p q last ≤ 10 := bnd_le
    omega
  congr 1
  unfold tEnc
  generalize tcd _ _ _ _ _ = t at h1
  have e : (t + 1048576 + 2097152 * z).testBit 20 = true := by
    rw [Nat.testBit_eq_decide_div_mod_eq]
    simp only [decide_eq_true_eq]
    omega
  apply Nat.eq_of_testBit_eq
  intro i
  rw [Nat.testBit_and, show (1048576 : Nat) = 2 ^ 20 from rfl, Nat.testBit_two_pow]
  by_cases hi : 20 = i
  · subst hi; simp [e]
  · simp [hi]
theorem tHand_pos {k : Nat} (h : 35 ≤ k) (hk : k < 56) : 0 < tHand k := by
  have := co_dec (P := fun k => 35 ≤ k → 0 < tHand k) (N := 56) (by decide +kernel) hk
  exact this h
theorem tHand_0 {k : Nat} (h : k < 35) : tHand k = 0 := co_dec (P := fun k => tHand k = 0) (N := 35) (by decide +kernel) h
theorem sWho_le1 {p q last : Nat} (hp : p < 56) (hq : q < 56) (h : 35 ≤ p ∨ 35 ≤ q) : sWho p q last ≤ 1 := by
  have hs := sSide_le (p := p) (q := q) (last := last)
  have h0 : ¬ (tHand p = 0 ∧ tHand q = 0) := fun e => by
    rcases h with h | h
    · have := tHand_pos h hp; omega
    · have := tHand_pos h hq; omega
  unfold sWho
  rw [if_neg h0]
  repeat' split
  all_goals omega
theorem sWho_2 {p q last : Nat} (hp : p < 56) (hq : q < 56) : sWho p q last = 2 ↔ p < 35 ∧ q < 35 := by
  constructor
  · intro e
    by_cases h : 35 ≤ p ∨ 35 ≤ q
    · have := sWho_le1 hp hq h (last := last); omega
    · omega
  · intro e
    unfold sWho
    rw [if_pos ⟨tHand_0 e.1, tHand_0 e.2⟩]
set_option maxRecDepth 100000 in
set_option maxHeartbeats 4000000 in
theorem c_tenthsAt {G : zG} {I : zI} {J : zJ} (hT : tabX I) {Lf : Nat → (Nat → Int32) → Int32} (hL : progI I 16 Lf) {far : Nat} (hf : I 9 4 = nI far) {bt : Nat → Nat → Nat → Nat} (hN : tenOK I Lf far bt) {p q last : Nat} (hs : sOk p q last) : zK G mX3_tenthsAt 3 [.ref 9, .int (nI p), .int (nI q), .int (nI last)] zsh I J (zP (fun r I' J' => (∃ z, z ≤ 2 ∧ (z = 0 ∨ z = bt p q last) ∧ r = some (.int (nI (tEnc Lf far p q last z))) ∧ I' 30 (sSpot p q last) = nI (tEnc Lf far p q last z)) ∧ (∀ a, a ≠ 27 → a ≠ 28 → a ≠ 29 → a ≠ 30 → I' a = I a) ∧ tenOK I' Lf far bt ∧ tenLe I I' Lf far ∧ tenKn I I' ∧ J = J')) := by
  refine zK_of kX3_tenthsAt.2.2.2.2.1 (Nat.le_of_ble_eq_true rfl) ?_
  show V G mX3_tenthsAt 3 _ 0 [(0, .ref 9), (1, .int (nI p)), (2, .int (nI q)), (3, .int (nI last))] [] (0, 0) zsh I J
  obtain ⟨hp, hq, hl, h35⟩ := id hs
  have hsp := sSpot_lt hp hq hl h35
  have hsw := sWho_le1 hp hq h35 (last := last)
  have h1 : tA Lf far p q last ≤ 10 := bnd_le
  have h2 : tB Lf far p q last ≤ 10 - tA Lf far p q last := bnd_le
  have h3 : tC_ Lf far p q last ≤ 10 - tA Lf far p q last - tB Lf far p q last := bnd_le
  have h4 : tH Lf far p q last ≤ 10 := bnd_le
  have h5 : tK Lf far p q last ≤ 10 := bnd_le
  obtain ⟨_, _, _, _, _, _, _, _, _, hLc⟩ := id hL
  rcases hN p q last hs with hz | ⟨z, hz2, hzb, hz⟩
  · skip
    refine V_iload_n dX3_tenthsAt_0 rfl ?_
    refine V_iload_n dX3_tenthsAt_1 rfl ?_
    refine V_iload_n dX3_tenthsAt_2 rfl ?_
    refine V_callS (As := [.int (nI p), .int (nI q), .int (nI last)]) (st := []) dX3_tenthsAt_3 kX3_spotOf lX3_95 (by decide) rfl rfl (Nat.le_of_ble_eq_true rfl) ⟨Nat.le_of_ble_eq_true rfl, Nat.le_of_ble_eq_true rfl⟩ (c_spotOf (by omega) (by omega) (by omega) (by omega)) ?_
    rintro _ _ _ _ ⟨rfl, rfl, rfl, rfl⟩
    refine V_istore (ls' := [(4, .int (nI (sSpot p q last))), (0, .ref 9), (1, .int (nI p)), (2, .int (nI q)), (3, .int (nI last))]) dX3_tenthsAt_6 (by decide) rfl ?_
    refine V_iload dX3_tenthsAt_8 rfl ?_
    refine V_if_ltN (tgt := 21) dX3_tenthsAt_10 rfl (by omega) ?_
    refine V_iload dX3_tenthsAt_13 rfl ?_
    refine V_sipush (v := nI 3822) dX3_tenthsAt_15 rfl ?_
    refine V_icmp_ltN (tgt := 23) dX3_tenthsAt_18 rfl (by omega) (by omega) (fun _ => ?_) (fun h => absurd h (by omega))
    refine V_aload_n dX3_tenthsAt_23 rfl ?_
    refine V_getR (b := 30) dX3_tenthsAt_24 fX3_40 ⟨Nat.le_of_ble_eq_true rfl, Nat.le_of_ble_eq_true rfl⟩ rfl rfl rfl ?_
    refine V_iload dX3_tenthsAt_27 rfl ?_
    refine V_ialdN (k := sSpot p q last) dX3_tenthsAt_29 ⟨Nat.le_of_ble_eq_true rfl, Nat.le_of_ble_eq_true rfl⟩ rfl (by decide) (by omega) ?_
    refine V_eqI (y := 0) hz ?_
    refine V_ldc dX3_tenthsAt_30 qX3_169 ?_
    refine V_eqI (y := nI 1048576) rfl ?_
    refine V_iand dX3_tenthsAt_32 (V_eqI (y := nI 0) rfl ?_)
    refine V_if_ne (tgt := 200) dX3_tenthsAt_33 rfl (fun h => absurd h (by decide)) (fun _ => ?_)
    refine V_aload_n dX3_tenthsAt_36 rfl ?_
    refine V_iload_n dX3_tenthsAt_37 rfl ?_
    refine V_iload_n dX3_tenthsAt_38 rfl ?_
    refine V_iload_n dX3_tenthsAt_39 rfl ?_
    refine V_aload_n dX3_tenthsAt_40 rfl ?_
    refine V_getR (b := 10) dX3_tenthsAt_41 fX3_14 ⟨Nat.le_of_ble_eq_true rfl, Nat.le_of_ble_eq_true rfl⟩ rfl rfl rfl ?_
    refine V_iload_n dX3_tenthsAt_44 rfl ?_
    refine V_iload_n dX3_tenthsAt_45 rfl ?_
    refine V_iload_n dX3_tenthsAt_46 rfl ?_
    refine V_callV (As := [.int (nI p), .int (nI q), .int (nI last)]) (st := [.int (nI last), .int (nI q), .int (nI p), .ref 9]) (a := 10) dX3_tenthsAt_47 kX2_whoPlays lX3_92 (by decide) rfl rfl (Nat.le_of_ble_eq_true rfl) ⟨Nat.le_of_ble_eq_true rfl, Nat.le_of_ble_eq_true rfl⟩ ⟨Nat.le_of_ble_eq_true rfl, Nat.le_of_ble_eq_true rfl⟩ rfl ⟨rfl, by decide⟩ (c_whoPlays hT hp hq hl) ?_
    rintro _ _ _ _ ⟨rfl, rfl, rfl, rfl⟩
    refine V_callV (As := [.int (nI p), .int (nI q), .int (nI last), .int (nI (sWho p q last))]) (st := []) (a := 9) dX3_tenthsAt_50 kX3_tellLetters lX3_155 (by decide) rfl rfl (Nat.le_of_ble_eq_true rfl) ⟨Nat.le_of_ble_eq_true rfl, Nat.le_of_ble_eq_true rfl⟩ ⟨Nat.le_of_ble_eq_true rfl, Nat.le_of_ble_eq_true rfl⟩ rfl ⟨rfl, by decide⟩ (c_tellLetters hT hf hp hq hl (by omega)) ?_
    rintro r sh' I' J' ⟨rfl, rfl, hlt, rfl⟩
    have hofA : ∀ a, a ≠ 27 → a ≠ 28 → a ≠ 29 → I' a = I a := fun a _ h _ => hlt.1 a h
    have hlet : ∀ k, k < 9 → I' 28 k = fcS p q last far k := hlt.2
    refine V_aload_n dX3_tenthsAt_53 rfl ?_
    refine V_getR (b := 27) dX3_tenthsAt_54 fX3_32 ⟨Nat.le_of_ble_eq_true rfl, Nat.le_of_ble_eq_true rfl⟩ rfl rfl rfl ?_
    refine V_aload_n dX3_tenthsAt_57 rfl ?_
    refine V_getR (b := 16) dX3_tenthsAt_58 fX3_21 ⟨Nat.le_of_ble_eq_true rfl, Nat.le_of_ble_eq_true rfl⟩ rfl rfl rfl ?_
    refine V_bipush (v := nI 97) dX3_tenthsAt_61 rfl ?_
    refine V_callV (As := [.ref 16, .int (nI 97)]) (st := []) (a := 27) dX3_tenthsAt_63 kX9_tell lX3_159 (by decide) rfl rfl (Nat.le_of_ble_eq_true rfl) ⟨Nat.le_of_ble_eq_true rfl, Nat.le_of_ble_eq_true rfl⟩ ⟨Nat.le_of_ble_eq_true rfl, Nat.le_of_ble_eq_true rfl⟩ rfl ⟨rfl, by decide⟩ (c_tellP prog_16 (progI_c hL (hofA 16 (by decide) (by decide) (by decide)) (hofA 17 (by decide) (by decide) (by decide))) (by decide)) ?_
    rintro r sh' I' J' ⟨rfl, rfl, hq9, rfl⟩
    rw [hLc 97 _ _ hlet]
    have hof0 : ∀ a, a ≠ 27 → a ≠ 28 → a ≠ 29 → I' a = I a := fun a h1 h2 h3 => (hq9 a h1 h3).trans (hofA a h1 h2 h3)
    have hle0 : ∀ k, k < 9 → I' 28 k = fcS p q last far k := fun k hk => (congrFun (hq9 28 (by decide) (by decide)) k).trans (hlet k hk)
    refine V_bipush (v := nI 10) dX3_tenthsAt_66 rfl ?_
    refine V_callS (As := [.int (Lf 97 (fcS p q last far)), .int (nI 10)]) (st := []) dX3_tenthsAt_68 kX3_bounded lX3_170 (by decide) rfl rfl (Nat.le_of_ble_eq_true rfl) ⟨Nat.le_of_ble_eq_true rfl, Nat.le_of_ble_eq_true rfl⟩ (c_bounded (by omega)) ?_
    rintro _ _ _ _ ⟨rfl, rfl, rfl, rfl⟩
    refine V_eqI (y := nI (tA Lf far p q last)) rfl ?_
    refine V_istore (ls' := [(5, .int (nI (tA Lf far p q last))), (4, .int (nI (sSpot p q last))), (0, .ref 9), (1, .int (nI p)), (2, .int (nI q)), (3, .int (nI last))]) dX3_tenthsAt_71 (by decide) rfl ?_
    refine V_aload_n dX3_tenthsAt_73 rfl ?_
    refine V_getR (b := 27) dX3_tenthsAt_74 fX3_32 ⟨Nat.le_of_ble_eq_true rfl, Nat.le_of_ble_eq_true rfl⟩ rfl rfl rfl ?_
    refine V_aload_n dX3_tenthsAt_77 rfl ?_
    refine V_getR (b := 16) dX3_tenthsAt_78 fX3_21 ⟨Nat.le_of_ble_eq_true rfl, Nat.le_of_ble_eq_true rfl⟩ rfl rfl rfl ?_
    refine V_bipush (v := nI 98) dX3_tenthsAt_81 rfl ?_
    refine V_callV (As := [.ref 16, .int (nI 98)]) (st := []) (a := 27) dX3_tenthsAt_83 kX9_tell lX3_159 (by decide) rfl rfl (Nat.le_of_ble_eq_true rfl) ⟨Nat.le_of_ble_eq_true rfl, Nat.le_of_ble_eq_true rfl⟩ ⟨Nat.le_of_ble_eq_true rfl, Nat.le_of_ble_eq_true rfl⟩ rfl ⟨rfl, by decide⟩ (c_tellP prog_16 (progI_c hL (hof0 16 (by decide) (by decide) (by decide)) (hof0 17 (by decide) (by decide) (by decide))) (by decide)) ?_
    rintro r sh' I' J' ⟨rfl, rfl, hq9, rfl⟩
    rw [hLc 98 _ _ hle0]
    have hof1 : ∀ a, a ≠ 27 → a ≠ 28 → a ≠ 29 → I' a = I a := fun a h1 h2 h3 => (hq9 a h1 h3).trans (hof0 a h1 h2 h3)
    have hle1 : ∀ k, k < 9 → I' 28 k = fcS p q last far k := fun k hk => (congrFun (hq9 28 (by decide) (by decide)) k).trans (hle0 k hk)
    refine V_bipush (v := nI 10) dX3_tenthsAt_86 rfl ?_
    refine V_iload dX3_tenthsAt_88 rfl ?_
    refine V_isubN dX3_tenthsAt_90 (by omega) ?_
    refine V_callS (As := [.int (Lf 98 (fcS p q last far)), .int (nI (10 - (tA Lf far p q last)))]) (st := []) dX3_tenthsAt_91 kX3_bounded lX3_170 (by decide) rfl rfl (Nat.le_of_ble_eq_true rfl) ⟨Nat.le_of_ble_eq_true rfl, Nat.le_of_ble_eq_true rfl⟩ (c_bounded (by omega)) ?_
    rintro _ _ _ _ ⟨rfl, rfl, rfl, rfl⟩
    refine V_eqI (y := nI (tB Lf far p q last)) rfl ?_
    refine V_istore (ls' := [(6, .int (nI (tB Lf far p q last))), (5, .int (nI (tA Lf far p q last))), (4, .int (nI (sSpot p q last))), (0, .ref 9), (1, .int (nI p)), (2, .int (nI q)), (3, .int (nI last))]) dX3_tenthsAt_94 (by decide) rfl ?_
    refine V_aload_n dX3_tenthsAt_96 rfl ?_
    refine V_getR (b := 27) dX3_tenthsAt_97 fX3_32 ⟨Nat.le_of_ble_eq_true rfl, Nat.le_of_ble_eq_true rfl⟩ rfl rfl rfl ?_
    refine V_aload_n dX3_tenthsAt_100 rfl ?_
    refine V_getR (b := 16) dX3_tenthsAt_101 fX3_21 ⟨Nat.le_of_ble_eq_true rfl, Nat.le_of_ble_eq_true rfl⟩ rfl rfl rfl ?_
    refine V_bipush (v := nI 99) dX3_tenthsAt_104 rfl ?_
    refine V_callV (As := [.ref 16, .int (nI 99)]) (st := []) (a := 27) dX3_tenthsAt_106 kX9_tell lX3_159 (by decide) rfl rfl (Nat.le_of_ble_eq_true rfl) ⟨Nat.le_of_ble_eq_true rfl, Nat.le_of_ble_eq_true rfl⟩ ⟨Nat.le_of_ble_eq_true rfl, Nat.le_of_ble_eq_true rfl⟩ rfl ⟨rfl, by decide⟩ (c_tellP prog_16 (progI_c hL (hof1 16 (by decide) (by decide) (by decide)) (hof1 17 (by decide) (by decide) (by decide))) (by decide)) ?_
    rintro r sh' I' J' ⟨rfl, rfl, hq9, rfl⟩
    rw [hLc 99 _ _ hle1]
    have hof2 : ∀ a, a ≠ 27 → a ≠ 28 → a ≠ 29 → I' a = I a := fun a h1 h2 h3 => (hq9 a h1 h3).trans (hof1 a h1 h2 h3)
    have hle2 : ∀ k, k < 9 → I' 28 k = fcS p q last far k := fun k hk => (congrFun (hq9 28 (by decide) (by decide)) k).trans (hle1 k hk)
    refine V_bipush (v := nI 10) dX3_tenthsAt_109 rfl ?_
    refine V_iload dX3_tenthsAt_111 rfl ?_
    refine V_isubN dX3_tenthsAt_113 (by omega) ?_
    refine V_iload dX3_tenthsAt_114 rfl ?_
    refine V_isubN dX3_tenthsAt_116 (by omega) ?_
    refine V_callS (As := [.int (Lf 99 (fcS p q last far)), .int (nI ((10 - (tA Lf far p q last)) - (tB Lf far p q last)))]) (st := []) dX3_tenthsAt_117 kX3_bounded lX3_170 (by decide) rfl rfl (Nat.le_of_ble_eq_true rfl) ⟨Nat.le_of_ble_eq_true rfl, Nat.le_of_ble_eq_true rfl⟩ (c_bounded (by omega)) ?_
    rintro _ _ _ _ ⟨rfl, rfl, rfl, rfl⟩
    refine V_eqI (y := nI (tC_ Lf far p q last)) rfl ?_
    refine V_istore (ls' := [(7, .int (nI (tC_ Lf far p q last))), (6, .int (nI (tB Lf far p q last))), (5, .int (nI (tA Lf far p q last))), (4, .int (nI (sSpot p q last))), (0, .ref 9), (1, .int (nI p)), (2, .int (nI q)), (3, .int (nI last))]) dX3_tenthsAt_120 (by decide) rfl ?_
    refine V_aload_n dX3_tenthsAt_122 rfl ?_
    refine V_getR (b := 27) dX3_tenthsAt_123 fX3_32 ⟨Nat.le_of_ble_eq_true rfl, Nat.le_of_ble_eq_true rfl⟩ rfl rfl rfl ?_
    refine V_aload_n dX3_tenthsAt_126 rfl ?_
    refine V_getR (b := 16) dX3_tenthsAt_127 fX3_21 ⟨Nat.le_of_ble_eq_true rfl, Nat.le_of_ble_eq_true rfl⟩ rfl rfl rfl ?_
    refine V_bipush (v := nI 104) dX3_tenthsAt_130 rfl ?_
    refine V_callV (As := [.ref 16, .int (nI 104)]) (st := []) (a := 27) dX3_tenthsAt_132 kX9_tell lX3_159 (by decide) rfl rfl (Nat.le_of_ble_eq_true rfl) ⟨Nat.le_of_ble_eq_true rfl, Nat.le_of_ble_eq_true rfl⟩ ⟨Nat.le_of_ble_eq_true rfl, Nat.le_of_ble_eq_true rfl⟩ rfl ⟨rfl, by decide⟩ (c_tellP prog_16 (progI_c hL (hof2 16 (by decide) (by decide) (by decide)) (hof2 17 (by decide) (by decide) (by decide))) (by decide)) ?_
    rintro r sh' I' J' ⟨rfl, rfl, hq9, rfl⟩
    rw [hLc 104 _ _ hle2]
    have hof3 : ∀ a, a ≠ 27 → a ≠ 28 → a ≠ 29 → I' a = I a := fun a h1 h2 h3 => (hq9 a h1 h3).trans (hof2 a h1 h2 h3)
    have hle3 : ∀ k, k < 9 → I' 28 k = fcS p q last far k := fun k hk => (congrFun (hq9 28 (by decide) (by decide)) k).trans (hle2 k hk)
    refine V_bipush (v := nI 10) dX3_tenthsAt_135 rfl ?_
    refine V_callS (As := [.int (Lf 104 (fcS p q last far)), .int (nI 10)]) (st := []) dX3_tenthsAt_137 kX3_bounded lX3_170 (by decide) rfl rfl (Nat.le_of_ble_eq_true rfl) ⟨Nat.le_of_ble_eq_true rfl, Nat.le_of_ble_eq_true rfl⟩ (c_bounded (by omega)) ?_
    rintro _ _ _ _ ⟨rfl, rfl, rfl, rfl⟩
    refine V_eqI (y := nI (tH Lf far p q last)) rfl ?_
    refine V_istore (ls' := [(8, .int (nI (tH Lf far p q last))), (7, .int (nI (tC_ Lf far p q last))), (6, .int (nI (tB Lf far p q last))), (5, .int (nI (tA Lf far p q last))), (4, .int (nI (sSpot p q last))), (0, .ref 9), (1, .int (nI p)), (2, .int (nI q)), (3, .int (nI last))]) dX3_tenthsAt_140 (by decide) rfl ?_
    refine V_aload_n dX3_tenthsAt_142 rfl ?_
    refine V_getR (b := 27) dX3_tenthsAt_143 fX3_32 ⟨Nat.le_of_ble_eq_true rfl, Nat.le_of_ble_eq_true rfl⟩ rfl rfl rfl ?_
    refine V_aload_n dX3_tenthsAt_146 rfl ?_
    refine V_getR (b := 16) dX3_tenthsAt_147 fX3_21 ⟨Nat.le_of_ble_eq_true rfl, Nat.le_of_ble_eq_true rfl⟩ rfl rfl rfl ?_
    refine V_bipush (v := nI 107) dX3_tenthsAt_150 rfl ?_
    refine V_callV (As := [.ref 16, .int (nI 107)]) (st := []) (a := 27) dX3_tenthsAt_152 kX9_tell lX3_159 (by decide) rfl rfl (Nat.le_of_ble_eq_true rfl) ⟨Nat.le_of_ble_eq_true rfl, Nat.le_of_ble_eq_true rfl⟩ ⟨Nat.le_of_ble_eq_true rfl, Nat.le_of_ble_eq_true rfl⟩ rfl ⟨rfl, by decide⟩ (c_tellP prog_16 (progI_c hL (hof3 16 (by decide) (by decide) (by decide)) (hof3 17 (by decide) (by decide) (by decide))) (by decide)) ?_
    rintro r sh' I' J' ⟨rfl, rfl, hq9, rfl⟩
    rw [hLc 107 _ _ hle3]
    have hof4 : ∀ a, a ≠ 27 → a ≠ 28 → a ≠ 29 → I' a = I a := fun a h1 h2 h3 => (hq9 a h1 h3).trans (hof3 a h1 h2 h3)
    have hle4 : ∀ k, k < 9 → I' 28 k = fcS p q last far k := fun k hk => (congrFun (hq9 28 (by decide) (by decide)) k).trans (hle3 k hk)
    refine V_bipush (v := nI 10) dX3_tenthsAt_155 rfl ?_
    refine V_callS (As := [.int (Lf 107 (fcS p q last far)), .int (nI 10)]) (st := []) dX3_tenthsAt_157 kX3_bounded lX3_170 (by decide) rfl rfl (Nat.le_of_ble_eq_true rfl) ⟨Nat.le_of_ble_eq_true rfl, Nat.le_of_ble_eq_true rfl⟩ (c_bounded (by omega)) ?_
    rintro _ _ _ _ ⟨rfl, rfl, rfl, rfl⟩
    refine V_eqI (y := nI (tK Lf far p q last)) rfl ?_
    refine V_istore (ls' := [(9, .int (nI (tK Lf far p q last))), (8, .int (nI (tH Lf far p q last))), (7, .int (nI (tC_ Lf far p q last))), (6, .int (nI (tB Lf far p q last))), (5, .int (nI (tA Lf far p q last))), (4, .int (nI (sSpot p q last))), (0, .ref 9), (1, .int (nI p)), (2, .int (nI q)), (3, .int (nI last))]) dX3_tenthsAt_160 (by decide) rfl ?_
    have hor : (0 : Int32) ||| nI (tA Lf far p q last + tB Lf far p q last * 2 ^ 4 + tC_ Lf far p q last * 2 ^ 8 + tH Lf far p q last * 2 ^ 12 + tK Lf far p q last * 2 ^ 16 + 1 * 2 ^ 20) = nI (tEnc Lf far p q last 0) := by
      rw [show (0 : Int32) = nI 0 from rfl, fa_or, Nat.zero_or]
      congr 1
      unfold tEnc tcd
      omega
    refine V_aload_n dX3_tenthsAt_162 rfl ?_
    refine V_getR (b := 30) dX3_tenthsAt_163 fX3_40 ⟨Nat.le_of_ble_eq_true rfl, Nat.le_of_ble_eq_true rfl⟩ rfl rfl rfl ?_
    refine V_iload dX3_tenthsAt_166 rfl ?_
    refine V_dup2 dX3_tenthsAt_168 rfl rfl ?_
    refine V_ialdN (k := sSpot p q last) dX3_tenthsAt_169 ⟨Nat.le_of_ble_eq_true rfl, Nat.le_of_ble_eq_true rfl⟩ rfl (by decide) (by omega) ?_
    refine V_eqI (y := 0) ((congrFun (hof4 30 (by decide) (by decide) (by decide)) _).trans hz) ?_
    refine V_iload dX3_tenthsAt_170 rfl ?_
    refine V_iload dX3_tenthsAt_172 rfl ?_
    refine V_iconst (v := nI 4) dX3_tenthsAt_174 rfl ?_
    refine V_ishl dX3_tenthsAt_175 (V_eqI (y := nI (tB Lf far p q last * 2 ^ 4)) (pk_shlN (nI 4 &&& 31) 4 (by decide) (by omega)) ?_)
    refine V_ior dX3_tenthsAt_176 (V_eqI (or_low 4 (by omega)) ?_)
    refine V_iload dX3_tenthsAt_177 rfl ?_
    refine V_bipush (v := nI 8) dX3_tenthsAt_179 rfl ?_
    refine V_ishl dX3_tenthsAt_181 (V_eqI (y := nI (tC_ Lf far p q last * 2 ^ 8)) (pk_shlN (nI 8 &&& 31) 8 (by decide) (by omega)) ?_)
    refine V_ior dX3_tenthsAt_182 (V_eqI (or_low 8 (by omega)) ?_)
    refine V_iload dX3_tenthsAt_183 rfl ?_
    refine V_bipush (v := nI 12) dX3_tenthsAt_185 rfl ?_
    refine V_ishl dX3_tenthsAt_187 (V_eqI (y := nI (tH Lf far p q last * 2 ^ 12)) (pk_shlN (nI 12 &&& 31) 12 (by decide) (by omega)) ?_)
    refine V_ior dX3_tenthsAt_188 (V_eqI (or_low 12 (by omega)) ?_)
    refine V_iload dX3_tenthsAt_189 rfl ?_
    refine V_bipush (v := nI 16) dX3_tenthsAt_191 rfl ?_
    refine V_ishl dX3_tenthsAt_193 (V_eqI (y := nI (tK Lf far p q last * 2 ^ 16)) (pk_shlN (nI 16 &&& 31) 16 (by decide) (by omega)) ?_)
    refine V_ior dX3_tenthsAt_194 (V_eqI (or_low 16 (by omega)) ?_)
    refine V_ldc dX3_tenthsAt_195 qX3_169 ?_
    refine V_eqI (y := nI 1048576) rfl ?_
    refine V_eqI (y := nI (1 * 2 ^ 20)) rfl ?_
    refine V_ior dX3_tenthsAt_197 (V_eqI (or_low 20 (by omega)) ?_)
    refine V_ior dX3_tenthsAt_198 (V_eqI (y := nI (tEnc Lf far p q last 0)) (hor) ?_)
    refine V_iastN (k := sSpot p q last) dX3_tenthsAt_199 ⟨Nat.le_of_ble_eq_true rfl, Nat.le_of_ble_eq_true rfl⟩ rfl (by decide) (by omega) ?_
    refine V_aload_n dX3_tenthsAt_200 rfl ?_
    refine V_getR (b := 30) dX3_tenthsAt_201 fX3_40 ⟨Nat.le_of_ble_eq_true rfl, Nat.le_of_ble_eq_true rfl⟩ rfl rfl rfl ?_
    refine V_iload dX3_tenthsAt_204 rfl ?_
    refine V_ialdN (k := sSpot p q last) dX3_tenthsAt_206 ⟨Nat.le_of_ble_eq_true rfl, Nat.le_of_ble_eq_true rfl⟩ rfl (by decide) (by omega) ?_
    refine V_eqI (y := nI (tEnc Lf far p q last 0)) (by simp [zwr_at]) ?_
    have hnew : ∀ p2 q2 l2, sOk p2 q2 l2 → zwr I' 30 (sSpot p q last) (nI (tEnc Lf far p q last 0)) 30 (sSpot p2 q2 l2) = if p2 = p ∧ q2 = q ∧ l2 = last then nI (tEnc Lf far p q last 0) else I 30 (sSpot p2 q2 l2) := by
      intro p2 q2 l2 h2
      rw [zwr_at]
      by_cases he : p2 = p ∧ q2 = q ∧ l2 = last
      · obtain ⟨rfl, rfl, rfl⟩ := he
        rw [if_pos ⟨rfl, rfl⟩, if_pos ⟨rfl, rfl, rfl⟩]
      · rw [if_neg he, if_neg (fun q9 => he (by have := sSpot_inj h2.1 h2.2.1 h2.2.2.1 h2.2.2.2 hp hq hl h35 q9.2; exact this)), hof4 30 (by decide) (by decide) (by decide)]
    exact V_iret ⟨Or.inl rfl, dX3_tenthsAt_207⟩ ⟨Nat.le_of_ble_eq_true rfl, Nat.le_of_ble_eq_true rfl⟩ ⟨rfl, ⟨0, by omega, Or.inl rfl, rfl, by rw [hnew p q last hs, if_pos ⟨rfl, rfl, rfl⟩]⟩, fun a h6 h7 h8 h9 => by rw [← hof4 a h6 h7 h8]; funext j; simp only [zwr_at, h9, false_and, if_false], fun p2 q2 l2 h2 => by rw [hnew p2 q2 l2 h2]; (by_cases he : p2 = p ∧ q2 = q ∧ l2 = last); (· rw [if_pos he]; obtain ⟨rfl, rfl, rfl⟩ := he; exact Or.inr ⟨0, by omega, Or.inl rfl, rfl⟩); (· rw [if_neg he]; exact hN p2 q2 l2 h2), fun p2 q2 l2 z2 g2 g3 g4 => by rw [hnew p2 q2 l2 g2]; (by_cases he : p2 = p ∧ q2 = q ∧ l2 = last); (· rw [if_pos he, he.1, he.2.1, he.2.2, hz]; constructor; (· intro g5; have g6 := (nI_eq (Nat.lt_trans (tEnc_lt (by omega)) (by decide)) (Nat.lt_trans (tEnc_lt g4) (by decide))).mp g5; exfalso; unfold tEnc at g6; omega); (· intro g5; exact absurd g5.symm (nI_ne0 (by unfold tEnc; omega) (Nat.lt_trans (tEnc_lt g4) (by decide))))); (· rw [if_neg he]), fun p2 q2 l2 g2 g3 => by rw [hnew p2 q2 l2 g2]; (by_cases he : p2 = p ∧ q2 = q ∧ l2 = last); (· rw [if_pos he]; exact nI_ne0 (by unfold tEnc; omega) (Nat.lt_trans (tEnc_lt (by omega)) (by decide))); (· rw [if_neg he]; exact g3), rfl⟩
  · skip
    refine V_iload_n dX3_tenthsAt_0 rfl ?_
    refine V_iload_n dX3_tenthsAt_1 rfl ?_
    refine V_iload_n dX3_tenthsAt_2 rfl ?_
    refine V_callS (As := [.int (nI p), .int (nI q), .int (nI last)]) (st := []) dX3_tenthsAt_3 kX3_spotOf lX3_95 (by decide) rfl rfl (Nat.le_of_ble_eq_true rfl) ⟨Nat.le_of_ble_eq_true rfl, Nat.le_of_ble_eq_true rfl⟩ (c_spotOf (by omega) (by omega) (by omega) (by omega)) ?_
    rintro _ _ _ _ ⟨rfl, rfl, rfl, rfl⟩
    refine V_istore (ls' := [(4, .int (nI (sSpot p q last))), (0, .ref 9), (1, .int (nI p)), (2, .int (nI q)), (3, .int (nI last))]) dX3_tenthsAt_6 (by decide) rfl ?_
    refine V_iload dX3_tenthsAt_8 rfl ?_
    refine V_if_ltN (tgt := 21) dX3_tenthsAt_10 rfl (by omega) ?_
    refine V_iload dX3_tenthsAt_13 rfl ?_
    refine V_sipush (v := nI 3822) dX3_tenthsAt_15 rfl ?_
    refine V_icmp_ltN (tgt := 23) dX3_tenthsAt_18 rfl (by omega) (by omega) (fun _ => ?_) (fun h => absurd h (by omega))
    refine V_aload_n dX3_tenthsAt_23 rfl ?_
    refine V_getR (b := 30) dX3_tenthsAt_24 fX3_40 ⟨Nat.le_of_ble_eq_true rfl, Nat.le_of_ble_eq_true rfl⟩ rfl rfl rfl ?_
    refine V_iload dX3_tenthsAt_27 rfl ?_
    refine V_ialdN (k := sSpot p q last) dX3_tenthsAt_29 ⟨Nat.le_of_ble_eq_true rfl, Nat.le_of_ble_eq_true rfl⟩ rfl (by decide) (by omega) ?_
    refine V_eqI (y := nI (tEnc Lf far p q last z)) hz ?_
    refine V_ldc dX3_tenthsAt_30 qX3_169 ?_
    refine V_eqI (y := nI 1048576) rfl ?_
    refine V_iand dX3_tenthsAt_32 (V_eqI (y := nI 1048576) (tEnc_known hz2) ?_)
    refine V_if_ne (tgt := 200) dX3_tenthsAt_33 rfl (fun _ => ?_) (fun h => absurd h (by decide))
    refine V_aload_n dX3_tenthsAt_200 rfl ?_
    refine V_getR (b := 30) dX3_tenthsAt_201 fX3_40 ⟨Nat.le_of_ble_eq_true rfl, Nat.le_of_ble_eq_true rfl⟩ rfl rfl rfl ?_
    refine V_iload dX3_tenthsAt_204 rfl ?_
    refine V_ialdN (k := sSpot p q last) dX3_tenthsAt_206 ⟨Nat.le_of_ble_eq_true rfl, Nat.le_of_ble_eq_true rfl⟩ rfl (by decide) (by omega) ?_
    refine V_eqI (y := nI (tEnc Lf far p q last z)) hz ?_
    exact V_iret ⟨Or.inl rfl, dX3_tenthsAt_207⟩ ⟨Nat.le_of_ble_eq_true rfl, Nat.le_of_ble_eq_true rfl⟩ ⟨rfl, ⟨z, hz2, hzb, rfl, hz⟩, fun a _ _ _ _ => rfl, hN, tenLe_r, tenKn_r, rfl⟩

