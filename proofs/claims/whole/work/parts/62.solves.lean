/-! THE MODEL: all states settled -/
def sgV (kd one two : Int32) (Rl : Nat → Nat → (Nat → Int32) → Int32) (Lf : Nat → (Nat → Int32) → Int32) (far : Nat) (I : zI) (J : zJ) : Prop := ∀ p q l, p < 56 → q < 56 → l ≤ 1 → J 83 (stN p q l) = (vX kd one two Rl Lf far p q l).1 ∧ I 85 (stN p q l) = thrX kd one two Rl Lf far p q l
def dnS (kd one two : Int32) (Rl : Nat → Nat → (Nat → Int32) → Int32) (Lf : Nat → (Nat → Int32) → Int32) (far : Nat) (I : zI) (J : zJ) (h s : Nat) : Prop := ∀ p q l, p < 56 → q < 56 → l ≤ 1 → (hnd p q < h ∨ hnd p q = h ∧ stN p q l < s) → J 83 (stN p q l) = (vX kd one two Rl Lf far p q l).1 ∧ I 85 (stN p q l) = thrX kd one two Rl Lf far p q l
section
variable {kd one two : Int32} {Rl : Nat → Nat → (Nat → Int32) → Int32} {Lf : Nat → (Nat → Int32) → Int32} {far : Nat} {I I' : zI} {J : zJ} {h p q l : Nat}
theorem dnS_n (hd : dnS kd one two Rl Lf far I J h (stN p q l)) (hq : q < 56) (hl : l ≤ 1) (hn : ¬ hnd p q = h) : dnS kd one two Rl Lf far I J h (stN p q l + 1) := fun p' q' l' hp' hq' hl' hh => by
  rcases hh with hh | ⟨h1, h2⟩
  · exact hd p' q' l' hp' hq' hl' (Or.inl hh)
  · by_cases e : stN p' q' l' = stN p q l
    · obtain ⟨e1, e2, _⟩ := stN_inj hq' hl' hq hl e
      subst e1; subst e2
      exact absurd h1 hn
    · exact hd p' q' l' hp' hq' hl' (Or.inr ⟨h1, by omega⟩)
theorem dnS_y (hd : dnS kd one two Rl Lf far I J h (stN p q l)) (hq : q < 56) (hl : l ≤ 1) (hv : offV I I' (stN p q l)) (h85 : I' 85 (stN p q l) = thrX kd one two Rl Lf far p q l) : dnS kd one two Rl Lf far I' (zwl J 83 (stN p q l) (vX kd one two Rl Lf far p q l).1) h (stN p q l + 1) := fun p' q' l' hp' hq' hl' hh => by
  by_cases e : stN p' q' l' = stN p q l
  · obtain ⟨e1, e2, e3⟩ := stN_inj hq' hl' hq hl e
    subst e1; subst e2; subst e3
    exact ⟨by simp [zwl_at], h85⟩
  · have g := hd p' q' l' hp' hq' hl' (hh.imp id (fun x => ⟨x.1, by have := x.2; omega⟩))
    rw [hv.2.2 _ e]
    exact ⟨by simp [zwl_at, e, g.1], g.2⟩
theorem dnS_o (hd : dnS kd one two Rl Lf far I J h 6272) : dnS kd one two Rl Lf far I J (h + 1) 0 := fun p' q' l' hp' hq' hl' hh => hd p' q' l' hp' hq' hl' (by have := stN_lt hp' hq' hl'; omega)
theorem dnS_z : dnS kd one two Rl Lf far I J 0 0 := fun _ _ _ _ _ _ hh => by omega
theorem dnS_7 (hd : dnS kd one two Rl Lf far I J 7 0) : sgV kd one two Rl Lf far I J := fun p' q' l' hp' hq' hl' => hd p' q' l' hp' hq' hl' (Or.inl (by have := hnd_6 hp' hq'; omega))
theorem dnS_J (hd : dnS kd one two Rl Lf far I J (hnd p q) (stN p q l)) (hp : p < 56) (hq : q < 56) (hl : l ≤ 1) (hw : sWho p q l ≤ 1) : ∀ part, part ≤ 6 → J 83 (stN (sNx p q l part).1 (sNx p q l part).2 (sWho p q l)) = (vX kd one two Rl Lf far (sNx p q l part).1 (sNx p q l part).2 (sWho p q l)).1 := fun part hpa => by
  obtain ⟨h1, h2, h3⟩ := sNx_ok (last := l) (part := part) hp hq hw hpa
  exact (hd _ _ _ h1 h2 hw (Or.inl (by omega))).1
end
theorem stN_ex {s : Nat} (h : s < 6272) : ∃ p q l, p < 56 ∧ q < 56 ∧ l ≤ 1 ∧ s = stN p q l := ⟨s / 2 / 56, s / 2 % 56, s % 2, by omega, by omega, by omega, by unfold stN; omega⟩
/-- off the model's scratch nothing but the throws -/
def offS (I I' : zI) : Prop := (∀ a, a ≠ 62 → a ≠ 79 → a ≠ 80 → a ≠ 81 → a ≠ 82 → a ≠ 85 → I' a = I a) ∧ ∀ k, k ≠ 32 → I' 62 k = I 62 k
theorem offS_r {I : zI} : offS I I := ⟨fun _ _ _ _ _ _ _ => rfl, fun _ _ => rfl⟩
theorem offS_v {A B C : zI} {s : Nat} (h : offS A B) (h2 : offV B C s) : offS A C := ⟨fun a h1 h3 h4 h5 h6 h7 => (h2.1 a h1 h3 h4 h5 h6 h7).trans (h.1 a h1 h3 h4 h5 h6 h7), fun k hk => (h2.2.1 k hk).trans (h.2 k hk)⟩
theorem svI_s {I I' : zI} {a : List (Nat × List (Nat × Nat) × List (Nat × Nat))} {M : Nat → ((Nat → Int32) → Option Int32) × ((Nat → Int32) → Option Int32)} {ar : Nat → List (Nat × List (Nat × Nat) × List (Nat × Nat))} {Mr : Nat → Nat → ((Nat → Int32) → Option Int32) × ((Nat → Int32) → Option Int32)} (h : svI I a M ar Mr) (e : offS I I') (hc : chA I' (lfM a M)) : svI I' a M ar Mr := by
  have e2 : ∀ k, 73 ≤ k → k ≤ 78 → I' k = I k := fun k h1 h2 => e.1 k (by omega) (by omega) (by omega) (by omega) (by omega) (by omega)
  exact ⟨mT_c h.1 (e.1 63 (by decide) (by decide) (by decide) (by decide) (by decide) (by decide)) (e.1 64 (by decide) (by decide) (by decide) (by decide) (by decide) (by decide)) (e.1 65 (by decide) (by decide) (by decide) (by decide) (by decide) (by decide)), mpI_c h.2.1 e2, fun k hk => ⟨mpI_c (h.2.2.1 k hk).1 e2, (h.2.2.1 k hk).2⟩, hc⟩
theorem mdI_s {I I' : zI} {md : Nat} {kd one two : Int32} (h : mdI I md kd one two) (e : offS I I') : mdI I' md kd one two := by
  unfold mdI
  rw [e.2 33 (by decide), e.2 34 (by decide), e.2 35 (by decide)]
  exact h
theorem zwl_o {J : zJ} {a b k : Nat} {x : Int64} (h : b ≠ a) : zwl J a k x b = J b := by
  funext j
  simp [zwl_at, h]
set_option maxRecDepth 100000 in
set_option maxHeartbeats 4000000 in
theorem lp_solI {G : zG} {I0 : zI} {J0 : zJ} {Q : zQ} {a : List (Nat × List (Nat × Nat) × List (Nat × Nat))} {M : Nat → ((Nat → Int32) → Option Int32) × ((Nat → Int32) → Option Int32)} {ar : Nat → List (Nat × List (Nat × Nat) × List (Nat × Nat))} {Mr : Nat → Nat → ((Nat → Int32) → Option Int32) × ((Nat → Int32) → Option Int32)} (hS : svI I0 a M ar Mr) {far : Nat} (hf : I0 62 5 = nI far) (h6 : 6 ≤ far) (h10 : far ≤ 10) {md : Nat} (hmd : md < 2 ^ 31) {kd one two j k : Int32} (hm : mdI I0 md kd one two) {h : Nat} (hh : h ≤ 6) (K : ∀ (I1 : zI) (J1 : zJ), offS I0 I1 → (∀ b, b ≠ 83 → J1 b = J0 b) → chA I1 (lfM a M) → dnS kd one two (rlM ar Mr) (lfM a M) far I1 J1 (h + 1) 0 → V G mX12_solves 8 Q 97 [(0, .ref 62), (1, .int (nI md)), (2, .int j), (3, .int k), (4, .int (nI (h + 1)))] [] (0, 0) zsh I1 J1) : ∀ n s (I1 : zI) (J1 : zJ), s + n = 6272 → offS I0 I1 → (∀ b, b ≠ 83 → J1 b = J0 b) → chA I1 (lfM a M) → dnS kd one two (rlM ar Mr) (lfM a M) far I1 J1 h s → V G mX12_solves 8 Q 107 [(0, .ref 62), (1, .int (nI md)), (2, .int j), (3, .int k), (4, .int (nI h)), (5, .int (nI s))] [] (0, 0) zsh I1 J1 := by
  intro n
  induction n with
  | zero =>
    intro s I1 J1 hsn i1 i2 i3 i4
    have hs : s = 6272 := by omega
    refine V_iload dX12_solves_107 rfl ?_
    refine V_sipush (v := nI 6272) dX12_solves_109 rfl ?_
    refine V_icmp_geN (tgt := 139) dX12_solves_112 rfl (by omega) (by omega) (fun _ => ?_) (fun h => absurd h (by omega))
    refine V_iincN (ls' := [(4, .int (nI (h + 1))), (0, .ref 62), (1, .int (nI md)), (2, .int j), (3, .int k), (5, .int (nI s))]) (n := 1) dX12_solves_139 rfl rfl (by decide) (by decide) rfl ?_
    refine V_goto (tgt := 97) dX12_solves_142 rfl ?_
    refine V_sub2 (ls' := [(0, .ref 62), (1, .int (nI md)), (2, .int j), (3, .int k), (4, .int (nI (h + 1)))]) (List.forall_mem_cons.mpr ⟨rfl, List.forall_mem_cons.mpr ⟨rfl, List.forall_mem_cons.mpr ⟨rfl, List.forall_mem_cons.mpr ⟨rfl, List.forall_mem_cons.mpr ⟨rfl, fun _ h => absurd h List.not_mem_nil⟩⟩⟩⟩⟩) ?_
    exact K I1 J1 i1 i2 i3 (dnS_o (show dnS kd one two (rlM ar Mr) (lfM a M) far I1 J1 h 6272 from hs ▸ i4))
  | succ n ih =>
    intro s I1 J1 hsn i1 i2 i3 i4
    obtain ⟨p, q, l, hp, hq, hl, rfl⟩ := stN_ex (s := s) (by omega)
    have hst := stN_lt hp hq hl
    have hn6 := hnd_6 hp hq
    refine V_iload dX12_solves_107 rfl ?_
    refine V_sipush (v := nI 6272) dX12_solves_109 rfl ?_
    refine V_icmp_geN (tgt := 139) dX12_solves_112 rfl (by omega) (by omega) (fun h => absurd h (by omega)) (fun _ => ?_)
    refine V_aload_n dX12_solves_115 rfl ?_
    refine V_iload dX12_solves_116 rfl ?_
    refine V_callV (As := [.int (nI (stN p q l))]) (st := []) (a := 62) dX12_solves_118 kX12_handsIn lX12_187 (by decide) rfl rfl (Nat.le_of_ble_eq_true rfl) ⟨Nat.le_of_ble_eq_true rfl, Nat.le_of_ble_eq_true rfl⟩ ⟨Nat.le_of_ble_eq_true rfl, Nat.le_of_ble_eq_true rfl⟩ rfl ⟨rfl, by decide⟩ (w_handsIn (svI_s hS i1 i3).1 hp hq hl) ?_
    rintro _ _ _ _ ⟨rfl, rfl, rfl, rfl⟩
    refine V_iload dX12_solves_121 rfl ?_
    refine V_icmp_neN (tgt := 133) dX12_solves_123 rfl (by omega) (by omega) (fun h123 => ?_) (fun h123 => ?_)
    · skip
      refine V_iincN (ls' := [(5, .int (nI ((stN p q l) + 1))), (0, .ref 62), (1, .int (nI md)), (2, .int j), (3, .int k), (4, .int (nI h))]) (n := 1) dX12_solves_133 rfl rfl (by decide) (by decide) rfl ?_
      refine V_goto (tgt := 107) dX12_solves_136 rfl ?_
      refine V_sub2 (ls' := [(0, .ref 62), (1, .int (nI md)), (2, .int j), (3, .int k), (4, .int (nI h)), (5, .int (nI ((stN p q l) + 1)))]) (List.forall_mem_cons.mpr ⟨rfl, List.forall_mem_cons.mpr ⟨rfl, List.forall_mem_cons.mpr ⟨rfl, List.forall_mem_cons.mpr ⟨rfl, List.forall_mem_cons.mpr ⟨rfl, List.forall_mem_cons.mpr ⟨rfl, fun _ h => absurd h List.not_mem_nil⟩⟩⟩⟩⟩⟩) ?_
      exact ih (stN p q l + 1) I1 J1 (by omega) i1 i2 i3 (dnS_n i4 hq hl h123)
    · skip
      have h124 : hnd p q = h := h123
      refine V_aload_n dX12_solves_126 rfl ?_
      refine V_iload dX12_solves_127 rfl ?_
      refine V_iload_n dX12_solves_129 rfl ?_
      refine V_callV (As := [.int (nI (stN p q l)), .int (nI md)]) (st := []) (a := 62) dX12_solves_130 kX12_solvesAt lX12_382 (by decide) rfl rfl (Nat.le_of_ble_eq_true rfl) ⟨Nat.le_of_ble_eq_true rfl, Nat.le_of_ble_eq_true rfl⟩ ⟨Nat.le_of_ble_eq_true rfl, Nat.le_of_ble_eq_true rfl⟩ rfl ⟨rfl, by decide⟩ (w_solvesAt (svI_s hS i1 i3) ((i1.2 5 (by decide)).trans hf) h6 h10 (mdI_s hm i1) hp hq hl (fun hw => dnS_J (h124 ▸ i4) hp hq hl hw)) ?_
      rintro r sh' I2 J2 ⟨rfl, rfl, ⟨hq1, hq2⟩, hq3, rfl⟩
      refine V_iincN (ls' := [(5, .int (nI ((stN p q l) + 1))), (0, .ref 62), (1, .int (nI md)), (2, .int j), (3, .int k), (4, .int (nI h))]) (n := 1) dX12_solves_133 rfl rfl (by decide) (by decide) rfl ?_
      refine V_goto (tgt := 107) dX12_solves_136 rfl ?_
      refine V_sub2 (ls' := [(0, .ref 62), (1, .int (nI md)), (2, .int j), (3, .int k), (4, .int (nI h)), (5, .int (nI ((stN p q l) + 1)))]) (List.forall_mem_cons.mpr ⟨rfl, List.forall_mem_cons.mpr ⟨rfl, List.forall_mem_cons.mpr ⟨rfl, List.forall_mem_cons.mpr ⟨rfl, List.forall_mem_cons.mpr ⟨rfl, List.forall_mem_cons.mpr ⟨rfl, fun _ h => absurd h List.not_mem_nil⟩⟩⟩⟩⟩⟩) ?_
      exact ih (stN p q l + 1) I2 _ (by omega) (offS_v i1 hq1) (fun b hb => (zwl_o hb).trans (i2 b hb)) hq3 (dnS_y i4 hq hl hq1 hq2)

set_option maxRecDepth 100000 in
set_option maxHeartbeats 4000000 in
theorem lp_solO {G : zG} {I0 : zI} {J0 : zJ} {Q : zQ} {a : List (Nat × List (Nat × Nat) × List (Nat × Nat))} {M : Nat → ((Nat → Int32) → Option Int32) × ((Nat → Int32) → Option Int32)} {ar : Nat → List (Nat × List (Nat × Nat) × List (Nat × Nat))} {Mr : Nat → Nat → ((Nat → Int32) → Option Int32) × ((Nat → Int32) → Option Int32)} (hS : svI I0 a M ar Mr) {far : Nat} (hf : I0 62 5 = nI far) (h6 : 6 ≤ far) (h10 : far ≤ 10) {md : Nat} (hmd : md < 2 ^ 31) {kd one two j k : Int32} (hm : mdI I0 md kd one two) (K : ∀ (I1 : zI) (J1 : zJ), offS I0 I1 → (∀ b, b ≠ 83 → J1 b = J0 b) → chA I1 (lfM a M) → sgV kd one two (rlM ar Mr) (lfM a M) far I1 J1 → Q none zsh I1 J1) : ∀ n h (I1 : zI) (J1 : zJ), h + n = 7 → offS I0 I1 → (∀ b, b ≠ 83 → J1 b = J0 b) → chA I1 (lfM a M) → dnS kd one two (rlM ar Mr) (lfM a M) far I1 J1 h 0 → V G mX12_solves 8 Q 97 [(0, .ref 62), (1, .int (nI md)), (2, .int j), (3, .int k), (4, .int (nI h))] [] (0, 0) zsh I1 J1 := by
  intro n
  induction n with
  | zero =>
    intro h I1 J1 hsn i1 i2 i3 i4
    have hs : h = 7 := by omega
    refine V_iload dX12_solves_97 rfl ?_
    refine V_bipush (v := nI 6) dX12_solves_99 rfl ?_
    refine V_icmp_gtN (tgt := 145) dX12_solves_101 rfl (by omega) (by omega) (fun _ => ?_) (fun h => absurd h (by omega))
    exact V_ret ⟨rfl, dX12_solves_145⟩ ⟨Nat.le_of_ble_eq_true rfl, Nat.le_of_ble_eq_true rfl⟩ (K I1 J1 i1 i2 i3 (dnS_7 (hs ▸ i4)))
  | succ n ih =>
    intro h I1 J1 hsn i1 i2 i3 i4
    refine V_iload dX12_solves_97 rfl ?_
    refine V_bipush (v := nI 6) dX12_solves_99 rfl ?_
    refine V_icmp_gtN (tgt := 145) dX12_solves_101 rfl (by omega) (by omega) (fun h => absurd h (by omega)) (fun _ => ?_)
    refine V_iconst (v := nI 0) dX12_solves_104 rfl ?_
    refine V_istore (ls' := [(5, .int (nI 0)), (0, .ref 62), (1, .int (nI md)), (2, .int j), (3, .int k), (4, .int (nI h))]) dX12_solves_105 (by decide) rfl ?_
    refine V_sub2 (ls' := [(0, .ref 62), (1, .int (nI md)), (2, .int j), (3, .int k), (4, .int (nI h)), (5, .int (nI 0))]) (List.forall_mem_cons.mpr ⟨rfl, List.forall_mem_cons.mpr ⟨rfl, List.forall_mem_cons.mpr ⟨rfl, List.forall_mem_cons.mpr ⟨rfl, List.forall_mem_cons.mpr ⟨rfl, List.forall_mem_cons.mpr ⟨rfl, fun _ h => absurd h List.not_mem_nil⟩⟩⟩⟩⟩⟩) ?_
    exact lp_solI hS hf h6 h10 hmd hm (by omega) (fun I2 J2 g1 g2 g3 g4 => ih (h + 1) I2 J2 (by omega) g1 g2 g3 g4) 6272 0 I1 J1 (by omega) i1 i2 i3 i4

def soK (Rl : Nat → Nat → (Nat → Int32) → Int32) (Lf : Nat → (Nat → Int32) → Int32) (I : zI) (J : zJ) : Prop := ¬ I 62 39 = 0 → ∃ fr, 6 ≤ fr ∧ fr ≤ 10 ∧ I 62 41 = nI fr ∧ ((I 62 40 = nI 0 ∧ sgV 1 (I 62 33) (I 62 34) Rl Lf fr I J) ∨ (I 62 40 = nI 2 ∧ sgV 2 (I 62 42) 0 Rl Lf fr I J))
def slA (I : zI) (md : Nat) (kd j k one two : Int32) : Prop := (md = 0 ∧ kd = 1 ∧ ruX one ∧ ruX two ∧ j = one ∧ k = two) ∨ (md = 2 ∧ kd = 2 ∧ I 62 35 = one ∧ j = -1 ∧ k = -1 ∧ two = 0)
def offW (I I' : zI) : Prop := (∀ a, a ≠ 62 → a ≠ 79 → a ≠ 80 → a ≠ 81 → a ≠ 82 → a ≠ 85 → I' a = I a) ∧ ∀ k, k < 32 ∨ k = 36 ∨ k = 37 ∨ k = 38 ∨ 42 < k → k ≠ 5 → I' 62 k = I 62 k
theorem offW_t {A B C : zI} (h : offW A B) (h2 : offW B C) : offW A C := ⟨fun a h1 h3 h4 h5 h6 h7 => (h2.1 a h1 h3 h4 h5 h6 h7).trans (h.1 a h1 h3 h4 h5 h6 h7), fun k hk h5 => (h2.2 k hk h5).trans (h.2 k hk h5)⟩
theorem offW_r {I : zI} : offW I I := ⟨fun _ _ _ _ _ _ _ => rfl, fun _ _ _ => rfl⟩
theorem offW_s {A B C : zI} (h : offW A B) (h2 : offS B C) : offW A C := ⟨fun a h1 h3 h4 h5 h6 h7 => (h2.1 a h1 h3 h4 h5 h6 h7).trans (h.1 a h1 h3 h4 h5 h6 h7), fun k hk h5 => (h2.2 k (by omega)).trans (h.2 k hk h5)⟩
theorem offW_z {A B : zI} {k : Nat} {x : Int32} (h : offW A B) (hk : k = 5 ∨ 32 ≤ k ∧ k ≤ 35 ∨ 39 ≤ k ∧ k ≤ 42) : offW A (zwr B 62 k x) := ⟨fun a h1 h3 h4 h5 h6 h7 => by
  rw [← h.1 a h1 h3 h4 h5 h6 h7]
  funext i
  simp [zwr_at, h1], fun i hi h5 => by
  rw [← h.2 i hi h5]
  have : i ≠ k := by omega
  simp [zwr_at, this]⟩
theorem svI_w {I I' : zI} {a : List (Nat × List (Nat × Nat) × List (Nat × Nat))} {M : Nat → ((Nat → Int32) → Option Int32) × ((Nat → Int32) → Option Int32)} {ar : Nat → List (Nat × List (Nat × Nat) × List (Nat × Nat))} {Mr : Nat → Nat → ((Nat → Int32) → Option Int32) × ((Nat → Int32) → Option Int32)} (h : svI I a M ar Mr) (e : offW I I') (hc : chA I' (lfM a M)) : svI I' a M ar Mr := by
  have e2 : ∀ k, 73 ≤ k → k ≤ 78 → I' k = I k := fun k h1 h2 => e.1 k (by omega) (by omega) (by omega) (by omega) (by omega) (by omega)
  exact ⟨mT_c h.1 (e.1 63 (by decide) (by decide) (by decide) (by decide) (by decide) (by decide)) (e.1 64 (by decide) (by decide) (by decide) (by decide) (by decide) (by decide)) (e.1 65 (by decide) (by decide) (by decide) (by decide) (by decide) (by decide)), mpI_c h.2.1 e2, fun k hk => ⟨mpI_c (h.2.2.1 k hk).1 e2, (h.2.2.1 k hk).2⟩, hc⟩
theorem nI0_2 : ¬ nI 0 = nI 2 := by decide
theorem soK_hit {Rl : Nat → Nat → (Nat → Int32) → Int32} {Lf : Nat → (Nat → Int32) → Int32} {I : zI} {J : zJ} {md far : Nat} {kd j k one two : Int32} (hK : soK Rl Lf I J) (h39 : ¬ I 62 39 = 0) (h40 : I 62 40 = nI md) (h33 : I 62 33 = j) (h34 : I 62 34 = k) (h41 : I 62 41 = I 62 5) (h42 : md = 0 ∨ I 62 42 = I 62 35) (hm : slA I md kd j k one two) (hf : I 62 5 = nI far) (h10 : far ≤ 10) : sgV kd one two Rl Lf far I J := by
  obtain ⟨fr, g1, g2, g3, g4⟩ := hK h39
  have e : fr = far := (nI_eq (by omega) (by omega)).mp (g3.symm.trans (h41.trans hf))
  subst e
  rcases hm with ⟨rfl, rfl, _, _, rfl, rfl⟩ | ⟨rfl, rfl, h35, _, _, rfl⟩
  · rcases g4 with ⟨_, g5⟩ | ⟨g5, _⟩
    · rw [h33, h34] at g5
      exact g5
    · exact absurd (h40.symm.trans g5) nI0_2
  · rcases g4 with ⟨g5, _⟩ | ⟨_, g5⟩
    · exact absurd (g5.symm.trans h40) nI0_2
    · rw [(h42.resolve_left (by decide)).trans h35] at g5
      exact g5
set_option maxRecDepth 100000 in
set_option maxHeartbeats 4000000 in
theorem lp_sol58 {G : zG} {I : zI} {J : zJ} {a : List (Nat × List (Nat × Nat) × List (Nat × Nat))} {M : Nat → ((Nat → Int32) → Option Int32) × ((Nat → Int32) → Option Int32)} {ar : Nat → List (Nat × List (Nat × Nat) × List (Nat × Nat))} {Mr : Nat → Nat → ((Nat → Int32) → Option Int32) × ((Nat → Int32) → Option Int32)} (hS : svI I a M ar Mr) {far : Nat} (hf : I 62 5 = nI far) (h6 : 6 ≤ far) (h10 : far ≤ 10) {md : Nat} {kd one two j k : Int32} (hm : slA I md kd j k one two)  : V G mX12_solves 8 (zP (fun r I' J' => r = none ∧ sgV kd one two (rlM ar Mr) (lfM a M) far I' J' ∧ offW I I' ∧ soK (rlM ar Mr) (lfM a M) I' J' ∧ chA I' (lfM a M) ∧ I' 62 5 = nI far ∧ ∀ b, b ≠ 83 → J' b = J b)) 58 [(0, .ref 62), (1, .int (nI md)), (2, .int j), (3, .int k)] [] (0, 0) zsh I J := by
  have hmd : md < 2 ^ 31 := by rcases hm with ⟨rfl, _⟩ | ⟨rfl, _⟩ <;> decide
  refine V_aload_n dX12_solves_58 rfl ?_
  refine V_iconst (v := nI 1) dX12_solves_59 rfl ?_
  refine V_putW dX12_solves_60 fX12_312 ⟨Nat.le_of_ble_eq_true rfl, Nat.le_of_ble_eq_true rfl⟩ rfl rfl rfl ⟨rfl, rfl⟩ ?_
  refine V_aload_n dX12_solves_63 rfl ?_
  refine V_iload_n dX12_solves_64 rfl ?_
  refine V_putW dX12_solves_65 fX12_373 ⟨Nat.le_of_ble_eq_true rfl, Nat.le_of_ble_eq_true rfl⟩ rfl rfl rfl ⟨rfl, rfl⟩ ?_
  refine V_aload_n dX12_solves_68 rfl ?_
  refine V_aload_n dX12_solves_69 rfl ?_
  refine V_getI dX12_solves_70 fX12_143 ⟨Nat.le_of_ble_eq_true rfl, Nat.le_of_ble_eq_true rfl⟩ rfl rfl ?_
  refine V_eqI (y := I 62 5) rfl ?_
  refine V_eqI (y := nI far) hf ?_
  refine V_putW dX12_solves_73 fX12_376 ⟨Nat.le_of_ble_eq_true rfl, Nat.le_of_ble_eq_true rfl⟩ rfl rfl rfl ⟨rfl, rfl⟩ ?_
  refine V_aload_n dX12_solves_76 rfl ?_
  refine V_aload_n dX12_solves_77 rfl ?_
  refine V_getI dX12_solves_78 fX12_353 ⟨Nat.le_of_ble_eq_true rfl, Nat.le_of_ble_eq_true rfl⟩ rfl rfl ?_
  refine V_eqI (y := I 62 35) rfl ?_
  refine V_putW dX12_solves_81 fX12_379 ⟨Nat.le_of_ble_eq_true rfl, Nat.le_of_ble_eq_true rfl⟩ rfl rfl rfl ⟨rfl, rfl⟩ ?_
  refine V_aload_n dX12_solves_84 rfl ?_
  refine V_iload_n dX12_solves_85 rfl ?_
  refine V_putW dX12_solves_86 fX12_360 ⟨Nat.le_of_ble_eq_true rfl, Nat.le_of_ble_eq_true rfl⟩ rfl rfl rfl ⟨rfl, rfl⟩ ?_
  refine V_aload_n dX12_solves_89 rfl ?_
  refine V_iload_n dX12_solves_90 rfl ?_
  refine V_putW dX12_solves_91 fX12_363 ⟨Nat.le_of_ble_eq_true rfl, Nat.le_of_ble_eq_true rfl⟩ rfl rfl rfl ⟨rfl, rfl⟩ ?_
  refine V_iconst (v := nI 0) dX12_solves_94 rfl ?_
  refine V_istore (ls' := [(4, .int (nI 0)), (0, .ref 62), (1, .int (nI md)), (2, .int j), (3, .int k)]) dX12_solves_95 (by decide) rfl ?_
  refine V_sub2 (ls' := [(0, .ref 62), (1, .int (nI md)), (2, .int j), (3, .int k), (4, .int (nI 0))]) (List.forall_mem_cons.mpr ⟨rfl, List.forall_mem_cons.mpr ⟨rfl, List.forall_mem_cons.mpr ⟨rfl, List.forall_mem_cons.mpr ⟨rfl, List.forall_mem_cons.mpr ⟨rfl, fun _ h => absurd h List.not_mem_nil⟩⟩⟩⟩⟩) ?_
  have hW : offW I (zwr (zwr (zwr (zwr (zwr (zwr I 62 39 (nI 1)) 62 40 (nI md)) 62 41 (nI far)) 62 42 (I 62 35)) 62 33 j) 62 34 k) := offW_z (offW_z (offW_z (offW_z (offW_z (offW_z offW_r (by omega)) (by omega)) (by omega)) (by omega)) (by omega)) (by omega)
  have hc2 := chA_c (I' := zwr (zwr (zwr (zwr (zwr (zwr I 62 39 (nI 1)) 62 40 (nI md)) 62 41 (nI far)) 62 42 (I 62 35)) 62 33 j) 62 34 k) hS.2.2.2 rfl rfl
  have hm2 : mdI (zwr (zwr (zwr (zwr (zwr (zwr I 62 39 (nI 1)) 62 40 (nI md)) 62 41 (nI far)) 62 42 (I 62 35)) 62 33 j) 62 34 k) md kd one two := hm.imp (fun ⟨e1, e2, e3, e4, e5, e6⟩ => ⟨e1, e2, e3, e4, e5, e6⟩) (fun ⟨e1, e2, e3, e4, e5, e6⟩ => ⟨e1, e2, e3, e4, e5⟩)
  refine lp_solO (svI_w hS hW hc2) (show (zwr (zwr (zwr (zwr (zwr (zwr I 62 39 (nI 1)) 62 40 (nI md)) 62 41 (nI far)) 62 42 (I 62 35)) 62 33 j) 62 34 k) 62 5 = nI far from hf) h6 h10 hmd hm2 (fun I1 J1 g1 g2 g3 g4 => ?_) 7 0 _ J (by omega) offS_r (fun _ _ => rfl) hc2 dnS_z
  refine ⟨rfl, rfl, g4, offW_s hW g1, fun _ => ⟨far, h6, h10, g1.2 41 (by decide), ?_⟩, g3, (g1.2 5 (by decide)).trans hf, g2⟩
  have e42 : (zwr (zwr (zwr (zwr (zwr (zwr I 62 39 (nI 1)) 62 40 (nI md)) 62 41 (nI far)) 62 42 (I 62 35)) 62 33 j) 62 34 k) 62 42 = I 62 35 := rfl
  rcases hm with ⟨rfl, rfl, _, _, rfl, rfl⟩ | ⟨rfl, rfl, h35, _, _, rfl⟩
  · refine Or.inl ⟨g1.2 40 (by decide), ?_⟩
    rw [g1.2 33 (by decide), g1.2 34 (by decide)]
    exact g4
  · refine Or.inr ⟨g1.2 40 (by decide), ?_⟩
    rw [g1.2 42 (by decide), e42, h35]
    exact g4

set_option maxRecDepth 100000 in
set_option maxHeartbeats 4000000 in
theorem w_solves {G : zG} {I : zI} {J : zJ} {a : List (Nat × List (Nat × Nat) × List (Nat × Nat))} {M : Nat → ((Nat → Int32) → Option Int32) × ((Nat → Int32) → Option Int32)} {ar : Nat → List (Nat × List (Nat × Nat) × List (Nat × Nat))} {Mr : Nat → Nat → ((Nat → Int32) → Option Int32) × ((Nat → Int32) → Option Int32)} (hS : svI I a M ar Mr) {far : Nat} (hf : I 62 5 = nI far) (h6 : 6 ≤ far) (h10 : far ≤ 10) {md : Nat} {kd one two j k : Int32} (hm : slA I md kd j k one two) (hK : soK (rlM ar Mr) (lfM a M) I J) : zK G mX12_solves 8 [.ref 62, .int (nI md), .int j, .int k] zsh I J (zP (fun r I' J' => r = none ∧ sgV kd one two (rlM ar Mr) (lfM a M) far I' J' ∧ offW I I' ∧ soK (rlM ar Mr) (lfM a M) I' J' ∧ chA I' (lfM a M) ∧ I' 62 5 = nI far ∧ ∀ b, b ≠ 83 → J' b = J b)) := by
  refine zK_of kX12_solves.2.2.2.2.1 (Nat.le_of_ble_eq_true rfl) ?_
  show V G mX12_solves 8 _ 0 [(0, .ref 62), (1, .int (nI md)), (2, .int j), (3, .int k)] [] (0, 0) zsh I J
  have hmd : md < 2 ^ 31 := by rcases hm with ⟨rfl, _⟩ | ⟨rfl, _⟩ <;> decide
  refine V_aload_n dX12_solves_0 rfl ?_
  refine V_getI dX12_solves_1 fX12_312 ⟨Nat.le_of_ble_eq_true rfl, Nat.le_of_ble_eq_true rfl⟩ rfl rfl ?_
  refine V_if_eq (tgt := 58) dX12_solves_4 rfl (fun h4 => ?_) (fun h4 => ?_)
  · skip
    exact lp_sol58 hS hf h6 h10 hm
  · skip
    refine V_aload_n dX12_solves_7 rfl ?_
    refine V_getI dX12_solves_8 fX12_373 ⟨Nat.le_of_ble_eq_true rfl, Nat.le_of_ble_eq_true rfl⟩ rfl rfl ?_
    refine V_iload_n dX12_solves_11 rfl ?_
    refine V_icmp_ne (tgt := 58) dX12_solves_12 rfl (fun h12 => ?_) (fun h12 => ?_)
    · skip
      exact lp_sol58 hS hf h6 h10 hm
    · skip
      refine V_aload_n dX12_solves_15 rfl ?_
      refine V_getI dX12_solves_16 fX12_360 ⟨Nat.le_of_ble_eq_true rfl, Nat.le_of_ble_eq_true rfl⟩ rfl rfl ?_
      refine V_iload_n dX12_solves_19 rfl ?_
      refine V_icmp_ne (tgt := 58) dX12_solves_20 rfl (fun h20 => ?_) (fun h20 => ?_)
      · skip
        exact lp_sol58 hS hf h6 h10 hm
      · skip
        refine V_aload_n dX12_solves_23 rfl ?_
        refine V_getI dX12_solves_24 fX12_363 ⟨Nat.le_of_ble_eq_true rfl, Nat.le_of_ble_eq_true rfl⟩ rfl rfl ?_
        refine V_iload_n dX12_solves_27 rfl ?_
        refine V_icmp_ne (tgt := 58) dX12_solves_28 rfl (fun h28 => ?_) (fun h28 => ?_)
        · skip
          exact lp_sol58 hS hf h6 h10 hm
        · skip
          refine V_aload_n dX12_solves_31 rfl ?_
          refine V_getI dX12_solves_32 fX12_376 ⟨Nat.le_of_ble_eq_true rfl, Nat.le_of_ble_eq_true rfl⟩ rfl rfl ?_
          refine V_aload_n dX12_solves_35 rfl ?_
          refine V_getI dX12_solves_36 fX12_143 ⟨Nat.le_of_ble_eq_true rfl, Nat.le_of_ble_eq_true rfl⟩ rfl rfl ?_
          refine V_icmp_ne (tgt := 58) dX12_solves_39 rfl (fun h39 => ?_) (fun h39 => ?_)
          · skip
            exact lp_sol58 hS hf h6 h10 hm
          · skip
            refine V_iload_n dX12_solves_42 rfl ?_
            refine V_if_eqN (tgt := 57) dX12_solves_43 rfl (by omega) (fun h43 => ?_) (fun h43 => ?_)
            · skip
              exact V_ret ⟨rfl, dX12_solves_57⟩ ⟨Nat.le_of_ble_eq_true rfl, Nat.le_of_ble_eq_true rfl⟩ ⟨rfl, rfl, soK_hit hK h4 h12 h20 h28 h39 (Or.inl h43) hm hf h10, offW_r, hK, hS.2.2.2, hf, fun _ _ => rfl⟩
            · skip
              refine V_aload_n dX12_solves_46 rfl ?_
              refine V_getI dX12_solves_47 fX12_379 ⟨Nat.le_of_ble_eq_true rfl, Nat.le_of_ble_eq_true rfl⟩ rfl rfl ?_
              refine V_aload_n dX12_solves_50 rfl ?_
              refine V_getI dX12_solves_51 fX12_353 ⟨Nat.le_of_ble_eq_true rfl, Nat.le_of_ble_eq_true rfl⟩ rfl rfl ?_
              refine V_icmp_ne (tgt := 58) dX12_solves_54 rfl (fun h54 => ?_) (fun h54 => ?_)
              · skip
                exact lp_sol58 hS hf h6 h10 hm
              · skip
                exact V_ret ⟨rfl, dX12_solves_57⟩ ⟨Nat.le_of_ble_eq_true rfl, Nat.le_of_ble_eq_true rfl⟩ ⟨rfl, rfl, soK_hit hK h4 h12 h20 h28 h39 (Or.inr h54) hm hf h10, offW_r, hK, hS.2.2.2, hf, fun _ _ => rfl⟩

