/-! THE MODEL: its reader: a C, all of it -/
def cnk (s j t : Nat) : List (Nat × Nat) := (if j = 0 then [] else [(11, s + (j - 1))]) ++ (if t = 0 then [] else [(12, s + (t - 1))])
def mdl (j t : Nat) (acc : List (Nat × Nat)) : List (Nat × Nat) := lset (lset acc t (4, 0)) j (3, 0)
theorem cnk_s {s j t : Nat} : cnk s (j + 1) t = (11, s + j) :: cnk s 0 t := rfl
theorem cnk_t {s t : Nat} : cnk s 0 (t + 1) = [(12, s + t)] := rfl
theorem cnk_0 {s : Nat} : cnk s 0 0 = [] := rfl
theorem lset_0 {l : List (Nat × Nat)} {c : Nat × Nat} : lset l 0 c = l := rfl
theorem lset_s {l : List (Nat × Nat)} {k : Nat} {c : Nat × Nat} : lset l (k + 1) c = l.set k c := rfl
theorem lset_app {l g : List (Nat × Nat)} {j : Nat} {c : Nat × Nat} (h : j ≤ l.length) : lset (l ++ g) j c = lset l j c ++ g := by
  cases j with
  | zero => rfl
  | succ j => rw [lset_s, lset_s]; exact List.set_append_left j c (by omega)
theorem mdl_len {j t : Nat} {acc : List (Nat × Nat)} : (mdl j t acc).length = acc.length := by unfold mdl; rw [lset_len, lset_len]
theorem mdl_app {j t : Nat} {acc g : List (Nat × Nat)} (h : j ≤ acc.length) (h2 : t ≤ acc.length) : mdl j t (acc ++ g) = mdl j t acc ++ g := by
  unfold mdl
  rw [lset_app h2, lset_app (by rw [lset_len]; exact h)]
theorem set_C {C g : List (Nat × Nat)} {i : Nat} {c : Nat × Nat} : (C ++ g).set (C.length + i) c = C ++ g.set i c := by
  rw [List.set_append_right (C.length + i) c (by omega), Nat.add_sub_cancel_left]
theorem set2 {l : List (Nat × Nat)} {i : Nat} {c d : Nat × Nat} : (l.set i c).set i d = l.set i d := List.set_set c
theorem cnd1_0 {s : Nat} {g : List (Nat × Nat)} : cnd1 s 0 g = g := rfl
theorem cnd2_0 {s : Nat} {g : List (Nat × Nat)} : cnd2 s 0 g = g := rfl
theorem cnd1_len {s j : Nat} {g : List (Nat × Nat)} : (cnd1 s j g).length = g.length := lset_len
theorem cnd2_len {s j : Nat} {g : List (Nat × Nat)} : (cnd2 s j g).length = g.length := lset_len
/-- what '&' waited behind lands -/
theorem mdl_j {C acc : List (Nat × Nat)} {j t : Nat} (h : t < j + 1) : (C ++ mdl (j + 1) t acc).set (C.length + j) (3, (C ++ mdl (j + 1) t acc).length) = C ++ mdl 0 t (cnd1 C.length (j + 1) acc) := by
  rw [set_C, List.length_append, mdl_len]
  congr 1
  unfold mdl cnd1
  rw [lset_s, lset_s, set2, lset_0]
  cases t with
  | zero => rfl
  | succ t => rw [lset_s, lset_s]; exact List.set_comm _ _ (by omega)
theorem mdl_t {C acc : List (Nat × Nat)} {t : Nat} : (C ++ mdl 0 (t + 1) acc).set (C.length + t) (4, (C ++ mdl 0 (t + 1) acc).length) = C ++ cnd2 C.length (t + 1) acc := by
  rw [set_C, List.length_append, mdl_len]
  congr 1
  unfold mdl cnd2
  rw [lset_s, lset_s, lset_0, set2]
theorem lnd_n0 {C cs st : List (Nat × Nat)} {t : Nat} : lndS 0 (cnk C.length 0 t ++ (13, 0) :: st) cs = (cnk C.length 0 t ++ (13, 0) :: st, cs) := by
  cases t with
  | zero => exact lndS_n (by decide)
  | succ t => exact lndS_n (show ¬ (12 = 11 ∨ 0 = 1 ∧ 12 = 12) by decide)
theorem lnd_0 {C acc st : List (Nat × Nat)} {j t : Nat} (h : j = 0 ∨ t < j) : lndS 0 (cnk C.length j t ++ (13, 0) :: st) (C ++ mdl j t acc) = (cnk C.length 0 t ++ (13, 0) :: st, C ++ mdl 0 t (cnd1 C.length j acc)) := by
  cases j with
  | zero => exact lnd_n0
  | succ j =>
    rw [cnk_s, List.cons_append, lndS_y (Or.inl rfl)]
    show lndS 0 _ ((C ++ mdl (j + 1) t acc).set (C.length + j) (3, (C ++ mdl (j + 1) t acc).length)) = _
    rw [mdl_j (by omega)]
    exact lnd_n0
theorem lnd_1t {C acc st : List (Nat × Nat)} {t : Nat} : lndS 1 (cnk C.length 0 t ++ (13, 0) :: st) (C ++ mdl 0 t acc) = ((13, 0) :: st, C ++ cnd2 C.length t acc) := by
  cases t with
  | zero => exact lndS_n (by decide)
  | succ t =>
    rw [cnk_t, List.singleton_append, lndS_y (Or.inr ⟨rfl, rfl⟩)]
    show lndS 1 _ ((C ++ mdl 0 (t + 1) acc).set (C.length + t) (4, (C ++ mdl 0 (t + 1) acc).length)) = _
    rw [mdl_t]
    exact lndS_n (by decide)
theorem lnd_1 {C acc st : List (Nat × Nat)} {j t : Nat} (h : j = 0 ∨ t < j) : lndS 1 (cnk C.length j t ++ (13, 0) :: st) (C ++ mdl j t acc) = ((13, 0) :: st, C ++ cnd2 C.length t (cnd1 C.length j acc)) := by
  cases j with
  | zero => exact lnd_1t
  | succ j =>
    rw [cnk_s, List.cons_append, lndS_y (Or.inl rfl)]
    show lndS 1 _ ((C ++ mdl (j + 1) t acc).set (C.length + j) (3, (C ++ mdl (j + 1) t acc).length)) = _
    rw [mdl_j (by omega)]
    exact lnd_1t
theorem lnd_K13 {b : Nat} {cs st : List (Nat × Nat)} : lndK b ((13, 0) :: st) cs := fun h => absurd h (show ¬ (13 = 11 ∨ b = 1 ∧ 13 = 12) by omega)
theorem lnd_Kt {b : Nat} {C acc st : List (Nat × Nat)} {t : Nat} (h : t ≤ acc.length) : lndK b (cnk C.length 0 t ++ (13, 0) :: st) (C ++ mdl 0 t acc) := by
  cases t with
  | zero => exact lnd_K13
  | succ t =>
    rw [cnk_t, List.singleton_append]
    refine fun _ => ⟨⟨0, by decide, ?_⟩, lnd_K13⟩
    show (C ++ mdl 0 (t + 1) acc)[C.length + t]? = some (4, 0)
    rw [List.getElem?_append_right (by omega), Nat.add_sub_cancel_left]
    show (acc.set t (4, 0))[t]? = _
    exact List.getElem?_set_self (by omega)
theorem lnd_K {b : Nat} {C acc st : List (Nat × Nat)} {j t : Nat} (h : j = 0 ∨ t < j) (hj : j ≤ acc.length) (ht : t ≤ acc.length) : lndK b (cnk C.length j t ++ (13, 0) :: st) (C ++ mdl j t acc) := by
  cases j with
  | zero => exact lnd_Kt ht
  | succ j =>
    rw [cnk_s, List.cons_append]
    refine fun _ => ⟨⟨0, by decide, ?_⟩, ?_⟩
    · show (C ++ mdl (j + 1) t acc)[C.length + j]? = some (3, 0)
      rw [List.getElem?_append_right (by omega), Nat.add_sub_cancel_left]
      show ((lset acc t (4, 0)).set j (3, 0))[j]? = _
      exact List.getElem?_set_self (by rw [lset_len]; omega)
    · show lndK b _ ((C ++ mdl (j + 1) t acc).set (C.length + j) (3, (C ++ mdl (j + 1) t acc).length))
      rw [mdl_j (by omega)]
      exact lnd_Kt (by rw [cnd1_len]; exact ht)
theorem cnk_no {s j t : Nat} {st : List (Nat × Nat)} : noSg (cnk s j t ++ (13, 0) :: st) := by
  intro x hx
  cases j with
  | zero =>
    cases t with
    | zero => have e : (13, 0) = x := Option.some.inj hx; subst e; decide
    | succ t => have e : (12, s + t) = x := Option.some.inj hx; subst e; show ¬ (2 ≤ 12 ∧ 12 ≤ 6); decide
  | succ j => have e : (11, s + j) = x := Option.some.inj hx; subst e; show ¬ (2 ≤ 11 ∧ 11 ≤ 6); decide
theorem cnk_opn {s j t : Nat} {st : List (Nat × Nat)} : opn (cnk s j t ++ (13, 0) :: st) = opn st + 1 := by
  have e : opn ((13, 0) :: st) = opn st + 1 := opn_y (x := (13, 0)) (by decide)
  have e2 : opn (cnk s 0 t ++ (13, 0) :: st) = opn st + 1 := by
    cases t with
    | zero => exact e
    | succ t => rw [cnk_t, List.singleton_append, opn_n (x := (12, s + t)) (by show ¬ (12 = 10 ∨ 12 = 13 ∨ 12 = 14); decide)]; exact e
  cases j with
  | zero => exact e2
  | succ j => rw [cnk_s, List.cons_append, opn_n (x := (11, s + j)) (by show ¬ (11 = 10 ∨ 11 = 13 ∨ 11 = 14); decide)]; exact e2
theorem cnk_end {s j t : Nat} {st cs : List (Nat × Nat)} : endS (cnk s j t ++ (13, 0) :: st) cs = (cnk s j t ++ (13, 0) :: st, cs) := by
  cases j with
  | zero =>
    cases t with
    | zero => exact endS_n (by decide)
    | succ t => exact endS_n (show ¬ 12 = 10 by decide)
  | succ j => exact endS_n (show ¬ 11 = 10 by decide)
theorem cnk_len {s j t : Nat} {st : List (Nat × Nat)} : 1 ≤ (cnk s j t ++ (13, 0) :: st).length := by rw [List.length_append]; show 1 ≤ _ + (_ + 1); omega
/-- behind '&' -/
theorem mdl_and {C A : List (Nat × Nat)} {t m : Nat} (ht : t ≤ A.length) (hm : m = A.length) : (C ++ mdl 0 t A) ++ [(3, 0)] = C ++ mdl (m + 1) t (A ++ [(0, 0)]) := by
  subst hm
  unfold mdl
  rw [lset_0, lset_app ht, lset_s, List.append_assoc]
  congr 1
  have e := set_mid (X := lset A t (4, 0)) (Y := []) (z := (0, 0)) (c := (3, 0)) (k := A.length) lset_len.symm
  rw [List.append_nil, List.append_nil] at e
  exact e.symm
theorem mdl_or {C A : List (Nat × Nat)} {m : Nat} (hm : m = A.length) : (C ++ A) ++ [(4, 0)] = C ++ mdl 0 (m + 1) (A ++ [(0, 0)]) := by
  subst hm
  unfold mdl
  rw [lset_0, lset_s, List.append_assoc]
  congr 1
  have e := set_mid (X := A) (Y := []) (z := (0, 0)) (c := (4, 0)) (k := A.length) rfl
  rw [List.append_nil, List.append_nil] at e
  exact e.symm
section
variable {G : zG} {I0 : zI} {J : zJ} {Q : zQ} {n : Nat} {tx : Nat → Nat}
/-- what goes on where a C ends -/
def rdCc (G : zG) (J : zJ) (Q : zQ) (n : Nat) (I0 : zI) (tx : Nat → Nat) (r : Nat × Nat × List (Nat × Nat)) (st C : List (Nat × Nat)) : Prop := (r.1 ≠ 0 → smFl J Q I0 r.1 r.2.1) ∧ (r.1 = 0 → ∀ j t acc, j ≤ acc.length → t ≤ acc.length → (j = 0 ∨ t < j) → r.2.2 = cnd2 C.length t (cnd1 C.length j acc) → ¬ sgn tx n r.2.1 = 38 → ¬ sgn tx n r.2.1 = 124 → rdAc G J Q n I0 r.2.1 (cnk C.length j t ++ (13, 0) :: st) (C ++ mdl j t acc))
/-- what goes on where a piece ends -/
def rdKc (G : zG) (J : zJ) (Q : zQ) (n : Nat) (I0 : zI) (r : Nat × Nat × List (Nat × Nat)) (st cs : List (Nat × Nat)) : Prop := (r.1 ≠ 0 → smFl J Q I0 r.1 r.2.1) ∧ (r.1 = 0 → rdAc G J Q n I0 r.2.1 (endS st (cs ++ r.2.2)).1 (endS st (cs ++ r.2.2)).2)
theorem rdAc_e {q : Nat} {st st2 cs cs2 : List (Nat × Nat)} (h : rdAc G J Q n I0 q st cs) (h1 : st = st2) (h2 : cs = cs2) : rdAc G J Q n I0 q st2 cs2 := by subst h1 h2; exact h
theorem rdPc_e {q : Nat} {st st2 cs cs2 : List (Nat × Nat)} (h : rdPc G J Q n I0 q st cs) (h1 : st = st2) (h2 : cs = cs2) : rdPc G J Q n I0 q st2 cs2 := by subst h1 h2; exact h
theorem cnd_loop (hx : txW I0 tx n) {e : Nat} {st C : List (Nat × Nat)} (hP : ∀ p st cs, 1 ≤ p → p ≤ n → opn st + e = 6 → noSg st → 1 ≤ st.length → rdKc G J Q n I0 (pPce tx n e p cs.length) st cs → rdPc G J Q n I0 p st cs) (he : opn st + 1 + e = 6) : ∀ k p j t acc, n < p + k → 1 ≤ p → p ≤ n → j ≤ acc.length → t ≤ acc.length → (j = 0 ∨ t < j) → rdCc G J Q n I0 tx (pCndL tx n (pPce tx n e) k p C.length j t acc) st C → rdPc G J Q n I0 p (cnk C.length j t ++ (13, 0) :: st) (C ++ mdl j t acc) := by
  intro k
  induction k with
  | zero => intros; omega
  | succ k ih =>
    intro p j t acc hk hp1 hpn hj ht hjt hC
    obtain ⟨fc, q, g, hr⟩ := ex3 (pPce tx n e p (C.length + acc.length))
    have hln := pPce_len (tx := tx) (n := n) e p (C.length + acc.length)
    rw [hr] at hln
    refine hP p _ _ hp1 hpn (by rw [cnk_opn]; exact he) cnk_no cnk_len ?_
    rw [List.length_append, mdl_len, hr]
    refine ⟨fun h0 => ?_, fun h0 => ?_⟩
    · unfold pCndL at hC
      rw [hr, if_pos h0] at hC
      exact hC.1 h0
    · have h0' : fc = 0 := h0
      subst h0'
      have hq : p + g.length ≤ q := hln rfl
      have hjg : j ≤ (acc ++ g).length := by rw [List.length_append]; omega
      have htg : t ≤ (acc ++ g).length := by rw [List.length_append]; omega
      refine rdAc_e (st := cnk C.length j t ++ (13, 0) :: st) (cs := C ++ mdl j t (acc ++ g)) ?_ (by rw [cnk_end]) (by rw [cnk_end]; show _ = C ++ mdl j t acc ++ g; rw [mdl_app hj ht, List.append_assoc])
      unfold pCndL at hC
      rw [hr, if_neg (fun h => h rfl)] at hC
      by_cases c1 : sgn tx n q = 38
      · rw [if_pos c1] at hC
        have hqn : q < n := sgn_ltn (tx := tx) (by omega)
        have hA : (cnd1 C.length j (acc ++ g)).length = (acc ++ g).length := cnd1_len
        have hA2 : (cnd1 C.length j (acc ++ g) ++ [(0, 0)]).length = (acc ++ g).length + 1 := by rw [List.length_append (as := cnd1 C.length j (acc ++ g)), hA]; rfl
        refine cd_jump0 hx c1 (lnd_K hjt hjg htg) (lnd_0 hjt) ?_
        refine rdPc_e (ih (q + 1) ((acc ++ g).length + 1) t (cnd1 C.length j (acc ++ g) ++ [(0, 0)]) (by omega) (by omega) hqn (Nat.le_of_eq hA2.symm) (by omega) (Or.inr (by omega)) hC) ?_ ?_
        · rw [cnk_s, List.length_append (as := C), mdl_len, hA]; rfl
        · exact (mdl_and (by rw [hA]; exact htg) hA.symm).symm
      · rw [if_neg c1] at hC
        by_cases c2 : sgn tx n q = 124
        · rw [if_pos c2] at hC
          have hqn : q < n := sgn_ltn (tx := tx) (by omega)
          have hA : (cnd2 C.length t (cnd1 C.length j (acc ++ g))).length = (acc ++ g).length := cnd2_len.trans cnd1_len
          have hA2 : (cnd2 C.length t (cnd1 C.length j (acc ++ g)) ++ [(0, 0)]).length = (acc ++ g).length + 1 := by rw [List.length_append (as := cnd2 C.length t (cnd1 C.length j (acc ++ g))), hA]; rfl
          refine cd_jump1 hx c2 (lnd_K hjt hjg htg) (lnd_1 hjt) ?_
          refine rdPc_e (ih (q + 1) 0 ((acc ++ g).length + 1) (cnd2 C.length t (cnd1 C.length j (acc ++ g)) ++ [(0, 0)]) (by omega) (by omega) hqn (Nat.zero_le _) (Nat.le_of_eq hA2.symm) (Or.inl rfl) hC) ?_ ?_
          · rw [cnk_t, List.length_append (as := C), hA]; rfl
          · exact (mdl_or hA.symm).symm
        · rw [if_neg c2] at hC
          exact hC.2 rfl j t (acc ++ g) hjg htg hjt rfl c1 c2
theorem pce_all (hx : txW I0 tx n) (hn : n ≤ 240) : ∀ e p st cs, 1 ≤ p → p ≤ n → opn st + e = 6 → noSg st → 1 ≤ st.length → rdKc G J Q n I0 (pPce tx n e p cs.length) st cs → rdPc G J Q n I0 p st cs := by
  intro e
  induction e with
  | zero =>
    intro p st cs hp1 hpn he hno hst hK
    by_cases h1 : sgn tx n p = 33
    · rw [pPce_n0 h1] at hK
      exact cd_full_n hx h1 (by omega) (hK.1 (Nat.succ_ne_zero _))
    · by_cases h2 : sgn tx n p = 40
      · rw [pPce_o0 h1 h2] at hK
        exact cd_full_o hx h2 (by omega) (hK.1 (Nat.succ_ne_zero _))
      · rw [pPce_c0 h1 h2] at hK
        exact cd_cmp hx h1 h2 he hno hp1 hK.1 hK.2
  | succ e ih =>
    intro p st cs hp1 hpn he hno hst hK
    by_cases h1 : sgn tx n p = 33
    · have hp2 : p < n := sgn_ltn (tx := tx) (by omega)
      rw [pPce_n h1] at hK
      refine cd_open_n hx h1 (by omega) (ih (p + 1) _ cs (by omega) hp2 (by rw [opn_y (x := (10, 0)) (by decide)]; omega) (fun x hx => by have e : (10, 0) = x := Option.some.inj hx; subst e; decide) (by show 1 ≤ _ + 1; omega) ?_)
      obtain ⟨fc, q, g, hr⟩ := ex3 (pPce tx n e (p + 1) cs.length)
      rw [hr] at hK ⊢
      unfold pNot at hK
      refine ⟨fun h0 => ?_, fun h0 => ?_⟩
      · rw [if_pos h0] at hK
        exact hK.1 h0
      · rw [if_neg (fun h => h h0)] at hK
        have h3 := hK.2 rfl
        refine rdAc_e h3 ?_ ?_
        · rw [endS_y (x := (10, 0)) rfl, ← List.append_assoc]
        · rw [endS_y (x := (10, 0)) rfl, ← List.append_assoc]
    · by_cases h2 : sgn tx n p = 40
      · have hp2 : p < n := sgn_ltn (tx := tx) (by omega)
        rw [pPce_o h1 h2] at hK
        obtain ⟨fc, q, g, hr⟩ := ex3 (pCnd tx n e (p + 1) cs.length)
        rw [hr] at hK
        unfold pOpn at hK
        have hl := cnd_loop (st := st) (C := cs) hx ih (by omega) 240 (p + 1) 0 0 [] (by omega) (by omega) hp2 (Nat.le_refl _) (Nat.le_refl _) (Or.inl rfl) (by
          have e0 : pCndL tx n (pPce tx n e) 240 (p + 1) cs.length 0 0 [] = (fc, q, g) := hr
          rw [e0]
          refine ⟨fun h0 => ?_, fun h0 j t acc hj ht hjt hg h38 h124 => ?_⟩
          · rw [if_pos h0] at hK
            exact hK.1 h0
          · rw [if_neg (fun h => h h0)] at hK
            by_cases h3 : sgn tx n q = 41
            · rw [if_pos h3] at hK
              have hg' : g = cnd2 cs.length t (cnd1 cs.length j acc) := hg
              refine cd_closeN hx h3 (lnd_K hjt hj ht) (lnd_1 hjt) hst ?_
              rw [← hg']
              exact hK.2 rfl
            · rw [if_neg h3] at hK
              exact cd_wrong hx h3 h38 h124 (hK.1 (Nat.succ_ne_zero _)))
        refine cd_open_o hx h2 (by omega) (rdPc_e hl rfl ?_)
        show cs ++ [] = cs
        exact List.append_nil _
      · rw [pPce_cS h1 h2] at hK
        exact cd_cmp hx h1 h2 he hno hp1 hK.1 hK.2
end
/-- a C with its parentheses -/
def cnT (tx : Nat → Nat) (n p s : Nat) : Nat × Nat × List (Nat × Nat) := if ¬ sgn tx n p = 40 then (1, p, []) else pOpn tx n (pCnd tx n 5 (p + 1) s)
theorem Wd.zero {I0 I : zI} {n q z : Nat} {cs : List (Nat × Nat)} (h : Wd I0 I n q z [] cs) : Wd I0 (zwr (zwr I 62 12 (nI 0)) 62 14 (nI 0)) n q z [] cs := Wd.mk
  (f1 := fun a h1 h2 h3 => by rw [← h.f1 a h1 h2 h3]; funext j; simp [zwr_at, h1])
  (f2 := fun k h1 h2 h3 h4 h5 h6 => by rw [← h.f2 k h1 h2 h3 h4 h5 h6]; simp [zwr_at, h4, h6])
  (hn := by have := h.hn; simpa [zwr_at] using this)
  (n240 := h.n240)
  (hq := by have := h.hq; simpa [zwr_at] using this)
  (qn := h.qn)
  (ho := by simp [zwr_at]; rfl)
  (o6 := h.o6)
  (hc := by have := h.hc; simpa [zwr_at] using this)
  (hw := by simp [zwr_at])
  (sq := h.sq)
  (cq := h.cq)
  (hcs := fun k c hh => by have := h.hcs k c hh; simpa [zwr_at] using this)
  (hst := fun k x hh => by exact absurd hh (by simp))
  (hk := h.hk)
set_option maxRecDepth 100000 in
set_option maxHeartbeats 4000000 in
theorem w_readsCondN {G : zG} {I0 I : zI} {J : zJ} {n p : Nat} {cs : List (Nat × Nat)} {tx : Nat → Nat} (hx : txW I0 tx n) (h : Wd I0 I n p 0 [] cs) (hp1 : 1 ≤ p) (hc : ¬ sgn tx n p = 40) : zK G mX12_readsCondition 6 [.ref 62] zsh I J (smQ I0 J n [] cs (cnT tx n p cs.length)) := by
  refine zK_of kX12_readsCondition.2.2.2.2.1 (Nat.le_of_ble_eq_true rfl) ?_
  show V G mX12_readsCondition 6 _ 0 [(0, .ref 62)] [] (0, 0) zsh I J
  refine V_aload_n dX12_readsCondition_0 rfl ?_
  refine V_callV (As := []) (st := []) (a := 62) dX12_readsCondition_1 kX12_here lX12_225 (by decide) rfl rfl (Nat.le_of_ble_eq_true rfl) ⟨Nat.le_of_ble_eq_true rfl, Nat.le_of_ble_eq_true rfl⟩ ⟨Nat.le_of_ble_eq_true rfl, Nat.le_of_ble_eq_true rfl⟩ rfl ⟨rfl, by decide⟩ (w_hereW h hx) ?_
  rintro _ _ _ _ ⟨rfl, rfl, rfl, rfl⟩
  refine V_bipush (v := nI 40) dX12_readsCondition_4 rfl ?_
  refine V_icmp_eqX (tgt := 19) dX12_readsCondition_6 rfl (sg_le hx _) (by decide) (fun h => absurd h hc) (fun _ => ?_)
  refine V_aload_n dX12_readsCondition_9 rfl ?_
  refine V_iconst (v := nI 1) dX12_readsCondition_10 rfl ?_
  refine V_aload_n dX12_readsCondition_11 rfl ?_
  refine V_getI dX12_readsCondition_12 fX12_219 ⟨Nat.le_of_ble_eq_true rfl, Nat.le_of_ble_eq_true rfl⟩ rfl rfl ?_
  refine V_eqI (y := nI p) h.hq ?_
  refine V_callV (As := [.int (nI 1), .int (nI p)]) (st := []) (a := 62) dX12_readsCondition_15 kX12_wrongAt lX12_232 (by decide) rfl rfl (Nat.le_of_ble_eq_true rfl) ⟨Nat.le_of_ble_eq_true rfl, Nat.le_of_ble_eq_true rfl⟩ ⟨Nat.le_of_ble_eq_true rfl, Nat.le_of_ble_eq_true rfl⟩ rfl ⟨rfl, by decide⟩ w_wrongAt ?_
  rintro r sh' _ _ ⟨rfl, rfl, rfl, rfl⟩
  exact V_iret ⟨Or.inr ⟨rfl, Or.inl rfl⟩, dX12_readsCondition_18⟩ ⟨Nat.le_of_ble_eq_true rfl, Nat.le_of_ble_eq_true rfl⟩ ⟨rfl, fun e => absurd ((congrArg Prod.fst (show cnT tx n p cs.length = (1, p, []) from if_pos hc)).symm.trans e) (Nat.succ_ne_zero _), fun _ => ⟨rfl, by rw [show cnT tx n p cs.length = (1, p, []) from if_pos hc]; exact h.fail⟩, rfl⟩

set_option maxRecDepth 100000 in
set_option maxHeartbeats 4000000 in
theorem w_readsCondY {G : zG} {I0 I : zI} {J : zJ} {n p : Nat} {cs : List (Nat × Nat)} {tx : Nat → Nat} (hx : txW I0 tx n) (h : Wd I0 I n p 0 [] cs) (hp1 : 1 ≤ p) (hc : sgn tx n p = 40) : zK G mX12_readsCondition 6 [.ref 62] zsh I J (smQ I0 J n [] cs (cnT tx n p cs.length)) := by
  refine zK_of kX12_readsCondition.2.2.2.2.1 (Nat.le_of_ble_eq_true rfl) ?_
  show V G mX12_readsCondition 6 _ 0 [(0, .ref 62)] [] (0, 0) zsh I J
  have hn := h.n240
  have hpn : p < n := sgn_ltn (tx := tx) (by omega)
  have hcT : cnT tx n p cs.length = pOpn tx n (pCnd tx n 5 (p + 1) cs.length) := if_neg (fun h => h hc)
  obtain ⟨fc, q, g, hr⟩ := ex3 (pCnd tx n 5 (p + 1) cs.length)
  rw [hr] at hcT
  rw [hcT]
  have hl := cnd_loop (G := G) (J := J) (Q := smQ I0 J n [] cs (pOpn tx n (fc, q, g))) (st := []) (C := cs) hx (pce_all hx hn 5) (by decide) 240 (p + 1) 0 0 [] (by omega) (by omega) hpn (Nat.le_refl _) (Nat.le_refl _) (Or.inl rfl) (by
    have e0 : pCndL tx n (pPce tx n 5) 240 (p + 1) cs.length 0 0 [] = (fc, q, g) := hr
    rw [e0]
    unfold pOpn
    refine ⟨fun h0 I2 hF => ?_, fun h0 j t acc hj ht hjt hg h38 h124 => ?_⟩
    · rw [if_pos h0]
      exact ⟨rfl, fun e => absurd e h0, fun _ => ⟨rfl, hF⟩, rfl⟩
    · rw [if_neg (fun h => h h0)]
      by_cases h3 : sgn tx n q = 41
      · rw [if_pos h3]
        have hg' : g = cnd2 cs.length t (cnd1 cs.length j acc) := hg
        refine cd_closeE hx h3 (lnd_K hjt hj ht) (lnd_1 hjt) (fun I2 hW => ?_)
        rw [← hg'] at hW
        exact ⟨rfl, fun _ => ⟨rfl, hW⟩, fun e => absurd rfl e, rfl⟩
      · rw [if_neg h3]
        exact cd_wrong hx h3 h38 h124 (fun I2 hF => ⟨rfl, fun e => absurd e (Nat.succ_ne_zero _), fun _ => ⟨rfl, hF⟩, rfl⟩))
  have hl := rdPc_e hl rfl (show cs ++ [] = cs from List.append_nil _)
  refine V_aload_n dX12_readsCondition_0 rfl ?_
  refine V_callV (As := []) (st := []) (a := 62) dX12_readsCondition_1 kX12_here lX12_225 (by decide) rfl rfl (Nat.le_of_ble_eq_true rfl) ⟨Nat.le_of_ble_eq_true rfl, Nat.le_of_ble_eq_true rfl⟩ ⟨Nat.le_of_ble_eq_true rfl, Nat.le_of_ble_eq_true rfl⟩ rfl ⟨rfl, by decide⟩ (w_hereW h hx) ?_
  rintro _ _ _ _ ⟨rfl, rfl, rfl, rfl⟩
  refine V_bipush (v := nI 40) dX12_readsCondition_4 rfl ?_
  refine V_icmp_eqX (tgt := 19) dX12_readsCondition_6 rfl (sg_le hx _) (by decide) (fun _ => ?_) (fun h => absurd hc h)
  refine V_aload_n dX12_readsCondition_19 rfl ?_
  refine V_iconst (v := nI 0) dX12_readsCondition_20 rfl ?_
  refine V_putW dX12_readsCondition_21 fX12_247 ⟨Nat.le_of_ble_eq_true rfl, Nat.le_of_ble_eq_true rfl⟩ rfl rfl rfl ⟨rfl, rfl⟩ ?_
  refine V_aload_n dX12_readsCondition_24 rfl ?_
  refine V_iconst (v := nI 0) dX12_readsCondition_25 rfl ?_
  refine V_putW dX12_readsCondition_26 fX12_250 ⟨Nat.le_of_ble_eq_true rfl, Nat.le_of_ble_eq_true rfl⟩ rfl rfl rfl ⟨rfl, rfl⟩ ?_
  refine V_aload_n dX12_readsCondition_29 rfl ?_
  refine V_bipush (v := nI 13) dX12_readsCondition_30 rfl ?_
  refine V_callV (As := [.int (nI 13)]) (st := []) (a := 62) dX12_readsCondition_32 kX12_opens lX12_260 (by decide) rfl rfl (Nat.le_of_ble_eq_true rfl) ⟨Nat.le_of_ble_eq_true rfl, Nat.le_of_ble_eq_true rfl⟩ ⟨Nat.le_of_ble_eq_true rfl, Nat.le_of_ble_eq_true rfl⟩ rfl ⟨rfl, by decide⟩ (w_opensY h.zero hpn (by decide) (by decide)) ?_
  rintro r sh' I3 _ ⟨rfl, rfl, hW2, rfl⟩
  refine V_if_ne (tgt := 40) dX12_readsCondition_35 rfl (fun _ => ?_) (fun h => absurd h (by decide))
  refine V_sub2 (ls' := [(0, .ref 62)]) (List.forall_mem_cons.mpr ⟨rfl, fun _ h => absurd h List.not_mem_nil⟩) ?_
  exact hl _ hW2

set_option maxRecDepth 100000 in
set_option maxHeartbeats 4000000 in
theorem w_readsCondition {G : zG} {I0 I : zI} {J : zJ} {n p : Nat} {cs : List (Nat × Nat)} {tx : Nat → Nat} (hx : txW I0 tx n) (h : Wd I0 I n p 0 [] cs) (hp1 : 1 ≤ p) : zK G mX12_readsCondition 6 [.ref 62] zsh I J (smQ I0 J n [] cs (cnT tx n p cs.length)) := by
  by_cases hc : sgn tx n p = 40
  · exact w_readsCondY hx h hp1 hc
  · exact w_readsCondN hx h hp1 hc

