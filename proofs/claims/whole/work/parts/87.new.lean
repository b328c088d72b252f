/-! WHAT IS MADE: the world while constructors run -/
theorem zup_id {α : Type} {f : Nat → α} {a : Nat} {v : α} (h : f a = v) : zup f a v = f := by
  funext b
  by_cases e : b = a
  · subst e; rw [zup_s, h]
  · exact zup_n e
theorem zup2 {α : Type} {f : Nat → α} {a : Nat} {v w : α} : zup (zup f a v) a w = zup f a w := by
  funext b
  by_cases e : b = a
  · subst e; rw [zup_s, zup_s]
  · rw [zup_n e, zup_n e, zup_n e]
/-- the references of a, as far as they are set -/
def rP (a n : Nat) : Nat → Option Nat := fun j => if j < n then zrf a j else none
theorem rP_0 {a : Nat} : rP a 0 = fun _ => none := rfl
theorem tbl_big {L : List (List (Option Nat))} (hall : ∀ r ∈ L, r.length ≤ 73) {a j : Nat} (h : 73 ≤ j) : (L.getD a []).getD j none = none := by
  have h2 : (L.getD a []).length ≤ 73 := by
    rw [List.getD_eq_getElem?_getD]
    rcases he : L[a]? with _ | r
    · exact Nat.zero_le _
    · exact hall r (List.mem_of_getElem? he)
  rw [List.getD_eq_getElem?_getD, List.getElem?_eq_none (by omega)]
  rfl
theorem zrf_big {a j : Nat} (h : 73 ≤ j) : zrf a j = none := by
  unfold zrf
  refine tbl_big ?_ h
  decide +kernel
theorem rP_end {rf : Nat → Nat → Option Nat} {a n : Nat} (h : rf a = zrf a) (h3 : ∀ j, j < 73 → n ≤ j → zrf a j = none) : zup rf a (rP a n) = rf := by
  refine zup_id (h.trans ?_)
  funext j
  unfold rP
  by_cases c : j < n
  · rw [if_pos c]
  · rw [if_neg c]
    by_cases c2 : j < 73
    · exact h3 j c2 (by omega)
    · exact zrf_big (by omega)
theorem rP_s {rf : Nat → Nat → Option Nat} {a n k b : Nat} (h1 : n ≤ k) (h2 : zrf a k = some b) (h3 : ∀ j, j < k → n ≤ j → zrf a j = none) : zup (zup rf a (rP a n)) a (fun j => if j = k then some b else (zup rf a (rP a n)) a j) = zup rf a (rP a (k + 1)) := by
  rw [zup2, zup_s]
  congr 1
  funext j
  unfold rP
  by_cases e : j = k
  · subst e
    rw [if_pos rfl, if_pos (by omega), h2]
  · rw [if_neg e]
    by_cases c : j < n
    · rw [if_pos c, if_pos (by omega)]
    · rw [if_neg c]
      by_cases c2 : j < k + 1
      · rw [if_pos c2, h3 j (by omega) (by omega)]
      · rw [if_neg c2]
section
variable {G : zG} {M : zM} {d : Nat} {Q : zQ} {pc : Nat} {ls : List (Nat × Value)} {st : List Value} {c1 c2 c1' c2' m m' a : Nat} {rf : Nat → Nat → Option Nat} {I : zI} {J : zJ}
theorem W_newB {N : Nat} (hdg : decode (zcc M) pc = .ok (.newarray .byte, 2)) (hm : m' = m + 1) (ha : a = m + 2) (hk : zkd a = (0, N)) (hr : rf a = fun _ => none) (hi : I a = fun _ => 0) (hj : J a = fun _ => 0) (hN : N < 2 ^ 20) (hc : c1' = c1 + 1 ∧ c2' = c2 + N) (hrm : c1' ≤ zmc M ∧ c2' ≤ zms M) (kk : V G M d Q (pc + 2) ls (.ref a :: st) (c1', c2') (m', zkd, rf) I J) : V G M d Q pc ls (.int (nI N) :: st) (c1, c2) (m, zkd, rf) I J := by
  obtain ⟨h1, h2⟩ := hc
  subst hm ha h1 h2
  refine V_newB hdg rfl hN hrm ?_
  show V G M d Q (pc + 2) ls (.ref (m + 2) :: st) (c1 + 1, c2 + N) (m + 1, zup zkd (m + 2) (0, N), zup rf (m + 2) (fun _ => none)) (zup I (m + 2) (fun _ => 0)) (zup J (m + 2) (fun _ => 0))
  rw [zup_id hk, zup_id hr, zup_id hi, zup_id hj]
  exact kk
theorem W_newI {N : Nat} (hdg : decode (zcc M) pc = .ok (.newarray .int, 2)) (hm : m' = m + 1) (ha : a = m + 2) (hk : zkd a = (1, N)) (hr : rf a = fun _ => none) (hi : I a = fun _ => 0) (hj : J a = fun _ => 0) (hN : N < 2 ^ 20) (hc : c1' = c1 + 1 ∧ c2' = c2 + N) (hrm : c1' ≤ zmc M ∧ c2' ≤ zms M) (kk : V G M d Q (pc + 2) ls (.ref a :: st) (c1', c2') (m', zkd, rf) I J) : V G M d Q pc ls (.int (nI N) :: st) (c1, c2) (m, zkd, rf) I J := by
  obtain ⟨h1, h2⟩ := hc
  subst hm ha h1 h2
  refine V_newI hdg rfl hN hrm ?_
  show V G M d Q (pc + 2) ls (.ref (m + 2) :: st) (c1 + 1, c2 + N) (m + 1, zup zkd (m + 2) (1, N), zup rf (m + 2) (fun _ => none)) (zup I (m + 2) (fun _ => 0)) (zup J (m + 2) (fun _ => 0))
  rw [zup_id hk, zup_id hr, zup_id hi, zup_id hj]
  exact kk
theorem W_newL {N : Nat} (hdg : decode (zcc M) pc = .ok (.newarray .long, 2)) (hm : m' = m + 1) (ha : a = m + 2) (hk : zkd a = (2, N)) (hr : rf a = fun _ => none) (hi : I a = fun _ => 0) (hj : J a = fun _ => 0) (hN : N < 2 ^ 20) (hc : c1' = c1 + 1 ∧ c2' = c2 + N) (hrm : c1' ≤ zmc M ∧ c2' ≤ zms M) (kk : V G M d Q (pc + 2) ls (.ref a :: st) (c1', c2') (m', zkd, rf) I J) : V G M d Q pc ls (.int (nI N) :: st) (c1, c2) (m, zkd, rf) I J := by
  obtain ⟨h1, h2⟩ := hc
  subst hm ha h1 h2
  refine V_newL hdg rfl hN hrm ?_
  show V G M d Q (pc + 2) ls (.ref (m + 2) :: st) (c1 + 1, c2 + N) (m + 1, zup zkd (m + 2) (2, N), zup rf (m + 2) (fun _ => none)) (zup I (m + 2) (fun _ => 0)) (zup J (m + 2) (fun _ => 0))
  rw [zup_id hk, zup_id hr, zup_id hi, zup_id hj]
  exact kk
theorem W_newQ {N idx : Nat} (hdg : decode (zcc M) pc = .ok (.anewarray idx, 3)) (hcl : Cond.classLink (zy M).cls idx RX8 ∈ zGood) (hm : m' = m + 1) (ha : a = m + 2) (hk : zkd a = (3, N)) (hi : I a = fun _ => 0) (hj : J a = fun _ => 0) (hN : N < 2 ^ 20) (hc : c1' = c1 + 1 ∧ c2' = c2 + N) (hrm : c1' ≤ zmc M ∧ c2' ≤ zms M) (kk : V G M d Q (pc + 3) ls (.ref a :: st) (c1', c2') (m', zkd, zup rf a (rP a 0)) I J) : V G M d Q pc ls (.int (nI N) :: st) (c1, c2) (m, zkd, rf) I J := by
  obtain ⟨h1, h2⟩ := hc
  subst hm ha h1 h2
  refine V_newQ hdg hcl rfl hN hrm ?_
  show V G M d Q (pc + 3) ls (.ref (m + 2) :: st) (c1 + 1, c2 + N) (m + 1, zup zkd (m + 2) (3, N), zup rf (m + 2) (fun _ => none)) (zup I (m + 2) (fun _ => 0)) (zup J (m + 2) (fun _ => 0))
  rw [zup_id hk, zup_id hi, zup_id hj]
  exact kk
theorem W_new {idx cc : Nat} (hdg : decode (zcc M) pc = .ok (.new idx, 3)) (hcc : cc < 13) (hcl : Cond.classLink (zy M).cls idx (zC cc) ∈ zGood) (hin : Cond.instantiable (zC cc) (zN cc) ∈ zGood) (hini : Cond.initialized (zC cc) ∈ zGood) (hm : m' = m + 1) (ha : a = m + 2) (hk : zkd a = (cc + 4, 0)) (hi : I a = fun _ => 0) (hj : J a = fun _ => 0) (hc : c1' = c1 + 1 ∧ c2' = c2 + zN cc) (hrm : c1' ≤ zmc M ∧ c2' ≤ zms M) (kk : V G M d Q (pc + 3) ls (.ref a :: st) (c1', c2') (m', zkd, zup rf a (rP a 0)) I J) : V G M d Q pc ls st (c1, c2) (m, zkd, rf) I J := by
  obtain ⟨h1, h2⟩ := hc
  subst hm ha h1 h2
  refine V_new hdg hcc hcl hin hini hrm ?_
  show V G M d Q (pc + 3) ls (.ref (m + 2) :: st) (c1 + 1, c2 + zN cc) (m + 1, zup zkd (m + 2) (cc + 4, 0), zup rf (m + 2) (fun _ => none)) (zup I (m + 2) (fun _ => 0)) (zup J (m + 2) (fun _ => 0))
  rw [zup_id hk, zup_id hi, zup_id hj]
  exact kk
theorem W_putR {idx cc k n n0 b : Nat} {cs : Nat × Nat} (hdg : decode (zcc M) pc = .ok (.putfield idx, 3)) (hf : zFL (zy M).cls idx cc k) (hfo : Cond.fieldLink (zy M).cls idx (zTT cc k).1 (zTT cc k).2.1 (zTT cc k).2.2.1 ∈ zGood) (ha : 2 ≤ a ∧ a < m + 2) (hk : zkd a = (cc + 4, n0)) (hr : zRef (zty cc k) = true) (hfin : (zTT cc k).2.2.2 = true) (hi : (zy M).name = "<init>") (hdecl : (zTT cc k).1 = (zy M).cls) (hn : ∀ q, narrow (zty cc k) (.ref q) = .ref q ∧ fits (zty cc k) (.ref q) = true) (h1 : n ≤ k) (h2 : zrf a k = some b) (h3 : ∀ j, j < k → n ≤ j → zrf a j = none)
    (kk : V G M d Q (pc + 3) ls st cs (m, zkd, zup rf a (rP a (k + 1))) I J) : V G M d Q pc ls (.ref b :: .ref a :: st) cs (m, zkd, zup rf a (rP a n)) I J := by
  refine V_putR (sh := (m, zkd, zup rf a (rP a n))) hdg hf hfo ha hk hr hfin hi hdecl hn ?_
  show V G M d Q (pc + 3) ls st cs (m, zkd, zup (zup rf a (rP a n)) a (fun j => if j = k then some b else (zup rf a (rP a n)) a j)) I J
  rw [rP_s h1 h2 h3]
  exact kk
theorem W_aast {k n N cc n1 b : Nat} {cs : Nat × Nat} (hdg : decode (zcc M) pc = .ok (.aastore, 1)) (ha : 2 ≤ a ∧ a < m + 2) (hk : zkd a = (3, N)) (hb : 2 ≤ b ∧ b < m + 2) (hkb : zkd b = (8 + 4, n1)) (hkN : k < N) (hN : N < 2 ^ 20) (h1 : n ≤ k) (h2 : zrf a k = some b) (h3 : ∀ j, j < k → n ≤ j → zrf a j = none)
    (kk : V G M d Q (pc + 1) ls st cs (m, zkd, zup rf a (rP a (k + 1))) I J) : V G M d Q pc ls (.ref b :: .int (nI k) :: .ref a :: st) cs (m, zkd, zup rf a (rP a n)) I J := by
  refine V_aast (cc := 0) (sh := (m, zkd, zup rf a (rP a n))) hdg ha hk hb hkb (vp_in_nI hkN (by omega)) ?_
  show V G M d Q (pc + 1) ls st cs (m, zkd, zup (zup rf a (rP a n)) a (fun j => if j = (nI k).toNatClampNeg then some b else (zup rf a (rP a n)) a j)) I J
  rw [nI_clamp (by omega), rP_s h1 h2 h3]
  exact kk
/-- an object stands -/
theorem W_end {n : Nat} {cs : Nat × Nat} (h : rf a = zrf a) (h3 : ∀ j, j < 73 → n ≤ j → zrf a j = none) (kk : V G M d Q pc ls st cs (m, zkd, rf) I J) : V G M d Q pc ls st cs (m, zkd, zup rf a (rP a n)) I J := by
  rw [rP_end h h3]
  exact kk
end
def zB0 (sh : zS) (v : Value) (I : zI) (J : zJ) : zQ := fun r sh' I' J' => sh' = sh ∧ r = some v ∧ I = I' ∧ J = J'
def zB2 (sh : zS) (P : zI → zJ → Prop) : zQ := fun r sh' I' J' => sh' = sh ∧ r = none ∧ P I' J'
set_option maxRecDepth 100000 in
set_option maxHeartbeats 4000000 in
theorem c_at1S {G : zG} {sh : zS} {I : zI} {J : zJ} {k : Nat} (hi : k < 56) : zK G mX11_at 0 [.ref 1, .int (nI k)] sh I J (zB0 sh (.int (zCodes k)) I J) := by
  refine zK_of kX11_at.2.2.2.2.1 (Nat.le_of_ble_eq_true rfl) ?_
  show V G mX11_at 0 _ 0 [(0, .ref 1), (1, .int (nI k))] [] (0, 0) sh I J
  refine V_iload_n dX11_at_0 rfl ?_
  refine V_if_ltN (tgt := 16) dX11_at_1 rfl (by omega) ?_
  refine V_iload_n dX11_at_4 rfl ?_
  refine V_aload_n dX11_at_5 rfl ?_
  refine V_tlen dX11_at_6 ?_
  refine V_icmp_geN (b := 56) (tgt := 16) dX11_at_7 rfl (by omega) (by decide) (fun h => absurd h (by omega)) (fun h => ?_)
  refine V_aload_n dX11_at_10 rfl ?_
  refine V_iload_n dX11_at_11 rfl ?_
  refine V_tabN dX11_at_12 hi ?_
  refine V_goto (tgt := 17) dX11_at_13 rfl ?_
  exact V_iret ⟨Or.inl rfl, dX11_at_17⟩ ⟨Nat.le_of_ble_eq_true rfl, Nat.le_of_ble_eq_true rfl⟩ ⟨rfl, rfl, rfl, rfl⟩
set_option maxRecDepth 100000 in
set_option maxHeartbeats 4000000 in
theorem lp_placeOfS {G : zG} {sh : zS} {I : zI} {J : zJ} {code : Int32} : ∀ n i lo hi, lo ≤ hi → hi ≤ 55 → i + (hi - lo) ≤ 55 → 56 < i + n → (∀ k, k < 56 → code = nI (tC k) → lo ≤ k ∧ k ≤ hi) → V G mX2_placeOf 1 (zB0 sh (.int (pen (zpl code))) I J) 8 [(0, .ref 10), (1, .int code), (2, .int (nI lo)), (3, .int (nI hi)), (4, .int (nI i))] [] (0, 0) sh I J := by
  intro n
  induction n with
  | zero => intros; omega
  | succ n ih =>
    intro i lo hi h1 h2 h3 h4 hinv
    refine V_iload dX2_placeOf_8 rfl ?_
    refine V_bipush (v := nI 56) dX2_placeOf_10 rfl ?_
    refine V_icmp_geN (tgt := 56) dX2_placeOf_12 rfl (by omega) (by omega) (fun h12 => ?_) (fun h12 => ?_)
    · exact absurd h12 (by omega)
    refine V_iload_n dX2_placeOf_15 rfl ?_
    refine V_iload_n dX2_placeOf_16 rfl ?_
    refine V_icmp_geN (tgt := 56) dX2_placeOf_17 rfl (by omega) (by omega) (fun h17 => ?_) (fun h17 => ?_)
    · skip
      refine V_gets dX2_placeOf_56 sX2_27 ?_
      refine V_iload_n dX2_placeOf_59 rfl ?_
      refine V_callS (As := [.ref 1, .int (nI lo)]) (st := []) dX2_placeOf_60 kX11_at lX2_34 (by decide) rfl rfl (Nat.le_of_ble_eq_true rfl) ⟨Nat.le_of_ble_eq_true rfl, Nat.le_of_ble_eq_true rfl⟩ (c_at1S (by omega)) ?_
      rintro _ _ _ _ ⟨rfl, rfl, rfl, rfl⟩
      refine V_eqI (y := nI (tC lo)) (zC_t (by omega)) ?_
      refine V_iload_n dX2_placeOf_63 rfl ?_
      refine V_icmp_ne (tgt := 71) dX2_placeOf_64 rfl (fun h64 => ?_) (fun h64 => ?_)
      · skip
        refine V_iconst (v := (-1)) dX2_placeOf_71 rfl ?_
        exact V_iret ⟨Or.inl rfl, dX2_placeOf_72⟩ ⟨Nat.le_of_ble_eq_true rfl, Nat.le_of_ble_eq_true rfl⟩ ⟨rfl, congrArg (fun z => some (Value.int z)) (by cases hz : zpl code with | none => rfl | some k => (obtain ⟨h8, h9⟩ := zpl_s hz; have h7 := hinv k h8 h9; exact absurd (by rw [h9]; congr 2; omega) h64)), rfl, rfl⟩
      · skip
        refine V_iload_n dX2_placeOf_67 rfl ?_
        refine V_goto (tgt := 72) dX2_placeOf_68 rfl ?_
        exact V_iret ⟨Or.inl rfl, dX2_placeOf_72⟩ ⟨Nat.le_of_ble_eq_true rfl, Nat.le_of_ble_eq_true rfl⟩ ⟨rfl, congrArg (fun z => some (Value.int z)) (by rw [← h64, zpl_of (by omega)]; rfl), rfl, rfl⟩
    · skip
      refine V_iload_n dX2_placeOf_20 rfl ?_
      refine V_iload_n dX2_placeOf_21 rfl ?_
      refine V_iaddN dX2_placeOf_22 ?_
      refine V_iconst (v := nI 2) dX2_placeOf_23 rfl ?_
      refine V_idivN dX2_placeOf_24 (by omega) (by omega) (by omega) ?_
      refine V_istore (ls' := [(5, .int (nI ((lo + hi) / 2))), (0, .ref 10), (1, .int code), (2, .int (nI lo)), (3, .int (nI hi)), (4, .int (nI i))]) dX2_placeOf_25 (by decide) rfl ?_
      refine V_gets dX2_placeOf_27 sX2_27 ?_
      refine V_iload dX2_placeOf_30 rfl ?_
      refine V_callS (As := [.ref 1, .int (nI ((lo + hi) / 2))]) (st := []) dX2_placeOf_32 kX11_at lX2_34 (by decide) rfl rfl (Nat.le_of_ble_eq_true rfl) ⟨Nat.le_of_ble_eq_true rfl, Nat.le_of_ble_eq_true rfl⟩ (c_at1S (by omega)) ?_
      rintro _ _ _ _ ⟨rfl, rfl, rfl, rfl⟩
      refine V_eqI (y := nI (tC ((lo + hi) / 2))) (zC_t (by omega)) ?_
      refine V_iload_n dX2_placeOf_35 rfl ?_
      refine V_icmp_ge (tgt := 47) dX2_placeOf_36 rfl (fun h36 => ?_) (fun h36 => ?_)
      · skip
        refine V_iload dX2_placeOf_47 rfl ?_
        refine V_istore_n (ls' := [(3, .int (nI ((lo + hi) / 2))), (5, .int (nI ((lo + hi) / 2))), (0, .ref 10), (1, .int code), (2, .int (nI lo)), (4, .int (nI i))]) dX2_placeOf_49 (by decide) rfl ?_
        refine V_iincN (ls' := [(4, .int (nI (i + 1))), (3, .int (nI ((lo + hi) / 2))), (5, .int (nI ((lo + hi) / 2))), (0, .ref 10), (1, .int code), (2, .int (nI lo))]) (n := 1) dX2_placeOf_50 rfl rfl (by decide) (by decide) rfl ?_
        refine V_goto (tgt := 8) dX2_placeOf_53 rfl ?_
        refine V_sub2 (ls' := [(0, .ref 10), (1, .int code), (2, .int (nI lo)), (3, .int (nI ((lo + hi) / 2))), (4, .int (nI (i + 1)))]) (List.forall_mem_cons.mpr ⟨rfl, List.forall_mem_cons.mpr ⟨rfl, List.forall_mem_cons.mpr ⟨rfl, List.forall_mem_cons.mpr ⟨rfl, List.forall_mem_cons.mpr ⟨rfl, fun _ h => absurd h List.not_mem_nil⟩⟩⟩⟩⟩) ?_
        exact ih (i + 1) (lo) ((lo + hi) / 2) (by omega) (by omega) (by omega) (by omega) (fun k hk e => by have hz := hinv k hk e; have h9 := tC_mono ((lo + hi) / 2) (by omega) k hk; have h8 := tC_le hk; have h7 := tC_le (k := (lo + hi) / 2) (by omega); rw [e] at h36; have h6 := (nI_leI (by omega) (by omega)).mp h36; omega)
      · skip
        refine V_iload dX2_placeOf_39 rfl ?_
        refine V_iconst (v := nI 1) dX2_placeOf_41 rfl ?_
        refine V_iaddN dX2_placeOf_42 ?_
        refine V_istore_n (ls' := [(2, .int (nI (((lo + hi) / 2) + 1))), (5, .int (nI ((lo + hi) / 2))), (0, .ref 10), (1, .int code), (3, .int (nI hi)), (4, .int (nI i))]) dX2_placeOf_43 (by decide) rfl ?_
        refine V_goto (tgt := 50) dX2_placeOf_44 rfl ?_
        refine V_iincN (ls' := [(4, .int (nI (i + 1))), (2, .int (nI (((lo + hi) / 2) + 1))), (5, .int (nI ((lo + hi) / 2))), (0, .ref 10), (1, .int code), (3, .int (nI hi))]) (n := 1) dX2_placeOf_50 rfl rfl (by decide) (by decide) rfl ?_
        refine V_goto (tgt := 8) dX2_placeOf_53 rfl ?_
        refine V_sub2 (ls' := [(0, .ref 10), (1, .int code), (2, .int (nI (((lo + hi) / 2) + 1))), (3, .int (nI hi)), (4, .int (nI (i + 1)))]) (List.forall_mem_cons.mpr ⟨rfl, List.forall_mem_cons.mpr ⟨rfl, List.forall_mem_cons.mpr ⟨rfl, List.forall_mem_cons.mpr ⟨rfl, List.forall_mem_cons.mpr ⟨rfl, fun _ h => absurd h List.not_mem_nil⟩⟩⟩⟩⟩) ?_
        exact ih (i + 1) (((lo + hi) / 2) + 1) (hi) (by omega) (by omega) (by omega) (by omega) (fun k hk e => by have hz := hinv k hk e; have h9 := tC_mono ((lo + hi) / 2) (by omega) k hk; have h8 := tC_le hk; have h7 := tC_le (k := (lo + hi) / 2) (by omega); rw [e] at h36; have h6 := (not_congr (nI_leI (by omega) (by omega))).mp h36; omega)
set_option maxRecDepth 100000 in
set_option maxHeartbeats 4000000 in
theorem c_placeOf2S {G : zG} {sh : zS} {I : zI} {J : zJ} {code : Int32} : zK G mX2_placeOf 1 [.ref 10, .int code] sh I J (zB0 sh (.int (pen (zpl code))) I J) := by
  refine zK_of kX2_placeOf.2.2.2.2.1 (Nat.le_of_ble_eq_true rfl) ?_
  show V G mX2_placeOf 1 _ 0 [(0, .ref 10), (1, .int code)] [] (0, 0) sh I J
  refine V_iconst (v := nI 0) dX2_placeOf_0 rfl ?_
  refine V_istore_n (ls' := [(2, .int (nI 0)), (0, .ref 10), (1, .int code)]) dX2_placeOf_1 (by decide) rfl ?_
  refine V_bipush (v := nI 55) dX2_placeOf_2 rfl ?_
  refine V_istore_n (ls' := [(3, .int (nI 55)), (2, .int (nI 0)), (0, .ref 10), (1, .int code)]) dX2_placeOf_4 (by decide) rfl ?_
  refine V_iconst (v := nI 0) dX2_placeOf_5 rfl ?_
  refine V_istore (ls' := [(4, .int (nI 0)), (3, .int (nI 55)), (2, .int (nI 0)), (0, .ref 10), (1, .int code)]) dX2_placeOf_6 (by decide) rfl ?_
  refine V_sub2 (ls' := [(0, .ref 10), (1, .int code), (2, .int (nI 0)), (3, .int (nI 55)), (4, .int (nI 0))]) (List.forall_mem_cons.mpr ⟨rfl, List.forall_mem_cons.mpr ⟨rfl, List.forall_mem_cons.mpr ⟨rfl, List.forall_mem_cons.mpr ⟨rfl, List.forall_mem_cons.mpr ⟨rfl, fun _ h => absurd h List.not_mem_nil⟩⟩⟩⟩⟩) ?_
  exact lp_placeOfS 57 0 0 55 (by omega) (by omega) (by omega) (by omega) (fun k hk _ => by omega)
set_option maxRecDepth 100000 in
set_option maxHeartbeats 4000000 in
theorem lp_fillLS {G : zG} {sh : zS} {I : zI} {J : zJ} {a n : Nat} {v : Int64} (ha : zin sh a) (hk : sh.2.1 a = (2, n)) (hn : n < 2 ^ 31) : ∀ f k (J1 : zJ), k + f = n → J1 = zup J a (zflL v (J a) k) → V G mJ7_fill_d0a16 0 (zB2 sh (fun I' J' => J' = zup J a (zflL v (J a) n) ∧ I = I')) 6 [(0, .ref a), (1, .long v), (3, .int (nI k)), (4, .int (nI n))] [] (0, 0) sh I J1 := by
  intro f
  induction f with
  | zero =>
    intro k J1 hkn h1
    refine V_iload_n dJ7_fill_d0a16_6 rfl ?_
    refine V_iload dJ7_fill_d0a16_7 rfl ?_
    refine V_icmp_geN (tgt := 22) dJ7_fill_d0a16_9 rfl (by omega) (by omega) (fun _ => ?_) (fun h => absurd h (by omega))
    exact V_ret ⟨rfl, dJ7_fill_d0a16_22⟩ ⟨Nat.le_of_ble_eq_true rfl, Nat.le_of_ble_eq_true rfl⟩ ⟨rfl, rfl, (by rw [h1, show k = n by omega]), rfl⟩
  | succ f ih =>
    intro k J1 hkn h1
    refine V_iload_n dJ7_fill_d0a16_6 rfl ?_
    refine V_iload dJ7_fill_d0a16_7 rfl ?_
    refine V_icmp_geN (tgt := 22) dJ7_fill_d0a16_9 rfl (by omega) (by omega) (fun h => absurd h (by omega)) (fun _ => ?_)
    refine V_aload_n dJ7_fill_d0a16_12 rfl ?_
    refine V_iload_n dJ7_fill_d0a16_13 rfl ?_
    refine V_lload_n dJ7_fill_d0a16_14 rfl ?_
    refine V_lastN (k := k) dJ7_fill_d0a16_15 ha hk hn (by omega) ?_
    refine V_iincN (ls' := [(3, .int (nI (k + 1))), (0, .ref a), (1, .long v), (4, .int (nI n))]) (n := 1) dJ7_fill_d0a16_16 rfl rfl (by decide) (by decide) rfl ?_
    refine V_goto (tgt := 6) dJ7_fill_d0a16_19 rfl ?_
    refine V_sub2 (ls' := [(0, .ref a), (1, .long v), (3, .int (nI (k + 1))), (4, .int (nI n))]) (List.forall_mem_cons.mpr ⟨rfl, List.forall_mem_cons.mpr ⟨rfl, List.forall_mem_cons.mpr ⟨rfl, List.forall_mem_cons.mpr ⟨rfl, fun _ h => absurd h List.not_mem_nil⟩⟩⟩⟩) ?_
    exact ih (k + 1) _ (by omega) (by rw [h1]; exact zflL_s)
set_option maxRecDepth 100000 in
set_option maxHeartbeats 4000000 in
theorem c_fillLS {G : zG} {sh : zS} {I : zI} {J : zJ} {a n : Nat} {v : Int64} (ha : zin sh a) (hk : sh.2.1 a = (2, n)) (hn : n < 2 ^ 31) : zK G mJ7_fill_d0a16 0 [.ref a, .long v] sh I J (zB2 sh (fun I' J' => J' = zup J a (zflL v (J a) n) ∧ I = I')) := by
  refine zK_of kJ7_fill_d0a16.2.2.2.2.1 (Nat.le_of_ble_eq_true rfl) ?_
  show V G mJ7_fill_d0a16 0 _ 0 [(0, .ref a), (1, .long v)] [] (0, 0) sh I J
  refine V_iconst (v := nI 0) dJ7_fill_d0a16_0 rfl ?_
  refine V_istore_n (ls' := [(3, .int (nI 0)), (0, .ref a), (1, .long v)]) dJ7_fill_d0a16_1 (by decide) rfl ?_
  refine V_aload_n dJ7_fill_d0a16_2 rfl ?_
  refine V_alen (v := nI n) dJ7_fill_d0a16_3 ha hk (by decide) rfl ?_
  refine V_istore (ls' := [(4, .int (nI n)), (3, .int (nI 0)), (0, .ref a), (1, .long v)]) dJ7_fill_d0a16_4 (by decide) rfl ?_
  refine V_sub2 (ls' := [(0, .ref a), (1, .long v), (3, .int (nI 0)), (4, .int (nI n))]) (List.forall_mem_cons.mpr ⟨rfl, List.forall_mem_cons.mpr ⟨rfl, List.forall_mem_cons.mpr ⟨rfl, List.forall_mem_cons.mpr ⟨rfl, fun _ h => absurd h List.not_mem_nil⟩⟩⟩⟩) ?_
  exact lp_fillLS ha hk hn n 0 J (by omega) zflL_0.symm
def mT0 (I : zI) : Prop := ∀ k, k < 56 → I 63 k = nI (tC k)
set_option maxRecDepth 100000 in
set_option maxHeartbeats 4000000 in
theorem lp_standOf0 {G : zG} {I : zI} {J : zJ} (hT : mT0 I) {c : Int32} : ∀ m k, k + m = 56 → (∀ i, i < k → ¬ c = nI (tC i)) → V G mX12_standOf 0 (zA0 (.int (pen (zpl c))) I J) 2 [(0, .ref 62), (1, .int c), (2, .int (nI k))] [] (0, 0) zsh I J := by
  intro m
  induction m with
  | zero =>
    intro k hk hn
    refine V_iload_n dX12_standOf_2 rfl ?_
    refine V_bipush (v := nI 56) dX12_standOf_3 rfl ?_
    refine V_icmp_geN (tgt := 26) dX12_standOf_5 rfl (by omega) (by omega) (fun _ => ?_) (fun h => absurd h (by omega))
    refine V_iconst (v := (-1)) dX12_standOf_26 rfl ?_
    exact V_iret ⟨Or.inl rfl, dX12_standOf_27⟩ ⟨Nat.le_of_ble_eq_true rfl, Nat.le_of_ble_eq_true rfl⟩ ⟨rfl, congrArg (fun z => some (Value.int z)) (by cases hz : zpl c with | none => rfl | some i => exact absurd (zpl_s hz).2 (hn i (by have := (zpl_s hz).1; omega))), rfl, rfl⟩
  | succ m ih =>
    intro k hk hn
    refine V_iload_n dX12_standOf_2 rfl ?_
    refine V_bipush (v := nI 56) dX12_standOf_3 rfl ?_
    refine V_icmp_geN (tgt := 26) dX12_standOf_5 rfl (by omega) (by omega) (fun h => absurd h (by omega)) (fun _ => ?_)
    refine V_aload_n dX12_standOf_8 rfl ?_
    refine V_getR (b := 63) dX12_standOf_9 fX12_7 ⟨Nat.le_of_ble_eq_true rfl, Nat.le_of_ble_eq_true rfl⟩ rfl rfl rfl ?_
    refine V_iload_n dX12_standOf_12 rfl ?_
    refine V_ialdN (k := k) dX12_standOf_13 ⟨Nat.le_of_ble_eq_true rfl, Nat.le_of_ble_eq_true rfl⟩ rfl (by decide) (by omega) ?_
    refine V_eqI (y := nI (tC k)) (hT _ (by omega)) ?_
    refine V_iload_n dX12_standOf_14 rfl ?_
    refine V_icmp_ne (tgt := 20) dX12_standOf_15 rfl (fun h15 => ?_) (fun h15 => ?_)
    · skip
      refine V_iincN (ls' := [(2, .int (nI (k + 1))), (0, .ref 62), (1, .int c)]) (n := 1) dX12_standOf_20 rfl rfl (by decide) (by decide) rfl ?_
      refine V_goto (tgt := 2) dX12_standOf_23 rfl ?_
      refine V_sub2 (ls' := [(0, .ref 62), (1, .int c), (2, .int (nI (k + 1)))]) (List.forall_mem_cons.mpr ⟨rfl, List.forall_mem_cons.mpr ⟨rfl, List.forall_mem_cons.mpr ⟨rfl, fun _ h => absurd h List.not_mem_nil⟩⟩⟩) ?_
      refine ih (k + 1) (by omega) (fun i hi => ?_)
      by_cases hik : i = k
      · subst hik; exact fun h => h15 h.symm
      · exact hn i (by omega)
    · skip
      refine V_iload_n dX12_standOf_18 rfl ?_
      exact V_iret ⟨Or.inl rfl, dX12_standOf_19⟩ ⟨Nat.le_of_ble_eq_true rfl, Nat.le_of_ble_eq_true rfl⟩ ⟨rfl, congrArg (fun z => some (Value.int z)) (by rw [← h15, zpl_of (by omega)]; rfl), rfl, rfl⟩
set_option maxRecDepth 100000 in
set_option maxHeartbeats 4000000 in
theorem w_standOf0 {G : zG} {I : zI} {J : zJ} (hT : mT0 I) {c : Int32} : zK G mX12_standOf 0 [.ref 62, .int c] zsh I J (zA0 (.int (pen (zpl c))) I J) := by
  refine zK_of kX12_standOf.2.2.2.2.1 (Nat.le_of_ble_eq_true rfl) ?_
  show V G mX12_standOf 0 _ 0 [(0, .ref 62), (1, .int c)] [] (0, 0) zsh I J
  refine V_iconst (v := nI 0) dX12_standOf_0 rfl ?_
  refine V_istore_n (ls' := [(2, .int (nI 0)), (0, .ref 62), (1, .int c)]) dX12_standOf_1 (by decide) rfl ?_
  refine V_sub2 (ls' := [(0, .ref 62), (1, .int c), (2, .int (nI 0))]) (List.forall_mem_cons.mpr ⟨rfl, List.forall_mem_cons.mpr ⟨rfl, List.forall_mem_cons.mpr ⟨rfl, fun _ h => absurd h List.not_mem_nil⟩⟩⟩) ?_
  exact lp_standOf0 hT 56 0 rfl (fun i hi => absurd hi (Nat.not_lt_zero _))
set_option maxRecDepth 100000 in
set_option maxHeartbeats 4000000 in
theorem w_inRing0 {G : zG} {I : zI} {J : zJ} (hT : mT0 I) {k : Nat} (hk : k < 56) {r : Nat} (hr : r < 5) : zK G mX12_inRing 1 [.ref 62, .int (nI k), .int (nI r)] zsh I J (zA0 (.int (nI (iR k r))) I J) := by
  refine zK_of kX12_inRing.2.2.2.2.1 (Nat.le_of_ble_eq_true rfl) ?_
  show V G mX12_inRing 1 _ 0 [(0, .ref 62), (1, .int (nI k)), (2, .int (nI r))] [] (0, 0) zsh I J
  have hC9 := tC_le hk
  have hu := @uN_b r
  have hd : tC k / uN r ≤ tC k := Nat.div_le_self _ _
  refine V_aload_n dX12_inRing_0 rfl ?_
  refine V_getR (b := 63) dX12_inRing_1 fX12_7 ⟨Nat.le_of_ble_eq_true rfl, Nat.le_of_ble_eq_true rfl⟩ rfl rfl rfl ?_
  refine V_iload_n dX12_inRing_4 rfl ?_
  refine V_ialdN (k := k) dX12_inRing_5 ⟨Nat.le_of_ble_eq_true rfl, Nat.le_of_ble_eq_true rfl⟩ rfl (by decide) (by omega) ?_
  refine V_eqI (y := nI (tC k)) (hT _ (by omega)) ?_
  refine V_iload_n dX12_inRing_6 rfl ?_
  refine V_callS (As := [.int (nI r)]) (st := [.int (nI (tC k))]) dX12_inRing_7 kX12_unitOf lX12_163 (by decide) rfl rfl (Nat.le_of_ble_eq_true rfl) ⟨Nat.le_of_ble_eq_true rfl, Nat.le_of_ble_eq_true rfl⟩ (w_unitOf (by omega)) ?_
  rintro _ _ _ _ ⟨rfl, rfl, rfl, rfl⟩
  refine V_idivN dX12_inRing_10 (by omega) (by omega) (by omega) ?_
  refine V_bipush (v := nI 10) dX12_inRing_11 rfl ?_
  refine V_iremN dX12_inRing_13 (by omega) (by omega) (by omega) ?_
  exact V_iret ⟨Or.inl rfl, dX12_inRing_14⟩ ⟨Nat.le_of_ble_eq_true rfl, Nat.le_of_ble_eq_true rfl⟩ ⟨rfl, rfl, rfl, rfl⟩
set_option maxRecDepth 100000 in
set_option maxHeartbeats 4000000 in
theorem lp_bestRing0 {G : zG} {I : zI} {J : zJ} (hT : mT0 I) {k : Nat} (hk : k < 56) : ∀ m r, r + m = 4 → r ≤ tBest k → V G mX12_bestRing 2 (zA0 (.int (nI (tBest k))) I J) 2 [(0, .ref 62), (1, .int (nI k)), (2, .int (nI r))] [] (0, 0) zsh I J := by
  have h4 := tBest_le hk
  intro m
  induction m with
  | zero =>
    intro r hr hb
    refine V_iload_n dX12_bestRing_2 rfl ?_
    refine V_iconst (v := nI 4) dX12_bestRing_3 rfl ?_
    refine V_icmp_geN (tgt := 23) dX12_bestRing_4 rfl (by omega) (by omega) (fun _ => ?_) (fun h => absurd h (by omega))
    refine V_iload_n dX12_bestRing_23 rfl ?_
    exact V_iret ⟨Or.inl rfl, dX12_bestRing_24⟩ ⟨Nat.le_of_ble_eq_true rfl, Nat.le_of_ble_eq_true rfl⟩ ⟨rfl, congrArg (fun z => some (Value.int (nI z))) (by omega), rfl, rfl⟩
  | succ m ih =>
    intro r hr hb
    refine V_iload_n dX12_bestRing_2 rfl ?_
    refine V_iconst (v := nI 4) dX12_bestRing_3 rfl ?_
    refine V_icmp_geN (tgt := 23) dX12_bestRing_4 rfl (by omega) (by omega) (fun h => absurd h (by omega)) (fun _ => ?_)
    refine V_aload_n dX12_bestRing_7 rfl ?_
    refine V_iload_n dX12_bestRing_8 rfl ?_
    refine V_iload_n dX12_bestRing_9 rfl ?_
    refine V_callV (As := [.int (nI k), .int (nI r)]) (st := []) (a := 62) dX12_bestRing_10 kX12_inRing lX12_177 (by decide) rfl rfl (Nat.le_of_ble_eq_true rfl) ⟨Nat.le_of_ble_eq_true rfl, Nat.le_of_ble_eq_true rfl⟩ ⟨Nat.le_of_ble_eq_true rfl, Nat.le_of_ble_eq_true rfl⟩ rfl ⟨rfl, by decide⟩ (w_inRing0 hT hk (by omega)) ?_
    rintro _ _ _ _ ⟨rfl, rfl, rfl, rfl⟩
    refine V_if_neN (tgt := 23) dX12_bestRing_13 rfl (by have := @iR_9 k r; omega) (fun h13 => ?_) (fun h13 => ?_)
    · skip
      refine V_iload_n dX12_bestRing_23 rfl ?_
      exact V_iret ⟨Or.inl rfl, dX12_bestRing_24⟩ ⟨Nat.le_of_ble_eq_true rfl, Nat.le_of_ble_eq_true rfl⟩ ⟨rfl, congrArg (fun z => some (Value.int (nI z))) (Nat.le_antisymm hb (Nat.le_of_not_lt (fun hlt => h13 (iR_b hk hlt)))), rfl, rfl⟩
    · skip
      refine V_iload_n dX12_bestRing_16 rfl ?_
      refine V_iconst (v := nI 1) dX12_bestRing_17 rfl ?_
      refine V_iaddN dX12_bestRing_18 ?_
      refine V_istore_n (ls' := [(2, .int (nI (r + 1))), (0, .ref 62), (1, .int (nI k))]) dX12_bestRing_19 (by decide) rfl ?_
      refine V_goto (tgt := 2) dX12_bestRing_20 rfl ?_
      refine V_sub2 (ls' := [(0, .ref 62), (1, .int (nI k)), (2, .int (nI (r + 1)))]) (List.forall_mem_cons.mpr ⟨rfl, List.forall_mem_cons.mpr ⟨rfl, List.forall_mem_cons.mpr ⟨rfl, fun _ h => absurd h List.not_mem_nil⟩⟩⟩) ?_
      refine ih (r + 1) (by omega) ?_
      by_cases he : r = tBest k
      · subst he; exact absurd h13 (iR_n hk (by omega))
      · omega
set_option maxRecDepth 100000 in
set_option maxHeartbeats 4000000 in
theorem w_bestRing0 {G : zG} {I : zI} {J : zJ} (hT : mT0 I) {k : Nat} (hk : k < 56) : zK G mX12_bestRing 2 [.ref 62, .int (nI k)] zsh I J (zA0 (.int (nI (tBest k))) I J) := by
  refine zK_of kX12_bestRing.2.2.2.2.1 (Nat.le_of_ble_eq_true rfl) ?_
  show V G mX12_bestRing 2 _ 0 [(0, .ref 62), (1, .int (nI k))] [] (0, 0) zsh I J
  refine V_iconst (v := nI 0) dX12_bestRing_0 rfl ?_
  refine V_istore_n (ls' := [(2, .int (nI 0)), (0, .ref 62), (1, .int (nI k))]) dX12_bestRing_1 (by decide) rfl ?_
  refine V_sub2 (ls' := [(0, .ref 62), (1, .int (nI k)), (2, .int (nI 0))]) (List.forall_mem_cons.mpr ⟨rfl, List.forall_mem_cons.mpr ⟨rfl, List.forall_mem_cons.mpr ⟨rfl, fun _ h => absurd h List.not_mem_nil⟩⟩⟩) ?_
  exact lp_bestRing0 hT hk 4 0 rfl (Nat.zero_le _)
