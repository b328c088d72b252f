/-! THE CLASS: small questions -/
theorem V_icmp_ltZ {G : zG} {M : zM} {d pc : Nat} {ls : List (Nat × Value)} {st : List Value} {cs : Nat × Nat} {sh : zS} {I : zI} {J : zJ} {Q : zQ} {x y : Int32} {a b : Int} {off : Int} {tgt : Nat} (hdg : decode (zcc M) pc = .ok (.if_icmp .lt off, 3)) (ht : (pc : Int) + off = (tgt : Int)) (hx : x.toInt = a) (hy : y.toInt = b) (k1 : a < b → V G M d Q tgt ls st cs sh I J) (k2 : ¬ a < b → V G M d Q (pc + 3) ls st cs sh I J) : V G M d Q pc ls (.int y :: .int x :: st) cs sh I J :=
  V_icmp_lt hdg ht (fun h => k1 (by rw [← hx, ← hy]; exact Int32.lt_iff_toInt_lt.mp h)) (fun h => k2 (fun e => h (Int32.lt_iff_toInt_lt.mpr (by rw [hx, hy]; exact e))))
theorem V_if_ltZ {G : zG} {M : zM} {d pc : Nat} {ls : List (Nat × Value)} {st : List Value} {cs : Nat × Nat} {sh : zS} {I : zI} {J : zJ} {Q : zQ} {x : Int32} {a : Int} {off : Int} {tgt : Nat} (hdg : decode (zcc M) pc = .ok (.ifCond .lt off, 3)) (ht : (pc : Int) + off = (tgt : Int)) (hx : x.toInt = a) (k1 : a < 0 → V G M d Q tgt ls st cs sh I J) (k2 : ¬ a < 0 → V G M d Q (pc + 3) ls st cs sh I J) : V G M d Q pc ls (.int x :: st) cs sh I J :=
  V_if_lt hdg ht (fun h => k1 (by rw [← hx]; exact oz_lt.mp h)) (fun h => k2 (fun e => h (oz_lt.mpr (by rw [hx]; exact e))))
theorem V_icmp_geZ {G : zG} {M : zM} {d pc : Nat} {ls : List (Nat × Value)} {st : List Value} {cs : Nat × Nat} {sh : zS} {I : zI} {J : zJ} {Q : zQ} {x y : Int32} {a b : Int} {off : Int} {tgt : Nat} (hdg : decode (zcc M) pc = .ok (.if_icmp .ge off, 3)) (ht : (pc : Int) + off = (tgt : Int)) (hx : x.toInt = a) (hy : y.toInt = b) (k1 : b ≤ a → V G M d Q tgt ls st cs sh I J) (k2 : ¬ b ≤ a → V G M d Q (pc + 3) ls st cs sh I J) : V G M d Q pc ls (.int y :: .int x :: st) cs sh I J :=
  V_icmp_ge hdg ht (fun h => k1 (by rw [← hx, ← hy]; exact Int32.le_iff_toInt_le.mp h)) (fun h => k2 (fun e => h (Int32.le_iff_toInt_le.mpr (by rw [hx, hy]; exact e))))
theorem V_if_geZ {G : zG} {M : zM} {d pc : Nat} {ls : List (Nat × Value)} {st : List Value} {cs : Nat × Nat} {sh : zS} {I : zI} {J : zJ} {Q : zQ} {x : Int32} {a : Int} {off : Int} {tgt : Nat} (hdg : decode (zcc M) pc = .ok (.ifCond .ge off, 3)) (ht : (pc : Int) + off = (tgt : Int)) (hx : x.toInt = a) (k1 : 0 ≤ a → V G M d Q tgt ls st cs sh I J) (k2 : ¬ 0 ≤ a → V G M d Q (pc + 3) ls st cs sh I J) : V G M d Q pc ls (.int x :: st) cs sh I J :=
  V_if_ge hdg ht (fun h => k1 (by rw [← hx]; exact oz_ge.mp h)) (fun h => k2 (fun e => h (oz_ge.mpr (by rw [hx]; exact e))))
theorem V_icmp_gtZ {G : zG} {M : zM} {d pc : Nat} {ls : List (Nat × Value)} {st : List Value} {cs : Nat × Nat} {sh : zS} {I : zI} {J : zJ} {Q : zQ} {x y : Int32} {a b : Int} {off : Int} {tgt : Nat} (hdg : decode (zcc M) pc = .ok (.if_icmp .gt off, 3)) (ht : (pc : Int) + off = (tgt : Int)) (hx : x.toInt = a) (hy : y.toInt = b) (k1 : b < a → V G M d Q tgt ls st cs sh I J) (k2 : ¬ b < a → V G M d Q (pc + 3) ls st cs sh I J) : V G M d Q pc ls (.int y :: .int x :: st) cs sh I J :=
  V_icmp_gt hdg ht (fun h => k1 (by rw [← hx, ← hy]; exact Int32.lt_iff_toInt_lt.mp h)) (fun h => k2 (fun e => h (Int32.lt_iff_toInt_lt.mpr (by rw [hx, hy]; exact e))))
theorem V_if_gtZ {G : zG} {M : zM} {d pc : Nat} {ls : List (Nat × Value)} {st : List Value} {cs : Nat × Nat} {sh : zS} {I : zI} {J : zJ} {Q : zQ} {x : Int32} {a : Int} {off : Int} {tgt : Nat} (hdg : decode (zcc M) pc = .ok (.ifCond .gt off, 3)) (ht : (pc : Int) + off = (tgt : Int)) (hx : x.toInt = a) (k1 : 0 < a → V G M d Q tgt ls st cs sh I J) (k2 : ¬ 0 < a → V G M d Q (pc + 3) ls st cs sh I J) : V G M d Q pc ls (.int x :: st) cs sh I J :=
  V_if_gt hdg ht (fun h => k1 (by rw [← hx]; exact oz_gt.mp h)) (fun h => k2 (fun e => h (oz_gt.mpr (by rw [hx]; exact e))))
theorem V_icmp_leZ {G : zG} {M : zM} {d pc : Nat} {ls : List (Nat × Value)} {st : List Value} {cs : Nat × Nat} {sh : zS} {I : zI} {J : zJ} {Q : zQ} {x y : Int32} {a b : Int} {off : Int} {tgt : Nat} (hdg : decode (zcc M) pc = .ok (.if_icmp .le off, 3)) (ht : (pc : Int) + off = (tgt : Int)) (hx : x.toInt = a) (hy : y.toInt = b) (k1 : a ≤ b → V G M d Q tgt ls st cs sh I J) (k2 : ¬ a ≤ b → V G M d Q (pc + 3) ls st cs sh I J) : V G M d Q pc ls (.int y :: .int x :: st) cs sh I J :=
  V_icmp_le hdg ht (fun h => k1 (by rw [← hx, ← hy]; exact Int32.le_iff_toInt_le.mp h)) (fun h => k2 (fun e => h (Int32.le_iff_toInt_le.mpr (by rw [hx, hy]; exact e))))
theorem V_if_leZ {G : zG} {M : zM} {d pc : Nat} {ls : List (Nat × Value)} {st : List Value} {cs : Nat × Nat} {sh : zS} {I : zI} {J : zJ} {Q : zQ} {x : Int32} {a : Int} {off : Int} {tgt : Nat} (hdg : decode (zcc M) pc = .ok (.ifCond .le off, 3)) (ht : (pc : Int) + off = (tgt : Int)) (hx : x.toInt = a) (k1 : a ≤ 0 → V G M d Q tgt ls st cs sh I J) (k2 : ¬ a ≤ 0 → V G M d Q (pc + 3) ls st cs sh I J) : V G M d Q pc ls (.int x :: st) cs sh I J :=
  V_if_le hdg ht (fun h => k1 (by rw [← hx]; exact oz_le.mp h)) (fun h => k2 (fun e => h (oz_le.mpr (by rw [hx]; exact e))))
theorem V_icmp_eqZ {G : zG} {M : zM} {d pc : Nat} {ls : List (Nat × Value)} {st : List Value} {cs : Nat × Nat} {sh : zS} {I : zI} {J : zJ} {Q : zQ} {x y : Int32} {a b : Int} {off : Int} {tgt : Nat} (hdg : decode (zcc M) pc = .ok (.if_icmp .eq off, 3)) (ht : (pc : Int) + off = (tgt : Int)) (hx : x.toInt = a) (hy : y.toInt = b) (k1 : a = b → V G M d Q tgt ls st cs sh I J) (k2 : ¬ a = b → V G M d Q (pc + 3) ls st cs sh I J) : V G M d Q pc ls (.int y :: .int x :: st) cs sh I J :=
  V_icmp_eq hdg ht (fun h => k1 (by rw [← hx, ← hy, h])) (fun h => k2 (fun e => h (Int32.toInt_inj.mp (by rw [hx, hy, e]))))
theorem V_if_eqZ {G : zG} {M : zM} {d pc : Nat} {ls : List (Nat × Value)} {st : List Value} {cs : Nat × Nat} {sh : zS} {I : zI} {J : zJ} {Q : zQ} {x : Int32} {a : Int} {off : Int} {tgt : Nat} (hdg : decode (zcc M) pc = .ok (.ifCond .eq off, 3)) (ht : (pc : Int) + off = (tgt : Int)) (hx : x.toInt = a) (k1 : a = 0 → V G M d Q tgt ls st cs sh I J) (k2 : ¬ a = 0 → V G M d Q (pc + 3) ls st cs sh I J) : V G M d Q pc ls (.int x :: st) cs sh I J :=
  V_if_eq hdg ht (fun h => k1 (by rw [← hx]; exact oz_eq.mp h)) (fun h => k2 (fun e => h (oz_eq.mpr (by rw [hx]; exact e))))
theorem V_icmp_neZ {G : zG} {M : zM} {d pc : Nat} {ls : List (Nat × Value)} {st : List Value} {cs : Nat × Nat} {sh : zS} {I : zI} {J : zJ} {Q : zQ} {x y : Int32} {a b : Int} {off : Int} {tgt : Nat} (hdg : decode (zcc M) pc = .ok (.if_icmp .ne off, 3)) (ht : (pc : Int) + off = (tgt : Int)) (hx : x.toInt = a) (hy : y.toInt = b) (k1 : ¬ a = b → V G M d Q tgt ls st cs sh I J) (k2 : a = b → V G M d Q (pc + 3) ls st cs sh I J) : V G M d Q pc ls (.int y :: .int x :: st) cs sh I J :=
  V_icmp_ne hdg ht (fun h => k1 (fun e => h (Int32.toInt_inj.mp (by rw [hx, hy, e])))) (fun h => k2 (by rw [← hx, ← hy, h]))
theorem V_if_neZ {G : zG} {M : zM} {d pc : Nat} {ls : List (Nat × Value)} {st : List Value} {cs : Nat × Nat} {sh : zS} {I : zI} {J : zJ} {Q : zQ} {x : Int32} {a : Int} {off : Int} {tgt : Nat} (hdg : decode (zcc M) pc = .ok (.ifCond .ne off, 3)) (ht : (pc : Int) + off = (tgt : Int)) (hx : x.toInt = a) (k1 : ¬ a = 0 → V G M d Q tgt ls st cs sh I J) (k2 : a = 0 → V G M d Q (pc + 3) ls st cs sh I J) : V G M d Q pc ls (.int x :: st) cs sh I J :=
  V_if_ne hdg ht (fun h => k1 (fun e => h (oz_eq.mpr (by rw [hx]; exact e)))) (fun h => k2 (by rw [← hx]; exact oz_eq.mp h))
/-- an int from lo to hi -/
abbrev inZ (x : Int32) (lo hi : Int) : Prop := lo ≤ x.toInt ∧ x.toInt ≤ hi
theorem inZ_n {x : Int32} {lo hi : Int} (h : inZ x lo hi) (h0 : 0 ≤ lo) : ∃ k : Nat, x = nI k ∧ lo ≤ k ∧ k ≤ hi := by
  refine ⟨x.toInt.toNat, ?_, by have := h.1; omega, by have := h.1; have := h.2; omega⟩
  apply Int32.toInt_inj.mp
  have h2 := x.toInt_lt
  have := h.1
  rw [nI_toInt (by omega)]
  omega
theorem inZ_k {k : Nat} {lo hi : Int} (hk : k < 2 ^ 31) : inZ (nI k) lo hi ↔ lo ≤ k ∧ k ≤ hi := by
  unfold inZ
  rw [nI_toInt hk]
set_option maxRecDepth 100000 in
set_option maxHeartbeats 4000000 in
theorem q_isFar {G : zG} {I : zI} {J : zJ} {x : Int32} : zK G mX11_isFar 0 [.int x] zsh I J (zA0 (.int (nI (if inZ x 6 10 then 1 else 0))) I J) := by
  refine zK_of kX11_isFar.2.2.2.2.1 (Nat.le_of_ble_eq_true rfl) ?_
  show V G mX11_isFar 0 _ 0 [(0, .int x)] [] (0, 0) zsh I J
  refine V_iload_n dX11_isFar_0 rfl ?_
  refine V_bipush (v := nI 6) dX11_isFar_1 rfl ?_
  refine V_icmp_ltZ (tgt := 16) (a := x.toInt) (b := 6) dX11_isFar_3 rfl rfl (by decide) (fun h3 => ?_) (fun h3 => ?_)
  · skip
    refine V_iconst (v := nI 0) dX11_isFar_16 rfl ?_
    exact V_iret ⟨Or.inr ⟨rfl, Or.inl rfl⟩, dX11_isFar_17⟩ ⟨Nat.le_of_ble_eq_true rfl, Nat.le_of_ble_eq_true rfl⟩ ⟨rfl, by rw [if_neg (by omega)], rfl, rfl⟩
  · skip
    refine V_iload_n dX11_isFar_6 rfl ?_
    refine V_bipush (v := nI 10) dX11_isFar_7 rfl ?_
    refine V_icmp_gtZ (tgt := 16) (a := x.toInt) (b := 10) dX11_isFar_9 rfl rfl (by decide) (fun h9 => ?_) (fun h9 => ?_)
    · skip
      refine V_iconst (v := nI 0) dX11_isFar_16 rfl ?_
      exact V_iret ⟨Or.inr ⟨rfl, Or.inl rfl⟩, dX11_isFar_17⟩ ⟨Nat.le_of_ble_eq_true rfl, Nat.le_of_ble_eq_true rfl⟩ ⟨rfl, by rw [if_neg (by omega)], rfl, rfl⟩
    · skip
      refine V_iconst (v := nI 1) dX11_isFar_12 rfl ?_
      refine V_goto (tgt := 17) dX11_isFar_13 rfl ?_
      exact V_iret ⟨Or.inr ⟨rfl, Or.inr rfl⟩, dX11_isFar_17⟩ ⟨Nat.le_of_ble_eq_true rfl, Nat.le_of_ble_eq_true rfl⟩ ⟨rfl, by rw [if_pos (by omega)], rfl, rfl⟩

set_option maxRecDepth 100000 in
set_option maxHeartbeats 4000000 in
theorem q_isSide {G : zG} {I : zI} {J : zJ} {x : Int32} : zK G mX11_isSide 0 [.int x] zsh I J (zA0 (.int (nI (if inZ x 0 1 then 1 else 0))) I J) := by
  refine zK_of kX11_isSide.2.2.2.2.1 (Nat.le_of_ble_eq_true rfl) ?_
  show V G mX11_isSide 0 _ 0 [(0, .int x)] [] (0, 0) zsh I J
  refine V_iload_n dX11_isSide_0 rfl ?_
  refine V_if_eqZ (tgt := 9) (a := x.toInt) dX11_isSide_1 rfl rfl (fun h1 => ?_) (fun h1 => ?_)
  · skip
    refine V_iconst (v := nI 1) dX11_isSide_9 rfl ?_
    refine V_goto (tgt := 14) dX11_isSide_10 rfl ?_
    exact V_iret ⟨Or.inr ⟨rfl, Or.inr rfl⟩, dX11_isSide_14⟩ ⟨Nat.le_of_ble_eq_true rfl, Nat.le_of_ble_eq_true rfl⟩ ⟨rfl, by rw [if_pos (by omega)], rfl, rfl⟩
  · skip
    refine V_iload_n dX11_isSide_4 rfl ?_
    refine V_iconst (v := nI 1) dX11_isSide_5 rfl ?_
    refine V_icmp_neZ (tgt := 13) (a := x.toInt) (b := 1) dX11_isSide_6 rfl rfl (by decide) (fun h6 => ?_) (fun h6 => ?_)
    · skip
      refine V_iconst (v := nI 0) dX11_isSide_13 rfl ?_
      exact V_iret ⟨Or.inr ⟨rfl, Or.inl rfl⟩, dX11_isSide_14⟩ ⟨Nat.le_of_ble_eq_true rfl, Nat.le_of_ble_eq_true rfl⟩ ⟨rfl, by rw [if_neg (by omega)], rfl, rfl⟩
    · skip
      refine V_iconst (v := nI 1) dX11_isSide_9 rfl ?_
      refine V_goto (tgt := 14) dX11_isSide_10 rfl ?_
      exact V_iret ⟨Or.inr ⟨rfl, Or.inr rfl⟩, dX11_isSide_14⟩ ⟨Nat.le_of_ble_eq_true rfl, Nat.le_of_ble_eq_true rfl⟩ ⟨rfl, by rw [if_pos (by omega)], rfl, rfl⟩

set_option maxRecDepth 100000 in
set_option maxHeartbeats 4000000 in
theorem q_isValueOrThrow {G : zG} {I : zI} {J : zJ} {x : Int32} : zK G mX11_isValueOrThrow 0 [.int x] zsh I J (zA0 (.int (nI (if inZ x 0 1 then 1 else 0))) I J) := by
  refine zK_of kX11_isValueOrThrow.2.2.2.2.1 (Nat.le_of_ble_eq_true rfl) ?_
  show V G mX11_isValueOrThrow 0 _ 0 [(0, .int x)] [] (0, 0) zsh I J
  refine V_iload_n dX11_isValueOrThrow_0 rfl ?_
  refine V_if_eqZ (tgt := 9) (a := x.toInt) dX11_isValueOrThrow_1 rfl rfl (fun h1 => ?_) (fun h1 => ?_)
  · skip
    refine V_iconst (v := nI 1) dX11_isValueOrThrow_9 rfl ?_
    refine V_goto (tgt := 14) dX11_isValueOrThrow_10 rfl ?_
    exact V_iret ⟨Or.inr ⟨rfl, Or.inr rfl⟩, dX11_isValueOrThrow_14⟩ ⟨Nat.le_of_ble_eq_true rfl, Nat.le_of_ble_eq_true rfl⟩ ⟨rfl, by rw [if_pos (by omega)], rfl, rfl⟩
  · skip
    refine V_iload_n dX11_isValueOrThrow_4 rfl ?_
    refine V_iconst (v := nI 1) dX11_isValueOrThrow_5 rfl ?_
    refine V_icmp_neZ (tgt := 13) (a := x.toInt) (b := 1) dX11_isValueOrThrow_6 rfl rfl (by decide) (fun h6 => ?_) (fun h6 => ?_)
    · skip
      refine V_iconst (v := nI 0) dX11_isValueOrThrow_13 rfl ?_
      exact V_iret ⟨Or.inr ⟨rfl, Or.inl rfl⟩, dX11_isValueOrThrow_14⟩ ⟨Nat.le_of_ble_eq_true rfl, Nat.le_of_ble_eq_true rfl⟩ ⟨rfl, by rw [if_neg (by omega)], rfl, rfl⟩
    · skip
      refine V_iconst (v := nI 1) dX11_isValueOrThrow_9 rfl ?_
      refine V_goto (tgt := 14) dX11_isValueOrThrow_10 rfl ?_
      exact V_iret ⟨Or.inr ⟨rfl, Or.inr rfl⟩, dX11_isValueOrThrow_14⟩ ⟨Nat.le_of_ble_eq_true rfl, Nat.le_of_ble_eq_true rfl⟩ ⟨rfl, by rw [if_pos (by omega)], rfl, rfl⟩

set_option maxRecDepth 100000 in
set_option maxHeartbeats 4000000 in
theorem q_isCount {G : zG} {I : zI} {J : zJ} {x : Int32} : zK G mX11_isCount 0 [.int x] zsh I J (zA0 (.int (nI (if inZ x (-3) 3 then 1 else 0))) I J) := by
  refine zK_of kX11_isCount.2.2.2.2.1 (Nat.le_of_ble_eq_true rfl) ?_
  show V G mX11_isCount 0 _ 0 [(0, .int x)] [] (0, 0) zsh I J
  refine V_iload_n dX11_isCount_0 rfl ?_
  refine V_bipush (v := (-3)) dX11_isCount_1 rfl ?_
  refine V_icmp_ltZ (tgt := 15) (a := x.toInt) (b := (-3)) dX11_isCount_3 rfl rfl (by decide) (fun h3 => ?_) (fun h3 => ?_)
  · skip
    refine V_iconst (v := nI 0) dX11_isCount_15 rfl ?_
    exact V_iret ⟨Or.inr ⟨rfl, Or.inl rfl⟩, dX11_isCount_16⟩ ⟨Nat.le_of_ble_eq_true rfl, Nat.le_of_ble_eq_true rfl⟩ ⟨rfl, by rw [if_neg (by omega)], rfl, rfl⟩
  · skip
    refine V_iload_n dX11_isCount_6 rfl ?_
    refine V_iconst (v := nI 3) dX11_isCount_7 rfl ?_
    refine V_icmp_gtZ (tgt := 15) (a := x.toInt) (b := 3) dX11_isCount_8 rfl rfl (by decide) (fun h8 => ?_) (fun h8 => ?_)
    · skip
      refine V_iconst (v := nI 0) dX11_isCount_15 rfl ?_
      exact V_iret ⟨Or.inr ⟨rfl, Or.inl rfl⟩, dX11_isCount_16⟩ ⟨Nat.le_of_ble_eq_true rfl, Nat.le_of_ble_eq_true rfl⟩ ⟨rfl, by rw [if_neg (by omega)], rfl, rfl⟩
    · skip
      refine V_iconst (v := nI 1) dX11_isCount_11 rfl ?_
      refine V_goto (tgt := 16) dX11_isCount_12 rfl ?_
      exact V_iret ⟨Or.inr ⟨rfl, Or.inr rfl⟩, dX11_isCount_16⟩ ⟨Nat.le_of_ble_eq_true rfl, Nat.le_of_ble_eq_true rfl⟩ ⟨rfl, by rw [if_pos (by omega)], rfl, rfl⟩

set_option maxRecDepth 100000 in
set_option maxHeartbeats 4000000 in
theorem q_isScore {G : zG} {I : zI} {J : zJ} {x : Int32} : zK G mX11_isScore 0 [.int x] zsh I J (zA0 (.int (nI (if inZ x 0 13 then 1 else 0))) I J) := by
  refine zK_of kX11_isScore.2.2.2.2.1 (Nat.le_of_ble_eq_true rfl) ?_
  show V G mX11_isScore 0 _ 0 [(0, .int x)] [] (0, 0) zsh I J
  refine V_iload_n dX11_isScore_0 rfl ?_
  refine V_if_ltZ (tgt := 14) (a := x.toInt) dX11_isScore_1 rfl rfl (fun h1 => ?_) (fun h1 => ?_)
  · skip
    refine V_iconst (v := nI 0) dX11_isScore_14 rfl ?_
    exact V_iret ⟨Or.inr ⟨rfl, Or.inl rfl⟩, dX11_isScore_15⟩ ⟨Nat.le_of_ble_eq_true rfl, Nat.le_of_ble_eq_true rfl⟩ ⟨rfl, by rw [if_neg (by omega)], rfl, rfl⟩
  · skip
    refine V_iload_n dX11_isScore_4 rfl ?_
    refine V_bipush (v := nI 13) dX11_isScore_5 rfl ?_
    refine V_icmp_gtZ (tgt := 14) (a := x.toInt) (b := 13) dX11_isScore_7 rfl rfl (by decide) (fun h7 => ?_) (fun h7 => ?_)
    · skip
      refine V_iconst (v := nI 0) dX11_isScore_14 rfl ?_
      exact V_iret ⟨Or.inr ⟨rfl, Or.inl rfl⟩, dX11_isScore_15⟩ ⟨Nat.le_of_ble_eq_true rfl, Nat.le_of_ble_eq_true rfl⟩ ⟨rfl, by rw [if_neg (by omega)], rfl, rfl⟩
    · skip
      refine V_iconst (v := nI 1) dX11_isScore_10 rfl ?_
      refine V_goto (tgt := 15) dX11_isScore_11 rfl ?_
      exact V_iret ⟨Or.inr ⟨rfl, Or.inr rfl⟩, dX11_isScore_15⟩ ⟨Nat.le_of_ble_eq_true rfl, Nat.le_of_ble_eq_true rfl⟩ ⟨rfl, by rw [if_pos (by omega)], rfl, rfl⟩

set_option maxRecDepth 100000 in
set_option maxHeartbeats 4000000 in
theorem q_isRule {G : zG} {I : zI} {J : zJ} {x : Int32} : zK G mX11_isRule 0 [.int x] zsh I J (zA0 (.int (nI (if inZ x 0 3 then 1 else 0))) I J) := by
  refine zK_of kX11_isRule.2.2.2.2.1 (Nat.le_of_ble_eq_true rfl) ?_
  show V G mX11_isRule 0 _ 0 [(0, .int x)] [] (0, 0) zsh I J
  refine V_iload_n dX11_isRule_0 rfl ?_
  refine V_if_ltZ (tgt := 13) (a := x.toInt) dX11_isRule_1 rfl rfl (fun h1 => ?_) (fun h1 => ?_)
  · skip
    refine V_iconst (v := nI 0) dX11_isRule_13 rfl ?_
    exact V_iret ⟨Or.inr ⟨rfl, Or.inl rfl⟩, dX11_isRule_14⟩ ⟨Nat.le_of_ble_eq_true rfl, Nat.le_of_ble_eq_true rfl⟩ ⟨rfl, by rw [if_neg (by omega)], rfl, rfl⟩
  · skip
    refine V_iload_n dX11_isRule_4 rfl ?_
    refine V_iconst (v := nI 4) dX11_isRule_5 rfl ?_
    refine V_icmp_geZ (tgt := 13) (a := x.toInt) (b := 4) dX11_isRule_6 rfl rfl (by decide) (fun h6 => ?_) (fun h6 => ?_)
    · skip
      refine V_iconst (v := nI 0) dX11_isRule_13 rfl ?_
      exact V_iret ⟨Or.inr ⟨rfl, Or.inl rfl⟩, dX11_isRule_14⟩ ⟨Nat.le_of_ble_eq_true rfl, Nat.le_of_ble_eq_true rfl⟩ ⟨rfl, by rw [if_neg (by omega)], rfl, rfl⟩
    · skip
      refine V_iconst (v := nI 1) dX11_isRule_9 rfl ?_
      refine V_goto (tgt := 14) dX11_isRule_10 rfl ?_
      exact V_iret ⟨Or.inr ⟨rfl, Or.inr rfl⟩, dX11_isRule_14⟩ ⟨Nat.le_of_ble_eq_true rfl, Nat.le_of_ble_eq_true rfl⟩ ⟨rfl, by rw [if_pos (by omega)], rfl, rfl⟩

set_option maxRecDepth 100000 in
set_option maxHeartbeats 4000000 in
theorem q_isGuess {G : zG} {I : zI} {J : zJ} {x y : Int32} : zK G mX11_isGuess 0 [.int x, .int y] zsh I J (zA0 (.int (nI (if inZ x 0 10 ∧ inZ y 0 3 then 1 else 0))) I J) := by
  refine zK_of kX11_isGuess.2.2.2.2.1 (Nat.le_of_ble_eq_true rfl) ?_
  show V G mX11_isGuess 0 _ 0 [(0, .int x), (1, .int y)] [] (0, 0) zsh I J
  refine V_iload_n dX11_isGuess_0 rfl ?_
  refine V_if_ltZ (tgt := 23) (a := x.toInt) dX11_isGuess_1 rfl rfl (fun h1 => ?_) (fun h1 => ?_)
  · skip
    refine V_iconst (v := nI 0) dX11_isGuess_23 rfl ?_
    exact V_iret ⟨Or.inr ⟨rfl, Or.inl rfl⟩, dX11_isGuess_24⟩ ⟨Nat.le_of_ble_eq_true rfl, Nat.le_of_ble_eq_true rfl⟩ ⟨rfl, by rw [if_neg (by omega)], rfl, rfl⟩
  · skip
    refine V_iload_n dX11_isGuess_4 rfl ?_
    refine V_bipush (v := nI 10) dX11_isGuess_5 rfl ?_
    refine V_icmp_gtZ (tgt := 23) (a := x.toInt) (b := 10) dX11_isGuess_7 rfl rfl (by decide) (fun h7 => ?_) (fun h7 => ?_)
    · skip
      refine V_iconst (v := nI 0) dX11_isGuess_23 rfl ?_
      exact V_iret ⟨Or.inr ⟨rfl, Or.inl rfl⟩, dX11_isGuess_24⟩ ⟨Nat.le_of_ble_eq_true rfl, Nat.le_of_ble_eq_true rfl⟩ ⟨rfl, by rw [if_neg (by omega)], rfl, rfl⟩
    · skip
      refine V_iload_n dX11_isGuess_10 rfl ?_
      refine V_if_ltZ (tgt := 23) (a := y.toInt) dX11_isGuess_11 rfl rfl (fun h11 => ?_) (fun h11 => ?_)
      · skip
        refine V_iconst (v := nI 0) dX11_isGuess_23 rfl ?_
        exact V_iret ⟨Or.inr ⟨rfl, Or.inl rfl⟩, dX11_isGuess_24⟩ ⟨Nat.le_of_ble_eq_true rfl, Nat.le_of_ble_eq_true rfl⟩ ⟨rfl, by rw [if_neg (by omega)], rfl, rfl⟩
      · skip
        refine V_iload_n dX11_isGuess_14 rfl ?_
        refine V_iconst (v := nI 3) dX11_isGuess_15 rfl ?_
        refine V_icmp_gtZ (tgt := 23) (a := y.toInt) (b := 3) dX11_isGuess_16 rfl rfl (by decide) (fun h16 => ?_) (fun h16 => ?_)
        · skip
          refine V_iconst (v := nI 0) dX11_isGuess_23 rfl ?_
          exact V_iret ⟨Or.inr ⟨rfl, Or.inl rfl⟩, dX11_isGuess_24⟩ ⟨Nat.le_of_ble_eq_true rfl, Nat.le_of_ble_eq_true rfl⟩ ⟨rfl, by rw [if_neg (by omega)], rfl, rfl⟩
        · skip
          refine V_iconst (v := nI 1) dX11_isGuess_19 rfl ?_
          refine V_goto (tgt := 24) dX11_isGuess_20 rfl ?_
          exact V_iret ⟨Or.inr ⟨rfl, Or.inr rfl⟩, dX11_isGuess_24⟩ ⟨Nat.le_of_ble_eq_true rfl, Nat.le_of_ble_eq_true rfl⟩ ⟨rfl, by rw [if_pos (by omega)], rfl, rfl⟩

set_option maxRecDepth 100000 in
set_option maxHeartbeats 4000000 in
theorem q_isSpot {G : zG} {I : zI} {J : zJ} {x y : Int32} : zK G mX11_isSpot 0 [.int x, .int y] zsh I J (zA0 (.int (nI (if inZ x 0 7 ∧ inZ y 0 7 then 1 else 0))) I J) := by
  refine zK_of kX11_isSpot.2.2.2.2.1 (Nat.le_of_ble_eq_true rfl) ?_
  show V G mX11_isSpot 0 _ 0 [(0, .int x), (1, .int y)] [] (0, 0) zsh I J
  refine V_iload_n dX11_isSpot_0 rfl ?_
  refine V_if_ltZ (tgt := 24) (a := x.toInt) dX11_isSpot_1 rfl rfl (fun h1 => ?_) (fun h1 => ?_)
  · skip
    refine V_iconst (v := nI 0) dX11_isSpot_24 rfl ?_
    exact V_iret ⟨Or.inr ⟨rfl, Or.inl rfl⟩, dX11_isSpot_25⟩ ⟨Nat.le_of_ble_eq_true rfl, Nat.le_of_ble_eq_true rfl⟩ ⟨rfl, by rw [if_neg (by omega)], rfl, rfl⟩
  · skip
    refine V_iload_n dX11_isSpot_4 rfl ?_
    refine V_bipush (v := nI 8) dX11_isSpot_5 rfl ?_
    refine V_icmp_geZ (tgt := 24) (a := x.toInt) (b := 8) dX11_isSpot_7 rfl rfl (by decide) (fun h7 => ?_) (fun h7 => ?_)
    · skip
      refine V_iconst (v := nI 0) dX11_isSpot_24 rfl ?_
      exact V_iret ⟨Or.inr ⟨rfl, Or.inl rfl⟩, dX11_isSpot_25⟩ ⟨Nat.le_of_ble_eq_true rfl, Nat.le_of_ble_eq_true rfl⟩ ⟨rfl, by rw [if_neg (by omega)], rfl, rfl⟩
    · skip
      refine V_iload_n dX11_isSpot_10 rfl ?_
      refine V_if_ltZ (tgt := 24) (a := y.toInt) dX11_isSpot_11 rfl rfl (fun h11 => ?_) (fun h11 => ?_)
      · skip
        refine V_iconst (v := nI 0) dX11_isSpot_24 rfl ?_
        exact V_iret ⟨Or.inr ⟨rfl, Or.inl rfl⟩, dX11_isSpot_25⟩ ⟨Nat.le_of_ble_eq_true rfl, Nat.le_of_ble_eq_true rfl⟩ ⟨rfl, by rw [if_neg (by omega)], rfl, rfl⟩
      · skip
        refine V_iload_n dX11_isSpot_14 rfl ?_
        refine V_bipush (v := nI 8) dX11_isSpot_15 rfl ?_
        refine V_icmp_geZ (tgt := 24) (a := y.toInt) (b := 8) dX11_isSpot_17 rfl rfl (by decide) (fun h17 => ?_) (fun h17 => ?_)
        · skip
          refine V_iconst (v := nI 0) dX11_isSpot_24 rfl ?_
          exact V_iret ⟨Or.inr ⟨rfl, Or.inl rfl⟩, dX11_isSpot_25⟩ ⟨Nat.le_of_ble_eq_true rfl, Nat.le_of_ble_eq_true rfl⟩ ⟨rfl, by rw [if_neg (by omega)], rfl, rfl⟩
        · skip
          refine V_iconst (v := nI 1) dX11_isSpot_20 rfl ?_
          refine V_goto (tgt := 25) dX11_isSpot_21 rfl ?_
          exact V_iret ⟨Or.inr ⟨rfl, Or.inr rfl⟩, dX11_isSpot_25⟩ ⟨Nat.le_of_ble_eq_true rfl, Nat.le_of_ble_eq_true rfl⟩ ⟨rfl, by rw [if_pos (by omega)], rfl, rfl⟩

set_option maxRecDepth 100000 in
set_option maxHeartbeats 4000000 in
theorem q_isPlace {G : zG} {I : zI} {J : zJ} {x y : Int32} : zK G mX11_isPlace 0 [.int x, .int y] zsh I J (zA0 (.int (nI (if inZ x 0 99 ∧ inZ y 0 99 then 1 else 0))) I J) := by
  refine zK_of kX11_isPlace.2.2.2.2.1 (Nat.le_of_ble_eq_true rfl) ?_
  show V G mX11_isPlace 0 _ 0 [(0, .int x), (1, .int y)] [] (0, 0) zsh I J
  refine V_iload_n dX11_isPlace_0 rfl ?_
  refine V_if_ltZ (tgt := 24) (a := x.toInt) dX11_isPlace_1 rfl rfl (fun h1 => ?_) (fun h1 => ?_)
  · skip
    refine V_iconst (v := nI 0) dX11_isPlace_24 rfl ?_
    exact V_iret ⟨Or.inr ⟨rfl, Or.inl rfl⟩, dX11_isPlace_25⟩ ⟨Nat.le_of_ble_eq_true rfl, Nat.le_of_ble_eq_true rfl⟩ ⟨rfl, by rw [if_neg (by omega)], rfl, rfl⟩
  · skip
    refine V_iload_n dX11_isPlace_4 rfl ?_
    refine V_bipush (v := nI 99) dX11_isPlace_5 rfl ?_
    refine V_icmp_gtZ (tgt := 24) (a := x.toInt) (b := 99) dX11_isPlace_7 rfl rfl (by decide) (fun h7 => ?_) (fun h7 => ?_)
    · skip
      refine V_iconst (v := nI 0) dX11_isPlace_24 rfl ?_
      exact V_iret ⟨Or.inr ⟨rfl, Or.inl rfl⟩, dX11_isPlace_25⟩ ⟨Nat.le_of_ble_eq_true rfl, Nat.le_of_ble_eq_true rfl⟩ ⟨rfl, by rw [if_neg (by omega)], rfl, rfl⟩
    · skip
      refine V_iload_n dX11_isPlace_10 rfl ?_
      refine V_if_ltZ (tgt := 24) (a := y.toInt) dX11_isPlace_11 rfl rfl (fun h11 => ?_) (fun h11 => ?_)
      · skip
        refine V_iconst (v := nI 0) dX11_isPlace_24 rfl ?_
        exact V_iret ⟨Or.inr ⟨rfl, Or.inl rfl⟩, dX11_isPlace_25⟩ ⟨Nat.le_of_ble_eq_true rfl, Nat.le_of_ble_eq_true rfl⟩ ⟨rfl, by rw [if_neg (by omega)], rfl, rfl⟩
      · skip
        refine V_iload_n dX11_isPlace_14 rfl ?_
        refine V_bipush (v := nI 99) dX11_isPlace_15 rfl ?_
        refine V_icmp_gtZ (tgt := 24) (a := y.toInt) (b := 99) dX11_isPlace_17 rfl rfl (by decide) (fun h17 => ?_) (fun h17 => ?_)
        · skip
          refine V_iconst (v := nI 0) dX11_isPlace_24 rfl ?_
          exact V_iret ⟨Or.inr ⟨rfl, Or.inl rfl⟩, dX11_isPlace_25⟩ ⟨Nat.le_of_ble_eq_true rfl, Nat.le_of_ble_eq_true rfl⟩ ⟨rfl, by rw [if_neg (by omega)], rfl, rfl⟩
        · skip
          refine V_iconst (v := nI 1) dX11_isPlace_20 rfl ?_
          refine V_goto (tgt := 25) dX11_isPlace_21 rfl ?_
          exact V_iret ⟨Or.inr ⟨rfl, Or.inr rfl⟩, dX11_isPlace_25⟩ ⟨Nat.le_of_ble_eq_true rfl, Nat.le_of_ble_eq_true rfl⟩ ⟨rfl, by rw [if_pos (by omega)], rfl, rfl⟩

theorem q_y {G : zG} {M : zM} {d : Nat} {as : List Value} {I : zI} {J : zJ} {p : Prop} {hd : Decidable p} (h : zK G M d as zsh I J (zA0 (.int (nI (if p then 1 else 0))) I J)) (hp : p) : zK G M d as zsh I J (zA0 (.int (nI 1)) I J) := by
  rw [if_pos hp] at h
  exact h
theorem q_n {G : zG} {M : zM} {d : Nat} {as : List Value} {I : zI} {J : zJ} {p : Prop} {hd : Decidable p} (h : zK G M d as zsh I J (zA0 (.int (nI (if p then 1 else 0))) I J)) (hp : ¬ p) : zK G M d as zsh I J (zA0 (.int (nI 0)) I J) := by
  rw [if_neg hp] at h
  exact h
