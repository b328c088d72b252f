/-- a place written -/
def zwr (I : zI) (a k : Nat) (x : Int32) : zI := zup I a (upd (I a) k x)
def zwl (J : zJ) (a k : Nat) (x : Int64) : zJ := zup J a (vp_updL (J a) k x)
theorem zwr_at {I : zI} {a k b j : Nat} {x : Int32} : zwr I a k x b j = if b = a ∧ j = k then x else I b j := by
  unfold zwr zup
  by_cases h : b = a
  · subst h; by_cases h2 : j = k <;> simp [upd, h2]
  · simp [h]
theorem zwl_at {J : zJ} {a k b j : Nat} {x : Int64} : zwl J a k x b j = if b = a ∧ j = k then x else J b j := by
  unfold zwl zup
  by_cases h : b = a
  · subst h; by_cases h2 : j = k <;> simp [vp_updL, h2]
  · simp [h]
def zcp (f g : Nat → Int32) (n : Nat) : Nat → Int32 := fun j => if j < n then f j else g j
theorem zofI (n : Nat) : Int32.ofInt (n : Int) = nI n := by
  unfold nI
  first
    | rfl
    | exact Int32.ofInt_natCast n
    | simp
    | (apply Int32.toBitVec_inj.mp; simp)
    | (apply Int32.toInt_inj.mp; simp)
/-! THE SMALL MACHINE, 6: rows with numbers below 2^31; the shape of the world behind both constructors -/
section R
variable {G : zG} {M : zM} {d : Nat} {Q : zQ} {pc : Nat} {ls : List (Nat × Value)} {st : List Value} {cs : Nat × Nat} {sh : zS} {I : zI} {J : zJ}
theorem V_icmp_eqN {a b : Nat} {off : Int} {tgt : Nat} (hdg : decode (zcc M) pc = .ok (.if_icmp .eq off, 3)) (ht : (pc : Int) + off = (tgt : Int)) (ha : a < 2 ^ 31) (hb : b < 2 ^ 31)
    (k1 : a = b → V G M d Q tgt ls st cs sh I J) (k2 : ¬ a = b → V G M d Q (pc + 3) ls st cs sh I J) : V G M d Q pc ls (.int (nI b) :: .int (nI a) :: st) cs sh I J :=
  V_icmp_eq hdg ht (fun h => k1 ((nI_eq ha hb).mp h)) (fun h => k2 (fun e => h ((nI_eq ha hb).mpr e)))
theorem V_icmp_neN {a b : Nat} {off : Int} {tgt : Nat} (hdg : decode (zcc M) pc = .ok (.if_icmp .ne off, 3)) (ht : (pc : Int) + off = (tgt : Int)) (ha : a < 2 ^ 31) (hb : b < 2 ^ 31)
    (k1 : ¬ a = b → V G M d Q tgt ls st cs sh I J) (k2 : a = b → V G M d Q (pc + 3) ls st cs sh I J) : V G M d Q pc ls (.int (nI b) :: .int (nI a) :: st) cs sh I J :=
  V_icmp_ne hdg ht (fun h => k1 (fun e => h ((nI_eq ha hb).mpr e))) (fun h => k2 ((nI_eq ha hb).mp h))
theorem V_icmp_ltN {a b : Nat} {off : Int} {tgt : Nat} (hdg : decode (zcc M) pc = .ok (.if_icmp .lt off, 3)) (ht : (pc : Int) + off = (tgt : Int)) (ha : a < 2 ^ 31) (hb : b < 2 ^ 31)
    (k1 : a < b → V G M d Q tgt ls st cs sh I J) (k2 : ¬ a < b → V G M d Q (pc + 3) ls st cs sh I J) : V G M d Q pc ls (.int (nI b) :: .int (nI a) :: st) cs sh I J :=
  V_icmp_lt hdg ht (fun h => k1 ((nI_ltI ha hb).mp h)) (fun h => k2 (fun e => h ((nI_ltI ha hb).mpr e)))
theorem V_icmp_geN {a b : Nat} {off : Int} {tgt : Nat} (hdg : decode (zcc M) pc = .ok (.if_icmp .ge off, 3)) (ht : (pc : Int) + off = (tgt : Int)) (ha : a < 2 ^ 31) (hb : b < 2 ^ 31)
    (k1 : b ≤ a → V G M d Q tgt ls st cs sh I J) (k2 : ¬ b ≤ a → V G M d Q (pc + 3) ls st cs sh I J) : V G M d Q pc ls (.int (nI b) :: .int (nI a) :: st) cs sh I J :=
  V_icmp_ge hdg ht (fun h => k1 ((nI_leI hb ha).mp h)) (fun h => k2 (fun e => h ((nI_leI hb ha).mpr e)))
theorem V_icmp_gtN {a b : Nat} {off : Int} {tgt : Nat} (hdg : decode (zcc M) pc = .ok (.if_icmp .gt off, 3)) (ht : (pc : Int) + off = (tgt : Int)) (ha : a < 2 ^ 31) (hb : b < 2 ^ 31)
    (k1 : b < a → V G M d Q tgt ls st cs sh I J) (k2 : ¬ b < a → V G M d Q (pc + 3) ls st cs sh I J) : V G M d Q pc ls (.int (nI b) :: .int (nI a) :: st) cs sh I J :=
  V_icmp_gt hdg ht (fun h => k1 ((nI_ltI hb ha).mp h)) (fun h => k2 (fun e => h ((nI_ltI hb ha).mpr e)))
theorem V_icmp_leN {a b : Nat} {off : Int} {tgt : Nat} (hdg : decode (zcc M) pc = .ok (.if_icmp .le off, 3)) (ht : (pc : Int) + off = (tgt : Int)) (ha : a < 2 ^ 31) (hb : b < 2 ^ 31)
    (k1 : a ≤ b → V G M d Q tgt ls st cs sh I J) (k2 : ¬ a ≤ b → V G M d Q (pc + 3) ls st cs sh I J) : V G M d Q pc ls (.int (nI b) :: .int (nI a) :: st) cs sh I J :=
  V_icmp_le hdg ht (fun h => k1 ((nI_leI ha hb).mp h)) (fun h => k2 (fun e => h ((nI_leI ha hb).mpr e)))
theorem V_if_eqN {a : Nat} {off : Int} {tgt : Nat} (hdg : decode (zcc M) pc = .ok (.ifCond .eq off, 3)) (ht : (pc : Int) + off = (tgt : Int)) (ha : a < 2 ^ 31)
    (k1 : a = 0 → V G M d Q tgt ls st cs sh I J) (k2 : ¬ a = 0 → V G M d Q (pc + 3) ls st cs sh I J) : V G M d Q pc ls (.int (nI a) :: st) cs sh I J :=
  V_if_eq hdg ht (fun h => k1 ((nI_eq ha (by decide)).mp h)) (fun h => k2 (fun e => h ((nI_eq ha (by decide)).mpr e)))
theorem V_if_neN {a : Nat} {off : Int} {tgt : Nat} (hdg : decode (zcc M) pc = .ok (.ifCond .ne off, 3)) (ht : (pc : Int) + off = (tgt : Int)) (ha : a < 2 ^ 31)
    (k1 : ¬ a = 0 → V G M d Q tgt ls st cs sh I J) (k2 : a = 0 → V G M d Q (pc + 3) ls st cs sh I J) : V G M d Q pc ls (.int (nI a) :: st) cs sh I J :=
  V_if_ne hdg ht (fun h => k1 (fun e => h ((nI_eq ha (by decide)).mpr e))) (fun h => k2 ((nI_eq ha (by decide)).mp h))
theorem V_if_gtN {a : Nat} {off : Int} {tgt : Nat} (hdg : decode (zcc M) pc = .ok (.ifCond .gt off, 3)) (ht : (pc : Int) + off = (tgt : Int)) (ha : a < 2 ^ 31)
    (k1 : 0 < a → V G M d Q tgt ls st cs sh I J) (k2 : ¬ 0 < a → V G M d Q (pc + 3) ls st cs sh I J) : V G M d Q pc ls (.int (nI a) :: st) cs sh I J :=
  V_if_gt hdg ht (fun h => k1 ((nI_ltI (by decide) ha).mp h)) (fun h => k2 (fun e => h ((nI_ltI (by decide) ha).mpr e)))
theorem V_if_leN {a : Nat} {off : Int} {tgt : Nat} (hdg : decode (zcc M) pc = .ok (.ifCond .le off, 3)) (ht : (pc : Int) + off = (tgt : Int)) (ha : a < 2 ^ 31)
    (k1 : a = 0 → V G M d Q tgt ls st cs sh I J) (k2 : ¬ a = 0 → V G M d Q (pc + 3) ls st cs sh I J) : V G M d Q pc ls (.int (nI a) :: st) cs sh I J :=
  V_if_le hdg ht (fun h => k1 (Nat.le_zero.mp ((nI_leI ha (by decide)).mp h))) (fun h => k2 (fun e => h ((nI_leI ha (by decide)).mpr (Nat.le_of_eq e))))
theorem V_if_ltN {a : Nat} {off : Int} {tgt : Nat} (hdg : decode (zcc M) pc = .ok (.ifCond .lt off, 3)) (ht : (pc : Int) + off = (tgt : Int)) (ha : a < 2 ^ 31)
    (k : V G M d Q (pc + 3) ls st cs sh I J) : V G M d Q pc ls (.int (nI a) :: st) cs sh I J :=
  V_if_lt hdg ht (fun h => absurd h (nI_pos ha)) (fun _ => k)
theorem V_if_geN {a : Nat} {off : Int} {tgt : Nat} (hdg : decode (zcc M) pc = .ok (.ifCond .ge off, 3)) (ht : (pc : Int) + off = (tgt : Int)) (ha : a < 2 ^ 31)
    (k : V G M d Q tgt ls st cs sh I J) : V G M d Q pc ls (.int (nI a) :: st) cs sh I J :=
  V_if_ge hdg ht (fun _ => k) (fun h => absurd (nI_pos' ha) h)
theorem V_iaddN {a b : Nat} (hdg : decode (zcc M) pc = .ok (.iadd, 1)) (k : V G M d Q (pc + 1) ls (.int (nI (a + b)) :: st) cs sh I J) : V G M d Q pc ls (.int (nI b) :: .int (nI a) :: st) cs sh I J :=
  V_iadd hdg (V_eqI (nI_add a b) k)
theorem V_isubN {a b : Nat} (hdg : decode (zcc M) pc = .ok (.isub, 1)) (h : b ≤ a) (k : V G M d Q (pc + 1) ls (.int (nI (a - b)) :: st) cs sh I J) : V G M d Q pc ls (.int (nI b) :: .int (nI a) :: st) cs sh I J :=
  V_isub hdg (V_eqI (pk_sub h) k)
theorem V_imulN {a b : Nat} (hdg : decode (zcc M) pc = .ok (.imul, 1)) (k : V G M d Q (pc + 1) ls (.int (nI (a * b)) :: st) cs sh I J) : V G M d Q pc ls (.int (nI b) :: .int (nI a) :: st) cs sh I J :=
  V_imul hdg (V_eqI (pk_mul a b) k)
theorem V_idivN {a b : Nat} (hdg : decode (zcc M) pc = .ok (.idiv, 1)) (ha : a < 2 ^ 31) (h0 : 0 < b) (hb : b < 2 ^ 31) (k : V G M d Q (pc + 1) ls (.int (nI (a / b)) :: st) cs sh I J) : V G M d Q pc ls (.int (nI b) :: .int (nI a) :: st) cs sh I J :=
  V_idiv hdg (nI_ne0 h0 hb) (V_eqI (pk_div ha h0 hb) k)
theorem V_iremN {a b : Nat} (hdg : decode (zcc M) pc = .ok (.irem, 1)) (ha : a < 2 ^ 31) (h0 : 0 < b) (hb : b < 2 ^ 31) (k : V G M d Q (pc + 1) ls (.int (nI (a % b)) :: st) cs sh I J) : V G M d Q pc ls (.int (nI b) :: .int (nI a) :: st) cs sh I J :=
  V_irem hdg (nI_ne0 h0 hb) (V_eqI (pk_rem ha h0 hb) k)
theorem nI_inc (a n : Nat) (h : n < 2 ^ 31) : nI a + Int32.ofInt (n : Int) = nI (a + n) := by
  have e : Int32.ofInt (n : Int) = nI n := zofI n
  rw [e, nI_add]
theorem V_iincN {i n a : Nat} {n' : Int} {ls' : List (Nat × Value)} (hdg : decode (zcc M) pc = .ok (.iinc i n', 3)) (hx : zlk ls i = some (.int (nI a))) (hn' : n' = (n : Int)) (hs : n < 2 ^ 31) (hn : i < zml M) (h : zs1 ls i (.int (nI (a + n))) = ls')
    (k : V G M d Q (pc + 3) ls' st cs sh I J) : V G M d Q pc ls st cs sh I J := by
  subst hn'
  exact V_iinc hdg hx (nI_inc a n hs) hn h k
theorem V_iincD {i a : Nat} {ls' : List (Nat × Value)} (hdg : decode (zcc M) pc = .ok (.iinc i (-1), 3)) (hx : zlk ls i = some (.int (nI a))) (h0 : 0 < a) (hn : i < zml M) (h : zs1 ls i (.int (nI (a - 1))) = ls')
    (k : V G M d Q (pc + 3) ls' st cs sh I J) : V G M d Q pc ls st cs sh I J := by
  obtain ⟨b, rfl⟩ : ∃ b, a = b + 1 := ⟨a - 1, by omega⟩
  exact V_iinc hdg hx (pk_m1 b) hn h k
theorem V_ialdN {a n k : Nat} (hdg : decode (zcc M) pc = .ok (.iaload, 1)) (ha : zin sh a) (hk : sh.2.1 a = (1, n)) (hn : n < 2 ^ 31) (hi : k < n)
    (kk : V G M d Q (pc + 1) ls (.int (I a k) :: st) cs sh I J) : V G M d Q pc ls (.int (nI k) :: .ref a :: st) cs sh I J :=
  V_iald hdg ha hk (vp_in_nI hi hn) (V_eqI (congrArg (I a) (nI_clamp (Nat.lt_trans hi hn))) kk)
theorem V_baldN {a n k : Nat} (hdg : decode (zcc M) pc = .ok (.baload, 1)) (ha : zin sh a) (hk : sh.2.1 a = (0, n)) (hn : n < 2 ^ 31) (hi : k < n)
    (kk : V G M d Q (pc + 1) ls (.int (I a k) :: st) cs sh I J) : V G M d Q pc ls (.int (nI k) :: .ref a :: st) cs sh I J :=
  V_bald hdg ha hk (vp_in_nI hi hn) (V_eqI (congrArg (I a) (nI_clamp (Nat.lt_trans hi hn))) kk)
theorem V_laldN {a n k : Nat} (hdg : decode (zcc M) pc = .ok (.laload, 1)) (ha : zin sh a) (hk : sh.2.1 a = (2, n)) (hn : n < 2 ^ 31) (hi : k < n)
    (kk : V G M d Q (pc + 1) ls (.long (J a k) :: st) cs sh I J) : V G M d Q pc ls (.int (nI k) :: .ref a :: st) cs sh I J :=
  V_lald hdg ha hk (vp_in_nI hi hn) (V_eqL (congrArg (J a) (nI_clamp (Nat.lt_trans hi hn))) kk)
theorem V_scrN {k : Nat} (hdg : decode (zcc M) pc = .ok (.iaload, 1)) (hn : zL G < 2 ^ 31) (hi : k < zL G)
    (kk : V G M d Q (pc + 1) ls (.int (zxs G k) :: st) cs sh I J) : V G M d Q pc ls (.int (nI k) :: .ref 0 :: st) cs sh I J :=
  V_scr hdg (vp_in_nI hi hn) (V_eqI (congrArg (zxs G) (nI_clamp (Nat.lt_trans hi hn))) kk)
theorem V_tabN {k : Nat} (hdg : decode (zcc M) pc = .ok (.iaload, 1)) (hi : k < 56)
    (kk : V G M d Q (pc + 1) ls (.int (zCodes k) :: st) cs sh I J) : V G M d Q pc ls (.int (nI k) :: .ref 1 :: st) cs sh I J :=
  V_tab hdg (vp_in_nI hi (by decide)) (V_eqI (congrArg zCodes (nI_clamp (by omega))) kk)
theorem V_iastN {a n k : Nat} {x : Int32} (hdg : decode (zcc M) pc = .ok (.iastore, 1)) (ha : zin sh a) (hk : sh.2.1 a = (1, n)) (hn : n < 2 ^ 31) (hi : k < n)
    (kk : V G M d Q (pc + 1) ls st cs sh (zwr I a k x) J) : V G M d Q pc ls (.int x :: .int (nI k) :: .ref a :: st) cs sh I J :=
  V_iast hdg ha hk (vp_in_nI hi hn) (by rw [nI_clamp (Nat.lt_trans hi hn)]; exact kk)
theorem V_bastN {a n k : Nat} {x : Int32} (hdg : decode (zcc M) pc = .ok (.bastore, 1)) (ha : zin sh a) (hk : sh.2.1 a = (0, n)) (hn : n < 2 ^ 31) (hi : k < n)
    (kk : V G M d Q (pc + 1) ls st cs sh (zwr I a k (vp_nar .byte x)) J) : V G M d Q pc ls (.int x :: .int (nI k) :: .ref a :: st) cs sh I J :=
  V_bast hdg ha hk (vp_in_nI hi hn) (by rw [nI_clamp (Nat.lt_trans hi hn)]; exact kk)
theorem V_lastN {a n k : Nat} {x : Int64} (hdg : decode (zcc M) pc = .ok (.lastore, 1)) (ha : zin sh a) (hk : sh.2.1 a = (2, n)) (hn : n < 2 ^ 31) (hi : k < n)
    (kk : V G M d Q (pc + 1) ls st cs sh I (zwl J a k x)) : V G M d Q pc ls (.long x :: .int (nI k) :: .ref a :: st) cs sh I J :=
  V_last hdg ha hk (vp_in_nI hi hn) (by rw [nI_clamp (Nat.lt_trans hi hn)]; exact kk)
theorem V_mmaxN {idx a b : Nat} (hdg : decode (zcc M) pc = .ok (.invokestatic idx, 3)) (hlk : Cond.methodLink (zy M).cls idx Lib.Math.max.name ∈ zGood) (hd : 1 ≤ d) (hcat : (st.map fun v => v.category).sum ≤ 8) (hc : cs.1 ≤ zmc M ∧ cs.2 ≤ zms M) (ha : a < 2 ^ 31) (hb : b < 2 ^ 31)
    (kk : V G M d Q (pc + 3) ls (.int (nI (max a b)) :: st) cs sh I J) : V G M d Q pc ls (.int (nI b) :: .int (nI a) :: st) cs sh I J := by
  refine V_mmax hdg hlk hd hcat hc (V_eqI ?_ kk)
  by_cases h : a < b
  · rw [if_pos ((nI_ltI ha hb).mpr h), Nat.max_eq_right (by omega)]
  · rw [if_neg (fun e => h ((nI_ltI ha hb).mp e)), Nat.max_eq_left (by omega)]
theorem V_mminN {idx a b : Nat} (hdg : decode (zcc M) pc = .ok (.invokestatic idx, 3)) (hlk : Cond.methodLink (zy M).cls idx Lib.Math.min.name ∈ zGood) (hd : 1 ≤ d) (hcat : (st.map fun v => v.category).sum ≤ 8) (hc : cs.1 ≤ zmc M ∧ cs.2 ≤ zms M) (ha : a < 2 ^ 31) (hb : b < 2 ^ 31)
    (kk : V G M d Q (pc + 3) ls (.int (nI (min a b)) :: st) cs sh I J) : V G M d Q pc ls (.int (nI b) :: .int (nI a) :: st) cs sh I J := by
  refine V_mmin hdg hlk hd hcat hc (V_eqI ?_ kk)
  by_cases h : b < a
  · rw [if_pos ((nI_ltI hb ha).mpr h), Nat.min_eq_right (by omega)]
  · rw [if_neg (fun e => h ((nI_ltI hb ha).mp e)), Nat.min_eq_left (by omega)]
theorem V_putW {idx a cc k n : Nat} {x : Int32} (hdg : decode (zcc M) pc = .ok (.putfield idx, 3)) (hf : zFL (zy M).cls idx cc k) (ha : zin sh a) (hk : sh.2.1 a = (cc + 4, n)) (hr : zRef (zty cc k) = false) (hfin : (zTT cc k).2.2.2 = false) (hn : narrow (zty cc k) (.int x) = .int x ∧ fits (zty cc k) (.int x) = true)
    (kk : V G M d Q (pc + 3) ls st cs sh (zwr I a k x) J) : V G M d Q pc ls (.int x :: .ref a :: st) cs sh I J := V_putI hdg hf ha hk hr hfin hn kk
theorem va_cpy0 (f g : Nat → Int32) (n : Nat) : va_cpy f g 0 0 n = zcp f g n := by
  funext j
  by_cases h : j < n
  · rw [pk_cpy_in (Nat.zero_le _) (by omega)]
    simp [zcp, h]
  · rw [pk_cpy_out (by omega)]
    simp [zcp, h]
theorem V_cpyiN {idx a0 a m0 m1 n : Nat} (hdg : decode (zcc M) pc = .ok (.invokestatic idx, 3)) (hlk : Cond.methodLink (zy M).cls idx arraycopyName ∈ zGood) (hd : 1 ≤ d) (hcat : (st.map fun v => v.category).sum ≤ 8) (ha0 : zin sh a0) (hk0 : sh.2.1 a0 = (1, m0)) (ha : zin sh a) (hk : sh.2.1 a = (1, m1)) (h4 : n ≤ m0 ∧ n < 2 ^ 31) (h5 : n ≤ m1 ∧ n < 2 ^ 31)
    (kk : V G M d Q (pc + 3) ls st cs sh (zup I a (zcp (I a0) (I a) n)) J) : V G M d Q pc ls (.int (nI n) :: .int (nI 0) :: .ref a :: .int (nI 0) :: .ref a0 :: st) cs sh I J := by
  have hn : (nI n).toNatClampNeg = n := nI_clamp h4.2
  have h0 : (nI 0).toNatClampNeg = 0 := rfl
  refine V_cpyi hdg hlk hd hcat ha0 hk0 ha hk (by decide) (by decide) (nI_pos h4.2) (by rw [hn, h0]; omega) (by rw [hn, h0]; omega) ?_
  rw [hn, h0, va_cpy0]
  exact kk
theorem V_cpybN {idx a0 a m0 m1 n : Nat} (hdg : decode (zcc M) pc = .ok (.invokestatic idx, 3)) (hlk : Cond.methodLink (zy M).cls idx arraycopyName ∈ zGood) (hd : 1 ≤ d) (hcat : (st.map fun v => v.category).sum ≤ 8) (ha0 : zin sh a0) (hk0 : sh.2.1 a0 = (0, m0)) (ha : zin sh a) (hk : sh.2.1 a = (0, m1)) (h4 : n ≤ m0 ∧ n < 2 ^ 31) (h5 : n ≤ m1 ∧ n < 2 ^ 31) (hfit : ∀ j, j < n → fits .byte (.int (I a0 j)) = true)
    (kk : V G M d Q (pc + 3) ls st cs sh (zup I a (zcp (I a0) (I a) n)) J) : V G M d Q pc ls (.int (nI n) :: .int (nI 0) :: .ref a :: .int (nI 0) :: .ref a0 :: st) cs sh I J := by
  have hn : (nI n).toNatClampNeg = n := nI_clamp h4.2
  have h0 : (nI 0).toNatClampNeg = 0 := rfl
  refine V_cpyb hdg hlk hd hcat ha0 hk0 ha hk (by decide) (by decide) (nI_pos h4.2) (by rw [hn, h0]; omega) (by rw [hn, h0]; omega) (fun j hj => by rw [hn] at hj; rw [h0, Nat.zero_add]; exact hfit j hj) ?_
  rw [hn, h0, va_cpy0]
  exact kk
end R
/-- both objects with all that is theirs: kinds by number -/
def zkd (a : Nat) : Nat × Nat := ([(0, 0), (0, 0), (15, 0), (14, 0), (0, 260), (5, 0), (12, 0), (1, 240), (0, 240), (7, 0), (6, 0), (1, 56), (1, 56), (1, 280), (1, 280), (1, 56), (12, 0), (1, 240), (3, 4), (12, 0), (1, 240), (12, 0), (1, 240), (12, 0), (1, 240), (12, 0), (1, 240), (13, 0), (1, 9), (1, 24), (1, 3822), (2, 3822), (2, 10), (2, 14), (11, 0), (1, 392), (10, 0), (1, 6), (1, 6), (1, 7), (1, 7), (9, 0), (1, 64), (1, 64), (4, 0), (1, 5), (1, 5), (1, 7), (1, 7), (8, 0), (1, 12), (1, 12), (1, 12), (4, 0), (1, 5), (1, 5), (1, 7), (1, 7), (8, 0), (1, 12), (1, 12), (1, 12), (16, 0), (1, 56), (1, 280), (1, 56), (0, 260), (1, 260), (1, 260), (1, 16), (1, 16), (1, 16), (1, 16), (1, 1300), (1, 5), (1, 80), (1, 80), (1, 80), (1, 80), (1, 260), (1, 9), (1, 7), (0, 87808), (2, 6272), (2, 6272), (0, 6272), (2, 16), (2, 14), (1, 392), (1, 7), (1, 6), (1, 5), (1, 5), (1, 64), (1, 64), (1, 64), (1, 64), (1, 12), (1, 12), (1, 12), (1, 5), (1, 5), (1, 12), (1, 12), (1, 12)] : List (Nat × Nat)).getD a (0, 0)
def zrf (a k : Nat) : Option Nat := (([[], [], [none, none, some 3, some 5, some 9, some 10, some 16, some 18, some 34, some 36, some 41, some 44, some 49, none, none, none, some 53, some 58], [some 4], [], [some 6, some 8], [some 7], [], [], [some 10, some 16, some 18, some 27, none, some 30, none, none, none, some 31, some 32, some 33], [some 11, some 12, some 13, some 14, some 15], [], [], [], [], [], [some 17], [], [some 19, some 21, some 23, some 25], [some 20], [], [some 22], [], [some 24], [], [some 26], [], [some 28, some 29], [], [], [], [], [], [], [some 35], [], [some 37, some 38, some 39, some 40], [], [], [], [], [some 42, some 43], [], [], [some 45, some 46, some 47, some 48], [], [], [], [], [some 50, some 51, some 52], [], [], [], [some 54, some 55, some 56, some 57], [], [], [], [], [some 59, some 60, some 61], [], [], [], [some 63, some 64, some 65, some 66, none, none, none, none, none, none, none, none, none, none, none, none, some 67, some 68, some 69, some 70, some 71, some 72, some 73, some 74, some 75, some 76, some 77, some 78, some 79, some 80, some 81, some 82, none, none, none, none, some 83, some 84, some 85, none, none, none, none, some 86, some 87, some 88, none, some 89, some 90, some 91, some 92, some 93, some 94, some 95, some 96, none, none, none, none, some 97, some 98, some 99, none, none, none, none, none, none, some 100, some 101, some 102, some 103, some 104], [], [], [], [], [], [], [], [], [], [], [], [], [], [], [], [], [], [], [], [], [], [], [], [], [], [], [], [], [], [], [], [], [], [], [], [], [], [], [], [], [], []] : List (List (Option Nat))).getD a []).getD k none
def zsh : zS := (103, zkd, zrf)
def zP (Post : Option Value → zI → zJ → Prop) : zQ := fun r sh I J => sh = zsh ∧ Post r I J
/-- nothing but an answer -/
def zA0 (v : Value) (I : zI) (J : zJ) : zQ := zP (fun r I' J' => r = some v ∧ I = I' ∧ J = J')
def zA1 (v : Value) (P : zI → zJ → Prop) : zQ := zP (fun r I' J' => r = some v ∧ P I' J')
def zA2 (P : zI → zJ → Prop) : zQ := zP (fun r I' J' => r = none ∧ P I' J')
