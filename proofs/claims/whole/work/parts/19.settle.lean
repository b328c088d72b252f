/-! THE CLASS: what a state is worth -/
theorem L_fit {x : Int} (h1 : -(2 ^ 63) ≤ x) (h2 : x < 2 ^ 63) : x.bmod (2 ^ 64) = x := Int.bmod_eq_of_le (by omega) (by omega)
theorem L_add {a b : Int64} (h1 : -(2 ^ 63) ≤ a.toInt + b.toInt) (h2 : a.toInt + b.toInt < 2 ^ 63) : (a + b).toInt = a.toInt + b.toInt := by
  rw [Int64.toInt_add]; exact L_fit h1 h2
theorem L_mul {a b : Int64} (h1 : -(2 ^ 63) ≤ a.toInt * b.toInt) (h2 : a.toInt * b.toInt < 2 ^ 63) : (a * b).toInt = a.toInt * b.toInt := by
  rw [Int64.toInt_mul]; exact L_fit h1 h2
theorem L_shr {x y : Int64} (h : y = 1) : (x >>> y).toInt = x.toInt / 2 := by
  subst h
  rw [← Int64.toInt_toBitVec, Int64.toBitVec_shiftRight]
  show (x.toBitVec.sshiftRight ((Int64.toBitVec 1).smod 64).toNat).toInt = _
  rw [show ((1 : Int64).toBitVec.smod 64).toNat = 1 from rfl, BitVec.toInt_sshiftRight, Int64.toInt_toBitVec]
  rw [Int.shiftRight_eq_div_pow]
  rfl
/-- a worth as it is kept: twice it, 1 more for a shot -/
def eW (r : Int64 × Bool) : Int64 := if r.2 then 2 * r.1 + 1 else 2 * r.1
theorem eW_int {r : Int64 × Bool} (h1 : -(10 ^ 17) ≤ r.1.toInt) (h2 : r.1.toInt ≤ 10 ^ 17) : (eW r).toInt = 2 * r.1.toInt + (if r.2 then 1 else 0) := by
  have e2 : (2 : Int64).toInt = 2 := rfl
  have e1 : (1 : Int64).toInt = 1 := rfl
  have hm : (2 * r.1).toInt = 2 * r.1.toInt := by rw [L_mul (by rw [e2]; omega) (by rw [e2]; omega), e2]
  unfold eW
  split
  · rw [L_add (by rw [hm, e1]; omega) (by rw [hm, e1]; omega), hm, e1]
  · rw [hm, Int.add_zero]
theorem eW_ne {r : Int64 × Bool} (h1 : -(10 ^ 17) ≤ r.1.toInt) (h2 : r.1.toInt ≤ 10 ^ 17) : eW r ≠ -4000000000000000000 := by
  intro e
  have := eW_int h1 h2
  rw [e, show (-4000000000000000000 : Int64).toInt = -4000000000000000000 from rfl] at this
  split at this <;> omega
theorem eW_shr {r : Int64 × Bool} (h1 : -(10 ^ 17) ≤ r.1.toInt) (h2 : r.1.toInt ≤ 10 ^ 17) {y : Int64} (hy : y = 1) : eW r >>> y = r.1 := by
  rw [← Int64.toInt_inj, L_shr hy, eW_int h1 h2]
  split <;> omega
theorem L_and1 (x : Int64) : x &&& 1 = if x.toInt % 2 = 0 then 0 else 1 := by
  rw [← Int64.toBitVec_inj, Int64.toBitVec_and]
  rw [show (1 : Int64).toBitVec = 1#64 from rfl]
  have h : x.toBitVec &&& 1#64 = if x.toBitVec.getLsbD 0 then 1#64 else 0#64 := by
    ext i hi
    rcases i with _ | i
    · simp; split <;> simp_all
    · simp; split <;> simp
  rw [h]
  have h2 : x.toBitVec.getLsbD 0 = decide (x.toInt % 2 = 1) := by
    rw [BitVec.getLsbD, Nat.testBit_zero, ← Int64.toInt_toBitVec, BitVec.toInt_eq_toNat_cond]
    have := x.toBitVec.isLt
    split <;> simp only [decide_eq_decide] <;> omega
  rw [h2]
  have := Int.emod_two_eq x.toInt
  rcases this with e | e <;> simp [e]
theorem eW_and {r : Int64 × Bool} (h1 : -(10 ^ 17) ≤ r.1.toInt) (h2 : r.1.toInt ≤ 10 ^ 17) : eW r &&& 1 = if r.2 then 1 else 0 := by
  rw [L_and1, eW_int h1 h2]
  cases r.2 <;> simp <;> omega
theorem wl_eq {x y : Int64} : lg_cmp x y = 0 ↔ x = y := by
  unfold lg_cmp
  constructor
  · intro h
    split at h
    · exact absurd h (by decide)
    · split at h
      · assumption
      · exact absurd h (by decide)
  · intro h
    subst h
    rw [if_neg (fun h => absurd h Int64.lt_irrefl), if_pos rfl]
theorem wl_gt {x y : Int64} : lg_cmp x y ≤ 0 ↔ ¬ y < x := by
  unfold lg_cmp
  constructor
  · intro h
    split at h
    · exact absurd h (by decide)
    · assumption
  · intro h
    rw [if_neg h]
    split <;> decide
theorem wl_lt {x y : Int64} : 0 ≤ lg_cmp x y ↔ ¬ x < y := by
  unfold lg_cmp
  constructor
  · intro h
    split at h
    · intro h2; rename_i h1; rw [gt_iff_lt, Int64.lt_iff_toInt_lt] at h1; rw [Int64.lt_iff_toInt_lt] at h2; omega
    · split at h
      · rename_i h1; subst h1; exact Int64.lt_irrefl
      · exact absurd h (by decide)
  · intro h
    split
    · decide
    · split
      · decide
      · rename_i h1 h2
        refine absurd (Int64.toInt_inj.mp ?_) h2
        rw [gt_iff_lt, Int64.lt_iff_toInt_lt] at h1
        rw [Int64.lt_iff_toInt_lt] at h
        omega
def hnd (p q : Nat) : Nat := tHand p + tHand q
/-- the state behind a part of a throw -/
def sNx (p q last part : Nat) : Nat × Nat := if sWho p q last = 0 then (sMine p q (sWho p q last) part, sTheir p q (sWho p q last) part) else (sTheir p q (sWho p q last) part, sMine p q (sWho p q last) part)
theorem tThr_hand {k r : Nat} (hk : k < 56) (hr : r < 5) (h : 0 < tHand k) : tHand (tThr (5 * k + r)) + 1 = tHand k := by
  have := co_dec (P := fun k => 0 < tHand (k / 5) → tHand (tThr k) + 1 = tHand (k / 5)) (N := 280) (by decide +kernel) (i := 5 * k + r) (by omega)
  rw [show (5 * k + r) / 5 = k by omega] at this
  exact this h
theorem tWo_hand {k : Nat} (hk : k < 56) : tHand (tWo k) = tHand k := co_dec (P := fun k => tHand (tWo k) = tHand k) (N := 56) (by decide +kernel) hk
theorem sWho_hand {p q last : Nat} (h : sWho p q last ≤ 1) : 0 < tHand (if sWho p q last = 0 then p else q) := by
  have hs := sSide_le (p := p) (q := q) (last := last)
  unfold sWho at *
  by_cases h0 : tHand p = 0 ∧ tHand q = 0
  · rw [if_pos h0] at h; omega
  · rw [if_neg h0] at *
    by_cases h1 : 0 < tHand (if sSide p q last = 0 then p else q)
    · rw [if_pos h1]; exact h1
    · rw [if_neg h1]
      by_cases h2 : sSide p q last = 0
      · rw [if_pos h2] at h1; rw [h2, if_neg (by decide)]; omega
      · rw [if_neg h2] at h1; rw [show sSide p q last = 1 by omega, if_pos rfl]; omega
theorem sNx_ok {p q last part : Nat} (hp : p < 56) (hq : q < 56) (h1 : sWho p q last ≤ 1) (hpa : part ≤ 6) : (sNx p q last part).1 < 56 ∧ (sNx p q last part).2 < 56 ∧ hnd (sNx p q last part).1 (sNx p q last part).2 + 1 = hnd p q := by
  have hh := sWho_hand h1
  have hr : ∀ s, sRing p q s part < 5 := fun s => by
    unfold sRing
    split
    · omega
    · split
      · have : (if s = 0 then q else p) < 56 := by split <;> assumption
        have := tBest_le this; omega
      · omega
  unfold sNx
  generalize sWho p q last = s at *
  by_cases h0 : s = 0
  · subst h0
    rw [if_pos rfl] at *
    have e1 := tThr_hand hp (hr 0) hh
    have e2 : 5 * p + sRing p q 0 part < 280 := by have := hr 0; omega
    have e3 := tThr_le e2
    have e4 : sTheir p q 0 part ≤ 55 ∧ tHand (sTheir p q 0 part) = tHand q := by
      unfold sTheir; rw [if_pos rfl]; split
      · exact ⟨tWo_le hq, tWo_hand hq⟩
      · exact ⟨by omega, rfl⟩
    unfold hnd sMine
    rw [if_pos rfl]
    dsimp only
    omega
  · rw [if_neg h0] at *
    have e1 := tThr_hand hq (hr s) hh
    have e2 : 5 * q + sRing p q s part < 280 := by have := hr s; omega
    have e3 := tThr_le e2
    have e4 : sTheir p q s part ≤ 55 ∧ tHand (sTheir p q s part) = tHand p := by
      unfold sTheir; rw [if_neg h0]; split
      · exact ⟨tWo_le hp, tWo_hand hp⟩
      · exact ⟨by omega, rfl⟩
    unfold hnd sMine
    rw [if_neg h0]
    dsimp only
    omega
theorem sCh_le {Lf : Nat → (Nat → Int32) → Int32} {far p q last part : Nat} : sCh Lf far p q last part ≤ 100 := by
  have b1 : tA Lf far p q last ≤ 10 := bnd_le
  have b2 : tB Lf far p q last ≤ 10 - tA Lf far p q last := bnd_le
  have b3 : tC_ Lf far p q last ≤ 10 - tA Lf far p q last - tB Lf far p q last := bnd_le
  have b4 : tH Lf far p q last ≤ 10 := bnd_le
  have b5 : tK Lf far p q last ≤ 10 := bnd_le
  unfold sCh pTen
  repeat' split
  all_goals first | omega | exact Nat.le_trans (Nat.mul_le_mul b4 (show _ ≤ 10 by omega)) (by decide)
def sPart (v : Nat → Nat → Nat → Int64) (Lf : Nat → (Nat → Int32) → Int32) (far p q last part : Nat) (acc : Int64) : Int64 :=
  if 0 < sCh Lf far p q last part then acc + (nI (sCh Lf far p q last part)).toInt64 * v (sNx p q last part).1 (sNx p q last part).2 (sWho p q last) else acc
def sSum (v : Nat → Nat → Nat → Int64) (Lf : Nat → (Nat → Int32) → Int32) (far p q last : Nat) : Nat → Nat → Int64 → Int64
  | 0, _, acc => acc
  | n + 1, part, acc => sSum v Lf far p q last n (part + 1) (sPart v Lf far p q last part acc)
/-- what a throw is worth by the worths behind it -/
def sW (v : Nat → Nat → Nat → Int64) (Lf : Nat → (Nat → Int32) → Int32) (far p q last t : Nat) : Int64 := if t = 1 then sSum v Lf far p q last 4 0 0 else sSum v Lf far p q last 3 4 0
def sPick (t w : Nat) (a b : Int64) : Int64 × Bool := if t = 1 then (a, false) else if t = 2 then (b, true) else if (if w = 0 then a < b else b < a) then (b, true) else (a, false)
/-- what a state is worth by an aim, and whether it is reached by a shot -/
def sV (kd one two : Int32) (Rl : Nat → Nat → (Nat → Int32) → Int32) (bt : Nat → Nat → Nat → Nat) (Lf : Nat → (Nat → Int32) → Int32) (far : Nat) : Nat → Nat → Nat → Nat → Int64 × Bool
  | 0, p, q, _ => (sWoc kd one (sPts p q), false)
  | h + 1, p, q, last => sPick (sTold kd one two Rl bt far p q last) (sWho p q last) (sW (fun a b l => (sV kd one two Rl bt Lf far h a b l).1) Lf far p q last 1) (sW (fun a b l => (sV kd one two Rl bt Lf far h a b l).1) Lf far p q last 2)
theorem sSum_bd {v : Nat → Nat → Nat → Int64} {Lf : Nat → (Nat → Int32) → Int32} {far p q last : Nat} {B : Int} (hB : 0 ≤ B) (hB2 : B ≤ 10 ^ 17) (hv : ∀ a b l, -B ≤ (v a b l).toInt ∧ (v a b l).toInt ≤ B) : ∀ (n part : Nat) (acc : Int64) (A : Int), 0 ≤ A → -A ≤ acc.toInt → acc.toInt ≤ A → A + n * (100 * B) ≤ 10 ^ 17 → -(A + n * (100 * B)) ≤ (sSum v Lf far p q last n part acc).toInt ∧ (sSum v Lf far p q last n part acc).toInt ≤ A + n * (100 * B)
  | 0, _, _, A, h0, h1, h2, _ => by simp only [sSum]; omega
  | n + 1, part, acc, A, h0, h1, h2, h3 => by
    have hn : ((n + 1 : Nat) : Int) * (100 * B) = 100 * B + n * (100 * B) := by rw [show ((n + 1 : Nat) : Int) = 1 + n by omega, Int.add_mul, Int.one_mul]
    have hn0 : 0 ≤ (n : Int) * (100 * B) := Int.mul_nonneg (by omega) (by omega)
    rw [hn] at h3 ⊢
    have ha : -(A + 100 * B) ≤ (sPart v Lf far p q last part acc).toInt ∧ (sPart v Lf far p q last part acc).toInt ≤ A + 100 * B := by
      unfold sPart
      have hc := sCh_le (Lf := Lf) (far := far) (p := p) (q := q) (last := last) (part := part)
      generalize sCh Lf far p q last part = c at *
      split
      · obtain ⟨v1, v2⟩ := hv (sNx p q last part).1 (sNx p q last part).2 (sWho p q last)
        generalize v (sNx p q last part).1 (sNx p q last part).2 (sWho p q last) = x at *
        have ec : (nI c).toInt64.toInt = (c : Int) := by rw [Int32.toInt_toInt64, nI_toInt (by omega)]
        have m1 : (c : Int) * x.toInt ≤ c * B := Int.mul_le_mul_of_nonneg_left v2 (by omega)
        have m2 : (c : Int) * (-B) ≤ c * x.toInt := Int.mul_le_mul_of_nonneg_left v1 (by omega)
        have m3 : (c : Int) * B ≤ 100 * B := Int.mul_le_mul_of_nonneg_right (by omega) hB
        rw [Int.mul_neg] at m2
        have e1 : ((nI c).toInt64 * x).toInt = c * x.toInt := by rw [L_mul (by rw [ec]; omega) (by rw [ec]; omega), ec]
        rw [L_add (by rw [e1]; omega) (by rw [e1]; omega), e1]
        omega
      · omega
    have := sSum_bd (Lf := Lf) (far := far) (p := p) (q := q) (last := last) hB hB2 hv n (part + 1) (sPart v Lf far p q last part acc) (A + 100 * B) (by omega) ha.1 ha.2 (by omega)
    have e : sSum v Lf far p q last (n + 1) part acc = sSum v Lf far p q last n (part + 1) (sPart v Lf far p q last part acc) := rfl
    rw [e]
    omega
set_option maxRecDepth 100000 in
theorem tBel_all (k : Nat) : tBel k ≤ 3 := by
  by_cases h : k < 280
  · exact tBel_le h
  · unfold tBel List.getD; rw [List.getElem?_eq_none (Nat.le_trans (by decide) (Nat.not_lt.mp h))]; exact Nat.zero_le _
theorem sWoc_bd {kd one : Int32} {p q : Nat} : -3 ≤ (sWoc kd one (sPts p q)).toInt ∧ (sWoc kd one (sPts p q)).toInt ≤ 3 := by
  have hs : -3 ≤ (sPts p q).toInt ∧ (sPts p q).toInt ≤ 3 := by
    unfold sPts
    split
    · decide
    · split
      · have := tBel_all (5 * p + tBest q); rw [nI_toInt (by omega)]; omega
      · have := tBel_all (5 * q + tBest p)
        generalize tBel (5 * q + tBest p) = x at *
        have : x = 0 ∨ x = 1 ∨ x = 2 ∨ x = 3 := by omega
        rcases this with h | h | h | h <;> subst h <;> decide
  unfold sWoc
  split
  · rw [Int32.toInt_toInt64]; exact hs
  · repeat' split
    all_goals decide
theorem sV_bd {kd one two : Int32} {Rl : Nat → Nat → (Nat → Int32) → Int32} {bt : Nat → Nat → Nat → Nat} {Lf : Nat → (Nat → Int32) → Int32} {far : Nat} : ∀ h, h ≤ 6 → ∀ p q last, -(3 * 400 ^ h) ≤ (sV kd one two Rl bt Lf far h p q last).1.toInt ∧ (sV kd one two Rl bt Lf far h p q last).1.toInt ≤ 3 * 400 ^ h
  | 0, _, p, q, last => by have := sWoc_bd (kd := kd) (one := one) (p := p) (q := q); simp only [sV]; omega
  | h + 1, hh, p, q, last => by
    have ih := sV_bd (kd := kd) (one := one) (two := two) (Rl := Rl) (bt := bt) (Lf := Lf) (far := far) h (by omega)
    have hp : (400 : Int) ^ h ≤ 400 ^ 5 := by
      rcases (show h = 0 ∨ h = 1 ∨ h = 2 ∨ h = 3 ∨ h = 4 ∨ h = 5 by omega) with e | e | e | e | e | e <;> subst e <;> decide
    have hp0 : (0 : Int) ≤ 400 ^ h := Int.pow_nonneg (by decide)
    have hp1 : (400 : Int) ^ (h + 1) = 400 * 400 ^ h := by rw [Int.pow_succ, Int.mul_comm]
    have e5 : (400 : Int) ^ 5 = 10240000000000 := by decide
    rw [e5] at hp
    rw [hp1]
    generalize (400 : Int) ^ h = z at *
    have z0 : (0 : Int64).toInt = 0 := rfl
    have h4 := sSum_bd (v := fun a b l => (sV kd one two Rl bt Lf far h a b l).1) (Lf := Lf) (far := far) (p := p) (q := q) (last := last) (B := 3 * z) (by omega) (by omega) ih 4 0 0 0 (by omega) (by rw [z0]; omega) (by rw [z0]; omega) (by omega)
    have h3 := sSum_bd (v := fun a b l => (sV kd one two Rl bt Lf far h a b l).1) (Lf := Lf) (far := far) (p := p) (q := q) (last := last) (B := 3 * z) (by omega) (by omega) ih 3 4 0 0 (by omega) (by rw [z0]; omega) (by rw [z0]; omega) (by omega)
    simp only [sV]
    have hW1 : sW (fun a b l => (sV kd one two Rl bt Lf far h a b l).1) Lf far p q last 1 = sSum (fun a b l => (sV kd one two Rl bt Lf far h a b l).1) Lf far p q last 4 0 0 := if_pos rfl
    have hW2 : sW (fun a b l => (sV kd one two Rl bt Lf far h a b l).1) Lf far p q last 2 = sSum (fun a b l => (sV kd one two Rl bt Lf far h a b l).1) Lf far p q last 3 4 0 := if_neg (by decide)
    rw [hW1, hW2]
    generalize sSum (fun a b l => (sV kd one two Rl bt Lf far h a b l).1) Lf far p q last 4 0 0 = a at *
    generalize sSum (fun a b l => (sV kd one two Rl bt Lf far h a b l).1) Lf far p q last 3 4 0 = b at *
    unfold sPick
    split
    · show _ ≤ a.toInt ∧ a.toInt ≤ _; omega
    · split
      · show _ ≤ b.toInt ∧ b.toInt ≤ _; omega
      · rename_i h1 h2
        have : ∀ c : Bool, -(3 * (400 * z)) ≤ (if c then (b, true) else (a, false)).1.toInt ∧ (if c then (b, true) else (a, false)).1.toInt ≤ 3 * (400 * z) := fun c => by
          cases c
          · show _ ≤ a.toInt ∧ a.toInt ≤ _; omega
          · show _ ≤ b.toInt ∧ b.toInt ≤ _; omega
        have := this (decide (if sWho p q last = 0 then a < b else b < a))
        simpa using this
theorem sV_b {kd one two : Int32} {Rl : Nat → Nat → (Nat → Int32) → Int32} {bt : Nat → Nat → Nat → Nat} {Lf : Nat → (Nat → Int32) → Int32} {far : Nat} {h : Nat} (hh : h ≤ 6) {p q last : Nat} : -(10 ^ 17) ≤ (sV kd one two Rl bt Lf far h p q last).1.toInt ∧ (sV kd one two Rl bt Lf far h p q last).1.toInt ≤ 10 ^ 17 := by
  have := sV_bd (kd := kd) (one := one) (two := two) (Rl := Rl) (bt := bt) (Lf := Lf) (far := far) h hh p q last
  have hp : (400 : Int) ^ h ≤ 400 ^ 6 := by
    rcases (show h = 0 ∨ h = 1 ∨ h = 2 ∨ h = 3 ∨ h = 4 ∨ h = 5 ∨ h = 6 by omega) with e | e | e | e | e | e | e <;> subst e <;> decide
  have e6 : (400 : Int) ^ 6 = 4096000000000000 := by decide
  omega

/-- the best throw of a state is known -/
def bk (I : zI) (Lf : Nat → (Nat → Int32) → Int32) (far : Nat) (bt : Nat → Nat → Nat → Nat) (p q last : Nat) : Prop := I 30 (sSpot p q last) = nI (tEnc Lf far p q last (bt p q last))
def nbk (I : zI) (Lf : Nat → (Nat → Int32) → Int32) (far : Nat) (bt : Nat → Nat → Nat → Nat) (p q last : Nat) : Prop := sOk p q last → bk I Lf far bt p q last
/-- by none's rules: the best -/
def nn (kd one two : Int32) : Prop := kd = 1 ∧ one = -1 ∧ two = -1
/-- what lies behind a throw's parts is known by its best -/
def clo (I : zI) (Lf : Nat → (Nat → Int32) → Int32) (far : Nat) (bt : Nat → Nat → Nat → Nat) (p q last t : Nat) : Prop := ∀ part, part ≤ 6 → (part ≤ 3 ↔ t = 1) → 0 < sCh Lf far p q last part → nbk I Lf far bt (sNx p q last part).1 (sNx p q last part).2 (sWho p q last)
def btK (Lf : Nat → (Nat → Int32) → Int32) (Rl : Nat → Nat → (Nat → Int32) → Int32) (far : Nat) (bt : Nat → Nat → Nat → Nat) : Prop := ∀ p q l, bt p q l = if (sV 1 (-1) (-1) Rl bt Lf far (hnd p q) p q l).2 = true then 2 else 1
theorem btK_12 {Lf : Nat → (Nat → Int32) → Int32} {Rl : Nat → Nat → (Nat → Int32) → Int32} {far : Nat} {bt : Nat → Nat → Nat → Nat} (h : btK Lf Rl far bt) (p q l : Nat) : bt p q l = 1 ∨ bt p q l = 2 := by
  rw [h]; split <;> simp
/-- the ends' world with what is kept of worths -/
def eOK (Lf : Nat → (Nat → Int32) → Int32) (Rl : Nat → Nat → (Nat → Int32) → Int32) (far : Nat) (bt : Nat → Nat → Nat → Nat) (kd one two : Int32) (I : zI) (J : zJ) : Prop := endI I Lf Rl far bt ∧ (I 9 6 = kd ∧ I 9 7 = one ∧ I 9 8 = two) ∧ (∀ p q l, sOk p q l → J 31 (sSpot p q l) = -4000000000000000000 ∨ J 31 (sSpot p q l) = eW (sV kd one two Rl bt Lf far (hnd p q) p q l)) ∧ (nn kd one two → ∀ p q l, sOk p q l → J 31 (sSpot p q l) ≠ -4000000000000000000 → bk I Lf far bt p q l) ∧ (∀ p q l, sOk p q l → bk I Lf far bt p q l → clo I Lf far bt p q l (bt p q l))
def sPo (Lf : Nat → (Nat → Int32) → Int32) (Rl : Nat → Nat → (Nat → Int32) → Int32) (far : Nat) (bt : Nat → Nat → Nat → Nat) (kd one two : Int32) (I : zI) (J : zJ) (I' : zI) (J' : zJ) : Prop := offT I I' ∧ eOK Lf Rl far bt kd one two I' J' ∧ tenKn I I' ∧ (∀ p q l, sOk p q l → bk I Lf far bt p q l → bk I' Lf far bt p q l) ∧ ∀ a, a ≠ 31 → J' a = J a
theorem sPo_r {Lf : Nat → (Nat → Int32) → Int32} {Rl : Nat → Nat → (Nat → Int32) → Int32} {far : Nat} {bt : Nat → Nat → Nat → Nat} {kd one two : Int32} {I : zI} {J : zJ} (h : eOK Lf Rl far bt kd one two I J) : sPo Lf Rl far bt kd one two I J I J := ⟨offT_r, h, tenKn_r, fun _ _ _ _ h => h, fun _ _ => rfl⟩
theorem sPo_t {Lf : Nat → (Nat → Int32) → Int32} {Rl : Nat → Nat → (Nat → Int32) → Int32} {far : Nat} {bt : Nat → Nat → Nat → Nat} {kd one two : Int32} {A B C : zI} {X Y Z : zJ} (h : sPo Lf Rl far bt kd one two A X B Y) (h2 : sPo Lf Rl far bt kd one two B Y C Z) : sPo Lf Rl far bt kd one two A X C Z := ⟨offT_t h.1 h2.1, h2.2.1, tenKn_t h.2.2.1 h2.2.2.1, fun p q l a b => h2.2.2.2.1 p q l a (h.2.2.2.1 p q l a b), fun a ha => (h2.2.2.2.2 a ha).trans (h.2.2.2.2 a ha)⟩
theorem sPo_o {Lf : Nat → (Nat → Int32) → Int32} {Rl : Nat → Nat → (Nat → Int32) → Int32} {far : Nat} {bt : Nat → Nat → Nat → Nat} {kd one two : Int32} (hbt : btK Lf Rl far bt) {I I' : zI} {J : zJ} (h : eOK Lf Rl far bt kd one two I J) (e : offT I I') (hN : tenOK I' Lf far bt) (hle : tenLe I I' Lf far) (hkn : tenKn I I') : sPo Lf Rl far bt kd one two I J I' J := by
  obtain ⟨h1, h2, h3, h4, h5⟩ := h
  have e9 := e 9 (by decide) (by decide) (by decide) (by decide)
  have hb : ∀ p q l, sOk p q l → (bk I' Lf far bt p q l ↔ bk I Lf far bt p q l) := fun p q l hs => by
    rcases btK_12 hbt p q l with h | h
    · exact hle p q l (bt p q l) hs (by omega) (by omega)
    · exact hle p q l (bt p q l) hs (by omega) (by omega)
  refine ⟨e, ⟨endI_o h1 e hN, by rw [e9]; exact h2, h3, fun hn p q l hs hj => (hb p q l hs).mpr (h4 hn p q l hs hj), fun p q l hs hk => ?_⟩, hkn, fun p q l hs hk => (hb p q l hs).mpr hk, fun _ _ => rfl⟩
  intro part a b c hs2
  exact (hb _ _ _ hs2).mpr (h5 p q l hs ((hb p q l hs).mp hk) part a b c hs2)
def stlK (h : Nat) (Lf : Nat → (Nat → Int32) → Int32) (Rl : Nat → Nat → (Nat → Int32) → Int32) (far : Nat) (bt : Nat → Nat → Nat → Nat) (kd one two : Int32) : Prop := ∀ (G : zG) (I : zI) (J : zJ) (p q last dd : Nat), p < 56 → q < 56 → last ≤ 1 → hnd p q = h → dd + h ≤ 6 → eOK Lf Rl far bt kd one two I J → (kd = 3 → nbk I Lf far bt p q last) → zK G mX3_settle (4 + 2 * h) [.ref 9, .int (nI p), .int (nI q), .int (nI last), .int (nI dd)] zsh I J (zP (fun r I' J' => r = some (.long (eW (sV kd one two Rl bt Lf far h p q last))) ∧ sPo Lf Rl far bt kd one two I J I' J' ∧ (nn kd one two → nbk I' Lf far bt p q last)))
set_option maxRecDepth 100000 in
set_option maxHeartbeats 4000000 in
theorem lp_worth {G : zG} {Lf : Nat → (Nat → Int32) → Int32} {Rl : Nat → Nat → (Nat → Int32) → Int32} {far : Nat} {bt : Nat → Nat → Nat → Nat} {kd one two : Int32} (hbt : btK Lf Rl far bt) {h : Nat} (hS : stlK h Lf Rl far bt kd one two) {p q last : Nat} (hs : sOk p q last) (hh : hnd p q = h + 1) {t lo hi : Nat} (ht : (t = 1 ∧ lo = 0 ∧ hi = 3) ∨ (t = 2 ∧ lo = 4 ∧ hi = 6)) {z dd : Nat} (hz : z ≤ 2) (hd : dd + (h + 1) ≤ 6) {I0 : zI} {J0 : zJ} (h3 : kd = 3 → clo I0 Lf far bt p q last t) : ∀ (n part : Nat) (acc : Int64) (I : zI) (J : zJ), part + n = hi + 1 → lo ≤ part → sSum (fun a b l => (sV kd one two Rl bt Lf far h a b l).1) Lf far p q last n part acc = sW (fun a b l => (sV kd one two Rl bt Lf far h a b l).1) Lf far p q last t → sPo Lf Rl far bt kd one two I0 J0 I J → (nn kd one two → ∀ k, lo ≤ k → k < part → 0 < sCh Lf far p q last k → nbk I Lf far bt (sNx p q last k).1 (sNx p q last k).2 (sWho p q last)) → I 30 (sSpot p q last) ≠ 0 → V G mX3_worthOfThrow (3 + 2 * (h + 1)) (zP (fun r I' J' => r = some (.long (sW (fun a b l => (sV kd one two Rl bt Lf far h a b l).1) Lf far p q last t)) ∧ sPo Lf Rl far bt kd one two I0 J0 I' J' ∧ I' 30 (sSpot p q last) ≠ 0 ∧ (nn kd one two → clo I' Lf far bt p q last t))) 55 [(0, .ref 9), (1, .int (nI t)), (2, .int (nI p)), (3, .int (nI q)), (4, .int (nI last)), (5, .int (nI dd)), (6, .int (nI (sWho p q last))), (7, .int (nI (tEnc Lf far p q last z))), (8, .int (nI lo)), (9, .int (nI hi)), (10, .long acc), (12, .int (nI part))] [] (0, 0) zsh I J := by
  obtain ⟨hp, hq, hl, h35⟩ := id hs
  have hsw := sWho_le1 hp hq h35 (last := last)
  have b1 : tA Lf far p q last ≤ 10 := bnd_le
  have b2 : tB Lf far p q last ≤ 10 - tA Lf far p q last := bnd_le
  have b3 : tC_ Lf far p q last ≤ 10 - tA Lf far p q last - tB Lf far p q last := bnd_le
  have b4 : tH Lf far p q last ≤ 10 := bnd_le
  have b5 : tK Lf far p q last ≤ 10 := bnd_le
  intro n
  induction n with
  | zero =>
    intro part acc I J hpn hlo hsum hP hnn hk
    have hi6 : hi ≤ 6 := by omega
    refine V_iload dX3_worthOfThrow_55 rfl ?_
    refine V_iload dX3_worthOfThrow_57 rfl ?_
    refine V_icmp_gtN (tgt := 163) dX3_worthOfThrow_59 rfl (by omega) (by omega) (fun _ => ?_) (fun h => absurd h (by omega))
    refine V_lload dX3_worthOfThrow_163 rfl ?_
    exact V_lret ⟨rfl, dX3_worthOfThrow_165⟩ ⟨Nat.le_of_ble_eq_true rfl, Nat.le_of_ble_eq_true rfl⟩ ⟨rfl, congrArg (fun z => some (Value.long z)) hsum, hP, hk, fun hn k a b c => hnn hn k (by omega) (by omega) c⟩
  | succ n ih =>
    intro part acc I J hpn hlo hsum hP hnn hk
    have hi6 : hi ≤ 6 := by omega
    have hT : tabX I := hP.2.1.1.1
    have hcl := sCh_le (Lf := Lf) (far := far) (p := p) (q := q) (last := last) (part := part)
    refine V_iload dX3_worthOfThrow_55 rfl ?_
    refine V_iload dX3_worthOfThrow_57 rfl ?_
    refine V_icmp_gtN (tgt := 163) dX3_worthOfThrow_59 rfl (by omega) (by omega) (fun h => absurd h (by omega)) (fun _ => ?_)
    refine V_iload dX3_worthOfThrow_62 rfl ?_
    refine V_iload dX3_worthOfThrow_64 rfl ?_
    refine V_callS (As := [.int (nI (tEnc Lf far p q last z)), .int (nI part)]) (st := []) dX3_worthOfThrow_66 kX3_partOfTenths lX3_126 (by omega) rfl rfl (Nat.le_of_ble_eq_true rfl) ⟨Nat.le_of_ble_eq_true rfl, Nat.le_of_ble_eq_true rfl⟩ (c_partOfTenths (a := tA Lf far p q last) (b := tB Lf far p q last) (c := tC_ Lf far p q last) (h := tH Lf far p q last) (k := tK Lf far p q last) (z := z) b1 b2 b3 b4 b5 hz (by omega)) ?_
    rintro _ _ _ _ ⟨rfl, rfl, rfl, rfl⟩
    refine V_eqI (y := nI (sCh Lf far p q last part)) rfl ?_
    refine V_istore (ls' := [(13, .int (nI (sCh Lf far p q last part))), (0, .ref 9), (1, .int (nI t)), (2, .int (nI p)), (3, .int (nI q)), (4, .int (nI last)), (5, .int (nI dd)), (6, .int (nI (sWho p q last))), (7, .int (nI (tEnc Lf far p q last z))), (8, .int (nI lo)), (9, .int (nI hi)), (10, .long acc), (12, .int (nI part))]) dX3_worthOfThrow_69 (by decide) rfl ?_
    refine V_iload dX3_worthOfThrow_71 rfl ?_
    refine V_if_leN (tgt := 157) dX3_worthOfThrow_73 rfl (by omega) (fun h73 => ?_) (fun h73 => ?_)
    · skip
      refine V_iincN (ls' := [(12, .int (nI (part + 1))), (13, .int (nI (sCh Lf far p q last part))), (0, .ref 9), (1, .int (nI t)), (2, .int (nI p)), (3, .int (nI q)), (4, .int (nI last)), (5, .int (nI dd)), (6, .int (nI (sWho p q last))), (7, .int (nI (tEnc Lf far p q last z))), (8, .int (nI lo)), (9, .int (nI hi)), (10, .long acc)]) (n := 1) dX3_worthOfThrow_157 rfl rfl (by decide) (by decide) rfl ?_
      refine V_goto (tgt := 55) dX3_worthOfThrow_160 rfl ?_
      refine V_sub2 (ls' := [(0, .ref 9), (1, .int (nI t)), (2, .int (nI p)), (3, .int (nI q)), (4, .int (nI last)), (5, .int (nI dd)), (6, .int (nI (sWho p q last))), (7, .int (nI (tEnc Lf far p q last z))), (8, .int (nI lo)), (9, .int (nI hi)), (10, .long acc), (12, .int (nI (part + 1)))]) (List.forall_mem_cons.mpr ⟨rfl, List.forall_mem_cons.mpr ⟨rfl, List.forall_mem_cons.mpr ⟨rfl, List.forall_mem_cons.mpr ⟨rfl, List.forall_mem_cons.mpr ⟨rfl, List.forall_mem_cons.mpr ⟨rfl, List.forall_mem_cons.mpr ⟨rfl, List.forall_mem_cons.mpr ⟨rfl, List.forall_mem_cons.mpr ⟨rfl, List.forall_mem_cons.mpr ⟨rfl, List.forall_mem_cons.mpr ⟨rfl, List.forall_mem_cons.mpr ⟨rfl, fun _ h => absurd h List.not_mem_nil⟩⟩⟩⟩⟩⟩⟩⟩⟩⟩⟩⟩) ?_
      refine ih (part + 1) acc _ _ (by omega) (by omega) ?_ hP ?_ hk
      · rw [← hsum]
        show _ = sSum _ Lf far p q last n (part + 1) (sPart _ Lf far p q last part acc)
        unfold sPart
        rw [if_neg (by omega)]
      · intro hn k a b c
        rcases Nat.lt_or_eq_of_le (Nat.le_of_lt_succ b) with b2 | b2
        · exact hnn hn k a b2 c
        · subst b2; omega
    · skip
      refine V_aload_n dX3_worthOfThrow_76 rfl ?_
      refine V_getR (b := 10) dX3_worthOfThrow_77 fX3_14 ⟨Nat.le_of_ble_eq_true rfl, Nat.le_of_ble_eq_true rfl⟩ rfl rfl rfl ?_
      refine V_iload_n dX3_worthOfThrow_80 rfl ?_
      refine V_iload_n dX3_worthOfThrow_81 rfl ?_
      refine V_iload dX3_worthOfThrow_82 rfl ?_
      refine V_iload dX3_worthOfThrow_84 rfl ?_
      refine V_callV (As := [.int (nI p), .int (nI q), .int (nI (sWho p q last)), .int (nI part)]) (st := []) (a := 10) dX3_worthOfThrow_86 kX2_mineBehind lX3_163 (by omega) rfl rfl (Nat.le_of_ble_eq_true rfl) ⟨Nat.le_of_ble_eq_true rfl, Nat.le_of_ble_eq_true rfl⟩ ⟨Nat.le_of_ble_eq_true rfl, Nat.le_of_ble_eq_true rfl⟩ rfl ⟨rfl, by decide⟩ (c_mineBehind hT hp hq (by omega) (by omega)) ?_
      rintro _ _ _ _ ⟨rfl, rfl, rfl, rfl⟩
      refine V_istore (ls' := [(14, .int (nI (sMine p q (sWho p q last) part))), (13, .int (nI (sCh Lf far p q last part))), (0, .ref 9), (1, .int (nI t)), (2, .int (nI p)), (3, .int (nI q)), (4, .int (nI last)), (5, .int (nI dd)), (6, .int (nI (sWho p q last))), (7, .int (nI (tEnc Lf far p q last z))), (8, .int (nI lo)), (9, .int (nI hi)), (10, .long acc), (12, .int (nI part))]) dX3_worthOfThrow_89 (by decide) rfl ?_
      refine V_aload_n dX3_worthOfThrow_91 rfl ?_
      refine V_getR (b := 10) dX3_worthOfThrow_92 fX3_14 ⟨Nat.le_of_ble_eq_true rfl, Nat.le_of_ble_eq_true rfl⟩ rfl rfl rfl ?_
      refine V_iload_n dX3_worthOfThrow_95 rfl ?_
      refine V_iload_n dX3_worthOfThrow_96 rfl ?_
      refine V_iload dX3_worthOfThrow_97 rfl ?_
      refine V_iload dX3_worthOfThrow_99 rfl ?_
      refine V_callV (As := [.int (nI p), .int (nI q), .int (nI (sWho p q last)), .int (nI part)]) (st := []) (a := 10) dX3_worthOfThrow_101 kX2_theirsBehind lX3_166 (by omega) rfl rfl (Nat.le_of_ble_eq_true rfl) ⟨Nat.le_of_ble_eq_true rfl, Nat.le_of_ble_eq_true rfl⟩ ⟨Nat.le_of_ble_eq_true rfl, Nat.le_of_ble_eq_true rfl⟩ rfl ⟨rfl, by decide⟩ (c_theirsBehind hT hp hq (by omega) (by omega)) ?_
      rintro _ _ _ _ ⟨rfl, rfl, rfl, rfl⟩
      refine V_istore (ls' := [(15, .int (nI (sTheir p q (sWho p q last) part))), (14, .int (nI (sMine p q (sWho p q last) part))), (13, .int (nI (sCh Lf far p q last part))), (0, .ref 9), (1, .int (nI t)), (2, .int (nI p)), (3, .int (nI q)), (4, .int (nI last)), (5, .int (nI dd)), (6, .int (nI (sWho p q last))), (7, .int (nI (tEnc Lf far p q last z))), (8, .int (nI lo)), (9, .int (nI hi)), (10, .long acc), (12, .int (nI part))]) dX3_worthOfThrow_104 (by decide) rfl ?_
      refine V_iload dX3_worthOfThrow_106 rfl ?_
      by_cases hsd : sWho p q last = 0
      · skip
        have hnx : sNx p q last part = (sMine p q (sWho p q last) part, sTheir p q (sWho p q last) part) := if_pos hsd
        obtain ⟨hn1, hn2, hn3⟩ := sNx_ok (part := part) hp hq hsw (by omega)
        have h3n : kd = 3 → nbk I Lf far bt (sNx p q last part).1 (sNx p q last part).2 (sWho p q last) := fun e3 hs2 => hP.2.2.2.1 _ _ _ hs2 (h3 e3 part (by omega) (by omega) (by omega) hs2)
        rw [hnx] at hn1 hn2 hn3 h3n
        dsimp only at hn1 hn2 hn3 h3n
        refine V_if_neN (tgt := 128) dX3_worthOfThrow_108 rfl (by omega) (fun h => absurd hsd h) (fun _ => ?_)
        refine V_aload_n dX3_worthOfThrow_111 rfl ?_
        refine V_iload dX3_worthOfThrow_112 rfl ?_
        refine V_iload dX3_worthOfThrow_114 rfl ?_
        refine V_iload dX3_worthOfThrow_116 rfl ?_
        refine V_iload dX3_worthOfThrow_118 rfl ?_
        refine V_iconst (v := nI 1) dX3_worthOfThrow_120 rfl ?_
        refine V_iaddN dX3_worthOfThrow_121 ?_
        refine V_callV (As := [.int (nI (sMine p q (sWho p q last) part)), .int (nI (sTheir p q (sWho p q last) part)), .int (nI (sWho p q last)), .int (nI (dd + 1))]) (st := []) (a := 9) dX3_worthOfThrow_122 kX3_settle lX3_84 (by omega) rfl rfl (Nat.le_of_ble_eq_true rfl) ⟨Nat.le_of_ble_eq_true rfl, Nat.le_of_ble_eq_true rfl⟩ ⟨Nat.le_of_ble_eq_true rfl, Nat.le_of_ble_eq_true rfl⟩ rfl ⟨rfl, by decide⟩ (hS G _ _ (sMine p q (sWho p q last) part) (sTheir p q (sWho p q last) part) (sWho p q last) (dd + 1) hn1 hn2 hsw (by omega) (by omega) hP.2.1 (fun e3 => h3n e3)) ?_
        rintro r sh' I' J' ⟨rfl, rfl, hP2, hK2⟩
        refine V_goto (tgt := 142) dX3_worthOfThrow_125 rfl ?_
        refine V_lstore (ls' := [(16, .long (eW (sV kd one two Rl bt Lf far h (sMine p q (sWho p q last) part) (sTheir p q (sWho p q last) part) (sWho p q last)))), (15, .int (nI (sTheir p q (sWho p q last) part))), (14, .int (nI (sMine p q (sWho p q last) part))), (13, .int (nI (sCh Lf far p q last part))), (0, .ref 9), (1, .int (nI t)), (2, .int (nI p)), (3, .int (nI q)), (4, .int (nI last)), (5, .int (nI dd)), (6, .int (nI (sWho p q last))), (7, .int (nI (tEnc Lf far p q last z))), (8, .int (nI lo)), (9, .int (nI hi)), (10, .long acc), (12, .int (nI part))]) dX3_worthOfThrow_142 (by decide) rfl ?_
        refine V_lload dX3_worthOfThrow_144 rfl ?_
        refine V_iload dX3_worthOfThrow_146 rfl ?_
        refine V_i2l dX3_worthOfThrow_148 ?_
        refine V_lload dX3_worthOfThrow_149 rfl ?_
        refine V_iconst (v := nI 1) dX3_worthOfThrow_151 rfl ?_
        refine V_lshr dX3_worthOfThrow_152 (V_eqL (y := (sV kd one two Rl bt Lf far h (sMine p q (sWho p q last) part) (sTheir p q (sWho p q last) part) (sWho p q last)).1) (eW_shr (sV_b (by omega)).1 (sV_b (by omega)).2 rfl) ?_)
        refine V_lmul dX3_worthOfThrow_153 ?_
        refine V_ladd dX3_worthOfThrow_154 (V_eqL (y := sPart (fun a b l => (sV kd one two Rl bt Lf far h a b l).1) Lf far p q last part acc) (by unfold sPart; rw [if_pos (by omega), hnx]) ?_)
        refine V_lstore (ls' := [(10, .long (sPart (fun a b l => (sV kd one two Rl bt Lf far h a b l).1) Lf far p q last part acc)), (16, .long (eW (sV kd one two Rl bt Lf far h (sMine p q (sWho p q last) part) (sTheir p q (sWho p q last) part) (sWho p q last)))), (15, .int (nI (sTheir p q (sWho p q last) part))), (14, .int (nI (sMine p q (sWho p q last) part))), (13, .int (nI (sCh Lf far p q last part))), (0, .ref 9), (1, .int (nI t)), (2, .int (nI p)), (3, .int (nI q)), (4, .int (nI last)), (5, .int (nI dd)), (6, .int (nI (sWho p q last))), (7, .int (nI (tEnc Lf far p q last z))), (8, .int (nI lo)), (9, .int (nI hi)), (12, .int (nI part))]) dX3_worthOfThrow_155 (by decide) rfl ?_
        refine V_iincN (ls' := [(12, .int (nI (part + 1))), (10, .long (sPart (fun a b l => (sV kd one two Rl bt Lf far h a b l).1) Lf far p q last part acc)), (16, .long (eW (sV kd one two Rl bt Lf far h (sMine p q (sWho p q last) part) (sTheir p q (sWho p q last) part) (sWho p q last)))), (15, .int (nI (sTheir p q (sWho p q last) part))), (14, .int (nI (sMine p q (sWho p q last) part))), (13, .int (nI (sCh Lf far p q last part))), (0, .ref 9), (1, .int (nI t)), (2, .int (nI p)), (3, .int (nI q)), (4, .int (nI last)), (5, .int (nI dd)), (6, .int (nI (sWho p q last))), (7, .int (nI (tEnc Lf far p q last z))), (8, .int (nI lo)), (9, .int (nI hi))]) (n := 1) dX3_worthOfThrow_157 rfl rfl (by decide) (by decide) rfl ?_
        refine V_goto (tgt := 55) dX3_worthOfThrow_160 rfl ?_
        refine V_sub2 (ls' := [(0, .ref 9), (1, .int (nI t)), (2, .int (nI p)), (3, .int (nI q)), (4, .int (nI last)), (5, .int (nI dd)), (6, .int (nI (sWho p q last))), (7, .int (nI (tEnc Lf far p q last z))), (8, .int (nI lo)), (9, .int (nI hi)), (10, .long (sPart (fun a b l => (sV kd one two Rl bt Lf far h a b l).1) Lf far p q last part acc)), (12, .int (nI (part + 1)))]) (List.forall_mem_cons.mpr ⟨rfl, List.forall_mem_cons.mpr ⟨rfl, List.forall_mem_cons.mpr ⟨rfl, List.forall_mem_cons.mpr ⟨rfl, List.forall_mem_cons.mpr ⟨rfl, List.forall_mem_cons.mpr ⟨rfl, List.forall_mem_cons.mpr ⟨rfl, List.forall_mem_cons.mpr ⟨rfl, List.forall_mem_cons.mpr ⟨rfl, List.forall_mem_cons.mpr ⟨rfl, List.forall_mem_cons.mpr ⟨rfl, List.forall_mem_cons.mpr ⟨rfl, fun _ h => absurd h List.not_mem_nil⟩⟩⟩⟩⟩⟩⟩⟩⟩⟩⟩⟩) ?_
        refine ih (part + 1) _ _ _ (by omega) (by omega) hsum (sPo_t hP hP2) ?_ (hP2.2.2.1 _ _ _ hs hk)
        intro hn k a b c
        rcases Nat.lt_or_eq_of_le (Nat.le_of_lt_succ b) with b2 | b2
        · exact fun hs2 => hP2.2.2.2.1 _ _ _ hs2 (hnn hn k a b2 c hs2)
        · subst b2; rw [hnx]; exact hK2 hn
      · skip
        have hnx : sNx p q last part = (sTheir p q (sWho p q last) part, sMine p q (sWho p q last) part) := if_neg hsd
        obtain ⟨hn1, hn2, hn3⟩ := sNx_ok (part := part) hp hq hsw (by omega)
        have h3n : kd = 3 → nbk I Lf far bt (sNx p q last part).1 (sNx p q last part).2 (sWho p q last) := fun e3 hs2 => hP.2.2.2.1 _ _ _ hs2 (h3 e3 part (by omega) (by omega) (by omega) hs2)
        rw [hnx] at hn1 hn2 hn3 h3n
        dsimp only at hn1 hn2 hn3 h3n
        refine V_if_neN (tgt := 128) dX3_worthOfThrow_108 rfl (by omega) (fun _ => ?_) (fun h => absurd h hsd)
        refine V_aload_n dX3_worthOfThrow_128 rfl ?_
        refine V_iload dX3_worthOfThrow_129 rfl ?_
        refine V_iload dX3_worthOfThrow_131 rfl ?_
        refine V_iload dX3_worthOfThrow_133 rfl ?_
        refine V_iload dX3_worthOfThrow_135 rfl ?_
        refine V_iconst (v := nI 1) dX3_worthOfThrow_137 rfl ?_
        refine V_iaddN dX3_worthOfThrow_138 ?_
        refine V_callV (As := [.int (nI (sTheir p q (sWho p q last) part)), .int (nI (sMine p q (sWho p q last) part)), .int (nI (sWho p q last)), .int (nI (dd + 1))]) (st := []) (a := 9) dX3_worthOfThrow_139 kX3_settle lX3_84 (by omega) rfl rfl (Nat.le_of_ble_eq_true rfl) ⟨Nat.le_of_ble_eq_true rfl, Nat.le_of_ble_eq_true rfl⟩ ⟨Nat.le_of_ble_eq_true rfl, Nat.le_of_ble_eq_true rfl⟩ rfl ⟨rfl, by decide⟩ (hS G _ _ (sTheir p q (sWho p q last) part) (sMine p q (sWho p q last) part) (sWho p q last) (dd + 1) hn1 hn2 hsw (by omega) (by omega) hP.2.1 (fun e3 => h3n e3)) ?_
        rintro r sh' I' J' ⟨rfl, rfl, hP2, hK2⟩
        refine V_lstore (ls' := [(16, .long (eW (sV kd one two Rl bt Lf far h (sTheir p q (sWho p q last) part) (sMine p q (sWho p q last) part) (sWho p q last)))), (15, .int (nI (sTheir p q (sWho p q last) part))), (14, .int (nI (sMine p q (sWho p q last) part))), (13, .int (nI (sCh Lf far p q last part))), (0, .ref 9), (1, .int (nI t)), (2, .int (nI p)), (3, .int (nI q)), (4, .int (nI last)), (5, .int (nI dd)), (6, .int (nI (sWho p q last))), (7, .int (nI (tEnc Lf far p q last z))), (8, .int (nI lo)), (9, .int (nI hi)), (10, .long acc), (12, .int (nI part))]) dX3_worthOfThrow_142 (by decide) rfl ?_
        refine V_lload dX3_worthOfThrow_144 rfl ?_
        refine V_iload dX3_worthOfThrow_146 rfl ?_
        refine V_i2l dX3_worthOfThrow_148 ?_
        refine V_lload dX3_worthOfThrow_149 rfl ?_
        refine V_iconst (v := nI 1) dX3_worthOfThrow_151 rfl ?_
        refine V_lshr dX3_worthOfThrow_152 (V_eqL (y := (sV kd one two Rl bt Lf far h (sTheir p q (sWho p q last) part) (sMine p q (sWho p q last) part) (sWho p q last)).1) (eW_shr (sV_b (by omega)).1 (sV_b (by omega)).2 rfl) ?_)
        refine V_lmul dX3_worthOfThrow_153 ?_
        refine V_ladd dX3_worthOfThrow_154 (V_eqL (y := sPart (fun a b l => (sV kd one two Rl bt Lf far h a b l).1) Lf far p q last part acc) (by unfold sPart; rw [if_pos (by omega), hnx]) ?_)
        refine V_lstore (ls' := [(10, .long (sPart (fun a b l => (sV kd one two Rl bt Lf far h a b l).1) Lf far p q last part acc)), (16, .long (eW (sV kd one two Rl bt Lf far h (sTheir p q (sWho p q last) part) (sMine p q (sWho p q last) part) (sWho p q last)))), (15, .int (nI (sTheir p q (sWho p q last) part))), (14, .int (nI (sMine p q (sWho p q last) part))), (13, .int (nI (sCh Lf far p q last part))), (0, .ref 9), (1, .int (nI t)), (2, .int (nI p)), (3, .int (nI q)), (4, .int (nI last)), (5, .int (nI dd)), (6, .int (nI (sWho p q last))), (7, .int (nI (tEnc Lf far p q last z))), (8, .int (nI lo)), (9, .int (nI hi)), (12, .int (nI part))]) dX3_worthOfThrow_155 (by decide) rfl ?_
        refine V_iincN (ls' := [(12, .int (nI (part + 1))), (10, .long (sPart (fun a b l => (sV kd one two Rl bt Lf far h a b l).1) Lf far p q last part acc)), (16, .long (eW (sV kd one two Rl bt Lf far h (sTheir p q (sWho p q last) part) (sMine p q (sWho p q last) part) (sWho p q last)))), (15, .int (nI (sTheir p q (sWho p q last) part))), (14, .int (nI (sMine p q (sWho p q last) part))), (13, .int (nI (sCh Lf far p q last part))), (0, .ref 9), (1, .int (nI t)), (2, .int (nI p)), (3, .int (nI q)), (4, .int (nI last)), (5, .int (nI dd)), (6, .int (nI (sWho p q last))), (7, .int (nI (tEnc Lf far p q last z))), (8, .int (nI lo)), (9, .int (nI hi))]) (n := 1) dX3_worthOfThrow_157 rfl rfl (by decide) (by decide) rfl ?_
        refine V_goto (tgt := 55) dX3_worthOfThrow_160 rfl ?_
        refine V_sub2 (ls' := [(0, .ref 9), (1, .int (nI t)), (2, .int (nI p)), (3, .int (nI q)), (4, .int (nI last)), (5, .int (nI dd)), (6, .int (nI (sWho p q last))), (7, .int (nI (tEnc Lf far p q last z))), (8, .int (nI lo)), (9, .int (nI hi)), (10, .long (sPart (fun a b l => (sV kd one two Rl bt Lf far h a b l).1) Lf far p q last part acc)), (12, .int (nI (part + 1)))]) (List.forall_mem_cons.mpr ⟨rfl, List.forall_mem_cons.mpr ⟨rfl, List.forall_mem_cons.mpr ⟨rfl, List.forall_mem_cons.mpr ⟨rfl, List.forall_mem_cons.mpr ⟨rfl, List.forall_mem_cons.mpr ⟨rfl, List.forall_mem_cons.mpr ⟨rfl, List.forall_mem_cons.mpr ⟨rfl, List.forall_mem_cons.mpr ⟨rfl, List.forall_mem_cons.mpr ⟨rfl, List.forall_mem_cons.mpr ⟨rfl, List.forall_mem_cons.mpr ⟨rfl, fun _ h => absurd h List.not_mem_nil⟩⟩⟩⟩⟩⟩⟩⟩⟩⟩⟩⟩) ?_
        refine ih (part + 1) _ _ _ (by omega) (by omega) hsum (sPo_t hP hP2) ?_ (hP2.2.2.1 _ _ _ hs hk)
        intro hn k a b c
        rcases Nat.lt_or_eq_of_le (Nat.le_of_lt_succ b) with b2 | b2
        · exact fun hs2 => hP2.2.2.2.1 _ _ _ hs2 (hnn hn k a b2 c hs2)
        · subst b2; rw [hnx]; exact hK2 hn

theorem tEnc_ne {Lf : Nat → (Nat → Int32) → Int32} {far p q last z : Nat} (hz : z ≤ 2) : nI (tEnc Lf far p q last z) ≠ 0 := nI_ne0 (by unfold tEnc; omega) (Nat.lt_trans (tEnc_lt hz) (by decide))
set_option maxRecDepth 100000 in
set_option maxHeartbeats 4000000 in
theorem c_worth1 {G : zG} {I : zI} {J : zJ} {Lf : Nat → (Nat → Int32) → Int32} {Rl : Nat → Nat → (Nat → Int32) → Int32} {far : Nat} {bt : Nat → Nat → Nat → Nat} {kd one two : Int32} (hbt : btK Lf Rl far bt) {h : Nat} (hS : stlK h Lf Rl far bt kd one two) {p q last : Nat} (hs : sOk p q last) (hh : hnd p q = h + 1) {dd : Nat} (hd : dd + (h + 1) ≤ 6) (hE : eOK Lf Rl far bt kd one two I J) (h3 : kd = 3 → clo I Lf far bt p q last 1) : zK G mX3_worthOfThrow (3 + 2 * (h + 1)) [.ref 9, .int (nI 1), .int (nI p), .int (nI q), .int (nI last), .int (nI dd)] zsh I J (zP (fun r I' J' => r = some (.long (sW (fun a b l => (sV kd one two Rl bt Lf far h a b l).1) Lf far p q last 1)) ∧ sPo Lf Rl far bt kd one two I J I' J' ∧ I' 30 (sSpot p q last) ≠ 0 ∧ (nn kd one two → clo I' Lf far bt p q last 1))) := by
  refine zK_of kX3_worthOfThrow.2.2.2.2.1 (Nat.le_of_ble_eq_true rfl) ?_
  show V G mX3_worthOfThrow (3 + 2 * (h + 1)) _ 0 [(0, .ref 9), (1, .int (nI 1)), (2, .int (nI p)), (3, .int (nI q)), (4, .int (nI last)), (5, .int (nI dd))] [] (0, 0) zsh I J
  obtain ⟨⟨hT, hL, hR, hf, hN⟩, -⟩ := id hE
  obtain ⟨hp, hq, hl, h35⟩ := id hs
  have hsw := sWho_le1 hp hq h35 (last := last)
  refine V_aload_n dX3_worthOfThrow_0 rfl ?_
  refine V_getR (b := 10) dX3_worthOfThrow_1 fX3_14 ⟨Nat.le_of_ble_eq_true rfl, Nat.le_of_ble_eq_true rfl⟩ rfl rfl rfl ?_
  refine V_iload_n dX3_worthOfThrow_4 rfl ?_
  refine V_iload_n dX3_worthOfThrow_5 rfl ?_
  refine V_iload dX3_worthOfThrow_6 rfl ?_
  refine V_callV (As := [.int (nI p), .int (nI q), .int (nI last)]) (st := []) (a := 10) dX3_worthOfThrow_8 kX2_whoPlays lX3_92 (by omega) rfl rfl (Nat.le_of_ble_eq_true rfl) ⟨Nat.le_of_ble_eq_true rfl, Nat.le_of_ble_eq_true rfl⟩ ⟨Nat.le_of_ble_eq_true rfl, Nat.le_of_ble_eq_true rfl⟩ rfl ⟨rfl, by decide⟩ (c_whoPlays hT hp hq hl) ?_
  rintro _ _ _ _ ⟨rfl, rfl, rfl, rfl⟩
  refine V_istore (ls' := [(6, .int (nI (sWho p q last))), (0, .ref 9), (1, .int (nI 1)), (2, .int (nI p)), (3, .int (nI q)), (4, .int (nI last)), (5, .int (nI dd))]) dX3_worthOfThrow_11 (by decide) rfl ?_
  refine V_aload_n dX3_worthOfThrow_13 rfl ?_
  refine V_iload_n dX3_worthOfThrow_14 rfl ?_
  refine V_iload_n dX3_worthOfThrow_15 rfl ?_
  refine V_iload dX3_worthOfThrow_16 rfl ?_
  refine V_callV (As := [.int (nI p), .int (nI q), .int (nI last)]) (st := []) (a := 9) dX3_worthOfThrow_18 kX3_tenthsAt lX3_123 (by omega) rfl rfl (Nat.le_of_ble_eq_true rfl) ⟨Nat.le_of_ble_eq_true rfl, Nat.le_of_ble_eq_true rfl⟩ ⟨Nat.le_of_ble_eq_true rfl, Nat.le_of_ble_eq_true rfl⟩ rfl ⟨rfl, by decide⟩ (c_tenthsAt hT hL hf hN hs) ?_
  rintro r sh' I' J' ⟨rfl, ⟨z, hz2, hzb, rfl, hzc⟩, hof, hN2, hle, hkn, rfl⟩
  refine V_istore (ls' := [(7, .int (nI (tEnc Lf far p q last z))), (6, .int (nI (sWho p q last))), (0, .ref 9), (1, .int (nI 1)), (2, .int (nI p)), (3, .int (nI q)), (4, .int (nI last)), (5, .int (nI dd))]) dX3_worthOfThrow_21 (by decide) rfl ?_
  refine V_iload_n dX3_worthOfThrow_23 rfl ?_
  refine V_iconst (v := nI 1) dX3_worthOfThrow_24 rfl ?_
  refine V_icmp_ne (tgt := 32) dX3_worthOfThrow_25 rfl (fun h => absurd h (by decide)) (fun _ => ?_)
  refine V_iconst (v := nI 0) dX3_worthOfThrow_28 rfl ?_
  refine V_goto (tgt := 33) dX3_worthOfThrow_29 rfl ?_
  refine V_istore (ls' := [(8, .int (nI 0)), (7, .int (nI (tEnc Lf far p q last z))), (6, .int (nI (sWho p q last))), (0, .ref 9), (1, .int (nI 1)), (2, .int (nI p)), (3, .int (nI q)), (4, .int (nI last)), (5, .int (nI dd))]) dX3_worthOfThrow_33 (by decide) rfl ?_
  refine V_iload_n dX3_worthOfThrow_35 rfl ?_
  refine V_iconst (v := nI 1) dX3_worthOfThrow_36 rfl ?_
  refine V_icmp_ne (tgt := 44) dX3_worthOfThrow_37 rfl (fun h => absurd h (by decide)) (fun _ => ?_)
  refine V_iconst (v := nI 3) dX3_worthOfThrow_40 rfl ?_
  refine V_goto (tgt := 46) dX3_worthOfThrow_41 rfl ?_
  refine V_istore (ls' := [(9, .int (nI 3)), (8, .int (nI 0)), (7, .int (nI (tEnc Lf far p q last z))), (6, .int (nI (sWho p q last))), (0, .ref 9), (1, .int (nI 1)), (2, .int (nI p)), (3, .int (nI q)), (4, .int (nI last)), (5, .int (nI dd))]) dX3_worthOfThrow_46 (by decide) rfl ?_
  refine V_lconst (v := 0) dX3_worthOfThrow_48 rfl ?_
  refine V_lstore (ls' := [(10, .long 0), (9, .int (nI 3)), (8, .int (nI 0)), (7, .int (nI (tEnc Lf far p q last z))), (6, .int (nI (sWho p q last))), (0, .ref 9), (1, .int (nI 1)), (2, .int (nI p)), (3, .int (nI q)), (4, .int (nI last)), (5, .int (nI dd))]) dX3_worthOfThrow_49 (by decide) rfl ?_
  refine V_iload dX3_worthOfThrow_51 rfl ?_
  refine V_istore (ls' := [(12, .int (nI 0)), (10, .long 0), (9, .int (nI 3)), (8, .int (nI 0)), (7, .int (nI (tEnc Lf far p q last z))), (6, .int (nI (sWho p q last))), (0, .ref 9), (1, .int (nI 1)), (2, .int (nI p)), (3, .int (nI q)), (4, .int (nI last)), (5, .int (nI dd))]) dX3_worthOfThrow_53 (by decide) rfl ?_
  refine V_sub2 (ls' := [(0, .ref 9), (1, .int (nI 1)), (2, .int (nI p)), (3, .int (nI q)), (4, .int (nI last)), (5, .int (nI dd)), (6, .int (nI (sWho p q last))), (7, .int (nI (tEnc Lf far p q last z))), (8, .int (nI 0)), (9, .int (nI 3)), (10, .long 0), (12, .int (nI 0))]) (List.forall_mem_cons.mpr ⟨rfl, List.forall_mem_cons.mpr ⟨rfl, List.forall_mem_cons.mpr ⟨rfl, List.forall_mem_cons.mpr ⟨rfl, List.forall_mem_cons.mpr ⟨rfl, List.forall_mem_cons.mpr ⟨rfl, List.forall_mem_cons.mpr ⟨rfl, List.forall_mem_cons.mpr ⟨rfl, List.forall_mem_cons.mpr ⟨rfl, List.forall_mem_cons.mpr ⟨rfl, List.forall_mem_cons.mpr ⟨rfl, List.forall_mem_cons.mpr ⟨rfl, fun _ h => absurd h List.not_mem_nil⟩⟩⟩⟩⟩⟩⟩⟩⟩⟩⟩⟩) ?_
  refine lp_worth hbt hS hs hh (t := 1) (Or.inl ⟨rfl, rfl, rfl⟩) hz2 hd h3 4 0 0 _ _ rfl (Nat.le_refl _) (if_pos rfl).symm (sPo_o hbt hE hof hN2 hle hkn) (fun _ k a b => absurd b (by omega)) (by rw [hzc]; exact tEnc_ne hz2)

set_option maxRecDepth 100000 in
set_option maxHeartbeats 4000000 in
theorem c_worth2 {G : zG} {I : zI} {J : zJ} {Lf : Nat → (Nat → Int32) → Int32} {Rl : Nat → Nat → (Nat → Int32) → Int32} {far : Nat} {bt : Nat → Nat → Nat → Nat} {kd one two : Int32} (hbt : btK Lf Rl far bt) {h : Nat} (hS : stlK h Lf Rl far bt kd one two) {p q last : Nat} (hs : sOk p q last) (hh : hnd p q = h + 1) {dd : Nat} (hd : dd + (h + 1) ≤ 6) (hE : eOK Lf Rl far bt kd one two I J) (h3 : kd = 3 → clo I Lf far bt p q last 2) : zK G mX3_worthOfThrow (3 + 2 * (h + 1)) [.ref 9, .int (nI 2), .int (nI p), .int (nI q), .int (nI last), .int (nI dd)] zsh I J (zP (fun r I' J' => r = some (.long (sW (fun a b l => (sV kd one two Rl bt Lf far h a b l).1) Lf far p q last 2)) ∧ sPo Lf Rl far bt kd one two I J I' J' ∧ I' 30 (sSpot p q last) ≠ 0 ∧ (nn kd one two → clo I' Lf far bt p q last 2))) := by
  refine zK_of kX3_worthOfThrow.2.2.2.2.1 (Nat.le_of_ble_eq_true rfl) ?_
  show V G mX3_worthOfThrow (3 + 2 * (h + 1)) _ 0 [(0, .ref 9), (1, .int (nI 2)), (2, .int (nI p)), (3, .int (nI q)), (4, .int (nI last)), (5, .int (nI dd))] [] (0, 0) zsh I J
  obtain ⟨⟨hT, hL, hR, hf, hN⟩, -⟩ := id hE
  obtain ⟨hp, hq, hl, h35⟩ := id hs
  have hsw := sWho_le1 hp hq h35 (last := last)
  refine V_aload_n dX3_worthOfThrow_0 rfl ?_
  refine V_getR (b := 10) dX3_worthOfThrow_1 fX3_14 ⟨Nat.le_of_ble_eq_true rfl, Nat.le_of_ble_eq_true rfl⟩ rfl rfl rfl ?_
  refine V_iload_n dX3_worthOfThrow_4 rfl ?_
  refine V_iload_n dX3_worthOfThrow_5 rfl ?_
  refine V_iload dX3_worthOfThrow_6 rfl ?_
  refine V_callV (As := [.int (nI p), .int (nI q), .int (nI last)]) (st := []) (a := 10) dX3_worthOfThrow_8 kX2_whoPlays lX3_92 (by omega) rfl rfl (Nat.le_of_ble_eq_true rfl) ⟨Nat.le_of_ble_eq_true rfl, Nat.le_of_ble_eq_true rfl⟩ ⟨Nat.le_of_ble_eq_true rfl, Nat.le_of_ble_eq_true rfl⟩ rfl ⟨rfl, by decide⟩ (c_whoPlays hT hp hq hl) ?_
  rintro _ _ _ _ ⟨rfl, rfl, rfl, rfl⟩
  refine V_istore (ls' := [(6, .int (nI (sWho p q last))), (0, .ref 9), (1, .int (nI 2)), (2, .int (nI p)), (3, .int (nI q)), (4, .int (nI last)), (5, .int (nI dd))]) dX3_worthOfThrow_11 (by decide) rfl ?_
  refine V_aload_n dX3_worthOfThrow_13 rfl ?_
  refine V_iload_n dX3_worthOfThrow_14 rfl ?_
  refine V_iload_n dX3_worthOfThrow_15 rfl ?_
  refine V_iload dX3_worthOfThrow_16 rfl ?_
  refine V_callV (As := [.int (nI p), .int (nI q), .int (nI last)]) (st := []) (a := 9) dX3_worthOfThrow_18 kX3_tenthsAt lX3_123 (by omega) rfl rfl (Nat.le_of_ble_eq_true rfl) ⟨Nat.le_of_ble_eq_true rfl, Nat.le_of_ble_eq_true rfl⟩ ⟨Nat.le_of_ble_eq_true rfl, Nat.le_of_ble_eq_true rfl⟩ rfl ⟨rfl, by decide⟩ (c_tenthsAt hT hL hf hN hs) ?_
  rintro r sh' I' J' ⟨rfl, ⟨z, hz2, hzb, rfl, hzc⟩, hof, hN2, hle, hkn, rfl⟩
  refine V_istore (ls' := [(7, .int (nI (tEnc Lf far p q last z))), (6, .int (nI (sWho p q last))), (0, .ref 9), (1, .int (nI 2)), (2, .int (nI p)), (3, .int (nI q)), (4, .int (nI last)), (5, .int (nI dd))]) dX3_worthOfThrow_21 (by decide) rfl ?_
  refine V_iload_n dX3_worthOfThrow_23 rfl ?_
  refine V_iconst (v := nI 1) dX3_worthOfThrow_24 rfl ?_
  refine V_icmp_ne (tgt := 32) dX3_worthOfThrow_25 rfl (fun _ => ?_) (fun h => absurd h (by decide))
  refine V_iconst (v := nI 4) dX3_worthOfThrow_32 rfl ?_
  refine V_istore (ls' := [(8, .int (nI 4)), (7, .int (nI (tEnc Lf far p q last z))), (6, .int (nI (sWho p q last))), (0, .ref 9), (1, .int (nI 2)), (2, .int (nI p)), (3, .int (nI q)), (4, .int (nI last)), (5, .int (nI dd))]) dX3_worthOfThrow_33 (by decide) rfl ?_
  refine V_iload_n dX3_worthOfThrow_35 rfl ?_
  refine V_iconst (v := nI 1) dX3_worthOfThrow_36 rfl ?_
  refine V_icmp_ne (tgt := 44) dX3_worthOfThrow_37 rfl (fun _ => ?_) (fun h => absurd h (by decide))
  refine V_bipush (v := nI 6) dX3_worthOfThrow_44 rfl ?_
  refine V_istore (ls' := [(9, .int (nI 6)), (8, .int (nI 4)), (7, .int (nI (tEnc Lf far p q last z))), (6, .int (nI (sWho p q last))), (0, .ref 9), (1, .int (nI 2)), (2, .int (nI p)), (3, .int (nI q)), (4, .int (nI last)), (5, .int (nI dd))]) dX3_worthOfThrow_46 (by decide) rfl ?_
  refine V_lconst (v := 0) dX3_worthOfThrow_48 rfl ?_
  refine V_lstore (ls' := [(10, .long 0), (9, .int (nI 6)), (8, .int (nI 4)), (7, .int (nI (tEnc Lf far p q last z))), (6, .int (nI (sWho p q last))), (0, .ref 9), (1, .int (nI 2)), (2, .int (nI p)), (3, .int (nI q)), (4, .int (nI last)), (5, .int (nI dd))]) dX3_worthOfThrow_49 (by decide) rfl ?_
  refine V_iload dX3_worthOfThrow_51 rfl ?_
  refine V_istore (ls' := [(12, .int (nI 4)), (10, .long 0), (9, .int (nI 6)), (8, .int (nI 4)), (7, .int (nI (tEnc Lf far p q last z))), (6, .int (nI (sWho p q last))), (0, .ref 9), (1, .int (nI 2)), (2, .int (nI p)), (3, .int (nI q)), (4, .int (nI last)), (5, .int (nI dd))]) dX3_worthOfThrow_53 (by decide) rfl ?_
  refine V_sub2 (ls' := [(0, .ref 9), (1, .int (nI 2)), (2, .int (nI p)), (3, .int (nI q)), (4, .int (nI last)), (5, .int (nI dd)), (6, .int (nI (sWho p q last))), (7, .int (nI (tEnc Lf far p q last z))), (8, .int (nI 4)), (9, .int (nI 6)), (10, .long 0), (12, .int (nI 4))]) (List.forall_mem_cons.mpr ⟨rfl, List.forall_mem_cons.mpr ⟨rfl, List.forall_mem_cons.mpr ⟨rfl, List.forall_mem_cons.mpr ⟨rfl, List.forall_mem_cons.mpr ⟨rfl, List.forall_mem_cons.mpr ⟨rfl, List.forall_mem_cons.mpr ⟨rfl, List.forall_mem_cons.mpr ⟨rfl, List.forall_mem_cons.mpr ⟨rfl, List.forall_mem_cons.mpr ⟨rfl, List.forall_mem_cons.mpr ⟨rfl, List.forall_mem_cons.mpr ⟨rfl, fun _ h => absurd h List.not_mem_nil⟩⟩⟩⟩⟩⟩⟩⟩⟩⟩⟩⟩) ?_
  refine lp_worth hbt hS hs hh (t := 2) (Or.inr ⟨rfl, rfl, rfl⟩) hz2 hd h3 3 4 0 _ _ rfl (Nat.le_refl _) (if_neg (by decide)).symm (sPo_o hbt hE hof hN2 hle hkn) (fun _ k a b => absurd b (by omega)) (by rw [hzc]; exact tEnc_ne hz2)

theorem tEnc_mask {Lf : Nat → (Nat → Int32) → Int32} {far p q last z : Nat} (hz : z ≤ 2) : nI (tEnc Lf far p q last z) &&& nI 2097151 = nI (tEnc Lf far p q last 0) := by
  have h1 : tEnc Lf far p q last 0 < 2097152 := by
    unfold tEnc tcd
    have h1 : tA Lf far p q last ≤ 10 := bnd_le
    have h2 : tB Lf far p q last ≤ 10 - tA Lf far p q last := bnd_le
    have h3 : tC_ Lf far p q last ≤ 10 - tA Lf far p q last - tB Lf far p q last := bnd_le
    have h4 : tH Lf far p q last ≤ 10 := bnd_le
    have h5 : tK Lf far p q last ≤ 10 := bnd_le
    omega
  rw [pk_andN (Nat.lt_trans (tEnc_lt hz) (by decide)) 21 rfl]
  congr 1
  have e : tEnc Lf far p q last z = tEnc Lf far p q last 0 + 2097152 * z := by unfold tEnc; omega
  rw [e]
  omega
theorem tEnc_put {Lf : Nat → (Nat → Int32) → Int32} {far p q last z : Nat} : nI (tEnc Lf far p q last 0) ||| nI (z * 2 ^ 21) = nI (tEnc Lf far p q last z) := by
  have h1 : tEnc Lf far p q last 0 < 2 ^ 21 := by
    unfold tEnc tcd
    have h1 : tA Lf far p q last ≤ 10 := bnd_le
    have h2 : tB Lf far p q last ≤ 10 - tA Lf far p q last := bnd_le
    have h3 : tC_ Lf far p q last ≤ 10 - tA Lf far p q last - tB Lf far p q last := bnd_le
    have h4 : tH Lf far p q last ≤ 10 := bnd_le
    have h5 : tK Lf far p q last ≤ 10 := bnd_le
    omega
  rw [or_low 21 h1]
  congr 1
  unfold tEnc
  omega
theorem sPo_w {Lf : Nat → (Nat → Int32) → Int32} {Rl : Nat → Nat → (Nat → Int32) → Int32} {far : Nat} {bt : Nat → Nat → Nat → Nat} {kd one two : Int32} {I0 I : zI} {J0 J : zJ} (h : sPo Lf Rl far bt kd one two I0 J0 I J) {p q last : Nat} (hs : sOk p q last) (hn : ¬ nn kd one two) : sPo Lf Rl far bt kd one two I0 J0 I (zwl J 31 (sSpot p q last) (eW (sV kd one two Rl bt Lf far (hnd p q) p q last))) := by
  obtain ⟨h1, ⟨e1, e2, e3, e4, e5⟩, h3, h4, h5⟩ := h
  refine ⟨h1, ⟨e1, e2, fun a b l hs2 => ?_, fun hn2 => absurd hn2 hn, e5⟩, h3, h4, fun a ha => (zup_n ha).trans (h5 a ha)⟩
  rw [zwl_at]
  by_cases e : sSpot a b l = sSpot p q last
  · obtain ⟨rfl, rfl, rfl⟩ := sSpot_inj hs2.1 hs2.2.1 hs2.2.2.1 hs2.2.2.2 hs.1 hs.2.1 hs.2.2.1 hs.2.2.2 e
    rw [if_pos ⟨rfl, rfl⟩]; exact Or.inr rfl
  · rw [if_neg (fun h => e h.2)]; exact e3 a b l hs2
theorem sPo_n {Lf : Nat → (Nat → Int32) → Int32} {Rl : Nat → Nat → (Nat → Int32) → Int32} {far : Nat} {bt : Nat → Nat → Nat → Nat} {kd one two : Int32} (hbt : btK Lf Rl far bt) {I0 I : zI} {J0 J : zJ} (h : sPo Lf Rl far bt kd one two I0 J0 I J) {p q last : Nat} (hs : sOk p q last) (hc : clo I Lf far bt p q last (bt p q last)) : sPo Lf Rl far bt kd one two I0 J0 (zwr I 30 (sSpot p q last) (nI (tEnc Lf far p q last (bt p q last)))) (zwl J 31 (sSpot p q last) (eW (sV kd one two Rl bt Lf far (hnd p q) p q last))) ∧ bk (zwr I 30 (sSpot p q last) (nI (tEnc Lf far p q last (bt p q last)))) Lf far bt p q last := by
  obtain ⟨h1, ⟨e1, e2, e3, e4, e5⟩, h3, h4, h5⟩ := h
  have hb12 := btK_12 hbt p q last
  have hof : offT I (zwr I 30 (sSpot p q last) (nI (tEnc Lf far p q last (bt p q last)))) := fun a _ _ _ h => zup_n h
  have heq : ∀ a b l, sOk a b l → sSpot a b l = sSpot p q last → a = p ∧ b = q ∧ l = last := fun a b l hs2 e => sSpot_inj hs2.1 hs2.2.1 hs2.2.2.1 hs2.2.2.2 hs.1 hs.2.1 hs.2.2.1 hs.2.2.2 e
  have hbk : bk (zwr I 30 (sSpot p q last) (nI (tEnc Lf far p q last (bt p q last)))) Lf far bt p q last := by unfold bk; rw [zwr_at, if_pos ⟨rfl, rfl⟩]
  have hat : ∀ a b l, sOk a b l → ¬ (a = p ∧ b = q ∧ l = last) → zwr I 30 (sSpot p q last) (nI (tEnc Lf far p q last (bt p q last))) 30 (sSpot a b l) = I 30 (sSpot a b l) := fun a b l hs2 hne => by rw [zwr_at, if_neg (fun h => hne (heq a b l hs2 h.2))]
  have hmo : ∀ a b l, sOk a b l → bk I Lf far bt a b l → bk (zwr I 30 (sSpot p q last) (nI (tEnc Lf far p q last (bt p q last)))) Lf far bt a b l := fun a b l hs2 hk => by
    by_cases e : a = p ∧ b = q ∧ l = last
    · obtain ⟨rfl, rfl, rfl⟩ := e; exact hbk
    · unfold bk; rw [hat a b l hs2 e]; exact hk
  have hN : tenOK (zwr I 30 (sSpot p q last) (nI (tEnc Lf far p q last (bt p q last)))) Lf far bt := fun a b l hs2 => by
    by_cases e : a = p ∧ b = q ∧ l = last
    · obtain ⟨rfl, rfl, rfl⟩ := e; exact Or.inr ⟨bt a b l, by omega, Or.inr rfl, hbk⟩
    · rw [hat a b l hs2 e]; exact e1.2.2.2.2 a b l hs2
  refine ⟨⟨offT_t h1 hof, ⟨endI_o e1 hof hN, e2, fun a b l hs2 => ?_, fun hn a b l hs2 hj => ?_, fun a b l hs2 hk part c d g hs3 => ?_⟩, tenKn_t h3 (fun a b l hs2 hj => ?_), fun a b l hs2 hk => hmo a b l hs2 (h4 a b l hs2 hk), fun a ha => (zup_n ha).trans (h5 a ha)⟩, hbk⟩
  · rw [zwl_at]
    by_cases e : sSpot a b l = sSpot p q last
    · obtain ⟨rfl, rfl, rfl⟩ := heq a b l hs2 e
      rw [if_pos ⟨rfl, rfl⟩]; exact Or.inr rfl
    · rw [if_neg (fun h => e h.2)]; exact e3 a b l hs2
  · by_cases e : sSpot a b l = sSpot p q last
    · obtain ⟨rfl, rfl, rfl⟩ := heq a b l hs2 e; exact hbk
    · rw [zwl_at, if_neg (fun h => e h.2)] at hj
      exact hmo a b l hs2 (e4 hn a b l hs2 hj)
  · by_cases e : a = p ∧ b = q ∧ l = last
    · obtain ⟨rfl, rfl, rfl⟩ := e; exact hmo _ _ _ hs3 (hc part c d g hs3)
    · refine hmo _ _ _ hs3 (e5 a b l hs2 ?_ part c d g hs3)
      unfold bk at hk ⊢; rw [← hat a b l hs2 e]; exact hk
  · by_cases e : a = p ∧ b = q ∧ l = last
    · obtain ⟨rfl, rfl, rfl⟩ := e; rw [zwr_at, if_pos ⟨rfl, rfl⟩]; exact tEnc_ne (by omega)
    · rw [hat a b l hs2 e]; exact hj
theorem sV_nn {Rl Rl2 : Nat → Nat → (Nat → Int32) → Int32} {bt bt2 : Nat → Nat → Nat → Nat} {Lf : Nat → (Nat → Int32) → Int32} {far : Nat} : ∀ h p q l, sV 1 (-1) (-1) Rl bt Lf far h p q l = sV 1 (-1) (-1) Rl2 bt2 Lf far h p q l
  | 0, _, _, _ => rfl
  | h + 1, p, q, l => by
    have ih := fun a b c => sV_nn (Rl := Rl) (Rl2 := Rl2) (bt := bt) (bt2 := bt2) (Lf := Lf) (far := far) h a b c
    have e : (fun a b l => (sV 1 (-1) (-1) Rl bt Lf far h a b l).1) = (fun a b l => (sV 1 (-1) (-1) Rl2 bt2 Lf far h a b l).1) := by funext a b c; rw [ih]
    have e2 : sTold 1 (-1) (-1) Rl bt far p q l = sTold 1 (-1) (-1) Rl2 bt2 far p q l := by
      unfold sTold
      have h1 : ¬ ((1 : Int32) = 3) := by decide
      have h2 : ¬ ((1 : Int32) = 1 ∧ ¬ (if sWho p q l = 0 then (-1 : Int32) else -1) < 0 ∧ (if sWho p q l = 0 then (-1 : Int32) else -1) < 4) := fun h => h.2.1 (by split <;> decide)
      rw [if_neg h1, if_neg h1, if_neg h2, if_neg h2]
    simp only [sV]
    rw [e, e2]
set_option maxRecDepth 100000 in
set_option maxHeartbeats 4000000 in
theorem lp_settle {G : zG} {Lf : Nat → (Nat → Int32) → Int32} {Rl : Nat → Nat → (Nat → Int32) → Int32} {far : Nat} {bt : Nat → Nat → Nat → Nat} {kd one two : Int32} (hbt : btK Lf Rl far bt) {h : Nat} {p q last : Nat} (hs : sOk p q last) (hh : hnd p q = h + 1) {a b : Int64} {s : Bool} (hv : sV kd one two Rl bt Lf far (h + 1) p q last = (if s then b else a, s)) {I0 I : zI} {J0 J : zJ} (hP : sPo Lf Rl far bt kd one two I0 J0 I J) (hk : I 30 (sSpot p q last) ≠ 0) (hc : nn kd one two → clo I Lf far bt p q last (bt p q last)) : V G mX3_settle (4 + 2 * (h + 1)) (zP (fun r I' J' => r = some (.long (eW (sV kd one two Rl bt Lf far (h + 1) p q last))) ∧ sPo Lf Rl far bt kd one two I0 J0 I' J' ∧ (nn kd one two → nbk I' Lf far bt p q last))) 194 [(0, .ref 9), (6, .int (nI (sSpot p q last))), (8, .long a), (10, .long b), (13, .int (nI (if s = true then 1 else 0)))] [] (0, 0) zsh I J := by
  obtain ⟨hp, hq, hl, h35⟩ := id hs
  have hsw := sWho_le1 hp hq h35 (last := last)
  have hsp := sSpot_lt hp hq hl h35
  by_cases hn : nn kd one two
  · skip
    have hPn := sPo_n hbt hP hs (hc hn)
    rw [hh] at hPn
    obtain ⟨z, hz2, -, hz⟩ := (hP.2.1.1.2.2.2.2 p q last hs).resolve_left hk
    have hbb : bt p q last = if s = true then 2 else 1 := by
      rw [hbt p q last, hh]; obtain ⟨rfl, rfl, rfl⟩ := hn; rw [hv]
    cases s
    · skip
      have hbb : 1 = bt p q last := hbb.symm
      refine V_aload_n dX3_settle_194 rfl ?_
      refine V_getR (b := 31) dX3_settle_195 fX3_47 ⟨Nat.le_of_ble_eq_true rfl, Nat.le_of_ble_eq_true rfl⟩ rfl rfl rfl ?_
      refine V_iload dX3_settle_198 rfl ?_
      refine V_iload dX3_settle_200 rfl ?_
      refine V_if_eq (tgt := 216) dX3_settle_202 rfl (fun _ => ?_) (fun h => absurd h (by decide))
      refine V_ldc2 dX3_settle_216 qX3_138 ?_
      refine V_lload dX3_settle_219 rfl ?_
      refine V_lmul dX3_settle_221 ?_
      refine V_eqL (y := eW (sV kd one two Rl bt Lf far (h + 1) p q last)) (by rw [hv]; rfl) ?_
      refine V_lastN (k := sSpot p q last) dX3_settle_222 ⟨Nat.le_of_ble_eq_true rfl, Nat.le_of_ble_eq_true rfl⟩ rfl (by decide) hsp ?_
      refine V_aload_n dX3_settle_223 rfl ?_
      refine V_getI dX3_settle_224 fX3_44 ⟨Nat.le_of_ble_eq_true rfl, Nat.le_of_ble_eq_true rfl⟩ rfl rfl ?_
      refine V_eqI (y := nI 1) (hP.2.1.2.1.1.trans hn.1) ?_
      refine V_iconst (v := nI 1) dX3_settle_227 rfl ?_
      refine V_icmp_ne (tgt := 282) dX3_settle_228 rfl (fun h => absurd h (by decide)) (fun _ => ?_)
      refine V_aload_n dX3_settle_231 rfl ?_
      refine V_getI dX3_settle_232 fX3_78 ⟨Nat.le_of_ble_eq_true rfl, Nat.le_of_ble_eq_true rfl⟩ rfl rfl ?_
      refine V_eqI (y := (-1)) (hP.2.1.2.1.2.1.trans hn.2.1) ?_
      refine V_iconst (v := (-1)) dX3_settle_235 rfl ?_
      refine V_icmp_ne (tgt := 282) dX3_settle_236 rfl (fun h => absurd h (by decide)) (fun _ => ?_)
      refine V_aload_n dX3_settle_239 rfl ?_
      refine V_getI dX3_settle_240 fX3_81 ⟨Nat.le_of_ble_eq_true rfl, Nat.le_of_ble_eq_true rfl⟩ rfl rfl ?_
      refine V_eqI (y := (-1)) (hP.2.1.2.1.2.2.trans hn.2.2) ?_
      refine V_iconst (v := (-1)) dX3_settle_243 rfl ?_
      refine V_icmp_ne (tgt := 282) dX3_settle_244 rfl (fun h => absurd h (by decide)) (fun _ => ?_)
      refine V_iload dX3_settle_247 rfl ?_
      refine V_if_eq (tgt := 256) dX3_settle_249 rfl (fun _ => ?_) (fun h => absurd h (by decide))
      refine V_iconst (v := nI 1) dX3_settle_256 rfl ?_
      refine V_istore (ls' := [(14, .int (nI 1)), (0, .ref 9), (6, .int (nI (sSpot p q last))), (8, .long a), (10, .long b), (13, .int (nI 0))]) dX3_settle_257 (by decide) rfl ?_
      refine V_aload_n dX3_settle_259 rfl ?_
      refine V_getR (b := 30) dX3_settle_260 fX3_40 ⟨Nat.le_of_ble_eq_true rfl, Nat.le_of_ble_eq_true rfl⟩ rfl rfl rfl ?_
      refine V_iload dX3_settle_263 rfl ?_
      refine V_aload_n dX3_settle_265 rfl ?_
      refine V_getR (b := 30) dX3_settle_266 fX3_40 ⟨Nat.le_of_ble_eq_true rfl, Nat.le_of_ble_eq_true rfl⟩ rfl rfl rfl ?_
      refine V_iload dX3_settle_269 rfl ?_
      refine V_ialdN (k := sSpot p q last) dX3_settle_271 ⟨Nat.le_of_ble_eq_true rfl, Nat.le_of_ble_eq_true rfl⟩ rfl (by decide) hsp ?_
      refine V_eqI (y := nI (tEnc Lf far p q last z)) hz ?_
      refine V_ldc dX3_settle_272 qX3_150 ?_
      refine V_eqI (y := nI 2097151) rfl ?_
      refine V_iand dX3_settle_274 (V_eqI (y := nI (tEnc Lf far p q last 0)) (tEnc_mask hz2) ?_)
      refine V_iload dX3_settle_275 rfl ?_
      refine V_bipush (v := nI 21) dX3_settle_277 rfl ?_
      refine V_ishl dX3_settle_279 (V_eqI (y := nI (1 * 2 ^ 21)) rfl ?_)
      refine V_ior dX3_settle_280 (V_eqI (y := nI (tEnc Lf far p q last (bt p q last))) (by rw [tEnc_put, hbb]) ?_)
      refine V_iastN (k := sSpot p q last) dX3_settle_281 ⟨Nat.le_of_ble_eq_true rfl, Nat.le_of_ble_eq_true rfl⟩ rfl (by decide) hsp ?_
      refine V_aload_n dX3_settle_282 rfl ?_
      refine V_getR (b := 31) dX3_settle_283 fX3_47 ⟨Nat.le_of_ble_eq_true rfl, Nat.le_of_ble_eq_true rfl⟩ rfl rfl rfl ?_
      refine V_iload dX3_settle_286 rfl ?_
      refine V_laldN (k := sSpot p q last) dX3_settle_288 ⟨Nat.le_of_ble_eq_true rfl, Nat.le_of_ble_eq_true rfl⟩ rfl (by decide) hsp ?_
      refine V_eqL (y := eW (sV kd one two Rl bt Lf far (h + 1) p q last)) (by simp [zwl_at]) ?_
      exact V_lret ⟨rfl, dX3_settle_289⟩ ⟨Nat.le_of_ble_eq_true rfl, Nat.le_of_ble_eq_true rfl⟩ ⟨rfl, rfl, hPn.1, fun _ _ => hPn.2⟩
    · skip
      have hbb : 2 = bt p q last := hbb.symm
      refine V_aload_n dX3_settle_194 rfl ?_
      refine V_getR (b := 31) dX3_settle_195 fX3_47 ⟨Nat.le_of_ble_eq_true rfl, Nat.le_of_ble_eq_true rfl⟩ rfl rfl rfl ?_
      refine V_iload dX3_settle_198 rfl ?_
      refine V_iload dX3_settle_200 rfl ?_
      refine V_if_eq (tgt := 216) dX3_settle_202 rfl (fun h => absurd h (by decide)) (fun _ => ?_)
      refine V_ldc2 dX3_settle_205 qX3_138 ?_
      refine V_lload dX3_settle_208 rfl ?_
      refine V_lmul dX3_settle_210 ?_
      refine V_lconst (v := 1) dX3_settle_211 rfl ?_
      refine V_ladd dX3_settle_212 ?_
      refine V_goto (tgt := 222) dX3_settle_213 rfl ?_
      refine V_eqL (y := eW (sV kd one two Rl bt Lf far (h + 1) p q last)) (by rw [hv]; rfl) ?_
      refine V_lastN (k := sSpot p q last) dX3_settle_222 ⟨Nat.le_of_ble_eq_true rfl, Nat.le_of_ble_eq_true rfl⟩ rfl (by decide) hsp ?_
      refine V_aload_n dX3_settle_223 rfl ?_
      refine V_getI dX3_settle_224 fX3_44 ⟨Nat.le_of_ble_eq_true rfl, Nat.le_of_ble_eq_true rfl⟩ rfl rfl ?_
      refine V_eqI (y := nI 1) (hP.2.1.2.1.1.trans hn.1) ?_
      refine V_iconst (v := nI 1) dX3_settle_227 rfl ?_
      refine V_icmp_ne (tgt := 282) dX3_settle_228 rfl (fun h => absurd h (by decide)) (fun _ => ?_)
      refine V_aload_n dX3_settle_231 rfl ?_
      refine V_getI dX3_settle_232 fX3_78 ⟨Nat.le_of_ble_eq_true rfl, Nat.le_of_ble_eq_true rfl⟩ rfl rfl ?_
      refine V_eqI (y := (-1)) (hP.2.1.2.1.2.1.trans hn.2.1) ?_
      refine V_iconst (v := (-1)) dX3_settle_235 rfl ?_
      refine V_icmp_ne (tgt := 282) dX3_settle_236 rfl (fun h => absurd h (by decide)) (fun _ => ?_)
      refine V_aload_n dX3_settle_239 rfl ?_
      refine V_getI dX3_settle_240 fX3_81 ⟨Nat.le_of_ble_eq_true rfl, Nat.le_of_ble_eq_true rfl⟩ rfl rfl ?_
      refine V_eqI (y := (-1)) (hP.2.1.2.1.2.2.trans hn.2.2) ?_
      refine V_iconst (v := (-1)) dX3_settle_243 rfl ?_
      refine V_icmp_ne (tgt := 282) dX3_settle_244 rfl (fun h => absurd h (by decide)) (fun _ => ?_)
      refine V_iload dX3_settle_247 rfl ?_
      refine V_if_eq (tgt := 256) dX3_settle_249 rfl (fun h => absurd h (by decide)) (fun _ => ?_)
      refine V_iconst (v := nI 2) dX3_settle_252 rfl ?_
      refine V_goto (tgt := 257) dX3_settle_253 rfl ?_
      refine V_istore (ls' := [(14, .int (nI 2)), (0, .ref 9), (6, .int (nI (sSpot p q last))), (8, .long a), (10, .long b), (13, .int (nI 1))]) dX3_settle_257 (by decide) rfl ?_
      refine V_aload_n dX3_settle_259 rfl ?_
      refine V_getR (b := 30) dX3_settle_260 fX3_40 ⟨Nat.le_of_ble_eq_true rfl, Nat.le_of_ble_eq_true rfl⟩ rfl rfl rfl ?_
      refine V_iload dX3_settle_263 rfl ?_
      refine V_aload_n dX3_settle_265 rfl ?_
      refine V_getR (b := 30) dX3_settle_266 fX3_40 ⟨Nat.le_of_ble_eq_true rfl, Nat.le_of_ble_eq_true rfl⟩ rfl rfl rfl ?_
      refine V_iload dX3_settle_269 rfl ?_
      refine V_ialdN (k := sSpot p q last) dX3_settle_271 ⟨Nat.le_of_ble_eq_true rfl, Nat.le_of_ble_eq_true rfl⟩ rfl (by decide) hsp ?_
      refine V_eqI (y := nI (tEnc Lf far p q last z)) hz ?_
      refine V_ldc dX3_settle_272 qX3_150 ?_
      refine V_eqI (y := nI 2097151) rfl ?_
      refine V_iand dX3_settle_274 (V_eqI (y := nI (tEnc Lf far p q last 0)) (tEnc_mask hz2) ?_)
      refine V_iload dX3_settle_275 rfl ?_
      refine V_bipush (v := nI 21) dX3_settle_277 rfl ?_
      refine V_ishl dX3_settle_279 (V_eqI (y := nI (2 * 2 ^ 21)) rfl ?_)
      refine V_ior dX3_settle_280 (V_eqI (y := nI (tEnc Lf far p q last (bt p q last))) (by rw [tEnc_put, hbb]) ?_)
      refine V_iastN (k := sSpot p q last) dX3_settle_281 ⟨Nat.le_of_ble_eq_true rfl, Nat.le_of_ble_eq_true rfl⟩ rfl (by decide) hsp ?_
      refine V_aload_n dX3_settle_282 rfl ?_
      refine V_getR (b := 31) dX3_settle_283 fX3_47 ⟨Nat.le_of_ble_eq_true rfl, Nat.le_of_ble_eq_true rfl⟩ rfl rfl rfl ?_
      refine V_iload dX3_settle_286 rfl ?_
      refine V_laldN (k := sSpot p q last) dX3_settle_288 ⟨Nat.le_of_ble_eq_true rfl, Nat.le_of_ble_eq_true rfl⟩ rfl (by decide) hsp ?_
      refine V_eqL (y := eW (sV kd one two Rl bt Lf far (h + 1) p q last)) (by simp [zwl_at]) ?_
      exact V_lret ⟨rfl, dX3_settle_289⟩ ⟨Nat.le_of_ble_eq_true rfl, Nat.le_of_ble_eq_true rfl⟩ ⟨rfl, rfl, hPn.1, fun _ _ => hPn.2⟩
  · skip
    have hPw := sPo_w hP hs hn
    rw [hh] at hPw
    cases s
    · skip
      refine V_aload_n dX3_settle_194 rfl ?_
      refine V_getR (b := 31) dX3_settle_195 fX3_47 ⟨Nat.le_of_ble_eq_true rfl, Nat.le_of_ble_eq_true rfl⟩ rfl rfl rfl ?_
      refine V_iload dX3_settle_198 rfl ?_
      refine V_iload dX3_settle_200 rfl ?_
      refine V_if_eq (tgt := 216) dX3_settle_202 rfl (fun _ => ?_) (fun h => absurd h (by decide))
      refine V_ldc2 dX3_settle_216 qX3_138 ?_
      refine V_lload dX3_settle_219 rfl ?_
      refine V_lmul dX3_settle_221 ?_
      refine V_eqL (y := eW (sV kd one two Rl bt Lf far (h + 1) p q last)) (by rw [hv]; rfl) ?_
      refine V_lastN (k := sSpot p q last) dX3_settle_222 ⟨Nat.le_of_ble_eq_true rfl, Nat.le_of_ble_eq_true rfl⟩ rfl (by decide) hsp ?_
      refine V_aload_n dX3_settle_223 rfl ?_
      refine V_getI dX3_settle_224 fX3_44 ⟨Nat.le_of_ble_eq_true rfl, Nat.le_of_ble_eq_true rfl⟩ rfl rfl ?_
      refine V_eqI (y := kd) hP.2.1.2.1.1 ?_
      refine V_iconst (v := nI 1) dX3_settle_227 rfl ?_
      refine V_icmp_ne (tgt := 282) dX3_settle_228 rfl (fun h228 => ?_) (fun h228 => ?_)
      · skip
        refine V_aload_n dX3_settle_282 rfl ?_
        refine V_getR (b := 31) dX3_settle_283 fX3_47 ⟨Nat.le_of_ble_eq_true rfl, Nat.le_of_ble_eq_true rfl⟩ rfl rfl rfl ?_
        refine V_iload dX3_settle_286 rfl ?_
        refine V_laldN (k := sSpot p q last) dX3_settle_288 ⟨Nat.le_of_ble_eq_true rfl, Nat.le_of_ble_eq_true rfl⟩ rfl (by decide) hsp ?_
        refine V_eqL (y := eW (sV kd one two Rl bt Lf far (h + 1) p q last)) (by simp [zwl_at]) ?_
        exact V_lret ⟨rfl, dX3_settle_289⟩ ⟨Nat.le_of_ble_eq_true rfl, Nat.le_of_ble_eq_true rfl⟩ ⟨rfl, rfl, hPw, fun h => absurd h hn⟩
      · skip
        refine V_aload_n dX3_settle_231 rfl ?_
        refine V_getI dX3_settle_232 fX3_78 ⟨Nat.le_of_ble_eq_true rfl, Nat.le_of_ble_eq_true rfl⟩ rfl rfl ?_
        refine V_eqI (y := one) hP.2.1.2.1.2.1 ?_
        refine V_iconst (v := (-1)) dX3_settle_235 rfl ?_
        refine V_icmp_ne (tgt := 282) dX3_settle_236 rfl (fun h236 => ?_) (fun h236 => ?_)
        · skip
          refine V_aload_n dX3_settle_282 rfl ?_
          refine V_getR (b := 31) dX3_settle_283 fX3_47 ⟨Nat.le_of_ble_eq_true rfl, Nat.le_of_ble_eq_true rfl⟩ rfl rfl rfl ?_
          refine V_iload dX3_settle_286 rfl ?_
          refine V_laldN (k := sSpot p q last) dX3_settle_288 ⟨Nat.le_of_ble_eq_true rfl, Nat.le_of_ble_eq_true rfl⟩ rfl (by decide) hsp ?_
          refine V_eqL (y := eW (sV kd one two Rl bt Lf far (h + 1) p q last)) (by simp [zwl_at]) ?_
          exact V_lret ⟨rfl, dX3_settle_289⟩ ⟨Nat.le_of_ble_eq_true rfl, Nat.le_of_ble_eq_true rfl⟩ ⟨rfl, rfl, hPw, fun h => absurd h hn⟩
        · skip
          refine V_aload_n dX3_settle_239 rfl ?_
          refine V_getI dX3_settle_240 fX3_81 ⟨Nat.le_of_ble_eq_true rfl, Nat.le_of_ble_eq_true rfl⟩ rfl rfl ?_
          refine V_eqI (y := two) hP.2.1.2.1.2.2 ?_
          refine V_iconst (v := (-1)) dX3_settle_243 rfl ?_
          refine V_icmp_ne (tgt := 282) dX3_settle_244 rfl (fun _ => ?_) (fun h244 => absurd ⟨h228, h236, h244⟩ hn)
          refine V_aload_n dX3_settle_282 rfl ?_
          refine V_getR (b := 31) dX3_settle_283 fX3_47 ⟨Nat.le_of_ble_eq_true rfl, Nat.le_of_ble_eq_true rfl⟩ rfl rfl rfl ?_
          refine V_iload dX3_settle_286 rfl ?_
          refine V_laldN (k := sSpot p q last) dX3_settle_288 ⟨Nat.le_of_ble_eq_true rfl, Nat.le_of_ble_eq_true rfl⟩ rfl (by decide) hsp ?_
          refine V_eqL (y := eW (sV kd one two Rl bt Lf far (h + 1) p q last)) (by simp [zwl_at]) ?_
          exact V_lret ⟨rfl, dX3_settle_289⟩ ⟨Nat.le_of_ble_eq_true rfl, Nat.le_of_ble_eq_true rfl⟩ ⟨rfl, rfl, hPw, fun h => absurd h hn⟩
    · skip
      refine V_aload_n dX3_settle_194 rfl ?_
      refine V_getR (b := 31) dX3_settle_195 fX3_47 ⟨Nat.le_of_ble_eq_true rfl, Nat.le_of_ble_eq_true rfl⟩ rfl rfl rfl ?_
      refine V_iload dX3_settle_198 rfl ?_
      refine V_iload dX3_settle_200 rfl ?_
      refine V_if_eq (tgt := 216) dX3_settle_202 rfl (fun h => absurd h (by decide)) (fun _ => ?_)
      refine V_ldc2 dX3_settle_205 qX3_138 ?_
      refine V_lload dX3_settle_208 rfl ?_
      refine V_lmul dX3_settle_210 ?_
      refine V_lconst (v := 1) dX3_settle_211 rfl ?_
      refine V_ladd dX3_settle_212 ?_
      refine V_goto (tgt := 222) dX3_settle_213 rfl ?_
      refine V_eqL (y := eW (sV kd one two Rl bt Lf far (h + 1) p q last)) (by rw [hv]; rfl) ?_
      refine V_lastN (k := sSpot p q last) dX3_settle_222 ⟨Nat.le_of_ble_eq_true rfl, Nat.le_of_ble_eq_true rfl⟩ rfl (by decide) hsp ?_
      refine V_aload_n dX3_settle_223 rfl ?_
      refine V_getI dX3_settle_224 fX3_44 ⟨Nat.le_of_ble_eq_true rfl, Nat.le_of_ble_eq_true rfl⟩ rfl rfl ?_
      refine V_eqI (y := kd) hP.2.1.2.1.1 ?_
      refine V_iconst (v := nI 1) dX3_settle_227 rfl ?_
      refine V_icmp_ne (tgt := 282) dX3_settle_228 rfl (fun h228 => ?_) (fun h228 => ?_)
      · skip
        refine V_aload_n dX3_settle_282 rfl ?_
        refine V_getR (b := 31) dX3_settle_283 fX3_47 ⟨Nat.le_of_ble_eq_true rfl, Nat.le_of_ble_eq_true rfl⟩ rfl rfl rfl ?_
        refine V_iload dX3_settle_286 rfl ?_
        refine V_laldN (k := sSpot p q last) dX3_settle_288 ⟨Nat.le_of_ble_eq_true rfl, Nat.le_of_ble_eq_true rfl⟩ rfl (by decide) hsp ?_
        refine V_eqL (y := eW (sV kd one two Rl bt Lf far (h + 1) p q last)) (by simp [zwl_at]) ?_
        exact V_lret ⟨rfl, dX3_settle_289⟩ ⟨Nat.le_of_ble_eq_true rfl, Nat.le_of_ble_eq_true rfl⟩ ⟨rfl, rfl, hPw, fun h => absurd h hn⟩
      · skip
        refine V_aload_n dX3_settle_231 rfl ?_
        refine V_getI dX3_settle_232 fX3_78 ⟨Nat.le_of_ble_eq_true rfl, Nat.le_of_ble_eq_true rfl⟩ rfl rfl ?_
        refine V_eqI (y := one) hP.2.1.2.1.2.1 ?_
        refine V_iconst (v := (-1)) dX3_settle_235 rfl ?_
        refine V_icmp_ne (tgt := 282) dX3_settle_236 rfl (fun h236 => ?_) (fun h236 => ?_)
        · skip
          refine V_aload_n dX3_settle_282 rfl ?_
          refine V_getR (b := 31) dX3_settle_283 fX3_47 ⟨Nat.le_of_ble_eq_true rfl, Nat.le_of_ble_eq_true rfl⟩ rfl rfl rfl ?_
          refine V_iload dX3_settle_286 rfl ?_
          refine V_laldN (k := sSpot p q last) dX3_settle_288 ⟨Nat.le_of_ble_eq_true rfl, Nat.le_of_ble_eq_true rfl⟩ rfl (by decide) hsp ?_
          refine V_eqL (y := eW (sV kd one two Rl bt Lf far (h + 1) p q last)) (by simp [zwl_at]) ?_
          exact V_lret ⟨rfl, dX3_settle_289⟩ ⟨Nat.le_of_ble_eq_true rfl, Nat.le_of_ble_eq_true rfl⟩ ⟨rfl, rfl, hPw, fun h => absurd h hn⟩
        · skip
          refine V_aload_n dX3_settle_239 rfl ?_
          refine V_getI dX3_settle_240 fX3_81 ⟨Nat.le_of_ble_eq_true rfl, Nat.le_of_ble_eq_true rfl⟩ rfl rfl ?_
          refine V_eqI (y := two) hP.2.1.2.1.2.2 ?_
          refine V_iconst (v := (-1)) dX3_settle_243 rfl ?_
          refine V_icmp_ne (tgt := 282) dX3_settle_244 rfl (fun _ => ?_) (fun h244 => absurd ⟨h228, h236, h244⟩ hn)
          refine V_aload_n dX3_settle_282 rfl ?_
          refine V_getR (b := 31) dX3_settle_283 fX3_47 ⟨Nat.le_of_ble_eq_true rfl, Nat.le_of_ble_eq_true rfl⟩ rfl rfl rfl ?_
          refine V_iload dX3_settle_286 rfl ?_
          refine V_laldN (k := sSpot p q last) dX3_settle_288 ⟨Nat.le_of_ble_eq_true rfl, Nat.le_of_ble_eq_true rfl⟩ rfl (by decide) hsp ?_
          refine V_eqL (y := eW (sV kd one two Rl bt Lf far (h + 1) p q last)) (by simp [zwl_at]) ?_
          exact V_lret ⟨rfl, dX3_settle_289⟩ ⟨Nat.le_of_ble_eq_true rfl, Nat.le_of_ble_eq_true rfl⟩ ⟨rfl, rfl, hPw, fun h => absurd h hn⟩

theorem sV_s {Lf : Nat → (Nat → Int32) → Int32} {Rl : Nat → Nat → (Nat → Int32) → Int32} {far : Nat} {bt : Nat → Nat → Nat → Nat} {kd one two : Int32} {h p q last : Nat} : sV kd one two Rl bt Lf far (h + 1) p q last = sPick (sTold kd one two Rl bt far p q last) (sWho p q last) (sW (fun a b l => (sV kd one two Rl bt Lf far h a b l).1) Lf far p q last 1) (sW (fun a b l => (sV kd one two Rl bt Lf far h a b l).1) Lf far p q last 2) := rfl
theorem sPick_1 {w : Nat} {a b c : Int64} : sPick 1 w a b = (if false = true then c else a, false) := rfl
theorem sPick_2 {w : Nat} {a b c : Int64} : sPick 2 w a b = (if true = true then b else c, true) := rfl
theorem sPick_0t {w : Nat} {a b : Int64} (h : if w = 0 then a < b else b < a) : sPick 0 w a b = (if true = true then b else a, true) := by
  unfold sPick
  rw [if_neg (by decide), if_neg (by decide), if_pos h]
  rfl
theorem sPick_0f {w : Nat} {a b : Int64} (h : ¬ if w = 0 then a < b else b < a) : sPick 0 w a b = (if false = true then b else a, false) := by
  unfold sPick
  rw [if_neg (by decide), if_neg (by decide), if_neg h]
  rfl
theorem clo_m {Lf : Nat → (Nat → Int32) → Int32} {Rl : Nat → Nat → (Nat → Int32) → Int32} {far : Nat} {bt : Nat → Nat → Nat → Nat} {kd one two : Int32} {I I' : zI} {J J' : zJ} {p q last t : Nat} (h : sPo Lf Rl far bt kd one two I J I' J') (hc : clo I Lf far bt p q last t) : clo I' Lf far bt p q last t := fun part a b c hs => h.2.2.2.1 _ _ _ hs (hc part a b c hs)
theorem sTold_le {Lf : Nat → (Nat → Int32) → Int32} {Rl : Nat → Nat → (Nat → Int32) → Int32} {far : Nat} {bt : Nat → Nat → Nat → Nat} {kd one two : Int32} (hbt : btK Lf Rl far bt) (p q last : Nat) : sTold kd one two Rl bt far p q last = 0 ∨ sTold kd one two Rl bt far p q last = 1 ∨ sTold kd one two Rl bt far p q last = 2 := by
  have := btK_12 hbt p q last
  unfold sTold
  repeat' split
  all_goals omega
theorem sTold_3 {Lf : Nat → (Nat → Int32) → Int32} {Rl : Nat → Nat → (Nat → Int32) → Int32} {far : Nat} {bt : Nat → Nat → Nat → Nat} {kd one two : Int32} (hbt : btK Lf Rl far bt) {p q last h : Nat} (hh : hnd p q = h + 1) (h3 : kd = 3) : sTold kd one two Rl bt far p q last = bt p q last := by
  unfold sTold
  split
  · rename_i hc
    rw [hbt p q last, hh, sV, show sTold 1 (-1) (-1) Rl bt far p q last = 1 from by unfold sTold; rw [if_pos hc]]
    rfl
  · first | rfl | rw [if_pos h3]
theorem sTold_nn {Rl : Nat → Nat → (Nat → Int32) → Int32} {bt : Nat → Nat → Nat → Nat} {far : Nat} {kd one two : Int32} (hn : nn kd one two) {p q last : Nat} : sTold kd one two Rl bt far p q last ≤ 1 := by
  obtain ⟨rfl, rfl, rfl⟩ := hn
  unfold sTold
  have h1 : ¬ ((1 : Int32) = 3) := by decide
  have h2 : ¬ ((1 : Int32) = 1 ∧ ¬ (if sWho p q last = 0 then (-1 : Int32) else -1) < 0 ∧ (if sWho p q last = 0 then (-1 : Int32) else -1) < 4) := fun h => h.2.1 (by split <;> decide)
  rw [if_neg h1, if_neg h2]
  split <;> omega
theorem bt_nn {Lf : Nat → (Nat → Int32) → Int32} {Rl : Nat → Nat → (Nat → Int32) → Int32} {far : Nat} {bt : Nat → Nat → Nat → Nat} {kd one two : Int32} (hbt : btK Lf Rl far bt) (hn : nn kd one two) {p q last h : Nat} (hh : hnd p q = h + 1) : bt p q last = if (sV kd one two Rl bt Lf far (h + 1) p q last).2 = true then 2 else 1 := by
  obtain ⟨rfl, rfl, rfl⟩ := hn
  rw [hbt p q last, hh]
theorem hnd_ok {p q last h : Nat} (hp : p < 56) (hq : q < 56) (hl : last ≤ 1) (hh : hnd p q = h + 1) : sOk p q last := by
  refine ⟨hp, hq, hl, ?_⟩
  by_cases h1 : 35 ≤ p
  · exact Or.inl h1
  · refine Or.inr (Nat.le_of_not_lt fun h2 => ?_)
    unfold hnd at hh
    rw [tHand_0 (by omega), tHand_0 h2] at hh
    omega
theorem hnd_0 {p q last : Nat} (hp : p < 56) (hq : q < 56) (hh : hnd p q = 0) : sWho p q last = 2 ∧ ¬ sOk p q last := by
  unfold hnd at hh
  refine ⟨by unfold sWho; rw [if_pos (by omega)], fun hs => ?_⟩
  rcases hs.2.2.2 with h | h
  · have := tHand_pos h hp; omega
  · have := tHand_pos h hq; omega
set_option maxRecDepth 100000 in
set_option maxHeartbeats 4000000 in
theorem c_settle0 {Lf : Nat → (Nat → Int32) → Int32} {Rl : Nat → Nat → (Nat → Int32) → Int32} {far : Nat} {bt : Nat → Nat → Nat → Nat} {kd one two : Int32} {G : zG} {I : zI} {J : zJ} {p q last dd : Nat} (hp : p < 56) (hq : q < 56) (hl : last ≤ 1) (hh : hnd p q = 0) (hE : eOK Lf Rl far bt kd one two I J) : zK G mX3_settle (4 + 2 * 0) [.ref 9, .int (nI p), .int (nI q), .int (nI last), .int (nI dd)] zsh I J (zP (fun r I' J' => r = some (.long (eW (sV kd one two Rl bt Lf far 0 p q last))) ∧ sPo Lf Rl far bt kd one two I J I' J' ∧ (nn kd one two → nbk I' Lf far bt p q last))) := by
    refine zK_of kX3_settle.2.2.2.2.1 (Nat.le_of_ble_eq_true rfl) ?_
    show V G mX3_settle (4 + 2 * 0) _ 0 [(0, .ref 9), (1, .int (nI p)), (2, .int (nI q)), (3, .int (nI last)), (4, .int (nI dd))] [] (0, 0) zsh I J
    obtain ⟨hw, hw2⟩ := hnd_0 (last := last) hp hq hh
    have hT : tabX I := hE.1.1
    refine V_aload_n dX3_settle_0 rfl ?_
    refine V_getR (b := 10) dX3_settle_1 fX3_14 ⟨Nat.le_of_ble_eq_true rfl, Nat.le_of_ble_eq_true rfl⟩ rfl rfl rfl ?_
    refine V_iload_n dX3_settle_4 rfl ?_
    refine V_iload_n dX3_settle_5 rfl ?_
    refine V_iload_n dX3_settle_6 rfl ?_
    refine V_callV (As := [.int (nI p), .int (nI q), .int (nI last)]) (st := []) (a := 10) dX3_settle_7 kX2_whoPlays lX3_92 (by omega) rfl rfl (Nat.le_of_ble_eq_true rfl) ⟨Nat.le_of_ble_eq_true rfl, Nat.le_of_ble_eq_true rfl⟩ ⟨Nat.le_of_ble_eq_true rfl, Nat.le_of_ble_eq_true rfl⟩ rfl ⟨rfl, by decide⟩ (c_whoPlays hT hp hq hl) ?_
    rintro _ _ _ _ ⟨rfl, rfl, rfl, rfl⟩
    refine V_eqI (y := nI 2) (congrArg nI hw) ?_
    refine V_istore (ls' := [(5, .int (nI 2)), (0, .ref 9), (1, .int (nI p)), (2, .int (nI q)), (3, .int (nI last)), (4, .int (nI dd))]) dX3_settle_10 (by decide) rfl ?_
    refine V_iload dX3_settle_12 rfl ?_
    refine V_iconst (v := nI 2) dX3_settle_14 rfl ?_
    refine V_icmp_ne (tgt := 36) dX3_settle_15 rfl (fun h => absurd h (by decide)) (fun _ => ?_)
    refine V_ldc2 dX3_settle_18 qX3_138 ?_
    refine V_aload_n dX3_settle_21 rfl ?_
    refine V_aload_n dX3_settle_22 rfl ?_
    refine V_getR (b := 10) dX3_settle_23 fX3_14 ⟨Nat.le_of_ble_eq_true rfl, Nat.le_of_ble_eq_true rfl⟩ rfl rfl rfl ?_
    refine V_iload_n dX3_settle_26 rfl ?_
    refine V_iload_n dX3_settle_27 rfl ?_
    refine V_callV (As := [.int (nI p), .int (nI q)]) (st := [.ref 9, .long 2]) (a := 10) dX3_settle_28 kX2_pointsNow lX3_140 (by omega) rfl rfl (Nat.le_of_ble_eq_true rfl) ⟨Nat.le_of_ble_eq_true rfl, Nat.le_of_ble_eq_true rfl⟩ ⟨Nat.le_of_ble_eq_true rfl, Nat.le_of_ble_eq_true rfl⟩ rfl ⟨rfl, by decide⟩ (c_pointsNow hT hp hq) ?_
    rintro _ _ _ _ ⟨rfl, rfl, rfl, rfl⟩
    refine V_callV (As := [.int (sPts p q)]) (st := [.long 2]) (a := 9) dX3_settle_31 kX3_worthOfCount lX3_143 (by omega) rfl rfl (Nat.le_of_ble_eq_true rfl) ⟨Nat.le_of_ble_eq_true rfl, Nat.le_of_ble_eq_true rfl⟩ ⟨Nat.le_of_ble_eq_true rfl, Nat.le_of_ble_eq_true rfl⟩ rfl ⟨rfl, by decide⟩ (c_worthOfCount hE.2.1.1 hE.2.1.2.1) ?_
    rintro _ _ _ _ ⟨rfl, rfl, rfl, rfl⟩
    refine V_lmul dX3_settle_34 ?_
    exact V_lret ⟨rfl, dX3_settle_35⟩ ⟨Nat.le_of_ble_eq_true rfl, Nat.le_of_ble_eq_true rfl⟩ ⟨rfl, rfl, sPo_r hE, fun _ hs2 => absurd hs2 hw2⟩

set_option maxRecDepth 100000 in
set_option maxHeartbeats 4000000 in
theorem c_settleK {Lf : Nat → (Nat → Int32) → Int32} {Rl : Nat → Nat → (Nat → Int32) → Int32} {far : Nat} {bt : Nat → Nat → Nat → Nat} {kd one two : Int32} {h : Nat} {G : zG} {I : zI} {J : zJ} {p q last dd : Nat} (hp : p < 56) (hq : q < 56) (hl : last ≤ 1) (hs : sOk p q last) (hh : hnd p q = h + 1) (hd : dd + (h + 1) ≤ 6) (hE : eOK Lf Rl far bt kd one two I J) (hj : J 31 (sSpot p q last) ≠ -4000000000000000000) : zK G mX3_settle (4 + 2 * (h + 1)) [.ref 9, .int (nI p), .int (nI q), .int (nI last), .int (nI dd)] zsh I J (zP (fun r I' J' => r = some (.long (eW (sV kd one two Rl bt Lf far (h + 1) p q last))) ∧ sPo Lf Rl far bt kd one two I J I' J' ∧ (nn kd one two → nbk I' Lf far bt p q last))) := by
    refine zK_of kX3_settle.2.2.2.2.1 (Nat.le_of_ble_eq_true rfl) ?_
    show V G mX3_settle (4 + 2 * (h + 1)) _ 0 [(0, .ref 9), (1, .int (nI p)), (2, .int (nI q)), (3, .int (nI last)), (4, .int (nI dd))] [] (0, 0) zsh I J
    have hT : tabX I := hE.1.1
    have h35 := hs.2.2.2
    have hsw := sWho_le1 hp hq h35 (last := last)
    have hsp := sSpot_lt hp hq hl h35
    have hj2 := (hE.2.2.1 p q last hs).resolve_left hj
    rw [hh] at hj2
    · skip
      refine V_aload_n dX3_settle_0 rfl ?_
      refine V_getR (b := 10) dX3_settle_1 fX3_14 ⟨Nat.le_of_ble_eq_true rfl, Nat.le_of_ble_eq_true rfl⟩ rfl rfl rfl ?_
      refine V_iload_n dX3_settle_4 rfl ?_
      refine V_iload_n dX3_settle_5 rfl ?_
      refine V_iload_n dX3_settle_6 rfl ?_
      refine V_callV (As := [.int (nI p), .int (nI q), .int (nI last)]) (st := []) (a := 10) dX3_settle_7 kX2_whoPlays lX3_92 (by omega) rfl rfl (Nat.le_of_ble_eq_true rfl) ⟨Nat.le_of_ble_eq_true rfl, Nat.le_of_ble_eq_true rfl⟩ ⟨Nat.le_of_ble_eq_true rfl, Nat.le_of_ble_eq_true rfl⟩ rfl ⟨rfl, by decide⟩ (c_whoPlays hT hp hq hl) ?_
      rintro _ _ _ _ ⟨rfl, rfl, rfl, rfl⟩
      refine V_istore (ls' := [(5, .int (nI (sWho p q last))), (0, .ref 9), (1, .int (nI p)), (2, .int (nI q)), (3, .int (nI last)), (4, .int (nI dd))]) dX3_settle_10 (by decide) rfl ?_
      refine V_iload dX3_settle_12 rfl ?_
      refine V_iconst (v := nI 2) dX3_settle_14 rfl ?_
      refine V_icmp_neN (tgt := 36) dX3_settle_15 rfl (by omega) (by omega) (fun _ => ?_) (fun h => absurd h (by omega))
      refine V_iload_n dX3_settle_36 rfl ?_
      refine V_iload_n dX3_settle_37 rfl ?_
      refine V_iload_n dX3_settle_38 rfl ?_
      refine V_callS (As := [.int (nI p), .int (nI q), .int (nI last)]) (st := []) dX3_settle_39 kX3_spotOf lX3_95 (by omega) rfl rfl (Nat.le_of_ble_eq_true rfl) ⟨Nat.le_of_ble_eq_true rfl, Nat.le_of_ble_eq_true rfl⟩ (c_spotOf (by omega) (by omega) (by omega) (by omega)) ?_
      rintro _ _ _ _ ⟨rfl, rfl, rfl, rfl⟩
      refine V_istore (ls' := [(6, .int (nI (sSpot p q last))), (5, .int (nI (sWho p q last))), (0, .ref 9), (1, .int (nI p)), (2, .int (nI q)), (3, .int (nI last)), (4, .int (nI dd))]) dX3_settle_42 (by decide) rfl ?_
      refine V_iload dX3_settle_44 rfl ?_
      refine V_bipush (v := nI 6) dX3_settle_46 rfl ?_
      refine V_icmp_gtN (tgt := 64) dX3_settle_48 rfl (by omega) (by omega) (fun h => absurd h (by omega)) (fun _ => ?_)
      refine V_iload dX3_settle_51 rfl ?_
      refine V_if_ltN (tgt := 64) dX3_settle_53 rfl (by omega) ?_
      refine V_iload dX3_settle_56 rfl ?_
      refine V_sipush (v := nI 3822) dX3_settle_58 rfl ?_
      refine V_icmp_ltN (tgt := 66) dX3_settle_61 rfl (by omega) (by omega) (fun _ => ?_) (fun h => absurd h (by omega))
      refine V_aload_n dX3_settle_66 rfl ?_
      refine V_getR (b := 31) dX3_settle_67 fX3_47 ⟨Nat.le_of_ble_eq_true rfl, Nat.le_of_ble_eq_true rfl⟩ rfl rfl rfl ?_
      refine V_iload dX3_settle_70 rfl ?_
      refine V_laldN (k := sSpot p q last) dX3_settle_72 ⟨Nat.le_of_ble_eq_true rfl, Nat.le_of_ble_eq_true rfl⟩ rfl (by decide) (by omega) ?_
      refine V_eqL (y := eW (sV kd one two Rl bt Lf far (h + 1) p q last)) hj2 ?_
      refine V_ldc2 dX3_settle_73 qX3_60 ?_
      refine V_lcmp dX3_settle_76 ?_
      refine V_if_ne (tgt := 282) dX3_settle_77 rfl (fun _ => ?_) (fun h => absurd (wl_eq.mp h) (eW_ne (sV_b (by omega)).1 (sV_b (by omega)).2))
      refine V_aload_n dX3_settle_282 rfl ?_
      refine V_getR (b := 31) dX3_settle_283 fX3_47 ⟨Nat.le_of_ble_eq_true rfl, Nat.le_of_ble_eq_true rfl⟩ rfl rfl rfl ?_
      refine V_iload dX3_settle_286 rfl ?_
      refine V_laldN (k := sSpot p q last) dX3_settle_288 ⟨Nat.le_of_ble_eq_true rfl, Nat.le_of_ble_eq_true rfl⟩ rfl (by decide) (by omega) ?_
      refine V_eqL (y := eW (sV kd one two Rl bt Lf far (h + 1) p q last)) hj2 ?_
      exact V_lret ⟨rfl, dX3_settle_289⟩ ⟨Nat.le_of_ble_eq_true rfl, Nat.le_of_ble_eq_true rfl⟩ ⟨rfl, rfl, sPo_r hE, fun hn _ => hE.2.2.2.1 hn p q last hs hj⟩

set_option maxRecDepth 100000 in
set_option maxHeartbeats 4000000 in
theorem c_settleU {Lf : Nat → (Nat → Int32) → Int32} {Rl : Nat → Nat → (Nat → Int32) → Int32} {far : Nat} {bt : Nat → Nat → Nat → Nat} {kd one two : Int32} (hbt : btK Lf Rl far bt) {h : Nat} (hS : stlK h Lf Rl far bt kd one two) {G : zG} {I : zI} {J : zJ} {p q last dd : Nat} (hp : p < 56) (hq : q < 56) (hl : last ≤ 1) (hs : sOk p q last) (hh : hnd p q = h + 1) (hd : dd + (h + 1) ≤ 6) (hE : eOK Lf Rl far bt kd one two I J) (h3 : kd = 3 → nbk I Lf far bt p q last) (hj : J 31 (sSpot p q last) = -4000000000000000000) : zK G mX3_settle (4 + 2 * (h + 1)) [.ref 9, .int (nI p), .int (nI q), .int (nI last), .int (nI dd)] zsh I J (zP (fun r I' J' => r = some (.long (eW (sV kd one two Rl bt Lf far (h + 1) p q last))) ∧ sPo Lf Rl far bt kd one two I J I' J' ∧ (nn kd one two → nbk I' Lf far bt p q last))) := by
    refine zK_of kX3_settle.2.2.2.2.1 (Nat.le_of_ble_eq_true rfl) ?_
    show V G mX3_settle (4 + 2 * (h + 1)) _ 0 [(0, .ref 9), (1, .int (nI p)), (2, .int (nI q)), (3, .int (nI last)), (4, .int (nI dd))] [] (0, 0) zsh I J
    have hT : tabX I := hE.1.1
    have h35 := hs.2.2.2
    have hsw := sWho_le1 hp hq h35 (last := last)
    have hsp := sSpot_lt hp hq hl h35
    · skip
      refine V_aload_n dX3_settle_0 rfl ?_
      refine V_getR (b := 10) dX3_settle_1 fX3_14 ⟨Nat.le_of_ble_eq_true rfl, Nat.le_of_ble_eq_true rfl⟩ rfl rfl rfl ?_
      refine V_iload_n dX3_settle_4 rfl ?_
      refine V_iload_n dX3_settle_5 rfl ?_
      refine V_iload_n dX3_settle_6 rfl ?_
      refine V_callV (As := [.int (nI p), .int (nI q), .int (nI last)]) (st := []) (a := 10) dX3_settle_7 kX2_whoPlays lX3_92 (by omega) rfl rfl (Nat.le_of_ble_eq_true rfl) ⟨Nat.le_of_ble_eq_true rfl, Nat.le_of_ble_eq_true rfl⟩ ⟨Nat.le_of_ble_eq_true rfl, Nat.le_of_ble_eq_true rfl⟩ rfl ⟨rfl, by decide⟩ (c_whoPlays hT hp hq hl) ?_
      rintro _ _ _ _ ⟨rfl, rfl, rfl, rfl⟩
      refine V_istore (ls' := [(5, .int (nI (sWho p q last))), (0, .ref 9), (1, .int (nI p)), (2, .int (nI q)), (3, .int (nI last)), (4, .int (nI dd))]) dX3_settle_10 (by decide) rfl ?_
      refine V_iload dX3_settle_12 rfl ?_
      refine V_iconst (v := nI 2) dX3_settle_14 rfl ?_
      refine V_icmp_neN (tgt := 36) dX3_settle_15 rfl (by omega) (by omega) (fun _ => ?_) (fun h => absurd h (by omega))
      refine V_iload_n dX3_settle_36 rfl ?_
      refine V_iload_n dX3_settle_37 rfl ?_
      refine V_iload_n dX3_settle_38 rfl ?_
      refine V_callS (As := [.int (nI p), .int (nI q), .int (nI last)]) (st := []) dX3_settle_39 kX3_spotOf lX3_95 (by omega) rfl rfl (Nat.le_of_ble_eq_true rfl) ⟨Nat.le_of_ble_eq_true rfl, Nat.le_of_ble_eq_true rfl⟩ (c_spotOf (by omega) (by omega) (by omega) (by omega)) ?_
      rintro _ _ _ _ ⟨rfl, rfl, rfl, rfl⟩
      refine V_istore (ls' := [(6, .int (nI (sSpot p q last))), (5, .int (nI (sWho p q last))), (0, .ref 9), (1, .int (nI p)), (2, .int (nI q)), (3, .int (nI last)), (4, .int (nI dd))]) dX3_settle_42 (by decide) rfl ?_
      refine V_iload dX3_settle_44 rfl ?_
      refine V_bipush (v := nI 6) dX3_settle_46 rfl ?_
      refine V_icmp_gtN (tgt := 64) dX3_settle_48 rfl (by omega) (by omega) (fun h => absurd h (by omega)) (fun _ => ?_)
      refine V_iload dX3_settle_51 rfl ?_
      refine V_if_ltN (tgt := 64) dX3_settle_53 rfl (by omega) ?_
      refine V_iload dX3_settle_56 rfl ?_
      refine V_sipush (v := nI 3822) dX3_settle_58 rfl ?_
      refine V_icmp_ltN (tgt := 66) dX3_settle_61 rfl (by omega) (by omega) (fun _ => ?_) (fun h => absurd h (by omega))
      refine V_aload_n dX3_settle_66 rfl ?_
      refine V_getR (b := 31) dX3_settle_67 fX3_47 ⟨Nat.le_of_ble_eq_true rfl, Nat.le_of_ble_eq_true rfl⟩ rfl rfl rfl ?_
      refine V_iload dX3_settle_70 rfl ?_
      refine V_laldN (k := sSpot p q last) dX3_settle_72 ⟨Nat.le_of_ble_eq_true rfl, Nat.le_of_ble_eq_true rfl⟩ rfl (by decide) (by omega) ?_
      refine V_eqL (y := (-4000000000000000000)) hj ?_
      refine V_ldc2 dX3_settle_73 qX3_60 ?_
      refine V_lcmp dX3_settle_76 ?_
      refine V_if_ne (tgt := 282) dX3_settle_77 rfl (fun h => absurd (wl_eq.mpr rfl) h) (fun _ => ?_)
      refine V_aload_n dX3_settle_80 rfl ?_
      refine V_iload_n dX3_settle_81 rfl ?_
      refine V_iload_n dX3_settle_82 rfl ?_
      refine V_iload_n dX3_settle_83 rfl ?_
      refine V_iload dX3_settle_84 rfl ?_
      refine V_callV (As := [.int (nI p), .int (nI q), .int (nI last), .int (nI (sWho p q last))]) (st := []) (a := 9) dX3_settle_86 kX3_throwTold lX3_147 (by omega) rfl rfl (Nat.le_of_ble_eq_true rfl) ⟨Nat.le_of_ble_eq_true rfl, Nat.le_of_ble_eq_true rfl⟩ ⟨Nat.le_of_ble_eq_true rfl, Nat.le_of_ble_eq_true rfl⟩ rfl ⟨rfl, by decide⟩ (c_throwTold hE.1 hs hE.2.1.1 hE.2.1.2.1 hE.2.1.2.2 (fun e3 => ⟨by have := btK_12 hbt p q last; omega, h3 e3 hs⟩)) ?_
      rintro r sh' I' J' ⟨rfl, rfl, hof, hN2, hle, hkn, rfl⟩
      have hP1 : sPo Lf Rl far bt kd one two I J I' J := sPo_o hbt hE hof hN2 hle hkn
      have hcl : kd = 3 → clo I' Lf far bt p q last (sTold kd one two Rl bt far p q last) := fun e3 => by rw [sTold_3 hbt hh e3]; exact clo_m hP1 (hE.2.2.2.2 p q last hs (h3 e3 hs))
      have hno : (sTold kd one two Rl bt far p q last) = 0 → ¬ kd = 3 := fun e0 e3 => by have := btK_12 hbt p q last; rw [← sTold_3 (two := two) (one := one) hbt hh e3] at this; omega
      rcases sTold_le (kd := kd) (one := one) (two := two) hbt p q last with e | e | e
      · skip
        refine V_eqI (y := nI 0) (congrArg nI e) ?_
        rw [e] at hcl
        refine V_istore (ls' := [(7, .int (nI 0)), (6, .int (nI (sSpot p q last))), (5, .int (nI (sWho p q last))), (0, .ref 9), (1, .int (nI p)), (2, .int (nI q)), (3, .int (nI last)), (4, .int (nI dd))]) dX3_settle_89 (by decide) rfl ?_
        refine V_iload dX3_settle_91 rfl ?_
        refine V_iconst (v := nI 2) dX3_settle_93 rfl ?_
        refine V_icmp_ne (tgt := 101) dX3_settle_94 rfl (fun _ => ?_) (fun h => absurd h (by decide))
        refine V_aload_n dX3_settle_101 rfl ?_
        refine V_iconst (v := nI 1) dX3_settle_102 rfl ?_
        refine V_iload_n dX3_settle_103 rfl ?_
        refine V_iload_n dX3_settle_104 rfl ?_
        refine V_iload_n dX3_settle_105 rfl ?_
        refine V_iload dX3_settle_106 rfl ?_
        refine V_callV (As := [.int (nI 1), .int (nI p), .int (nI q), .int (nI last), .int (nI dd)]) (st := []) (a := 9) dX3_settle_108 kX3_worthOfThrow lX3_113 (by omega) rfl rfl (Nat.le_of_ble_eq_true rfl) ⟨Nat.le_of_ble_eq_true rfl, Nat.le_of_ble_eq_true rfl⟩ ⟨Nat.le_of_ble_eq_true rfl, Nat.le_of_ble_eq_true rfl⟩ rfl ⟨rfl, by decide⟩ (c_worth1 hbt hS hs hh hd hP1.2.1 (fun e3 => absurd e3 (hno e))) ?_
        rintro r sh' I' J' ⟨rfl, rfl, hP2, hk2, hc2⟩
        refine V_lstore (ls' := [(8, .long (sW (fun a b l => (sV kd one two Rl bt Lf far h a b l).1) Lf far p q last 1)), (7, .int (nI 0)), (6, .int (nI (sSpot p q last))), (5, .int (nI (sWho p q last))), (0, .ref 9), (1, .int (nI p)), (2, .int (nI q)), (3, .int (nI last)), (4, .int (nI dd))]) dX3_settle_111 (by decide) rfl ?_
        refine V_iload dX3_settle_113 rfl ?_
        refine V_iconst (v := nI 1) dX3_settle_115 rfl ?_
        refine V_icmp_ne (tgt := 123) dX3_settle_116 rfl (fun _ => ?_) (fun h => absurd h (by decide))
        refine V_aload_n dX3_settle_123 rfl ?_
        refine V_iconst (v := nI 2) dX3_settle_124 rfl ?_
        refine V_iload_n dX3_settle_125 rfl ?_
        refine V_iload_n dX3_settle_126 rfl ?_
        refine V_iload_n dX3_settle_127 rfl ?_
        refine V_iload dX3_settle_128 rfl ?_
        refine V_callV (As := [.int (nI 2), .int (nI p), .int (nI q), .int (nI last), .int (nI dd)]) (st := []) (a := 9) dX3_settle_130 kX3_worthOfThrow lX3_113 (by omega) rfl rfl (Nat.le_of_ble_eq_true rfl) ⟨Nat.le_of_ble_eq_true rfl, Nat.le_of_ble_eq_true rfl⟩ ⟨Nat.le_of_ble_eq_true rfl, Nat.le_of_ble_eq_true rfl⟩ rfl ⟨rfl, by decide⟩ (c_worth2 hbt hS hs hh hd hP2.2.1 (fun e3 => absurd e3 (hno e))) ?_
        rintro r sh' I' J' ⟨rfl, rfl, hP3, hk3, hc3⟩
        refine V_lstore (ls' := [(10, .long (sW (fun a b l => (sV kd one two Rl bt Lf far h a b l).1) Lf far p q last 2)), (8, .long (sW (fun a b l => (sV kd one two Rl bt Lf far h a b l).1) Lf far p q last 1)), (7, .int (nI 0)), (6, .int (nI (sSpot p q last))), (5, .int (nI (sWho p q last))), (0, .ref 9), (1, .int (nI p)), (2, .int (nI q)), (3, .int (nI last)), (4, .int (nI dd))]) dX3_settle_133 (by decide) rfl ?_
        refine V_iload dX3_settle_135 rfl ?_
        refine V_if_neN (tgt := 156) dX3_settle_137 rfl (by omega) (fun h137 => ?_) (fun h137 => ?_)
        · skip
          refine V_lload dX3_settle_156 rfl ?_
          refine V_lload dX3_settle_158 rfl ?_
          refine V_lcmp dX3_settle_160 ?_
          refine V_if_ge (tgt := 168) dX3_settle_161 rfl (fun h161 => ?_) (fun h161 => ?_)
          · skip
            refine V_iconst (v := nI 0) dX3_settle_168 rfl ?_
            refine V_istore (ls' := [(12, .int (nI 0)), (10, .long (sW (fun a b l => (sV kd one two Rl bt Lf far h a b l).1) Lf far p q last 2)), (8, .long (sW (fun a b l => (sV kd one two Rl bt Lf far h a b l).1) Lf far p q last 1)), (7, .int (nI 0)), (6, .int (nI (sSpot p q last))), (5, .int (nI (sWho p q last))), (0, .ref 9), (1, .int (nI p)), (2, .int (nI q)), (3, .int (nI last)), (4, .int (nI dd))]) dX3_settle_169 (by decide) rfl ?_
            refine V_iload dX3_settle_171 rfl ?_
            refine V_if_ne (tgt := 181) dX3_settle_173 rfl (fun h => absurd h (by decide)) (fun _ => ?_)
            refine V_iload dX3_settle_176 rfl ?_
            refine V_goto (tgt := 192) dX3_settle_178 rfl ?_
            refine V_istore (ls' := [(13, .int (nI 0)), (12, .int (nI 0)), (10, .long (sW (fun a b l => (sV kd one two Rl bt Lf far h a b l).1) Lf far p q last 2)), (8, .long (sW (fun a b l => (sV kd one two Rl bt Lf far h a b l).1) Lf far p q last 1)), (7, .int (nI 0)), (6, .int (nI (sSpot p q last))), (5, .int (nI (sWho p q last))), (0, .ref 9), (1, .int (nI p)), (2, .int (nI q)), (3, .int (nI last)), (4, .int (nI dd))]) dX3_settle_192 (by decide) rfl ?_
            refine V_sub2 (ls' := [(0, .ref 9), (6, .int (nI (sSpot p q last))), (8, .long (sW (fun a b l => (sV kd one two Rl bt Lf far h a b l).1) Lf far p q last 1)), (10, .long (sW (fun a b l => (sV kd one two Rl bt Lf far h a b l).1) Lf far p q last 2)), (13, .int (nI 0))]) (List.forall_mem_cons.mpr ⟨rfl, List.forall_mem_cons.mpr ⟨rfl, List.forall_mem_cons.mpr ⟨rfl, List.forall_mem_cons.mpr ⟨rfl, List.forall_mem_cons.mpr ⟨rfl, fun _ h => absurd h List.not_mem_nil⟩⟩⟩⟩⟩) ?_
            have hx : ¬ (if sWho p q last = 0 then sW (fun a b l => (sV kd one two Rl bt Lf far h a b l).1) Lf far p q last 1 < sW (fun a b l => (sV kd one two Rl bt Lf far h a b l).1) Lf far p q last 2 else sW (fun a b l => (sV kd one two Rl bt Lf far h a b l).1) Lf far p q last 2 < sW (fun a b l => (sV kd one two Rl bt Lf far h a b l).1) Lf far p q last 1) := by
              first
              | rw [if_pos h137]; exact wl_gt.mp h145
              | rw [if_neg h137]; exact wl_lt.mp h161
            have hv : sV kd one two Rl bt Lf far (h + 1) p q last = (if false = true then sW (fun a b l => (sV kd one two Rl bt Lf far h a b l).1) Lf far p q last 2 else sW (fun a b l => (sV kd one two Rl bt Lf far h a b l).1) Lf far p q last 1, false) := by
              rw [sV_s, e]
              exact sPick_0f hx
            exact lp_settle hbt hs hh (s := false) hv (sPo_t hP1 (sPo_t hP2 hP3)) hk3 (fun hn => by rw [bt_nn hbt hn hh, hv]; exact clo_m hP3 (hc2 hn))
          · skip
            refine V_iconst (v := nI 1) dX3_settle_164 rfl ?_
            refine V_goto (tgt := 169) dX3_settle_165 rfl ?_
            refine V_istore (ls' := [(12, .int (nI 1)), (10, .long (sW (fun a b l => (sV kd one two Rl bt Lf far h a b l).1) Lf far p q last 2)), (8, .long (sW (fun a b l => (sV kd one two Rl bt Lf far h a b l).1) Lf far p q last 1)), (7, .int (nI 0)), (6, .int (nI (sSpot p q last))), (5, .int (nI (sWho p q last))), (0, .ref 9), (1, .int (nI p)), (2, .int (nI q)), (3, .int (nI last)), (4, .int (nI dd))]) dX3_settle_169 (by decide) rfl ?_
            refine V_iload dX3_settle_171 rfl ?_
            refine V_if_ne (tgt := 181) dX3_settle_173 rfl (fun h => absurd h (by decide)) (fun _ => ?_)
            refine V_iload dX3_settle_176 rfl ?_
            refine V_goto (tgt := 192) dX3_settle_178 rfl ?_
            refine V_istore (ls' := [(13, .int (nI 1)), (12, .int (nI 1)), (10, .long (sW (fun a b l => (sV kd one two Rl bt Lf far h a b l).1) Lf far p q last 2)), (8, .long (sW (fun a b l => (sV kd one two Rl bt Lf far h a b l).1) Lf far p q last 1)), (7, .int (nI 0)), (6, .int (nI (sSpot p q last))), (5, .int (nI (sWho p q last))), (0, .ref 9), (1, .int (nI p)), (2, .int (nI q)), (3, .int (nI last)), (4, .int (nI dd))]) dX3_settle_192 (by decide) rfl ?_
            refine V_sub2 (ls' := [(0, .ref 9), (6, .int (nI (sSpot p q last))), (8, .long (sW (fun a b l => (sV kd one two Rl bt Lf far h a b l).1) Lf far p q last 1)), (10, .long (sW (fun a b l => (sV kd one two Rl bt Lf far h a b l).1) Lf far p q last 2)), (13, .int (nI 1))]) (List.forall_mem_cons.mpr ⟨rfl, List.forall_mem_cons.mpr ⟨rfl, List.forall_mem_cons.mpr ⟨rfl, List.forall_mem_cons.mpr ⟨rfl, List.forall_mem_cons.mpr ⟨rfl, fun _ h => absurd h List.not_mem_nil⟩⟩⟩⟩⟩) ?_
            have hx : (if sWho p q last = 0 then sW (fun a b l => (sV kd one two Rl bt Lf far h a b l).1) Lf far p q last 1 < sW (fun a b l => (sV kd one two Rl bt Lf far h a b l).1) Lf far p q last 2 else sW (fun a b l => (sV kd one two Rl bt Lf far h a b l).1) Lf far p q last 2 < sW (fun a b l => (sV kd one two Rl bt Lf far h a b l).1) Lf far p q last 1) := by
              first
              | rw [if_pos h137]; exact Decidable.not_not.mp (fun h => h145 (wl_gt.mpr h))
              | rw [if_neg h137]; exact Decidable.not_not.mp (fun h => h161 (wl_lt.mpr h))
            have hv : sV kd one two Rl bt Lf far (h + 1) p q last = (if true = true then sW (fun a b l => (sV kd one two Rl bt Lf far h a b l).1) Lf far p q last 2 else sW (fun a b l => (sV kd one two Rl bt Lf far h a b l).1) Lf far p q last 1, true) := by
              rw [sV_s, e]
              exact sPick_0t hx
            exact lp_settle hbt hs hh (s := true) hv (sPo_t hP1 (sPo_t hP2 hP3)) hk3 (fun hn => by rw [bt_nn hbt hn hh, hv]; exact hc3 hn)
        · skip
          refine V_lload dX3_settle_140 rfl ?_
          refine V_lload dX3_settle_142 rfl ?_
          refine V_lcmp dX3_settle_144 ?_
          refine V_if_le (tgt := 152) dX3_settle_145 rfl (fun h145 => ?_) (fun h145 => ?_)
          · skip
            refine V_iconst (v := nI 0) dX3_settle_152 rfl ?_
            refine V_goto (tgt := 169) dX3_settle_153 rfl ?_
            refine V_istore (ls' := [(12, .int (nI 0)), (10, .long (sW (fun a b l => (sV kd one two Rl bt Lf far h a b l).1) Lf far p q last 2)), (8, .long (sW (fun a b l => (sV kd one two Rl bt Lf far h a b l).1) Lf far p q last 1)), (7, .int (nI 0)), (6, .int (nI (sSpot p q last))), (5, .int (nI (sWho p q last))), (0, .ref 9), (1, .int (nI p)), (2, .int (nI q)), (3, .int (nI last)), (4, .int (nI dd))]) dX3_settle_169 (by decide) rfl ?_
            refine V_iload dX3_settle_171 rfl ?_
            refine V_if_ne (tgt := 181) dX3_settle_173 rfl (fun h => absurd h (by decide)) (fun _ => ?_)
            refine V_iload dX3_settle_176 rfl ?_
            refine V_goto (tgt := 192) dX3_settle_178 rfl ?_
            refine V_istore (ls' := [(13, .int (nI 0)), (12, .int (nI 0)), (10, .long (sW (fun a b l => (sV kd one two Rl bt Lf far h a b l).1) Lf far p q last 2)), (8, .long (sW (fun a b l => (sV kd one two Rl bt Lf far h a b l).1) Lf far p q last 1)), (7, .int (nI 0)), (6, .int (nI (sSpot p q last))), (5, .int (nI (sWho p q last))), (0, .ref 9), (1, .int (nI p)), (2, .int (nI q)), (3, .int (nI last)), (4, .int (nI dd))]) dX3_settle_192 (by decide) rfl ?_
            refine V_sub2 (ls' := [(0, .ref 9), (6, .int (nI (sSpot p q last))), (8, .long (sW (fun a b l => (sV kd one two Rl bt Lf far h a b l).1) Lf far p q last 1)), (10, .long (sW (fun a b l => (sV kd one two Rl bt Lf far h a b l).1) Lf far p q last 2)), (13, .int (nI 0))]) (List.forall_mem_cons.mpr ⟨rfl, List.forall_mem_cons.mpr ⟨rfl, List.forall_mem_cons.mpr ⟨rfl, List.forall_mem_cons.mpr ⟨rfl, List.forall_mem_cons.mpr ⟨rfl, fun _ h => absurd h List.not_mem_nil⟩⟩⟩⟩⟩) ?_
            have hx : ¬ (if sWho p q last = 0 then sW (fun a b l => (sV kd one two Rl bt Lf far h a b l).1) Lf far p q last 1 < sW (fun a b l => (sV kd one two Rl bt Lf far h a b l).1) Lf far p q last 2 else sW (fun a b l => (sV kd one two Rl bt Lf far h a b l).1) Lf far p q last 2 < sW (fun a b l => (sV kd one two Rl bt Lf far h a b l).1) Lf far p q last 1) := by
              first
              | rw [if_pos h137]; exact wl_gt.mp h145
              | rw [if_neg h137]; exact wl_lt.mp h161
            have hv : sV kd one two Rl bt Lf far (h + 1) p q last = (if false = true then sW (fun a b l => (sV kd one two Rl bt Lf far h a b l).1) Lf far p q last 2 else sW (fun a b l => (sV kd one two Rl bt Lf far h a b l).1) Lf far p q last 1, false) := by
              rw [sV_s, e]
              exact sPick_0f hx
            exact lp_settle hbt hs hh (s := false) hv (sPo_t hP1 (sPo_t hP2 hP3)) hk3 (fun hn => by rw [bt_nn hbt hn hh, hv]; exact clo_m hP3 (hc2 hn))
          · skip
            refine V_iconst (v := nI 1) dX3_settle_148 rfl ?_
            refine V_goto (tgt := 169) dX3_settle_149 rfl ?_
            refine V_istore (ls' := [(12, .int (nI 1)), (10, .long (sW (fun a b l => (sV kd one two Rl bt Lf far h a b l).1) Lf far p q last 2)), (8, .long (sW (fun a b l => (sV kd one two Rl bt Lf far h a b l).1) Lf far p q last 1)), (7, .int (nI 0)), (6, .int (nI (sSpot p q last))), (5, .int (nI (sWho p q last))), (0, .ref 9), (1, .int (nI p)), (2, .int (nI q)), (3, .int (nI last)), (4, .int (nI dd))]) dX3_settle_169 (by decide) rfl ?_
            refine V_iload dX3_settle_171 rfl ?_
            refine V_if_ne (tgt := 181) dX3_settle_173 rfl (fun h => absurd h (by decide)) (fun _ => ?_)
            refine V_iload dX3_settle_176 rfl ?_
            refine V_goto (tgt := 192) dX3_settle_178 rfl ?_
            refine V_istore (ls' := [(13, .int (nI 1)), (12, .int (nI 1)), (10, .long (sW (fun a b l => (sV kd one two Rl bt Lf far h a b l).1) Lf far p q last 2)), (8, .long (sW (fun a b l => (sV kd one two Rl bt Lf far h a b l).1) Lf far p q last 1)), (7, .int (nI 0)), (6, .int (nI (sSpot p q last))), (5, .int (nI (sWho p q last))), (0, .ref 9), (1, .int (nI p)), (2, .int (nI q)), (3, .int (nI last)), (4, .int (nI dd))]) dX3_settle_192 (by decide) rfl ?_
            refine V_sub2 (ls' := [(0, .ref 9), (6, .int (nI (sSpot p q last))), (8, .long (sW (fun a b l => (sV kd one two Rl bt Lf far h a b l).1) Lf far p q last 1)), (10, .long (sW (fun a b l => (sV kd one two Rl bt Lf far h a b l).1) Lf far p q last 2)), (13, .int (nI 1))]) (List.forall_mem_cons.mpr ⟨rfl, List.forall_mem_cons.mpr ⟨rfl, List.forall_mem_cons.mpr ⟨rfl, List.forall_mem_cons.mpr ⟨rfl, List.forall_mem_cons.mpr ⟨rfl, fun _ h => absurd h List.not_mem_nil⟩⟩⟩⟩⟩) ?_
            have hx : (if sWho p q last = 0 then sW (fun a b l => (sV kd one two Rl bt Lf far h a b l).1) Lf far p q last 1 < sW (fun a b l => (sV kd one two Rl bt Lf far h a b l).1) Lf far p q last 2 else sW (fun a b l => (sV kd one two Rl bt Lf far h a b l).1) Lf far p q last 2 < sW (fun a b l => (sV kd one two Rl bt Lf far h a b l).1) Lf far p q last 1) := by
              first
              | rw [if_pos h137]; exact Decidable.not_not.mp (fun h => h145 (wl_gt.mpr h))
              | rw [if_neg h137]; exact Decidable.not_not.mp (fun h => h161 (wl_lt.mpr h))
            have hv : sV kd one two Rl bt Lf far (h + 1) p q last = (if true = true then sW (fun a b l => (sV kd one two Rl bt Lf far h a b l).1) Lf far p q last 2 else sW (fun a b l => (sV kd one two Rl bt Lf far h a b l).1) Lf far p q last 1, true) := by
              rw [sV_s, e]
              exact sPick_0t hx
            exact lp_settle hbt hs hh (s := true) hv (sPo_t hP1 (sPo_t hP2 hP3)) hk3 (fun hn => by rw [bt_nn hbt hn hh, hv]; exact hc3 hn)
      · skip
        refine V_eqI (y := nI 1) (congrArg nI e) ?_
        rw [e] at hcl
        refine V_istore (ls' := [(7, .int (nI 1)), (6, .int (nI (sSpot p q last))), (5, .int (nI (sWho p q last))), (0, .ref 9), (1, .int (nI p)), (2, .int (nI q)), (3, .int (nI last)), (4, .int (nI dd))]) dX3_settle_89 (by decide) rfl ?_
        refine V_iload dX3_settle_91 rfl ?_
        refine V_iconst (v := nI 2) dX3_settle_93 rfl ?_
        refine V_icmp_ne (tgt := 101) dX3_settle_94 rfl (fun _ => ?_) (fun h => absurd h (by decide))
        refine V_aload_n dX3_settle_101 rfl ?_
        refine V_iconst (v := nI 1) dX3_settle_102 rfl ?_
        refine V_iload_n dX3_settle_103 rfl ?_
        refine V_iload_n dX3_settle_104 rfl ?_
        refine V_iload_n dX3_settle_105 rfl ?_
        refine V_iload dX3_settle_106 rfl ?_
        refine V_callV (As := [.int (nI 1), .int (nI p), .int (nI q), .int (nI last), .int (nI dd)]) (st := []) (a := 9) dX3_settle_108 kX3_worthOfThrow lX3_113 (by omega) rfl rfl (Nat.le_of_ble_eq_true rfl) ⟨Nat.le_of_ble_eq_true rfl, Nat.le_of_ble_eq_true rfl⟩ ⟨Nat.le_of_ble_eq_true rfl, Nat.le_of_ble_eq_true rfl⟩ rfl ⟨rfl, by decide⟩ (c_worth1 hbt hS hs hh hd hP1.2.1 hcl) ?_
        rintro r sh' I' J' ⟨rfl, rfl, hP2, hk2, hc2⟩
        refine V_lstore (ls' := [(8, .long (sW (fun a b l => (sV kd one two Rl bt Lf far h a b l).1) Lf far p q last 1)), (7, .int (nI 1)), (6, .int (nI (sSpot p q last))), (5, .int (nI (sWho p q last))), (0, .ref 9), (1, .int (nI p)), (2, .int (nI q)), (3, .int (nI last)), (4, .int (nI dd))]) dX3_settle_111 (by decide) rfl ?_
        refine V_iload dX3_settle_113 rfl ?_
        refine V_iconst (v := nI 1) dX3_settle_115 rfl ?_
        refine V_icmp_ne (tgt := 123) dX3_settle_116 rfl (fun h => absurd h (by decide)) (fun _ => ?_)
        refine V_lconst (v := 0) dX3_settle_119 rfl ?_
        refine V_goto (tgt := 133) dX3_settle_120 rfl ?_
        refine V_lstore (ls' := [(10, .long 0), (8, .long (sW (fun a b l => (sV kd one two Rl bt Lf far h a b l).1) Lf far p q last 1)), (7, .int (nI 1)), (6, .int (nI (sSpot p q last))), (5, .int (nI (sWho p q last))), (0, .ref 9), (1, .int (nI p)), (2, .int (nI q)), (3, .int (nI last)), (4, .int (nI dd))]) dX3_settle_133 (by decide) rfl ?_
        refine V_iload dX3_settle_135 rfl ?_
        refine V_if_neN (tgt := 156) dX3_settle_137 rfl (by omega) (fun h137 => ?_) (fun h137 => ?_)
        · skip
          refine V_lload dX3_settle_156 rfl ?_
          refine V_lload dX3_settle_158 rfl ?_
          refine V_lcmp dX3_settle_160 ?_
          refine V_if_ge (tgt := 168) dX3_settle_161 rfl (fun h161 => ?_) (fun h161 => ?_)
          · skip
            refine V_iconst (v := nI 0) dX3_settle_168 rfl ?_
            refine V_istore (ls' := [(12, .int (nI 0)), (10, .long 0), (8, .long (sW (fun a b l => (sV kd one two Rl bt Lf far h a b l).1) Lf far p q last 1)), (7, .int (nI 1)), (6, .int (nI (sSpot p q last))), (5, .int (nI (sWho p q last))), (0, .ref 9), (1, .int (nI p)), (2, .int (nI q)), (3, .int (nI last)), (4, .int (nI dd))]) dX3_settle_169 (by decide) rfl ?_
            refine V_iload dX3_settle_171 rfl ?_
            refine V_if_ne (tgt := 181) dX3_settle_173 rfl (fun _ => ?_) (fun h => absurd h (by decide))
            refine V_iload dX3_settle_181 rfl ?_
            refine V_iconst (v := nI 2) dX3_settle_183 rfl ?_
            refine V_icmp_ne (tgt := 191) dX3_settle_184 rfl (fun _ => ?_) (fun h => absurd h (by decide))
            refine V_iconst (v := nI 0) dX3_settle_191 rfl ?_
            refine V_istore (ls' := [(13, .int (nI 0)), (12, .int (nI 0)), (10, .long 0), (8, .long (sW (fun a b l => (sV kd one two Rl bt Lf far h a b l).1) Lf far p q last 1)), (7, .int (nI 1)), (6, .int (nI (sSpot p q last))), (5, .int (nI (sWho p q last))), (0, .ref 9), (1, .int (nI p)), (2, .int (nI q)), (3, .int (nI last)), (4, .int (nI dd))]) dX3_settle_192 (by decide) rfl ?_
            refine V_sub2 (ls' := [(0, .ref 9), (6, .int (nI (sSpot p q last))), (8, .long (sW (fun a b l => (sV kd one two Rl bt Lf far h a b l).1) Lf far p q last 1)), (10, .long 0), (13, .int (nI 0))]) (List.forall_mem_cons.mpr ⟨rfl, List.forall_mem_cons.mpr ⟨rfl, List.forall_mem_cons.mpr ⟨rfl, List.forall_mem_cons.mpr ⟨rfl, List.forall_mem_cons.mpr ⟨rfl, fun _ h => absurd h List.not_mem_nil⟩⟩⟩⟩⟩) ?_
            have hv : sV kd one two Rl bt Lf far (h + 1) p q last = (if false = true then 0 else sW (fun a b l => (sV kd one two Rl bt Lf far h a b l).1) Lf far p q last 1, false) := by
              rw [sV_s, e]
              exact sPick_1
            exact lp_settle hbt hs hh (s := false) hv (sPo_t hP1 hP2) hk2 (fun hn => by rw [bt_nn hbt hn hh, hv]; exact hc2 hn)
          · skip
            refine V_iconst (v := nI 1) dX3_settle_164 rfl ?_
            refine V_goto (tgt := 169) dX3_settle_165 rfl ?_
            refine V_istore (ls' := [(12, .int (nI 1)), (10, .long 0), (8, .long (sW (fun a b l => (sV kd one two Rl bt Lf far h a b l).1) Lf far p q last 1)), (7, .int (nI 1)), (6, .int (nI (sSpot p q last))), (5, .int (nI (sWho p q last))), (0, .ref 9), (1, .int (nI p)), (2, .int (nI q)), (3, .int (nI last)), (4, .int (nI dd))]) dX3_settle_169 (by decide) rfl ?_
            refine V_iload dX3_settle_171 rfl ?_
            refine V_if_ne (tgt := 181) dX3_settle_173 rfl (fun _ => ?_) (fun h => absurd h (by decide))
            refine V_iload dX3_settle_181 rfl ?_
            refine V_iconst (v := nI 2) dX3_settle_183 rfl ?_
            refine V_icmp_ne (tgt := 191) dX3_settle_184 rfl (fun _ => ?_) (fun h => absurd h (by decide))
            refine V_iconst (v := nI 0) dX3_settle_191 rfl ?_
            refine V_istore (ls' := [(13, .int (nI 0)), (12, .int (nI 1)), (10, .long 0), (8, .long (sW (fun a b l => (sV kd one two Rl bt Lf far h a b l).1) Lf far p q last 1)), (7, .int (nI 1)), (6, .int (nI (sSpot p q last))), (5, .int (nI (sWho p q last))), (0, .ref 9), (1, .int (nI p)), (2, .int (nI q)), (3, .int (nI last)), (4, .int (nI dd))]) dX3_settle_192 (by decide) rfl ?_
            refine V_sub2 (ls' := [(0, .ref 9), (6, .int (nI (sSpot p q last))), (8, .long (sW (fun a b l => (sV kd one two Rl bt Lf far h a b l).1) Lf far p q last 1)), (10, .long 0), (13, .int (nI 0))]) (List.forall_mem_cons.mpr ⟨rfl, List.forall_mem_cons.mpr ⟨rfl, List.forall_mem_cons.mpr ⟨rfl, List.forall_mem_cons.mpr ⟨rfl, List.forall_mem_cons.mpr ⟨rfl, fun _ h => absurd h List.not_mem_nil⟩⟩⟩⟩⟩) ?_
            have hv : sV kd one two Rl bt Lf far (h + 1) p q last = (if false = true then 0 else sW (fun a b l => (sV kd one two Rl bt Lf far h a b l).1) Lf far p q last 1, false) := by
              rw [sV_s, e]
              exact sPick_1
            exact lp_settle hbt hs hh (s := false) hv (sPo_t hP1 hP2) hk2 (fun hn => by rw [bt_nn hbt hn hh, hv]; exact hc2 hn)
        · skip
          refine V_lload dX3_settle_140 rfl ?_
          refine V_lload dX3_settle_142 rfl ?_
          refine V_lcmp dX3_settle_144 ?_
          refine V_if_le (tgt := 152) dX3_settle_145 rfl (fun h145 => ?_) (fun h145 => ?_)
          · skip
            refine V_iconst (v := nI 0) dX3_settle_152 rfl ?_
            refine V_goto (tgt := 169) dX3_settle_153 rfl ?_
            refine V_istore (ls' := [(12, .int (nI 0)), (10, .long 0), (8, .long (sW (fun a b l => (sV kd one two Rl bt Lf far h a b l).1) Lf far p q last 1)), (7, .int (nI 1)), (6, .int (nI (sSpot p q last))), (5, .int (nI (sWho p q last))), (0, .ref 9), (1, .int (nI p)), (2, .int (nI q)), (3, .int (nI last)), (4, .int (nI dd))]) dX3_settle_169 (by decide) rfl ?_
            refine V_iload dX3_settle_171 rfl ?_
            refine V_if_ne (tgt := 181) dX3_settle_173 rfl (fun _ => ?_) (fun h => absurd h (by decide))
            refine V_iload dX3_settle_181 rfl ?_
            refine V_iconst (v := nI 2) dX3_settle_183 rfl ?_
            refine V_icmp_ne (tgt := 191) dX3_settle_184 rfl (fun _ => ?_) (fun h => absurd h (by decide))
            refine V_iconst (v := nI 0) dX3_settle_191 rfl ?_
            refine V_istore (ls' := [(13, .int (nI 0)), (12, .int (nI 0)), (10, .long 0), (8, .long (sW (fun a b l => (sV kd one two Rl bt Lf far h a b l).1) Lf far p q last 1)), (7, .int (nI 1)), (6, .int (nI (sSpot p q last))), (5, .int (nI (sWho p q last))), (0, .ref 9), (1, .int (nI p)), (2, .int (nI q)), (3, .int (nI last)), (4, .int (nI dd))]) dX3_settle_192 (by decide) rfl ?_
            refine V_sub2 (ls' := [(0, .ref 9), (6, .int (nI (sSpot p q last))), (8, .long (sW (fun a b l => (sV kd one two Rl bt Lf far h a b l).1) Lf far p q last 1)), (10, .long 0), (13, .int (nI 0))]) (List.forall_mem_cons.mpr ⟨rfl, List.forall_mem_cons.mpr ⟨rfl, List.forall_mem_cons.mpr ⟨rfl, List.forall_mem_cons.mpr ⟨rfl, List.forall_mem_cons.mpr ⟨rfl, fun _ h => absurd h List.not_mem_nil⟩⟩⟩⟩⟩) ?_
            have hv : sV kd one two Rl bt Lf far (h + 1) p q last = (if false = true then 0 else sW (fun a b l => (sV kd one two Rl bt Lf far h a b l).1) Lf far p q last 1, false) := by
              rw [sV_s, e]
              exact sPick_1
            exact lp_settle hbt hs hh (s := false) hv (sPo_t hP1 hP2) hk2 (fun hn => by rw [bt_nn hbt hn hh, hv]; exact hc2 hn)
          · skip
            refine V_iconst (v := nI 1) dX3_settle_148 rfl ?_
            refine V_goto (tgt := 169) dX3_settle_149 rfl ?_
            refine V_istore (ls' := [(12, .int (nI 1)), (10, .long 0), (8, .long (sW (fun a b l => (sV kd one two Rl bt Lf far h a b l).1) Lf far p q last 1)), (7, .int (nI 1)), (6, .int (nI (sSpot p q last))), (5, .int (nI (sWho p q last))), (0, .ref 9), (1, .int (nI p)), (2, .int (nI q)), (3, .int (nI last)), (4, .int (nI dd))]) dX3_settle_169 (by decide) rfl ?_
            refine V_iload dX3_settle_171 rfl ?_
            refine V_if_ne (tgt := 181) dX3_settle_173 rfl (fun _ => ?_) (fun h => absurd h (by decide))
            refine V_iload dX3_settle_181 rfl ?_
            refine V_iconst (v := nI 2) dX3_settle_183 rfl ?_
            refine V_icmp_ne (tgt := 191) dX3_settle_184 rfl (fun _ => ?_) (fun h => absurd h (by decide))
            refine V_iconst (v := nI 0) dX3_settle_191 rfl ?_
            refine V_istore (ls' := [(13, .int (nI 0)), (12, .int (nI 1)), (10, .long 0), (8, .long (sW (fun a b l => (sV kd one two Rl bt Lf far h a b l).1) Lf far p q last 1)), (7, .int (nI 1)), (6, .int (nI (sSpot p q last))), (5, .int (nI (sWho p q last))), (0, .ref 9), (1, .int (nI p)), (2, .int (nI q)), (3, .int (nI last)), (4, .int (nI dd))]) dX3_settle_192 (by decide) rfl ?_
            refine V_sub2 (ls' := [(0, .ref 9), (6, .int (nI (sSpot p q last))), (8, .long (sW (fun a b l => (sV kd one two Rl bt Lf far h a b l).1) Lf far p q last 1)), (10, .long 0), (13, .int (nI 0))]) (List.forall_mem_cons.mpr ⟨rfl, List.forall_mem_cons.mpr ⟨rfl, List.forall_mem_cons.mpr ⟨rfl, List.forall_mem_cons.mpr ⟨rfl, List.forall_mem_cons.mpr ⟨rfl, fun _ h => absurd h List.not_mem_nil⟩⟩⟩⟩⟩) ?_
            have hv : sV kd one two Rl bt Lf far (h + 1) p q last = (if false = true then 0 else sW (fun a b l => (sV kd one two Rl bt Lf far h a b l).1) Lf far p q last 1, false) := by
              rw [sV_s, e]
              exact sPick_1
            exact lp_settle hbt hs hh (s := false) hv (sPo_t hP1 hP2) hk2 (fun hn => by rw [bt_nn hbt hn hh, hv]; exact hc2 hn)
      · skip
        refine V_eqI (y := nI 2) (congrArg nI e) ?_
        rw [e] at hcl
        refine V_istore (ls' := [(7, .int (nI 2)), (6, .int (nI (sSpot p q last))), (5, .int (nI (sWho p q last))), (0, .ref 9), (1, .int (nI p)), (2, .int (nI q)), (3, .int (nI last)), (4, .int (nI dd))]) dX3_settle_89 (by decide) rfl ?_
        refine V_iload dX3_settle_91 rfl ?_
        refine V_iconst (v := nI 2) dX3_settle_93 rfl ?_
        refine V_icmp_ne (tgt := 101) dX3_settle_94 rfl (fun h => absurd h (by decide)) (fun _ => ?_)
        refine V_lconst (v := 0) dX3_settle_97 rfl ?_
        refine V_goto (tgt := 111) dX3_settle_98 rfl ?_
        refine V_lstore (ls' := [(8, .long 0), (7, .int (nI 2)), (6, .int (nI (sSpot p q last))), (5, .int (nI (sWho p q last))), (0, .ref 9), (1, .int (nI p)), (2, .int (nI q)), (3, .int (nI last)), (4, .int (nI dd))]) dX3_settle_111 (by decide) rfl ?_
        refine V_iload dX3_settle_113 rfl ?_
        refine V_iconst (v := nI 1) dX3_settle_115 rfl ?_
        refine V_icmp_ne (tgt := 123) dX3_settle_116 rfl (fun _ => ?_) (fun h => absurd h (by decide))
        refine V_aload_n dX3_settle_123 rfl ?_
        refine V_iconst (v := nI 2) dX3_settle_124 rfl ?_
        refine V_iload_n dX3_settle_125 rfl ?_
        refine V_iload_n dX3_settle_126 rfl ?_
        refine V_iload_n dX3_settle_127 rfl ?_
        refine V_iload dX3_settle_128 rfl ?_
        refine V_callV (As := [.int (nI 2), .int (nI p), .int (nI q), .int (nI last), .int (nI dd)]) (st := []) (a := 9) dX3_settle_130 kX3_worthOfThrow lX3_113 (by omega) rfl rfl (Nat.le_of_ble_eq_true rfl) ⟨Nat.le_of_ble_eq_true rfl, Nat.le_of_ble_eq_true rfl⟩ ⟨Nat.le_of_ble_eq_true rfl, Nat.le_of_ble_eq_true rfl⟩ rfl ⟨rfl, by decide⟩ (c_worth2 hbt hS hs hh hd hP1.2.1 hcl) ?_
        rintro r sh' I' J' ⟨rfl, rfl, hP2, hk2, hc2⟩
        refine V_lstore (ls' := [(10, .long (sW (fun a b l => (sV kd one two Rl bt Lf far h a b l).1) Lf far p q last 2)), (8, .long 0), (7, .int (nI 2)), (6, .int (nI (sSpot p q last))), (5, .int (nI (sWho p q last))), (0, .ref 9), (1, .int (nI p)), (2, .int (nI q)), (3, .int (nI last)), (4, .int (nI dd))]) dX3_settle_133 (by decide) rfl ?_
        refine V_iload dX3_settle_135 rfl ?_
        refine V_if_neN (tgt := 156) dX3_settle_137 rfl (by omega) (fun h137 => ?_) (fun h137 => ?_)
        · skip
          refine V_lload dX3_settle_156 rfl ?_
          refine V_lload dX3_settle_158 rfl ?_
          refine V_lcmp dX3_settle_160 ?_
          refine V_if_ge (tgt := 168) dX3_settle_161 rfl (fun h161 => ?_) (fun h161 => ?_)
          · skip
            refine V_iconst (v := nI 0) dX3_settle_168 rfl ?_
            refine V_istore (ls' := [(12, .int (nI 0)), (10, .long (sW (fun a b l => (sV kd one two Rl bt Lf far h a b l).1) Lf far p q last 2)), (8, .long 0), (7, .int (nI 2)), (6, .int (nI (sSpot p q last))), (5, .int (nI (sWho p q last))), (0, .ref 9), (1, .int (nI p)), (2, .int (nI q)), (3, .int (nI last)), (4, .int (nI dd))]) dX3_settle_169 (by decide) rfl ?_
            refine V_iload dX3_settle_171 rfl ?_
            refine V_if_ne (tgt := 181) dX3_settle_173 rfl (fun _ => ?_) (fun h => absurd h (by decide))
            refine V_iload dX3_settle_181 rfl ?_
            refine V_iconst (v := nI 2) dX3_settle_183 rfl ?_
            refine V_icmp_ne (tgt := 191) dX3_settle_184 rfl (fun h => absurd h (by decide)) (fun _ => ?_)
            refine V_iconst (v := nI 1) dX3_settle_187 rfl ?_
            refine V_goto (tgt := 192) dX3_settle_188 rfl ?_
            refine V_istore (ls' := [(13, .int (nI 1)), (12, .int (nI 0)), (10, .long (sW (fun a b l => (sV kd one two Rl bt Lf far h a b l).1) Lf far p q last 2)), (8, .long 0), (7, .int (nI 2)), (6, .int (nI (sSpot p q last))), (5, .int (nI (sWho p q last))), (0, .ref 9), (1, .int (nI p)), (2, .int (nI q)), (3, .int (nI last)), (4, .int (nI dd))]) dX3_settle_192 (by decide) rfl ?_
            refine V_sub2 (ls' := [(0, .ref 9), (6, .int (nI (sSpot p q last))), (8, .long 0), (10, .long (sW (fun a b l => (sV kd one two Rl bt Lf far h a b l).1) Lf far p q last 2)), (13, .int (nI 1))]) (List.forall_mem_cons.mpr ⟨rfl, List.forall_mem_cons.mpr ⟨rfl, List.forall_mem_cons.mpr ⟨rfl, List.forall_mem_cons.mpr ⟨rfl, List.forall_mem_cons.mpr ⟨rfl, fun _ h => absurd h List.not_mem_nil⟩⟩⟩⟩⟩) ?_
            have hv : sV kd one two Rl bt Lf far (h + 1) p q last = (if true = true then sW (fun a b l => (sV kd one two Rl bt Lf far h a b l).1) Lf far p q last 2 else 0, true) := by
              rw [sV_s, e]
              exact sPick_2
            exact lp_settle hbt hs hh (s := true) hv (sPo_t hP1 hP2) hk2 (fun hn => by have := sTold_nn (Rl := Rl) (bt := bt) (far := far) (p := p) (q := q) (last := last) hn; omega)
          · skip
            refine V_iconst (v := nI 1) dX3_settle_164 rfl ?_
            refine V_goto (tgt := 169) dX3_settle_165 rfl ?_
            refine V_istore (ls' := [(12, .int (nI 1)), (10, .long (sW (fun a b l => (sV kd one two Rl bt Lf far h a b l).1) Lf far p q last 2)), (8, .long 0), (7, .int (nI 2)), (6, .int (nI (sSpot p q last))), (5, .int (nI (sWho p q last))), (0, .ref 9), (1, .int (nI p)), (2, .int (nI q)), (3, .int (nI last)), (4, .int (nI dd))]) dX3_settle_169 (by decide) rfl ?_
            refine V_iload dX3_settle_171 rfl ?_
            refine V_if_ne (tgt := 181) dX3_settle_173 rfl (fun _ => ?_) (fun h => absurd h (by decide))
            refine V_iload dX3_settle_181 rfl ?_
            refine V_iconst (v := nI 2) dX3_settle_183 rfl ?_
            refine V_icmp_ne (tgt := 191) dX3_settle_184 rfl (fun h => absurd h (by decide)) (fun _ => ?_)
            refine V_iconst (v := nI 1) dX3_settle_187 rfl ?_
            refine V_goto (tgt := 192) dX3_settle_188 rfl ?_
            refine V_istore (ls' := [(13, .int (nI 1)), (12, .int (nI 1)), (10, .long (sW (fun a b l => (sV kd one two Rl bt Lf far h a b l).1) Lf far p q last 2)), (8, .long 0), (7, .int (nI 2)), (6, .int (nI (sSpot p q last))), (5, .int (nI (sWho p q last))), (0, .ref 9), (1, .int (nI p)), (2, .int (nI q)), (3, .int (nI last)), (4, .int (nI dd))]) dX3_settle_192 (by decide) rfl ?_
            refine V_sub2 (ls' := [(0, .ref 9), (6, .int (nI (sSpot p q last))), (8, .long 0), (10, .long (sW (fun a b l => (sV kd one two Rl bt Lf far h a b l).1) Lf far p q last 2)), (13, .int (nI 1))]) (List.forall_mem_cons.mpr ⟨rfl, List.forall_mem_cons.mpr ⟨rfl, List.forall_mem_cons.mpr ⟨rfl, List.forall_mem_cons.mpr ⟨rfl, List.forall_mem_cons.mpr ⟨rfl, fun _ h => absurd h List.not_mem_nil⟩⟩⟩⟩⟩) ?_
            have hv : sV kd one two Rl bt Lf far (h + 1) p q last = (if true = true then sW (fun a b l => (sV kd one two Rl bt Lf far h a b l).1) Lf far p q last 2 else 0, true) := by
              rw [sV_s, e]
              exact sPick_2
            exact lp_settle hbt hs hh (s := true) hv (sPo_t hP1 hP2) hk2 (fun hn => by have := sTold_nn (Rl := Rl) (bt := bt) (far := far) (p := p) (q := q) (last := last) hn; omega)
        · skip
          refine V_lload dX3_settle_140 rfl ?_
          refine V_lload dX3_settle_142 rfl ?_
          refine V_lcmp dX3_settle_144 ?_
          refine V_if_le (tgt := 152) dX3_settle_145 rfl (fun h145 => ?_) (fun h145 => ?_)
          · skip
            refine V_iconst (v := nI 0) dX3_settle_152 rfl ?_
            refine V_goto (tgt := 169) dX3_settle_153 rfl ?_
            refine V_istore (ls' := [(12, .int (nI 0)), (10, .long (sW (fun a b l => (sV kd one two Rl bt Lf far h a b l).1) Lf far p q last 2)), (8, .long 0), (7, .int (nI 2)), (6, .int (nI (sSpot p q last))), (5, .int (nI (sWho p q last))), (0, .ref 9), (1, .int (nI p)), (2, .int (nI q)), (3, .int (nI last)), (4, .int (nI dd))]) dX3_settle_169 (by decide) rfl ?_
            refine V_iload dX3_settle_171 rfl ?_
            refine V_if_ne (tgt := 181) dX3_settle_173 rfl (fun _ => ?_) (fun h => absurd h (by decide))
            refine V_iload dX3_settle_181 rfl ?_
            refine V_iconst (v := nI 2) dX3_settle_183 rfl ?_
            refine V_icmp_ne (tgt := 191) dX3_settle_184 rfl (fun h => absurd h (by decide)) (fun _ => ?_)
            refine V_iconst (v := nI 1) dX3_settle_187 rfl ?_
            refine V_goto (tgt := 192) dX3_settle_188 rfl ?_
            refine V_istore (ls' := [(13, .int (nI 1)), (12, .int (nI 0)), (10, .long (sW (fun a b l => (sV kd one two Rl bt Lf far h a b l).1) Lf far p q last 2)), (8, .long 0), (7, .int (nI 2)), (6, .int (nI (sSpot p q last))), (5, .int (nI (sWho p q last))), (0, .ref 9), (1, .int (nI p)), (2, .int (nI q)), (3, .int (nI last)), (4, .int (nI dd))]) dX3_settle_192 (by decide) rfl ?_
            refine V_sub2 (ls' := [(0, .ref 9), (6, .int (nI (sSpot p q last))), (8, .long 0), (10, .long (sW (fun a b l => (sV kd one two Rl bt Lf far h a b l).1) Lf far p q last 2)), (13, .int (nI 1))]) (List.forall_mem_cons.mpr ⟨rfl, List.forall_mem_cons.mpr ⟨rfl, List.forall_mem_cons.mpr ⟨rfl, List.forall_mem_cons.mpr ⟨rfl, List.forall_mem_cons.mpr ⟨rfl, fun _ h => absurd h List.not_mem_nil⟩⟩⟩⟩⟩) ?_
            have hv : sV kd one two Rl bt Lf far (h + 1) p q last = (if true = true then sW (fun a b l => (sV kd one two Rl bt Lf far h a b l).1) Lf far p q last 2 else 0, true) := by
              rw [sV_s, e]
              exact sPick_2
            exact lp_settle hbt hs hh (s := true) hv (sPo_t hP1 hP2) hk2 (fun hn => by have := sTold_nn (Rl := Rl) (bt := bt) (far := far) (p := p) (q := q) (last := last) hn; omega)
          · skip
            refine V_iconst (v := nI 1) dX3_settle_148 rfl ?_
            refine V_goto (tgt := 169) dX3_settle_149 rfl ?_
            refine V_istore (ls' := [(12, .int (nI 1)), (10, .long (sW (fun a b l => (sV kd one two Rl bt Lf far h a b l).1) Lf far p q last 2)), (8, .long 0), (7, .int (nI 2)), (6, .int (nI (sSpot p q last))), (5, .int (nI (sWho p q last))), (0, .ref 9), (1, .int (nI p)), (2, .int (nI q)), (3, .int (nI last)), (4, .int (nI dd))]) dX3_settle_169 (by decide) rfl ?_
            refine V_iload dX3_settle_171 rfl ?_
            refine V_if_ne (tgt := 181) dX3_settle_173 rfl (fun _ => ?_) (fun h => absurd h (by decide))
            refine V_iload dX3_settle_181 rfl ?_
            refine V_iconst (v := nI 2) dX3_settle_183 rfl ?_
            refine V_icmp_ne (tgt := 191) dX3_settle_184 rfl (fun h => absurd h (by decide)) (fun _ => ?_)
            refine V_iconst (v := nI 1) dX3_settle_187 rfl ?_
            refine V_goto (tgt := 192) dX3_settle_188 rfl ?_
            refine V_istore (ls' := [(13, .int (nI 1)), (12, .int (nI 1)), (10, .long (sW (fun a b l => (sV kd one two Rl bt Lf far h a b l).1) Lf far p q last 2)), (8, .long 0), (7, .int (nI 2)), (6, .int (nI (sSpot p q last))), (5, .int (nI (sWho p q last))), (0, .ref 9), (1, .int (nI p)), (2, .int (nI q)), (3, .int (nI last)), (4, .int (nI dd))]) dX3_settle_192 (by decide) rfl ?_
            refine V_sub2 (ls' := [(0, .ref 9), (6, .int (nI (sSpot p q last))), (8, .long 0), (10, .long (sW (fun a b l => (sV kd one two Rl bt Lf far h a b l).1) Lf far p q last 2)), (13, .int (nI 1))]) (List.forall_mem_cons.mpr ⟨rfl, List.forall_mem_cons.mpr ⟨rfl, List.forall_mem_cons.mpr ⟨rfl, List.forall_mem_cons.mpr ⟨rfl, List.forall_mem_cons.mpr ⟨rfl, fun _ h => absurd h List.not_mem_nil⟩⟩⟩⟩⟩) ?_
            have hv : sV kd one two Rl bt Lf far (h + 1) p q last = (if true = true then sW (fun a b l => (sV kd one two Rl bt Lf far h a b l).1) Lf far p q last 2 else 0, true) := by
              rw [sV_s, e]
              exact sPick_2
            exact lp_settle hbt hs hh (s := true) hv (sPo_t hP1 hP2) hk2 (fun hn => by have := sTold_nn (Rl := Rl) (bt := bt) (far := far) (p := p) (q := q) (last := last) hn; omega)

set_option maxRecDepth 100000 in
set_option maxHeartbeats 4000000 in
theorem c_settle {Lf : Nat → (Nat → Int32) → Int32} {Rl : Nat → Nat → (Nat → Int32) → Int32} {far : Nat} {bt : Nat → Nat → Nat → Nat} {kd one two : Int32} (hbt : btK Lf Rl far bt) : ∀ h, stlK h Lf Rl far bt kd one two := by
  intro h
  induction h with
  | zero => exact fun G I J p q last dd hp hq hl hh hd hE h3 => c_settle0 hp hq hl hh hE
  | succ h hS => exact fun G I J p q last dd hp hq hl hh hd hE h3 => if hj : J 31 (sSpot p q last) = -4000000000000000000 then c_settleU hbt hS hp hq hl (hnd_ok hp hq hl hh) hh hd hE h3 hj else c_settleK hp hq hl (hnd_ok hp hq hl hh) hh hd hE hj

