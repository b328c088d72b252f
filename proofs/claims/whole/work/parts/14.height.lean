/-! THE CLASS: the ground, a ball that rolls -/
theorem zwr_zwr (I : zI) (a k : Nat) (x y : Int32) : zwr (zwr I a k x) a k y = zwr I a k y := by
  funext b j
  simp only [zwr_at]
  split <;> rfl
/-- a step one way: none off the ground -/
def rst (way x y : Nat) : Option (Nat × Nat) :=
  if way = 0 then (if y + 1 < 8 then some (x, y + 1) else none) else
  if way = 1 then (if x + 1 < 8 then some (x + 1, y) else none) else
  if way = 2 then (if 0 < y then some (x, y - 1) else none) else (if 0 < x then some (x - 1, y) else none)
/-- where it stops (none: gone) and how many spots it went on -/
def rolS (f : Nat → Int32) (way : Nat) : Nat → Nat → Nat → Int32 → Option Nat × Nat
  | 0, x, y, _ => (some (8 * y + x), 0)
  | n + 1, x, y, l => if l ≤ 0 then (some (8 * y + x), 0) else match rst way x y with
    | none => (none, 0)
    | some q => ((rolS f way n q.1 q.2 (l + (f (8 * y + x) - f (8 * q.2 + q.1) - nI 1))).1, (rolS f way n q.1 q.2 (l + (f (8 * y + x) - f (8 * q.2 + q.1) - nI 1))).2 + 1)
theorem nI_gt_neg {k : Nat} {c : Int32} (hk : k < 2 ^ 31) (hc : c < 0) : c < nI k := by
  rw [Int32.lt_iff_toInt_lt] at *
  rw [nI_toInt hk]
  rw [Int32.toInt_zero] at hc
  omega
theorem nI_ge_neg {k : Nat} {c : Int32} (hk : k < 2 ^ 31) (hc : c < 0) : c ≤ nI k := Int32.le_of_lt (nI_gt_neg hk hc)
theorem nI_nlt_neg {k : Nat} {c : Int32} (hk : k < 2 ^ 31) (hc : c < 0) : ¬ nI k < c := fun h => Int32.lt_irrefl (Int32.lt_trans h (nI_gt_neg hk hc))
theorem nI_nle_neg {k : Nat} {c : Int32} (hk : k < 2 ^ 31) (hc : c < 0) : ¬ nI k ≤ c := Int32.not_le.mpr (nI_gt_neg hk hc)
theorem nI_ne_neg {k : Nat} {c : Int32} (hk : k < 2 ^ 31) (hc : c < 0) : ¬ nI k = c := fun h => nI_nle_neg hk hc (by rw [h]; exact Int32.le_refl _)
theorem nI_ne_neg2 {k : Nat} {c : Int32} (hk : k < 2 ^ 31) (hc : c < 0) : ¬ c = nI k := fun h => nI_ne_neg hk hc h.symm
set_option maxRecDepth 100000 in
set_option maxHeartbeats 4000000 in
theorem c_heightAt {G : zG} {I : zI} {J : zJ} {k : Nat} (hk : k < 64) : zK G mX5_heightAt 1 [.ref 41, .int (nI k)] zsh I J (zA0 (.int (I 42 k)) I J) := by
  refine zK_of kX5_heightAt.2.2.2.2.1 (Nat.le_of_ble_eq_true rfl) ?_
  show V G mX5_heightAt 1 _ 0 [(0, .ref 41), (1, .int (nI k))] [] (0, 0) zsh I J
  refine V_aload_n dX5_heightAt_0 rfl ?_
  refine V_getR (b := 42) dX5_heightAt_1 fX5_11 ⟨Nat.le_of_ble_eq_true rfl, Nat.le_of_ble_eq_true rfl⟩ rfl rfl rfl ?_
  refine V_iload_n dX5_heightAt_4 rfl ?_
  refine V_callS (As := [.ref 42, .int (nI k)]) (st := []) dX5_heightAt_5 kX11_at lX5_18 (by decide) rfl rfl (Nat.le_of_ble_eq_true rfl) ⟨Nat.le_of_ble_eq_true rfl, Nat.le_of_ble_eq_true rfl⟩ (c_at (a := 42) (n := 64) ⟨Nat.le_of_ble_eq_true rfl, Nat.le_of_ble_eq_true rfl⟩ rfl (by decide) (by omega)) ?_
  rintro _ _ _ _ ⟨rfl, rfl, rfl, rfl⟩
  exact V_iret ⟨Or.inl rfl, dX5_heightAt_8⟩ ⟨Nat.le_of_ble_eq_true rfl, Nat.le_of_ble_eq_true rfl⟩ ⟨rfl, rfl, rfl, rfl⟩

set_option maxRecDepth 100000 in
set_option maxHeartbeats 4000000 in
theorem c_isSpot {G : zG} {I : zI} {J : zJ} {x y : Nat} (hx : x < 2 ^ 31) (hy : y < 2 ^ 31) : zK G mX11_isSpot 0 [.int (nI x), .int (nI y)] zsh I J (zA0 (.int (nI (if x < 8 ∧ y < 8 then 1 else 0))) I J) := by
  refine zK_of kX11_isSpot.2.2.2.2.1 (Nat.le_of_ble_eq_true rfl) ?_
  show V G mX11_isSpot 0 _ 0 [(0, .int (nI x)), (1, .int (nI y))] [] (0, 0) zsh I J
  refine V_iload_n dX11_isSpot_0 rfl ?_
  refine V_if_ltN (tgt := 24) dX11_isSpot_1 rfl (by omega) ?_
  refine V_iload_n dX11_isSpot_4 rfl ?_
  refine V_bipush (v := nI 8) dX11_isSpot_5 rfl ?_
  refine V_icmp_geN (tgt := 24) dX11_isSpot_7 rfl (by omega) (by omega) (fun h7 => ?_) (fun h7 => ?_)
  · skip
    refine V_iconst (v := nI 0) dX11_isSpot_24 rfl ?_
    exact V_iret ⟨Or.inr ⟨rfl, Or.inl rfl⟩, dX11_isSpot_25⟩ ⟨Nat.le_of_ble_eq_true rfl, Nat.le_of_ble_eq_true rfl⟩ ⟨rfl, congrArg (fun z => some (Value.int (nI z))) (by split <;> omega), rfl, rfl⟩
  · skip
    refine V_iload_n dX11_isSpot_10 rfl ?_
    refine V_if_ltN (tgt := 24) dX11_isSpot_11 rfl (by omega) ?_
    refine V_iload_n dX11_isSpot_14 rfl ?_
    refine V_bipush (v := nI 8) dX11_isSpot_15 rfl ?_
    refine V_icmp_geN (tgt := 24) dX11_isSpot_17 rfl (by omega) (by omega) (fun h17 => ?_) (fun h17 => ?_)
    · skip
      refine V_iconst (v := nI 0) dX11_isSpot_24 rfl ?_
      exact V_iret ⟨Or.inr ⟨rfl, Or.inl rfl⟩, dX11_isSpot_25⟩ ⟨Nat.le_of_ble_eq_true rfl, Nat.le_of_ble_eq_true rfl⟩ ⟨rfl, congrArg (fun z => some (Value.int (nI z))) (by split <;> omega), rfl, rfl⟩
    · skip
      refine V_iconst (v := nI 1) dX11_isSpot_20 rfl ?_
      refine V_goto (tgt := 25) dX11_isSpot_21 rfl ?_
      exact V_iret ⟨Or.inr ⟨rfl, Or.inr rfl⟩, dX11_isSpot_25⟩ ⟨Nat.le_of_ble_eq_true rfl, Nat.le_of_ble_eq_true rfl⟩ ⟨rfl, congrArg (fun z => some (Value.int (nI z))) (by split <;> omega), rfl, rfl⟩

set_option maxRecDepth 100000 in
set_option maxHeartbeats 4000000 in
theorem c_isSpotX {G : zG} {I : zI} {J : zJ} {y : Nat} : zK G mX11_isSpot 0 [.int (-1), .int (nI y)] zsh I J (zA0 (.int (nI 0)) I J) := by
  refine zK_of kX11_isSpot.2.2.2.2.1 (Nat.le_of_ble_eq_true rfl) ?_
  show V G mX11_isSpot 0 _ 0 [(0, .int (-1)), (1, .int (nI y))] [] (0, 0) zsh I J
  refine V_iload_n dX11_isSpot_0 rfl ?_
  refine V_if_lt (tgt := 24) dX11_isSpot_1 rfl (fun _ => ?_) (fun h => absurd h (by decide))
  refine V_iconst (v := nI 0) dX11_isSpot_24 rfl ?_
  exact V_iret ⟨Or.inr ⟨rfl, Or.inl rfl⟩, dX11_isSpot_25⟩ ⟨Nat.le_of_ble_eq_true rfl, Nat.le_of_ble_eq_true rfl⟩ ⟨rfl, rfl, rfl, rfl⟩

set_option maxRecDepth 100000 in
set_option maxHeartbeats 4000000 in
theorem c_isSpotY {G : zG} {I : zI} {J : zJ} {x : Nat} (hx : x < 2 ^ 31) : zK G mX11_isSpot 0 [.int (nI x), .int (-1)] zsh I J (zA0 (.int (nI 0)) I J) := by
  refine zK_of kX11_isSpot.2.2.2.2.1 (Nat.le_of_ble_eq_true rfl) ?_
  show V G mX11_isSpot 0 _ 0 [(0, .int (nI x)), (1, .int (-1))] [] (0, 0) zsh I J
  refine V_iload_n dX11_isSpot_0 rfl ?_
  refine V_if_ltN (tgt := 24) dX11_isSpot_1 rfl (by omega) ?_
  refine V_iload_n dX11_isSpot_4 rfl ?_
  refine V_bipush (v := nI 8) dX11_isSpot_5 rfl ?_
  refine V_icmp_geN (tgt := 24) dX11_isSpot_7 rfl (by omega) (by omega) (fun h7 => ?_) (fun h7 => ?_)
  · skip
    refine V_iconst (v := nI 0) dX11_isSpot_24 rfl ?_
    exact V_iret ⟨Or.inr ⟨rfl, Or.inl rfl⟩, dX11_isSpot_25⟩ ⟨Nat.le_of_ble_eq_true rfl, Nat.le_of_ble_eq_true rfl⟩ ⟨rfl, rfl, rfl, rfl⟩
  · skip
    refine V_iload_n dX11_isSpot_10 rfl ?_
    refine V_if_lt (tgt := 24) dX11_isSpot_11 rfl (fun _ => ?_) (fun h => absurd h (by decide))
    refine V_iconst (v := nI 0) dX11_isSpot_24 rfl ?_
    exact V_iret ⟨Or.inr ⟨rfl, Or.inl rfl⟩, dX11_isSpot_25⟩ ⟨Nat.le_of_ble_eq_true rfl, Nat.le_of_ble_eq_true rfl⟩ ⟨rfl, rfl, rfl, rfl⟩

set_option maxRecDepth 100000 in
set_option maxHeartbeats 4000000 in
theorem lp_push0 {G : zG} {I : zI} {J : zJ} {x0 y0 p0 : Nat} : ∀ n i x y l (I1 : zI) (Q : zQ), i + n = 8 → x < 8 → y < 8 → I1 = zwr I 41 4 (nI i) → (Q none zsh (zwr (zwr I 41 4 (nI (i + (rolS (I 42) 0 n x y l).2))) 41 3 (fen (rolS (I 42) 0 n x y l).1)) J) → V G mX5_push 2 Q 59 [(0, .ref 41), (1, .int (nI x0)), (2, .int (nI y0)), (3, .int (nI 0)), (4, .int (nI p0)), (5, .int (nI 0)), (6, .int (nI 1)), (7, .int (nI x)), (8, .int (nI y)), (9, .int l), (10, .int (nI i))] [] (0, 0) zsh I1 J := by
  intro n
  induction n with
  | zero =>
    intro i x y l I1 Q hi hx hy hI hQ
    refine V_iload dX5_push_59 rfl ?_
    refine V_bipush (v := nI 8) dX5_push_61 rfl ?_
    refine V_icmp_geN (tgt := 154) dX5_push_63 rfl (by omega) (by omega) (fun _ => ?_) (fun h => absurd h (by omega))
    refine V_aload_n dX5_push_154 rfl ?_
    refine V_bipush (v := nI 8) dX5_push_155 rfl ?_
    refine V_iload dX5_push_157 rfl ?_
    refine V_imulN dX5_push_159 ?_
    refine V_iload dX5_push_160 rfl ?_
    refine V_iaddN dX5_push_162 ?_
    refine V_putW dX5_push_163 fX5_71 ⟨Nat.le_of_ble_eq_true rfl, Nat.le_of_ble_eq_true rfl⟩ rfl rfl rfl ⟨rfl, rfl⟩ ?_
    exact V_ret ⟨rfl, dX5_push_166⟩ ⟨Nat.le_of_ble_eq_true rfl, Nat.le_of_ble_eq_true rfl⟩ (by rw [hI]; exact hQ)
  | succ n ih =>
    intro i x y l I1 Q hi hx hy hI hQ
    refine V_iload dX5_push_59 rfl ?_
    refine V_bipush (v := nI 8) dX5_push_61 rfl ?_
    refine V_icmp_geN (tgt := 154) dX5_push_63 rfl (by omega) (by omega) (fun h => absurd h (by omega)) (fun _ => ?_)
    refine V_iload dX5_push_66 rfl ?_
    refine V_if_le (tgt := 154) dX5_push_68 rfl (fun h68 => ?_) (fun h68 => ?_)
    · skip
      refine V_aload_n dX5_push_154 rfl ?_
      refine V_bipush (v := nI 8) dX5_push_155 rfl ?_
      refine V_iload dX5_push_157 rfl ?_
      refine V_imulN dX5_push_159 ?_
      refine V_iload dX5_push_160 rfl ?_
      refine V_iaddN dX5_push_162 ?_
      refine V_putW dX5_push_163 fX5_71 ⟨Nat.le_of_ble_eq_true rfl, Nat.le_of_ble_eq_true rfl⟩ rfl rfl rfl ⟨rfl, rfl⟩ ?_
      exact V_ret ⟨rfl, dX5_push_166⟩ ⟨Nat.le_of_ble_eq_true rfl, Nat.le_of_ble_eq_true rfl⟩ (by have e : rolS (I 42) 0 (n + 1) (x) (y) l = (some (8 * (y) + (x)), 0) := (by rw [rolS, if_pos h68]); rw [e] at hQ; (try rw [show 8 * (0) + (x) = x from (by omega)] at hQ); rw [hI]; exact hQ)
    · skip
      refine V_aload_n dX5_push_71 rfl ?_
      refine V_bipush (v := nI 8) dX5_push_72 rfl ?_
      refine V_iload dX5_push_74 rfl ?_
      refine V_imulN dX5_push_76 ?_
      refine V_iload dX5_push_77 rfl ?_
      refine V_iaddN dX5_push_79 ?_
      refine V_callV (As := [.int (nI ((8 * y) + x))]) (st := []) (a := 41) dX5_push_80 kX5_heightAt lX5_63 (by decide) rfl rfl (Nat.le_of_ble_eq_true rfl) ⟨Nat.le_of_ble_eq_true rfl, Nat.le_of_ble_eq_true rfl⟩ ⟨Nat.le_of_ble_eq_true rfl, Nat.le_of_ble_eq_true rfl⟩ rfl ⟨rfl, by decide⟩ (c_heightAt (by omega)) ?_
      rintro _ _ _ _ ⟨rfl, rfl, rfl, rfl⟩
      refine V_eqI (y := I 42 ((8 * y) + x)) (by rw [hI]; rfl) ?_
      refine V_istore (ls' := [(11, .int (I 42 ((8 * y) + x))), (0, .ref 41), (1, .int (nI x0)), (2, .int (nI y0)), (3, .int (nI 0)), (4, .int (nI p0)), (5, .int (nI 0)), (6, .int (nI 1)), (7, .int (nI x)), (8, .int (nI y)), (9, .int l), (10, .int (nI i))]) dX5_push_83 (by decide) rfl ?_
      refine V_iload dX5_push_85 rfl ?_
      refine V_iload dX5_push_87 rfl ?_
      refine V_iaddN dX5_push_89 ?_
      refine V_eqI (y := nI (x)) rfl ?_
      refine V_istore (ls' := [(7, .int (nI x)), (11, .int (I 42 ((8 * y) + x))), (0, .ref 41), (1, .int (nI x0)), (2, .int (nI y0)), (3, .int (nI 0)), (4, .int (nI p0)), (5, .int (nI 0)), (6, .int (nI 1)), (8, .int (nI y)), (9, .int l), (10, .int (nI i))]) dX5_push_90 (by decide) rfl ?_
      refine V_iload dX5_push_92 rfl ?_
      refine V_iload dX5_push_94 rfl ?_
      refine V_iaddN dX5_push_96 ?_
      refine V_eqI (y := nI (y + 1)) rfl ?_
      refine V_istore (ls' := [(8, .int (nI (y + 1))), (7, .int (nI x)), (11, .int (I 42 ((8 * y) + x))), (0, .ref 41), (1, .int (nI x0)), (2, .int (nI y0)), (3, .int (nI 0)), (4, .int (nI p0)), (5, .int (nI 0)), (6, .int (nI 1)), (9, .int l), (10, .int (nI i))]) dX5_push_97 (by decide) rfl ?_
      by_cases hb : y + 1 < 8
      · skip
        refine V_iload dX5_push_99 rfl ?_
        refine V_iload dX5_push_101 rfl ?_
        refine V_callS (As := [.int (nI x), .int (nI (y + 1))]) (st := []) dX5_push_103 kX11_isSpot lX5_67 (by decide) rfl rfl (Nat.le_of_ble_eq_true rfl) ⟨Nat.le_of_ble_eq_true rfl, Nat.le_of_ble_eq_true rfl⟩ (c_isSpot (by omega) (by omega)) ?_
        rintro _ _ _ _ ⟨rfl, rfl, rfl, rfl⟩
        refine V_eqI (y := nI 1) (congrArg nI (if_pos (by omega))) ?_
        refine V_if_ne (tgt := 116) dX5_push_106 rfl (fun _ => ?_) (fun h => absurd h (by decide))
        refine V_iload dX5_push_116 rfl ?_
        refine V_iload dX5_push_118 rfl ?_
        refine V_aload_n dX5_push_120 rfl ?_
        refine V_bipush (v := nI 8) dX5_push_121 rfl ?_
        refine V_iload dX5_push_123 rfl ?_
        refine V_imulN dX5_push_125 ?_
        refine V_iload dX5_push_126 rfl ?_
        refine V_iaddN dX5_push_128 ?_
        refine V_callV (As := [.int (nI ((8 * (y + 1)) + x))]) (st := [.int (I 42 ((8 * y) + x)), .int l]) (a := 41) dX5_push_129 kX5_heightAt lX5_63 (by decide) rfl rfl (Nat.le_of_ble_eq_true rfl) ⟨Nat.le_of_ble_eq_true rfl, Nat.le_of_ble_eq_true rfl⟩ ⟨Nat.le_of_ble_eq_true rfl, Nat.le_of_ble_eq_true rfl⟩ rfl ⟨rfl, by decide⟩ (c_heightAt (by omega)) ?_
        rintro _ _ _ _ ⟨rfl, rfl, rfl, rfl⟩
        refine V_eqI (y := I 42 ((8 * (y + 1)) + x)) (by rw [hI]; rfl) ?_
        refine V_isub dX5_push_132 ?_
        refine V_iconst (v := nI 1) dX5_push_133 rfl ?_
        refine V_isub dX5_push_134 ?_
        refine V_iadd dX5_push_135 ?_
        refine V_istore (ls' := [(9, .int (l + (((I 42 ((8 * y) + x)) - (I 42 ((8 * (y + 1)) + x))) - (nI 1)))), (8, .int (nI (y + 1))), (7, .int (nI x)), (11, .int (I 42 ((8 * y) + x))), (0, .ref 41), (1, .int (nI x0)), (2, .int (nI y0)), (3, .int (nI 0)), (4, .int (nI p0)), (5, .int (nI 0)), (6, .int (nI 1)), (10, .int (nI i))]) dX5_push_136 (by decide) rfl ?_
        refine V_aload_n dX5_push_138 rfl ?_
        refine V_dup dX5_push_139 rfl ?_
        refine V_getI dX5_push_140 fX5_60 ⟨Nat.le_of_ble_eq_true rfl, Nat.le_of_ble_eq_true rfl⟩ rfl rfl ?_
        refine V_eqI (y := nI i) (by rw [hI]; exact zwr_at.trans (if_pos ⟨rfl, rfl⟩)) ?_
        refine V_iconst (v := nI 1) dX5_push_143 rfl ?_
        refine V_iaddN dX5_push_144 ?_
        refine V_putW dX5_push_145 fX5_60 ⟨Nat.le_of_ble_eq_true rfl, Nat.le_of_ble_eq_true rfl⟩ rfl rfl rfl ⟨rfl, rfl⟩ ?_
        refine V_iincN (ls' := [(10, .int (nI (i + 1))), (9, .int (l + (((I 42 ((8 * y) + x)) - (I 42 ((8 * (y + 1)) + x))) - (nI 1)))), (8, .int (nI (y + 1))), (7, .int (nI x)), (11, .int (I 42 ((8 * y) + x))), (0, .ref 41), (1, .int (nI x0)), (2, .int (nI y0)), (3, .int (nI 0)), (4, .int (nI p0)), (5, .int (nI 0)), (6, .int (nI 1))]) (n := 1) dX5_push_148 rfl rfl (by decide) (by decide) rfl ?_
        refine V_goto (tgt := 59) dX5_push_151 rfl ?_
        refine V_sub2 (ls' := [(0, .ref 41), (1, .int (nI x0)), (2, .int (nI y0)), (3, .int (nI 0)), (4, .int (nI p0)), (5, .int (nI 0)), (6, .int (nI 1)), (7, .int (nI x)), (8, .int (nI (y + 1))), (9, .int (l + (((I 42 ((8 * y) + x)) - (I 42 ((8 * (y + 1)) + x))) - (nI 1)))), (10, .int (nI (i + 1)))]) (List.forall_mem_cons.mpr ⟨rfl, List.forall_mem_cons.mpr ⟨rfl, List.forall_mem_cons.mpr ⟨rfl, List.forall_mem_cons.mpr ⟨rfl, List.forall_mem_cons.mpr ⟨rfl, List.forall_mem_cons.mpr ⟨rfl, List.forall_mem_cons.mpr ⟨rfl, List.forall_mem_cons.mpr ⟨rfl, List.forall_mem_cons.mpr ⟨rfl, List.forall_mem_cons.mpr ⟨rfl, List.forall_mem_cons.mpr ⟨rfl, fun _ h => absurd h List.not_mem_nil⟩⟩⟩⟩⟩⟩⟩⟩⟩⟩⟩) ?_
        refine ih (i + 1) (x) (y + 1) _ _ Q (by omega) (by omega) (by omega) (by rw [hI]; exact zwr_zwr _ _ _ _ _) ?_
        have e : rolS (I 42) 0 (n + 1) (x) (y) l = ((rolS (I 42) 0 n (x) (y + 1) (l + (I 42 (8 * (y) + (x)) - I 42 (8 * (y + 1) + (x)) - nI 1))).1, (rolS (I 42) 0 n (x) (y + 1) (l + (I 42 (8 * (y) + (x)) - I 42 (8 * (y + 1) + (x)) - nI 1))).2 + 1) := by
          rw [rolS, if_neg h68, show rst 0 (x) (y) = some (x, y + 1) from by simp [rst, hb]]
        rw [e] at hQ
        have e2 : ∀ z, i + 1 + z = i + (z + 1) := fun z => by omega
        rw [e2]
        exact hQ
      · skip
        refine V_iload dX5_push_99 rfl ?_
        refine V_iload dX5_push_101 rfl ?_
        refine V_callS (As := [.int (nI x), .int (nI (y + 1))]) (st := []) dX5_push_103 kX11_isSpot lX5_67 (by decide) rfl rfl (Nat.le_of_ble_eq_true rfl) ⟨Nat.le_of_ble_eq_true rfl, Nat.le_of_ble_eq_true rfl⟩ (c_isSpot (by omega) (by omega)) ?_
        rintro _ _ _ _ ⟨rfl, rfl, rfl, rfl⟩
        refine V_eqI (y := nI 0) (congrArg nI (if_neg (by omega))) ?_
        refine V_if_ne (tgt := 116) dX5_push_106 rfl (fun h => absurd h (by decide)) (fun _ => ?_)
        refine V_aload_n dX5_push_109 rfl ?_
        refine V_bipush (v := (-2)) dX5_push_110 rfl ?_
        refine V_putW dX5_push_112 fX5_71 ⟨Nat.le_of_ble_eq_true rfl, Nat.le_of_ble_eq_true rfl⟩ rfl rfl rfl ⟨rfl, rfl⟩ ?_
        exact V_ret ⟨rfl, dX5_push_115⟩ ⟨Nat.le_of_ble_eq_true rfl, Nat.le_of_ble_eq_true rfl⟩ (by have e : rolS (I 42) 0 (n + 1) (x) (y) l = (none, 0) := (by rw [rolS, if_neg h68, show rst 0 (x) (y) = none from by simp [rst, hb]]); rw [e] at hQ; rw [hI]; exact hQ)

set_option maxRecDepth 100000 in
set_option maxHeartbeats 4000000 in
theorem c_push0 {G : zG} {I : zI} {J : zJ} {x y p : Nat} (hx : x < 8) (hy : y < 8) : zK G mX5_push 2 [.ref 41, .int (nI x), .int (nI y), .int (nI 0), .int (nI p)] zsh I J (zA2 (fun I' J' => I' = zwr (zwr I 41 4 (nI (rolS (I 42) 0 8 x y (nI p)).2)) 41 3 (fen (rolS (I 42) 0 8 x y (nI p)).1) ∧ J = J')) := by
  refine zK_of kX5_push.2.2.2.2.1 (Nat.le_of_ble_eq_true rfl) ?_
  show V G mX5_push 2 _ 0 [(0, .ref 41), (1, .int (nI x)), (2, .int (nI y)), (3, .int (nI 0)), (4, .int (nI p))] [] (0, 0) zsh I J
  refine V_iload_n dX5_push_0 rfl ?_
  refine V_iconst (v := nI 1) dX5_push_1 rfl ?_
  refine V_icmp_ne (tgt := 9) dX5_push_2 rfl (fun _ => ?_) (fun h => absurd h (by decide))
  refine V_iload_n dX5_push_9 rfl ?_
  refine V_iconst (v := nI 3) dX5_push_10 rfl ?_
  refine V_icmp_ne (tgt := 18) dX5_push_11 rfl (fun _ => ?_) (fun h => absurd h (by decide))
  refine V_iconst (v := nI 0) dX5_push_18 rfl ?_
  refine V_istore (ls' := [(5, .int (nI 0)), (0, .ref 41), (1, .int (nI x)), (2, .int (nI y)), (3, .int (nI 0)), (4, .int (nI p))]) dX5_push_19 (by decide) rfl ?_
  refine V_iload_n dX5_push_21 rfl ?_
  refine V_if_ne (tgt := 29) dX5_push_22 rfl (fun h => absurd h (by decide)) (fun _ => ?_)
  refine V_iconst (v := nI 1) dX5_push_25 rfl ?_
  refine V_goto (tgt := 39) dX5_push_26 rfl ?_
  refine V_istore (ls' := [(6, .int (nI 1)), (5, .int (nI 0)), (0, .ref 41), (1, .int (nI x)), (2, .int (nI y)), (3, .int (nI 0)), (4, .int (nI p))]) dX5_push_39 (by decide) rfl ?_
  refine V_iload_n dX5_push_41 rfl ?_
  refine V_istore (ls' := [(7, .int (nI x)), (6, .int (nI 1)), (5, .int (nI 0)), (0, .ref 41), (1, .int (nI x)), (2, .int (nI y)), (3, .int (nI 0)), (4, .int (nI p))]) dX5_push_42 (by decide) rfl ?_
  refine V_iload_n dX5_push_44 rfl ?_
  refine V_istore (ls' := [(8, .int (nI y)), (7, .int (nI x)), (6, .int (nI 1)), (5, .int (nI 0)), (0, .ref 41), (1, .int (nI x)), (2, .int (nI y)), (3, .int (nI 0)), (4, .int (nI p))]) dX5_push_45 (by decide) rfl ?_
  refine V_iload dX5_push_47 rfl ?_
  refine V_istore (ls' := [(9, .int (nI p)), (8, .int (nI y)), (7, .int (nI x)), (6, .int (nI 1)), (5, .int (nI 0)), (0, .ref 41), (1, .int (nI x)), (2, .int (nI y)), (3, .int (nI 0)), (4, .int (nI p))]) dX5_push_49 (by decide) rfl ?_
  refine V_aload_n dX5_push_51 rfl ?_
  refine V_iconst (v := nI 0) dX5_push_52 rfl ?_
  refine V_putW dX5_push_53 fX5_60 ⟨Nat.le_of_ble_eq_true rfl, Nat.le_of_ble_eq_true rfl⟩ rfl rfl rfl ⟨rfl, rfl⟩ ?_
  refine V_iconst (v := nI 0) dX5_push_56 rfl ?_
  refine V_istore (ls' := [(10, .int (nI 0)), (9, .int (nI p)), (8, .int (nI y)), (7, .int (nI x)), (6, .int (nI 1)), (5, .int (nI 0)), (0, .ref 41), (1, .int (nI x)), (2, .int (nI y)), (3, .int (nI 0)), (4, .int (nI p))]) dX5_push_57 (by decide) rfl ?_
  refine V_sub2 (ls' := [(0, .ref 41), (1, .int (nI x)), (2, .int (nI y)), (3, .int (nI 0)), (4, .int (nI p)), (5, .int (nI 0)), (6, .int (nI 1)), (7, .int (nI x)), (8, .int (nI y)), (9, .int (nI p)), (10, .int (nI 0))]) (List.forall_mem_cons.mpr ⟨rfl, List.forall_mem_cons.mpr ⟨rfl, List.forall_mem_cons.mpr ⟨rfl, List.forall_mem_cons.mpr ⟨rfl, List.forall_mem_cons.mpr ⟨rfl, List.forall_mem_cons.mpr ⟨rfl, List.forall_mem_cons.mpr ⟨rfl, List.forall_mem_cons.mpr ⟨rfl, List.forall_mem_cons.mpr ⟨rfl, List.forall_mem_cons.mpr ⟨rfl, List.forall_mem_cons.mpr ⟨rfl, fun _ h => absurd h List.not_mem_nil⟩⟩⟩⟩⟩⟩⟩⟩⟩⟩⟩) ?_
  refine lp_push0 8 0 x y (nI p) _ _ (by omega) hx hy rfl ⟨rfl, rfl, ?_, rfl⟩
  rw [Nat.zero_add]

set_option maxRecDepth 100000 in
set_option maxHeartbeats 4000000 in
theorem lp_push1 {G : zG} {I : zI} {J : zJ} {x0 y0 p0 : Nat} : ∀ n i x y l (I1 : zI) (Q : zQ), i + n = 8 → x < 8 → y < 8 → I1 = zwr I 41 4 (nI i) → (Q none zsh (zwr (zwr I 41 4 (nI (i + (rolS (I 42) 1 n x y l).2))) 41 3 (fen (rolS (I 42) 1 n x y l).1)) J) → V G mX5_push 2 Q 59 [(0, .ref 41), (1, .int (nI x0)), (2, .int (nI y0)), (3, .int (nI 1)), (4, .int (nI p0)), (5, .int (nI 1)), (6, .int (nI 0)), (7, .int (nI x)), (8, .int (nI y)), (9, .int l), (10, .int (nI i))] [] (0, 0) zsh I1 J := by
  intro n
  induction n with
  | zero =>
    intro i x y l I1 Q hi hx hy hI hQ
    refine V_iload dX5_push_59 rfl ?_
    refine V_bipush (v := nI 8) dX5_push_61 rfl ?_
    refine V_icmp_geN (tgt := 154) dX5_push_63 rfl (by omega) (by omega) (fun _ => ?_) (fun h => absurd h (by omega))
    refine V_aload_n dX5_push_154 rfl ?_
    refine V_bipush (v := nI 8) dX5_push_155 rfl ?_
    refine V_iload dX5_push_157 rfl ?_
    refine V_imulN dX5_push_159 ?_
    refine V_iload dX5_push_160 rfl ?_
    refine V_iaddN dX5_push_162 ?_
    refine V_putW dX5_push_163 fX5_71 ⟨Nat.le_of_ble_eq_true rfl, Nat.le_of_ble_eq_true rfl⟩ rfl rfl rfl ⟨rfl, rfl⟩ ?_
    exact V_ret ⟨rfl, dX5_push_166⟩ ⟨Nat.le_of_ble_eq_true rfl, Nat.le_of_ble_eq_true rfl⟩ (by rw [hI]; exact hQ)
  | succ n ih =>
    intro i x y l I1 Q hi hx hy hI hQ
    refine V_iload dX5_push_59 rfl ?_
    refine V_bipush (v := nI 8) dX5_push_61 rfl ?_
    refine V_icmp_geN (tgt := 154) dX5_push_63 rfl (by omega) (by omega) (fun h => absurd h (by omega)) (fun _ => ?_)
    refine V_iload dX5_push_66 rfl ?_
    refine V_if_le (tgt := 154) dX5_push_68 rfl (fun h68 => ?_) (fun h68 => ?_)
    · skip
      refine V_aload_n dX5_push_154 rfl ?_
      refine V_bipush (v := nI 8) dX5_push_155 rfl ?_
      refine V_iload dX5_push_157 rfl ?_
      refine V_imulN dX5_push_159 ?_
      refine V_iload dX5_push_160 rfl ?_
      refine V_iaddN dX5_push_162 ?_
      refine V_putW dX5_push_163 fX5_71 ⟨Nat.le_of_ble_eq_true rfl, Nat.le_of_ble_eq_true rfl⟩ rfl rfl rfl ⟨rfl, rfl⟩ ?_
      exact V_ret ⟨rfl, dX5_push_166⟩ ⟨Nat.le_of_ble_eq_true rfl, Nat.le_of_ble_eq_true rfl⟩ (by have e : rolS (I 42) 1 (n + 1) (x) (y) l = (some (8 * (y) + (x)), 0) := (by rw [rolS, if_pos h68]); rw [e] at hQ; (try rw [show 8 * (0) + (x) = x from (by omega)] at hQ); rw [hI]; exact hQ)
    · skip
      refine V_aload_n dX5_push_71 rfl ?_
      refine V_bipush (v := nI 8) dX5_push_72 rfl ?_
      refine V_iload dX5_push_74 rfl ?_
      refine V_imulN dX5_push_76 ?_
      refine V_iload dX5_push_77 rfl ?_
      refine V_iaddN dX5_push_79 ?_
      refine V_callV (As := [.int (nI ((8 * y) + x))]) (st := []) (a := 41) dX5_push_80 kX5_heightAt lX5_63 (by decide) rfl rfl (Nat.le_of_ble_eq_true rfl) ⟨Nat.le_of_ble_eq_true rfl, Nat.le_of_ble_eq_true rfl⟩ ⟨Nat.le_of_ble_eq_true rfl, Nat.le_of_ble_eq_true rfl⟩ rfl ⟨rfl, by decide⟩ (c_heightAt (by omega)) ?_
      rintro _ _ _ _ ⟨rfl, rfl, rfl, rfl⟩
      refine V_eqI (y := I 42 ((8 * y) + x)) (by rw [hI]; rfl) ?_
      refine V_istore (ls' := [(11, .int (I 42 ((8 * y) + x))), (0, .ref 41), (1, .int (nI x0)), (2, .int (nI y0)), (3, .int (nI 1)), (4, .int (nI p0)), (5, .int (nI 1)), (6, .int (nI 0)), (7, .int (nI x)), (8, .int (nI y)), (9, .int l), (10, .int (nI i))]) dX5_push_83 (by decide) rfl ?_
      refine V_iload dX5_push_85 rfl ?_
      refine V_iload dX5_push_87 rfl ?_
      refine V_iaddN dX5_push_89 ?_
      refine V_eqI (y := nI (x + 1)) rfl ?_
      refine V_istore (ls' := [(7, .int (nI (x + 1))), (11, .int (I 42 ((8 * y) + x))), (0, .ref 41), (1, .int (nI x0)), (2, .int (nI y0)), (3, .int (nI 1)), (4, .int (nI p0)), (5, .int (nI 1)), (6, .int (nI 0)), (8, .int (nI y)), (9, .int l), (10, .int (nI i))]) dX5_push_90 (by decide) rfl ?_
      refine V_iload dX5_push_92 rfl ?_
      refine V_iload dX5_push_94 rfl ?_
      refine V_iaddN dX5_push_96 ?_
      refine V_eqI (y := nI (y)) rfl ?_
      refine V_istore (ls' := [(8, .int (nI y)), (7, .int (nI (x + 1))), (11, .int (I 42 ((8 * y) + x))), (0, .ref 41), (1, .int (nI x0)), (2, .int (nI y0)), (3, .int (nI 1)), (4, .int (nI p0)), (5, .int (nI 1)), (6, .int (nI 0)), (9, .int l), (10, .int (nI i))]) dX5_push_97 (by decide) rfl ?_
      by_cases hb : x + 1 < 8
      · skip
        refine V_iload dX5_push_99 rfl ?_
        refine V_iload dX5_push_101 rfl ?_
        refine V_callS (As := [.int (nI (x + 1)), .int (nI y)]) (st := []) dX5_push_103 kX11_isSpot lX5_67 (by decide) rfl rfl (Nat.le_of_ble_eq_true rfl) ⟨Nat.le_of_ble_eq_true rfl, Nat.le_of_ble_eq_true rfl⟩ (c_isSpot (by omega) (by omega)) ?_
        rintro _ _ _ _ ⟨rfl, rfl, rfl, rfl⟩
        refine V_eqI (y := nI 1) (congrArg nI (if_pos (by omega))) ?_
        refine V_if_ne (tgt := 116) dX5_push_106 rfl (fun _ => ?_) (fun h => absurd h (by decide))
        refine V_iload dX5_push_116 rfl ?_
        refine V_iload dX5_push_118 rfl ?_
        refine V_aload_n dX5_push_120 rfl ?_
        refine V_bipush (v := nI 8) dX5_push_121 rfl ?_
        refine V_iload dX5_push_123 rfl ?_
        refine V_imulN dX5_push_125 ?_
        refine V_iload dX5_push_126 rfl ?_
        refine V_iaddN dX5_push_128 ?_
        refine V_callV (As := [.int (nI ((8 * y) + (x + 1)))]) (st := [.int (I 42 ((8 * y) + x)), .int l]) (a := 41) dX5_push_129 kX5_heightAt lX5_63 (by decide) rfl rfl (Nat.le_of_ble_eq_true rfl) ⟨Nat.le_of_ble_eq_true rfl, Nat.le_of_ble_eq_true rfl⟩ ⟨Nat.le_of_ble_eq_true rfl, Nat.le_of_ble_eq_true rfl⟩ rfl ⟨rfl, by decide⟩ (c_heightAt (by omega)) ?_
        rintro _ _ _ _ ⟨rfl, rfl, rfl, rfl⟩
        refine V_eqI (y := I 42 ((8 * y) + (x + 1))) (by rw [hI]; rfl) ?_
        refine V_isub dX5_push_132 ?_
        refine V_iconst (v := nI 1) dX5_push_133 rfl ?_
        refine V_isub dX5_push_134 ?_
        refine V_iadd dX5_push_135 ?_
        refine V_istore (ls' := [(9, .int (l + (((I 42 ((8 * y) + x)) - (I 42 ((8 * y) + (x + 1)))) - (nI 1)))), (8, .int (nI y)), (7, .int (nI (x + 1))), (11, .int (I 42 ((8 * y) + x))), (0, .ref 41), (1, .int (nI x0)), (2, .int (nI y0)), (3, .int (nI 1)), (4, .int (nI p0)), (5, .int (nI 1)), (6, .int (nI 0)), (10, .int (nI i))]) dX5_push_136 (by decide) rfl ?_
        refine V_aload_n dX5_push_138 rfl ?_
        refine V_dup dX5_push_139 rfl ?_
        refine V_getI dX5_push_140 fX5_60 ⟨Nat.le_of_ble_eq_true rfl, Nat.le_of_ble_eq_true rfl⟩ rfl rfl ?_
        refine V_eqI (y := nI i) (by rw [hI]; exact zwr_at.trans (if_pos ⟨rfl, rfl⟩)) ?_
        refine V_iconst (v := nI 1) dX5_push_143 rfl ?_
        refine V_iaddN dX5_push_144 ?_
        refine V_putW dX5_push_145 fX5_60 ⟨Nat.le_of_ble_eq_true rfl, Nat.le_of_ble_eq_true rfl⟩ rfl rfl rfl ⟨rfl, rfl⟩ ?_
        refine V_iincN (ls' := [(10, .int (nI (i + 1))), (9, .int (l + (((I 42 ((8 * y) + x)) - (I 42 ((8 * y) + (x + 1)))) - (nI 1)))), (8, .int (nI y)), (7, .int (nI (x + 1))), (11, .int (I 42 ((8 * y) + x))), (0, .ref 41), (1, .int (nI x0)), (2, .int (nI y0)), (3, .int (nI 1)), (4, .int (nI p0)), (5, .int (nI 1)), (6, .int (nI 0))]) (n := 1) dX5_push_148 rfl rfl (by decide) (by decide) rfl ?_
        refine V_goto (tgt := 59) dX5_push_151 rfl ?_
        refine V_sub2 (ls' := [(0, .ref 41), (1, .int (nI x0)), (2, .int (nI y0)), (3, .int (nI 1)), (4, .int (nI p0)), (5, .int (nI 1)), (6, .int (nI 0)), (7, .int (nI (x + 1))), (8, .int (nI y)), (9, .int (l + (((I 42 ((8 * y) + x)) - (I 42 ((8 * y) + (x + 1)))) - (nI 1)))), (10, .int (nI (i + 1)))]) (List.forall_mem_cons.mpr ⟨rfl, List.forall_mem_cons.mpr ⟨rfl, List.forall_mem_cons.mpr ⟨rfl, List.forall_mem_cons.mpr ⟨rfl, List.forall_mem_cons.mpr ⟨rfl, List.forall_mem_cons.mpr ⟨rfl, List.forall_mem_cons.mpr ⟨rfl, List.forall_mem_cons.mpr ⟨rfl, List.forall_mem_cons.mpr ⟨rfl, List.forall_mem_cons.mpr ⟨rfl, List.forall_mem_cons.mpr ⟨rfl, fun _ h => absurd h List.not_mem_nil⟩⟩⟩⟩⟩⟩⟩⟩⟩⟩⟩) ?_
        refine ih (i + 1) (x + 1) (y) _ _ Q (by omega) (by omega) (by omega) (by rw [hI]; exact zwr_zwr _ _ _ _ _) ?_
        have e : rolS (I 42) 1 (n + 1) (x) (y) l = ((rolS (I 42) 1 n (x + 1) (y) (l + (I 42 (8 * (y) + (x)) - I 42 (8 * (y) + (x + 1)) - nI 1))).1, (rolS (I 42) 1 n (x + 1) (y) (l + (I 42 (8 * (y) + (x)) - I 42 (8 * (y) + (x + 1)) - nI 1))).2 + 1) := by
          rw [rolS, if_neg h68, show rst 1 (x) (y) = some (x + 1, y) from by simp [rst, hb]]
        rw [e] at hQ
        have e2 : ∀ z, i + 1 + z = i + (z + 1) := fun z => by omega
        rw [e2]
        exact hQ
      · skip
        refine V_iload dX5_push_99 rfl ?_
        refine V_iload dX5_push_101 rfl ?_
        refine V_callS (As := [.int (nI (x + 1)), .int (nI y)]) (st := []) dX5_push_103 kX11_isSpot lX5_67 (by decide) rfl rfl (Nat.le_of_ble_eq_true rfl) ⟨Nat.le_of_ble_eq_true rfl, Nat.le_of_ble_eq_true rfl⟩ (c_isSpot (by omega) (by omega)) ?_
        rintro _ _ _ _ ⟨rfl, rfl, rfl, rfl⟩
        refine V_eqI (y := nI 0) (congrArg nI (if_neg (by omega))) ?_
        refine V_if_ne (tgt := 116) dX5_push_106 rfl (fun h => absurd h (by decide)) (fun _ => ?_)
        refine V_aload_n dX5_push_109 rfl ?_
        refine V_bipush (v := (-2)) dX5_push_110 rfl ?_
        refine V_putW dX5_push_112 fX5_71 ⟨Nat.le_of_ble_eq_true rfl, Nat.le_of_ble_eq_true rfl⟩ rfl rfl rfl ⟨rfl, rfl⟩ ?_
        exact V_ret ⟨rfl, dX5_push_115⟩ ⟨Nat.le_of_ble_eq_true rfl, Nat.le_of_ble_eq_true rfl⟩ (by have e : rolS (I 42) 1 (n + 1) (x) (y) l = (none, 0) := (by rw [rolS, if_neg h68, show rst 1 (x) (y) = none from by simp [rst, hb]]); rw [e] at hQ; rw [hI]; exact hQ)

set_option maxRecDepth 100000 in
set_option maxHeartbeats 4000000 in
theorem c_push1 {G : zG} {I : zI} {J : zJ} {x y p : Nat} (hx : x < 8) (hy : y < 8) : zK G mX5_push 2 [.ref 41, .int (nI x), .int (nI y), .int (nI 1), .int (nI p)] zsh I J (zA2 (fun I' J' => I' = zwr (zwr I 41 4 (nI (rolS (I 42) 1 8 x y (nI p)).2)) 41 3 (fen (rolS (I 42) 1 8 x y (nI p)).1) ∧ J = J')) := by
  refine zK_of kX5_push.2.2.2.2.1 (Nat.le_of_ble_eq_true rfl) ?_
  show V G mX5_push 2 _ 0 [(0, .ref 41), (1, .int (nI x)), (2, .int (nI y)), (3, .int (nI 1)), (4, .int (nI p))] [] (0, 0) zsh I J
  refine V_iload_n dX5_push_0 rfl ?_
  refine V_iconst (v := nI 1) dX5_push_1 rfl ?_
  refine V_icmp_ne (tgt := 9) dX5_push_2 rfl (fun h => absurd h (by decide)) (fun _ => ?_)
  refine V_iconst (v := nI 1) dX5_push_5 rfl ?_
  refine V_goto (tgt := 19) dX5_push_6 rfl ?_
  refine V_istore (ls' := [(5, .int (nI 1)), (0, .ref 41), (1, .int (nI x)), (2, .int (nI y)), (3, .int (nI 1)), (4, .int (nI p))]) dX5_push_19 (by decide) rfl ?_
  refine V_iload_n dX5_push_21 rfl ?_
  refine V_if_ne (tgt := 29) dX5_push_22 rfl (fun _ => ?_) (fun h => absurd h (by decide))
  refine V_iload_n dX5_push_29 rfl ?_
  refine V_iconst (v := nI 2) dX5_push_30 rfl ?_
  refine V_icmp_ne (tgt := 38) dX5_push_31 rfl (fun _ => ?_) (fun h => absurd h (by decide))
  refine V_iconst (v := nI 0) dX5_push_38 rfl ?_
  refine V_istore (ls' := [(6, .int (nI 0)), (5, .int (nI 1)), (0, .ref 41), (1, .int (nI x)), (2, .int (nI y)), (3, .int (nI 1)), (4, .int (nI p))]) dX5_push_39 (by decide) rfl ?_
  refine V_iload_n dX5_push_41 rfl ?_
  refine V_istore (ls' := [(7, .int (nI x)), (6, .int (nI 0)), (5, .int (nI 1)), (0, .ref 41), (1, .int (nI x)), (2, .int (nI y)), (3, .int (nI 1)), (4, .int (nI p))]) dX5_push_42 (by decide) rfl ?_
  refine V_iload_n dX5_push_44 rfl ?_
  refine V_istore (ls' := [(8, .int (nI y)), (7, .int (nI x)), (6, .int (nI 0)), (5, .int (nI 1)), (0, .ref 41), (1, .int (nI x)), (2, .int (nI y)), (3, .int (nI 1)), (4, .int (nI p))]) dX5_push_45 (by decide) rfl ?_
  refine V_iload dX5_push_47 rfl ?_
  refine V_istore (ls' := [(9, .int (nI p)), (8, .int (nI y)), (7, .int (nI x)), (6, .int (nI 0)), (5, .int (nI 1)), (0, .ref 41), (1, .int (nI x)), (2, .int (nI y)), (3, .int (nI 1)), (4, .int (nI p))]) dX5_push_49 (by decide) rfl ?_
  refine V_aload_n dX5_push_51 rfl ?_
  refine V_iconst (v := nI 0) dX5_push_52 rfl ?_
  refine V_putW dX5_push_53 fX5_60 ⟨Nat.le_of_ble_eq_true rfl, Nat.le_of_ble_eq_true rfl⟩ rfl rfl rfl ⟨rfl, rfl⟩ ?_
  refine V_iconst (v := nI 0) dX5_push_56 rfl ?_
  refine V_istore (ls' := [(10, .int (nI 0)), (9, .int (nI p)), (8, .int (nI y)), (7, .int (nI x)), (6, .int (nI 0)), (5, .int (nI 1)), (0, .ref 41), (1, .int (nI x)), (2, .int (nI y)), (3, .int (nI 1)), (4, .int (nI p))]) dX5_push_57 (by decide) rfl ?_
  refine V_sub2 (ls' := [(0, .ref 41), (1, .int (nI x)), (2, .int (nI y)), (3, .int (nI 1)), (4, .int (nI p)), (5, .int (nI 1)), (6, .int (nI 0)), (7, .int (nI x)), (8, .int (nI y)), (9, .int (nI p)), (10, .int (nI 0))]) (List.forall_mem_cons.mpr ⟨rfl, List.forall_mem_cons.mpr ⟨rfl, List.forall_mem_cons.mpr ⟨rfl, List.forall_mem_cons.mpr ⟨rfl, List.forall_mem_cons.mpr ⟨rfl, List.forall_mem_cons.mpr ⟨rfl, List.forall_mem_cons.mpr ⟨rfl, List.forall_mem_cons.mpr ⟨rfl, List.forall_mem_cons.mpr ⟨rfl, List.forall_mem_cons.mpr ⟨rfl, List.forall_mem_cons.mpr ⟨rfl, fun _ h => absurd h List.not_mem_nil⟩⟩⟩⟩⟩⟩⟩⟩⟩⟩⟩) ?_
  refine lp_push1 8 0 x y (nI p) _ _ (by omega) hx hy rfl ⟨rfl, rfl, ?_, rfl⟩
  rw [Nat.zero_add]

set_option maxRecDepth 100000 in
set_option maxHeartbeats 4000000 in
theorem lp_push2 {G : zG} {I : zI} {J : zJ} {x0 y0 p0 : Nat} : ∀ n i x y l (I1 : zI) (Q : zQ), i + n = 8 → x < 8 → y < 8 → I1 = zwr I 41 4 (nI i) → (Q none zsh (zwr (zwr I 41 4 (nI (i + (rolS (I 42) 2 n x y l).2))) 41 3 (fen (rolS (I 42) 2 n x y l).1)) J) → V G mX5_push 2 Q 59 [(0, .ref 41), (1, .int (nI x0)), (2, .int (nI y0)), (3, .int (nI 2)), (4, .int (nI p0)), (5, .int (nI 0)), (6, .int (-1)), (7, .int (nI x)), (8, .int (nI y)), (9, .int l), (10, .int (nI i))] [] (0, 0) zsh I1 J := by
  intro n
  induction n with
  | zero =>
    intro i x y l I1 Q hi hx hy hI hQ
    refine V_iload dX5_push_59 rfl ?_
    refine V_bipush (v := nI 8) dX5_push_61 rfl ?_
    refine V_icmp_geN (tgt := 154) dX5_push_63 rfl (by omega) (by omega) (fun _ => ?_) (fun h => absurd h (by omega))
    refine V_aload_n dX5_push_154 rfl ?_
    refine V_bipush (v := nI 8) dX5_push_155 rfl ?_
    refine V_iload dX5_push_157 rfl ?_
    refine V_imulN dX5_push_159 ?_
    refine V_iload dX5_push_160 rfl ?_
    refine V_iaddN dX5_push_162 ?_
    refine V_putW dX5_push_163 fX5_71 ⟨Nat.le_of_ble_eq_true rfl, Nat.le_of_ble_eq_true rfl⟩ rfl rfl rfl ⟨rfl, rfl⟩ ?_
    exact V_ret ⟨rfl, dX5_push_166⟩ ⟨Nat.le_of_ble_eq_true rfl, Nat.le_of_ble_eq_true rfl⟩ (by rw [hI]; exact hQ)
  | succ n ih =>
    intro i x y l I1 Q hi hx hy hI hQ
    cases y with
    | zero =>
      refine V_iload dX5_push_59 rfl ?_
      refine V_bipush (v := nI 8) dX5_push_61 rfl ?_
      refine V_icmp_geN (tgt := 154) dX5_push_63 rfl (by omega) (by omega) (fun h => absurd h (by omega)) (fun _ => ?_)
      refine V_iload dX5_push_66 rfl ?_
      refine V_if_le (tgt := 154) dX5_push_68 rfl (fun h68 => ?_) (fun h68 => ?_)
      · skip
        refine V_aload_n dX5_push_154 rfl ?_
        refine V_bipush (v := nI 8) dX5_push_155 rfl ?_
        refine V_iload dX5_push_157 rfl ?_
        refine V_imulN dX5_push_159 ?_
        refine V_eqI (y := nI 0) rfl ?_
        refine V_iload dX5_push_160 rfl ?_
        refine V_iaddN dX5_push_162 ?_
        refine V_eqI (y := nI x) (congrArg nI (Nat.zero_add _)) ?_
        refine V_putW dX5_push_163 fX5_71 ⟨Nat.le_of_ble_eq_true rfl, Nat.le_of_ble_eq_true rfl⟩ rfl rfl rfl ⟨rfl, rfl⟩ ?_
        exact V_ret ⟨rfl, dX5_push_166⟩ ⟨Nat.le_of_ble_eq_true rfl, Nat.le_of_ble_eq_true rfl⟩ (by have e : rolS (I 42) 2 (n + 1) (x) (0) l = (some (8 * (0) + (x)), 0) := (by rw [rolS, if_pos h68]); rw [e] at hQ; (try rw [show 8 * (0) + (x) = x from (by omega)] at hQ); rw [hI]; exact hQ)
      · skip
        refine V_aload_n dX5_push_71 rfl ?_
        refine V_bipush (v := nI 8) dX5_push_72 rfl ?_
        refine V_iload dX5_push_74 rfl ?_
        refine V_imulN dX5_push_76 ?_
        refine V_eqI (y := nI 0) rfl ?_
        refine V_iload dX5_push_77 rfl ?_
        refine V_iaddN dX5_push_79 ?_
        refine V_eqI (y := nI x) (congrArg nI (Nat.zero_add _)) ?_
        refine V_callV (As := [.int (nI x)]) (st := []) (a := 41) dX5_push_80 kX5_heightAt lX5_63 (by decide) rfl rfl (Nat.le_of_ble_eq_true rfl) ⟨Nat.le_of_ble_eq_true rfl, Nat.le_of_ble_eq_true rfl⟩ ⟨Nat.le_of_ble_eq_true rfl, Nat.le_of_ble_eq_true rfl⟩ rfl ⟨rfl, by decide⟩ (c_heightAt (by omega)) ?_
        rintro _ _ _ _ ⟨rfl, rfl, rfl, rfl⟩
        refine V_eqI (y := I 42 x) (by rw [hI]; rfl) ?_
        refine V_istore (ls' := [(11, .int (I 42 x)), (0, .ref 41), (1, .int (nI x0)), (2, .int (nI y0)), (3, .int (nI 2)), (4, .int (nI p0)), (5, .int (nI 0)), (6, .int (-1)), (7, .int (nI x)), (8, .int (nI 0)), (9, .int l), (10, .int (nI i))]) dX5_push_83 (by decide) rfl ?_
        refine V_iload dX5_push_85 rfl ?_
        refine V_iload dX5_push_87 rfl ?_
        refine V_iaddN dX5_push_89 ?_
        refine V_eqI (y := nI (x)) rfl ?_
        refine V_istore (ls' := [(7, .int (nI x)), (11, .int (I 42 x)), (0, .ref 41), (1, .int (nI x0)), (2, .int (nI y0)), (3, .int (nI 2)), (4, .int (nI p0)), (5, .int (nI 0)), (6, .int (-1)), (8, .int (nI 0)), (9, .int l), (10, .int (nI i))]) dX5_push_90 (by decide) rfl ?_
        refine V_iload dX5_push_92 rfl ?_
        refine V_iload dX5_push_94 rfl ?_
        refine V_iadd dX5_push_96 (V_eqI (y := (-1)) (by decide) ?_)
        refine V_istore (ls' := [(8, .int (-1)), (7, .int (nI x)), (11, .int (I 42 x)), (0, .ref 41), (1, .int (nI x0)), (2, .int (nI y0)), (3, .int (nI 2)), (4, .int (nI p0)), (5, .int (nI 0)), (6, .int (-1)), (9, .int l), (10, .int (nI i))]) dX5_push_97 (by decide) rfl ?_
        refine V_iload dX5_push_99 rfl ?_
        refine V_iload dX5_push_101 rfl ?_
        refine V_callS (As := [.int (nI x), .int (-1)]) (st := []) dX5_push_103 kX11_isSpot lX5_67 (by decide) rfl rfl (Nat.le_of_ble_eq_true rfl) ⟨Nat.le_of_ble_eq_true rfl, Nat.le_of_ble_eq_true rfl⟩ (c_isSpotY (by omega)) ?_
        rintro _ _ _ _ ⟨rfl, rfl, rfl, rfl⟩
        refine V_if_ne (tgt := 116) dX5_push_106 rfl (fun h => absurd h (by decide)) (fun _ => ?_)
        refine V_aload_n dX5_push_109 rfl ?_
        refine V_bipush (v := (-2)) dX5_push_110 rfl ?_
        refine V_putW dX5_push_112 fX5_71 ⟨Nat.le_of_ble_eq_true rfl, Nat.le_of_ble_eq_true rfl⟩ rfl rfl rfl ⟨rfl, rfl⟩ ?_
        exact V_ret ⟨rfl, dX5_push_115⟩ ⟨Nat.le_of_ble_eq_true rfl, Nat.le_of_ble_eq_true rfl⟩ (by have e : rolS (I 42) 2 (n + 1) (x) (0) l = (none, 0) := (by rw [rolS, if_neg h68, show rst 2 (x) (0) = none from by simp [rst]]); rw [e] at hQ; rw [hI]; exact hQ)
    | succ y =>
      refine V_iload dX5_push_59 rfl ?_
      refine V_bipush (v := nI 8) dX5_push_61 rfl ?_
      refine V_icmp_geN (tgt := 154) dX5_push_63 rfl (by omega) (by omega) (fun h => absurd h (by omega)) (fun _ => ?_)
      refine V_iload dX5_push_66 rfl ?_
      refine V_if_le (tgt := 154) dX5_push_68 rfl (fun h68 => ?_) (fun h68 => ?_)
      · skip
        refine V_aload_n dX5_push_154 rfl ?_
        refine V_bipush (v := nI 8) dX5_push_155 rfl ?_
        refine V_iload dX5_push_157 rfl ?_
        refine V_imulN dX5_push_159 ?_
        refine V_iload dX5_push_160 rfl ?_
        refine V_iaddN dX5_push_162 ?_
        refine V_putW dX5_push_163 fX5_71 ⟨Nat.le_of_ble_eq_true rfl, Nat.le_of_ble_eq_true rfl⟩ rfl rfl rfl ⟨rfl, rfl⟩ ?_
        exact V_ret ⟨rfl, dX5_push_166⟩ ⟨Nat.le_of_ble_eq_true rfl, Nat.le_of_ble_eq_true rfl⟩ (by have e : rolS (I 42) 2 (n + 1) (x) (y + 1) l = (some (8 * (y + 1) + (x)), 0) := (by rw [rolS, if_pos h68]); rw [e] at hQ; (try rw [show 8 * (0) + (x) = x from (by omega)] at hQ); rw [hI]; exact hQ)
      · skip
        refine V_aload_n dX5_push_71 rfl ?_
        refine V_bipush (v := nI 8) dX5_push_72 rfl ?_
        refine V_iload dX5_push_74 rfl ?_
        refine V_imulN dX5_push_76 ?_
        refine V_iload dX5_push_77 rfl ?_
        refine V_iaddN dX5_push_79 ?_
        refine V_callV (As := [.int (nI ((8 * (y + 1)) + x))]) (st := []) (a := 41) dX5_push_80 kX5_heightAt lX5_63 (by decide) rfl rfl (Nat.le_of_ble_eq_true rfl) ⟨Nat.le_of_ble_eq_true rfl, Nat.le_of_ble_eq_true rfl⟩ ⟨Nat.le_of_ble_eq_true rfl, Nat.le_of_ble_eq_true rfl⟩ rfl ⟨rfl, by decide⟩ (c_heightAt (by omega)) ?_
        rintro _ _ _ _ ⟨rfl, rfl, rfl, rfl⟩
        refine V_eqI (y := I 42 ((8 * (y + 1)) + x)) (by rw [hI]; rfl) ?_
        refine V_istore (ls' := [(11, .int (I 42 ((8 * (y + 1)) + x))), (0, .ref 41), (1, .int (nI x0)), (2, .int (nI y0)), (3, .int (nI 2)), (4, .int (nI p0)), (5, .int (nI 0)), (6, .int (-1)), (7, .int (nI x)), (8, .int (nI (y + 1))), (9, .int l), (10, .int (nI i))]) dX5_push_83 (by decide) rfl ?_
        refine V_iload dX5_push_85 rfl ?_
        refine V_iload dX5_push_87 rfl ?_
        refine V_iaddN dX5_push_89 ?_
        refine V_eqI (y := nI (x)) rfl ?_
        refine V_istore (ls' := [(7, .int (nI x)), (11, .int (I 42 ((8 * (y + 1)) + x))), (0, .ref 41), (1, .int (nI x0)), (2, .int (nI y0)), (3, .int (nI 2)), (4, .int (nI p0)), (5, .int (nI 0)), (6, .int (-1)), (8, .int (nI (y + 1))), (9, .int l), (10, .int (nI i))]) dX5_push_90 (by decide) rfl ?_
        refine V_iload dX5_push_92 rfl ?_
        refine V_iload dX5_push_94 rfl ?_
        refine V_iadd dX5_push_96 (V_eqI (pk_m1 y) ?_)
        refine V_istore (ls' := [(8, .int (nI y)), (7, .int (nI x)), (11, .int (I 42 ((8 * (y + 1)) + x))), (0, .ref 41), (1, .int (nI x0)), (2, .int (nI y0)), (3, .int (nI 2)), (4, .int (nI p0)), (5, .int (nI 0)), (6, .int (-1)), (9, .int l), (10, .int (nI i))]) dX5_push_97 (by decide) rfl ?_
        refine V_iload dX5_push_99 rfl ?_
        refine V_iload dX5_push_101 rfl ?_
        refine V_callS (As := [.int (nI x), .int (nI y)]) (st := []) dX5_push_103 kX11_isSpot lX5_67 (by decide) rfl rfl (Nat.le_of_ble_eq_true rfl) ⟨Nat.le_of_ble_eq_true rfl, Nat.le_of_ble_eq_true rfl⟩ (c_isSpot (by omega) (by omega)) ?_
        rintro _ _ _ _ ⟨rfl, rfl, rfl, rfl⟩
        refine V_eqI (y := nI 1) (congrArg nI (if_pos (by omega))) ?_
        refine V_if_ne (tgt := 116) dX5_push_106 rfl (fun _ => ?_) (fun h => absurd h (by decide))
        refine V_iload dX5_push_116 rfl ?_
        refine V_iload dX5_push_118 rfl ?_
        refine V_aload_n dX5_push_120 rfl ?_
        refine V_bipush (v := nI 8) dX5_push_121 rfl ?_
        refine V_iload dX5_push_123 rfl ?_
        refine V_imulN dX5_push_125 ?_
        refine V_iload dX5_push_126 rfl ?_
        refine V_iaddN dX5_push_128 ?_
        refine V_callV (As := [.int (nI ((8 * y) + x))]) (st := [.int (I 42 ((8 * (y + 1)) + x)), .int l]) (a := 41) dX5_push_129 kX5_heightAt lX5_63 (by decide) rfl rfl (Nat.le_of_ble_eq_true rfl) ⟨Nat.le_of_ble_eq_true rfl, Nat.le_of_ble_eq_true rfl⟩ ⟨Nat.le_of_ble_eq_true rfl, Nat.le_of_ble_eq_true rfl⟩ rfl ⟨rfl, by decide⟩ (c_heightAt (by omega)) ?_
        rintro _ _ _ _ ⟨rfl, rfl, rfl, rfl⟩
        refine V_eqI (y := I 42 ((8 * y) + x)) (by rw [hI]; rfl) ?_
        refine V_isub dX5_push_132 ?_
        refine V_iconst (v := nI 1) dX5_push_133 rfl ?_
        refine V_isub dX5_push_134 ?_
        refine V_iadd dX5_push_135 ?_
        refine V_istore (ls' := [(9, .int (l + (((I 42 ((8 * (y + 1)) + x)) - (I 42 ((8 * y) + x))) - (nI 1)))), (8, .int (nI y)), (7, .int (nI x)), (11, .int (I 42 ((8 * (y + 1)) + x))), (0, .ref 41), (1, .int (nI x0)), (2, .int (nI y0)), (3, .int (nI 2)), (4, .int (nI p0)), (5, .int (nI 0)), (6, .int (-1)), (10, .int (nI i))]) dX5_push_136 (by decide) rfl ?_
        refine V_aload_n dX5_push_138 rfl ?_
        refine V_dup dX5_push_139 rfl ?_
        refine V_getI dX5_push_140 fX5_60 ⟨Nat.le_of_ble_eq_true rfl, Nat.le_of_ble_eq_true rfl⟩ rfl rfl ?_
        refine V_eqI (y := nI i) (by rw [hI]; exact zwr_at.trans (if_pos ⟨rfl, rfl⟩)) ?_
        refine V_iconst (v := nI 1) dX5_push_143 rfl ?_
        refine V_iaddN dX5_push_144 ?_
        refine V_putW dX5_push_145 fX5_60 ⟨Nat.le_of_ble_eq_true rfl, Nat.le_of_ble_eq_true rfl⟩ rfl rfl rfl ⟨rfl, rfl⟩ ?_
        refine V_iincN (ls' := [(10, .int (nI (i + 1))), (9, .int (l + (((I 42 ((8 * (y + 1)) + x)) - (I 42 ((8 * y) + x))) - (nI 1)))), (8, .int (nI y)), (7, .int (nI x)), (11, .int (I 42 ((8 * (y + 1)) + x))), (0, .ref 41), (1, .int (nI x0)), (2, .int (nI y0)), (3, .int (nI 2)), (4, .int (nI p0)), (5, .int (nI 0)), (6, .int (-1))]) (n := 1) dX5_push_148 rfl rfl (by decide) (by decide) rfl ?_
        refine V_goto (tgt := 59) dX5_push_151 rfl ?_
        refine V_sub2 (ls' := [(0, .ref 41), (1, .int (nI x0)), (2, .int (nI y0)), (3, .int (nI 2)), (4, .int (nI p0)), (5, .int (nI 0)), (6, .int (-1)), (7, .int (nI x)), (8, .int (nI y)), (9, .int (l + (((I 42 ((8 * (y + 1)) + x)) - (I 42 ((8 * y) + x))) - (nI 1)))), (10, .int (nI (i + 1)))]) (List.forall_mem_cons.mpr ⟨rfl, List.forall_mem_cons.mpr ⟨rfl, List.forall_mem_cons.mpr ⟨rfl, List.forall_mem_cons.mpr ⟨rfl, List.forall_mem_cons.mpr ⟨rfl, List.forall_mem_cons.mpr ⟨rfl, List.forall_mem_cons.mpr ⟨rfl, List.forall_mem_cons.mpr ⟨rfl, List.forall_mem_cons.mpr ⟨rfl, List.forall_mem_cons.mpr ⟨rfl, List.forall_mem_cons.mpr ⟨rfl, fun _ h => absurd h List.not_mem_nil⟩⟩⟩⟩⟩⟩⟩⟩⟩⟩⟩) ?_
        refine ih (i + 1) (x) (y) _ _ Q (by omega) (by omega) (by omega) (by rw [hI]; exact zwr_zwr _ _ _ _ _) ?_
        have e : rolS (I 42) 2 (n + 1) (x) (y + 1) l = ((rolS (I 42) 2 n (x) (y) (l + (I 42 (8 * (y + 1) + (x)) - I 42 (8 * (y) + (x)) - nI 1))).1, (rolS (I 42) 2 n (x) (y) (l + (I 42 (8 * (y + 1) + (x)) - I 42 (8 * (y) + (x)) - nI 1))).2 + 1) := by
          rw [rolS, if_neg h68, show rst 2 (x) (y + 1) = some (x, y) from by simp [rst]]
        rw [e] at hQ
        have e2 : ∀ z, i + 1 + z = i + (z + 1) := fun z => by omega
        rw [e2]
        exact hQ

set_option maxRecDepth 100000 in
set_option maxHeartbeats 4000000 in
theorem c_push2 {G : zG} {I : zI} {J : zJ} {x y p : Nat} (hx : x < 8) (hy : y < 8) : zK G mX5_push 2 [.ref 41, .int (nI x), .int (nI y), .int (nI 2), .int (nI p)] zsh I J (zA2 (fun I' J' => I' = zwr (zwr I 41 4 (nI (rolS (I 42) 2 8 x y (nI p)).2)) 41 3 (fen (rolS (I 42) 2 8 x y (nI p)).1) ∧ J = J')) := by
  refine zK_of kX5_push.2.2.2.2.1 (Nat.le_of_ble_eq_true rfl) ?_
  show V G mX5_push 2 _ 0 [(0, .ref 41), (1, .int (nI x)), (2, .int (nI y)), (3, .int (nI 2)), (4, .int (nI p))] [] (0, 0) zsh I J
  refine V_iload_n dX5_push_0 rfl ?_
  refine V_iconst (v := nI 1) dX5_push_1 rfl ?_
  refine V_icmp_ne (tgt := 9) dX5_push_2 rfl (fun _ => ?_) (fun h => absurd h (by decide))
  refine V_iload_n dX5_push_9 rfl ?_
  refine V_iconst (v := nI 3) dX5_push_10 rfl ?_
  refine V_icmp_ne (tgt := 18) dX5_push_11 rfl (fun _ => ?_) (fun h => absurd h (by decide))
  refine V_iconst (v := nI 0) dX5_push_18 rfl ?_
  refine V_istore (ls' := [(5, .int (nI 0)), (0, .ref 41), (1, .int (nI x)), (2, .int (nI y)), (3, .int (nI 2)), (4, .int (nI p))]) dX5_push_19 (by decide) rfl ?_
  refine V_iload_n dX5_push_21 rfl ?_
  refine V_if_ne (tgt := 29) dX5_push_22 rfl (fun _ => ?_) (fun h => absurd h (by decide))
  refine V_iload_n dX5_push_29 rfl ?_
  refine V_iconst (v := nI 2) dX5_push_30 rfl ?_
  refine V_icmp_ne (tgt := 38) dX5_push_31 rfl (fun h => absurd h (by decide)) (fun _ => ?_)
  refine V_iconst (v := (-1)) dX5_push_34 rfl ?_
  refine V_goto (tgt := 39) dX5_push_35 rfl ?_
  refine V_istore (ls' := [(6, .int (-1)), (5, .int (nI 0)), (0, .ref 41), (1, .int (nI x)), (2, .int (nI y)), (3, .int (nI 2)), (4, .int (nI p))]) dX5_push_39 (by decide) rfl ?_
  refine V_iload_n dX5_push_41 rfl ?_
  refine V_istore (ls' := [(7, .int (nI x)), (6, .int (-1)), (5, .int (nI 0)), (0, .ref 41), (1, .int (nI x)), (2, .int (nI y)), (3, .int (nI 2)), (4, .int (nI p))]) dX5_push_42 (by decide) rfl ?_
  refine V_iload_n dX5_push_44 rfl ?_
  refine V_istore (ls' := [(8, .int (nI y)), (7, .int (nI x)), (6, .int (-1)), (5, .int (nI 0)), (0, .ref 41), (1, .int (nI x)), (2, .int (nI y)), (3, .int (nI 2)), (4, .int (nI p))]) dX5_push_45 (by decide) rfl ?_
  refine V_iload dX5_push_47 rfl ?_
  refine V_istore (ls' := [(9, .int (nI p)), (8, .int (nI y)), (7, .int (nI x)), (6, .int (-1)), (5, .int (nI 0)), (0, .ref 41), (1, .int (nI x)), (2, .int (nI y)), (3, .int (nI 2)), (4, .int (nI p))]) dX5_push_49 (by decide) rfl ?_
  refine V_aload_n dX5_push_51 rfl ?_
  refine V_iconst (v := nI 0) dX5_push_52 rfl ?_
  refine V_putW dX5_push_53 fX5_60 ⟨Nat.le_of_ble_eq_true rfl, Nat.le_of_ble_eq_true rfl⟩ rfl rfl rfl ⟨rfl, rfl⟩ ?_
  refine V_iconst (v := nI 0) dX5_push_56 rfl ?_
  refine V_istore (ls' := [(10, .int (nI 0)), (9, .int (nI p)), (8, .int (nI y)), (7, .int (nI x)), (6, .int (-1)), (5, .int (nI 0)), (0, .ref 41), (1, .int (nI x)), (2, .int (nI y)), (3, .int (nI 2)), (4, .int (nI p))]) dX5_push_57 (by decide) rfl ?_
  refine V_sub2 (ls' := [(0, .ref 41), (1, .int (nI x)), (2, .int (nI y)), (3, .int (nI 2)), (4, .int (nI p)), (5, .int (nI 0)), (6, .int (-1)), (7, .int (nI x)), (8, .int (nI y)), (9, .int (nI p)), (10, .int (nI 0))]) (List.forall_mem_cons.mpr ⟨rfl, List.forall_mem_cons.mpr ⟨rfl, List.forall_mem_cons.mpr ⟨rfl, List.forall_mem_cons.mpr ⟨rfl, List.forall_mem_cons.mpr ⟨rfl, List.forall_mem_cons.mpr ⟨rfl, List.forall_mem_cons.mpr ⟨rfl, List.forall_mem_cons.mpr ⟨rfl, List.forall_mem_cons.mpr ⟨rfl, List.forall_mem_cons.mpr ⟨rfl, List.forall_mem_cons.mpr ⟨rfl, fun _ h => absurd h List.not_mem_nil⟩⟩⟩⟩⟩⟩⟩⟩⟩⟩⟩) ?_
  refine lp_push2 8 0 x y (nI p) _ _ (by omega) hx hy rfl ⟨rfl, rfl, ?_, rfl⟩
  rw [Nat.zero_add]

set_option maxRecDepth 100000 in
set_option maxHeartbeats 4000000 in
theorem lp_push3 {G : zG} {I : zI} {J : zJ} {x0 y0 p0 : Nat} : ∀ n i x y l (I1 : zI) (Q : zQ), i + n = 8 → x < 8 → y < 8 → I1 = zwr I 41 4 (nI i) → (Q none zsh (zwr (zwr I 41 4 (nI (i + (rolS (I 42) 3 n x y l).2))) 41 3 (fen (rolS (I 42) 3 n x y l).1)) J) → V G mX5_push 2 Q 59 [(0, .ref 41), (1, .int (nI x0)), (2, .int (nI y0)), (3, .int (nI 3)), (4, .int (nI p0)), (5, .int (-1)), (6, .int (nI 0)), (7, .int (nI x)), (8, .int (nI y)), (9, .int l), (10, .int (nI i))] [] (0, 0) zsh I1 J := by
  intro n
  induction n with
  | zero =>
    intro i x y l I1 Q hi hx hy hI hQ
    refine V_iload dX5_push_59 rfl ?_
    refine V_bipush (v := nI 8) dX5_push_61 rfl ?_
    refine V_icmp_geN (tgt := 154) dX5_push_63 rfl (by omega) (by omega) (fun _ => ?_) (fun h => absurd h (by omega))
    refine V_aload_n dX5_push_154 rfl ?_
    refine V_bipush (v := nI 8) dX5_push_155 rfl ?_
    refine V_iload dX5_push_157 rfl ?_
    refine V_imulN dX5_push_159 ?_
    refine V_iload dX5_push_160 rfl ?_
    refine V_iaddN dX5_push_162 ?_
    refine V_putW dX5_push_163 fX5_71 ⟨Nat.le_of_ble_eq_true rfl, Nat.le_of_ble_eq_true rfl⟩ rfl rfl rfl ⟨rfl, rfl⟩ ?_
    exact V_ret ⟨rfl, dX5_push_166⟩ ⟨Nat.le_of_ble_eq_true rfl, Nat.le_of_ble_eq_true rfl⟩ (by rw [hI]; exact hQ)
  | succ n ih =>
    intro i x y l I1 Q hi hx hy hI hQ
    cases x with
    | zero =>
      refine V_iload dX5_push_59 rfl ?_
      refine V_bipush (v := nI 8) dX5_push_61 rfl ?_
      refine V_icmp_geN (tgt := 154) dX5_push_63 rfl (by omega) (by omega) (fun h => absurd h (by omega)) (fun _ => ?_)
      refine V_iload dX5_push_66 rfl ?_
      refine V_if_le (tgt := 154) dX5_push_68 rfl (fun h68 => ?_) (fun h68 => ?_)
      · skip
        refine V_aload_n dX5_push_154 rfl ?_
        refine V_bipush (v := nI 8) dX5_push_155 rfl ?_
        refine V_iload dX5_push_157 rfl ?_
        refine V_imulN dX5_push_159 ?_
        refine V_iload dX5_push_160 rfl ?_
        refine V_iaddN dX5_push_162 ?_
        refine V_eqI (y := nI (8 * y)) rfl ?_
        refine V_putW dX5_push_163 fX5_71 ⟨Nat.le_of_ble_eq_true rfl, Nat.le_of_ble_eq_true rfl⟩ rfl rfl rfl ⟨rfl, rfl⟩ ?_
        exact V_ret ⟨rfl, dX5_push_166⟩ ⟨Nat.le_of_ble_eq_true rfl, Nat.le_of_ble_eq_true rfl⟩ (by have e : rolS (I 42) 3 (n + 1) (0) (y) l = (some (8 * (y) + (0)), 0) := (by rw [rolS, if_pos h68]); rw [e] at hQ; (try rw [show 8 * (0) + (x) = x from (by omega)] at hQ); rw [hI]; exact hQ)
      · skip
        refine V_aload_n dX5_push_71 rfl ?_
        refine V_bipush (v := nI 8) dX5_push_72 rfl ?_
        refine V_iload dX5_push_74 rfl ?_
        refine V_imulN dX5_push_76 ?_
        refine V_iload dX5_push_77 rfl ?_
        refine V_iaddN dX5_push_79 ?_
        refine V_eqI (y := nI (8 * y)) rfl ?_
        refine V_callV (As := [.int (nI (8 * y))]) (st := []) (a := 41) dX5_push_80 kX5_heightAt lX5_63 (by decide) rfl rfl (Nat.le_of_ble_eq_true rfl) ⟨Nat.le_of_ble_eq_true rfl, Nat.le_of_ble_eq_true rfl⟩ ⟨Nat.le_of_ble_eq_true rfl, Nat.le_of_ble_eq_true rfl⟩ rfl ⟨rfl, by decide⟩ (c_heightAt (by omega)) ?_
        rintro _ _ _ _ ⟨rfl, rfl, rfl, rfl⟩
        refine V_eqI (y := I 42 (8 * y)) (by rw [hI]; rfl) ?_
        refine V_istore (ls' := [(11, .int (I 42 (8 * y))), (0, .ref 41), (1, .int (nI x0)), (2, .int (nI y0)), (3, .int (nI 3)), (4, .int (nI p0)), (5, .int (-1)), (6, .int (nI 0)), (7, .int (nI 0)), (8, .int (nI y)), (9, .int l), (10, .int (nI i))]) dX5_push_83 (by decide) rfl ?_
        refine V_iload dX5_push_85 rfl ?_
        refine V_iload dX5_push_87 rfl ?_
        refine V_iadd dX5_push_89 (V_eqI (y := (-1)) (by decide) ?_)
        refine V_istore (ls' := [(7, .int (-1)), (11, .int (I 42 (8 * y))), (0, .ref 41), (1, .int (nI x0)), (2, .int (nI y0)), (3, .int (nI 3)), (4, .int (nI p0)), (5, .int (-1)), (6, .int (nI 0)), (8, .int (nI y)), (9, .int l), (10, .int (nI i))]) dX5_push_90 (by decide) rfl ?_
        refine V_iload dX5_push_92 rfl ?_
        refine V_iload dX5_push_94 rfl ?_
        refine V_iaddN dX5_push_96 ?_
        refine V_eqI (y := nI (y)) rfl ?_
        refine V_istore (ls' := [(8, .int (nI y)), (7, .int (-1)), (11, .int (I 42 (8 * y))), (0, .ref 41), (1, .int (nI x0)), (2, .int (nI y0)), (3, .int (nI 3)), (4, .int (nI p0)), (5, .int (-1)), (6, .int (nI 0)), (9, .int l), (10, .int (nI i))]) dX5_push_97 (by decide) rfl ?_
        refine V_iload dX5_push_99 rfl ?_
        refine V_iload dX5_push_101 rfl ?_
        refine V_callS (As := [.int (-1), .int (nI y)]) (st := []) dX5_push_103 kX11_isSpot lX5_67 (by decide) rfl rfl (Nat.le_of_ble_eq_true rfl) ⟨Nat.le_of_ble_eq_true rfl, Nat.le_of_ble_eq_true rfl⟩ c_isSpotX ?_
        rintro _ _ _ _ ⟨rfl, rfl, rfl, rfl⟩
        refine V_if_ne (tgt := 116) dX5_push_106 rfl (fun h => absurd h (by decide)) (fun _ => ?_)
        refine V_aload_n dX5_push_109 rfl ?_
        refine V_bipush (v := (-2)) dX5_push_110 rfl ?_
        refine V_putW dX5_push_112 fX5_71 ⟨Nat.le_of_ble_eq_true rfl, Nat.le_of_ble_eq_true rfl⟩ rfl rfl rfl ⟨rfl, rfl⟩ ?_
        exact V_ret ⟨rfl, dX5_push_115⟩ ⟨Nat.le_of_ble_eq_true rfl, Nat.le_of_ble_eq_true rfl⟩ (by have e : rolS (I 42) 3 (n + 1) (0) (y) l = (none, 0) := (by rw [rolS, if_neg h68, show rst 3 (0) (y) = none from by simp [rst]]); rw [e] at hQ; rw [hI]; exact hQ)
    | succ x =>
      refine V_iload dX5_push_59 rfl ?_
      refine V_bipush (v := nI 8) dX5_push_61 rfl ?_
      refine V_icmp_geN (tgt := 154) dX5_push_63 rfl (by omega) (by omega) (fun h => absurd h (by omega)) (fun _ => ?_)
      refine V_iload dX5_push_66 rfl ?_
      refine V_if_le (tgt := 154) dX5_push_68 rfl (fun h68 => ?_) (fun h68 => ?_)
      · skip
        refine V_aload_n dX5_push_154 rfl ?_
        refine V_bipush (v := nI 8) dX5_push_155 rfl ?_
        refine V_iload dX5_push_157 rfl ?_
        refine V_imulN dX5_push_159 ?_
        refine V_iload dX5_push_160 rfl ?_
        refine V_iaddN dX5_push_162 ?_
        refine V_putW dX5_push_163 fX5_71 ⟨Nat.le_of_ble_eq_true rfl, Nat.le_of_ble_eq_true rfl⟩ rfl rfl rfl ⟨rfl, rfl⟩ ?_
        exact V_ret ⟨rfl, dX5_push_166⟩ ⟨Nat.le_of_ble_eq_true rfl, Nat.le_of_ble_eq_true rfl⟩ (by have e : rolS (I 42) 3 (n + 1) (x + 1) (y) l = (some (8 * (y) + (x + 1)), 0) := (by rw [rolS, if_pos h68]); rw [e] at hQ; (try rw [show 8 * (0) + (x) = x from (by omega)] at hQ); rw [hI]; exact hQ)
      · skip
        refine V_aload_n dX5_push_71 rfl ?_
        refine V_bipush (v := nI 8) dX5_push_72 rfl ?_
        refine V_iload dX5_push_74 rfl ?_
        refine V_imulN dX5_push_76 ?_
        refine V_iload dX5_push_77 rfl ?_
        refine V_iaddN dX5_push_79 ?_
        refine V_callV (As := [.int (nI ((8 * y) + (x + 1)))]) (st := []) (a := 41) dX5_push_80 kX5_heightAt lX5_63 (by decide) rfl rfl (Nat.le_of_ble_eq_true rfl) ⟨Nat.le_of_ble_eq_true rfl, Nat.le_of_ble_eq_true rfl⟩ ⟨Nat.le_of_ble_eq_true rfl, Nat.le_of_ble_eq_true rfl⟩ rfl ⟨rfl, by decide⟩ (c_heightAt (by omega)) ?_
        rintro _ _ _ _ ⟨rfl, rfl, rfl, rfl⟩
        refine V_eqI (y := I 42 ((8 * y) + (x + 1))) (by rw [hI]; rfl) ?_
        refine V_istore (ls' := [(11, .int (I 42 ((8 * y) + (x + 1)))), (0, .ref 41), (1, .int (nI x0)), (2, .int (nI y0)), (3, .int (nI 3)), (4, .int (nI p0)), (5, .int (-1)), (6, .int (nI 0)), (7, .int (nI (x + 1))), (8, .int (nI y)), (9, .int l), (10, .int (nI i))]) dX5_push_83 (by decide) rfl ?_
        refine V_iload dX5_push_85 rfl ?_
        refine V_iload dX5_push_87 rfl ?_
        refine V_iadd dX5_push_89 (V_eqI (pk_m1 x) ?_)
        refine V_istore (ls' := [(7, .int (nI x)), (11, .int (I 42 ((8 * y) + (x + 1)))), (0, .ref 41), (1, .int (nI x0)), (2, .int (nI y0)), (3, .int (nI 3)), (4, .int (nI p0)), (5, .int (-1)), (6, .int (nI 0)), (8, .int (nI y)), (9, .int l), (10, .int (nI i))]) dX5_push_90 (by decide) rfl ?_
        refine V_iload dX5_push_92 rfl ?_
        refine V_iload dX5_push_94 rfl ?_
        refine V_iaddN dX5_push_96 ?_
        refine V_eqI (y := nI (y)) rfl ?_
        refine V_istore (ls' := [(8, .int (nI y)), (7, .int (nI x)), (11, .int (I 42 ((8 * y) + (x + 1)))), (0, .ref 41), (1, .int (nI x0)), (2, .int (nI y0)), (3, .int (nI 3)), (4, .int (nI p0)), (5, .int (-1)), (6, .int (nI 0)), (9, .int l), (10, .int (nI i))]) dX5_push_97 (by decide) rfl ?_
        refine V_iload dX5_push_99 rfl ?_
        refine V_iload dX5_push_101 rfl ?_
        refine V_callS (As := [.int (nI x), .int (nI y)]) (st := []) dX5_push_103 kX11_isSpot lX5_67 (by decide) rfl rfl (Nat.le_of_ble_eq_true rfl) ⟨Nat.le_of_ble_eq_true rfl, Nat.le_of_ble_eq_true rfl⟩ (c_isSpot (by omega) (by omega)) ?_
        rintro _ _ _ _ ⟨rfl, rfl, rfl, rfl⟩
        refine V_eqI (y := nI 1) (congrArg nI (if_pos (by omega))) ?_
        refine V_if_ne (tgt := 116) dX5_push_106 rfl (fun _ => ?_) (fun h => absurd h (by decide))
        refine V_iload dX5_push_116 rfl ?_
        refine V_iload dX5_push_118 rfl ?_
        refine V_aload_n dX5_push_120 rfl ?_
        refine V_bipush (v := nI 8) dX5_push_121 rfl ?_
        refine V_iload dX5_push_123 rfl ?_
        refine V_imulN dX5_push_125 ?_
        refine V_iload dX5_push_126 rfl ?_
        refine V_iaddN dX5_push_128 ?_
        refine V_callV (As := [.int (nI ((8 * y) + x))]) (st := [.int (I 42 ((8 * y) + (x + 1))), .int l]) (a := 41) dX5_push_129 kX5_heightAt lX5_63 (by decide) rfl rfl (Nat.le_of_ble_eq_true rfl) ⟨Nat.le_of_ble_eq_true rfl, Nat.le_of_ble_eq_true rfl⟩ ⟨Nat.le_of_ble_eq_true rfl, Nat.le_of_ble_eq_true rfl⟩ rfl ⟨rfl, by decide⟩ (c_heightAt (by omega)) ?_
        rintro _ _ _ _ ⟨rfl, rfl, rfl, rfl⟩
        refine V_eqI (y := I 42 ((8 * y) + x)) (by rw [hI]; rfl) ?_
        refine V_isub dX5_push_132 ?_
        refine V_iconst (v := nI 1) dX5_push_133 rfl ?_
        refine V_isub dX5_push_134 ?_
        refine V_iadd dX5_push_135 ?_
        refine V_istore (ls' := [(9, .int (l + (((I 42 ((8 * y) + (x + 1))) - (I 42 ((8 * y) + x))) - (nI 1)))), (8, .int (nI y)), (7, .int (nI x)), (11, .int (I 42 ((8 * y) + (x + 1)))), (0, .ref 41), (1, .int (nI x0)), (2, .int (nI y0)), (3, .int (nI 3)), (4, .int (nI p0)), (5, .int (-1)), (6, .int (nI 0)), (10, .int (nI i))]) dX5_push_136 (by decide) rfl ?_
        refine V_aload_n dX5_push_138 rfl ?_
        refine V_dup dX5_push_139 rfl ?_
        refine V_getI dX5_push_140 fX5_60 ⟨Nat.le_of_ble_eq_true rfl, Nat.le_of_ble_eq_true rfl⟩ rfl rfl ?_
        refine V_eqI (y := nI i) (by rw [hI]; exact zwr_at.trans (if_pos ⟨rfl, rfl⟩)) ?_
        refine V_iconst (v := nI 1) dX5_push_143 rfl ?_
        refine V_iaddN dX5_push_144 ?_
        refine V_putW dX5_push_145 fX5_60 ⟨Nat.le_of_ble_eq_true rfl, Nat.le_of_ble_eq_true rfl⟩ rfl rfl rfl ⟨rfl, rfl⟩ ?_
        refine V_iincN (ls' := [(10, .int (nI (i + 1))), (9, .int (l + (((I 42 ((8 * y) + (x + 1))) - (I 42 ((8 * y) + x))) - (nI 1)))), (8, .int (nI y)), (7, .int (nI x)), (11, .int (I 42 ((8 * y) + (x + 1)))), (0, .ref 41), (1, .int (nI x0)), (2, .int (nI y0)), (3, .int (nI 3)), (4, .int (nI p0)), (5, .int (-1)), (6, .int (nI 0))]) (n := 1) dX5_push_148 rfl rfl (by decide) (by decide) rfl ?_
        refine V_goto (tgt := 59) dX5_push_151 rfl ?_
        refine V_sub2 (ls' := [(0, .ref 41), (1, .int (nI x0)), (2, .int (nI y0)), (3, .int (nI 3)), (4, .int (nI p0)), (5, .int (-1)), (6, .int (nI 0)), (7, .int (nI x)), (8, .int (nI y)), (9, .int (l + (((I 42 ((8 * y) + (x + 1))) - (I 42 ((8 * y) + x))) - (nI 1)))), (10, .int (nI (i + 1)))]) (List.forall_mem_cons.mpr ⟨rfl, List.forall_mem_cons.mpr ⟨rfl, List.forall_mem_cons.mpr ⟨rfl, List.forall_mem_cons.mpr ⟨rfl, List.forall_mem_cons.mpr ⟨rfl, List.forall_mem_cons.mpr ⟨rfl, List.forall_mem_cons.mpr ⟨rfl, List.forall_mem_cons.mpr ⟨rfl, List.forall_mem_cons.mpr ⟨rfl, List.forall_mem_cons.mpr ⟨rfl, List.forall_mem_cons.mpr ⟨rfl, fun _ h => absurd h List.not_mem_nil⟩⟩⟩⟩⟩⟩⟩⟩⟩⟩⟩) ?_
        refine ih (i + 1) (x) (y) _ _ Q (by omega) (by omega) (by omega) (by rw [hI]; exact zwr_zwr _ _ _ _ _) ?_
        have e : rolS (I 42) 3 (n + 1) (x + 1) (y) l = ((rolS (I 42) 3 n (x) (y) (l + (I 42 (8 * (y) + (x + 1)) - I 42 (8 * (y) + (x)) - nI 1))).1, (rolS (I 42) 3 n (x) (y) (l + (I 42 (8 * (y) + (x + 1)) - I 42 (8 * (y) + (x)) - nI 1))).2 + 1) := by
          rw [rolS, if_neg h68, show rst 3 (x + 1) (y) = some (x, y) from by simp [rst]]
        rw [e] at hQ
        have e2 : ∀ z, i + 1 + z = i + (z + 1) := fun z => by omega
        rw [e2]
        exact hQ

set_option maxRecDepth 100000 in
set_option maxHeartbeats 4000000 in
theorem c_push3 {G : zG} {I : zI} {J : zJ} {x y p : Nat} (hx : x < 8) (hy : y < 8) : zK G mX5_push 2 [.ref 41, .int (nI x), .int (nI y), .int (nI 3), .int (nI p)] zsh I J (zA2 (fun I' J' => I' = zwr (zwr I 41 4 (nI (rolS (I 42) 3 8 x y (nI p)).2)) 41 3 (fen (rolS (I 42) 3 8 x y (nI p)).1) ∧ J = J')) := by
  refine zK_of kX5_push.2.2.2.2.1 (Nat.le_of_ble_eq_true rfl) ?_
  show V G mX5_push 2 _ 0 [(0, .ref 41), (1, .int (nI x)), (2, .int (nI y)), (3, .int (nI 3)), (4, .int (nI p))] [] (0, 0) zsh I J
  refine V_iload_n dX5_push_0 rfl ?_
  refine V_iconst (v := nI 1) dX5_push_1 rfl ?_
  refine V_icmp_ne (tgt := 9) dX5_push_2 rfl (fun _ => ?_) (fun h => absurd h (by decide))
  refine V_iload_n dX5_push_9 rfl ?_
  refine V_iconst (v := nI 3) dX5_push_10 rfl ?_
  refine V_icmp_ne (tgt := 18) dX5_push_11 rfl (fun h => absurd h (by decide)) (fun _ => ?_)
  refine V_iconst (v := (-1)) dX5_push_14 rfl ?_
  refine V_goto (tgt := 19) dX5_push_15 rfl ?_
  refine V_istore (ls' := [(5, .int (-1)), (0, .ref 41), (1, .int (nI x)), (2, .int (nI y)), (3, .int (nI 3)), (4, .int (nI p))]) dX5_push_19 (by decide) rfl ?_
  refine V_iload_n dX5_push_21 rfl ?_
  refine V_if_ne (tgt := 29) dX5_push_22 rfl (fun _ => ?_) (fun h => absurd h (by decide))
  refine V_iload_n dX5_push_29 rfl ?_
  refine V_iconst (v := nI 2) dX5_push_30 rfl ?_
  refine V_icmp_ne (tgt := 38) dX5_push_31 rfl (fun _ => ?_) (fun h => absurd h (by decide))
  refine V_iconst (v := nI 0) dX5_push_38 rfl ?_
  refine V_istore (ls' := [(6, .int (nI 0)), (5, .int (-1)), (0, .ref 41), (1, .int (nI x)), (2, .int (nI y)), (3, .int (nI 3)), (4, .int (nI p))]) dX5_push_39 (by decide) rfl ?_
  refine V_iload_n dX5_push_41 rfl ?_
  refine V_istore (ls' := [(7, .int (nI x)), (6, .int (nI 0)), (5, .int (-1)), (0, .ref 41), (1, .int (nI x)), (2, .int (nI y)), (3, .int (nI 3)), (4, .int (nI p))]) dX5_push_42 (by decide) rfl ?_
  refine V_iload_n dX5_push_44 rfl ?_
  refine V_istore (ls' := [(8, .int (nI y)), (7, .int (nI x)), (6, .int (nI 0)), (5, .int (-1)), (0, .ref 41), (1, .int (nI x)), (2, .int (nI y)), (3, .int (nI 3)), (4, .int (nI p))]) dX5_push_45 (by decide) rfl ?_
  refine V_iload dX5_push_47 rfl ?_
  refine V_istore (ls' := [(9, .int (nI p)), (8, .int (nI y)), (7, .int (nI x)), (6, .int (nI 0)), (5, .int (-1)), (0, .ref 41), (1, .int (nI x)), (2, .int (nI y)), (3, .int (nI 3)), (4, .int (nI p))]) dX5_push_49 (by decide) rfl ?_
  refine V_aload_n dX5_push_51 rfl ?_
  refine V_iconst (v := nI 0) dX5_push_52 rfl ?_
  refine V_putW dX5_push_53 fX5_60 ⟨Nat.le_of_ble_eq_true rfl, Nat.le_of_ble_eq_true rfl⟩ rfl rfl rfl ⟨rfl, rfl⟩ ?_
  refine V_iconst (v := nI 0) dX5_push_56 rfl ?_
  refine V_istore (ls' := [(10, .int (nI 0)), (9, .int (nI p)), (8, .int (nI y)), (7, .int (nI x)), (6, .int (nI 0)), (5, .int (-1)), (0, .ref 41), (1, .int (nI x)), (2, .int (nI y)), (3, .int (nI 3)), (4, .int (nI p))]) dX5_push_57 (by decide) rfl ?_
  refine V_sub2 (ls' := [(0, .ref 41), (1, .int (nI x)), (2, .int (nI y)), (3, .int (nI 3)), (4, .int (nI p)), (5, .int (-1)), (6, .int (nI 0)), (7, .int (nI x)), (8, .int (nI y)), (9, .int (nI p)), (10, .int (nI 0))]) (List.forall_mem_cons.mpr ⟨rfl, List.forall_mem_cons.mpr ⟨rfl, List.forall_mem_cons.mpr ⟨rfl, List.forall_mem_cons.mpr ⟨rfl, List.forall_mem_cons.mpr ⟨rfl, List.forall_mem_cons.mpr ⟨rfl, List.forall_mem_cons.mpr ⟨rfl, List.forall_mem_cons.mpr ⟨rfl, List.forall_mem_cons.mpr ⟨rfl, List.forall_mem_cons.mpr ⟨rfl, List.forall_mem_cons.mpr ⟨rfl, fun _ h => absurd h List.not_mem_nil⟩⟩⟩⟩⟩⟩⟩⟩⟩⟩⟩) ?_
  refine lp_push3 8 0 x y (nI p) _ _ (by omega) hx hy rfl ⟨rfl, rfl, ?_, rfl⟩
  rw [Nat.zero_add]

/-- the distance's square of a stop from a spot -/
def lsq (s x fr y : Nat) : Nat := sqd (s % 8) x + sqd fr y
/-- of the pushes 1.. and rows 0.. looked at so far (c of them: push 1 + c / 8, row c % 8) the nearest: its square, row, push, stop -/
def layS (f : Nat → Int32) (x y : Nat) : Nat → Option (Nat × Nat × Nat × Nat)
  | 0 => none
  | c + 1 => match (rolS f 1 8 0 (c % 8) (nI (1 + c / 8))).1 with
    | none => layS f x y c
    | some s => match layS f x y c with
      | none => some (lsq s x (c % 8) y, c % 8, 1 + c / 8, s)
      | some b => if lsq s x (c % 8) y < b.1 then some (lsq s x (c % 8) y, c % 8, 1 + c / 8, s) else some b
theorem rolS_lt {f : Nat → Int32} {way : Nat} : ∀ n x y l s, x < 8 → y < 8 → (rolS f way n x y l).1 = some s → s < 64
  | 0, x, y, l, s, hx, hy, h => by cases h; omega
  | n + 1, x, y, l, s, hx, hy, h => by
    unfold rolS at h
    split at h
    · cases h; omega
    · split at h
      · cases h
      · rename_i q hq
        have hq2 : q.1 < 8 ∧ q.2 < 8 := by
          unfold rst at hq
          (repeat' split at hq) <;> first | (cases hq; constructor <;> simp <;> omega) | cases hq
        exact rolS_lt n q.1 q.2 _ s hq2.1 hq2.2 h
def lnr (r : Option (Nat × Nat × Nat × Nat)) : Int32 := match r with
  | none => -1
  | some b => nI b.1
theorem layS_lt {f : Nat → Int32} {x y : Nat} (hx : x < 8) (hy : y < 8) : ∀ c b, layS f x y c = some b → b.1 ≤ 98
  | 0, b, h => by cases h
  | c + 1, b, h => by
    have hb := fun (s : Nat) (hs : s < 64) => (show lsq s x (c % 8) y ≤ 98 from by
      have h1 := sqd_le (a := s % 8) (b := x) (n := 7) (by omega) (by omega)
      have h2 := sqd_le (a := c % 8) (b := y) (n := 7) (by omega) (by omega)
      unfold lsq
      omega)
    unfold layS at h
    split at h
    · exact layS_lt hx hy c b h
    · rename_i s hs
      have h3 := hb s (rolS_lt 8 0 (c % 8) _ s (by omega) (by omega) hs)
      split at h
      · cases h; exact h3
      · rename_i b0 hb0
        split at h
        · cases h; exact h3
        · cases h; exact layS_lt hx hy c _ hb0
def layI (I I1 : zI) (r : Option (Nat × Nat × Nat × Nat)) : Prop := (∀ a, a ≠ 41 → I1 a = I a) ∧ ∀ b, r = some b → I1 41 5 = nI b.2.1 ∧ I1 41 6 = nI b.2.2.1 ∧ I1 41 7 = nI b.2.2.2
set_option maxRecDepth 100000 in
set_option maxHeartbeats 4000000 in
theorem lp_layIn {G : zG} {I : zI} {J : zJ} {x y PP : Nat} (hx : x < 8) (hy : y < 8) (hP : PP ≤ 8) {Q : zQ} : ∀ n fr (I1 : zI), fr ≤ 8 → 8 < fr + n → layI I I1 (layS (I 42) x y (8 * PP + fr)) → (∀ I2, layI I I2 (layS (I 42) x y (8 * PP + 8)) → V G mX5_layNear 3 Q 109 [(0, .ref 41), (1, .int (nI x)), (2, .int (nI y)), (3, .int (lnr (layS (I 42) x y (8 * PP + 8)))), (4, .int (nI (1 + PP)))] [] (0, 0) zsh I2 J) → V G mX5_layNear 3 Q 15 [(0, .ref 41), (1, .int (nI x)), (2, .int (nI y)), (3, .int (lnr (layS (I 42) x y (8 * PP + fr)))), (4, .int (nI (1 + PP))), (5, .int (nI fr))] [] (0, 0) zsh I1 J := by
  intro n
  induction n with
  | zero => intros; omega
  | succ n ih =>
    intro fr I1 hf1 hf2 hI hk
    have hI42 : I1 42 = I 42 := hI.1 42 (by decide)
    rcases ho : layS (I 42) x y (8 * PP + fr) with _ | b
    · skip
      refine V_sub2 (ls' := [(0, .ref 41), (1, .int (nI x)), (2, .int (nI y)), (3, .int (-1)), (4, .int (nI (1 + PP))), (5, .int (nI fr))]) (List.forall_mem_cons.mpr ⟨rfl, List.forall_mem_cons.mpr ⟨rfl, List.forall_mem_cons.mpr ⟨rfl, List.forall_mem_cons.mpr ⟨rfl, List.forall_mem_cons.mpr ⟨rfl, List.forall_mem_cons.mpr ⟨rfl, fun _ h => absurd h List.not_mem_nil⟩⟩⟩⟩⟩⟩) ?_
      refine V_iload dX5_layNear_15 rfl ?_
      refine V_bipush (v := nI 8) dX5_layNear_17 rfl ?_
      refine V_icmp_geN (tgt := 109) dX5_layNear_19 rfl (by omega) (by omega) (fun h19 => ?_) (fun h19 => ?_)
      · skip
        have e8 : fr = 8 := by omega
        subst e8
        refine V_sub2 (ls' := [(0, .ref 41), (1, .int (nI x)), (2, .int (nI y)), (3, .int (lnr (none))), (4, .int (nI (1 + PP)))]) (List.forall_mem_cons.mpr ⟨rfl, List.forall_mem_cons.mpr ⟨rfl, List.forall_mem_cons.mpr ⟨rfl, List.forall_mem_cons.mpr ⟨rfl, List.forall_mem_cons.mpr ⟨rfl, fun _ h => absurd h List.not_mem_nil⟩⟩⟩⟩⟩) ?_
        have q := hk _ hI
        rw [ho] at q
        exact q
      · skip
        refine V_aload_n dX5_layNear_22 rfl ?_
        refine V_iconst (v := nI 0) dX5_layNear_23 rfl ?_
        refine V_iload dX5_layNear_24 rfl ?_
        refine V_iconst (v := nI 1) dX5_layNear_26 rfl ?_
        refine V_iload dX5_layNear_27 rfl ?_
        refine V_callV (As := [.int (nI 0), .int (nI fr), .int (nI 1), .int (nI (1 + PP))]) (st := []) (a := 41) dX5_layNear_29 kX5_push lX5_74 (by decide) rfl rfl (Nat.le_of_ble_eq_true rfl) ⟨Nat.le_of_ble_eq_true rfl, Nat.le_of_ble_eq_true rfl⟩ ⟨Nat.le_of_ble_eq_true rfl, Nat.le_of_ble_eq_true rfl⟩ rfl ⟨rfl, by decide⟩ (c_push1 (by omega) (by omega)) ?_
        rintro r sh' I' J' ⟨rfl, rfl, rfl, rfl⟩
        rw [hI42]
        rcases hr : (rolS (I 42) 1 8 0 fr (nI (1 + PP))).1 with _ | s
        · skip
          refine V_ii (I' := zwr (zwr I1 41 4 (nI (rolS (I 42) 1 8 0 fr (nI (1 + PP))).2)) 41 3 (-2)) rfl ?_
          refine V_aload_n dX5_layNear_32 rfl ?_
          refine V_getI dX5_layNear_33 fX5_71 ⟨Nat.le_of_ble_eq_true rfl, Nat.le_of_ble_eq_true rfl⟩ rfl rfl ?_
          refine V_eqI (y := (-2)) rfl ?_
          refine V_bipush (v := nI 8) dX5_layNear_36 rfl ?_
          refine V_irem dX5_layNear_38 (by decide) ?_
          refine V_iload_n dX5_layNear_39 rfl ?_
          refine V_isub dX5_layNear_40 ?_
          refine V_istore (ls' := [(6, .int (((-2) - (-2) / (nI 8) * (nI 8)) - (nI x))), (0, .ref 41), (1, .int (nI x)), (2, .int (nI y)), (3, .int (-1)), (4, .int (nI (1 + PP))), (5, .int (nI fr))]) dX5_layNear_41 (by decide) rfl ?_
          refine V_iload dX5_layNear_43 rfl ?_
          refine V_iload_n dX5_layNear_45 rfl ?_
          refine V_isub dX5_layNear_46 ?_
          refine V_istore (ls' := [(7, .int ((nI fr) - (nI y))), (6, .int (((-2) - (-2) / (nI 8) * (nI 8)) - (nI x))), (0, .ref 41), (1, .int (nI x)), (2, .int (nI y)), (3, .int (-1)), (4, .int (nI (1 + PP))), (5, .int (nI fr))]) dX5_layNear_47 (by decide) rfl ?_
          refine V_iload dX5_layNear_49 rfl ?_
          refine V_iload dX5_layNear_51 rfl ?_
          refine V_imul dX5_layNear_53 ?_
          refine V_iload dX5_layNear_54 rfl ?_
          refine V_iload dX5_layNear_56 rfl ?_
          refine V_imul dX5_layNear_58 (V_eqI (sqd_I fr y) ?_)
          refine V_iadd dX5_layNear_59 ?_
          refine V_istore (ls' := [(8, .int (((((-2) - (-2) / (nI 8) * (nI 8)) - (nI x)) * (((-2) - (-2) / (nI 8) * (nI 8)) - (nI x))) + (nI (sqd fr y)))), (7, .int ((nI fr) - (nI y))), (6, .int (((-2) - (-2) / (nI 8) * (nI 8)) - (nI x))), (0, .ref 41), (1, .int (nI x)), (2, .int (nI y)), (3, .int (-1)), (4, .int (nI (1 + PP))), (5, .int (nI fr))]) dX5_layNear_60 (by decide) rfl ?_
          refine V_aload_n dX5_layNear_62 rfl ?_
          refine V_getI dX5_layNear_63 fX5_71 ⟨Nat.le_of_ble_eq_true rfl, Nat.le_of_ble_eq_true rfl⟩ rfl rfl ?_
          refine V_eqI (y := (-2)) rfl ?_
          refine V_if_lt (tgt := 103) dX5_layNear_66 rfl (fun _ => ?_) (fun h => absurd h (by decide))
          refine V_iincN (ls' := [(5, .int (nI (fr + 1))), (8, .int (((((-2) - (-2) / (nI 8) * (nI 8)) - (nI x)) * (((-2) - (-2) / (nI 8) * (nI 8)) - (nI x))) + (nI (sqd fr y)))), (7, .int ((nI fr) - (nI y))), (6, .int (((-2) - (-2) / (nI 8) * (nI 8)) - (nI x))), (0, .ref 41), (1, .int (nI x)), (2, .int (nI y)), (3, .int (-1)), (4, .int (nI (1 + PP)))]) (n := 1) dX5_layNear_103 rfl rfl (by decide) (by decide) rfl ?_
          refine V_goto (tgt := 15) dX5_layNear_106 rfl ?_
          have hc1 : (8 * PP + fr) % 8 = fr := by omega
          have hc2 : (8 * PP + fr) / 8 = PP := by omega
          have e : layS (I 42) x y (8 * PP + (fr + 1)) = layS (I 42) x y (8 * PP + fr) := by rw [show 8 * PP + (fr + 1) = 8 * PP + fr + 1 from rfl, layS, hc1, hc2, hr]
          refine V_sub2 (ls' := [(0, .ref 41), (1, .int (nI x)), (2, .int (nI y)), (3, .int (lnr none)), (4, .int (nI (1 + PP))), (5, .int (nI (fr + 1)))]) (List.forall_mem_cons.mpr ⟨rfl, List.forall_mem_cons.mpr ⟨rfl, List.forall_mem_cons.mpr ⟨rfl, List.forall_mem_cons.mpr ⟨rfl, List.forall_mem_cons.mpr ⟨rfl, List.forall_mem_cons.mpr ⟨rfl, fun _ h => absurd h List.not_mem_nil⟩⟩⟩⟩⟩⟩) ?_
          have q := ih (fr + 1) (zwr (zwr I1 41 4 (nI (rolS (I 42) 1 8 0 fr (nI (1 + PP))).2)) 41 3 (-2)) (by omega) (by omega) ⟨fun a ha => by rw [← hI.1 a ha]; funext j; simp [zwr_at, ha], fun b hb => by rw [e] at hb; have h9 := hI.2 b hb; exact ⟨h9.1, h9.2.1, h9.2.2⟩⟩ hk
          rw [e, ho] at q
          exact q
        · skip
          refine V_ii (I' := zwr (zwr I1 41 4 (nI (rolS (I 42) 1 8 0 fr (nI (1 + PP))).2)) 41 3 (nI s)) rfl ?_
          have hs := rolS_lt 8 0 fr _ s (by omega) (by omega) hr
          have hq1 := sqd_le (a := s % 8) (b := x) (n := 7) (by omega) (by omega)
          have hq2 := sqd_le (a := fr) (b := y) (n := 7) (by omega) (by omega)
          refine V_aload_n dX5_layNear_32 rfl ?_
          refine V_getI dX5_layNear_33 fX5_71 ⟨Nat.le_of_ble_eq_true rfl, Nat.le_of_ble_eq_true rfl⟩ rfl rfl ?_
          refine V_eqI (y := nI s) rfl ?_
          refine V_bipush (v := nI 8) dX5_layNear_36 rfl ?_
          refine V_iremN dX5_layNear_38 (by omega) (by omega) (by omega) ?_
          refine V_iload_n dX5_layNear_39 rfl ?_
          refine V_isub dX5_layNear_40 ?_
          refine V_istore (ls' := [(6, .int ((nI (s % 8)) - (nI x))), (0, .ref 41), (1, .int (nI x)), (2, .int (nI y)), (3, .int (-1)), (4, .int (nI (1 + PP))), (5, .int (nI fr))]) dX5_layNear_41 (by decide) rfl ?_
          refine V_iload dX5_layNear_43 rfl ?_
          refine V_iload_n dX5_layNear_45 rfl ?_
          refine V_isub dX5_layNear_46 ?_
          refine V_istore (ls' := [(7, .int ((nI fr) - (nI y))), (6, .int ((nI (s % 8)) - (nI x))), (0, .ref 41), (1, .int (nI x)), (2, .int (nI y)), (3, .int (-1)), (4, .int (nI (1 + PP))), (5, .int (nI fr))]) dX5_layNear_47 (by decide) rfl ?_
          refine V_iload dX5_layNear_49 rfl ?_
          refine V_iload dX5_layNear_51 rfl ?_
          refine V_imul dX5_layNear_53 (V_eqI (sqd_I (s % 8) x) ?_)
          refine V_iload dX5_layNear_54 rfl ?_
          refine V_iload dX5_layNear_56 rfl ?_
          refine V_imul dX5_layNear_58 (V_eqI (sqd_I fr y) ?_)
          refine V_iaddN dX5_layNear_59 ?_
          refine V_istore (ls' := [(8, .int (nI ((sqd (s % 8) x) + (sqd fr y)))), (7, .int ((nI fr) - (nI y))), (6, .int ((nI (s % 8)) - (nI x))), (0, .ref 41), (1, .int (nI x)), (2, .int (nI y)), (3, .int (-1)), (4, .int (nI (1 + PP))), (5, .int (nI fr))]) dX5_layNear_60 (by decide) rfl ?_
          refine V_aload_n dX5_layNear_62 rfl ?_
          refine V_getI dX5_layNear_63 fX5_71 ⟨Nat.le_of_ble_eq_true rfl, Nat.le_of_ble_eq_true rfl⟩ rfl rfl ?_
          refine V_eqI (y := nI s) rfl ?_
          refine V_if_ltN (tgt := 103) dX5_layNear_66 rfl (by omega) ?_
          refine V_iload_n dX5_layNear_69 rfl ?_
          refine V_iconst (v := (-1)) dX5_layNear_70 rfl ?_
          refine V_icmp_eq (tgt := 80) dX5_layNear_71 rfl (fun _ => ?_) (fun h => absurd h (by decide))
          refine V_iload dX5_layNear_80 rfl ?_
          refine V_istore_n (ls' := [(3, .int (nI ((sqd (s % 8) x) + (sqd fr y)))), (8, .int (nI ((sqd (s % 8) x) + (sqd fr y)))), (7, .int ((nI fr) - (nI y))), (6, .int ((nI (s % 8)) - (nI x))), (0, .ref 41), (1, .int (nI x)), (2, .int (nI y)), (4, .int (nI (1 + PP))), (5, .int (nI fr))]) dX5_layNear_82 (by decide) rfl ?_
          refine V_aload_n dX5_layNear_83 rfl ?_
          refine V_iload dX5_layNear_84 rfl ?_
          refine V_putW dX5_layNear_86 fX5_78 ⟨Nat.le_of_ble_eq_true rfl, Nat.le_of_ble_eq_true rfl⟩ rfl rfl rfl ⟨rfl, rfl⟩ ?_
          refine V_aload_n dX5_layNear_89 rfl ?_
          refine V_iload dX5_layNear_90 rfl ?_
          refine V_putW dX5_layNear_92 fX5_81 ⟨Nat.le_of_ble_eq_true rfl, Nat.le_of_ble_eq_true rfl⟩ rfl rfl rfl ⟨rfl, rfl⟩ ?_
          refine V_aload_n dX5_layNear_95 rfl ?_
          refine V_aload_n dX5_layNear_96 rfl ?_
          refine V_getI dX5_layNear_97 fX5_71 ⟨Nat.le_of_ble_eq_true rfl, Nat.le_of_ble_eq_true rfl⟩ rfl rfl ?_
          refine V_eqI (y := nI s) rfl ?_
          refine V_putW dX5_layNear_100 fX5_84 ⟨Nat.le_of_ble_eq_true rfl, Nat.le_of_ble_eq_true rfl⟩ rfl rfl rfl ⟨rfl, rfl⟩ ?_
          refine V_iincN (ls' := [(5, .int (nI (fr + 1))), (3, .int (nI ((sqd (s % 8) x) + (sqd fr y)))), (8, .int (nI ((sqd (s % 8) x) + (sqd fr y)))), (7, .int ((nI fr) - (nI y))), (6, .int ((nI (s % 8)) - (nI x))), (0, .ref 41), (1, .int (nI x)), (2, .int (nI y)), (4, .int (nI (1 + PP)))]) (n := 1) dX5_layNear_103 rfl rfl (by decide) (by decide) rfl ?_
          refine V_goto (tgt := 15) dX5_layNear_106 rfl ?_
          have hc1 : (8 * PP + fr) % 8 = fr := by omega
          have hc2 : (8 * PP + fr) / 8 = PP := by omega
          have e : layS (I 42) x y (8 * PP + (fr + 1)) = some (lsq s x fr y, fr, 1 + PP, s) := by rw [show 8 * PP + (fr + 1) = 8 * PP + fr + 1 from rfl, layS, hc1, hc2, hr, ho]
          refine V_sub2 (ls' := [(0, .ref 41), (1, .int (nI x)), (2, .int (nI y)), (3, .int (lnr (some (lsq s x fr y, fr, 1 + PP, s)))), (4, .int (nI (1 + PP))), (5, .int (nI (fr + 1)))]) (List.forall_mem_cons.mpr ⟨rfl, List.forall_mem_cons.mpr ⟨rfl, List.forall_mem_cons.mpr ⟨rfl, List.forall_mem_cons.mpr ⟨rfl, List.forall_mem_cons.mpr ⟨rfl, List.forall_mem_cons.mpr ⟨rfl, fun _ h => absurd h List.not_mem_nil⟩⟩⟩⟩⟩⟩) ?_
          have q := ih (fr + 1) (zwr (zwr (zwr (zwr (zwr I1 41 4 (nI (rolS (I 42) 1 8 0 fr (nI (1 + PP))).2)) 41 3 (nI s)) 41 5 (nI fr)) 41 6 (nI (1 + PP))) 41 7 (nI s)) (by omega) (by omega) ⟨fun a ha => by rw [← hI.1 a ha]; funext j; simp [zwr_at, ha], fun b hb => by rw [e] at hb; cases hb; exact ⟨rfl, rfl, rfl⟩⟩ hk
          rw [e] at q
          exact q
    · skip
      have hb98 := layS_lt hx hy _ b ho
      refine V_sub2 (ls' := [(0, .ref 41), (1, .int (nI x)), (2, .int (nI y)), (3, .int (nI b.1)), (4, .int (nI (1 + PP))), (5, .int (nI fr))]) (List.forall_mem_cons.mpr ⟨rfl, List.forall_mem_cons.mpr ⟨rfl, List.forall_mem_cons.mpr ⟨rfl, List.forall_mem_cons.mpr ⟨rfl, List.forall_mem_cons.mpr ⟨rfl, List.forall_mem_cons.mpr ⟨rfl, fun _ h => absurd h List.not_mem_nil⟩⟩⟩⟩⟩⟩) ?_
      refine V_iload dX5_layNear_15 rfl ?_
      refine V_bipush (v := nI 8) dX5_layNear_17 rfl ?_
      refine V_icmp_geN (tgt := 109) dX5_layNear_19 rfl (by omega) (by omega) (fun h19 => ?_) (fun h19 => ?_)
      · skip
        have e8 : fr = 8 := by omega
        subst e8
        refine V_sub2 (ls' := [(0, .ref 41), (1, .int (nI x)), (2, .int (nI y)), (3, .int (lnr (some b))), (4, .int (nI (1 + PP)))]) (List.forall_mem_cons.mpr ⟨rfl, List.forall_mem_cons.mpr ⟨rfl, List.forall_mem_cons.mpr ⟨rfl, List.forall_mem_cons.mpr ⟨rfl, List.forall_mem_cons.mpr ⟨rfl, fun _ h => absurd h List.not_mem_nil⟩⟩⟩⟩⟩) ?_
        have q := hk _ hI
        rw [ho] at q
        exact q
      · skip
        refine V_aload_n dX5_layNear_22 rfl ?_
        refine V_iconst (v := nI 0) dX5_layNear_23 rfl ?_
        refine V_iload dX5_layNear_24 rfl ?_
        refine V_iconst (v := nI 1) dX5_layNear_26 rfl ?_
        refine V_iload dX5_layNear_27 rfl ?_
        refine V_callV (As := [.int (nI 0), .int (nI fr), .int (nI 1), .int (nI (1 + PP))]) (st := []) (a := 41) dX5_layNear_29 kX5_push lX5_74 (by decide) rfl rfl (Nat.le_of_ble_eq_true rfl) ⟨Nat.le_of_ble_eq_true rfl, Nat.le_of_ble_eq_true rfl⟩ ⟨Nat.le_of_ble_eq_true rfl, Nat.le_of_ble_eq_true rfl⟩ rfl ⟨rfl, by decide⟩ (c_push1 (by omega) (by omega)) ?_
        rintro r sh' I' J' ⟨rfl, rfl, rfl, rfl⟩
        rw [hI42]
        rcases hr : (rolS (I 42) 1 8 0 fr (nI (1 + PP))).1 with _ | s
        · skip
          refine V_ii (I' := zwr (zwr I1 41 4 (nI (rolS (I 42) 1 8 0 fr (nI (1 + PP))).2)) 41 3 (-2)) rfl ?_
          refine V_aload_n dX5_layNear_32 rfl ?_
          refine V_getI dX5_layNear_33 fX5_71 ⟨Nat.le_of_ble_eq_true rfl, Nat.le_of_ble_eq_true rfl⟩ rfl rfl ?_
          refine V_eqI (y := (-2)) rfl ?_
          refine V_bipush (v := nI 8) dX5_layNear_36 rfl ?_
          refine V_irem dX5_layNear_38 (by decide) ?_
          refine V_iload_n dX5_layNear_39 rfl ?_
          refine V_isub dX5_layNear_40 ?_
          refine V_istore (ls' := [(6, .int (((-2) - (-2) / (nI 8) * (nI 8)) - (nI x))), (0, .ref 41), (1, .int (nI x)), (2, .int (nI y)), (3, .int (nI b.1)), (4, .int (nI (1 + PP))), (5, .int (nI fr))]) dX5_layNear_41 (by decide) rfl ?_
          refine V_iload dX5_layNear_43 rfl ?_
          refine V_iload_n dX5_layNear_45 rfl ?_
          refine V_isub dX5_layNear_46 ?_
          refine V_istore (ls' := [(7, .int ((nI fr) - (nI y))), (6, .int (((-2) - (-2) / (nI 8) * (nI 8)) - (nI x))), (0, .ref 41), (1, .int (nI x)), (2, .int (nI y)), (3, .int (nI b.1)), (4, .int (nI (1 + PP))), (5, .int (nI fr))]) dX5_layNear_47 (by decide) rfl ?_
          refine V_iload dX5_layNear_49 rfl ?_
          refine V_iload dX5_layNear_51 rfl ?_
          refine V_imul dX5_layNear_53 ?_
          refine V_iload dX5_layNear_54 rfl ?_
          refine V_iload dX5_layNear_56 rfl ?_
          refine V_imul dX5_layNear_58 (V_eqI (sqd_I fr y) ?_)
          refine V_iadd dX5_layNear_59 ?_
          refine V_istore (ls' := [(8, .int (((((-2) - (-2) / (nI 8) * (nI 8)) - (nI x)) * (((-2) - (-2) / (nI 8) * (nI 8)) - (nI x))) + (nI (sqd fr y)))), (7, .int ((nI fr) - (nI y))), (6, .int (((-2) - (-2) / (nI 8) * (nI 8)) - (nI x))), (0, .ref 41), (1, .int (nI x)), (2, .int (nI y)), (3, .int (nI b.1)), (4, .int (nI (1 + PP))), (5, .int (nI fr))]) dX5_layNear_60 (by decide) rfl ?_
          refine V_aload_n dX5_layNear_62 rfl ?_
          refine V_getI dX5_layNear_63 fX5_71 ⟨Nat.le_of_ble_eq_true rfl, Nat.le_of_ble_eq_true rfl⟩ rfl rfl ?_
          refine V_eqI (y := (-2)) rfl ?_
          refine V_if_lt (tgt := 103) dX5_layNear_66 rfl (fun _ => ?_) (fun h => absurd h (by decide))
          refine V_iincN (ls' := [(5, .int (nI (fr + 1))), (8, .int (((((-2) - (-2) / (nI 8) * (nI 8)) - (nI x)) * (((-2) - (-2) / (nI 8) * (nI 8)) - (nI x))) + (nI (sqd fr y)))), (7, .int ((nI fr) - (nI y))), (6, .int (((-2) - (-2) / (nI 8) * (nI 8)) - (nI x))), (0, .ref 41), (1, .int (nI x)), (2, .int (nI y)), (3, .int (nI b.1)), (4, .int (nI (1 + PP)))]) (n := 1) dX5_layNear_103 rfl rfl (by decide) (by decide) rfl ?_
          refine V_goto (tgt := 15) dX5_layNear_106 rfl ?_
          have hc1 : (8 * PP + fr) % 8 = fr := by omega
          have hc2 : (8 * PP + fr) / 8 = PP := by omega
          have e : layS (I 42) x y (8 * PP + (fr + 1)) = layS (I 42) x y (8 * PP + fr) := by rw [show 8 * PP + (fr + 1) = 8 * PP + fr + 1 from rfl, layS, hc1, hc2, hr]
          refine V_sub2 (ls' := [(0, .ref 41), (1, .int (nI x)), (2, .int (nI y)), (3, .int (lnr (some b))), (4, .int (nI (1 + PP))), (5, .int (nI (fr + 1)))]) (List.forall_mem_cons.mpr ⟨rfl, List.forall_mem_cons.mpr ⟨rfl, List.forall_mem_cons.mpr ⟨rfl, List.forall_mem_cons.mpr ⟨rfl, List.forall_mem_cons.mpr ⟨rfl, List.forall_mem_cons.mpr ⟨rfl, fun _ h => absurd h List.not_mem_nil⟩⟩⟩⟩⟩⟩) ?_
          have q := ih (fr + 1) (zwr (zwr I1 41 4 (nI (rolS (I 42) 1 8 0 fr (nI (1 + PP))).2)) 41 3 (-2)) (by omega) (by omega) ⟨fun a ha => by rw [← hI.1 a ha]; funext j; simp [zwr_at, ha], fun b hb => by rw [e] at hb; have h9 := hI.2 b hb; exact ⟨h9.1, h9.2.1, h9.2.2⟩⟩ hk
          rw [e, ho] at q
          exact q
        · skip
          refine V_ii (I' := zwr (zwr I1 41 4 (nI (rolS (I 42) 1 8 0 fr (nI (1 + PP))).2)) 41 3 (nI s)) rfl ?_
          have hs := rolS_lt 8 0 fr _ s (by omega) (by omega) hr
          have hq1 := sqd_le (a := s % 8) (b := x) (n := 7) (by omega) (by omega)
          have hq2 := sqd_le (a := fr) (b := y) (n := 7) (by omega) (by omega)
          refine V_aload_n dX5_layNear_32 rfl ?_
          refine V_getI dX5_layNear_33 fX5_71 ⟨Nat.le_of_ble_eq_true rfl, Nat.le_of_ble_eq_true rfl⟩ rfl rfl ?_
          refine V_eqI (y := nI s) rfl ?_
          refine V_bipush (v := nI 8) dX5_layNear_36 rfl ?_
          refine V_iremN dX5_layNear_38 (by omega) (by omega) (by omega) ?_
          refine V_iload_n dX5_layNear_39 rfl ?_
          refine V_isub dX5_layNear_40 ?_
          refine V_istore (ls' := [(6, .int ((nI (s % 8)) - (nI x))), (0, .ref 41), (1, .int (nI x)), (2, .int (nI y)), (3, .int (nI b.1)), (4, .int (nI (1 + PP))), (5, .int (nI fr))]) dX5_layNear_41 (by decide) rfl ?_
          refine V_iload dX5_layNear_43 rfl ?_
          refine V_iload_n dX5_layNear_45 rfl ?_
          refine V_isub dX5_layNear_46 ?_
          refine V_istore (ls' := [(7, .int ((nI fr) - (nI y))), (6, .int ((nI (s % 8)) - (nI x))), (0, .ref 41), (1, .int (nI x)), (2, .int (nI y)), (3, .int (nI b.1)), (4, .int (nI (1 + PP))), (5, .int (nI fr))]) dX5_layNear_47 (by decide) rfl ?_
          refine V_iload dX5_layNear_49 rfl ?_
          refine V_iload dX5_layNear_51 rfl ?_
          refine V_imul dX5_layNear_53 (V_eqI (sqd_I (s % 8) x) ?_)
          refine V_iload dX5_layNear_54 rfl ?_
          refine V_iload dX5_layNear_56 rfl ?_
          refine V_imul dX5_layNear_58 (V_eqI (sqd_I fr y) ?_)
          refine V_iaddN dX5_layNear_59 ?_
          refine V_istore (ls' := [(8, .int (nI ((sqd (s % 8) x) + (sqd fr y)))), (7, .int ((nI fr) - (nI y))), (6, .int ((nI (s % 8)) - (nI x))), (0, .ref 41), (1, .int (nI x)), (2, .int (nI y)), (3, .int (nI b.1)), (4, .int (nI (1 + PP))), (5, .int (nI fr))]) dX5_layNear_60 (by decide) rfl ?_
          refine V_aload_n dX5_layNear_62 rfl ?_
          refine V_getI dX5_layNear_63 fX5_71 ⟨Nat.le_of_ble_eq_true rfl, Nat.le_of_ble_eq_true rfl⟩ rfl rfl ?_
          refine V_eqI (y := nI s) rfl ?_
          refine V_if_ltN (tgt := 103) dX5_layNear_66 rfl (by omega) ?_
          refine V_iload_n dX5_layNear_69 rfl ?_
          refine V_iconst (v := (-1)) dX5_layNear_70 rfl ?_
          refine V_icmp_eq (tgt := 80) dX5_layNear_71 rfl (fun h => absurd h (nI_ne_neg (by omega) (by decide))) (fun _ => ?_)
          refine V_iload dX5_layNear_74 rfl ?_
          refine V_iload_n dX5_layNear_76 rfl ?_
          refine V_icmp_geN (tgt := 103) dX5_layNear_77 rfl (by omega) (by omega) (fun h77 => ?_) (fun h77 => ?_)
          · skip
            refine V_iincN (ls' := [(5, .int (nI (fr + 1))), (8, .int (nI ((sqd (s % 8) x) + (sqd fr y)))), (7, .int ((nI fr) - (nI y))), (6, .int ((nI (s % 8)) - (nI x))), (0, .ref 41), (1, .int (nI x)), (2, .int (nI y)), (3, .int (nI b.1)), (4, .int (nI (1 + PP)))]) (n := 1) dX5_layNear_103 rfl rfl (by decide) (by decide) rfl ?_
            refine V_goto (tgt := 15) dX5_layNear_106 rfl ?_
            have hc1 : (8 * PP + fr) % 8 = fr := by omega
            have hc2 : (8 * PP + fr) / 8 = PP := by omega
            have e : layS (I 42) x y (8 * PP + (fr + 1)) = layS (I 42) x y (8 * PP + fr) := by rw [show 8 * PP + (fr + 1) = 8 * PP + fr + 1 from rfl, layS, hc1, hc2, hr, ho]; exact if_neg (by unfold lsq; omega)
            refine V_sub2 (ls' := [(0, .ref 41), (1, .int (nI x)), (2, .int (nI y)), (3, .int (lnr (some b))), (4, .int (nI (1 + PP))), (5, .int (nI (fr + 1)))]) (List.forall_mem_cons.mpr ⟨rfl, List.forall_mem_cons.mpr ⟨rfl, List.forall_mem_cons.mpr ⟨rfl, List.forall_mem_cons.mpr ⟨rfl, List.forall_mem_cons.mpr ⟨rfl, List.forall_mem_cons.mpr ⟨rfl, fun _ h => absurd h List.not_mem_nil⟩⟩⟩⟩⟩⟩) ?_
            have q := ih (fr + 1) (zwr (zwr I1 41 4 (nI (rolS (I 42) 1 8 0 fr (nI (1 + PP))).2)) 41 3 (nI s)) (by omega) (by omega) ⟨fun a ha => by rw [← hI.1 a ha]; funext j; simp [zwr_at, ha], fun b hb => by rw [e] at hb; have h9 := hI.2 b hb; exact ⟨h9.1, h9.2.1, h9.2.2⟩⟩ hk
            rw [e, ho] at q
            exact q
          · skip
            refine V_iload dX5_layNear_80 rfl ?_
            refine V_istore_n (ls' := [(3, .int (nI ((sqd (s % 8) x) + (sqd fr y)))), (8, .int (nI ((sqd (s % 8) x) + (sqd fr y)))), (7, .int ((nI fr) - (nI y))), (6, .int ((nI (s % 8)) - (nI x))), (0, .ref 41), (1, .int (nI x)), (2, .int (nI y)), (4, .int (nI (1 + PP))), (5, .int (nI fr))]) dX5_layNear_82 (by decide) rfl ?_
            refine V_aload_n dX5_layNear_83 rfl ?_
            refine V_iload dX5_layNear_84 rfl ?_
            refine V_putW dX5_layNear_86 fX5_78 ⟨Nat.le_of_ble_eq_true rfl, Nat.le_of_ble_eq_true rfl⟩ rfl rfl rfl ⟨rfl, rfl⟩ ?_
            refine V_aload_n dX5_layNear_89 rfl ?_
            refine V_iload dX5_layNear_90 rfl ?_
            refine V_putW dX5_layNear_92 fX5_81 ⟨Nat.le_of_ble_eq_true rfl, Nat.le_of_ble_eq_true rfl⟩ rfl rfl rfl ⟨rfl, rfl⟩ ?_
            refine V_aload_n dX5_layNear_95 rfl ?_
            refine V_aload_n dX5_layNear_96 rfl ?_
            refine V_getI dX5_layNear_97 fX5_71 ⟨Nat.le_of_ble_eq_true rfl, Nat.le_of_ble_eq_true rfl⟩ rfl rfl ?_
            refine V_eqI (y := nI s) rfl ?_
            refine V_putW dX5_layNear_100 fX5_84 ⟨Nat.le_of_ble_eq_true rfl, Nat.le_of_ble_eq_true rfl⟩ rfl rfl rfl ⟨rfl, rfl⟩ ?_
            refine V_iincN (ls' := [(5, .int (nI (fr + 1))), (3, .int (nI ((sqd (s % 8) x) + (sqd fr y)))), (8, .int (nI ((sqd (s % 8) x) + (sqd fr y)))), (7, .int ((nI fr) - (nI y))), (6, .int ((nI (s % 8)) - (nI x))), (0, .ref 41), (1, .int (nI x)), (2, .int (nI y)), (4, .int (nI (1 + PP)))]) (n := 1) dX5_layNear_103 rfl rfl (by decide) (by decide) rfl ?_
            refine V_goto (tgt := 15) dX5_layNear_106 rfl ?_
            have hc1 : (8 * PP + fr) % 8 = fr := by omega
            have hc2 : (8 * PP + fr) / 8 = PP := by omega
            have e : layS (I 42) x y (8 * PP + (fr + 1)) = some (lsq s x fr y, fr, 1 + PP, s) := by rw [show 8 * PP + (fr + 1) = 8 * PP + fr + 1 from rfl, layS, hc1, hc2, hr, ho]; exact if_pos (by unfold lsq; omega)
            refine V_sub2 (ls' := [(0, .ref 41), (1, .int (nI x)), (2, .int (nI y)), (3, .int (lnr (some (lsq s x fr y, fr, 1 + PP, s)))), (4, .int (nI (1 + PP))), (5, .int (nI (fr + 1)))]) (List.forall_mem_cons.mpr ⟨rfl, List.forall_mem_cons.mpr ⟨rfl, List.forall_mem_cons.mpr ⟨rfl, List.forall_mem_cons.mpr ⟨rfl, List.forall_mem_cons.mpr ⟨rfl, List.forall_mem_cons.mpr ⟨rfl, fun _ h => absurd h List.not_mem_nil⟩⟩⟩⟩⟩⟩) ?_
            have q := ih (fr + 1) (zwr (zwr (zwr (zwr (zwr I1 41 4 (nI (rolS (I 42) 1 8 0 fr (nI (1 + PP))).2)) 41 3 (nI s)) 41 5 (nI fr)) 41 6 (nI (1 + PP))) 41 7 (nI s)) (by omega) (by omega) ⟨fun a ha => by rw [← hI.1 a ha]; funext j; simp [zwr_at, ha], fun b hb => by rw [e] at hb; cases hb; exact ⟨rfl, rfl, rfl⟩⟩ hk
            rw [e] at q
            exact q

set_option maxRecDepth 100000 in
set_option maxHeartbeats 4000000 in
theorem lp_layOut {G : zG} {I : zI} {J : zJ} {x y : Nat} (hx : x < 8) (hy : y < 8) : ∀ n PP (I1 : zI), PP ≤ 9 → 9 < PP + n → layI I I1 (layS (I 42) x y (8 * PP)) → V G mX5_layNear 3 (zP (fun r I' J' => r = some (.int (nI (if (layS (I 42) x y 72).isSome = true then 1 else 0))) ∧ layI I I' (layS (I 42) x y 72) ∧ J = J')) 5 [(0, .ref 41), (1, .int (nI x)), (2, .int (nI y)), (3, .int (lnr (layS (I 42) x y (8 * PP)))), (4, .int (nI (1 + PP)))] [] (0, 0) zsh I1 J := by
  intro n
  induction n with
  | zero => intros; omega
  | succ n ih =>
    intro PP I1 hp1 hp2 hI
    refine V_iload dX5_layNear_5 rfl ?_
    refine V_bipush (v := nI 9) dX5_layNear_7 rfl ?_
    refine V_icmp_gtN (tgt := 115) dX5_layNear_9 rfl (by omega) (by omega) (fun h9 => ?_) (fun h9 => ?_)
    · skip
      rcases ho : layS (I 42) x y (8 * PP) with _ | b
      · skip
        refine V_sub2 (ls' := [(0, .ref 41), (1, .int (nI x)), (2, .int (nI y)), (3, .int (-1)), (4, .int (nI (1 + PP)))]) (List.forall_mem_cons.mpr ⟨rfl, List.forall_mem_cons.mpr ⟨rfl, List.forall_mem_cons.mpr ⟨rfl, List.forall_mem_cons.mpr ⟨rfl, List.forall_mem_cons.mpr ⟨rfl, fun _ h => absurd h List.not_mem_nil⟩⟩⟩⟩⟩) ?_
        refine V_iload_n dX5_layNear_115 rfl ?_
        refine V_iconst (v := (-1)) dX5_layNear_116 rfl ?_
        refine V_icmp_eq (tgt := 124) dX5_layNear_117 rfl (fun _ => ?_) (fun h => absurd h (by decide))
        refine V_iconst (v := nI 0) dX5_layNear_124 rfl ?_
        exact V_iret ⟨Or.inr ⟨rfl, Or.inl rfl⟩, dX5_layNear_125⟩ ⟨Nat.le_of_ble_eq_true rfl, Nat.le_of_ble_eq_true rfl⟩ ⟨rfl, by (have h9 : PP = 9 := (by omega)); subst h9; rw [ho]; rfl, by (have h9 : PP = 9 := (by omega)); subst h9; exact hI, rfl⟩
      · skip
        have hb98 := layS_lt hx hy _ b ho
        refine V_sub2 (ls' := [(0, .ref 41), (1, .int (nI x)), (2, .int (nI y)), (3, .int (nI b.1)), (4, .int (nI (1 + PP)))]) (List.forall_mem_cons.mpr ⟨rfl, List.forall_mem_cons.mpr ⟨rfl, List.forall_mem_cons.mpr ⟨rfl, List.forall_mem_cons.mpr ⟨rfl, List.forall_mem_cons.mpr ⟨rfl, fun _ h => absurd h List.not_mem_nil⟩⟩⟩⟩⟩) ?_
        refine V_iload_n dX5_layNear_115 rfl ?_
        refine V_iconst (v := (-1)) dX5_layNear_116 rfl ?_
        refine V_icmp_eq (tgt := 124) dX5_layNear_117 rfl (fun h => absurd h (nI_ne_neg (by omega) (by decide))) (fun _ => ?_)
        refine V_iconst (v := nI 1) dX5_layNear_120 rfl ?_
        refine V_goto (tgt := 125) dX5_layNear_121 rfl ?_
        exact V_iret ⟨Or.inr ⟨rfl, Or.inr rfl⟩, dX5_layNear_125⟩ ⟨Nat.le_of_ble_eq_true rfl, Nat.le_of_ble_eq_true rfl⟩ ⟨rfl, by (have h9 : PP = 9 := (by omega)); subst h9; rw [ho]; rfl, by (have h9 : PP = 9 := (by omega)); subst h9; exact hI, rfl⟩
    · skip
      refine V_iconst (v := nI 0) dX5_layNear_12 rfl ?_
      refine V_istore (ls' := [(5, .int (nI 0)), (0, .ref 41), (1, .int (nI x)), (2, .int (nI y)), (3, .int (lnr (layS (I 42) x y (8 * PP)))), (4, .int (nI (1 + PP)))]) dX5_layNear_13 (by decide) rfl ?_
      refine V_sub2 (ls' := [(0, .ref 41), (1, .int (nI x)), (2, .int (nI y)), (3, .int (lnr (layS (I 42) x y (8 * PP)))), (4, .int (nI (1 + PP))), (5, .int (nI 0))]) (List.forall_mem_cons.mpr ⟨rfl, List.forall_mem_cons.mpr ⟨rfl, List.forall_mem_cons.mpr ⟨rfl, List.forall_mem_cons.mpr ⟨rfl, List.forall_mem_cons.mpr ⟨rfl, List.forall_mem_cons.mpr ⟨rfl, fun _ h => absurd h List.not_mem_nil⟩⟩⟩⟩⟩⟩) ?_
      refine lp_layIn hx hy (by omega) 9 0 I1 (by omega) (by omega) hI (fun I2 hI2 => ?_)
      refine V_iincN (ls' := [(4, .int (nI ((1 + PP) + 1))), (0, .ref 41), (1, .int (nI x)), (2, .int (nI y)), (3, .int (lnr (layS (I 42) x y (8 * PP + 8))))]) (n := 1) dX5_layNear_109 rfl rfl (by decide) (by decide) rfl ?_
      refine V_goto (tgt := 5) dX5_layNear_112 rfl ?_
      refine V_sub2 (ls' := [(0, .ref 41), (1, .int (nI x)), (2, .int (nI y)), (3, .int (lnr (layS (I 42) x y (8 * PP + 8)))), (4, .int (nI ((1 + PP) + 1)))]) (List.forall_mem_cons.mpr ⟨rfl, List.forall_mem_cons.mpr ⟨rfl, List.forall_mem_cons.mpr ⟨rfl, List.forall_mem_cons.mpr ⟨rfl, List.forall_mem_cons.mpr ⟨rfl, fun _ h => absurd h List.not_mem_nil⟩⟩⟩⟩⟩) ?_
      exact ih (PP + 1) I2 (by omega) (by omega) hI2

set_option maxRecDepth 100000 in
set_option maxHeartbeats 4000000 in
theorem c_layNear {G : zG} {I : zI} {J : zJ} {x y : Nat} (hx : x < 8) (hy : y < 8) : zK G mX5_layNear 3 [.ref 41, .int (nI x), .int (nI y)] zsh I J (zP (fun r I' J' => r = some (.int (nI (if (layS (I 42) x y 72).isSome = true then 1 else 0))) ∧ layI I I' (layS (I 42) x y 72) ∧ J = J')) := by
  refine zK_of kX5_layNear.2.2.2.2.1 (Nat.le_of_ble_eq_true rfl) ?_
  show V G mX5_layNear 3 _ 0 [(0, .ref 41), (1, .int (nI x)), (2, .int (nI y))] [] (0, 0) zsh I J
  refine V_iconst (v := (-1)) dX5_layNear_0 rfl ?_
  refine V_istore_n (ls' := [(3, .int (-1)), (0, .ref 41), (1, .int (nI x)), (2, .int (nI y))]) dX5_layNear_1 (by decide) rfl ?_
  refine V_iconst (v := nI 1) dX5_layNear_2 rfl ?_
  refine V_istore (ls' := [(4, .int (nI 1)), (3, .int (-1)), (0, .ref 41), (1, .int (nI x)), (2, .int (nI y))]) dX5_layNear_3 (by decide) rfl ?_
  refine V_sub2 (ls' := [(0, .ref 41), (1, .int (nI x)), (2, .int (nI y)), (3, .int (-1)), (4, .int (nI 1))]) (List.forall_mem_cons.mpr ⟨rfl, List.forall_mem_cons.mpr ⟨rfl, List.forall_mem_cons.mpr ⟨rfl, List.forall_mem_cons.mpr ⟨rfl, List.forall_mem_cons.mpr ⟨rfl, fun _ h => absurd h List.not_mem_nil⟩⟩⟩⟩⟩) ?_
  exact lp_layOut hx hy 10 0 I (by omega) (by omega) ⟨fun _ _ => rfl, fun b hb => by cases hb⟩

