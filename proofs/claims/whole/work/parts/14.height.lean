/-! THE CLASS: the ground, a ball that rolls -/
theorem zwr_zwr (I : zI) (a k : Nat) (x y : Int32) : zwr (zwr I a k x) a k y = zwr I a k y := by
  funext b j
  simp only [zwr_at]
  split <;> rfl
/-- a step one way: none off the ground -/
def rst (way x y : Nat) : Option (Nat × Nat) :=
  if way = 0 then (if y + 1 < 8 then some (x, y + 1) else none) else
  if way = 1 then (if x + 1 < 8 then some (x + 1, y) else none) else
  if way = 2 then (if 0 < y then some (x, y - 1) else none) else (if 0 < x then some (x - 1, y) else none)
/-- where it stops (none: gone) and how many spots it went on -/
def rolS (f : Nat → Int32) (way : Nat) : Nat → Nat → Nat → Int32 → Option Nat × Nat
  | 0, x, y, _ => (some (8 * y + x), 0)
  | n + 1, x, y, l => if l ≤ 0 then (some (8 * y + x), 0) else match rst way x y with
    | none => (none, 0)
    | some q => ((rolS f way n q.1 q.2 (l + (f (8 * y + x) - f (8 * q.2 + q.1) - nI 1))).1, (rolS f way n q.1 q.2 (l + (f (8 * y + x) - f (8 * q.2 + q.1) - nI 1))).2 + 1)
set_option maxRecDepth 100000 in
set_option maxHeartbeats 4000000 in
theorem c_heightAt {G : zG} {I : zI} {J : zJ} {k : Nat} (hk : k < 64) : zK G mX5_heightAt 1 [.ref 41, .int (nI k)] zsh I J (zA0 (.int (I 42 k)) I J) := by
  refine zK_of kX5_heightAt.2.2.2.2.1 (Nat.le_of_ble_eq_true rfl) ?_
  show V G mX5_heightAt 1 _ 0 [(0, .ref 41), (1, .int (nI k))] [] (0, 0) zsh I J
  refine V_aload_n dX5_heightAt_0 rfl ?_
  refine V_getR (b := 42) dX5_heightAt_1 fX5_11 ⟨Nat.le_of_ble_eq_true rfl, Nat.le_of_ble_eq_true rfl⟩ rfl rfl rfl ?_
  refine V_iload_n dX5_heightAt_4 rfl ?_
  refine V_callS (As := [.ref 42, .int (nI k)]) (st := []) dX5_heightAt_5 kX11_at lX5_18 (by decide) rfl rfl (Nat.le_of_ble_eq_true rfl) ⟨Nat.le_of_ble_eq_true rfl, Nat.le_of_ble_eq_true rfl⟩ (c_at (a := 42) (n := 64) ⟨Nat.le_of_ble_eq_true rfl, Nat.le_of_ble_eq_true rfl⟩ rfl (by decide) (by omega)) ?_
  rintro _ _ _ _ ⟨rfl, rfl, rfl, rfl⟩
  exact V_iret ⟨Or.inl rfl, dX5_heightAt_8⟩ ⟨Nat.le_of_ble_eq_true rfl, Nat.le_of_ble_eq_true rfl⟩ ⟨rfl, rfl, rfl, rfl⟩

set_option maxRecDepth 100000 in
set_option maxHeartbeats 4000000 in
theorem c_isSpot {G : zG} {I : zI} {J : zJ} {x y : Nat} (hx : x < 2 ^ 31) (hy : y < 2 ^ 31) : zK G mX11_isSpot 0 [.int (nI x), .int (nI y)] zsh I J (zA0 (.int (nI (if x < 8 ∧ y < 8 then 1 else 0))) I J) := by
  refine zK_of kX11_isSpot.2.2.2.2.1 (Nat.le_of_ble_eq_true rfl) ?_
  show V G mX11_isSpot 0 _ 0 [(0, .int (nI x)), (1, .int (nI y))] [] (0, 0) zsh I J
  refine V_iload_n dX11_isSpot_0 rfl ?_
  refine V_if_ltN (tgt := 24) dX11_isSpot_1 rfl (by omega) ?_
  refine V_iload_n dX11_isSpot_4 rfl ?_
  refine V_bipush (v := nI 8) dX11_isSpot_5 rfl ?_
  refine V_icmp_geN (tgt := 24) dX11_isSpot_7 rfl (by omega) (by omega) (fun h7 => ?_) (fun h7 => ?_)
  · skip
    refine V_iconst (v := nI 0) dX11_isSpot_24 rfl ?_
    exact V_iret ⟨Or.inr ⟨rfl, Or.inl rfl⟩, dX11_isSpot_25⟩ ⟨Nat.le_of_ble_eq_true rfl, Nat.le_of_ble_eq_true rfl⟩ ⟨rfl, congrArg (fun z => some (Value.int (nI z))) (by split <;> omega), rfl, rfl⟩
  · skip
    refine V_iload_n dX11_isSpot_10 rfl ?_
    refine V_if_ltN (tgt := 24) dX11_isSpot_11 rfl (by omega) ?_
    refine V_iload_n dX11_isSpot_14 rfl ?_
    refine V_bipush (v := nI 8) dX11_isSpot_15 rfl ?_
    refine V_icmp_geN (tgt := 24) dX11_isSpot_17 rfl (by omega) (by omega) (fun h17 => ?_) (fun h17 => ?_)
    · skip
      refine V_iconst (v := nI 0) dX11_isSpot_24 rfl ?_
      exact V_iret ⟨Or.inr ⟨rfl, Or.inl rfl⟩, dX11_isSpot_25⟩ ⟨Nat.le_of_ble_eq_true rfl, Nat.le_of_ble_eq_true rfl⟩ ⟨rfl, congrArg (fun z => some (Value.int (nI z))) (by split <;> omega), rfl, rfl⟩
    · skip
      refine V_iconst (v := nI 1) dX11_isSpot_20 rfl ?_
      refine V_goto (tgt := 25) dX11_isSpot_21 rfl ?_
      exact V_iret ⟨Or.inr ⟨rfl, Or.inr rfl⟩, dX11_isSpot_25⟩ ⟨Nat.le_of_ble_eq_true rfl, Nat.le_of_ble_eq_true rfl⟩ ⟨rfl, congrArg (fun z => some (Value.int (nI z))) (by split <;> omega), rfl, rfl⟩

set_option maxRecDepth 100000 in
set_option maxHeartbeats 4000000 in
theorem c_isSpotX {G : zG} {I : zI} {J : zJ} {y : Nat} : zK G mX11_isSpot 0 [.int (-1), .int (nI y)] zsh I J (zA0 (.int (nI 0)) I J) := by
  refine zK_of kX11_isSpot.2.2.2.2.1 (Nat.le_of_ble_eq_true rfl) ?_
  show V G mX11_isSpot 0 _ 0 [(0, .int (-1)), (1, .int (nI y))] [] (0, 0) zsh I J
  refine V_iload_n dX11_isSpot_0 rfl ?_
  refine V_if_lt (tgt := 24) dX11_isSpot_1 rfl (fun _ => ?_) (fun h => absurd h (by decide))
  refine V_iconst (v := nI 0) dX11_isSpot_24 rfl ?_
  exact V_iret ⟨Or.inr ⟨rfl, Or.inl rfl⟩, dX11_isSpot_25⟩ ⟨Nat.le_of_ble_eq_true rfl, Nat.le_of_ble_eq_true rfl⟩ ⟨rfl, rfl, rfl, rfl⟩

set_option maxRecDepth 100000 in
set_option maxHeartbeats 4000000 in
theorem c_isSpotY {G : zG} {I : zI} {J : zJ} {x : Nat} (hx : x < 2 ^ 31) : zK G mX11_isSpot 0 [.int (nI x), .int (-1)] zsh I J (zA0 (.int (nI 0)) I J) := by
  refine zK_of kX11_isSpot.2.2.2.2.1 (Nat.le_of_ble_eq_true rfl) ?_
  show V G mX11_isSpot 0 _ 0 [(0, .int (nI x)), (1, .int (-1))] [] (0, 0) zsh I J
  refine V_iload_n dX11_isSpot_0 rfl ?_
  refine V_if_ltN (tgt := 24) dX11_isSpot_1 rfl (by omega) ?_
  refine V_iload_n dX11_isSpot_4 rfl ?_
  refine V_bipush (v := nI 8) dX11_isSpot_5 rfl ?_
  refine V_icmp_geN (tgt := 24) dX11_isSpot_7 rfl (by omega) (by omega) (fun h7 => ?_) (fun h7 => ?_)
  · skip
    refine V_iconst (v := nI 0) dX11_isSpot_24 rfl ?_
    exact V_iret ⟨Or.inr ⟨rfl, Or.inl rfl⟩, dX11_isSpot_25⟩ ⟨Nat.le_of_ble_eq_true rfl, Nat.le_of_ble_eq_true rfl⟩ ⟨rfl, rfl, rfl, rfl⟩
  · skip
    refine V_iload_n dX11_isSpot_10 rfl ?_
    refine V_if_lt (tgt := 24) dX11_isSpot_11 rfl (fun _ => ?_) (fun h => absurd h (by decide))
    refine V_iconst (v := nI 0) dX11_isSpot_24 rfl ?_
    exact V_iret ⟨Or.inr ⟨rfl, Or.inl rfl⟩, dX11_isSpot_25⟩ ⟨Nat.le_of_ble_eq_true rfl, Nat.le_of_ble_eq_true rfl⟩ ⟨rfl, rfl, rfl, rfl⟩

set_option maxRecDepth 100000 in
set_option maxHeartbeats 4000000 in
theorem lp_push0 {G : zG} {I : zI} {J : zJ} {x0 y0 p0 : Nat} : ∀ n i x y l (I1 : zI) (Q : zQ), i + n = 8 → x < 8 → y < 8 → I1 = zwr I 41 4 (nI i) → (Q none zsh (zwr (zwr I 41 4 (nI (i + (rolS (I 42) 0 n x y l).2))) 41 3 (fen (rolS (I 42) 0 n x y l).1)) J) → V G mX5_push 2 Q 59 [(0, .ref 41), (1, .int (nI x0)), (2, .int (nI y0)), (3, .int (nI 0)), (4, .int (nI p0)), (5, .int (nI 0)), (6, .int (nI 1)), (7, .int (nI x)), (8, .int (nI y)), (9, .int l), (10, .int (nI i))] [] (0, 0) zsh I1 J := by
  intro n
  induction n with
  | zero =>
    intro i x y l I1 Q hi hx hy hI hQ
    refine V_iload dX5_push_59 rfl ?_
    refine V_bipush (v := nI 8) dX5_push_61 rfl ?_
    refine V_icmp_geN (tgt := 154) dX5_push_63 rfl (by omega) (by omega) (fun _ => ?_) (fun h => absurd h (by omega))
    refine V_aload_n dX5_push_154 rfl ?_
    refine V_bipush (v := nI 8) dX5_push_155 rfl ?_
    refine V_iload dX5_push_157 rfl ?_
    refine V_imulN dX5_push_159 ?_
    refine V_iload dX5_push_160 rfl ?_
    refine V_iaddN dX5_push_162 ?_
    refine V_putW dX5_push_163 fX5_71 ⟨Nat.le_of_ble_eq_true rfl, Nat.le_of_ble_eq_true rfl⟩ rfl rfl rfl ⟨rfl, rfl⟩ ?_
    exact V_ret ⟨rfl, dX5_push_166⟩ ⟨Nat.le_of_ble_eq_true rfl, Nat.le_of_ble_eq_true rfl⟩ (by rw [hI]; exact hQ)
  | succ n ih =>
    intro i x y l I1 Q hi hx hy hI hQ
    refine V_iload dX5_push_59 rfl ?_
    refine V_bipush (v := nI 8) dX5_push_61 rfl ?_
    refine V_icmp_geN (tgt := 154) dX5_push_63 rfl (by omega) (by omega) (fun h => absurd h (by omega)) (fun _ => ?_)
    refine V_iload dX5_push_66 rfl ?_
    refine V_if_le (tgt := 154) dX5_push_68 rfl (fun h68 => ?_) (fun h68 => ?_)
    · skip
      refine V_aload_n dX5_push_154 rfl ?_
      refine V_bipush (v := nI 8) dX5_push_155 rfl ?_
      refine V_iload dX5_push_157 rfl ?_
      refine V_imulN dX5_push_159 ?_
      refine V_iload dX5_push_160 rfl ?_
      refine V_iaddN dX5_push_162 ?_
      refine V_putW dX5_push_163 fX5_71 ⟨Nat.le_of_ble_eq_true rfl, Nat.le_of_ble_eq_true rfl⟩ rfl rfl rfl ⟨rfl, rfl⟩ ?_
      exact V_ret ⟨rfl, dX5_push_166⟩ ⟨Nat.le_of_ble_eq_true rfl, Nat.le_of_ble_eq_true rfl⟩ (by have e : rolS (I 42) 0 (n + 1) (x) (y) l = (some (8 * (y) + (x)), 0) := (by rw [rolS, if_pos h68]); rw [e] at hQ; (try rw [show 8 * (0) + (x) = x from (by omega)] at hQ); rw [hI]; exact hQ)
    · skip
      refine V_aload_n dX5_push_71 rfl ?_
      refine V_bipush (v := nI 8) dX5_push_72 rfl ?_
      refine V_iload dX5_push_74 rfl ?_
      refine V_imulN dX5_push_76 ?_
      refine V_iload dX5_push_77 rfl ?_
      refine V_iaddN dX5_push_79 ?_
      refine V_callV (As := [.int (nI ((8 * y) + x))]) (st := []) (a := 41) dX5_push_80 kX5_heightAt lX5_63 (by decide) rfl rfl (Nat.le_of_ble_eq_true rfl) ⟨Nat.le_of_ble_eq_true rfl, Nat.le_of_ble_eq_true rfl⟩ ⟨Nat.le_of_ble_eq_true rfl, Nat.le_of_ble_eq_true rfl⟩ rfl ⟨rfl, by decide⟩ (c_heightAt (by omega)) ?_
      rintro _ _ _ _ ⟨rfl, rfl, rfl, rfl⟩
      refine V_eqI (y := I 42 ((8 * y) + x)) (by rw [hI]; rfl) ?_
      refine V_istore (ls' := [(11, .int (I 42 ((8 * y) + x))), (0, .ref 41), (1, .int (nI x0)), (2, .int (nI y0)), (3, .int (nI 0)), (4, .int (nI p0)), (5, .int (nI 0)), (6, .int (nI 1)), (7, .int (nI x)), (8, .int (nI y)), (9, .int l), (10, .int (nI i))]) dX5_push_83 (by decide) rfl ?_
      refine V_iload dX5_push_85 rfl ?_
      refine V_iload dX5_push_87 rfl ?_
      refine V_iaddN dX5_push_89 ?_
      refine V_eqI (y := nI (x)) rfl ?_
      refine V_istore (ls' := [(7, .int (nI x)), (11, .int (I 42 ((8 * y) + x))), (0, .ref 41), (1, .int (nI x0)), (2, .int (nI y0)), (3, .int (nI 0)), (4, .int (nI p0)), (5, .int (nI 0)), (6, .int (nI 1)), (8, .int (nI y)), (9, .int l), (10, .int (nI i))]) dX5_push_90 (by decide) rfl ?_
      refine V_iload dX5_push_92 rfl ?_
      refine V_iload dX5_push_94 rfl ?_
      refine V_iaddN dX5_push_96 ?_
      refine V_eqI (y := nI (y + 1)) rfl ?_
      refine V_istore (ls' := [(8, .int (nI (y + 1))), (7, .int (nI x)), (11, .int (I 42 ((8 * y) + x))), (0, .ref 41), (1, .int (nI x0)), (2, .int (nI y0)), (3, .int (nI 0)), (4, .int (nI p0)), (5, .int (nI 0)), (6, .int (nI 1)), (9, .int l), (10, .int (nI i))]) dX5_push_97 (by decide) rfl ?_
      by_cases hb : y + 1 < 8
      · skip
        refine V_iload dX5_push_99 rfl ?_
        refine V_iload dX5_push_101 rfl ?_
        refine V_callS (As := [.int (nI x), .int (nI (y + 1))]) (st := []) dX5_push_103 kX11_isSpot lX5_67 (by decide) rfl rfl (Nat.le_of_ble_eq_true rfl) ⟨Nat.le_of_ble_eq_true rfl, Nat.le_of_ble_eq_true rfl⟩ (c_isSpot (by omega) (by omega)) ?_
        rintro _ _ _ _ ⟨rfl, rfl, rfl, rfl⟩
        refine V_eqI (y := nI 1) (congrArg nI (if_pos (by omega))) ?_
        refine V_if_ne (tgt := 116) dX5_push_106 rfl (fun _ => ?_) (fun h => absurd h (by decide))
        refine V_iload dX5_push_116 rfl ?_
        refine V_iload dX5_push_118 rfl ?_
        refine V_aload_n dX5_push_120 rfl ?_
        refine V_bipush (v := nI 8) dX5_push_121 rfl ?_
        refine V_iload dX5_push_123 rfl ?_
        refine V_imulN dX5_push_125 ?_
        refine V_iload dX5_push_126 rfl ?_
        refine V_iaddN dX5_push_128 ?_
        refine V_callV (As := [.int (nI ((8 * (y + 1)) + x))]) (st := [.int (I 42 ((8 * y) + x)), .int l]) (a := 41) dX5_push_129 kX5_heightAt lX5_63 (by decide) rfl rfl (Nat.le_of_ble_eq_true rfl) ⟨Nat.le_of_ble_eq_true rfl, Nat.le_of_ble_eq_true rfl⟩ ⟨Nat.le_of_ble_eq_true rfl, Nat.le_of_ble_eq_true rfl⟩ rfl ⟨rfl, by decide⟩ (c_heightAt (by omega)) ?_
        rintro _ _ _ _ ⟨rfl, rfl, rfl, rfl⟩
        refine V_eqI (y := I 42 ((8 * (y + 1)) + x)) (by rw [hI]; rfl) ?_
        refine V_isub dX5_push_132 ?_
        refine V_iconst (v := nI 1) dX5_push_133 rfl ?_
        refine V_isub dX5_push_134 ?_
        refine V_iadd dX5_push_135 ?_
        refine V_istore (ls' := [(9, .int (l + (((I 42 ((8 * y) + x)) - (I 42 ((8 * (y + 1)) + x))) - (nI 1)))), (8, .int (nI (y + 1))), (7, .int (nI x)), (11, .int (I 42 ((8 * y) + x))), (0, .ref 41), (1, .int (nI x0)), (2, .int (nI y0)), (3, .int (nI 0)), (4, .int (nI p0)), (5, .int (nI 0)), (6, .int (nI 1)), (10, .int (nI i))]) dX5_push_136 (by decide) rfl ?_
        refine V_aload_n dX5_push_138 rfl ?_
        refine V_dup dX5_push_139 rfl ?_
        refine V_getI dX5_push_140 fX5_60 ⟨Nat.le_of_ble_eq_true rfl, Nat.le_of_ble_eq_true rfl⟩ rfl rfl ?_
        refine V_eqI (y := nI i) (by rw [hI]; exact zwr_at.trans (if_pos ⟨rfl, rfl⟩)) ?_
        refine V_iconst (v := nI 1) dX5_push_143 rfl ?_
        refine V_iaddN dX5_push_144 ?_
        refine V_putW dX5_push_145 fX5_60 ⟨Nat.le_of_ble_eq_true rfl, Nat.le_of_ble_eq_true rfl⟩ rfl rfl rfl ⟨rfl, rfl⟩ ?_
        refine V_iincN (ls' := [(10, .int (nI (i + 1))), (9, .int (l + (((I 42 ((8 * y) + x)) - (I 42 ((8 * (y + 1)) + x))) - (nI 1)))), (8, .int (nI (y + 1))), (7, .int (nI x)), (11, .int (I 42 ((8 * y) + x))), (0, .ref 41), (1, .int (nI x0)), (2, .int (nI y0)), (3, .int (nI 0)), (4, .int (nI p0)), (5, .int (nI 0)), (6, .int (nI 1))]) (n := 1) dX5_push_148 rfl rfl (by decide) (by decide) rfl ?_
        refine V_goto (tgt := 59) dX5_push_151 rfl ?_
        refine V_sub2 (ls' := [(0, .ref 41), (1, .int (nI x0)), (2, .int (nI y0)), (3, .int (nI 0)), (4, .int (nI p0)), (5, .int (nI 0)), (6, .int (nI 1)), (7, .int (nI x)), (8, .int (nI (y + 1))), (9, .int (l + (((I 42 ((8 * y) + x)) - (I 42 ((8 * (y + 1)) + x))) - (nI 1)))), (10, .int (nI (i + 1)))]) (List.forall_mem_cons.mpr ⟨rfl, List.forall_mem_cons.mpr ⟨rfl, List.forall_mem_cons.mpr ⟨rfl, List.forall_mem_cons.mpr ⟨rfl, List.forall_mem_cons.mpr ⟨rfl, List.forall_mem_cons.mpr ⟨rfl, List.forall_mem_cons.mpr ⟨rfl, List.forall_mem_cons.mpr ⟨rfl, List.forall_mem_cons.mpr ⟨rfl, List.forall_mem_cons.mpr ⟨rfl, List.forall_mem_cons.mpr ⟨rfl, fun _ h => absurd h List.not_mem_nil⟩⟩⟩⟩⟩⟩⟩⟩⟩⟩⟩) ?_
        refine ih (i + 1) (x) (y + 1) _ _ Q (by omega) (by omega) (by omega) (by rw [hI]; exact zwr_zwr _ _ _ _ _) ?_
        have e : rolS (I 42) 0 (n + 1) (x) (y) l = ((rolS (I 42) 0 n (x) (y + 1) (l + (I 42 (8 * (y) + (x)) - I 42 (8 * (y + 1) + (x)) - nI 1))).1, (rolS (I 42) 0 n (x) (y + 1) (l + (I 42 (8 * (y) + (x)) - I 42 (8 * (y + 1) + (x)) - nI 1))).2 + 1) := by
          rw [rolS, if_neg h68, show rst 0 (x) (y) = some (x, y + 1) from by simp [rst, hb]]
        rw [e] at hQ
        have e2 : ∀ z, i + 1 + z = i + (z + 1) := fun z => by omega
        rw [e2]
        exact hQ
      · skip
        refine V_iload dX5_push_99 rfl ?_
        refine V_iload dX5_push_101 rfl ?_
        refine V_callS (As := [.int (nI x), .int (nI (y + 1))]) (st := []) dX5_push_103 kX11_isSpot lX5_67 (by decide) rfl rfl (Nat.le_of_ble_eq_true rfl) ⟨Nat.le_of_ble_eq_true rfl, Nat.le_of_ble_eq_true rfl⟩ (c_isSpot (by omega) (by omega)) ?_
        rintro _ _ _ _ ⟨rfl, rfl, rfl, rfl⟩
        refine V_eqI (y := nI 0) (congrArg nI (if_neg (by omega))) ?_
        refine V_if_ne (tgt := 116) dX5_push_106 rfl (fun h => absurd h (by decide)) (fun _ => ?_)
        refine V_aload_n dX5_push_109 rfl ?_
        refine V_bipush (v := (-2)) dX5_push_110 rfl ?_
        refine V_putW dX5_push_112 fX5_71 ⟨Nat.le_of_ble_eq_true rfl, Nat.le_of_ble_eq_true rfl⟩ rfl rfl rfl ⟨rfl, rfl⟩ ?_
        exact V_ret ⟨rfl, dX5_push_115⟩ ⟨Nat.le_of_ble_eq_true rfl, Nat.le_of_ble_eq_true rfl⟩ (by have e : rolS (I 42) 0 (n + 1) (x) (y) l = (none, 0) := (by rw [rolS, if_neg h68, show rst 0 (x) (y) = none from by simp [rst, hb]]); rw [e] at hQ; rw [hI]; exact hQ)

set_option maxRecDepth 100000 in
set_option maxHeartbeats 4000000 in
theorem c_push0 {G : zG} {I : zI} {J : zJ} {x y p : Nat} (hx : x < 8) (hy : y < 8) : zK G mX5_push 2 [.ref 41, .int (nI x), .int (nI y), .int (nI 0), .int (nI p)] zsh I J (zA2 (fun I' J' => I' = zwr (zwr I 41 4 (nI (rolS (I 42) 0 8 x y (nI p)).2)) 41 3 (fen (rolS (I 42) 0 8 x y (nI p)).1) ∧ J = J')) := by
  refine zK_of kX5_push.2.2.2.2.1 (Nat.le_of_ble_eq_true rfl) ?_
  show V G mX5_push 2 _ 0 [(0, .ref 41), (1, .int (nI x)), (2, .int (nI y)), (3, .int (nI 0)), (4, .int (nI p))] [] (0, 0) zsh I J
  refine V_iload_n dX5_push_0 rfl ?_
  refine V_iconst (v := nI 1) dX5_push_1 rfl ?_
  refine V_icmp_ne (tgt := 9) dX5_push_2 rfl (fun _ => ?_) (fun h => absurd h (by decide))
  refine V_iload_n dX5_push_9 rfl ?_
  refine V_iconst (v := nI 3) dX5_push_10 rfl ?_
  refine V_icmp_ne (tgt := 18) dX5_push_11 rfl (fun _ => ?_) (fun h => absurd h (by decide))
  refine V_iconst (v := nI 0) dX5_push_18 rfl ?_
  refine V_istore (ls' := [(5, .int (nI 0)), (0, .ref 41), (1, .int (nI x)), (2, .int (nI y)), (3, .int (nI 0)), (4, .int (nI p))]) dX5_push_19 (by decide) rfl ?_
  refine V_iload_n dX5_push_21 rfl ?_
  refine V_if_ne (tgt := 29) dX5_push_22 rfl (fun h => absurd h (by decide)) (fun _ => ?_)
  refine V_iconst (v := nI 1) dX5_push_25 rfl ?_
  refine V_goto (tgt := 39) dX5_push_26 rfl ?_
  refine V_istore (ls' := [(6, .int (nI 1)), (5, .int (nI 0)), (0, .ref 41), (1, .int (nI x)), (2, .int (nI y)), (3, .int (nI 0)), (4, .int (nI p))]) dX5_push_39 (by decide) rfl ?_
  refine V_iload_n dX5_push_41 rfl ?_
  refine V_istore (ls' := [(7, .int (nI x)), (6, .int (nI 1)), (5, .int (nI 0)), (0, .ref 41), (1, .int (nI x)), (2, .int (nI y)), (3, .int (nI 0)), (4, .int (nI p))]) dX5_push_42 (by decide) rfl ?_
  refine V_iload_n dX5_push_44 rfl ?_
  refine V_istore (ls' := [(8, .int (nI y)), (7, .int (nI x)), (6, .int (nI 1)), (5, .int (nI 0)), (0, .ref 41), (1, .int (nI x)), (2, .int (nI y)), (3, .int (nI 0)), (4, .int (nI p))]) dX5_push_45 (by decide) rfl ?_
  refine V_iload dX5_push_47 rfl ?_
  refine V_istore (ls' := [(9, .int (nI p)), (8, .int (nI y)), (7, .int (nI x)), (6, .int (nI 1)), (5, .int (nI 0)), (0, .ref 41), (1, .int (nI x)), (2, .int (nI y)), (3, .int (nI 0)), (4, .int (nI p))]) dX5_push_49 (by decide) rfl ?_
  refine V_aload_n dX5_push_51 rfl ?_
  refine V_iconst (v := nI 0) dX5_push_52 rfl ?_
  refine V_putW dX5_push_53 fX5_60 ⟨Nat.le_of_ble_eq_true rfl, Nat.le_of_ble_eq_true rfl⟩ rfl rfl rfl ⟨rfl, rfl⟩ ?_
  refine V_iconst (v := nI 0) dX5_push_56 rfl ?_
  refine V_istore (ls' := [(10, .int (nI 0)), (9, .int (nI p)), (8, .int (nI y)), (7, .int (nI x)), (6, .int (nI 1)), (5, .int (nI 0)), (0, .ref 41), (1, .int (nI x)), (2, .int (nI y)), (3, .int (nI 0)), (4, .int (nI p))]) dX5_push_57 (by decide) rfl ?_
  refine V_sub2 (ls' := [(0, .ref 41), (1, .int (nI x)), (2, .int (nI y)), (3, .int (nI 0)), (4, .int (nI p)), (5, .int (nI 0)), (6, .int (nI 1)), (7, .int (nI x)), (8, .int (nI y)), (9, .int (nI p)), (10, .int (nI 0))]) (List.forall_mem_cons.mpr ⟨rfl, List.forall_mem_cons.mpr ⟨rfl, List.forall_mem_cons.mpr ⟨rfl, List.forall_mem_cons.mpr ⟨rfl, List.forall_mem_cons.mpr ⟨rfl, List.forall_mem_cons.mpr ⟨rfl, List.forall_mem_cons.mpr ⟨rfl, List.forall_mem_cons.mpr ⟨rfl, List.forall_mem_cons.mpr ⟨rfl, List.forall_mem_cons.mpr ⟨rfl, List.forall_mem_cons.mpr ⟨rfl, fun _ h => absurd h List.not_mem_nil⟩⟩⟩⟩⟩⟩⟩⟩⟩⟩⟩) ?_
  refine lp_push0 8 0 x y (nI p) _ _ (by omega) hx hy rfl ⟨rfl, rfl, ?_, rfl⟩
  rw [Nat.zero_add]

set_option maxRecDepth 100000 in
set_option maxHeartbeats 4000000 in
theorem lp_push1 {G : zG} {I : zI} {J : zJ} {x0 y0 p0 : Nat} : ∀ n i x y l (I1 : zI) (Q : zQ), i + n = 8 → x < 8 → y < 8 → I1 = zwr I 41 4 (nI i) → (Q none zsh (zwr (zwr I 41 4 (nI (i + (rolS (I 42) 1 n x y l).2))) 41 3 (fen (rolS (I 42) 1 n x y l).1)) J) → V G mX5_push 2 Q 59 [(0, .ref 41), (1, .int (nI x0)), (2, .int (nI y0)), (3, .int (nI 1)), (4, .int (nI p0)), (5, .int (nI 1)), (6, .int (nI 0)), (7, .int (nI x)), (8, .int (nI y)), (9, .int l), (10, .int (nI i))] [] (0, 0) zsh I1 J := by
  intro n
  induction n with
  | zero =>
    intro i x y l I1 Q hi hx hy hI hQ
    refine V_iload dX5_push_59 rfl ?_
    refine V_bipush (v := nI 8) dX5_push_61 rfl ?_
    refine V_icmp_geN (tgt := 154) dX5_push_63 rfl (by omega) (by omega) (fun _ => ?_) (fun h => absurd h (by omega))
    refine V_aload_n dX5_push_154 rfl ?_
    refine V_bipush (v := nI 8) dX5_push_155 rfl ?_
    refine V_iload dX5_push_157 rfl ?_
    refine V_imulN dX5_push_159 ?_
    refine V_iload dX5_push_160 rfl ?_
    refine V_iaddN dX5_push_162 ?_
    refine V_putW dX5_push_163 fX5_71 ⟨Nat.le_of_ble_eq_true rfl, Nat.le_of_ble_eq_true rfl⟩ rfl rfl rfl ⟨rfl, rfl⟩ ?_
    exact V_ret ⟨rfl, dX5_push_166⟩ ⟨Nat.le_of_ble_eq_true rfl, Nat.le_of_ble_eq_true rfl⟩ (by rw [hI]; exact hQ)
  | succ n ih =>
    intro i x y l I1 Q hi hx hy hI hQ
    refine V_iload dX5_push_59 rfl ?_
    refine V_bipush (v := nI 8) dX5_push_61 rfl ?_
    refine V_icmp_geN (tgt := 154) dX5_push_63 rfl (by omega) (by omega) (fun h => absurd h (by omega)) (fun _ => ?_)
    refine V_iload dX5_push_66 rfl ?_
    refine V_if_le (tgt := 154) dX5_push_68 rfl (fun h68 => ?_) (fun h68 => ?_)
    · skip
      refine V_aload_n dX5_push_154 rfl ?_
      refine V_bipush (v := nI 8) dX5_push_155 rfl ?_
      refine V_iload dX5_push_157 rfl ?_
      refine V_imulN dX5_push_159 ?_
      refine V_iload dX5_push_160 rfl ?_
      refine V_iaddN dX5_push_162 ?_
      refine V_putW dX5_push_163 fX5_71 ⟨Nat.le_of_ble_eq_true rfl, Nat.le_of_ble_eq_true rfl⟩ rfl rfl rfl ⟨rfl, rfl⟩ ?_
      exact V_ret ⟨rfl, dX5_push_166⟩ ⟨Nat.le_of_ble_eq_true rfl, Nat.le_of_ble_eq_true rfl⟩ (by have e : rolS (I 42) 1 (n + 1) (x) (y) l = (some (8 * (y) + (x)), 0) := (by rw [rolS, if_pos h68]); rw [e] at hQ; (try rw [show 8 * (0) + (x) = x from (by omega)] at hQ); rw [hI]; exact hQ)
    · skip
      refine V_aload_n dX5_push_71 rfl ?_
      refine V_bipush (v := nI 8) dX5_push_72 rfl ?_
      refine V_iload dX5_push_74 rfl ?_
      refine V_imulN dX5_push_76 ?_
      refine V_iload dX5_push_77 rfl ?_
      refine V_iaddN dX5_push_79 ?_
      refine V_callV (As := [.int (nI ((8 * y) + x))]) (st := []) (a := 41) dX5_push_80 kX5_heightAt lX5_63 (by decide) rfl rfl (Nat.le_of_ble_eq_true rfl) ⟨Nat.le_of_ble_eq_true rfl, Nat.le_of_ble_eq_true rfl⟩ ⟨Nat.le_of_ble_eq_true rfl, Nat.le_of_ble_eq_true rfl⟩ rfl ⟨rfl, by decide⟩ (c_heightAt (by omega)) ?_
      rintro _ _ _ _ ⟨rfl, rfl, rfl, rfl⟩
      refine V_eqI (y := I 42 ((8 * y) + x)) (by rw [hI]; rfl) ?_
      refine V_istore (ls' := [(11, .int (I 42 ((8 * y) + x))), (0, .ref 41), (1, .int (nI x0)), (2, .int (nI y0)), (3, .int (nI 1)), (4, .int (nI p0)), (5, .int (nI 1)), (6, .int (nI 0)), (7, .int (nI x)), (8, .int (nI y)), (9, .int l), (10, .int (nI i))]) dX5_push_83 (by decide) rfl ?_
      refine V_iload dX5_push_85 rfl ?_
      refine V_iload dX5_push_87 rfl ?_
      refine V_iaddN dX5_push_89 ?_
      refine V_eqI (y := nI (x + 1)) rfl ?_
      refine V_istore (ls' := [(7, .int (nI (x + 1))), (11, .int (I 42 ((8 * y) + x))), (0, .ref 41), (1, .int (nI x0)), (2, .int (nI y0)), (3, .int (nI 1)), (4, .int (nI p0)), (5, .int (nI 1)), (6, .int (nI 0)), (8, .int (nI y)), (9, .int l), (10, .int (nI i))]) dX5_push_90 (by decide) rfl ?_
      refine V_iload dX5_push_92 rfl ?_
      refine V_iload dX5_push_94 rfl ?_
      refine V_iaddN dX5_push_96 ?_
      refine V_eqI (y := nI (y)) rfl ?_
      refine V_istore (ls' := [(8, .int (nI y)), (7, .int (nI (x + 1))), (11, .int (I 42 ((8 * y) + x))), (0, .ref 41), (1, .int (nI x0)), (2, .int (nI y0)), (3, .int (nI 1)), (4, .int (nI p0)), (5, .int (nI 1)), (6, .int (nI 0)), (9, .int l), (10, .int (nI i))]) dX5_push_97 (by decide) rfl ?_
      by_cases hb : x + 1 < 8
      · skip
        refine V_iload dX5_push_99 rfl ?_
        refine V_iload dX5_push_101 rfl ?_
        refine V_callS (As := [.int (nI (x + 1)), .int (nI y)]) (st := []) dX5_push_103 kX11_isSpot lX5_67 (by decide) rfl rfl (Nat.le_of_ble_eq_true rfl) ⟨Nat.le_of_ble_eq_true rfl, Nat.le_of_ble_eq_true rfl⟩ (c_isSpot (by omega) (by omega)) ?_
        rintro _ _ _ _ ⟨rfl, rfl, rfl, rfl⟩
        refine V_eqI (y := nI 1) (congrArg nI (if_pos (by omega))) ?_
        refine V_if_ne (tgt := 116) dX5_push_106 rfl (fun _ => ?_) (fun h => absurd h (by decide))
        refine V_iload dX5_push_116 rfl ?_
        refine V_iload dX5_push_118 rfl ?_
        refine V_aload_n dX5_push_120 rfl ?_
        refine V_bipush (v := nI 8) dX5_push_121 rfl ?_
        refine V_iload dX5_push_123 rfl ?_
        refine V_imulN dX5_push_125 ?_
        refine V_iload dX5_push_126 rfl ?_
        refine V_iaddN dX5_push_128 ?_
        refine V_callV (As := [.int (nI ((8 * y) + (x + 1)))]) (st := [.int (I 42 ((8 * y) + x)), .int l]) (a := 41) dX5_push_129 kX5_heightAt lX5_63 (by decide) rfl rfl (Nat.le_of_ble_eq_true rfl) ⟨Nat.le_of_ble_eq_true rfl, Nat.le_of_ble_eq_true rfl⟩ ⟨Nat.le_of_ble_eq_true rfl, Nat.le_of_ble_eq_true rfl⟩ rfl ⟨rfl, by decide⟩ (c_heightAt (by omega)) ?_
        rintro _ _ _ _ ⟨rfl, rfl, rfl, rfl⟩
        refine V_eqI (y := I 42 ((8 * y) + (x + 1))) (by rw [hI]; rfl) ?_
        refine V_isub dX5_push_132 ?_
        refine V_iconst (v := nI 1) dX5_push_133 rfl ?_
        refine V_isub dX5_push_134 ?_
        refine V_iadd dX5_push_135 ?_
        refine V_istore (ls' := [(9, .int (l + (((I 42 ((8 * y) + x)) - (I 42 ((8 * y) + (x + 1)))) - (nI 1)))), (8, .int (nI y)), (7, .int (nI (x + 1))), (11, .int (I 42 ((8 * y) + x))), (0, .ref 41), (1, .int (nI x0)), (2, .int (nI y0)), (3, .int (nI 1)), (4, .int (nI p0)), (5, .int (nI 1)), (6, .int (nI 0)), (10, .int (nI i))]) dX5_push_136 (by decide) rfl ?_
        refine V_aload_n dX5_push_138 rfl ?_
        refine V_dup dX5_push_139 rfl ?_
        refine V_getI dX5_push_140 fX5_60 ⟨Nat.le_of_ble_eq_true rfl, Nat.le_of_ble_eq_true rfl⟩ rfl rfl ?_
        refine V_eqI (y := nI i) (by rw [hI]; exact zwr_at.trans (if_pos ⟨rfl, rfl⟩)) ?_
        refine V_iconst (v := nI 1) dX5_push_143 rfl ?_
        refine V_iaddN dX5_push_144 ?_
        refine V_putW dX5_push_145 fX5_60 ⟨Nat.le_of_ble_eq_true rfl, Nat.le_of_ble_eq_true rfl⟩ rfl rfl rfl ⟨rfl, rfl⟩ ?_
        refine V_iincN (ls' := [(10, .int (nI (i + 1))), (9, .int (l + (((I 42 ((8 * y) + x)) - (I 42 ((8 * y) + (x + 1)))) - (nI 1)))), (8, .int (nI y)), (7, .int (nI (x + 1))), (11, .int (I 42 ((8 * y) + x))), (0, .ref 41), (1, .int (nI x0)), (2, .int (nI y0)), (3, .int (nI 1)), (4, .int (nI p0)), (5, .int (nI 1)), (6, .int (nI 0))]) (n := 1) dX5_push_148 rfl rfl (by decide) (by decide) rfl ?_
        refine V_goto (tgt := 59) dX5_push_151 rfl ?_
        refine V_sub2 (ls' := [(0, .ref 41), (1, .int (nI x0)), (2, .int (nI y0)), (3, .int (nI 1)), (4, .int (nI p0)), (5, .int (nI 1)), (6, .int (nI 0)), (7, .int (nI (x + 1))), (8, .int (nI y)), (9, .int (l + (((I 42 ((8 * y) + x)) - (I 42 ((8 * y) + (x + 1)))) - (nI 1)))), (10, .int (nI (i + 1)))]) (List.forall_mem_cons.mpr ⟨rfl, List.forall_mem_cons.mpr ⟨rfl, List.forall_mem_cons.mpr ⟨rfl, List.forall_mem_cons.mpr ⟨rfl, List.forall_mem_cons.mpr ⟨rfl, List.forall_mem_cons.mpr ⟨rfl, List.forall_mem_cons.mpr ⟨rfl, List.forall_mem_cons.mpr ⟨rfl, List.forall_mem_cons.mpr ⟨rfl, List.forall_mem_cons.mpr ⟨rfl, List.forall_mem_cons.mpr ⟨rfl, fun _ h => absurd h List.not_mem_nil⟩⟩⟩⟩⟩⟩⟩⟩⟩⟩⟩) ?_
        refine ih (i + 1) (x + 1) (y) _ _ Q (by omega) (by omega) (by omega) (by rw [hI]; exact zwr_zwr _ _ _ _ _) ?_
        have e : rolS (I 42) 1 (n + 1) (x) (y) l = ((rolS (I 42) 1 n (x + 1) (y) (l + (I 42 (8 * (y) + (x)) - I 42 (8 * (y) + (x + 1)) - nI 1))).1, (rolS (I 42) 1 n (x + 1) (y) (l + (I 42 (8 * (y) + (x)) - I 42 (8 * (y) + (x + 1)) - nI 1))).2 + 1) := by
          rw [rolS, if_neg h68, show rst 1 (x) (y) = some (x + 1, y) from by simp [rst, hb]]
        rw [e] at hQ
        have e2 : ∀ z, i + 1 + z = i + (z + 1) := fun z => by omega
        rw [e2]
        exact hQ
      · skip
        refine V_iload dX5_push_99 rfl ?_
        refine V_iload dX5_push_101 rfl ?_
        refine V_callS (As := [.int (nI (x + 1)), .int (nI y)]) (st := []) dX5_push_103 kX11_isSpot lX5_67 (by decide) rfl rfl (Nat.le_of_ble_eq_true rfl) ⟨Nat.le_of_ble_eq_true rfl, Nat.le_of_ble_eq_true rfl⟩ (c_isSpot (by omega) (by omega)) ?_
        rintro _ _ _ _ ⟨rfl, rfl, rfl, rfl⟩
        refine V_eqI (y := nI 0) (congrArg nI (if_neg (by omega))) ?_
        refine V_if_ne (tgt := 116) dX5_push_106 rfl (fun h => absurd h (by decide)) (fun _ => ?_)
        refine V_aload_n dX5_push_109 rfl ?_
        refine V_bipush (v := (-2)) dX5_push_110 rfl ?_
        refine V_putW dX5_push_112 fX5_71 ⟨Nat.le_of_ble_eq_true rfl, Nat.le_of_ble_eq_true rfl⟩ rfl rfl rfl ⟨rfl, rfl⟩ ?_
        exact V_ret ⟨rfl, dX5_push_115⟩ ⟨Nat.le_of_ble_eq_true rfl, Nat.le_of_ble_eq_true rfl⟩ (by have e : rolS (I 42) 1 (n + 1) (x) (y) l = (none, 0) := (by rw [rolS, if_neg h68, show rst 1 (x) (y) = none from by simp [rst, hb]]); rw [e] at hQ; rw [hI]; exact hQ)

set_option maxRecDepth 100000 in
set_option maxHeartbeats 4000000 in
theorem c_push1 {G : zG} {I : zI} {J : zJ} {x y p : Nat} (hx : x < 8) (hy : y < 8) : zK G mX5_push 2 [.ref 41, .int (nI x), .int (nI y), .int (nI 1), .int (nI p)] zsh I J (zA2 (fun I' J' => I' = zwr (zwr I 41 4 (nI (rolS (I 42) 1 8 x y (nI p)).2)) 41 3 (fen (rolS (I 42) 1 8 x y (nI p)).1) ∧ J = J')) := by
  refine zK_of kX5_push.2.2.2.2.1 (Nat.le_of_ble_eq_true rfl) ?_
  show V G mX5_push 2 _ 0 [(0, .ref 41), (1, .int (nI x)), (2, .int (nI y)), (3, .int (nI 1)), (4, .int (nI p))] [] (0, 0) zsh I J
  refine V_iload_n dX5_push_0 rfl ?_
  refine V_iconst (v := nI 1) dX5_push_1 rfl ?_
  refine V_icmp_ne (tgt := 9) dX5_push_2 rfl (fun h => absurd h (by decide)) (fun _ => ?_)
  refine V_iconst (v := nI 1) dX5_push_5 rfl ?_
  refine V_goto (tgt := 19) dX5_push_6 rfl ?_
  refine V_istore (ls' := [(5, .int (nI 1)), (0, .ref 41), (1, .int (nI x)), (2, .int (nI y)), (3, .int (nI 1)), (4, .int (nI p))]) dX5_push_19 (by decide) rfl ?_
  refine V_iload_n dX5_push_21 rfl ?_
  refine V_if_ne (tgt := 29) dX5_push_22 rfl (fun _ => ?_) (fun h => absurd h (by decide))
  refine V_iload_n dX5_push_29 rfl ?_
  refine V_iconst (v := nI 2) dX5_push_30 rfl ?_
  refine V_icmp_ne (tgt := 38) dX5_push_31 rfl (fun _ => ?_) (fun h => absurd h (by decide))
  refine V_iconst (v := nI 0) dX5_push_38 rfl ?_
  refine V_istore (ls' := [(6, .int (nI 0)), (5, .int (nI 1)), (0, .ref 41), (1, .int (nI x)), (2, .int (nI y)), (3, .int (nI 1)), (4, .int (nI p))]) dX5_push_39 (by decide) rfl ?_
  refine V_iload_n dX5_push_41 rfl ?_
  refine V_istore (ls' := [(7, .int (nI x)), (6, .int (nI 0)), (5, .int (nI 1)), (0, .ref 41), (1, .int (nI x)), (2, .int (nI y)), (3, .int (nI 1)), (4, .int (nI p))]) dX5_push_42 (by decide) rfl ?_
  refine V_iload_n dX5_push_44 rfl ?_
  refine V_istore (ls' := [(8, .int (nI y)), (7, .int (nI x)), (6, .int (nI 0)), (5, .int (nI 1)), (0, .ref 41), (1, .int (nI x)), (2, .int (nI y)), (3, .int (nI 1)), (4, .int (nI p))]) dX5_push_45 (by decide) rfl ?_
  refine V_iload dX5_push_47 rfl ?_
  refine V_istore (ls' := [(9, .int (nI p)), (8, .int (nI y)), (7, .int (nI x)), (6, .int (nI 0)), (5, .int (nI 1)), (0, .ref 41), (1, .int (nI x)), (2, .int (nI y)), (3, .int (nI 1)), (4, .int (nI p))]) dX5_push_49 (by decide) rfl ?_
  refine V_aload_n dX5_push_51 rfl ?_
  refine V_iconst (v := nI 0) dX5_push_52 rfl ?_
  refine V_putW dX5_push_53 fX5_60 ⟨Nat.le_of_ble_eq_true rfl, Nat.le_of_ble_eq_true rfl⟩ rfl rfl rfl ⟨rfl, rfl⟩ ?_
  refine V_iconst (v := nI 0) dX5_push_56 rfl ?_
  refine V_istore (ls' := [(10, .int (nI 0)), (9, .int (nI p)), (8, .int (nI y)), (7, .int (nI x)), (6, .int (nI 0)), (5, .int (nI 1)), (0, .ref 41), (1, .int (nI x)), (2, .int (nI y)), (3, .int (nI 1)), (4, .int (nI p))]) dX5_push_57 (by decide) rfl ?_
  refine V_sub2 (ls' := [(0, .ref 41), (1, .int (nI x)), (2, .int (nI y)), (3, .int (nI 1)), (4, .int (nI p)), (5, .int (nI 1)), (6, .int (nI 0)), (7, .int (nI x)), (8, .int (nI y)), (9, .int (nI p)), (10, .int (nI 0))]) (List.forall_mem_cons.mpr ⟨rfl, List.forall_mem_cons.mpr ⟨rfl, List.forall_mem_cons.mpr ⟨rfl, List.forall_mem_cons.mpr ⟨rfl, List.forall_mem_cons.mpr ⟨rfl, List.forall_mem_cons.mpr ⟨rfl, List.forall_mem_cons.mpr ⟨rfl, List.forall_mem_cons.mpr ⟨rfl, List.forall_mem_cons.mpr ⟨rfl, List.forall_mem_cons.mpr ⟨rfl, List.forall_mem_cons.mpr ⟨rfl, fun _ h => absurd h List.not_mem_nil⟩⟩⟩⟩⟩⟩⟩⟩⟩⟩⟩) ?_
  refine lp_push1 8 0 x y (nI p) _ _ (by omega) hx hy rfl ⟨rfl, rfl, ?_, rfl⟩
  rw [Nat.zero_add]

set_option maxRecDepth 100000 in
set_option maxHeartbeats 4000000 in
theorem lp_push2 {G : zG} {I : zI} {J : zJ} {x0 y0 p0 : Nat} : ∀ n i x y l (I1 : zI) (Q : zQ), i + n = 8 → x < 8 → y < 8 → I1 = zwr I 41 4 (nI i) → (Q none zsh (zwr (zwr I 41 4 (nI (i + (rolS (I 42) 2 n x y l).2))) 41 3 (fen (rolS (I 42) 2 n x y l).1)) J) → V G mX5_push 2 Q 59 [(0, .ref 41), (1, .int (nI x0)), (2, .int (nI y0)), (3, .int (nI 2)), (4, .int (nI p0)), (5, .int (nI 0)), (6, .int (-1)), (7, .int (nI x)), (8, .int (nI y)), (9, .int l), (10, .int (nI i))] [] (0, 0) zsh I1 J := by
  intro n
  induction n with
  | zero =>
    intro i x y l I1 Q hi hx hy hI hQ
    refine V_iload dX5_push_59 rfl ?_
    refine V_bipush (v := nI 8) dX5_push_61 rfl ?_
    refine V_icmp_geN (tgt := 154) dX5_push_63 rfl (by omega) (by omega) (fun _ => ?_) (fun h => absurd h (by omega))
    refine V_aload_n dX5_push_154 rfl ?_
    refine V_bipush (v := nI 8) dX5_push_155 rfl ?_
    refine V_iload dX5_push_157 rfl ?_
    refine V_imulN dX5_push_159 ?_
    refine V_iload dX5_push_160 rfl ?_
    refine V_iaddN dX5_push_162 ?_
    refine V_putW dX5_push_163 fX5_71 ⟨Nat.le_of_ble_eq_true rfl, Nat.le_of_ble_eq_true rfl⟩ rfl rfl rfl ⟨rfl, rfl⟩ ?_
    exact V_ret ⟨rfl, dX5_push_166⟩ ⟨Nat.le_of_ble_eq_true rfl, Nat.le_of_ble_eq_true rfl⟩ (by rw [hI]; exact hQ)
  | succ n ih =>
    intro i x y l I1 Q hi hx hy hI hQ
    cases y with
    | zero =>
      refine V_iload dX5_push_59 rfl ?_
      refine V_bipush (v := nI 8) dX5_push_61 rfl ?_
      refine V_icmp_geN (tgt := 154) dX5_push_63 rfl (by omega) (by omega) (fun h => absurd h (by omega)) (fun _ => ?_)
      refine V_iload dX5_push_66 rfl ?_
      refine V_if_le (tgt := 154) dX5_push_68 rfl (fun h68 => ?_) (fun h68 => ?_)
      · skip
        refine V_aload_n dX5_push_154 rfl ?_
        refine V_bipush (v := nI 8) dX5_push_155 rfl ?_
        refine V_iload dX5_push_157 rfl ?_
        refine V_imulN dX5_push_159 ?_
        refine V_eqI (y := nI 0) rfl ?_
        refine V_iload dX5_push_160 rfl ?_
        refine V_iaddN dX5_push_162 ?_
        refine V_eqI (y := nI x) (congrArg nI (Nat.zero_add _)) ?_
        refine V_putW dX5_push_163 fX5_71 ⟨Nat.le_of_ble_eq_true rfl, Nat.le_of_ble_eq_true rfl⟩ rfl rfl rfl ⟨rfl, rfl⟩ ?_
        exact V_ret ⟨rfl, dX5_push_166⟩ ⟨Nat.le_of_ble_eq_true rfl, Nat.le_of_ble_eq_true rfl⟩ (by have e : rolS (I 42) 2 (n + 1) (x) (0) l = (some (8 * (0) + (x)), 0) := (by rw [rolS, if_pos h68]); rw [e] at hQ; (try rw [show 8 * (0) + (x) = x from (by omega)] at hQ); rw [hI]; exact hQ)
      · skip
        refine V_aload_n dX5_push_71 rfl ?_
        refine V_bipush (v := nI 8) dX5_push_72 rfl ?_
        refine V_iload dX5_push_74 rfl ?_
        refine V_imulN dX5_push_76 ?_
        refine V_eqI (y := nI 0) rfl ?_
        refine V_iload dX5_push_77 rfl ?_
        refine V_iaddN dX5_push_79 ?_
        refine V_eqI (y := nI x) (congrArg nI (Nat.zero_add _)) ?_
        refine V_callV (As := [.int (nI x)]) (st := []) (a := 41) dX5_push_80 kX5_heightAt lX5_63 (by decide) rfl rfl (Nat.le_of_ble_eq_true rfl) ⟨Nat.le_of_ble_eq_true rfl, Nat.le_of_ble_eq_true rfl⟩ ⟨Nat.le_of_ble_eq_true rfl, Nat.le_of_ble_eq_true rfl⟩ rfl ⟨rfl, by decide⟩ (c_heightAt (by omega)) ?_
        rintro _ _ _ _ ⟨rfl, rfl, rfl, rfl⟩
        refine V_eqI (y := I 42 x) (by rw [hI]; rfl) ?_
        refine V_istore (ls' := [(11, .int (I 42 x)), (0, .ref 41), (1, .int (nI x0)), (2, .int (nI y0)), (3, .int (nI 2)), (4, .int (nI p0)), (5, .int (nI 0)), (6, .int (-1)), (7, .int (nI x)), (8, .int (nI 0)), (9, .int l), (10, .int (nI i))]) dX5_push_83 (by decide) rfl ?_
        refine V_iload dX5_push_85 rfl ?_
        refine V_iload dX5_push_87 rfl ?_
        refine V_iaddN dX5_push_89 ?_
        refine V_eqI (y := nI (x)) rfl ?_
        refine V_istore (ls' := [(7, .int (nI x)), (11, .int (I 42 x)), (0, .ref 41), (1, .int (nI x0)), (2, .int (nI y0)), (3, .int (nI 2)), (4, .int (nI p0)), (5, .int (nI 0)), (6, .int (-1)), (8, .int (nI 0)), (9, .int l), (10, .int (nI i))]) dX5_push_90 (by decide) rfl ?_
        refine V_iload dX5_push_92 rfl ?_
        refine V_iload dX5_push_94 rfl ?_
        refine V_iadd dX5_push_96 (V_eqI (y := (-1)) (by decide) ?_)
        refine V_istore (ls' := [(8, .int (-1)), (7, .int (nI x)), (11, .int (I 42 x)), (0, .ref 41), (1, .int (nI x0)), (2, .int (nI y0)), (3, .int (nI 2)), (4, .int (nI p0)), (5, .int (nI 0)), (6, .int (-1)), (9, .int l), (10, .int (nI i))]) dX5_push_97 (by decide) rfl ?_
        refine V_iload dX5_push_99 rfl ?_
        refine V_iload dX5_push_101 rfl ?_
        refine V_callS (As := [.int (nI x), .int (-1)]) (st := []) dX5_push_103 kX11_isSpot lX5_67 (by decide) rfl rfl (Nat.le_of_ble_eq_true rfl) ⟨Nat.le_of_ble_eq_true rfl, Nat.le_of_ble_eq_true rfl⟩ (c_isSpotY (by omega)) ?_
        rintro _ _ _ _ ⟨rfl, rfl, rfl, rfl⟩
        refine V_if_ne (tgt := 116) dX5_push_106 rfl (fun h => absurd h (by decide)) (fun _ => ?_)
        refine V_aload_n dX5_push_109 rfl ?_
        refine V_bipush (v := (-2)) dX5_push_110 rfl ?_
        refine V_putW dX5_push_112 fX5_71 ⟨Nat.le_of_ble_eq_true rfl, Nat.le_of_ble_eq_true rfl⟩ rfl rfl rfl ⟨rfl, rfl⟩ ?_
        exact V_ret ⟨rfl, dX5_push_115⟩ ⟨Nat.le_of_ble_eq_true rfl, Nat.le_of_ble_eq_true rfl⟩ (by have e : rolS (I 42) 2 (n + 1) (x) (0) l = (none, 0) := (by rw [rolS, if_neg h68, show rst 2 (x) (0) = none from by simp [rst]]); rw [e] at hQ; rw [hI]; exact hQ)
    | succ y =>
      refine V_iload dX5_push_59 rfl ?_
      refine V_bipush (v := nI 8) dX5_push_61 rfl ?_
      refine V_icmp_geN (tgt := 154) dX5_push_63 rfl (by omega) (by omega) (fun h => absurd h (by omega)) (fun _ => ?_)
      refine V_iload dX5_push_66 rfl ?_
      refine V_if_le (tgt := 154) dX5_push_68 rfl (fun h68 => ?_) (fun h68 => ?_)
      · skip
        refine V_aload_n dX5_push_154 rfl ?_
        refine V_bipush (v := nI 8) dX5_push_155 rfl ?_
        refine V_iload dX5_push_157 rfl ?_
        refine V_imulN dX5_push_159 ?_
        refine V_iload dX5_push_160 rfl ?_
        refine V_iaddN dX5_push_162 ?_
        refine V_putW dX5_push_163 fX5_71 ⟨Nat.le_of_ble_eq_true rfl, Nat.le_of_ble_eq_true rfl⟩ rfl rfl rfl ⟨rfl, rfl⟩ ?_
        exact V_ret ⟨rfl, dX5_push_166⟩ ⟨Nat.le_of_ble_eq_true rfl, Nat.le_of_ble_eq_true rfl⟩ (by have e : rolS (I 42) 2 (n + 1) (x) (y + 1) l = (some (8 * (y + 1) + (x)), 0) := (by rw [rolS, if_pos h68]); rw [e] at hQ; (try rw [show 8 * (0) + (x) = x from (by omega)] at hQ); rw [hI]; exact hQ)
      · skip
        refine V_aload_n dX5_push_71 rfl ?_
        refine V_bipush (v := nI 8) dX5_push_72 rfl ?_
        refine V_iload dX5_push_74 rfl ?_
        refine V_imulN dX5_push_76 ?_
        refine V_iload dX5_push_77 rfl ?_
        refine V_iaddN dX5_push_79 ?_
        refine V_callV (As := [.int (nI ((8 * (y + 1)) + x))]) (st := []) (a := 41) dX5_push_80 kX5_heightAt lX5_63 (by decide) rfl rfl (Nat.le_of_ble_eq_true rfl) ⟨Nat.le_of_ble_eq_true rfl, Nat.le_of_ble_eq_true rfl⟩ ⟨Nat.le_of_ble_eq_true rfl, Nat.le_of_ble_eq_true rfl⟩ rfl ⟨rfl, by decide⟩ (c_heightAt (by omega)) ?_
        rintro _ _ _ _ ⟨rfl, rfl, rfl, rfl⟩
        refine V_eqI (y := I 42 ((8 * (y + 1)) + x)) (by rw [hI]; rfl) ?_
        refine V_istore (ls' := [(11, .int (I 42 ((8 * (y + 1)) + x))), (0, .ref 41), (1, .int (nI x0)), (2, .int (nI y0)), (3, .int (nI 2)), (4, .int (nI p0)), (5, .int (nI 0)), (6, .int (-1)), (7, .int (nI x)), (8, .int (nI (y + 1))), (9, .int l), (10, .int (nI i))]) dX5_push_83 (by decide) rfl ?_
        refine V_iload dX5_push_85 rfl ?_
        refine V_iload dX5_push_87 rfl ?_
        refine V_iaddN dX5_push_89 ?_
        refine V_eqI (y := nI (x)) rfl ?_
        refine V_istore (ls' := [(7, .int (nI x)), (11, .int (I 42 ((8 * (y + 1)) + x))), (0, .ref 41), (1, .int (nI x0)), (2, .int (nI y0)), (3, .int (nI 2)), (4, .int (nI p0)), (5, .int (nI 0)), (6, .int (-1)), (8, .int (nI (y + 1))), (9, .int l), (10, .int (nI i))]) dX5_push_90 (by decide) rfl ?_
        refine V_iload dX5_push_92 rfl ?_
        refine V_iload dX5_push_94 rfl ?_
        refine V_iadd dX5_push_96 (V_eqI (pk_m1 y) ?_)
        refine V_istore (ls' := [(8, .int (nI y)), (7, .int (nI x)), (11, .int (I 42 ((8 * (y + 1)) + x))), (0, .ref 41), (1, .int (nI x0)), (2, .int (nI y0)), (3, .int (nI 2)), (4, .int (nI p0)), (5, .int (nI 0)), (6, .int (-1)), (9, .int l), (10, .int (nI i))]) dX5_push_97 (by decide) rfl ?_
        refine V_iload dX5_push_99 rfl ?_
        refine V_iload dX5_push_101 rfl ?_
        refine V_callS (As := [.int (nI x), .int (nI y)]) (st := []) dX5_push_103 kX11_isSpot lX5_67 (by decide) rfl rfl (Nat.le_of_ble_eq_true rfl) ⟨Nat.le_of_ble_eq_true rfl, Nat.le_of_ble_eq_true rfl⟩ (c_isSpot (by omega) (by omega)) ?_
        rintro _ _ _ _ ⟨rfl, rfl, rfl, rfl⟩
        refine V_eqI (y := nI 1) (congrArg nI (if_pos (by omega))) ?_
        refine V_if_ne (tgt := 116) dX5_push_106 rfl (fun _ => ?_) (fun h => absurd h (by decide))
        refine V_iload dX5_push_116 rfl ?_
        refine V_iload dX5_push_118 rfl ?_
        refine V_aload_n dX5_push_120 rfl ?_
        refine V_bipush (v := nI 8) dX5_push_121 rfl ?_
        refine V_iload dX5_push_123 rfl ?_
        refine V_imulN dX5_push_125 ?_
        refine V_iload dX5_push_126 rfl ?_
        refine V_iaddN dX5_push_128 ?_
        refine V_callV (As := [.int (nI ((8 * y) + x))]) (st := [.int (I 42 ((8 * (y + 1)) + x)), .int l]) (a := 41) dX5_push_129 kX5_heightAt lX5_63 (by decide) rfl rfl (Nat.le_of_ble_eq_true rfl) ⟨Nat.le_of_ble_eq_true rfl, Nat.le_of_ble_eq_true rfl⟩ ⟨Nat.le_of_ble_eq_true rfl, Nat.le_of_ble_eq_true rfl⟩ rfl ⟨rfl, by decide⟩ (c_heightAt (by omega)) ?_
        rintro _ _ _ _ ⟨rfl, rfl, rfl, rfl⟩
        refine V_eqI (y := I 42 ((8 * y) + x)) (by rw [hI]; rfl) ?_
        refine V_isub dX5_push_132 ?_
        refine V_iconst (v := nI 1) dX5_push_133 rfl ?_
        refine V_isub dX5_push_134 ?_
        refine V_iadd dX5_push_135 ?_
        refine V_istore (ls' := [(9, .int (l + (((I 42 ((8 * (y + 1)) + x)) - (I 42 ((8 * y) + x))) - (nI 1)))), (8, .int (nI y)), (7, .int (nI x)), (11, .int (I 42 ((8 * (y + 1)) + x))), (0, .ref 41), (1, .int (nI x0)), (2, .int (nI y0)), (3, .int (nI 2)), (4, .int (nI p0)), (5, .int (nI 0)), (6, .int (-1)), (10, .int (nI i))]) dX5_push_136 (by decide) rfl ?_
        refine V_aload_n dX5_push_138 rfl ?_
        refine V_dup dX5_push_139 rfl ?_
        refine V_getI dX5_push_140 fX5_60 ⟨Nat.le_of_ble_eq_true rfl, Nat.le_of_ble_eq_true rfl⟩ rfl rfl ?_
        refine V_eqI (y := nI i) (by rw [hI]; exact zwr_at.trans (if_pos ⟨rfl, rfl⟩)) ?_
        refine V_iconst (v := nI 1) dX5_push_143 rfl ?_
        refine V_iaddN dX5_push_144 ?_
        refine V_putW dX5_push_145 fX5_60 ⟨Nat.le_of_ble_eq_true rfl, Nat.le_of_ble_eq_true rfl⟩ rfl rfl rfl ⟨rfl, rfl⟩ ?_
        refine V_iincN (ls' := [(10, .int (nI (i + 1))), (9, .int (l + (((I 42 ((8 * (y + 1)) + x)) - (I 42 ((8 * y) + x))) - (nI 1)))), (8, .int (nI y)), (7, .int (nI x)), (11, .int (I 42 ((8 * (y + 1)) + x))), (0, .ref 41), (1, .int (nI x0)), (2, .int (nI y0)), (3, .int (nI 2)), (4, .int (nI p0)), (5, .int (nI 0)), (6, .int (-1))]) (n := 1) dX5_push_148 rfl rfl (by decide) (by decide) rfl ?_
        refine V_goto (tgt := 59) dX5_push_151 rfl ?_
        refine V_sub2 (ls' := [(0, .ref 41), (1, .int (nI x0)), (2, .int (nI y0)), (3, .int (nI 2)), (4, .int (nI p0)), (5, .int (nI 0)), (6, .int (-1)), (7, .int (nI x)), (8, .int (nI y)), (9, .int (l + (((I 42 ((8 * (y + 1)) + x)) - (I 42 ((8 * y) + x))) - (nI 1)))), (10, .int (nI (i + 1)))]) (List.forall_mem_cons.mpr ⟨rfl, List.forall_mem_cons.mpr ⟨rfl, List.forall_mem_cons.mpr ⟨rfl, List.forall_mem_cons.mpr ⟨rfl, List.forall_mem_cons.mpr ⟨rfl, List.forall_mem_cons.mpr ⟨rfl, List.forall_mem_cons.mpr ⟨rfl, List.forall_mem_cons.mpr ⟨rfl, List.forall_mem_cons.mpr ⟨rfl, List.forall_mem_cons.mpr ⟨rfl, List.forall_mem_cons.mpr ⟨rfl, fun _ h => absurd h List.not_mem_nil⟩⟩⟩⟩⟩⟩⟩⟩⟩⟩⟩) ?_
        refine ih (i + 1) (x) (y) _ _ Q (by omega) (by omega) (by omega) (by rw [hI]; exact zwr_zwr _ _ _ _ _) ?_
        have e : rolS (I 42) 2 (n + 1) (x) (y + 1) l = ((rolS (I 42) 2 n (x) (y) (l + (I 42 (8 * (y + 1) + (x)) - I 42 (8 * (y) + (x)) - nI 1))).1, (rolS (I 42) 2 n (x) (y) (l + (I 42 (8 * (y + 1) + (x)) - I 42 (8 * (y) + (x)) - nI 1))).2 + 1) := by
          rw [rolS, if_neg h68, show rst 2 (x) (y + 1) = some (x, y) from by simp [rst]]
        rw [e] at hQ
        have e2 : ∀ z, i + 1 + z = i + (z + 1) := fun z => by omega
        rw [e2]
        exact hQ

set_option maxRecDepth 100000 in
set_option maxHeartbeats 4000000 in
theorem c_push2 {G : zG} {I : zI} {J : zJ} {x y p : Nat} (hx : x < 8) (hy : y < 8) : zK G mX5_push 2 [.ref 41, .int (nI x), .int (nI y), .int (nI 2), .int (nI p)] zsh I J (zA2 (fun I' J' => I' = zwr (zwr I 41 4 (nI (rolS (I 42) 2 8 x y (nI p)).2)) 41 3 (fen (rolS (I 42) 2 8 x y (nI p)).1) ∧ J = J')) := by
  refine zK_of kX5_push.2.2.2.2.1 (Nat.le_of_ble_eq_true rfl) ?_
  show V G mX5_push 2 _ 0 [(0, .ref 41), (1, .int (nI x)), (2, .int (nI y)), (3, .int (nI 2)), (4, .int (nI p))] [] (0, 0) zsh I J
  refine V_iload_n dX5_push_0 rfl ?_
  refine V_iconst (v := nI 1) dX5_push_1 rfl ?_
  refine V_icmp_ne (tgt := 9) dX5_push_2 rfl (fun _ => ?_) (fun h => absurd h (by decide))
  refine V_iload_n dX5_push_9 rfl ?_
  refine V_iconst (v := nI 3) dX5_push_10 rfl ?_
  refine V_icmp_ne (tgt := 18) dX5_push_11 rfl (fun _ => ?_) (fun h => absurd h (by decide))
  refine V_iconst (v := nI 0) dX5_push_18 rfl ?_
  refine V_istore (ls' := [(5, .int (nI 0)), (0, .ref 41), (1, .int (nI x)), (2, .int (nI y)), (3, .int (nI 2)), (4, .int (nI p))]) dX5_push_19 (by decide) rfl ?_
  refine V_iload_n dX5_push_21 rfl ?_
  refine V_if_ne (tgt := 29) dX5_push_22 rfl (fun _ => ?_) (fun h => absurd h (by decide))
  refine V_iload_n dX5_push_29 rfl ?_
  refine V_iconst (v := nI 2) dX5_push_30 rfl ?_
  refine V_icmp_ne (tgt := 38) dX5_push_31 rfl (fun h => absurd h (by decide)) (fun _ => ?_)
  refine V_iconst (v := (-1)) dX5_push_34 rfl ?_
  refine V_goto (tgt := 39) dX5_push_35 rfl ?_
  refine V_istore (ls' := [(6, .int (-1)), (5, .int (nI 0)), (0, .ref 41), (1, .int (nI x)), (2, .int (nI y)), (3, .int (nI 2)), (4, .int (nI p))]) dX5_push_39 (by decide) rfl ?_
  refine V_iload_n dX5_push_41 rfl ?_
  refine V_istore (ls' := [(7, .int (nI x)), (6, .int (-1)), (5, .int (nI 0)), (0, .ref 41), (1, .int (nI x)), (2, .int (nI y)), (3, .int (nI 2)), (4, .int (nI p))]) dX5_push_42 (by decide) rfl ?_
  refine V_iload_n dX5_push_44 rfl ?_
  refine V_istore (ls' := [(8, .int (nI y)), (7, .int (nI x)), (6, .int (-1)), (5, .int (nI 0)), (0, .ref 41), (1, .int (nI x)), (2, .int (nI y)), (3, .int (nI 2)), (4, .int (nI p))]) dX5_push_45 (by decide) rfl ?_
  refine V_iload dX5_push_47 rfl ?_
  refine V_istore (ls' := [(9, .int (nI p)), (8, .int (nI y)), (7, .int (nI x)), (6, .int (-1)), (5, .int (nI 0)), (0, .ref 41), (1, .int (nI x)), (2, .int (nI y)), (3, .int (nI 2)), (4, .int (nI p))]) dX5_push_49 (by decide) rfl ?_
  refine V_aload_n dX5_push_51 rfl ?_
  refine V_iconst (v := nI 0) dX5_push_52 rfl ?_
  refine V_putW dX5_push_53 fX5_60 ⟨Nat.le_of_ble_eq_true rfl, Nat.le_of_ble_eq_true rfl⟩ rfl rfl rfl ⟨rfl, rfl⟩ ?_
  refine V_iconst (v := nI 0) dX5_push_56 rfl ?_
  refine V_istore (ls' := [(10, .int (nI 0)), (9, .int (nI p)), (8, .int (nI y)), (7, .int (nI x)), (6, .int (-1)), (5, .int (nI 0)), (0, .ref 41), (1, .int (nI x)), (2, .int (nI y)), (3, .int (nI 2)), (4, .int (nI p))]) dX5_push_57 (by decide) rfl ?_
  refine V_sub2 (ls' := [(0, .ref 41), (1, .int (nI x)), (2, .int (nI y)), (3, .int (nI 2)), (4, .int (nI p)), (5, .int (nI 0)), (6, .int (-1)), (7, .int (nI x)), (8, .int (nI y)), (9, .int (nI p)), (10, .int (nI 0))]) (List.forall_mem_cons.mpr ⟨rfl, List.forall_mem_cons.mpr ⟨rfl, List.forall_mem_cons.mpr ⟨rfl, List.forall_mem_cons.mpr ⟨rfl, List.forall_mem_cons.mpr ⟨rfl, List.forall_mem_cons.mpr ⟨rfl, List.forall_mem_cons.mpr ⟨rfl, List.forall_mem_cons.mpr ⟨rfl, List.forall_mem_cons.mpr ⟨rfl, List.forall_mem_cons.mpr ⟨rfl, List.forall_mem_cons.mpr ⟨rfl, fun _ h => absurd h List.not_mem_nil⟩⟩⟩⟩⟩⟩⟩⟩⟩⟩⟩) ?_
  refine lp_push2 8 0 x y (nI p) _ _ (by omega) hx hy rfl ⟨rfl, rfl, ?_, rfl⟩
  rw [Nat.zero_add]

set_option maxRecDepth 100000 in
set_option maxHeartbeats 4000000 in
theorem lp_push3 {G : zG} {I : zI} {J : zJ} {x0 y0 p0 : Nat} : ∀ n i x y l (I1 : zI) (Q : zQ), i + n = 8 → x < 8 → y < 8 → I1 = zwr I 41 4 (nI i) → (Q none zsh (zwr (zwr I 41 4 (nI (i + (rolS (I 42) 3 n x y l).2))) 41 3 (fen (rolS (I 42) 3 n x y l).1)) J) → V G mX5_push 2 Q 59 [(0, .ref 41), (1, .int (nI x0)), (2, .int (nI y0)), (3, .int (nI 3)), (4, .int (nI p0)), (5, .int (-1)), (6, .int (nI 0)), (7, .int (nI x)), (8, .int (nI y)), (9, .int l), (10, .int (nI i))] [] (0, 0) zsh I1 J := by
  intro n
  induction n with
  | zero =>
    intro i x y l I1 Q hi hx hy hI hQ
    refine V_iload dX5_push_59 rfl ?_
    refine V_bipush (v := nI 8) dX5_push_61 rfl ?_
    refine V_icmp_geN (tgt := 154) dX5_push_63 rfl (by omega) (by omega) (fun _ => ?_) (fun h => absurd h (by omega))
    refine V_aload_n dX5_push_154 rfl ?_
    refine V_bipush (v := nI 8) dX5_push_155 rfl ?_
    refine V_iload dX5_push_157 rfl ?_
    refine V_imulN dX5_push_159 ?_
    refine V_iload dX5_push_160 rfl ?_
    refine V_iaddN dX5_push_162 ?_
    refine V_putW dX5_push_163 fX5_71 ⟨Nat.le_of_ble_eq_true rfl, Nat.le_of_ble_eq_true rfl⟩ rfl rfl rfl ⟨rfl, rfl⟩ ?_
    exact V_ret ⟨rfl, dX5_push_166⟩ ⟨Nat.le_of_ble_eq_true rfl, Nat.le_of_ble_eq_true rfl⟩ (by rw [hI]; exact hQ)
  | succ n ih =>
    intro i x y l I1 Q hi hx hy hI hQ
    cases x with
    | zero =>
      refine V_iload dX5_push_59 rfl ?_
      refine V_bipush (v := nI 8) dX5_push_61 rfl ?_
      refine V_icmp_geN (tgt := 154) dX5_push_63 rfl (by omega) (by omega) (fun h => absurd h (by omega)) (fun _ => ?_)
      refine V_iload dX5_push_66 rfl ?_
      refine V_if_le (tgt := 154) dX5_push_68 rfl (fun h68 => ?_) (fun h68 => ?_)
      · skip
        refine V_aload_n dX5_push_154 rfl ?_
        refine V_bipush (v := nI 8) dX5_push_155 rfl ?_
        refine V_iload dX5_push_157 rfl ?_
        refine V_imulN dX5_push_159 ?_
        refine V_iload dX5_push_160 rfl ?_
        refine V_iaddN dX5_push_162 ?_
        refine V_eqI (y := nI (8 * y)) rfl ?_
        refine V_putW dX5_push_163 fX5_71 ⟨Nat.le_of_ble_eq_true rfl, Nat.le_of_ble_eq_true rfl⟩ rfl rfl rfl ⟨rfl, rfl⟩ ?_
        exact V_ret ⟨rfl, dX5_push_166⟩ ⟨Nat.le_of_ble_eq_true rfl, Nat.le_of_ble_eq_true rfl⟩ (by have e : rolS (I 42) 3 (n + 1) (0) (y) l = (some (8 * (y) + (0)), 0) := (by rw [rolS, if_pos h68]); rw [e] at hQ; (try rw [show 8 * (0) + (x) = x from (by omega)] at hQ); rw [hI]; exact hQ)
      · skip
        refine V_aload_n dX5_push_71 rfl ?_
        refine V_bipush (v := nI 8) dX5_push_72 rfl ?_
        refine V_iload dX5_push_74 rfl ?_
        refine V_imulN dX5_push_76 ?_
        refine V_iload dX5_push_77 rfl ?_
        refine V_iaddN dX5_push_79 ?_
        refine V_eqI (y := nI (8 * y)) rfl ?_
        refine V_callV (As := [.int (nI (8 * y))]) (st := []) (a := 41) dX5_push_80 kX5_heightAt lX5_63 (by decide) rfl rfl (Nat.le_of_ble_eq_true rfl) ⟨Nat.le_of_ble_eq_true rfl, Nat.le_of_ble_eq_true rfl⟩ ⟨Nat.le_of_ble_eq_true rfl, Nat.le_of_ble_eq_true rfl⟩ rfl ⟨rfl, by decide⟩ (c_heightAt (by omega)) ?_
        rintro _ _ _ _ ⟨rfl, rfl, rfl, rfl⟩
        refine V_eqI (y := I 42 (8 * y)) (by rw [hI]; rfl) ?_
        refine V_istore (ls' := [(11, .int (I 42 (8 * y))), (0, .ref 41), (1, .int (nI x0)), (2, .int (nI y0)), (3, .int (nI 3)), (4, .int (nI p0)), (5, .int (-1)), (6, .int (nI 0)), (7, .int (nI 0)), (8, .int (nI y)), (9, .int l), (10, .int (nI i))]) dX5_push_83 (by decide) rfl ?_
        refine V_iload dX5_push_85 rfl ?_
        refine V_iload dX5_push_87 rfl ?_
        refine V_iadd dX5_push_89 (V_eqI (y := (-1)) (by decide) ?_)
        refine V_istore (ls' := [(7, .int (-1)), (11, .int (I 42 (8 * y))), (0, .ref 41), (1, .int (nI x0)), (2, .int (nI y0)), (3, .int (nI 3)), (4, .int (nI p0)), (5, .int (-1)), (6, .int (nI 0)), (8, .int (nI y)), (9, .int l), (10, .int (nI i))]) dX5_push_90 (by decide) rfl ?_
        refine V_iload dX5_push_92 rfl ?_
        refine V_iload dX5_push_94 rfl ?_
        refine V_iaddN dX5_push_96 ?_
        refine V_eqI (y := nI (y)) rfl ?_
        refine V_istore (ls' := [(8, .int (nI y)), (7, .int (-1)), (11, .int (I 42 (8 * y))), (0, .ref 41), (1, .int (nI x0)), (2, .int (nI y0)), (3, .int (nI 3)), (4, .int (nI p0)), (5, .int (-1)), (6, .int (nI 0)), (9, .int l), (10, .int (nI i))]) dX5_push_97 (by decide) rfl ?_
        refine V_iload dX5_push_99 rfl ?_
        refine V_iload dX5_push_101 rfl ?_
        refine V_callS (As := [.int (-1), .int (nI y)]) (st := []) dX5_push_103 kX11_isSpot lX5_67 (by decide) rfl rfl (Nat.le_of_ble_eq_true rfl) ⟨Nat.le_of_ble_eq_true rfl, Nat.le_of_ble_eq_true rfl⟩ c_isSpotX ?_
        rintro _ _ _ _ ⟨rfl, rfl, rfl, rfl⟩
        refine V_if_ne (tgt := 116) dX5_push_106 rfl (fun h => absurd h (by decide)) (fun _ => ?_)
        refine V_aload_n dX5_push_109 rfl ?_
        refine V_bipush (v := (-2)) dX5_push_110 rfl ?_
        refine V_putW dX5_push_112 fX5_71 ⟨Nat.le_of_ble_eq_true rfl, Nat.le_of_ble_eq_true rfl⟩ rfl rfl rfl ⟨rfl, rfl⟩ ?_
        exact V_ret ⟨rfl, dX5_push_115⟩ ⟨Nat.le_of_ble_eq_true rfl, Nat.le_of_ble_eq_true rfl⟩ (by have e : rolS (I 42) 3 (n + 1) (0) (y) l = (none, 0) := (by rw [rolS, if_neg h68, show rst 3 (0) (y) = none from by simp [rst]]); rw [e] at hQ; rw [hI]; exact hQ)
    | succ x =>
      refine V_iload dX5_push_59 rfl ?_
      refine V_bipush (v := nI 8) dX5_push_61 rfl ?_
      refine V_icmp_geN (tgt := 154) dX5_push_63 rfl (by omega) (by omega) (fun h => absurd h (by omega)) (fun _ => ?_)
      refine V_iload dX5_push_66 rfl ?_
      refine V_if_le (tgt := 154) dX5_push_68 rfl (fun h68 => ?_) (fun h68 => ?_)
      · skip
        refine V_aload_n dX5_push_154 rfl ?_
        refine V_bipush (v := nI 8) dX5_push_155 rfl ?_
        refine V_iload dX5_push_157 rfl ?_
        refine V_imulN dX5_push_159 ?_
        refine V_iload dX5_push_160 rfl ?_
        refine V_iaddN dX5_push_162 ?_
        refine V_putW dX5_push_163 fX5_71 ⟨Nat.le_of_ble_eq_true rfl, Nat.le_of_ble_eq_true rfl⟩ rfl rfl rfl ⟨rfl, rfl⟩ ?_
        exact V_ret ⟨rfl, dX5_push_166⟩ ⟨Nat.le_of_ble_eq_true rfl, Nat.le_of_ble_eq_true rfl⟩ (by have e : rolS (I 42) 3 (n + 1) (x + 1) (y) l = (some (8 * (y) + (x + 1)), 0) := (by rw [rolS, if_pos h68]); rw [e] at hQ; (try rw [show 8 * (0) + (x) = x from (by omega)] at hQ); rw [hI]; exact hQ)
      · skip
        refine V_aload_n dX5_push_71 rfl ?_
        refine V_bipush (v := nI 8) dX5_push_72 rfl ?_
        refine V_iload dX5_push_74 rfl ?_
        refine V_imulN dX5_push_76 ?_
        refine V_iload dX5_push_77 rfl ?_
        refine V_iaddN dX5_push_79 ?_
        refine V_callV (As := [.int (nI ((8 * y) + (x + 1)))]) (st := []) (a := 41) dX5_push_80 kX5_heightAt lX5_63 (by decide) rfl rfl (Nat.le_of_ble_eq_true rfl) ⟨Nat.le_of_ble_eq_true rfl, Nat.le_of_ble_eq_true rfl⟩ ⟨Nat.le_of_ble_eq_true rfl, Nat.le_of_ble_eq_true rfl⟩ rfl ⟨rfl, by decide⟩ (c_heightAt (by omega)) ?_
        rintro _ _ _ _ ⟨rfl, rfl, rfl, rfl⟩
        refine V_eqI (y := I 42 ((8 * y) + (x + 1))) (by rw [hI]; rfl) ?_
        refine V_istore (ls' := [(11, .int (I 42 ((8 * y) + (x + 1)))), (0, .ref 41), (1, .int (nI x0)), (2, .int (nI y0)), (3, .int (nI 3)), (4, .int (nI p0)), (5, .int (-1)), (6, .int (nI 0)), (7, .int (nI (x + 1))), (8, .int (nI y)), (9, .int l), (10, .int (nI i))]) dX5_push_83 (by decide) rfl ?_
        refine V_iload dX5_push_85 rfl ?_
        refine V_iload dX5_push_87 rfl ?_
        refine V_iadd dX5_push_89 (V_eqI (pk_m1 x) ?_)
        refine V_istore (ls' := [(7, .int (nI x)), (11, .int (I 42 ((8 * y) + (x + 1)))), (0, .ref 41), (1, .int (nI x0)), (2, .int (nI y0)), (3, .int (nI 3)), (4, .int (nI p0)), (5, .int (-1)), (6, .int (nI 0)), (8, .int (nI y)), (9, .int l), (10, .int (nI i))]) dX5_push_90 (by decide) rfl ?_
        refine V_iload dX5_push_92 rfl ?_
        refine V_iload dX5_push_94 rfl ?_
        refine V_iaddN dX5_push_96 ?_
        refine V_eqI (y := nI (y)) rfl ?_
        refine V_istore (ls' := [(8, .int (nI y)), (7, .int (nI x)), (11, .int (I 42 ((8 * y) + (x + 1)))), (0, .ref 41), (1, .int (nI x0)), (2, .int (nI y0)), (3, .int (nI 3)), (4, .int (nI p0)), (5, .int (-1)), (6, .int (nI 0)), (9, .int l), (10, .int (nI i))]) dX5_push_97 (by decide) rfl ?_
        refine V_iload dX5_push_99 rfl ?_
        refine V_iload dX5_push_101 rfl ?_
        refine V_callS (As := [.int (nI x), .int (nI y)]) (st := []) dX5_push_103 kX11_isSpot lX5_67 (by decide) rfl rfl (Nat.le_of_ble_eq_true rfl) ⟨Nat.le_of_ble_eq_true rfl, Nat.le_of_ble_eq_true rfl⟩ (c_isSpot (by omega) (by omega)) ?_
        rintro _ _ _ _ ⟨rfl, rfl, rfl, rfl⟩
        refine V_eqI (y := nI 1) (congrArg nI (if_pos (by omega))) ?_
        refine V_if_ne (tgt := 116) dX5_push_106 rfl (fun _ => ?_) (fun h => absurd h (by decide))
        refine V_iload dX5_push_116 rfl ?_
        refine V_iload dX5_push_118 rfl ?_
        refine V_aload_n dX5_push_120 rfl ?_
        refine V_bipush (v := nI 8) dX5_push_121 rfl ?_
        refine V_iload dX5_push_123 rfl ?_
        refine V_imulN dX5_push_125 ?_
        refine V_iload dX5_push_126 rfl ?_
        refine V_iaddN dX5_push_128 ?_
        refine V_callV (As := [.int (nI ((8 * y) + x))]) (st := [.int (I 42 ((8 * y) + (x + 1))), .int l]) (a := 41) dX5_push_129 kX5_heightAt lX5_63 (by decide) rfl rfl (Nat.le_of_ble_eq_true rfl) ⟨Nat.le_of_ble_eq_true rfl, Nat.le_of_ble_eq_true rfl⟩ ⟨Nat.le_of_ble_eq_true rfl, Nat.le_of_ble_eq_true rfl⟩ rfl ⟨rfl, by decide⟩ (c_heightAt (by omega)) ?_
        rintro _ _ _ _ ⟨rfl, rfl, rfl, rfl⟩
        refine V_eqI (y := I 42 ((8 * y) + x)) (by rw [hI]; rfl) ?_
        refine V_isub dX5_push_132 ?_
        refine V_iconst (v := nI 1) dX5_push_133 rfl ?_
        refine V_isub dX5_push_134 ?_
        refine V_iadd dX5_push_135 ?_
        refine V_istore (ls' := [(9, .int (l + (((I 42 ((8 * y) + (x + 1))) - (I 42 ((8 * y) + x))) - (nI 1)))), (8, .int (nI y)), (7, .int (nI x)), (11, .int (I 42 ((8 * y) + (x + 1)))), (0, .ref 41), (1, .int (nI x0)), (2, .int (nI y0)), (3, .int (nI 3)), (4, .int (nI p0)), (5, .int (-1)), (6, .int (nI 0)), (10, .int (nI i))]) dX5_push_136 (by decide) rfl ?_
        refine V_aload_n dX5_push_138 rfl ?_
        refine V_dup dX5_push_139 rfl ?_
        refine V_getI dX5_push_140 fX5_60 ⟨Nat.le_of_ble_eq_true rfl, Nat.le_of_ble_eq_true rfl⟩ rfl rfl ?_
        refine V_eqI (y := nI i) (by rw [hI]; exact zwr_at.trans (if_pos ⟨rfl, rfl⟩)) ?_
        refine V_iconst (v := nI 1) dX5_push_143 rfl ?_
        refine V_iaddN dX5_push_144 ?_
        refine V_putW dX5_push_145 fX5_60 ⟨Nat.le_of_ble_eq_true rfl, Nat.le_of_ble_eq_true rfl⟩ rfl rfl rfl ⟨rfl, rfl⟩ ?_
        refine V_iincN (ls' := [(10, .int (nI (i + 1))), (9, .int (l + (((I 42 ((8 * y) + (x + 1))) - (I 42 ((8 * y) + x))) - (nI 1)))), (8, .int (nI y)), (7, .int (nI x)), (11, .int (I 42 ((8 * y) + (x + 1)))), (0, .ref 41), (1, .int (nI x0)), (2, .int (nI y0)), (3, .int (nI 3)), (4, .int (nI p0)), (5, .int (-1)), (6, .int (nI 0))]) (n := 1) dX5_push_148 rfl rfl (by decide) (by decide) rfl ?_
        refine V_goto (tgt := 59) dX5_push_151 rfl ?_
        refine V_sub2 (ls' := [(0, .ref 41), (1, .int (nI x0)), (2, .int (nI y0)), (3, .int (nI 3)), (4, .int (nI p0)), (5, .int (-1)), (6, .int (nI 0)), (7, .int (nI x)), (8, .int (nI y)), (9, .int (l + (((I 42 ((8 * y) + (x + 1))) - (I 42 ((8 * y) + x))) - (nI 1)))), (10, .int (nI (i + 1)))]) (List.forall_mem_cons.mpr ⟨rfl, List.forall_mem_cons.mpr ⟨rfl, List.forall_mem_cons.mpr ⟨rfl, List.forall_mem_cons.mpr ⟨rfl, List.forall_mem_cons.mpr ⟨rfl, List.forall_mem_cons.mpr ⟨rfl, List.forall_mem_cons.mpr ⟨rfl, List.forall_mem_cons.mpr ⟨rfl, List.forall_mem_cons.mpr ⟨rfl, List.forall_mem_cons.mpr ⟨rfl, List.forall_mem_cons.mpr ⟨rfl, fun _ h => absurd h List.not_mem_nil⟩⟩⟩⟩⟩⟩⟩⟩⟩⟩⟩) ?_
        refine ih (i + 1) (x) (y) _ _ Q (by omega) (by omega) (by omega) (by rw [hI]; exact zwr_zwr _ _ _ _ _) ?_
        have e : rolS (I 42) 3 (n + 1) (x + 1) (y) l = ((rolS (I 42) 3 n (x) (y) (l + (I 42 (8 * (y) + (x + 1)) - I 42 (8 * (y) + (x)) - nI 1))).1, (rolS (I 42) 3 n (x) (y) (l + (I 42 (8 * (y) + (x + 1)) - I 42 (8 * (y) + (x)) - nI 1))).2 + 1) := by
          rw [rolS, if_neg h68, show rst 3 (x + 1) (y) = some (x, y) from by simp [rst]]
        rw [e] at hQ
        have e2 : ∀ z, i + 1 + z = i + (z + 1) := fun z => by omega
        rw [e2]
        exact hQ

set_option maxRecDepth 100000 in
set_option maxHeartbeats 4000000 in
theorem c_push3 {G : zG} {I : zI} {J : zJ} {x y p : Nat} (hx : x < 8) (hy : y < 8) : zK G mX5_push 2 [.ref 41, .int (nI x), .int (nI y), .int (nI 3), .int (nI p)] zsh I J (zA2 (fun I' J' => I' = zwr (zwr I 41 4 (nI (rolS (I 42) 3 8 x y (nI p)).2)) 41 3 (fen (rolS (I 42) 3 8 x y (nI p)).1) ∧ J = J')) := by
  refine zK_of kX5_push.2.2.2.2.1 (Nat.le_of_ble_eq_true rfl) ?_
  show V G mX5_push 2 _ 0 [(0, .ref 41), (1, .int (nI x)), (2, .int (nI y)), (3, .int (nI 3)), (4, .int (nI p))] [] (0, 0) zsh I J
  refine V_iload_n dX5_push_0 rfl ?_
  refine V_iconst (v := nI 1) dX5_push_1 rfl ?_
  refine V_icmp_ne (tgt := 9) dX5_push_2 rfl (fun _ => ?_) (fun h => absurd h (by decide))
  refine V_iload_n dX5_push_9 rfl ?_
  refine V_iconst (v := nI 3) dX5_push_10 rfl ?_
  refine V_icmp_ne (tgt := 18) dX5_push_11 rfl (fun h => absurd h (by decide)) (fun _ => ?_)
  refine V_iconst (v := (-1)) dX5_push_14 rfl ?_
  refine V_goto (tgt := 19) dX5_push_15 rfl ?_
  refine V_istore (ls' := [(5, .int (-1)), (0, .ref 41), (1, .int (nI x)), (2, .int (nI y)), (3, .int (nI 3)), (4, .int (nI p))]) dX5_push_19 (by decide) rfl ?_
  refine V_iload_n dX5_push_21 rfl ?_
  refine V_if_ne (tgt := 29) dX5_push_22 rfl (fun _ => ?_) (fun h => absurd h (by decide))
  refine V_iload_n dX5_push_29 rfl ?_
  refine V_iconst (v := nI 2) dX5_push_30 rfl ?_
  refine V_icmp_ne (tgt := 38) dX5_push_31 rfl (fun _ => ?_) (fun h => absurd h (by decide))
  refine V_iconst (v := nI 0) dX5_push_38 rfl ?_
  refine V_istore (ls' := [(6, .int (nI 0)), (5, .int (-1)), (0, .ref 41), (1, .int (nI x)), (2, .int (nI y)), (3, .int (nI 3)), (4, .int (nI p))]) dX5_push_39 (by decide) rfl ?_
  refine V_iload_n dX5_push_41 rfl ?_
  refine V_istore (ls' := [(7, .int (nI x)), (6, .int (nI 0)), (5, .int (-1)), (0, .ref 41), (1, .int (nI x)), (2, .int (nI y)), (3, .int (nI 3)), (4, .int (nI p))]) dX5_push_42 (by decide) rfl ?_
  refine V_iload_n dX5_push_44 rfl ?_
  refine V_istore (ls' := [(8, .int (nI y)), (7, .int (nI x)), (6, .int (nI 0)), (5, .int (-1)), (0, .ref 41), (1, .int (nI x)), (2, .int (nI y)), (3, .int (nI 3)), (4, .int (nI p))]) dX5_push_45 (by decide) rfl ?_
  refine V_iload dX5_push_47 rfl ?_
  refine V_istore (ls' := [(9, .int (nI p)), (8, .int (nI y)), (7, .int (nI x)), (6, .int (nI 0)), (5, .int (-1)), (0, .ref 41), (1, .int (nI x)), (2, .int (nI y)), (3, .int (nI 3)), (4, .int (nI p))]) dX5_push_49 (by decide) rfl ?_
  refine V_aload_n dX5_push_51 rfl ?_
  refine V_iconst (v := nI 0) dX5_push_52 rfl ?_
  refine V_putW dX5_push_53 fX5_60 ⟨Nat.le_of_ble_eq_true rfl, Nat.le_of_ble_eq_true rfl⟩ rfl rfl rfl ⟨rfl, rfl⟩ ?_
  refine V_iconst (v := nI 0) dX5_push_56 rfl ?_
  refine V_istore (ls' := [(10, .int (nI 0)), (9, .int (nI p)), (8, .int (nI y)), (7, .int (nI x)), (6, .int (nI 0)), (5, .int (-1)), (0, .ref 41), (1, .int (nI x)), (2, .int (nI y)), (3, .int (nI 3)), (4, .int (nI p))]) dX5_push_57 (by decide) rfl ?_
  refine V_sub2 (ls' := [(0, .ref 41), (1, .int (nI x)), (2, .int (nI y)), (3, .int (nI 3)), (4, .int (nI p)), (5, .int (-1)), (6, .int (nI 0)), (7, .int (nI x)), (8, .int (nI y)), (9, .int (nI p)), (10, .int (nI 0))]) (List.forall_mem_cons.mpr ⟨rfl, List.forall_mem_cons.mpr ⟨rfl, List.forall_mem_cons.mpr ⟨rfl, List.forall_mem_cons.mpr ⟨rfl, List.forall_mem_cons.mpr ⟨rfl, List.forall_mem_cons.mpr ⟨rfl, List.forall_mem_cons.mpr ⟨rfl, List.forall_mem_cons.mpr ⟨rfl, List.forall_mem_cons.mpr ⟨rfl, List.forall_mem_cons.mpr ⟨rfl, List.forall_mem_cons.mpr ⟨rfl, fun _ h => absurd h List.not_mem_nil⟩⟩⟩⟩⟩⟩⟩⟩⟩⟩⟩) ?_
  refine lp_push3 8 0 x y (nI p) _ _ (by omega) hx hy rfl ⟨rfl, rfl, ?_, rfl⟩
  rw [Nat.zero_add]

/-- the distance's square of a stop from a spot -/
def lsq (s x fr y : Nat) : Nat := sqd (s % 8) x + sqd fr y
/-- of the pushes 1.. and rows 0.. looked at so far (c of them: push 1 + c / 8, row c % 8) the nearest: its square, row, push, stop -/
def layS (f : Nat → Int32) (x y : Nat) : Nat → Option (Nat × Nat × Nat × Nat)
  | 0 => none
  | c + 1 => match (rolS f 1 8 0 (c % 8) (nI (1 + c / 8))).1 with
    | none => layS f x y c
    | some s => match layS f x y c with
      | none => some (lsq s x (c % 8) y, c % 8, 1 + c / 8, s)
      | some b => if lsq s x (c % 8) y < b.1 then some (lsq s x (c % 8) y, c % 8, 1 + c / 8, s) else some b
