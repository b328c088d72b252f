/-! THE CLASS: begins, games, matches -/
/-- from f on, m of them: whose value is best for the side, and it -/
def ttL (v : Nat → Int64) (first : Nat) : Nat → Nat → Nat → Int64 → Nat × Int64
  | 0, _, c, x => (c, x)
  | m + 1, f, c, x => if (if first = 0 then x < v f else v f < x) then ttL v first m (f + 1) f (v f) else ttL v first m (f + 1) c x
theorem on01_0 {α : Type} {d a b : α} : on01 (nI 0) d a b = a := if_pos rfl
theorem on01_1 {α : Type} {d a b : α} : on01 (nI 1) d a b = b := (if_neg (by decide)).trans (if_pos rfl)
theorem cC_f {I I' : zI} {J J' : zJ} {c0 : Nat} {cc : Nat → Nat} (h : cC I c0 cc) (e : Fr2 I J I' J') : cC I' c0 cc := by
  refine ⟨by rw [e.1 16 (by decide) (by decide) (by decide) (by decide) (by decide)]; exact h.1, h.2.1, fun k hk => ⟨by rw [e.1 (19 + 2 * k) (by omega) (by omega) (by omega) (by omega) (by omega)]; exact (h.2.2 k hk).1, (h.2.2 k hk).2⟩⟩
theorem q_toldY {G : zG} {I : zI} {J : zJ} {c0 : Nat} {cc : Nat → Nat} (hC : cC I c0 cc) {k : Nat} (hk : k < 4) (h : 0 < cc k) : zK G mX11_isTold 1 [.ref 2, .int (nI k)] zsh I J (zA0 (.int (nI 1)) I J) := q_y (q_isTold hC) ((tld_k hk).mpr h)
theorem q_toldN {G : zG} {I : zI} {J : zJ} {c0 : Nat} {cc : Nat → Nat} (hC : cC I c0 cc) {k : Nat} (hk : k < 4) (h : ¬ 0 < cc k) : zK G mX11_isTold 1 [.ref 2, .int (nI k)] zsh I J (zA0 (.int (nI 0)) I J) := q_n (q_isTold hC) (fun h2 => h ((tld_k hk).mp h2))
set_option maxRecDepth 100000 in
set_option maxHeartbeats 4000000 in
theorem lp_toThrow {G : zG} {I : zI} {J : zJ} {Lf : Nat → (Nat → Int32) → Int32} {Rl : Nat → Nat → (Nat → Int32) → Int32} {s w : Nat} (hs1 : s ≤ 1) (hw1 : w ≤ 1) : ∀ k f c x I1 J1, f + k = 11 ∧ 6 ≤ f → eA Lf Rl I1 J1 → Fr2 I J I1 J1 → V G mX11_toThrow 18 (zP (fun r I' J' => r = some (.long (if w = 0 then (nI (ttL (fun f => vB Lf f s) s k f c x).1).toInt64 else (ttL (fun f => vB Lf f s) s k f c x).2)) ∧ eA Lf Rl I' J' ∧ Fr2 I J I' J')) 37 [(0, .ref 2), (1, .int (nI s)), (2, .int (nI w)), (3, .int (nI c)), (4, .long x), (6, .int (nI f))] [] (0, 0) zsh I1 J1 := by
  intro k
  induction k with
  | zero =>
    intro f c x I1 J1 hk hE1 hF1
    refine V_iload dX11_toThrow_37 rfl ?_
    refine V_bipush (v := nI 10) dX11_toThrow_39 rfl ?_
    refine V_icmp_gtN (tgt := 92) dX11_toThrow_41 rfl (by omega) (by omega) (fun _ => ?_) (fun h => absurd h (by omega))
    refine V_iload_n dX11_toThrow_92 rfl ?_
    refine V_if_neN (tgt := 101) dX11_toThrow_93 rfl (by omega) (fun h93 => ?_) (fun h93 => ?_)
    · skip
      refine V_lload dX11_toThrow_101 rfl ?_
      exact V_lret ⟨rfl, dX11_toThrow_103⟩ ⟨Nat.le_of_ble_eq_true rfl, Nat.le_of_ble_eq_true rfl⟩ ⟨rfl, congrArg (fun z => some (Value.long z)) (if_neg h93).symm, hE1, hF1⟩
    · skip
      refine V_iload_n dX11_toThrow_96 rfl ?_
      refine V_i2l dX11_toThrow_97 ?_
      refine V_goto (tgt := 103) dX11_toThrow_98 rfl ?_
      exact V_lret ⟨rfl, dX11_toThrow_103⟩ ⟨Nat.le_of_ble_eq_true rfl, Nat.le_of_ble_eq_true rfl⟩ ⟨rfl, congrArg (fun z => some (Value.long z)) (if_pos h93).symm, hE1, hF1⟩
  | succ k ih =>
    intro f c x I1 J1 hk hE1 hF1
    refine V_iload dX11_toThrow_37 rfl ?_
    refine V_bipush (v := nI 10) dX11_toThrow_39 rfl ?_
    refine V_icmp_gtN (tgt := 92) dX11_toThrow_41 rfl (by omega) (by omega) (fun h => absurd h (by omega)) (fun _ => ?_)
    refine V_aload_n dX11_toThrow_44 rfl ?_
    refine V_getR (b := 9) dX11_toThrow_45 fX11_33 ⟨Nat.le_of_ble_eq_true rfl, Nat.le_of_ble_eq_true rfl⟩ rfl rfl rfl ?_
    refine V_iload dX11_toThrow_48 rfl ?_
    refine V_iload_n dX11_toThrow_50 rfl ?_
    refine V_callV (As := [.int (nI f), .int (nI s)]) (st := []) (a := 9) dX11_toThrow_51 kX3_beginValue lX11_201 (by decide) rfl rfl (Nat.le_of_ble_eq_true rfl) ⟨Nat.le_of_ble_eq_true rfl, Nat.le_of_ble_eq_true rfl⟩ ⟨Nat.le_of_ble_eq_true rfl, Nat.le_of_ble_eq_true rfl⟩ rfl ⟨rfl, by decide⟩ (c_beginValue (by omega) (by omega) hs1 hE1) ?_
    rintro r sh' I2 J2 ⟨rfl, rfl, hE2, hF2⟩
    refine V_lstore (ls' := [(7, .long (vB Lf f s)), (0, .ref 2), (1, .int (nI s)), (2, .int (nI w)), (3, .int (nI c)), (4, .long x), (6, .int (nI f))]) dX11_toThrow_54 (by decide) rfl ?_
    refine V_iload_n dX11_toThrow_56 rfl ?_
    refine V_if_neN (tgt := 71) dX11_toThrow_57 rfl (by omega) (fun h57 => ?_) (fun h57 => ?_)
    · skip
      refine V_lload dX11_toThrow_71 rfl ?_
      refine V_lload dX11_toThrow_73 rfl ?_
      refine V_lcmp dX11_toThrow_75 ?_
      refine V_if_ge (tgt := 86) dX11_toThrow_76 rfl (fun h76 => ?_) (fun h76 => ?_)
      · skip
        have hc : ¬ (if s = 0 then x < vB Lf f s else vB Lf f s < x) := by rw [if_neg h57]; exact wl_lt.mp h76
        refine V_iincN (ls' := [(6, .int (nI (f + 1))), (7, .long (vB Lf f s)), (0, .ref 2), (1, .int (nI s)), (2, .int (nI w)), (3, .int (nI c)), (4, .long x)]) (n := 1) dX11_toThrow_86 rfl rfl (by decide) (by decide) rfl ?_
        refine V_goto (tgt := 37) dX11_toThrow_89 rfl ?_
        refine V_sub2 (ls' := [(0, .ref 2), (1, .int (nI s)), (2, .int (nI w)), (3, .int (nI c)), (4, .long x), (6, .int (nI (f + 1)))]) (List.forall_mem_cons.mpr ⟨rfl, List.forall_mem_cons.mpr ⟨rfl, List.forall_mem_cons.mpr ⟨rfl, List.forall_mem_cons.mpr ⟨rfl, List.forall_mem_cons.mpr ⟨rfl, List.forall_mem_cons.mpr ⟨rfl, fun _ h => absurd h List.not_mem_nil⟩⟩⟩⟩⟩⟩) ?_
        have e9 : (ttL (fun f => vB Lf f s) s (k + 1) f c x) = (ttL (fun f => vB Lf f s) s k (f + 1) c x) := by
          conv => lhs; unfold ttL
          exact if_neg hc
        rw [e9]
        exact ih (f + 1) c x _ _ (by omega) hE2 (Fr2_t hF1 hF2)
      · skip
        have hc : (if s = 0 then x < vB Lf f s else vB Lf f s < x) := by rw [if_neg h57]; exact Decidable.of_not_not (fun h => h76 (wl_lt.mpr h))
        refine V_iload dX11_toThrow_79 rfl ?_
        refine V_istore_n (ls' := [(3, .int (nI f)), (7, .long (vB Lf f s)), (0, .ref 2), (1, .int (nI s)), (2, .int (nI w)), (4, .long x), (6, .int (nI f))]) dX11_toThrow_81 (by decide) rfl ?_
        refine V_lload dX11_toThrow_82 rfl ?_
        refine V_lstore (ls' := [(4, .long (vB Lf f s)), (3, .int (nI f)), (7, .long (vB Lf f s)), (0, .ref 2), (1, .int (nI s)), (2, .int (nI w)), (6, .int (nI f))]) dX11_toThrow_84 (by decide) rfl ?_
        refine V_iincN (ls' := [(6, .int (nI (f + 1))), (4, .long (vB Lf f s)), (3, .int (nI f)), (7, .long (vB Lf f s)), (0, .ref 2), (1, .int (nI s)), (2, .int (nI w))]) (n := 1) dX11_toThrow_86 rfl rfl (by decide) (by decide) rfl ?_
        refine V_goto (tgt := 37) dX11_toThrow_89 rfl ?_
        refine V_sub2 (ls' := [(0, .ref 2), (1, .int (nI s)), (2, .int (nI w)), (3, .int (nI f)), (4, .long (vB Lf f s)), (6, .int (nI (f + 1)))]) (List.forall_mem_cons.mpr ⟨rfl, List.forall_mem_cons.mpr ⟨rfl, List.forall_mem_cons.mpr ⟨rfl, List.forall_mem_cons.mpr ⟨rfl, List.forall_mem_cons.mpr ⟨rfl, List.forall_mem_cons.mpr ⟨rfl, fun _ h => absurd h List.not_mem_nil⟩⟩⟩⟩⟩⟩) ?_
        have e9 : (ttL (fun f => vB Lf f s) s (k + 1) f c x) = (ttL (fun f => vB Lf f s) s k (f + 1) f (vB Lf f s)) := by
          conv => lhs; unfold ttL
          exact if_pos hc
        rw [e9]
        exact ih (f + 1) f (vB Lf f s) _ _ (by omega) hE2 (Fr2_t hF1 hF2)
    · skip
      refine V_lload dX11_toThrow_60 rfl ?_
      refine V_lload dX11_toThrow_62 rfl ?_
      refine V_lcmp dX11_toThrow_64 ?_
      refine V_if_le (tgt := 86) dX11_toThrow_65 rfl (fun h65 => ?_) (fun h65 => ?_)
      · skip
        have hc : ¬ (if s = 0 then x < vB Lf f s else vB Lf f s < x) := by rw [if_pos h57]; exact wl_gt.mp h65
        refine V_iincN (ls' := [(6, .int (nI (f + 1))), (7, .long (vB Lf f s)), (0, .ref 2), (1, .int (nI s)), (2, .int (nI w)), (3, .int (nI c)), (4, .long x)]) (n := 1) dX11_toThrow_86 rfl rfl (by decide) (by decide) rfl ?_
        refine V_goto (tgt := 37) dX11_toThrow_89 rfl ?_
        refine V_sub2 (ls' := [(0, .ref 2), (1, .int (nI s)), (2, .int (nI w)), (3, .int (nI c)), (4, .long x), (6, .int (nI (f + 1)))]) (List.forall_mem_cons.mpr ⟨rfl, List.forall_mem_cons.mpr ⟨rfl, List.forall_mem_cons.mpr ⟨rfl, List.forall_mem_cons.mpr ⟨rfl, List.forall_mem_cons.mpr ⟨rfl, List.forall_mem_cons.mpr ⟨rfl, fun _ h => absurd h List.not_mem_nil⟩⟩⟩⟩⟩⟩) ?_
        have e9 : (ttL (fun f => vB Lf f s) s (k + 1) f c x) = (ttL (fun f => vB Lf f s) s k (f + 1) c x) := by
          conv => lhs; unfold ttL
          exact if_neg hc
        rw [e9]
        exact ih (f + 1) c x _ _ (by omega) hE2 (Fr2_t hF1 hF2)
      · skip
        have hc : (if s = 0 then x < vB Lf f s else vB Lf f s < x) := by rw [if_pos h57]; exact Decidable.of_not_not (fun h => h65 (wl_gt.mpr h))
        refine V_goto (tgt := 79) dX11_toThrow_68 rfl ?_
        refine V_iload dX11_toThrow_79 rfl ?_
        refine V_istore_n (ls' := [(3, .int (nI f)), (7, .long (vB Lf f s)), (0, .ref 2), (1, .int (nI s)), (2, .int (nI w)), (4, .long x), (6, .int (nI f))]) dX11_toThrow_81 (by decide) rfl ?_
        refine V_lload dX11_toThrow_82 rfl ?_
        refine V_lstore (ls' := [(4, .long (vB Lf f s)), (3, .int (nI f)), (7, .long (vB Lf f s)), (0, .ref 2), (1, .int (nI s)), (2, .int (nI w)), (6, .int (nI f))]) dX11_toThrow_84 (by decide) rfl ?_
        refine V_iincN (ls' := [(6, .int (nI (f + 1))), (4, .long (vB Lf f s)), (3, .int (nI f)), (7, .long (vB Lf f s)), (0, .ref 2), (1, .int (nI s)), (2, .int (nI w))]) (n := 1) dX11_toThrow_86 rfl rfl (by decide) (by decide) rfl ?_
        refine V_goto (tgt := 37) dX11_toThrow_89 rfl ?_
        refine V_sub2 (ls' := [(0, .ref 2), (1, .int (nI s)), (2, .int (nI w)), (3, .int (nI f)), (4, .long (vB Lf f s)), (6, .int (nI (f + 1)))]) (List.forall_mem_cons.mpr ⟨rfl, List.forall_mem_cons.mpr ⟨rfl, List.forall_mem_cons.mpr ⟨rfl, List.forall_mem_cons.mpr ⟨rfl, List.forall_mem_cons.mpr ⟨rfl, List.forall_mem_cons.mpr ⟨rfl, fun _ h => absurd h List.not_mem_nil⟩⟩⟩⟩⟩⟩) ?_
        have e9 : (ttL (fun f => vB Lf f s) s (k + 1) f c x) = (ttL (fun f => vB Lf f s) s k (f + 1) f (vB Lf f s)) := by
          conv => lhs; unfold ttL
          exact if_pos hc
        rw [e9]
        exact ih (f + 1) f (vB Lf f s) _ _ (by omega) hE2 (Fr2_t hF1 hF2)

set_option maxRecDepth 100000 in
set_option maxHeartbeats 4000000 in
theorem c_toThrow {G : zG} {I : zI} {J : zJ} {Lf : Nat → (Nat → Int32) → Int32} {Rl : Nat → Nat → (Nat → Int32) → Int32} (hE : eA Lf Rl I J) {s w : Int32} : zK G mX11_toThrow 18 [.ref 2, .int s, .int w] zsh I J (zP (fun r I' J' => r = some (.long (if inZ s 0 1 ∧ inZ w 0 1 then on01 s 0 (on01 w 0 (nI (ttL (fun f => vB Lf f 0) 0 4 7 6 (vB Lf 6 0)).1).toInt64 (ttL (fun f => vB Lf f 0) 0 4 7 6 (vB Lf 6 0)).2) (on01 w 0 (nI (ttL (fun f => vB Lf f 1) 1 4 7 6 (vB Lf 6 1)).1).toInt64 (ttL (fun f => vB Lf f 1) 1 4 7 6 (vB Lf 6 1)).2) else -2000000000000000000)) ∧ eA Lf Rl I' J' ∧ Fr2 I J I' J')) := by
  refine zK_of kX11_toThrow.2.2.2.2.1 (Nat.le_of_ble_eq_true rfl) ?_
  show V G mX11_toThrow 18 _ 0 [(0, .ref 2), (1, .int s), (2, .int w)] [] (0, 0) zsh I J
  by_cases hs : inZ s 0 1
  · by_cases hw : inZ w 0 1
    · rcases inZ01 hs with rfl | rfl <;> rcases inZ01 hw with rfl | rfl
      · skip
        refine V_iload_n dX11_toThrow_0 rfl ?_
        refine V_callS (As := [.int (nI 0)]) (st := []) dX11_toThrow_1 kX11_isSide lX11_198 (by decide) rfl rfl (Nat.le_of_ble_eq_true rfl) ⟨Nat.le_of_ble_eq_true rfl, Nat.le_of_ble_eq_true rfl⟩ (q_y q_isSide (by decide)) ?_
        rintro _ _ _ _ ⟨rfl, rfl, rfl, rfl⟩
        refine V_if_eq (tgt := 14) dX11_toThrow_4 rfl (fun h => absurd h (by decide)) (fun _ => ?_)
        refine V_iload_n dX11_toThrow_7 rfl ?_
        refine V_callS (As := [.int (nI 0)]) (st := []) dX11_toThrow_8 kX11_isValueOrThrow lX11_174 (by decide) rfl rfl (Nat.le_of_ble_eq_true rfl) ⟨Nat.le_of_ble_eq_true rfl, Nat.le_of_ble_eq_true rfl⟩ (q_y q_isValueOrThrow (by decide)) ?_
        rintro _ _ _ _ ⟨rfl, rfl, rfl, rfl⟩
        refine V_if_ne (tgt := 18) dX11_toThrow_11 rfl (fun _ => ?_) (fun h => absurd h (by decide))
        refine V_bipush (v := nI 6) dX11_toThrow_18 rfl ?_
        refine V_istore_n (ls' := [(3, .int (nI 6)), (0, .ref 2), (1, .int (nI 0)), (2, .int (nI 0))]) dX11_toThrow_20 (by decide) rfl ?_
        refine V_aload_n dX11_toThrow_21 rfl ?_
        refine V_getR (b := 9) dX11_toThrow_22 fX11_33 ⟨Nat.le_of_ble_eq_true rfl, Nat.le_of_ble_eq_true rfl⟩ rfl rfl rfl ?_
        refine V_bipush (v := nI 6) dX11_toThrow_25 rfl ?_
        refine V_iload_n dX11_toThrow_27 rfl ?_
        refine V_callV (As := [.int (nI 6), .int (nI 0)]) (st := []) (a := 9) dX11_toThrow_28 kX3_beginValue lX11_201 (by decide) rfl rfl (Nat.le_of_ble_eq_true rfl) ⟨Nat.le_of_ble_eq_true rfl, Nat.le_of_ble_eq_true rfl⟩ ⟨Nat.le_of_ble_eq_true rfl, Nat.le_of_ble_eq_true rfl⟩ rfl ⟨rfl, by decide⟩ (c_beginValue (by omega) (by omega) (by decide) hE) ?_
        rintro r sh' I2 J2 ⟨rfl, rfl, hE2, hF2⟩
        refine V_lstore (ls' := [(4, .long (vB Lf 6 0)), (3, .int (nI 6)), (0, .ref 2), (1, .int (nI 0)), (2, .int (nI 0))]) dX11_toThrow_31 (by decide) rfl ?_
        refine V_bipush (v := nI 7) dX11_toThrow_33 rfl ?_
        refine V_istore (ls' := [(6, .int (nI 7)), (4, .long (vB Lf 6 0)), (3, .int (nI 6)), (0, .ref 2), (1, .int (nI 0)), (2, .int (nI 0))]) dX11_toThrow_35 (by decide) rfl ?_
        refine V_sub2 (ls' := [(0, .ref 2), (1, .int (nI 0)), (2, .int (nI 0)), (3, .int (nI 6)), (4, .long (vB Lf 6 0)), (6, .int (nI 7))]) (List.forall_mem_cons.mpr ⟨rfl, List.forall_mem_cons.mpr ⟨rfl, List.forall_mem_cons.mpr ⟨rfl, List.forall_mem_cons.mpr ⟨rfl, List.forall_mem_cons.mpr ⟨rfl, List.forall_mem_cons.mpr ⟨rfl, fun _ h => absurd h List.not_mem_nil⟩⟩⟩⟩⟩⟩) ?_
        refine zQ_mono ?_ (lp_toThrow (s := 0) (w := 0) (by decide) (by decide) 4 7 6 _ I2 J2 (by decide) hE2 hF2)
        rintro r sh' I' J' ⟨rfl, h1, h2, h3⟩
        refine ⟨rfl, h1.trans (congrArg (fun z => some (Value.long z)) ?_), h2, h3⟩
        refine (if_pos rfl).trans ?_
        rw [if_pos ⟨by decide, by decide⟩, on01_0, on01_0]
      · skip
        refine V_iload_n dX11_toThrow_0 rfl ?_
        refine V_callS (As := [.int (nI 0)]) (st := []) dX11_toThrow_1 kX11_isSide lX11_198 (by decide) rfl rfl (Nat.le_of_ble_eq_true rfl) ⟨Nat.le_of_ble_eq_true rfl, Nat.le_of_ble_eq_true rfl⟩ (q_y q_isSide (by decide)) ?_
        rintro _ _ _ _ ⟨rfl, rfl, rfl, rfl⟩
        refine V_if_eq (tgt := 14) dX11_toThrow_4 rfl (fun h => absurd h (by decide)) (fun _ => ?_)
        refine V_iload_n dX11_toThrow_7 rfl ?_
        refine V_callS (As := [.int (nI 1)]) (st := []) dX11_toThrow_8 kX11_isValueOrThrow lX11_174 (by decide) rfl rfl (Nat.le_of_ble_eq_true rfl) ⟨Nat.le_of_ble_eq_true rfl, Nat.le_of_ble_eq_true rfl⟩ (q_y q_isValueOrThrow (by decide)) ?_
        rintro _ _ _ _ ⟨rfl, rfl, rfl, rfl⟩
        refine V_if_ne (tgt := 18) dX11_toThrow_11 rfl (fun _ => ?_) (fun h => absurd h (by decide))
        refine V_bipush (v := nI 6) dX11_toThrow_18 rfl ?_
        refine V_istore_n (ls' := [(3, .int (nI 6)), (0, .ref 2), (1, .int (nI 0)), (2, .int (nI 1))]) dX11_toThrow_20 (by decide) rfl ?_
        refine V_aload_n dX11_toThrow_21 rfl ?_
        refine V_getR (b := 9) dX11_toThrow_22 fX11_33 ⟨Nat.le_of_ble_eq_true rfl, Nat.le_of_ble_eq_true rfl⟩ rfl rfl rfl ?_
        refine V_bipush (v := nI 6) dX11_toThrow_25 rfl ?_
        refine V_iload_n dX11_toThrow_27 rfl ?_
        refine V_callV (As := [.int (nI 6), .int (nI 0)]) (st := []) (a := 9) dX11_toThrow_28 kX3_beginValue lX11_201 (by decide) rfl rfl (Nat.le_of_ble_eq_true rfl) ⟨Nat.le_of_ble_eq_true rfl, Nat.le_of_ble_eq_true rfl⟩ ⟨Nat.le_of_ble_eq_true rfl, Nat.le_of_ble_eq_true rfl⟩ rfl ⟨rfl, by decide⟩ (c_beginValue (by omega) (by omega) (by decide) hE) ?_
        rintro r sh' I2 J2 ⟨rfl, rfl, hE2, hF2⟩
        refine V_lstore (ls' := [(4, .long (vB Lf 6 0)), (3, .int (nI 6)), (0, .ref 2), (1, .int (nI 0)), (2, .int (nI 1))]) dX11_toThrow_31 (by decide) rfl ?_
        refine V_bipush (v := nI 7) dX11_toThrow_33 rfl ?_
        refine V_istore (ls' := [(6, .int (nI 7)), (4, .long (vB Lf 6 0)), (3, .int (nI 6)), (0, .ref 2), (1, .int (nI 0)), (2, .int (nI 1))]) dX11_toThrow_35 (by decide) rfl ?_
        refine V_sub2 (ls' := [(0, .ref 2), (1, .int (nI 0)), (2, .int (nI 1)), (3, .int (nI 6)), (4, .long (vB Lf 6 0)), (6, .int (nI 7))]) (List.forall_mem_cons.mpr ⟨rfl, List.forall_mem_cons.mpr ⟨rfl, List.forall_mem_cons.mpr ⟨rfl, List.forall_mem_cons.mpr ⟨rfl, List.forall_mem_cons.mpr ⟨rfl, List.forall_mem_cons.mpr ⟨rfl, fun _ h => absurd h List.not_mem_nil⟩⟩⟩⟩⟩⟩) ?_
        refine zQ_mono ?_ (lp_toThrow (s := 0) (w := 1) (by decide) (by decide) 4 7 6 _ I2 J2 (by decide) hE2 hF2)
        rintro r sh' I' J' ⟨rfl, h1, h2, h3⟩
        refine ⟨rfl, h1.trans (congrArg (fun z => some (Value.long z)) ?_), h2, h3⟩
        refine (if_neg (Nat.succ_ne_zero 0)).trans ?_
        rw [if_pos ⟨by decide, by decide⟩, on01_0, on01_1]
      · skip
        refine V_iload_n dX11_toThrow_0 rfl ?_
        refine V_callS (As := [.int (nI 1)]) (st := []) dX11_toThrow_1 kX11_isSide lX11_198 (by decide) rfl rfl (Nat.le_of_ble_eq_true rfl) ⟨Nat.le_of_ble_eq_true rfl, Nat.le_of_ble_eq_true rfl⟩ (q_y q_isSide (by decide)) ?_
        rintro _ _ _ _ ⟨rfl, rfl, rfl, rfl⟩
        refine V_if_eq (tgt := 14) dX11_toThrow_4 rfl (fun h => absurd h (by decide)) (fun _ => ?_)
        refine V_iload_n dX11_toThrow_7 rfl ?_
        refine V_callS (As := [.int (nI 0)]) (st := []) dX11_toThrow_8 kX11_isValueOrThrow lX11_174 (by decide) rfl rfl (Nat.le_of_ble_eq_true rfl) ⟨Nat.le_of_ble_eq_true rfl, Nat.le_of_ble_eq_true rfl⟩ (q_y q_isValueOrThrow (by decide)) ?_
        rintro _ _ _ _ ⟨rfl, rfl, rfl, rfl⟩
        refine V_if_ne (tgt := 18) dX11_toThrow_11 rfl (fun _ => ?_) (fun h => absurd h (by decide))
        refine V_bipush (v := nI 6) dX11_toThrow_18 rfl ?_
        refine V_istore_n (ls' := [(3, .int (nI 6)), (0, .ref 2), (1, .int (nI 1)), (2, .int (nI 0))]) dX11_toThrow_20 (by decide) rfl ?_
        refine V_aload_n dX11_toThrow_21 rfl ?_
        refine V_getR (b := 9) dX11_toThrow_22 fX11_33 ⟨Nat.le_of_ble_eq_true rfl, Nat.le_of_ble_eq_true rfl⟩ rfl rfl rfl ?_
        refine V_bipush (v := nI 6) dX11_toThrow_25 rfl ?_
        refine V_iload_n dX11_toThrow_27 rfl ?_
        refine V_callV (As := [.int (nI 6), .int (nI 1)]) (st := []) (a := 9) dX11_toThrow_28 kX3_beginValue lX11_201 (by decide) rfl rfl (Nat.le_of_ble_eq_true rfl) ⟨Nat.le_of_ble_eq_true rfl, Nat.le_of_ble_eq_true rfl⟩ ⟨Nat.le_of_ble_eq_true rfl, Nat.le_of_ble_eq_true rfl⟩ rfl ⟨rfl, by decide⟩ (c_beginValue (by omega) (by omega) (by decide) hE) ?_
        rintro r sh' I2 J2 ⟨rfl, rfl, hE2, hF2⟩
        refine V_lstore (ls' := [(4, .long (vB Lf 6 1)), (3, .int (nI 6)), (0, .ref 2), (1, .int (nI 1)), (2, .int (nI 0))]) dX11_toThrow_31 (by decide) rfl ?_
        refine V_bipush (v := nI 7) dX11_toThrow_33 rfl ?_
        refine V_istore (ls' := [(6, .int (nI 7)), (4, .long (vB Lf 6 1)), (3, .int (nI 6)), (0, .ref 2), (1, .int (nI 1)), (2, .int (nI 0))]) dX11_toThrow_35 (by decide) rfl ?_
        refine V_sub2 (ls' := [(0, .ref 2), (1, .int (nI 1)), (2, .int (nI 0)), (3, .int (nI 6)), (4, .long (vB Lf 6 1)), (6, .int (nI 7))]) (List.forall_mem_cons.mpr ⟨rfl, List.forall_mem_cons.mpr ⟨rfl, List.forall_mem_cons.mpr ⟨rfl, List.forall_mem_cons.mpr ⟨rfl, List.forall_mem_cons.mpr ⟨rfl, List.forall_mem_cons.mpr ⟨rfl, fun _ h => absurd h List.not_mem_nil⟩⟩⟩⟩⟩⟩) ?_
        refine zQ_mono ?_ (lp_toThrow (s := 1) (w := 0) (by decide) (by decide) 4 7 6 _ I2 J2 (by decide) hE2 hF2)
        rintro r sh' I' J' ⟨rfl, h1, h2, h3⟩
        refine ⟨rfl, h1.trans (congrArg (fun z => some (Value.long z)) ?_), h2, h3⟩
        refine (if_pos rfl).trans ?_
        rw [if_pos ⟨by decide, by decide⟩, on01_1, on01_0]
      · skip
        refine V_iload_n dX11_toThrow_0 rfl ?_
        refine V_callS (As := [.int (nI 1)]) (st := []) dX11_toThrow_1 kX11_isSide lX11_198 (by decide) rfl rfl (Nat.le_of_ble_eq_true rfl) ⟨Nat.le_of_ble_eq_true rfl, Nat.le_of_ble_eq_true rfl⟩ (q_y q_isSide (by decide)) ?_
        rintro _ _ _ _ ⟨rfl, rfl, rfl, rfl⟩
        refine V_if_eq (tgt := 14) dX11_toThrow_4 rfl (fun h => absurd h (by decide)) (fun _ => ?_)
        refine V_iload_n dX11_toThrow_7 rfl ?_
        refine V_callS (As := [.int (nI 1)]) (st := []) dX11_toThrow_8 kX11_isValueOrThrow lX11_174 (by decide) rfl rfl (Nat.le_of_ble_eq_true rfl) ⟨Nat.le_of_ble_eq_true rfl, Nat.le_of_ble_eq_true rfl⟩ (q_y q_isValueOrThrow (by decide)) ?_
        rintro _ _ _ _ ⟨rfl, rfl, rfl, rfl⟩
        refine V_if_ne (tgt := 18) dX11_toThrow_11 rfl (fun _ => ?_) (fun h => absurd h (by decide))
        refine V_bipush (v := nI 6) dX11_toThrow_18 rfl ?_
        refine V_istore_n (ls' := [(3, .int (nI 6)), (0, .ref 2), (1, .int (nI 1)), (2, .int (nI 1))]) dX11_toThrow_20 (by decide) rfl ?_
        refine V_aload_n dX11_toThrow_21 rfl ?_
        refine V_getR (b := 9) dX11_toThrow_22 fX11_33 ⟨Nat.le_of_ble_eq_true rfl, Nat.le_of_ble_eq_true rfl⟩ rfl rfl rfl ?_
        refine V_bipush (v := nI 6) dX11_toThrow_25 rfl ?_
        refine V_iload_n dX11_toThrow_27 rfl ?_
        refine V_callV (As := [.int (nI 6), .int (nI 1)]) (st := []) (a := 9) dX11_toThrow_28 kX3_beginValue lX11_201 (by decide) rfl rfl (Nat.le_of_ble_eq_true rfl) ⟨Nat.le_of_ble_eq_true rfl, Nat.le_of_ble_eq_true rfl⟩ ⟨Nat.le_of_ble_eq_true rfl, Nat.le_of_ble_eq_true rfl⟩ rfl ⟨rfl, by decide⟩ (c_beginValue (by omega) (by omega) (by decide) hE) ?_
        rintro r sh' I2 J2 ⟨rfl, rfl, hE2, hF2⟩
        refine V_lstore (ls' := [(4, .long (vB Lf 6 1)), (3, .int (nI 6)), (0, .ref 2), (1, .int (nI 1)), (2, .int (nI 1))]) dX11_toThrow_31 (by decide) rfl ?_
        refine V_bipush (v := nI 7) dX11_toThrow_33 rfl ?_
        refine V_istore (ls' := [(6, .int (nI 7)), (4, .long (vB Lf 6 1)), (3, .int (nI 6)), (0, .ref 2), (1, .int (nI 1)), (2, .int (nI 1))]) dX11_toThrow_35 (by decide) rfl ?_
        refine V_sub2 (ls' := [(0, .ref 2), (1, .int (nI 1)), (2, .int (nI 1)), (3, .int (nI 6)), (4, .long (vB Lf 6 1)), (6, .int (nI 7))]) (List.forall_mem_cons.mpr ⟨rfl, List.forall_mem_cons.mpr ⟨rfl, List.forall_mem_cons.mpr ⟨rfl, List.forall_mem_cons.mpr ⟨rfl, List.forall_mem_cons.mpr ⟨rfl, List.forall_mem_cons.mpr ⟨rfl, fun _ h => absurd h List.not_mem_nil⟩⟩⟩⟩⟩⟩) ?_
        refine zQ_mono ?_ (lp_toThrow (s := 1) (w := 1) (by decide) (by decide) 4 7 6 _ I2 J2 (by decide) hE2 hF2)
        rintro r sh' I' J' ⟨rfl, h1, h2, h3⟩
        refine ⟨rfl, h1.trans (congrArg (fun z => some (Value.long z)) ?_), h2, h3⟩
        refine (if_neg (Nat.succ_ne_zero 0)).trans ?_
        rw [if_pos ⟨by decide, by decide⟩, on01_1, on01_1]
    · skip
      refine V_iload_n dX11_toThrow_0 rfl ?_
      refine V_callS (As := [.int s]) (st := []) dX11_toThrow_1 kX11_isSide lX11_198 (by decide) rfl rfl (Nat.le_of_ble_eq_true rfl) ⟨Nat.le_of_ble_eq_true rfl, Nat.le_of_ble_eq_true rfl⟩ (q_y q_isSide hs) ?_
      rintro _ _ _ _ ⟨rfl, rfl, rfl, rfl⟩
      refine V_if_eq (tgt := 14) dX11_toThrow_4 rfl (fun h => absurd h (by decide)) (fun _ => ?_)
      refine V_iload_n dX11_toThrow_7 rfl ?_
      refine V_callS (As := [.int w]) (st := []) dX11_toThrow_8 kX11_isValueOrThrow lX11_174 (by decide) rfl rfl (Nat.le_of_ble_eq_true rfl) ⟨Nat.le_of_ble_eq_true rfl, Nat.le_of_ble_eq_true rfl⟩ (q_n q_isValueOrThrow hw) ?_
      rintro _ _ _ _ ⟨rfl, rfl, rfl, rfl⟩
      refine V_if_ne (tgt := 18) dX11_toThrow_11 rfl (fun h => absurd h (by decide)) (fun _ => ?_)
      refine V_ldc2 dX11_toThrow_14 qX11_177 ?_
      exact V_lret ⟨rfl, dX11_toThrow_17⟩ ⟨Nat.le_of_ble_eq_true rfl, Nat.le_of_ble_eq_true rfl⟩ ⟨rfl, congrArg (fun z => some (Value.long z)) (if_neg (fun h => hw h.2)).symm, hE, Fr2_r⟩
  · skip
    refine V_iload_n dX11_toThrow_0 rfl ?_
    refine V_callS (As := [.int s]) (st := []) dX11_toThrow_1 kX11_isSide lX11_198 (by decide) rfl rfl (Nat.le_of_ble_eq_true rfl) ⟨Nat.le_of_ble_eq_true rfl, Nat.le_of_ble_eq_true rfl⟩ (q_n q_isSide hs) ?_
    rintro _ _ _ _ ⟨rfl, rfl, rfl, rfl⟩
    refine V_if_eq (tgt := 14) dX11_toThrow_4 rfl (fun _ => ?_) (fun h => absurd h (by decide))
    refine V_ldc2 dX11_toThrow_14 qX11_177 ?_
    exact V_lret ⟨rfl, dX11_toThrow_17⟩ ⟨Nat.le_of_ble_eq_true rfl, Nat.le_of_ble_eq_true rfl⟩ ⟨rfl, congrArg (fun z => some (Value.long z)) (if_neg (fun h => hs h.1)).symm, hE, Fr2_r⟩

set_option maxRecDepth 100000 in
set_option maxHeartbeats 4000000 in
theorem c_lastBall {G : zG} {I : zI} {J : zJ} {Lf : Nat → (Nat → Int32) → Int32} {Rl : Nat → Nat → (Nat → Int32) → Int32} {far : Nat} (hE : eA Lf Rl I J) (hf : I 2 0 = nI far) (h6 : 6 ≤ far) (h10 : far ≤ 10) {w : Int32} : zK G mX11_lastBall 18 [.ref 2, .int w] zsh I J (zP (fun r I' J' => r = some (.long (if inZ w 0 2 then (if w = nI 0 then vB Lf far 1 - vB Lf far 0 else if w = nI 1 then vB Lf far 0 else vB Lf far 1) else -2000000000000000000)) ∧ eA Lf Rl I' J' ∧ Fr2 I J I' J')) := by
  refine zK_of kX11_lastBall.2.2.2.2.1 (Nat.le_of_ble_eq_true rfl) ?_
  show V G mX11_lastBall 18 _ 0 [(0, .ref 2), (1, .int w)] [] (0, 0) zsh I J
  by_cases hw : inZ w 0 2
  · obtain ⟨k, rfl, _, hk⟩ := inZ_n hw (by decide)
    rcases (show k = 0 ∨ k = 1 ∨ k = 2 by omega) with e | e | e <;> subst e
    · skip
      refine V_iload_n dX11_lastBall_0 rfl ?_
      refine V_if_lt (tgt := 9) dX11_lastBall_1 rfl (fun h => absurd h (by decide)) (fun _ => ?_)
      refine V_iload_n dX11_lastBall_4 rfl ?_
      refine V_iconst (v := nI 2) dX11_lastBall_5 rfl ?_
      refine V_icmp_le (tgt := 13) dX11_lastBall_6 rfl (fun _ => ?_) (fun h => absurd h (by decide))
      refine V_iload_n dX11_lastBall_13 rfl ?_
      refine V_iconst (v := nI 1) dX11_lastBall_14 rfl ?_
      refine V_icmp_ne (tgt := 22) dX11_lastBall_15 rfl (fun _ => ?_) (fun h => absurd h (by decide))
      refine V_aload_n dX11_lastBall_22 rfl ?_
      refine V_getR (b := 9) dX11_lastBall_23 fX11_33 ⟨Nat.le_of_ble_eq_true rfl, Nat.le_of_ble_eq_true rfl⟩ rfl rfl rfl ?_
      refine V_aload_n dX11_lastBall_26 rfl ?_
      refine V_getI dX11_lastBall_27 fX11_7 ⟨Nat.le_of_ble_eq_true rfl, Nat.le_of_ble_eq_true rfl⟩ rfl rfl ?_
      refine V_eqI (y := nI far) hf ?_
      refine V_iconst (v := nI 1) dX11_lastBall_30 rfl ?_
      refine V_callV (As := [.int (nI far), .int (nI 1)]) (st := []) (a := 9) dX11_lastBall_31 kX3_beginValue lX11_201 (by decide) rfl rfl (Nat.le_of_ble_eq_true rfl) ⟨Nat.le_of_ble_eq_true rfl, Nat.le_of_ble_eq_true rfl⟩ ⟨Nat.le_of_ble_eq_true rfl, Nat.le_of_ble_eq_true rfl⟩ rfl ⟨rfl, by decide⟩ (c_beginValue h6 h10 (by decide) hE) ?_
      rintro r sh' I1 J1 ⟨rfl, rfl, hE1, hF1⟩
      refine V_lstore_n (ls' := [(2, .long (vB Lf far 1)), (0, .ref 2), (1, .int (nI 0))]) dX11_lastBall_34 (by decide) rfl ?_
      refine V_iload_n dX11_lastBall_35 rfl ?_
      refine V_iconst (v := nI 2) dX11_lastBall_36 rfl ?_
      refine V_icmp_ne (tgt := 42) dX11_lastBall_37 rfl (fun _ => ?_) (fun h => absurd h (by decide))
      refine V_aload_n dX11_lastBall_42 rfl ?_
      refine V_getR (b := 9) dX11_lastBall_43 fX11_33 ⟨Nat.le_of_ble_eq_true rfl, Nat.le_of_ble_eq_true rfl⟩ rfl rfl rfl ?_
      refine V_aload_n dX11_lastBall_46 rfl ?_
      refine V_getI dX11_lastBall_47 fX11_7 ⟨Nat.le_of_ble_eq_true rfl, Nat.le_of_ble_eq_true rfl⟩ rfl rfl ?_
      refine V_eqI (y := nI far) ((congrFun (hF1.1 2 (by decide) (by decide) (by decide) (by decide) (by decide)) 0).trans hf) ?_
      refine V_iconst (v := nI 0) dX11_lastBall_50 rfl ?_
      refine V_callV (As := [.int (nI far), .int (nI 0)]) (st := []) (a := 9) dX11_lastBall_51 kX3_beginValue lX11_201 (by decide) rfl rfl (Nat.le_of_ble_eq_true rfl) ⟨Nat.le_of_ble_eq_true rfl, Nat.le_of_ble_eq_true rfl⟩ ⟨Nat.le_of_ble_eq_true rfl, Nat.le_of_ble_eq_true rfl⟩ rfl ⟨rfl, by decide⟩ (c_beginValue h6 h10 (by decide) hE1) ?_
      rintro r sh' I2 J2 ⟨rfl, rfl, hE2, hF2⟩
      refine V_lstore (ls' := [(4, .long (vB Lf far 0)), (2, .long (vB Lf far 1)), (0, .ref 2), (1, .int (nI 0))]) dX11_lastBall_54 (by decide) rfl ?_
      refine V_iload_n dX11_lastBall_56 rfl ?_
      refine V_iconst (v := nI 1) dX11_lastBall_57 rfl ?_
      refine V_icmp_ne (tgt := 66) dX11_lastBall_58 rfl (fun _ => ?_) (fun h => absurd h (by decide))
      refine V_lload_n dX11_lastBall_66 rfl ?_
      refine V_lload dX11_lastBall_67 rfl ?_
      refine V_lsub dX11_lastBall_69 ?_
      exact V_lret ⟨rfl, dX11_lastBall_70⟩ ⟨Nat.le_of_ble_eq_true rfl, Nat.le_of_ble_eq_true rfl⟩ ⟨rfl, congrArg (fun z => some (Value.long z)) ((if_pos (by decide)).trans (if_pos rfl)).symm, hE2, Fr2_t hF1 hF2⟩
    · skip
      refine V_iload_n dX11_lastBall_0 rfl ?_
      refine V_if_lt (tgt := 9) dX11_lastBall_1 rfl (fun h => absurd h (by decide)) (fun _ => ?_)
      refine V_iload_n dX11_lastBall_4 rfl ?_
      refine V_iconst (v := nI 2) dX11_lastBall_5 rfl ?_
      refine V_icmp_le (tgt := 13) dX11_lastBall_6 rfl (fun _ => ?_) (fun h => absurd h (by decide))
      refine V_iload_n dX11_lastBall_13 rfl ?_
      refine V_iconst (v := nI 1) dX11_lastBall_14 rfl ?_
      refine V_icmp_ne (tgt := 22) dX11_lastBall_15 rfl (fun h => absurd h (by decide)) (fun _ => ?_)
      refine V_lconst (v := 0) dX11_lastBall_18 rfl ?_
      refine V_goto (tgt := 34) dX11_lastBall_19 rfl ?_
      refine V_lstore_n (ls' := [(2, .long 0), (0, .ref 2), (1, .int (nI 1))]) dX11_lastBall_34 (by decide) rfl ?_
      refine V_iload_n dX11_lastBall_35 rfl ?_
      refine V_iconst (v := nI 2) dX11_lastBall_36 rfl ?_
      refine V_icmp_ne (tgt := 42) dX11_lastBall_37 rfl (fun _ => ?_) (fun h => absurd h (by decide))
      refine V_aload_n dX11_lastBall_42 rfl ?_
      refine V_getR (b := 9) dX11_lastBall_43 fX11_33 ⟨Nat.le_of_ble_eq_true rfl, Nat.le_of_ble_eq_true rfl⟩ rfl rfl rfl ?_
      refine V_aload_n dX11_lastBall_46 rfl ?_
      refine V_getI dX11_lastBall_47 fX11_7 ⟨Nat.le_of_ble_eq_true rfl, Nat.le_of_ble_eq_true rfl⟩ rfl rfl ?_
      refine V_eqI (y := nI far) hf ?_
      refine V_iconst (v := nI 0) dX11_lastBall_50 rfl ?_
      refine V_callV (As := [.int (nI far), .int (nI 0)]) (st := []) (a := 9) dX11_lastBall_51 kX3_beginValue lX11_201 (by decide) rfl rfl (Nat.le_of_ble_eq_true rfl) ⟨Nat.le_of_ble_eq_true rfl, Nat.le_of_ble_eq_true rfl⟩ ⟨Nat.le_of_ble_eq_true rfl, Nat.le_of_ble_eq_true rfl⟩ rfl ⟨rfl, by decide⟩ (c_beginValue h6 h10 (by decide) hE) ?_
      rintro r sh' I1 J1 ⟨rfl, rfl, hE1, hF1⟩
      refine V_lstore (ls' := [(4, .long (vB Lf far 0)), (2, .long 0), (0, .ref 2), (1, .int (nI 1))]) dX11_lastBall_54 (by decide) rfl ?_
      refine V_iload_n dX11_lastBall_56 rfl ?_
      refine V_iconst (v := nI 1) dX11_lastBall_57 rfl ?_
      refine V_icmp_ne (tgt := 66) dX11_lastBall_58 rfl (fun h => absurd h (by decide)) (fun _ => ?_)
      refine V_lload dX11_lastBall_61 rfl ?_
      refine V_goto (tgt := 70) dX11_lastBall_63 rfl ?_
      exact V_lret ⟨rfl, dX11_lastBall_70⟩ ⟨Nat.le_of_ble_eq_true rfl, Nat.le_of_ble_eq_true rfl⟩ ⟨rfl, congrArg (fun z => some (Value.long z)) ((if_pos (by decide)).trans ((if_neg (by decide)).trans (if_pos rfl))).symm, hE1, hF1⟩
    · skip
      refine V_iload_n dX11_lastBall_0 rfl ?_
      refine V_if_lt (tgt := 9) dX11_lastBall_1 rfl (fun h => absurd h (by decide)) (fun _ => ?_)
      refine V_iload_n dX11_lastBall_4 rfl ?_
      refine V_iconst (v := nI 2) dX11_lastBall_5 rfl ?_
      refine V_icmp_le (tgt := 13) dX11_lastBall_6 rfl (fun _ => ?_) (fun h => absurd h (by decide))
      refine V_iload_n dX11_lastBall_13 rfl ?_
      refine V_iconst (v := nI 1) dX11_lastBall_14 rfl ?_
      refine V_icmp_ne (tgt := 22) dX11_lastBall_15 rfl (fun _ => ?_) (fun h => absurd h (by decide))
      refine V_aload_n dX11_lastBall_22 rfl ?_
      refine V_getR (b := 9) dX11_lastBall_23 fX11_33 ⟨Nat.le_of_ble_eq_true rfl, Nat.le_of_ble_eq_true rfl⟩ rfl rfl rfl ?_
      refine V_aload_n dX11_lastBall_26 rfl ?_
      refine V_getI dX11_lastBall_27 fX11_7 ⟨Nat.le_of_ble_eq_true rfl, Nat.le_of_ble_eq_true rfl⟩ rfl rfl ?_
      refine V_eqI (y := nI far) hf ?_
      refine V_iconst (v := nI 1) dX11_lastBall_30 rfl ?_
      refine V_callV (As := [.int (nI far), .int (nI 1)]) (st := []) (a := 9) dX11_lastBall_31 kX3_beginValue lX11_201 (by decide) rfl rfl (Nat.le_of_ble_eq_true rfl) ⟨Nat.le_of_ble_eq_true rfl, Nat.le_of_ble_eq_true rfl⟩ ⟨Nat.le_of_ble_eq_true rfl, Nat.le_of_ble_eq_true rfl⟩ rfl ⟨rfl, by decide⟩ (c_beginValue h6 h10 (by decide) hE) ?_
      rintro r sh' I1 J1 ⟨rfl, rfl, hE1, hF1⟩
      refine V_lstore_n (ls' := [(2, .long (vB Lf far 1)), (0, .ref 2), (1, .int (nI 2))]) dX11_lastBall_34 (by decide) rfl ?_
      refine V_iload_n dX11_lastBall_35 rfl ?_
      refine V_iconst (v := nI 2) dX11_lastBall_36 rfl ?_
      refine V_icmp_ne (tgt := 42) dX11_lastBall_37 rfl (fun h => absurd h (by decide)) (fun _ => ?_)
      refine V_lload_n dX11_lastBall_40 rfl ?_
      exact V_lret ⟨rfl, dX11_lastBall_41⟩ ⟨Nat.le_of_ble_eq_true rfl, Nat.le_of_ble_eq_true rfl⟩ ⟨rfl, congrArg (fun z => some (Value.long z)) ((if_pos (by decide)).trans ((if_neg (by decide)).trans (if_neg (by decide)))).symm, hE1, hF1⟩
  · skip
    refine V_iload_n dX11_lastBall_0 rfl ?_
    refine V_if_ltZ (tgt := 9) (a := w.toInt) dX11_lastBall_1 rfl rfl (fun h1 => ?_) (fun h1 => ?_)
    · skip
      refine V_ldc2 dX11_lastBall_9 qX11_177 ?_
      exact V_lret ⟨rfl, dX11_lastBall_12⟩ ⟨Nat.le_of_ble_eq_true rfl, Nat.le_of_ble_eq_true rfl⟩ ⟨rfl, congrArg (fun z => some (Value.long z)) (if_neg hw).symm, hE, Fr2_r⟩
    · skip
      refine V_iload_n dX11_lastBall_4 rfl ?_
      refine V_iconst (v := nI 2) dX11_lastBall_5 rfl ?_
      refine V_icmp_leZ (tgt := 13) (a := w.toInt) (b := 2) dX11_lastBall_6 rfl rfl (by decide) (fun h6 => ?_) (fun h6 => ?_)
      · skip
        exfalso; omega
      · skip
        refine V_ldc2 dX11_lastBall_9 qX11_177 ?_
        exact V_lret ⟨rfl, dX11_lastBall_12⟩ ⟨Nat.le_of_ble_eq_true rfl, Nat.le_of_ble_eq_true rfl⟩ ⟨rfl, congrArg (fun z => some (Value.long z)) (if_neg hw).symm, hE, Fr2_r⟩

