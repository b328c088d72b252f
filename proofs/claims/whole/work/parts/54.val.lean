/-! THE MODEL: what a throw is worth -/
def mS (v : Nat → Nat → Nat → Int64) (cv : Nat → Nat) (p q l : Nat) : Nat → Nat → Int64 → Int64
  | 0, _, acc => acc
  | n + 1, k, acc => mS v cv p q l n (k + 1) (if 0 < cv k then acc + (nI (cv k)).toInt64 * v (sNx p q l k).1 (sNx p q l k).2 (sWho p q l) else acc)
theorem hand35 {k : Nat} (hk : k < 56) (h : 0 < tHand k) : 35 ≤ k := co_dec (P := fun k => 0 < tHand k → 35 ≤ k) (N := 56) (by decide +kernel) hk h
theorem nx_eq {p q l k : Nat} : stN (if sWho p q l = 0 then sMine p q (sWho p q l) k else sTheir p q (sWho p q l) k) (if sWho p q l = 0 then sTheir p q (sWho p q l) k else sMine p q (sWho p q l) k) (sWho p q l) = stN (sNx p q l k).1 (sNx p q l k).2 (sWho p q l) := by
  unfold sNx
  split <;> rfl
theorem mS_1 {v : Nat → Nat → Nat → Int64} {Lf : Nat → (Nat → Int32) → Int32} {far p q l : Nat} : mS v (chV Lf (fct p q l (sWho p q l) far) 1) p q l 7 0 0 = sW v Lf far p q l 1 := by
  have c : ∀ k, k ≤ 3 → chV Lf (fct p q l (sWho p q l) far) 1 k = sCh Lf far p q l k := fun k h => chV_s (by omega)
  have z : ∀ k, 4 ≤ k → chV Lf (fct p q l (sWho p q l) far) 1 k = 0 := fun k h => if_neg (by omega)
  unfold sW
  rw [if_pos rfl]
  simp only [mS, sSum, sPart, c 0 (by decide), c 1 (by decide), c 2 (by decide), c 3 (by decide), z 4 (by decide), z 5 (by decide), z 6 (by decide), Nat.zero_add, Nat.reduceAdd, Nat.lt_irrefl, if_false]
theorem mS_2 {v : Nat → Nat → Nat → Int64} {Lf : Nat → (Nat → Int32) → Int32} {far p q l : Nat} : mS v (chV Lf (fct p q l (sWho p q l) far) 2) p q l 7 0 0 = sW v Lf far p q l 2 := by
  have c : ∀ k, 4 ≤ k → chV Lf (fct p q l (sWho p q l) far) 2 k = sCh Lf far p q l k := fun k h => chV_s (by omega)
  have z : ∀ k, k ≤ 3 → chV Lf (fct p q l (sWho p q l) far) 2 k = 0 := fun k h => if_neg (by omega)
  unfold sW
  rw [if_neg (by decide)]
  simp only [mS, sSum, sPart, c 4 (by decide), c 5 (by decide), c 6 (by decide), z 0 (by decide), z 1 (by decide), z 2 (by decide), z 3 (by decide), Nat.zero_add, Nat.reduceAdd, Nat.lt_irrefl, if_false]
set_option maxRecDepth 100000 in
set_option maxHeartbeats 4000000 in
theorem lp_value {G : zG} {I1 : zI} {J : zJ} {Q : zQ} (hT : mT I1) {p q l : Nat} (hp : p < 56) (hq : q < 56) (hl : l ≤ 1) (hw : sWho p q l ≤ 1) {th va : Nat} (hva : zin zsh va ∧ zsh.2.1 va = (2, 6272)) {cv : Nat → Nat} (hrow : ∀ k, k < 7 → I1 81 k = nI (cv k)) (hcv : ∀ k, cv k ≤ 100) (hok : ∀ k, k < 7 → 4 ≤ k → 0 < cv k → sCan p q (sWho p q l) = true) : ∀ n k acc, k + n = 7 → Q (some (.long (mS (fun a b c => J va (stN a b c)) cv p q l n k acc))) zsh I1 J → V G mX12_valueBy 6 Q 13 [(0, .ref 62), (1, .int (nI (stN p q l))), (2, .int (nI (sWho p q l))), (3, .int (nI th)), (4, .ref va), (5, .long acc), (7, .int (nI k))] [] (0, 0) zsh I1 J := by
  have h35 := hand35 (by split <;> assumption) (sWho_hand hw)
  have hoth : (if sWho p q l = 0 then q else p) < 56 := by split <;> assumption
  have hsl := stN_lt hp hq hl
  intro n
  induction n with
  | zero =>
    intro k acc hk hQ
    have hk7 : k = 7 := by omega
    refine V_iload dX12_valueBy_13 rfl ?_
    refine V_bipush (v := nI 7) dX12_valueBy_15 rfl ?_
    refine V_icmp_geN (tgt := 61) dX12_valueBy_17 rfl (by omega) (by omega) (fun _ => ?_) (fun h => absurd h (by omega))
    refine V_lload dX12_valueBy_61 rfl ?_
    exact V_lret ⟨rfl, dX12_valueBy_63⟩ ⟨Nat.le_of_ble_eq_true rfl, Nat.le_of_ble_eq_true rfl⟩ hQ
  | succ n ih =>
    intro k acc hk hQ
    have hc100 := hcv k
    have hnx := sNx_ok (part := k) hp hq hw (by omega)
    refine V_iload dX12_valueBy_13 rfl ?_
    refine V_bipush (v := nI 7) dX12_valueBy_15 rfl ?_
    refine V_icmp_geN (tgt := 61) dX12_valueBy_17 rfl (by omega) (by omega) (fun h => absurd h (by omega)) (fun _ => ?_)
    refine V_aload_n dX12_valueBy_20 rfl ?_
    refine V_getR (b := 81) dX12_valueBy_21 fX12_65 ⟨Nat.le_of_ble_eq_true rfl, Nat.le_of_ble_eq_true rfl⟩ rfl rfl rfl ?_
    refine V_iload dX12_valueBy_24 rfl ?_
    refine V_ialdN (k := k) dX12_valueBy_26 ⟨Nat.le_of_ble_eq_true rfl, Nat.le_of_ble_eq_true rfl⟩ rfl (by decide) (by omega) ?_
    refine V_eqI (y := nI (cv k)) (hrow k (by omega)) ?_
    refine V_if_leN (tgt := 55) dX12_valueBy_27 rfl (by omega) (fun h27 => ?_) (fun h27 => ?_)
    · skip
      refine V_iincN (ls' := [(7, .int (nI (k + 1))), (0, .ref 62), (1, .int (nI (stN p q l))), (2, .int (nI (sWho p q l))), (3, .int (nI th)), (4, .ref va), (5, .long acc)]) (n := 1) dX12_valueBy_55 rfl rfl (by decide) (by decide) rfl ?_
      refine V_goto (tgt := 13) dX12_valueBy_58 rfl ?_
      refine V_sub2 (ls' := [(0, .ref 62), (1, .int (nI (stN p q l))), (2, .int (nI (sWho p q l))), (3, .int (nI th)), (4, .ref va), (5, .long acc), (7, .int (nI (k + 1)))]) (List.forall_mem_cons.mpr ⟨rfl, List.forall_mem_cons.mpr ⟨rfl, List.forall_mem_cons.mpr ⟨rfl, List.forall_mem_cons.mpr ⟨rfl, List.forall_mem_cons.mpr ⟨rfl, List.forall_mem_cons.mpr ⟨rfl, List.forall_mem_cons.mpr ⟨rfl, fun _ h => absurd h List.not_mem_nil⟩⟩⟩⟩⟩⟩⟩) ?_
      refine ih (k + 1) (acc) (by omega) ?_
      rw [show mS (fun a b c => J va (stN a b c)) cv p q l (n + 1) k acc = mS (fun a b c => J va (stN a b c)) cv p q l n (k + 1) (acc) from congrArg (mS (fun a b c => J va (stN a b c)) cv p q l n (k + 1)) (if_neg (by omega))] at hQ
      exact hQ
    · skip
      refine V_lload dX12_valueBy_30 rfl ?_
      refine V_aload_n dX12_valueBy_32 rfl ?_
      refine V_getR (b := 81) dX12_valueBy_33 fX12_65 ⟨Nat.le_of_ble_eq_true rfl, Nat.le_of_ble_eq_true rfl⟩ rfl rfl rfl ?_
      refine V_iload dX12_valueBy_36 rfl ?_
      refine V_ialdN (k := k) dX12_valueBy_38 ⟨Nat.le_of_ble_eq_true rfl, Nat.le_of_ble_eq_true rfl⟩ rfl (by decide) (by omega) ?_
      refine V_eqI (y := nI (cv k)) (hrow k (by omega)) ?_
      refine V_i2l dX12_valueBy_39 ?_
      refine V_aload dX12_valueBy_40 rfl ?_
      refine V_aload_n dX12_valueBy_42 rfl ?_
      refine V_iload_n dX12_valueBy_43 rfl ?_
      refine V_iload_n dX12_valueBy_44 rfl ?_
      refine V_iload dX12_valueBy_45 rfl ?_
      refine V_callV (As := [.int (nI (stN p q l)), .int (nI (sWho p q l)), .int (nI k)]) (st := [.ref va, .long ((nI (cv k)).toInt64), .long acc]) (a := 62) dX12_valueBy_47 kX12_behind lX12_350 (by decide) rfl rfl (Nat.le_of_ble_eq_true rfl) ⟨Nat.le_of_ble_eq_true rfl, Nat.le_of_ble_eq_true rfl⟩ ⟨Nat.le_of_ble_eq_true rfl, Nat.le_of_ble_eq_true rfl⟩ rfl ⟨rfl, by decide⟩ (w_behind hT hp hq hl hw (by omega) h35 (fun h => (tBest_can hoth).mpr (of_decide_eq_true (hok k (by omega) (by omega) (by omega))))) ?_
      rintro _ _ _ _ ⟨rfl, rfl, rfl, rfl⟩
      refine V_eqI (y := nI (stN (sNx p q l k).1 (sNx p q l k).2 (sWho p q l))) (congrArg nI nx_eq) ?_
      refine V_laldN (k := stN (sNx p q l k).1 (sNx p q l k).2 (sWho p q l)) dX12_valueBy_50 hva.1 hva.2 (by decide) (stN_lt hnx.1 hnx.2.1 hw) ?_
      refine V_lmul dX12_valueBy_51 ?_
      refine V_ladd dX12_valueBy_52 ?_
      refine V_lstore (ls' := [(5, .long (acc + (((nI (cv k)).toInt64) * (J va (stN (sNx p q l k).1 (sNx p q l k).2 (sWho p q l)))))), (0, .ref 62), (1, .int (nI (stN p q l))), (2, .int (nI (sWho p q l))), (3, .int (nI th)), (4, .ref va), (7, .int (nI k))]) dX12_valueBy_53 (by decide) rfl ?_
      refine V_iincN (ls' := [(7, .int (nI (k + 1))), (5, .long (acc + (((nI (cv k)).toInt64) * (J va (stN (sNx p q l k).1 (sNx p q l k).2 (sWho p q l)))))), (0, .ref 62), (1, .int (nI (stN p q l))), (2, .int (nI (sWho p q l))), (3, .int (nI th)), (4, .ref va)]) (n := 1) dX12_valueBy_55 rfl rfl (by decide) (by decide) rfl ?_
      refine V_goto (tgt := 13) dX12_valueBy_58 rfl ?_
      refine V_sub2 (ls' := [(0, .ref 62), (1, .int (nI (stN p q l))), (2, .int (nI (sWho p q l))), (3, .int (nI th)), (4, .ref va), (5, .long (acc + (((nI (cv k)).toInt64) * (J va (stN (sNx p q l k).1 (sNx p q l k).2 (sWho p q l)))))), (7, .int (nI (k + 1)))]) (List.forall_mem_cons.mpr ⟨rfl, List.forall_mem_cons.mpr ⟨rfl, List.forall_mem_cons.mpr ⟨rfl, List.forall_mem_cons.mpr ⟨rfl, List.forall_mem_cons.mpr ⟨rfl, List.forall_mem_cons.mpr ⟨rfl, List.forall_mem_cons.mpr ⟨rfl, fun _ h => absurd h List.not_mem_nil⟩⟩⟩⟩⟩⟩⟩) ?_
      refine ih (k + 1) (acc + (((nI (cv k)).toInt64) * (J va (stN (sNx p q l k).1 (sNx p q l k).2 (sWho p q l))))) (by omega) ?_
      rw [show mS (fun a b c => J va (stN a b c)) cv p q l (n + 1) k acc = mS (fun a b c => J va (stN a b c)) cv p q l n (k + 1) (acc + (((nI (cv k)).toInt64) * (J va (stN (sNx p q l k).1 (sNx p q l k).2 (sWho p q l))))) from congrArg (mS (fun a b c => J va (stN a b c)) cv p q l n (k + 1)) (if_pos (by omega))] at hQ
      exact hQ

set_option maxRecDepth 100000 in
set_option maxHeartbeats 4000000 in
theorem w_valueBy {G : zG} {I : zI} {J : zJ} (hT : mT I) {far : Nat} {a : List (Nat × List (Nat × Nat) × List (Nat × Nat))} {M : Nat → ((Nat → Int32) → Option Int32) × ((Nat → Int32) → Option Int32)} (hf : I 62 5 = nI far) (h6 : 6 ≤ far) (h10 : far ≤ 10) (hP : mpI I 0 a M) (hc : chA I (lfM a M)) {p q l : Nat} (hp : p < 56) (hq : q < 56) (hl : l ≤ 1) (hw : sWho p q l ≤ 1) {th va : Nat} (hva : zin zsh va ∧ zsh.2.1 va = (2, 6272)) (hth : th = 1 ∨ th = 2) (hcan : th = 2 → sCan p q (sWho p q l) = true) : zK G mX12_valueBy 6 [.ref 62, .int (nI (stN p q l)), .int (nI (sWho p q l)), .int (nI th), .ref va] zsh I J (zP (fun r I' J' => r = some (.long (sW (fun a b c => J va (stN a b c)) (lfM a M) far p q l th)) ∧ offL I I' ∧ chA I' (lfM a M) ∧ J = J')) := by
  refine zK_of kX12_valueBy.2.2.2.2.1 (Nat.le_of_ble_eq_true rfl) ?_
  show V G mX12_valueBy 6 _ 0 [(0, .ref 62), (1, .int (nI (stN p q l))), (2, .int (nI (sWho p q l))), (3, .int (nI th)), (4, .ref va)] [] (0, 0) zsh I J
  refine V_aload_n dX12_valueBy_0 rfl ?_
  refine V_iload_n dX12_valueBy_1 rfl ?_
  refine V_iload_n dX12_valueBy_2 rfl ?_
  refine V_iload_n dX12_valueBy_3 rfl ?_
  refine V_callV (As := [.int (nI (stN p q l)), .int (nI (sWho p q l)), .int (nI th)]) (st := []) (a := 62) dX12_valueBy_4 kX12_laysChances lX12_347 (by decide) rfl rfl (Nat.le_of_ble_eq_true rfl) ⟨Nat.le_of_ble_eq_true rfl, Nat.le_of_ble_eq_true rfl⟩ ⟨Nat.le_of_ble_eq_true rfl, Nat.le_of_ble_eq_true rfl⟩ rfl ⟨rfl, by decide⟩ (w_lays hT hp hq hl hf h6 h10 hP hc hw hth) ?_
  rintro r sh' I' J' ⟨rfl, rfl, hq9, rfl⟩
  refine V_lconst (v := 0) dX12_valueBy_7 rfl ?_
  refine V_lstore (ls' := [(5, .long 0), (0, .ref 62), (1, .int (nI (stN p q l))), (2, .int (nI (sWho p q l))), (3, .int (nI th)), (4, .ref va)]) dX12_valueBy_8 (by decide) rfl ?_
  refine V_iconst (v := nI 0) dX12_valueBy_10 rfl ?_
  refine V_istore (ls' := [(7, .int (nI 0)), (5, .long 0), (0, .ref 62), (1, .int (nI (stN p q l))), (2, .int (nI (sWho p q l))), (3, .int (nI th)), (4, .ref va)]) dX12_valueBy_11 (by decide) rfl ?_
  refine V_sub2 (ls' := [(0, .ref 62), (1, .int (nI (stN p q l))), (2, .int (nI (sWho p q l))), (3, .int (nI th)), (4, .ref va), (5, .long 0), (7, .int (nI 0))]) (List.forall_mem_cons.mpr ⟨rfl, List.forall_mem_cons.mpr ⟨rfl, List.forall_mem_cons.mpr ⟨rfl, List.forall_mem_cons.mpr ⟨rfl, List.forall_mem_cons.mpr ⟨rfl, List.forall_mem_cons.mpr ⟨rfl, List.forall_mem_cons.mpr ⟨rfl, fun _ h => absurd h List.not_mem_nil⟩⟩⟩⟩⟩⟩⟩) ?_
  refine lp_value (mT_l hT hq9.1) hp hq hl hw hva hq9.2.1 (fun k => chV_le) (fun k _ h4 h0 => hcan (by rcases hth with e | e; (subst e; exact absurd h0 (by rw [show chV (lfM a M) (fct p q l (sWho p q l) far) 1 k = 0 from if_neg (by omega)]; exact Nat.lt_irrefl 0)); exact e)) 7 0 _ (by decide) ?_
  rcases hth with e | e <;> subst e
  · exact ⟨rfl, congrArg (fun z => some (Value.long z)) mS_1, hq9.1, chA_of h10 hq9.2.2.1 hq9.2.2.2, rfl⟩
  · exact ⟨rfl, congrArg (fun z => some (Value.long z)) mS_2, hq9.1, chA_of h10 hq9.2.2.1 hq9.2.2.2, rfl⟩

