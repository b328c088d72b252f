/-! THE MODEL: codes reckoned on its stack -/
/-- number of a sign's code -/
def opS (o : Nat) : Nat := if o = 43 then 2 else if o = 45 then 3 else if o = 42 then 4 else if o = 47 then 5 else if o = 37 then 6 else if o = 60 then 7 else if o = 62 then 8 else if o = 61 then 9 else 10
def opM (c : Nat × Nat) : Nat := if c.1 ≤ 1 then c.1 else if c.1 = 2 then opS c.2 else c.1 + 8
def agM (c : Nat × Nat) : Nat := if c.1 = 2 then 0 else c.2
def encM (c : Nat × Nat) : Nat := 1048576 * opM c + agM c
/-- off the stack's row nothing is other -/
def offM (I I1 : zI) : Prop := ∀ a, a ≠ 79 → I1 a = I a
/-- the model's stack holds s, its top first -/
def rmI (I I1 : zI) (s : List Int32) : Prop := offM I I1 ∧ ∀ k, k < s.length → I1 79 k = s.reverse.getD k 0
theorem rmI_push {I I1 : zI} {s : List Int32} (h : rmI I I1 s) (x : Int32) : rmI I (zwr I1 79 s.length x) (x :: s) := by
  obtain ⟨h1, h4⟩ := h
  refine ⟨fun a ha => ?_, fun k hk => ?_⟩
  · rw [← h1 a ha]
    funext j
    simp [zwr_at, ha]
  · simp only [List.length_cons] at hk
    by_cases hks : k = s.length
    · subst hks
      simp [zwr_at, List.getD_eq_getElem?_getD, List.getElem?_append]
    · have := h4 k (by omega)
      simp only [zwr_at]
      simp [hks, this, List.getD_eq_getElem?_getD, List.getElem?_append, show k < s.length by omega]
theorem rmI_pop {I I1 : zI} {x : Int32} {s : List Int32} (h : rmI I I1 (x :: s)) : I1 79 s.length = x ∧ rmI I I1 s := by
  obtain ⟨h1, h4⟩ := h
  refine ⟨?_, h1, fun k hk => ?_⟩
  · have := h4 s.length (Nat.lt_succ_self _)
    rw [this]
    simp [List.getD_eq_getElem?_getD, List.getElem?_append]
  · have := h4 k (Nat.lt_succ_of_lt hk)
    rw [this]
    simp [List.getD_eq_getElem?_getD, List.getElem?_append, hk]
/-- where the loop stands at place p with the stack s, it ends as Q says -/
def cHd (G : zG) (I : zI) (J : zJ) (Q : zQ) (a : Int32) (tt b p : Nat) (s : List Int32) : Prop := ∀ I1, rmI I I1 s → V G mX12_comesTo 1 Q 16 [(0, .ref 62), (1, .int a), (2, .int (nI tt)), (3, .int (nI s.length)), (4, .int (nI b)), (5, .int (nI p))] [] (0, 0) zsh I1 J
set_option maxRecDepth 100000 in
set_option maxHeartbeats 4000000 in
theorem w_reckon {G : zG} {I : zI} {J : zJ} {o : Nat} (ho : o = 43 ∨ o = 45 ∨ o = 42 ∨ o = 47 ∨ o = 37 ∨ o = 60 ∨ o = 62 ∨ o = 61) {x y : Int32} (hne : ¬ (y = 0 ∧ (o = 47 ∨ o = 37))) : zK G mX12_reckon 0 [.int (nI (opS o)), .int x, .int y] zsh I J (zA0 (.int (jn o x y)) I J) := by
  refine zK_of kX12_reckon.2.2.2.2.1 (Nat.le_of_ble_eq_true rfl) ?_
  rcases ho with ho | ho | ho | ho | ho | ho | ho | ho <;> subst ho
  · show V G mX12_reckon 0 _ 0 [(0, .int (nI 2)), (1, .int x), (2, .int y)] [] (0, 0) zsh I J
    refine V_iload_n dX12_reckon_0 rfl ?_
    refine V_tsIn (tgt := 44) dX12_reckon_1 (by decide) (by decide) rfl rfl ?_
    refine V_iload_n dX12_reckon_44 rfl ?_
    refine V_iload_n dX12_reckon_45 rfl ?_
    refine V_iadd dX12_reckon_46 ?_
    exact V_iret ⟨Or.inl rfl, dX12_reckon_47⟩ ⟨Nat.le_of_ble_eq_true rfl, Nat.le_of_ble_eq_true rfl⟩ ⟨rfl, congrArg (fun z => some (Value.int z)) (by simp_all [jn, nI_0, nI_one]), rfl, rfl⟩
  · show V G mX12_reckon 0 _ 0 [(0, .int (nI 3)), (1, .int x), (2, .int y)] [] (0, 0) zsh I J
    refine V_iload_n dX12_reckon_0 rfl ?_
    refine V_tsIn (tgt := 48) dX12_reckon_1 (by decide) (by decide) rfl rfl ?_
    refine V_iload_n dX12_reckon_48 rfl ?_
    refine V_iload_n dX12_reckon_49 rfl ?_
    refine V_isub dX12_reckon_50 ?_
    exact V_iret ⟨Or.inl rfl, dX12_reckon_51⟩ ⟨Nat.le_of_ble_eq_true rfl, Nat.le_of_ble_eq_true rfl⟩ ⟨rfl, congrArg (fun z => some (Value.int z)) (by simp_all [jn, nI_0, nI_one]), rfl, rfl⟩
  · show V G mX12_reckon 0 _ 0 [(0, .int (nI 4)), (1, .int x), (2, .int y)] [] (0, 0) zsh I J
    refine V_iload_n dX12_reckon_0 rfl ?_
    refine V_tsIn (tgt := 52) dX12_reckon_1 (by decide) (by decide) rfl rfl ?_
    refine V_iload_n dX12_reckon_52 rfl ?_
    refine V_iload_n dX12_reckon_53 rfl ?_
    refine V_imul dX12_reckon_54 ?_
    exact V_iret ⟨Or.inl rfl, dX12_reckon_55⟩ ⟨Nat.le_of_ble_eq_true rfl, Nat.le_of_ble_eq_true rfl⟩ ⟨rfl, congrArg (fun z => some (Value.int z)) (by simp_all [jn, nI_0, nI_one]), rfl, rfl⟩
  · show V G mX12_reckon 0 _ 0 [(0, .int (nI 5)), (1, .int x), (2, .int y)] [] (0, 0) zsh I J
    refine V_iload_n dX12_reckon_0 rfl ?_
    refine V_tsIn (tgt := 56) dX12_reckon_1 (by decide) (by decide) rfl rfl ?_
    refine V_iload_n dX12_reckon_56 rfl ?_
    refine V_iload_n dX12_reckon_57 rfl ?_
    refine V_idiv dX12_reckon_58 (fun h => hne ⟨h, by decide⟩) ?_
    exact V_iret ⟨Or.inl rfl, dX12_reckon_59⟩ ⟨Nat.le_of_ble_eq_true rfl, Nat.le_of_ble_eq_true rfl⟩ ⟨rfl, congrArg (fun z => some (Value.int z)) (by simp_all [jn, nI_0, nI_one]), rfl, rfl⟩
  · show V G mX12_reckon 0 _ 0 [(0, .int (nI 6)), (1, .int x), (2, .int y)] [] (0, 0) zsh I J
    refine V_iload_n dX12_reckon_0 rfl ?_
    refine V_tsIn (tgt := 60) dX12_reckon_1 (by decide) (by decide) rfl rfl ?_
    refine V_iload_n dX12_reckon_60 rfl ?_
    refine V_iload_n dX12_reckon_61 rfl ?_
    refine V_irem dX12_reckon_62 (fun h => hne ⟨h, by decide⟩) ?_
    exact V_iret ⟨Or.inl rfl, dX12_reckon_63⟩ ⟨Nat.le_of_ble_eq_true rfl, Nat.le_of_ble_eq_true rfl⟩ ⟨rfl, congrArg (fun z => some (Value.int z)) (by simp_all [jn, nI_0, nI_one]), rfl, rfl⟩
  · show V G mX12_reckon 0 _ 0 [(0, .int (nI 7)), (1, .int x), (2, .int y)] [] (0, 0) zsh I J
    refine V_iload_n dX12_reckon_0 rfl ?_
    refine V_tsIn (tgt := 64) dX12_reckon_1 (by decide) (by decide) rfl rfl ?_
    refine V_iload_n dX12_reckon_64 rfl ?_
    refine V_iload_n dX12_reckon_65 rfl ?_
    refine V_icmp_ge (tgt := 73) dX12_reckon_66 rfl (fun h66 => ?_) (fun h66 => ?_)
    · skip
      refine V_iconst (v := nI 0) dX12_reckon_73 rfl ?_
      exact V_iret ⟨Or.inl rfl, dX12_reckon_74⟩ ⟨Nat.le_of_ble_eq_true rfl, Nat.le_of_ble_eq_true rfl⟩ ⟨rfl, congrArg (fun z => some (Value.int z)) (by simp_all [jn, nI_0, nI_one]), rfl, rfl⟩
    · skip
      refine V_iconst (v := nI 1) dX12_reckon_69 rfl ?_
      refine V_goto (tgt := 74) dX12_reckon_70 rfl ?_
      exact V_iret ⟨Or.inl rfl, dX12_reckon_74⟩ ⟨Nat.le_of_ble_eq_true rfl, Nat.le_of_ble_eq_true rfl⟩ ⟨rfl, congrArg (fun z => some (Value.int z)) (by simp_all [jn, nI_0, nI_one]), rfl, rfl⟩
  · show V G mX12_reckon 0 _ 0 [(0, .int (nI 8)), (1, .int x), (2, .int y)] [] (0, 0) zsh I J
    refine V_iload_n dX12_reckon_0 rfl ?_
    refine V_tsIn (tgt := 75) dX12_reckon_1 (by decide) (by decide) rfl rfl ?_
    refine V_iload_n dX12_reckon_75 rfl ?_
    refine V_iload_n dX12_reckon_76 rfl ?_
    refine V_icmp_le (tgt := 84) dX12_reckon_77 rfl (fun h77 => ?_) (fun h77 => ?_)
    · skip
      refine V_iconst (v := nI 0) dX12_reckon_84 rfl ?_
      exact V_iret ⟨Or.inl rfl, dX12_reckon_85⟩ ⟨Nat.le_of_ble_eq_true rfl, Nat.le_of_ble_eq_true rfl⟩ ⟨rfl, congrArg (fun z => some (Value.int z)) (by simp_all [jn, nI_0, nI_one]), rfl, rfl⟩
    · skip
      refine V_iconst (v := nI 1) dX12_reckon_80 rfl ?_
      refine V_goto (tgt := 85) dX12_reckon_81 rfl ?_
      exact V_iret ⟨Or.inl rfl, dX12_reckon_85⟩ ⟨Nat.le_of_ble_eq_true rfl, Nat.le_of_ble_eq_true rfl⟩ ⟨rfl, congrArg (fun z => some (Value.int z)) (by simp_all [jn, nI_0, nI_one]), rfl, rfl⟩
  · show V G mX12_reckon 0 _ 0 [(0, .int (nI 9)), (1, .int x), (2, .int y)] [] (0, 0) zsh I J
    refine V_iload_n dX12_reckon_0 rfl ?_
    refine V_tsOut (tgt := 86) dX12_reckon_1 (by decide) rfl ?_
    refine V_iload_n dX12_reckon_86 rfl ?_
    refine V_iload_n dX12_reckon_87 rfl ?_
    refine V_icmp_ne (tgt := 95) dX12_reckon_88 rfl (fun h88 => ?_) (fun h88 => ?_)
    · skip
      refine V_iconst (v := nI 0) dX12_reckon_95 rfl ?_
      exact V_iret ⟨Or.inl rfl, dX12_reckon_96⟩ ⟨Nat.le_of_ble_eq_true rfl, Nat.le_of_ble_eq_true rfl⟩ ⟨rfl, congrArg (fun z => some (Value.int z)) (by simp_all [jn, nI_0, nI_one]), rfl, rfl⟩
    · skip
      refine V_iconst (v := nI 1) dX12_reckon_91 rfl ?_
      refine V_goto (tgt := 96) dX12_reckon_92 rfl ?_
      exact V_iret ⟨Or.inl rfl, dX12_reckon_96⟩ ⟨Nat.le_of_ble_eq_true rfl, Nat.le_of_ble_eq_true rfl⟩ ⟨rfl, congrArg (fun z => some (Value.int z)) (by simp_all [jn, nI_0, nI_one]), rfl, rfl⟩

set_option maxRecDepth 100000 in
set_option maxHeartbeats 4000000 in
theorem cs_n {G : zG} {I : zI} {J : zJ} {Q : zQ} {a : Int32} {tt b p : Nat} {s : List Int32} (hp : p < tt) (ht : tt ≤ 1300) {v : Nat} (hv : v < 1048576) (hs : s.length < 260) (hc : I 73 p = nI (1048576 * 0 + v)) (hk : cHd G I J Q a tt b (p + 1) (nI v :: s)) : cHd G I J Q a tt b p s := by
  intro I1 hr
  have hcode : I1 73 p = nI (1048576 * 0 + v) := by rw [hr.1 73 (by decide)]; exact hc
  show V G mX12_comesTo 1 Q 16 [(0, .ref 62), (1, .int a), (2, .int (nI tt)), (3, .int (nI s.length)), (4, .int (nI b)), (5, .int (nI p))] [] (0, 0) zsh I1 J
  refine V_iload dX12_comesTo_16 rfl ?_
  refine V_iload_n dX12_comesTo_18 rfl ?_
  refine V_icmp_geN (tgt := 233) dX12_comesTo_19 rfl (by omega) (by omega) (fun h => absurd h (by omega)) (fun _ => ?_)
  refine V_aload_n dX12_comesTo_22 rfl ?_
  refine V_getR (b := 73) dX12_comesTo_23 fX12_41 ⟨Nat.le_of_ble_eq_true rfl, Nat.le_of_ble_eq_true rfl⟩ rfl rfl rfl ?_
  refine V_iload dX12_comesTo_26 rfl ?_
  refine V_ialdN (k := p) dX12_comesTo_28 ⟨Nat.le_of_ble_eq_true rfl, Nat.le_of_ble_eq_true rfl⟩ rfl (by decide) (by omega) ?_
  refine V_eqI (y := nI (1048576 * 0 + v)) hcode ?_
  refine V_ldc dX12_comesTo_29 qX12_246 ?_
  refine V_eqI (y := nI 1048576) rfl ?_
  refine V_idivN dX12_comesTo_31 (by omega) (by omega) (by omega) ?_
  refine V_eqI (y := nI 0) (congrArg nI (by omega)) ?_
  refine V_istore (ls' := [(6, .int (nI 0)), (0, .ref 62), (1, .int a), (2, .int (nI tt)), (3, .int (nI s.length)), (4, .int (nI b)), (5, .int (nI p))]) dX12_comesTo_32 (by decide) rfl ?_
  refine V_aload_n dX12_comesTo_34 rfl ?_
  refine V_getR (b := 73) dX12_comesTo_35 fX12_41 ⟨Nat.le_of_ble_eq_true rfl, Nat.le_of_ble_eq_true rfl⟩ rfl rfl rfl ?_
  refine V_iload dX12_comesTo_38 rfl ?_
  refine V_ialdN (k := p) dX12_comesTo_40 ⟨Nat.le_of_ble_eq_true rfl, Nat.le_of_ble_eq_true rfl⟩ rfl (by decide) (by omega) ?_
  refine V_eqI (y := nI (1048576 * 0 + v)) hcode ?_
  refine V_ldc dX12_comesTo_41 qX12_246 ?_
  refine V_eqI (y := nI 1048576) rfl ?_
  refine V_iremN dX12_comesTo_43 (by omega) (by omega) (by omega) ?_
  refine V_eqI (y := nI v) (congrArg nI (by omega)) ?_
  refine V_istore (ls' := [(7, .int (nI v)), (6, .int (nI 0)), (0, .ref 62), (1, .int a), (2, .int (nI tt)), (3, .int (nI s.length)), (4, .int (nI b)), (5, .int (nI p))]) dX12_comesTo_44 (by decide) rfl ?_
  refine V_iload dX12_comesTo_46 rfl ?_
  refine V_iconst (v := nI 1) dX12_comesTo_48 rfl ?_
  refine V_iaddN dX12_comesTo_49 ?_
  refine V_istore (ls' := [(5, .int (nI (p + 1))), (7, .int (nI v)), (6, .int (nI 0)), (0, .ref 62), (1, .int a), (2, .int (nI tt)), (3, .int (nI s.length)), (4, .int (nI b))]) dX12_comesTo_50 (by decide) rfl ?_
  refine V_iload dX12_comesTo_52 rfl ?_
  refine V_if_eq (tgt := 63) dX12_comesTo_54 rfl (fun _ => ?_) (fun h => absurd h (by decide))
  refine V_aload_n dX12_comesTo_63 rfl ?_
  refine V_getR (b := 79) dX12_comesTo_64 fX12_59 ⟨Nat.le_of_ble_eq_true rfl, Nat.le_of_ble_eq_true rfl⟩ rfl rfl rfl ?_
  refine V_iload_n dX12_comesTo_67 rfl ?_
  refine V_iload dX12_comesTo_68 rfl ?_
  refine V_if_ne (tgt := 78) dX12_comesTo_70 rfl (fun h => absurd h (by decide)) (fun _ => ?_)
  refine V_iload dX12_comesTo_73 rfl ?_
  refine V_goto (tgt := 85) dX12_comesTo_75 rfl ?_
  refine V_iastN (k := s.length) dX12_comesTo_85 ⟨Nat.le_of_ble_eq_true rfl, Nat.le_of_ble_eq_true rfl⟩ rfl (by decide) (by omega) ?_
  refine V_iload_n dX12_comesTo_86 rfl ?_
  refine V_iconst (v := nI 1) dX12_comesTo_87 rfl ?_
  refine V_iaddN dX12_comesTo_88 ?_
  refine V_istore_n (ls' := [(3, .int (nI (s.length + 1))), (5, .int (nI (p + 1))), (7, .int (nI v)), (6, .int (nI 0)), (0, .ref 62), (1, .int a), (2, .int (nI tt)), (4, .int (nI b))]) dX12_comesTo_89 (by decide) rfl ?_
  refine V_goto (tgt := 230) dX12_comesTo_90 rfl ?_
  refine V_goto (tgt := 16) dX12_comesTo_230 rfl ?_
  refine V_sub2 (ls' := [(0, .ref 62), (1, .int a), (2, .int (nI tt)), (3, .int (nI (s.length + 1))), (4, .int (nI b)), (5, .int (nI (p + 1)))]) (List.forall_mem_cons.mpr ⟨rfl, List.forall_mem_cons.mpr ⟨rfl, List.forall_mem_cons.mpr ⟨rfl, List.forall_mem_cons.mpr ⟨rfl, List.forall_mem_cons.mpr ⟨rfl, List.forall_mem_cons.mpr ⟨rfl, fun _ h => absurd h List.not_mem_nil⟩⟩⟩⟩⟩⟩) ?_
  exact hk _ (rmI_push hr _)

set_option maxRecDepth 100000 in
set_option maxHeartbeats 4000000 in
theorem cs_l {G : zG} {I : zI} {J : zJ} {Q : zQ} {a : Int32} {tt b p : Nat} {s : List Int32} (hp : p < tt) (ht : tt ≤ 1300) {v : Nat} (hv : v < 9) (hs : s.length < 260) (hc : I 73 p = nI (1048576 * 1 + v)) (hk : cHd G I J Q a tt b (p + 1) (I 80 v :: s)) : cHd G I J Q a tt b p s := by
  intro I1 hr
  have hcode : I1 73 p = nI (1048576 * 1 + v) := by rw [hr.1 73 (by decide)]; exact hc
  show V G mX12_comesTo 1 Q 16 [(0, .ref 62), (1, .int a), (2, .int (nI tt)), (3, .int (nI s.length)), (4, .int (nI b)), (5, .int (nI p))] [] (0, 0) zsh I1 J
  refine V_iload dX12_comesTo_16 rfl ?_
  refine V_iload_n dX12_comesTo_18 rfl ?_
  refine V_icmp_geN (tgt := 233) dX12_comesTo_19 rfl (by omega) (by omega) (fun h => absurd h (by omega)) (fun _ => ?_)
  refine V_aload_n dX12_comesTo_22 rfl ?_
  refine V_getR (b := 73) dX12_comesTo_23 fX12_41 ⟨Nat.le_of_ble_eq_true rfl, Nat.le_of_ble_eq_true rfl⟩ rfl rfl rfl ?_
  refine V_iload dX12_comesTo_26 rfl ?_
  refine V_ialdN (k := p) dX12_comesTo_28 ⟨Nat.le_of_ble_eq_true rfl, Nat.le_of_ble_eq_true rfl⟩ rfl (by decide) (by omega) ?_
  refine V_eqI (y := nI (1048576 * 1 + v)) hcode ?_
  refine V_ldc dX12_comesTo_29 qX12_246 ?_
  refine V_eqI (y := nI 1048576) rfl ?_
  refine V_idivN dX12_comesTo_31 (by omega) (by omega) (by omega) ?_
  refine V_eqI (y := nI 1) (congrArg nI (by omega)) ?_
  refine V_istore (ls' := [(6, .int (nI 1)), (0, .ref 62), (1, .int a), (2, .int (nI tt)), (3, .int (nI s.length)), (4, .int (nI b)), (5, .int (nI p))]) dX12_comesTo_32 (by decide) rfl ?_
  refine V_aload_n dX12_comesTo_34 rfl ?_
  refine V_getR (b := 73) dX12_comesTo_35 fX12_41 ⟨Nat.le_of_ble_eq_true rfl, Nat.le_of_ble_eq_true rfl⟩ rfl rfl rfl ?_
  refine V_iload dX12_comesTo_38 rfl ?_
  refine V_ialdN (k := p) dX12_comesTo_40 ⟨Nat.le_of_ble_eq_true rfl, Nat.le_of_ble_eq_true rfl⟩ rfl (by decide) (by omega) ?_
  refine V_eqI (y := nI (1048576 * 1 + v)) hcode ?_
  refine V_ldc dX12_comesTo_41 qX12_246 ?_
  refine V_eqI (y := nI 1048576) rfl ?_
  refine V_iremN dX12_comesTo_43 (by omega) (by omega) (by omega) ?_
  refine V_eqI (y := nI v) (congrArg nI (by omega)) ?_
  refine V_istore (ls' := [(7, .int (nI v)), (6, .int (nI 1)), (0, .ref 62), (1, .int a), (2, .int (nI tt)), (3, .int (nI s.length)), (4, .int (nI b)), (5, .int (nI p))]) dX12_comesTo_44 (by decide) rfl ?_
  refine V_iload dX12_comesTo_46 rfl ?_
  refine V_iconst (v := nI 1) dX12_comesTo_48 rfl ?_
  refine V_iaddN dX12_comesTo_49 ?_
  refine V_istore (ls' := [(5, .int (nI (p + 1))), (7, .int (nI v)), (6, .int (nI 1)), (0, .ref 62), (1, .int a), (2, .int (nI tt)), (3, .int (nI s.length)), (4, .int (nI b))]) dX12_comesTo_50 (by decide) rfl ?_
  refine V_iload dX12_comesTo_52 rfl ?_
  refine V_if_eq (tgt := 63) dX12_comesTo_54 rfl (fun h => absurd h (by decide)) (fun _ => ?_)
  refine V_iload dX12_comesTo_57 rfl ?_
  refine V_iconst (v := nI 1) dX12_comesTo_59 rfl ?_
  refine V_icmp_ne (tgt := 93) dX12_comesTo_60 rfl (fun h => absurd h (by decide)) (fun _ => ?_)
  refine V_aload_n dX12_comesTo_63 rfl ?_
  refine V_getR (b := 79) dX12_comesTo_64 fX12_59 ⟨Nat.le_of_ble_eq_true rfl, Nat.le_of_ble_eq_true rfl⟩ rfl rfl rfl ?_
  refine V_iload_n dX12_comesTo_67 rfl ?_
  refine V_iload dX12_comesTo_68 rfl ?_
  refine V_if_ne (tgt := 78) dX12_comesTo_70 rfl (fun _ => ?_) (fun h => absurd h (by decide))
  refine V_aload_n dX12_comesTo_78 rfl ?_
  refine V_getR (b := 80) dX12_comesTo_79 fX12_62 ⟨Nat.le_of_ble_eq_true rfl, Nat.le_of_ble_eq_true rfl⟩ rfl rfl rfl ?_
  refine V_iload dX12_comesTo_82 rfl ?_
  refine V_ialdN (k := v) dX12_comesTo_84 ⟨Nat.le_of_ble_eq_true rfl, Nat.le_of_ble_eq_true rfl⟩ rfl (by decide) (by omega) ?_
  refine V_eqI (y := I 80 v) (by rw [hr.1 80 (by decide)]) ?_
  refine V_iastN (k := s.length) dX12_comesTo_85 ⟨Nat.le_of_ble_eq_true rfl, Nat.le_of_ble_eq_true rfl⟩ rfl (by decide) (by omega) ?_
  refine V_iload_n dX12_comesTo_86 rfl ?_
  refine V_iconst (v := nI 1) dX12_comesTo_87 rfl ?_
  refine V_iaddN dX12_comesTo_88 ?_
  refine V_istore_n (ls' := [(3, .int (nI (s.length + 1))), (5, .int (nI (p + 1))), (7, .int (nI v)), (6, .int (nI 1)), (0, .ref 62), (1, .int a), (2, .int (nI tt)), (4, .int (nI b))]) dX12_comesTo_89 (by decide) rfl ?_
  refine V_goto (tgt := 230) dX12_comesTo_90 rfl ?_
  refine V_goto (tgt := 16) dX12_comesTo_230 rfl ?_
  refine V_sub2 (ls' := [(0, .ref 62), (1, .int a), (2, .int (nI tt)), (3, .int (nI (s.length + 1))), (4, .int (nI b)), (5, .int (nI (p + 1)))]) (List.forall_mem_cons.mpr ⟨rfl, List.forall_mem_cons.mpr ⟨rfl, List.forall_mem_cons.mpr ⟨rfl, List.forall_mem_cons.mpr ⟨rfl, List.forall_mem_cons.mpr ⟨rfl, List.forall_mem_cons.mpr ⟨rfl, fun _ h => absurd h List.not_mem_nil⟩⟩⟩⟩⟩⟩) ?_
  exact hk _ (rmI_push hr _)

set_option maxRecDepth 100000 in
set_option maxHeartbeats 4000000 in
theorem cs_not {G : zG} {I : zI} {J : zJ} {Q : zQ} {a : Int32} {tt b p : Nat} {s : List Int32} (hp : p < tt) (ht : tt ≤ 1300) {x : Int32} (hx : x = 0 ∨ x = 1) (hs : s.length < 260) (hc : I 73 p = nI (1048576 * 10 + 0)) (hk : cHd G I J Q a tt b (p + 1) ((if x = 0 then 1 else 0) :: s)) : cHd G I J Q a tt b p (x :: s) := by
  intro I1 hr
  have hcode : I1 73 p = nI (1048576 * 10 + 0) := by rw [hr.1 73 (by decide)]; exact hc
  show V G mX12_comesTo 1 Q 16 [(0, .ref 62), (1, .int a), (2, .int (nI tt)), (3, .int (nI (s.length + 1))), (4, .int (nI b)), (5, .int (nI p))] [] (0, 0) zsh I1 J
  refine V_iload dX12_comesTo_16 rfl ?_
  refine V_iload_n dX12_comesTo_18 rfl ?_
  refine V_icmp_geN (tgt := 233) dX12_comesTo_19 rfl (by omega) (by omega) (fun h => absurd h (by omega)) (fun _ => ?_)
  refine V_aload_n dX12_comesTo_22 rfl ?_
  refine V_getR (b := 73) dX12_comesTo_23 fX12_41 ⟨Nat.le_of_ble_eq_true rfl, Nat.le_of_ble_eq_true rfl⟩ rfl rfl rfl ?_
  refine V_iload dX12_comesTo_26 rfl ?_
  refine V_ialdN (k := p) dX12_comesTo_28 ⟨Nat.le_of_ble_eq_true rfl, Nat.le_of_ble_eq_true rfl⟩ rfl (by decide) (by omega) ?_
  refine V_eqI (y := nI (1048576 * 10 + 0)) hcode ?_
  refine V_ldc dX12_comesTo_29 qX12_246 ?_
  refine V_eqI (y := nI 1048576) rfl ?_
  refine V_idivN dX12_comesTo_31 (by omega) (by omega) (by omega) ?_
  refine V_eqI (y := nI 10) (congrArg nI (by omega)) ?_
  refine V_istore (ls' := [(6, .int (nI 10)), (0, .ref 62), (1, .int a), (2, .int (nI tt)), (3, .int (nI (s.length + 1))), (4, .int (nI b)), (5, .int (nI p))]) dX12_comesTo_32 (by decide) rfl ?_
  refine V_aload_n dX12_comesTo_34 rfl ?_
  refine V_getR (b := 73) dX12_comesTo_35 fX12_41 ⟨Nat.le_of_ble_eq_true rfl, Nat.le_of_ble_eq_true rfl⟩ rfl rfl rfl ?_
  refine V_iload dX12_comesTo_38 rfl ?_
  refine V_ialdN (k := p) dX12_comesTo_40 ⟨Nat.le_of_ble_eq_true rfl, Nat.le_of_ble_eq_true rfl⟩ rfl (by decide) (by omega) ?_
  refine V_eqI (y := nI (1048576 * 10 + 0)) hcode ?_
  refine V_ldc dX12_comesTo_41 qX12_246 ?_
  refine V_eqI (y := nI 1048576) rfl ?_
  refine V_iremN dX12_comesTo_43 (by omega) (by omega) (by omega) ?_
  refine V_eqI (y := nI 0) (congrArg nI (by omega)) ?_
  refine V_istore (ls' := [(7, .int (nI 0)), (6, .int (nI 10)), (0, .ref 62), (1, .int a), (2, .int (nI tt)), (3, .int (nI (s.length + 1))), (4, .int (nI b)), (5, .int (nI p))]) dX12_comesTo_44 (by decide) rfl ?_
  refine V_iload dX12_comesTo_46 rfl ?_
  refine V_iconst (v := nI 1) dX12_comesTo_48 rfl ?_
  refine V_iaddN dX12_comesTo_49 ?_
  refine V_istore (ls' := [(5, .int (nI (p + 1))), (7, .int (nI 0)), (6, .int (nI 10)), (0, .ref 62), (1, .int a), (2, .int (nI tt)), (3, .int (nI (s.length + 1))), (4, .int (nI b))]) dX12_comesTo_50 (by decide) rfl ?_
  refine V_iload dX12_comesTo_52 rfl ?_
  refine V_if_eq (tgt := 63) dX12_comesTo_54 rfl (fun h => absurd h (by decide)) (fun _ => ?_)
  refine V_iload dX12_comesTo_57 rfl ?_
  refine V_iconst (v := nI 1) dX12_comesTo_59 rfl ?_
  refine V_icmp_ne (tgt := 93) dX12_comesTo_60 rfl (fun _ => ?_) (fun h => absurd h (by decide))
  refine V_iload dX12_comesTo_93 rfl ?_
  refine V_bipush (v := nI 10) dX12_comesTo_95 rfl ?_
  refine V_icmp_ne (tgt := 121) dX12_comesTo_97 rfl (fun h => absurd h (by decide)) (fun _ => ?_)
  refine V_aload_n dX12_comesTo_100 rfl ?_
  refine V_getR (b := 79) dX12_comesTo_101 fX12_59 ⟨Nat.le_of_ble_eq_true rfl, Nat.le_of_ble_eq_true rfl⟩ rfl rfl rfl ?_
  refine V_iload_n dX12_comesTo_104 rfl ?_
  refine V_iconst (v := nI 1) dX12_comesTo_105 rfl ?_
  refine V_isubN dX12_comesTo_106 (by omega) ?_
  refine V_iconst (v := nI 1) dX12_comesTo_107 rfl ?_
  refine V_aload_n dX12_comesTo_108 rfl ?_
  refine V_getR (b := 79) dX12_comesTo_109 fX12_59 ⟨Nat.le_of_ble_eq_true rfl, Nat.le_of_ble_eq_true rfl⟩ rfl rfl rfl ?_
  refine V_iload_n dX12_comesTo_112 rfl ?_
  refine V_iconst (v := nI 1) dX12_comesTo_113 rfl ?_
  refine V_isubN dX12_comesTo_114 (by omega) ?_
  refine V_ialdN (k := (s.length + 1) - 1) dX12_comesTo_115 ⟨Nat.le_of_ble_eq_true rfl, Nat.le_of_ble_eq_true rfl⟩ rfl (by decide) (by omega) ?_
  refine V_eqI (y := x) (rmI_pop hr).1 ?_
  refine V_isub dX12_comesTo_116 ?_
  refine V_iastN (k := (s.length + 1) - 1) dX12_comesTo_117 ⟨Nat.le_of_ble_eq_true rfl, Nat.le_of_ble_eq_true rfl⟩ rfl (by decide) (by omega) ?_
  refine V_goto (tgt := 230) dX12_comesTo_118 rfl ?_
  refine V_goto (tgt := 16) dX12_comesTo_230 rfl ?_
  refine V_sub2 (ls' := [(0, .ref 62), (1, .int a), (2, .int (nI tt)), (3, .int (nI (s.length + 1))), (4, .int (nI b)), (5, .int (nI (p + 1)))]) (List.forall_mem_cons.mpr ⟨rfl, List.forall_mem_cons.mpr ⟨rfl, List.forall_mem_cons.mpr ⟨rfl, List.forall_mem_cons.mpr ⟨rfl, List.forall_mem_cons.mpr ⟨rfl, List.forall_mem_cons.mpr ⟨rfl, fun _ h => absurd h List.not_mem_nil⟩⟩⟩⟩⟩⟩) ?_
  rcases hx with e | e <;> subst e <;> exact hk _ (rmI_push (rmI_pop hr).2 _)

set_option maxRecDepth 100000 in
set_option maxHeartbeats 4000000 in
theorem cs_and {G : zG} {I : zI} {J : zJ} {Q : zQ} {a : Int32} {tt b p : Nat} {s : List Int32} (hp : p < tt) (ht : tt ≤ 1300) {x : Int32} {v : Nat} (hv : v < 1048576) (hb : b ≤ 1300) (hs : s.length < 260) (hc : I 73 p = nI (1048576 * 11 + v)) (hj : x = 0 → cHd G I J Q a tt b (b + v) (x :: s)) (hk : ¬ x = 0 → cHd G I J Q a tt b (p + 1) s) : cHd G I J Q a tt b p (x :: s) := by
  intro I1 hr
  have hcode : I1 73 p = nI (1048576 * 11 + v) := by rw [hr.1 73 (by decide)]; exact hc
  show V G mX12_comesTo 1 Q 16 [(0, .ref 62), (1, .int a), (2, .int (nI tt)), (3, .int (nI (s.length + 1))), (4, .int (nI b)), (5, .int (nI p))] [] (0, 0) zsh I1 J
  refine V_iload dX12_comesTo_16 rfl ?_
  refine V_iload_n dX12_comesTo_18 rfl ?_
  refine V_icmp_geN (tgt := 233) dX12_comesTo_19 rfl (by omega) (by omega) (fun h => absurd h (by omega)) (fun _ => ?_)
  refine V_aload_n dX12_comesTo_22 rfl ?_
  refine V_getR (b := 73) dX12_comesTo_23 fX12_41 ⟨Nat.le_of_ble_eq_true rfl, Nat.le_of_ble_eq_true rfl⟩ rfl rfl rfl ?_
  refine V_iload dX12_comesTo_26 rfl ?_
  refine V_ialdN (k := p) dX12_comesTo_28 ⟨Nat.le_of_ble_eq_true rfl, Nat.le_of_ble_eq_true rfl⟩ rfl (by decide) (by omega) ?_
  refine V_eqI (y := nI (1048576 * 11 + v)) hcode ?_
  refine V_ldc dX12_comesTo_29 qX12_246 ?_
  refine V_eqI (y := nI 1048576) rfl ?_
  refine V_idivN dX12_comesTo_31 (by omega) (by omega) (by omega) ?_
  refine V_eqI (y := nI 11) (congrArg nI (by omega)) ?_
  refine V_istore (ls' := [(6, .int (nI 11)), (0, .ref 62), (1, .int a), (2, .int (nI tt)), (3, .int (nI (s.length + 1))), (4, .int (nI b)), (5, .int (nI p))]) dX12_comesTo_32 (by decide) rfl ?_
  refine V_aload_n dX12_comesTo_34 rfl ?_
  refine V_getR (b := 73) dX12_comesTo_35 fX12_41 ⟨Nat.le_of_ble_eq_true rfl, Nat.le_of_ble_eq_true rfl⟩ rfl rfl rfl ?_
  refine V_iload dX12_comesTo_38 rfl ?_
  refine V_ialdN (k := p) dX12_comesTo_40 ⟨Nat.le_of_ble_eq_true rfl, Nat.le_of_ble_eq_true rfl⟩ rfl (by decide) (by omega) ?_
  refine V_eqI (y := nI (1048576 * 11 + v)) hcode ?_
  refine V_ldc dX12_comesTo_41 qX12_246 ?_
  refine V_eqI (y := nI 1048576) rfl ?_
  refine V_iremN dX12_comesTo_43 (by omega) (by omega) (by omega) ?_
  refine V_eqI (y := nI v) (congrArg nI (by omega)) ?_
  refine V_istore (ls' := [(7, .int (nI v)), (6, .int (nI 11)), (0, .ref 62), (1, .int a), (2, .int (nI tt)), (3, .int (nI (s.length + 1))), (4, .int (nI b)), (5, .int (nI p))]) dX12_comesTo_44 (by decide) rfl ?_
  refine V_iload dX12_comesTo_46 rfl ?_
  refine V_iconst (v := nI 1) dX12_comesTo_48 rfl ?_
  refine V_iaddN dX12_comesTo_49 ?_
  refine V_istore (ls' := [(5, .int (nI (p + 1))), (7, .int (nI v)), (6, .int (nI 11)), (0, .ref 62), (1, .int a), (2, .int (nI tt)), (3, .int (nI (s.length + 1))), (4, .int (nI b))]) dX12_comesTo_50 (by decide) rfl ?_
  refine V_iload dX12_comesTo_52 rfl ?_
  refine V_if_eq (tgt := 63) dX12_comesTo_54 rfl (fun h => absurd h (by decide)) (fun _ => ?_)
  refine V_iload dX12_comesTo_57 rfl ?_
  refine V_iconst (v := nI 1) dX12_comesTo_59 rfl ?_
  refine V_icmp_ne (tgt := 93) dX12_comesTo_60 rfl (fun _ => ?_) (fun h => absurd h (by decide))
  refine V_iload dX12_comesTo_93 rfl ?_
  refine V_bipush (v := nI 10) dX12_comesTo_95 rfl ?_
  refine V_icmp_ne (tgt := 121) dX12_comesTo_97 rfl (fun _ => ?_) (fun h => absurd h (by decide))
  refine V_iload dX12_comesTo_121 rfl ?_
  refine V_bipush (v := nI 11) dX12_comesTo_123 rfl ?_
  refine V_icmp_eq (tgt := 135) dX12_comesTo_125 rfl (fun _ => ?_) (fun h => absurd h (by decide))
  refine V_aload_n dX12_comesTo_135 rfl ?_
  refine V_getR (b := 79) dX12_comesTo_136 fX12_59 ⟨Nat.le_of_ble_eq_true rfl, Nat.le_of_ble_eq_true rfl⟩ rfl rfl rfl ?_
  refine V_iload_n dX12_comesTo_139 rfl ?_
  refine V_iconst (v := nI 1) dX12_comesTo_140 rfl ?_
  refine V_isubN dX12_comesTo_141 (by omega) ?_
  refine V_ialdN (k := (s.length + 1) - 1) dX12_comesTo_142 ⟨Nat.le_of_ble_eq_true rfl, Nat.le_of_ble_eq_true rfl⟩ rfl (by decide) (by omega) ?_
  refine V_eqI (y := x) (rmI_pop hr).1 ?_
  refine V_iload dX12_comesTo_143 rfl ?_
  refine V_bipush (v := nI 12) dX12_comesTo_145 rfl ?_
  refine V_icmp_ne (tgt := 154) dX12_comesTo_147 rfl (fun _ => ?_) (fun h => absurd h (by decide))
  refine V_iconst (v := nI 0) dX12_comesTo_154 rfl ?_
  refine V_icmp_ne (tgt := 168) dX12_comesTo_155 rfl (fun hJ => ?_) (fun hJ => ?_)
  · skip
    refine V_iload_n dX12_comesTo_168 rfl ?_
    refine V_iconst (v := nI 1) dX12_comesTo_169 rfl ?_
    refine V_isubN dX12_comesTo_170 (by omega) ?_
    refine V_istore_n (ls' := [(3, .int (nI ((s.length + 1) - 1))), (5, .int (nI (p + 1))), (7, .int (nI v)), (6, .int (nI 11)), (0, .ref 62), (1, .int a), (2, .int (nI tt)), (4, .int (nI b))]) dX12_comesTo_171 (by decide) rfl ?_
    refine V_goto (tgt := 230) dX12_comesTo_172 rfl ?_
    refine V_goto (tgt := 16) dX12_comesTo_230 rfl ?_
    refine V_sub2 (ls' := [(0, .ref 62), (1, .int a), (2, .int (nI tt)), (3, .int (nI ((s.length + 1) - 1))), (4, .int (nI b)), (5, .int (nI (p + 1)))]) (List.forall_mem_cons.mpr ⟨rfl, List.forall_mem_cons.mpr ⟨rfl, List.forall_mem_cons.mpr ⟨rfl, List.forall_mem_cons.mpr ⟨rfl, List.forall_mem_cons.mpr ⟨rfl, List.forall_mem_cons.mpr ⟨rfl, fun _ h => absurd h List.not_mem_nil⟩⟩⟩⟩⟩⟩) ?_
    exact hk hJ _ (rmI_pop hr).2
  · skip
    refine V_iload dX12_comesTo_158 rfl ?_
    refine V_iload dX12_comesTo_160 rfl ?_
    refine V_iaddN dX12_comesTo_162 ?_
    refine V_istore (ls' := [(5, .int (nI (b + v))), (7, .int (nI v)), (6, .int (nI 11)), (0, .ref 62), (1, .int a), (2, .int (nI tt)), (3, .int (nI (s.length + 1))), (4, .int (nI b))]) dX12_comesTo_163 (by decide) rfl ?_
    refine V_goto (tgt := 230) dX12_comesTo_165 rfl ?_
    refine V_goto (tgt := 16) dX12_comesTo_230 rfl ?_
    refine V_sub2 (ls' := [(0, .ref 62), (1, .int a), (2, .int (nI tt)), (3, .int (nI (s.length + 1))), (4, .int (nI b)), (5, .int (nI (b + v)))]) (List.forall_mem_cons.mpr ⟨rfl, List.forall_mem_cons.mpr ⟨rfl, List.forall_mem_cons.mpr ⟨rfl, List.forall_mem_cons.mpr ⟨rfl, List.forall_mem_cons.mpr ⟨rfl, List.forall_mem_cons.mpr ⟨rfl, fun _ h => absurd h List.not_mem_nil⟩⟩⟩⟩⟩⟩) ?_
    exact hj hJ _ hr

set_option maxRecDepth 100000 in
set_option maxHeartbeats 4000000 in
theorem cs_or {G : zG} {I : zI} {J : zJ} {Q : zQ} {a : Int32} {tt b p : Nat} {s : List Int32} (hp : p < tt) (ht : tt ≤ 1300) {x : Int32} {v : Nat} (hv : v < 1048576) (hb : b ≤ 1300) (hs : s.length < 260) (hc : I 73 p = nI (1048576 * 12 + v)) (hj : x = 1 → cHd G I J Q a tt b (b + v) (x :: s)) (hk : ¬ x = 1 → cHd G I J Q a tt b (p + 1) s) : cHd G I J Q a tt b p (x :: s) := by
  intro I1 hr
  have hcode : I1 73 p = nI (1048576 * 12 + v) := by rw [hr.1 73 (by decide)]; exact hc
  show V G mX12_comesTo 1 Q 16 [(0, .ref 62), (1, .int a), (2, .int (nI tt)), (3, .int (nI (s.length + 1))), (4, .int (nI b)), (5, .int (nI p))] [] (0, 0) zsh I1 J
  refine V_iload dX12_comesTo_16 rfl ?_
  refine V_iload_n dX12_comesTo_18 rfl ?_
  refine V_icmp_geN (tgt := 233) dX12_comesTo_19 rfl (by omega) (by omega) (fun h => absurd h (by omega)) (fun _ => ?_)
  refine V_aload_n dX12_comesTo_22 rfl ?_
  refine V_getR (b := 73) dX12_comesTo_23 fX12_41 ⟨Nat.le_of_ble_eq_true rfl, Nat.le_of_ble_eq_true rfl⟩ rfl rfl rfl ?_
  refine V_iload dX12_comesTo_26 rfl ?_
  refine V_ialdN (k := p) dX12_comesTo_28 ⟨Nat.le_of_ble_eq_true rfl, Nat.le_of_ble_eq_true rfl⟩ rfl (by decide) (by omega) ?_
  refine V_eqI (y := nI (1048576 * 12 + v)) hcode ?_
  refine V_ldc dX12_comesTo_29 qX12_246 ?_
  refine V_eqI (y := nI 1048576) rfl ?_
  refine V_idivN dX12_comesTo_31 (by omega) (by omega) (by omega) ?_
  refine V_eqI (y := nI 12) (congrArg nI (by omega)) ?_
  refine V_istore (ls' := [(6, .int (nI 12)), (0, .ref 62), (1, .int a), (2, .int (nI tt)), (3, .int (nI (s.length + 1))), (4, .int (nI b)), (5, .int (nI p))]) dX12_comesTo_32 (by decide) rfl ?_
  refine V_aload_n dX12_comesTo_34 rfl ?_
  refine V_getR (b := 73) dX12_comesTo_35 fX12_41 ⟨Nat.le_of_ble_eq_true rfl, Nat.le_of_ble_eq_true rfl⟩ rfl rfl rfl ?_
  refine V_iload dX12_comesTo_38 rfl ?_
  refine V_ialdN (k := p) dX12_comesTo_40 ⟨Nat.le_of_ble_eq_true rfl, Nat.le_of_ble_eq_true rfl⟩ rfl (by decide) (by omega) ?_
  refine V_eqI (y := nI (1048576 * 12 + v)) hcode ?_
  refine V_ldc dX12_comesTo_41 qX12_246 ?_
  refine V_eqI (y := nI 1048576) rfl ?_
  refine V_iremN dX12_comesTo_43 (by omega) (by omega) (by omega) ?_
  refine V_eqI (y := nI v) (congrArg nI (by omega)) ?_
  refine V_istore (ls' := [(7, .int (nI v)), (6, .int (nI 12)), (0, .ref 62), (1, .int a), (2, .int (nI tt)), (3, .int (nI (s.length + 1))), (4, .int (nI b)), (5, .int (nI p))]) dX12_comesTo_44 (by decide) rfl ?_
  refine V_iload dX12_comesTo_46 rfl ?_
  refine V_iconst (v := nI 1) dX12_comesTo_48 rfl ?_
  refine V_iaddN dX12_comesTo_49 ?_
  refine V_istore (ls' := [(5, .int (nI (p + 1))), (7, .int (nI v)), (6, .int (nI 12)), (0, .ref 62), (1, .int a), (2, .int (nI tt)), (3, .int (nI (s.length + 1))), (4, .int (nI b))]) dX12_comesTo_50 (by decide) rfl ?_
  refine V_iload dX12_comesTo_52 rfl ?_
  refine V_if_eq (tgt := 63) dX12_comesTo_54 rfl (fun h => absurd h (by decide)) (fun _ => ?_)
  refine V_iload dX12_comesTo_57 rfl ?_
  refine V_iconst (v := nI 1) dX12_comesTo_59 rfl ?_
  refine V_icmp_ne (tgt := 93) dX12_comesTo_60 rfl (fun _ => ?_) (fun h => absurd h (by decide))
  refine V_iload dX12_comesTo_93 rfl ?_
  refine V_bipush (v := nI 10) dX12_comesTo_95 rfl ?_
  refine V_icmp_ne (tgt := 121) dX12_comesTo_97 rfl (fun _ => ?_) (fun h => absurd h (by decide))
  refine V_iload dX12_comesTo_121 rfl ?_
  refine V_bipush (v := nI 11) dX12_comesTo_123 rfl ?_
  refine V_icmp_eq (tgt := 135) dX12_comesTo_125 rfl (fun h => absurd h (by decide)) (fun _ => ?_)
  refine V_iload dX12_comesTo_128 rfl ?_
  refine V_bipush (v := nI 12) dX12_comesTo_130 rfl ?_
  refine V_icmp_ne (tgt := 175) dX12_comesTo_132 rfl (fun h => absurd h (by decide)) (fun _ => ?_)
  refine V_aload_n dX12_comesTo_135 rfl ?_
  refine V_getR (b := 79) dX12_comesTo_136 fX12_59 ⟨Nat.le_of_ble_eq_true rfl, Nat.le_of_ble_eq_true rfl⟩ rfl rfl rfl ?_
  refine V_iload_n dX12_comesTo_139 rfl ?_
  refine V_iconst (v := nI 1) dX12_comesTo_140 rfl ?_
  refine V_isubN dX12_comesTo_141 (by omega) ?_
  refine V_ialdN (k := (s.length + 1) - 1) dX12_comesTo_142 ⟨Nat.le_of_ble_eq_true rfl, Nat.le_of_ble_eq_true rfl⟩ rfl (by decide) (by omega) ?_
  refine V_eqI (y := x) (rmI_pop hr).1 ?_
  refine V_iload dX12_comesTo_143 rfl ?_
  refine V_bipush (v := nI 12) dX12_comesTo_145 rfl ?_
  refine V_icmp_ne (tgt := 154) dX12_comesTo_147 rfl (fun h => absurd h (by decide)) (fun _ => ?_)
  refine V_iconst (v := nI 1) dX12_comesTo_150 rfl ?_
  refine V_goto (tgt := 155) dX12_comesTo_151 rfl ?_
  refine V_icmp_ne (tgt := 168) dX12_comesTo_155 rfl (fun hJ => ?_) (fun hJ => ?_)
  · skip
    refine V_iload_n dX12_comesTo_168 rfl ?_
    refine V_iconst (v := nI 1) dX12_comesTo_169 rfl ?_
    refine V_isubN dX12_comesTo_170 (by omega) ?_
    refine V_istore_n (ls' := [(3, .int (nI ((s.length + 1) - 1))), (5, .int (nI (p + 1))), (7, .int (nI v)), (6, .int (nI 12)), (0, .ref 62), (1, .int a), (2, .int (nI tt)), (4, .int (nI b))]) dX12_comesTo_171 (by decide) rfl ?_
    refine V_goto (tgt := 230) dX12_comesTo_172 rfl ?_
    refine V_goto (tgt := 16) dX12_comesTo_230 rfl ?_
    refine V_sub2 (ls' := [(0, .ref 62), (1, .int a), (2, .int (nI tt)), (3, .int (nI ((s.length + 1) - 1))), (4, .int (nI b)), (5, .int (nI (p + 1)))]) (List.forall_mem_cons.mpr ⟨rfl, List.forall_mem_cons.mpr ⟨rfl, List.forall_mem_cons.mpr ⟨rfl, List.forall_mem_cons.mpr ⟨rfl, List.forall_mem_cons.mpr ⟨rfl, List.forall_mem_cons.mpr ⟨rfl, fun _ h => absurd h List.not_mem_nil⟩⟩⟩⟩⟩⟩) ?_
    exact hk hJ _ (rmI_pop hr).2
  · skip
    refine V_iload dX12_comesTo_158 rfl ?_
    refine V_iload dX12_comesTo_160 rfl ?_
    refine V_iaddN dX12_comesTo_162 ?_
    refine V_istore (ls' := [(5, .int (nI (b + v))), (7, .int (nI v)), (6, .int (nI 12)), (0, .ref 62), (1, .int a), (2, .int (nI tt)), (3, .int (nI (s.length + 1))), (4, .int (nI b))]) dX12_comesTo_163 (by decide) rfl ?_
    refine V_goto (tgt := 230) dX12_comesTo_165 rfl ?_
    refine V_goto (tgt := 16) dX12_comesTo_230 rfl ?_
    refine V_sub2 (ls' := [(0, .ref 62), (1, .int a), (2, .int (nI tt)), (3, .int (nI (s.length + 1))), (4, .int (nI b)), (5, .int (nI (b + v)))]) (List.forall_mem_cons.mpr ⟨rfl, List.forall_mem_cons.mpr ⟨rfl, List.forall_mem_cons.mpr ⟨rfl, List.forall_mem_cons.mpr ⟨rfl, List.forall_mem_cons.mpr ⟨rfl, List.forall_mem_cons.mpr ⟨rfl, fun _ h => absurd h List.not_mem_nil⟩⟩⟩⟩⟩⟩) ?_
    exact hj hJ _ hr

set_option maxRecDepth 100000 in
set_option maxHeartbeats 4000000 in
theorem cs_43 {G : zG} {I : zI} {J : zJ} {Q : zQ} {a : Int32} {tt b p : Nat} {s : List Int32} (hp : p < tt) (ht : tt ≤ 1300) {x y : Int32} (hs : s.length + 1 < 260) (hc : I 73 p = nI (1048576 * 2 + 0)) (hk : cHd G I J Q a tt b (p + 1) (jn 43 x y :: s)) : cHd G I J Q a tt b p (y :: x :: s) := by
  intro I1 hr
  have hcode : I1 73 p = nI (1048576 * 2 + 0) := by rw [hr.1 73 (by decide)]; exact hc
  show V G mX12_comesTo 1 Q 16 [(0, .ref 62), (1, .int a), (2, .int (nI tt)), (3, .int (nI (s.length + 2))), (4, .int (nI b)), (5, .int (nI p))] [] (0, 0) zsh I1 J
  refine V_iload dX12_comesTo_16 rfl ?_
  refine V_iload_n dX12_comesTo_18 rfl ?_
  refine V_icmp_geN (tgt := 233) dX12_comesTo_19 rfl (by omega) (by omega) (fun h => absurd h (by omega)) (fun _ => ?_)
  refine V_aload_n dX12_comesTo_22 rfl ?_
  refine V_getR (b := 73) dX12_comesTo_23 fX12_41 ⟨Nat.le_of_ble_eq_true rfl, Nat.le_of_ble_eq_true rfl⟩ rfl rfl rfl ?_
  refine V_iload dX12_comesTo_26 rfl ?_
  refine V_ialdN (k := p) dX12_comesTo_28 ⟨Nat.le_of_ble_eq_true rfl, Nat.le_of_ble_eq_true rfl⟩ rfl (by decide) (by omega) ?_
  refine V_eqI (y := nI (1048576 * 2 + 0)) hcode ?_
  refine V_ldc dX12_comesTo_29 qX12_246 ?_
  refine V_eqI (y := nI 1048576) rfl ?_
  refine V_idivN dX12_comesTo_31 (by omega) (by omega) (by omega) ?_
  refine V_eqI (y := nI 2) (congrArg nI (by omega)) ?_
  refine V_istore (ls' := [(6, .int (nI 2)), (0, .ref 62), (1, .int a), (2, .int (nI tt)), (3, .int (nI (s.length + 2))), (4, .int (nI b)), (5, .int (nI p))]) dX12_comesTo_32 (by decide) rfl ?_
  refine V_aload_n dX12_comesTo_34 rfl ?_
  refine V_getR (b := 73) dX12_comesTo_35 fX12_41 ⟨Nat.le_of_ble_eq_true rfl, Nat.le_of_ble_eq_true rfl⟩ rfl rfl rfl ?_
  refine V_iload dX12_comesTo_38 rfl ?_
  refine V_ialdN (k := p) dX12_comesTo_40 ⟨Nat.le_of_ble_eq_true rfl, Nat.le_of_ble_eq_true rfl⟩ rfl (by decide) (by omega) ?_
  refine V_eqI (y := nI (1048576 * 2 + 0)) hcode ?_
  refine V_ldc dX12_comesTo_41 qX12_246 ?_
  refine V_eqI (y := nI 1048576) rfl ?_
  refine V_iremN dX12_comesTo_43 (by omega) (by omega) (by omega) ?_
  refine V_eqI (y := nI 0) (congrArg nI (by omega)) ?_
  refine V_istore (ls' := [(7, .int (nI 0)), (6, .int (nI 2)), (0, .ref 62), (1, .int a), (2, .int (nI tt)), (3, .int (nI (s.length + 2))), (4, .int (nI b)), (5, .int (nI p))]) dX12_comesTo_44 (by decide) rfl ?_
  refine V_iload dX12_comesTo_46 rfl ?_
  refine V_iconst (v := nI 1) dX12_comesTo_48 rfl ?_
  refine V_iaddN dX12_comesTo_49 ?_
  refine V_istore (ls' := [(5, .int (nI (p + 1))), (7, .int (nI 0)), (6, .int (nI 2)), (0, .ref 62), (1, .int a), (2, .int (nI tt)), (3, .int (nI (s.length + 2))), (4, .int (nI b))]) dX12_comesTo_50 (by decide) rfl ?_
  refine V_iload dX12_comesTo_52 rfl ?_
  refine V_if_eq (tgt := 63) dX12_comesTo_54 rfl (fun h => absurd h (by decide)) (fun _ => ?_)
  refine V_iload dX12_comesTo_57 rfl ?_
  refine V_iconst (v := nI 1) dX12_comesTo_59 rfl ?_
  refine V_icmp_ne (tgt := 93) dX12_comesTo_60 rfl (fun _ => ?_) (fun h => absurd h (by decide))
  refine V_iload dX12_comesTo_93 rfl ?_
  refine V_bipush (v := nI 10) dX12_comesTo_95 rfl ?_
  refine V_icmp_ne (tgt := 121) dX12_comesTo_97 rfl (fun _ => ?_) (fun h => absurd h (by decide))
  refine V_iload dX12_comesTo_121 rfl ?_
  refine V_bipush (v := nI 11) dX12_comesTo_123 rfl ?_
  refine V_icmp_eq (tgt := 135) dX12_comesTo_125 rfl (fun h => absurd h (by decide)) (fun _ => ?_)
  refine V_iload dX12_comesTo_128 rfl ?_
  refine V_bipush (v := nI 12) dX12_comesTo_130 rfl ?_
  refine V_icmp_ne (tgt := 175) dX12_comesTo_132 rfl (fun _ => ?_) (fun h => absurd h (by decide))
  refine V_iload_n dX12_comesTo_175 rfl ?_
  refine V_iconst (v := nI 1) dX12_comesTo_176 rfl ?_
  refine V_isubN dX12_comesTo_177 (by omega) ?_
  refine V_istore_n (ls' := [(3, .int (nI ((s.length + 2) - 1))), (5, .int (nI (p + 1))), (7, .int (nI 0)), (6, .int (nI 2)), (0, .ref 62), (1, .int a), (2, .int (nI tt)), (4, .int (nI b))]) dX12_comesTo_178 (by decide) rfl ?_
  refine V_iload dX12_comesTo_179 rfl ?_
  refine V_iconst (v := nI 5) dX12_comesTo_181 rfl ?_
  refine V_icmp_eq (tgt := 192) dX12_comesTo_182 rfl (fun h => absurd h (by decide)) (fun _ => ?_)
  refine V_iload dX12_comesTo_185 rfl ?_
  refine V_bipush (v := nI 6) dX12_comesTo_187 rfl ?_
  refine V_icmp_ne (tgt := 203) dX12_comesTo_189 rfl (fun _ => ?_) (fun h => absurd h (by decide))
  refine V_aload_n dX12_comesTo_203 rfl ?_
  refine V_getR (b := 79) dX12_comesTo_204 fX12_59 ⟨Nat.le_of_ble_eq_true rfl, Nat.le_of_ble_eq_true rfl⟩ rfl rfl rfl ?_
  refine V_iload_n dX12_comesTo_207 rfl ?_
  refine V_iconst (v := nI 1) dX12_comesTo_208 rfl ?_
  refine V_isubN dX12_comesTo_209 (by omega) ?_
  refine V_iload dX12_comesTo_210 rfl ?_
  refine V_aload_n dX12_comesTo_212 rfl ?_
  refine V_getR (b := 79) dX12_comesTo_213 fX12_59 ⟨Nat.le_of_ble_eq_true rfl, Nat.le_of_ble_eq_true rfl⟩ rfl rfl rfl ?_
  refine V_iload_n dX12_comesTo_216 rfl ?_
  refine V_iconst (v := nI 1) dX12_comesTo_217 rfl ?_
  refine V_isubN dX12_comesTo_218 (by omega) ?_
  refine V_ialdN (k := ((s.length + 2) - 1) - 1) dX12_comesTo_219 ⟨Nat.le_of_ble_eq_true rfl, Nat.le_of_ble_eq_true rfl⟩ rfl (by decide) (by omega) ?_
  refine V_eqI (y := x) (rmI_pop (rmI_pop hr).2).1 ?_
  refine V_aload_n dX12_comesTo_220 rfl ?_
  refine V_getR (b := 79) dX12_comesTo_221 fX12_59 ⟨Nat.le_of_ble_eq_true rfl, Nat.le_of_ble_eq_true rfl⟩ rfl rfl rfl ?_
  refine V_iload_n dX12_comesTo_224 rfl ?_
  refine V_ialdN (k := (s.length + 2) - 1) dX12_comesTo_225 ⟨Nat.le_of_ble_eq_true rfl, Nat.le_of_ble_eq_true rfl⟩ rfl (by decide) (by omega) ?_
  refine V_eqI (y := y) (rmI_pop hr).1 ?_
  refine V_callS (As := [.int (nI 2), .int x, .int y]) (st := [.int (nI (((s.length + 2) - 1) - 1)), .ref 79]) dX12_comesTo_226 kX12_reckon lX12_325 (by decide) rfl rfl (Nat.le_of_ble_eq_true rfl) ⟨Nat.le_of_ble_eq_true rfl, Nat.le_of_ble_eq_true rfl⟩ (w_reckon (o := 43) (by simp) (fun h => by simp at h)) ?_
  rintro _ _ _ _ ⟨rfl, rfl, rfl, rfl⟩
  refine V_iastN (k := ((s.length + 2) - 1) - 1) dX12_comesTo_229 ⟨Nat.le_of_ble_eq_true rfl, Nat.le_of_ble_eq_true rfl⟩ rfl (by decide) (by omega) ?_
  refine V_goto (tgt := 16) dX12_comesTo_230 rfl ?_
  refine V_sub2 (ls' := [(0, .ref 62), (1, .int a), (2, .int (nI tt)), (3, .int (nI ((s.length + 2) - 1))), (4, .int (nI b)), (5, .int (nI (p + 1)))]) (List.forall_mem_cons.mpr ⟨rfl, List.forall_mem_cons.mpr ⟨rfl, List.forall_mem_cons.mpr ⟨rfl, List.forall_mem_cons.mpr ⟨rfl, List.forall_mem_cons.mpr ⟨rfl, List.forall_mem_cons.mpr ⟨rfl, fun _ h => absurd h List.not_mem_nil⟩⟩⟩⟩⟩⟩) ?_
  exact hk _ (rmI_push (rmI_pop (rmI_pop hr).2).2 _)

set_option maxRecDepth 100000 in
set_option maxHeartbeats 4000000 in
theorem cs_45 {G : zG} {I : zI} {J : zJ} {Q : zQ} {a : Int32} {tt b p : Nat} {s : List Int32} (hp : p < tt) (ht : tt ≤ 1300) {x y : Int32} (hs : s.length + 1 < 260) (hc : I 73 p = nI (1048576 * 3 + 0)) (hk : cHd G I J Q a tt b (p + 1) (jn 45 x y :: s)) : cHd G I J Q a tt b p (y :: x :: s) := by
  intro I1 hr
  have hcode : I1 73 p = nI (1048576 * 3 + 0) := by rw [hr.1 73 (by decide)]; exact hc
  show V G mX12_comesTo 1 Q 16 [(0, .ref 62), (1, .int a), (2, .int (nI tt)), (3, .int (nI (s.length + 2))), (4, .int (nI b)), (5, .int (nI p))] [] (0, 0) zsh I1 J
  refine V_iload dX12_comesTo_16 rfl ?_
  refine V_iload_n dX12_comesTo_18 rfl ?_
  refine V_icmp_geN (tgt := 233) dX12_comesTo_19 rfl (by omega) (by omega) (fun h => absurd h (by omega)) (fun _ => ?_)
  refine V_aload_n dX12_comesTo_22 rfl ?_
  refine V_getR (b := 73) dX12_comesTo_23 fX12_41 ⟨Nat.le_of_ble_eq_true rfl, Nat.le_of_ble_eq_true rfl⟩ rfl rfl rfl ?_
  refine V_iload dX12_comesTo_26 rfl ?_
  refine V_ialdN (k := p) dX12_comesTo_28 ⟨Nat.le_of_ble_eq_true rfl, Nat.le_of_ble_eq_true rfl⟩ rfl (by decide) (by omega) ?_
  refine V_eqI (y := nI (1048576 * 3 + 0)) hcode ?_
  refine V_ldc dX12_comesTo_29 qX12_246 ?_
  refine V_eqI (y := nI 1048576) rfl ?_
  refine V_idivN dX12_comesTo_31 (by omega) (by omega) (by omega) ?_
  refine V_eqI (y := nI 3) (congrArg nI (by omega)) ?_
  refine V_istore (ls' := [(6, .int (nI 3)), (0, .ref 62), (1, .int a), (2, .int (nI tt)), (3, .int (nI (s.length + 2))), (4, .int (nI b)), (5, .int (nI p))]) dX12_comesTo_32 (by decide) rfl ?_
  refine V_aload_n dX12_comesTo_34 rfl ?_
  refine V_getR (b := 73) dX12_comesTo_35 fX12_41 ⟨Nat.le_of_ble_eq_true rfl, Nat.le_of_ble_eq_true rfl⟩ rfl rfl rfl ?_
  refine V_iload dX12_comesTo_38 rfl ?_
  refine V_ialdN (k := p) dX12_comesTo_40 ⟨Nat.le_of_ble_eq_true rfl, Nat.le_of_ble_eq_true rfl⟩ rfl (by decide) (by omega) ?_
  refine V_eqI (y := nI (1048576 * 3 + 0)) hcode ?_
  refine V_ldc dX12_comesTo_41 qX12_246 ?_
  refine V_eqI (y := nI 1048576) rfl ?_
  refine V_iremN dX12_comesTo_43 (by omega) (by omega) (by omega) ?_
  refine V_eqI (y := nI 0) (congrArg nI (by omega)) ?_
  refine V_istore (ls' := [(7, .int (nI 0)), (6, .int (nI 3)), (0, .ref 62), (1, .int a), (2, .int (nI tt)), (3, .int (nI (s.length + 2))), (4, .int (nI b)), (5, .int (nI p))]) dX12_comesTo_44 (by decide) rfl ?_
  refine V_iload dX12_comesTo_46 rfl ?_
  refine V_iconst (v := nI 1) dX12_comesTo_48 rfl ?_
  refine V_iaddN dX12_comesTo_49 ?_
  refine V_istore (ls' := [(5, .int (nI (p + 1))), (7, .int (nI 0)), (6, .int (nI 3)), (0, .ref 62), (1, .int a), (2, .int (nI tt)), (3, .int (nI (s.length + 2))), (4, .int (nI b))]) dX12_comesTo_50 (by decide) rfl ?_
  refine V_iload dX12_comesTo_52 rfl ?_
  refine V_if_eq (tgt := 63) dX12_comesTo_54 rfl (fun h => absurd h (by decide)) (fun _ => ?_)
  refine V_iload dX12_comesTo_57 rfl ?_
  refine V_iconst (v := nI 1) dX12_comesTo_59 rfl ?_
  refine V_icmp_ne (tgt := 93) dX12_comesTo_60 rfl (fun _ => ?_) (fun h => absurd h (by decide))
  refine V_iload dX12_comesTo_93 rfl ?_
  refine V_bipush (v := nI 10) dX12_comesTo_95 rfl ?_
  refine V_icmp_ne (tgt := 121) dX12_comesTo_97 rfl (fun _ => ?_) (fun h => absurd h (by decide))
  refine V_iload dX12_comesTo_121 rfl ?_
  refine V_bipush (v := nI 11) dX12_comesTo_123 rfl ?_
  refine V_icmp_eq (tgt := 135) dX12_comesTo_125 rfl (fun h => absurd h (by decide)) (fun _ => ?_)
  refine V_iload dX12_comesTo_128 rfl ?_
  refine V_bipush (v := nI 12) dX12_comesTo_130 rfl ?_
  refine V_icmp_ne (tgt := 175) dX12_comesTo_132 rfl (fun _ => ?_) (fun h => absurd h (by decide))
  refine V_iload_n dX12_comesTo_175 rfl ?_
  refine V_iconst (v := nI 1) dX12_comesTo_176 rfl ?_
  refine V_isubN dX12_comesTo_177 (by omega) ?_
  refine V_istore_n (ls' := [(3, .int (nI ((s.length + 2) - 1))), (5, .int (nI (p + 1))), (7, .int (nI 0)), (6, .int (nI 3)), (0, .ref 62), (1, .int a), (2, .int (nI tt)), (4, .int (nI b))]) dX12_comesTo_178 (by decide) rfl ?_
  refine V_iload dX12_comesTo_179 rfl ?_
  refine V_iconst (v := nI 5) dX12_comesTo_181 rfl ?_
  refine V_icmp_eq (tgt := 192) dX12_comesTo_182 rfl (fun h => absurd h (by decide)) (fun _ => ?_)
  refine V_iload dX12_comesTo_185 rfl ?_
  refine V_bipush (v := nI 6) dX12_comesTo_187 rfl ?_
  refine V_icmp_ne (tgt := 203) dX12_comesTo_189 rfl (fun _ => ?_) (fun h => absurd h (by decide))
  refine V_aload_n dX12_comesTo_203 rfl ?_
  refine V_getR (b := 79) dX12_comesTo_204 fX12_59 ⟨Nat.le_of_ble_eq_true rfl, Nat.le_of_ble_eq_true rfl⟩ rfl rfl rfl ?_
  refine V_iload_n dX12_comesTo_207 rfl ?_
  refine V_iconst (v := nI 1) dX12_comesTo_208 rfl ?_
  refine V_isubN dX12_comesTo_209 (by omega) ?_
  refine V_iload dX12_comesTo_210 rfl ?_
  refine V_aload_n dX12_comesTo_212 rfl ?_
  refine V_getR (b := 79) dX12_comesTo_213 fX12_59 ⟨Nat.le_of_ble_eq_true rfl, Nat.le_of_ble_eq_true rfl⟩ rfl rfl rfl ?_
  refine V_iload_n dX12_comesTo_216 rfl ?_
  refine V_iconst (v := nI 1) dX12_comesTo_217 rfl ?_
  refine V_isubN dX12_comesTo_218 (by omega) ?_
  refine V_ialdN (k := ((s.length + 2) - 1) - 1) dX12_comesTo_219 ⟨Nat.le_of_ble_eq_true rfl, Nat.le_of_ble_eq_true rfl⟩ rfl (by decide) (by omega) ?_
  refine V_eqI (y := x) (rmI_pop (rmI_pop hr).2).1 ?_
  refine V_aload_n dX12_comesTo_220 rfl ?_
  refine V_getR (b := 79) dX12_comesTo_221 fX12_59 ⟨Nat.le_of_ble_eq_true rfl, Nat.le_of_ble_eq_true rfl⟩ rfl rfl rfl ?_
  refine V_iload_n dX12_comesTo_224 rfl ?_
  refine V_ialdN (k := (s.length + 2) - 1) dX12_comesTo_225 ⟨Nat.le_of_ble_eq_true rfl, Nat.le_of_ble_eq_true rfl⟩ rfl (by decide) (by omega) ?_
  refine V_eqI (y := y) (rmI_pop hr).1 ?_
  refine V_callS (As := [.int (nI 3), .int x, .int y]) (st := [.int (nI (((s.length + 2) - 1) - 1)), .ref 79]) dX12_comesTo_226 kX12_reckon lX12_325 (by decide) rfl rfl (Nat.le_of_ble_eq_true rfl) ⟨Nat.le_of_ble_eq_true rfl, Nat.le_of_ble_eq_true rfl⟩ (w_reckon (o := 45) (by simp) (fun h => by simp at h)) ?_
  rintro _ _ _ _ ⟨rfl, rfl, rfl, rfl⟩
  refine V_iastN (k := ((s.length + 2) - 1) - 1) dX12_comesTo_229 ⟨Nat.le_of_ble_eq_true rfl, Nat.le_of_ble_eq_true rfl⟩ rfl (by decide) (by omega) ?_
  refine V_goto (tgt := 16) dX12_comesTo_230 rfl ?_
  refine V_sub2 (ls' := [(0, .ref 62), (1, .int a), (2, .int (nI tt)), (3, .int (nI ((s.length + 2) - 1))), (4, .int (nI b)), (5, .int (nI (p + 1)))]) (List.forall_mem_cons.mpr ⟨rfl, List.forall_mem_cons.mpr ⟨rfl, List.forall_mem_cons.mpr ⟨rfl, List.forall_mem_cons.mpr ⟨rfl, List.forall_mem_cons.mpr ⟨rfl, List.forall_mem_cons.mpr ⟨rfl, fun _ h => absurd h List.not_mem_nil⟩⟩⟩⟩⟩⟩) ?_
  exact hk _ (rmI_push (rmI_pop (rmI_pop hr).2).2 _)

set_option maxRecDepth 100000 in
set_option maxHeartbeats 4000000 in
theorem cs_42 {G : zG} {I : zI} {J : zJ} {Q : zQ} {a : Int32} {tt b p : Nat} {s : List Int32} (hp : p < tt) (ht : tt ≤ 1300) {x y : Int32} (hs : s.length + 1 < 260) (hc : I 73 p = nI (1048576 * 4 + 0)) (hk : cHd G I J Q a tt b (p + 1) (jn 42 x y :: s)) : cHd G I J Q a tt b p (y :: x :: s) := by
  intro I1 hr
  have hcode : I1 73 p = nI (1048576 * 4 + 0) := by rw [hr.1 73 (by decide)]; exact hc
  show V G mX12_comesTo 1 Q 16 [(0, .ref 62), (1, .int a), (2, .int (nI tt)), (3, .int (nI (s.length + 2))), (4, .int (nI b)), (5, .int (nI p))] [] (0, 0) zsh I1 J
  refine V_iload dX12_comesTo_16 rfl ?_
  refine V_iload_n dX12_comesTo_18 rfl ?_
  refine V_icmp_geN (tgt := 233) dX12_comesTo_19 rfl (by omega) (by omega) (fun h => absurd h (by omega)) (fun _ => ?_)
  refine V_aload_n dX12_comesTo_22 rfl ?_
  refine V_getR (b := 73) dX12_comesTo_23 fX12_41 ⟨Nat.le_of_ble_eq_true rfl, Nat.le_of_ble_eq_true rfl⟩ rfl rfl rfl ?_
  refine V_iload dX12_comesTo_26 rfl ?_
  refine V_ialdN (k := p) dX12_comesTo_28 ⟨Nat.le_of_ble_eq_true rfl, Nat.le_of_ble_eq_true rfl⟩ rfl (by decide) (by omega) ?_
  refine V_eqI (y := nI (1048576 * 4 + 0)) hcode ?_
  refine V_ldc dX12_comesTo_29 qX12_246 ?_
  refine V_eqI (y := nI 1048576) rfl ?_
  refine V_idivN dX12_comesTo_31 (by omega) (by omega) (by omega) ?_
  refine V_eqI (y := nI 4) (congrArg nI (by omega)) ?_
  refine V_istore (ls' := [(6, .int (nI 4)), (0, .ref 62), (1, .int a), (2, .int (nI tt)), (3, .int (nI (s.length + 2))), (4, .int (nI b)), (5, .int (nI p))]) dX12_comesTo_32 (by decide) rfl ?_
  refine V_aload_n dX12_comesTo_34 rfl ?_
  refine V_getR (b := 73) dX12_comesTo_35 fX12_41 ⟨Nat.le_of_ble_eq_true rfl, Nat.le_of_ble_eq_true rfl⟩ rfl rfl rfl ?_
  refine V_iload dX12_comesTo_38 rfl ?_
  refine V_ialdN (k := p) dX12_comesTo_40 ⟨Nat.le_of_ble_eq_true rfl, Nat.le_of_ble_eq_true rfl⟩ rfl (by decide) (by omega) ?_
  refine V_eqI (y := nI (1048576 * 4 + 0)) hcode ?_
  refine V_ldc dX12_comesTo_41 qX12_246 ?_
  refine V_eqI (y := nI 1048576) rfl ?_
  refine V_iremN dX12_comesTo_43 (by omega) (by omega) (by omega) ?_
  refine V_eqI (y := nI 0) (congrArg nI (by omega)) ?_
  refine V_istore (ls' := [(7, .int (nI 0)), (6, .int (nI 4)), (0, .ref 62), (1, .int a), (2, .int (nI tt)), (3, .int (nI (s.length + 2))), (4, .int (nI b)), (5, .int (nI p))]) dX12_comesTo_44 (by decide) rfl ?_
  refine V_iload dX12_comesTo_46 rfl ?_
  refine V_iconst (v := nI 1) dX12_comesTo_48 rfl ?_
  refine V_iaddN dX12_comesTo_49 ?_
  refine V_istore (ls' := [(5, .int (nI (p + 1))), (7, .int (nI 0)), (6, .int (nI 4)), (0, .ref 62), (1, .int a), (2, .int (nI tt)), (3, .int (nI (s.length + 2))), (4, .int (nI b))]) dX12_comesTo_50 (by decide) rfl ?_
  refine V_iload dX12_comesTo_52 rfl ?_
  refine V_if_eq (tgt := 63) dX12_comesTo_54 rfl (fun h => absurd h (by decide)) (fun _ => ?_)
  refine V_iload dX12_comesTo_57 rfl ?_
  refine V_iconst (v := nI 1) dX12_comesTo_59 rfl ?_
  refine V_icmp_ne (tgt := 93) dX12_comesTo_60 rfl (fun _ => ?_) (fun h => absurd h (by decide))
  refine V_iload dX12_comesTo_93 rfl ?_
  refine V_bipush (v := nI 10) dX12_comesTo_95 rfl ?_
  refine V_icmp_ne (tgt := 121) dX12_comesTo_97 rfl (fun _ => ?_) (fun h => absurd h (by decide))
  refine V_iload dX12_comesTo_121 rfl ?_
  refine V_bipush (v := nI 11) dX12_comesTo_123 rfl ?_
  refine V_icmp_eq (tgt := 135) dX12_comesTo_125 rfl (fun h => absurd h (by decide)) (fun _ => ?_)
  refine V_iload dX12_comesTo_128 rfl ?_
  refine V_bipush (v := nI 12) dX12_comesTo_130 rfl ?_
  refine V_icmp_ne (tgt := 175) dX12_comesTo_132 rfl (fun _ => ?_) (fun h => absurd h (by decide))
  refine V_iload_n dX12_comesTo_175 rfl ?_
  refine V_iconst (v := nI 1) dX12_comesTo_176 rfl ?_
  refine V_isubN dX12_comesTo_177 (by omega) ?_
  refine V_istore_n (ls' := [(3, .int (nI ((s.length + 2) - 1))), (5, .int (nI (p + 1))), (7, .int (nI 0)), (6, .int (nI 4)), (0, .ref 62), (1, .int a), (2, .int (nI tt)), (4, .int (nI b))]) dX12_comesTo_178 (by decide) rfl ?_
  refine V_iload dX12_comesTo_179 rfl ?_
  refine V_iconst (v := nI 5) dX12_comesTo_181 rfl ?_
  refine V_icmp_eq (tgt := 192) dX12_comesTo_182 rfl (fun h => absurd h (by decide)) (fun _ => ?_)
  refine V_iload dX12_comesTo_185 rfl ?_
  refine V_bipush (v := nI 6) dX12_comesTo_187 rfl ?_
  refine V_icmp_ne (tgt := 203) dX12_comesTo_189 rfl (fun _ => ?_) (fun h => absurd h (by decide))
  refine V_aload_n dX12_comesTo_203 rfl ?_
  refine V_getR (b := 79) dX12_comesTo_204 fX12_59 ⟨Nat.le_of_ble_eq_true rfl, Nat.le_of_ble_eq_true rfl⟩ rfl rfl rfl ?_
  refine V_iload_n dX12_comesTo_207 rfl ?_
  refine V_iconst (v := nI 1) dX12_comesTo_208 rfl ?_
  refine V_isubN dX12_comesTo_209 (by omega) ?_
  refine V_iload dX12_comesTo_210 rfl ?_
  refine V_aload_n dX12_comesTo_212 rfl ?_
  refine V_getR (b := 79) dX12_comesTo_213 fX12_59 ⟨Nat.le_of_ble_eq_true rfl, Nat.le_of_ble_eq_true rfl⟩ rfl rfl rfl ?_
  refine V_iload_n dX12_comesTo_216 rfl ?_
  refine V_iconst (v := nI 1) dX12_comesTo_217 rfl ?_
  refine V_isubN dX12_comesTo_218 (by omega) ?_
  refine V_ialdN (k := ((s.length + 2) - 1) - 1) dX12_comesTo_219 ⟨Nat.le_of_ble_eq_true rfl, Nat.le_of_ble_eq_true rfl⟩ rfl (by decide) (by omega) ?_
  refine V_eqI (y := x) (rmI_pop (rmI_pop hr).2).1 ?_
  refine V_aload_n dX12_comesTo_220 rfl ?_
  refine V_getR (b := 79) dX12_comesTo_221 fX12_59 ⟨Nat.le_of_ble_eq_true rfl, Nat.le_of_ble_eq_true rfl⟩ rfl rfl rfl ?_
  refine V_iload_n dX12_comesTo_224 rfl ?_
  refine V_ialdN (k := (s.length + 2) - 1) dX12_comesTo_225 ⟨Nat.le_of_ble_eq_true rfl, Nat.le_of_ble_eq_true rfl⟩ rfl (by decide) (by omega) ?_
  refine V_eqI (y := y) (rmI_pop hr).1 ?_
  refine V_callS (As := [.int (nI 4), .int x, .int y]) (st := [.int (nI (((s.length + 2) - 1) - 1)), .ref 79]) dX12_comesTo_226 kX12_reckon lX12_325 (by decide) rfl rfl (Nat.le_of_ble_eq_true rfl) ⟨Nat.le_of_ble_eq_true rfl, Nat.le_of_ble_eq_true rfl⟩ (w_reckon (o := 42) (by simp) (fun h => by simp at h)) ?_
  rintro _ _ _ _ ⟨rfl, rfl, rfl, rfl⟩
  refine V_iastN (k := ((s.length + 2) - 1) - 1) dX12_comesTo_229 ⟨Nat.le_of_ble_eq_true rfl, Nat.le_of_ble_eq_true rfl⟩ rfl (by decide) (by omega) ?_
  refine V_goto (tgt := 16) dX12_comesTo_230 rfl ?_
  refine V_sub2 (ls' := [(0, .ref 62), (1, .int a), (2, .int (nI tt)), (3, .int (nI ((s.length + 2) - 1))), (4, .int (nI b)), (5, .int (nI (p + 1)))]) (List.forall_mem_cons.mpr ⟨rfl, List.forall_mem_cons.mpr ⟨rfl, List.forall_mem_cons.mpr ⟨rfl, List.forall_mem_cons.mpr ⟨rfl, List.forall_mem_cons.mpr ⟨rfl, List.forall_mem_cons.mpr ⟨rfl, fun _ h => absurd h List.not_mem_nil⟩⟩⟩⟩⟩⟩) ?_
  exact hk _ (rmI_push (rmI_pop (rmI_pop hr).2).2 _)

set_option maxRecDepth 100000 in
set_option maxHeartbeats 4000000 in
theorem cs_47 {G : zG} {I : zI} {J : zJ} {Q : zQ} {a : Int32} {tt b p : Nat} {s : List Int32} (hp : p < tt) (ht : tt ≤ 1300) {x y : Int32} (hs : s.length + 1 < 260) (hc : I 73 p = nI (1048576 * 5 + 0)) (hz : y = 0 → ∀ I2, offM I I2 → Q (some (.int (nI 0))) zsh I2 J) (hk : ¬ y = 0 → cHd G I J Q a tt b (p + 1) (jn 47 x y :: s)) : cHd G I J Q a tt b p (y :: x :: s) := by
  intro I1 hr
  have hcode : I1 73 p = nI (1048576 * 5 + 0) := by rw [hr.1 73 (by decide)]; exact hc
  show V G mX12_comesTo 1 Q 16 [(0, .ref 62), (1, .int a), (2, .int (nI tt)), (3, .int (nI (s.length + 2))), (4, .int (nI b)), (5, .int (nI p))] [] (0, 0) zsh I1 J
  refine V_iload dX12_comesTo_16 rfl ?_
  refine V_iload_n dX12_comesTo_18 rfl ?_
  refine V_icmp_geN (tgt := 233) dX12_comesTo_19 rfl (by omega) (by omega) (fun h => absurd h (by omega)) (fun _ => ?_)
  refine V_aload_n dX12_comesTo_22 rfl ?_
  refine V_getR (b := 73) dX12_comesTo_23 fX12_41 ⟨Nat.le_of_ble_eq_true rfl, Nat.le_of_ble_eq_true rfl⟩ rfl rfl rfl ?_
  refine V_iload dX12_comesTo_26 rfl ?_
  refine V_ialdN (k := p) dX12_comesTo_28 ⟨Nat.le_of_ble_eq_true rfl, Nat.le_of_ble_eq_true rfl⟩ rfl (by decide) (by omega) ?_
  refine V_eqI (y := nI (1048576 * 5 + 0)) hcode ?_
  refine V_ldc dX12_comesTo_29 qX12_246 ?_
  refine V_eqI (y := nI 1048576) rfl ?_
  refine V_idivN dX12_comesTo_31 (by omega) (by omega) (by omega) ?_
  refine V_eqI (y := nI 5) (congrArg nI (by omega)) ?_
  refine V_istore (ls' := [(6, .int (nI 5)), (0, .ref 62), (1, .int a), (2, .int (nI tt)), (3, .int (nI (s.length + 2))), (4, .int (nI b)), (5, .int (nI p))]) dX12_comesTo_32 (by decide) rfl ?_
  refine V_aload_n dX12_comesTo_34 rfl ?_
  refine V_getR (b := 73) dX12_comesTo_35 fX12_41 ⟨Nat.le_of_ble_eq_true rfl, Nat.le_of_ble_eq_true rfl⟩ rfl rfl rfl ?_
  refine V_iload dX12_comesTo_38 rfl ?_
  refine V_ialdN (k := p) dX12_comesTo_40 ⟨Nat.le_of_ble_eq_true rfl, Nat.le_of_ble_eq_true rfl⟩ rfl (by decide) (by omega) ?_
  refine V_eqI (y := nI (1048576 * 5 + 0)) hcode ?_
  refine V_ldc dX12_comesTo_41 qX12_246 ?_
  refine V_eqI (y := nI 1048576) rfl ?_
  refine V_iremN dX12_comesTo_43 (by omega) (by omega) (by omega) ?_
  refine V_eqI (y := nI 0) (congrArg nI (by omega)) ?_
  refine V_istore (ls' := [(7, .int (nI 0)), (6, .int (nI 5)), (0, .ref 62), (1, .int a), (2, .int (nI tt)), (3, .int (nI (s.length + 2))), (4, .int (nI b)), (5, .int (nI p))]) dX12_comesTo_44 (by decide) rfl ?_
  refine V_iload dX12_comesTo_46 rfl ?_
  refine V_iconst (v := nI 1) dX12_comesTo_48 rfl ?_
  refine V_iaddN dX12_comesTo_49 ?_
  refine V_istore (ls' := [(5, .int (nI (p + 1))), (7, .int (nI 0)), (6, .int (nI 5)), (0, .ref 62), (1, .int a), (2, .int (nI tt)), (3, .int (nI (s.length + 2))), (4, .int (nI b))]) dX12_comesTo_50 (by decide) rfl ?_
  refine V_iload dX12_comesTo_52 rfl ?_
  refine V_if_eq (tgt := 63) dX12_comesTo_54 rfl (fun h => absurd h (by decide)) (fun _ => ?_)
  refine V_iload dX12_comesTo_57 rfl ?_
  refine V_iconst (v := nI 1) dX12_comesTo_59 rfl ?_
  refine V_icmp_ne (tgt := 93) dX12_comesTo_60 rfl (fun _ => ?_) (fun h => absurd h (by decide))
  refine V_iload dX12_comesTo_93 rfl ?_
  refine V_bipush (v := nI 10) dX12_comesTo_95 rfl ?_
  refine V_icmp_ne (tgt := 121) dX12_comesTo_97 rfl (fun _ => ?_) (fun h => absurd h (by decide))
  refine V_iload dX12_comesTo_121 rfl ?_
  refine V_bipush (v := nI 11) dX12_comesTo_123 rfl ?_
  refine V_icmp_eq (tgt := 135) dX12_comesTo_125 rfl (fun h => absurd h (by decide)) (fun _ => ?_)
  refine V_iload dX12_comesTo_128 rfl ?_
  refine V_bipush (v := nI 12) dX12_comesTo_130 rfl ?_
  refine V_icmp_ne (tgt := 175) dX12_comesTo_132 rfl (fun _ => ?_) (fun h => absurd h (by decide))
  refine V_iload_n dX12_comesTo_175 rfl ?_
  refine V_iconst (v := nI 1) dX12_comesTo_176 rfl ?_
  refine V_isubN dX12_comesTo_177 (by omega) ?_
  refine V_istore_n (ls' := [(3, .int (nI ((s.length + 2) - 1))), (5, .int (nI (p + 1))), (7, .int (nI 0)), (6, .int (nI 5)), (0, .ref 62), (1, .int a), (2, .int (nI tt)), (4, .int (nI b))]) dX12_comesTo_178 (by decide) rfl ?_
  refine V_iload dX12_comesTo_179 rfl ?_
  refine V_iconst (v := nI 5) dX12_comesTo_181 rfl ?_
  refine V_icmp_eq (tgt := 192) dX12_comesTo_182 rfl (fun _ => ?_) (fun h => absurd h (by decide))
  refine V_aload_n dX12_comesTo_192 rfl ?_
  refine V_getR (b := 79) dX12_comesTo_193 fX12_59 ⟨Nat.le_of_ble_eq_true rfl, Nat.le_of_ble_eq_true rfl⟩ rfl rfl rfl ?_
  refine V_iload_n dX12_comesTo_196 rfl ?_
  refine V_ialdN (k := (s.length + 2) - 1) dX12_comesTo_197 ⟨Nat.le_of_ble_eq_true rfl, Nat.le_of_ble_eq_true rfl⟩ rfl (by decide) (by omega) ?_
  refine V_eqI (y := y) (rmI_pop hr).1 ?_
  refine V_if_ne (tgt := 203) dX12_comesTo_198 rfl (fun h198 => ?_) (fun h198 => ?_)
  · skip
    refine V_aload_n dX12_comesTo_203 rfl ?_
    refine V_getR (b := 79) dX12_comesTo_204 fX12_59 ⟨Nat.le_of_ble_eq_true rfl, Nat.le_of_ble_eq_true rfl⟩ rfl rfl rfl ?_
    refine V_iload_n dX12_comesTo_207 rfl ?_
    refine V_iconst (v := nI 1) dX12_comesTo_208 rfl ?_
    refine V_isubN dX12_comesTo_209 (by omega) ?_
    refine V_iload dX12_comesTo_210 rfl ?_
    refine V_aload_n dX12_comesTo_212 rfl ?_
    refine V_getR (b := 79) dX12_comesTo_213 fX12_59 ⟨Nat.le_of_ble_eq_true rfl, Nat.le_of_ble_eq_true rfl⟩ rfl rfl rfl ?_
    refine V_iload_n dX12_comesTo_216 rfl ?_
    refine V_iconst (v := nI 1) dX12_comesTo_217 rfl ?_
    refine V_isubN dX12_comesTo_218 (by omega) ?_
    refine V_ialdN (k := ((s.length + 2) - 1) - 1) dX12_comesTo_219 ⟨Nat.le_of_ble_eq_true rfl, Nat.le_of_ble_eq_true rfl⟩ rfl (by decide) (by omega) ?_
    refine V_eqI (y := x) (rmI_pop (rmI_pop hr).2).1 ?_
    refine V_aload_n dX12_comesTo_220 rfl ?_
    refine V_getR (b := 79) dX12_comesTo_221 fX12_59 ⟨Nat.le_of_ble_eq_true rfl, Nat.le_of_ble_eq_true rfl⟩ rfl rfl rfl ?_
    refine V_iload_n dX12_comesTo_224 rfl ?_
    refine V_ialdN (k := (s.length + 2) - 1) dX12_comesTo_225 ⟨Nat.le_of_ble_eq_true rfl, Nat.le_of_ble_eq_true rfl⟩ rfl (by decide) (by omega) ?_
    refine V_eqI (y := y) (rmI_pop hr).1 ?_
    refine V_callS (As := [.int (nI 5), .int x, .int y]) (st := [.int (nI (((s.length + 2) - 1) - 1)), .ref 79]) dX12_comesTo_226 kX12_reckon lX12_325 (by decide) rfl rfl (Nat.le_of_ble_eq_true rfl) ⟨Nat.le_of_ble_eq_true rfl, Nat.le_of_ble_eq_true rfl⟩ (w_reckon (o := 47) (by simp) (fun h => h198 h.1)) ?_
    rintro _ _ _ _ ⟨rfl, rfl, rfl, rfl⟩
    refine V_iastN (k := ((s.length + 2) - 1) - 1) dX12_comesTo_229 ⟨Nat.le_of_ble_eq_true rfl, Nat.le_of_ble_eq_true rfl⟩ rfl (by decide) (by omega) ?_
    refine V_goto (tgt := 16) dX12_comesTo_230 rfl ?_
    refine V_sub2 (ls' := [(0, .ref 62), (1, .int a), (2, .int (nI tt)), (3, .int (nI ((s.length + 2) - 1))), (4, .int (nI b)), (5, .int (nI (p + 1)))]) (List.forall_mem_cons.mpr ⟨rfl, List.forall_mem_cons.mpr ⟨rfl, List.forall_mem_cons.mpr ⟨rfl, List.forall_mem_cons.mpr ⟨rfl, List.forall_mem_cons.mpr ⟨rfl, List.forall_mem_cons.mpr ⟨rfl, fun _ h => absurd h List.not_mem_nil⟩⟩⟩⟩⟩⟩) ?_
    exact hk h198 _ (rmI_push (rmI_pop (rmI_pop hr).2).2 _)
  · skip
    refine V_iconst (v := nI 0) dX12_comesTo_201 rfl ?_
    exact V_iret ⟨Or.inl rfl, dX12_comesTo_202⟩ ⟨Nat.le_of_ble_eq_true rfl, Nat.le_of_ble_eq_true rfl⟩ (hz h198 _ hr.1)

set_option maxRecDepth 100000 in
set_option maxHeartbeats 4000000 in
theorem cs_37 {G : zG} {I : zI} {J : zJ} {Q : zQ} {a : Int32} {tt b p : Nat} {s : List Int32} (hp : p < tt) (ht : tt ≤ 1300) {x y : Int32} (hs : s.length + 1 < 260) (hc : I 73 p = nI (1048576 * 6 + 0)) (hz : y = 0 → ∀ I2, offM I I2 → Q (some (.int (nI 0))) zsh I2 J) (hk : ¬ y = 0 → cHd G I J Q a tt b (p + 1) (jn 37 x y :: s)) : cHd G I J Q a tt b p (y :: x :: s) := by
  intro I1 hr
  have hcode : I1 73 p = nI (1048576 * 6 + 0) := by rw [hr.1 73 (by decide)]; exact hc
  show V G mX12_comesTo 1 Q 16 [(0, .ref 62), (1, .int a), (2, .int (nI tt)), (3, .int (nI (s.length + 2))), (4, .int (nI b)), (5, .int (nI p))] [] (0, 0) zsh I1 J
  refine V_iload dX12_comesTo_16 rfl ?_
  refine V_iload_n dX12_comesTo_18 rfl ?_
  refine V_icmp_geN (tgt := 233) dX12_comesTo_19 rfl (by omega) (by omega) (fun h => absurd h (by omega)) (fun _ => ?_)
  refine V_aload_n dX12_comesTo_22 rfl ?_
  refine V_getR (b := 73) dX12_comesTo_23 fX12_41 ⟨Nat.le_of_ble_eq_true rfl, Nat.le_of_ble_eq_true rfl⟩ rfl rfl rfl ?_
  refine V_iload dX12_comesTo_26 rfl ?_
  refine V_ialdN (k := p) dX12_comesTo_28 ⟨Nat.le_of_ble_eq_true rfl, Nat.le_of_ble_eq_true rfl⟩ rfl (by decide) (by omega) ?_
  refine V_eqI (y := nI (1048576 * 6 + 0)) hcode ?_
  refine V_ldc dX12_comesTo_29 qX12_246 ?_
  refine V_eqI (y := nI 1048576) rfl ?_
  refine V_idivN dX12_comesTo_31 (by omega) (by omega) (by omega) ?_
  refine V_eqI (y := nI 6) (congrArg nI (by omega)) ?_
  refine V_istore (ls' := [(6, .int (nI 6)), (0, .ref 62), (1, .int a), (2, .int (nI tt)), (3, .int (nI (s.length + 2))), (4, .int (nI b)), (5, .int (nI p))]) dX12_comesTo_32 (by decide) rfl ?_
  refine V_aload_n dX12_comesTo_34 rfl ?_
  refine V_getR (b := 73) dX12_comesTo_35 fX12_41 ⟨Nat.le_of_ble_eq_true rfl, Nat.le_of_ble_eq_true rfl⟩ rfl rfl rfl ?_
  refine V_iload dX12_comesTo_38 rfl ?_
  refine V_ialdN (k := p) dX12_comesTo_40 ⟨Nat.le_of_ble_eq_true rfl, Nat.le_of_ble_eq_true rfl⟩ rfl (by decide) (by omega) ?_
  refine V_eqI (y := nI (1048576 * 6 + 0)) hcode ?_
  refine V_ldc dX12_comesTo_41 qX12_246 ?_
  refine V_eqI (y := nI 1048576) rfl ?_
  refine V_iremN dX12_comesTo_43 (by omega) (by omega) (by omega) ?_
  refine V_eqI (y := nI 0) (congrArg nI (by omega)) ?_
  refine V_istore (ls' := [(7, .int (nI 0)), (6, .int (nI 6)), (0, .ref 62), (1, .int a), (2, .int (nI tt)), (3, .int (nI (s.length + 2))), (4, .int (nI b)), (5, .int (nI p))]) dX12_comesTo_44 (by decide) rfl ?_
  refine V_iload dX12_comesTo_46 rfl ?_
  refine V_iconst (v := nI 1) dX12_comesTo_48 rfl ?_
  refine V_iaddN dX12_comesTo_49 ?_
  refine V_istore (ls' := [(5, .int (nI (p + 1))), (7, .int (nI 0)), (6, .int (nI 6)), (0, .ref 62), (1, .int a), (2, .int (nI tt)), (3, .int (nI (s.length + 2))), (4, .int (nI b))]) dX12_comesTo_50 (by decide) rfl ?_
  refine V_iload dX12_comesTo_52 rfl ?_
  refine V_if_eq (tgt := 63) dX12_comesTo_54 rfl (fun h => absurd h (by decide)) (fun _ => ?_)
  refine V_iload dX12_comesTo_57 rfl ?_
  refine V_iconst (v := nI 1) dX12_comesTo_59 rfl ?_
  refine V_icmp_ne (tgt := 93) dX12_comesTo_60 rfl (fun _ => ?_) (fun h => absurd h (by decide))
  refine V_iload dX12_comesTo_93 rfl ?_
  refine V_bipush (v := nI 10) dX12_comesTo_95 rfl ?_
  refine V_icmp_ne (tgt := 121) dX12_comesTo_97 rfl (fun _ => ?_) (fun h => absurd h (by decide))
  refine V_iload dX12_comesTo_121 rfl ?_
  refine V_bipush (v := nI 11) dX12_comesTo_123 rfl ?_
  refine V_icmp_eq (tgt := 135) dX12_comesTo_125 rfl (fun h => absurd h (by decide)) (fun _ => ?_)
  refine V_iload dX12_comesTo_128 rfl ?_
  refine V_bipush (v := nI 12) dX12_comesTo_130 rfl ?_
  refine V_icmp_ne (tgt := 175) dX12_comesTo_132 rfl (fun _ => ?_) (fun h => absurd h (by decide))
  refine V_iload_n dX12_comesTo_175 rfl ?_
  refine V_iconst (v := nI 1) dX12_comesTo_176 rfl ?_
  refine V_isubN dX12_comesTo_177 (by omega) ?_
  refine V_istore_n (ls' := [(3, .int (nI ((s.length + 2) - 1))), (5, .int (nI (p + 1))), (7, .int (nI 0)), (6, .int (nI 6)), (0, .ref 62), (1, .int a), (2, .int (nI tt)), (4, .int (nI b))]) dX12_comesTo_178 (by decide) rfl ?_
  refine V_iload dX12_comesTo_179 rfl ?_
  refine V_iconst (v := nI 5) dX12_comesTo_181 rfl ?_
  refine V_icmp_eq (tgt := 192) dX12_comesTo_182 rfl (fun h => absurd h (by decide)) (fun _ => ?_)
  refine V_iload dX12_comesTo_185 rfl ?_
  refine V_bipush (v := nI 6) dX12_comesTo_187 rfl ?_
  refine V_icmp_ne (tgt := 203) dX12_comesTo_189 rfl (fun h => absurd h (by decide)) (fun _ => ?_)
  refine V_aload_n dX12_comesTo_192 rfl ?_
  refine V_getR (b := 79) dX12_comesTo_193 fX12_59 ⟨Nat.le_of_ble_eq_true rfl, Nat.le_of_ble_eq_true rfl⟩ rfl rfl rfl ?_
  refine V_iload_n dX12_comesTo_196 rfl ?_
  refine V_ialdN (k := (s.length + 2) - 1) dX12_comesTo_197 ⟨Nat.le_of_ble_eq_true rfl, Nat.le_of_ble_eq_true rfl⟩ rfl (by decide) (by omega) ?_
  refine V_eqI (y := y) (rmI_pop hr).1 ?_
  refine V_if_ne (tgt := 203) dX12_comesTo_198 rfl (fun h198 => ?_) (fun h198 => ?_)
  · skip
    refine V_aload_n dX12_comesTo_203 rfl ?_
    refine V_getR (b := 79) dX12_comesTo_204 fX12_59 ⟨Nat.le_of_ble_eq_true rfl, Nat.le_of_ble_eq_true rfl⟩ rfl rfl rfl ?_
    refine V_iload_n dX12_comesTo_207 rfl ?_
    refine V_iconst (v := nI 1) dX12_comesTo_208 rfl ?_
    refine V_isubN dX12_comesTo_209 (by omega) ?_
    refine V_iload dX12_comesTo_210 rfl ?_
    refine V_aload_n dX12_comesTo_212 rfl ?_
    refine V_getR (b := 79) dX12_comesTo_213 fX12_59 ⟨Nat.le_of_ble_eq_true rfl, Nat.le_of_ble_eq_true rfl⟩ rfl rfl rfl ?_
    refine V_iload_n dX12_comesTo_216 rfl ?_
    refine V_iconst (v := nI 1) dX12_comesTo_217 rfl ?_
    refine V_isubN dX12_comesTo_218 (by omega) ?_
    refine V_ialdN (k := ((s.length + 2) - 1) - 1) dX12_comesTo_219 ⟨Nat.le_of_ble_eq_true rfl, Nat.le_of_ble_eq_true rfl⟩ rfl (by decide) (by omega) ?_
    refine V_eqI (y := x) (rmI_pop (rmI_pop hr).2).1 ?_
    refine V_aload_n dX12_comesTo_220 rfl ?_
    refine V_getR (b := 79) dX12_comesTo_221 fX12_59 ⟨Nat.le_of_ble_eq_true rfl, Nat.le_of_ble_eq_true rfl⟩ rfl rfl rfl ?_
    refine V_iload_n dX12_comesTo_224 rfl ?_
    refine V_ialdN (k := (s.length + 2) - 1) dX12_comesTo_225 ⟨Nat.le_of_ble_eq_true rfl, Nat.le_of_ble_eq_true rfl⟩ rfl (by decide) (by omega) ?_
    refine V_eqI (y := y) (rmI_pop hr).1 ?_
    refine V_callS (As := [.int (nI 6), .int x, .int y]) (st := [.int (nI (((s.length + 2) - 1) - 1)), .ref 79]) dX12_comesTo_226 kX12_reckon lX12_325 (by decide) rfl rfl (Nat.le_of_ble_eq_true rfl) ⟨Nat.le_of_ble_eq_true rfl, Nat.le_of_ble_eq_true rfl⟩ (w_reckon (o := 37) (by simp) (fun h => h198 h.1)) ?_
    rintro _ _ _ _ ⟨rfl, rfl, rfl, rfl⟩
    refine V_iastN (k := ((s.length + 2) - 1) - 1) dX12_comesTo_229 ⟨Nat.le_of_ble_eq_true rfl, Nat.le_of_ble_eq_true rfl⟩ rfl (by decide) (by omega) ?_
    refine V_goto (tgt := 16) dX12_comesTo_230 rfl ?_
    refine V_sub2 (ls' := [(0, .ref 62), (1, .int a), (2, .int (nI tt)), (3, .int (nI ((s.length + 2) - 1))), (4, .int (nI b)), (5, .int (nI (p + 1)))]) (List.forall_mem_cons.mpr ⟨rfl, List.forall_mem_cons.mpr ⟨rfl, List.forall_mem_cons.mpr ⟨rfl, List.forall_mem_cons.mpr ⟨rfl, List.forall_mem_cons.mpr ⟨rfl, List.forall_mem_cons.mpr ⟨rfl, fun _ h => absurd h List.not_mem_nil⟩⟩⟩⟩⟩⟩) ?_
    exact hk h198 _ (rmI_push (rmI_pop (rmI_pop hr).2).2 _)
  · skip
    refine V_iconst (v := nI 0) dX12_comesTo_201 rfl ?_
    exact V_iret ⟨Or.inl rfl, dX12_comesTo_202⟩ ⟨Nat.le_of_ble_eq_true rfl, Nat.le_of_ble_eq_true rfl⟩ (hz h198 _ hr.1)

set_option maxRecDepth 100000 in
set_option maxHeartbeats 4000000 in
theorem cs_60 {G : zG} {I : zI} {J : zJ} {Q : zQ} {a : Int32} {tt b p : Nat} {s : List Int32} (hp : p < tt) (ht : tt ≤ 1300) {x y : Int32} (hs : s.length + 1 < 260) (hc : I 73 p = nI (1048576 * 7 + 0)) (hk : cHd G I J Q a tt b (p + 1) (jn 60 x y :: s)) : cHd G I J Q a tt b p (y :: x :: s) := by
  intro I1 hr
  have hcode : I1 73 p = nI (1048576 * 7 + 0) := by rw [hr.1 73 (by decide)]; exact hc
  show V G mX12_comesTo 1 Q 16 [(0, .ref 62), (1, .int a), (2, .int (nI tt)), (3, .int (nI (s.length + 2))), (4, .int (nI b)), (5, .int (nI p))] [] (0, 0) zsh I1 J
  refine V_iload dX12_comesTo_16 rfl ?_
  refine V_iload_n dX12_comesTo_18 rfl ?_
  refine V_icmp_geN (tgt := 233) dX12_comesTo_19 rfl (by omega) (by omega) (fun h => absurd h (by omega)) (fun _ => ?_)
  refine V_aload_n dX12_comesTo_22 rfl ?_
  refine V_getR (b := 73) dX12_comesTo_23 fX12_41 ⟨Nat.le_of_ble_eq_true rfl, Nat.le_of_ble_eq_true rfl⟩ rfl rfl rfl ?_
  refine V_iload dX12_comesTo_26 rfl ?_
  refine V_ialdN (k := p) dX12_comesTo_28 ⟨Nat.le_of_ble_eq_true rfl, Nat.le_of_ble_eq_true rfl⟩ rfl (by decide) (by omega) ?_
  refine V_eqI (y := nI (1048576 * 7 + 0)) hcode ?_
  refine V_ldc dX12_comesTo_29 qX12_246 ?_
  refine V_eqI (y := nI 1048576) rfl ?_
  refine V_idivN dX12_comesTo_31 (by omega) (by omega) (by omega) ?_
  refine V_eqI (y := nI 7) (congrArg nI (by omega)) ?_
  refine V_istore (ls' := [(6, .int (nI 7)), (0, .ref 62), (1, .int a), (2, .int (nI tt)), (3, .int (nI (s.length + 2))), (4, .int (nI b)), (5, .int (nI p))]) dX12_comesTo_32 (by decide) rfl ?_
  refine V_aload_n dX12_comesTo_34 rfl ?_
  refine V_getR (b := 73) dX12_comesTo_35 fX12_41 ⟨Nat.le_of_ble_eq_true rfl, Nat.le_of_ble_eq_true rfl⟩ rfl rfl rfl ?_
  refine V_iload dX12_comesTo_38 rfl ?_
  refine V_ialdN (k := p) dX12_comesTo_40 ⟨Nat.le_of_ble_eq_true rfl, Nat.le_of_ble_eq_true rfl⟩ rfl (by decide) (by omega) ?_
  refine V_eqI (y := nI (1048576 * 7 + 0)) hcode ?_
  refine V_ldc dX12_comesTo_41 qX12_246 ?_
  refine V_eqI (y := nI 1048576) rfl ?_
  refine V_iremN dX12_comesTo_43 (by omega) (by omega) (by omega) ?_
  refine V_eqI (y := nI 0) (congrArg nI (by omega)) ?_
  refine V_istore (ls' := [(7, .int (nI 0)), (6, .int (nI 7)), (0, .ref 62), (1, .int a), (2, .int (nI tt)), (3, .int (nI (s.length + 2))), (4, .int (nI b)), (5, .int (nI p))]) dX12_comesTo_44 (by decide) rfl ?_
  refine V_iload dX12_comesTo_46 rfl ?_
  refine V_iconst (v := nI 1) dX12_comesTo_48 rfl ?_
  refine V_iaddN dX12_comesTo_49 ?_
  refine V_istore (ls' := [(5, .int (nI (p + 1))), (7, .int (nI 0)), (6, .int (nI 7)), (0, .ref 62), (1, .int a), (2, .int (nI tt)), (3, .int (nI (s.length + 2))), (4, .int (nI b))]) dX12_comesTo_50 (by decide) rfl ?_
  refine V_iload dX12_comesTo_52 rfl ?_
  refine V_if_eq (tgt := 63) dX12_comesTo_54 rfl (fun h => absurd h (by decide)) (fun _ => ?_)
  refine V_iload dX12_comesTo_57 rfl ?_
  refine V_iconst (v := nI 1) dX12_comesTo_59 rfl ?_
  refine V_icmp_ne (tgt := 93) dX12_comesTo_60 rfl (fun _ => ?_) (fun h => absurd h (by decide))
  refine V_iload dX12_comesTo_93 rfl ?_
  refine V_bipush (v := nI 10) dX12_comesTo_95 rfl ?_
  refine V_icmp_ne (tgt := 121) dX12_comesTo_97 rfl (fun _ => ?_) (fun h => absurd h (by decide))
  refine V_iload dX12_comesTo_121 rfl ?_
  refine V_bipush (v := nI 11) dX12_comesTo_123 rfl ?_
  refine V_icmp_eq (tgt := 135) dX12_comesTo_125 rfl (fun h => absurd h (by decide)) (fun _ => ?_)
  refine V_iload dX12_comesTo_128 rfl ?_
  refine V_bipush (v := nI 12) dX12_comesTo_130 rfl ?_
  refine V_icmp_ne (tgt := 175) dX12_comesTo_132 rfl (fun _ => ?_) (fun h => absurd h (by decide))
  refine V_iload_n dX12_comesTo_175 rfl ?_
  refine V_iconst (v := nI 1) dX12_comesTo_176 rfl ?_
  refine V_isubN dX12_comesTo_177 (by omega) ?_
  refine V_istore_n (ls' := [(3, .int (nI ((s.length + 2) - 1))), (5, .int (nI (p + 1))), (7, .int (nI 0)), (6, .int (nI 7)), (0, .ref 62), (1, .int a), (2, .int (nI tt)), (4, .int (nI b))]) dX12_comesTo_178 (by decide) rfl ?_
  refine V_iload dX12_comesTo_179 rfl ?_
  refine V_iconst (v := nI 5) dX12_comesTo_181 rfl ?_
  refine V_icmp_eq (tgt := 192) dX12_comesTo_182 rfl (fun h => absurd h (by decide)) (fun _ => ?_)
  refine V_iload dX12_comesTo_185 rfl ?_
  refine V_bipush (v := nI 6) dX12_comesTo_187 rfl ?_
  refine V_icmp_ne (tgt := 203) dX12_comesTo_189 rfl (fun _ => ?_) (fun h => absurd h (by decide))
  refine V_aload_n dX12_comesTo_203 rfl ?_
  refine V_getR (b := 79) dX12_comesTo_204 fX12_59 ⟨Nat.le_of_ble_eq_true rfl, Nat.le_of_ble_eq_true rfl⟩ rfl rfl rfl ?_
  refine V_iload_n dX12_comesTo_207 rfl ?_
  refine V_iconst (v := nI 1) dX12_comesTo_208 rfl ?_
  refine V_isubN dX12_comesTo_209 (by omega) ?_
  refine V_iload dX12_comesTo_210 rfl ?_
  refine V_aload_n dX12_comesTo_212 rfl ?_
  refine V_getR (b := 79) dX12_comesTo_213 fX12_59 ⟨Nat.le_of_ble_eq_true rfl, Nat.le_of_ble_eq_true rfl⟩ rfl rfl rfl ?_
  refine V_iload_n dX12_comesTo_216 rfl ?_
  refine V_iconst (v := nI 1) dX12_comesTo_217 rfl ?_
  refine V_isubN dX12_comesTo_218 (by omega) ?_
  refine V_ialdN (k := ((s.length + 2) - 1) - 1) dX12_comesTo_219 ⟨Nat.le_of_ble_eq_true rfl, Nat.le_of_ble_eq_true rfl⟩ rfl (by decide) (by omega) ?_
  refine V_eqI (y := x) (rmI_pop (rmI_pop hr).2).1 ?_
  refine V_aload_n dX12_comesTo_220 rfl ?_
  refine V_getR (b := 79) dX12_comesTo_221 fX12_59 ⟨Nat.le_of_ble_eq_true rfl, Nat.le_of_ble_eq_true rfl⟩ rfl rfl rfl ?_
  refine V_iload_n dX12_comesTo_224 rfl ?_
  refine V_ialdN (k := (s.length + 2) - 1) dX12_comesTo_225 ⟨Nat.le_of_ble_eq_true rfl, Nat.le_of_ble_eq_true rfl⟩ rfl (by decide) (by omega) ?_
  refine V_eqI (y := y) (rmI_pop hr).1 ?_
  refine V_callS (As := [.int (nI 7), .int x, .int y]) (st := [.int (nI (((s.length + 2) - 1) - 1)), .ref 79]) dX12_comesTo_226 kX12_reckon lX12_325 (by decide) rfl rfl (Nat.le_of_ble_eq_true rfl) ⟨Nat.le_of_ble_eq_true rfl, Nat.le_of_ble_eq_true rfl⟩ (w_reckon (o := 60) (by simp) (fun h => by simp at h)) ?_
  rintro _ _ _ _ ⟨rfl, rfl, rfl, rfl⟩
  refine V_iastN (k := ((s.length + 2) - 1) - 1) dX12_comesTo_229 ⟨Nat.le_of_ble_eq_true rfl, Nat.le_of_ble_eq_true rfl⟩ rfl (by decide) (by omega) ?_
  refine V_goto (tgt := 16) dX12_comesTo_230 rfl ?_
  refine V_sub2 (ls' := [(0, .ref 62), (1, .int a), (2, .int (nI tt)), (3, .int (nI ((s.length + 2) - 1))), (4, .int (nI b)), (5, .int (nI (p + 1)))]) (List.forall_mem_cons.mpr ⟨rfl, List.forall_mem_cons.mpr ⟨rfl, List.forall_mem_cons.mpr ⟨rfl, List.forall_mem_cons.mpr ⟨rfl, List.forall_mem_cons.mpr ⟨rfl, List.forall_mem_cons.mpr ⟨rfl, fun _ h => absurd h List.not_mem_nil⟩⟩⟩⟩⟩⟩) ?_
  exact hk _ (rmI_push (rmI_pop (rmI_pop hr).2).2 _)

set_option maxRecDepth 100000 in
set_option maxHeartbeats 4000000 in
theorem cs_62 {G : zG} {I : zI} {J : zJ} {Q : zQ} {a : Int32} {tt b p : Nat} {s : List Int32} (hp : p < tt) (ht : tt ≤ 1300) {x y : Int32} (hs : s.length + 1 < 260) (hc : I 73 p = nI (1048576 * 8 + 0)) (hk : cHd G I J Q a tt b (p + 1) (jn 62 x y :: s)) : cHd G I J Q a tt b p (y :: x :: s) := by
  intro I1 hr
  have hcode : I1 73 p = nI (1048576 * 8 + 0) := by rw [hr.1 73 (by decide)]; exact hc
  show V G mX12_comesTo 1 Q 16 [(0, .ref 62), (1, .int a), (2, .int (nI tt)), (3, .int (nI (s.length + 2))), (4, .int (nI b)), (5, .int (nI p))] [] (0, 0) zsh I1 J
  refine V_iload dX12_comesTo_16 rfl ?_
  refine V_iload_n dX12_comesTo_18 rfl ?_
  refine V_icmp_geN (tgt := 233) dX12_comesTo_19 rfl (by omega) (by omega) (fun h => absurd h (by omega)) (fun _ => ?_)
  refine V_aload_n dX12_comesTo_22 rfl ?_
  refine V_getR (b := 73) dX12_comesTo_23 fX12_41 ⟨Nat.le_of_ble_eq_true rfl, Nat.le_of_ble_eq_true rfl⟩ rfl rfl rfl ?_
  refine V_iload dX12_comesTo_26 rfl ?_
  refine V_ialdN (k := p) dX12_comesTo_28 ⟨Nat.le_of_ble_eq_true rfl, Nat.le_of_ble_eq_true rfl⟩ rfl (by decide) (by omega) ?_
  refine V_eqI (y := nI (1048576 * 8 + 0)) hcode ?_
  refine V_ldc dX12_comesTo_29 qX12_246 ?_
  refine V_eqI (y := nI 1048576) rfl ?_
  refine V_idivN dX12_comesTo_31 (by omega) (by omega) (by omega) ?_
  refine V_eqI (y := nI 8) (congrArg nI (by omega)) ?_
  refine V_istore (ls' := [(6, .int (nI 8)), (0, .ref 62), (1, .int a), (2, .int (nI tt)), (3, .int (nI (s.length + 2))), (4, .int (nI b)), (5, .int (nI p))]) dX12_comesTo_32 (by decide) rfl ?_
  refine V_aload_n dX12_comesTo_34 rfl ?_
  refine V_getR (b := 73) dX12_comesTo_35 fX12_41 ⟨Nat.le_of_ble_eq_true rfl, Nat.le_of_ble_eq_true rfl⟩ rfl rfl rfl ?_
  refine V_iload dX12_comesTo_38 rfl ?_
  refine V_ialdN (k := p) dX12_comesTo_40 ⟨Nat.le_of_ble_eq_true rfl, Nat.le_of_ble_eq_true rfl⟩ rfl (by decide) (by omega) ?_
  refine V_eqI (y := nI (1048576 * 8 + 0)) hcode ?_
  refine V_ldc dX12_comesTo_41 qX12_246 ?_
  refine V_eqI (y := nI 1048576) rfl ?_
  refine V_iremN dX12_comesTo_43 (by omega) (by omega) (by omega) ?_
  refine V_eqI (y := nI 0) (congrArg nI (by omega)) ?_
  refine V_istore (ls' := [(7, .int (nI 0)), (6, .int (nI 8)), (0, .ref 62), (1, .int a), (2, .int (nI tt)), (3, .int (nI (s.length + 2))), (4, .int (nI b)), (5, .int (nI p))]) dX12_comesTo_44 (by decide) rfl ?_
  refine V_iload dX12_comesTo_46 rfl ?_
  refine V_iconst (v := nI 1) dX12_comesTo_48 rfl ?_
  refine V_iaddN dX12_comesTo_49 ?_
  refine V_istore (ls' := [(5, .int (nI (p + 1))), (7, .int (nI 0)), (6, .int (nI 8)), (0, .ref 62), (1, .int a), (2, .int (nI tt)), (3, .int (nI (s.length + 2))), (4, .int (nI b))]) dX12_comesTo_50 (by decide) rfl ?_
  refine V_iload dX12_comesTo_52 rfl ?_
  refine V_if_eq (tgt := 63) dX12_comesTo_54 rfl (fun h => absurd h (by decide)) (fun _ => ?_)
  refine V_iload dX12_comesTo_57 rfl ?_
  refine V_iconst (v := nI 1) dX12_comesTo_59 rfl ?_
  refine V_icmp_ne (tgt := 93) dX12_comesTo_60 rfl (fun _ => ?_) (fun h => absurd h (by decide))
  refine V_iload dX12_comesTo_93 rfl ?_
  refine V_bipush (v := nI 10) dX12_comesTo_95 rfl ?_
  refine V_icmp_ne (tgt := 121) dX12_comesTo_97 rfl (fun _ => ?_) (fun h => absurd h (by decide))
  refine V_iload dX12_comesTo_121 rfl ?_
  refine V_bipush (v := nI 11) dX12_comesTo_123 rfl ?_
  refine V_icmp_eq (tgt := 135) dX12_comesTo_125 rfl (fun h => absurd h (by decide)) (fun _ => ?_)
  refine V_iload dX12_comesTo_128 rfl ?_
  refine V_bipush (v := nI 12) dX12_comesTo_130 rfl ?_
  refine V_icmp_ne (tgt := 175) dX12_comesTo_132 rfl (fun _ => ?_) (fun h => absurd h (by decide))
  refine V_iload_n dX12_comesTo_175 rfl ?_
  refine V_iconst (v := nI 1) dX12_comesTo_176 rfl ?_
  refine V_isubN dX12_comesTo_177 (by omega) ?_
  refine V_istore_n (ls' := [(3, .int (nI ((s.length + 2) - 1))), (5, .int (nI (p + 1))), (7, .int (nI 0)), (6, .int (nI 8)), (0, .ref 62), (1, .int a), (2, .int (nI tt)), (4, .int (nI b))]) dX12_comesTo_178 (by decide) rfl ?_
  refine V_iload dX12_comesTo_179 rfl ?_
  refine V_iconst (v := nI 5) dX12_comesTo_181 rfl ?_
  refine V_icmp_eq (tgt := 192) dX12_comesTo_182 rfl (fun h => absurd h (by decide)) (fun _ => ?_)
  refine V_iload dX12_comesTo_185 rfl ?_
  refine V_bipush (v := nI 6) dX12_comesTo_187 rfl ?_
  refine V_icmp_ne (tgt := 203) dX12_comesTo_189 rfl (fun _ => ?_) (fun h => absurd h (by decide))
  refine V_aload_n dX12_comesTo_203 rfl ?_
  refine V_getR (b := 79) dX12_comesTo_204 fX12_59 ⟨Nat.le_of_ble_eq_true rfl, Nat.le_of_ble_eq_true rfl⟩ rfl rfl rfl ?_
  refine V_iload_n dX12_comesTo_207 rfl ?_
  refine V_iconst (v := nI 1) dX12_comesTo_208 rfl ?_
  refine V_isubN dX12_comesTo_209 (by omega) ?_
  refine V_iload dX12_comesTo_210 rfl ?_
  refine V_aload_n dX12_comesTo_212 rfl ?_
  refine V_getR (b := 79) dX12_comesTo_213 fX12_59 ⟨Nat.le_of_ble_eq_true rfl, Nat.le_of_ble_eq_true rfl⟩ rfl rfl rfl ?_
  refine V_iload_n dX12_comesTo_216 rfl ?_
  refine V_iconst (v := nI 1) dX12_comesTo_217 rfl ?_
  refine V_isubN dX12_comesTo_218 (by omega) ?_
  refine V_ialdN (k := ((s.length + 2) - 1) - 1) dX12_comesTo_219 ⟨Nat.le_of_ble_eq_true rfl, Nat.le_of_ble_eq_true rfl⟩ rfl (by decide) (by omega) ?_
  refine V_eqI (y := x) (rmI_pop (rmI_pop hr).2).1 ?_
  refine V_aload_n dX12_comesTo_220 rfl ?_
  refine V_getR (b := 79) dX12_comesTo_221 fX12_59 ⟨Nat.le_of_ble_eq_true rfl, Nat.le_of_ble_eq_true rfl⟩ rfl rfl rfl ?_
  refine V_iload_n dX12_comesTo_224 rfl ?_
  refine V_ialdN (k := (s.length + 2) - 1) dX12_comesTo_225 ⟨Nat.le_of_ble_eq_true rfl, Nat.le_of_ble_eq_true rfl⟩ rfl (by decide) (by omega) ?_
  refine V_eqI (y := y) (rmI_pop hr).1 ?_
  refine V_callS (As := [.int (nI 8), .int x, .int y]) (st := [.int (nI (((s.length + 2) - 1) - 1)), .ref 79]) dX12_comesTo_226 kX12_reckon lX12_325 (by decide) rfl rfl (Nat.le_of_ble_eq_true rfl) ⟨Nat.le_of_ble_eq_true rfl, Nat.le_of_ble_eq_true rfl⟩ (w_reckon (o := 62) (by simp) (fun h => by simp at h)) ?_
  rintro _ _ _ _ ⟨rfl, rfl, rfl, rfl⟩
  refine V_iastN (k := ((s.length + 2) - 1) - 1) dX12_comesTo_229 ⟨Nat.le_of_ble_eq_true rfl, Nat.le_of_ble_eq_true rfl⟩ rfl (by decide) (by omega) ?_
  refine V_goto (tgt := 16) dX12_comesTo_230 rfl ?_
  refine V_sub2 (ls' := [(0, .ref 62), (1, .int a), (2, .int (nI tt)), (3, .int (nI ((s.length + 2) - 1))), (4, .int (nI b)), (5, .int (nI (p + 1)))]) (List.forall_mem_cons.mpr ⟨rfl, List.forall_mem_cons.mpr ⟨rfl, List.forall_mem_cons.mpr ⟨rfl, List.forall_mem_cons.mpr ⟨rfl, List.forall_mem_cons.mpr ⟨rfl, List.forall_mem_cons.mpr ⟨rfl, fun _ h => absurd h List.not_mem_nil⟩⟩⟩⟩⟩⟩) ?_
  exact hk _ (rmI_push (rmI_pop (rmI_pop hr).2).2 _)

set_option maxRecDepth 100000 in
set_option maxHeartbeats 4000000 in
theorem cs_61 {G : zG} {I : zI} {J : zJ} {Q : zQ} {a : Int32} {tt b p : Nat} {s : List Int32} (hp : p < tt) (ht : tt ≤ 1300) {x y : Int32} (hs : s.length + 1 < 260) (hc : I 73 p = nI (1048576 * 9 + 0)) (hk : cHd G I J Q a tt b (p + 1) (jn 61 x y :: s)) : cHd G I J Q a tt b p (y :: x :: s) := by
  intro I1 hr
  have hcode : I1 73 p = nI (1048576 * 9 + 0) := by rw [hr.1 73 (by decide)]; exact hc
  show V G mX12_comesTo 1 Q 16 [(0, .ref 62), (1, .int a), (2, .int (nI tt)), (3, .int (nI (s.length + 2))), (4, .int (nI b)), (5, .int (nI p))] [] (0, 0) zsh I1 J
  refine V_iload dX12_comesTo_16 rfl ?_
  refine V_iload_n dX12_comesTo_18 rfl ?_
  refine V_icmp_geN (tgt := 233) dX12_comesTo_19 rfl (by omega) (by omega) (fun h => absurd h (by omega)) (fun _ => ?_)
  refine V_aload_n dX12_comesTo_22 rfl ?_
  refine V_getR (b := 73) dX12_comesTo_23 fX12_41 ⟨Nat.le_of_ble_eq_true rfl, Nat.le_of_ble_eq_true rfl⟩ rfl rfl rfl ?_
  refine V_iload dX12_comesTo_26 rfl ?_
  refine V_ialdN (k := p) dX12_comesTo_28 ⟨Nat.le_of_ble_eq_true rfl, Nat.le_of_ble_eq_true rfl⟩ rfl (by decide) (by omega) ?_
  refine V_eqI (y := nI (1048576 * 9 + 0)) hcode ?_
  refine V_ldc dX12_comesTo_29 qX12_246 ?_
  refine V_eqI (y := nI 1048576) rfl ?_
  refine V_idivN dX12_comesTo_31 (by omega) (by omega) (by omega) ?_
  refine V_eqI (y := nI 9) (congrArg nI (by omega)) ?_
  refine V_istore (ls' := [(6, .int (nI 9)), (0, .ref 62), (1, .int a), (2, .int (nI tt)), (3, .int (nI (s.length + 2))), (4, .int (nI b)), (5, .int (nI p))]) dX12_comesTo_32 (by decide) rfl ?_
  refine V_aload_n dX12_comesTo_34 rfl ?_
  refine V_getR (b := 73) dX12_comesTo_35 fX12_41 ⟨Nat.le_of_ble_eq_true rfl, Nat.le_of_ble_eq_true rfl⟩ rfl rfl rfl ?_
  refine V_iload dX12_comesTo_38 rfl ?_
  refine V_ialdN (k := p) dX12_comesTo_40 ⟨Nat.le_of_ble_eq_true rfl, Nat.le_of_ble_eq_true rfl⟩ rfl (by decide) (by omega) ?_
  refine V_eqI (y := nI (1048576 * 9 + 0)) hcode ?_
  refine V_ldc dX12_comesTo_41 qX12_246 ?_
  refine V_eqI (y := nI 1048576) rfl ?_
  refine V_iremN dX12_comesTo_43 (by omega) (by omega) (by omega) ?_
  refine V_eqI (y := nI 0) (congrArg nI (by omega)) ?_
  refine V_istore (ls' := [(7, .int (nI 0)), (6, .int (nI 9)), (0, .ref 62), (1, .int a), (2, .int (nI tt)), (3, .int (nI (s.length + 2))), (4, .int (nI b)), (5, .int (nI p))]) dX12_comesTo_44 (by decide) rfl ?_
  refine V_iload dX12_comesTo_46 rfl ?_
  refine V_iconst (v := nI 1) dX12_comesTo_48 rfl ?_
  refine V_iaddN dX12_comesTo_49 ?_
  refine V_istore (ls' := [(5, .int (nI (p + 1))), (7, .int (nI 0)), (6, .int (nI 9)), (0, .ref 62), (1, .int a), (2, .int (nI tt)), (3, .int (nI (s.length + 2))), (4, .int (nI b))]) dX12_comesTo_50 (by decide) rfl ?_
  refine V_iload dX12_comesTo_52 rfl ?_
  refine V_if_eq (tgt := 63) dX12_comesTo_54 rfl (fun h => absurd h (by decide)) (fun _ => ?_)
  refine V_iload dX12_comesTo_57 rfl ?_
  refine V_iconst (v := nI 1) dX12_comesTo_59 rfl ?_
  refine V_icmp_ne (tgt := 93) dX12_comesTo_60 rfl (fun _ => ?_) (fun h => absurd h (by decide))
  refine V_iload dX12_comesTo_93 rfl ?_
  refine V_bipush (v := nI 10) dX12_comesTo_95 rfl ?_
  refine V_icmp_ne (tgt := 121) dX12_comesTo_97 rfl (fun _ => ?_) (fun h => absurd h (by decide))
  refine V_iload dX12_comesTo_121 rfl ?_
  refine V_bipush (v := nI 11) dX12_comesTo_123 rfl ?_
  refine V_icmp_eq (tgt := 135) dX12_comesTo_125 rfl (fun h => absurd h (by decide)) (fun _ => ?_)
  refine V_iload dX12_comesTo_128 rfl ?_
  refine V_bipush (v := nI 12) dX12_comesTo_130 rfl ?_
  refine V_icmp_ne (tgt := 175) dX12_comesTo_132 rfl (fun _ => ?_) (fun h => absurd h (by decide))
  refine V_iload_n dX12_comesTo_175 rfl ?_
  refine V_iconst (v := nI 1) dX12_comesTo_176 rfl ?_
  refine V_isubN dX12_comesTo_177 (by omega) ?_
  refine V_istore_n (ls' := [(3, .int (nI ((s.length + 2) - 1))), (5, .int (nI (p + 1))), (7, .int (nI 0)), (6, .int (nI 9)), (0, .ref 62), (1, .int a), (2, .int (nI tt)), (4, .int (nI b))]) dX12_comesTo_178 (by decide) rfl ?_
  refine V_iload dX12_comesTo_179 rfl ?_
  refine V_iconst (v := nI 5) dX12_comesTo_181 rfl ?_
  refine V_icmp_eq (tgt := 192) dX12_comesTo_182 rfl (fun h => absurd h (by decide)) (fun _ => ?_)
  refine V_iload dX12_comesTo_185 rfl ?_
  refine V_bipush (v := nI 6) dX12_comesTo_187 rfl ?_
  refine V_icmp_ne (tgt := 203) dX12_comesTo_189 rfl (fun _ => ?_) (fun h => absurd h (by decide))
  refine V_aload_n dX12_comesTo_203 rfl ?_
  refine V_getR (b := 79) dX12_comesTo_204 fX12_59 ⟨Nat.le_of_ble_eq_true rfl, Nat.le_of_ble_eq_true rfl⟩ rfl rfl rfl ?_
  refine V_iload_n dX12_comesTo_207 rfl ?_
  refine V_iconst (v := nI 1) dX12_comesTo_208 rfl ?_
  refine V_isubN dX12_comesTo_209 (by omega) ?_
  refine V_iload dX12_comesTo_210 rfl ?_
  refine V_aload_n dX12_comesTo_212 rfl ?_
  refine V_getR (b := 79) dX12_comesTo_213 fX12_59 ⟨Nat.le_of_ble_eq_true rfl, Nat.le_of_ble_eq_true rfl⟩ rfl rfl rfl ?_
  refine V_iload_n dX12_comesTo_216 rfl ?_
  refine V_iconst (v := nI 1) dX12_comesTo_217 rfl ?_
  refine V_isubN dX12_comesTo_218 (by omega) ?_
  refine V_ialdN (k := ((s.length + 2) - 1) - 1) dX12_comesTo_219 ⟨Nat.le_of_ble_eq_true rfl, Nat.le_of_ble_eq_true rfl⟩ rfl (by decide) (by omega) ?_
  refine V_eqI (y := x) (rmI_pop (rmI_pop hr).2).1 ?_
  refine V_aload_n dX12_comesTo_220 rfl ?_
  refine V_getR (b := 79) dX12_comesTo_221 fX12_59 ⟨Nat.le_of_ble_eq_true rfl, Nat.le_of_ble_eq_true rfl⟩ rfl rfl rfl ?_
  refine V_iload_n dX12_comesTo_224 rfl ?_
  refine V_ialdN (k := (s.length + 2) - 1) dX12_comesTo_225 ⟨Nat.le_of_ble_eq_true rfl, Nat.le_of_ble_eq_true rfl⟩ rfl (by decide) (by omega) ?_
  refine V_eqI (y := y) (rmI_pop hr).1 ?_
  refine V_callS (As := [.int (nI 9), .int x, .int y]) (st := [.int (nI (((s.length + 2) - 1) - 1)), .ref 79]) dX12_comesTo_226 kX12_reckon lX12_325 (by decide) rfl rfl (Nat.le_of_ble_eq_true rfl) ⟨Nat.le_of_ble_eq_true rfl, Nat.le_of_ble_eq_true rfl⟩ (w_reckon (o := 61) (by simp) (fun h => by simp at h)) ?_
  rintro _ _ _ _ ⟨rfl, rfl, rfl, rfl⟩
  refine V_iastN (k := ((s.length + 2) - 1) - 1) dX12_comesTo_229 ⟨Nat.le_of_ble_eq_true rfl, Nat.le_of_ble_eq_true rfl⟩ rfl (by decide) (by omega) ?_
  refine V_goto (tgt := 16) dX12_comesTo_230 rfl ?_
  refine V_sub2 (ls' := [(0, .ref 62), (1, .int a), (2, .int (nI tt)), (3, .int (nI ((s.length + 2) - 1))), (4, .int (nI b)), (5, .int (nI (p + 1)))]) (List.forall_mem_cons.mpr ⟨rfl, List.forall_mem_cons.mpr ⟨rfl, List.forall_mem_cons.mpr ⟨rfl, List.forall_mem_cons.mpr ⟨rfl, List.forall_mem_cons.mpr ⟨rfl, List.forall_mem_cons.mpr ⟨rfl, fun _ h => absurd h List.not_mem_nil⟩⟩⟩⟩⟩⟩) ?_
  exact hk _ (rmI_push (rmI_pop (rmI_pop hr).2).2 _)

