/-! THE CLASS: steps reckoned on a stack -/
def spush (x : Int32) (s : List Int32) : List Int32 := if s.length < 24 then x :: s else s
def shd (s : List Int32) : Int32 := s.headD 0
/-- off the reckoner's own cells nothing is other -/
def offR (I I1 : zI) : Prop := ∀ a, a ≠ 27 → a ≠ 29 → I1 a = I a
/-- the stack's cells hold s, its top first -/
def rcI (I I1 : zI) (s : List Int32) : Prop := offR I I1 ∧ I1 27 2 = nI s.length ∧ s.length ≤ 24 ∧ ∀ k, k < s.length → I1 29 k = s.reverse.getD k 0
theorem rcI_push {I I1 : zI} {s : List Int32} (h : rcI I I1 s) (hl : s.length < 24) (x : Int32) : rcI I (zwr (zwr I1 29 s.length x) 27 2 (nI (s.length + 1))) (spush x s) := by
  obtain ⟨h1, h2, h3, h4⟩ := h
  have hp : spush x s = x :: s := if_pos hl
  rw [hp]
  refine ⟨fun a ha hb => ?_, ?_, by simp; omega, fun k hk => ?_⟩
  · rw [← h1 a ha hb]
    funext j
    simp [zwr_at, ha, hb]
  · simp [zwr_at]
  · simp only [List.length_cons] at hk
    by_cases hks : k = s.length
    · subst hks
      simp [zwr_at, List.getD_eq_getElem?_getD, List.getElem?_append]
    · have := h4 k (by omega)
      simp only [zwr_at]
      simp [hks, this, List.getD_eq_getElem?_getD, List.getElem?_append, show k < s.length by omega]
theorem rcI_pop {I I1 : zI} {x : Int32} {s : List Int32} (h : rcI I I1 (x :: s)) : I1 29 s.length = x ∧ rcI I (zwr I1 27 2 (nI s.length)) s := by
  obtain ⟨h1, h2, h3, h4⟩ := h
  simp only [List.length_cons] at h2 h3 h4
  refine ⟨?_, fun a ha hb => ?_, by simp [zwr_at], by omega, fun k hk => ?_⟩
  · have := h4 s.length (by omega)
    rw [this]
    simp [List.getD_eq_getElem?_getD, List.getElem?_append]
  · rw [← h1 a ha hb]
    funext j
    simp [zwr_at, ha]
  · have := h4 k (by omega)
    simp only [zwr_at]
    simp [this, List.getD_eq_getElem?_getD, List.getElem?_append, hk]
def jn (op : Nat) (x y : Int32) : Int32 :=
  if op = 43 then x + y else if op = 45 then x - y else if op = 42 then x * y else
  if op = 47 then (if y = 0 then 0 else x / y) else if op = 37 then (if y = 0 then 0 else x - x / y * y) else
  if op = 60 then (if x < y then 1 else 0) else if op = 62 then (if y < x then 1 else 0) else if x = y then 1 else 0
/-- the steps (kinds kd, arguments ar) from i on, f of them: what they leave -/
def rn (kd ar : Nat → Nat) (L : Nat → Int32) : Nat → Nat → Nat → List Int32 → Int32
  | 0, _, _, s => shd s
  | f + 1, i, r, s => if i < r then rn kd ar L f (i + 1) r s else
    if kd i = 0 then rn kd ar L f (i + 1) r (spush (nI (ar i)) s) else
    if kd i = 1 then rn kd ar L f (i + 1) r (spush (L (ar i)) s) else
    if kd i = 2 then (if ar i = 33 then rn kd ar L f (i + 1) r (spush (if shd s = 0 then 1 else 0) s.tail) else
      if shd s = 0 ∧ (ar i = 47 ∨ ar i = 37) then 0 else rn kd ar L f (i + 1) r (spush (jn (ar i) (shd s.tail) (shd s)) s.tail.tail)) else
    if shd s = 0 then (if kd i = 4 then rn kd ar L f (i + 1) r s.tail else rn kd ar L f (i + 1) (ar i) (spush 0 s.tail))
    else (if kd i = 4 then rn kd ar L f (i + 1) (ar i) (spush 1 s.tail) else rn kd ar L f (i + 1) r s.tail)
set_option maxRecDepth 100000 in
set_option maxHeartbeats 4000000 in
theorem c_push9 {G : zG} {I : zI} {J : zJ} {I0 : zI} {s : List Int32} (hr : rcI I0 I s) {x : Int32} : zK G mX9_push 0 [.ref 27, .int x] zsh I J (zP (fun r I' J' => r = none ∧ rcI I0 I' (spush x s) ∧ J = J')) := by
  refine zK_of kX9_push.2.2.2.2.1 (Nat.le_of_ble_eq_true rfl) ?_
  show V G mX9_push 0 _ 0 [(0, .ref 27), (1, .int x)] [] (0, 0) zsh I J
  have hl := hr.2.2.1
  refine V_aload_n dX9_push_0 rfl ?_
  refine V_getI dX9_push_1 fX9_35 ⟨Nat.le_of_ble_eq_true rfl, Nat.le_of_ble_eq_true rfl⟩ rfl rfl ?_
  refine V_eqI (y := nI s.length) hr.2.1 ?_
  refine V_if_ltN (tgt := 36) dX9_push_4 rfl (by omega) ?_
  refine V_aload_n dX9_push_7 rfl ?_
  refine V_getI dX9_push_8 fX9_35 ⟨Nat.le_of_ble_eq_true rfl, Nat.le_of_ble_eq_true rfl⟩ rfl rfl ?_
  refine V_eqI (y := nI s.length) hr.2.1 ?_
  refine V_bipush (v := nI 24) dX9_push_11 rfl ?_
  refine V_icmp_geN (tgt := 36) dX9_push_13 rfl (by omega) (by omega) (fun h13 => ?_) (fun h13 => ?_)
  · skip
    exact V_ret ⟨rfl, dX9_push_36⟩ ⟨Nat.le_of_ble_eq_true rfl, Nat.le_of_ble_eq_true rfl⟩ ⟨rfl, rfl, by rw [show spush x s = s from if_neg (by omega)]; exact hr, rfl⟩
  · skip
    refine V_aload_n dX9_push_16 rfl ?_
    refine V_getR (b := 29) dX9_push_17 fX9_13 ⟨Nat.le_of_ble_eq_true rfl, Nat.le_of_ble_eq_true rfl⟩ rfl rfl rfl ?_
    refine V_aload_n dX9_push_20 rfl ?_
    refine V_getI dX9_push_21 fX9_35 ⟨Nat.le_of_ble_eq_true rfl, Nat.le_of_ble_eq_true rfl⟩ rfl rfl ?_
    refine V_eqI (y := nI s.length) hr.2.1 ?_
    refine V_iload_n dX9_push_24 rfl ?_
    refine V_iastN (k := s.length) dX9_push_25 ⟨Nat.le_of_ble_eq_true rfl, Nat.le_of_ble_eq_true rfl⟩ rfl (by decide) (by omega) ?_
    refine V_aload_n dX9_push_26 rfl ?_
    refine V_dup dX9_push_27 rfl ?_
    refine V_getI dX9_push_28 fX9_35 ⟨Nat.le_of_ble_eq_true rfl, Nat.le_of_ble_eq_true rfl⟩ rfl rfl ?_
    refine V_eqI (y := I 27 2) rfl ?_
    refine V_eqI (y := nI s.length) hr.2.1 ?_
    refine V_iconst (v := nI 1) dX9_push_31 rfl ?_
    refine V_iaddN dX9_push_32 ?_
    refine V_putW dX9_push_33 fX9_35 ⟨Nat.le_of_ble_eq_true rfl, Nat.le_of_ble_eq_true rfl⟩ rfl rfl rfl ⟨rfl, rfl⟩ ?_
    exact V_ret ⟨rfl, dX9_push_36⟩ ⟨Nat.le_of_ble_eq_true rfl, Nat.le_of_ble_eq_true rfl⟩ ⟨rfl, rfl, rcI_push hr (by omega) x, rfl⟩

set_option maxRecDepth 100000 in
set_option maxHeartbeats 4000000 in
theorem c_pop9 {G : zG} {I : zI} {J : zJ} {I0 : zI} {s : List Int32} (hr : rcI I0 I s) : zK G mX9_pop 0 [.ref 27] zsh I J (zP (fun r I' J' => r = some (.int (shd s)) ∧ rcI I0 I' s.tail ∧ J = J')) := by
  refine zK_of kX9_pop.2.2.2.2.1 (Nat.le_of_ble_eq_true rfl) ?_
  show V G mX9_pop 0 _ 0 [(0, .ref 27)] [] (0, 0) zsh I J
  cases s with
  | nil =>
    refine V_aload_n dX9_pop_0 rfl ?_
    refine V_getI dX9_pop_1 fX9_35 ⟨Nat.le_of_ble_eq_true rfl, Nat.le_of_ble_eq_true rfl⟩ rfl rfl ?_
    refine V_eqI (y := nI 0) (by rw [hr.2.1]; rfl) ?_
    refine V_iconst (v := nI 1) dX9_pop_4 rfl ?_
    refine V_icmp_lt (tgt := 17) dX9_pop_5 rfl (fun _ => ?_) (fun h => absurd h (by decide))
    refine V_iconst (v := nI 0) dX9_pop_17 rfl ?_
    exact V_iret ⟨Or.inl rfl, dX9_pop_18⟩ ⟨Nat.le_of_ble_eq_true rfl, Nat.le_of_ble_eq_true rfl⟩ ⟨rfl, rfl, hr, rfl⟩
  | cons x s =>
    have hl : s.length + 1 ≤ 24 := hr.2.2.1
    refine V_aload_n dX9_pop_0 rfl ?_
    refine V_getI dX9_pop_1 fX9_35 ⟨Nat.le_of_ble_eq_true rfl, Nat.le_of_ble_eq_true rfl⟩ rfl rfl ?_
    refine V_eqI (y := nI (s.length + 1)) (by rw [hr.2.1]; rfl) ?_
    refine V_iconst (v := nI 1) dX9_pop_4 rfl ?_
    refine V_icmp_ltN (tgt := 17) dX9_pop_5 rfl (by omega) (by omega) (fun h => absurd h (by omega)) (fun _ => ?_)
    refine V_aload_n dX9_pop_8 rfl ?_
    refine V_getI dX9_pop_9 fX9_35 ⟨Nat.le_of_ble_eq_true rfl, Nat.le_of_ble_eq_true rfl⟩ rfl rfl ?_
    refine V_eqI (y := nI (s.length + 1)) (by rw [hr.2.1]; rfl) ?_
    refine V_bipush (v := nI 24) dX9_pop_12 rfl ?_
    refine V_icmp_leN (tgt := 19) dX9_pop_14 rfl (by omega) (by omega) (fun _ => ?_) (fun h => absurd h (by omega))
    refine V_aload_n dX9_pop_19 rfl ?_
    refine V_dup dX9_pop_20 rfl ?_
    refine V_getI dX9_pop_21 fX9_35 ⟨Nat.le_of_ble_eq_true rfl, Nat.le_of_ble_eq_true rfl⟩ rfl rfl ?_
    refine V_eqI (y := nI (s.length + 1)) (by rw [hr.2.1]; rfl) ?_
    refine V_iconst (v := nI 1) dX9_pop_24 rfl ?_
    refine V_isubN dX9_pop_25 (by omega) ?_
    refine V_putW dX9_pop_26 fX9_35 ⟨Nat.le_of_ble_eq_true rfl, Nat.le_of_ble_eq_true rfl⟩ rfl rfl rfl ⟨rfl, rfl⟩ ?_
    refine V_aload_n dX9_pop_29 rfl ?_
    refine V_getR (b := 29) dX9_pop_30 fX9_13 ⟨Nat.le_of_ble_eq_true rfl, Nat.le_of_ble_eq_true rfl⟩ rfl rfl rfl ?_
    refine V_aload_n dX9_pop_33 rfl ?_
    refine V_getI dX9_pop_34 fX9_35 ⟨Nat.le_of_ble_eq_true rfl, Nat.le_of_ble_eq_true rfl⟩ rfl rfl ?_
    refine V_eqI (y := nI ((s.length + 1) - 1)) rfl ?_
    refine V_ialdN (k := (s.length + 1) - 1) dX9_pop_37 ⟨Nat.le_of_ble_eq_true rfl, Nat.le_of_ble_eq_true rfl⟩ rfl (by decide) (by omega) ?_
    refine V_eqI (y := I 29 ((s.length + 1) - 1)) rfl ?_
    exact V_iret ⟨Or.inl rfl, dX9_pop_38⟩ ⟨Nat.le_of_ble_eq_true rfl, Nat.le_of_ble_eq_true rfl⟩ ⟨rfl, by rw [show s.length + 1 - 1 = s.length from rfl, (rcI_pop hr).1]; rfl, by (try rw [show s.length + 1 - 1 = s.length from rfl]); exact (rcI_pop hr).2, rfl⟩

theorem nI_one : nI 1 = 1 := rfl
set_option maxRecDepth 100000 in
set_option maxHeartbeats 4000000 in
theorem c_joined {G : zG} {I : zI} {J : zJ} {op : Nat} (ho : op < 2 ^ 31) {x y : Int32} : zK G mX9_joined 0 [.int (nI op), .int x, .int y] zsh I J (zA0 (.int (jn op x y)) I J) := by
  refine zK_of kX9_joined.2.2.2.2.1 (Nat.le_of_ble_eq_true rfl) ?_
  show V G mX9_joined 0 _ 0 [(0, .int (nI op)), (1, .int x), (2, .int y)] [] (0, 0) zsh I J
  by_cases h37 : op = 37
  · subst h37
    refine V_iload_n dX9_joined_0 rfl ?_
    refine V_ls (tgt := 92) dX9_joined_1 (by decide) rfl rfl ?_
    refine V_iload_n dX9_joined_92 rfl ?_
    refine V_if_ne (tgt := 100) dX9_joined_93 rfl (fun h93 => ?_) (fun h93 => ?_)
    · skip
      refine V_iload_n dX9_joined_100 rfl ?_
      refine V_iload_n dX9_joined_101 rfl ?_
      refine V_irem dX9_joined_102 h93 ?_
      exact V_iret ⟨Or.inl rfl, dX9_joined_103⟩ ⟨Nat.le_of_ble_eq_true rfl, Nat.le_of_ble_eq_true rfl⟩ ⟨rfl, congrArg (fun z => some (Value.int z)) (by simp_all [jn, nI_0, nI_one]), rfl, rfl⟩
    · skip
      refine V_iconst (v := nI 0) dX9_joined_96 rfl ?_
      refine V_goto (tgt := 103) dX9_joined_97 rfl ?_
      exact V_iret ⟨Or.inl rfl, dX9_joined_103⟩ ⟨Nat.le_of_ble_eq_true rfl, Nat.le_of_ble_eq_true rfl⟩ ⟨rfl, congrArg (fun z => some (Value.int z)) (by simp_all [jn, nI_0, nI_one]), rfl, rfl⟩
  by_cases h42 : op = 42
  · subst h42
    refine V_iload_n dX9_joined_0 rfl ?_
    refine V_ls (tgt := 76) dX9_joined_1 (by decide) rfl rfl ?_
    refine V_iload_n dX9_joined_76 rfl ?_
    refine V_iload_n dX9_joined_77 rfl ?_
    refine V_imul dX9_joined_78 ?_
    exact V_iret ⟨Or.inl rfl, dX9_joined_79⟩ ⟨Nat.le_of_ble_eq_true rfl, Nat.le_of_ble_eq_true rfl⟩ ⟨rfl, congrArg (fun z => some (Value.int z)) (by simp_all [jn, nI_0, nI_one]), rfl, rfl⟩
  by_cases h43 : op = 43
  · subst h43
    refine V_iload_n dX9_joined_0 rfl ?_
    refine V_ls (tgt := 68) dX9_joined_1 (by decide) rfl rfl ?_
    refine V_iload_n dX9_joined_68 rfl ?_
    refine V_iload_n dX9_joined_69 rfl ?_
    refine V_iadd dX9_joined_70 ?_
    exact V_iret ⟨Or.inl rfl, dX9_joined_71⟩ ⟨Nat.le_of_ble_eq_true rfl, Nat.le_of_ble_eq_true rfl⟩ ⟨rfl, congrArg (fun z => some (Value.int z)) (by simp_all [jn, nI_0, nI_one]), rfl, rfl⟩
  by_cases h45 : op = 45
  · subst h45
    refine V_iload_n dX9_joined_0 rfl ?_
    refine V_ls (tgt := 72) dX9_joined_1 (by decide) rfl rfl ?_
    refine V_iload_n dX9_joined_72 rfl ?_
    refine V_iload_n dX9_joined_73 rfl ?_
    refine V_isub dX9_joined_74 ?_
    exact V_iret ⟨Or.inl rfl, dX9_joined_75⟩ ⟨Nat.le_of_ble_eq_true rfl, Nat.le_of_ble_eq_true rfl⟩ ⟨rfl, congrArg (fun z => some (Value.int z)) (by simp_all [jn, nI_0, nI_one]), rfl, rfl⟩
  by_cases h47 : op = 47
  · subst h47
    refine V_iload_n dX9_joined_0 rfl ?_
    refine V_ls (tgt := 80) dX9_joined_1 (by decide) rfl rfl ?_
    refine V_iload_n dX9_joined_80 rfl ?_
    refine V_if_ne (tgt := 88) dX9_joined_81 rfl (fun h81 => ?_) (fun h81 => ?_)
    · skip
      refine V_iload_n dX9_joined_88 rfl ?_
      refine V_iload_n dX9_joined_89 rfl ?_
      refine V_idiv dX9_joined_90 h81 ?_
      exact V_iret ⟨Or.inl rfl, dX9_joined_91⟩ ⟨Nat.le_of_ble_eq_true rfl, Nat.le_of_ble_eq_true rfl⟩ ⟨rfl, congrArg (fun z => some (Value.int z)) (by simp_all [jn, nI_0, nI_one]), rfl, rfl⟩
    · skip
      refine V_iconst (v := nI 0) dX9_joined_84 rfl ?_
      refine V_goto (tgt := 91) dX9_joined_85 rfl ?_
      exact V_iret ⟨Or.inl rfl, dX9_joined_91⟩ ⟨Nat.le_of_ble_eq_true rfl, Nat.le_of_ble_eq_true rfl⟩ ⟨rfl, congrArg (fun z => some (Value.int z)) (by simp_all [jn, nI_0, nI_one]), rfl, rfl⟩
  by_cases h60 : op = 60
  · subst h60
    refine V_iload_n dX9_joined_0 rfl ?_
    refine V_ls (tgt := 104) dX9_joined_1 (by decide) rfl rfl ?_
    refine V_iload_n dX9_joined_104 rfl ?_
    refine V_iload_n dX9_joined_105 rfl ?_
    refine V_icmp_ge (tgt := 113) dX9_joined_106 rfl (fun h106 => ?_) (fun h106 => ?_)
    · skip
      refine V_iconst (v := nI 0) dX9_joined_113 rfl ?_
      exact V_iret ⟨Or.inl rfl, dX9_joined_114⟩ ⟨Nat.le_of_ble_eq_true rfl, Nat.le_of_ble_eq_true rfl⟩ ⟨rfl, congrArg (fun z => some (Value.int z)) (by simp_all [jn, nI_0, nI_one]), rfl, rfl⟩
    · skip
      refine V_iconst (v := nI 1) dX9_joined_109 rfl ?_
      refine V_goto (tgt := 114) dX9_joined_110 rfl ?_
      exact V_iret ⟨Or.inl rfl, dX9_joined_114⟩ ⟨Nat.le_of_ble_eq_true rfl, Nat.le_of_ble_eq_true rfl⟩ ⟨rfl, congrArg (fun z => some (Value.int z)) (by simp_all [jn, nI_0, nI_one]), rfl, rfl⟩
  by_cases h62 : op = 62
  · subst h62
    refine V_iload_n dX9_joined_0 rfl ?_
    refine V_ls (tgt := 115) dX9_joined_1 (by decide) rfl rfl ?_
    refine V_iload_n dX9_joined_115 rfl ?_
    refine V_iload_n dX9_joined_116 rfl ?_
    refine V_icmp_le (tgt := 124) dX9_joined_117 rfl (fun h117 => ?_) (fun h117 => ?_)
    · skip
      refine V_iconst (v := nI 0) dX9_joined_124 rfl ?_
      exact V_iret ⟨Or.inl rfl, dX9_joined_125⟩ ⟨Nat.le_of_ble_eq_true rfl, Nat.le_of_ble_eq_true rfl⟩ ⟨rfl, congrArg (fun z => some (Value.int z)) (by simp_all [jn, nI_0, nI_one]), rfl, rfl⟩
    · skip
      refine V_iconst (v := nI 1) dX9_joined_120 rfl ?_
      refine V_goto (tgt := 125) dX9_joined_121 rfl ?_
      exact V_iret ⟨Or.inl rfl, dX9_joined_125⟩ ⟨Nat.le_of_ble_eq_true rfl, Nat.le_of_ble_eq_true rfl⟩ ⟨rfl, congrArg (fun z => some (Value.int z)) (by simp_all [jn, nI_0, nI_one]), rfl, rfl⟩
  refine V_iload_n dX9_joined_0 rfl ?_
  refine V_ls (tgt := 126) (off := 125) dX9_joined_1 (by decide) (by show Op.lookupswitch.offset [(37, 91), (42, 75), (43, 67), (45, 71), (47, 79), (60, 103), (62, 114)] 125 _ = _; rw [lv_osw (k := nI 37) (a := 37) (fun e => h37 ((nI_eq ho (by decide)).mp e)) (by decide), lv_osw (k := nI 42) (a := 42) (fun e => h42 ((nI_eq ho (by decide)).mp e)) (by decide), lv_osw (k := nI 43) (a := 43) (fun e => h43 ((nI_eq ho (by decide)).mp e)) (by decide), lv_osw (k := nI 45) (a := 45) (fun e => h45 ((nI_eq ho (by decide)).mp e)) (by decide), lv_osw (k := nI 47) (a := 47) (fun e => h47 ((nI_eq ho (by decide)).mp e)) (by decide), lv_osw (k := nI 60) (a := 60) (fun e => h60 ((nI_eq ho (by decide)).mp e)) (by decide), lv_osw (k := nI 62) (a := 62) (fun e => h62 ((nI_eq ho (by decide)).mp e)) (by decide)]; rfl) rfl ?_
  refine V_iload_n dX9_joined_126 rfl ?_
  refine V_iload_n dX9_joined_127 rfl ?_
  refine V_icmp_ne (tgt := 135) dX9_joined_128 rfl (fun h128 => ?_) (fun h128 => ?_)
  · skip
    refine V_iconst (v := nI 0) dX9_joined_135 rfl ?_
    exact V_iret ⟨Or.inl rfl, dX9_joined_136⟩ ⟨Nat.le_of_ble_eq_true rfl, Nat.le_of_ble_eq_true rfl⟩ ⟨rfl, congrArg (fun z => some (Value.int z)) (by simp_all [jn, nI_0, nI_one]), rfl, rfl⟩
  · skip
    refine V_iconst (v := nI 1) dX9_joined_131 rfl ?_
    refine V_goto (tgt := 136) dX9_joined_132 rfl ?_
    exact V_iret ⟨Or.inl rfl, dX9_joined_136⟩ ⟨Nat.le_of_ble_eq_true rfl, Nat.le_of_ble_eq_true rfl⟩ ⟨rfl, congrArg (fun z => some (Value.int z)) (by simp_all [jn, nI_0, nI_one]), rfl, rfl⟩

/-- a program: its number, the row of its steps behind it -/
def prog (pa : Nat) : Prop := zin zsh pa ∧ zin zsh (pa + 1) ∧ zkd pa = (12, 0) ∧ zkd (pa + 1) = (1, 240) ∧ zrf pa 0 = some (pa + 1) ∧ pa ≠ 27 ∧ pa ≠ 29 ∧ pa + 1 ≠ 27 ∧ pa + 1 ≠ 29
theorem prog_6 : prog 6 := ⟨⟨by decide, by decide⟩, ⟨by decide, by decide⟩, rfl, rfl, rfl, by decide, by decide, by decide, by decide⟩
theorem prog_16 : prog 16 := ⟨⟨by decide, by decide⟩, ⟨by decide, by decide⟩, rfl, rfl, rfl, by decide, by decide, by decide, by decide⟩
theorem prog_r {k : Nat} (hk : k < 4) : prog (19 + 2 * k) := by
  rcases (show k = 0 ∨ k = 1 ∨ k = 2 ∨ k = 3 by omega) with h | h | h | h <;> subst h <;> exact ⟨⟨by decide, by decide⟩, ⟨by decide, by decide⟩, rfl, rfl, rfl, by decide, by decide, by decide, by decide⟩
/-- the steps from lo to hi of a row are kinds and arguments -/
def wfp (f : Nat → Int32) (kd ar : Nat → Nat) (lo hi : Nat) : Prop := hi ≤ 240 ∧ ∀ i, lo ≤ i → i < hi → f i = nI (1048576 * kd i + ar i) ∧ kd i ≤ 4 ∧ ar i < 1048576 ∧ (kd i = 1 → ar i < 9)
set_option maxRecDepth 100000 in
set_option maxHeartbeats 4000000 in
theorem lp_run {G : zG} {I : zI} {J : zJ} {pa : Nat} (hp : prog pa) {kd ar : Nat → Nat} {lo hi : Nat} (hw : wfp (I (pa + 1)) kd ar lo hi) : ∀ f i r s (I1 : zI), lo ≤ i → i + f = hi → r < 2 ^ 21 → rcI I I1 s → V G mX9_run 1 (zP (fun v I' J' => v = some (.int (rn kd ar (I 28) f i r s)) ∧ offR I I' ∧ J = J')) 11 [(0, .ref 27), (1, .ref pa), (2, .int (nI lo)), (3, .int (nI hi)), (4, .int (nI r)), (5, .int (nI i))] [] (0, 0) zsh I1 J := by
  have h240 := hw.1
  intro f
  induction f with
  | zero =>
    intro i r s I1 hi1 hi2 hr9 hr0
    refine V_iload dX9_run_11 rfl ?_
    refine V_iload_n dX9_run_13 rfl ?_
    refine V_icmp_geN (tgt := 220) dX9_run_14 rfl (by omega) (by omega) (fun _ => ?_) (fun h => absurd h (by omega))
    refine V_aload_n dX9_run_220 rfl ?_
    refine V_callV (As := []) (st := []) (a := 27) dX9_run_221 kX9_pop lX9_43 (by decide) rfl rfl (Nat.le_of_ble_eq_true rfl) ⟨Nat.le_of_ble_eq_true rfl, Nat.le_of_ble_eq_true rfl⟩ ⟨Nat.le_of_ble_eq_true rfl, Nat.le_of_ble_eq_true rfl⟩ rfl ⟨rfl, by decide⟩ (c_pop9 hr0) ?_
    rintro r sh' I' J' ⟨rfl, rfl, hq, rfl⟩
    have hr1 := hq
    exact V_iret ⟨Or.inl rfl, dX9_run_224⟩ ⟨Nat.le_of_ble_eq_true rfl, Nat.le_of_ble_eq_true rfl⟩ ⟨rfl, rfl, hr1.1, rfl⟩
  | succ f ih =>
    intro i r s I1 hi1 hi2 hr9 hr0
    have hst := hw.2 i (by omega) (by omega)
    obtain ⟨hstep0, hkd4, har20, hlet⟩ := hst
    have hstep : I1 (pa + 1) i = nI (1048576 * kd i + ar i) := by rw [hr0.1 (pa + 1) hp.2.2.2.2.2.2.2.1 hp.2.2.2.2.2.2.2.2]; exact hstep0
    have h28 : I1 28 = I 28 := hr0.1 28 (by decide) (by decide)
    have hkd : nI (1048576 * kd i + ar i) >>> (nI 20 &&& 31) = nI (kd i) := (pk_shrN (by omega) (nI 20 &&& 31) 20 (by decide)).trans (congrArg nI (by omega))
    have har : nI (1048576 * kd i + ar i) &&& nI 1048575 = nI (ar i) := (pk_andN (by omega) 20 (by decide)).trans (congrArg nI (by omega))
    refine V_iload dX9_run_11 rfl ?_
    refine V_iload_n dX9_run_13 rfl ?_
    refine V_icmp_geN (tgt := 220) dX9_run_14 rfl (by omega) (by omega) (fun h => absurd h (by omega)) (fun _ => ?_)
    refine V_iload dX9_run_17 rfl ?_
    refine V_iload dX9_run_19 rfl ?_
    refine V_icmp_ltN (tgt := 214) dX9_run_21 rfl (by omega) (by omega) (fun h21 => ?_) (fun h21 => ?_)
    · skip
      refine V_iincN (ls' := [(5, .int (nI (i + 1))), (0, .ref 27), (1, .ref pa), (2, .int (nI lo)), (3, .int (nI hi)), (4, .int (nI r))]) (n := 1) dX9_run_214 rfl rfl (by decide) (by decide) rfl ?_
      refine V_goto (tgt := 11) dX9_run_217 rfl ?_
      refine V_sub2 (ls' := [(0, .ref 27), (1, .ref pa), (2, .int (nI lo)), (3, .int (nI hi)), (4, .int (nI r)), (5, .int (nI (i + 1)))]) (List.forall_mem_cons.mpr ⟨rfl, List.forall_mem_cons.mpr ⟨rfl, List.forall_mem_cons.mpr ⟨rfl, List.forall_mem_cons.mpr ⟨rfl, List.forall_mem_cons.mpr ⟨rfl, List.forall_mem_cons.mpr ⟨rfl, fun _ h => absurd h List.not_mem_nil⟩⟩⟩⟩⟩⟩) ?_
      have e : rn kd ar (I 28) (f + 1) i r s = rn kd ar (I 28) f (i + 1) (r) s := by first | rw [rn, if_pos h21] | (rw [rn, if_neg h21]; simp_all [nI_0, nI_one])
      rw [e]
      exact ih (i + 1) (r) s _ (by omega) (by omega) (by omega) hr0
    · skip
      refine V_aload_n dX9_run_24 rfl ?_
      refine V_getR (b := (pa + 1)) dX9_run_25 fX9_22 hp.1 hp.2.2.1 rfl hp.2.2.2.2.1 ?_
      refine V_iload dX9_run_28 rfl ?_
      refine V_callS (As := [.ref (pa + 1), .int (nI i)]) (st := []) dX9_run_30 kX11_at lX9_25 (by decide) rfl rfl (Nat.le_of_ble_eq_true rfl) ⟨Nat.le_of_ble_eq_true rfl, Nat.le_of_ble_eq_true rfl⟩ (c_at (a := pa + 1) (n := 240) hp.2.1 hp.2.2.2.1 (by decide) (by omega)) ?_
      rintro _ _ _ _ ⟨rfl, rfl, rfl, rfl⟩
      refine V_eqI (y := nI (1048576 * kd i + ar i)) hstep ?_
      refine V_istore (ls' := [(6, .int (nI (1048576 * kd i + ar i))), (0, .ref 27), (1, .ref pa), (2, .int (nI lo)), (3, .int (nI hi)), (4, .int (nI r)), (5, .int (nI i))]) dX9_run_33 (by decide) rfl ?_
      refine V_iload dX9_run_35 rfl ?_
      refine V_bipush (v := nI 20) dX9_run_37 rfl ?_
      refine V_ishr dX9_run_39 (V_eqI (y := nI (kd i)) hkd ?_)
      refine V_istore (ls' := [(7, .int (nI (kd i))), (6, .int (nI (1048576 * kd i + ar i))), (0, .ref 27), (1, .ref pa), (2, .int (nI lo)), (3, .int (nI hi)), (4, .int (nI r)), (5, .int (nI i))]) dX9_run_40 (by decide) rfl ?_
      refine V_iload dX9_run_42 rfl ?_
      refine V_ldc dX9_run_44 qX9_38 ?_
      refine V_eqI (y := nI 1048575) rfl ?_
      refine V_iand dX9_run_46 (V_eqI (y := nI (ar i)) har ?_)
      refine V_istore (ls' := [(8, .int (nI (ar i))), (7, .int (nI (kd i))), (6, .int (nI (1048576 * kd i + ar i))), (0, .ref 27), (1, .ref pa), (2, .int (nI lo)), (3, .int (nI hi)), (4, .int (nI r)), (5, .int (nI i))]) dX9_run_47 (by decide) rfl ?_
      refine V_iload dX9_run_49 rfl ?_
      refine V_if_neN (tgt := 63) dX9_run_51 rfl (by omega) (fun h51 => ?_) (fun h51 => ?_)
      · skip
        refine V_iload dX9_run_63 rfl ?_
        refine V_iconst (v := nI 1) dX9_run_65 rfl ?_
        refine V_icmp_neN (tgt := 85) dX9_run_66 rfl (by omega) (by omega) (fun h66 => ?_) (fun h66 => ?_)
        · skip
          refine V_iload dX9_run_85 rfl ?_
          refine V_iconst (v := nI 2) dX9_run_87 rfl ?_
          refine V_icmp_eqN (tgt := 142) dX9_run_88 rfl (by omega) (by omega) (fun h88 => ?_) (fun h88 => ?_)
          · skip
            refine V_iload dX9_run_142 rfl ?_
            refine V_bipush (v := nI 33) dX9_run_144 rfl ?_
            refine V_icmp_neN (tgt := 168) dX9_run_146 rfl (by omega) (by omega) (fun h146 => ?_) (fun h146 => ?_)
            · skip
              refine V_aload_n dX9_run_168 rfl ?_
              refine V_callV (As := []) (st := []) (a := 27) dX9_run_169 kX9_pop lX9_43 (by decide) rfl rfl (Nat.le_of_ble_eq_true rfl) ⟨Nat.le_of_ble_eq_true rfl, Nat.le_of_ble_eq_true rfl⟩ ⟨Nat.le_of_ble_eq_true rfl, Nat.le_of_ble_eq_true rfl⟩ rfl ⟨rfl, by decide⟩ (c_pop9 hr0) ?_
              rintro r sh' I' J' ⟨rfl, rfl, hq, rfl⟩
              have hr1 := hq
              refine V_istore (ls' := [(9, .int (shd s)), (8, .int (nI (ar i))), (7, .int (nI (kd i))), (6, .int (nI (1048576 * kd i + ar i))), (0, .ref 27), (1, .ref pa), (2, .int (nI lo)), (3, .int (nI hi)), (4, .int (nI r)), (5, .int (nI i))]) dX9_run_172 (by decide) rfl ?_
              refine V_aload_n dX9_run_174 rfl ?_
              refine V_callV (As := []) (st := []) (a := 27) dX9_run_175 kX9_pop lX9_43 (by decide) rfl rfl (Nat.le_of_ble_eq_true rfl) ⟨Nat.le_of_ble_eq_true rfl, Nat.le_of_ble_eq_true rfl⟩ ⟨Nat.le_of_ble_eq_true rfl, Nat.le_of_ble_eq_true rfl⟩ rfl ⟨rfl, by decide⟩ (c_pop9 hr1) ?_
              rintro r sh' I' J' ⟨rfl, rfl, hq, rfl⟩
              have hr2 := hq
              refine V_istore (ls' := [(10, .int (shd s.tail)), (9, .int (shd s)), (8, .int (nI (ar i))), (7, .int (nI (kd i))), (6, .int (nI (1048576 * kd i + ar i))), (0, .ref 27), (1, .ref pa), (2, .int (nI lo)), (3, .int (nI hi)), (4, .int (nI r)), (5, .int (nI i))]) dX9_run_178 (by decide) rfl ?_
              refine V_iload dX9_run_180 rfl ?_
              refine V_if_ne (tgt := 201) dX9_run_182 rfl (fun h182 => ?_) (fun h182 => ?_)
              · skip
                refine V_aload_n dX9_run_201 rfl ?_
                refine V_iload dX9_run_202 rfl ?_
                refine V_iload dX9_run_204 rfl ?_
                refine V_iload dX9_run_206 rfl ?_
                refine V_callS (As := [.int (nI (ar i)), .int (shd s.tail), .int (shd s)]) (st := [.ref 27]) dX9_run_208 kX9_joined lX9_47 (by decide) rfl rfl (Nat.le_of_ble_eq_true rfl) ⟨Nat.le_of_ble_eq_true rfl, Nat.le_of_ble_eq_true rfl⟩ (c_joined (by omega)) ?_
                rintro _ _ _ _ ⟨rfl, rfl, rfl, rfl⟩
                refine V_callV (As := [.int (jn (ar i) (shd s.tail) (shd s))]) (st := []) (a := 27) dX9_run_211 kX9_push lX9_39 (by decide) rfl rfl (Nat.le_of_ble_eq_true rfl) ⟨Nat.le_of_ble_eq_true rfl, Nat.le_of_ble_eq_true rfl⟩ ⟨Nat.le_of_ble_eq_true rfl, Nat.le_of_ble_eq_true rfl⟩ rfl ⟨rfl, by decide⟩ (c_push9 hr2) ?_
                rintro r sh' I' J' ⟨rfl, rfl, hq, rfl⟩
                have hr3 := hq
                refine V_iincN (ls' := [(5, .int (nI (i + 1))), (10, .int (shd s.tail)), (9, .int (shd s)), (8, .int (nI (ar i))), (7, .int (nI (kd i))), (6, .int (nI (1048576 * kd i + ar i))), (0, .ref 27), (1, .ref pa), (2, .int (nI lo)), (3, .int (nI hi)), (4, .int (nI r))]) (n := 1) dX9_run_214 rfl rfl (by decide) (by decide) rfl ?_
                refine V_goto (tgt := 11) dX9_run_217 rfl ?_
                refine V_sub2 (ls' := [(0, .ref 27), (1, .ref pa), (2, .int (nI lo)), (3, .int (nI hi)), (4, .int (nI r)), (5, .int (nI (i + 1)))]) (List.forall_mem_cons.mpr ⟨rfl, List.forall_mem_cons.mpr ⟨rfl, List.forall_mem_cons.mpr ⟨rfl, List.forall_mem_cons.mpr ⟨rfl, List.forall_mem_cons.mpr ⟨rfl, List.forall_mem_cons.mpr ⟨rfl, fun _ h => absurd h List.not_mem_nil⟩⟩⟩⟩⟩⟩) ?_
                have e : rn kd ar (I 28) (f + 1) i r s = rn kd ar (I 28) f (i + 1) (r) (spush (jn (ar i) (shd s.tail) (shd s)) s.tail.tail) := by first | rw [rn, if_pos h21] | (rw [rn, if_neg h21]; simp_all [nI_0, nI_one])
                rw [e]
                exact ih (i + 1) (r) (spush (jn (ar i) (shd s.tail) (shd s)) s.tail.tail) _ (by omega) (by omega) (by omega) hr3
              · skip
                refine V_iload dX9_run_185 rfl ?_
                refine V_bipush (v := nI 47) dX9_run_187 rfl ?_
                refine V_icmp_eqN (tgt := 199) dX9_run_189 rfl (by omega) (by omega) (fun h189 => ?_) (fun h189 => ?_)
                · skip
                  refine V_iconst (v := nI 0) dX9_run_199 rfl ?_
                  exact V_iret ⟨Or.inl rfl, dX9_run_200⟩ ⟨Nat.le_of_ble_eq_true rfl, Nat.le_of_ble_eq_true rfl⟩ ⟨rfl, by (rw [rn, if_neg h21]; simp_all [nI_0]), hr2.1, rfl⟩
                · skip
                  refine V_iload dX9_run_192 rfl ?_
                  refine V_bipush (v := nI 37) dX9_run_194 rfl ?_
                  refine V_icmp_neN (tgt := 201) dX9_run_196 rfl (by omega) (by omega) (fun h196 => ?_) (fun h196 => ?_)
                  · skip
                    refine V_aload_n dX9_run_201 rfl ?_
                    refine V_iload dX9_run_202 rfl ?_
                    refine V_iload dX9_run_204 rfl ?_
                    refine V_iload dX9_run_206 rfl ?_
                    refine V_callS (As := [.int (nI (ar i)), .int (shd s.tail), .int (shd s)]) (st := [.ref 27]) dX9_run_208 kX9_joined lX9_47 (by decide) rfl rfl (Nat.le_of_ble_eq_true rfl) ⟨Nat.le_of_ble_eq_true rfl, Nat.le_of_ble_eq_true rfl⟩ (c_joined (by omega)) ?_
                    rintro _ _ _ _ ⟨rfl, rfl, rfl, rfl⟩
                    refine V_callV (As := [.int (jn (ar i) (shd s.tail) (shd s))]) (st := []) (a := 27) dX9_run_211 kX9_push lX9_39 (by decide) rfl rfl (Nat.le_of_ble_eq_true rfl) ⟨Nat.le_of_ble_eq_true rfl, Nat.le_of_ble_eq_true rfl⟩ ⟨Nat.le_of_ble_eq_true rfl, Nat.le_of_ble_eq_true rfl⟩ rfl ⟨rfl, by decide⟩ (c_push9 hr2) ?_
                    rintro r sh' I' J' ⟨rfl, rfl, hq, rfl⟩
                    have hr3 := hq
                    refine V_iincN (ls' := [(5, .int (nI (i + 1))), (10, .int (shd s.tail)), (9, .int (shd s)), (8, .int (nI (ar i))), (7, .int (nI (kd i))), (6, .int (nI (1048576 * kd i + ar i))), (0, .ref 27), (1, .ref pa), (2, .int (nI lo)), (3, .int (nI hi)), (4, .int (nI r))]) (n := 1) dX9_run_214 rfl rfl (by decide) (by decide) rfl ?_
                    refine V_goto (tgt := 11) dX9_run_217 rfl ?_
                    refine V_sub2 (ls' := [(0, .ref 27), (1, .ref pa), (2, .int (nI lo)), (3, .int (nI hi)), (4, .int (nI r)), (5, .int (nI (i + 1)))]) (List.forall_mem_cons.mpr ⟨rfl, List.forall_mem_cons.mpr ⟨rfl, List.forall_mem_cons.mpr ⟨rfl, List.forall_mem_cons.mpr ⟨rfl, List.forall_mem_cons.mpr ⟨rfl, List.forall_mem_cons.mpr ⟨rfl, fun _ h => absurd h List.not_mem_nil⟩⟩⟩⟩⟩⟩) ?_
                    have e : rn kd ar (I 28) (f + 1) i r s = rn kd ar (I 28) f (i + 1) (r) (spush (jn (ar i) (shd s.tail) (shd s)) s.tail.tail) := by first | rw [rn, if_pos h21] | (rw [rn, if_neg h21]; simp_all [nI_0, nI_one])
                    rw [e]
                    exact ih (i + 1) (r) (spush (jn (ar i) (shd s.tail) (shd s)) s.tail.tail) _ (by omega) (by omega) (by omega) hr3
                  · skip
                    refine V_iconst (v := nI 0) dX9_run_199 rfl ?_
                    exact V_iret ⟨Or.inl rfl, dX9_run_200⟩ ⟨Nat.le_of_ble_eq_true rfl, Nat.le_of_ble_eq_true rfl⟩ ⟨rfl, by (rw [rn, if_neg h21]; simp_all [nI_0]), hr2.1, rfl⟩
            · skip
              refine V_aload_n dX9_run_149 rfl ?_
              refine V_aload_n dX9_run_150 rfl ?_
              refine V_callV (As := []) (st := [.ref 27]) (a := 27) dX9_run_151 kX9_pop lX9_43 (by decide) rfl rfl (Nat.le_of_ble_eq_true rfl) ⟨Nat.le_of_ble_eq_true rfl, Nat.le_of_ble_eq_true rfl⟩ ⟨Nat.le_of_ble_eq_true rfl, Nat.le_of_ble_eq_true rfl⟩ rfl ⟨rfl, by decide⟩ (c_pop9 hr0) ?_
              rintro r sh' I' J' ⟨rfl, rfl, hq, rfl⟩
              have hr1 := hq
              refine V_if_ne (tgt := 161) dX9_run_154 rfl (fun h154 => ?_) (fun h154 => ?_)
              · skip
                refine V_iconst (v := nI 0) dX9_run_161 rfl ?_
                refine V_callV (As := [.int (nI 0)]) (st := []) (a := 27) dX9_run_162 kX9_push lX9_39 (by decide) rfl rfl (Nat.le_of_ble_eq_true rfl) ⟨Nat.le_of_ble_eq_true rfl, Nat.le_of_ble_eq_true rfl⟩ ⟨Nat.le_of_ble_eq_true rfl, Nat.le_of_ble_eq_true rfl⟩ rfl ⟨rfl, by decide⟩ (c_push9 hr1) ?_
                rintro r sh' I' J' ⟨rfl, rfl, hq, rfl⟩
                have hr2 := hq
                refine V_goto (tgt := 214) dX9_run_165 rfl ?_
                refine V_iincN (ls' := [(5, .int (nI (i + 1))), (8, .int (nI (ar i))), (7, .int (nI (kd i))), (6, .int (nI (1048576 * kd i + ar i))), (0, .ref 27), (1, .ref pa), (2, .int (nI lo)), (3, .int (nI hi)), (4, .int (nI r))]) (n := 1) dX9_run_214 rfl rfl (by decide) (by decide) rfl ?_
                refine V_goto (tgt := 11) dX9_run_217 rfl ?_
                refine V_sub2 (ls' := [(0, .ref 27), (1, .ref pa), (2, .int (nI lo)), (3, .int (nI hi)), (4, .int (nI r)), (5, .int (nI (i + 1)))]) (List.forall_mem_cons.mpr ⟨rfl, List.forall_mem_cons.mpr ⟨rfl, List.forall_mem_cons.mpr ⟨rfl, List.forall_mem_cons.mpr ⟨rfl, List.forall_mem_cons.mpr ⟨rfl, List.forall_mem_cons.mpr ⟨rfl, fun _ h => absurd h List.not_mem_nil⟩⟩⟩⟩⟩⟩) ?_
                have e : rn kd ar (I 28) (f + 1) i r s = rn kd ar (I 28) f (i + 1) (r) (spush (nI 0) s.tail) := by first | rw [rn, if_pos h21] | (rw [rn, if_neg h21]; simp_all [nI_0, nI_one])
                rw [e]
                exact ih (i + 1) (r) (spush (nI 0) s.tail) _ (by omega) (by omega) (by omega) hr2
              · skip
                refine V_iconst (v := nI 1) dX9_run_157 rfl ?_
                refine V_goto (tgt := 162) dX9_run_158 rfl ?_
                refine V_callV (As := [.int (nI 1)]) (st := []) (a := 27) dX9_run_162 kX9_push lX9_39 (by decide) rfl rfl (Nat.le_of_ble_eq_true rfl) ⟨Nat.le_of_ble_eq_true rfl, Nat.le_of_ble_eq_true rfl⟩ ⟨Nat.le_of_ble_eq_true rfl, Nat.le_of_ble_eq_true rfl⟩ rfl ⟨rfl, by decide⟩ (c_push9 hr1) ?_
                rintro r sh' I' J' ⟨rfl, rfl, hq, rfl⟩
                have hr2 := hq
                refine V_goto (tgt := 214) dX9_run_165 rfl ?_
                refine V_iincN (ls' := [(5, .int (nI (i + 1))), (8, .int (nI (ar i))), (7, .int (nI (kd i))), (6, .int (nI (1048576 * kd i + ar i))), (0, .ref 27), (1, .ref pa), (2, .int (nI lo)), (3, .int (nI hi)), (4, .int (nI r))]) (n := 1) dX9_run_214 rfl rfl (by decide) (by decide) rfl ?_
                refine V_goto (tgt := 11) dX9_run_217 rfl ?_
                refine V_sub2 (ls' := [(0, .ref 27), (1, .ref pa), (2, .int (nI lo)), (3, .int (nI hi)), (4, .int (nI r)), (5, .int (nI (i + 1)))]) (List.forall_mem_cons.mpr ⟨rfl, List.forall_mem_cons.mpr ⟨rfl, List.forall_mem_cons.mpr ⟨rfl, List.forall_mem_cons.mpr ⟨rfl, List.forall_mem_cons.mpr ⟨rfl, List.forall_mem_cons.mpr ⟨rfl, fun _ h => absurd h List.not_mem_nil⟩⟩⟩⟩⟩⟩) ?_
                have e : rn kd ar (I 28) (f + 1) i r s = rn kd ar (I 28) f (i + 1) (r) (spush (nI 1) s.tail) := by first | rw [rn, if_pos h21] | (rw [rn, if_neg h21]; simp_all [nI_0, nI_one])
                rw [e]
                exact ih (i + 1) (r) (spush (nI 1) s.tail) _ (by omega) (by omega) (by omega) hr2
          · skip
            refine V_aload_n dX9_run_91 rfl ?_
            refine V_callV (As := []) (st := []) (a := 27) dX9_run_92 kX9_pop lX9_43 (by decide) rfl rfl (Nat.le_of_ble_eq_true rfl) ⟨Nat.le_of_ble_eq_true rfl, Nat.le_of_ble_eq_true rfl⟩ ⟨Nat.le_of_ble_eq_true rfl, Nat.le_of_ble_eq_true rfl⟩ rfl ⟨rfl, by decide⟩ (c_pop9 hr0) ?_
            rintro r sh' I' J' ⟨rfl, rfl, hq, rfl⟩
            have hr1 := hq
            refine V_if_eq (tgt := 102) dX9_run_95 rfl (fun h95 => ?_) (fun h95 => ?_)
            · skip
              refine V_iconst (v := nI 0) dX9_run_102 rfl ?_
              refine V_istore (ls' := [(9, .int (nI 0)), (8, .int (nI (ar i))), (7, .int (nI (kd i))), (6, .int (nI (1048576 * kd i + ar i))), (0, .ref 27), (1, .ref pa), (2, .int (nI lo)), (3, .int (nI hi)), (4, .int (nI r)), (5, .int (nI i))]) dX9_run_103 (by decide) rfl ?_
              refine V_iload dX9_run_105 rfl ?_
              refine V_iload dX9_run_107 rfl ?_
              refine V_iconst (v := nI 4) dX9_run_109 rfl ?_
              refine V_icmp_neN (tgt := 117) dX9_run_110 rfl (by omega) (by omega) (fun h110 => ?_) (fun h110 => ?_)
              · skip
                refine V_iconst (v := nI 0) dX9_run_117 rfl ?_
                refine V_icmp_ne (tgt := 139) dX9_run_118 rfl (fun h => absurd h (by decide)) (fun _ => ?_)
                refine V_aload_n dX9_run_121 rfl ?_
                refine V_iload dX9_run_122 rfl ?_
                refine V_if_eq (tgt := 131) dX9_run_124 rfl (fun _ => ?_) (fun h => absurd h (by decide))
                refine V_iconst (v := nI 0) dX9_run_131 rfl ?_
                refine V_callV (As := [.int (nI 0)]) (st := []) (a := 27) dX9_run_132 kX9_push lX9_39 (by decide) rfl rfl (Nat.le_of_ble_eq_true rfl) ⟨Nat.le_of_ble_eq_true rfl, Nat.le_of_ble_eq_true rfl⟩ ⟨Nat.le_of_ble_eq_true rfl, Nat.le_of_ble_eq_true rfl⟩ rfl ⟨rfl, by decide⟩ (c_push9 hr1) ?_
                rintro r sh' I' J' ⟨rfl, rfl, hq, rfl⟩
                have hr2 := hq
                refine V_iload dX9_run_135 rfl ?_
                refine V_istore (ls' := [(4, .int (nI (ar i))), (9, .int (nI 0)), (8, .int (nI (ar i))), (7, .int (nI (kd i))), (6, .int (nI (1048576 * kd i + ar i))), (0, .ref 27), (1, .ref pa), (2, .int (nI lo)), (3, .int (nI hi)), (5, .int (nI i))]) dX9_run_137 (by decide) rfl ?_
                refine V_goto (tgt := 214) dX9_run_139 rfl ?_
                refine V_iincN (ls' := [(5, .int (nI (i + 1))), (4, .int (nI (ar i))), (9, .int (nI 0)), (8, .int (nI (ar i))), (7, .int (nI (kd i))), (6, .int (nI (1048576 * kd i + ar i))), (0, .ref 27), (1, .ref pa), (2, .int (nI lo)), (3, .int (nI hi))]) (n := 1) dX9_run_214 rfl rfl (by decide) (by decide) rfl ?_
                refine V_goto (tgt := 11) dX9_run_217 rfl ?_
                refine V_sub2 (ls' := [(0, .ref 27), (1, .ref pa), (2, .int (nI lo)), (3, .int (nI hi)), (4, .int (nI (ar i))), (5, .int (nI (i + 1)))]) (List.forall_mem_cons.mpr ⟨rfl, List.forall_mem_cons.mpr ⟨rfl, List.forall_mem_cons.mpr ⟨rfl, List.forall_mem_cons.mpr ⟨rfl, List.forall_mem_cons.mpr ⟨rfl, List.forall_mem_cons.mpr ⟨rfl, fun _ h => absurd h List.not_mem_nil⟩⟩⟩⟩⟩⟩) ?_
                have e : rn kd ar (I 28) (f + 1) i r s = rn kd ar (I 28) f (i + 1) (ar i) (spush (nI 0) s.tail) := by first | rw [rn, if_pos h21] | (rw [rn, if_neg h21]; simp_all [nI_0, nI_one])
                rw [e]
                exact ih (i + 1) (ar i) (spush (nI 0) s.tail) _ (by omega) (by omega) (by omega) hr2
              · skip
                refine V_iconst (v := nI 1) dX9_run_113 rfl ?_
                refine V_goto (tgt := 118) dX9_run_114 rfl ?_
                refine V_icmp_ne (tgt := 139) dX9_run_118 rfl (fun _ => ?_) (fun h => absurd h (by decide))
                refine V_goto (tgt := 214) dX9_run_139 rfl ?_
                refine V_iincN (ls' := [(5, .int (nI (i + 1))), (9, .int (nI 0)), (8, .int (nI (ar i))), (7, .int (nI (kd i))), (6, .int (nI (1048576 * kd i + ar i))), (0, .ref 27), (1, .ref pa), (2, .int (nI lo)), (3, .int (nI hi)), (4, .int (nI r))]) (n := 1) dX9_run_214 rfl rfl (by decide) (by decide) rfl ?_
                refine V_goto (tgt := 11) dX9_run_217 rfl ?_
                refine V_sub2 (ls' := [(0, .ref 27), (1, .ref pa), (2, .int (nI lo)), (3, .int (nI hi)), (4, .int (nI r)), (5, .int (nI (i + 1)))]) (List.forall_mem_cons.mpr ⟨rfl, List.forall_mem_cons.mpr ⟨rfl, List.forall_mem_cons.mpr ⟨rfl, List.forall_mem_cons.mpr ⟨rfl, List.forall_mem_cons.mpr ⟨rfl, List.forall_mem_cons.mpr ⟨rfl, fun _ h => absurd h List.not_mem_nil⟩⟩⟩⟩⟩⟩) ?_
                have e : rn kd ar (I 28) (f + 1) i r s = rn kd ar (I 28) f (i + 1) (r) s.tail := by first | rw [rn, if_pos h21] | (rw [rn, if_neg h21]; simp_all [nI_0, nI_one])
                rw [e]
                exact ih (i + 1) (r) s.tail _ (by omega) (by omega) (by omega) hr1
            · skip
              refine V_iconst (v := nI 1) dX9_run_98 rfl ?_
              refine V_goto (tgt := 103) dX9_run_99 rfl ?_
              refine V_istore (ls' := [(9, .int (nI 1)), (8, .int (nI (ar i))), (7, .int (nI (kd i))), (6, .int (nI (1048576 * kd i + ar i))), (0, .ref 27), (1, .ref pa), (2, .int (nI lo)), (3, .int (nI hi)), (4, .int (nI r)), (5, .int (nI i))]) dX9_run_103 (by decide) rfl ?_
              refine V_iload dX9_run_105 rfl ?_
              refine V_iload dX9_run_107 rfl ?_
              refine V_iconst (v := nI 4) dX9_run_109 rfl ?_
              refine V_icmp_neN (tgt := 117) dX9_run_110 rfl (by omega) (by omega) (fun h110 => ?_) (fun h110 => ?_)
              · skip
                refine V_iconst (v := nI 0) dX9_run_117 rfl ?_
                refine V_icmp_ne (tgt := 139) dX9_run_118 rfl (fun _ => ?_) (fun h => absurd h (by decide))
                refine V_goto (tgt := 214) dX9_run_139 rfl ?_
                refine V_iincN (ls' := [(5, .int (nI (i + 1))), (9, .int (nI 1)), (8, .int (nI (ar i))), (7, .int (nI (kd i))), (6, .int (nI (1048576 * kd i + ar i))), (0, .ref 27), (1, .ref pa), (2, .int (nI lo)), (3, .int (nI hi)), (4, .int (nI r))]) (n := 1) dX9_run_214 rfl rfl (by decide) (by decide) rfl ?_
                refine V_goto (tgt := 11) dX9_run_217 rfl ?_
                refine V_sub2 (ls' := [(0, .ref 27), (1, .ref pa), (2, .int (nI lo)), (3, .int (nI hi)), (4, .int (nI r)), (5, .int (nI (i + 1)))]) (List.forall_mem_cons.mpr ⟨rfl, List.forall_mem_cons.mpr ⟨rfl, List.forall_mem_cons.mpr ⟨rfl, List.forall_mem_cons.mpr ⟨rfl, List.forall_mem_cons.mpr ⟨rfl, List.forall_mem_cons.mpr ⟨rfl, fun _ h => absurd h List.not_mem_nil⟩⟩⟩⟩⟩⟩) ?_
                have e : rn kd ar (I 28) (f + 1) i r s = rn kd ar (I 28) f (i + 1) (r) s.tail := by first | rw [rn, if_pos h21] | (rw [rn, if_neg h21]; simp_all [nI_0, nI_one])
                rw [e]
                exact ih (i + 1) (r) s.tail _ (by omega) (by omega) (by omega) hr1
              · skip
                refine V_iconst (v := nI 1) dX9_run_113 rfl ?_
                refine V_goto (tgt := 118) dX9_run_114 rfl ?_
                refine V_icmp_ne (tgt := 139) dX9_run_118 rfl (fun h => absurd h (by decide)) (fun _ => ?_)
                refine V_aload_n dX9_run_121 rfl ?_
                refine V_iload dX9_run_122 rfl ?_
                refine V_if_eq (tgt := 131) dX9_run_124 rfl (fun h => absurd h (by decide)) (fun _ => ?_)
                refine V_iconst (v := nI 1) dX9_run_127 rfl ?_
                refine V_goto (tgt := 132) dX9_run_128 rfl ?_
                refine V_callV (As := [.int (nI 1)]) (st := []) (a := 27) dX9_run_132 kX9_push lX9_39 (by decide) rfl rfl (Nat.le_of_ble_eq_true rfl) ⟨Nat.le_of_ble_eq_true rfl, Nat.le_of_ble_eq_true rfl⟩ ⟨Nat.le_of_ble_eq_true rfl, Nat.le_of_ble_eq_true rfl⟩ rfl ⟨rfl, by decide⟩ (c_push9 hr1) ?_
                rintro r sh' I' J' ⟨rfl, rfl, hq, rfl⟩
                have hr2 := hq
                refine V_iload dX9_run_135 rfl ?_
                refine V_istore (ls' := [(4, .int (nI (ar i))), (9, .int (nI 1)), (8, .int (nI (ar i))), (7, .int (nI (kd i))), (6, .int (nI (1048576 * kd i + ar i))), (0, .ref 27), (1, .ref pa), (2, .int (nI lo)), (3, .int (nI hi)), (5, .int (nI i))]) dX9_run_137 (by decide) rfl ?_
                refine V_goto (tgt := 214) dX9_run_139 rfl ?_
                refine V_iincN (ls' := [(5, .int (nI (i + 1))), (4, .int (nI (ar i))), (9, .int (nI 1)), (8, .int (nI (ar i))), (7, .int (nI (kd i))), (6, .int (nI (1048576 * kd i + ar i))), (0, .ref 27), (1, .ref pa), (2, .int (nI lo)), (3, .int (nI hi))]) (n := 1) dX9_run_214 rfl rfl (by decide) (by decide) rfl ?_
                refine V_goto (tgt := 11) dX9_run_217 rfl ?_
                refine V_sub2 (ls' := [(0, .ref 27), (1, .ref pa), (2, .int (nI lo)), (3, .int (nI hi)), (4, .int (nI (ar i))), (5, .int (nI (i + 1)))]) (List.forall_mem_cons.mpr ⟨rfl, List.forall_mem_cons.mpr ⟨rfl, List.forall_mem_cons.mpr ⟨rfl, List.forall_mem_cons.mpr ⟨rfl, List.forall_mem_cons.mpr ⟨rfl, List.forall_mem_cons.mpr ⟨rfl, fun _ h => absurd h List.not_mem_nil⟩⟩⟩⟩⟩⟩) ?_
                have e : rn kd ar (I 28) (f + 1) i r s = rn kd ar (I 28) f (i + 1) (ar i) (spush (nI 1) s.tail) := by first | rw [rn, if_pos h21] | (rw [rn, if_neg h21]; simp_all [nI_0, nI_one])
                rw [e]
                exact ih (i + 1) (ar i) (spush (nI 1) s.tail) _ (by omega) (by omega) (by omega) hr2
        · skip
          refine V_aload_n dX9_run_69 rfl ?_
          refine V_aload_n dX9_run_70 rfl ?_
          refine V_getR (b := 28) dX9_run_71 fX9_7 ⟨Nat.le_of_ble_eq_true rfl, Nat.le_of_ble_eq_true rfl⟩ rfl rfl rfl ?_
          refine V_iload dX9_run_74 rfl ?_
          refine V_callS (As := [.ref 28, .int (nI (ar i))]) (st := [.ref 27]) dX9_run_76 kX11_at lX9_25 (by decide) rfl rfl (Nat.le_of_ble_eq_true rfl) ⟨Nat.le_of_ble_eq_true rfl, Nat.le_of_ble_eq_true rfl⟩ (c_at (a := 28) (n := 9) ⟨Nat.le_of_ble_eq_true rfl, Nat.le_of_ble_eq_true rfl⟩ rfl (by decide) (hlet (by omega))) ?_
          rintro _ _ _ _ ⟨rfl, rfl, rfl, rfl⟩
          refine V_eqI (y := I 28 (ar i)) (by rw [h28]) ?_
          refine V_callV (As := [.int (I 28 (ar i))]) (st := []) (a := 27) dX9_run_79 kX9_push lX9_39 (by decide) rfl rfl (Nat.le_of_ble_eq_true rfl) ⟨Nat.le_of_ble_eq_true rfl, Nat.le_of_ble_eq_true rfl⟩ ⟨Nat.le_of_ble_eq_true rfl, Nat.le_of_ble_eq_true rfl⟩ rfl ⟨rfl, by decide⟩ (c_push9 hr0) ?_
          rintro r sh' I' J' ⟨rfl, rfl, hq, rfl⟩
          have hr1 := hq
          refine V_goto (tgt := 214) dX9_run_82 rfl ?_
          refine V_iincN (ls' := [(5, .int (nI (i + 1))), (8, .int (nI (ar i))), (7, .int (nI (kd i))), (6, .int (nI (1048576 * kd i + ar i))), (0, .ref 27), (1, .ref pa), (2, .int (nI lo)), (3, .int (nI hi)), (4, .int (nI r))]) (n := 1) dX9_run_214 rfl rfl (by decide) (by decide) rfl ?_
          refine V_goto (tgt := 11) dX9_run_217 rfl ?_
          refine V_sub2 (ls' := [(0, .ref 27), (1, .ref pa), (2, .int (nI lo)), (3, .int (nI hi)), (4, .int (nI r)), (5, .int (nI (i + 1)))]) (List.forall_mem_cons.mpr ⟨rfl, List.forall_mem_cons.mpr ⟨rfl, List.forall_mem_cons.mpr ⟨rfl, List.forall_mem_cons.mpr ⟨rfl, List.forall_mem_cons.mpr ⟨rfl, List.forall_mem_cons.mpr ⟨rfl, fun _ h => absurd h List.not_mem_nil⟩⟩⟩⟩⟩⟩) ?_
          have e : rn kd ar (I 28) (f + 1) i r s = rn kd ar (I 28) f (i + 1) (r) (spush (I 28 (ar i)) s) := by first | rw [rn, if_pos h21] | (rw [rn, if_neg h21]; simp_all [nI_0, nI_one])
          rw [e]
          exact ih (i + 1) (r) (spush (I 28 (ar i)) s) _ (by omega) (by omega) (by omega) hr1
      · skip
        refine V_aload_n dX9_run_54 rfl ?_
        refine V_iload dX9_run_55 rfl ?_
        refine V_callV (As := [.int (nI (ar i))]) (st := []) (a := 27) dX9_run_57 kX9_push lX9_39 (by decide) rfl rfl (Nat.le_of_ble_eq_true rfl) ⟨Nat.le_of_ble_eq_true rfl, Nat.le_of_ble_eq_true rfl⟩ ⟨Nat.le_of_ble_eq_true rfl, Nat.le_of_ble_eq_true rfl⟩ rfl ⟨rfl, by decide⟩ (c_push9 hr0) ?_
        rintro r sh' I' J' ⟨rfl, rfl, hq, rfl⟩
        have hr1 := hq
        refine V_goto (tgt := 214) dX9_run_60 rfl ?_
        refine V_iincN (ls' := [(5, .int (nI (i + 1))), (8, .int (nI (ar i))), (7, .int (nI (kd i))), (6, .int (nI (1048576 * kd i + ar i))), (0, .ref 27), (1, .ref pa), (2, .int (nI lo)), (3, .int (nI hi)), (4, .int (nI r))]) (n := 1) dX9_run_214 rfl rfl (by decide) (by decide) rfl ?_
        refine V_goto (tgt := 11) dX9_run_217 rfl ?_
        refine V_sub2 (ls' := [(0, .ref 27), (1, .ref pa), (2, .int (nI lo)), (3, .int (nI hi)), (4, .int (nI r)), (5, .int (nI (i + 1)))]) (List.forall_mem_cons.mpr ⟨rfl, List.forall_mem_cons.mpr ⟨rfl, List.forall_mem_cons.mpr ⟨rfl, List.forall_mem_cons.mpr ⟨rfl, List.forall_mem_cons.mpr ⟨rfl, List.forall_mem_cons.mpr ⟨rfl, fun _ h => absurd h List.not_mem_nil⟩⟩⟩⟩⟩⟩) ?_
        have e : rn kd ar (I 28) (f + 1) i r s = rn kd ar (I 28) f (i + 1) (r) (spush (nI (ar i)) s) := by first | rw [rn, if_pos h21] | (rw [rn, if_neg h21]; simp_all [nI_0, nI_one])
        rw [e]
        exact ih (i + 1) (r) (spush (nI (ar i)) s) _ (by omega) (by omega) (by omega) hr1

set_option maxRecDepth 100000 in
set_option maxHeartbeats 4000000 in
theorem c_run {G : zG} {I : zI} {J : zJ} {pa : Nat} (hp : prog pa) {kd ar : Nat → Nat} {lo hi : Nat} (hw : wfp (I (pa + 1)) kd ar lo hi) (hlo : lo ≤ hi) : zK G mX9_run 1 [.ref 27, .ref pa, .int (nI lo), .int (nI hi)] zsh I J (zP (fun v I' J' => v = some (.int (rn kd ar (I 28) (hi - lo) lo lo [])) ∧ offR I I' ∧ J = J')) := by
  refine zK_of kX9_run.2.2.2.2.1 (Nat.le_of_ble_eq_true rfl) ?_
  show V G mX9_run 1 _ 0 [(0, .ref 27), (1, .ref pa), (2, .int (nI lo)), (3, .int (nI hi))] [] (0, 0) zsh I J
  have h240 := hw.1
  refine V_aload_n dX9_run_0 rfl ?_
  refine V_iconst (v := nI 0) dX9_run_1 rfl ?_
  refine V_putW dX9_run_2 fX9_35 ⟨Nat.le_of_ble_eq_true rfl, Nat.le_of_ble_eq_true rfl⟩ rfl rfl rfl ⟨rfl, rfl⟩ ?_
  refine V_iload_n dX9_run_5 rfl ?_
  refine V_istore (ls' := [(4, .int (nI lo)), (0, .ref 27), (1, .ref pa), (2, .int (nI lo)), (3, .int (nI hi))]) dX9_run_6 (by decide) rfl ?_
  refine V_iload_n dX9_run_8 rfl ?_
  refine V_istore (ls' := [(5, .int (nI lo)), (4, .int (nI lo)), (0, .ref 27), (1, .ref pa), (2, .int (nI lo)), (3, .int (nI hi))]) dX9_run_9 (by decide) rfl ?_
  refine V_sub2 (ls' := [(0, .ref 27), (1, .ref pa), (2, .int (nI lo)), (3, .int (nI hi)), (4, .int (nI lo)), (5, .int (nI lo))]) (List.forall_mem_cons.mpr ⟨rfl, List.forall_mem_cons.mpr ⟨rfl, List.forall_mem_cons.mpr ⟨rfl, List.forall_mem_cons.mpr ⟨rfl, List.forall_mem_cons.mpr ⟨rfl, List.forall_mem_cons.mpr ⟨rfl, fun _ h => absurd h List.not_mem_nil⟩⟩⟩⟩⟩⟩) ?_
  refine lp_run hp hw (hi - lo) lo lo [] _ (Nat.le_refl _) (by omega) (by omega) ⟨fun a h1 h2 => ?_, rfl, by decide, fun k hk => absurd hk (by simp)⟩
  funext j
  simp [zwr_at, h1]

theorem wfp_sub {f : Nat → Int32} {kd ar : Nat → Nat} {lo hi a b : Nat} (h : wfp f kd ar lo hi) (h1 : lo ≤ a) (h2 : b ≤ hi) : wfp f kd ar a b := ⟨Nat.le_trans h2 h.1, fun i hi1 hi2 => h.2 i (by omega) (by omega)⟩
theorem offR_t {A B C : zI} (h : offR A B) (h2 : offR B C) : offR A C := fun a ha hb => (h2 a ha hb).trans (h a ha hb)
/-- a row holds c clauses: letters lt, heads hd, conditions from cp on -/
def wfc (f : Nat → Int32) (c : Nat) (kd ar hd lt cp : Nat → Nat) : Prop := hd 0 = 0 ∧ c ≤ 16 ∧ ∀ j, j < c → hd j + 3 ≤ cp j ∧ cp j ≤ hd (j + 1) ∧ f (hd j) = nI (lt j) ∧ lt j < 256 ∧ f (hd j + 1) = nI (cp j) ∧ f (hd j + 2) = nI (hd (j + 1)) ∧ wfp f kd ar (hd j + 3) (hd (j + 1))
/-- the E of the first clause of a letter whose C holds -/
def tlS (kd ar hd lt cp : Nat → Nat) (L : Nat → Int32) (letter : Nat) : Nat → Nat → Int32
  | 0, _ => 0
  | n + 1, j => if lt j = letter ∧ ¬ rn kd ar L (hd (j + 1) - cp j) (cp j) (cp j) [] = 0 then rn kd ar L (cp j - (hd j + 3)) (hd j + 3) (hd j + 3) [] else tlS kd ar hd lt cp L letter n (j + 1)
set_option maxRecDepth 100000 in
set_option maxHeartbeats 4000000 in
theorem lp_tell {G : zG} {I : zI} {J : zJ} {pa : Nat} (hp : prog pa) {c : Nat} {kd ar hd lt cp : Nat → Nat} (hw : wfc (I (pa + 1)) c kd ar hd lt cp) (hcl : I pa 2 = nI c) {letter : Nat} (hle : letter < 256) : ∀ n j (I1 : zI), j + n = c → offR I I1 → V G mX9_tell 2 (zP (fun v I' J' => v = some (.int (tlS kd ar hd lt cp (I 28) letter n j)) ∧ offR I I' ∧ J = J')) 5 [(0, .ref 27), (1, .ref pa), (2, .int (nI letter)), (3, .int (nI (hd j))), (4, .int (nI j))] [] (0, 0) zsh I1 J := by
  have hc16 := hw.2.1
  intro n
  induction n with
  | zero =>
    intro j I1 hj hoff
    refine V_iload dX9_tell_5 rfl ?_
    refine V_aload_n dX9_tell_7 rfl ?_
    refine V_getI dX9_tell_8 fX9_16 hp.1 hp.2.2.1 rfl ?_
    refine V_eqI (y := nI c) (by rw [hoff pa hp.2.2.2.2.2.1 hp.2.2.2.2.2.2.1]; exact hcl) ?_
    refine V_icmp_geN (tgt := 82) dX9_tell_11 rfl (by omega) (by omega) (fun _ => ?_) (fun h => absurd h (by omega))
    refine V_iconst (v := nI 0) dX9_tell_82 rfl ?_
    exact V_iret ⟨Or.inl rfl, dX9_tell_83⟩ ⟨Nat.le_of_ble_eq_true rfl, Nat.le_of_ble_eq_true rfl⟩ ⟨rfl, rfl, hoff, rfl⟩
  | succ n ih =>
    intro j I1 hj hoff
    have hc := hw.2.2 j (by omega)
    have h240 := hc.2.2.2.2.2.2.1
    obtain ⟨hc1, hc2, -⟩ := id hc
    have hlt := hc.2.2.2.1
    have hrow : I1 (pa + 1) = I (pa + 1) := hoff (pa + 1) hp.2.2.2.2.2.2.2.1 hp.2.2.2.2.2.2.2.2
    refine V_iload dX9_tell_5 rfl ?_
    refine V_aload_n dX9_tell_7 rfl ?_
    refine V_getI dX9_tell_8 fX9_16 hp.1 hp.2.2.1 rfl ?_
    refine V_eqI (y := nI c) (by rw [hoff pa hp.2.2.2.2.2.1 hp.2.2.2.2.2.2.1]; exact hcl) ?_
    refine V_icmp_geN (tgt := 82) dX9_tell_11 rfl (by omega) (by omega) (fun h => absurd h (by omega)) (fun _ => ?_)
    refine V_aload_n dX9_tell_14 rfl ?_
    refine V_getR (b := (pa + 1)) dX9_tell_15 fX9_22 hp.1 hp.2.2.1 rfl hp.2.2.2.2.1 ?_
    refine V_iload_n dX9_tell_18 rfl ?_
    refine V_iconst (v := nI 1) dX9_tell_19 rfl ?_
    refine V_iaddN dX9_tell_20 ?_
    refine V_callS (As := [.ref (pa + 1), .int (nI ((hd j) + 1))]) (st := []) dX9_tell_21 kX11_at lX9_25 (by decide) rfl rfl (Nat.le_of_ble_eq_true rfl) ⟨Nat.le_of_ble_eq_true rfl, Nat.le_of_ble_eq_true rfl⟩ (c_at (a := pa + 1) (n := 240) hp.2.1 hp.2.2.2.1 (by decide) (by omega)) ?_
    rintro _ _ _ _ ⟨rfl, rfl, rfl, rfl⟩
    refine V_eqI (y := nI (cp j)) (by rw [hrow]; exact hc.2.2.2.2.1) ?_
    refine V_istore (ls' := [(5, .int (nI (cp j))), (0, .ref 27), (1, .ref pa), (2, .int (nI letter)), (3, .int (nI (hd j))), (4, .int (nI j))]) dX9_tell_24 (by decide) rfl ?_
    refine V_aload_n dX9_tell_26 rfl ?_
    refine V_getR (b := (pa + 1)) dX9_tell_27 fX9_22 hp.1 hp.2.2.1 rfl hp.2.2.2.2.1 ?_
    refine V_iload_n dX9_tell_30 rfl ?_
    refine V_iconst (v := nI 2) dX9_tell_31 rfl ?_
    refine V_iaddN dX9_tell_32 ?_
    refine V_callS (As := [.ref (pa + 1), .int (nI ((hd j) + 2))]) (st := []) dX9_tell_33 kX11_at lX9_25 (by decide) rfl rfl (Nat.le_of_ble_eq_true rfl) ⟨Nat.le_of_ble_eq_true rfl, Nat.le_of_ble_eq_true rfl⟩ (c_at (a := pa + 1) (n := 240) hp.2.1 hp.2.2.2.1 (by decide) (by omega)) ?_
    rintro _ _ _ _ ⟨rfl, rfl, rfl, rfl⟩
    refine V_eqI (y := nI (hd (j + 1))) (by rw [hrow]; exact hc.2.2.2.2.2.1) ?_
    refine V_istore (ls' := [(6, .int (nI (hd (j + 1)))), (5, .int (nI (cp j))), (0, .ref 27), (1, .ref pa), (2, .int (nI letter)), (3, .int (nI (hd j))), (4, .int (nI j))]) dX9_tell_36 (by decide) rfl ?_
    refine V_aload_n dX9_tell_38 rfl ?_
    refine V_getR (b := (pa + 1)) dX9_tell_39 fX9_22 hp.1 hp.2.2.1 rfl hp.2.2.2.2.1 ?_
    refine V_iload_n dX9_tell_42 rfl ?_
    refine V_callS (As := [.ref (pa + 1), .int (nI (hd j))]) (st := []) dX9_tell_43 kX11_at lX9_25 (by decide) rfl rfl (Nat.le_of_ble_eq_true rfl) ⟨Nat.le_of_ble_eq_true rfl, Nat.le_of_ble_eq_true rfl⟩ (c_at (a := pa + 1) (n := 240) hp.2.1 hp.2.2.2.1 (by decide) (by omega)) ?_
    rintro _ _ _ _ ⟨rfl, rfl, rfl, rfl⟩
    refine V_eqI (y := nI (lt j)) (by rw [hrow]; exact hc.2.2.1) ?_
    refine V_iload_n dX9_tell_46 rfl ?_
    refine V_icmp_neN (tgt := 73) dX9_tell_47 rfl (by omega) (by omega) (fun h47 => ?_) (fun h47 => ?_)
    · skip
      refine V_iload dX9_tell_73 rfl ?_
      refine V_istore_n (ls' := [(3, .int (nI (hd (j + 1)))), (6, .int (nI (hd (j + 1)))), (5, .int (nI (cp j))), (0, .ref 27), (1, .ref pa), (2, .int (nI letter)), (4, .int (nI j))]) dX9_tell_75 (by decide) rfl ?_
      refine V_iincN (ls' := [(4, .int (nI (j + 1))), (3, .int (nI (hd (j + 1)))), (6, .int (nI (hd (j + 1)))), (5, .int (nI (cp j))), (0, .ref 27), (1, .ref pa), (2, .int (nI letter))]) (n := 1) dX9_tell_76 rfl rfl (by decide) (by decide) rfl ?_
      refine V_goto (tgt := 5) dX9_tell_79 rfl ?_
      rw [show tlS kd ar hd lt cp (I 28) letter (n + 1) j = tlS kd ar hd lt cp (I 28) letter n (j + 1) from if_neg (fun h => h47 h.1)]
      refine V_sub2 (ls' := [(0, .ref 27), (1, .ref pa), (2, .int (nI letter)), (3, .int (nI (hd (j + 1)))), (4, .int (nI (j + 1)))]) (List.forall_mem_cons.mpr ⟨rfl, List.forall_mem_cons.mpr ⟨rfl, List.forall_mem_cons.mpr ⟨rfl, List.forall_mem_cons.mpr ⟨rfl, List.forall_mem_cons.mpr ⟨rfl, fun _ h => absurd h List.not_mem_nil⟩⟩⟩⟩⟩) ?_
      exact ih (j + 1) _ (by omega) hoff
    · skip
      refine V_aload_n dX9_tell_50 rfl ?_
      refine V_aload_n dX9_tell_51 rfl ?_
      refine V_iload dX9_tell_52 rfl ?_
      refine V_iload dX9_tell_54 rfl ?_
      refine V_callV (As := [.ref pa, .int (nI (cp j)), .int (nI (hd (j + 1)))]) (st := []) (a := 27) dX9_tell_56 kX9_run lX9_31 (by decide) rfl rfl (Nat.le_of_ble_eq_true rfl) ⟨Nat.le_of_ble_eq_true rfl, Nat.le_of_ble_eq_true rfl⟩ ⟨Nat.le_of_ble_eq_true rfl, Nat.le_of_ble_eq_true rfl⟩ rfl ⟨rfl, by decide⟩ (c_run hp (kd := kd) (ar := ar) (by rw [hoff (pa + 1) hp.2.2.2.2.2.2.2.1 hp.2.2.2.2.2.2.2.2]; exact wfp_sub hc.2.2.2.2.2.2 (by omega) (by omega)) (by omega)) ?_
      rintro r sh' I' J' ⟨rfl, rfl, hq, rfl⟩
      have hoff2 := offR_t hoff hq
      rw [hoff 28 (by decide) (by decide)]
      refine V_if_eq (tgt := 73) dX9_tell_59 rfl (fun h59 => ?_) (fun h59 => ?_)
      · skip
        refine V_iload dX9_tell_73 rfl ?_
        refine V_istore_n (ls' := [(3, .int (nI (hd (j + 1)))), (6, .int (nI (hd (j + 1)))), (5, .int (nI (cp j))), (0, .ref 27), (1, .ref pa), (2, .int (nI letter)), (4, .int (nI j))]) dX9_tell_75 (by decide) rfl ?_
        refine V_iincN (ls' := [(4, .int (nI (j + 1))), (3, .int (nI (hd (j + 1)))), (6, .int (nI (hd (j + 1)))), (5, .int (nI (cp j))), (0, .ref 27), (1, .ref pa), (2, .int (nI letter))]) (n := 1) dX9_tell_76 rfl rfl (by decide) (by decide) rfl ?_
        refine V_goto (tgt := 5) dX9_tell_79 rfl ?_
        rw [show tlS kd ar hd lt cp (I 28) letter (n + 1) j = tlS kd ar hd lt cp (I 28) letter n (j + 1) from if_neg (fun h => h.2 h59)]
        refine V_sub2 (ls' := [(0, .ref 27), (1, .ref pa), (2, .int (nI letter)), (3, .int (nI (hd (j + 1)))), (4, .int (nI (j + 1)))]) (List.forall_mem_cons.mpr ⟨rfl, List.forall_mem_cons.mpr ⟨rfl, List.forall_mem_cons.mpr ⟨rfl, List.forall_mem_cons.mpr ⟨rfl, List.forall_mem_cons.mpr ⟨rfl, fun _ h => absurd h List.not_mem_nil⟩⟩⟩⟩⟩) ?_
        exact ih (j + 1) _ (by omega) hoff2
      · skip
        refine V_aload_n dX9_tell_62 rfl ?_
        refine V_aload_n dX9_tell_63 rfl ?_
        refine V_iload_n dX9_tell_64 rfl ?_
        refine V_iconst (v := nI 3) dX9_tell_65 rfl ?_
        refine V_iaddN dX9_tell_66 ?_
        refine V_iload dX9_tell_67 rfl ?_
        refine V_callV (As := [.ref pa, .int (nI ((hd j) + 3)), .int (nI (cp j))]) (st := []) (a := 27) dX9_tell_69 kX9_run lX9_31 (by decide) rfl rfl (Nat.le_of_ble_eq_true rfl) ⟨Nat.le_of_ble_eq_true rfl, Nat.le_of_ble_eq_true rfl⟩ ⟨Nat.le_of_ble_eq_true rfl, Nat.le_of_ble_eq_true rfl⟩ rfl ⟨rfl, by decide⟩ (c_run hp (kd := kd) (ar := ar) (by rw [hoff2 (pa + 1) hp.2.2.2.2.2.2.2.1 hp.2.2.2.2.2.2.2.2]; exact wfp_sub hc.2.2.2.2.2.2 (by omega) (by omega)) (by omega)) ?_
        rintro r sh' I' J' ⟨rfl, rfl, hq, rfl⟩
        have hoff3 := offR_t hoff2 hq
        rw [hoff2 28 (by decide) (by decide)]
        exact V_iret ⟨Or.inl rfl, dX9_tell_72⟩ ⟨Nat.le_of_ble_eq_true rfl, Nat.le_of_ble_eq_true rfl⟩ ⟨rfl, by rw [show tlS kd ar hd lt cp (I 28) letter (n + 1) j = _ from if_pos ⟨h47, h59⟩], hoff3, rfl⟩

set_option maxRecDepth 100000 in
set_option maxHeartbeats 4000000 in
theorem c_tell {G : zG} {I : zI} {J : zJ} {pa : Nat} (hp : prog pa) {c : Nat} {kd ar hd lt cp : Nat → Nat} (hw : wfc (I (pa + 1)) c kd ar hd lt cp) (hcl : I pa 2 = nI c) {letter : Nat} (hle : letter < 256) : zK G mX9_tell 2 [.ref 27, .ref pa, .int (nI letter)] zsh I J (zP (fun v I' J' => v = some (.int (tlS kd ar hd lt cp (I 28) letter c 0)) ∧ offR I I' ∧ J = J')) := by
  refine zK_of kX9_tell.2.2.2.2.1 (Nat.le_of_ble_eq_true rfl) ?_
  show V G mX9_tell 2 _ 0 [(0, .ref 27), (1, .ref pa), (2, .int (nI letter))] [] (0, 0) zsh I J
  refine V_iconst (v := nI 0) dX9_tell_0 rfl ?_
  refine V_istore_n (ls' := [(3, .int (nI 0)), (0, .ref 27), (1, .ref pa), (2, .int (nI letter))]) dX9_tell_1 (by decide) rfl ?_
  refine V_iconst (v := nI 0) dX9_tell_2 rfl ?_
  refine V_istore (ls' := [(4, .int (nI 0)), (3, .int (nI 0)), (0, .ref 27), (1, .ref pa), (2, .int (nI letter))]) dX9_tell_3 (by decide) rfl ?_
  have h0 := hw.1
  have q := lp_tell (G := G) (J := J) hp hw hcl hle c 0 I (by omega) (fun _ _ _ => rfl)
  rw [h0] at q
  refine V_sub2 (ls' := [(0, .ref 27), (1, .ref pa), (2, .int (nI letter)), (3, .int (nI 0)), (4, .int (nI 0))]) (List.forall_mem_cons.mpr ⟨rfl, List.forall_mem_cons.mpr ⟨rfl, List.forall_mem_cons.mpr ⟨rfl, List.forall_mem_cons.mpr ⟨rfl, List.forall_mem_cons.mpr ⟨rfl, fun _ h => absurd h List.not_mem_nil⟩⟩⟩⟩⟩) ?_
  exact q

