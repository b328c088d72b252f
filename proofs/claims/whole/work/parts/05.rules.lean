/-! THE SMALL MACHINE, 3: an instruction, a row -/
def zlk : List (Nat × Value) → Nat → Option Value
  | [], _ => none
  | (j, v) :: t, i => if Nat.beq j i = true then some v else zlk t i
theorem zlk_mem : ∀ {ls : List (Nat × Value)} {i : Nat} {v : Value}, zlk ls i = some v → (i, v) ∈ ls
  | [], _, _, h => by cases h
  | (j, w) :: t, i, v, h => by
    unfold zlk at h
    by_cases hj : Nat.beq j i = true
    · rw [if_pos hj] at h
      cases h
      have := Nat.eq_of_beq_eq_true hj
      subst this
      exact List.mem_cons_self
    · rw [if_neg hj] at h
      exact List.mem_cons_of_mem _ (zlk_mem h)
theorem zl_at {G : zG} {la : Array Slot} {nL : Nat} {ls : List (Nat × Value)} {i : Nat} {v : Value} (hl : lv_has la nL (ls.map (fun q => (q.1, zV G q.2)))) (h : zlk ls i = some v) : la[i]? = some (.val (zV G v)) :=
  hl.2.2 (i, zV G v) (List.mem_map.mpr ⟨(i, v), zlk_mem h, rfl⟩)
def zs1 (ls : List (Nat × Value)) (i : Nat) (v : Value) : List (Nat × Value) := (i, v) :: ls.filter (fun q => !(q.1 == i) && !(q.1 + 1 == i && q.2.category == 2))
def zs2 (ls : List (Nat × Value)) (i : Nat) (v : Value) : List (Nat × Value) := (i, v) :: ls.filter (fun q => !(q.1 == i) && (!(q.1 == i + 1) && !(q.1 + 1 == i && q.2.category == 2)))
theorem zs1_map {G : zG} (ls : List (Nat × Value)) (i : Nat) (v : Value) : (i, zV G v) :: (ls.map (fun q => (q.1, zV G q.2))).filter (fun q => !(q.1 == i) && !(q.1 + 1 == i && q.2.category == 2)) = (zs1 ls i v).map (fun q => (q.1, zV G q.2)) := by
  simp only [zs1, List.map_cons, List.filter_map]
  congr 2
  refine List.filter_congr (fun q _ => ?_)
  simp only [Function.comp_apply, zV_cat]
theorem zs2_map {G : zG} (ls : List (Nat × Value)) (i : Nat) (v : Value) : (i, zV G v) :: (ls.map (fun q => (q.1, zV G q.2))).filter (fun q => !(q.1 == i) && (!(q.1 == i + 1) && !(q.1 + 1 == i && q.2.category == 2))) = (zs2 ls i v).map (fun q => (q.1, zV G q.2)) := by
  simp only [zs2, List.map_cons, List.filter_map]
  congr 2
  refine List.filter_congr (fun q _ => ?_)
  simp only [Function.comp_apply, zV_cat]
section R
variable {G : zG} {M : zM} {d : Nat} {Q : zQ} {pc : Nat} {ls : List (Nat × Value)} {st : List Value} {cs : Nat × Nat} {sh : zS} {I : zI} {J : zJ}
theorem V_iconst {n : Int} {v : Int32} (hdg : decode (zcc M) pc = .ok (.iconst n, 1)) (hv : Int32.ofInt n = v)
    (k : V G M d Q (pc + 1) ls (.int v :: st) cs sh I J) : V G M d Q pc ls (st) cs sh I J := by
  intro p e R s m args below meth c H locs la Z C E hR hS hl
  exact lv_iconst C.1 C.2.1 hdg hv (k p e R s m args below meth c H locs la Z C E hR hS hl)
theorem V_bipush {n : Int} {v : Int32} (hdg : decode (zcc M) pc = .ok (.bipush n, 2)) (hv : (Int8.ofInt n).toInt32 = v)
    (k : V G M d Q (pc + 2) ls (.int v :: st) cs sh I J) : V G M d Q pc ls (st) cs sh I J := by
  intro p e R s m args below meth c H locs la Z C E hR hS hl
  exact lv_bipush C.1 C.2.1 hdg hv (k p e R s m args below meth c H locs la Z C E hR hS hl)
theorem V_sipush {n : Int} {v : Int32} (hdg : decode (zcc M) pc = .ok (.sipush n, 3)) (hv : (Int16.ofInt n).toInt32 = v)
    (k : V G M d Q (pc + 3) ls (.int v :: st) cs sh I J) : V G M d Q pc ls (st) cs sh I J := by
  intro p e R s m args below meth c H locs la Z C E hR hS hl
  exact lv_sipush C.1 C.2.1 hdg hv (k p e R s m args below meth c H locs la Z C E hR hS hl)
theorem V_lconst {n : Fin 2} {v : Int64} (hdg : decode (zcc M) pc = .ok (.lconst n, 1)) (hv : Int64.ofNat (n : Nat) = v)
    (k : V G M d Q (pc + 1) ls (.long v :: st) cs sh I J) : V G M d Q pc ls (st) cs sh I J := by
  intro p e R s m args below meth c H locs la Z C E hR hS hl
  exact lv_lconst C.1 C.2.1 hdg hv (k p e R s m args below meth c H locs la Z C E hR hS hl)
theorem V_ldc {i : Nat} {v : Int32} (hdg : decode (zcc M) pc = .ok (.ldc i, 2)) (hv : Cond.constant (zy M).cls i v ∈ zGood)
    (k : V G M d Q (pc + 2) ls (.int v :: st) cs sh I J) : V G M d Q pc ls (st) cs sh I J := by
  intro p e R s m args below meth c H locs la Z C E hR hS hl
  exact lv_ldc C.1 C.2.1 C.2.2.2.1 (C.2.2.2.2.1 _ hv) hdg (k p e R s m args below meth c H locs la Z C E hR hS hl)
theorem V_ldcw {i : Nat} {v : Int32} (hdg : decode (zcc M) pc = .ok (.ldc_w i, 3)) (hv : Cond.constant (zy M).cls i v ∈ zGood)
    (k : V G M d Q (pc + 3) ls (.int v :: st) cs sh I J) : V G M d Q pc ls (st) cs sh I J := by
  intro p e R s m args below meth c H locs la Z C E hR hS hl
  exact lv_ldcw C.1 C.2.1 C.2.2.2.1 (C.2.2.2.2.1 _ hv) hdg (k p e R s m args below meth c H locs la Z C E hR hS hl)
theorem V_ldc2 {i : Nat} {v : Int64} (hdg : decode (zcc M) pc = .ok (.ldc2_w i, 3)) (hv : Cond.constantLong (zy M).cls i v ∈ zGood)
    (k : V G M d Q (pc + 3) ls (.long v :: st) cs sh I J) : V G M d Q pc ls (st) cs sh I J := by
  intro p e R s m args below meth c H locs la Z C E hR hS hl
  exact lv_ldc2 C.1 C.2.1 C.2.2.2.1 (C.2.2.2.2.1 _ hv) hdg (k p e R s m args below meth c H locs la Z C E hR hS hl)
theorem V_iload_n {n : Fin 4} {x : Int32} (hdg : decode (zcc M) pc = .ok (.iload_n n, 1)) (h : zlk ls (n : Nat) = some (.int x))
    (k : V G M d Q (pc + 1) ls (.int x :: st) cs sh I J) : V G M d Q pc ls (st) cs sh I J := by
  intro p e R s m args below meth c H locs la Z C E hR hS hl
  exact lv_iload_n C.1 C.2.1 hdg rfl (zl_at hl h) (k p e R s m args below meth c H locs la Z C E hR hS hl)
theorem V_iload {i : Nat} {x : Int32} (hdg : decode (zcc M) pc = .ok (.iload i, 2)) (h : zlk ls i = some (.int x))
    (k : V G M d Q (pc + 2) ls (.int x :: st) cs sh I J) : V G M d Q pc ls (st) cs sh I J := by
  intro p e R s m args below meth c H locs la Z C E hR hS hl
  exact lv_iload C.1 C.2.1 hdg (zl_at hl h) (k p e R s m args below meth c H locs la Z C E hR hS hl)
theorem V_istore_n {n : Fin 4} {x : Int32} {ls' : List (Nat × Value)} (hdg : decode (zcc M) pc = .ok (.istore_n n, 1)) (hn : (n : Nat) < zml M) (h : zs1 ls (n : Nat) (.int x) = ls')
    (k : V G M d Q (pc + 1) ls' st cs sh I J) : V G M d Q pc ls (.int x :: st) cs sh I J := by
  intro p e R s m args below meth c H locs la Z C E hR hS hl
  subst h
  exact lv_istore_n C.1 C.2.1 hdg rfl hl hn (zs1_map ls (n : Nat) (.int x)) (fun la hl => k p e R s m args below meth c H locs la Z C E hR hS hl)
theorem V_istore {i : Nat} {x : Int32} {ls' : List (Nat × Value)} (hdg : decode (zcc M) pc = .ok (.istore i, 2)) (hn : i < zml M) (h : zs1 ls i (.int x) = ls')
    (k : V G M d Q (pc + 2) ls' st cs sh I J) : V G M d Q pc ls (.int x :: st) cs sh I J := by
  intro p e R s m args below meth c H locs la Z C E hR hS hl
  subst h
  exact lv_istore C.1 C.2.1 hdg hl hn (zs1_map ls i (.int x)) (fun la hl => k p e R s m args below meth c H locs la Z C E hR hS hl)
theorem V_lload_n {n : Fin 4} {x : Int64} (hdg : decode (zcc M) pc = .ok (.lload_n n, 1)) (h : zlk ls (n : Nat) = some (.long x))
    (k : V G M d Q (pc + 1) ls (.long x :: st) cs sh I J) : V G M d Q pc ls (st) cs sh I J := by
  intro p e R s m args below meth c H locs la Z C E hR hS hl
  exact lv_lload_n C.1 C.2.1 hdg rfl (zl_at hl h) (k p e R s m args below meth c H locs la Z C E hR hS hl)
theorem V_lload {i : Nat} {x : Int64} (hdg : decode (zcc M) pc = .ok (.lload i, 2)) (h : zlk ls i = some (.long x))
    (k : V G M d Q (pc + 2) ls (.long x :: st) cs sh I J) : V G M d Q pc ls (st) cs sh I J := by
  intro p e R s m args below meth c H locs la Z C E hR hS hl
  exact lv_lload C.1 C.2.1 hdg (zl_at hl h) (k p e R s m args below meth c H locs la Z C E hR hS hl)
theorem V_lstore_n {n : Fin 4} {x : Int64} {ls' : List (Nat × Value)} (hdg : decode (zcc M) pc = .ok (.lstore_n n, 1)) (hn : (n : Nat) + 1 < zml M) (h : zs2 ls (n : Nat) (.long x) = ls')
    (k : V G M d Q (pc + 1) ls' st cs sh I J) : V G M d Q pc ls (.long x :: st) cs sh I J := by
  intro p e R s m args below meth c H locs la Z C E hR hS hl
  subst h
  exact lv_lstore_n C.1 C.2.1 hdg rfl hl hn (zs2_map ls (n : Nat) (.long x)) (fun la hl => k p e R s m args below meth c H locs la Z C E hR hS hl)
theorem V_lstore {i : Nat} {x : Int64} {ls' : List (Nat × Value)} (hdg : decode (zcc M) pc = .ok (.lstore i, 2)) (hn : i + 1 < zml M) (h : zs2 ls i (.long x) = ls')
    (k : V G M d Q (pc + 2) ls' st cs sh I J) : V G M d Q pc ls (.long x :: st) cs sh I J := by
  intro p e R s m args below meth c H locs la Z C E hR hS hl
  subst h
  exact lv_lstore C.1 C.2.1 hdg hl hn (zs2_map ls i (.long x)) (fun la hl => k p e R s m args below meth c H locs la Z C E hR hS hl)
theorem V_aload_n {n : Fin 4} {x : Nat} (hdg : decode (zcc M) pc = .ok (.aload_n n, 1)) (h : zlk ls (n : Nat) = some (.ref x))
    (k : V G M d Q (pc + 1) ls (.ref x :: st) cs sh I J) : V G M d Q pc ls (st) cs sh I J := by
  intro p e R s m args below meth c H locs la Z C E hR hS hl
  exact lv_aload_n C.1 C.2.1 hdg rfl (zl_at hl h) (k p e R s m args below meth c H locs la Z C E hR hS hl)
theorem V_aload {i : Nat} {x : Nat} (hdg : decode (zcc M) pc = .ok (.aload i, 2)) (h : zlk ls i = some (.ref x))
    (k : V G M d Q (pc + 2) ls (.ref x :: st) cs sh I J) : V G M d Q pc ls (st) cs sh I J := by
  intro p e R s m args below meth c H locs la Z C E hR hS hl
  exact lv_aload C.1 C.2.1 hdg (zl_at hl h) (k p e R s m args below meth c H locs la Z C E hR hS hl)
theorem V_astore_n {n : Fin 4} {x : Nat} {ls' : List (Nat × Value)} (hdg : decode (zcc M) pc = .ok (.astore_n n, 1)) (hn : (n : Nat) < zml M) (h : zs1 ls (n : Nat) (.ref x) = ls')
    (k : V G M d Q (pc + 1) ls' st cs sh I J) : V G M d Q pc ls (.ref x :: st) cs sh I J := by
  intro p e R s m args below meth c H locs la Z C E hR hS hl
  subst h
  exact lv_astore_n C.1 C.2.1 hdg rfl hl hn (zs1_map ls (n : Nat) (.ref x)) (fun la hl => k p e R s m args below meth c H locs la Z C E hR hS hl)
theorem V_astore {i : Nat} {x : Nat} {ls' : List (Nat × Value)} (hdg : decode (zcc M) pc = .ok (.astore i, 2)) (hn : i < zml M) (h : zs1 ls i (.ref x) = ls')
    (k : V G M d Q (pc + 2) ls' st cs sh I J) : V G M d Q pc ls (.ref x :: st) cs sh I J := by
  intro p e R s m args below meth c H locs la Z C E hR hS hl
  subst h
  exact lv_astore C.1 C.2.1 hdg hl hn (zs1_map ls i (.ref x)) (fun la hl => k p e R s m args below meth c H locs la Z C E hR hS hl)
theorem V_iinc {i : Nat} {n : Int} {x v : Int32} {ls' : List (Nat × Value)} (hdg : decode (zcc M) pc = .ok (.iinc i n, 3)) (hx : zlk ls i = some (.int x)) (hv : x + Int32.ofInt n = v) (hn : i < zml M) (h : zs1 ls i (.int v) = ls')
    (k : V G M d Q (pc + 3) ls' st cs sh I J) : V G M d Q pc ls st cs sh I J := by
  intro p e R s m args below meth c H locs la Z C E hR hS hl
  subst h
  obtain ⟨kk, hkk⟩ := List.getElem?_of_mem (List.mem_map.mpr ⟨(i, .int x), zlk_mem hx, rfl⟩ : ((i : Nat), zV G (.int x)) ∈ ls.map (fun q => (q.1, zV G q.2)))
  exact lv_iinc C.1 C.2.1 hdg hl hkk hv hn (zs1_map ls i (.int v)) (fun la hl => k p e R s m args below meth c H locs la Z C E hR hS hl)
theorem V_iadd {x y : Int32} (hdg : decode (zcc M) pc = .ok (.iadd, 1))
    (k : V G M d Q (pc + 1) ls (.int (x + y) :: st) cs sh I J) : V G M d Q pc ls (.int y :: .int x :: st) cs sh I J := by
  intro p e R s m args below meth c H locs la Z C E hR hS hl
  exact lv_iadd C.1 C.2.1 hdg (k p e R s m args below meth c H locs la Z C E hR hS hl)
theorem V_isub {x y : Int32} (hdg : decode (zcc M) pc = .ok (.isub, 1))
    (k : V G M d Q (pc + 1) ls (.int (x - y) :: st) cs sh I J) : V G M d Q pc ls (.int y :: .int x :: st) cs sh I J := by
  intro p e R s m args below meth c H locs la Z C E hR hS hl
  exact lv_isub C.1 C.2.1 hdg (k p e R s m args below meth c H locs la Z C E hR hS hl)
theorem V_imul {x y : Int32} (hdg : decode (zcc M) pc = .ok (.imul, 1))
    (k : V G M d Q (pc + 1) ls (.int (x * y) :: st) cs sh I J) : V G M d Q pc ls (.int y :: .int x :: st) cs sh I J := by
  intro p e R s m args below meth c H locs la Z C E hR hS hl
  exact lv_imul C.1 C.2.1 hdg (k p e R s m args below meth c H locs la Z C E hR hS hl)
theorem V_iand {x y : Int32} (hdg : decode (zcc M) pc = .ok (.iand, 1))
    (k : V G M d Q (pc + 1) ls (.int (x &&& y) :: st) cs sh I J) : V G M d Q pc ls (.int y :: .int x :: st) cs sh I J := by
  intro p e R s m args below meth c H locs la Z C E hR hS hl
  exact lv_iand C.1 C.2.1 hdg (k p e R s m args below meth c H locs la Z C E hR hS hl)
theorem V_ior {x y : Int32} (hdg : decode (zcc M) pc = .ok (.ior, 1))
    (k : V G M d Q (pc + 1) ls (.int (x ||| y) :: st) cs sh I J) : V G M d Q pc ls (.int y :: .int x :: st) cs sh I J := by
  intro p e R s m args below meth c H locs la Z C E hR hS hl
  exact lv_ior C.1 C.2.1 hdg (k p e R s m args below meth c H locs la Z C E hR hS hl)
theorem V_idiv {x y : Int32} (hdg : decode (zcc M) pc = .ok (.idiv, 1)) (hne : ¬ y = 0)
    (k : V G M d Q (pc + 1) ls (.int (x / y) :: st) cs sh I J) : V G M d Q pc ls (.int y :: .int x :: st) cs sh I J := by
  intro p e R s m args below meth c H locs la Z C E hR hS hl
  exact lv_idiv C.1 C.2.1 hdg hne (k p e R s m args below meth c H locs la Z C E hR hS hl)
theorem V_irem {x y : Int32} (hdg : decode (zcc M) pc = .ok (.irem, 1)) (hne : ¬ y = 0)
    (k : V G M d Q (pc + 1) ls (.int (x - x / y * y) :: st) cs sh I J) : V G M d Q pc ls (.int y :: .int x :: st) cs sh I J := by
  intro p e R s m args below meth c H locs la Z C E hR hS hl
  exact lv_irem C.1 C.2.1 hdg hne (k p e R s m args below meth c H locs la Z C E hR hS hl)
theorem V_ishl {x y : Int32} (hdg : decode (zcc M) pc = .ok (.ishl, 1))
    (k : V G M d Q (pc + 1) ls (.int (x <<< (y &&& 31)) :: st) cs sh I J) : V G M d Q pc ls (.int y :: .int x :: st) cs sh I J := by
  intro p e R s m args below meth c H locs la Z C E hR hS hl
  exact lv_ishl C.1 C.2.1 hdg (k p e R s m args below meth c H locs la Z C E hR hS hl)
theorem V_ishr {x y : Int32} (hdg : decode (zcc M) pc = .ok (.ishr, 1))
    (k : V G M d Q (pc + 1) ls (.int (x >>> (y &&& 31)) :: st) cs sh I J) : V G M d Q pc ls (.int y :: .int x :: st) cs sh I J := by
  intro p e R s m args below meth c H locs la Z C E hR hS hl
  exact lv_ishr C.1 C.2.1 hdg (k p e R s m args below meth c H locs la Z C E hR hS hl)
theorem V_ladd {x y : Int64} (hdg : decode (zcc M) pc = .ok (.ladd, 1))
    (k : V G M d Q (pc + 1) ls (.long (x + y) :: st) cs sh I J) : V G M d Q pc ls (.long y :: .long x :: st) cs sh I J := by
  intro p e R s m args below meth c H locs la Z C E hR hS hl
  exact lv_ladd C.1 C.2.1 hdg (k p e R s m args below meth c H locs la Z C E hR hS hl)
theorem V_lsub {x y : Int64} (hdg : decode (zcc M) pc = .ok (.lsub, 1))
    (k : V G M d Q (pc + 1) ls (.long (x - y) :: st) cs sh I J) : V G M d Q pc ls (.long y :: .long x :: st) cs sh I J := by
  intro p e R s m args below meth c H locs la Z C E hR hS hl
  exact lv_lsub C.1 C.2.1 hdg (k p e R s m args below meth c H locs la Z C E hR hS hl)
theorem V_lmul {x y : Int64} (hdg : decode (zcc M) pc = .ok (.lmul, 1))
    (k : V G M d Q (pc + 1) ls (.long (x * y) :: st) cs sh I J) : V G M d Q pc ls (.long y :: .long x :: st) cs sh I J := by
  intro p e R s m args below meth c H locs la Z C E hR hS hl
  exact lv_lmul C.1 C.2.1 hdg (k p e R s m args below meth c H locs la Z C E hR hS hl)
theorem V_land {x y : Int64} (hdg : decode (zcc M) pc = .ok (.land, 1))
    (k : V G M d Q (pc + 1) ls (.long (x &&& y) :: st) cs sh I J) : V G M d Q pc ls (.long y :: .long x :: st) cs sh I J := by
  intro p e R s m args below meth c H locs la Z C E hR hS hl
  exact lv_land C.1 C.2.1 hdg (k p e R s m args below meth c H locs la Z C E hR hS hl)
theorem V_ldiv {x y : Int64} (hdg : decode (zcc M) pc = .ok (.ldiv, 1)) (hne : ¬ y = 0)
    (k : V G M d Q (pc + 1) ls (.long (x / y) :: st) cs sh I J) : V G M d Q pc ls (.long y :: .long x :: st) cs sh I J := by
  intro p e R s m args below meth c H locs la Z C E hR hS hl
  exact lv_ldiv C.1 C.2.1 hdg hne (k p e R s m args below meth c H locs la Z C E hR hS hl)
theorem V_lrem {x y : Int64} (hdg : decode (zcc M) pc = .ok (.lrem, 1)) (hne : ¬ y = 0)
    (k : V G M d Q (pc + 1) ls (.long (x - x / y * y) :: st) cs sh I J) : V G M d Q pc ls (.long y :: .long x :: st) cs sh I J := by
  intro p e R s m args below meth c H locs la Z C E hR hS hl
  exact lv_lrem C.1 C.2.1 hdg hne (k p e R s m args below meth c H locs la Z C E hR hS hl)
theorem V_ineg {x : Int32} (hdg : decode (zcc M) pc = .ok (.ineg, 1))
    (k : V G M d Q (pc + 1) ls (.int (-x) :: st) cs sh I J) : V G M d Q pc ls (.int x :: st) cs sh I J := by
  intro p e R s m args below meth c H locs la Z C E hR hS hl
  exact lv_ineg C.1 C.2.1 hdg (k p e R s m args below meth c H locs la Z C E hR hS hl)
theorem V_lneg {x : Int64} (hdg : decode (zcc M) pc = .ok (.lneg, 1))
    (k : V G M d Q (pc + 1) ls (.long (-x) :: st) cs sh I J) : V G M d Q pc ls (.long x :: st) cs sh I J := by
  intro p e R s m args below meth c H locs la Z C E hR hS hl
  exact lv_lneg C.1 C.2.1 hdg (k p e R s m args below meth c H locs la Z C E hR hS hl)
theorem V_i2l {x : Int32} (hdg : decode (zcc M) pc = .ok (.i2l, 1))
    (k : V G M d Q (pc + 1) ls (.long x.toInt64 :: st) cs sh I J) : V G M d Q pc ls (.int x :: st) cs sh I J := by
  intro p e R s m args below meth c H locs la Z C E hR hS hl
  exact lv_i2l C.1 C.2.1 hdg rfl (k p e R s m args below meth c H locs la Z C E hR hS hl)
theorem V_l2i {x : Int64} (hdg : decode (zcc M) pc = .ok (.l2i, 1))
    (k : V G M d Q (pc + 1) ls (.int x.toInt32 :: st) cs sh I J) : V G M d Q pc ls (.long x :: st) cs sh I J := by
  intro p e R s m args below meth c H locs la Z C E hR hS hl
  exact lv_l2i C.1 C.2.1 hdg rfl (k p e R s m args below meth c H locs la Z C E hR hS hl)
theorem V_i2b {x : Int32} (hdg : decode (zcc M) pc = .ok (.i2b, 1))
    (k : V G M d Q (pc + 1) ls (.int x.toInt8.toInt32 :: st) cs sh I J) : V G M d Q pc ls (.int x :: st) cs sh I J := by
  intro p e R s m args below meth c H locs la Z C E hR hS hl
  exact lv_i2b C.1 C.2.1 hdg rfl (k p e R s m args below meth c H locs la Z C E hR hS hl)
theorem V_lshr {x : Int64} {y : Int32} (hdg : decode (zcc M) pc = .ok (.lshr, 1))
    (k : V G M d Q (pc + 1) ls (.long (x >>> (y.toInt64 &&& 63)) :: st) cs sh I J) : V G M d Q pc ls (.int y :: .long x :: st) cs sh I J := by
  intro p e R s m args below meth c H locs la Z C E hR hS hl
  exact lv_lshr C.1 C.2.1 hdg rfl (k p e R s m args below meth c H locs la Z C E hR hS hl)
theorem V_lcmp {x y : Int64} (hdg : decode (zcc M) pc = .ok (.lcmp, 1))
    (k : V G M d Q (pc + 1) ls (.int (lg_cmp x y) :: st) cs sh I J) : V G M d Q pc ls (.long y :: .long x :: st) cs sh I J := by
  intro p e R s m args below meth c H locs la Z C E hR hS hl
  exact W.lcmp C.1 C.2.1 hdg (k p e R s m args below meth c H locs la Z C E hR hS hl)
theorem V_dup {v : Value} (hdg : decode (zcc M) pc = .ok (.dup, 1)) (hc : v.category = 1)
    (k : V G M d Q (pc + 1) ls (v :: v :: st) cs sh I J) : V G M d Q pc ls (v :: st) cs sh I J := by
  intro p e R s m args below meth c H locs la Z C E hR hS hl
  exact lv_dup C.1 C.2.1 hdg (by rw [zV_cat]; exact hc) (k p e R s m args below meth c H locs la Z C E hR hS hl)
theorem V_dup2 {v w : Value} (hdg : decode (zcc M) pc = .ok (.dup2, 1)) (hc : v.category = 1) (hw : w.category = 1)
    (k : V G M d Q (pc + 1) ls (v :: w :: v :: w :: st) cs sh I J) : V G M d Q pc ls (v :: w :: st) cs sh I J := by
  intro p e R s m args below meth c H locs la Z C E hR hS hl
  exact lv_dup2_11 C.1 C.2.1 hdg (by rw [zV_cat]; exact hc) (by rw [zV_cat]; exact hw) (k p e R s m args below meth c H locs la Z C E hR hS hl)
theorem V_pop2 {v : Value} (hdg : decode (zcc M) pc = .ok (.pop2, 1)) (hc : v.category = 2)
    (k : V G M d Q (pc + 1) ls (st) cs sh I J) : V G M d Q pc ls (v :: st) cs sh I J := by
  intro p e R s m args below meth c H locs la Z C E hR hS hl
  exact lv_pop2_2 C.1 C.2.1 hdg (by rw [zV_cat]; exact hc) (k p e R s m args below meth c H locs la Z C E hR hS hl)
theorem V_goto {off : Int} {tgt : Nat} (hdg : decode (zcc M) pc = .ok (.goto off, 3)) (ht : (pc : Int) + off = (tgt : Int))
    (k : V G M d Q (tgt) ls (st) cs sh I J) : V G M d Q pc ls (st) cs sh I J := by
  intro p e R s m args below meth c H locs la Z C E hR hS hl
  exact lv_goto C.1 C.2.1 hdg ht (k p e R s m args below meth c H locs la Z C E hR hS hl)
theorem V_if_eq {x : Int32} {off : Int} {tgt : Nat} (hdg : decode (zcc M) pc = .ok (.ifCond .eq off, 3)) (ht : (pc : Int) + off = (tgt : Int))
    (k1 : x = 0 → V G M d Q tgt ls st cs sh I J) (k2 : ¬ x = 0 → V G M d Q (pc + 3) ls st cs sh I J) : V G M d Q pc ls (.int x :: st) cs sh I J := by
  intro p e R s m args below meth c H locs la Z C E hR hS hl
  exact lv_if_eq C.1 C.2.1 hdg ht (fun h => k1 h p e R s m args below meth c H locs la Z C E hR hS hl) (fun h => k2 h p e R s m args below meth c H locs la Z C E hR hS hl)
theorem V_icmp_eq {x y : Int32} {off : Int} {tgt : Nat} (hdg : decode (zcc M) pc = .ok (.if_icmp .eq off, 3)) (ht : (pc : Int) + off = (tgt : Int))
    (k1 : x = y → V G M d Q tgt ls st cs sh I J) (k2 : ¬ x = y → V G M d Q (pc + 3) ls st cs sh I J) : V G M d Q pc ls (.int y :: .int x :: st) cs sh I J := by
  intro p e R s m args below meth c H locs la Z C E hR hS hl
  exact lv_icmp_eq C.1 C.2.1 hdg ht (fun h => k1 h p e R s m args below meth c H locs la Z C E hR hS hl) (fun h => k2 h p e R s m args below meth c H locs la Z C E hR hS hl)
theorem V_if_ne {x : Int32} {off : Int} {tgt : Nat} (hdg : decode (zcc M) pc = .ok (.ifCond .ne off, 3)) (ht : (pc : Int) + off = (tgt : Int))
    (k1 : ¬ x = 0 → V G M d Q tgt ls st cs sh I J) (k2 : x = 0 → V G M d Q (pc + 3) ls st cs sh I J) : V G M d Q pc ls (.int x :: st) cs sh I J := by
  intro p e R s m args below meth c H locs la Z C E hR hS hl
  exact lv_if_ne C.1 C.2.1 hdg ht (fun h => k1 h p e R s m args below meth c H locs la Z C E hR hS hl) (fun h => k2 h p e R s m args below meth c H locs la Z C E hR hS hl)
theorem V_icmp_ne {x y : Int32} {off : Int} {tgt : Nat} (hdg : decode (zcc M) pc = .ok (.if_icmp .ne off, 3)) (ht : (pc : Int) + off = (tgt : Int))
    (k1 : ¬ x = y → V G M d Q tgt ls st cs sh I J) (k2 : x = y → V G M d Q (pc + 3) ls st cs sh I J) : V G M d Q pc ls (.int y :: .int x :: st) cs sh I J := by
  intro p e R s m args below meth c H locs la Z C E hR hS hl
  exact lv_icmp_ne C.1 C.2.1 hdg ht (fun h => k1 h p e R s m args below meth c H locs la Z C E hR hS hl) (fun h => k2 h p e R s m args below meth c H locs la Z C E hR hS hl)
theorem V_if_lt {x : Int32} {off : Int} {tgt : Nat} (hdg : decode (zcc M) pc = .ok (.ifCond .lt off, 3)) (ht : (pc : Int) + off = (tgt : Int))
    (k1 : x < 0 → V G M d Q tgt ls st cs sh I J) (k2 : ¬ x < 0 → V G M d Q (pc + 3) ls st cs sh I J) : V G M d Q pc ls (.int x :: st) cs sh I J := by
  intro p e R s m args below meth c H locs la Z C E hR hS hl
  exact lv_if_lt C.1 C.2.1 hdg ht (fun h => k1 h p e R s m args below meth c H locs la Z C E hR hS hl) (fun h => k2 h p e R s m args below meth c H locs la Z C E hR hS hl)
theorem V_icmp_lt {x y : Int32} {off : Int} {tgt : Nat} (hdg : decode (zcc M) pc = .ok (.if_icmp .lt off, 3)) (ht : (pc : Int) + off = (tgt : Int))
    (k1 : x < y → V G M d Q tgt ls st cs sh I J) (k2 : ¬ x < y → V G M d Q (pc + 3) ls st cs sh I J) : V G M d Q pc ls (.int y :: .int x :: st) cs sh I J := by
  intro p e R s m args below meth c H locs la Z C E hR hS hl
  exact lv_icmp_lt C.1 C.2.1 hdg ht (fun h => k1 h p e R s m args below meth c H locs la Z C E hR hS hl) (fun h => k2 h p e R s m args below meth c H locs la Z C E hR hS hl)
theorem V_if_ge {x : Int32} {off : Int} {tgt : Nat} (hdg : decode (zcc M) pc = .ok (.ifCond .ge off, 3)) (ht : (pc : Int) + off = (tgt : Int))
    (k1 : 0 ≤ x → V G M d Q tgt ls st cs sh I J) (k2 : ¬ 0 ≤ x → V G M d Q (pc + 3) ls st cs sh I J) : V G M d Q pc ls (.int x :: st) cs sh I J := by
  intro p e R s m args below meth c H locs la Z C E hR hS hl
  exact lv_if_ge C.1 C.2.1 hdg ht (fun h => k1 h p e R s m args below meth c H locs la Z C E hR hS hl) (fun h => k2 h p e R s m args below meth c H locs la Z C E hR hS hl)
theorem V_icmp_ge {x y : Int32} {off : Int} {tgt : Nat} (hdg : decode (zcc M) pc = .ok (.if_icmp .ge off, 3)) (ht : (pc : Int) + off = (tgt : Int))
    (k1 : y ≤ x → V G M d Q tgt ls st cs sh I J) (k2 : ¬ y ≤ x → V G M d Q (pc + 3) ls st cs sh I J) : V G M d Q pc ls (.int y :: .int x :: st) cs sh I J := by
  intro p e R s m args below meth c H locs la Z C E hR hS hl
  exact lv_icmp_ge C.1 C.2.1 hdg ht (fun h => k1 h p e R s m args below meth c H locs la Z C E hR hS hl) (fun h => k2 h p e R s m args below meth c H locs la Z C E hR hS hl)
theorem V_if_gt {x : Int32} {off : Int} {tgt : Nat} (hdg : decode (zcc M) pc = .ok (.ifCond .gt off, 3)) (ht : (pc : Int) + off = (tgt : Int))
    (k1 : 0 < x → V G M d Q tgt ls st cs sh I J) (k2 : ¬ 0 < x → V G M d Q (pc + 3) ls st cs sh I J) : V G M d Q pc ls (.int x :: st) cs sh I J := by
  intro p e R s m args below meth c H locs la Z C E hR hS hl
  exact lv_if_gt C.1 C.2.1 hdg ht (fun h => k1 h p e R s m args below meth c H locs la Z C E hR hS hl) (fun h => k2 h p e R s m args below meth c H locs la Z C E hR hS hl)
theorem V_icmp_gt {x y : Int32} {off : Int} {tgt : Nat} (hdg : decode (zcc M) pc = .ok (.if_icmp .gt off, 3)) (ht : (pc : Int) + off = (tgt : Int))
    (k1 : y < x → V G M d Q tgt ls st cs sh I J) (k2 : ¬ y < x → V G M d Q (pc + 3) ls st cs sh I J) : V G M d Q pc ls (.int y :: .int x :: st) cs sh I J := by
  intro p e R s m args below meth c H locs la Z C E hR hS hl
  exact lv_icmp_gt C.1 C.2.1 hdg ht (fun h => k1 h p e R s m args below meth c H locs la Z C E hR hS hl) (fun h => k2 h p e R s m args below meth c H locs la Z C E hR hS hl)
theorem V_if_le {x : Int32} {off : Int} {tgt : Nat} (hdg : decode (zcc M) pc = .ok (.ifCond .le off, 3)) (ht : (pc : Int) + off = (tgt : Int))
    (k1 : x ≤ 0 → V G M d Q tgt ls st cs sh I J) (k2 : ¬ x ≤ 0 → V G M d Q (pc + 3) ls st cs sh I J) : V G M d Q pc ls (.int x :: st) cs sh I J := by
  intro p e R s m args below meth c H locs la Z C E hR hS hl
  exact lv_if_le C.1 C.2.1 hdg ht (fun h => k1 h p e R s m args below meth c H locs la Z C E hR hS hl) (fun h => k2 h p e R s m args below meth c H locs la Z C E hR hS hl)
theorem V_icmp_le {x y : Int32} {off : Int} {tgt : Nat} (hdg : decode (zcc M) pc = .ok (.if_icmp .le off, 3)) (ht : (pc : Int) + off = (tgt : Int))
    (k1 : x ≤ y → V G M d Q tgt ls st cs sh I J) (k2 : ¬ x ≤ y → V G M d Q (pc + 3) ls st cs sh I J) : V G M d Q pc ls (.int y :: .int x :: st) cs sh I J := by
  intro p e R s m args below meth c H locs la Z C E hR hS hl
  exact lv_icmp_le C.1 C.2.1 hdg ht (fun h => k1 h p e R s m args below meth c H locs la Z C E hR hS hl) (fun h => k2 h p e R s m args below meth c H locs la Z C E hR hS hl)
theorem V_tsOut {dflt lo hi : Int} {offs : Array Int} {len : Nat} {x : Int32} {tgt : Nat} (hdg : decode (zcc M) pc = .ok (.tableswitch dflt lo hi offs, len)) (h : x.toInt < lo ∨ hi < x.toInt) (ht : (pc : Int) + dflt = (tgt : Int))
    (k : V G M d Q tgt ls st cs sh I J) : V G M d Q pc ls (.int x :: st) cs sh I J := by
  intro p e R s m args below meth c H locs la Z C E hR hS hl
  exact lv_tableOut C.1 C.2.1 hdg h ht (k p e R s m args below meth c H locs la Z C E hR hS hl)
theorem V_tsIn {dflt lo hi : Int} {offs : Array Int} {len : Nat} {x : Int32} {off : Int} {tgt : Nat} (hdg : decode (zcc M) pc = .ok (.tableswitch dflt lo hi offs, len)) (h1 : ¬ x.toInt < lo) (h2 : ¬ hi < x.toInt) (ho : offs[(x.toInt - lo).toNat]? = some off) (ht : (pc : Int) + off = (tgt : Int))
    (k : V G M d Q tgt ls st cs sh I J) : V G M d Q pc ls (.int x :: st) cs sh I J := by
  intro p e R s m args below meth c H locs la Z C E hR hS hl
  exact lv_tableIn C.1 C.2.1 hdg h1 h2 ho ht (k p e R s m args below meth c H locs la Z C E hR hS hl)
theorem V_ls {dflt : Int} {ps : Array (Int × Int)} {len : Nat} {x : Int32} {off : Int} {tgt : Nat} (hdg : decode (zcc M) pc = .ok (.lookupswitch dflt ps, len)) (hp : (ps.toList.zip (ps.toList.drop 1)).all (fun (a, next) => a.1 < next.1) = true) (ho : Op.lookupswitch.offset ps.toList dflt x.toInt = off) (ht : (pc : Int) + off = (tgt : Int))
    (k : V G M d Q tgt ls st cs sh I J) : V G M d Q pc ls (.int x :: st) cs sh I J := by
  intro p e R s m args below meth c H locs la Z C E hR hS hl
  exact lv_lookup C.1 C.2.1 hdg hp ho ht (k p e R s m args below meth c H locs la Z C E hR hS hl)
theorem V_iret {x : Int32} (hr : zRet M pc (some (.int x))) (hc : cs.1 ≤ zmc M ∧ cs.2 ≤ zms M) (hq : Q (some (.int x)) sh I J) : V G M d Q pc ls [.int x] cs sh I J := by
  intro p e R s m args below meth c H locs la Z C E hR hS hl
  exact E (some (.int x)) sh I J H locs la pc cs.1 cs.2 hq hR hS hc.1 hc.2 hr
theorem V_lret {x : Int64} (hr : zRet M pc (some (.long x))) (hc : cs.1 ≤ zmc M ∧ cs.2 ≤ zms M) (hq : Q (some (.long x)) sh I J) : V G M d Q pc ls [.long x] cs sh I J := by
  intro p e R s m args below meth c H locs la Z C E hR hS hl
  exact E (some (.long x)) sh I J H locs la pc cs.1 cs.2 hq hR hS hc.1 hc.2 hr
theorem V_aret {x : Nat} (hr : zRet M pc (some (.ref x))) (hc : cs.1 ≤ zmc M ∧ cs.2 ≤ zms M) (hq : Q (some (.ref x)) sh I J) : V G M d Q pc ls [.ref x] cs sh I J := by
  intro p e R s m args below meth c H locs la Z C E hR hS hl
  exact E (some (.ref x)) sh I J H locs la pc cs.1 cs.2 hq hR hS hc.1 hc.2 hr
theorem V_ret (hr : zRet M pc none) (hc : cs.1 ≤ zmc M ∧ cs.2 ≤ zms M) (hq : Q none sh I J) : V G M d Q pc ls [] cs sh I J := by
  intro p e R s m args below meth c H locs la Z C E hR hS hl
  exact E none sh I J H locs la pc cs.1 cs.2 hq hR hS hc.1 hc.2 hr
theorem V_nmI {x : Int32} (k : ∀ z : Int32, z = x → V G M d Q pc ls (.int z :: st) cs sh I J) : V G M d Q pc ls (.int x :: st) cs sh I J := k x rfl
theorem V_nmL {x : Int64} (k : ∀ z : Int64, z = x → V G M d Q pc ls (.long z :: st) cs sh I J) : V G M d Q pc ls (.long x :: st) cs sh I J := k x rfl
theorem V_eqI {x y : Int32} (h : x = y) (k : V G M d Q pc ls (.int y :: st) cs sh I J) : V G M d Q pc ls (.int x :: st) cs sh I J := h ▸ k
theorem V_eqL {x y : Int64} (h : x = y) (k : V G M d Q pc ls (.long y :: st) cs sh I J) : V G M d Q pc ls (.long x :: st) cs sh I J := h ▸ k
theorem V_ii {I' : zI} (h : I = I') (k : V G M d Q pc ls st cs sh I' J) : V G M d Q pc ls st cs sh I J := h ▸ k
theorem V_sub {ls' : List (Nat × Value)} (h : ls'.all (fun q => decide (zlk ls q.1 = some q.2)) = true) (k : V G M d Q pc ls' st cs sh I J) : V G M d Q pc ls st cs sh I J := by
  intro p e R s m args below meth c H locs la Z C E hR hS hl
  refine k p e R s m args below meth c H locs la Z C E hR hS ⟨hl.1, hl.2.1, fun q hq => ?_⟩
  obtain ⟨w, hw, rfl⟩ := List.mem_map.mp hq
  have h1 := of_decide_eq_true (List.all_eq_true.mp h w hw)
  exact hl.2.2 _ (List.mem_map.mpr ⟨(w.1, w.2), zlk_mem h1, rfl⟩)
theorem V_sub2 {ls' : List (Nat × Value)} (h : ∀ q ∈ ls', zlk ls q.1 = some q.2) (k : V G M d Q pc ls' st cs sh I J) : V G M d Q pc ls st cs sh I J := by
  intro p e R s m args below meth c H locs la Z C E hR hS hl
  refine k p e R s m args below meth c H locs la Z C E hR hS ⟨hl.1, hl.2.1, fun q hq => ?_⟩
  obtain ⟨w, hw, rfl⟩ := List.mem_map.mp hq
  exact hl.2.2 _ (List.mem_map.mpr ⟨(w.1, w.2), zlk_mem (h w hw), rfl⟩)
end R
