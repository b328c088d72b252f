theorem zoi1 : Cond.instanceMethod Lib.objectInit ∈ zGood := zg_of (List.mem_of_getElem? (i := 23) (by decide +kernel)) (by decide +kernel)
theorem zoi2 : Cond.code Lib.objectInit ⟨#[0xb1]⟩ 1 none ∈ zGood := zg_of (List.mem_of_getElem? (i := 24) (by decide +kernel)) (by decide +kernel)
theorem zmx_s : Cond.static Lib.Math.max.name ∈ zGood := zg_of (List.mem_of_getElem? (i := 408) (by decide +kernel)) (by decide +kernel)
theorem zmx_c : Cond.code Lib.Math.max.name Lib.Math.max.code 2 (some .int) ∈ zGood := zg_of (List.mem_of_getElem? (i := 409) (by decide +kernel)) (by decide +kernel)
theorem zmx_i : Cond.initialized "java/lang/Math" ∈ zGood := zg_of (List.mem_of_getElem? (i := 15) (by decide +kernel)) (by decide +kernel)
theorem zmn_s : Cond.static Lib.Math.min.name ∈ zGood := zg_of (List.mem_of_getElem? (i := 405) (by decide +kernel)) (by decide +kernel)
theorem zmn_c : Cond.code Lib.Math.min.name Lib.Math.min.code 2 (some .int) ∈ zGood := zg_of (List.mem_of_getElem? (i := 406) (by decide +kernel)) (by decide +kernel)
theorem zmn_i : Cond.initialized "java/lang/Math" ∈ zGood := zg_of (List.mem_of_getElem? (i := 15) (by decide +kernel)) (by decide +kernel)
theorem zlx_s : Cond.static Lib.MathLoose.max_long.x ∈ zGood := zg_of (List.mem_of_getElem? (i := 753) (by decide +kernel)) (by decide +kernel)
theorem zlx_c : Cond.code Lib.MathLoose.max_long.x Lib.MathLoose.max_long.code 4 (some .long) ∈ zGood := zg_of (List.mem_of_getElem? (i := 754) (by decide +kernel)) (by decide +kernel)
theorem zlx_i : Cond.initialized "java/lang/Math" ∈ zGood := zg_of (List.mem_of_getElem? (i := 15) (by decide +kernel)) (by decide +kernel)
theorem zln_s : Cond.static Lib.MathLoose.min_long.x ∈ zGood := zg_of (List.mem_of_getElem? (i := 750) (by decide +kernel)) (by decide +kernel)
theorem zln_c : Cond.code Lib.MathLoose.min_long.x Lib.MathLoose.min_long.code 4 (some .long) ∈ zGood := zg_of (List.mem_of_getElem? (i := 751) (by decide +kernel)) (by decide +kernel)
theorem zln_i : Cond.initialized "java/lang/Math" ∈ zGood := zg_of (List.mem_of_getElem? (i := 15) (by decide +kernel)) (by decide +kernel)
theorem zac_n : Cond.native arraycopyName ∈ zGood := zg_of (List.mem_of_getElem? (i := 412) (by decide +kernel)) (by decide +kernel)
theorem zac_s : Cond.static arraycopyName ∈ zGood := zg_of (List.mem_of_getElem? (i := 411) (by decide +kernel)) (by decide +kernel)
theorem zac_i : Cond.initialized "java/lang/System" ∈ zGood := zg_of (List.mem_of_getElem? (i := 16) (by decide +kernel)) (by decide +kernel)
theorem zar0 : Cond.arrayClass (newarray.typeOf .byte) ∈ zGood := zg_of (List.mem_of_getElem? (i := 40) (by decide +kernel)) (by decide +kernel)
theorem zar1 : Cond.arrayClass (newarray.typeOf .int) ∈ zGood := zg_of (List.mem_of_getElem? (i := 68) (by decide +kernel)) (by decide +kernel)
theorem zar2 : Cond.arrayClass (newarray.typeOf .long) ∈ zGood := zg_of (List.mem_of_getElem? (i := 190) (by decide +kernel)) (by decide +kernel)
section ZQ
variable {p : Program} {l : Launch} {e : Env} {R : Room} {s : State} {m : MethodId} {args : Array Value} {below : List Frame} {meth : Method} {c : Code} {H : Heap} {locs : List Loc} {cells slots : Nat} {Q : State → Prop}
variable {pc : Nat} {ls : Array Slot} {rest : List Value} {D : va_G} {cl : List vw_C} {A : Nat → Prop} {a : Nat} {tys : List (ClassId × FieldType)} {ws : va_W} {H0 : Heap}
theorem zcopy {cc : ByteArray} (hexec : p.tables.exec = Jvm.exec) (hb : c.code = cc) (hml : c.maxLocals = ls.size) {own : String} {index : Nat} (hown : s.vm.findClass own = some m.cls) (hlink : (Cond.methodLink own index arraycopyName).before args s = true) (hnat : (Cond.native arraycopyName).before args s = true) (hstat : (Cond.static arraycopyName).before args s = true) (hini : (Cond.initialized "java/lang/System").before args s = true)
    (hK : va_K D cl tys s) (hP : va_P D cl ws H) (hD : va_D A ws) (hS : va_S A H0 H locs) (q0 q1 t0 t1 : Nat) {a0 : Nat} {c0 c1 : ClassId} {n0 n1 : Nat} {f g : Nat → Int32} {ty : FieldType} (ha0 : ws[q0]? = some (a0, .inl (c0, n0, .inl f))) (ha1 : ws[q1]? = some (a, .inl (c1, n1, .inl g))) (ht0 : tys[t0]? = some (c0, ty)) (ht1 : tys[t1]? = some (c1, ty)) (hprim : refKind ty = false)
    {sp dp n : Int32} (h1 : ¬ sp < 0) (h2 : ¬ dp < 0) (h3 : ¬ n < 0) (h4 : sp.toNatClampNeg + n.toNatClampNeg ≤ n0) (h5 : dp.toNatClampNeg + n.toNatClampNeg ≤ n1) (hfit : ∀ i, i < n.toNatClampNeg → fits ty (.int (f (sp.toNatClampNeg + i))) = true)
    (hframes : 1 ≤ R.frames) (hlocals : (rest.map fun v => v.category).sum + (nativeFrameWords "java/lang/System" "arraycopy" 5 + 11) ≤ R.locals) (hdg : decode cc pc = .ok (.invokestatic index, 3))
    (kk : ∀ (H1 : Heap) (locs1 : List Loc), H1.size = H.size → va_P D cl (ws.set q1 (a, .inl (c1, n1, .inl (va_cpy f g sp.toNatClampNeg dp.toNatClampNeg n.toNatClampNeg)))) H1 → va_S A H0 H1 locs1 → W p l e R s m args below meth c H1 locs1 cells slots Q (F0 m (pc + 3) ls rest)) : W p l e R s m args below meth c H locs cells slots Q (F0 m pc ls (.int n :: .int dp :: .ref a :: .int sp :: .ref a0 :: rest)) := by
  have nn : ∀ z : Int32, ¬ z < 0 → z.toInt = (z.toNatClampNeg : Int) := by
    intro z hz
    have hz0 : (0 : Int) ≤ z.toInt := by
      have := Int32.not_lt.mp hz
      simpa using Int32.le_iff_toInt_le.mp this
    show z.toInt = ((z.toInt.toNat : Nat) : Int)
    omega
  intro T hT X
  have hc0 : H[a0]? = some (vp_cell c0 (n0, .inl f)) := hP q0 _ ha0
  have hc1 : H[a]? = some (vp_cell c1 (n1, .inl g)) := hP q1 _ ha1
  obtain ⟨-, k0, hk0, cm0, hkk0⟩ := (hK.2 t0 _ ht0).1 n0 (fun j => .int (f j))
  obtain ⟨-, k1, hk1, cm1, hkk1⟩ := (hK.2 t1 _ ht1).1 n1 (fun j => .int (g j))
  obtain ⟨vm', X', step⟩ := X.arraycopy hexec hown hlink hnat hstat hini (src := a0) (dst := a) (cs := vp_cell c0 (n0, .inl f)) (cd := vp_cell c1 (n1, .inl g)) (srcPos := sp) (destPos := dp) (n := n) (by rw [hT]; exact hc0) (by rw [hT]; exact hc1)
    (fun _ h => by cases h) (fun _ h => by cases h) (fun h => by cases h) (fun h => by cases h) hk0 hk1 hkk0 hkk1 (by simp [hprim]) h1 h2 h3
    (by rw [nn sp h1, nn n h3]; show ¬ _ > ((arrV c0 n0 (fun j => .int (f j))).slots.size : Int); rw [arrV_size]; omega)
    (by rw [nn dp h2, nn n h3]; show ¬ _ > ((arrV c1 n1 (fun j => .int (g j))).slots.size : Int); rw [arrV_size]; omega)
    (fun vm₁ _ i hi => by
      have e : (vp_cell c0 (n0, .inl f)).slots.getD (sp.toNatClampNeg + i) .null = .int (f (sp.toNatClampNeg + i)) := by
        show (arrV c0 n0 (fun j => .int (f j))).slots.getD _ _ = _
        rw [Array.getD_eq_getD_getElem?, arrV_read _ _ (by omega)]
        rfl
      refine ⟨?_, ?_⟩
      · rw [e]
        exact hfit i hi
      · rw [e]
        exact trivial)
    (g := F0 m pc ls (.int n :: .int dp :: .ref a :: .int sp :: .ref a0 :: rest)) rfl (by rw [hml]) (rest := rest) rfl (by rw [hb]; exact hdg) hframes (by show 2 * 0 + _ + _ ≤ _; omega)
  have e1 : copied (vp_cell c0 (n0, .inl f)) (vp_cell c1 (n1, .inl g)) sp dp n = vp_cell c1 (n1, .inl (va_cpy f g sp.toNatClampNeg dp.toNatClampNeg n.toNatClampNeg)) := va_copied (fun z => .int z) c0 c1 f g h4
  rw [e1] at X' step
  have hl : a < H.size := (Array.getElem?_eq_some_iff.mp hc1).1
  have hheap : ((T.setVm vm').setCell a (vp_cell c1 (n1, .inl (va_cpy f g sp.toNatClampNeg dp.toNatClampNeg n.toNatClampNeg)))).heap = H.setIfInBounds a (vp_cell c1 (n1, .inl (va_cpy f g sp.toNatClampNeg dp.toNatClampNeg n.toNatClampNeg))) := by rw [← hT]; rfl
  have oq : ∀ q : Nat, q ≠ a → (H.setIfInBounds a (vp_cell c1 (n1, .inl (va_cpy f g sp.toNatClampNeg dp.toNatClampNeg n.toNatClampNeg))))[q]? = H[q]? := fun q hq => by simp [Array.getElem?_setIfInBounds, Ne.symm hq]
  obtain ⟨t, a1, b1⟩ := kk _ _ (by simp) (hP.set hD ha1 (show (H.setIfInBounds a _)[a]? = some _ by simp [Array.getElem?_setIfInBounds, hl]) oq) ⟨by simp; exact hS.1, fun q g1 g2 => by
      rw [oq q (fun e => g2 (by rw [e]; exact hD.2 q1 _ ha1))]
      exact hS.2.1 q g1 g2, fun q hq => by
      rcases List.mem_append.mp hq with h | h
      · exact hS.2.2 q h
      · obtain ⟨z, -, hz⟩ := List.mem_map.mp h
        rw [← hz]
        exact hD.2 q1 _ ha1⟩ _ hheap X'
  exact ⟨t, step t a1, b1⟩
theorem zastq {cc : ByteArray} (hexec : p.tables.exec = Jvm.exec) (hb : c.code = cc) (hK : va_K D cl tys s) (hP : va_P D cl ws H) (hD : va_D A ws) (hS : va_S A H0 H locs) (q0 t0 qk ci : Nat) {cA : ClassId} {r : vw_C} {n v : Nat} {vs : List Value} {f : Nat → Option Nat} (ha : ws[q0]? = some (a, .inl (cA, n, .inr (.inr (.inr (.inr f)))))) (ht : tys[t0]? = some (cA, .object r.1)) (hv : ws[qk]? = some (v, .inr (ci, vs))) (hc : cl[ci]? = some r) {i : Int32} (hin : vp_in i n) (hdg : decode cc pc = .ok (.aastore, 1))
    (kk : ∀ (H1 : Heap) (locs1 : List Loc), H1.size = H.size → va_P D cl (ws.set q0 (a, .inl (cA, n, .inr (.inr (.inr (.inr (va_up f i.toNatClampNeg (some v)))))))) H1 → va_S A H0 H1 locs1 → W p l e R s m args below meth c H1 locs1 cells slots Q (F0 m (pc + 1) ls rest)) : W p l e R s m args below meth c H locs cells slots Q (F0 m pc ls (.ref v :: .int i :: .ref a :: rest)) := by
  have hlt : i.toNatClampNeg < n := Nat.not_le.mp fun q => hin (Or.inr q)
  have h0 : ¬ i < 0 := fun q => hin (Or.inl q)
  obtain ⟨r', hr', cellV, g1, g2, g3, -⟩ := hP qk _ hv
  have hcls := (hK.1 ci r hc).2
  obtain ⟨kA, comp, k1, k2, k3, -⟩ := (hK.2 t0 _ ht).2
  have hcomp : comp = D.1 ci := Option.some.inj (k3.symm.trans hcls.1)
  subst hcomp
  obtain ⟨kC, hkC, -⟩ := hcls.2
  refine W.aast hexec hb (hP q0 _ ha) (fun q h => by cases h) (fun h => by cases h) k1 k2 rfl hkC ⟨h0, by show _ < (arrV _ _ _).slots.size; rw [arrV_size]; exact hlt⟩ g1 (fun q h => by rw [g3] at h; cases h) (by rw [g2]; exact hkC) (by rw [g2]; exact va_assign hcls) rfl rfl hdg fun H1 e z oq => ?_
  refine kk H1 _ z (hP.set hD ha ?_ oq) (hS.put z oq (hD.2 q0 _ ha))
  show H1[a]? = some (vp_cell _ _)
  rw [e]
  rw [vp_cell_q, vp_cell_q, arrV_store]
  congr 2
  funext q
  by_cases hq : q = i.toNatClampNeg
  · subst hq
    simp [updV, va_up, va_rf]
  · simp [updV, va_up, hq]
end ZQ
/-! THE SMALL MACHINE, 5: calls, the JDK's own, what is made -/
/-- what the tables say of a method of ours with n arguments (kind 0 static, 1 on an object, 2 a constructor) -/
def zMok (M : zM) (n k : Nat) : Prop := Cond.code (zy M) (zcc M) (zml M) (zrt M) ∈ zGood ∧ Cond.initialized (zy M).cls ∈ zGood ∧ ((zy M).cls ≠ "java/lang/invoke/MethodHandle" ∧ (zy M).cls ≠ "java/lang/invoke/VarHandle" ∧ (parseMethodDescriptor (zy M).desc).map (fun d => d.parameters.length) = some n) ∧ zml M ≤ 45 ∧ plainName (zy M).cls = true ∧
  (match k with | 0 => Cond.static (zy M) ∈ zGood | 1 => Cond.instanceMethod (zy M) ∈ zGood ∧ Cond.selects (zy M).cls (zy M) (zy M) ∈ zGood | _ => Cond.instanceMethod (zy M) ∈ zGood ∧ (zy M).name = "<init>")
def zLk (own : String) (idx : Nat) (y : MethodName) : Prop := Cond.methodLink own idx y ∈ zGood ∨ ∃ host, Cond.methodLinkNest own idx y host ∈ zNst
theorem zws_good {M : zM} (h : Cond.code (zy M) (zcc M) (zml M) (zrt M) ∈ zGood) : GoodIn zGood (zws M) := fun w hw => by
  rcases List.mem_cons.mp hw with e | h1
  · subst e; exact ⟨h, good_of_word (List.mem_filter.mp h).2⟩
  · exact ⟨h1, good_of_word (List.mem_filter.mp h1).2⟩
theorem zst_app {G : zG} (As st : List Value) : (As.reverse ++ st).map (zV G) = (As.map (zV G)).reverse ++ st.map (zV G) := by
  rw [List.map_append, List.map_reverse]
theorem zst_r {G : zG} (r : Option Value) (st : List Value) : (r.toList ++ st).map (zV G) = (r.map (zV G)).toList ++ st.map (zV G) := by
  cases r <;> rfl
section R
variable {G : zG} {M : zM} {d : Nat} {Q : zQ} {pc : Nat} {ls : List (Nat × Value)} {st : List Value} {cs : Nat × Nat} {sh : zS} {I : zI} {J : zJ}
theorem V_callS {M' : zM} {d' n idx : Nat} {As st0 : List Value} {Q' : zQ} (hdg : decode (zcc M) pc = .ok (.invokestatic idx, 3)) (hok : zMok M' n 0) (hlk : zLk (zy M).cls idx (zy M')) (hd : d' + 1 ≤ d) (hn : As.length = n) (hst : st0 = As.reverse ++ st) (hcat : (st.map fun v => v.category).sum ≤ 8) (hrm : cs.1 + zmc M' ≤ zmc M ∧ cs.2 + zms M' ≤ zms M) (hK : zK G M' d' As sh I J Q')
    (kk : ∀ (r : Option Value) (sh' : zS) (I' : zI) (J' : zJ), Q' r sh' I' J' → V G M d Q (pc + 3) ls (r.toList ++ st) (cs.1 + zmc M', cs.2 + zms M') sh' I' J') : V G M d Q pc ls st0 cs sh I J := by
  subst hst
  intro p e R s m args below meth c H locs la Z C E hR hS hl
  obtain ⟨hx, hb, hml, hown, hts, hgl, hin, hrc, hrs, hd1, hd2⟩ := id C
  obtain ⟨hcode, hini, hdesc, hm45, -, hkind⟩ := hok
  have hroom : (zroom M' d').frames + 1 ≤ R.frames ∧ 8 + (zml M' + 11) + (zroom M' d').locals ≤ R.locals := ⟨by show d' + 1 ≤ _; omega, by show 8 + (zml M' + 11) + 64 * d' ≤ _; omega⟩
  have hp : PreS s H (zPc G As sh I J) (As.map (zV G)) := ⟨zPc_blind, fun U hU hW => ⟨rfl, by rw [hU]; exact hR, zGl_call hgl hW hS hU⟩⟩
  have hrun : va_Run p (zl G) e R s m args below meth c H locs cs.1 cs.2 (zmc M') (zms M') (F0 m pc la ((As.reverse ++ st).map (zV G))) (st.map (zV G)) (zQc G Q' (As.map (zV G)).toArray) (zFr G) := by
    rcases hlk with h | ⟨host, h⟩
    · exact va_runS ⟨hx, hb, hml, hown, hts⟩ hK ⟨callB_of n hts (zws_good hcode) rfl rfl rfl (hts _ hini) (hts _ h) hdesc hroom, hts _ hkind⟩ hp rfl (by simp [hn]) hl.1 (zst_app As st) (lv_room (by rw [zcats]; exact hcat)) hdg (by rw [hrc, hrs]; exact hrm)
    · exact va_runSN ⟨hx, hb, hml, hown, hts⟩ hK ⟨va_cnB n hts (zws_good hcode) rfl rfl rfl (hgl.2.1.1 _ h) (hts _ hini) hdesc hroom, hts _ hkind, trivial⟩ hp rfl (by simp [hn]) hl.1 (zst_app As st) (lv_room (by rw [zcats]; exact hcat)) hdg (by rw [hrc, hrs]; exact hrm)
  refine z_goes hrun hS (fun r sh' I' J' H1 locs1 hq hr1 hs1 => ?_)
  rw [← zst_r]
  exact kk r sh' I' J' hq p e R s m args below meth c H1 locs1 la Z C E hr1 hs1 hl
theorem V_callV {M' : zM} {d' n idx a cc n0 : Nat} {As st0 : List Value} {Q' : zQ} (hdg : decode (zcc M) pc = .ok (.invokevirtual idx, 3)) (hok : zMok M' n 1) (hlk : zLk (zy M).cls idx (zy M')) (hd : d' + 1 ≤ d) (hn : As.length = n) (hst : st0 = As.reverse ++ .ref a :: st) (hcat : (st.map fun v => v.category).sum ≤ 8) (hrm : cs.1 + zmc M' ≤ zmc M ∧ cs.2 + zms M' ≤ zms M) (ha : zin sh a) (hk : sh.2.1 a = (cc + 4, n0)) (hcls : zC cc = (zy M').cls ∧ cc < 13) (hK : zK G M' d' (.ref a :: As) sh I J Q')
    (kk : ∀ (r : Option Value) (sh' : zS) (I' : zI) (J' : zJ), Q' r sh' I' J' → V G M d Q (pc + 3) ls (r.toList ++ st) (cs.1 + zmc M', cs.2 + zms M') sh' I' J') : V G M d Q pc ls st0 cs sh I J := by
  subst hst
  intro p e R s m args below meth c H locs la Z C E hR hS hl
  obtain ⟨hx, hb, hml, hown, hts, hgl, hin, hrc, hrs, hd1, hd2⟩ := id C
  obtain ⟨hcode, hini, hdesc, hm45, -, hkind⟩ := hok
  have hroom : (zroom M' d').frames + 1 ≤ R.frames ∧ 8 + (zml M' + 11) + (zroom M' d').locals ≤ R.locals := ⟨by show d' + 1 ≤ _; omega, by show 8 + (zml M' + 11) + 64 * d' ≤ _; omega⟩
  have he := zw_a (G := G) (sh := sh) (I := I) (J := J) ha.1 ha.2
  rw [zE_4 hk] at he
  obtain ⟨cellB, g1, g2, g3⟩ := va_recv hgl.1 hR.2 (zcl_at hcls.2) he
  have hp : PreV s H (zy M').cls (zA G a) (zPc G (.ref a :: As) sh I J) (As.map (zV G)) := ⟨zPc_blind, ⟨cellB, g1, g2, by rw [← hcls.1]; exact g3⟩, fun U hU hW => ⟨rfl, by rw [hU]; exact hR, zGl_call hgl hW hS hU⟩⟩
  have hrun : va_Run p (zl G) e R s m args below meth c H locs cs.1 cs.2 (zmc M') (zms M') (F0 m pc la ((As.reverse ++ .ref a :: st).map (zV G))) (st.map (zV G)) (zQc G Q' ((.ref a :: As).map (zV G)).toArray) (zFr G) := by
    rcases hlk with h | ⟨host, h⟩
    · exact va_runV ⟨hx, hb, hml, hown, hts⟩ hK ⟨callB_of n hts (zws_good hcode) rfl rfl rfl (hts _ hini) (hts _ h) hdesc hroom, hts _ hkind.1, hts _ hkind.2⟩ hp rfl (by simp [hn]) hl.1 (zst_app As (.ref a :: st)) (lv_room (by rw [zcats]; exact hcat)) hdg (by rw [hrc, hrs]; exact hrm)
    · exact va_runVN ⟨hx, hb, hml, hown, hts⟩ hK ⟨va_cnB n hts (zws_good hcode) rfl rfl rfl (hgl.2.1.1 _ h) (hts _ hini) hdesc hroom, hts _ hkind.1, hts _ hkind.2⟩ hp rfl (by simp [hn]) hl.1 (zst_app As (.ref a :: st)) (lv_room (by rw [zcats]; exact hcat)) hdg (by rw [hrc, hrs]; exact hrm)
  refine z_goes hrun hS (fun r sh' I' J' H1 locs1 hq hr1 hs1 => ?_)
  rw [← zst_r]
  exact kk r sh' I' J' hq p e R s m args below meth c H1 locs1 la Z C E hr1 hs1 hl
theorem V_callI {M' : zM} {d' n idx a : Nat} {As st0 : List Value} {Q' : zQ} (hdg : decode (zcc M) pc = .ok (.invokespecial idx, 3)) (hrt : zrt M' = none) (hok : zMok M' n 2) (hlk : zLk (zy M).cls idx (zy M')) (hd : d' + 1 ≤ d) (hn : As.length = n) (hst : st0 = As.reverse ++ .ref a :: st) (hcat : (st.map fun v => v.category).sum ≤ 8) (hrm : cs.1 + zmc M' ≤ zmc M ∧ cs.2 + zms M' ≤ zms M) (hK : zK G M' d' (.ref a :: As) sh I J Q')
    (kk : ∀ (r : Option Value) (sh' : zS) (I' : zI) (J' : zJ), Q' r sh' I' J' → V G M d Q (pc + 3) ls (r.toList ++ st) (cs.1 + zmc M', cs.2 + zms M') sh' I' J') : V G M d Q pc ls st0 cs sh I J := by
  subst hst
  intro p e R s m args below meth c H locs la Z C E hR hS hl
  obtain ⟨hx, hb, hml, hown, hts, hgl, hin, hrc, hrs, hd1, hd2⟩ := id C
  obtain ⟨hcode, hini, hdesc, hm45, -, hkind⟩ := hok
  have hroom : (zroom M' d').frames + 1 ≤ R.frames ∧ 8 + (zml M' + 11) + (zroom M' d').locals ≤ R.locals := ⟨by show d' + 1 ≤ _; omega, by show 8 + (zml M' + 11) + 64 * d' ≤ _; omega⟩
  have hp : PreS s H (zPc G (.ref a :: As) sh I J) (.ref (zA G a) :: As.map (zV G)) := ⟨zPc_blind, fun U hU hW => ⟨rfl, by rw [hU]; exact hR, zGl_call hgl hW hS hU⟩⟩
  have hw : zws M' = Cond.code (zy M') (zcc M') (zml M') none :: zGood := by rw [← hrt]; rfl
  have hrun : va_Run p (zl G) e R s m args below meth c H locs cs.1 cs.2 (zmc M') (zms M') (F0 m pc la ((As.reverse ++ .ref a :: st).map (zV G))) (st.map (zV G)) (zQc G Q' ((.ref a :: As).map (zV G)).toArray) (zFr G) := by
    rcases hlk with h | ⟨host, h⟩
    · exact va_runI ⟨hx, hb, hml, hown, hts⟩ hK ⟨callB_of n hts (zws_good hcode) hw rfl rfl (hts _ hini) (hts _ h) hdesc hroom, hkind.2, hts _ hkind.1⟩ hp rfl (by simp [hn]) hl.1 (zst_app As (.ref a :: st)) (lv_room (by rw [zcats]; exact hcat)) hdg (by rw [hrc, hrs]; exact hrm)
    · exact va_runIN ⟨hx, hb, hml, hown, hts⟩ hK ⟨va_cnB n hts (zws_good hcode) hw rfl rfl (hgl.2.1.1 _ h) (hts _ hini) hdesc hroom, hkind.2, hts _ hkind.1⟩ hp rfl (by simp [hn]) hl.1 (zst_app As (.ref a :: st)) (lv_room (by rw [zcats]; exact hcat)) hdg (by rw [hrc, hrs]; exact hrm)
  refine z_goes hrun hS (fun r sh' I' J' H1 locs1 hq hr1 hs1 => ?_)
  rw [← zst_r]
  exact kk r sh' I' J' hq p e R s m args below meth c H1 locs1 la Z C E hr1 hs1 hl
theorem V_obj {idx a : Nat} (hdg : decode (zcc M) pc = .ok (.invokespecial idx, 3)) (hlk : Cond.methodLink (zy M).cls idx Lib.objectInit ∈ zGood) (hd : 1 ≤ d) (hcat : (st.map fun v => v.category).sum ≤ 8)
    (kk : V G M d Q (pc + 3) ls st cs sh I J) : V G M d Q pc ls (.ref a :: st) cs sh I J := by
  intro p e R s m args below meth c H locs la Z C E hR hS hl
  obtain ⟨hx, hb, hml, hown, hts, hgl, hin, hrc, hrs, hd1, hd2⟩ := id C
  refine W.objInit hx hb hown (hts _ hlk) (hts _ zoi1) (hts _ zoi2) rfl (by rw [hml]; exact hl.1) rfl hdg (by omega) (by show 2 * 0 + ((st.map (zV G)).map fun v => v.category).sum + 12 ≤ _; rw [zcats]; omega) ?_
  exact kk p e R s m args below meth c H locs la Z C E hR hS hl
theorem V_mmax {idx : Nat} {x y : Int32} (hdg : decode (zcc M) pc = .ok (.invokestatic idx, 3)) (hlk : Cond.methodLink (zy M).cls idx Lib.Math.max.name ∈ zGood) (hd : 1 ≤ d) (hcat : (st.map fun v => v.category).sum ≤ 8) (hc : cs.1 ≤ zmc M ∧ cs.2 ≤ zms M)
    (kk : V G M d Q (pc + 3) ls (.int (if x < y then y else x) :: st) cs sh I J) : V G M d Q pc ls (.int y :: .int x :: st) cs sh I J := by
  intro p e R s m args below meth c H locs la Z C E hR hS hl
  obtain ⟨hx, hb, hml, hown, hts, hgl, hin, hrc, hrs, hd1, hd2⟩ := id C
  exact va_mmax hx hb (by rw [hml]; exact hl.1.symm) hown (hts _ hlk) (hts _ zmx_s) (hts _ zmx_i) (hts _ zmx_c) (by omega) (by rw [zcats]; omega) (by rw [hrc]; exact hc.1) (by rw [hrs]; exact hc.2) hdg (kk p e R s m args below meth c H locs la Z C E hR hS hl)
theorem V_mmin {idx : Nat} {x y : Int32} (hdg : decode (zcc M) pc = .ok (.invokestatic idx, 3)) (hlk : Cond.methodLink (zy M).cls idx Lib.Math.min.name ∈ zGood) (hd : 1 ≤ d) (hcat : (st.map fun v => v.category).sum ≤ 8) (hc : cs.1 ≤ zmc M ∧ cs.2 ≤ zms M)
    (kk : V G M d Q (pc + 3) ls (.int (if y < x then y else x) :: st) cs sh I J) : V G M d Q pc ls (.int y :: .int x :: st) cs sh I J := by
  intro p e R s m args below meth c H locs la Z C E hR hS hl
  obtain ⟨hx, hb, hml, hown, hts, hgl, hin, hrc, hrs, hd1, hd2⟩ := id C
  exact va_mmin hx hb (by rw [hml]; exact hl.1.symm) hown (hts _ hlk) (hts _ zmn_s) (hts _ zmn_i) (hts _ zmn_c) (by omega) (by rw [zcats]; omega) (by rw [hrc]; exact hc.1) (by rw [hrs]; exact hc.2) hdg (kk p e R s m args below meth c H locs la Z C E hR hS hl)
theorem V_lmax {idx : Nat} {x y : Int64} (hdg : decode (zcc M) pc = .ok (.invokestatic idx, 3)) (hlk : Cond.methodLink (zy M).cls idx Lib.MathLoose.max_long.x ∈ zGood) (hd : 1 ≤ d) (hcat : (st.map fun v => v.category).sum ≤ 8) (hc : cs.1 ≤ zmc M ∧ cs.2 ≤ zms M)
    (kk : V G M d Q (pc + 3) ls (.long (if y < x then x else y) :: st) cs sh I J) : V G M d Q pc ls (.long y :: .long x :: st) cs sh I J := by
  intro p e R s m args below meth c H locs la Z C E hR hS hl
  obtain ⟨hx, hb, hml, hown, hts, hgl, hin, hrc, hrs, hd1, hd2⟩ := id C
  exact va_mmax_long hx hb (by rw [hml]; exact hl.1.symm) hown (hts _ hlk) (hts _ zlx_s) (hts _ zlx_i) (hts _ zlx_c) (by omega) (by rw [zcats]; omega) (by rw [hrc]; exact hc.1) (by rw [hrs]; exact hc.2) hdg (kk p e R s m args below meth c H locs la Z C E hR hS hl)
theorem V_lmin {idx : Nat} {x y : Int64} (hdg : decode (zcc M) pc = .ok (.invokestatic idx, 3)) (hlk : Cond.methodLink (zy M).cls idx Lib.MathLoose.min_long.x ∈ zGood) (hd : 1 ≤ d) (hcat : (st.map fun v => v.category).sum ≤ 8) (hc : cs.1 ≤ zmc M ∧ cs.2 ≤ zms M)
    (kk : V G M d Q (pc + 3) ls (.long (if y < x then y else x) :: st) cs sh I J) : V G M d Q pc ls (.long y :: .long x :: st) cs sh I J := by
  intro p e R s m args below meth c H locs la Z C E hR hS hl
  obtain ⟨hx, hb, hml, hown, hts, hgl, hin, hrc, hrs, hd1, hd2⟩ := id C
  exact va_mmin_long hx hb (by rw [hml]; exact hl.1.symm) hown (hts _ hlk) (hts _ zln_s) (hts _ zln_i) (hts _ zln_c) (by omega) (by rw [zcats]; omega) (by rw [hrc]; exact hc.1) (by rw [hrs]; exact hc.2) hdg (kk p e R s m args below meth c H locs la Z C E hR hS hl)
theorem V_cpyi {idx a0 a m0 m1 : Nat} {sp dp n : Int32} (hdg : decode (zcc M) pc = .ok (.invokestatic idx, 3)) (hlk : Cond.methodLink (zy M).cls idx arraycopyName ∈ zGood) (hd : 1 ≤ d) (hcat : (st.map fun v => v.category).sum ≤ 8) (ha0 : zin sh a0) (hk0 : sh.2.1 a0 = (1, m0)) (ha : zin sh a) (hk : sh.2.1 a = (1, m1)) (h1 : ¬ sp < 0) (h2 : ¬ dp < 0) (h3 : ¬ n < 0) (h4 : sp.toNatClampNeg + n.toNatClampNeg ≤ m0) (h5 : dp.toNatClampNeg + n.toNatClampNeg ≤ m1)
    (kk : V G M d Q (pc + 3) ls st cs sh (zup I a (va_cpy (I a0) (I a) sp.toNatClampNeg dp.toNatClampNeg n.toNatClampNeg)) J) : V G M d Q pc ls (.int n :: .int dp :: .ref a :: .int sp :: .ref a0 :: st) cs sh I J := by
  intro p e R s m args below meth c H locs la Z C E hR hS hl
  obtain ⟨hx, hb, hml, hown, hts, hgl, hin, hrc, hrs, hd1, hd2⟩ := id C
  have he0 := zw_a (G := G) (sh := sh) (I := I) (J := J) ha0.1 ha0.2
  rw [zE_1 hk0] at he0
  have he := zw_a (G := G) (sh := sh) (I := I) (J := J) ha.1 ha.2
  rw [zE_1 hk] at he
  obtain ⟨i0, rfl⟩ : ∃ i, a = i + 2 := ⟨a - 2, by have := ha.1; omega⟩
  have hnf : nativeFrameWords "java/lang/System" "arraycopy" 5 + 11 ≤ 50 := by decide +kernel
  refine zcopy hx hb (by rw [hml]; exact hl.1.symm) hown (hts _ hlk) (hts _ zac_n) (hts _ zac_s) (hts _ zac_i) hgl.1 hR.2 zw_D hS (a0 - 2) (i0 + 2 - 2) 1 1 he0 he (ty := .int) rfl rfl rfl h1 h2 h3 h4 h5 (fun _ _ => rfl) (by omega) (by rw [zcats]; omega) hdg (fun H1 locs1 hz h1 h2 => ?_)
  have hset : (zw G sh I J).set (i0 + 2 - 2) (zA G (i0 + 2), .inl (zdA G 1, m1, .inl (va_cpy (I a0) (I (i0 + 2)) sp.toNatClampNeg dp.toNatClampNeg n.toNatClampNeg))) = zw G sh (zup I (i0 + 2) (va_cpy (I a0) (I (i0 + 2)) sp.toNatClampNeg dp.toNatClampNeg n.toNatClampNeg)) J :=
    zw_set (i := i0) (by have := ha.2; omega) rfl (by rw [zE_1 hk, zup_s]) (fun b hb => zE_I hb)
  exact kk p e R s m args below meth c H1 locs1 la Z C E ⟨hz.trans hR.1, by rw [← hset]; exact h1⟩ h2 hl
theorem V_cpyb {idx a0 a m0 m1 : Nat} {sp dp n : Int32} (hdg : decode (zcc M) pc = .ok (.invokestatic idx, 3)) (hlk : Cond.methodLink (zy M).cls idx arraycopyName ∈ zGood) (hd : 1 ≤ d) (hcat : (st.map fun v => v.category).sum ≤ 8) (ha0 : zin sh a0) (hk0 : sh.2.1 a0 = (0, m0)) (ha : zin sh a) (hk : sh.2.1 a = (0, m1)) (h1 : ¬ sp < 0) (h2 : ¬ dp < 0) (h3 : ¬ n < 0) (h4 : sp.toNatClampNeg + n.toNatClampNeg ≤ m0) (h5 : dp.toNatClampNeg + n.toNatClampNeg ≤ m1) (hfit : ∀ i, i < n.toNatClampNeg → fits .byte (.int (I a0 (sp.toNatClampNeg + i))) = true)
    (kk : V G M d Q (pc + 3) ls st cs sh (zup I a (va_cpy (I a0) (I a) sp.toNatClampNeg dp.toNatClampNeg n.toNatClampNeg)) J) : V G M d Q pc ls (.int n :: .int dp :: .ref a :: .int sp :: .ref a0 :: st) cs sh I J := by
  intro p e R s m args below meth c H locs la Z C E hR hS hl
  obtain ⟨hx, hb, hml, hown, hts, hgl, hin, hrc, hrs, hd1, hd2⟩ := id C
  have he0 := zw_a (G := G) (sh := sh) (I := I) (J := J) ha0.1 ha0.2
  rw [zE_0 hk0] at he0
  have he := zw_a (G := G) (sh := sh) (I := I) (J := J) ha.1 ha.2
  rw [zE_0 hk] at he
  obtain ⟨i0, rfl⟩ : ∃ i, a = i + 2 := ⟨a - 2, by have := ha.1; omega⟩
  have hnf : nativeFrameWords "java/lang/System" "arraycopy" 5 + 11 ≤ 50 := by decide +kernel
  refine zcopy hx hb (by rw [hml]; exact hl.1.symm) hown (hts _ hlk) (hts _ zac_n) (hts _ zac_s) (hts _ zac_i) hgl.1 hR.2 zw_D hS (a0 - 2) (i0 + 2 - 2) 0 0 he0 he (ty := .byte) rfl rfl rfl h1 h2 h3 h4 h5 hfit (by omega) (by rw [zcats]; omega) hdg (fun H1 locs1 hz h1 h2 => ?_)
  have hset : (zw G sh I J).set (i0 + 2 - 2) (zA G (i0 + 2), .inl (zdA G 0, m1, .inl (va_cpy (I a0) (I (i0 + 2)) sp.toNatClampNeg dp.toNatClampNeg n.toNatClampNeg))) = zw G sh (zup I (i0 + 2) (va_cpy (I a0) (I (i0 + 2)) sp.toNatClampNeg dp.toNatClampNeg n.toNatClampNeg)) J :=
    zw_set (i := i0) (by have := ha.2; omega) rfl (by rw [zE_0 hk, zup_s]) (fun b hb => zE_I hb)
  exact kk p e R s m args below meth c H1 locs1 la Z C E ⟨hz.trans hR.1, by rw [← hset]; exact h1⟩ h2 hl
theorem zw_new {e : Nat × Nat} {ce : va_E} (he : zE G (sh.1 + 1, zup sh.2.1 (sh.1 + 2) e, zup sh.2.2 (sh.1 + 2) (fun _ => none)) (zup I (sh.1 + 2) (fun _ => 0)) (zup J (sh.1 + 2) (fun _ => 0)) (sh.1 + 2) = ce) : zw G sh I J ++ [(zn G + sh.1, ce)] = zw G (sh.1 + 1, zup sh.2.1 (sh.1 + 2) e, zup sh.2.2 (sh.1 + 2) (fun _ => none)) (zup I (sh.1 + 2) (fun _ => 0)) (zup J (sh.1 + 2) (fun _ => 0)) := by
  refine zw_ext (by rw [List.length_append, zw_len]; rfl) (fun i hi => ?_)
  have hi : i < sh.1 + 1 := hi
  by_cases h : i = sh.1
  · subst h
    rw [List.getElem?_append_right (by rw [zw_len]; exact Nat.le_refl _), zw_len, Nat.sub_self, he]
    rfl
  · rw [List.getElem?_append_left (by rw [zw_len]; omega), zw_at (by omega)]
    have hne : i + 2 ≠ sh.1 + 2 := by omega
    congr 2
    unfold zE
    simp only [zup_n hne]
    split <;> simp [zup_n hne, zfs, zF]
theorem zR_new {e : Nat × Nat} {ce : va_E} {s : State} {H H1 : Heap} {locs : List Loc} (hR : zR G sh I J H) (hS : va_S (zFr G) s.heap H locs) (h1 : va_at (zD G) vwCl (H.size, ce) H1) (z1 : H1.size = H.size + 1) (o1 : ∀ q, q < H.size → H1[q]? = H[q]?) (he : zE G (sh.1 + 1, zup sh.2.1 (sh.1 + 2) e, zup sh.2.2 (sh.1 + 2) (fun _ => none)) (zup I (sh.1 + 2) (fun _ => 0)) (zup J (sh.1 + 2) (fun _ => 0)) (sh.1 + 2) = ce) :
    zR G (sh.1 + 1, zup sh.2.1 (sh.1 + 2) e, zup sh.2.2 (sh.1 + 2) (fun _ => none)) (zup I (sh.1 + 2) (fun _ => 0)) (zup J (sh.1 + 2) (fun _ => 0)) H1 ∧ va_S (zFr G) s.heap H1 locs := by
  refine ⟨⟨by rw [z1, hR.1]; rfl, ?_⟩, ⟨by rw [z1]; exact Nat.le_succ_of_le hS.1, fun q h2 h3 => (o1 q (Nat.lt_of_lt_of_le h2 hS.1)).trans (hS.2.1 q h2 h3), hS.2.2⟩⟩
  rw [← zw_new he]
  refine va_P.app (hR.2.kept (fun k q hk => o1 q.1 (hR.2 k q hk).lt)) (fun k q hk => ?_)
  have hz : k < 1 := (List.getElem?_eq_some_iff.mp hk).1
  rw [show k = 0 by omega] at hk
  cases hk
  rw [← hR.1]
  exact h1
theorem V_new {idx cc : Nat} (hdg : decode (zcc M) pc = .ok (.new idx, 3)) (hc : cc < 13) (hcl : Cond.classLink (zy M).cls idx (zC cc) ∈ zGood) (hin : Cond.instantiable (zC cc) (zN cc) ∈ zGood) (hini : Cond.initialized (zC cc) ∈ zGood) (hrm : cs.1 + 1 ≤ zmc M ∧ cs.2 + zN cc ≤ zms M)
    (kk : V G M d Q (pc + 3) ls (.ref (sh.1 + 2) :: st) (cs.1 + 1, cs.2 + zN cc) (sh.1 + 1, zup sh.2.1 (sh.1 + 2) (cc + 4, 0), zup sh.2.2 (sh.1 + 2) (fun _ => none)) (zup I (sh.1 + 2) (fun _ => 0)) (zup J (sh.1 + 2) (fun _ => 0))) : V G M d Q pc ls st cs sh I J := by
  intro p e R s m args below meth c H locs la Z C E hR hS hl
  obtain ⟨hx, hb, hml, hown, hts, hgl, hin9, hrc, hrs, hd1, hd2⟩ := id C
  have hKn := hgl.1.1 cc _ (zcl_at hc)
  refine W.newcK hx hb hown (hts _ hcl) (hts _ hin) (hts _ hini) rfl hdg (by rw [hrc]; exact hrm.1) (by rw [hrs]; exact hrm.2) hKn.2.1 rfl fun H1 kC hkC e1 z1 o1 => ?_
  have hat : va_at (zD G) vwCl (H.size, .inr (cc, zfs G cc (zup sh.2.2 (sh.1 + 2) (fun _ => none)) (zup I (sh.1 + 2) (fun _ => 0)) (sh.1 + 2))) H1 := by
    refine ⟨_, zcl_at hc, (u_born (zty cc) hts (zly hc) hKn hkC e1 (zty_ok hc)).to (fun j hj => ?_)⟩
    have h2 := zdef hc j hj
    show defaultValue (zty cc j) = (zfs G cc _ _ _).getD j .null
    rw [List.getD_eq_getElem?_getD, zfs_at hj, h2]
    by_cases h3 : zRef (zty cc j) = true <;> simp [zF, h3, zup, va_rf]
  obtain ⟨g1, g2⟩ := zR_new (e := (cc + 4, 0)) hR hS hat z1 o1 (zE_4 (n := 0) zup_s)
  have hA : zA G (sh.1 + 2) = H.size := hR.1.symm
  have := kk p e R s m args below meth c H1 locs la Z C E g1 g2 hl
  rw [List.map_cons] at this
  rw [show zV G (.ref (sh.1 + 2)) = .ref H.size from congrArg Value.ref hA] at this
  exact this
theorem V_newB {n : Int32} {N : Nat} (hdg : decode (zcc M) pc = .ok (.newarray .byte, 2)) (hn : n = nI N) (hN : N < 2 ^ 20) (hrm : cs.1 + 1 ≤ zmc M ∧ cs.2 + N ≤ zms M)
    (kk : V G M d Q (pc + 2) ls (.ref (sh.1 + 2) :: st) (cs.1 + 1, cs.2 + N) (sh.1 + 1, zup sh.2.1 (sh.1 + 2) (0, N), zup sh.2.2 (sh.1 + 2) (fun _ => none)) (zup I (sh.1 + 2) (fun _ => 0)) (zup J (sh.1 + 2) (fun _ => 0))) : V G M d Q pc ls (.int n :: st) cs sh I J := by
  intro p e R s m args below meth c H locs la Z C E hR hS hl
  obtain ⟨hx, hb, hml, hown, hts, hgl, hin, hrc, hrs, hd1, hd2⟩ := id C
  subst hn
  have hcl : (nI N).toNatClampNeg = N := nI_clamp (by omega)
  refine va_newaK (atype := .byte) (N := N) hx hb (hts _ zar0) rfl hdg rfl (nI_pos (by omega)) hcl (Nat.le_trans (Nat.mul_le_mul_left N (show componentBytes (newarray.typeOf .byte) ≤ 8 by decide +kernel)) (by omega)) (by rw [hrc]; exact hrm.1) (by rw [hrs]; exact hrm.2) rfl fun H1 cA e1 z1 o1 hAr hNm => ?_
  have hRA : s.vm.findClass ("[" ++ (FieldType.byte).toString) = some (zdA G 0) := (hgl.1.2 0 _ rfl).2
  have hcA : cA = zdA G 0 := Option.some.inj (hNm.symm.trans hRA)
  subst hcA
  have hat : va_at (zD G) vwCl (H.size, .inl (zdA G 0, N, .inl (fun _ => 0))) H1 := e1
  obtain ⟨g1, g2⟩ := zR_new (e := (0, N)) hR hS hat z1 o1 ((zE_0 zup_s).trans (by rw [zup_s]))
  have hA : zA G (sh.1 + 2) = H.size := hR.1.symm
  have := kk p e R s m args below meth c H1 locs la Z C E g1 g2 hl
  rw [List.map_cons] at this
  rw [show zV G (.ref (sh.1 + 2)) = .ref H.size from congrArg Value.ref hA] at this
  exact this
theorem V_newI {n : Int32} {N : Nat} (hdg : decode (zcc M) pc = .ok (.newarray .int, 2)) (hn : n = nI N) (hN : N < 2 ^ 20) (hrm : cs.1 + 1 ≤ zmc M ∧ cs.2 + N ≤ zms M)
    (kk : V G M d Q (pc + 2) ls (.ref (sh.1 + 2) :: st) (cs.1 + 1, cs.2 + N) (sh.1 + 1, zup sh.2.1 (sh.1 + 2) (1, N), zup sh.2.2 (sh.1 + 2) (fun _ => none)) (zup I (sh.1 + 2) (fun _ => 0)) (zup J (sh.1 + 2) (fun _ => 0))) : V G M d Q pc ls (.int n :: st) cs sh I J := by
  intro p e R s m args below meth c H locs la Z C E hR hS hl
  obtain ⟨hx, hb, hml, hown, hts, hgl, hin, hrc, hrs, hd1, hd2⟩ := id C
  subst hn
  have hcl : (nI N).toNatClampNeg = N := nI_clamp (by omega)
  refine va_newaK (atype := .int) (N := N) hx hb (hts _ zar1) rfl hdg rfl (nI_pos (by omega)) hcl (Nat.le_trans (Nat.mul_le_mul_left N (show componentBytes (newarray.typeOf .int) ≤ 8 by decide +kernel)) (by omega)) (by rw [hrc]; exact hrm.1) (by rw [hrs]; exact hrm.2) rfl fun H1 cA e1 z1 o1 hAr hNm => ?_
  have hRA : s.vm.findClass ("[" ++ (FieldType.int).toString) = some (zdA G 1) := (hgl.1.2 1 _ rfl).2
  have hcA : cA = zdA G 1 := Option.some.inj (hNm.symm.trans hRA)
  subst hcA
  have hat : va_at (zD G) vwCl (H.size, .inl (zdA G 1, N, .inl (fun _ => 0))) H1 := e1
  obtain ⟨g1, g2⟩ := zR_new (e := (1, N)) hR hS hat z1 o1 ((zE_1 zup_s).trans (by rw [zup_s]))
  have hA : zA G (sh.1 + 2) = H.size := hR.1.symm
  have := kk p e R s m args below meth c H1 locs la Z C E g1 g2 hl
  rw [List.map_cons] at this
  rw [show zV G (.ref (sh.1 + 2)) = .ref H.size from congrArg Value.ref hA] at this
  exact this
theorem V_newL {n : Int32} {N : Nat} (hdg : decode (zcc M) pc = .ok (.newarray .long, 2)) (hn : n = nI N) (hN : N < 2 ^ 20) (hrm : cs.1 + 1 ≤ zmc M ∧ cs.2 + N ≤ zms M)
    (kk : V G M d Q (pc + 2) ls (.ref (sh.1 + 2) :: st) (cs.1 + 1, cs.2 + N) (sh.1 + 1, zup sh.2.1 (sh.1 + 2) (2, N), zup sh.2.2 (sh.1 + 2) (fun _ => none)) (zup I (sh.1 + 2) (fun _ => 0)) (zup J (sh.1 + 2) (fun _ => 0))) : V G M d Q pc ls (.int n :: st) cs sh I J := by
  intro p e R s m args below meth c H locs la Z C E hR hS hl
  obtain ⟨hx, hb, hml, hown, hts, hgl, hin, hrc, hrs, hd1, hd2⟩ := id C
  subst hn
  have hcl : (nI N).toNatClampNeg = N := nI_clamp (by omega)
  refine va_newaK (atype := .long) (N := N) hx hb (hts _ zar2) rfl hdg rfl (nI_pos (by omega)) hcl (Nat.le_trans (Nat.mul_le_mul_left N (show componentBytes (newarray.typeOf .long) ≤ 8 by decide +kernel)) (by omega)) (by rw [hrc]; exact hrm.1) (by rw [hrs]; exact hrm.2) rfl fun H1 cA e1 z1 o1 hAr hNm => ?_
  have hRA : s.vm.findClass ("[" ++ (FieldType.long).toString) = some (zdA G 2) := (hgl.1.2 2 _ rfl).2
  have hcA : cA = zdA G 2 := Option.some.inj (hNm.symm.trans hRA)
  subst hcA
  have hat : va_at (zD G) vwCl (H.size, .inl (zdA G 2, N, .inr (.inl (fun _ => 0)))) H1 := e1
  obtain ⟨g1, g2⟩ := zR_new (e := (2, N)) hR hS hat z1 o1 ((zE_2 zup_s).trans (by rw [zup_s]))
  have hA : zA G (sh.1 + 2) = H.size := hR.1.symm
  have := kk p e R s m args below meth c H1 locs la Z C E g1 g2 hl
  rw [List.map_cons] at this
  rw [show zV G (.ref (sh.1 + 2)) = .ref H.size from congrArg Value.ref hA] at this
  exact this
theorem V_newQ {n : Int32} {N idx : Nat} (hdg : decode (zcc M) pc = .ok (.anewarray idx, 3)) (hcl : Cond.classLink (zy M).cls idx RX8 ∈ zGood) (hn : n = nI N) (hN : N < 2 ^ 20) (hrm : cs.1 + 1 ≤ zmc M ∧ cs.2 + N ≤ zms M)
    (kk : V G M d Q (pc + 3) ls (.ref (sh.1 + 2) :: st) (cs.1 + 1, cs.2 + N) (sh.1 + 1, zup sh.2.1 (sh.1 + 2) (3, N), zup sh.2.2 (sh.1 + 2) (fun _ => none)) (zup I (sh.1 + 2) (fun _ => 0)) (zup J (sh.1 + 2) (fun _ => 0))) : V G M d Q pc ls (.int n :: st) cs sh I J := by
  intro p e R s m args below meth c H locs la Z C E hR hS hl
  obtain ⟨hx, hb, hml, hown, hts, hgl, hin, hrc, hrs, hd1, hd2⟩ := id C
  subst hn
  have hcN : (nI N).toNatClampNeg = N := nI_clamp (by omega)
  refine W.anew hx hb hown (hts _ hcl) (va_AO.use hgl.2.1.2) rfl hdg rfl (nI_pos (by omega)) (by rw [hcN]; omega) (by rw [hrc]; exact hrm.1) (by rw [hrs, hcN]; exact hrm.2) fun cA kA comp f1 f2 f3 f4 => ?_
  rw [hcN]
  generalize hH1 : H.push ({ cls := cA, slots := Array.replicate N .null, vm := .none } : Cell) = H1
  have z1 : H1.size = H.size + 1 := by rw [← hH1, Array.size_push]
  have e1 : H1[H.size]? = some (arrV cA N (fun _ => .null)) := by rw [← hH1, Array.getElem?_push_size, ← arrV_new]
  have o1 : ∀ q : Nat, q < H.size → H1[q]? = H[q]? := fun q hq => by rw [← hH1, Array.getElem?_push, if_neg (Nat.ne_of_lt hq)]
  obtain ⟨kA', comp', g1, g2, g3, g4⟩ := (hgl.1.2 3 _ rfl).2
  have hcA : cA = zdA G 3 := Option.some.inj (f1.symm.trans g4)
  subst hcA
  have hat : va_at (zD G) vwCl (H.size, .inl (zdA G 3, N, .inr (.inr (.inr (.inr (fun _ => none)))))) H1 := e1
  obtain ⟨g1, g2⟩ := zR_new (e := (3, N)) hR hS hat z1 o1 ((zE_3 zup_s).trans (by simp [zup_s]))
  have hA : zA G (sh.1 + 2) = H.size := hR.1.symm
  have := kk p e R s m args below meth c H1 locs la Z C E g1 g2 hl
  rw [List.map_cons] at this
  rw [show zV G (.ref (sh.1 + 2)) = .ref H.size from congrArg Value.ref hA] at this
  exact this
theorem V_aast {a n cc n1 b : Nat} {i : Int32} (hdg : decode (zcc M) pc = .ok (.aastore, 1)) (ha : zin sh a) (hk : sh.2.1 a = (3, n)) (hb0 : zin sh b) (hkb : sh.2.1 b = (8 + 4, n1)) (hi : vp_in i n)
    (kk : V G M d Q (pc + 1) ls st cs (sh.1, sh.2.1, zup sh.2.2 a (fun j => if j = i.toNatClampNeg then some b else sh.2.2 a j)) I J) : V G M d Q pc ls (.ref b :: .int i :: .ref a :: st) cs sh I J := by
  intro p e R s m args below meth c H locs la Z C E hR hS hl
  obtain ⟨hx, hb, hml, hown, hts, hgl, hin, hrc, hrs, hd1, hd2⟩ := id C
  have he := zw_a (G := G) (sh := sh) (I := I) (J := J) ha.1 ha.2
  rw [zE_3 hk] at he
  have heb := zw_a (G := G) (sh := sh) (I := I) (J := J) hb0.1 hb0.2
  rw [zE_4 hkb] at heb
  obtain ⟨i0, rfl⟩ : ∃ i, a = i + 2 := ⟨a - 2, by have := ha.1; omega⟩
  refine zastq hx hb hgl.1 hR.2 zw_D hS (i0 + 2 - 2) 3 (b - 2) 8 (r := (zC 8, zTT 8, zN 8)) he rfl heb (zcl_at (by omega)) hi hdg (fun H1 locs1 hz h1 h2 => ?_)
  have hset : (zw G sh I J).set (i0 + 2 - 2) (zA G (i0 + 2), .inl (zdA G 3, n, .inr (.inr (.inr (.inr (va_up (fun j => (sh.2.2 (i0 + 2) j).map (zA G)) i.toNatClampNeg (some (zA G b)))))))) = zw G (sh.1, sh.2.1, zup sh.2.2 (i0 + 2) (fun j => if j = i.toNatClampNeg then some b else sh.2.2 (i0 + 2) j)) I J :=
    zw_set (i := i0) (by have := ha.2; omega) rfl (by
      rw [zE_3 (sh := (sh.1, sh.2.1, zup sh.2.2 (i0 + 2) (fun j => if j = i.toNatClampNeg then some b else sh.2.2 (i0 + 2) j))) hk]
      have hf : (fun j => Option.map (zA G) (zup sh.2.2 (i0 + 2) (fun j => if j = i.toNatClampNeg then some b else sh.2.2 (i0 + 2) j) (i0 + 2) j)) = va_up (fun j => (sh.2.2 (i0 + 2) j).map (zA G)) i.toNatClampNeg (some (zA G b)) := by
        funext j
        by_cases hj : j = i.toNatClampNeg <;> simp [zup, va_up, hj]
      show (Sum.inl _ : va_E) = _
      rw [hf]) (fun b hb => zE_r hb)
  exact kk p e R s m args below meth c H1 locs1 la Z C E ⟨hz.trans hR.1, by rw [← hset]; exact h1⟩ h2 hl
end R
