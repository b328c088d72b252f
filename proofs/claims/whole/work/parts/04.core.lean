/-! THE SMALL MACHINE, 2: the judgement V (a frame of a method of ours, over the one world), a method's contract zK, and how a walk gives it -/
def zIsN (w : Cond) : Bool := match w with
  | .fieldLinkNest _ _ _ _ _ _ => true
  | .methodLinkNest _ _ _ _ => true
  | _ => false
def zGood : List Cond := lw_tbl.filter goodWord
def zNst : List Cond := lw_tbl.filter zIsN
theorem zg_of {w : Cond} (h : w ∈ tables_1) (hg : goodWord w = true) : w ∈ zGood := List.mem_filter.mpr ⟨List.mem_append_right _ h, hg⟩
theorem zg_sel {w : Cond} (h : w ∈ k2_sels lw_privs) (hg : goodWord w = true) : w ∈ zGood := List.mem_filter.mpr ⟨List.mem_append_left _ h, hg⟩
theorem zn_of {w : Cond} (h : w ∈ tables_1) (hg : zIsN w = true) : w ∈ zNst := List.mem_filter.mpr ⟨List.mem_append_right _ h, hg⟩
theorem zNw_warm {w : Cond} {s U : State} (hw : w ∈ zNst) (hW : s.WarmedH U.vm) (h : va_Nw w s) : va_Nw w U := by
  have h1 := (List.mem_filter.mp hw).2
  unfold zIsN at h1
  split at h1
  · exact va_Nw.warmF hW h
  · exact va_Nw.warmM hW h
  · cases h1
theorem zNst_tab {w : Cond} (hw : w ∈ zNst) : w.onTables = true := by
  have h1 := (List.mem_filter.mp hw).2
  unfold zIsN at h1
  split at h1
  · rfl
  · rfl
  · cases h1
/-- a method: name, code, locals, answer, cells and slots that it makes -/
abbrev zM : Type := MethodName × ByteArray × Nat × Option FieldType × Nat × Nat
def zy (M : zM) : MethodName := M.1
def zcc (M : zM) : ByteArray := M.2.1
def zml (M : zM) : Nat := M.2.2.1
def zrt (M : zM) : Option FieldType := M.2.2.2.1
def zmc (M : zM) : Nat := M.2.2.2.2.1
def zms (M : zM) : Nat := M.2.2.2.2.2
def zCodes (j : Nat) : Int32 := ([0, 1, 2, 3, 10, 11, 12, 20, 21, 30, 100, 101, 102, 110, 111, 120, 200, 201, 210, 300, 1000, 1001, 1002, 1010, 1011, 1020, 1100, 1101, 1110, 1200, 2000, 2001, 2010, 2100, 3000, 10000, 10001, 10002, 10010, 10011, 10020, 10100, 10101, 10110, 10200, 11000, 11001, 11010, 11100, 12000, 20000, 20001, 20010, 20100, 21000, 30000] : List Int32).getD j 0
def ztys (G : zG) : List (ClassId × FieldType) := [(zdA G 0, .byte), (zdA G 1, .int), (zdA G 2, .long), (zdA G 3, .object RX8)]
def zGl (G : zG) (U : State) : Prop := va_K (zD G) vwCl (ztys G) U ∧ ((∀ w ∈ zNst, va_Nw w U) ∧ va_AO RX8 U) ∧ va_X (zb G) (zL G) (zxs G) U U.heap ∧ va_Z RX2 "CODES" "[I" (.ref (zg G)) (zFr G) U U.heap ∧ va_T .int (zg G) 56 (fun j => .int (zCodes j)) (zFr G) U U.heap ∧ zb G < zn G ∧ zn G ≤ U.heap.size
theorem zGl_call {G : zG} {s U : State} {H : Heap} {locs : List Loc} (h : zGl G s) (hW : s.WarmedH U.vm) (hS : va_S (zFr G) s.heap H locs) (hU : U.heap = H) : zGl G U := by
  obtain ⟨h1, h2, h3, h4, h5, h6, h7⟩ := h
  have hk : ∀ a : Nat, a < s.heap.size → ¬ zFr G a → U.heap[a]? = s.heap[a]? := fun a q1 q2 => by rw [hU]; exact hS.2.1 a q1 q2
  refine ⟨va_K.moved hW.alike h1, ⟨fun w hw => zNw_warm hw hW (h2.1 w hw), va_AO.moved hW.alike h2.2⟩, ?_, ?_, ?_, h6, ?_⟩
  · exact (h3.kept (hk (zb G) (by omega) (by show ¬ zn G ≤ zb G; omega))).moved hW.alike
  · exact (h4.kept hk).moved hW.alike
  · exact (h5.kept hk).moved hW.alike
  · rw [hU]; exact Nat.le_trans h7 hS.1
theorem zGl_blind {G : zG} {U : State} (g : JFrame) (mk : MethodId) (a : Array Value) (h : zGl G U) : zGl G (U.calling g mk a) := by
  obtain ⟨h1, h2, h3, h4, h5, h6, h7⟩ := h
  exact ⟨va_K.moved (u := U) (U := U.calling g mk a) (Vm.Alike.refl U.vm) h1, ⟨fun w hw => va_Nw.same (u := U) (U := U.calling g mk a) (zNst_tab hw) rfl (h2.1 w hw), va_AO.moved (u := U) (U := U.calling g mk a) (Vm.Alike.refl U.vm) h2.2⟩, va_X.moved (u := U) (U := U.calling g mk a) (Vm.Alike.refl U.vm) h3, va_Z.moved (u := U) (U := U.calling g mk a) (Vm.Alike.refl U.vm) h4, va_T.moved (u := U) (U := U.calling g mk a) (Vm.Alike.refl U.vm) h5, h6, h7⟩
def zQ : Type := Option Value → zS → zI → zJ → Prop
def zPc (G : zG) (as : List Value) (sh : zS) (I : zI) (J : zJ) : Array Value → State → Prop := va_Pc (as.map (zV G)) (fun U => zR G sh I J U.heap ∧ zGl G U)
def zQc (G : zG) (Q : zQ) : Array Value → State → Outcome → State → Prop := fun _ st oc t => (∃ (r : Option Value) (sh : zS) (I : zI) (J : zJ), oc = .returned (r.map (zV G)) ∧ Q r sh I J ∧ zR G sh I J t.heap) ∧ va_F (zFr G) st t
theorem zPc_blind {G : zG} {as : List Value} {sh : zS} {I : zI} {J : zJ} : FrameBlind (zPc G as sh I J) := fun a U g mk q => by
  obtain ⟨h1, h2, h3⟩ := q
  exact ⟨h1, h2, zGl_blind g mk a h3⟩
def zroom (M : zM) (d : Nat) : Room := { frames := d, cells := zmc M, slots := zms M, locals := 64 * d }
def zws (M : zM) : List Cond := Cond.code (zy M) (zcc M) (zml M) (zrt M) :: zGood
/-- a method's contract at the depth d, for these arguments in this world: what it answers, and the world behind it, are as Q says -/
def zK (G : zG) (M : zM) (d : Nat) (as : List Value) (sh : zS) (I : zI) (J : zJ) (Q : zQ) : Prop := Met (zl G) (zy M) (zws M) (zroom M d) (zPc G as sh I J) (zQc G Q) (zmc M) (zms M) (zFr G)
def zCtx (G : zG) (M : zM) (d : Nat) (p : Program) (R : Room) (s : State) (m : MethodId) (args : Array Value) (meth : Method) (c : Code) : Prop :=
  p.tables.exec = Jvm.exec ∧ c.code = zcc M ∧ c.maxLocals = zml M ∧ s.vm.findClass (zy M).cls = some m.cls ∧ (∀ w ∈ zGood, w.before args s = true) ∧ zGl G s ∧ ((zy M).name = "<init>" → meth.name = "<init>") ∧ R.cells = zmc M ∧ R.slots = zms M ∧ d ≤ R.frames ∧ 64 * d ≤ R.locals
def zRet (M : zM) (pc : Nat) (r : Option Value) : Prop := match r with
  | none => zrt M = none ∧ decode (zcc M) pc = .ok (.return_, 1)
  | some (.int x) => (zrt M = some .int ∨ (zrt M = some .boolean ∧ (x = 0 ∨ x = 1))) ∧ decode (zcc M) pc = .ok (.ireturn, 1)
  | some (.long _) => zrt M = some .long ∧ decode (zcc M) pc = .ok (.lreturn, 1)
  | some (.ref _) => (∃ t, zrt M = some (.array t)) ∧ decode (zcc M) pc = .ok (.areturn, 1)
  | _ => False
def zEnd (G : zG) (M : zM) (Q : zQ) (p : Program) (e : Env) (R : Room) (s : State) (m : MethodId) (args : Array Value) (below : List Frame) (meth : Method) (c : Code) (Z : State → Prop) : Prop :=
  ∀ (r : Option Value) (sh : zS) (I : zI) (J : zJ) (H : Heap) (locs : List Loc) (la : Array Slot) (pc c1 c2 : Nat), Q r sh I J → zR G sh I J H → va_S (zFr G) s.heap H locs → c1 ≤ zmc M → c2 ≤ zms M → zRet M pc r → W p (zl G) e R s m args below meth c H locs c1 c2 Z (F0 m pc la (r.map (zV G)).toList)
/-- the judgement: the frame of M at pc, locals ls, stack st (both of numbers), cs cells and slots made so far, in the world sh I J, comes to an end as Q says -/
def V (G : zG) (M : zM) (d : Nat) (Q : zQ) (pc : Nat) (ls : List (Nat × Value)) (st : List Value) (cs : Nat × Nat) (sh : zS) (I : zI) (J : zJ) : Prop :=
  ∀ (p : Program) (e : Env) (R : Room) (s : State) (m : MethodId) (args : Array Value) (below : List Frame) (meth : Method) (c : Code) (H : Heap) (locs : List Loc) (la : Array Slot) (Z : State → Prop),
    zCtx G M d p R s m args meth c → zEnd G M Q p e R s m args below meth c Z → zR G sh I J H → va_S (zFr G) s.heap H locs → lv_has la (zml M) (ls.map (fun q => (q.1, zV G q.2))) → W p (zl G) e R s m args below meth c H locs cs.1 cs.2 Z (F0 m pc la (st.map (zV G)))
theorem zV_cat {G : zG} (v : Value) : (zV G v).category = v.category := by cases v <;> rfl
theorem zargs {G : zG} (as : List Value) : ∀ i, lv_args i (as.map (zV G)) = (lv_args i as).map (fun q => (q.1, zV G q.2)) := by
  induction as with
  | nil => intro i; rfl
  | cons v t ih =>
    intro i
    show (i, zV G v) :: lv_args (if (zV G v).category = 2 then i + 2 else i + 1) (t.map (zV G)) = (i, zV G v) :: (lv_args (if v.category = 2 then i + 2 else i + 1) t).map _
    rw [zV_cat, ih]
theorem zsl {G : zG} (as : List Value) : (lg_sl (as.map (zV G))).length = (lg_sl as).length := by
  induction as with
  | nil => rfl
  | cons v t ih =>
    simp only [lg_sl, List.map_cons, List.flatMap_cons, List.length_append, zV_cat] at ih ⊢
    rw [ih]
    by_cases h : v.category = 2 <;> simp [h]
theorem zcats {G : zG} (st : List Value) : ((st.map (zV G)).map fun v => v.category) = st.map fun v => v.category := by
  rw [List.map_map]
  exact List.map_congr_left (fun v _ => zV_cat v)
/-- a walk of the body gives the contract -/
theorem zK_of {G : zG} {M : zM} {d : Nat} {as : List Value} {sh : zS} {I : zI} {J : zJ} {Q : zQ} (hpl : plainName (zy M).cls = true) (hsl : (lg_sl as).length ≤ zml M) (hV : V G M d Q 0 (lv_args 0 as) [] (0, 0) sh I J) : zK G M d as sh I J Q := by
  refine Met.ofW (cc := zcc M) (maxL := zml M) (ret := zrt M) hpl rfl ?_
  intro p e s m args below meth c s₁ B hml hv
  obtain ⟨rfl, hR, hG⟩ := hv
  have hx := B.exec
  have hb := B.bytes
  have hr := B.returns
  have hts := atoms_spec (ws := zws M) B.pre
  have hown : s.vm.findClass (zy M).cls = some m.cls := findClass_of_methodNamed B.named
  have hlocks : meth.locks = false := B.notSynchronized
  have hin : meth.name = (zy M).name := (name_of_methodNamed B.named B.method).1
  have hl := lv_entry (as.map (zV G)) (n := zml M) (by rw [zsl]; exact hsl)
  rw [lg_entry_eq]
  rw [zargs] at hl
  refine hV p e _ s m _ below meth c s.heap [] _ _ ⟨hx, hb, hml, hown, fun w hw => hts w (List.mem_cons_of_mem _ hw), hG, fun h => hin.trans h, rfl, rfl, Nat.le_refl _, Nat.le_refl _⟩ ?_ hR va_S.rf hl
  intro r sh' I' J' H locs la pc c1 c2 hQ hR' hS h1 h2 hret
  refine W.widen (k := zmc M) (n := zms M) h1 h2 ?_
  have hq : ∀ (o : Outcome), o = .returned (r.map (zV G)) → ∀ t : State, t.heap = H → s.WarmedH t.vm → zQc G Q (as.map (zV G)).toArray s o t := fun o ho t ht _ => ⟨⟨r, sh', I', J', ho, hQ, by rw [ht]; exact hR'⟩, hS.F ht⟩
  match r, hret, hq with
  | none, hret, hq => exact W.vret hx hb (by rw [hr]; exact hret.1) (hq _ rfl) hS.2.2 hret.2 hlocks
  | some (.int x), hret, hq =>
    obtain ⟨h | ⟨h, hx2⟩, hd⟩ := hret
    · exact W.iret hx hb (by rw [hr]; exact h) (hq _ rfl) hS.2.2 hd hlocks
    · exact W.zret hx hb (by rw [hr]; exact h) (by rcases hx2 with rfl | rfl <;> rfl) (hq _ rfl) hS.2.2 hd hlocks
  | some (.long x), hret, hq => exact W.lret hx hb (by rw [hr]; exact hret.1) (hq _ rfl) hS.2.2 hret.2 hlocks
  | some (.ref a), hret, hq =>
    obtain ⟨⟨t, h⟩, hd⟩ := hret
    exact W.aret hx hb (by rw [hr]; exact h) (Or.inr ⟨_, rfl⟩) (Or.inr ⟨_, rfl⟩) (hq _ rfl) hS.2.2 hd hlocks
theorem zK_mono {G : zG} {M : zM} {d : Nat} {as : List Value} {sh : zS} {I : zI} {J : zJ} {Q Q' : zQ} (h : ∀ r sh I J, Q r sh I J → Q' r sh I J) (hV : V G M d Q 0 (lv_args 0 as) [] (0, 0) sh I J) : V G M d Q' 0 (lv_args 0 as) [] (0, 0) sh I J := by
  intro p e R s m args below meth c H locs la Z C E hR hS hl
  exact hV p e R s m args below meth c H locs la Z C (fun r sh I J H locs la pc c1 c2 hq => E r sh I J H locs la pc c1 c2 (h r sh I J hq)) hR hS hl
/-- behind a call -/
theorem z_goes {G : zG} {Q' : zQ} {p : Program} {e : Env} {R : Room} {s : State} {m : MethodId} {args : Array Value} {below : List Frame} {meth : Method} {c : Code} {H : Heap} {locs : List Loc} {cells slots mc ms pc : Nat} {la : Array Slot} {st0 rest : List Value} {a : Array Value} {Z : State → Prop}
    (hr : va_Run p (zl G) e R s m args below meth c H locs cells slots mc ms (F0 m pc la st0) rest (zQc G Q' a) (zFr G)) (hS : va_S (zFr G) s.heap H locs)
    (kk : ∀ (r : Option Value) (sh : zS) (I : zI) (J : zJ) (H1 : Heap) (locs1 : List Loc), Q' r sh I J → zR G sh I J H1 → va_S (zFr G) s.heap H1 locs1 → W p (zl G) e R s m args below meth c H1 locs1 (cells + mc) (slots + ms) Z (F0 m (pc + 3) la ((r.map (zV G)).toList ++ rest))) : W p (zl G) e R s m args below meth c H locs cells slots Z (F0 m pc la st0) := by
  intro T hT X
  obtain ⟨v, st₀, t, T', L, h0, X', hL, e1, e2, ⟨⟨r, sh, I, J, hv, hq, hz⟩, hzs, hk⟩, st⟩ := hr T hT X
  cases hv
  rw [h0] at hzs hk
  obtain ⟨t2, a1, b1⟩ := kk r sh I J T'.heap (locs ++ L) hq (by rw [e1]; exact hz) ⟨Nat.le_trans hS.1 (by rw [e1]; exact hzs), fun q h1 h2 => by rw [e1, hk q (Nat.lt_of_lt_of_le h1 hS.1) h2]; exact hS.2.1 q h1 h2, fun q hq => by
    rcases List.mem_append.mp hq with h | h
    · exact hS.2.2 q h
    · exact hL q h⟩ T' rfl X'
  exact ⟨t2, st t2 a1, b1⟩
