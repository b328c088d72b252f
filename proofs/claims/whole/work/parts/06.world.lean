/-! helpers: the kit's rows for stores, with the heap's size beside -/
section ZP
variable {p : Program} {l : Launch} {e : Env} {R : Room} {s : State} {m : MethodId} {args : Array Value} {below : List Frame} {meth : Method} {c : Code} {H : Heap} {locs : List Loc} {cells slots : Nat} {Q : State → Prop}
variable {cc : ByteArray} {pc : Nat} {ls : Array Slot} {rest : List Value} {D : va_G} {cl : List vw_C} {A : Nat → Prop} {a : Nat} {tys : List (ClassId × FieldType)} {ws : va_W} {H0 : Heap}
theorem zput (hexec : p.tables.exec = Jvm.exec) (hb : c.code = cc) {own C : String} {T : u_T} {N ci index : Nat} {Ts : List Cond} (hts : ∀ w ∈ Ts, w.before args s = true) (hin : ∀ w ∈ u_ws C T N, w ∈ Ts) (ty0 : Nat → FieldType) (hty : ∀ k, k < N → parseFieldDescriptor (T k).2.2.1 = some (ty0 k)) (hnm : ∀ a, a < N → ∀ b, b < N → a ≠ b → (T a).2.1 ≠ (T b).2.1) (hown : s.vm.findClass own = some m.cls) (hK : va_K D cl tys s) (hP : va_P D cl ws H) (hD : va_D A ws) (hS0 : va_S A H0 H locs) (q0 : Nat) {fs : List Value} (he : ws[q0]? = some (a, .inr (ci, fs))) (hc : cl[ci]? = some (C, T, N)) (k : Nat) (hk : k < N) (hlink : (Cond.fieldLink own index (T k).1 (T k).2.1 (T k).2.2.1).before args s = true ∨ ∃ host, (Cond.fieldLinkNest own index (T k).1 (T k).2.1 (T k).2.2.1 host).before args s = true) (hfin : (T k).2.2.2 = false) {ty : FieldType} {v : Value} (hd : parseFieldDescriptor (T k).2.2.1 = some ty) (hn : narrow ty v = v) (hfit : fits ty v = true) (hl : k < fs.length)
    (hdg : decode cc pc = .ok (.putfield index, 3)) (kk : ∀ (H1 : Heap) (locs1 : List Loc), H1.size = H.size → va_P D cl (ws.set q0 (a, .inr (ci, fs.set k v))) H1 → va_S A H0 H1 locs1 → W p l e R s m args below meth c H1 locs1 cells slots Q (F0 m (pc + 3) ls rest)) : W p l e R s m args below meth c H locs cells slots Q (F0 m pc ls (v :: .ref a :: rest)) := by
  have hap := va_apart (own := own) hts hin ty0 hty hnm hK hc
  obtain ⟨r, h1, cell, q1, q2, q3, q4⟩ := hP q0 _ he
  have hr : r = (C, T, N) := Option.some.inj (h1.symm.trans hc)
  subst hr
  obtain ⟨hS, hfc, kC, hkC, hkind⟩ := hK.1 ci _ hc
  obtain ⟨cf, kf, fi, f, hi, hsl⟩ := hS k hk
  have hlay := hts _ (hin _ (u_in_lay hk))
  unfold u_lay at hlay
  rw [if_neg (by rw [hfin]; decide)] at hlay
  have hst := (u_facts hfc hkC (u_lays hts hin hk) hi).1
  have h6 := u_store hfc hkC hkind hlay hi hd hn hfit
  rcases hlink with hlink | ⟨host, hlink⟩
  · refine W.putK hexec hb (f := f) ⟨hown, hlink, ⟨_, _, _, hi⟩, hst⟩ (by rw [q2]; exact h6) q1 q3 (by rw [hsl]; exact k2_hasslot (q4 k hk)) rfl rfl hdg fun H' e1 e2 e3 => ?_
    rw [hsl] at e1 ⊢
    exact kk H' _ e2 (hP.set hD he ⟨_, hc, t_OB.to (V := updV (vp_V fs) k v) ⟨_, e1, q2, q3, t_set q4 hap hk v⟩ (fun j _ => vp_updV_set hl v j)⟩ e3) (hS0.put e2 e3 (hD.2 q0 _ he))
  · refine va_WputK hexec hb hown hlink hi hst (by rw [q2]; exact h6) q1 q3 (by rw [hsl]; exact k2_hasslot (q4 k hk)) rfl rfl hdg fun H' e1 e2 e3 => ?_
    rw [hsl] at e1 ⊢
    exact kk H' _ e2 (hP.set hD he ⟨_, hc, t_OB.to (V := updV (vp_V fs) k v) ⟨_, e1, q2, q3, t_set q4 hap hk v⟩ (fun j _ => vp_updV_set hl v j)⟩ e3) (hS0.put e2 e3 (hD.2 q0 _ he))
theorem zputF (hexec : p.tables.exec = Jvm.exec) (hb : c.code = cc) {own C : String} {T : u_T} {N ci index : Nat} {Ts : List Cond} (hts : ∀ w ∈ Ts, w.before args s = true) (hin : ∀ w ∈ u_ws C T N, w ∈ Ts) (ty0 : Nat → FieldType) (hty : ∀ k, k < N → parseFieldDescriptor (T k).2.2.1 = some (ty0 k)) (hnm : ∀ a, a < N → ∀ b, b < N → a ≠ b → (T a).2.1 ≠ (T b).2.1) (hown : s.vm.findClass own = some m.cls) (hK : va_K D cl tys s) (hP : va_P D cl ws H) (hD : va_D A ws) (hS0 : va_S A H0 H locs) (q0 : Nat) {fs : List Value} (he : ws[q0]? = some (a, .inr (ci, fs))) (hc : cl[ci]? = some (C, T, N)) (k : Nat) (hk : k < N) (hlink : (Cond.fieldLink own index (T k).1 (T k).2.1 (T k).2.2.1).before args s = true) (hfin : (T k).2.2.2 = true) (hin2 : meth.name = "<init>") (hdecl : (T k).1 = own) {ty : FieldType} {v : Value} (hd : parseFieldDescriptor (T k).2.2.1 = some ty) (hn : narrow ty v = v) (hfit : fits ty v = true) (hl : k < fs.length)
    (hdg : decode cc pc = .ok (.putfield index, 3)) (kk : ∀ (H1 : Heap) (locs1 : List Loc), H1.size = H.size → va_P D cl (ws.set q0 (a, .inr (ci, fs.set k v))) H1 → va_S A H0 H1 locs1 → W p l e R s m args below meth c H1 locs1 cells slots Q (F0 m (pc + 3) ls rest)) : W p l e R s m args below meth c H locs cells slots Q (F0 m pc ls (v :: .ref a :: rest)) := by
  have hap := va_apart (own := own) hts hin ty0 hty hnm hK hc
  obtain ⟨r, h1, cell, q1, q2, q3, q4⟩ := hP q0 _ he
  have hr : r = (C, T, N) := Option.some.inj (h1.symm.trans hc)
  subst hr
  obtain ⟨hS, hfc, kC, hkC, hkind⟩ := hK.1 ci _ hc
  obtain ⟨cf, kf, fi, f, hi, hsl⟩ := hS k hk
  have hlay := hts _ (hin _ (u_in_lay hk))
  unfold u_lay at hlay
  rw [if_pos hfin] at hlay
  have hst := (u_facts hfc hkC (u_lays hts hin hk) hi).1
  have hcf : m.cls = cf := by
    obtain ⟨_, _, c', _, _, _, -, -, hf', -, -, -, hown2, -⟩ := Cond.laysFinal_spec hlay
    have e1 : c' = cf := by have := hi.symm.trans hf'; simp at this; exact this.1.symm
    rw [hdecl] at hown2
    rw [← e1]; exact Option.some.inj (hown.symm.trans hown2)
  have h6 := u_fits hfc hkC hkind (Or.inr hlay) hi hd hn hfit
  refine W.putFinK hexec hb hown hlink hi hst hcf hin2 (by rw [q2]; exact h6) q1 q3 (by rw [hsl]; exact k2_hasslot (q4 k hk)) rfl rfl hdg fun H' e1 e2 e3 => ?_
  rw [hsl] at e1 ⊢
  exact kk H' _ e2 (hP.set hD he ⟨_, hc, t_OB.to (V := updV (vp_V fs) k v) ⟨_, e1, q2, q3, t_set q4 hap hk v⟩ (fun j _ => vp_updV_set hl v j)⟩ e3) (hS0.put e2 e3 (hD.2 q0 _ he))
theorem ziast (hexec : p.tables.exec = Jvm.exec) (hb : c.code = cc) (hK : va_K D cl tys s) (hP : va_P D cl ws H) (hD : va_D A ws) (hS : va_S A H0 H locs) (q0 t0 : Nat) {cA : ClassId} {n : Nat} {f : Nat → Int32} (ha : ws[q0]? = some (a, .inl (cA, n, .inl f))) (ht : tys[t0]? = some (cA, .int)) {i : Int32} {x : Int32} (hin : vp_in i n) (hdg : decode cc pc = .ok (.iastore, 1))
    (kk : ∀ (H1 : Heap) (locs1 : List Loc), H1.size = H.size → va_P D cl (ws.set q0 (a, .inl (cA, n, .inl (upd f i.toNatClampNeg x)))) H1 → va_S A H0 H1 locs1 → W p l e R s m args below meth c H1 locs1 cells slots Q (F0 m (pc + 1) ls rest)) : W p l e R s m args below meth c H locs cells slots Q (F0 m pc ls (.int x :: .int i :: .ref a :: rest)) := by
  refine W.iast hexec hb (hP q0 _ ha) ((hK.2 t0 _ ht).1 n (fun j => .int (f j))) (fun q => by cases q) (by show ¬ (i < 0 ∨ (arrV _ _ _).slots.size ≤ _); rw [arrV_size]; exact hin) rfl rfl hdg fun H1 e z oq => ?_
  refine kk H1 _ z (hP.set hD ha ?_ oq) (hS.put z oq (hD.2 q0 _ ha))
  show H1[a]? = some (vp_cell _ _)
  rw [e]
  rw [vp_cell_i, vp_cell_i, arrV_store]
  congr 2
  funext q
  by_cases hq : q = i.toNatClampNeg
  · subst hq
    simp [updV, upd, vp_updL, vp_nar]
    try rfl
  · simp [updV, upd, vp_updL, hq]
theorem zbast (hexec : p.tables.exec = Jvm.exec) (hb : c.code = cc) (hK : va_K D cl tys s) (hP : va_P D cl ws H) (hD : va_D A ws) (hS : va_S A H0 H locs) (q0 t0 : Nat) {cA : ClassId} {n : Nat} {f : Nat → Int32} (ha : ws[q0]? = some (a, .inl (cA, n, .inl f))) (ht : tys[t0]? = some (cA, .byte)) {i : Int32} {x : Int32} (hin : vp_in i n) (hdg : decode cc pc = .ok (.bastore, 1))
    (kk : ∀ (H1 : Heap) (locs1 : List Loc), H1.size = H.size → va_P D cl (ws.set q0 (a, .inl (cA, n, .inl (upd f i.toNatClampNeg (vp_nar .byte x))))) H1 → va_S A H0 H1 locs1 → W p l e R s m args below meth c H1 locs1 cells slots Q (F0 m (pc + 1) ls rest)) : W p l e R s m args below meth c H locs cells slots Q (F0 m pc ls (.int x :: .int i :: .ref a :: rest)) := by
  refine W.bast hexec hb (hP q0 _ ha) ((hK.2 t0 _ ht).1 n (fun j => .int (f j))) (fun q => by cases q) (by show ¬ (i < 0 ∨ (arrV _ _ _).slots.size ≤ _); rw [arrV_size]; exact hin) rfl rfl hdg fun H1 e z oq => ?_
  refine kk H1 _ z (hP.set hD ha ?_ oq) (hS.put z oq (hD.2 q0 _ ha))
  show H1[a]? = some (vp_cell _ _)
  rw [e]
  rw [vp_cell_i, vp_cell_i, arrV_store]
  congr 2
  funext q
  by_cases hq : q = i.toNatClampNeg
  · subst hq
    simp [updV, upd, vp_updL, vp_nar]
    try rfl
  · simp [updV, upd, vp_updL, hq]
theorem zlast (hexec : p.tables.exec = Jvm.exec) (hb : c.code = cc) (hK : va_K D cl tys s) (hP : va_P D cl ws H) (hD : va_D A ws) (hS : va_S A H0 H locs) (q0 t0 : Nat) {cA : ClassId} {n : Nat} {f : Nat → Int64} (ha : ws[q0]? = some (a, .inl (cA, n, .inr (.inl f)))) (ht : tys[t0]? = some (cA, .long)) {i : Int32} {x : Int64} (hin : vp_in i n) (hdg : decode cc pc = .ok (.lastore, 1))
    (kk : ∀ (H1 : Heap) (locs1 : List Loc), H1.size = H.size → va_P D cl (ws.set q0 (a, .inl (cA, n, .inr (.inl (vp_updL f i.toNatClampNeg x))))) H1 → va_S A H0 H1 locs1 → W p l e R s m args below meth c H1 locs1 cells slots Q (F0 m (pc + 1) ls rest)) : W p l e R s m args below meth c H locs cells slots Q (F0 m pc ls (.long x :: .int i :: .ref a :: rest)) := by
  refine W.last hexec hb (hP q0 _ ha) ((hK.2 t0 _ ht).1 n (fun j => .long (f j))) (fun q => by cases q) (by show ¬ (i < 0 ∨ (arrV _ _ _).slots.size ≤ _); rw [arrV_size]; exact hin) rfl rfl hdg fun H1 e z oq => ?_
  refine kk H1 _ z (hP.set hD ha ?_ oq) (hS.put z oq (hD.2 q0 _ ha))
  show H1[a]? = some (vp_cell _ _)
  rw [e]
  rw [vp_cell_l, vp_cell_l, arrV_store]
  congr 2
  funext q
  by_cases hq : q = i.toNatClampNeg
  · subst hq
    simp [updV, upd, vp_updL, vp_nar]
    try rfl
  · simp [updV, upd, vp_updL, hq]
end ZP
theorem zE_r {G : zG} {sh : zS} {I : zI} {J : zJ} {a b : Nat} {f : Nat → Option Nat} (h : b ≠ a) : zE G (sh.1, sh.2.1, zup sh.2.2 a f) I J b = zE G sh I J b := by
  unfold zE
  dsimp only
  split <;> simp [zup_n h, zfs, zF]
theorem zin_places {big ws : List Cond} (ps : List Nat) (hp : ws = ps.filterMap (fun i => big[i]?)) : ∀ w ∈ ws, w ∈ big := by
  intro w hw
  rw [hp] at hw
  obtain ⟨i, -, hi⟩ := List.mem_filterMap.mp hw
  exact List.mem_of_getElem? hi
theorem goodIn_l0 : ∀ w ∈ u_ws (zC 0) (zTT 0) (zN 0), w ∈ tables_1 := zin_places [275, 277, 279, 281, 283] (by decide +kernel)
theorem goodIn_l1 : ∀ w ∈ u_ws (zC 1) (zTT 1) (zN 1), w ∈ tables_1 := zin_places [75, 77, 79, 81, 83] (by decide +kernel)
theorem goodIn_l2 : ∀ w ∈ u_ws (zC 2) (zTT 2) (zN 2), w ∈ tables_1 := zin_places [112, 114, 116, 118, 120] (by decide +kernel)
theorem goodIn_l3 : ∀ w ∈ u_ws (zC 3) (zTT 3) (zN 3), w ∈ tables_1 := zin_places [163, 165, 167, 169, 171, 173, 175, 177, 179, 181, 183, 185, 187] (by decide +kernel)
theorem goodIn_l4 : ∀ w ∈ u_ws (zC 4) (zTT 4) (zN 4), w ∈ tables_1 := zin_places [301, 303, 305, 307, 309, 311] (by decide +kernel)
theorem goodIn_l5 : ∀ w ∈ u_ws (zC 5) (zTT 5) (zN 5), w ∈ tables_1 := zin_places [246, 248, 250, 252, 254, 256, 258, 260] (by decide +kernel)
theorem goodIn_l6 : ∀ w ∈ u_ws (zC 6) (zTT 6) (zN 6), w ∈ tables_1 := zin_places [214, 216, 218, 220, 222, 224] (by decide +kernel)
theorem goodIn_l7 : ∀ w ∈ u_ws (zC 7) (zTT 7) (zN 7), w ∈ tables_1 := zin_places [198] (by decide +kernel)
theorem goodIn_l8 : ∀ w ∈ u_ws (zC 8) (zTT 8) (zN 8), w ∈ tables_1 := zin_places [61, 63, 65] (by decide +kernel)
theorem goodIn_l9 : ∀ w ∈ u_ws (zC 9) (zTT 9) (zN 9), w ∈ tables_1 := zin_places [136, 138, 140] (by decide +kernel)
theorem goodIn_l10 : ∀ w ∈ u_ws (zC 10) (zTT 10) (zN 10), w ∈ tables_1 := zin_places [35, 37] (by decide +kernel)
theorem goodIn_l11 : ∀ w ∈ u_ws (zC 11) (zTT 11) (zN 11), w ∈ tables_1 := zin_places [332, 334, 336, 338, 340, 342, 344, 346, 348, 350, 352, 354, 356, 358, 360, 362, 364, 366] (by decide +kernel)
theorem goodIn_l12 : ∀ w ∈ u_ws (zC 12) (zTT 12) (zN 12), w ∈ tables_1 := zin_places [1167, 1169, 1171, 1173, 1175, 1177, 1179, 1181, 1183, 1185, 1187, 1189, 1191, 1193, 1195, 1197, 1199, 1201, 1203, 1205, 1207, 1209, 1211, 1213, 1215, 1217, 1219, 1221, 1223, 1225, 1227, 1229, 1231, 1233, 1235, 1237, 1239, 1241, 1243, 1245, 1247, 1249, 1251, 1253, 1255, 1257, 1259, 1261, 1263, 1265, 1267, 1269, 1271, 1273, 1275, 1277, 1279, 1281, 1283, 1285, 1287, 1289, 1291, 1293, 1295, 1297, 1299, 1301, 1303, 1305, 1307, 1309, 1311] (by decide +kernel)
/-! THE SMALL MACHINE, 4: fields, arrays, what is made -/
theorem zly0 : ∀ w ∈ u_ws (zC 0) (zTT 0) (zN 0), w ∈ zGood := fun w h => zg_of (goodIn_l0 w h) (List.all_eq_true.mp (by decide +kernel : (u_ws (zC 0) (zTT 0) (zN 0)).all goodWord = true) w h)
theorem zly1 : ∀ w ∈ u_ws (zC 1) (zTT 1) (zN 1), w ∈ zGood := fun w h => zg_of (goodIn_l1 w h) (List.all_eq_true.mp (by decide +kernel : (u_ws (zC 1) (zTT 1) (zN 1)).all goodWord = true) w h)
theorem zly2 : ∀ w ∈ u_ws (zC 2) (zTT 2) (zN 2), w ∈ zGood := fun w h => zg_of (goodIn_l2 w h) (List.all_eq_true.mp (by decide +kernel : (u_ws (zC 2) (zTT 2) (zN 2)).all goodWord = true) w h)
theorem zly3 : ∀ w ∈ u_ws (zC 3) (zTT 3) (zN 3), w ∈ zGood := fun w h => zg_of (goodIn_l3 w h) (List.all_eq_true.mp (by decide +kernel : (u_ws (zC 3) (zTT 3) (zN 3)).all goodWord = true) w h)
theorem zly4 : ∀ w ∈ u_ws (zC 4) (zTT 4) (zN 4), w ∈ zGood := fun w h => zg_of (goodIn_l4 w h) (List.all_eq_true.mp (by decide +kernel : (u_ws (zC 4) (zTT 4) (zN 4)).all goodWord = true) w h)
theorem zly5 : ∀ w ∈ u_ws (zC 5) (zTT 5) (zN 5), w ∈ zGood := fun w h => zg_of (goodIn_l5 w h) (List.all_eq_true.mp (by decide +kernel : (u_ws (zC 5) (zTT 5) (zN 5)).all goodWord = true) w h)
theorem zly6 : ∀ w ∈ u_ws (zC 6) (zTT 6) (zN 6), w ∈ zGood := fun w h => zg_of (goodIn_l6 w h) (List.all_eq_true.mp (by decide +kernel : (u_ws (zC 6) (zTT 6) (zN 6)).all goodWord = true) w h)
theorem zly7 : ∀ w ∈ u_ws (zC 7) (zTT 7) (zN 7), w ∈ zGood := fun w h => zg_of (goodIn_l7 w h) (List.all_eq_true.mp (by decide +kernel : (u_ws (zC 7) (zTT 7) (zN 7)).all goodWord = true) w h)
theorem zly8 : ∀ w ∈ u_ws (zC 8) (zTT 8) (zN 8), w ∈ zGood := fun w h => zg_of (goodIn_l8 w h) (List.all_eq_true.mp (by decide +kernel : (u_ws (zC 8) (zTT 8) (zN 8)).all goodWord = true) w h)
theorem zly9 : ∀ w ∈ u_ws (zC 9) (zTT 9) (zN 9), w ∈ zGood := fun w h => zg_of (goodIn_l9 w h) (List.all_eq_true.mp (by decide +kernel : (u_ws (zC 9) (zTT 9) (zN 9)).all goodWord = true) w h)
theorem zly10 : ∀ w ∈ u_ws (zC 10) (zTT 10) (zN 10), w ∈ zGood := fun w h => zg_of (goodIn_l10 w h) (List.all_eq_true.mp (by decide +kernel : (u_ws (zC 10) (zTT 10) (zN 10)).all goodWord = true) w h)
theorem zly11 : ∀ w ∈ u_ws (zC 11) (zTT 11) (zN 11), w ∈ zGood := fun w h => zg_of (goodIn_l11 w h) (List.all_eq_true.mp (by decide +kernel : (u_ws (zC 11) (zTT 11) (zN 11)).all goodWord = true) w h)
theorem zly12 : ∀ w ∈ u_ws (zC 12) (zTT 12) (zN 12), w ∈ zGood := fun w h => zg_of (goodIn_l12 w h) (List.all_eq_true.mp (by decide +kernel : (u_ws (zC 12) (zTT 12) (zN 12)).all goodWord = true) w h)
theorem zly {c : Nat} (h : c < 13) : ∀ w ∈ u_ws (zC c) (zTT c) (zN c), w ∈ zGood := by
  rcases (show c = 0 ∨ c = 1 ∨ c = 2 ∨ c = 3 ∨ c = 4 ∨ c = 5 ∨ c = 6 ∨ c = 7 ∨ c = 8 ∨ c = 9 ∨ c = 10 ∨ c = 11 ∨ c = 12 by omega) with h | h | h | h | h | h | h | h | h | h | h | h | h <;> subst h
  · exact zly0
  · exact zly1
  · exact zly2
  · exact zly3
  · exact zly4
  · exact zly5
  · exact zly6
  · exact zly7
  · exact zly8
  · exact zly9
  · exact zly10
  · exact zly11
  · exact zly12
theorem zty_ok {c : Nat} (h : c < 13) : ∀ k, k < zN c → parseFieldDescriptor (zTT c k).2.2.1 = some (zty c k) := by
  rcases (show c = 0 ∨ c = 1 ∨ c = 2 ∨ c = 3 ∨ c = 4 ∨ c = 5 ∨ c = 6 ∨ c = 7 ∨ c = 8 ∨ c = 9 ∨ c = 10 ∨ c = 11 ∨ c = 12 by omega) with h | h | h | h | h | h | h | h | h | h | h | h | h <;> subst h
  · exact tyX0_ok
  · exact tyX1_ok
  · exact tyX2_ok
  · exact tyX3_ok
  · exact tyX4_ok
  · exact tyX5_ok
  · exact tyX6_ok
  · exact tyX7_ok
  · exact tyX8_ok
  · exact tyX9_ok
  · exact tyX10_ok
  · exact tyX11_ok
  · exact tyX12_ok
theorem znm {c : Nat} (h : c < 13) : ∀ a, a < zN c → ∀ b, b < zN c → a ≠ b → (zTT c a).2.1 ≠ (zTT c b).2.1 := by
  rcases (show c = 0 ∨ c = 1 ∨ c = 2 ∨ c = 3 ∨ c = 4 ∨ c = 5 ∨ c = 6 ∨ c = 7 ∨ c = 8 ∨ c = 9 ∨ c = 10 ∨ c = 11 ∨ c = 12 by omega) with h | h | h | h | h | h | h | h | h | h | h | h | h <;> subst h
  · exact nmX0
  · exact nmX1
  · exact nmX2
  · exact nmX3
  · exact nmX4
  · exact nmX5
  · exact nmX6
  · exact nmX7
  · exact nmX8
  · exact nmX9
  · exact nmX10
  · exact nmX11
  · exact nmX12
theorem zdef {c : Nat} (h : c < 13) : ∀ j, j < zN c → defaultValue (zty c j) = if zRef (zty c j) = true then .null else .int 0 := by
  revert c
  decide +kernel
/-- the link of a field: own's entry idx is the field k of the class c -/
def zFL (own : String) (idx c k : Nat) : Prop := c < 13 ∧ k < zN c ∧ (Cond.fieldLink own idx (zTT c k).1 (zTT c k).2.1 (zTT c k).2.2.1 ∈ zGood ∨ ∃ host, Cond.fieldLinkNest own idx (zTT c k).1 (zTT c k).2.1 (zTT c k).2.2.1 host ∈ zNst)
section R
variable {G : zG} {M : zM} {d : Nat} {Q : zQ} {pc : Nat} {ls : List (Nat × Value)} {st : List Value} {cs : Nat × Nat} {sh : zS} {I : zI} {J : zJ}
/-- a number in the world -/
def zin (sh : zS) (a : Nat) : Prop := 2 ≤ a ∧ a < sh.1 + 2
theorem V_getI {idx a cc k n : Nat} (hdg : decode (zcc M) pc = .ok (.getfield idx, 3)) (hf : zFL (zy M).cls idx cc k) (ha : zin sh a) (hk : sh.2.1 a = (cc + 4, n)) (hr : zRef (zty cc k) = false)
    (kk : V G M d Q (pc + 3) ls (.int (I a k) :: st) cs sh I J) : V G M d Q pc ls (.ref a :: st) cs sh I J := by
  intro p e R s m args below meth c H locs la Z C E hR hS hl
  obtain ⟨hx, hb, hml, hown, hts, hgl, hin, hrc, hrs, hd1, hd2⟩ := id C
  obtain ⟨hc, hkN, hf⟩ := hf
  have he := zw_a (G := G) (sh := sh) (I := I) (J := J) ha.1 ha.2
  rw [zE_4 hk] at he
  have hv : (zfs G cc sh.2.2 I a)[k]? = some (.int (I a k)) := by rw [zfs_at hkN]; simp [zF, hr]
  rcases hf with h | ⟨host, h⟩
  · exact va_get hx hb hts (zly hc) hown hgl.1 hR.2 (a - 2) he (zcl_at hc) k hkN (hts _ h) (fun _ h9 => h9) hv hdg (kk p e R s m args below meth c H locs la Z C E hR hS hl)
  · exact va_getN hx hb hts (zly hc) hown hgl.1 hR.2 (a - 2) he (zcl_at hc) k hkN (va_Nw.use rfl (hgl.2.1.1 _ h)) (fun _ h9 => h9) hv hdg (kk p e R s m args below meth c H locs la Z C E hR hS hl)
theorem V_getR {idx a cc k n b : Nat} (hdg : decode (zcc M) pc = .ok (.getfield idx, 3)) (hf : zFL (zy M).cls idx cc k) (ha : zin sh a) (hk : sh.2.1 a = (cc + 4, n)) (hr : zRef (zty cc k) = true) (hv0 : sh.2.2 a k = some b)
    (kk : V G M d Q (pc + 3) ls (.ref b :: st) cs sh I J) : V G M d Q pc ls (.ref a :: st) cs sh I J := by
  intro p e R s m args below meth c H locs la Z C E hR hS hl
  obtain ⟨hx, hb, hml, hown, hts, hgl, hin, hrc, hrs, hd1, hd2⟩ := id C
  obtain ⟨hc, hkN, hf⟩ := hf
  have he := zw_a (G := G) (sh := sh) (I := I) (J := J) ha.1 ha.2
  rw [zE_4 hk] at he
  have hv : (zfs G cc sh.2.2 I a)[k]? = some (.ref (zA G b)) := by rw [zfs_at hkN]; simp [zF, hr, hv0, va_rf]
  rcases hf with h | ⟨host, h⟩
  · exact va_get hx hb hts (zly hc) hown hgl.1 hR.2 (a - 2) he (zcl_at hc) k hkN (hts _ h) (fun _ h9 => h9) hv hdg (kk p e R s m args below meth c H locs la Z C E hR hS hl)
  · exact va_getN hx hb hts (zly hc) hown hgl.1 hR.2 (a - 2) he (zcl_at hc) k hkN (va_Nw.use rfl (hgl.2.1.1 _ h)) (fun _ h9 => h9) hv hdg (kk p e R s m args below meth c H locs la Z C E hR hS hl)
theorem V_putI {idx a cc k n : Nat} {x : Int32} (hdg : decode (zcc M) pc = .ok (.putfield idx, 3)) (hf : zFL (zy M).cls idx cc k) (ha : zin sh a) (hk : sh.2.1 a = (cc + 4, n)) (hr : zRef (zty cc k) = false) (hfin : (zTT cc k).2.2.2 = false) (hn : narrow (zty cc k) (.int x) = .int x ∧ fits (zty cc k) (.int x) = true)
    (kk : V G M d Q (pc + 3) ls st cs sh (zup I a (upd (I a) k x)) J) : V G M d Q pc ls (.int x :: .ref a :: st) cs sh I J := by
  intro p e R s m args below meth c H locs la Z C E hR hS hl
  obtain ⟨hx, hb, hml, hown, hts, hgl, hin, hrc, hrs, hd1, hd2⟩ := id C
  obtain ⟨hc, hkN, hf⟩ := hf
  have he := zw_a (G := G) (sh := sh) (I := I) (J := J) ha.1 ha.2
  rw [zE_4 hk] at he
  obtain ⟨i, rfl⟩ : ∃ i, a = i + 2 := ⟨a - 2, by have := ha.1; omega⟩
  have hset : (zw G sh I J).set (i + 2 - 2) (zA G (i + 2), .inr (cc, (zfs G cc sh.2.2 I (i + 2)).set k (.int x))) = zw G sh (zup I (i + 2) (upd (I (i + 2)) k x)) J :=
    zw_set (i := i) (by have := ha.2; omega) rfl (by rw [zE_4 hk, zup_zfs hkN hr]) (fun b hb => zE_I hb)
  have go : ∀ (H1 : Heap) (locs1 : List Loc), H1.size = H.size → va_P (zD G) vwCl ((zw G sh I J).set (i + 2 - 2) (zA G (i + 2), .inr (cc, (zfs G cc sh.2.2 I (i + 2)).set k (.int x)))) H1 → va_S (zFr G) s.heap H1 locs1 → W p (zl G) e R s m args below meth c H1 locs1 cs.1 cs.2 Z (F0 m (pc + 3) la (st.map (zV G))) := fun H1 locs1 hz h1 h2 =>
    kk p e R s m args below meth c H1 locs1 la Z C E ⟨hz.trans hR.1, by rw [← hset]; exact h1⟩ h2 hl
  rcases hf with h | ⟨host, h⟩
  · exact zput hx hb hts (zly hc) (zty cc) (zty_ok hc) (znm hc) hown hgl.1 hR.2 zw_D hS (i + 2 - 2) he (zcl_at hc) k hkN (Or.inl (hts _ h)) hfin (zty_ok hc k hkN) hn.1 hn.2 (by rw [zfs_len]; exact hkN) hdg go
  · exact zput hx hb hts (zly hc) (zty cc) (zty_ok hc) (znm hc) hown hgl.1 hR.2 zw_D hS (i + 2 - 2) he (zcl_at hc) k hkN (Or.inr ⟨host, va_Nw.use rfl (hgl.2.1.1 _ h)⟩) hfin (zty_ok hc k hkN) hn.1 hn.2 (by rw [zfs_len]; exact hkN) hdg go
theorem V_putR {idx a cc k n b : Nat} (hdg : decode (zcc M) pc = .ok (.putfield idx, 3)) (hf : zFL (zy M).cls idx cc k) (hfo : Cond.fieldLink (zy M).cls idx (zTT cc k).1 (zTT cc k).2.1 (zTT cc k).2.2.1 ∈ zGood) (ha : zin sh a) (hk : sh.2.1 a = (cc + 4, n)) (hr : zRef (zty cc k) = true) (hfin : (zTT cc k).2.2.2 = true) (hi : (zy M).name = "<init>") (hdecl : (zTT cc k).1 = (zy M).cls) (hn : ∀ q, narrow (zty cc k) (.ref q) = .ref q ∧ fits (zty cc k) (.ref q) = true)
    (kk : V G M d Q (pc + 3) ls st cs (sh.1, sh.2.1, zup sh.2.2 a (fun j => if j = k then some b else sh.2.2 a j)) I J) : V G M d Q pc ls (.ref b :: .ref a :: st) cs sh I J := by
  intro p e R s m args below meth c H locs la Z C E hR hS hl
  obtain ⟨hx, hb, hml, hown, hts, hgl, hin, hrc, hrs, hd1, hd2⟩ := id C
  obtain ⟨hc, hkN, hf⟩ := hf
  have he := zw_a (G := G) (sh := sh) (I := I) (J := J) ha.1 ha.2
  rw [zE_4 hk] at he
  obtain ⟨i, rfl⟩ : ∃ i, a = i + 2 := ⟨a - 2, by have := ha.1; omega⟩
  have hset : (zw G sh I J).set (i + 2 - 2) (zA G (i + 2), .inr (cc, (zfs G cc sh.2.2 I (i + 2)).set k (.ref (zA G b)))) = zw G (sh.1, sh.2.1, zup sh.2.2 (i + 2) (fun j => if j = k then some b else sh.2.2 (i + 2) j)) I J :=
    zw_set (i := i) (by have := ha.2; omega) rfl (by rw [zE_4 (sh := (sh.1, sh.2.1, zup sh.2.2 (i + 2) (fun j => if j = k then some b else sh.2.2 (i + 2) j))) hk, zfs_rf hkN hr]; rfl) (fun b hb => zE_r hb)
  refine zputF hx hb hts (zly hc) (zty cc) (zty_ok hc) (znm hc) hown hgl.1 hR.2 zw_D hS (i + 2 - 2) he (zcl_at hc) k hkN (hts _ hfo) hfin (hin hi) hdecl (zty_ok hc k hkN) (hn _).1 (hn _).2 (by rw [zfs_len]; exact hkN) hdg (fun H1 locs1 hz h1 h2 => ?_)
  exact kk p e R s m args below meth c H1 locs1 la Z C E ⟨hz.trans hR.1, by rw [← hset]; exact h1⟩ h2 hl
theorem V_iald {a n : Nat} {i : Int32} (hdg : decode (zcc M) pc = .ok (.iaload, 1)) (ha : zin sh a) (hk : sh.2.1 a = (1, n)) (hi : vp_in i n)
    (kk : V G M d Q (pc + 1) ls (.int (I a i.toNatClampNeg) :: st) cs sh I J) : V G M d Q pc ls (.int i :: .ref a :: st) cs sh I J := by
  intro p e R s m args below meth c H locs la Z C E hR hS hl
  obtain ⟨hx, hb, hml, hown, hts, hgl, hin, hrc, hrs, hd1, hd2⟩ := id C
  have he := zw_a (G := G) (sh := sh) (I := I) (J := J) ha.1 ha.2
  rw [zE_1 hk] at he
  exact va_iald hx hb hgl.1 hR.2 (a - 2) 1 he rfl hi hdg (kk p e R s m args below meth c H locs la Z C E hR hS hl)
theorem V_bald {a n : Nat} {i : Int32} (hdg : decode (zcc M) pc = .ok (.baload, 1)) (ha : zin sh a) (hk : sh.2.1 a = (0, n)) (hi : vp_in i n)
    (kk : V G M d Q (pc + 1) ls (.int (I a i.toNatClampNeg) :: st) cs sh I J) : V G M d Q pc ls (.int i :: .ref a :: st) cs sh I J := by
  intro p e R s m args below meth c H locs la Z C E hR hS hl
  obtain ⟨hx, hb, hml, hown, hts, hgl, hin, hrc, hrs, hd1, hd2⟩ := id C
  have he := zw_a (G := G) (sh := sh) (I := I) (J := J) ha.1 ha.2
  rw [zE_0 hk] at he
  exact va_bald hx hb hgl.1 hR.2 (a - 2) 0 he rfl hi hdg (kk p e R s m args below meth c H locs la Z C E hR hS hl)
theorem V_lald {a n : Nat} {i : Int32} (hdg : decode (zcc M) pc = .ok (.laload, 1)) (ha : zin sh a) (hk : sh.2.1 a = (2, n)) (hi : vp_in i n)
    (kk : V G M d Q (pc + 1) ls (.long (J a i.toNatClampNeg) :: st) cs sh I J) : V G M d Q pc ls (.int i :: .ref a :: st) cs sh I J := by
  intro p e R s m args below meth c H locs la Z C E hR hS hl
  obtain ⟨hx, hb, hml, hown, hts, hgl, hin, hrc, hrs, hd1, hd2⟩ := id C
  have he := zw_a (G := G) (sh := sh) (I := I) (J := J) ha.1 ha.2
  rw [zE_2 hk] at he
  exact va_lald hx hb hgl.1 hR.2 (a - 2) 2 he rfl hi hdg (kk p e R s m args below meth c H locs la Z C E hR hS hl)
theorem V_iast {a n : Nat} {i : Int32} {x : Int32} (hdg : decode (zcc M) pc = .ok (.iastore, 1)) (ha : zin sh a) (hk : sh.2.1 a = (1, n)) (hi : vp_in i n)
    (kk : V G M d Q (pc + 1) ls st cs sh (zup I a (upd (I a) i.toNatClampNeg x)) J) : V G M d Q pc ls (.int x :: .int i :: .ref a :: st) cs sh I J := by
  intro p e R s m args below meth c H locs la Z C E hR hS hl
  obtain ⟨hx, hb, hml, hown, hts, hgl, hin, hrc, hrs, hd1, hd2⟩ := id C
  have he := zw_a (G := G) (sh := sh) (I := I) (J := J) ha.1 ha.2
  rw [zE_1 hk] at he
  obtain ⟨i0, rfl⟩ : ∃ i, a = i + 2 := ⟨a - 2, by have := ha.1; omega⟩
  refine ziast hx hb hgl.1 hR.2 zw_D hS (i0 + 2 - 2) 1 he rfl hi hdg (fun H1 locs1 hz h1 h2 => ?_)
  have hset : (zw G sh I J).set (i0 + 2 - 2) (zA G (i0 + 2), .inl (zdA G 1, n, .inl (upd (I (i0 + 2)) i.toNatClampNeg x))) = zw G sh (zup I (i0 + 2) (upd (I (i0 + 2)) i.toNatClampNeg x)) J :=
    zw_set (i := i0) (by have := ha.2; omega) rfl (by rw [zE_1 hk, zup_s]) (fun b hb => zE_I hb)
  exact kk p e R s m args below meth c H1 locs1 la Z C E ⟨hz.trans hR.1, by rw [← hset]; exact h1⟩ h2 hl
theorem V_bast {a n : Nat} {i : Int32} {x : Int32} (hdg : decode (zcc M) pc = .ok (.bastore, 1)) (ha : zin sh a) (hk : sh.2.1 a = (0, n)) (hi : vp_in i n)
    (kk : V G M d Q (pc + 1) ls st cs sh (zup I a (upd (I a) i.toNatClampNeg (vp_nar .byte x))) J) : V G M d Q pc ls (.int x :: .int i :: .ref a :: st) cs sh I J := by
  intro p e R s m args below meth c H locs la Z C E hR hS hl
  obtain ⟨hx, hb, hml, hown, hts, hgl, hin, hrc, hrs, hd1, hd2⟩ := id C
  have he := zw_a (G := G) (sh := sh) (I := I) (J := J) ha.1 ha.2
  rw [zE_0 hk] at he
  obtain ⟨i0, rfl⟩ : ∃ i, a = i + 2 := ⟨a - 2, by have := ha.1; omega⟩
  refine zbast hx hb hgl.1 hR.2 zw_D hS (i0 + 2 - 2) 0 he rfl hi hdg (fun H1 locs1 hz h1 h2 => ?_)
  have hset : (zw G sh I J).set (i0 + 2 - 2) (zA G (i0 + 2), .inl (zdA G 0, n, .inl (upd (I (i0 + 2)) i.toNatClampNeg (vp_nar .byte x)))) = zw G sh (zup I (i0 + 2) (upd (I (i0 + 2)) i.toNatClampNeg (vp_nar .byte x))) J :=
    zw_set (i := i0) (by have := ha.2; omega) rfl (by rw [zE_0 hk, zup_s]) (fun b hb => zE_I hb)
  exact kk p e R s m args below meth c H1 locs1 la Z C E ⟨hz.trans hR.1, by rw [← hset]; exact h1⟩ h2 hl
theorem V_last {a n : Nat} {i : Int32} {x : Int64} (hdg : decode (zcc M) pc = .ok (.lastore, 1)) (ha : zin sh a) (hk : sh.2.1 a = (2, n)) (hi : vp_in i n)
    (kk : V G M d Q (pc + 1) ls st cs sh I (zup J a (vp_updL (J a) i.toNatClampNeg x))) : V G M d Q pc ls (.long x :: .int i :: .ref a :: st) cs sh I J := by
  intro p e R s m args below meth c H locs la Z C E hR hS hl
  obtain ⟨hx, hb, hml, hown, hts, hgl, hin, hrc, hrs, hd1, hd2⟩ := id C
  have he := zw_a (G := G) (sh := sh) (I := I) (J := J) ha.1 ha.2
  rw [zE_2 hk] at he
  obtain ⟨i0, rfl⟩ : ∃ i, a = i + 2 := ⟨a - 2, by have := ha.1; omega⟩
  refine zlast hx hb hgl.1 hR.2 zw_D hS (i0 + 2 - 2) 2 he rfl hi hdg (fun H1 locs1 hz h1 h2 => ?_)
  have hset : (zw G sh I J).set (i0 + 2 - 2) (zA G (i0 + 2), .inl (zdA G 2, n, .inr (.inl (vp_updL (J (i0 + 2)) i.toNatClampNeg x)))) = zw G sh I (zup J (i0 + 2) (vp_updL (J (i0 + 2)) i.toNatClampNeg x)) :=
    zw_set (i := i0) (by have := ha.2; omega) rfl (by rw [zE_2 hk, zup_s]) (fun b hb => zE_J hb)
  exact kk p e R s m args below meth c H1 locs1 la Z C E ⟨hz.trans hR.1, by rw [← hset]; exact h1⟩ h2 hl
theorem V_scr {i : Int32} (hdg : decode (zcc M) pc = .ok (.iaload, 1)) (hi : vp_in i (zL G))
    (kk : V G M d Q (pc + 1) ls (.int (zxs G i.toNatClampNeg) :: st) cs sh I J) : V G M d Q pc ls (.int i :: .ref 0 :: st) cs sh I J := by
  intro p e R s m args below meth c H locs la Z C E hR hS hl
  obtain ⟨hx, hb, hml, hown, hts, hgl, hin, hrc, hrs, hd1, hd2⟩ := id C
  obtain ⟨-, -, hX, -, -, hbn, hns⟩ := hgl
  exact va_sld hx hb hX (Nat.lt_of_lt_of_le hbn hns) (by show ¬ zn G ≤ zb G; omega) hS hi hdg (kk p e R s m args below meth c H locs la Z C E hR hS hl)
theorem V_slen {v : Int32} (hdg : decode (zcc M) pc = .ok (.arraylength, 1)) (hv : Int32.ofNat (zL G) = v)
    (kk : V G M d Q (pc + 1) ls (.int v :: st) cs sh I J) : V G M d Q pc ls (.ref 0 :: st) cs sh I J := by
  intro p e R s m args below meth c H locs la Z C E hR hS hl
  obtain ⟨hx, hb, hml, hown, hts, hgl, hin, hrc, hrs, hd1, hd2⟩ := id C
  obtain ⟨-, -, hX, -, -, hbn, hns⟩ := hgl
  subst hv
  exact va_slen hx hb hX (Nat.lt_of_lt_of_le hbn hns) (by show ¬ zn G ≤ zb G; omega) hS hdg (kk p e R s m args below meth c H locs la Z C E hR hS hl)
theorem V_tab {i : Int32} (hdg : decode (zcc M) pc = .ok (.iaload, 1)) (hi : vp_in i 56)
    (kk : V G M d Q (pc + 1) ls (.int (zCodes i.toNatClampNeg) :: st) cs sh I J) : V G M d Q pc ls (.int i :: .ref 1 :: st) cs sh I J := by
  intro p e R s m args below meth c H locs la Z C E hR hS hl
  obtain ⟨hx, hb, hml, hown, hts, hgl, hin, hrc, hrs, hd1, hd2⟩ := id C
  obtain ⟨-, -, -, -, hT, -, -⟩ := hgl
  exact va_ti hx hb hT hS hi rfl hdg (kk p e R s m args below meth c H locs la Z C E hR hS hl)
theorem V_tlen (hdg : decode (zcc M) pc = .ok (.arraylength, 1))
    (kk : V G M d Q (pc + 1) ls (.int 56 :: st) cs sh I J) : V G M d Q pc ls (.ref 1 :: st) cs sh I J := by
  intro p e R s m args below meth c H locs la Z C E hR hS hl
  obtain ⟨hx, hb, hml, hown, hts, hgl, hin, hrc, hrs, hd1, hd2⟩ := id C
  obtain ⟨-, -, -, -, hT, -, -⟩ := hgl
  exact va_tlen hx hb hT hS rfl hdg (kk p e R s m args below meth c H locs la Z C E hR hS hl)
theorem V_gets {idx : Nat} (hdg : decode (zcc M) pc = .ok (.getstatic idx, 3)) (hf : Cond.fieldLink (zy M).cls idx RX2 "CODES" "[I" ∈ zGood)
    (kk : V G M d Q (pc + 3) ls (.ref 1 :: st) cs sh I J) : V G M d Q pc ls st cs sh I J := by
  intro p e R s m args below meth c H locs la Z C E hR hS hl
  obtain ⟨hx, hb, hml, hown, hts, hgl, hin, hrc, hrs, hd1, hd2⟩ := id C
  obtain ⟨-, -, -, hZ, -, -, -⟩ := hgl
  exact va_gets hx hb hZ hS hown (hts _ hf) (fun _ h9 => h9) hdg (kk p e R s m args below meth c H locs la Z C E hR hS hl)
theorem V_alen {a t n : Nat} {v : Int32} (hdg : decode (zcc M) pc = .ok (.arraylength, 1)) (ha : zin sh a) (hk : sh.2.1 a = (t, n)) (ht : t < 4) (hv : Int32.ofNat n = v)
    (kk : V G M d Q (pc + 1) ls (.int v :: st) cs sh I J) : V G M d Q pc ls (.ref a :: st) cs sh I J := by
  intro p e R s m args below meth c H locs la Z C E hR hS hl
  obtain ⟨hx, hb, hml, hown, hts, hgl, hin, hrc, hrs, hd1, hd2⟩ := id C
  have he := zw_a (G := G) (sh := sh) (I := I) (J := J) ha.1 ha.2
  rcases (show t = 0 ∨ t = 1 ∨ t = 2 ∨ t = 3 by omega) with h | h | h | h <;> subst h
  · rw [zE_0 hk] at he; exact va_alen hx hb hgl.1 hR.2 (a - 2) 0 he (ty := .byte) rfl hv hdg (kk p e R s m args below meth c H locs la Z C E hR hS hl)
  · rw [zE_1 hk] at he; exact va_alen hx hb hgl.1 hR.2 (a - 2) 1 he (ty := .int) rfl hv hdg (kk p e R s m args below meth c H locs la Z C E hR hS hl)
  · rw [zE_2 hk] at he; exact va_alen hx hb hgl.1 hR.2 (a - 2) 2 he (ty := .long) rfl hv hdg (kk p e R s m args below meth c H locs la Z C E hR hS hl)
  · rw [zE_3 hk] at he; exact va_alen hx hb hgl.1 hR.2 (a - 2) 3 he (ty := .object RX8) rfl hv hdg (kk p e R s m args below meth c H locs la Z C E hR hS hl)
theorem V_aald {a n b : Nat} {i : Int32} (hdg : decode (zcc M) pc = .ok (.aaload, 1)) (ha : zin sh a) (hk : sh.2.1 a = (3, n)) (hi : vp_in i n) (hv : sh.2.2 a i.toNatClampNeg = some b)
    (kk : V G M d Q (pc + 1) ls (.ref b :: st) cs sh I J) : V G M d Q pc ls (.int i :: .ref a :: st) cs sh I J := by
  intro p e R s m args below meth c H locs la Z C E hR hS hl
  obtain ⟨hx, hb, hml, hown, hts, hgl, hin, hrc, hrs, hd1, hd2⟩ := id C
  have he := zw_a (G := G) (sh := sh) (I := I) (J := J) ha.1 ha.2
  rw [zE_3 hk] at he
  refine va_aldq hx hb hgl.1 hR.2 (a - 2) 3 he rfl hi hdg ?_
  have hv2 : va_rf (Option.map (zA G) (sh.2.2 a i.toNatClampNeg)) = .ref (zA G b) := by rw [hv]; rfl
  rw [hv2]
  exact kk p e R s m args below meth c H locs la Z C E hR hS hl
end R
