/-! THE MODEL: its reader: a text -/
/-- what a text leaves as it is -/
def fU (I0 I : zI) : Prop := (∀ b, b ≠ 62 → (b < 67 ∨ 72 < b) → I b = I0 b) ∧ ∀ k, k ≠ 7 → k ≠ 8 → k ≠ 9 → (k < 10 ∨ 15 < k) → I 62 k = I0 62 k
/-- and that is told -/
def fV (I0 I : zI) (t : Nat) : Prop := (∀ b, b ≠ 62 → (b < 67 ∨ 78 < b) → I b = I0 b) ∧ (∀ k, k ≠ 7 → k ≠ 8 → k ≠ 9 → (k < 10 ∨ 15 < k) → k ≠ 39 → I 62 k = I0 62 k) ∧ (∀ i, i ≠ t → I 74 i = I0 74 i) ∧ (∀ i, (i < 16 * t ∨ 16 * t + 16 ≤ i) → I 75 i = I0 75 i ∧ I 76 i = I0 76 i ∧ I 77 i = I0 77 i ∧ I 78 i = I0 78 i) ∧ ∀ i, (i < 260 * t ∨ 260 * t + 260 ≤ i) → I 73 i = I0 73 i
def toldM (I : zI) (t : Nat) (a : cls3) : Prop := I 74 t = nI a.length ∧ ∀ j c g1 g2, a[j]? = some (c, g1, g2) → I 75 (16 * t + j) = nI c ∧ I 76 (16 * t + j) = nI (260 * t + plA a j) ∧ I 77 (16 * t + j) = nI (260 * t + plA a j + g1.length) ∧ I 78 (16 * t + j) = nI (260 * t + plA a j + g1.length + g2.length) ∧ cmAt (I 73) (260 * t + plA a j) (g1 ++ g2)
theorem fU_t {A B C : zI} (h : fU A B) (h2 : fT B C) : fU A C := ⟨fun b h1 h3 => (h2.1 b h1 h3).trans (h.1 b h1 h3), fun k h1 h3 h4 h5 => (h2.2 k h3 h5).trans (h.2 k h1 h3 h4 h5)⟩
theorem fU_9 {A B C : zI} (h : fU A B) (e1 : ∀ b, b ≠ 62 → C b = B b) (e2 : ∀ k, k ≠ 7 → k ≠ 8 → C 62 k = B 62 k) : fU A C := ⟨fun b h1 h3 => (e1 b h1).trans (h.1 b h1 h3), fun k h1 h3 h4 h5 => (e2 k h1 h3).trans (h.2 k h1 h3 h4 h5)⟩
/-- what reads comes to -/
def rdsQ (I : zI) (J : zJ) (t : Nat) (r : Nat × Nat × cls3) : zQ := zP (fun w I' J' => J = J' ∧ w = some (.int (if r.1 = 0 then nI r.2.2.length else fltI r.1 r.2.1)) ∧ I' 62 7 = nI 0 ∧ (r.1 ≠ 0 → fU I I') ∧ (r.1 = 0 → I' 62 39 = nI 0 ∧ toldM I' t r.2.2 ∧ fV I I' t))
/-- copied, first: the codes -/
def cpyA (B I : zI) (t m : Nat) : Prop := (∀ b, b ≠ 73 → I b = B b) ∧ (∀ i, i < m → I 73 (260 * t + i) = B 67 i) ∧ ∀ i, (i < 260 * t ∨ 260 * t + 260 ≤ i) → I 73 i = B 73 i
theorem cpyA_s {B I : zI} {t m : Nat} (h : cpyA B I t m) (hm : m < 260) {x : Int32} (hx : x = B 67 m) : cpyA B (zwr I 73 (260 * t + m) x) t (m + 1) := by
  obtain ⟨h1, h2, h3⟩ := h
  refine ⟨fun b hb => (zup_n hb).trans (h1 b hb), fun i hi => ?_, fun i hi => ?_⟩
  · rw [zwr_at]
    by_cases e : i = m
    · subst e; rw [if_pos ⟨rfl, rfl⟩, hx]
    · rw [if_neg (by omega)]; exact h2 i (by omega)
  · rw [zwr_at, if_neg (by omega)]; exact h3 i hi
/-- then the clauses -/
def cpyB (B I : zI) (t : Nat) (a : cls3) (m : Nat) : Prop := (∀ b, (b < 75 ∨ 78 < b) → I b = B b) ∧ (∀ j c g1 g2, j < m → a[j]? = some (c, g1, g2) → I 75 (16 * t + j) = nI c ∧ I 76 (16 * t + j) = nI (260 * t + plA a j) ∧ I 77 (16 * t + j) = nI (260 * t + (plA a j + g1.length)) ∧ I 78 (16 * t + j) = nI (260 * t + (plA a j + g1.length + g2.length))) ∧ ∀ i, (i < 16 * t ∨ 16 * t + 16 ≤ i) → I 75 i = B 75 i ∧ I 76 i = B 76 i ∧ I 77 i = B 77 i ∧ I 78 i = B 78 i
theorem cpyB_s {B I : zI} {t m c : Nat} {a : cls3} {g1 g2 : List (Nat × Nat)} (h : cpyB B I t a m) (hm : m < 16) (ha : a[m]? = some (c, g1, g2)) : cpyB B (zwr (zwr (zwr (zwr I 75 (16 * t + m) (nI c)) 76 (16 * t + m) (nI (260 * t + plA a m))) 77 (16 * t + m) (nI (260 * t + (plA a m + g1.length)))) 78 (16 * t + m) (nI (260 * t + (plA a m + g1.length + g2.length)))) t a (m + 1) := by
  obtain ⟨h1, h2, h3⟩ := h
  refine ⟨fun b hb => (zup_n (by omega)).trans ((zup_n (by omega)).trans ((zup_n (by omega)).trans ((zup_n (by omega)).trans (h1 b hb)))), fun j c' g1' g2' hj hj2 => ?_, fun i hi => ?_⟩
  · simp only [zwr_at]
    by_cases e : j = m
    · subst e
      rw [ha] at hj2
      have e1 := Option.some.inj hj2
      injection e1 with e2 e3
      injection e3 with e4 e5
      subst e2 e4 e5
      simp
    · have h4 := h2 j c' g1' g2' (by omega) hj2
      have hne : ¬ (16 * t + j = 16 * t + m) := by omega
      simp only [hne, and_false, if_false]
      exact h4
  · have hne : ¬ (i = 16 * t + m) := by omega
    simp only [zwr_at, hne, and_false, if_false]
    exact h3 i hi
set_option maxRecDepth 100000 in
set_option maxHeartbeats 4000000 in
theorem lp_rdN {G : zG} {I : zI} {J : zJ} {I1 : zI} {t n fc q : Nat} {u : cls3} (hfc : fc ≠ 0) (h10 : I1 62 10 = fltI fc q) (hF : fU I I1) : V G mX12_reads 8 (rdsQ I J t (fc, q, u)) 47 [(0, .ref 62), (1, .int (nI t)), (2, .int (nI n)), (3, .int (nI 0))] [] (0, 0) zsh I1 J := by
  refine V_iload_n dX12_reads_47 rfl ?_
  refine V_if_eq (tgt := 88) dX12_reads_48 rfl (fun _ => ?_) (fun h => absurd h (by decide))
  refine V_aload_n dX12_reads_88 rfl ?_
  refine V_iconst (v := nI 0) dX12_reads_89 rfl ?_
  refine V_putW dX12_reads_90 fX12_212 ⟨Nat.le_of_ble_eq_true rfl, Nat.le_of_ble_eq_true rfl⟩ rfl rfl rfl ⟨rfl, rfl⟩ ?_
  refine V_iload_n dX12_reads_93 rfl ?_
  refine V_if_ne (tgt := 102) dX12_reads_94 rfl (fun h => absurd h (by decide)) (fun _ => ?_)
  refine V_aload_n dX12_reads_97 rfl ?_
  refine V_getI dX12_reads_98 fX12_229 ⟨Nat.le_of_ble_eq_true rfl, Nat.le_of_ble_eq_true rfl⟩ rfl rfl ?_
  refine V_eqI (y := I1 62 10) rfl ?_
  refine V_eqI (y := fltI fc q) h10 ?_
  exact V_iret ⟨Or.inl rfl, dX12_reads_101⟩ ⟨Nat.le_of_ble_eq_true rfl, Nat.le_of_ble_eq_true rfl⟩ ⟨rfl, rfl, congrArg (fun z => some (Value.int z)) (if_neg hfc).symm, zwr_at.trans (if_pos ⟨rfl, rfl⟩), fun _ => fU_9 hF (fun b hb => zup_n hb) (fun k h7 _ => zwr_at.trans (if_neg (fun e => h7 e.2))), fun e => absurd e hfc⟩

theorem lp_rdF {I I1 B C : zI} {J : zJ} {t q : Nat} {a : cls3} (hB13 : B 62 13 = nI (plA a a.length)) (hB15 : B 62 15 = nI a.length) (ha16 : a.length ≤ 16) (hp240 : plA a a.length ≤ 240) (ht : t ≤ 4) (hB7 : B 62 7 = nI 0) (hB39 : B 62 39 = nI 0) (hB74 : B 74 t = nI a.length) (hB74o : ∀ i, i ≠ t → B 74 i = I 74 i) (hBo : ∀ b, b ≠ 62 → b ≠ 74 → (b < 67 ∨ 72 < b) → B b = I b) (hBk : ∀ k, k ≠ 7 → k ≠ 8 → k ≠ 9 → (k < 10 ∨ 15 < k) → k ≠ 39 → B 62 k = I 62 k) (hBc : ∀ k c, (allC a)[k]? = some c → B 67 k = nI (encM c)) (hBs : ∀ j c g1 g2, a[j]? = some (c, g1, g2) → B 69 j = nI c ∧ B 70 j = nI (plA a j) ∧ B 71 j = nI (plA a j + g1.length) ∧ B 72 j = nI (plA a j + g1.length + g2.length)) (hA : cpyA B C t (plA a a.length)) (hI : cpyB C I1 t a a.length) : rdsQ I J t (0, q, a) (some (.int (nI a.length))) zsh I1 J := by
  have h1 := hI.1
  refine ⟨rfl, rfl, congrArg (fun z => some (Value.int z)) (if_pos rfl).symm, ?_, fun e => absurd rfl e, fun _ => ⟨?_, ⟨?_, ?_⟩, ?_⟩⟩
  · rw [h1 62 (by decide), hA.1 62 (by decide)]; exact hB7
  · rw [h1 62 (by decide), hA.1 62 (by decide)]; exact hB39
  · rw [h1 74 (by decide), hA.1 74 (by decide)]; exact hB74
  · intro j c g1 g2 hj
    have hjl : j < a.length := (List.getElem?_eq_some_iff.mp hj).1
    obtain ⟨k1, k2, k3, k4⟩ := hI.2.1 j c g1 g2 (by omega) hj
    refine ⟨k1, k2, by rw [k3]; exact congrArg nI (show 260 * t + (plA a j + g1.length) = 260 * t + plA a j + g1.length by omega), by rw [k4]; exact congrArg nI (show 260 * t + (plA a j + g1.length + g2.length) = 260 * t + plA a j + g1.length + g2.length by omega), ?_⟩
    intro k d hd
    have h5 := allC_at hj k d hd
    have h6 : plA a j + k < (allC a).length := (List.getElem?_eq_some_iff.mp h5).1
    rw [allC_len] at h6
    rw [h1 73 (by decide), show 260 * t + plA a j + k = 260 * t + (plA a j + k) by omega, hA.2.1 _ h6]
    exact hBc _ _ h5
  · refine ⟨fun b b1 b2 => ?_, fun k k1 k2 k3 k4 k5 => ?_, fun i hi => ?_, fun i hi => ?_, fun i hi => ?_⟩
    · rw [h1 b (by omega), hA.1 b (by omega)]; exact hBo b b1 (by omega) (by omega)
    · rw [h1 62 (by decide), hA.1 62 (by decide)]; exact hBk k k1 k2 k3 k4 k5
    · rw [h1 74 (by decide), hA.1 74 (by decide)]; exact hB74o i hi
    · obtain ⟨k1, k2, k3, k4⟩ := hI.2.2 i hi
      rw [k1, k2, k3, k4, hA.1 75 (by decide), hA.1 76 (by decide), hA.1 77 (by decide), hA.1 78 (by decide), hBo 75 (by decide) (by decide) (by decide), hBo 76 (by decide) (by decide) (by decide), hBo 77 (by decide) (by decide) (by decide), hBo 78 (by decide) (by decide) (by decide)]
      exact ⟨rfl, rfl, rfl, rfl⟩
    · rw [h1 73 (by decide), hA.2.2 i hi, hBo 73 (by decide) (by decide) (by decide)]
set_option maxRecDepth 100000 in
set_option maxHeartbeats 4000000 in
theorem lp_rdB {G : zG} {I B C : zI} {J : zJ} {t q : Nat} {a : cls3} (hB13 : B 62 13 = nI (plA a a.length)) (hB15 : B 62 15 = nI a.length) (ha16 : a.length ≤ 16) (hp240 : plA a a.length ≤ 240) (ht : t ≤ 4) (hB7 : B 62 7 = nI 0) (hB39 : B 62 39 = nI 0) (hB74 : B 74 t = nI a.length) (hB74o : ∀ i, i ≠ t → B 74 i = I 74 i) (hBo : ∀ b, b ≠ 62 → b ≠ 74 → (b < 67 ∨ 72 < b) → B b = I b) (hBk : ∀ k, k ≠ 7 → k ≠ 8 → k ≠ 9 → (k < 10 ∨ 15 < k) → k ≠ 39 → B 62 k = I 62 k) (hBc : ∀ k c, (allC a)[k]? = some c → B 67 k = nI (encM c)) (hBs : ∀ j c g1 g2, a[j]? = some (c, g1, g2) → B 69 j = nI c ∧ B 70 j = nI (plA a j) ∧ B 71 j = nI (plA a j + g1.length) ∧ B 72 j = nI (plA a j + g1.length + g2.length)) (hA : cpyA B C t (plA a a.length)) : ∀ d m (I1 : zI), m + d = a.length → cpyB C I1 t a m → V G mX12_reads 8 (rdsQ I J t (0, q, a)) 162 [(0, .ref 62), (1, .int (nI t)), (4, .int (nI (260 * t))), (5, .int (nI m))] [] (0, 0) zsh I1 J := by
  intro d
  induction d with
  | zero =>
    intro m I1 hmd hI
    have h1 := hI.1
    have hm2 : m = a.length := by omega
    refine V_iload dX12_reads_162 rfl ?_
    refine V_aload_n dX12_reads_164 rfl ?_
    refine V_getI dX12_reads_165 fX12_300 ⟨Nat.le_of_ble_eq_true rfl, Nat.le_of_ble_eq_true rfl⟩ rfl rfl ?_
    refine V_eqI (y := nI a.length) ((congrFun (h1 62 (by decide)) 15).trans ((congrFun (hA.1 62 (by decide)) 15).trans hB15)) ?_
    refine V_icmp_geN (tgt := 262) dX12_reads_168 rfl (by omega) (by omega) (fun _ => ?_) (fun h => absurd h (by omega))
    refine V_aload_n dX12_reads_262 rfl ?_
    refine V_getI dX12_reads_263 fX12_300 ⟨Nat.le_of_ble_eq_true rfl, Nat.le_of_ble_eq_true rfl⟩ rfl rfl ?_
    refine V_eqI (y := nI a.length) ((congrFun (h1 62 (by decide)) 15).trans ((congrFun (hA.1 62 (by decide)) 15).trans hB15)) ?_
    exact V_iret ⟨Or.inl rfl, dX12_reads_266⟩ ⟨Nat.le_of_ble_eq_true rfl, Nat.le_of_ble_eq_true rfl⟩ (lp_rdF hB13 hB15 ha16 hp240 ht hB7 hB39 hB74 hB74o hBo hBk hBc hBs hA (hm2 ▸ hI))
  | succ d ih =>
    intro m I1 hmd hI
    have h1 := hI.1
    have hml : m < a.length := by omega
    obtain ⟨x, hx⟩ : ∃ x, a[m]? = some x := ⟨a[m], List.getElem?_eq_getElem hml⟩
    obtain ⟨c, g1, g2⟩ := x
    have hcl := hBs m c g1 g2 hx
    have hmp := plA_mono (a := a) (show m + 1 ≤ a.length from hml)
    have hms : plA a (m + 1) = plA a m + g1.length + g2.length := plA_step hx
    refine V_iload dX12_reads_162 rfl ?_
    refine V_aload_n dX12_reads_164 rfl ?_
    refine V_getI dX12_reads_165 fX12_300 ⟨Nat.le_of_ble_eq_true rfl, Nat.le_of_ble_eq_true rfl⟩ rfl rfl ?_
    refine V_eqI (y := nI a.length) ((congrFun (h1 62 (by decide)) 15).trans ((congrFun (hA.1 62 (by decide)) 15).trans hB15)) ?_
    refine V_icmp_geN (tgt := 262) dX12_reads_168 rfl (by omega) (by omega) (fun h => absurd h (by omega)) (fun _ => ?_)
    refine V_aload_n dX12_reads_171 rfl ?_
    refine V_getR (b := 75) dX12_reads_172 fX12_47 ⟨Nat.le_of_ble_eq_true rfl, Nat.le_of_ble_eq_true rfl⟩ rfl rfl rfl ?_
    refine V_bipush (v := nI 16) dX12_reads_175 rfl ?_
    refine V_iload_n dX12_reads_177 rfl ?_
    refine V_imulN dX12_reads_178 ?_
    refine V_iload dX12_reads_179 rfl ?_
    refine V_iaddN dX12_reads_181 ?_
    refine V_aload_n dX12_reads_182 rfl ?_
    refine V_getR (b := 69) dX12_reads_183 fX12_29 ⟨Nat.le_of_ble_eq_true rfl, Nat.le_of_ble_eq_true rfl⟩ rfl rfl rfl ?_
    refine V_iload dX12_reads_186 rfl ?_
    refine V_ialdN (k := m) dX12_reads_188 ⟨Nat.le_of_ble_eq_true rfl, Nat.le_of_ble_eq_true rfl⟩ rfl (by decide) (by omega) ?_
    refine V_eqI (y := nI c) ((congrFun (h1 69 (by decide)) m).trans ((congrFun (hA.1 69 (by decide)) m).trans hcl.1)) ?_
    refine V_iastN (k := (16 * t) + m) dX12_reads_189 ⟨Nat.le_of_ble_eq_true rfl, Nat.le_of_ble_eq_true rfl⟩ rfl (by decide) (by omega) ?_
    refine V_aload_n dX12_reads_190 rfl ?_
    refine V_getR (b := 76) dX12_reads_191 fX12_50 ⟨Nat.le_of_ble_eq_true rfl, Nat.le_of_ble_eq_true rfl⟩ rfl rfl rfl ?_
    refine V_bipush (v := nI 16) dX12_reads_194 rfl ?_
    refine V_iload_n dX12_reads_196 rfl ?_
    refine V_imulN dX12_reads_197 ?_
    refine V_iload dX12_reads_198 rfl ?_
    refine V_iaddN dX12_reads_200 ?_
    refine V_iload dX12_reads_201 rfl ?_
    refine V_aload_n dX12_reads_203 rfl ?_
    refine V_getR (b := 70) dX12_reads_204 fX12_32 ⟨Nat.le_of_ble_eq_true rfl, Nat.le_of_ble_eq_true rfl⟩ rfl rfl rfl ?_
    refine V_iload dX12_reads_207 rfl ?_
    refine V_ialdN (k := m) dX12_reads_209 ⟨Nat.le_of_ble_eq_true rfl, Nat.le_of_ble_eq_true rfl⟩ rfl (by decide) (by omega) ?_
    refine V_eqI (y := I1 70 m) rfl ?_
    refine V_eqI (y := nI (plA a m)) ((congrFun (h1 70 (by decide)) m).trans ((congrFun (hA.1 70 (by decide)) m).trans hcl.2.1)) ?_
    refine V_iaddN dX12_reads_210 ?_
    refine V_iastN (k := (16 * t) + m) dX12_reads_211 ⟨Nat.le_of_ble_eq_true rfl, Nat.le_of_ble_eq_true rfl⟩ rfl (by decide) (by omega) ?_
    refine V_aload_n dX12_reads_212 rfl ?_
    refine V_getR (b := 77) dX12_reads_213 fX12_53 ⟨Nat.le_of_ble_eq_true rfl, Nat.le_of_ble_eq_true rfl⟩ rfl rfl rfl ?_
    refine V_bipush (v := nI 16) dX12_reads_216 rfl ?_
    refine V_iload_n dX12_reads_218 rfl ?_
    refine V_imulN dX12_reads_219 ?_
    refine V_iload dX12_reads_220 rfl ?_
    refine V_iaddN dX12_reads_222 ?_
    refine V_iload dX12_reads_223 rfl ?_
    refine V_aload_n dX12_reads_225 rfl ?_
    refine V_getR (b := 71) dX12_reads_226 fX12_35 ⟨Nat.le_of_ble_eq_true rfl, Nat.le_of_ble_eq_true rfl⟩ rfl rfl rfl ?_
    refine V_iload dX12_reads_229 rfl ?_
    refine V_ialdN (k := m) dX12_reads_231 ⟨Nat.le_of_ble_eq_true rfl, Nat.le_of_ble_eq_true rfl⟩ rfl (by decide) (by omega) ?_
    refine V_eqI (y := I1 71 m) rfl ?_
    refine V_eqI (y := nI (plA a m + g1.length)) ((congrFun (h1 71 (by decide)) m).trans ((congrFun (hA.1 71 (by decide)) m).trans hcl.2.2.1)) ?_
    refine V_iaddN dX12_reads_232 ?_
    refine V_iastN (k := (16 * t) + m) dX12_reads_233 ⟨Nat.le_of_ble_eq_true rfl, Nat.le_of_ble_eq_true rfl⟩ rfl (by decide) (by omega) ?_
    refine V_aload_n dX12_reads_234 rfl ?_
    refine V_getR (b := 78) dX12_reads_235 fX12_56 ⟨Nat.le_of_ble_eq_true rfl, Nat.le_of_ble_eq_true rfl⟩ rfl rfl rfl ?_
    refine V_bipush (v := nI 16) dX12_reads_238 rfl ?_
    refine V_iload_n dX12_reads_240 rfl ?_
    refine V_imulN dX12_reads_241 ?_
    refine V_iload dX12_reads_242 rfl ?_
    refine V_iaddN dX12_reads_244 ?_
    refine V_iload dX12_reads_245 rfl ?_
    refine V_aload_n dX12_reads_247 rfl ?_
    refine V_getR (b := 72) dX12_reads_248 fX12_38 ⟨Nat.le_of_ble_eq_true rfl, Nat.le_of_ble_eq_true rfl⟩ rfl rfl rfl ?_
    refine V_iload dX12_reads_251 rfl ?_
    refine V_ialdN (k := m) dX12_reads_253 ⟨Nat.le_of_ble_eq_true rfl, Nat.le_of_ble_eq_true rfl⟩ rfl (by decide) (by omega) ?_
    refine V_eqI (y := I1 72 m) rfl ?_
    refine V_eqI (y := nI (plA a m + g1.length + g2.length)) ((congrFun (h1 72 (by decide)) m).trans ((congrFun (hA.1 72 (by decide)) m).trans hcl.2.2.2)) ?_
    refine V_iaddN dX12_reads_254 ?_
    refine V_iastN (k := (16 * t) + m) dX12_reads_255 ⟨Nat.le_of_ble_eq_true rfl, Nat.le_of_ble_eq_true rfl⟩ rfl (by decide) (by omega) ?_
    refine V_iincN (ls' := [(5, .int (nI (m + 1))), (0, .ref 62), (1, .int (nI t)), (4, .int (nI (260 * t)))]) (n := 1) dX12_reads_256 rfl rfl (by decide) (by decide) rfl ?_
    refine V_goto (tgt := 162) dX12_reads_259 rfl ?_
    refine V_sub2 (ls' := [(0, .ref 62), (1, .int (nI t)), (4, .int (nI (260 * t))), (5, .int (nI (m + 1)))]) (List.forall_mem_cons.mpr ⟨rfl, List.forall_mem_cons.mpr ⟨rfl, List.forall_mem_cons.mpr ⟨rfl, List.forall_mem_cons.mpr ⟨rfl, fun _ h => absurd h List.not_mem_nil⟩⟩⟩⟩) ?_
    exact ih (m + 1) _ (by omega) (cpyB_s hI (by omega) hx)

set_option maxRecDepth 100000 in
set_option maxHeartbeats 4000000 in
theorem lp_rdA {G : zG} {I B : zI} {J : zJ} {t q : Nat} {a : cls3} (hB13 : B 62 13 = nI (plA a a.length)) (hB15 : B 62 15 = nI a.length) (ha16 : a.length ≤ 16) (hp240 : plA a a.length ≤ 240) (ht : t ≤ 4) (hB7 : B 62 7 = nI 0) (hB39 : B 62 39 = nI 0) (hB74 : B 74 t = nI a.length) (hB74o : ∀ i, i ≠ t → B 74 i = I 74 i) (hBo : ∀ b, b ≠ 62 → b ≠ 74 → (b < 67 ∨ 72 < b) → B b = I b) (hBk : ∀ k, k ≠ 7 → k ≠ 8 → k ≠ 9 → (k < 10 ∨ 15 < k) → k ≠ 39 → B 62 k = I 62 k) (hBc : ∀ k c, (allC a)[k]? = some c → B 67 k = nI (encM c)) (hBs : ∀ j c g1 g2, a[j]? = some (c, g1, g2) → B 69 j = nI c ∧ B 70 j = nI (plA a j) ∧ B 71 j = nI (plA a j + g1.length) ∧ B 72 j = nI (plA a j + g1.length + g2.length)) : ∀ d m (I1 : zI), m + d = plA a a.length → cpyA B I1 t m → V G mX12_reads 8 (rdsQ I J t (0, q, a)) 127 [(0, .ref 62), (1, .int (nI t)), (4, .int (nI (260 * t))), (5, .int (nI m))] [] (0, 0) zsh I1 J := by
  intro d
  induction d with
  | zero =>
    intro m I1 hmd hA
    have hm2 : m = plA a a.length := by omega
    refine V_iload dX12_reads_127 rfl ?_
    refine V_aload_n dX12_reads_129 rfl ?_
    refine V_getI dX12_reads_130 fX12_243 ⟨Nat.le_of_ble_eq_true rfl, Nat.le_of_ble_eq_true rfl⟩ rfl rfl ?_
    refine V_eqI (y := nI (plA a a.length)) ((congrFun (hA.1 62 (by decide)) 13).trans hB13) ?_
    refine V_icmp_geN (tgt := 159) dX12_reads_133 rfl (by omega) (by omega) (fun _ => ?_) (fun h => absurd h (by omega))
    refine V_iconst (v := nI 0) dX12_reads_159 rfl ?_
    refine V_istore (ls' := [(5, .int (nI 0)), (0, .ref 62), (1, .int (nI t)), (4, .int (nI (260 * t)))]) dX12_reads_160 (by decide) rfl ?_
    refine V_sub2 (ls' := [(0, .ref 62), (1, .int (nI t)), (4, .int (nI (260 * t))), (5, .int (nI 0))]) (List.forall_mem_cons.mpr ⟨rfl, List.forall_mem_cons.mpr ⟨rfl, List.forall_mem_cons.mpr ⟨rfl, List.forall_mem_cons.mpr ⟨rfl, fun _ h => absurd h List.not_mem_nil⟩⟩⟩⟩) ?_
    exact lp_rdB hB13 hB15 ha16 hp240 ht hB7 hB39 hB74 hB74o hBo hBk hBc hBs (hm2 ▸ hA) a.length 0 I1 (Nat.zero_add _) ⟨fun _ _ => rfl, fun j _ _ _ hj => absurd hj (by omega), fun i hi => ⟨rfl, rfl, rfl, rfl⟩⟩
  | succ d ih =>
    intro m I1 hmd hA
    refine V_iload dX12_reads_127 rfl ?_
    refine V_aload_n dX12_reads_129 rfl ?_
    refine V_getI dX12_reads_130 fX12_243 ⟨Nat.le_of_ble_eq_true rfl, Nat.le_of_ble_eq_true rfl⟩ rfl rfl ?_
    refine V_eqI (y := nI (plA a a.length)) ((congrFun (hA.1 62 (by decide)) 13).trans hB13) ?_
    refine V_icmp_geN (tgt := 159) dX12_reads_133 rfl (by omega) (by omega) (fun h => absurd h (by omega)) (fun _ => ?_)
    refine V_aload_n dX12_reads_136 rfl ?_
    refine V_getR (b := 73) dX12_reads_137 fX12_41 ⟨Nat.le_of_ble_eq_true rfl, Nat.le_of_ble_eq_true rfl⟩ rfl rfl rfl ?_
    refine V_iload dX12_reads_140 rfl ?_
    refine V_iload dX12_reads_142 rfl ?_
    refine V_iaddN dX12_reads_144 ?_
    refine V_aload_n dX12_reads_145 rfl ?_
    refine V_getR (b := 67) dX12_reads_146 fX12_23 ⟨Nat.le_of_ble_eq_true rfl, Nat.le_of_ble_eq_true rfl⟩ rfl rfl rfl ?_
    refine V_iload dX12_reads_149 rfl ?_
    refine V_ialdN (k := m) dX12_reads_151 ⟨Nat.le_of_ble_eq_true rfl, Nat.le_of_ble_eq_true rfl⟩ rfl (by decide) (by omega) ?_
    refine V_iastN (k := (260 * t) + m) dX12_reads_152 ⟨Nat.le_of_ble_eq_true rfl, Nat.le_of_ble_eq_true rfl⟩ rfl (by decide) (by omega) ?_
    refine V_iincN (ls' := [(5, .int (nI (m + 1))), (0, .ref 62), (1, .int (nI t)), (4, .int (nI (260 * t)))]) (n := 1) dX12_reads_153 rfl rfl (by decide) (by decide) rfl ?_
    refine V_goto (tgt := 127) dX12_reads_156 rfl ?_
    refine V_sub2 (ls' := [(0, .ref 62), (1, .int (nI t)), (4, .int (nI (260 * t))), (5, .int (nI (m + 1)))]) (List.forall_mem_cons.mpr ⟨rfl, List.forall_mem_cons.mpr ⟨rfl, List.forall_mem_cons.mpr ⟨rfl, List.forall_mem_cons.mpr ⟨rfl, fun _ h => absurd h List.not_mem_nil⟩⟩⟩⟩) ?_
    exact ih (m + 1) _ (by omega) (cpyA_s hA (by omega) (congrFun (hA.1 67 (by decide)) m))

set_option maxRecDepth 100000 in
set_option maxHeartbeats 4000000 in
theorem lp_rdE {G : zG} {I : zI} {J : zJ} {I1 : zI} {t n q : Nat} {a : cls3} (hW : Wt I1 n q a) (hF : fU I I1) (ha16 : a.length ≤ 16) (ht : t ≤ 4) (hqn : n ≤ q) : V G mX12_reads 8 (rdsQ I J t (0, q, a)) 47 [(0, .ref 62), (1, .int (nI t)), (2, .int (nI n)), (3, .int (nI 1))] [] (0, 0) zsh I1 J := by
  have hn := hW.2.1
  have hq := hW.2.2.2.1
  refine V_iload_n dX12_reads_47 rfl ?_
  refine V_if_eq (tgt := 88) dX12_reads_48 rfl (fun h => absurd h (by decide)) (fun _ => ?_)
  refine V_aload_n dX12_reads_51 rfl ?_
  refine V_getI dX12_reads_52 fX12_219 ⟨Nat.le_of_ble_eq_true rfl, Nat.le_of_ble_eq_true rfl⟩ rfl rfl ?_
  refine V_eqI (y := nI q) hW.2.2.1 ?_
  refine V_aload_n dX12_reads_55 rfl ?_
  refine V_getI dX12_reads_56 fX12_222 ⟨Nat.le_of_ble_eq_true rfl, Nat.le_of_ble_eq_true rfl⟩ rfl rfl ?_
  refine V_eqI (y := nI n) hW.1 ?_
  refine V_icmp_geN (tgt := 88) dX12_reads_59 rfl (by omega) (by omega) (fun _ => ?_) (fun h => absurd h (by omega))
  refine V_aload_n dX12_reads_88 rfl ?_
  refine V_iconst (v := nI 0) dX12_reads_89 rfl ?_
  refine V_putW dX12_reads_90 fX12_212 ⟨Nat.le_of_ble_eq_true rfl, Nat.le_of_ble_eq_true rfl⟩ rfl rfl rfl ⟨rfl, rfl⟩ ?_
  refine V_iload_n dX12_reads_93 rfl ?_
  refine V_if_ne (tgt := 102) dX12_reads_94 rfl (fun _ => ?_) (fun h => absurd h (by decide))
  refine V_aload_n dX12_reads_102 rfl ?_
  refine V_iconst (v := nI 0) dX12_reads_103 rfl ?_
  refine V_putW dX12_reads_104 fX12_312 ⟨Nat.le_of_ble_eq_true rfl, Nat.le_of_ble_eq_true rfl⟩ rfl rfl rfl ⟨rfl, rfl⟩ ?_
  refine V_aload_n dX12_reads_107 rfl ?_
  refine V_getR (b := 74) dX12_reads_108 fX12_44 ⟨Nat.le_of_ble_eq_true rfl, Nat.le_of_ble_eq_true rfl⟩ rfl rfl rfl ?_
  refine V_iload_n dX12_reads_111 rfl ?_
  refine V_aload_n dX12_reads_112 rfl ?_
  refine V_getI dX12_reads_113 fX12_300 ⟨Nat.le_of_ble_eq_true rfl, Nat.le_of_ble_eq_true rfl⟩ rfl rfl ?_
  refine V_eqI (y := I1 62 15) rfl ?_
  refine V_eqI (y := nI a.length) hW.2.2.2.2.2.2.1 ?_
  refine V_iastN (k := t) dX12_reads_116 ⟨Nat.le_of_ble_eq_true rfl, Nat.le_of_ble_eq_true rfl⟩ rfl (by decide) (by omega) ?_
  refine V_sipush (v := nI 260) dX12_reads_117 rfl ?_
  refine V_iload_n dX12_reads_120 rfl ?_
  refine V_imulN dX12_reads_121 ?_
  refine V_istore (ls' := [(4, .int (nI (260 * t))), (0, .ref 62), (1, .int (nI t)), (2, .int (nI n)), (3, .int (nI 1))]) dX12_reads_122 (by decide) rfl ?_
  refine V_iconst (v := nI 0) dX12_reads_124 rfl ?_
  refine V_istore (ls' := [(5, .int (nI 0)), (4, .int (nI (260 * t))), (0, .ref 62), (1, .int (nI t)), (2, .int (nI n)), (3, .int (nI 1))]) dX12_reads_125 (by decide) rfl ?_
  refine V_sub2 (ls' := [(0, .ref 62), (1, .int (nI t)), (4, .int (nI (260 * t))), (5, .int (nI 0))]) (List.forall_mem_cons.mpr ⟨rfl, List.forall_mem_cons.mpr ⟨rfl, List.forall_mem_cons.mpr ⟨rfl, List.forall_mem_cons.mpr ⟨rfl, fun _ h => absurd h List.not_mem_nil⟩⟩⟩⟩) ?_
  refine lp_rdA (B := (zwr (zwr (zwr I1 62 7 (nI 0)) 62 39 (nI 0)) 74 t (nI a.length))) (I := I) ?_ ?_ ha16 (by have := hW.2.2.2.2.2.1; omega) ht ?_ ?_ ?_ ?_ ?_ ?_ ?_ ?_ (plA a a.length) 0 _ (Nat.zero_add _) ⟨fun _ _ => rfl, fun i hi => absurd hi (by omega), fun _ _ => rfl⟩
  · rw [zwr_at, if_neg (by omega), zwr_at, if_neg (by omega), zwr_at, if_neg (by omega)]; exact hW.2.2.2.2.1
  · rw [zwr_at, if_neg (by omega), zwr_at, if_neg (by omega), zwr_at, if_neg (by omega)]; exact hW.2.2.2.2.2.2.1
  · rfl
  · rfl
  · exact zwr_at.trans (if_pos ⟨rfl, rfl⟩)
  · intro i hi; rw [zwr_at, if_neg (by omega), zwr_at, if_neg (by omega), zwr_at, if_neg (by omega), hF.1 74 (by decide) (by decide)]
  · intro b b1 b2 b3; exact (zup_n b2).trans ((zup_n b1).trans ((zup_n b1).trans (hF.1 b b1 b3)))
  · intro k k1 k2 k3 k4 k5; rw [zwr_at, if_neg (by omega), zwr_at, if_neg (by omega), zwr_at, if_neg (by omega)]; exact hF.2 k k1 k2 k3 k4
  · exact hW.2.2.2.2.2.2.2.1
  · exact hW.2.2.2.2.2.2.2.2

/-- what a text comes to behind a clause -/
def pTx2 (tx : Nat → Nat) (n b k p : Nat) (a : cls3) (r : Nat × Nat × List (Nat × Nat) × List (Nat × Nat)) : Nat × Nat × cls3 :=
  if r.1 ≠ 0 then (r.1, r.2.1, []) else if n ≤ r.2.1 then (0, r.2.1, a ++ [(sgn tx n p, r.2.2)]) else if ¬ sgn tx n r.2.1 = 59 then (1, r.2.1, []) else pTxt tx n b k (r.2.1 + 1) (plA (a ++ [(sgn tx n p, r.2.2)]) (a ++ [(sgn tx n p, r.2.2)]).length) (a ++ [(sgn tx n p, r.2.2)]).length (a ++ [(sgn tx n p, r.2.2)])
theorem pTxt_2 {tx : Nat → Nat} {n b k p : Nat} {a : cls3} : pTxt tx n b (k + 1) p (plA a a.length) a.length a = pTx2 tx n b k p a (pCls tx n b p (plA a a.length) a.length) := by
  obtain ⟨fc, q, g1, g2, hr⟩ := ex4 (pCls tx n b p (plA a a.length) a.length)
  conv => lhs; unfold pTxt
  unfold pTx2
  rw [hr]
  have e1 : (a ++ [(sgn tx n p, g1, g2)]).length = a.length + 1 := by rw [List.length_append]; rfl
  have e2 : plA (a ++ [(sgn tx n p, g1, g2)]) (a.length + 1) = plA a a.length + g1.length + g2.length := plA_end
  show _ = (if fc ≠ 0 then (fc, q, []) else if n ≤ q then (0, q, a ++ [(sgn tx n p, g1, g2)]) else if ¬ sgn tx n q = 59 then (1, q, []) else pTxt tx n b k (q + 1) (plA (a ++ [(sgn tx n p, g1, g2)]) (a ++ [(sgn tx n p, g1, g2)]).length) (a ++ [(sgn tx n p, g1, g2)]).length (a ++ [(sgn tx n p, g1, g2)]))
  rw [e1, e2]
set_option maxRecDepth 100000 in
set_option maxHeartbeats 4000000 in
theorem lp_rdL {G : zG} {I : zI} {J : zJ} {tx : Nat → Nat} {n t : Nat} (ht : t ≤ 4) : ∀ k p a r (I1 : zI), a.length + k = 16 → (∀ i, sgn (txI (I1 66)) n i = sgn tx n i) → (r.1 ≠ 0 → False) → (r.1 = 0 → Wt I1 n r.2.1 (a ++ [(sgn tx n p, r.2.2)]) ∧ True) → (r.1 = 0 → a.length < 16) → fU I I1 → V G mX12_reads 8 (rdsQ I J t (pTx2 tx n (bT t) k p a r)) 47 [(0, .ref 62), (1, .int (nI t)), (2, .int (nI n)), (3, .int (nI 1))] [] (0, 0) zsh I1 J := by
  intro k
  induction k with
  | zero =>
    intro p a r I1 hk _ hr0 _ h16 _
    exfalso
    by_cases h0 : r.1 = 0
    · have := h16 h0; omega
    · exact hr0 h0
  | succ k ih =>
    intro p a r I1 hk hxq hr0 hWr h16 hF
    obtain ⟨fc, q, g1, g2⟩ := r
    have hfc : fc = 0 := Classical.byContradiction (fun h => hr0 h)
    subst hfc
    have hW : Wt I1 n q (a ++ [(sgn tx n p, g1, g2)]) := (hWr rfl).1
    have ha15 : a.length < 16 := h16 rfl
    have hL : (a ++ [(sgn tx n p, g1, g2)]).length = a.length + 1 := by rw [List.length_append]; rfl
    show V G mX12_reads 8 (rdsQ I J t (if n ≤ q then (0, q, a ++ [(sgn tx n p, g1, g2)]) else if ¬ sgn tx n q = 59 then (1, q, []) else pTxt tx n (bT t) (k + 1) (q + 1) (plA (a ++ [(sgn tx n p, g1, g2)]) (a ++ [(sgn tx n p, g1, g2)]).length) (a ++ [(sgn tx n p, g1, g2)]).length (a ++ [(sgn tx n p, g1, g2)]))) 47 _ [] (0, 0) zsh I1 J
    generalize a ++ [(sgn tx n p, g1, g2)] = a2 at hW hL ⊢
    have hn := hW.2.1
    have hqn9 := hW.2.2.2.1
    by_cases hqn : n ≤ q
    · rw [if_pos hqn]
      exact lp_rdE hW hF (by omega) ht hqn
    rw [if_neg hqn]
    refine V_iload_n dX12_reads_47 rfl ?_
    refine V_if_eq (tgt := 88) dX12_reads_48 rfl (fun h => absurd h (by decide)) (fun _ => ?_)
    refine V_aload_n dX12_reads_51 rfl ?_
    refine V_getI dX12_reads_52 fX12_219 ⟨Nat.le_of_ble_eq_true rfl, Nat.le_of_ble_eq_true rfl⟩ rfl rfl ?_
    refine V_eqI (y := nI q) hW.2.2.1 ?_
    refine V_aload_n dX12_reads_55 rfl ?_
    refine V_getI dX12_reads_56 fX12_222 ⟨Nat.le_of_ble_eq_true rfl, Nat.le_of_ble_eq_true rfl⟩ rfl rfl ?_
    refine V_eqI (y := nI n) hW.1 ?_
    refine V_icmp_geN (tgt := 88) dX12_reads_59 rfl (by omega) (by omega) (fun h => absurd h (by omega)) (fun _ => ?_)
    by_cases h59 : sgn tx n q = 59
    · skip
      have hqn2 : q < n := sgn_ltn (tx := tx) (by omega)
      refine V_aload_n dX12_reads_62 rfl ?_
      refine V_bipush (v := nI 59) dX12_reads_63 rfl ?_
      refine V_callV (As := [.int (nI 59)]) (st := []) (a := 62) dX12_reads_65 kX12_takes lX12_309 (by decide) rfl rfl (Nat.le_of_ble_eq_true rfl) ⟨Nat.le_of_ble_eq_true rfl, Nat.le_of_ble_eq_true rfl⟩ ⟨Nat.le_of_ble_eq_true rfl, Nat.le_of_ble_eq_true rfl⟩ rfl ⟨rfl, by decide⟩ (w_takesY (n := n) (p := q) ⟨hW.1, hW.2.1, hW.2.2.1, by have := hW.2.1; have := hW.2.2.2.1; omega⟩ (by decide) ((hxq q).trans h59)) ?_
      rintro r sh' _ _ ⟨rfl, rfl, rfl, rfl⟩
      refine V_if_eq (tgt := 83) dX12_reads_68 rfl (fun h => absurd h (by decide)) (fun _ => ?_)
      refine V_aload_n dX12_reads_71 rfl ?_
      refine V_iload_n dX12_reads_72 rfl ?_
      have hW2 : Wt (zwr I1 62 8 (nI (q + 1))) n (q + 1) a2 := ⟨hW.1, hW.2.1, rfl, hqn2, hW.2.2.2.2.1, by have := hW.2.2.2.2.2.1; omega, hW.2.2.2.2.2.2.1, hW.2.2.2.2.2.2.2.1, hW.2.2.2.2.2.2.2.2⟩
      have hx2 : txW (zwr I1 62 8 (nI (q + 1))) tx n := fun i => hxq i
      refine V_callV (As := [.int (nI t)]) (st := []) (a := 62) dX12_reads_73 kX12_readsClause lX12_306 (by decide) rfl rfl (Nat.le_of_ble_eq_true rfl) ⟨Nat.le_of_ble_eq_true rfl, Nat.le_of_ble_eq_true rfl⟩ ⟨Nat.le_of_ble_eq_true rfl, Nat.le_of_ble_eq_true rfl⟩ rfl ⟨rfl, by decide⟩ (w_readsClause (tx := tx) hx2 hW2 (by omega) (by omega)) ?_
      rintro r sh' I2 _ ⟨rfl, hA1, hA2, hT2, rfl⟩
      have hF2 : fU I I2 := fU_t (fU_9 hF (fun b hb => zup_n hb) (fun k _ h8 => zwr_at.trans (if_neg (fun e => h8 e.2)))) hT2
      by_cases h0 : (pCls tx n (bT t) (q + 1) (plA a2 a2.length) a2.length).1 = 0
      · skip
        obtain ⟨rfl, hWn⟩ := hA1 h0
        refine V_if_eq (tgt := 83) dX12_reads_76 rfl (fun h => absurd h (by decide)) (fun _ => ?_)
        refine V_iconst (v := nI 1) dX12_reads_79 rfl ?_
        refine V_goto (tgt := 84) dX12_reads_80 rfl ?_
        refine V_istore_n (ls' := [(3, .int (nI 1)), (0, .ref 62), (1, .int (nI t)), (2, .int (nI n))]) dX12_reads_84 (by decide) rfl ?_
        refine V_goto (tgt := 47) dX12_reads_85 rfl ?_
        refine V_sub2 (ls' := [(0, .ref 62), (1, .int (nI t)), (2, .int (nI n)), (3, .int (nI 1))]) (List.forall_mem_cons.mpr ⟨rfl, List.forall_mem_cons.mpr ⟨rfl, List.forall_mem_cons.mpr ⟨rfl, List.forall_mem_cons.mpr ⟨rfl, fun _ h => absurd h List.not_mem_nil⟩⟩⟩⟩) ?_
        rw [if_neg (fun h => h h59), pTxt_2]
        refine ih (q + 1) a2 _ I2 (by omega) (fun i => ?_) (fun h => absurd h0 h) (fun _ => ⟨hWn, trivial⟩) ?_ hF2
        · rw [show I2 66 = zwr I1 62 8 (nI (q + 1)) 66 from hT2.1 66 (by decide) (by decide)]; exact hxq i
        · exact fun _ => pCls_len h0 |>.2.1
      · skip
        obtain ⟨rfl, h10⟩ := hA2 h0
        refine V_if_eq (tgt := 83) dX12_reads_76 rfl (fun _ => ?_) (fun h => absurd h (by decide))
        refine V_iconst (v := nI 0) dX12_reads_83 rfl ?_
        refine V_istore_n (ls' := [(3, .int (nI 0)), (0, .ref 62), (1, .int (nI t)), (2, .int (nI n))]) dX12_reads_84 (by decide) rfl ?_
        refine V_goto (tgt := 47) dX12_reads_85 rfl ?_
        refine V_sub2 (ls' := [(0, .ref 62), (1, .int (nI t)), (2, .int (nI n)), (3, .int (nI 0))]) (List.forall_mem_cons.mpr ⟨rfl, List.forall_mem_cons.mpr ⟨rfl, List.forall_mem_cons.mpr ⟨rfl, List.forall_mem_cons.mpr ⟨rfl, fun _ h => absurd h List.not_mem_nil⟩⟩⟩⟩) ?_
        rw [if_neg (fun h => h h59), pTxt_2]
        unfold pTx2
        rw [if_pos h0]
        exact lp_rdN h0 h10 hF2
    · skip
      refine V_aload_n dX12_reads_62 rfl ?_
      refine V_bipush (v := nI 59) dX12_reads_63 rfl ?_
      refine V_callV (As := [.int (nI 59)]) (st := []) (a := 62) dX12_reads_65 kX12_takes lX12_309 (by decide) rfl rfl (Nat.le_of_ble_eq_true rfl) ⟨Nat.le_of_ble_eq_true rfl, Nat.le_of_ble_eq_true rfl⟩ ⟨Nat.le_of_ble_eq_true rfl, Nat.le_of_ble_eq_true rfl⟩ rfl ⟨rfl, by decide⟩ (w_takesN (n := n) (p := q) ⟨hW.1, hW.2.1, hW.2.2.1, by have := hW.2.1; have := hW.2.2.2.1; omega⟩ (by decide) (fun e => h59 ((hxq q).symm.trans e))) ?_
      rintro r sh' _ _ ⟨rfl, rfl, rfl, rfl⟩
      refine V_if_eq (tgt := 83) dX12_reads_68 rfl (fun _ => ?_) (fun h => absurd h (by decide))
      refine V_iconst (v := nI 0) dX12_reads_83 rfl ?_
      refine V_istore_n (ls' := [(3, .int (nI 0)), (0, .ref 62), (1, .int (nI t)), (2, .int (nI n))]) dX12_reads_84 (by decide) rfl ?_
      refine V_goto (tgt := 47) dX12_reads_85 rfl ?_
      refine V_sub2 (ls' := [(0, .ref 62), (1, .int (nI t)), (2, .int (nI n)), (3, .int (nI 0))]) (List.forall_mem_cons.mpr ⟨rfl, List.forall_mem_cons.mpr ⟨rfl, List.forall_mem_cons.mpr ⟨rfl, List.forall_mem_cons.mpr ⟨rfl, fun _ h => absurd h List.not_mem_nil⟩⟩⟩⟩) ?_
      rw [if_pos h59]
      exact lp_rdN (by decide) (zwr_at.trans (if_pos ⟨rfl, rfl⟩)) (fU_t hF fT_10)

set_option maxRecDepth 100000 in
set_option maxHeartbeats 4000000 in
theorem w_readsY {G : zG} {I : zI} {J : zJ} {tp : Nat} (htp : I 62 7 = nI tp) (htp2 : tp ≤ 260) {t n : Nat} (ht4 : t ≤ 4) (h1 : 1 ≤ n) (h2 : n ≤ 240) (h3 : n ≤ tp) {tx : Nat → Nat} (hx : txW I tx n) : zK G mX12_reads 8 [.ref 62, .int (nI t), .int (nI n)] zsh I J (rdsQ I J t (pTxt tx n (bT t) 17 0 0 0 [])) := by
  refine zK_of kX12_reads.2.2.2.2.1 (Nat.le_of_ble_eq_true rfl) ?_
  show V G mX12_reads 8 _ 0 [(0, .ref 62), (1, .int (nI t)), (2, .int (nI n))] [] (0, 0) zsh I J
  refine V_iload_n dX12_reads_0 rfl ?_
  refine V_iconst (v := nI 1) dX12_reads_1 rfl ?_
  refine V_sipush (v := nI 240) dX12_reads_2 rfl ?_
  refine V_callS (As := [.int (nI n), .int (nI 1), .int (nI 240)]) (st := []) dX12_reads_5 kX12_in lX12_173 (by decide) rfl rfl (Nat.le_of_ble_eq_true rfl) ⟨Nat.le_of_ble_eq_true rfl, Nat.le_of_ble_eq_true rfl⟩ (w_inY rfl rfl (a := 1) (b := 240) ((inZ_k (by omega)).mpr (by omega))) ?_
  rintro _ _ _ _ ⟨rfl, rfl, rfl, rfl⟩
  refine V_if_eq (tgt := 19) dX12_reads_8 rfl (fun h => absurd h (by decide)) (fun _ => ?_)
  refine V_iload_n dX12_reads_11 rfl ?_
  refine V_aload_n dX12_reads_12 rfl ?_
  refine V_getI dX12_reads_13 fX12_212 ⟨Nat.le_of_ble_eq_true rfl, Nat.le_of_ble_eq_true rfl⟩ rfl rfl ?_
  refine V_eqI (y := nI tp) htp ?_
  refine V_icmp_leN (tgt := 21) dX12_reads_16 rfl (by omega) (by omega) (fun _ => ?_) (fun h => absurd h (by omega))
  refine V_aload_n dX12_reads_21 rfl ?_
  refine V_iconst (v := nI 0) dX12_reads_22 rfl ?_
  refine V_putW dX12_reads_23 fX12_219 ⟨Nat.le_of_ble_eq_true rfl, Nat.le_of_ble_eq_true rfl⟩ rfl rfl rfl ⟨rfl, rfl⟩ ?_
  refine V_aload_n dX12_reads_26 rfl ?_
  refine V_iload_n dX12_reads_27 rfl ?_
  refine V_putW dX12_reads_28 fX12_222 ⟨Nat.le_of_ble_eq_true rfl, Nat.le_of_ble_eq_true rfl⟩ rfl rfl rfl ⟨rfl, rfl⟩ ?_
  refine V_aload_n dX12_reads_31 rfl ?_
  refine V_iconst (v := nI 0) dX12_reads_32 rfl ?_
  refine V_putW dX12_reads_33 fX12_243 ⟨Nat.le_of_ble_eq_true rfl, Nat.le_of_ble_eq_true rfl⟩ rfl rfl rfl ⟨rfl, rfl⟩ ?_
  refine V_aload_n dX12_reads_36 rfl ?_
  refine V_iconst (v := nI 0) dX12_reads_37 rfl ?_
  refine V_putW dX12_reads_38 fX12_300 ⟨Nat.le_of_ble_eq_true rfl, Nat.le_of_ble_eq_true rfl⟩ rfl rfl rfl ⟨rfl, rfl⟩ ?_
  refine V_aload_n dX12_reads_41 rfl ?_
  refine V_iload_n dX12_reads_42 rfl ?_
  have hW4 : Wt (zwr (zwr (zwr (zwr I 62 8 (nI 0)) 62 9 (nI n)) 62 13 (nI 0)) 62 15 (nI 0)) n 0 [] := ⟨by rw [zwr_at, if_neg (by omega), zwr_at, if_neg (by omega), zwr_at, if_pos ⟨rfl, rfl⟩], h2, by rw [zwr_at, if_neg (by omega), zwr_at, if_neg (by omega), zwr_at, if_neg (by omega), zwr_at, if_pos ⟨rfl, rfl⟩], Nat.zero_le _, by rw [zwr_at, if_neg (by omega), zwr_at, if_pos ⟨rfl, rfl⟩]; rfl, Nat.le_refl _, by rw [zwr_at, if_pos ⟨rfl, rfl⟩]; rfl, fun k c hk => absurd hk (by simp [allC]), fun j c g1 g2 hj => absurd hj (by simp)⟩
  have hx4 : txW (zwr (zwr (zwr (zwr I 62 8 (nI 0)) 62 9 (nI n)) 62 13 (nI 0)) 62 15 (nI 0)) tx n := fun i => by rw [show (zwr (zwr (zwr (zwr I 62 8 (nI 0)) 62 9 (nI n)) 62 13 (nI 0)) 62 15 (nI 0)) 66 = I 66 from (zup_n (by decide)).trans ((zup_n (by decide)).trans ((zup_n (by decide)).trans (zup_n (by decide))))]; exact hx i
  have hF4 : fU I (zwr (zwr (zwr (zwr I 62 8 (nI 0)) 62 9 (nI n)) 62 13 (nI 0)) 62 15 (nI 0)) := ⟨fun b b1 _ => (zup_n b1).trans ((zup_n b1).trans ((zup_n b1).trans (zup_n b1))), fun k k7 k8 k9 kk => by rw [zwr_at, if_neg (by omega), zwr_at, if_neg (by omega), zwr_at, if_neg (by omega), zwr_at, if_neg (by omega)]⟩
  refine V_callV (As := [.int (nI t)]) (st := []) (a := 62) dX12_reads_43 kX12_readsClause lX12_306 (by decide) rfl rfl (Nat.le_of_ble_eq_true rfl) ⟨Nat.le_of_ble_eq_true rfl, Nat.le_of_ble_eq_true rfl⟩ ⟨Nat.le_of_ble_eq_true rfl, Nat.le_of_ble_eq_true rfl⟩ rfl ⟨rfl, by decide⟩ (w_readsClause (I := (zwr (zwr (zwr (zwr I 62 8 (nI 0)) 62 9 (nI n)) 62 13 (nI 0)) 62 15 (nI 0))) (tx := tx) hx4 hW4 (Nat.zero_le _) (by omega)) ?_
  rintro r sh' I2 _ ⟨rfl, hA1, hA2, hT2, rfl⟩
  by_cases h0 : (pCls tx n (bT t) 0 (plA [] ([] : cls3).length) ([] : cls3).length).1 = 0
  · skip
    obtain ⟨rfl, hWn⟩ := hA1 h0
    refine V_istore_n (ls' := [(3, .int (nI 1)), (0, .ref 62), (1, .int (nI t)), (2, .int (nI n))]) dX12_reads_46 (by decide) rfl ?_
    refine V_sub2 (ls' := [(0, .ref 62), (1, .int (nI t)), (2, .int (nI n)), (3, .int (nI 1))]) (List.forall_mem_cons.mpr ⟨rfl, List.forall_mem_cons.mpr ⟨rfl, List.forall_mem_cons.mpr ⟨rfl, List.forall_mem_cons.mpr ⟨rfl, fun _ h => absurd h List.not_mem_nil⟩⟩⟩⟩) ?_
    rw [show (pTxt tx n (bT t) 17 0 0 0 []) = pTx2 tx n (bT t) 16 0 [] (pCls tx n (bT t) 0 (plA [] ([] : cls3).length) ([] : cls3).length) from pTxt_2 (a := [])]
    refine lp_rdL (tx := tx) (n := n) ht4 16 0 [] (pCls tx n (bT t) 0 (plA [] ([] : cls3).length) ([] : cls3).length) I2 rfl (fun i => ?_) (fun h => absurd h0 h) (fun _ => ⟨hWn, trivial⟩) (fun _ => by decide) (fU_t hF4 hT2)
    rw [hT2.1 66 (by decide) (by decide)]; exact hx4 i
  · skip
    obtain ⟨rfl, h10⟩ := hA2 h0
    refine V_istore_n (ls' := [(3, .int (nI 0)), (0, .ref 62), (1, .int (nI t)), (2, .int (nI n))]) dX12_reads_46 (by decide) rfl ?_
    refine V_sub2 (ls' := [(0, .ref 62), (1, .int (nI t)), (2, .int (nI n)), (3, .int (nI 0))]) (List.forall_mem_cons.mpr ⟨rfl, List.forall_mem_cons.mpr ⟨rfl, List.forall_mem_cons.mpr ⟨rfl, List.forall_mem_cons.mpr ⟨rfl, fun _ h => absurd h List.not_mem_nil⟩⟩⟩⟩) ?_
    rw [show (pTxt tx n (bT t) 17 0 0 0 []) = pTx2 tx n (bT t) 16 0 [] (pCls tx n (bT t) 0 (plA [] ([] : cls3).length) ([] : cls3).length) from pTxt_2 (a := [])]
    unfold pTx2
    rw [if_pos h0]
    exact lp_rdN h0 h10 (fU_t hF4 hT2)

set_option maxRecDepth 100000 in
set_option maxHeartbeats 4000000 in
theorem w_readsN {G : zG} {I : zI} {J : zJ} {tt t : Nat} (ht : I 62 7 = nI t) (ht2 : t ≤ 260) {n : Int32} (hn : ¬ tkO n 240 t) : zK G mX12_reads 1 [.ref 62, .int (nI tt), .int n] zsh I J (zA0 (.int (-1)) I J) := by
  refine zK_of kX12_reads.2.2.2.2.1 (Nat.le_of_ble_eq_true rfl) ?_
  show V G mX12_reads 1 _ 0 [(0, .ref 62), (1, .int (nI tt)), (2, .int n)] [] (0, 0) zsh I J
  by_cases hi : inZ n 1 240
  · obtain ⟨k, rfl, hk0, hk⟩ := inZ_n hi (by decide)
    have h4 : ¬ k ≤ t := fun h => hn (tkO_k (by omega) (by omega) h (by decide))
    refine V_iload_n dX12_reads_0 rfl ?_
    refine V_iconst (v := nI 1) dX12_reads_1 rfl ?_
    refine V_sipush (v := nI 240) dX12_reads_2 rfl ?_
    refine V_callS (As := [.int (nI k), .int (nI 1), .int (nI 240)]) (st := []) dX12_reads_5 kX12_in lX12_173 (by decide) rfl rfl (Nat.le_of_ble_eq_true rfl) ⟨Nat.le_of_ble_eq_true rfl, Nat.le_of_ble_eq_true rfl⟩ (w_inY rfl rfl (a := 1) (b := 240) ((inZ_k (by omega)).mpr (by omega))) ?_
    rintro _ _ _ _ ⟨rfl, rfl, rfl, rfl⟩
    refine V_if_eq (tgt := 19) dX12_reads_8 rfl (fun h => absurd h (by decide)) (fun _ => ?_)
    refine V_iload_n dX12_reads_11 rfl ?_
    refine V_aload_n dX12_reads_12 rfl ?_
    refine V_getI dX12_reads_13 fX12_212 ⟨Nat.le_of_ble_eq_true rfl, Nat.le_of_ble_eq_true rfl⟩ rfl rfl ?_
    refine V_eqI (y := nI t) ht ?_
    refine V_icmp_leN (tgt := 21) dX12_reads_16 rfl (by omega) (by omega) (fun h => absurd h (by omega)) (fun _ => ?_)
    refine V_iconst (v := (-1)) dX12_reads_19 rfl ?_
    exact V_iret ⟨Or.inl rfl, dX12_reads_20⟩ ⟨Nat.le_of_ble_eq_true rfl, Nat.le_of_ble_eq_true rfl⟩ ⟨rfl, rfl, rfl, rfl⟩
  · skip
    refine V_iload_n dX12_reads_0 rfl ?_
    refine V_iconst (v := nI 1) dX12_reads_1 rfl ?_
    refine V_sipush (v := nI 240) dX12_reads_2 rfl ?_
    refine V_callS (As := [.int n, .int (nI 1), .int (nI 240)]) (st := []) dX12_reads_5 kX12_in lX12_173 (by decide) rfl rfl (Nat.le_of_ble_eq_true rfl) ⟨Nat.le_of_ble_eq_true rfl, Nat.le_of_ble_eq_true rfl⟩ (w_inN rfl rfl (a := 1) (b := 240) hi) ?_
    rintro _ _ _ _ ⟨rfl, rfl, rfl, rfl⟩
    refine V_if_eq (tgt := 19) dX12_reads_8 rfl (fun _ => ?_) (fun h => absurd h (by decide))
    refine V_iconst (v := (-1)) dX12_reads_19 rfl ?_
    exact V_iret ⟨Or.inl rfl, dX12_reads_20⟩ ⟨Nat.le_of_ble_eq_true rfl, Nat.le_of_ble_eq_true rfl⟩ ⟨rfl, rfl, rfl, rfl⟩

set_option maxRecDepth 100000 in
set_option maxHeartbeats 4000000 in
theorem w_lawY {G : zG} {I : zI} {J : zJ} {tp : Nat} (htp : I 62 7 = nI tp) (htp2 : tp ≤ 260) {n : Nat} (h1 : 1 ≤ n) (h2 : n ≤ 240) (h3 : n ≤ tp) {tx : Nat → Nat} (hx : txW I tx n) : zK G mX12_law 9 [.ref 62, .int (nI n)] zsh I J (zP (fun w I' J' => J = J' ∧ w = some (.int (if (pTxt tx n 1 17 0 0 0 []).1 = 0 then nI (pTxt tx n 1 17 0 0 0 []).2.2.length else fltI (pTxt tx n 1 17 0 0 0 []).1 (pTxt tx n 1 17 0 0 0 []).2.1)) ∧ I' 62 7 = nI 0 ∧ ((pTxt tx n 1 17 0 0 0 []).1 ≠ 0 → fU I I') ∧ ((pTxt tx n 1 17 0 0 0 []).1 = 0 → I' 62 39 = nI 0 ∧ I' 62 46 = -1 ∧ I' 62 32 = nI 0 ∧ toldM I' 0 (pTxt tx n 1 17 0 0 0 []).2.2 ∧ ∃ I2, fV I I2 0 ∧ I' = zwr (zwr I2 62 46 (-1)) 62 32 (nI 0)))) := by
  refine zK_of kX12_law.2.2.2.2.1 (Nat.le_of_ble_eq_true rfl) ?_
  show V G mX12_law 9 _ 0 [(0, .ref 62), (1, .int (nI n))] [] (0, 0) zsh I J
  have hT := pTxt_n (tx := tx) (n := n) (b := 1) 17 0 0 0 [] (Nat.zero_le _) rfl rfl (Nat.zero_le _)
  have hT2 := hT.2
  refine V_aload_n dX12_law_0 rfl ?_
  refine V_iconst (v := nI 0) dX12_law_1 rfl ?_
  refine V_iload_n dX12_law_2 rfl ?_
  refine V_callV (As := [.int (nI 0), .int (nI n)]) (st := []) (a := 62) dX12_law_3 kX12_reads lX12_316 (by decide) rfl rfl (Nat.le_of_ble_eq_true rfl) ⟨Nat.le_of_ble_eq_true rfl, Nat.le_of_ble_eq_true rfl⟩ ⟨Nat.le_of_ble_eq_true rfl, Nat.le_of_ble_eq_true rfl⟩ rfl ⟨rfl, by decide⟩ (w_readsY htp htp2 (t := 0) (by decide) h1 h2 h3 hx) ?_
  rintro r sh' I2 J2 ⟨rfl, hJ, hv, hq1, hq2, hq3⟩
  subst hJ
  by_cases h0 : (pTxt tx n 1 17 0 0 0 []).1 = 0
  · skip
    have hv2 : r = some (.int (nI (pTxt tx n 1 17 0 0 0 []).2.2.length)) := hv.trans (congrArg (fun z => some (Value.int z)) (if_pos h0))
    subst hv2
    have hl := hT2 h0
    obtain ⟨k1, k2, k3⟩ := hq3 h0
    refine V_istore_n (ls' := [(2, .int (nI ((pTxt tx n 1 17 0 0 0 []).2.2.length))), (0, .ref 62), (1, .int (nI n))]) dX12_law_6 (by decide) rfl ?_
    refine V_iload_n dX12_law_7 rfl ?_
    refine V_if_leN (tgt := 21) dX12_law_8 rfl (by omega) (fun h => absurd h (by omega)) (fun _ => ?_)
    refine V_aload_n dX12_law_11 rfl ?_
    refine V_iconst (v := (-1)) dX12_law_12 rfl ?_
    refine V_putW dX12_law_13 fX12_155 ⟨Nat.le_of_ble_eq_true rfl, Nat.le_of_ble_eq_true rfl⟩ rfl rfl rfl ⟨rfl, rfl⟩ ?_
    refine V_aload_n dX12_law_16 rfl ?_
    refine V_iconst (v := nI 0) dX12_law_17 rfl ?_
    refine V_putW dX12_law_18 fX12_319 ⟨Nat.le_of_ble_eq_true rfl, Nat.le_of_ble_eq_true rfl⟩ rfl rfl rfl ⟨rfl, rfl⟩ ?_
    refine V_iload_n dX12_law_21 rfl ?_
    exact V_iret ⟨Or.inl rfl, dX12_law_22⟩ ⟨Nat.le_of_ble_eq_true rfl, Nat.le_of_ble_eq_true rfl⟩ ⟨rfl, rfl, congrArg (fun z => some (Value.int z)) (if_pos h0).symm, hq1, fun e => absurd h0 e, fun _ => ⟨k1, rfl, rfl, k2, I2, k3, rfl⟩⟩
  · skip
    have hv2 : r = some (.int (fltI (pTxt tx n 1 17 0 0 0 []).1 (pTxt tx n 1 17 0 0 0 []).2.1)) := hv.trans (congrArg (fun z => some (Value.int z)) (if_neg h0))
    subst hv2
    have hfn := fltI_neg hT.1.1 h0 hT.1.2 h2
    refine V_istore_n (ls' := [(2, .int (fltI (pTxt tx n 1 17 0 0 0 []).1 (pTxt tx n 1 17 0 0 0 []).2.1)), (0, .ref 62), (1, .int (nI n))]) dX12_law_6 (by decide) rfl ?_
    refine V_iload_n dX12_law_7 rfl ?_
    refine V_if_le (tgt := 21) dX12_law_8 rfl (fun _ => ?_) (fun h => absurd (by rw [oz_le]; omega) h)
    refine V_iload_n dX12_law_21 rfl ?_
    exact V_iret ⟨Or.inl rfl, dX12_law_22⟩ ⟨Nat.le_of_ble_eq_true rfl, Nat.le_of_ble_eq_true rfl⟩ ⟨rfl, rfl, congrArg (fun z => some (Value.int z)) (if_neg h0).symm, hq1, fun e => hq2 e, fun e => absurd e h0⟩

set_option maxRecDepth 100000 in
set_option maxHeartbeats 4000000 in
theorem w_lawN {G : zG} {I : zI} {J : zJ} {t : Nat} (ht : I 62 7 = nI t) (ht2 : t ≤ 260) {n : Int32} (hn : ¬ tkO n 240 t) : zK G mX12_law 2 [.ref 62, .int n] zsh I J (zA0 (.int (-1)) I J) := by
  refine zK_of kX12_law.2.2.2.2.1 (Nat.le_of_ble_eq_true rfl) ?_
  show V G mX12_law 2 _ 0 [(0, .ref 62), (1, .int n)] [] (0, 0) zsh I J
  refine V_aload_n dX12_law_0 rfl ?_
  refine V_iconst (v := nI 0) dX12_law_1 rfl ?_
  refine V_iload_n dX12_law_2 rfl ?_
  refine V_callV (As := [.int (nI 0), .int n]) (st := []) (a := 62) dX12_law_3 kX12_reads lX12_316 (by decide) rfl rfl (Nat.le_of_ble_eq_true rfl) ⟨Nat.le_of_ble_eq_true rfl, Nat.le_of_ble_eq_true rfl⟩ ⟨Nat.le_of_ble_eq_true rfl, Nat.le_of_ble_eq_true rfl⟩ rfl ⟨rfl, by decide⟩ (w_readsN ht ht2 hn) ?_
  rintro _ _ _ _ ⟨rfl, rfl, rfl, rfl⟩
  refine V_istore_n (ls' := [(2, .int (-1)), (0, .ref 62), (1, .int n)]) dX12_law_6 (by decide) rfl ?_
  refine V_iload_n dX12_law_7 rfl ?_
  refine V_if_le (tgt := 21) dX12_law_8 rfl (fun _ => ?_) (fun h => absurd h (by decide))
  refine V_iload_n dX12_law_21 rfl ?_
  exact V_iret ⟨Or.inl rfl, dX12_law_22⟩ ⟨Nat.le_of_ble_eq_true rfl, Nat.le_of_ble_eq_true rfl⟩ ⟨rfl, rfl, rfl, rfl⟩

set_option maxRecDepth 100000 in
set_option maxHeartbeats 4000000 in
theorem w_ruleY {G : zG} {I : zI} {J : zJ} {tp : Nat} (htp : I 62 7 = nI tp) (htp2 : tp ≤ 260) {k n : Nat} (hk : k < 4) (h1 : 1 ≤ n) (h2 : n ≤ 240) (h3 : n ≤ tp) {tx : Nat → Nat} (hx : txW I tx n) : zK G mX12_rule 9 [.ref 62, .int (nI k), .int (nI n)] zsh I J (rdsQ I J (k + 1) (pTxt tx n (bT (k + 1)) 17 0 0 0 [])) := by
  refine zK_of kX12_rule.2.2.2.2.1 (Nat.le_of_ble_eq_true rfl) ?_
  show V G mX12_rule 9 _ 0 [(0, .ref 62), (1, .int (nI k)), (2, .int (nI n))] [] (0, 0) zsh I J
  refine V_iload_n dX12_rule_0 rfl ?_
  refine V_callS (As := [.int (nI k)]) (st := []) dX12_rule_1 kX12_isRule lX12_322 (by decide) rfl rfl (Nat.le_of_ble_eq_true rfl) ⟨Nat.le_of_ble_eq_true rfl, Nat.le_of_ble_eq_true rfl⟩ (q_y w_isRule ⟨by rw [nI_toInt (by omega)]; omega, by rw [nI_toInt (by omega)]; omega⟩) ?_
  rintro _ _ _ _ ⟨rfl, rfl, rfl, rfl⟩
  refine V_if_eq (tgt := 18) dX12_rule_4 rfl (fun h => absurd h (by decide)) (fun _ => ?_)
  refine V_aload_n dX12_rule_7 rfl ?_
  refine V_iload_n dX12_rule_8 rfl ?_
  refine V_iconst (v := nI 1) dX12_rule_9 rfl ?_
  refine V_iaddN dX12_rule_10 ?_
  refine V_iload_n dX12_rule_11 rfl ?_
  refine V_callV (As := [.int (nI (k + 1)), .int (nI n)]) (st := []) (a := 62) dX12_rule_12 kX12_reads lX12_316 (by decide) rfl rfl (Nat.le_of_ble_eq_true rfl) ⟨Nat.le_of_ble_eq_true rfl, Nat.le_of_ble_eq_true rfl⟩ ⟨Nat.le_of_ble_eq_true rfl, Nat.le_of_ble_eq_true rfl⟩ rfl ⟨rfl, by decide⟩ (w_readsY htp htp2 (t := k + 1) (by omega) h1 h2 h3 hx) ?_
  rintro r sh' I2 J2 ⟨rfl, hQ⟩
  have hv := hQ.2.1
  subst hv
  refine V_goto (tgt := 19) dX12_rule_15 rfl ?_
  exact V_iret ⟨Or.inl rfl, dX12_rule_19⟩ ⟨Nat.le_of_ble_eq_true rfl, Nat.le_of_ble_eq_true rfl⟩ ⟨rfl, hQ⟩

set_option maxRecDepth 100000 in
set_option maxHeartbeats 4000000 in
theorem w_ruleN {G : zG} {I : zI} {J : zJ} {t : Nat} (ht : I 62 7 = nI t) (ht2 : t ≤ 260) {k n : Int32} (hN : ¬ (inZ k 0 3 ∧ tkO n 240 t)) : zK G mX12_rule 2 [.ref 62, .int k, .int n] zsh I J (zA0 (.int (-1)) I J) := by
  refine zK_of kX12_rule.2.2.2.2.1 (Nat.le_of_ble_eq_true rfl) ?_
  show V G mX12_rule 2 _ 0 [(0, .ref 62), (1, .int k), (2, .int n)] [] (0, 0) zsh I J
  by_cases hk : inZ k 0 3
  · obtain ⟨kk, rfl, hk0, hkk⟩ := inZ_n hk (by decide)
    have hkk4 : kk < 2 ^ 31 := by omega
    refine V_iload_n dX12_rule_0 rfl ?_
    refine V_callS (As := [.int (nI kk)]) (st := []) dX12_rule_1 kX12_isRule lX12_322 (by decide) rfl rfl (Nat.le_of_ble_eq_true rfl) ⟨Nat.le_of_ble_eq_true rfl, Nat.le_of_ble_eq_true rfl⟩ (q_y w_isRule hk) ?_
    rintro _ _ _ _ ⟨rfl, rfl, rfl, rfl⟩
    refine V_if_eq (tgt := 18) dX12_rule_4 rfl (fun h => absurd h (by decide)) (fun _ => ?_)
    refine V_aload_n dX12_rule_7 rfl ?_
    refine V_iload_n dX12_rule_8 rfl ?_
    refine V_iconst (v := nI 1) dX12_rule_9 rfl ?_
    refine V_iaddN dX12_rule_10 ?_
    refine V_iload_n dX12_rule_11 rfl ?_
    refine V_callV (As := [.int (nI (kk + 1)), .int n]) (st := []) (a := 62) dX12_rule_12 kX12_reads lX12_316 (by decide) rfl rfl (Nat.le_of_ble_eq_true rfl) ⟨Nat.le_of_ble_eq_true rfl, Nat.le_of_ble_eq_true rfl⟩ ⟨Nat.le_of_ble_eq_true rfl, Nat.le_of_ble_eq_true rfl⟩ rfl ⟨rfl, by decide⟩ (w_readsN ht ht2 (fun h => hN ⟨hk, h⟩)) ?_
    rintro _ _ _ _ ⟨rfl, rfl, rfl, rfl⟩
    refine V_goto (tgt := 19) dX12_rule_15 rfl ?_
    exact V_iret ⟨Or.inl rfl, dX12_rule_19⟩ ⟨Nat.le_of_ble_eq_true rfl, Nat.le_of_ble_eq_true rfl⟩ ⟨rfl, rfl, rfl, rfl⟩
  · skip
    refine V_iload_n dX12_rule_0 rfl ?_
    refine V_callS (As := [.int k]) (st := []) dX12_rule_1 kX12_isRule lX12_322 (by decide) rfl rfl (Nat.le_of_ble_eq_true rfl) ⟨Nat.le_of_ble_eq_true rfl, Nat.le_of_ble_eq_true rfl⟩ (q_n w_isRule hk) ?_
    rintro _ _ _ _ ⟨rfl, rfl, rfl, rfl⟩
    refine V_if_eq (tgt := 18) dX12_rule_4 rfl (fun _ => ?_) (fun h => absurd h (by decide))
    refine V_iconst (v := (-1)) dX12_rule_18 rfl ?_
    exact V_iret ⟨Or.inl rfl, dX12_rule_19⟩ ⟨Nat.le_of_ble_eq_true rfl, Nat.le_of_ble_eq_true rfl⟩ ⟨rfl, rfl, rfl, rfl⟩

