/-! THE MODEL: its reader's world -/
def opn : List (Nat × Nat) → Nat
  | [] => 0
  | x :: r => (if x.1 = 10 ∨ x.1 = 13 ∨ x.1 = 14 then 1 else 0) + opn r
def pnd : List (Nat × Nat) → Nat
  | [] => 0
  | x :: r => (if x.1 ≤ 10 then 1 else 0) + pnd r
theorem opn_y {x : Nat × Nat} {r : List (Nat × Nat)} (h : x.1 = 10 ∨ x.1 = 13 ∨ x.1 = 14) : opn (x :: r) = opn r + 1 := by show (if _ then 1 else 0) + opn r = _; rw [if_pos h]; omega
theorem opn_n {x : Nat × Nat} {r : List (Nat × Nat)} (h : ¬ (x.1 = 10 ∨ x.1 = 13 ∨ x.1 = 14)) : opn (x :: r) = opn r := by show (if _ then 1 else 0) + opn r = _; rw [if_neg h]; omega
theorem pnd_y {x : Nat × Nat} {r : List (Nat × Nat)} (h : x.1 ≤ 10) : pnd (x :: r) = pnd r + 1 := by show (if _ then 1 else 0) + pnd r = _; rw [if_pos h]; omega
theorem pnd_n {x : Nat × Nat} {r : List (Nat × Nat)} (h : ¬ x.1 ≤ 10) : pnd (x :: r) = pnd r := by show (if _ then 1 else 0) + pnd r = _; rw [if_neg h]; omega
/-- place q of n; what waits (st, the top first); what is said (cs); z codes more may come -/
def Wd (I0 I : zI) (n q z : Nat) (st cs : List (Nat × Nat)) : Prop := (∀ a, a ≠ 62 → a ≠ 67 → a ≠ 68 → I a = I0 a) ∧ (∀ k, k ≠ 8 → k ≠ 10 → k ≠ 11 → k ≠ 12 → k ≠ 13 → k ≠ 14 → I 62 k = I0 62 k) ∧ (I 62 9 = nI n) ∧ (n ≤ 240) ∧ (I 62 8 = nI q) ∧ (q ≤ n) ∧ (I 62 12 = nI (opn st)) ∧ (opn st ≤ 6) ∧ (I 62 13 = nI cs.length) ∧ (I 62 14 = nI st.length) ∧ (st.length ≤ q) ∧ (cs.length + pnd st + z ≤ q) ∧ (∀ k c, cs[k]? = some c → I 67 k = nI (encM c)) ∧ (∀ k x, st.reverse[k]? = some x → I 68 k = nI (1048576 * x.1 + x.2)) ∧ (∀ x, x ∈ st → x.1 ≤ 14 ∧ x.2 < 1048576)
theorem Wd.f1 {I0 I : zI} {n q z : Nat} {st cs : List (Nat × Nat)} (h : Wd I0 I n q z st cs) : ∀ a, a ≠ 62 → a ≠ 67 → a ≠ 68 → I a = I0 a := h.1
theorem Wd.f2 {I0 I : zI} {n q z : Nat} {st cs : List (Nat × Nat)} (h : Wd I0 I n q z st cs) : ∀ k, k ≠ 8 → k ≠ 10 → k ≠ 11 → k ≠ 12 → k ≠ 13 → k ≠ 14 → I 62 k = I0 62 k := h.2.1
theorem Wd.hn {I0 I : zI} {n q z : Nat} {st cs : List (Nat × Nat)} (h : Wd I0 I n q z st cs) : I 62 9 = nI n := h.2.2.1
theorem Wd.n240 {I0 I : zI} {n q z : Nat} {st cs : List (Nat × Nat)} (h : Wd I0 I n q z st cs) : n ≤ 240 := h.2.2.2.1
theorem Wd.hq {I0 I : zI} {n q z : Nat} {st cs : List (Nat × Nat)} (h : Wd I0 I n q z st cs) : I 62 8 = nI q := h.2.2.2.2.1
theorem Wd.qn {I0 I : zI} {n q z : Nat} {st cs : List (Nat × Nat)} (h : Wd I0 I n q z st cs) : q ≤ n := h.2.2.2.2.2.1
theorem Wd.ho {I0 I : zI} {n q z : Nat} {st cs : List (Nat × Nat)} (h : Wd I0 I n q z st cs) : I 62 12 = nI (opn st) := h.2.2.2.2.2.2.1
theorem Wd.o6 {I0 I : zI} {n q z : Nat} {st cs : List (Nat × Nat)} (h : Wd I0 I n q z st cs) : opn st ≤ 6 := h.2.2.2.2.2.2.2.1
theorem Wd.hc {I0 I : zI} {n q z : Nat} {st cs : List (Nat × Nat)} (h : Wd I0 I n q z st cs) : I 62 13 = nI cs.length := h.2.2.2.2.2.2.2.2.1
theorem Wd.hw {I0 I : zI} {n q z : Nat} {st cs : List (Nat × Nat)} (h : Wd I0 I n q z st cs) : I 62 14 = nI st.length := h.2.2.2.2.2.2.2.2.2.1
theorem Wd.sq {I0 I : zI} {n q z : Nat} {st cs : List (Nat × Nat)} (h : Wd I0 I n q z st cs) : st.length ≤ q := h.2.2.2.2.2.2.2.2.2.2.1
theorem Wd.cq {I0 I : zI} {n q z : Nat} {st cs : List (Nat × Nat)} (h : Wd I0 I n q z st cs) : cs.length + pnd st + z ≤ q := h.2.2.2.2.2.2.2.2.2.2.2.1
theorem Wd.hcs {I0 I : zI} {n q z : Nat} {st cs : List (Nat × Nat)} (h : Wd I0 I n q z st cs) : ∀ k c, cs[k]? = some c → I 67 k = nI (encM c) := h.2.2.2.2.2.2.2.2.2.2.2.2.1
theorem Wd.hst {I0 I : zI} {n q z : Nat} {st cs : List (Nat × Nat)} (h : Wd I0 I n q z st cs) : ∀ k x, st.reverse[k]? = some x → I 68 k = nI (1048576 * x.1 + x.2) := h.2.2.2.2.2.2.2.2.2.2.2.2.2.1
theorem Wd.hk {I0 I : zI} {n q z : Nat} {st cs : List (Nat × Nat)} (h : Wd I0 I n q z st cs) : ∀ x, x ∈ st → x.1 ≤ 14 ∧ x.2 < 1048576 := h.2.2.2.2.2.2.2.2.2.2.2.2.2.2
theorem Wd.mk {I0 I : zI} {n q z : Nat} {st cs : List (Nat × Nat)} (f1 : ∀ a, a ≠ 62 → a ≠ 67 → a ≠ 68 → I a = I0 a) (f2 : ∀ k, k ≠ 8 → k ≠ 10 → k ≠ 11 → k ≠ 12 → k ≠ 13 → k ≠ 14 → I 62 k = I0 62 k) (hn : I 62 9 = nI n) (n240 : n ≤ 240) (hq : I 62 8 = nI q) (qn : q ≤ n) (ho : I 62 12 = nI (opn st)) (o6 : opn st ≤ 6) (hc : I 62 13 = nI cs.length) (hw : I 62 14 = nI st.length) (sq : st.length ≤ q) (cq : cs.length + pnd st + z ≤ q) (hcs : ∀ k c, cs[k]? = some c → I 67 k = nI (encM c)) (hst : ∀ k x, st.reverse[k]? = some x → I 68 k = nI (1048576 * x.1 + x.2)) (hk : ∀ x, x ∈ st → x.1 ≤ 14 ∧ x.2 < 1048576) : Wd I0 I n q z st cs := ⟨f1, f2, hn, n240, hq, qn, ho, o6, hc, hw, sq, cq, hcs, hst, hk⟩
theorem Wd.more {I0 I : zI} {n q z : Nat} {st cs : List (Nat × Nat)} (h : Wd I0 I n q z st cs) {z' : Nat} (h2 : cs.length + pnd st + z' ≤ q) : Wd I0 I n q z' st cs := Wd.mk h.f1 h.f2 h.hn h.n240 h.hq h.qn h.ho h.o6 h.hc h.hw h.sq h2 h.hcs h.hst h.hk
/-- refused -/
def Fq (I0 I : zI) (fc q : Nat) : Prop := (∀ a, a ≠ 62 → a ≠ 67 → a ≠ 68 → I a = I0 a) ∧ (∀ k, k ≠ 8 → k ≠ 10 → k ≠ 11 → k ≠ 12 → k ≠ 13 → k ≠ 14 → I 62 k = I0 62 k) ∧ I 62 10 = fltI fc q
section
variable {I0 I : zI} {n q z : Nat} {st cs : List (Nat × Nat)}
theorem Wd.mr (h : Wd I0 I n q z st cs) : mrI I n q := ⟨h.hn, h.n240, h.hq, by have := h.n240; have := h.qn; omega⟩
theorem Wd.fail (h : Wd I0 I n q z st cs) {fc p : Nat} : Fq I0 (zwr I 62 10 (fltI fc p)) fc p := ⟨fun a h1 h2 h3 => by rw [← h.f1 a h1 h2 h3]; funext j; simp [zwr_at, h1], fun k h1 h2 h3 h4 h5 h6 => by rw [← h.f2 k h1 h2 h3 h4 h5 h6]; simp [zwr_at, h2], by simp [zwr_at]⟩
theorem Wd.next (h : Wd I0 I n q z st cs) (hq : q < n) : Wd I0 (zwr I 62 8 (nI (q + 1))) n (q + 1) z st cs := Wd.mk
  (f1 := fun a h1 h2 h3 => by rw [← h.f1 a h1 h2 h3]; funext j; simp [zwr_at, h1])
  (f2 := fun k h1 h2 h3 h4 h5 h6 => by rw [← h.f2 k h1 h2 h3 h4 h5 h6]; simp [zwr_at, h1])
  (hn := by have := h.hn; simpa [zwr_at] using this)
  (n240 := h.n240)
  (hq := by simp [zwr_at])
  (qn := hq)
  (ho := by have := h.ho; simpa [zwr_at] using this)
  (o6 := h.o6)
  (hc := by have := h.hc; simpa [zwr_at] using this)
  (hw := by have := h.hw; simpa [zwr_at] using this)
  (sq := by have := h.sq; omega)
  (cq := by have := h.cq; omega)
  (hcs := fun k c hh => by have := h.hcs k c hh; simpa [zwr_at] using this)
  (hst := fun k c hh => by have := h.hst k c hh; simpa [zwr_at] using this)
  (hk := h.hk)
/-- one char read gives room for one more -/
theorem Wd.nextz (h : Wd I0 I n q z st cs) (hq : q < n) : Wd I0 (zwr I 62 8 (nI (q + 1))) n (q + 1) (z + 1) st cs :=
  (h.next hq).more (by have := h.cq; omega)
theorem Wd.num (h : Wd I0 I n q z st cs) {x : Int32} : Wd I0 (zwr I 62 11 x) n q z st cs := Wd.mk
  (f1 := fun a h1 h2 h3 => by rw [← h.f1 a h1 h2 h3]; funext j; simp [zwr_at, h1])
  (f2 := fun k h1 h2 h3 h4 h5 h6 => by rw [← h.f2 k h1 h2 h3 h4 h5 h6]; simp [zwr_at, h3])
  (hn := by have := h.hn; simpa [zwr_at] using this)
  (n240 := h.n240)
  (hq := by have := h.hq; simpa [zwr_at] using this)
  (qn := h.qn)
  (ho := by have := h.ho; simpa [zwr_at] using this)
  (o6 := h.o6)
  (hc := by have := h.hc; simpa [zwr_at] using this)
  (hw := by have := h.hw; simpa [zwr_at] using this)
  (sq := h.sq)
  (cq := h.cq)
  (hcs := fun k c hh => by have := h.hcs k c hh; simpa [zwr_at] using this)
  (hst := fun k c hh => by have := h.hst k c hh; simpa [zwr_at] using this)
  (hk := h.hk)
/-- a code is noted -/
def noteI (I : zI) (c x : Nat) : zI := zwr (zwr I 67 c (nI x)) 62 13 (nI (c + 1))
theorem Wd.note (h : Wd I0 I n q (z + 1) st cs) {c : Nat × Nat} {x : Nat} (hx : x = encM c) : Wd I0 (noteI I cs.length x) n q z st (cs ++ [c]) := Wd.mk
  (f1 := fun a h1 h2 h3 => by rw [← h.f1 a h1 h2 h3]; funext j; simp [noteI, zwr_at, h1, h2])
  (f2 := fun k h1 h2 h3 h4 h5 h6 => by rw [← h.f2 k h1 h2 h3 h4 h5 h6]; simp [noteI, zwr_at, h5])
  (hn := by have := h.hn; simpa [noteI, zwr_at] using this)
  (n240 := h.n240)
  (hq := by have := h.hq; simpa [noteI, zwr_at] using this)
  (qn := h.qn)
  (ho := by have := h.ho; simpa [noteI, zwr_at] using this)
  (o6 := h.o6)
  (hc := by simp [noteI, zwr_at])
  (hw := by have := h.hw; simpa [noteI, zwr_at] using this)
  (sq := h.sq)
  (cq := by have := h.cq; rw [List.length_append]; show cs.length + 1 + pnd st + z ≤ q; omega)
  (hcs := fun k d hd => by
    by_cases hk : k < cs.length
    · rw [List.getElem?_append_left hk] at hd
      have := h.hcs k d hd
      have hne : k ≠ cs.length := by omega
      simpa [noteI, zwr_at, hne] using this
    · rw [List.getElem?_append_right (by omega)] at hd
      have e : k - cs.length = 0 := by
        by_cases e : k - cs.length = 0
        · exact e
        · rw [List.getElem?_eq_none (by show 1 ≤ _; omega)] at hd; exact absurd hd (by simp)
      rw [e] at hd
      have e2 : k = cs.length := by omega
      subst e2
      have e3 : c = d := by simpa using hd
      subst e3
      simp [noteI, zwr_at, hx])
  (hst := fun k x hh => by have := h.hst k x hh; simpa [noteI, zwr_at] using this)
  (hk := h.hk)
/-- something waits -/
theorem Wd.push (h : Wd I0 I n q z st cs) (hq : q < n) {y v : Nat} (hy : y ≤ 14) (hv : v < 1048576) (hop : ¬ (y = 10 ∨ y = 13 ∨ y = 14)) {z' : Nat} (hz : z' = z + (if y ≤ 10 then 0 else 1)) : Wd I0 (zwr (zwr (zwr I 68 st.length (nI (1048576 * y + v))) 62 14 (nI (st.length + 1))) 62 8 (nI (q + 1))) n (q + 1) z' ((y, v) :: st) cs := Wd.mk
  (f1 := fun a h1 h2 h3 => by rw [← h.f1 a h1 h2 h3]; funext j; simp [zwr_at, h1, h3])
  (f2 := fun k h1 h2 h3 h4 h5 h6 => by rw [← h.f2 k h1 h2 h3 h4 h5 h6]; simp [zwr_at, h1, h6])
  (hn := by have := h.hn; simpa [zwr_at] using this)
  (n240 := h.n240)
  (hq := by simp [zwr_at])
  (qn := hq)
  (ho := by rw [opn_n (x := (y, v)) hop]; have := h.ho; simpa [zwr_at] using this)
  (o6 := by rw [opn_n (x := (y, v)) hop]; exact h.o6)
  (hc := by have := h.hc; simpa [zwr_at] using this)
  (hw := by simp [zwr_at])
  (sq := by have := h.sq; show st.length + 1 ≤ q + 1; omega)
  (cq := by
    have := h.cq
    by_cases hy10 : y ≤ 10
    · rw [pnd_y (x := (y, v)) hy10]; rw [if_pos hy10] at hz; omega
    · rw [pnd_n (x := (y, v)) hy10]; rw [if_neg hy10] at hz; omega)
  (hcs := fun k c hh => by have := h.hcs k c hh; simpa [zwr_at] using this)
  (hst := fun k x hh => by
    rw [List.reverse_cons] at hh
    by_cases hk : k < st.length
    · rw [List.getElem?_append_left (by rw [List.length_reverse]; exact hk)] at hh
      have := h.hst k x hh
      have hne : k ≠ st.length := by omega
      simpa [zwr_at, hne] using this
    · rw [List.getElem?_append_right (by rw [List.length_reverse]; omega), List.length_reverse] at hh
      have e : k - st.length = 0 := by
        by_cases e : k - st.length = 0
        · exact e
        · rw [List.getElem?_eq_none (by show 1 ≤ _; omega)] at hh; exact absurd hh (by simp)
      rw [e] at hh
      have e2 : k = st.length := by omega
      subst e2
      have e3 : (y, v) = x := by simpa using hh
      subst e3
      simp [zwr_at])
  (hk := fun x hx => (List.mem_cons.mp hx).elim (fun e => e ▸ ⟨hy, hv⟩) (h.hk x))
/-- something opens -/
theorem Wd.opens (h : Wd I0 I n q z st cs) (hq : q < n) {y : Nat} (hop : y = 10 ∨ y = 13 ∨ y = 14) (h6 : opn st < 6) : Wd I0 (zwr (zwr (zwr (zwr I 62 12 (nI (opn st + 1))) 68 st.length (nI (1048576 * y))) 62 14 (nI (st.length + 1))) 62 8 (nI (q + 1))) n (q + 1) z ((y, 0) :: st) cs := Wd.mk
  (f1 := fun a h1 h2 h3 => by rw [← h.f1 a h1 h2 h3]; funext j; simp [zwr_at, h1, h3])
  (f2 := fun k h1 h2 h3 h4 h5 h6 => by rw [← h.f2 k h1 h2 h3 h4 h5 h6]; simp [zwr_at, h1, h4, h6])
  (hn := by have := h.hn; simpa [zwr_at] using this)
  (n240 := h.n240)
  (hq := by simp [zwr_at])
  (qn := hq)
  (ho := by rw [opn_y (x := (y, 0)) hop]; simp [zwr_at])
  (o6 := by rw [opn_y (x := (y, 0)) hop]; omega)
  (hc := by have := h.hc; simpa [zwr_at] using this)
  (hw := by simp [zwr_at])
  (sq := by have := h.sq; show st.length + 1 ≤ q + 1; omega)
  (cq := by
    have := h.cq
    by_cases hy10 : y ≤ 10
    · rw [pnd_y (x := (y, 0)) hy10]; omega
    · rw [pnd_n (x := (y, 0)) hy10]; omega)
  (hcs := fun k c hh => by have := h.hcs k c hh; simpa [zwr_at] using this)
  (hst := fun k x hh => by
    rw [List.reverse_cons] at hh
    by_cases hk : k < st.length
    · rw [List.getElem?_append_left (by rw [List.length_reverse]; exact hk)] at hh
      have := h.hst k x hh
      have hne : k ≠ st.length := by omega
      simpa [zwr_at, hne] using this
    · rw [List.getElem?_append_right (by rw [List.length_reverse]; omega), List.length_reverse] at hh
      have e : k - st.length = 0 := by
        by_cases e : k - st.length = 0
        · exact e
        · rw [List.getElem?_eq_none (by show 1 ≤ _; omega)] at hh; exact absurd hh (by simp)
      rw [e] at hh
      have e2 : k = st.length := by omega
      subst e2
      have e3 : (y, 0) = x := by simpa using hh
      subst e3
      simp [zwr_at])
  (hk := fun x hx => (List.mem_cons.mp hx).elim (fun e => e ▸ ⟨by show y ≤ 14; omega, by show 0 < 1048576; decide⟩) (h.hk x))
theorem rev_top {x : Nat × Nat} {r : List (Nat × Nat)} : (x :: r).reverse[r.length]? = some x := by
  rw [List.reverse_cons, List.getElem?_append_right (by rw [List.length_reverse]; omega), List.length_reverse, Nat.sub_self]
  rfl
theorem rev_low {x : Nat × Nat} {r : List (Nat × Nat)} {k : Nat} (h : k < r.length) : (x :: r).reverse[k]? = r.reverse[k]? := by
  rw [List.reverse_cons, List.getElem?_append_left (by rw [List.length_reverse]; exact h)]
theorem rev_some {r : List (Nat × Nat)} {k : Nat} {y : Nat × Nat} (h : r.reverse[k]? = some y) : k < r.length := by
  have h2 := (List.getElem?_eq_some_iff.mp h).1
  rwa [List.length_reverse] at h2
/-- the top -/
theorem Wd.top {x : Nat × Nat} (h : Wd I0 I n q z (x :: st) cs) : I 68 st.length = nI (1048576 * x.1 + x.2) := h.hst _ _ rev_top
/-- a sign that waited, or one that denies, is noted -/
theorem Wd.pop {x : Nat × Nat} (h : Wd I0 I n q z (x :: st) cs) (hop : ¬ (x.1 = 10 ∨ x.1 = 13 ∨ x.1 = 14)) {z' : Nat} (hz : z' = z + (if x.1 ≤ 10 then 1 else 0)) : Wd I0 (zwr I 62 14 (nI st.length)) n q z' st cs := Wd.mk
  (f1 := fun a h1 h2 h3 => by rw [← h.f1 a h1 h2 h3]; funext j; simp [zwr_at, h1])
  (f2 := fun k h1 h2 h3 h4 h5 h6 => by rw [← h.f2 k h1 h2 h3 h4 h5 h6]; simp [zwr_at, h6])
  (hn := by have := h.hn; simpa [zwr_at] using this)
  (n240 := h.n240)
  (hq := by have := h.hq; simpa [zwr_at] using this)
  (qn := h.qn)
  (ho := by have := h.ho; rw [opn_n hop] at this; simpa [zwr_at] using this)
  (o6 := by have := h.o6; rwa [opn_n hop] at this)
  (hc := by have := h.hc; simpa [zwr_at] using this)
  (hw := by simp [zwr_at])
  (sq := by have := h.sq; rw [List.length_cons] at this; omega)
  (cq := by
    have := h.cq
    by_cases h10 : x.1 ≤ 10
    · rw [pnd_y h10] at this; rw [if_pos h10] at hz; omega
    · rw [pnd_n h10] at this; rw [if_neg h10] at hz; omega)
  (hcs := fun k c hh => by have := h.hcs k c hh; simpa [zwr_at] using this)
  (hst := fun k y hh => by have := h.hst k y ((rev_low (rev_some hh)).trans hh); simpa [zwr_at] using this)
  (hk := fun y hy => h.hk y (List.mem_cons_of_mem _ hy))
/-- what was open closes -/
theorem Wd.close {x : Nat × Nat} (h : Wd I0 I n q z (x :: st) cs) (hop : x.1 = 10 ∨ x.1 = 13 ∨ x.1 = 14) {z' : Nat} (hz : z' = z + (if x.1 ≤ 10 then 1 else 0)) : Wd I0 (zwr (zwr I 62 14 (nI st.length)) 62 12 (nI (opn st))) n q z' st cs := Wd.mk
  (f1 := fun a h1 h2 h3 => by rw [← h.f1 a h1 h2 h3]; funext j; simp [zwr_at, h1])
  (f2 := fun k h1 h2 h3 h4 h5 h6 => by rw [← h.f2 k h1 h2 h3 h4 h5 h6]; simp [zwr_at, h4, h6])
  (hn := by have := h.hn; simpa [zwr_at] using this)
  (n240 := h.n240)
  (hq := by have := h.hq; simpa [zwr_at] using this)
  (qn := h.qn)
  (ho := by simp [zwr_at])
  (o6 := by have := h.o6; rw [opn_y hop] at this; omega)
  (hc := by have := h.hc; simpa [zwr_at] using this)
  (hw := by simp [zwr_at])
  (sq := by have := h.sq; rw [List.length_cons] at this; omega)
  (cq := by
    have := h.cq
    by_cases h10 : x.1 ≤ 10
    · rw [pnd_y h10] at this; rw [if_pos h10] at hz; omega
    · rw [pnd_n h10] at this; rw [if_neg h10] at hz; omega)
  (hcs := fun k c hh => by have := h.hcs k c hh; simpa [zwr_at] using this)
  (hst := fun k y hh => by have := h.hst k y ((rev_low (rev_some hh)).trans hh); simpa [zwr_at] using this)
  (hk := fun y hy => h.hk y (List.mem_cons_of_mem _ hy))
theorem note_8 {I : zI} {c x : Nat} {y : Int32} : zwr (noteI I c x) 62 8 y = noteI (zwr I 62 8 y) c x := by
  funext b j
  simp only [noteI, zwr_at]
  repeat' split
  all_goals first | rfl | (exfalso; omega)
/-- what jumps is said and waits for where it goes -/
theorem Wd.jump (h : Wd I0 I n q z st cs) (hq : q < n) {y x : Nat} (hy : y = 11 ∨ y = 12) {c : Nat × Nat} (hx : x = encM c) : Wd I0 (zwr (noteI (zwr (zwr I 68 st.length (nI (1048576 * y + cs.length))) 62 14 (nI (st.length + 1))) cs.length x) 62 8 (nI (q + 1))) n (q + 1) z ((y, cs.length) :: st) (cs ++ [c]) := by
  rw [note_8]
  have h2 := h.n240
  have h3 := h.cq
  have h4 := h.qn
  exact (h.push hq (y := y) (v := cs.length) (z' := z + 1) (by omega) (by omega) (by omega) (by rw [if_neg (by omega)])).note hx
/-- a code is said otherwise -/
theorem Wd.patch (h : Wd I0 I n q z st cs) {i x : Nat} {c : Nat × Nat} (hx : x = encM c) : Wd I0 (zwr I 67 i (nI x)) n q z st (cs.set i c) := Wd.mk
  (f1 := fun a h1 h2 h3 => by rw [← h.f1 a h1 h2 h3]; funext j; simp [zwr_at, h2])
  (f2 := fun k h1 h2 h3 h4 h5 h6 => by rw [← h.f2 k h1 h2 h3 h4 h5 h6]; simp [zwr_at])
  (hn := by have := h.hn; simpa [zwr_at] using this)
  (n240 := h.n240)
  (hq := by have := h.hq; simpa [zwr_at] using this)
  (qn := h.qn)
  (ho := by have := h.ho; simpa [zwr_at] using this)
  (o6 := h.o6)
  (hc := by have := h.hc; rw [List.length_set]; simpa [zwr_at] using this)
  (hw := by have := h.hw; simpa [zwr_at] using this)
  (sq := h.sq)
  (cq := by rw [List.length_set]; exact h.cq)
  (hcs := fun k d hd => by
    by_cases e : k = i
    · subst e
      have hl : k < cs.length := by have := (List.getElem?_eq_some_iff.mp hd).1; rwa [List.length_set] at this
      rw [List.getElem?_set_self hl] at hd
      have e3 : c = d := by simpa using hd
      subst e3
      simp [zwr_at, hx]
    · rw [List.getElem?_set_ne (Ne.symm e)] at hd
      have := h.hcs k d hd
      simpa [zwr_at, e] using this)
  (hst := fun k y hh => by have := h.hst k y hh; simpa [zwr_at] using this)
  (hk := h.hk)
end
