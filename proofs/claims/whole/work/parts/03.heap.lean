/-! THE SMALL MACHINE, 1: one world for all: the cells made since the law's entry lie one behind another, at zn G + i for the number i + 2; number 0 is the script, number 1 the table CODES. Shapes (kinds, references) apart from what ints and longs are there. -/
abbrev zG : Type := Launch × (Nat × Nat × Nat × Nat) × (Nat → Int32) × (Nat → ClassId) × (Nat → Nat → Nat) × (Nat → ClassId)
def zl (G : zG) : Launch := G.1
def zn (G : zG) : Nat := G.2.1.1
def zb (G : zG) : Nat := G.2.1.2.1
def zL (G : zG) : Nat := G.2.1.2.2.1
def zg (G : zG) : Nat := G.2.1.2.2.2
def zxs (G : zG) : Nat → Int32 := G.2.2.1
def zD (G : zG) : va_G := (G.2.2.2.1, G.2.2.2.2.1)
def zdA (G : zG) : Nat → ClassId := G.2.2.2.2.2
/-- how many, kinds (0 bytes, 1 ints, 2 longs, 3 Programs: arrays, with their lengths; c + 4: of the class c), references -/
abbrev zS : Type := Nat × (Nat → Nat × Nat) × (Nat → Nat → Option Nat)
abbrev zI : Type := Nat → Nat → Int32
abbrev zJ : Type := Nat → Nat → Int64
def zA (G : zG) (a : Nat) : Nat := match a with
  | 0 => zb G
  | 1 => zg G
  | i + 2 => zn G + i
def zV (G : zG) (v : Value) : Value := match v with
  | .ref a => .ref (zA G a)
  | w => w
def zRef (t : FieldType) : Bool := match t with
  | .object _ => true
  | .array _ => true
  | _ => false
def zty (c : Nat) : Nat → FieldType := match c with
  | 0 => tyX0
  | 1 => tyX1
  | 2 => tyX2
  | 3 => tyX3
  | 4 => tyX4
  | 5 => tyX5
  | 6 => tyX6
  | 7 => tyX7
  | 8 => tyX8
  | 9 => tyX9
  | 10 => tyX10
  | 11 => tyX11
  | _ => tyX12
def zTT (c : Nat) : u_T := match c with
  | 0 => TX0
  | 1 => TX1
  | 2 => TX2
  | 3 => TX3
  | 4 => TX4
  | 5 => TX5
  | 6 => TX6
  | 7 => TX7
  | 8 => TX8
  | 9 => TX9
  | 10 => TX10
  | 11 => TX11
  | _ => TX12
def zN (c : Nat) : Nat := match c with
  | 0 => 5
  | 1 => 5
  | 2 => 5
  | 3 => 13
  | 4 => 6
  | 5 => 8
  | 6 => 6
  | 7 => 1
  | 8 => 3
  | 9 => 3
  | 10 => 2
  | 11 => 18
  | _ => 73
def zC (c : Nat) : String := match c with
  | 0 => RX0
  | 1 => RX1
  | 2 => RX2
  | 3 => RX3
  | 4 => RX4
  | 5 => RX5
  | 6 => RX6
  | 7 => RX7
  | 8 => RX8
  | 9 => RX9
  | 10 => RX10
  | 11 => RX11
  | _ => RX12
theorem zcl_at {c : Nat} (h : c < 13) : vwCl[c]? = some (zC c, zTT c, zN c) := by
  rcases (show c = 0 ∨ c = 1 ∨ c = 2 ∨ c = 3 ∨ c = 4 ∨ c = 5 ∨ c = 6 ∨ c = 7 ∨ c = 8 ∨ c = 9 ∨ c = 10 ∨ c = 11 ∨ c = 12 by omega) with h | h | h | h | h | h | h | h | h | h | h | h | h <;> subst h <;> rfl
def zF (G : zG) (c : Nat) (rf : Nat → Nat → Option Nat) (I : zI) (a k : Nat) : Value := if zRef (zty c k) = true then va_rf ((rf a k).map (zA G)) else .int (I a k)
def zfs (G : zG) (c : Nat) (rf : Nat → Nat → Option Nat) (I : zI) (a : Nat) : List Value := (List.range (zN c)).map (fun k => zF G c rf I a k)
theorem zfs_at {G : zG} {c : Nat} {rf : Nat → Nat → Option Nat} {I : zI} {a k : Nat} (h : k < zN c) : (zfs G c rf I a)[k]? = some (zF G c rf I a k) := by
  simp [zfs, List.getElem?_map, List.getElem?_range h]
theorem zfs_len {G : zG} {c : Nat} {rf : Nat → Nat → Option Nat} {I : zI} {a : Nat} : (zfs G c rf I a).length = zN c := by simp [zfs]
def zE (G : zG) (sh : zS) (I : zI) (J : zJ) (a : Nat) : va_E := match sh.2.1 a with
  | (0, n) => .inl (zdA G 0, n, .inl (I a))
  | (1, n) => .inl (zdA G 1, n, .inl (I a))
  | (2, n) => .inl (zdA G 2, n, .inr (.inl (J a)))
  | (3, n) => .inl (zdA G 3, n, .inr (.inr (.inr (.inr (fun j => (sh.2.2 a j).map (zA G))))))
  | (c + 4, _) => .inr (c, zfs G c sh.2.2 I a)
def zw (G : zG) (sh : zS) (I : zI) (J : zJ) : va_W := (List.range sh.1).map (fun i => (zn G + i, zE G sh I J (i + 2)))
theorem zw_len {G : zG} {sh : zS} {I : zI} {J : zJ} : (zw G sh I J).length = sh.1 := by simp [zw]
theorem zw_at {G : zG} {sh : zS} {I : zI} {J : zJ} {i : Nat} (h : i < sh.1) : (zw G sh I J)[i]? = some (zn G + i, zE G sh I J (i + 2)) := by
  simp [zw, List.getElem?_map, List.getElem?_range h]
theorem zw_ext {w : va_W} {G : zG} {sh : zS} {I : zI} {J : zJ} (hl : w.length = sh.1) (h : ∀ i, i < sh.1 → w[i]? = some (zn G + i, zE G sh I J (i + 2))) : w = zw G sh I J := by
  refine List.ext_getElem? (fun i => ?_)
  by_cases hi : i < sh.1
  · rw [h i hi, zw_at hi]
  · rw [List.getElem?_eq_none (by omega), List.getElem?_eq_none (by rw [zw_len]; omega)]
theorem zw_set {G : zG} {sh sh' : zS} {I I' : zI} {J J' : zJ} {i : Nat} {e : va_E} (hi : i < sh.1) (hs : sh'.1 = sh.1) (he : zE G sh' I' J' (i + 2) = e) (ho : ∀ a, a ≠ i + 2 → zE G sh' I' J' a = zE G sh I J a) : (zw G sh I J).set i (zn G + i, e) = zw G sh' I' J' := by
  refine zw_ext (by rw [List.length_set, zw_len, hs]) (fun k hk => ?_)
  rw [hs] at hk
  by_cases hki : k = i
  · subst hki
    rw [List.getElem?_set_self (by rw [zw_len]; exact hi), he]
  · rw [List.getElem?_set_ne (fun q => hki q.symm), zw_at hk, ho (k + 2) (by omega)]
def zFr (G : zG) : Nat → Prop := fun q => zn G ≤ q
theorem zw_D {G : zG} {sh : zS} {I : zI} {J : zJ} : va_D (zFr G) (zw G sh I J) := by
  have key : ∀ (k : Nat) (q : Nat × va_E), (zw G sh I J)[k]? = some q → q.1 = zn G + k := by
    intro k q hk
    by_cases h : k < sh.1
    · rw [zw_at h] at hk
      cases hk
      rfl
    · rw [List.getElem?_eq_none (by rw [zw_len]; omega)] at hk
      cases hk
  refine ⟨fun i j p q hi hj h => ?_, fun k q hk => ?_⟩
  · have h1 := key i p hi
    have h2 := key j q hj
    omega
  · show zn G ≤ q.1
    have h1 := key k q hk
    omega
def zR (G : zG) (sh : zS) (I : zI) (J : zJ) (H : Heap) : Prop := H.size = zn G + sh.1 ∧ va_P (zD G) vwCl (zw G sh I J) H
/-- where the number a lies in the world -/
theorem zw_a {G : zG} {sh : zS} {I : zI} {J : zJ} {a : Nat} (h2 : 2 ≤ a) (h : a < sh.1 + 2) : (zw G sh I J)[a - 2]? = some (zA G a, zE G sh I J a) := by
  obtain ⟨i, rfl⟩ : ∃ i, a = i + 2 := ⟨a - 2, by omega⟩
  exact zw_at (by omega)
def zup {α : Type} (I : Nat → α) (a : Nat) (f : α) : Nat → α := fun q => if q = a then f else I q
theorem zup_s {α : Type} {I : Nat → α} {a : Nat} {f : α} : zup I a f a = f := if_pos rfl
theorem zup_n {α : Type} {I : Nat → α} {a b : Nat} {f : α} (h : b ≠ a) : zup I a f b = I b := if_neg h
/-- the cell of a number that nothing touched -/
theorem zE_o {G : zG} {sh : zS} {I I' : zI} {J J' : zJ} {a : Nat} (h1 : I' a = I a) (h2 : J' a = J a) : zE G sh I' J' a = zE G sh I J a := by
  unfold zE
  split <;> simp [h1, h2, zfs, zF]
theorem zE_I {G : zG} {sh : zS} {I : zI} {J : zJ} {a b : Nat} {f : Nat → Int32} (h : b ≠ a) : zE G sh (zup I a f) J b = zE G sh I J b := zE_o (zup_n h) rfl
theorem zE_J {G : zG} {sh : zS} {I : zI} {J : zJ} {a b : Nat} {f : Nat → Int64} (h : b ≠ a) : zE G sh I (zup J a f) b = zE G sh I J b := zE_o rfl (zup_n h)
theorem zE_0 {G : zG} {sh : zS} {I : zI} {J : zJ} {a n : Nat} (h : sh.2.1 a = (0, n)) : zE G sh I J a = .inl (zdA G 0, n, .inl (I a)) := by unfold zE; rw [h]
theorem zE_1 {G : zG} {sh : zS} {I : zI} {J : zJ} {a n : Nat} (h : sh.2.1 a = (1, n)) : zE G sh I J a = .inl (zdA G 1, n, .inl (I a)) := by unfold zE; rw [h]
theorem zE_2 {G : zG} {sh : zS} {I : zI} {J : zJ} {a n : Nat} (h : sh.2.1 a = (2, n)) : zE G sh I J a = .inl (zdA G 2, n, .inr (.inl (J a))) := by unfold zE; rw [h]
theorem zE_3 {G : zG} {sh : zS} {I : zI} {J : zJ} {a n : Nat} (h : sh.2.1 a = (3, n)) : zE G sh I J a = .inl (zdA G 3, n, .inr (.inr (.inr (.inr (fun j => (sh.2.2 a j).map (zA G)))))) := by unfold zE; rw [h]
theorem zE_4 {G : zG} {sh : zS} {I : zI} {J : zJ} {a c n : Nat} (h : sh.2.1 a = (c + 4, n)) : zE G sh I J a = .inr (c, zfs G c sh.2.2 I a) := by unfold zE; rw [h]
theorem zup_zfs {G : zG} {c : Nat} {rf : Nat → Nat → Option Nat} {I : zI} {a k : Nat} {x : Int32} (hk : k < zN c) (hr : zRef (zty c k) = false) : zfs G c rf (zup I a (upd (I a) k x)) a = (zfs G c rf I a).set k (.int x) := by
  refine List.ext_getElem? (fun j => ?_)
  by_cases hj : j < zN c
  · rw [zfs_at hj]
    by_cases hjk : j = k
    · subst hjk
      rw [List.getElem?_set_self (by rw [zfs_len]; exact hj)]
      simp [zF, hr, zup, upd]
    · rw [List.getElem?_set_ne (fun q => hjk q.symm), zfs_at hj]
      simp [zF, zup, upd, hjk]
  · rw [List.getElem?_eq_none (by rw [zfs_len]; omega), List.getElem?_eq_none (by rw [List.length_set, zfs_len]; omega)]
theorem zfs_rf {G : zG} {c : Nat} {rf : Nat → Nat → Option Nat} {I : zI} {a k : Nat} {v : Option Nat} (hk : k < zN c) (hr : zRef (zty c k) = true) : zfs G c (zup rf a (fun j => if j = k then v else rf a j)) I a = (zfs G c rf I a).set k (va_rf (v.map (zA G))) := by
  refine List.ext_getElem? (fun j => ?_)
  by_cases hj : j < zN c
  · rw [zfs_at hj]
    by_cases hjk : j = k
    · subst hjk
      rw [List.getElem?_set_self (by rw [zfs_len]; exact hj)]
      simp [zF, hr, zup]
    · rw [List.getElem?_set_ne (fun q => hjk q.symm), zfs_at hj]
      simp [zF, zup, hjk]
  · rw [List.getElem?_eq_none (by rw [zfs_len]; omega), List.getElem?_eq_none (by rw [List.length_set, zfs_len]; omega)]
