/-! numbers as ints of 32 bits; the memory by cell and place; the world out of it; one judgement for a walk over it -/
def iZ (z : Int) : Int32 := Int32.ofInt z
theorem iZ_add (a b : Int) : iZ a + iZ b = iZ (a + b) := (Int32.ofInt_add a b).symm
theorem iZ_sub (a b : Int) : iZ a - iZ b = iZ (a - b) := (Int32.ofInt_sub a b).symm
theorem iZ_mul (a b : Int) : iZ a * iZ b = iZ (a * b) := (Int32.ofInt_mul a b).symm
theorem iZ_toInt {z : Int} (h : -2147483648 ≤ z ∧ z ≤ 2147483647) : (iZ z).toInt = z := Int32.toInt_ofInt_of_le (by omega) (by omega)
theorem iZ_of (x : Int32) : iZ x.toInt = x := by
  unfold iZ
  exact Int32.ofInt_toInt x
theorem iZ_rng (x : Int32) : -2147483648 ≤ x.toInt ∧ x.toInt ≤ 2147483647 := by
  have h1 := Int32.le_toInt x
  have h2 := Int32.toInt_lt x
  omega
theorem iZ_lt {a b : Int} (ha : -2147483648 ≤ a ∧ a ≤ 2147483647) (hb : -2147483648 ≤ b ∧ b ≤ 2147483647) : iZ a < iZ b ↔ a < b := by
  rw [Int32.lt_iff_toInt_lt, iZ_toInt ha, iZ_toInt hb]
theorem iZ_le {a b : Int} (ha : -2147483648 ≤ a ∧ a ≤ 2147483647) (hb : -2147483648 ≤ b ∧ b ≤ 2147483647) : iZ a ≤ iZ b ↔ a ≤ b := by
  rw [Int32.le_iff_toInt_le, iZ_toInt ha, iZ_toInt hb]
theorem iZ_inj {a b : Int} (ha : -2147483648 ≤ a ∧ a ≤ 2147483647) (hb : -2147483648 ≤ b ∧ b ≤ 2147483647) : iZ a = iZ b ↔ a = b := by
  rw [← Int32.toInt_inj, iZ_toInt ha, iZ_toInt hb]
theorem iZ_0 : iZ 0 = 0 := rfl
theorem iZ_nat (n : Nat) : iZ (n : Int) = nI n := by
  unfold iZ nI
  exact Int32.ofInt_eq_ofNat
theorem iZ_clamp {n : Nat} (h : n < 2147483648) : (iZ (n : Int)).toNatClampNeg = n := by
  rw [iZ_nat]
  exact nI_clamp h
theorem iZ_in {z : Int} {k n : Nat} (hz : z = (k : Int)) (hk : k < n) (hn : n < 2147483648) : vp_in (iZ z) n := by
  rw [hz, iZ_nat]
  exact vp_in_nI hk hn
abbrev Mem : Type := Nat → Nat → Int
/-- the memory with another number at one place -/
def upM (μ : Mem) (c j : Nat) (x : Int) : Mem := fun c' j' => if c' = c ∧ j' = j then x else μ c' j'
theorem upM_self {μ : Mem} {c j : Nat} {x : Int} : upM μ c j x c j = x := if_pos ⟨rfl, rfl⟩
theorem upM_ne {μ : Mem} {c j c' j' : Nat} {x : Int} (h : c' ≠ c ∨ j' ≠ j) : upM μ c j x c' j' = μ c' j' := if_neg (fun q => h.elim (fun z => z q.1) (fun z => z q.2))
/-- the cells: 0 the junction, 1 board, 2 3 the plays of now and shown, 4 survey, 5 6 now's arrays, 7 8 shown's, 9 to 18 the survey's, 19 20 the board's, 21 on resources, 29 on delays, 37 on players, 43 on ways, 49 to 51 the law's own; 52 to 54 and 55 on: only named -/
def ceA (cy : Nat → ClassId) (ad : Nat → Nat) (c : Nat) (f : Nat → Int) : va_E := match c with
  | 0 => .inr (7, [.ref (ad 1), .ref (ad 2), .ref (ad 52), .ref (ad 4), .ref (ad 53), .ref (ad 54), .int (iZ (f 6))])
  | 1 => .inr (0, [.ref (ad 19), .ref (ad 20), .int (iZ (f 2)), .int (iZ (f 3))])
  | 2 => .inr (3, [.ref (ad 5), .ref (ad 6), .int (iZ (f 2))])
  | 3 => .inr (3, [.ref (ad 7), .ref (ad 8), .int (iZ (f 2))])
  | 4 => .inr (6, [.ref (ad 9), .ref (ad 10), .ref (ad 11), .ref (ad 12), .ref (ad 13), .ref (ad 14), .ref (ad 15), .ref (ad 16), .ref (ad 17), .ref (ad 18), .ref (ad 3), .int (iZ (f 11)), .int (iZ (f 12))])
  | 5 => .inl (cy 0, 6, .inl (fun j => iZ (f j)))
  | 6 => .inl (cy 0, 8, .inl (fun j => iZ (f j)))
  | 7 => .inl (cy 0, 6, .inl (fun j => iZ (f j)))
  | 8 => .inl (cy 0, 8, .inl (fun j => iZ (f j)))
  | 9 => .inl (cy 0, 6, .inl (fun j => iZ (f j)))
  | 10 => .inl (cy 0, 6, .inl (fun j => iZ (f j)))
  | 11 => .inl (cy 0, 30, .inl (fun j => iZ (f j)))
  | 12 => .inl (cy 0, 30, .inl (fun j => iZ (f j)))
  | 19 => .inl (cy 2, 8, .inr (.inr (.inr (.inr (fun j => some (ad (21 + j)))))))
  | 20 => .inl (cy 3, 6, .inr (.inr (.inr (.inr (fun j => some (ad (37 + j)))))))
  | _ => .inl (cy 0, 1000, .inl (fun j => iZ (f j)))
def ce (cy : Nat → ClassId) (ad : Nat → Nat) (c : Nat) (f : Nat → Int) : va_E :=
  if c < 21 then ceA cy ad c f
  else if c < 29 then .inr (5, [.int (iZ (f 0)), .int (iZ (f 1)), .int (iZ (f 2)), .int (iZ (f 3)), .int (iZ (f 4)), .int (iZ (f 5)), .ref (ad (c + 8))])
  else if c < 37 then .inl (cy 0, 19, .inl (fun j => iZ (f j)))
  else if c < 43 then .inr (4, [.int (iZ (f 0)), .int (iZ (f 1)), .int (iZ (f 2)), .int (iZ (f 3)), .ref (ad (c + 6)), .ref (ad (c + 18))])
  else if c < 49 then .inl (cy 0, 5, .inl (fun j => iZ (f j)))
  else if c = 49 then .inl (cy 0, 20, .inl (fun j => iZ (f j)))
  else if c = 50 then .inl (cy 0, 24, .inl (fun j => iZ (f j)))
  else .inl (cy 0, 18, .inl (fun j => iZ (f j)))
/-- cell c is an array of n ints -/
def isI (c n : Nat) : Prop := c < 52 ∧ n < 2147483648 ∧ ∀ (cy : Nat → ClassId) (ad : Nat → Nat) (f : Nat → Int), ce cy ad c f = .inl (cy 0, n, .inl (fun j => iZ (f j)))
/-- cell c is an array of n references to the cells from o on, of the kind t -/
def isQ (c n o t : Nat) : Prop := c < 52 ∧ n < 2147483648 ∧ ∀ (cy : Nat → ClassId) (ad : Nat → Nat) (f : Nat → Int), ce cy ad c f = .inl (cy t, n, .inr (.inr (.inr (.inr (fun j => some (ad (o + j)))))))
/-- cell c is an object of the class ci, its fields fs -/
def isO (c ci : Nat) (fs : (Nat → Nat) → (Nat → Int) → List Value) : Prop := c < 52 ∧ ∀ (cy : Nat → ClassId) (ad : Nat → Nat) (f : Nat → Int), ce cy ad c f = .inr (ci, fs ad f)
def fSJ (ad : Nat → Nat) (f : Nat → Int) : List Value := [.ref (ad 1), .ref (ad 2), .ref (ad 52), .ref (ad 4), .ref (ad 53), .ref (ad 54), .int (iZ (f 6))]
def fBd (ad : Nat → Nat) (f : Nat → Int) : List Value := [.ref (ad 19), .ref (ad 20), .int (iZ (f 2)), .int (iZ (f 3))]
def fPl (y : Nat) (ad : Nat → Nat) (f : Nat → Int) : List Value := [.ref (ad (5 + 2 * y)), .ref (ad (6 + 2 * y)), .int (iZ (f 2))]
def fSv (ad : Nat → Nat) (f : Nat → Int) : List Value := [.ref (ad 9), .ref (ad 10), .ref (ad 11), .ref (ad 12), .ref (ad 13), .ref (ad 14), .ref (ad 15), .ref (ad 16), .ref (ad 17), .ref (ad 18), .ref (ad 3), .int (iZ (f 11)), .int (iZ (f 12))]
def fRs (r : Nat) (ad : Nat → Nat) (f : Nat → Int) : List Value := [.int (iZ (f 0)), .int (iZ (f 1)), .int (iZ (f 2)), .int (iZ (f 3)), .int (iZ (f 4)), .int (iZ (f 5)), .ref (ad (29 + r))]
def fPy (p : Nat) (ad : Nat → Nat) (f : Nat → Int) : List Value := [.int (iZ (f 0)), .int (iZ (f 1)), .int (iZ (f 2)), .int (iZ (f 3)), .ref (ad (43 + p)), .ref (ad (55 + p))]
theorem isO_SJ : isO 0 7 fSJ := ⟨by omega, fun _ _ _ => rfl⟩
theorem isO_Bd : isO 1 0 fBd := ⟨by omega, fun _ _ _ => rfl⟩
theorem isO_Pl {y : Nat} (h : y < 2) : isO (2 + y) 3 (fPl y) := by
  rcases (show y = 0 ∨ y = 1 by omega) with rfl | rfl <;> exact ⟨by omega, fun _ _ _ => rfl⟩
theorem isO_Sv : isO 4 6 fSv := ⟨by omega, fun _ _ _ => rfl⟩
theorem isO_Rs {r : Nat} (h : r < 8) : isO (21 + r) 5 (fRs r) := by
  refine ⟨by omega, fun cy ad f => ?_⟩
  have e : 21 + r + 8 = 29 + r := by omega
  unfold ce fRs
  rw [if_neg (by omega), if_pos (by omega), e]
theorem isO_Py {p : Nat} (h : p < 6) : isO (37 + p) 4 (fPy p) := by
  refine ⟨by omega, fun cy ad f => ?_⟩
  have e : 37 + p + 6 = 43 + p := by omega
  have e2 : 37 + p + 18 = 55 + p := by omega
  unfold ce fPy
  rw [if_neg (by omega), if_neg (by omega), if_neg (by omega), if_pos (by omega), e, e2]
theorem isI_ch {y : Nat} (h : y < 2) : isI (5 + 2 * y) 6 := by
  rcases (show y = 0 ∨ y = 1 by omega) with rfl | rfl <;> exact ⟨by omega, by omega, fun _ _ _ => rfl⟩
theorem isI_ld {y : Nat} (h : y < 2) : isI (6 + 2 * y) 8 := by
  rcases (show y = 0 ∨ y = 1 by omega) with rfl | rfl <;> exact ⟨by omega, by omega, fun _ _ _ => rfl⟩
theorem isI_9 : isI 9 6 := ⟨by omega, by omega, fun _ _ _ => rfl⟩
theorem isI_10 : isI 10 6 := ⟨by omega, by omega, fun _ _ _ => rfl⟩
theorem isI_11 : isI 11 30 := ⟨by omega, by omega, fun _ _ _ => rfl⟩
theorem isI_12 : isI 12 30 := ⟨by omega, by omega, fun _ _ _ => rfl⟩
theorem isI_13 : isI 13 1000 := ⟨by omega, by omega, fun _ _ _ => rfl⟩
theorem isI_14 : isI 14 1000 := ⟨by omega, by omega, fun _ _ _ => rfl⟩
theorem isI_15 : isI 15 1000 := ⟨by omega, by omega, fun _ _ _ => rfl⟩
theorem isI_16 : isI 16 1000 := ⟨by omega, by omega, fun _ _ _ => rfl⟩
theorem isI_17 : isI 17 1000 := ⟨by omega, by omega, fun _ _ _ => rfl⟩
theorem isI_18 : isI 18 1000 := ⟨by omega, by omega, fun _ _ _ => rfl⟩
theorem isQ_Rs : isQ 19 8 21 2 := ⟨by omega, by omega, fun _ _ _ => rfl⟩
theorem isQ_Py : isQ 20 6 37 3 := ⟨by omega, by omega, fun _ _ _ => rfl⟩
theorem isI_dl {r : Nat} (h : r < 8) : isI (29 + r) 19 := by
  refine ⟨by omega, by omega, fun cy ad f => ?_⟩
  unfold ce
  rw [if_neg (by omega), if_neg (by omega), if_pos (by omega)]
theorem isI_wy {p : Nat} (h : p < 6) : isI (43 + p) 5 := by
  refine ⟨by omega, by omega, fun cy ad f => ?_⟩
  unfold ce
  rw [if_neg (by omega), if_neg (by omega), if_neg (by omega), if_neg (by omega), if_pos (by omega)]
theorem isI_49 : isI 49 20 := ⟨by omega, by omega, fun _ _ _ => rfl⟩
theorem isI_50 : isI 50 24 := ⟨by omega, by omega, fun _ _ _ => rfl⟩
theorem isI_51 : isI 51 18 := ⟨by omega, by omega, fun _ _ _ => rfl⟩
/-- the world -/
def wv (cy : Nat → ClassId) (ad : Nat → Nat) (μ : Mem) : va_W := (List.range 52).map (fun c => (ad c, ce cy ad c (μ c)))
theorem wv_len {cy : Nat → ClassId} {ad : Nat → Nat} {μ : Mem} : (wv cy ad μ).length = 52 := by simp [wv]
theorem wv_get {cy : Nat → ClassId} {ad : Nat → Nat} {μ : Mem} {c : Nat} (h : c < 52) : (wv cy ad μ)[c]? = some (ad c, ce cy ad c (μ c)) := by
  simp [wv, h]
theorem wv_set {cy : Nat → ClassId} {ad : Nat → Nat} {μ μ' : Mem} {c : Nat} {e : va_E} (h : c < 52) (he : ce cy ad c (μ' c) = e) (ho : ∀ k, k ≠ c → μ' k = μ k) : (wv cy ad μ).set c (ad c, e) = wv cy ad μ' := by
  apply List.ext_getElem?
  intro k
  by_cases hk : k = c
  · subst hk
    rw [List.getElem?_set_self (by rw [wv_len]; exact h), wv_get h, he]
  · rw [List.getElem?_set_ne (Ne.symm hk)]
    by_cases hl : k < 52
    · rw [wv_get hl, wv_get hl, ho k hk]
    · rw [List.getElem?_eq_none (by rw [wv_len]; omega), List.getElem?_eq_none (by rw [wv_len]; omega)]
def HP (D : va_G) (cy : Nat → ClassId) (ad : Nat → Nat) (μ : Mem) (H : Heap) : Prop := va_P D vwCl (wv cy ad μ) H
/-- the addresses are apart -/
def adI (ad : Nat → Nat) : Prop := ∀ i j, i < 52 → j < 52 → ad i = ad j → i = j
theorem adI.D {ad : Nat → Nat} (h : adI ad) {A : Nat → Prop} (hA : ∀ c, c < 52 → A (ad c)) (cy : Nat → ClassId) (μ : Mem) : va_D A (wv cy ad μ) := by
  have key : ∀ (k : Nat) (q : Nat × va_E), (wv cy ad μ)[k]? = some q → k < 52 ∧ q.1 = ad k := by
    intro k q hk
    have hl : k < 52 := by have := (List.getElem?_eq_some_iff.mp hk).1; rw [wv_len] at this; exact this
    rw [wv_get hl] at hk
    cases hk
    exact ⟨hl, rfl⟩
  refine ⟨fun i j p q hi hj hpq => ?_, fun k q hk => ?_⟩
  · obtain ⟨h1, e1⟩ := key i p hi
    obtain ⟨h2, e2⟩ := key j q hj
    exact h i j h1 h2 (by rw [← e1, ← e2]; exact hpq)
  · obtain ⟨h1, e1⟩ := key k q hk
    rw [e1]
    exact hA k h1
/-- what a method may change: the world's cells, and what is new -/
def aA (ad : Nat → Nat) (sz : Nat) : Nat → Prop := fun q => (∃ c, c < 52 ∧ ad c = q) ∨ sz ≤ q
theorem aA.in {ad : Nat → Nat} {sz c : Nat} (h : c < 52) : aA ad sz (ad c) := Or.inl ⟨c, h, rfl⟩
/-- a method's walk: machine, launch, and the like, in one -/
abbrev VC : Type := (Program × Launch × Env × Room) × (State × MethodId × Array Value × List Frame) × (Method × Code × (State → Prop)) × ((Nat → Prop) × va_G × (Nat → ClassId) × (Nat → Nat))
/-- cells beside the world: the method's own, and apart -/
def exD (A : Nat → Prop) (ad : Nat → Nat) (ex : va_W) : Prop := (∀ (k : Nat) (q : Nat × va_E), ex[k]? = some q → A q.1 ∧ ∀ c, c < 52 → q.1 ≠ ad c) ∧ ∀ (i j : Nat) (p q : Nat × va_E), ex[i]? = some p → ex[j]? = some q → p.1 = q.1 → i = j
theorem exD_nil {A : Nat → Prop} {ad : Nat → Nat} : exD A ad [] := ⟨fun k q h => by simp at h, fun i j p q h => by simp at h⟩
def HPx (A : Nat → Prop) (D : va_G) (cy : Nat → ClassId) (ad : Nat → Nat) (μ : Mem) (ex : va_W) (H : Heap) : Prop := va_P D vwCl (wv cy ad μ ++ ex) H ∧ exD A ad ex
theorem wx_get {cy : Nat → ClassId} {ad : Nat → Nat} {μ : Mem} {ex : va_W} {c : Nat} (h : c < 52) : (wv cy ad μ ++ ex)[c]? = some (ad c, ce cy ad c (μ c)) := by
  rw [List.getElem?_append_left (by rw [wv_len]; exact h)]
  exact wv_get h
theorem wx_set {cy : Nat → ClassId} {ad : Nat → Nat} {μ μ' : Mem} {ex : va_W} {c : Nat} {e : va_E} (h : c < 52) (he : ce cy ad c (μ' c) = e) (ho : ∀ k, k ≠ c → μ' k = μ k) : (wv cy ad μ ++ ex).set c (ad c, e) = wv cy ad μ' ++ ex := by
  rw [List.set_append_left _ _ (by rw [wv_len]; exact h), wv_set h he ho]
theorem wx_D {A : Nat → Prop} {cy : Nat → ClassId} {ad : Nat → Nat} {μ : Mem} {ex : va_W} (hI : adI ad) (hA : ∀ c, c < 52 → A (ad c)) (hE : exD A ad ex) : va_D A (wv cy ad μ ++ ex) := by
  refine va_D.app (hI.D hA cy μ) ⟨hE.2, fun k q hk => (hE.1 k q hk).1⟩ (fun i j p q hi hj hpq => ?_)
  have hl : i < 52 := by have := (List.getElem?_eq_some_iff.mp hi).1; rw [wv_len] at this; exact this
  rw [wv_get hl] at hi
  cases hi
  exact (hE.1 j q hj).2 i hl hpq.symm
def vY (X : VC) (nL pc cells slots : Nat) (lv : List (Nat × Value)) (st : List Value) (μ : Mem) (ex : va_W) : Prop :=
  ∀ (H : Heap) (locs : List Loc) (ls : Array Slot), HPx X.2.2.2.1 X.2.2.2.2.1 X.2.2.2.2.2.1 X.2.2.2.2.2.2 μ ex H → va_S X.2.2.2.1 X.2.1.1.heap H locs → lv_has ls nL lv →
    W X.1.1 X.1.2.1 X.1.2.2.1 X.1.2.2.2 X.2.1.1 X.2.1.2.1 X.2.1.2.2.1 X.2.1.2.2.2 X.2.2.1.1 X.2.2.1.2.1 H locs cells slots X.2.2.1.2.2 (F0 X.2.1.2.1 pc ls st)
abbrev vW (X : VC) (nL pc cells slots : Nat) (lv : List (Nat × Value)) (st : List Value) (μ : Mem) : Prop := vY X nL pc cells slots lv st μ []
/-- what a walk knows of its method -/
def vK (X : VC) (cc : ByteArray) (nL : Nat) (own : String) (Ts : List Cond) (rm : Room) : Prop :=
  (X.1.1.tables.exec = Jvm.exec ∧ X.2.2.1.2.1.code = cc ∧ X.2.2.1.2.1.maxLocals = nL ∧ X.2.1.1.vm.findClass own = some X.2.1.2.1.cls ∧ (∀ w ∈ Ts, w.before X.2.1.2.2.1 X.2.1.1 = true) ∧ X.1.2.2.2 = rm) ∧
  va_K X.2.2.2.2.1 vwCl (tyG X.2.2.2.2.2.1) X.2.1.1 ∧ adI X.2.2.2.2.2.2 ∧ (∀ c, c < 52 → X.2.2.2.1 (X.2.2.2.2.2.2 c)) ∧ (∀ q, X.2.1.1.heap.size ≤ q → X.2.2.2.1 q) ∧ exP X.2.2.2.1 X.2.1.1 ∧ X.1.2.1.stackTraces = false
abbrev vAd (X : VC) : Nat → Nat := X.2.2.2.2.2.2
section VV
variable {X : VC} {cc : ByteArray} {nL : Nat} {own : String} {Ts : List Cond} {rm : Room} {pc cells slots : Nat} {lv lv' : List (Nat × Value)} {st : List Value} {μ μ' : Mem} {ex : va_W}
theorem v_eq {lv1 : List (Nat × Value)} {st1 : List Value} (hl : lv = lv1) (hs : st = st1) (k : vY X nL pc cells slots lv1 st1 μ ex) : vY X nL pc cells slots lv st μ ex := by
  subst hl; subst hs; exact k
theorem v_iconst {n : Int} (K : vK X cc nL own Ts rm) (hd : decode cc pc = .ok (.iconst n, 1)) (k : vY X nL (pc + 1) cells slots lv (.int (iZ n) :: st) μ ex) : vY X nL pc cells slots lv st μ ex :=
  fun H locs ls hP hS hl => lv_iconst K.1.1 K.1.2.1 hd rfl (k H locs ls hP hS hl)
theorem v_bipush {n : Int} (K : vK X cc nL own Ts rm) (hd : decode cc pc = .ok (.bipush n, 2)) (hn : (Int8.ofInt n).toInt32 = iZ n) (k : vY X nL (pc + 2) cells slots lv (.int (iZ n) :: st) μ ex) : vY X nL pc cells slots lv st μ ex :=
  fun H locs ls hP hS hl => lv_bipush K.1.1 K.1.2.1 hd hn (k H locs ls hP hS hl)
theorem v_sipush {n : Int} (K : vK X cc nL own Ts rm) (hd : decode cc pc = .ok (.sipush n, 3)) (hn : (Int16.ofInt n).toInt32 = iZ n) (k : vY X nL (pc + 3) cells slots lv (.int (iZ n) :: st) μ ex) : vY X nL pc cells slots lv st μ ex :=
  fun H locs ls hP hS hl => lv_sipush K.1.1 K.1.2.1 hd hn (k H locs ls hP hS hl)
theorem v_ldc {v : Int32} {n : Int} {index : Nat} (K : vK X cc nL own Ts rm) (hc : Cond.constant own index v ∈ Ts) (hd : decode cc pc = .ok (.ldc index, 2)) (hn : v = iZ n) (k : vY X nL (pc + 2) cells slots lv (.int (iZ n) :: st) μ ex) : vY X nL pc cells slots lv st μ ex :=
  fun H locs ls hP hS hl => lv_ldc (v := iZ n) K.1.1 K.1.2.1 K.1.2.2.2.1 (by rw [← hn]; exact K.1.2.2.2.2.1 _ hc) hd (k H locs ls hP hS hl)
theorem v_ldcw {v : Int32} {n : Int} {index : Nat} (K : vK X cc nL own Ts rm) (hc : Cond.constant own index v ∈ Ts) (hd : decode cc pc = .ok (.ldc_w index, 3)) (hn : v = iZ n) (k : vY X nL (pc + 3) cells slots lv (.int (iZ n) :: st) μ ex) : vY X nL pc cells slots lv st μ ex :=
  fun H locs ls hP hS hl => lv_ldcw (v := iZ n) K.1.1 K.1.2.1 K.1.2.2.2.1 (by rw [← hn]; exact K.1.2.2.2.2.1 _ hc) hd (k H locs ls hP hS hl)
theorem v_iload_n {k : Fin 4} {x : Int32} (i : Nat) (K : vK X cc nL own Ts rm) (hd : decode cc pc = .ok (.iload_n k, 1)) (hk : lv[i]? = some ((k : Nat), .int x)) (kk : vY X nL (pc + 1) cells slots lv (.int x :: st) μ ex) : vY X nL pc cells slots lv st μ ex :=
  fun H locs ls hP hS hl => lv_iload_n K.1.1 K.1.2.1 hd rfl (lv_at hl i hk) (kk H locs ls hP hS hl)
theorem v_iload {j : Nat} {x : Int32} (i : Nat) (K : vK X cc nL own Ts rm) (hd : decode cc pc = .ok (.iload j, 2)) (hk : lv[i]? = some (j, .int x)) (kk : vY X nL (pc + 2) cells slots lv (.int x :: st) μ ex) : vY X nL pc cells slots lv st μ ex :=
  fun H locs ls hP hS hl => lv_iload K.1.1 K.1.2.1 hd (lv_at hl i hk) (kk H locs ls hP hS hl)
theorem v_aload_n {k : Fin 4} {x : Nat} (i : Nat) (K : vK X cc nL own Ts rm) (hd : decode cc pc = .ok (.aload_n k, 1)) (hk : lv[i]? = some ((k : Nat), .ref x)) (kk : vY X nL (pc + 1) cells slots lv (.ref x :: st) μ ex) : vY X nL pc cells slots lv st μ ex :=
  fun H locs ls hP hS hl => lv_aload_n K.1.1 K.1.2.1 hd rfl (lv_at hl i hk) (kk H locs ls hP hS hl)
theorem v_aload {j : Nat} {x : Nat} (i : Nat) (K : vK X cc nL own Ts rm) (hd : decode cc pc = .ok (.aload j, 2)) (hk : lv[i]? = some (j, .ref x)) (kk : vY X nL (pc + 2) cells slots lv (.ref x :: st) μ ex) : vY X nL pc cells slots lv st μ ex :=
  fun H locs ls hP hS hl => lv_aload K.1.1 K.1.2.1 hd (lv_at hl i hk) (kk H locs ls hP hS hl)
theorem v_istore_n {k : Fin 4} {x : Int32} (lv' : List (Nat × Value)) (K : vK X cc nL own Ts rm) (hd : decode cc pc = .ok (.istore_n k, 1)) (hn : (k : Nat) < nL) (hl : ((k : Nat), Value.int x) :: lv.filter (fun q => !(q.1 == (k : Nat)) && !(q.1 + 1 == (k : Nat) && q.2.category == 2)) = lv') (kk : vY X nL (pc + 1) cells slots lv' st μ ex) : vY X nL pc cells slots lv (.int x :: st) μ ex :=
  fun H locs ls hP hS h => lv_istore_n K.1.1 K.1.2.1 hd rfl h hn hl (fun ls h => kk H locs ls hP hS h)
theorem v_istore {j : Nat} {x : Int32} (lv' : List (Nat × Value)) (K : vK X cc nL own Ts rm) (hd : decode cc pc = .ok (.istore j, 2)) (hn : j < nL) (hl : (j, Value.int x) :: lv.filter (fun q => !(q.1 == j) && !(q.1 + 1 == j && q.2.category == 2)) = lv') (kk : vY X nL (pc + 2) cells slots lv' st μ ex) : vY X nL pc cells slots lv (.int x :: st) μ ex :=
  fun H locs ls hP hS h => lv_istore K.1.1 K.1.2.1 hd h hn hl (fun ls h => kk H locs ls hP hS h)
theorem v_astore_n {k : Fin 4} {x : Nat} (lv' : List (Nat × Value)) (K : vK X cc nL own Ts rm) (hd : decode cc pc = .ok (.astore_n k, 1)) (hn : (k : Nat) < nL) (hl : ((k : Nat), Value.ref x) :: lv.filter (fun q => !(q.1 == (k : Nat)) && !(q.1 + 1 == (k : Nat) && q.2.category == 2)) = lv') (kk : vY X nL (pc + 1) cells slots lv' st μ ex) : vY X nL pc cells slots lv (.ref x :: st) μ ex :=
  fun H locs ls hP hS h => lv_astore_n K.1.1 K.1.2.1 hd rfl h hn hl (fun ls h => kk H locs ls hP hS h)
theorem v_astore {j : Nat} {x : Nat} (lv' : List (Nat × Value)) (K : vK X cc nL own Ts rm) (hd : decode cc pc = .ok (.astore j, 2)) (hn : j < nL) (hl : (j, Value.ref x) :: lv.filter (fun q => !(q.1 == j) && !(q.1 + 1 == j && q.2.category == 2)) = lv') (kk : vY X nL (pc + 2) cells slots lv' st μ ex) : vY X nL pc cells slots lv (.ref x :: st) μ ex :=
  fun H locs ls hP hS h => lv_astore K.1.1 K.1.2.1 hd h hn hl (fun ls h => kk H locs ls hP hS h)
theorem v_iinc {j : Nat} {n x : Int} (i : Nat) (lv' : List (Nat × Value)) (K : vK X cc nL own Ts rm) (hd : decode cc pc = .ok (.iinc j n, 3)) (hk : lv[i]? = some (j, .int (iZ x))) (hn : j < nL) (hl : (j, Value.int (iZ (x + n))) :: lv.filter (fun q => !(q.1 == j) && !(q.1 + 1 == j && q.2.category == 2)) = lv') (kk : vY X nL (pc + 3) cells slots lv' st μ ex) : vY X nL pc cells slots lv st μ ex :=
  fun H locs ls hP hS h => lv_iinc (k := i) (v := iZ (x + n)) K.1.1 K.1.2.1 hd h hk (by rw [← iZ_add]; rfl) hn hl (fun ls h => kk H locs ls hP hS h)
theorem v_iadd {a b : Int} (K : vK X cc nL own Ts rm) (hd : decode cc pc = .ok (.iadd, 1)) (kk : vY X nL (pc + 1) cells slots lv (.int (iZ (a + b)) :: st) μ ex) : vY X nL pc cells slots lv (.int (iZ b) :: .int (iZ a) :: st) μ ex :=
  fun H locs ls hP hS h => lv_iadd K.1.1 K.1.2.1 hd (by rw [iZ_add]; exact kk H locs ls hP hS h)
theorem v_isub {a b : Int} (K : vK X cc nL own Ts rm) (hd : decode cc pc = .ok (.isub, 1)) (kk : vY X nL (pc + 1) cells slots lv (.int (iZ (a - b)) :: st) μ ex) : vY X nL pc cells slots lv (.int (iZ b) :: .int (iZ a) :: st) μ ex :=
  fun H locs ls hP hS h => lv_isub K.1.1 K.1.2.1 hd (by rw [iZ_sub]; exact kk H locs ls hP hS h)
theorem v_imul {a b : Int} (K : vK X cc nL own Ts rm) (hd : decode cc pc = .ok (.imul, 1)) (kk : vY X nL (pc + 1) cells slots lv (.int (iZ (a * b)) :: st) μ ex) : vY X nL pc cells slots lv (.int (iZ b) :: .int (iZ a) :: st) μ ex :=
  fun H locs ls hP hS h => lv_imul K.1.1 K.1.2.1 hd (by rw [iZ_mul]; exact kk H locs ls hP hS h)
theorem v_iand {a b : Int32} {z : Int} (hz : a &&& b = iZ z) (K : vK X cc nL own Ts rm) (hd : decode cc pc = .ok (.iand, 1)) (kk : vY X nL (pc + 1) cells slots lv (.int (iZ z) :: st) μ ex) : vY X nL pc cells slots lv (.int b :: .int a :: st) μ ex :=
  fun H locs ls hP hS h => lv_iand K.1.1 K.1.2.1 hd (by rw [hz]; exact kk H locs ls hP hS h)
theorem v_ior {a b : Int32} {z : Int} (hz : a ||| b = iZ z) (K : vK X cc nL own Ts rm) (hd : decode cc pc = .ok (.ior, 1)) (kk : vY X nL (pc + 1) cells slots lv (.int (iZ z) :: st) μ ex) : vY X nL pc cells slots lv (.int b :: .int a :: st) μ ex :=
  fun H locs ls hP hS h => lv_ior K.1.1 K.1.2.1 hd (by rw [hz]; exact kk H locs ls hP hS h)
theorem v_ixor {a b : Int32} {z : Int} (hz : a ^^^ b = iZ z) (K : vK X cc nL own Ts rm) (hd : decode cc pc = .ok (.ixor, 1)) (kk : vY X nL (pc + 1) cells slots lv (.int (iZ z) :: st) μ ex) : vY X nL pc cells slots lv (.int b :: .int a :: st) μ ex :=
  fun H locs ls hP hS h => lv_ixor K.1.1 K.1.2.1 hd (by rw [hz]; exact kk H locs ls hP hS h)
theorem v_pop {v : Value} (hv : v.category = 1) (K : vK X cc nL own Ts rm) (hd : decode cc pc = .ok (.pop, 1)) (kk : vY X nL (pc + 1) cells slots lv st μ ex) : vY X nL pc cells slots lv (v :: st) μ ex :=
  fun H locs ls hP hS h => lv_pop K.1.1 K.1.2.1 hd hv (kk H locs ls hP hS h)
theorem v_dup {v : Value} (hv : v.category = 1) (K : vK X cc nL own Ts rm) (hd : decode cc pc = .ok (.dup, 1)) (kk : vY X nL (pc + 1) cells slots lv (v :: v :: st) μ ex) : vY X nL pc cells slots lv (v :: st) μ ex :=
  fun H locs ls hP hS h => lv_dup K.1.1 K.1.2.1 hd hv (kk H locs ls hP hS h)
theorem v_goto {off : Int} (tgt : Nat) (K : vK X cc nL own Ts rm) (hd : decode cc pc = .ok (.goto off, 3)) (ht : (pc : Int) + off = (tgt : Int)) (kk : vY X nL tgt cells slots lv st μ ex) : vY X nL pc cells slots lv st μ ex :=
  fun H locs ls hP hS h => lv_goto K.1.1 K.1.2.1 hd ht (kk H locs ls hP hS h)
end VV
