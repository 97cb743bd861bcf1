/-! branches, fields, arrays, calls, ends of a walk over the memory -/
section VB
variable {X : VC} {cc : ByteArray} {nL : Nat} {own : String} {Ts : List Cond} {rm : Room} {pc cells slots : Nat} {lv lv' : List (Nat × Value)} {st : List Value} {μ μ' : Mem}
variable {a b off : Int}
theorem v_icmp_lt (tgt : Nat) (K : vK X cc nL own Ts rm) (hd : decode cc pc = .ok (.if_icmp .lt off, 3)) (ht : (pc : Int) + off = (tgt : Int)) (ha : -2147483648 ≤ a ∧ a ≤ 2147483647) (hb : -2147483648 ≤ b ∧ b ≤ 2147483647) (kt : a < b → vW X nL tgt cells slots lv st μ) (kf : b ≤ a → vW X nL (pc + 3) cells slots lv st μ) : vW X nL pc cells slots lv (.int (iZ b) :: .int (iZ a) :: st) μ :=
  fun H locs ls hP hS h => lv_icmp_lt K.1.1 K.1.2.1 hd ht (fun q => kt ((iZ_lt ha hb).mp q) H locs ls hP hS h) (fun q => kf (Int.not_lt.mp (fun z => q ((iZ_lt ha hb).mpr z))) H locs ls hP hS h)
theorem v_icmp_ge (tgt : Nat) (K : vK X cc nL own Ts rm) (hd : decode cc pc = .ok (.if_icmp .ge off, 3)) (ht : (pc : Int) + off = (tgt : Int)) (ha : -2147483648 ≤ a ∧ a ≤ 2147483647) (hb : -2147483648 ≤ b ∧ b ≤ 2147483647) (kt : b ≤ a → vW X nL tgt cells slots lv st μ) (kf : a < b → vW X nL (pc + 3) cells slots lv st μ) : vW X nL pc cells slots lv (.int (iZ b) :: .int (iZ a) :: st) μ :=
  fun H locs ls hP hS h => lv_icmp_ge K.1.1 K.1.2.1 hd ht (fun q => kt ((iZ_le hb ha).mp q) H locs ls hP hS h) (fun q => kf (Int.not_le.mp (fun z => q ((iZ_le hb ha).mpr z))) H locs ls hP hS h)
theorem v_icmp_gt (tgt : Nat) (K : vK X cc nL own Ts rm) (hd : decode cc pc = .ok (.if_icmp .gt off, 3)) (ht : (pc : Int) + off = (tgt : Int)) (ha : -2147483648 ≤ a ∧ a ≤ 2147483647) (hb : -2147483648 ≤ b ∧ b ≤ 2147483647) (kt : b < a → vW X nL tgt cells slots lv st μ) (kf : a ≤ b → vW X nL (pc + 3) cells slots lv st μ) : vW X nL pc cells slots lv (.int (iZ b) :: .int (iZ a) :: st) μ :=
  fun H locs ls hP hS h => lv_icmp_gt K.1.1 K.1.2.1 hd ht (fun q => kt ((iZ_lt hb ha).mp q) H locs ls hP hS h) (fun q => kf (Int.not_lt.mp (fun z => q ((iZ_lt hb ha).mpr z))) H locs ls hP hS h)
theorem v_icmp_le (tgt : Nat) (K : vK X cc nL own Ts rm) (hd : decode cc pc = .ok (.if_icmp .le off, 3)) (ht : (pc : Int) + off = (tgt : Int)) (ha : -2147483648 ≤ a ∧ a ≤ 2147483647) (hb : -2147483648 ≤ b ∧ b ≤ 2147483647) (kt : a ≤ b → vW X nL tgt cells slots lv st μ) (kf : b < a → vW X nL (pc + 3) cells slots lv st μ) : vW X nL pc cells slots lv (.int (iZ b) :: .int (iZ a) :: st) μ :=
  fun H locs ls hP hS h => lv_icmp_le K.1.1 K.1.2.1 hd ht (fun q => kt ((iZ_le ha hb).mp q) H locs ls hP hS h) (fun q => kf (Int.not_le.mp (fun z => q ((iZ_le ha hb).mpr z))) H locs ls hP hS h)
theorem v_icmp_eq (tgt : Nat) (K : vK X cc nL own Ts rm) (hd : decode cc pc = .ok (.if_icmp .eq off, 3)) (ht : (pc : Int) + off = (tgt : Int)) (ha : -2147483648 ≤ a ∧ a ≤ 2147483647) (hb : -2147483648 ≤ b ∧ b ≤ 2147483647) (kt : a = b → vW X nL tgt cells slots lv st μ) (kf : a ≠ b → vW X nL (pc + 3) cells slots lv st μ) : vW X nL pc cells slots lv (.int (iZ b) :: .int (iZ a) :: st) μ :=
  fun H locs ls hP hS h => lv_icmp_eq K.1.1 K.1.2.1 hd ht (fun q => kt ((iZ_inj ha hb).mp q) H locs ls hP hS h) (fun q => kf (fun z => q ((iZ_inj ha hb).mpr z)) H locs ls hP hS h)
theorem v_icmp_ne (tgt : Nat) (K : vK X cc nL own Ts rm) (hd : decode cc pc = .ok (.if_icmp .ne off, 3)) (ht : (pc : Int) + off = (tgt : Int)) (ha : -2147483648 ≤ a ∧ a ≤ 2147483647) (hb : -2147483648 ≤ b ∧ b ≤ 2147483647) (kt : a ≠ b → vW X nL tgt cells slots lv st μ) (kf : a = b → vW X nL (pc + 3) cells slots lv st μ) : vW X nL pc cells slots lv (.int (iZ b) :: .int (iZ a) :: st) μ :=
  fun H locs ls hP hS h => lv_icmp_ne K.1.1 K.1.2.1 hd ht (fun q => kt (fun z => q ((iZ_inj ha hb).mpr z)) H locs ls hP hS h) (fun q => kf ((iZ_inj ha hb).mp q) H locs ls hP hS h)
theorem v_if_lt (tgt : Nat) (K : vK X cc nL own Ts rm) (hd : decode cc pc = .ok (.ifCond .lt off, 3)) (ht : (pc : Int) + off = (tgt : Int)) (ha : -2147483648 ≤ a ∧ a ≤ 2147483647) (kt : a < 0 → vW X nL tgt cells slots lv st μ) (kf : 0 ≤ a → vW X nL (pc + 3) cells slots lv st μ) : vW X nL pc cells slots lv (.int (iZ a) :: st) μ :=
  fun H locs ls hP hS h => lv_if_lt K.1.1 K.1.2.1 hd ht (fun q => kt ((iZ_lt (b := 0) ha (by omega)).mp q) H locs ls hP hS h) (fun q => kf (Int.not_lt.mp (fun z => q ((iZ_lt (b := 0) ha (by omega)).mpr z))) H locs ls hP hS h)
theorem v_if_ge (tgt : Nat) (K : vK X cc nL own Ts rm) (hd : decode cc pc = .ok (.ifCond .ge off, 3)) (ht : (pc : Int) + off = (tgt : Int)) (ha : -2147483648 ≤ a ∧ a ≤ 2147483647) (kt : 0 ≤ a → vW X nL tgt cells slots lv st μ) (kf : a < 0 → vW X nL (pc + 3) cells slots lv st μ) : vW X nL pc cells slots lv (.int (iZ a) :: st) μ :=
  fun H locs ls hP hS h => lv_if_ge K.1.1 K.1.2.1 hd ht (fun q => kt ((iZ_le (a := 0) (by omega) ha).mp q) H locs ls hP hS h) (fun q => kf (Int.not_le.mp (fun z => q ((iZ_le (a := 0) (by omega) ha).mpr z))) H locs ls hP hS h)
theorem v_if_gt (tgt : Nat) (K : vK X cc nL own Ts rm) (hd : decode cc pc = .ok (.ifCond .gt off, 3)) (ht : (pc : Int) + off = (tgt : Int)) (ha : -2147483648 ≤ a ∧ a ≤ 2147483647) (kt : 0 < a → vW X nL tgt cells slots lv st μ) (kf : a ≤ 0 → vW X nL (pc + 3) cells slots lv st μ) : vW X nL pc cells slots lv (.int (iZ a) :: st) μ :=
  fun H locs ls hP hS h => lv_if_gt K.1.1 K.1.2.1 hd ht (fun q => kt ((iZ_lt (a := 0) (by omega) ha).mp q) H locs ls hP hS h) (fun q => kf (Int.not_lt.mp (fun z => q ((iZ_lt (a := 0) (by omega) ha).mpr z))) H locs ls hP hS h)
theorem v_if_le (tgt : Nat) (K : vK X cc nL own Ts rm) (hd : decode cc pc = .ok (.ifCond .le off, 3)) (ht : (pc : Int) + off = (tgt : Int)) (ha : -2147483648 ≤ a ∧ a ≤ 2147483647) (kt : a ≤ 0 → vW X nL tgt cells slots lv st μ) (kf : 0 < a → vW X nL (pc + 3) cells slots lv st μ) : vW X nL pc cells slots lv (.int (iZ a) :: st) μ :=
  fun H locs ls hP hS h => lv_if_le K.1.1 K.1.2.1 hd ht (fun q => kt ((iZ_le (b := 0) ha (by omega)).mp q) H locs ls hP hS h) (fun q => kf (Int.not_le.mp (fun z => q ((iZ_le (b := 0) ha (by omega)).mpr z))) H locs ls hP hS h)
theorem v_if_eq (tgt : Nat) (K : vK X cc nL own Ts rm) (hd : decode cc pc = .ok (.ifCond .eq off, 3)) (ht : (pc : Int) + off = (tgt : Int)) (ha : -2147483648 ≤ a ∧ a ≤ 2147483647) (kt : a = 0 → vW X nL tgt cells slots lv st μ) (kf : a ≠ 0 → vW X nL (pc + 3) cells slots lv st μ) : vW X nL pc cells slots lv (.int (iZ a) :: st) μ :=
  fun H locs ls hP hS h => lv_if_eq K.1.1 K.1.2.1 hd ht (fun q => kt ((iZ_inj (b := 0) ha (by omega)).mp q) H locs ls hP hS h) (fun q => kf (fun z => q ((iZ_inj (b := 0) ha (by omega)).mpr z)) H locs ls hP hS h)
theorem v_if_ne (tgt : Nat) (K : vK X cc nL own Ts rm) (hd : decode cc pc = .ok (.ifCond .ne off, 3)) (ht : (pc : Int) + off = (tgt : Int)) (ha : -2147483648 ≤ a ∧ a ≤ 2147483647) (kt : a ≠ 0 → vW X nL tgt cells slots lv st μ) (kf : a = 0 → vW X nL (pc + 3) cells slots lv st μ) : vW X nL pc cells slots lv (.int (iZ a) :: st) μ :=
  fun H locs ls hP hS h => lv_if_ne K.1.1 K.1.2.1 hd ht (fun q => kt (fun z => q ((iZ_inj (b := 0) ha (by omega)).mpr z)) H locs ls hP hS h) (fun q => kf ((iZ_inj (b := 0) ha (by omega)).mp q) H locs ls hP hS h)
-- shifts, division
theorem v_ishl {x y : Int32} {z : Int} (hz : x <<< (y &&& 31) = iZ z) (K : vK X cc nL own Ts rm) (hd : decode cc pc = .ok (.ishl, 1)) (kk : vW X nL (pc + 1) cells slots lv (.int (iZ z) :: st) μ) : vW X nL pc cells slots lv (.int y :: .int x :: st) μ :=
  fun H locs ls hP hS h => lv_ishl K.1.1 K.1.2.1 hd (by rw [hz]; exact kk H locs ls hP hS h)
theorem v_ishr {x y : Int32} {z : Int} (hz : x >>> (y &&& 31) = iZ z) (K : vK X cc nL own Ts rm) (hd : decode cc pc = .ok (.ishr, 1)) (kk : vW X nL (pc + 1) cells slots lv (.int (iZ z) :: st) μ) : vW X nL pc cells slots lv (.int y :: .int x :: st) μ :=
  fun H locs ls hP hS h => lv_ishr K.1.1 K.1.2.1 hd (by rw [hz]; exact kk H locs ls hP hS h)
theorem v_iushr {x y : Int32} {z : Int} (hz : (x.toUInt32 >>> (y.toUInt32 &&& Int32.toUInt32 31)).toInt32 = iZ z) (K : vK X cc nL own Ts rm) (hd : decode cc pc = .ok (.iushr, 1)) (kk : vW X nL (pc + 1) cells slots lv (.int (iZ z) :: st) μ) : vW X nL pc cells slots lv (.int y :: .int x :: st) μ :=
  fun H locs ls hP hS h => lv_iushr K.1.1 K.1.2.1 hd hz (kk H locs ls hP hS h)
theorem iZ_ne0 {z : Int} (h : -2147483648 ≤ z ∧ z ≤ 2147483647) (h0 : z ≠ 0) : ¬ iZ z = 0 := fun q => h0 ((iZ_inj (b := 0) h (by omega)).mp q)
theorem iZ_div {x y : Int} (hx : 0 ≤ x ∧ x ≤ 2147483647) (hy : 0 < y ∧ y ≤ 2147483647) : iZ x / iZ y = iZ (x / y) := by
  apply Int32.toInt_inj.mp
  have hq : 0 ≤ x / y := Int.ediv_nonneg hx.1 (by omega)
  have hq2 : x / y ≤ x := Int.ediv_le_self _ hx.1
  rw [iZ_toInt (by omega), Int32.toInt_div_of_ne_left (fun q => ?_), iZ_toInt (by omega), iZ_toInt (by omega), Int.tdiv_eq_ediv_of_nonneg hx.1]
  have : (iZ x).toInt = Int32.minValue.toInt := congrArg _ q
  rw [iZ_toInt (by omega)] at this
  have e : Int32.minValue.toInt = -2147483648 := rfl
  omega
theorem iZ_rem {x y : Int} (hx : 0 ≤ x ∧ x ≤ 2147483647) (hy : 0 < y ∧ y ≤ 2147483647) : iZ x % iZ y = iZ (x % y) := by
  apply Int32.toInt_inj.mp
  have h1 := Int.emod_nonneg x (show y ≠ 0 by omega)
  have h2 := Int.emod_lt_of_pos x (show 0 < y by omega)
  rw [iZ_toInt (by omega), Int32.toInt_mod, iZ_toInt (by omega), iZ_toInt (by omega), Int.tmod_eq_emod_of_nonneg hx.1]
theorem v_idiv {x y : Int} (hx : 0 ≤ x ∧ x ≤ 2147483647) (hy : 0 < y ∧ y ≤ 2147483647) (K : vK X cc nL own Ts rm) (hd : decode cc pc = .ok (.idiv, 1)) (kk : vW X nL (pc + 1) cells slots lv (.int (iZ (x / y)) :: st) μ) : vW X nL pc cells slots lv (.int (iZ y) :: .int (iZ x) :: st) μ :=
  fun H locs ls hP hS h => lv_idiv K.1.1 K.1.2.1 hd (iZ_ne0 (by omega) (by omega)) (by rw [iZ_div hx hy]; exact kk H locs ls hP hS h)
theorem v_irem {x y : Int} (hx : 0 ≤ x ∧ x ≤ 2147483647) (hy : 0 < y ∧ y ≤ 2147483647) (K : vK X cc nL own Ts rm) (hd : decode cc pc = .ok (.irem, 1)) (kk : vW X nL (pc + 1) cells slots lv (.int (iZ (x % y)) :: st) μ) : vW X nL pc cells slots lv (.int (iZ y) :: .int (iZ x) :: st) μ :=
  fun H locs ls hP hS h => lv_irem K.1.1 K.1.2.1 hd (iZ_ne0 (by omega) (by omega)) (by rw [iZ_rem hx hy]; exact kk H locs ls hP hS h)
-- fields
theorem upM_row {μ : Mem} {c k : Nat} {x : Int} : upM μ c k x c = fun j => if j = k then x else μ c j := funext fun j => by simp [upM]
theorem upM_off {μ : Mem} {c k c' : Nat} {x : Int} (h : c' ≠ c) : upM μ c k x c' = μ c' := funext fun j => by simp [upM, h]
theorem v_get {c ci index k N : Nat} {C ref : String} {T : u_T} {fs : (Nat → Nat) → (Nat → Int) → List Value} {v : Value} (K : vK X cc nL own Ts rm) (hO : isO c ci fs) (hc : vwCl[ci]? = some (C, T, N)) (hin : ∀ w ∈ u_ws C T N, w ∈ Ts) (hk : k < N) (hlink : Cond.fieldLink own index ref (T k).2.1 (T k).2.2.1 ∈ Ts) (hsame : (T k).1 = ref) (hd : decode cc pc = .ok (.getfield index, 3)) (hv : (fs (vAd X) (μ c))[k]? = some v)
    (kk : vW X nL (pc + 3) cells slots lv (v :: st) μ) : vW X nL pc cells slots lv (.ref (vAd X c) :: st) μ :=
  fun H locs ls hP hS h => va_get K.1.1 K.1.2.1 K.1.2.2.2.2.1 hin K.1.2.2.2.1 K.2.1 hP c (by rw [wv_get hO.1, hO.2]) hc k hk (K.1.2.2.2.2.1 _ hlink) (fun _ q => by rw [← hsame]; exact q) hv hd (kk H locs ls hP hS h)
theorem v_put {c ci index k N : Nat} {C ref : String} {T : u_T} {tyT : Nat → FieldType} {ty : FieldType} {fs : (Nat → Nat) → (Nat → Int) → List Value} {z : Int} (K : vK X cc nL own Ts rm) (hO : isO c ci fs) (hc : vwCl[ci]? = some (C, T, N)) (hin : ∀ w ∈ u_ws C T N, w ∈ Ts) (hty : ∀ k, k < N → parseFieldDescriptor (T k).2.2.1 = some (tyT k)) (hnm : ∀ a, a < N → ∀ b, b < N → a ≠ b → (T a).2.1 ≠ (T b).2.1) (hk : k < N) (hlink : Cond.fieldLink own index ref (T k).2.1 (T k).2.2.1 ∈ Ts) (hsame : (T k).1 = ref) (hfin : (T k).2.2.2 = false) (hdt : parseFieldDescriptor (T k).2.2.1 = some ty) (hd : decode cc pc = .ok (.putfield index, 3))
    (hset : ∀ (ad : Nat → Nat) (f : Nat → Int) (x : Int), (fs ad f).set k (.int (iZ x)) = fs ad (fun j => if j = k then x else f j)) (hlen : ∀ (ad : Nat → Nat) (f : Nat → Int), k < (fs ad f).length) (hn : narrow ty (.int (iZ z)) = .int (iZ z)) (hf : fits ty (.int (iZ z)) = true)
    (kk : vW X nL (pc + 3) cells slots lv st (upM μ c k z)) : vW X nL pc cells slots lv (.int (iZ z) :: .ref (vAd X c) :: st) μ := by
  intro H locs ls hP hS h
  have hD : va_D X.2.2.2.1 (wv X.2.2.2.2.2.1 X.2.2.2.2.2.2 μ) := K.2.2.1.D K.2.2.2.1 _ _
  refine va_put (v := .int (iZ z)) (ty := ty) K.1.1 K.1.2.1 K.1.2.2.2.2.1 hin tyT hty hnm K.1.2.2.2.1 K.2.1 hP hD hS c (by rw [wv_get hO.1, hO.2]) hc k hk (K.1.2.2.2.2.1 _ hlink) (fun _ q => by rw [← hsame]; exact q) hfin hdt hn hf (hlen _ _) hd (fun H locs hP hD hS => kk H locs ls ?_ hS h)
  show va_P _ _ _ _
  rw [wv_set (μ' := upM μ c k z) hO.1 (by rw [hO.2, hset, upM_row]) (fun k hk => upM_off hk)] at hP
  exact hP
-- arrays
theorem v_iald {c n : Nat} {t : Int} (k : Nat) (K : vK X cc nL own Ts rm) (hI : isI c n) (ht : t = (k : Int)) (hk : k < n) (hd : decode cc pc = .ok (.iaload, 1)) (kk : vW X nL (pc + 1) cells slots lv (.int (iZ (μ c k)) :: st) μ) : vW X nL pc cells slots lv (.int (iZ t) :: .ref (vAd X c) :: st) μ := by
  intro H locs ls hP hS h
  subst ht
  refine va_iald K.1.1 K.1.2.1 K.2.1 hP c 0 (by rw [wv_get hI.1, hI.2.2]) rfl (iZ_in rfl hk hI.2.1) hd ?_
  have hk2 : k < 2147483648 := Nat.lt_trans hk hI.2.1
  rw [iZ_clamp hk2]
  exact kk H locs ls hP hS h
theorem v_iast {c n : Nat} {t z : Int} (k : Nat) (K : vK X cc nL own Ts rm) (hI : isI c n) (ht : t = (k : Int)) (hk : k < n) (hd : decode cc pc = .ok (.iastore, 1)) (kk : vW X nL (pc + 1) cells slots lv st (upM μ c k z)) : vW X nL pc cells slots lv (.int (iZ z) :: .int (iZ t) :: .ref (vAd X c) :: st) μ := by
  intro H locs ls hP hS h
  subst ht
  have hD : va_D X.2.2.2.1 (wv X.2.2.2.2.2.1 X.2.2.2.2.2.2 μ) := K.2.2.1.D K.2.2.2.1 _ _
  refine va_iast K.1.1 K.1.2.1 K.2.1 hP hD hS c 0 (by rw [wv_get hI.1, hI.2.2]) rfl (iZ_in rfl hk hI.2.1) hd (fun H locs hP hD hS => kk H locs ls ?_ hS h)
  show va_P _ _ _ _
  have hk2 : k < 2147483648 := Nat.lt_trans hk hI.2.1
  rw [iZ_clamp hk2, wv_set (μ' := upM μ c k z) hI.1 (by
    rw [hI.2.2, upM_row]
    congr 4
    funext j
    by_cases hj : j = k <;> simp [upd, hj]) (fun k hk => upM_off hk)] at hP
  exact hP
theorem v_aald {c n o t9 : Nat} {t : Int} {C : String} (k : Nat) (K : vK X cc nL own Ts rm) (hQ : isQ c n o t9) (hty : (tyG X.2.2.2.2.2.1)[t9]? = some (X.2.2.2.2.2.1 t9, .object C)) (ht : t = (k : Int)) (hk : k < n) (hd : decode cc pc = .ok (.aaload, 1)) (kk : vW X nL (pc + 1) cells slots lv (.ref (vAd X (o + k)) :: st) μ) : vW X nL pc cells slots lv (.int (iZ t) :: .ref (vAd X c) :: st) μ := by
  intro H locs ls hP hS h
  subst ht
  refine va_aldq K.1.1 K.1.2.1 K.2.1 hP c t9 (by rw [wv_get hQ.1, hQ.2.2]) hty (iZ_in rfl hk hQ.2.1) hd ?_
  have hk2 : k < 2147483648 := Nat.lt_trans hk hQ.2.1
  rw [iZ_clamp hk2]
  exact kk H locs ls hP hS h
end VB
/-! contracts over the memory -/
def kS (D : va_G) (cy : Nat → ClassId) (ad : Nat → Nat) (μ : Mem) (av : List Value) (sz : Nat) : Array Value → State → Prop := va_Pc av (fun U => U.heap.size = sz ∧ HP D cy ad μ U.heap ∧ va_K D vwCl (tyG cy) U ∧ adI ad ∧ exP (aA ad sz) U)
def kBi (D : va_G) (cy : Nat → ClassId) (ad : Nat → Nat) (post : Int → Mem → Prop) (sz : Nat) : Array Value → State → Outcome → State → Prop := va_Qi (fun (r : Int32) (u : Int × Mem) => r = iZ u.1 ∧ post u.1 u.2) (fun (u : Int × Mem) (t : State) => HP D cy ad u.2 t.heap) (aA ad sz)
def kBv (D : va_G) (cy : Nat → ClassId) (ad : Nat → Nat) (post : Mem → Prop) (sz : Nat) : Array Value → State → Outcome → State → Prop := va_Qv (fun (u : Mem) => post u) (fun (u : Mem) (t : State) => HP D cy ad u t.heap) (aA ad sz)
theorem kS_fb {D : va_G} {cy : Nat → ClassId} {ad : Nat → Nat} {μ : Mem} {av : List Value} {sz : Nat} : FrameBlind (kS D cy ad μ av sz) := fun a U g mk q => by
  obtain ⟨q0, q1, qP, qK, qI, qE⟩ := q
  exact ⟨q0, q1, qP, kx_Kc qK, qI, exP.same (u := U) (U := U.calling g mk a) rfl rfl qE⟩
/-- a contract: returning an int; returning nothing -/
def cI (l : Launch) (y : MethodName) (ws : List Cond) (rm : Room) (D : va_G) (cy : Nat → ClassId) (ad : Nat → Nat) (μ : Mem) (av : List Value) (post : Int → Mem → Prop) : Prop := ∀ sz : Nat, Met l y ws rm (kS D cy ad μ av sz) (kBi D cy ad post sz) 0 0 (aA ad sz)
def cV (l : Launch) (y : MethodName) (ws : List Cond) (rm : Room) (D : va_G) (cy : Nat → ClassId) (ad : Nat → Nat) (μ : Mem) (av : List Value) (post : Mem → Prop) : Prop := ∀ sz : Nat, Met l y ws rm (kS D cy ad μ av sz) (kBv D cy ad post sz) 0 0 (aA ad sz)
section VM
variable {l : Launch} {y : MethodName} {ws ws' : List Cond} {rm : Room} {D : va_G} {cy : Nat → ClassId} {ad : Nat → Nat} {μ : Mem} {cc : ByteArray} {nL : Nat} {own : String}
theorem m_int {av : (Nat → Nat) → List Value} {post : Int → Mem → Prop} {ty : FieldType} (hl : l.stackTraces = false) (hy : plainName y.cls = true) (hws : ws = Cond.code y cc nL (some ty) :: ws') (hown : y.cls = own) (hlen : (lg_sl (av ad)).length ≤ nL) (hn : ∀ z μ', post z μ' → narrow ty (.int (iZ z)) = .int (iZ z))
    (body : ∀ X : VC, vK X cc nL own ws rm → (∀ z μ', post z μ' → ∀ n pc lv, decode cc pc = .ok (.ireturn, 1) → vW X n pc 0 0 lv [.int (iZ z)] μ') → vW X nL 0 0 0 (lv_args 0 (av (vAd X))) [] μ) : cI l y ws rm D cy ad μ (av ad) post := by
  intro sz
  refine Met.ofW (cc := cc) (maxL := nL) (ret := some ty) hy hws ?_
  intro p e s m args below meth c s₁ B hml hv
  obtain ⟨rfl, hsz, hP, hK, hI, hE⟩ := hv
  have hl2 := lv_entry (av ad) (n := nL) hlen
  rw [lg_entry_eq]
  generalize (lg_sl (av ad) ++ List.replicate (nL - (lg_sl (av ad)).length) Slot.unset).toArray = ls at hl2 ⊢
  subst hsz
  have K : vK ((p, l, e, rm), (s, m, (av ad).toArray, below), (meth, c, MQ below (kBi D cy ad post s.heap.size) (av ad).toArray s 0 0 (aA ad s.heap.size)), (aA ad s.heap.size, D, cy, ad)) cc nL own ws rm :=
    ⟨⟨B.exec, B.bytes, hml, by rw [← hown]; exact findClass_of_methodNamed B.named, atoms_spec (ws := ws) B.pre, rfl⟩, hK, hI, fun c hc => aA.in hc, fun q hq => Or.inr hq, hE, hl⟩
  refine body _ K ?_ s.heap [] ls hP va_S.rf hl2
  intro z μ' hp n pc lv hd H locs ls hP hS h
  exact W.zret (v := iZ z) B.exec B.bytes B.returns (hn z μ' hp) (fun t ht hW => ⟨⟨iZ z, (z, μ'), rfl, ⟨rfl, hp⟩, by rw [ht]; exact hP⟩, hS.F ht⟩) hS.2.2 hd B.notSynchronized
theorem m_void {av : (Nat → Nat) → List Value} {post : Mem → Prop} (hl : l.stackTraces = false) (hy : plainName y.cls = true) (hws : ws = Cond.code y cc nL none :: ws') (hown : y.cls = own) (hlen : (lg_sl (av ad)).length ≤ nL)
    (body : ∀ X : VC, vK X cc nL own ws rm → (∀ μ', post μ' → ∀ n pc lv, decode cc pc = .ok (.return_, 1) → vW X n pc 0 0 lv [] μ') → vW X nL 0 0 0 (lv_args 0 (av (vAd X))) [] μ) : cV l y ws rm D cy ad μ (av ad) post := by
  intro sz
  refine Met.ofW (cc := cc) (maxL := nL) (ret := none) hy hws ?_
  intro p e s m args below meth c s₁ B hml hv
  obtain ⟨rfl, hsz, hP, hK, hI, hE⟩ := hv
  have hl2 := lv_entry (av ad) (n := nL) hlen
  rw [lg_entry_eq]
  generalize (lg_sl (av ad) ++ List.replicate (nL - (lg_sl (av ad)).length) Slot.unset).toArray = ls at hl2 ⊢
  subst hsz
  have K : vK ((p, l, e, rm), (s, m, (av ad).toArray, below), (meth, c, MQ below (kBv D cy ad post s.heap.size) (av ad).toArray s 0 0 (aA ad s.heap.size)), (aA ad s.heap.size, D, cy, ad)) cc nL own ws rm :=
    ⟨⟨B.exec, B.bytes, hml, by rw [← hown]; exact findClass_of_methodNamed B.named, atoms_spec (ws := ws) B.pre, rfl⟩, hK, hI, fun c hc => aA.in hc, fun q hq => Or.inr hq, hE, hl⟩
  refine body _ K ?_ s.heap [] ls hP va_S.rf hl2
  intro μ' hp n pc lv hd H locs ls hP hS h
  exact W.vret B.exec B.bytes B.returns (fun t ht hW => ⟨⟨μ', rfl, hp, by rw [ht]; exact hP⟩, hS.F ht⟩) hS.2.2 hd B.notSynchronized
end VM
section VCa
variable {X : VC} {cc : ByteArray} {nL : Nat} {own : String} {Ts : List Cond} {rm : Room} {pc cells slots : Nat} {lv lv' : List (Nat × Value)} {st : List Value} {μ μ' : Mem}
variable {y : MethodName} {ws ws' : List Cond} {rm2 : Room} {bytes : ByteArray} {maxL n index : Nat} {ret : Option FieldType} {As rest : List Value}
theorem aA.sub {H : Heap} {locs : List Loc} (K : vK X cc nL own Ts rm) (hS : va_S X.2.2.2.1 X.2.1.1.heap H locs) : ∀ q, aA (vAd X) H.size q → X.2.2.2.1 q := by
  intro q h
  rcases h with ⟨c, hc, rfl⟩ | h
  · exact K.2.2.2.1 c hc
  · exact K.2.2.2.2.1 q (Nat.le_trans hS.1 h)
theorem kS_go {H : Heap} {locs : List Loc} {av : List Value} (K : vK X cc nL own Ts rm) (hP : HP X.2.2.2.2.1 X.2.2.2.2.2.1 X.2.2.2.2.2.2 μ H) (hS : va_S X.2.2.2.1 X.2.1.1.heap H locs) : ∀ U : State, U.heap = H → X.2.1.1.WarmedH U.vm → kS X.2.2.2.2.1 X.2.2.2.2.2.1 X.2.2.2.2.2.2 μ av H.size av.toArray U :=
  fun U hU hW => ⟨rfl, by rw [hU], by rw [hU]; exact hP, va_K.moved hW.alike K.2.1, K.2.2.1, exP.call hW hU hS (aA.sub K hS) K.2.2.2.2.2.1⟩
/-- the receiver's class -/
theorem v_recv {c ci : Nat} {q : vw_C} {fs : (Nat → Nat) → (Nat → Int) → List Value} {H : Heap} (K : vK X cc nL own Ts rm) (hO : isO c ci fs) (hc : vwCl[ci]? = some q) (hP : HP X.2.2.2.2.1 X.2.2.2.2.2.1 X.2.2.2.2.2.2 μ H) : ∃ cell : Cell, H[vAd X c]? = some cell ∧ cell.vm.isStatics = false ∧ X.2.1.1.vm.findClass q.1 = some cell.cls :=
  va_recv K.2.1 hP hc (q0 := c) (by rw [wv_get hO.1, hO.2])
theorem v_callVi {C : String} {T : u_T} {N c ci : Nat} {fs : (Nat → Nat) → (Nat → Int) → List Value} {post : Int → Mem → Prop} (K : vK X cc nL own Ts rm) (hO : isO c ci fs) (hc : vwCl[ci]? = some (C, T, N)) (n : Nat) (hM : cI X.1.2.1 y ws rm2 X.2.2.2.2.1 X.2.2.2.2.2.1 X.2.2.2.2.2.2 μ (.ref (vAd X c) :: As) post) (hG : GoodIn Ts (wsV own index C y ws)) (hw : ws = Cond.code y bytes maxL ret :: ws') (hrc : rm2.cells = 0) (hrs : rm2.slots = 0)
    (hdd : y.cls = C ∧ y.cls ≠ "java/lang/invoke/MethodHandle" ∧ y.cls ≠ "java/lang/invoke/VarHandle" ∧ (parseMethodDescriptor y.desc).map (fun d => d.parameters.length) = some n) (hR : rm2.frames + 1 ≤ rm.frames ∧ 8 + (maxL + 11) + rm2.locals ≤ rm.locals) (hn : As.length = n) (hst : st = As.reverse ++ .ref (vAd X c) :: rest) (hcat : (rest.map fun v => v.category).sum ≤ 8) (hd : decode cc pc = .ok (.invokevirtual index, 3)) (hcs : cells ≤ rm.cells ∧ slots ≤ rm.slots)
    (kk : ∀ z μ', post z μ' → vW X nL (pc + 3) cells slots lv (.int (iZ z) :: rest) μ') : vW X nL pc cells slots lv st μ := by
  intro H locs ls hP hS h
  have hR' : rm2.frames + 1 ≤ X.1.2.2.2.frames ∧ 8 + (maxL + 11) + rm2.locals ≤ X.1.2.2.2.locals := by rw [K.1.2.2.2.2.2]; exact hR
  have hcs' : cells + 0 ≤ X.1.2.2.2.cells ∧ slots + 0 ≤ X.1.2.2.2.slots := by rw [K.1.2.2.2.2.2]; exact hcs
  refine va_calli (va_runV (As := As) (rest := rest) ⟨K.1.1, K.1.2.1, K.1.2.2.1, K.1.2.2.2.1, K.1.2.2.2.2.1⟩ (hM H.size) (cwV n K.1.2.2.2.2.1 hG hw hrc hrs hdd hR') ⟨kS_fb, v_recv K hO hc hP, kS_go K hP hS⟩ rfl hn h.1 hst (lv_room hcat) hd hcs') hS (fun q _ q2 => aA.sub K hS q q2) (aA.sub K hS) (fun r u t H1 locs1 ht hvm hw hB hz1 hk1 hS1 => ?_)
  obtain ⟨z, μ'⟩ := u
  obtain ⟨rfl, hp⟩ := hw
  rw [ht] at hB
  exact kk z μ' hp H1 locs1 ls hB hS1 h
theorem v_callVv {C : String} {T : u_T} {N c ci : Nat} {fs : (Nat → Nat) → (Nat → Int) → List Value} {post : Mem → Prop} (K : vK X cc nL own Ts rm) (hO : isO c ci fs) (hc : vwCl[ci]? = some (C, T, N)) (n : Nat) (hM : cV X.1.2.1 y ws rm2 X.2.2.2.2.1 X.2.2.2.2.2.1 X.2.2.2.2.2.2 μ (.ref (vAd X c) :: As) post) (hG : GoodIn Ts (wsV own index C y ws)) (hw : ws = Cond.code y bytes maxL ret :: ws') (hrc : rm2.cells = 0) (hrs : rm2.slots = 0)
    (hdd : y.cls = C ∧ y.cls ≠ "java/lang/invoke/MethodHandle" ∧ y.cls ≠ "java/lang/invoke/VarHandle" ∧ (parseMethodDescriptor y.desc).map (fun d => d.parameters.length) = some n) (hR : rm2.frames + 1 ≤ rm.frames ∧ 8 + (maxL + 11) + rm2.locals ≤ rm.locals) (hn : As.length = n) (hst : st = As.reverse ++ .ref (vAd X c) :: rest) (hcat : (rest.map fun v => v.category).sum ≤ 8) (hd : decode cc pc = .ok (.invokevirtual index, 3)) (hcs : cells ≤ rm.cells ∧ slots ≤ rm.slots)
    (kk : ∀ μ', post μ' → vW X nL (pc + 3) cells slots lv rest μ') : vW X nL pc cells slots lv st μ := by
  intro H locs ls hP hS h
  have hR' : rm2.frames + 1 ≤ X.1.2.2.2.frames ∧ 8 + (maxL + 11) + rm2.locals ≤ X.1.2.2.2.locals := by rw [K.1.2.2.2.2.2]; exact hR
  have hcs' : cells + 0 ≤ X.1.2.2.2.cells ∧ slots + 0 ≤ X.1.2.2.2.slots := by rw [K.1.2.2.2.2.2]; exact hcs
  refine va_callv (va_runV (As := As) (rest := rest) ⟨K.1.1, K.1.2.1, K.1.2.2.1, K.1.2.2.2.1, K.1.2.2.2.2.1⟩ (hM H.size) (cwV n K.1.2.2.2.2.1 hG hw hrc hrs hdd hR') ⟨kS_fb, v_recv K hO hc hP, kS_go K hP hS⟩ rfl hn h.1 hst (lv_room hcat) hd hcs') hS (fun q _ q2 => aA.sub K hS q q2) (aA.sub K hS) (fun u t H1 locs1 ht hvm hw hB hz1 hk1 hS1 => ?_)
  rw [ht] at hB
  exact kk u hw H1 locs1 ls hB hS1 h
theorem v_callSi {post : Int → Mem → Prop} (K : vK X cc nL own Ts rm) (n : Nat) (hM : cI X.1.2.1 y ws rm2 X.2.2.2.2.1 X.2.2.2.2.2.1 X.2.2.2.2.2.2 μ As post) (hG : GoodIn Ts (va_wsS own index y ws)) (hw : ws = Cond.code y bytes maxL ret :: ws') (hrc : rm2.cells = 0) (hrs : rm2.slots = 0)
    (hdd : y.cls ≠ "java/lang/invoke/MethodHandle" ∧ y.cls ≠ "java/lang/invoke/VarHandle" ∧ (parseMethodDescriptor y.desc).map (fun d => d.parameters.length) = some n) (hR : rm2.frames + 1 ≤ rm.frames ∧ 8 + (maxL + 11) + rm2.locals ≤ rm.locals) (hn : As.length = n) (hst : st = As.reverse ++ rest) (hcat : (rest.map fun v => v.category).sum ≤ 8) (hd : decode cc pc = .ok (.invokestatic index, 3)) (hcs : cells ≤ rm.cells ∧ slots ≤ rm.slots)
    (kk : ∀ z μ', post z μ' → vW X nL (pc + 3) cells slots lv (.int (iZ z) :: rest) μ') : vW X nL pc cells slots lv st μ := by
  intro H locs ls hP hS h
  have hR' : rm2.frames + 1 ≤ X.1.2.2.2.frames ∧ 8 + (maxL + 11) + rm2.locals ≤ X.1.2.2.2.locals := by rw [K.1.2.2.2.2.2]; exact hR
  have hcs' : cells + 0 ≤ X.1.2.2.2.cells ∧ slots + 0 ≤ X.1.2.2.2.slots := by rw [K.1.2.2.2.2.2]; exact hcs
  refine va_calli (va_runS (As := As) (rest := rest) ⟨K.1.1, K.1.2.1, K.1.2.2.1, K.1.2.2.2.1, K.1.2.2.2.2.1⟩ (hM H.size) (va_cwS n K.1.2.2.2.2.1 hG hw hrc hrs hdd hR') ⟨kS_fb, kS_go K hP hS⟩ rfl hn h.1 hst (lv_room hcat) hd hcs') hS (fun q _ q2 => aA.sub K hS q q2) (aA.sub K hS) (fun r u t H1 locs1 ht hvm hw hB hz1 hk1 hS1 => ?_)
  obtain ⟨z, μ'⟩ := u
  obtain ⟨rfl, hp⟩ := hw
  rw [ht] at hB
  exact kk z μ' hp H1 locs1 ls hB hS1 h
/-- a nest mate's private static method -/
theorem v_callNi {host : String} {post : Int → Mem → Prop} (K : vK X cc nL own Ts rm) (n : Nat) (hM : cI X.1.2.1 y ws rm2 X.2.2.2.2.1 X.2.2.2.2.2.1 X.2.2.2.2.2.2 μ As post) (hG : GoodIn Ts ws) (hw : ws = Cond.code y bytes maxL ret :: ws') (hrc : rm2.cells = 0) (hrs : rm2.slots = 0) (hne : (own, index, y, host) ∈ ex_ne) (hini : Cond.initialized y.cls ∈ Ts) (hsta : Cond.static y ∈ Ts)
    (hdd : y.cls ≠ "java/lang/invoke/MethodHandle" ∧ y.cls ≠ "java/lang/invoke/VarHandle" ∧ (parseMethodDescriptor y.desc).map (fun d => d.parameters.length) = some n) (hR : rm2.frames + 1 ≤ rm.frames ∧ 8 + (maxL + 11) + rm2.locals ≤ rm.locals) (hn : As.length = n) (hst : st = As.reverse ++ rest) (hcat : (rest.map fun v => v.category).sum ≤ 8) (hd : decode cc pc = .ok (.invokestatic index, 3)) (hcs : cells ≤ rm.cells ∧ slots ≤ rm.slots)
    (kk : ∀ z μ', post z μ' → vW X nL (pc + 3) cells slots lv (.int (iZ z) :: rest) μ') : vW X nL pc cells slots lv st μ := by
  intro H locs ls hP hS h
  have hR' : rm2.frames + 1 ≤ X.1.2.2.2.frames ∧ 8 + (maxL + 11) + rm2.locals ≤ X.1.2.2.2.locals := by rw [K.1.2.2.2.2.2]; exact hR
  have hcs' : cells + 0 ≤ X.1.2.2.2.cells ∧ slots + 0 ≤ X.1.2.2.2.slots := by rw [K.1.2.2.2.2.2]; exact hcs
  refine va_calli (va_runSN (As := As) (rest := rest) ⟨K.1.1, K.1.2.1, K.1.2.2.1, K.1.2.2.2.1, K.1.2.2.2.2.1⟩ (hM H.size) ⟨va_cnB n K.1.2.2.2.2.1 hG hw hrc hrs (exP.nest K.2.2.2.2.2.1 (own, index, y, host) hne) (K.1.2.2.2.2.1 _ hini) hdd hR', K.1.2.2.2.2.1 _ hsta, trivial⟩ ⟨kS_fb, kS_go K hP hS⟩ rfl hn h.1 hst (lv_room hcat) hd hcs') hS (fun q _ q2 => aA.sub K hS q q2) (aA.sub K hS) (fun r u t H1 locs1 ht hvm hw hB hz1 hk1 hS1 => ?_)
  obtain ⟨z, μ'⟩ := u
  obtain ⟨rfl, hp⟩ := hw
  rw [ht] at hB
  exact kk z μ' hp H1 locs1 ls hB hS1 h
end VCa
