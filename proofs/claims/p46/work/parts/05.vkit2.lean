/-! branches, fields, arrays, calls, ends of a walk over the memory -/
section VB
variable {X : VC} {cc : ByteArray} {nL : Nat} {own : String} {Ts : List Cond} {rm : Room} {pc cells slots : Nat} {lv lv' : List (Nat × Value)} {st : List Value} {μ μ' : Mem} {ex : va_W}
variable {a b off : Int}
theorem v_icmp_lt (tgt : Nat) (K : vK X cc nL own Ts rm) (hd : decode cc pc = .ok (.if_icmp .lt off, 3)) (ht : (pc : Int) + off = (tgt : Int)) (ha : -2147483648 ≤ a ∧ a ≤ 2147483647) (hb : -2147483648 ≤ b ∧ b ≤ 2147483647) (kt : a < b → vY X nL tgt cells slots lv st μ ex) (kf : b ≤ a → vY X nL (pc + 3) cells slots lv st μ ex) : vY X nL pc cells slots lv (.int (iZ b) :: .int (iZ a) :: st) μ ex :=
  fun H locs ls hP hS h => lv_icmp_lt K.1.1 K.1.2.1 hd ht (fun q => kt ((iZ_lt ha hb).mp q) H locs ls hP hS h) (fun q => kf (Int.not_lt.mp (fun z => q ((iZ_lt ha hb).mpr z))) H locs ls hP hS h)
theorem v_icmp_ge (tgt : Nat) (K : vK X cc nL own Ts rm) (hd : decode cc pc = .ok (.if_icmp .ge off, 3)) (ht : (pc : Int) + off = (tgt : Int)) (ha : -2147483648 ≤ a ∧ a ≤ 2147483647) (hb : -2147483648 ≤ b ∧ b ≤ 2147483647) (kt : b ≤ a → vY X nL tgt cells slots lv st μ ex) (kf : a < b → vY X nL (pc + 3) cells slots lv st μ ex) : vY X nL pc cells slots lv (.int (iZ b) :: .int (iZ a) :: st) μ ex :=
  fun H locs ls hP hS h => lv_icmp_ge K.1.1 K.1.2.1 hd ht (fun q => kt ((iZ_le hb ha).mp q) H locs ls hP hS h) (fun q => kf (Int.not_le.mp (fun z => q ((iZ_le hb ha).mpr z))) H locs ls hP hS h)
theorem v_icmp_gt (tgt : Nat) (K : vK X cc nL own Ts rm) (hd : decode cc pc = .ok (.if_icmp .gt off, 3)) (ht : (pc : Int) + off = (tgt : Int)) (ha : -2147483648 ≤ a ∧ a ≤ 2147483647) (hb : -2147483648 ≤ b ∧ b ≤ 2147483647) (kt : b < a → vY X nL tgt cells slots lv st μ ex) (kf : a ≤ b → vY X nL (pc + 3) cells slots lv st μ ex) : vY X nL pc cells slots lv (.int (iZ b) :: .int (iZ a) :: st) μ ex :=
  fun H locs ls hP hS h => lv_icmp_gt K.1.1 K.1.2.1 hd ht (fun q => kt ((iZ_lt hb ha).mp q) H locs ls hP hS h) (fun q => kf (Int.not_lt.mp (fun z => q ((iZ_lt hb ha).mpr z))) H locs ls hP hS h)
theorem v_icmp_le (tgt : Nat) (K : vK X cc nL own Ts rm) (hd : decode cc pc = .ok (.if_icmp .le off, 3)) (ht : (pc : Int) + off = (tgt : Int)) (ha : -2147483648 ≤ a ∧ a ≤ 2147483647) (hb : -2147483648 ≤ b ∧ b ≤ 2147483647) (kt : a ≤ b → vY X nL tgt cells slots lv st μ ex) (kf : b < a → vY X nL (pc + 3) cells slots lv st μ ex) : vY X nL pc cells slots lv (.int (iZ b) :: .int (iZ a) :: st) μ ex :=
  fun H locs ls hP hS h => lv_icmp_le K.1.1 K.1.2.1 hd ht (fun q => kt ((iZ_le ha hb).mp q) H locs ls hP hS h) (fun q => kf (Int.not_le.mp (fun z => q ((iZ_le ha hb).mpr z))) H locs ls hP hS h)
theorem v_icmp_eq (tgt : Nat) (K : vK X cc nL own Ts rm) (hd : decode cc pc = .ok (.if_icmp .eq off, 3)) (ht : (pc : Int) + off = (tgt : Int)) (ha : -2147483648 ≤ a ∧ a ≤ 2147483647) (hb : -2147483648 ≤ b ∧ b ≤ 2147483647) (kt : a = b → vY X nL tgt cells slots lv st μ ex) (kf : a ≠ b → vY X nL (pc + 3) cells slots lv st μ ex) : vY X nL pc cells slots lv (.int (iZ b) :: .int (iZ a) :: st) μ ex :=
  fun H locs ls hP hS h => lv_icmp_eq K.1.1 K.1.2.1 hd ht (fun q => kt ((iZ_inj ha hb).mp q) H locs ls hP hS h) (fun q => kf (fun z => q ((iZ_inj ha hb).mpr z)) H locs ls hP hS h)
theorem v_icmp_ne (tgt : Nat) (K : vK X cc nL own Ts rm) (hd : decode cc pc = .ok (.if_icmp .ne off, 3)) (ht : (pc : Int) + off = (tgt : Int)) (ha : -2147483648 ≤ a ∧ a ≤ 2147483647) (hb : -2147483648 ≤ b ∧ b ≤ 2147483647) (kt : a ≠ b → vY X nL tgt cells slots lv st μ ex) (kf : a = b → vY X nL (pc + 3) cells slots lv st μ ex) : vY X nL pc cells slots lv (.int (iZ b) :: .int (iZ a) :: st) μ ex :=
  fun H locs ls hP hS h => lv_icmp_ne K.1.1 K.1.2.1 hd ht (fun q => kt (fun z => q ((iZ_inj ha hb).mpr z)) H locs ls hP hS h) (fun q => kf ((iZ_inj ha hb).mp q) H locs ls hP hS h)
theorem v_if_lt (tgt : Nat) (K : vK X cc nL own Ts rm) (hd : decode cc pc = .ok (.ifCond .lt off, 3)) (ht : (pc : Int) + off = (tgt : Int)) (ha : -2147483648 ≤ a ∧ a ≤ 2147483647) (kt : a < 0 → vY X nL tgt cells slots lv st μ ex) (kf : 0 ≤ a → vY X nL (pc + 3) cells slots lv st μ ex) : vY X nL pc cells slots lv (.int (iZ a) :: st) μ ex :=
  fun H locs ls hP hS h => lv_if_lt K.1.1 K.1.2.1 hd ht (fun q => kt ((iZ_lt (b := 0) ha (by omega)).mp q) H locs ls hP hS h) (fun q => kf (Int.not_lt.mp (fun z => q ((iZ_lt (b := 0) ha (by omega)).mpr z))) H locs ls hP hS h)
theorem v_if_ge (tgt : Nat) (K : vK X cc nL own Ts rm) (hd : decode cc pc = .ok (.ifCond .ge off, 3)) (ht : (pc : Int) + off = (tgt : Int)) (ha : -2147483648 ≤ a ∧ a ≤ 2147483647) (kt : 0 ≤ a → vY X nL tgt cells slots lv st μ ex) (kf : a < 0 → vY X nL (pc + 3) cells slots lv st μ ex) : vY X nL pc cells slots lv (.int (iZ a) :: st) μ ex :=
  fun H locs ls hP hS h => lv_if_ge K.1.1 K.1.2.1 hd ht (fun q => kt ((iZ_le (a := 0) (by omega) ha).mp q) H locs ls hP hS h) (fun q => kf (Int.not_le.mp (fun z => q ((iZ_le (a := 0) (by omega) ha).mpr z))) H locs ls hP hS h)
theorem v_if_gt (tgt : Nat) (K : vK X cc nL own Ts rm) (hd : decode cc pc = .ok (.ifCond .gt off, 3)) (ht : (pc : Int) + off = (tgt : Int)) (ha : -2147483648 ≤ a ∧ a ≤ 2147483647) (kt : 0 < a → vY X nL tgt cells slots lv st μ ex) (kf : a ≤ 0 → vY X nL (pc + 3) cells slots lv st μ ex) : vY X nL pc cells slots lv (.int (iZ a) :: st) μ ex :=
  fun H locs ls hP hS h => lv_if_gt K.1.1 K.1.2.1 hd ht (fun q => kt ((iZ_lt (a := 0) (by omega) ha).mp q) H locs ls hP hS h) (fun q => kf (Int.not_lt.mp (fun z => q ((iZ_lt (a := 0) (by omega) ha).mpr z))) H locs ls hP hS h)
theorem v_if_le (tgt : Nat) (K : vK X cc nL own Ts rm) (hd : decode cc pc = .ok (.ifCond .le off, 3)) (ht : (pc : Int) + off = (tgt : Int)) (ha : -2147483648 ≤ a ∧ a ≤ 2147483647) (kt : a ≤ 0 → vY X nL tgt cells slots lv st μ ex) (kf : 0 < a → vY X nL (pc + 3) cells slots lv st μ ex) : vY X nL pc cells slots lv (.int (iZ a) :: st) μ ex :=
  fun H locs ls hP hS h => lv_if_le K.1.1 K.1.2.1 hd ht (fun q => kt ((iZ_le (b := 0) ha (by omega)).mp q) H locs ls hP hS h) (fun q => kf (Int.not_le.mp (fun z => q ((iZ_le (b := 0) ha (by omega)).mpr z))) H locs ls hP hS h)
theorem v_if_eq (tgt : Nat) (K : vK X cc nL own Ts rm) (hd : decode cc pc = .ok (.ifCond .eq off, 3)) (ht : (pc : Int) + off = (tgt : Int)) (ha : -2147483648 ≤ a ∧ a ≤ 2147483647) (kt : a = 0 → vY X nL tgt cells slots lv st μ ex) (kf : a ≠ 0 → vY X nL (pc + 3) cells slots lv st μ ex) : vY X nL pc cells slots lv (.int (iZ a) :: st) μ ex :=
  fun H locs ls hP hS h => lv_if_eq K.1.1 K.1.2.1 hd ht (fun q => kt ((iZ_inj (b := 0) ha (by omega)).mp q) H locs ls hP hS h) (fun q => kf (fun z => q ((iZ_inj (b := 0) ha (by omega)).mpr z)) H locs ls hP hS h)
theorem v_if_ne (tgt : Nat) (K : vK X cc nL own Ts rm) (hd : decode cc pc = .ok (.ifCond .ne off, 3)) (ht : (pc : Int) + off = (tgt : Int)) (ha : -2147483648 ≤ a ∧ a ≤ 2147483647) (kt : a ≠ 0 → vY X nL tgt cells slots lv st μ ex) (kf : a = 0 → vY X nL (pc + 3) cells slots lv st μ ex) : vY X nL pc cells slots lv (.int (iZ a) :: st) μ ex :=
  fun H locs ls hP hS h => lv_if_ne K.1.1 K.1.2.1 hd ht (fun q => kt (fun z => q ((iZ_inj (b := 0) ha (by omega)).mpr z)) H locs ls hP hS h) (fun q => kf ((iZ_inj (b := 0) ha (by omega)).mp q) H locs ls hP hS h)
-- shifts, division
theorem v_ishl {x y : Int32} {z : Int} (hz : x <<< (y &&& 31) = iZ z) (K : vK X cc nL own Ts rm) (hd : decode cc pc = .ok (.ishl, 1)) (kk : vY X nL (pc + 1) cells slots lv (.int (iZ z) :: st) μ ex) : vY X nL pc cells slots lv (.int y :: .int x :: st) μ ex :=
  fun H locs ls hP hS h => lv_ishl K.1.1 K.1.2.1 hd (by rw [hz]; exact kk H locs ls hP hS h)
theorem v_ishr {x y : Int32} {z : Int} (hz : x >>> (y &&& 31) = iZ z) (K : vK X cc nL own Ts rm) (hd : decode cc pc = .ok (.ishr, 1)) (kk : vY X nL (pc + 1) cells slots lv (.int (iZ z) :: st) μ ex) : vY X nL pc cells slots lv (.int y :: .int x :: st) μ ex :=
  fun H locs ls hP hS h => lv_ishr K.1.1 K.1.2.1 hd (by rw [hz]; exact kk H locs ls hP hS h)
theorem v_iushr {x y : Int32} {z : Int} (hz : (x.toUInt32 >>> (y.toUInt32 &&& Int32.toUInt32 31)).toInt32 = iZ z) (K : vK X cc nL own Ts rm) (hd : decode cc pc = .ok (.iushr, 1)) (kk : vY X nL (pc + 1) cells slots lv (.int (iZ z) :: st) μ ex) : vY X nL pc cells slots lv (.int y :: .int x :: st) μ ex :=
  fun H locs ls hP hS h => lv_iushr K.1.1 K.1.2.1 hd hz (kk H locs ls hP hS h)
theorem iZ_ne0 {z : Int} (h : -2147483648 ≤ z ∧ z ≤ 2147483647) (h0 : z ≠ 0) : ¬ iZ z = 0 := fun q => h0 ((iZ_inj (b := 0) h (by omega)).mp q)
theorem iZ_div {x y : Int} (hx : 0 ≤ x ∧ x ≤ 2147483647) (hy : 0 < y ∧ y ≤ 2147483647) : iZ x / iZ y = iZ (x / y) := by
  apply Int32.toInt_inj.mp
  have hq : 0 ≤ x / y := Int.ediv_nonneg hx.1 (by omega)
  have hq2 : x / y ≤ x := Int.ediv_le_self _ hx.1
  rw [iZ_toInt (by omega), Int32.toInt_div_of_ne_left _ _ (fun q => ?_), iZ_toInt (by omega), iZ_toInt (by omega), Int.tdiv_eq_ediv_of_nonneg hx.1]
  have : (iZ x).toInt = Int32.minValue.toInt := congrArg _ q
  rw [iZ_toInt (by omega)] at this
  have e : Int32.minValue.toInt = -2147483648 := rfl
  omega
theorem iZ_rem {x y : Int} (hx : 0 ≤ x ∧ x ≤ 2147483647) (hy : 0 < y ∧ y ≤ 2147483647) : iZ x - iZ x / iZ y * iZ y = iZ (x % y) := by
  rw [iZ_div hx hy]
  unfold iZ
  rw [← Int32.ofInt_mul, ← Int32.ofInt_sub, Int.emod_def, Int.mul_comm]
theorem v_idiv {x y : Int} (hx : 0 ≤ x ∧ x ≤ 2147483647) (hy : 0 < y ∧ y ≤ 2147483647) (K : vK X cc nL own Ts rm) (hd : decode cc pc = .ok (.idiv, 1)) (kk : vY X nL (pc + 1) cells slots lv (.int (iZ (x / y)) :: st) μ ex) : vY X nL pc cells slots lv (.int (iZ y) :: .int (iZ x) :: st) μ ex :=
  fun H locs ls hP hS h => lv_idiv K.1.1 K.1.2.1 hd (iZ_ne0 (by omega) (by omega)) (by rw [iZ_div hx hy]; exact kk H locs ls hP hS h)
theorem v_irem {x y : Int} (hx : 0 ≤ x ∧ x ≤ 2147483647) (hy : 0 < y ∧ y ≤ 2147483647) (K : vK X cc nL own Ts rm) (hd : decode cc pc = .ok (.irem, 1)) (kk : vY X nL (pc + 1) cells slots lv (.int (iZ (x % y)) :: st) μ ex) : vY X nL pc cells slots lv (.int (iZ y) :: .int (iZ x) :: st) μ ex :=
  fun H locs ls hP hS h => lv_irem K.1.1 K.1.2.1 hd (iZ_ne0 (by omega) (by omega)) (by rw [iZ_rem hx hy]; exact kk H locs ls hP hS h)
-- fields
theorem upM_row {μ : Mem} {c k : Nat} {x : Int} : upM μ c k x c = fun j => if j = k then x else μ c j := funext fun j => by simp [upM]
theorem upM_off {μ : Mem} {c k c' : Nat} {x : Int} (h : c' ≠ c) : upM μ c k x c' = μ c' := funext fun j => by simp [upM, h]
theorem v_get {c ci index k N : Nat} {C ref : String} {T : u_T} {fs : (Nat → Nat) → (Nat → Int) → List Value} {v : Value} (K : vK X cc nL own Ts rm) (hO : isO c ci fs) (hc : vwCl[ci]? = some (C, T, N)) (hin : ∀ w ∈ u_ws C T N, w ∈ Ts) (hk : k < N) (hlink : Cond.fieldLink own index ref (T k).2.1 (T k).2.2.1 ∈ Ts) (hsame : (T k).1 = ref) (hd : decode cc pc = .ok (.getfield index, 3)) (hv : (fs (vAd X) (μ c))[k]? = some v)
    (kk : vY X nL (pc + 3) cells slots lv (v :: st) μ ex) : vY X nL pc cells slots lv (.ref (vAd X c) :: st) μ ex :=
  fun H locs ls hP hS h => va_get K.1.1 K.1.2.1 K.1.2.2.2.2.1 hin K.1.2.2.2.1 K.2.1 hP.1 c (by rw [wx_get hO.1, hO.2]) hc k hk (K.1.2.2.2.2.1 _ hlink) (fun _ q => by rw [← hsame]; exact q) hv hd (kk H locs ls hP hS h)
theorem v_put {c ci index k N : Nat} {C ref : String} {T : u_T} {tyT : Nat → FieldType} {ty : FieldType} {fs : (Nat → Nat) → (Nat → Int) → List Value} {z : Int} (K : vK X cc nL own Ts rm) (hO : isO c ci fs) (hc : vwCl[ci]? = some (C, T, N)) (hin : ∀ w ∈ u_ws C T N, w ∈ Ts) (hty : ∀ k, k < N → parseFieldDescriptor (T k).2.2.1 = some (tyT k)) (hnm : ∀ a, a < N → ∀ b, b < N → a ≠ b → (T a).2.1 ≠ (T b).2.1) (hk : k < N) (hlink : Cond.fieldLink own index ref (T k).2.1 (T k).2.2.1 ∈ Ts) (hsame : (T k).1 = ref) (hfin : (T k).2.2.2 = false) (hdt : parseFieldDescriptor (T k).2.2.1 = some ty) (hd : decode cc pc = .ok (.putfield index, 3))
    (hset : ∀ (ad : Nat → Nat) (f : Nat → Int) (x : Int), (fs ad f).set k (.int (iZ x)) = fs ad (fun j => if j = k then x else f j)) (hlen : ∀ (ad : Nat → Nat) (f : Nat → Int), k < (fs ad f).length) (hn : narrow ty (.int (iZ z)) = .int (iZ z)) (hf : fits ty (.int (iZ z)) = true)
    (kk : vY X nL (pc + 3) cells slots lv st (upM μ c k z) ex) : vY X nL pc cells slots lv (.int (iZ z) :: .ref (vAd X c) :: st) μ ex := by
  intro H locs ls hP hS h
  have hD : va_D X.2.2.2.1 (wv X.2.2.2.2.2.1 X.2.2.2.2.2.2 μ ++ ex) := wx_D K.2.2.1 K.2.2.2.1 hP.2
  have hE := hP.2
  refine va_put (v := .int (iZ z)) (ty := ty) K.1.1 K.1.2.1 K.1.2.2.2.2.1 hin tyT hty hnm K.1.2.2.2.1 K.2.1 hP.1 hD hS c (by rw [wx_get hO.1, hO.2]) hc k hk (K.1.2.2.2.2.1 _ hlink) (fun _ q => by rw [← hsame]; exact q) hfin hdt hn hf (hlen _ _) hd (fun H locs hP hD hS => kk H locs ls ?_ hS h)
  rw [wx_set (μ' := upM μ c k z) hO.1 (by rw [hO.2, hset, upM_row]) (fun k hk => upM_off hk)] at hP
  exact ⟨hP, hE⟩
-- arrays
theorem v_iald {c n : Nat} {t : Int} (k : Nat) (K : vK X cc nL own Ts rm) (hI : isI c n) (ht : t = (k : Int)) (hk : k < n) (hd : decode cc pc = .ok (.iaload, 1)) (kk : vY X nL (pc + 1) cells slots lv (.int (iZ (μ c k)) :: st) μ ex) : vY X nL pc cells slots lv (.int (iZ t) :: .ref (vAd X c) :: st) μ ex := by
  intro H locs ls hP hS h
  subst ht
  refine va_iald K.1.1 K.1.2.1 K.2.1 hP.1 c 0 (by rw [wx_get hI.1, hI.2.2]) rfl (iZ_in rfl hk hI.2.1) hd ?_
  have hk2 : k < 2147483648 := Nat.lt_trans hk hI.2.1
  rw [iZ_clamp hk2]
  exact kk H locs ls hP hS h
theorem v_iast {c n : Nat} {t z : Int} (k : Nat) (K : vK X cc nL own Ts rm) (hI : isI c n) (ht : t = (k : Int)) (hk : k < n) (hd : decode cc pc = .ok (.iastore, 1)) (kk : vY X nL (pc + 1) cells slots lv st (upM μ c k z) ex) : vY X nL pc cells slots lv (.int (iZ z) :: .int (iZ t) :: .ref (vAd X c) :: st) μ ex := by
  intro H locs ls hP hS h
  subst ht
  have hD : va_D X.2.2.2.1 (wv X.2.2.2.2.2.1 X.2.2.2.2.2.2 μ ++ ex) := wx_D K.2.2.1 K.2.2.2.1 hP.2
  have hE := hP.2
  refine va_iast K.1.1 K.1.2.1 K.2.1 hP.1 hD hS c 0 (by rw [wx_get hI.1, hI.2.2]) rfl (iZ_in rfl hk hI.2.1) hd (fun H locs hP hD hS => kk H locs ls ?_ hS h)
  have hk2 : k < 2147483648 := Nat.lt_trans hk hI.2.1
  rw [iZ_clamp hk2, wx_set (μ' := upM μ c k z) hI.1 (by
    rw [hI.2.2, upM_row]
    congr 4
    funext j
    by_cases hj : j = k <;> simp [upd, hj]) (fun k hk => upM_off hk)] at hP
  exact ⟨hP, hE⟩
theorem v_aald {c n o t9 : Nat} {t : Int} {C : String} (k : Nat) (K : vK X cc nL own Ts rm) (hQ : isQ c n o t9) (hty : (tyG X.2.2.2.2.2.1)[t9]? = some (X.2.2.2.2.2.1 t9, .object C)) (ht : t = (k : Int)) (hk : k < n) (hd : decode cc pc = .ok (.aaload, 1)) (kk : vY X nL (pc + 1) cells slots lv (.ref (vAd X (o + k)) :: st) μ ex) : vY X nL pc cells slots lv (.int (iZ t) :: .ref (vAd X c) :: st) μ ex := by
  intro H locs ls hP hS h
  subst ht
  refine va_aldq K.1.1 K.1.2.1 K.2.1 hP.1 c t9 (by rw [wx_get hQ.1, hQ.2.2]) hty (iZ_in rfl hk hQ.2.1) hd ?_
  have hk2 : k < 2147483648 := Nat.lt_trans hk hQ.2.1
  rw [iZ_clamp hk2]
  exact kk H locs ls hP hS h
theorem v_sub (ks : List Nat) (h9 : lv_pick lv ks = lv') (k : vY X nL pc cells slots lv' st μ ex) : vY X nL pc cells slots lv st μ ex :=
  fun H locs ls hP hS h => k H locs ls hP hS (lv_sub h ks h9)
theorem v_top {x : Int32} {b : Int} (h9 : x = iZ b) (k : vY X nL pc cells slots lv (.int (iZ b) :: st) μ ex) : vY X nL pc cells slots lv (.int x :: st) μ ex := by
  rw [h9]; exact k
theorem v_wide {cells' slots' : Nat} (h1 : cells ≤ cells') (h2 : slots ≤ slots') (k : vY X nL pc cells' slots' lv st μ ex) : vY X nL pc cells slots lv st μ ex :=
  fun H locs ls hP hS h => W.widen h1 h2 (k H locs ls hP hS h)
theorem v_dup2 {va vb : Value} (ha : va.category = 1) (hb : vb.category = 1) (K : vK X cc nL own Ts rm) (hd : decode cc pc = .ok (.dup2, 1)) (kk : vY X nL (pc + 1) cells slots lv (va :: vb :: va :: vb :: st) μ ex) : vY X nL pc cells slots lv (va :: vb :: st) μ ex :=
  fun H locs ls hP hS h => lv_dup2_11 K.1.1 K.1.2.1 hd ha hb (kk H locs ls hP hS h)
theorem v_dup_x2 {va vb vc : Value} (ha : va.category = 1) (hb : vb.category = 1) (hc : vc.category = 1) (K : vK X cc nL own Ts rm) (hd : decode cc pc = .ok (.dup_x2, 1)) (kk : vY X nL (pc + 1) cells slots lv (va :: vb :: vc :: va :: st) μ ex) : vY X nL pc cells slots lv (va :: vb :: vc :: st) μ ex :=
  fun H locs ls hP hS h => lv_dup_x2 K.1.1 K.1.2.1 hd ha hb hc (kk H locs ls hP hS h)
end VB
theorem v_c0 {q : Nat × Value} {l l' : List (Nat × Value)} (h : l = l') : (q :: l) = (q :: l') := by rw [h]
theorem v_cI {i : Nat} {a b : Int} {l l' : List (Nat × Value)} (e : a = b) (h : l = l') : ((i, Value.int (iZ a)) :: l) = ((i, Value.int (iZ b)) :: l') := by rw [e, h]
theorem v_s0 {q : Value} {l l' : List Value} (h : l = l') : (q :: l) = (q :: l') := by rw [h]
theorem v_sI {a b : Int} {l l' : List Value} (e : a = b) (h : l = l') : (Value.int (iZ a) :: l) = (Value.int (iZ b) :: l') := by rw [e, h]
/-! contracts over the memory -/
def kS (D : va_G) (cy : Nat → ClassId) (ad : Nat → Nat) (μ : Mem) (av : List Value) (sz : Nat) : Array Value → State → Prop := va_Pc av (fun U => U.heap.size = sz ∧ HP D cy ad μ U.heap ∧ va_K D vwCl (tyG cy) U ∧ adI ad ∧ exP (aA ad sz) U)
def kBi (D : va_G) (cy : Nat → ClassId) (ad : Nat → Nat) (post : Int → Mem → Prop) (sz : Nat) : Array Value → State → Outcome → State → Prop := va_Qi (fun (r : Int32) (u : Int × Mem) => r = iZ u.1 ∧ post u.1 u.2) (fun (u : Int × Mem) (t : State) => HP D cy ad u.2 t.heap) (aA ad sz)
def kBv (D : va_G) (cy : Nat → ClassId) (ad : Nat → Nat) (post : Mem → Prop) (sz : Nat) : Array Value → State → Outcome → State → Prop := va_Qv (fun (u : Mem) => post u) (fun (u : Mem) (t : State) => HP D cy ad u t.heap) (aA ad sz)
theorem kS_fb {D : va_G} {cy : Nat → ClassId} {ad : Nat → Nat} {μ : Mem} {av : List Value} {sz : Nat} : FrameBlind (kS D cy ad μ av sz) := fun a U g mk q => by
  obtain ⟨q0, q1, qP, qK, qI, qE⟩ := q
  exact ⟨q0, q1, qP, kx_Kc qK, qI, exP.same (u := U) (U := U.calling g mk a) rfl rfl qE⟩
/-- a contract: returning an int; returning nothing; throwing always -/
def cI (l : Launch) (y : MethodName) (ws : List Cond) (rm : Room) (D : va_G) (cy : Nat → ClassId) (ad : Nat → Nat) (μ : Mem) (av : List Value) (post : Int → Mem → Prop) : Prop := ∀ sz : Nat, Met l y ws rm (kS D cy ad μ av sz) (kBi D cy ad post sz) rm.cells rm.slots (aA ad sz)
def cV (l : Launch) (y : MethodName) (ws : List Cond) (rm : Room) (D : va_G) (cy : Nat → ClassId) (ad : Nat → Nat) (μ : Mem) (av : List Value) (post : Mem → Prop) : Prop := ∀ sz : Nat, Met l y ws rm (kS D cy ad μ av sz) (kBv D cy ad post sz) rm.cells rm.slots (aA ad sz)
def kX (D : va_G) (cy : Nat → ClassId) (ad : Nat → Nat) (μ : Mem) (E0 : String) (sz : Nat) : String → State → State → Prop := vx_X (fun _ : Unit => True) (fun (E : String) (_ : Unit) (t : State) => E = E0 ∧ HP D cy ad μ t.heap) (aA ad sz)
def cTi (l : Launch) (y : MethodName) (ws : List Cond) (rm : Room) (D : va_G) (cy : Nat → ClassId) (ad : Nat → Nat) (μ : Mem) (av : List Value) (E0 : String) : Prop := ∀ sz : Nat, vx_Met l y ws rm (kS D cy ad μ av sz) (kBi D cy ad (fun _ _ => False) sz) (kX D cy ad μ E0 sz) 1 6 (aA ad sz)
def cTv (l : Launch) (y : MethodName) (ws : List Cond) (rm : Room) (D : va_G) (cy : Nat → ClassId) (ad : Nat → Nat) (μ : Mem) (av : List Value) (E0 : String) : Prop := ∀ sz : Nat, vx_Met l y ws rm (kS D cy ad μ av sz) (kBv D cy ad (fun _ => False) sz) (kX D cy ad μ E0 sz) 1 6 (aA ad sz)
/-- a walk that ends with a throw -/
def vT (X : VC) (μ : Mem) (E0 : String) : Prop := (∃ Qc, X.2.2.1.2.2 = vx_MQ X.2.1.2.2.2 Qc (kX X.2.2.2.2.1 X.2.2.2.2.2.1 X.2.2.2.2.2.2 μ E0 X.2.1.1.heap.size) X.2.1.2.2.1 X.2.1.1 1 6 (aA X.2.2.2.2.2.2 X.2.1.1.heap.size)) ∧ (∀ x ∈ X.2.2.1.2.1.exceptionTable.toList, False) ∧ X.2.2.1.1.locks = false ∧ X.2.2.2.1 = aA X.2.2.2.2.2.2 X.2.1.1.heap.size
section VM
variable {l : Launch} {y : MethodName} {ws ws' : List Cond} {rm : Room} {D : va_G} {cy : Nat → ClassId} {ad : Nat → Nat} {μ : Mem} {cc : ByteArray} {nL : Nat} {own : String}
theorem m_int {av : (Nat → Nat) → List Value} {post : Int → Mem → Prop} {ty : FieldType} (hl : l.stackTraces = false) (hy : plainName y.cls = true) (hws : ws = Cond.code y cc nL (some ty) :: ws') (hown : y.cls = own) (hlen : (lg_sl (av ad)).length ≤ nL) (hn : ∀ z μ', post z μ' → narrow ty (.int (iZ z)) = .int (iZ z))
    (body : ∀ X : VC, vK X cc nL own ws rm → (∀ (z : Int) (μ' : Mem), post z μ' → ∀ n pc k1 k2 lv, k1 ≤ rm.cells → k2 ≤ rm.slots → decode cc pc = .ok (.ireturn, 1) → vW X n pc k1 k2 lv [.int (iZ z)] μ') → vW X nL 0 0 0 (lv_args 0 (av (vAd X))) [] μ) : cI l y ws rm D cy ad μ (av ad) post := by
  intro sz
  refine Met.ofW (cc := cc) (maxL := nL) (ret := some ty) hy hws ?_
  intro p e s m args below meth c s₁ B hml hv
  obtain ⟨rfl, hsz, hP, hK, hI, hE⟩ := hv
  have hl2 := lv_entry (av ad) (n := nL) hlen
  rw [lg_entry_eq]
  generalize (lg_sl (av ad) ++ List.replicate (nL - (lg_sl (av ad)).length) Slot.unset).toArray = ls at hl2 ⊢
  subst hsz
  have K : vK ((p, l, e, rm), (s, m, (av ad).toArray, below), (meth, c, MQ below (kBi D cy ad post s.heap.size) (av ad).toArray s rm.cells rm.slots (aA ad s.heap.size)), (aA ad s.heap.size, D, cy, ad)) cc nL own ws rm :=
    ⟨⟨B.exec, B.bytes, hml, by rw [← hown]; exact findClass_of_methodNamed B.named, atoms_spec (ws := ws) B.pre, rfl⟩, hK, hI, fun c hc => aA.in hc, fun q hq => Or.inr hq, hE, hl⟩
  refine body _ K ?_ s.heap [] ls ⟨by rw [List.append_nil]; exact hP, exD_nil⟩ va_S.rf hl2
  intro z μ' hp n pc k1 k2 lv h1 h2 hd H locs ls hPx hS h
  have hP : HP D cy ad μ' H := by have := hPx.1; rw [List.append_nil] at this; exact this
  exact W.widen h1 h2 (W.zret (v := iZ z) B.exec B.bytes B.returns (hn z μ' hp) (fun t ht hW => ⟨⟨iZ z, (z, μ'), rfl, ⟨rfl, hp⟩, by dsimp only; rw [ht]; exact hP⟩, hS.F ht⟩) hS.2.2 hd B.notSynchronized)
theorem m_void {av : (Nat → Nat) → List Value} {post : Mem → Prop} (hl : l.stackTraces = false) (hy : plainName y.cls = true) (hws : ws = Cond.code y cc nL none :: ws') (hown : y.cls = own) (hlen : (lg_sl (av ad)).length ≤ nL)
    (body : ∀ X : VC, vK X cc nL own ws rm → (∀ (μ' : Mem), post μ' → ∀ n pc k1 k2 lv, k1 ≤ rm.cells → k2 ≤ rm.slots → decode cc pc = .ok (.return_, 1) → vW X n pc k1 k2 lv [] μ') → vW X nL 0 0 0 (lv_args 0 (av (vAd X))) [] μ) : cV l y ws rm D cy ad μ (av ad) post := by
  intro sz
  refine Met.ofW (cc := cc) (maxL := nL) (ret := none) hy hws ?_
  intro p e s m args below meth c s₁ B hml hv
  obtain ⟨rfl, hsz, hP, hK, hI, hE⟩ := hv
  have hl2 := lv_entry (av ad) (n := nL) hlen
  rw [lg_entry_eq]
  generalize (lg_sl (av ad) ++ List.replicate (nL - (lg_sl (av ad)).length) Slot.unset).toArray = ls at hl2 ⊢
  subst hsz
  have K : vK ((p, l, e, rm), (s, m, (av ad).toArray, below), (meth, c, MQ below (kBv D cy ad post s.heap.size) (av ad).toArray s rm.cells rm.slots (aA ad s.heap.size)), (aA ad s.heap.size, D, cy, ad)) cc nL own ws rm :=
    ⟨⟨B.exec, B.bytes, hml, by rw [← hown]; exact findClass_of_methodNamed B.named, atoms_spec (ws := ws) B.pre, rfl⟩, hK, hI, fun c hc => aA.in hc, fun q hq => Or.inr hq, hE, hl⟩
  refine body _ K ?_ s.heap [] ls ⟨by rw [List.append_nil]; exact hP, exD_nil⟩ va_S.rf hl2
  intro μ' hp n pc k1 k2 lv h1 h2 hd H locs ls hPx hS h
  have hP : HP D cy ad μ' H := by have := hPx.1; rw [List.append_nil] at this; exact this
  exact W.widen h1 h2 (W.vret B.exec B.bytes B.returns (fun t ht hW => ⟨⟨μ', rfl, hp, by dsimp only; rw [ht]; exact hP⟩, hS.F ht⟩) hS.2.2 hd B.notSynchronized)
/-- a method of a class some of whose methods are run otherwise, itself plain -/
theorem ofWF {y : MethodName} {ws ws' : List Cond} {rm : Room} {Pc : Array Value → State → Prop} {Qc : Array Value → State → Outcome → State → Prop} {mc ms : Nat} {free : Addr → Prop} {cc : ByteArray} {maxL : Nat} {ret : Option FieldType} (hy : plainFor y = true) (hw : ws = Cond.code y cc maxL ret :: ws')
    (body : ∀ p e s m args below meth c s₁, BodyLoose p l y (headSpec ws rm) cc maxL ret e s m args below meth c s₁ → c.maxLocals = maxL → Pc args s → W p l e (headSpec ws rm).room s m args below meth c s.heap [] 0 0 (MQ below Qc args s mc ms free) (entryFrame m args maxL)) : Met l y ws rm Pc Qc mc ms free := by
  refine MetFree.of_bodySF (code := cc) (maxLocals := maxL) (ret := ret) hy (fun args s m h hn => ?_) (fun p e s m args below meth c s₁ B hml hP _ => ?_)
  · obtain ⟨meth, c, h1, h2, h3, h4, h5, h6, -, -⟩ := Cond.code_spec hn (atoms_spec (ws := ws) h _ (by rw [hw]; exact List.mem_cons_self))
    exact ⟨meth, c, h1, h2, h3, h4, h5, h6⟩
  · obtain ⟨t, q1, o, q2, q3, q4⟩ := body p e s m args below meth c s₁ B hml hP s₁ (by rw [B.state]; rfl) (Stand.of_body B)
    exact ⟨t, o, q1, q2, q3, q4.1, q4.2⟩
theorem m_intF {av : (Nat → Nat) → List Value} {post : Int → Mem → Prop} {ty : FieldType} (hl : l.stackTraces = false) (hy : plainFor y = true) (hws : ws = Cond.code y cc nL (some ty) :: ws') (hown : y.cls = own) (hlen : (lg_sl (av ad)).length ≤ nL) (hn : ∀ z μ', post z μ' → narrow ty (.int (iZ z)) = .int (iZ z))
    (body : ∀ X : VC, vK X cc nL own ws rm → (∀ (z : Int) (μ' : Mem), post z μ' → ∀ n pc k1 k2 lv, k1 ≤ rm.cells → k2 ≤ rm.slots → decode cc pc = .ok (.ireturn, 1) → vW X n pc k1 k2 lv [.int (iZ z)] μ') → vW X nL 0 0 0 (lv_args 0 (av (vAd X))) [] μ) : cI l y ws rm D cy ad μ (av ad) post := by
  intro sz
  refine ofWF (cc := cc) (maxL := nL) (ret := some ty) hy hws ?_
  intro p e s m args below meth c s₁ B hml hv
  obtain ⟨rfl, hsz, hP, hK, hI, hE⟩ := hv
  have hl2 := lv_entry (av ad) (n := nL) hlen
  rw [lg_entry_eq]
  generalize (lg_sl (av ad) ++ List.replicate (nL - (lg_sl (av ad)).length) Slot.unset).toArray = ls at hl2 ⊢
  subst hsz
  have K : vK ((p, l, e, rm), (s, m, (av ad).toArray, below), (meth, c, MQ below (kBi D cy ad post s.heap.size) (av ad).toArray s rm.cells rm.slots (aA ad s.heap.size)), (aA ad s.heap.size, D, cy, ad)) cc nL own ws rm :=
    ⟨⟨B.exec, B.bytes, hml, by rw [← hown]; exact findClass_of_methodNamed B.named, atoms_spec (ws := ws) B.pre, rfl⟩, hK, hI, fun c hc => aA.in hc, fun q hq => Or.inr hq, hE, hl⟩
  refine body _ K ?_ s.heap [] ls ⟨by rw [List.append_nil]; exact hP, exD_nil⟩ va_S.rf hl2
  intro z μ' hp n pc k1 k2 lv h1 h2 hd H locs ls hPx hS h
  have hP : HP D cy ad μ' H := by have := hPx.1; rw [List.append_nil] at this; exact this
  exact W.widen h1 h2 (W.zret (v := iZ z) B.exec B.bytes B.returns (hn z μ' hp) (fun t ht hW => ⟨⟨iZ z, (z, μ'), rfl, ⟨rfl, hp⟩, by dsimp only; rw [ht]; exact hP⟩, hS.F ht⟩) hS.2.2 hd B.notSynchronized)
/-- a method with a table of its own, that returns -/
theorem m_intH {av : (Nat → Nat) → List Value} {post : Int → Mem → Prop} {ty : FieldType} {hh : List (Nat × Nat × Nat × Nat)} (hl : l.stackTraces = false) (hy : plainName y.cls = true) (hws : ws = Cond.codeWith y cc nL (some ty) hh :: ws') (hown : y.cls = own) (hlen : (lg_sl (av ad)).length ≤ nL) (hn : ∀ z μ', post z μ' → narrow ty (.int (iZ z)) = .int (iZ z))
    (body : ∀ X : VC, vK X cc nL own ws rm → X.2.2.1.2.1.exceptionTable.toList = hh.map (fun x => (⟨x.1, x.2.1, x.2.2.1, x.2.2.2⟩ : ExceptionTableEntry)) → (∀ (z : Int) (μ' : Mem), post z μ' → ∀ n pc k1 k2 lv, k1 ≤ rm.cells → k2 ≤ rm.slots → decode cc pc = .ok (.ireturn, 1) → vW X n pc k1 k2 lv [.int (iZ z)] μ') → vW X nL 0 0 0 (lv_args 0 (av (vAd X))) [] μ) : cI l y ws rm D cy ad μ (av ad) post := by
  intro sz
  refine va_MetW (cc := cc) (maxL := nL) (ret := some ty) (hh := hh) hy hws ?_
  intro p e s m args below meth c s₁ B hml hv
  obtain ⟨rfl, hsz, hP, hK, hI, hE⟩ := hv
  have htb := vx_table (x := y) B (atoms_spec (ws := ws) B.pre _ (by rw [hws]; exact List.mem_cons_self))
  have hl2 := lv_entry (av ad) (n := nL) hlen
  rw [lg_entry_eq]
  generalize (lg_sl (av ad) ++ List.replicate (nL - (lg_sl (av ad)).length) Slot.unset).toArray = ls at hl2 ⊢
  subst hsz
  have K : vK ((p, l, e, rm), (s, m, (av ad).toArray, below), (meth, c, MQ below (kBi D cy ad post s.heap.size) (av ad).toArray s rm.cells rm.slots (aA ad s.heap.size)), (aA ad s.heap.size, D, cy, ad)) cc nL own ws rm :=
    ⟨⟨B.exec, B.bytes, hml, by rw [← hown]; exact findClass_of_methodNamed B.named, atoms_spec (ws := ws) B.pre, rfl⟩, hK, hI, fun c hc => aA.in hc, fun q hq => Or.inr hq, hE, hl⟩
  refine body _ K htb ?_ s.heap [] ls ⟨by rw [List.append_nil]; exact hP, exD_nil⟩ va_S.rf hl2
  intro z μ' hp n pc k1 k2 lv h1 h2 hd H locs ls hPx hS h
  have hP : HP D cy ad μ' H := by have := hPx.1; rw [List.append_nil] at this; exact this
  exact W.widen h1 h2 (W.zret (v := iZ z) B.exec B.bytes B.returns (hn z μ' hp) (fun t ht hW => ⟨⟨iZ z, (z, μ'), rfl, ⟨rfl, hp⟩, by dsimp only; rw [ht]; exact hP⟩, hS.F ht⟩) hS.2.2 hd B.notSynchronized)
theorem m_thri {av : (Nat → Nat) → List Value} {E0 : String} {ty : FieldType} (hl : l.stackTraces = false) (hy : plainName y.cls = true) (hws : ws = Cond.code y cc nL (some ty) :: ws') (hown : y.cls = own) (hlen : (lg_sl (av ad)).length ≤ nL)
    (body : ∀ X : VC, vK X cc nL own ws rm → vT X μ E0 → vW X nL 0 0 0 (lv_args 0 (av (vAd X))) [] μ) : cTi l y ws rm D cy ad μ (av ad) E0 := by
  intro sz
  refine vx_ofW (cc := cc) (maxL := nL) (ret := some ty) hy hws ?_
  intro p e s m args below meth c s₁ B hml ht9 hv
  obtain ⟨rfl, hsz, hP, hK, hI, hE⟩ := hv
  have hl2 := lv_entry (av ad) (n := nL) hlen
  rw [lg_entry_eq]
  generalize (lg_sl (av ad) ++ List.replicate (nL - (lg_sl (av ad)).length) Slot.unset).toArray = ls at hl2 ⊢
  subst hsz
  have K : vK ((p, l, e, rm), (s, m, (av ad).toArray, below), (meth, c, vx_MQ below (kBi D cy ad (fun _ _ => False) s.heap.size) (kX D cy ad μ E0 s.heap.size) (av ad).toArray s 1 6 (aA ad s.heap.size)), (aA ad s.heap.size, D, cy, ad)) cc nL own ws rm :=
    ⟨⟨B.exec, B.bytes, hml, by rw [← hown]; exact findClass_of_methodNamed B.named, atoms_spec (ws := ws) B.pre, rfl⟩, hK, hI, fun c hc => aA.in hc, fun q hq => Or.inr hq, hE, hl⟩
  exact body _ K ⟨⟨_, rfl⟩, ht9, B.notSynchronized, rfl⟩ s.heap [] ls ⟨by rw [List.append_nil]; exact hP, exD_nil⟩ va_S.rf hl2
theorem m_thrv {av : (Nat → Nat) → List Value} {E0 : String} (hl : l.stackTraces = false) (hy : plainName y.cls = true) (hws : ws = Cond.code y cc nL none :: ws') (hown : y.cls = own) (hlen : (lg_sl (av ad)).length ≤ nL)
    (body : ∀ X : VC, vK X cc nL own ws rm → vT X μ E0 → vW X nL 0 0 0 (lv_args 0 (av (vAd X))) [] μ) : cTv l y ws rm D cy ad μ (av ad) E0 := by
  intro sz
  refine vx_ofW (cc := cc) (maxL := nL) (ret := none) hy hws ?_
  intro p e s m args below meth c s₁ B hml ht9 hv
  obtain ⟨rfl, hsz, hP, hK, hI, hE⟩ := hv
  have hl2 := lv_entry (av ad) (n := nL) hlen
  rw [lg_entry_eq]
  generalize (lg_sl (av ad) ++ List.replicate (nL - (lg_sl (av ad)).length) Slot.unset).toArray = ls at hl2 ⊢
  subst hsz
  have K : vK ((p, l, e, rm), (s, m, (av ad).toArray, below), (meth, c, vx_MQ below (kBv D cy ad (fun _ => False) s.heap.size) (kX D cy ad μ E0 s.heap.size) (av ad).toArray s 1 6 (aA ad s.heap.size)), (aA ad s.heap.size, D, cy, ad)) cc nL own ws rm :=
    ⟨⟨B.exec, B.bytes, hml, by rw [← hown]; exact findClass_of_methodNamed B.named, atoms_spec (ws := ws) B.pre, rfl⟩, hK, hI, fun c hc => aA.in hc, fun q hq => Or.inr hq, hE, hl⟩
  exact body _ K ⟨⟨_, rfl⟩, ht9, B.notSynchronized, rfl⟩ s.heap [] ls ⟨by rw [List.append_nil]; exact hP, exD_nil⟩ va_S.rf hl2
end VM
theorem HP.kept {D : va_G} {cy : Nat → ClassId} {ad : Nat → Nat} {μ : Mem} {H H1 : Heap} (h : HP D cy ad μ H) (hk : ∀ q : Nat, q < H.size → H1[q]? = H[q]?) : HP D cy ad μ H1 := va_P.kept h (fun k q hq => hk q.1 ((h k q hq).lt))
theorem HPx.HP9 {A : Nat → Prop} {D : va_G} {cy : Nat → ClassId} {ad : Nat → Nat} {μ : Mem} {ex : va_W} {H : Heap} (h : HPx A D cy ad μ ex H) : HP D cy ad μ H := fun k q hk => h.1 k q (by
  rw [List.getElem?_append_left (List.getElem?_eq_some_iff.mp hk).1]
  exact hk)
/-- behind a call: the cells beside the world are what they were -/
theorem HPx.join {A : Nat → Prop} {D : va_G} {cy : Nat → ClassId} {ad : Nat → Nat} {μ μ' : Mem} {ex : va_W} {H H1 : Heap} (h : HPx A D cy ad μ ex H) (h1 : HP D cy ad μ' H1) (hk : ∀ q : Nat, q < H.size → ¬ aA ad H.size q → H1[q]? = H[q]?) : HPx A D cy ad μ' ex H1 := by
  refine ⟨va_P.app h1 (fun k q hq => ?_), h.2⟩
  have hin : (wv cy ad μ ++ ex)[(wv cy ad μ).length + k]? = some q := by
    rw [List.getElem?_append_right (by omega), Nat.add_sub_cancel_left]
    exact hq
  have hat := h.1 _ q hin
  refine hat.kept (hk q.1 hat.lt (fun z => ?_))
  rcases z with ⟨c, hc, e⟩ | z
  · exact (h.2.1 k q hq).2 c hc e.symm
  · have := hat.lt
    omega
section VCa
variable {X : VC} {cc : ByteArray} {nL : Nat} {own : String} {Ts : List Cond} {rm : Room} {pc cells slots : Nat} {lv lv' : List (Nat × Value)} {st : List Value} {μ μ' : Mem} {ex : va_W}
variable {y : MethodName} {ws ws' : List Cond} {rm2 : Room} {bytes : ByteArray} {maxL n index mc ms : Nat} {ret : Option FieldType} {As rest : List Value}
theorem aA.sub {H : Heap} {locs : List Loc} (K : vK X cc nL own Ts rm) (hS : va_S X.2.2.2.1 X.2.1.1.heap H locs) : ∀ q, aA (vAd X) H.size q → X.2.2.2.1 q := by
  intro q h
  rcases h with ⟨c, hc, rfl⟩ | h
  · exact K.2.2.2.1 c hc
  · exact K.2.2.2.2.1 q (Nat.le_trans hS.1 h)
theorem kS_go {H : Heap} {locs : List Loc} {av : List Value} (K : vK X cc nL own Ts rm) (hP : HPx X.2.2.2.1 X.2.2.2.2.1 X.2.2.2.2.2.1 X.2.2.2.2.2.2 μ ex H) (hS : va_S X.2.2.2.1 X.2.1.1.heap H locs) : ∀ U : State, U.heap = H → X.2.1.1.WarmedH U.vm → kS X.2.2.2.2.1 X.2.2.2.2.2.1 X.2.2.2.2.2.2 μ av H.size av.toArray U :=
  fun U hU hW => ⟨rfl, by rw [hU], by rw [hU]; exact hP.HP9, va_K.moved hW.alike K.2.1, K.2.2.1, exP.call hW hU hS (aA.sub K hS) K.2.2.2.2.2.1⟩
/-- the receiver's class -/
theorem v_recv {c ci : Nat} {q : vw_C} {fs : (Nat → Nat) → (Nat → Int) → List Value} {H : Heap} (K : vK X cc nL own Ts rm) (hO : isO c ci fs) (hc : vwCl[ci]? = some q) (hP : HPx X.2.2.2.1 X.2.2.2.2.1 X.2.2.2.2.2.1 X.2.2.2.2.2.2 μ ex H) : ∃ cell : Cell, H[vAd X c]? = some cell ∧ cell.vm.isStatics = false ∧ X.2.1.1.vm.findClass q.1 = some cell.cls :=
  va_recv K.2.1 hP.1 hc (q0 := c) (by rw [wx_get hO.1, hO.2])
theorem v_callVi {C : String} {T : u_T} {N c ci : Nat} {fs : (Nat → Nat) → (Nat → Int) → List Value} {post : Int → Mem → Prop} (K : vK X cc nL own Ts rm) (hO : isO c ci fs) (hc : vwCl[ci]? = some (C, T, N)) (n : Nat) (hM : cI X.1.2.1 y ws rm2 X.2.2.2.2.1 X.2.2.2.2.2.1 X.2.2.2.2.2.2 μ (.ref (vAd X c) :: As) post) (hG : GoodIn Ts (wsV own index C y ws)) (hw : ws = Cond.code y bytes maxL ret :: ws') (hrc : rm2.cells = mc) (hrs : rm2.slots = ms) (hdd : y.cls = C ∧ y.cls ≠ "java/lang/invoke/MethodHandle" ∧ y.cls ≠ "java/lang/invoke/VarHandle" ∧ (parseMethodDescriptor y.desc).map (fun d => d.parameters.length) = some n) (hR : rm2.frames + 1 ≤ rm.frames ∧ 8 + (maxL + 11) + rm2.locals ≤ rm.locals) (hn : As.length = n) (hst : st = As.reverse ++ .ref (vAd X c) :: rest) (hcat : (rest.map fun v => v.category).sum ≤ 8) (hd : decode cc pc = .ok (.invokevirtual index, 3)) (hcs : cells + mc ≤ rm.cells ∧ slots + ms ≤ rm.slots)
    (kk : ∀ (z : Int) (μ' : Mem), post z μ' → vY X nL (pc + 3) (cells + mc) (slots + ms) lv (.int (iZ z) :: rest) μ' ex) : vY X nL pc cells slots lv st μ ex := by
  intro H locs ls hP hS h
  have hR' : rm2.frames + 1 ≤ X.1.2.2.2.frames ∧ 8 + (maxL + 11) + rm2.locals ≤ X.1.2.2.2.locals := by rw [K.1.2.2.2.2.2]; exact hR
  have hcs' : cells + mc ≤ X.1.2.2.2.cells ∧ slots + ms ≤ X.1.2.2.2.slots := by rw [K.1.2.2.2.2.2]; exact hcs
  have hM' := hM H.size
  rw [hrc, hrs] at hM'
  refine va_calli (va_runV (As := As) (rest := rest) ⟨K.1.1, K.1.2.1, K.1.2.2.1, K.1.2.2.2.1, K.1.2.2.2.2.1⟩ hM' (cwV n K.1.2.2.2.2.1 hG hw hrc hrs hdd hR') ⟨kS_fb, v_recv K hO hc hP, kS_go K hP hS⟩ rfl hn h.1 hst (lv_room hcat) hd hcs') hS (fun q _ q2 => aA.sub K hS q q2) (aA.sub K hS) (fun r u t H1 locs1 ht hvm hw hB hz1 hk1 hS1 => ?_)
  obtain ⟨z, μ'⟩ := u
  obtain ⟨rfl, hp⟩ := hw
  try dsimp only at hB
  rw [ht] at hB
  exact kk z μ' hp H1 locs1 ls (hP.join hB hk1) hS1 h
theorem v_callVir {C : String} {T : u_T} {N c ci : Nat} {fs : (Nat → Nat) → (Nat → Int) → List Value} {F : Int} (K : vK X cc nL own Ts rm) (hO : isO c ci fs) (hc : vwCl[ci]? = some (C, T, N)) (n : Nat) (hM : cI X.1.2.1 y ws rm2 X.2.2.2.2.1 X.2.2.2.2.2.1 X.2.2.2.2.2.2 μ (.ref (vAd X c) :: As) (fun (z : Int) (ν : Mem) => z = F ∧ ν = μ)) (hG : GoodIn Ts (wsV own index C y ws)) (hw : ws = Cond.code y bytes maxL ret :: ws') (hrc : rm2.cells = mc) (hrs : rm2.slots = ms) (hdd : y.cls = C ∧ y.cls ≠ "java/lang/invoke/MethodHandle" ∧ y.cls ≠ "java/lang/invoke/VarHandle" ∧ (parseMethodDescriptor y.desc).map (fun d => d.parameters.length) = some n) (hR : rm2.frames + 1 ≤ rm.frames ∧ 8 + (maxL + 11) + rm2.locals ≤ rm.locals) (hn : As.length = n) (hst : st = As.reverse ++ .ref (vAd X c) :: rest) (hcat : (rest.map fun v => v.category).sum ≤ 8) (hd : decode cc pc = .ok (.invokevirtual index, 3)) (hcs : cells + mc ≤ rm.cells ∧ slots + ms ≤ rm.slots)
    (kk : vY X nL (pc + 3) (cells + mc) (slots + ms) lv (.int (iZ F) :: rest) μ ex) : vY X nL pc cells slots lv st μ ex :=
  v_callVi K hO hc n hM hG hw hrc hrs hdd hR hn hst hcat hd hcs (fun z μ' q => by rw [q.1, q.2]; exact kk)
theorem v_callVis {C : String} {T : u_T} {N c ci : Nat} {fs : (Nat → Nat) → (Nat → Int) → List Value} {P : Int → Prop} (K : vK X cc nL own Ts rm) (hO : isO c ci fs) (hc : vwCl[ci]? = some (C, T, N)) (n : Nat) (hM : cI X.1.2.1 y ws rm2 X.2.2.2.2.1 X.2.2.2.2.2.1 X.2.2.2.2.2.2 μ (.ref (vAd X c) :: As) (fun (z : Int) (ν : Mem) => ν = μ ∧ P z)) (hG : GoodIn Ts (wsV own index C y ws)) (hw : ws = Cond.code y bytes maxL ret :: ws') (hrc : rm2.cells = mc) (hrs : rm2.slots = ms) (hdd : y.cls = C ∧ y.cls ≠ "java/lang/invoke/MethodHandle" ∧ y.cls ≠ "java/lang/invoke/VarHandle" ∧ (parseMethodDescriptor y.desc).map (fun d => d.parameters.length) = some n) (hR : rm2.frames + 1 ≤ rm.frames ∧ 8 + (maxL + 11) + rm2.locals ≤ rm.locals) (hn : As.length = n) (hst : st = As.reverse ++ .ref (vAd X c) :: rest) (hcat : (rest.map fun v => v.category).sum ≤ 8) (hd : decode cc pc = .ok (.invokevirtual index, 3)) (hcs : cells + mc ≤ rm.cells ∧ slots + ms ≤ rm.slots)
    (kk : ∀ z : Int, P z → vY X nL (pc + 3) (cells + mc) (slots + ms) lv (.int (iZ z) :: rest) μ ex) : vY X nL pc cells slots lv st μ ex :=
  v_callVi K hO hc n hM hG hw hrc hrs hdd hR hn hst hcat hd hcs (fun z μ' q => by rw [q.1]; exact kk z q.2)
theorem v_callVTi {C : String} {T : u_T} {N c ci : Nat} {fs : (Nat → Nat) → (Nat → Int) → List Value} {E0 : String} (K : vK X cc nL own Ts rm) (TT : vT X μ E0) (hO : isO c ci fs) (hc : vwCl[ci]? = some (C, T, N)) (n : Nat) (hM : cTi X.1.2.1 y ws rm2 X.2.2.2.2.1 X.2.2.2.2.2.1 X.2.2.2.2.2.2 μ (.ref (vAd X c) :: As) E0) (hG : GoodIn Ts (wsV own index C y ws)) (hw : ws = Cond.code y bytes maxL ret :: ws') (hrc : rm2.cells = 1) (hrs : rm2.slots = 6) (hdd : y.cls = C ∧ y.cls ≠ "java/lang/invoke/MethodHandle" ∧ y.cls ≠ "java/lang/invoke/VarHandle" ∧ (parseMethodDescriptor y.desc).map (fun d => d.parameters.length) = some n) (hR : rm2.frames + 1 ≤ rm.frames ∧ 8 + (maxL + 11) + rm2.locals ≤ rm.locals) (hn : As.length = n) (hst : st = As.reverse ++ .ref (vAd X c) :: rest) (hcat : (rest.map fun v => v.category).sum ≤ 8) (hd : decode cc pc = .ok (.invokevirtual index, 3)) (hcs : cells + 1 ≤ rm.cells ∧ slots + 6 ≤ rm.slots) (h0 : cells + 1 ≤ 1) (h6 : slots + 6 ≤ 6) : vY X nL pc cells slots lv st μ ex := by
  intro H locs ls hP hS h
  have hR' : rm2.frames + 1 ≤ X.1.2.2.2.frames ∧ 8 + (maxL + 11) + rm2.locals ≤ X.1.2.2.2.locals := by rw [K.1.2.2.2.2.2]; exact hR
  have hcs' : cells + 1 ≤ X.1.2.2.2.cells ∧ slots + 6 ≤ X.1.2.2.2.slots := by rw [K.1.2.2.2.2.2]; exact hcs
  obtain ⟨⟨Qc, hQ⟩, ht9, hlocks, hA⟩ := TT
  rw [hQ]
  refine vx_calli (vx_runV (As := As) (rest := rest) ⟨K.1.1, K.1.2.1, K.1.2.2.1, K.1.2.2.2.1, K.1.2.2.2.2.1⟩ (hM H.size) (cwV n K.1.2.2.2.2.1 hG hw hrc hrs hdd hR') ⟨kS_fb, v_recv K hO hc hP, kS_go K hP hS⟩ rfl hn h.1 hst (lv_room hcat) hd hcs') hS (fun q _ q2 => aA.sub K hS q q2) (aA.sub K hS) (fun q _ q2 => aA.sub K hS q q2) (fun E9 ce9 q9 u t H1 locs1 ht hvm hw hB hz1 hk1 hS1 hce hcv hcl => ?_) (fun _ u t H1 locs1 ht hvm hw hB hz1 hk1 hS1 => hw.2.elim)
  obtain ⟨rfl, hB⟩ := hB
  rw [ht] at hB
  exact vx_out (fun x hx => (ht9 x hx).elim) hlocks hce hcv hcl (fun t ht _ => ⟨(), trivial, ⟨rfl, by rw [ht]; exact hB⟩, by rw [← hA]; exact hS1.F ht⟩) (fun z hz => by rw [← hA]; exact hS1.2.2 z hz) h0 h6
theorem v_callVCi {C : String} {T : u_T} {N c ci : Nat} {fs : (Nat → Nat) → (Nat → Int) → List Value} {E name : String} (pre : List ExceptionTableEntry) (x : ExceptionTableEntry) (suf : List ExceptionTableEntry) (hsplit : X.2.2.1.2.1.exceptionTable.toList = pre ++ x :: suf) (hpass : ∀ z ∈ pre, covers z pc = false ∨ (z.catchType ≠ 0 ∧ ∃ nm : String, (Cond.classLink own z.catchType nm).before X.2.1.2.2.1 X.2.1.1 = true ∧ va_Nc E nm X.2.1.1)) (hx : covers x pc = true) (h0 : x.catchType ≠ 0) (hlink : Cond.classLink own x.catchType name ∈ Ts) (hne9 : E = name ∧ name ∈ ex_xs) (K : vK X cc nL own Ts rm) (hO : isO c ci fs) (hc : vwCl[ci]? = some (C, T, N)) (n : Nat) (hM : cTi X.1.2.1 y ws rm2 X.2.2.2.2.1 X.2.2.2.2.2.1 X.2.2.2.2.2.2 μ (.ref (vAd X c) :: As) E) (hG : GoodIn Ts (wsV own index C y ws)) (hw : ws = Cond.code y bytes maxL ret :: ws') (hrc : rm2.cells = 1) (hrs : rm2.slots = 6) (hdd : y.cls = C ∧ y.cls ≠ "java/lang/invoke/MethodHandle" ∧ y.cls ≠ "java/lang/invoke/VarHandle" ∧ (parseMethodDescriptor y.desc).map (fun d => d.parameters.length) = some n) (hR : rm2.frames + 1 ≤ rm.frames ∧ 8 + (maxL + 11) + rm2.locals ≤ rm.locals) (hn : As.length = n) (hst : st = As.reverse ++ .ref (vAd X c) :: rest) (hcat : (rest.map fun v => v.category).sum ≤ 8) (hd : decode cc pc = .ok (.invokevirtual index, 3)) (hcs : cells + 1 ≤ rm.cells ∧ slots + 6 ≤ rm.slots)
    (kk : ∀ q9 : Nat, vY X nL x.handlerPc (cells + 1) (slots + 6) lv [.ref q9] μ ex) : vY X nL pc cells slots lv st μ ex := by
  intro H locs ls hP hS h
  have hR' : rm2.frames + 1 ≤ X.1.2.2.2.frames ∧ 8 + (maxL + 11) + rm2.locals ≤ X.1.2.2.2.locals := by rw [K.1.2.2.2.2.2]; exact hR
  have hcs' : cells + 1 ≤ X.1.2.2.2.cells ∧ slots + 6 ≤ X.1.2.2.2.slots := by rw [K.1.2.2.2.2.2]; exact hcs
  obtain ⟨rfl, hxs⟩ := hne9
  refine vx_calli (vx_runV (As := As) (rest := rest) ⟨K.1.1, K.1.2.1, K.1.2.2.1, K.1.2.2.2.1, K.1.2.2.2.2.1⟩ (hM H.size) (cwV n K.1.2.2.2.2.1 hG hw hrc hrs hdd hR') ⟨kS_fb, v_recv K hO hc hP, kS_go K hP hS⟩ rfl hn h.1 hst (lv_room hcat) hd hcs') hS (fun q _ q2 => aA.sub K hS q q2) (aA.sub K hS) (fun q _ q2 => aA.sub K hS q q2) (fun E9 ce9 q9 u t H1 locs1 ht hvm hw hB hz1 hk1 hS1 hce hcv hcl => ?_) (fun _ u t H1 locs1 ht hvm hw hB hz1 hk1 hS1 => hw.2.elim)
  obtain ⟨rfl, hB⟩ := hB
  rw [ht] at hB
  exact vx_catch K.1.2.2.2.1 pre x suf hsplit hpass hx h0 (K.1.2.2.2.2.1 _ hlink) (exP.cast K.2.2.2.2.2.1 E9 hxs) hce hcv hcl (kk q9 H1 locs1 ls (hP.join hB hk1) hS1 h)
theorem v_callVv {C : String} {T : u_T} {N c ci : Nat} {fs : (Nat → Nat) → (Nat → Int) → List Value} {post : Mem → Prop} (K : vK X cc nL own Ts rm) (hO : isO c ci fs) (hc : vwCl[ci]? = some (C, T, N)) (n : Nat) (hM : cV X.1.2.1 y ws rm2 X.2.2.2.2.1 X.2.2.2.2.2.1 X.2.2.2.2.2.2 μ (.ref (vAd X c) :: As) post) (hG : GoodIn Ts (wsV own index C y ws)) (hw : ws = Cond.code y bytes maxL ret :: ws') (hrc : rm2.cells = mc) (hrs : rm2.slots = ms) (hdd : y.cls = C ∧ y.cls ≠ "java/lang/invoke/MethodHandle" ∧ y.cls ≠ "java/lang/invoke/VarHandle" ∧ (parseMethodDescriptor y.desc).map (fun d => d.parameters.length) = some n) (hR : rm2.frames + 1 ≤ rm.frames ∧ 8 + (maxL + 11) + rm2.locals ≤ rm.locals) (hn : As.length = n) (hst : st = As.reverse ++ .ref (vAd X c) :: rest) (hcat : (rest.map fun v => v.category).sum ≤ 8) (hd : decode cc pc = .ok (.invokevirtual index, 3)) (hcs : cells + mc ≤ rm.cells ∧ slots + ms ≤ rm.slots)
    (kk : ∀ (μ' : Mem), post μ' → vY X nL (pc + 3) (cells + mc) (slots + ms) lv rest μ' ex) : vY X nL pc cells slots lv st μ ex := by
  intro H locs ls hP hS h
  have hR' : rm2.frames + 1 ≤ X.1.2.2.2.frames ∧ 8 + (maxL + 11) + rm2.locals ≤ X.1.2.2.2.locals := by rw [K.1.2.2.2.2.2]; exact hR
  have hcs' : cells + mc ≤ X.1.2.2.2.cells ∧ slots + ms ≤ X.1.2.2.2.slots := by rw [K.1.2.2.2.2.2]; exact hcs
  have hM' := hM H.size
  rw [hrc, hrs] at hM'
  refine va_callv (va_runV (As := As) (rest := rest) ⟨K.1.1, K.1.2.1, K.1.2.2.1, K.1.2.2.2.1, K.1.2.2.2.2.1⟩ hM' (cwV n K.1.2.2.2.2.1 hG hw hrc hrs hdd hR') ⟨kS_fb, v_recv K hO hc hP, kS_go K hP hS⟩ rfl hn h.1 hst (lv_room hcat) hd hcs') hS (fun q _ q2 => aA.sub K hS q q2) (aA.sub K hS) (fun u t H1 locs1 ht hvm hw hB hz1 hk1 hS1 => ?_)
  try dsimp only at hB
  rw [ht] at hB
  exact kk u hw H1 locs1 ls (hP.join hB hk1) hS1 h
theorem v_callVvr {C : String} {T : u_T} {N c ci : Nat} {fs : (Nat → Nat) → (Nat → Int) → List Value} (K : vK X cc nL own Ts rm) (hO : isO c ci fs) (hc : vwCl[ci]? = some (C, T, N)) (n : Nat) (hM : cV X.1.2.1 y ws rm2 X.2.2.2.2.1 X.2.2.2.2.2.1 X.2.2.2.2.2.2 μ (.ref (vAd X c) :: As) (fun (ν : Mem) => ν = μ)) (hG : GoodIn Ts (wsV own index C y ws)) (hw : ws = Cond.code y bytes maxL ret :: ws') (hrc : rm2.cells = mc) (hrs : rm2.slots = ms) (hdd : y.cls = C ∧ y.cls ≠ "java/lang/invoke/MethodHandle" ∧ y.cls ≠ "java/lang/invoke/VarHandle" ∧ (parseMethodDescriptor y.desc).map (fun d => d.parameters.length) = some n) (hR : rm2.frames + 1 ≤ rm.frames ∧ 8 + (maxL + 11) + rm2.locals ≤ rm.locals) (hn : As.length = n) (hst : st = As.reverse ++ .ref (vAd X c) :: rest) (hcat : (rest.map fun v => v.category).sum ≤ 8) (hd : decode cc pc = .ok (.invokevirtual index, 3)) (hcs : cells + mc ≤ rm.cells ∧ slots + ms ≤ rm.slots)
    (kk : vY X nL (pc + 3) (cells + mc) (slots + ms) lv rest μ ex) : vY X nL pc cells slots lv st μ ex :=
  v_callVv K hO hc n hM hG hw hrc hrs hdd hR hn hst hcat hd hcs (fun μ' q => by rw [q]; exact kk)
theorem v_callVTv {C : String} {T : u_T} {N c ci : Nat} {fs : (Nat → Nat) → (Nat → Int) → List Value} {E0 : String} (K : vK X cc nL own Ts rm) (TT : vT X μ E0) (hO : isO c ci fs) (hc : vwCl[ci]? = some (C, T, N)) (n : Nat) (hM : cTv X.1.2.1 y ws rm2 X.2.2.2.2.1 X.2.2.2.2.2.1 X.2.2.2.2.2.2 μ (.ref (vAd X c) :: As) E0) (hG : GoodIn Ts (wsV own index C y ws)) (hw : ws = Cond.code y bytes maxL ret :: ws') (hrc : rm2.cells = 1) (hrs : rm2.slots = 6) (hdd : y.cls = C ∧ y.cls ≠ "java/lang/invoke/MethodHandle" ∧ y.cls ≠ "java/lang/invoke/VarHandle" ∧ (parseMethodDescriptor y.desc).map (fun d => d.parameters.length) = some n) (hR : rm2.frames + 1 ≤ rm.frames ∧ 8 + (maxL + 11) + rm2.locals ≤ rm.locals) (hn : As.length = n) (hst : st = As.reverse ++ .ref (vAd X c) :: rest) (hcat : (rest.map fun v => v.category).sum ≤ 8) (hd : decode cc pc = .ok (.invokevirtual index, 3)) (hcs : cells + 1 ≤ rm.cells ∧ slots + 6 ≤ rm.slots) (h0 : cells + 1 ≤ 1) (h6 : slots + 6 ≤ 6) : vY X nL pc cells slots lv st μ ex := by
  intro H locs ls hP hS h
  have hR' : rm2.frames + 1 ≤ X.1.2.2.2.frames ∧ 8 + (maxL + 11) + rm2.locals ≤ X.1.2.2.2.locals := by rw [K.1.2.2.2.2.2]; exact hR
  have hcs' : cells + 1 ≤ X.1.2.2.2.cells ∧ slots + 6 ≤ X.1.2.2.2.slots := by rw [K.1.2.2.2.2.2]; exact hcs
  obtain ⟨⟨Qc, hQ⟩, ht9, hlocks, hA⟩ := TT
  rw [hQ]
  refine vx_callv (vx_runV (As := As) (rest := rest) ⟨K.1.1, K.1.2.1, K.1.2.2.1, K.1.2.2.2.1, K.1.2.2.2.2.1⟩ (hM H.size) (cwV n K.1.2.2.2.2.1 hG hw hrc hrs hdd hR') ⟨kS_fb, v_recv K hO hc hP, kS_go K hP hS⟩ rfl hn h.1 hst (lv_room hcat) hd hcs') hS (fun q _ q2 => aA.sub K hS q q2) (aA.sub K hS) (fun q _ q2 => aA.sub K hS q q2) (fun E9 ce9 q9 u t H1 locs1 ht hvm hw hB hz1 hk1 hS1 hce hcv hcl => ?_) (fun u t H1 locs1 ht hvm hw hB hz1 hk1 hS1 => hw.elim)
  obtain ⟨rfl, hB⟩ := hB
  rw [ht] at hB
  exact vx_out (fun x hx => (ht9 x hx).elim) hlocks hce hcv hcl (fun t ht _ => ⟨(), trivial, ⟨rfl, by rw [ht]; exact hB⟩, by rw [← hA]; exact hS1.F ht⟩) (fun z hz => by rw [← hA]; exact hS1.2.2 z hz) h0 h6
theorem v_callVCv {C : String} {T : u_T} {N c ci : Nat} {fs : (Nat → Nat) → (Nat → Int) → List Value} {E name : String} (pre : List ExceptionTableEntry) (x : ExceptionTableEntry) (suf : List ExceptionTableEntry) (hsplit : X.2.2.1.2.1.exceptionTable.toList = pre ++ x :: suf) (hpass : ∀ z ∈ pre, covers z pc = false ∨ (z.catchType ≠ 0 ∧ ∃ nm : String, (Cond.classLink own z.catchType nm).before X.2.1.2.2.1 X.2.1.1 = true ∧ va_Nc E nm X.2.1.1)) (hx : covers x pc = true) (h0 : x.catchType ≠ 0) (hlink : Cond.classLink own x.catchType name ∈ Ts) (hne9 : E = name ∧ name ∈ ex_xs) (K : vK X cc nL own Ts rm) (hO : isO c ci fs) (hc : vwCl[ci]? = some (C, T, N)) (n : Nat) (hM : cTv X.1.2.1 y ws rm2 X.2.2.2.2.1 X.2.2.2.2.2.1 X.2.2.2.2.2.2 μ (.ref (vAd X c) :: As) E) (hG : GoodIn Ts (wsV own index C y ws)) (hw : ws = Cond.code y bytes maxL ret :: ws') (hrc : rm2.cells = 1) (hrs : rm2.slots = 6) (hdd : y.cls = C ∧ y.cls ≠ "java/lang/invoke/MethodHandle" ∧ y.cls ≠ "java/lang/invoke/VarHandle" ∧ (parseMethodDescriptor y.desc).map (fun d => d.parameters.length) = some n) (hR : rm2.frames + 1 ≤ rm.frames ∧ 8 + (maxL + 11) + rm2.locals ≤ rm.locals) (hn : As.length = n) (hst : st = As.reverse ++ .ref (vAd X c) :: rest) (hcat : (rest.map fun v => v.category).sum ≤ 8) (hd : decode cc pc = .ok (.invokevirtual index, 3)) (hcs : cells + 1 ≤ rm.cells ∧ slots + 6 ≤ rm.slots)
    (kk : ∀ q9 : Nat, vY X nL x.handlerPc (cells + 1) (slots + 6) lv [.ref q9] μ ex) : vY X nL pc cells slots lv st μ ex := by
  intro H locs ls hP hS h
  have hR' : rm2.frames + 1 ≤ X.1.2.2.2.frames ∧ 8 + (maxL + 11) + rm2.locals ≤ X.1.2.2.2.locals := by rw [K.1.2.2.2.2.2]; exact hR
  have hcs' : cells + 1 ≤ X.1.2.2.2.cells ∧ slots + 6 ≤ X.1.2.2.2.slots := by rw [K.1.2.2.2.2.2]; exact hcs
  obtain ⟨rfl, hxs⟩ := hne9
  refine vx_callv (vx_runV (As := As) (rest := rest) ⟨K.1.1, K.1.2.1, K.1.2.2.1, K.1.2.2.2.1, K.1.2.2.2.2.1⟩ (hM H.size) (cwV n K.1.2.2.2.2.1 hG hw hrc hrs hdd hR') ⟨kS_fb, v_recv K hO hc hP, kS_go K hP hS⟩ rfl hn h.1 hst (lv_room hcat) hd hcs') hS (fun q _ q2 => aA.sub K hS q q2) (aA.sub K hS) (fun q _ q2 => aA.sub K hS q q2) (fun E9 ce9 q9 u t H1 locs1 ht hvm hw hB hz1 hk1 hS1 hce hcv hcl => ?_) (fun u t H1 locs1 ht hvm hw hB hz1 hk1 hS1 => hw.elim)
  obtain ⟨rfl, hB⟩ := hB
  rw [ht] at hB
  exact vx_catch K.1.2.2.2.1 pre x suf hsplit hpass hx h0 (K.1.2.2.2.2.1 _ hlink) (exP.cast K.2.2.2.2.2.1 E9 hxs) hce hcv hcl (kk q9 H1 locs1 ls (hP.join hB hk1) hS1 h)
theorem v_callSi {post : Int → Mem → Prop} (K : vK X cc nL own Ts rm) (n : Nat) (hM : cI X.1.2.1 y ws rm2 X.2.2.2.2.1 X.2.2.2.2.2.1 X.2.2.2.2.2.2 μ As post) (hG : GoodIn Ts (va_wsS own index y ws)) (hw : ws = Cond.code y bytes maxL ret :: ws') (hrc : rm2.cells = mc) (hrs : rm2.slots = ms) (hdd : y.cls ≠ "java/lang/invoke/MethodHandle" ∧ y.cls ≠ "java/lang/invoke/VarHandle" ∧ (parseMethodDescriptor y.desc).map (fun d => d.parameters.length) = some n) (hR : rm2.frames + 1 ≤ rm.frames ∧ 8 + (maxL + 11) + rm2.locals ≤ rm.locals) (hn : As.length = n) (hst : st = As.reverse ++ rest) (hcat : (rest.map fun v => v.category).sum ≤ 8) (hd : decode cc pc = .ok (.invokestatic index, 3)) (hcs : cells + mc ≤ rm.cells ∧ slots + ms ≤ rm.slots)
    (kk : ∀ (z : Int) (μ' : Mem), post z μ' → vY X nL (pc + 3) (cells + mc) (slots + ms) lv (.int (iZ z) :: rest) μ' ex) : vY X nL pc cells slots lv st μ ex := by
  intro H locs ls hP hS h
  have hR' : rm2.frames + 1 ≤ X.1.2.2.2.frames ∧ 8 + (maxL + 11) + rm2.locals ≤ X.1.2.2.2.locals := by rw [K.1.2.2.2.2.2]; exact hR
  have hcs' : cells + mc ≤ X.1.2.2.2.cells ∧ slots + ms ≤ X.1.2.2.2.slots := by rw [K.1.2.2.2.2.2]; exact hcs
  have hM' := hM H.size
  rw [hrc, hrs] at hM'
  refine va_calli (va_runS (As := As) (rest := rest) ⟨K.1.1, K.1.2.1, K.1.2.2.1, K.1.2.2.2.1, K.1.2.2.2.2.1⟩ hM' (va_cwS n K.1.2.2.2.2.1 hG hw hrc hrs hdd hR') ⟨kS_fb, kS_go K hP hS⟩ rfl hn h.1 hst (lv_room hcat) hd hcs') hS (fun q _ q2 => aA.sub K hS q q2) (aA.sub K hS) (fun r u t H1 locs1 ht hvm hw hB hz1 hk1 hS1 => ?_)
  obtain ⟨z, μ'⟩ := u
  obtain ⟨rfl, hp⟩ := hw
  try dsimp only at hB
  rw [ht] at hB
  exact kk z μ' hp H1 locs1 ls (hP.join hB hk1) hS1 h
theorem v_callSir {F : Int} (K : vK X cc nL own Ts rm) (n : Nat) (hM : cI X.1.2.1 y ws rm2 X.2.2.2.2.1 X.2.2.2.2.2.1 X.2.2.2.2.2.2 μ As (fun (z : Int) (ν : Mem) => z = F ∧ ν = μ)) (hG : GoodIn Ts (va_wsS own index y ws)) (hw : ws = Cond.code y bytes maxL ret :: ws') (hrc : rm2.cells = mc) (hrs : rm2.slots = ms) (hdd : y.cls ≠ "java/lang/invoke/MethodHandle" ∧ y.cls ≠ "java/lang/invoke/VarHandle" ∧ (parseMethodDescriptor y.desc).map (fun d => d.parameters.length) = some n) (hR : rm2.frames + 1 ≤ rm.frames ∧ 8 + (maxL + 11) + rm2.locals ≤ rm.locals) (hn : As.length = n) (hst : st = As.reverse ++ rest) (hcat : (rest.map fun v => v.category).sum ≤ 8) (hd : decode cc pc = .ok (.invokestatic index, 3)) (hcs : cells + mc ≤ rm.cells ∧ slots + ms ≤ rm.slots)
    (kk : vY X nL (pc + 3) (cells + mc) (slots + ms) lv (.int (iZ F) :: rest) μ ex) : vY X nL pc cells slots lv st μ ex :=
  v_callSi K n hM hG hw hrc hrs hdd hR hn hst hcat hd hcs (fun z μ' q => by rw [q.1, q.2]; exact kk)
theorem v_callSis {P : Int → Prop} (K : vK X cc nL own Ts rm) (n : Nat) (hM : cI X.1.2.1 y ws rm2 X.2.2.2.2.1 X.2.2.2.2.2.1 X.2.2.2.2.2.2 μ As (fun (z : Int) (ν : Mem) => ν = μ ∧ P z)) (hG : GoodIn Ts (va_wsS own index y ws)) (hw : ws = Cond.code y bytes maxL ret :: ws') (hrc : rm2.cells = mc) (hrs : rm2.slots = ms) (hdd : y.cls ≠ "java/lang/invoke/MethodHandle" ∧ y.cls ≠ "java/lang/invoke/VarHandle" ∧ (parseMethodDescriptor y.desc).map (fun d => d.parameters.length) = some n) (hR : rm2.frames + 1 ≤ rm.frames ∧ 8 + (maxL + 11) + rm2.locals ≤ rm.locals) (hn : As.length = n) (hst : st = As.reverse ++ rest) (hcat : (rest.map fun v => v.category).sum ≤ 8) (hd : decode cc pc = .ok (.invokestatic index, 3)) (hcs : cells + mc ≤ rm.cells ∧ slots + ms ≤ rm.slots)
    (kk : ∀ z : Int, P z → vY X nL (pc + 3) (cells + mc) (slots + ms) lv (.int (iZ z) :: rest) μ ex) : vY X nL pc cells slots lv st μ ex :=
  v_callSi K n hM hG hw hrc hrs hdd hR hn hst hcat hd hcs (fun z μ' q => by rw [q.1]; exact kk z q.2)
theorem v_callSv {post : Mem → Prop} (K : vK X cc nL own Ts rm) (n : Nat) (hM : cV X.1.2.1 y ws rm2 X.2.2.2.2.1 X.2.2.2.2.2.1 X.2.2.2.2.2.2 μ As post) (hG : GoodIn Ts (va_wsS own index y ws)) (hw : ws = Cond.code y bytes maxL ret :: ws') (hrc : rm2.cells = mc) (hrs : rm2.slots = ms) (hdd : y.cls ≠ "java/lang/invoke/MethodHandle" ∧ y.cls ≠ "java/lang/invoke/VarHandle" ∧ (parseMethodDescriptor y.desc).map (fun d => d.parameters.length) = some n) (hR : rm2.frames + 1 ≤ rm.frames ∧ 8 + (maxL + 11) + rm2.locals ≤ rm.locals) (hn : As.length = n) (hst : st = As.reverse ++ rest) (hcat : (rest.map fun v => v.category).sum ≤ 8) (hd : decode cc pc = .ok (.invokestatic index, 3)) (hcs : cells + mc ≤ rm.cells ∧ slots + ms ≤ rm.slots)
    (kk : ∀ (μ' : Mem), post μ' → vY X nL (pc + 3) (cells + mc) (slots + ms) lv rest μ' ex) : vY X nL pc cells slots lv st μ ex := by
  intro H locs ls hP hS h
  have hR' : rm2.frames + 1 ≤ X.1.2.2.2.frames ∧ 8 + (maxL + 11) + rm2.locals ≤ X.1.2.2.2.locals := by rw [K.1.2.2.2.2.2]; exact hR
  have hcs' : cells + mc ≤ X.1.2.2.2.cells ∧ slots + ms ≤ X.1.2.2.2.slots := by rw [K.1.2.2.2.2.2]; exact hcs
  have hM' := hM H.size
  rw [hrc, hrs] at hM'
  refine va_callv (va_runS (As := As) (rest := rest) ⟨K.1.1, K.1.2.1, K.1.2.2.1, K.1.2.2.2.1, K.1.2.2.2.2.1⟩ hM' (va_cwS n K.1.2.2.2.2.1 hG hw hrc hrs hdd hR') ⟨kS_fb, kS_go K hP hS⟩ rfl hn h.1 hst (lv_room hcat) hd hcs') hS (fun q _ q2 => aA.sub K hS q q2) (aA.sub K hS) (fun u t H1 locs1 ht hvm hw hB hz1 hk1 hS1 => ?_)
  try dsimp only at hB
  rw [ht] at hB
  exact kk u hw H1 locs1 ls (hP.join hB hk1) hS1 h
theorem v_callSvr (K : vK X cc nL own Ts rm) (n : Nat) (hM : cV X.1.2.1 y ws rm2 X.2.2.2.2.1 X.2.2.2.2.2.1 X.2.2.2.2.2.2 μ As (fun (ν : Mem) => ν = μ)) (hG : GoodIn Ts (va_wsS own index y ws)) (hw : ws = Cond.code y bytes maxL ret :: ws') (hrc : rm2.cells = mc) (hrs : rm2.slots = ms) (hdd : y.cls ≠ "java/lang/invoke/MethodHandle" ∧ y.cls ≠ "java/lang/invoke/VarHandle" ∧ (parseMethodDescriptor y.desc).map (fun d => d.parameters.length) = some n) (hR : rm2.frames + 1 ≤ rm.frames ∧ 8 + (maxL + 11) + rm2.locals ≤ rm.locals) (hn : As.length = n) (hst : st = As.reverse ++ rest) (hcat : (rest.map fun v => v.category).sum ≤ 8) (hd : decode cc pc = .ok (.invokestatic index, 3)) (hcs : cells + mc ≤ rm.cells ∧ slots + ms ≤ rm.slots)
    (kk : vY X nL (pc + 3) (cells + mc) (slots + ms) lv rest μ ex) : vY X nL pc cells slots lv st μ ex :=
  v_callSv K n hM hG hw hrc hrs hdd hR hn hst hcat hd hcs (fun μ' q => by rw [q]; exact kk)
theorem v_callNi {host : String} {post : Int → Mem → Prop} (K : vK X cc nL own Ts rm) (n : Nat) (hM : cI X.1.2.1 y ws rm2 X.2.2.2.2.1 X.2.2.2.2.2.1 X.2.2.2.2.2.2 μ As post) (hG : GoodIn Ts ws) (hw : ws = Cond.code y bytes maxL ret :: ws') (hrc : rm2.cells = mc) (hrs : rm2.slots = ms) (hne : (own, index, y, host) ∈ ex_ne) (hini : Cond.initialized y.cls ∈ Ts) (hsta : Cond.static y ∈ Ts) (hdd : y.cls ≠ "java/lang/invoke/MethodHandle" ∧ y.cls ≠ "java/lang/invoke/VarHandle" ∧ (parseMethodDescriptor y.desc).map (fun d => d.parameters.length) = some n) (hR : rm2.frames + 1 ≤ rm.frames ∧ 8 + (maxL + 11) + rm2.locals ≤ rm.locals) (hn : As.length = n) (hst : st = As.reverse ++ rest) (hcat : (rest.map fun v => v.category).sum ≤ 8) (hd : decode cc pc = .ok (.invokestatic index, 3)) (hcs : cells + mc ≤ rm.cells ∧ slots + ms ≤ rm.slots)
    (kk : ∀ (z : Int) (μ' : Mem), post z μ' → vY X nL (pc + 3) (cells + mc) (slots + ms) lv (.int (iZ z) :: rest) μ' ex) : vY X nL pc cells slots lv st μ ex := by
  intro H locs ls hP hS h
  have hR' : rm2.frames + 1 ≤ X.1.2.2.2.frames ∧ 8 + (maxL + 11) + rm2.locals ≤ X.1.2.2.2.locals := by rw [K.1.2.2.2.2.2]; exact hR
  have hcs' : cells + mc ≤ X.1.2.2.2.cells ∧ slots + ms ≤ X.1.2.2.2.slots := by rw [K.1.2.2.2.2.2]; exact hcs
  have hM' := hM H.size
  rw [hrc, hrs] at hM'
  refine va_calli (va_runSN (As := As) (rest := rest) ⟨K.1.1, K.1.2.1, K.1.2.2.1, K.1.2.2.2.1, K.1.2.2.2.2.1⟩ hM' ⟨va_cnB n K.1.2.2.2.2.1 hG hw hrc hrs (exP.nest K.2.2.2.2.2.1 (own, index, y, host) hne) (K.1.2.2.2.2.1 _ hini) hdd hR', K.1.2.2.2.2.1 _ hsta, trivial⟩ ⟨kS_fb, kS_go K hP hS⟩ rfl hn h.1 hst (lv_room hcat) hd hcs') hS (fun q _ q2 => aA.sub K hS q q2) (aA.sub K hS) (fun r u t H1 locs1 ht hvm hw hB hz1 hk1 hS1 => ?_)
  obtain ⟨z, μ'⟩ := u
  obtain ⟨rfl, hp⟩ := hw
  try dsimp only at hB
  rw [ht] at hB
  exact kk z μ' hp H1 locs1 ls (hP.join hB hk1) hS1 h
theorem v_callNir {host : String} {F : Int} (K : vK X cc nL own Ts rm) (n : Nat) (hM : cI X.1.2.1 y ws rm2 X.2.2.2.2.1 X.2.2.2.2.2.1 X.2.2.2.2.2.2 μ As (fun (z : Int) (ν : Mem) => z = F ∧ ν = μ)) (hG : GoodIn Ts ws) (hw : ws = Cond.code y bytes maxL ret :: ws') (hrc : rm2.cells = mc) (hrs : rm2.slots = ms) (hne : (own, index, y, host) ∈ ex_ne) (hini : Cond.initialized y.cls ∈ Ts) (hsta : Cond.static y ∈ Ts) (hdd : y.cls ≠ "java/lang/invoke/MethodHandle" ∧ y.cls ≠ "java/lang/invoke/VarHandle" ∧ (parseMethodDescriptor y.desc).map (fun d => d.parameters.length) = some n) (hR : rm2.frames + 1 ≤ rm.frames ∧ 8 + (maxL + 11) + rm2.locals ≤ rm.locals) (hn : As.length = n) (hst : st = As.reverse ++ rest) (hcat : (rest.map fun v => v.category).sum ≤ 8) (hd : decode cc pc = .ok (.invokestatic index, 3)) (hcs : cells + mc ≤ rm.cells ∧ slots + ms ≤ rm.slots)
    (kk : vY X nL (pc + 3) (cells + mc) (slots + ms) lv (.int (iZ F) :: rest) μ ex) : vY X nL pc cells slots lv st μ ex :=
  v_callNi K n hM hG hw hrc hrs hne hini hsta hdd hR hn hst hcat hd hcs (fun z μ' q => by rw [q.1, q.2]; exact kk)
theorem v_callNis {host : String} {P : Int → Prop} (K : vK X cc nL own Ts rm) (n : Nat) (hM : cI X.1.2.1 y ws rm2 X.2.2.2.2.1 X.2.2.2.2.2.1 X.2.2.2.2.2.2 μ As (fun (z : Int) (ν : Mem) => ν = μ ∧ P z)) (hG : GoodIn Ts ws) (hw : ws = Cond.code y bytes maxL ret :: ws') (hrc : rm2.cells = mc) (hrs : rm2.slots = ms) (hne : (own, index, y, host) ∈ ex_ne) (hini : Cond.initialized y.cls ∈ Ts) (hsta : Cond.static y ∈ Ts) (hdd : y.cls ≠ "java/lang/invoke/MethodHandle" ∧ y.cls ≠ "java/lang/invoke/VarHandle" ∧ (parseMethodDescriptor y.desc).map (fun d => d.parameters.length) = some n) (hR : rm2.frames + 1 ≤ rm.frames ∧ 8 + (maxL + 11) + rm2.locals ≤ rm.locals) (hn : As.length = n) (hst : st = As.reverse ++ rest) (hcat : (rest.map fun v => v.category).sum ≤ 8) (hd : decode cc pc = .ok (.invokestatic index, 3)) (hcs : cells + mc ≤ rm.cells ∧ slots + ms ≤ rm.slots)
    (kk : ∀ z : Int, P z → vY X nL (pc + 3) (cells + mc) (slots + ms) lv (.int (iZ z) :: rest) μ ex) : vY X nL pc cells slots lv st μ ex :=
  v_callNi K n hM hG hw hrc hrs hne hini hsta hdd hR hn hst hcat hd hcs (fun z μ' q => by rw [q.1]; exact kk z q.2)
theorem v_throwS {cls text : String} {names : List String} {ik is ic : Nat} (K : vK X cc nL own Ts rm) (TT : vT X μ cls) (hcls : Bundle.fit cls = true) (hnames : ∀ n ∈ names, Bundle.fit n = true)
    (hk : Cond.classLink own ik cls ∈ Ts) (hini : Cond.initialized cls ∈ Ts) (hat : ∀ w ∈ (vx_atS own ic cls names).filter goodWord, w ∈ Ts) (hat2 : ∀ w ∈ (vx_atS own ic cls names).filter (fun w => !goodWord w), w ∈ [Cond.castable cls cls, .declares (Bundle.initS "java/lang/RuntimeException"), .declares (Bundle.initS "java/lang/Exception"), .declares (Bundle.initS Bundle.tN)]) (hxs : cls ∈ ex_xs ∧ own = RX7 ∧ (is, text) ∈ ex_tx)
    (hgood : ∀ w ∈ Cond.classLink own ik cls :: Cond.initialized cls :: vx_atS own ic cls names, vx_ot w = true)
    (d0 : decode cc pc = .ok (.new ik, 3)) (d3 : decode cc (pc + 3) = .ok (.dup, 1)) (d4 : decode cc (pc + 4) = .ok (.ldc is, 2)) (d6 : decode cc (pc + 6) = .ok (.invokespecial ic, 3)) (d9 : decode cc (pc + 9) = .ok (.athrow, 1))
    (hf : names.length + 3 < rm.frames) (hlo : (st.map fun v => v.category).sum + (13 * (names.length + 1) + 43) ≤ rm.locals) (hc : 0 + 1 ≤ rm.cells) (hs : 0 + 6 ≤ rm.slots) : vY X nL pc 0 0 lv st μ ex := by
  intro H locs ls hP hS h
  obtain ⟨⟨Qc, hQ⟩, ht9, hlocks, hA⟩ := TT
  obtain ⟨hx1, rfl, hx2⟩ := hxs
  have hE := K.2.2.2.2.2.1
  obtain ⟨sa9, hsa9⟩ := hE.2.1 (is, text) hx2
  have hR := K.1.2.2.2.2.2
  rw [hQ]
  exact vx_throwS (cls := cls) (text := text) (names := names) (A := X.2.2.2.1) K.1.1 K.1.2.1 K.2.2.2.2.2.2 K.1.2.2.2.1 hcls hnames (K.1.2.2.2.2.1 _ hk) (K.1.2.2.2.2.1 _ hini) hsa9 (ex_hat hE (fun w hw => K.1.2.2.2.2.1 _ (hat w hw)) hat2 hx1) hgood hE.1.1 hE.1.2 hS (by rw [K.1.2.2.1]; exact h.1) d0 d3 d4 d6 d9 (fun x hx => (ht9 x hx).elim) (by rw [hR]; exact hf) (by rw [hR]; exact hlo) (by rw [hR]; exact hc) (by rw [hR]; exact hs) hlocks (fun t hal hz hk => ⟨(), trivial, ⟨rfl, HP.kept hP.HP9 hk⟩, by rw [← hA]; exact kx_thr hS hz hk⟩) (fun z hz => by rw [← hA]; exact hS.2.2 z hz) (Nat.le_refl 1) (Nat.le_refl 6)
theorem v_throwSW {cls text : String} {names : List String} {ik is ic : Nat} (K : vK X cc nL own Ts rm) (TT : vT X μ cls) (hcls : Bundle.fit cls = true) (hnames : ∀ n ∈ names, Bundle.fit n = true)
    (hk : Cond.classLink own ik cls ∈ Ts) (hini : Cond.initialized cls ∈ Ts) (hat : ∀ w ∈ (vx_atS own ic cls names).filter goodWord, w ∈ Ts) (hat2 : ∀ w ∈ (vx_atS own ic cls names).filter (fun w => !goodWord w), w ∈ [Cond.castable cls cls, .declares (Bundle.initS "java/lang/RuntimeException"), .declares (Bundle.initS "java/lang/Exception"), .declares (Bundle.initS Bundle.tN)]) (hxs : cls ∈ ex_xs ∧ own = RX7 ∧ (is, text) ∈ ex_tx)
    (hgood : ∀ w ∈ Cond.classLink own ik cls :: Cond.initialized cls :: vx_atS own ic cls names, vx_ot w = true)
    (d0 : decode cc pc = .ok (.new ik, 3)) (d3 : decode cc (pc + 3) = .ok (.dup, 1)) (d4 : decode cc (pc + 4) = .ok (.ldc_w is, 3)) (d6 : decode cc (pc + 7) = .ok (.invokespecial ic, 3)) (d9 : decode cc (pc + 10) = .ok (.athrow, 1))
    (hf : names.length + 3 < rm.frames) (hlo : (st.map fun v => v.category).sum + (13 * (names.length + 1) + 43) ≤ rm.locals) (hc : 0 + 1 ≤ rm.cells) (hs : 0 + 6 ≤ rm.slots) : vY X nL pc 0 0 lv st μ ex := by
  intro H locs ls hP hS h
  obtain ⟨⟨Qc, hQ⟩, ht9, hlocks, hA⟩ := TT
  obtain ⟨hx1, rfl, hx2⟩ := hxs
  have hE := K.2.2.2.2.2.1
  obtain ⟨sa9, hsa9⟩ := hE.2.1 (is, text) hx2
  have hR := K.1.2.2.2.2.2
  rw [hQ]
  exact vx_throwSW (cls := cls) (text := text) (names := names) (A := X.2.2.2.1) K.1.1 K.1.2.1 K.2.2.2.2.2.2 K.1.2.2.2.1 hcls hnames (K.1.2.2.2.2.1 _ hk) (K.1.2.2.2.2.1 _ hini) hsa9 (ex_hat hE (fun w hw => K.1.2.2.2.2.1 _ (hat w hw)) hat2 hx1) hgood hE.1.1 hE.1.2 hS (by rw [K.1.2.2.1]; exact h.1) d0 d3 d4 d6 d9 (fun x hx => (ht9 x hx).elim) (by rw [hR]; exact hf) (by rw [hR]; exact hlo) (by rw [hR]; exact hc) (by rw [hR]; exact hs) hlocks (fun t hal hz hk => ⟨(), trivial, ⟨rfl, HP.kept hP.HP9 hk⟩, by rw [← hA]; exact kx_thr hS hz hk⟩) (fun z hz => by rw [← hA]; exact hS.2.2 z hz) (Nat.le_refl 1) (Nat.le_refl 6)
theorem iZ_max {a b : Int} (ha : -2147483648 ≤ a ∧ a ≤ 2147483647) (hb : -2147483648 ≤ b ∧ b ≤ 2147483647) : (if iZ a < iZ b then iZ b else iZ a) = iZ (max a b) := by
  by_cases h : a < b
  · rw [if_pos ((iZ_lt ha hb).mpr h)]; congr 1; omega
  · rw [if_neg (fun q => h ((iZ_lt ha hb).mp q))]; congr 1; omega
theorem v_mmax {a b : Int} {index : Nat} (ha : -2147483648 ≤ a ∧ a ≤ 2147483647) (hb : -2147483648 ≤ b ∧ b ≤ 2147483647) (K : vK X cc nL own Ts rm) (hlink : Cond.methodLink own index Lib.Math.max.name ∈ Ts) (hstat : Cond.static Lib.Math.max.name ∈ Ts) (hini : Cond.initialized "java/lang/Math" ∈ Ts) (hcode : Cond.code Lib.Math.max.name Lib.Math.max.code 2 (some .int) ∈ Ts) (hf : 1 ≤ rm.frames) (hl : (st.map fun v => v.category).sum + 13 ≤ rm.locals) (hcs : cells ≤ rm.cells ∧ slots ≤ rm.slots) (hd : decode cc pc = .ok (.invokestatic index, 3)) (kk : vY X nL (pc + 3) cells slots lv (.int (iZ (max a b)) :: st) μ ex) : vY X nL pc cells slots lv (.int (iZ b) :: .int (iZ a) :: st) μ ex := by
  intro H locs ls hP hS h
  have hR := K.1.2.2.2.2.2
  refine va_mmax K.1.1 K.1.2.1 (by rw [K.1.2.2.1]; exact h.1.symm) K.1.2.2.2.1 (K.1.2.2.2.2.1 _ hlink) (K.1.2.2.2.2.1 _ hstat) (K.1.2.2.2.2.1 _ hini) (K.1.2.2.2.2.1 _ hcode) (by rw [hR]; exact hf) (by rw [hR]; exact hl) (by rw [hR]; exact hcs.1) (by rw [hR]; exact hcs.2) hd ?_
  rw [iZ_max ha hb]
  exact kk H locs ls hP hS h
theorem iZ_min {a b : Int} (ha : -2147483648 ≤ a ∧ a ≤ 2147483647) (hb : -2147483648 ≤ b ∧ b ≤ 2147483647) : (if iZ b < iZ a then iZ b else iZ a) = iZ (min a b) := by
  by_cases h : b < a
  · rw [if_pos ((iZ_lt hb ha).mpr h)]; congr 1; omega
  · rw [if_neg (fun q => h ((iZ_lt hb ha).mp q))]; congr 1; omega
theorem v_mmin {a b : Int} {index : Nat} (ha : -2147483648 ≤ a ∧ a ≤ 2147483647) (hb : -2147483648 ≤ b ∧ b ≤ 2147483647) (K : vK X cc nL own Ts rm) (hlink : Cond.methodLink own index Lib.Math.min.name ∈ Ts) (hstat : Cond.static Lib.Math.min.name ∈ Ts) (hini : Cond.initialized "java/lang/Math" ∈ Ts) (hcode : Cond.code Lib.Math.min.name Lib.Math.min.code 2 (some .int) ∈ Ts) (hf : 1 ≤ rm.frames) (hl : (st.map fun v => v.category).sum + 13 ≤ rm.locals) (hcs : cells ≤ rm.cells ∧ slots ≤ rm.slots) (hd : decode cc pc = .ok (.invokestatic index, 3)) (kk : vY X nL (pc + 3) cells slots lv (.int (iZ (min a b)) :: st) μ ex) : vY X nL pc cells slots lv (.int (iZ b) :: .int (iZ a) :: st) μ ex := by
  intro H locs ls hP hS h
  have hR := K.1.2.2.2.2.2
  refine va_mmin K.1.1 K.1.2.1 (by rw [K.1.2.2.1]; exact h.1.symm) K.1.2.2.2.1 (K.1.2.2.2.2.1 _ hlink) (K.1.2.2.2.2.1 _ hstat) (K.1.2.2.2.2.1 _ hini) (K.1.2.2.2.2.1 _ hcode) (by rw [hR]; exact hf) (by rw [hR]; exact hl) (by rw [hR]; exact hcs.1) (by rw [hR]; exact hcs.2) hd ?_
  rw [iZ_min ha hb]
  exact kk H locs ls hP hS h
end VCa
