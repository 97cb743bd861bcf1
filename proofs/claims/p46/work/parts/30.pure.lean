/-! walks without a world: what is read is fixed -/
abbrev PC : Type := (Program × Launch × Env × Room) × (State × MethodId × Array Value × List Frame) × (Method × Code × (State → Prop))
def pK (X : PC) (cc : ByteArray) (nL : Nat) (own : String) (Ts : List Cond) (rm : Room) : Prop :=
  (X.1.1.tables.exec = Jvm.exec ∧ X.2.2.2.1.code = cc ∧ X.2.2.2.1.maxLocals = nL ∧ X.2.1.1.vm.findClass own = some X.2.1.2.1.cls ∧ (∀ w ∈ Ts, w.before X.2.1.2.2.1 X.2.1.1 = true) ∧ X.1.2.2.2 = rm) ∧ True
def pY (X : PC) (nL pc : Nat) (lv : List (Nat × Value)) (st : List Value) : Prop :=
  ∀ (H : Heap) (locs : List Loc) (ls : Array Slot), va_S (fun _ => False) X.2.1.1.heap H locs → lv_has ls nL lv →
    W X.1.1 X.1.2.1 X.1.2.2.1 X.1.2.2.2 X.2.1.1 X.2.1.2.1 X.2.1.2.2.1 X.2.1.2.2.2 X.2.2.1 X.2.2.2.1 H locs 0 0 X.2.2.2.2 (F0 X.2.1.2.1 pc ls st)
section VP
variable {X : PC} {cc : ByteArray} {nL : Nat} {own : String} {Ts : List Cond} {rm : Room} {pc : Nat} {lv lv' : List (Nat × Value)} {st : List Value} {off a b : Int}
theorem p_eq {lv1 : List (Nat × Value)} {st1 : List Value} (hl : lv = lv1) (hs : st = st1) (k : pY X nL pc lv1 st1) : pY X nL pc lv st := by
  subst hl; subst hs; exact k
theorem p_iconst {n : Int} (K : pK X cc nL own Ts rm) (hd : decode cc pc = .ok (.iconst n, 1)) (k : pY X nL (pc + 1) lv (.int (iZ n) :: st)) : pY X nL pc lv st :=
  fun H locs ls hS hl => lv_iconst K.1.1 K.1.2.1 hd rfl (k H locs ls hS hl)
theorem p_bipush {n : Int} (K : pK X cc nL own Ts rm) (hd : decode cc pc = .ok (.bipush n, 2)) (hn : (Int8.ofInt n).toInt32 = iZ n) (k : pY X nL (pc + 2) lv (.int (iZ n) :: st)) : pY X nL pc lv st :=
  fun H locs ls hS hl => lv_bipush K.1.1 K.1.2.1 hd hn (k H locs ls hS hl)
theorem p_sipush {n : Int} (K : pK X cc nL own Ts rm) (hd : decode cc pc = .ok (.sipush n, 3)) (hn : (Int16.ofInt n).toInt32 = iZ n) (k : pY X nL (pc + 3) lv (.int (iZ n) :: st)) : pY X nL pc lv st :=
  fun H locs ls hS hl => lv_sipush K.1.1 K.1.2.1 hd hn (k H locs ls hS hl)
theorem p_ldc {v : Int32} {n : Int} {index : Nat} (K : pK X cc nL own Ts rm) (hc : Cond.constant own index v ∈ Ts) (hd : decode cc pc = .ok (.ldc index, 2)) (hn : v = iZ n) (k : pY X nL (pc + 2) lv (.int (iZ n) :: st)) : pY X nL pc lv st :=
  fun H locs ls hS hl => lv_ldc (v := iZ n) K.1.1 K.1.2.1 K.1.2.2.2.1 (by rw [← hn]; exact K.1.2.2.2.2.1 _ hc) hd (k H locs ls hS hl)
theorem p_iload_n {k : Fin 4} {x : Int32} (i : Nat) (K : pK X cc nL own Ts rm) (hd : decode cc pc = .ok (.iload_n k, 1)) (hk : lv[i]? = some ((k : Nat), .int x)) (kk : pY X nL (pc + 1) lv (.int x :: st)) : pY X nL pc lv st :=
  fun H locs ls hS hl => lv_iload_n K.1.1 K.1.2.1 hd rfl (lv_at hl i hk) (kk H locs ls hS hl)
theorem p_aload_n {k : Fin 4} {x : Nat} (i : Nat) (K : pK X cc nL own Ts rm) (hd : decode cc pc = .ok (.aload_n k, 1)) (hk : lv[i]? = some ((k : Nat), .ref x)) (kk : pY X nL (pc + 1) lv (.ref x :: st)) : pY X nL pc lv st :=
  fun H locs ls hS hl => lv_aload_n K.1.1 K.1.2.1 hd rfl (lv_at hl i hk) (kk H locs ls hS hl)
theorem p_istore_n {k : Fin 4} {x : Int32} (lv' : List (Nat × Value)) (K : pK X cc nL own Ts rm) (hd : decode cc pc = .ok (.istore_n k, 1)) (hn : (k : Nat) < nL) (hl : ((k : Nat), Value.int x) :: lv.filter (fun q => !(q.1 == (k : Nat)) && !(q.1 + 1 == (k : Nat) && q.2.category == 2)) = lv') (kk : pY X nL (pc + 1) lv' st) : pY X nL pc lv (.int x :: st) :=
  fun H locs ls hS h => lv_istore_n K.1.1 K.1.2.1 hd rfl h hn hl (fun ls h => kk H locs ls hS h)
theorem p_pop {v : Value} (hv : v.category = 1) (K : pK X cc nL own Ts rm) (hd : decode cc pc = .ok (.pop, 1)) (kk : pY X nL (pc + 1) lv st) : pY X nL pc lv (v :: st) :=
  fun H locs ls hS h => lv_pop K.1.1 K.1.2.1 hd hv (kk H locs ls hS h)
theorem p_goto {off : Int} (tgt : Nat) (K : pK X cc nL own Ts rm) (hd : decode cc pc = .ok (.goto off, 3)) (ht : (pc : Int) + off = (tgt : Int)) (kk : pY X nL tgt lv st) : pY X nL pc lv st :=
  fun H locs ls hS h => lv_goto K.1.1 K.1.2.1 hd ht (kk H locs ls hS h)
theorem p_icmp_ge (tgt : Nat) (K : pK X cc nL own Ts rm) (hd : decode cc pc = .ok (.if_icmp .ge off, 3)) (ht : (pc : Int) + off = (tgt : Int)) (ha : -2147483648 ≤ a ∧ a ≤ 2147483647) (hb : -2147483648 ≤ b ∧ b ≤ 2147483647) (kt : b ≤ a → pY X nL tgt lv st) (kf : a < b → pY X nL (pc + 3) lv st) : pY X nL pc lv (.int (iZ b) :: .int (iZ a) :: st) :=
  fun H locs ls hS h => lv_icmp_ge K.1.1 K.1.2.1 hd ht (fun q => kt ((iZ_le hb ha).mp q) H locs ls hS h) (fun q => kf (Int.not_le.mp (fun z => q ((iZ_le hb ha).mpr z))) H locs ls hS h)
theorem p_icmp_lt (tgt : Nat) (K : pK X cc nL own Ts rm) (hd : decode cc pc = .ok (.if_icmp .lt off, 3)) (ht : (pc : Int) + off = (tgt : Int)) (ha : -2147483648 ≤ a ∧ a ≤ 2147483647) (hb : -2147483648 ≤ b ∧ b ≤ 2147483647) (kt : a < b → pY X nL tgt lv st) (kf : b ≤ a → pY X nL (pc + 3) lv st) : pY X nL pc lv (.int (iZ b) :: .int (iZ a) :: st) :=
  fun H locs ls hS h => lv_icmp_lt K.1.1 K.1.2.1 hd ht (fun q => kt ((iZ_lt ha hb).mp q) H locs ls hS h) (fun q => kf (Int.not_lt.mp (fun z => q ((iZ_lt ha hb).mpr z))) H locs ls hS h)
theorem p_if_eq (tgt : Nat) (K : pK X cc nL own Ts rm) (hd : decode cc pc = .ok (.ifCond .eq off, 3)) (ht : (pc : Int) + off = (tgt : Int)) (ha : -2147483648 ≤ a ∧ a ≤ 2147483647) (kt : a = 0 → pY X nL tgt lv st) (kf : a ≠ 0 → pY X nL (pc + 3) lv st) : pY X nL pc lv (.int (iZ a) :: st) :=
  fun H locs ls hS h => lv_if_eq K.1.1 K.1.2.1 hd ht (fun q => kt ((iZ_inj (b := 0) ha (by omega)).mp q) H locs ls hS h) (fun q => kf (fun z => q ((iZ_inj (b := 0) ha (by omega)).mpr z)) H locs ls hS h)
theorem p_if_ne (tgt : Nat) (K : pK X cc nL own Ts rm) (hd : decode cc pc = .ok (.ifCond .ne off, 3)) (ht : (pc : Int) + off = (tgt : Int)) (ha : -2147483648 ≤ a ∧ a ≤ 2147483647) (kt : a ≠ 0 → pY X nL tgt lv st) (kf : a = 0 → pY X nL (pc + 3) lv st) : pY X nL pc lv (.int (iZ a) :: st) :=
  fun H locs ls hS h => lv_if_ne K.1.1 K.1.2.1 hd ht (fun q => kt (fun z => q ((iZ_inj (b := 0) ha (by omega)).mpr z)) H locs ls hS h) (fun q => kf ((iZ_inj (b := 0) ha (by omega)).mp q) H locs ls hS h)
theorem p_if_lt (tgt : Nat) (K : pK X cc nL own Ts rm) (hd : decode cc pc = .ok (.ifCond .lt off, 3)) (ht : (pc : Int) + off = (tgt : Int)) (ha : -2147483648 ≤ a ∧ a ≤ 2147483647) (kt : a < 0 → pY X nL tgt lv st) (kf : 0 ≤ a → pY X nL (pc + 3) lv st) : pY X nL pc lv (.int (iZ a) :: st) :=
  fun H locs ls hS h => lv_if_lt K.1.1 K.1.2.1 hd ht (fun q => kt ((iZ_lt (b := 0) ha (by omega)).mp q) H locs ls hS h) (fun q => kf (Int.not_lt.mp (fun z => q ((iZ_lt (b := 0) ha (by omega)).mpr z))) H locs ls hS h)
theorem p_irem {x y : Int} (hx : 0 ≤ x ∧ x ≤ 2147483647) (hy : 0 < y ∧ y ≤ 2147483647) (K : pK X cc nL own Ts rm) (hd : decode cc pc = .ok (.irem, 1)) (kk : pY X nL (pc + 1) lv (.int (iZ (x % y)) :: st)) : pY X nL pc lv (.int (iZ y) :: .int (iZ x) :: st) :=
  fun H locs ls hS h => lv_irem K.1.1 K.1.2.1 hd (iZ_ne0 (by omega) (by omega)) (by rw [iZ_rem hx hy]; exact kk H locs ls hS h)
theorem p_riadd {a b : Int32} (K : pK X cc nL own Ts rm) (hd : decode cc pc = .ok (.iadd, 1)) (kk : pY X nL (pc + 1) lv (.int (a + b) :: st)) : pY X nL pc lv (.int b :: .int a :: st) :=
  fun H locs ls hS h => lv_iadd K.1.1 K.1.2.1 hd (kk H locs ls hS h)
theorem p_rimul {a b : Int32} (K : pK X cc nL own Ts rm) (hd : decode cc pc = .ok (.imul, 1)) (kk : pY X nL (pc + 1) lv (.int (a * b) :: st)) : pY X nL pc lv (.int b :: .int a :: st) :=
  fun H locs ls hS h => lv_imul K.1.1 K.1.2.1 hd (kk H locs ls hS h)
theorem p_rixor {a b : Int32} (K : pK X cc nL own Ts rm) (hd : decode cc pc = .ok (.ixor, 1)) (kk : pY X nL (pc + 1) lv (.int (a ^^^ b) :: st)) : pY X nL pc lv (.int b :: .int a :: st) :=
  fun H locs ls hS h => lv_ixor K.1.1 K.1.2.1 hd (kk H locs ls hS h)
theorem p_riand {a b : Int32} (K : pK X cc nL own Ts rm) (hd : decode cc pc = .ok (.iand, 1)) (kk : pY X nL (pc + 1) lv (.int (a &&& b) :: st)) : pY X nL pc lv (.int b :: .int a :: st) :=
  fun H locs ls hS h => lv_iand K.1.1 K.1.2.1 hd (kk H locs ls hS h)
theorem p_riushr {a b : Int32} (K : pK X cc nL own Ts rm) (hd : decode cc pc = .ok (.iushr, 1)) (kk : pY X nL (pc + 1) lv (.int (a.toUInt32 >>> (b.toUInt32 &&& Int32.toUInt32 31)).toInt32 :: st)) : pY X nL pc lv (.int b :: .int a :: st) :=
  fun H locs ls hS h => lv_iushr K.1.1 K.1.2.1 hd rfl (kk H locs ls hS h)
theorem dL_cell_15 : decode cL_cell 15 = .ok (.sipush 1009, 3) := by decide +kernel
theorem dL_cell_18 : decode cL_cell 18 = .ok (.iload_n 1, 1) := by decide +kernel
theorem dL_cell_19 : decode cL_cell 19 = .ok (.imul, 1) := by decide +kernel
theorem dL_cell_20 : decode cL_cell 20 = .ok (.iadd, 1) := by decide +kernel
theorem dL_cell_21 : decode cL_cell 21 = .ok (.imul, 1) := by decide +kernel
theorem dL_cell_22 : decode cL_cell 22 = .ok (.sipush 12345, 3) := by decide +kernel
theorem dL_cell_25 : decode cL_cell 25 = .ok (.iadd, 1) := by decide +kernel
theorem dL_cell_26 : decode cL_cell 26 = .ok (.istore_n 2, 1) := by decide +kernel
theorem dL_cell_27 : decode cL_cell 27 = .ok (.iload_n 2, 1) := by decide +kernel
theorem dL_cell_28 : decode cL_cell 28 = .ok (.iload_n 2, 1) := by decide +kernel
theorem dL_cell_29 : decode cL_cell 29 = .ok (.bipush 13, 2) := by decide +kernel
theorem dL_cell_31 : decode cL_cell 31 = .ok (.iushr, 1) := by decide +kernel
theorem dL_cell_32 : decode cL_cell 32 = .ok (.ixor, 1) := by decide +kernel
theorem dL_cell_33 : decode cL_cell 33 = .ok (.ldc 8, 2) := by decide +kernel
theorem dL_cell_35 : decode cL_cell 35 = .ok (.imul, 1) := by decide +kernel
theorem dL_cell_36 : decode cL_cell 36 = .ok (.istore_n 2, 1) := by decide +kernel
theorem dL_cell_37 : decode cL_cell 37 = .ok (.iload_n 2, 1) := by decide +kernel
theorem dL_cell_38 : decode cL_cell 38 = .ok (.iload_n 2, 1) := by decide +kernel
theorem dL_cell_39 : decode cL_cell 39 = .ok (.bipush 16, 2) := by decide +kernel
theorem dL_cell_41 : decode cL_cell 41 = .ok (.iushr, 1) := by decide +kernel
theorem dL_cell_42 : decode cL_cell 42 = .ok (.ixor, 1) := by decide +kernel
theorem dL_cell_43 : decode cL_cell 43 = .ok (.ireturn, 1) := by decide +kernel
theorem dL_cell_0 : decode cL_cell 0 = .ok (.ldc 7, 2) := by decide +kernel
theorem dL_cell_2 : decode cL_cell 2 = .ok (.iload_n 1, 1) := by decide +kernel
theorem dL_cell_3 : decode cL_cell 3 = .ok (.aload_n 0, 1) := by decide +kernel
theorem dL_cell_4 : decode cL_cell 4 = .ok (.arraylength, 1) := by decide +kernel
theorem dL_cell_5 : decode cL_cell 5 = .ok (.if_icmp .ge 9, 3) := by decide +kernel
theorem dL_cell_14 : decode cL_cell 14 = .ok (.iconst 0, 1) := by decide +kernel
theorem dL_cell_8 : decode cL_cell 8 = .ok (.aload_n 0, 1) := by decide +kernel
theorem dL_cell_9 : decode cL_cell 9 = .ok (.iload_n 1, 1) := by decide +kernel
theorem dL_cell_10 : decode cL_cell 10 = .ok (.iaload, 1) := by decide +kernel
theorem dL_cell_11 : decode cL_cell 11 = .ok (.goto 4, 3) := by decide +kernel
theorem dL_in_0 : decode cL_in 0 = .ok (.aload_n 0, 1) := by decide +kernel
theorem dL_in_1 : decode cL_in 1 = .ok (.iload_n 1, 1) := by decide +kernel
theorem dL_in_2 : decode cL_in 2 = .ok (.invokestatic 87, 3) := by decide +kernel
theorem dL_in_5 : decode cL_in 5 = .ok (.ldc 93, 2) := by decide +kernel
theorem dL_in_7 : decode cL_in 7 = .ok (.iand, 1) := by decide +kernel
theorem dL_in_8 : decode cL_in 8 = .ok (.iload_n 2, 1) := by decide +kernel
theorem dL_in_9 : decode cL_in 9 = .ok (.irem, 1) := by decide +kernel
theorem dL_in_10 : decode cL_in 10 = .ok (.ireturn, 1) := by decide +kernel
theorem dJ3_checkIndex_8e157_0 : decode cJ3_checkIndex_8e157 0 = .ok (.iload_n 0, 1) := by decide +kernel
theorem dJ3_checkIndex_8e157_1 : decode cJ3_checkIndex_8e157 1 = .ok (.ifCond .lt 8, 3) := by decide +kernel
theorem dJ3_checkIndex_8e157_4 : decode cJ3_checkIndex_8e157 4 = .ok (.iload_n 0, 1) := by decide +kernel
theorem dJ3_checkIndex_8e157_5 : decode cJ3_checkIndex_8e157 5 = .ok (.iload_n 1, 1) := by decide +kernel
theorem dJ3_checkIndex_8e157_6 : decode cJ3_checkIndex_8e157 6 = .ok (.if_icmp .lt 10, 3) := by decide +kernel
theorem dJ3_checkIndex_8e157_16 : decode cJ3_checkIndex_8e157 16 = .ok (.iload_n 0, 1) := by decide +kernel
theorem dJ3_checkIndex_8e157_17 : decode cJ3_checkIndex_8e157 17 = .ok (.ireturn, 1) := by decide +kernel
theorem dJ0_checkIndex_df160_0 : decode cJ0_checkIndex_df160 0 = .ok (.iload_n 0, 1) := by decide +kernel
theorem dJ0_checkIndex_df160_1 : decode cJ0_checkIndex_df160 1 = .ok (.iload_n 1, 1) := by decide +kernel
theorem dJ0_checkIndex_df160_5 : decode cJ0_checkIndex_df160 5 = .ok (.invokestatic 1059, 3) := by decide +kernel
theorem dJ0_checkIndex_df160_8 : decode cJ0_checkIndex_df160 8 = .ok (.pop, 1) := by decide +kernel
theorem dJ0_checkIndex_df160_9 : decode cJ0_checkIndex_df160 9 = .ok (.return_, 1) := by decide +kernel
theorem dJ0_checkIndex_df160_2 : decode cJ0_checkIndex_df160 2 = .ok (.getstatic 1053, 3) := by decide +kernel
theorem dJ1_charAt_3b067_0 : decode cJ1_charAt_3b067 0 = .ok (.iload_n 1, 1) := by decide +kernel
theorem dJ1_charAt_3b067_1 : decode cJ1_charAt_3b067 1 = .ok (.aload_n 0, 1) := by decide +kernel
theorem dJ1_charAt_3b067_3 : decode cJ1_charAt_3b067 3 = .ok (.invokestatic 9, 3) := by decide +kernel
theorem dJ1_charAt_3b067_6 : decode cJ1_charAt_3b067 6 = .ok (.aload_n 0, 1) := by decide +kernel
theorem dJ1_charAt_3b067_7 : decode cJ1_charAt_3b067 7 = .ok (.iload_n 1, 1) := by decide +kernel
theorem dJ1_charAt_3b067_9 : decode cJ1_charAt_3b067 9 = .ok (.sipush 255, 3) := by decide +kernel
theorem dJ1_charAt_3b067_12 : decode cJ1_charAt_3b067 12 = .ok (.iand, 1) := by decide +kernel
theorem dJ1_charAt_3b067_13 : decode cJ1_charAt_3b067 13 = .ok (.i2c, 1) := by decide +kernel
theorem dJ1_charAt_3b067_14 : decode cJ1_charAt_3b067 14 = .ok (.ireturn, 1) := by decide +kernel
theorem dJ1_charAt_3b067_8 : decode cJ1_charAt_3b067 8 = .ok (.baload, 1) := by decide +kernel
theorem dJ1_charAt_3b067_2 : decode cJ1_charAt_3b067 2 = .ok (.arraylength, 1) := by decide +kernel
theorem dJ0_isLatin1_aae02_10 : decode cJ0_isLatin1_aae02 10 = .ok (.ifCond .ne 7, 3) := by decide +kernel
theorem dJ0_isLatin1_aae02_13 : decode cJ0_isLatin1_aae02 13 = .ok (.iconst 1, 1) := by decide +kernel
theorem dJ0_isLatin1_aae02_14 : decode cJ0_isLatin1_aae02 14 = .ok (.goto 4, 3) := by decide +kernel
theorem dJ0_isLatin1_aae02_18 : decode cJ0_isLatin1_aae02 18 = .ok (.ireturn, 1) := by decide +kernel
theorem dJ0_isLatin1_aae02_3 : decode cJ0_isLatin1_aae02 3 = .ok (.ifCond .eq 14, 3) := by decide +kernel
theorem dJ0_isLatin1_aae02_6 : decode cJ0_isLatin1_aae02 6 = .ok (.aload_n 0, 1) := by decide +kernel
theorem dJ0_isLatin1_aae02_7 : decode cJ0_isLatin1_aae02 7 = .ok (.getfield 15, 3) := by decide +kernel
theorem dJ0_isLatin1_aae02_0 : decode cJ0_isLatin1_aae02 0 = .ok (.getstatic 38, 3) := by decide +kernel
theorem dJ0_charAt_5068e_0 : decode cJ0_charAt_5068e 0 = .ok (.aload_n 0, 1) := by decide +kernel
theorem dJ0_charAt_5068e_1 : decode cJ0_charAt_5068e 1 = .ok (.invokevirtual 492, 3) := by decide +kernel
theorem dJ0_charAt_5068e_4 : decode cJ0_charAt_5068e 4 = .ok (.ifCond .eq 12, 3) := by decide +kernel
theorem dJ0_charAt_5068e_7 : decode cJ0_charAt_5068e 7 = .ok (.aload_n 0, 1) := by decide +kernel
theorem dJ0_charAt_5068e_11 : decode cJ0_charAt_5068e 11 = .ok (.iload_n 1, 1) := by decide +kernel
theorem dJ0_charAt_5068e_12 : decode cJ0_charAt_5068e 12 = .ok (.invokestatic 495, 3) := by decide +kernel
theorem dJ0_charAt_5068e_15 : decode cJ0_charAt_5068e 15 = .ok (.ireturn, 1) := by decide +kernel
theorem dJ0_charAt_5068e_8 : decode cJ0_charAt_5068e 8 = .ok (.getfield 9, 3) := by decide +kernel
set_option maxRecDepth 20000 in
theorem ggL_in_L_cell : GoodIn wsL_in wsL_cell := goodIn_ca (goodIn_r _ [5, 6, 7] (by decide +kernel) (by decide +kernel)) (goodIn_sub (fun _ h => List.mem_cons_of_mem _ (List.mem_append_right _ h)) (by decide +kernel))
set_option maxRecDepth 20000 in
theorem gL_in_L_cell : GoodIn wsL_in (va_wsS RL 87 yL_cell wsL_cell) := goodIn_app (goodIn_of _ (by decide +kernel)) ggL_in_L_cell
set_option maxRecDepth 20000 in
theorem ggJ0_charAt_5068e_J0_isLatin1_aae02 : GoodIn wsJ0_charAt_5068e wsJ0_isLatin1_aae02 := goodIn_r _ [6, 7, 8, 38, 39] (by decide +kernel) (by decide +kernel)
set_option maxRecDepth 20000 in
theorem gJ0_charAt_5068e_J0_isLatin1_aae02 : GoodIn wsJ0_charAt_5068e (wsV RJ0 492 RJ0 yJ0_isLatin1_aae02 wsJ0_isLatin1_aae02) := goodIn_app (goodIn_of _ (by decide +kernel)) ggJ0_charAt_5068e_J0_isLatin1_aae02
set_option maxRecDepth 20000 in
theorem ggJ0_charAt_5068e_J1_charAt_3b067 : GoodIn wsJ0_charAt_5068e wsJ1_charAt_3b067 := goodIn_r _ [12, 13, 14, 5, 15, 16, 17, 18, 19, 20] (by decide +kernel) (by decide +kernel)
set_option maxRecDepth 20000 in
theorem gJ0_charAt_5068e_J1_charAt_3b067 : GoodIn wsJ0_charAt_5068e (va_wsS RJ0 495 yJ1_charAt_3b067 wsJ1_charAt_3b067) := goodIn_app (goodIn_of _ (by decide +kernel)) ggJ0_charAt_5068e_J1_charAt_3b067
set_option maxRecDepth 20000 in
theorem ggJ1_charAt_3b067_J0_checkIndex_df160 : GoodIn wsJ1_charAt_3b067 wsJ0_checkIndex_df160 := goodIn_r _ [4, 5, 6, 7, 8, 9] (by decide +kernel) (by decide +kernel)
set_option maxRecDepth 20000 in
theorem gJ1_charAt_3b067_J0_checkIndex_df160 : GoodIn wsJ1_charAt_3b067 (va_wsS RJ1 9 yJ0_checkIndex_df160 wsJ0_checkIndex_df160) := goodIn_app (goodIn_of _ (by decide +kernel)) ggJ1_charAt_3b067_J0_checkIndex_df160
set_option maxRecDepth 20000 in
theorem ggJ0_checkIndex_df160_J3_checkIndex_8e157 : GoodIn wsJ0_checkIndex_df160 wsJ3_checkIndex_8e157 := goodIn_r _ [5] (by decide +kernel) (by decide +kernel)
set_option maxRecDepth 20000 in
theorem gJ0_checkIndex_df160_J3_checkIndex_8e157 : GoodIn wsJ0_checkIndex_df160 (va_wsS RJ0 1059 yJ3_checkIndex_8e157 wsJ3_checkIndex_8e157) := goodIn_app (goodIn_of _ (by decide +kernel)) ggJ0_checkIndex_df160_J3_checkIndex_8e157
/-- a number of the script -/
theorem p_slen {t L : Nat} {xs : Nat → Int32} (hX : va_X t L xs X.2.1.1 X.2.1.1.heap) (hbl : t < X.2.1.1.heap.size) (K : pK X cc nL own Ts rm) (hd : decode cc pc = .ok (.arraylength, 1)) (kk : pY X nL (pc + 1) lv (.int (iZ (L : Int)) :: st)) : pY X nL pc lv (.ref t :: st) :=
  fun H locs ls hS h => va_slen K.1.1 K.1.2.1 hX hbl (fun z => z) hS hd (by rw [iZ_nat] at kk; exact kk H locs ls hS h)
theorem p_sld {t L : Nat} {i : Int} {xs : Nat → Int32} (hX : va_X t L xs X.2.1.1 X.2.1.1.heap) (hbl : t < X.2.1.1.heap.size) (hi : 0 ≤ i ∧ i < (L : Int)) (hL : L ≤ 260) (K : pK X cc nL own Ts rm) (hd : decode cc pc = .ok (.iaload, 1)) (kk : pY X nL (pc + 1) lv (.int (xs i.toNat) :: st)) : pY X nL pc lv (.int (iZ i) :: .ref t :: st) := fun H locs ls hS h => by
  obtain ⟨k, rfl⟩ := nat_of hi.1
  refine va_sld K.1.1 K.1.2.1 hX hbl (fun z => z) hS (iZ_in rfl (by omega) (by omega)) hd ?_
  rw [iZ_clamp (by omega)]
  exact kk H locs ls hS h
/-- contracts of methods that change nothing -/
def kN (F : Int) : Array Value → State → Outcome → State → Prop := va_Qi (fun (r : Int32) (_ : Unit) => r = iZ F) (fun _ _ => True) (fun _ => False)
def kNv : Array Value → State → Outcome → State → Prop := va_Qv (fun (_ : Unit) => True) (fun _ _ => True) (fun _ => False)
def cN (l : Launch) (y : MethodName) (ws : List Cond) (rm : Room) (av : List Value) (J : State → Prop) (F : Int) : Prop := Met l y ws rm (va_Pc av J) (kN F) 0 0 (fun _ => False)
def cNv (l : Launch) (y : MethodName) (ws : List Cond) (rm : Room) (av : List Value) (J : State → Prop) : Prop := Met l y ws rm (va_Pc av J) kNv 0 0 (fun _ => False)
end VP
theorem m_pure {l : Launch} {y : MethodName} {ws ws' : List Cond} {rm : Room} {cc : ByteArray} {nL : Nat} {own : String} {av : List Value} {J : State → Prop} {F : Int} {ty : FieldType} (hy : plainName y.cls = true) (hws : ws = Cond.code y cc nL (some ty) :: ws') (hown : y.cls = own) (hlen : (lg_sl av).length ≤ nL) (hn : narrow ty (.int (iZ F)) = .int (iZ F))
    (body : ∀ X : PC, pK X cc nL own ws rm → J X.2.1.1 → (∀ n pc lv, decode cc pc = .ok (.ireturn, 1) → pY X n pc lv [.int (iZ F)]) → pY X nL 0 (lv_args 0 av) []) : cN l y ws rm av J F := by
  refine Met.ofW (cc := cc) (maxL := nL) (ret := some ty) hy hws ?_
  intro p e s m args below meth c s₁ B hml hv
  obtain ⟨rfl, hJ⟩ := hv
  have hl2 := lv_entry av (n := nL) hlen
  rw [lg_entry_eq]
  generalize (lg_sl av ++ List.replicate (nL - (lg_sl av).length) Slot.unset).toArray = ls at hl2 ⊢
  have K : pK ((p, l, e, rm), (s, m, av.toArray, below), (meth, c, MQ below (kN F) av.toArray s 0 0 (fun _ => False))) cc nL own ws rm := ⟨⟨B.exec, B.bytes, hml, by rw [← hown]; exact findClass_of_methodNamed B.named, atoms_spec (ws := ws) B.pre, rfl⟩, trivial⟩
  refine body _ K hJ ?_ s.heap [] ls va_S.rf hl2
  intro n pc lv hd H locs ls hS h
  show W p l e rm s m av.toArray below meth c H locs 0 0 (MQ below (kN F) av.toArray s 0 0 (fun _ => False)) (F0 m pc ls [.int (iZ F)])
  exact W.widen (Nat.le_refl 0) (Nat.le_refl 0) (W.zret (v := iZ F) B.exec B.bytes B.returns hn (fun t ht hW => ⟨⟨iZ F, (), rfl, rfl, trivial⟩, hS.F ht⟩) hS.2.2 hd B.notSynchronized)
theorem m_pureV {l : Launch} {y : MethodName} {ws ws' : List Cond} {rm : Room} {cc : ByteArray} {nL : Nat} {own : String} {av : List Value} {J : State → Prop} (hy : plainName y.cls = true) (hws : ws = Cond.code y cc nL none :: ws') (hown : y.cls = own) (hlen : (lg_sl av).length ≤ nL)
    (body : ∀ X : PC, pK X cc nL own ws rm → J X.2.1.1 → (∀ n pc lv, decode cc pc = .ok (.return_, 1) → pY X n pc lv []) → pY X nL 0 (lv_args 0 av) []) : cNv l y ws rm av J := by
  refine Met.ofW (cc := cc) (maxL := nL) (ret := none) hy hws ?_
  intro p e s m args below meth c s₁ B hml hv
  obtain ⟨rfl, hJ⟩ := hv
  have hl2 := lv_entry av (n := nL) hlen
  rw [lg_entry_eq]
  generalize (lg_sl av ++ List.replicate (nL - (lg_sl av).length) Slot.unset).toArray = ls at hl2 ⊢
  have K : pK ((p, l, e, rm), (s, m, av.toArray, below), (meth, c, MQ below kNv av.toArray s 0 0 (fun _ => False))) cc nL own ws rm := ⟨⟨B.exec, B.bytes, hml, by rw [← hown]; exact findClass_of_methodNamed B.named, atoms_spec (ws := ws) B.pre, rfl⟩, trivial⟩
  refine body _ K hJ ?_ s.heap [] ls va_S.rf hl2
  intro n pc lv hd H locs ls hS h
  show W p l e rm s m av.toArray below meth c H locs 0 0 (MQ below kNv av.toArray s 0 0 (fun _ => False)) (F0 m pc ls [])
  exact W.widen (Nat.le_refl 0) (Nat.le_refl 0) (W.vret B.exec B.bytes B.returns (fun t ht hW => ⟨⟨(), rfl, trivial, trivial⟩, hS.F ht⟩) hS.2.2 hd B.notSynchronized)
/-- a predicate on states that asks nothing of the frames -/
def fbJ (J : State → Prop) : Prop := ∀ (a : Array Value) (U : State) (g : JFrame) (mk : MethodId), J U → J (U.calling g mk a)
section VP2
variable {X : PC} {cc bytes : ByteArray} {nL maxL index : Nat} {own : String} {Ts ws ws' : List Cond} {rm rm2 : Room} {pc : Nat} {lv lv' : List (Nat × Value)} {st rest As : List Value} {y : MethodName} {J : State → Prop} {ret : Option FieldType} {F : Int}
theorem p_callS (K : pK X cc nL own Ts rm) (n : Nat) (hM : cN X.1.2.1 y ws rm2 As J F) (hJ : ∀ (H : Heap) (locs : List Loc), va_S (fun _ => False) X.2.1.1.heap H locs → ∀ U : State, U.heap = H → X.2.1.1.WarmedH U.vm → J U) (hfb : fbJ J) (hG : GoodIn Ts (va_wsS own index y ws)) (hw : ws = Cond.code y bytes maxL ret :: ws') (hrc : rm2.cells = 0) (hrs : rm2.slots = 0) (hdd : y.cls ≠ "java/lang/invoke/MethodHandle" ∧ y.cls ≠ "java/lang/invoke/VarHandle" ∧ (parseMethodDescriptor y.desc).map (fun d => d.parameters.length) = some n) (hR : rm2.frames + 1 ≤ rm.frames ∧ 8 + (maxL + 11) + rm2.locals ≤ rm.locals) (hn : As.length = n) (hst : st = As.reverse ++ rest) (hcat : (rest.map fun v => v.category).sum ≤ 8) (hd : decode cc pc = .ok (.invokestatic index, 3))
    (kk : pY X nL (pc + 3) lv (.int (iZ F) :: rest)) : pY X nL pc lv st := by
  intro H locs ls hS h
  have hR' : rm2.frames + 1 ≤ X.1.2.2.2.frames ∧ 8 + (maxL + 11) + rm2.locals ≤ X.1.2.2.2.locals := by rw [K.1.2.2.2.2.2]; exact hR
  refine va_calli (va_runS (As := As) (rest := rest) ⟨K.1.1, K.1.2.1, K.1.2.2.1, K.1.2.2.2.1, K.1.2.2.2.2.1⟩ hM (va_cwS n K.1.2.2.2.2.1 hG hw hrc hrs hdd hR') ⟨fun a U g mk q => ⟨q.1, hfb a U g mk q.2⟩, fun U hU hW => ⟨rfl, hJ H locs hS U hU hW⟩⟩ rfl hn h.1 hst (lv_room hcat) hd ⟨Nat.zero_le _, Nat.zero_le _⟩) hS (fun q _ q2 => q2.elim) (fun q q2 => q2.elim) (fun r u t H1 locs1 ht hvm hw hB hz1 hk1 hS1 => ?_)
  rw [hw]
  exact kk H1 locs1 ls hS1 h
theorem p_callSv (K : pK X cc nL own Ts rm) (n : Nat) (hM : cNv X.1.2.1 y ws rm2 As J) (hJ : ∀ (H : Heap) (locs : List Loc), va_S (fun _ => False) X.2.1.1.heap H locs → ∀ U : State, U.heap = H → X.2.1.1.WarmedH U.vm → J U) (hfb : fbJ J) (hG : GoodIn Ts (va_wsS own index y ws)) (hw : ws = Cond.code y bytes maxL ret :: ws') (hrc : rm2.cells = 0) (hrs : rm2.slots = 0) (hdd : y.cls ≠ "java/lang/invoke/MethodHandle" ∧ y.cls ≠ "java/lang/invoke/VarHandle" ∧ (parseMethodDescriptor y.desc).map (fun d => d.parameters.length) = some n) (hR : rm2.frames + 1 ≤ rm.frames ∧ 8 + (maxL + 11) + rm2.locals ≤ rm.locals) (hn : As.length = n) (hst : st = As.reverse ++ rest) (hcat : (rest.map fun v => v.category).sum ≤ 8) (hd : decode cc pc = .ok (.invokestatic index, 3))
    (kk : pY X nL (pc + 3) lv rest) : pY X nL pc lv st := by
  intro H locs ls hS h
  have hR' : rm2.frames + 1 ≤ X.1.2.2.2.frames ∧ 8 + (maxL + 11) + rm2.locals ≤ X.1.2.2.2.locals := by rw [K.1.2.2.2.2.2]; exact hR
  refine va_callv (va_runS (As := As) (rest := rest) ⟨K.1.1, K.1.2.1, K.1.2.2.1, K.1.2.2.2.1, K.1.2.2.2.2.1⟩ hM (va_cwS n K.1.2.2.2.2.1 hG hw hrc hrs hdd hR') ⟨fun a U g mk q => ⟨q.1, hfb a U g mk q.2⟩, fun U hU hW => ⟨rfl, hJ H locs hS U hU hW⟩⟩ rfl hn h.1 hst (lv_room hcat) hd ⟨Nat.zero_le _, Nat.zero_le _⟩) hS (fun q _ q2 => q2.elim) (fun q q2 => q2.elim) (fun u t H1 locs1 ht hvm hw hB hz1 hk1 hS1 => ?_)
  exact kk H1 locs1 ls hS1 h
theorem p_callV {a : Nat} (K : pK X cc nL own Ts rm) (n : Nat) (hO : va_O y.cls a (fun _ => False) X.2.1.1 X.2.1.1.heap) (hM : cN X.1.2.1 y ws rm2 (.ref a :: As) J F) (hJ : ∀ (H : Heap) (locs : List Loc), va_S (fun _ => False) X.2.1.1.heap H locs → ∀ U : State, U.heap = H → X.2.1.1.WarmedH U.vm → J U) (hfb : fbJ J) (hG : GoodIn Ts (wsV own index y.cls y ws)) (hw : ws = Cond.code y bytes maxL ret :: ws') (hrc : rm2.cells = 0) (hrs : rm2.slots = 0) (hdd : y.cls = y.cls ∧ y.cls ≠ "java/lang/invoke/MethodHandle" ∧ y.cls ≠ "java/lang/invoke/VarHandle" ∧ (parseMethodDescriptor y.desc).map (fun d => d.parameters.length) = some n) (hR : rm2.frames + 1 ≤ rm.frames ∧ 8 + (maxL + 11) + rm2.locals ≤ rm.locals) (hn : As.length = n) (hst : st = As.reverse ++ .ref a :: rest) (hcat : (rest.map fun v => v.category).sum ≤ 8) (hd : decode cc pc = .ok (.invokevirtual index, 3))
    (kk : pY X nL (pc + 3) lv (.int (iZ F) :: rest)) : pY X nL pc lv st := by
  intro H locs ls hS h
  have hR' : rm2.frames + 1 ≤ X.1.2.2.2.frames ∧ 8 + (maxL + 11) + rm2.locals ≤ X.1.2.2.2.locals := by rw [K.1.2.2.2.2.2]; exact hR
  obtain ⟨cell, q1, q2, q3, -⟩ := hO.kept hS.2.1
  refine va_calli (va_runV (As := As) (rest := rest) ⟨K.1.1, K.1.2.1, K.1.2.2.1, K.1.2.2.2.1, K.1.2.2.2.2.1⟩ hM (cwV n K.1.2.2.2.2.1 hG hw hrc hrs hdd hR') ⟨fun a U g mk q => ⟨q.1, hfb a U g mk q.2⟩, ⟨cell, q1, q2, q3⟩, fun U hU hW => ⟨rfl, hJ H locs hS U hU hW⟩⟩ rfl hn h.1 hst (lv_room hcat) hd ⟨Nat.zero_le _, Nat.zero_le _⟩) hS (fun q _ q2 => q2.elim) (fun q q2 => q2.elim) (fun r u t H1 locs1 ht hvm hw hB hz1 hk1 hS1 => ?_)
  rw [hw]
  exact kk H1 locs1 ls hS1 h
end VP2
/-- the string constants -/
def sJ (A : Nat → Prop) (U : State) (a v n : Nat) (f : Nat → Int32) : Prop := va_O "java/lang/String" a A U U.heap ∧ va_OF "java/lang/String" "coder" "B" (.int 0) a A U U.heap ∧ va_OF "java/lang/String" "value" "[B" (.ref v) a A U U.heap ∧ va_T .byte v n (fun j => .int (f j)) A U U.heap ∧ va_Z "java/lang/String" "COMPACT_STRINGS" "Z" (.int 1) A U U.heap ∧ va_Zq "jdk/internal/util/Preconditions" "SIOOBE_FORMATTER" "Ljava/util/function/BiFunction;" A U U.heap
theorem sJ.go9 {A B : Nat → Prop} {s U : State} {H : Heap} {locs : List Loc} {a v n : Nat} {f : Nat → Int32} (h : sJ A s a v n f) (hS : va_S A s.heap H locs) (hB : ∀ q, B q → A q) (hU : U.heap = H) (hW : s.WarmedH U.vm) : sJ B U a v n f := by
  obtain ⟨h1, h2, h3, h4, h5, h6⟩ := h
  unfold sJ
  rw [hU]
  exact ⟨va_O.moved hW.alike (va_O.narrow (h1.kept hS.2.1) hB), va_OF.moved hW.alike (va_OF.narrow (h2.kept hS.2.1) hB), va_OF.moved hW.alike (va_OF.narrow (h3.kept hS.2.1) hB), va_T.moved hW.alike (va_T.narrow (h4.kept hS.2.1) hB), va_Z.moved hW.alike (va_Z.narrow (va_Z.kept h5 hS.2.1) hB), va_Zq.moved hW.alike (va_Zq.narrow (va_Zq.kept h6 hS.2.1) hB)⟩
theorem sJ.fb9 {A : Nat → Prop} {a v n : Nat} {f : Nat → Int32} : fbJ (fun U => sJ A U a v n f) := fun g9 U g mk h => by
  obtain ⟨h1, h2, h3, h4, h5, h6⟩ := h
  have hal : U.vm.Alike (U.calling g mk g9).vm := Vm.Alike.refl U.vm
  exact ⟨va_O.moved hal h1, va_OF.moved hal h2, va_OF.moved hal h3, va_T.moved hal h4, va_Z.moved hal h5, va_Zq.moved hal h6⟩
/-- the script, and the constants -/
abbrev SX : Type := (Nat × Nat × (Nat → Int32)) × (Nat × Nat) × (Nat × Nat)
def f_clqs (j : Nat) : Int32 := if j = 0 then 99 else if j = 1 then 108 else if j = 2 then 113 else 115
def f_rgz (j : Nat) : Int32 := if j = 0 then 114 else if j = 1 then 103 else 122
def kdc (i : Int) : Int := if i = 0 then 99 else if i = 1 then 108 else if i = 2 then 113 else 115
def rgc (i : Int) : Int := if i = 0 then 114 else if i = 1 then 103 else 122
def lxJ (A : Nat → Prop) (U : State) (σ : SX) : Prop := (va_X σ.1.1 σ.1.2.1 σ.1.2.2 U U.heap ∧ σ.1.1 < U.heap.size ∧ ¬ A σ.1.1) ∧ σ.1.2.1 ≤ 260 ∧ sJ A U σ.2.1.1 σ.2.1.2 4 f_clqs ∧ sJ A U σ.2.2.1 σ.2.2.2 3 f_rgz ∧ vk_R RL 109 "clqs" σ.2.1.1 U ∧ vk_R RL 165 "rgz" σ.2.2.1 U
theorem lxJ.go9 {A B : Nat → Prop} {s U : State} {H : Heap} {locs : List Loc} {σ : SX} (h : lxJ A s σ) (hS : va_S A s.heap H locs) (hB : ∀ q, B q → A q) (hU : U.heap = H) (hW : s.WarmedH U.vm) : lxJ B U σ := by
  obtain ⟨⟨h1, h2, h3⟩, h4, h5, h6, h7, h8⟩ := h
  refine ⟨⟨?_, ?_, fun z => h3 (hB _ z)⟩, h4, h5.go9 hS hB hU hW, h6.go9 hS hB hU hW, vk_R.warm hW h7, vk_R.warm hW h8⟩
  · rw [hU]; exact va_X.moved hW.alike (va_X.kept h1 (hS.2.1 _ h2 h3))
  · rw [hU]; exact Nat.lt_of_lt_of_le h2 hS.1
theorem lxJ.fb9 {A : Nat → Prop} {σ : SX} : fbJ (fun U => lxJ A U σ) := fun g9 U g mk h => by
  obtain ⟨⟨h1, h2, h3⟩, h4, h5, h6, h7, h8⟩ := h
  have hal : U.vm.Alike (U.calling g mk g9).vm := Vm.Alike.refl U.vm
  exact ⟨⟨va_X.moved hal h1, h2, h3⟩, h4, sJ.fb9 g9 U g mk h5, sJ.fb9 g9 U g mk h6, vk_R.same (u := U) rfl h7, vk_R.same (u := U) rfl h8⟩
-- the script's cells
def cl1 (xs : Nat → Int32) (L : Nat) (i : Int) : Int32 := iZ 69069 * ((if i < (L : Int) then xs i.toNat else iZ 0) + iZ 1009 * iZ i) + iZ 12345
def cl2 (h : Int32) : Int32 := (h ^^^ us h (iZ 13)) * iZ 1103515245
def clV (xs : Nat → Int32) (L : Nat) (i : Int) : Int32 := cl2 (cl1 xs L i) ^^^ us (cl2 (cl1 xs L i)) (iZ 16)
def cleV (σ : SX) (i : Int) : Int := (clV σ.1.2.2 σ.1.2.1 i &&& iZ 2147483647).toInt
def inV (σ : SX) (i n : Int) : Int := cleV σ i % n
theorem and_max (x : Int32) : 0 ≤ (x &&& iZ 2147483647).toInt ∧ (x &&& iZ 2147483647).toInt ≤ 2147483647 := by
  have h : (x &&& iZ 2147483647).toInt = ((x.toBitVec.toNat % 2147483648 : Nat) : Int) := by
    rw [← Int32.toInt_toBitVec, Int32.toBitVec_and]
    have e : (iZ 2147483647).toBitVec = BitVec.ofNat 32 2147483647 := by decide
    rw [e]
    have h1 : (x.toBitVec &&& BitVec.ofNat 32 2147483647).toNat = x.toBitVec.toNat % 2147483648 := by
      rw [BitVec.toNat_and, BitVec.toNat_ofNat]
      exact Nat.and_two_pow_sub_one_eq_mod x.toBitVec.toNat 31
    rw [BitVec.toInt_eq_toNat_of_lt (by rw [h1]; omega), h1]
  rw [h]
  have := Nat.mod_lt x.toBitVec.toNat (show 2147483648 > 0 by omega)
  omega
theorem cle_rng (σ : SX) (i : Int) : 0 ≤ cleV σ i ∧ cleV σ i ≤ 2147483647 := and_max _
theorem in_rng (σ : SX) (i : Int) {n : Int} (hn : 0 < n) : 0 ≤ inV σ i n ∧ inV σ i n < n := ⟨Int.emod_nonneg _ (by omega), Int.emod_lt_of_pos _ hn⟩
theorem iZ_of9 (x : Int32) : iZ x.toInt = x := Int32.ofInt_toInt x
theorem c_cell (l : Launch) (σ : SX) (i : Int) (hi : 0 ≤ i ∧ i ≤ 1000) : cN l yL_cell wsL_cell ({ frames := 0, cells := 0, slots := 0, locals := 0 } : Room) [.ref σ.1.1, .int (iZ i)] (fun U => lxJ (fun _ => False) U σ) (clV σ.1.2.2 σ.1.2.1 i).toInt := by
  refine m_pure (own := RL) (cc := cL_cell) (nL := 3) (by decide) rfl rfl (Nat.le_of_ble_eq_true rfl) rfl (fun X K hJ hret => ?_)
  obtain ⟨⟨j1, j2, j3⟩, j4, -⟩ := hJ
  have tail : ∀ y : Int32, y = (if i < (σ.1.2.1 : Int) then σ.1.2.2 i.toNat else iZ 0) → pY X 3 15 [(0, .ref σ.1.1), (1, .int (iZ i))] [.int y, .int (iZ 69069)] := by
    intro y hy
    refine p_sipush K dL_cell_15 (by decide) ?_
    refine p_iload_n 1 K dL_cell_18 rfl ?_
    refine p_rimul K dL_cell_19 ?_
    refine p_riadd K dL_cell_20 ?_
    refine p_rimul K dL_cell_21 ?_
    refine p_sipush K dL_cell_22 (by decide) ?_
    refine p_riadd K dL_cell_25 ?_
    rw [show iZ 69069 * (y + iZ 1009 * iZ i) + iZ 12345 = cl1 σ.1.2.2 σ.1.2.1 i by rw [hy]; rfl]
    refine p_istore_n [(2, .int (cl1 σ.1.2.2 σ.1.2.1 i)), (0, .ref σ.1.1), (1, .int (iZ i))] K dL_cell_26 (by decide) rfl ?_
    refine p_iload_n 0 K dL_cell_27 rfl ?_
    refine p_iload_n 0 K dL_cell_28 rfl ?_
    refine p_bipush K dL_cell_29 (by decide) ?_
    refine p_riushr K dL_cell_31 ?_
    refine p_rixor K dL_cell_32 ?_
    refine p_ldc (v := 1103515245) (n := 1103515245) K (List.mem_cons_of_mem _ (List.mem_append_left _ (List.mem_of_getElem? (i := 1) rfl))) dL_cell_33 (by decide) ?_
    refine p_rimul K dL_cell_35 ?_
    refine p_istore_n [(2, .int (cl2 (cl1 σ.1.2.2 σ.1.2.1 i))), (0, .ref σ.1.1), (1, .int (iZ i))] K dL_cell_36 (by decide) rfl ?_
    refine p_iload_n 0 K dL_cell_37 rfl ?_
    refine p_iload_n 0 K dL_cell_38 rfl ?_
    refine p_bipush K dL_cell_39 (by decide) ?_
    refine p_riushr K dL_cell_41 ?_
    refine p_rixor K dL_cell_42 ?_
    refine p_eq (st1 := [.int (iZ (clV σ.1.2.2 σ.1.2.1 i).toInt)]) rfl (by rw [iZ_of9]; rfl) ?_
    exact hret _ _ _ dL_cell_43
  refine p_ldc (v := 69069) (n := 69069) K (List.mem_cons_of_mem _ (List.mem_append_left _ (List.mem_of_getElem? (i := 0) rfl))) dL_cell_0 (by decide) ?_
  refine p_iload_n 1 K dL_cell_2 rfl ?_
  refine p_aload_n 0 K dL_cell_3 rfl ?_
  refine p_slen j1 j2 K dL_cell_4 ?_
  refine p_icmp_ge 14 K dL_cell_5 (by decide) (by omega) (by omega) (fun c => ?_) (fun c => ?_)
  · refine p_iconst K dL_cell_14 ?_
    exact tail _ (by rw [if_neg (by omega)])
  · refine p_aload_n 0 K dL_cell_8 rfl ?_
    refine p_iload_n 1 K dL_cell_9 rfl ?_
    refine p_sld j1 j2 ⟨hi.1, c⟩ j4 K dL_cell_10 ?_
    refine p_goto 15 K dL_cell_11 (by decide) ?_
    exact tail _ (by rw [if_pos c])
theorem c_in (l : Launch) (σ : SX) (i n : Int) (hi : 0 ≤ i ∧ i ≤ 1000) (hn : 0 < n ∧ n ≤ 2147483647) : cN l yL_in wsL_in ({ frames := 1, cells := 0, slots := 0, locals := 22 } : Room) [.ref σ.1.1, .int (iZ i), .int (iZ n)] (fun U => lxJ (fun _ => False) U σ) (inV σ i n) := by
  refine m_pure (own := RL) (cc := cL_in) (nL := 3) (by decide) rfl rfl (Nat.le_of_ble_eq_true rfl) rfl (fun X K hJ hret => ?_)
  have hc := cle_rng σ i
  refine p_aload_n 0 K dL_in_0 rfl ?_
  refine p_iload_n 1 K dL_in_1 rfl ?_
  refine p_callS (As := [.ref σ.1.1, .int (iZ i)]) (rest := []) K 2 (c_cell X.1.2.1 σ i hi) (fun H locs hS U hU hW => hJ.go9 hS (fun q h => h) hU hW) lxJ.fb9 gL_in_L_cell rfl rfl rfl (by decide +kernel) ⟨(Nat.le_of_ble_eq_true rfl), (Nat.le_of_ble_eq_true rfl)⟩ rfl rfl (Nat.le_of_ble_eq_true rfl) dL_in_2 ?_
  refine p_ldc (v := 2147483647) (n := 2147483647) K (List.mem_cons_of_mem _ (List.mem_append_left _ (List.mem_of_getElem? (i := 0) rfl))) dL_in_5 (by decide) ?_
  refine p_riand K dL_in_7 ?_
  refine p_iload_n 2 K dL_in_8 rfl ?_
  refine p_eq (lv1 := [(0, .ref σ.1.1), (1, .int (iZ i)), (2, .int (iZ n))]) (st1 := [.int (iZ n), .int (iZ (cleV σ i))]) rfl (by unfold cleV; rw [iZ_of9, iZ_of9]) ?_
  refine p_irem hc hn K dL_in_9 ?_
  exact hret _ _ _ dL_in_10
-- the string's
theorem c_check3 (l : Launch) (i n : Int) (v : Value) (hv : v = .null ∨ ∃ t, v = .ref t) (hi : 0 ≤ i ∧ i < n) (hn : n ≤ 1000) : cN l yJ3_checkIndex_8e157 wsJ3_checkIndex_8e157 ({ frames := 0, cells := 0, slots := 0, locals := 0 } : Room) [.int (iZ i), .int (iZ n), v] (fun _ => True) i := by
  rcases hv with rfl | ⟨t, rfl⟩ <;>
  · refine m_pure (own := RJ3) (cc := cJ3_checkIndex_8e157) (nL := 3) (by decide) rfl rfl (Nat.le_of_ble_eq_true rfl) rfl (fun X K hJ hret => ?_)
    refine p_iload_n 0 K dJ3_checkIndex_8e157_0 rfl ?_
    refine p_if_lt 9 K dJ3_checkIndex_8e157_1 (by decide) (by omega) (fun c => (by exfalso; omega)) (fun c => ?_)
    refine p_iload_n 0 K dJ3_checkIndex_8e157_4 rfl ?_
    refine p_iload_n 1 K dJ3_checkIndex_8e157_5 rfl ?_
    refine p_icmp_lt 16 K dJ3_checkIndex_8e157_6 (by decide) (by omega) (by omega) (fun c => ?_) (fun c => (by exfalso; omega))
    refine p_iload_n 0 K dJ3_checkIndex_8e157_16 rfl ?_
    exact hret _ _ _ dJ3_checkIndex_8e157_17
theorem c_check0 (l : Launch) (i n : Int) (hi : 0 ≤ i ∧ i < n) (hn : n ≤ 1000) : cNv l yJ0_checkIndex_df160 wsJ0_checkIndex_df160 ({ frames := 1, cells := 0, slots := 0, locals := 22 } : Room) [.int (iZ i), .int (iZ n)] (fun U => va_Zq "jdk/internal/util/Preconditions" "SIOOBE_FORMATTER" "Ljava/util/function/BiFunction;" (fun _ => False) U U.heap) := by
  refine m_pureV (own := RJ0) (cc := cJ0_checkIndex_df160) (nL := 2) (by decide) rfl rfl (Nat.le_of_ble_eq_true rfl) (fun X K hJ hret => ?_)
  refine p_iload_n 0 K dJ0_checkIndex_df160_0 rfl ?_
  refine p_iload_n 1 K dJ0_checkIndex_df160_1 rfl ?_
  have tail : ∀ v : Value, (v = .null ∨ ∃ t, v = .ref t) → pY X 2 5 [(0, .int (iZ i)), (1, .int (iZ n))] [v, .int (iZ n), .int (iZ i)] := by
    intro v hv
    refine p_callS (As := [.int (iZ i), .int (iZ n), v]) (rest := []) K 3 (c_check3 X.1.2.1 i n v hv hi hn) (fun H locs hS U hU hW => trivial) (fun _ _ _ _ _ => trivial) gJ0_checkIndex_df160_J3_checkIndex_8e157 rfl rfl rfl (by decide +kernel) ⟨(Nat.le_of_ble_eq_true rfl), (Nat.le_of_ble_eq_true rfl)⟩ rfl rfl (Nat.le_of_ble_eq_true rfl) dJ0_checkIndex_df160_5 ?_
    refine p_pop rfl K dJ0_checkIndex_df160_8 ?_
    exact hret _ _ _ dJ0_checkIndex_df160_9
  intro H locs ls hS h
  have hw := K.1.2.2.2.2.1 _ (List.mem_cons_of_mem _ (List.mem_of_getElem? (i := 0) rfl))
  rcases hJ with hJ | ⟨t, hJ⟩
  · exact va_gets K.1.1 K.1.2.1 hJ hS K.1.2.2.2.1 hw (fun _ q => q) dJ0_checkIndex_df160_2 (tail _ (Or.inl rfl) H locs ls hS h)
  · exact va_gets K.1.1 K.1.2.1 hJ hS K.1.2.2.2.1 hw (fun _ q => q) dJ0_checkIndex_df160_2 (tail _ (Or.inr ⟨t, rfl⟩) H locs ls hS h)
theorem chr_and : ∀ k : Nat, k < 128 → iZ (k : Int) &&& iZ 255 = iZ (k : Int) ∧ ((iZ (k : Int)).toUInt32 % 65536).toInt32 = iZ (k : Int) := by
  intro k hk
  have h : ∀ j : Fin 128, iZ (j.val : Int) &&& iZ 255 = iZ (j.val : Int) ∧ ((iZ (j.val : Int)).toUInt32 % 65536).toInt32 = iZ (j.val : Int) := by decide +kernel
  exact h ⟨k, hk⟩
theorem c_chr1 (l : Launch) (a v n : Nat) (f : Nat → Int32) (i F : Nat) (hi : i < n) (hn : n ≤ 1000) (hF : F < 128) (hf : f i = iZ (F : Int)) : cN l yJ1_charAt_3b067 wsJ1_charAt_3b067 ({ frames := 2, cells := 0, slots := 0, locals := 43 } : Room) [.ref v, .int (iZ (i : Int))] (fun U => sJ (fun _ => False) U a v n f) (F : Int) := by
  refine m_pure (own := RJ1) (cc := cJ1_charAt_3b067) (nL := 2) (by decide) rfl rfl (Nat.le_of_ble_eq_true rfl) (nar_c (by omega)).1 (fun X K hJ hret => ?_)
  refine p_iload_n 1 K dJ1_charAt_3b067_0 rfl ?_
  refine p_aload_n 0 K dJ1_charAt_3b067_1 rfl ?_
  have tail : pY X 2 3 [(0, .ref v), (1, .int (iZ (i : Int)))] [.int (iZ (n : Int)), .int (iZ (i : Int))] := by
    refine p_callSv (As := [.int (iZ (i : Int)), .int (iZ (n : Int))]) (rest := []) K 2 (c_check0 X.1.2.1 (i : Int) (n : Int) (by omega) (by omega)) (fun H locs hS U hU hW => (hJ.go9 hS (fun q h => h) hU hW).2.2.2.2.2) (fun g9 U g mk h => va_Zq.moved (u := U) (U := U.calling g mk g9) (Vm.Alike.refl U.vm) h) gJ1_charAt_3b067_J0_checkIndex_df160 rfl rfl rfl (by decide +kernel) ⟨(Nat.le_of_ble_eq_true rfl), (Nat.le_of_ble_eq_true rfl)⟩ rfl rfl (Nat.le_of_ble_eq_true rfl) dJ1_charAt_3b067_3 ?_
    refine p_aload_n 0 K dJ1_charAt_3b067_6 rfl ?_
    refine p_iload_n 1 K dJ1_charAt_3b067_7 rfl ?_
    have tail2 : pY X 2 9 [(0, .ref v), (1, .int (iZ (i : Int)))] [.int (iZ (F : Int))] := by
      refine p_sipush K dJ1_charAt_3b067_9 (by decide) ?_
      refine p_riand K dJ1_charAt_3b067_12 ?_
      rw [(chr_and F hF).1]
      intro H locs ls hS h
      exact lv_i2c K.1.1 K.1.2.1 dJ1_charAt_3b067_13 (chr_and F hF).2 (hret _ _ _ dJ1_charAt_3b067_14 H locs ls hS h)
    intro H locs ls hS h
    exact va_tb K.1.1 K.1.2.1 hJ.2.2.2.1 hS (iZ_in rfl hi (by omega)) (by rw [iZ_clamp (by omega), hf]) dJ1_charAt_3b067_8 (tail2 H locs ls hS h)
  intro H locs ls hS h
  exact va_tlen K.1.1 K.1.2.1 hJ.2.2.2.1 hS (by rw [iZ_nat]; rfl) dJ1_charAt_3b067_2 (tail H locs ls hS h)
theorem c_lat (l : Launch) (a v n : Nat) (f : Nat → Int32) : cN l yJ0_isLatin1_aae02 wsJ0_isLatin1_aae02 ({ frames := 0, cells := 0, slots := 0, locals := 0 } : Room) [.ref a] (fun U => sJ (fun _ => False) U a v n f) 1 := by
  refine m_pure (own := RJ0) (cc := cJ0_isLatin1_aae02) (nL := 1) (by decide) rfl rfl (Nat.le_of_ble_eq_true rfl) rfl (fun X K hJ hret => ?_)
  have t2 : pY X 1 10 [(0, .ref a)] [.int (iZ 0)] := by
    refine p_if_ne 17 K dJ0_isLatin1_aae02_10 (by decide) (by decide) (fun c => (c rfl).elim) (fun c => ?_)
    refine p_iconst K dJ0_isLatin1_aae02_13 ?_
    refine p_goto 18 K dJ0_isLatin1_aae02_14 (by decide) ?_
    exact hret _ _ _ dJ0_isLatin1_aae02_18
  have t1 : pY X 1 3 [(0, .ref a)] [.int (iZ 1)] := by
    refine p_if_eq 17 K dJ0_isLatin1_aae02_3 (by decide) (by decide) (fun c => (by exfalso; omega)) (fun c => ?_)
    refine p_aload_n 0 K dJ0_isLatin1_aae02_6 rfl ?_
    intro H locs ls hS h
    exact vk_getf K.1.1 K.1.2.1 hJ.2.1 hS K.1.2.2.2.1 (K.1.2.2.2.2.1 _ (List.mem_cons_of_mem _ (List.mem_append_left _ (List.mem_of_getElem? (i := 1) rfl)))) (fun _ q => q) dJ0_isLatin1_aae02_7 (t2 H locs ls hS h)
  intro H locs ls hS h
  exact va_gets K.1.1 K.1.2.1 hJ.2.2.2.2.1 hS K.1.2.2.2.1 (K.1.2.2.2.2.1 _ (List.mem_cons_of_mem _ (List.mem_append_left _ (List.mem_of_getElem? (i := 0) rfl)))) (fun _ q => q) dJ0_isLatin1_aae02_0 (t1 H locs ls hS h)
theorem c_chr (l : Launch) (a v n : Nat) (f : Nat → Int32) (i F : Nat) (hi : i < n) (hn : n ≤ 1000) (hF : F < 128) (hf : f i = iZ (F : Int)) : cN l yJ0_charAt_5068e wsJ0_charAt_5068e ({ frames := 3, cells := 0, slots := 0, locals := 64 } : Room) [.ref a, .int (iZ (i : Int))] (fun U => sJ (fun _ => False) U a v n f) (F : Int) := by
  refine m_pure (own := RJ0) (cc := cJ0_charAt_5068e) (nL := 2) (by decide) rfl rfl (Nat.le_of_ble_eq_true rfl) (nar_c (by omega)).1 (fun X K hJ hret => ?_)
  refine p_aload_n 0 K dJ0_charAt_5068e_0 rfl ?_
  refine p_callV (As := []) (rest := []) K 0 hJ.1 (c_lat X.1.2.1 a v n f) (fun H locs hS U hU hW => hJ.go9 hS (fun q h => h) hU hW) sJ.fb9 gJ0_charAt_5068e_J0_isLatin1_aae02 rfl rfl rfl (by decide +kernel) ⟨(Nat.le_of_ble_eq_true rfl), (Nat.le_of_ble_eq_true rfl)⟩ rfl rfl (Nat.le_of_ble_eq_true rfl) dJ0_charAt_5068e_1 ?_
  refine p_if_eq 16 K dJ0_charAt_5068e_4 (by decide) (by decide) (fun c => (by exfalso; omega)) (fun c => ?_)
  refine p_aload_n 0 K dJ0_charAt_5068e_7 rfl ?_
  have t1 : pY X 2 11 [(0, .ref a), (1, .int (iZ (i : Int)))] [.ref v] := by
    refine p_iload_n 1 K dJ0_charAt_5068e_11 rfl ?_
    refine p_callS (As := [.ref v, .int (iZ (i : Int))]) (rest := []) K 2 (c_chr1 X.1.2.1 a v n f i F hi hn hF hf) (fun H locs hS U hU hW => hJ.go9 hS (fun q h => h) hU hW) sJ.fb9 gJ0_charAt_5068e_J1_charAt_3b067 rfl rfl rfl (by decide +kernel) ⟨(Nat.le_of_ble_eq_true rfl), (Nat.le_of_ble_eq_true rfl)⟩ rfl rfl (Nat.le_of_ble_eq_true rfl) dJ0_charAt_5068e_12 ?_
    exact hret _ _ _ dJ0_charAt_5068e_15
  intro H locs ls hS h
  exact vk_getf K.1.1 K.1.2.1 hJ.2.2.1 hS K.1.2.2.2.1 (K.1.2.2.2.2.1 _ (List.mem_cons_of_mem _ (List.mem_append_left _ (List.mem_append_left _ (List.mem_of_getElem? (i := 0) rfl))))) (fun _ q => q) dJ0_charAt_5068e_8 (t1 H locs ls hS h)
/-! pure calls within a world; arrays beside the world -/
theorem HPx.keep9 {A : Nat → Prop} {D : va_G} {cy : Nat → ClassId} {ad : Nat → Nat} {μ : Mem} {ex : va_W} {H H1 : Heap} (h : HPx A D cy ad μ ex H) (hk : ∀ q : Nat, q < H.size → H1[q]? = H[q]?) : HPx A D cy ad μ ex H1 := ⟨h.1.kept (fun k q hq => hk q.1 ((h.1 k q hq).lt)), h.2⟩
section VN2
variable {X : VC} {cc bytes : ByteArray} {nL maxL index : Nat} {own : String} {Ts ws ws' : List Cond} {rm rm2 : Room} {pc cells slots : Nat} {lv lv' : List (Nat × Value)} {st rest As : List Value} {y : MethodName} {J : State → Prop} {ret : Option FieldType} {F : Int} {μ : Mem} {ex : va_W}
theorem v_pureS (K : vK X cc nL own Ts rm) (n : Nat) (hM : cN X.1.2.1 y ws rm2 As J F) (hJ : ∀ (H : Heap) (locs : List Loc), va_S X.2.2.2.1 X.2.1.1.heap H locs → ∀ U : State, U.heap = H → X.2.1.1.WarmedH U.vm → J U) (hfb : fbJ J) (hG : GoodIn Ts (va_wsS own index y ws)) (hw : ws = Cond.code y bytes maxL ret :: ws') (hrc : rm2.cells = 0) (hrs : rm2.slots = 0) (hdd : y.cls ≠ "java/lang/invoke/MethodHandle" ∧ y.cls ≠ "java/lang/invoke/VarHandle" ∧ (parseMethodDescriptor y.desc).map (fun d => d.parameters.length) = some n) (hR : rm2.frames + 1 ≤ rm.frames ∧ 8 + (maxL + 11) + rm2.locals ≤ rm.locals) (hn : As.length = n) (hst : st = As.reverse ++ rest) (hcat : (rest.map fun v => v.category).sum ≤ 8) (hd : decode cc pc = .ok (.invokestatic index, 3)) (hcs : cells ≤ rm.cells ∧ slots ≤ rm.slots)
    (kk : vY X nL (pc + 3) cells slots lv (.int (iZ F) :: rest) μ ex) : vY X nL pc cells slots lv st μ ex := by
  intro H locs ls hP hS h
  have hR' : rm2.frames + 1 ≤ X.1.2.2.2.frames ∧ 8 + (maxL + 11) + rm2.locals ≤ X.1.2.2.2.locals := by rw [K.1.2.2.2.2.2]; exact hR
  have hcs' : cells + 0 ≤ X.1.2.2.2.cells ∧ slots + 0 ≤ X.1.2.2.2.slots := by rw [K.1.2.2.2.2.2]; exact hcs
  refine va_calli (va_runS (As := As) (rest := rest) ⟨K.1.1, K.1.2.1, K.1.2.2.1, K.1.2.2.2.1, K.1.2.2.2.2.1⟩ hM (va_cwS n K.1.2.2.2.2.1 hG hw hrc hrs hdd hR') ⟨fun a U g mk q => ⟨q.1, hfb a U g mk q.2⟩, fun U hU hW => ⟨rfl, hJ H locs hS U hU hW⟩⟩ rfl hn h.1 hst (lv_room hcat) hd hcs') hS (fun q _ q2 => q2.elim) (fun q q2 => q2.elim) (fun r u t H1 locs1 ht hvm hw hB hz1 hk1 hS1 => ?_)
  rw [hw]
  exact kk H1 locs1 ls (hP.keep9 (fun q hq => hk1 q hq (fun z => z))) hS1 h
theorem v_pureV {a : Nat} (K : vK X cc nL own Ts rm) (n : Nat) (hO : va_O y.cls a X.2.2.2.1 X.2.1.1 X.2.1.1.heap) (hM : cN X.1.2.1 y ws rm2 (.ref a :: As) J F) (hJ : ∀ (H : Heap) (locs : List Loc), va_S X.2.2.2.1 X.2.1.1.heap H locs → ∀ U : State, U.heap = H → X.2.1.1.WarmedH U.vm → J U) (hfb : fbJ J) (hG : GoodIn Ts (wsV own index y.cls y ws)) (hw : ws = Cond.code y bytes maxL ret :: ws') (hrc : rm2.cells = 0) (hrs : rm2.slots = 0) (hdd : y.cls = y.cls ∧ y.cls ≠ "java/lang/invoke/MethodHandle" ∧ y.cls ≠ "java/lang/invoke/VarHandle" ∧ (parseMethodDescriptor y.desc).map (fun d => d.parameters.length) = some n) (hR : rm2.frames + 1 ≤ rm.frames ∧ 8 + (maxL + 11) + rm2.locals ≤ rm.locals) (hn : As.length = n) (hst : st = As.reverse ++ .ref a :: rest) (hcat : (rest.map fun v => v.category).sum ≤ 8) (hd : decode cc pc = .ok (.invokevirtual index, 3)) (hcs : cells ≤ rm.cells ∧ slots ≤ rm.slots)
    (kk : vY X nL (pc + 3) cells slots lv (.int (iZ F) :: rest) μ ex) : vY X nL pc cells slots lv st μ ex := by
  intro H locs ls hP hS h
  have hR' : rm2.frames + 1 ≤ X.1.2.2.2.frames ∧ 8 + (maxL + 11) + rm2.locals ≤ X.1.2.2.2.locals := by rw [K.1.2.2.2.2.2]; exact hR
  have hcs' : cells + 0 ≤ X.1.2.2.2.cells ∧ slots + 0 ≤ X.1.2.2.2.slots := by rw [K.1.2.2.2.2.2]; exact hcs
  obtain ⟨cell, q1, q2, q3, -⟩ := hO.kept hS.2.1
  refine va_calli (va_runV (As := As) (rest := rest) ⟨K.1.1, K.1.2.1, K.1.2.2.1, K.1.2.2.2.1, K.1.2.2.2.2.1⟩ hM (cwV n K.1.2.2.2.2.1 hG hw hrc hrs hdd hR') ⟨fun a U g mk q => ⟨q.1, hfb a U g mk q.2⟩, ⟨cell, q1, q2, q3⟩, fun U hU hW => ⟨rfl, hJ H locs hS U hU hW⟩⟩ rfl hn h.1 hst (lv_room hcat) hd hcs') hS (fun q _ q2 => q2.elim) (fun q q2 => q2.elim) (fun r u t H1 locs1 ht hvm hw hB hz1 hk1 hS1 => ?_)
  rw [hw]
  exact kk H1 locs1 ls (hP.keep9 (fun q hq => hk1 q hq (fun z => z))) hS1 h
/-- a number out of the script -/
theorem v_in {σ : SX} {i n : Int} (K : vK X cc nL own Ts rm) (SJ : lxJ X.2.2.2.1 X.2.1.1 σ) (hi : 0 ≤ i ∧ i ≤ 1000) (hn : 0 < n ∧ n ≤ 2147483647) (hG : GoodIn Ts (va_wsS own index yL_in wsL_in)) (hR : 2 ≤ rm.frames ∧ 44 ≤ rm.locals) (hcat : (rest.map fun v => v.category).sum ≤ 8) (hd : decode cc pc = .ok (.invokestatic index, 3)) (hcs : cells ≤ rm.cells ∧ slots ≤ rm.slots)
    (kk : vY X nL (pc + 3) cells slots lv (.int (iZ (inV σ i n)) :: rest) μ ex) : vY X nL pc cells slots lv (.int (iZ n) :: .int (iZ i) :: .ref σ.1.1 :: rest) μ ex :=
  v_pureS (As := [.ref σ.1.1, .int (iZ i), .int (iZ n)]) (rest := rest) K 3 (c_in X.1.2.1 σ i n hi hn) (fun H locs hS U hU hW => SJ.go9 hS (fun q h => h.elim) hU hW) lxJ.fb9 hG rfl rfl rfl (by decide +kernel) ⟨hR.1, hR.2⟩ rfl rfl hcat hd hcs kk
theorem v_ldcS {tx : String} {q : Nat} (K : vK X cc nL own Ts rm) (hZ : vk_R own index tx q X.2.1.1) (hd : decode cc pc = .ok (.ldc index, 2)) (kk : vY X nL (pc + 2) cells slots lv (.ref q :: st) μ ex) : vY X nL pc cells slots lv st μ ex :=
  fun H locs ls hP hS h => va_ldcS K.1.1 K.1.2.1 K.1.2.2.2.1 hZ hd (kk H locs ls hP hS h)
theorem f_clqs_c {i : Int} (hi : 0 ≤ i ∧ i < 4) : f_clqs i.toNat = iZ (((kdc i).toNat : Nat) : Int) ∧ (kdc i).toNat < 128 ∧ kdc i = (((kdc i).toNat : Nat) : Int) := by
  rcases (show i = 0 ∨ i = 1 ∨ i = 2 ∨ i = 3 by omega) with rfl | rfl | rfl | rfl <;> decide
theorem f_rgz_c {i : Int} (hi : 0 ≤ i ∧ i < 3) : f_rgz i.toNat = iZ (((rgc i).toNat : Nat) : Int) ∧ (rgc i).toNat < 128 ∧ rgc i = (((rgc i).toNat : Nat) : Int) := by
  rcases (show i = 0 ∨ i = 1 ∨ i = 2 by omega) with rfl | rfl | rfl <;> decide
theorem v_chc {σ : SX} {i : Int} (K : vK X cc nL own Ts rm) (SJ : lxJ X.2.2.2.1 X.2.1.1 σ) (hi : 0 ≤ i ∧ i < 4) (hG : GoodIn Ts (wsV own index RJ0 yJ0_charAt_5068e wsJ0_charAt_5068e)) (hR : 4 ≤ rm.frames ∧ 85 ≤ rm.locals) (hcat : (rest.map fun v => v.category).sum ≤ 8) (hd : decode cc pc = .ok (.invokevirtual index, 3)) (hcs : cells ≤ rm.cells ∧ slots ≤ rm.slots)
    (kk : vY X nL (pc + 3) cells slots lv (.int (iZ (kdc i)) :: rest) μ ex) : vY X nL pc cells slots lv (.int (iZ i) :: .ref σ.2.1.1 :: rest) μ ex := by
  obtain ⟨h1, h2, h3⟩ := f_clqs_c hi
  rw [h3] at kk
  rw [show i = ((i.toNat : Nat) : Int) by omega]
  exact v_pureV (As := [.int (iZ ((i.toNat : Nat) : Int))]) (rest := rest) K 1 SJ.2.2.1.1 (c_chr X.1.2.1 σ.2.1.1 σ.2.1.2 4 f_clqs i.toNat (kdc i).toNat (by omega) (by omega) h2 h1) (fun H locs hS U hU hW => SJ.2.2.1.go9 hS (fun q h => h.elim) hU hW) sJ.fb9 hG rfl rfl rfl (by decide +kernel) ⟨hR.1, hR.2⟩ rfl rfl hcat hd hcs kk
theorem v_chr {σ : SX} {i : Int} (K : vK X cc nL own Ts rm) (SJ : lxJ X.2.2.2.1 X.2.1.1 σ) (hi : 0 ≤ i ∧ i < 3) (hG : GoodIn Ts (wsV own index RJ0 yJ0_charAt_5068e wsJ0_charAt_5068e)) (hR : 4 ≤ rm.frames ∧ 85 ≤ rm.locals) (hcat : (rest.map fun v => v.category).sum ≤ 8) (hd : decode cc pc = .ok (.invokevirtual index, 3)) (hcs : cells ≤ rm.cells ∧ slots ≤ rm.slots)
    (kk : vY X nL (pc + 3) cells slots lv (.int (iZ (rgc i)) :: rest) μ ex) : vY X nL pc cells slots lv (.int (iZ i) :: .ref σ.2.2.1 :: rest) μ ex := by
  obtain ⟨h1, h2, h3⟩ := f_rgz_c hi
  rw [h3] at kk
  rw [show i = ((i.toNat : Nat) : Int) by omega]
  exact v_pureV (As := [.int (iZ ((i.toNat : Nat) : Int))]) (rest := rest) K 1 SJ.2.2.2.1.1 (c_chr X.1.2.1 σ.2.2.1 σ.2.2.2 3 f_rgz i.toNat (rgc i).toNat (by omega) (by omega) h2 h1) (fun H locs hS U hU hW => SJ.2.2.2.1.go9 hS (fun q h => h.elim) hU hW) sJ.fb9 hG rfl rfl rfl (by decide +kernel) ⟨hR.1, hR.2⟩ rfl rfl hcat hd hcs kk
/-- the room used, rounded up -/
theorem v_wid {c2 s2 : Nat} (h1 : cells ≤ c2) (h2 : slots ≤ s2) (kk : vY X nL pc c2 s2 lv st μ ex) : vY X nL pc cells slots lv st μ ex :=
  fun H locs ls hP hS h => W.widen h1 h2 (kk H locs ls hP hS h)
end VN2
