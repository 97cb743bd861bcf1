/-! arrays of the law's own, beside the world -/
def xi (X : VC) (a n : Nat) (f : Nat → Int) : Nat × va_E := (a, .inl (X.2.2.2.2.2.1 0, n, .inl (fun j => iZ (f j))))
def upF (f : Nat → Int) (k : Nat) (x : Int) : Nat → Int := fun j => if j = k then x else f j
theorem upF_self {f : Nat → Int} {k : Nat} {x : Int} : upF f k x k = x := if_pos rfl
theorem upF_ne {f : Nat → Int} {k j : Nat} {x : Int} (h : j ≠ k) : upF f k x j = f j := if_neg h
theorem upF_up {f : Nat → Int} {k : Nat} {x y : Int} : upF (upF f k x) k y = upF f k y := by
  funext j
  unfold upF
  split <;> rfl
theorem upF_id {f : Nat → Int} {k : Nat} {x : Int} (h : f k = x) : upF f k x = f := by
  funext j
  unfold upF
  split
  · rename_i e; rw [e, h]
  · rfl
theorem exD_of {A : Nat → Prop} {cy : Nat → ClassId} {ad : Nat → Nat} {μ : Mem} {ex : va_W} (h : va_D A (wv cy ad μ ++ ex)) : exD A ad ex := by
  have hin : ∀ (k : Nat) (q : Nat × va_E), ex[k]? = some q → (wv cy ad μ ++ ex)[52 + k]? = some q := fun k q hk => by
    rw [List.getElem?_append_right (by rw [wv_len]; omega), wv_len, Nat.add_sub_cancel_left]
    exact hk
  refine ⟨fun k q hk => ⟨h.2 _ q (hin k q hk), fun c hc e => ?_⟩, fun i j p q hi hj e => ?_⟩
  · have := h.1 (52 + k) c q _ (hin k q hk) (wx_get hc) e
    omega
  · have := h.1 (52 + i) (52 + j) p q (hin i p hi) (hin j q hj) e
    omega
section VX
variable {X : VC} {cc : ByteArray} {nL : Nat} {own : String} {Ts : List Cond} {rm : Room} {pc cells slots : Nat} {lv lv' : List (Nat × Value)} {st : List Value} {μ μ' : Mem} {ex ex' : va_W}
theorem v_ex (he : ex = ex') (kk : vY X nL pc cells slots lv st μ ex') : vY X nL pc cells slots lv st μ ex := by
  subst he; exact kk
theorem v_xdrop (kk : vW X nL pc cells slots lv st μ) : vY X nL pc cells slots lv st μ ex := fun H locs ls hP hS h =>
  kk H locs ls ⟨by rw [List.append_nil]; exact kx_preP hP.1, exD_nil⟩ hS h
theorem v_xnew {N : Nat} (K : vK X cc nL own Ts rm) (harr : Cond.arrayClass .int ∈ Ts) (hN : N ≤ 1000) (hd : decode cc pc = .ok (.newarray .int, 2)) (hcs : cells + 1 ≤ rm.cells ∧ slots + N ≤ rm.slots) (kk : ∀ a : Nat, vY X nL (pc + 2) (cells + 1) (slots + N) lv (.ref a :: st) μ (ex ++ [xi X a N (fun _ => 0)])) : vY X nL pc cells slots lv (.int (iZ (N : Int)) :: st) μ ex := by
  intro H locs ls hP hS h
  have hD : va_D X.2.2.2.1 (wv X.2.2.2.2.2.1 X.2.2.2.2.2.2 μ ++ ex) := wx_D K.2.2.1 K.2.2.2.1 hP.2
  have hcs' : cells + 1 ≤ X.1.2.2.2.cells ∧ slots + N ≤ X.1.2.2.2.slots := by rw [K.1.2.2.2.2.2]; exact hcs
  have hc : (iZ (N : Int)).toNatClampNeg = N := iZ_clamp (by omega)
  refine va_newa (atype := .int) (ty := .int) (N' := N) (a0 := (N, .inl (fun _ => iZ 0))) K.1.1 K.1.2.1 (K.1.2.2.2.2.1 _ harr) rfl K.2.1 hP.1 hD hS K.2.2.2.2.1 (fun _ => rfl) (fun q => ?_) hc (by show N * 4 ≤ 536870912; omega) hcs'.1 hcs'.2 hd (fun q cA H1 hK1 hP1 hD1 hS1 => ?_)
  · have := (iZ_lt (a := (N : Int)) (b := 0) (by omega) (by omega)).mp q
    omega
  · obtain rfl : X.2.2.2.2.2.1 0 = cA := (kx_ty hK1 4 0 rfl rfl).symm
    rw [List.append_assoc] at hP1 hD1
    exact kk q H1 locs ls ⟨hP1, exD_of hD1⟩ hS1 h
theorem wx_gx {cy : Nat → ClassId} {ad : Nat → Nat} {i : Nat} : (wv cy ad μ ++ ex)[52 + i]? = ex[i]? := by
  rw [List.getElem?_append_right (by rw [wv_len]; omega), wv_len, Nat.add_sub_cancel_left]
theorem v_xald {a n : Nat} {f : Nat → Int} {t : Int} (i k : Nat) (K : vK X cc nL own Ts rm) (hx : ex[i]? = some (xi X a n f)) (ht : t = (k : Int)) (hk : k < n) (hn : n ≤ 1000) (hd : decode cc pc = .ok (.iaload, 1)) (kk : vY X nL (pc + 1) cells slots lv (.int (iZ (f k)) :: st) μ ex) : vY X nL pc cells slots lv (.int (iZ t) :: .ref a :: st) μ ex := by
  intro H locs ls hP hS h
  subst ht
  refine va_iald K.1.1 K.1.2.1 K.2.1 hP.1 (52 + i) 0 (by rw [wx_gx, hx]; rfl) rfl (iZ_in rfl hk (by omega)) hd ?_
  rw [iZ_clamp (by omega)]
  exact kk H locs ls hP hS h
theorem v_xast {a n : Nat} {f : Nat → Int} {t z : Int} (i k : Nat) (K : vK X cc nL own Ts rm) (hx : ex[i]? = some (xi X a n f)) (ht : t = (k : Int)) (hk : k < n) (hn : n ≤ 1000) (hd : decode cc pc = .ok (.iastore, 1)) (hs : ex.set i (xi X a n (upF f k z)) = ex') (kk : vY X nL (pc + 1) cells slots lv st μ ex') : vY X nL pc cells slots lv (.int (iZ z) :: .int (iZ t) :: .ref a :: st) μ ex := by
  intro H locs ls hP hS h
  subst ht
  have hD : va_D X.2.2.2.1 (wv X.2.2.2.2.2.1 X.2.2.2.2.2.2 μ ++ ex) := wx_D K.2.2.1 K.2.2.2.1 hP.2
  refine va_iast K.1.1 K.1.2.1 K.2.1 hP.1 hD hS (52 + i) 0 (by rw [wx_gx, hx]; rfl) rfl (iZ_in rfl hk (by omega)) hd (fun H1 locs1 hP1 hD1 hS1 => ?_)
  have e : (wv X.2.2.2.2.2.1 X.2.2.2.2.2.2 μ ++ ex).set (52 + i) (a, .inl (X.2.2.2.2.2.1 0, n, .inl (upd (fun j => iZ (f j)) (iZ (k : Int)).toNatClampNeg (iZ z)))) = wv X.2.2.2.2.2.1 X.2.2.2.2.2.2 μ ++ ex' := by
    rw [List.set_append_right _ _ (by rw [wv_len]; omega), wv_len, Nat.add_sub_cancel_left, ← hs, iZ_clamp (by omega)]
    unfold xi
    congr 7
    funext j
    by_cases hj : j = k <;> simp [upd, upF, hj]
  rw [e] at hP1 hD1
  exact kk H1 locs1 ls ⟨hP1, exD_of hD1⟩ hS1 h
-- longs, beside such arrays
theorem w_i2l {a : Int} (ha : -2147483648 ≤ a ∧ a ≤ 2147483647) (K : vK X cc nL own Ts rm) (hd : decode cc pc = .ok (.i2l, 1)) (kk : vY X nL (pc + 1) cells slots lv (.long (lZ a) :: st) μ ex) : vY X nL pc cells slots lv (.int (iZ a) :: st) μ ex :=
  fun H locs ls hP hS h => lv_i2l K.1.1 K.1.2.1 hd (iZ_long ha) (kk H locs ls hP hS h)
theorem w_l2i {a : Int} (K : vK X cc nL own Ts rm) (hd : decode cc pc = .ok (.l2i, 1)) (kk : vY X nL (pc + 1) cells slots lv (.int (iZ a) :: st) μ ex) : vY X nL pc cells slots lv (.long (lZ a) :: st) μ ex :=
  fun H locs ls hP hS h => lv_l2i K.1.1 K.1.2.1 hd lZ_int (kk H locs ls hP hS h)
theorem w_lmul {a b : Int} (K : vK X cc nL own Ts rm) (hd : decode cc pc = .ok (.lmul, 1)) (kk : vY X nL (pc + 1) cells slots lv (.long (lZ (a * b)) :: st) μ ex) : vY X nL pc cells slots lv (.long (lZ b) :: .long (lZ a) :: st) μ ex :=
  fun H locs ls hP hS h => lv_lmul K.1.1 K.1.2.1 hd (by rw [lZ_mul]; exact kk H locs ls hP hS h)
theorem w_lrem {a b : Int} (hx : 0 ≤ a ∧ a ≤ 9223372036854775807) (hy : 0 < b ∧ b ≤ 9223372036854775807) (K : vK X cc nL own Ts rm) (hd : decode cc pc = .ok (.lrem, 1)) (kk : vY X nL (pc + 1) cells slots lv (.long (lZ (a % b)) :: st) μ ex) : vY X nL pc cells slots lv (.long (lZ b) :: .long (lZ a) :: st) μ ex :=
  fun H locs ls hP hS h => lv_lrem K.1.1 K.1.2.1 hd (lZ_ne0 (by omega) (by omega)) (by rw [lZ_rem hx hy]; exact kk H locs ls hP hS h)
theorem w_ldc2 {v : Int64} {n : Int} {index : Nat} (K : vK X cc nL own Ts rm) (hc : Cond.constantLong own index v ∈ Ts) (hd : decode cc pc = .ok (.ldc2_w index, 3)) (hn : v = lZ n) (k : vY X nL (pc + 3) cells slots lv (.long (lZ n) :: st) μ ex) : vY X nL pc cells slots lv st μ ex :=
  fun H locs ls hP hS hl => lv_ldc2 (v := lZ n) K.1.1 K.1.2.1 K.1.2.2.2.1 (by rw [← hn]; exact K.1.2.2.2.2.1 _ hc) hd (k H locs ls hP hS hl)
end VX
/-! calls of methods with handlers -/
section VW9
variable {X : VC} {cc : ByteArray} {nL : Nat} {own : String} {Ts : List Cond} {rm : Room} {pc cells slots : Nat} {lv lv' : List (Nat × Value)} {st : List Value} {μ μ' : Mem} {ex : va_W}
variable {y : MethodName} {ws ws' : List Cond} {rm2 : Room} {bytes : ByteArray} {maxL n index mc ms : Nat} {ret : Option FieldType} {As rest : List Value}
variable {hh : List (Nat × Nat × Nat × Nat)}
theorem v_callSWi {post : Int → Mem → Prop} (K : vK X cc nL own Ts rm) (n : Nat) (hM : cI X.1.2.1 y ws rm2 X.2.2.2.2.1 X.2.2.2.2.2.1 X.2.2.2.2.2.2 μ As post) (hG : GoodIn Ts (va_wsS own index y ws)) (hw : ws = Cond.codeWith y bytes maxL ret hh :: ws') (hrc : rm2.cells = mc) (hrs : rm2.slots = ms) (hdd : y.cls ≠ "java/lang/invoke/MethodHandle" ∧ y.cls ≠ "java/lang/invoke/VarHandle" ∧ (parseMethodDescriptor y.desc).map (fun d => d.parameters.length) = some n) (hR : rm2.frames + 1 ≤ rm.frames ∧ 8 + (maxL + 11) + rm2.locals ≤ rm.locals) (hn : As.length = n) (hst : st = As.reverse ++ rest) (hcat : (rest.map fun v => v.category).sum ≤ 8) (hd : decode cc pc = .ok (.invokestatic index, 3)) (hcs : cells + mc ≤ rm.cells ∧ slots + ms ≤ rm.slots)
    (kk : ∀ (z : Int) (μ' : Mem), post z μ' → vY X nL (pc + 3) (cells + mc) (slots + ms) lv (.int (iZ z) :: rest) μ' ex) : vY X nL pc cells slots lv st μ ex := by
  intro H locs ls hP hS h
  have hR' : rm2.frames + 1 ≤ X.1.2.2.2.frames ∧ 8 + (maxL + 11) + rm2.locals ≤ X.1.2.2.2.locals := by rw [K.1.2.2.2.2.2]; exact hR
  have hcs' : cells + mc ≤ X.1.2.2.2.cells ∧ slots + ms ≤ X.1.2.2.2.slots := by rw [K.1.2.2.2.2.2]; exact hcs
  have hM' := hM H.size
  rw [hrc, hrs] at hM'
  refine va_calli (vx_runSW (hh := hh) (As := As) (rest := rest) ⟨K.1.1, K.1.2.1, K.1.2.2.1, K.1.2.2.2.1, K.1.2.2.2.2.1⟩ hM' (vx_cwSW n K.1.2.2.2.2.1 hG hw hrc hrs hdd hR') ⟨kS_fb, kS_go K hP hS⟩ rfl hn h.1 hst (lv_room hcat) hd hcs') hS (fun q _ q2 => aA.sub K hS q q2) (aA.sub K hS) (fun r u t H1 locs1 ht hvm hw hB hz1 hk1 hS1 => ?_)
  obtain ⟨z, μ'⟩ := u
  obtain ⟨rfl, hp⟩ := hw
  try dsimp only at hB
  rw [ht] at hB
  exact kk z μ' hp H1 locs1 ls (hP.join hB hk1) hS1 h
theorem v_callSWir {F : Int} (K : vK X cc nL own Ts rm) (n : Nat) (hM : cI X.1.2.1 y ws rm2 X.2.2.2.2.1 X.2.2.2.2.2.1 X.2.2.2.2.2.2 μ As (fun (z : Int) (ν : Mem) => z = F ∧ ν = μ)) (hG : GoodIn Ts (va_wsS own index y ws)) (hw : ws = Cond.codeWith y bytes maxL ret hh :: ws') (hrc : rm2.cells = mc) (hrs : rm2.slots = ms) (hdd : y.cls ≠ "java/lang/invoke/MethodHandle" ∧ y.cls ≠ "java/lang/invoke/VarHandle" ∧ (parseMethodDescriptor y.desc).map (fun d => d.parameters.length) = some n) (hR : rm2.frames + 1 ≤ rm.frames ∧ 8 + (maxL + 11) + rm2.locals ≤ rm.locals) (hn : As.length = n) (hst : st = As.reverse ++ rest) (hcat : (rest.map fun v => v.category).sum ≤ 8) (hd : decode cc pc = .ok (.invokestatic index, 3)) (hcs : cells + mc ≤ rm.cells ∧ slots + ms ≤ rm.slots)
    (kk : vY X nL (pc + 3) (cells + mc) (slots + ms) lv (.int (iZ F) :: rest) μ ex) : vY X nL pc cells slots lv st μ ex :=
  v_callSWi K n hM hG hw hrc hrs hdd hR hn hst hcat hd hcs (fun z μ' q => by rw [q.1, q.2]; exact kk)
theorem v_callSWis {P : Int → Prop} (K : vK X cc nL own Ts rm) (n : Nat) (hM : cI X.1.2.1 y ws rm2 X.2.2.2.2.1 X.2.2.2.2.2.1 X.2.2.2.2.2.2 μ As (fun (z : Int) (ν : Mem) => ν = μ ∧ P z)) (hG : GoodIn Ts (va_wsS own index y ws)) (hw : ws = Cond.codeWith y bytes maxL ret hh :: ws') (hrc : rm2.cells = mc) (hrs : rm2.slots = ms) (hdd : y.cls ≠ "java/lang/invoke/MethodHandle" ∧ y.cls ≠ "java/lang/invoke/VarHandle" ∧ (parseMethodDescriptor y.desc).map (fun d => d.parameters.length) = some n) (hR : rm2.frames + 1 ≤ rm.frames ∧ 8 + (maxL + 11) + rm2.locals ≤ rm.locals) (hn : As.length = n) (hst : st = As.reverse ++ rest) (hcat : (rest.map fun v => v.category).sum ≤ 8) (hd : decode cc pc = .ok (.invokestatic index, 3)) (hcs : cells + mc ≤ rm.cells ∧ slots + ms ≤ rm.slots)
    (kk : ∀ z : Int, P z → vY X nL (pc + 3) (cells + mc) (slots + ms) lv (.int (iZ z) :: rest) μ ex) : vY X nL pc cells slots lv st μ ex :=
  v_callSWi K n hM hG hw hrc hrs hdd hR hn hst hcat hd hcs (fun z μ' q => by rw [q.1]; exact kk z q.2)
theorem v_callSWv {post : Mem → Prop} (K : vK X cc nL own Ts rm) (n : Nat) (hM : cV X.1.2.1 y ws rm2 X.2.2.2.2.1 X.2.2.2.2.2.1 X.2.2.2.2.2.2 μ As post) (hG : GoodIn Ts (va_wsS own index y ws)) (hw : ws = Cond.codeWith y bytes maxL ret hh :: ws') (hrc : rm2.cells = mc) (hrs : rm2.slots = ms) (hdd : y.cls ≠ "java/lang/invoke/MethodHandle" ∧ y.cls ≠ "java/lang/invoke/VarHandle" ∧ (parseMethodDescriptor y.desc).map (fun d => d.parameters.length) = some n) (hR : rm2.frames + 1 ≤ rm.frames ∧ 8 + (maxL + 11) + rm2.locals ≤ rm.locals) (hn : As.length = n) (hst : st = As.reverse ++ rest) (hcat : (rest.map fun v => v.category).sum ≤ 8) (hd : decode cc pc = .ok (.invokestatic index, 3)) (hcs : cells + mc ≤ rm.cells ∧ slots + ms ≤ rm.slots)
    (kk : ∀ (μ' : Mem), post μ' → vY X nL (pc + 3) (cells + mc) (slots + ms) lv rest μ' ex) : vY X nL pc cells slots lv st μ ex := by
  intro H locs ls hP hS h
  have hR' : rm2.frames + 1 ≤ X.1.2.2.2.frames ∧ 8 + (maxL + 11) + rm2.locals ≤ X.1.2.2.2.locals := by rw [K.1.2.2.2.2.2]; exact hR
  have hcs' : cells + mc ≤ X.1.2.2.2.cells ∧ slots + ms ≤ X.1.2.2.2.slots := by rw [K.1.2.2.2.2.2]; exact hcs
  have hM' := hM H.size
  rw [hrc, hrs] at hM'
  refine va_callv (vx_runSW (hh := hh) (As := As) (rest := rest) ⟨K.1.1, K.1.2.1, K.1.2.2.1, K.1.2.2.2.1, K.1.2.2.2.2.1⟩ hM' (vx_cwSW n K.1.2.2.2.2.1 hG hw hrc hrs hdd hR') ⟨kS_fb, kS_go K hP hS⟩ rfl hn h.1 hst (lv_room hcat) hd hcs') hS (fun q _ q2 => aA.sub K hS q q2) (aA.sub K hS) (fun u t H1 locs1 ht hvm hw hB hz1 hk1 hS1 => ?_)
  try dsimp only at hB
  rw [ht] at hB
  exact kk u hw H1 locs1 ls (hP.join hB hk1) hS1 h
theorem v_callSWvr (K : vK X cc nL own Ts rm) (n : Nat) (hM : cV X.1.2.1 y ws rm2 X.2.2.2.2.1 X.2.2.2.2.2.1 X.2.2.2.2.2.2 μ As (fun (ν : Mem) => ν = μ)) (hG : GoodIn Ts (va_wsS own index y ws)) (hw : ws = Cond.codeWith y bytes maxL ret hh :: ws') (hrc : rm2.cells = mc) (hrs : rm2.slots = ms) (hdd : y.cls ≠ "java/lang/invoke/MethodHandle" ∧ y.cls ≠ "java/lang/invoke/VarHandle" ∧ (parseMethodDescriptor y.desc).map (fun d => d.parameters.length) = some n) (hR : rm2.frames + 1 ≤ rm.frames ∧ 8 + (maxL + 11) + rm2.locals ≤ rm.locals) (hn : As.length = n) (hst : st = As.reverse ++ rest) (hcat : (rest.map fun v => v.category).sum ≤ 8) (hd : decode cc pc = .ok (.invokestatic index, 3)) (hcs : cells + mc ≤ rm.cells ∧ slots + ms ≤ rm.slots)
    (kk : vY X nL (pc + 3) (cells + mc) (slots + ms) lv rest μ ex) : vY X nL pc cells slots lv st μ ex :=
  v_callSWv K n hM hG hw hrc hrs hdd hR hn hst hcat hd hcs (fun μ' q => by rw [q]; exact kk)
end VW9
/-! the law's own search for who gains -/
theorem mod_apart {n P i j : Nat} (hn : 1 ≤ n ∧ n ≤ 5) (hP : P ≤ 5) (hi : i < n) (hj : j < n) (h : (P + i) % n = (P + j) % n) : i = j := by
  rcases (show n = 1 ∨ n = 2 ∨ n = 3 ∨ n = 4 ∨ n = 5 by omega) with rfl | rfl | rfl | rfl | rfl <;> omega
theorem mod_hit {n P q : Nat} (hn : 1 ≤ n ∧ n ≤ 5) (hP : P ≤ 5) (hq : q < n) : ∃ j, j < n ∧ (P + j) % n = q := by
  rcases (show n = 1 ∨ n = 2 ∨ n = 3 ∨ n = 4 ∨ n = 5 by omega) with rfl | rfl | rfl | rfl | rfl
  · exact ⟨(q + 5 - P) % 1, by omega, by omega⟩
  · exact ⟨(q + 6 - P) % 2, by omega, by omega⟩
  · exact ⟨(q + 6 - P) % 3, by omega, by omega⟩
  · exact ⟨(q + 8 - P) % 4, by omega, by omega⟩
  · exact ⟨(q + 5 - P) % 5, by omega, by omega⟩
theorem sm_rot {n P : Nat} (f : Nat → Int) (hn : 1 ≤ n ∧ n ≤ 5) (hP : P ≤ n) : sm n (fun j => f ((P + j) % n)) = sm n f := by
  rcases (show n = 1 ∨ n = 2 ∨ n = 3 ∨ n = 4 ∨ n = 5 by omega) with rfl | rfl | rfl | rfl | rfl
  · rcases (show P = 0 ∨ P = 1 by omega) with rfl | rfl <;> simp [sm]
  · rcases (show P = 0 ∨ P = 1 ∨ P = 2 by omega) with rfl | rfl | rfl <;> simp [sm] <;> omega
  · rcases (show P = 0 ∨ P = 1 ∨ P = 2 ∨ P = 3 by omega) with rfl | rfl | rfl | rfl <;> simp [sm] <;> omega
  · rcases (show P = 0 ∨ P = 1 ∨ P = 2 ∨ P = 3 ∨ P = 4 by omega) with rfl | rfl | rfl | rfl | rfl <;> simp [sm] <;> omega
  · rcases (show P = 0 ∨ P = 1 ∨ P = 2 ∨ P = 3 ∨ P = 4 ∨ P = 5 by omega) with rfl | rfl | rfl | rfl | rfl | rfl <;> simp [sm] <;> omega
def gc (ξ : Mem) (q : Nat) : Int := if 0 < gn ξ 0 q then 1 else 0
theorem cg_sm {ξ : Mem} : ∀ n : Nat, cgF ξ 0 n = sm n (gc ξ)
  | 0 => rfl
  | n + 1 => by rw [sm_s, ← cg_sm n]; rfl
/-- the gains and the best ways of the first k, from P on -/
def GK (ξ : Mem) (n P k : Nat) (fg fb : Nat → Int) (gs nx : Int) : Prop := (∀ j, j < k → fg ((P + j) % n) = gn ξ 0 ((P + j) % n) ∧ fb ((P + j) % n) = bits ξ ((P + j) % n) (bst ξ 0 ((P + j) % n))) ∧ (∀ j, k ≤ j → j < n → fg ((P + j) % n) = 0) ∧ gs = sm k (fun j => gc ξ ((P + j) % n)) ∧
  ((nx = -1 ∧ ∀ j, j < k → gn ξ 0 ((P + j) % n) ≤ 0) ∨ ∃ k0, k0 < k ∧ 0 < gn ξ 0 ((P + k0) % n) ∧ nx = (((P + k0) % n : Nat) : Int) ∧ ∀ j, j < k0 → gn ξ 0 ((P + j) % n) ≤ 0)
theorem GK_0 {ξ : Mem} {n P : Nat} {fb : Nat → Int} : GK ξ n P 0 (fun _ => 0) fb 0 (-1) := ⟨fun j hj => by omega, fun _ _ _ => rfl, rfl, Or.inl ⟨rfl, fun j hj => by omega⟩⟩
theorem GK_s {ξ : Mem} {n P k q : Nat} {fg fb : Nat → Int} {gs nx g b gs' nx' : Int} (hn : 1 ≤ n ∧ n ≤ 5) (hP : P ≤ 5) (hk : k < n) (hq : (P + k) % n = q) (h : GK ξ n P k fg fb gs nx) (hg : g = gn ξ 0 q) (hb : b = bits ξ q (bst ξ 0 q)) (hgs : gs' = gs + if 0 < g then 1 else 0) (hnx : (nx' = nx ∧ (0 ≤ nx ∨ g ≤ 0)) ∨ (nx' = (q : Int) ∧ nx < 0 ∧ 0 < g)) : GK ξ n P (k + 1) (upF fg q g) (upF fb q b) gs' nx' := by
  obtain ⟨h1, h2, h3, h4⟩ := h
  have ap : ∀ j, j < n → j ≠ k → (P + j) % n ≠ q := fun j hj hjk e => hjk (mod_apart hn hP hj hk (by rw [hq]; exact e))
  refine ⟨fun j hj => ?_, fun j hj1 hj2 => ?_, ?_, ?_⟩
  · by_cases e : j = k
    · subst e; rw [hq, upF_self, upF_self]; exact ⟨hg, hb⟩
    · rw [upF_ne (ap j (by omega) e), upF_ne (ap j (by omega) e)]
      exact h1 j (by omega)
  · rw [upF_ne (ap j hj2 (by omega))]
    exact h2 j (by omega) hj2
  · rw [sm_s, ← h3, hgs, hq, hg]
    rfl
  · rcases hnx with ⟨e1, e2⟩ | ⟨e1, e2, e3⟩
    · rw [e1]
      rcases h4 with ⟨g1, g2⟩ | ⟨k0, g1, g2, g3, g4⟩
      · refine Or.inl ⟨g1, fun j hj => ?_⟩
        rcases (show j < k ∨ j = k by omega) with e | e
        · exact g2 j e
        · subst e; rw [hq, ← hg]; omega
      · exact Or.inr ⟨k0, by omega, g2, g3, g4⟩
    · rcases h4 with ⟨g1, g2⟩ | ⟨k0, g1, g2, g3, g4⟩
      · exact Or.inr ⟨k, by omega, by rw [hq, ← hg]; exact e3, by rw [hq]; exact e1, g2⟩
      · omega
theorem GK_end {ξ : Mem} {n P : Nat} {fg fb : Nat → Int} {gs nx : Int} (hn : 1 ≤ n ∧ n ≤ 5) (hP : P ≤ n) (hp : pcn ξ = n) (h : GK ξ n P n fg fb gs nx) : (∀ q, q < n → fg q = gn ξ 0 q ∧ fb q = bits ξ q (bst ξ 0 q)) ∧ gs = cgF ξ 0 n ∧ FG ξ 0 P nx := by
  obtain ⟨h1, h2, h3, h4⟩ := h
  refine ⟨fun q hq => ?_, ?_, ?_⟩
  · obtain ⟨j, j1, j2⟩ := mod_hit (P := P) hn (by omega) hq
    have := h1 j j1
    rw [j2] at this
    exact this
  · rw [h3, cg_sm, sm_rot (gc ξ) hn hP]
  · unfold FG
    rw [hp]
    exact h4
/-- the drawn one -/
def ZK (ξ : Mem) (top n0 : Int) (q : Nat) (ch : Int) : Prop := (ch = top ∧ ∀ j, j < q → 0 < gn ξ 0 j → cgF ξ 0 j ≠ n0) ∨ ∃ k, k < q ∧ 0 < gn ξ 0 k ∧ cgF ξ 0 k = n0 ∧ ch = (k : Int)
theorem ZK_0 {ξ : Mem} {top n0 : Int} : ZK ξ top n0 0 top := Or.inl ⟨rfl, fun j hj => by omega⟩
theorem ZK_s {ξ : Mem} {top n0 ch ch' : Int} {q : Nat} (h : ZK ξ top n0 q ch) (h' : (ch' = (q : Int) ∧ 0 < gn ξ 0 q ∧ cgF ξ 0 q = n0) ∨ (ch' = ch ∧ ¬ (0 < gn ξ 0 q ∧ cgF ξ 0 q = n0))) : ZK ξ top n0 (q + 1) ch' := by
  rcases h' with ⟨e1, e2, e3⟩ | ⟨e1, e2⟩
  · exact Or.inr ⟨q, by omega, e2, e3, e1⟩
  · rw [e1]
    rcases h with ⟨g1, g2⟩ | ⟨k, g1, g2⟩
    · refine Or.inl ⟨g1, fun j hj h0 hc => ?_⟩
      rcases (show j < q ∨ j = q by omega) with e | e
      · exact g2 j e h0 hc
      · subst e; exact e2 ⟨h0, hc⟩
    · exact Or.inr ⟨k, by omega, g2⟩
theorem ZK_end {ξ : Mem} {top n0 ch : Int} {n : Nat} (hp : pcn ξ = n) (h0 : 0 ≤ n0 ∧ n0 < cgF ξ 0 n) (h : ZK ξ top n0 n ch) : GA ξ 0 n0 ch ∧ ∃ k : Nat, k < n ∧ ch = (k : Int) := by
  rcases h with ⟨-, g2⟩ | ⟨k, g1, g2, g3, g4⟩
  · obtain ⟨k, k1, k2, k3⟩ := cg_hit h0.1 n h0.2
    exact absurd k3 (g2 k k1 k2)
  · exact ⟨Or.inr ⟨k, by rw [hp]; exact g1, g2, g3, g4⟩, k, g1, g4⟩
