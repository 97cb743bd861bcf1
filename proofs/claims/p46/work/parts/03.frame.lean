abbrev vwCl : List vw_C := [(RX0, TX0, 4), (RX1, TX1, 2), (RX2, TX2, 5), (RX3, TX3, 3), (RX4, TX4, 6), (RX5, TX5, 7), (RX6, TX6, 13), (RX7, TX7, 7)]
/-! preconditions, class ids of arrays, what a throw needs; numbers by their Int -/
abbrev tyG (cy : Nat → ClassId) : List (ClassId × FieldType) := [(cy 0, .int), (cy 1, .long), (cy 2, .object RX5), (cy 3, .object RX4)]
/-- two known array classes of one component are one -/
theorem kx_ty {D : va_G} {cl : List vw_C} {tys : List (ClassId × FieldType)} {s : State} (h : va_K D cl tys s) (i j : Nat) {c1 c2 : ClassId} {t : FieldType} (hi : tys[i]? = some (c1, t)) (hj : tys[j]? = some (c2, t)) : c1 = c2 := by
  have h1 := (h.2 i _ hi).2
  have h2 := (h.2 j _ hj).2
  cases t with
  | object C =>
    obtain ⟨_, _, _, _, _, a1⟩ := h1
    obtain ⟨_, _, _, _, _, a2⟩ := h2
    exact Option.some.inj (a1.symm.trans a2)
  | _ => exact Option.some.inj (h1.symm.trans h2)
/-- the texts of the class's throws -/
def ex_tx : List (Nat × String) := [(117, "closed, or a way that the player has"), (125, "the player has all its ways"), (159, "the way is not open"), (223, "the player has no way"), (231, "the player is led, or has no way"), (242, "no such rule"), (362, "a number is out of range"), (364, "no such kind"), (368, "there are all the resources"), (370, "there are all the players"), (374, "no such resource"), (377, "no such player"), (379, "no such way"), (97, "no resources, or one that does not exist")]
def ex_xs : List String := ["java/lang/IllegalArgumentException", "java/lang/IllegalStateException", "java/lang/IndexOutOfBoundsException", "java/lang/UnsupportedOperationException"]
def ex_S (U : State) : Prop := ∀ q ∈ ex_tx, ∃ a, vk_R RX7 q.1 q.2 a U
def ex_ao : List String := [RX5, RX4]
def ex_ne : List (String × Nat × MethodName × String) := [(RX7, 42, yX1_init, RX7), (RX0, 71, yX7_hasBit, RX7), (RX6, 132, yX7_hasBit, RX7)]
def ex_C (U : State) : Prop := (∀ X ∈ ex_xs, va_Nw (.castable X X) U) ∧ va_Nw (.declares (Bundle.initS "java/lang/RuntimeException")) U ∧ va_Nw (.declares (Bundle.initS "java/lang/Exception")) U ∧ va_Nw (.declares (Bundle.initS Bundle.tN)) U ∧ (∀ X ∈ ex_xs, ∀ Y ∈ ex_xs, X ≠ Y → va_Nc X Y U) ∧ (∀ C ∈ ex_ao, va_AO C U) ∧ (∀ q ∈ ex_ne, va_Nw (.methodLinkNest q.1 q.2.1 q.2.2.1 q.2.2.2) U)
theorem ex_C.same {u U : State} (hv : U.vm = u.vm) (h : ex_C u) : ex_C U := by
  obtain ⟨h1, h2, h3, h4, h5, h6, h9⟩ := h
  have hal : u.vm.Alike U.vm := hv ▸ Vm.Alike.refl u.vm
  exact ⟨fun X hX => va_Nw.same rfl hv.symm (h1 X hX), va_Nw.same rfl hv.symm h2, va_Nw.same rfl hv.symm h3, va_Nw.same rfl hv.symm h4, fun X hX Y hY hn => va_Nc.moved hal (h5 X hX Y hY hn), fun C hC => va_AO.moved hal (h6 C hC), fun q hq => va_Nw.same rfl hv.symm (h9 q hq)⟩
theorem ex_C.warm {s U : State} (hW : s.WarmedH U.vm) (h : ex_C s) : ex_C U := by
  obtain ⟨h1, h2, h3, h4, h5, h6, h9⟩ := h
  exact ⟨fun X hX => va_Nw.warmC hW (h1 X hX), va_Nw.warmD hW h2, va_Nw.warmD hW h3, va_Nw.warmD hW h4, fun X hX Y hY hn => va_Nc.moved hW.alike (h5 X hX Y hY hn), fun C hC => va_AO.moved hW.alike (h6 C hC), fun q hq => va_Nw.warmM hW (h9 q hq)⟩
def ex_Z (A : Nat → Prop) (U : State) (H : Heap) : Prop := vx_Zq Bundle.tN "UNASSIGNED_STACK" Bundle.steD A U H ∧ vx_Zq Bundle.tN "SUPPRESSED_SENTINEL" Bundle.listD A U H
/-- all that a throw of the class's own needs of the state -/
def exP (A : Nat → Prop) (U : State) : Prop := ex_Z A U U.heap ∧ ex_S U ∧ ex_C U
theorem exP.same {A : Nat → Prop} {u U : State} (hv : U.vm = u.vm) (hh : U.heap = u.heap) (h : exP A u) : exP A U := by
  obtain ⟨⟨h1, h2⟩, h3, h4⟩ := h
  have hal : u.vm.Alike U.vm := hv ▸ Vm.Alike.refl u.vm
  refine ⟨⟨?_, ?_⟩, fun q hq => ?_, ex_C.same hv h4⟩
  · rw [hh]; exact vx_Zq.moved hal h1
  · rw [hh]; exact vx_Zq.moved hal h2
  · obtain ⟨a, ha⟩ := h3 q hq
    exact ⟨a, vk_R.same hv ha⟩
theorem exP.call {A B : Nat → Prop} {s U : State} {H : Heap} {locs : List Loc} (hW : s.WarmedH U.vm) (hU : U.heap = H) (hS : va_S A s.heap H locs) (hB : ∀ q, B q → A q) (h : exP A s) : exP B U := by
  obtain ⟨⟨h1, h2⟩, h3, h4⟩ := h
  refine ⟨⟨?_, ?_⟩, fun q hq => ?_, ex_C.warm hW h4⟩
  · rw [hU]; exact vx_Zq.moved hW.alike (vx_Zq.narrow (vx_Zq.kept h1 hS.2.1) hB)
  · rw [hU]; exact vx_Zq.moved hW.alike (vx_Zq.narrow (vx_Zq.kept h2 hS.2.1) hB)
  · obtain ⟨a, ha⟩ := h3 q hq
    exact ⟨a, vk_R.warm hW ha⟩
theorem exP.ao5 {A : Nat → Prop} {s : State} (h : exP A s) : va_AO RX5 s := h.2.2.2.2.2.2.2.1 _ (by decide +kernel)
theorem exP.ao6 {A : Nat → Prop} {s : State} (h : exP A s) : va_AO RX4 s := h.2.2.2.2.2.2.2.1 _ (by decide +kernel)
theorem exP.nest {A : Nat → Prop} {s : State} (h : exP A s) (q : String × Nat × MethodName × String) (hq : q ∈ ex_ne) : va_Nw (.methodLinkNest q.1 q.2.1 q.2.2.1 q.2.2.2) s := h.2.2.2.2.2.2.2.2 q hq
theorem exP.cast {A : Nat → Prop} {s : State} {args : Array Value} (h : exP A s) (X : String) (hX : X ∈ ex_xs) : (Cond.castable X X).before args s = true := va_Nw.use rfl (h.2.2.1 X hX)
theorem exP.nc {A : Nat → Prop} {s : State} (h : exP A s) (X Y : String) (hX : X ∈ ex_xs) (hY : Y ∈ ex_xs) (hn : X ≠ Y) : va_Nc X Y s := h.2.2.2.2.2.2.1 X hX Y hY hn
/-- the words of a throw -/
theorem ex_hat {args : Array Value} {s : State} {A : Nat → Prop} {own X : String} {ic : Nat} {names : List String} (h : exP A s) (h1 : ∀ w ∈ (vx_atS own ic X names).filter goodWord, w.before args s = true) (h2 : ∀ w ∈ (vx_atS own ic X names).filter (fun w => !goodWord w), w ∈ [Cond.castable X X, .declares (Bundle.initS "java/lang/RuntimeException"), .declares (Bundle.initS "java/lang/Exception"), .declares (Bundle.initS Bundle.tN)]) (hX : X ∈ ex_xs) : ∀ w ∈ vx_atS own ic X names, w.before args s = true := by
  obtain ⟨-, -, h4, h5, h6, h7, -⟩ := h
  exact vx_hat h1 h2 (vx_c (va_Nw.use rfl (h4 X hX)) (vx_c (va_Nw.use rfl h5) (vx_c (va_Nw.use rfl h6) (vx_c (va_Nw.use rfl h7) vx_n))))
/-- starts: a reader's (nothing is changed), a writer's (its world may change); with X: it may throw -/
def kR (D : va_G) (cy : Nat → ClassId) (av : List Value) (ws : va_W) : Array Value → State → Prop := va_Pc av (fun U => va_P D vwCl ws U.heap ∧ va_K D vwCl (tyG cy) U)
def kRX (D : va_G) (cy : Nat → ClassId) (av : List Value) (ws : va_W) : Array Value → State → Prop := va_Pc av (fun U => va_P D vwCl ws U.heap ∧ va_K D vwCl (tyG cy) U ∧ exP (fun _ => False) U)
def kW (D : va_G) (cy : Nat → ClassId) (av : List Value) (ws : va_W) (sz : Nat) : Array Value → State → Prop := va_Pc av (fun U => U.heap.size = sz ∧ va_P D vwCl ws U.heap ∧ va_K D vwCl (tyG cy) U ∧ va_D (fun _ => True) ws)
def kWX (D : va_G) (cy : Nat → ClassId) (av : List Value) (ws : va_W) (sz : Nat) : Array Value → State → Prop := va_Pc av (fun U => U.heap.size = sz ∧ va_P D vwCl ws U.heap ∧ va_K D vwCl (tyG cy) U ∧ va_D (fun _ => True) ws ∧ exP (va_A ws sz) U)
theorem kx_Kc {D : va_G} {cl : List vw_C} {tys : List (ClassId × FieldType)} {a : Array Value} {U : State} {g : JFrame} {mk : MethodId} (h : va_K D cl tys U) : va_K D cl tys (U.calling g mk a) := va_K.moved (u := U) (U := U.calling g mk a) (Vm.Alike.refl U.vm) h
theorem kR_fb {D : va_G} {cy : Nat → ClassId} {av : List Value} {ws : va_W} : FrameBlind (kR D cy av ws) := fun _ _ _ _ q => by
  obtain ⟨q0, qP, qK⟩ := q
  exact ⟨q0, qP, kx_Kc qK⟩
theorem kRX_fb {D : va_G} {cy : Nat → ClassId} {av : List Value} {ws : va_W} : FrameBlind (kRX D cy av ws) := fun a U g mk q => by
  obtain ⟨q0, qP, qK, qE⟩ := q
  exact ⟨q0, qP, kx_Kc qK, exP.same (u := U) (U := U.calling g mk a) rfl rfl qE⟩
theorem kW_fb {D : va_G} {cy : Nat → ClassId} {av : List Value} {ws : va_W} {sz : Nat} : FrameBlind (kW D cy av ws sz) := fun _ _ _ _ q => by
  obtain ⟨q0, q1, qP, qK, qD⟩ := q
  exact ⟨q0, q1, qP, kx_Kc qK, qD⟩
theorem kWX_fb {D : va_G} {cy : Nat → ClassId} {av : List Value} {ws : va_W} {sz : Nat} : FrameBlind (kWX D cy av ws sz) := fun a U g mk q => by
  obtain ⟨q0, q1, qP, qK, qD, qE⟩ := q
  exact ⟨q0, q1, qP, kx_Kc qK, qD, exP.same (u := U) (U := U.calling g mk a) rfl rfl qE⟩
theorem kR_go {D : va_G} {cy : Nat → ClassId} {av : List Value} {ws : va_W} {s : State} {H : Heap} (hP : va_P D vwCl ws H) (hK : va_K D vwCl (tyG cy) s) : ∀ U : State, U.heap = H → s.WarmedH U.vm → kR D cy av ws av.toArray U := fun U hU hW => ⟨rfl, by rw [hU]; exact hP, va_K.moved hW.alike hK⟩
theorem kRX_go {D : va_G} {cy : Nat → ClassId} {av : List Value} {ws : va_W} {s : State} {H : Heap} {A : Nat → Prop} {locs : List Loc} (hP : va_P D vwCl ws H) (hK : va_K D vwCl (tyG cy) s) (hE : exP A s) (hS : va_S A s.heap H locs) : ∀ U : State, U.heap = H → s.WarmedH U.vm → kRX D cy av ws av.toArray U := fun U hU hW => ⟨rfl, by rw [hU]; exact hP, va_K.moved hW.alike hK, exP.call hW hU hS (fun _ h => h.elim) hE⟩
theorem kW_go {D : va_G} {cy : Nat → ClassId} {av : List Value} {ws : va_W} {s : State} {H : Heap} {A : Nat → Prop} (hP : va_P D vwCl ws H) (hK : va_K D vwCl (tyG cy) s) (hD : va_D A ws) : ∀ U : State, U.heap = H → s.WarmedH U.vm → kW D cy av ws H.size av.toArray U := fun U hU hW => ⟨rfl, by rw [hU], by rw [hU]; exact hP, va_K.moved hW.alike hK, hD.weaken (fun _ _ _ _ => trivial)⟩
theorem kWX_go {D : va_G} {cy : Nat → ClassId} {av : List Value} {ws : va_W} {s : State} {H : Heap} {A : Nat → Prop} {locs : List Loc} (hP : va_P D vwCl ws H) (hK : va_K D vwCl (tyG cy) s) (hD : va_D A ws) (hF : ∀ q, va_A ws H.size q → A q) (hE : exP A s) (hS : va_S A s.heap H locs) : ∀ U : State, U.heap = H → s.WarmedH U.vm → kWX D cy av ws H.size av.toArray U := fun U hU hW => ⟨rfl, by rw [hU], by rw [hU]; exact hP, va_K.moved hW.alike hK, hD.weaken (fun _ _ _ _ => trivial), exP.call hW hU hS hF hE⟩
/-- behind a reader's call: the world is what it was -/
theorem kx_kept {D : va_G} {cl : List vw_C} {ws : va_W} {H H1 : Heap} (hP : va_P D cl ws H) (hk : ∀ q : Nat, q < H.size → ¬ (fun _ : Nat => False) q → H1[q]? = H[q]?) : va_P D cl ws H1 := hP.kept (fun k q hq => hk q.1 ((hP k q hq).lt) (fun h => h))
/-- the top by an equal reference -/
theorem kx_rf {p : Program} {l : Launch} {e : Env} {R : Room} {s : State} {m : MethodId} {args : Array Value} {below : List Frame} {meth : Method} {c : Code} {H : Heap} {locs : List Loc} {cells slots : Nat} {Q : State → Prop} {pc : Nat} {ls : Array Slot} {rest : List Value} {o : Option Nat} {a : Nat} (h : o = some a) (k : W p l e R s m args below meth c H locs cells slots Q (F0 m pc ls (.ref a :: rest))) : W p l e R s m args below meth c H locs cells slots Q (F0 m pc ls (va_rf o :: rest)) := by
  subst h
  exact k
theorem kx_lt {a b : Int32} (h : a < b) : a.toInt < b.toInt := Int32.lt_iff_toInt_lt.mp h
theorem kx_nlt {a b : Int32} (h : ¬ a < b) : b.toInt ≤ a.toInt := Int.not_lt.mp (fun q => h (Int32.lt_iff_toInt_lt.mpr q))
theorem kx_le {a b : Int32} (h : a ≤ b) : a.toInt ≤ b.toInt := Int32.le_iff_toInt_le.mp h
theorem kx_nle {a b : Int32} (h : ¬ a ≤ b) : b.toInt < a.toInt := Int.not_le.mp (fun q => h (Int32.le_iff_toInt_le.mpr q))
theorem kx_eq {a b : Int32} (h : a = b) : a.toInt = b.toInt := congrArg _ h
theorem kx_ne {a b : Int32} (h : ¬ a = b) : a.toInt ≠ b.toInt := fun q => h (Int32.toInt_inj.mp q)
theorem kx_eqn {a b : Int32} (h : ¬ a ≠ b) : a.toInt = b.toInt := congrArg _ (Classical.byContradiction h)
theorem kx_in (n N : Nat) {x : Int32} (hx : x = nI n) (h : n < N ∧ n < 2 ^ 31) (hN : N < 2 ^ 31) : vp_in x N := by
  rw [hx]
  exact vp_in_nI h.1 hN
theorem kx_thr {A : Nat → Prop} {s t : State} {H : Heap} {locs : List Loc} (hS : va_S A s.heap H locs) (hz : H.size ≤ t.heap.size) (hk : ∀ q : Nat, q < H.size → t.heap[q]? = H[q]?) : va_F A s t := ⟨Nat.le_trans hS.1 hz, fun q h1 h2 => (hk q (Nat.lt_of_lt_of_le h1 hS.1)).trans (hS.2.1 q h1 h2)⟩
theorem kx_chr (x : Int32) (h0 : 0 ≤ x.toInt) (h1 : x.toInt ≤ 65535) : narrow .char (.int x) = .int x ∧ fits .char (.int x) = true := by
  obtain ⟨j, hj, rfl⟩ := nI_of (x := x) (fun h => by have := kx_lt h; have e0 : (0 : Int32).toInt = 0 := rfl; omega)
  rw [nI_toInt hj] at h1
  exact pk_charN (by omega)
theorem kx_preP {D : va_G} {cl : List vw_C} {X Y : va_W} {H : Heap} (h : va_P D cl (X ++ Y) H) : va_P D cl X H := fun k q hk => h k q (by
  have hl : k < X.length := (List.getElem?_eq_some_iff.mp hk).1
  rw [List.getElem?_append_left hl]
  exact hk)
theorem kx_preD {A : Nat → Prop} {X Y : va_W} (h : va_D A (X ++ Y)) : va_D A X := by
  have hk' : ∀ (k : Nat) (q : Nat × va_E), X[k]? = some q → (X ++ Y)[k]? = some q := fun k q hk => by
    have hl : k < X.length := (List.getElem?_eq_some_iff.mp hk).1
    rw [List.getElem?_append_left hl]
    exact hk
  exact ⟨fun i j p q hi hj => h.1 i j p q (hk' i p hi) (hk' j q hj), fun k q hk => h.2 k q (hk' k q hk)⟩
theorem kx_shr0 (y : Int32) : (0 : Int32) >>> y = 0 := by
  apply Int32.toBitVec_inj.mp
  simp [Int32.toBitVec_shiftRight]
theorem kx_uu {f : Nat → Int32} {k : Nat} {a b : Int32} : upd (upd f k a) k b = upd f k b := funext fun j => by
  by_cases h : j = k <;> simp [upd, h]
theorem kx_nar (x : Int32) (h0 : 0 ≤ x.toInt) (h1 : x.toInt ≤ 65535) : vp_nar .char x = x := by
  unfold vp_nar
  rw [(kx_chr x h0 h1).1]
theorem kx_inc {x y : Int32} (h : y = x + 1) (hb : 0 ≤ x.toInt ∧ x.toInt < 2147483647) : y.toInt = x.toInt + 1 := by
  obtain ⟨j, hj, rfl⟩ := nI_of (x := x) (fun h => by have := kx_lt h; have e0 : (0 : Int32).toInt = 0 := rfl; omega)
  rw [nI_toInt hj] at hb
  rw [h, nI_1, nI_toInt hj, nI_toInt (by omega)]
  omega
/-- a loop by a counter: what holds at its head, its room by the counter -/
theorem kx_loop {p : Program} {l : Launch} {e : Env} {R : Room} {s : State} {m : MethodId} {args : Array Value} {below : List Frame} {meth : Method} {c : Code} {Q : State → Prop} {pc : Nat} (N : Int) (cf sf : Int32 → Nat) (I : Int32 → Heap → List Loc → Array Slot → Prop) (hI : ∀ k H locs ls, I k H locs ls → k.toInt ≤ N)
    (step : ∀ (k : Int32) (H : Heap) (locs : List Loc) (ls : Array Slot), I k H locs ls → (∀ (k' : Int32) (H' : Heap) (locs' : List Loc) (ls' : Array Slot), k'.toInt = k.toInt + 1 → I k' H' locs' ls' → W p l e R s m args below meth c H' locs' (cf k') (sf k') Q (F0 m pc ls' [])) → W p l e R s m args below meth c H locs (cf k) (sf k) Q (F0 m pc ls [])) :
    ∀ (k : Int32) (H : Heap) (locs : List Loc) (ls : Array Slot), I k H locs ls → W p l e R s m args below meth c H locs (cf k) (sf k) Q (F0 m pc ls []) := by
  have main : ∀ (n : Nat) (k : Int32) (H : Heap) (locs : List Loc) (ls : Array Slot), N - k.toInt < n → I k H locs ls → W p l e R s m args below meth c H locs (cf k) (sf k) Q (F0 m pc ls []) := by
    intro n
    induction n with
    | zero =>
      intro k H locs ls hn h
      have := hI k H locs ls h
      omega
    | succ n ih =>
      intro k H locs ls hn h
      exact step k H locs ls h (fun k' H' locs' ls' hk h' => ih k' H' locs' ls' (by omega) h')
  intro k H locs ls h
  exact main (N - k.toInt + 1).toNat k H locs ls (by have := hI k H locs ls h; omega) h
