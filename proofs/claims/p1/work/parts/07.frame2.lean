theorem ex_hatN {args : Array Value} {s : State} {A : Nat → Prop} {own : String} {ic : Nat} (h : exP A s) (h1 : ∀ w ∈ (vn_at own ic).filter goodWord, w.before args s = true) (h2 : ∀ w ∈ (vn_at own ic).filter (fun w => !goodWord w), w ∈ [Cond.castable vn_X vn_X, .declares (Bundle.initS "java/lang/RuntimeException"), .declares (Bundle.initS "java/lang/Exception"), .declares (Bundle.initS Bundle.tN)]) : ∀ w ∈ vn_at own ic, w.before args s = true := by
  obtain ⟨-, -, h4, h5, h6, h7, -⟩ := h
  exact vx_hat h1 h2 (vx_c (va_Nw.use rfl (h4 _ (by decide +kernel))) (vx_c (va_Nw.use rfl h5) (vx_c (va_Nw.use rfl h6) (vx_c (va_Nw.use rfl h7) vx_n))))
theorem kx_nar (x : Int32) (h0 : 0 ≤ x.toInt) (h1 : x.toInt ≤ 65535) : vp_nar .char x = x := by
  unfold vp_nar
  rw [(kx_chr x h0 h1).1]
/-- what a walk with lists needs beside: the empty list's own array, calls by Iterator, a field of a nest mate, arrays in lists -/
def deP (cy : Nat → ClassId) (de : Nat) (A : Nat → Prop) (U : State) (H : Heap) : Prop := va_Z "java/util/ArrayList" "DEFAULTCAPACITY_EMPTY_ELEMENTDATA" "[Ljava/lang/Object;" (.ref de) A U H ∧ va_T (.object "java/lang/Object") de 0 (fun _ => .null) A U H ∧ va_Fw RJx35411 ⟨"java/util/Iterator", "hasNext", "()Z"⟩ yJx35411_hasNext_aae02 U ∧ va_Fw RJx35411 ⟨"java/util/Iterator", "next", "()Ljava/lang/Object;"⟩ yJx35411_next_0502b U ∧ va_Nw (.fieldLinkNest RJx35411 28 "java/util/ArrayList" "size" "I" "java/util/ArrayList") U ∧ va_Nw (.castable "[I" "java/lang/Object") U
theorem deP.same {cy : Nat → ClassId} {de : Nat} {A : Nat → Prop} {u U : State} (hv : U.vm = u.vm) (hh : U.heap = u.heap) (h : deP cy de A u u.heap) : deP cy de A U U.heap := by
  obtain ⟨h1, h2, h3, h4, h5, h6⟩ := h
  have hal : u.vm.Alike U.vm := hv ▸ Vm.Alike.refl u.vm
  rw [hh]
  exact ⟨va_Z.moved hal h1, va_T.moved hal h2, va_Fw.moved (by decide) hal h3, va_Fw.moved (by decide) hal h4, va_Nw.same rfl hv.symm h5, va_Nw.same rfl hv.symm h6⟩
theorem deP.call {cy : Nat → ClassId} {de : Nat} {A B : Nat → Prop} {s U : State} {H : Heap} {locs : List Loc} (hW : s.WarmedH U.vm) (hU : U.heap = H) (hS : va_S A s.heap H locs) (hB : ∀ q, B q → A q) (h : deP cy de A s s.heap) : deP cy de B U U.heap := by
  obtain ⟨h1, h2, h3, h4, h5, h6⟩ := h
  rw [hU]
  exact ⟨va_Z.moved hW.alike (va_Z.narrow (va_Z.kept h1 hS.2.1) hB), va_T.moved hW.alike (va_T.narrow (va_T.kept h2 hS.2.1) hB), va_Fw.moved (by decide) hW.alike h3, va_Fw.moved (by decide) hW.alike h4, va_Nw.warmF hW h5, va_Nw.warmC hW h6⟩
def kRY (D : va_G) (cy : Nat → ClassId) (de : Nat) (av : List Value) (ws : va_W) : Array Value → State → Prop := va_Pc av (fun U => va_P D vwCl ws U.heap ∧ va_K D vwCl (tyG cy) U ∧ exP (fun _ => False) U ∧ deP cy de (fun _ => False) U U.heap)
def kWY (D : va_G) (cy : Nat → ClassId) (de : Nat) (av : List Value) (ws : va_W) (sz : Nat) : Array Value → State → Prop := va_Pc av (fun U => U.heap.size = sz ∧ va_P D vwCl ws U.heap ∧ va_K D vwCl (tyG cy) U ∧ va_D (fun _ => True) ws ∧ exP (va_A ws sz) U ∧ deP cy de (va_A ws sz) U U.heap)
theorem kRY_fb {D : va_G} {cy : Nat → ClassId} {de : Nat} {av : List Value} {ws : va_W} : FrameBlind (kRY D cy de av ws) := fun a U g mk q => by
  obtain ⟨q0, qP, qK, qE, qY⟩ := q
  exact ⟨q0, qP, kx_Kc qK, exP.same (u := U) (U := U.calling g mk a) rfl rfl qE, deP.same (u := U) (U := U.calling g mk a) rfl rfl qY⟩
theorem kWY_fb {D : va_G} {cy : Nat → ClassId} {de : Nat} {av : List Value} {ws : va_W} {sz : Nat} : FrameBlind (kWY D cy de av ws sz) := fun a U g mk q => by
  obtain ⟨q0, q1, qP, qK, qD, qE, qY⟩ := q
  exact ⟨q0, q1, qP, kx_Kc qK, qD, exP.same (u := U) (U := U.calling g mk a) rfl rfl qE, deP.same (u := U) (U := U.calling g mk a) rfl rfl qY⟩
theorem kRY_go {D : va_G} {cy : Nat → ClassId} {de : Nat} {av : List Value} {ws : va_W} {s : State} {H : Heap} {A : Nat → Prop} {locs : List Loc} (hP : va_P D vwCl ws H) (hK : va_K D vwCl (tyG cy) s) (hE : exP A s) (hY : deP cy de A s s.heap) (hS : va_S A s.heap H locs) : ∀ U : State, U.heap = H → s.WarmedH U.vm → kRY D cy de av ws av.toArray U := fun U hU hW => ⟨rfl, by rw [hU]; exact hP, va_K.moved hW.alike hK, exP.call hW hU hS (fun _ h => h.elim) hE, deP.call hW hU hS (fun _ h => h.elim) hY⟩
theorem kWY_go {D : va_G} {cy : Nat → ClassId} {de : Nat} {av : List Value} {ws : va_W} {s : State} {H : Heap} {A : Nat → Prop} {locs : List Loc} (hP : va_P D vwCl ws H) (hK : va_K D vwCl (tyG cy) s) (hD : va_D A ws) (hF : ∀ q, va_A ws H.size q → A q) (hE : exP A s) (hY : deP cy de A s s.heap) (hS : va_S A s.heap H locs) : ∀ U : State, U.heap = H → s.WarmedH U.vm → kWY D cy de av ws H.size av.toArray U := fun U hU hW => ⟨rfl, by rw [hU], by rw [hU]; exact hP, va_K.moved hW.alike hK, hD.weaken (fun _ _ _ _ => trivial), exP.call hW hU hS hF hE, deP.call hW hU hS hF hY⟩
/-- an array of ints may stand in an array of objects -/
theorem kx_anyI {D : va_G} {cy : Nat → ClassId} {de : Nat} {A : Nat → Prop} {s : State} {H H0 : Heap} {ws : va_W} {a n : Nat} {f : Nat → Int32} (hK : va_K D vwCl (tyG cy) s) (hY : deP cy de A s H0) (hP : va_P D vwCl ws H) (q0 : Nat) (he : ws[q0]? = some (a, .inl (cy 1, n, .inl f))) : va_Any "java/lang/Object" s H a := by
  obtain ⟨c3, c4, h3, h4, h5⟩ := Cond.castable_spec (va_Nw.use (A := #[]) rfl hY.2.2.2.2.2)
  have hn := va_nm_int (hK.2 1 _ rfl).2
  have e1 : c3 = cy 1 := Option.some.inj (h3.symm.trans hn)
  subst e1
  obtain ⟨kA, hkA, -⟩ := ((hK.2 1 _ rfl).1 n (fun j => .int (f j))).2
  refine ⟨_, hP q0 _ he, rfl, ⟨kA, hkA⟩, fun comp hc => ?_⟩
  have e2 : comp = c4 := Option.some.inj (hc.symm.trans h4)
  subst e2
  exact h5
theorem kx_inc {x y : Int32} (h : y = x + 1) (hb : 0 ≤ x.toInt ∧ x.toInt < 2147483647) : y.toInt = x.toInt + 1 := by
  obtain ⟨j, hj, rfl⟩ := nI_of (x := x) (fun h => by have := kx_lt h; have e0 : (0 : Int32).toInt = 0 := rfl; omega)
  rw [nI_toInt hj] at hb
  rw [h, nI_1, nI_toInt hj, nI_toInt (by omega)]
  omega
/-- a loop by a counter: what holds at its head, its room by the counter -/
theorem kx_loop {p : Program} {l : Launch} {e : Env} {R : Room} {s : State} {m : MethodId} {args : Array Value} {below : List Frame} {meth : Method} {c : Code} {Q : State → Prop} {pc : Nat} (N : Int) (cf sf : Int32 → Nat) (I : Int32 → Heap → List Loc → Array Slot → Prop) (hI : ∀ k H locs ls, I k H locs ls → k.toInt ≤ N)
    (step : ∀ (k : Int32) (H : Heap) (locs : List Loc) (ls : Array Slot), I k H locs ls → (∀ (k' : Int32) (H' : Heap) (locs' : List Loc) (ls' : Array Slot), k'.toInt = k.toInt + 1 → I k' H' locs' ls' → W p l e R s m args below meth c H' locs' (cf k') (sf k') Q (F0 m pc ls' [])) → W p l e R s m args below meth c H locs (cf k) (sf k) Q (F0 m pc ls [])) :
    ∀ (k : Int32) (H : Heap) (locs : List Loc) (ls : Array Slot), I k H locs ls → W p l e R s m args below meth c H locs (cf k) (sf k) Q (F0 m pc ls []) := by
  have main : ∀ (n : Nat) (k : Int32) (H : Heap) (locs : List Loc) (ls : Array Slot), N - k.toInt < n → I k H locs ls → W p l e R s m args below meth c H locs (cf k) (sf k) Q (F0 m pc ls []) := by
    intro n
    induction n with
    | zero =>
      intro k H locs ls hn h
      have := hI k H locs ls h
      omega
    | succ n ih =>
      intro k H locs ls hn h
      exact step k H locs ls h (fun k' H' locs' ls' hk h' => ih k' H' locs' ls' (by omega) h')
  intro k H locs ls h
  exact main (N - k.toInt + 1).toNat k H locs ls (by have := hI k H locs ls h; omega) h
