/-! numbers out of the script, told so that no search meets them -/
theorem in_rng0 {σ : SX} {i n w : Int} (e : w = inV σ i n) (hn : 0 < n) : 0 ≤ w ∧ w < n := by
  rw [e]
  exact in_rng σ i hn
theorem in_rng1 {σ : SX} {i n w : Int} (e : w = 1 + inV σ i n) (hn : 0 < n) : 1 ≤ w ∧ w ≤ n := by
  have h := in_rng σ i hn
  rw [e]
  generalize inV σ i n = v at h ⊢
  omega
theorem in_sp {σ : SX} {i : Int} : ∃ sp : Int, iZ (1 + inV σ i 2) = iZ sp ∧ 1 ≤ sp ∧ sp ≤ 2 := ⟨_, rfl, in_rng1 rfl (by decide)⟩
theorem in_nat {σ : SX} {i : Int} {n : Nat} (hn : 0 < n) : ∃ p : Nat, iZ (inV σ i (n : Int)) = iZ (p : Int) ∧ p < n := by
  have h := in_rng σ i (n := (n : Int)) (by omega)
  generalize inV σ i (n : Int) = v at h ⊢
  obtain ⟨p, rfl⟩ := nat_of h.1
  exact ⟨p, rfl, by omega⟩
theorem in_nat2 (σ : SX) (i : Int) (c n : Nat) (hn : 0 < n) : ∃ p : Nat, iZ ((c : Int) + inV σ i (n : Int)) = iZ (p : Int) ∧ c ≤ p ∧ p < c + n := by
  have h := in_rng σ i (n := (n : Int)) (by omega)
  generalize inV σ i (n : Int) = v at h ⊢
  obtain ⟨p, rfl⟩ := nat_of h.1
  exact ⟨c + p, by rw [Int.natCast_add], by omega, by omega⟩
/-! contracts of methods that read the script too -/
def kSx (D : va_G) (cy : Nat → ClassId) (ad : Nat → Nat) (μ : Mem) (σ : SX) (av : List Value) (sz : Nat) : Array Value → State → Prop := va_Pc av (fun U => U.heap.size = sz ∧ HP D cy ad μ U.heap ∧ va_K D vwCl (tyG cy) U ∧ adI ad ∧ exP (aA ad sz) U ∧ lxJ (aA ad sz) U σ)
theorem kSx_fb {D : va_G} {cy : Nat → ClassId} {ad : Nat → Nat} {μ : Mem} {σ : SX} {av : List Value} {sz : Nat} : FrameBlind (kSx D cy ad μ σ av sz) := fun a U g mk q => by
  obtain ⟨q0, q1, qP, qK, qI, qE, qJ⟩ := q
  exact ⟨q0, q1, qP, kx_Kc qK, qI, exP.same (u := U) (U := U.calling g mk a) rfl rfl qE, lxJ.fb9 a U g mk qJ⟩
def cIx (l : Launch) (y : MethodName) (ws : List Cond) (rm : Room) (D : va_G) (cy : Nat → ClassId) (ad : Nat → Nat) (μ : Mem) (σ : SX) (av : List Value) (post : Int → Mem → Prop) : Prop := ∀ sz : Nat, Met l y ws rm (kSx D cy ad μ σ av sz) (kBi D cy ad post sz) rm.cells rm.slots (aA ad sz)
section VX
variable {l : Launch} {y : MethodName} {ws ws' : List Cond} {rm : Room} {D : va_G} {cy : Nat → ClassId} {ad : Nat → Nat} {μ : Mem} {cc : ByteArray} {nL : Nat} {own : String}
theorem m_intx {σ : SX} {av : (Nat → Nat) → List Value} {post : Int → Mem → Prop} {ty : FieldType} (hl : l.stackTraces = false) (hy : plainName y.cls = true) (hws : ws = Cond.code y cc nL (some ty) :: ws') (hown : y.cls = own) (hlen : (lg_sl (av ad)).length ≤ nL) (hn : ∀ z μ', post z μ' → narrow ty (.int (iZ z)) = .int (iZ z))
    (body : ∀ X : VC, vK X cc nL own ws rm → lxJ X.2.2.2.1 X.2.1.1 σ → (∀ (z : Int) (μ' : Mem), post z μ' → ∀ n pc k1 k2 lv, k1 ≤ rm.cells → k2 ≤ rm.slots → decode cc pc = .ok (.ireturn, 1) → vW X n pc k1 k2 lv [.int (iZ z)] μ') → vW X nL 0 0 0 (lv_args 0 (av (vAd X))) [] μ) : cIx l y ws rm D cy ad μ σ (av ad) post := by
  intro sz
  refine Met.ofW (cc := cc) (maxL := nL) (ret := some ty) hy hws ?_
  intro p e s m args below meth c s₁ B hml hv
  obtain ⟨rfl, hsz, hP, hK, hI, hE, hJ⟩ := hv
  have hl2 := lv_entry (av ad) (n := nL) hlen
  rw [lg_entry_eq]
  generalize (lg_sl (av ad) ++ List.replicate (nL - (lg_sl (av ad)).length) Slot.unset).toArray = ls at hl2 ⊢
  subst hsz
  have K : vK ((p, l, e, rm), (s, m, (av ad).toArray, below), (meth, c, MQ below (kBi D cy ad post s.heap.size) (av ad).toArray s rm.cells rm.slots (aA ad s.heap.size)), (aA ad s.heap.size, D, cy, ad)) cc nL own ws rm :=
    ⟨⟨B.exec, B.bytes, hml, by rw [← hown]; exact findClass_of_methodNamed B.named, atoms_spec (ws := ws) B.pre, rfl⟩, hK, hI, fun c hc => aA.in hc, fun q hq => Or.inr hq, hE, hl⟩
  refine body _ K hJ ?_ s.heap [] ls ⟨by rw [List.append_nil]; exact hP, exD_nil⟩ va_S.rf hl2
  intro z μ' hp n pc k1 k2 lv h1 h2 hd H locs ls hPx hS h
  have hP : HP D cy ad μ' H := by have := hPx.1; rw [List.append_nil] at this; exact this
  exact W.widen h1 h2 (W.zret (v := iZ z) B.exec B.bytes B.returns (hn z μ' hp) (fun t ht hW => ⟨⟨iZ z, (z, μ'), rfl, ⟨rfl, hp⟩, by dsimp only; rw [ht]; exact hP⟩, hS.F ht⟩) hS.2.2 hd B.notSynchronized)
end VX
section VY9
variable {X : VC} {cc : ByteArray} {nL : Nat} {own : String} {Ts : List Cond} {rm : Room} {pc cells slots : Nat} {lv lv' : List (Nat × Value)} {st : List Value} {μ μ' : Mem} {ex : va_W}
variable {y : MethodName} {ws ws' : List Cond} {rm2 : Room} {bytes : ByteArray} {maxL n index mc ms : Nat} {ret : Option FieldType} {As rest : List Value}
theorem kSx_go {H : Heap} {locs : List Loc} {av : List Value} {σ : SX} (K : vK X cc nL own Ts rm) (SJ : lxJ X.2.2.2.1 X.2.1.1 σ) (hP : HPx X.2.2.2.1 X.2.2.2.2.1 X.2.2.2.2.2.1 X.2.2.2.2.2.2 μ ex H) (hS : va_S X.2.2.2.1 X.2.1.1.heap H locs) : ∀ U : State, U.heap = H → X.2.1.1.WarmedH U.vm → kSx X.2.2.2.2.1 X.2.2.2.2.2.1 X.2.2.2.2.2.2 μ σ av H.size av.toArray U :=
  fun U hU hW => ⟨rfl, by rw [hU], by rw [hU]; exact hP.HP9, va_K.moved hW.alike K.2.1, K.2.2.1, exP.call hW hU hS (aA.sub K hS) K.2.2.2.2.2.1, SJ.go9 hS (aA.sub K hS) hU hW⟩
theorem v_callSxi {σ : SX} {post : Int → Mem → Prop} (K : vK X cc nL own Ts rm) (SJ : lxJ X.2.2.2.1 X.2.1.1 σ) (n : Nat) (hM : cIx X.1.2.1 y ws rm2 X.2.2.2.2.1 X.2.2.2.2.2.1 X.2.2.2.2.2.2 μ σ As post) (hG : GoodIn Ts (va_wsS own index y ws)) (hw : ws = Cond.code y bytes maxL ret :: ws') (hrc : rm2.cells = mc) (hrs : rm2.slots = ms) (hdd : y.cls ≠ "java/lang/invoke/MethodHandle" ∧ y.cls ≠ "java/lang/invoke/VarHandle" ∧ (parseMethodDescriptor y.desc).map (fun d => d.parameters.length) = some n) (hR : rm2.frames + 1 ≤ rm.frames ∧ 8 + (maxL + 11) + rm2.locals ≤ rm.locals) (hn : As.length = n) (hst : st = As.reverse ++ rest) (hcat : (rest.map fun v => v.category).sum ≤ 8) (hd : decode cc pc = .ok (.invokestatic index, 3)) (hcs : cells + mc ≤ rm.cells ∧ slots + ms ≤ rm.slots)
    (kk : ∀ (z : Int) (μ' : Mem), post z μ' → vY X nL (pc + 3) (cells + mc) (slots + ms) lv (.int (iZ z) :: rest) μ' ex) : vY X nL pc cells slots lv st μ ex := by
  intro H locs ls hP hS h
  have hR' : rm2.frames + 1 ≤ X.1.2.2.2.frames ∧ 8 + (maxL + 11) + rm2.locals ≤ X.1.2.2.2.locals := by rw [K.1.2.2.2.2.2]; exact hR
  have hcs' : cells + mc ≤ X.1.2.2.2.cells ∧ slots + ms ≤ X.1.2.2.2.slots := by rw [K.1.2.2.2.2.2]; exact hcs
  have hM' := hM H.size
  rw [hrc, hrs] at hM'
  refine va_calli (va_runS (As := As) (rest := rest) ⟨K.1.1, K.1.2.1, K.1.2.2.1, K.1.2.2.2.1, K.1.2.2.2.2.1⟩ hM' (va_cwS n K.1.2.2.2.2.1 hG hw hrc hrs hdd hR') ⟨kSx_fb, kSx_go K SJ hP hS⟩ rfl hn h.1 hst (lv_room hcat) hd hcs') hS (fun q _ q2 => aA.sub K hS q q2) (aA.sub K hS) (fun r u t H1 locs1 ht hvm hw hB hz1 hk1 hS1 => ?_)
  obtain ⟨z, μ'⟩ := u
  obtain ⟨rfl, hp⟩ := hw
  try dsimp only at hB
  rw [ht] at hB
  exact kk z μ' hp H1 locs1 ls (hP.join hB hk1) hS1 h
end VY9
