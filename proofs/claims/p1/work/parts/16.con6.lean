set_option maxHeartbeats 4000000 in
set_option maxRecDepth 100000 in
theorem k_X7_hasBit_6 (l : Launch) (D : va_G) (cy : Nat → ClassId) : Met l yX7_hasBit wsX7_hasBit ({ frames := 0, cells := 0, slots := 0, locals := 0 }) (kR D cy [.int 0, .int 6] []) (va_Qi (fun (r : Int32) (_ : Unit) => r = 0 ∧ True) (fun (_ : Unit) (_ : State) => True) (fun _ : Nat => False)) 0 0 (fun _ : Nat => False) := by
  refine Met.ofW (cc := cX7_hasBit) (maxL := 2) (ret := (some .boolean)) (by decide) rfl ?_
  intro p e s m args below meth c s₁ B hml hv
  obtain ⟨rfl, hP, hK⟩ := hv
  have hx := B.exec
  have hb := B.bytes
  have hr := B.returns
  have hts := atoms_spec (ws := wsX7_hasBit) B.pre
  have hown : s.vm.findClass RX7 = some m.cls := findClass_of_methodNamed B.named
  have hlocks := B.notSynchronized
  have hS : va_S (fun _ : Nat => False) s.heap s.heap [] := va_S.rf
  have hP : va_P D vwCl [] s.heap := hP
  have hl := lv_entry ([.int 0, .int 6]) (n := 2) (Nat.le_of_ble_eq_true rfl)
  rw [lg_entry_eq]
  generalize (lg_sl ([.int 0, .int 6]) ++ List.replicate (2 - (lg_sl ([.int 0, .int 6])).length) Slot.unset).toArray = ls at hl ⊢
  have hl : lv_has ls 2 [(0, .int 0), (1, .int 6)] := hl
  refine lv_iload_n hx hb dX7_hasBit_0 rfl (lv_at hl 0 rfl) ?_
  refine lv_iload_n hx hb dX7_hasBit_1 rfl (lv_at hl 1 rfl) ?_
  refine lv_ishr hx hb dX7_hasBit_2 ?_
  refine lv_topi (fun v_1 ev_1 => ?_)
  obtain rfl : v_1 = 0 := ev_1.trans (by decide)
  refine lv_iconst (v := 1) hx hb dX7_hasBit_3 (by decide) ?_
  refine lv_iand hx hb dX7_hasBit_4 ?_
  refine lv_topi (fun v_2 ev_2 => ?_)
  obtain rfl : v_2 = 0 := ev_2.trans (by decide)
  refine lv_if_eq (tgt := 12) hx hb dX7_hasBit_5 (by decide) (fun _ => ?_) (fun h => absurd (by decide) h)
  refine lv_iconst (v := 0) hx hb dX7_hasBit_12 (by decide) ?_
  refine W.widen (k := 0) (n := 0) (Nat.le_of_ble_eq_true rfl) (Nat.le_of_ble_eq_true rfl) ?_
  exact W.zret (v := 0) hx hb hr rfl (fun t ht hW => ⟨⟨0, (), rfl, ⟨rfl, trivial⟩, trivial⟩, hS.F ht⟩) hS.2.2 dX7_hasBit_13
set_option maxHeartbeats 4000000 in
set_option maxRecDepth 100000 in
theorem k_X7_hasBit_7 (l : Launch) (D : va_G) (cy : Nat → ClassId) : Met l yX7_hasBit wsX7_hasBit ({ frames := 0, cells := 0, slots := 0, locals := 0 }) (kR D cy [.int 0, .int 7] []) (va_Qi (fun (r : Int32) (_ : Unit) => r = 0 ∧ True) (fun (_ : Unit) (_ : State) => True) (fun _ : Nat => False)) 0 0 (fun _ : Nat => False) := by
  refine Met.ofW (cc := cX7_hasBit) (maxL := 2) (ret := (some .boolean)) (by decide) rfl ?_
  intro p e s m args below meth c s₁ B hml hv
  obtain ⟨rfl, hP, hK⟩ := hv
  have hx := B.exec
  have hb := B.bytes
  have hr := B.returns
  have hts := atoms_spec (ws := wsX7_hasBit) B.pre
  have hown : s.vm.findClass RX7 = some m.cls := findClass_of_methodNamed B.named
  have hlocks := B.notSynchronized
  have hS : va_S (fun _ : Nat => False) s.heap s.heap [] := va_S.rf
  have hP : va_P D vwCl [] s.heap := hP
  have hl := lv_entry ([.int 0, .int 7]) (n := 2) (Nat.le_of_ble_eq_true rfl)
  rw [lg_entry_eq]
  generalize (lg_sl ([.int 0, .int 7]) ++ List.replicate (2 - (lg_sl ([.int 0, .int 7])).length) Slot.unset).toArray = ls at hl ⊢
  have hl : lv_has ls 2 [(0, .int 0), (1, .int 7)] := hl
  refine lv_iload_n hx hb dX7_hasBit_0 rfl (lv_at hl 0 rfl) ?_
  refine lv_iload_n hx hb dX7_hasBit_1 rfl (lv_at hl 1 rfl) ?_
  refine lv_ishr hx hb dX7_hasBit_2 ?_
  refine lv_topi (fun v_1 ev_1 => ?_)
  obtain rfl : v_1 = 0 := ev_1.trans (by decide)
  refine lv_iconst (v := 1) hx hb dX7_hasBit_3 (by decide) ?_
  refine lv_iand hx hb dX7_hasBit_4 ?_
  refine lv_topi (fun v_2 ev_2 => ?_)
  obtain rfl : v_2 = 0 := ev_2.trans (by decide)
  refine lv_if_eq (tgt := 12) hx hb dX7_hasBit_5 (by decide) (fun _ => ?_) (fun h => absurd (by decide) h)
  refine lv_iconst (v := 0) hx hb dX7_hasBit_12 (by decide) ?_
  refine W.widen (k := 0) (n := 0) (Nat.le_of_ble_eq_true rfl) (Nat.le_of_ble_eq_true rfl) ?_
  exact W.zret (v := 0) hx hb hr rfl (fun t ht hW => ⟨⟨0, (), rfl, ⟨rfl, trivial⟩, trivial⟩, hS.F ht⟩) hS.2.2 dX7_hasBit_13
set_option maxHeartbeats 4000000 in
set_option maxRecDepth 100000 in
theorem k_X7_hasBit_8 (l : Launch) (D : va_G) (cy : Nat → ClassId) : Met l yX7_hasBit wsX7_hasBit ({ frames := 0, cells := 0, slots := 0, locals := 0 }) (kR D cy [.int 0, .int 8] []) (va_Qi (fun (r : Int32) (_ : Unit) => r = 0 ∧ True) (fun (_ : Unit) (_ : State) => True) (fun _ : Nat => False)) 0 0 (fun _ : Nat => False) := by
  refine Met.ofW (cc := cX7_hasBit) (maxL := 2) (ret := (some .boolean)) (by decide) rfl ?_
  intro p e s m args below meth c s₁ B hml hv
  obtain ⟨rfl, hP, hK⟩ := hv
  have hx := B.exec
  have hb := B.bytes
  have hr := B.returns
  have hts := atoms_spec (ws := wsX7_hasBit) B.pre
  have hown : s.vm.findClass RX7 = some m.cls := findClass_of_methodNamed B.named
  have hlocks := B.notSynchronized
  have hS : va_S (fun _ : Nat => False) s.heap s.heap [] := va_S.rf
  have hP : va_P D vwCl [] s.heap := hP
  have hl := lv_entry ([.int 0, .int 8]) (n := 2) (Nat.le_of_ble_eq_true rfl)
  rw [lg_entry_eq]
  generalize (lg_sl ([.int 0, .int 8]) ++ List.replicate (2 - (lg_sl ([.int 0, .int 8])).length) Slot.unset).toArray = ls at hl ⊢
  have hl : lv_has ls 2 [(0, .int 0), (1, .int 8)] := hl
  refine lv_iload_n hx hb dX7_hasBit_0 rfl (lv_at hl 0 rfl) ?_
  refine lv_iload_n hx hb dX7_hasBit_1 rfl (lv_at hl 1 rfl) ?_
  refine lv_ishr hx hb dX7_hasBit_2 ?_
  refine lv_topi (fun v_1 ev_1 => ?_)
  obtain rfl : v_1 = 0 := ev_1.trans (by decide)
  refine lv_iconst (v := 1) hx hb dX7_hasBit_3 (by decide) ?_
  refine lv_iand hx hb dX7_hasBit_4 ?_
  refine lv_topi (fun v_2 ev_2 => ?_)
  obtain rfl : v_2 = 0 := ev_2.trans (by decide)
  refine lv_if_eq (tgt := 12) hx hb dX7_hasBit_5 (by decide) (fun _ => ?_) (fun h => absurd (by decide) h)
  refine lv_iconst (v := 0) hx hb dX7_hasBit_12 (by decide) ?_
  refine W.widen (k := 0) (n := 0) (Nat.le_of_ble_eq_true rfl) (Nat.le_of_ble_eq_true rfl) ?_
  exact W.zret (v := 0) hx hb hr rfl (fun t ht hW => ⟨⟨0, (), rfl, ⟨rfl, trivial⟩, trivial⟩, hS.F ht⟩) hS.2.2 dX7_hasBit_13
set_option maxHeartbeats 4000000 in
set_option maxRecDepth 100000 in
theorem k_X7_hasBit_9 (l : Launch) (D : va_G) (cy : Nat → ClassId) : Met l yX7_hasBit wsX7_hasBit ({ frames := 0, cells := 0, slots := 0, locals := 0 }) (kR D cy [.int 0, .int 9] []) (va_Qi (fun (r : Int32) (_ : Unit) => r = 0 ∧ True) (fun (_ : Unit) (_ : State) => True) (fun _ : Nat => False)) 0 0 (fun _ : Nat => False) := by
  refine Met.ofW (cc := cX7_hasBit) (maxL := 2) (ret := (some .boolean)) (by decide) rfl ?_
  intro p e s m args below meth c s₁ B hml hv
  obtain ⟨rfl, hP, hK⟩ := hv
  have hx := B.exec
  have hb := B.bytes
  have hr := B.returns
  have hts := atoms_spec (ws := wsX7_hasBit) B.pre
  have hown : s.vm.findClass RX7 = some m.cls := findClass_of_methodNamed B.named
  have hlocks := B.notSynchronized
  have hS : va_S (fun _ : Nat => False) s.heap s.heap [] := va_S.rf
  have hP : va_P D vwCl [] s.heap := hP
  have hl := lv_entry ([.int 0, .int 9]) (n := 2) (Nat.le_of_ble_eq_true rfl)
  rw [lg_entry_eq]
  generalize (lg_sl ([.int 0, .int 9]) ++ List.replicate (2 - (lg_sl ([.int 0, .int 9])).length) Slot.unset).toArray = ls at hl ⊢
  have hl : lv_has ls 2 [(0, .int 0), (1, .int 9)] := hl
  refine lv_iload_n hx hb dX7_hasBit_0 rfl (lv_at hl 0 rfl) ?_
  refine lv_iload_n hx hb dX7_hasBit_1 rfl (lv_at hl 1 rfl) ?_
  refine lv_ishr hx hb dX7_hasBit_2 ?_
  refine lv_topi (fun v_1 ev_1 => ?_)
  obtain rfl : v_1 = 0 := ev_1.trans (by decide)
  refine lv_iconst (v := 1) hx hb dX7_hasBit_3 (by decide) ?_
  refine lv_iand hx hb dX7_hasBit_4 ?_
  refine lv_topi (fun v_2 ev_2 => ?_)
  obtain rfl : v_2 = 0 := ev_2.trans (by decide)
  refine lv_if_eq (tgt := 12) hx hb dX7_hasBit_5 (by decide) (fun _ => ?_) (fun h => absurd (by decide) h)
  refine lv_iconst (v := 0) hx hb dX7_hasBit_12 (by decide) ?_
  refine W.widen (k := 0) (n := 0) (Nat.le_of_ble_eq_true rfl) (Nat.le_of_ble_eq_true rfl) ?_
  exact W.zret (v := 0) hx hb hr rfl (fun t ht hW => ⟨⟨0, (), rfl, ⟨rfl, trivial⟩, trivial⟩, hS.F ht⟩) hS.2.2 dX7_hasBit_13
set_option maxHeartbeats 4000000 in
set_option maxRecDepth 100000 in
theorem k_X7_hasBit_10 (l : Launch) (D : va_G) (cy : Nat → ClassId) : Met l yX7_hasBit wsX7_hasBit ({ frames := 0, cells := 0, slots := 0, locals := 0 }) (kR D cy [.int 0, .int 10] []) (va_Qi (fun (r : Int32) (_ : Unit) => r = 0 ∧ True) (fun (_ : Unit) (_ : State) => True) (fun _ : Nat => False)) 0 0 (fun _ : Nat => False) := by
  refine Met.ofW (cc := cX7_hasBit) (maxL := 2) (ret := (some .boolean)) (by decide) rfl ?_
  intro p e s m args below meth c s₁ B hml hv
  obtain ⟨rfl, hP, hK⟩ := hv
  have hx := B.exec
  have hb := B.bytes
  have hr := B.returns
  have hts := atoms_spec (ws := wsX7_hasBit) B.pre
  have hown : s.vm.findClass RX7 = some m.cls := findClass_of_methodNamed B.named
  have hlocks := B.notSynchronized
  have hS : va_S (fun _ : Nat => False) s.heap s.heap [] := va_S.rf
  have hP : va_P D vwCl [] s.heap := hP
  have hl := lv_entry ([.int 0, .int 10]) (n := 2) (Nat.le_of_ble_eq_true rfl)
  rw [lg_entry_eq]
  generalize (lg_sl ([.int 0, .int 10]) ++ List.replicate (2 - (lg_sl ([.int 0, .int 10])).length) Slot.unset).toArray = ls at hl ⊢
  have hl : lv_has ls 2 [(0, .int 0), (1, .int 10)] := hl
  refine lv_iload_n hx hb dX7_hasBit_0 rfl (lv_at hl 0 rfl) ?_
  refine lv_iload_n hx hb dX7_hasBit_1 rfl (lv_at hl 1 rfl) ?_
  refine lv_ishr hx hb dX7_hasBit_2 ?_
  refine lv_topi (fun v_1 ev_1 => ?_)
  obtain rfl : v_1 = 0 := ev_1.trans (by decide)
  refine lv_iconst (v := 1) hx hb dX7_hasBit_3 (by decide) ?_
  refine lv_iand hx hb dX7_hasBit_4 ?_
  refine lv_topi (fun v_2 ev_2 => ?_)
  obtain rfl : v_2 = 0 := ev_2.trans (by decide)
  refine lv_if_eq (tgt := 12) hx hb dX7_hasBit_5 (by decide) (fun _ => ?_) (fun h => absurd (by decide) h)
  refine lv_iconst (v := 0) hx hb dX7_hasBit_12 (by decide) ?_
  refine W.widen (k := 0) (n := 0) (Nat.le_of_ble_eq_true rfl) (Nat.le_of_ble_eq_true rfl) ?_
  exact W.zret (v := 0) hx hb hr rfl (fun t ht hW => ⟨⟨0, (), rfl, ⟨rfl, trivial⟩, trivial⟩, hS.F ht⟩) hS.2.2 dX7_hasBit_13
set_option maxHeartbeats 4000000 in
set_option maxRecDepth 100000 in
theorem k_X7_hasBit_11 (l : Launch) (D : va_G) (cy : Nat → ClassId) : Met l yX7_hasBit wsX7_hasBit ({ frames := 0, cells := 0, slots := 0, locals := 0 }) (kR D cy [.int 0, .int 11] []) (va_Qi (fun (r : Int32) (_ : Unit) => r = 0 ∧ True) (fun (_ : Unit) (_ : State) => True) (fun _ : Nat => False)) 0 0 (fun _ : Nat => False) := by
  refine Met.ofW (cc := cX7_hasBit) (maxL := 2) (ret := (some .boolean)) (by decide) rfl ?_
  intro p e s m args below meth c s₁ B hml hv
  obtain ⟨rfl, hP, hK⟩ := hv
  have hx := B.exec
  have hb := B.bytes
  have hr := B.returns
  have hts := atoms_spec (ws := wsX7_hasBit) B.pre
  have hown : s.vm.findClass RX7 = some m.cls := findClass_of_methodNamed B.named
  have hlocks := B.notSynchronized
  have hS : va_S (fun _ : Nat => False) s.heap s.heap [] := va_S.rf
  have hP : va_P D vwCl [] s.heap := hP
  have hl := lv_entry ([.int 0, .int 11]) (n := 2) (Nat.le_of_ble_eq_true rfl)
  rw [lg_entry_eq]
  generalize (lg_sl ([.int 0, .int 11]) ++ List.replicate (2 - (lg_sl ([.int 0, .int 11])).length) Slot.unset).toArray = ls at hl ⊢
  have hl : lv_has ls 2 [(0, .int 0), (1, .int 11)] := hl
  refine lv_iload_n hx hb dX7_hasBit_0 rfl (lv_at hl 0 rfl) ?_
  refine lv_iload_n hx hb dX7_hasBit_1 rfl (lv_at hl 1 rfl) ?_
  refine lv_ishr hx hb dX7_hasBit_2 ?_
  refine lv_topi (fun v_1 ev_1 => ?_)
  obtain rfl : v_1 = 0 := ev_1.trans (by decide)
  refine lv_iconst (v := 1) hx hb dX7_hasBit_3 (by decide) ?_
  refine lv_iand hx hb dX7_hasBit_4 ?_
  refine lv_topi (fun v_2 ev_2 => ?_)
  obtain rfl : v_2 = 0 := ev_2.trans (by decide)
  refine lv_if_eq (tgt := 12) hx hb dX7_hasBit_5 (by decide) (fun _ => ?_) (fun h => absurd (by decide) h)
  refine lv_iconst (v := 0) hx hb dX7_hasBit_12 (by decide) ?_
  refine W.widen (k := 0) (n := 0) (Nat.le_of_ble_eq_true rfl) (Nat.le_of_ble_eq_true rfl) ?_
  exact W.zret (v := 0) hx hb hr rfl (fun t ht hW => ⟨⟨0, (), rfl, ⟨rfl, trivial⟩, trivial⟩, hS.F ht⟩) hS.2.2 dX7_hasBit_13
set_option maxHeartbeats 4000000 in
set_option maxRecDepth 100000 in
theorem k_X7_hasBit_12 (l : Launch) (D : va_G) (cy : Nat → ClassId) : Met l yX7_hasBit wsX7_hasBit ({ frames := 0, cells := 0, slots := 0, locals := 0 }) (kR D cy [.int 0, .int 12] []) (va_Qi (fun (r : Int32) (_ : Unit) => r = 0 ∧ True) (fun (_ : Unit) (_ : State) => True) (fun _ : Nat => False)) 0 0 (fun _ : Nat => False) := by
  refine Met.ofW (cc := cX7_hasBit) (maxL := 2) (ret := (some .boolean)) (by decide) rfl ?_
  intro p e s m args below meth c s₁ B hml hv
  obtain ⟨rfl, hP, hK⟩ := hv
  have hx := B.exec
  have hb := B.bytes
  have hr := B.returns
  have hts := atoms_spec (ws := wsX7_hasBit) B.pre
  have hown : s.vm.findClass RX7 = some m.cls := findClass_of_methodNamed B.named
  have hlocks := B.notSynchronized
  have hS : va_S (fun _ : Nat => False) s.heap s.heap [] := va_S.rf
  have hP : va_P D vwCl [] s.heap := hP
  have hl := lv_entry ([.int 0, .int 12]) (n := 2) (Nat.le_of_ble_eq_true rfl)
  rw [lg_entry_eq]
  generalize (lg_sl ([.int 0, .int 12]) ++ List.replicate (2 - (lg_sl ([.int 0, .int 12])).length) Slot.unset).toArray = ls at hl ⊢
  have hl : lv_has ls 2 [(0, .int 0), (1, .int 12)] := hl
  refine lv_iload_n hx hb dX7_hasBit_0 rfl (lv_at hl 0 rfl) ?_
  refine lv_iload_n hx hb dX7_hasBit_1 rfl (lv_at hl 1 rfl) ?_
  refine lv_ishr hx hb dX7_hasBit_2 ?_
  refine lv_topi (fun v_1 ev_1 => ?_)
  obtain rfl : v_1 = 0 := ev_1.trans (by decide)
  refine lv_iconst (v := 1) hx hb dX7_hasBit_3 (by decide) ?_
  refine lv_iand hx hb dX7_hasBit_4 ?_
  refine lv_topi (fun v_2 ev_2 => ?_)
  obtain rfl : v_2 = 0 := ev_2.trans (by decide)
  refine lv_if_eq (tgt := 12) hx hb dX7_hasBit_5 (by decide) (fun _ => ?_) (fun h => absurd (by decide) h)
  refine lv_iconst (v := 0) hx hb dX7_hasBit_12 (by decide) ?_
  refine W.widen (k := 0) (n := 0) (Nat.le_of_ble_eq_true rfl) (Nat.le_of_ble_eq_true rfl) ?_
  exact W.zret (v := 0) hx hb hr rfl (fun t ht hW => ⟨⟨0, (), rfl, ⟨rfl, trivial⟩, trivial⟩, hS.F ht⟩) hS.2.2 dX7_hasBit_13
set_option maxHeartbeats 4000000 in
set_option maxRecDepth 100000 in
theorem k_X7_hasBit_13 (l : Launch) (D : va_G) (cy : Nat → ClassId) : Met l yX7_hasBit wsX7_hasBit ({ frames := 0, cells := 0, slots := 0, locals := 0 }) (kR D cy [.int 0, .int 13] []) (va_Qi (fun (r : Int32) (_ : Unit) => r = 0 ∧ True) (fun (_ : Unit) (_ : State) => True) (fun _ : Nat => False)) 0 0 (fun _ : Nat => False) := by
  refine Met.ofW (cc := cX7_hasBit) (maxL := 2) (ret := (some .boolean)) (by decide) rfl ?_
  intro p e s m args below meth c s₁ B hml hv
  obtain ⟨rfl, hP, hK⟩ := hv
  have hx := B.exec
  have hb := B.bytes
  have hr := B.returns
  have hts := atoms_spec (ws := wsX7_hasBit) B.pre
  have hown : s.vm.findClass RX7 = some m.cls := findClass_of_methodNamed B.named
  have hlocks := B.notSynchronized
  have hS : va_S (fun _ : Nat => False) s.heap s.heap [] := va_S.rf
  have hP : va_P D vwCl [] s.heap := hP
  have hl := lv_entry ([.int 0, .int 13]) (n := 2) (Nat.le_of_ble_eq_true rfl)
  rw [lg_entry_eq]
  generalize (lg_sl ([.int 0, .int 13]) ++ List.replicate (2 - (lg_sl ([.int 0, .int 13])).length) Slot.unset).toArray = ls at hl ⊢
  have hl : lv_has ls 2 [(0, .int 0), (1, .int 13)] := hl
  refine lv_iload_n hx hb dX7_hasBit_0 rfl (lv_at hl 0 rfl) ?_
  refine lv_iload_n hx hb dX7_hasBit_1 rfl (lv_at hl 1 rfl) ?_
  refine lv_ishr hx hb dX7_hasBit_2 ?_
  refine lv_topi (fun v_1 ev_1 => ?_)
  obtain rfl : v_1 = 0 := ev_1.trans (by decide)
  refine lv_iconst (v := 1) hx hb dX7_hasBit_3 (by decide) ?_
  refine lv_iand hx hb dX7_hasBit_4 ?_
  refine lv_topi (fun v_2 ev_2 => ?_)
  obtain rfl : v_2 = 0 := ev_2.trans (by decide)
  refine lv_if_eq (tgt := 12) hx hb dX7_hasBit_5 (by decide) (fun _ => ?_) (fun h => absurd (by decide) h)
  refine lv_iconst (v := 0) hx hb dX7_hasBit_12 (by decide) ?_
  refine W.widen (k := 0) (n := 0) (Nat.le_of_ble_eq_true rfl) (Nat.le_of_ble_eq_true rfl) ?_
  exact W.zret (v := 0) hx hb hr rfl (fun t ht hW => ⟨⟨0, (), rfl, ⟨rfl, trivial⟩, trivial⟩, hS.F ht⟩) hS.2.2 dX7_hasBit_13
set_option maxHeartbeats 4000000 in
set_option maxRecDepth 100000 in
theorem k_X7_hasBit_14 (l : Launch) (D : va_G) (cy : Nat → ClassId) : Met l yX7_hasBit wsX7_hasBit ({ frames := 0, cells := 0, slots := 0, locals := 0 }) (kR D cy [.int 0, .int 14] []) (va_Qi (fun (r : Int32) (_ : Unit) => r = 0 ∧ True) (fun (_ : Unit) (_ : State) => True) (fun _ : Nat => False)) 0 0 (fun _ : Nat => False) := by
  refine Met.ofW (cc := cX7_hasBit) (maxL := 2) (ret := (some .boolean)) (by decide) rfl ?_
  intro p e s m args below meth c s₁ B hml hv
  obtain ⟨rfl, hP, hK⟩ := hv
  have hx := B.exec
  have hb := B.bytes
  have hr := B.returns
  have hts := atoms_spec (ws := wsX7_hasBit) B.pre
  have hown : s.vm.findClass RX7 = some m.cls := findClass_of_methodNamed B.named
  have hlocks := B.notSynchronized
  have hS : va_S (fun _ : Nat => False) s.heap s.heap [] := va_S.rf
  have hP : va_P D vwCl [] s.heap := hP
  have hl := lv_entry ([.int 0, .int 14]) (n := 2) (Nat.le_of_ble_eq_true rfl)
  rw [lg_entry_eq]
  generalize (lg_sl ([.int 0, .int 14]) ++ List.replicate (2 - (lg_sl ([.int 0, .int 14])).length) Slot.unset).toArray = ls at hl ⊢
  have hl : lv_has ls 2 [(0, .int 0), (1, .int 14)] := hl
  refine lv_iload_n hx hb dX7_hasBit_0 rfl (lv_at hl 0 rfl) ?_
  refine lv_iload_n hx hb dX7_hasBit_1 rfl (lv_at hl 1 rfl) ?_
  refine lv_ishr hx hb dX7_hasBit_2 ?_
  refine lv_topi (fun v_1 ev_1 => ?_)
  obtain rfl : v_1 = 0 := ev_1.trans (by decide)
  refine lv_iconst (v := 1) hx hb dX7_hasBit_3 (by decide) ?_
  refine lv_iand hx hb dX7_hasBit_4 ?_
  refine lv_topi (fun v_2 ev_2 => ?_)
  obtain rfl : v_2 = 0 := ev_2.trans (by decide)
  refine lv_if_eq (tgt := 12) hx hb dX7_hasBit_5 (by decide) (fun _ => ?_) (fun h => absurd (by decide) h)
  refine lv_iconst (v := 0) hx hb dX7_hasBit_12 (by decide) ?_
  refine W.widen (k := 0) (n := 0) (Nat.le_of_ble_eq_true rfl) (Nat.le_of_ble_eq_true rfl) ?_
  exact W.zret (v := 0) hx hb hr rfl (fun t ht hW => ⟨⟨0, (), rfl, ⟨rfl, trivial⟩, trivial⟩, hS.F ht⟩) hS.2.2 dX7_hasBit_13
set_option maxHeartbeats 4000000 in
set_option maxRecDepth 100000 in
theorem k_X7_hasBit_15 (l : Launch) (D : va_G) (cy : Nat → ClassId) : Met l yX7_hasBit wsX7_hasBit ({ frames := 0, cells := 0, slots := 0, locals := 0 }) (kR D cy [.int 0, .int 15] []) (va_Qi (fun (r : Int32) (_ : Unit) => r = 0 ∧ True) (fun (_ : Unit) (_ : State) => True) (fun _ : Nat => False)) 0 0 (fun _ : Nat => False) := by
  refine Met.ofW (cc := cX7_hasBit) (maxL := 2) (ret := (some .boolean)) (by decide) rfl ?_
  intro p e s m args below meth c s₁ B hml hv
  obtain ⟨rfl, hP, hK⟩ := hv
  have hx := B.exec
  have hb := B.bytes
  have hr := B.returns
  have hts := atoms_spec (ws := wsX7_hasBit) B.pre
  have hown : s.vm.findClass RX7 = some m.cls := findClass_of_methodNamed B.named
  have hlocks := B.notSynchronized
  have hS : va_S (fun _ : Nat => False) s.heap s.heap [] := va_S.rf
  have hP : va_P D vwCl [] s.heap := hP
  have hl := lv_entry ([.int 0, .int 15]) (n := 2) (Nat.le_of_ble_eq_true rfl)
  rw [lg_entry_eq]
  generalize (lg_sl ([.int 0, .int 15]) ++ List.replicate (2 - (lg_sl ([.int 0, .int 15])).length) Slot.unset).toArray = ls at hl ⊢
  have hl : lv_has ls 2 [(0, .int 0), (1, .int 15)] := hl
  refine lv_iload_n hx hb dX7_hasBit_0 rfl (lv_at hl 0 rfl) ?_
  refine lv_iload_n hx hb dX7_hasBit_1 rfl (lv_at hl 1 rfl) ?_
  refine lv_ishr hx hb dX7_hasBit_2 ?_
  refine lv_topi (fun v_1 ev_1 => ?_)
  obtain rfl : v_1 = 0 := ev_1.trans (by decide)
  refine lv_iconst (v := 1) hx hb dX7_hasBit_3 (by decide) ?_
  refine lv_iand hx hb dX7_hasBit_4 ?_
  refine lv_topi (fun v_2 ev_2 => ?_)
  obtain rfl : v_2 = 0 := ev_2.trans (by decide)
  refine lv_if_eq (tgt := 12) hx hb dX7_hasBit_5 (by decide) (fun _ => ?_) (fun h => absurd (by decide) h)
  refine lv_iconst (v := 0) hx hb dX7_hasBit_12 (by decide) ?_
  refine W.widen (k := 0) (n := 0) (Nat.le_of_ble_eq_true rfl) (Nat.le_of_ble_eq_true rfl) ?_
  exact W.zret (v := 0) hx hb hr rfl (fun t ht hW => ⟨⟨0, (), rfl, ⟨rfl, trivial⟩, trivial⟩, hS.F ht⟩) hS.2.2 dX7_hasBit_13
set_option maxHeartbeats 4000000 in
set_option maxRecDepth 100000 in
theorem k_X7_hasBit_16 (l : Launch) (D : va_G) (cy : Nat → ClassId) : Met l yX7_hasBit wsX7_hasBit ({ frames := 0, cells := 0, slots := 0, locals := 0 }) (kR D cy [.int 0, .int 16] []) (va_Qi (fun (r : Int32) (_ : Unit) => r = 0 ∧ True) (fun (_ : Unit) (_ : State) => True) (fun _ : Nat => False)) 0 0 (fun _ : Nat => False) := by
  refine Met.ofW (cc := cX7_hasBit) (maxL := 2) (ret := (some .boolean)) (by decide) rfl ?_
  intro p e s m args below meth c s₁ B hml hv
  obtain ⟨rfl, hP, hK⟩ := hv
  have hx := B.exec
  have hb := B.bytes
  have hr := B.returns
  have hts := atoms_spec (ws := wsX7_hasBit) B.pre
  have hown : s.vm.findClass RX7 = some m.cls := findClass_of_methodNamed B.named
  have hlocks := B.notSynchronized
  have hS : va_S (fun _ : Nat => False) s.heap s.heap [] := va_S.rf
  have hP : va_P D vwCl [] s.heap := hP
  have hl := lv_entry ([.int 0, .int 16]) (n := 2) (Nat.le_of_ble_eq_true rfl)
  rw [lg_entry_eq]
  generalize (lg_sl ([.int 0, .int 16]) ++ List.replicate (2 - (lg_sl ([.int 0, .int 16])).length) Slot.unset).toArray = ls at hl ⊢
  have hl : lv_has ls 2 [(0, .int 0), (1, .int 16)] := hl
  refine lv_iload_n hx hb dX7_hasBit_0 rfl (lv_at hl 0 rfl) ?_
  refine lv_iload_n hx hb dX7_hasBit_1 rfl (lv_at hl 1 rfl) ?_
  refine lv_ishr hx hb dX7_hasBit_2 ?_
  refine lv_topi (fun v_1 ev_1 => ?_)
  obtain rfl : v_1 = 0 := ev_1.trans (by decide)
  refine lv_iconst (v := 1) hx hb dX7_hasBit_3 (by decide) ?_
  refine lv_iand hx hb dX7_hasBit_4 ?_
  refine lv_topi (fun v_2 ev_2 => ?_)
  obtain rfl : v_2 = 0 := ev_2.trans (by decide)
  refine lv_if_eq (tgt := 12) hx hb dX7_hasBit_5 (by decide) (fun _ => ?_) (fun h => absurd (by decide) h)
  refine lv_iconst (v := 0) hx hb dX7_hasBit_12 (by decide) ?_
  refine W.widen (k := 0) (n := 0) (Nat.le_of_ble_eq_true rfl) (Nat.le_of_ble_eq_true rfl) ?_
  exact W.zret (v := 0) hx hb hr rfl (fun t ht hW => ⟨⟨0, (), rfl, ⟨rfl, trivial⟩, trivial⟩, hS.F ht⟩) hS.2.2 dX7_hasBit_13
set_option maxHeartbeats 4000000 in
set_option maxRecDepth 100000 in
theorem k_X7_hasBit_17 (l : Launch) (D : va_G) (cy : Nat → ClassId) : Met l yX7_hasBit wsX7_hasBit ({ frames := 0, cells := 0, slots := 0, locals := 0 }) (kR D cy [.int 0, .int 17] []) (va_Qi (fun (r : Int32) (_ : Unit) => r = 0 ∧ True) (fun (_ : Unit) (_ : State) => True) (fun _ : Nat => False)) 0 0 (fun _ : Nat => False) := by
  refine Met.ofW (cc := cX7_hasBit) (maxL := 2) (ret := (some .boolean)) (by decide) rfl ?_
  intro p e s m args below meth c s₁ B hml hv
  obtain ⟨rfl, hP, hK⟩ := hv
  have hx := B.exec
  have hb := B.bytes
  have hr := B.returns
  have hts := atoms_spec (ws := wsX7_hasBit) B.pre
  have hown : s.vm.findClass RX7 = some m.cls := findClass_of_methodNamed B.named
  have hlocks := B.notSynchronized
  have hS : va_S (fun _ : Nat => False) s.heap s.heap [] := va_S.rf
  have hP : va_P D vwCl [] s.heap := hP
  have hl := lv_entry ([.int 0, .int 17]) (n := 2) (Nat.le_of_ble_eq_true rfl)
  rw [lg_entry_eq]
  generalize (lg_sl ([.int 0, .int 17]) ++ List.replicate (2 - (lg_sl ([.int 0, .int 17])).length) Slot.unset).toArray = ls at hl ⊢
  have hl : lv_has ls 2 [(0, .int 0), (1, .int 17)] := hl
  refine lv_iload_n hx hb dX7_hasBit_0 rfl (lv_at hl 0 rfl) ?_
  refine lv_iload_n hx hb dX7_hasBit_1 rfl (lv_at hl 1 rfl) ?_
  refine lv_ishr hx hb dX7_hasBit_2 ?_
  refine lv_topi (fun v_1 ev_1 => ?_)
  obtain rfl : v_1 = 0 := ev_1.trans (by decide)
  refine lv_iconst (v := 1) hx hb dX7_hasBit_3 (by decide) ?_
  refine lv_iand hx hb dX7_hasBit_4 ?_
  refine lv_topi (fun v_2 ev_2 => ?_)
  obtain rfl : v_2 = 0 := ev_2.trans (by decide)
  refine lv_if_eq (tgt := 12) hx hb dX7_hasBit_5 (by decide) (fun _ => ?_) (fun h => absurd (by decide) h)
  refine lv_iconst (v := 0) hx hb dX7_hasBit_12 (by decide) ?_
  refine W.widen (k := 0) (n := 0) (Nat.le_of_ble_eq_true rfl) (Nat.le_of_ble_eq_true rfl) ?_
  exact W.zret (v := 0) hx hb hr rfl (fun t ht hW => ⟨⟨0, (), rfl, ⟨rfl, trivial⟩, trivial⟩, hS.F ht⟩) hS.2.2 dX7_hasBit_13
set_option maxHeartbeats 4000000 in
set_option maxRecDepth 100000 in
theorem k_X7_hasBit_18 (l : Launch) (D : va_G) (cy : Nat → ClassId) : Met l yX7_hasBit wsX7_hasBit ({ frames := 0, cells := 0, slots := 0, locals := 0 }) (kR D cy [.int 0, .int 18] []) (va_Qi (fun (r : Int32) (_ : Unit) => r = 0 ∧ True) (fun (_ : Unit) (_ : State) => True) (fun _ : Nat => False)) 0 0 (fun _ : Nat => False) := by
  refine Met.ofW (cc := cX7_hasBit) (maxL := 2) (ret := (some .boolean)) (by decide) rfl ?_
  intro p e s m args below meth c s₁ B hml hv
  obtain ⟨rfl, hP, hK⟩ := hv
  have hx := B.exec
  have hb := B.bytes
  have hr := B.returns
  have hts := atoms_spec (ws := wsX7_hasBit) B.pre
  have hown : s.vm.findClass RX7 = some m.cls := findClass_of_methodNamed B.named
  have hlocks := B.notSynchronized
  have hS : va_S (fun _ : Nat => False) s.heap s.heap [] := va_S.rf
  have hP : va_P D vwCl [] s.heap := hP
  have hl := lv_entry ([.int 0, .int 18]) (n := 2) (Nat.le_of_ble_eq_true rfl)
  rw [lg_entry_eq]
  generalize (lg_sl ([.int 0, .int 18]) ++ List.replicate (2 - (lg_sl ([.int 0, .int 18])).length) Slot.unset).toArray = ls at hl ⊢
  have hl : lv_has ls 2 [(0, .int 0), (1, .int 18)] := hl
  refine lv_iload_n hx hb dX7_hasBit_0 rfl (lv_at hl 0 rfl) ?_
  refine lv_iload_n hx hb dX7_hasBit_1 rfl (lv_at hl 1 rfl) ?_
  refine lv_ishr hx hb dX7_hasBit_2 ?_
  refine lv_topi (fun v_1 ev_1 => ?_)
  obtain rfl : v_1 = 0 := ev_1.trans (by decide)
  refine lv_iconst (v := 1) hx hb dX7_hasBit_3 (by decide) ?_
  refine lv_iand hx hb dX7_hasBit_4 ?_
  refine lv_topi (fun v_2 ev_2 => ?_)
  obtain rfl : v_2 = 0 := ev_2.trans (by decide)
  refine lv_if_eq (tgt := 12) hx hb dX7_hasBit_5 (by decide) (fun _ => ?_) (fun h => absurd (by decide) h)
  refine lv_iconst (v := 0) hx hb dX7_hasBit_12 (by decide) ?_
  refine W.widen (k := 0) (n := 0) (Nat.le_of_ble_eq_true rfl) (Nat.le_of_ble_eq_true rfl) ?_
  exact W.zret (v := 0) hx hb hr rfl (fun t ht hW => ⟨⟨0, (), rfl, ⟨rfl, trivial⟩, trivial⟩, hS.F ht⟩) hS.2.2 dX7_hasBit_13
set_option maxHeartbeats 4000000 in
set_option maxRecDepth 100000 in
theorem k_X7_hasBit_19 (l : Launch) (D : va_G) (cy : Nat → ClassId) : Met l yX7_hasBit wsX7_hasBit ({ frames := 0, cells := 0, slots := 0, locals := 0 }) (kR D cy [.int 0, .int 19] []) (va_Qi (fun (r : Int32) (_ : Unit) => r = 0 ∧ True) (fun (_ : Unit) (_ : State) => True) (fun _ : Nat => False)) 0 0 (fun _ : Nat => False) := by
  refine Met.ofW (cc := cX7_hasBit) (maxL := 2) (ret := (some .boolean)) (by decide) rfl ?_
  intro p e s m args below meth c s₁ B hml hv
  obtain ⟨rfl, hP, hK⟩ := hv
  have hx := B.exec
  have hb := B.bytes
  have hr := B.returns
  have hts := atoms_spec (ws := wsX7_hasBit) B.pre
  have hown : s.vm.findClass RX7 = some m.cls := findClass_of_methodNamed B.named
  have hlocks := B.notSynchronized
  have hS : va_S (fun _ : Nat => False) s.heap s.heap [] := va_S.rf
  have hP : va_P D vwCl [] s.heap := hP
  have hl := lv_entry ([.int 0, .int 19]) (n := 2) (Nat.le_of_ble_eq_true rfl)
  rw [lg_entry_eq]
  generalize (lg_sl ([.int 0, .int 19]) ++ List.replicate (2 - (lg_sl ([.int 0, .int 19])).length) Slot.unset).toArray = ls at hl ⊢
  have hl : lv_has ls 2 [(0, .int 0), (1, .int 19)] := hl
  refine lv_iload_n hx hb dX7_hasBit_0 rfl (lv_at hl 0 rfl) ?_
  refine lv_iload_n hx hb dX7_hasBit_1 rfl (lv_at hl 1 rfl) ?_
  refine lv_ishr hx hb dX7_hasBit_2 ?_
  refine lv_topi (fun v_1 ev_1 => ?_)
  obtain rfl : v_1 = 0 := ev_1.trans (by decide)
  refine lv_iconst (v := 1) hx hb dX7_hasBit_3 (by decide) ?_
  refine lv_iand hx hb dX7_hasBit_4 ?_
  refine lv_topi (fun v_2 ev_2 => ?_)
  obtain rfl : v_2 = 0 := ev_2.trans (by decide)
  refine lv_if_eq (tgt := 12) hx hb dX7_hasBit_5 (by decide) (fun _ => ?_) (fun h => absurd (by decide) h)
  refine lv_iconst (v := 0) hx hb dX7_hasBit_12 (by decide) ?_
  refine W.widen (k := 0) (n := 0) (Nat.le_of_ble_eq_true rfl) (Nat.le_of_ble_eq_true rfl) ?_
  exact W.zret (v := 0) hx hb hr rfl (fun t ht hW => ⟨⟨0, (), rfl, ⟨rfl, trivial⟩, trivial⟩, hS.F ht⟩) hS.2.2 dX7_hasBit_13
set_option maxHeartbeats 4000000 in
set_option maxRecDepth 100000 in
theorem k_X7_hasBit_20 (l : Launch) (D : va_G) (cy : Nat → ClassId) : Met l yX7_hasBit wsX7_hasBit ({ frames := 0, cells := 0, slots := 0, locals := 0 }) (kR D cy [.int 0, .int 20] []) (va_Qi (fun (r : Int32) (_ : Unit) => r = 0 ∧ True) (fun (_ : Unit) (_ : State) => True) (fun _ : Nat => False)) 0 0 (fun _ : Nat => False) := by
  refine Met.ofW (cc := cX7_hasBit) (maxL := 2) (ret := (some .boolean)) (by decide) rfl ?_
  intro p e s m args below meth c s₁ B hml hv
  obtain ⟨rfl, hP, hK⟩ := hv
  have hx := B.exec
  have hb := B.bytes
  have hr := B.returns
  have hts := atoms_spec (ws := wsX7_hasBit) B.pre
  have hown : s.vm.findClass RX7 = some m.cls := findClass_of_methodNamed B.named
  have hlocks := B.notSynchronized
  have hS : va_S (fun _ : Nat => False) s.heap s.heap [] := va_S.rf
  have hP : va_P D vwCl [] s.heap := hP
  have hl := lv_entry ([.int 0, .int 20]) (n := 2) (Nat.le_of_ble_eq_true rfl)
  rw [lg_entry_eq]
  generalize (lg_sl ([.int 0, .int 20]) ++ List.replicate (2 - (lg_sl ([.int 0, .int 20])).length) Slot.unset).toArray = ls at hl ⊢
  have hl : lv_has ls 2 [(0, .int 0), (1, .int 20)] := hl
  refine lv_iload_n hx hb dX7_hasBit_0 rfl (lv_at hl 0 rfl) ?_
  refine lv_iload_n hx hb dX7_hasBit_1 rfl (lv_at hl 1 rfl) ?_
  refine lv_ishr hx hb dX7_hasBit_2 ?_
  refine lv_topi (fun v_1 ev_1 => ?_)
  obtain rfl : v_1 = 0 := ev_1.trans (by decide)
  refine lv_iconst (v := 1) hx hb dX7_hasBit_3 (by decide) ?_
  refine lv_iand hx hb dX7_hasBit_4 ?_
  refine lv_topi (fun v_2 ev_2 => ?_)
  obtain rfl : v_2 = 0 := ev_2.trans (by decide)
  refine lv_if_eq (tgt := 12) hx hb dX7_hasBit_5 (by decide) (fun _ => ?_) (fun h => absurd (by decide) h)
  refine lv_iconst (v := 0) hx hb dX7_hasBit_12 (by decide) ?_
  refine W.widen (k := 0) (n := 0) (Nat.le_of_ble_eq_true rfl) (Nat.le_of_ble_eq_true rfl) ?_
  exact W.zret (v := 0) hx hb hr rfl (fun t ht hW => ⟨⟨0, (), rfl, ⟨rfl, trivial⟩, trivial⟩, hS.F ht⟩) hS.2.2 dX7_hasBit_13
set_option maxHeartbeats 4000000 in
set_option maxRecDepth 100000 in
theorem k_X7_hasBit_21 (l : Launch) (D : va_G) (cy : Nat → ClassId) : Met l yX7_hasBit wsX7_hasBit ({ frames := 0, cells := 0, slots := 0, locals := 0 }) (kR D cy [.int 0, .int 21] []) (va_Qi (fun (r : Int32) (_ : Unit) => r = 0 ∧ True) (fun (_ : Unit) (_ : State) => True) (fun _ : Nat => False)) 0 0 (fun _ : Nat => False) := by
  refine Met.ofW (cc := cX7_hasBit) (maxL := 2) (ret := (some .boolean)) (by decide) rfl ?_
  intro p e s m args below meth c s₁ B hml hv
  obtain ⟨rfl, hP, hK⟩ := hv
  have hx := B.exec
  have hb := B.bytes
  have hr := B.returns
  have hts := atoms_spec (ws := wsX7_hasBit) B.pre
  have hown : s.vm.findClass RX7 = some m.cls := findClass_of_methodNamed B.named
  have hlocks := B.notSynchronized
  have hS : va_S (fun _ : Nat => False) s.heap s.heap [] := va_S.rf
  have hP : va_P D vwCl [] s.heap := hP
  have hl := lv_entry ([.int 0, .int 21]) (n := 2) (Nat.le_of_ble_eq_true rfl)
  rw [lg_entry_eq]
  generalize (lg_sl ([.int 0, .int 21]) ++ List.replicate (2 - (lg_sl ([.int 0, .int 21])).length) Slot.unset).toArray = ls at hl ⊢
  have hl : lv_has ls 2 [(0, .int 0), (1, .int 21)] := hl
  refine lv_iload_n hx hb dX7_hasBit_0 rfl (lv_at hl 0 rfl) ?_
  refine lv_iload_n hx hb dX7_hasBit_1 rfl (lv_at hl 1 rfl) ?_
  refine lv_ishr hx hb dX7_hasBit_2 ?_
  refine lv_topi (fun v_1 ev_1 => ?_)
  obtain rfl : v_1 = 0 := ev_1.trans (by decide)
  refine lv_iconst (v := 1) hx hb dX7_hasBit_3 (by decide) ?_
  refine lv_iand hx hb dX7_hasBit_4 ?_
  refine lv_topi (fun v_2 ev_2 => ?_)
  obtain rfl : v_2 = 0 := ev_2.trans (by decide)
  refine lv_if_eq (tgt := 12) hx hb dX7_hasBit_5 (by decide) (fun _ => ?_) (fun h => absurd (by decide) h)
  refine lv_iconst (v := 0) hx hb dX7_hasBit_12 (by decide) ?_
  refine W.widen (k := 0) (n := 0) (Nat.le_of_ble_eq_true rfl) (Nat.le_of_ble_eq_true rfl) ?_
  exact W.zret (v := 0) hx hb hr rfl (fun t ht hW => ⟨⟨0, (), rfl, ⟨rfl, trivial⟩, trivial⟩, hS.F ht⟩) hS.2.2 dX7_hasBit_13
set_option maxHeartbeats 4000000 in
set_option maxRecDepth 100000 in
theorem k_X7_hasBit_22 (l : Launch) (D : va_G) (cy : Nat → ClassId) : Met l yX7_hasBit wsX7_hasBit ({ frames := 0, cells := 0, slots := 0, locals := 0 }) (kR D cy [.int 0, .int 22] []) (va_Qi (fun (r : Int32) (_ : Unit) => r = 0 ∧ True) (fun (_ : Unit) (_ : State) => True) (fun _ : Nat => False)) 0 0 (fun _ : Nat => False) := by
  refine Met.ofW (cc := cX7_hasBit) (maxL := 2) (ret := (some .boolean)) (by decide) rfl ?_
  intro p e s m args below meth c s₁ B hml hv
  obtain ⟨rfl, hP, hK⟩ := hv
  have hx := B.exec
  have hb := B.bytes
  have hr := B.returns
  have hts := atoms_spec (ws := wsX7_hasBit) B.pre
  have hown : s.vm.findClass RX7 = some m.cls := findClass_of_methodNamed B.named
  have hlocks := B.notSynchronized
  have hS : va_S (fun _ : Nat => False) s.heap s.heap [] := va_S.rf
  have hP : va_P D vwCl [] s.heap := hP
  have hl := lv_entry ([.int 0, .int 22]) (n := 2) (Nat.le_of_ble_eq_true rfl)
  rw [lg_entry_eq]
  generalize (lg_sl ([.int 0, .int 22]) ++ List.replicate (2 - (lg_sl ([.int 0, .int 22])).length) Slot.unset).toArray = ls at hl ⊢
  have hl : lv_has ls 2 [(0, .int 0), (1, .int 22)] := hl
  refine lv_iload_n hx hb dX7_hasBit_0 rfl (lv_at hl 0 rfl) ?_
  refine lv_iload_n hx hb dX7_hasBit_1 rfl (lv_at hl 1 rfl) ?_
  refine lv_ishr hx hb dX7_hasBit_2 ?_
  refine lv_topi (fun v_1 ev_1 => ?_)
  obtain rfl : v_1 = 0 := ev_1.trans (by decide)
  refine lv_iconst (v := 1) hx hb dX7_hasBit_3 (by decide) ?_
  refine lv_iand hx hb dX7_hasBit_4 ?_
  refine lv_topi (fun v_2 ev_2 => ?_)
  obtain rfl : v_2 = 0 := ev_2.trans (by decide)
  refine lv_if_eq (tgt := 12) hx hb dX7_hasBit_5 (by decide) (fun _ => ?_) (fun h => absurd (by decide) h)
  refine lv_iconst (v := 0) hx hb dX7_hasBit_12 (by decide) ?_
  refine W.widen (k := 0) (n := 0) (Nat.le_of_ble_eq_true rfl) (Nat.le_of_ble_eq_true rfl) ?_
  exact W.zret (v := 0) hx hb hr rfl (fun t ht hW => ⟨⟨0, (), rfl, ⟨rfl, trivial⟩, trivial⟩, hS.F ht⟩) hS.2.2 dX7_hasBit_13
set_option maxHeartbeats 4000000 in
set_option maxRecDepth 100000 in
theorem k_X7_hasBit_23 (l : Launch) (D : va_G) (cy : Nat → ClassId) : Met l yX7_hasBit wsX7_hasBit ({ frames := 0, cells := 0, slots := 0, locals := 0 }) (kR D cy [.int 0, .int 23] []) (va_Qi (fun (r : Int32) (_ : Unit) => r = 0 ∧ True) (fun (_ : Unit) (_ : State) => True) (fun _ : Nat => False)) 0 0 (fun _ : Nat => False) := by
  refine Met.ofW (cc := cX7_hasBit) (maxL := 2) (ret := (some .boolean)) (by decide) rfl ?_
  intro p e s m args below meth c s₁ B hml hv
  obtain ⟨rfl, hP, hK⟩ := hv
  have hx := B.exec
  have hb := B.bytes
  have hr := B.returns
  have hts := atoms_spec (ws := wsX7_hasBit) B.pre
  have hown : s.vm.findClass RX7 = some m.cls := findClass_of_methodNamed B.named
  have hlocks := B.notSynchronized
  have hS : va_S (fun _ : Nat => False) s.heap s.heap [] := va_S.rf
  have hP : va_P D vwCl [] s.heap := hP
  have hl := lv_entry ([.int 0, .int 23]) (n := 2) (Nat.le_of_ble_eq_true rfl)
  rw [lg_entry_eq]
  generalize (lg_sl ([.int 0, .int 23]) ++ List.replicate (2 - (lg_sl ([.int 0, .int 23])).length) Slot.unset).toArray = ls at hl ⊢
  have hl : lv_has ls 2 [(0, .int 0), (1, .int 23)] := hl
  refine lv_iload_n hx hb dX7_hasBit_0 rfl (lv_at hl 0 rfl) ?_
  refine lv_iload_n hx hb dX7_hasBit_1 rfl (lv_at hl 1 rfl) ?_
  refine lv_ishr hx hb dX7_hasBit_2 ?_
  refine lv_topi (fun v_1 ev_1 => ?_)
  obtain rfl : v_1 = 0 := ev_1.trans (by decide)
  refine lv_iconst (v := 1) hx hb dX7_hasBit_3 (by decide) ?_
  refine lv_iand hx hb dX7_hasBit_4 ?_
  refine lv_topi (fun v_2 ev_2 => ?_)
  obtain rfl : v_2 = 0 := ev_2.trans (by decide)
  refine lv_if_eq (tgt := 12) hx hb dX7_hasBit_5 (by decide) (fun _ => ?_) (fun h => absurd (by decide) h)
  refine lv_iconst (v := 0) hx hb dX7_hasBit_12 (by decide) ?_
  refine W.widen (k := 0) (n := 0) (Nat.le_of_ble_eq_true rfl) (Nat.le_of_ble_eq_true rfl) ?_
  exact W.zret (v := 0) hx hb hr rfl (fun t ht hW => ⟨⟨0, (), rfl, ⟨rfl, trivial⟩, trivial⟩, hS.F ht⟩) hS.2.2 dX7_hasBit_13
set_option maxHeartbeats 4000000 in
set_option maxRecDepth 100000 in
theorem k_X7_hasBit_24 (l : Launch) (D : va_G) (cy : Nat → ClassId) : Met l yX7_hasBit wsX7_hasBit ({ frames := 0, cells := 0, slots := 0, locals := 0 }) (kR D cy [.int 0, .int 24] []) (va_Qi (fun (r : Int32) (_ : Unit) => r = 0 ∧ True) (fun (_ : Unit) (_ : State) => True) (fun _ : Nat => False)) 0 0 (fun _ : Nat => False) := by
  refine Met.ofW (cc := cX7_hasBit) (maxL := 2) (ret := (some .boolean)) (by decide) rfl ?_
  intro p e s m args below meth c s₁ B hml hv
  obtain ⟨rfl, hP, hK⟩ := hv
  have hx := B.exec
  have hb := B.bytes
  have hr := B.returns
  have hts := atoms_spec (ws := wsX7_hasBit) B.pre
  have hown : s.vm.findClass RX7 = some m.cls := findClass_of_methodNamed B.named
  have hlocks := B.notSynchronized
  have hS : va_S (fun _ : Nat => False) s.heap s.heap [] := va_S.rf
  have hP : va_P D vwCl [] s.heap := hP
  have hl := lv_entry ([.int 0, .int 24]) (n := 2) (Nat.le_of_ble_eq_true rfl)
  rw [lg_entry_eq]
  generalize (lg_sl ([.int 0, .int 24]) ++ List.replicate (2 - (lg_sl ([.int 0, .int 24])).length) Slot.unset).toArray = ls at hl ⊢
  have hl : lv_has ls 2 [(0, .int 0), (1, .int 24)] := hl
  refine lv_iload_n hx hb dX7_hasBit_0 rfl (lv_at hl 0 rfl) ?_
  refine lv_iload_n hx hb dX7_hasBit_1 rfl (lv_at hl 1 rfl) ?_
  refine lv_ishr hx hb dX7_hasBit_2 ?_
  refine lv_topi (fun v_1 ev_1 => ?_)
  obtain rfl : v_1 = 0 := ev_1.trans (by decide)
  refine lv_iconst (v := 1) hx hb dX7_hasBit_3 (by decide) ?_
  refine lv_iand hx hb dX7_hasBit_4 ?_
  refine lv_topi (fun v_2 ev_2 => ?_)
  obtain rfl : v_2 = 0 := ev_2.trans (by decide)
  refine lv_if_eq (tgt := 12) hx hb dX7_hasBit_5 (by decide) (fun _ => ?_) (fun h => absurd (by decide) h)
  refine lv_iconst (v := 0) hx hb dX7_hasBit_12 (by decide) ?_
  refine W.widen (k := 0) (n := 0) (Nat.le_of_ble_eq_true rfl) (Nat.le_of_ble_eq_true rfl) ?_
  exact W.zret (v := 0) hx hb hr rfl (fun t ht hW => ⟨⟨0, (), rfl, ⟨rfl, trivial⟩, trivial⟩, hS.F ht⟩) hS.2.2 dX7_hasBit_13
set_option maxHeartbeats 4000000 in
set_option maxRecDepth 100000 in
theorem k_X7_hasBit_25 (l : Launch) (D : va_G) (cy : Nat → ClassId) : Met l yX7_hasBit wsX7_hasBit ({ frames := 0, cells := 0, slots := 0, locals := 0 }) (kR D cy [.int 0, .int 25] []) (va_Qi (fun (r : Int32) (_ : Unit) => r = 0 ∧ True) (fun (_ : Unit) (_ : State) => True) (fun _ : Nat => False)) 0 0 (fun _ : Nat => False) := by
  refine Met.ofW (cc := cX7_hasBit) (maxL := 2) (ret := (some .boolean)) (by decide) rfl ?_
  intro p e s m args below meth c s₁ B hml hv
  obtain ⟨rfl, hP, hK⟩ := hv
  have hx := B.exec
  have hb := B.bytes
  have hr := B.returns
  have hts := atoms_spec (ws := wsX7_hasBit) B.pre
  have hown : s.vm.findClass RX7 = some m.cls := findClass_of_methodNamed B.named
  have hlocks := B.notSynchronized
  have hS : va_S (fun _ : Nat => False) s.heap s.heap [] := va_S.rf
  have hP : va_P D vwCl [] s.heap := hP
  have hl := lv_entry ([.int 0, .int 25]) (n := 2) (Nat.le_of_ble_eq_true rfl)
  rw [lg_entry_eq]
  generalize (lg_sl ([.int 0, .int 25]) ++ List.replicate (2 - (lg_sl ([.int 0, .int 25])).length) Slot.unset).toArray = ls at hl ⊢
  have hl : lv_has ls 2 [(0, .int 0), (1, .int 25)] := hl
  refine lv_iload_n hx hb dX7_hasBit_0 rfl (lv_at hl 0 rfl) ?_
  refine lv_iload_n hx hb dX7_hasBit_1 rfl (lv_at hl 1 rfl) ?_
  refine lv_ishr hx hb dX7_hasBit_2 ?_
  refine lv_topi (fun v_1 ev_1 => ?_)
  obtain rfl : v_1 = 0 := ev_1.trans (by decide)
  refine lv_iconst (v := 1) hx hb dX7_hasBit_3 (by decide) ?_
  refine lv_iand hx hb dX7_hasBit_4 ?_
  refine lv_topi (fun v_2 ev_2 => ?_)
  obtain rfl : v_2 = 0 := ev_2.trans (by decide)
  refine lv_if_eq (tgt := 12) hx hb dX7_hasBit_5 (by decide) (fun _ => ?_) (fun h => absurd (by decide) h)
  refine lv_iconst (v := 0) hx hb dX7_hasBit_12 (by decide) ?_
  refine W.widen (k := 0) (n := 0) (Nat.le_of_ble_eq_true rfl) (Nat.le_of_ble_eq_true rfl) ?_
  exact W.zret (v := 0) hx hb hr rfl (fun t ht hW => ⟨⟨0, (), rfl, ⟨rfl, trivial⟩, trivial⟩, hS.F ht⟩) hS.2.2 dX7_hasBit_13
set_option maxHeartbeats 4000000 in
set_option maxRecDepth 100000 in
theorem k_X7_hasBit_26 (l : Launch) (D : va_G) (cy : Nat → ClassId) : Met l yX7_hasBit wsX7_hasBit ({ frames := 0, cells := 0, slots := 0, locals := 0 }) (kR D cy [.int 0, .int 26] []) (va_Qi (fun (r : Int32) (_ : Unit) => r = 0 ∧ True) (fun (_ : Unit) (_ : State) => True) (fun _ : Nat => False)) 0 0 (fun _ : Nat => False) := by
  refine Met.ofW (cc := cX7_hasBit) (maxL := 2) (ret := (some .boolean)) (by decide) rfl ?_
  intro p e s m args below meth c s₁ B hml hv
  obtain ⟨rfl, hP, hK⟩ := hv
  have hx := B.exec
  have hb := B.bytes
  have hr := B.returns
  have hts := atoms_spec (ws := wsX7_hasBit) B.pre
  have hown : s.vm.findClass RX7 = some m.cls := findClass_of_methodNamed B.named
  have hlocks := B.notSynchronized
  have hS : va_S (fun _ : Nat => False) s.heap s.heap [] := va_S.rf
  have hP : va_P D vwCl [] s.heap := hP
  have hl := lv_entry ([.int 0, .int 26]) (n := 2) (Nat.le_of_ble_eq_true rfl)
  rw [lg_entry_eq]
  generalize (lg_sl ([.int 0, .int 26]) ++ List.replicate (2 - (lg_sl ([.int 0, .int 26])).length) Slot.unset).toArray = ls at hl ⊢
  have hl : lv_has ls 2 [(0, .int 0), (1, .int 26)] := hl
  refine lv_iload_n hx hb dX7_hasBit_0 rfl (lv_at hl 0 rfl) ?_
  refine lv_iload_n hx hb dX7_hasBit_1 rfl (lv_at hl 1 rfl) ?_
  refine lv_ishr hx hb dX7_hasBit_2 ?_
  refine lv_topi (fun v_1 ev_1 => ?_)
  obtain rfl : v_1 = 0 := ev_1.trans (by decide)
  refine lv_iconst (v := 1) hx hb dX7_hasBit_3 (by decide) ?_
  refine lv_iand hx hb dX7_hasBit_4 ?_
  refine lv_topi (fun v_2 ev_2 => ?_)
  obtain rfl : v_2 = 0 := ev_2.trans (by decide)
  refine lv_if_eq (tgt := 12) hx hb dX7_hasBit_5 (by decide) (fun _ => ?_) (fun h => absurd (by decide) h)
  refine lv_iconst (v := 0) hx hb dX7_hasBit_12 (by decide) ?_
  refine W.widen (k := 0) (n := 0) (Nat.le_of_ble_eq_true rfl) (Nat.le_of_ble_eq_true rfl) ?_
  exact W.zret (v := 0) hx hb hr rfl (fun t ht hW => ⟨⟨0, (), rfl, ⟨rfl, trivial⟩, trivial⟩, hS.F ht⟩) hS.2.2 dX7_hasBit_13
set_option maxHeartbeats 4000000 in
set_option maxRecDepth 100000 in
theorem k_X7_hasBit_27 (l : Launch) (D : va_G) (cy : Nat → ClassId) : Met l yX7_hasBit wsX7_hasBit ({ frames := 0, cells := 0, slots := 0, locals := 0 }) (kR D cy [.int 0, .int 27] []) (va_Qi (fun (r : Int32) (_ : Unit) => r = 0 ∧ True) (fun (_ : Unit) (_ : State) => True) (fun _ : Nat => False)) 0 0 (fun _ : Nat => False) := by
  refine Met.ofW (cc := cX7_hasBit) (maxL := 2) (ret := (some .boolean)) (by decide) rfl ?_
  intro p e s m args below meth c s₁ B hml hv
  obtain ⟨rfl, hP, hK⟩ := hv
  have hx := B.exec
  have hb := B.bytes
  have hr := B.returns
  have hts := atoms_spec (ws := wsX7_hasBit) B.pre
  have hown : s.vm.findClass RX7 = some m.cls := findClass_of_methodNamed B.named
  have hlocks := B.notSynchronized
  have hS : va_S (fun _ : Nat => False) s.heap s.heap [] := va_S.rf
  have hP : va_P D vwCl [] s.heap := hP
  have hl := lv_entry ([.int 0, .int 27]) (n := 2) (Nat.le_of_ble_eq_true rfl)
  rw [lg_entry_eq]
  generalize (lg_sl ([.int 0, .int 27]) ++ List.replicate (2 - (lg_sl ([.int 0, .int 27])).length) Slot.unset).toArray = ls at hl ⊢
  have hl : lv_has ls 2 [(0, .int 0), (1, .int 27)] := hl
  refine lv_iload_n hx hb dX7_hasBit_0 rfl (lv_at hl 0 rfl) ?_
  refine lv_iload_n hx hb dX7_hasBit_1 rfl (lv_at hl 1 rfl) ?_
  refine lv_ishr hx hb dX7_hasBit_2 ?_
  refine lv_topi (fun v_1 ev_1 => ?_)
  obtain rfl : v_1 = 0 := ev_1.trans (by decide)
  refine lv_iconst (v := 1) hx hb dX7_hasBit_3 (by decide) ?_
  refine lv_iand hx hb dX7_hasBit_4 ?_
  refine lv_topi (fun v_2 ev_2 => ?_)
  obtain rfl : v_2 = 0 := ev_2.trans (by decide)
  refine lv_if_eq (tgt := 12) hx hb dX7_hasBit_5 (by decide) (fun _ => ?_) (fun h => absurd (by decide) h)
  refine lv_iconst (v := 0) hx hb dX7_hasBit_12 (by decide) ?_
  refine W.widen (k := 0) (n := 0) (Nat.le_of_ble_eq_true rfl) (Nat.le_of_ble_eq_true rfl) ?_
  exact W.zret (v := 0) hx hb hr rfl (fun t ht hW => ⟨⟨0, (), rfl, ⟨rfl, trivial⟩, trivial⟩, hS.F ht⟩) hS.2.2 dX7_hasBit_13
set_option maxHeartbeats 4000000 in
set_option maxRecDepth 100000 in
theorem k_X7_hasBit_28 (l : Launch) (D : va_G) (cy : Nat → ClassId) : Met l yX7_hasBit wsX7_hasBit ({ frames := 0, cells := 0, slots := 0, locals := 0 }) (kR D cy [.int 0, .int 28] []) (va_Qi (fun (r : Int32) (_ : Unit) => r = 0 ∧ True) (fun (_ : Unit) (_ : State) => True) (fun _ : Nat => False)) 0 0 (fun _ : Nat => False) := by
  refine Met.ofW (cc := cX7_hasBit) (maxL := 2) (ret := (some .boolean)) (by decide) rfl ?_
  intro p e s m args below meth c s₁ B hml hv
  obtain ⟨rfl, hP, hK⟩ := hv
  have hx := B.exec
  have hb := B.bytes
  have hr := B.returns
  have hts := atoms_spec (ws := wsX7_hasBit) B.pre
  have hown : s.vm.findClass RX7 = some m.cls := findClass_of_methodNamed B.named
  have hlocks := B.notSynchronized
  have hS : va_S (fun _ : Nat => False) s.heap s.heap [] := va_S.rf
  have hP : va_P D vwCl [] s.heap := hP
  have hl := lv_entry ([.int 0, .int 28]) (n := 2) (Nat.le_of_ble_eq_true rfl)
  rw [lg_entry_eq]
  generalize (lg_sl ([.int 0, .int 28]) ++ List.replicate (2 - (lg_sl ([.int 0, .int 28])).length) Slot.unset).toArray = ls at hl ⊢
  have hl : lv_has ls 2 [(0, .int 0), (1, .int 28)] := hl
  refine lv_iload_n hx hb dX7_hasBit_0 rfl (lv_at hl 0 rfl) ?_
  refine lv_iload_n hx hb dX7_hasBit_1 rfl (lv_at hl 1 rfl) ?_
  refine lv_ishr hx hb dX7_hasBit_2 ?_
  refine lv_topi (fun v_1 ev_1 => ?_)
  obtain rfl : v_1 = 0 := ev_1.trans (by decide)
  refine lv_iconst (v := 1) hx hb dX7_hasBit_3 (by decide) ?_
  refine lv_iand hx hb dX7_hasBit_4 ?_
  refine lv_topi (fun v_2 ev_2 => ?_)
  obtain rfl : v_2 = 0 := ev_2.trans (by decide)
  refine lv_if_eq (tgt := 12) hx hb dX7_hasBit_5 (by decide) (fun _ => ?_) (fun h => absurd (by decide) h)
  refine lv_iconst (v := 0) hx hb dX7_hasBit_12 (by decide) ?_
  refine W.widen (k := 0) (n := 0) (Nat.le_of_ble_eq_true rfl) (Nat.le_of_ble_eq_true rfl) ?_
  exact W.zret (v := 0) hx hb hr rfl (fun t ht hW => ⟨⟨0, (), rfl, ⟨rfl, trivial⟩, trivial⟩, hS.F ht⟩) hS.2.2 dX7_hasBit_13
set_option maxHeartbeats 4000000 in
set_option maxRecDepth 100000 in
theorem k_X7_hasBit_29 (l : Launch) (D : va_G) (cy : Nat → ClassId) : Met l yX7_hasBit wsX7_hasBit ({ frames := 0, cells := 0, slots := 0, locals := 0 }) (kR D cy [.int 0, .int 29] []) (va_Qi (fun (r : Int32) (_ : Unit) => r = 0 ∧ True) (fun (_ : Unit) (_ : State) => True) (fun _ : Nat => False)) 0 0 (fun _ : Nat => False) := by
  refine Met.ofW (cc := cX7_hasBit) (maxL := 2) (ret := (some .boolean)) (by decide) rfl ?_
  intro p e s m args below meth c s₁ B hml hv
  obtain ⟨rfl, hP, hK⟩ := hv
  have hx := B.exec
  have hb := B.bytes
  have hr := B.returns
  have hts := atoms_spec (ws := wsX7_hasBit) B.pre
  have hown : s.vm.findClass RX7 = some m.cls := findClass_of_methodNamed B.named
  have hlocks := B.notSynchronized
  have hS : va_S (fun _ : Nat => False) s.heap s.heap [] := va_S.rf
  have hP : va_P D vwCl [] s.heap := hP
  have hl := lv_entry ([.int 0, .int 29]) (n := 2) (Nat.le_of_ble_eq_true rfl)
  rw [lg_entry_eq]
  generalize (lg_sl ([.int 0, .int 29]) ++ List.replicate (2 - (lg_sl ([.int 0, .int 29])).length) Slot.unset).toArray = ls at hl ⊢
  have hl : lv_has ls 2 [(0, .int 0), (1, .int 29)] := hl
  refine lv_iload_n hx hb dX7_hasBit_0 rfl (lv_at hl 0 rfl) ?_
  refine lv_iload_n hx hb dX7_hasBit_1 rfl (lv_at hl 1 rfl) ?_
  refine lv_ishr hx hb dX7_hasBit_2 ?_
  refine lv_topi (fun v_1 ev_1 => ?_)
  obtain rfl : v_1 = 0 := ev_1.trans (by decide)
  refine lv_iconst (v := 1) hx hb dX7_hasBit_3 (by decide) ?_
  refine lv_iand hx hb dX7_hasBit_4 ?_
  refine lv_topi (fun v_2 ev_2 => ?_)
  obtain rfl : v_2 = 0 := ev_2.trans (by decide)
  refine lv_if_eq (tgt := 12) hx hb dX7_hasBit_5 (by decide) (fun _ => ?_) (fun h => absurd (by decide) h)
  refine lv_iconst (v := 0) hx hb dX7_hasBit_12 (by decide) ?_
  refine W.widen (k := 0) (n := 0) (Nat.le_of_ble_eq_true rfl) (Nat.le_of_ble_eq_true rfl) ?_
  exact W.zret (v := 0) hx hb hr rfl (fun t ht hW => ⟨⟨0, (), rfl, ⟨rfl, trivial⟩, trivial⟩, hS.F ht⟩) hS.2.2 dX7_hasBit_13
theorem dX6_meetsRing_0 : decode cX6_meetsRing 0 = .ok (.iconst 0, 1) := by decide +kernel
theorem dX6_meetsRing_1 : decode cX6_meetsRing 1 = .ok (.istore_n 2, 1) := by decide +kernel
theorem dX6_meetsRing_2 : decode cX6_meetsRing 2 = .ok (.aload_n 0, 1) := by decide +kernel
theorem dX6_meetsRing_3 : decode cX6_meetsRing 3 = .ok (.iload_n 1, 1) := by decide +kernel
theorem dX6_meetsRing_4 : decode cX6_meetsRing 4 = .ok (.iload_n 2, 1) := by decide +kernel
theorem dX6_meetsRing_5 : decode cX6_meetsRing 5 = .ok (.invokevirtual 125, 3) := by decide +kernel
set_option maxRecDepth 20000 in
theorem ggX6_meetsRing_X6_enter : GoodIn wsX6_meetsRing wsX6_enter := goodIn_ca (goodIn_r _ [10, 2, 4, 3, 11, 34, 35, 36, 37, 38, 39, 40, 41, 42, 43, 44, 45, 46] (by decide +kernel) (by decide +kernel)) (goodIn_sub (fun _ h => List.mem_cons_of_mem _ (List.mem_append_left _ (List.mem_append_right _ h))) (by decide +kernel))
set_option maxRecDepth 20000 in
theorem gX6_meetsRing_X6_enter : GoodIn wsX6_meetsRing (wsV RX6 125 RX6 yX6_enter wsX6_enter) := goodIn_app (goodIn_of _ (by decide +kernel)) ggX6_meetsRing_X6_enter
theorem dX6_meetsRing_8 : decode cX6_meetsRing 8 = .ok (.iconst 0, 1) := by decide +kernel
theorem dX6_meetsRing_9 : decode cX6_meetsRing 9 = .ok (.istore_n 3, 1) := by decide +kernel
theorem dX6_meetsRing_10 : decode cX6_meetsRing 10 = .ok (.iload_n 3, 1) := by decide +kernel
theorem dX6_meetsRing_11 : decode cX6_meetsRing 11 = .ok (.ldc 128, 2) := by decide +kernel
theorem dX6_meetsRing_13 : decode cX6_meetsRing 13 = .ok (.if_icmp .ge 166, 3) := by decide +kernel
theorem dX6_meetsRing_16 : decode cX6_meetsRing 16 = .ok (.iload_n 2, 1) := by decide +kernel
theorem dX6_meetsRing_17 : decode cX6_meetsRing 17 = .ok (.ifCond .lt 162, 3) := by decide +kernel
theorem dX6_meetsRing_20 : decode cX6_meetsRing 20 = .ok (.aload_n 0, 1) := by decide +kernel
theorem dX6_meetsRing_21 : decode cX6_meetsRing 21 = .ok (.getfield 39, 3) := by decide +kernel
theorem dX6_meetsRing_24 : decode cX6_meetsRing 24 = .ok (.iload_n 2, 1) := by decide +kernel
theorem dX6_meetsRing_25 : decode cX6_meetsRing 25 = .ok (.iaload, 1) := by decide +kernel
theorem dX6_meetsRing_26 : decode cX6_meetsRing 26 = .ok (.istore 4, 2) := by decide +kernel
theorem dX6_meetsRing_28 : decode cX6_meetsRing 28 = .ok (.aload_n 0, 1) := by decide +kernel
theorem dX6_meetsRing_29 : decode cX6_meetsRing 29 = .ok (.getfield 36, 3) := by decide +kernel
theorem dX6_meetsRing_32 : decode cX6_meetsRing 32 = .ok (.iload 4, 2) := by decide +kernel
theorem dX6_meetsRing_34 : decode cX6_meetsRing 34 = .ok (.iaload, 1) := by decide +kernel
theorem dX6_meetsRing_35 : decode cX6_meetsRing 35 = .ok (.bipush 30, 2) := by decide +kernel
theorem dX6_meetsRing_37 : decode cX6_meetsRing 37 = .ok (.if_icmp .lt 33, 3) := by decide +kernel
theorem dX6_meetsRing_70 : decode cX6_meetsRing 70 = .ok (.aload_n 0, 1) := by decide +kernel
theorem dX6_meetsRing_71 : decode cX6_meetsRing 71 = .ok (.getfield 36, 3) := by decide +kernel
theorem dX6_meetsRing_74 : decode cX6_meetsRing 74 = .ok (.iload 4, 2) := by decide +kernel
theorem dX6_meetsRing_76 : decode cX6_meetsRing 76 = .ok (.dup2, 1) := by decide +kernel
theorem dX6_meetsRing_77 : decode cX6_meetsRing 77 = .ok (.iaload, 1) := by decide +kernel
theorem dX6_meetsRing_78 : decode cX6_meetsRing 78 = .ok (.dup_x2, 1) := by decide +kernel
theorem dX6_meetsRing_79 : decode cX6_meetsRing 79 = .ok (.iconst 1, 1) := by decide +kernel
theorem dX6_meetsRing_80 : decode cX6_meetsRing 80 = .ok (.iadd, 1) := by decide +kernel
theorem dX6_meetsRing_81 : decode cX6_meetsRing 81 = .ok (.iastore, 1) := by decide +kernel
theorem dX6_meetsRing_82 : decode cX6_meetsRing 82 = .ok (.istore 5, 2) := by decide +kernel
theorem dX6_meetsRing_84 : decode cX6_meetsRing 84 = .ok (.aload_n 0, 1) := by decide +kernel
theorem dX6_meetsRing_85 : decode cX6_meetsRing 85 = .ok (.getfield 27, 3) := by decide +kernel
theorem dX6_meetsRing_88 : decode cX6_meetsRing 88 = .ok (.iload 4, 2) := by decide +kernel
theorem dX6_meetsRing_90 : decode cX6_meetsRing 90 = .ok (.iaload, 1) := by decide +kernel
theorem dX6_meetsRing_91 : decode cX6_meetsRing 91 = .ok (.iload 5, 2) := by decide +kernel
theorem dX6_meetsRing_93 : decode cX6_meetsRing 93 = .ok (.invokestatic 132, 3) := by decide +kernel
set_option maxRecDepth 20000 in
theorem ggX6_meetsRing_X7_hasBit : GoodIn wsX6_meetsRing wsX7_hasBit := goodIn_r _ [22] (by decide +kernel) (by decide +kernel)
set_option maxRecDepth 20000 in
theorem gX6_meetsRing_X7_hasBit_n132 : GoodIn wsX6_meetsRing (wsX7_hasBit) := ggX6_meetsRing_X7_hasBit
theorem dX6_meetsRing_96 : decode cX6_meetsRing 96 = .ok (.ifCond .eq 14, 3) := by decide +kernel
theorem dX6_meetsRing_110 : decode cX6_meetsRing 110 = .ok (.iload 4, 2) := by decide +kernel
theorem dX6_meetsRing_112 : decode cX6_meetsRing 112 = .ok (.istore 6, 2) := by decide +kernel
theorem dX6_meetsRing_114 : decode cX6_meetsRing 114 = .ok (.iload 6, 2) := by decide +kernel
theorem dX6_meetsRing_116 : decode cX6_meetsRing 116 = .ok (.iload 4, 2) := by decide +kernel
theorem dX6_meetsRing_118 : decode cX6_meetsRing 118 = .ok (.if_icmp .eq 16, 3) := by decide +kernel
theorem dX6_meetsRing_134 : decode cX6_meetsRing 134 = .ok (.aload_n 0, 1) := by decide +kernel
theorem dX6_meetsRing_135 : decode cX6_meetsRing 135 = .ok (.getfield 30, 3) := by decide +kernel
theorem dX6_meetsRing_138 : decode cX6_meetsRing 138 = .ok (.iload 6, 2) := by decide +kernel
theorem dX6_meetsRing_140 : decode cX6_meetsRing 140 = .ok (.iaload, 1) := by decide +kernel
theorem dX6_meetsRing_141 : decode cX6_meetsRing 141 = .ok (.iconst 2, 1) := by decide +kernel
theorem dX6_meetsRing_142 : decode cX6_meetsRing 142 = .ok (.if_icmp .ne 14, 3) := by decide +kernel
theorem dX6_meetsRing_156 : decode cX6_meetsRing 156 = .ok (.iload 6, 2) := by decide +kernel
theorem dX6_meetsRing_158 : decode cX6_meetsRing 158 = .ok (.iload 4, 2) := by decide +kernel
theorem dX6_meetsRing_160 : decode cX6_meetsRing 160 = .ok (.if_icmp .eq 13, 3) := by decide +kernel
theorem dX6_meetsRing_173 : decode cX6_meetsRing 173 = .ok (.iinc 3 1, 3) := by decide +kernel
theorem dX6_meetsRing_176 : decode cX6_meetsRing 176 = .ok (.goto (-166), 3) := by decide +kernel
theorem dX6_meetsRing_40 : decode cX6_meetsRing 40 = .ok (.aload_n 0, 1) := by decide +kernel
theorem dX6_meetsRing_41 : decode cX6_meetsRing 41 = .ok (.getfield 30, 3) := by decide +kernel
theorem dX6_meetsRing_44 : decode cX6_meetsRing 44 = .ok (.iload 4, 2) := by decide +kernel
theorem dX6_meetsRing_46 : decode cX6_meetsRing 46 = .ok (.iconst 2, 1) := by decide +kernel
theorem dX6_meetsRing_47 : decode cX6_meetsRing 47 = .ok (.iastore, 1) := by decide +kernel
theorem dX6_meetsRing_48 : decode cX6_meetsRing 48 = .ok (.iinc 2 (-1), 3) := by decide +kernel
theorem dX6_meetsRing_51 : decode cX6_meetsRing 51 = .ok (.iload_n 2, 1) := by decide +kernel
theorem dX6_meetsRing_52 : decode cX6_meetsRing 52 = .ok (.ifCond .lt 121, 3) := by decide +kernel
theorem dX6_meetsRing_179 : decode cX6_meetsRing 179 = .ok (.iconst 0, 1) := by decide +kernel
theorem dX6_meetsRing_180 : decode cX6_meetsRing 180 = .ok (.ireturn, 1) := by decide +kernel
set_option maxHeartbeats 4000000 in
set_option maxRecDepth 100000 in
theorem k_X6_meetsRing (l : Launch) (hl9 : l.stackTraces = false) (D : va_G) (cy : Nat → ClassId) (h1 : Nat) (x2 : Value) (x3 : Value) (x4 : Value) (x5 : Value) (x6 : Value) (h7 : Nat) (h8 : Nat) (h9 : Nat) (h10 : Nat) (h11 : Nat) (x12 : Value) (x13 : Value) (x14 : Value) (g15 : Nat → Int32) (kg15_0 : g15 0 = 0) (g16 : Nat → Int32) (kg16_0 : g16 0 = 0) (g17 : Nat → Int32) (g18 : Nat → Int32) (kg18_0 : g18 0 = 0) (g19 : Nat → Int32) (kg19_0 : g19 0 = 0) (sz : Nat) : Met l yX6_meetsRing wsX6_meetsRing ({ frames := 1, cells := 0, slots := 0, locals := 22 }) (kWX D cy [.ref h1, .int 0] [(h1, .inr (8, [x2, x3, x4, x5, x6, .ref h7, .ref h8, .ref h9, .ref h10, .ref h11, x12, x13, x14])), (h7, .inl (cy 1, 1000, .inl g15)), (h8, .inl (cy 1, 1000, .inl g16)), (h9, .inl (cy 1, 1000, .inl g17)), (h10, .inl (cy 1, 1000, .inl g18)), (h11, .inl (cy 1, 1000, .inl g19))] sz) (va_Qi (fun (r : Int32) (_ : Unit) => r = 0 ∧ True) (fun (_ : Unit) (t : State) => va_P D vwCl [(h1, .inr (8, [x2, x3, x4, x5, x6, .ref h7, .ref h8, .ref h9, .ref h10, .ref h11, x12, x13, x14])), (h7, .inl (cy 1, 1000, .inl g15)), (h8, .inl (cy 1, 1000, .inl (upd g16 0 2))), (h9, .inl (cy 1, 1000, .inl (upd g17 0 0))), (h10, .inl (cy 1, 1000, .inl (upd g18 0 30))), (h11, .inl (cy 1, 1000, .inl (upd g19 0 0)))] t.heap ∧ va_D (va_A [(h1, .inr (8, [x2, x3, x4, x5, x6, .ref h7, .ref h8, .ref h9, .ref h10, .ref h11, x12, x13, x14])), (h7, .inl (cy 1, 1000, .inl g15)), (h8, .inl (cy 1, 1000, .inl g16)), (h9, .inl (cy 1, 1000, .inl g17)), (h10, .inl (cy 1, 1000, .inl g18)), (h11, .inl (cy 1, 1000, .inl g19))] sz) [(h1, .inr (8, [x2, x3, x4, x5, x6, .ref h7, .ref h8, .ref h9, .ref h10, .ref h11, x12, x13, x14])), (h7, .inl (cy 1, 1000, .inl g15)), (h8, .inl (cy 1, 1000, .inl (upd g16 0 2))), (h9, .inl (cy 1, 1000, .inl (upd g17 0 0))), (h10, .inl (cy 1, 1000, .inl (upd g18 0 30))), (h11, .inl (cy 1, 1000, .inl (upd g19 0 0)))]) (va_A [(h1, .inr (8, [x2, x3, x4, x5, x6, .ref h7, .ref h8, .ref h9, .ref h10, .ref h11, x12, x13, x14])), (h7, .inl (cy 1, 1000, .inl g15)), (h8, .inl (cy 1, 1000, .inl g16)), (h9, .inl (cy 1, 1000, .inl g17)), (h10, .inl (cy 1, 1000, .inl g18)), (h11, .inl (cy 1, 1000, .inl g19))] sz)) 0 0 (va_A [(h1, .inr (8, [x2, x3, x4, x5, x6, .ref h7, .ref h8, .ref h9, .ref h10, .ref h11, x12, x13, x14])), (h7, .inl (cy 1, 1000, .inl g15)), (h8, .inl (cy 1, 1000, .inl g16)), (h9, .inl (cy 1, 1000, .inl g17)), (h10, .inl (cy 1, 1000, .inl g18)), (h11, .inl (cy 1, 1000, .inl g19))] sz) := by
  refine Met.ofW (cc := cX6_meetsRing) (maxL := 7) (ret := (some .boolean)) (by decide) rfl ?_
  intro p e s m args below meth c s₁ B hml hv
  obtain ⟨rfl, hsz, hP, hK, hD0, hE⟩ := hv
  have hx := B.exec
  have hb := B.bytes
  have hr := B.returns
  have hts := atoms_spec (ws := wsX6_meetsRing) B.pre
  have hown : s.vm.findClass RX6 = some m.cls := findClass_of_methodNamed B.named
  have hlocks := B.notSynchronized
  subst hsz
  have hD := hD0.self (sz := s.heap.size)
  generalize hAe : va_A [(h1, .inr (8, [x2, x3, x4, x5, x6, .ref h7, .ref h8, .ref h9, .ref h10, .ref h11, x12, x13, x14])), (h7, .inl (cy 1, 1000, .inl g15)), (h8, .inl (cy 1, 1000, .inl g16)), (h9, .inl (cy 1, 1000, .inl g17)), (h10, .inl (cy 1, 1000, .inl g18)), (h11, .inl (cy 1, 1000, .inl g19))] s.heap.size = A at hD hE ⊢
  have hA : ∀ q : Nat, s.heap.size ≤ q → A q := fun q h => by rw [← hAe]; exact Or.inr h
  have hS : va_S A s.heap s.heap [] := va_S.rf
  have hP : va_P D vwCl [(h1, .inr (8, [x2, x3, x4, x5, x6, .ref h7, .ref h8, .ref h9, .ref h10, .ref h11, x12, x13, x14])), (h7, .inl (cy 1, 1000, .inl g15)), (h8, .inl (cy 1, 1000, .inl g16)), (h9, .inl (cy 1, 1000, .inl g17)), (h10, .inl (cy 1, 1000, .inl g18)), (h11, .inl (cy 1, 1000, .inl g19))] s.heap := hP
  have hl := lv_entry ([.ref h1, .int 0]) (n := 7) (Nat.le_of_ble_eq_true rfl)
  rw [lg_entry_eq]
  generalize (lg_sl ([.ref h1, .int 0]) ++ List.replicate (7 - (lg_sl ([.ref h1, .int 0])).length) Slot.unset).toArray = ls at hl ⊢
  have hl : lv_has ls 7 [(0, .ref h1), (1, .int 0)] := hl
  refine lv_iconst (v := 0) hx hb dX6_meetsRing_0 (by decide) ?_
  refine lv_istore_n (lv' := [(2, .int 0), (0, .ref h1), (1, .int 0)]) hx hb dX6_meetsRing_1 rfl hl (by decide) rfl (fun ls hl => ?_)
  refine lv_aload_n hx hb dX6_meetsRing_2 rfl (lv_at hl 1 rfl) ?_
  refine lv_iload_n hx hb dX6_meetsRing_3 rfl (lv_at hl 2 rfl) ?_
  refine lv_iload_n hx hb dX6_meetsRing_4 rfl (lv_at hl 0 rfl) ?_
  have hPc := hP.sub (ws' := [(h1, .inr (8, [x2, x3, x4, x5, x6, .ref h7, .ref h8, .ref h9, .ref h10, .ref h11, x12, x13, x14])), (h8, .inl (cy 1, 1000, .inl g16)), (h9, .inl (cy 1, 1000, .inl g17)), (h10, .inl (cy 1, 1000, .inl g18)), (h11, .inl (cy 1, 1000, .inl g19))]) [0, 2, 3, 4, 5] rfl
  have hDc := hD.sub (ws' := [(h1, .inr (8, [x2, x3, x4, x5, x6, .ref h7, .ref h8, .ref h9, .ref h10, .ref h11, x12, x13, x14])), (h8, .inl (cy 1, 1000, .inl g16)), (h9, .inl (cy 1, 1000, .inl g17)), (h10, .inl (cy 1, 1000, .inl g18)), (h11, .inl (cy 1, 1000, .inl g19))]) [0, 2, 3, 4, 5] (by decide) rfl
  have hFc := va_free (wc := [(h1, .inr (8, [x2, x3, x4, x5, x6, .ref h7, .ref h8, .ref h9, .ref h10, .ref h11, x12, x13, x14])), (h8, .inl (cy 1, 1000, .inl g16)), (h9, .inl (cy 1, 1000, .inl g17)), (h10, .inl (cy 1, 1000, .inl g18)), (h11, .inl (cy 1, 1000, .inl g19))]) hD hS hA [0, 2, 3, 4, 5] rfl
  refine va_callv (va_runV (As := [.int 0, .int 0]) (rest := []) ⟨hx, hb, hml, hown, hts⟩ (k_X6_enter l D cy h1 (x2) (x3) (x4) (x5) (x6) (.ref h7) h8 h9 h10 h11 (x12) (x13) (x14) g16 g17 g18 g19 s.heap.size) (cwV 2 hts gX6_meetsRing_X6_enter rfl rfl rfl (by decide +kernel) ⟨(Nat.le_of_ble_eq_true rfl), (Nat.le_of_ble_eq_true rfl)⟩) ⟨kW_fb, va_recv hK hP (ci := 8) (q0 := 0) rfl rfl, (kW_go hPc hK hDc)⟩ rfl rfl hl.1 rfl (lv_room (Nat.le_of_ble_eq_true rfl)) dX6_meetsRing_5 ⟨(Nat.le_of_ble_eq_true rfl), (Nat.le_of_ble_eq_true rfl)⟩) hS (fun q _ h => hFc q h) hFc (fun u t H locs ht hvm hw hB hz1 hk1 hS => ?_)
  obtain ⟨hP1, hD1⟩ := hB
  rw [ht] at hP1
  try dsimp only at hw hP1 hD1
  obtain ⟨hP, hD⟩ := va_join (wr := [(h7, .inl (cy 1, 1000, .inl g15))]) (w1 := [(h1, .inr (8, [x2, x3, x4, x5, x6, .ref h7, .ref h8, .ref h9, .ref h10, .ref h11, x12, x13, x14])), (h8, .inl (cy 1, 1000, .inl (upd g16 0 1))), (h9, .inl (cy 1, 1000, .inl (upd g17 0 0))), (h10, .inl (cy 1, 1000, .inl (upd g18 0 0))), (h11, .inl (cy 1, 1000, .inl (upd g19 0 0)))]) hP hD [0, 2, 3, 4, 5] [1] rfl rfl (by decide) (by decide) hk1 hFc hP1 hD1
  have hP : va_P D vwCl [(h7, .inl (cy 1, 1000, .inl g15)), (h1, .inr (8, [x2, x3, x4, x5, x6, .ref h7, .ref h8, .ref h9, .ref h10, .ref h11, x12, x13, x14])), (h8, .inl (cy 1, 1000, .inl (upd g16 0 1))), (h9, .inl (cy 1, 1000, .inl (upd g17 0 0))), (h10, .inl (cy 1, 1000, .inl (upd g18 0 0))), (h11, .inl (cy 1, 1000, .inl (upd g19 0 0)))] H := hP
  have hD : va_D A [(h7, .inl (cy 1, 1000, .inl g15)), (h1, .inr (8, [x2, x3, x4, x5, x6, .ref h7, .ref h8, .ref h9, .ref h10, .ref h11, x12, x13, x14])), (h8, .inl (cy 1, 1000, .inl (upd g16 0 1))), (h9, .inl (cy 1, 1000, .inl (upd g17 0 0))), (h10, .inl (cy 1, 1000, .inl (upd g18 0 0))), (h11, .inl (cy 1, 1000, .inl (upd g19 0 0)))] := hD
  refine lv_iconst (v := 0) hx hb dX6_meetsRing_8 (by decide) ?_
  refine lv_istore_n (lv' := [(3, .int 0), (2, .int 0), (0, .ref h1), (1, .int 0)]) hx hb dX6_meetsRing_9 rfl hl (by decide) rfl (fun ls hl => ?_)
  refine lv_iload_n hx hb dX6_meetsRing_10 rfl (lv_at hl 0 rfl) ?_
  refine lv_ldc (v := 1000000) hx hb hown (hts (.constant RX6 128 (1000000)) (List.mem_cons_of_mem _ (List.mem_append_left _ (List.mem_append_left _ (List.mem_append_left _ (List.mem_append_left _ (List.mem_of_getElem? (i := 0) rfl))))))) dX6_meetsRing_11 ?_
  refine lv_icmp_ge (tgt := 179) hx hb dX6_meetsRing_13 (by decide) (fun h => absurd h (by decide)) (fun _ => ?_)
  refine lv_iload_n hx hb dX6_meetsRing_16 rfl (lv_at hl 1 rfl) ?_
  refine lv_if_lt (tgt := 179) hx hb dX6_meetsRing_17 (by decide) (fun h => absurd h (by decide)) (fun _ => ?_)
  refine lv_aload_n hx hb dX6_meetsRing_20 rfl (lv_at hl 2 rfl) ?_
  refine va_get (D := D) (ci := 8) (v := .ref h11) (C := RX6) (T := TX6) (N := 13) hx hb hts (fun _ h => (List.mem_cons_of_mem _ (List.mem_append_left _ (List.mem_append_left _ (List.mem_append_right _ h))))) hown hK hP 1 rfl rfl 9 (by decide) (hts (.fieldLink RX6 39 "SelfishJunction$Survey" "stack" "[I") (List.mem_cons_of_mem _ (List.mem_append_left _ (List.mem_append_left _ (List.mem_append_left _ (List.mem_append_left _ (List.mem_of_getElem? (i := 1) rfl))))))) (fun _ h9 => h9) rfl dX6_meetsRing_21 ?_
  refine lv_iload_n hx hb dX6_meetsRing_24 rfl (lv_at hl 1 rfl) ?_
  refine va_iald hx hb hK hP 5 1 rfl rfl (kx_in 0 1000 rfl ⟨(Nat.le_of_ble_eq_true rfl), (Nat.le_of_ble_eq_true rfl)⟩ (Nat.le_of_ble_eq_true rfl)) dX6_meetsRing_25 ?_
  refine lv_topi (fun v_2 ev_2 => ?_)
  obtain rfl : v_2 = 0 := ev_2.trans rfl
  refine lv_istore (lv' := [(4, .int 0), (3, .int 0), (2, .int 0), (0, .ref h1), (1, .int 0)]) hx hb dX6_meetsRing_26 hl (by decide) rfl (fun ls hl => ?_)
  refine lv_aload_n hx hb dX6_meetsRing_28 rfl (lv_at hl 3 rfl) ?_
  refine va_get (D := D) (ci := 8) (v := .ref h10) (C := RX6) (T := TX6) (N := 13) hx hb hts (fun _ h => (List.mem_cons_of_mem _ (List.mem_append_left _ (List.mem_append_left _ (List.mem_append_right _ h))))) hown hK hP 1 rfl rfl 8 (by decide) (hts (.fieldLink RX6 36 "SelfishJunction$Survey" "tried" "[I") (List.mem_cons_of_mem _ (List.mem_append_left _ (List.mem_append_left _ (List.mem_append_left _ (List.mem_append_left _ (List.mem_of_getElem? (i := 2) rfl))))))) (fun _ h9 => h9) rfl dX6_meetsRing_29 ?_
  refine lv_iload hx hb dX6_meetsRing_32 (lv_at hl 0 rfl) ?_
  refine va_iald hx hb hK hP 4 1 rfl rfl (kx_in 0 1000 rfl ⟨(Nat.le_of_ble_eq_true rfl), (Nat.le_of_ble_eq_true rfl)⟩ (Nat.le_of_ble_eq_true rfl)) dX6_meetsRing_34 ?_
  refine lv_topi (fun v_3 ev_3 => ?_)
  obtain rfl : v_3 = 0 := ev_3.trans rfl
  refine lv_bipush (v := 30) hx hb dX6_meetsRing_35 (by decide) ?_
  refine lv_icmp_lt (tgt := 70) hx hb dX6_meetsRing_37 (by decide) (fun _ => ?_) (fun h => absurd (by decide) h)
  refine lv_aload_n hx hb dX6_meetsRing_70 rfl (lv_at hl 3 rfl) ?_
  refine va_get (D := D) (ci := 8) (v := .ref h10) (C := RX6) (T := TX6) (N := 13) hx hb hts (fun _ h => (List.mem_cons_of_mem _ (List.mem_append_left _ (List.mem_append_left _ (List.mem_append_right _ h))))) hown hK hP 1 rfl rfl 8 (by decide) (hts (.fieldLink RX6 36 "SelfishJunction$Survey" "tried" "[I") (List.mem_cons_of_mem _ (List.mem_append_left _ (List.mem_append_left _ (List.mem_append_left _ (List.mem_append_left _ (List.mem_of_getElem? (i := 2) rfl))))))) (fun _ h9 => h9) rfl dX6_meetsRing_71 ?_
  refine lv_iload hx hb dX6_meetsRing_74 (lv_at hl 0 rfl) ?_
  refine lv_dup2_11 hx hb dX6_meetsRing_76 rfl rfl ?_
  refine va_iald hx hb hK hP 4 1 rfl rfl (kx_in 0 1000 rfl ⟨(Nat.le_of_ble_eq_true rfl), (Nat.le_of_ble_eq_true rfl)⟩ (Nat.le_of_ble_eq_true rfl)) dX6_meetsRing_77 ?_
  refine lv_topi (fun v_4 ev_4 => ?_)
  obtain rfl : v_4 = 0 := ev_4.trans rfl
  refine lv_dup_x2 hx hb dX6_meetsRing_78 rfl rfl rfl ?_
  refine lv_iconst (v := 1) hx hb dX6_meetsRing_79 (by decide) ?_
  refine lv_iadd hx hb dX6_meetsRing_80 ?_
  refine lv_topi (fun v_5 ev_5 => ?_)
  obtain rfl : v_5 = 1 := ev_5.trans (by decide)
  refine va_iast hx hb hK hP hD hS 4 1 rfl rfl (kx_in 0 1000 rfl ⟨(Nat.le_of_ble_eq_true rfl), (Nat.le_of_ble_eq_true rfl)⟩ (Nat.le_of_ble_eq_true rfl)) dX6_meetsRing_81 (fun H locs hP hD hS => ?_)
  have hP : va_P D vwCl [(h7, .inl (cy 1, 1000, .inl g15)), (h1, .inr (8, [x2, x3, x4, x5, x6, .ref h7, .ref h8, .ref h9, .ref h10, .ref h11, x12, x13, x14])), (h8, .inl (cy 1, 1000, .inl (upd g16 0 1))), (h9, .inl (cy 1, 1000, .inl (upd g17 0 0))), (h10, .inl (cy 1, 1000, .inl (upd (upd g18 0 0) 0 1))), (h11, .inl (cy 1, 1000, .inl (upd g19 0 0)))] H := hP
  have hD : va_D A [(h7, .inl (cy 1, 1000, .inl g15)), (h1, .inr (8, [x2, x3, x4, x5, x6, .ref h7, .ref h8, .ref h9, .ref h10, .ref h11, x12, x13, x14])), (h8, .inl (cy 1, 1000, .inl (upd g16 0 1))), (h9, .inl (cy 1, 1000, .inl (upd g17 0 0))), (h10, .inl (cy 1, 1000, .inl (upd (upd g18 0 0) 0 1))), (h11, .inl (cy 1, 1000, .inl (upd g19 0 0)))] := hD
  rw [kx_uu] at hP hD
  refine lv_istore (lv' := [(5, .int 0), (4, .int 0), (3, .int 0), (2, .int 0), (0, .ref h1), (1, .int 0)]) hx hb dX6_meetsRing_82 hl (by decide) rfl (fun ls hl => ?_)
  refine lv_aload_n hx hb dX6_meetsRing_84 rfl (lv_at hl 4 rfl) ?_
  refine va_get (D := D) (ci := 8) (v := .ref h7) (C := RX6) (T := TX6) (N := 13) hx hb hts (fun _ h => (List.mem_cons_of_mem _ (List.mem_append_left _ (List.mem_append_left _ (List.mem_append_right _ h))))) hown hK hP 1 rfl rfl 5 (by decide) (hts (.fieldLink RX6 27 "SelfishJunction$Survey" "moves" "[I") (List.mem_cons_of_mem _ (List.mem_append_left _ (List.mem_append_left _ (List.mem_append_left _ (List.mem_append_left _ (List.mem_of_getElem? (i := 4) rfl))))))) (fun _ h9 => h9) rfl dX6_meetsRing_85 ?_
  refine lv_iload hx hb dX6_meetsRing_88 (lv_at hl 1 rfl) ?_
  refine va_iald hx hb hK hP 0 1 rfl rfl (kx_in 0 1000 rfl ⟨(Nat.le_of_ble_eq_true rfl), (Nat.le_of_ble_eq_true rfl)⟩ (Nat.le_of_ble_eq_true rfl)) dX6_meetsRing_90 ?_
  refine lv_topi (fun v_6 ev_6 => ?_)
  obtain rfl : v_6 = 0 := ev_6.trans (kg15_0)
  refine lv_iload hx hb dX6_meetsRing_91 (lv_at hl 0 rfl) ?_
  have hPc := hP.sub (ws' := []) [] rfl
  refine va_calli (va_runSN (As := [.int 0, .int 0]) (rest := []) ⟨hx, hb, hml, hown, hts⟩ (k_X7_hasBit l D cy ) ⟨va_cnB 2 hts gX6_meetsRing_X7_hasBit_n132 rfl rfl rfl (exP.nest hE (RX6, 132, yX7_hasBit, RX7) (by decide +kernel)) (hts (.initialized RX7) (List.mem_cons_of_mem _ (List.mem_append_left _ (List.mem_append_left _ (List.mem_append_left _ (List.mem_append_left _ (List.mem_of_getElem? (i := 20) rfl))))))) (by decide +kernel) ⟨(Nat.le_of_ble_eq_true rfl), (Nat.le_of_ble_eq_true rfl)⟩, (hts (.static yX7_hasBit) (List.mem_cons_of_mem _ (List.mem_append_left _ (List.mem_append_left _ (List.mem_append_left _ (List.mem_append_left _ (List.mem_of_getElem? (i := 19) rfl))))))), trivial⟩ ⟨kR_fb, (kR_go hPc hK)⟩ rfl rfl hl.1 rfl (lv_room (Nat.le_of_ble_eq_true rfl)) dX6_meetsRing_93 ⟨(Nat.le_of_ble_eq_true rfl), (Nat.le_of_ble_eq_true rfl)⟩) hS (fun _ _ h => h.elim) (fun _ h => h.elim) (fun r9 u t H locs ht hvm hw hB hz1 hk1 hS => ?_)
  have hP := kx_kept hP hk1
  obtain ⟨rfl, hw⟩ := hw
  refine lv_if_eq (tgt := 110) hx hb dX6_meetsRing_96 (by decide) (fun _ => ?_) (fun h => absurd (by decide) h)
  refine lv_iload hx hb dX6_meetsRing_110 (lv_at hl 1 rfl) ?_
  refine lv_istore (lv' := [(6, .int 0), (5, .int 0), (4, .int 0), (3, .int 0), (2, .int 0), (0, .ref h1), (1, .int 0)]) hx hb dX6_meetsRing_112 hl (by decide) rfl (fun ls hl => ?_)
  refine lv_iload hx hb dX6_meetsRing_114 (lv_at hl 0 rfl) ?_
  refine lv_iload hx hb dX6_meetsRing_116 (lv_at hl 2 rfl) ?_
  refine lv_icmp_eq (tgt := 134) hx hb dX6_meetsRing_118 (by decide) (fun _ => ?_) (fun h => absurd (by decide) h)
  refine lv_aload_n hx hb dX6_meetsRing_134 rfl (lv_at hl 5 rfl) ?_
  refine va_get (D := D) (ci := 8) (v := .ref h8) (C := RX6) (T := TX6) (N := 13) hx hb hts (fun _ h => (List.mem_cons_of_mem _ (List.mem_append_left _ (List.mem_append_left _ (List.mem_append_right _ h))))) hown hK hP 1 rfl rfl 6 (by decide) (hts (.fieldLink RX6 30 "SelfishJunction$Survey" "marks" "[I") (List.mem_cons_of_mem _ (List.mem_append_left _ (List.mem_append_left _ (List.mem_append_left _ (List.mem_append_left _ (List.mem_of_getElem? (i := 3) rfl))))))) (fun _ h9 => h9) rfl dX6_meetsRing_135 ?_
  refine lv_iload hx hb dX6_meetsRing_138 (lv_at hl 0 rfl) ?_
  refine va_iald hx hb hK hP 2 1 rfl rfl (kx_in 0 1000 rfl ⟨(Nat.le_of_ble_eq_true rfl), (Nat.le_of_ble_eq_true rfl)⟩ (Nat.le_of_ble_eq_true rfl)) dX6_meetsRing_140 ?_
  refine lv_topi (fun v_8 ev_8 => ?_)
  obtain rfl : v_8 = 1 := ev_8.trans rfl
  refine lv_iconst (v := 2) hx hb dX6_meetsRing_141 (by decide) ?_
  refine lv_icmp_ne (tgt := 156) hx hb dX6_meetsRing_142 (by decide) (fun _ => ?_) (fun h => absurd h (by decide))
  refine lv_iload hx hb dX6_meetsRing_156 (lv_at hl 0 rfl) ?_
  refine lv_iload hx hb dX6_meetsRing_158 (lv_at hl 2 rfl) ?_
  refine lv_icmp_eq (tgt := 173) hx hb dX6_meetsRing_160 (by decide) (fun _ => ?_) (fun h => absurd (by decide) h)
  refine lv_iinc (v := 1) (lv' := [(3, .int 1), (6, .int 0), (5, .int 0), (4, .int 0), (2, .int 0), (0, .ref h1), (1, .int 0)]) hx hb dX6_meetsRing_173 hl (k := 3) rfl (by decide) (by decide) rfl (fun ls hl => ?_)
  refine lv_goto (tgt := 10) hx hb dX6_meetsRing_176 (by decide) ?_
  refine lv_iload_n hx hb dX6_meetsRing_10 rfl (lv_at hl 0 rfl) ?_
  refine lv_ldc (v := 1000000) hx hb hown (hts (.constant RX6 128 (1000000)) (List.mem_cons_of_mem _ (List.mem_append_left _ (List.mem_append_left _ (List.mem_append_left _ (List.mem_append_left _ (List.mem_of_getElem? (i := 0) rfl))))))) dX6_meetsRing_11 ?_
  refine lv_icmp_ge (tgt := 179) hx hb dX6_meetsRing_13 (by decide) (fun h => absurd h (by decide)) (fun _ => ?_)
  refine lv_iload_n hx hb dX6_meetsRing_16 rfl (lv_at hl 4 rfl) ?_
  refine lv_if_lt (tgt := 179) hx hb dX6_meetsRing_17 (by decide) (fun h => absurd h (by decide)) (fun _ => ?_)
  refine lv_aload_n hx hb dX6_meetsRing_20 rfl (lv_at hl 5 rfl) ?_
  refine va_get (D := D) (ci := 8) (v := .ref h11) (C := RX6) (T := TX6) (N := 13) hx hb hts (fun _ h => (List.mem_cons_of_mem _ (List.mem_append_left _ (List.mem_append_left _ (List.mem_append_right _ h))))) hown hK hP 1 rfl rfl 9 (by decide) (hts (.fieldLink RX6 39 "SelfishJunction$Survey" "stack" "[I") (List.mem_cons_of_mem _ (List.mem_append_left _ (List.mem_append_left _ (List.mem_append_left _ (List.mem_append_left _ (List.mem_of_getElem? (i := 1) rfl))))))) (fun _ h9 => h9) rfl dX6_meetsRing_21 ?_
  refine lv_iload_n hx hb dX6_meetsRing_24 rfl (lv_at hl 4 rfl) ?_
  refine va_iald hx hb hK hP 5 1 rfl rfl (kx_in 0 1000 rfl ⟨(Nat.le_of_ble_eq_true rfl), (Nat.le_of_ble_eq_true rfl)⟩ (Nat.le_of_ble_eq_true rfl)) dX6_meetsRing_25 ?_
  refine lv_topi (fun v_9 ev_9 => ?_)
  obtain rfl : v_9 = 0 := ev_9.trans rfl
  refine lv_istore (lv' := [(4, .int 0), (3, .int 1), (6, .int 0), (5, .int 0), (2, .int 0), (0, .ref h1), (1, .int 0)]) hx hb dX6_meetsRing_26 hl (by decide) rfl (fun ls hl => ?_)
  refine lv_aload_n hx hb dX6_meetsRing_28 rfl (lv_at hl 5 rfl) ?_
  refine va_get (D := D) (ci := 8) (v := .ref h10) (C := RX6) (T := TX6) (N := 13) hx hb hts (fun _ h => (List.mem_cons_of_mem _ (List.mem_append_left _ (List.mem_append_left _ (List.mem_append_right _ h))))) hown hK hP 1 rfl rfl 8 (by decide) (hts (.fieldLink RX6 36 "SelfishJunction$Survey" "tried" "[I") (List.mem_cons_of_mem _ (List.mem_append_left _ (List.mem_append_left _ (List.mem_append_left _ (List.mem_append_left _ (List.mem_of_getElem? (i := 2) rfl))))))) (fun _ h9 => h9) rfl dX6_meetsRing_29 ?_
  refine lv_iload hx hb dX6_meetsRing_32 (lv_at hl 0 rfl) ?_
  refine va_iald hx hb hK hP 4 1 rfl rfl (kx_in 0 1000 rfl ⟨(Nat.le_of_ble_eq_true rfl), (Nat.le_of_ble_eq_true rfl)⟩ (Nat.le_of_ble_eq_true rfl)) dX6_meetsRing_34 ?_
  refine lv_topi (fun v_10 ev_10 => ?_)
  obtain rfl : v_10 = 1 := ev_10.trans rfl
  refine lv_bipush (v := 30) hx hb dX6_meetsRing_35 (by decide) ?_
  refine lv_icmp_lt (tgt := 70) hx hb dX6_meetsRing_37 (by decide) (fun _ => ?_) (fun h => absurd (by decide) h)
  refine lv_aload_n hx hb dX6_meetsRing_70 rfl (lv_at hl 5 rfl) ?_
  refine va_get (D := D) (ci := 8) (v := .ref h10) (C := RX6) (T := TX6) (N := 13) hx hb hts (fun _ h => (List.mem_cons_of_mem _ (List.mem_append_left _ (List.mem_append_left _ (List.mem_append_right _ h))))) hown hK hP 1 rfl rfl 8 (by decide) (hts (.fieldLink RX6 36 "SelfishJunction$Survey" "tried" "[I") (List.mem_cons_of_mem _ (List.mem_append_left _ (List.mem_append_left _ (List.mem_append_left _ (List.mem_append_left _ (List.mem_of_getElem? (i := 2) rfl))))))) (fun _ h9 => h9) rfl dX6_meetsRing_71 ?_
  refine lv_iload hx hb dX6_meetsRing_74 (lv_at hl 0 rfl) ?_
  refine lv_dup2_11 hx hb dX6_meetsRing_76 rfl rfl ?_
  refine va_iald hx hb hK hP 4 1 rfl rfl (kx_in 0 1000 rfl ⟨(Nat.le_of_ble_eq_true rfl), (Nat.le_of_ble_eq_true rfl)⟩ (Nat.le_of_ble_eq_true rfl)) dX6_meetsRing_77 ?_
  refine lv_topi (fun v_11 ev_11 => ?_)
  obtain rfl : v_11 = 1 := ev_11.trans rfl
  refine lv_dup_x2 hx hb dX6_meetsRing_78 rfl rfl rfl ?_
  refine lv_iconst (v := 1) hx hb dX6_meetsRing_79 (by decide) ?_
  refine lv_iadd hx hb dX6_meetsRing_80 ?_
  refine lv_topi (fun v_12 ev_12 => ?_)
  obtain rfl : v_12 = 2 := ev_12.trans (by decide)
  refine va_iast hx hb hK hP hD hS 4 1 rfl rfl (kx_in 0 1000 rfl ⟨(Nat.le_of_ble_eq_true rfl), (Nat.le_of_ble_eq_true rfl)⟩ (Nat.le_of_ble_eq_true rfl)) dX6_meetsRing_81 (fun H locs hP hD hS => ?_)
  have hP : va_P D vwCl [(h7, .inl (cy 1, 1000, .inl g15)), (h1, .inr (8, [x2, x3, x4, x5, x6, .ref h7, .ref h8, .ref h9, .ref h10, .ref h11, x12, x13, x14])), (h8, .inl (cy 1, 1000, .inl (upd g16 0 1))), (h9, .inl (cy 1, 1000, .inl (upd g17 0 0))), (h10, .inl (cy 1, 1000, .inl (upd (upd g18 0 1) 0 2))), (h11, .inl (cy 1, 1000, .inl (upd g19 0 0)))] H := hP
  have hD : va_D A [(h7, .inl (cy 1, 1000, .inl g15)), (h1, .inr (8, [x2, x3, x4, x5, x6, .ref h7, .ref h8, .ref h9, .ref h10, .ref h11, x12, x13, x14])), (h8, .inl (cy 1, 1000, .inl (upd g16 0 1))), (h9, .inl (cy 1, 1000, .inl (upd g17 0 0))), (h10, .inl (cy 1, 1000, .inl (upd (upd g18 0 1) 0 2))), (h11, .inl (cy 1, 1000, .inl (upd g19 0 0)))] := hD
  rw [kx_uu] at hP hD
  refine lv_istore (lv' := [(5, .int 1), (4, .int 0), (3, .int 1), (6, .int 0), (2, .int 0), (0, .ref h1), (1, .int 0)]) hx hb dX6_meetsRing_82 hl (by decide) rfl (fun ls hl => ?_)
  refine lv_aload_n hx hb dX6_meetsRing_84 rfl (lv_at hl 5 rfl) ?_
  refine va_get (D := D) (ci := 8) (v := .ref h7) (C := RX6) (T := TX6) (N := 13) hx hb hts (fun _ h => (List.mem_cons_of_mem _ (List.mem_append_left _ (List.mem_append_left _ (List.mem_append_right _ h))))) hown hK hP 1 rfl rfl 5 (by decide) (hts (.fieldLink RX6 27 "SelfishJunction$Survey" "moves" "[I") (List.mem_cons_of_mem _ (List.mem_append_left _ (List.mem_append_left _ (List.mem_append_left _ (List.mem_append_left _ (List.mem_of_getElem? (i := 4) rfl))))))) (fun _ h9 => h9) rfl dX6_meetsRing_85 ?_
  refine lv_iload hx hb dX6_meetsRing_88 (lv_at hl 1 rfl) ?_
  refine va_iald hx hb hK hP 0 1 rfl rfl (kx_in 0 1000 rfl ⟨(Nat.le_of_ble_eq_true rfl), (Nat.le_of_ble_eq_true rfl)⟩ (Nat.le_of_ble_eq_true rfl)) dX6_meetsRing_90 ?_
  refine lv_topi (fun v_13 ev_13 => ?_)
  obtain rfl : v_13 = 0 := ev_13.trans (kg15_0)
  refine lv_iload hx hb dX6_meetsRing_91 (lv_at hl 0 rfl) ?_
  have hPc := hP.sub (ws' := []) [] rfl
  refine va_calli (va_runSN (As := [.int 0, .int 1]) (rest := []) ⟨hx, hb, hml, hown, hts⟩ (k_X7_hasBit_1 l D cy ) ⟨va_cnB 2 hts gX6_meetsRing_X7_hasBit_n132 rfl rfl rfl (exP.nest hE (RX6, 132, yX7_hasBit, RX7) (by decide +kernel)) (hts (.initialized RX7) (List.mem_cons_of_mem _ (List.mem_append_left _ (List.mem_append_left _ (List.mem_append_left _ (List.mem_append_left _ (List.mem_of_getElem? (i := 20) rfl))))))) (by decide +kernel) ⟨(Nat.le_of_ble_eq_true rfl), (Nat.le_of_ble_eq_true rfl)⟩, (hts (.static yX7_hasBit) (List.mem_cons_of_mem _ (List.mem_append_left _ (List.mem_append_left _ (List.mem_append_left _ (List.mem_append_left _ (List.mem_of_getElem? (i := 19) rfl))))))), trivial⟩ ⟨kR_fb, (kR_go hPc hK)⟩ rfl rfl hl.1 rfl (lv_room (Nat.le_of_ble_eq_true rfl)) dX6_meetsRing_93 ⟨(Nat.le_of_ble_eq_true rfl), (Nat.le_of_ble_eq_true rfl)⟩) hS (fun _ _ h => h.elim) (fun _ h => h.elim) (fun r9 u t H locs ht hvm hw hB hz1 hk1 hS => ?_)
  have hP := kx_kept hP hk1
  obtain ⟨rfl, hw⟩ := hw
  refine lv_if_eq (tgt := 110) hx hb dX6_meetsRing_96 (by decide) (fun _ => ?_) (fun h => absurd (by decide) h)
  refine lv_iload hx hb dX6_meetsRing_110 (lv_at hl 1 rfl) ?_
  refine lv_istore (lv' := [(6, .int 0), (5, .int 1), (4, .int 0), (3, .int 1), (2, .int 0), (0, .ref h1), (1, .int 0)]) hx hb dX6_meetsRing_112 hl (by decide) rfl (fun ls hl => ?_)
  refine lv_iload hx hb dX6_meetsRing_114 (lv_at hl 0 rfl) ?_
  refine lv_iload hx hb dX6_meetsRing_116 (lv_at hl 2 rfl) ?_
  refine lv_icmp_eq (tgt := 134) hx hb dX6_meetsRing_118 (by decide) (fun _ => ?_) (fun h => absurd (by decide) h)
  refine lv_aload_n hx hb dX6_meetsRing_134 rfl (lv_at hl 5 rfl) ?_
  refine va_get (D := D) (ci := 8) (v := .ref h8) (C := RX6) (T := TX6) (N := 13) hx hb hts (fun _ h => (List.mem_cons_of_mem _ (List.mem_append_left _ (List.mem_append_left _ (List.mem_append_right _ h))))) hown hK hP 1 rfl rfl 6 (by decide) (hts (.fieldLink RX6 30 "SelfishJunction$Survey" "marks" "[I") (List.mem_cons_of_mem _ (List.mem_append_left _ (List.mem_append_left _ (List.mem_append_left _ (List.mem_append_left _ (List.mem_of_getElem? (i := 3) rfl))))))) (fun _ h9 => h9) rfl dX6_meetsRing_135 ?_
  refine lv_iload hx hb dX6_meetsRing_138 (lv_at hl 0 rfl) ?_
  refine va_iald hx hb hK hP 2 1 rfl rfl (kx_in 0 1000 rfl ⟨(Nat.le_of_ble_eq_true rfl), (Nat.le_of_ble_eq_true rfl)⟩ (Nat.le_of_ble_eq_true rfl)) dX6_meetsRing_140 ?_
  refine lv_topi (fun v_15 ev_15 => ?_)
  obtain rfl : v_15 = 1 := ev_15.trans rfl
  refine lv_iconst (v := 2) hx hb dX6_meetsRing_141 (by decide) ?_
  refine lv_icmp_ne (tgt := 156) hx hb dX6_meetsRing_142 (by decide) (fun _ => ?_) (fun h => absurd h (by decide))
  refine lv_iload hx hb dX6_meetsRing_156 (lv_at hl 0 rfl) ?_
  refine lv_iload hx hb dX6_meetsRing_158 (lv_at hl 2 rfl) ?_
  refine lv_icmp_eq (tgt := 173) hx hb dX6_meetsRing_160 (by decide) (fun _ => ?_) (fun h => absurd (by decide) h)
  refine lv_iinc (v := 2) (lv' := [(3, .int 2), (6, .int 0), (5, .int 1), (4, .int 0), (2, .int 0), (0, .ref h1), (1, .int 0)]) hx hb dX6_meetsRing_173 hl (k := 3) rfl (by decide) (by decide) rfl (fun ls hl => ?_)
  refine lv_goto (tgt := 10) hx hb dX6_meetsRing_176 (by decide) ?_
  refine lv_iload_n hx hb dX6_meetsRing_10 rfl (lv_at hl 0 rfl) ?_
  refine lv_ldc (v := 1000000) hx hb hown (hts (.constant RX6 128 (1000000)) (List.mem_cons_of_mem _ (List.mem_append_left _ (List.mem_append_left _ (List.mem_append_left _ (List.mem_append_left _ (List.mem_of_getElem? (i := 0) rfl))))))) dX6_meetsRing_11 ?_
  refine lv_icmp_ge (tgt := 179) hx hb dX6_meetsRing_13 (by decide) (fun h => absurd h (by decide)) (fun _ => ?_)
  refine lv_iload_n hx hb dX6_meetsRing_16 rfl (lv_at hl 4 rfl) ?_
  refine lv_if_lt (tgt := 179) hx hb dX6_meetsRing_17 (by decide) (fun h => absurd h (by decide)) (fun _ => ?_)
  refine lv_aload_n hx hb dX6_meetsRing_20 rfl (lv_at hl 5 rfl) ?_
  refine va_get (D := D) (ci := 8) (v := .ref h11) (C := RX6) (T := TX6) (N := 13) hx hb hts (fun _ h => (List.mem_cons_of_mem _ (List.mem_append_left _ (List.mem_append_left _ (List.mem_append_right _ h))))) hown hK hP 1 rfl rfl 9 (by decide) (hts (.fieldLink RX6 39 "SelfishJunction$Survey" "stack" "[I") (List.mem_cons_of_mem _ (List.mem_append_left _ (List.mem_append_left _ (List.mem_append_left _ (List.mem_append_left _ (List.mem_of_getElem? (i := 1) rfl))))))) (fun _ h9 => h9) rfl dX6_meetsRing_21 ?_
  refine lv_iload_n hx hb dX6_meetsRing_24 rfl (lv_at hl 4 rfl) ?_
  refine va_iald hx hb hK hP 5 1 rfl rfl (kx_in 0 1000 rfl ⟨(Nat.le_of_ble_eq_true rfl), (Nat.le_of_ble_eq_true rfl)⟩ (Nat.le_of_ble_eq_true rfl)) dX6_meetsRing_25 ?_
  refine lv_topi (fun v_16 ev_16 => ?_)
  obtain rfl : v_16 = 0 := ev_16.trans rfl
  refine lv_istore (lv' := [(4, .int 0), (3, .int 2), (6, .int 0), (5, .int 1), (2, .int 0), (0, .ref h1), (1, .int 0)]) hx hb dX6_meetsRing_26 hl (by decide) rfl (fun ls hl => ?_)
  refine lv_aload_n hx hb dX6_meetsRing_28 rfl (lv_at hl 5 rfl) ?_
  refine va_get (D := D) (ci := 8) (v := .ref h10) (C := RX6) (T := TX6) (N := 13) hx hb hts (fun _ h => (List.mem_cons_of_mem _ (List.mem_append_left _ (List.mem_append_left _ (List.mem_append_right _ h))))) hown hK hP 1 rfl rfl 8 (by decide) (hts (.fieldLink RX6 36 "SelfishJunction$Survey" "tried" "[I") (List.mem_cons_of_mem _ (List.mem_append_left _ (List.mem_append_left _ (List.mem_append_left _ (List.mem_append_left _ (List.mem_of_getElem? (i := 2) rfl))))))) (fun _ h9 => h9) rfl dX6_meetsRing_29 ?_
  refine lv_iload hx hb dX6_meetsRing_32 (lv_at hl 0 rfl) ?_
  refine va_iald hx hb hK hP 4 1 rfl rfl (kx_in 0 1000 rfl ⟨(Nat.le_of_ble_eq_true rfl), (Nat.le_of_ble_eq_true rfl)⟩ (Nat.le_of_ble_eq_true rfl)) dX6_meetsRing_34 ?_
  refine lv_topi (fun v_17 ev_17 => ?_)
  obtain rfl : v_17 = 2 := ev_17.trans rfl
  refine lv_bipush (v := 30) hx hb dX6_meetsRing_35 (by decide) ?_
  refine lv_icmp_lt (tgt := 70) hx hb dX6_meetsRing_37 (by decide) (fun _ => ?_) (fun h => absurd (by decide) h)
  refine lv_aload_n hx hb dX6_meetsRing_70 rfl (lv_at hl 5 rfl) ?_
  refine va_get (D := D) (ci := 8) (v := .ref h10) (C := RX6) (T := TX6) (N := 13) hx hb hts (fun _ h => (List.mem_cons_of_mem _ (List.mem_append_left _ (List.mem_append_left _ (List.mem_append_right _ h))))) hown hK hP 1 rfl rfl 8 (by decide) (hts (.fieldLink RX6 36 "SelfishJunction$Survey" "tried" "[I") (List.mem_cons_of_mem _ (List.mem_append_left _ (List.mem_append_left _ (List.mem_append_left _ (List.mem_append_left _ (List.mem_of_getElem? (i := 2) rfl))))))) (fun _ h9 => h9) rfl dX6_meetsRing_71 ?_
  refine lv_iload hx hb dX6_meetsRing_74 (lv_at hl 0 rfl) ?_
  refine lv_dup2_11 hx hb dX6_meetsRing_76 rfl rfl ?_
  refine va_iald hx hb hK hP 4 1 rfl rfl (kx_in 0 1000 rfl ⟨(Nat.le_of_ble_eq_true rfl), (Nat.le_of_ble_eq_true rfl)⟩ (Nat.le_of_ble_eq_true rfl)) dX6_meetsRing_77 ?_
  refine lv_topi (fun v_18 ev_18 => ?_)
  obtain rfl : v_18 = 2 := ev_18.trans rfl
  refine lv_dup_x2 hx hb dX6_meetsRing_78 rfl rfl rfl ?_
  refine lv_iconst (v := 1) hx hb dX6_meetsRing_79 (by decide) ?_
  refine lv_iadd hx hb dX6_meetsRing_80 ?_
  refine lv_topi (fun v_19 ev_19 => ?_)
  obtain rfl : v_19 = 3 := ev_19.trans (by decide)
  refine va_iast hx hb hK hP hD hS 4 1 rfl rfl (kx_in 0 1000 rfl ⟨(Nat.le_of_ble_eq_true rfl), (Nat.le_of_ble_eq_true rfl)⟩ (Nat.le_of_ble_eq_true rfl)) dX6_meetsRing_81 (fun H locs hP hD hS => ?_)
  have hP : va_P D vwCl [(h7, .inl (cy 1, 1000, .inl g15)), (h1, .inr (8, [x2, x3, x4, x5, x6, .ref h7, .ref h8, .ref h9, .ref h10, .ref h11, x12, x13, x14])), (h8, .inl (cy 1, 1000, .inl (upd g16 0 1))), (h9, .inl (cy 1, 1000, .inl (upd g17 0 0))), (h10, .inl (cy 1, 1000, .inl (upd (upd g18 0 2) 0 3))), (h11, .inl (cy 1, 1000, .inl (upd g19 0 0)))] H := hP
  have hD : va_D A [(h7, .inl (cy 1, 1000, .inl g15)), (h1, .inr (8, [x2, x3, x4, x5, x6, .ref h7, .ref h8, .ref h9, .ref h10, .ref h11, x12, x13, x14])), (h8, .inl (cy 1, 1000, .inl (upd g16 0 1))), (h9, .inl (cy 1, 1000, .inl (upd g17 0 0))), (h10, .inl (cy 1, 1000, .inl (upd (upd g18 0 2) 0 3))), (h11, .inl (cy 1, 1000, .inl (upd g19 0 0)))] := hD
  rw [kx_uu] at hP hD
  refine lv_istore (lv' := [(5, .int 2), (4, .int 0), (3, .int 2), (6, .int 0), (2, .int 0), (0, .ref h1), (1, .int 0)]) hx hb dX6_meetsRing_82 hl (by decide) rfl (fun ls hl => ?_)
  refine lv_aload_n hx hb dX6_meetsRing_84 rfl (lv_at hl 5 rfl) ?_
  refine va_get (D := D) (ci := 8) (v := .ref h7) (C := RX6) (T := TX6) (N := 13) hx hb hts (fun _ h => (List.mem_cons_of_mem _ (List.mem_append_left _ (List.mem_append_left _ (List.mem_append_right _ h))))) hown hK hP 1 rfl rfl 5 (by decide) (hts (.fieldLink RX6 27 "SelfishJunction$Survey" "moves" "[I") (List.mem_cons_of_mem _ (List.mem_append_left _ (List.mem_append_left _ (List.mem_append_left _ (List.mem_append_left _ (List.mem_of_getElem? (i := 4) rfl))))))) (fun _ h9 => h9) rfl dX6_meetsRing_85 ?_
  refine lv_iload hx hb dX6_meetsRing_88 (lv_at hl 1 rfl) ?_
  refine va_iald hx hb hK hP 0 1 rfl rfl (kx_in 0 1000 rfl ⟨(Nat.le_of_ble_eq_true rfl), (Nat.le_of_ble_eq_true rfl)⟩ (Nat.le_of_ble_eq_true rfl)) dX6_meetsRing_90 ?_
  refine lv_topi (fun v_20 ev_20 => ?_)
  obtain rfl : v_20 = 0 := ev_20.trans (kg15_0)
  refine lv_iload hx hb dX6_meetsRing_91 (lv_at hl 0 rfl) ?_
  have hPc := hP.sub (ws' := []) [] rfl
  refine va_calli (va_runSN (As := [.int 0, .int 2]) (rest := []) ⟨hx, hb, hml, hown, hts⟩ (k_X7_hasBit_2 l D cy ) ⟨va_cnB 2 hts gX6_meetsRing_X7_hasBit_n132 rfl rfl rfl (exP.nest hE (RX6, 132, yX7_hasBit, RX7) (by decide +kernel)) (hts (.initialized RX7) (List.mem_cons_of_mem _ (List.mem_append_left _ (List.mem_append_left _ (List.mem_append_left _ (List.mem_append_left _ (List.mem_of_getElem? (i := 20) rfl))))))) (by decide +kernel) ⟨(Nat.le_of_ble_eq_true rfl), (Nat.le_of_ble_eq_true rfl)⟩, (hts (.static yX7_hasBit) (List.mem_cons_of_mem _ (List.mem_append_left _ (List.mem_append_left _ (List.mem_append_left _ (List.mem_append_left _ (List.mem_of_getElem? (i := 19) rfl))))))), trivial⟩ ⟨kR_fb, (kR_go hPc hK)⟩ rfl rfl hl.1 rfl (lv_room (Nat.le_of_ble_eq_true rfl)) dX6_meetsRing_93 ⟨(Nat.le_of_ble_eq_true rfl), (Nat.le_of_ble_eq_true rfl)⟩) hS (fun _ _ h => h.elim) (fun _ h => h.elim) (fun r9 u t H locs ht hvm hw hB hz1 hk1 hS => ?_)
  have hP := kx_kept hP hk1
  obtain ⟨rfl, hw⟩ := hw
  refine lv_if_eq (tgt := 110) hx hb dX6_meetsRing_96 (by decide) (fun _ => ?_) (fun h => absurd (by decide) h)
  refine lv_iload hx hb dX6_meetsRing_110 (lv_at hl 1 rfl) ?_
  refine lv_istore (lv' := [(6, .int 0), (5, .int 2), (4, .int 0), (3, .int 2), (2, .int 0), (0, .ref h1), (1, .int 0)]) hx hb dX6_meetsRing_112 hl (by decide) rfl (fun ls hl => ?_)
  refine lv_iload hx hb dX6_meetsRing_114 (lv_at hl 0 rfl) ?_
  refine lv_iload hx hb dX6_meetsRing_116 (lv_at hl 2 rfl) ?_
  refine lv_icmp_eq (tgt := 134) hx hb dX6_meetsRing_118 (by decide) (fun _ => ?_) (fun h => absurd (by decide) h)
  refine lv_aload_n hx hb dX6_meetsRing_134 rfl (lv_at hl 5 rfl) ?_
  refine va_get (D := D) (ci := 8) (v := .ref h8) (C := RX6) (T := TX6) (N := 13) hx hb hts (fun _ h => (List.mem_cons_of_mem _ (List.mem_append_left _ (List.mem_append_left _ (List.mem_append_right _ h))))) hown hK hP 1 rfl rfl 6 (by decide) (hts (.fieldLink RX6 30 "SelfishJunction$Survey" "marks" "[I") (List.mem_cons_of_mem _ (List.mem_append_left _ (List.mem_append_left _ (List.mem_append_left _ (List.mem_append_left _ (List.mem_of_getElem? (i := 3) rfl))))))) (fun _ h9 => h9) rfl dX6_meetsRing_135 ?_
  refine lv_iload hx hb dX6_meetsRing_138 (lv_at hl 0 rfl) ?_
  refine va_iald hx hb hK hP 2 1 rfl rfl (kx_in 0 1000 rfl ⟨(Nat.le_of_ble_eq_true rfl), (Nat.le_of_ble_eq_true rfl)⟩ (Nat.le_of_ble_eq_true rfl)) dX6_meetsRing_140 ?_
  refine lv_topi (fun v_22 ev_22 => ?_)
  obtain rfl : v_22 = 1 := ev_22.trans rfl
  refine lv_iconst (v := 2) hx hb dX6_meetsRing_141 (by decide) ?_
  refine lv_icmp_ne (tgt := 156) hx hb dX6_meetsRing_142 (by decide) (fun _ => ?_) (fun h => absurd h (by decide))
  refine lv_iload hx hb dX6_meetsRing_156 (lv_at hl 0 rfl) ?_
  refine lv_iload hx hb dX6_meetsRing_158 (lv_at hl 2 rfl) ?_
  refine lv_icmp_eq (tgt := 173) hx hb dX6_meetsRing_160 (by decide) (fun _ => ?_) (fun h => absurd (by decide) h)
  refine lv_iinc (v := 3) (lv' := [(3, .int 3), (6, .int 0), (5, .int 2), (4, .int 0), (2, .int 0), (0, .ref h1), (1, .int 0)]) hx hb dX6_meetsRing_173 hl (k := 3) rfl (by decide) (by decide) rfl (fun ls hl => ?_)
  refine lv_goto (tgt := 10) hx hb dX6_meetsRing_176 (by decide) ?_
  refine lv_iload_n hx hb dX6_meetsRing_10 rfl (lv_at hl 0 rfl) ?_
  refine lv_ldc (v := 1000000) hx hb hown (hts (.constant RX6 128 (1000000)) (List.mem_cons_of_mem _ (List.mem_append_left _ (List.mem_append_left _ (List.mem_append_left _ (List.mem_append_left _ (List.mem_of_getElem? (i := 0) rfl))))))) dX6_meetsRing_11 ?_
  refine lv_icmp_ge (tgt := 179) hx hb dX6_meetsRing_13 (by decide) (fun h => absurd h (by decide)) (fun _ => ?_)
  refine lv_iload_n hx hb dX6_meetsRing_16 rfl (lv_at hl 4 rfl) ?_
  refine lv_if_lt (tgt := 179) hx hb dX6_meetsRing_17 (by decide) (fun h => absurd h (by decide)) (fun _ => ?_)
  refine lv_aload_n hx hb dX6_meetsRing_20 rfl (lv_at hl 5 rfl) ?_
  refine va_get (D := D) (ci := 8) (v := .ref h11) (C := RX6) (T := TX6) (N := 13) hx hb hts (fun _ h => (List.mem_cons_of_mem _ (List.mem_append_left _ (List.mem_append_left _ (List.mem_append_right _ h))))) hown hK hP 1 rfl rfl 9 (by decide) (hts (.fieldLink RX6 39 "SelfishJunction$Survey" "stack" "[I") (List.mem_cons_of_mem _ (List.mem_append_left _ (List.mem_append_left _ (List.mem_append_left _ (List.mem_append_left _ (List.mem_of_getElem? (i := 1) rfl))))))) (fun _ h9 => h9) rfl dX6_meetsRing_21 ?_
  refine lv_iload_n hx hb dX6_meetsRing_24 rfl (lv_at hl 4 rfl) ?_
  refine va_iald hx hb hK hP 5 1 rfl rfl (kx_in 0 1000 rfl ⟨(Nat.le_of_ble_eq_true rfl), (Nat.le_of_ble_eq_true rfl)⟩ (Nat.le_of_ble_eq_true rfl)) dX6_meetsRing_25 ?_
  refine lv_topi (fun v_23 ev_23 => ?_)
  obtain rfl : v_23 = 0 := ev_23.trans rfl
  refine lv_istore (lv' := [(4, .int 0), (3, .int 3), (6, .int 0), (5, .int 2), (2, .int 0), (0, .ref h1), (1, .int 0)]) hx hb dX6_meetsRing_26 hl (by decide) rfl (fun ls hl => ?_)
  refine lv_aload_n hx hb dX6_meetsRing_28 rfl (lv_at hl 5 rfl) ?_
  refine va_get (D := D) (ci := 8) (v := .ref h10) (C := RX6) (T := TX6) (N := 13) hx hb hts (fun _ h => (List.mem_cons_of_mem _ (List.mem_append_left _ (List.mem_append_left _ (List.mem_append_right _ h))))) hown hK hP 1 rfl rfl 8 (by decide) (hts (.fieldLink RX6 36 "SelfishJunction$Survey" "tried" "[I") (List.mem_cons_of_mem _ (List.mem_append_left _ (List.mem_append_left _ (List.mem_append_left _ (List.mem_append_left _ (List.mem_of_getElem? (i := 2) rfl))))))) (fun _ h9 => h9) rfl dX6_meetsRing_29 ?_
  refine lv_iload hx hb dX6_meetsRing_32 (lv_at hl 0 rfl) ?_
  refine va_iald hx hb hK hP 4 1 rfl rfl (kx_in 0 1000 rfl ⟨(Nat.le_of_ble_eq_true rfl), (Nat.le_of_ble_eq_true rfl)⟩ (Nat.le_of_ble_eq_true rfl)) dX6_meetsRing_34 ?_
  refine lv_topi (fun v_24 ev_24 => ?_)
  obtain rfl : v_24 = 3 := ev_24.trans rfl
  refine lv_bipush (v := 30) hx hb dX6_meetsRing_35 (by decide) ?_
  refine lv_icmp_lt (tgt := 70) hx hb dX6_meetsRing_37 (by decide) (fun _ => ?_) (fun h => absurd (by decide) h)
  refine lv_aload_n hx hb dX6_meetsRing_70 rfl (lv_at hl 5 rfl) ?_
  refine va_get (D := D) (ci := 8) (v := .ref h10) (C := RX6) (T := TX6) (N := 13) hx hb hts (fun _ h => (List.mem_cons_of_mem _ (List.mem_append_left _ (List.mem_append_left _ (List.mem_append_right _ h))))) hown hK hP 1 rfl rfl 8 (by decide) (hts (.fieldLink RX6 36 "SelfishJunction$Survey" "tried" "[I") (List.mem_cons_of_mem _ (List.mem_append_left _ (List.mem_append_left _ (List.mem_append_left _ (List.mem_append_left _ (List.mem_of_getElem? (i := 2) rfl))))))) (fun _ h9 => h9) rfl dX6_meetsRing_71 ?_
  refine lv_iload hx hb dX6_meetsRing_74 (lv_at hl 0 rfl) ?_
  refine lv_dup2_11 hx hb dX6_meetsRing_76 rfl rfl ?_
  refine va_iald hx hb hK hP 4 1 rfl rfl (kx_in 0 1000 rfl ⟨(Nat.le_of_ble_eq_true rfl), (Nat.le_of_ble_eq_true rfl)⟩ (Nat.le_of_ble_eq_true rfl)) dX6_meetsRing_77 ?_
  refine lv_topi (fun v_25 ev_25 => ?_)
  obtain rfl : v_25 = 3 := ev_25.trans rfl
  refine lv_dup_x2 hx hb dX6_meetsRing_78 rfl rfl rfl ?_
  refine lv_iconst (v := 1) hx hb dX6_meetsRing_79 (by decide) ?_
  refine lv_iadd hx hb dX6_meetsRing_80 ?_
  refine lv_topi (fun v_26 ev_26 => ?_)
  obtain rfl : v_26 = 4 := ev_26.trans (by decide)
  refine va_iast hx hb hK hP hD hS 4 1 rfl rfl (kx_in 0 1000 rfl ⟨(Nat.le_of_ble_eq_true rfl), (Nat.le_of_ble_eq_true rfl)⟩ (Nat.le_of_ble_eq_true rfl)) dX6_meetsRing_81 (fun H locs hP hD hS => ?_)
  have hP : va_P D vwCl [(h7, .inl (cy 1, 1000, .inl g15)), (h1, .inr (8, [x2, x3, x4, x5, x6, .ref h7, .ref h8, .ref h9, .ref h10, .ref h11, x12, x13, x14])), (h8, .inl (cy 1, 1000, .inl (upd g16 0 1))), (h9, .inl (cy 1, 1000, .inl (upd g17 0 0))), (h10, .inl (cy 1, 1000, .inl (upd (upd g18 0 3) 0 4))), (h11, .inl (cy 1, 1000, .inl (upd g19 0 0)))] H := hP
  have hD : va_D A [(h7, .inl (cy 1, 1000, .inl g15)), (h1, .inr (8, [x2, x3, x4, x5, x6, .ref h7, .ref h8, .ref h9, .ref h10, .ref h11, x12, x13, x14])), (h8, .inl (cy 1, 1000, .inl (upd g16 0 1))), (h9, .inl (cy 1, 1000, .inl (upd g17 0 0))), (h10, .inl (cy 1, 1000, .inl (upd (upd g18 0 3) 0 4))), (h11, .inl (cy 1, 1000, .inl (upd g19 0 0)))] := hD
  rw [kx_uu] at hP hD
  refine lv_istore (lv' := [(5, .int 3), (4, .int 0), (3, .int 3), (6, .int 0), (2, .int 0), (0, .ref h1), (1, .int 0)]) hx hb dX6_meetsRing_82 hl (by decide) rfl (fun ls hl => ?_)
  refine lv_aload_n hx hb dX6_meetsRing_84 rfl (lv_at hl 5 rfl) ?_
  refine va_get (D := D) (ci := 8) (v := .ref h7) (C := RX6) (T := TX6) (N := 13) hx hb hts (fun _ h => (List.mem_cons_of_mem _ (List.mem_append_left _ (List.mem_append_left _ (List.mem_append_right _ h))))) hown hK hP 1 rfl rfl 5 (by decide) (hts (.fieldLink RX6 27 "SelfishJunction$Survey" "moves" "[I") (List.mem_cons_of_mem _ (List.mem_append_left _ (List.mem_append_left _ (List.mem_append_left _ (List.mem_append_left _ (List.mem_of_getElem? (i := 4) rfl))))))) (fun _ h9 => h9) rfl dX6_meetsRing_85 ?_
  refine lv_iload hx hb dX6_meetsRing_88 (lv_at hl 1 rfl) ?_
  refine va_iald hx hb hK hP 0 1 rfl rfl (kx_in 0 1000 rfl ⟨(Nat.le_of_ble_eq_true rfl), (Nat.le_of_ble_eq_true rfl)⟩ (Nat.le_of_ble_eq_true rfl)) dX6_meetsRing_90 ?_
  refine lv_topi (fun v_27 ev_27 => ?_)
  obtain rfl : v_27 = 0 := ev_27.trans (kg15_0)
  refine lv_iload hx hb dX6_meetsRing_91 (lv_at hl 0 rfl) ?_
  have hPc := hP.sub (ws' := []) [] rfl
  refine va_calli (va_runSN (As := [.int 0, .int 3]) (rest := []) ⟨hx, hb, hml, hown, hts⟩ (k_X7_hasBit_3 l D cy ) ⟨va_cnB 2 hts gX6_meetsRing_X7_hasBit_n132 rfl rfl rfl (exP.nest hE (RX6, 132, yX7_hasBit, RX7) (by decide +kernel)) (hts (.initialized RX7) (List.mem_cons_of_mem _ (List.mem_append_left _ (List.mem_append_left _ (List.mem_append_left _ (List.mem_append_left _ (List.mem_of_getElem? (i := 20) rfl))))))) (by decide +kernel) ⟨(Nat.le_of_ble_eq_true rfl), (Nat.le_of_ble_eq_true rfl)⟩, (hts (.static yX7_hasBit) (List.mem_cons_of_mem _ (List.mem_append_left _ (List.mem_append_left _ (List.mem_append_left _ (List.mem_append_left _ (List.mem_of_getElem? (i := 19) rfl))))))), trivial⟩ ⟨kR_fb, (kR_go hPc hK)⟩ rfl rfl hl.1 rfl (lv_room (Nat.le_of_ble_eq_true rfl)) dX6_meetsRing_93 ⟨(Nat.le_of_ble_eq_true rfl), (Nat.le_of_ble_eq_true rfl)⟩) hS (fun _ _ h => h.elim) (fun _ h => h.elim) (fun r9 u t H locs ht hvm hw hB hz1 hk1 hS => ?_)
  have hP := kx_kept hP hk1
  obtain ⟨rfl, hw⟩ := hw
  refine lv_if_eq (tgt := 110) hx hb dX6_meetsRing_96 (by decide) (fun _ => ?_) (fun h => absurd (by decide) h)
  refine lv_iload hx hb dX6_meetsRing_110 (lv_at hl 1 rfl) ?_
  refine lv_istore (lv' := [(6, .int 0), (5, .int 3), (4, .int 0), (3, .int 3), (2, .int 0), (0, .ref h1), (1, .int 0)]) hx hb dX6_meetsRing_112 hl (by decide) rfl (fun ls hl => ?_)
  refine lv_iload hx hb dX6_meetsRing_114 (lv_at hl 0 rfl) ?_
  refine lv_iload hx hb dX6_meetsRing_116 (lv_at hl 2 rfl) ?_
  refine lv_icmp_eq (tgt := 134) hx hb dX6_meetsRing_118 (by decide) (fun _ => ?_) (fun h => absurd (by decide) h)
  refine lv_aload_n hx hb dX6_meetsRing_134 rfl (lv_at hl 5 rfl) ?_
  refine va_get (D := D) (ci := 8) (v := .ref h8) (C := RX6) (T := TX6) (N := 13) hx hb hts (fun _ h => (List.mem_cons_of_mem _ (List.mem_append_left _ (List.mem_append_left _ (List.mem_append_right _ h))))) hown hK hP 1 rfl rfl 6 (by decide) (hts (.fieldLink RX6 30 "SelfishJunction$Survey" "marks" "[I") (List.mem_cons_of_mem _ (List.mem_append_left _ (List.mem_append_left _ (List.mem_append_left _ (List.mem_append_left _ (List.mem_of_getElem? (i := 3) rfl))))))) (fun _ h9 => h9) rfl dX6_meetsRing_135 ?_
  refine lv_iload hx hb dX6_meetsRing_138 (lv_at hl 0 rfl) ?_
  refine va_iald hx hb hK hP 2 1 rfl rfl (kx_in 0 1000 rfl ⟨(Nat.le_of_ble_eq_true rfl), (Nat.le_of_ble_eq_true rfl)⟩ (Nat.le_of_ble_eq_true rfl)) dX6_meetsRing_140 ?_
  refine lv_topi (fun v_29 ev_29 => ?_)
  obtain rfl : v_29 = 1 := ev_29.trans rfl
  refine lv_iconst (v := 2) hx hb dX6_meetsRing_141 (by decide) ?_
  refine lv_icmp_ne (tgt := 156) hx hb dX6_meetsRing_142 (by decide) (fun _ => ?_) (fun h => absurd h (by decide))
  refine lv_iload hx hb dX6_meetsRing_156 (lv_at hl 0 rfl) ?_
  refine lv_iload hx hb dX6_meetsRing_158 (lv_at hl 2 rfl) ?_
  refine lv_icmp_eq (tgt := 173) hx hb dX6_meetsRing_160 (by decide) (fun _ => ?_) (fun h => absurd (by decide) h)
  refine lv_iinc (v := 4) (lv' := [(3, .int 4), (6, .int 0), (5, .int 3), (4, .int 0), (2, .int 0), (0, .ref h1), (1, .int 0)]) hx hb dX6_meetsRing_173 hl (k := 3) rfl (by decide) (by decide) rfl (fun ls hl => ?_)
  refine lv_goto (tgt := 10) hx hb dX6_meetsRing_176 (by decide) ?_
  refine lv_iload_n hx hb dX6_meetsRing_10 rfl (lv_at hl 0 rfl) ?_
  refine lv_ldc (v := 1000000) hx hb hown (hts (.constant RX6 128 (1000000)) (List.mem_cons_of_mem _ (List.mem_append_left _ (List.mem_append_left _ (List.mem_append_left _ (List.mem_append_left _ (List.mem_of_getElem? (i := 0) rfl))))))) dX6_meetsRing_11 ?_
  refine lv_icmp_ge (tgt := 179) hx hb dX6_meetsRing_13 (by decide) (fun h => absurd h (by decide)) (fun _ => ?_)
  refine lv_iload_n hx hb dX6_meetsRing_16 rfl (lv_at hl 4 rfl) ?_
  refine lv_if_lt (tgt := 179) hx hb dX6_meetsRing_17 (by decide) (fun h => absurd h (by decide)) (fun _ => ?_)
  refine lv_aload_n hx hb dX6_meetsRing_20 rfl (lv_at hl 5 rfl) ?_
  refine va_get (D := D) (ci := 8) (v := .ref h11) (C := RX6) (T := TX6) (N := 13) hx hb hts (fun _ h => (List.mem_cons_of_mem _ (List.mem_append_left _ (List.mem_append_left _ (List.mem_append_right _ h))))) hown hK hP 1 rfl rfl 9 (by decide) (hts (.fieldLink RX6 39 "SelfishJunction$Survey" "stack" "[I") (List.mem_cons_of_mem _ (List.mem_append_left _ (List.mem_append_left _ (List.mem_append_left _ (List.mem_append_left _ (List.mem_of_getElem? (i := 1) rfl))))))) (fun _ h9 => h9) rfl dX6_meetsRing_21 ?_
  refine lv_iload_n hx hb dX6_meetsRing_24 rfl (lv_at hl 4 rfl) ?_
  refine va_iald hx hb hK hP 5 1 rfl rfl (kx_in 0 1000 rfl ⟨(Nat.le_of_ble_eq_true rfl), (Nat.le_of_ble_eq_true rfl)⟩ (Nat.le_of_ble_eq_true rfl)) dX6_meetsRing_25 ?_
  refine lv_topi (fun v_30 ev_30 => ?_)
  obtain rfl : v_30 = 0 := ev_30.trans rfl
  refine lv_istore (lv' := [(4, .int 0), (3, .int 4), (6, .int 0), (5, .int 3), (2, .int 0), (0, .ref h1), (1, .int 0)]) hx hb dX6_meetsRing_26 hl (by decide) rfl (fun ls hl => ?_)
  refine lv_aload_n hx hb dX6_meetsRing_28 rfl (lv_at hl 5 rfl) ?_
  refine va_get (D := D) (ci := 8) (v := .ref h10) (C := RX6) (T := TX6) (N := 13) hx hb hts (fun _ h => (List.mem_cons_of_mem _ (List.mem_append_left _ (List.mem_append_left _ (List.mem_append_right _ h))))) hown hK hP 1 rfl rfl 8 (by decide) (hts (.fieldLink RX6 36 "SelfishJunction$Survey" "tried" "[I") (List.mem_cons_of_mem _ (List.mem_append_left _ (List.mem_append_left _ (List.mem_append_left _ (List.mem_append_left _ (List.mem_of_getElem? (i := 2) rfl))))))) (fun _ h9 => h9) rfl dX6_meetsRing_29 ?_
  refine lv_iload hx hb dX6_meetsRing_32 (lv_at hl 0 rfl) ?_
  refine va_iald hx hb hK hP 4 1 rfl rfl (kx_in 0 1000 rfl ⟨(Nat.le_of_ble_eq_true rfl), (Nat.le_of_ble_eq_true rfl)⟩ (Nat.le_of_ble_eq_true rfl)) dX6_meetsRing_34 ?_
  refine lv_topi (fun v_31 ev_31 => ?_)
  obtain rfl : v_31 = 4 := ev_31.trans rfl
  refine lv_bipush (v := 30) hx hb dX6_meetsRing_35 (by decide) ?_
  refine lv_icmp_lt (tgt := 70) hx hb dX6_meetsRing_37 (by decide) (fun _ => ?_) (fun h => absurd (by decide) h)
  refine lv_aload_n hx hb dX6_meetsRing_70 rfl (lv_at hl 5 rfl) ?_
  refine va_get (D := D) (ci := 8) (v := .ref h10) (C := RX6) (T := TX6) (N := 13) hx hb hts (fun _ h => (List.mem_cons_of_mem _ (List.mem_append_left _ (List.mem_append_left _ (List.mem_append_right _ h))))) hown hK hP 1 rfl rfl 8 (by decide) (hts (.fieldLink RX6 36 "SelfishJunction$Survey" "tried" "[I") (List.mem_cons_of_mem _ (List.mem_append_left _ (List.mem_append_left _ (List.mem_append_left _ (List.mem_append_left _ (List.mem_of_getElem? (i := 2) rfl))))))) (fun _ h9 => h9) rfl dX6_meetsRing_71 ?_
  refine lv_iload hx hb dX6_meetsRing_74 (lv_at hl 0 rfl) ?_
  refine lv_dup2_11 hx hb dX6_meetsRing_76 rfl rfl ?_
  refine va_iald hx hb hK hP 4 1 rfl rfl (kx_in 0 1000 rfl ⟨(Nat.le_of_ble_eq_true rfl), (Nat.le_of_ble_eq_true rfl)⟩ (Nat.le_of_ble_eq_true rfl)) dX6_meetsRing_77 ?_
  refine lv_topi (fun v_32 ev_32 => ?_)
  obtain rfl : v_32 = 4 := ev_32.trans rfl
  refine lv_dup_x2 hx hb dX6_meetsRing_78 rfl rfl rfl ?_
  refine lv_iconst (v := 1) hx hb dX6_meetsRing_79 (by decide) ?_
  refine lv_iadd hx hb dX6_meetsRing_80 ?_
  refine lv_topi (fun v_33 ev_33 => ?_)
  obtain rfl : v_33 = 5 := ev_33.trans (by decide)
  refine va_iast hx hb hK hP hD hS 4 1 rfl rfl (kx_in 0 1000 rfl ⟨(Nat.le_of_ble_eq_true rfl), (Nat.le_of_ble_eq_true rfl)⟩ (Nat.le_of_ble_eq_true rfl)) dX6_meetsRing_81 (fun H locs hP hD hS => ?_)
  have hP : va_P D vwCl [(h7, .inl (cy 1, 1000, .inl g15)), (h1, .inr (8, [x2, x3, x4, x5, x6, .ref h7, .ref h8, .ref h9, .ref h10, .ref h11, x12, x13, x14])), (h8, .inl (cy 1, 1000, .inl (upd g16 0 1))), (h9, .inl (cy 1, 1000, .inl (upd g17 0 0))), (h10, .inl (cy 1, 1000, .inl (upd (upd g18 0 4) 0 5))), (h11, .inl (cy 1, 1000, .inl (upd g19 0 0)))] H := hP
  have hD : va_D A [(h7, .inl (cy 1, 1000, .inl g15)), (h1, .inr (8, [x2, x3, x4, x5, x6, .ref h7, .ref h8, .ref h9, .ref h10, .ref h11, x12, x13, x14])), (h8, .inl (cy 1, 1000, .inl (upd g16 0 1))), (h9, .inl (cy 1, 1000, .inl (upd g17 0 0))), (h10, .inl (cy 1, 1000, .inl (upd (upd g18 0 4) 0 5))), (h11, .inl (cy 1, 1000, .inl (upd g19 0 0)))] := hD
  rw [kx_uu] at hP hD
  refine lv_istore (lv' := [(5, .int 4), (4, .int 0), (3, .int 4), (6, .int 0), (2, .int 0), (0, .ref h1), (1, .int 0)]) hx hb dX6_meetsRing_82 hl (by decide) rfl (fun ls hl => ?_)
  refine lv_aload_n hx hb dX6_meetsRing_84 rfl (lv_at hl 5 rfl) ?_
  refine va_get (D := D) (ci := 8) (v := .ref h7) (C := RX6) (T := TX6) (N := 13) hx hb hts (fun _ h => (List.mem_cons_of_mem _ (List.mem_append_left _ (List.mem_append_left _ (List.mem_append_right _ h))))) hown hK hP 1 rfl rfl 5 (by decide) (hts (.fieldLink RX6 27 "SelfishJunction$Survey" "moves" "[I") (List.mem_cons_of_mem _ (List.mem_append_left _ (List.mem_append_left _ (List.mem_append_left _ (List.mem_append_left _ (List.mem_of_getElem? (i := 4) rfl))))))) (fun _ h9 => h9) rfl dX6_meetsRing_85 ?_
  refine lv_iload hx hb dX6_meetsRing_88 (lv_at hl 1 rfl) ?_
  refine va_iald hx hb hK hP 0 1 rfl rfl (kx_in 0 1000 rfl ⟨(Nat.le_of_ble_eq_true rfl), (Nat.le_of_ble_eq_true rfl)⟩ (Nat.le_of_ble_eq_true rfl)) dX6_meetsRing_90 ?_
  refine lv_topi (fun v_34 ev_34 => ?_)
  obtain rfl : v_34 = 0 := ev_34.trans (kg15_0)
  refine lv_iload hx hb dX6_meetsRing_91 (lv_at hl 0 rfl) ?_
  have hPc := hP.sub (ws' := []) [] rfl
  refine va_calli (va_runSN (As := [.int 0, .int 4]) (rest := []) ⟨hx, hb, hml, hown, hts⟩ (k_X7_hasBit_4 l D cy ) ⟨va_cnB 2 hts gX6_meetsRing_X7_hasBit_n132 rfl rfl rfl (exP.nest hE (RX6, 132, yX7_hasBit, RX7) (by decide +kernel)) (hts (.initialized RX7) (List.mem_cons_of_mem _ (List.mem_append_left _ (List.mem_append_left _ (List.mem_append_left _ (List.mem_append_left _ (List.mem_of_getElem? (i := 20) rfl))))))) (by decide +kernel) ⟨(Nat.le_of_ble_eq_true rfl), (Nat.le_of_ble_eq_true rfl)⟩, (hts (.static yX7_hasBit) (List.mem_cons_of_mem _ (List.mem_append_left _ (List.mem_append_left _ (List.mem_append_left _ (List.mem_append_left _ (List.mem_of_getElem? (i := 19) rfl))))))), trivial⟩ ⟨kR_fb, (kR_go hPc hK)⟩ rfl rfl hl.1 rfl (lv_room (Nat.le_of_ble_eq_true rfl)) dX6_meetsRing_93 ⟨(Nat.le_of_ble_eq_true rfl), (Nat.le_of_ble_eq_true rfl)⟩) hS (fun _ _ h => h.elim) (fun _ h => h.elim) (fun r9 u t H locs ht hvm hw hB hz1 hk1 hS => ?_)
  have hP := kx_kept hP hk1
  obtain ⟨rfl, hw⟩ := hw
  refine lv_if_eq (tgt := 110) hx hb dX6_meetsRing_96 (by decide) (fun _ => ?_) (fun h => absurd (by decide) h)
  refine lv_iload hx hb dX6_meetsRing_110 (lv_at hl 1 rfl) ?_
  refine lv_istore (lv' := [(6, .int 0), (5, .int 4), (4, .int 0), (3, .int 4), (2, .int 0), (0, .ref h1), (1, .int 0)]) hx hb dX6_meetsRing_112 hl (by decide) rfl (fun ls hl => ?_)
  refine lv_iload hx hb dX6_meetsRing_114 (lv_at hl 0 rfl) ?_
  refine lv_iload hx hb dX6_meetsRing_116 (lv_at hl 2 rfl) ?_
  refine lv_icmp_eq (tgt := 134) hx hb dX6_meetsRing_118 (by decide) (fun _ => ?_) (fun h => absurd (by decide) h)
  refine lv_aload_n hx hb dX6_meetsRing_134 rfl (lv_at hl 5 rfl) ?_
  refine va_get (D := D) (ci := 8) (v := .ref h8) (C := RX6) (T := TX6) (N := 13) hx hb hts (fun _ h => (List.mem_cons_of_mem _ (List.mem_append_left _ (List.mem_append_left _ (List.mem_append_right _ h))))) hown hK hP 1 rfl rfl 6 (by decide) (hts (.fieldLink RX6 30 "SelfishJunction$Survey" "marks" "[I") (List.mem_cons_of_mem _ (List.mem_append_left _ (List.mem_append_left _ (List.mem_append_left _ (List.mem_append_left _ (List.mem_of_getElem? (i := 3) rfl))))))) (fun _ h9 => h9) rfl dX6_meetsRing_135 ?_
  refine lv_iload hx hb dX6_meetsRing_138 (lv_at hl 0 rfl) ?_
  refine va_iald hx hb hK hP 2 1 rfl rfl (kx_in 0 1000 rfl ⟨(Nat.le_of_ble_eq_true rfl), (Nat.le_of_ble_eq_true rfl)⟩ (Nat.le_of_ble_eq_true rfl)) dX6_meetsRing_140 ?_
  refine lv_topi (fun v_36 ev_36 => ?_)
  obtain rfl : v_36 = 1 := ev_36.trans rfl
  refine lv_iconst (v := 2) hx hb dX6_meetsRing_141 (by decide) ?_
  refine lv_icmp_ne (tgt := 156) hx hb dX6_meetsRing_142 (by decide) (fun _ => ?_) (fun h => absurd h (by decide))
  refine lv_iload hx hb dX6_meetsRing_156 (lv_at hl 0 rfl) ?_
  refine lv_iload hx hb dX6_meetsRing_158 (lv_at hl 2 rfl) ?_
  refine lv_icmp_eq (tgt := 173) hx hb dX6_meetsRing_160 (by decide) (fun _ => ?_) (fun h => absurd (by decide) h)
  refine lv_iinc (v := 5) (lv' := [(3, .int 5), (6, .int 0), (5, .int 4), (4, .int 0), (2, .int 0), (0, .ref h1), (1, .int 0)]) hx hb dX6_meetsRing_173 hl (k := 3) rfl (by decide) (by decide) rfl (fun ls hl => ?_)
  refine lv_goto (tgt := 10) hx hb dX6_meetsRing_176 (by decide) ?_
  refine lv_iload_n hx hb dX6_meetsRing_10 rfl (lv_at hl 0 rfl) ?_
  refine lv_ldc (v := 1000000) hx hb hown (hts (.constant RX6 128 (1000000)) (List.mem_cons_of_mem _ (List.mem_append_left _ (List.mem_append_left _ (List.mem_append_left _ (List.mem_append_left _ (List.mem_of_getElem? (i := 0) rfl))))))) dX6_meetsRing_11 ?_
  refine lv_icmp_ge (tgt := 179) hx hb dX6_meetsRing_13 (by decide) (fun h => absurd h (by decide)) (fun _ => ?_)
  refine lv_iload_n hx hb dX6_meetsRing_16 rfl (lv_at hl 4 rfl) ?_
  refine lv_if_lt (tgt := 179) hx hb dX6_meetsRing_17 (by decide) (fun h => absurd h (by decide)) (fun _ => ?_)
  refine lv_aload_n hx hb dX6_meetsRing_20 rfl (lv_at hl 5 rfl) ?_
  refine va_get (D := D) (ci := 8) (v := .ref h11) (C := RX6) (T := TX6) (N := 13) hx hb hts (fun _ h => (List.mem_cons_of_mem _ (List.mem_append_left _ (List.mem_append_left _ (List.mem_append_right _ h))))) hown hK hP 1 rfl rfl 9 (by decide) (hts (.fieldLink RX6 39 "SelfishJunction$Survey" "stack" "[I") (List.mem_cons_of_mem _ (List.mem_append_left _ (List.mem_append_left _ (List.mem_append_left _ (List.mem_append_left _ (List.mem_of_getElem? (i := 1) rfl))))))) (fun _ h9 => h9) rfl dX6_meetsRing_21 ?_
  refine lv_iload_n hx hb dX6_meetsRing_24 rfl (lv_at hl 4 rfl) ?_
  refine va_iald hx hb hK hP 5 1 rfl rfl (kx_in 0 1000 rfl ⟨(Nat.le_of_ble_eq_true rfl), (Nat.le_of_ble_eq_true rfl)⟩ (Nat.le_of_ble_eq_true rfl)) dX6_meetsRing_25 ?_
  refine lv_topi (fun v_37 ev_37 => ?_)
  obtain rfl : v_37 = 0 := ev_37.trans rfl
  refine lv_istore (lv' := [(4, .int 0), (3, .int 5), (6, .int 0), (5, .int 4), (2, .int 0), (0, .ref h1), (1, .int 0)]) hx hb dX6_meetsRing_26 hl (by decide) rfl (fun ls hl => ?_)
  refine lv_aload_n hx hb dX6_meetsRing_28 rfl (lv_at hl 5 rfl) ?_
  refine va_get (D := D) (ci := 8) (v := .ref h10) (C := RX6) (T := TX6) (N := 13) hx hb hts (fun _ h => (List.mem_cons_of_mem _ (List.mem_append_left _ (List.mem_append_left _ (List.mem_append_right _ h))))) hown hK hP 1 rfl rfl 8 (by decide) (hts (.fieldLink RX6 36 "SelfishJunction$Survey" "tried" "[I") (List.mem_cons_of_mem _ (List.mem_append_left _ (List.mem_append_left _ (List.mem_append_left _ (List.mem_append_left _ (List.mem_of_getElem? (i := 2) rfl))))))) (fun _ h9 => h9) rfl dX6_meetsRing_29 ?_
  refine lv_iload hx hb dX6_meetsRing_32 (lv_at hl 0 rfl) ?_
  refine va_iald hx hb hK hP 4 1 rfl rfl (kx_in 0 1000 rfl ⟨(Nat.le_of_ble_eq_true rfl), (Nat.le_of_ble_eq_true rfl)⟩ (Nat.le_of_ble_eq_true rfl)) dX6_meetsRing_34 ?_
  refine lv_topi (fun v_38 ev_38 => ?_)
  obtain rfl : v_38 = 5 := ev_38.trans rfl
  refine lv_bipush (v := 30) hx hb dX6_meetsRing_35 (by decide) ?_
  refine lv_icmp_lt (tgt := 70) hx hb dX6_meetsRing_37 (by decide) (fun _ => ?_) (fun h => absurd (by decide) h)
  refine lv_aload_n hx hb dX6_meetsRing_70 rfl (lv_at hl 5 rfl) ?_
  refine va_get (D := D) (ci := 8) (v := .ref h10) (C := RX6) (T := TX6) (N := 13) hx hb hts (fun _ h => (List.mem_cons_of_mem _ (List.mem_append_left _ (List.mem_append_left _ (List.mem_append_right _ h))))) hown hK hP 1 rfl rfl 8 (by decide) (hts (.fieldLink RX6 36 "SelfishJunction$Survey" "tried" "[I") (List.mem_cons_of_mem _ (List.mem_append_left _ (List.mem_append_left _ (List.mem_append_left _ (List.mem_append_left _ (List.mem_of_getElem? (i := 2) rfl))))))) (fun _ h9 => h9) rfl dX6_meetsRing_71 ?_
  refine lv_iload hx hb dX6_meetsRing_74 (lv_at hl 0 rfl) ?_
  refine lv_dup2_11 hx hb dX6_meetsRing_76 rfl rfl ?_
  refine va_iald hx hb hK hP 4 1 rfl rfl (kx_in 0 1000 rfl ⟨(Nat.le_of_ble_eq_true rfl), (Nat.le_of_ble_eq_true rfl)⟩ (Nat.le_of_ble_eq_true rfl)) dX6_meetsRing_77 ?_
  refine lv_topi (fun v_39 ev_39 => ?_)
  obtain rfl : v_39 = 5 := ev_39.trans rfl
  refine lv_dup_x2 hx hb dX6_meetsRing_78 rfl rfl rfl ?_
  refine lv_iconst (v := 1) hx hb dX6_meetsRing_79 (by decide) ?_
  refine lv_iadd hx hb dX6_meetsRing_80 ?_
  refine lv_topi (fun v_40 ev_40 => ?_)
  obtain rfl : v_40 = 6 := ev_40.trans (by decide)
  refine va_iast hx hb hK hP hD hS 4 1 rfl rfl (kx_in 0 1000 rfl ⟨(Nat.le_of_ble_eq_true rfl), (Nat.le_of_ble_eq_true rfl)⟩ (Nat.le_of_ble_eq_true rfl)) dX6_meetsRing_81 (fun H locs hP hD hS => ?_)
  have hP : va_P D vwCl [(h7, .inl (cy 1, 1000, .inl g15)), (h1, .inr (8, [x2, x3, x4, x5, x6, .ref h7, .ref h8, .ref h9, .ref h10, .ref h11, x12, x13, x14])), (h8, .inl (cy 1, 1000, .inl (upd g16 0 1))), (h9, .inl (cy 1, 1000, .inl (upd g17 0 0))), (h10, .inl (cy 1, 1000, .inl (upd (upd g18 0 5) 0 6))), (h11, .inl (cy 1, 1000, .inl (upd g19 0 0)))] H := hP
  have hD : va_D A [(h7, .inl (cy 1, 1000, .inl g15)), (h1, .inr (8, [x2, x3, x4, x5, x6, .ref h7, .ref h8, .ref h9, .ref h10, .ref h11, x12, x13, x14])), (h8, .inl (cy 1, 1000, .inl (upd g16 0 1))), (h9, .inl (cy 1, 1000, .inl (upd g17 0 0))), (h10, .inl (cy 1, 1000, .inl (upd (upd g18 0 5) 0 6))), (h11, .inl (cy 1, 1000, .inl (upd g19 0 0)))] := hD
  rw [kx_uu] at hP hD
  refine lv_istore (lv' := [(5, .int 5), (4, .int 0), (3, .int 5), (6, .int 0), (2, .int 0), (0, .ref h1), (1, .int 0)]) hx hb dX6_meetsRing_82 hl (by decide) rfl (fun ls hl => ?_)
  refine lv_aload_n hx hb dX6_meetsRing_84 rfl (lv_at hl 5 rfl) ?_
  refine va_get (D := D) (ci := 8) (v := .ref h7) (C := RX6) (T := TX6) (N := 13) hx hb hts (fun _ h => (List.mem_cons_of_mem _ (List.mem_append_left _ (List.mem_append_left _ (List.mem_append_right _ h))))) hown hK hP 1 rfl rfl 5 (by decide) (hts (.fieldLink RX6 27 "SelfishJunction$Survey" "moves" "[I") (List.mem_cons_of_mem _ (List.mem_append_left _ (List.mem_append_left _ (List.mem_append_left _ (List.mem_append_left _ (List.mem_of_getElem? (i := 4) rfl))))))) (fun _ h9 => h9) rfl dX6_meetsRing_85 ?_
  refine lv_iload hx hb dX6_meetsRing_88 (lv_at hl 1 rfl) ?_
  refine va_iald hx hb hK hP 0 1 rfl rfl (kx_in 0 1000 rfl ⟨(Nat.le_of_ble_eq_true rfl), (Nat.le_of_ble_eq_true rfl)⟩ (Nat.le_of_ble_eq_true rfl)) dX6_meetsRing_90 ?_
  refine lv_topi (fun v_41 ev_41 => ?_)
  obtain rfl : v_41 = 0 := ev_41.trans (kg15_0)
  refine lv_iload hx hb dX6_meetsRing_91 (lv_at hl 0 rfl) ?_
  have hPc := hP.sub (ws' := []) [] rfl
  refine va_calli (va_runSN (As := [.int 0, .int 5]) (rest := []) ⟨hx, hb, hml, hown, hts⟩ (k_X7_hasBit_5 l D cy ) ⟨va_cnB 2 hts gX6_meetsRing_X7_hasBit_n132 rfl rfl rfl (exP.nest hE (RX6, 132, yX7_hasBit, RX7) (by decide +kernel)) (hts (.initialized RX7) (List.mem_cons_of_mem _ (List.mem_append_left _ (List.mem_append_left _ (List.mem_append_left _ (List.mem_append_left _ (List.mem_of_getElem? (i := 20) rfl))))))) (by decide +kernel) ⟨(Nat.le_of_ble_eq_true rfl), (Nat.le_of_ble_eq_true rfl)⟩, (hts (.static yX7_hasBit) (List.mem_cons_of_mem _ (List.mem_append_left _ (List.mem_append_left _ (List.mem_append_left _ (List.mem_append_left _ (List.mem_of_getElem? (i := 19) rfl))))))), trivial⟩ ⟨kR_fb, (kR_go hPc hK)⟩ rfl rfl hl.1 rfl (lv_room (Nat.le_of_ble_eq_true rfl)) dX6_meetsRing_93 ⟨(Nat.le_of_ble_eq_true rfl), (Nat.le_of_ble_eq_true rfl)⟩) hS (fun _ _ h => h.elim) (fun _ h => h.elim) (fun r9 u t H locs ht hvm hw hB hz1 hk1 hS => ?_)
  have hP := kx_kept hP hk1
  obtain ⟨rfl, hw⟩ := hw
  refine lv_if_eq (tgt := 110) hx hb dX6_meetsRing_96 (by decide) (fun _ => ?_) (fun h => absurd (by decide) h)
  refine lv_iload hx hb dX6_meetsRing_110 (lv_at hl 1 rfl) ?_
  refine lv_istore (lv' := [(6, .int 0), (5, .int 5), (4, .int 0), (3, .int 5), (2, .int 0), (0, .ref h1), (1, .int 0)]) hx hb dX6_meetsRing_112 hl (by decide) rfl (fun ls hl => ?_)
  refine lv_iload hx hb dX6_meetsRing_114 (lv_at hl 0 rfl) ?_
  refine lv_iload hx hb dX6_meetsRing_116 (lv_at hl 2 rfl) ?_
  refine lv_icmp_eq (tgt := 134) hx hb dX6_meetsRing_118 (by decide) (fun _ => ?_) (fun h => absurd (by decide) h)
  refine lv_aload_n hx hb dX6_meetsRing_134 rfl (lv_at hl 5 rfl) ?_
  refine va_get (D := D) (ci := 8) (v := .ref h8) (C := RX6) (T := TX6) (N := 13) hx hb hts (fun _ h => (List.mem_cons_of_mem _ (List.mem_append_left _ (List.mem_append_left _ (List.mem_append_right _ h))))) hown hK hP 1 rfl rfl 6 (by decide) (hts (.fieldLink RX6 30 "SelfishJunction$Survey" "marks" "[I") (List.mem_cons_of_mem _ (List.mem_append_left _ (List.mem_append_left _ (List.mem_append_left _ (List.mem_append_left _ (List.mem_of_getElem? (i := 3) rfl))))))) (fun _ h9 => h9) rfl dX6_meetsRing_135 ?_
  refine lv_iload hx hb dX6_meetsRing_138 (lv_at hl 0 rfl) ?_
  refine va_iald hx hb hK hP 2 1 rfl rfl (kx_in 0 1000 rfl ⟨(Nat.le_of_ble_eq_true rfl), (Nat.le_of_ble_eq_true rfl)⟩ (Nat.le_of_ble_eq_true rfl)) dX6_meetsRing_140 ?_
  refine lv_topi (fun v_43 ev_43 => ?_)
  obtain rfl : v_43 = 1 := ev_43.trans rfl
  refine lv_iconst (v := 2) hx hb dX6_meetsRing_141 (by decide) ?_
  refine lv_icmp_ne (tgt := 156) hx hb dX6_meetsRing_142 (by decide) (fun _ => ?_) (fun h => absurd h (by decide))
  refine lv_iload hx hb dX6_meetsRing_156 (lv_at hl 0 rfl) ?_
  refine lv_iload hx hb dX6_meetsRing_158 (lv_at hl 2 rfl) ?_
  refine lv_icmp_eq (tgt := 173) hx hb dX6_meetsRing_160 (by decide) (fun _ => ?_) (fun h => absurd (by decide) h)
  refine lv_iinc (v := 6) (lv' := [(3, .int 6), (6, .int 0), (5, .int 5), (4, .int 0), (2, .int 0), (0, .ref h1), (1, .int 0)]) hx hb dX6_meetsRing_173 hl (k := 3) rfl (by decide) (by decide) rfl (fun ls hl => ?_)
  refine lv_goto (tgt := 10) hx hb dX6_meetsRing_176 (by decide) ?_
  refine lv_iload_n hx hb dX6_meetsRing_10 rfl (lv_at hl 0 rfl) ?_
  refine lv_ldc (v := 1000000) hx hb hown (hts (.constant RX6 128 (1000000)) (List.mem_cons_of_mem _ (List.mem_append_left _ (List.mem_append_left _ (List.mem_append_left _ (List.mem_append_left _ (List.mem_of_getElem? (i := 0) rfl))))))) dX6_meetsRing_11 ?_
  refine lv_icmp_ge (tgt := 179) hx hb dX6_meetsRing_13 (by decide) (fun h => absurd h (by decide)) (fun _ => ?_)
  refine lv_iload_n hx hb dX6_meetsRing_16 rfl (lv_at hl 4 rfl) ?_
  refine lv_if_lt (tgt := 179) hx hb dX6_meetsRing_17 (by decide) (fun h => absurd h (by decide)) (fun _ => ?_)
  refine lv_aload_n hx hb dX6_meetsRing_20 rfl (lv_at hl 5 rfl) ?_
  refine va_get (D := D) (ci := 8) (v := .ref h11) (C := RX6) (T := TX6) (N := 13) hx hb hts (fun _ h => (List.mem_cons_of_mem _ (List.mem_append_left _ (List.mem_append_left _ (List.mem_append_right _ h))))) hown hK hP 1 rfl rfl 9 (by decide) (hts (.fieldLink RX6 39 "SelfishJunction$Survey" "stack" "[I") (List.mem_cons_of_mem _ (List.mem_append_left _ (List.mem_append_left _ (List.mem_append_left _ (List.mem_append_left _ (List.mem_of_getElem? (i := 1) rfl))))))) (fun _ h9 => h9) rfl dX6_meetsRing_21 ?_
  refine lv_iload_n hx hb dX6_meetsRing_24 rfl (lv_at hl 4 rfl) ?_
  refine va_iald hx hb hK hP 5 1 rfl rfl (kx_in 0 1000 rfl ⟨(Nat.le_of_ble_eq_true rfl), (Nat.le_of_ble_eq_true rfl)⟩ (Nat.le_of_ble_eq_true rfl)) dX6_meetsRing_25 ?_
  refine lv_topi (fun v_44 ev_44 => ?_)
  obtain rfl : v_44 = 0 := ev_44.trans rfl
  refine lv_istore (lv' := [(4, .int 0), (3, .int 6), (6, .int 0), (5, .int 5), (2, .int 0), (0, .ref h1), (1, .int 0)]) hx hb dX6_meetsRing_26 hl (by decide) rfl (fun ls hl => ?_)
  refine lv_aload_n hx hb dX6_meetsRing_28 rfl (lv_at hl 5 rfl) ?_
  refine va_get (D := D) (ci := 8) (v := .ref h10) (C := RX6) (T := TX6) (N := 13) hx hb hts (fun _ h => (List.mem_cons_of_mem _ (List.mem_append_left _ (List.mem_append_left _ (List.mem_append_right _ h))))) hown hK hP 1 rfl rfl 8 (by decide) (hts (.fieldLink RX6 36 "SelfishJunction$Survey" "tried" "[I") (List.mem_cons_of_mem _ (List.mem_append_left _ (List.mem_append_left _ (List.mem_append_left _ (List.mem_append_left _ (List.mem_of_getElem? (i := 2) rfl))))))) (fun _ h9 => h9) rfl dX6_meetsRing_29 ?_
  refine lv_iload hx hb dX6_meetsRing_32 (lv_at hl 0 rfl) ?_
  refine va_iald hx hb hK hP 4 1 rfl rfl (kx_in 0 1000 rfl ⟨(Nat.le_of_ble_eq_true rfl), (Nat.le_of_ble_eq_true rfl)⟩ (Nat.le_of_ble_eq_true rfl)) dX6_meetsRing_34 ?_
  refine lv_topi (fun v_45 ev_45 => ?_)
  obtain rfl : v_45 = 6 := ev_45.trans rfl
  refine lv_bipush (v := 30) hx hb dX6_meetsRing_35 (by decide) ?_
  refine lv_icmp_lt (tgt := 70) hx hb dX6_meetsRing_37 (by decide) (fun _ => ?_) (fun h => absurd (by decide) h)
  refine lv_aload_n hx hb dX6_meetsRing_70 rfl (lv_at hl 5 rfl) ?_
  refine va_get (D := D) (ci := 8) (v := .ref h10) (C := RX6) (T := TX6) (N := 13) hx hb hts (fun _ h => (List.mem_cons_of_mem _ (List.mem_append_left _ (List.mem_append_left _ (List.mem_append_right _ h))))) hown hK hP 1 rfl rfl 8 (by decide) (hts (.fieldLink RX6 36 "SelfishJunction$Survey" "tried" "[I") (List.mem_cons_of_mem _ (List.mem_append_left _ (List.mem_append_left _ (List.mem_append_left _ (List.mem_append_left _ (List.mem_of_getElem? (i := 2) rfl))))))) (fun _ h9 => h9) rfl dX6_meetsRing_71 ?_
  refine lv_iload hx hb dX6_meetsRing_74 (lv_at hl 0 rfl) ?_
  refine lv_dup2_11 hx hb dX6_meetsRing_76 rfl rfl ?_
  refine va_iald hx hb hK hP 4 1 rfl rfl (kx_in 0 1000 rfl ⟨(Nat.le_of_ble_eq_true rfl), (Nat.le_of_ble_eq_true rfl)⟩ (Nat.le_of_ble_eq_true rfl)) dX6_meetsRing_77 ?_
  refine lv_topi (fun v_46 ev_46 => ?_)
  obtain rfl : v_46 = 6 := ev_46.trans rfl
  refine lv_dup_x2 hx hb dX6_meetsRing_78 rfl rfl rfl ?_
  refine lv_iconst (v := 1) hx hb dX6_meetsRing_79 (by decide) ?_
  refine lv_iadd hx hb dX6_meetsRing_80 ?_
  refine lv_topi (fun v_47 ev_47 => ?_)
  obtain rfl : v_47 = 7 := ev_47.trans (by decide)
  refine va_iast hx hb hK hP hD hS 4 1 rfl rfl (kx_in 0 1000 rfl ⟨(Nat.le_of_ble_eq_true rfl), (Nat.le_of_ble_eq_true rfl)⟩ (Nat.le_of_ble_eq_true rfl)) dX6_meetsRing_81 (fun H locs hP hD hS => ?_)
  have hP : va_P D vwCl [(h7, .inl (cy 1, 1000, .inl g15)), (h1, .inr (8, [x2, x3, x4, x5, x6, .ref h7, .ref h8, .ref h9, .ref h10, .ref h11, x12, x13, x14])), (h8, .inl (cy 1, 1000, .inl (upd g16 0 1))), (h9, .inl (cy 1, 1000, .inl (upd g17 0 0))), (h10, .inl (cy 1, 1000, .inl (upd (upd g18 0 6) 0 7))), (h11, .inl (cy 1, 1000, .inl (upd g19 0 0)))] H := hP
  have hD : va_D A [(h7, .inl (cy 1, 1000, .inl g15)), (h1, .inr (8, [x2, x3, x4, x5, x6, .ref h7, .ref h8, .ref h9, .ref h10, .ref h11, x12, x13, x14])), (h8, .inl (cy 1, 1000, .inl (upd g16 0 1))), (h9, .inl (cy 1, 1000, .inl (upd g17 0 0))), (h10, .inl (cy 1, 1000, .inl (upd (upd g18 0 6) 0 7))), (h11, .inl (cy 1, 1000, .inl (upd g19 0 0)))] := hD
  rw [kx_uu] at hP hD
  refine lv_istore (lv' := [(5, .int 6), (4, .int 0), (3, .int 6), (6, .int 0), (2, .int 0), (0, .ref h1), (1, .int 0)]) hx hb dX6_meetsRing_82 hl (by decide) rfl (fun ls hl => ?_)
  refine lv_aload_n hx hb dX6_meetsRing_84 rfl (lv_at hl 5 rfl) ?_
  refine va_get (D := D) (ci := 8) (v := .ref h7) (C := RX6) (T := TX6) (N := 13) hx hb hts (fun _ h => (List.mem_cons_of_mem _ (List.mem_append_left _ (List.mem_append_left _ (List.mem_append_right _ h))))) hown hK hP 1 rfl rfl 5 (by decide) (hts (.fieldLink RX6 27 "SelfishJunction$Survey" "moves" "[I") (List.mem_cons_of_mem _ (List.mem_append_left _ (List.mem_append_left _ (List.mem_append_left _ (List.mem_append_left _ (List.mem_of_getElem? (i := 4) rfl))))))) (fun _ h9 => h9) rfl dX6_meetsRing_85 ?_
  refine lv_iload hx hb dX6_meetsRing_88 (lv_at hl 1 rfl) ?_
  refine va_iald hx hb hK hP 0 1 rfl rfl (kx_in 0 1000 rfl ⟨(Nat.le_of_ble_eq_true rfl), (Nat.le_of_ble_eq_true rfl)⟩ (Nat.le_of_ble_eq_true rfl)) dX6_meetsRing_90 ?_
  refine lv_topi (fun v_48 ev_48 => ?_)
  obtain rfl : v_48 = 0 := ev_48.trans (kg15_0)
  refine lv_iload hx hb dX6_meetsRing_91 (lv_at hl 0 rfl) ?_
  have hPc := hP.sub (ws' := []) [] rfl
  refine va_calli (va_runSN (As := [.int 0, .int 6]) (rest := []) ⟨hx, hb, hml, hown, hts⟩ (k_X7_hasBit_6 l D cy ) ⟨va_cnB 2 hts gX6_meetsRing_X7_hasBit_n132 rfl rfl rfl (exP.nest hE (RX6, 132, yX7_hasBit, RX7) (by decide +kernel)) (hts (.initialized RX7) (List.mem_cons_of_mem _ (List.mem_append_left _ (List.mem_append_left _ (List.mem_append_left _ (List.mem_append_left _ (List.mem_of_getElem? (i := 20) rfl))))))) (by decide +kernel) ⟨(Nat.le_of_ble_eq_true rfl), (Nat.le_of_ble_eq_true rfl)⟩, (hts (.static yX7_hasBit) (List.mem_cons_of_mem _ (List.mem_append_left _ (List.mem_append_left _ (List.mem_append_left _ (List.mem_append_left _ (List.mem_of_getElem? (i := 19) rfl))))))), trivial⟩ ⟨kR_fb, (kR_go hPc hK)⟩ rfl rfl hl.1 rfl (lv_room (Nat.le_of_ble_eq_true rfl)) dX6_meetsRing_93 ⟨(Nat.le_of_ble_eq_true rfl), (Nat.le_of_ble_eq_true rfl)⟩) hS (fun _ _ h => h.elim) (fun _ h => h.elim) (fun r9 u t H locs ht hvm hw hB hz1 hk1 hS => ?_)
  have hP := kx_kept hP hk1
  obtain ⟨rfl, hw⟩ := hw
  refine lv_if_eq (tgt := 110) hx hb dX6_meetsRing_96 (by decide) (fun _ => ?_) (fun h => absurd (by decide) h)
  refine lv_iload hx hb dX6_meetsRing_110 (lv_at hl 1 rfl) ?_
  refine lv_istore (lv' := [(6, .int 0), (5, .int 6), (4, .int 0), (3, .int 6), (2, .int 0), (0, .ref h1), (1, .int 0)]) hx hb dX6_meetsRing_112 hl (by decide) rfl (fun ls hl => ?_)
  refine lv_iload hx hb dX6_meetsRing_114 (lv_at hl 0 rfl) ?_
  refine lv_iload hx hb dX6_meetsRing_116 (lv_at hl 2 rfl) ?_
  refine lv_icmp_eq (tgt := 134) hx hb dX6_meetsRing_118 (by decide) (fun _ => ?_) (fun h => absurd (by decide) h)
  refine lv_aload_n hx hb dX6_meetsRing_134 rfl (lv_at hl 5 rfl) ?_
  refine va_get (D := D) (ci := 8) (v := .ref h8) (C := RX6) (T := TX6) (N := 13) hx hb hts (fun _ h => (List.mem_cons_of_mem _ (List.mem_append_left _ (List.mem_append_left _ (List.mem_append_right _ h))))) hown hK hP 1 rfl rfl 6 (by decide) (hts (.fieldLink RX6 30 "SelfishJunction$Survey" "marks" "[I") (List.mem_cons_of_mem _ (List.mem_append_left _ (List.mem_append_left _ (List.mem_append_left _ (List.mem_append_left _ (List.mem_of_getElem? (i := 3) rfl))))))) (fun _ h9 => h9) rfl dX6_meetsRing_135 ?_
  refine lv_iload hx hb dX6_meetsRing_138 (lv_at hl 0 rfl) ?_
  refine va_iald hx hb hK hP 2 1 rfl rfl (kx_in 0 1000 rfl ⟨(Nat.le_of_ble_eq_true rfl), (Nat.le_of_ble_eq_true rfl)⟩ (Nat.le_of_ble_eq_true rfl)) dX6_meetsRing_140 ?_
  refine lv_topi (fun v_50 ev_50 => ?_)
  obtain rfl : v_50 = 1 := ev_50.trans rfl
  refine lv_iconst (v := 2) hx hb dX6_meetsRing_141 (by decide) ?_
  refine lv_icmp_ne (tgt := 156) hx hb dX6_meetsRing_142 (by decide) (fun _ => ?_) (fun h => absurd h (by decide))
  refine lv_iload hx hb dX6_meetsRing_156 (lv_at hl 0 rfl) ?_
  refine lv_iload hx hb dX6_meetsRing_158 (lv_at hl 2 rfl) ?_
  refine lv_icmp_eq (tgt := 173) hx hb dX6_meetsRing_160 (by decide) (fun _ => ?_) (fun h => absurd (by decide) h)
  refine lv_iinc (v := 7) (lv' := [(3, .int 7), (6, .int 0), (5, .int 6), (4, .int 0), (2, .int 0), (0, .ref h1), (1, .int 0)]) hx hb dX6_meetsRing_173 hl (k := 3) rfl (by decide) (by decide) rfl (fun ls hl => ?_)
  refine lv_goto (tgt := 10) hx hb dX6_meetsRing_176 (by decide) ?_
  refine lv_iload_n hx hb dX6_meetsRing_10 rfl (lv_at hl 0 rfl) ?_
  refine lv_ldc (v := 1000000) hx hb hown (hts (.constant RX6 128 (1000000)) (List.mem_cons_of_mem _ (List.mem_append_left _ (List.mem_append_left _ (List.mem_append_left _ (List.mem_append_left _ (List.mem_of_getElem? (i := 0) rfl))))))) dX6_meetsRing_11 ?_
  refine lv_icmp_ge (tgt := 179) hx hb dX6_meetsRing_13 (by decide) (fun h => absurd h (by decide)) (fun _ => ?_)
  refine lv_iload_n hx hb dX6_meetsRing_16 rfl (lv_at hl 4 rfl) ?_
  refine lv_if_lt (tgt := 179) hx hb dX6_meetsRing_17 (by decide) (fun h => absurd h (by decide)) (fun _ => ?_)
  refine lv_aload_n hx hb dX6_meetsRing_20 rfl (lv_at hl 5 rfl) ?_
  refine va_get (D := D) (ci := 8) (v := .ref h11) (C := RX6) (T := TX6) (N := 13) hx hb hts (fun _ h => (List.mem_cons_of_mem _ (List.mem_append_left _ (List.mem_append_left _ (List.mem_append_right _ h))))) hown hK hP 1 rfl rfl 9 (by decide) (hts (.fieldLink RX6 39 "SelfishJunction$Survey" "stack" "[I") (List.mem_cons_of_mem _ (List.mem_append_left _ (List.mem_append_left _ (List.mem_append_left _ (List.mem_append_left _ (List.mem_of_getElem? (i := 1) rfl))))))) (fun _ h9 => h9) rfl dX6_meetsRing_21 ?_
  refine lv_iload_n hx hb dX6_meetsRing_24 rfl (lv_at hl 4 rfl) ?_
  refine va_iald hx hb hK hP 5 1 rfl rfl (kx_in 0 1000 rfl ⟨(Nat.le_of_ble_eq_true rfl), (Nat.le_of_ble_eq_true rfl)⟩ (Nat.le_of_ble_eq_true rfl)) dX6_meetsRing_25 ?_
  refine lv_topi (fun v_51 ev_51 => ?_)
  obtain rfl : v_51 = 0 := ev_51.trans rfl
  refine lv_istore (lv' := [(4, .int 0), (3, .int 7), (6, .int 0), (5, .int 6), (2, .int 0), (0, .ref h1), (1, .int 0)]) hx hb dX6_meetsRing_26 hl (by decide) rfl (fun ls hl => ?_)
  refine lv_aload_n hx hb dX6_meetsRing_28 rfl (lv_at hl 5 rfl) ?_
  refine va_get (D := D) (ci := 8) (v := .ref h10) (C := RX6) (T := TX6) (N := 13) hx hb hts (fun _ h => (List.mem_cons_of_mem _ (List.mem_append_left _ (List.mem_append_left _ (List.mem_append_right _ h))))) hown hK hP 1 rfl rfl 8 (by decide) (hts (.fieldLink RX6 36 "SelfishJunction$Survey" "tried" "[I") (List.mem_cons_of_mem _ (List.mem_append_left _ (List.mem_append_left _ (List.mem_append_left _ (List.mem_append_left _ (List.mem_of_getElem? (i := 2) rfl))))))) (fun _ h9 => h9) rfl dX6_meetsRing_29 ?_
  refine lv_iload hx hb dX6_meetsRing_32 (lv_at hl 0 rfl) ?_
  refine va_iald hx hb hK hP 4 1 rfl rfl (kx_in 0 1000 rfl ⟨(Nat.le_of_ble_eq_true rfl), (Nat.le_of_ble_eq_true rfl)⟩ (Nat.le_of_ble_eq_true rfl)) dX6_meetsRing_34 ?_
  refine lv_topi (fun v_52 ev_52 => ?_)
  obtain rfl : v_52 = 7 := ev_52.trans rfl
  refine lv_bipush (v := 30) hx hb dX6_meetsRing_35 (by decide) ?_
  refine lv_icmp_lt (tgt := 70) hx hb dX6_meetsRing_37 (by decide) (fun _ => ?_) (fun h => absurd (by decide) h)
  refine lv_aload_n hx hb dX6_meetsRing_70 rfl (lv_at hl 5 rfl) ?_
  refine va_get (D := D) (ci := 8) (v := .ref h10) (C := RX6) (T := TX6) (N := 13) hx hb hts (fun _ h => (List.mem_cons_of_mem _ (List.mem_append_left _ (List.mem_append_left _ (List.mem_append_right _ h))))) hown hK hP 1 rfl rfl 8 (by decide) (hts (.fieldLink RX6 36 "SelfishJunction$Survey" "tried" "[I") (List.mem_cons_of_mem _ (List.mem_append_left _ (List.mem_append_left _ (List.mem_append_left _ (List.mem_append_left _ (List.mem_of_getElem? (i := 2) rfl))))))) (fun _ h9 => h9) rfl dX6_meetsRing_71 ?_
  refine lv_iload hx hb dX6_meetsRing_74 (lv_at hl 0 rfl) ?_
  refine lv_dup2_11 hx hb dX6_meetsRing_76 rfl rfl ?_
  refine va_iald hx hb hK hP 4 1 rfl rfl (kx_in 0 1000 rfl ⟨(Nat.le_of_ble_eq_true rfl), (Nat.le_of_ble_eq_true rfl)⟩ (Nat.le_of_ble_eq_true rfl)) dX6_meetsRing_77 ?_
  refine lv_topi (fun v_53 ev_53 => ?_)
  obtain rfl : v_53 = 7 := ev_53.trans rfl
  refine lv_dup_x2 hx hb dX6_meetsRing_78 rfl rfl rfl ?_
  refine lv_iconst (v := 1) hx hb dX6_meetsRing_79 (by decide) ?_
  refine lv_iadd hx hb dX6_meetsRing_80 ?_
  refine lv_topi (fun v_54 ev_54 => ?_)
  obtain rfl : v_54 = 8 := ev_54.trans (by decide)
  refine va_iast hx hb hK hP hD hS 4 1 rfl rfl (kx_in 0 1000 rfl ⟨(Nat.le_of_ble_eq_true rfl), (Nat.le_of_ble_eq_true rfl)⟩ (Nat.le_of_ble_eq_true rfl)) dX6_meetsRing_81 (fun H locs hP hD hS => ?_)
  have hP : va_P D vwCl [(h7, .inl (cy 1, 1000, .inl g15)), (h1, .inr (8, [x2, x3, x4, x5, x6, .ref h7, .ref h8, .ref h9, .ref h10, .ref h11, x12, x13, x14])), (h8, .inl (cy 1, 1000, .inl (upd g16 0 1))), (h9, .inl (cy 1, 1000, .inl (upd g17 0 0))), (h10, .inl (cy 1, 1000, .inl (upd (upd g18 0 7) 0 8))), (h11, .inl (cy 1, 1000, .inl (upd g19 0 0)))] H := hP
  have hD : va_D A [(h7, .inl (cy 1, 1000, .inl g15)), (h1, .inr (8, [x2, x3, x4, x5, x6, .ref h7, .ref h8, .ref h9, .ref h10, .ref h11, x12, x13, x14])), (h8, .inl (cy 1, 1000, .inl (upd g16 0 1))), (h9, .inl (cy 1, 1000, .inl (upd g17 0 0))), (h10, .inl (cy 1, 1000, .inl (upd (upd g18 0 7) 0 8))), (h11, .inl (cy 1, 1000, .inl (upd g19 0 0)))] := hD
  rw [kx_uu] at hP hD
  refine lv_istore (lv' := [(5, .int 7), (4, .int 0), (3, .int 7), (6, .int 0), (2, .int 0), (0, .ref h1), (1, .int 0)]) hx hb dX6_meetsRing_82 hl (by decide) rfl (fun ls hl => ?_)
  refine lv_aload_n hx hb dX6_meetsRing_84 rfl (lv_at hl 5 rfl) ?_
  refine va_get (D := D) (ci := 8) (v := .ref h7) (C := RX6) (T := TX6) (N := 13) hx hb hts (fun _ h => (List.mem_cons_of_mem _ (List.mem_append_left _ (List.mem_append_left _ (List.mem_append_right _ h))))) hown hK hP 1 rfl rfl 5 (by decide) (hts (.fieldLink RX6 27 "SelfishJunction$Survey" "moves" "[I") (List.mem_cons_of_mem _ (List.mem_append_left _ (List.mem_append_left _ (List.mem_append_left _ (List.mem_append_left _ (List.mem_of_getElem? (i := 4) rfl))))))) (fun _ h9 => h9) rfl dX6_meetsRing_85 ?_
  refine lv_iload hx hb dX6_meetsRing_88 (lv_at hl 1 rfl) ?_
  refine va_iald hx hb hK hP 0 1 rfl rfl (kx_in 0 1000 rfl ⟨(Nat.le_of_ble_eq_true rfl), (Nat.le_of_ble_eq_true rfl)⟩ (Nat.le_of_ble_eq_true rfl)) dX6_meetsRing_90 ?_
  refine lv_topi (fun v_55 ev_55 => ?_)
  obtain rfl : v_55 = 0 := ev_55.trans (kg15_0)
  refine lv_iload hx hb dX6_meetsRing_91 (lv_at hl 0 rfl) ?_
  have hPc := hP.sub (ws' := []) [] rfl
  refine va_calli (va_runSN (As := [.int 0, .int 7]) (rest := []) ⟨hx, hb, hml, hown, hts⟩ (k_X7_hasBit_7 l D cy ) ⟨va_cnB 2 hts gX6_meetsRing_X7_hasBit_n132 rfl rfl rfl (exP.nest hE (RX6, 132, yX7_hasBit, RX7) (by decide +kernel)) (hts (.initialized RX7) (List.mem_cons_of_mem _ (List.mem_append_left _ (List.mem_append_left _ (List.mem_append_left _ (List.mem_append_left _ (List.mem_of_getElem? (i := 20) rfl))))))) (by decide +kernel) ⟨(Nat.le_of_ble_eq_true rfl), (Nat.le_of_ble_eq_true rfl)⟩, (hts (.static yX7_hasBit) (List.mem_cons_of_mem _ (List.mem_append_left _ (List.mem_append_left _ (List.mem_append_left _ (List.mem_append_left _ (List.mem_of_getElem? (i := 19) rfl))))))), trivial⟩ ⟨kR_fb, (kR_go hPc hK)⟩ rfl rfl hl.1 rfl (lv_room (Nat.le_of_ble_eq_true rfl)) dX6_meetsRing_93 ⟨(Nat.le_of_ble_eq_true rfl), (Nat.le_of_ble_eq_true rfl)⟩) hS (fun _ _ h => h.elim) (fun _ h => h.elim) (fun r9 u t H locs ht hvm hw hB hz1 hk1 hS => ?_)
  have hP := kx_kept hP hk1
  obtain ⟨rfl, hw⟩ := hw
  refine lv_if_eq (tgt := 110) hx hb dX6_meetsRing_96 (by decide) (fun _ => ?_) (fun h => absurd (by decide) h)
  refine lv_iload hx hb dX6_meetsRing_110 (lv_at hl 1 rfl) ?_
  refine lv_istore (lv' := [(6, .int 0), (5, .int 7), (4, .int 0), (3, .int 7), (2, .int 0), (0, .ref h1), (1, .int 0)]) hx hb dX6_meetsRing_112 hl (by decide) rfl (fun ls hl => ?_)
  refine lv_iload hx hb dX6_meetsRing_114 (lv_at hl 0 rfl) ?_
  refine lv_iload hx hb dX6_meetsRing_116 (lv_at hl 2 rfl) ?_
  refine lv_icmp_eq (tgt := 134) hx hb dX6_meetsRing_118 (by decide) (fun _ => ?_) (fun h => absurd (by decide) h)
  refine lv_aload_n hx hb dX6_meetsRing_134 rfl (lv_at hl 5 rfl) ?_
  refine va_get (D := D) (ci := 8) (v := .ref h8) (C := RX6) (T := TX6) (N := 13) hx hb hts (fun _ h => (List.mem_cons_of_mem _ (List.mem_append_left _ (List.mem_append_left _ (List.mem_append_right _ h))))) hown hK hP 1 rfl rfl 6 (by decide) (hts (.fieldLink RX6 30 "SelfishJunction$Survey" "marks" "[I") (List.mem_cons_of_mem _ (List.mem_append_left _ (List.mem_append_left _ (List.mem_append_left _ (List.mem_append_left _ (List.mem_of_getElem? (i := 3) rfl))))))) (fun _ h9 => h9) rfl dX6_meetsRing_135 ?_
  refine lv_iload hx hb dX6_meetsRing_138 (lv_at hl 0 rfl) ?_
  refine va_iald hx hb hK hP 2 1 rfl rfl (kx_in 0 1000 rfl ⟨(Nat.le_of_ble_eq_true rfl), (Nat.le_of_ble_eq_true rfl)⟩ (Nat.le_of_ble_eq_true rfl)) dX6_meetsRing_140 ?_
  refine lv_topi (fun v_57 ev_57 => ?_)
  obtain rfl : v_57 = 1 := ev_57.trans rfl
  refine lv_iconst (v := 2) hx hb dX6_meetsRing_141 (by decide) ?_
  refine lv_icmp_ne (tgt := 156) hx hb dX6_meetsRing_142 (by decide) (fun _ => ?_) (fun h => absurd h (by decide))
  refine lv_iload hx hb dX6_meetsRing_156 (lv_at hl 0 rfl) ?_
  refine lv_iload hx hb dX6_meetsRing_158 (lv_at hl 2 rfl) ?_
  refine lv_icmp_eq (tgt := 173) hx hb dX6_meetsRing_160 (by decide) (fun _ => ?_) (fun h => absurd (by decide) h)
  refine lv_iinc (v := 8) (lv' := [(3, .int 8), (6, .int 0), (5, .int 7), (4, .int 0), (2, .int 0), (0, .ref h1), (1, .int 0)]) hx hb dX6_meetsRing_173 hl (k := 3) rfl (by decide) (by decide) rfl (fun ls hl => ?_)
  refine lv_goto (tgt := 10) hx hb dX6_meetsRing_176 (by decide) ?_
  refine lv_iload_n hx hb dX6_meetsRing_10 rfl (lv_at hl 0 rfl) ?_
  refine lv_ldc (v := 1000000) hx hb hown (hts (.constant RX6 128 (1000000)) (List.mem_cons_of_mem _ (List.mem_append_left _ (List.mem_append_left _ (List.mem_append_left _ (List.mem_append_left _ (List.mem_of_getElem? (i := 0) rfl))))))) dX6_meetsRing_11 ?_
  refine lv_icmp_ge (tgt := 179) hx hb dX6_meetsRing_13 (by decide) (fun h => absurd h (by decide)) (fun _ => ?_)
  refine lv_iload_n hx hb dX6_meetsRing_16 rfl (lv_at hl 4 rfl) ?_
  refine lv_if_lt (tgt := 179) hx hb dX6_meetsRing_17 (by decide) (fun h => absurd h (by decide)) (fun _ => ?_)
  refine lv_aload_n hx hb dX6_meetsRing_20 rfl (lv_at hl 5 rfl) ?_
  refine va_get (D := D) (ci := 8) (v := .ref h11) (C := RX6) (T := TX6) (N := 13) hx hb hts (fun _ h => (List.mem_cons_of_mem _ (List.mem_append_left _ (List.mem_append_left _ (List.mem_append_right _ h))))) hown hK hP 1 rfl rfl 9 (by decide) (hts (.fieldLink RX6 39 "SelfishJunction$Survey" "stack" "[I") (List.mem_cons_of_mem _ (List.mem_append_left _ (List.mem_append_left _ (List.mem_append_left _ (List.mem_append_left _ (List.mem_of_getElem? (i := 1) rfl))))))) (fun _ h9 => h9) rfl dX6_meetsRing_21 ?_
  refine lv_iload_n hx hb dX6_meetsRing_24 rfl (lv_at hl 4 rfl) ?_
  refine va_iald hx hb hK hP 5 1 rfl rfl (kx_in 0 1000 rfl ⟨(Nat.le_of_ble_eq_true rfl), (Nat.le_of_ble_eq_true rfl)⟩ (Nat.le_of_ble_eq_true rfl)) dX6_meetsRing_25 ?_
  refine lv_topi (fun v_58 ev_58 => ?_)
  obtain rfl : v_58 = 0 := ev_58.trans rfl
  refine lv_istore (lv' := [(4, .int 0), (3, .int 8), (6, .int 0), (5, .int 7), (2, .int 0), (0, .ref h1), (1, .int 0)]) hx hb dX6_meetsRing_26 hl (by decide) rfl (fun ls hl => ?_)
  refine lv_aload_n hx hb dX6_meetsRing_28 rfl (lv_at hl 5 rfl) ?_
  refine va_get (D := D) (ci := 8) (v := .ref h10) (C := RX6) (T := TX6) (N := 13) hx hb hts (fun _ h => (List.mem_cons_of_mem _ (List.mem_append_left _ (List.mem_append_left _ (List.mem_append_right _ h))))) hown hK hP 1 rfl rfl 8 (by decide) (hts (.fieldLink RX6 36 "SelfishJunction$Survey" "tried" "[I") (List.mem_cons_of_mem _ (List.mem_append_left _ (List.mem_append_left _ (List.mem_append_left _ (List.mem_append_left _ (List.mem_of_getElem? (i := 2) rfl))))))) (fun _ h9 => h9) rfl dX6_meetsRing_29 ?_
  refine lv_iload hx hb dX6_meetsRing_32 (lv_at hl 0 rfl) ?_
  refine va_iald hx hb hK hP 4 1 rfl rfl (kx_in 0 1000 rfl ⟨(Nat.le_of_ble_eq_true rfl), (Nat.le_of_ble_eq_true rfl)⟩ (Nat.le_of_ble_eq_true rfl)) dX6_meetsRing_34 ?_
  refine lv_topi (fun v_59 ev_59 => ?_)
  obtain rfl : v_59 = 8 := ev_59.trans rfl
  refine lv_bipush (v := 30) hx hb dX6_meetsRing_35 (by decide) ?_
  refine lv_icmp_lt (tgt := 70) hx hb dX6_meetsRing_37 (by decide) (fun _ => ?_) (fun h => absurd (by decide) h)
  refine lv_aload_n hx hb dX6_meetsRing_70 rfl (lv_at hl 5 rfl) ?_
  refine va_get (D := D) (ci := 8) (v := .ref h10) (C := RX6) (T := TX6) (N := 13) hx hb hts (fun _ h => (List.mem_cons_of_mem _ (List.mem_append_left _ (List.mem_append_left _ (List.mem_append_right _ h))))) hown hK hP 1 rfl rfl 8 (by decide) (hts (.fieldLink RX6 36 "SelfishJunction$Survey" "tried" "[I") (List.mem_cons_of_mem _ (List.mem_append_left _ (List.mem_append_left _ (List.mem_append_left _ (List.mem_append_left _ (List.mem_of_getElem? (i := 2) rfl))))))) (fun _ h9 => h9) rfl dX6_meetsRing_71 ?_
  refine lv_iload hx hb dX6_meetsRing_74 (lv_at hl 0 rfl) ?_
  refine lv_dup2_11 hx hb dX6_meetsRing_76 rfl rfl ?_
  refine va_iald hx hb hK hP 4 1 rfl rfl (kx_in 0 1000 rfl ⟨(Nat.le_of_ble_eq_true rfl), (Nat.le_of_ble_eq_true rfl)⟩ (Nat.le_of_ble_eq_true rfl)) dX6_meetsRing_77 ?_
  refine lv_topi (fun v_60 ev_60 => ?_)
  obtain rfl : v_60 = 8 := ev_60.trans rfl
  refine lv_dup_x2 hx hb dX6_meetsRing_78 rfl rfl rfl ?_
  refine lv_iconst (v := 1) hx hb dX6_meetsRing_79 (by decide) ?_
  refine lv_iadd hx hb dX6_meetsRing_80 ?_
  refine lv_topi (fun v_61 ev_61 => ?_)
  obtain rfl : v_61 = 9 := ev_61.trans (by decide)
  refine va_iast hx hb hK hP hD hS 4 1 rfl rfl (kx_in 0 1000 rfl ⟨(Nat.le_of_ble_eq_true rfl), (Nat.le_of_ble_eq_true rfl)⟩ (Nat.le_of_ble_eq_true rfl)) dX6_meetsRing_81 (fun H locs hP hD hS => ?_)
  have hP : va_P D vwCl [(h7, .inl (cy 1, 1000, .inl g15)), (h1, .inr (8, [x2, x3, x4, x5, x6, .ref h7, .ref h8, .ref h9, .ref h10, .ref h11, x12, x13, x14])), (h8, .inl (cy 1, 1000, .inl (upd g16 0 1))), (h9, .inl (cy 1, 1000, .inl (upd g17 0 0))), (h10, .inl (cy 1, 1000, .inl (upd (upd g18 0 8) 0 9))), (h11, .inl (cy 1, 1000, .inl (upd g19 0 0)))] H := hP
  have hD : va_D A [(h7, .inl (cy 1, 1000, .inl g15)), (h1, .inr (8, [x2, x3, x4, x5, x6, .ref h7, .ref h8, .ref h9, .ref h10, .ref h11, x12, x13, x14])), (h8, .inl (cy 1, 1000, .inl (upd g16 0 1))), (h9, .inl (cy 1, 1000, .inl (upd g17 0 0))), (h10, .inl (cy 1, 1000, .inl (upd (upd g18 0 8) 0 9))), (h11, .inl (cy 1, 1000, .inl (upd g19 0 0)))] := hD
  rw [kx_uu] at hP hD
  refine lv_istore (lv' := [(5, .int 8), (4, .int 0), (3, .int 8), (6, .int 0), (2, .int 0), (0, .ref h1), (1, .int 0)]) hx hb dX6_meetsRing_82 hl (by decide) rfl (fun ls hl => ?_)
  refine lv_aload_n hx hb dX6_meetsRing_84 rfl (lv_at hl 5 rfl) ?_
  refine va_get (D := D) (ci := 8) (v := .ref h7) (C := RX6) (T := TX6) (N := 13) hx hb hts (fun _ h => (List.mem_cons_of_mem _ (List.mem_append_left _ (List.mem_append_left _ (List.mem_append_right _ h))))) hown hK hP 1 rfl rfl 5 (by decide) (hts (.fieldLink RX6 27 "SelfishJunction$Survey" "moves" "[I") (List.mem_cons_of_mem _ (List.mem_append_left _ (List.mem_append_left _ (List.mem_append_left _ (List.mem_append_left _ (List.mem_of_getElem? (i := 4) rfl))))))) (fun _ h9 => h9) rfl dX6_meetsRing_85 ?_
  refine lv_iload hx hb dX6_meetsRing_88 (lv_at hl 1 rfl) ?_
  refine va_iald hx hb hK hP 0 1 rfl rfl (kx_in 0 1000 rfl ⟨(Nat.le_of_ble_eq_true rfl), (Nat.le_of_ble_eq_true rfl)⟩ (Nat.le_of_ble_eq_true rfl)) dX6_meetsRing_90 ?_
  refine lv_topi (fun v_62 ev_62 => ?_)
  obtain rfl : v_62 = 0 := ev_62.trans (kg15_0)
  refine lv_iload hx hb dX6_meetsRing_91 (lv_at hl 0 rfl) ?_
  have hPc := hP.sub (ws' := []) [] rfl
  refine va_calli (va_runSN (As := [.int 0, .int 8]) (rest := []) ⟨hx, hb, hml, hown, hts⟩ (k_X7_hasBit_8 l D cy ) ⟨va_cnB 2 hts gX6_meetsRing_X7_hasBit_n132 rfl rfl rfl (exP.nest hE (RX6, 132, yX7_hasBit, RX7) (by decide +kernel)) (hts (.initialized RX7) (List.mem_cons_of_mem _ (List.mem_append_left _ (List.mem_append_left _ (List.mem_append_left _ (List.mem_append_left _ (List.mem_of_getElem? (i := 20) rfl))))))) (by decide +kernel) ⟨(Nat.le_of_ble_eq_true rfl), (Nat.le_of_ble_eq_true rfl)⟩, (hts (.static yX7_hasBit) (List.mem_cons_of_mem _ (List.mem_append_left _ (List.mem_append_left _ (List.mem_append_left _ (List.mem_append_left _ (List.mem_of_getElem? (i := 19) rfl))))))), trivial⟩ ⟨kR_fb, (kR_go hPc hK)⟩ rfl rfl hl.1 rfl (lv_room (Nat.le_of_ble_eq_true rfl)) dX6_meetsRing_93 ⟨(Nat.le_of_ble_eq_true rfl), (Nat.le_of_ble_eq_true rfl)⟩) hS (fun _ _ h => h.elim) (fun _ h => h.elim) (fun r9 u t H locs ht hvm hw hB hz1 hk1 hS => ?_)
  have hP := kx_kept hP hk1
  obtain ⟨rfl, hw⟩ := hw
  refine lv_if_eq (tgt := 110) hx hb dX6_meetsRing_96 (by decide) (fun _ => ?_) (fun h => absurd (by decide) h)
  refine lv_iload hx hb dX6_meetsRing_110 (lv_at hl 1 rfl) ?_
  refine lv_istore (lv' := [(6, .int 0), (5, .int 8), (4, .int 0), (3, .int 8), (2, .int 0), (0, .ref h1), (1, .int 0)]) hx hb dX6_meetsRing_112 hl (by decide) rfl (fun ls hl => ?_)
  refine lv_iload hx hb dX6_meetsRing_114 (lv_at hl 0 rfl) ?_
  refine lv_iload hx hb dX6_meetsRing_116 (lv_at hl 2 rfl) ?_
  refine lv_icmp_eq (tgt := 134) hx hb dX6_meetsRing_118 (by decide) (fun _ => ?_) (fun h => absurd (by decide) h)
  refine lv_aload_n hx hb dX6_meetsRing_134 rfl (lv_at hl 5 rfl) ?_
  refine va_get (D := D) (ci := 8) (v := .ref h8) (C := RX6) (T := TX6) (N := 13) hx hb hts (fun _ h => (List.mem_cons_of_mem _ (List.mem_append_left _ (List.mem_append_left _ (List.mem_append_right _ h))))) hown hK hP 1 rfl rfl 6 (by decide) (hts (.fieldLink RX6 30 "SelfishJunction$Survey" "marks" "[I") (List.mem_cons_of_mem _ (List.mem_append_left _ (List.mem_append_left _ (List.mem_append_left _ (List.mem_append_left _ (List.mem_of_getElem? (i := 3) rfl))))))) (fun _ h9 => h9) rfl dX6_meetsRing_135 ?_
  refine lv_iload hx hb dX6_meetsRing_138 (lv_at hl 0 rfl) ?_
  refine va_iald hx hb hK hP 2 1 rfl rfl (kx_in 0 1000 rfl ⟨(Nat.le_of_ble_eq_true rfl), (Nat.le_of_ble_eq_true rfl)⟩ (Nat.le_of_ble_eq_true rfl)) dX6_meetsRing_140 ?_
  refine lv_topi (fun v_64 ev_64 => ?_)
  obtain rfl : v_64 = 1 := ev_64.trans rfl
  refine lv_iconst (v := 2) hx hb dX6_meetsRing_141 (by decide) ?_
  refine lv_icmp_ne (tgt := 156) hx hb dX6_meetsRing_142 (by decide) (fun _ => ?_) (fun h => absurd h (by decide))
  refine lv_iload hx hb dX6_meetsRing_156 (lv_at hl 0 rfl) ?_
  refine lv_iload hx hb dX6_meetsRing_158 (lv_at hl 2 rfl) ?_
  refine lv_icmp_eq (tgt := 173) hx hb dX6_meetsRing_160 (by decide) (fun _ => ?_) (fun h => absurd (by decide) h)
  refine lv_iinc (v := 9) (lv' := [(3, .int 9), (6, .int 0), (5, .int 8), (4, .int 0), (2, .int 0), (0, .ref h1), (1, .int 0)]) hx hb dX6_meetsRing_173 hl (k := 3) rfl (by decide) (by decide) rfl (fun ls hl => ?_)
  refine lv_goto (tgt := 10) hx hb dX6_meetsRing_176 (by decide) ?_
  refine lv_iload_n hx hb dX6_meetsRing_10 rfl (lv_at hl 0 rfl) ?_
  refine lv_ldc (v := 1000000) hx hb hown (hts (.constant RX6 128 (1000000)) (List.mem_cons_of_mem _ (List.mem_append_left _ (List.mem_append_left _ (List.mem_append_left _ (List.mem_append_left _ (List.mem_of_getElem? (i := 0) rfl))))))) dX6_meetsRing_11 ?_
  refine lv_icmp_ge (tgt := 179) hx hb dX6_meetsRing_13 (by decide) (fun h => absurd h (by decide)) (fun _ => ?_)
  refine lv_iload_n hx hb dX6_meetsRing_16 rfl (lv_at hl 4 rfl) ?_
  refine lv_if_lt (tgt := 179) hx hb dX6_meetsRing_17 (by decide) (fun h => absurd h (by decide)) (fun _ => ?_)
  refine lv_aload_n hx hb dX6_meetsRing_20 rfl (lv_at hl 5 rfl) ?_
  refine va_get (D := D) (ci := 8) (v := .ref h11) (C := RX6) (T := TX6) (N := 13) hx hb hts (fun _ h => (List.mem_cons_of_mem _ (List.mem_append_left _ (List.mem_append_left _ (List.mem_append_right _ h))))) hown hK hP 1 rfl rfl 9 (by decide) (hts (.fieldLink RX6 39 "SelfishJunction$Survey" "stack" "[I") (List.mem_cons_of_mem _ (List.mem_append_left _ (List.mem_append_left _ (List.mem_append_left _ (List.mem_append_left _ (List.mem_of_getElem? (i := 1) rfl))))))) (fun _ h9 => h9) rfl dX6_meetsRing_21 ?_
  refine lv_iload_n hx hb dX6_meetsRing_24 rfl (lv_at hl 4 rfl) ?_
  refine va_iald hx hb hK hP 5 1 rfl rfl (kx_in 0 1000 rfl ⟨(Nat.le_of_ble_eq_true rfl), (Nat.le_of_ble_eq_true rfl)⟩ (Nat.le_of_ble_eq_true rfl)) dX6_meetsRing_25 ?_
  refine lv_topi (fun v_65 ev_65 => ?_)
  obtain rfl : v_65 = 0 := ev_65.trans rfl
  refine lv_istore (lv' := [(4, .int 0), (3, .int 9), (6, .int 0), (5, .int 8), (2, .int 0), (0, .ref h1), (1, .int 0)]) hx hb dX6_meetsRing_26 hl (by decide) rfl (fun ls hl => ?_)
  refine lv_aload_n hx hb dX6_meetsRing_28 rfl (lv_at hl 5 rfl) ?_
  refine va_get (D := D) (ci := 8) (v := .ref h10) (C := RX6) (T := TX6) (N := 13) hx hb hts (fun _ h => (List.mem_cons_of_mem _ (List.mem_append_left _ (List.mem_append_left _ (List.mem_append_right _ h))))) hown hK hP 1 rfl rfl 8 (by decide) (hts (.fieldLink RX6 36 "SelfishJunction$Survey" "tried" "[I") (List.mem_cons_of_mem _ (List.mem_append_left _ (List.mem_append_left _ (List.mem_append_left _ (List.mem_append_left _ (List.mem_of_getElem? (i := 2) rfl))))))) (fun _ h9 => h9) rfl dX6_meetsRing_29 ?_
  refine lv_iload hx hb dX6_meetsRing_32 (lv_at hl 0 rfl) ?_
  refine va_iald hx hb hK hP 4 1 rfl rfl (kx_in 0 1000 rfl ⟨(Nat.le_of_ble_eq_true rfl), (Nat.le_of_ble_eq_true rfl)⟩ (Nat.le_of_ble_eq_true rfl)) dX6_meetsRing_34 ?_
  refine lv_topi (fun v_66 ev_66 => ?_)
  obtain rfl : v_66 = 9 := ev_66.trans rfl
  refine lv_bipush (v := 30) hx hb dX6_meetsRing_35 (by decide) ?_
  refine lv_icmp_lt (tgt := 70) hx hb dX6_meetsRing_37 (by decide) (fun _ => ?_) (fun h => absurd (by decide) h)
  refine lv_aload_n hx hb dX6_meetsRing_70 rfl (lv_at hl 5 rfl) ?_
  refine va_get (D := D) (ci := 8) (v := .ref h10) (C := RX6) (T := TX6) (N := 13) hx hb hts (fun _ h => (List.mem_cons_of_mem _ (List.mem_append_left _ (List.mem_append_left _ (List.mem_append_right _ h))))) hown hK hP 1 rfl rfl 8 (by decide) (hts (.fieldLink RX6 36 "SelfishJunction$Survey" "tried" "[I") (List.mem_cons_of_mem _ (List.mem_append_left _ (List.mem_append_left _ (List.mem_append_left _ (List.mem_append_left _ (List.mem_of_getElem? (i := 2) rfl))))))) (fun _ h9 => h9) rfl dX6_meetsRing_71 ?_
  refine lv_iload hx hb dX6_meetsRing_74 (lv_at hl 0 rfl) ?_
  refine lv_dup2_11 hx hb dX6_meetsRing_76 rfl rfl ?_
  refine va_iald hx hb hK hP 4 1 rfl rfl (kx_in 0 1000 rfl ⟨(Nat.le_of_ble_eq_true rfl), (Nat.le_of_ble_eq_true rfl)⟩ (Nat.le_of_ble_eq_true rfl)) dX6_meetsRing_77 ?_
  refine lv_topi (fun v_67 ev_67 => ?_)
  obtain rfl : v_67 = 9 := ev_67.trans rfl
  refine lv_dup_x2 hx hb dX6_meetsRing_78 rfl rfl rfl ?_
  refine lv_iconst (v := 1) hx hb dX6_meetsRing_79 (by decide) ?_
  refine lv_iadd hx hb dX6_meetsRing_80 ?_
  refine lv_topi (fun v_68 ev_68 => ?_)
  obtain rfl : v_68 = 10 := ev_68.trans (by decide)
  refine va_iast hx hb hK hP hD hS 4 1 rfl rfl (kx_in 0 1000 rfl ⟨(Nat.le_of_ble_eq_true rfl), (Nat.le_of_ble_eq_true rfl)⟩ (Nat.le_of_ble_eq_true rfl)) dX6_meetsRing_81 (fun H locs hP hD hS => ?_)
  have hP : va_P D vwCl [(h7, .inl (cy 1, 1000, .inl g15)), (h1, .inr (8, [x2, x3, x4, x5, x6, .ref h7, .ref h8, .ref h9, .ref h10, .ref h11, x12, x13, x14])), (h8, .inl (cy 1, 1000, .inl (upd g16 0 1))), (h9, .inl (cy 1, 1000, .inl (upd g17 0 0))), (h10, .inl (cy 1, 1000, .inl (upd (upd g18 0 9) 0 10))), (h11, .inl (cy 1, 1000, .inl (upd g19 0 0)))] H := hP
  have hD : va_D A [(h7, .inl (cy 1, 1000, .inl g15)), (h1, .inr (8, [x2, x3, x4, x5, x6, .ref h7, .ref h8, .ref h9, .ref h10, .ref h11, x12, x13, x14])), (h8, .inl (cy 1, 1000, .inl (upd g16 0 1))), (h9, .inl (cy 1, 1000, .inl (upd g17 0 0))), (h10, .inl (cy 1, 1000, .inl (upd (upd g18 0 9) 0 10))), (h11, .inl (cy 1, 1000, .inl (upd g19 0 0)))] := hD
  rw [kx_uu] at hP hD
  refine lv_istore (lv' := [(5, .int 9), (4, .int 0), (3, .int 9), (6, .int 0), (2, .int 0), (0, .ref h1), (1, .int 0)]) hx hb dX6_meetsRing_82 hl (by decide) rfl (fun ls hl => ?_)
  refine lv_aload_n hx hb dX6_meetsRing_84 rfl (lv_at hl 5 rfl) ?_
  refine va_get (D := D) (ci := 8) (v := .ref h7) (C := RX6) (T := TX6) (N := 13) hx hb hts (fun _ h => (List.mem_cons_of_mem _ (List.mem_append_left _ (List.mem_append_left _ (List.mem_append_right _ h))))) hown hK hP 1 rfl rfl 5 (by decide) (hts (.fieldLink RX6 27 "SelfishJunction$Survey" "moves" "[I") (List.mem_cons_of_mem _ (List.mem_append_left _ (List.mem_append_left _ (List.mem_append_left _ (List.mem_append_left _ (List.mem_of_getElem? (i := 4) rfl))))))) (fun _ h9 => h9) rfl dX6_meetsRing_85 ?_
  refine lv_iload hx hb dX6_meetsRing_88 (lv_at hl 1 rfl) ?_
  refine va_iald hx hb hK hP 0 1 rfl rfl (kx_in 0 1000 rfl ⟨(Nat.le_of_ble_eq_true rfl), (Nat.le_of_ble_eq_true rfl)⟩ (Nat.le_of_ble_eq_true rfl)) dX6_meetsRing_90 ?_
  refine lv_topi (fun v_69 ev_69 => ?_)
  obtain rfl : v_69 = 0 := ev_69.trans (kg15_0)
  refine lv_iload hx hb dX6_meetsRing_91 (lv_at hl 0 rfl) ?_
  have hPc := hP.sub (ws' := []) [] rfl
  refine va_calli (va_runSN (As := [.int 0, .int 9]) (rest := []) ⟨hx, hb, hml, hown, hts⟩ (k_X7_hasBit_9 l D cy ) ⟨va_cnB 2 hts gX6_meetsRing_X7_hasBit_n132 rfl rfl rfl (exP.nest hE (RX6, 132, yX7_hasBit, RX7) (by decide +kernel)) (hts (.initialized RX7) (List.mem_cons_of_mem _ (List.mem_append_left _ (List.mem_append_left _ (List.mem_append_left _ (List.mem_append_left _ (List.mem_of_getElem? (i := 20) rfl))))))) (by decide +kernel) ⟨(Nat.le_of_ble_eq_true rfl), (Nat.le_of_ble_eq_true rfl)⟩, (hts (.static yX7_hasBit) (List.mem_cons_of_mem _ (List.mem_append_left _ (List.mem_append_left _ (List.mem_append_left _ (List.mem_append_left _ (List.mem_of_getElem? (i := 19) rfl))))))), trivial⟩ ⟨kR_fb, (kR_go hPc hK)⟩ rfl rfl hl.1 rfl (lv_room (Nat.le_of_ble_eq_true rfl)) dX6_meetsRing_93 ⟨(Nat.le_of_ble_eq_true rfl), (Nat.le_of_ble_eq_true rfl)⟩) hS (fun _ _ h => h.elim) (fun _ h => h.elim) (fun r9 u t H locs ht hvm hw hB hz1 hk1 hS => ?_)
  have hP := kx_kept hP hk1
  obtain ⟨rfl, hw⟩ := hw
  refine lv_if_eq (tgt := 110) hx hb dX6_meetsRing_96 (by decide) (fun _ => ?_) (fun h => absurd (by decide) h)
  refine lv_iload hx hb dX6_meetsRing_110 (lv_at hl 1 rfl) ?_
  refine lv_istore (lv' := [(6, .int 0), (5, .int 9), (4, .int 0), (3, .int 9), (2, .int 0), (0, .ref h1), (1, .int 0)]) hx hb dX6_meetsRing_112 hl (by decide) rfl (fun ls hl => ?_)
  refine lv_iload hx hb dX6_meetsRing_114 (lv_at hl 0 rfl) ?_
  refine lv_iload hx hb dX6_meetsRing_116 (lv_at hl 2 rfl) ?_
  refine lv_icmp_eq (tgt := 134) hx hb dX6_meetsRing_118 (by decide) (fun _ => ?_) (fun h => absurd (by decide) h)
  refine lv_aload_n hx hb dX6_meetsRing_134 rfl (lv_at hl 5 rfl) ?_
  refine va_get (D := D) (ci := 8) (v := .ref h8) (C := RX6) (T := TX6) (N := 13) hx hb hts (fun _ h => (List.mem_cons_of_mem _ (List.mem_append_left _ (List.mem_append_left _ (List.mem_append_right _ h))))) hown hK hP 1 rfl rfl 6 (by decide) (hts (.fieldLink RX6 30 "SelfishJunction$Survey" "marks" "[I") (List.mem_cons_of_mem _ (List.mem_append_left _ (List.mem_append_left _ (List.mem_append_left _ (List.mem_append_left _ (List.mem_of_getElem? (i := 3) rfl))))))) (fun _ h9 => h9) rfl dX6_meetsRing_135 ?_
  refine lv_iload hx hb dX6_meetsRing_138 (lv_at hl 0 rfl) ?_
  refine va_iald hx hb hK hP 2 1 rfl rfl (kx_in 0 1000 rfl ⟨(Nat.le_of_ble_eq_true rfl), (Nat.le_of_ble_eq_true rfl)⟩ (Nat.le_of_ble_eq_true rfl)) dX6_meetsRing_140 ?_
  refine lv_topi (fun v_71 ev_71 => ?_)
  obtain rfl : v_71 = 1 := ev_71.trans rfl
  refine lv_iconst (v := 2) hx hb dX6_meetsRing_141 (by decide) ?_
  refine lv_icmp_ne (tgt := 156) hx hb dX6_meetsRing_142 (by decide) (fun _ => ?_) (fun h => absurd h (by decide))
  refine lv_iload hx hb dX6_meetsRing_156 (lv_at hl 0 rfl) ?_
  refine lv_iload hx hb dX6_meetsRing_158 (lv_at hl 2 rfl) ?_
  refine lv_icmp_eq (tgt := 173) hx hb dX6_meetsRing_160 (by decide) (fun _ => ?_) (fun h => absurd (by decide) h)
  refine lv_iinc (v := 10) (lv' := [(3, .int 10), (6, .int 0), (5, .int 9), (4, .int 0), (2, .int 0), (0, .ref h1), (1, .int 0)]) hx hb dX6_meetsRing_173 hl (k := 3) rfl (by decide) (by decide) rfl (fun ls hl => ?_)
  refine lv_goto (tgt := 10) hx hb dX6_meetsRing_176 (by decide) ?_
  refine lv_iload_n hx hb dX6_meetsRing_10 rfl (lv_at hl 0 rfl) ?_
  refine lv_ldc (v := 1000000) hx hb hown (hts (.constant RX6 128 (1000000)) (List.mem_cons_of_mem _ (List.mem_append_left _ (List.mem_append_left _ (List.mem_append_left _ (List.mem_append_left _ (List.mem_of_getElem? (i := 0) rfl))))))) dX6_meetsRing_11 ?_
  refine lv_icmp_ge (tgt := 179) hx hb dX6_meetsRing_13 (by decide) (fun h => absurd h (by decide)) (fun _ => ?_)
  refine lv_iload_n hx hb dX6_meetsRing_16 rfl (lv_at hl 4 rfl) ?_
  refine lv_if_lt (tgt := 179) hx hb dX6_meetsRing_17 (by decide) (fun h => absurd h (by decide)) (fun _ => ?_)
  refine lv_aload_n hx hb dX6_meetsRing_20 rfl (lv_at hl 5 rfl) ?_
  refine va_get (D := D) (ci := 8) (v := .ref h11) (C := RX6) (T := TX6) (N := 13) hx hb hts (fun _ h => (List.mem_cons_of_mem _ (List.mem_append_left _ (List.mem_append_left _ (List.mem_append_right _ h))))) hown hK hP 1 rfl rfl 9 (by decide) (hts (.fieldLink RX6 39 "SelfishJunction$Survey" "stack" "[I") (List.mem_cons_of_mem _ (List.mem_append_left _ (List.mem_append_left _ (List.mem_append_left _ (List.mem_append_left _ (List.mem_of_getElem? (i := 1) rfl))))))) (fun _ h9 => h9) rfl dX6_meetsRing_21 ?_
  refine lv_iload_n hx hb dX6_meetsRing_24 rfl (lv_at hl 4 rfl) ?_
  refine va_iald hx hb hK hP 5 1 rfl rfl (kx_in 0 1000 rfl ⟨(Nat.le_of_ble_eq_true rfl), (Nat.le_of_ble_eq_true rfl)⟩ (Nat.le_of_ble_eq_true rfl)) dX6_meetsRing_25 ?_
  refine lv_topi (fun v_72 ev_72 => ?_)
  obtain rfl : v_72 = 0 := ev_72.trans rfl
  refine lv_istore (lv' := [(4, .int 0), (3, .int 10), (6, .int 0), (5, .int 9), (2, .int 0), (0, .ref h1), (1, .int 0)]) hx hb dX6_meetsRing_26 hl (by decide) rfl (fun ls hl => ?_)
  refine lv_aload_n hx hb dX6_meetsRing_28 rfl (lv_at hl 5 rfl) ?_
  refine va_get (D := D) (ci := 8) (v := .ref h10) (C := RX6) (T := TX6) (N := 13) hx hb hts (fun _ h => (List.mem_cons_of_mem _ (List.mem_append_left _ (List.mem_append_left _ (List.mem_append_right _ h))))) hown hK hP 1 rfl rfl 8 (by decide) (hts (.fieldLink RX6 36 "SelfishJunction$Survey" "tried" "[I") (List.mem_cons_of_mem _ (List.mem_append_left _ (List.mem_append_left _ (List.mem_append_left _ (List.mem_append_left _ (List.mem_of_getElem? (i := 2) rfl))))))) (fun _ h9 => h9) rfl dX6_meetsRing_29 ?_
  refine lv_iload hx hb dX6_meetsRing_32 (lv_at hl 0 rfl) ?_
  refine va_iald hx hb hK hP 4 1 rfl rfl (kx_in 0 1000 rfl ⟨(Nat.le_of_ble_eq_true rfl), (Nat.le_of_ble_eq_true rfl)⟩ (Nat.le_of_ble_eq_true rfl)) dX6_meetsRing_34 ?_
  refine lv_topi (fun v_73 ev_73 => ?_)
  obtain rfl : v_73 = 10 := ev_73.trans rfl
  refine lv_bipush (v := 30) hx hb dX6_meetsRing_35 (by decide) ?_
  refine lv_icmp_lt (tgt := 70) hx hb dX6_meetsRing_37 (by decide) (fun _ => ?_) (fun h => absurd (by decide) h)
  refine lv_aload_n hx hb dX6_meetsRing_70 rfl (lv_at hl 5 rfl) ?_
  refine va_get (D := D) (ci := 8) (v := .ref h10) (C := RX6) (T := TX6) (N := 13) hx hb hts (fun _ h => (List.mem_cons_of_mem _ (List.mem_append_left _ (List.mem_append_left _ (List.mem_append_right _ h))))) hown hK hP 1 rfl rfl 8 (by decide) (hts (.fieldLink RX6 36 "SelfishJunction$Survey" "tried" "[I") (List.mem_cons_of_mem _ (List.mem_append_left _ (List.mem_append_left _ (List.mem_append_left _ (List.mem_append_left _ (List.mem_of_getElem? (i := 2) rfl))))))) (fun _ h9 => h9) rfl dX6_meetsRing_71 ?_
  refine lv_iload hx hb dX6_meetsRing_74 (lv_at hl 0 rfl) ?_
  refine lv_dup2_11 hx hb dX6_meetsRing_76 rfl rfl ?_
  refine va_iald hx hb hK hP 4 1 rfl rfl (kx_in 0 1000 rfl ⟨(Nat.le_of_ble_eq_true rfl), (Nat.le_of_ble_eq_true rfl)⟩ (Nat.le_of_ble_eq_true rfl)) dX6_meetsRing_77 ?_
  refine lv_topi (fun v_74 ev_74 => ?_)
  obtain rfl : v_74 = 10 := ev_74.trans rfl
  refine lv_dup_x2 hx hb dX6_meetsRing_78 rfl rfl rfl ?_
  refine lv_iconst (v := 1) hx hb dX6_meetsRing_79 (by decide) ?_
  refine lv_iadd hx hb dX6_meetsRing_80 ?_
  refine lv_topi (fun v_75 ev_75 => ?_)
  obtain rfl : v_75 = 11 := ev_75.trans (by decide)
  refine va_iast hx hb hK hP hD hS 4 1 rfl rfl (kx_in 0 1000 rfl ⟨(Nat.le_of_ble_eq_true rfl), (Nat.le_of_ble_eq_true rfl)⟩ (Nat.le_of_ble_eq_true rfl)) dX6_meetsRing_81 (fun H locs hP hD hS => ?_)
  have hP : va_P D vwCl [(h7, .inl (cy 1, 1000, .inl g15)), (h1, .inr (8, [x2, x3, x4, x5, x6, .ref h7, .ref h8, .ref h9, .ref h10, .ref h11, x12, x13, x14])), (h8, .inl (cy 1, 1000, .inl (upd g16 0 1))), (h9, .inl (cy 1, 1000, .inl (upd g17 0 0))), (h10, .inl (cy 1, 1000, .inl (upd (upd g18 0 10) 0 11))), (h11, .inl (cy 1, 1000, .inl (upd g19 0 0)))] H := hP
  have hD : va_D A [(h7, .inl (cy 1, 1000, .inl g15)), (h1, .inr (8, [x2, x3, x4, x5, x6, .ref h7, .ref h8, .ref h9, .ref h10, .ref h11, x12, x13, x14])), (h8, .inl (cy 1, 1000, .inl (upd g16 0 1))), (h9, .inl (cy 1, 1000, .inl (upd g17 0 0))), (h10, .inl (cy 1, 1000, .inl (upd (upd g18 0 10) 0 11))), (h11, .inl (cy 1, 1000, .inl (upd g19 0 0)))] := hD
  rw [kx_uu] at hP hD
  refine lv_istore (lv' := [(5, .int 10), (4, .int 0), (3, .int 10), (6, .int 0), (2, .int 0), (0, .ref h1), (1, .int 0)]) hx hb dX6_meetsRing_82 hl (by decide) rfl (fun ls hl => ?_)
  refine lv_aload_n hx hb dX6_meetsRing_84 rfl (lv_at hl 5 rfl) ?_
  refine va_get (D := D) (ci := 8) (v := .ref h7) (C := RX6) (T := TX6) (N := 13) hx hb hts (fun _ h => (List.mem_cons_of_mem _ (List.mem_append_left _ (List.mem_append_left _ (List.mem_append_right _ h))))) hown hK hP 1 rfl rfl 5 (by decide) (hts (.fieldLink RX6 27 "SelfishJunction$Survey" "moves" "[I") (List.mem_cons_of_mem _ (List.mem_append_left _ (List.mem_append_left _ (List.mem_append_left _ (List.mem_append_left _ (List.mem_of_getElem? (i := 4) rfl))))))) (fun _ h9 => h9) rfl dX6_meetsRing_85 ?_
  refine lv_iload hx hb dX6_meetsRing_88 (lv_at hl 1 rfl) ?_
  refine va_iald hx hb hK hP 0 1 rfl rfl (kx_in 0 1000 rfl ⟨(Nat.le_of_ble_eq_true rfl), (Nat.le_of_ble_eq_true rfl)⟩ (Nat.le_of_ble_eq_true rfl)) dX6_meetsRing_90 ?_
  refine lv_topi (fun v_76 ev_76 => ?_)
  obtain rfl : v_76 = 0 := ev_76.trans (kg15_0)
  refine lv_iload hx hb dX6_meetsRing_91 (lv_at hl 0 rfl) ?_
  have hPc := hP.sub (ws' := []) [] rfl
  refine va_calli (va_runSN (As := [.int 0, .int 10]) (rest := []) ⟨hx, hb, hml, hown, hts⟩ (k_X7_hasBit_10 l D cy ) ⟨va_cnB 2 hts gX6_meetsRing_X7_hasBit_n132 rfl rfl rfl (exP.nest hE (RX6, 132, yX7_hasBit, RX7) (by decide +kernel)) (hts (.initialized RX7) (List.mem_cons_of_mem _ (List.mem_append_left _ (List.mem_append_left _ (List.mem_append_left _ (List.mem_append_left _ (List.mem_of_getElem? (i := 20) rfl))))))) (by decide +kernel) ⟨(Nat.le_of_ble_eq_true rfl), (Nat.le_of_ble_eq_true rfl)⟩, (hts (.static yX7_hasBit) (List.mem_cons_of_mem _ (List.mem_append_left _ (List.mem_append_left _ (List.mem_append_left _ (List.mem_append_left _ (List.mem_of_getElem? (i := 19) rfl))))))), trivial⟩ ⟨kR_fb, (kR_go hPc hK)⟩ rfl rfl hl.1 rfl (lv_room (Nat.le_of_ble_eq_true rfl)) dX6_meetsRing_93 ⟨(Nat.le_of_ble_eq_true rfl), (Nat.le_of_ble_eq_true rfl)⟩) hS (fun _ _ h => h.elim) (fun _ h => h.elim) (fun r9 u t H locs ht hvm hw hB hz1 hk1 hS => ?_)
  have hP := kx_kept hP hk1
  obtain ⟨rfl, hw⟩ := hw
  refine lv_if_eq (tgt := 110) hx hb dX6_meetsRing_96 (by decide) (fun _ => ?_) (fun h => absurd (by decide) h)
  refine lv_iload hx hb dX6_meetsRing_110 (lv_at hl 1 rfl) ?_
  refine lv_istore (lv' := [(6, .int 0), (5, .int 10), (4, .int 0), (3, .int 10), (2, .int 0), (0, .ref h1), (1, .int 0)]) hx hb dX6_meetsRing_112 hl (by decide) rfl (fun ls hl => ?_)
  refine lv_iload hx hb dX6_meetsRing_114 (lv_at hl 0 rfl) ?_
  refine lv_iload hx hb dX6_meetsRing_116 (lv_at hl 2 rfl) ?_
  refine lv_icmp_eq (tgt := 134) hx hb dX6_meetsRing_118 (by decide) (fun _ => ?_) (fun h => absurd (by decide) h)
  refine lv_aload_n hx hb dX6_meetsRing_134 rfl (lv_at hl 5 rfl) ?_
  refine va_get (D := D) (ci := 8) (v := .ref h8) (C := RX6) (T := TX6) (N := 13) hx hb hts (fun _ h => (List.mem_cons_of_mem _ (List.mem_append_left _ (List.mem_append_left _ (List.mem_append_right _ h))))) hown hK hP 1 rfl rfl 6 (by decide) (hts (.fieldLink RX6 30 "SelfishJunction$Survey" "marks" "[I") (List.mem_cons_of_mem _ (List.mem_append_left _ (List.mem_append_left _ (List.mem_append_left _ (List.mem_append_left _ (List.mem_of_getElem? (i := 3) rfl))))))) (fun _ h9 => h9) rfl dX6_meetsRing_135 ?_
  refine lv_iload hx hb dX6_meetsRing_138 (lv_at hl 0 rfl) ?_
  refine va_iald hx hb hK hP 2 1 rfl rfl (kx_in 0 1000 rfl ⟨(Nat.le_of_ble_eq_true rfl), (Nat.le_of_ble_eq_true rfl)⟩ (Nat.le_of_ble_eq_true rfl)) dX6_meetsRing_140 ?_
  refine lv_topi (fun v_78 ev_78 => ?_)
  obtain rfl : v_78 = 1 := ev_78.trans rfl
  refine lv_iconst (v := 2) hx hb dX6_meetsRing_141 (by decide) ?_
  refine lv_icmp_ne (tgt := 156) hx hb dX6_meetsRing_142 (by decide) (fun _ => ?_) (fun h => absurd h (by decide))
  refine lv_iload hx hb dX6_meetsRing_156 (lv_at hl 0 rfl) ?_
  refine lv_iload hx hb dX6_meetsRing_158 (lv_at hl 2 rfl) ?_
  refine lv_icmp_eq (tgt := 173) hx hb dX6_meetsRing_160 (by decide) (fun _ => ?_) (fun h => absurd (by decide) h)
  refine lv_iinc (v := 11) (lv' := [(3, .int 11), (6, .int 0), (5, .int 10), (4, .int 0), (2, .int 0), (0, .ref h1), (1, .int 0)]) hx hb dX6_meetsRing_173 hl (k := 3) rfl (by decide) (by decide) rfl (fun ls hl => ?_)
  refine lv_goto (tgt := 10) hx hb dX6_meetsRing_176 (by decide) ?_
  refine lv_iload_n hx hb dX6_meetsRing_10 rfl (lv_at hl 0 rfl) ?_
  refine lv_ldc (v := 1000000) hx hb hown (hts (.constant RX6 128 (1000000)) (List.mem_cons_of_mem _ (List.mem_append_left _ (List.mem_append_left _ (List.mem_append_left _ (List.mem_append_left _ (List.mem_of_getElem? (i := 0) rfl))))))) dX6_meetsRing_11 ?_
  refine lv_icmp_ge (tgt := 179) hx hb dX6_meetsRing_13 (by decide) (fun h => absurd h (by decide)) (fun _ => ?_)
  refine lv_iload_n hx hb dX6_meetsRing_16 rfl (lv_at hl 4 rfl) ?_
  refine lv_if_lt (tgt := 179) hx hb dX6_meetsRing_17 (by decide) (fun h => absurd h (by decide)) (fun _ => ?_)
  refine lv_aload_n hx hb dX6_meetsRing_20 rfl (lv_at hl 5 rfl) ?_
  refine va_get (D := D) (ci := 8) (v := .ref h11) (C := RX6) (T := TX6) (N := 13) hx hb hts (fun _ h => (List.mem_cons_of_mem _ (List.mem_append_left _ (List.mem_append_left _ (List.mem_append_right _ h))))) hown hK hP 1 rfl rfl 9 (by decide) (hts (.fieldLink RX6 39 "SelfishJunction$Survey" "stack" "[I") (List.mem_cons_of_mem _ (List.mem_append_left _ (List.mem_append_left _ (List.mem_append_left _ (List.mem_append_left _ (List.mem_of_getElem? (i := 1) rfl))))))) (fun _ h9 => h9) rfl dX6_meetsRing_21 ?_
  refine lv_iload_n hx hb dX6_meetsRing_24 rfl (lv_at hl 4 rfl) ?_
  refine va_iald hx hb hK hP 5 1 rfl rfl (kx_in 0 1000 rfl ⟨(Nat.le_of_ble_eq_true rfl), (Nat.le_of_ble_eq_true rfl)⟩ (Nat.le_of_ble_eq_true rfl)) dX6_meetsRing_25 ?_
  refine lv_topi (fun v_79 ev_79 => ?_)
  obtain rfl : v_79 = 0 := ev_79.trans rfl
  refine lv_istore (lv' := [(4, .int 0), (3, .int 11), (6, .int 0), (5, .int 10), (2, .int 0), (0, .ref h1), (1, .int 0)]) hx hb dX6_meetsRing_26 hl (by decide) rfl (fun ls hl => ?_)
  refine lv_aload_n hx hb dX6_meetsRing_28 rfl (lv_at hl 5 rfl) ?_
  refine va_get (D := D) (ci := 8) (v := .ref h10) (C := RX6) (T := TX6) (N := 13) hx hb hts (fun _ h => (List.mem_cons_of_mem _ (List.mem_append_left _ (List.mem_append_left _ (List.mem_append_right _ h))))) hown hK hP 1 rfl rfl 8 (by decide) (hts (.fieldLink RX6 36 "SelfishJunction$Survey" "tried" "[I") (List.mem_cons_of_mem _ (List.mem_append_left _ (List.mem_append_left _ (List.mem_append_left _ (List.mem_append_left _ (List.mem_of_getElem? (i := 2) rfl))))))) (fun _ h9 => h9) rfl dX6_meetsRing_29 ?_
  refine lv_iload hx hb dX6_meetsRing_32 (lv_at hl 0 rfl) ?_
  refine va_iald hx hb hK hP 4 1 rfl rfl (kx_in 0 1000 rfl ⟨(Nat.le_of_ble_eq_true rfl), (Nat.le_of_ble_eq_true rfl)⟩ (Nat.le_of_ble_eq_true rfl)) dX6_meetsRing_34 ?_
  refine lv_topi (fun v_80 ev_80 => ?_)
  obtain rfl : v_80 = 11 := ev_80.trans rfl
  refine lv_bipush (v := 30) hx hb dX6_meetsRing_35 (by decide) ?_
  refine lv_icmp_lt (tgt := 70) hx hb dX6_meetsRing_37 (by decide) (fun _ => ?_) (fun h => absurd (by decide) h)
  refine lv_aload_n hx hb dX6_meetsRing_70 rfl (lv_at hl 5 rfl) ?_
  refine va_get (D := D) (ci := 8) (v := .ref h10) (C := RX6) (T := TX6) (N := 13) hx hb hts (fun _ h => (List.mem_cons_of_mem _ (List.mem_append_left _ (List.mem_append_left _ (List.mem_append_right _ h))))) hown hK hP 1 rfl rfl 8 (by decide) (hts (.fieldLink RX6 36 "SelfishJunction$Survey" "tried" "[I") (List.mem_cons_of_mem _ (List.mem_append_left _ (List.mem_append_left _ (List.mem_append_left _ (List.mem_append_left _ (List.mem_of_getElem? (i := 2) rfl))))))) (fun _ h9 => h9) rfl dX6_meetsRing_71 ?_
  refine lv_iload hx hb dX6_meetsRing_74 (lv_at hl 0 rfl) ?_
  refine lv_dup2_11 hx hb dX6_meetsRing_76 rfl rfl ?_
  refine va_iald hx hb hK hP 4 1 rfl rfl (kx_in 0 1000 rfl ⟨(Nat.le_of_ble_eq_true rfl), (Nat.le_of_ble_eq_true rfl)⟩ (Nat.le_of_ble_eq_true rfl)) dX6_meetsRing_77 ?_
  refine lv_topi (fun v_81 ev_81 => ?_)
  obtain rfl : v_81 = 11 := ev_81.trans rfl
  refine lv_dup_x2 hx hb dX6_meetsRing_78 rfl rfl rfl ?_
  refine lv_iconst (v := 1) hx hb dX6_meetsRing_79 (by decide) ?_
  refine lv_iadd hx hb dX6_meetsRing_80 ?_
  refine lv_topi (fun v_82 ev_82 => ?_)
  obtain rfl : v_82 = 12 := ev_82.trans (by decide)
  refine va_iast hx hb hK hP hD hS 4 1 rfl rfl (kx_in 0 1000 rfl ⟨(Nat.le_of_ble_eq_true rfl), (Nat.le_of_ble_eq_true rfl)⟩ (Nat.le_of_ble_eq_true rfl)) dX6_meetsRing_81 (fun H locs hP hD hS => ?_)
  have hP : va_P D vwCl [(h7, .inl (cy 1, 1000, .inl g15)), (h1, .inr (8, [x2, x3, x4, x5, x6, .ref h7, .ref h8, .ref h9, .ref h10, .ref h11, x12, x13, x14])), (h8, .inl (cy 1, 1000, .inl (upd g16 0 1))), (h9, .inl (cy 1, 1000, .inl (upd g17 0 0))), (h10, .inl (cy 1, 1000, .inl (upd (upd g18 0 11) 0 12))), (h11, .inl (cy 1, 1000, .inl (upd g19 0 0)))] H := hP
  have hD : va_D A [(h7, .inl (cy 1, 1000, .inl g15)), (h1, .inr (8, [x2, x3, x4, x5, x6, .ref h7, .ref h8, .ref h9, .ref h10, .ref h11, x12, x13, x14])), (h8, .inl (cy 1, 1000, .inl (upd g16 0 1))), (h9, .inl (cy 1, 1000, .inl (upd g17 0 0))), (h10, .inl (cy 1, 1000, .inl (upd (upd g18 0 11) 0 12))), (h11, .inl (cy 1, 1000, .inl (upd g19 0 0)))] := hD
  rw [kx_uu] at hP hD
  refine lv_istore (lv' := [(5, .int 11), (4, .int 0), (3, .int 11), (6, .int 0), (2, .int 0), (0, .ref h1), (1, .int 0)]) hx hb dX6_meetsRing_82 hl (by decide) rfl (fun ls hl => ?_)
  refine lv_aload_n hx hb dX6_meetsRing_84 rfl (lv_at hl 5 rfl) ?_
  refine va_get (D := D) (ci := 8) (v := .ref h7) (C := RX6) (T := TX6) (N := 13) hx hb hts (fun _ h => (List.mem_cons_of_mem _ (List.mem_append_left _ (List.mem_append_left _ (List.mem_append_right _ h))))) hown hK hP 1 rfl rfl 5 (by decide) (hts (.fieldLink RX6 27 "SelfishJunction$Survey" "moves" "[I") (List.mem_cons_of_mem _ (List.mem_append_left _ (List.mem_append_left _ (List.mem_append_left _ (List.mem_append_left _ (List.mem_of_getElem? (i := 4) rfl))))))) (fun _ h9 => h9) rfl dX6_meetsRing_85 ?_
  refine lv_iload hx hb dX6_meetsRing_88 (lv_at hl 1 rfl) ?_
  refine va_iald hx hb hK hP 0 1 rfl rfl (kx_in 0 1000 rfl ⟨(Nat.le_of_ble_eq_true rfl), (Nat.le_of_ble_eq_true rfl)⟩ (Nat.le_of_ble_eq_true rfl)) dX6_meetsRing_90 ?_
  refine lv_topi (fun v_83 ev_83 => ?_)
  obtain rfl : v_83 = 0 := ev_83.trans (kg15_0)
  refine lv_iload hx hb dX6_meetsRing_91 (lv_at hl 0 rfl) ?_
  have hPc := hP.sub (ws' := []) [] rfl
  refine va_calli (va_runSN (As := [.int 0, .int 11]) (rest := []) ⟨hx, hb, hml, hown, hts⟩ (k_X7_hasBit_11 l D cy ) ⟨va_cnB 2 hts gX6_meetsRing_X7_hasBit_n132 rfl rfl rfl (exP.nest hE (RX6, 132, yX7_hasBit, RX7) (by decide +kernel)) (hts (.initialized RX7) (List.mem_cons_of_mem _ (List.mem_append_left _ (List.mem_append_left _ (List.mem_append_left _ (List.mem_append_left _ (List.mem_of_getElem? (i := 20) rfl))))))) (by decide +kernel) ⟨(Nat.le_of_ble_eq_true rfl), (Nat.le_of_ble_eq_true rfl)⟩, (hts (.static yX7_hasBit) (List.mem_cons_of_mem _ (List.mem_append_left _ (List.mem_append_left _ (List.mem_append_left _ (List.mem_append_left _ (List.mem_of_getElem? (i := 19) rfl))))))), trivial⟩ ⟨kR_fb, (kR_go hPc hK)⟩ rfl rfl hl.1 rfl (lv_room (Nat.le_of_ble_eq_true rfl)) dX6_meetsRing_93 ⟨(Nat.le_of_ble_eq_true rfl), (Nat.le_of_ble_eq_true rfl)⟩) hS (fun _ _ h => h.elim) (fun _ h => h.elim) (fun r9 u t H locs ht hvm hw hB hz1 hk1 hS => ?_)
  have hP := kx_kept hP hk1
  obtain ⟨rfl, hw⟩ := hw
  refine lv_if_eq (tgt := 110) hx hb dX6_meetsRing_96 (by decide) (fun _ => ?_) (fun h => absurd (by decide) h)
  refine lv_iload hx hb dX6_meetsRing_110 (lv_at hl 1 rfl) ?_
  refine lv_istore (lv' := [(6, .int 0), (5, .int 11), (4, .int 0), (3, .int 11), (2, .int 0), (0, .ref h1), (1, .int 0)]) hx hb dX6_meetsRing_112 hl (by decide) rfl (fun ls hl => ?_)
  refine lv_iload hx hb dX6_meetsRing_114 (lv_at hl 0 rfl) ?_
  refine lv_iload hx hb dX6_meetsRing_116 (lv_at hl 2 rfl) ?_
  refine lv_icmp_eq (tgt := 134) hx hb dX6_meetsRing_118 (by decide) (fun _ => ?_) (fun h => absurd (by decide) h)
  refine lv_aload_n hx hb dX6_meetsRing_134 rfl (lv_at hl 5 rfl) ?_
  refine va_get (D := D) (ci := 8) (v := .ref h8) (C := RX6) (T := TX6) (N := 13) hx hb hts (fun _ h => (List.mem_cons_of_mem _ (List.mem_append_left _ (List.mem_append_left _ (List.mem_append_right _ h))))) hown hK hP 1 rfl rfl 6 (by decide) (hts (.fieldLink RX6 30 "SelfishJunction$Survey" "marks" "[I") (List.mem_cons_of_mem _ (List.mem_append_left _ (List.mem_append_left _ (List.mem_append_left _ (List.mem_append_left _ (List.mem_of_getElem? (i := 3) rfl))))))) (fun _ h9 => h9) rfl dX6_meetsRing_135 ?_
  refine lv_iload hx hb dX6_meetsRing_138 (lv_at hl 0 rfl) ?_
  refine va_iald hx hb hK hP 2 1 rfl rfl (kx_in 0 1000 rfl ⟨(Nat.le_of_ble_eq_true rfl), (Nat.le_of_ble_eq_true rfl)⟩ (Nat.le_of_ble_eq_true rfl)) dX6_meetsRing_140 ?_
  refine lv_topi (fun v_85 ev_85 => ?_)
  obtain rfl : v_85 = 1 := ev_85.trans rfl
  refine lv_iconst (v := 2) hx hb dX6_meetsRing_141 (by decide) ?_
  refine lv_icmp_ne (tgt := 156) hx hb dX6_meetsRing_142 (by decide) (fun _ => ?_) (fun h => absurd h (by decide))
  refine lv_iload hx hb dX6_meetsRing_156 (lv_at hl 0 rfl) ?_
  refine lv_iload hx hb dX6_meetsRing_158 (lv_at hl 2 rfl) ?_
  refine lv_icmp_eq (tgt := 173) hx hb dX6_meetsRing_160 (by decide) (fun _ => ?_) (fun h => absurd (by decide) h)
  refine lv_iinc (v := 12) (lv' := [(3, .int 12), (6, .int 0), (5, .int 11), (4, .int 0), (2, .int 0), (0, .ref h1), (1, .int 0)]) hx hb dX6_meetsRing_173 hl (k := 3) rfl (by decide) (by decide) rfl (fun ls hl => ?_)
  refine lv_goto (tgt := 10) hx hb dX6_meetsRing_176 (by decide) ?_
  refine lv_iload_n hx hb dX6_meetsRing_10 rfl (lv_at hl 0 rfl) ?_
  refine lv_ldc (v := 1000000) hx hb hown (hts (.constant RX6 128 (1000000)) (List.mem_cons_of_mem _ (List.mem_append_left _ (List.mem_append_left _ (List.mem_append_left _ (List.mem_append_left _ (List.mem_of_getElem? (i := 0) rfl))))))) dX6_meetsRing_11 ?_
  refine lv_icmp_ge (tgt := 179) hx hb dX6_meetsRing_13 (by decide) (fun h => absurd h (by decide)) (fun _ => ?_)
  refine lv_iload_n hx hb dX6_meetsRing_16 rfl (lv_at hl 4 rfl) ?_
  refine lv_if_lt (tgt := 179) hx hb dX6_meetsRing_17 (by decide) (fun h => absurd h (by decide)) (fun _ => ?_)
  refine lv_aload_n hx hb dX6_meetsRing_20 rfl (lv_at hl 5 rfl) ?_
  refine va_get (D := D) (ci := 8) (v := .ref h11) (C := RX6) (T := TX6) (N := 13) hx hb hts (fun _ h => (List.mem_cons_of_mem _ (List.mem_append_left _ (List.mem_append_left _ (List.mem_append_right _ h))))) hown hK hP 1 rfl rfl 9 (by decide) (hts (.fieldLink RX6 39 "SelfishJunction$Survey" "stack" "[I") (List.mem_cons_of_mem _ (List.mem_append_left _ (List.mem_append_left _ (List.mem_append_left _ (List.mem_append_left _ (List.mem_of_getElem? (i := 1) rfl))))))) (fun _ h9 => h9) rfl dX6_meetsRing_21 ?_
  refine lv_iload_n hx hb dX6_meetsRing_24 rfl (lv_at hl 4 rfl) ?_
  refine va_iald hx hb hK hP 5 1 rfl rfl (kx_in 0 1000 rfl ⟨(Nat.le_of_ble_eq_true rfl), (Nat.le_of_ble_eq_true rfl)⟩ (Nat.le_of_ble_eq_true rfl)) dX6_meetsRing_25 ?_
  refine lv_topi (fun v_86 ev_86 => ?_)
  obtain rfl : v_86 = 0 := ev_86.trans rfl
  refine lv_istore (lv' := [(4, .int 0), (3, .int 12), (6, .int 0), (5, .int 11), (2, .int 0), (0, .ref h1), (1, .int 0)]) hx hb dX6_meetsRing_26 hl (by decide) rfl (fun ls hl => ?_)
  refine lv_aload_n hx hb dX6_meetsRing_28 rfl (lv_at hl 5 rfl) ?_
  refine va_get (D := D) (ci := 8) (v := .ref h10) (C := RX6) (T := TX6) (N := 13) hx hb hts (fun _ h => (List.mem_cons_of_mem _ (List.mem_append_left _ (List.mem_append_left _ (List.mem_append_right _ h))))) hown hK hP 1 rfl rfl 8 (by decide) (hts (.fieldLink RX6 36 "SelfishJunction$Survey" "tried" "[I") (List.mem_cons_of_mem _ (List.mem_append_left _ (List.mem_append_left _ (List.mem_append_left _ (List.mem_append_left _ (List.mem_of_getElem? (i := 2) rfl))))))) (fun _ h9 => h9) rfl dX6_meetsRing_29 ?_
  refine lv_iload hx hb dX6_meetsRing_32 (lv_at hl 0 rfl) ?_
  refine va_iald hx hb hK hP 4 1 rfl rfl (kx_in 0 1000 rfl ⟨(Nat.le_of_ble_eq_true rfl), (Nat.le_of_ble_eq_true rfl)⟩ (Nat.le_of_ble_eq_true rfl)) dX6_meetsRing_34 ?_
  refine lv_topi (fun v_87 ev_87 => ?_)
  obtain rfl : v_87 = 12 := ev_87.trans rfl
  refine lv_bipush (v := 30) hx hb dX6_meetsRing_35 (by decide) ?_
  refine lv_icmp_lt (tgt := 70) hx hb dX6_meetsRing_37 (by decide) (fun _ => ?_) (fun h => absurd (by decide) h)
  refine lv_aload_n hx hb dX6_meetsRing_70 rfl (lv_at hl 5 rfl) ?_
  refine va_get (D := D) (ci := 8) (v := .ref h10) (C := RX6) (T := TX6) (N := 13) hx hb hts (fun _ h => (List.mem_cons_of_mem _ (List.mem_append_left _ (List.mem_append_left _ (List.mem_append_right _ h))))) hown hK hP 1 rfl rfl 8 (by decide) (hts (.fieldLink RX6 36 "SelfishJunction$Survey" "tried" "[I") (List.mem_cons_of_mem _ (List.mem_append_left _ (List.mem_append_left _ (List.mem_append_left _ (List.mem_append_left _ (List.mem_of_getElem? (i := 2) rfl))))))) (fun _ h9 => h9) rfl dX6_meetsRing_71 ?_
  refine lv_iload hx hb dX6_meetsRing_74 (lv_at hl 0 rfl) ?_
  refine lv_dup2_11 hx hb dX6_meetsRing_76 rfl rfl ?_
  refine va_iald hx hb hK hP 4 1 rfl rfl (kx_in 0 1000 rfl ⟨(Nat.le_of_ble_eq_true rfl), (Nat.le_of_ble_eq_true rfl)⟩ (Nat.le_of_ble_eq_true rfl)) dX6_meetsRing_77 ?_
  refine lv_topi (fun v_88 ev_88 => ?_)
  obtain rfl : v_88 = 12 := ev_88.trans rfl
  refine lv_dup_x2 hx hb dX6_meetsRing_78 rfl rfl rfl ?_
  refine lv_iconst (v := 1) hx hb dX6_meetsRing_79 (by decide) ?_
  refine lv_iadd hx hb dX6_meetsRing_80 ?_
  refine lv_topi (fun v_89 ev_89 => ?_)
  obtain rfl : v_89 = 13 := ev_89.trans (by decide)
  refine va_iast hx hb hK hP hD hS 4 1 rfl rfl (kx_in 0 1000 rfl ⟨(Nat.le_of_ble_eq_true rfl), (Nat.le_of_ble_eq_true rfl)⟩ (Nat.le_of_ble_eq_true rfl)) dX6_meetsRing_81 (fun H locs hP hD hS => ?_)
  have hP : va_P D vwCl [(h7, .inl (cy 1, 1000, .inl g15)), (h1, .inr (8, [x2, x3, x4, x5, x6, .ref h7, .ref h8, .ref h9, .ref h10, .ref h11, x12, x13, x14])), (h8, .inl (cy 1, 1000, .inl (upd g16 0 1))), (h9, .inl (cy 1, 1000, .inl (upd g17 0 0))), (h10, .inl (cy 1, 1000, .inl (upd (upd g18 0 12) 0 13))), (h11, .inl (cy 1, 1000, .inl (upd g19 0 0)))] H := hP
  have hD : va_D A [(h7, .inl (cy 1, 1000, .inl g15)), (h1, .inr (8, [x2, x3, x4, x5, x6, .ref h7, .ref h8, .ref h9, .ref h10, .ref h11, x12, x13, x14])), (h8, .inl (cy 1, 1000, .inl (upd g16 0 1))), (h9, .inl (cy 1, 1000, .inl (upd g17 0 0))), (h10, .inl (cy 1, 1000, .inl (upd (upd g18 0 12) 0 13))), (h11, .inl (cy 1, 1000, .inl (upd g19 0 0)))] := hD
  rw [kx_uu] at hP hD
  refine lv_istore (lv' := [(5, .int 12), (4, .int 0), (3, .int 12), (6, .int 0), (2, .int 0), (0, .ref h1), (1, .int 0)]) hx hb dX6_meetsRing_82 hl (by decide) rfl (fun ls hl => ?_)
  refine lv_aload_n hx hb dX6_meetsRing_84 rfl (lv_at hl 5 rfl) ?_
  refine va_get (D := D) (ci := 8) (v := .ref h7) (C := RX6) (T := TX6) (N := 13) hx hb hts (fun _ h => (List.mem_cons_of_mem _ (List.mem_append_left _ (List.mem_append_left _ (List.mem_append_right _ h))))) hown hK hP 1 rfl rfl 5 (by decide) (hts (.fieldLink RX6 27 "SelfishJunction$Survey" "moves" "[I") (List.mem_cons_of_mem _ (List.mem_append_left _ (List.mem_append_left _ (List.mem_append_left _ (List.mem_append_left _ (List.mem_of_getElem? (i := 4) rfl))))))) (fun _ h9 => h9) rfl dX6_meetsRing_85 ?_
  refine lv_iload hx hb dX6_meetsRing_88 (lv_at hl 1 rfl) ?_
  refine va_iald hx hb hK hP 0 1 rfl rfl (kx_in 0 1000 rfl ⟨(Nat.le_of_ble_eq_true rfl), (Nat.le_of_ble_eq_true rfl)⟩ (Nat.le_of_ble_eq_true rfl)) dX6_meetsRing_90 ?_
  refine lv_topi (fun v_90 ev_90 => ?_)
  obtain rfl : v_90 = 0 := ev_90.trans (kg15_0)
  refine lv_iload hx hb dX6_meetsRing_91 (lv_at hl 0 rfl) ?_
  have hPc := hP.sub (ws' := []) [] rfl
  refine va_calli (va_runSN (As := [.int 0, .int 12]) (rest := []) ⟨hx, hb, hml, hown, hts⟩ (k_X7_hasBit_12 l D cy ) ⟨va_cnB 2 hts gX6_meetsRing_X7_hasBit_n132 rfl rfl rfl (exP.nest hE (RX6, 132, yX7_hasBit, RX7) (by decide +kernel)) (hts (.initialized RX7) (List.mem_cons_of_mem _ (List.mem_append_left _ (List.mem_append_left _ (List.mem_append_left _ (List.mem_append_left _ (List.mem_of_getElem? (i := 20) rfl))))))) (by decide +kernel) ⟨(Nat.le_of_ble_eq_true rfl), (Nat.le_of_ble_eq_true rfl)⟩, (hts (.static yX7_hasBit) (List.mem_cons_of_mem _ (List.mem_append_left _ (List.mem_append_left _ (List.mem_append_left _ (List.mem_append_left _ (List.mem_of_getElem? (i := 19) rfl))))))), trivial⟩ ⟨kR_fb, (kR_go hPc hK)⟩ rfl rfl hl.1 rfl (lv_room (Nat.le_of_ble_eq_true rfl)) dX6_meetsRing_93 ⟨(Nat.le_of_ble_eq_true rfl), (Nat.le_of_ble_eq_true rfl)⟩) hS (fun _ _ h => h.elim) (fun _ h => h.elim) (fun r9 u t H locs ht hvm hw hB hz1 hk1 hS => ?_)
  have hP := kx_kept hP hk1
  obtain ⟨rfl, hw⟩ := hw
  refine lv_if_eq (tgt := 110) hx hb dX6_meetsRing_96 (by decide) (fun _ => ?_) (fun h => absurd (by decide) h)
  refine lv_iload hx hb dX6_meetsRing_110 (lv_at hl 1 rfl) ?_
  refine lv_istore (lv' := [(6, .int 0), (5, .int 12), (4, .int 0), (3, .int 12), (2, .int 0), (0, .ref h1), (1, .int 0)]) hx hb dX6_meetsRing_112 hl (by decide) rfl (fun ls hl => ?_)
  refine lv_iload hx hb dX6_meetsRing_114 (lv_at hl 0 rfl) ?_
  refine lv_iload hx hb dX6_meetsRing_116 (lv_at hl 2 rfl) ?_
  refine lv_icmp_eq (tgt := 134) hx hb dX6_meetsRing_118 (by decide) (fun _ => ?_) (fun h => absurd (by decide) h)
  refine lv_aload_n hx hb dX6_meetsRing_134 rfl (lv_at hl 5 rfl) ?_
  refine va_get (D := D) (ci := 8) (v := .ref h8) (C := RX6) (T := TX6) (N := 13) hx hb hts (fun _ h => (List.mem_cons_of_mem _ (List.mem_append_left _ (List.mem_append_left _ (List.mem_append_right _ h))))) hown hK hP 1 rfl rfl 6 (by decide) (hts (.fieldLink RX6 30 "SelfishJunction$Survey" "marks" "[I") (List.mem_cons_of_mem _ (List.mem_append_left _ (List.mem_append_left _ (List.mem_append_left _ (List.mem_append_left _ (List.mem_of_getElem? (i := 3) rfl))))))) (fun _ h9 => h9) rfl dX6_meetsRing_135 ?_
  refine lv_iload hx hb dX6_meetsRing_138 (lv_at hl 0 rfl) ?_
  refine va_iald hx hb hK hP 2 1 rfl rfl (kx_in 0 1000 rfl ⟨(Nat.le_of_ble_eq_true rfl), (Nat.le_of_ble_eq_true rfl)⟩ (Nat.le_of_ble_eq_true rfl)) dX6_meetsRing_140 ?_
  refine lv_topi (fun v_92 ev_92 => ?_)
  obtain rfl : v_92 = 1 := ev_92.trans rfl
  refine lv_iconst (v := 2) hx hb dX6_meetsRing_141 (by decide) ?_
  refine lv_icmp_ne (tgt := 156) hx hb dX6_meetsRing_142 (by decide) (fun _ => ?_) (fun h => absurd h (by decide))
  refine lv_iload hx hb dX6_meetsRing_156 (lv_at hl 0 rfl) ?_
  refine lv_iload hx hb dX6_meetsRing_158 (lv_at hl 2 rfl) ?_
  refine lv_icmp_eq (tgt := 173) hx hb dX6_meetsRing_160 (by decide) (fun _ => ?_) (fun h => absurd (by decide) h)
  refine lv_iinc (v := 13) (lv' := [(3, .int 13), (6, .int 0), (5, .int 12), (4, .int 0), (2, .int 0), (0, .ref h1), (1, .int 0)]) hx hb dX6_meetsRing_173 hl (k := 3) rfl (by decide) (by decide) rfl (fun ls hl => ?_)
  refine lv_goto (tgt := 10) hx hb dX6_meetsRing_176 (by decide) ?_
  refine lv_iload_n hx hb dX6_meetsRing_10 rfl (lv_at hl 0 rfl) ?_
  refine lv_ldc (v := 1000000) hx hb hown (hts (.constant RX6 128 (1000000)) (List.mem_cons_of_mem _ (List.mem_append_left _ (List.mem_append_left _ (List.mem_append_left _ (List.mem_append_left _ (List.mem_of_getElem? (i := 0) rfl))))))) dX6_meetsRing_11 ?_
  refine lv_icmp_ge (tgt := 179) hx hb dX6_meetsRing_13 (by decide) (fun h => absurd h (by decide)) (fun _ => ?_)
  refine lv_iload_n hx hb dX6_meetsRing_16 rfl (lv_at hl 4 rfl) ?_
  refine lv_if_lt (tgt := 179) hx hb dX6_meetsRing_17 (by decide) (fun h => absurd h (by decide)) (fun _ => ?_)
  refine lv_aload_n hx hb dX6_meetsRing_20 rfl (lv_at hl 5 rfl) ?_
  refine va_get (D := D) (ci := 8) (v := .ref h11) (C := RX6) (T := TX6) (N := 13) hx hb hts (fun _ h => (List.mem_cons_of_mem _ (List.mem_append_left _ (List.mem_append_left _ (List.mem_append_right _ h))))) hown hK hP 1 rfl rfl 9 (by decide) (hts (.fieldLink RX6 39 "SelfishJunction$Survey" "stack" "[I") (List.mem_cons_of_mem _ (List.mem_append_left _ (List.mem_append_left _ (List.mem_append_left _ (List.mem_append_left _ (List.mem_of_getElem? (i := 1) rfl))))))) (fun _ h9 => h9) rfl dX6_meetsRing_21 ?_
  refine lv_iload_n hx hb dX6_meetsRing_24 rfl (lv_at hl 4 rfl) ?_
  refine va_iald hx hb hK hP 5 1 rfl rfl (kx_in 0 1000 rfl ⟨(Nat.le_of_ble_eq_true rfl), (Nat.le_of_ble_eq_true rfl)⟩ (Nat.le_of_ble_eq_true rfl)) dX6_meetsRing_25 ?_
  refine lv_topi (fun v_93 ev_93 => ?_)
  obtain rfl : v_93 = 0 := ev_93.trans rfl
  refine lv_istore (lv' := [(4, .int 0), (3, .int 13), (6, .int 0), (5, .int 12), (2, .int 0), (0, .ref h1), (1, .int 0)]) hx hb dX6_meetsRing_26 hl (by decide) rfl (fun ls hl => ?_)
  refine lv_aload_n hx hb dX6_meetsRing_28 rfl (lv_at hl 5 rfl) ?_
  refine va_get (D := D) (ci := 8) (v := .ref h10) (C := RX6) (T := TX6) (N := 13) hx hb hts (fun _ h => (List.mem_cons_of_mem _ (List.mem_append_left _ (List.mem_append_left _ (List.mem_append_right _ h))))) hown hK hP 1 rfl rfl 8 (by decide) (hts (.fieldLink RX6 36 "SelfishJunction$Survey" "tried" "[I") (List.mem_cons_of_mem _ (List.mem_append_left _ (List.mem_append_left _ (List.mem_append_left _ (List.mem_append_left _ (List.mem_of_getElem? (i := 2) rfl))))))) (fun _ h9 => h9) rfl dX6_meetsRing_29 ?_
  refine lv_iload hx hb dX6_meetsRing_32 (lv_at hl 0 rfl) ?_
  refine va_iald hx hb hK hP 4 1 rfl rfl (kx_in 0 1000 rfl ⟨(Nat.le_of_ble_eq_true rfl), (Nat.le_of_ble_eq_true rfl)⟩ (Nat.le_of_ble_eq_true rfl)) dX6_meetsRing_34 ?_
  refine lv_topi (fun v_94 ev_94 => ?_)
  obtain rfl : v_94 = 13 := ev_94.trans rfl
  refine lv_bipush (v := 30) hx hb dX6_meetsRing_35 (by decide) ?_
  refine lv_icmp_lt (tgt := 70) hx hb dX6_meetsRing_37 (by decide) (fun _ => ?_) (fun h => absurd (by decide) h)
  refine lv_aload_n hx hb dX6_meetsRing_70 rfl (lv_at hl 5 rfl) ?_
  refine va_get (D := D) (ci := 8) (v := .ref h10) (C := RX6) (T := TX6) (N := 13) hx hb hts (fun _ h => (List.mem_cons_of_mem _ (List.mem_append_left _ (List.mem_append_left _ (List.mem_append_right _ h))))) hown hK hP 1 rfl rfl 8 (by decide) (hts (.fieldLink RX6 36 "SelfishJunction$Survey" "tried" "[I") (List.mem_cons_of_mem _ (List.mem_append_left _ (List.mem_append_left _ (List.mem_append_left _ (List.mem_append_left _ (List.mem_of_getElem? (i := 2) rfl))))))) (fun _ h9 => h9) rfl dX6_meetsRing_71 ?_
  refine lv_iload hx hb dX6_meetsRing_74 (lv_at hl 0 rfl) ?_
  refine lv_dup2_11 hx hb dX6_meetsRing_76 rfl rfl ?_
  refine va_iald hx hb hK hP 4 1 rfl rfl (kx_in 0 1000 rfl ⟨(Nat.le_of_ble_eq_true rfl), (Nat.le_of_ble_eq_true rfl)⟩ (Nat.le_of_ble_eq_true rfl)) dX6_meetsRing_77 ?_
  refine lv_topi (fun v_95 ev_95 => ?_)
  obtain rfl : v_95 = 13 := ev_95.trans rfl
  refine lv_dup_x2 hx hb dX6_meetsRing_78 rfl rfl rfl ?_
  refine lv_iconst (v := 1) hx hb dX6_meetsRing_79 (by decide) ?_
  refine lv_iadd hx hb dX6_meetsRing_80 ?_
  refine lv_topi (fun v_96 ev_96 => ?_)
  obtain rfl : v_96 = 14 := ev_96.trans (by decide)
  refine va_iast hx hb hK hP hD hS 4 1 rfl rfl (kx_in 0 1000 rfl ⟨(Nat.le_of_ble_eq_true rfl), (Nat.le_of_ble_eq_true rfl)⟩ (Nat.le_of_ble_eq_true rfl)) dX6_meetsRing_81 (fun H locs hP hD hS => ?_)
  have hP : va_P D vwCl [(h7, .inl (cy 1, 1000, .inl g15)), (h1, .inr (8, [x2, x3, x4, x5, x6, .ref h7, .ref h8, .ref h9, .ref h10, .ref h11, x12, x13, x14])), (h8, .inl (cy 1, 1000, .inl (upd g16 0 1))), (h9, .inl (cy 1, 1000, .inl (upd g17 0 0))), (h10, .inl (cy 1, 1000, .inl (upd (upd g18 0 13) 0 14))), (h11, .inl (cy 1, 1000, .inl (upd g19 0 0)))] H := hP
  have hD : va_D A [(h7, .inl (cy 1, 1000, .inl g15)), (h1, .inr (8, [x2, x3, x4, x5, x6, .ref h7, .ref h8, .ref h9, .ref h10, .ref h11, x12, x13, x14])), (h8, .inl (cy 1, 1000, .inl (upd g16 0 1))), (h9, .inl (cy 1, 1000, .inl (upd g17 0 0))), (h10, .inl (cy 1, 1000, .inl (upd (upd g18 0 13) 0 14))), (h11, .inl (cy 1, 1000, .inl (upd g19 0 0)))] := hD
  rw [kx_uu] at hP hD
  refine lv_istore (lv' := [(5, .int 13), (4, .int 0), (3, .int 13), (6, .int 0), (2, .int 0), (0, .ref h1), (1, .int 0)]) hx hb dX6_meetsRing_82 hl (by decide) rfl (fun ls hl => ?_)
  refine lv_aload_n hx hb dX6_meetsRing_84 rfl (lv_at hl 5 rfl) ?_
  refine va_get (D := D) (ci := 8) (v := .ref h7) (C := RX6) (T := TX6) (N := 13) hx hb hts (fun _ h => (List.mem_cons_of_mem _ (List.mem_append_left _ (List.mem_append_left _ (List.mem_append_right _ h))))) hown hK hP 1 rfl rfl 5 (by decide) (hts (.fieldLink RX6 27 "SelfishJunction$Survey" "moves" "[I") (List.mem_cons_of_mem _ (List.mem_append_left _ (List.mem_append_left _ (List.mem_append_left _ (List.mem_append_left _ (List.mem_of_getElem? (i := 4) rfl))))))) (fun _ h9 => h9) rfl dX6_meetsRing_85 ?_
  refine lv_iload hx hb dX6_meetsRing_88 (lv_at hl 1 rfl) ?_
  refine va_iald hx hb hK hP 0 1 rfl rfl (kx_in 0 1000 rfl ⟨(Nat.le_of_ble_eq_true rfl), (Nat.le_of_ble_eq_true rfl)⟩ (Nat.le_of_ble_eq_true rfl)) dX6_meetsRing_90 ?_
  refine lv_topi (fun v_97 ev_97 => ?_)
  obtain rfl : v_97 = 0 := ev_97.trans (kg15_0)
  refine lv_iload hx hb dX6_meetsRing_91 (lv_at hl 0 rfl) ?_
  have hPc := hP.sub (ws' := []) [] rfl
  refine va_calli (va_runSN (As := [.int 0, .int 13]) (rest := []) ⟨hx, hb, hml, hown, hts⟩ (k_X7_hasBit_13 l D cy ) ⟨va_cnB 2 hts gX6_meetsRing_X7_hasBit_n132 rfl rfl rfl (exP.nest hE (RX6, 132, yX7_hasBit, RX7) (by decide +kernel)) (hts (.initialized RX7) (List.mem_cons_of_mem _ (List.mem_append_left _ (List.mem_append_left _ (List.mem_append_left _ (List.mem_append_left _ (List.mem_of_getElem? (i := 20) rfl))))))) (by decide +kernel) ⟨(Nat.le_of_ble_eq_true rfl), (Nat.le_of_ble_eq_true rfl)⟩, (hts (.static yX7_hasBit) (List.mem_cons_of_mem _ (List.mem_append_left _ (List.mem_append_left _ (List.mem_append_left _ (List.mem_append_left _ (List.mem_of_getElem? (i := 19) rfl))))))), trivial⟩ ⟨kR_fb, (kR_go hPc hK)⟩ rfl rfl hl.1 rfl (lv_room (Nat.le_of_ble_eq_true rfl)) dX6_meetsRing_93 ⟨(Nat.le_of_ble_eq_true rfl), (Nat.le_of_ble_eq_true rfl)⟩) hS (fun _ _ h => h.elim) (fun _ h => h.elim) (fun r9 u t H locs ht hvm hw hB hz1 hk1 hS => ?_)
  have hP := kx_kept hP hk1
  obtain ⟨rfl, hw⟩ := hw
  refine lv_if_eq (tgt := 110) hx hb dX6_meetsRing_96 (by decide) (fun _ => ?_) (fun h => absurd (by decide) h)
  refine lv_iload hx hb dX6_meetsRing_110 (lv_at hl 1 rfl) ?_
  refine lv_istore (lv' := [(6, .int 0), (5, .int 13), (4, .int 0), (3, .int 13), (2, .int 0), (0, .ref h1), (1, .int 0)]) hx hb dX6_meetsRing_112 hl (by decide) rfl (fun ls hl => ?_)
  refine lv_iload hx hb dX6_meetsRing_114 (lv_at hl 0 rfl) ?_
  refine lv_iload hx hb dX6_meetsRing_116 (lv_at hl 2 rfl) ?_
  refine lv_icmp_eq (tgt := 134) hx hb dX6_meetsRing_118 (by decide) (fun _ => ?_) (fun h => absurd (by decide) h)
  refine lv_aload_n hx hb dX6_meetsRing_134 rfl (lv_at hl 5 rfl) ?_
  refine va_get (D := D) (ci := 8) (v := .ref h8) (C := RX6) (T := TX6) (N := 13) hx hb hts (fun _ h => (List.mem_cons_of_mem _ (List.mem_append_left _ (List.mem_append_left _ (List.mem_append_right _ h))))) hown hK hP 1 rfl rfl 6 (by decide) (hts (.fieldLink RX6 30 "SelfishJunction$Survey" "marks" "[I") (List.mem_cons_of_mem _ (List.mem_append_left _ (List.mem_append_left _ (List.mem_append_left _ (List.mem_append_left _ (List.mem_of_getElem? (i := 3) rfl))))))) (fun _ h9 => h9) rfl dX6_meetsRing_135 ?_
  refine lv_iload hx hb dX6_meetsRing_138 (lv_at hl 0 rfl) ?_
  refine va_iald hx hb hK hP 2 1 rfl rfl (kx_in 0 1000 rfl ⟨(Nat.le_of_ble_eq_true rfl), (Nat.le_of_ble_eq_true rfl)⟩ (Nat.le_of_ble_eq_true rfl)) dX6_meetsRing_140 ?_
  refine lv_topi (fun v_99 ev_99 => ?_)
  obtain rfl : v_99 = 1 := ev_99.trans rfl
  refine lv_iconst (v := 2) hx hb dX6_meetsRing_141 (by decide) ?_
  refine lv_icmp_ne (tgt := 156) hx hb dX6_meetsRing_142 (by decide) (fun _ => ?_) (fun h => absurd h (by decide))
  refine lv_iload hx hb dX6_meetsRing_156 (lv_at hl 0 rfl) ?_
  refine lv_iload hx hb dX6_meetsRing_158 (lv_at hl 2 rfl) ?_
  refine lv_icmp_eq (tgt := 173) hx hb dX6_meetsRing_160 (by decide) (fun _ => ?_) (fun h => absurd (by decide) h)
  refine lv_iinc (v := 14) (lv' := [(3, .int 14), (6, .int 0), (5, .int 13), (4, .int 0), (2, .int 0), (0, .ref h1), (1, .int 0)]) hx hb dX6_meetsRing_173 hl (k := 3) rfl (by decide) (by decide) rfl (fun ls hl => ?_)
  refine lv_goto (tgt := 10) hx hb dX6_meetsRing_176 (by decide) ?_
  refine lv_iload_n hx hb dX6_meetsRing_10 rfl (lv_at hl 0 rfl) ?_
  refine lv_ldc (v := 1000000) hx hb hown (hts (.constant RX6 128 (1000000)) (List.mem_cons_of_mem _ (List.mem_append_left _ (List.mem_append_left _ (List.mem_append_left _ (List.mem_append_left _ (List.mem_of_getElem? (i := 0) rfl))))))) dX6_meetsRing_11 ?_
  refine lv_icmp_ge (tgt := 179) hx hb dX6_meetsRing_13 (by decide) (fun h => absurd h (by decide)) (fun _ => ?_)
  refine lv_iload_n hx hb dX6_meetsRing_16 rfl (lv_at hl 4 rfl) ?_
  refine lv_if_lt (tgt := 179) hx hb dX6_meetsRing_17 (by decide) (fun h => absurd h (by decide)) (fun _ => ?_)
  refine lv_aload_n hx hb dX6_meetsRing_20 rfl (lv_at hl 5 rfl) ?_
  refine va_get (D := D) (ci := 8) (v := .ref h11) (C := RX6) (T := TX6) (N := 13) hx hb hts (fun _ h => (List.mem_cons_of_mem _ (List.mem_append_left _ (List.mem_append_left _ (List.mem_append_right _ h))))) hown hK hP 1 rfl rfl 9 (by decide) (hts (.fieldLink RX6 39 "SelfishJunction$Survey" "stack" "[I") (List.mem_cons_of_mem _ (List.mem_append_left _ (List.mem_append_left _ (List.mem_append_left _ (List.mem_append_left _ (List.mem_of_getElem? (i := 1) rfl))))))) (fun _ h9 => h9) rfl dX6_meetsRing_21 ?_
  refine lv_iload_n hx hb dX6_meetsRing_24 rfl (lv_at hl 4 rfl) ?_
  refine va_iald hx hb hK hP 5 1 rfl rfl (kx_in 0 1000 rfl ⟨(Nat.le_of_ble_eq_true rfl), (Nat.le_of_ble_eq_true rfl)⟩ (Nat.le_of_ble_eq_true rfl)) dX6_meetsRing_25 ?_
  refine lv_topi (fun v_100 ev_100 => ?_)
  obtain rfl : v_100 = 0 := ev_100.trans rfl
  refine lv_istore (lv' := [(4, .int 0), (3, .int 14), (6, .int 0), (5, .int 13), (2, .int 0), (0, .ref h1), (1, .int 0)]) hx hb dX6_meetsRing_26 hl (by decide) rfl (fun ls hl => ?_)
  refine lv_aload_n hx hb dX6_meetsRing_28 rfl (lv_at hl 5 rfl) ?_
  refine va_get (D := D) (ci := 8) (v := .ref h10) (C := RX6) (T := TX6) (N := 13) hx hb hts (fun _ h => (List.mem_cons_of_mem _ (List.mem_append_left _ (List.mem_append_left _ (List.mem_append_right _ h))))) hown hK hP 1 rfl rfl 8 (by decide) (hts (.fieldLink RX6 36 "SelfishJunction$Survey" "tried" "[I") (List.mem_cons_of_mem _ (List.mem_append_left _ (List.mem_append_left _ (List.mem_append_left _ (List.mem_append_left _ (List.mem_of_getElem? (i := 2) rfl))))))) (fun _ h9 => h9) rfl dX6_meetsRing_29 ?_
  refine lv_iload hx hb dX6_meetsRing_32 (lv_at hl 0 rfl) ?_
  refine va_iald hx hb hK hP 4 1 rfl rfl (kx_in 0 1000 rfl ⟨(Nat.le_of_ble_eq_true rfl), (Nat.le_of_ble_eq_true rfl)⟩ (Nat.le_of_ble_eq_true rfl)) dX6_meetsRing_34 ?_
  refine lv_topi (fun v_101 ev_101 => ?_)
  obtain rfl : v_101 = 14 := ev_101.trans rfl
  refine lv_bipush (v := 30) hx hb dX6_meetsRing_35 (by decide) ?_
  refine lv_icmp_lt (tgt := 70) hx hb dX6_meetsRing_37 (by decide) (fun _ => ?_) (fun h => absurd (by decide) h)
  refine lv_aload_n hx hb dX6_meetsRing_70 rfl (lv_at hl 5 rfl) ?_
  refine va_get (D := D) (ci := 8) (v := .ref h10) (C := RX6) (T := TX6) (N := 13) hx hb hts (fun _ h => (List.mem_cons_of_mem _ (List.mem_append_left _ (List.mem_append_left _ (List.mem_append_right _ h))))) hown hK hP 1 rfl rfl 8 (by decide) (hts (.fieldLink RX6 36 "SelfishJunction$Survey" "tried" "[I") (List.mem_cons_of_mem _ (List.mem_append_left _ (List.mem_append_left _ (List.mem_append_left _ (List.mem_append_left _ (List.mem_of_getElem? (i := 2) rfl))))))) (fun _ h9 => h9) rfl dX6_meetsRing_71 ?_
  refine lv_iload hx hb dX6_meetsRing_74 (lv_at hl 0 rfl) ?_
  refine lv_dup2_11 hx hb dX6_meetsRing_76 rfl rfl ?_
  refine va_iald hx hb hK hP 4 1 rfl rfl (kx_in 0 1000 rfl ⟨(Nat.le_of_ble_eq_true rfl), (Nat.le_of_ble_eq_true rfl)⟩ (Nat.le_of_ble_eq_true rfl)) dX6_meetsRing_77 ?_
  refine lv_topi (fun v_102 ev_102 => ?_)
  obtain rfl : v_102 = 14 := ev_102.trans rfl
  refine lv_dup_x2 hx hb dX6_meetsRing_78 rfl rfl rfl ?_
  refine lv_iconst (v := 1) hx hb dX6_meetsRing_79 (by decide) ?_
  refine lv_iadd hx hb dX6_meetsRing_80 ?_
  refine lv_topi (fun v_103 ev_103 => ?_)
  obtain rfl : v_103 = 15 := ev_103.trans (by decide)
  refine va_iast hx hb hK hP hD hS 4 1 rfl rfl (kx_in 0 1000 rfl ⟨(Nat.le_of_ble_eq_true rfl), (Nat.le_of_ble_eq_true rfl)⟩ (Nat.le_of_ble_eq_true rfl)) dX6_meetsRing_81 (fun H locs hP hD hS => ?_)
  have hP : va_P D vwCl [(h7, .inl (cy 1, 1000, .inl g15)), (h1, .inr (8, [x2, x3, x4, x5, x6, .ref h7, .ref h8, .ref h9, .ref h10, .ref h11, x12, x13, x14])), (h8, .inl (cy 1, 1000, .inl (upd g16 0 1))), (h9, .inl (cy 1, 1000, .inl (upd g17 0 0))), (h10, .inl (cy 1, 1000, .inl (upd (upd g18 0 14) 0 15))), (h11, .inl (cy 1, 1000, .inl (upd g19 0 0)))] H := hP
  have hD : va_D A [(h7, .inl (cy 1, 1000, .inl g15)), (h1, .inr (8, [x2, x3, x4, x5, x6, .ref h7, .ref h8, .ref h9, .ref h10, .ref h11, x12, x13, x14])), (h8, .inl (cy 1, 1000, .inl (upd g16 0 1))), (h9, .inl (cy 1, 1000, .inl (upd g17 0 0))), (h10, .inl (cy 1, 1000, .inl (upd (upd g18 0 14) 0 15))), (h11, .inl (cy 1, 1000, .inl (upd g19 0 0)))] := hD
  rw [kx_uu] at hP hD
  refine lv_istore (lv' := [(5, .int 14), (4, .int 0), (3, .int 14), (6, .int 0), (2, .int 0), (0, .ref h1), (1, .int 0)]) hx hb dX6_meetsRing_82 hl (by decide) rfl (fun ls hl => ?_)
  refine lv_aload_n hx hb dX6_meetsRing_84 rfl (lv_at hl 5 rfl) ?_
  refine va_get (D := D) (ci := 8) (v := .ref h7) (C := RX6) (T := TX6) (N := 13) hx hb hts (fun _ h => (List.mem_cons_of_mem _ (List.mem_append_left _ (List.mem_append_left _ (List.mem_append_right _ h))))) hown hK hP 1 rfl rfl 5 (by decide) (hts (.fieldLink RX6 27 "SelfishJunction$Survey" "moves" "[I") (List.mem_cons_of_mem _ (List.mem_append_left _ (List.mem_append_left _ (List.mem_append_left _ (List.mem_append_left _ (List.mem_of_getElem? (i := 4) rfl))))))) (fun _ h9 => h9) rfl dX6_meetsRing_85 ?_
  refine lv_iload hx hb dX6_meetsRing_88 (lv_at hl 1 rfl) ?_
  refine va_iald hx hb hK hP 0 1 rfl rfl (kx_in 0 1000 rfl ⟨(Nat.le_of_ble_eq_true rfl), (Nat.le_of_ble_eq_true rfl)⟩ (Nat.le_of_ble_eq_true rfl)) dX6_meetsRing_90 ?_
  refine lv_topi (fun v_104 ev_104 => ?_)
  obtain rfl : v_104 = 0 := ev_104.trans (kg15_0)
  refine lv_iload hx hb dX6_meetsRing_91 (lv_at hl 0 rfl) ?_
  have hPc := hP.sub (ws' := []) [] rfl
  refine va_calli (va_runSN (As := [.int 0, .int 14]) (rest := []) ⟨hx, hb, hml, hown, hts⟩ (k_X7_hasBit_14 l D cy ) ⟨va_cnB 2 hts gX6_meetsRing_X7_hasBit_n132 rfl rfl rfl (exP.nest hE (RX6, 132, yX7_hasBit, RX7) (by decide +kernel)) (hts (.initialized RX7) (List.mem_cons_of_mem _ (List.mem_append_left _ (List.mem_append_left _ (List.mem_append_left _ (List.mem_append_left _ (List.mem_of_getElem? (i := 20) rfl))))))) (by decide +kernel) ⟨(Nat.le_of_ble_eq_true rfl), (Nat.le_of_ble_eq_true rfl)⟩, (hts (.static yX7_hasBit) (List.mem_cons_of_mem _ (List.mem_append_left _ (List.mem_append_left _ (List.mem_append_left _ (List.mem_append_left _ (List.mem_of_getElem? (i := 19) rfl))))))), trivial⟩ ⟨kR_fb, (kR_go hPc hK)⟩ rfl rfl hl.1 rfl (lv_room (Nat.le_of_ble_eq_true rfl)) dX6_meetsRing_93 ⟨(Nat.le_of_ble_eq_true rfl), (Nat.le_of_ble_eq_true rfl)⟩) hS (fun _ _ h => h.elim) (fun _ h => h.elim) (fun r9 u t H locs ht hvm hw hB hz1 hk1 hS => ?_)
  have hP := kx_kept hP hk1
  obtain ⟨rfl, hw⟩ := hw
  refine lv_if_eq (tgt := 110) hx hb dX6_meetsRing_96 (by decide) (fun _ => ?_) (fun h => absurd (by decide) h)
  refine lv_iload hx hb dX6_meetsRing_110 (lv_at hl 1 rfl) ?_
  refine lv_istore (lv' := [(6, .int 0), (5, .int 14), (4, .int 0), (3, .int 14), (2, .int 0), (0, .ref h1), (1, .int 0)]) hx hb dX6_meetsRing_112 hl (by decide) rfl (fun ls hl => ?_)
  refine lv_iload hx hb dX6_meetsRing_114 (lv_at hl 0 rfl) ?_
  refine lv_iload hx hb dX6_meetsRing_116 (lv_at hl 2 rfl) ?_
  refine lv_icmp_eq (tgt := 134) hx hb dX6_meetsRing_118 (by decide) (fun _ => ?_) (fun h => absurd (by decide) h)
  refine lv_aload_n hx hb dX6_meetsRing_134 rfl (lv_at hl 5 rfl) ?_
  refine va_get (D := D) (ci := 8) (v := .ref h8) (C := RX6) (T := TX6) (N := 13) hx hb hts (fun _ h => (List.mem_cons_of_mem _ (List.mem_append_left _ (List.mem_append_left _ (List.mem_append_right _ h))))) hown hK hP 1 rfl rfl 6 (by decide) (hts (.fieldLink RX6 30 "SelfishJunction$Survey" "marks" "[I") (List.mem_cons_of_mem _ (List.mem_append_left _ (List.mem_append_left _ (List.mem_append_left _ (List.mem_append_left _ (List.mem_of_getElem? (i := 3) rfl))))))) (fun _ h9 => h9) rfl dX6_meetsRing_135 ?_
  refine lv_iload hx hb dX6_meetsRing_138 (lv_at hl 0 rfl) ?_
  refine va_iald hx hb hK hP 2 1 rfl rfl (kx_in 0 1000 rfl ⟨(Nat.le_of_ble_eq_true rfl), (Nat.le_of_ble_eq_true rfl)⟩ (Nat.le_of_ble_eq_true rfl)) dX6_meetsRing_140 ?_
  refine lv_topi (fun v_106 ev_106 => ?_)
  obtain rfl : v_106 = 1 := ev_106.trans rfl
  refine lv_iconst (v := 2) hx hb dX6_meetsRing_141 (by decide) ?_
  refine lv_icmp_ne (tgt := 156) hx hb dX6_meetsRing_142 (by decide) (fun _ => ?_) (fun h => absurd h (by decide))
  refine lv_iload hx hb dX6_meetsRing_156 (lv_at hl 0 rfl) ?_
  refine lv_iload hx hb dX6_meetsRing_158 (lv_at hl 2 rfl) ?_
  refine lv_icmp_eq (tgt := 173) hx hb dX6_meetsRing_160 (by decide) (fun _ => ?_) (fun h => absurd (by decide) h)
  refine lv_iinc (v := 15) (lv' := [(3, .int 15), (6, .int 0), (5, .int 14), (4, .int 0), (2, .int 0), (0, .ref h1), (1, .int 0)]) hx hb dX6_meetsRing_173 hl (k := 3) rfl (by decide) (by decide) rfl (fun ls hl => ?_)
  refine lv_goto (tgt := 10) hx hb dX6_meetsRing_176 (by decide) ?_
  refine lv_iload_n hx hb dX6_meetsRing_10 rfl (lv_at hl 0 rfl) ?_
  refine lv_ldc (v := 1000000) hx hb hown (hts (.constant RX6 128 (1000000)) (List.mem_cons_of_mem _ (List.mem_append_left _ (List.mem_append_left _ (List.mem_append_left _ (List.mem_append_left _ (List.mem_of_getElem? (i := 0) rfl))))))) dX6_meetsRing_11 ?_
  refine lv_icmp_ge (tgt := 179) hx hb dX6_meetsRing_13 (by decide) (fun h => absurd h (by decide)) (fun _ => ?_)
  refine lv_iload_n hx hb dX6_meetsRing_16 rfl (lv_at hl 4 rfl) ?_
  refine lv_if_lt (tgt := 179) hx hb dX6_meetsRing_17 (by decide) (fun h => absurd h (by decide)) (fun _ => ?_)
  refine lv_aload_n hx hb dX6_meetsRing_20 rfl (lv_at hl 5 rfl) ?_
  refine va_get (D := D) (ci := 8) (v := .ref h11) (C := RX6) (T := TX6) (N := 13) hx hb hts (fun _ h => (List.mem_cons_of_mem _ (List.mem_append_left _ (List.mem_append_left _ (List.mem_append_right _ h))))) hown hK hP 1 rfl rfl 9 (by decide) (hts (.fieldLink RX6 39 "SelfishJunction$Survey" "stack" "[I") (List.mem_cons_of_mem _ (List.mem_append_left _ (List.mem_append_left _ (List.mem_append_left _ (List.mem_append_left _ (List.mem_of_getElem? (i := 1) rfl))))))) (fun _ h9 => h9) rfl dX6_meetsRing_21 ?_
  refine lv_iload_n hx hb dX6_meetsRing_24 rfl (lv_at hl 4 rfl) ?_
  refine va_iald hx hb hK hP 5 1 rfl rfl (kx_in 0 1000 rfl ⟨(Nat.le_of_ble_eq_true rfl), (Nat.le_of_ble_eq_true rfl)⟩ (Nat.le_of_ble_eq_true rfl)) dX6_meetsRing_25 ?_
  refine lv_topi (fun v_107 ev_107 => ?_)
  obtain rfl : v_107 = 0 := ev_107.trans rfl
  refine lv_istore (lv' := [(4, .int 0), (3, .int 15), (6, .int 0), (5, .int 14), (2, .int 0), (0, .ref h1), (1, .int 0)]) hx hb dX6_meetsRing_26 hl (by decide) rfl (fun ls hl => ?_)
  refine lv_aload_n hx hb dX6_meetsRing_28 rfl (lv_at hl 5 rfl) ?_
  refine va_get (D := D) (ci := 8) (v := .ref h10) (C := RX6) (T := TX6) (N := 13) hx hb hts (fun _ h => (List.mem_cons_of_mem _ (List.mem_append_left _ (List.mem_append_left _ (List.mem_append_right _ h))))) hown hK hP 1 rfl rfl 8 (by decide) (hts (.fieldLink RX6 36 "SelfishJunction$Survey" "tried" "[I") (List.mem_cons_of_mem _ (List.mem_append_left _ (List.mem_append_left _ (List.mem_append_left _ (List.mem_append_left _ (List.mem_of_getElem? (i := 2) rfl))))))) (fun _ h9 => h9) rfl dX6_meetsRing_29 ?_
  refine lv_iload hx hb dX6_meetsRing_32 (lv_at hl 0 rfl) ?_
  refine va_iald hx hb hK hP 4 1 rfl rfl (kx_in 0 1000 rfl ⟨(Nat.le_of_ble_eq_true rfl), (Nat.le_of_ble_eq_true rfl)⟩ (Nat.le_of_ble_eq_true rfl)) dX6_meetsRing_34 ?_
  refine lv_topi (fun v_108 ev_108 => ?_)
  obtain rfl : v_108 = 15 := ev_108.trans rfl
  refine lv_bipush (v := 30) hx hb dX6_meetsRing_35 (by decide) ?_
  refine lv_icmp_lt (tgt := 70) hx hb dX6_meetsRing_37 (by decide) (fun _ => ?_) (fun h => absurd (by decide) h)
  refine lv_aload_n hx hb dX6_meetsRing_70 rfl (lv_at hl 5 rfl) ?_
  refine va_get (D := D) (ci := 8) (v := .ref h10) (C := RX6) (T := TX6) (N := 13) hx hb hts (fun _ h => (List.mem_cons_of_mem _ (List.mem_append_left _ (List.mem_append_left _ (List.mem_append_right _ h))))) hown hK hP 1 rfl rfl 8 (by decide) (hts (.fieldLink RX6 36 "SelfishJunction$Survey" "tried" "[I") (List.mem_cons_of_mem _ (List.mem_append_left _ (List.mem_append_left _ (List.mem_append_left _ (List.mem_append_left _ (List.mem_of_getElem? (i := 2) rfl))))))) (fun _ h9 => h9) rfl dX6_meetsRing_71 ?_
  refine lv_iload hx hb dX6_meetsRing_74 (lv_at hl 0 rfl) ?_
  refine lv_dup2_11 hx hb dX6_meetsRing_76 rfl rfl ?_
  refine va_iald hx hb hK hP 4 1 rfl rfl (kx_in 0 1000 rfl ⟨(Nat.le_of_ble_eq_true rfl), (Nat.le_of_ble_eq_true rfl)⟩ (Nat.le_of_ble_eq_true rfl)) dX6_meetsRing_77 ?_
  refine lv_topi (fun v_109 ev_109 => ?_)
  obtain rfl : v_109 = 15 := ev_109.trans rfl
  refine lv_dup_x2 hx hb dX6_meetsRing_78 rfl rfl rfl ?_
  refine lv_iconst (v := 1) hx hb dX6_meetsRing_79 (by decide) ?_
  refine lv_iadd hx hb dX6_meetsRing_80 ?_
  refine lv_topi (fun v_110 ev_110 => ?_)
  obtain rfl : v_110 = 16 := ev_110.trans (by decide)
  refine va_iast hx hb hK hP hD hS 4 1 rfl rfl (kx_in 0 1000 rfl ⟨(Nat.le_of_ble_eq_true rfl), (Nat.le_of_ble_eq_true rfl)⟩ (Nat.le_of_ble_eq_true rfl)) dX6_meetsRing_81 (fun H locs hP hD hS => ?_)
  have hP : va_P D vwCl [(h7, .inl (cy 1, 1000, .inl g15)), (h1, .inr (8, [x2, x3, x4, x5, x6, .ref h7, .ref h8, .ref h9, .ref h10, .ref h11, x12, x13, x14])), (h8, .inl (cy 1, 1000, .inl (upd g16 0 1))), (h9, .inl (cy 1, 1000, .inl (upd g17 0 0))), (h10, .inl (cy 1, 1000, .inl (upd (upd g18 0 15) 0 16))), (h11, .inl (cy 1, 1000, .inl (upd g19 0 0)))] H := hP
  have hD : va_D A [(h7, .inl (cy 1, 1000, .inl g15)), (h1, .inr (8, [x2, x3, x4, x5, x6, .ref h7, .ref h8, .ref h9, .ref h10, .ref h11, x12, x13, x14])), (h8, .inl (cy 1, 1000, .inl (upd g16 0 1))), (h9, .inl (cy 1, 1000, .inl (upd g17 0 0))), (h10, .inl (cy 1, 1000, .inl (upd (upd g18 0 15) 0 16))), (h11, .inl (cy 1, 1000, .inl (upd g19 0 0)))] := hD
  rw [kx_uu] at hP hD
  refine lv_istore (lv' := [(5, .int 15), (4, .int 0), (3, .int 15), (6, .int 0), (2, .int 0), (0, .ref h1), (1, .int 0)]) hx hb dX6_meetsRing_82 hl (by decide) rfl (fun ls hl => ?_)
  refine lv_aload_n hx hb dX6_meetsRing_84 rfl (lv_at hl 5 rfl) ?_
  refine va_get (D := D) (ci := 8) (v := .ref h7) (C := RX6) (T := TX6) (N := 13) hx hb hts (fun _ h => (List.mem_cons_of_mem _ (List.mem_append_left _ (List.mem_append_left _ (List.mem_append_right _ h))))) hown hK hP 1 rfl rfl 5 (by decide) (hts (.fieldLink RX6 27 "SelfishJunction$Survey" "moves" "[I") (List.mem_cons_of_mem _ (List.mem_append_left _ (List.mem_append_left _ (List.mem_append_left _ (List.mem_append_left _ (List.mem_of_getElem? (i := 4) rfl))))))) (fun _ h9 => h9) rfl dX6_meetsRing_85 ?_
  refine lv_iload hx hb dX6_meetsRing_88 (lv_at hl 1 rfl) ?_
  refine va_iald hx hb hK hP 0 1 rfl rfl (kx_in 0 1000 rfl ⟨(Nat.le_of_ble_eq_true rfl), (Nat.le_of_ble_eq_true rfl)⟩ (Nat.le_of_ble_eq_true rfl)) dX6_meetsRing_90 ?_
  refine lv_topi (fun v_111 ev_111 => ?_)
  obtain rfl : v_111 = 0 := ev_111.trans (kg15_0)
  refine lv_iload hx hb dX6_meetsRing_91 (lv_at hl 0 rfl) ?_
  have hPc := hP.sub (ws' := []) [] rfl
  refine va_calli (va_runSN (As := [.int 0, .int 15]) (rest := []) ⟨hx, hb, hml, hown, hts⟩ (k_X7_hasBit_15 l D cy ) ⟨va_cnB 2 hts gX6_meetsRing_X7_hasBit_n132 rfl rfl rfl (exP.nest hE (RX6, 132, yX7_hasBit, RX7) (by decide +kernel)) (hts (.initialized RX7) (List.mem_cons_of_mem _ (List.mem_append_left _ (List.mem_append_left _ (List.mem_append_left _ (List.mem_append_left _ (List.mem_of_getElem? (i := 20) rfl))))))) (by decide +kernel) ⟨(Nat.le_of_ble_eq_true rfl), (Nat.le_of_ble_eq_true rfl)⟩, (hts (.static yX7_hasBit) (List.mem_cons_of_mem _ (List.mem_append_left _ (List.mem_append_left _ (List.mem_append_left _ (List.mem_append_left _ (List.mem_of_getElem? (i := 19) rfl))))))), trivial⟩ ⟨kR_fb, (kR_go hPc hK)⟩ rfl rfl hl.1 rfl (lv_room (Nat.le_of_ble_eq_true rfl)) dX6_meetsRing_93 ⟨(Nat.le_of_ble_eq_true rfl), (Nat.le_of_ble_eq_true rfl)⟩) hS (fun _ _ h => h.elim) (fun _ h => h.elim) (fun r9 u t H locs ht hvm hw hB hz1 hk1 hS => ?_)
  have hP := kx_kept hP hk1
  obtain ⟨rfl, hw⟩ := hw
  refine lv_if_eq (tgt := 110) hx hb dX6_meetsRing_96 (by decide) (fun _ => ?_) (fun h => absurd (by decide) h)
  refine lv_iload hx hb dX6_meetsRing_110 (lv_at hl 1 rfl) ?_
  refine lv_istore (lv' := [(6, .int 0), (5, .int 15), (4, .int 0), (3, .int 15), (2, .int 0), (0, .ref h1), (1, .int 0)]) hx hb dX6_meetsRing_112 hl (by decide) rfl (fun ls hl => ?_)
  refine lv_iload hx hb dX6_meetsRing_114 (lv_at hl 0 rfl) ?_
  refine lv_iload hx hb dX6_meetsRing_116 (lv_at hl 2 rfl) ?_
  refine lv_icmp_eq (tgt := 134) hx hb dX6_meetsRing_118 (by decide) (fun _ => ?_) (fun h => absurd (by decide) h)
  refine lv_aload_n hx hb dX6_meetsRing_134 rfl (lv_at hl 5 rfl) ?_
  refine va_get (D := D) (ci := 8) (v := .ref h8) (C := RX6) (T := TX6) (N := 13) hx hb hts (fun _ h => (List.mem_cons_of_mem _ (List.mem_append_left _ (List.mem_append_left _ (List.mem_append_right _ h))))) hown hK hP 1 rfl rfl 6 (by decide) (hts (.fieldLink RX6 30 "SelfishJunction$Survey" "marks" "[I") (List.mem_cons_of_mem _ (List.mem_append_left _ (List.mem_append_left _ (List.mem_append_left _ (List.mem_append_left _ (List.mem_of_getElem? (i := 3) rfl))))))) (fun _ h9 => h9) rfl dX6_meetsRing_135 ?_
  refine lv_iload hx hb dX6_meetsRing_138 (lv_at hl 0 rfl) ?_
  refine va_iald hx hb hK hP 2 1 rfl rfl (kx_in 0 1000 rfl ⟨(Nat.le_of_ble_eq_true rfl), (Nat.le_of_ble_eq_true rfl)⟩ (Nat.le_of_ble_eq_true rfl)) dX6_meetsRing_140 ?_
  refine lv_topi (fun v_113 ev_113 => ?_)
  obtain rfl : v_113 = 1 := ev_113.trans rfl
  refine lv_iconst (v := 2) hx hb dX6_meetsRing_141 (by decide) ?_
  refine lv_icmp_ne (tgt := 156) hx hb dX6_meetsRing_142 (by decide) (fun _ => ?_) (fun h => absurd h (by decide))
  refine lv_iload hx hb dX6_meetsRing_156 (lv_at hl 0 rfl) ?_
  refine lv_iload hx hb dX6_meetsRing_158 (lv_at hl 2 rfl) ?_
  refine lv_icmp_eq (tgt := 173) hx hb dX6_meetsRing_160 (by decide) (fun _ => ?_) (fun h => absurd (by decide) h)
  refine lv_iinc (v := 16) (lv' := [(3, .int 16), (6, .int 0), (5, .int 15), (4, .int 0), (2, .int 0), (0, .ref h1), (1, .int 0)]) hx hb dX6_meetsRing_173 hl (k := 3) rfl (by decide) (by decide) rfl (fun ls hl => ?_)
  refine lv_goto (tgt := 10) hx hb dX6_meetsRing_176 (by decide) ?_
  refine lv_iload_n hx hb dX6_meetsRing_10 rfl (lv_at hl 0 rfl) ?_
  refine lv_ldc (v := 1000000) hx hb hown (hts (.constant RX6 128 (1000000)) (List.mem_cons_of_mem _ (List.mem_append_left _ (List.mem_append_left _ (List.mem_append_left _ (List.mem_append_left _ (List.mem_of_getElem? (i := 0) rfl))))))) dX6_meetsRing_11 ?_
  refine lv_icmp_ge (tgt := 179) hx hb dX6_meetsRing_13 (by decide) (fun h => absurd h (by decide)) (fun _ => ?_)
  refine lv_iload_n hx hb dX6_meetsRing_16 rfl (lv_at hl 4 rfl) ?_
  refine lv_if_lt (tgt := 179) hx hb dX6_meetsRing_17 (by decide) (fun h => absurd h (by decide)) (fun _ => ?_)
  refine lv_aload_n hx hb dX6_meetsRing_20 rfl (lv_at hl 5 rfl) ?_
  refine va_get (D := D) (ci := 8) (v := .ref h11) (C := RX6) (T := TX6) (N := 13) hx hb hts (fun _ h => (List.mem_cons_of_mem _ (List.mem_append_left _ (List.mem_append_left _ (List.mem_append_right _ h))))) hown hK hP 1 rfl rfl 9 (by decide) (hts (.fieldLink RX6 39 "SelfishJunction$Survey" "stack" "[I") (List.mem_cons_of_mem _ (List.mem_append_left _ (List.mem_append_left _ (List.mem_append_left _ (List.mem_append_left _ (List.mem_of_getElem? (i := 1) rfl))))))) (fun _ h9 => h9) rfl dX6_meetsRing_21 ?_
  refine lv_iload_n hx hb dX6_meetsRing_24 rfl (lv_at hl 4 rfl) ?_
  refine va_iald hx hb hK hP 5 1 rfl rfl (kx_in 0 1000 rfl ⟨(Nat.le_of_ble_eq_true rfl), (Nat.le_of_ble_eq_true rfl)⟩ (Nat.le_of_ble_eq_true rfl)) dX6_meetsRing_25 ?_
  refine lv_topi (fun v_114 ev_114 => ?_)
  obtain rfl : v_114 = 0 := ev_114.trans rfl
  refine lv_istore (lv' := [(4, .int 0), (3, .int 16), (6, .int 0), (5, .int 15), (2, .int 0), (0, .ref h1), (1, .int 0)]) hx hb dX6_meetsRing_26 hl (by decide) rfl (fun ls hl => ?_)
  refine lv_aload_n hx hb dX6_meetsRing_28 rfl (lv_at hl 5 rfl) ?_
  refine va_get (D := D) (ci := 8) (v := .ref h10) (C := RX6) (T := TX6) (N := 13) hx hb hts (fun _ h => (List.mem_cons_of_mem _ (List.mem_append_left _ (List.mem_append_left _ (List.mem_append_right _ h))))) hown hK hP 1 rfl rfl 8 (by decide) (hts (.fieldLink RX6 36 "SelfishJunction$Survey" "tried" "[I") (List.mem_cons_of_mem _ (List.mem_append_left _ (List.mem_append_left _ (List.mem_append_left _ (List.mem_append_left _ (List.mem_of_getElem? (i := 2) rfl))))))) (fun _ h9 => h9) rfl dX6_meetsRing_29 ?_
  refine lv_iload hx hb dX6_meetsRing_32 (lv_at hl 0 rfl) ?_
  refine va_iald hx hb hK hP 4 1 rfl rfl (kx_in 0 1000 rfl ⟨(Nat.le_of_ble_eq_true rfl), (Nat.le_of_ble_eq_true rfl)⟩ (Nat.le_of_ble_eq_true rfl)) dX6_meetsRing_34 ?_
  refine lv_topi (fun v_115 ev_115 => ?_)
  obtain rfl : v_115 = 16 := ev_115.trans rfl
  refine lv_bipush (v := 30) hx hb dX6_meetsRing_35 (by decide) ?_
  refine lv_icmp_lt (tgt := 70) hx hb dX6_meetsRing_37 (by decide) (fun _ => ?_) (fun h => absurd (by decide) h)
  refine lv_aload_n hx hb dX6_meetsRing_70 rfl (lv_at hl 5 rfl) ?_
  refine va_get (D := D) (ci := 8) (v := .ref h10) (C := RX6) (T := TX6) (N := 13) hx hb hts (fun _ h => (List.mem_cons_of_mem _ (List.mem_append_left _ (List.mem_append_left _ (List.mem_append_right _ h))))) hown hK hP 1 rfl rfl 8 (by decide) (hts (.fieldLink RX6 36 "SelfishJunction$Survey" "tried" "[I") (List.mem_cons_of_mem _ (List.mem_append_left _ (List.mem_append_left _ (List.mem_append_left _ (List.mem_append_left _ (List.mem_of_getElem? (i := 2) rfl))))))) (fun _ h9 => h9) rfl dX6_meetsRing_71 ?_
  refine lv_iload hx hb dX6_meetsRing_74 (lv_at hl 0 rfl) ?_
  refine lv_dup2_11 hx hb dX6_meetsRing_76 rfl rfl ?_
  refine va_iald hx hb hK hP 4 1 rfl rfl (kx_in 0 1000 rfl ⟨(Nat.le_of_ble_eq_true rfl), (Nat.le_of_ble_eq_true rfl)⟩ (Nat.le_of_ble_eq_true rfl)) dX6_meetsRing_77 ?_
  refine lv_topi (fun v_116 ev_116 => ?_)
  obtain rfl : v_116 = 16 := ev_116.trans rfl
  refine lv_dup_x2 hx hb dX6_meetsRing_78 rfl rfl rfl ?_
  refine lv_iconst (v := 1) hx hb dX6_meetsRing_79 (by decide) ?_
  refine lv_iadd hx hb dX6_meetsRing_80 ?_
  refine lv_topi (fun v_117 ev_117 => ?_)
  obtain rfl : v_117 = 17 := ev_117.trans (by decide)
  refine va_iast hx hb hK hP hD hS 4 1 rfl rfl (kx_in 0 1000 rfl ⟨(Nat.le_of_ble_eq_true rfl), (Nat.le_of_ble_eq_true rfl)⟩ (Nat.le_of_ble_eq_true rfl)) dX6_meetsRing_81 (fun H locs hP hD hS => ?_)
  have hP : va_P D vwCl [(h7, .inl (cy 1, 1000, .inl g15)), (h1, .inr (8, [x2, x3, x4, x5, x6, .ref h7, .ref h8, .ref h9, .ref h10, .ref h11, x12, x13, x14])), (h8, .inl (cy 1, 1000, .inl (upd g16 0 1))), (h9, .inl (cy 1, 1000, .inl (upd g17 0 0))), (h10, .inl (cy 1, 1000, .inl (upd (upd g18 0 16) 0 17))), (h11, .inl (cy 1, 1000, .inl (upd g19 0 0)))] H := hP
  have hD : va_D A [(h7, .inl (cy 1, 1000, .inl g15)), (h1, .inr (8, [x2, x3, x4, x5, x6, .ref h7, .ref h8, .ref h9, .ref h10, .ref h11, x12, x13, x14])), (h8, .inl (cy 1, 1000, .inl (upd g16 0 1))), (h9, .inl (cy 1, 1000, .inl (upd g17 0 0))), (h10, .inl (cy 1, 1000, .inl (upd (upd g18 0 16) 0 17))), (h11, .inl (cy 1, 1000, .inl (upd g19 0 0)))] := hD
  rw [kx_uu] at hP hD
  refine lv_istore (lv' := [(5, .int 16), (4, .int 0), (3, .int 16), (6, .int 0), (2, .int 0), (0, .ref h1), (1, .int 0)]) hx hb dX6_meetsRing_82 hl (by decide) rfl (fun ls hl => ?_)
  refine lv_aload_n hx hb dX6_meetsRing_84 rfl (lv_at hl 5 rfl) ?_
  refine va_get (D := D) (ci := 8) (v := .ref h7) (C := RX6) (T := TX6) (N := 13) hx hb hts (fun _ h => (List.mem_cons_of_mem _ (List.mem_append_left _ (List.mem_append_left _ (List.mem_append_right _ h))))) hown hK hP 1 rfl rfl 5 (by decide) (hts (.fieldLink RX6 27 "SelfishJunction$Survey" "moves" "[I") (List.mem_cons_of_mem _ (List.mem_append_left _ (List.mem_append_left _ (List.mem_append_left _ (List.mem_append_left _ (List.mem_of_getElem? (i := 4) rfl))))))) (fun _ h9 => h9) rfl dX6_meetsRing_85 ?_
  refine lv_iload hx hb dX6_meetsRing_88 (lv_at hl 1 rfl) ?_
  refine va_iald hx hb hK hP 0 1 rfl rfl (kx_in 0 1000 rfl ⟨(Nat.le_of_ble_eq_true rfl), (Nat.le_of_ble_eq_true rfl)⟩ (Nat.le_of_ble_eq_true rfl)) dX6_meetsRing_90 ?_
  refine lv_topi (fun v_118 ev_118 => ?_)
  obtain rfl : v_118 = 0 := ev_118.trans (kg15_0)
  refine lv_iload hx hb dX6_meetsRing_91 (lv_at hl 0 rfl) ?_
  have hPc := hP.sub (ws' := []) [] rfl
  refine va_calli (va_runSN (As := [.int 0, .int 16]) (rest := []) ⟨hx, hb, hml, hown, hts⟩ (k_X7_hasBit_16 l D cy ) ⟨va_cnB 2 hts gX6_meetsRing_X7_hasBit_n132 rfl rfl rfl (exP.nest hE (RX6, 132, yX7_hasBit, RX7) (by decide +kernel)) (hts (.initialized RX7) (List.mem_cons_of_mem _ (List.mem_append_left _ (List.mem_append_left _ (List.mem_append_left _ (List.mem_append_left _ (List.mem_of_getElem? (i := 20) rfl))))))) (by decide +kernel) ⟨(Nat.le_of_ble_eq_true rfl), (Nat.le_of_ble_eq_true rfl)⟩, (hts (.static yX7_hasBit) (List.mem_cons_of_mem _ (List.mem_append_left _ (List.mem_append_left _ (List.mem_append_left _ (List.mem_append_left _ (List.mem_of_getElem? (i := 19) rfl))))))), trivial⟩ ⟨kR_fb, (kR_go hPc hK)⟩ rfl rfl hl.1 rfl (lv_room (Nat.le_of_ble_eq_true rfl)) dX6_meetsRing_93 ⟨(Nat.le_of_ble_eq_true rfl), (Nat.le_of_ble_eq_true rfl)⟩) hS (fun _ _ h => h.elim) (fun _ h => h.elim) (fun r9 u t H locs ht hvm hw hB hz1 hk1 hS => ?_)
  have hP := kx_kept hP hk1
  obtain ⟨rfl, hw⟩ := hw
  refine lv_if_eq (tgt := 110) hx hb dX6_meetsRing_96 (by decide) (fun _ => ?_) (fun h => absurd (by decide) h)
  refine lv_iload hx hb dX6_meetsRing_110 (lv_at hl 1 rfl) ?_
  refine lv_istore (lv' := [(6, .int 0), (5, .int 16), (4, .int 0), (3, .int 16), (2, .int 0), (0, .ref h1), (1, .int 0)]) hx hb dX6_meetsRing_112 hl (by decide) rfl (fun ls hl => ?_)
  refine lv_iload hx hb dX6_meetsRing_114 (lv_at hl 0 rfl) ?_
  refine lv_iload hx hb dX6_meetsRing_116 (lv_at hl 2 rfl) ?_
  refine lv_icmp_eq (tgt := 134) hx hb dX6_meetsRing_118 (by decide) (fun _ => ?_) (fun h => absurd (by decide) h)
  refine lv_aload_n hx hb dX6_meetsRing_134 rfl (lv_at hl 5 rfl) ?_
  refine va_get (D := D) (ci := 8) (v := .ref h8) (C := RX6) (T := TX6) (N := 13) hx hb hts (fun _ h => (List.mem_cons_of_mem _ (List.mem_append_left _ (List.mem_append_left _ (List.mem_append_right _ h))))) hown hK hP 1 rfl rfl 6 (by decide) (hts (.fieldLink RX6 30 "SelfishJunction$Survey" "marks" "[I") (List.mem_cons_of_mem _ (List.mem_append_left _ (List.mem_append_left _ (List.mem_append_left _ (List.mem_append_left _ (List.mem_of_getElem? (i := 3) rfl))))))) (fun _ h9 => h9) rfl dX6_meetsRing_135 ?_
  refine lv_iload hx hb dX6_meetsRing_138 (lv_at hl 0 rfl) ?_
  refine va_iald hx hb hK hP 2 1 rfl rfl (kx_in 0 1000 rfl ⟨(Nat.le_of_ble_eq_true rfl), (Nat.le_of_ble_eq_true rfl)⟩ (Nat.le_of_ble_eq_true rfl)) dX6_meetsRing_140 ?_
  refine lv_topi (fun v_120 ev_120 => ?_)
  obtain rfl : v_120 = 1 := ev_120.trans rfl
  refine lv_iconst (v := 2) hx hb dX6_meetsRing_141 (by decide) ?_
  refine lv_icmp_ne (tgt := 156) hx hb dX6_meetsRing_142 (by decide) (fun _ => ?_) (fun h => absurd h (by decide))
  refine lv_iload hx hb dX6_meetsRing_156 (lv_at hl 0 rfl) ?_
  refine lv_iload hx hb dX6_meetsRing_158 (lv_at hl 2 rfl) ?_
  refine lv_icmp_eq (tgt := 173) hx hb dX6_meetsRing_160 (by decide) (fun _ => ?_) (fun h => absurd (by decide) h)
  refine lv_iinc (v := 17) (lv' := [(3, .int 17), (6, .int 0), (5, .int 16), (4, .int 0), (2, .int 0), (0, .ref h1), (1, .int 0)]) hx hb dX6_meetsRing_173 hl (k := 3) rfl (by decide) (by decide) rfl (fun ls hl => ?_)
  refine lv_goto (tgt := 10) hx hb dX6_meetsRing_176 (by decide) ?_
  refine lv_iload_n hx hb dX6_meetsRing_10 rfl (lv_at hl 0 rfl) ?_
  refine lv_ldc (v := 1000000) hx hb hown (hts (.constant RX6 128 (1000000)) (List.mem_cons_of_mem _ (List.mem_append_left _ (List.mem_append_left _ (List.mem_append_left _ (List.mem_append_left _ (List.mem_of_getElem? (i := 0) rfl))))))) dX6_meetsRing_11 ?_
  refine lv_icmp_ge (tgt := 179) hx hb dX6_meetsRing_13 (by decide) (fun h => absurd h (by decide)) (fun _ => ?_)
  refine lv_iload_n hx hb dX6_meetsRing_16 rfl (lv_at hl 4 rfl) ?_
  refine lv_if_lt (tgt := 179) hx hb dX6_meetsRing_17 (by decide) (fun h => absurd h (by decide)) (fun _ => ?_)
  refine lv_aload_n hx hb dX6_meetsRing_20 rfl (lv_at hl 5 rfl) ?_
  refine va_get (D := D) (ci := 8) (v := .ref h11) (C := RX6) (T := TX6) (N := 13) hx hb hts (fun _ h => (List.mem_cons_of_mem _ (List.mem_append_left _ (List.mem_append_left _ (List.mem_append_right _ h))))) hown hK hP 1 rfl rfl 9 (by decide) (hts (.fieldLink RX6 39 "SelfishJunction$Survey" "stack" "[I") (List.mem_cons_of_mem _ (List.mem_append_left _ (List.mem_append_left _ (List.mem_append_left _ (List.mem_append_left _ (List.mem_of_getElem? (i := 1) rfl))))))) (fun _ h9 => h9) rfl dX6_meetsRing_21 ?_
  refine lv_iload_n hx hb dX6_meetsRing_24 rfl (lv_at hl 4 rfl) ?_
  refine va_iald hx hb hK hP 5 1 rfl rfl (kx_in 0 1000 rfl ⟨(Nat.le_of_ble_eq_true rfl), (Nat.le_of_ble_eq_true rfl)⟩ (Nat.le_of_ble_eq_true rfl)) dX6_meetsRing_25 ?_
  refine lv_topi (fun v_121 ev_121 => ?_)
  obtain rfl : v_121 = 0 := ev_121.trans rfl
  refine lv_istore (lv' := [(4, .int 0), (3, .int 17), (6, .int 0), (5, .int 16), (2, .int 0), (0, .ref h1), (1, .int 0)]) hx hb dX6_meetsRing_26 hl (by decide) rfl (fun ls hl => ?_)
  refine lv_aload_n hx hb dX6_meetsRing_28 rfl (lv_at hl 5 rfl) ?_
  refine va_get (D := D) (ci := 8) (v := .ref h10) (C := RX6) (T := TX6) (N := 13) hx hb hts (fun _ h => (List.mem_cons_of_mem _ (List.mem_append_left _ (List.mem_append_left _ (List.mem_append_right _ h))))) hown hK hP 1 rfl rfl 8 (by decide) (hts (.fieldLink RX6 36 "SelfishJunction$Survey" "tried" "[I") (List.mem_cons_of_mem _ (List.mem_append_left _ (List.mem_append_left _ (List.mem_append_left _ (List.mem_append_left _ (List.mem_of_getElem? (i := 2) rfl))))))) (fun _ h9 => h9) rfl dX6_meetsRing_29 ?_
  refine lv_iload hx hb dX6_meetsRing_32 (lv_at hl 0 rfl) ?_
  refine va_iald hx hb hK hP 4 1 rfl rfl (kx_in 0 1000 rfl ⟨(Nat.le_of_ble_eq_true rfl), (Nat.le_of_ble_eq_true rfl)⟩ (Nat.le_of_ble_eq_true rfl)) dX6_meetsRing_34 ?_
  refine lv_topi (fun v_122 ev_122 => ?_)
  obtain rfl : v_122 = 17 := ev_122.trans rfl
  refine lv_bipush (v := 30) hx hb dX6_meetsRing_35 (by decide) ?_
  refine lv_icmp_lt (tgt := 70) hx hb dX6_meetsRing_37 (by decide) (fun _ => ?_) (fun h => absurd (by decide) h)
  refine lv_aload_n hx hb dX6_meetsRing_70 rfl (lv_at hl 5 rfl) ?_
  refine va_get (D := D) (ci := 8) (v := .ref h10) (C := RX6) (T := TX6) (N := 13) hx hb hts (fun _ h => (List.mem_cons_of_mem _ (List.mem_append_left _ (List.mem_append_left _ (List.mem_append_right _ h))))) hown hK hP 1 rfl rfl 8 (by decide) (hts (.fieldLink RX6 36 "SelfishJunction$Survey" "tried" "[I") (List.mem_cons_of_mem _ (List.mem_append_left _ (List.mem_append_left _ (List.mem_append_left _ (List.mem_append_left _ (List.mem_of_getElem? (i := 2) rfl))))))) (fun _ h9 => h9) rfl dX6_meetsRing_71 ?_
  refine lv_iload hx hb dX6_meetsRing_74 (lv_at hl 0 rfl) ?_
  refine lv_dup2_11 hx hb dX6_meetsRing_76 rfl rfl ?_
  refine va_iald hx hb hK hP 4 1 rfl rfl (kx_in 0 1000 rfl ⟨(Nat.le_of_ble_eq_true rfl), (Nat.le_of_ble_eq_true rfl)⟩ (Nat.le_of_ble_eq_true rfl)) dX6_meetsRing_77 ?_
  refine lv_topi (fun v_123 ev_123 => ?_)
  obtain rfl : v_123 = 17 := ev_123.trans rfl
  refine lv_dup_x2 hx hb dX6_meetsRing_78 rfl rfl rfl ?_
  refine lv_iconst (v := 1) hx hb dX6_meetsRing_79 (by decide) ?_
  refine lv_iadd hx hb dX6_meetsRing_80 ?_
  refine lv_topi (fun v_124 ev_124 => ?_)
  obtain rfl : v_124 = 18 := ev_124.trans (by decide)
  refine va_iast hx hb hK hP hD hS 4 1 rfl rfl (kx_in 0 1000 rfl ⟨(Nat.le_of_ble_eq_true rfl), (Nat.le_of_ble_eq_true rfl)⟩ (Nat.le_of_ble_eq_true rfl)) dX6_meetsRing_81 (fun H locs hP hD hS => ?_)
  have hP : va_P D vwCl [(h7, .inl (cy 1, 1000, .inl g15)), (h1, .inr (8, [x2, x3, x4, x5, x6, .ref h7, .ref h8, .ref h9, .ref h10, .ref h11, x12, x13, x14])), (h8, .inl (cy 1, 1000, .inl (upd g16 0 1))), (h9, .inl (cy 1, 1000, .inl (upd g17 0 0))), (h10, .inl (cy 1, 1000, .inl (upd (upd g18 0 17) 0 18))), (h11, .inl (cy 1, 1000, .inl (upd g19 0 0)))] H := hP
  have hD : va_D A [(h7, .inl (cy 1, 1000, .inl g15)), (h1, .inr (8, [x2, x3, x4, x5, x6, .ref h7, .ref h8, .ref h9, .ref h10, .ref h11, x12, x13, x14])), (h8, .inl (cy 1, 1000, .inl (upd g16 0 1))), (h9, .inl (cy 1, 1000, .inl (upd g17 0 0))), (h10, .inl (cy 1, 1000, .inl (upd (upd g18 0 17) 0 18))), (h11, .inl (cy 1, 1000, .inl (upd g19 0 0)))] := hD
  rw [kx_uu] at hP hD
  refine lv_istore (lv' := [(5, .int 17), (4, .int 0), (3, .int 17), (6, .int 0), (2, .int 0), (0, .ref h1), (1, .int 0)]) hx hb dX6_meetsRing_82 hl (by decide) rfl (fun ls hl => ?_)
  refine lv_aload_n hx hb dX6_meetsRing_84 rfl (lv_at hl 5 rfl) ?_
  refine va_get (D := D) (ci := 8) (v := .ref h7) (C := RX6) (T := TX6) (N := 13) hx hb hts (fun _ h => (List.mem_cons_of_mem _ (List.mem_append_left _ (List.mem_append_left _ (List.mem_append_right _ h))))) hown hK hP 1 rfl rfl 5 (by decide) (hts (.fieldLink RX6 27 "SelfishJunction$Survey" "moves" "[I") (List.mem_cons_of_mem _ (List.mem_append_left _ (List.mem_append_left _ (List.mem_append_left _ (List.mem_append_left _ (List.mem_of_getElem? (i := 4) rfl))))))) (fun _ h9 => h9) rfl dX6_meetsRing_85 ?_
  refine lv_iload hx hb dX6_meetsRing_88 (lv_at hl 1 rfl) ?_
  refine va_iald hx hb hK hP 0 1 rfl rfl (kx_in 0 1000 rfl ⟨(Nat.le_of_ble_eq_true rfl), (Nat.le_of_ble_eq_true rfl)⟩ (Nat.le_of_ble_eq_true rfl)) dX6_meetsRing_90 ?_
  refine lv_topi (fun v_125 ev_125 => ?_)
  obtain rfl : v_125 = 0 := ev_125.trans (kg15_0)
  refine lv_iload hx hb dX6_meetsRing_91 (lv_at hl 0 rfl) ?_
  have hPc := hP.sub (ws' := []) [] rfl
  refine va_calli (va_runSN (As := [.int 0, .int 17]) (rest := []) ⟨hx, hb, hml, hown, hts⟩ (k_X7_hasBit_17 l D cy ) ⟨va_cnB 2 hts gX6_meetsRing_X7_hasBit_n132 rfl rfl rfl (exP.nest hE (RX6, 132, yX7_hasBit, RX7) (by decide +kernel)) (hts (.initialized RX7) (List.mem_cons_of_mem _ (List.mem_append_left _ (List.mem_append_left _ (List.mem_append_left _ (List.mem_append_left _ (List.mem_of_getElem? (i := 20) rfl))))))) (by decide +kernel) ⟨(Nat.le_of_ble_eq_true rfl), (Nat.le_of_ble_eq_true rfl)⟩, (hts (.static yX7_hasBit) (List.mem_cons_of_mem _ (List.mem_append_left _ (List.mem_append_left _ (List.mem_append_left _ (List.mem_append_left _ (List.mem_of_getElem? (i := 19) rfl))))))), trivial⟩ ⟨kR_fb, (kR_go hPc hK)⟩ rfl rfl hl.1 rfl (lv_room (Nat.le_of_ble_eq_true rfl)) dX6_meetsRing_93 ⟨(Nat.le_of_ble_eq_true rfl), (Nat.le_of_ble_eq_true rfl)⟩) hS (fun _ _ h => h.elim) (fun _ h => h.elim) (fun r9 u t H locs ht hvm hw hB hz1 hk1 hS => ?_)
  have hP := kx_kept hP hk1
  obtain ⟨rfl, hw⟩ := hw
  refine lv_if_eq (tgt := 110) hx hb dX6_meetsRing_96 (by decide) (fun _ => ?_) (fun h => absurd (by decide) h)
  refine lv_iload hx hb dX6_meetsRing_110 (lv_at hl 1 rfl) ?_
  refine lv_istore (lv' := [(6, .int 0), (5, .int 17), (4, .int 0), (3, .int 17), (2, .int 0), (0, .ref h1), (1, .int 0)]) hx hb dX6_meetsRing_112 hl (by decide) rfl (fun ls hl => ?_)
  refine lv_iload hx hb dX6_meetsRing_114 (lv_at hl 0 rfl) ?_
  refine lv_iload hx hb dX6_meetsRing_116 (lv_at hl 2 rfl) ?_
  refine lv_icmp_eq (tgt := 134) hx hb dX6_meetsRing_118 (by decide) (fun _ => ?_) (fun h => absurd (by decide) h)
  refine lv_aload_n hx hb dX6_meetsRing_134 rfl (lv_at hl 5 rfl) ?_
  refine va_get (D := D) (ci := 8) (v := .ref h8) (C := RX6) (T := TX6) (N := 13) hx hb hts (fun _ h => (List.mem_cons_of_mem _ (List.mem_append_left _ (List.mem_append_left _ (List.mem_append_right _ h))))) hown hK hP 1 rfl rfl 6 (by decide) (hts (.fieldLink RX6 30 "SelfishJunction$Survey" "marks" "[I") (List.mem_cons_of_mem _ (List.mem_append_left _ (List.mem_append_left _ (List.mem_append_left _ (List.mem_append_left _ (List.mem_of_getElem? (i := 3) rfl))))))) (fun _ h9 => h9) rfl dX6_meetsRing_135 ?_
  refine lv_iload hx hb dX6_meetsRing_138 (lv_at hl 0 rfl) ?_
  refine va_iald hx hb hK hP 2 1 rfl rfl (kx_in 0 1000 rfl ⟨(Nat.le_of_ble_eq_true rfl), (Nat.le_of_ble_eq_true rfl)⟩ (Nat.le_of_ble_eq_true rfl)) dX6_meetsRing_140 ?_
  refine lv_topi (fun v_127 ev_127 => ?_)
  obtain rfl : v_127 = 1 := ev_127.trans rfl
  refine lv_iconst (v := 2) hx hb dX6_meetsRing_141 (by decide) ?_
  refine lv_icmp_ne (tgt := 156) hx hb dX6_meetsRing_142 (by decide) (fun _ => ?_) (fun h => absurd h (by decide))
  refine lv_iload hx hb dX6_meetsRing_156 (lv_at hl 0 rfl) ?_
  refine lv_iload hx hb dX6_meetsRing_158 (lv_at hl 2 rfl) ?_
  refine lv_icmp_eq (tgt := 173) hx hb dX6_meetsRing_160 (by decide) (fun _ => ?_) (fun h => absurd (by decide) h)
  refine lv_iinc (v := 18) (lv' := [(3, .int 18), (6, .int 0), (5, .int 17), (4, .int 0), (2, .int 0), (0, .ref h1), (1, .int 0)]) hx hb dX6_meetsRing_173 hl (k := 3) rfl (by decide) (by decide) rfl (fun ls hl => ?_)
  refine lv_goto (tgt := 10) hx hb dX6_meetsRing_176 (by decide) ?_
  refine lv_iload_n hx hb dX6_meetsRing_10 rfl (lv_at hl 0 rfl) ?_
  refine lv_ldc (v := 1000000) hx hb hown (hts (.constant RX6 128 (1000000)) (List.mem_cons_of_mem _ (List.mem_append_left _ (List.mem_append_left _ (List.mem_append_left _ (List.mem_append_left _ (List.mem_of_getElem? (i := 0) rfl))))))) dX6_meetsRing_11 ?_
  refine lv_icmp_ge (tgt := 179) hx hb dX6_meetsRing_13 (by decide) (fun h => absurd h (by decide)) (fun _ => ?_)
  refine lv_iload_n hx hb dX6_meetsRing_16 rfl (lv_at hl 4 rfl) ?_
  refine lv_if_lt (tgt := 179) hx hb dX6_meetsRing_17 (by decide) (fun h => absurd h (by decide)) (fun _ => ?_)
  refine lv_aload_n hx hb dX6_meetsRing_20 rfl (lv_at hl 5 rfl) ?_
  refine va_get (D := D) (ci := 8) (v := .ref h11) (C := RX6) (T := TX6) (N := 13) hx hb hts (fun _ h => (List.mem_cons_of_mem _ (List.mem_append_left _ (List.mem_append_left _ (List.mem_append_right _ h))))) hown hK hP 1 rfl rfl 9 (by decide) (hts (.fieldLink RX6 39 "SelfishJunction$Survey" "stack" "[I") (List.mem_cons_of_mem _ (List.mem_append_left _ (List.mem_append_left _ (List.mem_append_left _ (List.mem_append_left _ (List.mem_of_getElem? (i := 1) rfl))))))) (fun _ h9 => h9) rfl dX6_meetsRing_21 ?_
  refine lv_iload_n hx hb dX6_meetsRing_24 rfl (lv_at hl 4 rfl) ?_
  refine va_iald hx hb hK hP 5 1 rfl rfl (kx_in 0 1000 rfl ⟨(Nat.le_of_ble_eq_true rfl), (Nat.le_of_ble_eq_true rfl)⟩ (Nat.le_of_ble_eq_true rfl)) dX6_meetsRing_25 ?_
  refine lv_topi (fun v_128 ev_128 => ?_)
  obtain rfl : v_128 = 0 := ev_128.trans rfl
  refine lv_istore (lv' := [(4, .int 0), (3, .int 18), (6, .int 0), (5, .int 17), (2, .int 0), (0, .ref h1), (1, .int 0)]) hx hb dX6_meetsRing_26 hl (by decide) rfl (fun ls hl => ?_)
  refine lv_aload_n hx hb dX6_meetsRing_28 rfl (lv_at hl 5 rfl) ?_
  refine va_get (D := D) (ci := 8) (v := .ref h10) (C := RX6) (T := TX6) (N := 13) hx hb hts (fun _ h => (List.mem_cons_of_mem _ (List.mem_append_left _ (List.mem_append_left _ (List.mem_append_right _ h))))) hown hK hP 1 rfl rfl 8 (by decide) (hts (.fieldLink RX6 36 "SelfishJunction$Survey" "tried" "[I") (List.mem_cons_of_mem _ (List.mem_append_left _ (List.mem_append_left _ (List.mem_append_left _ (List.mem_append_left _ (List.mem_of_getElem? (i := 2) rfl))))))) (fun _ h9 => h9) rfl dX6_meetsRing_29 ?_
  refine lv_iload hx hb dX6_meetsRing_32 (lv_at hl 0 rfl) ?_
  refine va_iald hx hb hK hP 4 1 rfl rfl (kx_in 0 1000 rfl ⟨(Nat.le_of_ble_eq_true rfl), (Nat.le_of_ble_eq_true rfl)⟩ (Nat.le_of_ble_eq_true rfl)) dX6_meetsRing_34 ?_
  refine lv_topi (fun v_129 ev_129 => ?_)
  obtain rfl : v_129 = 18 := ev_129.trans rfl
  refine lv_bipush (v := 30) hx hb dX6_meetsRing_35 (by decide) ?_
  refine lv_icmp_lt (tgt := 70) hx hb dX6_meetsRing_37 (by decide) (fun _ => ?_) (fun h => absurd (by decide) h)
  refine lv_aload_n hx hb dX6_meetsRing_70 rfl (lv_at hl 5 rfl) ?_
  refine va_get (D := D) (ci := 8) (v := .ref h10) (C := RX6) (T := TX6) (N := 13) hx hb hts (fun _ h => (List.mem_cons_of_mem _ (List.mem_append_left _ (List.mem_append_left _ (List.mem_append_right _ h))))) hown hK hP 1 rfl rfl 8 (by decide) (hts (.fieldLink RX6 36 "SelfishJunction$Survey" "tried" "[I") (List.mem_cons_of_mem _ (List.mem_append_left _ (List.mem_append_left _ (List.mem_append_left _ (List.mem_append_left _ (List.mem_of_getElem? (i := 2) rfl))))))) (fun _ h9 => h9) rfl dX6_meetsRing_71 ?_
  refine lv_iload hx hb dX6_meetsRing_74 (lv_at hl 0 rfl) ?_
  refine lv_dup2_11 hx hb dX6_meetsRing_76 rfl rfl ?_
  refine va_iald hx hb hK hP 4 1 rfl rfl (kx_in 0 1000 rfl ⟨(Nat.le_of_ble_eq_true rfl), (Nat.le_of_ble_eq_true rfl)⟩ (Nat.le_of_ble_eq_true rfl)) dX6_meetsRing_77 ?_
  refine lv_topi (fun v_130 ev_130 => ?_)
  obtain rfl : v_130 = 18 := ev_130.trans rfl
  refine lv_dup_x2 hx hb dX6_meetsRing_78 rfl rfl rfl ?_
  refine lv_iconst (v := 1) hx hb dX6_meetsRing_79 (by decide) ?_
  refine lv_iadd hx hb dX6_meetsRing_80 ?_
  refine lv_topi (fun v_131 ev_131 => ?_)
  obtain rfl : v_131 = 19 := ev_131.trans (by decide)
  refine va_iast hx hb hK hP hD hS 4 1 rfl rfl (kx_in 0 1000 rfl ⟨(Nat.le_of_ble_eq_true rfl), (Nat.le_of_ble_eq_true rfl)⟩ (Nat.le_of_ble_eq_true rfl)) dX6_meetsRing_81 (fun H locs hP hD hS => ?_)
  have hP : va_P D vwCl [(h7, .inl (cy 1, 1000, .inl g15)), (h1, .inr (8, [x2, x3, x4, x5, x6, .ref h7, .ref h8, .ref h9, .ref h10, .ref h11, x12, x13, x14])), (h8, .inl (cy 1, 1000, .inl (upd g16 0 1))), (h9, .inl (cy 1, 1000, .inl (upd g17 0 0))), (h10, .inl (cy 1, 1000, .inl (upd (upd g18 0 18) 0 19))), (h11, .inl (cy 1, 1000, .inl (upd g19 0 0)))] H := hP
  have hD : va_D A [(h7, .inl (cy 1, 1000, .inl g15)), (h1, .inr (8, [x2, x3, x4, x5, x6, .ref h7, .ref h8, .ref h9, .ref h10, .ref h11, x12, x13, x14])), (h8, .inl (cy 1, 1000, .inl (upd g16 0 1))), (h9, .inl (cy 1, 1000, .inl (upd g17 0 0))), (h10, .inl (cy 1, 1000, .inl (upd (upd g18 0 18) 0 19))), (h11, .inl (cy 1, 1000, .inl (upd g19 0 0)))] := hD
  rw [kx_uu] at hP hD
  refine lv_istore (lv' := [(5, .int 18), (4, .int 0), (3, .int 18), (6, .int 0), (2, .int 0), (0, .ref h1), (1, .int 0)]) hx hb dX6_meetsRing_82 hl (by decide) rfl (fun ls hl => ?_)
  refine lv_aload_n hx hb dX6_meetsRing_84 rfl (lv_at hl 5 rfl) ?_
  refine va_get (D := D) (ci := 8) (v := .ref h7) (C := RX6) (T := TX6) (N := 13) hx hb hts (fun _ h => (List.mem_cons_of_mem _ (List.mem_append_left _ (List.mem_append_left _ (List.mem_append_right _ h))))) hown hK hP 1 rfl rfl 5 (by decide) (hts (.fieldLink RX6 27 "SelfishJunction$Survey" "moves" "[I") (List.mem_cons_of_mem _ (List.mem_append_left _ (List.mem_append_left _ (List.mem_append_left _ (List.mem_append_left _ (List.mem_of_getElem? (i := 4) rfl))))))) (fun _ h9 => h9) rfl dX6_meetsRing_85 ?_
  refine lv_iload hx hb dX6_meetsRing_88 (lv_at hl 1 rfl) ?_
  refine va_iald hx hb hK hP 0 1 rfl rfl (kx_in 0 1000 rfl ⟨(Nat.le_of_ble_eq_true rfl), (Nat.le_of_ble_eq_true rfl)⟩ (Nat.le_of_ble_eq_true rfl)) dX6_meetsRing_90 ?_
  refine lv_topi (fun v_132 ev_132 => ?_)
  obtain rfl : v_132 = 0 := ev_132.trans (kg15_0)
  refine lv_iload hx hb dX6_meetsRing_91 (lv_at hl 0 rfl) ?_
  have hPc := hP.sub (ws' := []) [] rfl
  refine va_calli (va_runSN (As := [.int 0, .int 18]) (rest := []) ⟨hx, hb, hml, hown, hts⟩ (k_X7_hasBit_18 l D cy ) ⟨va_cnB 2 hts gX6_meetsRing_X7_hasBit_n132 rfl rfl rfl (exP.nest hE (RX6, 132, yX7_hasBit, RX7) (by decide +kernel)) (hts (.initialized RX7) (List.mem_cons_of_mem _ (List.mem_append_left _ (List.mem_append_left _ (List.mem_append_left _ (List.mem_append_left _ (List.mem_of_getElem? (i := 20) rfl))))))) (by decide +kernel) ⟨(Nat.le_of_ble_eq_true rfl), (Nat.le_of_ble_eq_true rfl)⟩, (hts (.static yX7_hasBit) (List.mem_cons_of_mem _ (List.mem_append_left _ (List.mem_append_left _ (List.mem_append_left _ (List.mem_append_left _ (List.mem_of_getElem? (i := 19) rfl))))))), trivial⟩ ⟨kR_fb, (kR_go hPc hK)⟩ rfl rfl hl.1 rfl (lv_room (Nat.le_of_ble_eq_true rfl)) dX6_meetsRing_93 ⟨(Nat.le_of_ble_eq_true rfl), (Nat.le_of_ble_eq_true rfl)⟩) hS (fun _ _ h => h.elim) (fun _ h => h.elim) (fun r9 u t H locs ht hvm hw hB hz1 hk1 hS => ?_)
  have hP := kx_kept hP hk1
  obtain ⟨rfl, hw⟩ := hw
  refine lv_if_eq (tgt := 110) hx hb dX6_meetsRing_96 (by decide) (fun _ => ?_) (fun h => absurd (by decide) h)
  refine lv_iload hx hb dX6_meetsRing_110 (lv_at hl 1 rfl) ?_
  refine lv_istore (lv' := [(6, .int 0), (5, .int 18), (4, .int 0), (3, .int 18), (2, .int 0), (0, .ref h1), (1, .int 0)]) hx hb dX6_meetsRing_112 hl (by decide) rfl (fun ls hl => ?_)
  refine lv_iload hx hb dX6_meetsRing_114 (lv_at hl 0 rfl) ?_
  refine lv_iload hx hb dX6_meetsRing_116 (lv_at hl 2 rfl) ?_
  refine lv_icmp_eq (tgt := 134) hx hb dX6_meetsRing_118 (by decide) (fun _ => ?_) (fun h => absurd (by decide) h)
  refine lv_aload_n hx hb dX6_meetsRing_134 rfl (lv_at hl 5 rfl) ?_
  refine va_get (D := D) (ci := 8) (v := .ref h8) (C := RX6) (T := TX6) (N := 13) hx hb hts (fun _ h => (List.mem_cons_of_mem _ (List.mem_append_left _ (List.mem_append_left _ (List.mem_append_right _ h))))) hown hK hP 1 rfl rfl 6 (by decide) (hts (.fieldLink RX6 30 "SelfishJunction$Survey" "marks" "[I") (List.mem_cons_of_mem _ (List.mem_append_left _ (List.mem_append_left _ (List.mem_append_left _ (List.mem_append_left _ (List.mem_of_getElem? (i := 3) rfl))))))) (fun _ h9 => h9) rfl dX6_meetsRing_135 ?_
  refine lv_iload hx hb dX6_meetsRing_138 (lv_at hl 0 rfl) ?_
  refine va_iald hx hb hK hP 2 1 rfl rfl (kx_in 0 1000 rfl ⟨(Nat.le_of_ble_eq_true rfl), (Nat.le_of_ble_eq_true rfl)⟩ (Nat.le_of_ble_eq_true rfl)) dX6_meetsRing_140 ?_
  refine lv_topi (fun v_134 ev_134 => ?_)
  obtain rfl : v_134 = 1 := ev_134.trans rfl
  refine lv_iconst (v := 2) hx hb dX6_meetsRing_141 (by decide) ?_
  refine lv_icmp_ne (tgt := 156) hx hb dX6_meetsRing_142 (by decide) (fun _ => ?_) (fun h => absurd h (by decide))
  refine lv_iload hx hb dX6_meetsRing_156 (lv_at hl 0 rfl) ?_
  refine lv_iload hx hb dX6_meetsRing_158 (lv_at hl 2 rfl) ?_
  refine lv_icmp_eq (tgt := 173) hx hb dX6_meetsRing_160 (by decide) (fun _ => ?_) (fun h => absurd (by decide) h)
  refine lv_iinc (v := 19) (lv' := [(3, .int 19), (6, .int 0), (5, .int 18), (4, .int 0), (2, .int 0), (0, .ref h1), (1, .int 0)]) hx hb dX6_meetsRing_173 hl (k := 3) rfl (by decide) (by decide) rfl (fun ls hl => ?_)
  refine lv_goto (tgt := 10) hx hb dX6_meetsRing_176 (by decide) ?_
  refine lv_iload_n hx hb dX6_meetsRing_10 rfl (lv_at hl 0 rfl) ?_
  refine lv_ldc (v := 1000000) hx hb hown (hts (.constant RX6 128 (1000000)) (List.mem_cons_of_mem _ (List.mem_append_left _ (List.mem_append_left _ (List.mem_append_left _ (List.mem_append_left _ (List.mem_of_getElem? (i := 0) rfl))))))) dX6_meetsRing_11 ?_
  refine lv_icmp_ge (tgt := 179) hx hb dX6_meetsRing_13 (by decide) (fun h => absurd h (by decide)) (fun _ => ?_)
  refine lv_iload_n hx hb dX6_meetsRing_16 rfl (lv_at hl 4 rfl) ?_
  refine lv_if_lt (tgt := 179) hx hb dX6_meetsRing_17 (by decide) (fun h => absurd h (by decide)) (fun _ => ?_)
  refine lv_aload_n hx hb dX6_meetsRing_20 rfl (lv_at hl 5 rfl) ?_
  refine va_get (D := D) (ci := 8) (v := .ref h11) (C := RX6) (T := TX6) (N := 13) hx hb hts (fun _ h => (List.mem_cons_of_mem _ (List.mem_append_left _ (List.mem_append_left _ (List.mem_append_right _ h))))) hown hK hP 1 rfl rfl 9 (by decide) (hts (.fieldLink RX6 39 "SelfishJunction$Survey" "stack" "[I") (List.mem_cons_of_mem _ (List.mem_append_left _ (List.mem_append_left _ (List.mem_append_left _ (List.mem_append_left _ (List.mem_of_getElem? (i := 1) rfl))))))) (fun _ h9 => h9) rfl dX6_meetsRing_21 ?_
  refine lv_iload_n hx hb dX6_meetsRing_24 rfl (lv_at hl 4 rfl) ?_
  refine va_iald hx hb hK hP 5 1 rfl rfl (kx_in 0 1000 rfl ⟨(Nat.le_of_ble_eq_true rfl), (Nat.le_of_ble_eq_true rfl)⟩ (Nat.le_of_ble_eq_true rfl)) dX6_meetsRing_25 ?_
  refine lv_topi (fun v_135 ev_135 => ?_)
  obtain rfl : v_135 = 0 := ev_135.trans rfl
  refine lv_istore (lv' := [(4, .int 0), (3, .int 19), (6, .int 0), (5, .int 18), (2, .int 0), (0, .ref h1), (1, .int 0)]) hx hb dX6_meetsRing_26 hl (by decide) rfl (fun ls hl => ?_)
  refine lv_aload_n hx hb dX6_meetsRing_28 rfl (lv_at hl 5 rfl) ?_
  refine va_get (D := D) (ci := 8) (v := .ref h10) (C := RX6) (T := TX6) (N := 13) hx hb hts (fun _ h => (List.mem_cons_of_mem _ (List.mem_append_left _ (List.mem_append_left _ (List.mem_append_right _ h))))) hown hK hP 1 rfl rfl 8 (by decide) (hts (.fieldLink RX6 36 "SelfishJunction$Survey" "tried" "[I") (List.mem_cons_of_mem _ (List.mem_append_left _ (List.mem_append_left _ (List.mem_append_left _ (List.mem_append_left _ (List.mem_of_getElem? (i := 2) rfl))))))) (fun _ h9 => h9) rfl dX6_meetsRing_29 ?_
  refine lv_iload hx hb dX6_meetsRing_32 (lv_at hl 0 rfl) ?_
  refine va_iald hx hb hK hP 4 1 rfl rfl (kx_in 0 1000 rfl ⟨(Nat.le_of_ble_eq_true rfl), (Nat.le_of_ble_eq_true rfl)⟩ (Nat.le_of_ble_eq_true rfl)) dX6_meetsRing_34 ?_
  refine lv_topi (fun v_136 ev_136 => ?_)
  obtain rfl : v_136 = 19 := ev_136.trans rfl
  refine lv_bipush (v := 30) hx hb dX6_meetsRing_35 (by decide) ?_
  refine lv_icmp_lt (tgt := 70) hx hb dX6_meetsRing_37 (by decide) (fun _ => ?_) (fun h => absurd (by decide) h)
  refine lv_aload_n hx hb dX6_meetsRing_70 rfl (lv_at hl 5 rfl) ?_
  refine va_get (D := D) (ci := 8) (v := .ref h10) (C := RX6) (T := TX6) (N := 13) hx hb hts (fun _ h => (List.mem_cons_of_mem _ (List.mem_append_left _ (List.mem_append_left _ (List.mem_append_right _ h))))) hown hK hP 1 rfl rfl 8 (by decide) (hts (.fieldLink RX6 36 "SelfishJunction$Survey" "tried" "[I") (List.mem_cons_of_mem _ (List.mem_append_left _ (List.mem_append_left _ (List.mem_append_left _ (List.mem_append_left _ (List.mem_of_getElem? (i := 2) rfl))))))) (fun _ h9 => h9) rfl dX6_meetsRing_71 ?_
  refine lv_iload hx hb dX6_meetsRing_74 (lv_at hl 0 rfl) ?_
  refine lv_dup2_11 hx hb dX6_meetsRing_76 rfl rfl ?_
  refine va_iald hx hb hK hP 4 1 rfl rfl (kx_in 0 1000 rfl ⟨(Nat.le_of_ble_eq_true rfl), (Nat.le_of_ble_eq_true rfl)⟩ (Nat.le_of_ble_eq_true rfl)) dX6_meetsRing_77 ?_
  refine lv_topi (fun v_137 ev_137 => ?_)
  obtain rfl : v_137 = 19 := ev_137.trans rfl
  refine lv_dup_x2 hx hb dX6_meetsRing_78 rfl rfl rfl ?_
  refine lv_iconst (v := 1) hx hb dX6_meetsRing_79 (by decide) ?_
  refine lv_iadd hx hb dX6_meetsRing_80 ?_
  refine lv_topi (fun v_138 ev_138 => ?_)
  obtain rfl : v_138 = 20 := ev_138.trans (by decide)
  refine va_iast hx hb hK hP hD hS 4 1 rfl rfl (kx_in 0 1000 rfl ⟨(Nat.le_of_ble_eq_true rfl), (Nat.le_of_ble_eq_true rfl)⟩ (Nat.le_of_ble_eq_true rfl)) dX6_meetsRing_81 (fun H locs hP hD hS => ?_)
  have hP : va_P D vwCl [(h7, .inl (cy 1, 1000, .inl g15)), (h1, .inr (8, [x2, x3, x4, x5, x6, .ref h7, .ref h8, .ref h9, .ref h10, .ref h11, x12, x13, x14])), (h8, .inl (cy 1, 1000, .inl (upd g16 0 1))), (h9, .inl (cy 1, 1000, .inl (upd g17 0 0))), (h10, .inl (cy 1, 1000, .inl (upd (upd g18 0 19) 0 20))), (h11, .inl (cy 1, 1000, .inl (upd g19 0 0)))] H := hP
  have hD : va_D A [(h7, .inl (cy 1, 1000, .inl g15)), (h1, .inr (8, [x2, x3, x4, x5, x6, .ref h7, .ref h8, .ref h9, .ref h10, .ref h11, x12, x13, x14])), (h8, .inl (cy 1, 1000, .inl (upd g16 0 1))), (h9, .inl (cy 1, 1000, .inl (upd g17 0 0))), (h10, .inl (cy 1, 1000, .inl (upd (upd g18 0 19) 0 20))), (h11, .inl (cy 1, 1000, .inl (upd g19 0 0)))] := hD
  rw [kx_uu] at hP hD
  refine lv_istore (lv' := [(5, .int 19), (4, .int 0), (3, .int 19), (6, .int 0), (2, .int 0), (0, .ref h1), (1, .int 0)]) hx hb dX6_meetsRing_82 hl (by decide) rfl (fun ls hl => ?_)
  refine lv_aload_n hx hb dX6_meetsRing_84 rfl (lv_at hl 5 rfl) ?_
  refine va_get (D := D) (ci := 8) (v := .ref h7) (C := RX6) (T := TX6) (N := 13) hx hb hts (fun _ h => (List.mem_cons_of_mem _ (List.mem_append_left _ (List.mem_append_left _ (List.mem_append_right _ h))))) hown hK hP 1 rfl rfl 5 (by decide) (hts (.fieldLink RX6 27 "SelfishJunction$Survey" "moves" "[I") (List.mem_cons_of_mem _ (List.mem_append_left _ (List.mem_append_left _ (List.mem_append_left _ (List.mem_append_left _ (List.mem_of_getElem? (i := 4) rfl))))))) (fun _ h9 => h9) rfl dX6_meetsRing_85 ?_
  refine lv_iload hx hb dX6_meetsRing_88 (lv_at hl 1 rfl) ?_
  refine va_iald hx hb hK hP 0 1 rfl rfl (kx_in 0 1000 rfl ⟨(Nat.le_of_ble_eq_true rfl), (Nat.le_of_ble_eq_true rfl)⟩ (Nat.le_of_ble_eq_true rfl)) dX6_meetsRing_90 ?_
  refine lv_topi (fun v_139 ev_139 => ?_)
  obtain rfl : v_139 = 0 := ev_139.trans (kg15_0)
  refine lv_iload hx hb dX6_meetsRing_91 (lv_at hl 0 rfl) ?_
  have hPc := hP.sub (ws' := []) [] rfl
  refine va_calli (va_runSN (As := [.int 0, .int 19]) (rest := []) ⟨hx, hb, hml, hown, hts⟩ (k_X7_hasBit_19 l D cy ) ⟨va_cnB 2 hts gX6_meetsRing_X7_hasBit_n132 rfl rfl rfl (exP.nest hE (RX6, 132, yX7_hasBit, RX7) (by decide +kernel)) (hts (.initialized RX7) (List.mem_cons_of_mem _ (List.mem_append_left _ (List.mem_append_left _ (List.mem_append_left _ (List.mem_append_left _ (List.mem_of_getElem? (i := 20) rfl))))))) (by decide +kernel) ⟨(Nat.le_of_ble_eq_true rfl), (Nat.le_of_ble_eq_true rfl)⟩, (hts (.static yX7_hasBit) (List.mem_cons_of_mem _ (List.mem_append_left _ (List.mem_append_left _ (List.mem_append_left _ (List.mem_append_left _ (List.mem_of_getElem? (i := 19) rfl))))))), trivial⟩ ⟨kR_fb, (kR_go hPc hK)⟩ rfl rfl hl.1 rfl (lv_room (Nat.le_of_ble_eq_true rfl)) dX6_meetsRing_93 ⟨(Nat.le_of_ble_eq_true rfl), (Nat.le_of_ble_eq_true rfl)⟩) hS (fun _ _ h => h.elim) (fun _ h => h.elim) (fun r9 u t H locs ht hvm hw hB hz1 hk1 hS => ?_)
  have hP := kx_kept hP hk1
  obtain ⟨rfl, hw⟩ := hw
  refine lv_if_eq (tgt := 110) hx hb dX6_meetsRing_96 (by decide) (fun _ => ?_) (fun h => absurd (by decide) h)
  refine lv_iload hx hb dX6_meetsRing_110 (lv_at hl 1 rfl) ?_
  refine lv_istore (lv' := [(6, .int 0), (5, .int 19), (4, .int 0), (3, .int 19), (2, .int 0), (0, .ref h1), (1, .int 0)]) hx hb dX6_meetsRing_112 hl (by decide) rfl (fun ls hl => ?_)
  refine lv_iload hx hb dX6_meetsRing_114 (lv_at hl 0 rfl) ?_
  refine lv_iload hx hb dX6_meetsRing_116 (lv_at hl 2 rfl) ?_
  refine lv_icmp_eq (tgt := 134) hx hb dX6_meetsRing_118 (by decide) (fun _ => ?_) (fun h => absurd (by decide) h)
  refine lv_aload_n hx hb dX6_meetsRing_134 rfl (lv_at hl 5 rfl) ?_
  refine va_get (D := D) (ci := 8) (v := .ref h8) (C := RX6) (T := TX6) (N := 13) hx hb hts (fun _ h => (List.mem_cons_of_mem _ (List.mem_append_left _ (List.mem_append_left _ (List.mem_append_right _ h))))) hown hK hP 1 rfl rfl 6 (by decide) (hts (.fieldLink RX6 30 "SelfishJunction$Survey" "marks" "[I") (List.mem_cons_of_mem _ (List.mem_append_left _ (List.mem_append_left _ (List.mem_append_left _ (List.mem_append_left _ (List.mem_of_getElem? (i := 3) rfl))))))) (fun _ h9 => h9) rfl dX6_meetsRing_135 ?_
  refine lv_iload hx hb dX6_meetsRing_138 (lv_at hl 0 rfl) ?_
  refine va_iald hx hb hK hP 2 1 rfl rfl (kx_in 0 1000 rfl ⟨(Nat.le_of_ble_eq_true rfl), (Nat.le_of_ble_eq_true rfl)⟩ (Nat.le_of_ble_eq_true rfl)) dX6_meetsRing_140 ?_
  refine lv_topi (fun v_141 ev_141 => ?_)
  obtain rfl : v_141 = 1 := ev_141.trans rfl
  refine lv_iconst (v := 2) hx hb dX6_meetsRing_141 (by decide) ?_
  refine lv_icmp_ne (tgt := 156) hx hb dX6_meetsRing_142 (by decide) (fun _ => ?_) (fun h => absurd h (by decide))
  refine lv_iload hx hb dX6_meetsRing_156 (lv_at hl 0 rfl) ?_
  refine lv_iload hx hb dX6_meetsRing_158 (lv_at hl 2 rfl) ?_
  refine lv_icmp_eq (tgt := 173) hx hb dX6_meetsRing_160 (by decide) (fun _ => ?_) (fun h => absurd (by decide) h)
  refine lv_iinc (v := 20) (lv' := [(3, .int 20), (6, .int 0), (5, .int 19), (4, .int 0), (2, .int 0), (0, .ref h1), (1, .int 0)]) hx hb dX6_meetsRing_173 hl (k := 3) rfl (by decide) (by decide) rfl (fun ls hl => ?_)
  refine lv_goto (tgt := 10) hx hb dX6_meetsRing_176 (by decide) ?_
  refine lv_iload_n hx hb dX6_meetsRing_10 rfl (lv_at hl 0 rfl) ?_
  refine lv_ldc (v := 1000000) hx hb hown (hts (.constant RX6 128 (1000000)) (List.mem_cons_of_mem _ (List.mem_append_left _ (List.mem_append_left _ (List.mem_append_left _ (List.mem_append_left _ (List.mem_of_getElem? (i := 0) rfl))))))) dX6_meetsRing_11 ?_
  refine lv_icmp_ge (tgt := 179) hx hb dX6_meetsRing_13 (by decide) (fun h => absurd h (by decide)) (fun _ => ?_)
  refine lv_iload_n hx hb dX6_meetsRing_16 rfl (lv_at hl 4 rfl) ?_
  refine lv_if_lt (tgt := 179) hx hb dX6_meetsRing_17 (by decide) (fun h => absurd h (by decide)) (fun _ => ?_)
  refine lv_aload_n hx hb dX6_meetsRing_20 rfl (lv_at hl 5 rfl) ?_
  refine va_get (D := D) (ci := 8) (v := .ref h11) (C := RX6) (T := TX6) (N := 13) hx hb hts (fun _ h => (List.mem_cons_of_mem _ (List.mem_append_left _ (List.mem_append_left _ (List.mem_append_right _ h))))) hown hK hP 1 rfl rfl 9 (by decide) (hts (.fieldLink RX6 39 "SelfishJunction$Survey" "stack" "[I") (List.mem_cons_of_mem _ (List.mem_append_left _ (List.mem_append_left _ (List.mem_append_left _ (List.mem_append_left _ (List.mem_of_getElem? (i := 1) rfl))))))) (fun _ h9 => h9) rfl dX6_meetsRing_21 ?_
  refine lv_iload_n hx hb dX6_meetsRing_24 rfl (lv_at hl 4 rfl) ?_
  refine va_iald hx hb hK hP 5 1 rfl rfl (kx_in 0 1000 rfl ⟨(Nat.le_of_ble_eq_true rfl), (Nat.le_of_ble_eq_true rfl)⟩ (Nat.le_of_ble_eq_true rfl)) dX6_meetsRing_25 ?_
  refine lv_topi (fun v_142 ev_142 => ?_)
  obtain rfl : v_142 = 0 := ev_142.trans rfl
  refine lv_istore (lv' := [(4, .int 0), (3, .int 20), (6, .int 0), (5, .int 19), (2, .int 0), (0, .ref h1), (1, .int 0)]) hx hb dX6_meetsRing_26 hl (by decide) rfl (fun ls hl => ?_)
  refine lv_aload_n hx hb dX6_meetsRing_28 rfl (lv_at hl 5 rfl) ?_
  refine va_get (D := D) (ci := 8) (v := .ref h10) (C := RX6) (T := TX6) (N := 13) hx hb hts (fun _ h => (List.mem_cons_of_mem _ (List.mem_append_left _ (List.mem_append_left _ (List.mem_append_right _ h))))) hown hK hP 1 rfl rfl 8 (by decide) (hts (.fieldLink RX6 36 "SelfishJunction$Survey" "tried" "[I") (List.mem_cons_of_mem _ (List.mem_append_left _ (List.mem_append_left _ (List.mem_append_left _ (List.mem_append_left _ (List.mem_of_getElem? (i := 2) rfl))))))) (fun _ h9 => h9) rfl dX6_meetsRing_29 ?_
  refine lv_iload hx hb dX6_meetsRing_32 (lv_at hl 0 rfl) ?_
  refine va_iald hx hb hK hP 4 1 rfl rfl (kx_in 0 1000 rfl ⟨(Nat.le_of_ble_eq_true rfl), (Nat.le_of_ble_eq_true rfl)⟩ (Nat.le_of_ble_eq_true rfl)) dX6_meetsRing_34 ?_
  refine lv_topi (fun v_143 ev_143 => ?_)
  obtain rfl : v_143 = 20 := ev_143.trans rfl
  refine lv_bipush (v := 30) hx hb dX6_meetsRing_35 (by decide) ?_
  refine lv_icmp_lt (tgt := 70) hx hb dX6_meetsRing_37 (by decide) (fun _ => ?_) (fun h => absurd (by decide) h)
  refine lv_aload_n hx hb dX6_meetsRing_70 rfl (lv_at hl 5 rfl) ?_
  refine va_get (D := D) (ci := 8) (v := .ref h10) (C := RX6) (T := TX6) (N := 13) hx hb hts (fun _ h => (List.mem_cons_of_mem _ (List.mem_append_left _ (List.mem_append_left _ (List.mem_append_right _ h))))) hown hK hP 1 rfl rfl 8 (by decide) (hts (.fieldLink RX6 36 "SelfishJunction$Survey" "tried" "[I") (List.mem_cons_of_mem _ (List.mem_append_left _ (List.mem_append_left _ (List.mem_append_left _ (List.mem_append_left _ (List.mem_of_getElem? (i := 2) rfl))))))) (fun _ h9 => h9) rfl dX6_meetsRing_71 ?_
  refine lv_iload hx hb dX6_meetsRing_74 (lv_at hl 0 rfl) ?_
  refine lv_dup2_11 hx hb dX6_meetsRing_76 rfl rfl ?_
  refine va_iald hx hb hK hP 4 1 rfl rfl (kx_in 0 1000 rfl ⟨(Nat.le_of_ble_eq_true rfl), (Nat.le_of_ble_eq_true rfl)⟩ (Nat.le_of_ble_eq_true rfl)) dX6_meetsRing_77 ?_
  refine lv_topi (fun v_144 ev_144 => ?_)
  obtain rfl : v_144 = 20 := ev_144.trans rfl
  refine lv_dup_x2 hx hb dX6_meetsRing_78 rfl rfl rfl ?_
  refine lv_iconst (v := 1) hx hb dX6_meetsRing_79 (by decide) ?_
  refine lv_iadd hx hb dX6_meetsRing_80 ?_
  refine lv_topi (fun v_145 ev_145 => ?_)
  obtain rfl : v_145 = 21 := ev_145.trans (by decide)
  refine va_iast hx hb hK hP hD hS 4 1 rfl rfl (kx_in 0 1000 rfl ⟨(Nat.le_of_ble_eq_true rfl), (Nat.le_of_ble_eq_true rfl)⟩ (Nat.le_of_ble_eq_true rfl)) dX6_meetsRing_81 (fun H locs hP hD hS => ?_)
  have hP : va_P D vwCl [(h7, .inl (cy 1, 1000, .inl g15)), (h1, .inr (8, [x2, x3, x4, x5, x6, .ref h7, .ref h8, .ref h9, .ref h10, .ref h11, x12, x13, x14])), (h8, .inl (cy 1, 1000, .inl (upd g16 0 1))), (h9, .inl (cy 1, 1000, .inl (upd g17 0 0))), (h10, .inl (cy 1, 1000, .inl (upd (upd g18 0 20) 0 21))), (h11, .inl (cy 1, 1000, .inl (upd g19 0 0)))] H := hP
  have hD : va_D A [(h7, .inl (cy 1, 1000, .inl g15)), (h1, .inr (8, [x2, x3, x4, x5, x6, .ref h7, .ref h8, .ref h9, .ref h10, .ref h11, x12, x13, x14])), (h8, .inl (cy 1, 1000, .inl (upd g16 0 1))), (h9, .inl (cy 1, 1000, .inl (upd g17 0 0))), (h10, .inl (cy 1, 1000, .inl (upd (upd g18 0 20) 0 21))), (h11, .inl (cy 1, 1000, .inl (upd g19 0 0)))] := hD
  rw [kx_uu] at hP hD
  refine lv_istore (lv' := [(5, .int 20), (4, .int 0), (3, .int 20), (6, .int 0), (2, .int 0), (0, .ref h1), (1, .int 0)]) hx hb dX6_meetsRing_82 hl (by decide) rfl (fun ls hl => ?_)
  refine lv_aload_n hx hb dX6_meetsRing_84 rfl (lv_at hl 5 rfl) ?_
  refine va_get (D := D) (ci := 8) (v := .ref h7) (C := RX6) (T := TX6) (N := 13) hx hb hts (fun _ h => (List.mem_cons_of_mem _ (List.mem_append_left _ (List.mem_append_left _ (List.mem_append_right _ h))))) hown hK hP 1 rfl rfl 5 (by decide) (hts (.fieldLink RX6 27 "SelfishJunction$Survey" "moves" "[I") (List.mem_cons_of_mem _ (List.mem_append_left _ (List.mem_append_left _ (List.mem_append_left _ (List.mem_append_left _ (List.mem_of_getElem? (i := 4) rfl))))))) (fun _ h9 => h9) rfl dX6_meetsRing_85 ?_
  refine lv_iload hx hb dX6_meetsRing_88 (lv_at hl 1 rfl) ?_
  refine va_iald hx hb hK hP 0 1 rfl rfl (kx_in 0 1000 rfl ⟨(Nat.le_of_ble_eq_true rfl), (Nat.le_of_ble_eq_true rfl)⟩ (Nat.le_of_ble_eq_true rfl)) dX6_meetsRing_90 ?_
  refine lv_topi (fun v_146 ev_146 => ?_)
  obtain rfl : v_146 = 0 := ev_146.trans (kg15_0)
  refine lv_iload hx hb dX6_meetsRing_91 (lv_at hl 0 rfl) ?_
  have hPc := hP.sub (ws' := []) [] rfl
  refine va_calli (va_runSN (As := [.int 0, .int 20]) (rest := []) ⟨hx, hb, hml, hown, hts⟩ (k_X7_hasBit_20 l D cy ) ⟨va_cnB 2 hts gX6_meetsRing_X7_hasBit_n132 rfl rfl rfl (exP.nest hE (RX6, 132, yX7_hasBit, RX7) (by decide +kernel)) (hts (.initialized RX7) (List.mem_cons_of_mem _ (List.mem_append_left _ (List.mem_append_left _ (List.mem_append_left _ (List.mem_append_left _ (List.mem_of_getElem? (i := 20) rfl))))))) (by decide +kernel) ⟨(Nat.le_of_ble_eq_true rfl), (Nat.le_of_ble_eq_true rfl)⟩, (hts (.static yX7_hasBit) (List.mem_cons_of_mem _ (List.mem_append_left _ (List.mem_append_left _ (List.mem_append_left _ (List.mem_append_left _ (List.mem_of_getElem? (i := 19) rfl))))))), trivial⟩ ⟨kR_fb, (kR_go hPc hK)⟩ rfl rfl hl.1 rfl (lv_room (Nat.le_of_ble_eq_true rfl)) dX6_meetsRing_93 ⟨(Nat.le_of_ble_eq_true rfl), (Nat.le_of_ble_eq_true rfl)⟩) hS (fun _ _ h => h.elim) (fun _ h => h.elim) (fun r9 u t H locs ht hvm hw hB hz1 hk1 hS => ?_)
  have hP := kx_kept hP hk1
  obtain ⟨rfl, hw⟩ := hw
  refine lv_if_eq (tgt := 110) hx hb dX6_meetsRing_96 (by decide) (fun _ => ?_) (fun h => absurd (by decide) h)
  refine lv_iload hx hb dX6_meetsRing_110 (lv_at hl 1 rfl) ?_
  refine lv_istore (lv' := [(6, .int 0), (5, .int 20), (4, .int 0), (3, .int 20), (2, .int 0), (0, .ref h1), (1, .int 0)]) hx hb dX6_meetsRing_112 hl (by decide) rfl (fun ls hl => ?_)
  refine lv_iload hx hb dX6_meetsRing_114 (lv_at hl 0 rfl) ?_
  refine lv_iload hx hb dX6_meetsRing_116 (lv_at hl 2 rfl) ?_
  refine lv_icmp_eq (tgt := 134) hx hb dX6_meetsRing_118 (by decide) (fun _ => ?_) (fun h => absurd (by decide) h)
  refine lv_aload_n hx hb dX6_meetsRing_134 rfl (lv_at hl 5 rfl) ?_
  refine va_get (D := D) (ci := 8) (v := .ref h8) (C := RX6) (T := TX6) (N := 13) hx hb hts (fun _ h => (List.mem_cons_of_mem _ (List.mem_append_left _ (List.mem_append_left _ (List.mem_append_right _ h))))) hown hK hP 1 rfl rfl 6 (by decide) (hts (.fieldLink RX6 30 "SelfishJunction$Survey" "marks" "[I") (List.mem_cons_of_mem _ (List.mem_append_left _ (List.mem_append_left _ (List.mem_append_left _ (List.mem_append_left _ (List.mem_of_getElem? (i := 3) rfl))))))) (fun _ h9 => h9) rfl dX6_meetsRing_135 ?_
  refine lv_iload hx hb dX6_meetsRing_138 (lv_at hl 0 rfl) ?_
  refine va_iald hx hb hK hP 2 1 rfl rfl (kx_in 0 1000 rfl ⟨(Nat.le_of_ble_eq_true rfl), (Nat.le_of_ble_eq_true rfl)⟩ (Nat.le_of_ble_eq_true rfl)) dX6_meetsRing_140 ?_
  refine lv_topi (fun v_148 ev_148 => ?_)
  obtain rfl : v_148 = 1 := ev_148.trans rfl
  refine lv_iconst (v := 2) hx hb dX6_meetsRing_141 (by decide) ?_
  refine lv_icmp_ne (tgt := 156) hx hb dX6_meetsRing_142 (by decide) (fun _ => ?_) (fun h => absurd h (by decide))
  refine lv_iload hx hb dX6_meetsRing_156 (lv_at hl 0 rfl) ?_
  refine lv_iload hx hb dX6_meetsRing_158 (lv_at hl 2 rfl) ?_
  refine lv_icmp_eq (tgt := 173) hx hb dX6_meetsRing_160 (by decide) (fun _ => ?_) (fun h => absurd (by decide) h)
  refine lv_iinc (v := 21) (lv' := [(3, .int 21), (6, .int 0), (5, .int 20), (4, .int 0), (2, .int 0), (0, .ref h1), (1, .int 0)]) hx hb dX6_meetsRing_173 hl (k := 3) rfl (by decide) (by decide) rfl (fun ls hl => ?_)
  refine lv_goto (tgt := 10) hx hb dX6_meetsRing_176 (by decide) ?_
  refine lv_iload_n hx hb dX6_meetsRing_10 rfl (lv_at hl 0 rfl) ?_
  refine lv_ldc (v := 1000000) hx hb hown (hts (.constant RX6 128 (1000000)) (List.mem_cons_of_mem _ (List.mem_append_left _ (List.mem_append_left _ (List.mem_append_left _ (List.mem_append_left _ (List.mem_of_getElem? (i := 0) rfl))))))) dX6_meetsRing_11 ?_
  refine lv_icmp_ge (tgt := 179) hx hb dX6_meetsRing_13 (by decide) (fun h => absurd h (by decide)) (fun _ => ?_)
  refine lv_iload_n hx hb dX6_meetsRing_16 rfl (lv_at hl 4 rfl) ?_
  refine lv_if_lt (tgt := 179) hx hb dX6_meetsRing_17 (by decide) (fun h => absurd h (by decide)) (fun _ => ?_)
  refine lv_aload_n hx hb dX6_meetsRing_20 rfl (lv_at hl 5 rfl) ?_
  refine va_get (D := D) (ci := 8) (v := .ref h11) (C := RX6) (T := TX6) (N := 13) hx hb hts (fun _ h => (List.mem_cons_of_mem _ (List.mem_append_left _ (List.mem_append_left _ (List.mem_append_right _ h))))) hown hK hP 1 rfl rfl 9 (by decide) (hts (.fieldLink RX6 39 "SelfishJunction$Survey" "stack" "[I") (List.mem_cons_of_mem _ (List.mem_append_left _ (List.mem_append_left _ (List.mem_append_left _ (List.mem_append_left _ (List.mem_of_getElem? (i := 1) rfl))))))) (fun _ h9 => h9) rfl dX6_meetsRing_21 ?_
  refine lv_iload_n hx hb dX6_meetsRing_24 rfl (lv_at hl 4 rfl) ?_
  refine va_iald hx hb hK hP 5 1 rfl rfl (kx_in 0 1000 rfl ⟨(Nat.le_of_ble_eq_true rfl), (Nat.le_of_ble_eq_true rfl)⟩ (Nat.le_of_ble_eq_true rfl)) dX6_meetsRing_25 ?_
  refine lv_topi (fun v_149 ev_149 => ?_)
  obtain rfl : v_149 = 0 := ev_149.trans rfl
  refine lv_istore (lv' := [(4, .int 0), (3, .int 21), (6, .int 0), (5, .int 20), (2, .int 0), (0, .ref h1), (1, .int 0)]) hx hb dX6_meetsRing_26 hl (by decide) rfl (fun ls hl => ?_)
  refine lv_aload_n hx hb dX6_meetsRing_28 rfl (lv_at hl 5 rfl) ?_
  refine va_get (D := D) (ci := 8) (v := .ref h10) (C := RX6) (T := TX6) (N := 13) hx hb hts (fun _ h => (List.mem_cons_of_mem _ (List.mem_append_left _ (List.mem_append_left _ (List.mem_append_right _ h))))) hown hK hP 1 rfl rfl 8 (by decide) (hts (.fieldLink RX6 36 "SelfishJunction$Survey" "tried" "[I") (List.mem_cons_of_mem _ (List.mem_append_left _ (List.mem_append_left _ (List.mem_append_left _ (List.mem_append_left _ (List.mem_of_getElem? (i := 2) rfl))))))) (fun _ h9 => h9) rfl dX6_meetsRing_29 ?_
  refine lv_iload hx hb dX6_meetsRing_32 (lv_at hl 0 rfl) ?_
  refine va_iald hx hb hK hP 4 1 rfl rfl (kx_in 0 1000 rfl ⟨(Nat.le_of_ble_eq_true rfl), (Nat.le_of_ble_eq_true rfl)⟩ (Nat.le_of_ble_eq_true rfl)) dX6_meetsRing_34 ?_
  refine lv_topi (fun v_150 ev_150 => ?_)
  obtain rfl : v_150 = 21 := ev_150.trans rfl
  refine lv_bipush (v := 30) hx hb dX6_meetsRing_35 (by decide) ?_
  refine lv_icmp_lt (tgt := 70) hx hb dX6_meetsRing_37 (by decide) (fun _ => ?_) (fun h => absurd (by decide) h)
  refine lv_aload_n hx hb dX6_meetsRing_70 rfl (lv_at hl 5 rfl) ?_
  refine va_get (D := D) (ci := 8) (v := .ref h10) (C := RX6) (T := TX6) (N := 13) hx hb hts (fun _ h => (List.mem_cons_of_mem _ (List.mem_append_left _ (List.mem_append_left _ (List.mem_append_right _ h))))) hown hK hP 1 rfl rfl 8 (by decide) (hts (.fieldLink RX6 36 "SelfishJunction$Survey" "tried" "[I") (List.mem_cons_of_mem _ (List.mem_append_left _ (List.mem_append_left _ (List.mem_append_left _ (List.mem_append_left _ (List.mem_of_getElem? (i := 2) rfl))))))) (fun _ h9 => h9) rfl dX6_meetsRing_71 ?_
  refine lv_iload hx hb dX6_meetsRing_74 (lv_at hl 0 rfl) ?_
  refine lv_dup2_11 hx hb dX6_meetsRing_76 rfl rfl ?_
  refine va_iald hx hb hK hP 4 1 rfl rfl (kx_in 0 1000 rfl ⟨(Nat.le_of_ble_eq_true rfl), (Nat.le_of_ble_eq_true rfl)⟩ (Nat.le_of_ble_eq_true rfl)) dX6_meetsRing_77 ?_
  refine lv_topi (fun v_151 ev_151 => ?_)
  obtain rfl : v_151 = 21 := ev_151.trans rfl
  refine lv_dup_x2 hx hb dX6_meetsRing_78 rfl rfl rfl ?_
  refine lv_iconst (v := 1) hx hb dX6_meetsRing_79 (by decide) ?_
  refine lv_iadd hx hb dX6_meetsRing_80 ?_
  refine lv_topi (fun v_152 ev_152 => ?_)
  obtain rfl : v_152 = 22 := ev_152.trans (by decide)
  refine va_iast hx hb hK hP hD hS 4 1 rfl rfl (kx_in 0 1000 rfl ⟨(Nat.le_of_ble_eq_true rfl), (Nat.le_of_ble_eq_true rfl)⟩ (Nat.le_of_ble_eq_true rfl)) dX6_meetsRing_81 (fun H locs hP hD hS => ?_)
  have hP : va_P D vwCl [(h7, .inl (cy 1, 1000, .inl g15)), (h1, .inr (8, [x2, x3, x4, x5, x6, .ref h7, .ref h8, .ref h9, .ref h10, .ref h11, x12, x13, x14])), (h8, .inl (cy 1, 1000, .inl (upd g16 0 1))), (h9, .inl (cy 1, 1000, .inl (upd g17 0 0))), (h10, .inl (cy 1, 1000, .inl (upd (upd g18 0 21) 0 22))), (h11, .inl (cy 1, 1000, .inl (upd g19 0 0)))] H := hP
  have hD : va_D A [(h7, .inl (cy 1, 1000, .inl g15)), (h1, .inr (8, [x2, x3, x4, x5, x6, .ref h7, .ref h8, .ref h9, .ref h10, .ref h11, x12, x13, x14])), (h8, .inl (cy 1, 1000, .inl (upd g16 0 1))), (h9, .inl (cy 1, 1000, .inl (upd g17 0 0))), (h10, .inl (cy 1, 1000, .inl (upd (upd g18 0 21) 0 22))), (h11, .inl (cy 1, 1000, .inl (upd g19 0 0)))] := hD
  rw [kx_uu] at hP hD
  refine lv_istore (lv' := [(5, .int 21), (4, .int 0), (3, .int 21), (6, .int 0), (2, .int 0), (0, .ref h1), (1, .int 0)]) hx hb dX6_meetsRing_82 hl (by decide) rfl (fun ls hl => ?_)
  refine lv_aload_n hx hb dX6_meetsRing_84 rfl (lv_at hl 5 rfl) ?_
  refine va_get (D := D) (ci := 8) (v := .ref h7) (C := RX6) (T := TX6) (N := 13) hx hb hts (fun _ h => (List.mem_cons_of_mem _ (List.mem_append_left _ (List.mem_append_left _ (List.mem_append_right _ h))))) hown hK hP 1 rfl rfl 5 (by decide) (hts (.fieldLink RX6 27 "SelfishJunction$Survey" "moves" "[I") (List.mem_cons_of_mem _ (List.mem_append_left _ (List.mem_append_left _ (List.mem_append_left _ (List.mem_append_left _ (List.mem_of_getElem? (i := 4) rfl))))))) (fun _ h9 => h9) rfl dX6_meetsRing_85 ?_
  refine lv_iload hx hb dX6_meetsRing_88 (lv_at hl 1 rfl) ?_
  refine va_iald hx hb hK hP 0 1 rfl rfl (kx_in 0 1000 rfl ⟨(Nat.le_of_ble_eq_true rfl), (Nat.le_of_ble_eq_true rfl)⟩ (Nat.le_of_ble_eq_true rfl)) dX6_meetsRing_90 ?_
  refine lv_topi (fun v_153 ev_153 => ?_)
  obtain rfl : v_153 = 0 := ev_153.trans (kg15_0)
  refine lv_iload hx hb dX6_meetsRing_91 (lv_at hl 0 rfl) ?_
  have hPc := hP.sub (ws' := []) [] rfl
  refine va_calli (va_runSN (As := [.int 0, .int 21]) (rest := []) ⟨hx, hb, hml, hown, hts⟩ (k_X7_hasBit_21 l D cy ) ⟨va_cnB 2 hts gX6_meetsRing_X7_hasBit_n132 rfl rfl rfl (exP.nest hE (RX6, 132, yX7_hasBit, RX7) (by decide +kernel)) (hts (.initialized RX7) (List.mem_cons_of_mem _ (List.mem_append_left _ (List.mem_append_left _ (List.mem_append_left _ (List.mem_append_left _ (List.mem_of_getElem? (i := 20) rfl))))))) (by decide +kernel) ⟨(Nat.le_of_ble_eq_true rfl), (Nat.le_of_ble_eq_true rfl)⟩, (hts (.static yX7_hasBit) (List.mem_cons_of_mem _ (List.mem_append_left _ (List.mem_append_left _ (List.mem_append_left _ (List.mem_append_left _ (List.mem_of_getElem? (i := 19) rfl))))))), trivial⟩ ⟨kR_fb, (kR_go hPc hK)⟩ rfl rfl hl.1 rfl (lv_room (Nat.le_of_ble_eq_true rfl)) dX6_meetsRing_93 ⟨(Nat.le_of_ble_eq_true rfl), (Nat.le_of_ble_eq_true rfl)⟩) hS (fun _ _ h => h.elim) (fun _ h => h.elim) (fun r9 u t H locs ht hvm hw hB hz1 hk1 hS => ?_)
  have hP := kx_kept hP hk1
  obtain ⟨rfl, hw⟩ := hw
  refine lv_if_eq (tgt := 110) hx hb dX6_meetsRing_96 (by decide) (fun _ => ?_) (fun h => absurd (by decide) h)
  refine lv_iload hx hb dX6_meetsRing_110 (lv_at hl 1 rfl) ?_
  refine lv_istore (lv' := [(6, .int 0), (5, .int 21), (4, .int 0), (3, .int 21), (2, .int 0), (0, .ref h1), (1, .int 0)]) hx hb dX6_meetsRing_112 hl (by decide) rfl (fun ls hl => ?_)
  refine lv_iload hx hb dX6_meetsRing_114 (lv_at hl 0 rfl) ?_
  refine lv_iload hx hb dX6_meetsRing_116 (lv_at hl 2 rfl) ?_
  refine lv_icmp_eq (tgt := 134) hx hb dX6_meetsRing_118 (by decide) (fun _ => ?_) (fun h => absurd (by decide) h)
  refine lv_aload_n hx hb dX6_meetsRing_134 rfl (lv_at hl 5 rfl) ?_
  refine va_get (D := D) (ci := 8) (v := .ref h8) (C := RX6) (T := TX6) (N := 13) hx hb hts (fun _ h => (List.mem_cons_of_mem _ (List.mem_append_left _ (List.mem_append_left _ (List.mem_append_right _ h))))) hown hK hP 1 rfl rfl 6 (by decide) (hts (.fieldLink RX6 30 "SelfishJunction$Survey" "marks" "[I") (List.mem_cons_of_mem _ (List.mem_append_left _ (List.mem_append_left _ (List.mem_append_left _ (List.mem_append_left _ (List.mem_of_getElem? (i := 3) rfl))))))) (fun _ h9 => h9) rfl dX6_meetsRing_135 ?_
  refine lv_iload hx hb dX6_meetsRing_138 (lv_at hl 0 rfl) ?_
  refine va_iald hx hb hK hP 2 1 rfl rfl (kx_in 0 1000 rfl ⟨(Nat.le_of_ble_eq_true rfl), (Nat.le_of_ble_eq_true rfl)⟩ (Nat.le_of_ble_eq_true rfl)) dX6_meetsRing_140 ?_
  refine lv_topi (fun v_155 ev_155 => ?_)
  obtain rfl : v_155 = 1 := ev_155.trans rfl
  refine lv_iconst (v := 2) hx hb dX6_meetsRing_141 (by decide) ?_
  refine lv_icmp_ne (tgt := 156) hx hb dX6_meetsRing_142 (by decide) (fun _ => ?_) (fun h => absurd h (by decide))
  refine lv_iload hx hb dX6_meetsRing_156 (lv_at hl 0 rfl) ?_
  refine lv_iload hx hb dX6_meetsRing_158 (lv_at hl 2 rfl) ?_
  refine lv_icmp_eq (tgt := 173) hx hb dX6_meetsRing_160 (by decide) (fun _ => ?_) (fun h => absurd (by decide) h)
  refine lv_iinc (v := 22) (lv' := [(3, .int 22), (6, .int 0), (5, .int 21), (4, .int 0), (2, .int 0), (0, .ref h1), (1, .int 0)]) hx hb dX6_meetsRing_173 hl (k := 3) rfl (by decide) (by decide) rfl (fun ls hl => ?_)
  refine lv_goto (tgt := 10) hx hb dX6_meetsRing_176 (by decide) ?_
  refine lv_iload_n hx hb dX6_meetsRing_10 rfl (lv_at hl 0 rfl) ?_
  refine lv_ldc (v := 1000000) hx hb hown (hts (.constant RX6 128 (1000000)) (List.mem_cons_of_mem _ (List.mem_append_left _ (List.mem_append_left _ (List.mem_append_left _ (List.mem_append_left _ (List.mem_of_getElem? (i := 0) rfl))))))) dX6_meetsRing_11 ?_
  refine lv_icmp_ge (tgt := 179) hx hb dX6_meetsRing_13 (by decide) (fun h => absurd h (by decide)) (fun _ => ?_)
  refine lv_iload_n hx hb dX6_meetsRing_16 rfl (lv_at hl 4 rfl) ?_
  refine lv_if_lt (tgt := 179) hx hb dX6_meetsRing_17 (by decide) (fun h => absurd h (by decide)) (fun _ => ?_)
  refine lv_aload_n hx hb dX6_meetsRing_20 rfl (lv_at hl 5 rfl) ?_
  refine va_get (D := D) (ci := 8) (v := .ref h11) (C := RX6) (T := TX6) (N := 13) hx hb hts (fun _ h => (List.mem_cons_of_mem _ (List.mem_append_left _ (List.mem_append_left _ (List.mem_append_right _ h))))) hown hK hP 1 rfl rfl 9 (by decide) (hts (.fieldLink RX6 39 "SelfishJunction$Survey" "stack" "[I") (List.mem_cons_of_mem _ (List.mem_append_left _ (List.mem_append_left _ (List.mem_append_left _ (List.mem_append_left _ (List.mem_of_getElem? (i := 1) rfl))))))) (fun _ h9 => h9) rfl dX6_meetsRing_21 ?_
  refine lv_iload_n hx hb dX6_meetsRing_24 rfl (lv_at hl 4 rfl) ?_
  refine va_iald hx hb hK hP 5 1 rfl rfl (kx_in 0 1000 rfl ⟨(Nat.le_of_ble_eq_true rfl), (Nat.le_of_ble_eq_true rfl)⟩ (Nat.le_of_ble_eq_true rfl)) dX6_meetsRing_25 ?_
  refine lv_topi (fun v_156 ev_156 => ?_)
  obtain rfl : v_156 = 0 := ev_156.trans rfl
  refine lv_istore (lv' := [(4, .int 0), (3, .int 22), (6, .int 0), (5, .int 21), (2, .int 0), (0, .ref h1), (1, .int 0)]) hx hb dX6_meetsRing_26 hl (by decide) rfl (fun ls hl => ?_)
  refine lv_aload_n hx hb dX6_meetsRing_28 rfl (lv_at hl 5 rfl) ?_
  refine va_get (D := D) (ci := 8) (v := .ref h10) (C := RX6) (T := TX6) (N := 13) hx hb hts (fun _ h => (List.mem_cons_of_mem _ (List.mem_append_left _ (List.mem_append_left _ (List.mem_append_right _ h))))) hown hK hP 1 rfl rfl 8 (by decide) (hts (.fieldLink RX6 36 "SelfishJunction$Survey" "tried" "[I") (List.mem_cons_of_mem _ (List.mem_append_left _ (List.mem_append_left _ (List.mem_append_left _ (List.mem_append_left _ (List.mem_of_getElem? (i := 2) rfl))))))) (fun _ h9 => h9) rfl dX6_meetsRing_29 ?_
  refine lv_iload hx hb dX6_meetsRing_32 (lv_at hl 0 rfl) ?_
  refine va_iald hx hb hK hP 4 1 rfl rfl (kx_in 0 1000 rfl ⟨(Nat.le_of_ble_eq_true rfl), (Nat.le_of_ble_eq_true rfl)⟩ (Nat.le_of_ble_eq_true rfl)) dX6_meetsRing_34 ?_
  refine lv_topi (fun v_157 ev_157 => ?_)
  obtain rfl : v_157 = 22 := ev_157.trans rfl
  refine lv_bipush (v := 30) hx hb dX6_meetsRing_35 (by decide) ?_
  refine lv_icmp_lt (tgt := 70) hx hb dX6_meetsRing_37 (by decide) (fun _ => ?_) (fun h => absurd (by decide) h)
  refine lv_aload_n hx hb dX6_meetsRing_70 rfl (lv_at hl 5 rfl) ?_
  refine va_get (D := D) (ci := 8) (v := .ref h10) (C := RX6) (T := TX6) (N := 13) hx hb hts (fun _ h => (List.mem_cons_of_mem _ (List.mem_append_left _ (List.mem_append_left _ (List.mem_append_right _ h))))) hown hK hP 1 rfl rfl 8 (by decide) (hts (.fieldLink RX6 36 "SelfishJunction$Survey" "tried" "[I") (List.mem_cons_of_mem _ (List.mem_append_left _ (List.mem_append_left _ (List.mem_append_left _ (List.mem_append_left _ (List.mem_of_getElem? (i := 2) rfl))))))) (fun _ h9 => h9) rfl dX6_meetsRing_71 ?_
  refine lv_iload hx hb dX6_meetsRing_74 (lv_at hl 0 rfl) ?_
  refine lv_dup2_11 hx hb dX6_meetsRing_76 rfl rfl ?_
  refine va_iald hx hb hK hP 4 1 rfl rfl (kx_in 0 1000 rfl ⟨(Nat.le_of_ble_eq_true rfl), (Nat.le_of_ble_eq_true rfl)⟩ (Nat.le_of_ble_eq_true rfl)) dX6_meetsRing_77 ?_
  refine lv_topi (fun v_158 ev_158 => ?_)
  obtain rfl : v_158 = 22 := ev_158.trans rfl
  refine lv_dup_x2 hx hb dX6_meetsRing_78 rfl rfl rfl ?_
  refine lv_iconst (v := 1) hx hb dX6_meetsRing_79 (by decide) ?_
  refine lv_iadd hx hb dX6_meetsRing_80 ?_
  refine lv_topi (fun v_159 ev_159 => ?_)
  obtain rfl : v_159 = 23 := ev_159.trans (by decide)
  refine va_iast hx hb hK hP hD hS 4 1 rfl rfl (kx_in 0 1000 rfl ⟨(Nat.le_of_ble_eq_true rfl), (Nat.le_of_ble_eq_true rfl)⟩ (Nat.le_of_ble_eq_true rfl)) dX6_meetsRing_81 (fun H locs hP hD hS => ?_)
  have hP : va_P D vwCl [(h7, .inl (cy 1, 1000, .inl g15)), (h1, .inr (8, [x2, x3, x4, x5, x6, .ref h7, .ref h8, .ref h9, .ref h10, .ref h11, x12, x13, x14])), (h8, .inl (cy 1, 1000, .inl (upd g16 0 1))), (h9, .inl (cy 1, 1000, .inl (upd g17 0 0))), (h10, .inl (cy 1, 1000, .inl (upd (upd g18 0 22) 0 23))), (h11, .inl (cy 1, 1000, .inl (upd g19 0 0)))] H := hP
  have hD : va_D A [(h7, .inl (cy 1, 1000, .inl g15)), (h1, .inr (8, [x2, x3, x4, x5, x6, .ref h7, .ref h8, .ref h9, .ref h10, .ref h11, x12, x13, x14])), (h8, .inl (cy 1, 1000, .inl (upd g16 0 1))), (h9, .inl (cy 1, 1000, .inl (upd g17 0 0))), (h10, .inl (cy 1, 1000, .inl (upd (upd g18 0 22) 0 23))), (h11, .inl (cy 1, 1000, .inl (upd g19 0 0)))] := hD
  rw [kx_uu] at hP hD
  refine lv_istore (lv' := [(5, .int 22), (4, .int 0), (3, .int 22), (6, .int 0), (2, .int 0), (0, .ref h1), (1, .int 0)]) hx hb dX6_meetsRing_82 hl (by decide) rfl (fun ls hl => ?_)
  refine lv_aload_n hx hb dX6_meetsRing_84 rfl (lv_at hl 5 rfl) ?_
  refine va_get (D := D) (ci := 8) (v := .ref h7) (C := RX6) (T := TX6) (N := 13) hx hb hts (fun _ h => (List.mem_cons_of_mem _ (List.mem_append_left _ (List.mem_append_left _ (List.mem_append_right _ h))))) hown hK hP 1 rfl rfl 5 (by decide) (hts (.fieldLink RX6 27 "SelfishJunction$Survey" "moves" "[I") (List.mem_cons_of_mem _ (List.mem_append_left _ (List.mem_append_left _ (List.mem_append_left _ (List.mem_append_left _ (List.mem_of_getElem? (i := 4) rfl))))))) (fun _ h9 => h9) rfl dX6_meetsRing_85 ?_
  refine lv_iload hx hb dX6_meetsRing_88 (lv_at hl 1 rfl) ?_
  refine va_iald hx hb hK hP 0 1 rfl rfl (kx_in 0 1000 rfl ⟨(Nat.le_of_ble_eq_true rfl), (Nat.le_of_ble_eq_true rfl)⟩ (Nat.le_of_ble_eq_true rfl)) dX6_meetsRing_90 ?_
  refine lv_topi (fun v_160 ev_160 => ?_)
  obtain rfl : v_160 = 0 := ev_160.trans (kg15_0)
  refine lv_iload hx hb dX6_meetsRing_91 (lv_at hl 0 rfl) ?_
  have hPc := hP.sub (ws' := []) [] rfl
  refine va_calli (va_runSN (As := [.int 0, .int 22]) (rest := []) ⟨hx, hb, hml, hown, hts⟩ (k_X7_hasBit_22 l D cy ) ⟨va_cnB 2 hts gX6_meetsRing_X7_hasBit_n132 rfl rfl rfl (exP.nest hE (RX6, 132, yX7_hasBit, RX7) (by decide +kernel)) (hts (.initialized RX7) (List.mem_cons_of_mem _ (List.mem_append_left _ (List.mem_append_left _ (List.mem_append_left _ (List.mem_append_left _ (List.mem_of_getElem? (i := 20) rfl))))))) (by decide +kernel) ⟨(Nat.le_of_ble_eq_true rfl), (Nat.le_of_ble_eq_true rfl)⟩, (hts (.static yX7_hasBit) (List.mem_cons_of_mem _ (List.mem_append_left _ (List.mem_append_left _ (List.mem_append_left _ (List.mem_append_left _ (List.mem_of_getElem? (i := 19) rfl))))))), trivial⟩ ⟨kR_fb, (kR_go hPc hK)⟩ rfl rfl hl.1 rfl (lv_room (Nat.le_of_ble_eq_true rfl)) dX6_meetsRing_93 ⟨(Nat.le_of_ble_eq_true rfl), (Nat.le_of_ble_eq_true rfl)⟩) hS (fun _ _ h => h.elim) (fun _ h => h.elim) (fun r9 u t H locs ht hvm hw hB hz1 hk1 hS => ?_)
  have hP := kx_kept hP hk1
  obtain ⟨rfl, hw⟩ := hw
  refine lv_if_eq (tgt := 110) hx hb dX6_meetsRing_96 (by decide) (fun _ => ?_) (fun h => absurd (by decide) h)
  refine lv_iload hx hb dX6_meetsRing_110 (lv_at hl 1 rfl) ?_
  refine lv_istore (lv' := [(6, .int 0), (5, .int 22), (4, .int 0), (3, .int 22), (2, .int 0), (0, .ref h1), (1, .int 0)]) hx hb dX6_meetsRing_112 hl (by decide) rfl (fun ls hl => ?_)
  refine lv_iload hx hb dX6_meetsRing_114 (lv_at hl 0 rfl) ?_
  refine lv_iload hx hb dX6_meetsRing_116 (lv_at hl 2 rfl) ?_
  refine lv_icmp_eq (tgt := 134) hx hb dX6_meetsRing_118 (by decide) (fun _ => ?_) (fun h => absurd (by decide) h)
  refine lv_aload_n hx hb dX6_meetsRing_134 rfl (lv_at hl 5 rfl) ?_
  refine va_get (D := D) (ci := 8) (v := .ref h8) (C := RX6) (T := TX6) (N := 13) hx hb hts (fun _ h => (List.mem_cons_of_mem _ (List.mem_append_left _ (List.mem_append_left _ (List.mem_append_right _ h))))) hown hK hP 1 rfl rfl 6 (by decide) (hts (.fieldLink RX6 30 "SelfishJunction$Survey" "marks" "[I") (List.mem_cons_of_mem _ (List.mem_append_left _ (List.mem_append_left _ (List.mem_append_left _ (List.mem_append_left _ (List.mem_of_getElem? (i := 3) rfl))))))) (fun _ h9 => h9) rfl dX6_meetsRing_135 ?_
  refine lv_iload hx hb dX6_meetsRing_138 (lv_at hl 0 rfl) ?_
  refine va_iald hx hb hK hP 2 1 rfl rfl (kx_in 0 1000 rfl ⟨(Nat.le_of_ble_eq_true rfl), (Nat.le_of_ble_eq_true rfl)⟩ (Nat.le_of_ble_eq_true rfl)) dX6_meetsRing_140 ?_
  refine lv_topi (fun v_162 ev_162 => ?_)
  obtain rfl : v_162 = 1 := ev_162.trans rfl
  refine lv_iconst (v := 2) hx hb dX6_meetsRing_141 (by decide) ?_
  refine lv_icmp_ne (tgt := 156) hx hb dX6_meetsRing_142 (by decide) (fun _ => ?_) (fun h => absurd h (by decide))
  refine lv_iload hx hb dX6_meetsRing_156 (lv_at hl 0 rfl) ?_
  refine lv_iload hx hb dX6_meetsRing_158 (lv_at hl 2 rfl) ?_
  refine lv_icmp_eq (tgt := 173) hx hb dX6_meetsRing_160 (by decide) (fun _ => ?_) (fun h => absurd (by decide) h)
  refine lv_iinc (v := 23) (lv' := [(3, .int 23), (6, .int 0), (5, .int 22), (4, .int 0), (2, .int 0), (0, .ref h1), (1, .int 0)]) hx hb dX6_meetsRing_173 hl (k := 3) rfl (by decide) (by decide) rfl (fun ls hl => ?_)
  refine lv_goto (tgt := 10) hx hb dX6_meetsRing_176 (by decide) ?_
  refine lv_iload_n hx hb dX6_meetsRing_10 rfl (lv_at hl 0 rfl) ?_
  refine lv_ldc (v := 1000000) hx hb hown (hts (.constant RX6 128 (1000000)) (List.mem_cons_of_mem _ (List.mem_append_left _ (List.mem_append_left _ (List.mem_append_left _ (List.mem_append_left _ (List.mem_of_getElem? (i := 0) rfl))))))) dX6_meetsRing_11 ?_
  refine lv_icmp_ge (tgt := 179) hx hb dX6_meetsRing_13 (by decide) (fun h => absurd h (by decide)) (fun _ => ?_)
  refine lv_iload_n hx hb dX6_meetsRing_16 rfl (lv_at hl 4 rfl) ?_
  refine lv_if_lt (tgt := 179) hx hb dX6_meetsRing_17 (by decide) (fun h => absurd h (by decide)) (fun _ => ?_)
  refine lv_aload_n hx hb dX6_meetsRing_20 rfl (lv_at hl 5 rfl) ?_
  refine va_get (D := D) (ci := 8) (v := .ref h11) (C := RX6) (T := TX6) (N := 13) hx hb hts (fun _ h => (List.mem_cons_of_mem _ (List.mem_append_left _ (List.mem_append_left _ (List.mem_append_right _ h))))) hown hK hP 1 rfl rfl 9 (by decide) (hts (.fieldLink RX6 39 "SelfishJunction$Survey" "stack" "[I") (List.mem_cons_of_mem _ (List.mem_append_left _ (List.mem_append_left _ (List.mem_append_left _ (List.mem_append_left _ (List.mem_of_getElem? (i := 1) rfl))))))) (fun _ h9 => h9) rfl dX6_meetsRing_21 ?_
  refine lv_iload_n hx hb dX6_meetsRing_24 rfl (lv_at hl 4 rfl) ?_
  refine va_iald hx hb hK hP 5 1 rfl rfl (kx_in 0 1000 rfl ⟨(Nat.le_of_ble_eq_true rfl), (Nat.le_of_ble_eq_true rfl)⟩ (Nat.le_of_ble_eq_true rfl)) dX6_meetsRing_25 ?_
  refine lv_topi (fun v_163 ev_163 => ?_)
  obtain rfl : v_163 = 0 := ev_163.trans rfl
  refine lv_istore (lv' := [(4, .int 0), (3, .int 23), (6, .int 0), (5, .int 22), (2, .int 0), (0, .ref h1), (1, .int 0)]) hx hb dX6_meetsRing_26 hl (by decide) rfl (fun ls hl => ?_)
  refine lv_aload_n hx hb dX6_meetsRing_28 rfl (lv_at hl 5 rfl) ?_
  refine va_get (D := D) (ci := 8) (v := .ref h10) (C := RX6) (T := TX6) (N := 13) hx hb hts (fun _ h => (List.mem_cons_of_mem _ (List.mem_append_left _ (List.mem_append_left _ (List.mem_append_right _ h))))) hown hK hP 1 rfl rfl 8 (by decide) (hts (.fieldLink RX6 36 "SelfishJunction$Survey" "tried" "[I") (List.mem_cons_of_mem _ (List.mem_append_left _ (List.mem_append_left _ (List.mem_append_left _ (List.mem_append_left _ (List.mem_of_getElem? (i := 2) rfl))))))) (fun _ h9 => h9) rfl dX6_meetsRing_29 ?_
  refine lv_iload hx hb dX6_meetsRing_32 (lv_at hl 0 rfl) ?_
  refine va_iald hx hb hK hP 4 1 rfl rfl (kx_in 0 1000 rfl ⟨(Nat.le_of_ble_eq_true rfl), (Nat.le_of_ble_eq_true rfl)⟩ (Nat.le_of_ble_eq_true rfl)) dX6_meetsRing_34 ?_
  refine lv_topi (fun v_164 ev_164 => ?_)
  obtain rfl : v_164 = 23 := ev_164.trans rfl
  refine lv_bipush (v := 30) hx hb dX6_meetsRing_35 (by decide) ?_
  refine lv_icmp_lt (tgt := 70) hx hb dX6_meetsRing_37 (by decide) (fun _ => ?_) (fun h => absurd (by decide) h)
  refine lv_aload_n hx hb dX6_meetsRing_70 rfl (lv_at hl 5 rfl) ?_
  refine va_get (D := D) (ci := 8) (v := .ref h10) (C := RX6) (T := TX6) (N := 13) hx hb hts (fun _ h => (List.mem_cons_of_mem _ (List.mem_append_left _ (List.mem_append_left _ (List.mem_append_right _ h))))) hown hK hP 1 rfl rfl 8 (by decide) (hts (.fieldLink RX6 36 "SelfishJunction$Survey" "tried" "[I") (List.mem_cons_of_mem _ (List.mem_append_left _ (List.mem_append_left _ (List.mem_append_left _ (List.mem_append_left _ (List.mem_of_getElem? (i := 2) rfl))))))) (fun _ h9 => h9) rfl dX6_meetsRing_71 ?_
  refine lv_iload hx hb dX6_meetsRing_74 (lv_at hl 0 rfl) ?_
  refine lv_dup2_11 hx hb dX6_meetsRing_76 rfl rfl ?_
  refine va_iald hx hb hK hP 4 1 rfl rfl (kx_in 0 1000 rfl ⟨(Nat.le_of_ble_eq_true rfl), (Nat.le_of_ble_eq_true rfl)⟩ (Nat.le_of_ble_eq_true rfl)) dX6_meetsRing_77 ?_
  refine lv_topi (fun v_165 ev_165 => ?_)
  obtain rfl : v_165 = 23 := ev_165.trans rfl
  refine lv_dup_x2 hx hb dX6_meetsRing_78 rfl rfl rfl ?_
  refine lv_iconst (v := 1) hx hb dX6_meetsRing_79 (by decide) ?_
  refine lv_iadd hx hb dX6_meetsRing_80 ?_
  refine lv_topi (fun v_166 ev_166 => ?_)
  obtain rfl : v_166 = 24 := ev_166.trans (by decide)
  refine va_iast hx hb hK hP hD hS 4 1 rfl rfl (kx_in 0 1000 rfl ⟨(Nat.le_of_ble_eq_true rfl), (Nat.le_of_ble_eq_true rfl)⟩ (Nat.le_of_ble_eq_true rfl)) dX6_meetsRing_81 (fun H locs hP hD hS => ?_)
  have hP : va_P D vwCl [(h7, .inl (cy 1, 1000, .inl g15)), (h1, .inr (8, [x2, x3, x4, x5, x6, .ref h7, .ref h8, .ref h9, .ref h10, .ref h11, x12, x13, x14])), (h8, .inl (cy 1, 1000, .inl (upd g16 0 1))), (h9, .inl (cy 1, 1000, .inl (upd g17 0 0))), (h10, .inl (cy 1, 1000, .inl (upd (upd g18 0 23) 0 24))), (h11, .inl (cy 1, 1000, .inl (upd g19 0 0)))] H := hP
  have hD : va_D A [(h7, .inl (cy 1, 1000, .inl g15)), (h1, .inr (8, [x2, x3, x4, x5, x6, .ref h7, .ref h8, .ref h9, .ref h10, .ref h11, x12, x13, x14])), (h8, .inl (cy 1, 1000, .inl (upd g16 0 1))), (h9, .inl (cy 1, 1000, .inl (upd g17 0 0))), (h10, .inl (cy 1, 1000, .inl (upd (upd g18 0 23) 0 24))), (h11, .inl (cy 1, 1000, .inl (upd g19 0 0)))] := hD
  rw [kx_uu] at hP hD
  refine lv_istore (lv' := [(5, .int 23), (4, .int 0), (3, .int 23), (6, .int 0), (2, .int 0), (0, .ref h1), (1, .int 0)]) hx hb dX6_meetsRing_82 hl (by decide) rfl (fun ls hl => ?_)
  refine lv_aload_n hx hb dX6_meetsRing_84 rfl (lv_at hl 5 rfl) ?_
  refine va_get (D := D) (ci := 8) (v := .ref h7) (C := RX6) (T := TX6) (N := 13) hx hb hts (fun _ h => (List.mem_cons_of_mem _ (List.mem_append_left _ (List.mem_append_left _ (List.mem_append_right _ h))))) hown hK hP 1 rfl rfl 5 (by decide) (hts (.fieldLink RX6 27 "SelfishJunction$Survey" "moves" "[I") (List.mem_cons_of_mem _ (List.mem_append_left _ (List.mem_append_left _ (List.mem_append_left _ (List.mem_append_left _ (List.mem_of_getElem? (i := 4) rfl))))))) (fun _ h9 => h9) rfl dX6_meetsRing_85 ?_
  refine lv_iload hx hb dX6_meetsRing_88 (lv_at hl 1 rfl) ?_
  refine va_iald hx hb hK hP 0 1 rfl rfl (kx_in 0 1000 rfl ⟨(Nat.le_of_ble_eq_true rfl), (Nat.le_of_ble_eq_true rfl)⟩ (Nat.le_of_ble_eq_true rfl)) dX6_meetsRing_90 ?_
  refine lv_topi (fun v_167 ev_167 => ?_)
  obtain rfl : v_167 = 0 := ev_167.trans (kg15_0)
  refine lv_iload hx hb dX6_meetsRing_91 (lv_at hl 0 rfl) ?_
  have hPc := hP.sub (ws' := []) [] rfl
  refine va_calli (va_runSN (As := [.int 0, .int 23]) (rest := []) ⟨hx, hb, hml, hown, hts⟩ (k_X7_hasBit_23 l D cy ) ⟨va_cnB 2 hts gX6_meetsRing_X7_hasBit_n132 rfl rfl rfl (exP.nest hE (RX6, 132, yX7_hasBit, RX7) (by decide +kernel)) (hts (.initialized RX7) (List.mem_cons_of_mem _ (List.mem_append_left _ (List.mem_append_left _ (List.mem_append_left _ (List.mem_append_left _ (List.mem_of_getElem? (i := 20) rfl))))))) (by decide +kernel) ⟨(Nat.le_of_ble_eq_true rfl), (Nat.le_of_ble_eq_true rfl)⟩, (hts (.static yX7_hasBit) (List.mem_cons_of_mem _ (List.mem_append_left _ (List.mem_append_left _ (List.mem_append_left _ (List.mem_append_left _ (List.mem_of_getElem? (i := 19) rfl))))))), trivial⟩ ⟨kR_fb, (kR_go hPc hK)⟩ rfl rfl hl.1 rfl (lv_room (Nat.le_of_ble_eq_true rfl)) dX6_meetsRing_93 ⟨(Nat.le_of_ble_eq_true rfl), (Nat.le_of_ble_eq_true rfl)⟩) hS (fun _ _ h => h.elim) (fun _ h => h.elim) (fun r9 u t H locs ht hvm hw hB hz1 hk1 hS => ?_)
  have hP := kx_kept hP hk1
  obtain ⟨rfl, hw⟩ := hw
  refine lv_if_eq (tgt := 110) hx hb dX6_meetsRing_96 (by decide) (fun _ => ?_) (fun h => absurd (by decide) h)
  refine lv_iload hx hb dX6_meetsRing_110 (lv_at hl 1 rfl) ?_
  refine lv_istore (lv' := [(6, .int 0), (5, .int 23), (4, .int 0), (3, .int 23), (2, .int 0), (0, .ref h1), (1, .int 0)]) hx hb dX6_meetsRing_112 hl (by decide) rfl (fun ls hl => ?_)
  refine lv_iload hx hb dX6_meetsRing_114 (lv_at hl 0 rfl) ?_
  refine lv_iload hx hb dX6_meetsRing_116 (lv_at hl 2 rfl) ?_
  refine lv_icmp_eq (tgt := 134) hx hb dX6_meetsRing_118 (by decide) (fun _ => ?_) (fun h => absurd (by decide) h)
  refine lv_aload_n hx hb dX6_meetsRing_134 rfl (lv_at hl 5 rfl) ?_
  refine va_get (D := D) (ci := 8) (v := .ref h8) (C := RX6) (T := TX6) (N := 13) hx hb hts (fun _ h => (List.mem_cons_of_mem _ (List.mem_append_left _ (List.mem_append_left _ (List.mem_append_right _ h))))) hown hK hP 1 rfl rfl 6 (by decide) (hts (.fieldLink RX6 30 "SelfishJunction$Survey" "marks" "[I") (List.mem_cons_of_mem _ (List.mem_append_left _ (List.mem_append_left _ (List.mem_append_left _ (List.mem_append_left _ (List.mem_of_getElem? (i := 3) rfl))))))) (fun _ h9 => h9) rfl dX6_meetsRing_135 ?_
  refine lv_iload hx hb dX6_meetsRing_138 (lv_at hl 0 rfl) ?_
  refine va_iald hx hb hK hP 2 1 rfl rfl (kx_in 0 1000 rfl ⟨(Nat.le_of_ble_eq_true rfl), (Nat.le_of_ble_eq_true rfl)⟩ (Nat.le_of_ble_eq_true rfl)) dX6_meetsRing_140 ?_
  refine lv_topi (fun v_169 ev_169 => ?_)
  obtain rfl : v_169 = 1 := ev_169.trans rfl
  refine lv_iconst (v := 2) hx hb dX6_meetsRing_141 (by decide) ?_
  refine lv_icmp_ne (tgt := 156) hx hb dX6_meetsRing_142 (by decide) (fun _ => ?_) (fun h => absurd h (by decide))
  refine lv_iload hx hb dX6_meetsRing_156 (lv_at hl 0 rfl) ?_
  refine lv_iload hx hb dX6_meetsRing_158 (lv_at hl 2 rfl) ?_
  refine lv_icmp_eq (tgt := 173) hx hb dX6_meetsRing_160 (by decide) (fun _ => ?_) (fun h => absurd (by decide) h)
  refine lv_iinc (v := 24) (lv' := [(3, .int 24), (6, .int 0), (5, .int 23), (4, .int 0), (2, .int 0), (0, .ref h1), (1, .int 0)]) hx hb dX6_meetsRing_173 hl (k := 3) rfl (by decide) (by decide) rfl (fun ls hl => ?_)
  refine lv_goto (tgt := 10) hx hb dX6_meetsRing_176 (by decide) ?_
  refine lv_iload_n hx hb dX6_meetsRing_10 rfl (lv_at hl 0 rfl) ?_
  refine lv_ldc (v := 1000000) hx hb hown (hts (.constant RX6 128 (1000000)) (List.mem_cons_of_mem _ (List.mem_append_left _ (List.mem_append_left _ (List.mem_append_left _ (List.mem_append_left _ (List.mem_of_getElem? (i := 0) rfl))))))) dX6_meetsRing_11 ?_
  refine lv_icmp_ge (tgt := 179) hx hb dX6_meetsRing_13 (by decide) (fun h => absurd h (by decide)) (fun _ => ?_)
  refine lv_iload_n hx hb dX6_meetsRing_16 rfl (lv_at hl 4 rfl) ?_
  refine lv_if_lt (tgt := 179) hx hb dX6_meetsRing_17 (by decide) (fun h => absurd h (by decide)) (fun _ => ?_)
  refine lv_aload_n hx hb dX6_meetsRing_20 rfl (lv_at hl 5 rfl) ?_
  refine va_get (D := D) (ci := 8) (v := .ref h11) (C := RX6) (T := TX6) (N := 13) hx hb hts (fun _ h => (List.mem_cons_of_mem _ (List.mem_append_left _ (List.mem_append_left _ (List.mem_append_right _ h))))) hown hK hP 1 rfl rfl 9 (by decide) (hts (.fieldLink RX6 39 "SelfishJunction$Survey" "stack" "[I") (List.mem_cons_of_mem _ (List.mem_append_left _ (List.mem_append_left _ (List.mem_append_left _ (List.mem_append_left _ (List.mem_of_getElem? (i := 1) rfl))))))) (fun _ h9 => h9) rfl dX6_meetsRing_21 ?_
  refine lv_iload_n hx hb dX6_meetsRing_24 rfl (lv_at hl 4 rfl) ?_
  refine va_iald hx hb hK hP 5 1 rfl rfl (kx_in 0 1000 rfl ⟨(Nat.le_of_ble_eq_true rfl), (Nat.le_of_ble_eq_true rfl)⟩ (Nat.le_of_ble_eq_true rfl)) dX6_meetsRing_25 ?_
  refine lv_topi (fun v_170 ev_170 => ?_)
  obtain rfl : v_170 = 0 := ev_170.trans rfl
  refine lv_istore (lv' := [(4, .int 0), (3, .int 24), (6, .int 0), (5, .int 23), (2, .int 0), (0, .ref h1), (1, .int 0)]) hx hb dX6_meetsRing_26 hl (by decide) rfl (fun ls hl => ?_)
  refine lv_aload_n hx hb dX6_meetsRing_28 rfl (lv_at hl 5 rfl) ?_
  refine va_get (D := D) (ci := 8) (v := .ref h10) (C := RX6) (T := TX6) (N := 13) hx hb hts (fun _ h => (List.mem_cons_of_mem _ (List.mem_append_left _ (List.mem_append_left _ (List.mem_append_right _ h))))) hown hK hP 1 rfl rfl 8 (by decide) (hts (.fieldLink RX6 36 "SelfishJunction$Survey" "tried" "[I") (List.mem_cons_of_mem _ (List.mem_append_left _ (List.mem_append_left _ (List.mem_append_left _ (List.mem_append_left _ (List.mem_of_getElem? (i := 2) rfl))))))) (fun _ h9 => h9) rfl dX6_meetsRing_29 ?_
  refine lv_iload hx hb dX6_meetsRing_32 (lv_at hl 0 rfl) ?_
  refine va_iald hx hb hK hP 4 1 rfl rfl (kx_in 0 1000 rfl ⟨(Nat.le_of_ble_eq_true rfl), (Nat.le_of_ble_eq_true rfl)⟩ (Nat.le_of_ble_eq_true rfl)) dX6_meetsRing_34 ?_
  refine lv_topi (fun v_171 ev_171 => ?_)
  obtain rfl : v_171 = 24 := ev_171.trans rfl
  refine lv_bipush (v := 30) hx hb dX6_meetsRing_35 (by decide) ?_
  refine lv_icmp_lt (tgt := 70) hx hb dX6_meetsRing_37 (by decide) (fun _ => ?_) (fun h => absurd (by decide) h)
  refine lv_aload_n hx hb dX6_meetsRing_70 rfl (lv_at hl 5 rfl) ?_
  refine va_get (D := D) (ci := 8) (v := .ref h10) (C := RX6) (T := TX6) (N := 13) hx hb hts (fun _ h => (List.mem_cons_of_mem _ (List.mem_append_left _ (List.mem_append_left _ (List.mem_append_right _ h))))) hown hK hP 1 rfl rfl 8 (by decide) (hts (.fieldLink RX6 36 "SelfishJunction$Survey" "tried" "[I") (List.mem_cons_of_mem _ (List.mem_append_left _ (List.mem_append_left _ (List.mem_append_left _ (List.mem_append_left _ (List.mem_of_getElem? (i := 2) rfl))))))) (fun _ h9 => h9) rfl dX6_meetsRing_71 ?_
  refine lv_iload hx hb dX6_meetsRing_74 (lv_at hl 0 rfl) ?_
  refine lv_dup2_11 hx hb dX6_meetsRing_76 rfl rfl ?_
  refine va_iald hx hb hK hP 4 1 rfl rfl (kx_in 0 1000 rfl ⟨(Nat.le_of_ble_eq_true rfl), (Nat.le_of_ble_eq_true rfl)⟩ (Nat.le_of_ble_eq_true rfl)) dX6_meetsRing_77 ?_
  refine lv_topi (fun v_172 ev_172 => ?_)
  obtain rfl : v_172 = 24 := ev_172.trans rfl
  refine lv_dup_x2 hx hb dX6_meetsRing_78 rfl rfl rfl ?_
  refine lv_iconst (v := 1) hx hb dX6_meetsRing_79 (by decide) ?_
  refine lv_iadd hx hb dX6_meetsRing_80 ?_
  refine lv_topi (fun v_173 ev_173 => ?_)
  obtain rfl : v_173 = 25 := ev_173.trans (by decide)
  refine va_iast hx hb hK hP hD hS 4 1 rfl rfl (kx_in 0 1000 rfl ⟨(Nat.le_of_ble_eq_true rfl), (Nat.le_of_ble_eq_true rfl)⟩ (Nat.le_of_ble_eq_true rfl)) dX6_meetsRing_81 (fun H locs hP hD hS => ?_)
  have hP : va_P D vwCl [(h7, .inl (cy 1, 1000, .inl g15)), (h1, .inr (8, [x2, x3, x4, x5, x6, .ref h7, .ref h8, .ref h9, .ref h10, .ref h11, x12, x13, x14])), (h8, .inl (cy 1, 1000, .inl (upd g16 0 1))), (h9, .inl (cy 1, 1000, .inl (upd g17 0 0))), (h10, .inl (cy 1, 1000, .inl (upd (upd g18 0 24) 0 25))), (h11, .inl (cy 1, 1000, .inl (upd g19 0 0)))] H := hP
  have hD : va_D A [(h7, .inl (cy 1, 1000, .inl g15)), (h1, .inr (8, [x2, x3, x4, x5, x6, .ref h7, .ref h8, .ref h9, .ref h10, .ref h11, x12, x13, x14])), (h8, .inl (cy 1, 1000, .inl (upd g16 0 1))), (h9, .inl (cy 1, 1000, .inl (upd g17 0 0))), (h10, .inl (cy 1, 1000, .inl (upd (upd g18 0 24) 0 25))), (h11, .inl (cy 1, 1000, .inl (upd g19 0 0)))] := hD
  rw [kx_uu] at hP hD
  refine lv_istore (lv' := [(5, .int 24), (4, .int 0), (3, .int 24), (6, .int 0), (2, .int 0), (0, .ref h1), (1, .int 0)]) hx hb dX6_meetsRing_82 hl (by decide) rfl (fun ls hl => ?_)
  refine lv_aload_n hx hb dX6_meetsRing_84 rfl (lv_at hl 5 rfl) ?_
  refine va_get (D := D) (ci := 8) (v := .ref h7) (C := RX6) (T := TX6) (N := 13) hx hb hts (fun _ h => (List.mem_cons_of_mem _ (List.mem_append_left _ (List.mem_append_left _ (List.mem_append_right _ h))))) hown hK hP 1 rfl rfl 5 (by decide) (hts (.fieldLink RX6 27 "SelfishJunction$Survey" "moves" "[I") (List.mem_cons_of_mem _ (List.mem_append_left _ (List.mem_append_left _ (List.mem_append_left _ (List.mem_append_left _ (List.mem_of_getElem? (i := 4) rfl))))))) (fun _ h9 => h9) rfl dX6_meetsRing_85 ?_
  refine lv_iload hx hb dX6_meetsRing_88 (lv_at hl 1 rfl) ?_
  refine va_iald hx hb hK hP 0 1 rfl rfl (kx_in 0 1000 rfl ⟨(Nat.le_of_ble_eq_true rfl), (Nat.le_of_ble_eq_true rfl)⟩ (Nat.le_of_ble_eq_true rfl)) dX6_meetsRing_90 ?_
  refine lv_topi (fun v_174 ev_174 => ?_)
  obtain rfl : v_174 = 0 := ev_174.trans (kg15_0)
  refine lv_iload hx hb dX6_meetsRing_91 (lv_at hl 0 rfl) ?_
  have hPc := hP.sub (ws' := []) [] rfl
  refine va_calli (va_runSN (As := [.int 0, .int 24]) (rest := []) ⟨hx, hb, hml, hown, hts⟩ (k_X7_hasBit_24 l D cy ) ⟨va_cnB 2 hts gX6_meetsRing_X7_hasBit_n132 rfl rfl rfl (exP.nest hE (RX6, 132, yX7_hasBit, RX7) (by decide +kernel)) (hts (.initialized RX7) (List.mem_cons_of_mem _ (List.mem_append_left _ (List.mem_append_left _ (List.mem_append_left _ (List.mem_append_left _ (List.mem_of_getElem? (i := 20) rfl))))))) (by decide +kernel) ⟨(Nat.le_of_ble_eq_true rfl), (Nat.le_of_ble_eq_true rfl)⟩, (hts (.static yX7_hasBit) (List.mem_cons_of_mem _ (List.mem_append_left _ (List.mem_append_left _ (List.mem_append_left _ (List.mem_append_left _ (List.mem_of_getElem? (i := 19) rfl))))))), trivial⟩ ⟨kR_fb, (kR_go hPc hK)⟩ rfl rfl hl.1 rfl (lv_room (Nat.le_of_ble_eq_true rfl)) dX6_meetsRing_93 ⟨(Nat.le_of_ble_eq_true rfl), (Nat.le_of_ble_eq_true rfl)⟩) hS (fun _ _ h => h.elim) (fun _ h => h.elim) (fun r9 u t H locs ht hvm hw hB hz1 hk1 hS => ?_)
  have hP := kx_kept hP hk1
  obtain ⟨rfl, hw⟩ := hw
  refine lv_if_eq (tgt := 110) hx hb dX6_meetsRing_96 (by decide) (fun _ => ?_) (fun h => absurd (by decide) h)
  refine lv_iload hx hb dX6_meetsRing_110 (lv_at hl 1 rfl) ?_
  refine lv_istore (lv' := [(6, .int 0), (5, .int 24), (4, .int 0), (3, .int 24), (2, .int 0), (0, .ref h1), (1, .int 0)]) hx hb dX6_meetsRing_112 hl (by decide) rfl (fun ls hl => ?_)
  refine lv_iload hx hb dX6_meetsRing_114 (lv_at hl 0 rfl) ?_
  refine lv_iload hx hb dX6_meetsRing_116 (lv_at hl 2 rfl) ?_
  refine lv_icmp_eq (tgt := 134) hx hb dX6_meetsRing_118 (by decide) (fun _ => ?_) (fun h => absurd (by decide) h)
  refine lv_aload_n hx hb dX6_meetsRing_134 rfl (lv_at hl 5 rfl) ?_
  refine va_get (D := D) (ci := 8) (v := .ref h8) (C := RX6) (T := TX6) (N := 13) hx hb hts (fun _ h => (List.mem_cons_of_mem _ (List.mem_append_left _ (List.mem_append_left _ (List.mem_append_right _ h))))) hown hK hP 1 rfl rfl 6 (by decide) (hts (.fieldLink RX6 30 "SelfishJunction$Survey" "marks" "[I") (List.mem_cons_of_mem _ (List.mem_append_left _ (List.mem_append_left _ (List.mem_append_left _ (List.mem_append_left _ (List.mem_of_getElem? (i := 3) rfl))))))) (fun _ h9 => h9) rfl dX6_meetsRing_135 ?_
  refine lv_iload hx hb dX6_meetsRing_138 (lv_at hl 0 rfl) ?_
  refine va_iald hx hb hK hP 2 1 rfl rfl (kx_in 0 1000 rfl ⟨(Nat.le_of_ble_eq_true rfl), (Nat.le_of_ble_eq_true rfl)⟩ (Nat.le_of_ble_eq_true rfl)) dX6_meetsRing_140 ?_
  refine lv_topi (fun v_176 ev_176 => ?_)
  obtain rfl : v_176 = 1 := ev_176.trans rfl
  refine lv_iconst (v := 2) hx hb dX6_meetsRing_141 (by decide) ?_
  refine lv_icmp_ne (tgt := 156) hx hb dX6_meetsRing_142 (by decide) (fun _ => ?_) (fun h => absurd h (by decide))
  refine lv_iload hx hb dX6_meetsRing_156 (lv_at hl 0 rfl) ?_
  refine lv_iload hx hb dX6_meetsRing_158 (lv_at hl 2 rfl) ?_
  refine lv_icmp_eq (tgt := 173) hx hb dX6_meetsRing_160 (by decide) (fun _ => ?_) (fun h => absurd (by decide) h)
  refine lv_iinc (v := 25) (lv' := [(3, .int 25), (6, .int 0), (5, .int 24), (4, .int 0), (2, .int 0), (0, .ref h1), (1, .int 0)]) hx hb dX6_meetsRing_173 hl (k := 3) rfl (by decide) (by decide) rfl (fun ls hl => ?_)
  refine lv_goto (tgt := 10) hx hb dX6_meetsRing_176 (by decide) ?_
  refine lv_iload_n hx hb dX6_meetsRing_10 rfl (lv_at hl 0 rfl) ?_
  refine lv_ldc (v := 1000000) hx hb hown (hts (.constant RX6 128 (1000000)) (List.mem_cons_of_mem _ (List.mem_append_left _ (List.mem_append_left _ (List.mem_append_left _ (List.mem_append_left _ (List.mem_of_getElem? (i := 0) rfl))))))) dX6_meetsRing_11 ?_
  refine lv_icmp_ge (tgt := 179) hx hb dX6_meetsRing_13 (by decide) (fun h => absurd h (by decide)) (fun _ => ?_)
  refine lv_iload_n hx hb dX6_meetsRing_16 rfl (lv_at hl 4 rfl) ?_
  refine lv_if_lt (tgt := 179) hx hb dX6_meetsRing_17 (by decide) (fun h => absurd h (by decide)) (fun _ => ?_)
  refine lv_aload_n hx hb dX6_meetsRing_20 rfl (lv_at hl 5 rfl) ?_
  refine va_get (D := D) (ci := 8) (v := .ref h11) (C := RX6) (T := TX6) (N := 13) hx hb hts (fun _ h => (List.mem_cons_of_mem _ (List.mem_append_left _ (List.mem_append_left _ (List.mem_append_right _ h))))) hown hK hP 1 rfl rfl 9 (by decide) (hts (.fieldLink RX6 39 "SelfishJunction$Survey" "stack" "[I") (List.mem_cons_of_mem _ (List.mem_append_left _ (List.mem_append_left _ (List.mem_append_left _ (List.mem_append_left _ (List.mem_of_getElem? (i := 1) rfl))))))) (fun _ h9 => h9) rfl dX6_meetsRing_21 ?_
  refine lv_iload_n hx hb dX6_meetsRing_24 rfl (lv_at hl 4 rfl) ?_
  refine va_iald hx hb hK hP 5 1 rfl rfl (kx_in 0 1000 rfl ⟨(Nat.le_of_ble_eq_true rfl), (Nat.le_of_ble_eq_true rfl)⟩ (Nat.le_of_ble_eq_true rfl)) dX6_meetsRing_25 ?_
  refine lv_topi (fun v_177 ev_177 => ?_)
  obtain rfl : v_177 = 0 := ev_177.trans rfl
  refine lv_istore (lv' := [(4, .int 0), (3, .int 25), (6, .int 0), (5, .int 24), (2, .int 0), (0, .ref h1), (1, .int 0)]) hx hb dX6_meetsRing_26 hl (by decide) rfl (fun ls hl => ?_)
  refine lv_aload_n hx hb dX6_meetsRing_28 rfl (lv_at hl 5 rfl) ?_
  refine va_get (D := D) (ci := 8) (v := .ref h10) (C := RX6) (T := TX6) (N := 13) hx hb hts (fun _ h => (List.mem_cons_of_mem _ (List.mem_append_left _ (List.mem_append_left _ (List.mem_append_right _ h))))) hown hK hP 1 rfl rfl 8 (by decide) (hts (.fieldLink RX6 36 "SelfishJunction$Survey" "tried" "[I") (List.mem_cons_of_mem _ (List.mem_append_left _ (List.mem_append_left _ (List.mem_append_left _ (List.mem_append_left _ (List.mem_of_getElem? (i := 2) rfl))))))) (fun _ h9 => h9) rfl dX6_meetsRing_29 ?_
  refine lv_iload hx hb dX6_meetsRing_32 (lv_at hl 0 rfl) ?_
  refine va_iald hx hb hK hP 4 1 rfl rfl (kx_in 0 1000 rfl ⟨(Nat.le_of_ble_eq_true rfl), (Nat.le_of_ble_eq_true rfl)⟩ (Nat.le_of_ble_eq_true rfl)) dX6_meetsRing_34 ?_
  refine lv_topi (fun v_178 ev_178 => ?_)
  obtain rfl : v_178 = 25 := ev_178.trans rfl
  refine lv_bipush (v := 30) hx hb dX6_meetsRing_35 (by decide) ?_
  refine lv_icmp_lt (tgt := 70) hx hb dX6_meetsRing_37 (by decide) (fun _ => ?_) (fun h => absurd (by decide) h)
  refine lv_aload_n hx hb dX6_meetsRing_70 rfl (lv_at hl 5 rfl) ?_
  refine va_get (D := D) (ci := 8) (v := .ref h10) (C := RX6) (T := TX6) (N := 13) hx hb hts (fun _ h => (List.mem_cons_of_mem _ (List.mem_append_left _ (List.mem_append_left _ (List.mem_append_right _ h))))) hown hK hP 1 rfl rfl 8 (by decide) (hts (.fieldLink RX6 36 "SelfishJunction$Survey" "tried" "[I") (List.mem_cons_of_mem _ (List.mem_append_left _ (List.mem_append_left _ (List.mem_append_left _ (List.mem_append_left _ (List.mem_of_getElem? (i := 2) rfl))))))) (fun _ h9 => h9) rfl dX6_meetsRing_71 ?_
  refine lv_iload hx hb dX6_meetsRing_74 (lv_at hl 0 rfl) ?_
  refine lv_dup2_11 hx hb dX6_meetsRing_76 rfl rfl ?_
  refine va_iald hx hb hK hP 4 1 rfl rfl (kx_in 0 1000 rfl ⟨(Nat.le_of_ble_eq_true rfl), (Nat.le_of_ble_eq_true rfl)⟩ (Nat.le_of_ble_eq_true rfl)) dX6_meetsRing_77 ?_
  refine lv_topi (fun v_179 ev_179 => ?_)
  obtain rfl : v_179 = 25 := ev_179.trans rfl
  refine lv_dup_x2 hx hb dX6_meetsRing_78 rfl rfl rfl ?_
  refine lv_iconst (v := 1) hx hb dX6_meetsRing_79 (by decide) ?_
  refine lv_iadd hx hb dX6_meetsRing_80 ?_
  refine lv_topi (fun v_180 ev_180 => ?_)
  obtain rfl : v_180 = 26 := ev_180.trans (by decide)
  refine va_iast hx hb hK hP hD hS 4 1 rfl rfl (kx_in 0 1000 rfl ⟨(Nat.le_of_ble_eq_true rfl), (Nat.le_of_ble_eq_true rfl)⟩ (Nat.le_of_ble_eq_true rfl)) dX6_meetsRing_81 (fun H locs hP hD hS => ?_)
  have hP : va_P D vwCl [(h7, .inl (cy 1, 1000, .inl g15)), (h1, .inr (8, [x2, x3, x4, x5, x6, .ref h7, .ref h8, .ref h9, .ref h10, .ref h11, x12, x13, x14])), (h8, .inl (cy 1, 1000, .inl (upd g16 0 1))), (h9, .inl (cy 1, 1000, .inl (upd g17 0 0))), (h10, .inl (cy 1, 1000, .inl (upd (upd g18 0 25) 0 26))), (h11, .inl (cy 1, 1000, .inl (upd g19 0 0)))] H := hP
  have hD : va_D A [(h7, .inl (cy 1, 1000, .inl g15)), (h1, .inr (8, [x2, x3, x4, x5, x6, .ref h7, .ref h8, .ref h9, .ref h10, .ref h11, x12, x13, x14])), (h8, .inl (cy 1, 1000, .inl (upd g16 0 1))), (h9, .inl (cy 1, 1000, .inl (upd g17 0 0))), (h10, .inl (cy 1, 1000, .inl (upd (upd g18 0 25) 0 26))), (h11, .inl (cy 1, 1000, .inl (upd g19 0 0)))] := hD
  rw [kx_uu] at hP hD
  refine lv_istore (lv' := [(5, .int 25), (4, .int 0), (3, .int 25), (6, .int 0), (2, .int 0), (0, .ref h1), (1, .int 0)]) hx hb dX6_meetsRing_82 hl (by decide) rfl (fun ls hl => ?_)
  refine lv_aload_n hx hb dX6_meetsRing_84 rfl (lv_at hl 5 rfl) ?_
  refine va_get (D := D) (ci := 8) (v := .ref h7) (C := RX6) (T := TX6) (N := 13) hx hb hts (fun _ h => (List.mem_cons_of_mem _ (List.mem_append_left _ (List.mem_append_left _ (List.mem_append_right _ h))))) hown hK hP 1 rfl rfl 5 (by decide) (hts (.fieldLink RX6 27 "SelfishJunction$Survey" "moves" "[I") (List.mem_cons_of_mem _ (List.mem_append_left _ (List.mem_append_left _ (List.mem_append_left _ (List.mem_append_left _ (List.mem_of_getElem? (i := 4) rfl))))))) (fun _ h9 => h9) rfl dX6_meetsRing_85 ?_
  refine lv_iload hx hb dX6_meetsRing_88 (lv_at hl 1 rfl) ?_
  refine va_iald hx hb hK hP 0 1 rfl rfl (kx_in 0 1000 rfl ⟨(Nat.le_of_ble_eq_true rfl), (Nat.le_of_ble_eq_true rfl)⟩ (Nat.le_of_ble_eq_true rfl)) dX6_meetsRing_90 ?_
  refine lv_topi (fun v_181 ev_181 => ?_)
  obtain rfl : v_181 = 0 := ev_181.trans (kg15_0)
  refine lv_iload hx hb dX6_meetsRing_91 (lv_at hl 0 rfl) ?_
  have hPc := hP.sub (ws' := []) [] rfl
  refine va_calli (va_runSN (As := [.int 0, .int 25]) (rest := []) ⟨hx, hb, hml, hown, hts⟩ (k_X7_hasBit_25 l D cy ) ⟨va_cnB 2 hts gX6_meetsRing_X7_hasBit_n132 rfl rfl rfl (exP.nest hE (RX6, 132, yX7_hasBit, RX7) (by decide +kernel)) (hts (.initialized RX7) (List.mem_cons_of_mem _ (List.mem_append_left _ (List.mem_append_left _ (List.mem_append_left _ (List.mem_append_left _ (List.mem_of_getElem? (i := 20) rfl))))))) (by decide +kernel) ⟨(Nat.le_of_ble_eq_true rfl), (Nat.le_of_ble_eq_true rfl)⟩, (hts (.static yX7_hasBit) (List.mem_cons_of_mem _ (List.mem_append_left _ (List.mem_append_left _ (List.mem_append_left _ (List.mem_append_left _ (List.mem_of_getElem? (i := 19) rfl))))))), trivial⟩ ⟨kR_fb, (kR_go hPc hK)⟩ rfl rfl hl.1 rfl (lv_room (Nat.le_of_ble_eq_true rfl)) dX6_meetsRing_93 ⟨(Nat.le_of_ble_eq_true rfl), (Nat.le_of_ble_eq_true rfl)⟩) hS (fun _ _ h => h.elim) (fun _ h => h.elim) (fun r9 u t H locs ht hvm hw hB hz1 hk1 hS => ?_)
  have hP := kx_kept hP hk1
  obtain ⟨rfl, hw⟩ := hw
  refine lv_if_eq (tgt := 110) hx hb dX6_meetsRing_96 (by decide) (fun _ => ?_) (fun h => absurd (by decide) h)
  refine lv_iload hx hb dX6_meetsRing_110 (lv_at hl 1 rfl) ?_
  refine lv_istore (lv' := [(6, .int 0), (5, .int 25), (4, .int 0), (3, .int 25), (2, .int 0), (0, .ref h1), (1, .int 0)]) hx hb dX6_meetsRing_112 hl (by decide) rfl (fun ls hl => ?_)
  refine lv_iload hx hb dX6_meetsRing_114 (lv_at hl 0 rfl) ?_
  refine lv_iload hx hb dX6_meetsRing_116 (lv_at hl 2 rfl) ?_
  refine lv_icmp_eq (tgt := 134) hx hb dX6_meetsRing_118 (by decide) (fun _ => ?_) (fun h => absurd (by decide) h)
  refine lv_aload_n hx hb dX6_meetsRing_134 rfl (lv_at hl 5 rfl) ?_
  refine va_get (D := D) (ci := 8) (v := .ref h8) (C := RX6) (T := TX6) (N := 13) hx hb hts (fun _ h => (List.mem_cons_of_mem _ (List.mem_append_left _ (List.mem_append_left _ (List.mem_append_right _ h))))) hown hK hP 1 rfl rfl 6 (by decide) (hts (.fieldLink RX6 30 "SelfishJunction$Survey" "marks" "[I") (List.mem_cons_of_mem _ (List.mem_append_left _ (List.mem_append_left _ (List.mem_append_left _ (List.mem_append_left _ (List.mem_of_getElem? (i := 3) rfl))))))) (fun _ h9 => h9) rfl dX6_meetsRing_135 ?_
  refine lv_iload hx hb dX6_meetsRing_138 (lv_at hl 0 rfl) ?_
  refine va_iald hx hb hK hP 2 1 rfl rfl (kx_in 0 1000 rfl ⟨(Nat.le_of_ble_eq_true rfl), (Nat.le_of_ble_eq_true rfl)⟩ (Nat.le_of_ble_eq_true rfl)) dX6_meetsRing_140 ?_
  refine lv_topi (fun v_183 ev_183 => ?_)
  obtain rfl : v_183 = 1 := ev_183.trans rfl
  refine lv_iconst (v := 2) hx hb dX6_meetsRing_141 (by decide) ?_
  refine lv_icmp_ne (tgt := 156) hx hb dX6_meetsRing_142 (by decide) (fun _ => ?_) (fun h => absurd h (by decide))
  refine lv_iload hx hb dX6_meetsRing_156 (lv_at hl 0 rfl) ?_
  refine lv_iload hx hb dX6_meetsRing_158 (lv_at hl 2 rfl) ?_
  refine lv_icmp_eq (tgt := 173) hx hb dX6_meetsRing_160 (by decide) (fun _ => ?_) (fun h => absurd (by decide) h)
  refine lv_iinc (v := 26) (lv' := [(3, .int 26), (6, .int 0), (5, .int 25), (4, .int 0), (2, .int 0), (0, .ref h1), (1, .int 0)]) hx hb dX6_meetsRing_173 hl (k := 3) rfl (by decide) (by decide) rfl (fun ls hl => ?_)
  refine lv_goto (tgt := 10) hx hb dX6_meetsRing_176 (by decide) ?_
  refine lv_iload_n hx hb dX6_meetsRing_10 rfl (lv_at hl 0 rfl) ?_
  refine lv_ldc (v := 1000000) hx hb hown (hts (.constant RX6 128 (1000000)) (List.mem_cons_of_mem _ (List.mem_append_left _ (List.mem_append_left _ (List.mem_append_left _ (List.mem_append_left _ (List.mem_of_getElem? (i := 0) rfl))))))) dX6_meetsRing_11 ?_
  refine lv_icmp_ge (tgt := 179) hx hb dX6_meetsRing_13 (by decide) (fun h => absurd h (by decide)) (fun _ => ?_)
  refine lv_iload_n hx hb dX6_meetsRing_16 rfl (lv_at hl 4 rfl) ?_
  refine lv_if_lt (tgt := 179) hx hb dX6_meetsRing_17 (by decide) (fun h => absurd h (by decide)) (fun _ => ?_)
  refine lv_aload_n hx hb dX6_meetsRing_20 rfl (lv_at hl 5 rfl) ?_
  refine va_get (D := D) (ci := 8) (v := .ref h11) (C := RX6) (T := TX6) (N := 13) hx hb hts (fun _ h => (List.mem_cons_of_mem _ (List.mem_append_left _ (List.mem_append_left _ (List.mem_append_right _ h))))) hown hK hP 1 rfl rfl 9 (by decide) (hts (.fieldLink RX6 39 "SelfishJunction$Survey" "stack" "[I") (List.mem_cons_of_mem _ (List.mem_append_left _ (List.mem_append_left _ (List.mem_append_left _ (List.mem_append_left _ (List.mem_of_getElem? (i := 1) rfl))))))) (fun _ h9 => h9) rfl dX6_meetsRing_21 ?_
  refine lv_iload_n hx hb dX6_meetsRing_24 rfl (lv_at hl 4 rfl) ?_
  refine va_iald hx hb hK hP 5 1 rfl rfl (kx_in 0 1000 rfl ⟨(Nat.le_of_ble_eq_true rfl), (Nat.le_of_ble_eq_true rfl)⟩ (Nat.le_of_ble_eq_true rfl)) dX6_meetsRing_25 ?_
  refine lv_topi (fun v_184 ev_184 => ?_)
  obtain rfl : v_184 = 0 := ev_184.trans rfl
  refine lv_istore (lv' := [(4, .int 0), (3, .int 26), (6, .int 0), (5, .int 25), (2, .int 0), (0, .ref h1), (1, .int 0)]) hx hb dX6_meetsRing_26 hl (by decide) rfl (fun ls hl => ?_)
  refine lv_aload_n hx hb dX6_meetsRing_28 rfl (lv_at hl 5 rfl) ?_
  refine va_get (D := D) (ci := 8) (v := .ref h10) (C := RX6) (T := TX6) (N := 13) hx hb hts (fun _ h => (List.mem_cons_of_mem _ (List.mem_append_left _ (List.mem_append_left _ (List.mem_append_right _ h))))) hown hK hP 1 rfl rfl 8 (by decide) (hts (.fieldLink RX6 36 "SelfishJunction$Survey" "tried" "[I") (List.mem_cons_of_mem _ (List.mem_append_left _ (List.mem_append_left _ (List.mem_append_left _ (List.mem_append_left _ (List.mem_of_getElem? (i := 2) rfl))))))) (fun _ h9 => h9) rfl dX6_meetsRing_29 ?_
  refine lv_iload hx hb dX6_meetsRing_32 (lv_at hl 0 rfl) ?_
  refine va_iald hx hb hK hP 4 1 rfl rfl (kx_in 0 1000 rfl ⟨(Nat.le_of_ble_eq_true rfl), (Nat.le_of_ble_eq_true rfl)⟩ (Nat.le_of_ble_eq_true rfl)) dX6_meetsRing_34 ?_
  refine lv_topi (fun v_185 ev_185 => ?_)
  obtain rfl : v_185 = 26 := ev_185.trans rfl
  refine lv_bipush (v := 30) hx hb dX6_meetsRing_35 (by decide) ?_
  refine lv_icmp_lt (tgt := 70) hx hb dX6_meetsRing_37 (by decide) (fun _ => ?_) (fun h => absurd (by decide) h)
  refine lv_aload_n hx hb dX6_meetsRing_70 rfl (lv_at hl 5 rfl) ?_
  refine va_get (D := D) (ci := 8) (v := .ref h10) (C := RX6) (T := TX6) (N := 13) hx hb hts (fun _ h => (List.mem_cons_of_mem _ (List.mem_append_left _ (List.mem_append_left _ (List.mem_append_right _ h))))) hown hK hP 1 rfl rfl 8 (by decide) (hts (.fieldLink RX6 36 "SelfishJunction$Survey" "tried" "[I") (List.mem_cons_of_mem _ (List.mem_append_left _ (List.mem_append_left _ (List.mem_append_left _ (List.mem_append_left _ (List.mem_of_getElem? (i := 2) rfl))))))) (fun _ h9 => h9) rfl dX6_meetsRing_71 ?_
  refine lv_iload hx hb dX6_meetsRing_74 (lv_at hl 0 rfl) ?_
  refine lv_dup2_11 hx hb dX6_meetsRing_76 rfl rfl ?_
  refine va_iald hx hb hK hP 4 1 rfl rfl (kx_in 0 1000 rfl ⟨(Nat.le_of_ble_eq_true rfl), (Nat.le_of_ble_eq_true rfl)⟩ (Nat.le_of_ble_eq_true rfl)) dX6_meetsRing_77 ?_
  refine lv_topi (fun v_186 ev_186 => ?_)
  obtain rfl : v_186 = 26 := ev_186.trans rfl
  refine lv_dup_x2 hx hb dX6_meetsRing_78 rfl rfl rfl ?_
  refine lv_iconst (v := 1) hx hb dX6_meetsRing_79 (by decide) ?_
  refine lv_iadd hx hb dX6_meetsRing_80 ?_
  refine lv_topi (fun v_187 ev_187 => ?_)
  obtain rfl : v_187 = 27 := ev_187.trans (by decide)
  refine va_iast hx hb hK hP hD hS 4 1 rfl rfl (kx_in 0 1000 rfl ⟨(Nat.le_of_ble_eq_true rfl), (Nat.le_of_ble_eq_true rfl)⟩ (Nat.le_of_ble_eq_true rfl)) dX6_meetsRing_81 (fun H locs hP hD hS => ?_)
  have hP : va_P D vwCl [(h7, .inl (cy 1, 1000, .inl g15)), (h1, .inr (8, [x2, x3, x4, x5, x6, .ref h7, .ref h8, .ref h9, .ref h10, .ref h11, x12, x13, x14])), (h8, .inl (cy 1, 1000, .inl (upd g16 0 1))), (h9, .inl (cy 1, 1000, .inl (upd g17 0 0))), (h10, .inl (cy 1, 1000, .inl (upd (upd g18 0 26) 0 27))), (h11, .inl (cy 1, 1000, .inl (upd g19 0 0)))] H := hP
  have hD : va_D A [(h7, .inl (cy 1, 1000, .inl g15)), (h1, .inr (8, [x2, x3, x4, x5, x6, .ref h7, .ref h8, .ref h9, .ref h10, .ref h11, x12, x13, x14])), (h8, .inl (cy 1, 1000, .inl (upd g16 0 1))), (h9, .inl (cy 1, 1000, .inl (upd g17 0 0))), (h10, .inl (cy 1, 1000, .inl (upd (upd g18 0 26) 0 27))), (h11, .inl (cy 1, 1000, .inl (upd g19 0 0)))] := hD
  rw [kx_uu] at hP hD
  refine lv_istore (lv' := [(5, .int 26), (4, .int 0), (3, .int 26), (6, .int 0), (2, .int 0), (0, .ref h1), (1, .int 0)]) hx hb dX6_meetsRing_82 hl (by decide) rfl (fun ls hl => ?_)
  refine lv_aload_n hx hb dX6_meetsRing_84 rfl (lv_at hl 5 rfl) ?_
  refine va_get (D := D) (ci := 8) (v := .ref h7) (C := RX6) (T := TX6) (N := 13) hx hb hts (fun _ h => (List.mem_cons_of_mem _ (List.mem_append_left _ (List.mem_append_left _ (List.mem_append_right _ h))))) hown hK hP 1 rfl rfl 5 (by decide) (hts (.fieldLink RX6 27 "SelfishJunction$Survey" "moves" "[I") (List.mem_cons_of_mem _ (List.mem_append_left _ (List.mem_append_left _ (List.mem_append_left _ (List.mem_append_left _ (List.mem_of_getElem? (i := 4) rfl))))))) (fun _ h9 => h9) rfl dX6_meetsRing_85 ?_
  refine lv_iload hx hb dX6_meetsRing_88 (lv_at hl 1 rfl) ?_
  refine va_iald hx hb hK hP 0 1 rfl rfl (kx_in 0 1000 rfl ⟨(Nat.le_of_ble_eq_true rfl), (Nat.le_of_ble_eq_true rfl)⟩ (Nat.le_of_ble_eq_true rfl)) dX6_meetsRing_90 ?_
  refine lv_topi (fun v_188 ev_188 => ?_)
  obtain rfl : v_188 = 0 := ev_188.trans (kg15_0)
  refine lv_iload hx hb dX6_meetsRing_91 (lv_at hl 0 rfl) ?_
  have hPc := hP.sub (ws' := []) [] rfl
  refine va_calli (va_runSN (As := [.int 0, .int 26]) (rest := []) ⟨hx, hb, hml, hown, hts⟩ (k_X7_hasBit_26 l D cy ) ⟨va_cnB 2 hts gX6_meetsRing_X7_hasBit_n132 rfl rfl rfl (exP.nest hE (RX6, 132, yX7_hasBit, RX7) (by decide +kernel)) (hts (.initialized RX7) (List.mem_cons_of_mem _ (List.mem_append_left _ (List.mem_append_left _ (List.mem_append_left _ (List.mem_append_left _ (List.mem_of_getElem? (i := 20) rfl))))))) (by decide +kernel) ⟨(Nat.le_of_ble_eq_true rfl), (Nat.le_of_ble_eq_true rfl)⟩, (hts (.static yX7_hasBit) (List.mem_cons_of_mem _ (List.mem_append_left _ (List.mem_append_left _ (List.mem_append_left _ (List.mem_append_left _ (List.mem_of_getElem? (i := 19) rfl))))))), trivial⟩ ⟨kR_fb, (kR_go hPc hK)⟩ rfl rfl hl.1 rfl (lv_room (Nat.le_of_ble_eq_true rfl)) dX6_meetsRing_93 ⟨(Nat.le_of_ble_eq_true rfl), (Nat.le_of_ble_eq_true rfl)⟩) hS (fun _ _ h => h.elim) (fun _ h => h.elim) (fun r9 u t H locs ht hvm hw hB hz1 hk1 hS => ?_)
  have hP := kx_kept hP hk1
  obtain ⟨rfl, hw⟩ := hw
  refine lv_if_eq (tgt := 110) hx hb dX6_meetsRing_96 (by decide) (fun _ => ?_) (fun h => absurd (by decide) h)
  refine lv_iload hx hb dX6_meetsRing_110 (lv_at hl 1 rfl) ?_
  refine lv_istore (lv' := [(6, .int 0), (5, .int 26), (4, .int 0), (3, .int 26), (2, .int 0), (0, .ref h1), (1, .int 0)]) hx hb dX6_meetsRing_112 hl (by decide) rfl (fun ls hl => ?_)
  refine lv_iload hx hb dX6_meetsRing_114 (lv_at hl 0 rfl) ?_
  refine lv_iload hx hb dX6_meetsRing_116 (lv_at hl 2 rfl) ?_
  refine lv_icmp_eq (tgt := 134) hx hb dX6_meetsRing_118 (by decide) (fun _ => ?_) (fun h => absurd (by decide) h)
  refine lv_aload_n hx hb dX6_meetsRing_134 rfl (lv_at hl 5 rfl) ?_
  refine va_get (D := D) (ci := 8) (v := .ref h8) (C := RX6) (T := TX6) (N := 13) hx hb hts (fun _ h => (List.mem_cons_of_mem _ (List.mem_append_left _ (List.mem_append_left _ (List.mem_append_right _ h))))) hown hK hP 1 rfl rfl 6 (by decide) (hts (.fieldLink RX6 30 "SelfishJunction$Survey" "marks" "[I") (List.mem_cons_of_mem _ (List.mem_append_left _ (List.mem_append_left _ (List.mem_append_left _ (List.mem_append_left _ (List.mem_of_getElem? (i := 3) rfl))))))) (fun _ h9 => h9) rfl dX6_meetsRing_135 ?_
  refine lv_iload hx hb dX6_meetsRing_138 (lv_at hl 0 rfl) ?_
  refine va_iald hx hb hK hP 2 1 rfl rfl (kx_in 0 1000 rfl ⟨(Nat.le_of_ble_eq_true rfl), (Nat.le_of_ble_eq_true rfl)⟩ (Nat.le_of_ble_eq_true rfl)) dX6_meetsRing_140 ?_
  refine lv_topi (fun v_190 ev_190 => ?_)
  obtain rfl : v_190 = 1 := ev_190.trans rfl
  refine lv_iconst (v := 2) hx hb dX6_meetsRing_141 (by decide) ?_
  refine lv_icmp_ne (tgt := 156) hx hb dX6_meetsRing_142 (by decide) (fun _ => ?_) (fun h => absurd h (by decide))
  refine lv_iload hx hb dX6_meetsRing_156 (lv_at hl 0 rfl) ?_
  refine lv_iload hx hb dX6_meetsRing_158 (lv_at hl 2 rfl) ?_
  refine lv_icmp_eq (tgt := 173) hx hb dX6_meetsRing_160 (by decide) (fun _ => ?_) (fun h => absurd (by decide) h)
  refine lv_iinc (v := 27) (lv' := [(3, .int 27), (6, .int 0), (5, .int 26), (4, .int 0), (2, .int 0), (0, .ref h1), (1, .int 0)]) hx hb dX6_meetsRing_173 hl (k := 3) rfl (by decide) (by decide) rfl (fun ls hl => ?_)
  refine lv_goto (tgt := 10) hx hb dX6_meetsRing_176 (by decide) ?_
  refine lv_iload_n hx hb dX6_meetsRing_10 rfl (lv_at hl 0 rfl) ?_
  refine lv_ldc (v := 1000000) hx hb hown (hts (.constant RX6 128 (1000000)) (List.mem_cons_of_mem _ (List.mem_append_left _ (List.mem_append_left _ (List.mem_append_left _ (List.mem_append_left _ (List.mem_of_getElem? (i := 0) rfl))))))) dX6_meetsRing_11 ?_
  refine lv_icmp_ge (tgt := 179) hx hb dX6_meetsRing_13 (by decide) (fun h => absurd h (by decide)) (fun _ => ?_)
  refine lv_iload_n hx hb dX6_meetsRing_16 rfl (lv_at hl 4 rfl) ?_
  refine lv_if_lt (tgt := 179) hx hb dX6_meetsRing_17 (by decide) (fun h => absurd h (by decide)) (fun _ => ?_)
  refine lv_aload_n hx hb dX6_meetsRing_20 rfl (lv_at hl 5 rfl) ?_
  refine va_get (D := D) (ci := 8) (v := .ref h11) (C := RX6) (T := TX6) (N := 13) hx hb hts (fun _ h => (List.mem_cons_of_mem _ (List.mem_append_left _ (List.mem_append_left _ (List.mem_append_right _ h))))) hown hK hP 1 rfl rfl 9 (by decide) (hts (.fieldLink RX6 39 "SelfishJunction$Survey" "stack" "[I") (List.mem_cons_of_mem _ (List.mem_append_left _ (List.mem_append_left _ (List.mem_append_left _ (List.mem_append_left _ (List.mem_of_getElem? (i := 1) rfl))))))) (fun _ h9 => h9) rfl dX6_meetsRing_21 ?_
  refine lv_iload_n hx hb dX6_meetsRing_24 rfl (lv_at hl 4 rfl) ?_
  refine va_iald hx hb hK hP 5 1 rfl rfl (kx_in 0 1000 rfl ⟨(Nat.le_of_ble_eq_true rfl), (Nat.le_of_ble_eq_true rfl)⟩ (Nat.le_of_ble_eq_true rfl)) dX6_meetsRing_25 ?_
  refine lv_topi (fun v_191 ev_191 => ?_)
  obtain rfl : v_191 = 0 := ev_191.trans rfl
  refine lv_istore (lv' := [(4, .int 0), (3, .int 27), (6, .int 0), (5, .int 26), (2, .int 0), (0, .ref h1), (1, .int 0)]) hx hb dX6_meetsRing_26 hl (by decide) rfl (fun ls hl => ?_)
  refine lv_aload_n hx hb dX6_meetsRing_28 rfl (lv_at hl 5 rfl) ?_
  refine va_get (D := D) (ci := 8) (v := .ref h10) (C := RX6) (T := TX6) (N := 13) hx hb hts (fun _ h => (List.mem_cons_of_mem _ (List.mem_append_left _ (List.mem_append_left _ (List.mem_append_right _ h))))) hown hK hP 1 rfl rfl 8 (by decide) (hts (.fieldLink RX6 36 "SelfishJunction$Survey" "tried" "[I") (List.mem_cons_of_mem _ (List.mem_append_left _ (List.mem_append_left _ (List.mem_append_left _ (List.mem_append_left _ (List.mem_of_getElem? (i := 2) rfl))))))) (fun _ h9 => h9) rfl dX6_meetsRing_29 ?_
  refine lv_iload hx hb dX6_meetsRing_32 (lv_at hl 0 rfl) ?_
  refine va_iald hx hb hK hP 4 1 rfl rfl (kx_in 0 1000 rfl ⟨(Nat.le_of_ble_eq_true rfl), (Nat.le_of_ble_eq_true rfl)⟩ (Nat.le_of_ble_eq_true rfl)) dX6_meetsRing_34 ?_
  refine lv_topi (fun v_192 ev_192 => ?_)
  obtain rfl : v_192 = 27 := ev_192.trans rfl
  refine lv_bipush (v := 30) hx hb dX6_meetsRing_35 (by decide) ?_
  refine lv_icmp_lt (tgt := 70) hx hb dX6_meetsRing_37 (by decide) (fun _ => ?_) (fun h => absurd (by decide) h)
  refine lv_aload_n hx hb dX6_meetsRing_70 rfl (lv_at hl 5 rfl) ?_
  refine va_get (D := D) (ci := 8) (v := .ref h10) (C := RX6) (T := TX6) (N := 13) hx hb hts (fun _ h => (List.mem_cons_of_mem _ (List.mem_append_left _ (List.mem_append_left _ (List.mem_append_right _ h))))) hown hK hP 1 rfl rfl 8 (by decide) (hts (.fieldLink RX6 36 "SelfishJunction$Survey" "tried" "[I") (List.mem_cons_of_mem _ (List.mem_append_left _ (List.mem_append_left _ (List.mem_append_left _ (List.mem_append_left _ (List.mem_of_getElem? (i := 2) rfl))))))) (fun _ h9 => h9) rfl dX6_meetsRing_71 ?_
  refine lv_iload hx hb dX6_meetsRing_74 (lv_at hl 0 rfl) ?_
  refine lv_dup2_11 hx hb dX6_meetsRing_76 rfl rfl ?_
  refine va_iald hx hb hK hP 4 1 rfl rfl (kx_in 0 1000 rfl ⟨(Nat.le_of_ble_eq_true rfl), (Nat.le_of_ble_eq_true rfl)⟩ (Nat.le_of_ble_eq_true rfl)) dX6_meetsRing_77 ?_
  refine lv_topi (fun v_193 ev_193 => ?_)
  obtain rfl : v_193 = 27 := ev_193.trans rfl
  refine lv_dup_x2 hx hb dX6_meetsRing_78 rfl rfl rfl ?_
  refine lv_iconst (v := 1) hx hb dX6_meetsRing_79 (by decide) ?_
  refine lv_iadd hx hb dX6_meetsRing_80 ?_
  refine lv_topi (fun v_194 ev_194 => ?_)
  obtain rfl : v_194 = 28 := ev_194.trans (by decide)
  refine va_iast hx hb hK hP hD hS 4 1 rfl rfl (kx_in 0 1000 rfl ⟨(Nat.le_of_ble_eq_true rfl), (Nat.le_of_ble_eq_true rfl)⟩ (Nat.le_of_ble_eq_true rfl)) dX6_meetsRing_81 (fun H locs hP hD hS => ?_)
  have hP : va_P D vwCl [(h7, .inl (cy 1, 1000, .inl g15)), (h1, .inr (8, [x2, x3, x4, x5, x6, .ref h7, .ref h8, .ref h9, .ref h10, .ref h11, x12, x13, x14])), (h8, .inl (cy 1, 1000, .inl (upd g16 0 1))), (h9, .inl (cy 1, 1000, .inl (upd g17 0 0))), (h10, .inl (cy 1, 1000, .inl (upd (upd g18 0 27) 0 28))), (h11, .inl (cy 1, 1000, .inl (upd g19 0 0)))] H := hP
  have hD : va_D A [(h7, .inl (cy 1, 1000, .inl g15)), (h1, .inr (8, [x2, x3, x4, x5, x6, .ref h7, .ref h8, .ref h9, .ref h10, .ref h11, x12, x13, x14])), (h8, .inl (cy 1, 1000, .inl (upd g16 0 1))), (h9, .inl (cy 1, 1000, .inl (upd g17 0 0))), (h10, .inl (cy 1, 1000, .inl (upd (upd g18 0 27) 0 28))), (h11, .inl (cy 1, 1000, .inl (upd g19 0 0)))] := hD
  rw [kx_uu] at hP hD
  refine lv_istore (lv' := [(5, .int 27), (4, .int 0), (3, .int 27), (6, .int 0), (2, .int 0), (0, .ref h1), (1, .int 0)]) hx hb dX6_meetsRing_82 hl (by decide) rfl (fun ls hl => ?_)
  refine lv_aload_n hx hb dX6_meetsRing_84 rfl (lv_at hl 5 rfl) ?_
  refine va_get (D := D) (ci := 8) (v := .ref h7) (C := RX6) (T := TX6) (N := 13) hx hb hts (fun _ h => (List.mem_cons_of_mem _ (List.mem_append_left _ (List.mem_append_left _ (List.mem_append_right _ h))))) hown hK hP 1 rfl rfl 5 (by decide) (hts (.fieldLink RX6 27 "SelfishJunction$Survey" "moves" "[I") (List.mem_cons_of_mem _ (List.mem_append_left _ (List.mem_append_left _ (List.mem_append_left _ (List.mem_append_left _ (List.mem_of_getElem? (i := 4) rfl))))))) (fun _ h9 => h9) rfl dX6_meetsRing_85 ?_
  refine lv_iload hx hb dX6_meetsRing_88 (lv_at hl 1 rfl) ?_
  refine va_iald hx hb hK hP 0 1 rfl rfl (kx_in 0 1000 rfl ⟨(Nat.le_of_ble_eq_true rfl), (Nat.le_of_ble_eq_true rfl)⟩ (Nat.le_of_ble_eq_true rfl)) dX6_meetsRing_90 ?_
  refine lv_topi (fun v_195 ev_195 => ?_)
  obtain rfl : v_195 = 0 := ev_195.trans (kg15_0)
  refine lv_iload hx hb dX6_meetsRing_91 (lv_at hl 0 rfl) ?_
  have hPc := hP.sub (ws' := []) [] rfl
  refine va_calli (va_runSN (As := [.int 0, .int 27]) (rest := []) ⟨hx, hb, hml, hown, hts⟩ (k_X7_hasBit_27 l D cy ) ⟨va_cnB 2 hts gX6_meetsRing_X7_hasBit_n132 rfl rfl rfl (exP.nest hE (RX6, 132, yX7_hasBit, RX7) (by decide +kernel)) (hts (.initialized RX7) (List.mem_cons_of_mem _ (List.mem_append_left _ (List.mem_append_left _ (List.mem_append_left _ (List.mem_append_left _ (List.mem_of_getElem? (i := 20) rfl))))))) (by decide +kernel) ⟨(Nat.le_of_ble_eq_true rfl), (Nat.le_of_ble_eq_true rfl)⟩, (hts (.static yX7_hasBit) (List.mem_cons_of_mem _ (List.mem_append_left _ (List.mem_append_left _ (List.mem_append_left _ (List.mem_append_left _ (List.mem_of_getElem? (i := 19) rfl))))))), trivial⟩ ⟨kR_fb, (kR_go hPc hK)⟩ rfl rfl hl.1 rfl (lv_room (Nat.le_of_ble_eq_true rfl)) dX6_meetsRing_93 ⟨(Nat.le_of_ble_eq_true rfl), (Nat.le_of_ble_eq_true rfl)⟩) hS (fun _ _ h => h.elim) (fun _ h => h.elim) (fun r9 u t H locs ht hvm hw hB hz1 hk1 hS => ?_)
  have hP := kx_kept hP hk1
  obtain ⟨rfl, hw⟩ := hw
  refine lv_if_eq (tgt := 110) hx hb dX6_meetsRing_96 (by decide) (fun _ => ?_) (fun h => absurd (by decide) h)
  refine lv_iload hx hb dX6_meetsRing_110 (lv_at hl 1 rfl) ?_
  refine lv_istore (lv' := [(6, .int 0), (5, .int 27), (4, .int 0), (3, .int 27), (2, .int 0), (0, .ref h1), (1, .int 0)]) hx hb dX6_meetsRing_112 hl (by decide) rfl (fun ls hl => ?_)
  refine lv_iload hx hb dX6_meetsRing_114 (lv_at hl 0 rfl) ?_
  refine lv_iload hx hb dX6_meetsRing_116 (lv_at hl 2 rfl) ?_
  refine lv_icmp_eq (tgt := 134) hx hb dX6_meetsRing_118 (by decide) (fun _ => ?_) (fun h => absurd (by decide) h)
  refine lv_aload_n hx hb dX6_meetsRing_134 rfl (lv_at hl 5 rfl) ?_
  refine va_get (D := D) (ci := 8) (v := .ref h8) (C := RX6) (T := TX6) (N := 13) hx hb hts (fun _ h => (List.mem_cons_of_mem _ (List.mem_append_left _ (List.mem_append_left _ (List.mem_append_right _ h))))) hown hK hP 1 rfl rfl 6 (by decide) (hts (.fieldLink RX6 30 "SelfishJunction$Survey" "marks" "[I") (List.mem_cons_of_mem _ (List.mem_append_left _ (List.mem_append_left _ (List.mem_append_left _ (List.mem_append_left _ (List.mem_of_getElem? (i := 3) rfl))))))) (fun _ h9 => h9) rfl dX6_meetsRing_135 ?_
  refine lv_iload hx hb dX6_meetsRing_138 (lv_at hl 0 rfl) ?_
  refine va_iald hx hb hK hP 2 1 rfl rfl (kx_in 0 1000 rfl ⟨(Nat.le_of_ble_eq_true rfl), (Nat.le_of_ble_eq_true rfl)⟩ (Nat.le_of_ble_eq_true rfl)) dX6_meetsRing_140 ?_
  refine lv_topi (fun v_197 ev_197 => ?_)
  obtain rfl : v_197 = 1 := ev_197.trans rfl
  refine lv_iconst (v := 2) hx hb dX6_meetsRing_141 (by decide) ?_
  refine lv_icmp_ne (tgt := 156) hx hb dX6_meetsRing_142 (by decide) (fun _ => ?_) (fun h => absurd h (by decide))
  refine lv_iload hx hb dX6_meetsRing_156 (lv_at hl 0 rfl) ?_
  refine lv_iload hx hb dX6_meetsRing_158 (lv_at hl 2 rfl) ?_
  refine lv_icmp_eq (tgt := 173) hx hb dX6_meetsRing_160 (by decide) (fun _ => ?_) (fun h => absurd (by decide) h)
  refine lv_iinc (v := 28) (lv' := [(3, .int 28), (6, .int 0), (5, .int 27), (4, .int 0), (2, .int 0), (0, .ref h1), (1, .int 0)]) hx hb dX6_meetsRing_173 hl (k := 3) rfl (by decide) (by decide) rfl (fun ls hl => ?_)
  refine lv_goto (tgt := 10) hx hb dX6_meetsRing_176 (by decide) ?_
  refine lv_iload_n hx hb dX6_meetsRing_10 rfl (lv_at hl 0 rfl) ?_
  refine lv_ldc (v := 1000000) hx hb hown (hts (.constant RX6 128 (1000000)) (List.mem_cons_of_mem _ (List.mem_append_left _ (List.mem_append_left _ (List.mem_append_left _ (List.mem_append_left _ (List.mem_of_getElem? (i := 0) rfl))))))) dX6_meetsRing_11 ?_
  refine lv_icmp_ge (tgt := 179) hx hb dX6_meetsRing_13 (by decide) (fun h => absurd h (by decide)) (fun _ => ?_)
  refine lv_iload_n hx hb dX6_meetsRing_16 rfl (lv_at hl 4 rfl) ?_
  refine lv_if_lt (tgt := 179) hx hb dX6_meetsRing_17 (by decide) (fun h => absurd h (by decide)) (fun _ => ?_)
  refine lv_aload_n hx hb dX6_meetsRing_20 rfl (lv_at hl 5 rfl) ?_
  refine va_get (D := D) (ci := 8) (v := .ref h11) (C := RX6) (T := TX6) (N := 13) hx hb hts (fun _ h => (List.mem_cons_of_mem _ (List.mem_append_left _ (List.mem_append_left _ (List.mem_append_right _ h))))) hown hK hP 1 rfl rfl 9 (by decide) (hts (.fieldLink RX6 39 "SelfishJunction$Survey" "stack" "[I") (List.mem_cons_of_mem _ (List.mem_append_left _ (List.mem_append_left _ (List.mem_append_left _ (List.mem_append_left _ (List.mem_of_getElem? (i := 1) rfl))))))) (fun _ h9 => h9) rfl dX6_meetsRing_21 ?_
  refine lv_iload_n hx hb dX6_meetsRing_24 rfl (lv_at hl 4 rfl) ?_
  refine va_iald hx hb hK hP 5 1 rfl rfl (kx_in 0 1000 rfl ⟨(Nat.le_of_ble_eq_true rfl), (Nat.le_of_ble_eq_true rfl)⟩ (Nat.le_of_ble_eq_true rfl)) dX6_meetsRing_25 ?_
  refine lv_topi (fun v_198 ev_198 => ?_)
  obtain rfl : v_198 = 0 := ev_198.trans rfl
  refine lv_istore (lv' := [(4, .int 0), (3, .int 28), (6, .int 0), (5, .int 27), (2, .int 0), (0, .ref h1), (1, .int 0)]) hx hb dX6_meetsRing_26 hl (by decide) rfl (fun ls hl => ?_)
  refine lv_aload_n hx hb dX6_meetsRing_28 rfl (lv_at hl 5 rfl) ?_
  refine va_get (D := D) (ci := 8) (v := .ref h10) (C := RX6) (T := TX6) (N := 13) hx hb hts (fun _ h => (List.mem_cons_of_mem _ (List.mem_append_left _ (List.mem_append_left _ (List.mem_append_right _ h))))) hown hK hP 1 rfl rfl 8 (by decide) (hts (.fieldLink RX6 36 "SelfishJunction$Survey" "tried" "[I") (List.mem_cons_of_mem _ (List.mem_append_left _ (List.mem_append_left _ (List.mem_append_left _ (List.mem_append_left _ (List.mem_of_getElem? (i := 2) rfl))))))) (fun _ h9 => h9) rfl dX6_meetsRing_29 ?_
  refine lv_iload hx hb dX6_meetsRing_32 (lv_at hl 0 rfl) ?_
  refine va_iald hx hb hK hP 4 1 rfl rfl (kx_in 0 1000 rfl ⟨(Nat.le_of_ble_eq_true rfl), (Nat.le_of_ble_eq_true rfl)⟩ (Nat.le_of_ble_eq_true rfl)) dX6_meetsRing_34 ?_
  refine lv_topi (fun v_199 ev_199 => ?_)
  obtain rfl : v_199 = 28 := ev_199.trans rfl
  refine lv_bipush (v := 30) hx hb dX6_meetsRing_35 (by decide) ?_
  refine lv_icmp_lt (tgt := 70) hx hb dX6_meetsRing_37 (by decide) (fun _ => ?_) (fun h => absurd (by decide) h)
  refine lv_aload_n hx hb dX6_meetsRing_70 rfl (lv_at hl 5 rfl) ?_
  refine va_get (D := D) (ci := 8) (v := .ref h10) (C := RX6) (T := TX6) (N := 13) hx hb hts (fun _ h => (List.mem_cons_of_mem _ (List.mem_append_left _ (List.mem_append_left _ (List.mem_append_right _ h))))) hown hK hP 1 rfl rfl 8 (by decide) (hts (.fieldLink RX6 36 "SelfishJunction$Survey" "tried" "[I") (List.mem_cons_of_mem _ (List.mem_append_left _ (List.mem_append_left _ (List.mem_append_left _ (List.mem_append_left _ (List.mem_of_getElem? (i := 2) rfl))))))) (fun _ h9 => h9) rfl dX6_meetsRing_71 ?_
  refine lv_iload hx hb dX6_meetsRing_74 (lv_at hl 0 rfl) ?_
  refine lv_dup2_11 hx hb dX6_meetsRing_76 rfl rfl ?_
  refine va_iald hx hb hK hP 4 1 rfl rfl (kx_in 0 1000 rfl ⟨(Nat.le_of_ble_eq_true rfl), (Nat.le_of_ble_eq_true rfl)⟩ (Nat.le_of_ble_eq_true rfl)) dX6_meetsRing_77 ?_
  refine lv_topi (fun v_200 ev_200 => ?_)
  obtain rfl : v_200 = 28 := ev_200.trans rfl
  refine lv_dup_x2 hx hb dX6_meetsRing_78 rfl rfl rfl ?_
  refine lv_iconst (v := 1) hx hb dX6_meetsRing_79 (by decide) ?_
  refine lv_iadd hx hb dX6_meetsRing_80 ?_
  refine lv_topi (fun v_201 ev_201 => ?_)
  obtain rfl : v_201 = 29 := ev_201.trans (by decide)
  refine va_iast hx hb hK hP hD hS 4 1 rfl rfl (kx_in 0 1000 rfl ⟨(Nat.le_of_ble_eq_true rfl), (Nat.le_of_ble_eq_true rfl)⟩ (Nat.le_of_ble_eq_true rfl)) dX6_meetsRing_81 (fun H locs hP hD hS => ?_)
  have hP : va_P D vwCl [(h7, .inl (cy 1, 1000, .inl g15)), (h1, .inr (8, [x2, x3, x4, x5, x6, .ref h7, .ref h8, .ref h9, .ref h10, .ref h11, x12, x13, x14])), (h8, .inl (cy 1, 1000, .inl (upd g16 0 1))), (h9, .inl (cy 1, 1000, .inl (upd g17 0 0))), (h10, .inl (cy 1, 1000, .inl (upd (upd g18 0 28) 0 29))), (h11, .inl (cy 1, 1000, .inl (upd g19 0 0)))] H := hP
  have hD : va_D A [(h7, .inl (cy 1, 1000, .inl g15)), (h1, .inr (8, [x2, x3, x4, x5, x6, .ref h7, .ref h8, .ref h9, .ref h10, .ref h11, x12, x13, x14])), (h8, .inl (cy 1, 1000, .inl (upd g16 0 1))), (h9, .inl (cy 1, 1000, .inl (upd g17 0 0))), (h10, .inl (cy 1, 1000, .inl (upd (upd g18 0 28) 0 29))), (h11, .inl (cy 1, 1000, .inl (upd g19 0 0)))] := hD
  rw [kx_uu] at hP hD
  refine lv_istore (lv' := [(5, .int 28), (4, .int 0), (3, .int 28), (6, .int 0), (2, .int 0), (0, .ref h1), (1, .int 0)]) hx hb dX6_meetsRing_82 hl (by decide) rfl (fun ls hl => ?_)
  refine lv_aload_n hx hb dX6_meetsRing_84 rfl (lv_at hl 5 rfl) ?_
  refine va_get (D := D) (ci := 8) (v := .ref h7) (C := RX6) (T := TX6) (N := 13) hx hb hts (fun _ h => (List.mem_cons_of_mem _ (List.mem_append_left _ (List.mem_append_left _ (List.mem_append_right _ h))))) hown hK hP 1 rfl rfl 5 (by decide) (hts (.fieldLink RX6 27 "SelfishJunction$Survey" "moves" "[I") (List.mem_cons_of_mem _ (List.mem_append_left _ (List.mem_append_left _ (List.mem_append_left _ (List.mem_append_left _ (List.mem_of_getElem? (i := 4) rfl))))))) (fun _ h9 => h9) rfl dX6_meetsRing_85 ?_
  refine lv_iload hx hb dX6_meetsRing_88 (lv_at hl 1 rfl) ?_
  refine va_iald hx hb hK hP 0 1 rfl rfl (kx_in 0 1000 rfl ⟨(Nat.le_of_ble_eq_true rfl), (Nat.le_of_ble_eq_true rfl)⟩ (Nat.le_of_ble_eq_true rfl)) dX6_meetsRing_90 ?_
  refine lv_topi (fun v_202 ev_202 => ?_)
  obtain rfl : v_202 = 0 := ev_202.trans (kg15_0)
  refine lv_iload hx hb dX6_meetsRing_91 (lv_at hl 0 rfl) ?_
  have hPc := hP.sub (ws' := []) [] rfl
  refine va_calli (va_runSN (As := [.int 0, .int 28]) (rest := []) ⟨hx, hb, hml, hown, hts⟩ (k_X7_hasBit_28 l D cy ) ⟨va_cnB 2 hts gX6_meetsRing_X7_hasBit_n132 rfl rfl rfl (exP.nest hE (RX6, 132, yX7_hasBit, RX7) (by decide +kernel)) (hts (.initialized RX7) (List.mem_cons_of_mem _ (List.mem_append_left _ (List.mem_append_left _ (List.mem_append_left _ (List.mem_append_left _ (List.mem_of_getElem? (i := 20) rfl))))))) (by decide +kernel) ⟨(Nat.le_of_ble_eq_true rfl), (Nat.le_of_ble_eq_true rfl)⟩, (hts (.static yX7_hasBit) (List.mem_cons_of_mem _ (List.mem_append_left _ (List.mem_append_left _ (List.mem_append_left _ (List.mem_append_left _ (List.mem_of_getElem? (i := 19) rfl))))))), trivial⟩ ⟨kR_fb, (kR_go hPc hK)⟩ rfl rfl hl.1 rfl (lv_room (Nat.le_of_ble_eq_true rfl)) dX6_meetsRing_93 ⟨(Nat.le_of_ble_eq_true rfl), (Nat.le_of_ble_eq_true rfl)⟩) hS (fun _ _ h => h.elim) (fun _ h => h.elim) (fun r9 u t H locs ht hvm hw hB hz1 hk1 hS => ?_)
  have hP := kx_kept hP hk1
  obtain ⟨rfl, hw⟩ := hw
  refine lv_if_eq (tgt := 110) hx hb dX6_meetsRing_96 (by decide) (fun _ => ?_) (fun h => absurd (by decide) h)
  refine lv_iload hx hb dX6_meetsRing_110 (lv_at hl 1 rfl) ?_
  refine lv_istore (lv' := [(6, .int 0), (5, .int 28), (4, .int 0), (3, .int 28), (2, .int 0), (0, .ref h1), (1, .int 0)]) hx hb dX6_meetsRing_112 hl (by decide) rfl (fun ls hl => ?_)
  refine lv_iload hx hb dX6_meetsRing_114 (lv_at hl 0 rfl) ?_
  refine lv_iload hx hb dX6_meetsRing_116 (lv_at hl 2 rfl) ?_
  refine lv_icmp_eq (tgt := 134) hx hb dX6_meetsRing_118 (by decide) (fun _ => ?_) (fun h => absurd (by decide) h)
  refine lv_aload_n hx hb dX6_meetsRing_134 rfl (lv_at hl 5 rfl) ?_
  refine va_get (D := D) (ci := 8) (v := .ref h8) (C := RX6) (T := TX6) (N := 13) hx hb hts (fun _ h => (List.mem_cons_of_mem _ (List.mem_append_left _ (List.mem_append_left _ (List.mem_append_right _ h))))) hown hK hP 1 rfl rfl 6 (by decide) (hts (.fieldLink RX6 30 "SelfishJunction$Survey" "marks" "[I") (List.mem_cons_of_mem _ (List.mem_append_left _ (List.mem_append_left _ (List.mem_append_left _ (List.mem_append_left _ (List.mem_of_getElem? (i := 3) rfl))))))) (fun _ h9 => h9) rfl dX6_meetsRing_135 ?_
  refine lv_iload hx hb dX6_meetsRing_138 (lv_at hl 0 rfl) ?_
  refine va_iald hx hb hK hP 2 1 rfl rfl (kx_in 0 1000 rfl ⟨(Nat.le_of_ble_eq_true rfl), (Nat.le_of_ble_eq_true rfl)⟩ (Nat.le_of_ble_eq_true rfl)) dX6_meetsRing_140 ?_
  refine lv_topi (fun v_204 ev_204 => ?_)
  obtain rfl : v_204 = 1 := ev_204.trans rfl
  refine lv_iconst (v := 2) hx hb dX6_meetsRing_141 (by decide) ?_
  refine lv_icmp_ne (tgt := 156) hx hb dX6_meetsRing_142 (by decide) (fun _ => ?_) (fun h => absurd h (by decide))
  refine lv_iload hx hb dX6_meetsRing_156 (lv_at hl 0 rfl) ?_
  refine lv_iload hx hb dX6_meetsRing_158 (lv_at hl 2 rfl) ?_
  refine lv_icmp_eq (tgt := 173) hx hb dX6_meetsRing_160 (by decide) (fun _ => ?_) (fun h => absurd (by decide) h)
  refine lv_iinc (v := 29) (lv' := [(3, .int 29), (6, .int 0), (5, .int 28), (4, .int 0), (2, .int 0), (0, .ref h1), (1, .int 0)]) hx hb dX6_meetsRing_173 hl (k := 3) rfl (by decide) (by decide) rfl (fun ls hl => ?_)
  refine lv_goto (tgt := 10) hx hb dX6_meetsRing_176 (by decide) ?_
  refine lv_iload_n hx hb dX6_meetsRing_10 rfl (lv_at hl 0 rfl) ?_
  refine lv_ldc (v := 1000000) hx hb hown (hts (.constant RX6 128 (1000000)) (List.mem_cons_of_mem _ (List.mem_append_left _ (List.mem_append_left _ (List.mem_append_left _ (List.mem_append_left _ (List.mem_of_getElem? (i := 0) rfl))))))) dX6_meetsRing_11 ?_
  refine lv_icmp_ge (tgt := 179) hx hb dX6_meetsRing_13 (by decide) (fun h => absurd h (by decide)) (fun _ => ?_)
  refine lv_iload_n hx hb dX6_meetsRing_16 rfl (lv_at hl 4 rfl) ?_
  refine lv_if_lt (tgt := 179) hx hb dX6_meetsRing_17 (by decide) (fun h => absurd h (by decide)) (fun _ => ?_)
  refine lv_aload_n hx hb dX6_meetsRing_20 rfl (lv_at hl 5 rfl) ?_
  refine va_get (D := D) (ci := 8) (v := .ref h11) (C := RX6) (T := TX6) (N := 13) hx hb hts (fun _ h => (List.mem_cons_of_mem _ (List.mem_append_left _ (List.mem_append_left _ (List.mem_append_right _ h))))) hown hK hP 1 rfl rfl 9 (by decide) (hts (.fieldLink RX6 39 "SelfishJunction$Survey" "stack" "[I") (List.mem_cons_of_mem _ (List.mem_append_left _ (List.mem_append_left _ (List.mem_append_left _ (List.mem_append_left _ (List.mem_of_getElem? (i := 1) rfl))))))) (fun _ h9 => h9) rfl dX6_meetsRing_21 ?_
  refine lv_iload_n hx hb dX6_meetsRing_24 rfl (lv_at hl 4 rfl) ?_
  refine va_iald hx hb hK hP 5 1 rfl rfl (kx_in 0 1000 rfl ⟨(Nat.le_of_ble_eq_true rfl), (Nat.le_of_ble_eq_true rfl)⟩ (Nat.le_of_ble_eq_true rfl)) dX6_meetsRing_25 ?_
  refine lv_topi (fun v_205 ev_205 => ?_)
  obtain rfl : v_205 = 0 := ev_205.trans rfl
  refine lv_istore (lv' := [(4, .int 0), (3, .int 29), (6, .int 0), (5, .int 28), (2, .int 0), (0, .ref h1), (1, .int 0)]) hx hb dX6_meetsRing_26 hl (by decide) rfl (fun ls hl => ?_)
  refine lv_aload_n hx hb dX6_meetsRing_28 rfl (lv_at hl 5 rfl) ?_
  refine va_get (D := D) (ci := 8) (v := .ref h10) (C := RX6) (T := TX6) (N := 13) hx hb hts (fun _ h => (List.mem_cons_of_mem _ (List.mem_append_left _ (List.mem_append_left _ (List.mem_append_right _ h))))) hown hK hP 1 rfl rfl 8 (by decide) (hts (.fieldLink RX6 36 "SelfishJunction$Survey" "tried" "[I") (List.mem_cons_of_mem _ (List.mem_append_left _ (List.mem_append_left _ (List.mem_append_left _ (List.mem_append_left _ (List.mem_of_getElem? (i := 2) rfl))))))) (fun _ h9 => h9) rfl dX6_meetsRing_29 ?_
  refine lv_iload hx hb dX6_meetsRing_32 (lv_at hl 0 rfl) ?_
  refine va_iald hx hb hK hP 4 1 rfl rfl (kx_in 0 1000 rfl ⟨(Nat.le_of_ble_eq_true rfl), (Nat.le_of_ble_eq_true rfl)⟩ (Nat.le_of_ble_eq_true rfl)) dX6_meetsRing_34 ?_
  refine lv_topi (fun v_206 ev_206 => ?_)
  obtain rfl : v_206 = 29 := ev_206.trans rfl
  refine lv_bipush (v := 30) hx hb dX6_meetsRing_35 (by decide) ?_
  refine lv_icmp_lt (tgt := 70) hx hb dX6_meetsRing_37 (by decide) (fun _ => ?_) (fun h => absurd (by decide) h)
  refine lv_aload_n hx hb dX6_meetsRing_70 rfl (lv_at hl 5 rfl) ?_
  refine va_get (D := D) (ci := 8) (v := .ref h10) (C := RX6) (T := TX6) (N := 13) hx hb hts (fun _ h => (List.mem_cons_of_mem _ (List.mem_append_left _ (List.mem_append_left _ (List.mem_append_right _ h))))) hown hK hP 1 rfl rfl 8 (by decide) (hts (.fieldLink RX6 36 "SelfishJunction$Survey" "tried" "[I") (List.mem_cons_of_mem _ (List.mem_append_left _ (List.mem_append_left _ (List.mem_append_left _ (List.mem_append_left _ (List.mem_of_getElem? (i := 2) rfl))))))) (fun _ h9 => h9) rfl dX6_meetsRing_71 ?_
  refine lv_iload hx hb dX6_meetsRing_74 (lv_at hl 0 rfl) ?_
  refine lv_dup2_11 hx hb dX6_meetsRing_76 rfl rfl ?_
  refine va_iald hx hb hK hP 4 1 rfl rfl (kx_in 0 1000 rfl ⟨(Nat.le_of_ble_eq_true rfl), (Nat.le_of_ble_eq_true rfl)⟩ (Nat.le_of_ble_eq_true rfl)) dX6_meetsRing_77 ?_
  refine lv_topi (fun v_207 ev_207 => ?_)
  obtain rfl : v_207 = 29 := ev_207.trans rfl
  refine lv_dup_x2 hx hb dX6_meetsRing_78 rfl rfl rfl ?_
  refine lv_iconst (v := 1) hx hb dX6_meetsRing_79 (by decide) ?_
  refine lv_iadd hx hb dX6_meetsRing_80 ?_
  refine lv_topi (fun v_208 ev_208 => ?_)
  obtain rfl : v_208 = 30 := ev_208.trans (by decide)
  refine va_iast hx hb hK hP hD hS 4 1 rfl rfl (kx_in 0 1000 rfl ⟨(Nat.le_of_ble_eq_true rfl), (Nat.le_of_ble_eq_true rfl)⟩ (Nat.le_of_ble_eq_true rfl)) dX6_meetsRing_81 (fun H locs hP hD hS => ?_)
  have hP : va_P D vwCl [(h7, .inl (cy 1, 1000, .inl g15)), (h1, .inr (8, [x2, x3, x4, x5, x6, .ref h7, .ref h8, .ref h9, .ref h10, .ref h11, x12, x13, x14])), (h8, .inl (cy 1, 1000, .inl (upd g16 0 1))), (h9, .inl (cy 1, 1000, .inl (upd g17 0 0))), (h10, .inl (cy 1, 1000, .inl (upd (upd g18 0 29) 0 30))), (h11, .inl (cy 1, 1000, .inl (upd g19 0 0)))] H := hP
  have hD : va_D A [(h7, .inl (cy 1, 1000, .inl g15)), (h1, .inr (8, [x2, x3, x4, x5, x6, .ref h7, .ref h8, .ref h9, .ref h10, .ref h11, x12, x13, x14])), (h8, .inl (cy 1, 1000, .inl (upd g16 0 1))), (h9, .inl (cy 1, 1000, .inl (upd g17 0 0))), (h10, .inl (cy 1, 1000, .inl (upd (upd g18 0 29) 0 30))), (h11, .inl (cy 1, 1000, .inl (upd g19 0 0)))] := hD
  rw [kx_uu] at hP hD
  refine lv_istore (lv' := [(5, .int 29), (4, .int 0), (3, .int 29), (6, .int 0), (2, .int 0), (0, .ref h1), (1, .int 0)]) hx hb dX6_meetsRing_82 hl (by decide) rfl (fun ls hl => ?_)
  refine lv_aload_n hx hb dX6_meetsRing_84 rfl (lv_at hl 5 rfl) ?_
  refine va_get (D := D) (ci := 8) (v := .ref h7) (C := RX6) (T := TX6) (N := 13) hx hb hts (fun _ h => (List.mem_cons_of_mem _ (List.mem_append_left _ (List.mem_append_left _ (List.mem_append_right _ h))))) hown hK hP 1 rfl rfl 5 (by decide) (hts (.fieldLink RX6 27 "SelfishJunction$Survey" "moves" "[I") (List.mem_cons_of_mem _ (List.mem_append_left _ (List.mem_append_left _ (List.mem_append_left _ (List.mem_append_left _ (List.mem_of_getElem? (i := 4) rfl))))))) (fun _ h9 => h9) rfl dX6_meetsRing_85 ?_
  refine lv_iload hx hb dX6_meetsRing_88 (lv_at hl 1 rfl) ?_
  refine va_iald hx hb hK hP 0 1 rfl rfl (kx_in 0 1000 rfl ⟨(Nat.le_of_ble_eq_true rfl), (Nat.le_of_ble_eq_true rfl)⟩ (Nat.le_of_ble_eq_true rfl)) dX6_meetsRing_90 ?_
  refine lv_topi (fun v_209 ev_209 => ?_)
  obtain rfl : v_209 = 0 := ev_209.trans (kg15_0)
  refine lv_iload hx hb dX6_meetsRing_91 (lv_at hl 0 rfl) ?_
  have hPc := hP.sub (ws' := []) [] rfl
  refine va_calli (va_runSN (As := [.int 0, .int 29]) (rest := []) ⟨hx, hb, hml, hown, hts⟩ (k_X7_hasBit_29 l D cy ) ⟨va_cnB 2 hts gX6_meetsRing_X7_hasBit_n132 rfl rfl rfl (exP.nest hE (RX6, 132, yX7_hasBit, RX7) (by decide +kernel)) (hts (.initialized RX7) (List.mem_cons_of_mem _ (List.mem_append_left _ (List.mem_append_left _ (List.mem_append_left _ (List.mem_append_left _ (List.mem_of_getElem? (i := 20) rfl))))))) (by decide +kernel) ⟨(Nat.le_of_ble_eq_true rfl), (Nat.le_of_ble_eq_true rfl)⟩, (hts (.static yX7_hasBit) (List.mem_cons_of_mem _ (List.mem_append_left _ (List.mem_append_left _ (List.mem_append_left _ (List.mem_append_left _ (List.mem_of_getElem? (i := 19) rfl))))))), trivial⟩ ⟨kR_fb, (kR_go hPc hK)⟩ rfl rfl hl.1 rfl (lv_room (Nat.le_of_ble_eq_true rfl)) dX6_meetsRing_93 ⟨(Nat.le_of_ble_eq_true rfl), (Nat.le_of_ble_eq_true rfl)⟩) hS (fun _ _ h => h.elim) (fun _ h => h.elim) (fun r9 u t H locs ht hvm hw hB hz1 hk1 hS => ?_)
  have hP := kx_kept hP hk1
  obtain ⟨rfl, hw⟩ := hw
  refine lv_if_eq (tgt := 110) hx hb dX6_meetsRing_96 (by decide) (fun _ => ?_) (fun h => absurd (by decide) h)
  refine lv_iload hx hb dX6_meetsRing_110 (lv_at hl 1 rfl) ?_
  refine lv_istore (lv' := [(6, .int 0), (5, .int 29), (4, .int 0), (3, .int 29), (2, .int 0), (0, .ref h1), (1, .int 0)]) hx hb dX6_meetsRing_112 hl (by decide) rfl (fun ls hl => ?_)
  refine lv_iload hx hb dX6_meetsRing_114 (lv_at hl 0 rfl) ?_
  refine lv_iload hx hb dX6_meetsRing_116 (lv_at hl 2 rfl) ?_
  refine lv_icmp_eq (tgt := 134) hx hb dX6_meetsRing_118 (by decide) (fun _ => ?_) (fun h => absurd (by decide) h)
  refine lv_aload_n hx hb dX6_meetsRing_134 rfl (lv_at hl 5 rfl) ?_
  refine va_get (D := D) (ci := 8) (v := .ref h8) (C := RX6) (T := TX6) (N := 13) hx hb hts (fun _ h => (List.mem_cons_of_mem _ (List.mem_append_left _ (List.mem_append_left _ (List.mem_append_right _ h))))) hown hK hP 1 rfl rfl 6 (by decide) (hts (.fieldLink RX6 30 "SelfishJunction$Survey" "marks" "[I") (List.mem_cons_of_mem _ (List.mem_append_left _ (List.mem_append_left _ (List.mem_append_left _ (List.mem_append_left _ (List.mem_of_getElem? (i := 3) rfl))))))) (fun _ h9 => h9) rfl dX6_meetsRing_135 ?_
  refine lv_iload hx hb dX6_meetsRing_138 (lv_at hl 0 rfl) ?_
  refine va_iald hx hb hK hP 2 1 rfl rfl (kx_in 0 1000 rfl ⟨(Nat.le_of_ble_eq_true rfl), (Nat.le_of_ble_eq_true rfl)⟩ (Nat.le_of_ble_eq_true rfl)) dX6_meetsRing_140 ?_
  refine lv_topi (fun v_211 ev_211 => ?_)
  obtain rfl : v_211 = 1 := ev_211.trans rfl
  refine lv_iconst (v := 2) hx hb dX6_meetsRing_141 (by decide) ?_
  refine lv_icmp_ne (tgt := 156) hx hb dX6_meetsRing_142 (by decide) (fun _ => ?_) (fun h => absurd h (by decide))
  refine lv_iload hx hb dX6_meetsRing_156 (lv_at hl 0 rfl) ?_
  refine lv_iload hx hb dX6_meetsRing_158 (lv_at hl 2 rfl) ?_
  refine lv_icmp_eq (tgt := 173) hx hb dX6_meetsRing_160 (by decide) (fun _ => ?_) (fun h => absurd (by decide) h)
  refine lv_iinc (v := 30) (lv' := [(3, .int 30), (6, .int 0), (5, .int 29), (4, .int 0), (2, .int 0), (0, .ref h1), (1, .int 0)]) hx hb dX6_meetsRing_173 hl (k := 3) rfl (by decide) (by decide) rfl (fun ls hl => ?_)
  refine lv_goto (tgt := 10) hx hb dX6_meetsRing_176 (by decide) ?_
  refine lv_iload_n hx hb dX6_meetsRing_10 rfl (lv_at hl 0 rfl) ?_
  refine lv_ldc (v := 1000000) hx hb hown (hts (.constant RX6 128 (1000000)) (List.mem_cons_of_mem _ (List.mem_append_left _ (List.mem_append_left _ (List.mem_append_left _ (List.mem_append_left _ (List.mem_of_getElem? (i := 0) rfl))))))) dX6_meetsRing_11 ?_
  refine lv_icmp_ge (tgt := 179) hx hb dX6_meetsRing_13 (by decide) (fun h => absurd h (by decide)) (fun _ => ?_)
  refine lv_iload_n hx hb dX6_meetsRing_16 rfl (lv_at hl 4 rfl) ?_
  refine lv_if_lt (tgt := 179) hx hb dX6_meetsRing_17 (by decide) (fun h => absurd h (by decide)) (fun _ => ?_)
  refine lv_aload_n hx hb dX6_meetsRing_20 rfl (lv_at hl 5 rfl) ?_
  refine va_get (D := D) (ci := 8) (v := .ref h11) (C := RX6) (T := TX6) (N := 13) hx hb hts (fun _ h => (List.mem_cons_of_mem _ (List.mem_append_left _ (List.mem_append_left _ (List.mem_append_right _ h))))) hown hK hP 1 rfl rfl 9 (by decide) (hts (.fieldLink RX6 39 "SelfishJunction$Survey" "stack" "[I") (List.mem_cons_of_mem _ (List.mem_append_left _ (List.mem_append_left _ (List.mem_append_left _ (List.mem_append_left _ (List.mem_of_getElem? (i := 1) rfl))))))) (fun _ h9 => h9) rfl dX6_meetsRing_21 ?_
  refine lv_iload_n hx hb dX6_meetsRing_24 rfl (lv_at hl 4 rfl) ?_
  refine va_iald hx hb hK hP 5 1 rfl rfl (kx_in 0 1000 rfl ⟨(Nat.le_of_ble_eq_true rfl), (Nat.le_of_ble_eq_true rfl)⟩ (Nat.le_of_ble_eq_true rfl)) dX6_meetsRing_25 ?_
  refine lv_topi (fun v_212 ev_212 => ?_)
  obtain rfl : v_212 = 0 := ev_212.trans rfl
  refine lv_istore (lv' := [(4, .int 0), (3, .int 30), (6, .int 0), (5, .int 29), (2, .int 0), (0, .ref h1), (1, .int 0)]) hx hb dX6_meetsRing_26 hl (by decide) rfl (fun ls hl => ?_)
  refine lv_aload_n hx hb dX6_meetsRing_28 rfl (lv_at hl 5 rfl) ?_
  refine va_get (D := D) (ci := 8) (v := .ref h10) (C := RX6) (T := TX6) (N := 13) hx hb hts (fun _ h => (List.mem_cons_of_mem _ (List.mem_append_left _ (List.mem_append_left _ (List.mem_append_right _ h))))) hown hK hP 1 rfl rfl 8 (by decide) (hts (.fieldLink RX6 36 "SelfishJunction$Survey" "tried" "[I") (List.mem_cons_of_mem _ (List.mem_append_left _ (List.mem_append_left _ (List.mem_append_left _ (List.mem_append_left _ (List.mem_of_getElem? (i := 2) rfl))))))) (fun _ h9 => h9) rfl dX6_meetsRing_29 ?_
  refine lv_iload hx hb dX6_meetsRing_32 (lv_at hl 0 rfl) ?_
  refine va_iald hx hb hK hP 4 1 rfl rfl (kx_in 0 1000 rfl ⟨(Nat.le_of_ble_eq_true rfl), (Nat.le_of_ble_eq_true rfl)⟩ (Nat.le_of_ble_eq_true rfl)) dX6_meetsRing_34 ?_
  refine lv_topi (fun v_213 ev_213 => ?_)
  obtain rfl : v_213 = 30 := ev_213.trans rfl
  refine lv_bipush (v := 30) hx hb dX6_meetsRing_35 (by decide) ?_
  refine lv_icmp_lt (tgt := 70) hx hb dX6_meetsRing_37 (by decide) (fun h => absurd h (by decide)) (fun _ => ?_)
  refine lv_aload_n hx hb dX6_meetsRing_40 rfl (lv_at hl 5 rfl) ?_
  refine va_get (D := D) (ci := 8) (v := .ref h8) (C := RX6) (T := TX6) (N := 13) hx hb hts (fun _ h => (List.mem_cons_of_mem _ (List.mem_append_left _ (List.mem_append_left _ (List.mem_append_right _ h))))) hown hK hP 1 rfl rfl 6 (by decide) (hts (.fieldLink RX6 30 "SelfishJunction$Survey" "marks" "[I") (List.mem_cons_of_mem _ (List.mem_append_left _ (List.mem_append_left _ (List.mem_append_left _ (List.mem_append_left _ (List.mem_of_getElem? (i := 3) rfl))))))) (fun _ h9 => h9) rfl dX6_meetsRing_41 ?_
  refine lv_iload hx hb dX6_meetsRing_44 (lv_at hl 0 rfl) ?_
  refine lv_iconst (v := 2) hx hb dX6_meetsRing_46 (by decide) ?_
  refine va_iast hx hb hK hP hD hS 2 1 rfl rfl (kx_in 0 1000 rfl ⟨(Nat.le_of_ble_eq_true rfl), (Nat.le_of_ble_eq_true rfl)⟩ (Nat.le_of_ble_eq_true rfl)) dX6_meetsRing_47 (fun H locs hP hD hS => ?_)
  have hP : va_P D vwCl [(h7, .inl (cy 1, 1000, .inl g15)), (h1, .inr (8, [x2, x3, x4, x5, x6, .ref h7, .ref h8, .ref h9, .ref h10, .ref h11, x12, x13, x14])), (h8, .inl (cy 1, 1000, .inl (upd (upd g16 0 1) 0 2))), (h9, .inl (cy 1, 1000, .inl (upd g17 0 0))), (h10, .inl (cy 1, 1000, .inl (upd g18 0 30))), (h11, .inl (cy 1, 1000, .inl (upd g19 0 0)))] H := hP
  have hD : va_D A [(h7, .inl (cy 1, 1000, .inl g15)), (h1, .inr (8, [x2, x3, x4, x5, x6, .ref h7, .ref h8, .ref h9, .ref h10, .ref h11, x12, x13, x14])), (h8, .inl (cy 1, 1000, .inl (upd (upd g16 0 1) 0 2))), (h9, .inl (cy 1, 1000, .inl (upd g17 0 0))), (h10, .inl (cy 1, 1000, .inl (upd g18 0 30))), (h11, .inl (cy 1, 1000, .inl (upd g19 0 0)))] := hD
  rw [kx_uu] at hP hD
  refine lv_iinc (v := (-1)) (lv' := [(2, .int (-1)), (4, .int 0), (3, .int 30), (6, .int 0), (5, .int 29), (0, .ref h1), (1, .int 0)]) hx hb dX6_meetsRing_48 hl (k := 4) rfl (by decide) (by decide) rfl (fun ls hl => ?_)
  refine lv_iload_n hx hb dX6_meetsRing_51 rfl (lv_at hl 0 rfl) ?_
  refine lv_if_lt (tgt := 173) hx hb dX6_meetsRing_52 (by decide) (fun _ => ?_) (fun h => absurd (by decide) h)
  refine lv_iinc (v := 31) (lv' := [(3, .int 31), (2, .int (-1)), (4, .int 0), (6, .int 0), (5, .int 29), (0, .ref h1), (1, .int 0)]) hx hb dX6_meetsRing_173 hl (k := 2) rfl (by decide) (by decide) rfl (fun ls hl => ?_)
  refine lv_goto (tgt := 10) hx hb dX6_meetsRing_176 (by decide) ?_
  refine lv_iload_n hx hb dX6_meetsRing_10 rfl (lv_at hl 0 rfl) ?_
  refine lv_ldc (v := 1000000) hx hb hown (hts (.constant RX6 128 (1000000)) (List.mem_cons_of_mem _ (List.mem_append_left _ (List.mem_append_left _ (List.mem_append_left _ (List.mem_append_left _ (List.mem_of_getElem? (i := 0) rfl))))))) dX6_meetsRing_11 ?_
  refine lv_icmp_ge (tgt := 179) hx hb dX6_meetsRing_13 (by decide) (fun h => absurd h (by decide)) (fun _ => ?_)
  refine lv_iload_n hx hb dX6_meetsRing_16 rfl (lv_at hl 1 rfl) ?_
  refine lv_if_lt (tgt := 179) hx hb dX6_meetsRing_17 (by decide) (fun _ => ?_) (fun h => absurd (by decide) h)
  refine lv_iconst (v := 0) hx hb dX6_meetsRing_179 (by decide) ?_
  refine W.widen (k := 0) (n := 0) (Nat.le_of_ble_eq_true rfl) (Nat.le_of_ble_eq_true rfl) ?_
  have hP9 := hP.sub (ws' := [(h1, .inr (8, [x2, x3, x4, x5, x6, .ref h7, .ref h8, .ref h9, .ref h10, .ref h11, x12, x13, x14])), (h7, .inl (cy 1, 1000, .inl g15)), (h8, .inl (cy 1, 1000, .inl (upd g16 0 2))), (h9, .inl (cy 1, 1000, .inl (upd g17 0 0))), (h10, .inl (cy 1, 1000, .inl (upd g18 0 30))), (h11, .inl (cy 1, 1000, .inl (upd g19 0 0)))]) [1, 0, 2, 3, 4, 5] rfl
  have hD9 := hD.sub (ws' := [(h1, .inr (8, [x2, x3, x4, x5, x6, .ref h7, .ref h8, .ref h9, .ref h10, .ref h11, x12, x13, x14])), (h7, .inl (cy 1, 1000, .inl g15)), (h8, .inl (cy 1, 1000, .inl (upd g16 0 2))), (h9, .inl (cy 1, 1000, .inl (upd g17 0 0))), (h10, .inl (cy 1, 1000, .inl (upd g18 0 30))), (h11, .inl (cy 1, 1000, .inl (upd g19 0 0)))]) [1, 0, 2, 3, 4, 5] (by decide) rfl
  exact W.zret (v := 0) hx hb hr rfl (fun t ht hW => ⟨⟨0, (), rfl, ⟨rfl, trivial⟩, ⟨by rw [ht]; exact hP9, hD9⟩⟩, hS.F ht⟩) hS.2.2 dX6_meetsRing_180
