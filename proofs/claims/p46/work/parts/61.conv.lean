/-! the class as it is made, as a memory -/
theorem arrV_eq9 {c : ClassId} {n : Nat} {f g : Nat → Value} (e : ∀ j, j < n → f j = g j) : arrV c n f = arrV c n g := by
  have h : (fun j : Fin n => f j.val) = (fun j : Fin n => g j.val) := funext fun j => e j.val j.isLt
  unfold arrV
  rw [h]
theorem at_arr9 {D : va_G} {cl : List vw_C} {q n : Nat} {c : ClassId} {f g : Nat → Int32} {H : Heap} (h : va_at D cl (q, .inl (c, n, .inl f)) H) (e : ∀ j, j < n → f j = g j) : va_at D cl (q, .inl (c, n, .inl g)) H := by
  have h1 : H[q]? = some (arrV c n (fun j => .int (f j))) := h
  show H[q]? = some (arrV c n (fun j => .int (g j)))
  rw [h1, arrV_eq9 (fun j hj => by rw [e j hj])]
theorem at_ref9 {D : va_G} {cl : List vw_C} {q n : Nat} {c : ClassId} {f g : Nat → Option Nat} {H : Heap} (h : va_at D cl (q, .inl (c, n, .inr (.inr (.inr (.inr f))))) H) (e : ∀ j, j < n → f j = g j) : va_at D cl (q, .inl (c, n, .inr (.inr (.inr (.inr g))))) H := by
  have h1 : H[q]? = some (arrV c n (fun j => va_rf (f j))) := h
  show H[q]? = some (arrV c n (fun j => va_rf (g j)))
  rw [h1, arrV_eq9 (fun j hj => by rw [e j hj])]
def m0 : Mem := fun c j => if c = 0 then (if j = 6 then 1 else 0) else if c = 5 ∨ c = 7 then (if j < 6 then -1 else 0) else if c < 21 then 0 else if c < 29 then (if j = 2 then 99 else if j = 3 ∨ j = 4 then -1 else 0) else if c < 37 then 0 else if c < 43 then (if j = 0 then 1 else 0) else 0
theorem F1_m0 : F1 m0 0 := by
  refine ⟨⟨by decide +kernel, by decide +kernel, by decide +kernel, by decide +kernel, by decide +kernel, by decide +kernel⟩, rfl, rfl, ⟨by decide +kernel, by decide +kernel, rfl⟩, ⟨by decide +kernel, by decide +kernel, rfl⟩, by decide +kernel, by decide +kernel, rfl, fun q hq => absurd hq (by omega)⟩
def pl0 : List Nat := [0, 1, 2, 23, 4, 9, 10, 42, 43, 13, 14, 15, 16, 17, 18, 19, 20, 21, 22, 7, 8, 28, 29, 30, 31, 32, 33, 34, 35, 44, 45, 46, 47, 48, 49, 50, 51, 36, 37, 38, 39, 40, 41, 52, 54, 56, 58, 60, 62, 64, 65, 66]
theorem pl0_inj : ∀ i, i < 52 → ∀ j, j < 52 → pl0.getD i 0 = pl0.getD j 0 → i = j := by decide +kernel
set_option maxHeartbeats 4000000 in
set_option maxRecDepth 100000 in
theorem w_conv {D : va_G} {cy : Nat → ClassId} {A : Nat → Prop} {H : Heap} {q_1 : Nat} {z_2 : Nat} {z_3 : Nat} {z_4 : Nat} {z_5 : Nat} {z_6 : Nat} {z_7 : Nat} {z_8 : Nat} {z_9 : Nat} {z_10 : Nat} {z_11 : Nat} {z_12 : Nat} {z_13 : Nat} {z_14 : Nat} {z_15 : Nat} {z_16 : Nat} {z_17 : Nat} {z_18 : Nat} {z_19 : Nat} {z_20 : Nat} {z_21 : Nat} {z_22 : Nat} {z_23 : Nat} {z_24 : Nat} {z_25 : Nat} {z_26 : Nat} {z_27 : Nat} {z_28 : Nat} {z_30 : Nat} {z_31 : Nat} {z_32 : Nat} {z_33 : Nat} {z_34 : Nat} {z_35 : Nat} {z_36 : Nat} {z_37 : Nat} {z_39 : Nat} {z_40 : Nat} {z_41 : Nat} {z_42 : Nat} {z_43 : Nat} {z_44 : Nat} {z_45 : Nat} {z_46 : Nat} {z_47 : Nat} {z_48 : Nat} {z_49 : Nat} {z_50 : Nat} {z_51 : Nat} {z_52 : Nat} {z_53 : Nat} {z_54 : Nat} {z_55 : Nat} {z_56 : Nat} {z_57 : Nat} {z_58 : Nat} {z_59 : Nat} {z_60 : Nat} {z_61 : Nat} {z_62 : Nat} {z_63 : Nat} {z_64 : Nat} {z_65 : Nat} {z_66 : Nat} {qa : Nat} {qb : Nat} {qc : Nat} {u_29 u_38 : Nat → Option Nat} (k1_0 : u_29 0 = some z_30) (k1_1 : u_29 1 = some z_31) (k1_2 : u_29 2 = some z_32) (k1_3 : u_29 3 = some z_33) (k1_4 : u_29 4 = some z_34) (k1_5 : u_29 5 = some z_35) (k1_6 : u_29 6 = some z_36) (k1_7 : u_29 7 = some z_37) (k2_0 : u_38 0 = some z_39) (k2_1 : u_38 1 = some z_40) (k2_2 : u_38 2 = some z_41) (k2_3 : u_38 3 = some z_42) (k2_4 : u_38 4 = some z_43) (k2_5 : u_38 5 = some z_44) (hP : va_P D vwCl [(q_1, .inr (7, [.ref z_2, .ref z_3, .ref z_4, .ref z_5, .ref z_6, .ref z_7, .int 1])), (z_2, .inr (0, [.ref z_8, .ref z_9, .int 0, .int 0])), (z_3, .inr (3, [.ref z_10, .ref z_11, .int 0])), (z_4, .inr (3, [.ref z_12, .ref z_13, .int 0])), (z_5, .inr (6, [.ref z_14, .ref z_15, .ref z_16, .ref z_17, .ref z_18, .ref z_19, .ref z_20, .ref z_21, .ref z_22, .ref z_23, .ref z_24, .int 0, .int 0])), (z_6, .inr (2, [.ref z_25, .int 0, .ref z_26, .ref z_27, .ref z_28])), (z_7, .inr (1, [.long 0, .long 0])), (z_8, .inl (cy 2, 8, .inr (.inr (.inr (.inr u_29))))), (z_9, .inl (cy 3, 6, .inr (.inr (.inr (.inr u_38))))), (z_10, .inl (cy 0, 6, .inl (upd (upd (upd (upd (upd (upd (fun _ => 0) 0 (-1)) 1 (-1)) 2 (-1)) 3 (-1)) 4 (-1)) 5 (-1)))), (z_11, .inl (cy 0, 8, .inl (fun _ => 0))), (z_12, .inl (cy 0, 6, .inl (upd (upd (upd (upd (upd (upd (fun _ => 0) 0 (-1)) 1 (-1)) 2 (-1)) 3 (-1)) 4 (-1)) 5 (-1)))), (z_13, .inl (cy 0, 8, .inl (fun _ => 0))), (z_14, .inl (cy 0, 6, .inl (fun _ => 0))), (z_15, .inl (cy 0, 6, .inl (fun _ => 0))), (z_16, .inl (cy 0, 30, .inl (fun _ => 0))), (z_17, .inl (cy 0, 30, .inl (fun _ => 0))), (z_18, .inl (cy 0, 1000, .inl (fun _ => 0))), (z_19, .inl (cy 0, 1000, .inl (fun _ => 0))), (z_20, .inl (cy 0, 1000, .inl (fun _ => 0))), (z_21, .inl (cy 0, 1000, .inl (fun _ => 0))), (z_22, .inl (cy 0, 1000, .inl (fun _ => 0))), (z_23, .inl (cy 0, 1000, .inl (fun _ => 0))), (z_24, .inr (3, [.ref z_45, .ref z_46, .int 0])), (z_25, .inl (cy 0, 5, .inl (fun _ => 0))), (z_26, .inl (cy 0, 256, .inl (fun _ => 0))), (z_27, .inl (cy 0, 256, .inl (fun _ => 0))), (z_28, .inl (cy 0, 256, .inl (fun _ => 0))), (z_30, .inr (5, [.int 0, .int 0, .int 99, .int (-1), .int (-1), .int 0, .ref z_47])), (z_31, .inr (5, [.int 0, .int 0, .int 99, .int (-1), .int (-1), .int 0, .ref z_48])), (z_32, .inr (5, [.int 0, .int 0, .int 99, .int (-1), .int (-1), .int 0, .ref z_49])), (z_33, .inr (5, [.int 0, .int 0, .int 99, .int (-1), .int (-1), .int 0, .ref z_50])), (z_34, .inr (5, [.int 0, .int 0, .int 99, .int (-1), .int (-1), .int 0, .ref z_51])), (z_35, .inr (5, [.int 0, .int 0, .int 99, .int (-1), .int (-1), .int 0, .ref z_52])), (z_36, .inr (5, [.int 0, .int 0, .int 99, .int (-1), .int (-1), .int 0, .ref z_53])), (z_37, .inr (5, [.int 0, .int 0, .int 99, .int (-1), .int (-1), .int 0, .ref z_54])), (z_39, .inr (4, [.int 1, .int 0, .int 0, .int 0, .ref z_55, .ref z_56])), (z_40, .inr (4, [.int 1, .int 0, .int 0, .int 0, .ref z_57, .ref z_58])), (z_41, .inr (4, [.int 1, .int 0, .int 0, .int 0, .ref z_59, .ref z_60])), (z_42, .inr (4, [.int 1, .int 0, .int 0, .int 0, .ref z_61, .ref z_62])), (z_43, .inr (4, [.int 1, .int 0, .int 0, .int 0, .ref z_63, .ref z_64])), (z_44, .inr (4, [.int 1, .int 0, .int 0, .int 0, .ref z_65, .ref z_66])), (z_45, .inl (cy 0, 6, .inl (upd (upd (upd (upd (upd (upd (fun _ => 0) 0 (-1)) 1 (-1)) 2 (-1)) 3 (-1)) 4 (-1)) 5 (-1)))), (z_46, .inl (cy 0, 8, .inl (fun _ => 0))), (z_47, .inl (cy 0, 19, .inl (fun _ => 0))), (z_48, .inl (cy 0, 19, .inl (fun _ => 0))), (z_49, .inl (cy 0, 19, .inl (fun _ => 0))), (z_50, .inl (cy 0, 19, .inl (fun _ => 0))), (z_51, .inl (cy 0, 19, .inl (fun _ => 0))), (z_52, .inl (cy 0, 19, .inl (fun _ => 0))), (z_53, .inl (cy 0, 19, .inl (fun _ => 0))), (z_54, .inl (cy 0, 19, .inl (fun _ => 0))), (z_55, .inl (cy 0, 5, .inl (fun _ => 0))), (z_56, .inl (cy 1, 5, .inr (.inl (fun _ => 0)))), (z_57, .inl (cy 0, 5, .inl (fun _ => 0))), (z_58, .inl (cy 1, 5, .inr (.inl (fun _ => 0)))), (z_59, .inl (cy 0, 5, .inl (fun _ => 0))), (z_60, .inl (cy 1, 5, .inr (.inl (fun _ => 0)))), (z_61, .inl (cy 0, 5, .inl (fun _ => 0))), (z_62, .inl (cy 1, 5, .inr (.inl (fun _ => 0)))), (z_63, .inl (cy 0, 5, .inl (fun _ => 0))), (z_64, .inl (cy 1, 5, .inr (.inl (fun _ => 0)))), (z_65, .inl (cy 0, 5, .inl (fun _ => 0))), (z_66, .inl (cy 1, 5, .inr (.inl (fun _ => 0)))), (qa, .inl (cy 0, 20, .inl (fun _ => 0))), (qb, .inl (cy 0, 24, .inl (fun _ => 0))), (qc, .inl (cy 0, 18, .inl (fun _ => 0)))] H) (hD : va_D A [(q_1, .inr (7, [.ref z_2, .ref z_3, .ref z_4, .ref z_5, .ref z_6, .ref z_7, .int 1])), (z_2, .inr (0, [.ref z_8, .ref z_9, .int 0, .int 0])), (z_3, .inr (3, [.ref z_10, .ref z_11, .int 0])), (z_4, .inr (3, [.ref z_12, .ref z_13, .int 0])), (z_5, .inr (6, [.ref z_14, .ref z_15, .ref z_16, .ref z_17, .ref z_18, .ref z_19, .ref z_20, .ref z_21, .ref z_22, .ref z_23, .ref z_24, .int 0, .int 0])), (z_6, .inr (2, [.ref z_25, .int 0, .ref z_26, .ref z_27, .ref z_28])), (z_7, .inr (1, [.long 0, .long 0])), (z_8, .inl (cy 2, 8, .inr (.inr (.inr (.inr u_29))))), (z_9, .inl (cy 3, 6, .inr (.inr (.inr (.inr u_38))))), (z_10, .inl (cy 0, 6, .inl (upd (upd (upd (upd (upd (upd (fun _ => 0) 0 (-1)) 1 (-1)) 2 (-1)) 3 (-1)) 4 (-1)) 5 (-1)))), (z_11, .inl (cy 0, 8, .inl (fun _ => 0))), (z_12, .inl (cy 0, 6, .inl (upd (upd (upd (upd (upd (upd (fun _ => 0) 0 (-1)) 1 (-1)) 2 (-1)) 3 (-1)) 4 (-1)) 5 (-1)))), (z_13, .inl (cy 0, 8, .inl (fun _ => 0))), (z_14, .inl (cy 0, 6, .inl (fun _ => 0))), (z_15, .inl (cy 0, 6, .inl (fun _ => 0))), (z_16, .inl (cy 0, 30, .inl (fun _ => 0))), (z_17, .inl (cy 0, 30, .inl (fun _ => 0))), (z_18, .inl (cy 0, 1000, .inl (fun _ => 0))), (z_19, .inl (cy 0, 1000, .inl (fun _ => 0))), (z_20, .inl (cy 0, 1000, .inl (fun _ => 0))), (z_21, .inl (cy 0, 1000, .inl (fun _ => 0))), (z_22, .inl (cy 0, 1000, .inl (fun _ => 0))), (z_23, .inl (cy 0, 1000, .inl (fun _ => 0))), (z_24, .inr (3, [.ref z_45, .ref z_46, .int 0])), (z_25, .inl (cy 0, 5, .inl (fun _ => 0))), (z_26, .inl (cy 0, 256, .inl (fun _ => 0))), (z_27, .inl (cy 0, 256, .inl (fun _ => 0))), (z_28, .inl (cy 0, 256, .inl (fun _ => 0))), (z_30, .inr (5, [.int 0, .int 0, .int 99, .int (-1), .int (-1), .int 0, .ref z_47])), (z_31, .inr (5, [.int 0, .int 0, .int 99, .int (-1), .int (-1), .int 0, .ref z_48])), (z_32, .inr (5, [.int 0, .int 0, .int 99, .int (-1), .int (-1), .int 0, .ref z_49])), (z_33, .inr (5, [.int 0, .int 0, .int 99, .int (-1), .int (-1), .int 0, .ref z_50])), (z_34, .inr (5, [.int 0, .int 0, .int 99, .int (-1), .int (-1), .int 0, .ref z_51])), (z_35, .inr (5, [.int 0, .int 0, .int 99, .int (-1), .int (-1), .int 0, .ref z_52])), (z_36, .inr (5, [.int 0, .int 0, .int 99, .int (-1), .int (-1), .int 0, .ref z_53])), (z_37, .inr (5, [.int 0, .int 0, .int 99, .int (-1), .int (-1), .int 0, .ref z_54])), (z_39, .inr (4, [.int 1, .int 0, .int 0, .int 0, .ref z_55, .ref z_56])), (z_40, .inr (4, [.int 1, .int 0, .int 0, .int 0, .ref z_57, .ref z_58])), (z_41, .inr (4, [.int 1, .int 0, .int 0, .int 0, .ref z_59, .ref z_60])), (z_42, .inr (4, [.int 1, .int 0, .int 0, .int 0, .ref z_61, .ref z_62])), (z_43, .inr (4, [.int 1, .int 0, .int 0, .int 0, .ref z_63, .ref z_64])), (z_44, .inr (4, [.int 1, .int 0, .int 0, .int 0, .ref z_65, .ref z_66])), (z_45, .inl (cy 0, 6, .inl (upd (upd (upd (upd (upd (upd (fun _ => 0) 0 (-1)) 1 (-1)) 2 (-1)) 3 (-1)) 4 (-1)) 5 (-1)))), (z_46, .inl (cy 0, 8, .inl (fun _ => 0))), (z_47, .inl (cy 0, 19, .inl (fun _ => 0))), (z_48, .inl (cy 0, 19, .inl (fun _ => 0))), (z_49, .inl (cy 0, 19, .inl (fun _ => 0))), (z_50, .inl (cy 0, 19, .inl (fun _ => 0))), (z_51, .inl (cy 0, 19, .inl (fun _ => 0))), (z_52, .inl (cy 0, 19, .inl (fun _ => 0))), (z_53, .inl (cy 0, 19, .inl (fun _ => 0))), (z_54, .inl (cy 0, 19, .inl (fun _ => 0))), (z_55, .inl (cy 0, 5, .inl (fun _ => 0))), (z_56, .inl (cy 1, 5, .inr (.inl (fun _ => 0)))), (z_57, .inl (cy 0, 5, .inl (fun _ => 0))), (z_58, .inl (cy 1, 5, .inr (.inl (fun _ => 0)))), (z_59, .inl (cy 0, 5, .inl (fun _ => 0))), (z_60, .inl (cy 1, 5, .inr (.inl (fun _ => 0)))), (z_61, .inl (cy 0, 5, .inl (fun _ => 0))), (z_62, .inl (cy 1, 5, .inr (.inl (fun _ => 0)))), (z_63, .inl (cy 0, 5, .inl (fun _ => 0))), (z_64, .inl (cy 1, 5, .inr (.inl (fun _ => 0)))), (z_65, .inl (cy 0, 5, .inl (fun _ => 0))), (z_66, .inl (cy 1, 5, .inr (.inl (fun _ => 0)))), (qa, .inl (cy 0, 20, .inl (fun _ => 0))), (qb, .inl (cy 0, 24, .inl (fun _ => 0))), (qc, .inl (cy 0, 18, .inl (fun _ => 0)))]) : ∃ ad : Nat → Nat, HP D cy ad m0 H ∧ adI ad ∧ (∀ c, c < 52 → A (ad c)) ∧ ad 0 = q_1 ∧ ad 49 = qa ∧ ad 50 = qb ∧ ad 51 = qc := by
  obtain ⟨ad, had⟩ : ∃ ad : Nat → Nat, ad = (fun c : Nat => ([q_1, z_2, z_3, z_24, z_5, z_10, z_11, z_45, z_46, z_14, z_15, z_16, z_17, z_18, z_19, z_20, z_21, z_22, z_23, z_8, z_9, z_30, z_31, z_32, z_33, z_34, z_35, z_36, z_37, z_47, z_48, z_49, z_50, z_51, z_52, z_53, z_54, z_39, z_40, z_41, z_42, z_43, z_44, z_55, z_57, z_59, z_61, z_63, z_65, qa, qb, qc, z_4, z_6, z_7, z_56, z_58, z_60, z_62, z_64, z_66] : List Nat).getD c 0) := ⟨_, rfl⟩
  have a0 : ad 0 = q_1 := by rw [had]; rfl
  have a1 : ad 1 = z_2 := by rw [had]; rfl
  have a2 : ad 2 = z_3 := by rw [had]; rfl
  have a3 : ad 3 = z_24 := by rw [had]; rfl
  have a4 : ad 4 = z_5 := by rw [had]; rfl
  have a5 : ad 5 = z_10 := by rw [had]; rfl
  have a6 : ad 6 = z_11 := by rw [had]; rfl
  have a7 : ad 7 = z_45 := by rw [had]; rfl
  have a8 : ad 8 = z_46 := by rw [had]; rfl
  have a9 : ad 9 = z_14 := by rw [had]; rfl
  have a10 : ad 10 = z_15 := by rw [had]; rfl
  have a11 : ad 11 = z_16 := by rw [had]; rfl
  have a12 : ad 12 = z_17 := by rw [had]; rfl
  have a13 : ad 13 = z_18 := by rw [had]; rfl
  have a14 : ad 14 = z_19 := by rw [had]; rfl
  have a15 : ad 15 = z_20 := by rw [had]; rfl
  have a16 : ad 16 = z_21 := by rw [had]; rfl
  have a17 : ad 17 = z_22 := by rw [had]; rfl
  have a18 : ad 18 = z_23 := by rw [had]; rfl
  have a19 : ad 19 = z_8 := by rw [had]; rfl
  have a20 : ad 20 = z_9 := by rw [had]; rfl
  have a21 : ad 21 = z_30 := by rw [had]; rfl
  have a22 : ad 22 = z_31 := by rw [had]; rfl
  have a23 : ad 23 = z_32 := by rw [had]; rfl
  have a24 : ad 24 = z_33 := by rw [had]; rfl
  have a25 : ad 25 = z_34 := by rw [had]; rfl
  have a26 : ad 26 = z_35 := by rw [had]; rfl
  have a27 : ad 27 = z_36 := by rw [had]; rfl
  have a28 : ad 28 = z_37 := by rw [had]; rfl
  have a29 : ad 29 = z_47 := by rw [had]; rfl
  have a30 : ad 30 = z_48 := by rw [had]; rfl
  have a31 : ad 31 = z_49 := by rw [had]; rfl
  have a32 : ad 32 = z_50 := by rw [had]; rfl
  have a33 : ad 33 = z_51 := by rw [had]; rfl
  have a34 : ad 34 = z_52 := by rw [had]; rfl
  have a35 : ad 35 = z_53 := by rw [had]; rfl
  have a36 : ad 36 = z_54 := by rw [had]; rfl
  have a37 : ad 37 = z_39 := by rw [had]; rfl
  have a38 : ad 38 = z_40 := by rw [had]; rfl
  have a39 : ad 39 = z_41 := by rw [had]; rfl
  have a40 : ad 40 = z_42 := by rw [had]; rfl
  have a41 : ad 41 = z_43 := by rw [had]; rfl
  have a42 : ad 42 = z_44 := by rw [had]; rfl
  have a43 : ad 43 = z_55 := by rw [had]; rfl
  have a44 : ad 44 = z_57 := by rw [had]; rfl
  have a45 : ad 45 = z_59 := by rw [had]; rfl
  have a46 : ad 46 = z_61 := by rw [had]; rfl
  have a47 : ad 47 = z_63 := by rw [had]; rfl
  have a48 : ad 48 = z_65 := by rw [had]; rfl
  have a49 : ad 49 = qa := by rw [had]; rfl
  have a50 : ad 50 = qb := by rw [had]; rfl
  have a51 : ad 51 = qc := by rw [had]; rfl
  have a52 : ad 52 = z_4 := by rw [had]; rfl
  have a53 : ad 53 = z_6 := by rw [had]; rfl
  have a54 : ad 54 = z_7 := by rw [had]; rfl
  have a55 : ad 55 = z_56 := by rw [had]; rfl
  have a56 : ad 56 = z_58 := by rw [had]; rfl
  have a57 : ad 57 = z_60 := by rw [had]; rfl
  have a58 : ad 58 = z_62 := by rw [had]; rfl
  have a59 : ad 59 = z_64 := by rw [had]; rfl
  have a60 : ad 60 = z_66 := by rw [had]; rfl
  have key : ∀ c, c < 52 → ∃ e, ([(q_1, .inr (7, [.ref z_2, .ref z_3, .ref z_4, .ref z_5, .ref z_6, .ref z_7, .int 1])), (z_2, .inr (0, [.ref z_8, .ref z_9, .int 0, .int 0])), (z_3, .inr (3, [.ref z_10, .ref z_11, .int 0])), (z_4, .inr (3, [.ref z_12, .ref z_13, .int 0])), (z_5, .inr (6, [.ref z_14, .ref z_15, .ref z_16, .ref z_17, .ref z_18, .ref z_19, .ref z_20, .ref z_21, .ref z_22, .ref z_23, .ref z_24, .int 0, .int 0])), (z_6, .inr (2, [.ref z_25, .int 0, .ref z_26, .ref z_27, .ref z_28])), (z_7, .inr (1, [.long 0, .long 0])), (z_8, .inl (cy 2, 8, .inr (.inr (.inr (.inr u_29))))), (z_9, .inl (cy 3, 6, .inr (.inr (.inr (.inr u_38))))), (z_10, .inl (cy 0, 6, .inl (upd (upd (upd (upd (upd (upd (fun _ => 0) 0 (-1)) 1 (-1)) 2 (-1)) 3 (-1)) 4 (-1)) 5 (-1)))), (z_11, .inl (cy 0, 8, .inl (fun _ => 0))), (z_12, .inl (cy 0, 6, .inl (upd (upd (upd (upd (upd (upd (fun _ => 0) 0 (-1)) 1 (-1)) 2 (-1)) 3 (-1)) 4 (-1)) 5 (-1)))), (z_13, .inl (cy 0, 8, .inl (fun _ => 0))), (z_14, .inl (cy 0, 6, .inl (fun _ => 0))), (z_15, .inl (cy 0, 6, .inl (fun _ => 0))), (z_16, .inl (cy 0, 30, .inl (fun _ => 0))), (z_17, .inl (cy 0, 30, .inl (fun _ => 0))), (z_18, .inl (cy 0, 1000, .inl (fun _ => 0))), (z_19, .inl (cy 0, 1000, .inl (fun _ => 0))), (z_20, .inl (cy 0, 1000, .inl (fun _ => 0))), (z_21, .inl (cy 0, 1000, .inl (fun _ => 0))), (z_22, .inl (cy 0, 1000, .inl (fun _ => 0))), (z_23, .inl (cy 0, 1000, .inl (fun _ => 0))), (z_24, .inr (3, [.ref z_45, .ref z_46, .int 0])), (z_25, .inl (cy 0, 5, .inl (fun _ => 0))), (z_26, .inl (cy 0, 256, .inl (fun _ => 0))), (z_27, .inl (cy 0, 256, .inl (fun _ => 0))), (z_28, .inl (cy 0, 256, .inl (fun _ => 0))), (z_30, .inr (5, [.int 0, .int 0, .int 99, .int (-1), .int (-1), .int 0, .ref z_47])), (z_31, .inr (5, [.int 0, .int 0, .int 99, .int (-1), .int (-1), .int 0, .ref z_48])), (z_32, .inr (5, [.int 0, .int 0, .int 99, .int (-1), .int (-1), .int 0, .ref z_49])), (z_33, .inr (5, [.int 0, .int 0, .int 99, .int (-1), .int (-1), .int 0, .ref z_50])), (z_34, .inr (5, [.int 0, .int 0, .int 99, .int (-1), .int (-1), .int 0, .ref z_51])), (z_35, .inr (5, [.int 0, .int 0, .int 99, .int (-1), .int (-1), .int 0, .ref z_52])), (z_36, .inr (5, [.int 0, .int 0, .int 99, .int (-1), .int (-1), .int 0, .ref z_53])), (z_37, .inr (5, [.int 0, .int 0, .int 99, .int (-1), .int (-1), .int 0, .ref z_54])), (z_39, .inr (4, [.int 1, .int 0, .int 0, .int 0, .ref z_55, .ref z_56])), (z_40, .inr (4, [.int 1, .int 0, .int 0, .int 0, .ref z_57, .ref z_58])), (z_41, .inr (4, [.int 1, .int 0, .int 0, .int 0, .ref z_59, .ref z_60])), (z_42, .inr (4, [.int 1, .int 0, .int 0, .int 0, .ref z_61, .ref z_62])), (z_43, .inr (4, [.int 1, .int 0, .int 0, .int 0, .ref z_63, .ref z_64])), (z_44, .inr (4, [.int 1, .int 0, .int 0, .int 0, .ref z_65, .ref z_66])), (z_45, .inl (cy 0, 6, .inl (upd (upd (upd (upd (upd (upd (fun _ => 0) 0 (-1)) 1 (-1)) 2 (-1)) 3 (-1)) 4 (-1)) 5 (-1)))), (z_46, .inl (cy 0, 8, .inl (fun _ => 0))), (z_47, .inl (cy 0, 19, .inl (fun _ => 0))), (z_48, .inl (cy 0, 19, .inl (fun _ => 0))), (z_49, .inl (cy 0, 19, .inl (fun _ => 0))), (z_50, .inl (cy 0, 19, .inl (fun _ => 0))), (z_51, .inl (cy 0, 19, .inl (fun _ => 0))), (z_52, .inl (cy 0, 19, .inl (fun _ => 0))), (z_53, .inl (cy 0, 19, .inl (fun _ => 0))), (z_54, .inl (cy 0, 19, .inl (fun _ => 0))), (z_55, .inl (cy 0, 5, .inl (fun _ => 0))), (z_56, .inl (cy 1, 5, .inr (.inl (fun _ => 0)))), (z_57, .inl (cy 0, 5, .inl (fun _ => 0))), (z_58, .inl (cy 1, 5, .inr (.inl (fun _ => 0)))), (z_59, .inl (cy 0, 5, .inl (fun _ => 0))), (z_60, .inl (cy 1, 5, .inr (.inl (fun _ => 0)))), (z_61, .inl (cy 0, 5, .inl (fun _ => 0))), (z_62, .inl (cy 1, 5, .inr (.inl (fun _ => 0)))), (z_63, .inl (cy 0, 5, .inl (fun _ => 0))), (z_64, .inl (cy 1, 5, .inr (.inl (fun _ => 0)))), (z_65, .inl (cy 0, 5, .inl (fun _ => 0))), (z_66, .inl (cy 1, 5, .inr (.inl (fun _ => 0)))), (qa, .inl (cy 0, 20, .inl (fun _ => 0))), (qb, .inl (cy 0, 24, .inl (fun _ => 0))), (qc, .inl (cy 0, 18, .inl (fun _ => 0)))] : va_W)[pl0.getD c 0]? = some (ad c, e) := fun c hc => match c, hc with
    | 0, _ => ⟨_, by rw [a0]; rfl⟩
    | 1, _ => ⟨_, by rw [a1]; rfl⟩
    | 2, _ => ⟨_, by rw [a2]; rfl⟩
    | 3, _ => ⟨_, by rw [a3]; rfl⟩
    | 4, _ => ⟨_, by rw [a4]; rfl⟩
    | 5, _ => ⟨_, by rw [a5]; rfl⟩
    | 6, _ => ⟨_, by rw [a6]; rfl⟩
    | 7, _ => ⟨_, by rw [a7]; rfl⟩
    | 8, _ => ⟨_, by rw [a8]; rfl⟩
    | 9, _ => ⟨_, by rw [a9]; rfl⟩
    | 10, _ => ⟨_, by rw [a10]; rfl⟩
    | 11, _ => ⟨_, by rw [a11]; rfl⟩
    | 12, _ => ⟨_, by rw [a12]; rfl⟩
    | 13, _ => ⟨_, by rw [a13]; rfl⟩
    | 14, _ => ⟨_, by rw [a14]; rfl⟩
    | 15, _ => ⟨_, by rw [a15]; rfl⟩
    | 16, _ => ⟨_, by rw [a16]; rfl⟩
    | 17, _ => ⟨_, by rw [a17]; rfl⟩
    | 18, _ => ⟨_, by rw [a18]; rfl⟩
    | 19, _ => ⟨_, by rw [a19]; rfl⟩
    | 20, _ => ⟨_, by rw [a20]; rfl⟩
    | 21, _ => ⟨_, by rw [a21]; rfl⟩
    | 22, _ => ⟨_, by rw [a22]; rfl⟩
    | 23, _ => ⟨_, by rw [a23]; rfl⟩
    | 24, _ => ⟨_, by rw [a24]; rfl⟩
    | 25, _ => ⟨_, by rw [a25]; rfl⟩
    | 26, _ => ⟨_, by rw [a26]; rfl⟩
    | 27, _ => ⟨_, by rw [a27]; rfl⟩
    | 28, _ => ⟨_, by rw [a28]; rfl⟩
    | 29, _ => ⟨_, by rw [a29]; rfl⟩
    | 30, _ => ⟨_, by rw [a30]; rfl⟩
    | 31, _ => ⟨_, by rw [a31]; rfl⟩
    | 32, _ => ⟨_, by rw [a32]; rfl⟩
    | 33, _ => ⟨_, by rw [a33]; rfl⟩
    | 34, _ => ⟨_, by rw [a34]; rfl⟩
    | 35, _ => ⟨_, by rw [a35]; rfl⟩
    | 36, _ => ⟨_, by rw [a36]; rfl⟩
    | 37, _ => ⟨_, by rw [a37]; rfl⟩
    | 38, _ => ⟨_, by rw [a38]; rfl⟩
    | 39, _ => ⟨_, by rw [a39]; rfl⟩
    | 40, _ => ⟨_, by rw [a40]; rfl⟩
    | 41, _ => ⟨_, by rw [a41]; rfl⟩
    | 42, _ => ⟨_, by rw [a42]; rfl⟩
    | 43, _ => ⟨_, by rw [a43]; rfl⟩
    | 44, _ => ⟨_, by rw [a44]; rfl⟩
    | 45, _ => ⟨_, by rw [a45]; rfl⟩
    | 46, _ => ⟨_, by rw [a46]; rfl⟩
    | 47, _ => ⟨_, by rw [a47]; rfl⟩
    | 48, _ => ⟨_, by rw [a48]; rfl⟩
    | 49, _ => ⟨_, by rw [a49]; rfl⟩
    | 50, _ => ⟨_, by rw [a50]; rfl⟩
    | 51, _ => ⟨_, by rw [a51]; rfl⟩
    | n + 52, h => absurd h (by omega)
  have p0 : va_at D vwCl (q_1, .inr (7, [.ref z_2, .ref z_3, .ref z_4, .ref z_5, .ref z_6, .ref z_7, .int 1])) H := hP 0 _ rfl
  have p1 : va_at D vwCl (z_2, .inr (0, [.ref z_8, .ref z_9, .int 0, .int 0])) H := hP 1 _ rfl
  have p2 : va_at D vwCl (z_3, .inr (3, [.ref z_10, .ref z_11, .int 0])) H := hP 2 _ rfl
  have p3 : va_at D vwCl (z_24, .inr (3, [.ref z_45, .ref z_46, .int 0])) H := hP 23 _ rfl
  have p4 : va_at D vwCl (z_5, .inr (6, [.ref z_14, .ref z_15, .ref z_16, .ref z_17, .ref z_18, .ref z_19, .ref z_20, .ref z_21, .ref z_22, .ref z_23, .ref z_24, .int 0, .int 0])) H := hP 4 _ rfl
  have p5 : va_at D vwCl (z_10, .inl (cy 0, 6, .inl (upd (upd (upd (upd (upd (upd (fun _ => 0) 0 (-1)) 1 (-1)) 2 (-1)) 3 (-1)) 4 (-1)) 5 (-1)))) H := hP 9 _ rfl
  have p6 : va_at D vwCl (z_11, .inl (cy 0, 8, .inl (fun _ => 0))) H := hP 10 _ rfl
  have p7 : va_at D vwCl (z_45, .inl (cy 0, 6, .inl (upd (upd (upd (upd (upd (upd (fun _ => 0) 0 (-1)) 1 (-1)) 2 (-1)) 3 (-1)) 4 (-1)) 5 (-1)))) H := hP 42 _ rfl
  have p8 : va_at D vwCl (z_46, .inl (cy 0, 8, .inl (fun _ => 0))) H := hP 43 _ rfl
  have p9 : va_at D vwCl (z_14, .inl (cy 0, 6, .inl (fun _ => 0))) H := hP 13 _ rfl
  have p10 : va_at D vwCl (z_15, .inl (cy 0, 6, .inl (fun _ => 0))) H := hP 14 _ rfl
  have p11 : va_at D vwCl (z_16, .inl (cy 0, 30, .inl (fun _ => 0))) H := hP 15 _ rfl
  have p12 : va_at D vwCl (z_17, .inl (cy 0, 30, .inl (fun _ => 0))) H := hP 16 _ rfl
  have p13 : va_at D vwCl (z_18, .inl (cy 0, 1000, .inl (fun _ => 0))) H := hP 17 _ rfl
  have p14 : va_at D vwCl (z_19, .inl (cy 0, 1000, .inl (fun _ => 0))) H := hP 18 _ rfl
  have p15 : va_at D vwCl (z_20, .inl (cy 0, 1000, .inl (fun _ => 0))) H := hP 19 _ rfl
  have p16 : va_at D vwCl (z_21, .inl (cy 0, 1000, .inl (fun _ => 0))) H := hP 20 _ rfl
  have p17 : va_at D vwCl (z_22, .inl (cy 0, 1000, .inl (fun _ => 0))) H := hP 21 _ rfl
  have p18 : va_at D vwCl (z_23, .inl (cy 0, 1000, .inl (fun _ => 0))) H := hP 22 _ rfl
  have p19 : va_at D vwCl (z_8, .inl (cy 2, 8, .inr (.inr (.inr (.inr u_29))))) H := hP 7 _ rfl
  have p20 : va_at D vwCl (z_9, .inl (cy 3, 6, .inr (.inr (.inr (.inr u_38))))) H := hP 8 _ rfl
  have p21 : va_at D vwCl (z_30, .inr (5, [.int 0, .int 0, .int 99, .int (-1), .int (-1), .int 0, .ref z_47])) H := hP 28 _ rfl
  have p22 : va_at D vwCl (z_31, .inr (5, [.int 0, .int 0, .int 99, .int (-1), .int (-1), .int 0, .ref z_48])) H := hP 29 _ rfl
  have p23 : va_at D vwCl (z_32, .inr (5, [.int 0, .int 0, .int 99, .int (-1), .int (-1), .int 0, .ref z_49])) H := hP 30 _ rfl
  have p24 : va_at D vwCl (z_33, .inr (5, [.int 0, .int 0, .int 99, .int (-1), .int (-1), .int 0, .ref z_50])) H := hP 31 _ rfl
  have p25 : va_at D vwCl (z_34, .inr (5, [.int 0, .int 0, .int 99, .int (-1), .int (-1), .int 0, .ref z_51])) H := hP 32 _ rfl
  have p26 : va_at D vwCl (z_35, .inr (5, [.int 0, .int 0, .int 99, .int (-1), .int (-1), .int 0, .ref z_52])) H := hP 33 _ rfl
  have p27 : va_at D vwCl (z_36, .inr (5, [.int 0, .int 0, .int 99, .int (-1), .int (-1), .int 0, .ref z_53])) H := hP 34 _ rfl
  have p28 : va_at D vwCl (z_37, .inr (5, [.int 0, .int 0, .int 99, .int (-1), .int (-1), .int 0, .ref z_54])) H := hP 35 _ rfl
  have p29 : va_at D vwCl (z_47, .inl (cy 0, 19, .inl (fun _ => 0))) H := hP 44 _ rfl
  have p30 : va_at D vwCl (z_48, .inl (cy 0, 19, .inl (fun _ => 0))) H := hP 45 _ rfl
  have p31 : va_at D vwCl (z_49, .inl (cy 0, 19, .inl (fun _ => 0))) H := hP 46 _ rfl
  have p32 : va_at D vwCl (z_50, .inl (cy 0, 19, .inl (fun _ => 0))) H := hP 47 _ rfl
  have p33 : va_at D vwCl (z_51, .inl (cy 0, 19, .inl (fun _ => 0))) H := hP 48 _ rfl
  have p34 : va_at D vwCl (z_52, .inl (cy 0, 19, .inl (fun _ => 0))) H := hP 49 _ rfl
  have p35 : va_at D vwCl (z_53, .inl (cy 0, 19, .inl (fun _ => 0))) H := hP 50 _ rfl
  have p36 : va_at D vwCl (z_54, .inl (cy 0, 19, .inl (fun _ => 0))) H := hP 51 _ rfl
  have p37 : va_at D vwCl (z_39, .inr (4, [.int 1, .int 0, .int 0, .int 0, .ref z_55, .ref z_56])) H := hP 36 _ rfl
  have p38 : va_at D vwCl (z_40, .inr (4, [.int 1, .int 0, .int 0, .int 0, .ref z_57, .ref z_58])) H := hP 37 _ rfl
  have p39 : va_at D vwCl (z_41, .inr (4, [.int 1, .int 0, .int 0, .int 0, .ref z_59, .ref z_60])) H := hP 38 _ rfl
  have p40 : va_at D vwCl (z_42, .inr (4, [.int 1, .int 0, .int 0, .int 0, .ref z_61, .ref z_62])) H := hP 39 _ rfl
  have p41 : va_at D vwCl (z_43, .inr (4, [.int 1, .int 0, .int 0, .int 0, .ref z_63, .ref z_64])) H := hP 40 _ rfl
  have p42 : va_at D vwCl (z_44, .inr (4, [.int 1, .int 0, .int 0, .int 0, .ref z_65, .ref z_66])) H := hP 41 _ rfl
  have p43 : va_at D vwCl (z_55, .inl (cy 0, 5, .inl (fun _ => 0))) H := hP 52 _ rfl
  have p44 : va_at D vwCl (z_57, .inl (cy 0, 5, .inl (fun _ => 0))) H := hP 54 _ rfl
  have p45 : va_at D vwCl (z_59, .inl (cy 0, 5, .inl (fun _ => 0))) H := hP 56 _ rfl
  have p46 : va_at D vwCl (z_61, .inl (cy 0, 5, .inl (fun _ => 0))) H := hP 58 _ rfl
  have p47 : va_at D vwCl (z_63, .inl (cy 0, 5, .inl (fun _ => 0))) H := hP 60 _ rfl
  have p48 : va_at D vwCl (z_65, .inl (cy 0, 5, .inl (fun _ => 0))) H := hP 62 _ rfl
  have p49 : va_at D vwCl (qa, .inl (cy 0, 20, .inl (fun _ => 0))) H := hP 64 _ rfl
  have p50 : va_at D vwCl (qb, .inl (cy 0, 24, .inl (fun _ => 0))) H := hP 65 _ rfl
  have p51 : va_at D vwCl (qc, .inl (cy 0, 18, .inl (fun _ => 0))) H := hP 66 _ rfl
  have e1 : ∀ j, j < 8 → u_29 j = some (ad (21 + j)) := fun j hj => match j, hj with
    | 0, _ => k1_0.trans (congrArg some a21.symm)
    | 1, _ => k1_1.trans (congrArg some a22.symm)
    | 2, _ => k1_2.trans (congrArg some a23.symm)
    | 3, _ => k1_3.trans (congrArg some a24.symm)
    | 4, _ => k1_4.trans (congrArg some a25.symm)
    | 5, _ => k1_5.trans (congrArg some a26.symm)
    | 6, _ => k1_6.trans (congrArg some a27.symm)
    | 7, _ => k1_7.trans (congrArg some a28.symm)
    | n + 8, h => absurd h (by omega)
  have e2 : ∀ j, j < 6 → u_38 j = some (ad (37 + j)) := fun j hj => match j, hj with
    | 0, _ => k2_0.trans (congrArg some a37.symm)
    | 1, _ => k2_1.trans (congrArg some a38.symm)
    | 2, _ => k2_2.trans (congrArg some a39.symm)
    | 3, _ => k2_3.trans (congrArg some a40.symm)
    | 4, _ => k2_4.trans (congrArg some a41.symm)
    | 5, _ => k2_5.trans (congrArg some a42.symm)
    | n + 6, h => absurd h (by omega)
  refine ⟨ad, ?_, fun i j hi hj h => ?_, fun c hc => ?_, a0, a49, a50, a51⟩
  · intro k q hk
    have hl : k < 52 := by have := (List.getElem?_eq_some_iff.mp hk).1; rw [wv_len] at this; exact this
    rw [wv_get hl] at hk
    cases hk
    match k, hl with
    | 0, _ => rw [← a0, ← a1, ← a2, ← a52, ← a4, ← a53, ← a54] at p0; exact p0
    | 1, _ => rw [← a1, ← a19, ← a20] at p1; exact p1
    | 2, _ => rw [← a2, ← a5, ← a6] at p2; exact p2
    | 3, _ => rw [← a3, ← a7, ← a8] at p3; exact p3
    | 4, _ => rw [← a4, ← a9, ← a10, ← a11, ← a12, ← a13, ← a14, ← a15, ← a16, ← a17, ← a18, ← a3] at p4; exact p4
    | 5, _ => rw [← a5] at p5; exact at_arr9 p5 (by decide +kernel)
    | 6, _ => rw [← a6] at p6; exact p6
    | 7, _ => rw [← a7] at p7; exact at_arr9 p7 (by decide +kernel)
    | 8, _ => rw [← a8] at p8; exact p8
    | 9, _ => rw [← a9] at p9; exact p9
    | 10, _ => rw [← a10] at p10; exact p10
    | 11, _ => rw [← a11] at p11; exact p11
    | 12, _ => rw [← a12] at p12; exact p12
    | 13, _ => rw [← a13] at p13; exact p13
    | 14, _ => rw [← a14] at p14; exact p14
    | 15, _ => rw [← a15] at p15; exact p15
    | 16, _ => rw [← a16] at p16; exact p16
    | 17, _ => rw [← a17] at p17; exact p17
    | 18, _ => rw [← a18] at p18; exact p18
    | 19, _ => rw [← a19] at p19; exact at_ref9 p19 e1
    | 20, _ => rw [← a20] at p20; exact at_ref9 p20 e2
    | 21, _ => rw [← a21, ← a29] at p21; exact p21
    | 22, _ => rw [← a22, ← a30] at p22; exact p22
    | 23, _ => rw [← a23, ← a31] at p23; exact p23
    | 24, _ => rw [← a24, ← a32] at p24; exact p24
    | 25, _ => rw [← a25, ← a33] at p25; exact p25
    | 26, _ => rw [← a26, ← a34] at p26; exact p26
    | 27, _ => rw [← a27, ← a35] at p27; exact p27
    | 28, _ => rw [← a28, ← a36] at p28; exact p28
    | 29, _ => rw [← a29] at p29; exact p29
    | 30, _ => rw [← a30] at p30; exact p30
    | 31, _ => rw [← a31] at p31; exact p31
    | 32, _ => rw [← a32] at p32; exact p32
    | 33, _ => rw [← a33] at p33; exact p33
    | 34, _ => rw [← a34] at p34; exact p34
    | 35, _ => rw [← a35] at p35; exact p35
    | 36, _ => rw [← a36] at p36; exact p36
    | 37, _ => rw [← a37, ← a43, ← a55] at p37; exact p37
    | 38, _ => rw [← a38, ← a44, ← a56] at p38; exact p38
    | 39, _ => rw [← a39, ← a45, ← a57] at p39; exact p39
    | 40, _ => rw [← a40, ← a46, ← a58] at p40; exact p40
    | 41, _ => rw [← a41, ← a47, ← a59] at p41; exact p41
    | 42, _ => rw [← a42, ← a48, ← a60] at p42; exact p42
    | 43, _ => rw [← a43] at p43; exact p43
    | 44, _ => rw [← a44] at p44; exact p44
    | 45, _ => rw [← a45] at p45; exact p45
    | 46, _ => rw [← a46] at p46; exact p46
    | 47, _ => rw [← a47] at p47; exact p47
    | 48, _ => rw [← a48] at p48; exact p48
    | 49, _ => rw [← a49] at p49; exact p49
    | 50, _ => rw [← a50] at p50; exact p50
    | 51, _ => rw [← a51] at p51; exact p51
    | n + 52, h => exact absurd h (by omega)
  · obtain ⟨e3, h3⟩ := key i hi
    obtain ⟨e4, h4⟩ := key j hj
    exact pl0_inj i hi j hj (hD.1 _ _ _ _ h3 h4 h)
  · obtain ⟨e3, h3⟩ := key c hc
    exact hD.2 _ _ h3
