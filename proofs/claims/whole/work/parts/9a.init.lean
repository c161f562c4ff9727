/-! a station that is none yet -/
def us (i : Nat) : Nat := if i = 2 then 5 else if i = 3 then 30 else if i = 5 then 60 else if i = 6 then 60 else 0
def uC (a i : Nat) : Nat := if a = 0 then us i else 0
theorem uC_ok : CfOK uC := by
  refine ⟨by decide, by decide, by decide, ⟨by decide, by decide⟩, by decide, ⟨by decide, by decide⟩, by decide, fun t ht => absurd (show t < 0 from ht) (Nat.not_lt_zero t), fun p hp => absurd (show p < 0 from hp) (Nat.not_lt_zero p)⟩
theorem usualM {r : Nat} {m : Mm} (hr : r < 2) : Sat (f_X12_usual (nI r) m) (fun n => (∀ i, i < 7 → gI n 2 (7 * r + i) = nI (us i)) ∧ Kp (fun a k => a = 2 ∧ 7 * r ≤ k ∧ k < 7 * r + 7) m n) := by
  unfold f_X12_usual
  simp (disch := omega) only [Nat.add_zero, bnd_e, grd_t, bdI_e, bdV_e, bokA, bokB, ni_inb, ni_cl, nI_add, pk_mul, li_2, li_3, li_4, li_5, li_6, li_7, li_8, li_9, li_10, li_11, li_12, li_13, li_14, li_15, li_16, li_17, li_18, li_19, li_20, li_21, li_22, li_23, li_24, li_25, li_26, li_27, li_28, li_29, li_30, li_31, li_32, li_33, li_34, li_35, li_36, li_37, li_38, li_39, li_40, li_41, li_42, li_43, li_44, li_45, li_46, li_47, li_48, li_49, li_50, li_51, li_52, li_53, li_54, li_55, li_56, li_57, li_58, li_59, li_60, li_61, li_63, li_70, li_96, li_97, li_99, li_100, li_101, li_102, li_120, li_122, li_126, li_200, li_255, li_423, li_555, li_999, li_1000, li_1111, li_2968, li_9999, li_10631, li_12345, li_14092, li_21470, li_65536, li_99233, nz_eq, n1_eq, n1_lt, n1_gt, n1_le, n1_ge, n1_sub, n1_add, nm_add, nz_add, nz_add2, z1_ne, z1_lt, z1_le, nI_1, pk_sub, nI_ltI, nI_leI, nI_eq, ni_neg, ni_nneg, ni_pos0, ni_nle0, ni_m1, gI_eq, gI_ne, xI_sJ, xI_sR, xR_sI, xR_sJ, xJ_sI, xJ_sR, gJ_eq, gJ_ne, gR_eq, gR_ne, if_true, if_false, ite_true, ite_false, not_true_eq_false, not_false_eq_true, decide_true, and_self, true_and, and_true, false_and, and_false, or_true, true_or, or_false, false_or, reduceIte, ne_eq]
  refine (Sat_some _ _).mpr ⟨fun i hi => ?_, ((((((((Kp.refl m).sI _ (by omega)).sI _ (by omega)).sI _ (by omega)).sI _ (by omega)).sI _ (by omega)).sI _ (by omega)).sI _ (by omega))⟩
  rcases (by omega : i = 0 ∨ i = 1 ∨ i = 2 ∨ i = 3 ∨ i = 4 ∨ i = 5 ∨ i = 6) with rfl | rfl | rfl | rfl | rfl | rfl | rfl
  all_goals
    simp (disch := omega) only [Nat.add_zero, bnd_e, grd_t, bdI_e, bdV_e, bokA, bokB, ni_inb, ni_cl, nI_add, pk_mul, li_2, li_3, li_4, li_5, li_6, li_7, li_8, li_9, li_10, li_11, li_12, li_13, li_14, li_15, li_16, li_17, li_18, li_19, li_20, li_21, li_22, li_23, li_24, li_25, li_26, li_27, li_28, li_29, li_30, li_31, li_32, li_33, li_34, li_35, li_36, li_37, li_38, li_39, li_40, li_41, li_42, li_43, li_44, li_45, li_46, li_47, li_48, li_49, li_50, li_51, li_52, li_53, li_54, li_55, li_56, li_57, li_58, li_59, li_60, li_61, li_63, li_70, li_96, li_97, li_99, li_100, li_101, li_102, li_120, li_122, li_126, li_200, li_255, li_423, li_555, li_999, li_1000, li_1111, li_2968, li_9999, li_10631, li_12345, li_14092, li_21470, li_65536, li_99233, nz_eq, n1_eq, n1_lt, n1_gt, n1_le, n1_ge, n1_sub, n1_add, nm_add, nz_add, nz_add2, z1_ne, z1_lt, z1_le, nI_1, pk_sub, nI_ltI, nI_leI, nI_eq, ni_neg, ni_nneg, ni_pos0, ni_nle0, ni_m1, gI_eq, gI_ne, xI_sJ, xI_sR, xR_sI, xR_sJ, xJ_sI, xJ_sR, gJ_eq, gJ_ne, gR_eq, gR_ne, if_true, if_false, ite_true, ite_false, not_true_eq_false, not_false_eq_true, decide_true, and_self, true_and, and_true, false_and, and_false, or_true, true_or, or_false, false_or, reduceIte, ne_eq]
    rfl
theorem LwEq.nil (l : Nat) : LwEq [] [] l := ⟨⟨fun _ => rfl, fun _ => rfl⟩, fun f g _ => (show evTop [] = evTop [] from Eq.refl _), fun h => absurd (Eq.refl ([] : List Int32)) h⟩
set_option maxRecDepth 20000 in
theorem iP : gR (im_11 (zr m00 0)) 0 2 = 4 ∧ gR (im_11 (zr m00 0)) 0 3 = 34 := ⟨rfl, rfl⟩
set_option maxRecDepth 20000 in
theorem iP2 : gI (im_11 (zr m00 0)) 4 6 = nI 0 ∧ gI (im_11 (zr m00 0)) 4 7 = nI 0 ∧ gI (im_11 (zr m00 0)) 4 8 = nI 5 ∧ gI (im_11 (zr m00 0)) 4 9 = nI 30 ∧ gI (im_11 (zr m00 0)) 4 10 = nI 0 ∧ gI (im_11 (zr m00 0)) 4 11 = nI 60 ∧ gI (im_11 (zr m00 0)) 4 12 = nI 60 := ⟨rfl, rfl, rfl, rfl, rfl, rfl, rfl⟩
set_option maxRecDepth 20000 in
theorem iP3 : gI (im_11 (zr m00 0)) 14 3 = nI 0 ∧ gI (im_11 (zr m00 0)) 17 3 = nI 0 ∧ FlP (im_11 (zr m00 0)) := ⟨rfl, rfl, rfl, rfl, rfl, rfl⟩
set_option maxRecDepth 20000 in
theorem iP4 : RowP 64 (frS uC) (im_11 (zr m00 0)) := ⟨rfl, rfl, rfl, rfl, rfl, fun k hk => by rw [frS_w]; rfl⟩
set_option maxRecDepth 20000 in
theorem iP5 : gI (im_11 (zr m00 0)) 1 1 = nI 0 ∧ gI (im_11 (zr m00 0)) 68 3 = nI 0 ∧ gI (im_11 (zr m00 0)) 76 2 = nI 0 ∧ gI (im_11 (zr m00 0)) 0 13 = nI 0 ∧ gI (im_11 (zr m00 0)) 0 14 = nI 0 ∧ gI (im_11 (zr m00 0)) 92 3 = 0 ∧ gI (im_11 (zr m00 0)) 102 3 = 0 ∧ gI (im_11 (zr m00 0)) 112 3 = 0 ∧ gI (im_11 (zr m00 0)) 122 3 = 0 := ⟨rfl, rfl, rfl, rfl, rfl, rfl, rfl, rfl, rfl⟩
theorem iM (a k : Nat) : gI (im_12 (zr m00 0)) a k = 0 := by
  unfold im_12
  simp only [gI_zr]
  have : ∀ x : Int32, x = 0 → ∀ (c : Prop) [Decidable c], (if c then (0 : Int32) else x) = 0 := fun x hx c _ => by rw [hx]; exact ite_self 0
  simp only [show gI m00 a k = 0 from rfl, ite_self]
theorem init_ok : InitOK Rel := by
  obtain ⟨mv0, e0, h1, h2⟩ := usualM (r := 0) (m := im_12 (zr m00 0)) (by decide)
  have cf : CfM uC mv0 := ⟨fun i hi => by
    have := h1 i hi
    rw [Nat.mul_zero, Nat.zero_add] at this
    exact this, fun t ht => absurd (show t < 0 from ht) (Nat.not_lt_zero t), fun p hp => absurd (show p < 0 from hp) (Nat.not_lt_zero p)⟩
  obtain ⟨mv1, e1, h3, h4⟩ := freshM cf
  refine ⟨mv0, mv1, e0, e1, uC, 4, frS uC, ?_⟩
  have z : ∀ a k, ¬ (a = 2 ∧ k < 7) → ¬ (a = 35 ∧ k < 17) → gI mv1 a k = 0 := fun a k n1 n2 => ((h4.1 a k n2).trans (h2.1 a k (by omega))).trans (iM a k)
  obtain ⟨p1, p2, p3, p4, p5, p6, p7⟩ := iP2
  obtain ⟨q1, q2, q3⟩ := iP3
  obtain ⟨r1, r2, r3, r4, r5, r6, r7, r8, r9⟩ := iP5
  have cf1 : CfM uC mv1 := cf.keep uC_ok (fun a k h => h4.1 a k (by omega))
  refine ⟨⟨Or.inl rfl, iP.1, iP.2⟩, ⟨uC_ok, ⟨p1, p2, p3, p4, p5, p6, p7, fun t ht => absurd (show t < 0 from ht) (Nat.not_lt_zero t), fun p hp => absurd (show p < 0 from hp) (Nat.not_lt_zero p)⟩, cf1, [], [], [], [], 0, 0, ⟨by decide, q1, fun i hi => absurd hi (Nat.not_lt_zero _)⟩, ⟨by decide, z 13 0 (by omega) (by omega), z 14 0 (by omega) (by omega), fun i hi => absurd hi (Nat.not_lt_zero _)⟩, LwEq.nil 0, ⟨by decide, q2, fun i hi => absurd hi (Nat.not_lt_zero _)⟩, ⟨by decide, z 13 1 (by omega) (by omega), z 14 1 (by omega) (by omega), fun i hi => absurd hi (Nat.not_lt_zero _)⟩, LwEq.nil 1⟩, ⟨frS_ok uC_ok, iP4, h3⟩, ⟨fun _ => 0, 0, ⟨by decide, fun i hi => absurd hi (Nat.not_lt_zero _)⟩, ⟨r1, fun i hi => absurd hi (Nat.not_lt_zero _)⟩, ⟨z 0 1 (by omega) (by omega), fun i hi => absurd hi (Nat.not_lt_zero _)⟩⟩, ⟨fun _ _ => 0, ⟨by decide, fun i hi => absurd hi (Nat.not_lt_zero _)⟩, ⟨r2, fun i hi => absurd hi (Nat.not_lt_zero _)⟩, ⟨z 28 0 (by omega) (by omega), fun i hi => absurd hi (Nat.not_lt_zero _)⟩⟩, ⟨fun _ _ => 0, ⟨by decide, fun i hi => absurd hi (Nat.not_lt_zero _)⟩, ⟨r3, fun i hi => absurd hi (Nat.not_lt_zero _)⟩, ⟨z 32 0 (by omega) (by omega), fun i hi => absurd hi (Nat.not_lt_zero _)⟩⟩, ⟨0, 0, by decide, by decide, r4, r5, z 0 55 (by omega) (by omega), fun i hi => absurd hi (Nat.not_lt_zero _)⟩, fun i hi => Or.inl ⟨?_, z 40 i (by omega) (by omega)⟩, q3, z 0 62 (by omega) (by omega)⟩
  rcases (by omega : i = 0 ∨ i = 1 ∨ i = 2 ∨ i = 3) with rfl | rfl | rfl | rfl
  · exact r6
  · exact r7
  · exact r8
  · exact r9
