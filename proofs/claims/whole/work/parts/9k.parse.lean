/-! the levels, one by one -/
theorem ej_12 (a b : Int32) : evJoin (-12) a b = if a ≠ 0 ∧ b ≠ 0 then 1 else 0 := by
  unfold evJoin
  rw [if_pos rfl]
theorem ej_13 (a b : Int32) : evJoin (-13) a b = if a ≠ 0 ∨ b ≠ 0 then 1 else 0 := by
  unfold evJoin
  rw [if_neg (show ¬ (-13 : Int32) = -12 by decide), if_pos rfl]
theorem ej_14 (a b : Int32) : evJoin (-14) a b = if a < b then 1 else 0 := by
  unfold evJoin
  rw [if_neg (show ¬ (-14 : Int32) = -12 by decide), if_neg (show ¬ (-14 : Int32) = -13 by decide), if_pos rfl]
theorem ej_15 (a b : Int32) : evJoin (-15) a b = if a = b then 1 else 0 := by
  unfold evJoin
  rw [if_neg (show ¬ (-15 : Int32) = -12 by decide), if_neg (show ¬ (-15 : Int32) = -13 by decide), if_neg (show ¬ (-15 : Int32) = -14 by decide), if_pos rfl]
theorem ej_16 (a b : Int32) : evJoin (-16) a b = a + b := by
  unfold evJoin
  rw [if_neg (show ¬ (-16 : Int32) = -12 by decide), if_neg (show ¬ (-16 : Int32) = -13 by decide), if_neg (show ¬ (-16 : Int32) = -14 by decide), if_neg (show ¬ (-16 : Int32) = -15 by decide), if_pos rfl]
theorem ej_17 (a b : Int32) : evJoin (-17) a b = a - b := by
  unfold evJoin
  rw [if_neg (show ¬ (-17 : Int32) = -12 by decide), if_neg (show ¬ (-17 : Int32) = -13 by decide), if_neg (show ¬ (-17 : Int32) = -14 by decide), if_neg (show ¬ (-17 : Int32) = -15 by decide), if_neg (show ¬ (-17 : Int32) = -16 by decide), if_pos rfl]
theorem ej_18 (a b : Int32) : evJoin (-18) a b = a * b := by
  unfold evJoin
  rw [if_neg (show ¬ (-18 : Int32) = -12 by decide), if_neg (show ¬ (-18 : Int32) = -13 by decide), if_neg (show ¬ (-18 : Int32) = -14 by decide), if_neg (show ¬ (-18 : Int32) = -15 by decide), if_neg (show ¬ (-18 : Int32) = -16 by decide), if_neg (show ¬ (-18 : Int32) = -17 by decide)]
theorem so_t {t : Nat} (s : Nat) (ht : t ≤ 102) (hs : s ≤ 102) (h : ¬ t = s) : ¬ nI t = nI s := fun q => h ((nI_eq (by omega) (by omega)).mp q)
theorem so3 {t : Nat} (ht : t ≤ 102) (m : Mm) : f_X5_stepOf (nI t) (nI 3) m = some (if t = 42 then -18 else 0, m) := by
  unfold f_X5_stepOf
  rw [if_neg (show ¬ nI 3 = 0 by decide), if_neg (show ¬ nI 3 = 1 by decide), if_neg (show ¬ nI 3 = 2 by decide)]
  by_cases z : t = 42
  · subst z
    rw [if_neg (show ¬ ¬ nI 42 = 42 from fun q => q rfl), if_pos rfl]
  · rw [if_pos (show ¬ nI t = 42 from so_t 42 ht (by decide) z), if_neg z]
theorem so2 {t : Nat} (ht : t ≤ 102) (m : Mm) : f_X5_stepOf (nI t) (nI 2) m = some (if t = 43 then -16 else if t = 45 then -17 else 0, m) := by
  unfold f_X5_stepOf
  rw [if_neg (show ¬ nI 2 = 0 by decide), if_neg (show ¬ nI 2 = 1 by decide), if_pos (show nI 2 = 2 from rfl)]
  by_cases z : t = 43
  · subst z
    rw [if_neg (show ¬ ¬ nI 43 = 43 from fun q => q rfl), if_pos rfl]
  · rw [if_pos (show ¬ nI t = 43 from so_t 43 ht (by decide) z), if_neg z]
    by_cases y : t = 45
    · subst y
      rw [if_neg (show ¬ ¬ nI 45 = 45 from fun q => q rfl), if_pos rfl]
    · rw [if_pos (show ¬ nI t = 45 from so_t 45 ht (by decide) y), if_neg y]
theorem so1 {t : Nat} (ht : t ≤ 102) (m : Mm) : f_X5_stepOf (nI t) (nI 1) m = some (if t = 60 then -14 else if t = 61 then -15 else 0, m) := by
  unfold f_X5_stepOf
  rw [if_neg (show ¬ nI 1 = 0 by decide), if_pos (show nI 1 = 1 from rfl)]
  by_cases z : t = 60
  · subst z
    rw [if_neg (show ¬ ¬ nI 60 = 60 from fun q => q rfl), if_pos rfl]
  · rw [if_pos (show ¬ nI t = 60 from so_t 60 ht (by decide) z), if_neg z]
    by_cases y : t = 61
    · subst y
      rw [if_neg (show ¬ ¬ nI 61 = 61 from fun q => q rfl), if_pos rfl]
    · rw [if_pos (show ¬ nI t = 61 from so_t 61 ht (by decide) y), if_neg y]
theorem so0 {t : Nat} (ht : t ≤ 102) (m : Mm) : f_X5_stepOf (nI t) (nI 0) m = some (if t = 21 then -12 else if t = 22 then -13 else 0, m) := by
  unfold f_X5_stepOf
  rw [if_pos (show nI 0 = 0 from rfl)]
  by_cases z : t = 21
  · subst z
    rw [if_neg (show ¬ ¬ nI 21 = 21 from fun q => q rfl), if_pos rfl]
  · rw [if_pos (show ¬ nI t = 21 from so_t 21 ht (by decide) z), if_neg z]
    by_cases y : t = 22
    · subst y
      rw [if_neg (show ¬ ¬ nI 22 = 22 from fun q => q rfl), if_pos rfl]
    · rw [if_pos (show ¬ nI t = 22 from so_t 22 ht (by decide) y), if_neg y]
def E3 (T : Nat → Nat) (d : Tk) : Prop := isG T d 42 = false
def E2 (T : Nat → Nat) (d : Tk) : Prop := isG T d 42 = false ∧ isG T d 43 = false ∧ isG T d 45 = false
def E1 (T : Nat → Nat) (δ : Nat) (d : Tk) (m : Mm) : Prop := E2 T d ∧ ((isG T d 60 = false ∧ isG T d 61 = false) ∨ ¬ gI m 17 δ = 0)
def E0 (T : Nat → Nat) (δ : Nat) (d : Tk) (m : Mm) : Prop := E1 T δ d m ∧ isW d 21 = false ∧ isW d 22 = false
theorem oprA {T : Nat → Nat} {n l p δ e L y : Nat} {x : Int32} {d : Tk} {m : Mm} (hT : TpOK T n) (h : LwS T n l p d m) (hδ : δ < 7) (hL : 2 ≤ L) (hK : tkK d = 3) (hc : (T (tkb d) = 43 ∧ y = 20) ∨ (T (tkb d) = 45 ∧ y = 21) ∨ (T (tkb d) = 42 ∧ y = 22)) (hs : ∀ mP, f_X5_stepOf (nI (ctk T d)) (nI L) mP = some (x, mP)) (hx : ¬ x = 0 ∧ ¬ 0 ≤ x ∧ ¬ -11 < x ∧ ¬ x = -11) : Opr T n δ e L x y d p m := by
  obtain ⟨m', e1, r1, r2⟩ := mOp hT h hδ hK hc
  refine ⟨hs, hx.1, hx.2, by omega, by omega, by omega, sI (sI m 15 p (nI y)) 0 24 (nI (p + 1)), m', e1, r1, r2, fun k => ?_, by simp (disch := omega) only [bnd_e, grd_t, bdI_e, bdV_e, bokA, bokB, ni_inb, ni_cl, nI_add, pk_mul, li_2, li_3, li_4, li_5, li_6, li_7, li_8, li_9, li_10, li_11, li_12, li_13, li_14, li_15, li_16, li_17, li_18, li_19, li_20, li_21, li_22, li_23, li_24, li_25, li_26, li_27, li_28, li_29, li_30, li_31, li_32, li_33, li_34, li_35, li_36, li_37, li_38, li_39, li_40, li_41, li_42, li_43, li_44, li_45, li_46, li_47, li_48, li_49, li_50, li_51, li_52, li_53, li_54, li_55, li_56, li_57, li_58, li_59, li_60, li_61, li_63, li_70, li_96, li_97, li_99, li_100, li_101, li_102, li_120, li_122, li_126, li_200, li_255, li_423, li_555, li_999, li_1000, li_1111, li_2968, li_9999, li_10631, li_12345, li_14092, li_21470, li_65536, li_99233, nz_eq, n1_eq, n1_lt, n1_gt, n1_le, n1_ge, n1_sub, n1_add, nm_add, nz_add, nz_add2, z1_ne, z1_lt, z1_le, nI_1, pk_sub, nI_ltI, nI_leI, nI_eq, ni_neg, ni_nneg, ni_pos0, ni_nle0, ni_m1, gI_eq, gI_ne, xI_sJ, xI_sR, xR_sI, xR_sJ, xJ_sI, xJ_sR, gJ_eq, gJ_ne, gR_eq, gR_ne, if_true, if_false, ite_true, ite_false, not_true_eq_false, not_false_eq_true, decide_true, and_self, true_and, and_true, false_and, and_false, or_true, true_or, or_false, false_or, reduceIte, ne_eq], by simp (disch := omega) only [bnd_e, grd_t, bdI_e, bdV_e, bokA, bokB, ni_inb, ni_cl, nI_add, pk_mul, li_2, li_3, li_4, li_5, li_6, li_7, li_8, li_9, li_10, li_11, li_12, li_13, li_14, li_15, li_16, li_17, li_18, li_19, li_20, li_21, li_22, li_23, li_24, li_25, li_26, li_27, li_28, li_29, li_30, li_31, li_32, li_33, li_34, li_35, li_36, li_37, li_38, li_39, li_40, li_41, li_42, li_43, li_44, li_45, li_46, li_47, li_48, li_49, li_50, li_51, li_52, li_53, li_54, li_55, li_56, li_57, li_58, li_59, li_60, li_61, li_63, li_70, li_96, li_97, li_99, li_100, li_101, li_102, li_120, li_122, li_126, li_200, li_255, li_423, li_555, li_999, li_1000, li_1111, li_2968, li_9999, li_10631, li_12345, li_14092, li_21470, li_65536, li_99233, nz_eq, n1_eq, n1_lt, n1_gt, n1_le, n1_ge, n1_sub, n1_add, nm_add, nz_add, nz_add2, z1_ne, z1_lt, z1_le, nI_1, pk_sub, nI_ltI, nI_leI, nI_eq, ni_neg, ni_nneg, ni_pos0, ni_nle0, ni_m1, gI_eq, gI_ne, xI_sJ, xI_sR, xR_sI, xR_sJ, xJ_sI, xJ_sR, gJ_eq, gJ_ne, gR_eq, gR_ne, if_true, if_false, ite_true, ite_false, not_true_eq_false, not_false_eq_true, decide_true, and_self, true_and, and_true, false_and, and_false, or_true, true_or, or_false, false_or, reduceIte, ne_eq], fun q => absurd q (by omega), fun q => absurd q (by omega), ((Kp.refl m).sI _ (by unfold WMl; omega)).sI _ (by unfold WMl; omega)⟩
  by_cases z : k = p
  · subst z; simp (disch := omega) only [bnd_e, grd_t, bdI_e, bdV_e, bokA, bokB, ni_inb, ni_cl, nI_add, pk_mul, li_2, li_3, li_4, li_5, li_6, li_7, li_8, li_9, li_10, li_11, li_12, li_13, li_14, li_15, li_16, li_17, li_18, li_19, li_20, li_21, li_22, li_23, li_24, li_25, li_26, li_27, li_28, li_29, li_30, li_31, li_32, li_33, li_34, li_35, li_36, li_37, li_38, li_39, li_40, li_41, li_42, li_43, li_44, li_45, li_46, li_47, li_48, li_49, li_50, li_51, li_52, li_53, li_54, li_55, li_56, li_57, li_58, li_59, li_60, li_61, li_63, li_70, li_96, li_97, li_99, li_100, li_101, li_102, li_120, li_122, li_126, li_200, li_255, li_423, li_555, li_999, li_1000, li_1111, li_2968, li_9999, li_10631, li_12345, li_14092, li_21470, li_65536, li_99233, nz_eq, n1_eq, n1_lt, n1_gt, n1_le, n1_ge, n1_sub, n1_add, nm_add, nz_add, nz_add2, z1_ne, z1_lt, z1_le, nI_1, pk_sub, nI_ltI, nI_leI, nI_eq, ni_neg, ni_nneg, ni_pos0, ni_nle0, ni_m1, gI_eq, gI_ne, xI_sJ, xI_sR, xR_sI, xR_sJ, xJ_sI, xJ_sR, gJ_eq, gJ_ne, gR_eq, gR_ne, if_true, if_false, ite_true, ite_false, not_true_eq_false, not_false_eq_true, decide_true, and_self, true_and, and_true, false_and, and_false, or_true, true_or, or_false, false_or, reduceIte, ne_eq]
  · simp (disch := omega) only [z, bnd_e, grd_t, bdI_e, bdV_e, bokA, bokB, ni_inb, ni_cl, nI_add, pk_mul, li_2, li_3, li_4, li_5, li_6, li_7, li_8, li_9, li_10, li_11, li_12, li_13, li_14, li_15, li_16, li_17, li_18, li_19, li_20, li_21, li_22, li_23, li_24, li_25, li_26, li_27, li_28, li_29, li_30, li_31, li_32, li_33, li_34, li_35, li_36, li_37, li_38, li_39, li_40, li_41, li_42, li_43, li_44, li_45, li_46, li_47, li_48, li_49, li_50, li_51, li_52, li_53, li_54, li_55, li_56, li_57, li_58, li_59, li_60, li_61, li_63, li_70, li_96, li_97, li_99, li_100, li_101, li_102, li_120, li_122, li_126, li_200, li_255, li_423, li_555, li_999, li_1000, li_1111, li_2968, li_9999, li_10631, li_12345, li_14092, li_21470, li_65536, li_99233, nz_eq, n1_eq, n1_lt, n1_gt, n1_le, n1_ge, n1_sub, n1_add, nm_add, nz_add, nz_add2, z1_ne, z1_lt, z1_le, nI_1, pk_sub, nI_ltI, nI_leI, nI_eq, ni_neg, ni_nneg, ni_pos0, ni_nle0, ni_m1, gI_eq, gI_ne, xI_sJ, xI_sR, xR_sI, xR_sJ, xJ_sI, xJ_sR, gJ_eq, gJ_ne, gR_eq, gR_ne, if_true, if_false, ite_true, ite_false, not_true_eq_false, not_false_eq_true, decide_true, and_self, true_and, and_true, false_and, and_false, or_true, true_or, or_false, false_or, reduceIte, ne_eq]
theorem oprC {T : Nat → Nat} {n l p δ y : Nat} {x : Int32} {d : Tk} {m : Mm} (hT : TpOK T n) (h : LwS T n l p d m) (hδ : δ < 7) (hK : tkK d = 3) (h17 : gI m 17 δ = 0) (hc : (T (tkb d) = 60 ∧ y = 24) ∨ (T (tkb d) = 61 ∧ y = 25)) (hs : ∀ mP, f_X5_stepOf (nI (ctk T d)) (nI 1) mP = some (x, mP)) (hx : ¬ x = 0 ∧ ¬ 0 ≤ x ∧ ¬ -11 < x ∧ ¬ x = -11) : Opr T n δ δ 1 x y d p m := by
  obtain ⟨m', e1, r1, r2⟩ := mCmp hT h hδ hK h17 hc
  refine ⟨hs, hx.1, hx.2, by omega, by omega, by omega, sI (sI (sI m 15 p (nI y)) 0 24 (nI (p + 1))) 17 δ 1, m', e1, r1, r2, fun k => ?_, by simp (disch := omega) only [bnd_e, grd_t, bdI_e, bdV_e, bokA, bokB, ni_inb, ni_cl, nI_add, pk_mul, li_2, li_3, li_4, li_5, li_6, li_7, li_8, li_9, li_10, li_11, li_12, li_13, li_14, li_15, li_16, li_17, li_18, li_19, li_20, li_21, li_22, li_23, li_24, li_25, li_26, li_27, li_28, li_29, li_30, li_31, li_32, li_33, li_34, li_35, li_36, li_37, li_38, li_39, li_40, li_41, li_42, li_43, li_44, li_45, li_46, li_47, li_48, li_49, li_50, li_51, li_52, li_53, li_54, li_55, li_56, li_57, li_58, li_59, li_60, li_61, li_63, li_70, li_96, li_97, li_99, li_100, li_101, li_102, li_120, li_122, li_126, li_200, li_255, li_423, li_555, li_999, li_1000, li_1111, li_2968, li_9999, li_10631, li_12345, li_14092, li_21470, li_65536, li_99233, nz_eq, n1_eq, n1_lt, n1_gt, n1_le, n1_ge, n1_sub, n1_add, nm_add, nz_add, nz_add2, z1_ne, z1_lt, z1_le, nI_1, pk_sub, nI_ltI, nI_leI, nI_eq, ni_neg, ni_nneg, ni_pos0, ni_nle0, ni_m1, gI_eq, gI_ne, xI_sJ, xI_sR, xR_sI, xR_sJ, xJ_sI, xJ_sR, gJ_eq, gJ_ne, gR_eq, gR_ne, if_true, if_false, ite_true, ite_false, not_true_eq_false, not_false_eq_true, decide_true, and_self, true_and, and_true, false_and, and_false, or_true, true_or, or_false, false_or, reduceIte, ne_eq], by simp (disch := omega) only [bnd_e, grd_t, bdI_e, bdV_e, bokA, bokB, ni_inb, ni_cl, nI_add, pk_mul, li_2, li_3, li_4, li_5, li_6, li_7, li_8, li_9, li_10, li_11, li_12, li_13, li_14, li_15, li_16, li_17, li_18, li_19, li_20, li_21, li_22, li_23, li_24, li_25, li_26, li_27, li_28, li_29, li_30, li_31, li_32, li_33, li_34, li_35, li_36, li_37, li_38, li_39, li_40, li_41, li_42, li_43, li_44, li_45, li_46, li_47, li_48, li_49, li_50, li_51, li_52, li_53, li_54, li_55, li_56, li_57, li_58, li_59, li_60, li_61, li_63, li_70, li_96, li_97, li_99, li_100, li_101, li_102, li_120, li_122, li_126, li_200, li_255, li_423, li_555, li_999, li_1000, li_1111, li_2968, li_9999, li_10631, li_12345, li_14092, li_21470, li_65536, li_99233, nz_eq, n1_eq, n1_lt, n1_gt, n1_le, n1_ge, n1_sub, n1_add, nm_add, nz_add, nz_add2, z1_ne, z1_lt, z1_le, nI_1, pk_sub, nI_ltI, nI_leI, nI_eq, ni_neg, ni_nneg, ni_pos0, ni_nle0, ni_m1, gI_eq, gI_ne, xI_sJ, xI_sR, xR_sI, xR_sJ, xJ_sI, xJ_sR, gJ_eq, gJ_ne, gR_eq, gR_ne, if_true, if_false, ite_true, ite_false, not_true_eq_false, not_false_eq_true, decide_true, and_self, true_and, and_true, false_and, and_false, or_true, true_or, or_false, false_or, reduceIte, ne_eq], fun q => absurd q (by omega), fun _ => by simp (disch := omega) only [bnd_e, grd_t, bdI_e, bdV_e, bokA, bokB, ni_inb, ni_cl, nI_add, pk_mul, li_2, li_3, li_4, li_5, li_6, li_7, li_8, li_9, li_10, li_11, li_12, li_13, li_14, li_15, li_16, li_17, li_18, li_19, li_20, li_21, li_22, li_23, li_24, li_25, li_26, li_27, li_28, li_29, li_30, li_31, li_32, li_33, li_34, li_35, li_36, li_37, li_38, li_39, li_40, li_41, li_42, li_43, li_44, li_45, li_46, li_47, li_48, li_49, li_50, li_51, li_52, li_53, li_54, li_55, li_56, li_57, li_58, li_59, li_60, li_61, li_63, li_70, li_96, li_97, li_99, li_100, li_101, li_102, li_120, li_122, li_126, li_200, li_255, li_423, li_555, li_999, li_1000, li_1111, li_2968, li_9999, li_10631, li_12345, li_14092, li_21470, li_65536, li_99233, nz_eq, n1_eq, n1_lt, n1_gt, n1_le, n1_ge, n1_sub, n1_add, nm_add, nz_add, nz_add2, z1_ne, z1_lt, z1_le, nI_1, pk_sub, nI_ltI, nI_leI, nI_eq, ni_neg, ni_nneg, ni_pos0, ni_nle0, ni_m1, gI_eq, gI_ne, xI_sJ, xI_sR, xR_sI, xR_sJ, xJ_sI, xJ_sR, gJ_eq, gJ_ne, gR_eq, gR_ne, if_true, if_false, ite_true, ite_false, not_true_eq_false, not_false_eq_true, decide_true, and_self, true_and, and_true, false_and, and_false, or_true, true_or, or_false, false_or, reduceIte, ne_eq], (((Kp.refl m).sI _ (by unfold WMl; omega)).sI _ (by unfold WMl; omega)).sI _ (by unfold WMl; omega)⟩
  by_cases z : k = p
  · subst z; simp (disch := omega) only [bnd_e, grd_t, bdI_e, bdV_e, bokA, bokB, ni_inb, ni_cl, nI_add, pk_mul, li_2, li_3, li_4, li_5, li_6, li_7, li_8, li_9, li_10, li_11, li_12, li_13, li_14, li_15, li_16, li_17, li_18, li_19, li_20, li_21, li_22, li_23, li_24, li_25, li_26, li_27, li_28, li_29, li_30, li_31, li_32, li_33, li_34, li_35, li_36, li_37, li_38, li_39, li_40, li_41, li_42, li_43, li_44, li_45, li_46, li_47, li_48, li_49, li_50, li_51, li_52, li_53, li_54, li_55, li_56, li_57, li_58, li_59, li_60, li_61, li_63, li_70, li_96, li_97, li_99, li_100, li_101, li_102, li_120, li_122, li_126, li_200, li_255, li_423, li_555, li_999, li_1000, li_1111, li_2968, li_9999, li_10631, li_12345, li_14092, li_21470, li_65536, li_99233, nz_eq, n1_eq, n1_lt, n1_gt, n1_le, n1_ge, n1_sub, n1_add, nm_add, nz_add, nz_add2, z1_ne, z1_lt, z1_le, nI_1, pk_sub, nI_ltI, nI_leI, nI_eq, ni_neg, ni_nneg, ni_pos0, ni_nle0, ni_m1, gI_eq, gI_ne, xI_sJ, xI_sR, xR_sI, xR_sJ, xJ_sI, xJ_sR, gJ_eq, gJ_ne, gR_eq, gR_ne, if_true, if_false, ite_true, ite_false, not_true_eq_false, not_false_eq_true, decide_true, and_self, true_and, and_true, false_and, and_false, or_true, true_or, or_false, false_or, reduceIte, ne_eq]
  · simp (disch := omega) only [z, bnd_e, grd_t, bdI_e, bdV_e, bokA, bokB, ni_inb, ni_cl, nI_add, pk_mul, li_2, li_3, li_4, li_5, li_6, li_7, li_8, li_9, li_10, li_11, li_12, li_13, li_14, li_15, li_16, li_17, li_18, li_19, li_20, li_21, li_22, li_23, li_24, li_25, li_26, li_27, li_28, li_29, li_30, li_31, li_32, li_33, li_34, li_35, li_36, li_37, li_38, li_39, li_40, li_41, li_42, li_43, li_44, li_45, li_46, li_47, li_48, li_49, li_50, li_51, li_52, li_53, li_54, li_55, li_56, li_57, li_58, li_59, li_60, li_61, li_63, li_70, li_96, li_97, li_99, li_100, li_101, li_102, li_120, li_122, li_126, li_200, li_255, li_423, li_555, li_999, li_1000, li_1111, li_2968, li_9999, li_10631, li_12345, li_14092, li_21470, li_65536, li_99233, nz_eq, n1_eq, n1_lt, n1_gt, n1_le, n1_ge, n1_sub, n1_add, nm_add, nz_add, nz_add2, z1_ne, z1_lt, z1_le, nI_1, pk_sub, nI_ltI, nI_leI, nI_eq, ni_neg, ni_nneg, ni_pos0, ni_nle0, ni_m1, gI_eq, gI_ne, xI_sJ, xI_sR, xR_sI, xR_sJ, xJ_sI, xJ_sR, gJ_eq, gJ_ne, gR_eq, gR_ne, if_true, if_false, ite_true, ite_false, not_true_eq_false, not_false_eq_true, decide_true, and_self, true_and, and_true, false_and, and_false, or_true, true_or, or_false, false_or, reduceIte, ne_eq]
theorem oprL {T : Nat → Nat} {n l p δ y : Nat} {x : Int32} {d : Tk} {m : Mm} (hT : TpOK T n) (h : LwS T n l p d m) (hδ : δ < 7) (hK : tkK d = 1) (hc : (wid (tkR d) = 21 ∧ y = 26) ∨ (wid (tkR d) = 22 ∧ y = 27)) (hs : ∀ mP, f_X5_stepOf (nI (ctk T d)) (nI 0) mP = some (x, mP)) (hx : ¬ x = 0 ∧ ¬ 0 ≤ x ∧ ¬ -11 < x ∧ ¬ x = -11) : Opr T n δ δ 0 x y d p m := by
  obtain ⟨m', e1, r1, r2⟩ := mLog hT h hδ hK hc
  refine ⟨hs, hx.1, hx.2, by omega, by omega, by omega, sI (sI (sI m 15 p (nI y)) 0 24 (nI (p + 1))) 17 δ 0, m', e1, r1, r2, fun k => ?_, by simp (disch := omega) only [bnd_e, grd_t, bdI_e, bdV_e, bokA, bokB, ni_inb, ni_cl, nI_add, pk_mul, li_2, li_3, li_4, li_5, li_6, li_7, li_8, li_9, li_10, li_11, li_12, li_13, li_14, li_15, li_16, li_17, li_18, li_19, li_20, li_21, li_22, li_23, li_24, li_25, li_26, li_27, li_28, li_29, li_30, li_31, li_32, li_33, li_34, li_35, li_36, li_37, li_38, li_39, li_40, li_41, li_42, li_43, li_44, li_45, li_46, li_47, li_48, li_49, li_50, li_51, li_52, li_53, li_54, li_55, li_56, li_57, li_58, li_59, li_60, li_61, li_63, li_70, li_96, li_97, li_99, li_100, li_101, li_102, li_120, li_122, li_126, li_200, li_255, li_423, li_555, li_999, li_1000, li_1111, li_2968, li_9999, li_10631, li_12345, li_14092, li_21470, li_65536, li_99233, nz_eq, n1_eq, n1_lt, n1_gt, n1_le, n1_ge, n1_sub, n1_add, nm_add, nz_add, nz_add2, z1_ne, z1_lt, z1_le, nI_1, pk_sub, nI_ltI, nI_leI, nI_eq, ni_neg, ni_nneg, ni_pos0, ni_nle0, ni_m1, gI_eq, gI_ne, xI_sJ, xI_sR, xR_sI, xR_sJ, xJ_sI, xJ_sR, gJ_eq, gJ_ne, gR_eq, gR_ne, if_true, if_false, ite_true, ite_false, not_true_eq_false, not_false_eq_true, decide_true, and_self, true_and, and_true, false_and, and_false, or_true, true_or, or_false, false_or, reduceIte, ne_eq], by simp (disch := omega) only [bnd_e, grd_t, bdI_e, bdV_e, bokA, bokB, ni_inb, ni_cl, nI_add, pk_mul, li_2, li_3, li_4, li_5, li_6, li_7, li_8, li_9, li_10, li_11, li_12, li_13, li_14, li_15, li_16, li_17, li_18, li_19, li_20, li_21, li_22, li_23, li_24, li_25, li_26, li_27, li_28, li_29, li_30, li_31, li_32, li_33, li_34, li_35, li_36, li_37, li_38, li_39, li_40, li_41, li_42, li_43, li_44, li_45, li_46, li_47, li_48, li_49, li_50, li_51, li_52, li_53, li_54, li_55, li_56, li_57, li_58, li_59, li_60, li_61, li_63, li_70, li_96, li_97, li_99, li_100, li_101, li_102, li_120, li_122, li_126, li_200, li_255, li_423, li_555, li_999, li_1000, li_1111, li_2968, li_9999, li_10631, li_12345, li_14092, li_21470, li_65536, li_99233, nz_eq, n1_eq, n1_lt, n1_gt, n1_le, n1_ge, n1_sub, n1_add, nm_add, nz_add, nz_add2, z1_ne, z1_lt, z1_le, nI_1, pk_sub, nI_ltI, nI_leI, nI_eq, ni_neg, ni_nneg, ni_pos0, ni_nle0, ni_m1, gI_eq, gI_ne, xI_sJ, xI_sR, xR_sI, xR_sJ, xJ_sI, xJ_sR, gJ_eq, gJ_ne, gR_eq, gR_ne, if_true, if_false, ite_true, ite_false, not_true_eq_false, not_false_eq_true, decide_true, and_self, true_and, and_true, false_and, and_false, or_true, true_or, or_false, false_or, reduceIte, ne_eq], fun _ => by simp (disch := omega) only [bnd_e, grd_t, bdI_e, bdV_e, bokA, bokB, ni_inb, ni_cl, nI_add, pk_mul, li_2, li_3, li_4, li_5, li_6, li_7, li_8, li_9, li_10, li_11, li_12, li_13, li_14, li_15, li_16, li_17, li_18, li_19, li_20, li_21, li_22, li_23, li_24, li_25, li_26, li_27, li_28, li_29, li_30, li_31, li_32, li_33, li_34, li_35, li_36, li_37, li_38, li_39, li_40, li_41, li_42, li_43, li_44, li_45, li_46, li_47, li_48, li_49, li_50, li_51, li_52, li_53, li_54, li_55, li_56, li_57, li_58, li_59, li_60, li_61, li_63, li_70, li_96, li_97, li_99, li_100, li_101, li_102, li_120, li_122, li_126, li_200, li_255, li_423, li_555, li_999, li_1000, li_1111, li_2968, li_9999, li_10631, li_12345, li_14092, li_21470, li_65536, li_99233, nz_eq, n1_eq, n1_lt, n1_gt, n1_le, n1_ge, n1_sub, n1_add, nm_add, nz_add, nz_add2, z1_ne, z1_lt, z1_le, nI_1, pk_sub, nI_ltI, nI_leI, nI_eq, ni_neg, ni_nneg, ni_pos0, ni_nle0, ni_m1, gI_eq, gI_ne, xI_sJ, xI_sR, xR_sI, xR_sJ, xJ_sI, xJ_sR, gJ_eq, gJ_ne, gR_eq, gR_ne, if_true, if_false, ite_true, ite_false, not_true_eq_false, not_false_eq_true, decide_true, and_self, true_and, and_true, false_and, and_false, or_true, true_or, or_false, false_or, reduceIte, ne_eq], fun q => absurd q (by omega), (((Kp.refl m).sI _ (by unfold WMl; omega)).sI _ (by unfold WMl; omega)).sI _ (by unfold WMl; omega)⟩
  by_cases z : k = p
  · subst z; simp (disch := omega) only [bnd_e, grd_t, bdI_e, bdV_e, bokA, bokB, ni_inb, ni_cl, nI_add, pk_mul, li_2, li_3, li_4, li_5, li_6, li_7, li_8, li_9, li_10, li_11, li_12, li_13, li_14, li_15, li_16, li_17, li_18, li_19, li_20, li_21, li_22, li_23, li_24, li_25, li_26, li_27, li_28, li_29, li_30, li_31, li_32, li_33, li_34, li_35, li_36, li_37, li_38, li_39, li_40, li_41, li_42, li_43, li_44, li_45, li_46, li_47, li_48, li_49, li_50, li_51, li_52, li_53, li_54, li_55, li_56, li_57, li_58, li_59, li_60, li_61, li_63, li_70, li_96, li_97, li_99, li_100, li_101, li_102, li_120, li_122, li_126, li_200, li_255, li_423, li_555, li_999, li_1000, li_1111, li_2968, li_9999, li_10631, li_12345, li_14092, li_21470, li_65536, li_99233, nz_eq, n1_eq, n1_lt, n1_gt, n1_le, n1_ge, n1_sub, n1_add, nm_add, nz_add, nz_add2, z1_ne, z1_lt, z1_le, nI_1, pk_sub, nI_ltI, nI_leI, nI_eq, ni_neg, ni_nneg, ni_pos0, ni_nle0, ni_m1, gI_eq, gI_ne, xI_sJ, xI_sR, xR_sI, xR_sJ, xJ_sI, xJ_sR, gJ_eq, gJ_ne, gR_eq, gR_ne, if_true, if_false, ite_true, ite_false, not_true_eq_false, not_false_eq_true, decide_true, and_self, true_and, and_true, false_and, and_false, or_true, true_or, or_false, false_or, reduceIte, ne_eq]
  · simp (disch := omega) only [z, bnd_e, grd_t, bdI_e, bdV_e, bokA, bokB, ni_inb, ni_cl, nI_add, pk_mul, li_2, li_3, li_4, li_5, li_6, li_7, li_8, li_9, li_10, li_11, li_12, li_13, li_14, li_15, li_16, li_17, li_18, li_19, li_20, li_21, li_22, li_23, li_24, li_25, li_26, li_27, li_28, li_29, li_30, li_31, li_32, li_33, li_34, li_35, li_36, li_37, li_38, li_39, li_40, li_41, li_42, li_43, li_44, li_45, li_46, li_47, li_48, li_49, li_50, li_51, li_52, li_53, li_54, li_55, li_56, li_57, li_58, li_59, li_60, li_61, li_63, li_70, li_96, li_97, li_99, li_100, li_101, li_102, li_120, li_122, li_126, li_200, li_255, li_423, li_555, li_999, li_1000, li_1111, li_2968, li_9999, li_10631, li_12345, li_14092, li_21470, li_65536, li_99233, nz_eq, n1_eq, n1_lt, n1_gt, n1_le, n1_ge, n1_sub, n1_add, nm_add, nz_add, nz_add2, z1_ne, z1_lt, z1_le, nI_1, pk_sub, nI_ltI, nI_leI, nI_eq, ni_neg, ni_nneg, ni_pos0, ni_nle0, ni_m1, gI_eq, gI_ne, xI_sJ, xI_sR, xR_sI, xR_sJ, xJ_sI, xJ_sR, gJ_eq, gJ_ne, gR_eq, gR_ne, if_true, if_false, ite_true, ite_false, not_true_eq_false, not_false_eq_true, decide_true, and_self, true_and, and_true, false_and, and_false, or_true, true_or, or_false, false_or, reduceIte, ne_eq]
theorem sgT {T : Nat → Nat} {d : Tk} {s : Nat} (hs : s ∈ sgs) : ctk T d = s ↔ isG T d s = true := (ctk_s hs).trans ⟨fun q => decide_eq_true q, fun q => of_decide_eq_true q⟩
def M3 (δ : Nat) (g : List Nat) (v : (Nat → Int32) → Int32) : Prop := Mpr g v ∧ Spr g (5 - δ)
def M2 (δ : Nat) (g : List Nat) (v : (Nat → Int32) → Int32) : Prop := Msu g v ∧ Ssu g (5 - δ)
def M1 (δ : Nat) (g : List Nat) (v : (Nat → Int32) → Int32) : Prop := Mte g v ∧ Ste g (5 - δ)
def M0 (δ : Nat) (g : List Nat) (v : (Nat → Int32) → Int32) : Prop := Mlo g v ∧ Sex g (5 - δ)
def M4 (δ : Nat) (g : List Nat) (v : (Nat → Int32) → Int32) : Prop := Mpt g v ∧ Spt g (5 - δ)
theorem hst3 {T : Nat → Nat} {n l b δ e : Nat} (hT : TpOK T n) (hδ : δ < 7) : ∀ cb d c g mP mM, PJ T n l b cb d c g mP mM → True → ((∀ mP, f_X5_stepOf (nI (ctk T d)) (nI 3) mP = some (0, mP)) ∧ E3 T d) ∨ ∃ x y, Opr T n δ e 3 x y d (cb + g.length) mM ∧ ∀ gM v gM' w, M3 δ gM v → M4 δ gM' w → M3 δ (gM ++ y :: gM') (fun f => evJoin x (v f) (w f)) := by
  intro cb d c g mP mM hJ _
  have kb := ctk_b hJ.1.1
  by_cases z : isG T d 42 = true
  · have q := of_decide_eq_true z
    have c1 : ctk T d = 42 := (sgT (by decide)).mpr z
    refine Or.inr ⟨-18, 22, oprA hT hJ.2.1 hδ (by decide) q.1 (Or.inr (Or.inr ⟨q.2, rfl⟩)) (fun m => by rw [so3 kb, if_pos c1]) (by decide), fun gM v gM' w h h' => ⟨?_, Spr.mul h.1 h.2 h'.2⟩⟩
    simp only [ej_18]
    exact h.1.mul h'.1
  · exact Or.inl ⟨fun m => by rw [so3 kb, if_neg (fun c1 => z ((sgT (by decide)).mp c1))], Bool.eq_false_iff.mpr z⟩
theorem hst2 {T : Nat → Nat} {n l b δ e : Nat} (hT : TpOK T n) (hδ : δ < 7) : ∀ cb d c g mP mM, PJ T n l b cb d c g mP mM → E3 T d → ((∀ mP, f_X5_stepOf (nI (ctk T d)) (nI 2) mP = some (0, mP)) ∧ E2 T d) ∨ ∃ x y, Opr T n δ e 2 x y d (cb + g.length) mM ∧ ∀ gM v gM' w, M2 δ gM v → M3 δ gM' w → M2 δ (gM ++ y :: gM') (fun f => evJoin x (v f) (w f)) := by
  intro cb d c g mP mM hJ hE
  have kb := ctk_b hJ.1.1
  by_cases z : isG T d 43 = true
  · have q := of_decide_eq_true z
    have c1 : ctk T d = 43 := (sgT (by decide)).mpr z
    refine Or.inr ⟨-16, 20, oprA hT hJ.2.1 hδ (by decide) q.1 (Or.inl ⟨q.2, rfl⟩) (fun m => by rw [so2 kb, if_pos c1]) (by decide), fun gM v gM' w h h' => ⟨?_, Ssu.two (Or.inl rfl) h.1 h.2 h'.2⟩⟩
    simp only [ej_16]
    exact Msu.two (Or.inl rfl) h.1 h'.1
  · have n1 : ¬ ctk T d = 43 := fun c1 => z ((sgT (by decide)).mp c1)
    by_cases y : isG T d 45 = true
    · have q := of_decide_eq_true y
      have c1 : ctk T d = 45 := (sgT (by decide)).mpr y
      refine Or.inr ⟨-17, 21, oprA hT hJ.2.1 hδ (by decide) q.1 (Or.inr (Or.inl ⟨q.2, rfl⟩)) (fun m => by rw [so2 kb, if_neg n1, if_pos c1]) (by decide), fun gM v gM' w h h' => ⟨?_, Ssu.two (Or.inr rfl) h.1 h.2 h'.2⟩⟩
      simp only [ej_17]
      exact Msu.two (Or.inr rfl) h.1 h'.1
    · have n2 : ¬ ctk T d = 45 := fun c1 => y ((sgT (by decide)).mp c1)
      exact Or.inl ⟨fun m => by rw [so2 kb, if_neg n1, if_neg n2], hE, Bool.eq_false_iff.mpr z, Bool.eq_false_iff.mpr y⟩
theorem hst0 {T : Nat → Nat} {n l b δ : Nat} (hT : TpOK T n) (hδ : δ < 7) : ∀ cb d c g mP mM, PJ T n l b cb d c g mP mM → E1 T δ d mM → ((∀ mP, f_X5_stepOf (nI (ctk T d)) (nI 0) mP = some (0, mP)) ∧ E0 T δ d mM) ∨ ∃ x y, Opr T n δ δ 0 x y d (cb + g.length) mM ∧ ∀ gM v gM' w, M0 δ gM v → M1 δ gM' w → M0 δ (gM ++ y :: gM') (fun f => evJoin x (v f) (w f)) := by
  intro cb d c g mP mM hJ hE
  have ok := hJ.1.1
  have kb := ctk_b ok
  by_cases z : isW d 21 = true
  · have q := of_decide_eq_true z
    have c1 : ctk T d = 21 := (tk_w ok (by decide)).mpr z
    refine Or.inr ⟨-12, 26, oprL hT hJ.2.1 hδ q.1 (Or.inl ⟨q.2, rfl⟩) (fun m => by rw [so0 kb, if_pos c1]) (by decide), fun gM v gM' w h h' => ⟨?_, Sex.two (Or.inl rfl) h.1 h.2 h'.2⟩⟩
    simp only [ej_12]
    exact Mlo.two (Or.inl rfl) h.1 h'.1
  · have n1 : ¬ ctk T d = 21 := fun c1 => z ((tk_w ok (by decide)).mp c1)
    by_cases y : isW d 22 = true
    · have q := of_decide_eq_true y
      have c1 : ctk T d = 22 := (tk_w ok (by decide)).mpr y
      refine Or.inr ⟨-13, 27, oprL hT hJ.2.1 hδ q.1 (Or.inr ⟨q.2, rfl⟩) (fun m => by rw [so0 kb, if_neg n1, if_pos c1]) (by decide), fun gM v gM' w h h' => ⟨?_, Sex.two (Or.inr rfl) h.1 h.2 h'.2⟩⟩
      simp only [ej_13]
      exact Mlo.two (Or.inr rfl) h.1 h'.1
    · have n2 : ¬ ctk T d = 22 := fun c1 => y ((tk_w ok (by decide)).mp c1)
      exact Or.inl ⟨fun m => by rw [so0 kb, if_neg n1, if_neg n2], hE, Bool.eq_false_iff.mpr z, Bool.eq_false_iff.mpr y⟩
theorem cmpS {T : Nat → Nat} {n l b δ cb : Nat} {d : Tk} {c : List Int32} {g : List Nat} {mP mM : Mm} (hT : TpOK T n) (hδ : δ < 7) (hJ : PJ T n l b cb d c g mP mM) (h17 : gI mM 17 δ = 0) (hE : E2 T d) : ((∀ mP, f_X5_stepOf (nI (ctk T d)) (nI 1) mP = some (0, mP)) ∧ E1 T δ d mM) ∨ ∃ x y, Opr T n δ δ 1 x y d (cb + g.length) mM ∧ ∀ gM v gM' w, M2 δ gM v → M2 δ gM' w → M1 δ (gM ++ y :: gM') (fun f => evJoin x (v f) (w f)) := by
  have kb := ctk_b hJ.1.1
  by_cases z : isG T d 60 = true
  · have q := of_decide_eq_true z
    have c1 : ctk T d = 60 := (sgT (by decide)).mpr z
    refine Or.inr ⟨-14, 24, oprC hT hJ.2.1 hδ q.1 h17 (Or.inl ⟨q.2, rfl⟩) (fun m => by rw [so1 kb, if_pos c1]) (by decide), fun gM v gM' w h h' => ⟨?_, Ste.two (Or.inl rfl) h.1 h.2 h'.2⟩⟩
    simp only [ej_14]
    exact Mte.two (Or.inl rfl) h.1 h'.1
  · have n1 : ¬ ctk T d = 60 := fun c1 => z ((sgT (by decide)).mp c1)
    by_cases y : isG T d 61 = true
    · have q := of_decide_eq_true y
      have c1 : ctk T d = 61 := (sgT (by decide)).mpr y
      refine Or.inr ⟨-15, 25, oprC hT hJ.2.1 hδ q.1 h17 (Or.inr ⟨q.2, rfl⟩) (fun m => by rw [so1 kb, if_neg n1, if_pos c1]) (by decide), fun gM v gM' w h h' => ⟨?_, Ste.two (Or.inr rfl) h.1 h.2 h'.2⟩⟩
      simp only [ej_15]
      exact Mte.two (Or.inr rfl) h.1 h'.1
    · have n2 : ¬ ctk T d = 61 := fun c1 => y ((sgT (by decide)).mp c1)
      exact Or.inl ⟨fun m => by rw [so1 kb, if_neg n1, if_neg n2], hE, Or.inl ⟨Bool.eq_false_iff.mpr z, Bool.eq_false_iff.mpr y⟩⟩
