/-! a day, as it is worked out -/
abbrev Ev : Type := (Nat → Nat → Nat) × (Nat → Nat) × (Nat × Nat × Nat) × Int32 × List Int32 × List Int32
def eC (E : Ev) : Nat → Nat → Nat := E.1
def eA (E : Ev) : Nat → Nat := E.2.1
def eE (E : Ev) : Nat := E.2.2.1.1
def eF (E : Ev) : Nat := E.2.2.1.2.1
def eT (E : Ev) : Nat := E.2.2.1.2.2
def eX (E : Ev) : Int32 := E.2.2.2.1
def eJ (E : Ev) : List Int32 := E.2.2.2.2.1
def eW (E : Ev) : List Int32 := E.2.2.2.2.2
def eP (E : Ev) : Nat := eC E 0 1
def EvOK (E : Ev) : Prop := CfOK (eC E) ∧ eE E ≤ 30 ∧ eF E ≤ 60 ∧ eT E ≤ 60 ∧ (∀ p, p < eP E → eA E p ≤ 59) ∧ (∃ jM, LwEq (eJ E) jM 0) ∧ (∃ wM, LwEq (eW E) wM 1)
def clW (v : Int32) : Nat := (if v < nI 9 then (if 0 < v then v else 0) else nI 9).toNatClampNeg
theorem clW_b (v : Int32) : clW v ≤ 9 := by
  unfold clW
  rcases pk_ix v (n := 10) (by decide) with h | h | ⟨j, hj, rfl⟩
  · rw [if_pos (of_eq_true (ng_lt h 9 (by decide)))]
    have : ¬ 0 < v := Int32.not_lt.mpr (Int32.le_of_lt h)
    rw [if_neg this]
    decide
  · rw [if_neg (fun q => absurd q (of_eq_false (bg_lt2 h (by decide) 9 (by decide))))]
    decide
  · by_cases q : j < 9
    · simp (disch := omega) only [q, bnd_e, grd_t, bdI_e, bdV_e, bokA, bokB, ni_inb, ni_cl, nI_add, pk_mul, li_2, li_3, li_4, li_5, li_6, li_7, li_8, li_9, li_10, li_11, li_12, li_13, li_14, li_15, li_16, li_17, li_18, li_19, li_20, li_21, li_22, li_23, li_24, li_25, li_26, li_27, li_28, li_29, li_30, li_31, li_32, li_33, li_34, li_35, li_36, li_37, li_38, li_39, li_40, li_41, li_42, li_43, li_44, li_45, li_46, li_47, li_48, li_49, li_50, li_51, li_52, li_53, li_54, li_55, li_56, li_57, li_58, li_59, li_60, li_61, li_63, li_70, li_96, li_97, li_99, li_100, li_101, li_102, li_120, li_122, li_126, li_200, li_255, li_423, li_555, li_999, li_1000, li_1111, li_2968, li_9999, li_10631, li_12345, li_14092, li_21470, li_65536, li_99233, nz_eq, n1_eq, n1_lt, n1_gt, n1_le, n1_ge, n1_sub, n1_add, nm_add, nz_add, nz_add2, z1_ne, z1_lt, z1_le, nI_1, pk_sub, nI_ltI, nI_leI, nI_eq, ni_neg, ni_nneg, ni_pos0, ni_nle0, ni_m1, gI_eq, gI_ne, xI_sJ, xI_sR, xR_sI, xR_sJ, xJ_sI, xJ_sR, gJ_eq, gJ_ne, gR_eq, gR_ne, if_true, if_false, ite_true, ite_false, not_true_eq_false, not_false_eq_true, decide_true, and_self, true_and, and_true, false_and, and_false, or_true, true_or, or_false, false_or, reduceIte, ne_eq]
      by_cases z : 0 < j
      · simp (disch := omega) only [z, bnd_e, grd_t, bdI_e, bdV_e, bokA, bokB, ni_inb, ni_cl, nI_add, pk_mul, li_2, li_3, li_4, li_5, li_6, li_7, li_8, li_9, li_10, li_11, li_12, li_13, li_14, li_15, li_16, li_17, li_18, li_19, li_20, li_21, li_22, li_23, li_24, li_25, li_26, li_27, li_28, li_29, li_30, li_31, li_32, li_33, li_34, li_35, li_36, li_37, li_38, li_39, li_40, li_41, li_42, li_43, li_44, li_45, li_46, li_47, li_48, li_49, li_50, li_51, li_52, li_53, li_54, li_55, li_56, li_57, li_58, li_59, li_60, li_61, li_63, li_70, li_96, li_97, li_99, li_100, li_101, li_102, li_120, li_122, li_126, li_200, li_255, li_423, li_555, li_999, li_1000, li_1111, li_2968, li_9999, li_10631, li_12345, li_14092, li_21470, li_65536, li_99233, nz_eq, n1_eq, n1_lt, n1_gt, n1_le, n1_ge, n1_sub, n1_add, nm_add, nz_add, nz_add2, z1_ne, z1_lt, z1_le, nI_1, pk_sub, nI_ltI, nI_leI, nI_eq, ni_neg, ni_nneg, ni_pos0, ni_nle0, ni_m1, gI_eq, gI_ne, xI_sJ, xI_sR, xR_sI, xR_sJ, xJ_sI, xJ_sR, gJ_eq, gJ_ne, gR_eq, gR_ne, if_true, if_false, ite_true, ite_false, not_true_eq_false, not_false_eq_true, decide_true, and_self, true_and, and_true, false_and, and_false, or_true, true_or, or_false, false_or, reduceIte, ne_eq]; omega
      · rw [if_neg z]; decide
    · simp (disch := omega) only [q, bnd_e, grd_t, bdI_e, bdV_e, bokA, bokB, ni_inb, ni_cl, nI_add, pk_mul, li_2, li_3, li_4, li_5, li_6, li_7, li_8, li_9, li_10, li_11, li_12, li_13, li_14, li_15, li_16, li_17, li_18, li_19, li_20, li_21, li_22, li_23, li_24, li_25, li_26, li_27, li_28, li_29, li_30, li_31, li_32, li_33, li_34, li_35, li_36, li_37, li_38, li_39, li_40, li_41, li_42, li_43, li_44, li_45, li_46, li_47, li_48, li_49, li_50, li_51, li_52, li_53, li_54, li_55, li_56, li_57, li_58, li_59, li_60, li_61, li_63, li_70, li_96, li_97, li_99, li_100, li_101, li_102, li_120, li_122, li_126, li_200, li_255, li_423, li_555, li_999, li_1000, li_1111, li_2968, li_9999, li_10631, li_12345, li_14092, li_21470, li_65536, li_99233, nz_eq, n1_eq, n1_lt, n1_gt, n1_le, n1_ge, n1_sub, n1_add, nm_add, nz_add, nz_add2, z1_ne, z1_lt, z1_le, nI_1, pk_sub, nI_ltI, nI_leI, nI_eq, ni_neg, ni_nneg, ni_pos0, ni_nle0, ni_m1, gI_eq, gI_ne, xI_sJ, xI_sR, xR_sI, xR_sJ, xJ_sI, xJ_sR, gJ_eq, gJ_ne, gR_eq, gR_ne, if_true, if_false, ite_true, ite_false, not_true_eq_false, not_false_eq_true, decide_true, and_self, true_and, and_true, false_and, and_false, or_true, true_or, or_false, false_or, reduceIte, ne_eq]
      omega
theorem clW_P (v : Int32) : (if 0 < (if v < nI 9 then v else nI 9) then (if v < nI 9 then v else nI 9) else 0) = nI (clW v) := by
  unfold clW
  rcases pk_ix v (n := 10) (by decide) with h | h | ⟨j, hj, rfl⟩
  · have h1 : v < nI 9 := of_eq_true (ng_lt h 9 (by decide))
    have h2 : ¬ 0 < v := Int32.not_lt.mpr (Int32.le_of_lt h)
    simp only [h1, h2, if_true, if_false]
    rfl
  · have h1 : ¬ v < nI 9 := of_eq_false (bg_lt2 h (by decide) 9 (by decide))
    simp only [h1, if_false]
    rfl
  · by_cases q : j < 9
    · simp (disch := omega) only [q, bnd_e, grd_t, bdI_e, bdV_e, bokA, bokB, ni_inb, ni_cl, nI_add, pk_mul, li_2, li_3, li_4, li_5, li_6, li_7, li_8, li_9, li_10, li_11, li_12, li_13, li_14, li_15, li_16, li_17, li_18, li_19, li_20, li_21, li_22, li_23, li_24, li_25, li_26, li_27, li_28, li_29, li_30, li_31, li_32, li_33, li_34, li_35, li_36, li_37, li_38, li_39, li_40, li_41, li_42, li_43, li_44, li_45, li_46, li_47, li_48, li_49, li_50, li_51, li_52, li_53, li_54, li_55, li_56, li_57, li_58, li_59, li_60, li_61, li_63, li_70, li_96, li_97, li_99, li_100, li_101, li_102, li_120, li_122, li_126, li_200, li_255, li_423, li_555, li_999, li_1000, li_1111, li_2968, li_9999, li_10631, li_12345, li_14092, li_21470, li_65536, li_99233, nz_eq, n1_eq, n1_lt, n1_gt, n1_le, n1_ge, n1_sub, n1_add, nm_add, nz_add, nz_add2, z1_ne, z1_lt, z1_le, nI_1, pk_sub, nI_ltI, nI_leI, nI_eq, ni_neg, ni_nneg, ni_pos0, ni_nle0, ni_m1, gI_eq, gI_ne, xI_sJ, xI_sR, xR_sI, xR_sJ, xJ_sI, xJ_sR, gJ_eq, gJ_ne, gR_eq, gR_ne, if_true, if_false, ite_true, ite_false, not_true_eq_false, not_false_eq_true, decide_true, and_self, true_and, and_true, false_and, and_false, or_true, true_or, or_false, false_or, reduceIte, ne_eq]
      by_cases z : 0 < j
      · simp (disch := omega) only [z, bnd_e, grd_t, bdI_e, bdV_e, bokA, bokB, ni_inb, ni_cl, nI_add, pk_mul, li_2, li_3, li_4, li_5, li_6, li_7, li_8, li_9, li_10, li_11, li_12, li_13, li_14, li_15, li_16, li_17, li_18, li_19, li_20, li_21, li_22, li_23, li_24, li_25, li_26, li_27, li_28, li_29, li_30, li_31, li_32, li_33, li_34, li_35, li_36, li_37, li_38, li_39, li_40, li_41, li_42, li_43, li_44, li_45, li_46, li_47, li_48, li_49, li_50, li_51, li_52, li_53, li_54, li_55, li_56, li_57, li_58, li_59, li_60, li_61, li_63, li_70, li_96, li_97, li_99, li_100, li_101, li_102, li_120, li_122, li_126, li_200, li_255, li_423, li_555, li_999, li_1000, li_1111, li_2968, li_9999, li_10631, li_12345, li_14092, li_21470, li_65536, li_99233, nz_eq, n1_eq, n1_lt, n1_gt, n1_le, n1_ge, n1_sub, n1_add, nm_add, nz_add, nz_add2, z1_ne, z1_lt, z1_le, nI_1, pk_sub, nI_ltI, nI_leI, nI_eq, ni_neg, ni_nneg, ni_pos0, ni_nle0, ni_m1, gI_eq, gI_ne, xI_sJ, xI_sR, xR_sI, xR_sJ, xJ_sI, xJ_sR, gJ_eq, gJ_ne, gR_eq, gR_ne, if_true, if_false, ite_true, ite_false, not_true_eq_false, not_false_eq_true, decide_true, and_self, true_and, and_true, false_and, and_false, or_true, true_or, or_false, false_or, reduceIte, ne_eq]
      · rw [if_neg z]; rfl
    · simp (disch := omega) only [q, bnd_e, grd_t, bdI_e, bdV_e, bokA, bokB, ni_inb, ni_cl, nI_add, pk_mul, li_2, li_3, li_4, li_5, li_6, li_7, li_8, li_9, li_10, li_11, li_12, li_13, li_14, li_15, li_16, li_17, li_18, li_19, li_20, li_21, li_22, li_23, li_24, li_25, li_26, li_27, li_28, li_29, li_30, li_31, li_32, li_33, li_34, li_35, li_36, li_37, li_38, li_39, li_40, li_41, li_42, li_43, li_44, li_45, li_46, li_47, li_48, li_49, li_50, li_51, li_52, li_53, li_54, li_55, li_56, li_57, li_58, li_59, li_60, li_61, li_63, li_70, li_96, li_97, li_99, li_100, li_101, li_102, li_120, li_122, li_126, li_200, li_255, li_423, li_555, li_999, li_1000, li_1111, li_2968, li_9999, li_10631, li_12345, li_14092, li_21470, li_65536, li_99233, nz_eq, n1_eq, n1_lt, n1_gt, n1_le, n1_ge, n1_sub, n1_add, nm_add, nz_add, nz_add2, z1_ne, z1_lt, z1_le, nI_1, pk_sub, nI_ltI, nI_leI, nI_eq, ni_neg, ni_nneg, ni_pos0, ni_nle0, ni_m1, gI_eq, gI_ne, xI_sJ, xI_sR, xR_sI, xR_sJ, xJ_sI, xJ_sR, gJ_eq, gJ_ne, gR_eq, gR_ne, if_true, if_false, ite_true, ite_false, not_true_eq_false, not_false_eq_true, decide_true, and_self, true_and, and_true, false_and, and_false, or_true, true_or, or_false, false_or, reduceIte, ne_eq]
      rfl
theorem clW_M (v : Int32) (m : Mm) : f_X12_between v 0 (nI 9) m = some (nI (clW v), m) := by
  unfold clW f_X12_between
  rcases pk_ix v (n := 10) (by decide) with h | h | ⟨j, hj, rfl⟩
  · rw [if_pos (of_eq_true (ng_lt h 9 (by decide)))]
    have : ¬ 0 < v := Int32.not_lt.mpr (Int32.le_of_lt h)
    rw [if_neg this, if_neg (Int32.not_le.mpr h)]
    rfl
  · rw [if_neg (fun q => absurd q (of_eq_false (bg_lt2 h (by decide) 9 (by decide)))), if_pos (Int32.not_lt.mp (of_eq_false (bg_neg h (by decide)))), if_neg (fun q => absurd q (of_eq_false (bg_gt h (by decide) 9 (by decide))))]
    rfl
  · by_cases q : j < 9
    · have q' : j ≤ 9 := by omega
      simp (disch := omega) only [q, q', bnd_e, grd_t, bdI_e, bdV_e, bokA, bokB, ni_inb, ni_cl, nI_add, pk_mul, li_2, li_3, li_4, li_5, li_6, li_7, li_8, li_9, li_10, li_11, li_12, li_13, li_14, li_15, li_16, li_17, li_18, li_19, li_20, li_21, li_22, li_23, li_24, li_25, li_26, li_27, li_28, li_29, li_30, li_31, li_32, li_33, li_34, li_35, li_36, li_37, li_38, li_39, li_40, li_41, li_42, li_43, li_44, li_45, li_46, li_47, li_48, li_49, li_50, li_51, li_52, li_53, li_54, li_55, li_56, li_57, li_58, li_59, li_60, li_61, li_63, li_70, li_96, li_97, li_99, li_100, li_101, li_102, li_120, li_122, li_126, li_200, li_255, li_423, li_555, li_999, li_1000, li_1111, li_2968, li_9999, li_10631, li_12345, li_14092, li_21470, li_65536, li_99233, nz_eq, n1_eq, n1_lt, n1_gt, n1_le, n1_ge, n1_sub, n1_add, nm_add, nz_add, nz_add2, z1_ne, z1_lt, z1_le, nI_1, pk_sub, nI_ltI, nI_leI, nI_eq, ni_neg, ni_nneg, ni_pos0, ni_nle0, ni_m1, gI_eq, gI_ne, xI_sJ, xI_sR, xR_sI, xR_sJ, xJ_sI, xJ_sR, gJ_eq, gJ_ne, gR_eq, gR_ne, if_true, if_false, ite_true, ite_false, not_true_eq_false, not_false_eq_true, decide_true, and_self, true_and, and_true, false_and, and_false, or_true, true_or, or_false, false_or, reduceIte, ne_eq]
      by_cases z : 0 < j
      · simp (disch := omega) only [z, bnd_e, grd_t, bdI_e, bdV_e, bokA, bokB, ni_inb, ni_cl, nI_add, pk_mul, li_2, li_3, li_4, li_5, li_6, li_7, li_8, li_9, li_10, li_11, li_12, li_13, li_14, li_15, li_16, li_17, li_18, li_19, li_20, li_21, li_22, li_23, li_24, li_25, li_26, li_27, li_28, li_29, li_30, li_31, li_32, li_33, li_34, li_35, li_36, li_37, li_38, li_39, li_40, li_41, li_42, li_43, li_44, li_45, li_46, li_47, li_48, li_49, li_50, li_51, li_52, li_53, li_54, li_55, li_56, li_57, li_58, li_59, li_60, li_61, li_63, li_70, li_96, li_97, li_99, li_100, li_101, li_102, li_120, li_122, li_126, li_200, li_255, li_423, li_555, li_999, li_1000, li_1111, li_2968, li_9999, li_10631, li_12345, li_14092, li_21470, li_65536, li_99233, nz_eq, n1_eq, n1_lt, n1_gt, n1_le, n1_ge, n1_sub, n1_add, nm_add, nz_add, nz_add2, z1_ne, z1_lt, z1_le, nI_1, pk_sub, nI_ltI, nI_leI, nI_eq, ni_neg, ni_nneg, ni_pos0, ni_nle0, ni_m1, gI_eq, gI_ne, xI_sJ, xI_sR, xR_sI, xR_sJ, xJ_sI, xJ_sR, gJ_eq, gJ_ne, gR_eq, gR_ne, if_true, if_false, ite_true, ite_false, not_true_eq_false, not_false_eq_true, decide_true, and_self, true_and, and_true, false_and, and_false, or_true, true_or, or_false, false_or, reduceIte, ne_eq]
      · have : j = 0 := by omega
        subst this
        rfl
    · have : j = 9 := by omega
      subst this
      rfl
def clJ (v : Int32) : Int32 := if -nI 99 < (if v < nI 99 then v else nI 99) then (if v < nI 99 then v else nI 99) else -nI 99
theorem clJ_M (v : Int32) (m : Mm) : f_X12_between v (-nI 99) (nI 99) m = some (clJ v, m) := by
  unfold clJ f_X12_between
  by_cases h : v < nI 99
  · rw [if_pos h]
    by_cases g : -nI 99 < v
    · rw [if_pos g, if_pos (Int32.le_of_lt g), if_pos (Int32.le_of_lt h)]
    · rw [if_neg g]
      by_cases z : -nI 99 ≤ v
      · rw [if_pos z, if_pos (Int32.le_of_lt h), Int32.le_antisymm z (Int32.not_lt.mp g)]
      · rw [if_neg z]
  · have h2 : nI 99 ≤ v := Int32.not_lt.mp h
    rw [if_neg h, if_pos (Int32.le_trans (by decide) h2), if_pos (show -nI 99 < nI 99 by decide)]
    by_cases z : v ≤ nI 99
    · rw [if_pos z, Int32.le_antisymm z h2]
    · rw [if_neg z]
def wvF (E : Ev) (p w : Nat) (i : Nat) : Int32 := if i = 0 then nI (eC E 5 p) else if i = 4 then nI w else nI (plF (eC E) (eE E) p)
def wbV (E : Ev) (p w : Nat) : Int32 := if eW E = [] then 1 else evP (eW E) (wvF E p w)
def wbF (E : Ev) (p w : Nat) : Nat := if w + clW (wbV E p w) < 9 then w + clW (wbV E p w) else 9
theorem wbF_b (E : Ev) (p w : Nat) : wbF E p w ≤ 9 := by unfold wbF; split <;> omega
def jvF (E : Ev) (p wn o sm : Nat) (i : Nat) : Int32 := if i = 0 then nI (eC E 5 p) else if i = 1 then nI wn else if i = 2 then nI o else nI sm
def joF (E : Ev) (p wn o sm : Nat) : Int32 := clJ (if eJ E = [] then nI (eC E 5 p) - nI wn - nI sm else evP (eJ E) (jvF E p wn o sm))
abbrev Dy : Type := List Nat × Nat × (Nat → Int32) × (Nat → Int32) × (Nat → Nat) × Nat × Nat × Int32 × Int32 × (Nat → Nat)
def dL (d : Dy) : List Nat := d.1
def dpl (d : Dy) : Nat := d.2.1
def dbg (d : Dy) : Nat → Int32 := d.2.2.1
def den (d : Dy) : Nat → Int32 := d.2.2.2.1
def dwr (d : Dy) : Nat → Nat := d.2.2.2.2.1
def dwn (d : Dy) : Nat := d.2.2.2.2.2.1
def dsm (d : Dy) : Nat := d.2.2.2.2.2.2.1
def djy (d : Dy) : Int32 := d.2.2.2.2.2.2.2.1
def dbn (d : Dy) : Int32 := d.2.2.2.2.2.2.2.2.1
def dpa (d : Dy) : Nat → Nat := d.2.2.2.2.2.2.2.2.2
def pI (p : Nat) : Int32 := if p = 7 then -1 else nI p
theorem pI_7 : pI 7 = -1 := if_pos rfl
theorem pI_n {p : Nat} (h : p ≠ 7) : pI p = nI p := if_neg h
def prS (x : Int32) (p : Nat) : Prop := (x >>> (nI p &&& 31)) &&& 1 = 0
noncomputable def arr (E : Ev) (t : Nat) : Nat → List Nat
  | 0 => []
  | n + 1 => if eA E n = t ∧ (eX E >>> (nI n &&& 31)) &&& 1 = 0 then arr E t n ++ [n] else arr E t n
theorem arr_mem (E : Ev) (t : Nat) : ∀ (n p : Nat), p ∈ arr E t n ↔ (p < n ∧ eA E p = t ∧ (eX E >>> (nI p &&& 31)) &&& 1 = 0)
  | 0, p => ⟨fun h => (by cases h), fun h => absurd h.1 (by omega)⟩
  | n + 1, p => by
    have ih := arr_mem E t n p
    unfold arr
    by_cases h : eA E n = t ∧ (eX E >>> (nI n &&& 31)) &&& 1 = 0
    · rw [if_pos h, List.mem_append, List.mem_singleton, ih]
      constructor
      · rintro (⟨h1, h2⟩ | rfl)
        · exact ⟨by omega, h2⟩
        · exact ⟨by omega, h⟩
      · rintro ⟨h1, h2⟩
        by_cases z : p = n
        · exact Or.inr z
        · exact Or.inl ⟨by omega, h2⟩
    · rw [if_neg h, ih]
      constructor
      · rintro ⟨h1, h2⟩
        exact ⟨by omega, h2⟩
      · rintro ⟨h1, h2⟩
        by_cases z : p = n
        · subst z; exact absurd h2 h
        · exact ⟨by omega, h2⟩
def isO (E : Ev) (t : Nat) : Bool := decide (eF E ≤ t ∧ t < eT E)
noncomputable def dA (E : Ev) (t : Nat) : Dy → Dy
  | (L, r) => (L ++ arr E t (eP E), r)
abbrev ends (E : Ev) (t : Nat) (o : Bool) (pl : Nat) (b : Int32) : Prop := pl ≠ 7 ∧ (o = false ∨ nI (plF (eC E) (eE E) pl) ≤ nI t - b)
noncomputable def dB (E : Ev) (t : Nat) (o : Bool) : Dy → Dy
  | (L, pl, bg, en, r) => if ends E t o pl (bg pl) then (L, 7, bg, (fun p => if p = pl then nI t else en p), r) else (L, pl, bg, en, r)
def dC (E : Ev) (t : Nat) : Dy → Dy
  | (L, r) => (L.filter (fun p => decide (t - eA E p ≤ eC E 0 2)), r)
/-! the first of a row -/
def fx (q : Nat → Bool) : List Nat → Nat
  | [] => 0
  | a :: l => if q a then 0 else fx q l + 1
theorem fx_le (q : Nat → Bool) : ∀ l, fx q l ≤ l.length
  | [] => Nat.le_refl _
  | a :: l => by
    unfold fx
    have := fx_le q l
    split
    · exact Nat.zero_le _
    · show fx q l + 1 ≤ l.length + 1
      omega
theorem fx_no (q : Nat → Bool) : ∀ l j, j < fx q l → q (l.getD j 0) = false
  | [], j, h => absurd h (Nat.not_lt_zero _)
  | a :: l, j, h => by
    unfold fx at h
    by_cases z : q a = true
    · rw [if_pos z] at h; exact absurd h (Nat.not_lt_zero _)
    · rw [if_neg z] at h
      cases j with
      | zero => exact Bool.eq_false_iff.mpr z
      | succ j => exact fx_no q l j (by omega)
theorem fx_yes (q : Nat → Bool) : ∀ l, fx q l < l.length → q (l.getD (fx q l) 0) = true
  | [], h => absurd h (Nat.not_lt_zero _)
  | a :: l, h => by
    unfold fx at h ⊢
    by_cases z : q a = true
    · rw [if_pos z]; exact z
    · rw [if_neg z] at h ⊢
      exact fx_yes q l (Nat.lt_of_succ_lt_succ h)
theorem fx_eq (q : Nat → Bool) (l : List Nat) (i : Nat) (hi : i ≤ l.length) (hn : ∀ j, j < i → q (l.getD j 0) = false) (hy : i < l.length → q (l.getD i 0) = true) : fx q l = i := by
  have h1 := fx_le q l
  rcases Nat.lt_trichotomy (fx q l) i with h | h | h
  · have := hn _ h
    rw [fx_yes q l (by omega)] at this
    cases this
  · exact h
  · have := fx_no q l i h
    rw [hy (by omega)] at this
    cases this
noncomputable def drQ (C : Nat → Nat → Nat) (o : Nat) (p : Nat) : Bool := decide (drB C p o = 1)
def bc (C : Nat → Nat → Nat) (bg : Nat → Int32) (t : Nat) : Nat → Nat
  | 0 => 0
  | n + 1 => if bg n ≠ -1 ∧ C 4 n = t then bc C bg t n + 1 else bc C bg t n
def sk (E : Ev) (p : Nat) (wr : Nat → Nat) : Nat → (Nat → Nat)
  | 0 => wr
  | n + 1 => fun k => if k = skK (eC E) p n then wbF E p (sk E p wr n k) else sk E p wr n k
theorem sk_b (E : Ev) (p : Nat) {wr : Nat → Nat} (h : ∀ k, k < 12 → wr k ≤ 9) : ∀ n k, k < 12 → sk E p wr n k ≤ 9
  | 0, k, hk => h k hk
  | n + 1, k, hk => by
    unfold sk
    split
    · exact wbF_b _ _ _
    · exact sk_b E p h n k hk
def wsum (C : Nat → Nat → Nat) (p : Nat) (wr : Nat → Nat) : Nat → Nat
  | 0 => 0
  | n + 1 => wsum C p wr n + wr (skK C p n)
noncomputable def dD (E : Ev) (t : Nat) : Dy → Dy
  | (L, pl, bg, en, wr, wn, sm, jy, bn, pa) =>
    if pl = 7 ∧ isO E t = true ∧ fx (drQ (eC E) (L.length - 1)) L < L.length then
      (L.eraseIdx (fx (drQ (eC E) (L.length - 1)) L), L.getD (fx (drQ (eC E) (L.length - 1)) L) 0, (fun q => if q = L.getD (fx (drQ (eC E) (L.length - 1)) L) 0 then nI t else bg q), en,
        sk E (L.getD (fx (drQ (eC E) (L.length - 1)) L) 0) wr (skN (eC E) (L.getD (fx (drQ (eC E) (L.length - 1)) L) 0)),
        wsum (eC E) (L.getD (fx (drQ (eC E) (L.length - 1)) L) 0) (sk E (L.getD (fx (drQ (eC E) (L.length - 1)) L) 0) wr (skN (eC E) (L.getD (fx (drQ (eC E) (L.length - 1)) L) 0))) (skN (eC E) (L.getD (fx (drQ (eC E) (L.length - 1)) L) 0)),
        bc (eC E) bg (eC E 4 (L.getD (fx (drQ (eC E) (L.length - 1)) L) 0)) (eP E), jy, bn + 1, pa)
    else (L, pl, bg, en, wr, wn, sm, jy, bn, pa)
noncomputable def dE (E : Ev) (t : Nat) : Dy → Dy
  | (L, pl, bg, en, wr, wn, sm, jy, bn, pa) => (L, pl, bg, en, wr, wn, sm, (if pl = 7 then jy else jy + joF E pl wn L.length sm), bn, (fun s => if s = t then pl else pa s))
noncomputable def dyM (E : Ev) (t : Nat) (d : Dy) : Dy := dE E t (dD E t (dC E t (dB E t (isO E t) (dA E t d))))
def d0 (wr : Nat → Nat) : Dy := ([], 7, (fun _ => -1), (fun _ => -1), wr, 0, 0, 0, 0, (fun _ => 7))
noncomputable def dyR (E : Ev) (wr : Nat → Nat) : Nat → Dy
  | 0 => d0 wr
  | t + 1 => dyM E t (dyR E wr t)
noncomputable def dyD (E : Ev) (wr : Nat → Nat) : Dy := dB E 60 false (dyR E wr 60)
/-! how many stand -/
def cn (L : List Nat) : Nat → Nat
  | 0 => 0
  | n + 1 => if n ∈ L then cn L n + 1 else cn L n
theorem cn_le (L : List Nat) : ∀ n, cn L n ≤ n
  | 0 => Nat.le_refl _
  | n + 1 => by
    unfold cn
    have := cn_le L n
    split <;> omega
theorem cn_nil : ∀ n, cn [] n = 0
  | 0 => rfl
  | n + 1 => by
    unfold cn
    rw [if_neg (fun h => by cases h)]
    exact cn_nil n
theorem cn_out {a : Nat} {L : List Nat} : ∀ n, n ≤ a → cn (a :: L) n = cn L n
  | 0, _ => rfl
  | n + 1, h => by
    have e := cn_out (a := a) (L := L) n (by omega)
    unfold cn
    rw [e]
    by_cases z : n ∈ L
    · rw [if_pos z, if_pos (List.mem_cons_of_mem _ z)]
    · rw [if_neg z, if_neg (fun q => (List.mem_cons.mp q).elim (fun e => absurd e (by omega)) z)]
theorem cn_cons {a : Nat} {L : List Nat} (ha : a ∉ L) : ∀ n, a < n → cn (a :: L) n = cn L n + 1
  | 0, h => absurd h (by omega)
  | n + 1, h => by
    unfold cn
    by_cases z : a = n
    · subst z
      rw [if_pos (List.mem_cons_self ..), if_neg ha, cn_out _ (Nat.le_refl _)]
    · rw [cn_cons ha n (by omega)]
      by_cases y : n ∈ L
      · rw [if_pos y, if_pos (List.mem_cons_of_mem _ y)]
      · rw [if_neg y, if_neg (fun q => (List.mem_cons.mp q).elim (fun e => absurd e (by omega)) y)]
theorem cn_len {n : Nat} : ∀ {L : List Nat}, L.Nodup → (∀ p, p ∈ L → p < n) → cn L n = L.length
  | [], _, _ => cn_nil n
  | a :: L, h, g => by
    have h2 := List.nodup_cons.mp h
    rw [cn_cons h2.1 n (g a (List.mem_cons_self ..)), cn_len h2.2 (fun p hp => g p (List.mem_cons_of_mem _ hp))]
    rfl
theorem nd_le {n : Nat} {L : List Nat} (h : L.Nodup) (g : ∀ p, p ∈ L → p < n) : L.length ≤ n := by
  rw [← cn_len h g]
  exact cn_le L n
theorem nd_lt {n i : Nat} {L : List Nat} (h : L.Nodup) (g : ∀ p, p ∈ L → p < n) (hi : i < n) (ho : i ∉ L) : L.length < n := by
  have : (i :: L).length ≤ n := nd_le (List.nodup_cons.mpr ⟨ho, h⟩) (fun p hp => (List.mem_cons.mp hp).elim (fun e => by omega) (g p))
  exact this
/-! what holds at every minute -/
def kE (E : Ev) (p : Nat) : Nat := 8 * eA E p + p
def DyOKr (E : Ev) (t : Nat) (L : List Nat) (pl : Nat) (bg : Nat → Int32) (wr : Nat → Nat) (wn : Nat) : Prop := (∀ p, p ∈ L → p < eP E ∧ eA E p < t ∧ bg p = -1) ∧ L.Pairwise (fun p q => kE E p < kE E q) ∧ (pl = 7 ∨ (pl < eP E ∧ pl ∉ L ∧ wn = wsum (eC E) pl wr (skN (eC E) pl) ∧ ∃ b, b < t ∧ bg pl = nI b)) ∧ (∀ p, bg p = -1 ∨ ∃ b, b < t ∧ bg p = nI b) ∧ (∀ p, p < eP E → t ≤ eA E p → bg p = -1) ∧ (∀ k, k < 12 → wr k ≤ 9)
def DyOK (E : Ev) (t : Nat) (d : Dy) : Prop := DyOKr E t (dL d) (dpl d) (dbg d) (dwr d) (dwn d)
theorem nd_of {E : Ev} {L : List Nat} (h : L.Pairwise (fun p q => kE E p < kE E q)) : L.Nodup := List.Pairwise.imp (fun {a b} q => fun e => by subst e; exact absurd q (Nat.lt_irrefl _)) h
theorem ni_nm1 (b : Nat) (hb : b < 2 ^ 31) : nI b ≠ -1 := of_eq_false (ni_m1 b hb)
theorem eP7 {E : Ev} (h : EvOK E) : eP E ≤ 7 := h.1.2.1
theorem arr_pw {E : Ev} (hE : EvOK E) {t : Nat} {L : List Nat} (h1 : ∀ p, p ∈ L → p < eP E ∧ eA E p < t) (h2 : L.Pairwise (fun p q => kE E p < kE E q)) : ∀ n, n ≤ eP E → (L ++ arr E t n).Pairwise (fun p q => kE E p < kE E q)
  | 0, _ => by
    unfold arr
    rw [List.append_nil]
    exact h2
  | n + 1, hn => by
    have ih := arr_pw hE h1 h2 n (by omega)
    have e7 := eP7 hE
    unfold arr
    by_cases z : eA E n = t ∧ (eX E >>> (nI n &&& 31)) &&& 1 = 0
    · rw [if_pos z, ← List.append_assoc]
      refine List.pairwise_append.mpr ⟨ih, List.pairwise_singleton _ _, fun a ha b hb => ?_⟩
      have e2 := List.mem_singleton.mp hb
      subst e2
      have z1 := z.1
      unfold kE
      rcases List.mem_append.mp ha with q | q
      · have := h1 a q
        omega
      · have := (arr_mem E t _ a).mp q
        omega
    · rw [if_neg z]
      exact ih
theorem okA {E : Ev} (hE : EvOK E) {t : Nat} (ht : t < 60) {d : Dy} (h : DyOK E t d) : DyOK E (t + 1) (dA E t d) := by
  obtain ⟨L, pl, bg, en, wr, wn, sm, jy, bn, pa⟩ := d
  obtain ⟨h1, h2, h3, h4, h5, h6⟩ := (show DyOKr E _ L pl bg wr wn from h)
  refine ⟨fun p hp => ?_, arr_pw hE (fun p hp => ⟨(h1 p hp).1, (h1 p hp).2.1⟩) h2 _ (Nat.le_refl _), ?_, fun p => ?_, fun p hp hq => h5 p hp (by omega), h6⟩
  · rcases List.mem_append.mp hp with q | q
    · have := h1 p q
      exact ⟨this.1, by omega, this.2.2⟩
    · have := (arr_mem E t _ p).mp q
      exact ⟨this.1, by omega, h5 p this.1 (by omega)⟩
  · rcases h3 with h3 | ⟨g1, g2, g3, b, g4, g5⟩
    · exact Or.inl h3
    · refine Or.inr ⟨g1, fun q => ?_, g3, b, by omega, g5⟩
      rcases List.mem_append.mp q with q | q
      · exact g2 q
      · have := (arr_mem E t _ pl).mp q
        have z := h5 pl g1 (by omega)
        rw [g5] at z
        exact ni_nm1 b (by omega) z
  · rcases h4 p with q | ⟨b, q1, q2⟩
    · exact Or.inl q
    · exact Or.inr ⟨b, by omega, q2⟩
theorem okB {E : Ev} {s t : Nat} {o : Bool} {d : Dy} (h : DyOK E s d) : DyOK E s (dB E t o d) := by
  obtain ⟨L, pl, bg, en, wr, wn, sm, jy, bn, pa⟩ := d
  unfold dB
  simp only []
  split
  · obtain ⟨h1, h2, h3, h4, h5, h6⟩ := (show DyOKr E _ L pl bg wr wn from h)
    exact ⟨h1, h2, Or.inl rfl, h4, h5, h6⟩
  · exact h
theorem okC {E : Ev} {s t : Nat} {d : Dy} (h : DyOK E s d) : DyOK E s (dC E t d) := by
  obtain ⟨L, pl, bg, en, wr, wn, sm, jy, bn, pa⟩ := d
  obtain ⟨h1, h2, h3, h4, h5, h6⟩ := (show DyOKr E _ L pl bg wr wn from h)
  refine ⟨fun p hp => h1 p (List.mem_filter.mp hp).1, h2.sublist (List.filter_sublist ..), ?_, h4, h5, h6⟩
  rcases h3 with h3 | ⟨g1, g2, g3⟩
  · exact Or.inl h3
  · exact Or.inr ⟨g1, fun q => g2 (List.mem_filter.mp q).1, g3⟩
theorem getD_mem {L : List Nat} {i : Nat} (h : i < L.length) : L.getD i 0 ∈ L := by
  rw [List.getD_eq_getElem?_getD, List.getElem?_eq_getElem h]
  exact List.getElem_mem h
theorem getD_inj {L : List Nat} (hn : L.Nodup) {i j : Nat} (hi : i < L.length) (hj : j < L.length) (h : L.getD i 0 = L.getD j 0) : i = j := by
  have e1 : L.getD i 0 = L[i] := by rw [List.getD_eq_getElem?_getD, List.getElem?_eq_getElem hi]; rfl
  have e2 : L.getD j 0 = L[j] := by rw [List.getD_eq_getElem?_getD, List.getElem?_eq_getElem hj]; rfl
  rw [e1, e2] at h
  have hp := List.pairwise_iff_getElem.mp hn
  rcases Nat.lt_trichotomy i j with q | q | q
  · exact absurd h (hp i j hi hj q)
  · exact q
  · exact absurd h.symm (hp j i hj hi q)
theorem mem_era {L : List Nat} (hn : L.Nodup) {i : Nat} (hi : i < L.length) (p : Nat) : p ∈ L.eraseIdx i ↔ (p ∈ L ∧ p ≠ L.getD i 0) := by
  rw [List.mem_eraseIdx_iff_getElem?]
  constructor
  · rintro ⟨j, h1, h2⟩
    have hj : j < L.length := (List.getElem?_eq_some_iff.mp h2).1
    have e : L.getD j 0 = p := by rw [List.getD_eq_getElem?_getD, h2]; rfl
    refine ⟨by rw [← e]; exact getD_mem hj, fun q => h1 ?_⟩
    rw [← e] at q
    exact getD_inj hn hj hi q
  · rintro ⟨h1, h2⟩
    obtain ⟨j, hj, e⟩ := List.getElem_of_mem h1
    refine ⟨j, fun q => h2 ?_, List.getElem?_eq_some_iff.mpr ⟨hj, e⟩⟩
    subst q
    rw [List.getD_eq_getElem?_getD, List.getElem?_eq_getElem hj]
    exact e.symm
theorem okD {E : Ev} {t : Nat} {d : Dy} (h : DyOK E (t + 1) d) : DyOK E (t + 1) (dD E t d) := by
  obtain ⟨L, pl, bg, en, wr, wn, sm, jy, bn, pa⟩ := d
  unfold dD
  simp only []
  split
  · rename_i z
    obtain ⟨z1, z2, z3⟩ := z
    generalize fx (drQ (eC E) (L.length - 1)) L = i at z3 ⊢
    obtain ⟨h1, h2, h3, h4, h5, h6⟩ := (show DyOKr E _ L pl bg wr wn from h)
    have hm := h1 _ (getD_mem z3)
    have me := mem_era (nd_of h2) z3
    refine ⟨fun p hp => ?_, h2.sublist (List.eraseIdx_sublist ..), Or.inr ⟨hm.1, fun q => ((me _).mp q).2 rfl, rfl, t, by omega, if_pos rfl⟩, fun p => ?_, fun p hp hq => ?_, fun k hk => sk_b E _ h6 _ k hk⟩
    · have q := (me p).mp hp
      have r := h1 p q.1
      exact ⟨r.1, r.2.1, (if_neg q.2).trans r.2.2⟩
    · by_cases y : p = L.getD i 0
      · exact Or.inr ⟨t, by omega, if_pos y⟩
      · exact (h4 p).imp (fun q => (if_neg y).trans q) (fun ⟨b, q1, q2⟩ => ⟨b, q1, (if_neg y).trans q2⟩)
    · by_cases y : p = L.getD i 0
      · subst y
        have := hm.2.1
        omega
      · exact (if_neg y).trans (h5 p hp hq)
  · exact h
theorem okE {E : Ev} {s t : Nat} {d : Dy} (h : DyOK E s d) : DyOK E s (dE E t d) := by
  obtain ⟨L, pl, bg, en, wr, wn, sm, jy, bn, pa⟩ := d
  exact h
theorem okM {E : Ev} (hE : EvOK E) {t : Nat} (ht : t < 60) {d : Dy} (h : DyOK E t d) : DyOK E (t + 1) (dyM E t d) := okE (okD (okC (okB (okA hE ht h))))
theorem ok0 {E : Ev} {wr : Nat → Nat} (h : ∀ k, k < 12 → wr k ≤ 9) : DyOK E 0 (d0 wr) := ⟨fun p hp => (by cases hp), List.Pairwise.nil, Or.inl rfl, fun _ => Or.inl rfl, fun _ _ _ => rfl, h⟩
theorem okR {E : Ev} (hE : EvOK E) {wr : Nat → Nat} (h : ∀ k, k < 12 → wr k ≤ 9) : ∀ t, t ≤ 60 → DyOK E t (dyR E wr t)
  | 0, _ => ok0 h
  | t + 1, ht => okM hE (by omega) (okR hE h t (by omega))
theorem okDay {E : Ev} (hE : EvOK E) {wr : Nat → Nat} (h : ∀ k, k < 12 → wr k ≤ 9) : DyOK E 60 (dyD E wr) := by
  unfold dyD
  exact okB (okR hE h 60 (Nat.le_refl _))
