/-! 8, 9: begins, ends -/
theorem st_begins : St_begins Rel := by
  intro a mP mM ⟨C, st, S, hR⟩
  have hK : RelC C st S mP (sI mM 0 0 0) := hR.keep (SaP.refl _ _) (SaM.thr _ _)
  have hC := hR.ok
  have hp1 : gI mP st 7 = nI (C 0 1) := hR.cP.2.1
  have hm1 : gI (sI mM 0 0 0) 2 1 = nI (C 0 1) := hK.cM.1 1 (by decide)
  have c1 := hC.2.1
  have no : (a < 0 ∨ nI (C 0 1) ≤ a) → ∃ (r : Int32) (mP2 mM2 : Mm), f_X11_begins a mP = some (r, mP2) ∧ f_X12_begins a mM = some (r, mM2) ∧ Rel mP2 mM2 := by
    intro h
    refine ⟨-1, mP, sI mM 0 0 0, ?_, ?_, ⟨C, st, S, hK⟩⟩
    · unfold f_X11_begins
      simp (disch := omega) only [isPasP_no hR.st hR.gr hp1 h, bnd_e, grd_t, bdI_e, bdV_e, bokA, bokB, ni_inb, ni_cl, nI_add, pk_mul, li_2, li_3, li_4, li_5, li_6, li_7, li_8, li_9, li_10, li_11, li_12, li_13, li_14, li_15, li_16, li_17, li_18, li_19, li_20, li_21, li_22, li_23, li_24, li_25, li_26, li_27, li_28, li_29, li_30, li_31, li_32, li_33, li_34, li_35, li_36, li_37, li_38, li_39, li_40, li_41, li_42, li_43, li_44, li_45, li_46, li_47, li_48, li_49, li_50, li_51, li_52, li_53, li_54, li_55, li_56, li_57, li_58, li_59, li_60, li_61, li_63, li_70, li_96, li_97, li_99, li_100, li_101, li_102, li_120, li_122, li_126, li_200, li_255, li_423, li_555, li_999, li_1000, li_1111, li_2968, li_9999, li_10631, li_12345, li_14092, li_21470, li_65536, li_99233, nz_eq, n1_eq, n1_lt, n1_gt, n1_le, n1_ge, n1_sub, n1_add, nm_add, nz_add, nz_add2, z1_ne, z1_lt, z1_le, nI_1, pk_sub, nI_ltI, nI_leI, nI_eq, ni_neg, ni_nneg, ni_pos0, ni_nle0, ni_m1, gI_eq, gI_ne, xI_sJ, xI_sR, xR_sI, xR_sJ, xJ_sI, xJ_sR, gJ_eq, gJ_ne, gR_eq, gR_ne, if_true, if_false, ite_true, ite_false, not_true_eq_false, not_false_eq_true, decide_true, and_self, true_and, and_true, false_and, and_false, or_true, true_or, or_false, false_or, reduceIte, ne_eq]
    · unfold f_X12_begins
      simp (disch := omega) only [isPasM_no hm1 h, bnd_e, grd_t, bdI_e, bdV_e, bokA, bokB, ni_inb, ni_cl, nI_add, pk_mul, li_2, li_3, li_4, li_5, li_6, li_7, li_8, li_9, li_10, li_11, li_12, li_13, li_14, li_15, li_16, li_17, li_18, li_19, li_20, li_21, li_22, li_23, li_24, li_25, li_26, li_27, li_28, li_29, li_30, li_31, li_32, li_33, li_34, li_35, li_36, li_37, li_38, li_39, li_40, li_41, li_42, li_43, li_44, li_45, li_46, li_47, li_48, li_49, li_50, li_51, li_52, li_53, li_54, li_55, li_56, li_57, li_58, li_59, li_60, li_61, li_63, li_70, li_96, li_97, li_99, li_100, li_101, li_102, li_120, li_122, li_126, li_200, li_255, li_423, li_555, li_999, li_1000, li_1111, li_2968, li_9999, li_10631, li_12345, li_14092, li_21470, li_65536, li_99233, nz_eq, n1_eq, n1_lt, n1_gt, n1_le, n1_ge, n1_sub, n1_add, nm_add, nz_add, nz_add2, z1_ne, z1_lt, z1_le, nI_1, pk_sub, nI_ltI, nI_leI, nI_eq, ni_neg, ni_nneg, ni_pos0, ni_nle0, ni_m1, gI_eq, gI_ne, xI_sJ, xI_sR, xR_sI, xR_sJ, xJ_sI, xJ_sR, gJ_eq, gJ_ne, gR_eq, gR_ne, if_true, if_false, ite_true, ite_false, not_true_eq_false, not_false_eq_true, decide_true, and_self, true_and, and_true, false_and, and_false, or_true, true_or, or_false, false_or, reduceIte, ne_eq]
  rcases pk_ix a (n := C 0 1) (by omega) with h | h | ⟨j, hj, rfl⟩
  · exact no (Or.inl h)
  · exact no (Or.inr h)
  · refine of_key ?_
    obtain ⟨E, wr, hc, hE, hwr, key⟩ := tryB hR
    unfold f_X11_begins f_X12_begins
    simp (disch := omega) only [isPasP_yes hR.st hR.gr hp1 c1 hj, isPasM_yes hm1 c1 hj, bnd_e, grd_t, bdI_e, bdV_e, bokA, bokB, ni_inb, ni_cl, nI_add, pk_mul, li_2, li_3, li_4, li_5, li_6, li_7, li_8, li_9, li_10, li_11, li_12, li_13, li_14, li_15, li_16, li_17, li_18, li_19, li_20, li_21, li_22, li_23, li_24, li_25, li_26, li_27, li_28, li_29, li_30, li_31, li_32, li_33, li_34, li_35, li_36, li_37, li_38, li_39, li_40, li_41, li_42, li_43, li_44, li_45, li_46, li_47, li_48, li_49, li_50, li_51, li_52, li_53, li_54, li_55, li_56, li_57, li_58, li_59, li_60, li_61, li_63, li_70, li_96, li_97, li_99, li_100, li_101, li_102, li_120, li_122, li_126, li_200, li_255, li_423, li_555, li_999, li_1000, li_1111, li_2968, li_9999, li_10631, li_12345, li_14092, li_21470, li_65536, li_99233, nz_eq, n1_eq, n1_lt, n1_gt, n1_le, n1_ge, n1_sub, n1_add, nm_add, nz_add, nz_add2, z1_ne, z1_lt, z1_le, nI_1, pk_sub, nI_ltI, nI_leI, nI_eq, ni_neg, ni_nneg, ni_pos0, ni_nle0, ni_m1, gI_eq, gI_ne, xI_sJ, xI_sR, xR_sI, xR_sJ, xJ_sI, xJ_sR, gJ_eq, gJ_ne, gR_eq, gR_ne, if_true, if_false, ite_true, ite_false, not_true_eq_false, not_false_eq_true, decide_true, and_self, true_and, and_true, false_and, and_false, or_true, true_or, or_false, false_or, reduceIte, ne_eq]
    rw [Sat_bdI]
    refine key.mono ?_
    intro q h
    refine (Sat_some _ _).mpr ?_
    rw [Sat_bdI]
    refine h.mono ?_
    intro q' ⟨h1, h2, h3, h4, h5⟩
    refine (Sat_some _ _).mpr ⟨?_, C, st, S, h5⟩
    exact (h3.2.2.2.1 j (by omega)).1.trans (h4.1 j (by omega)).1.symm
theorem st_ends : St_ends Rel := by
  intro a mP mM ⟨C, st, S, hR⟩
  have hK : RelC C st S mP (sI mM 0 0 0) := hR.keep (SaP.refl _ _) (SaM.thr _ _)
  have hC := hR.ok
  have hp1 : gI mP st 7 = nI (C 0 1) := hR.cP.2.1
  have hm1 : gI (sI mM 0 0 0) 2 1 = nI (C 0 1) := hK.cM.1 1 (by decide)
  have c1 := hC.2.1
  have no : (a < 0 ∨ nI (C 0 1) ≤ a) → ∃ (r : Int32) (mP2 mM2 : Mm), f_X11_ends a mP = some (r, mP2) ∧ f_X12_ends a mM = some (r, mM2) ∧ Rel mP2 mM2 := by
    intro h
    refine ⟨-1, mP, sI mM 0 0 0, ?_, ?_, ⟨C, st, S, hK⟩⟩
    · unfold f_X11_ends
      simp (disch := omega) only [isPasP_no hR.st hR.gr hp1 h, bnd_e, grd_t, bdI_e, bdV_e, bokA, bokB, ni_inb, ni_cl, nI_add, pk_mul, li_2, li_3, li_4, li_5, li_6, li_7, li_8, li_9, li_10, li_11, li_12, li_13, li_14, li_15, li_16, li_17, li_18, li_19, li_20, li_21, li_22, li_23, li_24, li_25, li_26, li_27, li_28, li_29, li_30, li_31, li_32, li_33, li_34, li_35, li_36, li_37, li_38, li_39, li_40, li_41, li_42, li_43, li_44, li_45, li_46, li_47, li_48, li_49, li_50, li_51, li_52, li_53, li_54, li_55, li_56, li_57, li_58, li_59, li_60, li_61, li_63, li_70, li_96, li_97, li_99, li_100, li_101, li_102, li_120, li_122, li_126, li_200, li_255, li_423, li_555, li_999, li_1000, li_1111, li_2968, li_9999, li_10631, li_12345, li_14092, li_21470, li_65536, li_99233, nz_eq, n1_eq, n1_lt, n1_gt, n1_le, n1_ge, n1_sub, n1_add, nm_add, nz_add, nz_add2, z1_ne, z1_lt, z1_le, nI_1, pk_sub, nI_ltI, nI_leI, nI_eq, ni_neg, ni_nneg, ni_pos0, ni_nle0, ni_m1, gI_eq, gI_ne, xI_sJ, xI_sR, xR_sI, xR_sJ, xJ_sI, xJ_sR, gJ_eq, gJ_ne, gR_eq, gR_ne, if_true, if_false, ite_true, ite_false, not_true_eq_false, not_false_eq_true, decide_true, and_self, true_and, and_true, false_and, and_false, or_true, true_or, or_false, false_or, reduceIte, ne_eq]
    · unfold f_X12_ends
      simp (disch := omega) only [isPasM_no hm1 h, bnd_e, grd_t, bdI_e, bdV_e, bokA, bokB, ni_inb, ni_cl, nI_add, pk_mul, li_2, li_3, li_4, li_5, li_6, li_7, li_8, li_9, li_10, li_11, li_12, li_13, li_14, li_15, li_16, li_17, li_18, li_19, li_20, li_21, li_22, li_23, li_24, li_25, li_26, li_27, li_28, li_29, li_30, li_31, li_32, li_33, li_34, li_35, li_36, li_37, li_38, li_39, li_40, li_41, li_42, li_43, li_44, li_45, li_46, li_47, li_48, li_49, li_50, li_51, li_52, li_53, li_54, li_55, li_56, li_57, li_58, li_59, li_60, li_61, li_63, li_70, li_96, li_97, li_99, li_100, li_101, li_102, li_120, li_122, li_126, li_200, li_255, li_423, li_555, li_999, li_1000, li_1111, li_2968, li_9999, li_10631, li_12345, li_14092, li_21470, li_65536, li_99233, nz_eq, n1_eq, n1_lt, n1_gt, n1_le, n1_ge, n1_sub, n1_add, nm_add, nz_add, nz_add2, z1_ne, z1_lt, z1_le, nI_1, pk_sub, nI_ltI, nI_leI, nI_eq, ni_neg, ni_nneg, ni_pos0, ni_nle0, ni_m1, gI_eq, gI_ne, xI_sJ, xI_sR, xR_sI, xR_sJ, xJ_sI, xJ_sR, gJ_eq, gJ_ne, gR_eq, gR_ne, if_true, if_false, ite_true, ite_false, not_true_eq_false, not_false_eq_true, decide_true, and_self, true_and, and_true, false_and, and_false, or_true, true_or, or_false, false_or, reduceIte, ne_eq]
  rcases pk_ix a (n := C 0 1) (by omega) with h | h | ⟨j, hj, rfl⟩
  · exact no (Or.inl h)
  · exact no (Or.inr h)
  · refine of_key ?_
    obtain ⟨E, wr, hc, hE, hwr, key⟩ := tryB hR
    unfold f_X11_ends f_X12_ends
    simp (disch := omega) only [isPasP_yes hR.st hR.gr hp1 c1 hj, isPasM_yes hm1 c1 hj, bnd_e, grd_t, bdI_e, bdV_e, bokA, bokB, ni_inb, ni_cl, nI_add, pk_mul, li_2, li_3, li_4, li_5, li_6, li_7, li_8, li_9, li_10, li_11, li_12, li_13, li_14, li_15, li_16, li_17, li_18, li_19, li_20, li_21, li_22, li_23, li_24, li_25, li_26, li_27, li_28, li_29, li_30, li_31, li_32, li_33, li_34, li_35, li_36, li_37, li_38, li_39, li_40, li_41, li_42, li_43, li_44, li_45, li_46, li_47, li_48, li_49, li_50, li_51, li_52, li_53, li_54, li_55, li_56, li_57, li_58, li_59, li_60, li_61, li_63, li_70, li_96, li_97, li_99, li_100, li_101, li_102, li_120, li_122, li_126, li_200, li_255, li_423, li_555, li_999, li_1000, li_1111, li_2968, li_9999, li_10631, li_12345, li_14092, li_21470, li_65536, li_99233, nz_eq, n1_eq, n1_lt, n1_gt, n1_le, n1_ge, n1_sub, n1_add, nm_add, nz_add, nz_add2, z1_ne, z1_lt, z1_le, nI_1, pk_sub, nI_ltI, nI_leI, nI_eq, ni_neg, ni_nneg, ni_pos0, ni_nle0, ni_m1, gI_eq, gI_ne, xI_sJ, xI_sR, xR_sI, xR_sJ, xJ_sI, xJ_sR, gJ_eq, gJ_ne, gR_eq, gR_ne, if_true, if_false, ite_true, ite_false, not_true_eq_false, not_false_eq_true, decide_true, and_self, true_and, and_true, false_and, and_false, or_true, true_or, or_false, false_or, reduceIte, ne_eq]
    rw [Sat_bdI]
    refine key.mono ?_
    intro q h
    refine (Sat_some _ _).mpr ?_
    rw [Sat_bdI]
    refine h.mono ?_
    intro q' ⟨h1, h2, h3, h4, h5⟩
    refine (Sat_some _ _).mpr ⟨?_, C, st, S, h5⟩
    exact (h3.2.2.2.1 j (by omega)).2.trans (h4.1 j (by omega)).2.symm
/-! 11: away -/
theorem st_away : St_away Rel := by
  intro mP mM ⟨C, st, S, hR⟩
  refine of_key ?_
  obtain ⟨E, wr, hc, hE, hwr, key⟩ := tryB hR
  unfold f_X11_away f_X12_away
  rw [bnd_e, Sat_bdI]
  refine key.mono ?_
  intro q h
  obtain ⟨q', e', h1, h2, h3, h4, h5⟩ := h
  have c1 := hR.ok.2.1
  have okd := okDay hE hwr
  generalize dyD E wr = d at h1 h2 h3 h4 okd
  have hp1 : gI q.2 st 7 = nI (C 0 1) := h5.cP.2.1
  have hm1 : gI q'.2 2 1 = nI (C 0 1) := h5.cM.1 1 (by decide)
  have eP : lop (fun _ _ _ => none) f_X11_away_B10 4000 0 0 q.2 = some (ifo (fun i a => if dbg d i = -1 then a ||| (1 <<< (nI i &&& 31)) else a) 0 (C 0 1), q.2) := by
    refine acc_lop0 (R := fun a => some (a, q.2)) (C 0 1) (by omega) ?_ ?_
    · intro i a k hi
      have n1 : ¬ C 0 1 ≤ i := by omega
      have n2 : ¬ 7 ≤ i := by omega
      have e1 := (h3.2.2.2.1 i (by omega)).1
      unfold f_X11_away_B10 f_X11_away_J46
      by_cases z : dbg d i = -1
      · simp (disch := omega) only [h5.gr, Lst h5.st, hp1, n1, n2, e1, z, bnd_e, grd_t, bdI_e, bdV_e, bokA, bokB, ni_inb, ni_cl, nI_add, pk_mul, li_2, li_3, li_4, li_5, li_6, li_7, li_8, li_9, li_10, li_11, li_12, li_13, li_14, li_15, li_16, li_17, li_18, li_19, li_20, li_21, li_22, li_23, li_24, li_25, li_26, li_27, li_28, li_29, li_30, li_31, li_32, li_33, li_34, li_35, li_36, li_37, li_38, li_39, li_40, li_41, li_42, li_43, li_44, li_45, li_46, li_47, li_48, li_49, li_50, li_51, li_52, li_53, li_54, li_55, li_56, li_57, li_58, li_59, li_60, li_61, li_63, li_70, li_96, li_97, li_99, li_100, li_101, li_102, li_120, li_122, li_126, li_200, li_255, li_423, li_555, li_999, li_1000, li_1111, li_2968, li_9999, li_10631, li_12345, li_14092, li_21470, li_65536, li_99233, nz_eq, n1_eq, n1_lt, n1_gt, n1_le, n1_ge, n1_sub, n1_add, nm_add, nz_add, nz_add2, z1_ne, z1_lt, z1_le, nI_1, pk_sub, nI_ltI, nI_leI, nI_eq, ni_neg, ni_nneg, ni_pos0, ni_nle0, ni_m1, gI_eq, gI_ne, xI_sJ, xI_sR, xR_sI, xR_sJ, xJ_sI, xJ_sR, gJ_eq, gJ_ne, gR_eq, gR_ne, if_true, if_false, ite_true, ite_false, not_true_eq_false, not_false_eq_true, decide_true, and_self, true_and, and_true, false_and, and_false, or_true, true_or, or_false, false_or, reduceIte, ne_eq]
      · simp (disch := omega) only [h5.gr, Lst h5.st, hp1, n1, n2, e1, z, bnd_e, grd_t, bdI_e, bdV_e, bokA, bokB, ni_inb, ni_cl, nI_add, pk_mul, li_2, li_3, li_4, li_5, li_6, li_7, li_8, li_9, li_10, li_11, li_12, li_13, li_14, li_15, li_16, li_17, li_18, li_19, li_20, li_21, li_22, li_23, li_24, li_25, li_26, li_27, li_28, li_29, li_30, li_31, li_32, li_33, li_34, li_35, li_36, li_37, li_38, li_39, li_40, li_41, li_42, li_43, li_44, li_45, li_46, li_47, li_48, li_49, li_50, li_51, li_52, li_53, li_54, li_55, li_56, li_57, li_58, li_59, li_60, li_61, li_63, li_70, li_96, li_97, li_99, li_100, li_101, li_102, li_120, li_122, li_126, li_200, li_255, li_423, li_555, li_999, li_1000, li_1111, li_2968, li_9999, li_10631, li_12345, li_14092, li_21470, li_65536, li_99233, nz_eq, n1_eq, n1_lt, n1_gt, n1_le, n1_ge, n1_sub, n1_add, nm_add, nz_add, nz_add2, z1_ne, z1_lt, z1_le, nI_1, pk_sub, nI_ltI, nI_leI, nI_eq, ni_neg, ni_nneg, ni_pos0, ni_nle0, ni_m1, gI_eq, gI_ne, xI_sJ, xI_sR, xR_sI, xR_sJ, xJ_sI, xJ_sR, gJ_eq, gJ_ne, gR_eq, gR_ne, if_true, if_false, ite_true, ite_false, not_true_eq_false, not_false_eq_true, decide_true, and_self, true_and, and_true, false_and, and_false, or_true, true_or, or_false, false_or, reduceIte, ne_eq]
    · intro a k
      unfold f_X11_away_B10
      simp (disch := omega) only [h5.gr, Lst h5.st, hp1, Nat.le_refl, bnd_e, grd_t, bdI_e, bdV_e, bokA, bokB, ni_inb, ni_cl, nI_add, pk_mul, li_2, li_3, li_4, li_5, li_6, li_7, li_8, li_9, li_10, li_11, li_12, li_13, li_14, li_15, li_16, li_17, li_18, li_19, li_20, li_21, li_22, li_23, li_24, li_25, li_26, li_27, li_28, li_29, li_30, li_31, li_32, li_33, li_34, li_35, li_36, li_37, li_38, li_39, li_40, li_41, li_42, li_43, li_44, li_45, li_46, li_47, li_48, li_49, li_50, li_51, li_52, li_53, li_54, li_55, li_56, li_57, li_58, li_59, li_60, li_61, li_63, li_70, li_96, li_97, li_99, li_100, li_101, li_102, li_120, li_122, li_126, li_200, li_255, li_423, li_555, li_999, li_1000, li_1111, li_2968, li_9999, li_10631, li_12345, li_14092, li_21470, li_65536, li_99233, nz_eq, n1_eq, n1_lt, n1_gt, n1_le, n1_ge, n1_sub, n1_add, nm_add, nz_add, nz_add2, z1_ne, z1_lt, z1_le, nI_1, pk_sub, nI_ltI, nI_leI, nI_eq, ni_neg, ni_nneg, ni_pos0, ni_nle0, ni_m1, gI_eq, gI_ne, xI_sJ, xI_sR, xR_sI, xR_sJ, xJ_sI, xJ_sR, gJ_eq, gJ_ne, gR_eq, gR_ne, if_true, if_false, ite_true, ite_false, not_true_eq_false, not_false_eq_true, decide_true, and_self, true_and, and_true, false_and, and_false, or_true, true_or, or_false, false_or, reduceIte, ne_eq]
  have eM : lop (fun _ _ _ => none) f_X12_away_B14 4000 0 0 q'.2 = some (ifo (fun i a => if dbg d i = -1 then a ||| (1 <<< (nI i &&& 31)) else a) 0 (C 0 1), q'.2) := by
    refine acc_lop0 (R := fun a => some (a, q'.2)) (C 0 1) (by omega) ?_ ?_
    · intro i a k hi
      have n1 : ¬ C 0 1 ≤ i := by omega
      have e1 := (h4.1 i (by omega)).1
      unfold f_X12_away_B14 f_X12_away_J41
      rcases okd.2.2.2.1 i with z | ⟨b, z1, z2⟩
      · simp (disch := omega) only [hm1, n1, e1, z, bnd_e, grd_t, bdI_e, bdV_e, bokA, bokB, ni_inb, ni_cl, nI_add, pk_mul, li_2, li_3, li_4, li_5, li_6, li_7, li_8, li_9, li_10, li_11, li_12, li_13, li_14, li_15, li_16, li_17, li_18, li_19, li_20, li_21, li_22, li_23, li_24, li_25, li_26, li_27, li_28, li_29, li_30, li_31, li_32, li_33, li_34, li_35, li_36, li_37, li_38, li_39, li_40, li_41, li_42, li_43, li_44, li_45, li_46, li_47, li_48, li_49, li_50, li_51, li_52, li_53, li_54, li_55, li_56, li_57, li_58, li_59, li_60, li_61, li_63, li_70, li_96, li_97, li_99, li_100, li_101, li_102, li_120, li_122, li_126, li_200, li_255, li_423, li_555, li_999, li_1000, li_1111, li_2968, li_9999, li_10631, li_12345, li_14092, li_21470, li_65536, li_99233, nz_eq, n1_eq, n1_lt, n1_gt, n1_le, n1_ge, n1_sub, n1_add, nm_add, nz_add, nz_add2, z1_ne, z1_lt, z1_le, nI_1, pk_sub, nI_ltI, nI_leI, nI_eq, ni_neg, ni_nneg, ni_pos0, ni_nle0, ni_m1, gI_eq, gI_ne, xI_sJ, xI_sR, xR_sI, xR_sJ, xJ_sI, xJ_sR, gJ_eq, gJ_ne, gR_eq, gR_ne, if_true, if_false, ite_true, ite_false, not_true_eq_false, not_false_eq_true, decide_true, and_self, true_and, and_true, false_and, and_false, or_true, true_or, or_false, false_or, reduceIte, ne_eq]
      · have z3 := ni_m1 b (by omega)
        simp (disch := omega) only [hm1, n1, e1, z2, Int32.or_zero, bnd_e, grd_t, bdI_e, bdV_e, bokA, bokB, ni_inb, ni_cl, nI_add, pk_mul, li_2, li_3, li_4, li_5, li_6, li_7, li_8, li_9, li_10, li_11, li_12, li_13, li_14, li_15, li_16, li_17, li_18, li_19, li_20, li_21, li_22, li_23, li_24, li_25, li_26, li_27, li_28, li_29, li_30, li_31, li_32, li_33, li_34, li_35, li_36, li_37, li_38, li_39, li_40, li_41, li_42, li_43, li_44, li_45, li_46, li_47, li_48, li_49, li_50, li_51, li_52, li_53, li_54, li_55, li_56, li_57, li_58, li_59, li_60, li_61, li_63, li_70, li_96, li_97, li_99, li_100, li_101, li_102, li_120, li_122, li_126, li_200, li_255, li_423, li_555, li_999, li_1000, li_1111, li_2968, li_9999, li_10631, li_12345, li_14092, li_21470, li_65536, li_99233, nz_eq, n1_eq, n1_lt, n1_gt, n1_le, n1_ge, n1_sub, n1_add, nm_add, nz_add, nz_add2, z1_ne, z1_lt, z1_le, nI_1, pk_sub, nI_ltI, nI_leI, nI_eq, ni_neg, ni_nneg, ni_pos0, ni_nle0, ni_m1, gI_eq, gI_ne, xI_sJ, xI_sR, xR_sI, xR_sJ, xJ_sI, xJ_sR, gJ_eq, gJ_ne, gR_eq, gR_ne, if_true, if_false, ite_true, ite_false, not_true_eq_false, not_false_eq_true, decide_true, and_self, true_and, and_true, false_and, and_false, or_true, true_or, or_false, false_or, reduceIte, ne_eq]
    · intro a k
      unfold f_X12_away_B14
      simp (disch := omega) only [hm1, Nat.le_refl, bnd_e, grd_t, bdI_e, bdV_e, bokA, bokB, ni_inb, ni_cl, nI_add, pk_mul, li_2, li_3, li_4, li_5, li_6, li_7, li_8, li_9, li_10, li_11, li_12, li_13, li_14, li_15, li_16, li_17, li_18, li_19, li_20, li_21, li_22, li_23, li_24, li_25, li_26, li_27, li_28, li_29, li_30, li_31, li_32, li_33, li_34, li_35, li_36, li_37, li_38, li_39, li_40, li_41, li_42, li_43, li_44, li_45, li_46, li_47, li_48, li_49, li_50, li_51, li_52, li_53, li_54, li_55, li_56, li_57, li_58, li_59, li_60, li_61, li_63, li_70, li_96, li_97, li_99, li_100, li_101, li_102, li_120, li_122, li_126, li_200, li_255, li_423, li_555, li_999, li_1000, li_1111, li_2968, li_9999, li_10631, li_12345, li_14092, li_21470, li_65536, li_99233, nz_eq, n1_eq, n1_lt, n1_gt, n1_le, n1_ge, n1_sub, n1_add, nm_add, nz_add, nz_add2, z1_ne, z1_lt, z1_le, nI_1, pk_sub, nI_ltI, nI_leI, nI_eq, ni_neg, ni_nneg, ni_pos0, ni_nle0, ni_m1, gI_eq, gI_ne, xI_sJ, xI_sR, xR_sI, xR_sJ, xJ_sI, xJ_sR, gJ_eq, gJ_ne, gR_eq, gR_ne, if_true, if_false, ite_true, ite_false, not_true_eq_false, not_false_eq_true, decide_true, and_self, true_and, and_true, false_and, and_false, or_true, true_or, or_false, false_or, reduceIte, ne_eq]
  rw [eP]
  refine (Sat_some _ _).mpr ?_
  rw [e', bdI_e, eM]
  exact (Sat_some _ _).mpr ⟨rfl, C, st, S, h5⟩
/-! 10: now -/
def Qf (pl : Nat) (bg en : Nat → Int32) (s p : Nat) : Prop := bg p ≠ -1 ∧ ¬ (nI s < bg p) ∧ (p = pl ∨ ¬ (en p ≤ nI s))
def PaOKr (E : Ev) (t : Nat) (pl : Nat) (bg en : Nat → Int32) (pa : Nat → Nat) (s0 : Nat) : Prop := (∀ p, p < eP E → bg p ≠ -1 → p ≠ pl → ∃ n, n ≤ t ∧ en p = nI n) ∧ (∀ s, s < s0 → (pa s = 7 ∨ pa s < eP E) ∧ ∀ p, p < eP E → (pa s = p ↔ Qf pl bg en s p))
def PaOK (E : Ev) (t : Nat) (s0 : Nat) (d : Dy) : Prop := PaOKr E t (dpl d) (dbg d) (den d) (dpa d) s0
theorem paA {E : Ev} {t s0 : Nat} {d : Dy} (h : PaOK E t s0 d) : PaOK E t s0 (dA E t d) := by
  obtain ⟨L, pl, bg, en, wr, wn, sm, jy, bn, pa⟩ := d
  exact h
theorem paC {E : Ev} {t s0 s1 : Nat} {d : Dy} (h : PaOK E s1 s0 d) : PaOK E s1 s0 (dC E t d) := by
  obtain ⟨L, pl, bg, en, wr, wn, sm, jy, bn, pa⟩ := d
  exact h
theorem paB {E : Ev} {t : Nat} {o : Bool} {d : Dy} (ht : t ≤ 60) (hE : EvOK E) (h : PaOK E t t d) : PaOK E t t (dB E t o d) := by
  have e7 := eP7 hE
  obtain ⟨L, pl, bg, en, wr, wn, sm, jy, bn, pa⟩ := d
  obtain ⟨h1, h2⟩ := (show PaOKr E t pl bg en pa t from h)
  by_cases z : ends E t o pl (bg pl)
  · rw [dB_yes z]
    show PaOKr E t 7 bg (fun p => if p = pl then nI t else en p) pa t
    refine ⟨fun p hp hb _ => ?_, fun s hs => ⟨(h2 s hs).1, fun p hp => ?_⟩⟩
    · show ∃ n, n ≤ t ∧ (if p = pl then nI t else en p) = nI n
      by_cases y : p = pl
      · exact ⟨t, Nat.le_refl _, if_pos y⟩
      · obtain ⟨n, n1, n2⟩ := h1 p hp hb y
        exact ⟨n, n1, (if_neg y).trans n2⟩
    · rw [(h2 s hs).2 p hp]
      show Qf pl bg en s p ↔ (bg p ≠ -1 ∧ ¬ (nI s < bg p) ∧ (p = 7 ∨ ¬ ((if p = pl then nI t else en p) ≤ nI s)))
      unfold Qf
      by_cases y : p = pl
      · rw [if_pos y]
        have : ¬ nI t ≤ nI s := fun q => absurd ((nI_leI (by omega) (by omega)).mp q) (by omega)
        exact ⟨fun r => ⟨r.1, r.2.1, Or.inr this⟩, fun r => ⟨r.1, r.2.1, Or.inl y⟩⟩
      · rw [if_neg y]
        exact ⟨fun r => ⟨r.1, r.2.1, Or.inr (r.2.2.resolve_left y)⟩, fun r => ⟨r.1, r.2.1, Or.inr (r.2.2.resolve_left (by omega))⟩⟩
  · rw [dB_no z]
    exact h
theorem paD {E : Ev} {t : Nat} {d : Dy} (ht : t < 60) (hE : EvOK E) (ok : DyOK E (t + 1) d) (h : PaOK E t t d) : PaOK E t t (dD E t d) := by
  have e7 := eP7 hE
  obtain ⟨L, pl, bg, en, wr, wn, sm, jy, bn, pa⟩ := d
  obtain ⟨h1, h2⟩ := (show PaOKr E t pl bg en pa t from h)
  obtain ⟨o1, o2, o3, o4, o5, o6⟩ := (show DyOKr E _ L pl bg wr wn from ok)
  by_cases z : pl = 7 ∧ isO E t = true ∧ fx (drQ (eC E) (L.length - 1)) L < L.length
  · obtain ⟨z1, z2, z3⟩ := z
    rw [dD_yes z1 z2 rfl z3 rfl]
    have hm := o1 _ (getD_mem z3)
    generalize L.getD (fx (drQ (eC E) (L.length - 1)) L) 0 = q at hm
    show PaOKr E t q (fun p => if p = q then nI t else bg p) en pa t
    refine ⟨fun p hp hb hn => ?_, fun s hs => ⟨(h2 s hs).1, fun p hp => ?_⟩⟩
    · have hb' : (if p = q then nI t else bg p) ≠ -1 := hb
      rw [if_neg hn] at hb'
      exact h1 p hp hb' (by omega)
    · rw [(h2 s hs).2 p hp]
      show Qf pl bg en s p ↔ ((if p = q then nI t else bg p) ≠ -1 ∧ ¬ (nI s < (if p = q then nI t else bg p)) ∧ (p = q ∨ ¬ (en p ≤ nI s)))
      unfold Qf
      by_cases y : p = q
      · subst y
        rw [if_pos rfl]
        exact ⟨fun r => absurd hm.2.2 r.1, fun r => absurd ((nI_ltI (by omega) (by omega)).mpr hs) r.2.1⟩
      · rw [if_neg y]
        exact ⟨fun r => ⟨r.1, r.2.1, Or.inr (r.2.2.resolve_left (by omega))⟩, fun r => ⟨r.1, r.2.1, Or.inr (r.2.2.resolve_left y)⟩⟩
  · rw [dD_no z]
    exact h
theorem paE {E : Ev} {t : Nat} {d : Dy} (ht : t < 60) (hE : EvOK E) (ok : DyOK E (t + 1) d) (h : PaOK E t t d) : PaOK E (t + 1) (t + 1) (dE E t d) := by
  have e7 := eP7 hE
  obtain ⟨L, pl, bg, en, wr, wn, sm, jy, bn, pa⟩ := d
  obtain ⟨h1, h2⟩ := (show PaOKr E t pl bg en pa t from h)
  obtain ⟨o1, o2, o3, o4, o5, o6⟩ := (show DyOKr E _ L pl bg wr wn from ok)
  show PaOKr E (t + 1) pl bg en (fun s => if s = t then pl else pa s) (t + 1)
  refine ⟨fun p hp hb hn => ?_, fun s hs => ?_⟩
  · obtain ⟨n, n1, n2⟩ := h1 p hp hb hn
    exact ⟨n, by omega, n2⟩
  · show ((if s = t then pl else pa s) = 7 ∨ (if s = t then pl else pa s) < eP E) ∧ ∀ p, p < eP E → ((if s = t then pl else pa s) = p ↔ Qf pl bg en s p)
    by_cases y : s = t
    · subst y
      rw [if_pos rfl]
      refine ⟨o3.imp id (fun q => q.1), fun p hp => ?_⟩
      unfold Qf
      constructor
      · intro e
        subst e
        rcases o3 with q | ⟨g1, g2, g3, b, g4, g5⟩
        · omega
        · rw [g5]
          exact ⟨ni_nm1 b (by omega), fun q => absurd ((nI_ltI (by omega) (by omega)).mp q) (by omega), Or.inl rfl⟩
      · intro ⟨r1, r2, r3⟩
        rcases r3 with r | r
        · exact r.symm
        · by_cases v : p = pl
          · exact v.symm
          · obtain ⟨n, n1, n2⟩ := h1 p hp r1 v
            rw [n2] at r
            exact absurd ((nI_leI (by omega) (by omega)).mpr n1) r
    · rw [if_neg y]
      exact h2 s (by omega)
theorem paR {E : Ev} (hE : EvOK E) {wr : Nat → Nat} (h : ∀ k, k < 12 → wr k ≤ 9) : ∀ t, t ≤ 60 → PaOK E t t (dyR E wr t)
  | 0, _ => ⟨fun p _ hb => absurd rfl hb, fun s hs => absurd hs (by omega)⟩
  | t + 1, ht => by
    have ok := okR hE h t (by omega)
    have ih := paR hE h t (by omega)
    have e : dyR E wr (t + 1) = dyM E t (dyR E wr t) := rfl
    rw [e]
    generalize dyR E wr t = d at ok ih
    unfold dyM
    have o1 := okA hE (by omega : t < 60) ok
    have o2 : DyOK E (t + 1) (dC E t (dB E t (isO E t) (dA E t d))) := okC (okB o1)
    exact paE (by omega) hE (okD o2) (paD (by omega) hE o2 (paC (paB (by omega) hE (paA ih))))
theorem paDay {E : Ev} (hE : EvOK E) {wr : Nat → Nat} (h : ∀ k, k < 12 → wr k ≤ 9) : PaOK E 60 60 (dyD E wr) ∧ dpl (dyD E wr) = 7 := by
  have h1 := paR hE h 60 (Nat.le_refl _)
  have e : dyD E wr = dB E 60 false (dyR E wr 60) := rfl
  rw [e]
  generalize dyR E wr 60 = d at h1
  refine ⟨paB (Nat.le_refl _) hE h1, ?_⟩
  obtain ⟨L, pl, bg, en, wr, wn, sm, jy, bn, pa⟩ := d
  by_cases z : pl = 7
  · rw [dB_no (fun q => q.1 z)]
    exact z
  · rw [dB_yes ⟨z, Or.inl rfl⟩]
    rfl
theorem st_now : St_now Rel := by
  intro a mP mM ⟨C, st, S, hR⟩
  have hK : RelC C st S mP (sI mM 0 0 0) := hR.keep (SaP.refl _ _) (SaM.thr _ _)
  have c1 := hR.ok.2.1
  rcases pk_ix a (n := 60) (by decide) with h | h | ⟨j, hj, rfl⟩
  · refine ⟨-1, mP, sI mM 0 0 0, ?_, ?_, ⟨C, st, S, hK⟩⟩
    · unfold f_X11_now
      simp (disch := omega) only [ng_t h, bnd_e, grd_t, bdI_e, bdV_e, bokA, bokB, ni_inb, ni_cl, nI_add, pk_mul, li_2, li_3, li_4, li_5, li_6, li_7, li_8, li_9, li_10, li_11, li_12, li_13, li_14, li_15, li_16, li_17, li_18, li_19, li_20, li_21, li_22, li_23, li_24, li_25, li_26, li_27, li_28, li_29, li_30, li_31, li_32, li_33, li_34, li_35, li_36, li_37, li_38, li_39, li_40, li_41, li_42, li_43, li_44, li_45, li_46, li_47, li_48, li_49, li_50, li_51, li_52, li_53, li_54, li_55, li_56, li_57, li_58, li_59, li_60, li_61, li_63, li_70, li_96, li_97, li_99, li_100, li_101, li_102, li_120, li_122, li_126, li_200, li_255, li_423, li_555, li_999, li_1000, li_1111, li_2968, li_9999, li_10631, li_12345, li_14092, li_21470, li_65536, li_99233, nz_eq, n1_eq, n1_lt, n1_gt, n1_le, n1_ge, n1_sub, n1_add, nm_add, nz_add, nz_add2, z1_ne, z1_lt, z1_le, nI_1, pk_sub, nI_ltI, nI_leI, nI_eq, ni_neg, ni_nneg, ni_pos0, ni_nle0, ni_m1, gI_eq, gI_ne, xI_sJ, xI_sR, xR_sI, xR_sJ, xJ_sI, xJ_sR, gJ_eq, gJ_ne, gR_eq, gR_ne, if_true, if_false, ite_true, ite_false, not_true_eq_false, not_false_eq_true, decide_true, and_self, true_and, and_true, false_and, and_false, or_true, true_or, or_false, false_or, reduceIte, ne_eq]
    · unfold f_X12_now
      simp (disch := omega) only [within_e, ng_t h, bnd_e, grd_t, bdI_e, bdV_e, bokA, bokB, ni_inb, ni_cl, nI_add, pk_mul, li_2, li_3, li_4, li_5, li_6, li_7, li_8, li_9, li_10, li_11, li_12, li_13, li_14, li_15, li_16, li_17, li_18, li_19, li_20, li_21, li_22, li_23, li_24, li_25, li_26, li_27, li_28, li_29, li_30, li_31, li_32, li_33, li_34, li_35, li_36, li_37, li_38, li_39, li_40, li_41, li_42, li_43, li_44, li_45, li_46, li_47, li_48, li_49, li_50, li_51, li_52, li_53, li_54, li_55, li_56, li_57, li_58, li_59, li_60, li_61, li_63, li_70, li_96, li_97, li_99, li_100, li_101, li_102, li_120, li_122, li_126, li_200, li_255, li_423, li_555, li_999, li_1000, li_1111, li_2968, li_9999, li_10631, li_12345, li_14092, li_21470, li_65536, li_99233, nz_eq, n1_eq, n1_lt, n1_gt, n1_le, n1_ge, n1_sub, n1_add, nm_add, nz_add, nz_add2, z1_ne, z1_lt, z1_le, nI_1, pk_sub, nI_ltI, nI_leI, nI_eq, ni_neg, ni_nneg, ni_pos0, ni_nle0, ni_m1, gI_eq, gI_ne, xI_sJ, xI_sR, xR_sI, xR_sJ, xJ_sI, xJ_sR, gJ_eq, gJ_ne, gR_eq, gR_ne, if_true, if_false, ite_true, ite_false, not_true_eq_false, not_false_eq_true, decide_true, and_self, true_and, and_true, false_and, and_false, or_true, true_or, or_false, false_or, reduceIte, ne_eq]
  · refine ⟨-1, mP, sI mM 0 0 0, ?_, ?_, ⟨C, st, S, hK⟩⟩
    · unfold f_X11_now
      simp (disch := omega) only [bg_neg h (by decide), bg_lt2 h (by decide) 60 (by decide), bnd_e, grd_t, bdI_e, bdV_e, bokA, bokB, ni_inb, ni_cl, nI_add, pk_mul, li_2, li_3, li_4, li_5, li_6, li_7, li_8, li_9, li_10, li_11, li_12, li_13, li_14, li_15, li_16, li_17, li_18, li_19, li_20, li_21, li_22, li_23, li_24, li_25, li_26, li_27, li_28, li_29, li_30, li_31, li_32, li_33, li_34, li_35, li_36, li_37, li_38, li_39, li_40, li_41, li_42, li_43, li_44, li_45, li_46, li_47, li_48, li_49, li_50, li_51, li_52, li_53, li_54, li_55, li_56, li_57, li_58, li_59, li_60, li_61, li_63, li_70, li_96, li_97, li_99, li_100, li_101, li_102, li_120, li_122, li_126, li_200, li_255, li_423, li_555, li_999, li_1000, li_1111, li_2968, li_9999, li_10631, li_12345, li_14092, li_21470, li_65536, li_99233, nz_eq, n1_eq, n1_lt, n1_gt, n1_le, n1_ge, n1_sub, n1_add, nm_add, nz_add, nz_add2, z1_ne, z1_lt, z1_le, nI_1, pk_sub, nI_ltI, nI_leI, nI_eq, ni_neg, ni_nneg, ni_pos0, ni_nle0, ni_m1, gI_eq, gI_ne, xI_sJ, xI_sR, xR_sI, xR_sJ, xJ_sI, xJ_sR, gJ_eq, gJ_ne, gR_eq, gR_ne, if_true, if_false, ite_true, ite_false, not_true_eq_false, not_false_eq_true, decide_true, and_self, true_and, and_true, false_and, and_false, or_true, true_or, or_false, false_or, reduceIte, ne_eq]
    · unfold f_X12_now
      simp (disch := omega) only [within_e, bg_neg h (by decide), bg_lt h (by decide) 59 (by decide), bnd_e, grd_t, bdI_e, bdV_e, bokA, bokB, ni_inb, ni_cl, nI_add, pk_mul, li_2, li_3, li_4, li_5, li_6, li_7, li_8, li_9, li_10, li_11, li_12, li_13, li_14, li_15, li_16, li_17, li_18, li_19, li_20, li_21, li_22, li_23, li_24, li_25, li_26, li_27, li_28, li_29, li_30, li_31, li_32, li_33, li_34, li_35, li_36, li_37, li_38, li_39, li_40, li_41, li_42, li_43, li_44, li_45, li_46, li_47, li_48, li_49, li_50, li_51, li_52, li_53, li_54, li_55, li_56, li_57, li_58, li_59, li_60, li_61, li_63, li_70, li_96, li_97, li_99, li_100, li_101, li_102, li_120, li_122, li_126, li_200, li_255, li_423, li_555, li_999, li_1000, li_1111, li_2968, li_9999, li_10631, li_12345, li_14092, li_21470, li_65536, li_99233, nz_eq, n1_eq, n1_lt, n1_gt, n1_le, n1_ge, n1_sub, n1_add, nm_add, nz_add, nz_add2, z1_ne, z1_lt, z1_le, nI_1, pk_sub, nI_ltI, nI_leI, nI_eq, ni_neg, ni_nneg, ni_pos0, ni_nle0, ni_m1, gI_eq, gI_ne, xI_sJ, xI_sR, xR_sI, xR_sJ, xJ_sI, xJ_sR, gJ_eq, gJ_ne, gR_eq, gR_ne, if_true, if_false, ite_true, ite_false, not_true_eq_false, not_false_eq_true, decide_true, and_self, true_and, and_true, false_and, and_false, or_true, true_or, or_false, false_or, reduceIte, ne_eq]
  · obtain ⟨E, wr, hc, hE, hwr, key⟩ := tryB hR
    have n59 : ¬ 59 < j := by omega
    obtain ⟨q, e, q', e', h1, h2, h3, h4, h5⟩ := key
    have pd := paDay hE hwr
    generalize dyD E wr = d at h1 h2 h3 h4 pd
    have hp1 : gI q.2 st 7 = nI (C 0 1) := h5.cP.2.1
    have ePe : eP E = C 0 1 := by rw [← hc]; rfl
    obtain ⟨pa1, pa2⟩ := pd.1.2 j hj
    rw [ePe, pd.2] at pa2
    rw [ePe] at pa1
    have e45 := h4.2.1 j hj
    refine ⟨pI (dpa d j), q.2, q'.2, ?_, ?_, ⟨C, st, S, h5⟩⟩
    · unfold f_X11_now
      simp (disch := omega) only [hj, e, bnd_e, grd_t, bdI_e, bdV_e, bokA, bokB, ni_inb, ni_cl, nI_add, pk_mul, li_2, li_3, li_4, li_5, li_6, li_7, li_8, li_9, li_10, li_11, li_12, li_13, li_14, li_15, li_16, li_17, li_18, li_19, li_20, li_21, li_22, li_23, li_24, li_25, li_26, li_27, li_28, li_29, li_30, li_31, li_32, li_33, li_34, li_35, li_36, li_37, li_38, li_39, li_40, li_41, li_42, li_43, li_44, li_45, li_46, li_47, li_48, li_49, li_50, li_51, li_52, li_53, li_54, li_55, li_56, li_57, li_58, li_59, li_60, li_61, li_63, li_70, li_96, li_97, li_99, li_100, li_101, li_102, li_120, li_122, li_126, li_200, li_255, li_423, li_555, li_999, li_1000, li_1111, li_2968, li_9999, li_10631, li_12345, li_14092, li_21470, li_65536, li_99233, nz_eq, n1_eq, n1_lt, n1_gt, n1_le, n1_ge, n1_sub, n1_add, nm_add, nz_add, nz_add2, z1_ne, z1_lt, z1_le, nI_1, pk_sub, nI_ltI, nI_leI, nI_eq, ni_neg, ni_nneg, ni_pos0, ni_nle0, ni_m1, gI_eq, gI_ne, xI_sJ, xI_sR, xR_sI, xR_sJ, xJ_sI, xJ_sR, gJ_eq, gJ_ne, gR_eq, gR_ne, if_true, if_false, ite_true, ite_false, not_true_eq_false, not_false_eq_true, decide_true, and_self, true_and, and_true, false_and, and_false, or_true, true_or, or_false, false_or, reduceIte, ne_eq]
      suffices hs : Sat (lop (fun _ _ => none) (f_X11_now_B20 (nI j)) 4000 0 q.2) (fun a => a = (pI (dpa d j), q.2)) by
        obtain ⟨a, ea, ha⟩ := hs
        rw [ea, ha]
      refine cnt1 (C 0 1) (by omega) (fun i n => n = q.2 ∧ ∀ p, p < i → ¬ Qf 7 (dbg d) (den d) j p) ?_ ?_ ⟨rfl, fun p hp => absurd hp (by omega)⟩
      · intro i n k hi ⟨a1, a2⟩ hk
        subst a1
        have n1 : ¬ C 0 1 ≤ i := by omega
        have n2 : ¬ 7 ≤ i := by omega
        have e83 := (h3.2.2.2.1 i (by omega)).1
        have e84 := (h3.2.2.2.1 i (by omega)).2
        have nx := fun (nq : ¬ Qf 7 (dbg d) (den d) j i) => hk q.2 ⟨rfl, fun p hp => by
          by_cases z : p = i
          · subst z; exact nq
          · exact a2 p (by omega)⟩
        unfold f_X11_now_B20 f_X11_now_J78
        by_cases z1 : dbg d i = -1
        · simp (disch := omega) only [h5.gr, Lst h5.st, hp1, n1, n2, e83, z1, bnd_e, grd_t, bdI_e, bdV_e, bokA, bokB, ni_inb, ni_cl, nI_add, pk_mul, li_2, li_3, li_4, li_5, li_6, li_7, li_8, li_9, li_10, li_11, li_12, li_13, li_14, li_15, li_16, li_17, li_18, li_19, li_20, li_21, li_22, li_23, li_24, li_25, li_26, li_27, li_28, li_29, li_30, li_31, li_32, li_33, li_34, li_35, li_36, li_37, li_38, li_39, li_40, li_41, li_42, li_43, li_44, li_45, li_46, li_47, li_48, li_49, li_50, li_51, li_52, li_53, li_54, li_55, li_56, li_57, li_58, li_59, li_60, li_61, li_63, li_70, li_96, li_97, li_99, li_100, li_101, li_102, li_120, li_122, li_126, li_200, li_255, li_423, li_555, li_999, li_1000, li_1111, li_2968, li_9999, li_10631, li_12345, li_14092, li_21470, li_65536, li_99233, nz_eq, n1_eq, n1_lt, n1_gt, n1_le, n1_ge, n1_sub, n1_add, nm_add, nz_add, nz_add2, z1_ne, z1_lt, z1_le, nI_1, pk_sub, nI_ltI, nI_leI, nI_eq, ni_neg, ni_nneg, ni_pos0, ni_nle0, ni_m1, gI_eq, gI_ne, xI_sJ, xI_sR, xR_sI, xR_sJ, xJ_sI, xJ_sR, gJ_eq, gJ_ne, gR_eq, gR_ne, if_true, if_false, ite_true, ite_false, not_true_eq_false, not_false_eq_true, decide_true, and_self, true_and, and_true, false_and, and_false, or_true, true_or, or_false, false_or, reduceIte, ne_eq]
          exact nx (fun r => r.1 z1)
        · by_cases z2 : nI j < dbg d i
          · simp (disch := omega) only [h5.gr, Lst h5.st, hp1, n1, n2, e83, z1, z2, bnd_e, grd_t, bdI_e, bdV_e, bokA, bokB, ni_inb, ni_cl, nI_add, pk_mul, li_2, li_3, li_4, li_5, li_6, li_7, li_8, li_9, li_10, li_11, li_12, li_13, li_14, li_15, li_16, li_17, li_18, li_19, li_20, li_21, li_22, li_23, li_24, li_25, li_26, li_27, li_28, li_29, li_30, li_31, li_32, li_33, li_34, li_35, li_36, li_37, li_38, li_39, li_40, li_41, li_42, li_43, li_44, li_45, li_46, li_47, li_48, li_49, li_50, li_51, li_52, li_53, li_54, li_55, li_56, li_57, li_58, li_59, li_60, li_61, li_63, li_70, li_96, li_97, li_99, li_100, li_101, li_102, li_120, li_122, li_126, li_200, li_255, li_423, li_555, li_999, li_1000, li_1111, li_2968, li_9999, li_10631, li_12345, li_14092, li_21470, li_65536, li_99233, nz_eq, n1_eq, n1_lt, n1_gt, n1_le, n1_ge, n1_sub, n1_add, nm_add, nz_add, nz_add2, z1_ne, z1_lt, z1_le, nI_1, pk_sub, nI_ltI, nI_leI, nI_eq, ni_neg, ni_nneg, ni_pos0, ni_nle0, ni_m1, gI_eq, gI_ne, xI_sJ, xI_sR, xR_sI, xR_sJ, xJ_sI, xJ_sR, gJ_eq, gJ_ne, gR_eq, gR_ne, if_true, if_false, ite_true, ite_false, not_true_eq_false, not_false_eq_true, decide_true, and_self, true_and, and_true, false_and, and_false, or_true, true_or, or_false, false_or, reduceIte, ne_eq]
            exact nx (fun r => r.2.1 z2)
          · by_cases z3 : den d i ≤ nI j
            · simp (disch := omega) only [h5.gr, Lst h5.st, hp1, n1, n2, e83, e84, z1, z2, z3, bnd_e, grd_t, bdI_e, bdV_e, bokA, bokB, ni_inb, ni_cl, nI_add, pk_mul, li_2, li_3, li_4, li_5, li_6, li_7, li_8, li_9, li_10, li_11, li_12, li_13, li_14, li_15, li_16, li_17, li_18, li_19, li_20, li_21, li_22, li_23, li_24, li_25, li_26, li_27, li_28, li_29, li_30, li_31, li_32, li_33, li_34, li_35, li_36, li_37, li_38, li_39, li_40, li_41, li_42, li_43, li_44, li_45, li_46, li_47, li_48, li_49, li_50, li_51, li_52, li_53, li_54, li_55, li_56, li_57, li_58, li_59, li_60, li_61, li_63, li_70, li_96, li_97, li_99, li_100, li_101, li_102, li_120, li_122, li_126, li_200, li_255, li_423, li_555, li_999, li_1000, li_1111, li_2968, li_9999, li_10631, li_12345, li_14092, li_21470, li_65536, li_99233, nz_eq, n1_eq, n1_lt, n1_gt, n1_le, n1_ge, n1_sub, n1_add, nm_add, nz_add, nz_add2, z1_ne, z1_lt, z1_le, nI_1, pk_sub, nI_ltI, nI_leI, nI_eq, ni_neg, ni_nneg, ni_pos0, ni_nle0, ni_m1, gI_eq, gI_ne, xI_sJ, xI_sR, xR_sI, xR_sJ, xJ_sI, xJ_sR, gJ_eq, gJ_ne, gR_eq, gR_ne, if_true, if_false, ite_true, ite_false, not_true_eq_false, not_false_eq_true, decide_true, and_self, true_and, and_true, false_and, and_false, or_true, true_or, or_false, false_or, reduceIte, ne_eq]
              exact nx (fun r => r.2.2.elim (fun r => by omega) (fun r => r z3))
            · simp (disch := omega) only [h5.gr, Lst h5.st, hp1, n1, n2, e83, e84, z1, z2, z3, bnd_e, grd_t, bdI_e, bdV_e, bokA, bokB, ni_inb, ni_cl, nI_add, pk_mul, li_2, li_3, li_4, li_5, li_6, li_7, li_8, li_9, li_10, li_11, li_12, li_13, li_14, li_15, li_16, li_17, li_18, li_19, li_20, li_21, li_22, li_23, li_24, li_25, li_26, li_27, li_28, li_29, li_30, li_31, li_32, li_33, li_34, li_35, li_36, li_37, li_38, li_39, li_40, li_41, li_42, li_43, li_44, li_45, li_46, li_47, li_48, li_49, li_50, li_51, li_52, li_53, li_54, li_55, li_56, li_57, li_58, li_59, li_60, li_61, li_63, li_70, li_96, li_97, li_99, li_100, li_101, li_102, li_120, li_122, li_126, li_200, li_255, li_423, li_555, li_999, li_1000, li_1111, li_2968, li_9999, li_10631, li_12345, li_14092, li_21470, li_65536, li_99233, nz_eq, n1_eq, n1_lt, n1_gt, n1_le, n1_ge, n1_sub, n1_add, nm_add, nz_add, nz_add2, z1_ne, z1_lt, z1_le, nI_1, pk_sub, nI_ltI, nI_leI, nI_eq, ni_neg, ni_nneg, ni_pos0, ni_nle0, ni_m1, gI_eq, gI_ne, xI_sJ, xI_sR, xR_sI, xR_sJ, xJ_sI, xJ_sR, gJ_eq, gJ_ne, gR_eq, gR_ne, if_true, if_false, ite_true, ite_false, not_true_eq_false, not_false_eq_true, decide_true, and_self, true_and, and_true, false_and, and_false, or_true, true_or, or_false, false_or, reduceIte, ne_eq]
              refine (Sat_some _ _).mpr ?_
              rw [(pa2 i hi).mpr ⟨z1, z2, Or.inr z3⟩, pI_n (by omega)]
      · intro n k ⟨a1, a2⟩
        subst a1
        unfold f_X11_now_B20
        simp (disch := omega) only [h5.gr, Lst h5.st, hp1, Nat.le_refl, bnd_e, grd_t, bdI_e, bdV_e, bokA, bokB, ni_inb, ni_cl, nI_add, pk_mul, li_2, li_3, li_4, li_5, li_6, li_7, li_8, li_9, li_10, li_11, li_12, li_13, li_14, li_15, li_16, li_17, li_18, li_19, li_20, li_21, li_22, li_23, li_24, li_25, li_26, li_27, li_28, li_29, li_30, li_31, li_32, li_33, li_34, li_35, li_36, li_37, li_38, li_39, li_40, li_41, li_42, li_43, li_44, li_45, li_46, li_47, li_48, li_49, li_50, li_51, li_52, li_53, li_54, li_55, li_56, li_57, li_58, li_59, li_60, li_61, li_63, li_70, li_96, li_97, li_99, li_100, li_101, li_102, li_120, li_122, li_126, li_200, li_255, li_423, li_555, li_999, li_1000, li_1111, li_2968, li_9999, li_10631, li_12345, li_14092, li_21470, li_65536, li_99233, nz_eq, n1_eq, n1_lt, n1_gt, n1_le, n1_ge, n1_sub, n1_add, nm_add, nz_add, nz_add2, z1_ne, z1_lt, z1_le, nI_1, pk_sub, nI_ltI, nI_leI, nI_eq, ni_neg, ni_nneg, ni_pos0, ni_nle0, ni_m1, gI_eq, gI_ne, xI_sJ, xI_sR, xR_sI, xR_sJ, xJ_sI, xJ_sR, gJ_eq, gJ_ne, gR_eq, gR_ne, if_true, if_false, ite_true, ite_false, not_true_eq_false, not_false_eq_true, decide_true, and_self, true_and, and_true, false_and, and_false, or_true, true_or, or_false, false_or, reduceIte, ne_eq]
        refine (Sat_some _ _).mpr ?_
        rcases pa1 with r | r
        · rw [r, pI_7]
        · exact absurd ((pa2 _ r).mp rfl) (a2 _ r)
    · unfold f_X12_now
      simp (disch := omega) only [within_e, hj, n59, e', e45, bnd_e, grd_t, bdI_e, bdV_e, bokA, bokB, ni_inb, ni_cl, nI_add, pk_mul, li_2, li_3, li_4, li_5, li_6, li_7, li_8, li_9, li_10, li_11, li_12, li_13, li_14, li_15, li_16, li_17, li_18, li_19, li_20, li_21, li_22, li_23, li_24, li_25, li_26, li_27, li_28, li_29, li_30, li_31, li_32, li_33, li_34, li_35, li_36, li_37, li_38, li_39, li_40, li_41, li_42, li_43, li_44, li_45, li_46, li_47, li_48, li_49, li_50, li_51, li_52, li_53, li_54, li_55, li_56, li_57, li_58, li_59, li_60, li_61, li_63, li_70, li_96, li_97, li_99, li_100, li_101, li_102, li_120, li_122, li_126, li_200, li_255, li_423, li_555, li_999, li_1000, li_1111, li_2968, li_9999, li_10631, li_12345, li_14092, li_21470, li_65536, li_99233, nz_eq, n1_eq, n1_lt, n1_gt, n1_le, n1_ge, n1_sub, n1_add, nm_add, nz_add, nz_add2, z1_ne, z1_lt, z1_le, nI_1, pk_sub, nI_ltI, nI_leI, nI_eq, ni_neg, ni_nneg, ni_pos0, ni_nle0, ni_m1, gI_eq, gI_ne, xI_sJ, xI_sR, xR_sI, xR_sJ, xJ_sI, xJ_sR, gJ_eq, gJ_ne, gR_eq, gR_ne, if_true, if_false, ite_true, ite_false, not_true_eq_false, not_false_eq_true, decide_true, and_self, true_and, and_true, false_and, and_false, or_true, true_or, or_false, false_or, reduceIte, ne_eq]
