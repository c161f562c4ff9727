/-! a minute of the other -/
theorem openM {E : Ev} {m : Mm} {t : Nat} (hE : EvOK E) (ev : EvM E m) (ht : t < 60) : f_X12_isOpenAt (nI t) m = some (bO (isO E t), m) := by
  obtain ⟨-, -, -, -, h5, h6, -⟩ := ev
  have bf := hE.2.2.1
  have bt := hE.2.2.2.1
  unfold f_X12_isOpenAt
  by_cases z1 : t < eF E
  · have : isO E t = false := decide_eq_false (fun q => by omega)
    rw [this]
    simp (disch := omega) only [h5, h6, z1, bnd_e, grd_t, bdI_e, bdV_e, bokA, bokB, ni_inb, ni_cl, nI_add, pk_mul, li_2, li_3, li_4, li_5, li_6, li_7, li_8, li_9, li_10, li_11, li_12, li_13, li_14, li_15, li_16, li_17, li_18, li_19, li_20, li_21, li_22, li_23, li_24, li_25, li_26, li_27, li_28, li_29, li_30, li_31, li_32, li_33, li_34, li_35, li_36, li_37, li_38, li_39, li_40, li_41, li_42, li_43, li_44, li_45, li_46, li_47, li_48, li_49, li_50, li_51, li_52, li_53, li_54, li_55, li_56, li_57, li_58, li_59, li_60, li_61, li_63, li_70, li_96, li_97, li_99, li_100, li_101, li_102, li_120, li_122, li_126, li_200, li_255, li_423, li_555, li_999, li_1000, li_1111, li_2968, li_9999, li_10631, li_12345, li_14092, li_21470, li_65536, li_99233, nz_eq, n1_eq, n1_lt, n1_gt, n1_le, n1_ge, n1_sub, n1_add, nm_add, nz_add, nz_add2, z1_ne, z1_lt, z1_le, nI_1, pk_sub, nI_ltI, nI_leI, nI_eq, ni_neg, ni_nneg, ni_pos0, ni_nle0, ni_m1, gI_eq, gI_ne, xI_sJ, xI_sR, xR_sI, xR_sJ, xJ_sI, xJ_sR, gJ_eq, gJ_ne, gR_eq, gR_ne, if_true, if_false, ite_true, ite_false, not_true_eq_false, not_false_eq_true, decide_true, and_self, true_and, and_true, false_and, and_false, or_true, true_or, or_false, false_or, reduceIte, ne_eq]
    rfl
  · by_cases z2 : eT E ≤ t
    · have : isO E t = false := decide_eq_false (fun q => by omega)
      rw [this]
      simp (disch := omega) only [h5, h6, z1, z2, bnd_e, grd_t, bdI_e, bdV_e, bokA, bokB, ni_inb, ni_cl, nI_add, pk_mul, li_2, li_3, li_4, li_5, li_6, li_7, li_8, li_9, li_10, li_11, li_12, li_13, li_14, li_15, li_16, li_17, li_18, li_19, li_20, li_21, li_22, li_23, li_24, li_25, li_26, li_27, li_28, li_29, li_30, li_31, li_32, li_33, li_34, li_35, li_36, li_37, li_38, li_39, li_40, li_41, li_42, li_43, li_44, li_45, li_46, li_47, li_48, li_49, li_50, li_51, li_52, li_53, li_54, li_55, li_56, li_57, li_58, li_59, li_60, li_61, li_63, li_70, li_96, li_97, li_99, li_100, li_101, li_102, li_120, li_122, li_126, li_200, li_255, li_423, li_555, li_999, li_1000, li_1111, li_2968, li_9999, li_10631, li_12345, li_14092, li_21470, li_65536, li_99233, nz_eq, n1_eq, n1_lt, n1_gt, n1_le, n1_ge, n1_sub, n1_add, nm_add, nz_add, nz_add2, z1_ne, z1_lt, z1_le, nI_1, pk_sub, nI_ltI, nI_leI, nI_eq, ni_neg, ni_nneg, ni_pos0, ni_nle0, ni_m1, gI_eq, gI_ne, xI_sJ, xI_sR, xR_sI, xR_sJ, xJ_sI, xJ_sR, gJ_eq, gJ_ne, gR_eq, gR_ne, if_true, if_false, ite_true, ite_false, not_true_eq_false, not_false_eq_true, decide_true, and_self, true_and, and_true, false_and, and_false, or_true, true_or, or_false, false_or, reduceIte, ne_eq]
      rfl
    · have : isO E t = true := decide_eq_true ⟨by omega, by omega⟩
      rw [this]
      simp (disch := omega) only [h5, h6, z1, z2, bnd_e, grd_t, bdI_e, bdV_e, bokA, bokB, ni_inb, ni_cl, nI_add, pk_mul, li_2, li_3, li_4, li_5, li_6, li_7, li_8, li_9, li_10, li_11, li_12, li_13, li_14, li_15, li_16, li_17, li_18, li_19, li_20, li_21, li_22, li_23, li_24, li_25, li_26, li_27, li_28, li_29, li_30, li_31, li_32, li_33, li_34, li_35, li_36, li_37, li_38, li_39, li_40, li_41, li_42, li_43, li_44, li_45, li_46, li_47, li_48, li_49, li_50, li_51, li_52, li_53, li_54, li_55, li_56, li_57, li_58, li_59, li_60, li_61, li_63, li_70, li_96, li_97, li_99, li_100, li_101, li_102, li_120, li_122, li_126, li_200, li_255, li_423, li_555, li_999, li_1000, li_1111, li_2968, li_9999, li_10631, li_12345, li_14092, li_21470, li_65536, li_99233, nz_eq, n1_eq, n1_lt, n1_gt, n1_le, n1_ge, n1_sub, n1_add, nm_add, nz_add, nz_add2, z1_ne, z1_lt, z1_le, nI_1, pk_sub, nI_ltI, nI_leI, nI_eq, ni_neg, ni_nneg, ni_pos0, ni_nle0, ni_m1, gI_eq, gI_ne, xI_sJ, xI_sR, xR_sI, xR_sJ, xJ_sI, xJ_sR, gJ_eq, gJ_ne, gR_eq, gR_ne, if_true, if_false, ite_true, ite_false, not_true_eq_false, not_false_eq_true, decide_true, and_self, true_and, and_true, false_and, and_false, or_true, true_or, or_false, false_or, reduceIte, ne_eq]
      rfl
theorem mE {E : Ev} {m : Mm} {t s : Nat} {d : Dy} {x : Int32} (hE : EvOK E) (ev : EvM E m) (ok : DyOK E s d) (ht : t < 60) (hd : DyM E t d m) : Sat (f_X12_passesMinute_J181 (nI t) x (pI (dpl d)) m) (fun q => q.1 = pI (dpl d) ∧ DyM E (t + 1) (dE E t d) q.2 ∧ Kp WMd m q.2) := by
  obtain ⟨L, pl, bg, en, wr, wn, sm, jy, bn, pa⟩ := d
  obtain ⟨o1, o2, o3, o4, o5, o6⟩ := (show DyOKr E _ L pl bg wr wn from ok)
  obtain ⟨b1, b2, b3, b4, b5, b6, b7⟩ := (show DyMr E t L pl bg en wr sm jy bn pa m from hd)
  have e7 := eP7 hE
  show Sat (f_X12_passesMinute_J181 (nI t) x (pI pl) m) (fun q => q.1 = pI pl ∧ DyMr E (t + 1) L pl bg en wr sm (if pl = 7 then jy else jy + joF E pl wn L.length sm) bn (fun s => if s = t then pl else pa s) q.2 ∧ Kp WMd m q.2)
  unfold f_X12_passesMinute_J181 f_X12_passesMinute_J199
  have fin : ∀ (v j : Int32) (n : Mm), v = pI pl → Kp (fun a k => (18 ≤ a ∧ a ≤ 27) ∨ (a = 0 ∧ k = 63)) m n → gI n 0 63 = j → Sat (bnd (sI n 45 t v) fun m39 => some (v, m39)) (fun q => q.1 = pI pl ∧ DyMr E (t + 1) L pl bg en wr sm j bn (fun s => if s = t then pl else pa s) q.2 ∧ Kp WMd m q.2) := by
    intro v j n hv hn hj
    subst hv
    rw [bnd_e]
    refine (Sat_some _ _).mpr ⟨rfl, ⟨fun p hp => ?_, fun p hp => ⟨?_, ?_⟩, fun k hk => ?_, ?_, ?_, fun h7 => ?_, fun s hs => ?_⟩, (hn.mono (fun a k q => by unfold WMd; omega)).sI _ (by unfold WMd; omega)⟩
    · simp (disch := omega) only [bnd_e, grd_t, bdI_e, bdV_e, bokA, bokB, ni_inb, ni_cl, nI_add, pk_mul, li_2, li_3, li_4, li_5, li_6, li_7, li_8, li_9, li_10, li_11, li_12, li_13, li_14, li_15, li_16, li_17, li_18, li_19, li_20, li_21, li_22, li_23, li_24, li_25, li_26, li_27, li_28, li_29, li_30, li_31, li_32, li_33, li_34, li_35, li_36, li_37, li_38, li_39, li_40, li_41, li_42, li_43, li_44, li_45, li_46, li_47, li_48, li_49, li_50, li_51, li_52, li_53, li_54, li_55, li_56, li_57, li_58, li_59, li_60, li_61, li_63, li_70, li_96, li_97, li_99, li_100, li_101, li_102, li_120, li_122, li_126, li_200, li_255, li_423, li_555, li_999, li_1000, li_1111, li_2968, li_9999, li_10631, li_12345, li_14092, li_21470, li_65536, li_99233, nz_eq, n1_eq, n1_lt, n1_gt, n1_le, n1_ge, n1_sub, n1_add, nm_add, nz_add, nz_add2, z1_ne, z1_lt, z1_le, nI_1, pk_sub, nI_ltI, nI_leI, nI_eq, ni_neg, ni_nneg, ni_pos0, ni_nle0, ni_m1, gI_eq, gI_ne, xI_sJ, xI_sR, xR_sI, xR_sJ, xJ_sI, xJ_sR, gJ_eq, gJ_ne, gR_eq, gR_ne, if_true, if_false, ite_true, ite_false, not_true_eq_false, not_false_eq_true, decide_true, and_self, true_and, and_true, false_and, and_false, or_true, true_or, or_false, false_or, reduceIte, ne_eq]
      rw [hn.1 _ _ (by omega)]
      exact b1 p hp
    · simp (disch := omega) only [bnd_e, grd_t, bdI_e, bdV_e, bokA, bokB, ni_inb, ni_cl, nI_add, pk_mul, li_2, li_3, li_4, li_5, li_6, li_7, li_8, li_9, li_10, li_11, li_12, li_13, li_14, li_15, li_16, li_17, li_18, li_19, li_20, li_21, li_22, li_23, li_24, li_25, li_26, li_27, li_28, li_29, li_30, li_31, li_32, li_33, li_34, li_35, li_36, li_37, li_38, li_39, li_40, li_41, li_42, li_43, li_44, li_45, li_46, li_47, li_48, li_49, li_50, li_51, li_52, li_53, li_54, li_55, li_56, li_57, li_58, li_59, li_60, li_61, li_63, li_70, li_96, li_97, li_99, li_100, li_101, li_102, li_120, li_122, li_126, li_200, li_255, li_423, li_555, li_999, li_1000, li_1111, li_2968, li_9999, li_10631, li_12345, li_14092, li_21470, li_65536, li_99233, nz_eq, n1_eq, n1_lt, n1_gt, n1_le, n1_ge, n1_sub, n1_add, nm_add, nz_add, nz_add2, z1_ne, z1_lt, z1_le, nI_1, pk_sub, nI_ltI, nI_leI, nI_eq, ni_neg, ni_nneg, ni_pos0, ni_nle0, ni_m1, gI_eq, gI_ne, xI_sJ, xI_sR, xR_sI, xR_sJ, xJ_sI, xJ_sR, gJ_eq, gJ_ne, gR_eq, gR_ne, if_true, if_false, ite_true, ite_false, not_true_eq_false, not_false_eq_true, decide_true, and_self, true_and, and_true, false_and, and_false, or_true, true_or, or_false, false_or, reduceIte, ne_eq]; exact (hn.1 _ _ (by omega)).trans (b2 p hp).1
    · simp (disch := omega) only [bnd_e, grd_t, bdI_e, bdV_e, bokA, bokB, ni_inb, ni_cl, nI_add, pk_mul, li_2, li_3, li_4, li_5, li_6, li_7, li_8, li_9, li_10, li_11, li_12, li_13, li_14, li_15, li_16, li_17, li_18, li_19, li_20, li_21, li_22, li_23, li_24, li_25, li_26, li_27, li_28, li_29, li_30, li_31, li_32, li_33, li_34, li_35, li_36, li_37, li_38, li_39, li_40, li_41, li_42, li_43, li_44, li_45, li_46, li_47, li_48, li_49, li_50, li_51, li_52, li_53, li_54, li_55, li_56, li_57, li_58, li_59, li_60, li_61, li_63, li_70, li_96, li_97, li_99, li_100, li_101, li_102, li_120, li_122, li_126, li_200, li_255, li_423, li_555, li_999, li_1000, li_1111, li_2968, li_9999, li_10631, li_12345, li_14092, li_21470, li_65536, li_99233, nz_eq, n1_eq, n1_lt, n1_gt, n1_le, n1_ge, n1_sub, n1_add, nm_add, nz_add, nz_add2, z1_ne, z1_lt, z1_le, nI_1, pk_sub, nI_ltI, nI_leI, nI_eq, ni_neg, ni_nneg, ni_pos0, ni_nle0, ni_m1, gI_eq, gI_ne, xI_sJ, xI_sR, xR_sI, xR_sJ, xJ_sI, xJ_sR, gJ_eq, gJ_ne, gR_eq, gR_ne, if_true, if_false, ite_true, ite_false, not_true_eq_false, not_false_eq_true, decide_true, and_self, true_and, and_true, false_and, and_false, or_true, true_or, or_false, false_or, reduceIte, ne_eq]; exact (hn.1 _ _ (by omega)).trans (b2 p hp).2
    · simp (disch := omega) only [bnd_e, grd_t, bdI_e, bdV_e, bokA, bokB, ni_inb, ni_cl, nI_add, pk_mul, li_2, li_3, li_4, li_5, li_6, li_7, li_8, li_9, li_10, li_11, li_12, li_13, li_14, li_15, li_16, li_17, li_18, li_19, li_20, li_21, li_22, li_23, li_24, li_25, li_26, li_27, li_28, li_29, li_30, li_31, li_32, li_33, li_34, li_35, li_36, li_37, li_38, li_39, li_40, li_41, li_42, li_43, li_44, li_45, li_46, li_47, li_48, li_49, li_50, li_51, li_52, li_53, li_54, li_55, li_56, li_57, li_58, li_59, li_60, li_61, li_63, li_70, li_96, li_97, li_99, li_100, li_101, li_102, li_120, li_122, li_126, li_200, li_255, li_423, li_555, li_999, li_1000, li_1111, li_2968, li_9999, li_10631, li_12345, li_14092, li_21470, li_65536, li_99233, nz_eq, n1_eq, n1_lt, n1_gt, n1_le, n1_ge, n1_sub, n1_add, nm_add, nz_add, nz_add2, z1_ne, z1_lt, z1_le, nI_1, pk_sub, nI_ltI, nI_leI, nI_eq, ni_neg, ni_nneg, ni_pos0, ni_nle0, ni_m1, gI_eq, gI_ne, xI_sJ, xI_sR, xR_sI, xR_sJ, xJ_sI, xJ_sR, gJ_eq, gJ_ne, gR_eq, gR_ne, if_true, if_false, ite_true, ite_false, not_true_eq_false, not_false_eq_true, decide_true, and_self, true_and, and_true, false_and, and_false, or_true, true_or, or_false, false_or, reduceIte, ne_eq]; exact (hn.1 _ _ (by omega)).trans (b3 k hk)
    · simp (disch := omega) only [bnd_e, grd_t, bdI_e, bdV_e, bokA, bokB, ni_inb, ni_cl, nI_add, pk_mul, li_2, li_3, li_4, li_5, li_6, li_7, li_8, li_9, li_10, li_11, li_12, li_13, li_14, li_15, li_16, li_17, li_18, li_19, li_20, li_21, li_22, li_23, li_24, li_25, li_26, li_27, li_28, li_29, li_30, li_31, li_32, li_33, li_34, li_35, li_36, li_37, li_38, li_39, li_40, li_41, li_42, li_43, li_44, li_45, li_46, li_47, li_48, li_49, li_50, li_51, li_52, li_53, li_54, li_55, li_56, li_57, li_58, li_59, li_60, li_61, li_63, li_70, li_96, li_97, li_99, li_100, li_101, li_102, li_120, li_122, li_126, li_200, li_255, li_423, li_555, li_999, li_1000, li_1111, li_2968, li_9999, li_10631, li_12345, li_14092, li_21470, li_65536, li_99233, nz_eq, n1_eq, n1_lt, n1_gt, n1_le, n1_ge, n1_sub, n1_add, nm_add, nz_add, nz_add2, z1_ne, z1_lt, z1_le, nI_1, pk_sub, nI_ltI, nI_leI, nI_eq, ni_neg, ni_nneg, ni_pos0, ni_nle0, ni_m1, gI_eq, gI_ne, xI_sJ, xI_sR, xR_sI, xR_sJ, xJ_sI, xJ_sR, gJ_eq, gJ_ne, gR_eq, gR_ne, if_true, if_false, ite_true, ite_false, not_true_eq_false, not_false_eq_true, decide_true, and_self, true_and, and_true, false_and, and_false, or_true, true_or, or_false, false_or, reduceIte, ne_eq]; exact hj
    · simp (disch := omega) only [bnd_e, grd_t, bdI_e, bdV_e, bokA, bokB, ni_inb, ni_cl, nI_add, pk_mul, li_2, li_3, li_4, li_5, li_6, li_7, li_8, li_9, li_10, li_11, li_12, li_13, li_14, li_15, li_16, li_17, li_18, li_19, li_20, li_21, li_22, li_23, li_24, li_25, li_26, li_27, li_28, li_29, li_30, li_31, li_32, li_33, li_34, li_35, li_36, li_37, li_38, li_39, li_40, li_41, li_42, li_43, li_44, li_45, li_46, li_47, li_48, li_49, li_50, li_51, li_52, li_53, li_54, li_55, li_56, li_57, li_58, li_59, li_60, li_61, li_63, li_70, li_96, li_97, li_99, li_100, li_101, li_102, li_120, li_122, li_126, li_200, li_255, li_423, li_555, li_999, li_1000, li_1111, li_2968, li_9999, li_10631, li_12345, li_14092, li_21470, li_65536, li_99233, nz_eq, n1_eq, n1_lt, n1_gt, n1_le, n1_ge, n1_sub, n1_add, nm_add, nz_add, nz_add2, z1_ne, z1_lt, z1_le, nI_1, pk_sub, nI_ltI, nI_leI, nI_eq, ni_neg, ni_nneg, ni_pos0, ni_nle0, ni_m1, gI_eq, gI_ne, xI_sJ, xI_sR, xR_sI, xR_sJ, xJ_sI, xJ_sR, gJ_eq, gJ_ne, gR_eq, gR_ne, if_true, if_false, ite_true, ite_false, not_true_eq_false, not_false_eq_true, decide_true, and_self, true_and, and_true, false_and, and_false, or_true, true_or, or_false, false_or, reduceIte, ne_eq]; exact (hn.1 _ _ (by omega)).trans b5
    · simp (disch := omega) only [bnd_e, grd_t, bdI_e, bdV_e, bokA, bokB, ni_inb, ni_cl, nI_add, pk_mul, li_2, li_3, li_4, li_5, li_6, li_7, li_8, li_9, li_10, li_11, li_12, li_13, li_14, li_15, li_16, li_17, li_18, li_19, li_20, li_21, li_22, li_23, li_24, li_25, li_26, li_27, li_28, li_29, li_30, li_31, li_32, li_33, li_34, li_35, li_36, li_37, li_38, li_39, li_40, li_41, li_42, li_43, li_44, li_45, li_46, li_47, li_48, li_49, li_50, li_51, li_52, li_53, li_54, li_55, li_56, li_57, li_58, li_59, li_60, li_61, li_63, li_70, li_96, li_97, li_99, li_100, li_101, li_102, li_120, li_122, li_126, li_200, li_255, li_423, li_555, li_999, li_1000, li_1111, li_2968, li_9999, li_10631, li_12345, li_14092, li_21470, li_65536, li_99233, nz_eq, n1_eq, n1_lt, n1_gt, n1_le, n1_ge, n1_sub, n1_add, nm_add, nz_add, nz_add2, z1_ne, z1_lt, z1_le, nI_1, pk_sub, nI_ltI, nI_leI, nI_eq, ni_neg, ni_nneg, ni_pos0, ni_nle0, ni_m1, gI_eq, gI_ne, xI_sJ, xI_sR, xR_sI, xR_sJ, xJ_sI, xJ_sR, gJ_eq, gJ_ne, gR_eq, gR_ne, if_true, if_false, ite_true, ite_false, not_true_eq_false, not_false_eq_true, decide_true, and_self, true_and, and_true, false_and, and_false, or_true, true_or, or_false, false_or, reduceIte, ne_eq]; exact (hn.1 _ _ (by omega)).trans (b6 h7)
    · show _ = pI (if s = t then pl else pa s)
      by_cases z : s = t
      · subst z
        rw [gI_eq _ _ _ _ _ _ rfl rfl, if_pos rfl]
      · rw [gI_ne _ _ _ _ _ _ (by omega), if_neg z]
        exact (hn.1 _ _ (by omega)).trans (b7 s (by omega))
  by_cases p7 : pl = 7
  · subst p7
    rw [pI_7, if_pos (show (-1 : Int32) < 0 by decide), if_pos rfl]
    simp (disch := omega) only [bnd_e, grd_t, bdI_e, bdV_e, bokA, bokB, ni_inb, ni_cl, nI_add, pk_mul, li_2, li_3, li_4, li_5, li_6, li_7, li_8, li_9, li_10, li_11, li_12, li_13, li_14, li_15, li_16, li_17, li_18, li_19, li_20, li_21, li_22, li_23, li_24, li_25, li_26, li_27, li_28, li_29, li_30, li_31, li_32, li_33, li_34, li_35, li_36, li_37, li_38, li_39, li_40, li_41, li_42, li_43, li_44, li_45, li_46, li_47, li_48, li_49, li_50, li_51, li_52, li_53, li_54, li_55, li_56, li_57, li_58, li_59, li_60, li_61, li_63, li_70, li_96, li_97, li_99, li_100, li_101, li_102, li_120, li_122, li_126, li_200, li_255, li_423, li_555, li_999, li_1000, li_1111, li_2968, li_9999, li_10631, li_12345, li_14092, li_21470, li_65536, li_99233, nz_eq, n1_eq, n1_lt, n1_gt, n1_le, n1_ge, n1_sub, n1_add, nm_add, nz_add, nz_add2, z1_ne, z1_lt, z1_le, nI_1, pk_sub, nI_ltI, nI_leI, nI_eq, ni_neg, ni_nneg, ni_pos0, ni_nle0, ni_m1, gI_eq, gI_ne, xI_sJ, xI_sR, xR_sI, xR_sJ, xJ_sI, xJ_sR, gJ_eq, gJ_ne, gR_eq, gR_ne, if_true, if_false, ite_true, ite_false, not_true_eq_false, not_false_eq_true, decide_true, and_self, true_and, and_true, false_and, and_false, or_true, true_or, or_false, false_or, reduceIte, ne_eq]
    exact fin _ _ m pI_7.symm (Kp.refl m) b4
  · rcases o3 with q | ⟨g1, g2, g3, b, g4, g5⟩
    · exact absurd q p7
    have pe := pI_n p7
    rw [if_neg p7]
    have nn : ¬ pI pl < 0 := by rw [pe]; exact nI_pos (by omega)
    rw [if_neg nn]
    have jm := joyM (p := pl) (sm := sm) (wr := wr) (L := L) hE ev g1 b3 (b6 p7) b1 (nd_of o2) (fun p hp => (o1 p hp).1)
    rw [← g3, ← pe] at jm
    rw [Sat_bdI]
    refine jm.mono ?_
    intro q ⟨q1, q2⟩
    simp (disch := omega) only [b4, q1, bnd_e, grd_t, bdI_e, bdV_e, bokA, bokB, ni_inb, ni_cl, nI_add, pk_mul, li_2, li_3, li_4, li_5, li_6, li_7, li_8, li_9, li_10, li_11, li_12, li_13, li_14, li_15, li_16, li_17, li_18, li_19, li_20, li_21, li_22, li_23, li_24, li_25, li_26, li_27, li_28, li_29, li_30, li_31, li_32, li_33, li_34, li_35, li_36, li_37, li_38, li_39, li_40, li_41, li_42, li_43, li_44, li_45, li_46, li_47, li_48, li_49, li_50, li_51, li_52, li_53, li_54, li_55, li_56, li_57, li_58, li_59, li_60, li_61, li_63, li_70, li_96, li_97, li_99, li_100, li_101, li_102, li_120, li_122, li_126, li_200, li_255, li_423, li_555, li_999, li_1000, li_1111, li_2968, li_9999, li_10631, li_12345, li_14092, li_21470, li_65536, li_99233, nz_eq, n1_eq, n1_lt, n1_gt, n1_le, n1_ge, n1_sub, n1_add, nm_add, nz_add, nz_add2, z1_ne, z1_lt, z1_le, nI_1, pk_sub, nI_ltI, nI_leI, nI_eq, ni_neg, ni_nneg, ni_pos0, ni_nle0, ni_m1, gI_eq, gI_ne, xI_sJ, xI_sR, xR_sI, xR_sJ, xJ_sI, xJ_sR, gJ_eq, gJ_ne, gR_eq, gR_ne, if_true, if_false, ite_true, ite_false, not_true_eq_false, not_false_eq_true, decide_true, and_self, true_and, and_true, false_and, and_false, or_true, true_or, or_false, false_or, reduceIte, ne_eq]
    exact fin _ _ _ rfl ((q2.mono (fun a k r => Or.inl r)).sI _ (Or.inr ⟨rfl, rfl⟩)) (gI_eq _ _ _ _ _ _ rfl rfl)
theorem mD {E : Ev} {m : Mm} {t : Nat} {d : Dy} {x : Int32} (hE : EvOK E) (ev : EvM E m) (ok : DyOK E (t + 1) d) (ht : t < 60) (hd : DyM E t d m) : Sat (if 0 ≤ pI (dpl d) then (f_X12_passesMinute_J181 (nI t) x (pI (dpl d)) m) else (bdI (f_X12_isOpenAt (nI t) m) fun x23 m22 => if x23 = 0 then (f_X12_passesMinute_J181 (nI t) x (pI (dpl d)) m22) else (bdI (f_X12_firstDaring m22) fun x25 m24 => if x25 < 0 then (f_X12_passesMinute_J181 (nI t) x x25 m24) else (bdV (f_X12_beginsAt x25 (nI t) m24) fun m26 => f_X12_passesMinute_J181 (nI t) x x25 m26)))) (fun q => q.1 = pI (dpl (dE E t (dD E t d))) ∧ DyM E (t + 1) (dE E t (dD E t d)) q.2 ∧ Kp WMd m q.2) := by
  have okd := okD ok
  have same : dD E t d = d → Sat (f_X12_passesMinute_J181 (nI t) x (pI (dpl d)) m) (fun q => q.1 = pI (dpl (dE E t (dD E t d))) ∧ DyM E (t + 1) (dE E t (dD E t d)) q.2 ∧ Kp WMd m q.2) := by
    intro e
    rw [e]
    exact mE hE ev ok ht hd
  have pk := pl_ok hE ok
  by_cases p7 : dpl d = 7
  · have pe : pI (dpl d) = -1 := by rw [p7]; exact pI_7
    rw [if_neg (by rw [pe]; decide), openM hE ev ht, bdI_e]
    cases o : isO E t with
    | false =>
      rw [if_pos (show bO false = 0 from rfl)]
      exact same (dD_id (fun q => by rw [o] at q; exact absurd q.2 (by decide)))
    | true =>
      rw [if_neg (show ¬ bO true = 0 by decide), Sat_bdI]
      obtain ⟨L, pl, bg, en, wr, wn, sm, jy, bn, pa⟩ := d
      obtain ⟨o1, o2, o3, o4, o5, o6⟩ := (show DyOKr E _ L pl bg wr wn from ok)
      obtain ⟨b1, b2, b3, b4, b5, b6, b7⟩ := (show DyMr E t L pl bg en wr sm jy bn pa m from hd)
      have e7 := eP7 hE
      have h7 : pl = 7 := p7
      refine (firstM hE ev.1 ev.2.2.2.2.2.2.1 b1 (fun p hp => (o1 p hp).1) o2).mono ?_
      intro q ⟨q1, q2⟩
      obtain ⟨v, n⟩ := q
      have q1' : n = m := q1
      subst q1'
      rcases q2 with ⟨q2, q3⟩ | ⟨q2, q3⟩
      · have q3' : v = nI (L.getD (fx (drQ (eC E) (L.length - 1)) L) 0) := q3
        subst q3'
        have hm := o1 _ (getD_mem q2)
        have dy := dD_yes (E := E) (t := t) (L := L) (bg := bg) (en := en) (wr := wr) (wn := wn) (sm := sm) (jy := jy) (bn := bn) (pa := pa) h7 o rfl q2 rfl
        have me := mem_era (nd_of o2) q2
        rw [dy] at okd ⊢
        generalize L.getD (fx (drQ (eC E) (L.length - 1)) L) 0 = p at hm okd me
        generalize L.eraseIdx (fx (drQ (eC E) (L.length - 1)) L) = L' at okd me
        rw [if_neg (show ¬ nI p < 0 from nI_pos (by omega)), Sat_bdV]
        refine (beginsM (bg := bg) (wr := wr) hE ev hm.1 ht (fun q => (o4 q).imp id (fun ⟨b, h1, h2⟩ => ⟨b, by omega, h2⟩)) hm.2.2 (fun q hq => (b2 q hq).1) o6 b3).mono ?_
        intro n2 ⟨c1, c2, c3, c4, c5, c6⟩
        have k2 : Kp WMd n n2 := c6.mono (fun a k r => by unfold WMd; omega)
        have p7' : p ≠ 7 := by omega
        have hd2 : DyM E t (L', p, (fun q => if q = p then nI t else bg q), en, sk E p wr (skN (eC E) p), wsum (eC E) p (sk E p wr (skN (eC E) p)) (skN (eC E) p), bc (eC E) bg (eC E 4 p) (eP E), jy, bn + 1, pa) n2 := by
          show DyMr E t L' p (fun q => if q = p then nI t else bg q) en (sk E p wr (skN (eC E) p)) (bc (eC E) bg (eC E 4 p) (eP E)) jy (bn + 1) pa n2
          refine ⟨fun q hq => ?_, fun q hq => ⟨?_, (c6.1 _ _ (by omega)).trans (b2 q hq).2⟩, c4, (c6.1 _ _ (by omega)).trans b4, c5.trans (by rw [b5]), fun _ => c3, fun s hs => (c6.1 _ _ (by omega)).trans (b7 s hs)⟩
          · rw [me q]
            by_cases z : q = p
            · subst z
              rw [c1]
              exact ⟨fun r => absurd r (by decide), fun r => absurd rfl r.2⟩
            · rw [c6.1 _ _ (by omega), b1 q hq]
              exact ⟨fun r => ⟨r, z⟩, fun r => r.1⟩
          · by_cases z : q = p
            · subst z
              exact c2.trans (if_pos rfl).symm
            · exact ((c6.1 _ _ (by omega)).trans (b2 q hq).1).trans (if_neg z).symm
        have fin := mE (x := x) hE (ev.keep hE k2) okd ht hd2
        have pe2 : pI p = nI p := pI_n p7'
        have fin' : Sat (f_X12_passesMinute_J181 (nI t) x (pI p) n2) _ := fin
        rw [pe2] at fin'
        refine fin'.mono ?_
        intro q ⟨r1, r2, r3⟩
        exact ⟨r1, r2, k2.trans r3⟩
      · have q3' : v = -1 := q3
        subst q3'
        rw [if_pos (show (-1 : Int32) < 0 by decide)]
        have := same (dD_no (fun r => q2 r.2.2))
        rw [pe] at this
        exact this
  · have pe := pI_n p7
    rw [if_pos (by rw [pe]; exact nI_pos' (by omega))]
    exact same (dD_id (fun q => p7 q.1))
theorem mC {E : Ev} {m : Mm} {t : Nat} {d : Dy} {x : Int32} (hE : EvOK E) (ev : EvM E m) (ok : DyOK E (t + 1) d) (ht : t < 60) (hd : DyM E t d m) : Sat (f_X12_passesMinute_J97 (nI t) x (pI (dpl d)) m) (fun q => q.1 = pI (dpl (dE E t (dD E t (dC E t d)))) ∧ DyM E (t + 1) (dE E t (dD E t (dC E t d))) q.2 ∧ Kp WMd m q.2) := by
  have okc := okC (t := t) ok
  have e7 := eP7 hE
  have h2 : gI m 2 1 = nI (eP E) := ev.1.1 1 (by decide)
  have hw : gI m 2 2 = nI (eC E 0 2) := ev.1.1 2 (by decide)
  have cw : eC E 0 2 ≤ 59 := hE.1.2.2.1
  have h41 := ev.2.2.2.2.2.2.1
  obtain ⟨L, pl, bg, en, wr, wn, sm, jy, bn, pa⟩ := d
  obtain ⟨o1, o2, o3, o4, o5, o6⟩ := (show DyOKr E _ L pl bg wr wn from ok)
  obtain ⟨b1, b2, b3, b4, b5, b6, b7⟩ := (show DyMr E t L pl bg en wr sm jy bn pa m from hd)
  unfold f_X12_passesMinute_J97
  refine cnt2 (A := Int32) 0 (eP E) (by omega) (by omega) (fun i a n => a = pI pl ∧ (∀ p, p < eP E → (gI n 42 p = 1 ↔ (p ∈ L ∧ (p < i → t - eA E p ≤ eC E 0 2)))) ∧ Kp (fun a _ => a = 42) m n) ?_ ?_ ⟨rfl, fun p hp => by rw [b1 p hp]; exact ⟨fun r => ⟨r, fun q => absurd q (by omega)⟩, fun r => r.1⟩, Kp.refl m⟩
  · intro i a n k _ hi ⟨a1, a2, a3⟩ hk
    subst a1
    have n1 : ¬ eP E ≤ i := by omega
    have f2 : gI n 2 1 = nI (eP E) := (a3.1 _ _ (by omega)).trans h2
    have f22 : gI n 2 2 = nI (eC E 0 2) := (a3.1 _ _ (by omega)).trans hw
    have f41 : gI n 41 i = nI (eA E i) := (a3.1 _ _ (by omega)).trans (h41 i hi)
    unfold f_X12_passesMinute_B100 f_X12_passesMinute_J148
    by_cases z : i ∈ L
    · have w1 : gI n 42 i = 1 := (a2 i hi).mpr ⟨z, fun q => absurd q (by omega)⟩
      have am := (o1 i z).2.1
      have sb : nI t - nI (eA E i) = nI (t - eA E i) := pk_sub (by omega)
      by_cases y : t - eA E i ≤ eC E 0 2
      · simp (disch := omega) only [f2, n1, w1, f41, f22, sb, y, bnd_e, grd_t, bdI_e, bdV_e, bokA, bokB, ni_inb, ni_cl, nI_add, pk_mul, li_2, li_3, li_4, li_5, li_6, li_7, li_8, li_9, li_10, li_11, li_12, li_13, li_14, li_15, li_16, li_17, li_18, li_19, li_20, li_21, li_22, li_23, li_24, li_25, li_26, li_27, li_28, li_29, li_30, li_31, li_32, li_33, li_34, li_35, li_36, li_37, li_38, li_39, li_40, li_41, li_42, li_43, li_44, li_45, li_46, li_47, li_48, li_49, li_50, li_51, li_52, li_53, li_54, li_55, li_56, li_57, li_58, li_59, li_60, li_61, li_63, li_70, li_96, li_97, li_99, li_100, li_101, li_102, li_120, li_122, li_126, li_200, li_255, li_423, li_555, li_999, li_1000, li_1111, li_2968, li_9999, li_10631, li_12345, li_14092, li_21470, li_65536, li_99233, nz_eq, n1_eq, n1_lt, n1_gt, n1_le, n1_ge, n1_sub, n1_add, nm_add, nz_add, nz_add2, z1_ne, z1_lt, z1_le, nI_1, pk_sub, nI_ltI, nI_leI, nI_eq, ni_neg, ni_nneg, ni_pos0, ni_nle0, ni_m1, gI_eq, gI_ne, xI_sJ, xI_sR, xR_sI, xR_sJ, xJ_sI, xJ_sR, gJ_eq, gJ_ne, gR_eq, gR_ne, if_true, if_false, ite_true, ite_false, not_true_eq_false, not_false_eq_true, decide_true, and_self, true_and, and_true, false_and, and_false, or_true, true_or, or_false, false_or, reduceIte, ne_eq]
        refine hk _ _ ⟨rfl, fun p hp => ?_, a3⟩
        rw [a2 p hp]
        refine ⟨fun r => ⟨r.1, fun q => ?_⟩, fun r => ⟨r.1, fun q => r.2 (by omega)⟩⟩
        by_cases v : p = i
        · subst v; exact y
        · exact r.2 (by omega)
      · simp (disch := omega) only [f2, n1, w1, f41, f22, sb, y, bnd_e, grd_t, bdI_e, bdV_e, bokA, bokB, ni_inb, ni_cl, nI_add, pk_mul, li_2, li_3, li_4, li_5, li_6, li_7, li_8, li_9, li_10, li_11, li_12, li_13, li_14, li_15, li_16, li_17, li_18, li_19, li_20, li_21, li_22, li_23, li_24, li_25, li_26, li_27, li_28, li_29, li_30, li_31, li_32, li_33, li_34, li_35, li_36, li_37, li_38, li_39, li_40, li_41, li_42, li_43, li_44, li_45, li_46, li_47, li_48, li_49, li_50, li_51, li_52, li_53, li_54, li_55, li_56, li_57, li_58, li_59, li_60, li_61, li_63, li_70, li_96, li_97, li_99, li_100, li_101, li_102, li_120, li_122, li_126, li_200, li_255, li_423, li_555, li_999, li_1000, li_1111, li_2968, li_9999, li_10631, li_12345, li_14092, li_21470, li_65536, li_99233, nz_eq, n1_eq, n1_lt, n1_gt, n1_le, n1_ge, n1_sub, n1_add, nm_add, nz_add, nz_add2, z1_ne, z1_lt, z1_le, nI_1, pk_sub, nI_ltI, nI_leI, nI_eq, ni_neg, ni_nneg, ni_pos0, ni_nle0, ni_m1, gI_eq, gI_ne, xI_sJ, xI_sR, xR_sI, xR_sJ, xJ_sI, xJ_sR, gJ_eq, gJ_ne, gR_eq, gR_ne, if_true, if_false, ite_true, ite_false, not_true_eq_false, not_false_eq_true, decide_true, and_self, true_and, and_true, false_and, and_false, or_true, true_or, or_false, false_or, reduceIte, ne_eq]
        refine hk _ _ ⟨rfl, fun p hp => ?_, a3.sI _ rfl⟩
        by_cases v : p = i
        · subst v
          rw [gI_eq _ _ _ _ _ _ rfl rfl]
          exact ⟨fun r => absurd r (by decide), fun r => absurd (r.2 (by omega)) y⟩
        · rw [gI_ne _ _ _ _ _ _ (by omega), a2 p hp]
          exact ⟨fun r => ⟨r.1, fun q => r.2 (by omega)⟩, fun r => ⟨r.1, fun q => r.2 (by omega)⟩⟩
    · have w1 : ¬ gI n 42 i = 1 := fun q => z ((a2 i hi).mp q).1
      simp (disch := omega) only [f2, n1, w1, bnd_e, grd_t, bdI_e, bdV_e, bokA, bokB, ni_inb, ni_cl, nI_add, pk_mul, li_2, li_3, li_4, li_5, li_6, li_7, li_8, li_9, li_10, li_11, li_12, li_13, li_14, li_15, li_16, li_17, li_18, li_19, li_20, li_21, li_22, li_23, li_24, li_25, li_26, li_27, li_28, li_29, li_30, li_31, li_32, li_33, li_34, li_35, li_36, li_37, li_38, li_39, li_40, li_41, li_42, li_43, li_44, li_45, li_46, li_47, li_48, li_49, li_50, li_51, li_52, li_53, li_54, li_55, li_56, li_57, li_58, li_59, li_60, li_61, li_63, li_70, li_96, li_97, li_99, li_100, li_101, li_102, li_120, li_122, li_126, li_200, li_255, li_423, li_555, li_999, li_1000, li_1111, li_2968, li_9999, li_10631, li_12345, li_14092, li_21470, li_65536, li_99233, nz_eq, n1_eq, n1_lt, n1_gt, n1_le, n1_ge, n1_sub, n1_add, nm_add, nz_add, nz_add2, z1_ne, z1_lt, z1_le, nI_1, pk_sub, nI_ltI, nI_leI, nI_eq, ni_neg, ni_nneg, ni_pos0, ni_nle0, ni_m1, gI_eq, gI_ne, xI_sJ, xI_sR, xR_sI, xR_sJ, xJ_sI, xJ_sR, gJ_eq, gJ_ne, gR_eq, gR_ne, if_true, if_false, ite_true, ite_false, not_true_eq_false, not_false_eq_true, decide_true, and_self, true_and, and_true, false_and, and_false, or_true, true_or, or_false, false_or, reduceIte, ne_eq]
      refine hk _ _ ⟨rfl, fun p hp => ?_, a3⟩
      rw [a2 p hp]
      refine ⟨fun r => ⟨r.1, fun q => ?_⟩, fun r => ⟨r.1, fun q => r.2 (by omega)⟩⟩
      by_cases v : p = i
      · subst v; exact absurd r.1 z
      · exact r.2 (by omega)
  · intro a n k ⟨a1, a2, a3⟩
    subst a1
    have f2 : gI n 2 1 = nI (eP E) := (a3.1 _ _ (by omega)).trans h2
    have kp : Kp WMd m n := a3.mono (fun a k q => by unfold WMd; omega)
    unfold f_X12_passesMinute_B100
    rw [if_pos (by rw [f2]; exact Int32.le_refl _)]
    have hd2 : DyM E t (dC E t (L, pl, bg, en, wr, wn, sm, jy, bn, pa)) n := by
      show DyMr E t (L.filter (fun p => decide (t - eA E p ≤ eC E 0 2))) pl bg en wr sm jy bn pa n
      refine ⟨fun p hp => ?_, fun p hp => ⟨(a3.1 _ _ (by omega)).trans (b2 p hp).1, (a3.1 _ _ (by omega)).trans (b2 p hp).2⟩, fun k hk => (a3.1 _ _ (by omega)).trans (b3 k hk), (a3.1 _ _ (by omega)).trans b4, (a3.1 _ _ (by omega)).trans b5, fun h7 => (a3.1 _ _ (by omega)).trans (b6 h7), fun s hs => (a3.1 _ _ (by omega)).trans (b7 s hs)⟩
      rw [a2 p hp, List.mem_filter, decide_eq_true_eq]
      exact ⟨fun r => ⟨r.1, r.2 hp⟩, fun r => ⟨r.1, fun _ => r.2⟩⟩
    refine (mD (x := x) hE (ev.keep hE kp) okc ht hd2).mono ?_
    intro q ⟨r1, r2, r3⟩
    exact ⟨r1, r2, kp.trans r3⟩
