theorem mNo1 {T : Nat → Nat} {n l p δ : Nat} {d : Tk} {m : Mm} {k : Int32 → Int32 → Mm → Option (Int32 × Mm)} (hT : TpOK T n) (hl : l < 2) (h : LwS T n l p d m) (hδ : δ < 7) (hf : fcN l d = 0) (hw : isW d 20 = false) (hg : isG T d 40 = false) (h2 : tkK d ≠ 2) : f_X12_reads_B11 k (nI δ) 1 m = some (0, sI m 0 9 (nI (1 + 16 * tkb d))) := by
  obtain ⟨ok, hM, h25, h24, hp⟩ := h
  have k4 := ok.2.2.1
  have fe := factE hl ok hM h25
  have iw := isWordM ok hM (k := 20) (by decide) kw_not
  have ig := isSignM hT ok hM (s := 40) (by decide)
  rw [hw, bO_f] at iw
  rw [hg, bO_f] at ig
  have z1 : ¬ (1 : Int32) = 0 := by decide
  have e2 : f_X12_fails 1 m = some (0, sI m 0 9 (nI (1 + 16 * tkb d))) := failsE hM 1
  unfold f_X12_reads_B11
  simp (disch := omega) only [z1, fe, iw, ig, hf, hM.2.2.2.1, h2, e2, bnd_e, grd_t, bdI_e, bdV_e, bokA, bokB, ni_inb, ni_cl, nI_add, pk_mul, li_2, li_3, li_4, li_5, li_6, li_7, li_8, li_9, li_10, li_11, li_12, li_13, li_14, li_15, li_16, li_17, li_18, li_19, li_20, li_21, li_22, li_23, li_24, li_25, li_26, li_27, li_28, li_29, li_30, li_31, li_32, li_33, li_34, li_35, li_36, li_37, li_38, li_39, li_40, li_41, li_42, li_43, li_44, li_45, li_46, li_47, li_48, li_49, li_50, li_51, li_52, li_53, li_54, li_55, li_56, li_57, li_58, li_59, li_60, li_61, li_63, li_70, li_96, li_97, li_99, li_100, li_101, li_102, li_120, li_122, li_126, li_200, li_255, li_423, li_555, li_999, li_1000, li_1111, li_2968, li_9999, li_10631, li_12345, li_14092, li_21470, li_65536, li_99233, nz_eq, n1_eq, n1_lt, n1_gt, n1_le, n1_ge, n1_sub, n1_add, nm_add, nz_add, nz_add2, z1_ne, z1_lt, z1_le, nI_1, pk_sub, nI_ltI, nI_leI, nI_eq, ni_neg, ni_nneg, ni_pos0, ni_nle0, ni_m1, gI_eq, gI_ne, xI_sJ, xI_sR, xR_sI, xR_sJ, xJ_sI, xJ_sR, gJ_eq, gJ_ne, gR_eq, gR_ne, if_true, if_false, ite_true, ite_false, not_true_eq_false, not_false_eq_true, decide_true, and_self, true_and, and_true, false_and, and_false, or_true, true_or, or_false, false_or, reduceIte, ne_eq]
theorem mNo5 {T : Nat → Nat} {n l p : Nat} {d : Tk} {m : Mm} {k : Int32 → Int32 → Mm → Option (Int32 × Mm)} (hT : TpOK T n) (hl : l < 2) (h : LwS T n l p d m) (hs : fcN l d ≠ 0 ∨ isW d 20 = true ∨ isG T d 40 = true ∨ tkK d = 2) : f_X12_reads_B11 k (nI 5) 1 m = some (0, sI m 0 9 (nI (5 + 16 * tkb d))) := by
  obtain ⟨ok, hM, h25, h24, hp⟩ := h
  have k4 := ok.2.2.1
  have fe := factE hl ok hM h25
  have f6 : fcN l d ≤ 28 := by
    unfold fcN
    have := wid_le (tkR d)
    split <;> omega
  have iw := isWordM ok hM (k := 20) (by decide) kw_not
  have ig := isSignM hT ok hM (s := 40) (by decide)
  have z1 : ¬ (1 : Int32) = 0 := by decide
  have e2 := failsE hM 5
  have tail : ∀ x y z : Int32, f_X12_reads_J65 k (nI 5) 1 x y z m = some (0, sI m 0 9 (nI (5 + 16 * tkb d))) := by
    intro x y z
    unfold f_X12_reads_J65
    rw [if_neg (show ¬ ¬ nI 5 = 5 from fun q => q rfl)]
    have e2' : f_X12_fails 5 m = some (0, sI m 0 9 (nI (5 + 16 * tkb d))) := e2
    rw [e2', bdI_e]
    rfl
  unfold f_X12_reads_B11
  by_cases a1 : fcN l d = 0
  · by_cases a2 : isW d 20 = true
    · rw [a2, bO_t] at iw
      simp (disch := omega) only [z1, fe, iw, ig, a1, tail, bnd_e, grd_t, bdI_e, bdV_e, bokA, bokB, ni_inb, ni_cl, nI_add, pk_mul, li_2, li_3, li_4, li_5, li_6, li_7, li_8, li_9, li_10, li_11, li_12, li_13, li_14, li_15, li_16, li_17, li_18, li_19, li_20, li_21, li_22, li_23, li_24, li_25, li_26, li_27, li_28, li_29, li_30, li_31, li_32, li_33, li_34, li_35, li_36, li_37, li_38, li_39, li_40, li_41, li_42, li_43, li_44, li_45, li_46, li_47, li_48, li_49, li_50, li_51, li_52, li_53, li_54, li_55, li_56, li_57, li_58, li_59, li_60, li_61, li_63, li_70, li_96, li_97, li_99, li_100, li_101, li_102, li_120, li_122, li_126, li_200, li_255, li_423, li_555, li_999, li_1000, li_1111, li_2968, li_9999, li_10631, li_12345, li_14092, li_21470, li_65536, li_99233, nz_eq, n1_eq, n1_lt, n1_gt, n1_le, n1_ge, n1_sub, n1_add, nm_add, nz_add, nz_add2, z1_ne, z1_lt, z1_le, nI_1, pk_sub, nI_ltI, nI_leI, nI_eq, ni_neg, ni_nneg, ni_pos0, ni_nle0, ni_m1, gI_eq, gI_ne, xI_sJ, xI_sR, xR_sI, xR_sJ, xJ_sI, xJ_sR, gJ_eq, gJ_ne, gR_eq, gR_ne, if_true, if_false, ite_true, ite_false, not_true_eq_false, not_false_eq_true, decide_true, and_self, true_and, and_true, false_and, and_false, or_true, true_or, or_false, false_or, reduceIte, ne_eq]
    · have a2' : isW d 20 = false := Bool.eq_false_iff.mpr a2
      rw [a2', bO_f] at iw
      by_cases a3 : isG T d 40 = true
      · rw [a3, bO_t] at ig
        simp (disch := omega) only [z1, fe, iw, ig, a1, tail, bnd_e, grd_t, bdI_e, bdV_e, bokA, bokB, ni_inb, ni_cl, nI_add, pk_mul, li_2, li_3, li_4, li_5, li_6, li_7, li_8, li_9, li_10, li_11, li_12, li_13, li_14, li_15, li_16, li_17, li_18, li_19, li_20, li_21, li_22, li_23, li_24, li_25, li_26, li_27, li_28, li_29, li_30, li_31, li_32, li_33, li_34, li_35, li_36, li_37, li_38, li_39, li_40, li_41, li_42, li_43, li_44, li_45, li_46, li_47, li_48, li_49, li_50, li_51, li_52, li_53, li_54, li_55, li_56, li_57, li_58, li_59, li_60, li_61, li_63, li_70, li_96, li_97, li_99, li_100, li_101, li_102, li_120, li_122, li_126, li_200, li_255, li_423, li_555, li_999, li_1000, li_1111, li_2968, li_9999, li_10631, li_12345, li_14092, li_21470, li_65536, li_99233, nz_eq, n1_eq, n1_lt, n1_gt, n1_le, n1_ge, n1_sub, n1_add, nm_add, nz_add, nz_add2, z1_ne, z1_lt, z1_le, nI_1, pk_sub, nI_ltI, nI_leI, nI_eq, ni_neg, ni_nneg, ni_pos0, ni_nle0, ni_m1, gI_eq, gI_ne, xI_sJ, xI_sR, xR_sI, xR_sJ, xJ_sI, xJ_sR, gJ_eq, gJ_ne, gR_eq, gR_ne, if_true, if_false, ite_true, ite_false, not_true_eq_false, not_false_eq_true, decide_true, and_self, true_and, and_true, false_and, and_false, or_true, true_or, or_false, false_or, reduceIte, ne_eq]
      · have a3' : isG T d 40 = false := Bool.eq_false_iff.mpr a3
        rw [a3', bO_f] at ig
        have a4 : tkK d = 2 := by
          rcases hs with q | q | q | q
          · exact absurd a1 q
          · exact absurd q a2
          · exact absurd q a3
          · exact q
        simp (disch := omega) only [z1, fe, iw, ig, a1, hM.2.2.2.1, a4, tail, bnd_e, grd_t, bdI_e, bdV_e, bokA, bokB, ni_inb, ni_cl, nI_add, pk_mul, li_2, li_3, li_4, li_5, li_6, li_7, li_8, li_9, li_10, li_11, li_12, li_13, li_14, li_15, li_16, li_17, li_18, li_19, li_20, li_21, li_22, li_23, li_24, li_25, li_26, li_27, li_28, li_29, li_30, li_31, li_32, li_33, li_34, li_35, li_36, li_37, li_38, li_39, li_40, li_41, li_42, li_43, li_44, li_45, li_46, li_47, li_48, li_49, li_50, li_51, li_52, li_53, li_54, li_55, li_56, li_57, li_58, li_59, li_60, li_61, li_63, li_70, li_96, li_97, li_99, li_100, li_101, li_102, li_120, li_122, li_126, li_200, li_255, li_423, li_555, li_999, li_1000, li_1111, li_2968, li_9999, li_10631, li_12345, li_14092, li_21470, li_65536, li_99233, nz_eq, n1_eq, n1_lt, n1_gt, n1_le, n1_ge, n1_sub, n1_add, nm_add, nz_add, nz_add2, z1_ne, z1_lt, z1_le, nI_1, pk_sub, nI_ltI, nI_leI, nI_eq, ni_neg, ni_nneg, ni_pos0, ni_nle0, ni_m1, gI_eq, gI_ne, xI_sJ, xI_sR, xR_sI, xR_sJ, xJ_sI, xJ_sR, gJ_eq, gJ_ne, gR_eq, gR_ne, if_true, if_false, ite_true, ite_false, not_true_eq_false, not_false_eq_true, decide_true, and_self, true_and, and_true, false_and, and_false, or_true, true_or, or_false, false_or, reduceIte, ne_eq]
  · simp (disch := omega) only [z1, fe, iw, ig, a1, tail, bnd_e, grd_t, bdI_e, bdV_e, bokA, bokB, ni_inb, ni_cl, nI_add, pk_mul, li_2, li_3, li_4, li_5, li_6, li_7, li_8, li_9, li_10, li_11, li_12, li_13, li_14, li_15, li_16, li_17, li_18, li_19, li_20, li_21, li_22, li_23, li_24, li_25, li_26, li_27, li_28, li_29, li_30, li_31, li_32, li_33, li_34, li_35, li_36, li_37, li_38, li_39, li_40, li_41, li_42, li_43, li_44, li_45, li_46, li_47, li_48, li_49, li_50, li_51, li_52, li_53, li_54, li_55, li_56, li_57, li_58, li_59, li_60, li_61, li_63, li_70, li_96, li_97, li_99, li_100, li_101, li_102, li_120, li_122, li_126, li_200, li_255, li_423, li_555, li_999, li_1000, li_1111, li_2968, li_9999, li_10631, li_12345, li_14092, li_21470, li_65536, li_99233, nz_eq, n1_eq, n1_lt, n1_gt, n1_le, n1_ge, n1_sub, n1_add, nm_add, nz_add, nz_add2, z1_ne, z1_lt, z1_le, nI_1, pk_sub, nI_ltI, nI_leI, nI_eq, ni_neg, ni_nneg, ni_pos0, ni_nle0, ni_m1, gI_eq, gI_ne, xI_sJ, xI_sR, xR_sI, xR_sJ, xJ_sI, xJ_sR, gJ_eq, gJ_ne, gR_eq, gR_ne, if_true, if_false, ite_true, ite_false, not_true_eq_false, not_false_eq_true, decide_true, and_self, true_and, and_true, false_and, and_false, or_true, true_or, or_false, false_or, reduceIte, ne_eq]
/-! between two parts -/
theorem sgnB {T : Nat → Nat} {n : Nat} {d : Tk} {m : Mm} (hT : TpOK T n) (ok : TkOK T n d) (hM : RdM T n d m) : f_X12_isSign (nI 43) m = some (bO (isG T d 43), m) ∧ f_X12_isSign (nI 45) m = some (bO (isG T d 45), m) ∧ f_X12_isSign (nI 42) m = some (bO (isG T d 42), m) ∧ f_X12_isSign (nI 60) m = some (bO (isG T d 60), m) ∧ f_X12_isSign (nI 61) m = some (bO (isG T d 61), m) ∧ f_X12_isSign (nI 41) m = some (bO (isG T d 41), m) ∧ f_X12_isSign (nI 59) m = some (bO (isG T d 59), m) ∧ f_X12_isWord 1111 m = some (bO (isW d 21), m) ∧ f_X12_isWord 423 m = some (bO (isW d 22), m) := ⟨isSignM hT ok hM (by decide), isSignM hT ok hM (by decide), isSignM hT ok hM (by decide), isSignM hT ok hM (by decide), isSignM hT ok hM (by decide), isSignM hT ok hM (by decide), isSignM hT ok hM (by decide), isWordM ok hM (by decide) kw_and, isWordM ok hM (by decide) kw_or⟩
theorem mOp {T : Nat → Nat} {n l p δ : Nat} {d : Tk} {m : Mm} (hT : TpOK T n) (h : LwS T n l p d m) (hδ : δ < 7) (hK : tkK d = 3) {c : Nat} (hc : (T (tkb d) = 43 ∧ c = 20) ∨ (T (tkb d) = 45 ∧ c = 21) ∨ (T (tkb d) = 42 ∧ c = 22)) : ∃ m', (∀ k : Int32 → Int32 → Mm → Option (Int32 × Mm), f_X12_reads_B11 k (nI δ) 0 m = k (nI δ) 1 m') ∧ RdM T n (tk T n (tke d)) m' ∧ Kp (fun a k => a = 0 ∧ 4 ≤ k ∧ k ≤ 8) (sI (sI m 15 p (nI c)) 0 24 (nI (p + 1))) m' := by
  obtain ⟨ok, hM, h25, h24, hp⟩ := h
  obtain ⟨i1, i2, i3, -⟩ := sgnB hT ok hM
  have hM1 : RdM T n d (sI (sI m 15 p (nI c)) 0 24 (nI (p + 1))) := hM.kp (fun a k h => by simp (disch := omega) only [bnd_e, grd_t, bdI_e, bdV_e, bokA, bokB, ni_inb, ni_cl, nI_add, pk_mul, li_2, li_3, li_4, li_5, li_6, li_7, li_8, li_9, li_10, li_11, li_12, li_13, li_14, li_15, li_16, li_17, li_18, li_19, li_20, li_21, li_22, li_23, li_24, li_25, li_26, li_27, li_28, li_29, li_30, li_31, li_32, li_33, li_34, li_35, li_36, li_37, li_38, li_39, li_40, li_41, li_42, li_43, li_44, li_45, li_46, li_47, li_48, li_49, li_50, li_51, li_52, li_53, li_54, li_55, li_56, li_57, li_58, li_59, li_60, li_61, li_63, li_70, li_96, li_97, li_99, li_100, li_101, li_102, li_120, li_122, li_126, li_200, li_255, li_423, li_555, li_999, li_1000, li_1111, li_2968, li_9999, li_10631, li_12345, li_14092, li_21470, li_65536, li_99233, nz_eq, n1_eq, n1_lt, n1_gt, n1_le, n1_ge, n1_sub, n1_add, nm_add, nz_add, nz_add2, z1_ne, z1_lt, z1_le, nI_1, pk_sub, nI_ltI, nI_leI, nI_eq, ni_neg, ni_nneg, ni_pos0, ni_nle0, ni_m1, gI_eq, gI_ne, xI_sJ, xI_sR, xR_sI, xR_sJ, xJ_sI, xJ_sR, gJ_eq, gJ_ne, gR_eq, gR_ne, if_true, if_false, ite_true, ite_false, not_true_eq_false, not_false_eq_true, decide_true, and_self, true_and, and_true, false_and, and_false, or_true, true_or, or_false, false_or, reduceIte, ne_eq]) rfl
  obtain ⟨m', e', r1, r2⟩ := adv_M hT ok hM1
  refine ⟨m', fun k => ?_, r1, r2⟩
  have tail : f_X12_reads_J237 k (nI δ) (nI c) m = k (nI δ) 1 m' := by
    unfold f_X12_reads_J237 f_X12_reads_J424
    rw [putsE hp h24, bdV_e, e', bdV_e]
  have z1 : ¬ (1 : Int32) = 0 := by decide
  unfold f_X12_reads_B11 f_X12_reads_J206
  rcases hc with ⟨q, rfl⟩ | ⟨q, rfl⟩ | ⟨q, rfl⟩
  · have b1 : isG T d 43 = true := decide_eq_true ⟨hK, q⟩
    rw [b1, bO_t] at i1
    simp (disch := omega) only [i1, z1, bnd_e, grd_t, bdI_e, bdV_e, bokA, bokB, ni_inb, ni_cl, nI_add, pk_mul, li_2, li_3, li_4, li_5, li_6, li_7, li_8, li_9, li_10, li_11, li_12, li_13, li_14, li_15, li_16, li_17, li_18, li_19, li_20, li_21, li_22, li_23, li_24, li_25, li_26, li_27, li_28, li_29, li_30, li_31, li_32, li_33, li_34, li_35, li_36, li_37, li_38, li_39, li_40, li_41, li_42, li_43, li_44, li_45, li_46, li_47, li_48, li_49, li_50, li_51, li_52, li_53, li_54, li_55, li_56, li_57, li_58, li_59, li_60, li_61, li_63, li_70, li_96, li_97, li_99, li_100, li_101, li_102, li_120, li_122, li_126, li_200, li_255, li_423, li_555, li_999, li_1000, li_1111, li_2968, li_9999, li_10631, li_12345, li_14092, li_21470, li_65536, li_99233, nz_eq, n1_eq, n1_lt, n1_gt, n1_le, n1_ge, n1_sub, n1_add, nm_add, nz_add, nz_add2, z1_ne, z1_lt, z1_le, nI_1, pk_sub, nI_ltI, nI_leI, nI_eq, ni_neg, ni_nneg, ni_pos0, ni_nle0, ni_m1, gI_eq, gI_ne, xI_sJ, xI_sR, xR_sI, xR_sJ, xJ_sI, xJ_sR, gJ_eq, gJ_ne, gR_eq, gR_ne, if_true, if_false, ite_true, ite_false, not_true_eq_false, not_false_eq_true, decide_true, and_self, true_and, and_true, false_and, and_false, or_true, true_or, or_false, false_or, reduceIte, ne_eq]
    exact tail
  · have b1 : isG T d 43 = false := decide_eq_false (fun r => by omega)
    have b2 : isG T d 45 = true := decide_eq_true ⟨hK, q⟩
    rw [b1, bO_f] at i1
    rw [b2, bO_t] at i2
    simp (disch := omega) only [i1, i2, z1, bnd_e, grd_t, bdI_e, bdV_e, bokA, bokB, ni_inb, ni_cl, nI_add, pk_mul, li_2, li_3, li_4, li_5, li_6, li_7, li_8, li_9, li_10, li_11, li_12, li_13, li_14, li_15, li_16, li_17, li_18, li_19, li_20, li_21, li_22, li_23, li_24, li_25, li_26, li_27, li_28, li_29, li_30, li_31, li_32, li_33, li_34, li_35, li_36, li_37, li_38, li_39, li_40, li_41, li_42, li_43, li_44, li_45, li_46, li_47, li_48, li_49, li_50, li_51, li_52, li_53, li_54, li_55, li_56, li_57, li_58, li_59, li_60, li_61, li_63, li_70, li_96, li_97, li_99, li_100, li_101, li_102, li_120, li_122, li_126, li_200, li_255, li_423, li_555, li_999, li_1000, li_1111, li_2968, li_9999, li_10631, li_12345, li_14092, li_21470, li_65536, li_99233, nz_eq, n1_eq, n1_lt, n1_gt, n1_le, n1_ge, n1_sub, n1_add, nm_add, nz_add, nz_add2, z1_ne, z1_lt, z1_le, nI_1, pk_sub, nI_ltI, nI_leI, nI_eq, ni_neg, ni_nneg, ni_pos0, ni_nle0, ni_m1, gI_eq, gI_ne, xI_sJ, xI_sR, xR_sI, xR_sJ, xJ_sI, xJ_sR, gJ_eq, gJ_ne, gR_eq, gR_ne, if_true, if_false, ite_true, ite_false, not_true_eq_false, not_false_eq_true, decide_true, and_self, true_and, and_true, false_and, and_false, or_true, true_or, or_false, false_or, reduceIte, ne_eq]
    exact tail
  · have b1 : isG T d 43 = false := decide_eq_false (fun r => by omega)
    have b2 : isG T d 45 = false := decide_eq_false (fun r => by omega)
    have b3 : isG T d 42 = true := decide_eq_true ⟨hK, q⟩
    rw [b1, bO_f] at i1
    rw [b2, bO_f] at i2
    rw [b3, bO_t] at i3
    simp (disch := omega) only [i1, i2, i3, z1, bnd_e, grd_t, bdI_e, bdV_e, bokA, bokB, ni_inb, ni_cl, nI_add, pk_mul, li_2, li_3, li_4, li_5, li_6, li_7, li_8, li_9, li_10, li_11, li_12, li_13, li_14, li_15, li_16, li_17, li_18, li_19, li_20, li_21, li_22, li_23, li_24, li_25, li_26, li_27, li_28, li_29, li_30, li_31, li_32, li_33, li_34, li_35, li_36, li_37, li_38, li_39, li_40, li_41, li_42, li_43, li_44, li_45, li_46, li_47, li_48, li_49, li_50, li_51, li_52, li_53, li_54, li_55, li_56, li_57, li_58, li_59, li_60, li_61, li_63, li_70, li_96, li_97, li_99, li_100, li_101, li_102, li_120, li_122, li_126, li_200, li_255, li_423, li_555, li_999, li_1000, li_1111, li_2968, li_9999, li_10631, li_12345, li_14092, li_21470, li_65536, li_99233, nz_eq, n1_eq, n1_lt, n1_gt, n1_le, n1_ge, n1_sub, n1_add, nm_add, nz_add, nz_add2, z1_ne, z1_lt, z1_le, nI_1, pk_sub, nI_ltI, nI_leI, nI_eq, ni_neg, ni_nneg, ni_pos0, ni_nle0, ni_m1, gI_eq, gI_ne, xI_sJ, xI_sR, xR_sI, xR_sJ, xJ_sI, xJ_sR, gJ_eq, gJ_ne, gR_eq, gR_ne, if_true, if_false, ite_true, ite_false, not_true_eq_false, not_false_eq_true, decide_true, and_self, true_and, and_true, false_and, and_false, or_true, true_or, or_false, false_or, reduceIte, ne_eq]
    exact tail
