/-! the class's way to work a law out -/
def StR (b : Nat) (m : Mm) : List Int32 → Prop
  | [] => True
  | v :: S => gI m (b + 2) S.length = v ∧ StR b m S
theorem StR.keep {b : Nat} {m n : Mm} : ∀ {S : List Int32}, StR b m S → (∀ k, k < S.length → gI n (b + 2) k = gI m (b + 2) k) → StR b n S
  | [], _, _ => trivial
  | v :: S, h, e => ⟨(e _ (Nat.lt_succ_self _)).trans h.1, StR.keep (S := S) h.2 (fun k hk => e k (Nat.lt_succ_of_lt hk))⟩
def Stk (b : Nat) (S : List Int32) (m : Mm) : Prop := S.length ≤ 32 ∧ gI m b 4 = nI S.length ∧ StR b m S
def WLw (b a k : Nat) : Prop := (a = b ∧ k = 4) ∨ a = b + 2
theorem evPush_lt {v : Int32} {S : List Int32} (h : S.length < 32) : evPush v S = v :: S := if_pos h
theorem evPush_ge {v : Int32} {S : List Int32} (h : ¬ S.length < 32) : evPush v S = S := if_neg h
theorem push_s {b : Nat} {S : List Int32} {v : Int32} {m : Mm} (l : Lp.2.1 (b + 2) = 32) (h : Stk b S m) : Sat (f_X2_push b v m) (fun n => Stk b (evPush v S) n ∧ Kp (WLw b) m n) := by
  unfold f_X2_push
  by_cases h32 : S.length < 32
  · have n1 : ¬ 32 ≤ S.length := by omega
    simp (disch := omega) only [h.2.1, l, n1, bnd_e, grd_t, bdI_e, bdV_e, bokA, bokB, ni_inb, ni_cl, nI_add, pk_mul, li_2, li_3, li_4, li_5, li_6, li_7, li_8, li_9, li_10, li_11, li_12, li_13, li_14, li_15, li_16, li_17, li_18, li_19, li_20, li_21, li_22, li_23, li_24, li_25, li_26, li_27, li_28, li_29, li_30, li_31, li_32, li_33, li_34, li_35, li_36, li_37, li_38, li_39, li_40, li_41, li_42, li_43, li_44, li_45, li_46, li_47, li_48, li_49, li_50, li_51, li_52, li_53, li_54, li_55, li_56, li_57, li_58, li_59, li_60, li_61, li_63, li_70, li_96, li_97, li_99, li_100, li_101, li_102, li_120, li_122, li_126, li_200, li_255, li_423, li_555, li_999, li_1000, li_1111, li_2968, li_9999, li_10631, li_12345, li_14092, li_21470, li_65536, li_99233, nz_eq, n1_eq, n1_lt, n1_gt, n1_le, n1_ge, n1_sub, n1_add, nm_add, nz_add, nz_add2, z1_ne, z1_lt, z1_le, nI_1, pk_sub, nI_ltI, nI_leI, nI_eq, ni_neg, ni_nneg, ni_pos0, ni_nle0, ni_m1, gI_eq, gI_ne, xI_sJ, xI_sR, xR_sI, xR_sJ, xJ_sI, xJ_sR, gJ_eq, gJ_ne, gR_eq, gR_ne, if_true, if_false, ite_true, ite_false, not_true_eq_false, not_false_eq_true, decide_true, and_self, true_and, and_true, false_and, and_false, or_true, true_or, or_false, false_or, reduceIte, ne_eq]
    rw [evPush_lt h32]
    refine (Sat_some _ _).mpr ⟨⟨?_, ?_, ?_, ?_⟩, ((Kp.refl m).sI _ (Or.inr rfl)).sI _ (Or.inl ⟨rfl, rfl⟩)⟩
    · show S.length + 1 ≤ 32
      omega
    · simp (disch := omega) only [bnd_e, grd_t, bdI_e, bdV_e, bokA, bokB, ni_inb, ni_cl, nI_add, pk_mul, li_2, li_3, li_4, li_5, li_6, li_7, li_8, li_9, li_10, li_11, li_12, li_13, li_14, li_15, li_16, li_17, li_18, li_19, li_20, li_21, li_22, li_23, li_24, li_25, li_26, li_27, li_28, li_29, li_30, li_31, li_32, li_33, li_34, li_35, li_36, li_37, li_38, li_39, li_40, li_41, li_42, li_43, li_44, li_45, li_46, li_47, li_48, li_49, li_50, li_51, li_52, li_53, li_54, li_55, li_56, li_57, li_58, li_59, li_60, li_61, li_63, li_70, li_96, li_97, li_99, li_100, li_101, li_102, li_120, li_122, li_126, li_200, li_255, li_423, li_555, li_999, li_1000, li_1111, li_2968, li_9999, li_10631, li_12345, li_14092, li_21470, li_65536, li_99233, nz_eq, n1_eq, n1_lt, n1_gt, n1_le, n1_ge, n1_sub, n1_add, nm_add, nz_add, nz_add2, z1_ne, z1_lt, z1_le, nI_1, pk_sub, nI_ltI, nI_leI, nI_eq, ni_neg, ni_nneg, ni_pos0, ni_nle0, ni_m1, gI_eq, gI_ne, xI_sJ, xI_sR, xR_sI, xR_sJ, xJ_sI, xJ_sR, gJ_eq, gJ_ne, gR_eq, gR_ne, if_true, if_false, ite_true, ite_false, not_true_eq_false, not_false_eq_true, decide_true, and_self, true_and, and_true, false_and, and_false, or_true, true_or, or_false, false_or, reduceIte, ne_eq]; rfl
    · simp (disch := omega) only [bnd_e, grd_t, bdI_e, bdV_e, bokA, bokB, ni_inb, ni_cl, nI_add, pk_mul, li_2, li_3, li_4, li_5, li_6, li_7, li_8, li_9, li_10, li_11, li_12, li_13, li_14, li_15, li_16, li_17, li_18, li_19, li_20, li_21, li_22, li_23, li_24, li_25, li_26, li_27, li_28, li_29, li_30, li_31, li_32, li_33, li_34, li_35, li_36, li_37, li_38, li_39, li_40, li_41, li_42, li_43, li_44, li_45, li_46, li_47, li_48, li_49, li_50, li_51, li_52, li_53, li_54, li_55, li_56, li_57, li_58, li_59, li_60, li_61, li_63, li_70, li_96, li_97, li_99, li_100, li_101, li_102, li_120, li_122, li_126, li_200, li_255, li_423, li_555, li_999, li_1000, li_1111, li_2968, li_9999, li_10631, li_12345, li_14092, li_21470, li_65536, li_99233, nz_eq, n1_eq, n1_lt, n1_gt, n1_le, n1_ge, n1_sub, n1_add, nm_add, nz_add, nz_add2, z1_ne, z1_lt, z1_le, nI_1, pk_sub, nI_ltI, nI_leI, nI_eq, ni_neg, ni_nneg, ni_pos0, ni_nle0, ni_m1, gI_eq, gI_ne, xI_sJ, xI_sR, xR_sI, xR_sJ, xJ_sI, xJ_sR, gJ_eq, gJ_ne, gR_eq, gR_ne, if_true, if_false, ite_true, ite_false, not_true_eq_false, not_false_eq_true, decide_true, and_self, true_and, and_true, false_and, and_false, or_true, true_or, or_false, false_or, reduceIte, ne_eq]
    · exact h.2.2.keep (fun k hk => by simp (disch := omega) only [bnd_e, grd_t, bdI_e, bdV_e, bokA, bokB, ni_inb, ni_cl, nI_add, pk_mul, li_2, li_3, li_4, li_5, li_6, li_7, li_8, li_9, li_10, li_11, li_12, li_13, li_14, li_15, li_16, li_17, li_18, li_19, li_20, li_21, li_22, li_23, li_24, li_25, li_26, li_27, li_28, li_29, li_30, li_31, li_32, li_33, li_34, li_35, li_36, li_37, li_38, li_39, li_40, li_41, li_42, li_43, li_44, li_45, li_46, li_47, li_48, li_49, li_50, li_51, li_52, li_53, li_54, li_55, li_56, li_57, li_58, li_59, li_60, li_61, li_63, li_70, li_96, li_97, li_99, li_100, li_101, li_102, li_120, li_122, li_126, li_200, li_255, li_423, li_555, li_999, li_1000, li_1111, li_2968, li_9999, li_10631, li_12345, li_14092, li_21470, li_65536, li_99233, nz_eq, n1_eq, n1_lt, n1_gt, n1_le, n1_ge, n1_sub, n1_add, nm_add, nz_add, nz_add2, z1_ne, z1_lt, z1_le, nI_1, pk_sub, nI_ltI, nI_leI, nI_eq, ni_neg, ni_nneg, ni_pos0, ni_nle0, ni_m1, gI_eq, gI_ne, xI_sJ, xI_sR, xR_sI, xR_sJ, xJ_sI, xJ_sR, gJ_eq, gJ_ne, gR_eq, gR_ne, if_true, if_false, ite_true, ite_false, not_true_eq_false, not_false_eq_true, decide_true, and_self, true_and, and_true, false_and, and_false, or_true, true_or, or_false, false_or, reduceIte, ne_eq])
  · have n1 : 32 ≤ S.length := by omega
    have n2 := h.1
    rw [evPush_ge h32]
    simp (disch := omega) only [h.2.1, l, n1, bnd_e, grd_t, bdI_e, bdV_e, bokA, bokB, ni_inb, ni_cl, nI_add, pk_mul, li_2, li_3, li_4, li_5, li_6, li_7, li_8, li_9, li_10, li_11, li_12, li_13, li_14, li_15, li_16, li_17, li_18, li_19, li_20, li_21, li_22, li_23, li_24, li_25, li_26, li_27, li_28, li_29, li_30, li_31, li_32, li_33, li_34, li_35, li_36, li_37, li_38, li_39, li_40, li_41, li_42, li_43, li_44, li_45, li_46, li_47, li_48, li_49, li_50, li_51, li_52, li_53, li_54, li_55, li_56, li_57, li_58, li_59, li_60, li_61, li_63, li_70, li_96, li_97, li_99, li_100, li_101, li_102, li_120, li_122, li_126, li_200, li_255, li_423, li_555, li_999, li_1000, li_1111, li_2968, li_9999, li_10631, li_12345, li_14092, li_21470, li_65536, li_99233, nz_eq, n1_eq, n1_lt, n1_gt, n1_le, n1_ge, n1_sub, n1_add, nm_add, nz_add, nz_add2, z1_ne, z1_lt, z1_le, nI_1, pk_sub, nI_ltI, nI_leI, nI_eq, ni_neg, ni_nneg, ni_pos0, ni_nle0, ni_m1, gI_eq, gI_ne, xI_sJ, xI_sR, xR_sI, xR_sJ, xJ_sI, xJ_sR, gJ_eq, gJ_ne, gR_eq, gR_ne, if_true, if_false, ite_true, ite_false, not_true_eq_false, not_false_eq_true, decide_true, and_self, true_and, and_true, false_and, and_false, or_true, true_or, or_false, false_or, reduceIte, ne_eq]
    exact (Sat_some _ _).mpr ⟨h, Kp.refl m⟩
theorem pop_s {b : Nat} {S : List Int32} {m : Mm} (l : Lp.2.1 (b + 2) = 32) (h : Stk b S m) : Sat (f_X2_pop b m) (fun q => q.1 = evTop S ∧ Stk b S.tail q.2 ∧ Kp (WLw b) m q.2) := by
  unfold f_X2_pop
  cases S with
  | nil =>
    have h2 : gI m b 4 = nI 0 := h.2.1
    simp (disch := omega) only [h2, Nat.le_refl, bnd_e, grd_t, bdI_e, bdV_e, bokA, bokB, ni_inb, ni_cl, nI_add, pk_mul, li_2, li_3, li_4, li_5, li_6, li_7, li_8, li_9, li_10, li_11, li_12, li_13, li_14, li_15, li_16, li_17, li_18, li_19, li_20, li_21, li_22, li_23, li_24, li_25, li_26, li_27, li_28, li_29, li_30, li_31, li_32, li_33, li_34, li_35, li_36, li_37, li_38, li_39, li_40, li_41, li_42, li_43, li_44, li_45, li_46, li_47, li_48, li_49, li_50, li_51, li_52, li_53, li_54, li_55, li_56, li_57, li_58, li_59, li_60, li_61, li_63, li_70, li_96, li_97, li_99, li_100, li_101, li_102, li_120, li_122, li_126, li_200, li_255, li_423, li_555, li_999, li_1000, li_1111, li_2968, li_9999, li_10631, li_12345, li_14092, li_21470, li_65536, li_99233, nz_eq, n1_eq, n1_lt, n1_gt, n1_le, n1_ge, n1_sub, n1_add, nm_add, nz_add, nz_add2, z1_ne, z1_lt, z1_le, nI_1, pk_sub, nI_ltI, nI_leI, nI_eq, ni_neg, ni_nneg, ni_pos0, ni_nle0, ni_m1, gI_eq, gI_ne, xI_sJ, xI_sR, xR_sI, xR_sJ, xJ_sI, xJ_sR, gJ_eq, gJ_ne, gR_eq, gR_ne, if_true, if_false, ite_true, ite_false, not_true_eq_false, not_false_eq_true, decide_true, and_self, true_and, and_true, false_and, and_false, or_true, true_or, or_false, false_or, reduceIte, ne_eq]
    exact (Sat_some _ _).mpr ⟨rfl, ⟨by decide, h2, trivial⟩, Kp.refl m⟩
  | cons v S =>
    have h2 : gI m b 4 = nI (S.length + 1) := h.2.1
    have h1 : S.length + 1 ≤ 32 := h.1
    have n1 : ¬ S.length + 1 ≤ 0 := by omega
    have e1 : gI m (b + 2) S.length = v := h.2.2.1
    simp (disch := omega) only [h2, l, n1, h1, Nat.add_sub_cancel, e1, bnd_e, grd_t, bdI_e, bdV_e, bokA, bokB, ni_inb, ni_cl, nI_add, pk_mul, li_2, li_3, li_4, li_5, li_6, li_7, li_8, li_9, li_10, li_11, li_12, li_13, li_14, li_15, li_16, li_17, li_18, li_19, li_20, li_21, li_22, li_23, li_24, li_25, li_26, li_27, li_28, li_29, li_30, li_31, li_32, li_33, li_34, li_35, li_36, li_37, li_38, li_39, li_40, li_41, li_42, li_43, li_44, li_45, li_46, li_47, li_48, li_49, li_50, li_51, li_52, li_53, li_54, li_55, li_56, li_57, li_58, li_59, li_60, li_61, li_63, li_70, li_96, li_97, li_99, li_100, li_101, li_102, li_120, li_122, li_126, li_200, li_255, li_423, li_555, li_999, li_1000, li_1111, li_2968, li_9999, li_10631, li_12345, li_14092, li_21470, li_65536, li_99233, nz_eq, n1_eq, n1_lt, n1_gt, n1_le, n1_ge, n1_sub, n1_add, nm_add, nz_add, nz_add2, z1_ne, z1_lt, z1_le, nI_1, pk_sub, nI_ltI, nI_leI, nI_eq, ni_neg, ni_nneg, ni_pos0, ni_nle0, ni_m1, gI_eq, gI_ne, xI_sJ, xI_sR, xR_sI, xR_sJ, xJ_sI, xJ_sR, gJ_eq, gJ_ne, gR_eq, gR_ne, if_true, if_false, ite_true, ite_false, not_true_eq_false, not_false_eq_true, decide_true, and_self, true_and, and_true, false_and, and_false, or_true, true_or, or_false, false_or, reduceIte, ne_eq]
    exact (Sat_some _ _).mpr ⟨rfl, ⟨Nat.le_of_succ_le h1, by simp (disch := omega) only [bnd_e, grd_t, bdI_e, bdV_e, bokA, bokB, ni_inb, ni_cl, nI_add, pk_mul, li_2, li_3, li_4, li_5, li_6, li_7, li_8, li_9, li_10, li_11, li_12, li_13, li_14, li_15, li_16, li_17, li_18, li_19, li_20, li_21, li_22, li_23, li_24, li_25, li_26, li_27, li_28, li_29, li_30, li_31, li_32, li_33, li_34, li_35, li_36, li_37, li_38, li_39, li_40, li_41, li_42, li_43, li_44, li_45, li_46, li_47, li_48, li_49, li_50, li_51, li_52, li_53, li_54, li_55, li_56, li_57, li_58, li_59, li_60, li_61, li_63, li_70, li_96, li_97, li_99, li_100, li_101, li_102, li_120, li_122, li_126, li_200, li_255, li_423, li_555, li_999, li_1000, li_1111, li_2968, li_9999, li_10631, li_12345, li_14092, li_21470, li_65536, li_99233, nz_eq, n1_eq, n1_lt, n1_gt, n1_le, n1_ge, n1_sub, n1_add, nm_add, nz_add, nz_add2, z1_ne, z1_lt, z1_le, nI_1, pk_sub, nI_ltI, nI_leI, nI_eq, ni_neg, ni_nneg, ni_pos0, ni_nle0, ni_m1, gI_eq, gI_ne, xI_sJ, xI_sR, xR_sI, xR_sJ, xJ_sI, xJ_sR, gJ_eq, gJ_ne, gR_eq, gR_ne, if_true, if_false, ite_true, ite_false, not_true_eq_false, not_false_eq_true, decide_true, and_self, true_and, and_true, false_and, and_false, or_true, true_or, or_false, false_or, reduceIte, ne_eq]; rfl, h.2.2.2.keep (fun k hk => by simp (disch := omega) only [bnd_e, grd_t, bdI_e, bdV_e, bokA, bokB, ni_inb, ni_cl, nI_add, pk_mul, li_2, li_3, li_4, li_5, li_6, li_7, li_8, li_9, li_10, li_11, li_12, li_13, li_14, li_15, li_16, li_17, li_18, li_19, li_20, li_21, li_22, li_23, li_24, li_25, li_26, li_27, li_28, li_29, li_30, li_31, li_32, li_33, li_34, li_35, li_36, li_37, li_38, li_39, li_40, li_41, li_42, li_43, li_44, li_45, li_46, li_47, li_48, li_49, li_50, li_51, li_52, li_53, li_54, li_55, li_56, li_57, li_58, li_59, li_60, li_61, li_63, li_70, li_96, li_97, li_99, li_100, li_101, li_102, li_120, li_122, li_126, li_200, li_255, li_423, li_555, li_999, li_1000, li_1111, li_2968, li_9999, li_10631, li_12345, li_14092, li_21470, li_65536, li_99233, nz_eq, n1_eq, n1_lt, n1_gt, n1_le, n1_ge, n1_sub, n1_add, nm_add, nz_add, nz_add2, z1_ne, z1_lt, z1_le, nI_1, pk_sub, nI_ltI, nI_leI, nI_eq, ni_neg, ni_nneg, ni_pos0, ni_nle0, ni_m1, gI_eq, gI_ne, xI_sJ, xI_sR, xR_sI, xR_sJ, xJ_sI, xJ_sR, gJ_eq, gJ_ne, gR_eq, gR_ne, if_true, if_false, ite_true, ite_false, not_true_eq_false, not_false_eq_true, decide_true, and_self, true_and, and_true, false_and, and_false, or_true, true_or, or_false, false_or, reduceIte, ne_eq])⟩, (Kp.refl m).sI _ (Or.inl ⟨rfl, rfl⟩)⟩
theorem joined_e (c l r : Int32) (m : Mm) : f_X2_joined c l r m = some (evJoin c l r, m) := by
  unfold f_X2_joined f_X2_joined_J62 evJoin
  by_cases h1 : c = -17
  · subst h1; rw [if_pos rfl, if_neg (show ¬ ((-17 : Int32) = -12) by decide), if_neg (show ¬ ((-17 : Int32) = -13) by decide), if_neg (show ¬ ((-17 : Int32) = -14) by decide), if_neg (show ¬ ((-17 : Int32) = -15) by decide), if_neg (show ¬ ((-17 : Int32) = -16) by decide), if_pos rfl]
  rw [if_neg h1]
  by_cases h2 : c = -16
  · subst h2; rw [if_pos rfl, if_neg (show ¬ ((-16 : Int32) = -12) by decide), if_neg (show ¬ ((-16 : Int32) = -13) by decide), if_neg (show ¬ ((-16 : Int32) = -14) by decide), if_neg (show ¬ ((-16 : Int32) = -15) by decide), if_pos rfl]
  rw [if_neg h2]
  by_cases h3 : c = -15
  · subst h3
    rw [if_pos rfl, if_neg (show ¬ ((-15 : Int32) = -12) by decide), if_neg (show ¬ ((-15 : Int32) = -13) by decide), if_neg (show ¬ ((-15 : Int32) = -14) by decide), if_pos rfl]
    by_cases q : l = r
    · rw [if_neg (show ¬ ¬ l = r from fun n => n q), if_pos q]
    · rw [if_pos (show ¬ l = r from q), if_neg q]
  rw [if_neg h3]
  by_cases h4 : c = -14
  · subst h4
    rw [if_pos rfl, if_neg (show ¬ ((-14 : Int32) = -12) by decide), if_neg (show ¬ ((-14 : Int32) = -13) by decide), if_pos rfl]
    by_cases q : r ≤ l
    · rw [if_pos q, if_neg (show ¬ l < r from Int32.not_lt.mpr q)]
    · rw [if_neg q, if_pos (show l < r from Int32.not_le.mp q)]
  rw [if_neg h4]
  by_cases h5 : c = -13
  · subst h5
    rw [if_pos rfl, if_neg (show ¬ ((-13 : Int32) = -12) by decide), if_pos rfl]
    by_cases q : l = 0
    · rw [if_neg (show ¬ ¬ l = 0 from fun n => n q)]
      by_cases q2 : r = 0
      · rw [if_pos q2, if_neg (show ¬ (l ≠ 0 ∨ r ≠ 0) from fun n => n.elim (fun n => n q) (fun n => n q2))]
      · rw [if_neg q2, if_pos (show l ≠ 0 ∨ r ≠ 0 from Or.inr q2)]
    · rw [if_pos (show ¬ l = 0 from q), if_pos (show l ≠ 0 ∨ r ≠ 0 from Or.inl q)]
  rw [if_neg h5]
  by_cases h6 : c = -12
  · subst h6
    rw [if_pos rfl, if_pos rfl]
    by_cases q : l = 0
    · rw [if_pos q, if_neg (show ¬ (l ≠ 0 ∧ r ≠ 0) from fun n => n.1 q)]
    · rw [if_neg q]
      by_cases q2 : r = 0
      · rw [if_pos q2, if_neg (show ¬ (l ≠ 0 ∧ r ≠ 0) from fun n => n.2 q2)]
      · rw [if_neg q2, if_pos (show l ≠ 0 ∧ r ≠ 0 from ⟨q, q2⟩)]
  rw [if_neg h6, if_neg h6, if_neg h5, if_neg h4, if_neg h3, if_neg h2, if_neg h1]
theorem take_step {c : List Int32} {i : Nat} (hi : i < c.length) {α : Type} (f : α → Int32 → α) (z : α) : (c.take (i + 1)).foldl f z = f ((c.take i).foldl f z) (c.getD i 0) := by
  rw [List.take_succ, List.foldl_append, List.getElem?_eq_getElem hi, List.getD_eq_getElem?_getD, List.getElem?_eq_getElem hi]
  rfl
theorem value_nx {b h i : Nat} {S : List Int32} {v : Int32} {n : Mm} {k : Int32 → Mm → Option (Int32 × Mm)} {Q : Int32 × Mm → Prop} (l2 : Lp.2.1 (b + 2) = 32) (a1 : Stk b S n) (hk : ∀ m', Stk b (evPush v S) m' → Kp (WLw b) n m' → Sat (k (nI (i + 1)) m') Q) : Sat (bdV (f_X2_push b v n) fun m11 => f_X2_valueBy_J124 b h k (nI i) m11) Q := by
  rw [Sat_bdV]
  refine (push_s l2 a1).mono ?_
  intro n' ⟨c1, c2⟩
  unfold f_X2_valueBy_J124
  rw [bnd_e, show nI i + 1 = nI (i + 1) from nI_add _ 1]
  exact hk n' c1 c2
theorem value_step {c : List Int32} {b h i : Nat} {S : List Int32} {F : Nat → Int32} {n : Mm} {k : Int32 → Mm → Option (Int32 × Mm)} {Q : Int32 × Mm → Prop} (l1 : Lp.2.1 (b + 1) = 1000) (l2 : Lp.2.1 (b + 2) = 32) (l3 : Lp.2.1 h = 6) (hi : i < c.length) (hc : LwP c b n) (a1 : Stk b S n) (eF : ∀ j, gI n h j = F j) (hk : ∀ m', Stk b (evStep F S (c.getD i 0)) m' → Kp (WLw b) n m' → Sat (k (nI (i + 1)) m') Q) : Sat (f_X2_valueBy_B7 b h k (nI i) n) Q := by
  have c0 := hc.1
  have n1 : ¬ c.length ≤ i := by omega
  have n2 : ¬ 1000 ≤ i := by omega
  have e0 := hc.2.1
  have e1 := hc.2.2 i hi
  generalize c.getD i 0 = x at e1 hk
  unfold f_X2_valueBy_B7
  simp (disch := omega) only [e0, e1, n1, n2, l1, bnd_e, grd_t, bdI_e, bdV_e, bokA, bokB, ni_inb, ni_cl, nI_add, pk_mul, li_2, li_3, li_4, li_5, li_6, li_7, li_8, li_9, li_10, li_11, li_12, li_13, li_14, li_15, li_16, li_17, li_18, li_19, li_20, li_21, li_22, li_23, li_24, li_25, li_26, li_27, li_28, li_29, li_30, li_31, li_32, li_33, li_34, li_35, li_36, li_37, li_38, li_39, li_40, li_41, li_42, li_43, li_44, li_45, li_46, li_47, li_48, li_49, li_50, li_51, li_52, li_53, li_54, li_55, li_56, li_57, li_58, li_59, li_60, li_61, li_63, li_70, li_96, li_97, li_99, li_100, li_101, li_102, li_120, li_122, li_126, li_200, li_255, li_423, li_555, li_999, li_1000, li_1111, li_2968, li_9999, li_10631, li_12345, li_14092, li_21470, li_65536, li_99233, nz_eq, n1_eq, n1_lt, n1_gt, n1_le, n1_ge, n1_sub, n1_add, nm_add, nz_add, nz_add2, z1_ne, z1_lt, z1_le, nI_1, pk_sub, nI_ltI, nI_leI, nI_eq, ni_neg, ni_nneg, ni_pos0, ni_nle0, ni_m1, gI_eq, gI_ne, xI_sJ, xI_sR, xR_sI, xR_sJ, xJ_sI, xJ_sR, gJ_eq, gJ_ne, gR_eq, gR_ne, if_true, if_false, ite_true, ite_false, not_true_eq_false, not_false_eq_true, decide_true, and_self, true_and, and_true, false_and, and_false, or_true, true_or, or_false, false_or, reduceIte, ne_eq]
  unfold evStep at hk
  by_cases x0 : x < 0
  · have x0' : ¬ 0 ≤ x := Int32.not_le.mpr x0
    rw [if_pos x0]
    rw [if_neg x0'] at hk
    by_cases x1 : x ≤ -nI 11
    · have x1' : ¬ -11 < x := Int32.not_lt.mpr x1
      rw [if_pos x1]
      rw [if_neg x1'] at hk
      by_cases x2 : x = -nI 11
      · have x2' : x = -11 := x2
        rw [if_neg (fun n => n x2)]
        rw [if_pos x2'] at hk
        rw [Sat_bdI]
        refine (pop_s l2 a1).mono ?_
        intro q ⟨q1, q2, q3⟩
        unfold f_X2_valueBy_J98
        rw [q1]
        by_cases z : evTop S = 0
        · rw [if_neg (fun n => n z)]
          rw [if_pos z] at hk
          exact value_nx l2 q2 (fun m' h1 h2 => hk m' h1 (q3.trans h2))
        · rw [if_pos z]
          rw [if_neg z] at hk
          exact value_nx l2 q2 (fun m' h1 h2 => hk m' h1 (q3.trans h2))
      · have x2' : ¬ x = -11 := x2
        rw [if_pos x2]
        rw [if_neg x2'] at hk
        rw [Sat_bdI]
        refine (pop_s l2 a1).mono ?_
        intro q ⟨q1, q2, q3⟩
        rw [Sat_bdI]
        refine (pop_s l2 q2).mono ?_
        intro r ⟨r1, r2, r3⟩
        rw [joined_e, bdI_e, q1, r1]
        exact value_nx l2 r2 (fun m' h1 h2 => hk m' h1 ((q3.trans r3).trans h2))
    · have x1' : -11 < x := Int32.not_le.mp x1
      rw [if_neg x1]
      rw [if_pos x1'] at hk
      unfold f_X2_valueBy_J72 f_X2_valueBy_J73
      by_cases y0 : -1 - x < 0
      · rw [if_pos y0]
        rw [if_neg (fun q => Int32.not_le.mpr y0 q.1)] at hk
        exact value_nx l2 a1 hk
      · rw [if_neg y0, l3]
        by_cases y1 : Int32.ofNat 6 ≤ -1 - x
        · rw [if_pos y1]
          rw [if_neg (fun q => Int32.not_lt.mpr y1 q.2)] at hk
          exact value_nx l2 a1 hk
        · rw [if_neg y1]
          rw [if_pos ⟨Int32.not_lt.mp y0, Int32.not_le.mp y1⟩] at hk
          rcases pk_ix (-1 - x) (n := 6) (by decide) with g | g | ⟨j, hj, g⟩
          · exact absurd g y0
          · exact absurd g y1
          · rw [g] at hk ⊢
            rw [ni_cl _ (by omega)] at hk ⊢
            simp (disch := omega) only [eF, bnd_e, grd_t, bdI_e, bdV_e, bokA, bokB, ni_inb, ni_cl, nI_add, pk_mul, li_2, li_3, li_4, li_5, li_6, li_7, li_8, li_9, li_10, li_11, li_12, li_13, li_14, li_15, li_16, li_17, li_18, li_19, li_20, li_21, li_22, li_23, li_24, li_25, li_26, li_27, li_28, li_29, li_30, li_31, li_32, li_33, li_34, li_35, li_36, li_37, li_38, li_39, li_40, li_41, li_42, li_43, li_44, li_45, li_46, li_47, li_48, li_49, li_50, li_51, li_52, li_53, li_54, li_55, li_56, li_57, li_58, li_59, li_60, li_61, li_63, li_70, li_96, li_97, li_99, li_100, li_101, li_102, li_120, li_122, li_126, li_200, li_255, li_423, li_555, li_999, li_1000, li_1111, li_2968, li_9999, li_10631, li_12345, li_14092, li_21470, li_65536, li_99233, nz_eq, n1_eq, n1_lt, n1_gt, n1_le, n1_ge, n1_sub, n1_add, nm_add, nz_add, nz_add2, z1_ne, z1_lt, z1_le, nI_1, pk_sub, nI_ltI, nI_leI, nI_eq, ni_neg, ni_nneg, ni_pos0, ni_nle0, ni_m1, gI_eq, gI_ne, xI_sJ, xI_sR, xR_sI, xR_sJ, xJ_sI, xJ_sR, gJ_eq, gJ_ne, gR_eq, gR_ne, if_true, if_false, ite_true, ite_false, not_true_eq_false, not_false_eq_true, decide_true, and_self, true_and, and_true, false_and, and_false, or_true, true_or, or_false, false_or, reduceIte, ne_eq]
            exact value_nx l2 a1 hk
  · rw [if_neg x0]
    rw [if_pos (Int32.not_lt.mp x0)] at hk
    exact value_nx l2 a1 hk
theorem valueP {c : List Int32} {b h : Nat} {m : Mm} (hb : h < b ∨ b + 2 < h) (l1 : Lp.2.1 (b + 1) = 1000) (l2 : Lp.2.1 (b + 2) = 32) (l3 : Lp.2.1 h = 6) (hc : LwP c b m) : Sat (f_X2_valueBy b h m) (fun q => q.1 = evP c (fun i => gI m h i) ∧ Kp (WLw b) m q.2) := by
  have c0 := hc.1
  unfold f_X2_valueBy
  rw [bnd_e]
  refine cnt1 c.length (by omega) (fun i n => Stk b ((c.take i).foldl (evStep (fun i => gI m h i)) []) n ∧ Kp (WLw b) m n) ?_ ?_ ⟨⟨Nat.zero_le _, gI_eq _ _ _ _ _ _ rfl rfl, trivial⟩, (Kp.refl m).sI _ (Or.inl ⟨rfl, rfl⟩)⟩
  · intro i n k hi ⟨a1, a2⟩ hk
    have hc' : LwP c b n := hc.keep (a2.1 _ _ (by unfold WLw; omega)) (fun j => a2.1 _ _ (by unfold WLw; omega))
    exact value_step l1 l2 l3 hi hc' a1 (fun j => a2.1 _ _ (by unfold WLw; omega)) (fun m' h1 h2 => hk m' ⟨by rw [take_step hi]; exact h1, a2.trans h2⟩)
  · intro n k ⟨a1, a2⟩
    have e0 : gI n b 3 = nI c.length := (a2.1 _ _ (by unfold WLw; omega)).trans hc.2.1
    unfold f_X2_valueBy_B7 f_X2_valueBy_J130
    simp (disch := omega) only [e0, Nat.le_refl, bnd_e, grd_t, bdI_e, bdV_e, bokA, bokB, ni_inb, ni_cl, nI_add, pk_mul, li_2, li_3, li_4, li_5, li_6, li_7, li_8, li_9, li_10, li_11, li_12, li_13, li_14, li_15, li_16, li_17, li_18, li_19, li_20, li_21, li_22, li_23, li_24, li_25, li_26, li_27, li_28, li_29, li_30, li_31, li_32, li_33, li_34, li_35, li_36, li_37, li_38, li_39, li_40, li_41, li_42, li_43, li_44, li_45, li_46, li_47, li_48, li_49, li_50, li_51, li_52, li_53, li_54, li_55, li_56, li_57, li_58, li_59, li_60, li_61, li_63, li_70, li_96, li_97, li_99, li_100, li_101, li_102, li_120, li_122, li_126, li_200, li_255, li_423, li_555, li_999, li_1000, li_1111, li_2968, li_9999, li_10631, li_12345, li_14092, li_21470, li_65536, li_99233, nz_eq, n1_eq, n1_lt, n1_gt, n1_le, n1_ge, n1_sub, n1_add, nm_add, nz_add, nz_add2, z1_ne, z1_lt, z1_le, nI_1, pk_sub, nI_ltI, nI_leI, nI_eq, ni_neg, ni_nneg, ni_pos0, ni_nle0, ni_m1, gI_eq, gI_ne, xI_sJ, xI_sR, xR_sI, xR_sJ, xJ_sI, xJ_sR, gJ_eq, gJ_ne, gR_eq, gR_ne, if_true, if_false, ite_true, ite_false, not_true_eq_false, not_false_eq_true, decide_true, and_self, true_and, and_true, false_and, and_false, or_true, true_or, or_false, false_or, reduceIte, ne_eq]
    rw [Sat_bdI]
    refine (pop_s l2 a1).mono ?_
    intro q ⟨q1, q2, q3⟩
    rw [List.take_length] at q1
    exact (Sat_some _ _).mpr ⟨q1, a2.trans q3⟩
