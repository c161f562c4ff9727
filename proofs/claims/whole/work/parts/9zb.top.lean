/-! a station told, both -/
theorem dft0 {s : Nat} {d : Tk} {nP nM : Mm} (hs : s = 4 ∨ s = 34) (a1 : ∀ j, j < 7 → gI nP s (6 + j) = nI (us j)) (a2 : gI nP s 13 = 0) (a3 : gI nP (s + 10) 3 = 0) (a4 : gI nP (s + 13) 3 = 0) (hf : FlP nP) (b1 : N1 uC nM) (b2 : gI nM 13 2 = nI 1000) (b3 : gI nM 14 2 = nI 1000) (b4 : gI nM 13 3 = nI 1000) (b5 : gI nM 14 3 = nI 1000) (b6 : gI nM 0 26 = 0) (b7 : gI nM 0 24 = nI 1000) : Dft s d nP nM := by
  have z0 : uC 0 0 = 0 := rfl
  have z1 : uC 0 1 = 0 := rfl
  refine ⟨uC, fun _ => [], fun _ => [], false, false, false, false, false, false, 0, ⟨uC_ok, hs, a1, fun t ht => absurd ht (by omega), fun p hp => absurd hp (by omega), b1, fun t ht => absurd ht (by omega), fun p hp => absurd hp (by omega), fun t ht => absurd ht (by omega), fun p hp => absurd hp (by omega)⟩, ⟨a2, b6⟩, b7, Nat.zero_le _, ?_, ?_, hf⟩
  · exact ⟨[], [], 0, ⟨by decide, a3, fun i hi => absurd hi (Nat.not_lt_zero _)⟩, ⟨by decide, b2, b3, fun i hi => absurd hi (Nat.not_lt_zero _)⟩, LwEq.nil 0, by decide, ⟨fun q => absurd q (by decide), fun q => absurd (Eq.refl _) q⟩⟩
  · exact ⟨[], [], 0, ⟨by decide, a4, fun i hi => absurd hi (Nat.not_lt_zero _)⟩, ⟨by decide, b4, b5, fun i hi => absurd hi (Nat.not_lt_zero _)⟩, LwEq.nil 1, by decide, ⟨fun q => absurd q (by decide), fun q => absurd (Eq.refl _) q⟩⟩
theorem readB {T : Nat → Nat} {n s : Nat} {mP mM : Mm} (hT : TpOK T n) (hs : s = 4 ∨ s = 34) (tP : TpP T n mP) (tM : TpM T n mM) (hf : FlP mP) : S2 (f_X5_readStation s mP) (f_X12_readsAll mM) (fun q q' => Kp (WSt s) mP q.2 ∧ Kp XSa mM q'.2 ∧ gI q'.2 0 1 = 0 ∧ ((q'.1 = 0 ∧ q.1 = gI q'.2 0 9 ∧ ¬ q.1 = 0) ∨ (q'.1 = 1 ∧ q.1 = 0 ∧ ∃ d, Dft s d q.2 q'.2))) := by
  have n0 := hT.1
  obtain ⟨nM, eM, rM, b1, b2, b3, b4, b5, b6, b7, b8, kM0⟩ := beginsAll hT tM
  obtain ⟨m0, ec, c1, c2, c3, c4, kc⟩ := clearP (m := mP) hs
  rw [eM]
  unfold f_X5_readStation f_X9_rewind
  rw [ec, bdV_e]
  simp only [bnd_e]
  have hP0 : TpP T n (sI (sI m0 3 2 0) 1 4 0) := ⟨(gI_ne _ _ _ _ _ _ (by omega)).trans ((gI_ne _ _ _ _ _ _ (by omega)).trans ((kc.1 _ _ (by omega)).trans tP.1)), fun i hi => (gI_ne _ _ _ _ _ _ (by omega)).trans ((gI_ne _ _ _ _ _ _ (by omega)).trans ((kc.1 _ _ (by omega)).trans (tP.2 i hi)))⟩
  obtain ⟨nP, eP, h1, h2⟩ := advP (p := 0) hT hP0 (by omega) (gI_eq _ _ _ _ _ _ rfl rfl)
  rw [eP, bdV_e, bdV_e]
  have tok := tk_ok (T := T) (n := n) (p := 0) (by omega)
  have rP : RdP T n (tk T n 0) nP := ⟨⟨(h2.1 _ _ (by omega)).trans hP0.1, fun i hi => (h2.1 _ _ (by omega)).trans (hP0.2 i hi)⟩, h1⟩
  have kP0 : Kp (WSt s) mP nP := (((kc.mono (fun a k q => by unfold WSt; omega)).sI _ (by unfold WSt WRP; omega)).sI _ (by unfold WSt WRP; omega)).trans (h2.mono (fun a k q => by unfold WSt WRP; omega))
  have up : ∀ a k, 4 ≤ a → gI nP a k = gI m0 a k := fun a k h => (h2.1 _ _ (by omega)).trans ((gI_ne _ _ _ _ _ _ (by omega)).trans (gI_ne _ _ _ _ _ _ (by omega)))
  have hf0 : FlP nP := ⟨((up _ _ (by decide)).trans (kc.1 _ _ (by omega))).trans hf.1, ((up _ _ (by decide)).trans (kc.1 _ _ (by omega))).trans hf.2.1, ((up _ _ (by decide)).trans (kc.1 _ _ (by omega))).trans hf.2.2.1, ((up _ _ (by decide)).trans (kc.1 _ _ (by omega))).trans hf.2.2.2⟩
  have df : Dft s (tk T n 0) nP nM := dft0 hs (fun j hj => (up _ _ (by omega)).trans (c1 j hj)) ((up _ _ (by omega)).trans c2) ((up _ _ (by omega)).trans c3) ((up _ _ (by omega)).trans c4) hf0 b1 b2 b3 b4 b5 b6 b7
  refine lopS21 (fun N x4 mp mq => ∃ i d, N = n - tkb d ∧ i ≤ tkb d ∧ x4 = nI i ∧ TkOK T n d ∧ RdP T n d mp ∧ RdM T n d mq ∧ Dft s d mp mq ∧ Kp (WSt s) mP mp ∧ Kp XSa mM mq ∧ gI mq 0 1 = 0) ?_ 4000 (n - tkb (tk T n 0)) (by omega) _ _ _ ⟨0, tk T n 0, rfl, Nat.zero_le _, rfl, tok.1, rP, rM, df, kP0, kM0, b8⟩
  intro N x4 mp mq k l ⟨i, d, hN, hi, e4, ok, r1, r2, hD, kP, kM, z01⟩ hk
  subst e4
  have bn := ok.1
  have cn := (ctk_n (T := T) ok).2
  have cb := ctk_b ok
  have n1 : ¬ 1000 < i := by omega
  by_cases z : tkK d = 0
  · unfold f_X5_readStation_B18 f_X12_readsAll_B52
    simp (disch := omega) only [n1, r1.2.2.2.1, cn.mpr z, r2.2.2.2.1, z, bnd_e, grd_t, bdI_e, bdV_e, bokA, bokB, ni_inb, ni_cl, nI_add, pk_mul, li_2, li_3, li_4, li_5, li_6, li_7, li_8, li_9, li_10, li_11, li_12, li_13, li_14, li_15, li_16, li_17, li_18, li_19, li_20, li_21, li_22, li_23, li_24, li_25, li_26, li_27, li_28, li_29, li_30, li_31, li_32, li_33, li_34, li_35, li_36, li_37, li_38, li_39, li_40, li_41, li_42, li_43, li_44, li_45, li_46, li_47, li_48, li_49, li_50, li_51, li_52, li_53, li_54, li_55, li_56, li_57, li_58, li_59, li_60, li_61, li_63, li_70, li_96, li_97, li_99, li_100, li_101, li_102, li_120, li_122, li_126, li_200, li_255, li_423, li_555, li_999, li_1000, li_1111, li_2968, li_9999, li_10631, li_12345, li_14092, li_21470, li_65536, li_99233, nz_eq, n1_eq, n1_lt, n1_gt, n1_le, n1_ge, n1_sub, n1_add, nm_add, nz_add, nz_add2, z1_ne, z1_lt, z1_le, nI_1, pk_sub, nI_ltI, nI_leI, nI_eq, ni_neg, ni_nneg, ni_pos0, ni_nle0, ni_m1, gI_eq, gI_ne, xI_sJ, xI_sR, xR_sI, xR_sJ, xJ_sI, xJ_sR, gJ_eq, gJ_ne, gR_eq, gR_ne, if_true, if_false, ite_true, ite_false, not_true_eq_false, not_false_eq_true, decide_true, and_self, true_and, and_true, false_and, and_false, or_true, true_or, or_false, false_or, reduceIte, ne_eq]
    exact (S2_some _ _ _).mpr ⟨kP, kM, z01, Or.inr ⟨rfl, rfl, d, hD⟩⟩
  · have nz : ¬ ctk T d = 101 := fun q => z (cn.mp q)
    obtain ⟨q, q', e1, e2, h5⟩ := lineB hT ok r1 r2 z hD
    rw [e2 l]
    unfold f_X5_readStation_B18 f_X12_readsAll_J216
    simp (disch := omega) only [n1, r1.2.2.2.1, nz, e1, bnd_e, grd_t, bdI_e, bdV_e, bokA, bokB, ni_inb, ni_cl, nI_add, pk_mul, li_2, li_3, li_4, li_5, li_6, li_7, li_8, li_9, li_10, li_11, li_12, li_13, li_14, li_15, li_16, li_17, li_18, li_19, li_20, li_21, li_22, li_23, li_24, li_25, li_26, li_27, li_28, li_29, li_30, li_31, li_32, li_33, li_34, li_35, li_36, li_37, li_38, li_39, li_40, li_41, li_42, li_43, li_44, li_45, li_46, li_47, li_48, li_49, li_50, li_51, li_52, li_53, li_54, li_55, li_56, li_57, li_58, li_59, li_60, li_61, li_63, li_70, li_96, li_97, li_99, li_100, li_101, li_102, li_120, li_122, li_126, li_200, li_255, li_423, li_555, li_999, li_1000, li_1111, li_2968, li_9999, li_10631, li_12345, li_14092, li_21470, li_65536, li_99233, nz_eq, n1_eq, n1_lt, n1_gt, n1_le, n1_ge, n1_sub, n1_add, nm_add, nz_add, nz_add2, z1_ne, z1_lt, z1_le, nI_1, pk_sub, nI_ltI, nI_leI, nI_eq, ni_neg, ni_nneg, ni_pos0, ni_nle0, ni_m1, gI_eq, gI_ne, xI_sJ, xI_sR, xR_sI, xR_sJ, xJ_sI, xJ_sR, gJ_eq, gJ_ne, gR_eq, gR_ne, if_true, if_false, ite_true, ite_false, not_true_eq_false, not_false_eq_true, decide_true, and_self, true_and, and_true, false_and, and_false, or_true, true_or, or_false, false_or, reduceIte, ne_eq]
    have kP' : Kp (WSt s) mP q.2 := kP.trans h5.1
    have kM' : Kp XSa mM q'.2 := kM.trans (h5.2.1.mono (fun a k h => Or.inl h))
    have z02 : gI q'.2 0 1 = 0 := (h5.2.1.1 _ _ (by unfold XSt WRM; omega)).trans z01
    rcases h5.2.2 with ⟨y1, y2, y3, y4⟩ | ⟨y1, y2, d2, o2, l2, s1, s2, hD2⟩
    · simp (disch := omega) only [y1, y2, bnd_e, grd_t, bdI_e, bdV_e, bokA, bokB, ni_inb, ni_cl, nI_add, pk_mul, li_2, li_3, li_4, li_5, li_6, li_7, li_8, li_9, li_10, li_11, li_12, li_13, li_14, li_15, li_16, li_17, li_18, li_19, li_20, li_21, li_22, li_23, li_24, li_25, li_26, li_27, li_28, li_29, li_30, li_31, li_32, li_33, li_34, li_35, li_36, li_37, li_38, li_39, li_40, li_41, li_42, li_43, li_44, li_45, li_46, li_47, li_48, li_49, li_50, li_51, li_52, li_53, li_54, li_55, li_56, li_57, li_58, li_59, li_60, li_61, li_63, li_70, li_96, li_97, li_99, li_100, li_101, li_102, li_120, li_122, li_126, li_200, li_255, li_423, li_555, li_999, li_1000, li_1111, li_2968, li_9999, li_10631, li_12345, li_14092, li_21470, li_65536, li_99233, nz_eq, n1_eq, n1_lt, n1_gt, n1_le, n1_ge, n1_sub, n1_add, nm_add, nz_add, nz_add2, z1_ne, z1_lt, z1_le, nI_1, pk_sub, nI_ltI, nI_leI, nI_eq, ni_neg, ni_nneg, ni_pos0, ni_nle0, ni_m1, gI_eq, gI_ne, xI_sJ, xI_sR, xR_sI, xR_sJ, xJ_sI, xJ_sR, gJ_eq, gJ_ne, gR_eq, gR_ne, if_true, if_false, ite_true, ite_false, not_true_eq_false, not_false_eq_true, decide_true, and_self, true_and, and_true, false_and, and_false, or_true, true_or, or_false, false_or, reduceIte, ne_eq]
      exact (S2_some _ _ _).mpr ⟨kP', kM', z02, Or.inl ⟨rfl, y3, y4⟩⟩
    · simp (disch := omega) only [y1, y2, bnd_e, grd_t, bdI_e, bdV_e, bokA, bokB, ni_inb, ni_cl, nI_add, pk_mul, li_2, li_3, li_4, li_5, li_6, li_7, li_8, li_9, li_10, li_11, li_12, li_13, li_14, li_15, li_16, li_17, li_18, li_19, li_20, li_21, li_22, li_23, li_24, li_25, li_26, li_27, li_28, li_29, li_30, li_31, li_32, li_33, li_34, li_35, li_36, li_37, li_38, li_39, li_40, li_41, li_42, li_43, li_44, li_45, li_46, li_47, li_48, li_49, li_50, li_51, li_52, li_53, li_54, li_55, li_56, li_57, li_58, li_59, li_60, li_61, li_63, li_70, li_96, li_97, li_99, li_100, li_101, li_102, li_120, li_122, li_126, li_200, li_255, li_423, li_555, li_999, li_1000, li_1111, li_2968, li_9999, li_10631, li_12345, li_14092, li_21470, li_65536, li_99233, nz_eq, n1_eq, n1_lt, n1_gt, n1_le, n1_ge, n1_sub, n1_add, nm_add, nz_add, nz_add2, z1_ne, z1_lt, z1_le, nI_1, pk_sub, nI_ltI, nI_leI, nI_eq, ni_neg, ni_nneg, ni_pos0, ni_nle0, ni_m1, gI_eq, gI_ne, xI_sJ, xI_sR, xR_sI, xR_sJ, xJ_sI, xJ_sR, gJ_eq, gJ_ne, gR_eq, gR_ne, if_true, if_false, ite_true, ite_false, not_true_eq_false, not_false_eq_true, decide_true, and_self, true_and, and_true, false_and, and_false, or_true, true_or, or_false, false_or, reduceIte, ne_eq]
      exact hk (n - tkb d2) _ _ _ (by have := o2.1; omega) ⟨i + 1, d2, rfl, by omega, rfl, o2, s1, s2, hD2, kP', kM', z02⟩
/-- all marks unlaid -/
theorem marksP {m : Mm} : Sat (lop (fun _ _ => none) f_X11_beginStation_B34 4000 0 m) (fun n => (∀ i, i < 4 → gI n (91 + (1 + 10 * i)) 3 = 0) ∧ Kp (fun a k => 92 ≤ a ∧ a ≤ 131 ∧ k = 3) m n) := by
  refine cnt1 4 (by decide) (fun i n => (∀ k, k < i → gI n (91 + (1 + 10 * k)) 3 = 0) ∧ Kp (fun a k => 92 ≤ a ∧ a ≤ 131 ∧ k = 3) m n) ?_ ?_ ⟨fun k hk => absurd hk (by omega), Kp.refl m⟩
  · intro i n k hi ⟨a1, a2⟩ hk
    have n1 : ¬ 4 ≤ i := by omega
    unfold f_X11_beginStation_B34
    simp (disch := omega) only [n1, bnd_e, grd_t, bdI_e, bdV_e, bokA, bokB, ni_inb, ni_cl, nI_add, pk_mul, li_2, li_3, li_4, li_5, li_6, li_7, li_8, li_9, li_10, li_11, li_12, li_13, li_14, li_15, li_16, li_17, li_18, li_19, li_20, li_21, li_22, li_23, li_24, li_25, li_26, li_27, li_28, li_29, li_30, li_31, li_32, li_33, li_34, li_35, li_36, li_37, li_38, li_39, li_40, li_41, li_42, li_43, li_44, li_45, li_46, li_47, li_48, li_49, li_50, li_51, li_52, li_53, li_54, li_55, li_56, li_57, li_58, li_59, li_60, li_61, li_63, li_70, li_96, li_97, li_99, li_100, li_101, li_102, li_120, li_122, li_126, li_200, li_255, li_423, li_555, li_999, li_1000, li_1111, li_2968, li_9999, li_10631, li_12345, li_14092, li_21470, li_65536, li_99233, nz_eq, n1_eq, n1_lt, n1_gt, n1_le, n1_ge, n1_sub, n1_add, nm_add, nz_add, nz_add2, z1_ne, z1_lt, z1_le, nI_1, pk_sub, nI_ltI, nI_leI, nI_eq, ni_neg, ni_nneg, ni_pos0, ni_nle0, ni_m1, gI_eq, gI_ne, xI_sJ, xI_sR, xR_sI, xR_sJ, xJ_sI, xJ_sR, gJ_eq, gJ_ne, gR_eq, gR_ne, if_true, if_false, ite_true, ite_false, not_true_eq_false, not_false_eq_true, decide_true, and_self, true_and, and_true, false_and, and_false, or_true, true_or, or_false, false_or, reduceIte, ne_eq]
    refine hk _ ⟨fun j hj => ?_, a2.sI _ (by omega)⟩
    by_cases z : j = i
    · subst z
      exact gI_eq _ _ _ _ _ _ rfl rfl
    · rw [gI_ne _ _ _ _ _ _ (by omega)]
      exact a1 j (by omega)
  · intro n k ⟨a1, a2⟩
    unfold f_X11_beginStation_B34
    simp (disch := omega) only [Nat.le_refl, bnd_e, grd_t, bdI_e, bdV_e, bokA, bokB, ni_inb, ni_cl, nI_add, pk_mul, li_2, li_3, li_4, li_5, li_6, li_7, li_8, li_9, li_10, li_11, li_12, li_13, li_14, li_15, li_16, li_17, li_18, li_19, li_20, li_21, li_22, li_23, li_24, li_25, li_26, li_27, li_28, li_29, li_30, li_31, li_32, li_33, li_34, li_35, li_36, li_37, li_38, li_39, li_40, li_41, li_42, li_43, li_44, li_45, li_46, li_47, li_48, li_49, li_50, li_51, li_52, li_53, li_54, li_55, li_56, li_57, li_58, li_59, li_60, li_61, li_63, li_70, li_96, li_97, li_99, li_100, li_101, li_102, li_120, li_122, li_126, li_200, li_255, li_423, li_555, li_999, li_1000, li_1111, li_2968, li_9999, li_10631, li_12345, li_14092, li_21470, li_65536, li_99233, nz_eq, n1_eq, n1_lt, n1_gt, n1_le, n1_ge, n1_sub, n1_add, nm_add, nz_add, nz_add2, z1_ne, z1_lt, z1_le, nI_1, pk_sub, nI_ltI, nI_leI, nI_eq, ni_neg, ni_nneg, ni_pos0, ni_nle0, ni_m1, gI_eq, gI_ne, xI_sJ, xI_sR, xR_sI, xR_sJ, xJ_sI, xJ_sR, gJ_eq, gJ_ne, gR_eq, gR_ne, if_true, if_false, ite_true, ite_false, not_true_eq_false, not_false_eq_true, decide_true, and_self, true_and, and_true, false_and, and_false, or_true, true_or, or_false, false_or, reduceIte, ne_eq]
    exact (Sat_some _ _).mpr ⟨a1, a2⟩
theorem marksM {m : Mm} : Sat (lop (fun _ _ => none) f_X12_station_B46 4000 0 m) (fun q => q.1 = 0 ∧ (∀ i, i < 4 → gI q.2 40 i = 0) ∧ Kp (fun a k => a = 40 ∧ k < 4) m q.2) := by
  have nb0 : vp_nar .boolean 0 = 0 := Eq.trans rfl (Eq.refl _)
  refine cnt1 4 (by decide) (fun i n => (∀ k, k < i → gI n 40 k = 0) ∧ Kp (fun a k => a = 40 ∧ k < 4) m n) ?_ ?_ ⟨fun k hk => absurd hk (by omega), Kp.refl m⟩
  · intro i n k hi ⟨a1, a2⟩ hk
    have n1 : ¬ 4 ≤ i := by omega
    unfold f_X12_station_B46
    simp (disch := omega) only [n1, nb0, bnd_e, grd_t, bdI_e, bdV_e, bokA, bokB, ni_inb, ni_cl, nI_add, pk_mul, li_2, li_3, li_4, li_5, li_6, li_7, li_8, li_9, li_10, li_11, li_12, li_13, li_14, li_15, li_16, li_17, li_18, li_19, li_20, li_21, li_22, li_23, li_24, li_25, li_26, li_27, li_28, li_29, li_30, li_31, li_32, li_33, li_34, li_35, li_36, li_37, li_38, li_39, li_40, li_41, li_42, li_43, li_44, li_45, li_46, li_47, li_48, li_49, li_50, li_51, li_52, li_53, li_54, li_55, li_56, li_57, li_58, li_59, li_60, li_61, li_63, li_70, li_96, li_97, li_99, li_100, li_101, li_102, li_120, li_122, li_126, li_200, li_255, li_423, li_555, li_999, li_1000, li_1111, li_2968, li_9999, li_10631, li_12345, li_14092, li_21470, li_65536, li_99233, nz_eq, n1_eq, n1_lt, n1_gt, n1_le, n1_ge, n1_sub, n1_add, nm_add, nz_add, nz_add2, z1_ne, z1_lt, z1_le, nI_1, pk_sub, nI_ltI, nI_leI, nI_eq, ni_neg, ni_nneg, ni_pos0, ni_nle0, ni_m1, gI_eq, gI_ne, xI_sJ, xI_sR, xR_sI, xR_sJ, xJ_sI, xJ_sR, gJ_eq, gJ_ne, gR_eq, gR_ne, if_true, if_false, ite_true, ite_false, not_true_eq_false, not_false_eq_true, decide_true, and_self, true_and, and_true, false_and, and_false, or_true, true_or, or_false, false_or, reduceIte, ne_eq]
    refine hk _ ⟨fun j hj => ?_, a2.sI _ ⟨rfl, hi⟩⟩
    by_cases z : j = i
    · subst z
      exact gI_eq _ _ _ _ _ _ rfl rfl
    · rw [gI_ne _ _ _ _ _ _ (by omega)]
      exact a1 j (by omega)
  · intro n k ⟨a1, a2⟩
    unfold f_X12_station_B46
    simp (disch := omega) only [Nat.le_refl, bnd_e, grd_t, bdI_e, bdV_e, bokA, bokB, ni_inb, ni_cl, nI_add, pk_mul, li_2, li_3, li_4, li_5, li_6, li_7, li_8, li_9, li_10, li_11, li_12, li_13, li_14, li_15, li_16, li_17, li_18, li_19, li_20, li_21, li_22, li_23, li_24, li_25, li_26, li_27, li_28, li_29, li_30, li_31, li_32, li_33, li_34, li_35, li_36, li_37, li_38, li_39, li_40, li_41, li_42, li_43, li_44, li_45, li_46, li_47, li_48, li_49, li_50, li_51, li_52, li_53, li_54, li_55, li_56, li_57, li_58, li_59, li_60, li_61, li_63, li_70, li_96, li_97, li_99, li_100, li_101, li_102, li_120, li_122, li_126, li_200, li_255, li_423, li_555, li_999, li_1000, li_1111, li_2968, li_9999, li_10631, li_12345, li_14092, li_21470, li_65536, li_99233, nz_eq, n1_eq, n1_lt, n1_gt, n1_le, n1_ge, n1_sub, n1_add, nm_add, nz_add, nz_add2, z1_ne, z1_lt, z1_le, nI_1, pk_sub, nI_ltI, nI_leI, nI_eq, ni_neg, ni_nneg, ni_pos0, ni_nle0, ni_m1, gI_eq, gI_ne, xI_sJ, xI_sR, xR_sI, xR_sJ, xJ_sI, xJ_sR, gJ_eq, gJ_ne, gR_eq, gR_ne, if_true, if_false, ite_true, ite_false, not_true_eq_false, not_false_eq_true, decide_true, and_self, true_and, and_true, false_and, and_false, or_true, true_or, or_false, false_or, reduceIte, ne_eq]
    exact (Sat_some _ _).mpr ⟨rfl, a1, a2⟩
theorem st_station : St_station Rel := by
  intro mP mM ⟨C, st, S, hR⟩
  refine of_key ?_
  have hst := hR.st
  obtain ⟨rr1, rr2, rr3, rr4, rr5, rr6, rr7, rr8, rr9, rr10⟩ := hR
  obtain ⟨T, n, hT, tP, tM⟩ := rr4
  have n0 := hT.1
  obtain ⟨s, hsd⟩ : ∃ s, s = 38 - st := ⟨_, rfl⟩
  have hs : s = 4 ∨ s = 34 := by omega
  have g2 : gR mP 0 2 = st := rr1.2.1
  have g3 : gR mP 0 3 = s := rr1.2.2.trans hsd.symm
  have tM1 : TpM T n (sI mM 0 0 0) := ⟨(gI_ne _ _ _ _ _ _ (by omega)).trans tM.1, fun i hi => (gI_ne _ _ _ _ _ _ (by omega)).trans (tM.2 i hi)⟩
  obtain ⟨q, q', e1, e2, kP, kM0, z1, h3⟩ := readB hT hs tP tM1 rr9
  have kM : Kp (fun a k => XSa a k ∨ (a = 0 ∧ k = 0)) mM q'.2 := ((Kp.refl mM).sI _ (by omega)).trans (kM0.mono (fun a k h => Or.inl h))
  have ls : decide (Lp.1 s = 7) = true := decide_eq_true (Lst hs)
  have lst : decide (Lp.1 st = 7) = true := decide_eq_true (Lst hst)
  have tp0 : ∀ nP nM : Mm, gI nP 1 1 = 0 → gI nM 0 1 = 0 → RTp nP nM := fun nP nM a b => ⟨fun _ => 0, 0, ⟨by omega, fun i hi => absurd hi (by omega)⟩, ⟨a, fun i hi => absurd hi (by omega)⟩, ⟨b, fun i hi => absurd hi (by omega)⟩⟩
  have q2 : gR q.2 0 2 = st := (kP.2.2 _ _).trans g2
  have q3 : gR q.2 0 3 = s := (kP.2.2 _ _).trans g3
  unfold f_X11_station f_X12_station
  simp only [bnd_e]
  rw [g3, ls, grd_t, e1, bdI_e, e2, bdI_e]
  rcases h3 with ⟨y1, y2, y3⟩ | ⟨y1, y2, d, C', NT, NP, t0, t1, t2, t3, f0, f1, cp, hA, -, -, -, ⟨jP, jM, aj, j1, j2, j3, -, -⟩, ⟨wP, wM, aw, w1, w2, w3, -, -⟩, hf⟩
  · rw [if_pos y3, if_neg (fun r => r y1)]
    refine (Sat_some _ _).mpr ((Sat_some _ _).mpr ⟨y2, C, st, S, ?_⟩)
    have eP : ∀ a k, ¬ (WSt s a k ∨ (a = 1 ∧ k = 1)) → gI (sI q.2 1 1 0) a k = gI mP a k := fun a k h => (gI_ne _ _ _ _ _ _ (by omega)).trans (kP.1 a k (fun r => h (Or.inl r)))
    have eM : ∀ a k, ¬ (XSa a k ∨ (a = 0 ∧ k = 0)) → gI q'.2 a k = gI mM a k := kM.1
    exact ⟨⟨rr1.1, q2, q3.trans hsd⟩, rr2.kp (fun a k h => eP a k (by unfold vP0 at h; unfold WSt WRP; omega)) (fun a k h => eM a k (by unfold vM0 at h; unfold XSa XSt WRM; omega)), rr3.kp (fun a k h => eP a k (by unfold vP1 at h; unfold WSt WRP; omega)) (fun a k h => eM a k (by unfold vM1 at h; unfold XSa XSt WRM; omega)), tp0 _ _ (gI_eq _ _ _ _ _ _ rfl rfl) z1, rr5.kp (fun a k h => eP a k (by unfold vP3 at h; unfold WSt WRP; omega)) (fun a k h => eM a k (by unfold vM3 at h; unfold XSa XSt WRM; omega)), rr6.kp (fun a k h => eP a k (by unfold vP4 at h; unfold WSt WRP; omega)) (fun a k h => eM a k (by unfold vM4 at h; unfold XSa XSt WRM; omega)), rr7.kp (fun a k h => eP a k (by unfold vP5 at h; unfold WSt WRP; omega)) (fun a k h => eM a k (by unfold vM5 at h; unfold XSa XSt WRM; omega)), rr8.kp (fun a k h => eP a k (by unfold vP6 at h; unfold WSt WRP; omega)) (fun a k h => eM a k (by unfold vM6 at h; unfold XSa XSt WRM; omega)), rr9.kp (fun a k h => eP a k (by unfold vP7 at h; unfold WSt WRP; omega)), (eM _ _ (by unfold XSa XSt WRM; omega)).trans rr10⟩
  · rw [if_neg (fun r => r y2), if_pos (by rw [y1]; decide)]
    have hC := hA.1
    have u2 : gR (sI q.2 1 1 0) 0 2 = st := q2
    have u3 : gR (sI q.2 1 1 0) 0 3 = s := q3
    rw [u2, lst, grd_t, u3, ls, grd_t]
    have v2 : gR (sR (sR (sI q.2 1 1 0) 0 2 s) 0 3 st) 0 2 = s := (gR_ne _ _ _ _ _ _ (by omega)).trans (gR_eq _ _ _ _ _ _ rfl rfl)
    have v3 : gR (sR (sR (sI q.2 1 1 0) 0 2 s) 0 3 st) 0 3 = st := gR_eq _ _ _ _ _ _ rfl rfl
    have gi : ∀ a k, gI (sR (sR (sI q.2 1 1 0) 0 2 s) 0 3 st) a k = gI (sI q.2 1 1 0) a k := fun a k => rfl
    have gq : ∀ a k, ¬ (a = 1 ∧ k = 1) → gI (sR (sR (sI q.2 1 1 0) 0 2 s) 0 3 st) a k = gI q.2 a k := fun a k h => (gi a k).trans (gI_ne _ _ _ _ _ _ (by omega))
    have g11 : gI (sR (sR (sI q.2 1 1 0) 0 2 s) 0 3 st) 1 1 = 0 := (gi 1 1).trans (gI_eq _ _ _ _ _ _ rfl rfl)
    generalize sR (sR (sI q.2 1 1 0) 0 2 s) 0 3 st = m8 at v2 v3 gq g11
    have cf8 : CfP C' s m8 := hA.cfP.keep hC (fun a k h1 h2 h3 => gq a k (by omega))
    unfold f_X11_beginStation
    rw [v2, ls, grd_t, bnd_e, Sat_bdV, Sat_bdV]
    refine (beginP (h := 64) (Or.inl rfl) hs cf8).mono ?_
    intro n2 ⟨p1, p2⟩
    simp only [bnd_e]
    refine marksP.mono ?_
    intro n5 ⟨p3, p4⟩
    rw [Sat_some]
    have kn : ∀ a k, ¬ ((92 ≤ a ∧ a ≤ 131 ∧ k = 3) ∨ (a = 0 ∧ k = 14) ∨ (a = 76 ∧ k = 2) ∨ (a = 68 ∧ k = 3) ∨ a = 64 ∨ a = 65) → gI n5 a k = gI m8 a k := fun a k h => (p4.1 _ _ (by omega)).trans ((gI_ne _ _ _ _ _ _ (by omega)).trans ((gI_ne _ _ _ _ _ _ (by omega)).trans ((gI_ne _ _ _ _ _ _ (by omega)).trans (p2.1 _ _ (by omega)))))
    have kr : ∀ k, gR n5 0 k = gR m8 0 k := fun k => (p4.2.2 _ _).trans (p2.2.2 _ _)
    have a68 : gI n5 68 3 = 0 := (p4.1 _ _ (by omega)).trans ((gI_ne _ _ _ _ _ _ (by omega)).trans ((gI_ne _ _ _ _ _ _ (by omega)).trans (gI_eq _ _ _ _ _ _ rfl rfl)))
    have a76 : gI n5 76 2 = 0 := (p4.1 _ _ (by omega)).trans ((gI_ne _ _ _ _ _ _ (by omega)).trans (gI_eq _ _ _ _ _ _ rfl rfl))
    have a14 : gI n5 0 14 = 0 := (p4.1 _ _ (by omega)).trans (gI_eq _ _ _ _ _ _ rfl rfl)
    have row5 : RowP 64 (frS C') n5 := p1.keep (fun k => (p4.1 _ _ (by omega)).trans ((gI_ne _ _ _ _ _ _ (by omega)).trans ((gI_ne _ _ _ _ _ _ (by omega)).trans (gI_ne _ _ _ _ _ _ (by omega))))) (fun k => (p4.1 _ _ (by omega)).trans ((gI_ne _ _ _ _ _ _ (by omega)).trans ((gI_ne _ _ _ _ _ _ (by omega)).trans (gI_ne _ _ _ _ _ _ (by omega)))))
    rw [Sat_bdV]
    refine laysM.mono ?_
    intro m4 ⟨l1, l2, l3, l4, l5, l6, lk⟩
    have cfm : CfM C' m4 := laysC hC hA.2.2.2.2.2.1 hA.2.2.2.2.2.2.1 hA.2.2.2.2.2.2.2.1 l1 l2 l3 l4
    have lj : LwM jM 0 aj m4 := laysL (by decide) j2 l5 l6
    have lw : LwM wM 1 aw m4 := laysL (by decide) w2 l5 l6
    rw [Sat_bdV]
    refine (freshM cfm).mono ?_
    intro m5 ⟨f1, f2⟩
    refine marksM.mono ?_
    intro w ⟨x1, x2, x3⟩
    have km : ∀ a k, ¬ ((a = 40 ∧ k < 4) ∨ (a = 0 ∧ k = 55) ∨ (a = 32 ∧ k = 0) ∨ (a = 28 ∧ k = 0) ∨ (a = 35 ∧ k < 17)) → gI w.2 a k = gI m4 a k := fun a k h => (x3.1 _ _ (by omega)).trans ((gI_ne _ _ _ _ _ _ (by omega)).trans ((gI_ne _ _ _ _ _ _ (by omega)).trans ((gI_ne _ _ _ _ _ _ (by omega)).trans (f2.1 _ _ (by omega)))))
    have b55 : gI w.2 0 55 = 0 := (x3.1 _ _ (by omega)).trans (gI_eq _ _ _ _ _ _ rfl rfl)
    have b32 : gI w.2 32 0 = 0 := (x3.1 _ _ (by omega)).trans ((gI_ne _ _ _ _ _ _ (by omega)).trans (gI_eq _ _ _ _ _ _ rfl rfl))
    have b28 : gI w.2 28 0 = 0 := (x3.1 _ _ (by omega)).trans ((gI_ne _ _ _ _ _ _ (by omega)).trans ((gI_ne _ _ _ _ _ _ (by omega)).trans (gI_eq _ _ _ _ _ _ rfl rfl)))
    have row35 : RowM 35 0 (frS C') w.2 := f1.keep (fun i hi => (x3.1 _ _ (by omega)).trans ((gI_ne _ _ _ _ _ _ (by omega)).trans ((gI_ne _ _ _ _ _ _ (by omega)).trans (gI_ne _ _ _ _ _ _ (by omega)))))
    obtain ⟨x, dd, hx, hdd, o1, o2, o3, o4⟩ := rr7
    refine ⟨y2.trans x1.symm, C', s, frS C', ⟨hs, (kr _).trans v2, (kr _).trans (v3.trans (by omega))⟩, ⟨hC, cf8.keep hC (fun a k h1 h2 h3 => kn a k (by omega)), cfm.keep hC (fun a k h => km a k (by omega)), jP, jM, wP, wM, aj, aw, j1.keep ((kn _ _ (by omega)).trans (gq _ _ (by omega))) (fun k => (kn _ _ (by omega)).trans (gq _ _ (by omega))), lj.keep (km _ _ (by omega)) (km _ _ (by omega)) (fun k hk => km _ _ (by omega)), j3, w1.keep ((kn _ _ (by omega)).trans (gq _ _ (by omega))) (fun k => (kn _ _ (by omega)).trans (gq _ _ (by omega))), lw.keep (km _ _ (by omega)) (km _ _ (by omega)) (fun k hk => km _ _ (by omega)), w3⟩, ⟨frS_ok hC, row5, row35⟩, tp0 _ _ ((kn _ _ (by omega)).trans g11) ((km _ _ (by omega)).trans ((lk.1 _ _ (by unfold WLa; omega)).trans z1)), ⟨fun _ _ => 0, ⟨by decide, fun i hi => absurd hi (Nat.not_lt_zero _)⟩, ⟨a68, fun i hi => absurd hi (Nat.not_lt_zero _)⟩, ⟨b28, fun i hi => absurd hi (Nat.not_lt_zero _)⟩⟩, ⟨fun _ _ => 0, ⟨by decide, fun i hi => absurd hi (Nat.not_lt_zero _)⟩, ⟨a76, fun i hi => absurd hi (Nat.not_lt_zero _)⟩, ⟨b32, fun i hi => absurd hi (Nat.not_lt_zero _)⟩⟩, ⟨x, 0, hx, by omega, ((kn _ _ (by omega)).trans ((gq _ _ (by omega)).trans (kP.1 _ _ (by unfold WSt WRP; omega)))).trans o1, a14, b55, fun i hi => absurd hi (Nat.not_lt_zero _)⟩, fun i hi => Or.inl ⟨p3 i hi, x2 i hi⟩, ⟨((kn _ _ (by omega)).trans (gq _ _ (by omega))).trans hf.1, ((kn _ _ (by omega)).trans (gq _ _ (by omega))).trans hf.2.1, ((kn _ _ (by omega)).trans (gq _ _ (by omega))).trans hf.2.2.1, ((kn _ _ (by omega)).trans (gq _ _ (by omega))).trans hf.2.2.2⟩, ((km _ _ (by omega)).trans ((lk.1 _ _ (by unfold WLa; omega)).trans (kM.1 _ _ (by unfold XSa XSt WRM; omega)))).trans rr10⟩
