/-! 20: hours -/
def bI1 (b : Nat) : Int32 := if b = 0 then -1 else nI (b - 1)
theorem bI1_0 : bI1 0 = -1 := if_pos rfl
theorem bI1_s (b : Nat) : bI1 (b + 1) = nI b := (if_neg (Nat.succ_ne_zero _)).trans (by rw [Nat.add_sub_cancel])
noncomputable def djH (C : Nat → Nat → Nat) (e mn : Nat) (wr : Nat → Nat) (jP wP : List Int32) (k : Nat) : Int32 := djy (dyD (mkE C e k (k + mn) 0 jP wP) wr)
theorem hoursP {C : Nat → Nat → Nat} {jP wP : List Int32} {st e f t mn : Nat} {wr : Nat → Nat} {S : Nat → Int32} {mP mM : Mm} (b : Bas C jP wP st e f t wr S mP mM) {dj : Nat → Int32} (hdj : dj = djH C e mn wr jP wP) (h1 : 1 ≤ mn) (h2 : mn ≤ 60) {N : Nat} (hN : N = 61 - mn) (rp : RowP 64 S mP) (pr : PrP (mkE C e 0 0 0 jP wP) st mP) : Sat (lop (fun _ _ _ _ => none) (f_X11_hours_B38 (nI mn)) 4000 0 (-1) 0 mP) (fun q => q.1 = bI1 (bsF dj N).1 ∧ KT st mP q.2) := by
  obtain ⟨cx, cm, hC, lq, ⟨be, bf, bt, bw⟩, bs⟩ := id b
  have hst := cx.1
  refine lopR4 (fun n x3 x4 x5 m' => ∃ i, i ≤ N ∧ n = N - i ∧ x3 = (bsF dj i).2 ∧ x4 = bI1 (bsF dj i).1 ∧ x5 = nI i ∧ PrP (mkE C e 0 0 0 jP wP) st m' ∧ KT st mP m') ?_ 4000 N (by omega) _ _ _ _ ⟨0, by omega, by omega, rfl, bI1_0.symm, rfl, pr, KT.refl mP⟩
  intro n x3 x4 x5 m' k ⟨i, hi, hn, e3, e4, e5, hpr, hkt⟩ hk
  subst e3
  subst e4
  subst e5
  have bl := bsF_le dj i
  unfold f_X11_hours_B38 f_X11_hours_J106 f_X11_hours_J117
  by_cases z : i = N
  · have n1 : 60 < i + mn := by omega
    simp (disch := omega) only [n1, bnd_e, grd_t, bdI_e, bdV_e, bokA, bokB, ni_inb, ni_cl, nI_add, pk_mul, li_2, li_3, li_4, li_5, li_6, li_7, li_8, li_9, li_10, li_11, li_12, li_13, li_14, li_15, li_16, li_17, li_18, li_19, li_20, li_21, li_22, li_23, li_24, li_25, li_26, li_27, li_28, li_29, li_30, li_31, li_32, li_33, li_34, li_35, li_36, li_37, li_38, li_39, li_40, li_41, li_42, li_43, li_44, li_45, li_46, li_47, li_48, li_49, li_50, li_51, li_52, li_53, li_54, li_55, li_56, li_57, li_58, li_59, li_60, li_61, li_63, li_70, li_96, li_97, li_99, li_100, li_101, li_102, li_120, li_122, li_126, li_200, li_255, li_423, li_555, li_999, li_1000, li_1111, li_2968, li_9999, li_10631, li_12345, li_14092, li_21470, li_65536, li_99233, nz_eq, n1_eq, n1_lt, n1_gt, n1_le, n1_ge, n1_sub, n1_add, nm_add, nz_add, nz_add2, z1_ne, z1_lt, z1_le, nI_1, pk_sub, nI_ltI, nI_leI, nI_eq, ni_neg, ni_nneg, ni_pos0, ni_nle0, ni_m1, gI_eq, gI_ne, xI_sJ, xI_sR, xR_sI, xR_sJ, xJ_sI, xJ_sR, gJ_eq, gJ_ne, gR_eq, gR_ne, if_true, if_false, ite_true, ite_false, not_true_eq_false, not_false_eq_true, decide_true, and_self, true_and, and_true, false_and, and_false, or_true, true_or, or_false, false_or, reduceIte, ne_eq]
    exact (Sat_some _ _).mpr ⟨by rw [z], hkt⟩
  · have n1 : ¬ 60 < i + mn := by omega
    have hE := mkE_ok b be.2 (by omega : i ≤ 60) (by omega : i + mn ≤ 60) 0
    have cx0 := cx.keep hC hkt
    have rp0 : RowP 64 S m' := rp.keep (fun k => hkt.1 _ _ (by unfold WT; omega)) (fun k => hkt.1 _ _ (by unfold WT; omega))
    simp (disch := omega) only [n1, Sat_bdV, bnd_e, grd_t, bdI_e, bdV_e, bokA, bokB, ni_inb, ni_cl, nI_add, pk_mul, li_2, li_3, li_4, li_5, li_6, li_7, li_8, li_9, li_10, li_11, li_12, li_13, li_14, li_15, li_16, li_17, li_18, li_19, li_20, li_21, li_22, li_23, li_24, li_25, li_26, li_27, li_28, li_29, li_30, li_31, li_32, li_33, li_34, li_35, li_36, li_37, li_38, li_39, li_40, li_41, li_42, li_43, li_44, li_45, li_46, li_47, li_48, li_49, li_50, li_51, li_52, li_53, li_54, li_55, li_56, li_57, li_58, li_59, li_60, li_61, li_63, li_70, li_96, li_97, li_99, li_100, li_101, li_102, li_120, li_122, li_126, li_200, li_255, li_423, li_555, li_999, li_1000, li_1111, li_2968, li_9999, li_10631, li_12345, li_14092, li_21470, li_65536, li_99233, nz_eq, n1_eq, n1_lt, n1_gt, n1_le, n1_ge, n1_sub, n1_add, nm_add, nz_add, nz_add2, z1_ne, z1_lt, z1_le, nI_1, pk_sub, nI_ltI, nI_leI, nI_eq, ni_neg, ni_nneg, ni_pos0, ni_nle0, ni_m1, gI_eq, gI_ne, xI_sJ, xI_sR, xR_sI, xR_sJ, xJ_sI, xJ_sR, gJ_eq, gJ_ne, gR_eq, gR_ne, if_true, if_false, ite_true, ite_false, not_true_eq_false, not_false_eq_true, decide_true, and_self, true_and, and_true, false_and, and_false, or_true, true_or, or_false, false_or, reduceIte, ne_eq]
    refine (copyP (h0 := 66) rp0 (by rfl) l65 (by omega)).mono ?_
    intro n1' ⟨c1, c2⟩
    have c2' : Kp (fun a _ => a = 66 ∨ a = 67) m' (sI (sI n1' 66 3 (nI i)) 66 4 (nI (i + mn))) := (c2.sI _ (Or.inl rfl)).sI _ (Or.inl rfl)
    have k1 : KT st m' (sI (sI n1' 66 3 (nI i)) 66 4 (nI (i + mn))) := c2'.kt (fun a k q => by unfold WT; omega)
    have pr1 : PrP (mkE C e i (i + mn) 0 jP wP) st (sI (sI n1' 66 3 (nI i)) 66 4 (nI (i + mn))) := by
      refine ⟨(c2'.2.2 _ _).trans hpr.1, fun p hp => ?_⟩
      obtain ⟨g1, g2, g3⟩ := hpr.2 p hp
      exact ⟨(c2'.1 _ _ (by omega)).trans g1, (c2'.1 _ _ (by omega)).trans g2, fun w hw => (c2'.1 _ _ (by omega)).trans (g3 w hw)⟩
    have r1 := c1.rw bs
    have r2 : RwP 66 i (i + mn) wr (sI (sI n1' 66 3 (nI i)) 66 4 (nI (i + mn))) := ⟨by simp (disch := omega) only [bnd_e, grd_t, bdI_e, bdV_e, bokA, bokB, ni_inb, ni_cl, nI_add, pk_mul, li_2, li_3, li_4, li_5, li_6, li_7, li_8, li_9, li_10, li_11, li_12, li_13, li_14, li_15, li_16, li_17, li_18, li_19, li_20, li_21, li_22, li_23, li_24, li_25, li_26, li_27, li_28, li_29, li_30, li_31, li_32, li_33, li_34, li_35, li_36, li_37, li_38, li_39, li_40, li_41, li_42, li_43, li_44, li_45, li_46, li_47, li_48, li_49, li_50, li_51, li_52, li_53, li_54, li_55, li_56, li_57, li_58, li_59, li_60, li_61, li_63, li_70, li_96, li_97, li_99, li_100, li_101, li_102, li_120, li_122, li_126, li_200, li_255, li_423, li_555, li_999, li_1000, li_1111, li_2968, li_9999, li_10631, li_12345, li_14092, li_21470, li_65536, li_99233, nz_eq, n1_eq, n1_lt, n1_gt, n1_le, n1_ge, n1_sub, n1_add, nm_add, nz_add, nz_add2, z1_ne, z1_lt, z1_le, nI_1, pk_sub, nI_ltI, nI_leI, nI_eq, ni_neg, ni_nneg, ni_pos0, ni_nle0, ni_m1, gI_eq, gI_ne, xI_sJ, xI_sR, xR_sI, xR_sJ, xJ_sI, xJ_sR, gJ_eq, gJ_ne, gR_eq, gR_ne, if_true, if_false, ite_true, ite_false, not_true_eq_false, not_false_eq_true, decide_true, and_self, true_and, and_true, false_and, and_false, or_true, true_or, or_false, false_or, reduceIte, ne_eq], by simp (disch := omega) only [bnd_e, grd_t, bdI_e, bdV_e, bokA, bokB, ni_inb, ni_cl, nI_add, pk_mul, li_2, li_3, li_4, li_5, li_6, li_7, li_8, li_9, li_10, li_11, li_12, li_13, li_14, li_15, li_16, li_17, li_18, li_19, li_20, li_21, li_22, li_23, li_24, li_25, li_26, li_27, li_28, li_29, li_30, li_31, li_32, li_33, li_34, li_35, li_36, li_37, li_38, li_39, li_40, li_41, li_42, li_43, li_44, li_45, li_46, li_47, li_48, li_49, li_50, li_51, li_52, li_53, li_54, li_55, li_56, li_57, li_58, li_59, li_60, li_61, li_63, li_70, li_96, li_97, li_99, li_100, li_101, li_102, li_120, li_122, li_126, li_200, li_255, li_423, li_555, li_999, li_1000, li_1111, li_2968, li_9999, li_10631, li_12345, li_14092, li_21470, li_65536, li_99233, nz_eq, n1_eq, n1_lt, n1_gt, n1_le, n1_ge, n1_sub, n1_add, nm_add, nz_add, nz_add2, z1_ne, z1_lt, z1_le, nI_1, pk_sub, nI_ltI, nI_leI, nI_eq, ni_neg, ni_nneg, ni_pos0, ni_nle0, ni_m1, gI_eq, gI_ne, xI_sJ, xI_sR, xR_sI, xR_sJ, xJ_sI, xJ_sR, gJ_eq, gJ_ne, gR_eq, gR_ne, if_true, if_false, ite_true, ite_false, not_true_eq_false, not_false_eq_true, decide_true, and_self, true_and, and_true, false_and, and_false, or_true, true_or, or_false, false_or, reduceIte, ne_eq], fun k hk => by simp (disch := omega) only [bnd_e, grd_t, bdI_e, bdV_e, bokA, bokB, ni_inb, ni_cl, nI_add, pk_mul, li_2, li_3, li_4, li_5, li_6, li_7, li_8, li_9, li_10, li_11, li_12, li_13, li_14, li_15, li_16, li_17, li_18, li_19, li_20, li_21, li_22, li_23, li_24, li_25, li_26, li_27, li_28, li_29, li_30, li_31, li_32, li_33, li_34, li_35, li_36, li_37, li_38, li_39, li_40, li_41, li_42, li_43, li_44, li_45, li_46, li_47, li_48, li_49, li_50, li_51, li_52, li_53, li_54, li_55, li_56, li_57, li_58, li_59, li_60, li_61, li_63, li_70, li_96, li_97, li_99, li_100, li_101, li_102, li_120, li_122, li_126, li_200, li_255, li_423, li_555, li_999, li_1000, li_1111, li_2968, li_9999, li_10631, li_12345, li_14092, li_21470, li_65536, li_99233, nz_eq, n1_eq, n1_lt, n1_gt, n1_le, n1_ge, n1_sub, n1_add, nm_add, nz_add, nz_add2, z1_ne, z1_lt, z1_le, nI_1, pk_sub, nI_ltI, nI_leI, nI_eq, ni_neg, ni_nneg, ni_pos0, ni_nle0, ni_m1, gI_eq, gI_ne, xI_sJ, xI_sR, xR_sI, xR_sJ, xJ_sI, xJ_sR, gJ_eq, gJ_ne, gR_eq, gR_ne, if_true, if_false, ite_true, ite_false, not_true_eq_false, not_false_eq_true, decide_true, and_self, true_and, and_true, false_and, and_false, or_true, true_or, or_false, false_or, reduceIte, ne_eq]; exact r1.2.2 k hk⟩
    refine (passT (E := mkE C e i (i + mn) 0 jP wP) hE (Or.inr rfl) (cx0.keep hC k1) pr1 r2 bw).mono ?_
    intro n3 ⟨d1, d2, d3, d4⟩
    have k3 : KT st mP n3 := (hkt.trans k1).trans (d4.kt (fun a k q => by unfold WP at q; unfold WT; omega))
    have jy : gI n3 82 10 = dj i := by rw [hdj]; exact d1.2.2.2.2.2.1
    have bb : bsF dj (i + 1) = if (bsF dj i).1 = 0 ∨ (bsF dj i).2 < dj i then (i + 1, dj i) else bsF dj i := rfl
    have nx := fun (x3 x4 : Int32) (h3 : x3 = (bsF dj (i + 1)).2) (h4 : x4 = bI1 (bsF dj (i + 1)).1) => hk (N - (i + 1)) x3 x4 (nI (i + 1)) n3 (by omega) ⟨i + 1, by omega, rfl, h3, h4, rfl, d2, k3⟩
    by_cases z1 : (bsF dj i).1 = 0
    · rw [if_pos (Or.inl z1)] at bb
      rw [bb] at nx
      rw [z1, bI1_0]
      simp (disch := omega) only [jy, bnd_e, grd_t, bdI_e, bdV_e, bokA, bokB, ni_inb, ni_cl, nI_add, pk_mul, li_2, li_3, li_4, li_5, li_6, li_7, li_8, li_9, li_10, li_11, li_12, li_13, li_14, li_15, li_16, li_17, li_18, li_19, li_20, li_21, li_22, li_23, li_24, li_25, li_26, li_27, li_28, li_29, li_30, li_31, li_32, li_33, li_34, li_35, li_36, li_37, li_38, li_39, li_40, li_41, li_42, li_43, li_44, li_45, li_46, li_47, li_48, li_49, li_50, li_51, li_52, li_53, li_54, li_55, li_56, li_57, li_58, li_59, li_60, li_61, li_63, li_70, li_96, li_97, li_99, li_100, li_101, li_102, li_120, li_122, li_126, li_200, li_255, li_423, li_555, li_999, li_1000, li_1111, li_2968, li_9999, li_10631, li_12345, li_14092, li_21470, li_65536, li_99233, nz_eq, n1_eq, n1_lt, n1_gt, n1_le, n1_ge, n1_sub, n1_add, nm_add, nz_add, nz_add2, z1_ne, z1_lt, z1_le, nI_1, pk_sub, nI_ltI, nI_leI, nI_eq, ni_neg, ni_nneg, ni_pos0, ni_nle0, ni_m1, gI_eq, gI_ne, xI_sJ, xI_sR, xR_sI, xR_sJ, xJ_sI, xJ_sR, gJ_eq, gJ_ne, gR_eq, gR_ne, if_true, if_false, ite_true, ite_false, not_true_eq_false, not_false_eq_true, decide_true, and_self, true_and, and_true, false_and, and_false, or_true, true_or, or_false, false_or, reduceIte, ne_eq]
      exact nx _ _ rfl (bI1_s i).symm
    · obtain ⟨c, hc⟩ : ∃ c, (bsF dj i).1 = c + 1 := ⟨(bsF dj i).1 - 1, by omega⟩
      have bc' : bI1 (bsF dj i).1 = nI c := by rw [hc]; exact bI1_s c
      rw [bc']
      by_cases y : dj i ≤ (bsF dj i).2
      · rw [if_neg (fun q => q.elim z1 (fun q => Int32.not_lt.mpr y q))] at bb
        rw [bb] at nx
        simp (disch := omega) only [jy, y, bnd_e, grd_t, bdI_e, bdV_e, bokA, bokB, ni_inb, ni_cl, nI_add, pk_mul, li_2, li_3, li_4, li_5, li_6, li_7, li_8, li_9, li_10, li_11, li_12, li_13, li_14, li_15, li_16, li_17, li_18, li_19, li_20, li_21, li_22, li_23, li_24, li_25, li_26, li_27, li_28, li_29, li_30, li_31, li_32, li_33, li_34, li_35, li_36, li_37, li_38, li_39, li_40, li_41, li_42, li_43, li_44, li_45, li_46, li_47, li_48, li_49, li_50, li_51, li_52, li_53, li_54, li_55, li_56, li_57, li_58, li_59, li_60, li_61, li_63, li_70, li_96, li_97, li_99, li_100, li_101, li_102, li_120, li_122, li_126, li_200, li_255, li_423, li_555, li_999, li_1000, li_1111, li_2968, li_9999, li_10631, li_12345, li_14092, li_21470, li_65536, li_99233, nz_eq, n1_eq, n1_lt, n1_gt, n1_le, n1_ge, n1_sub, n1_add, nm_add, nz_add, nz_add2, z1_ne, z1_lt, z1_le, nI_1, pk_sub, nI_ltI, nI_leI, nI_eq, ni_neg, ni_nneg, ni_pos0, ni_nle0, ni_m1, gI_eq, gI_ne, xI_sJ, xI_sR, xR_sI, xR_sJ, xJ_sI, xJ_sR, gJ_eq, gJ_ne, gR_eq, gR_ne, if_true, if_false, ite_true, ite_false, not_true_eq_false, not_false_eq_true, decide_true, and_self, true_and, and_true, false_and, and_false, or_true, true_or, or_false, false_or, reduceIte, ne_eq]
        exact nx _ _ rfl bc'.symm
      · rw [if_pos (Or.inr (Int32.not_le.mp y))] at bb
        rw [bb] at nx
        simp (disch := omega) only [jy, y, bnd_e, grd_t, bdI_e, bdV_e, bokA, bokB, ni_inb, ni_cl, nI_add, pk_mul, li_2, li_3, li_4, li_5, li_6, li_7, li_8, li_9, li_10, li_11, li_12, li_13, li_14, li_15, li_16, li_17, li_18, li_19, li_20, li_21, li_22, li_23, li_24, li_25, li_26, li_27, li_28, li_29, li_30, li_31, li_32, li_33, li_34, li_35, li_36, li_37, li_38, li_39, li_40, li_41, li_42, li_43, li_44, li_45, li_46, li_47, li_48, li_49, li_50, li_51, li_52, li_53, li_54, li_55, li_56, li_57, li_58, li_59, li_60, li_61, li_63, li_70, li_96, li_97, li_99, li_100, li_101, li_102, li_120, li_122, li_126, li_200, li_255, li_423, li_555, li_999, li_1000, li_1111, li_2968, li_9999, li_10631, li_12345, li_14092, li_21470, li_65536, li_99233, nz_eq, n1_eq, n1_lt, n1_gt, n1_le, n1_ge, n1_sub, n1_add, nm_add, nz_add, nz_add2, z1_ne, z1_lt, z1_le, nI_1, pk_sub, nI_ltI, nI_leI, nI_eq, ni_neg, ni_nneg, ni_pos0, ni_nle0, ni_m1, gI_eq, gI_ne, xI_sJ, xI_sR, xR_sI, xR_sJ, xJ_sI, xJ_sR, gJ_eq, gJ_ne, gR_eq, gR_ne, if_true, if_false, ite_true, ite_false, not_true_eq_false, not_false_eq_true, decide_true, and_self, true_and, and_true, false_and, and_false, or_true, true_or, or_false, false_or, reduceIte, ne_eq]
        exact nx _ _ rfl (bI1_s i).symm
theorem hoursM {C : Nat → Nat → Nat} {jP wP : List Int32} {st e f t mn : Nat} {wr : Nat → Nat} {S : Nat → Int32} {mP mM : Mm} (b : Bas C jP wP st e f t wr S mP mM) {dj : Nat → Int32} (hdj : dj = djH C e mn wr jP wP) (h1 : 1 ≤ mn) (h2 : mn ≤ 60) {N : Nat} (hN : N = 61 - mn) {m : Mm} (cm : CxM C jP wP m) (rm : RowM 35 0 S m) (h62 : gI m 0 62 = 0) : Sat (lop (fun _ _ _ _ _ _ => none) (f_X12_hours_B40 (nI mn)) 4000 (nI f) (nI t) (-1) 0 0 m) (fun q => q.1 = bI1 (bsF dj N).1 ∧ ∀ a k, ¬ ((WMd a k ∧ a ≠ 35) ∨ a = 41 ∨ a = 37) → gI q.2 a k = gI m a k) := by
  obtain ⟨cx, -, hC, lq, ⟨be, bf, bt, bw⟩, bs⟩ := id b
  refine lopR6 (fun n x6 x7 x8 x9 x10 m' => ∃ i, i ≤ N ∧ n = N - i ∧ x6 = nI f ∧ x7 = nI t ∧ x8 = bI1 (bsF dj i).1 ∧ x9 = (bsF dj i).2 ∧ x10 = nI i ∧ ∀ a k, ¬ ((WMd a k ∧ a ≠ 35) ∨ a = 41 ∨ a = 37 ∨ (a = 35 ∧ (k = 2 ∨ k = 3))) → gI m' a k = gI m a k) ?_ 4000 N (by omega) _ _ _ _ _ _ ⟨0, by omega, by omega, rfl, rfl, bI1_0.symm, rfl, rfl, fun _ _ _ => rfl⟩
  intro n x6 x7 x8 x9 x10 m' k ⟨i, hi, hn, e6, e7, e8, e9, e10, hf⟩ hk
  subst e6
  subst e7
  subst e8
  subst e9
  subst e10
  have bl := bsF_le dj i
  unfold f_X12_hours_B40 f_X12_hours_J88 f_X12_hours_J96
  by_cases z : i = N
  · have n1 : 60 < i + mn := by omega
    have hr : ∀ a k, ¬ ((WMd a k ∧ a ≠ 35) ∨ a = 41 ∨ a = 37) → gI (sI (sI m' 35 2 (nI f)) 35 3 (nI t)) a k = gI m a k := by
      intro a k h
      by_cases y : a = 35 ∧ k = 3
      · rw [gI_eq _ _ _ _ _ _ y.1 y.2, y.1, y.2]
        exact ((rm.at0 (by decide)).trans bs.2.2.1).symm
      · rw [gI_ne _ _ _ _ _ _ (by omega)]
        by_cases y2 : a = 35 ∧ k = 2
        · rw [gI_eq _ _ _ _ _ _ y2.1 y2.2, y2.1, y2.2]
          exact ((rm.at0 (by decide)).trans bs.2.1).symm
        · rw [gI_ne _ _ _ _ _ _ (by omega)]
          exact hf a k (by unfold WMd at h ⊢; omega)
    simp (disch := omega) only [n1, bnd_e, grd_t, bdI_e, bdV_e, bokA, bokB, ni_inb, ni_cl, nI_add, pk_mul, li_2, li_3, li_4, li_5, li_6, li_7, li_8, li_9, li_10, li_11, li_12, li_13, li_14, li_15, li_16, li_17, li_18, li_19, li_20, li_21, li_22, li_23, li_24, li_25, li_26, li_27, li_28, li_29, li_30, li_31, li_32, li_33, li_34, li_35, li_36, li_37, li_38, li_39, li_40, li_41, li_42, li_43, li_44, li_45, li_46, li_47, li_48, li_49, li_50, li_51, li_52, li_53, li_54, li_55, li_56, li_57, li_58, li_59, li_60, li_61, li_63, li_70, li_96, li_97, li_99, li_100, li_101, li_102, li_120, li_122, li_126, li_200, li_255, li_423, li_555, li_999, li_1000, li_1111, li_2968, li_9999, li_10631, li_12345, li_14092, li_21470, li_65536, li_99233, nz_eq, n1_eq, n1_lt, n1_gt, n1_le, n1_ge, n1_sub, n1_add, nm_add, nz_add, nz_add2, z1_ne, z1_lt, z1_le, nI_1, pk_sub, nI_ltI, nI_leI, nI_eq, ni_neg, ni_nneg, ni_pos0, ni_nle0, ni_m1, gI_eq, gI_ne, xI_sJ, xI_sR, xR_sI, xR_sJ, xJ_sI, xJ_sR, gJ_eq, gJ_ne, gR_eq, gR_ne, if_true, if_false, ite_true, ite_false, not_true_eq_false, not_false_eq_true, decide_true, and_self, true_and, and_true, false_and, and_false, or_true, true_or, or_false, false_or, reduceIte, ne_eq]
    exact (Sat_some _ _).mpr ⟨by rw [z], hr⟩
  · have n1 : ¬ 60 < i + mn := by omega
    have b' : Bas C jP wP st e i (i + mn) wr (fun j => if j = 2 then nI i else if j = 3 then nI (i + mn) else S j) mP mM := b.row be (by omega) (by omega) ((if_neg (by decide)).trans ((if_neg (by decide)).trans bs.1)) (if_pos rfl) ((if_neg (by decide)).trans (if_pos rfl)) (fun j hj => (if_neg (by omega)).trans (if_neg (by omega)))
    have ff : ∀ a k, ¬ (a = 35 ∧ (k = 2 ∨ k = 3)) → gI (sI (sI m' 35 2 (nI i)) 35 3 (nI (i + mn))) a k = gI m' a k := by
      intro a k h
      rw [gI_ne _ _ _ _ _ _ (by omega), gI_ne _ _ _ _ _ _ (by omega)]
    have cm' : CxM C jP wP (sI (sI m' 35 2 (nI i)) 35 3 (nI (i + mn))) := cm.keep hC (fun a k r => by
      rw [ff _ _ (by unfold vM0 at r; omega)]
      exact hf a k (by unfold vM0 at r; unfold WMd; omega))
    have rm' : RowM 35 0 (fun j => if j = 2 then nI i else if j = 3 then nI (i + mn) else S j) (sI (sI m' 35 2 (nI i)) 35 3 (nI (i + mn))) := by
      intro j hj
      rw [Nat.zero_add]
      show _ = if j = 2 then nI i else if j = 3 then nI (i + mn) else S j
      by_cases y : j = 2
      · subst y
        rw [gI_ne _ _ _ _ _ _ (by omega), gI_eq _ _ _ _ _ _ rfl rfl, if_pos rfl]
      · by_cases y2 : j = 3
        · subst y2
          rw [gI_eq _ _ _ _ _ _ rfl rfl, if_neg y, if_pos rfl]
        · rw [ff _ _ (by omega), if_neg y, if_neg y2, hf _ _ (by unfold WMd; omega)]
          exact rm.at0 hj
    have h62' : gI (sI (sI m' 35 2 (nI i)) 35 3 (nI (i + mn))) 0 62 = 0 := by
      rw [ff _ _ (by omega), hf _ _ (by unfold WMd; omega)]
      exact h62
    simp (disch := omega) only [n1, Sat_bdI, bnd_e, grd_t, bdI_e, bdV_e, bokA, bokB, ni_inb, ni_cl, nI_add, pk_mul, li_2, li_3, li_4, li_5, li_6, li_7, li_8, li_9, li_10, li_11, li_12, li_13, li_14, li_15, li_16, li_17, li_18, li_19, li_20, li_21, li_22, li_23, li_24, li_25, li_26, li_27, li_28, li_29, li_30, li_31, li_32, li_33, li_34, li_35, li_36, li_37, li_38, li_39, li_40, li_41, li_42, li_43, li_44, li_45, li_46, li_47, li_48, li_49, li_50, li_51, li_52, li_53, li_54, li_55, li_56, li_57, li_58, li_59, li_60, li_61, li_63, li_70, li_96, li_97, li_99, li_100, li_101, li_102, li_120, li_122, li_126, li_200, li_255, li_423, li_555, li_999, li_1000, li_1111, li_2968, li_9999, li_10631, li_12345, li_14092, li_21470, li_65536, li_99233, nz_eq, n1_eq, n1_lt, n1_gt, n1_le, n1_ge, n1_sub, n1_add, nm_add, nz_add, nz_add2, z1_ne, z1_lt, z1_le, nI_1, pk_sub, nI_ltI, nI_leI, nI_eq, ni_neg, ni_nneg, ni_pos0, ni_nle0, ni_m1, gI_eq, gI_ne, xI_sJ, xI_sR, xR_sI, xR_sJ, xJ_sI, xJ_sR, gJ_eq, gJ_ne, gR_eq, gR_ne, if_true, if_false, ite_true, ite_false, not_true_eq_false, not_false_eq_true, decide_true, and_self, true_and, and_true, false_and, and_false, or_true, true_or, or_false, false_or, reduceIte, ne_eq]
    refine (triesM b' cm' rm' h62').mono ?_
    intro q ⟨q1, q2, q3⟩
    have q1' : q.1 = dj i := by rw [hdj]; exact q1
    have hf' : ∀ a k, ¬ ((WMd a k ∧ a ≠ 35) ∨ a = 41 ∨ a = 37 ∨ (a = 35 ∧ (k = 2 ∨ k = 3))) → gI q.2 a k = gI m a k := by
      intro a k h
      rw [q3 a k (by unfold WMd at h ⊢; omega), ff _ _ (by omega)]
      exact hf a k h
    have bb : bsF dj (i + 1) = if (bsF dj i).1 = 0 ∨ (bsF dj i).2 < dj i then (i + 1, dj i) else bsF dj i := rfl
    have nx := fun (x8 x9 : Int32) (h8 : x8 = bI1 (bsF dj (i + 1)).1) (h9 : x9 = (bsF dj (i + 1)).2) => hk (N - (i + 1)) (nI f) (nI t) x8 x9 (nI (i + 1)) q.2 (by omega) ⟨i + 1, by omega, rfl, rfl, rfl, h8, h9, rfl, hf'⟩
    rw [q1']
    by_cases z1 : (bsF dj i).1 = 0
    · rw [if_pos (Or.inl z1)] at bb
      rw [bb] at nx
      rw [z1, bI1_0]
      simp (disch := omega) only [bnd_e, grd_t, bdI_e, bdV_e, bokA, bokB, ni_inb, ni_cl, nI_add, pk_mul, li_2, li_3, li_4, li_5, li_6, li_7, li_8, li_9, li_10, li_11, li_12, li_13, li_14, li_15, li_16, li_17, li_18, li_19, li_20, li_21, li_22, li_23, li_24, li_25, li_26, li_27, li_28, li_29, li_30, li_31, li_32, li_33, li_34, li_35, li_36, li_37, li_38, li_39, li_40, li_41, li_42, li_43, li_44, li_45, li_46, li_47, li_48, li_49, li_50, li_51, li_52, li_53, li_54, li_55, li_56, li_57, li_58, li_59, li_60, li_61, li_63, li_70, li_96, li_97, li_99, li_100, li_101, li_102, li_120, li_122, li_126, li_200, li_255, li_423, li_555, li_999, li_1000, li_1111, li_2968, li_9999, li_10631, li_12345, li_14092, li_21470, li_65536, li_99233, nz_eq, n1_eq, n1_lt, n1_gt, n1_le, n1_ge, n1_sub, n1_add, nm_add, nz_add, nz_add2, z1_ne, z1_lt, z1_le, nI_1, pk_sub, nI_ltI, nI_leI, nI_eq, ni_neg, ni_nneg, ni_pos0, ni_nle0, ni_m1, gI_eq, gI_ne, xI_sJ, xI_sR, xR_sI, xR_sJ, xJ_sI, xJ_sR, gJ_eq, gJ_ne, gR_eq, gR_ne, if_true, if_false, ite_true, ite_false, not_true_eq_false, not_false_eq_true, decide_true, and_self, true_and, and_true, false_and, and_false, or_true, true_or, or_false, false_or, reduceIte, ne_eq]
      exact nx _ _ (bI1_s i).symm rfl
    · obtain ⟨c, hc⟩ : ∃ c, (bsF dj i).1 = c + 1 := ⟨(bsF dj i).1 - 1, by omega⟩
      have bc' : bI1 (bsF dj i).1 = nI c := by rw [hc]; exact bI1_s c
      rw [bc']
      by_cases y : (bsF dj i).2 < dj i
      · rw [if_pos (Or.inr y)] at bb
        rw [bb] at nx
        simp (disch := omega) only [y, bnd_e, grd_t, bdI_e, bdV_e, bokA, bokB, ni_inb, ni_cl, nI_add, pk_mul, li_2, li_3, li_4, li_5, li_6, li_7, li_8, li_9, li_10, li_11, li_12, li_13, li_14, li_15, li_16, li_17, li_18, li_19, li_20, li_21, li_22, li_23, li_24, li_25, li_26, li_27, li_28, li_29, li_30, li_31, li_32, li_33, li_34, li_35, li_36, li_37, li_38, li_39, li_40, li_41, li_42, li_43, li_44, li_45, li_46, li_47, li_48, li_49, li_50, li_51, li_52, li_53, li_54, li_55, li_56, li_57, li_58, li_59, li_60, li_61, li_63, li_70, li_96, li_97, li_99, li_100, li_101, li_102, li_120, li_122, li_126, li_200, li_255, li_423, li_555, li_999, li_1000, li_1111, li_2968, li_9999, li_10631, li_12345, li_14092, li_21470, li_65536, li_99233, nz_eq, n1_eq, n1_lt, n1_gt, n1_le, n1_ge, n1_sub, n1_add, nm_add, nz_add, nz_add2, z1_ne, z1_lt, z1_le, nI_1, pk_sub, nI_ltI, nI_leI, nI_eq, ni_neg, ni_nneg, ni_pos0, ni_nle0, ni_m1, gI_eq, gI_ne, xI_sJ, xI_sR, xR_sI, xR_sJ, xJ_sI, xJ_sR, gJ_eq, gJ_ne, gR_eq, gR_ne, if_true, if_false, ite_true, ite_false, not_true_eq_false, not_false_eq_true, decide_true, and_self, true_and, and_true, false_and, and_false, or_true, true_or, or_false, false_or, reduceIte, ne_eq]
        exact nx _ _ (bI1_s i).symm rfl
      · rw [if_neg (fun q => q.elim z1 y)] at bb
        rw [bb] at nx
        simp (disch := omega) only [y, bnd_e, grd_t, bdI_e, bdV_e, bokA, bokB, ni_inb, ni_cl, nI_add, pk_mul, li_2, li_3, li_4, li_5, li_6, li_7, li_8, li_9, li_10, li_11, li_12, li_13, li_14, li_15, li_16, li_17, li_18, li_19, li_20, li_21, li_22, li_23, li_24, li_25, li_26, li_27, li_28, li_29, li_30, li_31, li_32, li_33, li_34, li_35, li_36, li_37, li_38, li_39, li_40, li_41, li_42, li_43, li_44, li_45, li_46, li_47, li_48, li_49, li_50, li_51, li_52, li_53, li_54, li_55, li_56, li_57, li_58, li_59, li_60, li_61, li_63, li_70, li_96, li_97, li_99, li_100, li_101, li_102, li_120, li_122, li_126, li_200, li_255, li_423, li_555, li_999, li_1000, li_1111, li_2968, li_9999, li_10631, li_12345, li_14092, li_21470, li_65536, li_99233, nz_eq, n1_eq, n1_lt, n1_gt, n1_le, n1_ge, n1_sub, n1_add, nm_add, nz_add, nz_add2, z1_ne, z1_lt, z1_le, nI_1, pk_sub, nI_ltI, nI_leI, nI_eq, ni_neg, ni_nneg, ni_pos0, ni_nle0, ni_m1, gI_eq, gI_ne, xI_sJ, xI_sR, xR_sI, xR_sJ, xJ_sI, xJ_sR, gJ_eq, gJ_ne, gR_eq, gR_ne, if_true, if_false, ite_true, ite_false, not_true_eq_false, not_false_eq_true, decide_true, and_self, true_and, and_true, false_and, and_false, or_true, true_or, or_false, false_or, reduceIte, ne_eq]
        exact nx _ _ bc'.symm rfl
theorem st_hours : St_hours Rel := by
  intro a mP mM ⟨C, st, S, hR⟩
  have hK : RelC C st S mP (sI mM 0 0 0) := hR.keep (SaP.refl _ _) (SaM.thr _ _)
  have no : (a < 1 ∨ nI 60 < a) → ∃ (r : Int32) (mP2 mM2 : Mm), f_X11_hours a mP = some (r, mP2) ∧ f_X12_hours a mM = some (r, mM2) ∧ Rel mP2 mM2 := by
    intro h
    refine ⟨-1, mP, sI mM 0 0 0, ?_, ?_, ⟨C, st, S, hK⟩⟩
    · unfold f_X11_hours
      by_cases q : a < 1
      · simp (disch := omega) only [q, bnd_e, grd_t, bdI_e, bdV_e, bokA, bokB, ni_inb, ni_cl, nI_add, pk_mul, li_2, li_3, li_4, li_5, li_6, li_7, li_8, li_9, li_10, li_11, li_12, li_13, li_14, li_15, li_16, li_17, li_18, li_19, li_20, li_21, li_22, li_23, li_24, li_25, li_26, li_27, li_28, li_29, li_30, li_31, li_32, li_33, li_34, li_35, li_36, li_37, li_38, li_39, li_40, li_41, li_42, li_43, li_44, li_45, li_46, li_47, li_48, li_49, li_50, li_51, li_52, li_53, li_54, li_55, li_56, li_57, li_58, li_59, li_60, li_61, li_63, li_70, li_96, li_97, li_99, li_100, li_101, li_102, li_120, li_122, li_126, li_200, li_255, li_423, li_555, li_999, li_1000, li_1111, li_2968, li_9999, li_10631, li_12345, li_14092, li_21470, li_65536, li_99233, nz_eq, n1_eq, n1_lt, n1_gt, n1_le, n1_ge, n1_sub, n1_add, nm_add, nz_add, nz_add2, z1_ne, z1_lt, z1_le, nI_1, pk_sub, nI_ltI, nI_leI, nI_eq, ni_neg, ni_nneg, ni_pos0, ni_nle0, ni_m1, gI_eq, gI_ne, xI_sJ, xI_sR, xR_sI, xR_sJ, xJ_sI, xJ_sR, gJ_eq, gJ_ne, gR_eq, gR_ne, if_true, if_false, ite_true, ite_false, not_true_eq_false, not_false_eq_true, decide_true, and_self, true_and, and_true, false_and, and_false, or_true, true_or, or_false, false_or, reduceIte, ne_eq]
      · have : ¬ a ≤ nI 60 := Int32.not_le.mpr (h.resolve_left q)
        simp (disch := omega) only [q, this, bnd_e, grd_t, bdI_e, bdV_e, bokA, bokB, ni_inb, ni_cl, nI_add, pk_mul, li_2, li_3, li_4, li_5, li_6, li_7, li_8, li_9, li_10, li_11, li_12, li_13, li_14, li_15, li_16, li_17, li_18, li_19, li_20, li_21, li_22, li_23, li_24, li_25, li_26, li_27, li_28, li_29, li_30, li_31, li_32, li_33, li_34, li_35, li_36, li_37, li_38, li_39, li_40, li_41, li_42, li_43, li_44, li_45, li_46, li_47, li_48, li_49, li_50, li_51, li_52, li_53, li_54, li_55, li_56, li_57, li_58, li_59, li_60, li_61, li_63, li_70, li_96, li_97, li_99, li_100, li_101, li_102, li_120, li_122, li_126, li_200, li_255, li_423, li_555, li_999, li_1000, li_1111, li_2968, li_9999, li_10631, li_12345, li_14092, li_21470, li_65536, li_99233, nz_eq, n1_eq, n1_lt, n1_gt, n1_le, n1_ge, n1_sub, n1_add, nm_add, nz_add, nz_add2, z1_ne, z1_lt, z1_le, nI_1, pk_sub, nI_ltI, nI_leI, nI_eq, ni_neg, ni_nneg, ni_pos0, ni_nle0, ni_m1, gI_eq, gI_ne, xI_sJ, xI_sR, xR_sI, xR_sJ, xJ_sI, xJ_sR, gJ_eq, gJ_ne, gR_eq, gR_ne, if_true, if_false, ite_true, ite_false, not_true_eq_false, not_false_eq_true, decide_true, and_self, true_and, and_true, false_and, and_false, or_true, true_or, or_false, false_or, reduceIte, ne_eq]
    · unfold f_X12_hours
      by_cases q : a < 1
      · simp (disch := omega) only [within_e, q, bnd_e, grd_t, bdI_e, bdV_e, bokA, bokB, ni_inb, ni_cl, nI_add, pk_mul, li_2, li_3, li_4, li_5, li_6, li_7, li_8, li_9, li_10, li_11, li_12, li_13, li_14, li_15, li_16, li_17, li_18, li_19, li_20, li_21, li_22, li_23, li_24, li_25, li_26, li_27, li_28, li_29, li_30, li_31, li_32, li_33, li_34, li_35, li_36, li_37, li_38, li_39, li_40, li_41, li_42, li_43, li_44, li_45, li_46, li_47, li_48, li_49, li_50, li_51, li_52, li_53, li_54, li_55, li_56, li_57, li_58, li_59, li_60, li_61, li_63, li_70, li_96, li_97, li_99, li_100, li_101, li_102, li_120, li_122, li_126, li_200, li_255, li_423, li_555, li_999, li_1000, li_1111, li_2968, li_9999, li_10631, li_12345, li_14092, li_21470, li_65536, li_99233, nz_eq, n1_eq, n1_lt, n1_gt, n1_le, n1_ge, n1_sub, n1_add, nm_add, nz_add, nz_add2, z1_ne, z1_lt, z1_le, nI_1, pk_sub, nI_ltI, nI_leI, nI_eq, ni_neg, ni_nneg, ni_pos0, ni_nle0, ni_m1, gI_eq, gI_ne, xI_sJ, xI_sR, xR_sI, xR_sJ, xJ_sI, xJ_sR, gJ_eq, gJ_ne, gR_eq, gR_ne, if_true, if_false, ite_true, ite_false, not_true_eq_false, not_false_eq_true, decide_true, and_self, true_and, and_true, false_and, and_false, or_true, true_or, or_false, false_or, reduceIte, ne_eq]
      · simp (disch := omega) only [within_e, q, h.resolve_left q, bnd_e, grd_t, bdI_e, bdV_e, bokA, bokB, ni_inb, ni_cl, nI_add, pk_mul, li_2, li_3, li_4, li_5, li_6, li_7, li_8, li_9, li_10, li_11, li_12, li_13, li_14, li_15, li_16, li_17, li_18, li_19, li_20, li_21, li_22, li_23, li_24, li_25, li_26, li_27, li_28, li_29, li_30, li_31, li_32, li_33, li_34, li_35, li_36, li_37, li_38, li_39, li_40, li_41, li_42, li_43, li_44, li_45, li_46, li_47, li_48, li_49, li_50, li_51, li_52, li_53, li_54, li_55, li_56, li_57, li_58, li_59, li_60, li_61, li_63, li_70, li_96, li_97, li_99, li_100, li_101, li_102, li_120, li_122, li_126, li_200, li_255, li_423, li_555, li_999, li_1000, li_1111, li_2968, li_9999, li_10631, li_12345, li_14092, li_21470, li_65536, li_99233, nz_eq, n1_eq, n1_lt, n1_gt, n1_le, n1_ge, n1_sub, n1_add, nm_add, nz_add, nz_add2, z1_ne, z1_lt, z1_le, nI_1, pk_sub, nI_ltI, nI_leI, nI_eq, ni_neg, ni_nneg, ni_pos0, ni_nle0, ni_m1, gI_eq, gI_ne, xI_sJ, xI_sR, xR_sI, xR_sJ, xJ_sI, xJ_sR, gJ_eq, gJ_ne, gR_eq, gR_ne, if_true, if_false, ite_true, ite_false, not_true_eq_false, not_false_eq_true, decide_true, and_self, true_and, and_true, false_and, and_false, or_true, true_or, or_false, false_or, reduceIte, ne_eq]
  rcases pk_ix a (n := 61) (by decide) with h | h | ⟨mn, hm, rfl⟩
  · exact no (Or.inl (of_eq_true (ng_lt1 h)))
  · exact no (Or.inr (of_eq_true (bg_lt h (by decide) 60 (by decide))))
  · by_cases m1 : mn < 1
    · exact no (Or.inl (nI_lt m1 (by decide)))
    · have m60 : mn ≤ 60 := by omega
      have m60' : ¬ 60 < mn := by omega
      refine of_key ?_
      obtain ⟨jP, wP, e, f, t, wr, b⟩ := hR.bas
      obtain ⟨cx, -, hC, lq, ⟨be, bf, bt, bw⟩, bs⟩ := id b
      have hst := hR.st
      have hE := mkE_ok b be.2 (by omega : 0 ≤ 60) (by omega : 0 ≤ 60) 0
      have e2 : gI (sI mM 0 0 0) 35 2 = nI f := (hK.2.2.1.2.2.at0 (by decide)).trans bs.2.1
      have e3 : gI (sI mM 0 0 0) 35 3 = nI t := (hK.2.2.1.2.2.at0 (by decide)).trans bs.2.2.1
      have cm : CxM C jP wP (sI mM 0 0 0) := b.2.1.keep hC (fun a k r => gI_ne _ _ _ _ _ _ (by unfold vM0 at r; omega))
      have mm := hoursM b rfl (by omega : 1 ≤ mn) m60 rfl cm hK.2.2.1.2.2 hK.2.2.2.2.2.2.2.2.2
      have s1 := hR.2.2.1.2.1
      unfold f_X11_hours f_X12_hours
      simp (disch := omega) only [within_e, m1, m60, m60', cx.2.1, Lst hst, s1.2.1.trans bs.1, Sat_bdV, show gI mM 35 2 = nI f from e2, show gI mM 35 3 = nI t from e3, bnd_e, grd_t, bdI_e, bdV_e, bokA, bokB, ni_inb, ni_cl, nI_add, pk_mul, li_2, li_3, li_4, li_5, li_6, li_7, li_8, li_9, li_10, li_11, li_12, li_13, li_14, li_15, li_16, li_17, li_18, li_19, li_20, li_21, li_22, li_23, li_24, li_25, li_26, li_27, li_28, li_29, li_30, li_31, li_32, li_33, li_34, li_35, li_36, li_37, li_38, li_39, li_40, li_41, li_42, li_43, li_44, li_45, li_46, li_47, li_48, li_49, li_50, li_51, li_52, li_53, li_54, li_55, li_56, li_57, li_58, li_59, li_60, li_61, li_63, li_70, li_96, li_97, li_99, li_100, li_101, li_102, li_120, li_122, li_126, li_200, li_255, li_423, li_555, li_999, li_1000, li_1111, li_2968, li_9999, li_10631, li_12345, li_14092, li_21470, li_65536, li_99233, nz_eq, n1_eq, n1_lt, n1_gt, n1_le, n1_ge, n1_sub, n1_add, nm_add, nz_add, nz_add2, z1_ne, z1_lt, z1_le, nI_1, pk_sub, nI_ltI, nI_leI, nI_eq, ni_neg, ni_nneg, ni_pos0, ni_nle0, ni_m1, gI_eq, gI_ne, xI_sJ, xI_sR, xR_sI, xR_sJ, xJ_sI, xJ_sR, gJ_eq, gJ_ne, gR_eq, gR_ne, if_true, if_false, ite_true, ite_false, not_true_eq_false, not_false_eq_true, decide_true, and_self, true_and, and_true, false_and, and_false, or_true, true_or, or_false, false_or, reduceIte, ne_eq]
      refine (prepT (E := mkE C e 0 0 0 jP wP) hE cx (fun _ _ => rfl)).mono ?_
      intro n2 ⟨b1, b2, b3, b4⟩
      have bn : Bas C jP wP st e f t wr S n2 mM := ⟨cx.keep hC b4, b.2⟩
      have s1' : RowP 64 S n2 := s1.keep (fun k => b2 _ _ (by unfold WPr; omega)) (fun k => b2 _ _ (by unfold WPr; omega))
      refine (hoursP bn rfl (by omega : 1 ≤ mn) m60 rfl s1' b1).mono ?_
      intro q ⟨q1, q2⟩
      refine mm.mono ?_
      intro q' ⟨r1, r2⟩
      exact ⟨q1.trans r1.symm, C, st, S, hK.keep ((b4.trans q2).sa hst) (fun a k v => r2 a k (WMd_vm v))⟩
