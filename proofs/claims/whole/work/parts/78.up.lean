/-! 19: best -/
def bsF (dj : Nat → Int32) : Nat → Nat × Int32
  | 0 => (0, 0)
  | n + 1 => if (bsF dj n).1 = 0 ∨ (bsF dj n).2 < dj n then (n + 1, dj n) else bsF dj n
theorem bsF_le (dj : Nat → Int32) : ∀ n, (bsF dj n).1 ≤ n
  | 0 => Nat.le_refl _
  | n + 1 => by
    have := bsF_le dj n
    unfold bsF
    split
    · exact Nat.le_refl _
    · omega
theorem bsF_pos (dj : Nat → Int32) : ∀ n, 0 < n → (bsF dj n).1 ≠ 0
  | 0, h => absurd h (by omega)
  | n + 1, _ => by
    unfold bsF
    split
    · exact Nat.succ_ne_zero _
    · rename_i h
      exact fun q => h (Or.inl q)
theorem Bas.row {C : Nat → Nat → Nat} {jP wP : List Int32} {st e f t : Nat} {wr : Nat → Nat} {S : Nat → Int32} {mP mM : Mm} (b : Bas C jP wP st e f t wr S mP mM) {e' f' t' : Nat} (he : 1 ≤ e' ∧ e' ≤ 30) (hf : f' ≤ 59) (ht : t' ≤ 60) {S' : Nat → Int32} (h1 : S' 1 = nI e') (h2 : S' 2 = nI f') (h3 : S' 3 = nI t') (h4 : ∀ i, 5 ≤ i → S' i = S i) : Bas C jP wP st e' f' t' wr S' mP mM :=
  ⟨b.1, b.2.1, b.2.2.1, b.2.2.2.1, ⟨he, hf, ht, b.2.2.2.2.1.2.2.2⟩, h1, h2, h3, fun k hk => (h4 _ (by omega)).trans (b.2.2.2.2.2.2.2.2 k hk)⟩
noncomputable def djE (C : Nat → Nat → Nat) (f t : Nat) (wr : Nat → Nat) (jP wP : List Int32) (i : Nat) : Int32 := djy (dyD (mkE C (i + 1) f t 0 jP wP) wr)
theorem bestP {C : Nat → Nat → Nat} {jP wP : List Int32} {st e f t : Nat} {wr : Nat → Nat} {S : Nat → Int32} {mP mM : Mm} (b : Bas C jP wP st e f t wr S mP mM) {dj : Nat → Int32} (hdj : dj = djE C f t wr jP wP) {N : Nat} (hN : N = 30) (rp : RowP 64 S mP) : Sat (f_X11_searchEach mP) (fun n => gI n 165 0 = nI (bsF dj N).1 ∧ gI n 165 1 = (bsF dj N).2 ∧ KT st mP n) := by
  obtain ⟨cx, cm, hC, lq, ⟨be, bf, bt, bw⟩, bs⟩ := id b
  have hst := cx.1
  unfold f_X11_searchEach
  rw [bnd_e]
  have key := cnt1s (β := Mm) (Q := fun n => gI n 165 0 = nI (bsF dj N).1 ∧ gI n 165 1 = (bsF dj N).2 ∧ KT st mP n) (zz := fun _ _ => none) (b := f_X11_searchEach_B9) 1 (N + 1) (by omega) (by omega) (fun i n => ((bsF dj (i - 1)).1 = 0 → gI n 165 0 = -1) ∧ ((bsF dj (i - 1)).1 ≠ 0 → gI n 165 0 = nI (bsF dj (i - 1)).1 ∧ gI n 165 1 = (bsF dj (i - 1)).2) ∧ KT st mP n) ?_ ?_ (m := sI mP 165 0 (-1)) ⟨fun _ => gI_eq _ _ _ _ _ _ rfl rfl, fun h => absurd rfl h, (KT.refl mP).sI _ (by unfold WT; omega)⟩
  · exact key
  · intro i n k h0 hi ⟨a1, a2, a3⟩ hk
    obtain ⟨i, rfl⟩ : ∃ i', i = i' + 1 := ⟨i - 1, by omega⟩
    have n1 : ¬ 30 < i + 1 := by omega
    have hE := mkE_ok b (by omega : i + 1 ≤ 30) (by omega : f ≤ 60) bt 0
    have cx0 := cx.keep hC a3
    have rp0 : RowP 64 S n := rp.keep (fun k => a3.1 _ _ (by unfold WT; omega)) (fun k => a3.1 _ _ (by unfold WT; omega))
    unfold f_X11_searchEach_B9 f_X11_searchEach_J76 f_X11_searchEach_J96
    simp (disch := omega) only [n1, Sat_bdV, bnd_e, grd_t, bdI_e, bdV_e, bokA, bokB, ni_inb, ni_cl, nI_add, pk_mul, li_2, li_3, li_4, li_5, li_6, li_7, li_8, li_9, li_10, li_11, li_12, li_13, li_14, li_15, li_16, li_17, li_18, li_19, li_20, li_21, li_22, li_23, li_24, li_25, li_26, li_27, li_28, li_29, li_30, li_31, li_32, li_33, li_34, li_35, li_36, li_37, li_38, li_39, li_40, li_41, li_42, li_43, li_44, li_45, li_46, li_47, li_48, li_49, li_50, li_51, li_52, li_53, li_54, li_55, li_56, li_57, li_58, li_59, li_60, li_61, li_63, li_70, li_96, li_97, li_99, li_100, li_101, li_102, li_120, li_122, li_126, li_200, li_255, li_423, li_555, li_999, li_1000, li_1111, li_2968, li_9999, li_10631, li_12345, li_14092, li_21470, li_65536, li_99233, nz_eq, n1_eq, n1_lt, n1_gt, n1_le, n1_ge, n1_sub, n1_add, nm_add, nz_add, nz_add2, z1_ne, z1_lt, z1_le, nI_1, pk_sub, nI_ltI, nI_leI, nI_eq, ni_neg, ni_nneg, ni_pos0, ni_nle0, ni_m1, gI_eq, gI_ne, xI_sJ, xI_sR, xR_sI, xR_sJ, xJ_sI, xJ_sR, gJ_eq, gJ_ne, gR_eq, gR_ne, if_true, if_false, ite_true, ite_false, not_true_eq_false, not_false_eq_true, decide_true, and_self, true_and, and_true, false_and, and_false, or_true, true_or, or_false, false_or, reduceIte, ne_eq]
    refine (copyP (h0 := 66) rp0 (by rfl) l65 (by omega)).mono ?_
    intro n1' ⟨c1, c2⟩
    have k1 : KT st n n1' := c2.kt (fun a k q => by unfold WT; omega)
    have cx1 := cx0.keep hC k1
    simp (disch := omega) only [cx1.2.1, Lst hst, Sat_bdV, bnd_e, grd_t, bdI_e, bdV_e, bokA, bokB, ni_inb, ni_cl, nI_add, pk_mul, li_2, li_3, li_4, li_5, li_6, li_7, li_8, li_9, li_10, li_11, li_12, li_13, li_14, li_15, li_16, li_17, li_18, li_19, li_20, li_21, li_22, li_23, li_24, li_25, li_26, li_27, li_28, li_29, li_30, li_31, li_32, li_33, li_34, li_35, li_36, li_37, li_38, li_39, li_40, li_41, li_42, li_43, li_44, li_45, li_46, li_47, li_48, li_49, li_50, li_51, li_52, li_53, li_54, li_55, li_56, li_57, li_58, li_59, li_60, li_61, li_63, li_70, li_96, li_97, li_99, li_100, li_101, li_102, li_120, li_122, li_126, li_200, li_255, li_423, li_555, li_999, li_1000, li_1111, li_2968, li_9999, li_10631, li_12345, li_14092, li_21470, li_65536, li_99233, nz_eq, n1_eq, n1_lt, n1_gt, n1_le, n1_ge, n1_sub, n1_add, nm_add, nz_add, nz_add2, z1_ne, z1_lt, z1_le, nI_1, pk_sub, nI_ltI, nI_leI, nI_eq, ni_neg, ni_nneg, ni_pos0, ni_nle0, ni_m1, gI_eq, gI_ne, xI_sJ, xI_sR, xR_sI, xR_sJ, xJ_sI, xJ_sR, gJ_eq, gJ_ne, gR_eq, gR_ne, if_true, if_false, ite_true, ite_false, not_true_eq_false, not_false_eq_true, decide_true, and_self, true_and, and_true, false_and, and_false, or_true, true_or, or_false, false_or, reduceIte, ne_eq]
    refine (prepT (E := mkE C (i + 1) f t 0 jP wP) hE cx1 (fun _ _ => rfl)).mono ?_
    intro n2 ⟨b1, b2, b3, b4⟩
    have r2 : RwP 66 f t wr n2 := (c1.keep (fun k => b2 _ _ (by unfold WPr; omega)) (fun k => b2 _ _ (by unfold WPr; omega))).rw bs
    refine (passT (E := mkE C (i + 1) f t 0 jP wP) hE (Or.inr rfl) (cx1.keep hC b4) b1 r2 bw).mono ?_
    intro n3 ⟨d1, d2, d3, d4⟩
    have k3 : KT st mP n3 := ((a3.trans k1).trans b4).trans (d4.kt (fun a k q => by unfold WP at q; unfold WT; omega))
    have jy : gI n3 82 10 = dj i := by rw [hdj]; exact d1.2.2.2.2.2.1
    have e165 : ∀ k, gI n3 165 k = gI n 165 k := fun k => ((d4.1 _ _ (by unfold WP; omega)).trans (b2 _ _ (by unfold WPr; omega))).trans (c2.1 _ _ (by omega))
    rw [Nat.add_sub_cancel] at a1 a2 hk
    have bb : bsF dj (i + 1) = if (bsF dj i).1 = 0 ∨ (bsF dj i).2 < dj i then (i + 1, dj i) else bsF dj i := rfl
    have set := fun (h : (bsF dj i).1 = 0 ∨ (bsF dj i).2 < dj i) => hk (sI (sI n3 165 0 (nI (i + 1))) 165 1 (dj i)) (by
      rw [bb, if_pos h]
      exact ⟨fun q => absurd q (Nat.succ_ne_zero _), fun _ => ⟨by simp (disch := omega) only [bnd_e, grd_t, bdI_e, bdV_e, bokA, bokB, ni_inb, ni_cl, nI_add, pk_mul, li_2, li_3, li_4, li_5, li_6, li_7, li_8, li_9, li_10, li_11, li_12, li_13, li_14, li_15, li_16, li_17, li_18, li_19, li_20, li_21, li_22, li_23, li_24, li_25, li_26, li_27, li_28, li_29, li_30, li_31, li_32, li_33, li_34, li_35, li_36, li_37, li_38, li_39, li_40, li_41, li_42, li_43, li_44, li_45, li_46, li_47, li_48, li_49, li_50, li_51, li_52, li_53, li_54, li_55, li_56, li_57, li_58, li_59, li_60, li_61, li_63, li_70, li_96, li_97, li_99, li_100, li_101, li_102, li_120, li_122, li_126, li_200, li_255, li_423, li_555, li_999, li_1000, li_1111, li_2968, li_9999, li_10631, li_12345, li_14092, li_21470, li_65536, li_99233, nz_eq, n1_eq, n1_lt, n1_gt, n1_le, n1_ge, n1_sub, n1_add, nm_add, nz_add, nz_add2, z1_ne, z1_lt, z1_le, nI_1, pk_sub, nI_ltI, nI_leI, nI_eq, ni_neg, ni_nneg, ni_pos0, ni_nle0, ni_m1, gI_eq, gI_ne, xI_sJ, xI_sR, xR_sI, xR_sJ, xJ_sI, xJ_sR, gJ_eq, gJ_ne, gR_eq, gR_ne, if_true, if_false, ite_true, ite_false, not_true_eq_false, not_false_eq_true, decide_true, and_self, true_and, and_true, false_and, and_false, or_true, true_or, or_false, false_or, reduceIte, ne_eq], by simp (disch := omega) only [bnd_e, grd_t, bdI_e, bdV_e, bokA, bokB, ni_inb, ni_cl, nI_add, pk_mul, li_2, li_3, li_4, li_5, li_6, li_7, li_8, li_9, li_10, li_11, li_12, li_13, li_14, li_15, li_16, li_17, li_18, li_19, li_20, li_21, li_22, li_23, li_24, li_25, li_26, li_27, li_28, li_29, li_30, li_31, li_32, li_33, li_34, li_35, li_36, li_37, li_38, li_39, li_40, li_41, li_42, li_43, li_44, li_45, li_46, li_47, li_48, li_49, li_50, li_51, li_52, li_53, li_54, li_55, li_56, li_57, li_58, li_59, li_60, li_61, li_63, li_70, li_96, li_97, li_99, li_100, li_101, li_102, li_120, li_122, li_126, li_200, li_255, li_423, li_555, li_999, li_1000, li_1111, li_2968, li_9999, li_10631, li_12345, li_14092, li_21470, li_65536, li_99233, nz_eq, n1_eq, n1_lt, n1_gt, n1_le, n1_ge, n1_sub, n1_add, nm_add, nz_add, nz_add2, z1_ne, z1_lt, z1_le, nI_1, pk_sub, nI_ltI, nI_leI, nI_eq, ni_neg, ni_nneg, ni_pos0, ni_nle0, ni_m1, gI_eq, gI_ne, xI_sJ, xI_sR, xR_sI, xR_sJ, xJ_sI, xJ_sR, gJ_eq, gJ_ne, gR_eq, gR_ne, if_true, if_false, ite_true, ite_false, not_true_eq_false, not_false_eq_true, decide_true, and_self, true_and, and_true, false_and, and_false, or_true, true_or, or_false, false_or, reduceIte, ne_eq]⟩, (k3.sI _ (by unfold WT; omega)).sI _ (by unfold WT; omega)⟩)
    by_cases z : (bsF dj i).1 = 0
    · simp (disch := omega) only [(e165 0).trans (a1 z), jy, bnd_e, grd_t, bdI_e, bdV_e, bokA, bokB, ni_inb, ni_cl, nI_add, pk_mul, li_2, li_3, li_4, li_5, li_6, li_7, li_8, li_9, li_10, li_11, li_12, li_13, li_14, li_15, li_16, li_17, li_18, li_19, li_20, li_21, li_22, li_23, li_24, li_25, li_26, li_27, li_28, li_29, li_30, li_31, li_32, li_33, li_34, li_35, li_36, li_37, li_38, li_39, li_40, li_41, li_42, li_43, li_44, li_45, li_46, li_47, li_48, li_49, li_50, li_51, li_52, li_53, li_54, li_55, li_56, li_57, li_58, li_59, li_60, li_61, li_63, li_70, li_96, li_97, li_99, li_100, li_101, li_102, li_120, li_122, li_126, li_200, li_255, li_423, li_555, li_999, li_1000, li_1111, li_2968, li_9999, li_10631, li_12345, li_14092, li_21470, li_65536, li_99233, nz_eq, n1_eq, n1_lt, n1_gt, n1_le, n1_ge, n1_sub, n1_add, nm_add, nz_add, nz_add2, z1_ne, z1_lt, z1_le, nI_1, pk_sub, nI_ltI, nI_leI, nI_eq, ni_neg, ni_nneg, ni_pos0, ni_nle0, ni_m1, gI_eq, gI_ne, xI_sJ, xI_sR, xR_sI, xR_sJ, xJ_sI, xJ_sR, gJ_eq, gJ_ne, gR_eq, gR_ne, if_true, if_false, ite_true, ite_false, not_true_eq_false, not_false_eq_true, decide_true, and_self, true_and, and_true, false_and, and_false, or_true, true_or, or_false, false_or, reduceIte, ne_eq]
      exact set (Or.inl z)
    · have g0 := (e165 0).trans (a2 z).1
      have g1 := (e165 1).trans (a2 z).2
      have bl := bsF_le dj i
      by_cases y : dj i ≤ (bsF dj i).2
      · simp (disch := omega) only [g0, g1, jy, y, bnd_e, grd_t, bdI_e, bdV_e, bokA, bokB, ni_inb, ni_cl, nI_add, pk_mul, li_2, li_3, li_4, li_5, li_6, li_7, li_8, li_9, li_10, li_11, li_12, li_13, li_14, li_15, li_16, li_17, li_18, li_19, li_20, li_21, li_22, li_23, li_24, li_25, li_26, li_27, li_28, li_29, li_30, li_31, li_32, li_33, li_34, li_35, li_36, li_37, li_38, li_39, li_40, li_41, li_42, li_43, li_44, li_45, li_46, li_47, li_48, li_49, li_50, li_51, li_52, li_53, li_54, li_55, li_56, li_57, li_58, li_59, li_60, li_61, li_63, li_70, li_96, li_97, li_99, li_100, li_101, li_102, li_120, li_122, li_126, li_200, li_255, li_423, li_555, li_999, li_1000, li_1111, li_2968, li_9999, li_10631, li_12345, li_14092, li_21470, li_65536, li_99233, nz_eq, n1_eq, n1_lt, n1_gt, n1_le, n1_ge, n1_sub, n1_add, nm_add, nz_add, nz_add2, z1_ne, z1_lt, z1_le, nI_1, pk_sub, nI_ltI, nI_leI, nI_eq, ni_neg, ni_nneg, ni_pos0, ni_nle0, ni_m1, gI_eq, gI_ne, xI_sJ, xI_sR, xR_sI, xR_sJ, xJ_sI, xJ_sR, gJ_eq, gJ_ne, gR_eq, gR_ne, if_true, if_false, ite_true, ite_false, not_true_eq_false, not_false_eq_true, decide_true, and_self, true_and, and_true, false_and, and_false, or_true, true_or, or_false, false_or, reduceIte, ne_eq]
        refine hk n3 ?_
        rw [bb, if_neg (fun q => q.elim z (fun q => Int32.not_lt.mpr y q))]
        exact ⟨fun q => absurd q z, fun _ => ⟨g0, g1⟩, k3⟩
      · simp (disch := omega) only [g0, g1, jy, y, bnd_e, grd_t, bdI_e, bdV_e, bokA, bokB, ni_inb, ni_cl, nI_add, pk_mul, li_2, li_3, li_4, li_5, li_6, li_7, li_8, li_9, li_10, li_11, li_12, li_13, li_14, li_15, li_16, li_17, li_18, li_19, li_20, li_21, li_22, li_23, li_24, li_25, li_26, li_27, li_28, li_29, li_30, li_31, li_32, li_33, li_34, li_35, li_36, li_37, li_38, li_39, li_40, li_41, li_42, li_43, li_44, li_45, li_46, li_47, li_48, li_49, li_50, li_51, li_52, li_53, li_54, li_55, li_56, li_57, li_58, li_59, li_60, li_61, li_63, li_70, li_96, li_97, li_99, li_100, li_101, li_102, li_120, li_122, li_126, li_200, li_255, li_423, li_555, li_999, li_1000, li_1111, li_2968, li_9999, li_10631, li_12345, li_14092, li_21470, li_65536, li_99233, nz_eq, n1_eq, n1_lt, n1_gt, n1_le, n1_ge, n1_sub, n1_add, nm_add, nz_add, nz_add2, z1_ne, z1_lt, z1_le, nI_1, pk_sub, nI_ltI, nI_leI, nI_eq, ni_neg, ni_nneg, ni_pos0, ni_nle0, ni_m1, gI_eq, gI_ne, xI_sJ, xI_sR, xR_sI, xR_sJ, xJ_sI, xJ_sR, gJ_eq, gJ_ne, gR_eq, gR_ne, if_true, if_false, ite_true, ite_false, not_true_eq_false, not_false_eq_true, decide_true, and_self, true_and, and_true, false_and, and_false, or_true, true_or, or_false, false_or, reduceIte, ne_eq]
        exact set (Or.inr (Int32.not_le.mp y))
  · intro n k ⟨a1, a2, a3⟩
    have p0 := bsF_pos dj N (by omega)
    have n1 : 30 < N + 1 := by omega
    rw [Nat.add_sub_cancel] at a2
    unfold f_X11_searchEach_B9
    simp (disch := omega) only [n1, bnd_e, grd_t, bdI_e, bdV_e, bokA, bokB, ni_inb, ni_cl, nI_add, pk_mul, li_2, li_3, li_4, li_5, li_6, li_7, li_8, li_9, li_10, li_11, li_12, li_13, li_14, li_15, li_16, li_17, li_18, li_19, li_20, li_21, li_22, li_23, li_24, li_25, li_26, li_27, li_28, li_29, li_30, li_31, li_32, li_33, li_34, li_35, li_36, li_37, li_38, li_39, li_40, li_41, li_42, li_43, li_44, li_45, li_46, li_47, li_48, li_49, li_50, li_51, li_52, li_53, li_54, li_55, li_56, li_57, li_58, li_59, li_60, li_61, li_63, li_70, li_96, li_97, li_99, li_100, li_101, li_102, li_120, li_122, li_126, li_200, li_255, li_423, li_555, li_999, li_1000, li_1111, li_2968, li_9999, li_10631, li_12345, li_14092, li_21470, li_65536, li_99233, nz_eq, n1_eq, n1_lt, n1_gt, n1_le, n1_ge, n1_sub, n1_add, nm_add, nz_add, nz_add2, z1_ne, z1_lt, z1_le, nI_1, pk_sub, nI_ltI, nI_leI, nI_eq, ni_neg, ni_nneg, ni_pos0, ni_nle0, ni_m1, gI_eq, gI_ne, xI_sJ, xI_sR, xR_sI, xR_sJ, xJ_sI, xJ_sR, gJ_eq, gJ_ne, gR_eq, gR_ne, if_true, if_false, ite_true, ite_false, not_true_eq_false, not_false_eq_true, decide_true, and_self, true_and, and_true, false_and, and_false, or_true, true_or, or_false, false_or, reduceIte, ne_eq]
    exact (Sat_some _ _).mpr ⟨(a2 p0).1, (a2 p0).2, a3⟩
theorem bestM {C : Nat → Nat → Nat} {jP wP : List Int32} {st e f t : Nat} {wr : Nat → Nat} {S : Nat → Int32} {mP mM : Mm} (b : Bas C jP wP st e f t wr S mP mM) {dj : Nat → Int32} (hdj : dj = djE C f t wr jP wP) {N : Nat} (hN : N = 30) {p1 : Int32} {m : Mm} (cm : CxM C jP wP m) (rm : RowM 35 0 S m) (h62 : gI m 0 62 = 0) : Sat (lop (fun _ _ _ _ _ => none) (f_X12_best_B43 p1) 4000 (nI e) 0 0 1 m) (fun q => q.1 = (if p1 = 0 then nI (bsF dj N).1 else (bsF dj N).2) ∧ ∀ a k, ¬ ((WMd a k ∧ a ≠ 35) ∨ a = 41 ∨ a = 37) → gI q.2 a k = gI m a k) := by
  obtain ⟨cx, -, hC, lq, ⟨be, bf, bt, bw⟩, bs⟩ := id b
  refine lopR5 (fun n x7 x8 x9 x10 m' => ∃ i, i ≤ N ∧ n = N - i ∧ x7 = nI e ∧ x8 = nI (bsF dj i).1 ∧ x9 = (bsF dj i).2 ∧ x10 = nI (i + 1) ∧ ∀ a k, ¬ ((WMd a k ∧ a ≠ 35) ∨ a = 41 ∨ a = 37 ∨ (a = 35 ∧ k = 1)) → gI m' a k = gI m a k) ?_ 4000 N (by omega) _ _ _ _ _ ⟨0, by omega, by omega, rfl, rfl, rfl, rfl, fun _ _ _ => rfl⟩
  intro n x7 x8 x9 x10 m' k ⟨i, hi, hn, e7, e8, e9, e10, hf⟩ hk
  subst e7
  subst e8
  subst e9
  subst e10
  have bl := bsF_le dj i
  unfold f_X12_best_B43 f_X12_best_J78 f_X12_best_J85
  by_cases z : i = N
  · subst z
    have n1 : 31 ≤ i + 1 := by omega
    have hr : ∀ a k, ¬ ((WMd a k ∧ a ≠ 35) ∨ a = 41 ∨ a = 37) → gI (sI m' 35 1 (nI e)) a k = gI m a k := by
      intro a k h
      by_cases y : a = 35 ∧ k = 1
      · rw [gI_eq _ _ _ _ _ _ y.1 y.2, y.1, y.2]
        exact ((rm.at0 (by decide)).trans bs.1).symm
      · rw [gI_ne _ _ _ _ _ _ (by omega)]
        exact hf a k (by unfold WMd at h ⊢; omega)
    by_cases p0 : p1 = 0
    · rw [if_pos p0]
      simp (disch := omega) only [n1, p0, bnd_e, grd_t, bdI_e, bdV_e, bokA, bokB, ni_inb, ni_cl, nI_add, pk_mul, li_2, li_3, li_4, li_5, li_6, li_7, li_8, li_9, li_10, li_11, li_12, li_13, li_14, li_15, li_16, li_17, li_18, li_19, li_20, li_21, li_22, li_23, li_24, li_25, li_26, li_27, li_28, li_29, li_30, li_31, li_32, li_33, li_34, li_35, li_36, li_37, li_38, li_39, li_40, li_41, li_42, li_43, li_44, li_45, li_46, li_47, li_48, li_49, li_50, li_51, li_52, li_53, li_54, li_55, li_56, li_57, li_58, li_59, li_60, li_61, li_63, li_70, li_96, li_97, li_99, li_100, li_101, li_102, li_120, li_122, li_126, li_200, li_255, li_423, li_555, li_999, li_1000, li_1111, li_2968, li_9999, li_10631, li_12345, li_14092, li_21470, li_65536, li_99233, nz_eq, n1_eq, n1_lt, n1_gt, n1_le, n1_ge, n1_sub, n1_add, nm_add, nz_add, nz_add2, z1_ne, z1_lt, z1_le, nI_1, pk_sub, nI_ltI, nI_leI, nI_eq, ni_neg, ni_nneg, ni_pos0, ni_nle0, ni_m1, gI_eq, gI_ne, xI_sJ, xI_sR, xR_sI, xR_sJ, xJ_sI, xJ_sR, gJ_eq, gJ_ne, gR_eq, gR_ne, if_true, if_false, ite_true, ite_false, not_true_eq_false, not_false_eq_true, decide_true, and_self, true_and, and_true, false_and, and_false, or_true, true_or, or_false, false_or, reduceIte, ne_eq]
      exact (Sat_some _ _).mpr ⟨rfl, hr⟩
    · rw [if_neg p0]
      simp (disch := omega) only [n1, p0, bnd_e, grd_t, bdI_e, bdV_e, bokA, bokB, ni_inb, ni_cl, nI_add, pk_mul, li_2, li_3, li_4, li_5, li_6, li_7, li_8, li_9, li_10, li_11, li_12, li_13, li_14, li_15, li_16, li_17, li_18, li_19, li_20, li_21, li_22, li_23, li_24, li_25, li_26, li_27, li_28, li_29, li_30, li_31, li_32, li_33, li_34, li_35, li_36, li_37, li_38, li_39, li_40, li_41, li_42, li_43, li_44, li_45, li_46, li_47, li_48, li_49, li_50, li_51, li_52, li_53, li_54, li_55, li_56, li_57, li_58, li_59, li_60, li_61, li_63, li_70, li_96, li_97, li_99, li_100, li_101, li_102, li_120, li_122, li_126, li_200, li_255, li_423, li_555, li_999, li_1000, li_1111, li_2968, li_9999, li_10631, li_12345, li_14092, li_21470, li_65536, li_99233, nz_eq, n1_eq, n1_lt, n1_gt, n1_le, n1_ge, n1_sub, n1_add, nm_add, nz_add, nz_add2, z1_ne, z1_lt, z1_le, nI_1, pk_sub, nI_ltI, nI_leI, nI_eq, ni_neg, ni_nneg, ni_pos0, ni_nle0, ni_m1, gI_eq, gI_ne, xI_sJ, xI_sR, xR_sI, xR_sJ, xJ_sI, xJ_sR, gJ_eq, gJ_ne, gR_eq, gR_ne, if_true, if_false, ite_true, ite_false, not_true_eq_false, not_false_eq_true, decide_true, and_self, true_and, and_true, false_and, and_false, or_true, true_or, or_false, false_or, reduceIte, ne_eq]
      exact (Sat_some _ _).mpr ⟨rfl, hr⟩
  · have n1 : ¬ 31 ≤ i + 1 := by omega
    have b' : Bas C jP wP st (i + 1) f t wr (fun j => if j = 1 then nI (i + 1) else S j) mP mM := b.row (by omega) bf bt (if_pos rfl) ((if_neg (by decide)).trans bs.2.1) ((if_neg (by decide)).trans bs.2.2.1) (fun j hj => if_neg (by omega))
    have cm' : CxM C jP wP (sI m' 35 1 (nI (i + 1))) := cm.keep hC (fun a k r => by
      rw [gI_ne _ _ _ _ _ _ (by unfold vM0 at r; omega)]
      exact hf a k (by unfold vM0 at r; unfold WMd; omega))
    have rm' : RowM 35 0 (fun j => if j = 1 then nI (i + 1) else S j) (sI m' 35 1 (nI (i + 1))) := by
      intro j hj
      rw [Nat.zero_add]
      show _ = if j = 1 then nI (i + 1) else S j
      by_cases y : j = 1
      · rw [gI_eq _ _ _ _ _ _ rfl y, if_pos y]
      · rw [gI_ne _ _ _ _ _ _ (by omega), if_neg y, hf _ _ (by unfold WMd; omega)]
        exact rm.at0 hj
    have h62' : gI (sI m' 35 1 (nI (i + 1))) 0 62 = 0 := by
      rw [gI_ne _ _ _ _ _ _ (by omega), hf _ _ (by unfold WMd; omega)]
      exact h62
    simp (disch := omega) only [n1, Sat_bdI, bnd_e, grd_t, bdI_e, bdV_e, bokA, bokB, ni_inb, ni_cl, nI_add, pk_mul, li_2, li_3, li_4, li_5, li_6, li_7, li_8, li_9, li_10, li_11, li_12, li_13, li_14, li_15, li_16, li_17, li_18, li_19, li_20, li_21, li_22, li_23, li_24, li_25, li_26, li_27, li_28, li_29, li_30, li_31, li_32, li_33, li_34, li_35, li_36, li_37, li_38, li_39, li_40, li_41, li_42, li_43, li_44, li_45, li_46, li_47, li_48, li_49, li_50, li_51, li_52, li_53, li_54, li_55, li_56, li_57, li_58, li_59, li_60, li_61, li_63, li_70, li_96, li_97, li_99, li_100, li_101, li_102, li_120, li_122, li_126, li_200, li_255, li_423, li_555, li_999, li_1000, li_1111, li_2968, li_9999, li_10631, li_12345, li_14092, li_21470, li_65536, li_99233, nz_eq, n1_eq, n1_lt, n1_gt, n1_le, n1_ge, n1_sub, n1_add, nm_add, nz_add, nz_add2, z1_ne, z1_lt, z1_le, nI_1, pk_sub, nI_ltI, nI_leI, nI_eq, ni_neg, ni_nneg, ni_pos0, ni_nle0, ni_m1, gI_eq, gI_ne, xI_sJ, xI_sR, xR_sI, xR_sJ, xJ_sI, xJ_sR, gJ_eq, gJ_ne, gR_eq, gR_ne, if_true, if_false, ite_true, ite_false, not_true_eq_false, not_false_eq_true, decide_true, and_self, true_and, and_true, false_and, and_false, or_true, true_or, or_false, false_or, reduceIte, ne_eq]
    refine (triesM b' cm' rm' h62').mono ?_
    intro q ⟨q1, q2, q3⟩
    have q1' : q.1 = dj i := by rw [hdj]; exact q1
    have hf' : ∀ a k, ¬ ((WMd a k ∧ a ≠ 35) ∨ a = 41 ∨ a = 37 ∨ (a = 35 ∧ k = 1)) → gI q.2 a k = gI m a k := by
      intro a k h
      rw [q3 a k (by unfold WMd at h ⊢; omega), gI_ne _ _ _ _ _ _ (by omega)]
      exact hf a k h
    have bb : bsF dj (i + 1) = if (bsF dj i).1 = 0 ∨ (bsF dj i).2 < dj i then (i + 1, dj i) else bsF dj i := rfl
    have nx := fun (x8 x9 : Int32) (h8 : x8 = nI (bsF dj (i + 1)).1) (h9 : x9 = (bsF dj (i + 1)).2) => hk (N - (i + 1)) (nI e) x8 x9 (nI (i + 1 + 1)) q.2 (by omega) ⟨i + 1, by omega, rfl, rfl, h8, h9, rfl, hf'⟩
    rw [q1']
    by_cases z1 : (bsF dj i).1 = 0
    · rw [if_pos (Or.inl z1)] at bb
      rw [bb] at nx
      simp (disch := omega) only [z1, Nat.le_refl, bnd_e, grd_t, bdI_e, bdV_e, bokA, bokB, ni_inb, ni_cl, nI_add, pk_mul, li_2, li_3, li_4, li_5, li_6, li_7, li_8, li_9, li_10, li_11, li_12, li_13, li_14, li_15, li_16, li_17, li_18, li_19, li_20, li_21, li_22, li_23, li_24, li_25, li_26, li_27, li_28, li_29, li_30, li_31, li_32, li_33, li_34, li_35, li_36, li_37, li_38, li_39, li_40, li_41, li_42, li_43, li_44, li_45, li_46, li_47, li_48, li_49, li_50, li_51, li_52, li_53, li_54, li_55, li_56, li_57, li_58, li_59, li_60, li_61, li_63, li_70, li_96, li_97, li_99, li_100, li_101, li_102, li_120, li_122, li_126, li_200, li_255, li_423, li_555, li_999, li_1000, li_1111, li_2968, li_9999, li_10631, li_12345, li_14092, li_21470, li_65536, li_99233, nz_eq, n1_eq, n1_lt, n1_gt, n1_le, n1_ge, n1_sub, n1_add, nm_add, nz_add, nz_add2, z1_ne, z1_lt, z1_le, nI_1, pk_sub, nI_ltI, nI_leI, nI_eq, ni_neg, ni_nneg, ni_pos0, ni_nle0, ni_m1, gI_eq, gI_ne, xI_sJ, xI_sR, xR_sI, xR_sJ, xJ_sI, xJ_sR, gJ_eq, gJ_ne, gR_eq, gR_ne, if_true, if_false, ite_true, ite_false, not_true_eq_false, not_false_eq_true, decide_true, and_self, true_and, and_true, false_and, and_false, or_true, true_or, or_false, false_or, reduceIte, ne_eq]
      exact nx _ _ rfl rfl
    · have z1' : ¬ (bsF dj i).1 ≤ 0 := by omega
      by_cases y : (bsF dj i).2 < dj i
      · rw [if_pos (Or.inr y)] at bb
        rw [bb] at nx
        simp (disch := omega) only [z1', y, bnd_e, grd_t, bdI_e, bdV_e, bokA, bokB, ni_inb, ni_cl, nI_add, pk_mul, li_2, li_3, li_4, li_5, li_6, li_7, li_8, li_9, li_10, li_11, li_12, li_13, li_14, li_15, li_16, li_17, li_18, li_19, li_20, li_21, li_22, li_23, li_24, li_25, li_26, li_27, li_28, li_29, li_30, li_31, li_32, li_33, li_34, li_35, li_36, li_37, li_38, li_39, li_40, li_41, li_42, li_43, li_44, li_45, li_46, li_47, li_48, li_49, li_50, li_51, li_52, li_53, li_54, li_55, li_56, li_57, li_58, li_59, li_60, li_61, li_63, li_70, li_96, li_97, li_99, li_100, li_101, li_102, li_120, li_122, li_126, li_200, li_255, li_423, li_555, li_999, li_1000, li_1111, li_2968, li_9999, li_10631, li_12345, li_14092, li_21470, li_65536, li_99233, nz_eq, n1_eq, n1_lt, n1_gt, n1_le, n1_ge, n1_sub, n1_add, nm_add, nz_add, nz_add2, z1_ne, z1_lt, z1_le, nI_1, pk_sub, nI_ltI, nI_leI, nI_eq, ni_neg, ni_nneg, ni_pos0, ni_nle0, ni_m1, gI_eq, gI_ne, xI_sJ, xI_sR, xR_sI, xR_sJ, xJ_sI, xJ_sR, gJ_eq, gJ_ne, gR_eq, gR_ne, if_true, if_false, ite_true, ite_false, not_true_eq_false, not_false_eq_true, decide_true, and_self, true_and, and_true, false_and, and_false, or_true, true_or, or_false, false_or, reduceIte, ne_eq]
        exact nx _ _ rfl rfl
      · rw [if_neg (fun q => q.elim z1 y)] at bb
        rw [bb] at nx
        simp (disch := omega) only [z1', y, bnd_e, grd_t, bdI_e, bdV_e, bokA, bokB, ni_inb, ni_cl, nI_add, pk_mul, li_2, li_3, li_4, li_5, li_6, li_7, li_8, li_9, li_10, li_11, li_12, li_13, li_14, li_15, li_16, li_17, li_18, li_19, li_20, li_21, li_22, li_23, li_24, li_25, li_26, li_27, li_28, li_29, li_30, li_31, li_32, li_33, li_34, li_35, li_36, li_37, li_38, li_39, li_40, li_41, li_42, li_43, li_44, li_45, li_46, li_47, li_48, li_49, li_50, li_51, li_52, li_53, li_54, li_55, li_56, li_57, li_58, li_59, li_60, li_61, li_63, li_70, li_96, li_97, li_99, li_100, li_101, li_102, li_120, li_122, li_126, li_200, li_255, li_423, li_555, li_999, li_1000, li_1111, li_2968, li_9999, li_10631, li_12345, li_14092, li_21470, li_65536, li_99233, nz_eq, n1_eq, n1_lt, n1_gt, n1_le, n1_ge, n1_sub, n1_add, nm_add, nz_add, nz_add2, z1_ne, z1_lt, z1_le, nI_1, pk_sub, nI_ltI, nI_leI, nI_eq, ni_neg, ni_nneg, ni_pos0, ni_nle0, ni_m1, gI_eq, gI_ne, xI_sJ, xI_sR, xR_sI, xR_sJ, xJ_sI, xJ_sR, gJ_eq, gJ_ne, gR_eq, gR_ne, if_true, if_false, ite_true, ite_false, not_true_eq_false, not_false_eq_true, decide_true, and_self, true_and, and_true, false_and, and_false, or_true, true_or, or_false, false_or, reduceIte, ne_eq]
        exact nx _ _ rfl rfl
theorem st_best : St_best Rel := by
  intro a mP mM ⟨C, st, S, hR⟩
  have hK : ∀ v, RelC C st S mP (sI mM 0 0 v) := fun v => hR.keep (SaP.refl _ _) (SaM.thr _ _)
  have no : f_X11_best a mP = some (none, mP) → f_X12_best a mM = some (0, sI mM 0 0 1) → ∃ (x : Option Int32) (mP2 : Mm) (r : Int32) (mM2 : Mm), f_X11_best a mP = some (x, mP2) ∧ f_X12_best a mM = some (r, mM2) ∧ (x = none → gI mM2 0 0 = 1) ∧ (∀ v, x = some v → gI mM2 0 0 = 0 ∧ r = v) ∧ Rel mP2 mM2 := fun a b => ⟨none, mP, 0, _, a, b, fun _ => gI_eq _ _ _ _ _ _ rfl rfl, fun v h => (by cases h), ⟨C, st, S, hK 1⟩⟩
  have z0 : ¬ (0 : Int32) = 1 := by decide
  rcases pk_ix a (n := 2) (by decide) with h | h | ⟨j, hj, rfl⟩
  · refine no ?_ ?_
    · unfold f_X11_best f_X11_best_J9
      simp (disch := omega) only [ng_t h, bnd_e, grd_t, bdI_e, bdV_e, bokA, bokB, ni_inb, ni_cl, nI_add, pk_mul, li_2, li_3, li_4, li_5, li_6, li_7, li_8, li_9, li_10, li_11, li_12, li_13, li_14, li_15, li_16, li_17, li_18, li_19, li_20, li_21, li_22, li_23, li_24, li_25, li_26, li_27, li_28, li_29, li_30, li_31, li_32, li_33, li_34, li_35, li_36, li_37, li_38, li_39, li_40, li_41, li_42, li_43, li_44, li_45, li_46, li_47, li_48, li_49, li_50, li_51, li_52, li_53, li_54, li_55, li_56, li_57, li_58, li_59, li_60, li_61, li_63, li_70, li_96, li_97, li_99, li_100, li_101, li_102, li_120, li_122, li_126, li_200, li_255, li_423, li_555, li_999, li_1000, li_1111, li_2968, li_9999, li_10631, li_12345, li_14092, li_21470, li_65536, li_99233, nz_eq, n1_eq, n1_lt, n1_gt, n1_le, n1_ge, n1_sub, n1_add, nm_add, nz_add, nz_add2, z1_ne, z1_lt, z1_le, nI_1, pk_sub, nI_ltI, nI_leI, nI_eq, ni_neg, ni_nneg, ni_pos0, ni_nle0, ni_m1, gI_eq, gI_ne, xI_sJ, xI_sR, xR_sI, xR_sJ, xJ_sI, xJ_sR, gJ_eq, gJ_ne, gR_eq, gR_ne, if_true, if_false, ite_true, ite_false, not_true_eq_false, not_false_eq_true, decide_true, and_self, true_and, and_true, false_and, and_false, or_true, true_or, or_false, false_or, reduceIte, ne_eq]
    · unfold f_X12_best f_X12_best_J15
      simp (disch := omega) only [within_e, ng_t h, bnd_e, grd_t, bdI_e, bdV_e, bokA, bokB, ni_inb, ni_cl, nI_add, pk_mul, li_2, li_3, li_4, li_5, li_6, li_7, li_8, li_9, li_10, li_11, li_12, li_13, li_14, li_15, li_16, li_17, li_18, li_19, li_20, li_21, li_22, li_23, li_24, li_25, li_26, li_27, li_28, li_29, li_30, li_31, li_32, li_33, li_34, li_35, li_36, li_37, li_38, li_39, li_40, li_41, li_42, li_43, li_44, li_45, li_46, li_47, li_48, li_49, li_50, li_51, li_52, li_53, li_54, li_55, li_56, li_57, li_58, li_59, li_60, li_61, li_63, li_70, li_96, li_97, li_99, li_100, li_101, li_102, li_120, li_122, li_126, li_200, li_255, li_423, li_555, li_999, li_1000, li_1111, li_2968, li_9999, li_10631, li_12345, li_14092, li_21470, li_65536, li_99233, nz_eq, n1_eq, n1_lt, n1_gt, n1_le, n1_ge, n1_sub, n1_add, nm_add, nz_add, nz_add2, z1_ne, z1_lt, z1_le, nI_1, pk_sub, nI_ltI, nI_leI, nI_eq, ni_neg, ni_nneg, ni_pos0, ni_nle0, ni_m1, gI_eq, gI_ne, xI_sJ, xI_sR, xR_sI, xR_sJ, xJ_sI, xJ_sR, gJ_eq, gJ_ne, gR_eq, gR_ne, if_true, if_false, ite_true, ite_false, not_true_eq_false, not_false_eq_true, decide_true, and_self, true_and, and_true, false_and, and_false, or_true, true_or, or_false, false_or, reduceIte, ne_eq]
  · have b1 := bg_lt h (by decide) 1 (by decide)
    have b1' : (1 < a) = True := b1
    have b2 := bg_gt h (by decide) 1 (by decide)
    have b2' : (a ≤ 1) = False := b2
    refine no ?_ ?_
    · unfold f_X11_best f_X11_best_J9
      simp (disch := omega) only [bg_neg h (by decide), b2', bnd_e, grd_t, bdI_e, bdV_e, bokA, bokB, ni_inb, ni_cl, nI_add, pk_mul, li_2, li_3, li_4, li_5, li_6, li_7, li_8, li_9, li_10, li_11, li_12, li_13, li_14, li_15, li_16, li_17, li_18, li_19, li_20, li_21, li_22, li_23, li_24, li_25, li_26, li_27, li_28, li_29, li_30, li_31, li_32, li_33, li_34, li_35, li_36, li_37, li_38, li_39, li_40, li_41, li_42, li_43, li_44, li_45, li_46, li_47, li_48, li_49, li_50, li_51, li_52, li_53, li_54, li_55, li_56, li_57, li_58, li_59, li_60, li_61, li_63, li_70, li_96, li_97, li_99, li_100, li_101, li_102, li_120, li_122, li_126, li_200, li_255, li_423, li_555, li_999, li_1000, li_1111, li_2968, li_9999, li_10631, li_12345, li_14092, li_21470, li_65536, li_99233, nz_eq, n1_eq, n1_lt, n1_gt, n1_le, n1_ge, n1_sub, n1_add, nm_add, nz_add, nz_add2, z1_ne, z1_lt, z1_le, nI_1, pk_sub, nI_ltI, nI_leI, nI_eq, ni_neg, ni_nneg, ni_pos0, ni_nle0, ni_m1, gI_eq, gI_ne, xI_sJ, xI_sR, xR_sI, xR_sJ, xJ_sI, xJ_sR, gJ_eq, gJ_ne, gR_eq, gR_ne, if_true, if_false, ite_true, ite_false, not_true_eq_false, not_false_eq_true, decide_true, and_self, true_and, and_true, false_and, and_false, or_true, true_or, or_false, false_or, reduceIte, ne_eq]
    · unfold f_X12_best f_X12_best_J15
      simp (disch := omega) only [within_e, bg_neg h (by decide), b1', bnd_e, grd_t, bdI_e, bdV_e, bokA, bokB, ni_inb, ni_cl, nI_add, pk_mul, li_2, li_3, li_4, li_5, li_6, li_7, li_8, li_9, li_10, li_11, li_12, li_13, li_14, li_15, li_16, li_17, li_18, li_19, li_20, li_21, li_22, li_23, li_24, li_25, li_26, li_27, li_28, li_29, li_30, li_31, li_32, li_33, li_34, li_35, li_36, li_37, li_38, li_39, li_40, li_41, li_42, li_43, li_44, li_45, li_46, li_47, li_48, li_49, li_50, li_51, li_52, li_53, li_54, li_55, li_56, li_57, li_58, li_59, li_60, li_61, li_63, li_70, li_96, li_97, li_99, li_100, li_101, li_102, li_120, li_122, li_126, li_200, li_255, li_423, li_555, li_999, li_1000, li_1111, li_2968, li_9999, li_10631, li_12345, li_14092, li_21470, li_65536, li_99233, nz_eq, n1_eq, n1_lt, n1_gt, n1_le, n1_ge, n1_sub, n1_add, nm_add, nz_add, nz_add2, z1_ne, z1_lt, z1_le, nI_1, pk_sub, nI_ltI, nI_leI, nI_eq, ni_neg, ni_nneg, ni_pos0, ni_nle0, ni_m1, gI_eq, gI_ne, xI_sJ, xI_sR, xR_sI, xR_sJ, xJ_sI, xJ_sR, gJ_eq, gJ_ne, gR_eq, gR_ne, if_true, if_false, ite_true, ite_false, not_true_eq_false, not_false_eq_true, decide_true, and_self, true_and, and_true, false_and, and_false, or_true, true_or, or_false, false_or, reduceIte, ne_eq]
  · refine of_keyT (v := 0) ?_
    obtain ⟨jP, wP, e, f, t, wr, b⟩ := hR.bas
    obtain ⟨-, -, hC, -⟩ := id b
    have j1 : j ≤ 1 := by omega
    have j1' : ¬ 1 < j := by omega
    have hK0 := hK 0
    have e35 : gI (sI mM 0 0 0) 35 1 = nI e := (hK0.2.2.1.2.2.at0 (by decide)).trans b.2.2.2.2.2.1
    have cm : CxM C jP wP (sI mM 0 0 0) := b.2.1.keep hC (fun a k r => gI_ne _ _ _ _ _ _ (by unfold vM0 at r; omega))
    have mm := bestM b rfl rfl (p1 := nI j) cm hK0.2.2.1.2.2 hK0.2.2.2.2.2.2.2.2.2
    unfold f_X11_best f_X12_best f_X12_best_J15
    simp (disch := omega) only [within_e, j1, j1', z0, Sat_bdV, show gI mM 35 1 = nI e from e35, bnd_e, grd_t, bdI_e, bdV_e, bokA, bokB, ni_inb, ni_cl, nI_add, pk_mul, li_2, li_3, li_4, li_5, li_6, li_7, li_8, li_9, li_10, li_11, li_12, li_13, li_14, li_15, li_16, li_17, li_18, li_19, li_20, li_21, li_22, li_23, li_24, li_25, li_26, li_27, li_28, li_29, li_30, li_31, li_32, li_33, li_34, li_35, li_36, li_37, li_38, li_39, li_40, li_41, li_42, li_43, li_44, li_45, li_46, li_47, li_48, li_49, li_50, li_51, li_52, li_53, li_54, li_55, li_56, li_57, li_58, li_59, li_60, li_61, li_63, li_70, li_96, li_97, li_99, li_100, li_101, li_102, li_120, li_122, li_126, li_200, li_255, li_423, li_555, li_999, li_1000, li_1111, li_2968, li_9999, li_10631, li_12345, li_14092, li_21470, li_65536, li_99233, nz_eq, n1_eq, n1_lt, n1_gt, n1_le, n1_ge, n1_sub, n1_add, nm_add, nz_add, nz_add2, z1_ne, z1_lt, z1_le, nI_1, pk_sub, nI_ltI, nI_leI, nI_eq, ni_neg, ni_nneg, ni_pos0, ni_nle0, ni_m1, gI_eq, gI_ne, xI_sJ, xI_sR, xR_sI, xR_sJ, xJ_sI, xJ_sR, gJ_eq, gJ_ne, gR_eq, gR_ne, if_true, if_false, ite_true, ite_false, not_true_eq_false, not_false_eq_true, decide_true, and_self, true_and, and_true, false_and, and_false, or_true, true_or, or_false, false_or, reduceIte, ne_eq]
    refine (bestP b rfl rfl hR.2.2.1.2.1).mono ?_
    intro n ⟨a1, a2, a3⟩
    refine (Sat_some _ _).mpr ?_
    refine mm.mono ?_
    intro q ⟨q1, q2⟩
    refine ⟨?_, ?_, C, st, S, hK0.keep (a3.sa hR.st) (fun a k v => q2 a k (WMd_vm v))⟩
    · rw [q1]
      rcases (by omega : j = 0 ∨ j = 1) with rfl | rfl
      · rw [if_pos (show nI 0 = 0 from rfl)]
        exact congrArg some a1
      · rw [if_neg (show ¬ nI 1 = 0 by decide)]
        exact congrArg some a2
    · rw [q2 _ _ (by unfold WMd; omega)]
      exact gI_eq _ _ _ _ _ _ rfl rfl
