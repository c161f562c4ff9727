theorem partA {T : Nat → Nat} {n l b cb δ : Nat} {d : Tk} {c : List Int32} {g : List Nat} {mP mM : Mm} {κe : Nat → Int32 → Int32 → Mm → Option (Int32 × Mm)} {κp : Nat → Int32 → Mm → Option (Int32 × Mm)} (hT : TpOK T n) (hl : l < 2) (h : PJ T n l b cb d c g mP mM) (hδ : δ ≤ 5) (ho : δ = 5 ∨ (isW d 20 = false ∧ isG T d 40 = false)) : Bad n b (cb + g.length) δ (δ + 1) d mP mM (f_X5_part_r κe κp b (nI δ) mP) (fun N => rdL N (nI δ) 1 mM) ∨ GdP T n l b cb δ d c g mP mM (f_X5_part_r κe κp b (nI δ) mP) (fun N => rdL N (nI δ) 1 mM) := by
  obtain ⟨hP, hM, hc, hb, h1⟩ := id h
  have ok := hP.1
  have n0 := hT.1
  have bn := ok.1
  have bad : ∀ w, 1 ≤ w ∧ w ≤ 5 → f_X5_part_r κe κp b (nI δ) mP = some (0, sI mP 3 2 (nI (w + 16 * tkb d))) → (∀ k, f_X12_reads_B11 k (nI δ) 1 mM = some (0, sI mM 0 9 (nI (w + 16 * tkb d)))) → Bad n b (cb + g.length) δ (δ + 1) d mP mM (f_X5_part_r κe κp b (nI δ) mP) (fun N => rdL N (nI δ) 1 mM) := by
    intro w hw e1 e2
    refine ⟨sI mP 3 2 (nI (w + 16 * tkb d)), sI mM 0 9 (nI (w + 16 * tkb d)), e1, fun N hN => ?_, ?_, ?_, (Kp.refl mP).sI _ (by unfold WLp WRP; omega), (Kp.refl mM).sI _ (by unfold WMl; omega)⟩
    · obtain ⟨N', rfl⟩ : ∃ N', N = N' + 1 := ⟨N - 1, by omega⟩
      show rdL (N' + 1) (nI δ) 1 mM = _
      rw [rdL_s, e2]
    · rw [gI_eq _ _ _ _ _ _ rfl rfl, gI_eq _ _ _ _ _ _ rfl rfl]
    · rw [gI_eq _ _ _ _ _ _ rfl rfl, nz_eq _ (by omega)]
      omega
  by_cases s0 : fcN l d ≠ 0 ∨ isW d 20 = true ∨ isG T d 40 = true ∨ tkK d = 2
  · by_cases d5 : δ = 5
    · subst d5
      exact Or.inl (bad 5 (by omega) (cNo5 hl hP s0) (fun k => mNo5 hT hl hM s0))
    · have hδ5 : δ < 5 := by omega
      obtain ⟨ho1, ho2⟩ := ho.resolve_left d5
      have at' : fcN l d ≠ 0 ∨ tkK d = 2 := by
        rcases s0 with q | q | q | q
        · exact Or.inl q
        · rw [ho1] at q; cases q
        · rw [ho2] at q; cases q
        · exact Or.inr q
      have k0 : tkK d ≠ 0 := by
        rcases at' with q | q
        · intro e
          unfold fcN at q
          rw [if_neg (fun r => by omega)] at q
          exact q rfl
        · omega
      have kb := ok.2.2.2.2.1 k0
      have tok := tk_ok (T := T) (n := n) ok.2.1
      right
      by_cases a : fcN l d = 0
      · have k2 : tkK d = 2 := at'.resolve_left (fun q => q a)
        have vb := ok.2.2.2.2.2.2.1 k2
        obtain ⟨nP, e1, r1, r2⟩ := cAtom (κe := κe) (κp := κp) hT hl hP hδ5 (Or.inr ⟨k2, rfl⟩)
        obtain ⟨nM, e2, r3, r4⟩ := mAtom hT hl hM hδ5 (c := 100 + tkv d) (Or.inr ⟨k2, rfl⟩) ho1
        refine ⟨nP, nM, _, [nI (tkv d)], [100 + tkv d], fun _ => nI (tkv d), 1, e1, fun N => by show rdL (N + 1) (nI δ) 1 mM = _; rw [rdL_s, e2], h.put hT k0 r1 r3 r4 (fun k => ?_) (by simp (disch := omega) only [bnd_e, grd_t, bdI_e, bdV_e, bokA, bokB, ni_inb, ni_cl, nI_add, pk_mul, li_2, li_3, li_4, li_5, li_6, li_7, li_8, li_9, li_10, li_11, li_12, li_13, li_14, li_15, li_16, li_17, li_18, li_19, li_20, li_21, li_22, li_23, li_24, li_25, li_26, li_27, li_28, li_29, li_30, li_31, li_32, li_33, li_34, li_35, li_36, li_37, li_38, li_39, li_40, li_41, li_42, li_43, li_44, li_45, li_46, li_47, li_48, li_49, li_50, li_51, li_52, li_53, li_54, li_55, li_56, li_57, li_58, li_59, li_60, li_61, li_63, li_70, li_96, li_97, li_99, li_100, li_101, li_102, li_120, li_122, li_126, li_200, li_255, li_423, li_555, li_999, li_1000, li_1111, li_2968, li_9999, li_10631, li_12345, li_14092, li_21470, li_65536, li_99233, nz_eq, n1_eq, n1_lt, n1_gt, n1_le, n1_ge, n1_sub, n1_add, nm_add, nz_add, nz_add2, z1_ne, z1_lt, z1_le, nI_1, pk_sub, nI_ltI, nI_leI, nI_eq, ni_neg, ni_nneg, ni_pos0, ni_nle0, ni_m1, gI_eq, gI_ne, xI_sJ, xI_sR, xR_sI, xR_sJ, xJ_sI, xJ_sR, gJ_eq, gJ_ne, gR_eq, gR_ne, if_true, if_false, ite_true, ite_false, not_true_eq_false, not_false_eq_true, decide_true, and_self, true_and, and_true, false_and, and_false, or_true, true_or, or_false, false_or, reduceIte, ne_eq]) (by simp (disch := omega) only [bnd_e, grd_t, bdI_e, bdV_e, bokA, bokB, ni_inb, ni_cl, nI_add, pk_mul, li_2, li_3, li_4, li_5, li_6, li_7, li_8, li_9, li_10, li_11, li_12, li_13, li_14, li_15, li_16, li_17, li_18, li_19, li_20, li_21, li_22, li_23, li_24, li_25, li_26, li_27, li_28, li_29, li_30, li_31, li_32, li_33, li_34, li_35, li_36, li_37, li_38, li_39, li_40, li_41, li_42, li_43, li_44, li_45, li_46, li_47, li_48, li_49, li_50, li_51, li_52, li_53, li_54, li_55, li_56, li_57, li_58, li_59, li_60, li_61, li_63, li_70, li_96, li_97, li_99, li_100, li_101, li_102, li_120, li_122, li_126, li_200, li_255, li_423, li_555, li_999, li_1000, li_1111, li_2968, li_9999, li_10631, li_12345, li_14092, li_21470, li_65536, li_99233, nz_eq, n1_eq, n1_lt, n1_gt, n1_le, n1_ge, n1_sub, n1_add, nm_add, nz_add, nz_add2, z1_ne, z1_lt, z1_le, nI_1, pk_sub, nI_ltI, nI_leI, nI_eq, ni_neg, ni_nneg, ni_pos0, ni_nle0, ni_m1, gI_eq, gI_ne, xI_sJ, xI_sR, xR_sI, xR_sJ, xJ_sI, xJ_sR, gJ_eq, gJ_ne, gR_eq, gR_ne, if_true, if_false, ite_true, ite_false, not_true_eq_false, not_false_eq_true, decide_true, and_self, true_and, and_true, false_and, and_false, or_true, true_or, or_false, false_or, reduceIte, ne_eq]), by omega, by omega, Vpp.num (by omega) (by omega), Mpt.atom (Or.inr (by omega)) (fun f => by rw [if_pos (by omega), Nat.add_sub_cancel_left]), Spt.atom (Or.inr (by omega)), fun _ _ _ => rfl, List.cons_ne_nil _ _, List.cons_ne_nil _ _, fun i hi => ?_, r2, (((Kp.refl mM).sI _ (by unfold WMl; omega)).sI _ (by unfold WMl; omega)).trans (r4.mono (fun a k q => by unfold WMl; omega))⟩
        · by_cases y : k = cb + g.length
          · subst y; simp (disch := omega) only [bnd_e, grd_t, bdI_e, bdV_e, bokA, bokB, ni_inb, ni_cl, nI_add, pk_mul, li_2, li_3, li_4, li_5, li_6, li_7, li_8, li_9, li_10, li_11, li_12, li_13, li_14, li_15, li_16, li_17, li_18, li_19, li_20, li_21, li_22, li_23, li_24, li_25, li_26, li_27, li_28, li_29, li_30, li_31, li_32, li_33, li_34, li_35, li_36, li_37, li_38, li_39, li_40, li_41, li_42, li_43, li_44, li_45, li_46, li_47, li_48, li_49, li_50, li_51, li_52, li_53, li_54, li_55, li_56, li_57, li_58, li_59, li_60, li_61, li_63, li_70, li_96, li_97, li_99, li_100, li_101, li_102, li_120, li_122, li_126, li_200, li_255, li_423, li_555, li_999, li_1000, li_1111, li_2968, li_9999, li_10631, li_12345, li_14092, li_21470, li_65536, li_99233, nz_eq, n1_eq, n1_lt, n1_gt, n1_le, n1_ge, n1_sub, n1_add, nm_add, nz_add, nz_add2, z1_ne, z1_lt, z1_le, nI_1, pk_sub, nI_ltI, nI_leI, nI_eq, ni_neg, ni_nneg, ni_pos0, ni_nle0, ni_m1, gI_eq, gI_ne, xI_sJ, xI_sR, xR_sI, xR_sJ, xJ_sI, xJ_sR, gJ_eq, gJ_ne, gR_eq, gR_ne, if_true, if_false, ite_true, ite_false, not_true_eq_false, not_false_eq_true, decide_true, and_self, true_and, and_true, false_and, and_false, or_true, true_or, or_false, false_or, reduceIte, ne_eq]
          · simp (disch := omega) only [y, bnd_e, grd_t, bdI_e, bdV_e, bokA, bokB, ni_inb, ni_cl, nI_add, pk_mul, li_2, li_3, li_4, li_5, li_6, li_7, li_8, li_9, li_10, li_11, li_12, li_13, li_14, li_15, li_16, li_17, li_18, li_19, li_20, li_21, li_22, li_23, li_24, li_25, li_26, li_27, li_28, li_29, li_30, li_31, li_32, li_33, li_34, li_35, li_36, li_37, li_38, li_39, li_40, li_41, li_42, li_43, li_44, li_45, li_46, li_47, li_48, li_49, li_50, li_51, li_52, li_53, li_54, li_55, li_56, li_57, li_58, li_59, li_60, li_61, li_63, li_70, li_96, li_97, li_99, li_100, li_101, li_102, li_120, li_122, li_126, li_200, li_255, li_423, li_555, li_999, li_1000, li_1111, li_2968, li_9999, li_10631, li_12345, li_14092, li_21470, li_65536, li_99233, nz_eq, n1_eq, n1_lt, n1_gt, n1_le, n1_ge, n1_sub, n1_add, nm_add, nz_add, nz_add2, z1_ne, z1_lt, z1_le, nI_1, pk_sub, nI_ltI, nI_leI, nI_eq, ni_neg, ni_nneg, ni_pos0, ni_nle0, ni_m1, gI_eq, gI_ne, xI_sJ, xI_sR, xR_sI, xR_sJ, xJ_sI, xJ_sR, gJ_eq, gJ_ne, gR_eq, gR_ne, if_true, if_false, ite_true, ite_false, not_true_eq_false, not_false_eq_true, decide_true, and_self, true_and, and_true, false_and, and_false, or_true, true_or, or_false, false_or, reduceIte, ne_eq]
        · have i0 : i = 0 := by
            have : i < 1 := hi
            omega
          subst i0
          show 1 ≤ 100 + tkv d ∧ 100 + tkv d ≤ 20000
          omega
      · obtain ⟨f1, f2, f3⟩ := fc_ct (T := T) ok a
        obtain ⟨nP, e1, r1, r2⟩ := cAtom (κe := κe) (κp := κp) hT hl hP hδ5 (Or.inl ⟨a, rfl⟩)
        obtain ⟨nM, e2, r3, r4⟩ := mAtom hT hl hM hδ5 (c := fcN l d) (Or.inl ⟨a, rfl⟩) ho1
        have okf : okF l (fcN l d - 1) := by
          have q : tkK d = 1 ∧ knw l (wid (tkR d)) = true := Decidable.byContradiction (fun q => a (by unfold fcN; rw [if_neg q]))
          have q2 := of_decide_eq_true q.2
          have fe : fcN l d = wid (tkR d) - 22 := by unfold fcN; rw [if_pos q]
          unfold okF
          rcases (by omega : l = 0 ∨ l = 1) with rfl | rfl
          · rw [if_pos rfl]; omega
          · rw [if_neg (by decide)]; omega
        refine ⟨nP, nM, _, [-1 - nI (fcN l d - 1)], [fcN l d], fun f => f (fcN l d - 1), 1, e1, fun N => by show rdL (N + 1) (nI δ) 1 mM = _; rw [rdL_s, e2], h.put hT k0 r1 r3 r4 (fun k => ?_) (by simp (disch := omega) only [bnd_e, grd_t, bdI_e, bdV_e, bokA, bokB, ni_inb, ni_cl, nI_add, pk_mul, li_2, li_3, li_4, li_5, li_6, li_7, li_8, li_9, li_10, li_11, li_12, li_13, li_14, li_15, li_16, li_17, li_18, li_19, li_20, li_21, li_22, li_23, li_24, li_25, li_26, li_27, li_28, li_29, li_30, li_31, li_32, li_33, li_34, li_35, li_36, li_37, li_38, li_39, li_40, li_41, li_42, li_43, li_44, li_45, li_46, li_47, li_48, li_49, li_50, li_51, li_52, li_53, li_54, li_55, li_56, li_57, li_58, li_59, li_60, li_61, li_63, li_70, li_96, li_97, li_99, li_100, li_101, li_102, li_120, li_122, li_126, li_200, li_255, li_423, li_555, li_999, li_1000, li_1111, li_2968, li_9999, li_10631, li_12345, li_14092, li_21470, li_65536, li_99233, nz_eq, n1_eq, n1_lt, n1_gt, n1_le, n1_ge, n1_sub, n1_add, nm_add, nz_add, nz_add2, z1_ne, z1_lt, z1_le, nI_1, pk_sub, nI_ltI, nI_leI, nI_eq, ni_neg, ni_nneg, ni_pos0, ni_nle0, ni_m1, gI_eq, gI_ne, xI_sJ, xI_sR, xR_sI, xR_sJ, xJ_sI, xJ_sR, gJ_eq, gJ_ne, gR_eq, gR_ne, if_true, if_false, ite_true, ite_false, not_true_eq_false, not_false_eq_true, decide_true, and_self, true_and, and_true, false_and, and_false, or_true, true_or, or_false, false_or, reduceIte, ne_eq]) (by simp (disch := omega) only [bnd_e, grd_t, bdI_e, bdV_e, bokA, bokB, ni_inb, ni_cl, nI_add, pk_mul, li_2, li_3, li_4, li_5, li_6, li_7, li_8, li_9, li_10, li_11, li_12, li_13, li_14, li_15, li_16, li_17, li_18, li_19, li_20, li_21, li_22, li_23, li_24, li_25, li_26, li_27, li_28, li_29, li_30, li_31, li_32, li_33, li_34, li_35, li_36, li_37, li_38, li_39, li_40, li_41, li_42, li_43, li_44, li_45, li_46, li_47, li_48, li_49, li_50, li_51, li_52, li_53, li_54, li_55, li_56, li_57, li_58, li_59, li_60, li_61, li_63, li_70, li_96, li_97, li_99, li_100, li_101, li_102, li_120, li_122, li_126, li_200, li_255, li_423, li_555, li_999, li_1000, li_1111, li_2968, li_9999, li_10631, li_12345, li_14092, li_21470, li_65536, li_99233, nz_eq, n1_eq, n1_lt, n1_gt, n1_le, n1_ge, n1_sub, n1_add, nm_add, nz_add, nz_add2, z1_ne, z1_lt, z1_le, nI_1, pk_sub, nI_ltI, nI_leI, nI_eq, ni_neg, ni_nneg, ni_pos0, ni_nle0, ni_m1, gI_eq, gI_ne, xI_sJ, xI_sR, xR_sI, xR_sJ, xJ_sI, xJ_sR, gJ_eq, gJ_ne, gR_eq, gR_ne, if_true, if_false, ite_true, ite_false, not_true_eq_false, not_false_eq_true, decide_true, and_self, true_and, and_true, false_and, and_false, or_true, true_or, or_false, false_or, reduceIte, ne_eq]), by omega, by omega, Vpp.fct (by omega) (by omega), Mpt.atom (Or.inl (by omega)) (fun f => by rw [if_neg (by omega), if_pos (by omega)]; rfl), Spt.atom (Or.inl (by omega)), fun f g hfg => hfg _ okf, List.cons_ne_nil _ _, List.cons_ne_nil _ _, fun i hi => ?_, r2, (((Kp.refl mM).sI _ (by unfold WMl; omega)).sI _ (by unfold WMl; omega)).trans (r4.mono (fun a k q => by unfold WMl; omega))⟩
        · by_cases y : k = cb + g.length
          · subst y; simp (disch := omega) only [bnd_e, grd_t, bdI_e, bdV_e, bokA, bokB, ni_inb, ni_cl, nI_add, pk_mul, li_2, li_3, li_4, li_5, li_6, li_7, li_8, li_9, li_10, li_11, li_12, li_13, li_14, li_15, li_16, li_17, li_18, li_19, li_20, li_21, li_22, li_23, li_24, li_25, li_26, li_27, li_28, li_29, li_30, li_31, li_32, li_33, li_34, li_35, li_36, li_37, li_38, li_39, li_40, li_41, li_42, li_43, li_44, li_45, li_46, li_47, li_48, li_49, li_50, li_51, li_52, li_53, li_54, li_55, li_56, li_57, li_58, li_59, li_60, li_61, li_63, li_70, li_96, li_97, li_99, li_100, li_101, li_102, li_120, li_122, li_126, li_200, li_255, li_423, li_555, li_999, li_1000, li_1111, li_2968, li_9999, li_10631, li_12345, li_14092, li_21470, li_65536, li_99233, nz_eq, n1_eq, n1_lt, n1_gt, n1_le, n1_ge, n1_sub, n1_add, nm_add, nz_add, nz_add2, z1_ne, z1_lt, z1_le, nI_1, pk_sub, nI_ltI, nI_leI, nI_eq, ni_neg, ni_nneg, ni_pos0, ni_nle0, ni_m1, gI_eq, gI_ne, xI_sJ, xI_sR, xR_sI, xR_sJ, xJ_sI, xJ_sR, gJ_eq, gJ_ne, gR_eq, gR_ne, if_true, if_false, ite_true, ite_false, not_true_eq_false, not_false_eq_true, decide_true, and_self, true_and, and_true, false_and, and_false, or_true, true_or, or_false, false_or, reduceIte, ne_eq]
          · simp (disch := omega) only [y, bnd_e, grd_t, bdI_e, bdV_e, bokA, bokB, ni_inb, ni_cl, nI_add, pk_mul, li_2, li_3, li_4, li_5, li_6, li_7, li_8, li_9, li_10, li_11, li_12, li_13, li_14, li_15, li_16, li_17, li_18, li_19, li_20, li_21, li_22, li_23, li_24, li_25, li_26, li_27, li_28, li_29, li_30, li_31, li_32, li_33, li_34, li_35, li_36, li_37, li_38, li_39, li_40, li_41, li_42, li_43, li_44, li_45, li_46, li_47, li_48, li_49, li_50, li_51, li_52, li_53, li_54, li_55, li_56, li_57, li_58, li_59, li_60, li_61, li_63, li_70, li_96, li_97, li_99, li_100, li_101, li_102, li_120, li_122, li_126, li_200, li_255, li_423, li_555, li_999, li_1000, li_1111, li_2968, li_9999, li_10631, li_12345, li_14092, li_21470, li_65536, li_99233, nz_eq, n1_eq, n1_lt, n1_gt, n1_le, n1_ge, n1_sub, n1_add, nm_add, nz_add, nz_add2, z1_ne, z1_lt, z1_le, nI_1, pk_sub, nI_ltI, nI_leI, nI_eq, ni_neg, ni_nneg, ni_pos0, ni_nle0, ni_m1, gI_eq, gI_ne, xI_sJ, xI_sR, xR_sI, xR_sJ, xJ_sI, xJ_sR, gJ_eq, gJ_ne, gR_eq, gR_ne, if_true, if_false, ite_true, ite_false, not_true_eq_false, not_false_eq_true, decide_true, and_self, true_and, and_true, false_and, and_false, or_true, true_or, or_false, false_or, reduceIte, ne_eq]
        · have i0 : i = 0 := by
            have : i < 1 := hi
            omega
          subst i0
          show 1 ≤ fcN l d ∧ fcN l d ≤ 20000
          omega
  · refine Or.inl (bad 1 (by omega) (cNo1 hl hP ?_ ?_ ?_ ?_) (fun k => mNo1 hT hl hM (by omega) ?_ ?_ ?_ ?_))
    · exact Decidable.byContradiction (fun q => s0 (Or.inl q))
    · exact Bool.eq_false_iff.mpr (fun q => s0 (Or.inr (Or.inl q)))
    · exact Bool.eq_false_iff.mpr (fun q => s0 (Or.inr (Or.inr (Or.inl q))))
    · exact fun q => s0 (Or.inr (Or.inr (Or.inr q)))
    · exact Decidable.byContradiction (fun q => s0 (Or.inl q))
    · exact Bool.eq_false_iff.mpr (fun q => s0 (Or.inr (Or.inl q)))
    · exact Bool.eq_false_iff.mpr (fun q => s0 (Or.inr (Or.inr (Or.inl q))))
    · exact fun q => s0 (Or.inr (Or.inr (Or.inr q)))
