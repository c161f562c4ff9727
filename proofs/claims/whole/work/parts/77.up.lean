/-! 13: day -/
noncomputable def nxS (E : Ev) (wr : Nat → Nat) (S : Nat → Int32) (i : Nat) : Int32 := if i = 0 then S 0 + 1 else if 5 ≤ i then nI (dwr (dyD E wr) (i - 5)) else S i
theorem nxS_w (E : Ev) (wr : Nat → Nat) (S : Nat → Int32) (k : Nat) : nxS E wr S (5 + k) = nI (dwr (dyD E wr) k) := by
  unfold nxS
  rw [if_neg (by omega), if_pos (by omega), Nat.add_sub_cancel_left]
theorem nxS_m (E : Ev) (wr : Nat → Nat) (S : Nat → Int32) (i : Nat) (h : 1 ≤ i) (h5 : i < 5) : nxS E wr S i = S i := by
  unfold nxS
  rw [if_neg (by omega), if_neg (by omega)]
theorem nxS_ok {E : Ev} {wr : Nat → Nat} {S : Nat → Int32} (hE : EvOK E) (hw : ∀ k, k < 12 → wr k ≤ 9) (h : RowOK S) : RowOK (nxS E wr S) := by
  obtain ⟨h1, h2, h3, h4⟩ := h
  refine ⟨?_, ?_, ?_, fun k hk => ⟨_, dwr_ok hE hw k hk, nxS_w E wr S k⟩⟩
  · rw [nxS_m _ _ _ 1 (by decide) (by decide)]; exact h1
  · rw [nxS_m _ _ _ 2 (by decide) (by decide)]; exact h2
  · rw [nxS_m _ _ _ 3 (by decide) (by decide)]; exact h3
theorem st_day : St_day Rel := by
  intro mP mM ⟨C, st, S, hR0⟩
  refine of_key ?_
  unfold f_X11_day f_X12_day
  simp only [bnd_e, Sat_bdV]
  refine (keepUn hR0).mono ?_
  intro nP h
  obtain ⟨nM, hM, hR⟩ := h
  obtain ⟨jP, wP, e, f, t, wr, b⟩ := hR.bas
  obtain ⟨cx, cm, hC, lq, ⟨be, bf, bt, bw⟩, bs⟩ := id b
  have hst := hR.st
  have hE := mkE_ok b be.2 (by omega : f ≤ 60) bt 0
  obtain ⟨hS, s1, s2⟩ := hR.2.2.1
  simp (disch := omega) only [cx.2.1, Lst hst, s1.2.1.trans bs.1, Sat_bdV, bnd_e, grd_t, bdI_e, bdV_e, bokA, bokB, ni_inb, ni_cl, nI_add, pk_mul, li_2, li_3, li_4, li_5, li_6, li_7, li_8, li_9, li_10, li_11, li_12, li_13, li_14, li_15, li_16, li_17, li_18, li_19, li_20, li_21, li_22, li_23, li_24, li_25, li_26, li_27, li_28, li_29, li_30, li_31, li_32, li_33, li_34, li_35, li_36, li_37, li_38, li_39, li_40, li_41, li_42, li_43, li_44, li_45, li_46, li_47, li_48, li_49, li_50, li_51, li_52, li_53, li_54, li_55, li_56, li_57, li_58, li_59, li_60, li_61, li_63, li_70, li_96, li_97, li_99, li_100, li_101, li_102, li_120, li_122, li_126, li_200, li_255, li_423, li_555, li_999, li_1000, li_1111, li_2968, li_9999, li_10631, li_12345, li_14092, li_21470, li_65536, li_99233, nz_eq, n1_eq, n1_lt, n1_gt, n1_le, n1_ge, n1_sub, n1_add, nm_add, nz_add, nz_add2, z1_ne, z1_lt, z1_le, nI_1, pk_sub, nI_ltI, nI_leI, nI_eq, ni_neg, ni_nneg, ni_pos0, ni_nle0, ni_m1, gI_eq, gI_ne, xI_sJ, xI_sR, xR_sI, xR_sJ, xJ_sI, xJ_sR, gJ_eq, gJ_ne, gR_eq, gR_ne, if_true, if_false, ite_true, ite_false, not_true_eq_false, not_false_eq_true, decide_true, and_self, true_and, and_true, false_and, and_false, or_true, true_or, or_false, false_or, reduceIte, ne_eq]
  refine (prepT (E := mkE C e f t 0 jP wP) hE cx (fun _ _ => rfl)).mono ?_
  intro n2 ⟨b1, b2, b3, b4⟩
  have s1' : RowP 64 S n2 := s1.keep (fun k => b2 _ _ (by unfold WPr; omega)) (fun k => b2 _ _ (by unfold WPr; omega))
  refine (passT (E := mkE C e f t 0 jP wP) hE (Or.inl rfl) (cx.keep hC b4) b1 (s1'.rw bs) bw).mono ?_
  intro n3 ⟨c1, c2, c3, c4⟩
  refine (Sat_some _ _).mpr ⟨nM, hM, ?_⟩
  simp only [Sat_bdI]
  refine (passesT (E := mkE C e f t 0 jP wP) (wr := wr) hE cm (s2.rw bs) bw (fun _ _ => rfl) hR.2.2.2.2.2.2.2.2.2).mono ?_
  intro q ⟨d1, d2, d3, d4, d5⟩
  have e1 : gI n3 64 1 = S 0 := (c4.1 _ _ (by unfold WP; omega)).trans s1'.1
  refine (Sat_some _ _).mpr ⟨?_, C, st, nxS (mkE C e f t 0 jP wP) wr S, ?_⟩
  · simp (disch := omega) only [bnd_e, grd_t, bdI_e, bdV_e, bokA, bokB, ni_inb, ni_cl, nI_add, pk_mul, li_2, li_3, li_4, li_5, li_6, li_7, li_8, li_9, li_10, li_11, li_12, li_13, li_14, li_15, li_16, li_17, li_18, li_19, li_20, li_21, li_22, li_23, li_24, li_25, li_26, li_27, li_28, li_29, li_30, li_31, li_32, li_33, li_34, li_35, li_36, li_37, li_38, li_39, li_40, li_41, li_42, li_43, li_44, li_45, li_46, li_47, li_48, li_49, li_50, li_51, li_52, li_53, li_54, li_55, li_56, li_57, li_58, li_59, li_60, li_61, li_63, li_70, li_96, li_97, li_99, li_100, li_101, li_102, li_120, li_122, li_126, li_200, li_255, li_423, li_555, li_999, li_1000, li_1111, li_2968, li_9999, li_10631, li_12345, li_14092, li_21470, li_65536, li_99233, nz_eq, n1_eq, n1_lt, n1_gt, n1_le, n1_ge, n1_sub, n1_add, nm_add, nz_add, nz_add2, z1_ne, z1_lt, z1_le, nI_1, pk_sub, nI_ltI, nI_leI, nI_eq, ni_neg, ni_nneg, ni_pos0, ni_nle0, ni_m1, gI_eq, gI_ne, xI_sJ, xI_sR, xR_sI, xR_sJ, xJ_sI, xJ_sR, gJ_eq, gJ_ne, gR_eq, gR_ne, if_true, if_false, ite_true, ite_false, not_true_eq_false, not_false_eq_true, decide_true, and_self, true_and, and_true, false_and, and_false, or_true, true_or, or_false, false_or, reduceIte, ne_eq]
    exact c1.2.2.2.2.2.1.trans d1.symm
  · have kP : ∀ a k, ¬ ((a = 64 ∧ k = 1) ∨ a = 65 ∨ WT st a k) → gI (sI n3 64 1 (gI n3 64 1 + 1)) a k = gI nP a k := by
      intro a k h
      rw [gI_ne _ _ _ _ _ _ (by omega), c4.1 _ _ (fun r => h (by unfold WP at r; unfold WT; omega))]
      exact b4.1 a k (fun r => h (Or.inr (Or.inr r)))
    have kM : ∀ a k, ¬ WMp a k → gI q.2 a k = gI nM a k := fun a k h => d5.1 a k h
    refine RelB.st (RelC.but (W := fun a k => (a = 64 ∧ k = 1) ∨ a = 65 ∨ WT st a k) (X := WMp) hR 1 kP (fun k => ?_) kM (fun _ a k h q => by unfold vP0 at h; unfold WT at q; omega) (fun h => absurd rfl h) (fun _ a k h q => by unfold vP2 at h; unfold WT at q; omega) (fun _ a k h q => by unfold vP3 at h; unfold WT at q; omega) (fun _ a k h q => by unfold vP4 at h; unfold WT at q; omega) (fun _ a k h q => by unfold vP5 at h; unfold WT at q; omega) (fun _ a k h q => by unfold vP6 at h; unfold WT at q; omega) (fun a k h q => by unfold vP7 at h; unfold WT at q; omega) (fun _ a k h q => by unfold vM0 at h; unfold WMp WMd at q; omega) (fun h => absurd rfl h) (fun _ a k h q => by unfold vM2 at h; unfold WMp WMd at q; omega) (fun _ a k h q => by unfold vM3 at h; unfold WMp WMd at q; omega) (fun _ a k h q => by unfold vM4 at h; unfold WMp WMd at q; omega) (fun _ a k h q => by unfold vM5 at h; unfold WMp WMd at q; omega) (fun _ a k h q => by unfold vM6 at h; unfold WMp WMd at q; omega) (fun a k h q => by unfold vM7 at h; unfold WMp WMd at q; omega)) ⟨nxS_ok hE bw hS, ⟨?_, ?_, ?_, ?_, ?_, fun k hk => ?_⟩, fun i hi => ?_⟩
    · exact (c4.2.2 0 k).trans (b4.2 k)
    · rw [gI_eq _ _ _ _ _ _ rfl rfl, e1]
      rfl
    · rw [gI_ne _ _ _ _ _ _ (by omega), nxS_m _ _ _ 1 (by decide) (by decide)]
      exact (c4.1 _ _ (by unfold WP; omega)).trans s1'.2.1
    · rw [gI_ne _ _ _ _ _ _ (by omega), nxS_m _ _ _ 2 (by decide) (by decide)]
      exact (c4.1 _ _ (by unfold WP; omega)).trans s1'.2.2.1
    · rw [gI_ne _ _ _ _ _ _ (by omega), nxS_m _ _ _ 3 (by decide) (by decide)]
      exact (c4.1 _ _ (by unfold WP; omega)).trans s1'.2.2.2.1
    · rw [gI_ne _ _ _ _ _ _ (by omega), nxS_m _ _ _ 4 (by decide) (by decide)]
      exact (c4.1 _ _ (by unfold WP; omega)).trans s1'.2.2.2.2.1
    · rw [gI_ne _ _ _ _ _ _ (by omega), nxS_w]
      exact c3.2.2 k hk
    · rw [Nat.zero_add]
      by_cases z : i = 0
      · subst z
        rw [d4, s2.at0 (by decide)]
        rfl
      · by_cases y : 5 ≤ i
        · obtain ⟨k, rfl⟩ : ∃ k, i = 5 + k := ⟨i - 5, by omega⟩
          rw [nxS_w]
          exact d3.2.2.2 k (by omega)
        · rw [nxS_m _ _ _ i (by omega) (by omega)]
          exact (d5.1 _ _ (by unfold WMp WMd; omega)).trans (s2.at0 hi)
/-! 23: without -/
theorem of_keyT {x : Option (Option Int32 × Mm)} {y : Option (Int32 × Mm)} {v : Int32} (key : Sat x (fun q => Sat y (fun q' => q.1 = some q'.1 ∧ gI q'.2 0 0 = 0 ∧ Rel q.2 q'.2))) : ∃ (x' : Option Int32) (mP2 : Mm) (r : Int32) (mM2 : Mm), x = some (x', mP2) ∧ y = some (r, mM2) ∧ (x' = none → gI mM2 0 0 = 1) ∧ (∀ v, x' = some v → gI mM2 0 0 = 0 ∧ r = v) ∧ Rel mP2 mM2 := by
  obtain ⟨q, e, q', e', h1, h2, h3⟩ := key
  refine ⟨q.1, q.2, q'.1, q'.2, e, e', fun h => ?_, fun v h => ⟨h2, ?_⟩, h3⟩
  · rw [h1] at h; cases h
  · rw [h1] at h
    exact Option.some.inj h
theorem triesWM {C : Nat → Nat → Nat} {jP wP : List Int32} {st e f t : Nat} {wr : Nat → Nat} {S : Nat → Int32} {mP mM : Mm} (b : Bas C jP wP st e f t wr S mP mM) {m : Mm} (x : Int32) (cm : CxM C jP wP m) (rm : RowM 35 0 S m) (h62 : gI m 0 62 = 0) : Sat (f_X12_triesWithout x m) (fun q => q.1 = djy (dyD (mkE C e f t x jP wP) wr) ∧ ∀ a k, ¬ ((WMd a k ∧ a ≠ 35) ∨ a = 41 ∨ a = 37) → gI q.2 a k = gI m a k) := by
  unfold f_X12_triesWithout
  rw [bnd_e, Sat_bdI]
  refine (triesM b (m := sI m 0 62 x) (x := x) (cm.keep b.2.2.1 (fun a k r => gI_ne _ _ _ _ _ _ (by unfold vM0 at r; omega))) (rm.keep (fun i hi => gI_ne _ _ _ _ _ _ (by omega))) (gI_eq _ _ _ _ _ _ rfl rfl)).mono ?_
  intro q ⟨a1, a2, a3⟩
  rw [bnd_e]
  refine (Sat_some _ _).mpr ⟨a1, fun a k h => ?_⟩
  by_cases z : a = 0 ∧ k = 62
  · rw [gI_eq _ _ _ _ _ _ z.1 z.2, z.1, z.2]
    exact h62.symm
  · rw [gI_ne _ _ _ _ _ _ (by omega), a3 a k h]
    exact gI_ne _ _ _ _ _ _ (by omega)
theorem st_without : St_without Rel := by
  intro a mP mM ⟨C, st, S, hR⟩
  have hC := hR.ok
  have hp1 : gI mP st 7 = nI (C 0 1) := hR.cP.2.1
  have hm1 : gI mM 2 1 = nI (C 0 1) := hR.cM.1 1 (by decide)
  have c1 := hC.2.1
  have no : (a < 0 ∨ nI (C 0 1) ≤ a) → ∃ (x : Option Int32) (mP2 : Mm) (r : Int32) (mM2 : Mm), f_X11_without a mP = some (x, mP2) ∧ f_X12_without a mM = some (r, mM2) ∧ (x = none → gI mM2 0 0 = 1) ∧ (∀ v, x = some v → gI mM2 0 0 = 0 ∧ r = v) ∧ Rel mP2 mM2 := by
    intro h
    refine ⟨none, mP, 0, sI mM 0 0 1, ?_, ?_, fun _ => gI_eq _ _ _ _ _ _ rfl rfl, fun v h => (by cases h), ⟨C, st, S, hR.keep (SaP.refl _ _) (SaM.thr _ _)⟩⟩
    · unfold f_X11_without
      simp (disch := omega) only [isPasP_no hR.st hR.gr hp1 h, bnd_e, grd_t, bdI_e, bdV_e, bokA, bokB, ni_inb, ni_cl, nI_add, pk_mul, li_2, li_3, li_4, li_5, li_6, li_7, li_8, li_9, li_10, li_11, li_12, li_13, li_14, li_15, li_16, li_17, li_18, li_19, li_20, li_21, li_22, li_23, li_24, li_25, li_26, li_27, li_28, li_29, li_30, li_31, li_32, li_33, li_34, li_35, li_36, li_37, li_38, li_39, li_40, li_41, li_42, li_43, li_44, li_45, li_46, li_47, li_48, li_49, li_50, li_51, li_52, li_53, li_54, li_55, li_56, li_57, li_58, li_59, li_60, li_61, li_63, li_70, li_96, li_97, li_99, li_100, li_101, li_102, li_120, li_122, li_126, li_200, li_255, li_423, li_555, li_999, li_1000, li_1111, li_2968, li_9999, li_10631, li_12345, li_14092, li_21470, li_65536, li_99233, nz_eq, n1_eq, n1_lt, n1_gt, n1_le, n1_ge, n1_sub, n1_add, nm_add, nz_add, nz_add2, z1_ne, z1_lt, z1_le, nI_1, pk_sub, nI_ltI, nI_leI, nI_eq, ni_neg, ni_nneg, ni_pos0, ni_nle0, ni_m1, gI_eq, gI_ne, xI_sJ, xI_sR, xR_sI, xR_sJ, xJ_sI, xJ_sR, gJ_eq, gJ_ne, gR_eq, gR_ne, if_true, if_false, ite_true, ite_false, not_true_eq_false, not_false_eq_true, decide_true, and_self, true_and, and_true, false_and, and_false, or_true, true_or, or_false, false_or, reduceIte, ne_eq]
    · unfold f_X12_without f_X12_without_J14
      simp (disch := omega) only [isPasM_no hm1 h, bnd_e, grd_t, bdI_e, bdV_e, bokA, bokB, ni_inb, ni_cl, nI_add, pk_mul, li_2, li_3, li_4, li_5, li_6, li_7, li_8, li_9, li_10, li_11, li_12, li_13, li_14, li_15, li_16, li_17, li_18, li_19, li_20, li_21, li_22, li_23, li_24, li_25, li_26, li_27, li_28, li_29, li_30, li_31, li_32, li_33, li_34, li_35, li_36, li_37, li_38, li_39, li_40, li_41, li_42, li_43, li_44, li_45, li_46, li_47, li_48, li_49, li_50, li_51, li_52, li_53, li_54, li_55, li_56, li_57, li_58, li_59, li_60, li_61, li_63, li_70, li_96, li_97, li_99, li_100, li_101, li_102, li_120, li_122, li_126, li_200, li_255, li_423, li_555, li_999, li_1000, li_1111, li_2968, li_9999, li_10631, li_12345, li_14092, li_21470, li_65536, li_99233, nz_eq, n1_eq, n1_lt, n1_gt, n1_le, n1_ge, n1_sub, n1_add, nm_add, nz_add, nz_add2, z1_ne, z1_lt, z1_le, nI_1, pk_sub, nI_ltI, nI_leI, nI_eq, ni_neg, ni_nneg, ni_pos0, ni_nle0, ni_m1, gI_eq, gI_ne, xI_sJ, xI_sR, xR_sI, xR_sJ, xJ_sI, xJ_sR, gJ_eq, gJ_ne, gR_eq, gR_ne, if_true, if_false, ite_true, ite_false, not_true_eq_false, not_false_eq_true, decide_true, and_self, true_and, and_true, false_and, and_false, or_true, true_or, or_false, false_or, reduceIte, ne_eq]
  rcases pk_ix a (n := C 0 1) (by omega) with h | h | ⟨j, hj, rfl⟩
  · exact no (Or.inl h)
  · exact no (Or.inr h)
  · refine of_keyT (v := 0) ?_
    obtain ⟨jP, wP, e, f, t, wr, b⟩ := hR.bas
    have hK : RelC C st S mP (sI mM 0 0 0) := hR.keep (SaP.refl _ _) (SaM.thr _ _)
    have z0 : ¬ (0 : Int32) = 1 := by decide
    unfold f_X11_without f_X12_without f_X12_without_J14
    simp (disch := omega) only [isPasP_yes hR.st hR.gr hp1 c1 hj, isPasM_yes hm1 c1 hj, z0, Sat_bdI, bnd_e, grd_t, bdI_e, bdV_e, bokA, bokB, ni_inb, ni_cl, nI_add, pk_mul, li_2, li_3, li_4, li_5, li_6, li_7, li_8, li_9, li_10, li_11, li_12, li_13, li_14, li_15, li_16, li_17, li_18, li_19, li_20, li_21, li_22, li_23, li_24, li_25, li_26, li_27, li_28, li_29, li_30, li_31, li_32, li_33, li_34, li_35, li_36, li_37, li_38, li_39, li_40, li_41, li_42, li_43, li_44, li_45, li_46, li_47, li_48, li_49, li_50, li_51, li_52, li_53, li_54, li_55, li_56, li_57, li_58, li_59, li_60, li_61, li_63, li_70, li_96, li_97, li_99, li_100, li_101, li_102, li_120, li_122, li_126, li_200, li_255, li_423, li_555, li_999, li_1000, li_1111, li_2968, li_9999, li_10631, li_12345, li_14092, li_21470, li_65536, li_99233, nz_eq, n1_eq, n1_lt, n1_gt, n1_le, n1_ge, n1_sub, n1_add, nm_add, nz_add, nz_add2, z1_ne, z1_lt, z1_le, nI_1, pk_sub, nI_ltI, nI_leI, nI_eq, ni_neg, ni_nneg, ni_pos0, ni_nle0, ni_m1, gI_eq, gI_ne, xI_sJ, xI_sR, xR_sI, xR_sJ, xJ_sI, xJ_sR, gJ_eq, gJ_ne, gR_eq, gR_ne, if_true, if_false, ite_true, ite_false, not_true_eq_false, not_false_eq_true, decide_true, and_self, true_and, and_true, false_and, and_false, or_true, true_or, or_false, false_or, reduceIte, ne_eq]
    refine (tryP b hR.2.2.1.2.1 0).mono ?_
    intro q ⟨a1, a2, a3⟩
    have b' : Bas C jP wP st e f t wr S q.2 mM := ⟨b.1.keep hC a3, b.2⟩
    have rp' : RowP 64 S q.2 := hR.2.2.1.2.1.keep (fun k => a3.1 _ _ (by unfold WT; have := hR.st; omega)) (fun k => a3.1 _ _ (by unfold WT; have := hR.st; omega))
    refine (tryP b' rp' _).mono ?_
    intro r ⟨r1, r2, r3⟩
    refine (Sat_some _ _).mpr ?_
    have cm : CxM C jP wP (sI mM 0 0 0) := b.2.1.keep hC (fun a k r => gI_ne _ _ _ _ _ _ (by unfold vM0 at r; omega))
    refine (triesWM b _ cm hK.2.2.1.2.2 hK.2.2.2.2.2.2.2.2.2).mono ?_
    intro u ⟨u1, u2⟩
    have cm2 : CxM C jP wP u.2 := cm.keep hC (fun a k r => u2 _ _ (by unfold vM0 at r; unfold WMd; omega))
    have rm2 : RowM 35 0 S u.2 := hK.2.2.1.2.2.keep (fun i hi => u2 _ _ (by unfold WMd; omega))
    have h62 : gI u.2 0 62 = 0 := (u2 _ _ (by unfold WMd; omega)).trans hK.2.2.2.2.2.2.2.2.2
    refine (triesM b (x := 0) cm2 rm2 h62).mono ?_
    intro w ⟨w1, w2, w3⟩
    refine (Sat_some _ _).mpr ⟨?_, ?_, C, st, S, hK.keep ((a3.trans r3).sa hR.st) (fun a k v => (w3 a k (WMd_vm v)).trans (u2 a k (WMd_vm v)))⟩
    · rw [a1, r1, u1, w1]
    · rw [w3 _ _ (by unfold WMd; omega), u2 _ _ (by unfold WMd; omega)]
      exact gI_eq _ _ _ _ _ _ rfl rfl
