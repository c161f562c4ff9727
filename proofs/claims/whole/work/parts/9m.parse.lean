/-! a part that opens -/
def PartT (T : Nat → Nat) (n l b δ : Nat) (κ : Mm → Option (Int32 × Mm)) : Prop := ∀ cb d c g mP mM, PJ T n l b cb d c g mP mM → Bad n b (cb + g.length) δ (δ + 1) d mP mM (κ mP) (fun N => rdL N (nI δ) 1 mM) ∨ GdP T n l b cb δ d c g mP mM (κ mP) (fun N => rdL N (nI δ) 1 mM)
theorem PartT.op {T : Nat → Nat} {n l b δ : Nat} {κ : Mm → Option (Int32 × Mm)} (h : PartT T n l b δ κ) : OpT T n l b δ (δ + 1) (M4 δ) (1 + 4 * (5 - δ)) (fun _ _ => True) κ := by
  intro cb d c g mP mM hJ ho _
  rcases h cb d c g mP mM hJ with bad | ⟨nP, nM, d', cP, gM, v, t, e1, e2, e3, e4, e5, e6, e7, e8⟩
  · exact Or.inl bad
  · refine Or.inr ⟨nP, nM, d', cP, gM, v, t, e1, fun N => ?_, e3, e4, ⟨e5, e6⟩, trivial, e7, e8⟩
    rw [e2 N, popN_o (O := fun i => gI mM 16 i) ho]
theorem popN_c {O P : Nat → Int32} : ∀ δ, (∀ i, i ≤ δ → P i = O i) → popN P δ = popN O δ
  | 0, _ => rfl
  | δ + 1, h => by
    show (if P (δ + 1) = 1 then popN P δ else δ + 1) = if O (δ + 1) = 1 then popN O δ else δ + 1
    rw [h (δ + 1) (Nat.le_refl _), popN_c δ (fun i hi => h i (Nat.le_succ_of_le hi))]
theorem popN_1 {O : Nat → Int32} {δ : Nat} (h : O (δ + 1) = 1) : popN O (δ + 1) = popN O δ := if_pos h
theorem partNot {T : Nat → Nat} {n l b δ cb : Nat} {d : Tk} {c : List Int32} {g : List Nat} {mP mM : Mm} {κe : Nat → Int32 → Int32 → Mm → Option (Int32 × Mm)} {κp : Nat → Int32 → Mm → Option (Int32 × Mm)} (hT : TpOK T n) (hl : l < 2) (hδ : δ < 5) (hp : PartT T n l b (δ + 1) (κp b (nI (δ + 1)))) (hJ : PJ T n l b cb d c g mP mM) (w : isW d 20 = true) : Bad n b (cb + g.length) δ (δ + 1) d mP mM (f_X5_part_r κe κp b (nI δ) mP) (fun N => rdL N (nI δ) 1 mM) ∨ GdP T n l b cb δ d c g mP mM (f_X5_part_r κe κp b (nI δ) mP) (fun N => rdL N (nI δ) 1 mM) := by
  obtain ⟨hP, hM, hc, hb, h1⟩ := id hJ
  obtain ⟨ok, rP, lw, cl, fl, l1, b4⟩ := id hP
  have n0 := hT.1
  have q := of_decide_eq_true w
  have k0 : tkK d ≠ 0 := by omega
  have kb := ok.2.2.2.2.1 k0
  have tok := tk_ok (T := T) (n := n) ok.2.1
  have tn := tok.1.1
  obtain ⟨m', em, r3, r4⟩ := mOpen hT hl hM hδ true w
  obtain ⟨m1, ea, r1, r2⟩ := adv_P hT ok rP
  have lw1 : LwP c b m1 := lw.keep (r2.1 _ _ (by omega)) (fun k => r2.1 _ _ (by omega))
  have lt1 : LwT T n l b (tk T n (tke d)) (c ++ []) m1 := by
    rw [List.append_nil]
    exact ⟨tok.1, r1, lw1, by omega, (r2.1 _ _ (by omega)).trans fl, l1, b4⟩
  have hj1 := hJ.put (x := 30) hT k0 lt1 r3 r4 (fun k => by
    by_cases y : k = cb + g.length
    · subst y; simp (disch := omega) only [bnd_e, grd_t, bdI_e, bdV_e, bokA, bokB, ni_inb, ni_cl, nI_add, pk_mul, li_2, li_3, li_4, li_5, li_6, li_7, li_8, li_9, li_10, li_11, li_12, li_13, li_14, li_15, li_16, li_17, li_18, li_19, li_20, li_21, li_22, li_23, li_24, li_25, li_26, li_27, li_28, li_29, li_30, li_31, li_32, li_33, li_34, li_35, li_36, li_37, li_38, li_39, li_40, li_41, li_42, li_43, li_44, li_45, li_46, li_47, li_48, li_49, li_50, li_51, li_52, li_53, li_54, li_55, li_56, li_57, li_58, li_59, li_60, li_61, li_63, li_70, li_96, li_97, li_99, li_100, li_101, li_102, li_120, li_122, li_126, li_200, li_255, li_423, li_555, li_999, li_1000, li_1111, li_2968, li_9999, li_10631, li_12345, li_14092, li_21470, li_65536, li_99233, nz_eq, n1_eq, n1_lt, n1_gt, n1_le, n1_ge, n1_sub, n1_add, nm_add, nz_add, nz_add2, z1_ne, z1_lt, z1_le, nI_1, pk_sub, nI_ltI, nI_leI, nI_eq, ni_neg, ni_nneg, ni_pos0, ni_nle0, ni_m1, gI_eq, gI_ne, xI_sJ, xI_sR, xR_sI, xR_sJ, xJ_sI, xJ_sR, gJ_eq, gJ_ne, gR_eq, gR_ne, if_true, if_false, ite_true, ite_false, not_true_eq_false, not_false_eq_true, decide_true, and_self, true_and, and_true, false_and, and_false, or_true, true_or, or_false, false_or, reduceIte, ne_eq]
    · simp (disch := omega) only [y, bnd_e, grd_t, bdI_e, bdV_e, bokA, bokB, ni_inb, ni_cl, nI_add, pk_mul, li_2, li_3, li_4, li_5, li_6, li_7, li_8, li_9, li_10, li_11, li_12, li_13, li_14, li_15, li_16, li_17, li_18, li_19, li_20, li_21, li_22, li_23, li_24, li_25, li_26, li_27, li_28, li_29, li_30, li_31, li_32, li_33, li_34, li_35, li_36, li_37, li_38, li_39, li_40, li_41, li_42, li_43, li_44, li_45, li_46, li_47, li_48, li_49, li_50, li_51, li_52, li_53, li_54, li_55, li_56, li_57, li_58, li_59, li_60, li_61, li_63, li_70, li_96, li_97, li_99, li_100, li_101, li_102, li_120, li_122, li_126, li_200, li_255, li_423, li_555, li_999, li_1000, li_1111, li_2968, li_9999, li_10631, li_12345, li_14092, li_21470, li_65536, li_99233, nz_eq, n1_eq, n1_lt, n1_gt, n1_le, n1_ge, n1_sub, n1_add, nm_add, nz_add, nz_add2, z1_ne, z1_lt, z1_le, nI_1, pk_sub, nI_ltI, nI_leI, nI_eq, ni_neg, ni_nneg, ni_pos0, ni_nle0, ni_m1, gI_eq, gI_ne, xI_sJ, xI_sR, xR_sI, xR_sJ, xJ_sI, xJ_sR, gJ_eq, gJ_ne, gR_eq, gR_ne, if_true, if_false, ite_true, ite_false, not_true_eq_false, not_false_eq_true, decide_true, and_self, true_and, and_true, false_and, and_false, or_true, true_or, or_false, false_or, reduceIte, ne_eq]) (by simp (disch := omega) only [bnd_e, grd_t, bdI_e, bdV_e, bokA, bokB, ni_inb, ni_cl, nI_add, pk_mul, li_2, li_3, li_4, li_5, li_6, li_7, li_8, li_9, li_10, li_11, li_12, li_13, li_14, li_15, li_16, li_17, li_18, li_19, li_20, li_21, li_22, li_23, li_24, li_25, li_26, li_27, li_28, li_29, li_30, li_31, li_32, li_33, li_34, li_35, li_36, li_37, li_38, li_39, li_40, li_41, li_42, li_43, li_44, li_45, li_46, li_47, li_48, li_49, li_50, li_51, li_52, li_53, li_54, li_55, li_56, li_57, li_58, li_59, li_60, li_61, li_63, li_70, li_96, li_97, li_99, li_100, li_101, li_102, li_120, li_122, li_126, li_200, li_255, li_423, li_555, li_999, li_1000, li_1111, li_2968, li_9999, li_10631, li_12345, li_14092, li_21470, li_65536, li_99233, nz_eq, n1_eq, n1_lt, n1_gt, n1_le, n1_ge, n1_sub, n1_add, nm_add, nz_add, nz_add2, z1_ne, z1_lt, z1_le, nI_1, pk_sub, nI_ltI, nI_leI, nI_eq, ni_neg, ni_nneg, ni_pos0, ni_nle0, ni_m1, gI_eq, gI_ne, xI_sJ, xI_sR, xR_sI, xR_sJ, xJ_sI, xJ_sR, gJ_eq, gJ_ne, gR_eq, gR_ne, if_true, if_false, ite_true, ite_false, not_true_eq_false, not_false_eq_true, decide_true, and_self, true_and, and_true, false_and, and_false, or_true, true_or, or_false, false_or, reduceIte, ne_eq]) (by simp (disch := omega) only [bnd_e, grd_t, bdI_e, bdV_e, bokA, bokB, ni_inb, ni_cl, nI_add, pk_mul, li_2, li_3, li_4, li_5, li_6, li_7, li_8, li_9, li_10, li_11, li_12, li_13, li_14, li_15, li_16, li_17, li_18, li_19, li_20, li_21, li_22, li_23, li_24, li_25, li_26, li_27, li_28, li_29, li_30, li_31, li_32, li_33, li_34, li_35, li_36, li_37, li_38, li_39, li_40, li_41, li_42, li_43, li_44, li_45, li_46, li_47, li_48, li_49, li_50, li_51, li_52, li_53, li_54, li_55, li_56, li_57, li_58, li_59, li_60, li_61, li_63, li_70, li_96, li_97, li_99, li_100, li_101, li_102, li_120, li_122, li_126, li_200, li_255, li_423, li_555, li_999, li_1000, li_1111, li_2968, li_9999, li_10631, li_12345, li_14092, li_21470, li_65536, li_99233, nz_eq, n1_eq, n1_lt, n1_gt, n1_le, n1_ge, n1_sub, n1_add, nm_add, nz_add, nz_add2, z1_ne, z1_lt, z1_le, nI_1, pk_sub, nI_ltI, nI_leI, nI_eq, ni_neg, ni_nneg, ni_pos0, ni_nle0, ni_m1, gI_eq, gI_ne, xI_sJ, xI_sR, xR_sI, xR_sJ, xJ_sI, xJ_sR, gJ_eq, gJ_ne, gR_eq, gR_ne, if_true, if_false, ite_true, ite_false, not_true_eq_false, not_false_eq_true, decide_true, and_self, true_and, and_true, false_and, and_false, or_true, true_or, or_false, false_or, reduceIte, ne_eq])
  rw [List.append_nil] at hj1
  have lg : (g ++ [30]).length = g.length + 1 := by rw [List.length_append]; rfl
  have kP1 : Kp (WLp b) mP m1 := r2.mono (fun a k q => by unfold WLp WRP; omega)
  have kM1 : Kp (WMl (cb + g.length) δ (δ + 1)) mM m' := ((((((Kp.refl mM).sI _ (by unfold WMl; omega)).sI _ (by unfold WMl; omega)).sI _ (by unfold WMl; omega)).sI _ (by unfold WMl; omega))).trans (r4.mono (fun a k q => by unfold WMl; omega))
  have a1 : ctk T d = 20 := (tk_w ok (by decide)).mpr w
  have n40 : ¬ (20 : Nat) = 40 := by decide
  have cls : f_X5_part_r κe κp b (nI δ) mP = bdI (κp b (nI (δ + 1)) m1) fun x m => bdV (f_X2_add b (-11) m) fun m13 => grd (bok x) (some (x, m13)) := by
    rw [to49 hl hP (Or.inr (Or.inl w))]
    unfold f_X5_part_J49
    simp (disch := omega) only [hδ, ea, a1, n40, bnd_e, grd_t, bdI_e, bdV_e, bokA, bokB, ni_inb, ni_cl, nI_add, pk_mul, li_2, li_3, li_4, li_5, li_6, li_7, li_8, li_9, li_10, li_11, li_12, li_13, li_14, li_15, li_16, li_17, li_18, li_19, li_20, li_21, li_22, li_23, li_24, li_25, li_26, li_27, li_28, li_29, li_30, li_31, li_32, li_33, li_34, li_35, li_36, li_37, li_38, li_39, li_40, li_41, li_42, li_43, li_44, li_45, li_46, li_47, li_48, li_49, li_50, li_51, li_52, li_53, li_54, li_55, li_56, li_57, li_58, li_59, li_60, li_61, li_63, li_70, li_96, li_97, li_99, li_100, li_101, li_102, li_120, li_122, li_126, li_200, li_255, li_423, li_555, li_999, li_1000, li_1111, li_2968, li_9999, li_10631, li_12345, li_14092, li_21470, li_65536, li_99233, nz_eq, n1_eq, n1_lt, n1_gt, n1_le, n1_ge, n1_sub, n1_add, nm_add, nz_add, nz_add2, z1_ne, z1_lt, z1_le, nI_1, pk_sub, nI_ltI, nI_leI, nI_eq, ni_neg, ni_nneg, ni_pos0, ni_nle0, ni_m1, gI_eq, gI_ne, xI_sJ, xI_sR, xR_sI, xR_sJ, xJ_sI, xJ_sR, gJ_eq, gJ_ne, gR_eq, gR_ne, if_true, if_false, ite_true, ite_false, not_true_eq_false, not_false_eq_true, decide_true, and_self, true_and, and_true, false_and, and_false, or_true, true_or, or_false, false_or, reduceIte, ne_eq]
  have stp : ∀ N, rdL (N + 1) (nI δ) 1 mM = rdL N (nI (δ + 1)) 1 m' := fun N => by rw [rdL_s, em]
  have o16 : ∀ i, i ≤ δ → gI m' 16 i = gI mM 16 i := fun i hi => kM1.1 _ _ (by unfold WMl; omega)
  have o16s : gI m' 16 (δ + 1) = 1 := by
    rw [r4.1 _ _ (by omega)]
    simp (disch := omega) only [bnd_e, grd_t, bdI_e, bdV_e, bokA, bokB, ni_inb, ni_cl, nI_add, pk_mul, li_2, li_3, li_4, li_5, li_6, li_7, li_8, li_9, li_10, li_11, li_12, li_13, li_14, li_15, li_16, li_17, li_18, li_19, li_20, li_21, li_22, li_23, li_24, li_25, li_26, li_27, li_28, li_29, li_30, li_31, li_32, li_33, li_34, li_35, li_36, li_37, li_38, li_39, li_40, li_41, li_42, li_43, li_44, li_45, li_46, li_47, li_48, li_49, li_50, li_51, li_52, li_53, li_54, li_55, li_56, li_57, li_58, li_59, li_60, li_61, li_63, li_70, li_96, li_97, li_99, li_100, li_101, li_102, li_120, li_122, li_126, li_200, li_255, li_423, li_555, li_999, li_1000, li_1111, li_2968, li_9999, li_10631, li_12345, li_14092, li_21470, li_65536, li_99233, nz_eq, n1_eq, n1_lt, n1_gt, n1_le, n1_ge, n1_sub, n1_add, nm_add, nz_add, nz_add2, z1_ne, z1_lt, z1_le, nI_1, pk_sub, nI_ltI, nI_leI, nI_eq, ni_neg, ni_nneg, ni_pos0, ni_nle0, ni_m1, gI_eq, gI_ne, xI_sJ, xI_sR, xR_sI, xR_sJ, xJ_sI, xJ_sR, gJ_eq, gJ_ne, gR_eq, gR_ne, if_true, if_false, ite_true, ite_false, not_true_eq_false, not_false_eq_true, decide_true, and_self, true_and, and_true, false_and, and_false, or_true, true_or, or_false, false_or, reduceIte, ne_eq]
  rw [cls]
  rcases hp cb _ c (g ++ [30]) m1 m' hj1 with bad | gd
  · obtain ⟨nP2, nM2, e1, e2, e3, e4, e5, e6⟩ := bad
    obtain ⟨nP3, a2, a3⟩ := addT (x := -11) (m := nP2) l1
    have e32 : gI nP3 3 2 = gI nP2 3 2 := a3.1 _ _ (by omega)
    refine Or.inl ⟨nP3, nM2, by rw [e1, bdI_e, a2, bdV_e]; rfl, fun N hN => ?_, by rw [e32]; exact e3, by rw [e32]; exact e4, (kP1.trans e5).trans (a3.mono (fun a k q => by unfold WLp; omega)), kM1.trans (e6.mono (fun a k q => q.up (by omega) (by omega) (by omega)))⟩
    obtain ⟨N', rfl⟩ : ∃ N', N = N' + 1 := ⟨N - 1, by omega⟩
    show rdL (N' + 1) (nI δ) 1 mM = _
    rw [stp]
    exact e2 N' (by omega)
  · obtain ⟨nP2, nM2, d2, cP2, gM2, w2, t2, e1, e2, ⟨hJ2, f1, f2, f3, f4, f5, f6, f7⟩, e3, e4, e5, e6, e7⟩ := gd
    obtain ⟨hP2, hM2, hc2, hb2, hcb2⟩ := id hJ2
    obtain ⟨ok2, rP2, lw2, cl2, fl2, -, -⟩ := id hP2
    have tn2 := ok2.1
    have cc1 : (c ++ cP2).length = c.length + cP2.length := List.length_append
    obtain ⟨nP3, a2, a3, a4⟩ := addC (x := -11) l1 lw2 (by omega)
    have as1 : c ++ (cP2 ++ [-11]) = c ++ cP2 ++ [-11] := by simp only [List.append_assoc]
    have as2 : g ++ (30 :: gM2) = g ++ [30] ++ gM2 := by simp only [List.append_assoc, List.cons_append, List.nil_append]
    have cc2 : (cP2 ++ [(-11 : Int32)]).length = cP2.length + 1 := by rw [List.length_append]; rfl
    have cc3 : (c ++ cP2 ++ [(-11 : Int32)]).length = c.length + cP2.length + 1 := by rw [List.length_append, cc1]; rfl
    refine Or.inr ⟨nP3, nM2, d2, cP2 ++ [-11], 30 :: gM2, fun f => if w2 f = 0 then 1 else 0, t2 + 1, by rw [e1, bdI_e, a2, bdV_e]; rfl, fun N => ?_, ⟨?_, by omega, by rw [cc2]; omega, (Vpp.not (by omega) f3).up (by omega), fun f g' hfg => by show (if w2 f = 0 then (1 : Int32) else 0) = if w2 g' = 0 then 1 else 0; rw [f4 f g' hfg], ?_, List.cons_ne_nil _ _, ?_⟩, by omega, Mpt.not e4, ?_, (kP1.trans e6).trans (a4.mono (fun a k q => by unfold WLp; omega)), kM1.trans (e7.mono (fun a k q => q.up (by omega) (by omega) (by omega)))⟩
    · show rdL (N + t2 + 1) (nI δ) 1 mM = _
      rw [stp]
      refine (e2 N).trans ?_
      rw [popN_1 (O := fun i => gI m' 16 i) o16s, popN_c δ o16]
    · rw [as1, as2]
      exact ⟨⟨ok2, rP2.kp (fun a k h => a4.1 _ _ (by omega)) (a4.2.1 _ _ (by omega)), a3, by rw [cc3]; omega, (a4.1 _ _ (by omega)).trans fl2, l1, b4⟩, hM2, hc2, hb2, hcb2⟩
    · exact fun q => absurd (List.append_eq_nil_iff.mp q).2 (List.cons_ne_nil _ _)
    · intro z hz
      rcases List.mem_cons.mp hz with q | q
      · rw [q]; omega
      · exact f7 z q
    · have s := Spt.not e5
      rw [show 5 - (δ + 1) + 1 = 5 - δ by omega] at s
      exact s
theorem partPar {T : Nat → Nat} {n l b δ cb : Nat} {d : Tk} {c : List Int32} {g : List Nat} {mP mM : Mm} {κe : Nat → Int32 → Int32 → Mm → Option (Int32 × Mm)} {κp : Nat → Int32 → Mm → Option (Int32 × Mm)} (hT : TpOK T n) (hl : l < 2) (hδ : δ < 5) (he : OpT T n l b (δ + 1) (δ + 1) (M0 (δ + 1)) (1 + 4 * (5 - (δ + 1)) + 4) (E0 T (δ + 1)) (κe b (nI (δ + 1)) (nI 0))) (hJ : PJ T n l b cb d c g mP mM) (w : isG T d 40 = true) : Bad n b (cb + g.length) δ (δ + 1) d mP mM (f_X5_part_r κe κp b (nI δ) mP) (fun N => rdL N (nI δ) 1 mM) ∨ GdP T n l b cb δ d c g mP mM (f_X5_part_r κe κp b (nI δ) mP) (fun N => rdL N (nI δ) 1 mM) := by
  obtain ⟨hP, hM, hc, hb, h1⟩ := id hJ
  obtain ⟨ok, rP, lw, cl, fl, l1, b4⟩ := id hP
  have n0 := hT.1
  have q := of_decide_eq_true w
  have k0 : tkK d ≠ 0 := by omega
  have kb := ok.2.2.2.2.1 k0
  have tok := tk_ok (T := T) (n := n) ok.2.1
  have tn := tok.1.1
  obtain ⟨m', em, r3, r4⟩ := mOpen hT hl hM hδ false w
  obtain ⟨m1, ea, r1, r2⟩ := adv_P hT ok rP
  have lw1 : LwP c b m1 := lw.keep (r2.1 _ _ (by omega)) (fun k => r2.1 _ _ (by omega))
  have lt1 : LwT T n l b (tk T n (tke d)) (c ++ []) m1 := by
    rw [List.append_nil]
    exact ⟨tok.1, r1, lw1, by omega, (r2.1 _ _ (by omega)).trans fl, l1, b4⟩
  have hj1 := hJ.put (x := 28) hT k0 lt1 r3 r4 (fun k => by
    by_cases y : k = cb + g.length
    · subst y; simp (disch := omega) only [bnd_e, grd_t, bdI_e, bdV_e, bokA, bokB, ni_inb, ni_cl, nI_add, pk_mul, li_2, li_3, li_4, li_5, li_6, li_7, li_8, li_9, li_10, li_11, li_12, li_13, li_14, li_15, li_16, li_17, li_18, li_19, li_20, li_21, li_22, li_23, li_24, li_25, li_26, li_27, li_28, li_29, li_30, li_31, li_32, li_33, li_34, li_35, li_36, li_37, li_38, li_39, li_40, li_41, li_42, li_43, li_44, li_45, li_46, li_47, li_48, li_49, li_50, li_51, li_52, li_53, li_54, li_55, li_56, li_57, li_58, li_59, li_60, li_61, li_63, li_70, li_96, li_97, li_99, li_100, li_101, li_102, li_120, li_122, li_126, li_200, li_255, li_423, li_555, li_999, li_1000, li_1111, li_2968, li_9999, li_10631, li_12345, li_14092, li_21470, li_65536, li_99233, nz_eq, n1_eq, n1_lt, n1_gt, n1_le, n1_ge, n1_sub, n1_add, nm_add, nz_add, nz_add2, z1_ne, z1_lt, z1_le, nI_1, pk_sub, nI_ltI, nI_leI, nI_eq, ni_neg, ni_nneg, ni_pos0, ni_nle0, ni_m1, gI_eq, gI_ne, xI_sJ, xI_sR, xR_sI, xR_sJ, xJ_sI, xJ_sR, gJ_eq, gJ_ne, gR_eq, gR_ne, if_true, if_false, ite_true, ite_false, not_true_eq_false, not_false_eq_true, decide_true, and_self, true_and, and_true, false_and, and_false, or_true, true_or, or_false, false_or, reduceIte, ne_eq]; rfl
    · simp (disch := omega) only [y, bnd_e, grd_t, bdI_e, bdV_e, bokA, bokB, ni_inb, ni_cl, nI_add, pk_mul, li_2, li_3, li_4, li_5, li_6, li_7, li_8, li_9, li_10, li_11, li_12, li_13, li_14, li_15, li_16, li_17, li_18, li_19, li_20, li_21, li_22, li_23, li_24, li_25, li_26, li_27, li_28, li_29, li_30, li_31, li_32, li_33, li_34, li_35, li_36, li_37, li_38, li_39, li_40, li_41, li_42, li_43, li_44, li_45, li_46, li_47, li_48, li_49, li_50, li_51, li_52, li_53, li_54, li_55, li_56, li_57, li_58, li_59, li_60, li_61, li_63, li_70, li_96, li_97, li_99, li_100, li_101, li_102, li_120, li_122, li_126, li_200, li_255, li_423, li_555, li_999, li_1000, li_1111, li_2968, li_9999, li_10631, li_12345, li_14092, li_21470, li_65536, li_99233, nz_eq, n1_eq, n1_lt, n1_gt, n1_le, n1_ge, n1_sub, n1_add, nm_add, nz_add, nz_add2, z1_ne, z1_lt, z1_le, nI_1, pk_sub, nI_ltI, nI_leI, nI_eq, ni_neg, ni_nneg, ni_pos0, ni_nle0, ni_m1, gI_eq, gI_ne, xI_sJ, xI_sR, xR_sI, xR_sJ, xJ_sI, xJ_sR, gJ_eq, gJ_ne, gR_eq, gR_ne, if_true, if_false, ite_true, ite_false, not_true_eq_false, not_false_eq_true, decide_true, and_self, true_and, and_true, false_and, and_false, or_true, true_or, or_false, false_or, reduceIte, ne_eq]) (by simp (disch := omega) only [bnd_e, grd_t, bdI_e, bdV_e, bokA, bokB, ni_inb, ni_cl, nI_add, pk_mul, li_2, li_3, li_4, li_5, li_6, li_7, li_8, li_9, li_10, li_11, li_12, li_13, li_14, li_15, li_16, li_17, li_18, li_19, li_20, li_21, li_22, li_23, li_24, li_25, li_26, li_27, li_28, li_29, li_30, li_31, li_32, li_33, li_34, li_35, li_36, li_37, li_38, li_39, li_40, li_41, li_42, li_43, li_44, li_45, li_46, li_47, li_48, li_49, li_50, li_51, li_52, li_53, li_54, li_55, li_56, li_57, li_58, li_59, li_60, li_61, li_63, li_70, li_96, li_97, li_99, li_100, li_101, li_102, li_120, li_122, li_126, li_200, li_255, li_423, li_555, li_999, li_1000, li_1111, li_2968, li_9999, li_10631, li_12345, li_14092, li_21470, li_65536, li_99233, nz_eq, n1_eq, n1_lt, n1_gt, n1_le, n1_ge, n1_sub, n1_add, nm_add, nz_add, nz_add2, z1_ne, z1_lt, z1_le, nI_1, pk_sub, nI_ltI, nI_leI, nI_eq, ni_neg, ni_nneg, ni_pos0, ni_nle0, ni_m1, gI_eq, gI_ne, xI_sJ, xI_sR, xR_sI, xR_sJ, xJ_sI, xJ_sR, gJ_eq, gJ_ne, gR_eq, gR_ne, if_true, if_false, ite_true, ite_false, not_true_eq_false, not_false_eq_true, decide_true, and_self, true_and, and_true, false_and, and_false, or_true, true_or, or_false, false_or, reduceIte, ne_eq]) (by simp (disch := omega) only [bnd_e, grd_t, bdI_e, bdV_e, bokA, bokB, ni_inb, ni_cl, nI_add, pk_mul, li_2, li_3, li_4, li_5, li_6, li_7, li_8, li_9, li_10, li_11, li_12, li_13, li_14, li_15, li_16, li_17, li_18, li_19, li_20, li_21, li_22, li_23, li_24, li_25, li_26, li_27, li_28, li_29, li_30, li_31, li_32, li_33, li_34, li_35, li_36, li_37, li_38, li_39, li_40, li_41, li_42, li_43, li_44, li_45, li_46, li_47, li_48, li_49, li_50, li_51, li_52, li_53, li_54, li_55, li_56, li_57, li_58, li_59, li_60, li_61, li_63, li_70, li_96, li_97, li_99, li_100, li_101, li_102, li_120, li_122, li_126, li_200, li_255, li_423, li_555, li_999, li_1000, li_1111, li_2968, li_9999, li_10631, li_12345, li_14092, li_21470, li_65536, li_99233, nz_eq, n1_eq, n1_lt, n1_gt, n1_le, n1_ge, n1_sub, n1_add, nm_add, nz_add, nz_add2, z1_ne, z1_lt, z1_le, nI_1, pk_sub, nI_ltI, nI_leI, nI_eq, ni_neg, ni_nneg, ni_pos0, ni_nle0, ni_m1, gI_eq, gI_ne, xI_sJ, xI_sR, xR_sI, xR_sJ, xJ_sI, xJ_sR, gJ_eq, gJ_ne, gR_eq, gR_ne, if_true, if_false, ite_true, ite_false, not_true_eq_false, not_false_eq_true, decide_true, and_self, true_and, and_true, false_and, and_false, or_true, true_or, or_false, false_or, reduceIte, ne_eq])
  rw [List.append_nil] at hj1
  have lg : (g ++ [28]).length = g.length + 1 := by rw [List.length_append]; rfl
  have kP1 : Kp (WLp b) mP m1 := r2.mono (fun a k q => by unfold WLp WRP; omega)
  have kM1 : Kp (WMl (cb + g.length) δ (δ + 1)) mM m' := ((((((Kp.refl mM).sI _ (by unfold WMl; omega)).sI _ (by unfold WMl; omega)).sI _ (by unfold WMl; omega)).sI _ (by unfold WMl; omega))).trans (r4.mono (fun a k q => by unfold WMl; omega))
  have a1 : ctk T d = 40 := tk_g.mpr w
  have cls : f_X5_part_r κe κp b (nI δ) mP = bdI (κe b (nI (δ + 1)) (nI 0) m1) fun x15 m14 => if x15 = 0 then (grd (bok ((0))) (some ((0), m14))) else (bdI (f_X5_take (nI 41) m14) fun x17 m16 => if x17 = 0 then (grd (bok ((0))) (some ((0), m16))) else (grd (bok ((1))) (some ((1), m16)))) := by
    rw [to49 hl hP (Or.inr (Or.inr (Or.inl w)))]
    unfold f_X5_part_J49
    simp (disch := omega) only [hδ, ea, a1, bnd_e, grd_t, bdI_e, bdV_e, bokA, bokB, ni_inb, ni_cl, nI_add, pk_mul, li_2, li_3, li_4, li_5, li_6, li_7, li_8, li_9, li_10, li_11, li_12, li_13, li_14, li_15, li_16, li_17, li_18, li_19, li_20, li_21, li_22, li_23, li_24, li_25, li_26, li_27, li_28, li_29, li_30, li_31, li_32, li_33, li_34, li_35, li_36, li_37, li_38, li_39, li_40, li_41, li_42, li_43, li_44, li_45, li_46, li_47, li_48, li_49, li_50, li_51, li_52, li_53, li_54, li_55, li_56, li_57, li_58, li_59, li_60, li_61, li_63, li_70, li_96, li_97, li_99, li_100, li_101, li_102, li_120, li_122, li_126, li_200, li_255, li_423, li_555, li_999, li_1000, li_1111, li_2968, li_9999, li_10631, li_12345, li_14092, li_21470, li_65536, li_99233, nz_eq, n1_eq, n1_lt, n1_gt, n1_le, n1_ge, n1_sub, n1_add, nm_add, nz_add, nz_add2, z1_ne, z1_lt, z1_le, nI_1, pk_sub, nI_ltI, nI_leI, nI_eq, ni_neg, ni_nneg, ni_pos0, ni_nle0, ni_m1, gI_eq, gI_ne, xI_sJ, xI_sR, xR_sI, xR_sJ, xJ_sI, xJ_sR, gJ_eq, gJ_ne, gR_eq, gR_ne, if_true, if_false, ite_true, ite_false, not_true_eq_false, not_false_eq_true, decide_true, and_self, true_and, and_true, false_and, and_false, or_true, true_or, or_false, false_or, reduceIte, ne_eq]
    rfl
  have stp : ∀ N, rdL (N + 1) (nI δ) 1 mM = rdL N (nI (δ + 1)) 1 m' := fun N => by rw [rdL_s, em]
  have o16 : ∀ i, i ≤ δ → gI m' 16 i = gI mM 16 i := fun i hi => kM1.1 _ _ (by unfold WMl; omega)
  have o16s : ¬ gI m' 16 (δ + 1) = 1 := by
    rw [r4.1 _ _ (by omega)]
    have e : gI (sI (sI (sI (sI mM 15 (cb + g.length) (nI 28)) 0 24 (nI (cb + g.length + 1))) 16 (δ + 1) (nI 2)) 17 (δ + 1) 0) 16 (δ + 1) = nI 2 := by simp (disch := omega) only [bnd_e, grd_t, bdI_e, bdV_e, bokA, bokB, ni_inb, ni_cl, nI_add, pk_mul, li_2, li_3, li_4, li_5, li_6, li_7, li_8, li_9, li_10, li_11, li_12, li_13, li_14, li_15, li_16, li_17, li_18, li_19, li_20, li_21, li_22, li_23, li_24, li_25, li_26, li_27, li_28, li_29, li_30, li_31, li_32, li_33, li_34, li_35, li_36, li_37, li_38, li_39, li_40, li_41, li_42, li_43, li_44, li_45, li_46, li_47, li_48, li_49, li_50, li_51, li_52, li_53, li_54, li_55, li_56, li_57, li_58, li_59, li_60, li_61, li_63, li_70, li_96, li_97, li_99, li_100, li_101, li_102, li_120, li_122, li_126, li_200, li_255, li_423, li_555, li_999, li_1000, li_1111, li_2968, li_9999, li_10631, li_12345, li_14092, li_21470, li_65536, li_99233, nz_eq, n1_eq, n1_lt, n1_gt, n1_le, n1_ge, n1_sub, n1_add, nm_add, nz_add, nz_add2, z1_ne, z1_lt, z1_le, nI_1, pk_sub, nI_ltI, nI_leI, nI_eq, ni_neg, ni_nneg, ni_pos0, ni_nle0, ni_m1, gI_eq, gI_ne, xI_sJ, xI_sR, xR_sI, xR_sJ, xJ_sI, xJ_sR, gJ_eq, gJ_ne, gR_eq, gR_ne, if_true, if_false, ite_true, ite_false, not_true_eq_false, not_false_eq_true, decide_true, and_self, true_and, and_true, false_and, and_false, or_true, true_or, or_false, false_or, reduceIte, ne_eq]
    exact fun q => absurd (e.symm.trans q) (by decide)
  have o17s : gI m' 17 (δ + 1) = 0 := by
    rw [r4.1 _ _ (by omega)]
    simp (disch := omega) only [bnd_e, grd_t, bdI_e, bdV_e, bokA, bokB, ni_inb, ni_cl, nI_add, pk_mul, li_2, li_3, li_4, li_5, li_6, li_7, li_8, li_9, li_10, li_11, li_12, li_13, li_14, li_15, li_16, li_17, li_18, li_19, li_20, li_21, li_22, li_23, li_24, li_25, li_26, li_27, li_28, li_29, li_30, li_31, li_32, li_33, li_34, li_35, li_36, li_37, li_38, li_39, li_40, li_41, li_42, li_43, li_44, li_45, li_46, li_47, li_48, li_49, li_50, li_51, li_52, li_53, li_54, li_55, li_56, li_57, li_58, li_59, li_60, li_61, li_63, li_70, li_96, li_97, li_99, li_100, li_101, li_102, li_120, li_122, li_126, li_200, li_255, li_423, li_555, li_999, li_1000, li_1111, li_2968, li_9999, li_10631, li_12345, li_14092, li_21470, li_65536, li_99233, nz_eq, n1_eq, n1_lt, n1_gt, n1_le, n1_ge, n1_sub, n1_add, nm_add, nz_add, nz_add2, z1_ne, z1_lt, z1_le, nI_1, pk_sub, nI_ltI, nI_leI, nI_eq, ni_neg, ni_nneg, ni_pos0, ni_nle0, ni_m1, gI_eq, gI_ne, xI_sJ, xI_sR, xR_sI, xR_sJ, xJ_sI, xJ_sR, gJ_eq, gJ_ne, gR_eq, gR_ne, if_true, if_false, ite_true, ite_false, not_true_eq_false, not_false_eq_true, decide_true, and_self, true_and, and_true, false_and, and_false, or_true, true_or, or_false, false_or, reduceIte, ne_eq]
  rw [cls]
  rcases he cb _ c (g ++ [28]) m1 m' hj1 (Or.inr o16s) (fun _ => o17s) with bad | gd
  · obtain ⟨nP2, nM2, e1, e2, e3, e4, e5, e6⟩ := bad
    refine Or.inl ⟨nP2, nM2, by rw [e1, bdI_e, if_pos rfl]; rfl, fun N hN => ?_, e3, e4, kP1.trans e5, kM1.trans (e6.mono (fun a k q => q.up (by omega) (by omega) (by omega)))⟩
    obtain ⟨N', rfl⟩ : ∃ N', N = N' + 1 := ⟨N - 1, by omega⟩
    show rdL (N' + 1) (nI δ) 1 mM = _
    rw [stp]
    exact e2 N' (by omega)
  · obtain ⟨nP2, nM2, d2, cP2, gM2, w2, t2, e1, e2, ⟨hJ2, f1, f2, f3, f4, f5, f6, f7⟩, e3, e4, e5, e6, e7⟩ := gd
    obtain ⟨hP2, hM2, hc2, hb2, hcb2⟩ := id hJ2
    obtain ⟨ok2, rP2, lw2, cl2, fl2, -, -⟩ := id hP2
    have tn2 := ok2.1
    have z1 : ¬ (1 : Int32) = 0 := by decide
    have cb2 := ctk_b ok2
    have kM2 : Kp (WMl (cb + g.length) δ (δ + 1)) mM nM2 := kM1.trans (e7.mono (fun a k q => q.up (by omega) (by omega) (by omega)))
    have stp2 : ∀ N, rdL (N + 1 + t2 + 1) (nI δ) 1 mM = f_X12_reads_B11 (rdL N) (nI (δ + 1)) 0 nM2 := fun N => by
      rw [stp, ← rdL_s]
      exact e2 (N + 1)
    by_cases w3 : isG T d2 41 = true
    · have q3 := of_decide_eq_true w3
      have k02 : tkK d2 ≠ 0 := by omega
      have kb2 := ok2.2.2.2.2.1 k02
      have tok2 := tk_ok (T := T) (n := n) ok2.2.1
      have tn3 := tok2.1.1
      have a2 : ctk T d2 = 41 := (sgT (by decide)).mpr w3
      obtain ⟨m3, em3, r5, r6⟩ := mClose (δ := δ) hT hM2 (by omega) w3
      obtain ⟨nP3, ea3, r7, r8⟩ := adv_P hT ok2 rP2
      have lw3 : LwP (c ++ cP2) b nP3 := lw2.keep (r8.1 _ _ (by omega)) (fun k => r8.1 _ _ (by omega))
      have lt3 : LwT T n l b (tk T n (tke d2)) ((c ++ cP2) ++ []) nP3 := by
        rw [List.append_nil]
        exact ⟨tok2.1, r7, lw3, by omega, (r8.1 _ _ (by omega)).trans fl2, l1, b4⟩
      have hj3 := hJ2.put (x := 29) hT k02 lt3 r5 r6 (fun k => by
        by_cases y : k = cb + (g ++ [28] ++ gM2).length
        · subst y; simp (disch := omega) only [bnd_e, grd_t, bdI_e, bdV_e, bokA, bokB, ni_inb, ni_cl, nI_add, pk_mul, li_2, li_3, li_4, li_5, li_6, li_7, li_8, li_9, li_10, li_11, li_12, li_13, li_14, li_15, li_16, li_17, li_18, li_19, li_20, li_21, li_22, li_23, li_24, li_25, li_26, li_27, li_28, li_29, li_30, li_31, li_32, li_33, li_34, li_35, li_36, li_37, li_38, li_39, li_40, li_41, li_42, li_43, li_44, li_45, li_46, li_47, li_48, li_49, li_50, li_51, li_52, li_53, li_54, li_55, li_56, li_57, li_58, li_59, li_60, li_61, li_63, li_70, li_96, li_97, li_99, li_100, li_101, li_102, li_120, li_122, li_126, li_200, li_255, li_423, li_555, li_999, li_1000, li_1111, li_2968, li_9999, li_10631, li_12345, li_14092, li_21470, li_65536, li_99233, nz_eq, n1_eq, n1_lt, n1_gt, n1_le, n1_ge, n1_sub, n1_add, nm_add, nz_add, nz_add2, z1_ne, z1_lt, z1_le, nI_1, pk_sub, nI_ltI, nI_leI, nI_eq, ni_neg, ni_nneg, ni_pos0, ni_nle0, ni_m1, gI_eq, gI_ne, xI_sJ, xI_sR, xR_sI, xR_sJ, xJ_sI, xJ_sR, gJ_eq, gJ_ne, gR_eq, gR_ne, if_true, if_false, ite_true, ite_false, not_true_eq_false, not_false_eq_true, decide_true, and_self, true_and, and_true, false_and, and_false, or_true, true_or, or_false, false_or, reduceIte, ne_eq]
        · simp (disch := omega) only [y, bnd_e, grd_t, bdI_e, bdV_e, bokA, bokB, ni_inb, ni_cl, nI_add, pk_mul, li_2, li_3, li_4, li_5, li_6, li_7, li_8, li_9, li_10, li_11, li_12, li_13, li_14, li_15, li_16, li_17, li_18, li_19, li_20, li_21, li_22, li_23, li_24, li_25, li_26, li_27, li_28, li_29, li_30, li_31, li_32, li_33, li_34, li_35, li_36, li_37, li_38, li_39, li_40, li_41, li_42, li_43, li_44, li_45, li_46, li_47, li_48, li_49, li_50, li_51, li_52, li_53, li_54, li_55, li_56, li_57, li_58, li_59, li_60, li_61, li_63, li_70, li_96, li_97, li_99, li_100, li_101, li_102, li_120, li_122, li_126, li_200, li_255, li_423, li_555, li_999, li_1000, li_1111, li_2968, li_9999, li_10631, li_12345, li_14092, li_21470, li_65536, li_99233, nz_eq, n1_eq, n1_lt, n1_gt, n1_le, n1_ge, n1_sub, n1_add, nm_add, nz_add, nz_add2, z1_ne, z1_lt, z1_le, nI_1, pk_sub, nI_ltI, nI_leI, nI_eq, ni_neg, ni_nneg, ni_pos0, ni_nle0, ni_m1, gI_eq, gI_ne, xI_sJ, xI_sR, xR_sI, xR_sJ, xJ_sI, xJ_sR, gJ_eq, gJ_ne, gR_eq, gR_ne, if_true, if_false, ite_true, ite_false, not_true_eq_false, not_false_eq_true, decide_true, and_self, true_and, and_true, false_and, and_false, or_true, true_or, or_false, false_or, reduceIte, ne_eq]) (by simp (disch := omega) only [bnd_e, grd_t, bdI_e, bdV_e, bokA, bokB, ni_inb, ni_cl, nI_add, pk_mul, li_2, li_3, li_4, li_5, li_6, li_7, li_8, li_9, li_10, li_11, li_12, li_13, li_14, li_15, li_16, li_17, li_18, li_19, li_20, li_21, li_22, li_23, li_24, li_25, li_26, li_27, li_28, li_29, li_30, li_31, li_32, li_33, li_34, li_35, li_36, li_37, li_38, li_39, li_40, li_41, li_42, li_43, li_44, li_45, li_46, li_47, li_48, li_49, li_50, li_51, li_52, li_53, li_54, li_55, li_56, li_57, li_58, li_59, li_60, li_61, li_63, li_70, li_96, li_97, li_99, li_100, li_101, li_102, li_120, li_122, li_126, li_200, li_255, li_423, li_555, li_999, li_1000, li_1111, li_2968, li_9999, li_10631, li_12345, li_14092, li_21470, li_65536, li_99233, nz_eq, n1_eq, n1_lt, n1_gt, n1_le, n1_ge, n1_sub, n1_add, nm_add, nz_add, nz_add2, z1_ne, z1_lt, z1_le, nI_1, pk_sub, nI_ltI, nI_leI, nI_eq, ni_neg, ni_nneg, ni_pos0, ni_nle0, ni_m1, gI_eq, gI_ne, xI_sJ, xI_sR, xR_sI, xR_sJ, xJ_sI, xJ_sR, gJ_eq, gJ_ne, gR_eq, gR_ne, if_true, if_false, ite_true, ite_false, not_true_eq_false, not_false_eq_true, decide_true, and_self, true_and, and_true, false_and, and_false, or_true, true_or, or_false, false_or, reduceIte, ne_eq]) (by simp (disch := omega) only [bnd_e, grd_t, bdI_e, bdV_e, bokA, bokB, ni_inb, ni_cl, nI_add, pk_mul, li_2, li_3, li_4, li_5, li_6, li_7, li_8, li_9, li_10, li_11, li_12, li_13, li_14, li_15, li_16, li_17, li_18, li_19, li_20, li_21, li_22, li_23, li_24, li_25, li_26, li_27, li_28, li_29, li_30, li_31, li_32, li_33, li_34, li_35, li_36, li_37, li_38, li_39, li_40, li_41, li_42, li_43, li_44, li_45, li_46, li_47, li_48, li_49, li_50, li_51, li_52, li_53, li_54, li_55, li_56, li_57, li_58, li_59, li_60, li_61, li_63, li_70, li_96, li_97, li_99, li_100, li_101, li_102, li_120, li_122, li_126, li_200, li_255, li_423, li_555, li_999, li_1000, li_1111, li_2968, li_9999, li_10631, li_12345, li_14092, li_21470, li_65536, li_99233, nz_eq, n1_eq, n1_lt, n1_gt, n1_le, n1_ge, n1_sub, n1_add, nm_add, nz_add, nz_add2, z1_ne, z1_lt, z1_le, nI_1, pk_sub, nI_ltI, nI_leI, nI_eq, ni_neg, ni_nneg, ni_pos0, ni_nle0, ni_m1, gI_eq, gI_ne, xI_sJ, xI_sR, xR_sI, xR_sJ, xJ_sI, xJ_sR, gJ_eq, gJ_ne, gR_eq, gR_ne, if_true, if_false, ite_true, ite_false, not_true_eq_false, not_false_eq_true, decide_true, and_self, true_and, and_true, false_and, and_false, or_true, true_or, or_false, false_or, reduceIte, ne_eq])
      rw [List.append_nil] at hj3
      have tk41 : f_X5_take (nI 41) nP2 = some (1, nP3) := by
        unfold f_X5_take
        simp (disch := omega) only [rP2.2.2.2.1, a2, ea3, bnd_e, grd_t, bdI_e, bdV_e, bokA, bokB, ni_inb, ni_cl, nI_add, pk_mul, li_2, li_3, li_4, li_5, li_6, li_7, li_8, li_9, li_10, li_11, li_12, li_13, li_14, li_15, li_16, li_17, li_18, li_19, li_20, li_21, li_22, li_23, li_24, li_25, li_26, li_27, li_28, li_29, li_30, li_31, li_32, li_33, li_34, li_35, li_36, li_37, li_38, li_39, li_40, li_41, li_42, li_43, li_44, li_45, li_46, li_47, li_48, li_49, li_50, li_51, li_52, li_53, li_54, li_55, li_56, li_57, li_58, li_59, li_60, li_61, li_63, li_70, li_96, li_97, li_99, li_100, li_101, li_102, li_120, li_122, li_126, li_200, li_255, li_423, li_555, li_999, li_1000, li_1111, li_2968, li_9999, li_10631, li_12345, li_14092, li_21470, li_65536, li_99233, nz_eq, n1_eq, n1_lt, n1_gt, n1_le, n1_ge, n1_sub, n1_add, nm_add, nz_add, nz_add2, z1_ne, z1_lt, z1_le, nI_1, pk_sub, nI_ltI, nI_leI, nI_eq, ni_neg, ni_nneg, ni_pos0, ni_nle0, ni_m1, gI_eq, gI_ne, xI_sJ, xI_sR, xR_sI, xR_sJ, xJ_sI, xJ_sR, gJ_eq, gJ_ne, gR_eq, gR_ne, if_true, if_false, ite_true, ite_false, not_true_eq_false, not_false_eq_true, decide_true, and_self, true_and, and_true, false_and, and_false, or_true, true_or, or_false, false_or, reduceIte, ne_eq]
      have as2 : g ++ (28 :: (gM2 ++ [29])) = g ++ [28] ++ gM2 ++ [29] := by simp only [List.append_assoc, List.cons_append, List.nil_append]
      have lg2 : (g ++ [28] ++ gM2).length = g.length + 1 + gM2.length := by rw [List.length_append, lg]
      have kM3 : Kp (WMl (cb + g.length) δ (δ + 1)) nM2 m3 := (((Kp.refl nM2).sI _ (by unfold WMl; omega)).sI _ (by unfold WMl; omega)).trans (r6.mono (fun a k q => by unfold WMl; omega))
      refine Or.inr ⟨nP3, m3, tk T n (tke d2), cP2, 28 :: (gM2 ++ [29]), w2, 1 + t2 + 1, by rw [e1, bdI_e, if_neg z1, tk41, bdI_e, if_neg z1]; rfl, fun N => ?_, ⟨?_, by omega, by omega, f3.up (by omega), f4, f5, List.cons_ne_nil _ _, ?_⟩, by omega, Mpt.par e4.1, ?_, (kP1.trans e6).trans (r8.mono (fun a k q => by unfold WLp WRP; omega)), kM2.trans kM3⟩
      · show rdL (N + (1 + t2 + 1)) (nI δ) 1 mM = _
        rw [show N + (1 + t2 + 1) = N + 1 + t2 + 1 by omega, stp2, em3, popN_c δ (fun i hi => kM2.1 _ _ (by unfold WMl; omega))]
      · rw [as2]
        exact hj3
      · intro z hz
        rcases List.mem_cons.mp hz with q | q
        · rw [q]; omega
        · rcases List.mem_append.mp q with q | q
          · exact f7 z q
          · rw [List.mem_singleton.mp q]; omega
      · have s := Spt.par e4.1 e4.2
        rw [show 5 - (δ + 1) + 1 = 5 - δ by omega] at s
        exact s
    · have w3' : isG T d2 41 = false := Bool.eq_false_iff.mpr w3
      have a2 : ¬ ctk T d2 = 41 := fun q => w3 ((sgT (by decide)).mp q)
      obtain ⟨⟨⟨x1, x2, x3⟩, x4⟩, x5, x6⟩ := e5
      have tk41 : f_X5_take (nI 41) nP2 = some (0, sI nP2 3 2 (nI (1 + 16 * tkb d2))) := by
        have e1 : f_X5_wrong 1 nP2 = some (0, sI nP2 3 2 (nI (1 + 16 * tkb d2))) := wrongE rP2 1
        unfold f_X5_take
        simp (disch := omega) only [rP2.2.2.2.1, a2, e1, bnd_e, grd_t, bdI_e, bdV_e, bokA, bokB, ni_inb, ni_cl, nI_add, pk_mul, li_2, li_3, li_4, li_5, li_6, li_7, li_8, li_9, li_10, li_11, li_12, li_13, li_14, li_15, li_16, li_17, li_18, li_19, li_20, li_21, li_22, li_23, li_24, li_25, li_26, li_27, li_28, li_29, li_30, li_31, li_32, li_33, li_34, li_35, li_36, li_37, li_38, li_39, li_40, li_41, li_42, li_43, li_44, li_45, li_46, li_47, li_48, li_49, li_50, li_51, li_52, li_53, li_54, li_55, li_56, li_57, li_58, li_59, li_60, li_61, li_63, li_70, li_96, li_97, li_99, li_100, li_101, li_102, li_120, li_122, li_126, li_200, li_255, li_423, li_555, li_999, li_1000, li_1111, li_2968, li_9999, li_10631, li_12345, li_14092, li_21470, li_65536, li_99233, nz_eq, n1_eq, n1_lt, n1_gt, n1_le, n1_ge, n1_sub, n1_add, nm_add, nz_add, nz_add2, z1_ne, z1_lt, z1_le, nI_1, pk_sub, nI_ltI, nI_leI, nI_eq, ni_neg, ni_nneg, ni_pos0, ni_nle0, ni_m1, gI_eq, gI_ne, xI_sJ, xI_sR, xR_sI, xR_sJ, xJ_sI, xJ_sR, gJ_eq, gJ_ne, gR_eq, gR_ne, if_true, if_false, ite_true, ite_false, not_true_eq_false, not_false_eq_true, decide_true, and_self, true_and, and_true, false_and, and_false, or_true, true_or, or_false, false_or, reduceIte, ne_eq]
      refine Or.inl ⟨sI nP2 3 2 (nI (1 + 16 * tkb d2)), sI nM2 0 9 (nI (1 + 16 * tkb d2)), by rw [e1, bdI_e, if_neg z1, tk41, bdI_e, if_pos rfl]; rfl, fun N hN => ?_, ?_, ?_, (kP1.trans e6).sI _ (by unfold WLp WRP; omega), kM2.sI _ (by unfold WMl; omega)⟩
      · obtain ⟨N', rfl⟩ : ∃ N', N = N' + 1 + t2 + 1 := ⟨N - 1 - t2 - 1, by omega⟩
        show rdL (N' + 1 + t2 + 1) (nI δ) 1 mM = _
        rw [stp2, mEnd hT hM2 (by omega) x2 x3 x1 x4 x5 x6 (Or.inl w3'), if_neg (fun q => absurd q.1 (by omega))]
      · rw [gI_eq _ _ _ _ _ _ rfl rfl, gI_eq _ _ _ _ _ _ rfl rfl]
      · rw [gI_eq _ _ _ _ _ _ rfl rfl, nz_eq _ (by omega)]
        omega
theorem exprT {T : Nat → Nat} {n l b δ : Nat} (hT : TpOK T n) (hδ : δ < 7) {N : Nat} (hp : PartT T n l b δ ((F_X5 N).2 b (nI δ))) : OpT T n l b δ δ (M0 δ) (1 + 4 * (5 - δ) + 4) (E0 T δ) ((F_X5 (N + 4)).1 b (nI δ) (nI 0)) := by
  have l3 : OpT T n l b δ (δ + 1) (M3 δ) (1 + 4 * (5 - δ) + 1) (fun d _ => E3 T d) ((F_X5 (N + 1)).1 b (nI δ) (nI 3)) := lvlN (κe := (F_X5 N).1) (κp := (F_X5 N).2) (L := 3) hT (fun m f => if_pos (by decide)) hp.op (by decide) (fun q => absurd q (by omega)) (Nat.le_refl _) (by omega) (fun g v h => ⟨Mpr.one h.1, Spr.one h.2⟩) (hst3 hT hδ)
  have l2 : OpT T n l b δ (δ + 1) (M2 δ) (1 + 4 * (5 - δ) + 1 + 1) (fun d _ => E2 T d) ((F_X5 (N + 2)).1 b (nI δ) (nI 2)) := lvlN (κe := (F_X5 (N + 1)).1) (κp := (F_X5 (N + 1)).2) (L := 2) hT (fun m f => if_neg (by decide)) l3 (by decide) (fun q => absurd q (by omega)) (Nat.le_refl _) (by omega) (fun g v h => ⟨Msu.one h.1, Ssu.one h.2⟩) (hst2 hT hδ)
  have l1 : OpT T n l b δ δ (M1 δ) (1 + 4 * (5 - δ) + 1 + 1 + 1) (E1 T δ) ((F_X5 (N + 3)).1 b (nI δ) (nI 1)) := lvl1 (κe := (F_X5 (N + 2)).1) (κp := (F_X5 (N + 2)).2) hT hδ (fun m f => if_neg (by decide)) l2 (by omega)
  exact lvlN (κe := (F_X5 (N + 3)).1) (κp := (F_X5 (N + 3)).2) (L := 0) hT (fun m f => if_neg (by decide)) l1 (by decide) (fun _ => rfl) (Nat.le_refl _) (by omega) (fun g v h => ⟨Mlo.one h.1, Sex.one h.2⟩) (hst0 hT hδ)
theorem partAll {T : Nat → Nat} {n l b : Nat} (hT : TpOK T n) (hl : l < 2) : ∀ (k δ N : Nat), δ + k = 5 → 1 + 5 * k ≤ N → PartT T n l b δ ((F_X5 N).2 b (nI δ))
  | 0, δ, N, h, hN => by
    obtain ⟨N', rfl⟩ : ∃ N', N = N' + 1 := ⟨N - 1, by omega⟩
    intro cb d c g mP mM hJ
    exact partA (κe := (F_X5 N').1) (κp := (F_X5 N').2) hT hl hJ (by omega) (Or.inl (by omega))
  | k + 1, δ, N, h, hN => by
    obtain ⟨N', rfl⟩ : ∃ N', N = N' + 4 + 1 := ⟨N - 5, by omega⟩
    have hp := partAll (b := b) hT hl k (δ + 1) (N' + 4) (by omega) (by omega)
    have he := exprT hT (by omega) (partAll (b := b) hT hl k (δ + 1) N' (by omega) (by omega))
    intro cb d c g mP mM hJ
    show Bad n b (cb + g.length) δ (δ + 1) d mP mM (f_X5_part_r (F_X5 (N' + 4)).1 (F_X5 (N' + 4)).2 b (nI δ) mP) (fun N => rdL N (nI δ) 1 mM) ∨ GdP T n l b cb δ d c g mP mM (f_X5_part_r (F_X5 (N' + 4)).1 (F_X5 (N' + 4)).2 b (nI δ) mP) (fun N => rdL N (nI δ) 1 mM)
    by_cases w : isW d 20 = true
    · exact partNot hT hl (by omega) hp hJ w
    · by_cases w2 : isG T d 40 = true
      · exact partPar hT hl (by omega) he hJ w2
      · exact partA hT hl hJ (by omega) (Or.inr ⟨Bool.eq_false_iff.mpr w, Bool.eq_false_iff.mpr w2⟩)
