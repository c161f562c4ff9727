/-! the one's parts -/
def LwT (T : Nat → Nat) (n l b : Nat) (d : Tk) (c : List Int32) (m : Mm) : Prop := TkOK T n d ∧ RdP T n d m ∧ LwP c b m ∧ c.length ≤ tkb d ∧ gI m b 2 = bO (decide (l = 0)) ∧ Lp.2.1 (b + 1) = 1000 ∧ 4 ≤ b
def WLp (b a k : Nat) : Prop := WRP a k ∨ (a = b ∧ k = 3) ∨ a = b + 1
theorem tk_g {T : Nat → Nat} {d : Tk} : ctk T d = 40 ↔ isG T d 40 = true := (ctk_s (s := 40) (by decide)).trans ⟨fun q => decide_eq_true q, fun q => of_decide_eq_true q⟩
theorem tk_w {T : Nat → Nat} {n : Nat} {d : Tk} (ok : TkOK T n d) {k : Nat} (hk : k < 30) : ctk T d = k ↔ isW d k = true := (ctk_w ok hk).trans ⟨fun q => decide_eq_true q, fun q => of_decide_eq_true q⟩
theorem knw_f {T : Nat → Nat} {n l : Nat} {d : Tk} (ok : TkOK T n d) : (knw l (ctk T d) = true) ↔ fcN l d ≠ 0 := by
  unfold fcN
  by_cases z : tkK d = 1 ∧ knw l (wid (tkR d)) = true
  · rw [if_pos z]
    have := of_decide_eq_true z.2
    have cw := (ctk_w (T := T) ok (k := wid (tkR d)) (by have := wid_le (tkR d); omega)).mpr ⟨z.1, rfl⟩
    rw [cw]
    exact ⟨fun _ => by omega, fun _ => z.2⟩
  · rw [if_neg z]
    refine ⟨fun q => ?_, fun q => absurd rfl q⟩
    have q' := of_decide_eq_true q
    have cw := (ctk_w (T := T) ok (k := ctk T d) (by omega)).mp rfl
    exact absurd ⟨cw.1, by rw [cw.2]; exact q⟩ z
theorem fc_ct {T : Nat → Nat} {n l : Nat} {d : Tk} (ok : TkOK T n d) (h : fcN l d ≠ 0) : ctk T d = fcN l d + 22 ∧ 1 ≤ fcN l d ∧ fcN l d ≤ 6 := by
  unfold fcN at h ⊢
  by_cases z : tkK d = 1 ∧ knw l (wid (tkR d)) = true
  · rw [if_pos z]
    have q := of_decide_eq_true z.2
    have cw := (ctk_w (T := T) ok (k := wid (tkR d)) (by have := wid_le (tkR d); omega)).mpr ⟨z.1, rfl⟩
    omega
  · rw [if_neg z] at h
    exact absurd rfl h
theorem cNo1 {T : Nat → Nat} {n l b : Nat} {d : Tk} {c : List Int32} {m : Mm} {δ : Nat} {κe : Nat → Int32 → Int32 → Mm → Option (Int32 × Mm)} {κp : Nat → Int32 → Mm → Option (Int32 × Mm)} (hl : l < 2) (h : LwT T n l b d c m) (hf : fcN l d = 0) (hw : isW d 20 = false) (hg : isG T d 40 = false) (h2 : tkK d ≠ 2) : f_X5_part_r κe κp b (nI δ) m = some (0, sI m 3 2 (nI (1 + 16 * tkb d))) := by
  obtain ⟨ok, hP, lw, cl, fl, l1, b4⟩ := h
  have cb := ctk_b ok
  have e2 := hP.2.2.2.1
  have a1 : ¬ ctk T d = 100 := fun q => h2 ((ctk_n ok).1.mp q)
  have a2 : ¬ ctk T d = 20 := fun q => by rw [(tk_w ok (by decide)).mp q] at hw; cases hw
  have a3 : ¬ ctk T d = 40 := fun q => by rw [tk_g.mp q] at hg; cases hg
  have kn := knowsP hl cb fl
  have k0 : knw l (ctk T d) = false := Bool.eq_false_iff.mpr (fun q => (knw_f ok).mp q hf)
  rw [k0, bO_f] at kn
  have e1 : f_X5_wrong 1 m = some (0, sI m 3 2 (nI (1 + 16 * tkb d))) := wrongE hP 1
  unfold f_X5_part_r
  simp (disch := omega) only [e2, a1, a2, a3, kn, e1, bnd_e, grd_t, bdI_e, bdV_e, bokA, bokB, ni_inb, ni_cl, nI_add, pk_mul, li_2, li_3, li_4, li_5, li_6, li_7, li_8, li_9, li_10, li_11, li_12, li_13, li_14, li_15, li_16, li_17, li_18, li_19, li_20, li_21, li_22, li_23, li_24, li_25, li_26, li_27, li_28, li_29, li_30, li_31, li_32, li_33, li_34, li_35, li_36, li_37, li_38, li_39, li_40, li_41, li_42, li_43, li_44, li_45, li_46, li_47, li_48, li_49, li_50, li_51, li_52, li_53, li_54, li_55, li_56, li_57, li_58, li_59, li_60, li_61, li_63, li_70, li_96, li_97, li_99, li_100, li_101, li_102, li_120, li_122, li_126, li_200, li_255, li_423, li_555, li_999, li_1000, li_1111, li_2968, li_9999, li_10631, li_12345, li_14092, li_21470, li_65536, li_99233, nz_eq, n1_eq, n1_lt, n1_gt, n1_le, n1_ge, n1_sub, n1_add, nm_add, nz_add, nz_add2, z1_ne, z1_lt, z1_le, nI_1, pk_sub, nI_ltI, nI_leI, nI_eq, ni_neg, ni_nneg, ni_pos0, ni_nle0, ni_m1, gI_eq, gI_ne, xI_sJ, xI_sR, xR_sI, xR_sJ, xJ_sI, xJ_sR, gJ_eq, gJ_ne, gR_eq, gR_ne, if_true, if_false, ite_true, ite_false, not_true_eq_false, not_false_eq_true, decide_true, and_self, true_and, and_true, false_and, and_false, or_true, true_or, or_false, false_or, reduceIte, ne_eq]
theorem to49 {T : Nat → Nat} {n l b : Nat} {d : Tk} {c : List Int32} {m : Mm} {δ : Nat} {κe : Nat → Int32 → Int32 → Mm → Option (Int32 × Mm)} {κp : Nat → Int32 → Mm → Option (Int32 × Mm)} (hl : l < 2) (h : LwT T n l b d c m) (hs : fcN l d ≠ 0 ∨ isW d 20 = true ∨ isG T d 40 = true ∨ tkK d = 2) : f_X5_part_r κe κp b (nI δ) m = f_X5_part_J49 κe κp b (nI δ) (nI (ctk T d)) (gI m 1 5) m := by
  obtain ⟨ok, hP, lw, cl, fl, l1, b4⟩ := h
  have cb := ctk_b ok
  have e2 := hP.2.2.2.1
  have kn := knowsP hl cb fl
  have z1 : ¬ (1 : Int32) = 0 := by decide
  unfold f_X5_part_r
  by_cases a1 : ctk T d = 100
  · simp (disch := omega) only [e2, a1, bnd_e, grd_t, bdI_e, bdV_e, bokA, bokB, ni_inb, ni_cl, nI_add, pk_mul, li_2, li_3, li_4, li_5, li_6, li_7, li_8, li_9, li_10, li_11, li_12, li_13, li_14, li_15, li_16, li_17, li_18, li_19, li_20, li_21, li_22, li_23, li_24, li_25, li_26, li_27, li_28, li_29, li_30, li_31, li_32, li_33, li_34, li_35, li_36, li_37, li_38, li_39, li_40, li_41, li_42, li_43, li_44, li_45, li_46, li_47, li_48, li_49, li_50, li_51, li_52, li_53, li_54, li_55, li_56, li_57, li_58, li_59, li_60, li_61, li_63, li_70, li_96, li_97, li_99, li_100, li_101, li_102, li_120, li_122, li_126, li_200, li_255, li_423, li_555, li_999, li_1000, li_1111, li_2968, li_9999, li_10631, li_12345, li_14092, li_21470, li_65536, li_99233, nz_eq, n1_eq, n1_lt, n1_gt, n1_le, n1_ge, n1_sub, n1_add, nm_add, nz_add, nz_add2, z1_ne, z1_lt, z1_le, nI_1, pk_sub, nI_ltI, nI_leI, nI_eq, ni_neg, ni_nneg, ni_pos0, ni_nle0, ni_m1, gI_eq, gI_ne, xI_sJ, xI_sR, xR_sI, xR_sJ, xJ_sI, xJ_sR, gJ_eq, gJ_ne, gR_eq, gR_ne, if_true, if_false, ite_true, ite_false, not_true_eq_false, not_false_eq_true, decide_true, and_self, true_and, and_true, false_and, and_false, or_true, true_or, or_false, false_or, reduceIte, ne_eq]
  · by_cases a2 : ctk T d = 20
    · simp (disch := omega) only [e2, a2, Nat.reduceEqDiff, bnd_e, grd_t, bdI_e, bdV_e, bokA, bokB, ni_inb, ni_cl, nI_add, pk_mul, li_2, li_3, li_4, li_5, li_6, li_7, li_8, li_9, li_10, li_11, li_12, li_13, li_14, li_15, li_16, li_17, li_18, li_19, li_20, li_21, li_22, li_23, li_24, li_25, li_26, li_27, li_28, li_29, li_30, li_31, li_32, li_33, li_34, li_35, li_36, li_37, li_38, li_39, li_40, li_41, li_42, li_43, li_44, li_45, li_46, li_47, li_48, li_49, li_50, li_51, li_52, li_53, li_54, li_55, li_56, li_57, li_58, li_59, li_60, li_61, li_63, li_70, li_96, li_97, li_99, li_100, li_101, li_102, li_120, li_122, li_126, li_200, li_255, li_423, li_555, li_999, li_1000, li_1111, li_2968, li_9999, li_10631, li_12345, li_14092, li_21470, li_65536, li_99233, nz_eq, n1_eq, n1_lt, n1_gt, n1_le, n1_ge, n1_sub, n1_add, nm_add, nz_add, nz_add2, z1_ne, z1_lt, z1_le, nI_1, pk_sub, nI_ltI, nI_leI, nI_eq, ni_neg, ni_nneg, ni_pos0, ni_nle0, ni_m1, gI_eq, gI_ne, xI_sJ, xI_sR, xR_sI, xR_sJ, xJ_sI, xJ_sR, gJ_eq, gJ_ne, gR_eq, gR_ne, if_true, if_false, ite_true, ite_false, not_true_eq_false, not_false_eq_true, decide_true, and_self, true_and, and_true, false_and, and_false, or_true, true_or, or_false, false_or, reduceIte, ne_eq]
    · by_cases a3 : ctk T d = 40
      · simp (disch := omega) only [e2, a3, Nat.reduceEqDiff, bnd_e, grd_t, bdI_e, bdV_e, bokA, bokB, ni_inb, ni_cl, nI_add, pk_mul, li_2, li_3, li_4, li_5, li_6, li_7, li_8, li_9, li_10, li_11, li_12, li_13, li_14, li_15, li_16, li_17, li_18, li_19, li_20, li_21, li_22, li_23, li_24, li_25, li_26, li_27, li_28, li_29, li_30, li_31, li_32, li_33, li_34, li_35, li_36, li_37, li_38, li_39, li_40, li_41, li_42, li_43, li_44, li_45, li_46, li_47, li_48, li_49, li_50, li_51, li_52, li_53, li_54, li_55, li_56, li_57, li_58, li_59, li_60, li_61, li_63, li_70, li_96, li_97, li_99, li_100, li_101, li_102, li_120, li_122, li_126, li_200, li_255, li_423, li_555, li_999, li_1000, li_1111, li_2968, li_9999, li_10631, li_12345, li_14092, li_21470, li_65536, li_99233, nz_eq, n1_eq, n1_lt, n1_gt, n1_le, n1_ge, n1_sub, n1_add, nm_add, nz_add, nz_add2, z1_ne, z1_lt, z1_le, nI_1, pk_sub, nI_ltI, nI_leI, nI_eq, ni_neg, ni_nneg, ni_pos0, ni_nle0, ni_m1, gI_eq, gI_ne, xI_sJ, xI_sR, xR_sI, xR_sJ, xJ_sI, xJ_sR, gJ_eq, gJ_ne, gR_eq, gR_ne, if_true, if_false, ite_true, ite_false, not_true_eq_false, not_false_eq_true, decide_true, and_self, true_and, and_true, false_and, and_false, or_true, true_or, or_false, false_or, reduceIte, ne_eq]
      · have k1 : knw l (ctk T d) = true := by
          rcases hs with q | q | q | q
          · exact (knw_f ok).mpr q
          · exact absurd ((tk_w ok (by decide)).mpr q) a2
          · exact absurd (tk_g.mpr q) a3
          · exact absurd ((ctk_n ok).1.mpr q) a1
        rw [k1, bO_t] at kn
        simp (disch := omega) only [e2, a1, a2, a3, kn, z1, bnd_e, grd_t, bdI_e, bdV_e, bokA, bokB, ni_inb, ni_cl, nI_add, pk_mul, li_2, li_3, li_4, li_5, li_6, li_7, li_8, li_9, li_10, li_11, li_12, li_13, li_14, li_15, li_16, li_17, li_18, li_19, li_20, li_21, li_22, li_23, li_24, li_25, li_26, li_27, li_28, li_29, li_30, li_31, li_32, li_33, li_34, li_35, li_36, li_37, li_38, li_39, li_40, li_41, li_42, li_43, li_44, li_45, li_46, li_47, li_48, li_49, li_50, li_51, li_52, li_53, li_54, li_55, li_56, li_57, li_58, li_59, li_60, li_61, li_63, li_70, li_96, li_97, li_99, li_100, li_101, li_102, li_120, li_122, li_126, li_200, li_255, li_423, li_555, li_999, li_1000, li_1111, li_2968, li_9999, li_10631, li_12345, li_14092, li_21470, li_65536, li_99233, nz_eq, n1_eq, n1_lt, n1_gt, n1_le, n1_ge, n1_sub, n1_add, nm_add, nz_add, nz_add2, z1_ne, z1_lt, z1_le, nI_1, pk_sub, nI_ltI, nI_leI, nI_eq, ni_neg, ni_nneg, ni_pos0, ni_nle0, ni_m1, gI_eq, gI_ne, xI_sJ, xI_sR, xR_sI, xR_sJ, xJ_sI, xJ_sR, gJ_eq, gJ_ne, gR_eq, gR_ne, if_true, if_false, ite_true, ite_false, not_true_eq_false, not_false_eq_true, decide_true, and_self, true_and, and_true, false_and, and_false, or_true, true_or, or_false, false_or, reduceIte, ne_eq]
theorem cNo5 {T : Nat → Nat} {n l b : Nat} {d : Tk} {c : List Int32} {m : Mm} {κe : Nat → Int32 → Int32 → Mm → Option (Int32 × Mm)} {κp : Nat → Int32 → Mm → Option (Int32 × Mm)} (hl : l < 2) (h : LwT T n l b d c m) (hs : fcN l d ≠ 0 ∨ isW d 20 = true ∨ isG T d 40 = true ∨ tkK d = 2) : f_X5_part_r κe κp b (nI 5) m = some (0, sI m 3 2 (nI (5 + 16 * tkb d))) := by
  rw [to49 hl h hs]
  have e1 := wrongE h.2.1 5
  unfold f_X5_part_J49
  simp (disch := omega) only [Nat.lt_irrefl, e1, bnd_e, grd_t, bdI_e, bdV_e, bokA, bokB, ni_inb, ni_cl, nI_add, pk_mul, li_2, li_3, li_4, li_5, li_6, li_7, li_8, li_9, li_10, li_11, li_12, li_13, li_14, li_15, li_16, li_17, li_18, li_19, li_20, li_21, li_22, li_23, li_24, li_25, li_26, li_27, li_28, li_29, li_30, li_31, li_32, li_33, li_34, li_35, li_36, li_37, li_38, li_39, li_40, li_41, li_42, li_43, li_44, li_45, li_46, li_47, li_48, li_49, li_50, li_51, li_52, li_53, li_54, li_55, li_56, li_57, li_58, li_59, li_60, li_61, li_63, li_70, li_96, li_97, li_99, li_100, li_101, li_102, li_120, li_122, li_126, li_200, li_255, li_423, li_555, li_999, li_1000, li_1111, li_2968, li_9999, li_10631, li_12345, li_14092, li_21470, li_65536, li_99233, nz_eq, n1_eq, n1_lt, n1_gt, n1_le, n1_ge, n1_sub, n1_add, nm_add, nz_add, nz_add2, z1_ne, z1_lt, z1_le, nI_1, pk_sub, nI_ltI, nI_leI, nI_eq, ni_neg, ni_nneg, ni_pos0, ni_nle0, ni_m1, gI_eq, gI_ne, xI_sJ, xI_sR, xR_sI, xR_sJ, xJ_sI, xJ_sR, gJ_eq, gJ_ne, gR_eq, gR_ne, if_true, if_false, ite_true, ite_false, not_true_eq_false, not_false_eq_true, decide_true, and_self, true_and, and_true, false_and, and_false, or_true, true_or, or_false, false_or, reduceIte, ne_eq]
theorem cAtom {T : Nat → Nat} {n l b : Nat} {d : Tk} {c : List Int32} {m : Mm} {δ : Nat} {κe : Nat → Int32 → Int32 → Mm → Option (Int32 × Mm)} {κp : Nat → Int32 → Mm → Option (Int32 × Mm)} (hT : TpOK T n) (hl : l < 2) (h : LwT T n l b d c m) (hδ : δ < 5) {x : Int32} (hx : (fcN l d ≠ 0 ∧ x = -1 - nI (fcN l d - 1)) ∨ (tkK d = 2 ∧ x = nI (tkv d))) : ∃ m', f_X5_part_r κe κp b (nI δ) m = some (1, m') ∧ LwT T n l b (tk T n (tke d)) (c ++ [x]) m' ∧ Kp (WLp b) m m' := by
  rw [to49 hl h (hx.elim (fun q => Or.inl q.1) (fun q => Or.inr (Or.inr (Or.inr q.1))))]
  obtain ⟨ok, hP, lw, cl, fl, l1, b4⟩ := h
  have n0 := hT.1
  have k0 : tkK d ≠ 0 := by
    rcases hx with q | q
    · intro e
      have := q.1
      unfold fcN at this
      rw [if_neg (fun r => by omega)] at this
      exact this rfl
    · omega
  have kb := ok.2.2.2.2.1 k0
  have te := ok.2.1
  have tok := tk_ok (T := T) (n := n) te
  obtain ⟨m1, e1, r1, r2⟩ := adv_P hT ok hP
  have lw1 : LwP c b m1 := lw.keep (r2.1 _ _ (by omega)) (fun k => r2.1 _ _ (by omega))
  obtain ⟨m2, e2, s1, s2⟩ := addC (x := x) l1 lw1 (by omega)
  refine ⟨m2, ?_, ⟨tok.1, r1.kp (fun a k h => s2.1 _ _ (by omega)) (s2.2.1 _ _ (by omega)), s1, by rw [List.length_append]; show c.length + 1 ≤ _; omega, ((s2.1 _ _ (by omega)).trans (r2.1 _ _ (by omega))).trans fl, l1, b4⟩, (r2.mono (fun a k q => by unfold WLp WRP; omega)).trans (s2.mono (fun a k q => by unfold WLp; omega))⟩
  have tail : f_X5_part_J143 κe κp b (nI δ) x m1 = some (1, m2) := by
    unfold f_X5_part_J143
    rw [e2, bdV_e]
    rfl
  unfold f_X5_part_J49
  rcases hx with ⟨q1, q2⟩ | ⟨q1, q2⟩
  · obtain ⟨f1, f2, f3⟩ := fc_ct (T := T) ok q1
    have a1 : ¬ ctk T d = 100 := by omega
    have a2 : ¬ ctk T d = 20 := by omega
    have a3 : ¬ ctk T d = 40 := by omega
    have s3 : nI (ctk T d) - nI 23 = nI (fcN l d - 1) := by
      rw [pk_sub (by omega), show ctk T d - 23 = fcN l d - 1 by omega]
    have cb := ctk_b ok
    simp (disch := omega) only [hδ, e1, bdV_e, a1, a2, a3, s3, bnd_e, grd_t, bdI_e, bdV_e, bokA, bokB, ni_inb, ni_cl, nI_add, pk_mul, li_2, li_3, li_4, li_5, li_6, li_7, li_8, li_9, li_10, li_11, li_12, li_13, li_14, li_15, li_16, li_17, li_18, li_19, li_20, li_21, li_22, li_23, li_24, li_25, li_26, li_27, li_28, li_29, li_30, li_31, li_32, li_33, li_34, li_35, li_36, li_37, li_38, li_39, li_40, li_41, li_42, li_43, li_44, li_45, li_46, li_47, li_48, li_49, li_50, li_51, li_52, li_53, li_54, li_55, li_56, li_57, li_58, li_59, li_60, li_61, li_63, li_70, li_96, li_97, li_99, li_100, li_101, li_102, li_120, li_122, li_126, li_200, li_255, li_423, li_555, li_999, li_1000, li_1111, li_2968, li_9999, li_10631, li_12345, li_14092, li_21470, li_65536, li_99233, nz_eq, n1_eq, n1_lt, n1_gt, n1_le, n1_ge, n1_sub, n1_add, nm_add, nz_add, nz_add2, z1_ne, z1_lt, z1_le, nI_1, pk_sub, nI_ltI, nI_leI, nI_eq, ni_neg, ni_nneg, ni_pos0, ni_nle0, ni_m1, gI_eq, gI_ne, xI_sJ, xI_sR, xR_sI, xR_sJ, xJ_sI, xJ_sR, gJ_eq, gJ_ne, gR_eq, gR_ne, if_true, if_false, ite_true, ite_false, not_true_eq_false, not_false_eq_true, decide_true, and_self, true_and, and_true, false_and, and_false, or_true, true_or, or_false, false_or, reduceIte, ne_eq]
    rw [← q2]
    exact tail
  · have a1 : ctk T d = 100 := (ctk_n ok).1.mpr q1
    have e5 := hP.2.2.2.2.2 q1
    simp (disch := omega) only [hδ, e1, bdV_e, a1, Nat.reduceEqDiff, e5, bnd_e, grd_t, bdI_e, bdV_e, bokA, bokB, ni_inb, ni_cl, nI_add, pk_mul, li_2, li_3, li_4, li_5, li_6, li_7, li_8, li_9, li_10, li_11, li_12, li_13, li_14, li_15, li_16, li_17, li_18, li_19, li_20, li_21, li_22, li_23, li_24, li_25, li_26, li_27, li_28, li_29, li_30, li_31, li_32, li_33, li_34, li_35, li_36, li_37, li_38, li_39, li_40, li_41, li_42, li_43, li_44, li_45, li_46, li_47, li_48, li_49, li_50, li_51, li_52, li_53, li_54, li_55, li_56, li_57, li_58, li_59, li_60, li_61, li_63, li_70, li_96, li_97, li_99, li_100, li_101, li_102, li_120, li_122, li_126, li_200, li_255, li_423, li_555, li_999, li_1000, li_1111, li_2968, li_9999, li_10631, li_12345, li_14092, li_21470, li_65536, li_99233, nz_eq, n1_eq, n1_lt, n1_gt, n1_le, n1_ge, n1_sub, n1_add, nm_add, nz_add, nz_add2, z1_ne, z1_lt, z1_le, nI_1, pk_sub, nI_ltI, nI_leI, nI_eq, ni_neg, ni_nneg, ni_pos0, ni_nle0, ni_m1, gI_eq, gI_ne, xI_sJ, xI_sR, xR_sI, xR_sJ, xJ_sI, xJ_sR, gJ_eq, gJ_ne, gR_eq, gR_ne, if_true, if_false, ite_true, ite_false, not_true_eq_false, not_false_eq_true, decide_true, and_self, true_and, and_true, false_and, and_false, or_true, true_or, or_false, false_or, reduceIte, ne_eq]
    rw [← q2]
    exact tail
