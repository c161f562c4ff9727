theorem Sfe.at {f : Nat → Int32} {B : Nat} : ∀ {cs : List Nat} {s : Wk} (i : Nat), Sfe f B s cs → i ≤ cs.length → ((cs.take i).foldl (kSt f) s).1 ≤ B ∧ (i < cs.length → cs.getD i 0 = 29 → 1 ≤ ((cs.take i).foldl (kSt f) s).1)
  | [], s, i, h, hi => by
    have : i = 0 := by
      have : i ≤ 0 := hi
      omega
    subst this
    exact ⟨h, fun q => absurd q (Nat.not_lt_zero _)⟩
  | c :: cs, s, 0, h, _ => ⟨h.1, fun _ q => h.2.1 q⟩
  | c :: cs, s, i + 1, h, hi => Sfe.at (cs := cs) i h.2.2 (Nat.le_of_succ_le_succ hi) |>.imp id (fun g q e => g (Nat.lt_of_succ_lt_succ q) e)
theorem takeN {c : List Nat} {i : Nat} (hi : i < c.length) {α : Type} (f : α → Nat → α) (z : α) : (c.take (i + 1)).foldl f z = f ((c.take i).foldl f z) (c.getD i 0) := by
  rw [take_snoc hi, List.foldl_append]
  rfl
theorem delivK {K : Nat → Nat → Int32} {m m' : Mm} {d j : Nat} {v : Int32} {p1 : Int32} {k14 : Int32 → Int32 → Mm → Option (Int32 × Mm)} {Q : Int32 × Mm → Prop} (hd : d < 7) (h : InK K m') (kp : Kp WK m m') (hj : j < 3000) (hk : ∀ n, InK (kDe K d v).2 n → Kp WK m n → Sat (k14 (nI (kDe K d v).1) (nI (j + 1)) n) Q) : Sat (lop (fun _ _ _ _ => none) (f_X12_worked_B268 p1 k14) 4000 (nI d) (nI j) v m') Q := by
  refine lopR4 (fun n x54 x55 x56 m1 => ∃ d' v', n = d' ∧ d' < 7 ∧ x54 = nI d' ∧ x55 = nI j ∧ x56 = v' ∧ m1 = m' ∧ kDe K d' v' = kDe K d v) ?_ 4000 d (by omega) _ _ _ _ ⟨d, v, rfl, hd, rfl, rfl, rfl, rfl, rfl⟩
  intro n x54 x55 x56 m1 k ⟨d', v', hn, hd', e1, e2, e3, e4, ek⟩ hk'
  subst e1
  subst e2
  subst e3
  subst e4
  have e24 := h 24 d' (by decide) (by decide) hd'
  have e25 := h 25 d' (by decide) (by decide) hd'
  have fin : kDe K d' x56 = (d', up K 24 d' (if K 25 d' = 0 then x56 else K 24 d' * x56)) → Sat (f_X12_worked_J300 p1 k14 (nI d') (nI j) x56 m1) Q := by
    intro e
    rw [← ek, e] at hk
    unfold f_X12_worked_J300 f_X12_worked_J328 f_X12_worked_J329
    by_cases z : K 25 d' = 0
    · rw [if_pos z] at hk
      simp (disch := omega) only [e25, z, bnd_e, grd_t, bdI_e, bdV_e, bokA, bokB, ni_inb, ni_cl, nI_add, pk_mul, li_2, li_3, li_4, li_5, li_6, li_7, li_8, li_9, li_10, li_11, li_12, li_13, li_14, li_15, li_16, li_17, li_18, li_19, li_20, li_21, li_22, li_23, li_24, li_25, li_26, li_27, li_28, li_29, li_30, li_31, li_32, li_33, li_34, li_35, li_36, li_37, li_38, li_39, li_40, li_41, li_42, li_43, li_44, li_45, li_46, li_47, li_48, li_49, li_50, li_51, li_52, li_53, li_54, li_55, li_56, li_57, li_58, li_59, li_60, li_61, li_63, li_70, li_96, li_97, li_99, li_100, li_101, li_102, li_120, li_122, li_126, li_200, li_255, li_423, li_555, li_999, li_1000, li_1111, li_2968, li_9999, li_10631, li_12345, li_14092, li_21470, li_65536, li_99233, nz_eq, n1_eq, n1_lt, n1_gt, n1_le, n1_ge, n1_sub, n1_add, nm_add, nz_add, nz_add2, z1_ne, z1_lt, z1_le, nI_1, pk_sub, nI_ltI, nI_leI, nI_eq, ni_neg, ni_nneg, ni_pos0, ni_nle0, ni_m1, gI_eq, gI_ne, xI_sJ, xI_sR, xR_sI, xR_sJ, xJ_sI, xJ_sR, gJ_eq, gJ_ne, gR_eq, gR_ne, if_true, if_false, ite_true, ite_false, not_true_eq_false, not_false_eq_true, decide_true, and_self, true_and, and_true, false_and, and_false, or_true, true_or, or_false, false_or, reduceIte, ne_eq]
      exact hk _ (h.s 24 d' _) (kp.sI _ (by unfold WK; omega))
    · rw [if_neg z] at hk
      simp (disch := omega) only [e25, z, e24, bnd_e, grd_t, bdI_e, bdV_e, bokA, bokB, ni_inb, ni_cl, nI_add, pk_mul, li_2, li_3, li_4, li_5, li_6, li_7, li_8, li_9, li_10, li_11, li_12, li_13, li_14, li_15, li_16, li_17, li_18, li_19, li_20, li_21, li_22, li_23, li_24, li_25, li_26, li_27, li_28, li_29, li_30, li_31, li_32, li_33, li_34, li_35, li_36, li_37, li_38, li_39, li_40, li_41, li_42, li_43, li_44, li_45, li_46, li_47, li_48, li_49, li_50, li_51, li_52, li_53, li_54, li_55, li_56, li_57, li_58, li_59, li_60, li_61, li_63, li_70, li_96, li_97, li_99, li_100, li_101, li_102, li_120, li_122, li_126, li_200, li_255, li_423, li_555, li_999, li_1000, li_1111, li_2968, li_9999, li_10631, li_12345, li_14092, li_21470, li_65536, li_99233, nz_eq, n1_eq, n1_lt, n1_gt, n1_le, n1_ge, n1_sub, n1_add, nm_add, nz_add, nz_add2, z1_ne, z1_lt, z1_le, nI_1, pk_sub, nI_ltI, nI_leI, nI_eq, ni_neg, ni_nneg, ni_pos0, ni_nle0, ni_m1, gI_eq, gI_ne, xI_sJ, xI_sR, xR_sI, xR_sJ, xJ_sI, xJ_sR, gJ_eq, gJ_ne, gR_eq, gR_ne, if_true, if_false, ite_true, ite_false, not_true_eq_false, not_false_eq_true, decide_true, and_self, true_and, and_true, false_and, and_false, or_true, true_or, or_false, false_or, reduceIte, ne_eq]
      exact hk _ (h.s 24 d' _) (kp.sI _ (by unfold WK; omega))
  unfold f_X12_worked_B268 f_X12_worked_J292
  cases d' with
  | zero =>
    simp (disch := omega) only [Nat.le_refl, bnd_e, grd_t, bdI_e, bdV_e, bokA, bokB, ni_inb, ni_cl, nI_add, pk_mul, li_2, li_3, li_4, li_5, li_6, li_7, li_8, li_9, li_10, li_11, li_12, li_13, li_14, li_15, li_16, li_17, li_18, li_19, li_20, li_21, li_22, li_23, li_24, li_25, li_26, li_27, li_28, li_29, li_30, li_31, li_32, li_33, li_34, li_35, li_36, li_37, li_38, li_39, li_40, li_41, li_42, li_43, li_44, li_45, li_46, li_47, li_48, li_49, li_50, li_51, li_52, li_53, li_54, li_55, li_56, li_57, li_58, li_59, li_60, li_61, li_63, li_70, li_96, li_97, li_99, li_100, li_101, li_102, li_120, li_122, li_126, li_200, li_255, li_423, li_555, li_999, li_1000, li_1111, li_2968, li_9999, li_10631, li_12345, li_14092, li_21470, li_65536, li_99233, nz_eq, n1_eq, n1_lt, n1_gt, n1_le, n1_ge, n1_sub, n1_add, nm_add, nz_add, nz_add2, z1_ne, z1_lt, z1_le, nI_1, pk_sub, nI_ltI, nI_leI, nI_eq, ni_neg, ni_nneg, ni_pos0, ni_nle0, ni_m1, gI_eq, gI_ne, xI_sJ, xI_sR, xR_sI, xR_sJ, xJ_sI, xJ_sR, gJ_eq, gJ_ne, gR_eq, gR_ne, if_true, if_false, ite_true, ite_false, not_true_eq_false, not_false_eq_true, decide_true, and_self, true_and, and_true, false_and, and_false, or_true, true_or, or_false, false_or, reduceIte, ne_eq]
    exact fin rfl
  | succ d' =>
    have n1 : ¬ d' + 1 ≤ 0 := by omega
    have e26 := h 26 (d' + 1) (by decide) (by decide) hd'
    have ee : kDe K (d' + 1) x56 = if K 26 (d' + 1) = 1 then kDe K d' (if x56 = 0 then 1 else 0) else (d' + 1, up K 24 (d' + 1) (if K 25 (d' + 1) = 0 then x56 else K 24 (d' + 1) * x56)) := rfl
    by_cases z : K 26 (d' + 1) = 1
    · rw [if_pos z] at ee
      by_cases y : x56 = 0
      · rw [if_pos y] at ee
        simp (disch := omega) only [n1, e26, z, y, Nat.add_sub_cancel, bnd_e, grd_t, bdI_e, bdV_e, bokA, bokB, ni_inb, ni_cl, nI_add, pk_mul, li_2, li_3, li_4, li_5, li_6, li_7, li_8, li_9, li_10, li_11, li_12, li_13, li_14, li_15, li_16, li_17, li_18, li_19, li_20, li_21, li_22, li_23, li_24, li_25, li_26, li_27, li_28, li_29, li_30, li_31, li_32, li_33, li_34, li_35, li_36, li_37, li_38, li_39, li_40, li_41, li_42, li_43, li_44, li_45, li_46, li_47, li_48, li_49, li_50, li_51, li_52, li_53, li_54, li_55, li_56, li_57, li_58, li_59, li_60, li_61, li_63, li_70, li_96, li_97, li_99, li_100, li_101, li_102, li_120, li_122, li_126, li_200, li_255, li_423, li_555, li_999, li_1000, li_1111, li_2968, li_9999, li_10631, li_12345, li_14092, li_21470, li_65536, li_99233, nz_eq, n1_eq, n1_lt, n1_gt, n1_le, n1_ge, n1_sub, n1_add, nm_add, nz_add, nz_add2, z1_ne, z1_lt, z1_le, nI_1, pk_sub, nI_ltI, nI_leI, nI_eq, ni_neg, ni_nneg, ni_pos0, ni_nle0, ni_m1, gI_eq, gI_ne, xI_sJ, xI_sR, xR_sI, xR_sJ, xJ_sI, xJ_sR, gJ_eq, gJ_ne, gR_eq, gR_ne, if_true, if_false, ite_true, ite_false, not_true_eq_false, not_false_eq_true, decide_true, and_self, true_and, and_true, false_and, and_false, or_true, true_or, or_false, false_or, reduceIte, ne_eq]
        exact hk' d' _ _ _ _ (by omega) ⟨d', 1, rfl, by omega, rfl, rfl, rfl, rfl, by rw [← ek, ee]⟩
      · rw [if_neg y] at ee
        simp (disch := omega) only [n1, e26, z, y, Nat.add_sub_cancel, bnd_e, grd_t, bdI_e, bdV_e, bokA, bokB, ni_inb, ni_cl, nI_add, pk_mul, li_2, li_3, li_4, li_5, li_6, li_7, li_8, li_9, li_10, li_11, li_12, li_13, li_14, li_15, li_16, li_17, li_18, li_19, li_20, li_21, li_22, li_23, li_24, li_25, li_26, li_27, li_28, li_29, li_30, li_31, li_32, li_33, li_34, li_35, li_36, li_37, li_38, li_39, li_40, li_41, li_42, li_43, li_44, li_45, li_46, li_47, li_48, li_49, li_50, li_51, li_52, li_53, li_54, li_55, li_56, li_57, li_58, li_59, li_60, li_61, li_63, li_70, li_96, li_97, li_99, li_100, li_101, li_102, li_120, li_122, li_126, li_200, li_255, li_423, li_555, li_999, li_1000, li_1111, li_2968, li_9999, li_10631, li_12345, li_14092, li_21470, li_65536, li_99233, nz_eq, n1_eq, n1_lt, n1_gt, n1_le, n1_ge, n1_sub, n1_add, nm_add, nz_add, nz_add2, z1_ne, z1_lt, z1_le, nI_1, pk_sub, nI_ltI, nI_leI, nI_eq, ni_neg, ni_nneg, ni_pos0, ni_nle0, ni_m1, gI_eq, gI_ne, xI_sJ, xI_sR, xR_sI, xR_sJ, xJ_sI, xJ_sR, gJ_eq, gJ_ne, gR_eq, gR_ne, if_true, if_false, ite_true, ite_false, not_true_eq_false, not_false_eq_true, decide_true, and_self, true_and, and_true, false_and, and_false, or_true, true_or, or_false, false_or, reduceIte, ne_eq]
        exact hk' d' _ _ _ _ (by omega) ⟨d', 0, rfl, by omega, rfl, rfl, rfl, rfl, by rw [← ek, ee]⟩
    · rw [if_neg z] at ee
      simp (disch := omega) only [n1, e26, z, bnd_e, grd_t, bdI_e, bdV_e, bokA, bokB, ni_inb, ni_cl, nI_add, pk_mul, li_2, li_3, li_4, li_5, li_6, li_7, li_8, li_9, li_10, li_11, li_12, li_13, li_14, li_15, li_16, li_17, li_18, li_19, li_20, li_21, li_22, li_23, li_24, li_25, li_26, li_27, li_28, li_29, li_30, li_31, li_32, li_33, li_34, li_35, li_36, li_37, li_38, li_39, li_40, li_41, li_42, li_43, li_44, li_45, li_46, li_47, li_48, li_49, li_50, li_51, li_52, li_53, li_54, li_55, li_56, li_57, li_58, li_59, li_60, li_61, li_63, li_70, li_96, li_97, li_99, li_100, li_101, li_102, li_120, li_122, li_126, li_200, li_255, li_423, li_555, li_999, li_1000, li_1111, li_2968, li_9999, li_10631, li_12345, li_14092, li_21470, li_65536, li_99233, nz_eq, n1_eq, n1_lt, n1_gt, n1_le, n1_ge, n1_sub, n1_add, nm_add, nz_add, nz_add2, z1_ne, z1_lt, z1_le, nI_1, pk_sub, nI_ltI, nI_leI, nI_eq, ni_neg, ni_nneg, ni_pos0, ni_nle0, ni_m1, gI_eq, gI_ne, xI_sJ, xI_sR, xR_sI, xR_sJ, xJ_sI, xJ_sR, gJ_eq, gJ_ne, gR_eq, gR_ne, if_true, if_false, ite_true, ite_false, not_true_eq_false, not_false_eq_true, decide_true, and_self, true_and, and_true, false_and, and_false, or_true, true_or, or_false, false_or, reduceIte, ne_eq]
      exact fin ee
theorem workedK {cM : List Nat} {l a : Nat} {m : Mm} {g : Nat → Int32} (hl : l < 2) (hg : ∀ c, 1 ≤ c → c < 20 → gI m 27 c = g c) (hc : ∀ i, i < cM.length → 1 ≤ cM.getD i 0 ∧ cM.getD i 0 ≤ 20000) (hm : LwM (cM.map nI) l a m) (hs : Sfe g 6 (0, kOp (fun c i => gI m c i) 0) cM) : Sat (f_X12_worked (nI l) m) (fun q => q.1 = kLv (cM.foldl (kSt g) (0, kOp (fun c i => gI m c i) 0)).2 0 ∧ Kp WK m q.2) := by
  have len : (cM.map nI).length = cM.length := List.length_map ..
  obtain ⟨m1, m2, m3, m4⟩ := hm
  rw [len] at m1 m3 m4
  have gd : ∀ i, i < cM.length → gI m 15 (a + i) = nI (cM.getD i 0) := by
    intro i hi
    rw [m4 i hi, List.getD_eq_getElem?_getD, List.getElem?_map, List.getD_eq_getElem?_getD, List.getElem?_eq_getElem hi]
    rfl
  unfold f_X12_worked
  rw [Sat_bdV]
  refine (opensK (K := fun c i => gI m c i) (by decide : 0 < 7) (fun _ _ _ _ _ => rfl)).mono ?_
  intro n0 ⟨o1, o2⟩
  have e13 : gI n0 13 l = nI a := (o2.1 _ _ (by unfold WK; omega)).trans m2
  generalize kOp (fun c i => gI m c i) 0 = K0 at o1 hs
  simp (disch := omega) only [e13, bnd_e, grd_t, bdI_e, bdV_e, bokA, bokB, ni_inb, ni_cl, nI_add, pk_mul, li_2, li_3, li_4, li_5, li_6, li_7, li_8, li_9, li_10, li_11, li_12, li_13, li_14, li_15, li_16, li_17, li_18, li_19, li_20, li_21, li_22, li_23, li_24, li_25, li_26, li_27, li_28, li_29, li_30, li_31, li_32, li_33, li_34, li_35, li_36, li_37, li_38, li_39, li_40, li_41, li_42, li_43, li_44, li_45, li_46, li_47, li_48, li_49, li_50, li_51, li_52, li_53, li_54, li_55, li_56, li_57, li_58, li_59, li_60, li_61, li_63, li_70, li_96, li_97, li_99, li_100, li_101, li_102, li_120, li_122, li_126, li_200, li_255, li_423, li_555, li_999, li_1000, li_1111, li_2968, li_9999, li_10631, li_12345, li_14092, li_21470, li_65536, li_99233, nz_eq, n1_eq, n1_lt, n1_gt, n1_le, n1_ge, n1_sub, n1_add, nm_add, nz_add, nz_add2, z1_ne, z1_lt, z1_le, nI_1, pk_sub, nI_ltI, nI_leI, nI_eq, ni_neg, ni_nneg, ni_pos0, ni_nle0, ni_m1, gI_eq, gI_ne, xI_sJ, xI_sR, xR_sI, xR_sJ, xJ_sI, xJ_sR, gJ_eq, gJ_ne, gR_eq, gR_ne, if_true, if_false, ite_true, ite_false, not_true_eq_false, not_false_eq_true, decide_true, and_self, true_and, and_true, false_and, and_false, or_true, true_or, or_false, false_or, reduceIte, ne_eq]
  refine cnt2 (A := Int32) a (a + cM.length) (by omega) (by omega) (fun i x n => x = nI ((cM.take (i - a)).foldl (kSt g) (0, K0)).1 ∧ InK ((cM.take (i - a)).foldl (kSt g) (0, K0)).2 n ∧ Kp WK m n) ?_ ?_ ⟨by rw [Nat.sub_self]; rfl, by rw [Nat.sub_self]; exact o1, o2⟩
  · intro i' x n k h1 h2 ⟨a1, a2, a3⟩ hk
    obtain ⟨i, rfl⟩ : ∃ i, i' = a + i := ⟨i' - a, by omega⟩
    have hi : i < cM.length := by omega
    rw [Nat.add_sub_cancel_left] at a1 a2
    rw [show a + i + 1 - a = i + 1 by omega, takeN hi] at hk
    have sA := Sfe.at i hs (by omega)
    have sB := (Sfe.at (i + 1) hs (by omega)).1
    rw [takeN hi] at sB
    have s29 := sA.2 hi
    have sA1 := sA.1
    have cb := hc i hi
    have e15 : gI n 15 (a + i) = nI (cM.getD i 0) := (a3.1 _ _ (by unfold WK; omega)).trans (gd i hi)
    have e14 : gI n 14 l = nI (a + cM.length) := (a3.1 _ _ (by unfold WK; omega)).trans m3
    generalize (cM.take i).foldl (kSt g) (0, K0) = s at a1 a2 hk sA1 sB s29
    obtain ⟨d, K⟩ := s
    subst a1
    have d7 : d < 7 := by
      have : d ≤ 6 := sA1
      omega
    have e27 : ∀ c, 1 ≤ c → c < 20 → gI n 27 c = g c := fun c c1 c2 => (a3.1 _ _ (by unfold WK; omega)).trans (hg c c1 c2)
    generalize cM.getD i 0 = c at hk cb e15 s29 sB
    have n1 : ¬ a + cM.length ≤ a + i := by omega
    have ne : ∀ k : Nat, k < 2 ^ 31 → c ≠ k → ¬ nI c = nI k := fun k hk h q => h ((nI_eq (by omega) hk).mp q)
    unfold f_X12_worked_B14
    rw [ni_inb (show l < 4 by omega) (by decide), grd_t, ni_cl _ (by omega), e14, if_neg (fun q => n1 ((nI_leI (by omega) (by omega)).mp q)), ni_inb (show a + i < 2000 by omega) (by decide), grd_t, bnd_e, ni_cl _ (by omega), e15]
    by_cases c1 : c = 28 ∨ c = 30
    · have ks : kSt g (d, K) c = (d + 1, kOp (up K 26 (d + 1) (if c = 30 then 1 else 0)) (d + 1)) := if_pos c1
      rw [ks] at hk sB
      have d6 : d + 1 < 7 := by
        have : d + 1 ≤ 6 := sB
        omega
      have go : ∀ v : Int32, v = (if c = 30 then 1 else 0) → Sat (f_X12_worked_J66 (nI l) k (nI (d + 1)) (nI (a + i)) v (nI (d + 1)) n) (fun q => q.1 = kLv (cM.foldl (kSt g) (0, K0)).2 0 ∧ Kp WK m q.2) := by
        intro v hv
        unfold f_X12_worked_J66 f_X12_worked_J329
        simp (disch := omega) only [bnd_e, grd_t, bdI_e, bdV_e, bokA, bokB, ni_inb, ni_cl, nI_add, pk_mul, li_2, li_3, li_4, li_5, li_6, li_7, li_8, li_9, li_10, li_11, li_12, li_13, li_14, li_15, li_16, li_17, li_18, li_19, li_20, li_21, li_22, li_23, li_24, li_25, li_26, li_27, li_28, li_29, li_30, li_31, li_32, li_33, li_34, li_35, li_36, li_37, li_38, li_39, li_40, li_41, li_42, li_43, li_44, li_45, li_46, li_47, li_48, li_49, li_50, li_51, li_52, li_53, li_54, li_55, li_56, li_57, li_58, li_59, li_60, li_61, li_63, li_70, li_96, li_97, li_99, li_100, li_101, li_102, li_120, li_122, li_126, li_200, li_255, li_423, li_555, li_999, li_1000, li_1111, li_2968, li_9999, li_10631, li_12345, li_14092, li_21470, li_65536, li_99233, nz_eq, n1_eq, n1_lt, n1_gt, n1_le, n1_ge, n1_sub, n1_add, nm_add, nz_add, nz_add2, z1_ne, z1_lt, z1_le, nI_1, pk_sub, nI_ltI, nI_leI, nI_eq, ni_neg, ni_nneg, ni_pos0, ni_nle0, ni_m1, gI_eq, gI_ne, xI_sJ, xI_sR, xR_sI, xR_sJ, xJ_sI, xJ_sR, gJ_eq, gJ_ne, gR_eq, gR_ne, if_true, if_false, ite_true, ite_false, not_true_eq_false, not_false_eq_true, decide_true, and_self, true_and, and_true, false_and, and_false, or_true, true_or, or_false, false_or, reduceIte, ne_eq]
        rw [Sat_bdV]
        refine (opensK (K := up K 26 (d + 1) v) d6 (a2.s 26 (d + 1) v)).mono ?_
        intro n2 ⟨b1, b2⟩
        refine hk _ _ ⟨rfl, ?_, (a3.sI _ (by unfold WK; omega)).trans b2⟩
        rw [← hv]
        exact b1
      unfold f_X12_worked_J46
      rcases c1 with rfl | rfl
      · rw [if_pos (show nI 28 = 28 from rfl)]
        have z : ¬ 28 = 30 := by decide
        have g0 := go 0 (if_neg z).symm
        simp (disch := omega) only [z, bnd_e, grd_t, bdI_e, bdV_e, bokA, bokB, ni_inb, ni_cl, nI_add, pk_mul, li_2, li_3, li_4, li_5, li_6, li_7, li_8, li_9, li_10, li_11, li_12, li_13, li_14, li_15, li_16, li_17, li_18, li_19, li_20, li_21, li_22, li_23, li_24, li_25, li_26, li_27, li_28, li_29, li_30, li_31, li_32, li_33, li_34, li_35, li_36, li_37, li_38, li_39, li_40, li_41, li_42, li_43, li_44, li_45, li_46, li_47, li_48, li_49, li_50, li_51, li_52, li_53, li_54, li_55, li_56, li_57, li_58, li_59, li_60, li_61, li_63, li_70, li_96, li_97, li_99, li_100, li_101, li_102, li_120, li_122, li_126, li_200, li_255, li_423, li_555, li_999, li_1000, li_1111, li_2968, li_9999, li_10631, li_12345, li_14092, li_21470, li_65536, li_99233, nz_eq, n1_eq, n1_lt, n1_gt, n1_le, n1_ge, n1_sub, n1_add, nm_add, nz_add, nz_add2, z1_ne, z1_lt, z1_le, nI_1, pk_sub, nI_ltI, nI_leI, nI_eq, ni_neg, ni_nneg, ni_pos0, ni_nle0, ni_m1, gI_eq, gI_ne, xI_sJ, xI_sR, xR_sI, xR_sJ, xJ_sI, xJ_sR, gJ_eq, gJ_ne, gR_eq, gR_ne, if_true, if_false, ite_true, ite_false, not_true_eq_false, not_false_eq_true, decide_true, and_self, true_and, and_true, false_and, and_false, or_true, true_or, or_false, false_or, reduceIte, ne_eq]
        exact g0
      · rw [if_neg (show ¬ nI 30 = 28 by decide), if_neg (show ¬ ¬ nI 30 = 30 from fun q => q rfl)]
        have g0 := go 1 (if_pos rfl).symm
        simp (disch := omega) only [bnd_e, grd_t, bdI_e, bdV_e, bokA, bokB, ni_inb, ni_cl, nI_add, pk_mul, li_2, li_3, li_4, li_5, li_6, li_7, li_8, li_9, li_10, li_11, li_12, li_13, li_14, li_15, li_16, li_17, li_18, li_19, li_20, li_21, li_22, li_23, li_24, li_25, li_26, li_27, li_28, li_29, li_30, li_31, li_32, li_33, li_34, li_35, li_36, li_37, li_38, li_39, li_40, li_41, li_42, li_43, li_44, li_45, li_46, li_47, li_48, li_49, li_50, li_51, li_52, li_53, li_54, li_55, li_56, li_57, li_58, li_59, li_60, li_61, li_63, li_70, li_96, li_97, li_99, li_100, li_101, li_102, li_120, li_122, li_126, li_200, li_255, li_423, li_555, li_999, li_1000, li_1111, li_2968, li_9999, li_10631, li_12345, li_14092, li_21470, li_65536, li_99233, nz_eq, n1_eq, n1_lt, n1_gt, n1_le, n1_ge, n1_sub, n1_add, nm_add, nz_add, nz_add2, z1_ne, z1_lt, z1_le, nI_1, pk_sub, nI_ltI, nI_leI, nI_eq, ni_neg, ni_nneg, ni_pos0, ni_nle0, ni_m1, gI_eq, gI_ne, xI_sJ, xI_sR, xR_sI, xR_sJ, xJ_sI, xJ_sR, gJ_eq, gJ_ne, gR_eq, gR_ne, if_true, if_false, ite_true, ite_false, not_true_eq_false, not_false_eq_true, decide_true, and_self, true_and, and_true, false_and, and_false, or_true, true_or, or_false, false_or, reduceIte, ne_eq]
        exact g0
    have k1 : ∀ x y : Wk, (if c = 28 ∨ c = 30 then x else y) = y := fun x y => if_neg c1
    rw [if_neg (show ¬ nI c = 28 from ne 28 (by decide) (by omega)), if_pos (show ¬ nI c = 30 from ne 30 (by decide) (by omega))]
    by_cases c2 : c = 20 ∨ c = 21
    · have ks : kSt g (d, K) c = (d, up (kSu K d) 23 d (nI c)) := by
        unfold kSt
        rw [if_neg c1, if_pos c2]
      rw [ks] at hk
      have go : Sat (f_X12_worked_J89 (nI l) k (nI d) (nI (a + i)) (nI c) n) (fun q => q.1 = kLv (cM.foldl (kSt g) (0, K0)).2 0 ∧ Kp WK m q.2) := by
        unfold f_X12_worked_J89 f_X12_worked_J329
        rw [Sat_bdV]
        refine (sumsK d7 a2).mono ?_
        intro n2 ⟨b1, b2⟩
        simp (disch := omega) only [bnd_e, grd_t, bdI_e, bdV_e, bokA, bokB, ni_inb, ni_cl, nI_add, pk_mul, li_2, li_3, li_4, li_5, li_6, li_7, li_8, li_9, li_10, li_11, li_12, li_13, li_14, li_15, li_16, li_17, li_18, li_19, li_20, li_21, li_22, li_23, li_24, li_25, li_26, li_27, li_28, li_29, li_30, li_31, li_32, li_33, li_34, li_35, li_36, li_37, li_38, li_39, li_40, li_41, li_42, li_43, li_44, li_45, li_46, li_47, li_48, li_49, li_50, li_51, li_52, li_53, li_54, li_55, li_56, li_57, li_58, li_59, li_60, li_61, li_63, li_70, li_96, li_97, li_99, li_100, li_101, li_102, li_120, li_122, li_126, li_200, li_255, li_423, li_555, li_999, li_1000, li_1111, li_2968, li_9999, li_10631, li_12345, li_14092, li_21470, li_65536, li_99233, nz_eq, n1_eq, n1_lt, n1_gt, n1_le, n1_ge, n1_sub, n1_add, nm_add, nz_add, nz_add2, z1_ne, z1_lt, z1_le, nI_1, pk_sub, nI_ltI, nI_leI, nI_eq, ni_neg, ni_nneg, ni_pos0, ni_nle0, ni_m1, gI_eq, gI_ne, xI_sJ, xI_sR, xR_sI, xR_sJ, xJ_sI, xJ_sR, gJ_eq, gJ_ne, gR_eq, gR_ne, if_true, if_false, ite_true, ite_false, not_true_eq_false, not_false_eq_true, decide_true, and_self, true_and, and_true, false_and, and_false, or_true, true_or, or_false, false_or, reduceIte, ne_eq]
        exact hk _ _ ⟨rfl, b1.s 23 d _, (a3.trans b2).sI _ (by unfold WK; omega)⟩
      rcases c2 with rfl | rfl
      · rw [if_pos (show nI 20 = 20 from rfl)]
        exact go
      · rw [if_neg (show ¬ nI 21 = 20 by decide), if_neg (show ¬ ¬ nI 21 = 21 from fun q => q rfl)]
        exact go
    rw [if_neg (show ¬ nI c = 20 from ne 20 (by decide) (by omega)), if_pos (show ¬ nI c = 21 from ne 21 (by decide) (by omega))]
    by_cases c3 : c = 22
    · subst c3
      have ks : kSt g (d, K) 22 = (d, up K 25 d (nI 22)) := by
        unfold kSt
        rw [if_neg c1, if_neg c2, if_pos rfl]
      rw [ks] at hk
      rw [if_neg (show ¬ ¬ nI 22 = 22 from fun q => q rfl)]
      unfold f_X12_worked_J329
      simp (disch := omega) only [bnd_e, grd_t, bdI_e, bdV_e, bokA, bokB, ni_inb, ni_cl, nI_add, pk_mul, li_2, li_3, li_4, li_5, li_6, li_7, li_8, li_9, li_10, li_11, li_12, li_13, li_14, li_15, li_16, li_17, li_18, li_19, li_20, li_21, li_22, li_23, li_24, li_25, li_26, li_27, li_28, li_29, li_30, li_31, li_32, li_33, li_34, li_35, li_36, li_37, li_38, li_39, li_40, li_41, li_42, li_43, li_44, li_45, li_46, li_47, li_48, li_49, li_50, li_51, li_52, li_53, li_54, li_55, li_56, li_57, li_58, li_59, li_60, li_61, li_63, li_70, li_96, li_97, li_99, li_100, li_101, li_102, li_120, li_122, li_126, li_200, li_255, li_423, li_555, li_999, li_1000, li_1111, li_2968, li_9999, li_10631, li_12345, li_14092, li_21470, li_65536, li_99233, nz_eq, n1_eq, n1_lt, n1_gt, n1_le, n1_ge, n1_sub, n1_add, nm_add, nz_add, nz_add2, z1_ne, z1_lt, z1_le, nI_1, pk_sub, nI_ltI, nI_leI, nI_eq, ni_neg, ni_nneg, ni_pos0, ni_nle0, ni_m1, gI_eq, gI_ne, xI_sJ, xI_sR, xR_sI, xR_sJ, xJ_sI, xJ_sR, gJ_eq, gJ_ne, gR_eq, gR_ne, if_true, if_false, ite_true, ite_false, not_true_eq_false, not_false_eq_true, decide_true, and_self, true_and, and_true, false_and, and_false, or_true, true_or, or_false, false_or, reduceIte, ne_eq]
      exact hk _ _ ⟨rfl, a2.s 25 d _, a3.sI _ (by unfold WK; omega)⟩
    rw [if_pos (show ¬ nI c = 22 from ne 22 (by decide) (by omega))]
    by_cases c4 : c = 24 ∨ c = 25
    · have ks : kSt g (d, K) c = (d, up (up (up (up (kSu K d) 20 d (kSv K d)) 21 d (nI c)) 22 d 0) 23 d (nI 20)) := by
        unfold kSt
        rw [if_neg c1, if_neg c2, if_neg c3, if_pos c4]
      rw [ks] at hk
      have go : Sat (f_X12_worked_J137 (nI l) k (nI d) (nI (a + i)) (nI c) n) (fun q => q.1 = kLv (cM.foldl (kSt g) (0, K0)).2 0 ∧ Kp WK m q.2) := by
        unfold f_X12_worked_J137 f_X12_worked_J329
        rw [Sat_bdV]
        refine (sumsK d7 a2).mono ?_
        intro n2 ⟨b1, b2⟩
        have e22 : gI n2 22 d = kSv K d := (b1 22 d (by decide) (by decide) d7).trans (by unfold kSu; rw [up_ne (by omega), up_eq])
        simp (disch := omega) only [e22, bnd_e, grd_t, bdI_e, bdV_e, bokA, bokB, ni_inb, ni_cl, nI_add, pk_mul, li_2, li_3, li_4, li_5, li_6, li_7, li_8, li_9, li_10, li_11, li_12, li_13, li_14, li_15, li_16, li_17, li_18, li_19, li_20, li_21, li_22, li_23, li_24, li_25, li_26, li_27, li_28, li_29, li_30, li_31, li_32, li_33, li_34, li_35, li_36, li_37, li_38, li_39, li_40, li_41, li_42, li_43, li_44, li_45, li_46, li_47, li_48, li_49, li_50, li_51, li_52, li_53, li_54, li_55, li_56, li_57, li_58, li_59, li_60, li_61, li_63, li_70, li_96, li_97, li_99, li_100, li_101, li_102, li_120, li_122, li_126, li_200, li_255, li_423, li_555, li_999, li_1000, li_1111, li_2968, li_9999, li_10631, li_12345, li_14092, li_21470, li_65536, li_99233, nz_eq, n1_eq, n1_lt, n1_gt, n1_le, n1_ge, n1_sub, n1_add, nm_add, nz_add, nz_add2, z1_ne, z1_lt, z1_le, nI_1, pk_sub, nI_ltI, nI_leI, nI_eq, ni_neg, ni_nneg, ni_pos0, ni_nle0, ni_m1, gI_eq, gI_ne, xI_sJ, xI_sR, xR_sI, xR_sJ, xJ_sI, xJ_sR, gJ_eq, gJ_ne, gR_eq, gR_ne, if_true, if_false, ite_true, ite_false, not_true_eq_false, not_false_eq_true, decide_true, and_self, true_and, and_true, false_and, and_false, or_true, true_or, or_false, false_or, reduceIte, ne_eq]
        exact hk _ _ ⟨rfl, (((b1.s 20 d _).s 21 d _).s 22 d 0).s 23 d (nI 20), (((((a3.trans b2).sI _ (by unfold WK; omega)).sI _ (by unfold WK; omega)).sI _ (by unfold WK; omega)).sI _ (by unfold WK; omega))⟩
      rcases c4 with rfl | rfl
      · rw [if_pos (show nI 24 = 24 from rfl)]
        exact go
      · rw [if_neg (show ¬ nI 25 = 24 by decide), if_neg (show ¬ ¬ nI 25 = 25 from fun q => q rfl)]
        exact go
    rw [if_neg (show ¬ nI c = 24 from ne 24 (by decide) (by omega)), if_pos (show ¬ nI c = 25 from ne 25 (by decide) (by omega))]
    by_cases c5 : c = 26 ∨ c = 27
    · have ks : kSt g (d, K) c = (d, up (kTe K d) 19 d (nI c)) := by
        unfold kSt
        rw [if_neg c1, if_neg c2, if_neg c3, if_neg c4, if_pos c5]
      rw [ks] at hk
      have go : Sat (f_X12_worked_J194 (nI l) k (nI d) (nI (a + i)) (nI c) n) (fun q => q.1 = kLv (cM.foldl (kSt g) (0, K0)).2 0 ∧ Kp WK m q.2) := by
        unfold f_X12_worked_J194 f_X12_worked_J329
        rw [Sat_bdV]
        refine (testsK d7 a2).mono ?_
        intro n2 ⟨b1, b2⟩
        simp (disch := omega) only [bnd_e, grd_t, bdI_e, bdV_e, bokA, bokB, ni_inb, ni_cl, nI_add, pk_mul, li_2, li_3, li_4, li_5, li_6, li_7, li_8, li_9, li_10, li_11, li_12, li_13, li_14, li_15, li_16, li_17, li_18, li_19, li_20, li_21, li_22, li_23, li_24, li_25, li_26, li_27, li_28, li_29, li_30, li_31, li_32, li_33, li_34, li_35, li_36, li_37, li_38, li_39, li_40, li_41, li_42, li_43, li_44, li_45, li_46, li_47, li_48, li_49, li_50, li_51, li_52, li_53, li_54, li_55, li_56, li_57, li_58, li_59, li_60, li_61, li_63, li_70, li_96, li_97, li_99, li_100, li_101, li_102, li_120, li_122, li_126, li_200, li_255, li_423, li_555, li_999, li_1000, li_1111, li_2968, li_9999, li_10631, li_12345, li_14092, li_21470, li_65536, li_99233, nz_eq, n1_eq, n1_lt, n1_gt, n1_le, n1_ge, n1_sub, n1_add, nm_add, nz_add, nz_add2, z1_ne, z1_lt, z1_le, nI_1, pk_sub, nI_ltI, nI_leI, nI_eq, ni_neg, ni_nneg, ni_pos0, ni_nle0, ni_m1, gI_eq, gI_ne, xI_sJ, xI_sR, xR_sI, xR_sJ, xJ_sI, xJ_sR, gJ_eq, gJ_ne, gR_eq, gR_ne, if_true, if_false, ite_true, ite_false, not_true_eq_false, not_false_eq_true, decide_true, and_self, true_and, and_true, false_and, and_false, or_true, true_or, or_false, false_or, reduceIte, ne_eq]
        exact hk _ _ ⟨rfl, b1.s 19 d _, (a3.trans b2).sI _ (by unfold WK; omega)⟩
      rcases c5 with rfl | rfl
      · rw [if_pos (show nI 26 = 26 from rfl)]
        exact go
      · rw [if_neg (show ¬ nI 27 = 26 by decide), if_neg (show ¬ ¬ nI 27 = 27 from fun q => q rfl)]
        exact go
    rw [if_neg (show ¬ nI c = 26 from ne 26 (by decide) (by omega)), if_pos (show ¬ nI c = 27 from ne 27 (by decide) (by omega))]
    by_cases c6 : c = 29
    · subst c6
      have ks : kSt g (d, K) 29 = kDe (kTe K d) (d - 1) (kLv K d) := by
        unfold kSt
        rw [if_neg c1, if_neg c2, if_neg c3, if_neg c4, if_neg c5, if_pos rfl]
      rw [ks] at hk
      have d1 : 1 ≤ d := s29 rfl
      have v1 : nI 29 < 100 := by decide
      have v2 : (20 : Int32) ≤ nI 29 := by decide
      rw [if_pos v1, if_pos v2]
      unfold f_X12_worked_J243
      rw [if_neg (show ¬ ¬ nI 29 = 29 from fun q => q rfl), Sat_bdV]
      refine (testsK d7 a2).mono ?_
      intro n2 ⟨b1, b2⟩
      have e18 : gI n2 18 d = kLv K d := (b1 18 d (by decide) (by decide) d7).trans (by unfold kTe; rw [up_ne (by omega), up_ne (by omega), up_ne (by omega), up_eq])
      have dm : nI d + -1 = nI (d - 1) := nm_add d d1
      rw [ni_inb d7 (by decide), grd_t, bnd_e, ni_cl _ (by omega), e18, bnd_e, dm]
      exact delivK (by omega) b1 (a3.trans b2) (by omega) (fun n3 x1 x2 => hk _ _ ⟨rfl, x1, x2⟩)
    · have ks : kSt g (d, K) c = kDe K d (if 100 ≤ c then nI (c - 100) else if c < 20 then g c else 0) := by
        unfold kSt
        rw [if_neg c1, if_neg c2, if_neg c3, if_neg c4, if_neg c5, if_neg c6]
      rw [ks] at hk
      have go : ∀ v : Int32, v = (if 100 ≤ c then nI (c - 100) else if c < 20 then g c else 0) → Sat (f_X12_worked_J243 (nI l) k (nI d) (nI (a + i)) (nI c) v n) (fun q => q.1 = kLv (cM.foldl (kSt g) (0, K0)).2 0 ∧ Kp WK m q.2) := by
        intro v hv
        unfold f_X12_worked_J243
        rw [if_pos (show ¬ nI c = 29 from ne 29 (by decide) c6)]
        refine delivK d7 a2 a3 (by omega) (fun n3 x1 x2 => ?_)
        rw [hv] at x1 ⊢
        exact hk _ _ ⟨rfl, x1, x2⟩
      by_cases w1 : c < 100
      · rw [if_pos (show nI c < 100 from (nI_ltI (by omega) (by decide)).mpr w1)]
        by_cases w2 : c < 20
        · rw [if_neg (show ¬ (20 : Int32) ≤ nI c from fun q => absurd ((nI_leI (a := 20) (by decide) (by omega)).mp q) (by omega)), ni_inb w2 (by decide), grd_t, ni_cl _ (by omega), e27 c cb.1 w2]
          exact go _ (by rw [if_neg (by omega), if_pos w2])
        · rw [if_pos (show (20 : Int32) ≤ nI c from (nI_leI (a := 20) (by decide) (by omega)).mpr (by omega))]
          exact go _ (by rw [if_neg (by omega), if_neg w2])
      · have s100 : nI c - nI 100 = nI (c - 100) := pk_sub (by omega)
        rw [if_neg (show ¬ nI c < 100 from fun q => w1 ((nI_ltI (by omega) (by decide)).mp q)), show nI c - 100 = nI (c - 100) from s100]
        exact go _ (by rw [if_pos (by omega)])
  · intro x n k ⟨a1, a2, a3⟩
    rw [Nat.add_sub_cancel_left, List.take_length] at a2
    have e14 : gI n 14 l = nI (a + cM.length) := (a3.1 _ _ (by unfold WK; omega)).trans m3
    unfold f_X12_worked_B14
    rw [ni_inb (show l < 4 by omega) (by decide), grd_t, ni_cl _ (by omega), e14, if_pos (Int32.le_refl _), Sat_bdV]
    refine (testsK (d := 0) (by decide) a2).mono ?_
    intro n2 ⟨b1, b2⟩
    refine (Sat_some _ _).mpr ⟨?_, a3.trans b2⟩
    show gI n2 18 0 = _
    rw [b1 18 0 (by decide) (by decide) (by decide)]
    unfold kTe
    rw [up_ne (by omega), up_ne (by omega), up_ne (by omega), up_eq]
def DepV (l : Nat) (v : (Nat → Int32) → Int32) : Prop := ∀ f g : Nat → Int32, (∀ i, okF l i → f i = g i) → v f = v g
theorem LwEq.mk {cP : List Int32} {cM : List Nat} {v : (Nat → Int32) → Int32} {e b l : Nat} (hl : l < 2) (hv : Vpp cP v e) (he : e ≤ 32) (hm : Mlo cM v) (hs : Sex cM b) (hb : b ≤ 6) (hd : DepV l v) (hn : cP ≠ []) (hn' : cM ≠ []) (hc : ∀ i, i < cM.length → 1 ≤ cM.getD i 0 ∧ cM.getD i 0 ≤ 20000) : LwEq cP (cM.map nI) l := by
  have ev : ∀ f, evP cP f = v f := by
    intro f
    unfold evP
    rw [hv f [] (by show 0 + e ≤ 32; omega)]
    rfl
  refine ⟨⟨fun q => absurd q hn, fun q => absurd (List.map_eq_nil_iff.mp q) hn'⟩, fun f g h => by rw [ev, ev]; exact hd f g h, fun _ m a hw => ?_⟩
  have k26 : ∀ K : Nat → Nat → Int32, kOp K 0 25 0 = 0 ∧ kOp K 0 23 0 = nI 20 ∧ kOp K 0 22 0 = 0 ∧ kOp K 0 21 0 = 0 ∧ kOp K 0 19 0 = 0 := by
    intro K
    unfold kOp
    refine ⟨?_, ?_, ?_, ?_, ?_⟩
    · rw [up_eq]
    · rw [up_ne (by omega), up_eq]
    · rw [up_ne (by omega), up_ne (by omega), up_eq]
    · rw [up_ne (by omega), up_ne (by omega), up_ne (by omega), up_eq]
    · rw [up_ne (by omega), up_ne (by omega), up_ne (by omega), up_ne (by omega), up_eq]
  obtain ⟨a1, a2, a3, a4, a5⟩ := k26 (fun c i => gI m c i)
  have sf := hs (fun i => gI m 27 (i + 1)) 0 (kOp (fun c i => gI m c i) 0) 6 (Or.inl rfl) a1 a3 a2 a4 a5 (by omega)
  obtain ⟨K1, h1, h2, h3, h4⟩ := hm (fun i => gI m 27 (i + 1)) 0 (kOp (fun c i => gI m c i) 0) (Or.inl rfl) a1 a3 a2 a4 a5
  refine (workedK (g := fM (fun i => gI m 27 (i + 1))) hl (fun c c1 c2 => ?_) hc hw sf).mono ?_
  · show gI m 27 c = gI m 27 (c - 1 + 1)
    rw [Nat.sub_add_cancel c1]
  · intro q ⟨q1, q2⟩
    rw [h1] at q1
    rw [ev]
    exact ⟨q1.trans h4, q2⟩
