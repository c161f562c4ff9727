/-! the line of a tune, gone through -/
def GTu (C : Nat → Nat → Nat) (NT NP : Nat → List Nat) (s k : Nat) (mP0 mM0 : Mm) (_ : Tk) (a c : Mm) : Prop := ∃ C' NT', DfA C' NT' NP s a c ∧ Kp (WTu s k) mP0 a ∧ Kp (XTu k) mM0 c
theorem WTu.w {s k a i : Nat} (h : WTu s k a i) (k5 : k < 5) : WSt s a i := by
  unfold WTu WRP at h
  unfold WSt WRP
  omega
theorem XTu.x {k a i : Nat} (h : XTu k a i) : XSt a i := by
  unfold XTu WRM at h
  unfold XSt WRM
  omega
theorem tuneR {T : Nat → Nat} {n s k b0 : Nat} {R : List Nat} {C : Nat → Nat → Nat} {NT NP : Nat → List Nat} {mP0 mM0 : Mm} (hT : TpOK T n) (hA : DfA C NT NP s mP0 mM0) (hk : k = C 0 0) (k5 : k < 5) (oR : okL R) (R8 : R.length ≤ 8) : ∀ (r j N N' : Nat) (d : Tk) (K : Nat → Nat) (mP mM : Mm), 9 - j ≤ r → 1 ≤ j → j ≤ 9 → r < N → r < N' → TkOK T n d → b0 ≤ tkb d → RdP T n d mP → RdM T n d mM → TI s k j K mP mM → Kp (WTu s k) mP0 mP → Kp (XTu k) mM0 mM → gI mP s 6 = nI (k + 1) → gJ mP (s + 1) k = nJ (encR 32 R) → gI mM 2 7 = nI k → gJ mM 0 40 = nJ (encR 27 R) → S2 (bdI (lop (fun _ _ _ => none) (f_X5_tuneLine_B87 s) N (nI k) (nI (j - 1)) mP) fun x2 m1 => if x2 = 0 then (grd (bok ((0))) (some ((0), m1))) else (bdI (f_X5_take (nI 59) m1) fun x14 m13 => if x14 = 0 then (grd (bok ((0))) (some ((0), m13))) else (grd (bok ((1))) (some ((1), m13))))) (lop (fun _ _ => none) f_X12_readsTune_B42 N' (nI (5 + k)) mM) (OuD T n b0 s (GTu C NT NP s k mP0 mM0) mP0 mM0)
  | _, _, 0, _, _, _, _, _, _, _, _, h, _, _, _, _, _, _, _, _, _, _, _, _ => absurd h (Nat.not_lt_zero _)
  | _, _, _ + 1, 0, _, _, _, _, _, _, _, _, h, _, _, _, _, _, _, _, _, _, _, _ => absurd h (Nat.not_lt_zero _)
  | r, j, N + 1, N' + 1, d, K, mP, mM, hr, j1, j9, hN, hN', ok, hb, hP, hM, hI, kP, kM, p6, pj, m7, mj => by
    have hs := hA.2.1
    have ne1 : ¬ (1 : Int32) = 0 := by decide
    have cb := ctk_b ok
    have k4 := ok.2.2.1
    have j0 : ¬ j = 0 := by omega
    have nj : ¬ 9 < j - 1 := by omega
    have kP' : Kp (WSt s) mP0 mP := kP.mono (fun a i h => h.w k5)
    have kM' : Kp XSt mM0 mM := kM.mono (fun a i h => h.x)
    have ig := isSignM hT ok hM (s := 59) (by decide)
    have ih := fun d' K' nP nM => tuneR (b0 := b0) hT hA hk k5 oR R8 (r - 1) (j + 1) N N' d' K' nP nM
    rw [Nat.add_sub_cancel] at ih
    show S2 (bdI (f_X5_tuneLine_B87 s (lop (fun _ _ _ => none) (f_X5_tuneLine_B87 s) N) (nI k) (nI (j - 1)) mP) _) (f_X12_readsTune_B42 (lop (fun _ _ => none) f_X12_readsTune_B42 N') (nI (5 + k)) mM) _
    generalize lop (fun _ _ _ => none) (f_X5_tuneLine_B87 s) N = kc at ih ⊢
    generalize lop (fun _ _ => none) f_X12_readsTune_B42 N' = km at ih ⊢
    unfold f_X5_tuneLine_B87 f_X12_readsTune_B42
    by_cases z : tkK d = 2
    · have c100 := (ctk_n (T := T) ok).1.mpr z
      have g59 : isG T d 59 = false := decide_eq_false (fun q => by omega)
      rw [g59, bO_f] at ig
      rcases keyB hT ok hP hM hs k5 j9 hI with ⟨w, w1, w2, e1, e2⟩ | ⟨nP, nM, K', q1, q2, q3, q4, q5, q6, q7, q8, q9, q10, q11, q12, q13⟩
      · simp (disch := omega) only [nj, hP.2.2.2.1, c100, e1, hI.2.1, j0, ig, e2 km, bnd_e, grd_t, bdI_e, bdV_e, bokA, bokB, ni_inb, ni_cl, nI_add, pk_mul, li_2, li_3, li_4, li_5, li_6, li_7, li_8, li_9, li_10, li_11, li_12, li_13, li_14, li_15, li_16, li_17, li_18, li_19, li_20, li_21, li_22, li_23, li_24, li_25, li_26, li_27, li_28, li_29, li_30, li_31, li_32, li_33, li_34, li_35, li_36, li_37, li_38, li_39, li_40, li_41, li_42, li_43, li_44, li_45, li_46, li_47, li_48, li_49, li_50, li_51, li_52, li_53, li_54, li_55, li_56, li_57, li_58, li_59, li_60, li_61, li_63, li_70, li_96, li_97, li_99, li_100, li_101, li_102, li_120, li_122, li_126, li_200, li_255, li_423, li_555, li_999, li_1000, li_1111, li_2968, li_9999, li_10631, li_12345, li_14092, li_21470, li_65536, li_99233, nz_eq, n1_eq, n1_lt, n1_gt, n1_le, n1_ge, n1_sub, n1_add, nm_add, nz_add, nz_add2, z1_ne, z1_lt, z1_le, nI_1, pk_sub, nI_ltI, nI_leI, nI_eq, ni_neg, ni_nneg, ni_pos0, ni_nle0, ni_m1, gI_eq, gI_ne, xI_sJ, xI_sR, xR_sI, xR_sJ, xJ_sI, xJ_sR, gJ_eq, gJ_ne, gR_eq, gR_ne, if_true, if_false, ite_true, ite_false, not_true_eq_false, not_false_eq_true, decide_true, and_self, true_and, and_true, false_and, and_false, or_true, true_or, or_false, false_or, reduceIte, ne_eq]
        exact ⟨_, _, rfl, rfl, OuD.bad hT ok hs ⟨w1, w2⟩ kP' kM'⟩
      · have kb := ok.2.2.2.2.1 (by omega)
        have tok := tk_ok (T := T) ok.2.1
        have e3 : j - 1 + 1 = j := by omega
        simp (disch := omega) only [nj, hP.2.2.2.1, c100, q3, hI.2.1, j0, ig, q4 km, ne1, e3, bnd_e, grd_t, bdI_e, bdV_e, bokA, bokB, ni_inb, ni_cl, nI_add, pk_mul, li_2, li_3, li_4, li_5, li_6, li_7, li_8, li_9, li_10, li_11, li_12, li_13, li_14, li_15, li_16, li_17, li_18, li_19, li_20, li_21, li_22, li_23, li_24, li_25, li_26, li_27, li_28, li_29, li_30, li_31, li_32, li_33, li_34, li_35, li_36, li_37, li_38, li_39, li_40, li_41, li_42, li_43, li_44, li_45, li_46, li_47, li_48, li_49, li_50, li_51, li_52, li_53, li_54, li_55, li_56, li_57, li_58, li_59, li_60, li_61, li_63, li_70, li_96, li_97, li_99, li_100, li_101, li_102, li_120, li_122, li_126, li_200, li_255, li_423, li_555, li_999, li_1000, li_1111, li_2968, li_9999, li_10631, li_12345, li_14092, li_21470, li_65536, li_99233, nz_eq, n1_eq, n1_lt, n1_gt, n1_le, n1_ge, n1_sub, n1_add, nm_add, nz_add, nz_add2, z1_ne, z1_lt, z1_le, nI_1, pk_sub, nI_ltI, nI_leI, nI_eq, ni_neg, ni_nneg, ni_pos0, ni_nle0, ni_m1, gI_eq, gI_ne, xI_sJ, xI_sR, xR_sI, xR_sJ, xJ_sI, xJ_sR, gJ_eq, gJ_ne, gR_eq, gR_ne, if_true, if_false, ite_true, ite_false, not_true_eq_false, not_false_eq_true, decide_true, and_self, true_and, and_true, false_and, and_false, or_true, true_or, or_false, false_or, reduceIte, ne_eq]
        exact ih _ K' nP nM (by omega) (by omega) (by omega) (by omega) (by omega) tok.1 (by omega) q5 q6 q7 (kP.trans q8) (kM.trans q9) (q10.trans p6) (q11.trans pj) (q12.trans m7) (q13.trans mj)
    · have n100 : ¬ ctk T d = 100 := fun q => z ((ctk_n ok).1.mp q)
      by_cases w : isG T d 59 = true
      · rw [w, bO_t] at ig
        simp (disch := omega) only [nj, hP.2.2.2.1, n100, hI.2.1, j0, ig, ne1, mj, m7, bnd_e, grd_t, bdI_e, bdV_e, bokA, bokB, ni_inb, ni_cl, nI_add, pk_mul, li_2, li_3, li_4, li_5, li_6, li_7, li_8, li_9, li_10, li_11, li_12, li_13, li_14, li_15, li_16, li_17, li_18, li_19, li_20, li_21, li_22, li_23, li_24, li_25, li_26, li_27, li_28, li_29, li_30, li_31, li_32, li_33, li_34, li_35, li_36, li_37, li_38, li_39, li_40, li_41, li_42, li_43, li_44, li_45, li_46, li_47, li_48, li_49, li_50, li_51, li_52, li_53, li_54, li_55, li_56, li_57, li_58, li_59, li_60, li_61, li_63, li_70, li_96, li_97, li_99, li_100, li_101, li_102, li_120, li_122, li_126, li_200, li_255, li_423, li_555, li_999, li_1000, li_1111, li_2968, li_9999, li_10631, li_12345, li_14092, li_21470, li_65536, li_99233, nz_eq, n1_eq, n1_lt, n1_gt, n1_le, n1_ge, n1_sub, n1_add, nm_add, nz_add, nz_add2, z1_ne, z1_lt, z1_le, nI_1, pk_sub, nI_ltI, nI_leI, nI_eq, ni_neg, ni_nneg, ni_pos0, ni_nle0, ni_m1, gI_eq, gI_ne, xI_sJ, xI_sR, xR_sI, xR_sJ, xJ_sI, xJ_sR, gJ_eq, gJ_ne, gR_eq, gR_ne, if_true, if_false, ite_true, ite_false, not_true_eq_false, not_false_eq_true, decide_true, and_self, true_and, and_true, false_and, and_false, or_true, true_or, or_false, false_or, reduceIte, ne_eq]
        have kM2 : Kp (XTu k) mM0 (sI (sJ mM 3 (5 + k) (nJ (encR 27 R))) 2 7 (nI (k + 1))) := (kM.sJ _ (by unfold XTu; omega)).sI _ (by unfold XTu; omega)
        refine endS hT ok hb hP (hM.kp (fun a i h => gI_ne _ _ _ _ _ _ (by omega)) (gJ_ne _ _ _ _ _ _ (by omega))) kP' (kM2.mono (fun a i h => h.x)) (fun d' a c k1 k2 _ => ⟨pT C j K, fun t => if t = k then R else NT t, ?_, kP.trans (k1.mono (fun a i h => Or.inl h)), kM2.trans (k2.mono (fun a i h => Or.inl h))⟩)
        obtain ⟨t1, t2, t3⟩ := hI
        refine hA.tune hk k5 ⟨j1, j9⟩ (fun i hi => (t3 i hi).1) oR R8 ?_ ?_ (fun i hi => ?_) ?_ ?_ ?_ (fun i hi => ?_) ?_ (fun a i h1 h2 => ?_) (fun a i h1 h2 => ?_) (fun a i h1 h2 => ?_) (fun a i h1 h2 => ?_)
        · rw [k1.1 _ _ (by unfold WRP; omega)]; exact p6
        · rw [k1.1 _ _ (by unfold WRP; omega)]; exact t1
        · rw [k1.1 _ _ (by unfold WRP; omega)]; exact (t3 i hi).2.1
        · rw [k1.2.1 _ _ (by unfold WRP; omega)]; exact pj
        · rw [k2.1 _ _ (by unfold WRM; omega), gI_eq _ _ _ _ _ _ rfl rfl]
        · rw [k2.1 _ _ (by unfold WRM; omega), gI_ne _ _ _ _ _ _ (by omega)]; exact t2
        · rw [k2.1 _ _ (by unfold WRM; omega), gI_ne _ _ _ _ _ _ (by omega)]; exact (t3 i hi).2.2
        · rw [k2.2.1 _ _ (by unfold WRM; omega)]
          exact gJ_eq _ _ _ _ _ _ rfl rfl
        · rw [k1.1 _ _ (by unfold vD at h1; unfold WRP; omega)]
          exact kP.1 _ _ (by unfold vD at h1; unfold WTu WRP; omega)
        · rw [k1.2.1 _ _ (by unfold vDj at h1; unfold WRP; omega)]
          exact kP.2.1 _ _ (by unfold vDj at h1; unfold WTu WRP; omega)
        · rw [k2.1 _ _ (by unfold vE at h1; unfold WRM; omega)]
          exact kM2.1 _ _ (by unfold vE at h1; unfold XTu WRM; omega)
        · rw [k2.2.1 _ _ (by unfold WRM; omega)]
          exact kM2.2.1 _ _ (by unfold XTu WRM; omega)
      · have w' : isG T d 59 = false := Bool.eq_false_iff.mpr w
        rw [w', bO_f] at ig
        have a2 : ¬ ctk T d = 59 := fun q => w ((sgT (by decide)).mp q)
        have e1 : f_X5_wrong 1 mP = some (0, sI mP 3 2 (nI (1 + 16 * tkb d))) := wrongE hP 1
        have e2 : f_X12_fails 1 mM = some (0, sI mM 0 9 (nI (1 + 16 * tkb d))) := failsE hM 1
        unfold f_X5_take f_X12_readsTune_J60
        simp (disch := omega) only [nj, hP.2.2.2.1, n100, hI.2.1, j0, ig, ne1, a2, e1, hM.2.2.2.1, z, e2, bnd_e, grd_t, bdI_e, bdV_e, bokA, bokB, ni_inb, ni_cl, nI_add, pk_mul, li_2, li_3, li_4, li_5, li_6, li_7, li_8, li_9, li_10, li_11, li_12, li_13, li_14, li_15, li_16, li_17, li_18, li_19, li_20, li_21, li_22, li_23, li_24, li_25, li_26, li_27, li_28, li_29, li_30, li_31, li_32, li_33, li_34, li_35, li_36, li_37, li_38, li_39, li_40, li_41, li_42, li_43, li_44, li_45, li_46, li_47, li_48, li_49, li_50, li_51, li_52, li_53, li_54, li_55, li_56, li_57, li_58, li_59, li_60, li_61, li_63, li_70, li_96, li_97, li_99, li_100, li_101, li_102, li_120, li_122, li_126, li_200, li_255, li_423, li_555, li_999, li_1000, li_1111, li_2968, li_9999, li_10631, li_12345, li_14092, li_21470, li_65536, li_99233, nz_eq, n1_eq, n1_lt, n1_gt, n1_le, n1_ge, n1_sub, n1_add, nm_add, nz_add, nz_add2, z1_ne, z1_lt, z1_le, nI_1, pk_sub, nI_ltI, nI_leI, nI_eq, ni_neg, ni_nneg, ni_pos0, ni_nle0, ni_m1, gI_eq, gI_ne, xI_sJ, xI_sR, xR_sI, xR_sJ, xJ_sI, xJ_sR, gJ_eq, gJ_ne, gR_eq, gR_ne, if_true, if_false, ite_true, ite_false, not_true_eq_false, not_false_eq_true, decide_true, and_self, true_and, and_true, false_and, and_false, or_true, true_or, or_false, false_or, reduceIte, ne_eq]
        exact ⟨_, _, rfl, rfl, OuD.bad hT ok hs (by omega) kP' kM'⟩
theorem tuneB {T : Nat → Nat} {n s : Nat} {C : Nat → Nat → Nat} {NT NP : Nat → List Nat} {d : Tk} {mP mM : Mm} (hT : TpOK T n) (ok : TkOK T n d) (hP : RdP T n d mP) (hM : RdM T n d mM) (hk0 : tkK d ≠ 0) (hA : DfA C NT NP s mP mM) : S2 (bdI (f_X5_tuneLine s mP) fun x2 m1 => if x2 = 0 then (grd (bok ((0))) (some ((0), m1))) else (bdI (f_X5_take (nI 59) m1) fun x14 m13 => if x14 = 0 then (grd (bok ((0))) (some ((0), m13))) else (grd (bok ((1))) (some ((1), m13))))) (f_X12_readsTune mM) (OuD T n (tkb d) s (fun _ a c => ∃ C' NT', DfA C' NT' NP s a c ∧ ∃ k, k < 5 ∧ Kp (WTu s k) mP a ∧ Kp (XTu k) mM c) mP mM) := by
  have hs := hA.2.1
  have ne1 : ¬ (1 : Int32) = 0 := by decide
  have c1 := hA.1.1
  have e6 : gI mP s 6 = nI (C 0 0) := hA.2.2.1 0 (by decide)
  have e7 : gI mM 2 7 = nI (C 0 0) := hA.2.2.2.2.2.1 0 (by decide)
  unfold f_X5_tuneLine f_X12_readsTune
  by_cases k5 : C 0 0 < 5
  · have n10 : ¬ 5 + C 0 0 = 10 := by omega
    have l1 : Lp.2.1 (s + 1) = 5 := by rcases hs with rfl | rfl <;> rfl
    have l2 : Lp.2.1 (s + 2) = 5 := by rcases hs with rfl | rfl <;> rfl
    have kb := ok.2.2.2.2.1 hk0
    have tok := tk_ok (T := T) ok.2.1
    obtain ⟨nP, eP, h1, h2⟩ := adv_P hT ok hP
    obtain ⟨nM, eM, h3, h4⟩ := adv_M hT ok hM
    have kP1 : Kp WRP mP nP := h2.mono (fun a k q => by unfold WRP; omega)
    have kM1 : Kp WRM mM nM := h4.mono (fun a k q => by unfold WRM; omega)
    have hA1 := hA.rd kP1 kM1
    rcases newB hT tok.1 h1 h3 hA1 with ⟨w, w1, w2, e1, e2⟩ | ⟨q1, q2, mM2, q3, q4, q5, q6⟩
    · simp (disch := omega) only [e6, e7, k5, n10, eP, eM, e1, e2, bnd_e, grd_t, bdI_e, bdV_e, bokA, bokB, ni_inb, ni_cl, nI_add, pk_mul, li_2, li_3, li_4, li_5, li_6, li_7, li_8, li_9, li_10, li_11, li_12, li_13, li_14, li_15, li_16, li_17, li_18, li_19, li_20, li_21, li_22, li_23, li_24, li_25, li_26, li_27, li_28, li_29, li_30, li_31, li_32, li_33, li_34, li_35, li_36, li_37, li_38, li_39, li_40, li_41, li_42, li_43, li_44, li_45, li_46, li_47, li_48, li_49, li_50, li_51, li_52, li_53, li_54, li_55, li_56, li_57, li_58, li_59, li_60, li_61, li_63, li_70, li_96, li_97, li_99, li_100, li_101, li_102, li_120, li_122, li_126, li_200, li_255, li_423, li_555, li_999, li_1000, li_1111, li_2968, li_9999, li_10631, li_12345, li_14092, li_21470, li_65536, li_99233, nz_eq, n1_eq, n1_lt, n1_gt, n1_le, n1_ge, n1_sub, n1_add, nm_add, nz_add, nz_add2, z1_ne, z1_lt, z1_le, nI_1, pk_sub, nI_ltI, nI_leI, nI_eq, ni_neg, ni_nneg, ni_pos0, ni_nle0, ni_m1, gI_eq, gI_ne, xI_sJ, xI_sR, xR_sI, xR_sJ, xJ_sI, xJ_sR, gJ_eq, gJ_ne, gR_eq, gR_ne, if_true, if_false, ite_true, ite_false, not_true_eq_false, not_false_eq_true, decide_true, and_self, true_and, and_true, false_and, and_false, or_true, true_or, or_false, false_or, reduceIte, ne_eq]
      exact ⟨_, _, rfl, rfl, OuD.bad hT tok.1 hs ⟨w1, w2⟩ (kP1.mono (fun a i h => WSt.r h)) (kM1.mono (fun a i h => XSt.r h))⟩
    · obtain ⟨oR, R8⟩ := tok.1.2.2.2.2.2.1 q1
      have kb1 := tok.1.2.2.2.2.1 (by omega)
      have tok2 := tk_ok (T := T) tok.1.2.1
      have gP := h1.2.2.2.2.1 q1
      have e6' : gI nP s 6 = nI (C 0 0) := (kP1.1 _ _ (by unfold WRP; omega)).trans e6
      have hP2 : RdP T n (tk T n (tke d)) (sI (sI (sJ nP (s + 1) (C 0 0) (nJ (encR 32 (tkR (tk T n (tke d)))))) (s + 2) (C 0 0) 0) s 6 (nI (C 0 0 + 1))) := h1.kp (fun a i h => (gI_ne _ _ _ _ _ _ (by omega)).trans (gI_ne _ _ _ _ _ _ (by omega))) (gJ_ne _ _ _ _ _ _ (by omega))
      obtain ⟨nP2, eP2, r1, r2⟩ := adv_P hT tok.1 hP2
      have hM2 : RdM T n (tk T n (tke (tk T n (tke d)))) (sI mM2 6 (5 + C 0 0) 0) := q4.kp (fun a i h => gI_ne _ _ _ _ _ _ (by omega)) rfl
      have kP1' : Kp (WTu s (C 0 0)) mP nP := kP1.mono (fun a i h => Or.inl h)
      have kM1' : Kp (XTu (C 0 0)) mM mM2 := (kM1.mono (fun a i h => Or.inl h)).trans (q6.mono (fun a i h => Or.inl h))
      have kP2 : Kp (WTu s (C 0 0)) mP nP2 := (((kP1'.sJ _ (by unfold WTu; omega)).sI _ (by unfold WTu; omega)).sI _ (by unfold WTu; omega)).trans (r2.mono (fun a i h => by unfold WTu WRP; omega))
      have kM2 : Kp (XTu (C 0 0)) mM (sI mM2 6 (5 + C 0 0) 0) := kM1'.sI _ (by unfold XTu; omega)
      have x1 : gI nP2 (s + 2) (C 0 0) = nI 0 := (r2.1 _ _ (by omega)).trans ((gI_ne _ _ _ _ _ _ (by omega)).trans (gI_eq _ _ _ _ _ _ rfl rfl))
      have x2 : gI nP2 s 6 = nI (C 0 0 + 1) := (r2.1 _ _ (by omega)).trans (gI_eq _ _ _ _ _ _ rfl rfl)
      have x3 : gJ nP2 (s + 1) (C 0 0) = nJ (encR 32 (tkR (tk T n (tke d)))) := (r2.2.1 _ _ (by omega)).trans (gJ_eq _ _ _ _ _ _ rfl rfl)
      have y1 : gI (sI mM2 6 (5 + C 0 0) 0) 6 (5 + C 0 0) = nI 0 := gI_eq _ _ _ _ _ _ rfl rfl
      have y2 : gI (sI mM2 6 (5 + C 0 0) 0) 2 7 = nI (C 0 0) := (gI_ne _ _ _ _ _ _ (by omega)).trans (((q6.1 _ _ (by unfold WRM; omega)).trans (kM1.1 _ _ (by unfold WRM; omega))).trans e7)
      have y3 : gJ (sI mM2 6 (5 + C 0 0) 0) 0 40 = nJ (encR 27 (tkR (tk T n (tke d)))) := q5
      have lm : ∀ N m, lop (fun _ _ => none) f_X12_readsTune_B42 (N + 1) (nI (5 + C 0 0)) m = f_X12_readsTune_B42 (lop (fun _ _ => none) f_X12_readsTune_B42 N) (nI (5 + C 0 0)) m := fun _ _ => rfl
      have lm' := lm 3999 (sI mM2 6 (5 + C 0 0) 0)
      have b42 : f_X12_readsTune_B42 (lop (fun _ _ => none) f_X12_readsTune_B42 3999) (nI (5 + C 0 0)) (sI mM2 6 (5 + C 0 0) 0) = f_X12_readsTune_J60 (lop (fun _ _ => none) f_X12_readsTune_B42 3999) (nI (5 + C 0 0)) (sI mM2 6 (5 + C 0 0) 0) := by
        generalize lop (fun _ _ => none) f_X12_readsTune_B42 3999 = kk
        unfold f_X12_readsTune_B42
        simp (disch := omega) only [y1, bnd_e, grd_t, bdI_e, bdV_e, bokA, bokB, ni_inb, ni_cl, nI_add, pk_mul, li_2, li_3, li_4, li_5, li_6, li_7, li_8, li_9, li_10, li_11, li_12, li_13, li_14, li_15, li_16, li_17, li_18, li_19, li_20, li_21, li_22, li_23, li_24, li_25, li_26, li_27, li_28, li_29, li_30, li_31, li_32, li_33, li_34, li_35, li_36, li_37, li_38, li_39, li_40, li_41, li_42, li_43, li_44, li_45, li_46, li_47, li_48, li_49, li_50, li_51, li_52, li_53, li_54, li_55, li_56, li_57, li_58, li_59, li_60, li_61, li_63, li_70, li_96, li_97, li_99, li_100, li_101, li_102, li_120, li_122, li_126, li_200, li_255, li_423, li_555, li_999, li_1000, li_1111, li_2968, li_9999, li_10631, li_12345, li_14092, li_21470, li_65536, li_99233, nz_eq, n1_eq, n1_lt, n1_gt, n1_le, n1_ge, n1_sub, n1_add, nm_add, nz_add, nz_add2, z1_ne, z1_lt, z1_le, nI_1, pk_sub, nI_ltI, nI_leI, nI_eq, ni_neg, ni_nneg, ni_pos0, ni_nle0, ni_m1, gI_eq, gI_ne, xI_sJ, xI_sR, xR_sI, xR_sJ, xJ_sI, xJ_sR, gJ_eq, gJ_ne, gR_eq, gR_ne, if_true, if_false, ite_true, ite_false, not_true_eq_false, not_false_eq_true, decide_true, and_self, true_and, and_true, false_and, and_false, or_true, true_or, or_false, false_or, reduceIte, ne_eq]
      rw [b42] at lm'
      have lm2 : lop (fun _ _ => none) f_X12_readsTune_B42 4000 (nI (5 + C 0 0)) (sI mM2 6 (5 + C 0 0) 0) = f_X12_readsTune_J60 (lop (fun _ _ => none) f_X12_readsTune_B42 3999) (nI (5 + C 0 0)) (sI mM2 6 (5 + C 0 0) 0) := lm'
      have tr := fun K d' a c => tuneR (b0 := tkb d) (R := tkR (tk T n (tke d))) (mP0 := mP) (mM0 := mM) hT hA rfl k5 oR R8 8 1 4000 3999 d' K a c
      rw [show (1 : Nat) - 1 = 0 from rfl] at tr
      generalize lop (fun _ _ => none) f_X12_readsTune_B42 3999 = km at lm2 tr
      generalize lop (fun _ _ _ => none) (f_X5_tuneLine_B87 s) 4000 = kc at tr ⊢
      rcases keyB (K := fun _ => 0) hT tok2.1 r1 hM2 hs k5 (by decide) ⟨x1, y1, fun i hi => absurd hi (Nat.not_lt_zero _)⟩ with ⟨w, w1, w2, e1, e2⟩ | ⟨aP, aM, K', p1, p2, p3, p4, p5, p6, p7, p8, p9, p10, p11, p12, p13⟩
      · simp (disch := omega) only [e6, e7, k5, n10, eP, eM, q2, q3, ne1, gP, e6', l1, l2, eP2, e1, lm2, e2 km, bnd_e, grd_t, bdI_e, bdV_e, bokA, bokB, ni_inb, ni_cl, nI_add, pk_mul, li_2, li_3, li_4, li_5, li_6, li_7, li_8, li_9, li_10, li_11, li_12, li_13, li_14, li_15, li_16, li_17, li_18, li_19, li_20, li_21, li_22, li_23, li_24, li_25, li_26, li_27, li_28, li_29, li_30, li_31, li_32, li_33, li_34, li_35, li_36, li_37, li_38, li_39, li_40, li_41, li_42, li_43, li_44, li_45, li_46, li_47, li_48, li_49, li_50, li_51, li_52, li_53, li_54, li_55, li_56, li_57, li_58, li_59, li_60, li_61, li_63, li_70, li_96, li_97, li_99, li_100, li_101, li_102, li_120, li_122, li_126, li_200, li_255, li_423, li_555, li_999, li_1000, li_1111, li_2968, li_9999, li_10631, li_12345, li_14092, li_21470, li_65536, li_99233, nz_eq, n1_eq, n1_lt, n1_gt, n1_le, n1_ge, n1_sub, n1_add, nm_add, nz_add, nz_add2, z1_ne, z1_lt, z1_le, nI_1, pk_sub, nI_ltI, nI_leI, nI_eq, ni_neg, ni_nneg, ni_pos0, ni_nle0, ni_m1, gI_eq, gI_ne, xI_sJ, xI_sR, xR_sI, xR_sJ, xJ_sI, xJ_sR, gJ_eq, gJ_ne, gR_eq, gR_ne, if_true, if_false, ite_true, ite_false, not_true_eq_false, not_false_eq_true, decide_true, and_self, true_and, and_true, false_and, and_false, or_true, true_or, or_false, false_or, reduceIte, ne_eq]
        exact ⟨_, _, rfl, rfl, OuD.bad hT tok2.1 hs ⟨w1, w2⟩ (kP2.mono (fun a i h => h.w k5)) (kM2.mono (fun a i h => h.x))⟩
      · have kb2 := tok2.1.2.2.2.2.1 (by omega)
        have tok3 := tk_ok (T := T) tok2.1.2.1
        simp (disch := omega) only [e6, e7, k5, n10, eP, eM, q2, q3, ne1, gP, e6', l1, l2, eP2, p3, lm2, p4 km, bnd_e, grd_t, bdI_e, bdV_e, bokA, bokB, ni_inb, ni_cl, nI_add, pk_mul, li_2, li_3, li_4, li_5, li_6, li_7, li_8, li_9, li_10, li_11, li_12, li_13, li_14, li_15, li_16, li_17, li_18, li_19, li_20, li_21, li_22, li_23, li_24, li_25, li_26, li_27, li_28, li_29, li_30, li_31, li_32, li_33, li_34, li_35, li_36, li_37, li_38, li_39, li_40, li_41, li_42, li_43, li_44, li_45, li_46, li_47, li_48, li_49, li_50, li_51, li_52, li_53, li_54, li_55, li_56, li_57, li_58, li_59, li_60, li_61, li_63, li_70, li_96, li_97, li_99, li_100, li_101, li_102, li_120, li_122, li_126, li_200, li_255, li_423, li_555, li_999, li_1000, li_1111, li_2968, li_9999, li_10631, li_12345, li_14092, li_21470, li_65536, li_99233, nz_eq, n1_eq, n1_lt, n1_gt, n1_le, n1_ge, n1_sub, n1_add, nm_add, nz_add, nz_add2, z1_ne, z1_lt, z1_le, nI_1, pk_sub, nI_ltI, nI_leI, nI_eq, ni_neg, ni_nneg, ni_pos0, ni_nle0, ni_m1, gI_eq, gI_ne, xI_sJ, xI_sR, xR_sI, xR_sJ, xJ_sI, xJ_sR, gJ_eq, gJ_ne, gR_eq, gR_ne, if_true, if_false, ite_true, ite_false, not_true_eq_false, not_false_eq_true, decide_true, and_self, true_and, and_true, false_and, and_false, or_true, true_or, or_false, false_or, reduceIte, ne_eq]
        obtain ⟨u, u', f1, f2, o1, o2, o3⟩ := tr K' _ aP aM (by decide) (by decide) (by decide) (by decide) (by decide) tok3.1 (by omega) p5 p6 p7 (kP2.trans p8) (kM2.trans p9) (p10.trans x2) (p11.trans x3) (p12.trans y2) (p13.trans y3)
        exact ⟨u, u', f1, f2, o1, o2, o3.imp id (fun ⟨a1, a2, dd, a3, a4, a5, a6, C', NT', a7, a8, a9⟩ => ⟨a1, a2, dd, a3, a4, a5, a6, C', NT', a7, C 0 0, k5, a8, a9⟩)⟩
  · have k5' : C 0 0 = 5 := by omega
    have e1 := wrongE hP 5
    have e2 := failsE hM 5
    unfold f_X5_tuneLine_J14
    simp (disch := omega) only [e6, e7, k5', Nat.lt_irrefl, e1, e2, bnd_e, grd_t, bdI_e, bdV_e, bokA, bokB, ni_inb, ni_cl, nI_add, pk_mul, li_2, li_3, li_4, li_5, li_6, li_7, li_8, li_9, li_10, li_11, li_12, li_13, li_14, li_15, li_16, li_17, li_18, li_19, li_20, li_21, li_22, li_23, li_24, li_25, li_26, li_27, li_28, li_29, li_30, li_31, li_32, li_33, li_34, li_35, li_36, li_37, li_38, li_39, li_40, li_41, li_42, li_43, li_44, li_45, li_46, li_47, li_48, li_49, li_50, li_51, li_52, li_53, li_54, li_55, li_56, li_57, li_58, li_59, li_60, li_61, li_63, li_70, li_96, li_97, li_99, li_100, li_101, li_102, li_120, li_122, li_126, li_200, li_255, li_423, li_555, li_999, li_1000, li_1111, li_2968, li_9999, li_10631, li_12345, li_14092, li_21470, li_65536, li_99233, nz_eq, n1_eq, n1_lt, n1_gt, n1_le, n1_ge, n1_sub, n1_add, nm_add, nz_add, nz_add2, z1_ne, z1_lt, z1_le, nI_1, pk_sub, nI_ltI, nI_leI, nI_eq, ni_neg, ni_nneg, ni_pos0, ni_nle0, ni_m1, gI_eq, gI_ne, xI_sJ, xI_sR, xR_sI, xR_sJ, xJ_sI, xJ_sR, gJ_eq, gJ_ne, gR_eq, gR_ne, if_true, if_false, ite_true, ite_false, not_true_eq_false, not_false_eq_true, decide_true, and_self, true_and, and_true, false_and, and_false, or_true, true_or, or_false, false_or, reduceIte, ne_eq]
    exact ⟨_, _, rfl, rfl, OuD.bad hT ok hs (by omega) (Kp.refl _) (Kp.refl _)⟩
