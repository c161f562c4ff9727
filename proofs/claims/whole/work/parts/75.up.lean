/-! days in their surroundings -/
def CxP (C : Nat → Nat → Nat) (jP wP : List Int32) (st : Nat) (m : Mm) : Prop := (st = 4 ∨ st = 34) ∧ gR m 0 2 = st ∧ CfP C st m ∧ LwP jP (st + 10) m ∧ LwP wP (st + 13) m
def CxM (C : Nat → Nat → Nat) (jP wP : List Int32) (m : Mm) : Prop := CfM C m ∧ (∃ jM aj, LwM jM 0 aj m ∧ LwEq jP jM 0) ∧ (∃ wM aw, LwM wM 1 aw m ∧ LwEq wP wM 1)
def WT (st a k : Nat) : Prop := a = 66 ∨ a = 67 ∨ (82 ≤ a ∧ a ≤ 90) ∨ a = 165 ∨ a = st + 12 ∨ a = st + 15 ∨ ((a = st + 10 ∨ a = st + 13) ∧ k = 4)
def KT (st : Nat) (m n : Mm) : Prop := (∀ a k, ¬ WT st a k → gI n a k = gI m a k) ∧ (∀ k, gR n 0 k = gR m 0 k)
theorem KT.refl {st : Nat} (m : Mm) : KT st m m := ⟨fun _ _ _ => rfl, fun _ => rfl⟩
theorem KT.trans {st : Nat} {m n o : Mm} (h : KT st m n) (g : KT st n o) : KT st m o := ⟨fun a k q => (g.1 a k q).trans (h.1 a k q), fun k => (g.2 k).trans (h.2 k)⟩
theorem KT.sI {st : Nat} {m n : Mm} (h : KT st m n) {a k : Nat} (v : Int32) (w : WT st a k) : KT st m (sI n a k v) := ⟨fun b j q => by rw [gI_ne _ _ _ _ _ _ (kp_ap q w)]; exact h.1 b j q, h.2⟩
theorem Kp.kt {W : Nat → Nat → Prop} {st : Nat} {m n : Mm} (h : Kp W m n) (w : ∀ a k, W a k → WT st a k) : KT st m n := ⟨fun a k q => h.1 a k (fun r => q (w a k r)), fun k => h.2.2 0 k⟩
theorem KT.sa {st : Nat} {m n : Mm} (hst : st = 4 ∨ st = 34) (h : KT st m n) : SaP st m n := ⟨fun a k v => h.1 a k (by unfold VP at v; unfold WT; omega), h.2 2, h.2 3⟩
theorem CxP.keep {C : Nat → Nat → Nat} {jP wP : List Int32} {st : Nat} {m n : Mm} (hC : CfOK C) (q : CxP C jP wP st m) (h : KT st m n) : CxP C jP wP st n := by
  obtain ⟨h1, h2, h3, h4, h5⟩ := q
  exact ⟨h1, (h.2 2).trans h2, h3.keep hC (fun a k a1 a2 a3 => h.1 a k (by unfold WT; omega)), h4.keep (h.1 _ _ (by unfold WT; omega)) (fun k => h.1 _ _ (by unfold WT; omega)), h5.keep (h.1 _ _ (by unfold WT; omega)) (fun k => h.1 _ _ (by unfold WT; omega))⟩
def PrP (E : Ev) (st : Nat) (m : Mm) : Prop := gR m 82 14 = st ∧ ∀ p, p < eP E → gI m 85 p = nI (eA E p) ∧ gI m 86 p = nI (plF (eC E) (eE E) p) ∧ ∀ w, w ≤ 9 → gI m 87 (p * 10 + w) = nI (wbF E p w)
def RwP (h f t : Nat) (wr : Nat → Nat) (m : Mm) : Prop := gI m h 3 = nI f ∧ gI m h 4 = nI t ∧ ∀ k, k < 12 → gI m (h + 1) k = nI (wr k)
def RwM (e f t : Nat) (wr : Nat → Nat) (m : Mm) : Prop := gI m 35 1 = nI e ∧ gI m 35 2 = nI f ∧ gI m 35 3 = nI t ∧ ∀ k, k < 12 → gI m 35 (5 + k) = nI (wr k)
theorem passT {E : Ev} {st h : Nat} {m : Mm} {wr : Nat → Nat} (hE : EvOK E) (hh : h = 64 ∨ h = 66) (cx : CxP (eC E) (eJ E) (eW E) st m) (pr : PrP E st m) (rw' : RwP h (eF E) (eT E) wr m) (hwr : ∀ k, k < 12 → wr k ≤ 9) : Sat (f_X1_pass h (eX E) m) (fun n => DyP E h (dyD E wr) n ∧ PrP E st n ∧ RwP h (eF E) (eT E) (dwr (dyD E wr)) n ∧ Kp (WP st h) m n) := by
  have ev : EvP E st h m := ⟨cx.1, hh, pr.1, cx.2.2.1, cx.2.2.2.1, pr.2, rw'.1, rw'.2.1⟩
  refine (passP hE ev hwr rw'.2.2).mono ?_
  intro n ⟨a1, a2⟩
  have hst := cx.1
  have ev' := ev.keep hE a2
  exact ⟨a1, ⟨ev'.2.2.1, ev'.2.2.2.2.2.1⟩, ⟨ev'.2.2.2.2.2.2.1, ev'.2.2.2.2.2.2.2, a1.2.2.2.2.1⟩, a2⟩
theorem prepT {E : Ev} {st : Nat} {m : Mm} (hE : EvOK E) (cx : CxP (eC E) (eJ E) (eW E) st m) (hA : ∀ p, p < eP E → eA E p = eC E 8 p) : Sat (f_X1_prepare st (nI (eE E)) m) (fun n => PrP E st n ∧ (∀ a k, ¬ WPr st a k → gI n a k = gI m a k) ∧ (∀ a k, ¬ WPr st a k → gJ n a k = gJ m a k) ∧ KT st m n) := by
  refine (prepP hE cx.1 cx.2.2.1 cx.2.2.2.2 hA).mono ?_
  intro n ⟨a1, a2⟩
  have e : ∀ a k, ¬ WPr st a k → gI n a k = gI m a k := fun a k q => (a2.1 a k q).trans (xI_sR _ _ _ _ _ _)
  have hst := cx.1
  refine ⟨⟨(a2.2.2 _ _).trans (gR_eq _ _ _ _ _ _ rfl rfl), a1⟩, e, fun a k q => (a2.2.1 a k q).trans (xJ_sR _ _ _ _ _ _), fun a k q => e a k (fun r => q ?_), fun k => (a2.2.2 _ _).trans (gR_ne _ _ _ _ _ _ (by omega))⟩
  unfold WPr at r
  unfold WT
  omega
def DyR (E : Ev) (d : Dy) (m : Mm) : Prop := (∀ p, p < 7 → gI m 43 p = dbg d p ∧ gI m 44 p = den d p) ∧ (∀ s, s < 60 → gI m 45 s = pI (dpa d s)) ∧ gI m 0 64 = dbn d
def WMp (a k : Nat) : Prop := WMd a k ∨ (a = 35 ∧ k = 0) ∨ a = 41
theorem CxM.keep {C : Nat → Nat → Nat} {jP wP : List Int32} {m n : Mm} (hC : CfOK C) (q : CxM C jP wP m) (e : ∀ a k, vM0 a k → gI n a k = gI m a k) : CxM C jP wP n := by
  obtain ⟨h1, ⟨jM, aj, h2, h2'⟩, ⟨wM, aw, h3, h3'⟩⟩ := q
  refine ⟨h1.keep hC (fun a k r => e a k ?_), ⟨jM, aj, h2.keep (e _ _ (by unfold vM0; omega)) (e _ _ (by unfold vM0; omega)) (fun k hk => e _ _ (by unfold vM0; omega)), h2'⟩, ⟨wM, aw, h3.keep (e _ _ (by unfold vM0; omega)) (e _ _ (by unfold vM0; omega)) (fun k hk => e _ _ (by unfold vM0; omega)), h3'⟩⟩
  unfold vM0
  rcases r with r | r | r | r
  · exact Or.inl r
  · exact Or.inr (Or.inl r)
  · exact Or.inr (Or.inr (Or.inl r))
  · exact Or.inr (Or.inr (Or.inr (Or.inl r)))
/-- a day that has its arrivals -/
theorem dayT {E : Ev} {m : Mm} {wr : Nat → Nat} (hE : EvOK E) (cx : CxM (eC E) (eJ E) (eW E) m) (rm : RwM (eE E) (eF E) (eT E) wr m) (hwr : ∀ k, k < 12 → wr k ≤ 9) (h41 : ∀ p, p < eP E → gI m 41 p = nI (eA E p)) (hx : gI m 0 62 = eX E) : Sat (f_X12_passesDay m) (fun q => q.1 = djy (dyD E wr) ∧ DyR E (dyD E wr) q.2 ∧ RwM (eE E) (eF E) (eT E) (dwr (dyD E wr)) q.2 ∧ gI q.2 35 0 = gI m 35 0 + 1 ∧ Kp (fun a k => WMd a k ∨ (a = 35 ∧ k = 0)) m q.2) := by
  have ev : EvM E m := ⟨cx.1, cx.2.1, cx.2.2, rm.1, rm.2.1, rm.2.2.1, h41, hx⟩
  refine (dayM hE ev hwr rm.2.2.2).mono ?_
  intro q ⟨a1, a2, a3, a4⟩
  exact ⟨a1, ⟨a2.2.1, a2.2.2.2.2.2.2, a2.2.2.2.2.1⟩, ⟨(a4.1 _ _ (by unfold WMd; omega)).trans rm.1, (a4.1 _ _ (by unfold WMd; omega)).trans rm.2.1, (a4.1 _ _ (by unfold WMd; omega)).trans rm.2.2.1, a2.2.2.1⟩, a3, a4⟩
theorem passesT {E : Ev} {m : Mm} {wr : Nat → Nat} (hE : EvOK E) (cx : CxM (eC E) (eJ E) (eW E) m) (rm : RwM (eE E) (eF E) (eT E) wr m) (hwr : ∀ k, k < 12 → wr k ≤ 9) (hA : ∀ p, p < eP E → eA E p = eC E 8 p) (hx : gI m 0 62 = eX E) : Sat (f_X12_passes m) (fun q => q.1 = djy (dyD E wr) ∧ DyR E (dyD E wr) q.2 ∧ RwM (eE E) (eF E) (eT E) (dwr (dyD E wr)) q.2 ∧ gI q.2 35 0 = gI m 35 0 + 1 ∧ Kp WMp m q.2) := by
  have e7 := eP7 hE
  unfold f_X12_passes
  refine cnt1 7 (by decide) (fun i n => (∀ p, p < i → gI n 41 p = gI m 12 p) ∧ Kp (fun a _ => a = 41) m n) ?_ ?_ ⟨fun p hp => absurd hp (by omega), Kp.refl m⟩
  · intro i n k hi ⟨a1, a2⟩ hk
    have n1 : ¬ 7 ≤ i := by omega
    have e12 := a2.1 12 i (by omega)
    unfold f_X12_passes_B2
    simp (disch := omega) only [n1, e12, bnd_e, grd_t, bdI_e, bdV_e, bokA, bokB, ni_inb, ni_cl, nI_add, pk_mul, li_2, li_3, li_4, li_5, li_6, li_7, li_8, li_9, li_10, li_11, li_12, li_13, li_14, li_15, li_16, li_17, li_18, li_19, li_20, li_21, li_22, li_23, li_24, li_25, li_26, li_27, li_28, li_29, li_30, li_31, li_32, li_33, li_34, li_35, li_36, li_37, li_38, li_39, li_40, li_41, li_42, li_43, li_44, li_45, li_46, li_47, li_48, li_49, li_50, li_51, li_52, li_53, li_54, li_55, li_56, li_57, li_58, li_59, li_60, li_61, li_63, li_70, li_96, li_97, li_99, li_100, li_101, li_102, li_120, li_122, li_126, li_200, li_255, li_423, li_555, li_999, li_1000, li_1111, li_2968, li_9999, li_10631, li_12345, li_14092, li_21470, li_65536, li_99233, nz_eq, n1_eq, n1_lt, n1_gt, n1_le, n1_ge, n1_sub, n1_add, nm_add, nz_add, nz_add2, z1_ne, z1_lt, z1_le, nI_1, pk_sub, nI_ltI, nI_leI, nI_eq, ni_neg, ni_nneg, ni_pos0, ni_nle0, ni_m1, gI_eq, gI_ne, xI_sJ, xI_sR, xR_sI, xR_sJ, xJ_sI, xJ_sR, gJ_eq, gJ_ne, gR_eq, gR_ne, if_true, if_false, ite_true, ite_false, not_true_eq_false, not_false_eq_true, decide_true, and_self, true_and, and_true, false_and, and_false, or_true, true_or, or_false, false_or, reduceIte, ne_eq]
    refine hk _ ⟨fun p hp => ?_, a2.sI _ rfl⟩
    by_cases z : p = i
    · subst z; simp (disch := omega) only [bnd_e, grd_t, bdI_e, bdV_e, bokA, bokB, ni_inb, ni_cl, nI_add, pk_mul, li_2, li_3, li_4, li_5, li_6, li_7, li_8, li_9, li_10, li_11, li_12, li_13, li_14, li_15, li_16, li_17, li_18, li_19, li_20, li_21, li_22, li_23, li_24, li_25, li_26, li_27, li_28, li_29, li_30, li_31, li_32, li_33, li_34, li_35, li_36, li_37, li_38, li_39, li_40, li_41, li_42, li_43, li_44, li_45, li_46, li_47, li_48, li_49, li_50, li_51, li_52, li_53, li_54, li_55, li_56, li_57, li_58, li_59, li_60, li_61, li_63, li_70, li_96, li_97, li_99, li_100, li_101, li_102, li_120, li_122, li_126, li_200, li_255, li_423, li_555, li_999, li_1000, li_1111, li_2968, li_9999, li_10631, li_12345, li_14092, li_21470, li_65536, li_99233, nz_eq, n1_eq, n1_lt, n1_gt, n1_le, n1_ge, n1_sub, n1_add, nm_add, nz_add, nz_add2, z1_ne, z1_lt, z1_le, nI_1, pk_sub, nI_ltI, nI_leI, nI_eq, ni_neg, ni_nneg, ni_pos0, ni_nle0, ni_m1, gI_eq, gI_ne, xI_sJ, xI_sR, xR_sI, xR_sJ, xJ_sI, xJ_sR, gJ_eq, gJ_ne, gR_eq, gR_ne, if_true, if_false, ite_true, ite_false, not_true_eq_false, not_false_eq_true, decide_true, and_self, true_and, and_true, false_and, and_false, or_true, true_or, or_false, false_or, reduceIte, ne_eq]
    · have := a1 p (by omega)
      simp (disch := omega) only [bnd_e, grd_t, bdI_e, bdV_e, bokA, bokB, ni_inb, ni_cl, nI_add, pk_mul, li_2, li_3, li_4, li_5, li_6, li_7, li_8, li_9, li_10, li_11, li_12, li_13, li_14, li_15, li_16, li_17, li_18, li_19, li_20, li_21, li_22, li_23, li_24, li_25, li_26, li_27, li_28, li_29, li_30, li_31, li_32, li_33, li_34, li_35, li_36, li_37, li_38, li_39, li_40, li_41, li_42, li_43, li_44, li_45, li_46, li_47, li_48, li_49, li_50, li_51, li_52, li_53, li_54, li_55, li_56, li_57, li_58, li_59, li_60, li_61, li_63, li_70, li_96, li_97, li_99, li_100, li_101, li_102, li_120, li_122, li_126, li_200, li_255, li_423, li_555, li_999, li_1000, li_1111, li_2968, li_9999, li_10631, li_12345, li_14092, li_21470, li_65536, li_99233, nz_eq, n1_eq, n1_lt, n1_gt, n1_le, n1_ge, n1_sub, n1_add, nm_add, nz_add, nz_add2, z1_ne, z1_lt, z1_le, nI_1, pk_sub, nI_ltI, nI_leI, nI_eq, ni_neg, ni_nneg, ni_pos0, ni_nle0, ni_m1, gI_eq, gI_ne, xI_sJ, xI_sR, xR_sI, xR_sJ, xJ_sI, xJ_sR, gJ_eq, gJ_ne, gR_eq, gR_ne, if_true, if_false, ite_true, ite_false, not_true_eq_false, not_false_eq_true, decide_true, and_self, true_and, and_true, false_and, and_false, or_true, true_or, or_false, false_or, reduceIte, ne_eq]; exact this
  · intro n k ⟨a1, a2⟩
    unfold f_X12_passes_B2
    simp (disch := omega) only [Nat.le_refl, Sat_bdI, bnd_e, grd_t, bdI_e, bdV_e, bokA, bokB, ni_inb, ni_cl, nI_add, pk_mul, li_2, li_3, li_4, li_5, li_6, li_7, li_8, li_9, li_10, li_11, li_12, li_13, li_14, li_15, li_16, li_17, li_18, li_19, li_20, li_21, li_22, li_23, li_24, li_25, li_26, li_27, li_28, li_29, li_30, li_31, li_32, li_33, li_34, li_35, li_36, li_37, li_38, li_39, li_40, li_41, li_42, li_43, li_44, li_45, li_46, li_47, li_48, li_49, li_50, li_51, li_52, li_53, li_54, li_55, li_56, li_57, li_58, li_59, li_60, li_61, li_63, li_70, li_96, li_97, li_99, li_100, li_101, li_102, li_120, li_122, li_126, li_200, li_255, li_423, li_555, li_999, li_1000, li_1111, li_2968, li_9999, li_10631, li_12345, li_14092, li_21470, li_65536, li_99233, nz_eq, n1_eq, n1_lt, n1_gt, n1_le, n1_ge, n1_sub, n1_add, nm_add, nz_add, nz_add2, z1_ne, z1_lt, z1_le, nI_1, pk_sub, nI_ltI, nI_leI, nI_eq, ni_neg, ni_nneg, ni_pos0, ni_nle0, ni_m1, gI_eq, gI_ne, xI_sJ, xI_sR, xR_sI, xR_sJ, xJ_sI, xJ_sR, gJ_eq, gJ_ne, gR_eq, gR_ne, if_true, if_false, ite_true, ite_false, not_true_eq_false, not_false_eq_true, decide_true, and_self, true_and, and_true, false_and, and_false, or_true, true_or, or_false, false_or, reduceIte, ne_eq]
    have e : ∀ a k, a ≠ 41 → gI n a k = gI m a k := fun a k q => a2.1 a k q
    refine (dayT (wr := wr) hE (cx.keep hE.1 (fun a k r => e a k (by unfold vM0 at r; omega))) ⟨(e _ _ (by decide)).trans rm.1, (e _ _ (by decide)).trans rm.2.1, (e _ _ (by decide)).trans rm.2.2.1, fun k hk => (e _ _ (by decide)).trans (rm.2.2.2 k hk)⟩ hwr (fun p hp => ?_) ((e _ _ (by decide)).trans hx)).mono ?_
    · rw [a1 p (by omega), hA p hp]
      exact (cx.1.2.2 p hp).2.2.2.2.2
    · intro q ⟨b1, b2, b3, b4, b5⟩
      exact (Sat_some _ _).mpr ⟨b1, b2, b3, by rw [b4, e _ _ (by decide)], (a2.mono (fun a k r => Or.inr (Or.inr r))).trans (b5.mono (fun a k r => r.elim Or.inl (fun r => Or.inr (Or.inl r))))⟩
/-- what is at hand -/
def Bas (C : Nat → Nat → Nat) (jP wP : List Int32) (st e f t : Nat) (wr : Nat → Nat) (S : Nat → Int32) (mP mM : Mm) : Prop := CxP C jP wP st mP ∧ CxM C jP wP mM ∧ CfOK C ∧ ((∃ jM, LwEq jP jM 0) ∧ (∃ wM, LwEq wP wM 1)) ∧ ((1 ≤ e ∧ e ≤ 30) ∧ f ≤ 59 ∧ t ≤ 60 ∧ (∀ k, k < 12 → wr k ≤ 9)) ∧ (S 1 = nI e ∧ S 2 = nI f ∧ S 3 = nI t ∧ ∀ k, k < 12 → S (5 + k) = nI (wr k))
theorem RelC.bas {C : Nat → Nat → Nat} {st : Nat} {S : Nat → Int32} {mP mM : Mm} (h : RelC C st S mP mM) : ∃ jP wP e f t wr, Bas C jP wP st e f t wr S mP mM := by
  obtain ⟨hC, hP, hM, jP, jM, wP, wM, aj, aw, h1, h2, h3, h4, h5, h6⟩ := h.2.1
  obtain ⟨⟨e, e1, e2, e3⟩, ⟨f, f1, f2⟩, ⟨t, t1, t2⟩, hw⟩ := h.2.2.1.1
  refine ⟨jP, wP, e, f, t, fun k => (S (5 + k)).toNatClampNeg, ⟨h.st, h.gr, hP, h1, h4⟩, ⟨hM, ⟨jM, aj, h2, h3⟩, ⟨wM, aw, h5, h6⟩⟩, hC, ⟨⟨jM, h3⟩, ⟨wM, h6⟩⟩, ⟨⟨e1, e2⟩, f1, t1, fun k hk => ?_⟩, e3, f2, t2, fun k hk => ?_⟩
  · obtain ⟨w, w1, w2⟩ := hw k hk
    show (S (5 + k)).toNatClampNeg ≤ 9
    rw [w2, ni_cl _ (by omega)]
    exact w1
  · obtain ⟨w, w1, w2⟩ := hw k hk
    show S (5 + k) = nI (S (5 + k)).toNatClampNeg
    rw [w2, ni_cl _ (by omega)]
abbrev mkE (C : Nat → Nat → Nat) (e f t : Nat) (x : Int32) (jP wP : List Int32) : Ev := (C, C 8, (e, f, t), x, jP, wP)
theorem mkE_ok {C : Nat → Nat → Nat} {jP wP : List Int32} {st e f t : Nat} {wr : Nat → Nat} {S : Nat → Int32} {mP mM : Mm} (b : Bas C jP wP st e f t wr S mP mM) {e' f' t' : Nat} (he : e' ≤ 30) (hf : f' ≤ 60) (ht : t' ≤ 60) (x : Int32) : EvOK (mkE C e' f' t' x jP wP) := ⟨b.2.2.1, he, hf, ht, fun p hp => (b.2.2.1.2.2.2.2.2.2.2.2 p hp).2.2.2.2.2, b.2.2.2.1.1, b.2.2.2.1.2⟩
theorem dwr_ok {E : Ev} (hE : EvOK E) {wr : Nat → Nat} (h : ∀ k, k < 12 → wr k ≤ 9) : ∀ k, k < 12 → dwr (dyD E wr) k ≤ 9 := (okDay hE h).2.2.2.2.2
theorem RowP.rw {h e f t : Nat} {wr : Nat → Nat} {S : Nat → Int32} {m : Mm} (q : RowP h S m) (s : S 1 = nI e ∧ S 2 = nI f ∧ S 3 = nI t ∧ ∀ k, k < 12 → S (5 + k) = nI (wr k)) : RwP h f t wr m := ⟨q.2.2.1.trans s.2.1, q.2.2.2.1.trans s.2.2.1, fun k hk => (q.2.2.2.2.2 k hk).trans (s.2.2.2 k hk)⟩
theorem RowM.rw {e f t : Nat} {wr : Nat → Nat} {S : Nat → Int32} {m : Mm} (q : RowM 35 0 S m) (s : S 1 = nI e ∧ S 2 = nI f ∧ S 3 = nI t ∧ ∀ k, k < 12 → S (5 + k) = nI (wr k)) : RwM e f t wr m := ⟨(q.at0 (by decide)).trans s.1, (q.at0 (by decide)).trans s.2.1, (q.at0 (by decide)).trans s.2.2.1, fun k hk => (q.at0 (by omega)).trans (s.2.2.2 k hk)⟩
/-- the day that comes, tried -/
theorem tryP {C : Nat → Nat → Nat} {jP wP : List Int32} {st e f t : Nat} {wr : Nat → Nat} {S : Nat → Int32} {mP mM : Mm} (b : Bas C jP wP st e f t wr S mP mM) (rp : RowP 64 S mP) (x : Int32) : Sat (f_X11_tryDay x mP) (fun q => q.1 = djy (dyD (mkE C e f t x jP wP) wr) ∧ DyP (mkE C e f t x jP wP) 66 (dyD (mkE C e f t x jP wP) wr) q.2 ∧ KT st mP q.2) := by
  obtain ⟨cx, cm, hC, lq, ⟨be, bf, bt, bw⟩, bs⟩ := id b
  have hst := cx.1
  have hE := mkE_ok b be.2 (by omega : f ≤ 60) bt x
  unfold f_X11_tryDay
  rw [Sat_bdV]
  refine (copyP (h0 := 66) rp (by rfl) l65 (by omega)).mono ?_
  intro n1 ⟨a1, a2⟩
  have k1 : KT st mP n1 := a2.kt (fun a k q => by unfold WT; omega)
  have cx1 := cx.keep hC k1
  have r1 : RwP 66 f t wr n1 := a1.rw bs
  simp (disch := omega) only [cx1.2.1, Lst hst, a1.2.1.trans bs.1, bnd_e, grd_t, bdI_e, bdV_e, bokA, bokB, ni_inb, ni_cl, nI_add, pk_mul, li_2, li_3, li_4, li_5, li_6, li_7, li_8, li_9, li_10, li_11, li_12, li_13, li_14, li_15, li_16, li_17, li_18, li_19, li_20, li_21, li_22, li_23, li_24, li_25, li_26, li_27, li_28, li_29, li_30, li_31, li_32, li_33, li_34, li_35, li_36, li_37, li_38, li_39, li_40, li_41, li_42, li_43, li_44, li_45, li_46, li_47, li_48, li_49, li_50, li_51, li_52, li_53, li_54, li_55, li_56, li_57, li_58, li_59, li_60, li_61, li_63, li_70, li_96, li_97, li_99, li_100, li_101, li_102, li_120, li_122, li_126, li_200, li_255, li_423, li_555, li_999, li_1000, li_1111, li_2968, li_9999, li_10631, li_12345, li_14092, li_21470, li_65536, li_99233, nz_eq, n1_eq, n1_lt, n1_gt, n1_le, n1_ge, n1_sub, n1_add, nm_add, nz_add, nz_add2, z1_ne, z1_lt, z1_le, nI_1, pk_sub, nI_ltI, nI_leI, nI_eq, ni_neg, ni_nneg, ni_pos0, ni_nle0, ni_m1, gI_eq, gI_ne, xI_sJ, xI_sR, xR_sI, xR_sJ, xJ_sI, xJ_sR, gJ_eq, gJ_ne, gR_eq, gR_ne, if_true, if_false, ite_true, ite_false, not_true_eq_false, not_false_eq_true, decide_true, and_self, true_and, and_true, false_and, and_false, or_true, true_or, or_false, false_or, reduceIte, ne_eq]
  rw [Sat_bdV]
  refine (prepT (E := mkE C e f t x jP wP) hE cx1 (fun _ _ => rfl)).mono ?_
  intro n2 ⟨b1, b2, b3, b4⟩
  have r2 : RwP 66 f t wr n2 := ⟨(b2 _ _ (by unfold WPr; omega)).trans r1.1, (b2 _ _ (by unfold WPr; omega)).trans r1.2.1, fun k hk => (b2 _ _ (by unfold WPr; omega)).trans (r1.2.2 k hk)⟩
  rw [Sat_bdV]
  refine (passT (E := mkE C e f t x jP wP) hE (Or.inr rfl) (cx1.keep hC b4) b1 r2 bw).mono ?_
  intro n3 ⟨c1, c2, c3, c4⟩
  exact (Sat_some _ _).mpr ⟨c1.2.2.2.2.2.1, c1, (k1.trans b4).trans (c4.kt (fun a k q => by unfold WP at q; unfold WT; omega))⟩
theorem triesM {C : Nat → Nat → Nat} {jP wP : List Int32} {st e f t : Nat} {wr : Nat → Nat} {S : Nat → Int32} {mP mM : Mm} (b : Bas C jP wP st e f t wr S mP mM) {m : Mm} {x : Int32} (cm : CxM C jP wP m) (rm : RowM 35 0 S m) (hx : gI m 0 62 = x) : Sat (f_X12_tries m) (fun q => q.1 = djy (dyD (mkE C e f t x jP wP) wr) ∧ DyR (mkE C e f t x jP wP) (dyD (mkE C e f t x jP wP) wr) q.2 ∧ ∀ a k, ¬ ((WMd a k ∧ a ≠ 35) ∨ a = 41 ∨ a = 37) → gI q.2 a k = gI m a k) := by
  obtain ⟨-, -, hC, lq, ⟨be, bf, bt, bw⟩, bs⟩ := id b
  have hE := mkE_ok b be.2 (by omega : f ≤ 60) bt x
  unfold f_X12_tries
  rw [Sat_bdV]
  refine (copyM (c := 35) (o := 0) (c' := 37) (o' := 0) rm (by decide) (by decide) (by decide) (by decide) (by decide)).mono ?_
  intro n1 ⟨a1, a2⟩
  have rm1 : RowM 35 0 S n1 := rm.keep (fun i hi => a2.1 _ _ (by omega))
  rw [Sat_bdI]
  refine (passesT (E := mkE C e f t x jP wP) (wr := wr) hE (cm.keep hC (fun a k r => a2.1 a k (by unfold vM0 at r; omega))) (rm1.rw bs) bw (fun _ _ => rfl) ((a2.1 _ _ (by omega)).trans hx)).mono ?_
  intro q ⟨b1, b2, b3, b4, b5⟩
  have rm2 : RowM 37 0 S q.2 := a1.keep (fun i hi => b5.1 _ _ (by unfold WMp WMd; omega))
  rw [Sat_bdV]
  refine (copyM (c := 37) (o := 0) (c' := 35) (o' := 0) rm2 (by decide) (by decide) (by decide) (by decide) (by decide)).mono ?_
  intro n3 ⟨c1, c2⟩
  refine (Sat_some _ _).mpr ⟨b1, ⟨fun p hp => ⟨(c2.1 _ _ (by omega)).trans (b2.1 p hp).1, (c2.1 _ _ (by omega)).trans (b2.1 p hp).2⟩, fun s hs => (c2.1 _ _ (by omega)).trans (b2.2.1 s hs), (c2.1 _ _ (by omega)).trans b2.2.2⟩, fun a k h => ?_⟩
  · by_cases z : a = 35 ∧ k < 17
    · obtain ⟨rfl, z2⟩ := z
      exact (c1.at0 z2).trans (rm.at0 z2).symm
    · exact ((c2.1 _ _ (by omega)).trans (b5.1 _ _ (fun r => h (by unfold WMp WMd at r; unfold WMd; omega)))).trans (a2.1 _ _ (by omega))
theorem WMd_vm {a k : Nat} (h : VM a k) : ¬ ((WMd a k ∧ a ≠ 35) ∨ a = 41 ∨ a = 37) := by
  unfold VM at h
  unfold WMd
  omega
/-- both try the day that comes -/
theorem tryB {C : Nat → Nat → Nat} {st : Nat} {S : Nat → Int32} {mP mM : Mm} (hR : RelC C st S mP mM) : ∃ E wr, eC E = C ∧ EvOK E ∧ (∀ k, k < 12 → wr k ≤ 9) ∧ Sat (f_X11_tryDay 0 mP) (fun q => Sat (f_X12_tries (sI mM 0 0 0)) (fun q' => q.1 = djy (dyD E wr) ∧ q'.1 = djy (dyD E wr) ∧ DyP E 66 (dyD E wr) q.2 ∧ DyR E (dyD E wr) q'.2 ∧ RelC C st S q.2 q'.2)) := by
  obtain ⟨jP, wP, e, f, t, wr, b⟩ := hR.bas
  obtain ⟨-, -, hC, lq, ⟨be, bf, bt, bw⟩, bs⟩ := id b
  refine ⟨mkE C e f t 0 jP wP, wr, rfl, mkE_ok b be.2 (by omega) bt 0, bw, ?_⟩
  refine (tryP b hR.2.2.1.2.1 0).mono ?_
  intro q ⟨a1, a2, a3⟩
  have hK : RelC C st S mP (sI mM 0 0 0) := hR.keep (SaP.refl _ _) (SaM.thr _ _)
  have cm : CxM C jP wP (sI mM 0 0 0) := b.2.1.keep hC (fun a k r => gI_ne _ _ _ _ _ _ (by unfold vM0 at r; omega))
  refine (triesM b (x := 0) cm hK.2.2.1.2.2 hK.2.2.2.2.2.2.2.2.2).mono ?_
  intro q' ⟨b1, b2, b3⟩
  exact ⟨a1, b1, a2, b2, hK.keep (a3.sa hR.st) (fun a k v => b3 a k (WMd_vm v))⟩
/-! 12: joy -/
theorem st_joy : St_joy Rel := by
  intro mP mM ⟨C, st, S, hR⟩
  refine of_key ?_
  obtain ⟨E, wr, hc, hE, hwr, key⟩ := tryB hR
  unfold f_X11_joy f_X12_joy
  rw [bnd_e, Sat_bdI]
  refine key.mono ?_
  intro q h
  refine (Sat_some _ _).mpr ?_
  rw [Sat_bdI]
  refine h.mono ?_
  intro q' ⟨h1, h2, h3, h4, h5⟩
  exact (Sat_some _ _).mpr ⟨h1.trans h2.symm, C, st, S, h5⟩
