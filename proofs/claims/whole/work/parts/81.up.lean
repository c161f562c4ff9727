/-! what days bring -/
theorem sb_com (a p j : Int32) : a - p + j = a + j - p := by
  rw [Int32.sub_eq_add_neg, Int32.sub_eq_add_neg, Int32.add_assoc, Int32.add_assoc, Int32.add_comm (-p) j]
def pdF (at' n : Nat) (pr : Int32) : Int32 := if at' < n then pr else 0
theorem bringM {C : Nat → Nat → Nat} {jP wP : List Int32} {st e f t : Nat} {wr : Nat → Nat} {S : Nat → Int32} {mP mM : Mm} (b : Bas C jP wP st e f t wr S mP mM) {m : Mm} (cm : CxM C jP wP m) (rm : RowM 35 0 S m) (h62 : gI m 0 62 = 0) {E : Ev} (eqE : E = mkE C e f t 0 jP wP) {days at' : Nat} (hd : days ≤ 100) {p2 : Int32} (hp2 : ∀ k, k < days → (nI k = p2 ↔ k = at')) : Sat (f_X12_daysBring (nI days) p2 m) (fun q => q.1 = rnJ E wr at' days - pdF at' days (nI (C 0 6)) ∧ Fr WTn m q.2) := by
  obtain ⟨cx, -, hC, lq, ⟨be, bf, bt, bw⟩, bs⟩ := id b
  have hE : EvOK E := by rw [eqE]; exact mkE_ok b be.2 (by omega : f ≤ 60) bt 0
  have rb := rnW_b hE at' bw
  have c1' : eC E = C := by rw [eqE]; rfl
  have c2' : eJ E = jP := by rw [eqE]; rfl
  have c3' : eW E = wP := by rw [eqE]; rfl
  have c4' : eE E = e := by rw [eqE]; rfl
  have c5' : eF E = f := by rw [eqE]; rfl
  have c6' : eT E = t := by rw [eqE]; rfl
  have c7' : eX E = 0 := by rw [eqE]; rfl
  have c8' : ∀ p, p < eP E → eA E p = eC E 8 p := by rw [eqE]; exact fun _ _ => rfl
  clear eqE
  unfold f_X12_daysBring
  rw [Sat_bdV]
  refine (copyM (c := 35) (o := 0) (c' := 36) (o' := 0) rm (by decide) (by decide) (by decide) (by decide) (by decide)).mono ?_
  intro n1 ⟨a1, a2⟩
  have pd0 : (0 : Int32) = rnJ E wr at' 0 - pdF at' 0 (nI (C 0 6)) := by
    unfold pdF
    rw [if_neg (Nat.not_lt_zero _)]
    exact (Int32.sub_zero 0).symm
  refine cnt2 (A := Int32) 0 days (by omega) (by omega) (fun i a n' => a = rnJ E wr at' i - pdF at' i (nI (C 0 6)) ∧ Fr (fun a k => WMq a k ∨ (a = 36 ∧ k < 17)) m n' ∧ RowM 36 0 S n' ∧ RwM e f t (rnW E wr at' i) n' ∧ CxM C jP wP n' ∧ gI n' 0 62 = 0) ?_ ?_ ⟨pd0, fun a k h => a2.1 a k (by omega), a1, (rm.keep (fun i hi => a2.1 _ _ (by omega))).rw bs, cm.keep hC (fun a k r => a2.1 _ _ (by unfold vM0 at r; omega)), (a2.1 _ _ (by omega)).trans h62⟩
  · intro i a n' k _ hi ⟨d0, d1, d2, d3, d4, d5⟩ hk
    subst d0
    have n1 : ¬ days ≤ i := by omega
    have pj := hp2 i hi
    have pm : gI n' 2 6 = nI (C 0 6) := d4.1.1 6 (by decide)
    have more : ∀ (v : Nat → Nat) (x : Int32) (n2 : Mm), v = mdW at' i (rnW E wr at' i) → x + djy (dyD E v) = rnJ E wr at' (i + 1) - pdF at' (i + 1) (nI (C 0 6)) → RwM e f t v n2 → CxM C jP wP n2 → gI n2 0 62 = 0 → Fr WMq n' n2 → Sat (f_X12_daysBring_J45 (nI days) p2 k x (nI i) n2) (fun q => q.1 = rnJ E wr at' days - pdF at' days (nI (C 0 6)) ∧ Fr WTn m q.2) := by
      intro v x n2 hv hx hr hc h6 hf
      unfold f_X12_daysBring_J45
      rw [Sat_bdI]
      have vb : ∀ k, k < 12 → v k ≤ 9 := by rw [hv]; exact mdW_b at' i (rb i)
      have ps := passesN (E := E) (m := n2) (wr := v) hE hE.1 (by rw [c1', c2', c3']; exact hc) (by rw [c4', c5', c6']; exact hr) vb c8' (by rw [c7']; exact h6)
      refine ps.mono ?_
      intro q ⟨q1, q2, q3, q4, q5, q6⟩
      rw [c1', c2', c3'] at q3
      rw [c4', c5', c6'] at q2
      rw [c7'] at q4
      have f2 : Fr (fun a k => WMq a k ∨ (a = 36 ∧ k < 17)) m q.2 := fun a k h => ((q6 a k (fun r => h (Or.inl r))).trans (hf a k (fun r => h (Or.inl r)))).trans (d1 a k h)
      simp (disch := omega) only [q1, bnd_e, grd_t, bdI_e, bdV_e, bokA, bokB, ni_inb, ni_cl, nI_add, pk_mul, li_2, li_3, li_4, li_5, li_6, li_7, li_8, li_9, li_10, li_11, li_12, li_13, li_14, li_15, li_16, li_17, li_18, li_19, li_20, li_21, li_22, li_23, li_24, li_25, li_26, li_27, li_28, li_29, li_30, li_31, li_32, li_33, li_34, li_35, li_36, li_37, li_38, li_39, li_40, li_41, li_42, li_43, li_44, li_45, li_46, li_47, li_48, li_49, li_50, li_51, li_52, li_53, li_54, li_55, li_56, li_57, li_58, li_59, li_60, li_61, li_63, li_70, li_96, li_97, li_99, li_100, li_101, li_102, li_120, li_122, li_126, li_200, li_255, li_423, li_555, li_999, li_1000, li_1111, li_2968, li_9999, li_10631, li_12345, li_14092, li_21470, li_65536, li_99233, nz_eq, n1_eq, n1_lt, n1_gt, n1_le, n1_ge, n1_sub, n1_add, nm_add, nz_add, nz_add2, z1_ne, z1_lt, z1_le, nI_1, pk_sub, nI_ltI, nI_leI, nI_eq, ni_neg, ni_nneg, ni_pos0, ni_nle0, ni_m1, gI_eq, gI_ne, xI_sJ, xI_sR, xR_sI, xR_sJ, xJ_sI, xJ_sR, gJ_eq, gJ_ne, gR_eq, gR_ne, if_true, if_false, ite_true, ite_false, not_true_eq_false, not_false_eq_true, decide_true, and_self, true_and, and_true, false_and, and_false, or_true, true_or, or_false, false_or, reduceIte, ne_eq]
      refine hk _ _ ⟨hx, f2, d2.keep (fun i hi => (q6 _ _ (by unfold WMq; omega)).trans (hf _ _ (by unfold WMq; omega))), ?_, q3, q4⟩
      show RwM e f t (dwr (dyD E (mdW at' i (rnW E wr at' i)))) q.2
      rw [← hv]
      exact q2
    unfold f_X12_daysBring_B18
    by_cases z : i = at'
    · have pj' := pj.mpr z
      simp (disch := omega) only [n1, bnd_e, grd_t, bdI_e, bdV_e, bokA, bokB, ni_inb, ni_cl, nI_add, pk_mul, li_2, li_3, li_4, li_5, li_6, li_7, li_8, li_9, li_10, li_11, li_12, li_13, li_14, li_15, li_16, li_17, li_18, li_19, li_20, li_21, li_22, li_23, li_24, li_25, li_26, li_27, li_28, li_29, li_30, li_31, li_32, li_33, li_34, li_35, li_36, li_37, li_38, li_39, li_40, li_41, li_42, li_43, li_44, li_45, li_46, li_47, li_48, li_49, li_50, li_51, li_52, li_53, li_54, li_55, li_56, li_57, li_58, li_59, li_60, li_61, li_63, li_70, li_96, li_97, li_99, li_100, li_101, li_102, li_120, li_122, li_126, li_200, li_255, li_423, li_555, li_999, li_1000, li_1111, li_2968, li_9999, li_10631, li_12345, li_14092, li_21470, li_65536, li_99233, nz_eq, n1_eq, n1_lt, n1_gt, n1_le, n1_ge, n1_sub, n1_add, nm_add, nz_add, nz_add2, z1_ne, z1_lt, z1_le, nI_1, pk_sub, nI_ltI, nI_leI, nI_eq, ni_neg, ni_nneg, ni_pos0, ni_nle0, ni_m1, gI_eq, gI_ne, xI_sJ, xI_sR, xR_sI, xR_sJ, xJ_sI, xJ_sR, gJ_eq, gJ_ne, gR_eq, gR_ne, if_true, if_false, ite_true, ite_false, not_true_eq_false, not_false_eq_true, decide_true, and_self, true_and, and_true, false_and, and_false, or_true, true_or, or_false, false_or, reduceIte, ne_eq]
      rw [if_neg (fun q => q pj'), Sat_bdI]
      refine (mendT (rb i) d3 pm).mono ?_
      intro q ⟨q1, q2, q3⟩
      have fr : Fr WMq n' q.2 := fun a k h => q3.1 a k (by unfold WMq at h; omega)
      rw [(fr 2 6 (by unfold WMq; omega)).trans pm]
      refine more (tuW (rnW E wr at' i)) _ q.2 (if_pos z).symm ?_ q1 (fr.cx hC d4) ((fr _ _ (by unfold WMq; omega)).trans d5) fr
      unfold pdF
      rw [if_neg (by omega), if_pos (by omega)]
      show rnJ E wr at' i - 0 - nI (C 0 6) + djy (dyD E (tuW (rnW E wr at' i))) = rnJ E wr at' i + djy (dyD E (if i = at' then tuW (rnW E wr at' i) else rnW E wr at' i)) - nI (C 0 6)
      rw [if_pos z, Int32.sub_zero, sb_com]
    · have pj' : ¬ nI i = p2 := fun q => z (pj.mp q)
      simp (disch := omega) only [n1, pj', bnd_e, grd_t, bdI_e, bdV_e, bokA, bokB, ni_inb, ni_cl, nI_add, pk_mul, li_2, li_3, li_4, li_5, li_6, li_7, li_8, li_9, li_10, li_11, li_12, li_13, li_14, li_15, li_16, li_17, li_18, li_19, li_20, li_21, li_22, li_23, li_24, li_25, li_26, li_27, li_28, li_29, li_30, li_31, li_32, li_33, li_34, li_35, li_36, li_37, li_38, li_39, li_40, li_41, li_42, li_43, li_44, li_45, li_46, li_47, li_48, li_49, li_50, li_51, li_52, li_53, li_54, li_55, li_56, li_57, li_58, li_59, li_60, li_61, li_63, li_70, li_96, li_97, li_99, li_100, li_101, li_102, li_120, li_122, li_126, li_200, li_255, li_423, li_555, li_999, li_1000, li_1111, li_2968, li_9999, li_10631, li_12345, li_14092, li_21470, li_65536, li_99233, nz_eq, n1_eq, n1_lt, n1_gt, n1_le, n1_ge, n1_sub, n1_add, nm_add, nz_add, nz_add2, z1_ne, z1_lt, z1_le, nI_1, pk_sub, nI_ltI, nI_leI, nI_eq, ni_neg, ni_nneg, ni_pos0, ni_nle0, ni_m1, gI_eq, gI_ne, xI_sJ, xI_sR, xR_sI, xR_sJ, xJ_sI, xJ_sR, gJ_eq, gJ_ne, gR_eq, gR_ne, if_true, if_false, ite_true, ite_false, not_true_eq_false, not_false_eq_true, decide_true, and_self, true_and, and_true, false_and, and_false, or_true, true_or, or_false, false_or, reduceIte, ne_eq]
      refine more (rnW E wr at' i) _ n' (if_neg z).symm ?_ d3 d4 d5 (Fr.refl _)
      show rnJ E wr at' i - pdF at' i (nI (C 0 6)) + djy (dyD E (rnW E wr at' i)) = rnJ E wr at' i + djy (dyD E (if i = at' then tuW (rnW E wr at' i) else rnW E wr at' i)) - pdF at' (i + 1) (nI (C 0 6))
      rw [if_neg z, sb_com]
      have : pdF at' (i + 1) (nI (C 0 6)) = pdF at' i (nI (C 0 6)) := by
        unfold pdF
        by_cases y : at' < i
        · rw [if_pos y, if_pos (by omega)]
        · rw [if_neg y, if_neg (by omega)]
      rw [this]
  · intro a n' k ⟨d0, d1, d2, d3, d4, d5⟩
    subst d0
    unfold f_X12_daysBring_B18
    simp (disch := omega) only [Nat.le_refl, Sat_bdV, bnd_e, grd_t, bdI_e, bdV_e, bokA, bokB, ni_inb, ni_cl, nI_add, pk_mul, li_2, li_3, li_4, li_5, li_6, li_7, li_8, li_9, li_10, li_11, li_12, li_13, li_14, li_15, li_16, li_17, li_18, li_19, li_20, li_21, li_22, li_23, li_24, li_25, li_26, li_27, li_28, li_29, li_30, li_31, li_32, li_33, li_34, li_35, li_36, li_37, li_38, li_39, li_40, li_41, li_42, li_43, li_44, li_45, li_46, li_47, li_48, li_49, li_50, li_51, li_52, li_53, li_54, li_55, li_56, li_57, li_58, li_59, li_60, li_61, li_63, li_70, li_96, li_97, li_99, li_100, li_101, li_102, li_120, li_122, li_126, li_200, li_255, li_423, li_555, li_999, li_1000, li_1111, li_2968, li_9999, li_10631, li_12345, li_14092, li_21470, li_65536, li_99233, nz_eq, n1_eq, n1_lt, n1_gt, n1_le, n1_ge, n1_sub, n1_add, nm_add, nz_add, nz_add2, z1_ne, z1_lt, z1_le, nI_1, pk_sub, nI_ltI, nI_leI, nI_eq, ni_neg, ni_nneg, ni_pos0, ni_nle0, ni_m1, gI_eq, gI_ne, xI_sJ, xI_sR, xR_sI, xR_sJ, xJ_sI, xJ_sR, gJ_eq, gJ_ne, gR_eq, gR_ne, if_true, if_false, ite_true, ite_false, not_true_eq_false, not_false_eq_true, decide_true, and_self, true_and, and_true, false_and, and_false, or_true, true_or, or_false, false_or, reduceIte, ne_eq]
    refine (copyM (c := 36) (o := 0) (c' := 35) (o' := 0) d2 (by decide) (by decide) (by decide) (by decide) (by decide)).mono ?_
    intro n2 ⟨c1, c2⟩
    exact (Sat_some _ _).mpr ⟨rfl, Fr.back rm d1 c1 c2⟩
theorem bringP {C : Nat → Nat → Nat} {jP wP : List Int32} {st e f t : Nat} {wr : Nat → Nat} {S : Nat → Int32} {mP mM : Mm} (b : Bas C jP wP st e f t wr S mP mM) (rp : RowP 64 S mP) {E : Ev} (eqE : E = mkE C e f t 0 jP wP) (pr : PrP E st mP) {days at' : Nat} (hd : days ≤ 100) (ha : at' ≤ 100) : Sat (f_X11_joyMendedAhead (nI days) (nI at') mP) (fun q => q.1 = rnJ E wr at' days - pdF at' days (nI (C 0 6)) ∧ PrP E st q.2 ∧ (∀ k, gI q.2 165 k = gI mP 165 k) ∧ KT st mP q.2) := by
  obtain ⟨cx, -, hC, lq, ⟨be, bf, bt, bw⟩, bs⟩ := id b
  have hst := cx.1
  have hE : EvOK E := by rw [eqE]; exact mkE_ok b be.2 (by omega : f ≤ 60) bt 0
  have rb := rnW_b hE at' bw
  have c1' : eC E = C := by rw [eqE]; rfl
  have c2' : eJ E = jP := by rw [eqE]; rfl
  have c3' : eW E = wP := by rw [eqE]; rfl
  have c5' : eF E = f := by rw [eqE]; rfl
  have c6' : eT E = t := by rw [eqE]; rfl
  have c7' : eX E = 0 := by rw [eqE]; rfl
  clear eqE
  unfold f_X11_joyMendedAhead
  rw [Sat_bdV]
  refine (copyP (h0 := 66) rp (by rfl) l65 (by omega)).mono ?_
  intro n1 ⟨a1, a2⟩
  rw [bnd_e]
  have a2' : Kp (fun a _ => a = 66 ∨ a = 66 + 1) mP (sI n1 66 5 0) := a2.sI _ (Or.inl rfl)
  have r1 := a1.rw bs
  have k1 : KT st mP (sI n1 66 5 0) := a2'.kt (fun a k q => by unfold WT; omega)
  have prk : ∀ n n' : Mm, Kp (fun a _ => a = 66 ∨ a = 67) n n' → PrP E st n → PrP E st n' := by
    intro n n' kp h
    refine ⟨(kp.2.2 _ _).trans h.1, fun p hp => ?_⟩
    obtain ⟨g1, g2, g3⟩ := h.2 p hp
    exact ⟨(kp.1 _ _ (by omega)).trans g1, (kp.1 _ _ (by omega)).trans g2, fun w hw => (kp.1 _ _ (by omega)).trans (g3 w hw)⟩
  refine cnt2 (A := Int32) 0 days (by omega) (by omega) (fun i a n' => a = rnJ E wr at' i ∧ PrP E st n' ∧ RwP 66 f t (rnW E wr at' i) n' ∧ CxP C jP wP st n' ∧ gI n' 66 2 = nI e ∧ gI n' 66 5 = pdF at' i (nI (C 0 6)) ∧ (∀ k, gI n' 165 k = gI mP 165 k) ∧ KT st mP n') ?_ ?_ ⟨rfl, prk _ _ a2' pr, ⟨by simp (disch := omega) only [bnd_e, grd_t, bdI_e, bdV_e, bokA, bokB, ni_inb, ni_cl, nI_add, pk_mul, li_2, li_3, li_4, li_5, li_6, li_7, li_8, li_9, li_10, li_11, li_12, li_13, li_14, li_15, li_16, li_17, li_18, li_19, li_20, li_21, li_22, li_23, li_24, li_25, li_26, li_27, li_28, li_29, li_30, li_31, li_32, li_33, li_34, li_35, li_36, li_37, li_38, li_39, li_40, li_41, li_42, li_43, li_44, li_45, li_46, li_47, li_48, li_49, li_50, li_51, li_52, li_53, li_54, li_55, li_56, li_57, li_58, li_59, li_60, li_61, li_63, li_70, li_96, li_97, li_99, li_100, li_101, li_102, li_120, li_122, li_126, li_200, li_255, li_423, li_555, li_999, li_1000, li_1111, li_2968, li_9999, li_10631, li_12345, li_14092, li_21470, li_65536, li_99233, nz_eq, n1_eq, n1_lt, n1_gt, n1_le, n1_ge, n1_sub, n1_add, nm_add, nz_add, nz_add2, z1_ne, z1_lt, z1_le, nI_1, pk_sub, nI_ltI, nI_leI, nI_eq, ni_neg, ni_nneg, ni_pos0, ni_nle0, ni_m1, gI_eq, gI_ne, xI_sJ, xI_sR, xR_sI, xR_sJ, xJ_sI, xJ_sR, gJ_eq, gJ_ne, gR_eq, gR_ne, if_true, if_false, ite_true, ite_false, not_true_eq_false, not_false_eq_true, decide_true, and_self, true_and, and_true, false_and, and_false, or_true, true_or, or_false, false_or, reduceIte, ne_eq]; exact r1.1, by simp (disch := omega) only [bnd_e, grd_t, bdI_e, bdV_e, bokA, bokB, ni_inb, ni_cl, nI_add, pk_mul, li_2, li_3, li_4, li_5, li_6, li_7, li_8, li_9, li_10, li_11, li_12, li_13, li_14, li_15, li_16, li_17, li_18, li_19, li_20, li_21, li_22, li_23, li_24, li_25, li_26, li_27, li_28, li_29, li_30, li_31, li_32, li_33, li_34, li_35, li_36, li_37, li_38, li_39, li_40, li_41, li_42, li_43, li_44, li_45, li_46, li_47, li_48, li_49, li_50, li_51, li_52, li_53, li_54, li_55, li_56, li_57, li_58, li_59, li_60, li_61, li_63, li_70, li_96, li_97, li_99, li_100, li_101, li_102, li_120, li_122, li_126, li_200, li_255, li_423, li_555, li_999, li_1000, li_1111, li_2968, li_9999, li_10631, li_12345, li_14092, li_21470, li_65536, li_99233, nz_eq, n1_eq, n1_lt, n1_gt, n1_le, n1_ge, n1_sub, n1_add, nm_add, nz_add, nz_add2, z1_ne, z1_lt, z1_le, nI_1, pk_sub, nI_ltI, nI_leI, nI_eq, ni_neg, ni_nneg, ni_pos0, ni_nle0, ni_m1, gI_eq, gI_ne, xI_sJ, xI_sR, xR_sI, xR_sJ, xJ_sI, xJ_sR, gJ_eq, gJ_ne, gR_eq, gR_ne, if_true, if_false, ite_true, ite_false, not_true_eq_false, not_false_eq_true, decide_true, and_self, true_and, and_true, false_and, and_false, or_true, true_or, or_false, false_or, reduceIte, ne_eq]; exact r1.2.1, fun k hk => by simp (disch := omega) only [bnd_e, grd_t, bdI_e, bdV_e, bokA, bokB, ni_inb, ni_cl, nI_add, pk_mul, li_2, li_3, li_4, li_5, li_6, li_7, li_8, li_9, li_10, li_11, li_12, li_13, li_14, li_15, li_16, li_17, li_18, li_19, li_20, li_21, li_22, li_23, li_24, li_25, li_26, li_27, li_28, li_29, li_30, li_31, li_32, li_33, li_34, li_35, li_36, li_37, li_38, li_39, li_40, li_41, li_42, li_43, li_44, li_45, li_46, li_47, li_48, li_49, li_50, li_51, li_52, li_53, li_54, li_55, li_56, li_57, li_58, li_59, li_60, li_61, li_63, li_70, li_96, li_97, li_99, li_100, li_101, li_102, li_120, li_122, li_126, li_200, li_255, li_423, li_555, li_999, li_1000, li_1111, li_2968, li_9999, li_10631, li_12345, li_14092, li_21470, li_65536, li_99233, nz_eq, n1_eq, n1_lt, n1_gt, n1_le, n1_ge, n1_sub, n1_add, nm_add, nz_add, nz_add2, z1_ne, z1_lt, z1_le, nI_1, pk_sub, nI_ltI, nI_leI, nI_eq, ni_neg, ni_nneg, ni_pos0, ni_nle0, ni_m1, gI_eq, gI_ne, xI_sJ, xI_sR, xR_sI, xR_sJ, xJ_sI, xJ_sR, gJ_eq, gJ_ne, gR_eq, gR_ne, if_true, if_false, ite_true, ite_false, not_true_eq_false, not_false_eq_true, decide_true, and_self, true_and, and_true, false_and, and_false, or_true, true_or, or_false, false_or, reduceIte, ne_eq]; exact r1.2.2 k hk⟩, cx.keep hC k1, by simp (disch := omega) only [bnd_e, grd_t, bdI_e, bdV_e, bokA, bokB, ni_inb, ni_cl, nI_add, pk_mul, li_2, li_3, li_4, li_5, li_6, li_7, li_8, li_9, li_10, li_11, li_12, li_13, li_14, li_15, li_16, li_17, li_18, li_19, li_20, li_21, li_22, li_23, li_24, li_25, li_26, li_27, li_28, li_29, li_30, li_31, li_32, li_33, li_34, li_35, li_36, li_37, li_38, li_39, li_40, li_41, li_42, li_43, li_44, li_45, li_46, li_47, li_48, li_49, li_50, li_51, li_52, li_53, li_54, li_55, li_56, li_57, li_58, li_59, li_60, li_61, li_63, li_70, li_96, li_97, li_99, li_100, li_101, li_102, li_120, li_122, li_126, li_200, li_255, li_423, li_555, li_999, li_1000, li_1111, li_2968, li_9999, li_10631, li_12345, li_14092, li_21470, li_65536, li_99233, nz_eq, n1_eq, n1_lt, n1_gt, n1_le, n1_ge, n1_sub, n1_add, nm_add, nz_add, nz_add2, z1_ne, z1_lt, z1_le, nI_1, pk_sub, nI_ltI, nI_leI, nI_eq, ni_neg, ni_nneg, ni_pos0, ni_nle0, ni_m1, gI_eq, gI_ne, xI_sJ, xI_sR, xR_sI, xR_sJ, xJ_sI, xJ_sR, gJ_eq, gJ_ne, gR_eq, gR_ne, if_true, if_false, ite_true, ite_false, not_true_eq_false, not_false_eq_true, decide_true, and_self, true_and, and_true, false_and, and_false, or_true, true_or, or_false, false_or, reduceIte, ne_eq]; exact a1.2.1.trans bs.1, by simp (disch := omega) only [bnd_e, grd_t, bdI_e, bdV_e, bokA, bokB, ni_inb, ni_cl, nI_add, pk_mul, li_2, li_3, li_4, li_5, li_6, li_7, li_8, li_9, li_10, li_11, li_12, li_13, li_14, li_15, li_16, li_17, li_18, li_19, li_20, li_21, li_22, li_23, li_24, li_25, li_26, li_27, li_28, li_29, li_30, li_31, li_32, li_33, li_34, li_35, li_36, li_37, li_38, li_39, li_40, li_41, li_42, li_43, li_44, li_45, li_46, li_47, li_48, li_49, li_50, li_51, li_52, li_53, li_54, li_55, li_56, li_57, li_58, li_59, li_60, li_61, li_63, li_70, li_96, li_97, li_99, li_100, li_101, li_102, li_120, li_122, li_126, li_200, li_255, li_423, li_555, li_999, li_1000, li_1111, li_2968, li_9999, li_10631, li_12345, li_14092, li_21470, li_65536, li_99233, nz_eq, n1_eq, n1_lt, n1_gt, n1_le, n1_ge, n1_sub, n1_add, nm_add, nz_add, nz_add2, z1_ne, z1_lt, z1_le, nI_1, pk_sub, nI_ltI, nI_leI, nI_eq, ni_neg, ni_nneg, ni_pos0, ni_nle0, ni_m1, gI_eq, gI_ne, xI_sJ, xI_sR, xR_sI, xR_sJ, xJ_sI, xJ_sR, gJ_eq, gJ_ne, gR_eq, gR_ne, if_true, if_false, ite_true, ite_false, not_true_eq_false, not_false_eq_true, decide_true, and_self, true_and, and_true, false_and, and_false, or_true, true_or, or_false, false_or, reduceIte, ne_eq]; rfl, fun k => a2'.1 _ _ (by omega), k1⟩
  · intro i a n' k _ hi ⟨d0, d1, d2, d3, d4, d5, d6, d7⟩ hk
    subst d0
    have n1 : ¬ days ≤ i := by omega
    have more : ∀ (v : Nat → Nat) (n2 : Mm), v = mdW at' i (rnW E wr at' i) → PrP E st n2 → RwP 66 f t v n2 → CxP C jP wP st n2 → gI n2 66 2 = nI e → gI n2 66 5 = pdF at' (i + 1) (nI (C 0 6)) → (∀ k, gI n2 165 k = gI mP 165 k) → KT st mP n2 → Sat (f_X11_joyMendedAhead_J51 (nI days) (nI at') k (rnJ E wr at' i) (nI i) n2) (fun q => q.1 = rnJ E wr at' days - pdF at' days (nI (C 0 6)) ∧ PrP E st q.2 ∧ (∀ k, gI q.2 165 k = gI mP 165 k) ∧ KT st mP q.2) := by
      intro v n2 hv h1 h2 h3 h4 h5 h6 h7
      unfold f_X11_joyMendedAhead_J51
      rw [Sat_bdV]
      have vb : ∀ k, k < 12 → v k ≤ 9 := by rw [hv]; exact mdW_b at' i (rb i)
      have ps := passN (E := E) (m := n2) (wr := v) hE hE.1 (by rw [c1', c2', c3']; exact h3) h1 (by rw [c5', c6']; exact h2) vb
      rw [c7'] at ps
      refine ps.mono ?_
      intro q ⟨q1, q2, q3, q4, q5, q6, q7, q8, q9⟩
      rw [c1', c2', c3'] at q5
      rw [c5', c6'] at q4
      simp (disch := omega) only [q1, bnd_e, grd_t, bdI_e, bdV_e, bokA, bokB, ni_inb, ni_cl, nI_add, pk_mul, li_2, li_3, li_4, li_5, li_6, li_7, li_8, li_9, li_10, li_11, li_12, li_13, li_14, li_15, li_16, li_17, li_18, li_19, li_20, li_21, li_22, li_23, li_24, li_25, li_26, li_27, li_28, li_29, li_30, li_31, li_32, li_33, li_34, li_35, li_36, li_37, li_38, li_39, li_40, li_41, li_42, li_43, li_44, li_45, li_46, li_47, li_48, li_49, li_50, li_51, li_52, li_53, li_54, li_55, li_56, li_57, li_58, li_59, li_60, li_61, li_63, li_70, li_96, li_97, li_99, li_100, li_101, li_102, li_120, li_122, li_126, li_200, li_255, li_423, li_555, li_999, li_1000, li_1111, li_2968, li_9999, li_10631, li_12345, li_14092, li_21470, li_65536, li_99233, nz_eq, n1_eq, n1_lt, n1_gt, n1_le, n1_ge, n1_sub, n1_add, nm_add, nz_add, nz_add2, z1_ne, z1_lt, z1_le, nI_1, pk_sub, nI_ltI, nI_leI, nI_eq, ni_neg, ni_nneg, ni_pos0, ni_nle0, ni_m1, gI_eq, gI_ne, xI_sJ, xI_sR, xR_sI, xR_sJ, xJ_sI, xJ_sR, gJ_eq, gJ_ne, gR_eq, gR_ne, if_true, if_false, ite_true, ite_false, not_true_eq_false, not_false_eq_true, decide_true, and_self, true_and, and_true, false_and, and_false, or_true, true_or, or_false, false_or, reduceIte, ne_eq]
      refine hk _ _ ⟨?_, q3, ?_, q5, (q6 2).trans h4, (q6 5).trans h5, fun k => (q7 k).trans (h6 k), h7.trans q9⟩
      · rw [hv]
        rfl
      · show RwP 66 f t (dwr (dyD E (mdW at' i (rnW E wr at' i)))) q
        rw [← hv]
        exact q4
    unfold f_X11_joyMendedAhead_B24
    by_cases z : i = at'
    · simp (disch := omega) only [n1, d3.2.1, Lst hst, d3.2.2.1.2.2.2.2.2.2.1, bnd_e, grd_t, bdI_e, bdV_e, bokA, bokB, ni_inb, ni_cl, nI_add, pk_mul, li_2, li_3, li_4, li_5, li_6, li_7, li_8, li_9, li_10, li_11, li_12, li_13, li_14, li_15, li_16, li_17, li_18, li_19, li_20, li_21, li_22, li_23, li_24, li_25, li_26, li_27, li_28, li_29, li_30, li_31, li_32, li_33, li_34, li_35, li_36, li_37, li_38, li_39, li_40, li_41, li_42, li_43, li_44, li_45, li_46, li_47, li_48, li_49, li_50, li_51, li_52, li_53, li_54, li_55, li_56, li_57, li_58, li_59, li_60, li_61, li_63, li_70, li_96, li_97, li_99, li_100, li_101, li_102, li_120, li_122, li_126, li_200, li_255, li_423, li_555, li_999, li_1000, li_1111, li_2968, li_9999, li_10631, li_12345, li_14092, li_21470, li_65536, li_99233, nz_eq, n1_eq, n1_lt, n1_gt, n1_le, n1_ge, n1_sub, n1_add, nm_add, nz_add, nz_add2, z1_ne, z1_lt, z1_le, nI_1, pk_sub, nI_ltI, nI_leI, nI_eq, ni_neg, ni_nneg, ni_pos0, ni_nle0, ni_m1, gI_eq, gI_ne, xI_sJ, xI_sR, xR_sI, xR_sJ, xJ_sI, xJ_sR, gJ_eq, gJ_ne, gR_eq, gR_ne, if_true, if_false, ite_true, ite_false, not_true_eq_false, not_false_eq_true, decide_true, and_self, true_and, and_true, false_and, and_false, or_true, true_or, or_false, false_or, reduceIte, ne_eq]
      rw [if_neg (fun q => q z), Sat_bdI]
      refine (tuneT be bf bt (rb i) d2 d4).mono ?_
      intro q ⟨q1, q2, q3, q4⟩
      have kt : KT st n' q.2 := q4.kt (fun a k q => by unfold WT; omega)
      refine more _ q.2 (if_pos z).symm (prk _ _ q4 d1) q1 (d3.keep hC kt) q2 ?_ (fun k => (q4.1 _ _ (by omega)).trans (d6 k)) (d7.trans kt)
      rw [q3, d5]
      unfold pdF
      rw [if_neg (by omega), if_pos (by omega), Int32.zero_add]
    · simp (disch := omega) only [n1, z, bnd_e, grd_t, bdI_e, bdV_e, bokA, bokB, ni_inb, ni_cl, nI_add, pk_mul, li_2, li_3, li_4, li_5, li_6, li_7, li_8, li_9, li_10, li_11, li_12, li_13, li_14, li_15, li_16, li_17, li_18, li_19, li_20, li_21, li_22, li_23, li_24, li_25, li_26, li_27, li_28, li_29, li_30, li_31, li_32, li_33, li_34, li_35, li_36, li_37, li_38, li_39, li_40, li_41, li_42, li_43, li_44, li_45, li_46, li_47, li_48, li_49, li_50, li_51, li_52, li_53, li_54, li_55, li_56, li_57, li_58, li_59, li_60, li_61, li_63, li_70, li_96, li_97, li_99, li_100, li_101, li_102, li_120, li_122, li_126, li_200, li_255, li_423, li_555, li_999, li_1000, li_1111, li_2968, li_9999, li_10631, li_12345, li_14092, li_21470, li_65536, li_99233, nz_eq, n1_eq, n1_lt, n1_gt, n1_le, n1_ge, n1_sub, n1_add, nm_add, nz_add, nz_add2, z1_ne, z1_lt, z1_le, nI_1, pk_sub, nI_ltI, nI_leI, nI_eq, ni_neg, ni_nneg, ni_pos0, ni_nle0, ni_m1, gI_eq, gI_ne, xI_sJ, xI_sR, xR_sI, xR_sJ, xJ_sI, xJ_sR, gJ_eq, gJ_ne, gR_eq, gR_ne, if_true, if_false, ite_true, ite_false, not_true_eq_false, not_false_eq_true, decide_true, and_self, true_and, and_true, false_and, and_false, or_true, true_or, or_false, false_or, reduceIte, ne_eq]
      refine more _ n' (if_neg z).symm d1 d2 d3 d4 ?_ d6 d7
      rw [d5]
      unfold pdF
      by_cases y : at' < i
      · rw [if_pos y, if_pos (by omega)]
      · rw [if_neg y, if_neg (by omega)]
  · intro a n' k ⟨d0, d1, d2, d3, d4, d5, d6, d7⟩
    subst d0
    unfold f_X11_joyMendedAhead_B24
    simp (disch := omega) only [Nat.le_refl, d5, bnd_e, grd_t, bdI_e, bdV_e, bokA, bokB, ni_inb, ni_cl, nI_add, pk_mul, li_2, li_3, li_4, li_5, li_6, li_7, li_8, li_9, li_10, li_11, li_12, li_13, li_14, li_15, li_16, li_17, li_18, li_19, li_20, li_21, li_22, li_23, li_24, li_25, li_26, li_27, li_28, li_29, li_30, li_31, li_32, li_33, li_34, li_35, li_36, li_37, li_38, li_39, li_40, li_41, li_42, li_43, li_44, li_45, li_46, li_47, li_48, li_49, li_50, li_51, li_52, li_53, li_54, li_55, li_56, li_57, li_58, li_59, li_60, li_61, li_63, li_70, li_96, li_97, li_99, li_100, li_101, li_102, li_120, li_122, li_126, li_200, li_255, li_423, li_555, li_999, li_1000, li_1111, li_2968, li_9999, li_10631, li_12345, li_14092, li_21470, li_65536, li_99233, nz_eq, n1_eq, n1_lt, n1_gt, n1_le, n1_ge, n1_sub, n1_add, nm_add, nz_add, nz_add2, z1_ne, z1_lt, z1_le, nI_1, pk_sub, nI_ltI, nI_leI, nI_eq, ni_neg, ni_nneg, ni_pos0, ni_nle0, ni_m1, gI_eq, gI_ne, xI_sJ, xI_sR, xR_sI, xR_sJ, xJ_sI, xJ_sR, gJ_eq, gJ_ne, gR_eq, gR_ne, if_true, if_false, ite_true, ite_false, not_true_eq_false, not_false_eq_true, decide_true, and_self, true_and, and_true, false_and, and_false, or_true, true_or, or_false, false_or, reduceIte, ne_eq]
    exact (Sat_some _ _).mpr ⟨rfl, d1, d6, d7⟩
/-! 32: rule -/
theorem st_rule : St_rule Rel := by
  intro a1 a2 mP mM ⟨C, st, S, hR⟩
  have hK : ∀ v, RelC C st S mP (sI mM 0 0 v) := fun v => hR.keep (SaP.refl _ _) (SaM.thr _ _)
  have z0 : ¬ (0 : Int32) = 1 := by decide
  have no : (a1 < 1 ∨ nI 30 < a1) ∨ (a2 < 1 ∨ nI 30 < a2) → ∃ (x : Option Int32) (mP2 : Mm) (r : Int32) (mM2 : Mm), f_X11_rule a1 a2 mP = some (x, mP2) ∧ f_X12_rule a1 a2 mM = some (r, mM2) ∧ (x = none → gI mM2 0 0 = 1) ∧ (∀ v, x = some v → gI mM2 0 0 = 0 ∧ r = v) ∧ Rel mP2 mM2 := by
    intro h
    refine ⟨none, mP, 0, sI mM 0 0 1, ?_, ?_, fun _ => gI_eq _ _ _ _ _ _ rfl rfl, fun v h => (by cases h), ⟨C, st, S, hK 1⟩⟩
    · unfold f_X11_rule f_X11_rule_J18 f_X11_isEach
      by_cases q1 : a1 < 1
      · simp (disch := omega) only [q1, bnd_e, grd_t, bdI_e, bdV_e, bokA, bokB, ni_inb, ni_cl, nI_add, pk_mul, li_2, li_3, li_4, li_5, li_6, li_7, li_8, li_9, li_10, li_11, li_12, li_13, li_14, li_15, li_16, li_17, li_18, li_19, li_20, li_21, li_22, li_23, li_24, li_25, li_26, li_27, li_28, li_29, li_30, li_31, li_32, li_33, li_34, li_35, li_36, li_37, li_38, li_39, li_40, li_41, li_42, li_43, li_44, li_45, li_46, li_47, li_48, li_49, li_50, li_51, li_52, li_53, li_54, li_55, li_56, li_57, li_58, li_59, li_60, li_61, li_63, li_70, li_96, li_97, li_99, li_100, li_101, li_102, li_120, li_122, li_126, li_200, li_255, li_423, li_555, li_999, li_1000, li_1111, li_2968, li_9999, li_10631, li_12345, li_14092, li_21470, li_65536, li_99233, nz_eq, n1_eq, n1_lt, n1_gt, n1_le, n1_ge, n1_sub, n1_add, nm_add, nz_add, nz_add2, z1_ne, z1_lt, z1_le, nI_1, pk_sub, nI_ltI, nI_leI, nI_eq, ni_neg, ni_nneg, ni_pos0, ni_nle0, ni_m1, gI_eq, gI_ne, xI_sJ, xI_sR, xR_sI, xR_sJ, xJ_sI, xJ_sR, gJ_eq, gJ_ne, gR_eq, gR_ne, if_true, if_false, ite_true, ite_false, not_true_eq_false, not_false_eq_true, decide_true, and_self, true_and, and_true, false_and, and_false, or_true, true_or, or_false, false_or, reduceIte, ne_eq]
      · by_cases q2 : nI 30 < a1
        · simp (disch := omega) only [q1, q2, bnd_e, grd_t, bdI_e, bdV_e, bokA, bokB, ni_inb, ni_cl, nI_add, pk_mul, li_2, li_3, li_4, li_5, li_6, li_7, li_8, li_9, li_10, li_11, li_12, li_13, li_14, li_15, li_16, li_17, li_18, li_19, li_20, li_21, li_22, li_23, li_24, li_25, li_26, li_27, li_28, li_29, li_30, li_31, li_32, li_33, li_34, li_35, li_36, li_37, li_38, li_39, li_40, li_41, li_42, li_43, li_44, li_45, li_46, li_47, li_48, li_49, li_50, li_51, li_52, li_53, li_54, li_55, li_56, li_57, li_58, li_59, li_60, li_61, li_63, li_70, li_96, li_97, li_99, li_100, li_101, li_102, li_120, li_122, li_126, li_200, li_255, li_423, li_555, li_999, li_1000, li_1111, li_2968, li_9999, li_10631, li_12345, li_14092, li_21470, li_65536, li_99233, nz_eq, n1_eq, n1_lt, n1_gt, n1_le, n1_ge, n1_sub, n1_add, nm_add, nz_add, nz_add2, z1_ne, z1_lt, z1_le, nI_1, pk_sub, nI_ltI, nI_leI, nI_eq, ni_neg, ni_nneg, ni_pos0, ni_nle0, ni_m1, gI_eq, gI_ne, xI_sJ, xI_sR, xR_sI, xR_sJ, xJ_sI, xJ_sR, gJ_eq, gJ_ne, gR_eq, gR_ne, if_true, if_false, ite_true, ite_false, not_true_eq_false, not_false_eq_true, decide_true, and_self, true_and, and_true, false_and, and_false, or_true, true_or, or_false, false_or, reduceIte, ne_eq]
        · have h' := h.resolve_left (fun r => r.elim q1 q2)
          by_cases q3 : a2 < 1
          · simp (disch := omega) only [q1, q2, q3, bnd_e, grd_t, bdI_e, bdV_e, bokA, bokB, ni_inb, ni_cl, nI_add, pk_mul, li_2, li_3, li_4, li_5, li_6, li_7, li_8, li_9, li_10, li_11, li_12, li_13, li_14, li_15, li_16, li_17, li_18, li_19, li_20, li_21, li_22, li_23, li_24, li_25, li_26, li_27, li_28, li_29, li_30, li_31, li_32, li_33, li_34, li_35, li_36, li_37, li_38, li_39, li_40, li_41, li_42, li_43, li_44, li_45, li_46, li_47, li_48, li_49, li_50, li_51, li_52, li_53, li_54, li_55, li_56, li_57, li_58, li_59, li_60, li_61, li_63, li_70, li_96, li_97, li_99, li_100, li_101, li_102, li_120, li_122, li_126, li_200, li_255, li_423, li_555, li_999, li_1000, li_1111, li_2968, li_9999, li_10631, li_12345, li_14092, li_21470, li_65536, li_99233, nz_eq, n1_eq, n1_lt, n1_gt, n1_le, n1_ge, n1_sub, n1_add, nm_add, nz_add, nz_add2, z1_ne, z1_lt, z1_le, nI_1, pk_sub, nI_ltI, nI_leI, nI_eq, ni_neg, ni_nneg, ni_pos0, ni_nle0, ni_m1, gI_eq, gI_ne, xI_sJ, xI_sR, xR_sI, xR_sJ, xJ_sI, xJ_sR, gJ_eq, gJ_ne, gR_eq, gR_ne, if_true, if_false, ite_true, ite_false, not_true_eq_false, not_false_eq_true, decide_true, and_self, true_and, and_true, false_and, and_false, or_true, true_or, or_false, false_or, reduceIte, ne_eq]
          · have q4 : ¬ a2 ≤ nI 30 := Int32.not_le.mpr (h'.resolve_left q3)
            simp (disch := omega) only [q1, q2, q3, h'.resolve_left q3, q4, bnd_e, grd_t, bdI_e, bdV_e, bokA, bokB, ni_inb, ni_cl, nI_add, pk_mul, li_2, li_3, li_4, li_5, li_6, li_7, li_8, li_9, li_10, li_11, li_12, li_13, li_14, li_15, li_16, li_17, li_18, li_19, li_20, li_21, li_22, li_23, li_24, li_25, li_26, li_27, li_28, li_29, li_30, li_31, li_32, li_33, li_34, li_35, li_36, li_37, li_38, li_39, li_40, li_41, li_42, li_43, li_44, li_45, li_46, li_47, li_48, li_49, li_50, li_51, li_52, li_53, li_54, li_55, li_56, li_57, li_58, li_59, li_60, li_61, li_63, li_70, li_96, li_97, li_99, li_100, li_101, li_102, li_120, li_122, li_126, li_200, li_255, li_423, li_555, li_999, li_1000, li_1111, li_2968, li_9999, li_10631, li_12345, li_14092, li_21470, li_65536, li_99233, nz_eq, n1_eq, n1_lt, n1_gt, n1_le, n1_ge, n1_sub, n1_add, nm_add, nz_add, nz_add2, z1_ne, z1_lt, z1_le, nI_1, pk_sub, nI_ltI, nI_leI, nI_eq, ni_neg, ni_nneg, ni_pos0, ni_nle0, ni_m1, gI_eq, gI_ne, xI_sJ, xI_sR, xR_sI, xR_sJ, xJ_sI, xJ_sR, gJ_eq, gJ_ne, gR_eq, gR_ne, if_true, if_false, ite_true, ite_false, not_true_eq_false, not_false_eq_true, decide_true, and_self, true_and, and_true, false_and, and_false, or_true, true_or, or_false, false_or, reduceIte, ne_eq]
    · unfold f_X12_rule f_X12_rule_J25 f_X12_rule_J26
      by_cases q1 : a1 < 1 ∨ nI 30 < a1
      · simp (disch := omega) only [within_e, q1, bnd_e, grd_t, bdI_e, bdV_e, bokA, bokB, ni_inb, ni_cl, nI_add, pk_mul, li_2, li_3, li_4, li_5, li_6, li_7, li_8, li_9, li_10, li_11, li_12, li_13, li_14, li_15, li_16, li_17, li_18, li_19, li_20, li_21, li_22, li_23, li_24, li_25, li_26, li_27, li_28, li_29, li_30, li_31, li_32, li_33, li_34, li_35, li_36, li_37, li_38, li_39, li_40, li_41, li_42, li_43, li_44, li_45, li_46, li_47, li_48, li_49, li_50, li_51, li_52, li_53, li_54, li_55, li_56, li_57, li_58, li_59, li_60, li_61, li_63, li_70, li_96, li_97, li_99, li_100, li_101, li_102, li_120, li_122, li_126, li_200, li_255, li_423, li_555, li_999, li_1000, li_1111, li_2968, li_9999, li_10631, li_12345, li_14092, li_21470, li_65536, li_99233, nz_eq, n1_eq, n1_lt, n1_gt, n1_le, n1_ge, n1_sub, n1_add, nm_add, nz_add, nz_add2, z1_ne, z1_lt, z1_le, nI_1, pk_sub, nI_ltI, nI_leI, nI_eq, ni_neg, ni_nneg, ni_pos0, ni_nle0, ni_m1, gI_eq, gI_ne, xI_sJ, xI_sR, xR_sI, xR_sJ, xJ_sI, xJ_sR, gJ_eq, gJ_ne, gR_eq, gR_ne, if_true, if_false, ite_true, ite_false, not_true_eq_false, not_false_eq_true, decide_true, and_self, true_and, and_true, false_and, and_false, or_true, true_or, or_false, false_or, reduceIte, ne_eq]
      · have h' := h.resolve_left q1
        simp (disch := omega) only [within_e, q1, h', bnd_e, grd_t, bdI_e, bdV_e, bokA, bokB, ni_inb, ni_cl, nI_add, pk_mul, li_2, li_3, li_4, li_5, li_6, li_7, li_8, li_9, li_10, li_11, li_12, li_13, li_14, li_15, li_16, li_17, li_18, li_19, li_20, li_21, li_22, li_23, li_24, li_25, li_26, li_27, li_28, li_29, li_30, li_31, li_32, li_33, li_34, li_35, li_36, li_37, li_38, li_39, li_40, li_41, li_42, li_43, li_44, li_45, li_46, li_47, li_48, li_49, li_50, li_51, li_52, li_53, li_54, li_55, li_56, li_57, li_58, li_59, li_60, li_61, li_63, li_70, li_96, li_97, li_99, li_100, li_101, li_102, li_120, li_122, li_126, li_200, li_255, li_423, li_555, li_999, li_1000, li_1111, li_2968, li_9999, li_10631, li_12345, li_14092, li_21470, li_65536, li_99233, nz_eq, n1_eq, n1_lt, n1_gt, n1_le, n1_ge, n1_sub, n1_add, nm_add, nz_add, nz_add2, z1_ne, z1_lt, z1_le, nI_1, pk_sub, nI_ltI, nI_leI, nI_eq, ni_neg, ni_nneg, ni_pos0, ni_nle0, ni_m1, gI_eq, gI_ne, xI_sJ, xI_sR, xR_sI, xR_sJ, xJ_sI, xJ_sR, gJ_eq, gJ_ne, gR_eq, gR_ne, if_true, if_false, ite_true, ite_false, not_true_eq_false, not_false_eq_true, decide_true, and_self, true_and, and_true, false_and, and_false, or_true, true_or, or_false, false_or, reduceIte, ne_eq]
  rcases pk_ix a1 (n := 31) (by decide) with h | h | ⟨days, hd, rfl⟩
  · exact no (Or.inl (Or.inl (of_eq_true (ng_lt1 h))))
  · exact no (Or.inl (Or.inr (of_eq_true (bg_lt h (by decide) 30 (by decide)))))
  by_cases d1 : days < 1
  · exact no (Or.inl (Or.inl (nI_lt d1 (by decide))))
  rcases pk_ix a2 (n := 31) (by decide) with h | h | ⟨mn, hm, rfl⟩
  · exact no (Or.inr (Or.inl (of_eq_true (ng_lt1 h))))
  · exact no (Or.inr (Or.inr (of_eq_true (bg_lt h (by decide) 30 (by decide)))))
  by_cases m1 : mn < 1
  · exact no (Or.inr (Or.inl (nI_lt m1 (by decide))))
  refine of_keyT (v := 0) ?_
  obtain ⟨jP, wP, e, f, t, wr, b⟩ := hR.bas
  obtain ⟨cx, -, hC, lq, ⟨be, bf, bt, bw⟩, bs⟩ := id b
  have hst := hR.st
  have d30 : ¬ 30 < days := by omega
  have m30 : ¬ 30 < mn := by omega
  have m30' : mn ≤ 30 := by omega
  obtain ⟨E, eqE⟩ : ∃ E, E = mkE C mn f t 0 jP wP := ⟨_, rfl⟩
  have hE : EvOK E := by rw [eqE]; exact mkE_ok b m30' (by omega : f ≤ 60) bt 0
  have rb := rnW_b hE 1000 bw
  have nomd : ∀ n, n ≤ 60 → ∀ v : Nat → Nat, mdW 1000 n v = v := fun n hn v => if_neg (by omega)
  have b' : Bas C jP wP st mn f t wr (fun j => if j = 1 then nI mn else S j) mP mM := b.row (by omega) bf bt (if_pos rfl) ((if_neg (by decide)).trans bs.2.1) ((if_neg (by decide)).trans bs.2.2.1) (fun j hj => if_neg (by omega))
  have mm : Sat (f_X12_rule (nI days) (nI mn) mM) (fun q => q.1 = rnJ E wr 1000 days ∧ Fr WTn (sI mM 0 0 0) q.2) := by
    have hK0 := hK 0
    have rm := hK0.2.2.1.2.2
    have cm : CxM C jP wP (sI mM 0 0 0) := b.2.1.keep hC (fun a k r => gI_ne _ _ _ _ _ _ (by unfold vM0 at r; omega))
    have e1 : gI (sI mM 0 0 0) 35 1 = nI e := (rm.at0 (by decide)).trans bs.1
    have h62 := hK0.2.2.2.2.2.2.2.2.2
    unfold f_X12_rule f_X12_rule_J26
    have e00 : gI (sI mM 0 0 0) 0 0 = 0 := gI_eq _ _ _ _ _ _ rfl rfl
    simp (disch := omega) only [within_e, d1, d30, m1, m30, bnd_e, grd_t, bdI_e, bdV_e, bokA, bokB, ni_inb, ni_cl, nI_add, pk_mul, li_2, li_3, li_4, li_5, li_6, li_7, li_8, li_9, li_10, li_11, li_12, li_13, li_14, li_15, li_16, li_17, li_18, li_19, li_20, li_21, li_22, li_23, li_24, li_25, li_26, li_27, li_28, li_29, li_30, li_31, li_32, li_33, li_34, li_35, li_36, li_37, li_38, li_39, li_40, li_41, li_42, li_43, li_44, li_45, li_46, li_47, li_48, li_49, li_50, li_51, li_52, li_53, li_54, li_55, li_56, li_57, li_58, li_59, li_60, li_61, li_63, li_70, li_96, li_97, li_99, li_100, li_101, li_102, li_120, li_122, li_126, li_200, li_255, li_423, li_555, li_999, li_1000, li_1111, li_2968, li_9999, li_10631, li_12345, li_14092, li_21470, li_65536, li_99233, nz_eq, n1_eq, n1_lt, n1_gt, n1_le, n1_ge, n1_sub, n1_add, nm_add, nz_add, nz_add2, z1_ne, z1_lt, z1_le, nI_1, pk_sub, nI_ltI, nI_leI, nI_eq, ni_neg, ni_nneg, ni_pos0, ni_nle0, ni_m1, gI_eq, gI_ne, xI_sJ, xI_sR, xR_sI, xR_sJ, xJ_sI, xJ_sR, gJ_eq, gJ_ne, gR_eq, gR_ne, if_true, if_false, ite_true, ite_false, not_true_eq_false, not_false_eq_true, decide_true, and_self, true_and, and_true, false_and, and_false, or_true, true_or, or_false, false_or, reduceIte, ne_eq]
    rw [if_pos z0, Sat_bdI, show gI mM 35 1 = nI e from e1]
    generalize sI mM 0 0 0 = m at rm cm e1 h62
    have cm' : CxM C jP wP (sI m 35 1 (nI mn)) := cm.keep hC (fun a k r => gI_ne _ _ _ _ _ _ (by unfold vM0 at r; omega))
    have rm' : RowM 35 0 (fun j => if j = 1 then nI mn else S j) (sI m 35 1 (nI mn)) := by
      intro j hj
      rw [Nat.zero_add]
      show _ = if j = 1 then nI mn else S j
      by_cases y : j = 1
      · rw [gI_eq _ _ _ _ _ _ rfl y, if_pos y]
      · rw [gI_ne _ _ _ _ _ _ (by omega), if_neg y]
        exact rm.at0 hj
    refine (bringM (at' := 1000) b' cm' rm' ((gI_ne _ _ _ _ _ _ (by omega)).trans h62) eqE (by omega) (fun k hk => ⟨fun q => absurd q (ni_nm1 k (by omega)), fun q => by omega⟩)).mono ?_
    intro q ⟨q1, q2⟩
    refine (Sat_some _ _).mpr ⟨?_, fun a k h => ?_⟩
    · rw [q1]
      unfold pdF
      rw [if_neg (by omega), Int32.sub_zero]
    · by_cases z : a = 35 ∧ k = 1
      · rw [gI_eq _ _ _ _ _ _ z.1 z.2, z.1, z.2]
        exact e1.symm
      · rw [gI_ne _ _ _ _ _ _ (by omega), q2 a k h]
        exact gI_ne _ _ _ _ _ _ (by omega)
  have pp : Sat (f_X11_rule (nI days) (nI mn) mP) (fun q => q.1 = some (rnJ E wr 1000 days) ∧ KT st mP q.2) := by
    have c1' : eC E = C := by rw [eqE]; rfl
    have c2' : eJ E = jP := by rw [eqE]; rfl
    have c3' : eW E = wP := by rw [eqE]; rfl
    have c4' : eE E = mn := by rw [eqE]; rfl
    have c5' : eF E = f := by rw [eqE]; rfl
    have c6' : eT E = t := by rw [eqE]; rfl
    have c7' : eX E = 0 := by rw [eqE]; rfl
    have c8' : ∀ p, p < eP E → eA E p = eC E 8 p := by rw [eqE]; exact fun _ _ => rfl
    clear eqE
    unfold f_X11_rule f_X11_isEach
    simp (disch := omega) only [d1, d30, m1, m30, m30', bnd_e, grd_t, bdI_e, bdV_e, bokA, bokB, ni_inb, ni_cl, nI_add, pk_mul, li_2, li_3, li_4, li_5, li_6, li_7, li_8, li_9, li_10, li_11, li_12, li_13, li_14, li_15, li_16, li_17, li_18, li_19, li_20, li_21, li_22, li_23, li_24, li_25, li_26, li_27, li_28, li_29, li_30, li_31, li_32, li_33, li_34, li_35, li_36, li_37, li_38, li_39, li_40, li_41, li_42, li_43, li_44, li_45, li_46, li_47, li_48, li_49, li_50, li_51, li_52, li_53, li_54, li_55, li_56, li_57, li_58, li_59, li_60, li_61, li_63, li_70, li_96, li_97, li_99, li_100, li_101, li_102, li_120, li_122, li_126, li_200, li_255, li_423, li_555, li_999, li_1000, li_1111, li_2968, li_9999, li_10631, li_12345, li_14092, li_21470, li_65536, li_99233, nz_eq, n1_eq, n1_lt, n1_gt, n1_le, n1_ge, n1_sub, n1_add, nm_add, nz_add, nz_add2, z1_ne, z1_lt, z1_le, nI_1, pk_sub, nI_ltI, nI_leI, nI_eq, ni_neg, ni_nneg, ni_pos0, ni_nle0, ni_m1, gI_eq, gI_ne, xI_sJ, xI_sR, xR_sI, xR_sJ, xJ_sI, xJ_sR, gJ_eq, gJ_ne, gR_eq, gR_ne, if_true, if_false, ite_true, ite_false, not_true_eq_false, not_false_eq_true, decide_true, and_self, true_and, and_true, false_and, and_false, or_true, true_or, or_false, false_or, reduceIte, ne_eq]
    rw [Sat_bdV]
    refine (copyP (h0 := 66) hR.2.2.1.2.1 (by rfl) l65 (by omega)).mono ?_
    intro n1 ⟨a1, a2⟩
    have a2' : Kp (fun a _ => a = 66 ∨ a = 66 + 1) mP (sI n1 66 2 (nI mn)) := a2.sI _ (Or.inl rfl)
    have k1 : KT st mP (sI n1 66 2 (nI mn)) := a2'.kt (fun a k q => by unfold WT; omega)
    have cx1 := cx.keep hC k1
    have r0 := a1.rw bs
    have r1 : RwP 66 f t wr (sI n1 66 2 (nI mn)) := ⟨by simp (disch := omega) only [bnd_e, grd_t, bdI_e, bdV_e, bokA, bokB, ni_inb, ni_cl, nI_add, pk_mul, li_2, li_3, li_4, li_5, li_6, li_7, li_8, li_9, li_10, li_11, li_12, li_13, li_14, li_15, li_16, li_17, li_18, li_19, li_20, li_21, li_22, li_23, li_24, li_25, li_26, li_27, li_28, li_29, li_30, li_31, li_32, li_33, li_34, li_35, li_36, li_37, li_38, li_39, li_40, li_41, li_42, li_43, li_44, li_45, li_46, li_47, li_48, li_49, li_50, li_51, li_52, li_53, li_54, li_55, li_56, li_57, li_58, li_59, li_60, li_61, li_63, li_70, li_96, li_97, li_99, li_100, li_101, li_102, li_120, li_122, li_126, li_200, li_255, li_423, li_555, li_999, li_1000, li_1111, li_2968, li_9999, li_10631, li_12345, li_14092, li_21470, li_65536, li_99233, nz_eq, n1_eq, n1_lt, n1_gt, n1_le, n1_ge, n1_sub, n1_add, nm_add, nz_add, nz_add2, z1_ne, z1_lt, z1_le, nI_1, pk_sub, nI_ltI, nI_leI, nI_eq, ni_neg, ni_nneg, ni_pos0, ni_nle0, ni_m1, gI_eq, gI_ne, xI_sJ, xI_sR, xR_sI, xR_sJ, xJ_sI, xJ_sR, gJ_eq, gJ_ne, gR_eq, gR_ne, if_true, if_false, ite_true, ite_false, not_true_eq_false, not_false_eq_true, decide_true, and_self, true_and, and_true, false_and, and_false, or_true, true_or, or_false, false_or, reduceIte, ne_eq]; exact r0.1, by simp (disch := omega) only [bnd_e, grd_t, bdI_e, bdV_e, bokA, bokB, ni_inb, ni_cl, nI_add, pk_mul, li_2, li_3, li_4, li_5, li_6, li_7, li_8, li_9, li_10, li_11, li_12, li_13, li_14, li_15, li_16, li_17, li_18, li_19, li_20, li_21, li_22, li_23, li_24, li_25, li_26, li_27, li_28, li_29, li_30, li_31, li_32, li_33, li_34, li_35, li_36, li_37, li_38, li_39, li_40, li_41, li_42, li_43, li_44, li_45, li_46, li_47, li_48, li_49, li_50, li_51, li_52, li_53, li_54, li_55, li_56, li_57, li_58, li_59, li_60, li_61, li_63, li_70, li_96, li_97, li_99, li_100, li_101, li_102, li_120, li_122, li_126, li_200, li_255, li_423, li_555, li_999, li_1000, li_1111, li_2968, li_9999, li_10631, li_12345, li_14092, li_21470, li_65536, li_99233, nz_eq, n1_eq, n1_lt, n1_gt, n1_le, n1_ge, n1_sub, n1_add, nm_add, nz_add, nz_add2, z1_ne, z1_lt, z1_le, nI_1, pk_sub, nI_ltI, nI_leI, nI_eq, ni_neg, ni_nneg, ni_pos0, ni_nle0, ni_m1, gI_eq, gI_ne, xI_sJ, xI_sR, xR_sI, xR_sJ, xJ_sI, xJ_sR, gJ_eq, gJ_ne, gR_eq, gR_ne, if_true, if_false, ite_true, ite_false, not_true_eq_false, not_false_eq_true, decide_true, and_self, true_and, and_true, false_and, and_false, or_true, true_or, or_false, false_or, reduceIte, ne_eq]; exact r0.2.1, fun k hk => by simp (disch := omega) only [bnd_e, grd_t, bdI_e, bdV_e, bokA, bokB, ni_inb, ni_cl, nI_add, pk_mul, li_2, li_3, li_4, li_5, li_6, li_7, li_8, li_9, li_10, li_11, li_12, li_13, li_14, li_15, li_16, li_17, li_18, li_19, li_20, li_21, li_22, li_23, li_24, li_25, li_26, li_27, li_28, li_29, li_30, li_31, li_32, li_33, li_34, li_35, li_36, li_37, li_38, li_39, li_40, li_41, li_42, li_43, li_44, li_45, li_46, li_47, li_48, li_49, li_50, li_51, li_52, li_53, li_54, li_55, li_56, li_57, li_58, li_59, li_60, li_61, li_63, li_70, li_96, li_97, li_99, li_100, li_101, li_102, li_120, li_122, li_126, li_200, li_255, li_423, li_555, li_999, li_1000, li_1111, li_2968, li_9999, li_10631, li_12345, li_14092, li_21470, li_65536, li_99233, nz_eq, n1_eq, n1_lt, n1_gt, n1_le, n1_ge, n1_sub, n1_add, nm_add, nz_add, nz_add2, z1_ne, z1_lt, z1_le, nI_1, pk_sub, nI_ltI, nI_leI, nI_eq, ni_neg, ni_nneg, ni_pos0, ni_nle0, ni_m1, gI_eq, gI_ne, xI_sJ, xI_sR, xR_sI, xR_sJ, xJ_sI, xJ_sR, gJ_eq, gJ_ne, gR_eq, gR_ne, if_true, if_false, ite_true, ite_false, not_true_eq_false, not_false_eq_true, decide_true, and_self, true_and, and_true, false_and, and_false, or_true, true_or, or_false, false_or, reduceIte, ne_eq]; exact r0.2.2 k hk⟩
    have g1 : gR n1 0 2 = st := cx1.2.1
    simp (disch := omega) only [g1, Lst hst, bnd_e, grd_t, bdI_e, bdV_e, bokA, bokB, ni_inb, ni_cl, nI_add, pk_mul, li_2, li_3, li_4, li_5, li_6, li_7, li_8, li_9, li_10, li_11, li_12, li_13, li_14, li_15, li_16, li_17, li_18, li_19, li_20, li_21, li_22, li_23, li_24, li_25, li_26, li_27, li_28, li_29, li_30, li_31, li_32, li_33, li_34, li_35, li_36, li_37, li_38, li_39, li_40, li_41, li_42, li_43, li_44, li_45, li_46, li_47, li_48, li_49, li_50, li_51, li_52, li_53, li_54, li_55, li_56, li_57, li_58, li_59, li_60, li_61, li_63, li_70, li_96, li_97, li_99, li_100, li_101, li_102, li_120, li_122, li_126, li_200, li_255, li_423, li_555, li_999, li_1000, li_1111, li_2968, li_9999, li_10631, li_12345, li_14092, li_21470, li_65536, li_99233, nz_eq, n1_eq, n1_lt, n1_gt, n1_le, n1_ge, n1_sub, n1_add, nm_add, nz_add, nz_add2, z1_ne, z1_lt, z1_le, nI_1, pk_sub, nI_ltI, nI_leI, nI_eq, ni_neg, ni_nneg, ni_pos0, ni_nle0, ni_m1, gI_eq, gI_ne, xI_sJ, xI_sR, xR_sI, xR_sJ, xJ_sI, xJ_sR, gJ_eq, gJ_ne, gR_eq, gR_ne, if_true, if_false, ite_true, ite_false, not_true_eq_false, not_false_eq_true, decide_true, and_self, true_and, and_true, false_and, and_false, or_true, true_or, or_false, false_or, reduceIte, ne_eq]
    rw [Sat_bdV]
    have pt := prepT (E := E) (m := sI n1 66 2 (nI mn)) hE (by rw [c1', c2', c3']; exact cx1) c8'
    rw [c4'] at pt
    refine pt.mono ?_
    intro n2 ⟨b1, b2, b3, b4⟩
    have r2 : RwP 66 f t wr n2 := ⟨(b2 _ _ (by unfold WPr; omega)).trans r1.1, (b2 _ _ (by unfold WPr; omega)).trans r1.2.1, fun k hk => (b2 _ _ (by unfold WPr; omega)).trans (r1.2.2 k hk)⟩
    refine cnt2 (A := Int32) 0 days (by omega) (by omega) (fun i a n' => a = rnJ E wr 1000 i ∧ PrP E st n' ∧ RwP 66 f t (rnW E wr 1000 i) n' ∧ CxP C jP wP st n' ∧ KT st mP n') ?_ ?_ ⟨rfl, b1, r2, cx1.keep hC b4, k1.trans b4⟩
    · intro i a n' k _ hi ⟨d0, d1, d2, d3, d4⟩ hk
      subst d0
      have n1 : ¬ days ≤ i := by omega
      unfold f_X11_rule_B62
      simp (disch := omega) only [n1, bnd_e, grd_t, bdI_e, bdV_e, bokA, bokB, ni_inb, ni_cl, nI_add, pk_mul, li_2, li_3, li_4, li_5, li_6, li_7, li_8, li_9, li_10, li_11, li_12, li_13, li_14, li_15, li_16, li_17, li_18, li_19, li_20, li_21, li_22, li_23, li_24, li_25, li_26, li_27, li_28, li_29, li_30, li_31, li_32, li_33, li_34, li_35, li_36, li_37, li_38, li_39, li_40, li_41, li_42, li_43, li_44, li_45, li_46, li_47, li_48, li_49, li_50, li_51, li_52, li_53, li_54, li_55, li_56, li_57, li_58, li_59, li_60, li_61, li_63, li_70, li_96, li_97, li_99, li_100, li_101, li_102, li_120, li_122, li_126, li_200, li_255, li_423, li_555, li_999, li_1000, li_1111, li_2968, li_9999, li_10631, li_12345, li_14092, li_21470, li_65536, li_99233, nz_eq, n1_eq, n1_lt, n1_gt, n1_le, n1_ge, n1_sub, n1_add, nm_add, nz_add, nz_add2, z1_ne, z1_lt, z1_le, nI_1, pk_sub, nI_ltI, nI_leI, nI_eq, ni_neg, ni_nneg, ni_pos0, ni_nle0, ni_m1, gI_eq, gI_ne, xI_sJ, xI_sR, xR_sI, xR_sJ, xJ_sI, xJ_sR, gJ_eq, gJ_ne, gR_eq, gR_ne, if_true, if_false, ite_true, ite_false, not_true_eq_false, not_false_eq_true, decide_true, and_self, true_and, and_true, false_and, and_false, or_true, true_or, or_false, false_or, reduceIte, ne_eq]
      rw [Sat_bdV]
      have ps := passN (E := E) (m := n') (wr := rnW E wr 1000 i) hE hE.1 (by rw [c1', c2', c3']; exact d3) d1 (by rw [c5', c6']; exact d2) (rb i)
      rw [c7'] at ps
      refine ps.mono ?_
      intro q ⟨q1, q2, q3, q4, q5, q6, q7, q8, q9⟩
      rw [c1', c2', c3'] at q5
      rw [c5', c6'] at q4
      simp (disch := omega) only [q1, bnd_e, grd_t, bdI_e, bdV_e, bokA, bokB, ni_inb, ni_cl, nI_add, pk_mul, li_2, li_3, li_4, li_5, li_6, li_7, li_8, li_9, li_10, li_11, li_12, li_13, li_14, li_15, li_16, li_17, li_18, li_19, li_20, li_21, li_22, li_23, li_24, li_25, li_26, li_27, li_28, li_29, li_30, li_31, li_32, li_33, li_34, li_35, li_36, li_37, li_38, li_39, li_40, li_41, li_42, li_43, li_44, li_45, li_46, li_47, li_48, li_49, li_50, li_51, li_52, li_53, li_54, li_55, li_56, li_57, li_58, li_59, li_60, li_61, li_63, li_70, li_96, li_97, li_99, li_100, li_101, li_102, li_120, li_122, li_126, li_200, li_255, li_423, li_555, li_999, li_1000, li_1111, li_2968, li_9999, li_10631, li_12345, li_14092, li_21470, li_65536, li_99233, nz_eq, n1_eq, n1_lt, n1_gt, n1_le, n1_ge, n1_sub, n1_add, nm_add, nz_add, nz_add2, z1_ne, z1_lt, z1_le, nI_1, pk_sub, nI_ltI, nI_leI, nI_eq, ni_neg, ni_nneg, ni_pos0, ni_nle0, ni_m1, gI_eq, gI_ne, xI_sJ, xI_sR, xR_sI, xR_sJ, xJ_sI, xJ_sR, gJ_eq, gJ_ne, gR_eq, gR_ne, if_true, if_false, ite_true, ite_false, not_true_eq_false, not_false_eq_true, decide_true, and_self, true_and, and_true, false_and, and_false, or_true, true_or, or_false, false_or, reduceIte, ne_eq]
      refine hk _ _ ⟨?_, q3, ?_, q5, d4.trans q9⟩
      · show _ = rnJ E wr 1000 i + djy (dyD E (mdW 1000 i (rnW E wr 1000 i)))
        rw [nomd i (by omega)]
      · show RwP 66 f t (dwr (dyD E (mdW 1000 i (rnW E wr 1000 i)))) q
        rw [nomd i (by omega)]
        exact q4
    · intro a n' k ⟨d0, d1, d2, d3, d4⟩
      subst d0
      unfold f_X11_rule_B62
      simp (disch := omega) only [Nat.le_refl, bnd_e, grd_t, bdI_e, bdV_e, bokA, bokB, ni_inb, ni_cl, nI_add, pk_mul, li_2, li_3, li_4, li_5, li_6, li_7, li_8, li_9, li_10, li_11, li_12, li_13, li_14, li_15, li_16, li_17, li_18, li_19, li_20, li_21, li_22, li_23, li_24, li_25, li_26, li_27, li_28, li_29, li_30, li_31, li_32, li_33, li_34, li_35, li_36, li_37, li_38, li_39, li_40, li_41, li_42, li_43, li_44, li_45, li_46, li_47, li_48, li_49, li_50, li_51, li_52, li_53, li_54, li_55, li_56, li_57, li_58, li_59, li_60, li_61, li_63, li_70, li_96, li_97, li_99, li_100, li_101, li_102, li_120, li_122, li_126, li_200, li_255, li_423, li_555, li_999, li_1000, li_1111, li_2968, li_9999, li_10631, li_12345, li_14092, li_21470, li_65536, li_99233, nz_eq, n1_eq, n1_lt, n1_gt, n1_le, n1_ge, n1_sub, n1_add, nm_add, nz_add, nz_add2, z1_ne, z1_lt, z1_le, nI_1, pk_sub, nI_ltI, nI_leI, nI_eq, ni_neg, ni_nneg, ni_pos0, ni_nle0, ni_m1, gI_eq, gI_ne, xI_sJ, xI_sR, xR_sI, xR_sJ, xJ_sI, xJ_sR, gJ_eq, gJ_ne, gR_eq, gR_ne, if_true, if_false, ite_true, ite_false, not_true_eq_false, not_false_eq_true, decide_true, and_self, true_and, and_true, false_and, and_false, or_true, true_or, or_false, false_or, reduceIte, ne_eq]
      exact (Sat_some _ _).mpr ⟨rfl, d4⟩
  refine pp.mono ?_
  intro q ⟨q1, q2⟩
  refine mm.mono ?_
  intro q' ⟨r1, r2⟩
  exact ⟨by rw [q1, r1], (r2 _ _ (by unfold WTn; omega)).trans (gI_eq _ _ _ _ _ _ rfl rfl), C, st, S, (hK 0).keep (q2.sa hst) (fun a k v => r2 a k (WTn_vm v))⟩
