theorem mB {E : Ev} {m : Mm} {t : Nat} {d : Dy} {x : Int32} (hE : EvOK E) (ev : EvM E m) (ok : DyOK E (t + 1) d) (ht : t < 60) (hd : DyM E t d m) : Sat (if pI (dpl d) < 0 then (f_X12_passesMinute_J97 (nI t) x (pI (dpl d)) m) else (grd (inb (pI (dpl d)) 7) (bdI (f_X12_minutesOf (pI (dpl d)) m) fun x5 m4 => if x5 ≤ (nI t - (gI m 43 (pI (dpl d)).toNatClampNeg)) then (f_X12_passesMinute_J81 (nI t) x (pI (dpl d)) m4) else (bdI (f_X12_isOpenAt (nI t) m4) fun x7 m6 => if ¬ x7 = 0 then (f_X12_passesMinute_J97 (nI t) x (pI (dpl d)) m6) else (f_X12_passesMinute_J81 (nI t) x (pI (dpl d)) m6))))) (fun q => q.1 = pI (dpl (dE E t (dD E t (dC E t (dB E t (isO E t) d))))) ∧ DyM E (t + 1) (dE E t (dD E t (dC E t (dB E t (isO E t) d)))) q.2 ∧ Kp WMd m q.2) := by
  have e7 := eP7 hE
  have okb := okB (t := t) (o := isO E t) ok
  obtain ⟨L, pl, bg, en, wr, wn, sm, jy, bn, pa⟩ := d
  obtain ⟨o1, o2, o3, o4, o5, o6⟩ := (show DyOKr E _ L pl bg wr wn from ok)
  obtain ⟨b1, b2, b3, b4, b5, b6, b7⟩ := (show DyMr E t L pl bg en wr sm jy bn pa m from hd)
  show Sat (if pI pl < 0 then (f_X12_passesMinute_J97 (nI t) x (pI pl) m) else (grd (inb (pI pl) 7) (bdI (f_X12_minutesOf (pI pl) m) fun x5 m4 => if x5 ≤ (nI t - (gI m 43 (pI pl).toNatClampNeg)) then (f_X12_passesMinute_J81 (nI t) x (pI pl) m4) else (bdI (f_X12_isOpenAt (nI t) m4) fun x7 m6 => if ¬ x7 = 0 then (f_X12_passesMinute_J97 (nI t) x (pI pl) m6) else (f_X12_passesMinute_J81 (nI t) x (pI pl) m6))))) _
  have stay : ¬ ends E t (isO E t) pl (bg pl) → Sat (f_X12_passesMinute_J97 (nI t) x (pI pl) m) (fun q => q.1 = pI (dpl (dE E t (dD E t (dC E t (dB E t (isO E t) (L, pl, bg, en, wr, wn, sm, jy, bn, pa)))))) ∧ DyM E (t + 1) (dE E t (dD E t (dC E t (dB E t (isO E t) (L, pl, bg, en, wr, wn, sm, jy, bn, pa))))) q.2 ∧ Kp WMd m q.2) := by
    intro e
    rw [dB_no e]
    have fin := mC (x := x) hE ev ok ht hd
    exact fin
  rcases o3 with h7 | ⟨g1, g2, g3, b, g4, g5⟩
  · rw [if_pos (by rw [h7, pI_7]; decide)]
    exact stay (fun q => q.1 h7)
  · have p7 : pl ≠ 7 := by omega
    have p7' : pl < 7 := by omega
    have pe : pI pl = nI pl := pI_n p7
    have goes : ends E t (isO E t) pl (bg pl) → Sat (f_X12_passesMinute_J81 (nI t) x (pI pl) m) (fun q => q.1 = pI (dpl (dE E t (dD E t (dC E t (dB E t (isO E t) (L, pl, bg, en, wr, wn, sm, jy, bn, pa)))))) ∧ DyM E (t + 1) (dE E t (dD E t (dC E t (dB E t (isO E t) (L, pl, bg, en, wr, wn, sm, jy, bn, pa))))) q.2 ∧ Kp WMd m q.2) := by
      intro e
      rw [dB_yes e] at okb ⊢
      unfold f_X12_passesMinute_J81
      rw [pe]
      simp (disch := omega) only [bnd_e, grd_t, bdI_e, bdV_e, bokA, bokB, ni_inb, ni_cl, nI_add, pk_mul, li_2, li_3, li_4, li_5, li_6, li_7, li_8, li_9, li_10, li_11, li_12, li_13, li_14, li_15, li_16, li_17, li_18, li_19, li_20, li_21, li_22, li_23, li_24, li_25, li_26, li_27, li_28, li_29, li_30, li_31, li_32, li_33, li_34, li_35, li_36, li_37, li_38, li_39, li_40, li_41, li_42, li_43, li_44, li_45, li_46, li_47, li_48, li_49, li_50, li_51, li_52, li_53, li_54, li_55, li_56, li_57, li_58, li_59, li_60, li_61, li_63, li_70, li_96, li_97, li_99, li_100, li_101, li_102, li_120, li_122, li_126, li_200, li_255, li_423, li_555, li_999, li_1000, li_1111, li_2968, li_9999, li_10631, li_12345, li_14092, li_21470, li_65536, li_99233, nz_eq, n1_eq, n1_lt, n1_gt, n1_le, n1_ge, n1_sub, n1_add, nm_add, nz_add, nz_add2, z1_ne, z1_lt, z1_le, nI_1, pk_sub, nI_ltI, nI_leI, nI_eq, ni_neg, ni_nneg, ni_pos0, ni_nle0, ni_m1, gI_eq, gI_ne, xI_sJ, xI_sR, xR_sI, xR_sJ, xJ_sI, xJ_sR, gJ_eq, gJ_ne, gR_eq, gR_ne, if_true, if_false, ite_true, ite_false, not_true_eq_false, not_false_eq_true, decide_true, and_self, true_and, and_true, false_and, and_false, or_true, true_or, or_false, false_or, reduceIte, ne_eq]
      have kp : Kp (fun a k => (a = 42 ∧ k = pl) ∨ (a = 44 ∧ k = pl)) m (sI (sI m 42 pl (nI 3)) 44 pl (nI t)) := ((Kp.refl m).sI _ (by omega)).sI _ (by omega)
      have kp' : Kp WMd m (sI (sI m 42 pl (nI 3)) 44 pl (nI t)) := kp.mono (fun a k q => by unfold WMd; omega)
      have hd2 : DyM E t (L, 7, bg, (fun p => if p = pl then nI t else en p), wr, wn, sm, jy, bn, pa) (sI (sI m 42 pl (nI 3)) 44 pl (nI t)) := by
        show DyMr E t L 7 bg (fun p => if p = pl then nI t else en p) wr sm jy bn pa _
        refine ⟨fun p hp => ?_, fun p hp => ⟨(kp.1 _ _ (by omega)).trans (b2 p hp).1, ?_⟩, fun k hk => (kp.1 _ _ (by omega)).trans (b3 k hk), (kp.1 _ _ (by omega)).trans b4, (kp.1 _ _ (by omega)).trans b5, fun h7 => absurd rfl h7, fun s hs => (kp.1 _ _ (by omega)).trans (b7 s hs)⟩
        · by_cases z : p = pl
          · subst z
            rw [gI_ne _ _ _ _ _ _ (by omega), gI_eq _ _ _ _ _ _ rfl rfl]
            exact ⟨fun r => absurd r (by decide), fun r => absurd r g2⟩
          · rw [kp.1 _ _ (by omega)]
            exact b1 p hp
        · show _ = (if p = pl then nI t else en p)
          by_cases z : p = pl
          · subst z
            rw [gI_eq _ _ _ _ _ _ rfl rfl, if_pos rfl]
          · rw [if_neg z]
            exact (kp.1 _ _ (by omega)).trans (b2 p hp).2
      have fin := mC (x := x) hE (ev.keep hE kp') okb ht hd2
      have e71 : pI (dpl (L, 7, bg, (fun p => if p = pl then nI t else en p), wr, wn, sm, jy, bn, pa)) = -1 := pI_7
      rw [e71] at fin
      refine fin.mono ?_
      intro q ⟨r1, r2, r3⟩
      exact ⟨r1, r2, kp'.trans r3⟩
    have c43 : gI m 43 pl = nI b := ((b2 pl p7').1).trans g5
    have sb : nI t - nI b = nI (t - b) := pk_sub (by omega)
    have pb : plF (eC E) (eE E) pl ≤ 30 := by
      obtain ⟨c3, -, -, -, ⟨c7, c7'⟩, -⟩ := hE.1.2.2.2.2.2.2.2.2 pl g1
      unfold plF
      split
      · exact c7'
      · have := hE.2.1
        split <;> omega
    have mi := minutesM hE.1 ev.1 g1 hE.2.1 ev.2.2.2.1
    have op := openM hE ev ht
    rw [pe] at stay goes ⊢
    by_cases y : plF (eC E) (eE E) pl ≤ t - b
    · simp (disch := omega) only [mi, c43, sb, y, bnd_e, grd_t, bdI_e, bdV_e, bokA, bokB, ni_inb, ni_cl, nI_add, pk_mul, li_2, li_3, li_4, li_5, li_6, li_7, li_8, li_9, li_10, li_11, li_12, li_13, li_14, li_15, li_16, li_17, li_18, li_19, li_20, li_21, li_22, li_23, li_24, li_25, li_26, li_27, li_28, li_29, li_30, li_31, li_32, li_33, li_34, li_35, li_36, li_37, li_38, li_39, li_40, li_41, li_42, li_43, li_44, li_45, li_46, li_47, li_48, li_49, li_50, li_51, li_52, li_53, li_54, li_55, li_56, li_57, li_58, li_59, li_60, li_61, li_63, li_70, li_96, li_97, li_99, li_100, li_101, li_102, li_120, li_122, li_126, li_200, li_255, li_423, li_555, li_999, li_1000, li_1111, li_2968, li_9999, li_10631, li_12345, li_14092, li_21470, li_65536, li_99233, nz_eq, n1_eq, n1_lt, n1_gt, n1_le, n1_ge, n1_sub, n1_add, nm_add, nz_add, nz_add2, z1_ne, z1_lt, z1_le, nI_1, pk_sub, nI_ltI, nI_leI, nI_eq, ni_neg, ni_nneg, ni_pos0, ni_nle0, ni_m1, gI_eq, gI_ne, xI_sJ, xI_sR, xR_sI, xR_sJ, xJ_sI, xJ_sR, gJ_eq, gJ_ne, gR_eq, gR_ne, if_true, if_false, ite_true, ite_false, not_true_eq_false, not_false_eq_true, decide_true, and_self, true_and, and_true, false_and, and_false, or_true, true_or, or_false, false_or, reduceIte, ne_eq]
      exact goes ⟨p7, Or.inr (by rw [g5, sb]; exact (nI_leI (by omega) (by omega)).mpr y)⟩
    · have y' : ¬ nI (plF (eC E) (eE E) pl) ≤ nI t - bg pl := by
        rw [g5, sb]
        exact fun q => y ((nI_leI (by omega) (by omega)).mp q)
      cases o : isO E t with
      | false =>
        rw [o] at op goes
        have b0 : bO false = 0 := rfl
        simp (disch := omega) only [mi, c43, sb, y, op, b0, bnd_e, grd_t, bdI_e, bdV_e, bokA, bokB, ni_inb, ni_cl, nI_add, pk_mul, li_2, li_3, li_4, li_5, li_6, li_7, li_8, li_9, li_10, li_11, li_12, li_13, li_14, li_15, li_16, li_17, li_18, li_19, li_20, li_21, li_22, li_23, li_24, li_25, li_26, li_27, li_28, li_29, li_30, li_31, li_32, li_33, li_34, li_35, li_36, li_37, li_38, li_39, li_40, li_41, li_42, li_43, li_44, li_45, li_46, li_47, li_48, li_49, li_50, li_51, li_52, li_53, li_54, li_55, li_56, li_57, li_58, li_59, li_60, li_61, li_63, li_70, li_96, li_97, li_99, li_100, li_101, li_102, li_120, li_122, li_126, li_200, li_255, li_423, li_555, li_999, li_1000, li_1111, li_2968, li_9999, li_10631, li_12345, li_14092, li_21470, li_65536, li_99233, nz_eq, n1_eq, n1_lt, n1_gt, n1_le, n1_ge, n1_sub, n1_add, nm_add, nz_add, nz_add2, z1_ne, z1_lt, z1_le, nI_1, pk_sub, nI_ltI, nI_leI, nI_eq, ni_neg, ni_nneg, ni_pos0, ni_nle0, ni_m1, gI_eq, gI_ne, xI_sJ, xI_sR, xR_sI, xR_sJ, xJ_sI, xJ_sR, gJ_eq, gJ_ne, gR_eq, gR_ne, if_true, if_false, ite_true, ite_false, not_true_eq_false, not_false_eq_true, decide_true, and_self, true_and, and_true, false_and, and_false, or_true, true_or, or_false, false_or, reduceIte, ne_eq]
        exact goes ⟨p7, Or.inl rfl⟩
      | true =>
        rw [o] at op stay
        have b0 : bO true = 1 := rfl
        simp (disch := omega) only [mi, c43, sb, y, op, b0, bnd_e, grd_t, bdI_e, bdV_e, bokA, bokB, ni_inb, ni_cl, nI_add, pk_mul, li_2, li_3, li_4, li_5, li_6, li_7, li_8, li_9, li_10, li_11, li_12, li_13, li_14, li_15, li_16, li_17, li_18, li_19, li_20, li_21, li_22, li_23, li_24, li_25, li_26, li_27, li_28, li_29, li_30, li_31, li_32, li_33, li_34, li_35, li_36, li_37, li_38, li_39, li_40, li_41, li_42, li_43, li_44, li_45, li_46, li_47, li_48, li_49, li_50, li_51, li_52, li_53, li_54, li_55, li_56, li_57, li_58, li_59, li_60, li_61, li_63, li_70, li_96, li_97, li_99, li_100, li_101, li_102, li_120, li_122, li_126, li_200, li_255, li_423, li_555, li_999, li_1000, li_1111, li_2968, li_9999, li_10631, li_12345, li_14092, li_21470, li_65536, li_99233, nz_eq, n1_eq, n1_lt, n1_gt, n1_le, n1_ge, n1_sub, n1_add, nm_add, nz_add, nz_add2, z1_ne, z1_lt, z1_le, nI_1, pk_sub, nI_ltI, nI_leI, nI_eq, ni_neg, ni_nneg, ni_pos0, ni_nle0, ni_m1, gI_eq, gI_ne, xI_sJ, xI_sR, xR_sI, xR_sJ, xJ_sI, xJ_sR, gJ_eq, gJ_ne, gR_eq, gR_ne, if_true, if_false, ite_true, ite_false, not_true_eq_false, not_false_eq_true, decide_true, and_self, true_and, and_true, false_and, and_false, or_true, true_or, or_false, false_or, reduceIte, ne_eq]
        exact stay (fun q => q.2.elim (fun q => by cases q) y')
theorem minM {E : Ev} {m : Mm} {t : Nat} {d : Dy} (hE : EvOK E) (ev : EvM E m) (ok : DyOK E t d) (ht : t < 60) (hd : DyM E t d m) : Sat (f_X12_passesMinute (nI t) (pI (dpl d)) m) (fun q => q.1 = pI (dpl (dyM E t d)) ∧ DyM E (t + 1) (dyM E t d) q.2 ∧ Kp WMd m q.2) := by
  have e7 := eP7 hE
  have oka := okA hE ht ok
  have h2 : gI m 2 1 = nI (eP E) := ev.1.1 1 (by decide)
  have h41 := ev.2.2.2.2.2.2.1
  have h62 := ev.2.2.2.2.2.2.2
  unfold dyM
  obtain ⟨L, pl, bg, en, wr, wn, sm, jy, bn, pa⟩ := d
  obtain ⟨o1, o2, o3, o4, o5, o6⟩ := (show DyOKr E _ L pl bg wr wn from ok)
  obtain ⟨b1, b2, b3, b4, b5, b6, b7⟩ := (show DyMr E t L pl bg en wr sm jy bn pa m from hd)
  show Sat (f_X12_passesMinute (nI t) (pI pl) m) _
  unfold f_X12_passesMinute
  refine cnt2 (A := Int32) 0 (eP E) (by omega) (by omega) (fun i a n => a = pI pl ∧ (∀ p, p < eP E → (gI n 42 p = 1 ↔ (p ∈ L ∨ p ∈ arr E t i))) ∧ Kp (fun a _ => a = 42) m n) ?_ ?_ ⟨rfl, fun p hp => by rw [b1 p hp]; exact ⟨fun r => Or.inl r, fun r => r.elim id (fun q => by cases q)⟩, Kp.refl m⟩
  · intro i a n k _ hi ⟨a1, a2, a3⟩ hk
    subst a1
    have n1 : ¬ eP E ≤ i := by omega
    have f2 : gI n 2 1 = nI (eP E) := (a3.1 _ _ (by omega)).trans h2
    have f41 : gI n 41 i = nI (eA E i) := (a3.1 _ _ (by omega)).trans (h41 i hi)
    have f62 : gI n 0 62 = eX E := (a3.1 _ _ (by omega)).trans h62
    have ai := hE.2.2.2.2.1 i hi
    have ar : arr E t (i + 1) = if eA E i = t ∧ (eX E >>> (nI i &&& 31)) &&& 1 = 0 then arr E t i ++ [i] else arr E t i := rfl
    unfold f_X12_passesMinute_B5 f_X12_passesMinute_J47
    by_cases z1 : eA E i = t
    · by_cases z2 : (eX E >>> (nI i &&& 31)) &&& 1 = 0
      · have z2' : (eX E >>> (nI i &&& nI 31)) &&& 1 = 0 := z2
        rw [if_pos ⟨z1, z2⟩] at ar
        rw [ar] at hk
        simp (disch := omega) only [f2, n1, f41, z1, f62, z2', bnd_e, grd_t, bdI_e, bdV_e, bokA, bokB, ni_inb, ni_cl, nI_add, pk_mul, li_2, li_3, li_4, li_5, li_6, li_7, li_8, li_9, li_10, li_11, li_12, li_13, li_14, li_15, li_16, li_17, li_18, li_19, li_20, li_21, li_22, li_23, li_24, li_25, li_26, li_27, li_28, li_29, li_30, li_31, li_32, li_33, li_34, li_35, li_36, li_37, li_38, li_39, li_40, li_41, li_42, li_43, li_44, li_45, li_46, li_47, li_48, li_49, li_50, li_51, li_52, li_53, li_54, li_55, li_56, li_57, li_58, li_59, li_60, li_61, li_63, li_70, li_96, li_97, li_99, li_100, li_101, li_102, li_120, li_122, li_126, li_200, li_255, li_423, li_555, li_999, li_1000, li_1111, li_2968, li_9999, li_10631, li_12345, li_14092, li_21470, li_65536, li_99233, nz_eq, n1_eq, n1_lt, n1_gt, n1_le, n1_ge, n1_sub, n1_add, nm_add, nz_add, nz_add2, z1_ne, z1_lt, z1_le, nI_1, pk_sub, nI_ltI, nI_leI, nI_eq, ni_neg, ni_nneg, ni_pos0, ni_nle0, ni_m1, gI_eq, gI_ne, xI_sJ, xI_sR, xR_sI, xR_sJ, xJ_sI, xJ_sR, gJ_eq, gJ_ne, gR_eq, gR_ne, if_true, if_false, ite_true, ite_false, not_true_eq_false, not_false_eq_true, decide_true, and_self, true_and, and_true, false_and, and_false, or_true, true_or, or_false, false_or, reduceIte, ne_eq]
        refine hk _ _ ⟨rfl, fun p hp => ?_, a3.sI _ rfl⟩
        rw [List.mem_append, List.mem_singleton]
        by_cases v : p = i
        · subst v
          rw [gI_eq _ _ _ _ _ _ rfl rfl]
          exact ⟨fun _ => Or.inr (Or.inr rfl), fun _ => rfl⟩
        · rw [gI_ne _ _ _ _ _ _ (by omega), a2 p hp]
          exact ⟨fun r => r.imp id Or.inl, fun r => r.imp id (fun q => q.resolve_right v)⟩
      · have z2' : ¬ (eX E >>> (nI i &&& nI 31)) &&& 1 = 0 := z2
        rw [if_neg (fun q => z2 q.2)] at ar
        rw [ar] at hk
        simp (disch := omega) only [f2, n1, f41, z1, f62, z2', bnd_e, grd_t, bdI_e, bdV_e, bokA, bokB, ni_inb, ni_cl, nI_add, pk_mul, li_2, li_3, li_4, li_5, li_6, li_7, li_8, li_9, li_10, li_11, li_12, li_13, li_14, li_15, li_16, li_17, li_18, li_19, li_20, li_21, li_22, li_23, li_24, li_25, li_26, li_27, li_28, li_29, li_30, li_31, li_32, li_33, li_34, li_35, li_36, li_37, li_38, li_39, li_40, li_41, li_42, li_43, li_44, li_45, li_46, li_47, li_48, li_49, li_50, li_51, li_52, li_53, li_54, li_55, li_56, li_57, li_58, li_59, li_60, li_61, li_63, li_70, li_96, li_97, li_99, li_100, li_101, li_102, li_120, li_122, li_126, li_200, li_255, li_423, li_555, li_999, li_1000, li_1111, li_2968, li_9999, li_10631, li_12345, li_14092, li_21470, li_65536, li_99233, nz_eq, n1_eq, n1_lt, n1_gt, n1_le, n1_ge, n1_sub, n1_add, nm_add, nz_add, nz_add2, z1_ne, z1_lt, z1_le, nI_1, pk_sub, nI_ltI, nI_leI, nI_eq, ni_neg, ni_nneg, ni_pos0, ni_nle0, ni_m1, gI_eq, gI_ne, xI_sJ, xI_sR, xR_sI, xR_sJ, xJ_sI, xJ_sR, gJ_eq, gJ_ne, gR_eq, gR_ne, if_true, if_false, ite_true, ite_false, not_true_eq_false, not_false_eq_true, decide_true, and_self, true_and, and_true, false_and, and_false, or_true, true_or, or_false, false_or, reduceIte, ne_eq]
        exact hk _ _ ⟨rfl, a2, a3⟩
    · rw [if_neg (fun q => z1 q.1)] at ar
      rw [ar] at hk
      simp (disch := omega) only [f2, n1, f41, z1, bnd_e, grd_t, bdI_e, bdV_e, bokA, bokB, ni_inb, ni_cl, nI_add, pk_mul, li_2, li_3, li_4, li_5, li_6, li_7, li_8, li_9, li_10, li_11, li_12, li_13, li_14, li_15, li_16, li_17, li_18, li_19, li_20, li_21, li_22, li_23, li_24, li_25, li_26, li_27, li_28, li_29, li_30, li_31, li_32, li_33, li_34, li_35, li_36, li_37, li_38, li_39, li_40, li_41, li_42, li_43, li_44, li_45, li_46, li_47, li_48, li_49, li_50, li_51, li_52, li_53, li_54, li_55, li_56, li_57, li_58, li_59, li_60, li_61, li_63, li_70, li_96, li_97, li_99, li_100, li_101, li_102, li_120, li_122, li_126, li_200, li_255, li_423, li_555, li_999, li_1000, li_1111, li_2968, li_9999, li_10631, li_12345, li_14092, li_21470, li_65536, li_99233, nz_eq, n1_eq, n1_lt, n1_gt, n1_le, n1_ge, n1_sub, n1_add, nm_add, nz_add, nz_add2, z1_ne, z1_lt, z1_le, nI_1, pk_sub, nI_ltI, nI_leI, nI_eq, ni_neg, ni_nneg, ni_pos0, ni_nle0, ni_m1, gI_eq, gI_ne, xI_sJ, xI_sR, xR_sI, xR_sJ, xJ_sI, xJ_sR, gJ_eq, gJ_ne, gR_eq, gR_ne, if_true, if_false, ite_true, ite_false, not_true_eq_false, not_false_eq_true, decide_true, and_self, true_and, and_true, false_and, and_false, or_true, true_or, or_false, false_or, reduceIte, ne_eq]
      exact hk _ _ ⟨rfl, a2, a3⟩
  · intro a n k ⟨a1, a2, a3⟩
    subst a1
    have f2 : gI n 2 1 = nI (eP E) := (a3.1 _ _ (by omega)).trans h2
    have kp : Kp WMd m n := a3.mono (fun a k q => by unfold WMd; omega)
    unfold f_X12_passesMinute_B5
    rw [if_pos (by rw [f2]; exact Int32.le_refl _)]
    have hd2 : DyM E t (dA E t (L, pl, bg, en, wr, wn, sm, jy, bn, pa)) n := by
      show DyMr E t (L ++ arr E t (eP E)) pl bg en wr sm jy bn pa n
      refine ⟨fun p hp => ?_, fun p hp => ⟨(a3.1 _ _ (by omega)).trans (b2 p hp).1, (a3.1 _ _ (by omega)).trans (b2 p hp).2⟩, fun k hk => (a3.1 _ _ (by omega)).trans (b3 k hk), (a3.1 _ _ (by omega)).trans b4, (a3.1 _ _ (by omega)).trans b5, fun h7 => (a3.1 _ _ (by omega)).trans (b6 h7), fun s hs => (a3.1 _ _ (by omega)).trans (b7 s hs)⟩
      rw [a2 p hp, List.mem_append]
    refine (mB (x := pI pl) hE (ev.keep hE kp) oka ht hd2).mono ?_
    intro q ⟨r1, r2, r3⟩
    exact ⟨r1, r2, kp.trans r3⟩
/-! the whole day of the other -/
theorem dayM {E : Ev} {m : Mm} {wr : Nat → Nat} (hE : EvOK E) (ev : EvM E m) (hwr : ∀ k, k < 12 → wr k ≤ 9) (h0 : ∀ k, k < 12 → gI m 35 (5 + k) = nI (wr k)) : Sat (f_X12_passesDay m) (fun q => q.1 = djy (dyD E wr) ∧ DyM E 60 (dyD E wr) q.2 ∧ gI q.2 35 0 = gI m 35 0 + 1 ∧ Kp (fun a k => WMd a k ∨ (a = 35 ∧ k = 0)) m q.2) := by
  unfold f_X12_passesDay
  simp only [bnd_e]
  refine cnt1 7 (by decide) (fun i n => Kp WMd m n ∧ (∀ p, p < i → gI n 42 p = 0 ∧ gI n 43 p = -1 ∧ gI n 44 p = -1) ∧ (∀ k, k < 12 → gI n 35 (5 + k) = nI (wr k)) ∧ gI n 0 63 = 0 ∧ gI n 0 64 = 0 ∧ gI n 35 0 = gI m 35 0) ?_ ?_ ⟨((Kp.refl m).sI _ (by unfold WMd; omega)).sI _ (by unfold WMd; omega), fun p hp => absurd hp (by omega), fun k hk => by simp (disch := omega) only [bnd_e, grd_t, bdI_e, bdV_e, bokA, bokB, ni_inb, ni_cl, nI_add, pk_mul, li_2, li_3, li_4, li_5, li_6, li_7, li_8, li_9, li_10, li_11, li_12, li_13, li_14, li_15, li_16, li_17, li_18, li_19, li_20, li_21, li_22, li_23, li_24, li_25, li_26, li_27, li_28, li_29, li_30, li_31, li_32, li_33, li_34, li_35, li_36, li_37, li_38, li_39, li_40, li_41, li_42, li_43, li_44, li_45, li_46, li_47, li_48, li_49, li_50, li_51, li_52, li_53, li_54, li_55, li_56, li_57, li_58, li_59, li_60, li_61, li_63, li_70, li_96, li_97, li_99, li_100, li_101, li_102, li_120, li_122, li_126, li_200, li_255, li_423, li_555, li_999, li_1000, li_1111, li_2968, li_9999, li_10631, li_12345, li_14092, li_21470, li_65536, li_99233, nz_eq, n1_eq, n1_lt, n1_gt, n1_le, n1_ge, n1_sub, n1_add, nm_add, nz_add, nz_add2, z1_ne, z1_lt, z1_le, nI_1, pk_sub, nI_ltI, nI_leI, nI_eq, ni_neg, ni_nneg, ni_pos0, ni_nle0, ni_m1, gI_eq, gI_ne, xI_sJ, xI_sR, xR_sI, xR_sJ, xJ_sI, xJ_sR, gJ_eq, gJ_ne, gR_eq, gR_ne, if_true, if_false, ite_true, ite_false, not_true_eq_false, not_false_eq_true, decide_true, and_self, true_and, and_true, false_and, and_false, or_true, true_or, or_false, false_or, reduceIte, ne_eq]; exact h0 k hk, by simp (disch := omega) only [bnd_e, grd_t, bdI_e, bdV_e, bokA, bokB, ni_inb, ni_cl, nI_add, pk_mul, li_2, li_3, li_4, li_5, li_6, li_7, li_8, li_9, li_10, li_11, li_12, li_13, li_14, li_15, li_16, li_17, li_18, li_19, li_20, li_21, li_22, li_23, li_24, li_25, li_26, li_27, li_28, li_29, li_30, li_31, li_32, li_33, li_34, li_35, li_36, li_37, li_38, li_39, li_40, li_41, li_42, li_43, li_44, li_45, li_46, li_47, li_48, li_49, li_50, li_51, li_52, li_53, li_54, li_55, li_56, li_57, li_58, li_59, li_60, li_61, li_63, li_70, li_96, li_97, li_99, li_100, li_101, li_102, li_120, li_122, li_126, li_200, li_255, li_423, li_555, li_999, li_1000, li_1111, li_2968, li_9999, li_10631, li_12345, li_14092, li_21470, li_65536, li_99233, nz_eq, n1_eq, n1_lt, n1_gt, n1_le, n1_ge, n1_sub, n1_add, nm_add, nz_add, nz_add2, z1_ne, z1_lt, z1_le, nI_1, pk_sub, nI_ltI, nI_leI, nI_eq, ni_neg, ni_nneg, ni_pos0, ni_nle0, ni_m1, gI_eq, gI_ne, xI_sJ, xI_sR, xR_sI, xR_sJ, xJ_sI, xJ_sR, gJ_eq, gJ_ne, gR_eq, gR_ne, if_true, if_false, ite_true, ite_false, not_true_eq_false, not_false_eq_true, decide_true, and_self, true_and, and_true, false_and, and_false, or_true, true_or, or_false, false_or, reduceIte, ne_eq], by simp (disch := omega) only [bnd_e, grd_t, bdI_e, bdV_e, bokA, bokB, ni_inb, ni_cl, nI_add, pk_mul, li_2, li_3, li_4, li_5, li_6, li_7, li_8, li_9, li_10, li_11, li_12, li_13, li_14, li_15, li_16, li_17, li_18, li_19, li_20, li_21, li_22, li_23, li_24, li_25, li_26, li_27, li_28, li_29, li_30, li_31, li_32, li_33, li_34, li_35, li_36, li_37, li_38, li_39, li_40, li_41, li_42, li_43, li_44, li_45, li_46, li_47, li_48, li_49, li_50, li_51, li_52, li_53, li_54, li_55, li_56, li_57, li_58, li_59, li_60, li_61, li_63, li_70, li_96, li_97, li_99, li_100, li_101, li_102, li_120, li_122, li_126, li_200, li_255, li_423, li_555, li_999, li_1000, li_1111, li_2968, li_9999, li_10631, li_12345, li_14092, li_21470, li_65536, li_99233, nz_eq, n1_eq, n1_lt, n1_gt, n1_le, n1_ge, n1_sub, n1_add, nm_add, nz_add, nz_add2, z1_ne, z1_lt, z1_le, nI_1, pk_sub, nI_ltI, nI_leI, nI_eq, ni_neg, ni_nneg, ni_pos0, ni_nle0, ni_m1, gI_eq, gI_ne, xI_sJ, xI_sR, xR_sI, xR_sJ, xJ_sI, xJ_sR, gJ_eq, gJ_ne, gR_eq, gR_ne, if_true, if_false, ite_true, ite_false, not_true_eq_false, not_false_eq_true, decide_true, and_self, true_and, and_true, false_and, and_false, or_true, true_or, or_false, false_or, reduceIte, ne_eq], by simp (disch := omega) only [bnd_e, grd_t, bdI_e, bdV_e, bokA, bokB, ni_inb, ni_cl, nI_add, pk_mul, li_2, li_3, li_4, li_5, li_6, li_7, li_8, li_9, li_10, li_11, li_12, li_13, li_14, li_15, li_16, li_17, li_18, li_19, li_20, li_21, li_22, li_23, li_24, li_25, li_26, li_27, li_28, li_29, li_30, li_31, li_32, li_33, li_34, li_35, li_36, li_37, li_38, li_39, li_40, li_41, li_42, li_43, li_44, li_45, li_46, li_47, li_48, li_49, li_50, li_51, li_52, li_53, li_54, li_55, li_56, li_57, li_58, li_59, li_60, li_61, li_63, li_70, li_96, li_97, li_99, li_100, li_101, li_102, li_120, li_122, li_126, li_200, li_255, li_423, li_555, li_999, li_1000, li_1111, li_2968, li_9999, li_10631, li_12345, li_14092, li_21470, li_65536, li_99233, nz_eq, n1_eq, n1_lt, n1_gt, n1_le, n1_ge, n1_sub, n1_add, nm_add, nz_add, nz_add2, z1_ne, z1_lt, z1_le, nI_1, pk_sub, nI_ltI, nI_leI, nI_eq, ni_neg, ni_nneg, ni_pos0, ni_nle0, ni_m1, gI_eq, gI_ne, xI_sJ, xI_sR, xR_sI, xR_sJ, xJ_sI, xJ_sR, gJ_eq, gJ_ne, gR_eq, gR_ne, if_true, if_false, ite_true, ite_false, not_true_eq_false, not_false_eq_true, decide_true, and_self, true_and, and_true, false_and, and_false, or_true, true_or, or_false, false_or, reduceIte, ne_eq]⟩
  · intro i n k hi ⟨a1, a2, a3, a4, a5, a6⟩ hk
    have n1 : ¬ 7 ≤ i := by omega
    unfold f_X12_passesDay_B12
    simp (disch := omega) only [n1, bnd_e, grd_t, bdI_e, bdV_e, bokA, bokB, ni_inb, ni_cl, nI_add, pk_mul, li_2, li_3, li_4, li_5, li_6, li_7, li_8, li_9, li_10, li_11, li_12, li_13, li_14, li_15, li_16, li_17, li_18, li_19, li_20, li_21, li_22, li_23, li_24, li_25, li_26, li_27, li_28, li_29, li_30, li_31, li_32, li_33, li_34, li_35, li_36, li_37, li_38, li_39, li_40, li_41, li_42, li_43, li_44, li_45, li_46, li_47, li_48, li_49, li_50, li_51, li_52, li_53, li_54, li_55, li_56, li_57, li_58, li_59, li_60, li_61, li_63, li_70, li_96, li_97, li_99, li_100, li_101, li_102, li_120, li_122, li_126, li_200, li_255, li_423, li_555, li_999, li_1000, li_1111, li_2968, li_9999, li_10631, li_12345, li_14092, li_21470, li_65536, li_99233, nz_eq, n1_eq, n1_lt, n1_gt, n1_le, n1_ge, n1_sub, n1_add, nm_add, nz_add, nz_add2, z1_ne, z1_lt, z1_le, nI_1, pk_sub, nI_ltI, nI_leI, nI_eq, ni_neg, ni_nneg, ni_pos0, ni_nle0, ni_m1, gI_eq, gI_ne, xI_sJ, xI_sR, xR_sI, xR_sJ, xJ_sI, xJ_sR, gJ_eq, gJ_ne, gR_eq, gR_ne, if_true, if_false, ite_true, ite_false, not_true_eq_false, not_false_eq_true, decide_true, and_self, true_and, and_true, false_and, and_false, or_true, true_or, or_false, false_or, reduceIte, ne_eq]
    refine hk _ ⟨((a1.sI _ (by unfold WMd; omega)).sI _ (by unfold WMd; omega)).sI _ (by unfold WMd; omega), fun p hp => ?_, fun k hk => ?_, ?_, ?_, ?_⟩
    · by_cases z : p = i
      · subst z; exact ⟨by simp (disch := omega) only [bnd_e, grd_t, bdI_e, bdV_e, bokA, bokB, ni_inb, ni_cl, nI_add, pk_mul, li_2, li_3, li_4, li_5, li_6, li_7, li_8, li_9, li_10, li_11, li_12, li_13, li_14, li_15, li_16, li_17, li_18, li_19, li_20, li_21, li_22, li_23, li_24, li_25, li_26, li_27, li_28, li_29, li_30, li_31, li_32, li_33, li_34, li_35, li_36, li_37, li_38, li_39, li_40, li_41, li_42, li_43, li_44, li_45, li_46, li_47, li_48, li_49, li_50, li_51, li_52, li_53, li_54, li_55, li_56, li_57, li_58, li_59, li_60, li_61, li_63, li_70, li_96, li_97, li_99, li_100, li_101, li_102, li_120, li_122, li_126, li_200, li_255, li_423, li_555, li_999, li_1000, li_1111, li_2968, li_9999, li_10631, li_12345, li_14092, li_21470, li_65536, li_99233, nz_eq, n1_eq, n1_lt, n1_gt, n1_le, n1_ge, n1_sub, n1_add, nm_add, nz_add, nz_add2, z1_ne, z1_lt, z1_le, nI_1, pk_sub, nI_ltI, nI_leI, nI_eq, ni_neg, ni_nneg, ni_pos0, ni_nle0, ni_m1, gI_eq, gI_ne, xI_sJ, xI_sR, xR_sI, xR_sJ, xJ_sI, xJ_sR, gJ_eq, gJ_ne, gR_eq, gR_ne, if_true, if_false, ite_true, ite_false, not_true_eq_false, not_false_eq_true, decide_true, and_self, true_and, and_true, false_and, and_false, or_true, true_or, or_false, false_or, reduceIte, ne_eq], by simp (disch := omega) only [bnd_e, grd_t, bdI_e, bdV_e, bokA, bokB, ni_inb, ni_cl, nI_add, pk_mul, li_2, li_3, li_4, li_5, li_6, li_7, li_8, li_9, li_10, li_11, li_12, li_13, li_14, li_15, li_16, li_17, li_18, li_19, li_20, li_21, li_22, li_23, li_24, li_25, li_26, li_27, li_28, li_29, li_30, li_31, li_32, li_33, li_34, li_35, li_36, li_37, li_38, li_39, li_40, li_41, li_42, li_43, li_44, li_45, li_46, li_47, li_48, li_49, li_50, li_51, li_52, li_53, li_54, li_55, li_56, li_57, li_58, li_59, li_60, li_61, li_63, li_70, li_96, li_97, li_99, li_100, li_101, li_102, li_120, li_122, li_126, li_200, li_255, li_423, li_555, li_999, li_1000, li_1111, li_2968, li_9999, li_10631, li_12345, li_14092, li_21470, li_65536, li_99233, nz_eq, n1_eq, n1_lt, n1_gt, n1_le, n1_ge, n1_sub, n1_add, nm_add, nz_add, nz_add2, z1_ne, z1_lt, z1_le, nI_1, pk_sub, nI_ltI, nI_leI, nI_eq, ni_neg, ni_nneg, ni_pos0, ni_nle0, ni_m1, gI_eq, gI_ne, xI_sJ, xI_sR, xR_sI, xR_sJ, xJ_sI, xJ_sR, gJ_eq, gJ_ne, gR_eq, gR_ne, if_true, if_false, ite_true, ite_false, not_true_eq_false, not_false_eq_true, decide_true, and_self, true_and, and_true, false_and, and_false, or_true, true_or, or_false, false_or, reduceIte, ne_eq], by simp (disch := omega) only [bnd_e, grd_t, bdI_e, bdV_e, bokA, bokB, ni_inb, ni_cl, nI_add, pk_mul, li_2, li_3, li_4, li_5, li_6, li_7, li_8, li_9, li_10, li_11, li_12, li_13, li_14, li_15, li_16, li_17, li_18, li_19, li_20, li_21, li_22, li_23, li_24, li_25, li_26, li_27, li_28, li_29, li_30, li_31, li_32, li_33, li_34, li_35, li_36, li_37, li_38, li_39, li_40, li_41, li_42, li_43, li_44, li_45, li_46, li_47, li_48, li_49, li_50, li_51, li_52, li_53, li_54, li_55, li_56, li_57, li_58, li_59, li_60, li_61, li_63, li_70, li_96, li_97, li_99, li_100, li_101, li_102, li_120, li_122, li_126, li_200, li_255, li_423, li_555, li_999, li_1000, li_1111, li_2968, li_9999, li_10631, li_12345, li_14092, li_21470, li_65536, li_99233, nz_eq, n1_eq, n1_lt, n1_gt, n1_le, n1_ge, n1_sub, n1_add, nm_add, nz_add, nz_add2, z1_ne, z1_lt, z1_le, nI_1, pk_sub, nI_ltI, nI_leI, nI_eq, ni_neg, ni_nneg, ni_pos0, ni_nle0, ni_m1, gI_eq, gI_ne, xI_sJ, xI_sR, xR_sI, xR_sJ, xJ_sI, xJ_sR, gJ_eq, gJ_ne, gR_eq, gR_ne, if_true, if_false, ite_true, ite_false, not_true_eq_false, not_false_eq_true, decide_true, and_self, true_and, and_true, false_and, and_false, or_true, true_or, or_false, false_or, reduceIte, ne_eq]⟩
      · have := a2 p (by omega)
        exact ⟨by simp (disch := omega) only [bnd_e, grd_t, bdI_e, bdV_e, bokA, bokB, ni_inb, ni_cl, nI_add, pk_mul, li_2, li_3, li_4, li_5, li_6, li_7, li_8, li_9, li_10, li_11, li_12, li_13, li_14, li_15, li_16, li_17, li_18, li_19, li_20, li_21, li_22, li_23, li_24, li_25, li_26, li_27, li_28, li_29, li_30, li_31, li_32, li_33, li_34, li_35, li_36, li_37, li_38, li_39, li_40, li_41, li_42, li_43, li_44, li_45, li_46, li_47, li_48, li_49, li_50, li_51, li_52, li_53, li_54, li_55, li_56, li_57, li_58, li_59, li_60, li_61, li_63, li_70, li_96, li_97, li_99, li_100, li_101, li_102, li_120, li_122, li_126, li_200, li_255, li_423, li_555, li_999, li_1000, li_1111, li_2968, li_9999, li_10631, li_12345, li_14092, li_21470, li_65536, li_99233, nz_eq, n1_eq, n1_lt, n1_gt, n1_le, n1_ge, n1_sub, n1_add, nm_add, nz_add, nz_add2, z1_ne, z1_lt, z1_le, nI_1, pk_sub, nI_ltI, nI_leI, nI_eq, ni_neg, ni_nneg, ni_pos0, ni_nle0, ni_m1, gI_eq, gI_ne, xI_sJ, xI_sR, xR_sI, xR_sJ, xJ_sI, xJ_sR, gJ_eq, gJ_ne, gR_eq, gR_ne, if_true, if_false, ite_true, ite_false, not_true_eq_false, not_false_eq_true, decide_true, and_self, true_and, and_true, false_and, and_false, or_true, true_or, or_false, false_or, reduceIte, ne_eq]; exact this.1, by simp (disch := omega) only [bnd_e, grd_t, bdI_e, bdV_e, bokA, bokB, ni_inb, ni_cl, nI_add, pk_mul, li_2, li_3, li_4, li_5, li_6, li_7, li_8, li_9, li_10, li_11, li_12, li_13, li_14, li_15, li_16, li_17, li_18, li_19, li_20, li_21, li_22, li_23, li_24, li_25, li_26, li_27, li_28, li_29, li_30, li_31, li_32, li_33, li_34, li_35, li_36, li_37, li_38, li_39, li_40, li_41, li_42, li_43, li_44, li_45, li_46, li_47, li_48, li_49, li_50, li_51, li_52, li_53, li_54, li_55, li_56, li_57, li_58, li_59, li_60, li_61, li_63, li_70, li_96, li_97, li_99, li_100, li_101, li_102, li_120, li_122, li_126, li_200, li_255, li_423, li_555, li_999, li_1000, li_1111, li_2968, li_9999, li_10631, li_12345, li_14092, li_21470, li_65536, li_99233, nz_eq, n1_eq, n1_lt, n1_gt, n1_le, n1_ge, n1_sub, n1_add, nm_add, nz_add, nz_add2, z1_ne, z1_lt, z1_le, nI_1, pk_sub, nI_ltI, nI_leI, nI_eq, ni_neg, ni_nneg, ni_pos0, ni_nle0, ni_m1, gI_eq, gI_ne, xI_sJ, xI_sR, xR_sI, xR_sJ, xJ_sI, xJ_sR, gJ_eq, gJ_ne, gR_eq, gR_ne, if_true, if_false, ite_true, ite_false, not_true_eq_false, not_false_eq_true, decide_true, and_self, true_and, and_true, false_and, and_false, or_true, true_or, or_false, false_or, reduceIte, ne_eq]; exact this.2.1, by simp (disch := omega) only [bnd_e, grd_t, bdI_e, bdV_e, bokA, bokB, ni_inb, ni_cl, nI_add, pk_mul, li_2, li_3, li_4, li_5, li_6, li_7, li_8, li_9, li_10, li_11, li_12, li_13, li_14, li_15, li_16, li_17, li_18, li_19, li_20, li_21, li_22, li_23, li_24, li_25, li_26, li_27, li_28, li_29, li_30, li_31, li_32, li_33, li_34, li_35, li_36, li_37, li_38, li_39, li_40, li_41, li_42, li_43, li_44, li_45, li_46, li_47, li_48, li_49, li_50, li_51, li_52, li_53, li_54, li_55, li_56, li_57, li_58, li_59, li_60, li_61, li_63, li_70, li_96, li_97, li_99, li_100, li_101, li_102, li_120, li_122, li_126, li_200, li_255, li_423, li_555, li_999, li_1000, li_1111, li_2968, li_9999, li_10631, li_12345, li_14092, li_21470, li_65536, li_99233, nz_eq, n1_eq, n1_lt, n1_gt, n1_le, n1_ge, n1_sub, n1_add, nm_add, nz_add, nz_add2, z1_ne, z1_lt, z1_le, nI_1, pk_sub, nI_ltI, nI_leI, nI_eq, ni_neg, ni_nneg, ni_pos0, ni_nle0, ni_m1, gI_eq, gI_ne, xI_sJ, xI_sR, xR_sI, xR_sJ, xJ_sI, xJ_sR, gJ_eq, gJ_ne, gR_eq, gR_ne, if_true, if_false, ite_true, ite_false, not_true_eq_false, not_false_eq_true, decide_true, and_self, true_and, and_true, false_and, and_false, or_true, true_or, or_false, false_or, reduceIte, ne_eq]; exact this.2.2⟩
    · simp (disch := omega) only [bnd_e, grd_t, bdI_e, bdV_e, bokA, bokB, ni_inb, ni_cl, nI_add, pk_mul, li_2, li_3, li_4, li_5, li_6, li_7, li_8, li_9, li_10, li_11, li_12, li_13, li_14, li_15, li_16, li_17, li_18, li_19, li_20, li_21, li_22, li_23, li_24, li_25, li_26, li_27, li_28, li_29, li_30, li_31, li_32, li_33, li_34, li_35, li_36, li_37, li_38, li_39, li_40, li_41, li_42, li_43, li_44, li_45, li_46, li_47, li_48, li_49, li_50, li_51, li_52, li_53, li_54, li_55, li_56, li_57, li_58, li_59, li_60, li_61, li_63, li_70, li_96, li_97, li_99, li_100, li_101, li_102, li_120, li_122, li_126, li_200, li_255, li_423, li_555, li_999, li_1000, li_1111, li_2968, li_9999, li_10631, li_12345, li_14092, li_21470, li_65536, li_99233, nz_eq, n1_eq, n1_lt, n1_gt, n1_le, n1_ge, n1_sub, n1_add, nm_add, nz_add, nz_add2, z1_ne, z1_lt, z1_le, nI_1, pk_sub, nI_ltI, nI_leI, nI_eq, ni_neg, ni_nneg, ni_pos0, ni_nle0, ni_m1, gI_eq, gI_ne, xI_sJ, xI_sR, xR_sI, xR_sJ, xJ_sI, xJ_sR, gJ_eq, gJ_ne, gR_eq, gR_ne, if_true, if_false, ite_true, ite_false, not_true_eq_false, not_false_eq_true, decide_true, and_self, true_and, and_true, false_and, and_false, or_true, true_or, or_false, false_or, reduceIte, ne_eq]; exact a3 k hk
    · simp (disch := omega) only [bnd_e, grd_t, bdI_e, bdV_e, bokA, bokB, ni_inb, ni_cl, nI_add, pk_mul, li_2, li_3, li_4, li_5, li_6, li_7, li_8, li_9, li_10, li_11, li_12, li_13, li_14, li_15, li_16, li_17, li_18, li_19, li_20, li_21, li_22, li_23, li_24, li_25, li_26, li_27, li_28, li_29, li_30, li_31, li_32, li_33, li_34, li_35, li_36, li_37, li_38, li_39, li_40, li_41, li_42, li_43, li_44, li_45, li_46, li_47, li_48, li_49, li_50, li_51, li_52, li_53, li_54, li_55, li_56, li_57, li_58, li_59, li_60, li_61, li_63, li_70, li_96, li_97, li_99, li_100, li_101, li_102, li_120, li_122, li_126, li_200, li_255, li_423, li_555, li_999, li_1000, li_1111, li_2968, li_9999, li_10631, li_12345, li_14092, li_21470, li_65536, li_99233, nz_eq, n1_eq, n1_lt, n1_gt, n1_le, n1_ge, n1_sub, n1_add, nm_add, nz_add, nz_add2, z1_ne, z1_lt, z1_le, nI_1, pk_sub, nI_ltI, nI_leI, nI_eq, ni_neg, ni_nneg, ni_pos0, ni_nle0, ni_m1, gI_eq, gI_ne, xI_sJ, xI_sR, xR_sI, xR_sJ, xJ_sI, xJ_sR, gJ_eq, gJ_ne, gR_eq, gR_ne, if_true, if_false, ite_true, ite_false, not_true_eq_false, not_false_eq_true, decide_true, and_self, true_and, and_true, false_and, and_false, or_true, true_or, or_false, false_or, reduceIte, ne_eq]; exact a4
    · simp (disch := omega) only [bnd_e, grd_t, bdI_e, bdV_e, bokA, bokB, ni_inb, ni_cl, nI_add, pk_mul, li_2, li_3, li_4, li_5, li_6, li_7, li_8, li_9, li_10, li_11, li_12, li_13, li_14, li_15, li_16, li_17, li_18, li_19, li_20, li_21, li_22, li_23, li_24, li_25, li_26, li_27, li_28, li_29, li_30, li_31, li_32, li_33, li_34, li_35, li_36, li_37, li_38, li_39, li_40, li_41, li_42, li_43, li_44, li_45, li_46, li_47, li_48, li_49, li_50, li_51, li_52, li_53, li_54, li_55, li_56, li_57, li_58, li_59, li_60, li_61, li_63, li_70, li_96, li_97, li_99, li_100, li_101, li_102, li_120, li_122, li_126, li_200, li_255, li_423, li_555, li_999, li_1000, li_1111, li_2968, li_9999, li_10631, li_12345, li_14092, li_21470, li_65536, li_99233, nz_eq, n1_eq, n1_lt, n1_gt, n1_le, n1_ge, n1_sub, n1_add, nm_add, nz_add, nz_add2, z1_ne, z1_lt, z1_le, nI_1, pk_sub, nI_ltI, nI_leI, nI_eq, ni_neg, ni_nneg, ni_pos0, ni_nle0, ni_m1, gI_eq, gI_ne, xI_sJ, xI_sR, xR_sI, xR_sJ, xJ_sI, xJ_sR, gJ_eq, gJ_ne, gR_eq, gR_ne, if_true, if_false, ite_true, ite_false, not_true_eq_false, not_false_eq_true, decide_true, and_self, true_and, and_true, false_and, and_false, or_true, true_or, or_false, false_or, reduceIte, ne_eq]; exact a5
    · simp (disch := omega) only [bnd_e, grd_t, bdI_e, bdV_e, bokA, bokB, ni_inb, ni_cl, nI_add, pk_mul, li_2, li_3, li_4, li_5, li_6, li_7, li_8, li_9, li_10, li_11, li_12, li_13, li_14, li_15, li_16, li_17, li_18, li_19, li_20, li_21, li_22, li_23, li_24, li_25, li_26, li_27, li_28, li_29, li_30, li_31, li_32, li_33, li_34, li_35, li_36, li_37, li_38, li_39, li_40, li_41, li_42, li_43, li_44, li_45, li_46, li_47, li_48, li_49, li_50, li_51, li_52, li_53, li_54, li_55, li_56, li_57, li_58, li_59, li_60, li_61, li_63, li_70, li_96, li_97, li_99, li_100, li_101, li_102, li_120, li_122, li_126, li_200, li_255, li_423, li_555, li_999, li_1000, li_1111, li_2968, li_9999, li_10631, li_12345, li_14092, li_21470, li_65536, li_99233, nz_eq, n1_eq, n1_lt, n1_gt, n1_le, n1_ge, n1_sub, n1_add, nm_add, nz_add, nz_add2, z1_ne, z1_lt, z1_le, nI_1, pk_sub, nI_ltI, nI_leI, nI_eq, ni_neg, ni_nneg, ni_pos0, ni_nle0, ni_m1, gI_eq, gI_ne, xI_sJ, xI_sR, xR_sI, xR_sJ, xJ_sI, xJ_sR, gJ_eq, gJ_ne, gR_eq, gR_ne, if_true, if_false, ite_true, ite_false, not_true_eq_false, not_false_eq_true, decide_true, and_self, true_and, and_true, false_and, and_false, or_true, true_or, or_false, false_or, reduceIte, ne_eq]; exact a6
  intro n k ⟨a1, a2, a3, a4, a5, a6⟩
  unfold f_X12_passesDay_B12
  simp (disch := omega) only [Nat.le_refl, bnd_e, grd_t, bdI_e, bdV_e, bokA, bokB, ni_inb, ni_cl, nI_add, pk_mul, li_2, li_3, li_4, li_5, li_6, li_7, li_8, li_9, li_10, li_11, li_12, li_13, li_14, li_15, li_16, li_17, li_18, li_19, li_20, li_21, li_22, li_23, li_24, li_25, li_26, li_27, li_28, li_29, li_30, li_31, li_32, li_33, li_34, li_35, li_36, li_37, li_38, li_39, li_40, li_41, li_42, li_43, li_44, li_45, li_46, li_47, li_48, li_49, li_50, li_51, li_52, li_53, li_54, li_55, li_56, li_57, li_58, li_59, li_60, li_61, li_63, li_70, li_96, li_97, li_99, li_100, li_101, li_102, li_120, li_122, li_126, li_200, li_255, li_423, li_555, li_999, li_1000, li_1111, li_2968, li_9999, li_10631, li_12345, li_14092, li_21470, li_65536, li_99233, nz_eq, n1_eq, n1_lt, n1_gt, n1_le, n1_ge, n1_sub, n1_add, nm_add, nz_add, nz_add2, z1_ne, z1_lt, z1_le, nI_1, pk_sub, nI_ltI, nI_leI, nI_eq, ni_neg, ni_nneg, ni_pos0, ni_nle0, ni_m1, gI_eq, gI_ne, xI_sJ, xI_sR, xR_sI, xR_sJ, xJ_sI, xJ_sR, gJ_eq, gJ_ne, gR_eq, gR_ne, if_true, if_false, ite_true, ite_false, not_true_eq_false, not_false_eq_true, decide_true, and_self, true_and, and_true, false_and, and_false, or_true, true_or, or_false, false_or, reduceIte, ne_eq]
  have e7 := eP7 hE
  have D0 : DyM E 0 (d0 wr) n := by
    show DyMr E 0 [] 7 (fun _ => -1) (fun _ => -1) wr 0 0 0 (fun _ => 7) n
    refine ⟨fun p hp => ?_, fun p hp => (a2 p hp).2, a3, a4, a5, fun q => absurd rfl q, fun s hs => absurd hs (by omega)⟩
    rw [(a2 p (by omega)).1]
    exact ⟨fun r => absurd r (by decide), fun r => by cases r⟩
  refine cnt2 (A := Int32) 0 60 (by decide) (by decide) (fun t a n => a = pI (dpl (dyR E wr t)) ∧ DyM E t (dyR E wr t) n ∧ Kp WMd m n) ?_ ?_ ⟨pI_7.symm, D0, a1⟩
  · intro t a n k _ ht ⟨c1, c2, c3⟩ hk
    subst c1
    have ev' := ev.keep hE c3
    have n1 : ¬ 60 ≤ t := by omega
    have st := minM hE ev' (okR hE hwr t (by omega)) ht c2
    have hr : dyM E t (dyR E wr t) = dyR E wr (t + 1) := rfl
    rw [hr] at st
    unfold f_X12_passesDay_B49
    simp (disch := omega) only [n1, Sat_bdI, bnd_e, grd_t, bdI_e, bdV_e, bokA, bokB, ni_inb, ni_cl, nI_add, pk_mul, li_2, li_3, li_4, li_5, li_6, li_7, li_8, li_9, li_10, li_11, li_12, li_13, li_14, li_15, li_16, li_17, li_18, li_19, li_20, li_21, li_22, li_23, li_24, li_25, li_26, li_27, li_28, li_29, li_30, li_31, li_32, li_33, li_34, li_35, li_36, li_37, li_38, li_39, li_40, li_41, li_42, li_43, li_44, li_45, li_46, li_47, li_48, li_49, li_50, li_51, li_52, li_53, li_54, li_55, li_56, li_57, li_58, li_59, li_60, li_61, li_63, li_70, li_96, li_97, li_99, li_100, li_101, li_102, li_120, li_122, li_126, li_200, li_255, li_423, li_555, li_999, li_1000, li_1111, li_2968, li_9999, li_10631, li_12345, li_14092, li_21470, li_65536, li_99233, nz_eq, n1_eq, n1_lt, n1_gt, n1_le, n1_ge, n1_sub, n1_add, nm_add, nz_add, nz_add2, z1_ne, z1_lt, z1_le, nI_1, pk_sub, nI_ltI, nI_leI, nI_eq, ni_neg, ni_nneg, ni_pos0, ni_nle0, ni_m1, gI_eq, gI_ne, xI_sJ, xI_sR, xR_sI, xR_sJ, xJ_sI, xJ_sR, gJ_eq, gJ_ne, gR_eq, gR_ne, if_true, if_false, ite_true, ite_false, not_true_eq_false, not_false_eq_true, decide_true, and_self, true_and, and_true, false_and, and_false, or_true, true_or, or_false, false_or, reduceIte, ne_eq]
    refine st.mono ?_
    intro q ⟨r1, r2, r3⟩
    rw [r1]
    exact hk _ _ ⟨rfl, r2, c3.trans r3⟩
  · intro a n k ⟨c1, c2, c3⟩
    have okd := okR hE hwr 60 (Nat.le_refl _)
    have e35 : gI n 35 0 = gI m 35 0 := c3.1 _ _ (by unfold WMd; omega)
    have dd : dyD E wr = dB E 60 false (dyR E wr 60) := rfl
    rw [dd]
    generalize dyR E wr 60 = d at c1 c2 okd
    clear dd
    subst c1
    unfold f_X12_passesDay_B49 f_X12_passesDay_J80
    have fin : ∀ n', DyM E 60 (dB E 60 false d) n' → Kp WMd m n' → gI n' 35 0 = gI m 35 0 → Sat (bnd (sI n' 35 0 (gI n' 35 0 + 1)) fun m17 => some (gI m17 0 63, m17)) (fun q => q.1 = djy (dB E 60 false d) ∧ DyM E 60 (dB E 60 false d) q.2 ∧ gI q.2 35 0 = gI m 35 0 + 1 ∧ Kp (fun a k => WMd a k ∨ (a = 35 ∧ k = 0)) m q.2) := by
      intro n' h1 h2 h3
      generalize dB E 60 false d = d' at h1
      rw [bnd_e, h3]
      obtain ⟨b1, b2, b3, b4, b5, b6, b7⟩ := h1
      refine (Sat_some _ _).mpr ⟨?_, ⟨fun p hp => ?_, fun p hp => ⟨?_, ?_⟩, fun k hk => ?_, ?_, ?_, fun h7 => ?_, fun s hs => ?_⟩, gI_eq _ _ _ _ _ _ rfl rfl, (h2.mono (fun a k q => Or.inl q)).sI _ (Or.inr ⟨rfl, rfl⟩)⟩
      · rw [gI_ne _ _ _ _ _ _ (by omega)]; exact b4
      · rw [gI_ne _ _ _ _ _ _ (by omega)]; exact b1 p hp
      · rw [gI_ne _ _ _ _ _ _ (by omega)]; exact (b2 p hp).1
      · rw [gI_ne _ _ _ _ _ _ (by omega)]; exact (b2 p hp).2
      · rw [gI_ne _ _ _ _ _ _ (by omega)]; exact b3 k hk
      · rw [gI_ne _ _ _ _ _ _ (by omega)]; exact b4
      · rw [gI_ne _ _ _ _ _ _ (by omega)]; exact b5
      · rw [gI_ne _ _ _ _ _ _ (by omega)]; exact b6 h7
      · rw [gI_ne _ _ _ _ _ _ (by omega)]; exact b7 s hs
    obtain ⟨L, pl, bg, en, wr', wn, sm, jy, bn, pa⟩ := d
    obtain ⟨b1, b2, b3, b4, b5, b6, b7⟩ := (show DyMr E 60 L pl bg en wr' sm jy bn pa n from c2)
    show Sat (if nI 60 ≤ nI 60 then (if pI pl < 0 then _ else _) else _) _
    rw [if_pos (show nI 60 ≤ nI 60 by decide)]
    by_cases p7 : pl = 7
    · rw [if_pos (by rw [p7, pI_7]; decide)]
      refine fin n ?_ c3 e35
      rw [dB_no (fun q => q.1 p7)]
      exact c2
    · have pk : pl ≤ 7 := pl_ok hE okd
      have p7' : pl < 7 := by omega
      have pe : pI (dpl (L, pl, bg, en, wr', wn, sm, jy, bn, pa)) = nI pl := pI_n p7
      have pe' : pI pl = nI pl := pI_n p7
      rw [if_neg (by rw [pe']; exact nI_pos (by omega)), pe, ni_inb p7' (by decide), grd_t, ni_cl _ (by omega), bnd_e]
      refine fin (sI n 44 pl (nI 60)) ?_ (c3.sI _ (by unfold WMd; omega)) (by simp (disch := omega) only [bnd_e, grd_t, bdI_e, bdV_e, bokA, bokB, ni_inb, ni_cl, nI_add, pk_mul, li_2, li_3, li_4, li_5, li_6, li_7, li_8, li_9, li_10, li_11, li_12, li_13, li_14, li_15, li_16, li_17, li_18, li_19, li_20, li_21, li_22, li_23, li_24, li_25, li_26, li_27, li_28, li_29, li_30, li_31, li_32, li_33, li_34, li_35, li_36, li_37, li_38, li_39, li_40, li_41, li_42, li_43, li_44, li_45, li_46, li_47, li_48, li_49, li_50, li_51, li_52, li_53, li_54, li_55, li_56, li_57, li_58, li_59, li_60, li_61, li_63, li_70, li_96, li_97, li_99, li_100, li_101, li_102, li_120, li_122, li_126, li_200, li_255, li_423, li_555, li_999, li_1000, li_1111, li_2968, li_9999, li_10631, li_12345, li_14092, li_21470, li_65536, li_99233, nz_eq, n1_eq, n1_lt, n1_gt, n1_le, n1_ge, n1_sub, n1_add, nm_add, nz_add, nz_add2, z1_ne, z1_lt, z1_le, nI_1, pk_sub, nI_ltI, nI_leI, nI_eq, ni_neg, ni_nneg, ni_pos0, ni_nle0, ni_m1, gI_eq, gI_ne, xI_sJ, xI_sR, xR_sI, xR_sJ, xJ_sI, xJ_sR, gJ_eq, gJ_ne, gR_eq, gR_ne, if_true, if_false, ite_true, ite_false, not_true_eq_false, not_false_eq_true, decide_true, and_self, true_and, and_true, false_and, and_false, or_true, true_or, or_false, false_or, reduceIte, ne_eq]; exact e35)
      rw [dB_yes ⟨p7, Or.inl rfl⟩]
      show DyMr E 60 L 7 bg (fun p => if p = pl then nI 60 else en p) wr' sm jy bn pa _
      refine ⟨fun p hp => ?_, fun p hp => ⟨?_, ?_⟩, fun k hk => ?_, ?_, ?_, fun h7 => absurd rfl h7, fun s hs => ?_⟩
      · rw [gI_ne _ _ _ _ _ _ (by omega)]; exact b1 p hp
      · rw [gI_ne _ _ _ _ _ _ (by omega)]; exact (b2 p hp).1
      · show _ = (if p = pl then nI 60 else en p)
        by_cases z : p = pl
        · subst z
          rw [gI_eq _ _ _ _ _ _ rfl rfl, if_pos rfl]
        · rw [gI_ne _ _ _ _ _ _ (by omega), if_neg z]
          exact (b2 p hp).2
      · rw [gI_ne _ _ _ _ _ _ (by omega)]; exact b3 k hk
      · rw [gI_ne _ _ _ _ _ _ (by omega)]; exact b4
      · rw [gI_ne _ _ _ _ _ _ (by omega)]; exact b5
      · rw [gI_ne _ _ _ _ _ _ (by omega)]; exact b7 s hs
