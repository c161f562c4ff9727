/-! a passer's tune, his kind, his line -/
theorem passTu {T : Nat → Nat} {n s k q b0 kd : Nat} {R : List Nat} {C : Nat → Nat → Nat} {NT NP : Nat → List Nat} {d : Tk} {aP aM mP0 mM0 : Mm} (hT : TpOK T n) (ok : TkOK T n d) (hP : RdP T n d aP) (hM : RdM T n d aM) (hA : DfA C NT NP s mP0 mM0) (hk : k = C 0 1) (k7 : k < 7) (hq : q = s + 9 + (7 + 2 * k)) (hb : b0 ≤ tkb d) (oR : okL R) (R8 : R.length ≤ 8) (hkd : kd ≤ 3) (kP : Kp (WPa s q) mP0 aP) (kM : Kp (XPa k) mM0 aM) (p7 : gI aP s 7 = nI (k + 1)) (p3 : gI aP q 3 = nI kd) (pj : gJ aP q 2 = nJ (encR 32 R)) (m8 : gI aM 2 8 = nI k) (n7 : gI aM 7 (7 + k) = nI kd) : S2 (bdI (ptC s q aP) wEn) (ptM (nI (7 + k)) (nJ (encR 27 R)) aM) (OuD T n b0 s (GPa NT s mP0 mM0) mP0 mM0) := by
  have hs := hA.2.1
  have ne1 : ¬ (1 : Int32) = 0 := by decide
  obtain ⟨hC, -, q1, q2, q3, n1, n2, n3, t1, t2⟩ := id hA
  have c1 := hC.1
  have c2 := hC.2.1
  have h18 := hC.2.2.2.2.2.2.2.1
  have kPw := kP.mono (fun a i h => h.w hq k7)
  have kMx := kM.mono (fun a i h => h.x)
  have iN := isNameP ok hP
  have iK := isKeptM ok hM
  have ib : inb (nI (7 + k)) 14 = true := ni_inb (by omega) (by decide)
  have cl : (nI (7 + k)).toNatClampNeg = 7 + k := ni_cl _ (by omega)
  unfold ptC ptM f_X5_takeTune
  by_cases z : tkK d = 1 ∧ 23 ≤ wid (tkR d)
  · rw [show nam d = true from decide_eq_true z, show bO true = 1 from rfl] at iN
    rw [show nam d = true from decide_eq_true z, show bO (!true) = 0 from rfl] at iK
    obtain ⟨oS, S8⟩ := ok.2.2.2.2.2.1 z.1
    have gP := hP.2.2.2.2.1 z.1
    have gM := hM.2.2.2.2.1 z.1
    have e6 : gI aP s 6 = nI (C 0 0) := (kP.1 _ _ (by unfold WPa WRP; omega)).trans (q1 0 (by decide))
    have e7 : gI aM 2 7 = nI (C 0 0) := (kM.1 _ _ (by unfold XPa WRM; omega)).trans (n1 0 (by decide))
    have eT : f_X7_tuneNamed s (nJ (encR 32 (tkR d))) aP = some (ixI (C 0 0) (nIx NT (tkR d) (C 0 0) 0), aP) := tnP (NT := NT) c1 hs e6 (fun t ht => ⟨(t1 t ht).1, (t1 t ht).2.1, (kP.2.1 _ _ (by unfold WPa WRP; omega)).trans (t1 t ht).2.2.1⟩) oS S8 (C 0 0) 0 4000 (by omega) (by omega)
    have eTM : f_X12_tuneNamed aM = some (ixI (C 0 0) (nIx NT (tkR d) (C 0 0) 0), aM) := tnM (NT := NT) c1 e7 gM (fun t ht => ⟨(t1 t ht).1, (t1 t ht).2.1, (kM.2.1 _ _ (by unfold XPa WRM; omega)).trans (t1 t ht).2.2.2⟩) oS S8 (C 0 0) 0 4000 (by omega) (by omega)
    have lT := nIx_le NT (tkR d) (C 0 0) 0
    have iT := ixI_neg (k := C 0 0) (i := nIx NT (tkR d) (C 0 0) 0) (by omega) (by omega)
    generalize nIx NT (tkR d) (C 0 0) 0 = tu at eT eTM lT iT
    rw [iN, iK, bdI_e, bdI_e, if_pos ne1, if_pos rfl, gP, eT, eTM, bdI_e, bdI_e]
    simp only [bnd_e, ib, grd_t, cl]
    rw [gI_eq _ _ _ _ _ _ rfl rfl]
    by_cases y : tu = C 0 0
    · rw [if_pos (iT.1.mpr y), if_neg (fun r => iT.2.2.mp r y)]
      have hM1 : RdM T n d (sI aM 8 (7 + k) (ixI (C 0 0) tu)) := hM.kp (fun a i h => gI_ne _ _ _ _ _ _ (by omega)) rfl
      have e1 : f_X5_wrong 2 aP = some (0, sI aP 3 2 (nI (2 + 16 * tkb d))) := wrongE hP 2
      have e2 : f_X12_fails 2 (sI aM 8 (7 + k) (ixI (C 0 0) tu)) = some (0, sI (sI aM 8 (7 + k) (ixI (C 0 0) tu)) 0 9 (nI (2 + 16 * tkb d))) := failsE hM1 2
      unfold f_X5_takeTune_J34
      rw [e1, e2, bdI_e, bdI_e, show grd (bok (0 : Int32)) (some ((0 : Int32), sI aP 3 2 (nI (2 + 16 * tkb d)))) = some (0, sI aP 3 2 (nI (2 + 16 * tkb d))) from rfl, bdI_e, if_neg (fun r => r rfl), show grd (bok (0 : Int32)) (some ((0 : Int32), sI aP 3 2 (nI (2 + 16 * tkb d)))) = some (0, sI aP 3 2 (nI (2 + 16 * tkb d))) from rfl, bdI_e, wEn_0]
      exact ⟨_, _, rfl, rfl, OuD.bad hT ok hs (by omega) kPw (kMx.sI _ (by unfold XSt; omega))⟩
    · have ti : ixI (C 0 0) tu = nI tu := if_neg y
      have tl : tu < C 0 0 := by omega
      obtain ⟨b1, b2, b3⟩ := h18 tu tl
      obtain ⟨d1, d2⟩ := q2 tu tl
      have l2 : Lp.2.1 (s + 2) = 5 := by rcases hs with rfl | rfl <;> rfl
      have l3 : Lp.2.1 (s + 3) = 5 := by rcases hs with rfl | rfl <;> rfl
      have l4 : Lp.2.1 (s + 3 + (1 + tu)) = 9 := by
        rcases (by omega : tu = 0 ∨ tu = 1 ∨ tu = 2 ∨ tu = 3 ∨ tu = 4) with rfl | rfl | rfl | rfl | rfl <;> rcases hs with rfl | rfl <;> rfl
      have l5 : Lp.2.1 (q + 1) = 18 := by
        rw [hq]
        rcases (by omega : k = 0 ∨ k = 1 ∨ k = 2 ∨ k = 3 ∨ k = 4 ∨ k = 5 ∨ k = 6) with w | w | w | w | w | w | w <;> rw [w] <;> rcases hs with rfl | rfl <;> rfl
      have g2 : gI (sI aP q 4 (nI tu)) (s + 2) tu = nI (C 1 tu) := (gI_ne _ _ _ _ _ _ (by omega)).trans ((kP.1 _ _ (by unfold WPa WRP; omega)).trans d1)
      have g3 : gI (sI aP q 4 (nI tu)) q 3 = nI kd := (gI_ne _ _ _ _ _ _ (by omega)).trans p3
      obtain ⟨nL, eL, x1, x2, kL⟩ := learnQ (h0 := q) (h1 := s + 3 + (1 + tu)) (len := C 1 tu) (kd := kd) (Ky := fun i => C 2 (9 * tu + i)) (m := sI aP q 4 (nI tu)) (by omega) l4 l5 ⟨b1, b2⟩ hkd g3 (fun i hi => (gI_ne _ _ _ _ _ _ (by omega)).trans ((kP.1 _ _ (by unfold WPa WRP; omega)).trans (d2 i hi))) rfl rfl
      have hPL : RdP T n d nL := hP.kp (fun a i h => (kL.1 _ _ (by omega)).trans (gI_ne _ _ _ _ _ _ (by omega))) (kL.2.1 _ _ (by omega))
      obtain ⟨nP, eP, r1, r2⟩ := adv_P hT ok hPL
      have hM1 : RdM T n d (sI aM 8 (7 + k) (nI tu)) := hM.kp (fun a i h => gI_ne _ _ _ _ _ _ (by omega)) rfl
      obtain ⟨nM, eM, r3, r4⟩ := adv_M hT ok hM1
      have kb := ok.2.2.2.2.1 (by omega)
      have tok := tk_ok (T := T) ok.2.1
      rw [if_neg (fun r => y (iT.1.mp r)), if_pos (iT.2.2.mpr y), ti, if_pos (show nI tu < 5 from (nI_ltI (b := 5) (by omega) (by decide)).mpr (by omega)), l3, ni_inb (show tu < 5 by omega) (by decide), grd_t, l2, ni_inb (show tu < 5 by omega) (by decide), grd_t, ni_cl _ (by omega), g2, eL, bdV_e, eP, bdV_e, eM, bdV_e, show grd (bok (1 : Int32)) (some ((1 : Int32), nP)) = some (1, nP) from rfl, bdI_e, if_pos ne1]
      have kPn : Kp (WPa s q) mP0 nP := ((kP.sI _ (by unfold WPa; omega)).trans (kL.mono (fun a i h => by unfold WPa; omega))).trans (r2.mono (fun a i h => by unfold WPa WRP; omega))
      have kMn : Kp (XPa k) mM0 nM := (kM.sI _ (by unfold XPa; omega)).trans (r4.mono (fun a i h => by unfold XPa WRM; omega))
      exact passV hT tok.1 r1 r3 hA hk k7 hq (by omega) oR R8 tl hkd rfl rfl kPn kMn (((r2.1 _ _ (by omega)).trans (kL.1 _ _ (by omega))).trans ((gI_ne _ _ _ _ _ _ (by omega)).trans p7)) (((r2.1 _ _ (by omega)).trans (kL.1 _ _ (by omega))).trans g3) (((r2.1 _ _ (by omega)).trans (kL.1 _ _ (by omega))).trans (gI_eq _ _ _ _ _ _ rfl rfl)) ((r2.1 _ _ (by omega)).trans x1) (fun i hi => (r2.1 _ _ (by omega)).trans (x2 i hi)) (((r2.2.1 _ _ (by omega)).trans (kL.2.1 _ _ (by omega))).trans pj) ((r4.1 _ _ (by omega)).trans ((gI_ne _ _ _ _ _ _ (by omega)).trans m8)) ((r4.1 _ _ (by omega)).trans ((gI_ne _ _ _ _ _ _ (by omega)).trans n7)) ((r4.1 _ _ (by omega)).trans (gI_eq _ _ _ _ _ _ rfl rfl))
  · rw [show nam d = false from decide_eq_false z, show bO false = 0 from rfl] at iN
    rw [show nam d = false from decide_eq_false z, show bO (!false) = 1 from rfl] at iK
    have e1 : f_X5_wrong 1 aP = some (0, sI aP 3 2 (nI (1 + 16 * tkb d))) := wrongE hP 1
    have e2 : f_X12_fails 1 aM = some (0, sI aM 0 9 (nI (1 + 16 * tkb d))) := failsE hM 1
    rw [iN, iK, bdI_e, bdI_e, if_neg (fun r => r rfl), if_neg ne1, e1, e2, bdI_e, bdI_e, show grd (bok (0 : Int32)) (some ((0 : Int32), sI aP 3 2 (nI (1 + 16 * tkb d)))) = some (0, sI aP 3 2 (nI (1 + 16 * tkb d))) from rfl, bdI_e, if_neg (fun r => r rfl), show grd (bok (0 : Int32)) (some ((0 : Int32), sI aP 3 2 (nI (1 + 16 * tkb d)))) = some (0, sI aP 3 2 (nI (1 + 16 * tkb d))) from rfl, bdI_e, wEn_0]
    exact ⟨_, _, rfl, rfl, OuD.bad hT ok hs (by omega) kPw kMx⟩
theorem passK {T : Nat → Nat} {n s k q b0 kd : Nat} {R : List Nat} {C : Nat → Nat → Nat} {NT NP : Nat → List Nat} {d : Tk} {aP aM mP0 mM0 : Mm} (hT : TpOK T n) (ok : TkOK T n d) (hP : RdP T n d aP) (hM : RdM T n d aM) (hA : DfA C NT NP s mP0 mM0) (hk : k = C 0 1) (k7 : k < 7) (hq : q = s + 9 + (7 + 2 * k)) (hb : b0 ≤ tkb d) (oR : okL R) (R8 : R.length ≤ 8) (hkd : kd ≤ 3) (hd : tkK d = 1 ∧ wid (tkR d) = 16 + kd) (kP : Kp (WPa s q) mP0 aP) (kM : Kp (XPa k) mM0 aM) (p7 : gI aP s 7 = nI (k + 1)) (pj : gJ aP q 2 = nJ (encR 32 R)) (m8 : gI aM 2 8 = nI k) : S2 (bdI (pcC s q aP) wEn) (f_X12_readsPasser_J103 (nI (7 + k)) (nJ (encR 27 R)) (nI kd) (nI (7 + k)) aM) (OuD T n b0 s (GPa NT s mP0 mM0) mP0 mM0) := by
  have hs := hA.2.1
  have ne1 : ¬ (1 : Int32) = 0 := by decide
  have cd : ctk T d = 16 + kd := (ctk_w ok (by omega)).mpr hd
  have ib : inb (nI (7 + k)) 14 = true := ni_inb (by omega) (by decide)
  have cl : (nI (7 + k)).toNatClampNeg = 7 + k := ni_cl _ (by omega)
  have hP1 : RdP T n d (sI aP q 3 (nI kd)) := hP.kp (fun a i h => gI_ne _ _ _ _ _ _ (by omega)) rfl
  have hM1 : RdM T n d (sI aM 7 (7 + k) (nI kd)) := hM.kp (fun a i h => gI_ne _ _ _ _ _ _ (by omega)) rfl
  obtain ⟨nP, eP, r1, r2⟩ := adv_P hT ok hP1
  obtain ⟨nM, eM, r3, r4⟩ := adv_M hT ok hM1
  have kb := ok.2.2.2.2.1 (by omega)
  have tok := tk_ok (T := T) ok.2.1
  have kPn : Kp (WPa s q) mP0 nP := (kP.sI _ (by unfold WPa; omega)).trans (r2.mono (fun a i h => by unfold WPa WRP; omega))
  have kMn : Kp (XPa k) mM0 nM := (kM.sI _ (by unfold XPa; omega)).trans (r4.mono (fun a i h => by unfold XPa WRM; omega))
  have ek : f_X5_takeKind q aP = some (1, nP) := by
    have n16 : ¬ 16 + kd < 16 := by omega
    have l19 : 16 + kd ≤ 19 := by omega
    have s3 : nI (16 + kd) - nI 16 = nI kd := by rw [pk_sub (by omega), Nat.add_sub_cancel_left]
    unfold f_X5_takeKind
    simp (disch := omega) only [hP.2.2.2.1, cd, n16, l19, s3, eP, bnd_e, grd_t, bdI_e, bdV_e, bokA, bokB, ni_inb, ni_cl, nI_add, pk_mul, li_2, li_3, li_4, li_5, li_6, li_7, li_8, li_9, li_10, li_11, li_12, li_13, li_14, li_15, li_16, li_17, li_18, li_19, li_20, li_21, li_22, li_23, li_24, li_25, li_26, li_27, li_28, li_29, li_30, li_31, li_32, li_33, li_34, li_35, li_36, li_37, li_38, li_39, li_40, li_41, li_42, li_43, li_44, li_45, li_46, li_47, li_48, li_49, li_50, li_51, li_52, li_53, li_54, li_55, li_56, li_57, li_58, li_59, li_60, li_61, li_63, li_70, li_96, li_97, li_99, li_100, li_101, li_102, li_120, li_122, li_126, li_200, li_255, li_423, li_555, li_999, li_1000, li_1111, li_2968, li_9999, li_10631, li_12345, li_14092, li_21470, li_65536, li_99233, nz_eq, n1_eq, n1_lt, n1_gt, n1_le, n1_ge, n1_sub, n1_add, nm_add, nz_add, nz_add2, z1_ne, z1_lt, z1_le, nI_1, pk_sub, nI_ltI, nI_leI, nI_eq, ni_neg, ni_nneg, ni_pos0, ni_nle0, ni_m1, gI_eq, gI_ne, xI_sJ, xI_sR, xR_sI, xR_sJ, xJ_sI, xJ_sR, gJ_eq, gJ_ne, gR_eq, gR_ne, if_true, if_false, ite_true, ite_false, not_true_eq_false, not_false_eq_true, decide_true, and_self, true_and, and_true, false_and, and_false, or_true, true_or, or_false, false_or, reduceIte, ne_eq]
  rw [j103_e]
  unfold pcC
  have g7 : gI (sI aM 7 (7 + k) (nI kd)) 7 (7 + k) = nI kd := gI_eq _ _ _ _ _ _ rfl rfl
  rw [ek, bdI_e, if_neg ne1, ib, grd_t, cl, bnd_e, grd_t, g7, if_pos (nI_pos' (by omega)), eM, bdV_e]
  obtain ⟨r, r', e1, e2, h⟩ := takeWB (k := 2) hT tok.1 r1 r3 (by decide) kq_2
  have e1' : f_X5_take 2 nP = some r := e1
  rw [e1', e2, bdI_e, bdI_e]
  have kPr := kPn.trans (h.1.mono (fun a i u => Or.inl u))
  have kMr := kMn.trans (h.2.1.mono (fun a i u => Or.inl u))
  rcases h.2.2 with ⟨z1, z2, z3, z4⟩ | ⟨z1, z2, d2, o2, l2, s1, s2, g1, g2⟩
  · rw [z1, z2, if_pos rfl, if_neg (fun r => r rfl), show grd (bok (0 : Int32)) (some ((0 : Int32), r.2)) = some (0, r.2) from rfl, bdI_e, wEn_0]
    exact ⟨_, _, rfl, rfl, OuD.no (kPr.mono (fun a i h => h.w hq k7)) (kMr.mono (fun a i h => h.x)) z3 z4⟩
  · rw [z1, z2, if_neg ne1, if_pos ne1]
    exact passTu hT o2 s1 s2 hA hk k7 hq (by omega) oR R8 hkd kPr kMr ((h.1.1 _ _ (by unfold WRP; omega)).trans ((r2.1 _ _ (by omega)).trans ((gI_ne _ _ _ _ _ _ (by omega)).trans p7))) ((h.1.1 _ _ (by unfold WRP; omega)).trans ((r2.1 _ _ (by omega)).trans (gI_eq _ _ _ _ _ _ rfl rfl))) ((h.1.2.1 _ _ (by unfold WRP; omega)).trans ((r2.2.1 _ _ (by omega)).trans pj)) ((h.2.1.1 _ _ (by unfold WRM; omega)).trans ((r4.1 _ _ (by omega)).trans ((gI_ne _ _ _ _ _ _ (by omega)).trans m8))) ((h.2.1.1 _ _ (by unfold WRM; omega)).trans ((r4.1 _ _ (by omega)).trans g7))
