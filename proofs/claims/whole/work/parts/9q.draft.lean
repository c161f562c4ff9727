/-! the line of a law -/
theorem getD_at {g : List Nat} {i : Nat} (hi : i < g.length) : g.getD i 0 = g[i] := by
  rw [List.getD_eq_getElem?_getD, List.getElem?_eq_getElem hi]
  rfl
theorem getD_mapI {g : List Nat} {i : Nat} (hi : i < g.length) : (g.map nI).getD i 0 = nI (g.getD i 0) := by
  rw [List.getD_eq_getElem?_getD, List.getElem?_map, getD_at hi, List.getElem?_eq_getElem hi]
  rfl
theorem readsE {m : Mm} : f_X12_reads m = rdL 4000 (nI 0) 1 (sI m 17 0 0) := by
  have nb0 : vp_nar .boolean 0 = 0 := Eq.trans rfl (Eq.refl _)
  unfold f_X12_reads
  rw [nb0, bnd_e]
  rfl
theorem exprE {b : Nat} {m : Mm} : f_X5_expression b 0 0 m = (F_X5 (56 + 4)).1 b (nI 0) (nI 0) m := rfl
theorem lawL {T : Nat → Nat} {n s l b cp : Nat} {d : Tk} {mP mM : Mm} {x : Int32} {told : Bool} (hT : TpOK T n) (ok : TkOK T n d) (hP : RdP T n d mP) (hM : RdM T n d mM) (hs : s = 4 ∨ s = 34) (hl : l < 2) (hb : b = s + 10 + 3 * l) (l1 : Lp.2.1 (b + 1) = 1000) (hk : ctk T d = 12 + l) (hk0 : tkK d ≠ 0) (hx : gI mP s 13 = x) (h1 : (x &&& ((1 : Int32) <<< (nI (12 + l) &&& 31))) = 0 ↔ told = false) (hL : DfL l b told cp mP mM) (h24 : gI mM 0 24 = nI (1000 + cp)) (hcp : cp ≤ tkb d) (hfl : gI mP b 2 = bO (decide (l = 0))) : S2 (bdI (f_X5_toldFirst s mP) fun x10 m9 => if x10 = 0 then (grd (bok ((0))) (some ((0), m9))) else (bdI (f_X5_expression b ((0)) ((0)) m9) fun x12 m11 => if x12 = 0 then (grd (bok ((0))) (some ((0), m11))) else (bdI (f_X5_take (nI 59) m11) fun x14 m13 => if x14 = 0 then (grd (bok ((0))) (some ((0), m13))) else (grd (bok ((1))) (some ((1), m13)))))) (f_X12_readsLaw (nI l) mM) (OuD T n (tkb d) s (fun d' a c => gI a s 13 = (x ||| ((1 : Int32) <<< (nI (12 + l) &&& 31))) ∧ ∃ cp', cp ≤ cp' ∧ cp' ≤ tkb d' ∧ gI c 0 24 = nI (1000 + cp') ∧ DfL l b true cp' a c ∧ Kp (fun a k => WRP a k ∨ (a = s ∧ k = 13) ∨ (a = b ∧ k = 3) ∨ a = b + 1) mP a ∧ Kp (fun a k => WRM a k ∨ (a = 0 ∧ 24 ≤ k ∧ k ≤ 25) ∨ ((a = 13 ∨ a = 14) ∧ k = 2 + l) ∨ (a = 15 ∧ 1000 + cp ≤ k) ∨ a = 16 ∨ a = 17) mM c) mP mM) := by
  have n0 := hT.1
  have bn := ok.1
  have ne1 : ¬ (1 : Int32) = 0 := by decide
  obtain ⟨c, cM, a, lwP, ⟨m1, m2, m3, m4⟩, lwE, acp, tl⟩ := hL
  have e2l : (2 : Int32) + nI l = nI (2 + l) := nI_add 2 l
  have ib : inb (nI (2 + l)) 4 = true := ni_inb (by omega) (by decide)
  have cl : (nI (2 + l)).toNatClampNeg = 2 + l := ni_cl _ (by omega)
  unfold f_X12_readsLaw
  simp only [e2l, ib, grd_t, cl, bnd_e]
  rw [m2, m3]
  by_cases z : told = true
  · have lp : 0 < cM.length := List.length_pos_iff.mpr (tl.mp z)
    rw [toldP1 hP hk hx (fun q => by rw [h1.mp q] at z; cases z), bdI_e, if_pos rfl, if_neg (fun q => absurd ((nI_leI (by omega) (by omega)).mp q) (by omega))]
    have e2 : f_X12_fails 3 mM = some (0, sI mM 0 9 (nI (3 + 16 * tkb d))) := failsE hM 3
    rw [e2, bdI_e]
    exact ⟨_, _, rfl, rfl, OuD.bad hT ok hs (by omega) (Kp.refl _) (Kp.refl _)⟩
  · have zf : told = false := Bool.eq_false_iff.mpr z
    have cM0 : cM = [] := Decidable.byContradiction (fun q => z (tl.mpr q))
    have c0 : c = [] := lwE.1.mpr cM0
    subst cM0
    subst c0
    obtain ⟨nP, eP, r1, x', kP⟩ := toldP2 hT ok hs hP hk hx (h1.mpr zf)
    rw [eP, bdI_e, if_neg ne1, if_pos (show nI (1000 + a + ([] : List Int32).length) ≤ nI (1000 + a) from Int32.le_refl _)]
    have hM1 : RdM T n d (sI mM 0 25 (nI l)) := hM.kp (fun a k h => gI_ne _ _ _ _ _ _ (by omega)) rfl
    obtain ⟨nM, eM, r2, kM0⟩ := adv_M hT ok hM1
    have q24 : gI nM 0 24 = nI (1000 + cp) := ((kM0.1 _ _ (by omega)).trans (gI_ne _ _ _ _ _ _ (by omega))).trans h24
    have q25 : gI nM 0 25 = nI l := (kM0.1 _ _ (by omega)).trans (gI_eq _ _ _ _ _ _ rfl rfl)
    rw [eM, bdV_e, q24, readsE]
    have tok := tk_ok (T := T) ok.2.1
    have kb := ok.2.2.2.2.1 hk0
    have tn1 := tok.1.1
    have kM1 : Kp (fun a k => WRM a k ∨ (a = 0 ∧ 24 ≤ k ∧ k ≤ 25) ∨ ((a = 13 ∨ a = 14) ∧ k = 2 + l) ∨ (a = 15 ∧ 1000 + cp ≤ k) ∨ a = 16 ∨ a = 17) mM (sI (sI nM 13 (2 + l) (nI (1000 + cp))) 17 0 0) := ((((Kp.refl mM).sI _ (by omega)).trans (kM0.mono (fun a k q => by unfold WRM; omega))).sI _ (by omega)).sI _ (by omega)
    have kP1 : Kp (fun a k => WRP a k ∨ (a = s ∧ k = 13) ∨ (a = b ∧ k = 3) ∨ a = b + 1) mP nP := kP.mono (fun a k h => by unfold WRP at h ⊢; omega)
    have hM2 : RdM T n (tk T n (tke d)) (sI (sI nM 13 (2 + l) (nI (1000 + cp))) 17 0 0) := r2.kp (fun a k h => (gI_ne _ _ _ _ _ _ (by omega)).trans (gI_ne _ _ _ _ _ _ (by omega))) rfl
    have p24 : gI (sI (sI nM 13 (2 + l) (nI (1000 + cp))) 17 0 0) 0 24 = nI (1000 + cp) := ((gI_ne _ _ _ _ _ _ (by omega)).trans (gI_ne _ _ _ _ _ _ (by omega))).trans q24
    have p25 : gI (sI (sI nM 13 (2 + l) (nI (1000 + cp))) 17 0 0) 0 25 = nI l := ((gI_ne _ _ _ _ _ _ (by omega)).trans (gI_ne _ _ _ _ _ _ (by omega))).trans q25
    have p17 : gI (sI (sI nM 13 (2 + l) (nI (1000 + cp))) 17 0 0) 17 0 = 0 := gI_eq _ _ _ _ _ _ rfl rfl
    have p13 : gI (sI (sI nM 13 (2 + l) (nI (1000 + cp))) 17 0 0) 13 (2 + l) = nI (1000 + cp) := (gI_ne _ _ _ _ _ _ (by omega)).trans (gI_eq _ _ _ _ _ _ rfl rfl)
    generalize sI (sI nM 13 (2 + l) (nI (1000 + cp))) 17 0 0 = mM2 at kM1 hM2 p24 p25 p17 p13
    have lw0 : LwP [] b nP := lwP.keep (kP.1 _ _ (by unfold WRP; omega)) (fun k => kP.1 _ _ (by unfold WRP; omega))
    have hJ : PJ T n l b (1000 + cp) (tk T n (tke d)) [] [] nP mM2 := ⟨⟨tok.1, r1, lw0, Nat.zero_le _, (kP.1 _ _ (by unfold WRP; omega)).trans hfl, l1, by omega⟩, ⟨tok.1, hM2, p25, p24, by show 1000 + cp + 0 < 2000; omega⟩, fun i hi => absurd hi (Nat.not_lt_zero _), by show 1000 + cp + 0 < 1000 + _; omega, by omega⟩
    have hx := exprT (b := b) hT (by decide) (partAll (b := b) hT hl 5 0 56 rfl (by decide))
    rw [exprE]
    have wP : ∀ a k, WRP a k ∨ (a = s ∧ k = 13) ∨ (a = b ∧ k = 3) ∨ a = b + 1 → WSt s a k := fun a k h => by unfold WRP at h; unfold WSt WRP; omega
    have wM : ∀ a k, WRM a k ∨ (a = 0 ∧ 24 ≤ k ∧ k ≤ 25) ∨ ((a = 13 ∨ a = 14) ∧ k = 2 + l) ∨ (a = 15 ∧ 1000 + cp ≤ k) ∨ a = 16 ∨ a = 17 → XSt a k := fun a k h => by unfold WRM at h; unfold XSt WRM; omega
    have uP : ∀ a k, WLp b a k → WRP a k ∨ (a = s ∧ k = 13) ∨ (a = b ∧ k = 3) ∨ a = b + 1 := fun a k h => by unfold WLp WRP at h; unfold WRP; omega
    have uM : ∀ a k, WMl (1000 + cp + 0) 0 0 a k → WRM a k ∨ (a = 0 ∧ 24 ≤ k ∧ k ≤ 25) ∨ ((a = 13 ∨ a = 14) ∧ k = 2 + l) ∨ (a = 15 ∧ 1000 + cp ≤ k) ∨ a = 16 ∨ a = 17 := fun a k h => by unfold WMl at h; unfold WRM; omega
    rcases hx (1000 + cp) _ [] [] nP mM2 hJ (Or.inl rfl) (fun _ => p17) with bad | gd
    · obtain ⟨nP2, nM2, b1, b2, b3, b4, b5, b6⟩ := bad
      have b2' : rdL 4000 (nI 0) 1 mM2 = some (0, nM2) := b2 4000 (by omega)
      rw [b1, b2', bdI_e, bdI_e, if_pos rfl, if_neg (fun r => r rfl)]
      exact ⟨_, _, rfl, rfl, OuD.no ((kP1.trans (b5.mono uP)).mono wP) ((kM1.trans (b6.mono uM)).mono wM) b3 b4⟩
    · obtain ⟨nP2, nM2, d2, cP, gM, v, t, g1, g2, ⟨hJ2, c1, c2, c3, c4, c5, c6, c7⟩, g3, g4, g5, g6, g7⟩ := gd
      rw [List.nil_append, List.nil_append] at hJ2
      obtain ⟨hP2, hM2', hc2, hb2, hcb2⟩ := id hJ2
      obtain ⟨ok2, rP2, lw2, cl2, fl2, -, -⟩ := id hP2
      have rM2 := hM2'.2.1
      have m24 := hM2'.2.2.2.1
      have tn2 := ok2.1
      have cb2 := ctk_b ok2
      obtain ⟨⟨⟨x1, x2, x3⟩, x4⟩, x5, x6⟩ := g5
      have g2' : rdL (4000 - t - 1 + 1 + t) (nI 0) 1 mM2 = rdL (4000 - t - 1 + 1) (nI 0) 0 nM2 := g2 _
      rw [rdL_s (4000 - t - 1) (nI 0) 0 nM2, show 4000 - t - 1 + 1 + t = 4000 by omega, mEnd hT hM2' (by decide) x2 x3 x1 x4 x5 x6 (Or.inr rfl)] at g2'
      have kP2 := kP1.trans (g6.mono uP)
      have kM2 := kM1.trans (g7.mono uM)
      rw [g1, bdI_e, if_neg ne1]
      by_cases w : isG T d2 59 = true
      · rw [if_pos ⟨rfl, w⟩] at g2'
        have q3 := of_decide_eq_true w
        have kb2 := ok2.2.2.2.2.1 (by omega)
        have tok2 := tk_ok (T := T) (n := n) ok2.2.1
        have tn3 := tok2.1.1
        have a2 : ctk T d2 = 59 := (sgT (by decide)).mpr w
        obtain ⟨nP3, ea3, r7, r8⟩ := adv_P hT ok2 rP2
        obtain ⟨nM3, em3, r9, r10⟩ := adv_M hT ok2 rM2
        have tk59 : f_X5_take (nI 59) nP2 = some (1, nP3) := by
          unfold f_X5_take
          simp (disch := omega) only [rP2.2.2.2.1, a2, ea3, bnd_e, grd_t, bdI_e, bdV_e, bokA, bokB, ni_inb, ni_cl, nI_add, pk_mul, li_2, li_3, li_4, li_5, li_6, li_7, li_8, li_9, li_10, li_11, li_12, li_13, li_14, li_15, li_16, li_17, li_18, li_19, li_20, li_21, li_22, li_23, li_24, li_25, li_26, li_27, li_28, li_29, li_30, li_31, li_32, li_33, li_34, li_35, li_36, li_37, li_38, li_39, li_40, li_41, li_42, li_43, li_44, li_45, li_46, li_47, li_48, li_49, li_50, li_51, li_52, li_53, li_54, li_55, li_56, li_57, li_58, li_59, li_60, li_61, li_63, li_70, li_96, li_97, li_99, li_100, li_101, li_102, li_120, li_122, li_126, li_200, li_255, li_423, li_555, li_999, li_1000, li_1111, li_2968, li_9999, li_10631, li_12345, li_14092, li_21470, li_65536, li_99233, nz_eq, n1_eq, n1_lt, n1_gt, n1_le, n1_ge, n1_sub, n1_add, nm_add, nz_add, nz_add2, z1_ne, z1_lt, z1_le, nI_1, pk_sub, nI_ltI, nI_leI, nI_eq, ni_neg, ni_nneg, ni_pos0, ni_nle0, ni_m1, gI_eq, gI_ne, xI_sJ, xI_sR, xR_sI, xR_sJ, xJ_sI, xJ_sR, gJ_eq, gJ_ne, gR_eq, gR_ne, if_true, if_false, ite_true, ite_false, not_true_eq_false, not_false_eq_true, decide_true, and_self, true_and, and_true, false_and, and_false, or_true, true_or, or_false, false_or, reduceIte, ne_eq]
        have q24' : gI nM3 0 24 = nI (1000 + cp + gM.length) := (r10.1 _ _ (by omega)).trans m24
        rw [tk59, g2', em3, bdV_e, bdI_e, bdI_e, if_neg ne1, if_pos ne1, q24']
        have kP3 := kP2.trans (r8.mono (fun a k q => Or.inl (by unfold WRP; omega)))
        have kM3 := (kM2.trans (r10.mono (fun a k q => Or.inl (by unfold WRM; omega)))).sI (a := 14) (k := 2 + l) (nI (1000 + cp + gM.length)) (by omega)
        refine ⟨(1, nP3), (1, sI nM3 14 (2 + l) (nI (1000 + cp + gM.length))), rfl, rfl, kP3.mono wP, kM3.mono wM, Or.inr ⟨rfl, rfl, tk T n (tke d2), tok2.1, by omega, r7, r9.kp (fun a k h => gI_ne _ _ _ _ _ _ (by omega)) rfl, ?_, cp + gM.length, by omega, by omega, ?_, ⟨cP, gM.map nI, cp, lw2.keep (r8.1 _ _ (by omega)) (fun k => r8.1 _ _ (by omega)), ⟨?_, ?_, ?_, fun i hi => ?_⟩, LwEq.mk hl c3 (by decide) g4.1 g4.2 (by decide) c4 c5 c6 (fun i hi => ?_), ?_, ⟨fun _ q => c6 (List.map_eq_nil_iff.mp q), fun _ => rfl⟩⟩, kP3, kM3⟩⟩
        · rw [r8.1 _ _ (by omega), g6.1 _ _ (by unfold WLp WRP; omega)]
          exact x'
        · rw [gI_ne _ _ _ _ _ _ (by omega), q24', Nat.add_assoc]
        · rw [List.length_map]
          omega
        · rw [gI_ne _ _ _ _ _ _ (by omega), r10.1 _ _ (by omega), g7.1 _ _ (by unfold WMl; omega)]
          exact p13
        · rw [gI_eq _ _ _ _ _ _ rfl rfl, List.length_map]
        · rw [List.length_map] at hi
          rw [gI_ne _ _ _ _ _ _ (by omega), r10.1 _ _ (by omega), hc2 i hi, getD_mapI hi]
        · rw [getD_at hi]
          exact c7 _ (List.getElem_mem hi)
        · rw [List.length_map]
          exact Nat.le_refl _
      · rw [if_neg (fun q => w q.2)] at g2'
        have a2 : ¬ ctk T d2 = 59 := fun q => w ((sgT (by decide)).mp q)
        have tk59 : f_X5_take (nI 59) nP2 = some (0, sI nP2 3 2 (nI (1 + 16 * tkb d2))) := by
          have e1 : f_X5_wrong 1 nP2 = some (0, sI nP2 3 2 (nI (1 + 16 * tkb d2))) := wrongE rP2 1
          unfold f_X5_take
          simp (disch := omega) only [rP2.2.2.2.1, a2, e1, bnd_e, grd_t, bdI_e, bdV_e, bokA, bokB, ni_inb, ni_cl, nI_add, pk_mul, li_2, li_3, li_4, li_5, li_6, li_7, li_8, li_9, li_10, li_11, li_12, li_13, li_14, li_15, li_16, li_17, li_18, li_19, li_20, li_21, li_22, li_23, li_24, li_25, li_26, li_27, li_28, li_29, li_30, li_31, li_32, li_33, li_34, li_35, li_36, li_37, li_38, li_39, li_40, li_41, li_42, li_43, li_44, li_45, li_46, li_47, li_48, li_49, li_50, li_51, li_52, li_53, li_54, li_55, li_56, li_57, li_58, li_59, li_60, li_61, li_63, li_70, li_96, li_97, li_99, li_100, li_101, li_102, li_120, li_122, li_126, li_200, li_255, li_423, li_555, li_999, li_1000, li_1111, li_2968, li_9999, li_10631, li_12345, li_14092, li_21470, li_65536, li_99233, nz_eq, n1_eq, n1_lt, n1_gt, n1_le, n1_ge, n1_sub, n1_add, nm_add, nz_add, nz_add2, z1_ne, z1_lt, z1_le, nI_1, pk_sub, nI_ltI, nI_leI, nI_eq, ni_neg, ni_nneg, ni_pos0, ni_nle0, ni_m1, gI_eq, gI_ne, xI_sJ, xI_sR, xR_sI, xR_sJ, xJ_sI, xJ_sR, gJ_eq, gJ_ne, gR_eq, gR_ne, if_true, if_false, ite_true, ite_false, not_true_eq_false, not_false_eq_true, decide_true, and_self, true_and, and_true, false_and, and_false, or_true, true_or, or_false, false_or, reduceIte, ne_eq]
        rw [tk59, g2', bdI_e, bdI_e, if_pos rfl, if_neg (fun r => r rfl)]
        exact ⟨_, _, rfl, rfl, OuD.bad hT ok2 hs (by omega) (kP2.mono wP) (kM2.mono wM)⟩
