/-! the line of a passer, in pieces -/
noncomputable def pvC (q4 : Nat) (m12 : Mm) : Option (Int32 × Mm) :=
  bdI (f_X5_takeValue ((3)) ((0)) ((9)) m12) fun x15 m14 => if ¬ x15 = 0 then (bnd (sI m14 q4 5 (gI m14 3 1)) fun m16 => bdI (f_X5_takeValue ((4)) ((0)) ((9)) m16) fun x18 m17 => if ¬ x18 = 0 then (bnd (sI m17 q4 6 (gI m17 3 1)) fun m19 => bdI (f_X5_takeValue ((5)) ((1)) ((30)) m19) fun x21 m20 => if ¬ x21 = 0 then (bnd (sI m20 q4 7 (gI m20 3 1)) fun m22 => bdI (f_X5_takeValue ((6)) ((0)) ((59)) m22) fun x24 m23 => if ¬ x24 = 0 then (bnd (sI m23 q4 8 (gI m23 3 1)) fun m25 => grd (bok ((1))) (some ((1), m25))) else (grd (bok ((0))) (some ((0), m23)))) else (grd (bok ((0))) (some ((0), m20)))) else (grd (bok ((0))) (some ((0), m17)))) else (grd (bok ((0))) (some ((0), m14)))
noncomputable def ptC (h1 q4 : Nat) (m10 : Mm) : Option (Int32 × Mm) :=
  bdI (f_X5_takeTune h1 q4 m10) fun x13 m12 => if ¬ x13 = 0 then (pvC q4 m12) else (grd (bok ((0))) (some ((0), m12)))
noncomputable def pcC (h1 q4 : Nat) (m7 : Mm) : Option (Int32 × Mm) :=
  bdI (f_X5_takeKind q4 m7) fun x9 m8 => if x9 = 0 then (grd (bok ((0))) (some ((0), m8))) else (bdI (f_X5_take ((2)) m8) fun x11 m10 => if x11 = 0 then (grd (bok ((0))) (some ((0), m10))) else (ptC h1 q4 m10))
theorem passer_e (h1 : Nat) (mem : Mm) : f_X5_passerLine h1 mem = (if (gI mem h1 7) < 0 then (f_X5_passerLine_J16 h1 mem) else (if (gI mem h1 7) < ((7)) then (bdV (f_X9_advance  mem) fun m1 => bdI (f_X5_mayBeNewName h1 m1) fun x3 m2 => if ¬ x3 = 0 then (grd (inb (gI m2 h1 7) (Lp.2.1 (h1 + 9))) (bnd (h1 + 9 + (7 + 2 * (gI m2 h1 7).toNatClampNeg)) fun q4 => bnd (sJ m2 q4 2 (gJ m2 1 6)) fun m5 => bnd (sI m5 h1 7 ((gI m5 h1 7) + ((1)))) fun m6 => bdV (f_X9_advance  m6) fun m7 => pcC h1 q4 m7)) else (grd (bok ((0))) (some ((0), m2)))) else (f_X5_passerLine_J16 h1 mem))) := rfl
noncomputable def pvM (x16 : Int32) (x17 : Int64) (m30 : Mm) : Option (Int32 × Mm) :=
  bdI (f_X12_needsBoth ((10320789)) ((0)) ((9)) m30) fun x32 m31 => if ¬ x32 = 0 then (grd (inb x16 14) (bnd (sI m31 9 x16.toNatClampNeg (gI m31 0 39)) fun m33 => bdI (f_X12_needsBoth ((14092)) ((0)) ((9)) m33) fun x35 m34 => if ¬ x35 = 0 then (grd (inb x16 14) (bnd (sI m34 10 x16.toNatClampNeg (gI m34 0 39)) fun m36 => bdI (f_X12_needsBoth ((10492462)) ((1)) ((30)) m36) fun x38 m37 => if ¬ x38 = 0 then (grd (inb x16 14) (bnd (sI m37 11 x16.toNatClampNeg (gI m37 0 39)) fun m39 => bdI (f_X12_needsBoth ((1899199)) ((0)) ((59)) m39) fun x41 m40 => if ¬ x41 = 0 then (grd (inb x16 14) (bnd (sI m40 12 x16.toNatClampNeg (gI m40 0 39)) fun m42 => grd (inb x16 14) (bnd (sJ m42 4 x16.toNatClampNeg x17) fun m43 => bnd (sI m43 2 8 ((gI m43 2 8) + ((1)))) fun m44 => bdI (f_X12_closes  m44) fun x46 m45 => grd (bok x46) (some (x46, m45))))) else (grd (bok ((0))) (some ((0), m40))))) else (grd (bok ((0))) (some ((0), m37))))) else (grd (bok ((0))) (some ((0), m34))))) else (grd (bok ((0))) (some ((0), m31)))
noncomputable def ptM (x16 : Int32) (x17 : Int64) (m23 : Mm) : Option (Int32 × Mm) :=
  bdI (f_X12_isKept  m23) fun x26 m25 => if x26 = 0 then (bdI (f_X12_tuneNamed  m25) fun x28 m27 => grd (inb x16 14) (bnd (sI m27 8 x16.toNatClampNeg x28) fun m29 => grd (inb x16 14) (if 0 ≤ (gI m29 8 x16.toNatClampNeg) then (bdV (f_X12_nextToken  m29) fun m30 => pvM x16 x17 m30) else (bdI (f_X12_fails ((2)) m29) fun x48 m47 => grd (bok x48) (some (x48, m47)))))) else (bdI (f_X12_fails ((1)) m25) fun x50 m49 => grd (bok x50) (some (x50, m49)))
theorem j103_e (x16 : Int32) (x17 : Int64) (x18 x19 : Int32) (m20 : Mm) : f_X12_readsPasser_J103 x16 x17 x18 x19 m20 = (grd (inb x19 14) (bnd (sI m20 7 x19.toNatClampNeg x18) fun m21 => grd (inb x16 14) (if 0 ≤ (gI m21 7 x16.toNatClampNeg) then (bdV (f_X12_nextToken  m21) fun m22 => bdI (f_X12_needsWord ((8740675)) m22) fun x24 m23 => if ¬ x24 = 0 then (ptM x16 x17 m23) else (grd (bok ((0))) (some ((0), m23)))) else (bdI (f_X12_fails ((1)) m21) fun x52 m51 => grd (bok x52) (some (x52, m51)))))) := rfl
noncomputable def wEn (x2 : Int32) (m1 : Mm) : Option (Int32 × Mm) := if x2 = 0 then (grd (bok ((0))) (some ((0), m1))) else (bdI (f_X5_take (nI 59) m1) fun x14 m13 => if x14 = 0 then (grd (bok ((0))) (some ((0), m13))) else (grd (bok ((1))) (some ((1), m13))))
theorem wEn_0 (m : Mm) : wEn 0 m = some (0, m) := by
  unfold wEn
  rw [if_pos rfl]
  rfl
theorem wEn_1 (m : Mm) : wEn 1 m = (bdI (f_X5_take (nI 59) m) fun x14 m13 => if x14 = 0 then (grd (bok ((0))) (some ((0), m13))) else (grd (bok ((1))) (some ((1), m13)))) := by
  unfold wEn
  rw [if_neg (by decide)]
def WPa (s q a i : Nat) : Prop := WRP a i ∨ (a = s ∧ i = 7) ∨ a = q ∨ a = q + 1
def XPa (k a i : Nat) : Prop := WRM a i ∨ (a = 2 ∧ i = 8) ∨ (7 ≤ a ∧ a ≤ 12 ∧ i = 7 + k) ∨ (a = 4 ∧ i = 7 + k)
theorem WPa.w {s k q a i : Nat} (h : WPa s q a i) (hq : q = s + 9 + (7 + 2 * k)) (k7 : k < 7) : WSt s a i := by
  unfold WPa WRP at h
  unfold WSt WRP
  omega
theorem XPa.x {k a i : Nat} (h : XPa k a i) : XSt a i := by
  unfold XPa WRM at h
  unfold XSt WRM
  omega
def GPa (NT : Nat → List Nat) (s : Nat) (mP0 mM0 : Mm) (_ : Tk) (a c : Mm) : Prop := ∃ C' NP', DfA C' NT NP' s a c ∧ ∃ k q, k < 7 ∧ q = s + 9 + (7 + 2 * k) ∧ Kp (WPa s q) mP0 a ∧ Kp (XPa k) mM0 c
def sixV (a b c d e f : Nat) (i : Nat) : Nat := [a, b, c, d, e, f].getD i 0
theorem passV {T : Nat → Nat} {n s k q b0 kd tu o sk : Nat} {R : List Nat} {C : Nat → Nat → Nat} {NT NP : Nat → List Nat} {d : Tk} {aP aM mP0 mM0 : Mm} (hT : TpOK T n) (ok : TkOK T n d) (hP : RdP T n d aP) (hM : RdM T n d aM) (hA : DfA C NT NP s mP0 mM0) (hk : k = C 0 1) (k7 : k < 7) (hq : q = s + 9 + (7 + 2 * k)) (hb : b0 ≤ tkb d) (oR : okL R) (R8 : R.length ≤ 8) (htu : tu < C 0 0) (hkd : kd ≤ 3) (ho : o = if kd = 1 then min 3 (C 1 tu) else C 1 tu) (hsk : sk = if kd = 2 then 2 * o else o) (kP : Kp (WPa s q) mP0 aP) (kM : Kp (XPa k) mM0 aM) (p7 : gI aP s 7 = nI (k + 1)) (p3 : gI aP q 3 = nI kd) (p4 : gI aP q 4 = nI tu) (p1 : gI aP q 1 = nI sk) (pk : ∀ i, i < sk → gI aP (q + 1) i = nI (C 2 (9 * tu + i % o))) (pj : gJ aP q 2 = nJ (encR 32 R)) (m8 : gI aM 2 8 = nI k) (n7 : gI aM 7 (7 + k) = nI kd) (n8 : gI aM 8 (7 + k) = nI tu) : S2 (bdI (pvC q aP) wEn) (pvM (nI (7 + k)) (nJ (encR 27 R)) aM) (OuD T n b0 s (GPa NT s mP0 mM0) mP0 mM0) := by
  have hs := hA.2.1
  have ne1 : ¬ (1 : Int32) = 0 := by decide
  have bad : ∀ (nP nM a c : Mm), Kp (WPa s q) mP0 nP → Kp (XPa k) mM0 nM → Kp WRP nP a → Kp WRM nM c → gI a 3 2 = gI c 0 9 → ¬ gI a 3 2 = 0 → OuD T n b0 s (GPa NT s mP0 mM0) mP0 mM0 (0, a) (0, c) := fun nP nM a c u1 u2 u3 u4 u5 u6 => OuD.no ((u1.mono (fun a i h => h.w hq k7)).trans (u3.mono (fun a i h => WSt.r h))) ((u2.mono (fun a i h => h.x)).trans (u4.mono (fun a i h => XSt.r h))) u5 u6
  unfold pvC pvM
  refine valS (kk := 3) (lo := 0) (hi := 9) (fi := 5) (ci := 9) (k := k) (q := q) (W := wEn) hT ok hP hM (by decide) kq_3 (by decide) (by decide) k7 (by omega) (by decide) wEn_0 (fun a c => bad aP aM a c kP kM) ?_
  intro v5 d1 P1 M1 v51 v52 ok1 l1 hP1 hM1 g5 h9 kP1 kM1
  have KP1 : Kp (WPa s q) mP0 P1 := kP.trans (kP1.mono (fun a i h => by unfold WRP at h; unfold WPa WRP; omega))
  have KM1 : Kp (XPa k) mM0 M1 := kM.trans (kM1.mono (fun a i h => by unfold WRM at h; unfold XPa WRM; omega))
  refine valS (kk := 4) (lo := 0) (hi := 9) (fi := 6) (ci := 10) (k := k) (q := q) (W := wEn) hT ok1 hP1 hM1 (by decide) kq_4 (by decide) (by decide) k7 (by omega) (by decide) wEn_0 (fun a c => bad P1 M1 a c KP1 KM1) ?_
  intro v6 d2 P2 M2 v61 v62 ok2 l2 hP2 hM2 g6 h10 kP2 kM2
  have KP2 : Kp (WPa s q) mP0 P2 := KP1.trans (kP2.mono (fun a i h => by unfold WRP at h; unfold WPa WRP; omega))
  have KM2 : Kp (XPa k) mM0 M2 := KM1.trans (kM2.mono (fun a i h => by unfold WRM at h; unfold XPa WRM; omega))
  refine valS (kk := 5) (lo := 1) (hi := 30) (fi := 7) (ci := 11) (k := k) (q := q) (W := wEn) hT ok2 hP2 hM2 (by decide) kq_5 (by decide) (by decide) k7 (by omega) (by decide) wEn_0 (fun a c => bad P2 M2 a c KP2 KM2) ?_
  intro v7 d3 P3 M3 v71 v72 ok3 l3 hP3 hM3 g7 h11 kP3 kM3
  have KP3 : Kp (WPa s q) mP0 P3 := KP2.trans (kP3.mono (fun a i h => by unfold WRP at h; unfold WPa WRP; omega))
  have KM3 : Kp (XPa k) mM0 M3 := KM2.trans (kM3.mono (fun a i h => by unfold WRM at h; unfold XPa WRM; omega))
  refine valS (kk := 6) (lo := 0) (hi := 59) (fi := 8) (ci := 12) (k := k) (q := q) (W := wEn) hT ok3 hP3 hM3 (by decide) kq_6 (by decide) (by decide) k7 (by omega) (by decide) wEn_0 (fun a c => bad P3 M3 a c KP3 KM3) ?_
  intro v8 d4 P4 M4 v81 v82 ok4 l4 hP4 hM4 g8 h12 kP4 kM4
  have KP4 : Kp (WPa s q) mP0 P4 := KP3.trans (kP4.mono (fun a i h => by unfold WRP at h; unfold WPa WRP; omega))
  have KM4 : Kp (XPa k) mM0 M4 := KM3.trans (kM4.mono (fun a i h => by unfold WRM at h; unfold XPa WRM; omega))
  have e28 : gI M4 2 8 = nI k := (((kM4.1 _ _ (by unfold WRM; omega)).trans (kM3.1 _ _ (by unfold WRM; omega))).trans (kM2.1 _ _ (by unfold WRM; omega))).trans ((kM1.1 _ _ (by unfold WRM; omega)).trans m8)
  have add1 : nI k + 1 = nI (k + 1) := nI_add k 1
  show S2 (bdI (some (1, P4)) wEn) (grd (inb (nI (7 + k)) 14) (bnd (sJ M4 4 (nI (7 + k)).toNatClampNeg (nJ (encR 27 R))) fun m43 => bnd (sI m43 2 8 ((gI m43 2 8) + ((1)))) fun m44 => bdI (f_X12_closes m44) fun x46 m45 => grd (bok x46) (some (x46, m45)))) _
  rw [bdI_e, wEn_1, ni_inb (show 7 + k < 14 by omega) (by decide), grd_t, bnd_e, bnd_e, ni_cl _ (by omega), show gI (sJ M4 4 (7 + k) (nJ (encR 27 R))) 2 8 = nI k from e28, add1]
  have KM5 : Kp (XPa k) mM0 (sI (sJ M4 4 (7 + k) (nJ (encR 27 R))) 2 8 (nI (k + 1))) := (KM4.sJ _ (by unfold XPa; omega)).sI _ (by unfold XPa; omega)
  refine endS hT ok4 (by omega) hP4 (hM4.kp (fun a i h => gI_ne _ _ _ _ _ _ (by omega)) (gJ_ne _ _ _ _ _ _ (by omega))) (KP4.mono (fun a i h => h.w hq k7)) (KM5.mono (fun a i h => h.x)) (fun d' a c k1 k2 _ => ⟨pP C (sixV kd tu v5 v6 v7 v8), fun p => if p = k then R else NP p, ?_, k, q, k7, hq, KP4.trans (k1.mono (fun a i h => Or.inl h)), KM5.trans (k2.mono (fun a i h => Or.inl h))⟩)
  have rP : ∀ x, x ≠ 5 → x ≠ 6 → x ≠ 7 → x ≠ 8 → gI a q x = gI aP q x := fun x x1 x2 x3 x4 => ((k1.1 _ _ (by unfold WRP; omega)).trans (kP4.1 _ _ (by unfold WRP; omega))).trans (((kP3.1 _ _ (by unfold WRP; omega)).trans (kP2.1 _ _ (by unfold WRP; omega))).trans (kP1.1 _ _ (by unfold WRP; omega)))
  have rJ : gJ a q 2 = gJ aP q 2 := ((k1.2.1 _ _ (by unfold WRP; omega)).trans (kP4.2.1 _ _ (by unfold WRP; omega))).trans (((kP3.2.1 _ _ (by unfold WRP; omega)).trans (kP2.2.1 _ _ (by unfold WRP; omega))).trans (kP1.2.1 _ _ (by unfold WRP; omega)))
  have rQ : ∀ b x, b ≠ q → 4 ≤ b → gI a b x = gI aP b x := fun b x x1 x2 => ((k1.1 _ _ (by unfold WRP; omega)).trans (kP4.1 _ _ (by unfold WRP; omega))).trans (((kP3.1 _ _ (by unfold WRP; omega)).trans (kP2.1 _ _ (by unfold WRP; omega))).trans (kP1.1 _ _ (by unfold WRP; omega)))
  have cM : ∀ b x, 7 ≤ b → gI c b x = gI M4 b x := fun b x x1 => (k2.1 _ _ (by unfold WRM; omega)).trans (gI_ne _ _ _ _ _ _ (by omega))
  have e3 : pP C (sixV kd tu v5 v6 v7 v8) 3 (C 0 1) = kd := pP_eq (a := 0)
  have e4 : pP C (sixV kd tu v5 v6 v7 v8) 4 (C 0 1) = tu := pP_eq (a := 1)
  have ro : rwO (pP C (sixV kd tu v5 v6 v7 v8)) k = o := by
    unfold rwO
    rw [hk, e3, e4, ho]
    rfl
  have rs : skN (pP C (sixV kd tu v5 v6 v7 v8)) k = sk := by
    unfold skN
    rw [ro, hk, e3, hsk]
  refine hA.pass hk k7 hq ⟨hkd, htu, v52, v62, ⟨v71, v72⟩, v82⟩ oR R8 ?_ ⟨?_, ?_, ?_, ?_, ?_, ?_⟩ ?_ (fun i hi => ?_) ?_ ?_ ⟨?_, ?_, ?_, ?_, ?_, ?_⟩ ?_ (fun x i h1 h2 => ?_) (fun x i h1 h2 => ?_) (fun x i h1 h2 => ?_) (fun x i h1 h2 => ?_)
  · rw [rQ s 7 (by omega) (by omega)]; exact p7
  · rw [rP 3 (by decide) (by decide) (by decide) (by decide)]; exact p3
  · rw [rP 4 (by decide) (by decide) (by decide) (by decide)]; exact p4
  · rw [k1.1 _ _ (by unfold WRP; omega), kP4.1 _ _ (by unfold WRP; omega), kP3.1 _ _ (by unfold WRP; omega), kP2.1 _ _ (by unfold WRP; omega)]; exact g5
  · rw [k1.1 _ _ (by unfold WRP; omega), kP4.1 _ _ (by unfold WRP; omega), kP3.1 _ _ (by unfold WRP; omega)]; exact g6
  · rw [k1.1 _ _ (by unfold WRP; omega), kP4.1 _ _ (by unfold WRP; omega)]; exact g7
  · rw [k1.1 _ _ (by unfold WRP; omega)]; exact g8
  · rw [rs, rP 1 (by decide) (by decide) (by decide) (by decide)]; exact p1
  · rw [rs] at hi
    unfold skK
    rw [ro, hk, e4, rQ _ _ (by omega) (by omega)]
    exact pk i hi
  · rw [rJ]; exact pj
  · rw [k2.1 _ _ (by unfold WRM; omega), gI_eq _ _ _ _ _ _ rfl rfl]
  · rw [cM _ _ (by decide), kM4.1 _ _ (by unfold WRM; omega), kM3.1 _ _ (by unfold WRM; omega), kM2.1 _ _ (by unfold WRM; omega), kM1.1 _ _ (by unfold WRM; omega)]; exact n7
  · rw [cM _ _ (by decide), kM4.1 _ _ (by unfold WRM; omega), kM3.1 _ _ (by unfold WRM; omega), kM2.1 _ _ (by unfold WRM; omega), kM1.1 _ _ (by unfold WRM; omega)]; exact n8
  · rw [cM _ _ (by decide), kM4.1 _ _ (by unfold WRM; omega), kM3.1 _ _ (by unfold WRM; omega), kM2.1 _ _ (by unfold WRM; omega)]; exact h9
  · rw [cM _ _ (by decide), kM4.1 _ _ (by unfold WRM; omega), kM3.1 _ _ (by unfold WRM; omega)]; exact h10
  · rw [cM _ _ (by decide), kM4.1 _ _ (by unfold WRM; omega)]; exact h11
  · rw [cM _ _ (by decide)]; exact h12
  · rw [k2.2.1 _ _ (by unfold WRM; omega)]
    exact gJ_eq _ _ _ _ _ _ rfl rfl
  · rw [k1.1 _ _ (by unfold vD at h1; unfold WRP; omega)]
    exact KP4.1 _ _ (by unfold vD at h1; unfold WPa WRP; omega)
  · rw [k1.2.1 _ _ (by unfold vDj at h1; unfold WRP; omega)]
    exact KP4.2.1 _ _ (by unfold vDj at h1; unfold WPa WRP; omega)
  · rw [k2.1 _ _ (by unfold vE at h1; unfold WRM; omega)]
    exact KM5.1 _ _ (by unfold vE at h1; unfold XPa WRM; omega)
  · rw [k2.2.1 _ _ (by unfold WRM; omega)]
    exact KM5.2.1 _ _ (by unfold XPa WRM; omega)
