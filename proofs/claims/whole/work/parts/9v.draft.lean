/-! one passer more -/
def pP (C : Nat → Nat → Nat) (V : Nat → Nat) : Nat → Nat → Nat
  | 0, j => if j = 1 then C 0 1 + 1 else C 0 j
  | 1, t => C 1 t
  | 2, i => C 2 i
  | a + 3, p => if p = C 0 1 then V a else C (a + 3) p
theorem pP_ne {C : Nat → Nat → Nat} {V : Nat → Nat} {a p : Nat} (h : ¬ p = C 0 1) : pP C V (a + 3) p = C (a + 3) p := if_neg h
theorem pP_eq {C : Nat → Nat → Nat} {V : Nat → Nat} {a : Nat} : pP C V (a + 3) (C 0 1) = V a := if_pos rfl
theorem pP_rw {C : Nat → Nat → Nat} {V : Nat → Nat} {p : Nat} (h : ¬ p = C 0 1) : rwO (pP C V) p = rwO C p := by
  have e3 : pP C V 3 p = C 3 p := pP_ne (a := 0) h
  have e4 : pP C V 4 p = C 4 p := pP_ne (a := 1) h
  unfold rwO
  rw [e3, e4]
  rfl
theorem pP_sk {C : Nat → Nat → Nat} {V : Nat → Nat} {p : Nat} (h : ¬ p = C 0 1) : skN (pP C V) p = skN C p ∧ ∀ i, skK (pP C V) p i = skK C p i := by
  have e3 : pP C V 3 p = C 3 p := pP_ne (a := 0) h
  have e4 : pP C V 4 p = C 4 p := pP_ne (a := 1) h
  refine ⟨?_, fun i => ?_⟩
  · unfold skN
    rw [e3, pP_rw h]
  · unfold skK
    rw [e4, pP_rw h]
    rfl
theorem pP_ok {C : Nat → Nat → Nat} {V : Nat → Nat} (h : CfOK C) (k7 : C 0 1 < 7) (hV : V 0 ≤ 3 ∧ V 1 < C 0 0 ∧ V 2 ≤ 9 ∧ V 3 ≤ 9 ∧ (1 ≤ V 4 ∧ V 4 ≤ 30) ∧ V 5 ≤ 59) : CfOK (pP C V) := by
  obtain ⟨h1, h2, h3, h4, h5, h6, h7, h8, h9⟩ := h
  refine ⟨h1, by show C 0 1 + 1 ≤ 7; omega, h3, h4, h5, h6, h7, h8, fun p hp => ?_⟩
  have hp' : p < C 0 1 + 1 := hp
  show pP C V (0 + 3) p ≤ 3 ∧ pP C V (1 + 3) p < C 0 0 ∧ pP C V (2 + 3) p ≤ 9 ∧ pP C V (3 + 3) p ≤ 9 ∧ (1 ≤ pP C V (4 + 3) p ∧ pP C V (4 + 3) p ≤ 30) ∧ pP C V (5 + 3) p ≤ 59
  by_cases z : p = C 0 1
  · rw [z]
    simp only [pP_eq]
    exact hV
  · simp only [pP_ne z]
    exact h9 p (by omega)
theorem DfA.pass {C : Nat → Nat → Nat} {NT NP : Nat → List Nat} {s k q : Nat} {V : Nat → Nat} {R : List Nat} {mP mM nP nM : Mm} (h : DfA C NT NP s mP mM) (hk : k = C 0 1) (k7 : k < 7) (hq : q = s + 9 + (7 + 2 * k)) (hV : V 0 ≤ 3 ∧ V 1 < C 0 0 ∧ V 2 ≤ 9 ∧ V 3 ≤ 9 ∧ (1 ≤ V 4 ∧ V 4 ≤ 30) ∧ V 5 ≤ 59) (oR : okL R) (R8 : R.length ≤ 8)
    (p0 : gI nP s 7 = nI (k + 1)) (p1 : gI nP q 3 = nI (V 0) ∧ gI nP q 4 = nI (V 1) ∧ gI nP q 5 = nI (V 2) ∧ gI nP q 6 = nI (V 3) ∧ gI nP q 7 = nI (V 4) ∧ gI nP q 8 = nI (V 5)) (p2 : gI nP q 1 = nI (skN (pP C V) k)) (p3 : ∀ i, i < skN (pP C V) k → gI nP (q + 1) i = nI (skK (pP C V) k i)) (p4 : gJ nP q 2 = nJ (encR 32 R))
    (m0 : gI nM 2 8 = nI (k + 1)) (m1 : gI nM 7 (7 + k) = nI (V 0) ∧ gI nM 8 (7 + k) = nI (V 1) ∧ gI nM 9 (7 + k) = nI (V 2) ∧ gI nM 10 (7 + k) = nI (V 3) ∧ gI nM 11 (7 + k) = nI (V 4) ∧ gI nM 12 (7 + k) = nI (V 5)) (m4 : gJ nM 4 (7 + k) = nJ (encR 27 R))
    (e : ∀ a i, vD s a i → ¬ ((a = s ∧ i = 7) ∨ a = q ∨ a = q + 1) → gI nP a i = gI mP a i) (ej : ∀ a i, vDj s a i → ¬ (a = q ∨ a = q + 1) → gJ nP a i = gJ mP a i) (f : ∀ a i, vE a i → ¬ ((a = 2 ∧ i = 8) ∨ (7 ≤ a ∧ a ≤ 12 ∧ i = 7 + k)) → gI nM a i = gI mM a i) (fj : ∀ a i, a = 3 ∨ a = 4 → ¬ (a = 4 ∧ i = 7 + k) → gJ nM a i = gJ mM a i) : DfA (pP C V) NT (fun p => if p = k then R else NP p) s nP nM := by
  obtain ⟨h1, h2, h3, h4, h5, h6, h7, h8, h9, h10⟩ := h
  have c1 := h1.1
  have c2 := h1.2.1
  subst hk
  subst hq
  refine ⟨pP_ok h1 k7 hV, h2, fun j hj => ?_, ?_, fun p hp => ?_, fun j hj => ?_, ?_, fun p hp => ?_, ?_, fun p hp => ?_⟩
  · by_cases z : j = 1
    · subst z; exact p0
    · rw [show pP C V 0 j = C 0 j from if_neg z, e _ _ (by unfold vD; omega) (by omega)]
      exact h3 j hj
  · exact h4.keep c1 (fun a i r => e _ _ (by unfold vD; omega) (by omega))
  · have hp' : p < C 0 1 + 1 := hp
    by_cases z : p = C 0 1
    · subst z
      obtain ⟨x1, x2, x3, x4, x5, x6⟩ := p1
      exact ⟨x1.trans (congrArg nI (pP_eq (a := 0)).symm), x2.trans (congrArg nI (pP_eq (a := 1)).symm), x3.trans (congrArg nI (pP_eq (a := 2)).symm), x4.trans (congrArg nI (pP_eq (a := 3)).symm), x5.trans (congrArg nI (pP_eq (a := 4)).symm), x6.trans (congrArg nI (pP_eq (a := 5)).symm), p2, p3⟩
    · obtain ⟨a1, a2, a3, a4, a5, a6, a7, a8⟩ := h5 p (by omega)
      obtain ⟨s1, s2⟩ := pP_sk (V := V) z
      have w : ∀ a i, s + 9 + (7 + 2 * p) ≤ a → a ≤ s + 9 + (7 + 2 * p) + 1 → gI nP a i = gI mP a i := fun a i u1 u2 => e _ _ (by unfold vD; omega) (by omega)
      rw [s1]
      refine ⟨((w _ _ (by omega) (by omega)).trans a1).trans (congrArg nI (pP_ne (a := 0) z).symm), ((w _ _ (by omega) (by omega)).trans a2).trans (congrArg nI (pP_ne (a := 1) z).symm), ((w _ _ (by omega) (by omega)).trans a3).trans (congrArg nI (pP_ne (a := 2) z).symm), ((w _ _ (by omega) (by omega)).trans a4).trans (congrArg nI (pP_ne (a := 3) z).symm), ((w _ _ (by omega) (by omega)).trans a5).trans (congrArg nI (pP_ne (a := 4) z).symm), ((w _ _ (by omega) (by omega)).trans a6).trans (congrArg nI (pP_ne (a := 5) z).symm), (w _ _ (by omega) (by omega)).trans a7, fun i hi => ?_⟩
      rw [s2]
      exact (w _ _ (by omega) (by omega)).trans (a8 i hi)
  · by_cases z : j = 1
    · subst z; exact m0
    · rw [show pP C V 0 j = C 0 j from if_neg z, f _ _ (by unfold vE; omega) (by omega)]
      exact h6 j hj
  · exact h7.keep (fun a i r => f _ _ (by unfold vE; omega) (by omega))
  · have hp' : p < C 0 1 + 1 := hp
    by_cases z : p = C 0 1
    · subst z
      obtain ⟨x1, x2, x3, x4, x5, x6⟩ := m1
      exact ⟨x1.trans (congrArg nI (pP_eq (a := 0)).symm), x2.trans (congrArg nI (pP_eq (a := 1)).symm), x3.trans (congrArg nI (pP_eq (a := 2)).symm), x4.trans (congrArg nI (pP_eq (a := 3)).symm), x5.trans (congrArg nI (pP_eq (a := 4)).symm), x6.trans (congrArg nI (pP_eq (a := 5)).symm)⟩
    · obtain ⟨a1, a2, a3, a4, a5, a6⟩ := h8 p (by omega)
      have w : ∀ a, 7 ≤ a → a ≤ 12 → gI nM a (7 + p) = gI mM a (7 + p) := fun a u1 u2 => f _ _ (by unfold vE; omega) (by omega)
      exact ⟨((w _ (by decide) (by decide)).trans a1).trans (congrArg nI (pP_ne (a := 0) z).symm), ((w _ (by decide) (by decide)).trans a2).trans (congrArg nI (pP_ne (a := 1) z).symm), ((w _ (by decide) (by decide)).trans a3).trans (congrArg nI (pP_ne (a := 2) z).symm), ((w _ (by decide) (by decide)).trans a4).trans (congrArg nI (pP_ne (a := 3) z).symm), ((w _ (by decide) (by decide)).trans a5).trans (congrArg nI (pP_ne (a := 4) z).symm), ((w _ (by decide) (by decide)).trans a6).trans (congrArg nI (pP_ne (a := 5) z).symm)⟩
  · exact h9.keep (fun i => ej _ _ (by unfold vDj; omega) (by omega)) (fun i => fj _ _ (by omega) (by omega))
  · have hp' : p < C 0 1 + 1 := hp
    show okL (if p = C 0 1 then R else NP p) ∧ (if p = C 0 1 then R else NP p).length ≤ 8 ∧ gJ nP (s + 9 + (7 + 2 * p)) 2 = nJ (encR 32 (if p = C 0 1 then R else NP p)) ∧ gJ nM 4 (7 + p) = nJ (encR 27 (if p = C 0 1 then R else NP p))
    by_cases z : p = C 0 1
    · rw [if_pos z, z]
      exact ⟨oR, R8, p4, m4⟩
    · obtain ⟨a1, a2, a3, a4⟩ := h10 p (by omega)
      rw [if_neg z]
      exact ⟨a1, a2, (ej _ _ (by unfold vDj; omega) (by omega)).trans a3, (fj _ _ (by omega) (by omega)).trans a4⟩
/-- a word and a number, kept in his row -/
theorem valS {T : Nat → Nat} {n q k lo hi fi ci kk : Nat} {cc : Int64} {d : Tk} {mP mM : Mm} {F G : Mm → Option (Int32 × Mm)} {W : Int32 → Mm → Option (Int32 × Mm)} {Q : Int32 × Mm → Int32 × Mm → Prop} (hT : TpOK T n) (ok : TkOK T n d) (hP : RdP T n d mP) (hM : RdM T n d mM) (hkk : kk < 29) (hc : cc = nJ (encR 27 (wds.getD kk []))) (hl : lo ≤ 61) (hh : hi ≤ 999) (k7 : k < 7) (hq : 4 ≤ q) (hci : 7 ≤ ci) (hW0 : ∀ m, W 0 m = some (0, m))
    (bad : ∀ a c, Kp WRP mP a → Kp WRM mM c → gI a 3 2 = gI c 0 9 → ¬ gI a 3 2 = 0 → Q (0, a) (0, c))
    (good : ∀ v d' nP nM, lo ≤ v → v ≤ hi → TkOK T n d' → tkb d < tkb d' → RdP T n d' nP → RdM T n d' nM → gI nP q fi = nI v → gI nM ci (7 + k) = nI v → Kp (fun a i => WRP a i ∨ (a = q ∧ i = fi)) mP nP → Kp (fun a i => WRM a i ∨ (a = ci ∧ i = 7 + k)) mM nM → S2 (bdI (F nP) W) (G nM) Q) :
    S2 (bdI (bdI (f_X5_takeValue (nI kk) (nI lo) (nI hi) mP) fun x m => if ¬ x = 0 then (bnd (sI m q fi (gI m 3 1)) fun m' => F m') else (grd (bok ((0))) (some ((0), m)))) W) (bdI (f_X12_needsBoth cc (nI lo) (nI hi) mM) fun x m => if ¬ x = 0 then (grd (inb (nI (7 + k)) 14) (bnd (sI m ci (nI (7 + k)).toNatClampNeg (gI m 0 39)) fun m' => G m')) else (grd (bok ((0))) (some ((0), m)))) Q := by
  obtain ⟨r, r', e1, e2, h⟩ := takeVB hT ok hP hM hkk hc hl hh
  rw [e1, e2, bdI_e, bdI_e]
  have ne1 : ¬ (1 : Int32) = 0 := by decide
  rcases h.2.2 with ⟨z1, z2, z3, z4⟩ | ⟨z1, z2, d2, o2, l2, s1, s2, ⟨v, v1, v2, v3, v4⟩, g2⟩
  · rw [z1, z2, if_neg (fun r => r rfl), if_neg (fun r => r rfl), show grd (bok (0 : Int32)) (some ((0 : Int32), r.2)) = some (0, r.2) from rfl, bdI_e, hW0]
    exact ⟨_, _, rfl, rfl, bad _ _ h.1 h.2.1 z3 z4⟩
  · rw [z1, z2, if_pos ne1, if_pos ne1, bnd_e, v3, ni_inb (show 7 + k < 14 by omega) (by decide), grd_t, bnd_e, ni_cl _ (by omega), v4]
    exact good v d2 _ _ v1 v2 o2 l2 (s1.kp (fun a i h => gI_ne _ _ _ _ _ _ (by omega)) rfl) (s2.kp (fun a i h => gI_ne _ _ _ _ _ _ (by omega)) rfl) (gI_eq _ _ _ _ _ _ rfl rfl) (gI_eq _ _ _ _ _ _ rfl rfl) ((h.1.mono (fun a i h => Or.inl h)).sI _ (by omega)) ((h.2.1.mono (fun a i h => Or.inl h)).sI _ (by omega))
