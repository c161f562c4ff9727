/-! the line of a tune -/
theorem DfA.rd {C : Nat → Nat → Nat} {NT NP : Nat → List Nat} {s : Nat} {mP mM nP nM : Mm} (h : DfA C NT NP s mP mM) (kP : Kp WRP mP nP) (kM : Kp WRM mM nM) : DfA C NT NP s nP nM := by
  have hs := h.2.1
  exact h.keep (fun a k q => kP.1 _ _ (by unfold vD at q; unfold WRP; omega)) (fun a k q => kP.2.1 _ _ (by unfold vDj at q; unfold WRP; omega)) (fun a k q => kM.1 _ _ (by unfold vE at q; unfold WRM; omega)) (fun a k q => kM.2.1 _ _ (by unfold WRM; omega))
def pT (C : Nat → Nat → Nat) (len : Nat) (K : Nat → Nat) : Nat → Nat → Nat
  | 0, j => if j = 0 then C 0 0 + 1 else C 0 j
  | 1, t => if t = C 0 0 then len else C 1 t
  | 2, i => if 9 * C 0 0 ≤ i then K (i - 9 * C 0 0) else C 2 i
  | a + 3, j => C (a + 3) j
theorem rwO_bb {C : Nat → Nat → Nat} (h : CfOK C) {p : Nat} (hp : p < C 0 1) : 1 ≤ rwO C p ∧ rwO C p ≤ 9 := by
  obtain ⟨-, -, -, -, -, -, -, h8, h9⟩ := h
  obtain ⟨-, h4, -⟩ := h9 p hp
  obtain ⟨a1, a2, -⟩ := h8 _ h4
  unfold rwO
  split <;> omega
theorem pT_sk {C : Nat → Nat → Nat} (h : CfOK C) {len : Nat} {K : Nat → Nat} {p : Nat} (hp : p < C 0 1) : skN (pT C len K) p = skN C p ∧ ∀ i, skK (pT C len K) p i = skK C p i := by
  have rb := rwO_bb h hp
  obtain ⟨-, -, -, -, -, -, -, h8, h9⟩ := h
  obtain ⟨-, h4, -⟩ := h9 p hp
  have c1 : pT C len K 1 (C 4 p) = C 1 (C 4 p) := if_neg (by omega)
  have r : rwO (pT C len K) p = rwO C p := by
    show (if C 3 p = 1 then min 3 (pT C len K 1 (C 4 p)) else pT C len K 1 (C 4 p)) = if C 3 p = 1 then min 3 (C 1 (C 4 p)) else C 1 (C 4 p)
    rw [c1]
  refine ⟨?_, fun i => ?_⟩
  · show (if C 3 p = 2 then 2 * rwO (pT C len K) p else rwO (pT C len K) p) = if C 3 p = 2 then 2 * rwO C p else rwO C p
    rw [r]
  · show pT C len K 2 (9 * C 4 p + i % rwO (pT C len K) p) = C 2 (9 * C 4 p + i % rwO C p)
    rw [r]
    have := Nat.mod_lt i (show 0 < rwO C p by omega)
    exact if_neg (by omega)
theorem pT_ok {C : Nat → Nat → Nat} (h : CfOK C) {len : Nat} {K : Nat → Nat} (k5 : C 0 0 < 5) (hl : 1 ≤ len ∧ len ≤ 9) (hK : ∀ i, i < len → K i < 12) : CfOK (pT C len K) := by
  obtain ⟨h1, h2, h3, h4, h5, h6, h7, h8, h9⟩ := h
  refine ⟨by show C 0 0 + 1 ≤ 5; omega, h2, h3, h4, h5, h6, h7, fun t ht => ?_, fun p hp => ?_⟩
  · have ht' : t < C 0 0 + 1 := ht
    by_cases z : t = C 0 0
    · have e1 : pT C len K 1 t = len := if_pos z
      rw [e1]
      refine ⟨hl.1, hl.2, fun i hi => ?_⟩
      have e2 : pT C len K 2 (9 * t + i) = K (9 * t + i - 9 * C 0 0) := if_pos (by omega)
      rw [e2, show 9 * t + i - 9 * C 0 0 = i by omega]
      exact hK i hi
    · have e1 : pT C len K 1 t = C 1 t := if_neg z
      obtain ⟨a1, a2, a3⟩ := h8 t (by omega)
      rw [e1]
      refine ⟨a1, a2, fun i hi => ?_⟩
      have e2 : pT C len K 2 (9 * t + i) = C 2 (9 * t + i) := if_neg (by omega)
      rw [e2]
      exact a3 i hi
  · obtain ⟨a1, a2, a3⟩ := h9 p hp
    exact ⟨a1, by show C 4 p < C 0 0 + 1; omega, a3⟩
theorem DfA.tune {C : Nat → Nat → Nat} {NT NP : Nat → List Nat} {s k len : Nat} {K : Nat → Nat} {R : List Nat} {mP mM nP nM : Mm} (h : DfA C NT NP s mP mM) (hk : k = C 0 0) (k5 : k < 5) (hl : 1 ≤ len ∧ len ≤ 9) (hK : ∀ i, i < len → K i < 12) (oR : okL R) (R8 : R.length ≤ 8)
    (p1 : gI nP s 6 = nI (k + 1)) (p2 : gI nP (s + 2) k = nI len) (p3 : ∀ i, i < len → gI nP (s + 3 + (1 + k)) i = nI (K i)) (p4 : gJ nP (s + 1) k = nJ (encR 32 R)) (m1 : gI nM 2 7 = nI (k + 1)) (m2 : gI nM 6 (5 + k) = nI len) (m3 : ∀ i, i < len → gI nM 5 (9 * (5 + k) + i) = nI (K i)) (m4 : gJ nM 3 (5 + k) = nJ (encR 27 R))
    (e : ∀ a i, vD s a i → ¬ ((a = s ∧ i = 6) ∨ (a = s + 2 ∧ i = k) ∨ a = s + 3 + (1 + k)) → gI nP a i = gI mP a i) (ej : ∀ a i, vDj s a i → ¬ (a = s + 1 ∧ i = k) → gJ nP a i = gJ mP a i) (f : ∀ a i, vE a i → ¬ ((a = 2 ∧ i = 7) ∨ (a = 6 ∧ i = 5 + k) ∨ (a = 5 ∧ 9 * (5 + k) ≤ i)) → gI nM a i = gI mM a i) (fj : ∀ a i, a = 3 ∨ a = 4 → ¬ (a = 3 ∧ i = 5 + k) → gJ nM a i = gJ mM a i) : DfA (pT C len K) (fun t => if t = k then R else NT t) NP s nP nM := by
  obtain ⟨h1, h2, h3, h4, h5, h6, h7, h8, h9, h10⟩ := h
  have c1 := h1.1
  have c2 := h1.2.1
  have h18 := h1.2.2.2.2.2.2.2.1
  subst hk
  refine ⟨pT_ok h1 k5 hl hK, h2, fun j hj => ?_, fun t ht => ?_, fun p hp => ?_, fun j hj => ?_, fun t ht => ?_, ?_, fun t ht => ?_, ?_⟩
  · by_cases z : j = 0
    · subst z; exact p1
    · rw [show pT C len K 0 j = C 0 j from if_neg z, e _ _ (by unfold vD; omega) (by omega)]
      exact h3 j hj
  · have ht' : t < C 0 0 + 1 := ht
    by_cases z : t = C 0 0
    · rw [show pT C len K 1 t = len from if_pos z, z]
      refine ⟨p2, fun i hi => ?_⟩
      rw [show pT C len K 2 (9 * C 0 0 + i) = K (9 * C 0 0 + i - 9 * C 0 0) from if_pos (by omega), Nat.add_sub_cancel_left]
      exact p3 i hi
    · obtain ⟨a1, a2⟩ := h4 t (by omega)
      obtain ⟨b1, b2, b3⟩ := h18 t (by omega)
      rw [show pT C len K 1 t = C 1 t from if_neg z]
      refine ⟨(e _ _ (by unfold vD; omega) (by omega)).trans a1, fun i hi => ?_⟩
      rw [show pT C len K 2 (9 * t + i) = C 2 (9 * t + i) from if_neg (by omega)]
      exact (e _ _ (by unfold vD; omega) (by omega)).trans (a2 i hi)
  · obtain ⟨a1, a2, a3, a4, a5, a6, a7, a8⟩ := h5 p hp
    have hp' : p < C 0 1 := hp
    obtain ⟨s1, s2⟩ := pT_sk h1 (len := len) (K := K) hp'
    rw [s1]
    refine ⟨(e _ _ (by unfold vD; omega) (by omega)).trans a1, (e _ _ (by unfold vD; omega) (by omega)).trans a2, (e _ _ (by unfold vD; omega) (by omega)).trans a3, (e _ _ (by unfold vD; omega) (by omega)).trans a4, (e _ _ (by unfold vD; omega) (by omega)).trans a5, (e _ _ (by unfold vD; omega) (by omega)).trans a6, (e _ _ (by unfold vD; omega) (by omega)).trans a7, fun i hi => ?_⟩
    rw [s2]
    exact (e _ _ (by unfold vD; omega) (by omega)).trans (a8 i hi)
  · by_cases z : j = 0
    · subst z; exact m1
    · rw [show pT C len K 0 j = C 0 j from if_neg z, f _ _ (by unfold vE; omega) (by omega)]
      exact h6 j hj
  · have ht' : t < C 0 0 + 1 := ht
    by_cases z : t = C 0 0
    · rw [show pT C len K 1 t = len from if_pos z, z]
      refine ⟨m2, fun i hi => ?_⟩
      rw [show pT C len K 2 (9 * C 0 0 + i) = K (9 * C 0 0 + i - 9 * C 0 0) from if_pos (by omega), Nat.add_sub_cancel_left]
      exact m3 i hi
    · obtain ⟨a1, a2⟩ := h7 t (by omega)
      obtain ⟨b1, b2, b3⟩ := h18 t (by omega)
      rw [show pT C len K 1 t = C 1 t from if_neg z]
      refine ⟨(f _ _ (by unfold vE; omega) (by omega)).trans a1, fun i hi => ?_⟩
      rw [show pT C len K 2 (9 * t + i) = C 2 (9 * t + i) from if_neg (by omega)]
      exact (f _ _ (by unfold vE; omega) (by omega)).trans (a2 i hi)
  · exact h8.keep (fun a i q => f _ _ (by unfold vE; omega) (by omega))
  · have ht' : t < C 0 0 + 1 := ht
    by_cases z : t = C 0 0
    · show okL (if t = C 0 0 then R else NT t) ∧ (if t = C 0 0 then R else NT t).length ≤ 8 ∧ gJ nP (s + 1) t = nJ (encR 32 (if t = C 0 0 then R else NT t)) ∧ gJ nM 3 (5 + t) = nJ (encR 27 (if t = C 0 0 then R else NT t))
      rw [if_pos z, z]
      exact ⟨oR, R8, p4, m4⟩
    · obtain ⟨a1, a2, a3, a4⟩ := h9 t (by omega)
      show okL (if t = C 0 0 then R else NT t) ∧ (if t = C 0 0 then R else NT t).length ≤ 8 ∧ gJ nP (s + 1) t = nJ (encR 32 (if t = C 0 0 then R else NT t)) ∧ gJ nM 3 (5 + t) = nJ (encR 27 (if t = C 0 0 then R else NT t))
      rw [if_neg z]
      exact ⟨a1, a2, (ej _ _ (by unfold vDj; omega) (by omega)).trans a3, (fj _ _ (by omega) (by omega)).trans a4⟩
  · exact h10.keep c2 (fun a q1 q2 => ej _ _ (by unfold vDj; omega) (by omega)) (fun i => fj _ _ (by omega) (by omega))
/-- a number taken by the one -/
theorem tNP1 {T : Nat → Nat} {n lo hi : Nat} {d : Tk} {mP : Mm} (ok : TkOK T n d) (hP : RdP T n d mP) (z : ¬ tkK d = 2) : f_X5_takeNumber (nI lo) (nI hi) mP = some (0, sI mP 3 2 (nI (1 + 16 * tkb d))) := by
  have cb := ctk_b ok
  have nz : ¬ ctk T d = 100 := fun q => z ((ctk_n ok).1.mp q)
  have e1 : f_X5_wrong 1 mP = some (0, sI mP 3 2 (nI (1 + 16 * tkb d))) := wrongE hP 1
  unfold f_X5_takeNumber
  simp (disch := omega) only [hP.2.2.2.1, nz, e1, bnd_e, grd_t, bdI_e, bdV_e, bokA, bokB, ni_inb, ni_cl, nI_add, pk_mul, li_2, li_3, li_4, li_5, li_6, li_7, li_8, li_9, li_10, li_11, li_12, li_13, li_14, li_15, li_16, li_17, li_18, li_19, li_20, li_21, li_22, li_23, li_24, li_25, li_26, li_27, li_28, li_29, li_30, li_31, li_32, li_33, li_34, li_35, li_36, li_37, li_38, li_39, li_40, li_41, li_42, li_43, li_44, li_45, li_46, li_47, li_48, li_49, li_50, li_51, li_52, li_53, li_54, li_55, li_56, li_57, li_58, li_59, li_60, li_61, li_63, li_70, li_96, li_97, li_99, li_100, li_101, li_102, li_120, li_122, li_126, li_200, li_255, li_423, li_555, li_999, li_1000, li_1111, li_2968, li_9999, li_10631, li_12345, li_14092, li_21470, li_65536, li_99233, nz_eq, n1_eq, n1_lt, n1_gt, n1_le, n1_ge, n1_sub, n1_add, nm_add, nz_add, nz_add2, z1_ne, z1_lt, z1_le, nI_1, pk_sub, nI_ltI, nI_leI, nI_eq, ni_neg, ni_nneg, ni_pos0, ni_nle0, ni_m1, gI_eq, gI_ne, xI_sJ, xI_sR, xR_sI, xR_sJ, xJ_sI, xJ_sR, gJ_eq, gJ_ne, gR_eq, gR_ne, if_true, if_false, ite_true, ite_false, not_true_eq_false, not_false_eq_true, decide_true, and_self, true_and, and_true, false_and, and_false, or_true, true_or, or_false, false_or, reduceIte, ne_eq]
theorem tNP4 {T : Nat → Nat} {n lo hi : Nat} {d : Tk} {mP : Mm} (ok : TkOK T n d) (hP : RdP T n d mP) (z : tkK d = 2) (hl : lo ≤ 61) (hh : hi ≤ 999) (h0 : ¬ tkv d < lo) (y : hi < tkv d) : f_X5_takeNumber (nI lo) (nI hi) mP = some (0, sI mP 3 2 (nI (4 + 16 * tkb d))) := by
  have vb := ok.2.2.2.2.2.2.1 z
  have gP := hP.2.2.2.2.2 z
  have e1 := wrongE hP 4
  have y3 : ¬ tkv d ≤ hi := by omega
  unfold f_X5_takeNumber f_X5_takeNumber_J40
  simp (disch := omega) only [hP.2.2.2.1, (ctk_n ok).1.mpr z, gP, h0, y, y3, e1, bnd_e, grd_t, bdI_e, bdV_e, bokA, bokB, ni_inb, ni_cl, nI_add, pk_mul, li_2, li_3, li_4, li_5, li_6, li_7, li_8, li_9, li_10, li_11, li_12, li_13, li_14, li_15, li_16, li_17, li_18, li_19, li_20, li_21, li_22, li_23, li_24, li_25, li_26, li_27, li_28, li_29, li_30, li_31, li_32, li_33, li_34, li_35, li_36, li_37, li_38, li_39, li_40, li_41, li_42, li_43, li_44, li_45, li_46, li_47, li_48, li_49, li_50, li_51, li_52, li_53, li_54, li_55, li_56, li_57, li_58, li_59, li_60, li_61, li_63, li_70, li_96, li_97, li_99, li_100, li_101, li_102, li_120, li_122, li_126, li_200, li_255, li_423, li_555, li_999, li_1000, li_1111, li_2968, li_9999, li_10631, li_12345, li_14092, li_21470, li_65536, li_99233, nz_eq, n1_eq, n1_lt, n1_gt, n1_le, n1_ge, n1_sub, n1_add, nm_add, nz_add, nz_add2, z1_ne, z1_lt, z1_le, nI_1, pk_sub, nI_ltI, nI_leI, nI_eq, ni_neg, ni_nneg, ni_pos0, ni_nle0, ni_m1, gI_eq, gI_ne, xI_sJ, xI_sR, xR_sI, xR_sJ, xJ_sI, xJ_sR, gJ_eq, gJ_ne, gR_eq, gR_ne, if_true, if_false, ite_true, ite_false, not_true_eq_false, not_false_eq_true, decide_true, and_self, true_and, and_true, false_and, and_false, or_true, true_or, or_false, false_or, reduceIte, ne_eq]
theorem tNP {T : Nat → Nat} {n lo hi : Nat} {d : Tk} {mP : Mm} (hT : TpOK T n) (ok : TkOK T n d) (hP : RdP T n d mP) (z : tkK d = 2) (hl : lo ≤ 61) (hh : hi ≤ 999) (h0 : lo ≤ tkv d) (y : tkv d ≤ hi) : ∃ nP, f_X5_takeNumber (nI lo) (nI hi) mP = some (1, nP) ∧ RdP T n (tk T n (tke d)) nP ∧ gI nP 3 1 = nI (tkv d) ∧ Kp WRP mP nP := by
  have vb := ok.2.2.2.2.2.2.1 z
  have gP := hP.2.2.2.2.2 z
  have h0' : ¬ tkv d < lo := by omega
  have y' : ¬ hi < tkv d := by omega
  have hP2 : RdP T n d (sI mP 3 1 (nI (tkv d))) := hP.kp (fun a k h => gI_ne _ _ _ _ _ _ (by omega)) rfl
  obtain ⟨nP, eP, h1, h2⟩ := adv_P hT ok hP2
  refine ⟨nP, ?_, h1, (h2.1 _ _ (by omega)).trans (gI_eq _ _ _ _ _ _ rfl rfl), ((Kp.refl mP).sI _ (by unfold WRP; omega)).trans (h2.mono (fun a k q => by unfold WRP; omega))⟩
  unfold f_X5_takeNumber
  simp (disch := omega) only [hP.2.2.2.1, (ctk_n ok).1.mpr z, gP, h0', y', y, eP, bnd_e, grd_t, bdI_e, bdV_e, bokA, bokB, ni_inb, ni_cl, nI_add, pk_mul, li_2, li_3, li_4, li_5, li_6, li_7, li_8, li_9, li_10, li_11, li_12, li_13, li_14, li_15, li_16, li_17, li_18, li_19, li_20, li_21, li_22, li_23, li_24, li_25, li_26, li_27, li_28, li_29, li_30, li_31, li_32, li_33, li_34, li_35, li_36, li_37, li_38, li_39, li_40, li_41, li_42, li_43, li_44, li_45, li_46, li_47, li_48, li_49, li_50, li_51, li_52, li_53, li_54, li_55, li_56, li_57, li_58, li_59, li_60, li_61, li_63, li_70, li_96, li_97, li_99, li_100, li_101, li_102, li_120, li_122, li_126, li_200, li_255, li_423, li_555, li_999, li_1000, li_1111, li_2968, li_9999, li_10631, li_12345, li_14092, li_21470, li_65536, li_99233, nz_eq, n1_eq, n1_lt, n1_gt, n1_le, n1_ge, n1_sub, n1_add, nm_add, nz_add, nz_add2, z1_ne, z1_lt, z1_le, nI_1, pk_sub, nI_ltI, nI_leI, nI_eq, ni_neg, ni_nneg, ni_pos0, ni_nle0, ni_m1, gI_eq, gI_ne, xI_sJ, xI_sR, xR_sI, xR_sJ, xJ_sI, xJ_sR, gJ_eq, gJ_ne, gR_eq, gR_ne, if_true, if_false, ite_true, ite_false, not_true_eq_false, not_false_eq_true, decide_true, and_self, true_and, and_true, false_and, and_false, or_true, true_or, or_false, false_or, reduceIte, ne_eq]
def uK (K : Nat → Nat) (j v i : Nat) : Nat := if i = j then v else K i
theorem uK_eq {K : Nat → Nat} {j v : Nat} : uK K j v j = v := if_pos rfl
theorem uK_ne {K : Nat → Nat} {j v i : Nat} (h : ¬ i = j) : uK K j v i = K i := if_neg h
/-- so far told: j keys of tune k -/
def TI (s k j : Nat) (K : Nat → Nat) (mP mM : Mm) : Prop := gI mP (s + 2) k = nI j ∧ gI mM 6 (5 + k) = nI j ∧ ∀ i, i < j → K i < 12 ∧ gI mP (s + 3 + (1 + k)) i = nI (K i) ∧ gI mM 5 (9 * (5 + k) + i) = nI (K i)
def WTu (s k a i : Nat) : Prop := WRP a i ∨ (a = s ∧ i = 6) ∨ (a = s + 1 ∧ i = k) ∨ (a = s + 2 ∧ i = k) ∨ a = s + 3 + (1 + k)
def XTu (k a i : Nat) : Prop := WRM a i ∨ (a = 2 ∧ i = 7) ∨ (a = 3 ∧ i = 5 + k) ∨ (a = 6 ∧ i = 5 + k) ∨ (a = 5 ∧ 9 * (5 + k) ≤ i)
theorem keyB {T : Nat → Nat} {n s k j : Nat} {K : Nat → Nat} {d : Tk} {mP mM : Mm} (hT : TpOK T n) (ok : TkOK T n d) (hP : RdP T n d mP) (hM : RdM T n d mM) (hs : s = 4 ∨ s = 34) (k5 : k < 5) (j9 : j ≤ 9) (h : TI s k j K mP mM) : (∃ w, 1 ≤ w ∧ w ≤ 5 ∧ f_X5_takeKey s (nI k) mP = some (0, sI mP 3 2 (nI (w + 16 * tkb d))) ∧ ∀ k42 : Int32 → Mm → Option (Int32 × Mm), f_X12_readsTune_J60 k42 (nI (5 + k)) mM = some (0, sI mM 0 9 (nI (w + 16 * tkb d)))) ∨ (∃ nP nM K', j < 9 ∧ tkK d = 2 ∧ f_X5_takeKey s (nI k) mP = some (1, nP) ∧ (∀ k42 : Int32 → Mm → Option (Int32 × Mm), f_X12_readsTune_J60 k42 (nI (5 + k)) mM = k42 (nI (5 + k)) nM) ∧ RdP T n (tk T n (tke d)) nP ∧ RdM T n (tk T n (tke d)) nM ∧ TI s k (j + 1) K' nP nM ∧ Kp (WTu s k) mP nP ∧ Kp (XTu k) mM nM ∧ gI nP s 6 = gI mP s 6 ∧ gJ nP (s + 1) k = gJ mP (s + 1) k ∧ gI nM 2 7 = gI mM 2 7 ∧ gJ nM 0 40 = gJ mM 0 40) := by
  obtain ⟨t1, t2, t3⟩ := h
  have cb := ctk_b ok
  have k4 := ok.2.2.1
  have ne1 : ¬ (1 : Int32) = 0 := by decide
  have l2 : Lp.2.1 (s + 2) = 5 := by rcases hs with rfl | rfl <;> rfl
  have l3 : Lp.2.1 (s + 3) = 5 := by rcases hs with rfl | rfl <;> rfl
  have l4 : Lp.2.1 (s + 3 + (1 + k)) = 9 := by
    rcases (by omega : k = 0 ∨ k = 1 ∨ k = 2 ∨ k = 3 ∨ k = 4) with rfl | rfl | rfl | rfl | rfl <;> rcases hs with rfl | rfl <;> rfl
  by_cases z : tkK d = 2
  · have vb := ok.2.2.2.2.2.2.1 z
    have gP := hP.2.2.2.2.2 z
    have gM := hM.2.2.2.2.2 z
    have c100 := (ctk_n (T := T) ok).1.mpr z
    by_cases y : 12 ≤ tkv d
    · have y' : ¬ tkv d ≤ 11 := by omega
      have e1 : f_X5_takeNumber 0 (nI 11) mP = some (0, sI mP 3 2 (nI (4 + 16 * tkb d))) := tNP4 (lo := 0) (hi := 11) ok hP z (by decide) (by decide) (by omega) (by omega)
      have e2 := failsE hM 4
      refine Or.inl ⟨4, by decide, by decide, ?_, fun k42 => ?_⟩
      · unfold f_X5_takeKey f_X5_takeKey_J47
        simp (disch := omega) only [hP.2.2.2.1, c100, l2, t1, gP, y, e1, bnd_e, grd_t, bdI_e, bdV_e, bokA, bokB, ni_inb, ni_cl, nI_add, pk_mul, li_2, li_3, li_4, li_5, li_6, li_7, li_8, li_9, li_10, li_11, li_12, li_13, li_14, li_15, li_16, li_17, li_18, li_19, li_20, li_21, li_22, li_23, li_24, li_25, li_26, li_27, li_28, li_29, li_30, li_31, li_32, li_33, li_34, li_35, li_36, li_37, li_38, li_39, li_40, li_41, li_42, li_43, li_44, li_45, li_46, li_47, li_48, li_49, li_50, li_51, li_52, li_53, li_54, li_55, li_56, li_57, li_58, li_59, li_60, li_61, li_63, li_70, li_96, li_97, li_99, li_100, li_101, li_102, li_120, li_122, li_126, li_200, li_255, li_423, li_555, li_999, li_1000, li_1111, li_2968, li_9999, li_10631, li_12345, li_14092, li_21470, li_65536, li_99233, nz_eq, n1_eq, n1_lt, n1_gt, n1_le, n1_ge, n1_sub, n1_add, nm_add, nz_add, nz_add2, z1_ne, z1_lt, z1_le, nI_1, pk_sub, nI_ltI, nI_leI, nI_eq, ni_neg, ni_nneg, ni_pos0, ni_nle0, ni_m1, gI_eq, gI_ne, xI_sJ, xI_sR, xR_sI, xR_sJ, xJ_sI, xJ_sR, gJ_eq, gJ_ne, gR_eq, gR_ne, if_true, if_false, ite_true, ite_false, not_true_eq_false, not_false_eq_true, decide_true, and_self, true_and, and_true, false_and, and_false, or_true, true_or, or_false, false_or, reduceIte, ne_eq]
      · unfold f_X12_readsTune_J60
        simp (disch := omega) only [hM.2.2.2.1, z, gM, y', e2, bnd_e, grd_t, bdI_e, bdV_e, bokA, bokB, ni_inb, ni_cl, nI_add, pk_mul, li_2, li_3, li_4, li_5, li_6, li_7, li_8, li_9, li_10, li_11, li_12, li_13, li_14, li_15, li_16, li_17, li_18, li_19, li_20, li_21, li_22, li_23, li_24, li_25, li_26, li_27, li_28, li_29, li_30, li_31, li_32, li_33, li_34, li_35, li_36, li_37, li_38, li_39, li_40, li_41, li_42, li_43, li_44, li_45, li_46, li_47, li_48, li_49, li_50, li_51, li_52, li_53, li_54, li_55, li_56, li_57, li_58, li_59, li_60, li_61, li_63, li_70, li_96, li_97, li_99, li_100, li_101, li_102, li_120, li_122, li_126, li_200, li_255, li_423, li_555, li_999, li_1000, li_1111, li_2968, li_9999, li_10631, li_12345, li_14092, li_21470, li_65536, li_99233, nz_eq, n1_eq, n1_lt, n1_gt, n1_le, n1_ge, n1_sub, n1_add, nm_add, nz_add, nz_add2, z1_ne, z1_lt, z1_le, nI_1, pk_sub, nI_ltI, nI_leI, nI_eq, ni_neg, ni_nneg, ni_pos0, ni_nle0, ni_m1, gI_eq, gI_ne, xI_sJ, xI_sR, xR_sI, xR_sJ, xJ_sI, xJ_sR, gJ_eq, gJ_ne, gR_eq, gR_ne, if_true, if_false, ite_true, ite_false, not_true_eq_false, not_false_eq_true, decide_true, and_self, true_and, and_true, false_and, and_false, or_true, true_or, or_false, false_or, reduceIte, ne_eq]
    · have y' : tkv d ≤ 11 := by omega
      by_cases x : j < 9
      · have x' : ¬ j = 9 := by omega
        obtain ⟨nP, e1, r1, g31, kP⟩ := tNP (lo := 0) (hi := 11) hT ok hP z (by decide) (by decide) (by omega) (by omega)
        have e1' : f_X5_takeNumber 0 (nI 11) mP = some (1, nP) := e1
        have hM1 : RdM T n d (sI (sI mM 5 (9 * (5 + k) + j) (nI (tkv d))) 6 (5 + k) (nI (j + 1))) := hM.kp (fun a k h => (gI_ne _ _ _ _ _ _ (by omega)).trans (gI_ne _ _ _ _ _ _ (by omega))) rfl
        obtain ⟨nM, e2, r2, kM⟩ := adv_M hT ok hM1
        refine Or.inr ⟨sI (sI nP (s + 3 + (1 + k)) j (nI (tkv d))) (s + 2) k (nI (j + 1)), nM, uK K j (tkv d), x, z, ?_, fun k42 => ?_, r1.kp (fun a k h => (gI_ne _ _ _ _ _ _ (by omega)).trans (gI_ne _ _ _ _ _ _ (by omega))) rfl, r2, ⟨gI_eq _ _ _ _ _ _ rfl rfl, (kM.1 _ _ (by omega)).trans (gI_eq _ _ _ _ _ _ rfl rfl), fun i hi => ?_⟩, ((kP.mono (fun a k h => by unfold WRP at h; unfold WTu WRP; omega)).sI _ (by unfold WTu; omega)).sI _ (by unfold WTu; omega), (((Kp.refl mM).sI _ (by unfold XTu; omega)).sI _ (by unfold XTu; omega)).trans (kM.mono (fun a k h => by unfold XTu WRM; omega)), ((gI_ne _ _ _ _ _ _ (by omega)).trans (gI_ne _ _ _ _ _ _ (by omega))).trans (kP.1 _ _ (by unfold WRP; omega)), kP.2.1 _ _ (by unfold WRP; omega), (kM.1 _ _ (by omega)).trans ((gI_ne _ _ _ _ _ _ (by omega)).trans (gI_ne _ _ _ _ _ _ (by omega))), kM.2.1 _ _ (by omega)⟩
        · unfold f_X5_takeKey f_X5_takeKey_J47
          simp (disch := omega) only [hP.2.2.2.1, c100, l2, l3, l4, t1, gP, y, x, e1', ne1, g31, bnd_e, grd_t, bdI_e, bdV_e, bokA, bokB, ni_inb, ni_cl, nI_add, pk_mul, li_2, li_3, li_4, li_5, li_6, li_7, li_8, li_9, li_10, li_11, li_12, li_13, li_14, li_15, li_16, li_17, li_18, li_19, li_20, li_21, li_22, li_23, li_24, li_25, li_26, li_27, li_28, li_29, li_30, li_31, li_32, li_33, li_34, li_35, li_36, li_37, li_38, li_39, li_40, li_41, li_42, li_43, li_44, li_45, li_46, li_47, li_48, li_49, li_50, li_51, li_52, li_53, li_54, li_55, li_56, li_57, li_58, li_59, li_60, li_61, li_63, li_70, li_96, li_97, li_99, li_100, li_101, li_102, li_120, li_122, li_126, li_200, li_255, li_423, li_555, li_999, li_1000, li_1111, li_2968, li_9999, li_10631, li_12345, li_14092, li_21470, li_65536, li_99233, nz_eq, n1_eq, n1_lt, n1_gt, n1_le, n1_ge, n1_sub, n1_add, nm_add, nz_add, nz_add2, z1_ne, z1_lt, z1_le, nI_1, pk_sub, nI_ltI, nI_leI, nI_eq, ni_neg, ni_nneg, ni_pos0, ni_nle0, ni_m1, gI_eq, gI_ne, xI_sJ, xI_sR, xR_sI, xR_sJ, xJ_sI, xJ_sR, gJ_eq, gJ_ne, gR_eq, gR_ne, if_true, if_false, ite_true, ite_false, not_true_eq_false, not_false_eq_true, decide_true, and_self, true_and, and_true, false_and, and_false, or_true, true_or, or_false, false_or, reduceIte, ne_eq]
        · unfold f_X12_readsTune_J60
          simp (disch := omega) only [hM.2.2.2.1, z, gM, y', t2, x', e2, bnd_e, grd_t, bdI_e, bdV_e, bokA, bokB, ni_inb, ni_cl, nI_add, pk_mul, li_2, li_3, li_4, li_5, li_6, li_7, li_8, li_9, li_10, li_11, li_12, li_13, li_14, li_15, li_16, li_17, li_18, li_19, li_20, li_21, li_22, li_23, li_24, li_25, li_26, li_27, li_28, li_29, li_30, li_31, li_32, li_33, li_34, li_35, li_36, li_37, li_38, li_39, li_40, li_41, li_42, li_43, li_44, li_45, li_46, li_47, li_48, li_49, li_50, li_51, li_52, li_53, li_54, li_55, li_56, li_57, li_58, li_59, li_60, li_61, li_63, li_70, li_96, li_97, li_99, li_100, li_101, li_102, li_120, li_122, li_126, li_200, li_255, li_423, li_555, li_999, li_1000, li_1111, li_2968, li_9999, li_10631, li_12345, li_14092, li_21470, li_65536, li_99233, nz_eq, n1_eq, n1_lt, n1_gt, n1_le, n1_ge, n1_sub, n1_add, nm_add, nz_add, nz_add2, z1_ne, z1_lt, z1_le, nI_1, pk_sub, nI_ltI, nI_leI, nI_eq, ni_neg, ni_nneg, ni_pos0, ni_nle0, ni_m1, gI_eq, gI_ne, xI_sJ, xI_sR, xR_sI, xR_sJ, xJ_sI, xJ_sR, gJ_eq, gJ_ne, gR_eq, gR_ne, if_true, if_false, ite_true, ite_false, not_true_eq_false, not_false_eq_true, decide_true, and_self, true_and, and_true, false_and, and_false, or_true, true_or, or_false, false_or, reduceIte, ne_eq]
        · by_cases w : i = j
          · rw [w]
            refine ⟨by rw [uK_eq]; omega, ?_, ?_⟩
            · rw [uK_eq, gI_ne _ _ _ _ _ _ (by omega), gI_eq _ _ _ _ _ _ rfl rfl]
            · rw [uK_eq, kM.1 _ _ (by omega), gI_ne _ _ _ _ _ _ (by omega), gI_eq _ _ _ _ _ _ rfl rfl]
          · obtain ⟨u1, u2, u3⟩ := t3 i (by omega)
            refine ⟨by rw [uK_ne w]; exact u1, ?_, ?_⟩
            · rw [uK_ne w, gI_ne _ _ _ _ _ _ (by omega), gI_ne _ _ _ _ _ _ (by omega), kP.1 _ _ (by unfold WRP; omega)]
              exact u2
            · rw [uK_ne w, kM.1 _ _ (by omega), gI_ne _ _ _ _ _ _ (by omega), gI_ne _ _ _ _ _ _ (by omega)]
              exact u3
      · have x' : j = 9 := by omega
        subst x'
        have e1 := wrongE hP 5
        have e2 := failsE hM 5
        refine Or.inl ⟨5, by decide, by decide, ?_, fun k42 => ?_⟩
        · unfold f_X5_takeKey f_X5_takeKey_J41
          simp (disch := omega) only [hP.2.2.2.1, c100, l2, t1, gP, y, Nat.lt_irrefl, e1, bnd_e, grd_t, bdI_e, bdV_e, bokA, bokB, ni_inb, ni_cl, nI_add, pk_mul, li_2, li_3, li_4, li_5, li_6, li_7, li_8, li_9, li_10, li_11, li_12, li_13, li_14, li_15, li_16, li_17, li_18, li_19, li_20, li_21, li_22, li_23, li_24, li_25, li_26, li_27, li_28, li_29, li_30, li_31, li_32, li_33, li_34, li_35, li_36, li_37, li_38, li_39, li_40, li_41, li_42, li_43, li_44, li_45, li_46, li_47, li_48, li_49, li_50, li_51, li_52, li_53, li_54, li_55, li_56, li_57, li_58, li_59, li_60, li_61, li_63, li_70, li_96, li_97, li_99, li_100, li_101, li_102, li_120, li_122, li_126, li_200, li_255, li_423, li_555, li_999, li_1000, li_1111, li_2968, li_9999, li_10631, li_12345, li_14092, li_21470, li_65536, li_99233, nz_eq, n1_eq, n1_lt, n1_gt, n1_le, n1_ge, n1_sub, n1_add, nm_add, nz_add, nz_add2, z1_ne, z1_lt, z1_le, nI_1, pk_sub, nI_ltI, nI_leI, nI_eq, ni_neg, ni_nneg, ni_pos0, ni_nle0, ni_m1, gI_eq, gI_ne, xI_sJ, xI_sR, xR_sI, xR_sJ, xJ_sI, xJ_sR, gJ_eq, gJ_ne, gR_eq, gR_ne, if_true, if_false, ite_true, ite_false, not_true_eq_false, not_false_eq_true, decide_true, and_self, true_and, and_true, false_and, and_false, or_true, true_or, or_false, false_or, reduceIte, ne_eq]
        · unfold f_X12_readsTune_J60
          simp (disch := omega) only [hM.2.2.2.1, z, gM, y', t2, e2, bnd_e, grd_t, bdI_e, bdV_e, bokA, bokB, ni_inb, ni_cl, nI_add, pk_mul, li_2, li_3, li_4, li_5, li_6, li_7, li_8, li_9, li_10, li_11, li_12, li_13, li_14, li_15, li_16, li_17, li_18, li_19, li_20, li_21, li_22, li_23, li_24, li_25, li_26, li_27, li_28, li_29, li_30, li_31, li_32, li_33, li_34, li_35, li_36, li_37, li_38, li_39, li_40, li_41, li_42, li_43, li_44, li_45, li_46, li_47, li_48, li_49, li_50, li_51, li_52, li_53, li_54, li_55, li_56, li_57, li_58, li_59, li_60, li_61, li_63, li_70, li_96, li_97, li_99, li_100, li_101, li_102, li_120, li_122, li_126, li_200, li_255, li_423, li_555, li_999, li_1000, li_1111, li_2968, li_9999, li_10631, li_12345, li_14092, li_21470, li_65536, li_99233, nz_eq, n1_eq, n1_lt, n1_gt, n1_le, n1_ge, n1_sub, n1_add, nm_add, nz_add, nz_add2, z1_ne, z1_lt, z1_le, nI_1, pk_sub, nI_ltI, nI_leI, nI_eq, ni_neg, ni_nneg, ni_pos0, ni_nle0, ni_m1, gI_eq, gI_ne, xI_sJ, xI_sR, xR_sI, xR_sJ, xJ_sI, xJ_sR, gJ_eq, gJ_ne, gR_eq, gR_ne, if_true, if_false, ite_true, ite_false, not_true_eq_false, not_false_eq_true, decide_true, and_self, true_and, and_true, false_and, and_false, or_true, true_or, or_false, false_or, reduceIte, ne_eq]
  · have nz : ¬ ctk T d = 100 := fun q => z ((ctk_n ok).1.mp q)
    have e1 : f_X5_takeNumber 0 (nI 11) mP = some (0, sI mP 3 2 (nI (1 + 16 * tkb d))) := tNP1 (lo := 0) (hi := 11) ok hP z
    have e2 : f_X12_fails 1 mM = some (0, sI mM 0 9 (nI (1 + 16 * tkb d))) := failsE hM 1
    refine Or.inl ⟨1, by decide, by decide, ?_, fun k42 => ?_⟩
    · unfold f_X5_takeKey f_X5_takeKey_J47
      simp (disch := omega) only [hP.2.2.2.1, nz, l2, t1, e1, bnd_e, grd_t, bdI_e, bdV_e, bokA, bokB, ni_inb, ni_cl, nI_add, pk_mul, li_2, li_3, li_4, li_5, li_6, li_7, li_8, li_9, li_10, li_11, li_12, li_13, li_14, li_15, li_16, li_17, li_18, li_19, li_20, li_21, li_22, li_23, li_24, li_25, li_26, li_27, li_28, li_29, li_30, li_31, li_32, li_33, li_34, li_35, li_36, li_37, li_38, li_39, li_40, li_41, li_42, li_43, li_44, li_45, li_46, li_47, li_48, li_49, li_50, li_51, li_52, li_53, li_54, li_55, li_56, li_57, li_58, li_59, li_60, li_61, li_63, li_70, li_96, li_97, li_99, li_100, li_101, li_102, li_120, li_122, li_126, li_200, li_255, li_423, li_555, li_999, li_1000, li_1111, li_2968, li_9999, li_10631, li_12345, li_14092, li_21470, li_65536, li_99233, nz_eq, n1_eq, n1_lt, n1_gt, n1_le, n1_ge, n1_sub, n1_add, nm_add, nz_add, nz_add2, z1_ne, z1_lt, z1_le, nI_1, pk_sub, nI_ltI, nI_leI, nI_eq, ni_neg, ni_nneg, ni_pos0, ni_nle0, ni_m1, gI_eq, gI_ne, xI_sJ, xI_sR, xR_sI, xR_sJ, xJ_sI, xJ_sR, gJ_eq, gJ_ne, gR_eq, gR_ne, if_true, if_false, ite_true, ite_false, not_true_eq_false, not_false_eq_true, decide_true, and_self, true_and, and_true, false_and, and_false, or_true, true_or, or_false, false_or, reduceIte, ne_eq]
    · unfold f_X12_readsTune_J60
      simp (disch := omega) only [hM.2.2.2.1, z, e2, bnd_e, grd_t, bdI_e, bdV_e, bokA, bokB, ni_inb, ni_cl, nI_add, pk_mul, li_2, li_3, li_4, li_5, li_6, li_7, li_8, li_9, li_10, li_11, li_12, li_13, li_14, li_15, li_16, li_17, li_18, li_19, li_20, li_21, li_22, li_23, li_24, li_25, li_26, li_27, li_28, li_29, li_30, li_31, li_32, li_33, li_34, li_35, li_36, li_37, li_38, li_39, li_40, li_41, li_42, li_43, li_44, li_45, li_46, li_47, li_48, li_49, li_50, li_51, li_52, li_53, li_54, li_55, li_56, li_57, li_58, li_59, li_60, li_61, li_63, li_70, li_96, li_97, li_99, li_100, li_101, li_102, li_120, li_122, li_126, li_200, li_255, li_423, li_555, li_999, li_1000, li_1111, li_2968, li_9999, li_10631, li_12345, li_14092, li_21470, li_65536, li_99233, nz_eq, n1_eq, n1_lt, n1_gt, n1_le, n1_ge, n1_sub, n1_add, nm_add, nz_add, nz_add2, z1_ne, z1_lt, z1_le, nI_1, pk_sub, nI_ltI, nI_leI, nI_eq, ni_neg, ni_nneg, ni_pos0, ni_nle0, ni_m1, gI_eq, gI_ne, xI_sJ, xI_sR, xR_sI, xR_sJ, xJ_sI, xJ_sR, gJ_eq, gJ_ne, gR_eq, gR_ne, if_true, if_false, ite_true, ite_false, not_true_eq_false, not_false_eq_true, decide_true, and_self, true_and, and_true, false_and, and_false, or_true, true_or, or_false, false_or, reduceIte, ne_eq]
