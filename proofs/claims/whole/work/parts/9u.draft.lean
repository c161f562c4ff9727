/-! the line of a passer: what he learns -/
def LnI (h0 h1 o c : Nat) (Ky : Nat → Nat) (m : Mm) : Prop := gI m h0 1 = nI c ∧ (∀ j, j < c → gI m (h0 + 1) j = nI (Ky (j % o))) ∧ ∀ i, i < o → gI m h1 i = nI (Ky i)
theorem learn1 {h0 h1 o t r : Nat} {p2 : Int32} {Ky : Nat → Nat} (hh : h1 ≠ h0 ∧ h1 ≠ h0 + 1) (l1 : Lp.2.1 h1 = 9) (l2 : Lp.2.1 (h0 + 1) = 18) (o9 : 1 ≤ o ∧ o ≤ 9) (r2 : r < 2) : ∀ (e i N : Nat) (m : Mm), i + e = o → e < N → LnI h0 h1 o (r * o + i) Ky m → ∃ m', (∀ k41, lop (fun _ _ _ _ _ => none) (f_X4_learn_B51 h0 h1 p2 k41) N (nI o) (nI t) (nI r) (nI i) m = k41 (nI o) (nI t) (nI (r + 1)) m') ∧ LnI h0 h1 o (r * o + o) Ky m' ∧ Kp (fun a k => (a = h0 ∧ k = 1) ∨ a = h0 + 1) m m'
  | _, _, 0, _, _, h, _ => absurd h (Nat.not_lt_zero _)
  | 0, i, N + 1, m, hi, _, hm => by
    have hm' : LnI h0 h1 o (r * o + o) Ky m := by
      rw [show r * o + o = r * o + i by omega]
      exact hm
    refine ⟨m, fun k41 => ?_, hm', Kp.refl m⟩
    show f_X4_learn_B51 h0 h1 p2 k41 _ (nI o) (nI t) (nI r) (nI i) m = _
    have le : o ≤ i := by omega
    generalize lop (fun _ _ _ _ _ => none) (f_X4_learn_B51 h0 h1 p2 k41) N = kk
    unfold f_X4_learn_B51 f_X4_learn_J109
    simp (disch := omega) only [le, bnd_e, grd_t, bdI_e, bdV_e, bokA, bokB, ni_inb, ni_cl, nI_add, pk_mul, li_2, li_3, li_4, li_5, li_6, li_7, li_8, li_9, li_10, li_11, li_12, li_13, li_14, li_15, li_16, li_17, li_18, li_19, li_20, li_21, li_22, li_23, li_24, li_25, li_26, li_27, li_28, li_29, li_30, li_31, li_32, li_33, li_34, li_35, li_36, li_37, li_38, li_39, li_40, li_41, li_42, li_43, li_44, li_45, li_46, li_47, li_48, li_49, li_50, li_51, li_52, li_53, li_54, li_55, li_56, li_57, li_58, li_59, li_60, li_61, li_63, li_70, li_96, li_97, li_99, li_100, li_101, li_102, li_120, li_122, li_126, li_200, li_255, li_423, li_555, li_999, li_1000, li_1111, li_2968, li_9999, li_10631, li_12345, li_14092, li_21470, li_65536, li_99233, nz_eq, n1_eq, n1_lt, n1_gt, n1_le, n1_ge, n1_sub, n1_add, nm_add, nz_add, nz_add2, z1_ne, z1_lt, z1_le, nI_1, pk_sub, nI_ltI, nI_leI, nI_eq, ni_neg, ni_nneg, ni_pos0, ni_nle0, ni_m1, gI_eq, gI_ne, xI_sJ, xI_sR, xR_sI, xR_sJ, xJ_sI, xJ_sR, gJ_eq, gJ_ne, gR_eq, gR_ne, if_true, if_false, ite_true, ite_false, not_true_eq_false, not_false_eq_true, decide_true, and_self, true_and, and_true, false_and, and_false, or_true, true_or, or_false, false_or, reduceIte, ne_eq]
  | e + 1, i, N + 1, m, hi, hN, hm => by
    obtain ⟨a1, a2, a3⟩ := hm
    have b1 : r * o ≤ 9 := by
      have : r * o ≤ 1 * o := Nat.mul_le_mul_right o (by omega)
      omega
    have n1 : ¬ o ≤ i := by omega
    have n2 : ¬ 9 ≤ i := by omega
    have n3 : ¬ 18 ≤ r * o + i := by omega
    have e9 : Int32.ofNat 9 = nI 9 := rfl
    have g1 : gI m h1 i = nI (Ky i) := a3 i (by omega)
    have hm2 : LnI h0 h1 o (r * o + (i + 1)) Ky (sI (sI m (h0 + 1) (r * o + i) (nI (Ky i))) h0 1 (nI (r * o + i + 1))) := by
      refine ⟨gI_eq _ _ _ _ _ _ rfl rfl, fun j hj => ?_, fun j hj => ?_⟩
      · by_cases z : j = r * o + i
        · subst z
          rw [gI_ne _ _ _ _ _ _ (by omega), gI_eq _ _ _ _ _ _ rfl rfl, Nat.add_comm, Nat.add_mul_mod_self_right, Nat.mod_eq_of_lt (by omega)]
        · rw [gI_ne _ _ _ _ _ _ (by omega), gI_ne _ _ _ _ _ _ (by omega)]
          exact a2 j (by omega)
      · rw [gI_ne _ _ _ _ _ _ (by omega), gI_ne _ _ _ _ _ _ (by omega)]
        exact a3 j hj
    obtain ⟨m', e1, e2, e3⟩ := learn1 (t := t) (p2 := p2) hh l1 l2 o9 r2 e (i + 1) N _ (by omega) (by omega) hm2
    refine ⟨m', fun k41 => ?_, e2, (((Kp.refl m).sI _ (by omega)).sI _ (by omega)).trans e3⟩
    have e1' := e1 k41
    show f_X4_learn_B51 h0 h1 p2 k41 (lop (fun _ _ _ _ _ => none) (f_X4_learn_B51 h0 h1 p2 k41) N) (nI o) (nI t) (nI r) (nI i) m = _
    generalize lop (fun _ _ _ _ _ => none) (f_X4_learn_B51 h0 h1 p2 k41) N = kk at e1' ⊢
    unfold f_X4_learn_B51 f_X4_learn_J103
    simp (disch := omega) only [n1, n2, n3, l1, l2, e9, a1, g1, bnd_e, grd_t, bdI_e, bdV_e, bokA, bokB, ni_inb, ni_cl, nI_add, pk_mul, li_2, li_3, li_4, li_5, li_6, li_7, li_8, li_9, li_10, li_11, li_12, li_13, li_14, li_15, li_16, li_17, li_18, li_19, li_20, li_21, li_22, li_23, li_24, li_25, li_26, li_27, li_28, li_29, li_30, li_31, li_32, li_33, li_34, li_35, li_36, li_37, li_38, li_39, li_40, li_41, li_42, li_43, li_44, li_45, li_46, li_47, li_48, li_49, li_50, li_51, li_52, li_53, li_54, li_55, li_56, li_57, li_58, li_59, li_60, li_61, li_63, li_70, li_96, li_97, li_99, li_100, li_101, li_102, li_120, li_122, li_126, li_200, li_255, li_423, li_555, li_999, li_1000, li_1111, li_2968, li_9999, li_10631, li_12345, li_14092, li_21470, li_65536, li_99233, nz_eq, n1_eq, n1_lt, n1_gt, n1_le, n1_ge, n1_sub, n1_add, nm_add, nz_add, nz_add2, z1_ne, z1_lt, z1_le, nI_1, pk_sub, nI_ltI, nI_leI, nI_eq, ni_neg, ni_nneg, ni_pos0, ni_nle0, ni_m1, gI_eq, gI_ne, xI_sJ, xI_sR, xR_sI, xR_sJ, xJ_sI, xJ_sR, gJ_eq, gJ_ne, gR_eq, gR_ne, if_true, if_false, ite_true, ite_false, not_true_eq_false, not_false_eq_true, decide_true, and_self, true_and, and_true, false_and, and_false, or_true, true_or, or_false, false_or, reduceIte, ne_eq]
    exact e1'
theorem learn2 {h0 h1 o t : Nat} {p2 : Int32} {Ky : Nat → Nat} {m : Mm} (hh : h1 ≠ h0 ∧ h1 ≠ h0 + 1) (l1 : Lp.2.1 h1 = 9) (l2 : Lp.2.1 (h0 + 1) = 18) (o9 : 1 ≤ o ∧ o ≤ 9) (ht : t = 1 ∨ t = 2) (hK : ∀ i, i < o → gI m h1 i = nI (Ky i)) : Sat (f_X4_learn_J31 h0 h1 p2 (nI o) (nI t) m) (fun n => gI n h0 1 = nI (t * o) ∧ (∀ j, j < t * o → gI n (h0 + 1) j = nI (Ky (j % o))) ∧ Kp (fun a k => (a = h0 ∧ k = 1) ∨ a = h0 + 1) m n) := by
  have hm : LnI h0 h1 o (0 * o + 0) Ky (sI m h0 1 0) := by
    rw [Nat.zero_mul]
    exact ⟨gI_eq _ _ _ _ _ _ rfl rfl, fun j hj => absurd hj (Nat.not_lt_zero _), fun i hi => (gI_ne _ _ _ _ _ _ (by omega)).trans (hK i hi)⟩
  obtain ⟨m1, e1, ⟨b1, b2, b3⟩, k1⟩ := learn1 (t := t) (p2 := p2) hh l1 l2 o9 (by decide) o 0 4000 _ (by omega) (by omega) hm
  have k0 : Kp (fun a k => (a = h0 ∧ k = 1) ∨ a = h0 + 1) m m1 := ((Kp.refl m).sI _ (by omega)).trans k1
  have lp : ∀ N x m, lop (fun _ _ _ _ => none) (f_X4_learn_B41 h0 h1 p2) (N + 1) (nI o) (nI t) x m = f_X4_learn_B41 h0 h1 p2 (lop (fun _ _ _ _ => none) (f_X4_learn_B41 h0 h1 p2) N) (nI o) (nI t) x m := fun _ _ _ => rfl
  have go : ∀ (k41 : Int32 → Int32 → Int32 → Mm → Option Mm) (r : Nat) (m m' : Mm), r < t → lop (fun _ _ _ _ _ => none) (f_X4_learn_B51 h0 h1 p2 k41) 4000 (nI o) (nI t) (nI r) (nI 0) m = k41 (nI o) (nI t) (nI (r + 1)) m' → f_X4_learn_B41 h0 h1 p2 k41 (nI o) (nI t) (nI r) m = k41 (nI o) (nI t) (nI (r + 1)) m' := by
    intro k41 r m m' hr he
    unfold f_X4_learn_B41
    rw [if_neg (fun q => absurd ((nI_leI (a := t) (b := r) (by omega) (by omega)).mp q) (by omega))]
    exact he
  have st : ∀ (k41 : Int32 → Int32 → Int32 → Mm → Option Mm) (m : Mm), f_X4_learn_B41 h0 h1 p2 k41 (nI o) (nI t) (nI t) m = some m := by
    intro k41 m
    unfold f_X4_learn_B41
    rw [if_pos (Int32.le_refl _)]
  unfold f_X4_learn_J31
  rw [bnd_e]
  have s1 := go (lop (fun _ _ _ _ => none) (f_X4_learn_B41 h0 h1 p2) 3999) 0 _ _ (by omega) (e1 _)
  have s1' : lop (fun _ _ _ _ => none) (f_X4_learn_B41 h0 h1 p2) 4000 (nI o) (nI t) 0 (sI m h0 1 0) = lop (fun _ _ _ _ => none) (f_X4_learn_B41 h0 h1 p2) 3999 (nI o) (nI t) (nI (0 + 1)) m1 := (lp 3999 (nI 0) _).trans s1
  rw [s1']
  rw [Nat.zero_mul, Nat.zero_add] at b1 b2
  rcases ht with rfl | rfl
  · have s2 : lop (fun _ _ _ _ => none) (f_X4_learn_B41 h0 h1 p2) 3999 (nI o) (nI 1) (nI (0 + 1)) m1 = some m1 := (lp 3998 _ _).trans (st _ _)
    rw [s2, Nat.one_mul]
    exact (Sat_some _ _).mpr ⟨b1, b2, k0⟩
  · have hm2 : LnI h0 h1 o (1 * o + 0) Ky m1 := by
      rw [Nat.one_mul]
      exact ⟨b1, b2, b3⟩
    obtain ⟨m2, f1, ⟨c1, c2, c3⟩, k2⟩ := learn1 (t := 2) (p2 := p2) hh l1 l2 o9 (by decide) o 0 4000 _ (by omega) (by omega) hm2
    have s2 : lop (fun _ _ _ _ => none) (f_X4_learn_B41 h0 h1 p2) 3999 (nI o) (nI 2) (nI (0 + 1)) m1 = lop (fun _ _ _ _ => none) (f_X4_learn_B41 h0 h1 p2) 3998 (nI o) (nI 2) (nI (1 + 1)) m2 := (lp 3998 _ _).trans (go _ 1 _ _ (by omega) (f1 _))
    have s3 : lop (fun _ _ _ _ => none) (f_X4_learn_B41 h0 h1 p2) 3998 (nI o) (nI 2) (nI (1 + 1)) m2 = some m2 := (lp 3997 _ _).trans (st _ _)
    have e2 : 1 * o + o = 2 * o := by omega
    rw [e2] at c1 c2
    rw [s2, s3]
    exact (Sat_some _ _).mpr ⟨c1, c2, k0.trans k2⟩
/-- all keys that he strikes -/
theorem learnQ {h0 h1 len kd : Nat} {Ky : Nat → Nat} {m : Mm} (hh : h1 ≠ h0 ∧ h1 ≠ h0 + 1) (l1 : Lp.2.1 h1 = 9) (l2 : Lp.2.1 (h0 + 1) = 18) (hl : 1 ≤ len ∧ len ≤ 9) (hkd : kd ≤ 3) (g3 : gI m h0 3 = nI kd) (hK : ∀ i, i < len → gI m h1 i = nI (Ky i)) {o sk : Nat} (ho : o = if kd = 1 then min 3 len else len) (hsk : sk = if kd = 2 then 2 * o else o) : Sat (f_X4_learn h0 h1 (nI len) m) (fun n => gI n h0 1 = nI sk ∧ (∀ j, j < sk → gI n (h0 + 1) j = nI (Ky (j % o))) ∧ Kp (fun a k => (a = h0 ∧ k = 1) ∨ a = h0 + 1) m n) := by
  have j17 : ∀ o, 1 ≤ o → o ≤ 9 → (∀ i, i < o → gI m h1 i = nI (Ky i)) → ∀ sk, sk = (if kd = 2 then 2 * o else o) → Sat (f_X4_learn_J17 h0 h1 (nI len) (nI o) m) (fun n => gI n h0 1 = nI sk ∧ (∀ j, j < sk → gI n (h0 + 1) j = nI (Ky (j % o))) ∧ Kp (fun a k => (a = h0 ∧ k = 1) ∨ a = h0 + 1) m n) := by
    intro o o1 o9 hKo sk hs
    unfold f_X4_learn_J17
    rw [g3]
    by_cases z : kd = 2
    · subst z
      rw [if_neg (show ¬ ¬ nI 2 = 2 from fun q => q rfl), hs, if_pos rfl]
      exact learn2 (t := 2) hh l1 l2 ⟨o1, o9⟩ (Or.inr rfl) hKo
    · rw [if_pos (show ¬ nI kd = 2 from fun q => z ((nI_eq (b := 2) (by omega) (by decide)).mp q)), hs, if_neg z]
      have := learn2 (t := 1) (p2 := nI len) hh l1 l2 ⟨o1, o9⟩ (Or.inl rfl) hKo
      rw [Nat.one_mul] at this
      exact this
  unfold f_X4_learn
  rw [g3]
  by_cases z : kd = 1
  · subst z
    rw [if_pos rfl] at ho
    rw [if_neg (show ¬ ¬ nI 1 = 1 from fun q => q rfl), bnd_e]
    have e : (if nI len < 3 then nI len else 3) = nI o := by
      by_cases y : len < 3
      · rw [if_pos (show nI len < 3 from (nI_ltI (b := 3) (by omega) (by decide)).mpr y), ho, Nat.min_eq_right (by omega)]
      · rw [if_neg (show ¬ nI len < 3 from fun q => y ((nI_ltI (b := 3) (by omega) (by decide)).mp q)), ho, Nat.min_eq_left (by omega)]
        rfl
    rw [e]
    exact j17 o (by omega) (by omega) (fun i hi => hK i (by omega)) sk hsk
  · rw [if_neg z] at ho
    rw [if_pos (show ¬ nI kd = 1 from fun q => z ((nI_eq (b := 1) (by omega) (by decide)).mp q)), ho.symm] 
    exact j17 o (by omega) (by omega) (fun i hi => hK i (by omega)) sk hsk
