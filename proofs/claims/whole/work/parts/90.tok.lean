/-! words -/
def encR (B : Nat) : List Nat → Nat
  | [] => 0
  | x :: R => encR B R * B + x
def okL (R : List Nat) : Prop := ∀ x, x ∈ R → 1 ≤ x ∧ x ≤ 26
theorem encR_inj {B : Nat} (hB : 27 ≤ B) : ∀ {R R' : List Nat}, okL R → okL R' → encR B R = encR B R' → R = R'
  | [], [], _, _, _ => rfl
  | [], y :: R', _, h', e => by
    have h1 := h' y (List.mem_cons_self ..)
    have e' : 0 = encR B R' * B + y := e
    omega
  | x :: R, [], h, _, e => by
    have h1 := h x (List.mem_cons_self ..)
    have e' : encR B R * B + x = 0 := e
    omega
  | x :: R, y :: R', h, h', e => by
    have h1 := h x (List.mem_cons_self ..)
    have h2 := h' y (List.mem_cons_self ..)
    have e' : encR B R * B + x = encR B R' * B + y := e
    have m1 : (encR B R * B + x) % B = x := by rw [Nat.add_comm, Nat.add_mul_mod_self_right, Nat.mod_eq_of_lt (by omega)]
    have m2 : (encR B R' * B + y) % B = y := by rw [Nat.add_comm, Nat.add_mul_mod_self_right, Nat.mod_eq_of_lt (by omega)]
    have xy : x = y := by rw [← m1, ← m2, e']
    subst xy
    have e2 : encR B R * B = encR B R' * B := by omega
    have e3 := Nat.eq_of_mul_eq_mul_right (by omega : 0 < B) e2
    rw [encR_inj hB (fun z hz => h z (List.mem_cons_of_mem _ hz)) (fun z hz => h' z (List.mem_cons_of_mem _ hz)) e3]
theorem encR_b {B : Nat} (hB : 27 ≤ B) : ∀ {R : List Nat}, okL R → encR B R < B ^ R.length
  | [], _ => Nat.zero_lt_one
  | x :: R, h => by
    have h1 := h x (List.mem_cons_self ..)
    have ih := encR_b hB (fun z hz => h z (List.mem_cons_of_mem _ hz))
    show encR B R * B + x < B ^ (R.length + 1)
    rw [Nat.pow_succ]
    have : (encR B R + 1) * B ≤ B ^ R.length * B := Nat.mul_le_mul_right B ih
    rw [Nat.add_mul] at this
    omega
theorem encR_l {B : Nat} (hB : 27 ≤ B) (h32 : B ≤ 32) {R : List Nat} (h : okL R) (h8 : R.length ≤ 8) : encR B R < 2 ^ 40 := by
  have h1 := encR_b hB h
  have h2 : B ^ R.length ≤ 32 ^ 8 := Nat.le_trans (Nat.pow_le_pow_left h32 _) (Nat.pow_le_pow_right (by decide) h8)
  have h3 : (32 : Nat) ^ 8 = 2 ^ 40 := by decide
  omega
theorem nJ_inj {a b : Nat} (ha : a < 2 ^ 63) (hb : b < 2 ^ 63) (h : nJ a = nJ b) : a = b := by
  have h1 : (nJ a).toInt = (a : Int) := Int64.toInt_ofNat_of_lt ha
  have h2 : (nJ b).toInt = (b : Int) := Int64.toInt_ofNat_of_lt hb
  rw [h] at h1
  omega
theorem enc_eq {B : Nat} (hB : 27 ≤ B) (h32 : B ≤ 32) {R R' : List Nat} (h : okL R) (h8 : R.length ≤ 8) (h' : okL R') (h8' : R'.length ≤ 8) : nJ (encR B R) = nJ (encR B R') ↔ R = R' := by
  have b1 := encR_l hB h32 h h8
  have b2 := encR_l hB h32 h' h8'
  exact ⟨fun q => encR_inj hB h h' (nJ_inj (by omega) (by omega) q), fun q => by rw [q]⟩
def wch (i : Nat) : Nat := ((ksB.getD 0 []).getD i 0).toNatClampNeg
def wst : Nat → Nat × List Nat
  | 0 => (0, [])
  | i + 1 => if wch i = 32 then ((wst i).1 + 1, []) else ((wst i).1, (wch i - 96) :: (wst i).2)
def wds : List (List Nat) := [[5, 14, 21, 20], [18, 5, 19, 19, 1, 16], [19, 25, 1, 12, 16], [12, 12, 9, 11, 19], [25, 8, 19], [19, 25, 1, 20, 19], [19, 5, 13, 15, 3], [19, 20, 9, 1, 23], [8, 3, 1, 5], [14, 5, 16, 15], [15, 20], [5, 3, 9, 18, 16], [19, 25, 15, 10], [19, 18, 1, 5, 23], [25, 1, 4], [4, 14, 5, 13], [14, 9, 1, 12, 16], [18, 5, 7, 14, 9, 6], [11, 14, 21, 18, 4], [18, 5, 14, 18, 1, 5], [20, 15, 14], [4, 14, 1], [18, 15], [5, 12, 2, 1], [14, 18, 15, 23], [19, 18, 5, 8, 20, 15], [5, 13, 1, 19], [4, 5, 19, 21], [7, 14, 15, 12]]
theorem wst_ok : ∀ i, i < 154 → (wch i = 32 → (wst i).2 = wds.getD (wst i).1 [] ∧ (wst i).1 < 29) ∧ (wch i ≠ 32 → 97 ≤ wch i ∧ wch i ≤ 122) := by decide +kernel
theorem wst_e : (wst 154).1 = 29 := by decide +kernel
theorem wch_e : ∀ i, i < 154 → ((((ksB.getD 0 []).getD i 0) &&& 255).toUInt32 % 65536).toInt32 = nI (wch i) ∧ vp_nar .char (nI (wch i)) = nI (wch i) := by decide +kernel
theorem wds_ok : ∀ k, k < 29 → (∀ x, x ∈ wds.getD k [] → 1 ≤ x ∧ x ≤ 26) ∧ (wds.getD k []).length ≤ 8 := by decide +kernel
def wix (R : List Nat) : List (List Nat) → Nat
  | [] => 0
  | w :: ws => if w = R then 0 else wix R ws + 1
def wid (R : List Nat) : Nat := wix R wds
theorem wix_le (R : List Nat) : ∀ ws, wix R ws ≤ ws.length
  | [] => Nat.le_refl _
  | w :: ws => by
    have := wix_le R ws
    unfold wix
    split
    · exact Nat.zero_le _
    · show wix R ws + 1 ≤ ws.length + 1
      omega
theorem wix_eq (R : List Nat) : ∀ (ws : List (List Nat)) (k : Nat), k ≤ ws.length → (∀ j, j < k → ws.getD j [] ≠ R) → (k < ws.length → ws.getD k [] = R) → wix R ws = k
  | [], 0, _, _, _ => rfl
  | [], k + 1, h, _, _ => absurd h (Nat.not_succ_le_zero _)
  | w :: ws, 0, _, _, h => by
    unfold wix
    have h' : w = R := h (Nat.zero_lt_succ _)
    rw [if_pos h']
  | w :: ws, k + 1, h1, h2, h3 => by
    unfold wix
    have h0 : w ≠ R := h2 0 (Nat.zero_lt_succ _)
    rw [if_neg h0, wix_eq R ws k (Nat.le_of_succ_le_succ h1) (fun j hj => h2 (j + 1) (Nat.succ_lt_succ hj)) (fun q => h3 (Nat.succ_lt_succ q))]
theorem wix_at (R : List Nat) : ∀ (ws : List (List Nat)), wix R ws < ws.length → ws.getD (wix R ws) [] = R
  | [], h => absurd h (Nat.not_lt_zero _)
  | w :: ws, h => by
    unfold wix at h ⊢
    by_cases z : w = R
    · rw [if_pos z]; exact z
    · rw [if_neg z] at h ⊢
      exact wix_at R ws (Nat.lt_of_succ_lt_succ h)
theorem wid_le (R : List Nat) : wid R ≤ 29 := wix_le R wds
theorem wid_at {R : List Nat} {k : Nat} (hk : k < 29) (h : wid R = k) : R = wds.getD k [] := by
  have := wix_at R wds (by show wid R < 29; omega)
  rw [show wix R wds = k from h] at this
  exact this.symm
theorem wid_of : ∀ k, k < 29 → wid (wds.getD k []) = k := by decide +kernel
theorem wid_iff {R : List Nat} {k : Nat} (hk : k < 29) : wid R = k ↔ R = wds.getD k [] := ⟨wid_at hk, fun h => by rw [h]; exact wid_of k hk⟩
theorem lgc (a b : Int64) : (lg_cmp a b = 0) ↔ a = b := lg_cmp_eq a b
theorem cP (i : Nat) (hi : i < 154) (m : Mm) : f_J0_charAt_5068e 0 (nI i) m = some (nI (wch i), m) := by
  obtain ⟨e1, e2⟩ := wch_e i hi
  have l0 : ksL.getD 0 0 = 154 := rfl
  have l1 : Int32.ofNat 154 = nI 154 := rfl
  have d1 : decide (vp_nar .char (nI (wch i)) = nI (wch i)) = true := decide_eq_true e2
  unfold f_J0_charAt_5068e f_J0_isLatin1_aae02 f_J1_charAt_3b067 f_J0_checkIndex_df160 f_J3_checkIndex_8e157
  simp (disch := omega) only [l0, l1, hi, bnd_e, grd_t, bdI_e, bdV_e, bokA, bokB, ni_inb, ni_cl, nI_add, pk_mul, li_2, li_3, li_4, li_5, li_6, li_7, li_8, li_9, li_10, li_11, li_12, li_13, li_14, li_15, li_16, li_17, li_18, li_19, li_20, li_21, li_22, li_23, li_24, li_25, li_26, li_27, li_28, li_29, li_30, li_31, li_32, li_33, li_34, li_35, li_36, li_37, li_38, li_39, li_40, li_41, li_42, li_43, li_44, li_45, li_46, li_47, li_48, li_49, li_50, li_51, li_52, li_53, li_54, li_55, li_56, li_57, li_58, li_59, li_60, li_61, li_63, li_70, li_96, li_97, li_99, li_100, li_101, li_102, li_120, li_122, li_126, li_200, li_255, li_423, li_555, li_999, li_1000, li_1111, li_2968, li_9999, li_10631, li_12345, li_14092, li_21470, li_65536, li_99233, nz_eq, n1_eq, n1_lt, n1_gt, n1_le, n1_ge, n1_sub, n1_add, nm_add, nz_add, nz_add2, z1_ne, z1_lt, z1_le, nI_1, pk_sub, nI_ltI, nI_leI, nI_eq, ni_neg, ni_nneg, ni_pos0, ni_nle0, ni_m1, gI_eq, gI_ne, xI_sJ, xI_sR, xR_sI, xR_sJ, xJ_sI, xJ_sR, gJ_eq, gJ_ne, gR_eq, gR_ne, if_true, if_false, ite_true, ite_false, not_true_eq_false, not_false_eq_true, decide_true, and_self, true_and, and_true, false_and, and_false, or_true, true_or, or_false, false_or, reduceIte, ne_eq]
  have e1' : ((((ksB.getD 0 []).getD i 0) &&& nI 255).toUInt32 % 65536).toInt32 = nI (wch i) := e1
  simp (disch := omega) only [e1', d1, bdV_e, bnd_e, grd_t, bdI_e, bdV_e, bokA, bokB, ni_inb, ni_cl, nI_add, pk_mul, li_2, li_3, li_4, li_5, li_6, li_7, li_8, li_9, li_10, li_11, li_12, li_13, li_14, li_15, li_16, li_17, li_18, li_19, li_20, li_21, li_22, li_23, li_24, li_25, li_26, li_27, li_28, li_29, li_30, li_31, li_32, li_33, li_34, li_35, li_36, li_37, li_38, li_39, li_40, li_41, li_42, li_43, li_44, li_45, li_46, li_47, li_48, li_49, li_50, li_51, li_52, li_53, li_54, li_55, li_56, li_57, li_58, li_59, li_60, li_61, li_63, li_70, li_96, li_97, li_99, li_100, li_101, li_102, li_120, li_122, li_126, li_200, li_255, li_423, li_555, li_999, li_1000, li_1111, li_2968, li_9999, li_10631, li_12345, li_14092, li_21470, li_65536, li_99233, nz_eq, n1_eq, n1_lt, n1_gt, n1_le, n1_ge, n1_sub, n1_add, nm_add, nz_add, nz_add2, z1_ne, z1_lt, z1_le, nI_1, pk_sub, nI_ltI, nI_leI, nI_eq, ni_neg, ni_nneg, ni_pos0, ni_nle0, ni_m1, gI_eq, gI_ne, xI_sJ, xI_sR, xR_sI, xR_sJ, xJ_sI, xJ_sR, gJ_eq, gJ_ne, gR_eq, gR_ne, if_true, if_false, ite_true, ite_false, not_true_eq_false, not_false_eq_true, decide_true, and_self, true_and, and_true, false_and, and_false, or_true, true_or, or_false, false_or, reduceIte, ne_eq]
theorem cod0 : decide (vp_nar .byte 0 = 0) = true := by decide +kernel
theorem len_0 : (Int32.ofNat (ksL.getD 0 0)) >>> ((0 : Int32) &&& 31) = nI 154 := by decide +kernel
theorem len_1 : (Int32.ofNat (ksL.getD 1 0)) >>> ((0 : Int32) &&& 31) = nI 8 := by decide +kernel
theorem lenP (m : Mm) : f_J0_length_8abf5 0 m = some (nI 154, m) := by
  unfold f_J0_length_8abf5 f_J0_coder_7d493
  rw [cod0, grd_t, bdI_e, len_0]
theorem lenS (m : Mm) : f_J0_length_8abf5 1 m = some (nI 8, m) := by
  unfold f_J0_length_8abf5 f_J0_coder_7d493
  rw [cod0, grd_t, bdI_e, len_1]
theorem lj_32 : (32 : Int64) = nJ 32 := rfl
theorem encR_cons (B x : Nat) (R : List Nat) : encR B (x :: R) = encR B R * B + x := rfl
theorem wordP {R : List Nat} (hR : okL R) (h8 : R.length ≤ 8) (m : Mm) : Sat (f_X9_wordNumber (nJ (encR 32 R)) m) (fun q => q.1 = nI (wid R) ∧ q.2 = m) := by
  unfold f_X9_wordNumber
  obtain ⟨N, hN⟩ : ∃ N, N = 154 := ⟨_, rfl⟩
  refine lopR4 (fun n x1 x2 x3 m' => ∃ i, i ≤ N ∧ n = N - i ∧ x1 = nJ (encR 32 (wst i).2) ∧ x2 = nI (wst i).1 ∧ x3 = nI i ∧ m' = m ∧ (∀ j, j < (wst i).1 → wds.getD j [] ≠ R) ∧ (wst i).1 ≤ 29) ?_ 4000 N (by omega) _ _ _ _ ⟨0, by omega, by omega, rfl, rfl, rfl, rfl, fun j hj => absurd hj (Nat.not_lt_zero _), Nat.zero_le _⟩
  intro n x1 x2 x3 m' k ⟨i, hi, hn, e1, e2, e3, e4, hj, hle⟩ hk
  subst e1
  subst e2
  subst e3
  subst e4
  unfold f_X9_wordNumber_B8 f_X9_wordNumber_J66
  by_cases z : i = N
  · have n1 : 154 ≤ i := by omega
    simp (disch := omega) only [lenP, n1, bnd_e, grd_t, bdI_e, bdV_e, bokA, bokB, ni_inb, ni_cl, nI_add, pk_mul, li_2, li_3, li_4, li_5, li_6, li_7, li_8, li_9, li_10, li_11, li_12, li_13, li_14, li_15, li_16, li_17, li_18, li_19, li_20, li_21, li_22, li_23, li_24, li_25, li_26, li_27, li_28, li_29, li_30, li_31, li_32, li_33, li_34, li_35, li_36, li_37, li_38, li_39, li_40, li_41, li_42, li_43, li_44, li_45, li_46, li_47, li_48, li_49, li_50, li_51, li_52, li_53, li_54, li_55, li_56, li_57, li_58, li_59, li_60, li_61, li_63, li_70, li_96, li_97, li_99, li_100, li_101, li_102, li_120, li_122, li_126, li_200, li_255, li_423, li_555, li_999, li_1000, li_1111, li_2968, li_9999, li_10631, li_12345, li_14092, li_21470, li_65536, li_99233, nz_eq, n1_eq, n1_lt, n1_gt, n1_le, n1_ge, n1_sub, n1_add, nm_add, nz_add, nz_add2, z1_ne, z1_lt, z1_le, nI_1, pk_sub, nI_ltI, nI_leI, nI_eq, ni_neg, ni_nneg, ni_pos0, ni_nle0, ni_m1, gI_eq, gI_ne, xI_sJ, xI_sR, xR_sI, xR_sJ, xJ_sI, xJ_sR, gJ_eq, gJ_ne, gR_eq, gR_ne, if_true, if_false, ite_true, ite_false, not_true_eq_false, not_false_eq_true, decide_true, and_self, true_and, and_true, false_and, and_false, or_true, true_or, or_false, false_or, reduceIte, ne_eq]
    refine (Sat_some _ _).mpr ⟨?_, rfl⟩
    have w29 : (wst i).1 = 29 := by rw [z, hN]; exact wst_e
    rw [w29] at hj
    have : wid R = 29 := wix_eq R wds 29 (Nat.le_refl _) hj (fun q => absurd q (Nat.lt_irrefl _))
    rw [this]
  · have n1 : ¬ 154 ≤ i := by omega
    have ok := wst_ok i (by omega)
    have ws : wst (i + 1) = if wch i = 32 then ((wst i).1 + 1, []) else ((wst i).1, (wch i - 96) :: (wst i).2) := rfl
    by_cases y : wch i = 32
    · rw [if_pos y] at ws
      obtain ⟨o1, o2⟩ := ok.1 y
      have od := wds_ok _ o2
      have en := enc_eq (B := 32) (by decide) (by decide) od.1 od.2 hR h8
      rw [o1]
      by_cases v : wds.getD (wst i).1 [] = R
      · have lc : lg_cmp (nJ (encR 32 (wds.getD (wst i).1 []))) (nJ (encR 32 R)) = 0 := (lgc _ _).mpr (en.mpr v)
        simp (disch := omega) only [lenP, n1, cP i (by omega), y, lc, bnd_e, grd_t, bdI_e, bdV_e, bokA, bokB, ni_inb, ni_cl, nI_add, pk_mul, li_2, li_3, li_4, li_5, li_6, li_7, li_8, li_9, li_10, li_11, li_12, li_13, li_14, li_15, li_16, li_17, li_18, li_19, li_20, li_21, li_22, li_23, li_24, li_25, li_26, li_27, li_28, li_29, li_30, li_31, li_32, li_33, li_34, li_35, li_36, li_37, li_38, li_39, li_40, li_41, li_42, li_43, li_44, li_45, li_46, li_47, li_48, li_49, li_50, li_51, li_52, li_53, li_54, li_55, li_56, li_57, li_58, li_59, li_60, li_61, li_63, li_70, li_96, li_97, li_99, li_100, li_101, li_102, li_120, li_122, li_126, li_200, li_255, li_423, li_555, li_999, li_1000, li_1111, li_2968, li_9999, li_10631, li_12345, li_14092, li_21470, li_65536, li_99233, nz_eq, n1_eq, n1_lt, n1_gt, n1_le, n1_ge, n1_sub, n1_add, nm_add, nz_add, nz_add2, z1_ne, z1_lt, z1_le, nI_1, pk_sub, nI_ltI, nI_leI, nI_eq, ni_neg, ni_nneg, ni_pos0, ni_nle0, ni_m1, gI_eq, gI_ne, xI_sJ, xI_sR, xR_sI, xR_sJ, xJ_sI, xJ_sR, gJ_eq, gJ_ne, gR_eq, gR_ne, if_true, if_false, ite_true, ite_false, not_true_eq_false, not_false_eq_true, decide_true, and_self, true_and, and_true, false_and, and_false, or_true, true_or, or_false, false_or, reduceIte, ne_eq]
        refine (Sat_some _ _).mpr ⟨?_, rfl⟩
        have : wid R = (wst i).1 := wix_eq R wds _ hle hj (fun _ => v)
        rw [this]
      · have lc : ¬ lg_cmp (nJ (encR 32 (wds.getD (wst i).1 []))) (nJ (encR 32 R)) = 0 := fun q => v (en.mp ((lgc _ _).mp q))
        simp (disch := omega) only [lenP, n1, cP i (by omega), y, lc, bnd_e, grd_t, bdI_e, bdV_e, bokA, bokB, ni_inb, ni_cl, nI_add, pk_mul, li_2, li_3, li_4, li_5, li_6, li_7, li_8, li_9, li_10, li_11, li_12, li_13, li_14, li_15, li_16, li_17, li_18, li_19, li_20, li_21, li_22, li_23, li_24, li_25, li_26, li_27, li_28, li_29, li_30, li_31, li_32, li_33, li_34, li_35, li_36, li_37, li_38, li_39, li_40, li_41, li_42, li_43, li_44, li_45, li_46, li_47, li_48, li_49, li_50, li_51, li_52, li_53, li_54, li_55, li_56, li_57, li_58, li_59, li_60, li_61, li_63, li_70, li_96, li_97, li_99, li_100, li_101, li_102, li_120, li_122, li_126, li_200, li_255, li_423, li_555, li_999, li_1000, li_1111, li_2968, li_9999, li_10631, li_12345, li_14092, li_21470, li_65536, li_99233, nz_eq, n1_eq, n1_lt, n1_gt, n1_le, n1_ge, n1_sub, n1_add, nm_add, nz_add, nz_add2, z1_ne, z1_lt, z1_le, nI_1, pk_sub, nI_ltI, nI_leI, nI_eq, ni_neg, ni_nneg, ni_pos0, ni_nle0, ni_m1, gI_eq, gI_ne, xI_sJ, xI_sR, xR_sI, xR_sJ, xJ_sI, xJ_sR, gJ_eq, gJ_ne, gR_eq, gR_ne, if_true, if_false, ite_true, ite_false, not_true_eq_false, not_false_eq_true, decide_true, and_self, true_and, and_true, false_and, and_false, or_true, true_or, or_false, false_or, reduceIte, ne_eq]
        refine hk (N - (i + 1)) _ _ _ _ (by omega) ⟨i + 1, by omega, rfl, by rw [ws]; rfl, by rw [ws], rfl, rfl, fun j hj' => ?_, by rw [ws]; exact o2⟩
        rw [ws] at hj'
        have hj'' : j < (wst i).1 + 1 := hj'
        by_cases u : j = (wst i).1
        · rw [u]; exact v
        · exact hj j (by omega)
    · rw [if_neg y] at ws
      obtain ⟨o1, o2⟩ := ok.2 y
      have s1 : nI (wch i) - nI 97 = nI (wch i - 97) := pk_sub o1
      have s2 : (nI (wch i - 96)).toInt64 = nJ (wch i - 96) := nI_J (by omega)
      have s3 : wch i - 97 + 1 = wch i - 96 := by omega
      simp (disch := omega) only [lenP, n1, cP i (by omega), y, s1, s2, lj_32, nJ_mul, nJ_add, s3, bnd_e, grd_t, bdI_e, bdV_e, bokA, bokB, ni_inb, ni_cl, nI_add, pk_mul, li_2, li_3, li_4, li_5, li_6, li_7, li_8, li_9, li_10, li_11, li_12, li_13, li_14, li_15, li_16, li_17, li_18, li_19, li_20, li_21, li_22, li_23, li_24, li_25, li_26, li_27, li_28, li_29, li_30, li_31, li_32, li_33, li_34, li_35, li_36, li_37, li_38, li_39, li_40, li_41, li_42, li_43, li_44, li_45, li_46, li_47, li_48, li_49, li_50, li_51, li_52, li_53, li_54, li_55, li_56, li_57, li_58, li_59, li_60, li_61, li_63, li_70, li_96, li_97, li_99, li_100, li_101, li_102, li_120, li_122, li_126, li_200, li_255, li_423, li_555, li_999, li_1000, li_1111, li_2968, li_9999, li_10631, li_12345, li_14092, li_21470, li_65536, li_99233, nz_eq, n1_eq, n1_lt, n1_gt, n1_le, n1_ge, n1_sub, n1_add, nm_add, nz_add, nz_add2, z1_ne, z1_lt, z1_le, nI_1, pk_sub, nI_ltI, nI_leI, nI_eq, ni_neg, ni_nneg, ni_pos0, ni_nle0, ni_m1, gI_eq, gI_ne, xI_sJ, xI_sR, xR_sI, xR_sJ, xJ_sI, xJ_sR, gJ_eq, gJ_ne, gR_eq, gR_ne, if_true, if_false, ite_true, ite_false, not_true_eq_false, not_false_eq_true, decide_true, and_self, true_and, and_true, false_and, and_false, or_true, true_or, or_false, false_or, reduceIte, ne_eq]
      exact hk (N - (i + 1)) _ _ _ _ (by omega) ⟨i + 1, by omega, rfl, by rw [ws, encR_cons], by rw [ws], rfl, rfl, by rw [ws]; exact hj, by rw [ws]; exact hle⟩
def sgs : List Nat := [40, 41, 60, 61, 43, 45, 42, 59]
theorem sgs_e : ∀ j, j < 8 → (ksB.getD 1 []).getD j 0 = nI (sgs.getD j 0) ∧ sgs.getD j 0 < 127 := by decide +kernel
theorem ch8 : ∀ c, c < 127 → (nI c).toInt8.toInt32 = nI c := by decide +kernel
theorem indexP {c : Nat} (hc : c < 127) (m : Mm) : Sat (f_J0_indexOf_0f7a4 1 (nI c) m) (fun q => (q.1 < 0 ↔ c ∉ sgs) ∧ q.2 = m) := by
  have l1 : ksL.getD 1 0 = 8 := rfl
  have l2 : Int32.ofNat 8 = nI 8 := rfl
  have n255 : ¬ 255 < c := by omega
  have n88 : ¬ 8 < 8 := by decide
  have p08 : 0 < 8 := by decide
  unfold f_J0_indexOf_0f7a4 f_J0_indexOf_7cf53 f_J0_isLatin1_aae02 f_J1_indexOf_4cfef f_J1_canEncode_9a6ad f_J1_indexOfChar_4cfef
  have z00 : ¬ (0 : Int32) < 0 := by decide
  simp (disch := omega) only [lenS, n255, l1, l2, n88, p08, z00, ch8 c hc, bnd_e, grd_t, bdI_e, bdV_e, bokA, bokB, ni_inb, ni_cl, nI_add, pk_mul, li_2, li_3, li_4, li_5, li_6, li_7, li_8, li_9, li_10, li_11, li_12, li_13, li_14, li_15, li_16, li_17, li_18, li_19, li_20, li_21, li_22, li_23, li_24, li_25, li_26, li_27, li_28, li_29, li_30, li_31, li_32, li_33, li_34, li_35, li_36, li_37, li_38, li_39, li_40, li_41, li_42, li_43, li_44, li_45, li_46, li_47, li_48, li_49, li_50, li_51, li_52, li_53, li_54, li_55, li_56, li_57, li_58, li_59, li_60, li_61, li_63, li_70, li_96, li_97, li_99, li_100, li_101, li_102, li_120, li_122, li_126, li_200, li_255, li_423, li_555, li_999, li_1000, li_1111, li_2968, li_9999, li_10631, li_12345, li_14092, li_21470, li_65536, li_99233, nz_eq, n1_eq, n1_lt, n1_gt, n1_le, n1_ge, n1_sub, n1_add, nm_add, nz_add, nz_add2, z1_ne, z1_lt, z1_le, nI_1, pk_sub, nI_ltI, nI_leI, nI_eq, ni_neg, ni_nneg, ni_pos0, ni_nle0, ni_m1, gI_eq, gI_ne, xI_sJ, xI_sR, xR_sI, xR_sJ, xJ_sI, xJ_sR, gJ_eq, gJ_ne, gR_eq, gR_ne, if_true, if_false, ite_true, ite_false, not_true_eq_false, not_false_eq_true, decide_true, and_self, true_and, and_true, false_and, and_false, or_true, true_or, or_false, false_or, reduceIte, ne_eq]
  simp only [Sat_bdI, Sat_some]
  refine cnt2 (A := Int32) 0 8 (by decide) (by decide) (fun i a n => a = nI c ∧ n = m ∧ ∀ j, j < i → sgs.getD j 0 ≠ c) ?_ ?_ ⟨rfl, rfl, fun j hj => absurd hj (by omega)⟩
  · intro i a n k _ hi ⟨a1, a2, a3⟩ hk
    subst a1
    subst a2
    have n1 : ¬ 8 ≤ i := by omega
    obtain ⟨e1, e2⟩ := sgs_e i hi
    unfold f_J1_indexOfChar_4cfef_B7
    by_cases z : sgs.getD i 0 = c
    · simp (disch := omega) only [n1, l1, e1, z, bnd_e, grd_t, bdI_e, bdV_e, bokA, bokB, ni_inb, ni_cl, nI_add, pk_mul, li_2, li_3, li_4, li_5, li_6, li_7, li_8, li_9, li_10, li_11, li_12, li_13, li_14, li_15, li_16, li_17, li_18, li_19, li_20, li_21, li_22, li_23, li_24, li_25, li_26, li_27, li_28, li_29, li_30, li_31, li_32, li_33, li_34, li_35, li_36, li_37, li_38, li_39, li_40, li_41, li_42, li_43, li_44, li_45, li_46, li_47, li_48, li_49, li_50, li_51, li_52, li_53, li_54, li_55, li_56, li_57, li_58, li_59, li_60, li_61, li_63, li_70, li_96, li_97, li_99, li_100, li_101, li_102, li_120, li_122, li_126, li_200, li_255, li_423, li_555, li_999, li_1000, li_1111, li_2968, li_9999, li_10631, li_12345, li_14092, li_21470, li_65536, li_99233, nz_eq, n1_eq, n1_lt, n1_gt, n1_le, n1_ge, n1_sub, n1_add, nm_add, nz_add, nz_add2, z1_ne, z1_lt, z1_le, nI_1, pk_sub, nI_ltI, nI_leI, nI_eq, ni_neg, ni_nneg, ni_pos0, ni_nle0, ni_m1, gI_eq, gI_ne, xI_sJ, xI_sR, xR_sI, xR_sJ, xJ_sI, xJ_sR, gJ_eq, gJ_ne, gR_eq, gR_ne, if_true, if_false, ite_true, ite_false, not_true_eq_false, not_false_eq_true, decide_true, and_self, true_and, and_true, false_and, and_false, or_true, true_or, or_false, false_or, reduceIte, ne_eq]
      refine (Sat_some _ _).mpr ⟨⟨fun q => absurd q (nI_pos (by omega)), fun q => absurd ?_ q⟩, rfl⟩
      rw [← z]
      exact getD_mem hi
    · simp (disch := omega) only [n1, l1, e1, z, bnd_e, grd_t, bdI_e, bdV_e, bokA, bokB, ni_inb, ni_cl, nI_add, pk_mul, li_2, li_3, li_4, li_5, li_6, li_7, li_8, li_9, li_10, li_11, li_12, li_13, li_14, li_15, li_16, li_17, li_18, li_19, li_20, li_21, li_22, li_23, li_24, li_25, li_26, li_27, li_28, li_29, li_30, li_31, li_32, li_33, li_34, li_35, li_36, li_37, li_38, li_39, li_40, li_41, li_42, li_43, li_44, li_45, li_46, li_47, li_48, li_49, li_50, li_51, li_52, li_53, li_54, li_55, li_56, li_57, li_58, li_59, li_60, li_61, li_63, li_70, li_96, li_97, li_99, li_100, li_101, li_102, li_120, li_122, li_126, li_200, li_255, li_423, li_555, li_999, li_1000, li_1111, li_2968, li_9999, li_10631, li_12345, li_14092, li_21470, li_65536, li_99233, nz_eq, n1_eq, n1_lt, n1_gt, n1_le, n1_ge, n1_sub, n1_add, nm_add, nz_add, nz_add2, z1_ne, z1_lt, z1_le, nI_1, pk_sub, nI_ltI, nI_leI, nI_eq, ni_neg, ni_nneg, ni_pos0, ni_nle0, ni_m1, gI_eq, gI_ne, xI_sJ, xI_sR, xR_sI, xR_sJ, xJ_sI, xJ_sR, gJ_eq, gJ_ne, gR_eq, gR_ne, if_true, if_false, ite_true, ite_false, not_true_eq_false, not_false_eq_true, decide_true, and_self, true_and, and_true, false_and, and_false, or_true, true_or, or_false, false_or, reduceIte, ne_eq]
      refine hk _ _ ⟨rfl, rfl, fun j hj => ?_⟩
      by_cases y : j = i
      · rw [y]; exact z
      · exact a3 j (by omega)
  · intro a n k ⟨a1, a2, a3⟩
    subst a1
    subst a2
    unfold f_J1_indexOfChar_4cfef_B7
    simp (disch := omega) only [Nat.le_refl, bnd_e, grd_t, bdI_e, bdV_e, bokA, bokB, ni_inb, ni_cl, nI_add, pk_mul, li_2, li_3, li_4, li_5, li_6, li_7, li_8, li_9, li_10, li_11, li_12, li_13, li_14, li_15, li_16, li_17, li_18, li_19, li_20, li_21, li_22, li_23, li_24, li_25, li_26, li_27, li_28, li_29, li_30, li_31, li_32, li_33, li_34, li_35, li_36, li_37, li_38, li_39, li_40, li_41, li_42, li_43, li_44, li_45, li_46, li_47, li_48, li_49, li_50, li_51, li_52, li_53, li_54, li_55, li_56, li_57, li_58, li_59, li_60, li_61, li_63, li_70, li_96, li_97, li_99, li_100, li_101, li_102, li_120, li_122, li_126, li_200, li_255, li_423, li_555, li_999, li_1000, li_1111, li_2968, li_9999, li_10631, li_12345, li_14092, li_21470, li_65536, li_99233, nz_eq, n1_eq, n1_lt, n1_gt, n1_le, n1_ge, n1_sub, n1_add, nm_add, nz_add, nz_add2, z1_ne, z1_lt, z1_le, nI_1, pk_sub, nI_ltI, nI_leI, nI_eq, ni_neg, ni_nneg, ni_pos0, ni_nle0, ni_m1, gI_eq, gI_ne, xI_sJ, xI_sR, xR_sI, xR_sJ, xJ_sI, xJ_sR, gJ_eq, gJ_ne, gR_eq, gR_ne, if_true, if_false, ite_true, ite_false, not_true_eq_false, not_false_eq_true, decide_true, and_self, true_and, and_true, false_and, and_false, or_true, true_or, or_false, false_or, reduceIte, ne_eq]
    refine (Sat_some _ _).mpr ⟨⟨fun _ q => ?_, fun _ => by show (-1 : Int32) < 0; decide⟩, rfl⟩
    obtain ⟨j, hj, e⟩ := mem_ix q
    exact a3 j hj e
