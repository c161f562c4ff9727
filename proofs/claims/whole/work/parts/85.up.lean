/-! 33: months -/
def nJ (n : Nat) : Int64 := Int64.ofNat n
theorem nJ_add (a b : Nat) : nJ a + nJ b = nJ (a + b) := (Int64.ofNat_add a b).symm
theorem nJ_mul (a b : Nat) : nJ a * nJ b = nJ (a * b) := (Int64.ofNat_mul a b).symm
theorem nJ_and (a b : Nat) : nJ a &&& nJ b = nJ (a &&& b) := by
  apply Int64.toBitVec_inj.mp
  rw [Int64.toBitVec_and]
  exact (BitVec.ofNat_and ..).symm
theorem nJ_sub {a b : Nat} (h : b ≤ a) : nJ a - nJ b = nJ (a - b) := (Int64.ofNat_sub a b h).symm
theorem nJ_div {a b : Nat} (ha : a < 2 ^ 63) (hb : b < 2 ^ 63) : nJ a / nJ b = nJ (a / b) := (Int64.ofNat_div ha hb).symm
theorem nJ_I (a : Nat) : (nJ a).toInt32 = nI a := Int64.toInt32_ofNat' 
theorem nI_J {a : Nat} (h : a < 2 ^ 31) : (nI a).toInt64 = nJ a := by
  apply Int64.toInt_inj.mp
  rw [Int32.toInt_toInt64]
  have h1 : (nI a).toInt = (a : Int) := Int32.toInt_ofNat_of_lt h
  have h2 : (nJ a).toInt = (a : Int) := Int64.toInt_ofNat_of_lt (by omega)
  rw [h1, h2]
theorem mk_mod (a : Nat) : a &&& 2147483647 = a % 2147483648 := Nat.and_two_pow_sub_one_eq_mod a 31
theorem lj_1 : (1103515245 : Int64) = nJ 1103515245 := rfl
theorem lj_2 : (12345 : Int64) = nJ 12345 := rfl
theorem lj_3 : (2147483647 : Int64) = nJ 2147483647 := rfl
theorem lj_4 : (2147483648 : Int64) = nJ 2147483648 := rfl
theorem lj_5 : (65536 : Int64) = nJ 65536 := rfl
def gNx (g : Nat) : Nat := (g * 1103515245 + 12345) % 2147483648
theorem gNx_b (g : Nat) : gNx g < 2 ^ 31 := Nat.mod_lt _ (by decide)
theorem ne_J {a : Nat} (h : a < 2 ^ 31) (h0 : a ≠ 0) : ¬ (nI a).toInt64 = 0 := by
  rw [nI_J h]
  intro q
  have h2 : (nJ a).toInt = (a : Int) := Int64.toInt_ofNat_of_lt (by omega)
  rw [q] at h2
  have : (0 : Int64).toInt = 0 := rfl
  omega
theorem drawP {g md : Nat} {m : Mm} (hg : g < 2 ^ 31) (h1 : 1 ≤ md) (h2 : md ≤ 60) (hm : gJ m 0 16 = nJ g) : f_X11_draw (nI md) m = some (nI (gNx g / 65536 % md), sJ m 0 16 (nJ (gNx g))) := by
  have gb := gNx_b g
  have n1 : ¬ md ≤ 0 := by omega
  have d1 : decide (¬ (65536 : Int64) = 0) = true := by decide
  have d2 : decide (¬ (nI md).toInt64 = 0) = true := decide_eq_true (ne_J (by omega) (by omega))
  have e1 : ((gJ m 0 16 * 1103515245) + 12345) &&& 2147483647 = nJ (gNx g) := by
    rw [hm, lj_1, lj_2, lj_3, nJ_mul, nJ_add, nJ_and, mk_mod]
    rfl
  unfold f_X11_draw
  rw [bnd_e, e1, if_neg (by rw [ni_nle0 _ (by omega)]; exact n1), d1, grd_t, d2, grd_t, gJ_eq _ _ _ _ _ _ rfl rfl, lj_5, nI_J (by omega), nJ_div (by omega) (by decide), nJ_div (by omega) (by omega), nJ_mul, nJ_sub (Nat.div_mul_le_self _ _), nJ_I]
  have : gNx g / 65536 - gNx g / 65536 / md * md = gNx g / 65536 % md := by
    have := Nat.div_add_mod (gNx g / 65536) md
    rw [Nat.mul_comm] at this
    omega
  rw [this]
theorem drawM {g md : Nat} {m : Mm} (hg : g < 2 ^ 31) (h1 : 1 ≤ md) (h2 : md ≤ 60) (hm : gJ m 0 66 = nJ g) : f_X12_draws (nI md) m = some (nI (gNx g / 65536 % md), sJ m 0 66 (nJ (gNx g))) := by
  have gb := gNx_b g
  have d0 : decide (¬ (2147483648 : Int64) = 0) = true := by decide
  have d1 : decide (¬ (65536 : Int64) = 0) = true := by decide
  have d2 : decide (¬ (nI md).toInt64 = 0) = true := decide_eq_true (ne_J (by omega) (by omega))
  have e1 : ((gJ m 0 66 * 1103515245) + 12345) - ((gJ m 0 66 * 1103515245) + 12345) / 2147483648 * 2147483648 = nJ (gNx g) := by
    rw [hm, lj_1, lj_2, lj_4, nJ_mul, nJ_add, nJ_div (by omega) (by decide), nJ_mul, nJ_sub (Nat.div_mul_le_self _ _)]
    have : g * 1103515245 + 12345 - (g * 1103515245 + 12345) / 2147483648 * 2147483648 = gNx g := by
      unfold gNx
      omega
    rw [this]
  unfold f_X12_draws
  rw [d0, grd_t, bnd_e, e1, d1, grd_t, d2, grd_t, gJ_eq _ _ _ _ _ _ rfl rfl, lj_5, nI_J (by omega), nJ_div (by omega) (by decide), nJ_div (by omega) (by omega), nJ_mul, nJ_sub (Nat.div_mul_le_self _ _), nJ_I]
  have : gNx g / 65536 - gNx g / 65536 / md * md = gNx g / 65536 % md := by
    have := Nat.div_add_mod (gNx g / 65536) md
    rw [Nat.mul_comm] at this
    omega
  rw [this]
def kaN (wr : Nat → Nat) : Nat → Nat
  | 0 => 0
  | n + 1 => if wr n ≤ 5 then kaN wr n else kaN wr n + 1
theorem kaN_b (wr : Nat → Nat) : ∀ n, kaN wr n ≤ n
  | 0 => Nat.le_refl _
  | n + 1 => by
    have := kaN_b wr n
    unfold kaN
    split <;> omega
theorem kaN_ifo (wr : Nat → Nat) : ∀ n, ifo (fun i a => if wr i ≤ 5 then a else a + 1) 0 n = nI (kaN wr n)
  | 0 => rfl
  | n + 1 => by
    show (if wr n ≤ 5 then ifo (fun i a => if wr i ≤ 5 then a else a + 1) 0 n else ifo (fun i a => if wr i ≤ 5 then a else a + 1) 0 n + 1) = nI (if wr n ≤ 5 then kaN wr n else kaN wr n + 1)
    rw [kaN_ifo wr n]
    by_cases z : wr n ≤ 5
    · rw [if_pos z, if_pos z]
    · rw [if_neg z, if_neg z]; exact nI_add _ 1
theorem aboveP {wr : Nat → Nat} {m : Mm} (hw : ∀ k, k < 12 → wr k ≤ 9) (h : ∀ k, k < 12 → gI m 67 k = nI (wr k)) : f_X6_keysAbove 66 (nI 5) m = some (nI (kaN wr 12), m) := by
  unfold f_X6_keysAbove
  rw [← kaN_ifo]
  have l67 : Lp.2.1 (66 + 1) = 12 := rfl
  refine acc_lop0 (R := fun a => some (a, m)) 12 (by decide) ?_ ?_
  · intro i a k hi
    have n1 : ¬ 12 ≤ i := by omega
    have e1 : gI m (66 + 1) i = nI (wr i) := h i hi
    have wb := hw i hi
    unfold f_X6_keysAbove_B4 f_X6_keysAbove_J23
    by_cases z : wr i ≤ 5
    · simp (disch := omega) only [n1, l67, e1, z, bnd_e, grd_t, bdI_e, bdV_e, bokA, bokB, ni_inb, ni_cl, nI_add, pk_mul, li_2, li_3, li_4, li_5, li_6, li_7, li_8, li_9, li_10, li_11, li_12, li_13, li_14, li_15, li_16, li_17, li_18, li_19, li_20, li_21, li_22, li_23, li_24, li_25, li_26, li_27, li_28, li_29, li_30, li_31, li_32, li_33, li_34, li_35, li_36, li_37, li_38, li_39, li_40, li_41, li_42, li_43, li_44, li_45, li_46, li_47, li_48, li_49, li_50, li_51, li_52, li_53, li_54, li_55, li_56, li_57, li_58, li_59, li_60, li_61, li_63, li_70, li_96, li_97, li_99, li_100, li_101, li_102, li_120, li_122, li_126, li_200, li_255, li_423, li_555, li_999, li_1000, li_1111, li_2968, li_9999, li_10631, li_12345, li_14092, li_21470, li_65536, li_99233, nz_eq, n1_eq, n1_lt, n1_gt, n1_le, n1_ge, n1_sub, n1_add, nm_add, nz_add, nz_add2, z1_ne, z1_lt, z1_le, nI_1, pk_sub, nI_ltI, nI_leI, nI_eq, ni_neg, ni_nneg, ni_pos0, ni_nle0, ni_m1, gI_eq, gI_ne, xI_sJ, xI_sR, xR_sI, xR_sJ, xJ_sI, xJ_sR, gJ_eq, gJ_ne, gR_eq, gR_ne, if_true, if_false, ite_true, ite_false, not_true_eq_false, not_false_eq_true, decide_true, and_self, true_and, and_true, false_and, and_false, or_true, true_or, or_false, false_or, reduceIte, ne_eq]
    · simp (disch := omega) only [n1, l67, e1, z, bnd_e, grd_t, bdI_e, bdV_e, bokA, bokB, ni_inb, ni_cl, nI_add, pk_mul, li_2, li_3, li_4, li_5, li_6, li_7, li_8, li_9, li_10, li_11, li_12, li_13, li_14, li_15, li_16, li_17, li_18, li_19, li_20, li_21, li_22, li_23, li_24, li_25, li_26, li_27, li_28, li_29, li_30, li_31, li_32, li_33, li_34, li_35, li_36, li_37, li_38, li_39, li_40, li_41, li_42, li_43, li_44, li_45, li_46, li_47, li_48, li_49, li_50, li_51, li_52, li_53, li_54, li_55, li_56, li_57, li_58, li_59, li_60, li_61, li_63, li_70, li_96, li_97, li_99, li_100, li_101, li_102, li_120, li_122, li_126, li_200, li_255, li_423, li_555, li_999, li_1000, li_1111, li_2968, li_9999, li_10631, li_12345, li_14092, li_21470, li_65536, li_99233, nz_eq, n1_eq, n1_lt, n1_gt, n1_le, n1_ge, n1_sub, n1_add, nm_add, nz_add, nz_add2, z1_ne, z1_lt, z1_le, nI_1, pk_sub, nI_ltI, nI_leI, nI_eq, ni_neg, ni_nneg, ni_pos0, ni_nle0, ni_m1, gI_eq, gI_ne, xI_sJ, xI_sR, xR_sI, xR_sJ, xJ_sI, xJ_sR, gJ_eq, gJ_ne, gR_eq, gR_ne, if_true, if_false, ite_true, ite_false, not_true_eq_false, not_false_eq_true, decide_true, and_self, true_and, and_true, false_and, and_false, or_true, true_or, or_false, false_or, reduceIte, ne_eq]
  · intro a k
    unfold f_X6_keysAbove_B4
    simp (disch := omega) only [Nat.le_refl, bnd_e, grd_t, bdI_e, bdV_e, bokA, bokB, ni_inb, ni_cl, nI_add, pk_mul, li_2, li_3, li_4, li_5, li_6, li_7, li_8, li_9, li_10, li_11, li_12, li_13, li_14, li_15, li_16, li_17, li_18, li_19, li_20, li_21, li_22, li_23, li_24, li_25, li_26, li_27, li_28, li_29, li_30, li_31, li_32, li_33, li_34, li_35, li_36, li_37, li_38, li_39, li_40, li_41, li_42, li_43, li_44, li_45, li_46, li_47, li_48, li_49, li_50, li_51, li_52, li_53, li_54, li_55, li_56, li_57, li_58, li_59, li_60, li_61, li_63, li_70, li_96, li_97, li_99, li_100, li_101, li_102, li_120, li_122, li_126, li_200, li_255, li_423, li_555, li_999, li_1000, li_1111, li_2968, li_9999, li_10631, li_12345, li_14092, li_21470, li_65536, li_99233, nz_eq, n1_eq, n1_lt, n1_gt, n1_le, n1_ge, n1_sub, n1_add, nm_add, nz_add, nz_add2, z1_ne, z1_lt, z1_le, nI_1, pk_sub, nI_ltI, nI_leI, nI_eq, ni_neg, ni_nneg, ni_pos0, ni_nle0, ni_m1, gI_eq, gI_ne, xI_sJ, xI_sR, xR_sI, xR_sJ, xJ_sI, xJ_sR, gJ_eq, gJ_ne, gR_eq, gR_ne, if_true, if_false, ite_true, ite_false, not_true_eq_false, not_false_eq_true, decide_true, and_self, true_and, and_true, false_and, and_false, or_true, true_or, or_false, false_or, reduceIte, ne_eq]
theorem badM {wr : Nat → Nat} {m : Mm} (hw : ∀ k, k < 12 → wr k ≤ 9) (h : ∀ k, k < 12 → gI m 35 (5 + k) = nI (wr k)) : f_X12_badKeys m = some (nI (kaN wr 12), m) := by
  unfold f_X12_badKeys
  rw [← kaN_ifo]
  refine acc_lop0 (R := fun a => some (a, m)) 12 (by decide) ?_ ?_
  · intro i a k hi
    have n1 : ¬ 12 ≤ i := by omega
    have e1 := h i hi
    have wb := hw i hi
    unfold f_X12_badKeys_B4 f_X12_badKeys_J28
    by_cases z : wr i ≤ 5
    · simp (disch := omega) only [n1, e1, z, Int32.add_zero, bnd_e, grd_t, bdI_e, bdV_e, bokA, bokB, ni_inb, ni_cl, nI_add, pk_mul, li_2, li_3, li_4, li_5, li_6, li_7, li_8, li_9, li_10, li_11, li_12, li_13, li_14, li_15, li_16, li_17, li_18, li_19, li_20, li_21, li_22, li_23, li_24, li_25, li_26, li_27, li_28, li_29, li_30, li_31, li_32, li_33, li_34, li_35, li_36, li_37, li_38, li_39, li_40, li_41, li_42, li_43, li_44, li_45, li_46, li_47, li_48, li_49, li_50, li_51, li_52, li_53, li_54, li_55, li_56, li_57, li_58, li_59, li_60, li_61, li_63, li_70, li_96, li_97, li_99, li_100, li_101, li_102, li_120, li_122, li_126, li_200, li_255, li_423, li_555, li_999, li_1000, li_1111, li_2968, li_9999, li_10631, li_12345, li_14092, li_21470, li_65536, li_99233, nz_eq, n1_eq, n1_lt, n1_gt, n1_le, n1_ge, n1_sub, n1_add, nm_add, nz_add, nz_add2, z1_ne, z1_lt, z1_le, nI_1, pk_sub, nI_ltI, nI_leI, nI_eq, ni_neg, ni_nneg, ni_pos0, ni_nle0, ni_m1, gI_eq, gI_ne, xI_sJ, xI_sR, xR_sI, xR_sJ, xJ_sI, xJ_sR, gJ_eq, gJ_ne, gR_eq, gR_ne, if_true, if_false, ite_true, ite_false, not_true_eq_false, not_false_eq_true, decide_true, and_self, true_and, and_true, false_and, and_false, or_true, true_or, or_false, false_or, reduceIte, ne_eq]
    · simp (disch := omega) only [n1, e1, z, bnd_e, grd_t, bdI_e, bdV_e, bokA, bokB, ni_inb, ni_cl, nI_add, pk_mul, li_2, li_3, li_4, li_5, li_6, li_7, li_8, li_9, li_10, li_11, li_12, li_13, li_14, li_15, li_16, li_17, li_18, li_19, li_20, li_21, li_22, li_23, li_24, li_25, li_26, li_27, li_28, li_29, li_30, li_31, li_32, li_33, li_34, li_35, li_36, li_37, li_38, li_39, li_40, li_41, li_42, li_43, li_44, li_45, li_46, li_47, li_48, li_49, li_50, li_51, li_52, li_53, li_54, li_55, li_56, li_57, li_58, li_59, li_60, li_61, li_63, li_70, li_96, li_97, li_99, li_100, li_101, li_102, li_120, li_122, li_126, li_200, li_255, li_423, li_555, li_999, li_1000, li_1111, li_2968, li_9999, li_10631, li_12345, li_14092, li_21470, li_65536, li_99233, nz_eq, n1_eq, n1_lt, n1_gt, n1_le, n1_ge, n1_sub, n1_add, nm_add, nz_add, nz_add2, z1_ne, z1_lt, z1_le, nI_1, pk_sub, nI_ltI, nI_leI, nI_eq, ni_neg, ni_nneg, ni_pos0, ni_nle0, ni_m1, gI_eq, gI_ne, xI_sJ, xI_sR, xR_sI, xR_sJ, xJ_sI, xJ_sR, gJ_eq, gJ_ne, gR_eq, gR_ne, if_true, if_false, ite_true, ite_false, not_true_eq_false, not_false_eq_true, decide_true, and_self, true_and, and_true, false_and, and_false, or_true, true_or, or_false, false_or, reduceIte, ne_eq]
  · intro a k
    unfold f_X12_badKeys_B4
    simp (disch := omega) only [Nat.le_refl, bnd_e, grd_t, bdI_e, bdV_e, bokA, bokB, ni_inb, ni_cl, nI_add, pk_mul, li_2, li_3, li_4, li_5, li_6, li_7, li_8, li_9, li_10, li_11, li_12, li_13, li_14, li_15, li_16, li_17, li_18, li_19, li_20, li_21, li_22, li_23, li_24, li_25, li_26, li_27, li_28, li_29, li_30, li_31, li_32, li_33, li_34, li_35, li_36, li_37, li_38, li_39, li_40, li_41, li_42, li_43, li_44, li_45, li_46, li_47, li_48, li_49, li_50, li_51, li_52, li_53, li_54, li_55, li_56, li_57, li_58, li_59, li_60, li_61, li_63, li_70, li_96, li_97, li_99, li_100, li_101, li_102, li_120, li_122, li_126, li_200, li_255, li_423, li_555, li_999, li_1000, li_1111, li_2968, li_9999, li_10631, li_12345, li_14092, li_21470, li_65536, li_99233, nz_eq, n1_eq, n1_lt, n1_gt, n1_le, n1_ge, n1_sub, n1_add, nm_add, nz_add, nz_add2, z1_ne, z1_lt, z1_le, nI_1, pk_sub, nI_ltI, nI_leI, nI_eq, ni_neg, ni_nneg, ni_pos0, ni_nle0, ni_m1, gI_eq, gI_ne, xI_sJ, xI_sR, xR_sI, xR_sJ, xJ_sI, xJ_sR, gJ_eq, gJ_ne, gR_eq, gR_ne, if_true, if_false, ite_true, ite_false, not_true_eq_false, not_false_eq_true, decide_true, and_self, true_and, and_true, false_and, and_false, or_true, true_or, or_false, false_or, reduceIte, ne_eq]
