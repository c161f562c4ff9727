/-! 29: look -/
def mxN (ta : Nat → Nat) : Nat → Nat
  | 0 => 0
  | n + 1 => max (mxN ta n) (ta n)
theorem mxN_b {ta : Nat → Nat} {B : Nat} (h : ∀ w, ta w ≤ B) : ∀ n, mxN ta n ≤ B
  | 0 => Nat.zero_le _
  | n + 1 => by
    have h1 := mxN_b h n
    have h2 := h n
    unfold mxN
    omega
theorem mxN_up {ta tb : Nat → Nat} {w0 : Nat} (h0 : tb w0 = ta w0 + 1) (h : ∀ w, w ≠ w0 → tb w = ta w) : ∀ n, mxN tb n = if w0 < n then max (mxN ta n) (ta w0 + 1) else mxN ta n
  | 0 => by rw [if_neg (by omega)]; rfl
  | n + 1 => by
    have ih := mxN_up h0 h n
    unfold mxN
    rw [ih]
    by_cases z : w0 = n
    · subst z
      rw [if_neg (by omega), if_pos (by omega), h0]
      omega
    · rw [h n (fun q => z q.symm)]
      by_cases y : w0 < n
      · rw [if_pos y, if_pos (by omega)]
        omega
      · rw [if_neg y, if_neg (by omega)]
theorem mx_ite {a b : Nat} (ha : a < 2 ^ 31) (hb : b < 2 ^ 31) : (if nI a < nI b then nI b else nI a) = nI (max a b) := by
  by_cases z : a < b
  · rw [if_pos ((nI_ltI ha hb).mpr z), show max a b = b by omega]
  · rw [if_neg (fun q => z ((nI_ltI ha hb).mp q)), show max a b = a by omega]
theorem mx_ifo {ta : Nat → Nat} (h : ∀ w, ta w ≤ 1000) : ∀ n, ifo (fun i a => if a < nI (ta i) then nI (ta i) else a) 0 n = nI (mxN ta n)
  | 0 => rfl
  | n + 1 => by
    show (if ifo (fun i a => if a < nI (ta i) then nI (ta i) else a) 0 n < nI (ta n) then nI (ta n) else ifo (fun i a => if a < nI (ta i) then nI (ta i) else a) 0 n) = nI (max (mxN ta n) (ta n))
    have h1 := mxN_b h n
    have h2 := h n
    rw [mx_ifo h n, mx_ite (by omega) (by omega)]
theorem alikeP {m : Mm} {ta : Nat → Nat} {key : Nat} (hk : key < 12) (hb : ∀ w, ta w ≤ 1000) (h : ∀ w, w < 10 → gI m 81 (key * 10 + w) = nI (ta w)) : f_X8_mostAlike (nI key) m = some (nI (mxN ta 10), m) := by
  unfold f_X8_mostAlike
  rw [← mx_ifo hb]
  refine acc_lop0 (R := fun a => some (a, m)) 10 (by decide) ?_ ?_
  · intro i a k hi
    have n1 : ¬ 10 ≤ i := by omega
    have n2 : ¬ 120 ≤ key * 10 + i := by omega
    have e1 := h i hi
    unfold f_X8_mostAlike_B4 f_X8_mostAlike_J42
    simp (disch := omega) only [n1, n2, e1, bnd_e, grd_t, bdI_e, bdV_e, bokA, bokB, ni_inb, ni_cl, nI_add, pk_mul, li_2, li_3, li_4, li_5, li_6, li_7, li_8, li_9, li_10, li_11, li_12, li_13, li_14, li_15, li_16, li_17, li_18, li_19, li_20, li_21, li_22, li_23, li_24, li_25, li_26, li_27, li_28, li_29, li_30, li_31, li_32, li_33, li_34, li_35, li_36, li_37, li_38, li_39, li_40, li_41, li_42, li_43, li_44, li_45, li_46, li_47, li_48, li_49, li_50, li_51, li_52, li_53, li_54, li_55, li_56, li_57, li_58, li_59, li_60, li_61, li_63, li_70, li_96, li_97, li_99, li_100, li_101, li_102, li_120, li_122, li_126, li_200, li_255, li_423, li_555, li_999, li_1000, li_1111, li_2968, li_9999, li_10631, li_12345, li_14092, li_21470, li_65536, li_99233, nz_eq, n1_eq, n1_lt, n1_gt, n1_le, n1_ge, n1_sub, n1_add, nm_add, nz_add, nz_add2, z1_ne, z1_lt, z1_le, nI_1, pk_sub, nI_ltI, nI_leI, nI_eq, ni_neg, ni_nneg, ni_pos0, ni_nle0, ni_m1, gI_eq, gI_ne, xI_sJ, xI_sR, xR_sI, xR_sJ, xJ_sI, xJ_sR, gJ_eq, gJ_ne, gR_eq, gR_ne, if_true, if_false, ite_true, ite_false, not_true_eq_false, not_false_eq_true, decide_true, and_self, true_and, and_true, false_and, and_false, or_true, true_or, or_false, false_or, reduceIte, ne_eq]
  · intro a k
    unfold f_X8_mostAlike_B4
    simp (disch := omega) only [Nat.le_refl, bnd_e, grd_t, bdI_e, bdV_e, bokA, bokB, ni_inb, ni_cl, nI_add, pk_mul, li_2, li_3, li_4, li_5, li_6, li_7, li_8, li_9, li_10, li_11, li_12, li_13, li_14, li_15, li_16, li_17, li_18, li_19, li_20, li_21, li_22, li_23, li_24, li_25, li_26, li_27, li_28, li_29, li_30, li_31, li_32, li_33, li_34, li_35, li_36, li_37, li_38, li_39, li_40, li_41, li_42, li_43, li_44, li_45, li_46, li_47, li_48, li_49, li_50, li_51, li_52, li_53, li_54, li_55, li_56, li_57, li_58, li_59, li_60, li_61, li_63, li_70, li_96, li_97, li_99, li_100, li_101, li_102, li_120, li_122, li_126, li_200, li_255, li_423, li_555, li_999, li_1000, li_1111, li_2968, li_9999, li_10631, li_12345, li_14092, li_21470, li_65536, li_99233, nz_eq, n1_eq, n1_lt, n1_gt, n1_le, n1_ge, n1_sub, n1_add, nm_add, nz_add, nz_add2, z1_ne, z1_lt, z1_le, nI_1, pk_sub, nI_ltI, nI_leI, nI_eq, ni_neg, ni_nneg, ni_pos0, ni_nle0, ni_m1, gI_eq, gI_ne, xI_sJ, xI_sR, xR_sI, xR_sJ, xJ_sI, xJ_sR, gJ_eq, gJ_ne, gR_eq, gR_ne, if_true, if_false, ite_true, ite_false, not_true_eq_false, not_false_eq_true, decide_true, and_self, true_and, and_true, false_and, and_false, or_true, true_or, or_false, false_or, reduceIte, ne_eq]
theorem alikeM {E : Ev} {m : Mm} {Q : Nat → Nat → Nat} (hE : EvOK E) (cx : CxM (eC E) (eJ E) (eW E) m) (h4 : gI m 35 1 = nI (eE E)) (hQ : CuOK Q) (cq : CuM 0 Q m) {ok : Nat → Bool} (hok : ∀ s, ok s = okS E Q s) {N : Nat} (hN : N = 2 ^ eP E) {key : Nat} (hk : key < 12) : Sat (f_X12_mostAlike (nI key) m) (fun q => q.1 = nI (mxN (fun w => taF ok (fun s => swW E s (eP E)) key w N) 10) ∧ Kp (fun a _ => (18 ≤ a ∧ a ≤ 27) ∨ a = 47) m q.2) := by
  have e7 := eP7 hE
  have sh := shl_P (eP E) (by omega)
  rw [← hN] at sh
  have sh' : (1 : Int32) <<< (nI (eP E) &&& nI 31) = nI N := sh
  have hN128 : N ≤ 128 := by
    rw [hN]
    exact Nat.pow_le_pow_right (by decide) e7
  obtain ⟨sw, hsw⟩ : ∃ sw : Nat → Nat → Nat, sw = fun s => swW E s (eP E) := ⟨_, rfl⟩
  have hsk : ∀ s k, swW E s (eP E) k = sw s k := fun s k => by rw [hsw]
  rw [← hsw]
  unfold f_X12_mostAlike
  refine cnt2 (A := Int32) 0 10 (by decide) (by decide) (fun i a n => a = 0 ∧ (∀ w, w < i → gI n 47 w = 0) ∧ Kp (fun a _ => (18 ≤ a ∧ a ≤ 27) ∨ a = 47) m n) ?_ ?_ ⟨rfl, fun w hw => absurd hw (by omega), Kp.refl m⟩
  · intro i a n k _ hi ⟨a0, a1, a2⟩ hkk
    have n1 : ¬ 10 ≤ i := by omega
    unfold f_X12_mostAlike_B4
    simp (disch := omega) only [n1, bnd_e, grd_t, bdI_e, bdV_e, bokA, bokB, ni_inb, ni_cl, nI_add, pk_mul, li_2, li_3, li_4, li_5, li_6, li_7, li_8, li_9, li_10, li_11, li_12, li_13, li_14, li_15, li_16, li_17, li_18, li_19, li_20, li_21, li_22, li_23, li_24, li_25, li_26, li_27, li_28, li_29, li_30, li_31, li_32, li_33, li_34, li_35, li_36, li_37, li_38, li_39, li_40, li_41, li_42, li_43, li_44, li_45, li_46, li_47, li_48, li_49, li_50, li_51, li_52, li_53, li_54, li_55, li_56, li_57, li_58, li_59, li_60, li_61, li_63, li_70, li_96, li_97, li_99, li_100, li_101, li_102, li_120, li_122, li_126, li_200, li_255, li_423, li_555, li_999, li_1000, li_1111, li_2968, li_9999, li_10631, li_12345, li_14092, li_21470, li_65536, li_99233, nz_eq, n1_eq, n1_lt, n1_gt, n1_le, n1_ge, n1_sub, n1_add, nm_add, nz_add, nz_add2, z1_ne, z1_lt, z1_le, nI_1, pk_sub, nI_ltI, nI_leI, nI_eq, ni_neg, ni_nneg, ni_pos0, ni_nle0, ni_m1, gI_eq, gI_ne, xI_sJ, xI_sR, xR_sI, xR_sJ, xJ_sI, xJ_sR, gJ_eq, gJ_ne, gR_eq, gR_ne, if_true, if_false, ite_true, ite_false, not_true_eq_false, not_false_eq_true, decide_true, and_self, true_and, and_true, false_and, and_false, or_true, true_or, or_false, false_or, reduceIte, ne_eq]
    refine hkk _ _ ⟨a0, fun w hw => ?_, a2.sI _ (Or.inr rfl)⟩
    by_cases z : w = i
    · subst z; simp (disch := omega) only [bnd_e, grd_t, bdI_e, bdV_e, bokA, bokB, ni_inb, ni_cl, nI_add, pk_mul, li_2, li_3, li_4, li_5, li_6, li_7, li_8, li_9, li_10, li_11, li_12, li_13, li_14, li_15, li_16, li_17, li_18, li_19, li_20, li_21, li_22, li_23, li_24, li_25, li_26, li_27, li_28, li_29, li_30, li_31, li_32, li_33, li_34, li_35, li_36, li_37, li_38, li_39, li_40, li_41, li_42, li_43, li_44, li_45, li_46, li_47, li_48, li_49, li_50, li_51, li_52, li_53, li_54, li_55, li_56, li_57, li_58, li_59, li_60, li_61, li_63, li_70, li_96, li_97, li_99, li_100, li_101, li_102, li_120, li_122, li_126, li_200, li_255, li_423, li_555, li_999, li_1000, li_1111, li_2968, li_9999, li_10631, li_12345, li_14092, li_21470, li_65536, li_99233, nz_eq, n1_eq, n1_lt, n1_gt, n1_le, n1_ge, n1_sub, n1_add, nm_add, nz_add, nz_add2, z1_ne, z1_lt, z1_le, nI_1, pk_sub, nI_ltI, nI_leI, nI_eq, ni_neg, ni_nneg, ni_pos0, ni_nle0, ni_m1, gI_eq, gI_ne, xI_sJ, xI_sR, xR_sI, xR_sJ, xJ_sI, xJ_sR, gJ_eq, gJ_ne, gR_eq, gR_ne, if_true, if_false, ite_true, ite_false, not_true_eq_false, not_false_eq_true, decide_true, and_self, true_and, and_true, false_and, and_false, or_true, true_or, or_false, false_or, reduceIte, ne_eq]
    · have := a1 w (by omega)
      simp (disch := omega) only [bnd_e, grd_t, bdI_e, bdV_e, bokA, bokB, ni_inb, ni_cl, nI_add, pk_mul, li_2, li_3, li_4, li_5, li_6, li_7, li_8, li_9, li_10, li_11, li_12, li_13, li_14, li_15, li_16, li_17, li_18, li_19, li_20, li_21, li_22, li_23, li_24, li_25, li_26, li_27, li_28, li_29, li_30, li_31, li_32, li_33, li_34, li_35, li_36, li_37, li_38, li_39, li_40, li_41, li_42, li_43, li_44, li_45, li_46, li_47, li_48, li_49, li_50, li_51, li_52, li_53, li_54, li_55, li_56, li_57, li_58, li_59, li_60, li_61, li_63, li_70, li_96, li_97, li_99, li_100, li_101, li_102, li_120, li_122, li_126, li_200, li_255, li_423, li_555, li_999, li_1000, li_1111, li_2968, li_9999, li_10631, li_12345, li_14092, li_21470, li_65536, li_99233, nz_eq, n1_eq, n1_lt, n1_gt, n1_le, n1_ge, n1_sub, n1_add, nm_add, nz_add, nz_add2, z1_ne, z1_lt, z1_le, nI_1, pk_sub, nI_ltI, nI_leI, nI_eq, ni_neg, ni_nneg, ni_pos0, ni_nle0, ni_m1, gI_eq, gI_ne, xI_sJ, xI_sR, xR_sI, xR_sJ, xJ_sI, xJ_sR, gJ_eq, gJ_ne, gR_eq, gR_ne, if_true, if_false, ite_true, ite_false, not_true_eq_false, not_false_eq_true, decide_true, and_self, true_and, and_true, false_and, and_false, or_true, true_or, or_false, false_or, reduceIte, ne_eq]; exact this
  intro a n k ⟨a0, a1, a2⟩
  subst a0
  unfold f_X12_mostAlike_B4
  simp (disch := omega) only [Nat.le_refl, bnd_e, grd_t, bdI_e, bdV_e, bokA, bokB, ni_inb, ni_cl, nI_add, pk_mul, li_2, li_3, li_4, li_5, li_6, li_7, li_8, li_9, li_10, li_11, li_12, li_13, li_14, li_15, li_16, li_17, li_18, li_19, li_20, li_21, li_22, li_23, li_24, li_25, li_26, li_27, li_28, li_29, li_30, li_31, li_32, li_33, li_34, li_35, li_36, li_37, li_38, li_39, li_40, li_41, li_42, li_43, li_44, li_45, li_46, li_47, li_48, li_49, li_50, li_51, li_52, li_53, li_54, li_55, li_56, li_57, li_58, li_59, li_60, li_61, li_63, li_70, li_96, li_97, li_99, li_100, li_101, li_102, li_120, li_122, li_126, li_200, li_255, li_423, li_555, li_999, li_1000, li_1111, li_2968, li_9999, li_10631, li_12345, li_14092, li_21470, li_65536, li_99233, nz_eq, n1_eq, n1_lt, n1_gt, n1_le, n1_ge, n1_sub, n1_add, nm_add, nz_add, nz_add2, z1_ne, z1_lt, z1_le, nI_1, pk_sub, nI_ltI, nI_leI, nI_eq, ni_neg, ni_nneg, ni_pos0, ni_nle0, ni_m1, gI_eq, gI_ne, xI_sJ, xI_sR, xR_sI, xR_sJ, xJ_sI, xJ_sR, gJ_eq, gJ_ne, gR_eq, gR_ne, if_true, if_false, ite_true, ite_false, not_true_eq_false, not_false_eq_true, decide_true, and_self, true_and, and_true, false_and, and_false, or_true, true_or, or_false, false_or, reduceIte, ne_eq]
  have mx0 : ∀ n, mxN (fun w => taF ok sw key w 0) n = 0 := by
    intro n
    induction n with
    | zero => rfl
    | succ n ih =>
      show max (mxN (fun w => taF ok sw key w 0) n) 0 = 0
      omega
  refine cnt2 (A := Int32) 0 N (by omega) (by omega) (fun s a n => a = nI (mxN (fun w => taF ok sw key w s) 10) ∧ (∀ w, w < 10 → gI n 47 w = nI (taF ok sw key w s)) ∧ Kp (fun a _ => (18 ≤ a ∧ a ≤ 27) ∨ a = 47) m n) ?_ ?_ ⟨by rw [mx0]; rfl, fun w hw => a1 w hw, a2⟩
  · intro s a n k _ hs ⟨a0, a1, a2⟩ hkk
    subst a0
    have n1 : ¬ N ≤ s := by omega
    have cx' : CxM (eC E) (eJ E) (eW E) n := cx.keep hE.1 (fun a k r => a2.1 a k (by unfold vM0 at r; omega))
    have h4' : gI n 35 1 = nI (eE E) := (a2.1 _ _ (by omega)).trans h4
    have cq' : CuM 0 Q n := cq.kp hQ (a2.1 _ _ (by omega)) (fun c i _ _ _ => a2.1 _ _ (by omega))
    have e2 : gI n 2 1 = nI (eP E) := cx'.1.1 1 (by decide)
    have tb : ∀ w, taF ok sw key w s ≤ 1000 := fun w => by have := taF_b ok sw key w s; omega
    have ta : ∀ w, taF ok sw key w (s + 1) = if ok s = true ∧ sw s key = w then taF ok sw key w s + 1 else taF ok sw key w s := fun w => rfl
    have mb := mxN_b tb 10
    unfold f_X12_mostAlike_B25 f_X12_mostAlike_J79
    simp (disch := omega) only [e2, sh', n1, bnd_e, grd_t, bdI_e, bdV_e, bokA, bokB, ni_inb, ni_cl, nI_add, pk_mul, li_2, li_3, li_4, li_5, li_6, li_7, li_8, li_9, li_10, li_11, li_12, li_13, li_14, li_15, li_16, li_17, li_18, li_19, li_20, li_21, li_22, li_23, li_24, li_25, li_26, li_27, li_28, li_29, li_30, li_31, li_32, li_33, li_34, li_35, li_36, li_37, li_38, li_39, li_40, li_41, li_42, li_43, li_44, li_45, li_46, li_47, li_48, li_49, li_50, li_51, li_52, li_53, li_54, li_55, li_56, li_57, li_58, li_59, li_60, li_61, li_63, li_70, li_96, li_97, li_99, li_100, li_101, li_102, li_120, li_122, li_126, li_200, li_255, li_423, li_555, li_999, li_1000, li_1111, li_2968, li_9999, li_10631, li_12345, li_14092, li_21470, li_65536, li_99233, nz_eq, n1_eq, n1_lt, n1_gt, n1_le, n1_ge, n1_sub, n1_add, nm_add, nz_add, nz_add2, z1_ne, z1_lt, z1_le, nI_1, pk_sub, nI_ltI, nI_leI, nI_eq, ni_neg, ni_nneg, ni_pos0, ni_nle0, ni_m1, gI_eq, gI_ne, xI_sJ, xI_sR, xR_sI, xR_sJ, xJ_sI, xJ_sR, gJ_eq, gJ_ne, gR_eq, gR_ne, if_true, if_false, ite_true, ite_false, not_true_eq_false, not_false_eq_true, decide_true, and_self, true_and, and_true, false_and, and_false, or_true, true_or, or_false, false_or, reduceIte, ne_eq]
    rw [Sat_bdI]
    refine (asFoundM (s := s) hE cx' h4' hQ cq').mono ?_
    intro q ⟨q1, q2⟩
    have q1' : q.1 = bO (ok s) := by rw [hok s]; exact q1
    have k2 : Kp (fun a _ => (18 ≤ a ∧ a ≤ 27) ∨ a = 47) m q.2 := a2.trans (q2.mono (fun a k r => by omega))
    rw [q1']
    cases o : ok s with
    | false =>
      have b0 : bO false = 0 := rfl
      have te : (fun w => taF ok sw key w (s + 1)) = fun w => taF ok sw key w s := by
        funext w
        rw [ta w, o, if_neg (fun q => absurd q.1 (by decide))]
      simp (disch := omega) only [b0, bnd_e, grd_t, bdI_e, bdV_e, bokA, bokB, ni_inb, ni_cl, nI_add, pk_mul, li_2, li_3, li_4, li_5, li_6, li_7, li_8, li_9, li_10, li_11, li_12, li_13, li_14, li_15, li_16, li_17, li_18, li_19, li_20, li_21, li_22, li_23, li_24, li_25, li_26, li_27, li_28, li_29, li_30, li_31, li_32, li_33, li_34, li_35, li_36, li_37, li_38, li_39, li_40, li_41, li_42, li_43, li_44, li_45, li_46, li_47, li_48, li_49, li_50, li_51, li_52, li_53, li_54, li_55, li_56, li_57, li_58, li_59, li_60, li_61, li_63, li_70, li_96, li_97, li_99, li_100, li_101, li_102, li_120, li_122, li_126, li_200, li_255, li_423, li_555, li_999, li_1000, li_1111, li_2968, li_9999, li_10631, li_12345, li_14092, li_21470, li_65536, li_99233, nz_eq, n1_eq, n1_lt, n1_gt, n1_le, n1_ge, n1_sub, n1_add, nm_add, nz_add, nz_add2, z1_ne, z1_lt, z1_le, nI_1, pk_sub, nI_ltI, nI_leI, nI_eq, ni_neg, ni_nneg, ni_pos0, ni_nle0, ni_m1, gI_eq, gI_ne, xI_sJ, xI_sR, xR_sI, xR_sJ, xJ_sI, xJ_sR, gJ_eq, gJ_ne, gR_eq, gR_ne, if_true, if_false, ite_true, ite_false, not_true_eq_false, not_false_eq_true, decide_true, and_self, true_and, and_true, false_and, and_false, or_true, true_or, or_false, false_or, reduceIte, ne_eq]
      refine hkk _ _ ⟨by rw [te], fun w hw => ?_, k2⟩
      rw [show taF ok sw key w (s + 1) = taF ok sw key w s from congrFun te w]
      exact (q2.1 _ _ (by omega)).trans (a1 w hw)
    | true =>
      have b0 : ¬ bO true = 0 := by decide
      have cx2 : CxM (eC E) (eJ E) (eW E) q.2 := cx'.keep hE.1 (fun a k r => q2.1 a k (by unfold vM0 at r; omega))
      simp (disch := omega) only [b0, bnd_e, grd_t, bdI_e, bdV_e, bokA, bokB, ni_inb, ni_cl, nI_add, pk_mul, li_2, li_3, li_4, li_5, li_6, li_7, li_8, li_9, li_10, li_11, li_12, li_13, li_14, li_15, li_16, li_17, li_18, li_19, li_20, li_21, li_22, li_23, li_24, li_25, li_26, li_27, li_28, li_29, li_30, li_31, li_32, li_33, li_34, li_35, li_36, li_37, li_38, li_39, li_40, li_41, li_42, li_43, li_44, li_45, li_46, li_47, li_48, li_49, li_50, li_51, li_52, li_53, li_54, li_55, li_56, li_57, li_58, li_59, li_60, li_61, li_63, li_70, li_96, li_97, li_99, li_100, li_101, li_102, li_120, li_122, li_126, li_200, li_255, li_423, li_555, li_999, li_1000, li_1111, li_2968, li_9999, li_10631, li_12345, li_14092, li_21470, li_65536, li_99233, nz_eq, n1_eq, n1_lt, n1_gt, n1_le, n1_ge, n1_sub, n1_add, nm_add, nz_add, nz_add2, z1_ne, z1_lt, z1_le, nI_1, pk_sub, nI_ltI, nI_leI, nI_eq, ni_neg, ni_nneg, ni_pos0, ni_nle0, ni_m1, gI_eq, gI_ne, xI_sJ, xI_sR, xR_sI, xR_sJ, xJ_sI, xJ_sR, gJ_eq, gJ_ne, gR_eq, gR_ne, if_true, if_false, ite_true, ite_false, not_true_eq_false, not_false_eq_true, decide_true, and_self, true_and, and_true, false_and, and_false, or_true, true_or, or_false, false_or, reduceIte, ne_eq]
      rw [Sat_bdI]
      refine (wearByM (s := s) hE cx2 ((q2.1 _ _ (by omega)).trans h4') hk).mono ?_
      intro r ⟨r1, r2⟩
      have sb := swW_b E s (eP E) key hk
      rw [hsk] at r1 sb
      have e47 : gI r.2 47 (sw s key) = nI (taF ok sw key (sw s key) s) := (r2.1 _ _ (by omega)).trans ((q2.1 _ _ (by omega)).trans (a1 _ (by omega)))
      have t0 := tb (sw s key)
      have k3 : Kp (fun a _ => (18 ≤ a ∧ a ≤ 27) ∨ a = 47) m r.2 := k2.trans (r2.mono (fun a k r => by omega))
      simp (disch := omega) only [r1, e47, bnd_e, grd_t, bdI_e, bdV_e, bokA, bokB, ni_inb, ni_cl, nI_add, pk_mul, li_2, li_3, li_4, li_5, li_6, li_7, li_8, li_9, li_10, li_11, li_12, li_13, li_14, li_15, li_16, li_17, li_18, li_19, li_20, li_21, li_22, li_23, li_24, li_25, li_26, li_27, li_28, li_29, li_30, li_31, li_32, li_33, li_34, li_35, li_36, li_37, li_38, li_39, li_40, li_41, li_42, li_43, li_44, li_45, li_46, li_47, li_48, li_49, li_50, li_51, li_52, li_53, li_54, li_55, li_56, li_57, li_58, li_59, li_60, li_61, li_63, li_70, li_96, li_97, li_99, li_100, li_101, li_102, li_120, li_122, li_126, li_200, li_255, li_423, li_555, li_999, li_1000, li_1111, li_2968, li_9999, li_10631, li_12345, li_14092, li_21470, li_65536, li_99233, nz_eq, n1_eq, n1_lt, n1_gt, n1_le, n1_ge, n1_sub, n1_add, nm_add, nz_add, nz_add2, z1_ne, z1_lt, z1_le, nI_1, pk_sub, nI_ltI, nI_leI, nI_eq, ni_neg, ni_nneg, ni_pos0, ni_nle0, ni_m1, gI_eq, gI_ne, xI_sJ, xI_sR, xR_sI, xR_sJ, xJ_sI, xJ_sR, gJ_eq, gJ_ne, gR_eq, gR_ne, if_true, if_false, ite_true, ite_false, not_true_eq_false, not_false_eq_true, decide_true, and_self, true_and, and_true, false_and, and_false, or_true, true_or, or_false, false_or, reduceIte, ne_eq]
      have mi := mx_ite (a := mxN (fun w => taF ok sw key w s) 10) (b := taF ok sw key (sw s key) s + 1) (by omega) (by omega)
      have mi' : (if mxN (fun w => taF ok sw key w s) 10 < taF ok sw key (sw s key) s + 1 then nI (taF ok sw key (sw s key) s + 1) else nI (mxN (fun w => taF ok sw key w s) 10)) = nI (max (mxN (fun w => taF ok sw key w s) 10) (taF ok sw key (sw s key) s + 1)) := by
        rw [← mi]
        simp (disch := omega) only [bnd_e, grd_t, bdI_e, bdV_e, bokA, bokB, ni_inb, ni_cl, nI_add, pk_mul, li_2, li_3, li_4, li_5, li_6, li_7, li_8, li_9, li_10, li_11, li_12, li_13, li_14, li_15, li_16, li_17, li_18, li_19, li_20, li_21, li_22, li_23, li_24, li_25, li_26, li_27, li_28, li_29, li_30, li_31, li_32, li_33, li_34, li_35, li_36, li_37, li_38, li_39, li_40, li_41, li_42, li_43, li_44, li_45, li_46, li_47, li_48, li_49, li_50, li_51, li_52, li_53, li_54, li_55, li_56, li_57, li_58, li_59, li_60, li_61, li_63, li_70, li_96, li_97, li_99, li_100, li_101, li_102, li_120, li_122, li_126, li_200, li_255, li_423, li_555, li_999, li_1000, li_1111, li_2968, li_9999, li_10631, li_12345, li_14092, li_21470, li_65536, li_99233, nz_eq, n1_eq, n1_lt, n1_gt, n1_le, n1_ge, n1_sub, n1_add, nm_add, nz_add, nz_add2, z1_ne, z1_lt, z1_le, nI_1, pk_sub, nI_ltI, nI_leI, nI_eq, ni_neg, ni_nneg, ni_pos0, ni_nle0, ni_m1, gI_eq, gI_ne, xI_sJ, xI_sR, xR_sI, xR_sJ, xJ_sI, xJ_sR, gJ_eq, gJ_ne, gR_eq, gR_ne, if_true, if_false, ite_true, ite_false, not_true_eq_false, not_false_eq_true, decide_true, and_self, true_and, and_true, false_and, and_false, or_true, true_or, or_false, false_or, reduceIte, ne_eq]
      rw [mi']
      have up := mxN_up (ta := fun w => taF ok sw key w s) (tb := fun w => taF ok sw key w (s + 1)) (w0 := sw s key) (by show taF ok sw key (sw s key) (s + 1) = _; rw [ta, if_pos ⟨o, rfl⟩]) (fun w hw => by show taF ok sw key w (s + 1) = _; rw [ta, if_neg (fun q => hw q.2.symm)]) 10
      rw [if_pos (by omega)] at up
      refine hkk _ _ ⟨by rw [up], fun w hw => ?_, k3.sI _ (Or.inr rfl)⟩
      by_cases v : w = sw s key
      · subst v
        rw [gI_eq _ _ _ _ _ _ rfl rfl, ta, if_pos ⟨o, rfl⟩]
      · rw [gI_ne _ _ _ _ _ _ (by omega), ta, if_neg (fun q => v q.2.symm)]
        exact (r2.1 _ _ (by omega)).trans ((q2.1 _ _ (by omega)).trans (a1 w hw))
  · intro a n k ⟨a0, a1, a2⟩
    subst a0
    have cx' : CxM (eC E) (eJ E) (eW E) n := cx.keep hE.1 (fun a k r => a2.1 a k (by unfold vM0 at r; omega))
    have e2 : gI n 2 1 = nI (eP E) := cx'.1.1 1 (by decide)
    unfold f_X12_mostAlike_B25
    simp (disch := omega) only [e2, sh', Nat.le_refl, bnd_e, grd_t, bdI_e, bdV_e, bokA, bokB, ni_inb, ni_cl, nI_add, pk_mul, li_2, li_3, li_4, li_5, li_6, li_7, li_8, li_9, li_10, li_11, li_12, li_13, li_14, li_15, li_16, li_17, li_18, li_19, li_20, li_21, li_22, li_23, li_24, li_25, li_26, li_27, li_28, li_29, li_30, li_31, li_32, li_33, li_34, li_35, li_36, li_37, li_38, li_39, li_40, li_41, li_42, li_43, li_44, li_45, li_46, li_47, li_48, li_49, li_50, li_51, li_52, li_53, li_54, li_55, li_56, li_57, li_58, li_59, li_60, li_61, li_63, li_70, li_96, li_97, li_99, li_100, li_101, li_102, li_120, li_122, li_126, li_200, li_255, li_423, li_555, li_999, li_1000, li_1111, li_2968, li_9999, li_10631, li_12345, li_14092, li_21470, li_65536, li_99233, nz_eq, n1_eq, n1_lt, n1_gt, n1_le, n1_ge, n1_sub, n1_add, nm_add, nz_add, nz_add2, z1_ne, z1_lt, z1_le, nI_1, pk_sub, nI_ltI, nI_leI, nI_eq, ni_neg, ni_nneg, ni_pos0, ni_nle0, ni_m1, gI_eq, gI_ne, xI_sJ, xI_sR, xR_sI, xR_sJ, xJ_sI, xJ_sR, gJ_eq, gJ_ne, gR_eq, gR_ne, if_true, if_false, ite_true, ite_false, not_true_eq_false, not_false_eq_true, decide_true, and_self, true_and, and_true, false_and, and_false, or_true, true_or, or_false, false_or, reduceIte, ne_eq]
    exact (Sat_some _ _).mpr ⟨rfl, a2⟩
def fdN (Q : Nat → Nat → Nat) (key : Nat) : Nat → Bool
  | 0 => false
  | n + 1 => fdN Q key n || decide (Q 1 n = key)
theorem fdN_yes (Q : Nat → Nat → Nat) (key : Nat) {i : Nat} (h : Q 1 i = key) : ∀ n, i < n → fdN Q key n = true
  | 0, q => absurd q (by omega)
  | n + 1, q => by
    unfold fdN
    by_cases z : i = n
    · subst z
      rw [decide_eq_true h, Bool.or_true]
    · rw [fdN_yes Q key h n (by omega), Bool.true_or]
theorem fdN_no (Q : Nat → Nat → Nat) (key : Nat) {i : Nat} (h0 : fdN Q key i = false) (h : Q 1 i ≠ key) : fdN Q key (i + 1) = false := by
  unfold fdN
  rw [h0, decide_eq_false h]
  rfl
theorem hasP {m : Mm} {Q : Nat → Nat → Nat} {key : Nat} (hQ : CuOK Q) (cq : CuP 76 Q m) (hk : key < 12) : Sat (f_X0_has 76 (nI key) m) (fun q => q.1 = bO (fdN Q key (Q 0 0)) ∧ q.2 = m) := by
  have q8 := hQ.1
  have l1 : Lp.2.1 (76 + 1) = 8 := rfl
  unfold f_X0_has
  refine cnt1 (Q 0 0) (by omega) (fun i n => fdN Q key i = false ∧ n = m) ?_ ?_ ⟨rfl, rfl⟩
  · intro i n k hi ⟨a1, a2⟩ hkk
    subst a2
    have n1 : ¬ Q 0 0 ≤ i := by omega
    have n2 : ¬ 8 ≤ i := by omega
    obtain ⟨f1, f2⟩ := cq.2 i hi
    have qb := hQ.2 i hi
    unfold f_X0_has_B2
    by_cases z : Q 1 i = key
    · simp (disch := omega) only [cq.1, n1, n2, l1, f1, z, bnd_e, grd_t, bdI_e, bdV_e, bokA, bokB, ni_inb, ni_cl, nI_add, pk_mul, li_2, li_3, li_4, li_5, li_6, li_7, li_8, li_9, li_10, li_11, li_12, li_13, li_14, li_15, li_16, li_17, li_18, li_19, li_20, li_21, li_22, li_23, li_24, li_25, li_26, li_27, li_28, li_29, li_30, li_31, li_32, li_33, li_34, li_35, li_36, li_37, li_38, li_39, li_40, li_41, li_42, li_43, li_44, li_45, li_46, li_47, li_48, li_49, li_50, li_51, li_52, li_53, li_54, li_55, li_56, li_57, li_58, li_59, li_60, li_61, li_63, li_70, li_96, li_97, li_99, li_100, li_101, li_102, li_120, li_122, li_126, li_200, li_255, li_423, li_555, li_999, li_1000, li_1111, li_2968, li_9999, li_10631, li_12345, li_14092, li_21470, li_65536, li_99233, nz_eq, n1_eq, n1_lt, n1_gt, n1_le, n1_ge, n1_sub, n1_add, nm_add, nz_add, nz_add2, z1_ne, z1_lt, z1_le, nI_1, pk_sub, nI_ltI, nI_leI, nI_eq, ni_neg, ni_nneg, ni_pos0, ni_nle0, ni_m1, gI_eq, gI_ne, xI_sJ, xI_sR, xR_sI, xR_sJ, xJ_sI, xJ_sR, gJ_eq, gJ_ne, gR_eq, gR_ne, if_true, if_false, ite_true, ite_false, not_true_eq_false, not_false_eq_true, decide_true, and_self, true_and, and_true, false_and, and_false, or_true, true_or, or_false, false_or, reduceIte, ne_eq]
      exact (Sat_some _ _).mpr ⟨by rw [fdN_yes Q key z _ hi]; rfl, rfl⟩
    · simp (disch := omega) only [cq.1, n1, n2, l1, f1, z, bnd_e, grd_t, bdI_e, bdV_e, bokA, bokB, ni_inb, ni_cl, nI_add, pk_mul, li_2, li_3, li_4, li_5, li_6, li_7, li_8, li_9, li_10, li_11, li_12, li_13, li_14, li_15, li_16, li_17, li_18, li_19, li_20, li_21, li_22, li_23, li_24, li_25, li_26, li_27, li_28, li_29, li_30, li_31, li_32, li_33, li_34, li_35, li_36, li_37, li_38, li_39, li_40, li_41, li_42, li_43, li_44, li_45, li_46, li_47, li_48, li_49, li_50, li_51, li_52, li_53, li_54, li_55, li_56, li_57, li_58, li_59, li_60, li_61, li_63, li_70, li_96, li_97, li_99, li_100, li_101, li_102, li_120, li_122, li_126, li_200, li_255, li_423, li_555, li_999, li_1000, li_1111, li_2968, li_9999, li_10631, li_12345, li_14092, li_21470, li_65536, li_99233, nz_eq, n1_eq, n1_lt, n1_gt, n1_le, n1_ge, n1_sub, n1_add, nm_add, nz_add, nz_add2, z1_ne, z1_lt, z1_le, nI_1, pk_sub, nI_ltI, nI_leI, nI_eq, ni_neg, ni_nneg, ni_pos0, ni_nle0, ni_m1, gI_eq, gI_ne, xI_sJ, xI_sR, xR_sI, xR_sJ, xJ_sI, xJ_sR, gJ_eq, gJ_ne, gR_eq, gR_ne, if_true, if_false, ite_true, ite_false, not_true_eq_false, not_false_eq_true, decide_true, and_self, true_and, and_true, false_and, and_false, or_true, true_or, or_false, false_or, reduceIte, ne_eq]
      exact hkk _ ⟨fdN_no Q key a1 z, rfl⟩
  · intro n k ⟨a1, a2⟩
    subst a2
    unfold f_X0_has_B2
    simp (disch := omega) only [cq.1, Nat.le_refl, bnd_e, grd_t, bdI_e, bdV_e, bokA, bokB, ni_inb, ni_cl, nI_add, pk_mul, li_2, li_3, li_4, li_5, li_6, li_7, li_8, li_9, li_10, li_11, li_12, li_13, li_14, li_15, li_16, li_17, li_18, li_19, li_20, li_21, li_22, li_23, li_24, li_25, li_26, li_27, li_28, li_29, li_30, li_31, li_32, li_33, li_34, li_35, li_36, li_37, li_38, li_39, li_40, li_41, li_42, li_43, li_44, li_45, li_46, li_47, li_48, li_49, li_50, li_51, li_52, li_53, li_54, li_55, li_56, li_57, li_58, li_59, li_60, li_61, li_63, li_70, li_96, li_97, li_99, li_100, li_101, li_102, li_120, li_122, li_126, li_200, li_255, li_423, li_555, li_999, li_1000, li_1111, li_2968, li_9999, li_10631, li_12345, li_14092, li_21470, li_65536, li_99233, nz_eq, n1_eq, n1_lt, n1_gt, n1_le, n1_ge, n1_sub, n1_add, nm_add, nz_add, nz_add2, z1_ne, z1_lt, z1_le, nI_1, pk_sub, nI_ltI, nI_leI, nI_eq, ni_neg, ni_nneg, ni_pos0, ni_nle0, ni_m1, gI_eq, gI_ne, xI_sJ, xI_sR, xR_sI, xR_sJ, xJ_sI, xJ_sR, gJ_eq, gJ_ne, gR_eq, gR_ne, if_true, if_false, ite_true, ite_false, not_true_eq_false, not_false_eq_true, decide_true, and_self, true_and, and_true, false_and, and_false, or_true, true_or, or_false, false_or, reduceIte, ne_eq]
    exact (Sat_some _ _).mpr ⟨by rw [a1]; rfl, rfl⟩
theorem foundM {m : Mm} {Q : Nat → Nat → Nat} {key : Nat} (hQ : CuOK Q) (cq : CuM 0 Q m) (hk : key < 12) : Sat (f_X12_isFound (nI key) m) (fun q => q.1 = bO (fdN Q key (Q 0 0)) ∧ q.2 = m) := by
  have q8 := hQ.1
  unfold f_X12_isFound
  refine cnt1 (Q 0 0) (by omega) (fun i n => fdN Q key i = false ∧ n = m) ?_ ?_ ⟨rfl, rfl⟩
  · intro i n k hi ⟨a1, a2⟩ hkk
    subst a2
    have n1 : ¬ Q 0 0 ≤ i := by omega
    obtain ⟨f1, f2⟩ := cq.2 i hi
    rw [Nat.mul_zero, Nat.zero_add] at f1 f2
    have qb := hQ.2 i hi
    unfold f_X12_isFound_B2
    by_cases z : Q 1 i = key
    · simp (disch := omega) only [cq.1, n1, f1, z, bnd_e, grd_t, bdI_e, bdV_e, bokA, bokB, ni_inb, ni_cl, nI_add, pk_mul, li_2, li_3, li_4, li_5, li_6, li_7, li_8, li_9, li_10, li_11, li_12, li_13, li_14, li_15, li_16, li_17, li_18, li_19, li_20, li_21, li_22, li_23, li_24, li_25, li_26, li_27, li_28, li_29, li_30, li_31, li_32, li_33, li_34, li_35, li_36, li_37, li_38, li_39, li_40, li_41, li_42, li_43, li_44, li_45, li_46, li_47, li_48, li_49, li_50, li_51, li_52, li_53, li_54, li_55, li_56, li_57, li_58, li_59, li_60, li_61, li_63, li_70, li_96, li_97, li_99, li_100, li_101, li_102, li_120, li_122, li_126, li_200, li_255, li_423, li_555, li_999, li_1000, li_1111, li_2968, li_9999, li_10631, li_12345, li_14092, li_21470, li_65536, li_99233, nz_eq, n1_eq, n1_lt, n1_gt, n1_le, n1_ge, n1_sub, n1_add, nm_add, nz_add, nz_add2, z1_ne, z1_lt, z1_le, nI_1, pk_sub, nI_ltI, nI_leI, nI_eq, ni_neg, ni_nneg, ni_pos0, ni_nle0, ni_m1, gI_eq, gI_ne, xI_sJ, xI_sR, xR_sI, xR_sJ, xJ_sI, xJ_sR, gJ_eq, gJ_ne, gR_eq, gR_ne, if_true, if_false, ite_true, ite_false, not_true_eq_false, not_false_eq_true, decide_true, and_self, true_and, and_true, false_and, and_false, or_true, true_or, or_false, false_or, reduceIte, ne_eq]
      exact (Sat_some _ _).mpr ⟨by rw [fdN_yes Q key z _ hi]; rfl, rfl⟩
    · simp (disch := omega) only [cq.1, n1, f1, z, bnd_e, grd_t, bdI_e, bdV_e, bokA, bokB, ni_inb, ni_cl, nI_add, pk_mul, li_2, li_3, li_4, li_5, li_6, li_7, li_8, li_9, li_10, li_11, li_12, li_13, li_14, li_15, li_16, li_17, li_18, li_19, li_20, li_21, li_22, li_23, li_24, li_25, li_26, li_27, li_28, li_29, li_30, li_31, li_32, li_33, li_34, li_35, li_36, li_37, li_38, li_39, li_40, li_41, li_42, li_43, li_44, li_45, li_46, li_47, li_48, li_49, li_50, li_51, li_52, li_53, li_54, li_55, li_56, li_57, li_58, li_59, li_60, li_61, li_63, li_70, li_96, li_97, li_99, li_100, li_101, li_102, li_120, li_122, li_126, li_200, li_255, li_423, li_555, li_999, li_1000, li_1111, li_2968, li_9999, li_10631, li_12345, li_14092, li_21470, li_65536, li_99233, nz_eq, n1_eq, n1_lt, n1_gt, n1_le, n1_ge, n1_sub, n1_add, nm_add, nz_add, nz_add2, z1_ne, z1_lt, z1_le, nI_1, pk_sub, nI_ltI, nI_leI, nI_eq, ni_neg, ni_nneg, ni_pos0, ni_nle0, ni_m1, gI_eq, gI_ne, xI_sJ, xI_sR, xR_sI, xR_sJ, xJ_sI, xJ_sR, gJ_eq, gJ_ne, gR_eq, gR_ne, if_true, if_false, ite_true, ite_false, not_true_eq_false, not_false_eq_true, decide_true, and_self, true_and, and_true, false_and, and_false, or_true, true_or, or_false, false_or, reduceIte, ne_eq]
      exact hkk _ ⟨fdN_no Q key a1 z, rfl⟩
  · intro n k ⟨a1, a2⟩
    subst a2
    unfold f_X12_isFound_B2
    simp (disch := omega) only [cq.1, Nat.le_refl, bnd_e, grd_t, bdI_e, bdV_e, bokA, bokB, ni_inb, ni_cl, nI_add, pk_mul, li_2, li_3, li_4, li_5, li_6, li_7, li_8, li_9, li_10, li_11, li_12, li_13, li_14, li_15, li_16, li_17, li_18, li_19, li_20, li_21, li_22, li_23, li_24, li_25, li_26, li_27, li_28, li_29, li_30, li_31, li_32, li_33, li_34, li_35, li_36, li_37, li_38, li_39, li_40, li_41, li_42, li_43, li_44, li_45, li_46, li_47, li_48, li_49, li_50, li_51, li_52, li_53, li_54, li_55, li_56, li_57, li_58, li_59, li_60, li_61, li_63, li_70, li_96, li_97, li_99, li_100, li_101, li_102, li_120, li_122, li_126, li_200, li_255, li_423, li_555, li_999, li_1000, li_1111, li_2968, li_9999, li_10631, li_12345, li_14092, li_21470, li_65536, li_99233, nz_eq, n1_eq, n1_lt, n1_gt, n1_le, n1_ge, n1_sub, n1_add, nm_add, nz_add, nz_add2, z1_ne, z1_lt, z1_le, nI_1, pk_sub, nI_ltI, nI_leI, nI_eq, ni_neg, ni_nneg, ni_pos0, ni_nle0, ni_m1, gI_eq, gI_ne, xI_sJ, xI_sR, xR_sI, xR_sJ, xJ_sI, xJ_sR, gJ_eq, gJ_ne, gR_eq, gR_ne, if_true, if_false, ite_true, ite_false, not_true_eq_false, not_false_eq_true, decide_true, and_self, true_and, and_true, false_and, and_false, or_true, true_or, or_false, false_or, reduceIte, ne_eq]
    exact (Sat_some _ _).mpr ⟨by rw [a1]; rfl, rfl⟩
def loF (fd : Nat → Bool) (mx : Nat → Nat) (c0 : Nat) : Nat → Nat × Nat
  | 0 => (c0, 0)
  | n + 1 => if fd n = true then loF fd mx c0 n else if mx n < (loF fd mx c0 n).1 then (mx n, n + 1) else loF fd mx c0 n
theorem loF_b (fd : Nat → Bool) (mx : Nat → Nat) (c0 : Nat) : ∀ n, (loF fd mx c0 n).1 ≤ c0
  | 0 => Nat.le_refl _
  | n + 1 => by
    have := loF_b fd mx c0 n
    unfold loF
    split
    · exact this
    · split
      · show mx n ≤ c0
        omega
      · exact this
theorem st_look : St_look Rel := by
  intro mP mM ⟨C, st, S, hR⟩
  have hK : RelC C st S mP (sI mM 0 0 0) := hR.keep (SaP.refl _ _) (SaM.thr _ _)
  refine of_key ?_
  obtain ⟨jP, wP, e, f, t, wr, b⟩ := hR.bas
  obtain ⟨cx, -, hC, lq, ⟨be, bf, bt, bw⟩, bs⟩ := id b
  have hst := hR.st
  have c1 := hC.2.1
  have hE := mkE_ok b be.2 (by omega : f ≤ 60) bt 0
  obtain ⟨Q, hQ, cqP, cqM⟩ := hK.2.2.2.2.2.1
  obtain ⟨E, eqE⟩ : ∃ E, E = mkE C e f t 0 jP wP := ⟨_, rfl⟩
  obtain ⟨ok, hok⟩ : ∃ ok : Nat → Bool, ∀ s, ok s = okS E Q s := ⟨_, fun _ => rfl⟩
  obtain ⟨N, hN⟩ : ∃ N, N = 2 ^ C 0 1 := ⟨_, rfl⟩
  have hN1 : 1 ≤ N := by
    rw [hN]
    exact Nat.one_le_two_pow
  have hN128 : N ≤ 128 := by
    rw [hN]
    exact Nat.pow_le_pow_right (by decide) c1
  have hN' : N = 2 ^ eP E := by rw [eqE]; exact hN
  have sh := shl_P (C 0 1) (by omega)
  rw [← hN] at sh
  have sh' : (1 : Int32) <<< (nI (C 0 1) &&& nI 31) = nI N := sh
  obtain ⟨sw, hsw⟩ : ∃ sw : Nat → Nat → Nat, sw = fun s => swW E s (eP E) := ⟨_, rfl⟩
  obtain ⟨mx, hmx⟩ : ∃ mx : Nat → Nat, ∀ k, mxN (fun w => taF ok sw k w N) 10 = mx k := ⟨_, fun _ => rfl⟩
  have mxb : ∀ k, mx k ≤ 1000 := by
    intro k
    rw [← hmx k]
    exact mxN_b (fun w => by have := taF_b ok sw k w N; omega) 10
  obtain ⟨c0, hc0⟩ : ∃ c0, c0 = (seF ok (nI (N - 1)) N).1 := ⟨_, rfl⟩
  have c0b : c0 ≤ 128 := by
    have := seF_b ok (nI (N - 1)) N
    omega
  obtain ⟨K, hK12⟩ : ∃ K, K = 12 := ⟨_, rfl⟩
  have lo : ∀ n, loF (fun k => fdN Q k (Q 0 0)) mx c0 (n + 1) = if fdN Q n (Q 0 0) = true then loF (fun k => fdN Q k (Q 0 0)) mx c0 n else if mx n < (loF (fun k => fdN Q k (Q 0 0)) mx c0 n).1 then (mx n, n + 1) else loF (fun k => fdN Q k (Q 0 0)) mx c0 n := fun n => rfl
  have lb := loF_b (fun k => fdN Q k (Q 0 0)) mx c0
  have hK2 : RelC C st S mP (sI (sI mM 0 0 0) 0 0 0) := hK.keep (SaP.refl _ _) (SaM.thr _ _)
  have mm : Sat (f_X12_look mM) (fun q => q.1 = bI1 (loF (fun k => fdN Q k (Q 0 0)) mx c0 K).2 ∧ Kp (fun a _ => (18 ≤ a ∧ a ≤ 27) ∨ a = 47) (sI (sI mM 0 0 0) 0 0 0) q.2) := by
    have cm : CxM C jP wP (sI (sI mM 0 0 0) 0 0 0) := b.2.1.keep hC (fun a k r => (gI_ne _ _ _ _ _ _ (by unfold vM0 at r; omega)).trans (gI_ne _ _ _ _ _ _ (by unfold vM0 at r; omega)))
    have e35 : gI (sI (sI mM 0 0 0) 0 0 0) 35 1 = nI e := (hK2.2.2.1.2.2.at0 (by decide)).trans bs.1
    have e21 : gI (sI (sI mM 0 0 0) 0 0 0) 2 1 = nI (C 0 1) := cm.1.1 1 (by decide)
    have cq2 : CuM 0 Q (sI (sI mM 0 0 0) 0 0 0) := cqM.kp hQ (gI_ne _ _ _ _ _ _ (by omega)) (fun c i h1 _ _ => gI_ne _ _ _ _ _ _ (by omega))
    have in02 : ¬ nI 2 < 0 := by decide
    have z00 : ¬ (0 : Int32) < 0 := by decide
    unfold f_X12_look f_X12_sets
    simp (disch := omega) only [within_e, show gI mM 2 1 = nI (C 0 1) from e21, sh', in02, z00, or_self, bnd_e, grd_t, bdI_e, bdV_e, bokA, bokB, ni_inb, ni_cl, nI_add, pk_mul, li_2, li_3, li_4, li_5, li_6, li_7, li_8, li_9, li_10, li_11, li_12, li_13, li_14, li_15, li_16, li_17, li_18, li_19, li_20, li_21, li_22, li_23, li_24, li_25, li_26, li_27, li_28, li_29, li_30, li_31, li_32, li_33, li_34, li_35, li_36, li_37, li_38, li_39, li_40, li_41, li_42, li_43, li_44, li_45, li_46, li_47, li_48, li_49, li_50, li_51, li_52, li_53, li_54, li_55, li_56, li_57, li_58, li_59, li_60, li_61, li_63, li_70, li_96, li_97, li_99, li_100, li_101, li_102, li_120, li_122, li_126, li_200, li_255, li_423, li_555, li_999, li_1000, li_1111, li_2968, li_9999, li_10631, li_12345, li_14092, li_21470, li_65536, li_99233, nz_eq, n1_eq, n1_lt, n1_gt, n1_le, n1_ge, n1_sub, n1_add, nm_add, nz_add, nz_add2, z1_ne, z1_lt, z1_le, nI_1, pk_sub, nI_ltI, nI_leI, nI_eq, ni_neg, ni_nneg, ni_pos0, ni_nle0, ni_m1, gI_eq, gI_ne, xI_sJ, xI_sR, xR_sI, xR_sJ, xJ_sI, xJ_sR, gJ_eq, gJ_ne, gR_eq, gR_ne, if_true, if_false, ite_true, ite_false, not_true_eq_false, not_false_eq_true, decide_true, and_self, true_and, and_true, false_and, and_false, or_true, true_or, or_false, false_or, reduceIte, ne_eq]
    generalize sI (sI mM 0 0 0) 0 0 0 = m at cm e35 e21 cq2
    have sm := setsM (E := mkE C e f t 0 jP wP) (m := m) hE cm e35 hQ cq2 (ok := ok) (by rw [← eqE]; exact hok) (N := N) (by rw [← eqE]; exact hN') (j := 0) (by decide)
    rw [Sat_bdI]
    refine sm.mono ?_
    intro q ⟨q1, q2⟩
    have q1' : q.1 = nI c0 := by rw [hc0]; exact q1
    rw [q1']
    refine lopR4 (fun n x4 x5 x6 m' => ∃ i, i ≤ K ∧ n = K - i ∧ x4 = nI (loF (fun k => fdN Q k (Q 0 0)) mx c0 i).1 ∧ x5 = bI1 (loF (fun k => fdN Q k (Q 0 0)) mx c0 i).2 ∧ x6 = nI i ∧ Kp (fun a _ => (18 ≤ a ∧ a ≤ 27) ∨ a = 47) m m') ?_ 4000 K (by omega) _ _ _ _ ⟨0, by omega, by omega, rfl, bI1_0.symm, rfl, q2.mono (fun a k r => by omega)⟩
    intro n x4 x5 x6 m' k ⟨i, hi, hn, e4, e5, e6, hkp⟩ hk
    subst e4
    subst e5
    subst e6
    have lbi := lb i
    unfold f_X12_look_B15 f_X12_look_J53
    by_cases z : i = K
    · have n1 : 12 ≤ i := by omega
      simp (disch := omega) only [n1, bnd_e, grd_t, bdI_e, bdV_e, bokA, bokB, ni_inb, ni_cl, nI_add, pk_mul, li_2, li_3, li_4, li_5, li_6, li_7, li_8, li_9, li_10, li_11, li_12, li_13, li_14, li_15, li_16, li_17, li_18, li_19, li_20, li_21, li_22, li_23, li_24, li_25, li_26, li_27, li_28, li_29, li_30, li_31, li_32, li_33, li_34, li_35, li_36, li_37, li_38, li_39, li_40, li_41, li_42, li_43, li_44, li_45, li_46, li_47, li_48, li_49, li_50, li_51, li_52, li_53, li_54, li_55, li_56, li_57, li_58, li_59, li_60, li_61, li_63, li_70, li_96, li_97, li_99, li_100, li_101, li_102, li_120, li_122, li_126, li_200, li_255, li_423, li_555, li_999, li_1000, li_1111, li_2968, li_9999, li_10631, li_12345, li_14092, li_21470, li_65536, li_99233, nz_eq, n1_eq, n1_lt, n1_gt, n1_le, n1_ge, n1_sub, n1_add, nm_add, nz_add, nz_add2, z1_ne, z1_lt, z1_le, nI_1, pk_sub, nI_ltI, nI_leI, nI_eq, ni_neg, ni_nneg, ni_pos0, ni_nle0, ni_m1, gI_eq, gI_ne, xI_sJ, xI_sR, xR_sI, xR_sJ, xJ_sI, xJ_sR, gJ_eq, gJ_ne, gR_eq, gR_ne, if_true, if_false, ite_true, ite_false, not_true_eq_false, not_false_eq_true, decide_true, and_self, true_and, and_true, false_and, and_false, or_true, true_or, or_false, false_or, reduceIte, ne_eq]
      exact (Sat_some _ _).mpr ⟨by rw [z], hkp⟩
    · have n1 : ¬ 12 ≤ i := by omega
      have cm' : CxM C jP wP m' := cm.keep hC (fun a k r => hkp.1 a k (by unfold vM0 at r; omega))
      have cq' : CuM 0 Q m' := cq2.kp hQ (hkp.1 _ _ (by omega)) (fun c i _ _ _ => hkp.1 _ _ (by omega))
      have e35' : gI m' 35 1 = nI e := (hkp.1 _ _ (by omega)).trans e35
      simp (disch := omega) only [n1, bnd_e, grd_t, bdI_e, bdV_e, bokA, bokB, ni_inb, ni_cl, nI_add, pk_mul, li_2, li_3, li_4, li_5, li_6, li_7, li_8, li_9, li_10, li_11, li_12, li_13, li_14, li_15, li_16, li_17, li_18, li_19, li_20, li_21, li_22, li_23, li_24, li_25, li_26, li_27, li_28, li_29, li_30, li_31, li_32, li_33, li_34, li_35, li_36, li_37, li_38, li_39, li_40, li_41, li_42, li_43, li_44, li_45, li_46, li_47, li_48, li_49, li_50, li_51, li_52, li_53, li_54, li_55, li_56, li_57, li_58, li_59, li_60, li_61, li_63, li_70, li_96, li_97, li_99, li_100, li_101, li_102, li_120, li_122, li_126, li_200, li_255, li_423, li_555, li_999, li_1000, li_1111, li_2968, li_9999, li_10631, li_12345, li_14092, li_21470, li_65536, li_99233, nz_eq, n1_eq, n1_lt, n1_gt, n1_le, n1_ge, n1_sub, n1_add, nm_add, nz_add, nz_add2, z1_ne, z1_lt, z1_le, nI_1, pk_sub, nI_ltI, nI_leI, nI_eq, ni_neg, ni_nneg, ni_pos0, ni_nle0, ni_m1, gI_eq, gI_ne, xI_sJ, xI_sR, xR_sI, xR_sJ, xJ_sI, xJ_sR, gJ_eq, gJ_ne, gR_eq, gR_ne, if_true, if_false, ite_true, ite_false, not_true_eq_false, not_false_eq_true, decide_true, and_self, true_and, and_true, false_and, and_false, or_true, true_or, or_false, false_or, reduceIte, ne_eq]
      rw [Sat_bdI]
      refine (foundM hQ cq' (by omega : i < 12)).mono ?_
      intro r ⟨r1, r2⟩
      obtain ⟨v, m2⟩ := r
      have r2' : m2 = m' := r2
      subst r2'
      have r1' : v = bO (fdN Q i (Q 0 0)) := r1
      subst r1'
      have lo' := lo i
      cases o : fdN Q i (Q 0 0) with
      | true =>
        rw [o, if_pos rfl] at lo'
        have b0 : ¬ bO true = 0 := by decide
        simp (disch := omega) only [b0, bnd_e, grd_t, bdI_e, bdV_e, bokA, bokB, ni_inb, ni_cl, nI_add, pk_mul, li_2, li_3, li_4, li_5, li_6, li_7, li_8, li_9, li_10, li_11, li_12, li_13, li_14, li_15, li_16, li_17, li_18, li_19, li_20, li_21, li_22, li_23, li_24, li_25, li_26, li_27, li_28, li_29, li_30, li_31, li_32, li_33, li_34, li_35, li_36, li_37, li_38, li_39, li_40, li_41, li_42, li_43, li_44, li_45, li_46, li_47, li_48, li_49, li_50, li_51, li_52, li_53, li_54, li_55, li_56, li_57, li_58, li_59, li_60, li_61, li_63, li_70, li_96, li_97, li_99, li_100, li_101, li_102, li_120, li_122, li_126, li_200, li_255, li_423, li_555, li_999, li_1000, li_1111, li_2968, li_9999, li_10631, li_12345, li_14092, li_21470, li_65536, li_99233, nz_eq, n1_eq, n1_lt, n1_gt, n1_le, n1_ge, n1_sub, n1_add, nm_add, nz_add, nz_add2, z1_ne, z1_lt, z1_le, nI_1, pk_sub, nI_ltI, nI_leI, nI_eq, ni_neg, ni_nneg, ni_pos0, ni_nle0, ni_m1, gI_eq, gI_ne, xI_sJ, xI_sR, xR_sI, xR_sJ, xJ_sI, xJ_sR, gJ_eq, gJ_ne, gR_eq, gR_ne, if_true, if_false, ite_true, ite_false, not_true_eq_false, not_false_eq_true, decide_true, and_self, true_and, and_true, false_and, and_false, or_true, true_or, or_false, false_or, reduceIte, ne_eq]
        exact hk (K - (i + 1)) _ _ _ _ (by omega) ⟨i + 1, by omega, rfl, by rw [lo'], by rw [lo'], rfl, hkp⟩
      | false =>
        rw [o, if_neg (by decide)] at lo'
        have b0 : bO false = 0 := rfl
        simp (disch := omega) only [b0, bnd_e, grd_t, bdI_e, bdV_e, bokA, bokB, ni_inb, ni_cl, nI_add, pk_mul, li_2, li_3, li_4, li_5, li_6, li_7, li_8, li_9, li_10, li_11, li_12, li_13, li_14, li_15, li_16, li_17, li_18, li_19, li_20, li_21, li_22, li_23, li_24, li_25, li_26, li_27, li_28, li_29, li_30, li_31, li_32, li_33, li_34, li_35, li_36, li_37, li_38, li_39, li_40, li_41, li_42, li_43, li_44, li_45, li_46, li_47, li_48, li_49, li_50, li_51, li_52, li_53, li_54, li_55, li_56, li_57, li_58, li_59, li_60, li_61, li_63, li_70, li_96, li_97, li_99, li_100, li_101, li_102, li_120, li_122, li_126, li_200, li_255, li_423, li_555, li_999, li_1000, li_1111, li_2968, li_9999, li_10631, li_12345, li_14092, li_21470, li_65536, li_99233, nz_eq, n1_eq, n1_lt, n1_gt, n1_le, n1_ge, n1_sub, n1_add, nm_add, nz_add, nz_add2, z1_ne, z1_lt, z1_le, nI_1, pk_sub, nI_ltI, nI_leI, nI_eq, ni_neg, ni_nneg, ni_pos0, ni_nle0, ni_m1, gI_eq, gI_ne, xI_sJ, xI_sR, xR_sI, xR_sJ, xJ_sI, xJ_sR, gJ_eq, gJ_ne, gR_eq, gR_ne, if_true, if_false, ite_true, ite_false, not_true_eq_false, not_false_eq_true, decide_true, and_self, true_and, and_true, false_and, and_false, or_true, true_or, or_false, false_or, reduceIte, ne_eq]
        rw [Sat_bdI]
        have al := alikeM (E := mkE C e f t 0 jP wP) (m := m2) hE cm' e35' hQ cq' (ok := ok) (by rw [← eqE]; exact hok) (N := N) (by rw [← eqE]; exact hN') (by omega : i < 12)
        rw [← eqE, ← hsw, hmx i] at al
        refine al.mono ?_
        intro w ⟨w1, w2⟩
        have mxi := mxb i
        rw [w1]
        by_cases y : mx i < (loF (fun k => fdN Q k (Q 0 0)) mx c0 i).1
        · rw [if_pos y] at lo'
          simp (disch := omega) only [y, bnd_e, grd_t, bdI_e, bdV_e, bokA, bokB, ni_inb, ni_cl, nI_add, pk_mul, li_2, li_3, li_4, li_5, li_6, li_7, li_8, li_9, li_10, li_11, li_12, li_13, li_14, li_15, li_16, li_17, li_18, li_19, li_20, li_21, li_22, li_23, li_24, li_25, li_26, li_27, li_28, li_29, li_30, li_31, li_32, li_33, li_34, li_35, li_36, li_37, li_38, li_39, li_40, li_41, li_42, li_43, li_44, li_45, li_46, li_47, li_48, li_49, li_50, li_51, li_52, li_53, li_54, li_55, li_56, li_57, li_58, li_59, li_60, li_61, li_63, li_70, li_96, li_97, li_99, li_100, li_101, li_102, li_120, li_122, li_126, li_200, li_255, li_423, li_555, li_999, li_1000, li_1111, li_2968, li_9999, li_10631, li_12345, li_14092, li_21470, li_65536, li_99233, nz_eq, n1_eq, n1_lt, n1_gt, n1_le, n1_ge, n1_sub, n1_add, nm_add, nz_add, nz_add2, z1_ne, z1_lt, z1_le, nI_1, pk_sub, nI_ltI, nI_leI, nI_eq, ni_neg, ni_nneg, ni_pos0, ni_nle0, ni_m1, gI_eq, gI_ne, xI_sJ, xI_sR, xR_sI, xR_sJ, xJ_sI, xJ_sR, gJ_eq, gJ_ne, gR_eq, gR_ne, if_true, if_false, ite_true, ite_false, not_true_eq_false, not_false_eq_true, decide_true, and_self, true_and, and_true, false_and, and_false, or_true, true_or, or_false, false_or, reduceIte, ne_eq]
          exact hk (K - (i + 1)) _ _ _ _ (by omega) ⟨i + 1, by omega, rfl, by rw [lo'], by rw [lo']; exact (bI1_s i).symm, rfl, hkp.trans w2⟩
        · rw [if_neg y] at lo'
          simp (disch := omega) only [y, bnd_e, grd_t, bdI_e, bdV_e, bokA, bokB, ni_inb, ni_cl, nI_add, pk_mul, li_2, li_3, li_4, li_5, li_6, li_7, li_8, li_9, li_10, li_11, li_12, li_13, li_14, li_15, li_16, li_17, li_18, li_19, li_20, li_21, li_22, li_23, li_24, li_25, li_26, li_27, li_28, li_29, li_30, li_31, li_32, li_33, li_34, li_35, li_36, li_37, li_38, li_39, li_40, li_41, li_42, li_43, li_44, li_45, li_46, li_47, li_48, li_49, li_50, li_51, li_52, li_53, li_54, li_55, li_56, li_57, li_58, li_59, li_60, li_61, li_63, li_70, li_96, li_97, li_99, li_100, li_101, li_102, li_120, li_122, li_126, li_200, li_255, li_423, li_555, li_999, li_1000, li_1111, li_2968, li_9999, li_10631, li_12345, li_14092, li_21470, li_65536, li_99233, nz_eq, n1_eq, n1_lt, n1_gt, n1_le, n1_ge, n1_sub, n1_add, nm_add, nz_add, nz_add2, z1_ne, z1_lt, z1_le, nI_1, pk_sub, nI_ltI, nI_leI, nI_eq, ni_neg, ni_nneg, ni_pos0, ni_nle0, ni_m1, gI_eq, gI_ne, xI_sJ, xI_sR, xR_sI, xR_sJ, xJ_sI, xJ_sR, gJ_eq, gJ_ne, gR_eq, gR_ne, if_true, if_false, ite_true, ite_false, not_true_eq_false, not_false_eq_true, decide_true, and_self, true_and, and_true, false_and, and_false, or_true, true_or, or_false, false_or, reduceIte, ne_eq]
          exact hk (K - (i + 1)) _ _ _ _ (by omega) ⟨i + 1, by omega, rfl, by rw [lo'], by rw [lo'], rfl, hkp.trans w2⟩
  have pp : Sat (f_X11_look mP) (fun q => q.1 = bI1 (loF (fun k => fdN Q k (Q 0 0)) mx c0 K).2 ∧ KU st mP q.2) := by
    have s1 := hR.2.2.1.2.1
    unfold f_X11_look
    simp (disch := omega) only [cx.2.1, Lst hst, s1.2.1.trans bs.1, bnd_e, grd_t, bdI_e, bdV_e, bokA, bokB, ni_inb, ni_cl, nI_add, pk_mul, li_2, li_3, li_4, li_5, li_6, li_7, li_8, li_9, li_10, li_11, li_12, li_13, li_14, li_15, li_16, li_17, li_18, li_19, li_20, li_21, li_22, li_23, li_24, li_25, li_26, li_27, li_28, li_29, li_30, li_31, li_32, li_33, li_34, li_35, li_36, li_37, li_38, li_39, li_40, li_41, li_42, li_43, li_44, li_45, li_46, li_47, li_48, li_49, li_50, li_51, li_52, li_53, li_54, li_55, li_56, li_57, li_58, li_59, li_60, li_61, li_63, li_70, li_96, li_97, li_99, li_100, li_101, li_102, li_120, li_122, li_126, li_200, li_255, li_423, li_555, li_999, li_1000, li_1111, li_2968, li_9999, li_10631, li_12345, li_14092, li_21470, li_65536, li_99233, nz_eq, n1_eq, n1_lt, n1_gt, n1_le, n1_ge, n1_sub, n1_add, nm_add, nz_add, nz_add2, z1_ne, z1_lt, z1_le, nI_1, pk_sub, nI_ltI, nI_leI, nI_eq, ni_neg, ni_nneg, ni_pos0, ni_nle0, ni_m1, gI_eq, gI_ne, xI_sJ, xI_sR, xR_sI, xR_sJ, xJ_sI, xJ_sR, gJ_eq, gJ_ne, gR_eq, gR_ne, if_true, if_false, ite_true, ite_false, not_true_eq_false, not_false_eq_true, decide_true, and_self, true_and, and_true, false_and, and_false, or_true, true_or, or_false, false_or, reduceIte, ne_eq]
    rw [Sat_bdV]
    refine (prepT (E := mkE C e f t 0 jP wP) (m := mP) hE cx (fun _ _ => rfl)).mono ?_
    intro n2 ⟨b1, b2, b3, b4⟩
    have cx2 := cx.keep hC b4
    have g2 : gR n2 0 2 = st := cx2.2.1
    have cq2 : CuP 76 Q n2 := cqP.keep (fun k => b2 _ _ (by unfold WPr; omega)) (fun k => b2 _ _ (by unfold WPr; omega)) (fun k => b2 _ _ (by unfold WPr; omega))
    simp (disch := omega) only [g2, Lst hst, bnd_e, grd_t, bdI_e, bdV_e, bokA, bokB, ni_inb, ni_cl, nI_add, pk_mul, li_2, li_3, li_4, li_5, li_6, li_7, li_8, li_9, li_10, li_11, li_12, li_13, li_14, li_15, li_16, li_17, li_18, li_19, li_20, li_21, li_22, li_23, li_24, li_25, li_26, li_27, li_28, li_29, li_30, li_31, li_32, li_33, li_34, li_35, li_36, li_37, li_38, li_39, li_40, li_41, li_42, li_43, li_44, li_45, li_46, li_47, li_48, li_49, li_50, li_51, li_52, li_53, li_54, li_55, li_56, li_57, li_58, li_59, li_60, li_61, li_63, li_70, li_96, li_97, li_99, li_100, li_101, li_102, li_120, li_122, li_126, li_200, li_255, li_423, li_555, li_999, li_1000, li_1111, li_2968, li_9999, li_10631, li_12345, li_14092, li_21470, li_65536, li_99233, nz_eq, n1_eq, n1_lt, n1_gt, n1_le, n1_ge, n1_sub, n1_add, nm_add, nz_add, nz_add2, z1_ne, z1_lt, z1_le, nI_1, pk_sub, nI_ltI, nI_leI, nI_eq, ni_neg, ni_nneg, ni_pos0, ni_nle0, ni_m1, gI_eq, gI_ne, xI_sJ, xI_sR, xR_sI, xR_sJ, xJ_sI, xJ_sR, gJ_eq, gJ_ne, gR_eq, gR_ne, if_true, if_false, ite_true, ite_false, not_true_eq_false, not_false_eq_true, decide_true, and_self, true_and, and_true, false_and, and_false, or_true, true_or, or_false, false_or, reduceIte, ne_eq]
    rw [Sat_bdV]
    have sp := searchP (E := mkE C e f t 0 jP wP) (m := n2) hE cx2 b1 hQ cq2 (ok := ok) (by rw [← eqE]; exact hok) (N := N) (by rw [← eqE]; exact hN')
    rw [← eqE, ← hsw, ← hc0] at sp
    refine sp.mono ?_
    intro n3 ⟨d1, d2, d3, d4, d5⟩
    have ku : KU st mP n3 := ⟨fun a k h => (d5.1 a k (by omega)).trans (b4.1 a k (fun r => h (Or.inl r))), fun k => (d5.2.2 0 k).trans (b4.2 k)⟩
    have cq3 : CuP 76 Q n3 := cq2.keep (fun k => d5.1 _ _ (by omega)) (fun k => d5.1 _ _ (by omega)) (fun k => d5.1 _ _ (by omega))
    rw [d1]
    refine lopR4 (fun n x4 x5 x6 m' => ∃ i, i ≤ K ∧ n = K - i ∧ x4 = nI (loF (fun k => fdN Q k (Q 0 0)) mx c0 i).1 ∧ x5 = bI1 (loF (fun k => fdN Q k (Q 0 0)) mx c0 i).2 ∧ x6 = nI i ∧ m' = n3) ?_ 4000 K (by omega) _ _ _ _ ⟨0, by omega, by omega, rfl, bI1_0.symm, rfl, rfl⟩
    intro n x4 x5 x6 m' k ⟨i, hi, hn, e4, e5, e6, e7⟩ hk
    subst e4
    subst e5
    subst e6
    subst e7
    have lbi := lb i
    unfold f_X11_look_B49 f_X11_look_J89
    by_cases z : i = K
    · have n1 : 12 ≤ i := by omega
      simp (disch := omega) only [n1, bnd_e, grd_t, bdI_e, bdV_e, bokA, bokB, ni_inb, ni_cl, nI_add, pk_mul, li_2, li_3, li_4, li_5, li_6, li_7, li_8, li_9, li_10, li_11, li_12, li_13, li_14, li_15, li_16, li_17, li_18, li_19, li_20, li_21, li_22, li_23, li_24, li_25, li_26, li_27, li_28, li_29, li_30, li_31, li_32, li_33, li_34, li_35, li_36, li_37, li_38, li_39, li_40, li_41, li_42, li_43, li_44, li_45, li_46, li_47, li_48, li_49, li_50, li_51, li_52, li_53, li_54, li_55, li_56, li_57, li_58, li_59, li_60, li_61, li_63, li_70, li_96, li_97, li_99, li_100, li_101, li_102, li_120, li_122, li_126, li_200, li_255, li_423, li_555, li_999, li_1000, li_1111, li_2968, li_9999, li_10631, li_12345, li_14092, li_21470, li_65536, li_99233, nz_eq, n1_eq, n1_lt, n1_gt, n1_le, n1_ge, n1_sub, n1_add, nm_add, nz_add, nz_add2, z1_ne, z1_lt, z1_le, nI_1, pk_sub, nI_ltI, nI_leI, nI_eq, ni_neg, ni_nneg, ni_pos0, ni_nle0, ni_m1, gI_eq, gI_ne, xI_sJ, xI_sR, xR_sI, xR_sJ, xJ_sI, xJ_sR, gJ_eq, gJ_ne, gR_eq, gR_ne, if_true, if_false, ite_true, ite_false, not_true_eq_false, not_false_eq_true, decide_true, and_self, true_and, and_true, false_and, and_false, or_true, true_or, or_false, false_or, reduceIte, ne_eq]
      exact (Sat_some _ _).mpr ⟨by rw [z], ku⟩
    · have n1 : ¬ 12 ≤ i := by omega
      simp (disch := omega) only [n1, bnd_e, grd_t, bdI_e, bdV_e, bokA, bokB, ni_inb, ni_cl, nI_add, pk_mul, li_2, li_3, li_4, li_5, li_6, li_7, li_8, li_9, li_10, li_11, li_12, li_13, li_14, li_15, li_16, li_17, li_18, li_19, li_20, li_21, li_22, li_23, li_24, li_25, li_26, li_27, li_28, li_29, li_30, li_31, li_32, li_33, li_34, li_35, li_36, li_37, li_38, li_39, li_40, li_41, li_42, li_43, li_44, li_45, li_46, li_47, li_48, li_49, li_50, li_51, li_52, li_53, li_54, li_55, li_56, li_57, li_58, li_59, li_60, li_61, li_63, li_70, li_96, li_97, li_99, li_100, li_101, li_102, li_120, li_122, li_126, li_200, li_255, li_423, li_555, li_999, li_1000, li_1111, li_2968, li_9999, li_10631, li_12345, li_14092, li_21470, li_65536, li_99233, nz_eq, n1_eq, n1_lt, n1_gt, n1_le, n1_ge, n1_sub, n1_add, nm_add, nz_add, nz_add2, z1_ne, z1_lt, z1_le, nI_1, pk_sub, nI_ltI, nI_leI, nI_eq, ni_neg, ni_nneg, ni_pos0, ni_nle0, ni_m1, gI_eq, gI_ne, xI_sJ, xI_sR, xR_sI, xR_sJ, xJ_sI, xJ_sR, gJ_eq, gJ_ne, gR_eq, gR_ne, if_true, if_false, ite_true, ite_false, not_true_eq_false, not_false_eq_true, decide_true, and_self, true_and, and_true, false_and, and_false, or_true, true_or, or_false, false_or, reduceIte, ne_eq]
      rw [Sat_bdI]
      refine (hasP hQ cq3 (by omega : i < 12)).mono ?_
      intro r ⟨r1, r2⟩
      obtain ⟨v, m2⟩ := r
      have r2' : m2 = m' := r2
      subst r2'
      have r1' : v = bO (fdN Q i (Q 0 0)) := r1
      subst r1'
      have lo' := lo i
      cases o : fdN Q i (Q 0 0) with
      | true =>
        rw [o, if_pos rfl] at lo'
        have b0 : ¬ bO true = 0 := by decide
        simp (disch := omega) only [b0, bnd_e, grd_t, bdI_e, bdV_e, bokA, bokB, ni_inb, ni_cl, nI_add, pk_mul, li_2, li_3, li_4, li_5, li_6, li_7, li_8, li_9, li_10, li_11, li_12, li_13, li_14, li_15, li_16, li_17, li_18, li_19, li_20, li_21, li_22, li_23, li_24, li_25, li_26, li_27, li_28, li_29, li_30, li_31, li_32, li_33, li_34, li_35, li_36, li_37, li_38, li_39, li_40, li_41, li_42, li_43, li_44, li_45, li_46, li_47, li_48, li_49, li_50, li_51, li_52, li_53, li_54, li_55, li_56, li_57, li_58, li_59, li_60, li_61, li_63, li_70, li_96, li_97, li_99, li_100, li_101, li_102, li_120, li_122, li_126, li_200, li_255, li_423, li_555, li_999, li_1000, li_1111, li_2968, li_9999, li_10631, li_12345, li_14092, li_21470, li_65536, li_99233, nz_eq, n1_eq, n1_lt, n1_gt, n1_le, n1_ge, n1_sub, n1_add, nm_add, nz_add, nz_add2, z1_ne, z1_lt, z1_le, nI_1, pk_sub, nI_ltI, nI_leI, nI_eq, ni_neg, ni_nneg, ni_pos0, ni_nle0, ni_m1, gI_eq, gI_ne, xI_sJ, xI_sR, xR_sI, xR_sJ, xJ_sI, xJ_sR, gJ_eq, gJ_ne, gR_eq, gR_ne, if_true, if_false, ite_true, ite_false, not_true_eq_false, not_false_eq_true, decide_true, and_self, true_and, and_true, false_and, and_false, or_true, true_or, or_false, false_or, reduceIte, ne_eq]
        exact hk (K - (i + 1)) _ _ _ _ (by omega) ⟨i + 1, by omega, rfl, by rw [lo'], by rw [lo'], rfl, rfl⟩
      | false =>
        rw [o, if_neg (by decide)] at lo'
        have b0 : bO false = 0 := rfl
        have al := alikeP (ta := fun w => taF ok sw i w N) (by omega : i < 12) (fun w => by have := taF_b ok sw i w N; omega) (fun w hw => d4 i w (by omega) hw)
        rw [hmx i] at al
        have mxi := mxb i
        by_cases y : mx i < (loF (fun k => fdN Q k (Q 0 0)) mx c0 i).1
        · have y' : ¬ (loF (fun k => fdN Q k (Q 0 0)) mx c0 i).1 ≤ mx i := by omega
          rw [if_pos y] at lo'
          simp (disch := omega) only [b0, al, y', bnd_e, grd_t, bdI_e, bdV_e, bokA, bokB, ni_inb, ni_cl, nI_add, pk_mul, li_2, li_3, li_4, li_5, li_6, li_7, li_8, li_9, li_10, li_11, li_12, li_13, li_14, li_15, li_16, li_17, li_18, li_19, li_20, li_21, li_22, li_23, li_24, li_25, li_26, li_27, li_28, li_29, li_30, li_31, li_32, li_33, li_34, li_35, li_36, li_37, li_38, li_39, li_40, li_41, li_42, li_43, li_44, li_45, li_46, li_47, li_48, li_49, li_50, li_51, li_52, li_53, li_54, li_55, li_56, li_57, li_58, li_59, li_60, li_61, li_63, li_70, li_96, li_97, li_99, li_100, li_101, li_102, li_120, li_122, li_126, li_200, li_255, li_423, li_555, li_999, li_1000, li_1111, li_2968, li_9999, li_10631, li_12345, li_14092, li_21470, li_65536, li_99233, nz_eq, n1_eq, n1_lt, n1_gt, n1_le, n1_ge, n1_sub, n1_add, nm_add, nz_add, nz_add2, z1_ne, z1_lt, z1_le, nI_1, pk_sub, nI_ltI, nI_leI, nI_eq, ni_neg, ni_nneg, ni_pos0, ni_nle0, ni_m1, gI_eq, gI_ne, xI_sJ, xI_sR, xR_sI, xR_sJ, xJ_sI, xJ_sR, gJ_eq, gJ_ne, gR_eq, gR_ne, if_true, if_false, ite_true, ite_false, not_true_eq_false, not_false_eq_true, decide_true, and_self, true_and, and_true, false_and, and_false, or_true, true_or, or_false, false_or, reduceIte, ne_eq]
          exact hk (K - (i + 1)) _ _ _ _ (by omega) ⟨i + 1, by omega, rfl, by rw [lo'], by rw [lo']; exact (bI1_s i).symm, rfl, rfl⟩
        · have y' : (loF (fun k => fdN Q k (Q 0 0)) mx c0 i).1 ≤ mx i := by omega
          rw [if_neg y] at lo'
          simp (disch := omega) only [b0, al, y', bnd_e, grd_t, bdI_e, bdV_e, bokA, bokB, ni_inb, ni_cl, nI_add, pk_mul, li_2, li_3, li_4, li_5, li_6, li_7, li_8, li_9, li_10, li_11, li_12, li_13, li_14, li_15, li_16, li_17, li_18, li_19, li_20, li_21, li_22, li_23, li_24, li_25, li_26, li_27, li_28, li_29, li_30, li_31, li_32, li_33, li_34, li_35, li_36, li_37, li_38, li_39, li_40, li_41, li_42, li_43, li_44, li_45, li_46, li_47, li_48, li_49, li_50, li_51, li_52, li_53, li_54, li_55, li_56, li_57, li_58, li_59, li_60, li_61, li_63, li_70, li_96, li_97, li_99, li_100, li_101, li_102, li_120, li_122, li_126, li_200, li_255, li_423, li_555, li_999, li_1000, li_1111, li_2968, li_9999, li_10631, li_12345, li_14092, li_21470, li_65536, li_99233, nz_eq, n1_eq, n1_lt, n1_gt, n1_le, n1_ge, n1_sub, n1_add, nm_add, nz_add, nz_add2, z1_ne, z1_lt, z1_le, nI_1, pk_sub, nI_ltI, nI_leI, nI_eq, ni_neg, ni_nneg, ni_pos0, ni_nle0, ni_m1, gI_eq, gI_ne, xI_sJ, xI_sR, xR_sI, xR_sJ, xJ_sI, xJ_sR, gJ_eq, gJ_ne, gR_eq, gR_ne, if_true, if_false, ite_true, ite_false, not_true_eq_false, not_false_eq_true, decide_true, and_self, true_and, and_true, false_and, and_false, or_true, true_or, or_false, false_or, reduceIte, ne_eq]
          exact hk (K - (i + 1)) _ _ _ _ (by omega) ⟨i + 1, by omega, rfl, by rw [lo'], by rw [lo'], rfl, rfl⟩
  refine pp.mono ?_
  intro q ⟨q1, q2⟩
  refine mm.mono ?_
  intro q' ⟨r1, r2⟩
  exact ⟨q1.trans r1.symm, C, st, S, hK2.keep (q2.sa hst) (fun a k v => r2.1 a k (by unfold VM at v; omega))⟩
