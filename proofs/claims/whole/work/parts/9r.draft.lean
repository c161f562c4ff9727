/-! names -/
theorem kq_0 : (409352 : Int64) = nJ (encR 27 (wds.getD 0 [])) := by decide +kernel
theorem kq_1 : (230501934 : Int64) = nJ (encR 27 (wds.getD 1 [])) := by decide +kernel
theorem kq_2 : (8740675 : Int64) = nJ (encR 27 (wds.getD 2 [])) := by decide +kernel
theorem kq_3 : (10320789 : Int64) = nJ (encR 27 (wds.getD 3 [])) := by decide +kernel
theorem kq_4 : (14092 : Int64) = nJ (encR 27 (wds.getD 4 [])) := by decide +kernel
theorem kq_5 : (10492462 : Int64) = nJ (encR 27 (wds.getD 5 [])) := by decide +kernel
theorem kq_6 : (1899199 : Int64) = nJ (encR 27 (wds.getD 6 [])) := by decide +kernel
theorem kq_7 : (12249946 : Int64) = nJ (encR 27 (wds.getD 7 [])) := by decide +kernel
theorem kq_8 : (99233 : Int64) = nJ (encR 27 (wds.getD 8 [])) := by decide +kernel
theorem kq_9 : (307058 : Int64) = nJ (encR 27 (wds.getD 9 [])) := by decide +kernel
theorem kq_10 : (555 : Int64) = nJ (encR 27 (wds.getD 10 [])) := by decide +kernel
theorem kq_11 : (8863997 : Int64) = nJ (encR 27 (wds.getD 11 [])) := by decide +kernel
theorem kq_12 : (208459 : Int64) = nJ (encR 27 (wds.getD 12 [])) := by decide +kernel
theorem kq_13 : (12322792 : Int64) = nJ (encR 27 (wds.getD 13 [])) := by decide +kernel
theorem kq_14 : (2968 : Int64) = nJ (encR 27 (wds.getD 14 [])) := by decide +kernel
theorem kq_15 : (259906 : Int64) = nJ (encR 27 (wds.getD 15 [])) := by decide +kernel
theorem kq_16 : (8740238 : Int64) = nJ (encR 27 (wds.getD 16 [])) := by decide +kernel
theorem kq_17 : (91157229 : Int64) = nJ (encR 27 (wds.getD 17 [])) := by decide +kernel
theorem kq_18 : (2495756 : Int64) = nJ (encR 27 (wds.getD 18 [])) := by decide +kernel
theorem kq_19 : (72640629 : Int64) = nJ (encR 27 (wds.getD 19 [])) := by decide +kernel
theorem kq_20 : (10631 : Int64) = nJ (encR 27 (wds.getD 20 [])) := by decide +kernel
theorem kq_21 : (1111 : Int64) = nJ (encR 27 (wds.getD 21 [])) := by decide +kernel
theorem kq_22 : (423 : Int64) = nJ (encR 27 (wds.getD 22 [])) := by decide +kernel
theorem kpt {α : Type} {c : Prop} [Decidable c] {A B : α} (h : ¬ c → B = A) : (if c then A else B) = A := by
  by_cases q : c
  · rw [if_pos q]
  · rw [if_neg q]; exact h q
def nam (d : Tk) : Bool := decide (tkK d = 1 ∧ 23 ≤ wid (tkR d))
theorem isNameP {T : Nat → Nat} {n : Nat} {d : Tk} {m : Mm} (ok : TkOK T n d) (h : RdP T n d m) : f_X5_isName m = some (bO (nam d), m) := by
  have cb := ctk_b ok
  have wl := wid_le (tkR d)
  unfold f_X5_isName
  by_cases z : tkK d = 1 ∧ 23 ≤ wid (tkR d)
  · have c1 : ctk T d = wid (tkR d) := (ctk_w ok (k := wid (tkR d)) (by omega)).mpr ⟨z.1, rfl⟩
    have n1 : ¬ wid (tkR d) < 23 := by omega
    have n2 : ¬ 29 < wid (tkR d) := by omega
    rw [show nam d = true from decide_eq_true z]
    simp (disch := omega) only [h.2.2.2.1, c1, n1, n2, bnd_e, grd_t, bdI_e, bdV_e, bokA, bokB, ni_inb, ni_cl, nI_add, pk_mul, li_2, li_3, li_4, li_5, li_6, li_7, li_8, li_9, li_10, li_11, li_12, li_13, li_14, li_15, li_16, li_17, li_18, li_19, li_20, li_21, li_22, li_23, li_24, li_25, li_26, li_27, li_28, li_29, li_30, li_31, li_32, li_33, li_34, li_35, li_36, li_37, li_38, li_39, li_40, li_41, li_42, li_43, li_44, li_45, li_46, li_47, li_48, li_49, li_50, li_51, li_52, li_53, li_54, li_55, li_56, li_57, li_58, li_59, li_60, li_61, li_63, li_70, li_96, li_97, li_99, li_100, li_101, li_102, li_120, li_122, li_126, li_200, li_255, li_423, li_555, li_999, li_1000, li_1111, li_2968, li_9999, li_10631, li_12345, li_14092, li_21470, li_65536, li_99233, nz_eq, n1_eq, n1_lt, n1_gt, n1_le, n1_ge, n1_sub, n1_add, nm_add, nz_add, nz_add2, z1_ne, z1_lt, z1_le, nI_1, pk_sub, nI_ltI, nI_leI, nI_eq, ni_neg, ni_nneg, ni_pos0, ni_nle0, ni_m1, gI_eq, gI_ne, xI_sJ, xI_sR, xR_sI, xR_sJ, xJ_sI, xJ_sR, gJ_eq, gJ_ne, gR_eq, gR_ne, if_true, if_false, ite_true, ite_false, not_true_eq_false, not_false_eq_true, decide_true, and_self, true_and, and_true, false_and, and_false, or_true, true_or, or_false, false_or, reduceIte, ne_eq]
    rfl
  · rw [show nam d = false from decide_eq_false z]
    by_cases y : ctk T d < 23
    · simp (disch := omega) only [h.2.2.2.1, y, bnd_e, grd_t, bdI_e, bdV_e, bokA, bokB, ni_inb, ni_cl, nI_add, pk_mul, li_2, li_3, li_4, li_5, li_6, li_7, li_8, li_9, li_10, li_11, li_12, li_13, li_14, li_15, li_16, li_17, li_18, li_19, li_20, li_21, li_22, li_23, li_24, li_25, li_26, li_27, li_28, li_29, li_30, li_31, li_32, li_33, li_34, li_35, li_36, li_37, li_38, li_39, li_40, li_41, li_42, li_43, li_44, li_45, li_46, li_47, li_48, li_49, li_50, li_51, li_52, li_53, li_54, li_55, li_56, li_57, li_58, li_59, li_60, li_61, li_63, li_70, li_96, li_97, li_99, li_100, li_101, li_102, li_120, li_122, li_126, li_200, li_255, li_423, li_555, li_999, li_1000, li_1111, li_2968, li_9999, li_10631, li_12345, li_14092, li_21470, li_65536, li_99233, nz_eq, n1_eq, n1_lt, n1_gt, n1_le, n1_ge, n1_sub, n1_add, nm_add, nz_add, nz_add2, z1_ne, z1_lt, z1_le, nI_1, pk_sub, nI_ltI, nI_leI, nI_eq, ni_neg, ni_nneg, ni_pos0, ni_nle0, ni_m1, gI_eq, gI_ne, xI_sJ, xI_sR, xR_sI, xR_sJ, xJ_sI, xJ_sR, gJ_eq, gJ_ne, gR_eq, gR_ne, if_true, if_false, ite_true, ite_false, not_true_eq_false, not_false_eq_true, decide_true, and_self, true_and, and_true, false_and, and_false, or_true, true_or, or_false, false_or, reduceIte, ne_eq]
      rfl
    · have y2 : 29 < ctk T d := by
        refine Decidable.byContradiction (fun q => z ?_)
        have c1 := (ctk_w (T := T) ok (k := ctk T d) (by omega)).mp rfl
        exact ⟨c1.1, by omega⟩
      simp (disch := omega) only [h.2.2.2.1, y, y2, bnd_e, grd_t, bdI_e, bdV_e, bokA, bokB, ni_inb, ni_cl, nI_add, pk_mul, li_2, li_3, li_4, li_5, li_6, li_7, li_8, li_9, li_10, li_11, li_12, li_13, li_14, li_15, li_16, li_17, li_18, li_19, li_20, li_21, li_22, li_23, li_24, li_25, li_26, li_27, li_28, li_29, li_30, li_31, li_32, li_33, li_34, li_35, li_36, li_37, li_38, li_39, li_40, li_41, li_42, li_43, li_44, li_45, li_46, li_47, li_48, li_49, li_50, li_51, li_52, li_53, li_54, li_55, li_56, li_57, li_58, li_59, li_60, li_61, li_63, li_70, li_96, li_97, li_99, li_100, li_101, li_102, li_120, li_122, li_126, li_200, li_255, li_423, li_555, li_999, li_1000, li_1111, li_2968, li_9999, li_10631, li_12345, li_14092, li_21470, li_65536, li_99233, nz_eq, n1_eq, n1_lt, n1_gt, n1_le, n1_ge, n1_sub, n1_add, nm_add, nz_add, nz_add2, z1_ne, z1_lt, z1_le, nI_1, pk_sub, nI_ltI, nI_leI, nI_eq, ni_neg, ni_nneg, ni_pos0, ni_nle0, ni_m1, gI_eq, gI_ne, xI_sJ, xI_sR, xR_sI, xR_sJ, xJ_sI, xJ_sR, gJ_eq, gJ_ne, gR_eq, gR_ne, if_true, if_false, ite_true, ite_false, not_true_eq_false, not_false_eq_true, decide_true, and_self, true_and, and_true, false_and, and_false, or_true, true_or, or_false, false_or, reduceIte, ne_eq]
      rfl
theorem isKeptM {T : Nat → Nat} {n : Nat} {d : Tk} {m : Mm} (ok : TkOK T n d) (h : RdM T n d m) : f_X12_isKept m = some (bO (!nam d), m) := by
  have k4 := ok.2.2.1
  unfold f_X12_isKept f_X12_isKept_J263
  rw [h.2.2.2.1]
  by_cases z : tkK d = 1
  · rw [z, if_pos (show nI 1 = 1 from rfl)]
    have w0 := wordC ok h z (k := 0) (by decide) kq_0
    have w1 := wordC ok h z (k := 1) (by decide) kq_1
    have w2 := wordC ok h z (k := 2) (by decide) kq_2
    have w3 := wordC ok h z (k := 3) (by decide) kq_3
    have w4 := wordC ok h z (k := 4) (by decide) kq_4
    have w5 := wordC ok h z (k := 5) (by decide) kq_5
    have w6 := wordC ok h z (k := 6) (by decide) kq_6
    have w7 := wordC ok h z (k := 7) (by decide) kq_7
    have w8 := wordC ok h z (k := 8) (by decide) kq_8
    have w9 := wordC ok h z (k := 9) (by decide) kq_9
    have w10 := wordC ok h z (k := 10) (by decide) kq_10
    have w11 := wordC ok h z (k := 11) (by decide) kq_11
    have w12 := wordC ok h z (k := 12) (by decide) kq_12
    have w13 := wordC ok h z (k := 13) (by decide) kq_13
    have w14 := wordC ok h z (k := 14) (by decide) kq_14
    have w15 := wordC ok h z (k := 15) (by decide) kq_15
    have w16 := wordC ok h z (k := 16) (by decide) kq_16
    have w17 := wordC ok h z (k := 17) (by decide) kq_17
    have w18 := wordC ok h z (k := 18) (by decide) kq_18
    have w19 := wordC ok h z (k := 19) (by decide) kq_19
    have w20 := wordC ok h z (k := 20) (by decide) kq_20
    have w21 := wordC ok h z (k := 21) (by decide) kq_21
    have w22 := wordC ok h z (k := 22) (by decide) kq_22
    simp only [w0, w1, w2, w3, w4, w5, w6, w7, w8, w9, w10, w11, w12, w13, w14, w15, w16, w17, w18, w19, w20, w21, w22]
    by_cases y : 23 ≤ wid (tkR d)
    · rw [show nam d = true from decide_eq_true ⟨z, y⟩, if_neg (by omega), if_neg (by omega), if_neg (by omega), if_neg (by omega), if_neg (by omega), if_neg (by omega), if_neg (by omega), if_neg (by omega), if_neg (by omega), if_neg (by omega), if_neg (by omega), if_neg (by omega), if_neg (by omega), if_neg (by omega), if_neg (by omega), if_neg (by omega), if_neg (by omega), if_neg (by omega), if_neg (by omega), if_neg (by omega), if_neg (by omega), if_neg (by omega), if_pos (by omega)]
      rfl
    · rw [show nam d = false from decide_eq_false (fun q => y q.2)]
      refine kpt (fun n0 => kpt (fun n1 => kpt (fun n2 => kpt (fun n3 => kpt (fun n4 => kpt (fun n5 => kpt (fun n6 => kpt (fun n7 => kpt (fun n8 => kpt (fun n9 => kpt (fun n10 => kpt (fun n11 => kpt (fun n12 => kpt (fun n13 => kpt (fun n14 => kpt (fun n15 => kpt (fun n16 => kpt (fun n17 => kpt (fun n18 => kpt (fun n19 => kpt (fun n20 => kpt (fun n21 => ?_))))))))))))))))))))))
      rw [if_neg (by omega)]
  · rw [show nam d = false from decide_eq_false (fun q => z q.1), if_neg (show ¬ nI (tkK d) = 1 from fun q => z ((nI_eq (b := 1) (by omega) (by decide)).mp q))]
    rfl
def nIx (N : Nat → List Nat) (R : List Nat) : Nat → Nat → Nat
  | 0, j => j
  | r + 1, j => if N j = R then j else nIx N R r (j + 1)
theorem nIx_le (N : Nat → List Nat) (R : List Nat) : ∀ r j, nIx N R r j ≤ j + r
  | 0, j => Nat.le_refl _
  | r + 1, j => by
    have := nIx_le N R r (j + 1)
    unfold nIx
    split <;> omega
def ixI (k i : Nat) : Int32 := if i = k then -1 else nI i
theorem tnP {k s : Nat} {NT : Nat → List Nat} {R : List Nat} {m : Mm} (k5 : k ≤ 5) (hs : s = 4 ∨ s = 34) (h6 : gI m s 6 = nI k) (hN : ∀ t, t < k → okL (NT t) ∧ (NT t).length ≤ 8 ∧ gJ m (s + 1) t = nJ (encR 32 (NT t))) (oR : okL R) (R8 : R.length ≤ 8) : ∀ (r j N : Nat), j + r = k → r < N → lop (fun _ _ => none) (f_X7_tuneNamed_B2 s (nJ (encR 32 R))) N (nI j) m = some (ixI k (nIx NT R r j), m)
  | _, _, 0, _, hN => absurd hN (Nat.not_lt_zero _)
  | 0, j, N + 1, hj, _ => by
    show f_X7_tuneNamed_B2 s (nJ (encR 32 R)) _ (nI j) m = _
    unfold f_X7_tuneNamed_B2
    rw [h6, if_pos ((nI_leI (by omega) (by omega)).mpr (by omega))]
    show _ = some (if j = k then -1 else nI j, m)
    rw [if_pos (by omega)]
  | r + 1, j, N + 1, hj, hN' => by
    have ih := tnP (NT := NT) k5 hs h6 hN oR R8 r (j + 1) N (by omega) (by omega)
    have l1 : Lp.2.1 (s + 1) = 5 := by rcases hs with rfl | rfl <;> rfl
    obtain ⟨a1, a2, a3⟩ := hN j (by omega)
    have en := enc_eq (B := 32) (by decide) (by decide) a1 a2 oR R8
    show f_X7_tuneNamed_B2 s (nJ (encR 32 R)) (lop (fun _ _ => none) (f_X7_tuneNamed_B2 s (nJ (encR 32 R))) N) (nI j) m = some (ixI k (if NT j = R then j else nIx NT R r (j + 1)), m)
    generalize lop (fun _ _ => none) (f_X7_tuneNamed_B2 s (nJ (encR 32 R))) N = kk at ih ⊢
    unfold f_X7_tuneNamed_B2
    rw [h6, if_neg (fun q => absurd ((nI_leI (by omega) (by omega)).mp q) (by omega)), if_neg (show ¬ (5 : Int32) ≤ nI j from fun q => absurd ((nI_leI (a := 5) (by decide) (by omega)).mp q) (by omega)), l1, ni_inb (show j < 5 by omega) (by decide), grd_t, ni_cl _ (by omega), a3]
    by_cases z : NT j = R
    · rw [if_pos z, if_neg (fun q => q ((lgc _ _).mpr (en.mpr z)))]
      show _ = some (if j = k then -1 else nI j, m)
      rw [if_neg (by omega)]
    · rw [if_neg z, if_pos (fun q => z (en.mp ((lgc _ _).mp q))), bnd_e, show nI j + 1 = nI (j + 1) from nI_add j 1]
      exact ih
theorem tnM {k : Nat} {NT : Nat → List Nat} {R : List Nat} {m : Mm} (k5 : k ≤ 5) (h7 : gI m 2 7 = nI k) (hR : gJ m 0 7 = nJ (encR 27 R)) (hN : ∀ t, t < k → okL (NT t) ∧ (NT t).length ≤ 8 ∧ gJ m 3 (5 + t) = nJ (encR 27 (NT t))) (oR : okL R) (R8 : R.length ≤ 8) : ∀ (r j N : Nat), j + r = k → r < N → lop (fun _ _ => none) f_X12_tuneNamed_B2 N (nI (5 + j)) m = some (ixI k (nIx NT R r j), m)
  | _, _, 0, _, hN => absurd hN (Nat.not_lt_zero _)
  | 0, j, N + 1, hj, _ => by
    show f_X12_tuneNamed_B2 _ (nI (5 + j)) m = _
    unfold f_X12_tuneNamed_B2
    rw [h7, show (5 : Int32) + nI k = nI (5 + k) from nI_add 5 k, if_pos ((nI_leI (by omega) (by omega)).mpr (by omega))]
    show _ = some (if j = k then -1 else nI j, m)
    rw [if_pos (by omega)]
  | r + 1, j, N + 1, hj, hN' => by
    have ih := tnM (NT := NT) k5 h7 hR hN oR R8 r (j + 1) N (by omega) (by omega)
    obtain ⟨a1, a2, a3⟩ := hN j (by omega)
    have en := enc_eq (B := 27) (by decide) (by decide) a1 a2 oR R8
    show f_X12_tuneNamed_B2 (lop (fun _ _ => none) f_X12_tuneNamed_B2 N) (nI (5 + j)) m = some (ixI k (if NT j = R then j else nIx NT R r (j + 1)), m)
    unfold f_X12_tuneNamed_B2
    rw [h7, show (5 : Int32) + nI k = nI (5 + k) from nI_add 5 k, if_neg (fun q => absurd ((nI_leI (by omega) (by omega)).mp q) (by omega)), ni_inb (show 5 + j < 10 by omega) (by decide), grd_t, ni_cl _ (by omega), a3, hR]
    by_cases z : NT j = R
    · rw [if_pos z, if_neg (fun q => q ((lgc _ _).mpr (en.mpr z)))]
      show _ = some (if j = k then -1 else nI j, m)
      rw [if_neg (by omega), show nI (5 + j) - 5 = nI (5 + j - 5) from pk_sub (Nat.le_add_right 5 j), Nat.add_sub_cancel_left]
    · rw [if_neg z, if_pos (fun q => z (en.mp ((lgc _ _).mp q))), bnd_e, show nI (5 + j) + 1 = nI (5 + (j + 1)) from nI_add (5 + j) 1]
      exact ih
theorem pnM {k : Nat} {NP : Nat → List Nat} {R : List Nat} {m : Mm} (k7 : k ≤ 7) (h8 : gI m 2 8 = nI k) (hR : gJ m 0 7 = nJ (encR 27 R)) (hN : ∀ t, t < k → okL (NP t) ∧ (NP t).length ≤ 8 ∧ gJ m 4 (7 + t) = nJ (encR 27 (NP t))) (oR : okL R) (R8 : R.length ≤ 8) : ∀ (r j N : Nat), j + r = k → r < N → lop (fun _ _ => none) f_X12_passerNamed_B3 N (nI (7 + j)) m = some (ixI k (nIx NP R r j), m)
  | _, _, 0, _, hN => absurd hN (Nat.not_lt_zero _)
  | 0, j, N + 1, hj, _ => by
    show f_X12_passerNamed_B3 _ (nI (7 + j)) m = _
    unfold f_X12_passerNamed_B3
    rw [h8, show (7 : Int32) + nI k = nI (7 + k) from nI_add 7 k, if_pos ((nI_leI (by omega) (by omega)).mpr (by omega))]
    show _ = some (if j = k then -1 else nI j, m)
    rw [if_pos (by omega)]
  | r + 1, j, N + 1, hj, hN' => by
    have ih := pnM (NP := NP) k7 h8 hR hN oR R8 r (j + 1) N (by omega) (by omega)
    obtain ⟨a1, a2, a3⟩ := hN j (by omega)
    have en := enc_eq (B := 27) (by decide) (by decide) a1 a2 oR R8
    show f_X12_passerNamed_B3 (lop (fun _ _ => none) f_X12_passerNamed_B3 N) (nI (7 + j)) m = some (ixI k (if NP j = R then j else nIx NP R r (j + 1)), m)
    unfold f_X12_passerNamed_B3
    rw [h8, show (7 : Int32) + nI k = nI (7 + k) from nI_add 7 k, if_neg (fun q => absurd ((nI_leI (by omega) (by omega)).mp q) (by omega)), ni_inb (show 7 + j < 14 by omega) (by decide), grd_t, ni_cl _ (by omega), a3, hR]
    by_cases z : NP j = R
    · rw [if_pos z, if_neg (fun q => q ((lgc _ _).mpr (en.mpr z)))]
      show _ = some (if j = k then -1 else nI j, m)
      rw [if_neg (by omega), show nI (7 + j) - 7 = nI (7 + j - 7) from pk_sub (Nat.le_add_right 7 j), Nat.add_sub_cancel_left]
    · rw [if_neg z, if_pos (fun q => z (en.mp ((lgc _ _).mp q))), bnd_e, show nI (7 + j) + 1 = nI (7 + (j + 1)) from nI_add (7 + j) 1]
      exact ih
theorem hnP {k s : Nat} {NP : Nat → List Nat} {R : List Nat} {m : Mm} {w : Int32 × Mm} (k7 : k ≤ 7) (hs : s = 4 ∨ s = 34) (h7 : gI m s 7 = nI k) (hN : ∀ t, t < k → okL (NP t) ∧ (NP t).length ≤ 8 ∧ gJ m (s + 9 + (7 + 2 * t)) 2 = nJ (encR 32 (NP t))) (oR : okL R) (R8 : R.length ≤ 8) (hw : f_X7_hasName_J38 s (nJ (encR 32 R)) m = some w) : ∀ (r j N : Nat), j + r = k → r < N → lop (fun _ _ => none) (f_X7_hasName_B2 s (nJ (encR 32 R))) N (nI j) m = some (if nIx NP R r j = k then w else (1, m))
  | _, _, 0, _, hN => absurd hN (Nat.not_lt_zero _)
  | 0, j, N + 1, hj, _ => by
    show f_X7_hasName_B2 s (nJ (encR 32 R)) _ (nI j) m = some (if j = k then w else (1, m))
    unfold f_X7_hasName_B2
    rw [h7, if_pos ((nI_leI (by omega) (by omega)).mpr (by omega)), hw, if_pos (by omega)]
  | r + 1, j, N + 1, hj, hN' => by
    have ih := hnP (NP := NP) k7 hs h7 hN oR R8 hw r (j + 1) N (by omega) (by omega)
    have l1 : Lp.2.1 (s + 9) = 7 := by rcases hs with rfl | rfl <;> rfl
    obtain ⟨a1, a2, a3⟩ := hN j (by omega)
    have en := enc_eq (B := 32) (by decide) (by decide) a1 a2 oR R8
    show f_X7_hasName_B2 s (nJ (encR 32 R)) (lop (fun _ _ => none) (f_X7_hasName_B2 s (nJ (encR 32 R))) N) (nI j) m = some (if (if NP j = R then j else nIx NP R r (j + 1)) = k then w else (1, m))
    generalize lop (fun _ _ => none) (f_X7_hasName_B2 s (nJ (encR 32 R))) N = kk at ih ⊢
    unfold f_X7_hasName_B2
    rw [h7, if_neg (fun q => absurd ((nI_leI (by omega) (by omega)).mp q) (by omega)), if_neg (show ¬ (7 : Int32) ≤ nI j from fun q => absurd ((nI_leI (a := 7) (by decide) (by omega)).mp q) (by omega)), l1, ni_inb (show j < 7 by omega) (by decide), grd_t, ni_cl _ (by omega), bnd_e, a3]
    by_cases z : NP j = R
    · rw [if_pos z, if_neg (fun q => q ((lgc _ _).mpr (en.mpr z))), if_neg (by omega)]
      rfl
    · rw [if_neg z, if_pos (fun q => z (en.mp ((lgc _ _).mp q))), bnd_e, show nI j + 1 = nI (j + 1) from nI_add j 1]
      exact ih
theorem ixI_neg {k i : Nat} (hk : k ≤ 7) (hi : i ≤ k) : (ixI k i < 0 ↔ i = k) ∧ (ixI k i = -1 ↔ i = k) ∧ (0 ≤ ixI k i ↔ ¬ i = k) := by
  unfold ixI
  by_cases z : i = k
  · rw [if_pos z]
    exact ⟨⟨fun _ => z, fun _ => by decide⟩, ⟨fun _ => z, fun _ => rfl⟩, ⟨fun q => absurd q (by decide), fun q => absurd z q⟩⟩
  · rw [if_neg z]
    refine ⟨⟨fun q => ?_, fun q => absurd q z⟩, ⟨fun q => ?_, fun q => absurd q z⟩, ⟨fun _ => z, fun _ => nI_pos' (by omega)⟩⟩
    · rw [ni_neg _ (by omega)] at q
      exact q.elim
    · rw [ni_m1 _ (by omega)] at q
      exact q.elim
/-- a name that is none yet -/
theorem newB {T : Nat → Nat} {n s : Nat} {d : Tk} {mP mM : Mm} {C : Nat → Nat → Nat} {NT NP : Nat → List Nat} (hT : TpOK T n) (ok : TkOK T n d) (hP : RdP T n d mP) (hM : RdM T n d mM) (hA : DfA C NT NP s mP mM) : (∃ w, 1 ≤ w ∧ w ≤ 5 ∧ f_X5_mayBeNewName s mP = some (0, sI mP 3 2 (nI (w + 16 * tkb d))) ∧ f_X12_needsNew mM = some (0, sI mM 0 9 (nI (w + 16 * tkb d)))) ∨ (tkK d = 1 ∧ f_X5_mayBeNewName s mP = some (1, mP) ∧ ∃ nM, f_X12_needsNew mM = some (1, nM) ∧ RdM T n (tk T n (tke d)) nM ∧ gJ nM 0 40 = nJ (encR 27 (tkR d)) ∧ Kp WRM mM nM) := by
  obtain ⟨hC, hs, q1, q2, q3, n1, n2, n3, t1, t2⟩ := hA
  have c1 := hC.1
  have c2 := hC.2.1
  have ne1 : ¬ (1 : Int32) = 0 := by decide
  have iN := isNameP ok hP
  have iK := isKeptM ok hM
  by_cases z : tkK d = 1 ∧ 23 ≤ wid (tkR d)
  · rw [show nam d = true from decide_eq_true z, show bO true = 1 from rfl] at iN
    rw [show nam d = true from decide_eq_true z, show bO (!true) = 0 from rfl] at iK
    obtain ⟨oR, R8⟩ := ok.2.2.2.2.2.1 z.1
    have gP := hP.2.2.2.2.1 z.1
    have gM := hM.2.2.2.2.1 z.1
    have eT : f_X7_tuneNamed s (nJ (encR 32 (tkR d))) mP = some (ixI (C 0 0) (nIx NT (tkR d) (C 0 0) 0), mP) := tnP (NT := NT) c1 hs (q1 0 (by decide)) (fun t ht => ⟨(t1 t ht).1, (t1 t ht).2.1, (t1 t ht).2.2.1⟩) oR R8 (C 0 0) 0 4000 (by omega) (by omega)
    have eTM : f_X12_tuneNamed mM = some (ixI (C 0 0) (nIx NT (tkR d) (C 0 0) 0), mM) := tnM (NT := NT) c1 (n1 0 (by decide)) gM (fun t ht => ⟨(t1 t ht).1, (t1 t ht).2.1, (t1 t ht).2.2.2⟩) oR R8 (C 0 0) 0 4000 (by omega) (by omega)
    have ePM : f_X12_passerNamed mM = some (ixI (C 0 1) (nIx NP (tkR d) (C 0 1) 0), mM) := pnM (NP := NP) c2 (n1 1 (by decide)) gM (fun t ht => ⟨(t2 t ht).1, (t2 t ht).2.1, (t2 t ht).2.2.2⟩) oR R8 (C 0 1) 0 4000 (by omega) (by omega)
    have lT := nIx_le NT (tkR d) (C 0 0) 0
    have lQ := nIx_le NP (tkR d) (C 0 1) 0
    have iT := ixI_neg (k := C 0 0) (i := nIx NT (tkR d) (C 0 0) 0) (by omega) (by omega)
    have iQ := ixI_neg (k := C 0 1) (i := nIx NP (tkR d) (C 0 1) 0) (by omega) (by omega)
    have e3 : f_X5_wrong 3 mP = some (0, sI mP 3 2 (nI (3 + 16 * tkb d))) := wrongE hP 3
    have e3m : f_X12_fails 3 mM = some (0, sI mM 0 9 (nI (3 + 16 * tkb d))) := failsE hM 3
    have cls : ∀ y : Int32, f_X7_hasName s (nJ (encR 32 (tkR d))) mP = some (y, mP) → f_X5_mayBeNewName s mP = if y = 0 then some (1, mP) else some (0, sI mP 3 2 (nI (3 + 16 * tkb d))) := by
      intro y hy
      unfold f_X5_mayBeNewName
      rw [iN, bdI_e, if_pos ne1, gP, hy, bdI_e, e3, bdI_e]
      rfl
    by_cases y : nIx NT (tkR d) (C 0 0) 0 = C 0 0
    · have e38 : f_X7_hasName_J38 s (nJ (encR 32 (tkR d))) mP = some (0, mP) := by
        unfold f_X7_hasName_J38
        rw [eT, bdI_e, if_pos (iT.2.1.mpr y)]
        rfl
      have eH : f_X7_hasName s (nJ (encR 32 (tkR d))) mP = some (if nIx NP (tkR d) (C 0 1) 0 = C 0 1 then (0, mP) else (1, mP)) := hnP (NP := NP) c2 hs (q1 1 (by decide)) (fun t ht => ⟨(t2 t ht).1, (t2 t ht).2.1, (t2 t ht).2.2.1⟩) oR R8 e38 (C 0 1) 0 4000 (by omega) (by omega)
      by_cases w : nIx NP (tkR d) (C 0 1) 0 = C 0 1
      · right
        rw [if_pos w] at eH
        have hM1 : RdM T n d (sJ mM 0 40 (nJ (encR 27 (tkR d)))) := hM.kp (fun a k h => rfl) (gJ_ne _ _ _ _ _ _ (by omega))
        obtain ⟨nM, eM, h3, h4⟩ := adv_M hT ok hM1
        refine ⟨z.1, by rw [cls 0 eH, if_pos rfl], nM, ?_, h3, (h4.2.1 _ _ (by omega)).trans (gJ_eq _ _ _ _ _ _ rfl rfl), ((Kp.refl mM).sJ _ (by unfold WRM; omega)).trans (h4.mono (fun a k q => by unfold WRM; omega))⟩
        unfold f_X12_needsNew
        rw [iK, bdI_e, if_pos rfl, eTM, bdI_e, if_neg (fun q => iT.2.2.mp q y), ePM, bdI_e, if_pos (iQ.1.mpr w), bnd_e, gM, eM, bdV_e]
        rfl
      · left
        rw [if_neg w] at eH
        refine ⟨3, by decide, by decide, by rw [cls 1 eH, if_neg ne1], ?_⟩
        unfold f_X12_needsNew f_X12_needsNew_J27
        rw [iK, bdI_e, if_pos rfl, eTM, bdI_e, if_neg (fun q => iT.2.2.mp q y), ePM, bdI_e, if_neg (fun q => w (iQ.1.mp q)), e3m, bdI_e]
        rfl
    · have e38 : f_X7_hasName_J38 s (nJ (encR 32 (tkR d))) mP = some (1, mP) := by
        unfold f_X7_hasName_J38
        rw [eT, bdI_e, if_neg (fun q => y (iT.2.1.mp q))]
        rfl
      have eH : f_X7_hasName s (nJ (encR 32 (tkR d))) mP = some (if nIx NP (tkR d) (C 0 1) 0 = C 0 1 then (1, mP) else (1, mP)) := hnP (NP := NP) c2 hs (q1 1 (by decide)) (fun t ht => ⟨(t2 t ht).1, (t2 t ht).2.1, (t2 t ht).2.2.1⟩) oR R8 e38 (C 0 1) 0 4000 (by omega) (by omega)
      rw [ite_self] at eH
      left
      refine ⟨3, by decide, by decide, by rw [cls 1 eH, if_neg ne1], ?_⟩
      unfold f_X12_needsNew f_X12_needsNew_J27
      rw [iK, bdI_e, if_pos rfl, eTM, bdI_e, if_pos (iT.2.2.mpr y), e3m, bdI_e]
      rfl
  · rw [show nam d = false from decide_eq_false z, show bO false = 0 from rfl] at iN
    rw [show nam d = false from decide_eq_false z, show bO (!false) = 1 from rfl] at iK
    have e1 : f_X5_wrong 1 mP = some (0, sI mP 3 2 (nI (1 + 16 * tkb d))) := wrongE hP 1
    have e2 : f_X12_fails 1 mM = some (0, sI mM 0 9 (nI (1 + 16 * tkb d))) := failsE hM 1
    refine Or.inl ⟨1, by decide, by decide, ?_, ?_⟩
    · unfold f_X5_mayBeNewName
      rw [iN, bdI_e, if_neg (fun q => q rfl), e1, bdI_e]
      rfl
    · unfold f_X12_needsNew
      rw [iK, bdI_e, if_neg ne1, e2, bdI_e]
      rfl
